section
theorem tg_112 {M M1 : mm_M} (F : FR (fun a i : Nat => a = 1 ∧ 5 ≤ i ∨ 3 ≤ a ∧ a ≤ 5) M M1) : ∀ a i : Nat, PI_r a → M1.2.1 a i = M.2.1 a i := fun a i z => F_n F (show ¬ (a = 1 ∧ 5 ≤ i ∨ 3 ≤ a ∧ a ≤ 5) by omega) rfl
theorem tg_113 {M M1 : mm_M} (F : FR (fun a i : Nat => a = 1 ∧ 5 ≤ i ∨ 3 ≤ a ∧ a ≤ 5 ∨ a = 57 ∨ a = 66) M M1) : ∀ a i : Nat, PI_r a → M1.2.1 a i = M.2.1 a i := fun a i z => F_n F (show ¬ (a = 1 ∧ 5 ≤ i ∨ 3 ≤ a ∧ a ≤ 5 ∨ a = 57 ∨ a = 66) by omega) rfl
theorem tg_114 : ∀ a i : Nat, (a = 1 ∧ 5 ≤ i ∨ 3 ≤ a ∧ a ≤ 5) → (a = 1 ∧ 5 ≤ i ∨ 3 ≤ a ∧ a ≤ 5 ∨ 50 ≤ a ∧ a ≤ 57 ∨ 59 ≤ a ∧ a ≤ 66) := fun a i z => by omega
theorem tg_115 : ∀ a i : Nat, (a = 1 ∧ 5 ≤ i ∨ 3 ≤ a ∧ a ≤ 5 ∨ 50 ≤ a ∧ a ≤ 57 ∨ 59 ≤ a ∧ a ≤ 66) → (a = 1 ∧ 5 ≤ i ∨ 3 ≤ a ∧ a ≤ 5 ∨ 50 ≤ a ∧ a ≤ 57 ∨ 59 ≤ a ∧ a ≤ 66) := fun a i z => by omega
theorem tg_116 : ∀ a i : Nat, (a = 1 ∧ 5 ≤ i ∨ 3 ≤ a ∧ a ≤ 5) → (a = 1 ∧ 5 ≤ i ∨ 3 ≤ a ∧ a ≤ 5 ∨ 49 ≤ a ∧ a ≤ 66) := fun a i z => by omega
theorem tg_117 : ∀ a i : Nat, (a < 0) → (a = 1 ∧ 5 ≤ i ∨ 3 ≤ a ∧ a ≤ 5 ∨ 49 ≤ a ∧ a ≤ 66) := fun a i z => by omega
theorem tg_118 : ∀ a i : Nat, (a = 1 ∧ 5 ≤ i ∨ 3 ≤ a ∧ a ≤ 5 ∨ 50 ≤ a ∧ a ≤ 57 ∨ 59 ≤ a ∧ a ≤ 66) → (a = 1 ∧ 5 ≤ i ∨ 3 ≤ a ∧ a ≤ 5 ∨ 49 ≤ a ∧ a ≤ 66) := fun a i z => by omega
theorem tg_119 : ∀ a i : Nat, (a = 1 ∧ 5 ≤ i ∨ 3 ≤ a ∧ a ≤ 5) → (a = 1 ∧ 5 ≤ i ∨ 3 ≤ a ∧ a ≤ 5 ∨ a = 57 ∨ a = 66) := fun a i z => by omega
theorem tg_120 : ∀ a i : Nat, (a = 1 ∧ 5 ≤ i ∨ 3 ≤ a ∧ a ≤ 5 ∨ a = 57 ∨ a = 66) → (a = 1 ∧ 5 ≤ i ∨ 3 ≤ a ∧ a ≤ 5 ∨ 49 ≤ a ∧ a ≤ 66) := fun a i z => by omega
theorem tg_121 : ∀ a i : Nat, (a = 1 ∧ 5 ≤ i ∨ 3 ≤ a ∧ a ≤ 5 ∨ 49 ≤ a ∧ a ≤ 66) → (a = 1 ∧ 5 ≤ i ∨ 3 ≤ a ∧ a ≤ 5 ∨ 49 ≤ a ∧ a ≤ 66) := fun a i z => by omega
set_option maxRecDepth 4000 in
set_option maxHeartbeats 0 in
theorem C_247 {X : mm_X} {d : Nat} {M : mm_M} {Q : Option Value → mm_M → Prop} {x : Int32} (hX : g_X X) (hd : 0 ≤ d) (hG : g_G M) (h : ∀ (r : Int32) (M1 : mm_M), g_G M1 → FR md_0 M M1 → Q (some (.int r)) M1) : mm_T X d 246 0 [.int x] [] M Q := by
  have F0 : FR md_0 M M := FR.rf
  refine to_in (pc := 0) rw_247_0 rfl (to_in (pc := 1) rw_247_1 rfl (to_c (pc := 2) rw_247_2 (x := (1 : Int32)) rfl rfl (s_any (pc := 3) rw_247_3 (fun _ _ => rfl) (fun v1 => to_c (pc := 4) rw_247_4 (x := (1431655765 : Int32)) rfl rfl (s_and (pc := 7) rw_247_7 (B := 1431655765) rfl (by omega) (fun v2 e3 _ _ => s_any (pc := 8) rw_247_8 (fun _ _ => rfl) (fun v4 => to_isn (pc := 9) rw_247_9 (ls2 := [.int v4]) rfl rfl (to_in (pc := 10) rw_247_10 rfl (to_c (pc := 11) rw_247_11 (x := (858993459 : Int32)) rfl rfl (s_and (pc := 14) rw_247_14 (B := 858993459) rfl (by omega) (fun v5 e6 _ _ => to_in (pc := 15) rw_247_15 rfl ?_)))))))))))
  refine to_c (pc := 16) rw_247_16 (x := (2 : Int32)) rfl rfl (s_any (pc := 17) rw_247_17 (fun _ _ => rfl) (fun v7 => to_c (pc := 18) rw_247_18 (x := (858993459 : Int32)) rfl rfl (s_and (pc := 21) rw_247_21 (B := 858993459) rfl (by omega) (fun v8 e9 _ _ => s_add (pc := 22) rw_247_22 (A := v5.toInt) (B := v8.toInt) rfl rfl (by omega) (fun v10 e11 => to_isn (pc := 23) rw_247_23 (ls2 := [.int v10]) rfl rfl (to_in (pc := 24) rw_247_24 rfl (to_in (pc := 25) rw_247_25 rfl (to_c (pc := 26) rw_247_26 (x := (4 : Int32)) rfl rfl (s_any (pc := 27) rw_247_27 (fun _ _ => rfl) (fun v12 => s_any (pc := 28) rw_247_28 (fun _ _ => rfl) (fun v13 => to_c (pc := 29) rw_247_29 (x := (252645135 : Int32)) rfl rfl ?_)))))))))))
  refine s_and (pc := 32) rw_247_32 (B := 252645135) rfl (by omega) (fun v14 e15 _ _ => to_isn (pc := 33) rw_247_33 (ls2 := [.int v14]) rfl rfl (to_in (pc := 34) rw_247_34 rfl (to_in (pc := 35) rw_247_35 rfl (to_c (pc := 36) rw_247_36 (x := (8 : Int32)) rfl rfl (s_any (pc := 38) rw_247_38 (fun _ _ => rfl) (fun v16 => s_any (pc := 39) rw_247_39 (fun _ _ => rfl) (fun v17 => to_isn (pc := 40) rw_247_40 (ls2 := [.int v17]) rfl rfl (to_in (pc := 41) rw_247_41 rfl (to_in (pc := 42) rw_247_42 rfl (to_c (pc := 43) rw_247_43 (x := (16 : Int32)) rfl rfl (s_any (pc := 45) rw_247_45 (fun _ _ => rfl) (fun v18 => ?_))))))))))))
  refine s_any (pc := 46) rw_247_46 (fun _ _ => rfl) (fun v19 => to_isn (pc := 47) rw_247_47 (ls2 := [.int v19]) rfl rfl (to_in (pc := 48) rw_247_48 rfl (to_c (pc := 49) rw_247_49 (x := (63 : Int32)) rfl rfl (s_and (pc := 51) rw_247_51 (B := 63) rfl (by omega) (fun v20 e21 _ _ => to_r0 (pc := 52) rw_247_52 ?_)))))
  exact h v20 M hG F0 
set_option maxRecDepth 4000 in
set_option maxHeartbeats 0 in
theorem C_248 {X : mm_X} {d : Nat} {M : mm_M} {Q : Option Value → mm_M → Prop} {x : Int64} (hX : g_X X) (hd : 0 ≤ d) (hG : g_G M) (h : ∀ (r : Int32) (M1 : mm_M), g_G M1 → FR md_0 M M1 → Q (some (.int r)) M1) : mm_T X d 247 0 [.long x, .null] [] M Q := by
  have F0 : FR md_0 M M := FR.rf
  refine to_ln (pc := 0) rw_248_0 rfl rfl rfl (to_ln (pc := 1) rw_248_1 rfl rfl rfl (to_c (pc := 2) rw_248_2 (x := (1 : Int32)) rfl rfl (s_anyS (pc := 3) rw_248_3 (fun _ _ => rfl) (fun l1 => s_cl (pc := 4) rw_248_4 rfl (fun l2 => s_anyL (pc := 7) rw_248_7 (fun _ _ => rfl) (fun l3 => s_anyL (pc := 8) rw_248_8 (fun _ _ => rfl) (fun l4 => to_lsn (pc := 9) rw_248_9 (ls2 := [.long l4, .null]) rfl rfl (to_ln (pc := 10) rw_248_10 rfl rfl rfl (s_cl (pc := 11) rw_248_11 rfl (fun l5 => s_anyL (pc := 14) rw_248_14 (fun _ _ => rfl) (fun l6 => to_ln (pc := 15) rw_248_15 rfl rfl rfl ?_)))))))))))
  refine to_c (pc := 16) rw_248_16 (x := (2 : Int32)) rfl rfl (s_anyS (pc := 17) rw_248_17 (fun _ _ => rfl) (fun l7 => s_cl (pc := 18) rw_248_18 rfl (fun l8 => s_anyL (pc := 21) rw_248_21 (fun _ _ => rfl) (fun l9 => s_anyL (pc := 22) rw_248_22 (fun _ _ => rfl) (fun l10 => to_lsn (pc := 23) rw_248_23 (ls2 := [.long l10, .null]) rfl rfl (to_ln (pc := 24) rw_248_24 rfl rfl rfl (to_ln (pc := 25) rw_248_25 rfl rfl rfl (to_c (pc := 26) rw_248_26 (x := (4 : Int32)) rfl rfl (s_anyS (pc := 27) rw_248_27 (fun _ _ => rfl) (fun l11 => s_anyL (pc := 28) rw_248_28 (fun _ _ => rfl) (fun l12 => s_cl (pc := 29) rw_248_29 rfl (fun l13 => ?_))))))))))))
  refine s_anyL (pc := 32) rw_248_32 (fun _ _ => rfl) (fun l14 => to_lsn (pc := 33) rw_248_33 (ls2 := [.long l14, .null]) rfl rfl (to_ln (pc := 34) rw_248_34 rfl rfl rfl (to_ln (pc := 35) rw_248_35 rfl rfl rfl (to_c (pc := 36) rw_248_36 (x := (8 : Int32)) rfl rfl (s_anyS (pc := 38) rw_248_38 (fun _ _ => rfl) (fun l15 => s_anyL (pc := 39) rw_248_39 (fun _ _ => rfl) (fun l16 => to_lsn (pc := 40) rw_248_40 (ls2 := [.long l16, .null]) rfl rfl (to_ln (pc := 41) rw_248_41 rfl rfl rfl (to_ln (pc := 42) rw_248_42 rfl rfl rfl (to_c (pc := 43) rw_248_43 (x := (16 : Int32)) rfl rfl (s_anyS (pc := 45) rw_248_45 (fun _ _ => rfl) (fun l17 => ?_))))))))))))
  refine s_anyL (pc := 46) rw_248_46 (fun _ _ => rfl) (fun l18 => to_lsn (pc := 47) rw_248_47 (ls2 := [.long l18, .null]) rfl rfl (to_ln (pc := 48) rw_248_48 rfl rfl rfl (to_ln (pc := 49) rw_248_49 rfl rfl rfl (to_c (pc := 50) rw_248_50 (x := (32 : Int32)) rfl rfl (s_anyS (pc := 52) rw_248_52 (fun _ _ => rfl) (fun l19 => s_anyL (pc := 53) rw_248_53 (fun _ _ => rfl) (fun l20 => to_lsn (pc := 54) rw_248_54 (ls2 := [.long l20, .null]) rfl rfl (to_ln (pc := 55) rw_248_55 rfl rfl rfl (s_l2i (pc := 56) rw_248_56 (fun v21 => to_c (pc := 57) rw_248_57 (x := (127 : Int32)) rfl rfl (s_and (pc := 59) rw_248_59 (B := 127) rfl (by omega) (fun v22 e23 _ _ => ?_))))))))))))
  refine to_r0 (pc := 60) rw_248_60 ?_
  exact h v22 M hG F0 
set_option maxRecDepth 4000 in
set_option maxHeartbeats 0 in
theorem T_54f_0 {X : mm_X} {d : Nat} {M : mm_M} {Q : Option Value → mm_M → Prop} {f : Nat} {s : Int32} {x : Int32} (hX : g_X X) (hd : 0 ≤ d) (hf : f = 50 ∨ f = 59) (h : ∀ (r : Int32) (M1 : mm_M), g_G M1 → FR md_0 M M1 → (-1 ≤ r.toInt) → (r.toInt ≤ 7) → Q (some (.int r)) M1) : ∀ nn9 : Nat, (∀ (N : mm_M) (x3 : Int32), g_G N → FR md_0 M N → (0 ≤ x3.toInt) → (x3.toInt ≤ 8) → 8 - x3.toInt < (nn9 : Int) → mm_T X d 54 2 [.ref f, .int s, .int x, .int x3] [] N Q) := by
  intro nn9
  induction nn9 with
  | zero =>
    intro N x3 hG F0 g1 g2 hm
    exfalso; omega
  | succ nn9 ih =>
    intro N x3 hG F0 g1 g2 hm
    refine to_in (pc := 2) rw_54_2 rfl (to_in (pc := 3) rw_54_3 rfl (b_cge (pc := 4) rw_54_4 (A := x3.toInt) (B := s.toInt) rfl rfl (fun h1 => ?_) (fun h1 => ?_)))
    · refine to_c (pc := 28) rw_54_28 (x := (-1 : Int32)) rfl rfl (to_r0 (pc := 29) rw_54_29 ?_)
      have k_2 : (-1 : Int32).toInt = -1 := rfl
      exact h (-1 : Int32) N hG F0 (by omega) (by omega)
    · refine to_in (pc := 7) rw_54_7 rfl (to_an (pc := 8) rw_54_8 rfl (s_len (pc := 9) rw_54_9 hG (by rcases hf with rfl | rfl <;> rfl) (by rcases hf with rfl | rfl <;> rfl) (n := 8) (by rcases hf with rfl | rfl <;> rfl) (v := (8 : Int32)) rfl (b_cge (pc := 10) rw_54_10 (A := x3.toInt) (B := 8) rfl rfl (fun h3 => ?_) (fun h3 => ?_))))
      · refine to_c (pc := 28) rw_54_28 (x := (-1 : Int32)) rfl rfl (to_r0 (pc := 29) rw_54_29 ?_)
        have k_4 : (-1 : Int32).toInt = -1 := rfl
        exact h (-1 : Int32) N hG F0 (by omega) (by omega)
      · refine to_an (pc := 13) rw_54_13 rfl (to_in (pc := 14) rw_54_14 rfl (s_ial (pc := 15) rw_54_15 hG (by rcases hf with rfl | rfl <;> rfl) (n := 8) (by rcases hf with rfl | rfl <;> rfl) (by rcases hf with rfl | rfl <;> rfl) (A := x3.toInt) rfl (by omega) (by omega) (lo := -2147483648) (hi := 2147483647) (by rcases hf with rfl | rfl <;> rfl) (by rcases hf with rfl | rfl <;> rfl) (fun v5 w_6 _ _ => to_in (pc := 16) rw_54_16 rfl (b_cne (pc := 17) rw_54_17 (A := v5.toInt) (B := x.toInt) rfl rfl (fun h7 => ?_) (fun h7 => ?_)))))
        · refine s_inc (pc := 22) rw_54_22 (ls2 := fun v => [.ref f, .int s, .int x, .int v]) rfl rfl (fun _ => rfl) (A := x3.toInt) (B := 1) rfl rfl (by omega) (fun v8 e9 => to_go (pc := 25) rw_54_25 ?_)
          exact ih N v8 hG F0 (by omega) (by omega) (by omega)
        · refine to_in (pc := 20) rw_54_20 rfl (to_r0 (pc := 21) rw_54_21 ?_)
          exact h x3 N hG F0 (by omega) (by omega)
set_option maxRecDepth 4000 in
set_option maxHeartbeats 0 in
theorem C_54f {X : mm_X} {d : Nat} {M : mm_M} {Q : Option Value → mm_M → Prop} {f : Nat} {s : Int32} {x : Int32} (hX : g_X X) (hd : 0 ≤ d) (hG : g_G M) (hf : f = 50 ∨ f = 59) (h : ∀ (r : Int32) (M1 : mm_M), g_G M1 → FR md_0 M M1 → (-1 ≤ r.toInt) → (r.toInt ≤ 7) → Q (some (.int r)) M1) : mm_T X d 54 0 [.ref f, .int s, .int x, .null] [] M Q := by
  have F0 : FR md_0 M M := FR.rf
  refine to_c (pc := 0) rw_54_0 (x := (0 : Int32)) rfl rfl (to_isn (pc := 1) rw_54_1 (ls2 := [.ref f, .int s, .int x, .int (0 : Int32)]) rfl rfl ?_)
  have k_10 : (0 : Int32).toInt = 0 := rfl
  exact (T_54f_0 (f := f) (s := s) (x := x) hX hd hf h ((8 - (0 : Int32).toInt).toNat + 1)) M (0 : Int32) hG F0 (by omega) (by omega) (by omega)
set_option maxRecDepth 4000 in
set_option maxHeartbeats 0 in
theorem T_54g_0 {X : mm_X} {d : Nat} {M : mm_M} {Q : Option Value → mm_M → Prop} {g : Nat} {s : Int32} {x : Int32} (hX : g_X X) (hd : 0 ≤ d) (hg : g = 55 ∨ g = 64) (h : ∀ (r : Int32) (M1 : mm_M), g_G M1 → FR md_0 M M1 → (-1 ≤ r.toInt) → (r.toInt ≤ 11) → Q (some (.int r)) M1) : ∀ nn9 : Nat, (∀ (N : mm_M) (x3 : Int32), g_G N → FR md_0 M N → (0 ≤ x3.toInt) → (x3.toInt ≤ 12) → 12 - x3.toInt < (nn9 : Int) → mm_T X d 54 2 [.ref g, .int s, .int x, .int x3] [] N Q) := by
  intro nn9
  induction nn9 with
  | zero =>
    intro N x3 hG F0 g1 g2 hm
    exfalso; omega
  | succ nn9 ih =>
    intro N x3 hG F0 g1 g2 hm
    refine to_in (pc := 2) rw_54_2 rfl (to_in (pc := 3) rw_54_3 rfl (b_cge (pc := 4) rw_54_4 (A := x3.toInt) (B := s.toInt) rfl rfl (fun h1 => ?_) (fun h1 => ?_)))
    · refine to_c (pc := 28) rw_54_28 (x := (-1 : Int32)) rfl rfl (to_r0 (pc := 29) rw_54_29 ?_)
      have k_2 : (-1 : Int32).toInt = -1 := rfl
      exact h (-1 : Int32) N hG F0 (by omega) (by omega)
    · refine to_in (pc := 7) rw_54_7 rfl (to_an (pc := 8) rw_54_8 rfl (s_len (pc := 9) rw_54_9 hG (by rcases hg with rfl | rfl <;> rfl) (by rcases hg with rfl | rfl <;> rfl) (n := 12) (by rcases hg with rfl | rfl <;> rfl) (v := (12 : Int32)) rfl (b_cge (pc := 10) rw_54_10 (A := x3.toInt) (B := 12) rfl rfl (fun h3 => ?_) (fun h3 => ?_))))
      · refine to_c (pc := 28) rw_54_28 (x := (-1 : Int32)) rfl rfl (to_r0 (pc := 29) rw_54_29 ?_)
        have k_4 : (-1 : Int32).toInt = -1 := rfl
        exact h (-1 : Int32) N hG F0 (by omega) (by omega)
      · refine to_an (pc := 13) rw_54_13 rfl (to_in (pc := 14) rw_54_14 rfl (s_ial (pc := 15) rw_54_15 hG (by rcases hg with rfl | rfl <;> rfl) (n := 12) (by rcases hg with rfl | rfl <;> rfl) (by rcases hg with rfl | rfl <;> rfl) (A := x3.toInt) rfl (by omega) (by omega) (lo := -2147483648) (hi := 2147483647) (by rcases hg with rfl | rfl <;> rfl) (by rcases hg with rfl | rfl <;> rfl) (fun v5 w_6 _ _ => to_in (pc := 16) rw_54_16 rfl (b_cne (pc := 17) rw_54_17 (A := v5.toInt) (B := x.toInt) rfl rfl (fun h7 => ?_) (fun h7 => ?_)))))
        · refine s_inc (pc := 22) rw_54_22 (ls2 := fun v => [.ref g, .int s, .int x, .int v]) rfl rfl (fun _ => rfl) (A := x3.toInt) (B := 1) rfl rfl (by omega) (fun v8 e9 => to_go (pc := 25) rw_54_25 ?_)
          exact ih N v8 hG F0 (by omega) (by omega) (by omega)
        · refine to_in (pc := 20) rw_54_20 rfl (to_r0 (pc := 21) rw_54_21 ?_)
          exact h x3 N hG F0 (by omega) (by omega)
set_option maxRecDepth 4000 in
set_option maxHeartbeats 0 in
theorem C_54g {X : mm_X} {d : Nat} {M : mm_M} {Q : Option Value → mm_M → Prop} {g : Nat} {s : Int32} {x : Int32} (hX : g_X X) (hd : 0 ≤ d) (hG : g_G M) (hg : g = 55 ∨ g = 64) (h : ∀ (r : Int32) (M1 : mm_M), g_G M1 → FR md_0 M M1 → (-1 ≤ r.toInt) → (r.toInt ≤ 11) → Q (some (.int r)) M1) : mm_T X d 54 0 [.ref g, .int s, .int x, .null] [] M Q := by
  have F0 : FR md_0 M M := FR.rf
  refine to_c (pc := 0) rw_54_0 (x := (0 : Int32)) rfl rfl (to_isn (pc := 1) rw_54_1 (ls2 := [.ref g, .int s, .int x, .int (0 : Int32)]) rfl rfl ?_)
  have k_10 : (0 : Int32).toInt = 0 := rfl
  exact (T_54g_0 (g := g) (s := s) (x := x) hX hd hg h ((12 - (0 : Int32).toInt).toNat + 1)) M (0 : Int32) hG F0 (by omega) (by omega) (by omega)
set_option maxRecDepth 4000 in
set_option maxHeartbeats 0 in
theorem C_34 {X : mm_X} {d : Nat} {M : mm_M} {Q : Option Value → mm_M → Prop} {p : Nat} (hX : g_X X) (hd : 2 ≤ d) (hG : g_G M) (hp : p = 49 ∨ p = 58) (h : ∀ (r : Int32) (M1 : mm_M), g_G M1 → FR md_t M M1 → (0 ≤ r.toInt) → (r.toInt ≤ 1) → Q (some (.int r)) M1) : mm_T X d 34 0 [.ref p, .ref 1] [] M Q := by
  have F0 : FR md_t M M := FR.rf
  refine to_an (pc := 0) rw_34_0 rfl (tt_gI (pc := 1) rw_34_1 (g_o hG rfl) (v := (M.2.1 1 7)) rfl (to_c (pc := 4) rw_34_4 (x := (3 : Int32)) rfl rfl (b_ceq (pc := 5) rw_34_5 (A := (M.2.1 1 7).toInt) (B := 3) rfl rfl (fun h1 => ?_) (fun h1 => ?_))))
  · refine to_an (pc := 14) rw_34_14 rfl (to_an (pc := 15) rw_34_15 rfl (tt_gI (pc := 16) rw_34_16 (g_o hG rfl) (v := (M.2.1 1 8)) rfl (s_v (pc := 19) rw_34_19 (dp0 hd (by decide)) (ls0 := [.ref p, .int (M.2.1 1 8)]) rfl (Nat.le_of_ble_eq_true rfl) (Nat.le_of_ble_eq_true rfl) rfl (to_rc rfl rfl rfl (g_o hG (by rcases hp with rfl | rfl <;> rfl))) rfl (to_an (pc := 0) rw_52_0 rfl (s_gR (pc := 1) rw_52_1 hG (by rcases hp with rfl | rfl <;> rfl) (v := (p + 1)) (by rcases hp with rfl | rfl <;> rfl) (to_an (pc := 4) rw_52_4 rfl ?_))))))
    have b_2 := g_b hG (a := p) (i := 2) (lo := 0) (hi := 8) (by rcases hp with rfl | rfl <;> rfl) (by rcases hp with rfl | rfl <;> rfl)
    refine tt_gI (pc := 5) rw_52_5 (g_o hG (by rcases hp with rfl | rfl <;> rfl)) (v := (M.2.1 p 2)) rfl (to_in (pc := 8) rw_52_8 rfl (s_s (pc := 9) rw_52_9 (dp1 hd (by decide)) (ls0 := [.ref (p + 1), .int (M.2.1 p 2), .int (M.2.1 1 8), .null]) rfl (Nat.le_of_ble_eq_true rfl) (Nat.le_of_ble_eq_true rfl) rfl (to_rcs rfl rfl) rfl (C_54f hX (dp2 hd (by decide)) hG (by omega) (f := (p + 1)) (s := (M.2.1 p 2)) (x := (M.2.1 1 8)) (fun r3 M8 hG5 F4 p_6 p_7 => ?_))))
    have F9 := FR.c F0 F4 tg_109
    refine to_r0 (pc := 12) rw_52_12 (to_c (pc := 22) rw_34_22 (x := (-1 : Int32)) rfl rfl (b_cne (pc := 23) rw_34_23 (A := r3.toInt) (B := -1) rfl rfl (fun h10 => ?_) (fun h10 => ?_)))
    · refine to_an (pc := 38) rw_34_38 rfl (to_c (pc := 39) rw_34_39 (x := (3 : Int32)) rfl rfl (s_v (pc := 40) rw_34_40 (dp0 hd (by decide)) (ls0 := [.ref 1, .int (3 : Int32)]) rfl (Nat.le_of_ble_eq_true rfl) (Nat.le_of_ble_eq_true rfl) rfl (to_rc rfl rfl rfl (g_o hG5 rfl)) rfl (to_an (pc := 0) rw_84_0 rfl (to_in (pc := 1) rw_84_1 rfl (s_pI (pc := 2) rw_84_2 hG5 rfl (fun M12 W11 => ?_))))))
      have hG13 := g_wf hG5 W11 rfl rfl (by decide)
      have F14 := FR.w F9 W11 (show 1 = 1 ∧ 5 ≤ 10 ∨ 3 ≤ 1 ∧ 1 ≤ 5 by decide)
      refine to_an (pc := 5) rw_84_5 rfl (to_an (pc := 6) rw_84_6 rfl ?_)
      have c_15 : M12.2.1 1 9 = (M.2.1 1 9) := (W_n W11 (by decide) (F_n F4 (show ¬ (1 < 0) by decide) rfl))
      refine tt_gI (pc := 7) rw_84_7 (g_o hG13 rfl) (v := (M.2.1 1 9)) c_15 (s_pI (pc := 10) rw_84_10 hG13 rfl (fun M17 W16 => ?_))
      have hG18 := g_wf hG13 W16 rfl rfl (by decide)
      have F19 := FR.w F14 W16 (show 1 = 1 ∧ 5 ≤ 11 ∨ 3 ≤ 1 ∧ 1 ≤ 5 by decide)
      refine to_c (pc := 13) rw_84_13 (x := (0 : Int32)) rfl rfl (s_r1 (pc := 14) rw_84_14 (A := 0) rfl (by decide) (s_r1 (pc := 43) rw_34_43 (A := 0) rfl (by decide) ?_))
      have k_20 : (0 : Int32).toInt = 0 := rfl
      exact h (0 : Int32) M17 hG18 F19 (by decide) (by decide)
    · refine to_an (pc := 26) rw_34_26 rfl (to_an (pc := 27) rw_34_27 rfl ?_)
      have c_21 : M8.2.1 1 8 = (M.2.1 1 8) := (F_n F4 (show ¬ (1 < 0) by decide) rfl)
      refine tt_gI (pc := 28) rw_34_28 (g_o hG5 rfl) (v := (M.2.1 1 8)) c_21 (s_v (pc := 31) rw_34_31 (dp0 hd (by decide)) (ls0 := [.ref p, .int (M.2.1 1 8)]) rfl (Nat.le_of_ble_eq_true rfl) (Nat.le_of_ble_eq_true rfl) rfl (to_rc rfl rfl rfl (g_o hG5 (by rcases hp with rfl | rfl <;> rfl))) rfl (to_an (pc := 0) rw_53_0 rfl (s_gR (pc := 1) rw_53_1 hG5 (by rcases hp with rfl | rfl <;> rfl) (v := (p + 6)) (by rcases hp with rfl | rfl <;> rfl) (to_an (pc := 4) rw_53_4 rfl ?_))))
      have c_22 : M8.2.1 p 3 = (M.2.1 p 3) := (F_n F4 (show ¬ (p < 0) by omega) rfl)
      have b_23 := g_b hG (a := p) (i := 3) (lo := 0) (hi := 12) (by rcases hp with rfl | rfl <;> rfl) (by rcases hp with rfl | rfl <;> rfl)
      refine tt_gI (pc := 5) rw_53_5 (g_o hG5 (by rcases hp with rfl | rfl <;> rfl)) (v := (M.2.1 p 3)) c_22 (to_in (pc := 8) rw_53_8 rfl (s_s (pc := 9) rw_53_9 (dp1 hd (by decide)) (ls0 := [.ref (p + 6), .int (M.2.1 p 3), .int (M.2.1 1 8), .null]) rfl (Nat.le_of_ble_eq_true rfl) (Nat.le_of_ble_eq_true rfl) rfl (to_rcs rfl rfl) rfl (C_54g hX (dp2 hd (by decide)) hG5 (by omega) (g := (p + 6)) (s := (M.2.1 p 3)) (x := (M.2.1 1 8)) (fun r24 M29 hG26 F25 p_27 p_28 => ?_))))
      have F30 := FR.c F9 F25 tg_109
      refine to_r0 (pc := 12) rw_53_12 (to_c (pc := 34) rw_34_34 (x := (-1 : Int32)) rfl rfl (b_ceq (pc := 35) rw_34_35 (A := r24.toInt) (B := -1) rfl rfl (fun h31 => ?_) (fun h31 => ?_)))
      · refine to_c (pc := 44) rw_34_44 (x := (1 : Int32)) rfl rfl (s_r1 (pc := 45) rw_34_45 (A := 1) rfl (by decide) ?_)
        have k_32 : (1 : Int32).toInt = 1 := rfl
        exact h (1 : Int32) M29 hG26 F30 (by decide) (by decide)
      · refine to_an (pc := 38) rw_34_38 rfl (to_c (pc := 39) rw_34_39 (x := (3 : Int32)) rfl rfl (s_v (pc := 40) rw_34_40 (dp0 hd (by decide)) (ls0 := [.ref 1, .int (3 : Int32)]) rfl (Nat.le_of_ble_eq_true rfl) (Nat.le_of_ble_eq_true rfl) rfl (to_rc rfl rfl rfl (g_o hG26 rfl)) rfl (to_an (pc := 0) rw_84_0 rfl (to_in (pc := 1) rw_84_1 rfl (s_pI (pc := 2) rw_84_2 hG26 rfl (fun M34 W33 => ?_))))))
        have hG35 := g_wf hG26 W33 rfl rfl (by decide)
        have F36 := FR.w F30 W33 (show 1 = 1 ∧ 5 ≤ 10 ∨ 3 ≤ 1 ∧ 1 ≤ 5 by decide)
        refine to_an (pc := 5) rw_84_5 rfl (to_an (pc := 6) rw_84_6 rfl ?_)
        have c_37 : M34.2.1 1 9 = (M.2.1 1 9) := (W_n W33 (by decide) (F_n F25 (show ¬ (1 < 0) by decide) (F_n F4 (show ¬ (1 < 0) by decide) rfl)))
        refine tt_gI (pc := 7) rw_84_7 (g_o hG35 rfl) (v := (M.2.1 1 9)) c_37 (s_pI (pc := 10) rw_84_10 hG35 rfl (fun M39 W38 => ?_))
        have hG40 := g_wf hG35 W38 rfl rfl (by decide)
        have F41 := FR.w F36 W38 (show 1 = 1 ∧ 5 ≤ 11 ∨ 3 ≤ 1 ∧ 1 ≤ 5 by decide)
        refine to_c (pc := 13) rw_84_13 (x := (0 : Int32)) rfl rfl (s_r1 (pc := 14) rw_84_14 (A := 0) rfl (by decide) (s_r1 (pc := 43) rw_34_43 (A := 0) rfl (by decide) ?_))
        have k_42 : (0 : Int32).toInt = 0 := rfl
        exact h (0 : Int32) M39 hG40 F41 (by decide) (by decide)
  · refine to_an (pc := 8) rw_34_8 rfl (to_c (pc := 9) rw_34_9 (x := (1 : Int32)) rfl rfl (s_v (pc := 10) rw_34_10 (dp0 hd (by decide)) (ls0 := [.ref 1, .int (1 : Int32)]) rfl (Nat.le_of_ble_eq_true rfl) (Nat.le_of_ble_eq_true rfl) rfl (to_rc rfl rfl rfl (g_o hG rfl)) rfl (to_an (pc := 0) rw_84_0 rfl (to_in (pc := 1) rw_84_1 rfl (s_pI (pc := 2) rw_84_2 hG rfl (fun M44 W43 => ?_))))))
    have hG45 := g_wf hG W43 rfl rfl (by decide)
    have F46 := FR.w F0 W43 (show 1 = 1 ∧ 5 ≤ 10 ∨ 3 ≤ 1 ∧ 1 ≤ 5 by decide)
    refine to_an (pc := 5) rw_84_5 rfl (to_an (pc := 6) rw_84_6 rfl ?_)
    have c_47 : M44.2.1 1 9 = (M.2.1 1 9) := (W_n W43 (by decide) rfl)
    refine tt_gI (pc := 7) rw_84_7 (g_o hG45 rfl) (v := (M.2.1 1 9)) c_47 (s_pI (pc := 10) rw_84_10 hG45 rfl (fun M49 W48 => ?_))
    have hG50 := g_wf hG45 W48 rfl rfl (by decide)
    have F51 := FR.w F46 W48 (show 1 = 1 ∧ 5 ≤ 11 ∨ 3 ≤ 1 ∧ 1 ≤ 5 by decide)
    refine to_c (pc := 13) rw_84_13 (x := (0 : Int32)) rfl rfl (s_r1 (pc := 14) rw_84_14 (A := 0) rfl (by decide) (s_r1 (pc := 13) rw_34_13 (A := 0) rfl (by decide) ?_))
    have k_52 : (0 : Int32).toInt = 0 := rfl
    exact h (0 : Int32) M49 hG50 F51 (by decide) (by decide)
set_option maxRecDepth 4000 in
set_option maxHeartbeats 0 in
theorem C_35 {X : mm_X} {d : Nat} {M : mm_M} {Q : Option Value → mm_M → Prop} (hX : g_X X) (hd : 1 ≤ d) (hG : g_G M) (h : ∀ (r : Int32) (M1 : mm_M), g_G M1 → FR md_0 M M1 → (-1 ≤ r.toInt) → (r.toInt ≤ 3) → Q (some (.int r)) M1) : mm_T X d 35 0 [.ref 1] [] M Q := by
  have F0 : FR md_0 M M := FR.rf
  refine to_an (pc := 0) rw_35_0 rfl (to_c (pc := 1) rw_35_1 (x := (518160384 : Int32)) rfl rfl (s_v (pc := 3) rw_35_3 (dp0 hd (by decide)) (ls0 := [.ref 1, .int (518160384 : Int32)]) rfl (Nat.le_of_ble_eq_true rfl) (Nat.le_of_ble_eq_true rfl) rfl (to_rc rfl rfl rfl (g_o hG rfl)) rfl (to_an (pc := 0) rw_86_0 rfl (tt_gI (pc := 1) rw_86_1 (g_o hG rfl) (v := (M.2.1 1 7)) rfl (to_c (pc := 4) rw_86_4 (x := (4 : Int32)) rfl rfl (b_cne (pc := 5) rw_86_5 (A := (M.2.1 1 7).toInt) (B := 4) rfl rfl (fun h1 => ?_) (fun h1 => ?_)))))))
  · refine to_c (pc := 20) rw_86_20 (x := (0 : Int32)) rfl rfl (s_r1 (pc := 21) rw_86_21 (A := 0) rfl (by decide) (b_ieq_t (pc := 6) rw_35_6 (A := 0) rfl (by decide) (to_an (pc := 11) rw_35_11 rfl (to_c (pc := 12) rw_35_12 (x := (659999744 : Int32)) rfl rfl (s_v (pc := 14) rw_35_14 (dp0 hd (by decide)) (ls0 := [.ref 1, .int (659999744 : Int32)]) rfl (Nat.le_of_ble_eq_true rfl) (Nat.le_of_ble_eq_true rfl) rfl (to_rc rfl rfl rfl (g_o hG rfl)) rfl (to_an (pc := 0) rw_86_0 rfl (tt_gI (pc := 1) rw_86_1 (g_o hG rfl) (v := (M.2.1 1 7)) rfl (to_c (pc := 4) rw_86_4 (x := (4 : Int32)) rfl rfl (b_cne (pc := 5) rw_86_5 (A := (M.2.1 1 7).toInt) (B := 4) rfl rfl (fun h2 => ?_) (fun h2 => ?_))))))))))
    · refine to_c (pc := 20) rw_86_20 (x := (0 : Int32)) rfl rfl (s_r1 (pc := 21) rw_86_21 (A := 0) rfl (by decide) (b_ieq_t (pc := 17) rw_35_17 (A := 0) rfl (by decide) (to_an (pc := 22) rw_35_22 rfl (to_c (pc := 23) rw_35_23 (x := (538233440 : Int32)) rfl rfl (s_v (pc := 25) rw_35_25 (dp0 hd (by decide)) (ls0 := [.ref 1, .int (538233440 : Int32)]) rfl (Nat.le_of_ble_eq_true rfl) (Nat.le_of_ble_eq_true rfl) rfl (to_rc rfl rfl rfl (g_o hG rfl)) rfl (to_an (pc := 0) rw_86_0 rfl (tt_gI (pc := 1) rw_86_1 (g_o hG rfl) (v := (M.2.1 1 7)) rfl (to_c (pc := 4) rw_86_4 (x := (4 : Int32)) rfl rfl (b_cne (pc := 5) rw_86_5 (A := (M.2.1 1 7).toInt) (B := 4) rfl rfl (fun h3 => ?_) (fun h3 => ?_))))))))))
      · refine to_c (pc := 20) rw_86_20 (x := (0 : Int32)) rfl rfl (s_r1 (pc := 21) rw_86_21 (A := 0) rfl (by decide) (b_ieq_t (pc := 28) rw_35_28 (A := 0) rfl (by decide) (to_an (pc := 33) rw_35_33 rfl (to_c (pc := 34) rw_35_34 (x := (404000768 : Int32)) rfl rfl (s_v (pc := 36) rw_35_36 (dp0 hd (by decide)) (ls0 := [.ref 1, .int (404000768 : Int32)]) rfl (Nat.le_of_ble_eq_true rfl) (Nat.le_of_ble_eq_true rfl) rfl (to_rc rfl rfl rfl (g_o hG rfl)) rfl (to_an (pc := 0) rw_86_0 rfl (tt_gI (pc := 1) rw_86_1 (g_o hG rfl) (v := (M.2.1 1 7)) rfl (to_c (pc := 4) rw_86_4 (x := (4 : Int32)) rfl rfl (b_cne (pc := 5) rw_86_5 (A := (M.2.1 1 7).toInt) (B := 4) rfl rfl (fun h4 => ?_) (fun h4 => ?_))))))))))
        · refine to_c (pc := 20) rw_86_20 (x := (0 : Int32)) rfl rfl (s_r1 (pc := 21) rw_86_21 (A := 0) rfl (by decide) (b_ieq_t (pc := 39) rw_35_39 (A := 0) rfl (by decide) (to_c (pc := 46) rw_35_46 (x := (-1 : Int32)) rfl rfl (to_r0 (pc := 47) rw_35_47 ?_))))
          have k_5 : (-1 : Int32).toInt = -1 := rfl
          exact h (-1 : Int32) M hG F0 (by omega) (by omega)
        · refine to_an (pc := 8) rw_86_8 rfl (tt_gI (pc := 9) rw_86_9 (g_o hG rfl) (v := (M.2.1 1 8)) rfl (to_in (pc := 12) rw_86_12 rfl (b_cne (pc := 13) rw_86_13 (A := (M.2.1 1 8).toInt) (B := 404000768) rfl rfl (fun h6 => ?_) (fun h6 => ?_))))
          · refine to_c (pc := 20) rw_86_20 (x := (0 : Int32)) rfl rfl (s_r1 (pc := 21) rw_86_21 (A := 0) rfl (by decide) (b_ieq_t (pc := 39) rw_35_39 (A := 0) rfl (by decide) (to_c (pc := 46) rw_35_46 (x := (-1 : Int32)) rfl rfl (to_r0 (pc := 47) rw_35_47 ?_))))
            have k_7 : (-1 : Int32).toInt = -1 := rfl
            exact h (-1 : Int32) M hG F0 (by omega) (by omega)
          · refine to_c (pc := 16) rw_86_16 (x := (1 : Int32)) rfl rfl (to_go (pc := 17) rw_86_17 (s_r1 (pc := 21) rw_86_21 (A := 1) rfl (by decide) (b_ieq_f (pc := 39) rw_35_39 (A := 1) rfl (by decide) (to_c (pc := 42) rw_35_42 (x := (3 : Int32)) rfl rfl (to_go (pc := 43) rw_35_43 (to_r0 (pc := 47) rw_35_47 ?_))))))
            have k_8 : (3 : Int32).toInt = 3 := rfl
            exact h (3 : Int32) M hG F0 (by omega) (by omega)
      · refine to_an (pc := 8) rw_86_8 rfl (tt_gI (pc := 9) rw_86_9 (g_o hG rfl) (v := (M.2.1 1 8)) rfl (to_in (pc := 12) rw_86_12 rfl (b_cne (pc := 13) rw_86_13 (A := (M.2.1 1 8).toInt) (B := 538233440) rfl rfl (fun h9 => ?_) (fun h9 => ?_))))
        · refine to_c (pc := 20) rw_86_20 (x := (0 : Int32)) rfl rfl (s_r1 (pc := 21) rw_86_21 (A := 0) rfl (by decide) (b_ieq_t (pc := 28) rw_35_28 (A := 0) rfl (by decide) (to_an (pc := 33) rw_35_33 rfl (to_c (pc := 34) rw_35_34 (x := (404000768 : Int32)) rfl rfl (s_v (pc := 36) rw_35_36 (dp0 hd (by decide)) (ls0 := [.ref 1, .int (404000768 : Int32)]) rfl (Nat.le_of_ble_eq_true rfl) (Nat.le_of_ble_eq_true rfl) rfl (to_rc rfl rfl rfl (g_o hG rfl)) rfl (to_an (pc := 0) rw_86_0 rfl (tt_gI (pc := 1) rw_86_1 (g_o hG rfl) (v := (M.2.1 1 7)) rfl (to_c (pc := 4) rw_86_4 (x := (4 : Int32)) rfl rfl (b_cne_f (pc := 5) rw_86_5 (A := (M.2.1 1 7).toInt) (B := 4) rfl rfl (by omega) (to_an (pc := 8) rw_86_8 rfl (tt_gI (pc := 9) rw_86_9 (g_o hG rfl) (v := (M.2.1 1 8)) rfl ?_)))))))))))
          refine to_in (pc := 12) rw_86_12 rfl (b_cne (pc := 13) rw_86_13 (A := (M.2.1 1 8).toInt) (B := 404000768) rfl rfl (fun h10 => ?_) (fun h10 => ?_))
          · refine to_c (pc := 20) rw_86_20 (x := (0 : Int32)) rfl rfl (s_r1 (pc := 21) rw_86_21 (A := 0) rfl (by decide) (b_ieq_t (pc := 39) rw_35_39 (A := 0) rfl (by decide) (to_c (pc := 46) rw_35_46 (x := (-1 : Int32)) rfl rfl (to_r0 (pc := 47) rw_35_47 ?_))))
            have k_11 : (-1 : Int32).toInt = -1 := rfl
            exact h (-1 : Int32) M hG F0 (by omega) (by omega)
          · refine to_c (pc := 16) rw_86_16 (x := (1 : Int32)) rfl rfl (to_go (pc := 17) rw_86_17 (s_r1 (pc := 21) rw_86_21 (A := 1) rfl (by decide) (b_ieq_f (pc := 39) rw_35_39 (A := 1) rfl (by decide) (to_c (pc := 42) rw_35_42 (x := (3 : Int32)) rfl rfl (to_go (pc := 43) rw_35_43 (to_r0 (pc := 47) rw_35_47 ?_))))))
            have k_12 : (3 : Int32).toInt = 3 := rfl
            exact h (3 : Int32) M hG F0 (by omega) (by omega)
        · refine to_c (pc := 16) rw_86_16 (x := (1 : Int32)) rfl rfl (to_go (pc := 17) rw_86_17 (s_r1 (pc := 21) rw_86_21 (A := 1) rfl (by decide) (b_ieq_f (pc := 28) rw_35_28 (A := 1) rfl (by decide) (to_c (pc := 31) rw_35_31 (x := (2 : Int32)) rfl rfl (to_r0 (pc := 32) rw_35_32 ?_)))))
          have k_13 : (2 : Int32).toInt = 2 := rfl
          exact h (2 : Int32) M hG F0 (by omega) (by omega)
    · refine to_an (pc := 8) rw_86_8 rfl (tt_gI (pc := 9) rw_86_9 (g_o hG rfl) (v := (M.2.1 1 8)) rfl (to_in (pc := 12) rw_86_12 rfl (b_cne (pc := 13) rw_86_13 (A := (M.2.1 1 8).toInt) (B := 659999744) rfl rfl (fun h14 => ?_) (fun h14 => ?_))))
      · refine to_c (pc := 20) rw_86_20 (x := (0 : Int32)) rfl rfl (s_r1 (pc := 21) rw_86_21 (A := 0) rfl (by decide) (b_ieq_t (pc := 17) rw_35_17 (A := 0) rfl (by decide) (to_an (pc := 22) rw_35_22 rfl (to_c (pc := 23) rw_35_23 (x := (538233440 : Int32)) rfl rfl (s_v (pc := 25) rw_35_25 (dp0 hd (by decide)) (ls0 := [.ref 1, .int (538233440 : Int32)]) rfl (Nat.le_of_ble_eq_true rfl) (Nat.le_of_ble_eq_true rfl) rfl (to_rc rfl rfl rfl (g_o hG rfl)) rfl (to_an (pc := 0) rw_86_0 rfl (tt_gI (pc := 1) rw_86_1 (g_o hG rfl) (v := (M.2.1 1 7)) rfl (to_c (pc := 4) rw_86_4 (x := (4 : Int32)) rfl rfl (b_cne_f (pc := 5) rw_86_5 (A := (M.2.1 1 7).toInt) (B := 4) rfl rfl (by omega) (to_an (pc := 8) rw_86_8 rfl (tt_gI (pc := 9) rw_86_9 (g_o hG rfl) (v := (M.2.1 1 8)) rfl ?_)))))))))))
        refine to_in (pc := 12) rw_86_12 rfl (b_cne (pc := 13) rw_86_13 (A := (M.2.1 1 8).toInt) (B := 538233440) rfl rfl (fun h15 => ?_) (fun h15 => ?_))
        · refine to_c (pc := 20) rw_86_20 (x := (0 : Int32)) rfl rfl (s_r1 (pc := 21) rw_86_21 (A := 0) rfl (by decide) (b_ieq_t (pc := 28) rw_35_28 (A := 0) rfl (by decide) (to_an (pc := 33) rw_35_33 rfl (to_c (pc := 34) rw_35_34 (x := (404000768 : Int32)) rfl rfl (s_v (pc := 36) rw_35_36 (dp0 hd (by decide)) (ls0 := [.ref 1, .int (404000768 : Int32)]) rfl (Nat.le_of_ble_eq_true rfl) (Nat.le_of_ble_eq_true rfl) rfl (to_rc rfl rfl rfl (g_o hG rfl)) rfl (to_an (pc := 0) rw_86_0 rfl (tt_gI (pc := 1) rw_86_1 (g_o hG rfl) (v := (M.2.1 1 7)) rfl (to_c (pc := 4) rw_86_4 (x := (4 : Int32)) rfl rfl (b_cne_f (pc := 5) rw_86_5 (A := (M.2.1 1 7).toInt) (B := 4) rfl rfl (by omega) (to_an (pc := 8) rw_86_8 rfl (tt_gI (pc := 9) rw_86_9 (g_o hG rfl) (v := (M.2.1 1 8)) rfl ?_)))))))))))
          refine to_in (pc := 12) rw_86_12 rfl (b_cne (pc := 13) rw_86_13 (A := (M.2.1 1 8).toInt) (B := 404000768) rfl rfl (fun h16 => ?_) (fun h16 => ?_))
          · refine to_c (pc := 20) rw_86_20 (x := (0 : Int32)) rfl rfl (s_r1 (pc := 21) rw_86_21 (A := 0) rfl (by decide) (b_ieq_t (pc := 39) rw_35_39 (A := 0) rfl (by decide) (to_c (pc := 46) rw_35_46 (x := (-1 : Int32)) rfl rfl (to_r0 (pc := 47) rw_35_47 ?_))))
            have k_17 : (-1 : Int32).toInt = -1 := rfl
            exact h (-1 : Int32) M hG F0 (by omega) (by omega)
          · refine to_c (pc := 16) rw_86_16 (x := (1 : Int32)) rfl rfl (to_go (pc := 17) rw_86_17 (s_r1 (pc := 21) rw_86_21 (A := 1) rfl (by decide) (b_ieq_f (pc := 39) rw_35_39 (A := 1) rfl (by decide) (to_c (pc := 42) rw_35_42 (x := (3 : Int32)) rfl rfl (to_go (pc := 43) rw_35_43 (to_r0 (pc := 47) rw_35_47 ?_))))))
            have k_18 : (3 : Int32).toInt = 3 := rfl
            exact h (3 : Int32) M hG F0 (by omega) (by omega)
        · refine to_c (pc := 16) rw_86_16 (x := (1 : Int32)) rfl rfl (to_go (pc := 17) rw_86_17 (s_r1 (pc := 21) rw_86_21 (A := 1) rfl (by decide) (b_ieq_f (pc := 28) rw_35_28 (A := 1) rfl (by decide) (to_c (pc := 31) rw_35_31 (x := (2 : Int32)) rfl rfl (to_r0 (pc := 32) rw_35_32 ?_)))))
          have k_19 : (2 : Int32).toInt = 2 := rfl
          exact h (2 : Int32) M hG F0 (by omega) (by omega)
      · refine to_c (pc := 16) rw_86_16 (x := (1 : Int32)) rfl rfl (to_go (pc := 17) rw_86_17 (s_r1 (pc := 21) rw_86_21 (A := 1) rfl (by decide) (b_ieq_f (pc := 17) rw_35_17 (A := 1) rfl (by decide) (to_c (pc := 20) rw_35_20 (x := (1 : Int32)) rfl rfl (to_r0 (pc := 21) rw_35_21 ?_)))))
        have k_20 : (1 : Int32).toInt = 1 := rfl
        exact h (1 : Int32) M hG F0 (by omega) (by omega)
  · refine to_an (pc := 8) rw_86_8 rfl (tt_gI (pc := 9) rw_86_9 (g_o hG rfl) (v := (M.2.1 1 8)) rfl (to_in (pc := 12) rw_86_12 rfl (b_cne (pc := 13) rw_86_13 (A := (M.2.1 1 8).toInt) (B := 518160384) rfl rfl (fun h21 => ?_) (fun h21 => ?_))))
    · refine to_c (pc := 20) rw_86_20 (x := (0 : Int32)) rfl rfl (s_r1 (pc := 21) rw_86_21 (A := 0) rfl (by decide) (b_ieq_t (pc := 6) rw_35_6 (A := 0) rfl (by decide) (to_an (pc := 11) rw_35_11 rfl (to_c (pc := 12) rw_35_12 (x := (659999744 : Int32)) rfl rfl (s_v (pc := 14) rw_35_14 (dp0 hd (by decide)) (ls0 := [.ref 1, .int (659999744 : Int32)]) rfl (Nat.le_of_ble_eq_true rfl) (Nat.le_of_ble_eq_true rfl) rfl (to_rc rfl rfl rfl (g_o hG rfl)) rfl (to_an (pc := 0) rw_86_0 rfl (tt_gI (pc := 1) rw_86_1 (g_o hG rfl) (v := (M.2.1 1 7)) rfl (to_c (pc := 4) rw_86_4 (x := (4 : Int32)) rfl rfl (b_cne_f (pc := 5) rw_86_5 (A := (M.2.1 1 7).toInt) (B := 4) rfl rfl (by omega) (to_an (pc := 8) rw_86_8 rfl (tt_gI (pc := 9) rw_86_9 (g_o hG rfl) (v := (M.2.1 1 8)) rfl ?_)))))))))))
      refine to_in (pc := 12) rw_86_12 rfl (b_cne (pc := 13) rw_86_13 (A := (M.2.1 1 8).toInt) (B := 659999744) rfl rfl (fun h22 => ?_) (fun h22 => ?_))
      · refine to_c (pc := 20) rw_86_20 (x := (0 : Int32)) rfl rfl (s_r1 (pc := 21) rw_86_21 (A := 0) rfl (by decide) (b_ieq_t (pc := 17) rw_35_17 (A := 0) rfl (by decide) (to_an (pc := 22) rw_35_22 rfl (to_c (pc := 23) rw_35_23 (x := (538233440 : Int32)) rfl rfl (s_v (pc := 25) rw_35_25 (dp0 hd (by decide)) (ls0 := [.ref 1, .int (538233440 : Int32)]) rfl (Nat.le_of_ble_eq_true rfl) (Nat.le_of_ble_eq_true rfl) rfl (to_rc rfl rfl rfl (g_o hG rfl)) rfl (to_an (pc := 0) rw_86_0 rfl (tt_gI (pc := 1) rw_86_1 (g_o hG rfl) (v := (M.2.1 1 7)) rfl (to_c (pc := 4) rw_86_4 (x := (4 : Int32)) rfl rfl (b_cne_f (pc := 5) rw_86_5 (A := (M.2.1 1 7).toInt) (B := 4) rfl rfl (by omega) (to_an (pc := 8) rw_86_8 rfl (tt_gI (pc := 9) rw_86_9 (g_o hG rfl) (v := (M.2.1 1 8)) rfl ?_)))))))))))
        refine to_in (pc := 12) rw_86_12 rfl (b_cne (pc := 13) rw_86_13 (A := (M.2.1 1 8).toInt) (B := 538233440) rfl rfl (fun h23 => ?_) (fun h23 => ?_))
        · refine to_c (pc := 20) rw_86_20 (x := (0 : Int32)) rfl rfl (s_r1 (pc := 21) rw_86_21 (A := 0) rfl (by decide) (b_ieq_t (pc := 28) rw_35_28 (A := 0) rfl (by decide) (to_an (pc := 33) rw_35_33 rfl (to_c (pc := 34) rw_35_34 (x := (404000768 : Int32)) rfl rfl (s_v (pc := 36) rw_35_36 (dp0 hd (by decide)) (ls0 := [.ref 1, .int (404000768 : Int32)]) rfl (Nat.le_of_ble_eq_true rfl) (Nat.le_of_ble_eq_true rfl) rfl (to_rc rfl rfl rfl (g_o hG rfl)) rfl (to_an (pc := 0) rw_86_0 rfl (tt_gI (pc := 1) rw_86_1 (g_o hG rfl) (v := (M.2.1 1 7)) rfl (to_c (pc := 4) rw_86_4 (x := (4 : Int32)) rfl rfl (b_cne_f (pc := 5) rw_86_5 (A := (M.2.1 1 7).toInt) (B := 4) rfl rfl (by omega) (to_an (pc := 8) rw_86_8 rfl (tt_gI (pc := 9) rw_86_9 (g_o hG rfl) (v := (M.2.1 1 8)) rfl ?_)))))))))))
          refine to_in (pc := 12) rw_86_12 rfl (b_cne (pc := 13) rw_86_13 (A := (M.2.1 1 8).toInt) (B := 404000768) rfl rfl (fun h24 => ?_) (fun h24 => ?_))
          · refine to_c (pc := 20) rw_86_20 (x := (0 : Int32)) rfl rfl (s_r1 (pc := 21) rw_86_21 (A := 0) rfl (by decide) (b_ieq_t (pc := 39) rw_35_39 (A := 0) rfl (by decide) (to_c (pc := 46) rw_35_46 (x := (-1 : Int32)) rfl rfl (to_r0 (pc := 47) rw_35_47 ?_))))
            have k_25 : (-1 : Int32).toInt = -1 := rfl
            exact h (-1 : Int32) M hG F0 (by omega) (by omega)
          · refine to_c (pc := 16) rw_86_16 (x := (1 : Int32)) rfl rfl (to_go (pc := 17) rw_86_17 (s_r1 (pc := 21) rw_86_21 (A := 1) rfl (by decide) (b_ieq_f (pc := 39) rw_35_39 (A := 1) rfl (by decide) (to_c (pc := 42) rw_35_42 (x := (3 : Int32)) rfl rfl (to_go (pc := 43) rw_35_43 (to_r0 (pc := 47) rw_35_47 ?_))))))
            have k_26 : (3 : Int32).toInt = 3 := rfl
            exact h (3 : Int32) M hG F0 (by omega) (by omega)
        · refine to_c (pc := 16) rw_86_16 (x := (1 : Int32)) rfl rfl (to_go (pc := 17) rw_86_17 (s_r1 (pc := 21) rw_86_21 (A := 1) rfl (by decide) (b_ieq_f (pc := 28) rw_35_28 (A := 1) rfl (by decide) (to_c (pc := 31) rw_35_31 (x := (2 : Int32)) rfl rfl (to_r0 (pc := 32) rw_35_32 ?_)))))
          have k_27 : (2 : Int32).toInt = 2 := rfl
          exact h (2 : Int32) M hG F0 (by omega) (by omega)
      · refine to_c (pc := 16) rw_86_16 (x := (1 : Int32)) rfl rfl (to_go (pc := 17) rw_86_17 (s_r1 (pc := 21) rw_86_21 (A := 1) rfl (by decide) (b_ieq_f (pc := 17) rw_35_17 (A := 1) rfl (by decide) (to_c (pc := 20) rw_35_20 (x := (1 : Int32)) rfl rfl (to_r0 (pc := 21) rw_35_21 ?_)))))
        have k_28 : (1 : Int32).toInt = 1 := rfl
        exact h (1 : Int32) M hG F0 (by omega) (by omega)
    · refine to_c (pc := 16) rw_86_16 (x := (1 : Int32)) rfl rfl (to_go (pc := 17) rw_86_17 (s_r1 (pc := 21) rw_86_21 (A := 1) rfl (by decide) (b_ieq_f (pc := 6) rw_35_6 (A := 1) rfl (by decide) (to_c (pc := 9) rw_35_9 (x := (0 : Int32)) rfl rfl (to_r0 (pc := 10) rw_35_10 ?_)))))
      have k_29 : (0 : Int32).toInt = 0 := rfl
      exact h (0 : Int32) M hG F0 (by omega) (by omega)
set_option maxRecDepth 4000 in
set_option maxHeartbeats 0 in
theorem C_39 {X : mm_X} {d : Nat} {M : mm_M} {Q : Option Value → mm_M → Prop} {p : Nat} {f : Int32} {l : Int32} (hX : g_X X) (hd : 1 ≤ d) (hG : g_G M) (hp : p = 49 ∨ p = 58) (h : ∀ (r : Int32) (M1 : mm_M), g_G M1 → FR md_t M M1 → (0 ≤ r.toInt) → (r.toInt ≤ 1) → Q (some (.int r)) M1) : mm_T X d 39 0 [.ref p, .ref 1, .int f, .int l] [] M Q := by
  have F0 : FR md_t M M := FR.rf
  refine to_an (pc := 0) rw_39_0 rfl (s_gJ (pc := 1) rw_39_1 hG (by rcases hp with rfl | rfl <;> rfl) (fun l1 => to_in (pc := 4) rw_39_4 rfl (to_in (pc := 5) rw_39_5 rfl (s_s (pc := 6) rw_39_6 (dp0 hd (by decide)) (ls0 := [.int f, .int l]) rfl (Nat.le_of_ble_eq_true rfl) (Nat.le_of_ble_eq_true rfl) rfl (to_rcs rfl rfl) rfl (s_cl (pc := 0) rw_144_0 rfl (fun l2 => to_in (pc := 1) rw_144_1 rfl (to_in (pc := 2) rw_144_2 rfl (s_any (pc := 3) rw_144_3 (fun _ _ => rfl) (fun v3 => to_c (pc := 4) rw_144_4 (x := (1 : Int32)) rfl rfl (s_any (pc := 5) rw_144_5 (fun _ _ => rfl) (fun v4 => s_anyS (pc := 6) rw_144_6 (fun _ _ => rfl) (fun l5 => ?_))))))))))))
  refine s_cl (pc := 7) rw_144_7 rfl (fun l6 => s_anyL (pc := 8) rw_144_8 (fun _ _ => rfl) (fun l7 => to_in (pc := 9) rw_144_9 rfl (s_anyS (pc := 10) rw_144_10 (fun _ _ => rfl) (fun l8 => to_rl (pc := 11) rw_144_11 (s_anyL (pc := 9) rw_39_9 (fun _ _ => rfl) (fun l9 => s_cl (pc := 10) rw_39_10 rfl (fun l10 => s_lcmp (pc := 11) rw_39_11 (fun v11 => b_ieq (pc := 12) rw_39_12 (A := v11.toInt) rfl (fun h12 => ?_) (fun h12 => ?_)))))))))
  · refine to_c (pc := 23) rw_39_23 (x := (1 : Int32)) rfl rfl (to_go (pc := 24) rw_39_24 (s_r1 (pc := 28) rw_39_28 (A := 1) rfl (by decide) ?_))
    have k_13 : (1 : Int32).toInt = 1 := rfl
    exact h (1 : Int32) M hG F0 (by decide) (by decide)
  · refine to_an (pc := 15) rw_39_15 rfl (to_c (pc := 16) rw_39_16 (x := (3 : Int32)) rfl rfl (s_v (pc := 17) rw_39_17 (dp0 hd (by decide)) (ls0 := [.ref 1, .int (3 : Int32)]) rfl (Nat.le_of_ble_eq_true rfl) (Nat.le_of_ble_eq_true rfl) rfl (to_rc rfl rfl rfl (g_o hG rfl)) rfl (to_an (pc := 0) rw_84_0 rfl (to_in (pc := 1) rw_84_1 rfl (s_pI (pc := 2) rw_84_2 hG rfl (fun M15 W14 => ?_))))))
    have hG16 := g_wf hG W14 rfl rfl (by decide)
    have F17 := FR.w F0 W14 (show 1 = 1 ∧ 5 ≤ 10 ∨ 3 ≤ 1 ∧ 1 ≤ 5 by decide)
    refine to_an (pc := 5) rw_84_5 rfl (to_an (pc := 6) rw_84_6 rfl ?_)
    have c_18 : M15.2.1 1 9 = (M.2.1 1 9) := (W_n W14 (by decide) rfl)
    refine tt_gI (pc := 7) rw_84_7 (g_o hG16 rfl) (v := (M.2.1 1 9)) c_18 (s_pI (pc := 10) rw_84_10 hG16 rfl (fun M20 W19 => ?_))
    have hG21 := g_wf hG16 W19 rfl rfl (by decide)
    have F22 := FR.w F17 W19 (show 1 = 1 ∧ 5 ≤ 11 ∨ 3 ≤ 1 ∧ 1 ≤ 5 by decide)
    refine to_c (pc := 13) rw_84_13 (x := (0 : Int32)) rfl rfl (s_r1 (pc := 14) rw_84_14 (A := 0) rfl (by decide) (b_ieq_t (pc := 20) rw_39_20 (A := 0) rfl (by decide) (to_c (pc := 27) rw_39_27 (x := (0 : Int32)) rfl rfl (s_r1 (pc := 28) rw_39_28 (A := 0) rfl (by decide) ?_))))
    have k_23 : (0 : Int32).toInt = 0 := rfl
    exact h (0 : Int32) M20 hG21 F22 (by decide) (by decide)
set_option maxRecDepth 4000 in
set_option maxHeartbeats 0 in
theorem C_40 {X : mm_X} {d : Nat} {M : mm_M} {Q : Option Value → mm_M → Prop} {p : Nat} {f : Int32} {l : Int32} {c : Int32} (hX : g_X X) (hd : 0 ≤ d) (hG : g_G M) (hp : p = 49 ∨ p = 58) (q1 : 0 ≤ f.toInt) (q2 : f.toInt ≤ 59) (q3 : 0 ≤ l.toInt) (q4 : l.toInt ≤ 63) (q5 : 0 ≤ c.toInt) (q6 : c.toInt ≤ 24) (q7 : f.toInt ≤ l.toInt) (q8 : (M.2.1 p 2).toInt ≤ 7) (q9 : PI M) (h : ∀ (M1 : mm_M), g_G M1 → FR md_pr M M1 → PI M1 → Q (none) M1) : mm_T X d 40 0 [.ref p, .int f, .int l, .int c] [] M Q := by
  have F0 : FR md_pr M M := FR.rf
  have b_1 := g_b hG (a := p) (i := 2) (lo := 0) (hi := 8) (by rcases hp with rfl | rfl <;> rfl) (by rcases hp with rfl | rfl <;> rfl)
  refine to_an (pc := 0) rw_40_0 rfl (s_gR (pc := 1) rw_40_1 hG (by rcases hp with rfl | rfl <;> rfl) (v := (p + 3)) (by rcases hp with rfl | rfl <;> rfl) (to_an (pc := 4) rw_40_4 rfl (tt_gI (pc := 5) rw_40_5 (g_o hG (by rcases hp with rfl | rfl <;> rfl)) (v := (M.2.1 p 2)) rfl (to_in (pc := 8) rw_40_8 rfl (s_ias (pc := 9) rw_40_9 hG (by rcases hp with rfl | rfl <;> rfl) (n := 8) (by rcases hp with rfl | rfl <;> rfl) (A := (M.2.1 p 2).toInt) rfl (by omega) (by omega) (fun M3 W2 => ?_))))))
  have hG4 := g_w hG W2 (A := f.toInt) rfl (lo := 0) (hi := 59) (by rcases hp with rfl | rfl <;> rfl) (by rcases hp with rfl | rfl <;> rfl) (by omega) (by omega)
  have F5 := FR.w F0 W2 (show (p + 3) = 1 ∧ 5 ≤ ((M.2.1 p 2).toInt).toNat ∨ 3 ≤ (p + 3) ∧ (p + 3) ≤ 5 ∨ 50 ≤ (p + 3) ∧ (p + 3) ≤ 57 ∨ 59 ≤ (p + 3) ∧ (p + 3) ≤ 66 by omega)
  refine to_an (pc := 10) rw_40_10 rfl (s_gR (pc := 11) rw_40_11 hG4 (by rcases hp with rfl | rfl <;> rfl) (v := (p + 4)) (by rcases hp with rfl | rfl <;> rfl) (to_an (pc := 14) rw_40_14 rfl ?_))
  have c_6 : M3.2.1 p 2 = (M.2.1 p 2) := (W_n W2 (by omega) rfl)
  refine tt_gI (pc := 15) rw_40_15 (g_o hG4 (by rcases hp with rfl | rfl <;> rfl)) (v := (M.2.1 p 2)) c_6 (to_in (pc := 18) rw_40_18 rfl (s_ias (pc := 19) rw_40_19 hG4 (by rcases hp with rfl | rfl <;> rfl) (n := 8) (by rcases hp with rfl | rfl <;> rfl) (A := (M.2.1 p 2).toInt) rfl (by omega) (by omega) (fun M8 W7 => ?_)))
  have hG9 := g_w hG4 W7 (A := l.toInt) rfl (lo := 0) (hi := 63) (by rcases hp with rfl | rfl <;> rfl) (by rcases hp with rfl | rfl <;> rfl) (by omega) (by omega)
  have F10 := FR.w F5 W7 (show (p + 4) = 1 ∧ 5 ≤ ((M.2.1 p 2).toInt).toNat ∨ 3 ≤ (p + 4) ∧ (p + 4) ≤ 5 ∨ 50 ≤ (p + 4) ∧ (p + 4) ≤ 57 ∨ 59 ≤ (p + 4) ∧ (p + 4) ≤ 66 by omega)
  have j_11 := PI_k q9 hp W2 W7 (by omega)
  refine to_an (pc := 20) rw_40_20 rfl (s_gR (pc := 21) rw_40_21 hG9 (by rcases hp with rfl | rfl <;> rfl) (v := (p + 5)) (by rcases hp with rfl | rfl <;> rfl) (to_an (pc := 24) rw_40_24 rfl ?_))
  have c_12 : M8.2.1 p 2 = (M.2.1 p 2) := (W_n W7 (by omega) c_6)
  refine tt_gI (pc := 25) rw_40_25 (g_o hG9 (by rcases hp with rfl | rfl <;> rfl)) (v := (M.2.1 p 2)) c_12 (to_in (pc := 28) rw_40_28 rfl (s_ias (pc := 29) rw_40_29 hG9 (by rcases hp with rfl | rfl <;> rfl) (n := 8) (by rcases hp with rfl | rfl <;> rfl) (A := (M.2.1 p 2).toInt) rfl (by omega) (by omega) (fun M14 W13 => ?_)))
  have hG15 := g_w hG9 W13 (A := c.toInt) rfl (lo := 0) (hi := 24) (by rcases hp with rfl | rfl <;> rfl) (by rcases hp with rfl | rfl <;> rfl) (by omega) (by omega)
  have F16 := FR.w F10 W13 (show (p + 5) = 1 ∧ 5 ≤ ((M.2.1 p 2).toInt).toNat ∨ 3 ≤ (p + 5) ∧ (p + 5) ≤ 5 ∨ 50 ≤ (p + 5) ∧ (p + 5) ≤ 57 ∨ 59 ≤ (p + 5) ∧ (p + 5) ≤ 66 by omega)
  refine to_rv (pc := 30) rw_40_30 ?_
  have j_17 := (PI_f (fun a i z => W_n W13 (by omega) rfl) j_11)
  exact h M14 hG15 F16 j_17
set_option maxRecDepth 4000 in
set_option maxHeartbeats 0 in
theorem C_36 {X : mm_X} {d : Nat} {M : mm_M} {Q : Option Value → mm_M → Prop} {p : Nat} {w : Int32} (hX : g_X X) (hd : 2 ≤ d) (hG : g_G M) (hp : p = 49 ∨ p = 58) (q1 : 1 ≤ w.toInt) (q2 : w.toInt ≤ 2) (q3 : (M.2.1 p 2).toInt ≤ 7) (q4 : PI M) (h : ∀ (r : Int32) (M1 : mm_M), g_G M1 → FR md_pr M M1 → (0 ≤ r.toInt) → (r.toInt ≤ 1) → PI M1 → Q (some (.int r)) M1) : mm_T X d 36 0 [.ref p, .ref 1, .int w, .null, .null, .null] [] M Q := by
  have F0 : FR md_pr M M := FR.rf
  have b_1 := g_b hG (a := p) (i := 2) (lo := 0) (hi := 8) (by rcases hp with rfl | rfl <;> rfl) (by rcases hp with rfl | rfl <;> rfl)
  refine to_an (pc := 0) rw_36_0 rfl (tt_gI (pc := 1) rw_36_1 (g_o hG rfl) (v := (M.2.1 1 8)) rfl (to_isn (pc := 4) rw_36_4 (ls2 := [.ref p, .ref 1, .int w, .int (M.2.1 1 8), .null, .null]) rfl rfl (to_an (pc := 5) rw_36_5 rfl (to_c (pc := 6) rw_36_6 (x := (0 : Int32)) rfl rfl (to_an (pc := 7) rw_36_7 rfl ?_)))))
  have b_2 := g_b hG (a := p) (i := 0) (lo := 10) (hi := 60) (by rcases hp with rfl | rfl <;> rfl) (by rcases hp with rfl | rfl <;> rfl)
  refine tt_gI (pc := 8) rw_36_8 (g_o hG (by rcases hp with rfl | rfl <;> rfl)) (v := (M.2.1 p 0)) rfl (to_c (pc := 11) rw_36_11 (x := (1 : Int32)) rfl rfl (s_sub (pc := 12) rw_36_12 (A := (M.2.1 p 0).toInt) (B := 1) rfl rfl (by omega) (fun v3 e4 => s_v (pc := 13) rw_36_13 (dp0 hd (by decide)) (ls0 := [.ref 1, .int (0 : Int32), .int v3]) rfl (Nat.le_of_ble_eq_true rfl) (Nat.le_of_ble_eq_true rfl) rfl (to_rc rfl rfl rfl (g_o hG rfl)) rfl (to_an (pc := 0) rw_88_0 rfl (tt_gI (pc := 1) rw_88_1 (g_o hG rfl) (v := (M.2.1 1 7)) rfl (to_c (pc := 4) rw_88_4 (x := (2 : Int32)) rfl rfl (b_ceq (pc := 5) rw_88_5 (A := (M.2.1 1 7).toInt) (B := 2) rfl rfl (fun h5 => ?_) (fun h5 => ?_))))))))
  · refine to_an (pc := 14) rw_88_14 rfl (tt_gI (pc := 15) rw_88_15 (g_o hG rfl) (v := (M.2.1 1 8)) rfl (to_in (pc := 18) rw_88_18 rfl (b_clt (pc := 19) rw_88_19 (A := (M.2.1 1 8).toInt) (B := 0) rfl rfl (fun h6 => ?_) (fun h6 => ?_))))
    · refine to_an (pc := 30) rw_88_30 rfl (to_c (pc := 31) rw_88_31 (x := (2 : Int32)) rfl rfl (s_v (pc := 32) rw_88_32 (dp1 hd (by decide)) (ls0 := [.ref 1, .int (2 : Int32)]) rfl (Nat.le_of_ble_eq_true rfl) (Nat.le_of_ble_eq_true rfl) rfl (to_rc rfl rfl rfl (g_o hG rfl)) rfl (to_an (pc := 0) rw_84_0 rfl (to_in (pc := 1) rw_84_1 rfl (s_pI (pc := 2) rw_84_2 hG rfl (fun M8 W7 => ?_))))))
      have hG9 := g_wf hG W7 rfl rfl (by decide)
      have F10 := FR.w F0 W7 (show 1 = 1 ∧ 5 ≤ 10 ∨ 3 ≤ 1 ∧ 1 ≤ 5 ∨ 50 ≤ 1 ∧ 1 ≤ 57 ∨ 59 ≤ 1 ∧ 1 ≤ 66 by decide)
      refine to_an (pc := 5) rw_84_5 rfl (to_an (pc := 6) rw_84_6 rfl ?_)
      have c_11 : M8.2.1 1 9 = (M.2.1 1 9) := (W_n W7 (by decide) rfl)
      refine tt_gI (pc := 7) rw_84_7 (g_o hG9 rfl) (v := (M.2.1 1 9)) c_11 (s_pI (pc := 10) rw_84_10 hG9 rfl (fun M13 W12 => ?_))
      have hG14 := g_wf hG9 W12 rfl rfl (by decide)
      have F15 := FR.w F10 W12 (show 1 = 1 ∧ 5 ≤ 11 ∨ 3 ≤ 1 ∧ 1 ≤ 5 ∨ 50 ≤ 1 ∧ 1 ≤ 57 ∨ 59 ≤ 1 ∧ 1 ≤ 66 by decide)
      refine to_c (pc := 13) rw_84_13 (x := (0 : Int32)) rfl rfl (s_r1 (pc := 14) rw_84_14 (A := 0) rfl (by decide) (b_ieq_t (pc := 35) rw_88_35 (A := 0) rfl (by decide) (to_c (pc := 42) rw_88_42 (x := (0 : Int32)) rfl rfl (s_r1 (pc := 43) rw_88_43 (A := 0) rfl (by decide) (b_ieq_t (pc := 16) rw_36_16 (A := 0) rfl (by decide) (to_c (pc := 29) rw_36_29 (x := (0 : Int32)) rfl rfl (s_r1 (pc := 30) rw_36_30 (A := 0) rfl (by decide) ?_)))))))
      have k_16 : (0 : Int32).toInt = 0 := rfl
      have j_17 := (PI_f (fun a i z => W_n W12 (by /-r1,11-/ omega) rfl) (PI_f (fun a i z => W_n W7 (by /-r1,10-/ omega) rfl) q4))
      exact h (0 : Int32) M13 hG14 F15 (by decide) (by decide) j_17
    · refine to_an (pc := 22) rw_88_22 rfl (tt_gI (pc := 23) rw_88_23 (g_o hG rfl) (v := (M.2.1 1 8)) rfl (to_in (pc := 26) rw_88_26 rfl (b_cle (pc := 27) rw_88_27 (A := (M.2.1 1 8).toInt) (B := v3.toInt) rfl rfl (fun h18 => ?_) (fun h18 => ?_))))
      · refine to_c (pc := 38) rw_88_38 (x := (1 : Int32)) rfl rfl (to_go (pc := 39) rw_88_39 (s_r1 (pc := 43) rw_88_43 (A := 1) rfl (by decide) (b_ieq_f (pc := 16) rw_36_16 (A := 1) rfl (by decide) (to_an (pc := 19) rw_36_19 rfl (to_an (pc := 20) rw_36_20 rfl (to_in (pc := 21) rw_36_21 rfl (to_in (pc := 22) rw_36_22 rfl (s_v (pc := 23) rw_36_23 (dp0 hd (by decide)) (ls0 := [.ref p, .ref 1, .int (M.2.1 1 8), .int (M.2.1 1 8)]) rfl (Nat.le_of_ble_eq_true rfl) (Nat.le_of_ble_eq_true rfl) rfl (to_rc rfl rfl rfl (g_o hG (by rcases hp with rfl | rfl <;> rfl))) rfl (C_39 hX (dp1 hd (by decide)) hG hp (p := p) (f := (M.2.1 1 8)) (l := (M.2.1 1 8)) (fun r19 M24 hG21 F20 p_22 p_23 => ?_))))))))))
        have F25 := FR.c F0 F20 tg_114
        refine b_ine (pc := 26) rw_36_26 (A := r19.toInt) rfl (fun h26 => ?_) (fun h26 => ?_)
        · refine to_an (pc := 31) rw_36_31 rfl (s_v (pc := 32) rw_36_32 (dp0 hd (by decide)) (ls0 := [.ref 1]) rfl (Nat.le_of_ble_eq_true rfl) (Nat.le_of_ble_eq_true rfl) rfl (to_rc rfl rfl rfl (g_o hG21 rfl)) rfl (C_83 hX (dp1 hd (by decide)) hG21  (fun M29 hG28 F27 => ?_)))
          have F30 := FR.c F25 F27 tg_114
          refine to_an (pc := 35) rw_36_35 rfl (tt_gI (pc := 36) rw_36_36 (g_o hG28 rfl) (v := (M29.2.1 1 8)) rfl (to_is (pc := 39) rw_36_39 (ls2 := [.ref p, .ref 1, .int w, .int (M.2.1 1 8), .int (M29.2.1 1 8), .null]) rfl rfl (to_an (pc := 41) rw_36_41 rfl ?_)))
          have c_31 : M29.2.1 p 0 = (M.2.1 p 0) := (F_n F27 (show ¬ (p = 1 ∧ 5 ≤ 0 ∨ 3 ≤ p ∧ p ≤ 5) by omega) (F_n F20 (show ¬ (p = 1 ∧ 5 ≤ 0 ∨ 3 ≤ p ∧ p ≤ 5) by omega) rfl))
          refine tt_gI (pc := 42) rw_36_42 (g_o hG28 (by rcases hp with rfl | rfl <;> rfl)) (v := (M.2.1 p 0)) c_31 (to_c (pc := 45) rw_36_45 (x := (1 : Int32)) rfl rfl (s_sub (pc := 46) rw_36_46 (A := (M.2.1 p 0).toInt) (B := 1) rfl rfl (by omega) (fun v32 e33 => to_in (pc := 47) rw_36_47 rfl (to_c (pc := 48) rw_36_48 (x := (24 : Int32)) rfl rfl (s_add (pc := 50) rw_36_50 (A := (M.2.1 1 8).toInt) (B := 24) rfl rfl (by omega) (fun v34 e35 => to_c (pc := 51) rw_36_51 (x := (1 : Int32)) rfl rfl (s_sub (pc := 52) rw_36_52 (A := v34.toInt) (B := 1) rfl rfl (by omega) (fun v36 e37 => s_min (pc := 53) rw_36_53 rfl (A := v32.toInt) (B := v36.toInt) rfl rfl (fun v38 _ _ _ => to_is (pc := 56) rw_36_56 (ls2 := [.ref p, .ref 1, .int w, .int (M.2.1 1 8), .int (M29.2.1 1 8), .int v38]) rfl rfl (to_an (pc := 58) rw_36_58 rfl (to_in (pc := 59) rw_36_59 rfl ?_)))))))))))
          refine to_in (pc := 60) rw_36_60 rfl (s_add (pc := 61) rw_36_61 (A := (M.2.1 1 8).toInt) (B := w.toInt) rfl rfl (by omega) (fun v39 e40 => to_c (pc := 62) rw_36_62 (x := (1 : Int32)) rfl rfl (s_sub (pc := 63) rw_36_63 (A := v39.toInt) (B := 1) rfl rfl (by omega) (fun v41 e42 => to_i (pc := 64) rw_36_64 rfl (s_v (pc := 66) rw_36_66 (dp0 hd (by decide)) (ls0 := [.ref 1, .int v41, .int v38]) rfl (Nat.le_of_ble_eq_true rfl) (Nat.le_of_ble_eq_true rfl) rfl (to_rc rfl rfl rfl (g_o hG28 rfl)) rfl (to_an (pc := 0) rw_88_0 rfl (tt_gI (pc := 1) rw_88_1 (g_o hG28 rfl) (v := (M29.2.1 1 7)) rfl (to_c (pc := 4) rw_88_4 (x := (2 : Int32)) rfl rfl (b_ceq (pc := 5) rw_88_5 (A := (M29.2.1 1 7).toInt) (B := 2) rfl rfl (fun h43 => ?_) (fun h43 => ?_))))))))))
          · refine to_an (pc := 14) rw_88_14 rfl (tt_gI (pc := 15) rw_88_15 (g_o hG28 rfl) (v := (M29.2.1 1 8)) rfl (to_in (pc := 18) rw_88_18 rfl (b_clt (pc := 19) rw_88_19 (A := (M29.2.1 1 8).toInt) (B := v41.toInt) rfl rfl (fun h44 => ?_) (fun h44 => ?_))))
            · refine to_an (pc := 30) rw_88_30 rfl (to_c (pc := 31) rw_88_31 (x := (2 : Int32)) rfl rfl (s_v (pc := 32) rw_88_32 (dp1 hd (by decide)) (ls0 := [.ref 1, .int (2 : Int32)]) rfl (Nat.le_of_ble_eq_true rfl) (Nat.le_of_ble_eq_true rfl) rfl (to_rc rfl rfl rfl (g_o hG28 rfl)) rfl (to_an (pc := 0) rw_84_0 rfl (to_in (pc := 1) rw_84_1 rfl (s_pI (pc := 2) rw_84_2 hG28 rfl (fun M46 W45 => ?_))))))
              have hG47 := g_wf hG28 W45 rfl rfl (by decide)
              have F48 := FR.w F30 W45 (show 1 = 1 ∧ 5 ≤ 10 ∨ 3 ≤ 1 ∧ 1 ≤ 5 ∨ 50 ≤ 1 ∧ 1 ≤ 57 ∨ 59 ≤ 1 ∧ 1 ≤ 66 by decide)
              refine to_an (pc := 5) rw_84_5 rfl (to_an (pc := 6) rw_84_6 rfl ?_)
              have c_49 : M46.2.1 1 9 = (M29.2.1 1 9) := (W_n W45 (by decide) rfl)
              refine tt_gI (pc := 7) rw_84_7 (g_o hG47 rfl) (v := (M29.2.1 1 9)) c_49 (s_pI (pc := 10) rw_84_10 hG47 rfl (fun M51 W50 => ?_))
              have hG52 := g_wf hG47 W50 rfl rfl (by decide)
              have F53 := FR.w F48 W50 (show 1 = 1 ∧ 5 ≤ 11 ∨ 3 ≤ 1 ∧ 1 ≤ 5 ∨ 50 ≤ 1 ∧ 1 ≤ 57 ∨ 59 ≤ 1 ∧ 1 ≤ 66 by decide)
              refine to_c (pc := 13) rw_84_13 (x := (0 : Int32)) rfl rfl (s_r1 (pc := 14) rw_84_14 (A := 0) rfl (by decide) (b_ieq_t (pc := 35) rw_88_35 (A := 0) rfl (by decide) (to_c (pc := 42) rw_88_42 (x := (0 : Int32)) rfl rfl (s_r1 (pc := 43) rw_88_43 (A := 0) rfl (by decide) (b_ieq_t (pc := 69) rw_36_69 (A := 0) rfl (by decide) (to_c (pc := 83) rw_36_83 (x := (0 : Int32)) rfl rfl (s_r1 (pc := 84) rw_36_84 (A := 0) rfl (by decide) ?_)))))))
              have k_54 : (0 : Int32).toInt = 0 := rfl
              have j_55 := (PI_f (fun a i z => W_n W50 (by /-r1,11-/ omega) rfl) (PI_f (fun a i z => W_n W45 (by /-r1,10-/ omega) rfl) (PI_f (tg_112 F27) (PI_f (tg_112 F20) q4))))
              exact h (0 : Int32) M51 hG52 F53 (by decide) (by decide) j_55
            · refine to_an (pc := 22) rw_88_22 rfl (tt_gI (pc := 23) rw_88_23 (g_o hG28 rfl) (v := (M29.2.1 1 8)) rfl (to_in (pc := 26) rw_88_26 rfl (b_cle (pc := 27) rw_88_27 (A := (M29.2.1 1 8).toInt) (B := v38.toInt) rfl rfl (fun h56 => ?_) (fun h56 => ?_))))
              · refine to_c (pc := 38) rw_88_38 (x := (1 : Int32)) rfl rfl (to_go (pc := 39) rw_88_39 (s_r1 (pc := 43) rw_88_43 (A := 1) rfl (by decide) (b_ieq_f (pc := 69) rw_36_69 (A := 1) rfl (by decide) (to_an (pc := 72) rw_36_72 rfl (to_an (pc := 73) rw_36_73 rfl (to_in (pc := 74) rw_36_74 rfl (to_i (pc := 75) rw_36_75 rfl (s_v (pc := 77) rw_36_77 (dp0 hd (by decide)) (ls0 := [.ref p, .ref 1, .int (M.2.1 1 8), .int (M29.2.1 1 8)]) rfl (Nat.le_of_ble_eq_true rfl) (Nat.le_of_ble_eq_true rfl) rfl (to_rc rfl rfl rfl (g_o hG28 (by rcases hp with rfl | rfl <;> rfl))) rfl (C_39 hX (dp1 hd (by decide)) hG28 hp (p := p) (f := (M.2.1 1 8)) (l := (M29.2.1 1 8)) (fun r57 M62 hG59 F58 p_60 p_61 => ?_))))))))))
                have F63 := FR.c F30 F58 tg_114
                refine b_ine (pc := 80) rw_36_80 (A := r57.toInt) rfl (fun h64 => ?_) (fun h64 => ?_)
                · refine to_an (pc := 85) rw_36_85 rfl (s_v (pc := 86) rw_36_86 (dp0 hd (by decide)) (ls0 := [.ref 1]) rfl (Nat.le_of_ble_eq_true rfl) (Nat.le_of_ble_eq_true rfl) rfl (to_rc rfl rfl rfl (g_o hG59 rfl)) rfl (C_83 hX (dp1 hd (by decide)) hG59  (fun M67 hG66 F65 => ?_)))
                  have F68 := FR.c F63 F65 tg_114
                  refine to_an (pc := 89) rw_36_89 rfl (to_in (pc := 90) rw_36_90 rfl (to_i (pc := 91) rw_36_91 rfl (to_i (pc := 93) rw_36_93 rfl (to_in (pc := 95) rw_36_95 rfl (s_sub (pc := 96) rw_36_96 (A := (M29.2.1 1 8).toInt) (B := (M.2.1 1 8).toInt) rfl rfl (by omega) (fun v69 e70 => to_c (pc := 97) rw_36_97 (x := (1 : Int32)) rfl rfl (s_add (pc := 98) rw_36_98 (A := v69.toInt) (B := 1) rfl rfl (by omega) (fun v71 e72 => s_v (pc := 99) rw_36_99 (dp0 hd (by decide)) (ls0 := [.ref p, .int (M.2.1 1 8), .int (M29.2.1 1 8), .int v71]) rfl (Nat.le_of_ble_eq_true rfl) (Nat.le_of_ble_eq_true rfl) rfl (to_rc rfl rfl rfl (g_o hG66 (by rcases hp with rfl | rfl <;> rfl))) rfl ?_))))))))
                  have c_73 : M67.2.1 p 2 = (M.2.1 p 2) := (F_n F65 (show ¬ (p = 1 ∧ 5 ≤ 2 ∨ 3 ≤ p ∧ p ≤ 5) by omega) (F_n F58 (show ¬ (p = 1 ∧ 5 ≤ 2 ∨ 3 ≤ p ∧ p ≤ 5) by omega) (F_n F27 (show ¬ (p = 1 ∧ 5 ≤ 2 ∨ 3 ≤ p ∧ p ≤ 5) by omega) (F_n F20 (show ¬ (p = 1 ∧ 5 ≤ 2 ∨ 3 ≤ p ∧ p ≤ 5) by omega) rfl))))
                  have t_74 : (M67.2.1 p 2).toInt = (M.2.1 p 2).toInt := congrArg Int32.toInt c_73
                  have j_75 := (PI_f (tg_112 F65) (PI_f (tg_112 F58) (PI_f (tg_112 F27) (PI_f (tg_112 F20) q4))))
                  refine C_40 hX (dp1 hd (by decide)) hG66 hp (by omega) (by omega) (by omega) (by omega) (by omega) (by omega) (by omega) (by omega) j_75 (p := p) (f := (M.2.1 1 8)) (l := (M29.2.1 1 8)) (c := v71) (fun M79 hG77 F76 p_78 => ?_)
                  have F80 := FR.c F68 F76 tg_115
                  refine to_c (pc := 102) rw_36_102 (x := (1 : Int32)) rfl rfl (s_r1 (pc := 103) rw_36_103 (A := 1) rfl (by decide) ?_)
                  have k_81 : (1 : Int32).toInt = 1 := rfl
                  exact h (1 : Int32) M79 hG77 F80 (by decide) (by decide) p_78
                · refine to_c (pc := 83) rw_36_83 (x := (0 : Int32)) rfl rfl (s_r1 (pc := 84) rw_36_84 (A := 0) rfl (by decide) ?_)
                  have k_82 : (0 : Int32).toInt = 0 := rfl
                  have j_83 := (PI_f (tg_112 F58) (PI_f (tg_112 F27) (PI_f (tg_112 F20) q4)))
                  exact h (0 : Int32) M62 hG59 F63 (by decide) (by decide) j_83
              · refine to_an (pc := 30) rw_88_30 rfl (to_c (pc := 31) rw_88_31 (x := (2 : Int32)) rfl rfl (s_v (pc := 32) rw_88_32 (dp1 hd (by decide)) (ls0 := [.ref 1, .int (2 : Int32)]) rfl (Nat.le_of_ble_eq_true rfl) (Nat.le_of_ble_eq_true rfl) rfl (to_rc rfl rfl rfl (g_o hG28 rfl)) rfl (to_an (pc := 0) rw_84_0 rfl (to_in (pc := 1) rw_84_1 rfl (s_pI (pc := 2) rw_84_2 hG28 rfl (fun M85 W84 => ?_))))))
                have hG86 := g_wf hG28 W84 rfl rfl (by decide)
                have F87 := FR.w F30 W84 (show 1 = 1 ∧ 5 ≤ 10 ∨ 3 ≤ 1 ∧ 1 ≤ 5 ∨ 50 ≤ 1 ∧ 1 ≤ 57 ∨ 59 ≤ 1 ∧ 1 ≤ 66 by decide)
                refine to_an (pc := 5) rw_84_5 rfl (to_an (pc := 6) rw_84_6 rfl ?_)
                have c_88 : M85.2.1 1 9 = (M29.2.1 1 9) := (W_n W84 (by decide) rfl)
                refine tt_gI (pc := 7) rw_84_7 (g_o hG86 rfl) (v := (M29.2.1 1 9)) c_88 (s_pI (pc := 10) rw_84_10 hG86 rfl (fun M90 W89 => ?_))
                have hG91 := g_wf hG86 W89 rfl rfl (by decide)
                have F92 := FR.w F87 W89 (show 1 = 1 ∧ 5 ≤ 11 ∨ 3 ≤ 1 ∧ 1 ≤ 5 ∨ 50 ≤ 1 ∧ 1 ≤ 57 ∨ 59 ≤ 1 ∧ 1 ≤ 66 by decide)
                refine to_c (pc := 13) rw_84_13 (x := (0 : Int32)) rfl rfl (s_r1 (pc := 14) rw_84_14 (A := 0) rfl (by decide) (b_ieq_t (pc := 35) rw_88_35 (A := 0) rfl (by decide) (to_c (pc := 42) rw_88_42 (x := (0 : Int32)) rfl rfl (s_r1 (pc := 43) rw_88_43 (A := 0) rfl (by decide) (b_ieq_t (pc := 69) rw_36_69 (A := 0) rfl (by decide) (to_c (pc := 83) rw_36_83 (x := (0 : Int32)) rfl rfl (s_r1 (pc := 84) rw_36_84 (A := 0) rfl (by decide) ?_)))))))
                have k_93 : (0 : Int32).toInt = 0 := rfl
                have j_94 := (PI_f (fun a i z => W_n W89 (by /-r1,11-/ omega) rfl) (PI_f (fun a i z => W_n W84 (by /-r1,10-/ omega) rfl) (PI_f (tg_112 F27) (PI_f (tg_112 F20) q4))))
                exact h (0 : Int32) M90 hG91 F92 (by decide) (by decide) j_94
          · refine to_an (pc := 8) rw_88_8 rfl (to_c (pc := 9) rw_88_9 (x := (1 : Int32)) rfl rfl (s_v (pc := 10) rw_88_10 (dp1 hd (by decide)) (ls0 := [.ref 1, .int (1 : Int32)]) rfl (Nat.le_of_ble_eq_true rfl) (Nat.le_of_ble_eq_true rfl) rfl (to_rc rfl rfl rfl (g_o hG28 rfl)) rfl (to_an (pc := 0) rw_84_0 rfl (to_in (pc := 1) rw_84_1 rfl (s_pI (pc := 2) rw_84_2 hG28 rfl (fun M96 W95 => ?_))))))
            have hG97 := g_wf hG28 W95 rfl rfl (by decide)
            have F98 := FR.w F30 W95 (show 1 = 1 ∧ 5 ≤ 10 ∨ 3 ≤ 1 ∧ 1 ≤ 5 ∨ 50 ≤ 1 ∧ 1 ≤ 57 ∨ 59 ≤ 1 ∧ 1 ≤ 66 by decide)
            refine to_an (pc := 5) rw_84_5 rfl (to_an (pc := 6) rw_84_6 rfl ?_)
            have c_99 : M96.2.1 1 9 = (M29.2.1 1 9) := (W_n W95 (by decide) rfl)
            refine tt_gI (pc := 7) rw_84_7 (g_o hG97 rfl) (v := (M29.2.1 1 9)) c_99 (s_pI (pc := 10) rw_84_10 hG97 rfl (fun M101 W100 => ?_))
            have hG102 := g_wf hG97 W100 rfl rfl (by decide)
            have F103 := FR.w F98 W100 (show 1 = 1 ∧ 5 ≤ 11 ∨ 3 ≤ 1 ∧ 1 ≤ 5 ∨ 50 ≤ 1 ∧ 1 ≤ 57 ∨ 59 ≤ 1 ∧ 1 ≤ 66 by decide)
            refine to_c (pc := 13) rw_84_13 (x := (0 : Int32)) rfl rfl (s_r1 (pc := 14) rw_84_14 (A := 0) rfl (by decide) (s_r1 (pc := 13) rw_88_13 (A := 0) rfl (by decide) (b_ieq_t (pc := 69) rw_36_69 (A := 0) rfl (by decide) (to_c (pc := 83) rw_36_83 (x := (0 : Int32)) rfl rfl (s_r1 (pc := 84) rw_36_84 (A := 0) rfl (by decide) ?_)))))
            have k_104 : (0 : Int32).toInt = 0 := rfl
            have j_105 := (PI_f (fun a i z => W_n W100 (by /-r1,11-/ omega) rfl) (PI_f (fun a i z => W_n W95 (by /-r1,10-/ omega) rfl) (PI_f (tg_112 F27) (PI_f (tg_112 F20) q4))))
            exact h (0 : Int32) M101 hG102 F103 (by decide) (by decide) j_105
        · refine to_c (pc := 29) rw_36_29 (x := (0 : Int32)) rfl rfl (s_r1 (pc := 30) rw_36_30 (A := 0) rfl (by decide) ?_)
          have k_106 : (0 : Int32).toInt = 0 := rfl
          have j_107 := (PI_f (tg_112 F20) q4)
          exact h (0 : Int32) M24 hG21 F25 (by decide) (by decide) j_107
      · refine to_an (pc := 30) rw_88_30 rfl (to_c (pc := 31) rw_88_31 (x := (2 : Int32)) rfl rfl (s_v (pc := 32) rw_88_32 (dp1 hd (by decide)) (ls0 := [.ref 1, .int (2 : Int32)]) rfl (Nat.le_of_ble_eq_true rfl) (Nat.le_of_ble_eq_true rfl) rfl (to_rc rfl rfl rfl (g_o hG rfl)) rfl (to_an (pc := 0) rw_84_0 rfl (to_in (pc := 1) rw_84_1 rfl (s_pI (pc := 2) rw_84_2 hG rfl (fun M109 W108 => ?_))))))
        have hG110 := g_wf hG W108 rfl rfl (by decide)
        have F111 := FR.w F0 W108 (show 1 = 1 ∧ 5 ≤ 10 ∨ 3 ≤ 1 ∧ 1 ≤ 5 ∨ 50 ≤ 1 ∧ 1 ≤ 57 ∨ 59 ≤ 1 ∧ 1 ≤ 66 by decide)
        refine to_an (pc := 5) rw_84_5 rfl (to_an (pc := 6) rw_84_6 rfl ?_)
        have c_112 : M109.2.1 1 9 = (M.2.1 1 9) := (W_n W108 (by decide) rfl)
        refine tt_gI (pc := 7) rw_84_7 (g_o hG110 rfl) (v := (M.2.1 1 9)) c_112 (s_pI (pc := 10) rw_84_10 hG110 rfl (fun M114 W113 => ?_))
        have hG115 := g_wf hG110 W113 rfl rfl (by decide)
        have F116 := FR.w F111 W113 (show 1 = 1 ∧ 5 ≤ 11 ∨ 3 ≤ 1 ∧ 1 ≤ 5 ∨ 50 ≤ 1 ∧ 1 ≤ 57 ∨ 59 ≤ 1 ∧ 1 ≤ 66 by decide)
        refine to_c (pc := 13) rw_84_13 (x := (0 : Int32)) rfl rfl (s_r1 (pc := 14) rw_84_14 (A := 0) rfl (by decide) (b_ieq_t (pc := 35) rw_88_35 (A := 0) rfl (by decide) (to_c (pc := 42) rw_88_42 (x := (0 : Int32)) rfl rfl (s_r1 (pc := 43) rw_88_43 (A := 0) rfl (by decide) (b_ieq_t (pc := 16) rw_36_16 (A := 0) rfl (by decide) (to_c (pc := 29) rw_36_29 (x := (0 : Int32)) rfl rfl (s_r1 (pc := 30) rw_36_30 (A := 0) rfl (by decide) ?_)))))))
        have k_117 : (0 : Int32).toInt = 0 := rfl
        have j_118 := (PI_f (fun a i z => W_n W113 (by /-r1,11-/ omega) rfl) (PI_f (fun a i z => W_n W108 (by /-r1,10-/ omega) rfl) q4))
        exact h (0 : Int32) M114 hG115 F116 (by decide) (by decide) j_118
  · refine to_an (pc := 8) rw_88_8 rfl (to_c (pc := 9) rw_88_9 (x := (1 : Int32)) rfl rfl (s_v (pc := 10) rw_88_10 (dp1 hd (by decide)) (ls0 := [.ref 1, .int (1 : Int32)]) rfl (Nat.le_of_ble_eq_true rfl) (Nat.le_of_ble_eq_true rfl) rfl (to_rc rfl rfl rfl (g_o hG rfl)) rfl (to_an (pc := 0) rw_84_0 rfl (to_in (pc := 1) rw_84_1 rfl (s_pI (pc := 2) rw_84_2 hG rfl (fun M120 W119 => ?_))))))
    have hG121 := g_wf hG W119 rfl rfl (by decide)
    have F122 := FR.w F0 W119 (show 1 = 1 ∧ 5 ≤ 10 ∨ 3 ≤ 1 ∧ 1 ≤ 5 ∨ 50 ≤ 1 ∧ 1 ≤ 57 ∨ 59 ≤ 1 ∧ 1 ≤ 66 by decide)
    refine to_an (pc := 5) rw_84_5 rfl (to_an (pc := 6) rw_84_6 rfl ?_)
    have c_123 : M120.2.1 1 9 = (M.2.1 1 9) := (W_n W119 (by decide) rfl)
    refine tt_gI (pc := 7) rw_84_7 (g_o hG121 rfl) (v := (M.2.1 1 9)) c_123 (s_pI (pc := 10) rw_84_10 hG121 rfl (fun M125 W124 => ?_))
    have hG126 := g_wf hG121 W124 rfl rfl (by decide)
    have F127 := FR.w F122 W124 (show 1 = 1 ∧ 5 ≤ 11 ∨ 3 ≤ 1 ∧ 1 ≤ 5 ∨ 50 ≤ 1 ∧ 1 ≤ 57 ∨ 59 ≤ 1 ∧ 1 ≤ 66 by decide)
    refine to_c (pc := 13) rw_84_13 (x := (0 : Int32)) rfl rfl (s_r1 (pc := 14) rw_84_14 (A := 0) rfl (by decide) (s_r1 (pc := 13) rw_88_13 (A := 0) rfl (by decide) (b_ieq_t (pc := 16) rw_36_16 (A := 0) rfl (by decide) (to_c (pc := 29) rw_36_29 (x := (0 : Int32)) rfl rfl (s_r1 (pc := 30) rw_36_30 (A := 0) rfl (by decide) ?_)))))
    have k_128 : (0 : Int32).toInt = 0 := rfl
    have j_129 := (PI_f (fun a i z => W_n W124 (by /-r1,11-/ omega) rfl) (PI_f (fun a i z => W_n W119 (by /-r1,10-/ omega) rfl) q4))
    exact h (0 : Int32) M125 hG126 F127 (by decide) (by decide) j_129
set_option maxRecDepth 4000 in
set_option maxHeartbeats 0 in
theorem C_37 {X : mm_X} {d : Nat} {M : mm_M} {Q : Option Value → mm_M → Prop} {p : Nat} {w : Int32} (hX : g_X X) (hd : 2 ≤ d) (hG : g_G M) (hp : p = 49 ∨ p = 58) (q1 : 4 ≤ w.toInt) (q2 : w.toInt ≤ 5) (q3 : (M.2.1 p 2).toInt ≤ 7) (q4 : PI M) (h : ∀ (r : Int32) (M1 : mm_M), g_G M1 → FR md_pr M M1 → (0 ≤ r.toInt) → (r.toInt ≤ 1) → PI M1 → Q (some (.int r)) M1) : mm_T X d 37 0 [.ref p, .ref 1, .int w, .null, .null] [] M Q := by
  have F0 : FR md_pr M M := FR.rf
  have b_1 := g_b hG (a := p) (i := 2) (lo := 0) (hi := 8) (by rcases hp with rfl | rfl <;> rfl) (by rcases hp with rfl | rfl <;> rfl)
  refine to_an (pc := 0) rw_37_0 rfl (tt_gI (pc := 1) rw_37_1 (g_o hG rfl) (v := (M.2.1 1 8)) rfl (to_isn (pc := 4) rw_37_4 (ls2 := [.ref p, .ref 1, .int w, .int (M.2.1 1 8), .null]) rfl rfl (to_in (pc := 5) rw_37_5 rfl (to_in (pc := 6) rw_37_6 rfl (s_addo (pc := 7) rw_37_7 (A := (M.2.1 1 8).toInt) (B := w.toInt) rfl rfl (fun v2 e3 => to_c (pc := 8) rw_37_8 (x := (1 : Int32)) rfl rfl (s_subo (pc := 9) rw_37_9 (A := v2.toInt) (B := 1) rfl rfl (fun v4 e5 => to_is (pc := 10) rw_37_10 (ls2 := [.ref p, .ref 1, .int w, .int (M.2.1 1 8), .int v4]) rfl rfl (to_an (pc := 12) rw_37_12 rfl (to_c (pc := 13) rw_37_13 (x := (0 : Int32)) rfl rfl (to_an (pc := 14) rw_37_14 rfl ?_)))))))))))
  have b_6 := g_b hG (a := p) (i := 0) (lo := 10) (hi := 60) (by rcases hp with rfl | rfl <;> rfl) (by rcases hp with rfl | rfl <;> rfl)
  refine tt_gI (pc := 15) rw_37_15 (g_o hG (by rcases hp with rfl | rfl <;> rfl)) (v := (M.2.1 p 0)) rfl (to_in (pc := 18) rw_37_18 rfl (s_sub (pc := 19) rw_37_19 (A := (M.2.1 p 0).toInt) (B := w.toInt) rfl rfl (by omega) (fun v7 e8 => s_v (pc := 20) rw_37_20 (dp0 hd (by decide)) (ls0 := [.ref 1, .int (0 : Int32), .int v7]) rfl (Nat.le_of_ble_eq_true rfl) (Nat.le_of_ble_eq_true rfl) rfl (to_rc rfl rfl rfl (g_o hG rfl)) rfl (to_an (pc := 0) rw_88_0 rfl (tt_gI (pc := 1) rw_88_1 (g_o hG rfl) (v := (M.2.1 1 7)) rfl (to_c (pc := 4) rw_88_4 (x := (2 : Int32)) rfl rfl (b_ceq (pc := 5) rw_88_5 (A := (M.2.1 1 7).toInt) (B := 2) rfl rfl (fun h9 => ?_) (fun h9 => ?_))))))))
  · refine to_an (pc := 14) rw_88_14 rfl (tt_gI (pc := 15) rw_88_15 (g_o hG rfl) (v := (M.2.1 1 8)) rfl (to_in (pc := 18) rw_88_18 rfl (b_clt (pc := 19) rw_88_19 (A := (M.2.1 1 8).toInt) (B := 0) rfl rfl (fun h10 => ?_) (fun h10 => ?_))))
    · refine to_an (pc := 30) rw_88_30 rfl (to_c (pc := 31) rw_88_31 (x := (2 : Int32)) rfl rfl (s_v (pc := 32) rw_88_32 (dp1 hd (by decide)) (ls0 := [.ref 1, .int (2 : Int32)]) rfl (Nat.le_of_ble_eq_true rfl) (Nat.le_of_ble_eq_true rfl) rfl (to_rc rfl rfl rfl (g_o hG rfl)) rfl (to_an (pc := 0) rw_84_0 rfl (to_in (pc := 1) rw_84_1 rfl (s_pI (pc := 2) rw_84_2 hG rfl (fun M12 W11 => ?_))))))
      have hG13 := g_wf hG W11 rfl rfl (by decide)
      have F14 := FR.w F0 W11 (show 1 = 1 ∧ 5 ≤ 10 ∨ 3 ≤ 1 ∧ 1 ≤ 5 ∨ 50 ≤ 1 ∧ 1 ≤ 57 ∨ 59 ≤ 1 ∧ 1 ≤ 66 by decide)
      refine to_an (pc := 5) rw_84_5 rfl (to_an (pc := 6) rw_84_6 rfl ?_)
      have c_15 : M12.2.1 1 9 = (M.2.1 1 9) := (W_n W11 (by decide) rfl)
      refine tt_gI (pc := 7) rw_84_7 (g_o hG13 rfl) (v := (M.2.1 1 9)) c_15 (s_pI (pc := 10) rw_84_10 hG13 rfl (fun M17 W16 => ?_))
      have hG18 := g_wf hG13 W16 rfl rfl (by decide)
      have F19 := FR.w F14 W16 (show 1 = 1 ∧ 5 ≤ 11 ∨ 3 ≤ 1 ∧ 1 ≤ 5 ∨ 50 ≤ 1 ∧ 1 ≤ 57 ∨ 59 ≤ 1 ∧ 1 ≤ 66 by decide)
      refine to_c (pc := 13) rw_84_13 (x := (0 : Int32)) rfl rfl (s_r1 (pc := 14) rw_84_14 (A := 0) rfl (by decide) (b_ieq_t (pc := 35) rw_88_35 (A := 0) rfl (by decide) (to_c (pc := 42) rw_88_42 (x := (0 : Int32)) rfl rfl (s_r1 (pc := 43) rw_88_43 (A := 0) rfl (by decide) (b_ieq_t (pc := 23) rw_37_23 (A := 0) rfl (by decide) (to_c (pc := 37) rw_37_37 (x := (0 : Int32)) rfl rfl (s_r1 (pc := 38) rw_37_38 (A := 0) rfl (by decide) ?_)))))))
      have k_20 : (0 : Int32).toInt = 0 := rfl
      have j_21 := (PI_f (fun a i z => W_n W16 (by /-r1,11-/ omega) rfl) (PI_f (fun a i z => W_n W11 (by /-r1,10-/ omega) rfl) q4))
      exact h (0 : Int32) M17 hG18 F19 (by decide) (by decide) j_21
    · refine to_an (pc := 22) rw_88_22 rfl (tt_gI (pc := 23) rw_88_23 (g_o hG rfl) (v := (M.2.1 1 8)) rfl (to_in (pc := 26) rw_88_26 rfl (b_cle (pc := 27) rw_88_27 (A := (M.2.1 1 8).toInt) (B := v7.toInt) rfl rfl (fun h22 => ?_) (fun h22 => ?_))))
      · refine to_c (pc := 38) rw_88_38 (x := (1 : Int32)) rfl rfl (to_go (pc := 39) rw_88_39 (s_r1 (pc := 43) rw_88_43 (A := 1) rfl (by decide) (b_ieq_f (pc := 23) rw_37_23 (A := 1) rfl (by decide) (to_an (pc := 26) rw_37_26 rfl (to_an (pc := 27) rw_37_27 rfl (to_in (pc := 28) rw_37_28 rfl (to_i (pc := 29) rw_37_29 rfl (s_v (pc := 31) rw_37_31 (dp0 hd (by decide)) (ls0 := [.ref p, .ref 1, .int (M.2.1 1 8), .int v4]) rfl (Nat.le_of_ble_eq_true rfl) (Nat.le_of_ble_eq_true rfl) rfl (to_rc rfl rfl rfl (g_o hG (by rcases hp with rfl | rfl <;> rfl))) rfl (C_39 hX (dp1 hd (by decide)) hG hp (p := p) (f := (M.2.1 1 8)) (l := v4) (fun r23 M28 hG25 F24 p_26 p_27 => ?_))))))))))
        have F29 := FR.c F0 F24 tg_114
        refine b_ine (pc := 34) rw_37_34 (A := r23.toInt) rfl (fun h30 => ?_) (fun h30 => ?_)
        · refine to_an (pc := 39) rw_37_39 rfl (s_v (pc := 40) rw_37_40 (dp0 hd (by decide)) (ls0 := [.ref 1]) rfl (Nat.le_of_ble_eq_true rfl) (Nat.le_of_ble_eq_true rfl) rfl (to_rc rfl rfl rfl (g_o hG25 rfl)) rfl (C_83 hX (dp1 hd (by decide)) hG25  (fun M33 hG32 F31 => ?_)))
          have F34 := FR.c F29 F31 tg_114
          refine to_an (pc := 43) rw_37_43 rfl (to_in (pc := 44) rw_37_44 rfl (to_i (pc := 45) rw_37_45 rfl (to_c (pc := 47) rw_37_47 (x := (10 : Int32)) rfl rfl (s_v (pc := 49) rw_37_49 (dp0 hd (by decide)) (ls0 := [.ref p, .int (M.2.1 1 8), .int v4, .int (10 : Int32)]) rfl (Nat.le_of_ble_eq_true rfl) (Nat.le_of_ble_eq_true rfl) rfl (to_rc rfl rfl rfl (g_o hG32 (by rcases hp with rfl | rfl <;> rfl))) rfl ?_))))
          have k_35 : (10 : Int32).toInt = 10 := rfl
          have c_36 : M33.2.1 p 2 = (M.2.1 p 2) := (F_n F31 (show ¬ (p = 1 ∧ 5 ≤ 2 ∨ 3 ≤ p ∧ p ≤ 5) by omega) (F_n F24 (show ¬ (p = 1 ∧ 5 ≤ 2 ∨ 3 ≤ p ∧ p ≤ 5) by omega) rfl))
          have t_37 : (M33.2.1 p 2).toInt = (M.2.1 p 2).toInt := congrArg Int32.toInt c_36
          have j_38 := (PI_f (tg_112 F31) (PI_f (tg_112 F24) q4))
          refine C_40 hX (dp1 hd (by decide)) hG32 hp (by omega) (by omega) (by omega) (by omega) (by omega) (by omega) (by omega) (by omega) j_38 (p := p) (f := (M.2.1 1 8)) (l := v4) (c := (10 : Int32)) (fun M42 hG40 F39 p_41 => ?_)
          have F43 := FR.c F34 F39 tg_115
          refine to_c (pc := 52) rw_37_52 (x := (1 : Int32)) rfl rfl (s_r1 (pc := 53) rw_37_53 (A := 1) rfl (by decide) ?_)
          have k_44 : (1 : Int32).toInt = 1 := rfl
          exact h (1 : Int32) M42 hG40 F43 (by decide) (by decide) p_41
        · refine to_c (pc := 37) rw_37_37 (x := (0 : Int32)) rfl rfl (s_r1 (pc := 38) rw_37_38 (A := 0) rfl (by decide) ?_)
          have k_45 : (0 : Int32).toInt = 0 := rfl
          have j_46 := (PI_f (tg_112 F24) q4)
          exact h (0 : Int32) M28 hG25 F29 (by decide) (by decide) j_46
      · refine to_an (pc := 30) rw_88_30 rfl (to_c (pc := 31) rw_88_31 (x := (2 : Int32)) rfl rfl (s_v (pc := 32) rw_88_32 (dp1 hd (by decide)) (ls0 := [.ref 1, .int (2 : Int32)]) rfl (Nat.le_of_ble_eq_true rfl) (Nat.le_of_ble_eq_true rfl) rfl (to_rc rfl rfl rfl (g_o hG rfl)) rfl (to_an (pc := 0) rw_84_0 rfl (to_in (pc := 1) rw_84_1 rfl (s_pI (pc := 2) rw_84_2 hG rfl (fun M48 W47 => ?_))))))
        have hG49 := g_wf hG W47 rfl rfl (by decide)
        have F50 := FR.w F0 W47 (show 1 = 1 ∧ 5 ≤ 10 ∨ 3 ≤ 1 ∧ 1 ≤ 5 ∨ 50 ≤ 1 ∧ 1 ≤ 57 ∨ 59 ≤ 1 ∧ 1 ≤ 66 by decide)
        refine to_an (pc := 5) rw_84_5 rfl (to_an (pc := 6) rw_84_6 rfl ?_)
        have c_51 : M48.2.1 1 9 = (M.2.1 1 9) := (W_n W47 (by decide) rfl)
        refine tt_gI (pc := 7) rw_84_7 (g_o hG49 rfl) (v := (M.2.1 1 9)) c_51 (s_pI (pc := 10) rw_84_10 hG49 rfl (fun M53 W52 => ?_))
        have hG54 := g_wf hG49 W52 rfl rfl (by decide)
        have F55 := FR.w F50 W52 (show 1 = 1 ∧ 5 ≤ 11 ∨ 3 ≤ 1 ∧ 1 ≤ 5 ∨ 50 ≤ 1 ∧ 1 ≤ 57 ∨ 59 ≤ 1 ∧ 1 ≤ 66 by decide)
        refine to_c (pc := 13) rw_84_13 (x := (0 : Int32)) rfl rfl (s_r1 (pc := 14) rw_84_14 (A := 0) rfl (by decide) (b_ieq_t (pc := 35) rw_88_35 (A := 0) rfl (by decide) (to_c (pc := 42) rw_88_42 (x := (0 : Int32)) rfl rfl (s_r1 (pc := 43) rw_88_43 (A := 0) rfl (by decide) (b_ieq_t (pc := 23) rw_37_23 (A := 0) rfl (by decide) (to_c (pc := 37) rw_37_37 (x := (0 : Int32)) rfl rfl (s_r1 (pc := 38) rw_37_38 (A := 0) rfl (by decide) ?_)))))))
        have k_56 : (0 : Int32).toInt = 0 := rfl
        have j_57 := (PI_f (fun a i z => W_n W52 (by /-r1,11-/ omega) rfl) (PI_f (fun a i z => W_n W47 (by /-r1,10-/ omega) rfl) q4))
        exact h (0 : Int32) M53 hG54 F55 (by decide) (by decide) j_57
  · refine to_an (pc := 8) rw_88_8 rfl (to_c (pc := 9) rw_88_9 (x := (1 : Int32)) rfl rfl (s_v (pc := 10) rw_88_10 (dp1 hd (by decide)) (ls0 := [.ref 1, .int (1 : Int32)]) rfl (Nat.le_of_ble_eq_true rfl) (Nat.le_of_ble_eq_true rfl) rfl (to_rc rfl rfl rfl (g_o hG rfl)) rfl (to_an (pc := 0) rw_84_0 rfl (to_in (pc := 1) rw_84_1 rfl (s_pI (pc := 2) rw_84_2 hG rfl (fun M59 W58 => ?_))))))
    have hG60 := g_wf hG W58 rfl rfl (by decide)
    have F61 := FR.w F0 W58 (show 1 = 1 ∧ 5 ≤ 10 ∨ 3 ≤ 1 ∧ 1 ≤ 5 ∨ 50 ≤ 1 ∧ 1 ≤ 57 ∨ 59 ≤ 1 ∧ 1 ≤ 66 by decide)
    refine to_an (pc := 5) rw_84_5 rfl (to_an (pc := 6) rw_84_6 rfl ?_)
    have c_62 : M59.2.1 1 9 = (M.2.1 1 9) := (W_n W58 (by decide) rfl)
    refine tt_gI (pc := 7) rw_84_7 (g_o hG60 rfl) (v := (M.2.1 1 9)) c_62 (s_pI (pc := 10) rw_84_10 hG60 rfl (fun M64 W63 => ?_))
    have hG65 := g_wf hG60 W63 rfl rfl (by decide)
    have F66 := FR.w F61 W63 (show 1 = 1 ∧ 5 ≤ 11 ∨ 3 ≤ 1 ∧ 1 ≤ 5 ∨ 50 ≤ 1 ∧ 1 ≤ 57 ∨ 59 ≤ 1 ∧ 1 ≤ 66 by decide)
    refine to_c (pc := 13) rw_84_13 (x := (0 : Int32)) rfl rfl (s_r1 (pc := 14) rw_84_14 (A := 0) rfl (by decide) (s_r1 (pc := 13) rw_88_13 (A := 0) rfl (by decide) (b_ieq_t (pc := 23) rw_37_23 (A := 0) rfl (by decide) (to_c (pc := 37) rw_37_37 (x := (0 : Int32)) rfl rfl (s_r1 (pc := 38) rw_37_38 (A := 0) rfl (by decide) ?_)))))
    have k_67 : (0 : Int32).toInt = 0 := rfl
    have j_68 := (PI_f (fun a i z => W_n W63 (by /-r1,11-/ omega) rfl) (PI_f (fun a i z => W_n W58 (by /-r1,10-/ omega) rfl) q4))
    exact h (0 : Int32) M64 hG65 F66 (by decide) (by decide) j_68
set_option maxRecDepth 4000 in
set_option maxHeartbeats 0 in
theorem C_38 {X : mm_X} {d : Nat} {M : mm_M} {Q : Option Value → mm_M → Prop} {p : Nat} (hX : g_X X) (hd : 2 ≤ d) (hG : g_G M) (hp : p = 49 ∨ p = 58) (q1 : (M.2.1 p 2).toInt ≤ 7) (q2 : PI M) (h : ∀ (r : Int32) (M1 : mm_M), g_G M1 → FR md_pr M M1 → (0 ≤ r.toInt) → (r.toInt ≤ 1) → PI M1 → Q (some (.int r)) M1) : mm_T X d 38 0 [.ref p, .ref 1] [] M Q := by
  have F0 : FR md_pr M M := FR.rf
  have b_1 := g_b hG (a := p) (i := 2) (lo := 0) (hi := 8) (by rcases hp with rfl | rfl <;> rfl) (by rcases hp with rfl | rfl <;> rfl)
  refine to_an (pc := 0) rw_38_0 rfl (to_c (pc := 1) rw_38_1 (x := (1 : Int32)) rfl rfl (to_c (pc := 2) rw_38_2 (x := (4 : Int32)) rfl rfl (to_an (pc := 3) rw_38_3 rfl (to_an (pc := 4) rw_38_4 rfl (tt_gI (pc := 5) rw_38_5 (g_o hG (by rcases hp with rfl | rfl <;> rfl)) (v := (M.2.1 p 2)) rfl (s_v (pc := 8) rw_38_8 (dp0 hd (by decide)) (ls0 := [.ref p, .int (M.2.1 p 2)]) rfl (Nat.le_of_ble_eq_true rfl) (Nat.le_of_ble_eq_true rfl) rfl (to_rc rfl rfl rfl (g_o hG (by rcases hp with rfl | rfl <;> rfl))) rfl (to_an (pc := 0) rw_47_0 rfl (s_gR (pc := 1) rw_47_1 hG (by rcases hp with rfl | rfl <;> rfl) (v := (p + 4)) (by rcases hp with rfl | rfl <;> rfl) (to_in (pc := 4) rw_47_4 rfl (s_ial (pc := 5) rw_47_5 hG (by rcases hp with rfl | rfl <;> rfl) (n := 8) (by rcases hp with rfl | rfl <;> rfl) (by rcases hp with rfl | rfl <;> rfl) (A := (M.2.1 p 2).toInt) rfl (by omega) (by omega) (lo := 0) (hi := 63) (by rcases hp with rfl | rfl <;> rfl) (by rcases hp with rfl | rfl <;> rfl) (fun v2 w_3 _ _ => to_an (pc := 6) rw_47_6 rfl ?_)))))))))))
  refine s_gR (pc := 7) rw_47_7 hG (by rcases hp with rfl | rfl <;> rfl) (v := (p + 3)) (by rcases hp with rfl | rfl <;> rfl) (to_in (pc := 10) rw_47_10 rfl (s_ial (pc := 11) rw_47_11 hG (by rcases hp with rfl | rfl <;> rfl) (n := 8) (by rcases hp with rfl | rfl <;> rfl) (by rcases hp with rfl | rfl <;> rfl) (A := (M.2.1 p 2).toInt) rfl (by omega) (by omega) (lo := 0) (hi := 59) (by rcases hp with rfl | rfl <;> rfl) (by rcases hp with rfl | rfl <;> rfl) (fun v4 w_5 _ _ => s_sub (pc := 12) rw_47_12 (A := v2.toInt) (B := v4.toInt) rfl rfl (by omega) (fun v6 e7 => to_c (pc := 13) rw_47_13 (x := (1 : Int32)) rfl rfl (s_add (pc := 14) rw_47_14 (A := v6.toInt) (B := 1) rfl rfl (by omega) (fun v8 e9 => to_r0 (pc := 15) rw_47_15 (s_min (pc := 11) rw_38_11 rfl (A := 4) (B := v8.toInt) rfl rfl (fun v10 _ _ _ => s_v (pc := 14) rw_38_14 (dp0 hd (by decide)) (ls0 := [.ref 1, .int (1 : Int32), .int v10]) rfl (Nat.le_of_ble_eq_true rfl) (Nat.le_of_ble_eq_true rfl) rfl (to_rc rfl rfl rfl (g_o hG rfl)) rfl (to_an (pc := 0) rw_88_0 rfl (tt_gI (pc := 1) rw_88_1 (g_o hG rfl) (v := (M.2.1 1 7)) rfl (to_c (pc := 4) rw_88_4 (x := (2 : Int32)) rfl rfl ?_)))))))))))
  refine b_ceq (pc := 5) rw_88_5 (A := (M.2.1 1 7).toInt) (B := 2) rfl rfl (fun h11 => ?_) (fun h11 => ?_)
  · refine to_an (pc := 14) rw_88_14 rfl (tt_gI (pc := 15) rw_88_15 (g_o hG rfl) (v := (M.2.1 1 8)) rfl (to_in (pc := 18) rw_88_18 rfl (b_clt (pc := 19) rw_88_19 (A := (M.2.1 1 8).toInt) (B := 1) rfl rfl (fun h12 => ?_) (fun h12 => ?_))))
    · refine to_an (pc := 30) rw_88_30 rfl (to_c (pc := 31) rw_88_31 (x := (2 : Int32)) rfl rfl (s_v (pc := 32) rw_88_32 (dp1 hd (by decide)) (ls0 := [.ref 1, .int (2 : Int32)]) rfl (Nat.le_of_ble_eq_true rfl) (Nat.le_of_ble_eq_true rfl) rfl (to_rc rfl rfl rfl (g_o hG rfl)) rfl (to_an (pc := 0) rw_84_0 rfl (to_in (pc := 1) rw_84_1 rfl (s_pI (pc := 2) rw_84_2 hG rfl (fun M14 W13 => ?_))))))
      have hG15 := g_wf hG W13 rfl rfl (by decide)
      have F16 := FR.w F0 W13 (show 1 = 1 ∧ 5 ≤ 10 ∨ 3 ≤ 1 ∧ 1 ≤ 5 ∨ 50 ≤ 1 ∧ 1 ≤ 57 ∨ 59 ≤ 1 ∧ 1 ≤ 66 by decide)
      refine to_an (pc := 5) rw_84_5 rfl (to_an (pc := 6) rw_84_6 rfl ?_)
      have c_17 : M14.2.1 1 9 = (M.2.1 1 9) := (W_n W13 (by decide) rfl)
      refine tt_gI (pc := 7) rw_84_7 (g_o hG15 rfl) (v := (M.2.1 1 9)) c_17 (s_pI (pc := 10) rw_84_10 hG15 rfl (fun M19 W18 => ?_))
      have hG20 := g_wf hG15 W18 rfl rfl (by decide)
      have F21 := FR.w F16 W18 (show 1 = 1 ∧ 5 ≤ 11 ∨ 3 ≤ 1 ∧ 1 ≤ 5 ∨ 50 ≤ 1 ∧ 1 ≤ 57 ∨ 59 ≤ 1 ∧ 1 ≤ 66 by decide)
      refine to_c (pc := 13) rw_84_13 (x := (0 : Int32)) rfl rfl (s_r1 (pc := 14) rw_84_14 (A := 0) rfl (by decide) (b_ieq_t (pc := 35) rw_88_35 (A := 0) rfl (by decide) (to_c (pc := 42) rw_88_42 (x := (0 : Int32)) rfl rfl (s_r1 (pc := 43) rw_88_43 (A := 0) rfl (by decide) (b_ine_f (pc := 17) rw_38_17 (A := 0) rfl (by decide) (to_c (pc := 20) rw_38_20 (x := (0 : Int32)) rfl rfl (s_r1 (pc := 21) rw_38_21 (A := 0) rfl (by decide) ?_)))))))
      have k_22 : (0 : Int32).toInt = 0 := rfl
      have j_23 := (PI_f (fun a i z => W_n W18 (by /-r1,11-/ omega) rfl) (PI_f (fun a i z => W_n W13 (by /-r1,10-/ omega) rfl) q2))
      exact h (0 : Int32) M19 hG20 F21 (by decide) (by decide) j_23
    · refine to_an (pc := 22) rw_88_22 rfl (tt_gI (pc := 23) rw_88_23 (g_o hG rfl) (v := (M.2.1 1 8)) rfl (to_in (pc := 26) rw_88_26 rfl (b_cle (pc := 27) rw_88_27 (A := (M.2.1 1 8).toInt) (B := v10.toInt) rfl rfl (fun h24 => ?_) (fun h24 => ?_))))
      · refine to_c (pc := 38) rw_88_38 (x := (1 : Int32)) rfl rfl (to_go (pc := 39) rw_88_39 (s_r1 (pc := 43) rw_88_43 (A := 1) rfl (by decide) (b_ine_t (pc := 17) rw_38_17 (A := 1) rfl (by decide) (to_an (pc := 22) rw_38_22 rfl (s_gR (pc := 23) rw_38_23 hG (by rcases hp with rfl | rfl <;> rfl) (v := (p + 5)) (by rcases hp with rfl | rfl <;> rfl) (to_an (pc := 26) rw_38_26 rfl (tt_gI (pc := 27) rw_38_27 (g_o hG (by rcases hp with rfl | rfl <;> rfl)) (v := (M.2.1 p 2)) rfl (to_an (pc := 30) rw_38_30 rfl (tt_gI (pc := 31) rw_38_31 (g_o hG rfl) (v := (M.2.1 1 8)) rfl (s_ias (pc := 34) rw_38_34 hG (by rcases hp with rfl | rfl <;> rfl) (n := 8) (by rcases hp with rfl | rfl <;> rfl) (A := (M.2.1 p 2).toInt) rfl (by omega) (by omega) (fun M26 W25 => ?_)))))))))))
        have hG27 := g_w hG W25 (A := (M.2.1 1 8).toInt) rfl (lo := 0) (hi := 24) (by rcases hp with rfl | rfl <;> rfl) (by rcases hp with rfl | rfl <;> rfl) (by omega) (by omega)
        have F28 := FR.w F0 W25 (show (p + 5) = 1 ∧ 5 ≤ ((M.2.1 p 2).toInt).toNat ∨ 3 ≤ (p + 5) ∧ (p + 5) ≤ 5 ∨ 50 ≤ (p + 5) ∧ (p + 5) ≤ 57 ∨ 59 ≤ (p + 5) ∧ (p + 5) ≤ 66 by omega)
        refine to_an (pc := 35) rw_38_35 rfl (s_v (pc := 36) rw_38_36 (dp0 hd (by decide)) (ls0 := [.ref 1]) rfl (Nat.le_of_ble_eq_true rfl) (Nat.le_of_ble_eq_true rfl) rfl (to_rc rfl rfl rfl (g_o hG27 rfl)) rfl (C_83 hX (dp1 hd (by decide)) hG27  (fun M31 hG30 F29 => ?_)))
        have F32 := FR.c F28 F29 tg_114
        refine to_c (pc := 39) rw_38_39 (x := (1 : Int32)) rfl rfl (s_r1 (pc := 40) rw_38_40 (A := 1) rfl (by decide) ?_)
        have k_33 : (1 : Int32).toInt = 1 := rfl
        have j_34 := (PI_f (tg_112 F29) (PI_f (fun a i z => W_n W25 (by omega) rfl) q2))
        exact h (1 : Int32) M31 hG30 F32 (by decide) (by decide) j_34
      · refine to_an (pc := 30) rw_88_30 rfl (to_c (pc := 31) rw_88_31 (x := (2 : Int32)) rfl rfl (s_v (pc := 32) rw_88_32 (dp1 hd (by decide)) (ls0 := [.ref 1, .int (2 : Int32)]) rfl (Nat.le_of_ble_eq_true rfl) (Nat.le_of_ble_eq_true rfl) rfl (to_rc rfl rfl rfl (g_o hG rfl)) rfl (to_an (pc := 0) rw_84_0 rfl (to_in (pc := 1) rw_84_1 rfl (s_pI (pc := 2) rw_84_2 hG rfl (fun M36 W35 => ?_))))))
        have hG37 := g_wf hG W35 rfl rfl (by decide)
        have F38 := FR.w F0 W35 (show 1 = 1 ∧ 5 ≤ 10 ∨ 3 ≤ 1 ∧ 1 ≤ 5 ∨ 50 ≤ 1 ∧ 1 ≤ 57 ∨ 59 ≤ 1 ∧ 1 ≤ 66 by decide)
        refine to_an (pc := 5) rw_84_5 rfl (to_an (pc := 6) rw_84_6 rfl ?_)
        have c_39 : M36.2.1 1 9 = (M.2.1 1 9) := (W_n W35 (by decide) rfl)
        refine tt_gI (pc := 7) rw_84_7 (g_o hG37 rfl) (v := (M.2.1 1 9)) c_39 (s_pI (pc := 10) rw_84_10 hG37 rfl (fun M41 W40 => ?_))
        have hG42 := g_wf hG37 W40 rfl rfl (by decide)
        have F43 := FR.w F38 W40 (show 1 = 1 ∧ 5 ≤ 11 ∨ 3 ≤ 1 ∧ 1 ≤ 5 ∨ 50 ≤ 1 ∧ 1 ≤ 57 ∨ 59 ≤ 1 ∧ 1 ≤ 66 by decide)
        refine to_c (pc := 13) rw_84_13 (x := (0 : Int32)) rfl rfl (s_r1 (pc := 14) rw_84_14 (A := 0) rfl (by decide) (b_ieq_t (pc := 35) rw_88_35 (A := 0) rfl (by decide) (to_c (pc := 42) rw_88_42 (x := (0 : Int32)) rfl rfl (s_r1 (pc := 43) rw_88_43 (A := 0) rfl (by decide) (b_ine_f (pc := 17) rw_38_17 (A := 0) rfl (by decide) (to_c (pc := 20) rw_38_20 (x := (0 : Int32)) rfl rfl (s_r1 (pc := 21) rw_38_21 (A := 0) rfl (by decide) ?_)))))))
        have k_44 : (0 : Int32).toInt = 0 := rfl
        have j_45 := (PI_f (fun a i z => W_n W40 (by /-r1,11-/ omega) rfl) (PI_f (fun a i z => W_n W35 (by /-r1,10-/ omega) rfl) q2))
        exact h (0 : Int32) M41 hG42 F43 (by decide) (by decide) j_45
  · refine to_an (pc := 8) rw_88_8 rfl (to_c (pc := 9) rw_88_9 (x := (1 : Int32)) rfl rfl (s_v (pc := 10) rw_88_10 (dp1 hd (by decide)) (ls0 := [.ref 1, .int (1 : Int32)]) rfl (Nat.le_of_ble_eq_true rfl) (Nat.le_of_ble_eq_true rfl) rfl (to_rc rfl rfl rfl (g_o hG rfl)) rfl (to_an (pc := 0) rw_84_0 rfl (to_in (pc := 1) rw_84_1 rfl (s_pI (pc := 2) rw_84_2 hG rfl (fun M47 W46 => ?_))))))
    have hG48 := g_wf hG W46 rfl rfl (by decide)
    have F49 := FR.w F0 W46 (show 1 = 1 ∧ 5 ≤ 10 ∨ 3 ≤ 1 ∧ 1 ≤ 5 ∨ 50 ≤ 1 ∧ 1 ≤ 57 ∨ 59 ≤ 1 ∧ 1 ≤ 66 by decide)
    refine to_an (pc := 5) rw_84_5 rfl (to_an (pc := 6) rw_84_6 rfl ?_)
    have c_50 : M47.2.1 1 9 = (M.2.1 1 9) := (W_n W46 (by decide) rfl)
    refine tt_gI (pc := 7) rw_84_7 (g_o hG48 rfl) (v := (M.2.1 1 9)) c_50 (s_pI (pc := 10) rw_84_10 hG48 rfl (fun M52 W51 => ?_))
    have hG53 := g_wf hG48 W51 rfl rfl (by decide)
    have F54 := FR.w F49 W51 (show 1 = 1 ∧ 5 ≤ 11 ∨ 3 ≤ 1 ∧ 1 ≤ 5 ∨ 50 ≤ 1 ∧ 1 ≤ 57 ∨ 59 ≤ 1 ∧ 1 ≤ 66 by decide)
    refine to_c (pc := 13) rw_84_13 (x := (0 : Int32)) rfl rfl (s_r1 (pc := 14) rw_84_14 (A := 0) rfl (by decide) (s_r1 (pc := 13) rw_88_13 (A := 0) rfl (by decide) (b_ine_f (pc := 17) rw_38_17 (A := 0) rfl (by decide) (to_c (pc := 20) rw_38_20 (x := (0 : Int32)) rfl rfl (s_r1 (pc := 21) rw_38_21 (A := 0) rfl (by decide) ?_)))))
    have k_55 : (0 : Int32).toInt = 0 := rfl
    have j_56 := (PI_f (fun a i z => W_n W51 (by /-r1,11-/ omega) rfl) (PI_f (fun a i z => W_n W46 (by /-r1,10-/ omega) rfl) q2))
    exact h (0 : Int32) M52 hG53 F54 (by decide) (by decide) j_56
set_option maxRecDepth 4000 in
set_option maxHeartbeats 0 in
theorem C_32 {X : mm_X} {d : Nat} {M : mm_M} {Q : Option Value → mm_M → Prop} {p : Nat} (hX : g_X X) (hd : 2 ≤ d) (hG : g_G M) (hp : p = 49 ∨ p = 58) (q1 : PI M) (h : ∀ (r : Int32) (M1 : mm_M), g_G M1 → FR md_pt M M1 → (0 ≤ r.toInt) → (r.toInt ≤ 1) → PI M1 → Q (some (.int r)) M1) : mm_T X d 32 0 [.ref p, .ref 1] [] M Q := by
  have F0 : FR md_pt M M := FR.rf
  refine to_an (pc := 0) rw_32_0 rfl (tt_gI (pc := 1) rw_32_1 (g_o hG (by rcases hp with rfl | rfl <;> rfl)) (v := (M.2.1 p 1)) rfl (b_ile (pc := 4) rw_32_4 (A := (M.2.1 p 1).toInt) rfl (fun h1 => ?_) (fun h1 => ?_)))
  · refine to_an (pc := 13) rw_32_13 rfl (s_v (pc := 14) rw_32_14 (dp0 hd (by decide)) (ls0 := [.ref 1]) rfl (Nat.le_of_ble_eq_true rfl) (Nat.le_of_ble_eq_true rfl) rfl (to_rc rfl rfl rfl (g_o hG rfl)) rfl (C_83 hX (dp1 hd (by decide)) hG  (fun M4 hG3 F2 => ?_)))
    have F5 := FR.c F0 F2 tg_116
    refine to_an (pc := 17) rw_32_17 rfl (to_c (pc := 18) rw_32_18 (x := (10 : Int32)) rfl rfl (to_c (pc := 20) rw_32_20 (x := (60 : Int32)) rfl rfl (s_v (pc := 22) rw_32_22 (dp0 hd (by decide)) (ls0 := [.ref 1, .int (10 : Int32), .int (60 : Int32)]) rfl (Nat.le_of_ble_eq_true rfl) (Nat.le_of_ble_eq_true rfl) rfl (to_rc rfl rfl rfl (g_o hG3 rfl)) rfl (to_an (pc := 0) rw_88_0 rfl (tt_gI (pc := 1) rw_88_1 (g_o hG3 rfl) (v := (M4.2.1 1 7)) rfl (to_c (pc := 4) rw_88_4 (x := (2 : Int32)) rfl rfl (b_ceq (pc := 5) rw_88_5 (A := (M4.2.1 1 7).toInt) (B := 2) rfl rfl (fun h6 => ?_) (fun h6 => ?_))))))))
    · refine to_an (pc := 14) rw_88_14 rfl (tt_gI (pc := 15) rw_88_15 (g_o hG3 rfl) (v := (M4.2.1 1 8)) rfl (to_in (pc := 18) rw_88_18 rfl (b_clt (pc := 19) rw_88_19 (A := (M4.2.1 1 8).toInt) (B := 10) rfl rfl (fun h7 => ?_) (fun h7 => ?_))))
      · refine to_an (pc := 30) rw_88_30 rfl (to_c (pc := 31) rw_88_31 (x := (2 : Int32)) rfl rfl (s_v (pc := 32) rw_88_32 (dp1 hd (by decide)) (ls0 := [.ref 1, .int (2 : Int32)]) rfl (Nat.le_of_ble_eq_true rfl) (Nat.le_of_ble_eq_true rfl) rfl (to_rc rfl rfl rfl (g_o hG3 rfl)) rfl (to_an (pc := 0) rw_84_0 rfl (to_in (pc := 1) rw_84_1 rfl (s_pI (pc := 2) rw_84_2 hG3 rfl (fun M9 W8 => ?_))))))
        have hG10 := g_wf hG3 W8 rfl rfl (by decide)
        have F11 := FR.w F5 W8 (show 1 = 1 ∧ 5 ≤ 10 ∨ 3 ≤ 1 ∧ 1 ≤ 5 ∨ 49 ≤ 1 ∧ 1 ≤ 66 by decide)
        refine to_an (pc := 5) rw_84_5 rfl (to_an (pc := 6) rw_84_6 rfl ?_)
        have c_12 : M9.2.1 1 9 = (M4.2.1 1 9) := (W_n W8 (by decide) rfl)
        refine tt_gI (pc := 7) rw_84_7 (g_o hG10 rfl) (v := (M4.2.1 1 9)) c_12 (s_pI (pc := 10) rw_84_10 hG10 rfl (fun M14 W13 => ?_))
        have hG15 := g_wf hG10 W13 rfl rfl (by decide)
        have F16 := FR.w F11 W13 (show 1 = 1 ∧ 5 ≤ 11 ∨ 3 ≤ 1 ∧ 1 ≤ 5 ∨ 49 ≤ 1 ∧ 1 ≤ 66 by decide)
        refine to_c (pc := 13) rw_84_13 (x := (0 : Int32)) rfl rfl (s_r1 (pc := 14) rw_84_14 (A := 0) rfl (by decide) (b_ieq_t (pc := 35) rw_88_35 (A := 0) rfl (by decide) (to_c (pc := 42) rw_88_42 (x := (0 : Int32)) rfl rfl (s_r1 (pc := 43) rw_88_43 (A := 0) rfl (by decide) (b_ine_f (pc := 25) rw_32_25 (A := 0) rfl (by decide) (to_c (pc := 28) rw_32_28 (x := (0 : Int32)) rfl rfl (s_r1 (pc := 29) rw_32_29 (A := 0) rfl (by decide) ?_)))))))
        have k_17 : (0 : Int32).toInt = 0 := rfl
        have j_18 := (PI_f (fun a i z => W_n W13 (by /-r1,11-/ omega) rfl) (PI_f (fun a i z => W_n W8 (by /-r1,10-/ omega) rfl) (PI_f (tg_112 F2) q1)))
        exact h (0 : Int32) M14 hG15 F16 (by decide) (by decide) j_18
      · refine to_an (pc := 22) rw_88_22 rfl (tt_gI (pc := 23) rw_88_23 (g_o hG3 rfl) (v := (M4.2.1 1 8)) rfl (to_in (pc := 26) rw_88_26 rfl (b_cle (pc := 27) rw_88_27 (A := (M4.2.1 1 8).toInt) (B := 60) rfl rfl (fun h19 => ?_) (fun h19 => ?_))))
        · refine to_c (pc := 38) rw_88_38 (x := (1 : Int32)) rfl rfl (to_go (pc := 39) rw_88_39 (s_r1 (pc := 43) rw_88_43 (A := 1) rfl (by decide) (b_ine_t (pc := 25) rw_32_25 (A := 1) rfl (by decide) (to_an (pc := 30) rw_32_30 rfl (to_an (pc := 31) rw_32_31 rfl (tt_gI (pc := 32) rw_32_32 (g_o hG3 rfl) (v := (M4.2.1 1 8)) rfl (s_pI (pc := 35) rw_32_35 hG3 (by rcases hp with rfl | rfl <;> rfl) (fun M21 W20 => ?_))))))))
          have hG22 := g_w hG3 W20 (A := (M4.2.1 1 8).toInt) rfl (lo := 10) (hi := 60) (by rcases hp with rfl | rfl <;> rfl) (by rcases hp with rfl | rfl <;> rfl) (by omega) (by omega)
          have F23 := FR.w F5 W20 (show p = 1 ∧ 5 ≤ 0 ∨ 3 ≤ p ∧ p ≤ 5 ∨ 49 ≤ p ∧ p ≤ 66 by omega)
          refine to_an (pc := 38) rw_32_38 rfl (s_v (pc := 39) rw_32_39 (dp0 hd (by decide)) (ls0 := [.ref 1]) rfl (Nat.le_of_ble_eq_true rfl) (Nat.le_of_ble_eq_true rfl) rfl (to_rc rfl rfl rfl (g_o hG22 rfl)) rfl (C_83 hX (dp1 hd (by decide)) hG22  (fun M26 hG25 F24 => ?_)))
          have F27 := FR.c F23 F24 tg_116
          refine to_c (pc := 42) rw_32_42 (x := (1 : Int32)) rfl rfl (s_r1 (pc := 43) rw_32_43 (A := 1) rfl (by decide) ?_)
          have k_28 : (1 : Int32).toInt = 1 := rfl
          have j_29 := (PI_f (tg_112 F24) (PI_f (fun a i z => W_n W20 (by omega) rfl) (PI_f (tg_112 F2) q1)))
          exact h (1 : Int32) M26 hG25 F27 (by decide) (by decide) j_29
        · refine to_an (pc := 30) rw_88_30 rfl (to_c (pc := 31) rw_88_31 (x := (2 : Int32)) rfl rfl (s_v (pc := 32) rw_88_32 (dp1 hd (by decide)) (ls0 := [.ref 1, .int (2 : Int32)]) rfl (Nat.le_of_ble_eq_true rfl) (Nat.le_of_ble_eq_true rfl) rfl (to_rc rfl rfl rfl (g_o hG3 rfl)) rfl (to_an (pc := 0) rw_84_0 rfl (to_in (pc := 1) rw_84_1 rfl (s_pI (pc := 2) rw_84_2 hG3 rfl (fun M31 W30 => ?_))))))
          have hG32 := g_wf hG3 W30 rfl rfl (by decide)
          have F33 := FR.w F5 W30 (show 1 = 1 ∧ 5 ≤ 10 ∨ 3 ≤ 1 ∧ 1 ≤ 5 ∨ 49 ≤ 1 ∧ 1 ≤ 66 by decide)
          refine to_an (pc := 5) rw_84_5 rfl (to_an (pc := 6) rw_84_6 rfl ?_)
          have c_34 : M31.2.1 1 9 = (M4.2.1 1 9) := (W_n W30 (by decide) rfl)
          refine tt_gI (pc := 7) rw_84_7 (g_o hG32 rfl) (v := (M4.2.1 1 9)) c_34 (s_pI (pc := 10) rw_84_10 hG32 rfl (fun M36 W35 => ?_))
          have hG37 := g_wf hG32 W35 rfl rfl (by decide)
          have F38 := FR.w F33 W35 (show 1 = 1 ∧ 5 ≤ 11 ∨ 3 ≤ 1 ∧ 1 ≤ 5 ∨ 49 ≤ 1 ∧ 1 ≤ 66 by decide)
          refine to_c (pc := 13) rw_84_13 (x := (0 : Int32)) rfl rfl (s_r1 (pc := 14) rw_84_14 (A := 0) rfl (by decide) (b_ieq_t (pc := 35) rw_88_35 (A := 0) rfl (by decide) (to_c (pc := 42) rw_88_42 (x := (0 : Int32)) rfl rfl (s_r1 (pc := 43) rw_88_43 (A := 0) rfl (by decide) (b_ine_f (pc := 25) rw_32_25 (A := 0) rfl (by decide) (to_c (pc := 28) rw_32_28 (x := (0 : Int32)) rfl rfl (s_r1 (pc := 29) rw_32_29 (A := 0) rfl (by decide) ?_)))))))
          have k_39 : (0 : Int32).toInt = 0 := rfl
          have j_40 := (PI_f (fun a i z => W_n W35 (by /-r1,11-/ omega) rfl) (PI_f (fun a i z => W_n W30 (by /-r1,10-/ omega) rfl) (PI_f (tg_112 F2) q1)))
          exact h (0 : Int32) M36 hG37 F38 (by decide) (by decide) j_40
    · refine to_an (pc := 8) rw_88_8 rfl (to_c (pc := 9) rw_88_9 (x := (1 : Int32)) rfl rfl (s_v (pc := 10) rw_88_10 (dp1 hd (by decide)) (ls0 := [.ref 1, .int (1 : Int32)]) rfl (Nat.le_of_ble_eq_true rfl) (Nat.le_of_ble_eq_true rfl) rfl (to_rc rfl rfl rfl (g_o hG3 rfl)) rfl (to_an (pc := 0) rw_84_0 rfl (to_in (pc := 1) rw_84_1 rfl (s_pI (pc := 2) rw_84_2 hG3 rfl (fun M42 W41 => ?_))))))
      have hG43 := g_wf hG3 W41 rfl rfl (by decide)
      have F44 := FR.w F5 W41 (show 1 = 1 ∧ 5 ≤ 10 ∨ 3 ≤ 1 ∧ 1 ≤ 5 ∨ 49 ≤ 1 ∧ 1 ≤ 66 by decide)
      refine to_an (pc := 5) rw_84_5 rfl (to_an (pc := 6) rw_84_6 rfl ?_)
      have c_45 : M42.2.1 1 9 = (M4.2.1 1 9) := (W_n W41 (by decide) rfl)
      refine tt_gI (pc := 7) rw_84_7 (g_o hG43 rfl) (v := (M4.2.1 1 9)) c_45 (s_pI (pc := 10) rw_84_10 hG43 rfl (fun M47 W46 => ?_))
      have hG48 := g_wf hG43 W46 rfl rfl (by decide)
      have F49 := FR.w F44 W46 (show 1 = 1 ∧ 5 ≤ 11 ∨ 3 ≤ 1 ∧ 1 ≤ 5 ∨ 49 ≤ 1 ∧ 1 ≤ 66 by decide)
      refine to_c (pc := 13) rw_84_13 (x := (0 : Int32)) rfl rfl (s_r1 (pc := 14) rw_84_14 (A := 0) rfl (by decide) (s_r1 (pc := 13) rw_88_13 (A := 0) rfl (by decide) (b_ine_f (pc := 25) rw_32_25 (A := 0) rfl (by decide) (to_c (pc := 28) rw_32_28 (x := (0 : Int32)) rfl rfl (s_r1 (pc := 29) rw_32_29 (A := 0) rfl (by decide) ?_)))))
      have k_50 : (0 : Int32).toInt = 0 := rfl
      have j_51 := (PI_f (fun a i z => W_n W46 (by /-r1,11-/ omega) rfl) (PI_f (fun a i z => W_n W41 (by /-r1,10-/ omega) rfl) (PI_f (tg_112 F2) q1)))
      exact h (0 : Int32) M47 hG48 F49 (by decide) (by decide) j_51
  · refine to_an (pc := 7) rw_32_7 rfl (to_c (pc := 8) rw_32_8 (x := (3 : Int32)) rfl rfl (s_v (pc := 9) rw_32_9 (dp0 hd (by decide)) (ls0 := [.ref 1, .int (3 : Int32)]) rfl (Nat.le_of_ble_eq_true rfl) (Nat.le_of_ble_eq_true rfl) rfl (to_rc rfl rfl rfl (g_o hG rfl)) rfl (to_an (pc := 0) rw_84_0 rfl (to_in (pc := 1) rw_84_1 rfl (s_pI (pc := 2) rw_84_2 hG rfl (fun M53 W52 => ?_))))))
    have hG54 := g_wf hG W52 rfl rfl (by decide)
    have F55 := FR.w F0 W52 (show 1 = 1 ∧ 5 ≤ 10 ∨ 3 ≤ 1 ∧ 1 ≤ 5 ∨ 49 ≤ 1 ∧ 1 ≤ 66 by decide)
    refine to_an (pc := 5) rw_84_5 rfl (to_an (pc := 6) rw_84_6 rfl ?_)
    have c_56 : M53.2.1 1 9 = (M.2.1 1 9) := (W_n W52 (by decide) rfl)
    refine tt_gI (pc := 7) rw_84_7 (g_o hG54 rfl) (v := (M.2.1 1 9)) c_56 (s_pI (pc := 10) rw_84_10 hG54 rfl (fun M58 W57 => ?_))
    have hG59 := g_wf hG54 W57 rfl rfl (by decide)
    have F60 := FR.w F55 W57 (show 1 = 1 ∧ 5 ≤ 11 ∨ 3 ≤ 1 ∧ 1 ≤ 5 ∨ 49 ≤ 1 ∧ 1 ≤ 66 by decide)
    refine to_c (pc := 13) rw_84_13 (x := (0 : Int32)) rfl rfl (s_r1 (pc := 14) rw_84_14 (A := 0) rfl (by decide) (s_r1 (pc := 12) rw_32_12 (A := 0) rfl (by decide) ?_))
    have k_61 : (0 : Int32).toInt = 0 := rfl
    have j_62 := (PI_f (fun a i z => W_n W57 (by /-r1,11-/ omega) rfl) (PI_f (fun a i z => W_n W52 (by /-r1,10-/ omega) rfl) q1))
    exact h (0 : Int32) M58 hG59 F60 (by decide) (by decide) j_62
set_option maxRecDepth 4000 in
set_option maxHeartbeats 0 in
theorem C_33 {X : mm_X} {d : Nat} {M : mm_M} {Q : Option Value → mm_M → Prop} {p : Nat} (hX : g_X X) (hd : 3 ≤ d) (hG : g_G M) (hp : p = 49 ∨ p = 58) (q1 : PI M) (h : ∀ (r : Int32) (M1 : mm_M), g_G M1 → FR md_pt M M1 → (0 ≤ r.toInt) → (r.toInt ≤ 1) → PI M1 → Q (some (.int r)) M1) : mm_T X d 33 0 [.ref p, .ref 1, .null, .null] [] M Q := by
  have F0 : FR md_pt M M := FR.rf
  refine to_an (pc := 0) rw_33_0 rfl ?_
  have b_1 := g_b hG (a := p) (i := 2) (lo := 0) (hi := 8) (by rcases hp with rfl | rfl <;> rfl) (by rcases hp with rfl | rfl <;> rfl)
  refine tt_gI (pc := 1) rw_33_1 (g_o hG (by rcases hp with rfl | rfl <;> rfl)) (v := (M.2.1 p 2)) rfl (to_c (pc := 4) rw_33_4 (x := (8 : Int32)) rfl rfl (b_clt (pc := 6) rw_33_6 (A := (M.2.1 p 2).toInt) (B := 8) rfl rfl (fun h2 => ?_) (fun h2 => ?_)))
  · refine to_an (pc := 15) rw_33_15 rfl (s_v (pc := 16) rw_33_16 (dp0 hd (by decide)) (ls0 := [.ref 1]) rfl (Nat.le_of_ble_eq_true rfl) (Nat.le_of_ble_eq_true rfl) rfl (to_rc rfl rfl rfl (g_o hG rfl)) rfl (C_83 hX (dp1 hd (by decide)) hG  (fun M5 hG4 F3 => ?_)))
    have F6 := FR.c F0 F3 tg_116
    refine to_an (pc := 19) rw_33_19 rfl (to_an (pc := 20) rw_33_20 rfl (s_v (pc := 21) rw_33_21 (dp0 hd (by decide)) (ls0 := [.ref p, .ref 1]) rfl (Nat.le_of_ble_eq_true rfl) (Nat.le_of_ble_eq_true rfl) rfl (to_rc rfl rfl rfl (g_o hG4 (by rcases hp with rfl | rfl <;> rfl))) rfl (C_34 hX (dp1 hd (by decide)) hG4 hp (p := p) (fun r7 M12 hG9 F8 p_10 p_11 => ?_))))
    have F13 := FR.c F6 F8 tg_116
    refine b_ine (pc := 24) rw_33_24 (A := r7.toInt) rfl (fun h14 => ?_) (fun h14 => ?_)
    · refine to_an (pc := 29) rw_33_29 rfl (s_gR (pc := 30) rw_33_30 hG9 (by rcases hp with rfl | rfl <;> rfl) (v := (p + 1)) (by rcases hp with rfl | rfl <;> rfl) (to_an (pc := 33) rw_33_33 rfl ?_))
      have c_15 : M12.2.1 p 2 = (M.2.1 p 2) := (F_n F8 (show ¬ (p = 1 ∧ 5 ≤ 2 ∨ 3 ≤ p ∧ p ≤ 5) by omega) (F_n F3 (show ¬ (p = 1 ∧ 5 ≤ 2 ∨ 3 ≤ p ∧ p ≤ 5) by omega) rfl))
      refine tt_gI (pc := 34) rw_33_34 (g_o hG9 (by rcases hp with rfl | rfl <;> rfl)) (v := (M.2.1 p 2)) c_15 (to_an (pc := 37) rw_33_37 rfl (tt_gI (pc := 38) rw_33_38 (g_o hG9 rfl) (v := (M12.2.1 1 8)) rfl (s_ias (pc := 41) rw_33_41 hG9 (by rcases hp with rfl | rfl <;> rfl) (n := 8) (by rcases hp with rfl | rfl <;> rfl) (A := (M.2.1 p 2).toInt) rfl (by omega) (by omega) (fun M17 W16 => ?_))))
      have hG18 := g_wf hG9 W16 (by rcases hp with rfl | rfl <;> rfl) (by rcases hp with rfl | rfl <;> rfl) (by omega)
      have F19 := FR.w F13 W16 (show (p + 1) = 1 ∧ 5 ≤ ((M.2.1 p 2).toInt).toNat ∨ 3 ≤ (p + 1) ∧ (p + 1) ≤ 5 ∨ 49 ≤ (p + 1) ∧ (p + 1) ≤ 66 by omega)
      refine to_an (pc := 42) rw_33_42 rfl (s_v (pc := 43) rw_33_43 (dp0 hd (by decide)) (ls0 := [.ref 1]) rfl (Nat.le_of_ble_eq_true rfl) (Nat.le_of_ble_eq_true rfl) rfl (to_rc rfl rfl rfl (g_o hG18 rfl)) rfl (C_83 hX (dp1 hd (by decide)) hG18  (fun M22 hG21 F20 => ?_)))
      have F23 := FR.c F19 F20 tg_116
      refine to_an (pc := 46) rw_33_46 rfl (s_s (pc := 47) rw_33_47 (dp0 hd (by decide)) (ls0 := [.ref 1]) rfl (Nat.le_of_ble_eq_true rfl) (Nat.le_of_ble_eq_true rfl) rfl (to_rcs rfl rfl) rfl (C_35 hX (dp1 hd (by decide)) hG21  (fun r24 M29 hG26 F25 p_27 p_28 => ?_)))
      have F30 := FR.c F23 F25 tg_117
      refine to_isn (pc := 50) rw_33_50 (ls2 := [.ref p, .ref 1, .int r24, .null]) rfl rfl (to_in (pc := 51) rw_33_51 rfl (to_c (pc := 52) rw_33_52 (x := (-1 : Int32)) rfl rfl (b_cne (pc := 53) rw_33_53 (A := r24.toInt) (B := -1) rfl rfl (fun h31 => ?_) (fun h31 => ?_))))
      · refine to_an (pc := 62) rw_33_62 rfl (s_gR (pc := 63) rw_33_63 hG26 (by rcases hp with rfl | rfl <;> rfl) (v := (p + 2)) (by rcases hp with rfl | rfl <;> rfl) (to_an (pc := 66) rw_33_66 rfl ?_))
        have c_32 : M29.2.1 p 2 = (M.2.1 p 2) := (F_n F25 (show ¬ (p < 0) by omega) (F_n F20 (show ¬ (p = 1 ∧ 5 ≤ 2 ∨ 3 ≤ p ∧ p ≤ 5) by omega) (W_n W16 (by omega) c_15)))
        refine tt_gI (pc := 67) rw_33_67 (g_o hG26 (by rcases hp with rfl | rfl <;> rfl)) (v := (M.2.1 p 2)) c_32 (to_in (pc := 70) rw_33_70 rfl (s_ias (pc := 71) rw_33_71 hG26 (by rcases hp with rfl | rfl <;> rfl) (n := 8) (by rcases hp with rfl | rfl <;> rfl) (A := (M.2.1 p 2).toInt) rfl (by omega) (by omega) (fun M34 W33 => ?_)))
        have hG35 := g_w hG26 W33 (A := r24.toInt) rfl (lo := 0) (hi := 3) (by rcases hp with rfl | rfl <;> rfl) (by rcases hp with rfl | rfl <;> rfl) (by omega) (by omega)
        have F36 := FR.w F30 W33 (show (p + 2) = 1 ∧ 5 ≤ ((M.2.1 p 2).toInt).toNat ∨ 3 ≤ (p + 2) ∧ (p + 2) ≤ 5 ∨ 49 ≤ (p + 2) ∧ (p + 2) ≤ 66 by omega)
        refine to_an (pc := 72) rw_33_72 rfl (s_v (pc := 73) rw_33_73 (dp0 hd (by decide)) (ls0 := [.ref 1]) rfl (Nat.le_of_ble_eq_true rfl) (Nat.le_of_ble_eq_true rfl) rfl (to_rc rfl rfl rfl (g_o hG35 rfl)) rfl (C_83 hX (dp1 hd (by decide)) hG35  (fun M39 hG38 F37 => ?_)))
        have F40 := FR.c F36 F37 tg_116
        refine to_in (pc := 76) rw_33_76 rfl (to_c (pc := 77) rw_33_77 (x := (1 : Int32)) rfl rfl (b_ceq (pc := 78) rw_33_78 (A := r24.toInt) (B := 1) rfl rfl (fun h41 => ?_) (fun h41 => ?_)))
        · refine to_an (pc := 86) rw_33_86 rfl (to_an (pc := 87) rw_33_87 rfl (to_in (pc := 88) rw_33_88 rfl (to_c (pc := 89) rw_33_89 (x := (1 : Int32)) rfl rfl (b_cne_f (pc := 90) rw_33_90 (A := r24.toInt) (B := 1) rfl rfl (by omega) (to_c (pc := 93) rw_33_93 (x := (4 : Int32)) rfl rfl (to_go (pc := 94) rw_33_94 (s_v (pc := 98) rw_33_98 (dp0 hd (by decide)) (ls0 := [.ref p, .ref 1, .int (4 : Int32), .null, .null]) rfl (Nat.le_of_ble_eq_true rfl) (Nat.le_of_ble_eq_true rfl) rfl (to_rc rfl rfl rfl (g_o hG38 (by rcases hp with rfl | rfl <;> rfl))) rfl ?_)))))))
          have k_42 : (4 : Int32).toInt = 4 := rfl
          have c_43 : M39.2.1 p 2 = (M.2.1 p 2) := (F_n F37 (show ¬ (p = 1 ∧ 5 ≤ 2 ∨ 3 ≤ p ∧ p ≤ 5) by omega) (W_n W33 (by omega) c_32))
          have t_44 : (M39.2.1 p 2).toInt = (M.2.1 p 2).toInt := congrArg Int32.toInt c_43
          have j_45 := (PI_f (tg_112 F37) (PI_f (fun a i z => W_n W33 (by omega) rfl) (PI_f (tg_99 F25) (PI_f (tg_112 F20) (PI_f (fun a i z => W_n W16 (by omega) rfl) (PI_f (tg_112 F8) (PI_f (tg_112 F3) q1)))))))
          refine C_37 hX (dp1 hd (by decide)) hG38 hp (by omega) (by omega) (by omega) j_45 (p := p) (w := (4 : Int32)) (fun r46 M52 hG48 F47 p_49 p_50 p_51 => ?_)
          have F53 := FR.c F40 F47 tg_118
          refine to_isn (pc := 101) rw_33_101 (ls2 := [.ref p, .ref 1, .int r24, .int r46]) rfl rfl (to_go (pc := 102) rw_33_102 (to_in (pc := 140) rw_33_140 rfl (b_ine (pc := 141) rw_33_141 (A := r46.toInt) rfl (fun h54 => ?_) (fun h54 => ?_))))
          · refine to_an (pc := 146) rw_33_146 rfl (to_dupr (pc := 147) rw_33_147 (s_gJ (pc := 148) rw_33_148 hG48 (by rcases hp with rfl | rfl <;> rfl) (fun l55 => to_an (pc := 151) rw_33_151 rfl (s_gR (pc := 152) rw_33_152 hG48 (by rcases hp with rfl | rfl <;> rfl) (v := (p + 3)) (by rcases hp with rfl | rfl <;> rfl) (to_an (pc := 155) rw_33_155 rfl ?_)))))
            have c_56 : M52.2.1 p 2 = (M.2.1 p 2) := (F_n F47 (show ¬ (p = 1 ∧ 5 ≤ 2 ∨ 3 ≤ p ∧ p ≤ 5 ∨ 50 ≤ p ∧ p ≤ 57 ∨ 59 ≤ p ∧ p ≤ 66) by omega) c_43)
            refine tt_gI (pc := 156) rw_33_156 (g_o hG48 (by rcases hp with rfl | rfl <;> rfl)) (v := (M.2.1 p 2)) c_56 (s_ial (pc := 159) rw_33_159 hG48 (by rcases hp with rfl | rfl <;> rfl) (n := 8) (by rcases hp with rfl | rfl <;> rfl) (by rcases hp with rfl | rfl <;> rfl) (A := (M.2.1 p 2).toInt) rfl (by omega) (by omega) (lo := 0) (hi := 59) (by rcases hp with rfl | rfl <;> rfl) (by rcases hp with rfl | rfl <;> rfl) (fun v57 w_58 _ _ => to_an (pc := 160) rw_33_160 rfl (s_gR (pc := 161) rw_33_161 hG48 (by rcases hp with rfl | rfl <;> rfl) (v := (p + 4)) (by rcases hp with rfl | rfl <;> rfl) (to_an (pc := 164) rw_33_164 rfl (tt_gI (pc := 165) rw_33_165 (g_o hG48 (by rcases hp with rfl | rfl <;> rfl)) (v := (M.2.1 p 2)) c_56 (s_ial (pc := 168) rw_33_168 hG48 (by rcases hp with rfl | rfl <;> rfl) (n := 8) (by rcases hp with rfl | rfl <;> rfl) (by rcases hp with rfl | rfl <;> rfl) (A := (M.2.1 p 2).toInt) rfl (by omega) (by omega) (lo := 0) (hi := 63) (by rcases hp with rfl | rfl <;> rfl) (by rcases hp with rfl | rfl <;> rfl) (fun v59 w_60 _ _ => s_s (pc := 169) rw_33_169 (dp0 hd (by decide)) (ls0 := [.int v57, .int v59]) rfl (Nat.le_of_ble_eq_true rfl) (Nat.le_of_ble_eq_true rfl) rfl (to_rcs rfl rfl) rfl (s_cl (pc := 0) rw_144_0 rfl (fun l61 => to_in (pc := 1) rw_144_1 rfl (to_in (pc := 2) rw_144_2 rfl (s_sub (pc := 3) rw_144_3 (A := v59.toInt) (B := v57.toInt) rfl rfl (by omega) (fun v62 e63 => ?_))))))))))))
            refine to_c (pc := 4) rw_144_4 (x := (1 : Int32)) rfl rfl (s_add (pc := 5) rw_144_5 (A := v62.toInt) (B := 1) rfl rfl (by omega) (fun v64 e65 => s_anyS (pc := 6) rw_144_6 (fun _ _ => rfl) (fun l66 => s_cl (pc := 7) rw_144_7 rfl (fun l67 => s_anyL (pc := 8) rw_144_8 (fun _ _ => rfl) (fun l68 => to_in (pc := 9) rw_144_9 rfl (s_anyS (pc := 10) rw_144_10 (fun _ _ => rfl) (fun l69 => to_rl (pc := 11) rw_144_11 (s_anyL (pc := 172) rw_33_172 (fun _ _ => rfl) (fun l70 => s_pJ (pc := 173) rw_33_173 hG48 (by rcases hp with rfl | rfl <;> rfl) (fun M72 W71 => ?_))))))))))
            have hG73 := g_wl hG48 W71
            have F74 := FR.wl F53 W71 (show p = 1 ∧ 5 ≤ 4 ∨ 3 ≤ p ∧ p ≤ 5 ∨ 49 ≤ p ∧ p ≤ 66 by omega)
            refine to_an (pc := 176) rw_33_176 rfl (to_dupr (pc := 177) rw_33_177 ?_)
            have c_75 : M72.2.1 p 2 = (M.2.1 p 2) := (W_l W71 c_56)
            refine tt_gI (pc := 178) rw_33_178 (g_o hG73 (by rcases hp with rfl | rfl <;> rfl)) (v := (M.2.1 p 2)) c_75 (to_c (pc := 181) rw_33_181 (x := (1 : Int32)) rfl rfl (s_add (pc := 182) rw_33_182 (A := (M.2.1 p 2).toInt) (B := 1) rfl rfl (by omega) (fun v76 e77 => s_pI (pc := 183) rw_33_183 hG73 (by rcases hp with rfl | rfl <;> rfl) (fun M79 W78 => ?_))))
            have hG80 := g_w hG73 W78 (A := v76.toInt) rfl (lo := 0) (hi := 8) (by rcases hp with rfl | rfl <;> rfl) (by rcases hp with rfl | rfl <;> rfl) (by omega) (by omega)
            have F81 := FR.w F74 W78 (show p = 1 ∧ 5 ≤ 2 ∨ 3 ≤ p ∧ p ≤ 5 ∨ 49 ≤ p ∧ p ≤ 66 by omega)
            refine to_c (pc := 186) rw_33_186 (x := (1 : Int32)) rfl rfl (s_r1 (pc := 187) rw_33_187 (A := 1) rfl (by decide) ?_)
            have k_82 : (1 : Int32).toInt = 1 := rfl
            have j_83 := (PI_f (fun a i z => W_n W78 (by omega) rfl) (PI_f (fun a i z => W_l W71 rfl) p_51))
            exact h (1 : Int32) M79 hG80 F81 (by decide) (by decide) j_83
          · refine to_c (pc := 144) rw_33_144 (x := (0 : Int32)) rfl rfl (s_r1 (pc := 145) rw_33_145 (A := 0) rfl (by decide) ?_)
            have k_84 : (0 : Int32).toInt = 0 := rfl
            exact h (0 : Int32) M52 hG48 F53 (by decide) (by decide) p_51
        · refine to_in (pc := 81) rw_33_81 rfl (to_c (pc := 82) rw_33_82 (x := (2 : Int32)) rfl rfl (b_cne (pc := 83) rw_33_83 (A := r24.toInt) (B := 2) rfl rfl (fun h85 => ?_) (fun h85 => ?_)))
          · refine to_an (pc := 105) rw_33_105 rfl (to_an (pc := 106) rw_33_106 rfl (to_in (pc := 107) rw_33_107 rfl (b_ine (pc := 108) rw_33_108 (A := r24.toInt) rfl (fun h86 => ?_) (fun h86 => ?_))))
            · refine to_c (pc := 115) rw_33_115 (x := (1 : Int32)) rfl rfl (s_v (pc := 116) rw_33_116 (dp0 hd (by decide)) (ls0 := [.ref p, .ref 1, .int (1 : Int32), .null, .null, .null]) rfl (Nat.le_of_ble_eq_true rfl) (Nat.le_of_ble_eq_true rfl) rfl (to_rc rfl rfl rfl (g_o hG38 (by rcases hp with rfl | rfl <;> rfl))) rfl ?_)
              have k_87 : (1 : Int32).toInt = 1 := rfl
              have c_88 : M39.2.1 p 2 = (M.2.1 p 2) := (F_n F37 (show ¬ (p = 1 ∧ 5 ≤ 2 ∨ 3 ≤ p ∧ p ≤ 5) by omega) (W_n W33 (by omega) c_32))
              have t_89 : (M39.2.1 p 2).toInt = (M.2.1 p 2).toInt := congrArg Int32.toInt c_88
              have j_90 := (PI_f (tg_112 F37) (PI_f (fun a i z => W_n W33 (by omega) rfl) (PI_f (tg_99 F25) (PI_f (tg_112 F20) (PI_f (fun a i z => W_n W16 (by omega) rfl) (PI_f (tg_112 F8) (PI_f (tg_112 F3) q1)))))))
              refine C_36 hX (dp1 hd (by decide)) hG38 hp (by omega) (by omega) (by omega) j_90 (p := p) (w := (1 : Int32)) (fun r91 M97 hG93 F92 p_94 p_95 p_96 => ?_)
              have F98 := FR.c F40 F92 tg_118
              refine b_ieq (pc := 119) rw_33_119 (A := r91.toInt) rfl (fun h99 => ?_) (fun h99 => ?_)
              · refine to_c (pc := 138) rw_33_138 (x := (0 : Int32)) rfl rfl (to_isn (pc := 139) rw_33_139 (ls2 := [.ref p, .ref 1, .int r24, .int (0 : Int32)]) rfl rfl (to_in (pc := 140) rw_33_140 rfl (b_ine_f (pc := 141) rw_33_141 (A := 0) rfl (by decide) (to_c (pc := 144) rw_33_144 (x := (0 : Int32)) rfl rfl (s_r1 (pc := 145) rw_33_145 (A := 0) rfl (by decide) ?_)))))
                have k_100 : (0 : Int32).toInt = 0 := rfl
                exact h (0 : Int32) M97 hG93 F98 (by decide) (by decide) p_96
              · refine to_in (pc := 122) rw_33_122 rfl (b_ieq_f (pc := 123) rw_33_123 (A := r24.toInt) rfl (by omega) (to_an (pc := 126) rw_33_126 rfl (to_an (pc := 127) rw_33_127 rfl (s_v (pc := 128) rw_33_128 (dp0 hd (by decide)) (ls0 := [.ref p, .ref 1]) rfl (Nat.le_of_ble_eq_true rfl) (Nat.le_of_ble_eq_true rfl) rfl (to_rc rfl rfl rfl (g_o hG93 (by rcases hp with rfl | rfl <;> rfl))) rfl ?_))))
                have c_101 : M97.2.1 p 2 = (M.2.1 p 2) := (F_n F92 (show ¬ (p = 1 ∧ 5 ≤ 2 ∨ 3 ≤ p ∧ p ≤ 5 ∨ 50 ≤ p ∧ p ≤ 57 ∨ 59 ≤ p ∧ p ≤ 66) by omega) c_88)
                have t_102 : (M97.2.1 p 2).toInt = (M.2.1 p 2).toInt := congrArg Int32.toInt c_101
                refine C_38 hX (dp1 hd (by decide)) hG93 hp (by omega) p_96 (p := p) (fun r103 M109 hG105 F104 p_106 p_107 p_108 => ?_)
                have F110 := FR.c F98 F104 tg_118
                refine b_ieq (pc := 131) rw_33_131 (A := r103.toInt) rfl (fun h111 => ?_) (fun h111 => ?_)
                · refine to_c (pc := 138) rw_33_138 (x := (0 : Int32)) rfl rfl (to_isn (pc := 139) rw_33_139 (ls2 := [.ref p, .ref 1, .int r24, .int (0 : Int32)]) rfl rfl (to_in (pc := 140) rw_33_140 rfl (b_ine_f (pc := 141) rw_33_141 (A := 0) rfl (by decide) (to_c (pc := 144) rw_33_144 (x := (0 : Int32)) rfl rfl (s_r1 (pc := 145) rw_33_145 (A := 0) rfl (by decide) ?_)))))
                  have k_112 : (0 : Int32).toInt = 0 := rfl
                  exact h (0 : Int32) M109 hG105 F110 (by decide) (by decide) p_108
                · refine to_c (pc := 134) rw_33_134 (x := (1 : Int32)) rfl rfl (to_go (pc := 135) rw_33_135 (to_isn (pc := 139) rw_33_139 (ls2 := [.ref p, .ref 1, .int r24, .int (1 : Int32)]) rfl rfl (to_in (pc := 140) rw_33_140 rfl (b_ine_t (pc := 141) rw_33_141 (A := 1) rfl (by decide) (to_an (pc := 146) rw_33_146 rfl (to_dupr (pc := 147) rw_33_147 (s_gJ (pc := 148) rw_33_148 hG105 (by rcases hp with rfl | rfl <;> rfl) (fun l113 => to_an (pc := 151) rw_33_151 rfl (s_gR (pc := 152) rw_33_152 hG105 (by rcases hp with rfl | rfl <;> rfl) (v := (p + 3)) (by rcases hp with rfl | rfl <;> rfl) (to_an (pc := 155) rw_33_155 rfl ?_))))))))))
                  have c_114 : M109.2.1 p 2 = (M.2.1 p 2) := (F_n F104 (show ¬ (p = 1 ∧ 5 ≤ 2 ∨ 3 ≤ p ∧ p ≤ 5 ∨ 50 ≤ p ∧ p ≤ 57 ∨ 59 ≤ p ∧ p ≤ 66) by omega) c_101)
                  refine tt_gI (pc := 156) rw_33_156 (g_o hG105 (by rcases hp with rfl | rfl <;> rfl)) (v := (M.2.1 p 2)) c_114 (s_ial (pc := 159) rw_33_159 hG105 (by rcases hp with rfl | rfl <;> rfl) (n := 8) (by rcases hp with rfl | rfl <;> rfl) (by rcases hp with rfl | rfl <;> rfl) (A := (M.2.1 p 2).toInt) rfl (by omega) (by omega) (lo := 0) (hi := 59) (by rcases hp with rfl | rfl <;> rfl) (by rcases hp with rfl | rfl <;> rfl) (fun v115 w_116 _ _ => to_an (pc := 160) rw_33_160 rfl (s_gR (pc := 161) rw_33_161 hG105 (by rcases hp with rfl | rfl <;> rfl) (v := (p + 4)) (by rcases hp with rfl | rfl <;> rfl) (to_an (pc := 164) rw_33_164 rfl (tt_gI (pc := 165) rw_33_165 (g_o hG105 (by rcases hp with rfl | rfl <;> rfl)) (v := (M.2.1 p 2)) c_114 (s_ial (pc := 168) rw_33_168 hG105 (by rcases hp with rfl | rfl <;> rfl) (n := 8) (by rcases hp with rfl | rfl <;> rfl) (by rcases hp with rfl | rfl <;> rfl) (A := (M.2.1 p 2).toInt) rfl (by omega) (by omega) (lo := 0) (hi := 63) (by rcases hp with rfl | rfl <;> rfl) (by rcases hp with rfl | rfl <;> rfl) (fun v117 w_118 _ _ => s_s (pc := 169) rw_33_169 (dp0 hd (by decide)) (ls0 := [.int v115, .int v117]) rfl (Nat.le_of_ble_eq_true rfl) (Nat.le_of_ble_eq_true rfl) rfl (to_rcs rfl rfl) rfl (s_cl (pc := 0) rw_144_0 rfl (fun l119 => to_in (pc := 1) rw_144_1 rfl (to_in (pc := 2) rw_144_2 rfl (s_sub (pc := 3) rw_144_3 (A := v117.toInt) (B := v115.toInt) rfl rfl (by omega) (fun v120 e121 => ?_))))))))))))
                  refine to_c (pc := 4) rw_144_4 (x := (1 : Int32)) rfl rfl (s_add (pc := 5) rw_144_5 (A := v120.toInt) (B := 1) rfl rfl (by omega) (fun v122 e123 => s_anyS (pc := 6) rw_144_6 (fun _ _ => rfl) (fun l124 => s_cl (pc := 7) rw_144_7 rfl (fun l125 => s_anyL (pc := 8) rw_144_8 (fun _ _ => rfl) (fun l126 => to_in (pc := 9) rw_144_9 rfl (s_anyS (pc := 10) rw_144_10 (fun _ _ => rfl) (fun l127 => to_rl (pc := 11) rw_144_11 (s_anyL (pc := 172) rw_33_172 (fun _ _ => rfl) (fun l128 => s_pJ (pc := 173) rw_33_173 hG105 (by rcases hp with rfl | rfl <;> rfl) (fun M130 W129 => ?_))))))))))
                  have hG131 := g_wl hG105 W129
                  have F132 := FR.wl F110 W129 (show p = 1 ∧ 5 ≤ 4 ∨ 3 ≤ p ∧ p ≤ 5 ∨ 49 ≤ p ∧ p ≤ 66 by omega)
                  refine to_an (pc := 176) rw_33_176 rfl (to_dupr (pc := 177) rw_33_177 ?_)
                  have c_133 : M130.2.1 p 2 = (M.2.1 p 2) := (W_l W129 c_114)
                  refine tt_gI (pc := 178) rw_33_178 (g_o hG131 (by rcases hp with rfl | rfl <;> rfl)) (v := (M.2.1 p 2)) c_133 (to_c (pc := 181) rw_33_181 (x := (1 : Int32)) rfl rfl (s_add (pc := 182) rw_33_182 (A := (M.2.1 p 2).toInt) (B := 1) rfl rfl (by omega) (fun v134 e135 => s_pI (pc := 183) rw_33_183 hG131 (by rcases hp with rfl | rfl <;> rfl) (fun M137 W136 => ?_))))
                  have hG138 := g_w hG131 W136 (A := v134.toInt) rfl (lo := 0) (hi := 8) (by rcases hp with rfl | rfl <;> rfl) (by rcases hp with rfl | rfl <;> rfl) (by omega) (by omega)
                  have F139 := FR.w F132 W136 (show p = 1 ∧ 5 ≤ 2 ∨ 3 ≤ p ∧ p ≤ 5 ∨ 49 ≤ p ∧ p ≤ 66 by omega)
                  refine to_c (pc := 186) rw_33_186 (x := (1 : Int32)) rfl rfl (s_r1 (pc := 187) rw_33_187 (A := 1) rfl (by decide) ?_)
                  have j_140 := (PI_f (fun a i z => W_n W136 (by omega) rfl) (PI_f (fun a i z => W_l W129 rfl) p_108))
                  exact h (1 : Int32) M137 hG138 F139 (by decide) (by decide) j_140
            · refine to_c (pc := 111) rw_33_111 (x := (2 : Int32)) rfl rfl (to_go (pc := 112) rw_33_112 (s_v (pc := 116) rw_33_116 (dp0 hd (by decide)) (ls0 := [.ref p, .ref 1, .int (2 : Int32), .null, .null, .null]) rfl (Nat.le_of_ble_eq_true rfl) (Nat.le_of_ble_eq_true rfl) rfl (to_rc rfl rfl rfl (g_o hG38 (by rcases hp with rfl | rfl <;> rfl))) rfl ?_))
              have k_141 : (2 : Int32).toInt = 2 := rfl
              have c_142 : M39.2.1 p 2 = (M.2.1 p 2) := (F_n F37 (show ¬ (p = 1 ∧ 5 ≤ 2 ∨ 3 ≤ p ∧ p ≤ 5) by omega) (W_n W33 (by omega) c_32))
              have t_143 : (M39.2.1 p 2).toInt = (M.2.1 p 2).toInt := congrArg Int32.toInt c_142
              have j_144 := (PI_f (tg_112 F37) (PI_f (fun a i z => W_n W33 (by omega) rfl) (PI_f (tg_99 F25) (PI_f (tg_112 F20) (PI_f (fun a i z => W_n W16 (by omega) rfl) (PI_f (tg_112 F8) (PI_f (tg_112 F3) q1)))))))
              refine C_36 hX (dp1 hd (by decide)) hG38 hp (by omega) (by omega) (by omega) j_144 (p := p) (w := (2 : Int32)) (fun r145 M151 hG147 F146 p_148 p_149 p_150 => ?_)
              have F152 := FR.c F40 F146 tg_118
              refine b_ieq (pc := 119) rw_33_119 (A := r145.toInt) rfl (fun h153 => ?_) (fun h153 => ?_)
              · refine to_c (pc := 138) rw_33_138 (x := (0 : Int32)) rfl rfl (to_isn (pc := 139) rw_33_139 (ls2 := [.ref p, .ref 1, .int r24, .int (0 : Int32)]) rfl rfl (to_in (pc := 140) rw_33_140 rfl (b_ine_f (pc := 141) rw_33_141 (A := 0) rfl (by decide) (to_c (pc := 144) rw_33_144 (x := (0 : Int32)) rfl rfl (s_r1 (pc := 145) rw_33_145 (A := 0) rfl (by decide) ?_)))))
                have k_154 : (0 : Int32).toInt = 0 := rfl
                exact h (0 : Int32) M151 hG147 F152 (by decide) (by decide) p_150
              · refine to_in (pc := 122) rw_33_122 rfl (b_ieq_t (pc := 123) rw_33_123 (A := r24.toInt) rfl (by omega) (to_c (pc := 134) rw_33_134 (x := (1 : Int32)) rfl rfl (to_go (pc := 135) rw_33_135 (to_isn (pc := 139) rw_33_139 (ls2 := [.ref p, .ref 1, .int r24, .int (1 : Int32)]) rfl rfl (to_in (pc := 140) rw_33_140 rfl (b_ine_t (pc := 141) rw_33_141 (A := 1) rfl (by decide) (to_an (pc := 146) rw_33_146 rfl (to_dupr (pc := 147) rw_33_147 (s_gJ (pc := 148) rw_33_148 hG147 (by rcases hp with rfl | rfl <;> rfl) (fun l155 => to_an (pc := 151) rw_33_151 rfl (s_gR (pc := 152) rw_33_152 hG147 (by rcases hp with rfl | rfl <;> rfl) (v := (p + 3)) (by rcases hp with rfl | rfl <;> rfl) ?_)))))))))))
                refine to_an (pc := 155) rw_33_155 rfl ?_
                have c_156 : M151.2.1 p 2 = (M.2.1 p 2) := (F_n F146 (show ¬ (p = 1 ∧ 5 ≤ 2 ∨ 3 ≤ p ∧ p ≤ 5 ∨ 50 ≤ p ∧ p ≤ 57 ∨ 59 ≤ p ∧ p ≤ 66) by omega) c_142)
                refine tt_gI (pc := 156) rw_33_156 (g_o hG147 (by rcases hp with rfl | rfl <;> rfl)) (v := (M.2.1 p 2)) c_156 (s_ial (pc := 159) rw_33_159 hG147 (by rcases hp with rfl | rfl <;> rfl) (n := 8) (by rcases hp with rfl | rfl <;> rfl) (by rcases hp with rfl | rfl <;> rfl) (A := (M.2.1 p 2).toInt) rfl (by omega) (by omega) (lo := 0) (hi := 59) (by rcases hp with rfl | rfl <;> rfl) (by rcases hp with rfl | rfl <;> rfl) (fun v157 w_158 _ _ => to_an (pc := 160) rw_33_160 rfl (s_gR (pc := 161) rw_33_161 hG147 (by rcases hp with rfl | rfl <;> rfl) (v := (p + 4)) (by rcases hp with rfl | rfl <;> rfl) (to_an (pc := 164) rw_33_164 rfl (tt_gI (pc := 165) rw_33_165 (g_o hG147 (by rcases hp with rfl | rfl <;> rfl)) (v := (M.2.1 p 2)) c_156 (s_ial (pc := 168) rw_33_168 hG147 (by rcases hp with rfl | rfl <;> rfl) (n := 8) (by rcases hp with rfl | rfl <;> rfl) (by rcases hp with rfl | rfl <;> rfl) (A := (M.2.1 p 2).toInt) rfl (by omega) (by omega) (lo := 0) (hi := 63) (by rcases hp with rfl | rfl <;> rfl) (by rcases hp with rfl | rfl <;> rfl) (fun v159 w_160 _ _ => s_s (pc := 169) rw_33_169 (dp0 hd (by decide)) (ls0 := [.int v157, .int v159]) rfl (Nat.le_of_ble_eq_true rfl) (Nat.le_of_ble_eq_true rfl) rfl (to_rcs rfl rfl) rfl (s_cl (pc := 0) rw_144_0 rfl (fun l161 => to_in (pc := 1) rw_144_1 rfl (to_in (pc := 2) rw_144_2 rfl (s_sub (pc := 3) rw_144_3 (A := v159.toInt) (B := v157.toInt) rfl rfl (by omega) (fun v162 e163 => ?_))))))))))))
                refine to_c (pc := 4) rw_144_4 (x := (1 : Int32)) rfl rfl (s_add (pc := 5) rw_144_5 (A := v162.toInt) (B := 1) rfl rfl (by omega) (fun v164 e165 => s_anyS (pc := 6) rw_144_6 (fun _ _ => rfl) (fun l166 => s_cl (pc := 7) rw_144_7 rfl (fun l167 => s_anyL (pc := 8) rw_144_8 (fun _ _ => rfl) (fun l168 => to_in (pc := 9) rw_144_9 rfl (s_anyS (pc := 10) rw_144_10 (fun _ _ => rfl) (fun l169 => to_rl (pc := 11) rw_144_11 (s_anyL (pc := 172) rw_33_172 (fun _ _ => rfl) (fun l170 => s_pJ (pc := 173) rw_33_173 hG147 (by rcases hp with rfl | rfl <;> rfl) (fun M172 W171 => ?_))))))))))
                have hG173 := g_wl hG147 W171
                have F174 := FR.wl F152 W171 (show p = 1 ∧ 5 ≤ 4 ∨ 3 ≤ p ∧ p ≤ 5 ∨ 49 ≤ p ∧ p ≤ 66 by omega)
                refine to_an (pc := 176) rw_33_176 rfl (to_dupr (pc := 177) rw_33_177 ?_)
                have c_175 : M172.2.1 p 2 = (M.2.1 p 2) := (W_l W171 c_156)
                refine tt_gI (pc := 178) rw_33_178 (g_o hG173 (by rcases hp with rfl | rfl <;> rfl)) (v := (M.2.1 p 2)) c_175 (to_c (pc := 181) rw_33_181 (x := (1 : Int32)) rfl rfl (s_add (pc := 182) rw_33_182 (A := (M.2.1 p 2).toInt) (B := 1) rfl rfl (by omega) (fun v176 e177 => s_pI (pc := 183) rw_33_183 hG173 (by rcases hp with rfl | rfl <;> rfl) (fun M179 W178 => ?_))))
                have hG180 := g_w hG173 W178 (A := v176.toInt) rfl (lo := 0) (hi := 8) (by rcases hp with rfl | rfl <;> rfl) (by rcases hp with rfl | rfl <;> rfl) (by omega) (by omega)
                have F181 := FR.w F174 W178 (show p = 1 ∧ 5 ≤ 2 ∨ 3 ≤ p ∧ p ≤ 5 ∨ 49 ≤ p ∧ p ≤ 66 by omega)
                refine to_c (pc := 186) rw_33_186 (x := (1 : Int32)) rfl rfl (s_r1 (pc := 187) rw_33_187 (A := 1) rfl (by decide) ?_)
                have k_182 : (1 : Int32).toInt = 1 := rfl
                have j_183 := (PI_f (fun a i z => W_n W178 (by omega) rfl) (PI_f (fun a i z => W_l W171 rfl) p_150))
                exact h (1 : Int32) M179 hG180 F181 (by decide) (by decide) j_183
          · refine to_an (pc := 86) rw_33_86 rfl (to_an (pc := 87) rw_33_87 rfl (to_in (pc := 88) rw_33_88 rfl (to_c (pc := 89) rw_33_89 (x := (1 : Int32)) rfl rfl (b_cne_t (pc := 90) rw_33_90 (A := r24.toInt) (B := 1) rfl rfl (by omega) (to_c (pc := 97) rw_33_97 (x := (5 : Int32)) rfl rfl (s_v (pc := 98) rw_33_98 (dp0 hd (by decide)) (ls0 := [.ref p, .ref 1, .int (5 : Int32), .null, .null]) rfl (Nat.le_of_ble_eq_true rfl) (Nat.le_of_ble_eq_true rfl) rfl (to_rc rfl rfl rfl (g_o hG38 (by rcases hp with rfl | rfl <;> rfl))) rfl ?_))))))
            have k_184 : (5 : Int32).toInt = 5 := rfl
            have c_185 : M39.2.1 p 2 = (M.2.1 p 2) := (F_n F37 (show ¬ (p = 1 ∧ 5 ≤ 2 ∨ 3 ≤ p ∧ p ≤ 5) by omega) (W_n W33 (by omega) c_32))
            have t_186 : (M39.2.1 p 2).toInt = (M.2.1 p 2).toInt := congrArg Int32.toInt c_185
            have j_187 := (PI_f (tg_112 F37) (PI_f (fun a i z => W_n W33 (by omega) rfl) (PI_f (tg_99 F25) (PI_f (tg_112 F20) (PI_f (fun a i z => W_n W16 (by omega) rfl) (PI_f (tg_112 F8) (PI_f (tg_112 F3) q1)))))))
            refine C_37 hX (dp1 hd (by decide)) hG38 hp (by omega) (by omega) (by omega) j_187 (p := p) (w := (5 : Int32)) (fun r188 M194 hG190 F189 p_191 p_192 p_193 => ?_)
            have F195 := FR.c F40 F189 tg_118
            refine to_isn (pc := 101) rw_33_101 (ls2 := [.ref p, .ref 1, .int r24, .int r188]) rfl rfl (to_go (pc := 102) rw_33_102 (to_in (pc := 140) rw_33_140 rfl (b_ine (pc := 141) rw_33_141 (A := r188.toInt) rfl (fun h196 => ?_) (fun h196 => ?_))))
            · refine to_an (pc := 146) rw_33_146 rfl (to_dupr (pc := 147) rw_33_147 (s_gJ (pc := 148) rw_33_148 hG190 (by rcases hp with rfl | rfl <;> rfl) (fun l197 => to_an (pc := 151) rw_33_151 rfl (s_gR (pc := 152) rw_33_152 hG190 (by rcases hp with rfl | rfl <;> rfl) (v := (p + 3)) (by rcases hp with rfl | rfl <;> rfl) (to_an (pc := 155) rw_33_155 rfl ?_)))))
              have c_198 : M194.2.1 p 2 = (M.2.1 p 2) := (F_n F189 (show ¬ (p = 1 ∧ 5 ≤ 2 ∨ 3 ≤ p ∧ p ≤ 5 ∨ 50 ≤ p ∧ p ≤ 57 ∨ 59 ≤ p ∧ p ≤ 66) by omega) c_185)
              refine tt_gI (pc := 156) rw_33_156 (g_o hG190 (by rcases hp with rfl | rfl <;> rfl)) (v := (M.2.1 p 2)) c_198 (s_ial (pc := 159) rw_33_159 hG190 (by rcases hp with rfl | rfl <;> rfl) (n := 8) (by rcases hp with rfl | rfl <;> rfl) (by rcases hp with rfl | rfl <;> rfl) (A := (M.2.1 p 2).toInt) rfl (by omega) (by omega) (lo := 0) (hi := 59) (by rcases hp with rfl | rfl <;> rfl) (by rcases hp with rfl | rfl <;> rfl) (fun v199 w_200 _ _ => to_an (pc := 160) rw_33_160 rfl (s_gR (pc := 161) rw_33_161 hG190 (by rcases hp with rfl | rfl <;> rfl) (v := (p + 4)) (by rcases hp with rfl | rfl <;> rfl) (to_an (pc := 164) rw_33_164 rfl (tt_gI (pc := 165) rw_33_165 (g_o hG190 (by rcases hp with rfl | rfl <;> rfl)) (v := (M.2.1 p 2)) c_198 (s_ial (pc := 168) rw_33_168 hG190 (by rcases hp with rfl | rfl <;> rfl) (n := 8) (by rcases hp with rfl | rfl <;> rfl) (by rcases hp with rfl | rfl <;> rfl) (A := (M.2.1 p 2).toInt) rfl (by omega) (by omega) (lo := 0) (hi := 63) (by rcases hp with rfl | rfl <;> rfl) (by rcases hp with rfl | rfl <;> rfl) (fun v201 w_202 _ _ => s_s (pc := 169) rw_33_169 (dp0 hd (by decide)) (ls0 := [.int v199, .int v201]) rfl (Nat.le_of_ble_eq_true rfl) (Nat.le_of_ble_eq_true rfl) rfl (to_rcs rfl rfl) rfl (s_cl (pc := 0) rw_144_0 rfl (fun l203 => to_in (pc := 1) rw_144_1 rfl (to_in (pc := 2) rw_144_2 rfl (s_sub (pc := 3) rw_144_3 (A := v201.toInt) (B := v199.toInt) rfl rfl (by omega) (fun v204 e205 => ?_))))))))))))
              refine to_c (pc := 4) rw_144_4 (x := (1 : Int32)) rfl rfl (s_add (pc := 5) rw_144_5 (A := v204.toInt) (B := 1) rfl rfl (by omega) (fun v206 e207 => s_anyS (pc := 6) rw_144_6 (fun _ _ => rfl) (fun l208 => s_cl (pc := 7) rw_144_7 rfl (fun l209 => s_anyL (pc := 8) rw_144_8 (fun _ _ => rfl) (fun l210 => to_in (pc := 9) rw_144_9 rfl (s_anyS (pc := 10) rw_144_10 (fun _ _ => rfl) (fun l211 => to_rl (pc := 11) rw_144_11 (s_anyL (pc := 172) rw_33_172 (fun _ _ => rfl) (fun l212 => s_pJ (pc := 173) rw_33_173 hG190 (by rcases hp with rfl | rfl <;> rfl) (fun M214 W213 => ?_))))))))))
              have hG215 := g_wl hG190 W213
              have F216 := FR.wl F195 W213 (show p = 1 ∧ 5 ≤ 4 ∨ 3 ≤ p ∧ p ≤ 5 ∨ 49 ≤ p ∧ p ≤ 66 by omega)
              refine to_an (pc := 176) rw_33_176 rfl (to_dupr (pc := 177) rw_33_177 ?_)
              have c_217 : M214.2.1 p 2 = (M.2.1 p 2) := (W_l W213 c_198)
              refine tt_gI (pc := 178) rw_33_178 (g_o hG215 (by rcases hp with rfl | rfl <;> rfl)) (v := (M.2.1 p 2)) c_217 (to_c (pc := 181) rw_33_181 (x := (1 : Int32)) rfl rfl (s_add (pc := 182) rw_33_182 (A := (M.2.1 p 2).toInt) (B := 1) rfl rfl (by omega) (fun v218 e219 => s_pI (pc := 183) rw_33_183 hG215 (by rcases hp with rfl | rfl <;> rfl) (fun M221 W220 => ?_))))
              have hG222 := g_w hG215 W220 (A := v218.toInt) rfl (lo := 0) (hi := 8) (by rcases hp with rfl | rfl <;> rfl) (by rcases hp with rfl | rfl <;> rfl) (by omega) (by omega)
              have F223 := FR.w F216 W220 (show p = 1 ∧ 5 ≤ 2 ∨ 3 ≤ p ∧ p ≤ 5 ∨ 49 ≤ p ∧ p ≤ 66 by omega)
              refine to_c (pc := 186) rw_33_186 (x := (1 : Int32)) rfl rfl (s_r1 (pc := 187) rw_33_187 (A := 1) rfl (by decide) ?_)
              have k_224 : (1 : Int32).toInt = 1 := rfl
              have j_225 := (PI_f (fun a i z => W_n W220 (by omega) rfl) (PI_f (fun a i z => W_l W213 rfl) p_193))
              exact h (1 : Int32) M221 hG222 F223 (by decide) (by decide) j_225
            · refine to_c (pc := 144) rw_33_144 (x := (0 : Int32)) rfl rfl (s_r1 (pc := 145) rw_33_145 (A := 0) rfl (by decide) ?_)
              have k_226 : (0 : Int32).toInt = 0 := rfl
              exact h (0 : Int32) M194 hG190 F195 (by decide) (by decide) p_193
      · refine to_an (pc := 56) rw_33_56 rfl (to_c (pc := 57) rw_33_57 (x := (1 : Int32)) rfl rfl (s_v (pc := 58) rw_33_58 (dp0 hd (by decide)) (ls0 := [.ref 1, .int (1 : Int32)]) rfl (Nat.le_of_ble_eq_true rfl) (Nat.le_of_ble_eq_true rfl) rfl (to_rc rfl rfl rfl (g_o hG26 rfl)) rfl (to_an (pc := 0) rw_84_0 rfl (to_in (pc := 1) rw_84_1 rfl (s_pI (pc := 2) rw_84_2 hG26 rfl (fun M228 W227 => ?_))))))
        have hG229 := g_wf hG26 W227 rfl rfl (by decide)
        have F230 := FR.w F30 W227 (show 1 = 1 ∧ 5 ≤ 10 ∨ 3 ≤ 1 ∧ 1 ≤ 5 ∨ 49 ≤ 1 ∧ 1 ≤ 66 by decide)
        refine to_an (pc := 5) rw_84_5 rfl (to_an (pc := 6) rw_84_6 rfl ?_)
        have c_231 : M228.2.1 1 9 = (M22.2.1 1 9) := (W_n W227 (by decide) (F_n F25 (show ¬ (1 < 0) by decide) rfl))
        refine tt_gI (pc := 7) rw_84_7 (g_o hG229 rfl) (v := (M22.2.1 1 9)) c_231 (s_pI (pc := 10) rw_84_10 hG229 rfl (fun M233 W232 => ?_))
        have hG234 := g_wf hG229 W232 rfl rfl (by decide)
        have F235 := FR.w F230 W232 (show 1 = 1 ∧ 5 ≤ 11 ∨ 3 ≤ 1 ∧ 1 ≤ 5 ∨ 49 ≤ 1 ∧ 1 ≤ 66 by decide)
        refine to_c (pc := 13) rw_84_13 (x := (0 : Int32)) rfl rfl (s_r1 (pc := 14) rw_84_14 (A := 0) rfl (by decide) (s_r1 (pc := 61) rw_33_61 (A := 0) rfl (by decide) ?_))
        have k_236 : (0 : Int32).toInt = 0 := rfl
        have j_237 := (PI_f (fun a i z => W_n W232 (by /-r1,11-/ omega) rfl) (PI_f (fun a i z => W_n W227 (by /-r1,10-/ omega) rfl) (PI_f (tg_99 F25) (PI_f (tg_112 F20) (PI_f (fun a i z => W_n W16 (by omega) rfl) (PI_f (tg_112 F8) (PI_f (tg_112 F3) q1)))))))
        exact h (0 : Int32) M233 hG234 F235 (by decide) (by decide) j_237
    · refine to_c (pc := 27) rw_33_27 (x := (0 : Int32)) rfl rfl (s_r1 (pc := 28) rw_33_28 (A := 0) rfl (by decide) ?_)
      have k_238 : (0 : Int32).toInt = 0 := rfl
      have j_239 := (PI_f (tg_112 F8) (PI_f (tg_112 F3) q1))
      exact h (0 : Int32) M12 hG9 F13 (by decide) (by decide) j_239
  · refine to_an (pc := 9) rw_33_9 rfl (to_c (pc := 10) rw_33_10 (x := (2 : Int32)) rfl rfl (s_v (pc := 11) rw_33_11 (dp0 hd (by decide)) (ls0 := [.ref 1, .int (2 : Int32)]) rfl (Nat.le_of_ble_eq_true rfl) (Nat.le_of_ble_eq_true rfl) rfl (to_rc rfl rfl rfl (g_o hG rfl)) rfl (to_an (pc := 0) rw_84_0 rfl (to_in (pc := 1) rw_84_1 rfl (s_pI (pc := 2) rw_84_2 hG rfl (fun M241 W240 => ?_))))))
    have hG242 := g_wf hG W240 rfl rfl (by decide)
    have F243 := FR.w F0 W240 (show 1 = 1 ∧ 5 ≤ 10 ∨ 3 ≤ 1 ∧ 1 ≤ 5 ∨ 49 ≤ 1 ∧ 1 ≤ 66 by decide)
    refine to_an (pc := 5) rw_84_5 rfl (to_an (pc := 6) rw_84_6 rfl ?_)
    have c_244 : M241.2.1 1 9 = (M.2.1 1 9) := (W_n W240 (by decide) rfl)
    refine tt_gI (pc := 7) rw_84_7 (g_o hG242 rfl) (v := (M.2.1 1 9)) c_244 (s_pI (pc := 10) rw_84_10 hG242 rfl (fun M246 W245 => ?_))
    have hG247 := g_wf hG242 W245 rfl rfl (by decide)
    have F248 := FR.w F243 W245 (show 1 = 1 ∧ 5 ≤ 11 ∨ 3 ≤ 1 ∧ 1 ≤ 5 ∨ 49 ≤ 1 ∧ 1 ≤ 66 by decide)
    refine to_c (pc := 13) rw_84_13 (x := (0 : Int32)) rfl rfl (s_r1 (pc := 14) rw_84_14 (A := 0) rfl (by decide) (s_r1 (pc := 14) rw_33_14 (A := 0) rfl (by decide) ?_))
    have k_249 : (0 : Int32).toInt = 0 := rfl
    have j_250 := (PI_f (fun a i z => W_n W245 (by /-r1,11-/ omega) rfl) (PI_f (fun a i z => W_n W240 (by /-r1,10-/ omega) rfl) q1))
    exact h (0 : Int32) M246 hG247 F248 (by decide) (by decide) j_250
set_option maxRecDepth 4000 in
set_option maxHeartbeats 0 in
theorem T_42_0 {X : mm_X} {d : Nat} {M : mm_M} {Q : Option Value → mm_M → Prop} {p : Nat} {f : Int32} (hX : g_X X) (hd : 2 ≤ d) (hp : p = 49 ∨ p = 58) (q1 : 0 ≤ f.toInt) (q2 : f.toInt ≤ 7) (q3 : (M.2.1 p 3).toInt ≤ 11) (h : ∀ (r : Int32) (M1 : mm_M), g_G M1 → FR md_c42 M M1 → (0 ≤ r.toInt) → (r.toInt ≤ 1) → Q (some (.int r)) M1) : ∀ nn9 : Nat, (∀ (N : mm_M) (y3 : Int64) (x5 : Int32) (u6 : Value) (u7 : Value) (u8 : Value), g_G N → FR md_c42 M N → (0 ≤ x5.toInt) → (x5.toInt ≤ 25) → (0 ≤ f.toInt) → (f.toInt ≤ 7) → ((N.2.1 p 3).toInt ≤ 11) → 25 - x5.toInt < (nn9 : Int) → mm_T X d 42 5 [.ref p, .ref 1, .int f, .long y3, .null, .int x5, u6, u7, u8] [] N Q) := by
  intro nn9
  induction nn9 with
  | zero =>
    intro N y3 x5 u6 u7 u8 hG F0 g1 g2 g3 g4 g5 hm
    have b_1 := g_b hG (a := p) (i := 3) (lo := 0) (hi := 12) (by rcases hp with rfl | rfl <;> rfl) (by rcases hp with rfl | rfl <;> rfl)
    exfalso; omega
  | succ nn9 ih =>
    intro N y3 x5 u6 u7 u8 hG F0 g1 g2 g3 g4 g5 hm
    have b_2 := g_b hG (a := p) (i := 3) (lo := 0) (hi := 12) (by rcases hp with rfl | rfl <;> rfl) (by rcases hp with rfl | rfl <;> rfl)
    refine to_i (pc := 5) rw_42_5 rfl (b_ieq (pc := 7) rw_42_7 (A := x5.toInt) rfl (fun h3 => ?_) (fun h3 => ?_))
    · refine to_i (pc := 29) rw_42_29 rfl (to_an (pc := 31) rw_42_31 rfl (s_gR (pc := 32) rw_42_32 hG (by rcases hp with rfl | rfl <;> rfl) (v := (p + 5)) (by rcases hp with rfl | rfl <;> rfl) (to_in (pc := 35) rw_42_35 rfl (s_ial (pc := 36) rw_42_36 hG (by rcases hp with rfl | rfl <;> rfl) (n := 8) (by rcases hp with rfl | rfl <;> rfl) (by rcases hp with rfl | rfl <;> rfl) (A := f.toInt) rfl (by omega) (by omega) (lo := 0) (hi := 24) (by rcases hp with rfl | rfl <;> rfl) (by rcases hp with rfl | rfl <;> rfl) (fun v4 w_5 _ _ => b_cge (pc := 37) rw_42_37 (A := x5.toInt) (B := v4.toInt) rfl rfl (fun h6 => ?_) (fun h6 => ?_))))))
      · refine to_c (pc := 50) rw_42_50 (x := (-1 : Int32)) rfl rfl (to_is (pc := 51) rw_42_51 (ls2 := [.ref p, .ref 1, .int f, .long y3, .null, .int x5, .int (-1 : Int32), u7, u8]) rfl rfl (to_an (pc := 53) rw_42_53 rfl (to_c (pc := 54) rw_42_54 (x := (0 : Int32)) rfl rfl (to_i (pc := 55) rw_42_55 rfl (s_v (pc := 57) rw_42_57 (dp0 hd (by decide)) (ls0 := [.ref 1, .int (0 : Int32), .int (-1 : Int32)]) rfl (Nat.le_of_ble_eq_true rfl) (Nat.le_of_ble_eq_true rfl) rfl (to_rc rfl rfl rfl (g_o hG rfl)) rfl (to_an (pc := 0) rw_88_0 rfl (tt_gI (pc := 1) rw_88_1 (g_o hG rfl) (v := (N.2.1 1 7)) rfl (to_c (pc := 4) rw_88_4 (x := (2 : Int32)) rfl rfl (b_ceq (pc := 5) rw_88_5 (A := (N.2.1 1 7).toInt) (B := 2) rfl rfl (fun h7 => ?_) (fun h7 => ?_))))))))))
        · refine to_an (pc := 14) rw_88_14 rfl (tt_gI (pc := 15) rw_88_15 (g_o hG rfl) (v := (N.2.1 1 8)) rfl (to_in (pc := 18) rw_88_18 rfl (b_clt (pc := 19) rw_88_19 (A := (N.2.1 1 8).toInt) (B := 0) rfl rfl (fun h8 => ?_) (fun h8 => ?_))))
          · refine to_an (pc := 30) rw_88_30 rfl (to_c (pc := 31) rw_88_31 (x := (2 : Int32)) rfl rfl (s_v (pc := 32) rw_88_32 (dp1 hd (by decide)) (ls0 := [.ref 1, .int (2 : Int32)]) rfl (Nat.le_of_ble_eq_true rfl) (Nat.le_of_ble_eq_true rfl) rfl (to_rc rfl rfl rfl (g_o hG rfl)) rfl (to_an (pc := 0) rw_84_0 rfl (to_in (pc := 1) rw_84_1 rfl (s_pI (pc := 2) rw_84_2 hG rfl (fun M10 W9 => ?_))))))
            have hG11 := g_wf hG W9 rfl rfl (by decide)
            have F12 := FR.w F0 W9 (show 1 = 1 ∧ 5 ≤ 10 ∨ 3 ≤ 1 ∧ 1 ≤ 5 ∨ 1 = 57 ∨ 1 = 66 by decide)
            refine to_an (pc := 5) rw_84_5 rfl (to_an (pc := 6) rw_84_6 rfl ?_)
            have c_13 : M10.2.1 1 9 = (N.2.1 1 9) := (W_n W9 (by decide) rfl)
            refine tt_gI (pc := 7) rw_84_7 (g_o hG11 rfl) (v := (N.2.1 1 9)) c_13 (s_pI (pc := 10) rw_84_10 hG11 rfl (fun M15 W14 => ?_))
            have hG16 := g_wf hG11 W14 rfl rfl (by decide)
            have F17 := FR.w F12 W14 (show 1 = 1 ∧ 5 ≤ 11 ∨ 3 ≤ 1 ∧ 1 ≤ 5 ∨ 1 = 57 ∨ 1 = 66 by decide)
            refine to_c (pc := 13) rw_84_13 (x := (0 : Int32)) rfl rfl (s_r1 (pc := 14) rw_84_14 (A := 0) rfl (by decide) (b_ieq_t (pc := 35) rw_88_35 (A := 0) rfl (by decide) (to_c (pc := 42) rw_88_42 (x := (0 : Int32)) rfl rfl (s_r1 (pc := 43) rw_88_43 (A := 0) rfl (by decide) (b_ine_f (pc := 60) rw_42_60 (A := 0) rfl (by decide) (to_c (pc := 63) rw_42_63 (x := (0 : Int32)) rfl rfl (s_r1 (pc := 64) rw_42_64 (A := 0) rfl (by decide) ?_)))))))
            have k_18 : (0 : Int32).toInt = 0 := rfl
            exact h (0 : Int32) M15 hG16 F17 (by decide) (by decide)
          · refine to_an (pc := 22) rw_88_22 rfl (tt_gI (pc := 23) rw_88_23 (g_o hG rfl) (v := (N.2.1 1 8)) rfl (to_in (pc := 26) rw_88_26 rfl (b_cle_f (pc := 27) rw_88_27 (A := (N.2.1 1 8).toInt) (B := -1) rfl rfl (by omega) (to_an (pc := 30) rw_88_30 rfl (to_c (pc := 31) rw_88_31 (x := (2 : Int32)) rfl rfl (s_v (pc := 32) rw_88_32 (dp1 hd (by decide)) (ls0 := [.ref 1, .int (2 : Int32)]) rfl (Nat.le_of_ble_eq_true rfl) (Nat.le_of_ble_eq_true rfl) rfl (to_rc rfl rfl rfl (g_o hG rfl)) rfl (to_an (pc := 0) rw_84_0 rfl (to_in (pc := 1) rw_84_1 rfl (s_pI (pc := 2) rw_84_2 hG rfl (fun M20 W19 => ?_))))))))))
            have hG21 := g_wf hG W19 rfl rfl (by decide)
            have F22 := FR.w F0 W19 (show 1 = 1 ∧ 5 ≤ 10 ∨ 3 ≤ 1 ∧ 1 ≤ 5 ∨ 1 = 57 ∨ 1 = 66 by decide)
            refine to_an (pc := 5) rw_84_5 rfl (to_an (pc := 6) rw_84_6 rfl ?_)
            have c_23 : M20.2.1 1 9 = (N.2.1 1 9) := (W_n W19 (by decide) rfl)
            refine tt_gI (pc := 7) rw_84_7 (g_o hG21 rfl) (v := (N.2.1 1 9)) c_23 (s_pI (pc := 10) rw_84_10 hG21 rfl (fun M25 W24 => ?_))
            have hG26 := g_wf hG21 W24 rfl rfl (by decide)
            have F27 := FR.w F22 W24 (show 1 = 1 ∧ 5 ≤ 11 ∨ 3 ≤ 1 ∧ 1 ≤ 5 ∨ 1 = 57 ∨ 1 = 66 by decide)
            refine to_c (pc := 13) rw_84_13 (x := (0 : Int32)) rfl rfl (s_r1 (pc := 14) rw_84_14 (A := 0) rfl (by decide) (b_ieq_t (pc := 35) rw_88_35 (A := 0) rfl (by decide) (to_c (pc := 42) rw_88_42 (x := (0 : Int32)) rfl rfl (s_r1 (pc := 43) rw_88_43 (A := 0) rfl (by decide) (b_ine_f (pc := 60) rw_42_60 (A := 0) rfl (by decide) (to_c (pc := 63) rw_42_63 (x := (0 : Int32)) rfl rfl (s_r1 (pc := 64) rw_42_64 (A := 0) rfl (by decide) ?_)))))))
            have k_28 : (0 : Int32).toInt = 0 := rfl
            exact h (0 : Int32) M25 hG26 F27 (by decide) (by decide)
        · refine to_an (pc := 8) rw_88_8 rfl (to_c (pc := 9) rw_88_9 (x := (1 : Int32)) rfl rfl (s_v (pc := 10) rw_88_10 (dp1 hd (by decide)) (ls0 := [.ref 1, .int (1 : Int32)]) rfl (Nat.le_of_ble_eq_true rfl) (Nat.le_of_ble_eq_true rfl) rfl (to_rc rfl rfl rfl (g_o hG rfl)) rfl (to_an (pc := 0) rw_84_0 rfl (to_in (pc := 1) rw_84_1 rfl (s_pI (pc := 2) rw_84_2 hG rfl (fun M30 W29 => ?_))))))
          have hG31 := g_wf hG W29 rfl rfl (by decide)
          have F32 := FR.w F0 W29 (show 1 = 1 ∧ 5 ≤ 10 ∨ 3 ≤ 1 ∧ 1 ≤ 5 ∨ 1 = 57 ∨ 1 = 66 by decide)
          refine to_an (pc := 5) rw_84_5 rfl (to_an (pc := 6) rw_84_6 rfl ?_)
          have c_33 : M30.2.1 1 9 = (N.2.1 1 9) := (W_n W29 (by decide) rfl)
          refine tt_gI (pc := 7) rw_84_7 (g_o hG31 rfl) (v := (N.2.1 1 9)) c_33 (s_pI (pc := 10) rw_84_10 hG31 rfl (fun M35 W34 => ?_))
          have hG36 := g_wf hG31 W34 rfl rfl (by decide)
          have F37 := FR.w F32 W34 (show 1 = 1 ∧ 5 ≤ 11 ∨ 3 ≤ 1 ∧ 1 ≤ 5 ∨ 1 = 57 ∨ 1 = 66 by decide)
          refine to_c (pc := 13) rw_84_13 (x := (0 : Int32)) rfl rfl (s_r1 (pc := 14) rw_84_14 (A := 0) rfl (by decide) (s_r1 (pc := 13) rw_88_13 (A := 0) rfl (by decide) (b_ine_f (pc := 60) rw_42_60 (A := 0) rfl (by decide) (to_c (pc := 63) rw_42_63 (x := (0 : Int32)) rfl rfl (s_r1 (pc := 64) rw_42_64 (A := 0) rfl (by decide) ?_)))))
          have k_38 : (0 : Int32).toInt = 0 := rfl
          exact h (0 : Int32) M35 hG36 F37 (by decide) (by decide)
      · refine to_an (pc := 40) rw_42_40 rfl (to_in (pc := 41) rw_42_41 rfl (s_v (pc := 42) rw_42_42 (dp0 hd (by decide)) (ls0 := [.ref p, .int f]) rfl (Nat.le_of_ble_eq_true rfl) (Nat.le_of_ble_eq_true rfl) rfl (to_rc rfl rfl rfl (g_o hG (by rcases hp with rfl | rfl <;> rfl))) rfl (to_an (pc := 0) rw_47_0 rfl (s_gR (pc := 1) rw_47_1 hG (by rcases hp with rfl | rfl <;> rfl) (v := (p + 4)) (by rcases hp with rfl | rfl <;> rfl) (to_in (pc := 4) rw_47_4 rfl (s_ial (pc := 5) rw_47_5 hG (by rcases hp with rfl | rfl <;> rfl) (n := 8) (by rcases hp with rfl | rfl <;> rfl) (by rcases hp with rfl | rfl <;> rfl) (A := f.toInt) rfl (by omega) (by omega) (lo := 0) (hi := 63) (by rcases hp with rfl | rfl <;> rfl) (by rcases hp with rfl | rfl <;> rfl) (fun v39 w_40 _ _ => to_an (pc := 6) rw_47_6 rfl (s_gR (pc := 7) rw_47_7 hG (by rcases hp with rfl | rfl <;> rfl) (v := (p + 3)) (by rcases hp with rfl | rfl <;> rfl) (to_in (pc := 10) rw_47_10 rfl (s_ial (pc := 11) rw_47_11 hG (by rcases hp with rfl | rfl <;> rfl) (n := 8) (by rcases hp with rfl | rfl <;> rfl) (by rcases hp with rfl | rfl <;> rfl) (A := f.toInt) rfl (by omega) (by omega) (lo := 0) (hi := 59) (by rcases hp with rfl | rfl <;> rfl) (by rcases hp with rfl | rfl <;> rfl) (fun v41 w_42 _ _ => s_sub (pc := 12) rw_47_12 (A := v39.toInt) (B := v41.toInt) rfl rfl (by omega) (fun v43 e44 => ?_))))))))))))
        refine to_c (pc := 13) rw_47_13 (x := (1 : Int32)) rfl rfl (s_add (pc := 14) rw_47_14 (A := v43.toInt) (B := 1) rfl rfl (by omega) (fun v45 e46 => to_r0 (pc := 15) rw_47_15 (to_c (pc := 45) rw_42_45 (x := (1 : Int32)) rfl rfl (s_sub (pc := 46) rw_42_46 (A := v45.toInt) (B := 1) rfl rfl (by omega) (fun v47 e48 => to_go (pc := 47) rw_42_47 (to_is (pc := 51) rw_42_51 (ls2 := [.ref p, .ref 1, .int f, .long y3, .null, .int x5, .int v47, u7, u8]) rfl rfl (to_an (pc := 53) rw_42_53 rfl (to_c (pc := 54) rw_42_54 (x := (0 : Int32)) rfl rfl (to_i (pc := 55) rw_42_55 rfl (s_v (pc := 57) rw_42_57 (dp0 hd (by decide)) (ls0 := [.ref 1, .int (0 : Int32), .int v47]) rfl (Nat.le_of_ble_eq_true rfl) (Nat.le_of_ble_eq_true rfl) rfl (to_rc rfl rfl rfl (g_o hG rfl)) rfl (to_an (pc := 0) rw_88_0 rfl ?_)))))))))))
        refine tt_gI (pc := 1) rw_88_1 (g_o hG rfl) (v := (N.2.1 1 7)) rfl (to_c (pc := 4) rw_88_4 (x := (2 : Int32)) rfl rfl (b_ceq (pc := 5) rw_88_5 (A := (N.2.1 1 7).toInt) (B := 2) rfl rfl (fun h49 => ?_) (fun h49 => ?_)))
        · refine to_an (pc := 14) rw_88_14 rfl (tt_gI (pc := 15) rw_88_15 (g_o hG rfl) (v := (N.2.1 1 8)) rfl (to_in (pc := 18) rw_88_18 rfl (b_clt (pc := 19) rw_88_19 (A := (N.2.1 1 8).toInt) (B := 0) rfl rfl (fun h50 => ?_) (fun h50 => ?_))))
          · refine to_an (pc := 30) rw_88_30 rfl (to_c (pc := 31) rw_88_31 (x := (2 : Int32)) rfl rfl (s_v (pc := 32) rw_88_32 (dp1 hd (by decide)) (ls0 := [.ref 1, .int (2 : Int32)]) rfl (Nat.le_of_ble_eq_true rfl) (Nat.le_of_ble_eq_true rfl) rfl (to_rc rfl rfl rfl (g_o hG rfl)) rfl (to_an (pc := 0) rw_84_0 rfl (to_in (pc := 1) rw_84_1 rfl (s_pI (pc := 2) rw_84_2 hG rfl (fun M52 W51 => ?_))))))
            have hG53 := g_wf hG W51 rfl rfl (by decide)
            have F54 := FR.w F0 W51 (show 1 = 1 ∧ 5 ≤ 10 ∨ 3 ≤ 1 ∧ 1 ≤ 5 ∨ 1 = 57 ∨ 1 = 66 by decide)
            refine to_an (pc := 5) rw_84_5 rfl (to_an (pc := 6) rw_84_6 rfl ?_)
            have c_55 : M52.2.1 1 9 = (N.2.1 1 9) := (W_n W51 (by decide) rfl)
            refine tt_gI (pc := 7) rw_84_7 (g_o hG53 rfl) (v := (N.2.1 1 9)) c_55 (s_pI (pc := 10) rw_84_10 hG53 rfl (fun M57 W56 => ?_))
            have hG58 := g_wf hG53 W56 rfl rfl (by decide)
            have F59 := FR.w F54 W56 (show 1 = 1 ∧ 5 ≤ 11 ∨ 3 ≤ 1 ∧ 1 ≤ 5 ∨ 1 = 57 ∨ 1 = 66 by decide)
            refine to_c (pc := 13) rw_84_13 (x := (0 : Int32)) rfl rfl (s_r1 (pc := 14) rw_84_14 (A := 0) rfl (by decide) (b_ieq_t (pc := 35) rw_88_35 (A := 0) rfl (by decide) (to_c (pc := 42) rw_88_42 (x := (0 : Int32)) rfl rfl (s_r1 (pc := 43) rw_88_43 (A := 0) rfl (by decide) (b_ine_f (pc := 60) rw_42_60 (A := 0) rfl (by decide) (to_c (pc := 63) rw_42_63 (x := (0 : Int32)) rfl rfl (s_r1 (pc := 64) rw_42_64 (A := 0) rfl (by decide) ?_)))))))
            have k_60 : (0 : Int32).toInt = 0 := rfl
            exact h (0 : Int32) M57 hG58 F59 (by decide) (by decide)
          · refine to_an (pc := 22) rw_88_22 rfl (tt_gI (pc := 23) rw_88_23 (g_o hG rfl) (v := (N.2.1 1 8)) rfl (to_in (pc := 26) rw_88_26 rfl (b_cle (pc := 27) rw_88_27 (A := (N.2.1 1 8).toInt) (B := v47.toInt) rfl rfl (fun h61 => ?_) (fun h61 => ?_))))
            · refine to_c (pc := 38) rw_88_38 (x := (1 : Int32)) rfl rfl (to_go (pc := 39) rw_88_39 (s_r1 (pc := 43) rw_88_43 (A := 1) rfl (by decide) (b_ine_t (pc := 60) rw_42_60 (A := 1) rfl (by decide) (s_cl (pc := 65) rw_42_65 rfl (fun l62 => to_an (pc := 66) rw_42_66 rfl (s_gR (pc := 67) rw_42_67 hG (by rcases hp with rfl | rfl <;> rfl) (v := (p + 3)) (by rcases hp with rfl | rfl <;> rfl) (to_in (pc := 70) rw_42_70 rfl (s_ialk (pc := 71) rw_42_71 hG (by rcases hp with rfl | rfl <;> rfl) (n := 8) (by rcases hp with rfl | rfl <;> rfl) (by rcases hp with rfl | rfl <;> rfl) (A := f.toInt) rfl (by omega) (by omega) (v := v41) w_42 (to_an (pc := 72) rw_42_72 rfl (tt_gI (pc := 73) rw_42_73 (g_o hG rfl) (v := (N.2.1 1 8)) rfl (s_add (pc := 76) rw_42_76 (A := v41.toInt) (B := (N.2.1 1 8).toInt) rfl rfl (by omega) (fun v65 e66 => ?_))))))))))))
              refine s_anyS (pc := 77) rw_42_77 (fun _ _ => rfl) (fun l67 => to_ls (pc := 78) rw_42_78 (ls2 := [.ref p, .ref 1, .int f, .long y3, .null, .int x5, .int v47, .long l67, .null]) rfl rfl (to_ln (pc := 80) rw_42_80 rfl rfl rfl (to_l (pc := 81) rw_42_81 rfl rfl rfl (s_anyL (pc := 83) rw_42_83 (fun _ _ => rfl) (fun l68 => s_cl (pc := 84) rw_42_84 rfl (fun l69 => s_lcmp (pc := 85) rw_42_85 (fun v70 => b_ieq (pc := 86) rw_42_86 (A := v70.toInt) rfl (fun h71 => ?_) (fun h71 => ?_))))))))
              · refine to_ln (pc := 95) rw_42_95 rfl rfl rfl (to_l (pc := 96) rw_42_96 rfl rfl rfl (s_anyL (pc := 98) rw_42_98 (fun _ _ => rfl) (fun l72 => to_lsn (pc := 99) rw_42_99 (ls2 := [.ref p, .ref 1, .int f, .long l72, .null, .int x5, .int v47, .long l67, .null]) rfl rfl (s_inc (pc := 100) rw_42_100 (ls2 := fun v => [.ref p, .ref 1, .int f, .long l72, .null, .int v, .int v47, .long l67, .null]) rfl rfl (fun _ => rfl) (A := x5.toInt) (B := 1) rfl rfl (by omega) (fun v73 e74 => to_an (pc := 103) rw_42_103 rfl (s_v (pc := 104) rw_42_104 (dp0 hd (by decide)) (ls0 := [.ref 1]) rfl (Nat.le_of_ble_eq_true rfl) (Nat.le_of_ble_eq_true rfl) rfl (to_rc rfl rfl rfl (g_o hG rfl)) rfl (C_83 hX (dp1 hd (by decide)) hG  (fun M77 hG76 F75 => ?_))))))))
                have F78 := FR.c F0 F75 tg_119
                refine to_go (pc := 107) rw_42_107 ?_
                have c_79 : M77.2.1 p 3 = (N.2.1 p 3) := (F_n F75 (show ¬ (p = 1 ∧ 5 ≤ 3 ∨ 3 ≤ p ∧ p ≤ 5) by omega) rfl)
                have t_80 : (M77.2.1 p 3).toInt = (N.2.1 p 3).toInt := congrArg Int32.toInt c_79
                exact ih M77 l72 v73 (.int v47) (.long l67) (.null) hG76 F78 (by omega) (by omega) (by omega) (by omega) (by omega) (by omega)
              · refine to_an (pc := 89) rw_42_89 rfl (to_c (pc := 90) rw_42_90 (x := (3 : Int32)) rfl rfl (s_v (pc := 91) rw_42_91 (dp0 hd (by decide)) (ls0 := [.ref 1, .int (3 : Int32)]) rfl (Nat.le_of_ble_eq_true rfl) (Nat.le_of_ble_eq_true rfl) rfl (to_rc rfl rfl rfl (g_o hG rfl)) rfl (to_an (pc := 0) rw_84_0 rfl (to_in (pc := 1) rw_84_1 rfl (s_pI (pc := 2) rw_84_2 hG rfl (fun M82 W81 => ?_))))))
                have hG83 := g_wf hG W81 rfl rfl (by decide)
                have F84 := FR.w F0 W81 (show 1 = 1 ∧ 5 ≤ 10 ∨ 3 ≤ 1 ∧ 1 ≤ 5 ∨ 1 = 57 ∨ 1 = 66 by decide)
                refine to_an (pc := 5) rw_84_5 rfl (to_an (pc := 6) rw_84_6 rfl ?_)
                have c_85 : M82.2.1 1 9 = (N.2.1 1 9) := (W_n W81 (by decide) rfl)
                refine tt_gI (pc := 7) rw_84_7 (g_o hG83 rfl) (v := (N.2.1 1 9)) c_85 (s_pI (pc := 10) rw_84_10 hG83 rfl (fun M87 W86 => ?_))
                have hG88 := g_wf hG83 W86 rfl rfl (by decide)
                have F89 := FR.w F84 W86 (show 1 = 1 ∧ 5 ≤ 11 ∨ 3 ≤ 1 ∧ 1 ≤ 5 ∨ 1 = 57 ∨ 1 = 66 by decide)
                refine to_c (pc := 13) rw_84_13 (x := (0 : Int32)) rfl rfl (s_r1 (pc := 14) rw_84_14 (A := 0) rfl (by decide) (s_r1 (pc := 94) rw_42_94 (A := 0) rfl (by decide) ?_))
                have k_90 : (0 : Int32).toInt = 0 := rfl
                exact h (0 : Int32) M87 hG88 F89 (by decide) (by decide)
            · refine to_an (pc := 30) rw_88_30 rfl (to_c (pc := 31) rw_88_31 (x := (2 : Int32)) rfl rfl (s_v (pc := 32) rw_88_32 (dp1 hd (by decide)) (ls0 := [.ref 1, .int (2 : Int32)]) rfl (Nat.le_of_ble_eq_true rfl) (Nat.le_of_ble_eq_true rfl) rfl (to_rc rfl rfl rfl (g_o hG rfl)) rfl (to_an (pc := 0) rw_84_0 rfl (to_in (pc := 1) rw_84_1 rfl (s_pI (pc := 2) rw_84_2 hG rfl (fun M92 W91 => ?_))))))
              have hG93 := g_wf hG W91 rfl rfl (by decide)
              have F94 := FR.w F0 W91 (show 1 = 1 ∧ 5 ≤ 10 ∨ 3 ≤ 1 ∧ 1 ≤ 5 ∨ 1 = 57 ∨ 1 = 66 by decide)
              refine to_an (pc := 5) rw_84_5 rfl (to_an (pc := 6) rw_84_6 rfl ?_)
              have c_95 : M92.2.1 1 9 = (N.2.1 1 9) := (W_n W91 (by decide) rfl)
              refine tt_gI (pc := 7) rw_84_7 (g_o hG93 rfl) (v := (N.2.1 1 9)) c_95 (s_pI (pc := 10) rw_84_10 hG93 rfl (fun M97 W96 => ?_))
              have hG98 := g_wf hG93 W96 rfl rfl (by decide)
              have F99 := FR.w F94 W96 (show 1 = 1 ∧ 5 ≤ 11 ∨ 3 ≤ 1 ∧ 1 ≤ 5 ∨ 1 = 57 ∨ 1 = 66 by decide)
              refine to_c (pc := 13) rw_84_13 (x := (0 : Int32)) rfl rfl (s_r1 (pc := 14) rw_84_14 (A := 0) rfl (by decide) (b_ieq_t (pc := 35) rw_88_35 (A := 0) rfl (by decide) (to_c (pc := 42) rw_88_42 (x := (0 : Int32)) rfl rfl (s_r1 (pc := 43) rw_88_43 (A := 0) rfl (by decide) (b_ine_f (pc := 60) rw_42_60 (A := 0) rfl (by decide) (to_c (pc := 63) rw_42_63 (x := (0 : Int32)) rfl rfl (s_r1 (pc := 64) rw_42_64 (A := 0) rfl (by decide) ?_)))))))
              have k_100 : (0 : Int32).toInt = 0 := rfl
              exact h (0 : Int32) M97 hG98 F99 (by decide) (by decide)
        · refine to_an (pc := 8) rw_88_8 rfl (to_c (pc := 9) rw_88_9 (x := (1 : Int32)) rfl rfl (s_v (pc := 10) rw_88_10 (dp1 hd (by decide)) (ls0 := [.ref 1, .int (1 : Int32)]) rfl (Nat.le_of_ble_eq_true rfl) (Nat.le_of_ble_eq_true rfl) rfl (to_rc rfl rfl rfl (g_o hG rfl)) rfl (to_an (pc := 0) rw_84_0 rfl (to_in (pc := 1) rw_84_1 rfl (s_pI (pc := 2) rw_84_2 hG rfl (fun M102 W101 => ?_))))))
          have hG103 := g_wf hG W101 rfl rfl (by decide)
          have F104 := FR.w F0 W101 (show 1 = 1 ∧ 5 ≤ 10 ∨ 3 ≤ 1 ∧ 1 ≤ 5 ∨ 1 = 57 ∨ 1 = 66 by decide)
          refine to_an (pc := 5) rw_84_5 rfl (to_an (pc := 6) rw_84_6 rfl ?_)
          have c_105 : M102.2.1 1 9 = (N.2.1 1 9) := (W_n W101 (by decide) rfl)
          refine tt_gI (pc := 7) rw_84_7 (g_o hG103 rfl) (v := (N.2.1 1 9)) c_105 (s_pI (pc := 10) rw_84_10 hG103 rfl (fun M107 W106 => ?_))
          have hG108 := g_wf hG103 W106 rfl rfl (by decide)
          have F109 := FR.w F104 W106 (show 1 = 1 ∧ 5 ≤ 11 ∨ 3 ≤ 1 ∧ 1 ≤ 5 ∨ 1 = 57 ∨ 1 = 66 by decide)
          refine to_c (pc := 13) rw_84_13 (x := (0 : Int32)) rfl rfl (s_r1 (pc := 14) rw_84_14 (A := 0) rfl (by decide) (s_r1 (pc := 13) rw_88_13 (A := 0) rfl (by decide) (b_ine_f (pc := 60) rw_42_60 (A := 0) rfl (by decide) (to_c (pc := 63) rw_42_63 (x := (0 : Int32)) rfl rfl (s_r1 (pc := 64) rw_42_64 (A := 0) rfl (by decide) ?_)))))
          have k_110 : (0 : Int32).toInt = 0 := rfl
          exact h (0 : Int32) M107 hG108 F109 (by decide) (by decide)
    · refine to_i (pc := 10) rw_42_10 rfl (to_an (pc := 12) rw_42_12 rfl (s_gR (pc := 13) rw_42_13 hG (by rcases hp with rfl | rfl <;> rfl) (v := (p + 5)) (by rcases hp with rfl | rfl <;> rfl) (to_in (pc := 16) rw_42_16 rfl (s_ial (pc := 17) rw_42_17 hG (by rcases hp with rfl | rfl <;> rfl) (n := 8) (by rcases hp with rfl | rfl <;> rfl) (by rcases hp with rfl | rfl <;> rfl) (A := f.toInt) rfl (by omega) (by omega) (lo := 0) (hi := 24) (by rcases hp with rfl | rfl <;> rfl) (by rcases hp with rfl | rfl <;> rfl) (fun v111 w_112 _ _ => b_cgt (pc := 18) rw_42_18 (A := x5.toInt) (B := v111.toInt) rfl rfl (fun h113 => ?_) (fun h113 => ?_))))))
      · refine to_an (pc := 110) rw_42_110 rfl (s_gR (pc := 111) rw_42_111 hG (by rcases hp with rfl | rfl <;> rfl) (v := (p + 8)) (by rcases hp with rfl | rfl <;> rfl) (to_an (pc := 114) rw_42_114 rfl (tt_gI (pc := 115) rw_42_115 (g_o hG (by rcases hp with rfl | rfl <;> rfl)) (v := (N.2.1 p 3)) rfl (to_ln (pc := 118) rw_42_118 rfl rfl rfl (s_las (pc := 119) rw_42_119 hG (by rcases hp with rfl | rfl <;> rfl) (n := 12) (by rcases hp with rfl | rfl <;> rfl) (A := (N.2.1 p 3).toInt) rfl (by omega) (by omega) (fun M115 W114 => ?_))))))
        have hG116 := g_wl hG W114
        have F117 := FR.wl F0 W114 (show (p + 8) = 1 ∧ 5 ≤ ((N.2.1 p 3).toInt).toNat ∨ 3 ≤ (p + 8) ∧ (p + 8) ≤ 5 ∨ (p + 8) = 57 ∨ (p + 8) = 66 by omega)
        refine to_i (pc := 120) rw_42_120 rfl (to_an (pc := 122) rw_42_122 rfl (s_gR (pc := 123) rw_42_123 hG116 (by rcases hp with rfl | rfl <;> rfl) (v := (p + 5)) (by rcases hp with rfl | rfl <;> rfl) (to_in (pc := 126) rw_42_126 rfl (s_ialk (pc := 127) rw_42_127 hG116 (by rcases hp with rfl | rfl <;> rfl) (n := 8) (by rcases hp with rfl | rfl <;> rfl) (by rcases hp with rfl | rfl <;> rfl) (A := f.toInt) rfl (by omega) (by omega) (v := v111) (W_l W114 w_112) (b_ceq (pc := 128) rw_42_128 (A := x5.toInt) (B := v111.toInt) rfl rfl (fun h120 => ?_) (fun h120 => ?_))))))
        · refine to_c (pc := 148) rw_42_148 (x := (1 : Int32)) rfl rfl (to_go (pc := 149) rw_42_149 (s_r1 (pc := 153) rw_42_153 (A := 1) rfl (by decide) ?_))
          have k_121 : (1 : Int32).toInt = 1 := rfl
          exact h (1 : Int32) M115 hG116 F117 (by decide) (by decide)
        · refine to_an (pc := 131) rw_42_131 rfl ?_
          have c_122 : M115.2.1 1 7 = (N.2.1 1 7) := (W_l W114 rfl)
          refine tt_gI (pc := 132) rw_42_132 (g_o hG116 rfl) (v := (N.2.1 1 7)) c_122 (to_c (pc := 135) rw_42_135 (x := (59 : Int32)) rfl rfl (b_cne (pc := 137) rw_42_137 (A := (N.2.1 1 7).toInt) (B := 59) rfl rfl (fun h123 => ?_) (fun h123 => ?_)))
          · refine to_c (pc := 148) rw_42_148 (x := (1 : Int32)) rfl rfl (to_go (pc := 149) rw_42_149 (s_r1 (pc := 153) rw_42_153 (A := 1) rfl (by decide) ?_))
            have k_124 : (1 : Int32).toInt = 1 := rfl
            exact h (1 : Int32) M115 hG116 F117 (by decide) (by decide)
          · refine to_an (pc := 140) rw_42_140 rfl (to_c (pc := 141) rw_42_141 (x := (5 : Int32)) rfl rfl (s_v (pc := 142) rw_42_142 (dp0 hd (by decide)) (ls0 := [.ref 1, .int (5 : Int32)]) rfl (Nat.le_of_ble_eq_true rfl) (Nat.le_of_ble_eq_true rfl) rfl (to_rc rfl rfl rfl (g_o hG116 rfl)) rfl (to_an (pc := 0) rw_84_0 rfl (to_in (pc := 1) rw_84_1 rfl (s_pI (pc := 2) rw_84_2 hG116 rfl (fun M126 W125 => ?_))))))
            have hG127 := g_wf hG116 W125 rfl rfl (by decide)
            have F128 := FR.w F117 W125 (show 1 = 1 ∧ 5 ≤ 10 ∨ 3 ≤ 1 ∧ 1 ≤ 5 ∨ 1 = 57 ∨ 1 = 66 by decide)
            refine to_an (pc := 5) rw_84_5 rfl (to_an (pc := 6) rw_84_6 rfl ?_)
            have c_129 : M126.2.1 1 9 = (N.2.1 1 9) := (W_n W125 (by decide) (W_l W114 rfl))
            refine tt_gI (pc := 7) rw_84_7 (g_o hG127 rfl) (v := (N.2.1 1 9)) c_129 (s_pI (pc := 10) rw_84_10 hG127 rfl (fun M131 W130 => ?_))
            have hG132 := g_wf hG127 W130 rfl rfl (by decide)
            have F133 := FR.w F128 W130 (show 1 = 1 ∧ 5 ≤ 11 ∨ 3 ≤ 1 ∧ 1 ≤ 5 ∨ 1 = 57 ∨ 1 = 66 by decide)
            refine to_c (pc := 13) rw_84_13 (x := (0 : Int32)) rfl rfl (s_r1 (pc := 14) rw_84_14 (A := 0) rfl (by decide) (b_ieq_t (pc := 145) rw_42_145 (A := 0) rfl (by decide) (to_c (pc := 152) rw_42_152 (x := (0 : Int32)) rfl rfl (s_r1 (pc := 153) rw_42_153 (A := 0) rfl (by decide) ?_))))
            have k_134 : (0 : Int32).toInt = 0 := rfl
            exact h (0 : Int32) M131 hG132 F133 (by decide) (by decide)
      · refine to_an (pc := 21) rw_42_21 rfl (tt_gI (pc := 22) rw_42_22 (g_o hG rfl) (v := (N.2.1 1 7)) rfl (to_c (pc := 25) rw_42_25 (x := (2 : Int32)) rfl rfl (b_cne (pc := 26) rw_42_26 (A := (N.2.1 1 7).toInt) (B := 2) rfl rfl (fun h135 => ?_) (fun h135 => ?_))))
        · refine to_an (pc := 110) rw_42_110 rfl (s_gR (pc := 111) rw_42_111 hG (by rcases hp with rfl | rfl <;> rfl) (v := (p + 8)) (by rcases hp with rfl | rfl <;> rfl) (to_an (pc := 114) rw_42_114 rfl (tt_gI (pc := 115) rw_42_115 (g_o hG (by rcases hp with rfl | rfl <;> rfl)) (v := (N.2.1 p 3)) rfl (to_ln (pc := 118) rw_42_118 rfl rfl rfl (s_las (pc := 119) rw_42_119 hG (by rcases hp with rfl | rfl <;> rfl) (n := 12) (by rcases hp with rfl | rfl <;> rfl) (A := (N.2.1 p 3).toInt) rfl (by omega) (by omega) (fun M137 W136 => ?_))))))
          have hG138 := g_wl hG W136
          have F139 := FR.wl F0 W136 (show (p + 8) = 1 ∧ 5 ≤ ((N.2.1 p 3).toInt).toNat ∨ 3 ≤ (p + 8) ∧ (p + 8) ≤ 5 ∨ (p + 8) = 57 ∨ (p + 8) = 66 by omega)
          refine to_i (pc := 120) rw_42_120 rfl (to_an (pc := 122) rw_42_122 rfl (s_gR (pc := 123) rw_42_123 hG138 (by rcases hp with rfl | rfl <;> rfl) (v := (p + 5)) (by rcases hp with rfl | rfl <;> rfl) (to_in (pc := 126) rw_42_126 rfl (s_ialk (pc := 127) rw_42_127 hG138 (by rcases hp with rfl | rfl <;> rfl) (n := 8) (by rcases hp with rfl | rfl <;> rfl) (by rcases hp with rfl | rfl <;> rfl) (A := f.toInt) rfl (by omega) (by omega) (v := v111) (W_l W136 w_112) (b_ceq (pc := 128) rw_42_128 (A := x5.toInt) (B := v111.toInt) rfl rfl (fun h142 => ?_) (fun h142 => ?_))))))
          · refine to_c (pc := 148) rw_42_148 (x := (1 : Int32)) rfl rfl (to_go (pc := 149) rw_42_149 (s_r1 (pc := 153) rw_42_153 (A := 1) rfl (by decide) ?_))
            have k_143 : (1 : Int32).toInt = 1 := rfl
            exact h (1 : Int32) M137 hG138 F139 (by decide) (by decide)
          · refine to_an (pc := 131) rw_42_131 rfl ?_
            have c_144 : M137.2.1 1 7 = (N.2.1 1 7) := (W_l W136 rfl)
            refine tt_gI (pc := 132) rw_42_132 (g_o hG138 rfl) (v := (N.2.1 1 7)) c_144 (to_c (pc := 135) rw_42_135 (x := (59 : Int32)) rfl rfl (b_cne (pc := 137) rw_42_137 (A := (N.2.1 1 7).toInt) (B := 59) rfl rfl (fun h145 => ?_) (fun h145 => ?_)))
            · refine to_c (pc := 148) rw_42_148 (x := (1 : Int32)) rfl rfl (to_go (pc := 149) rw_42_149 (s_r1 (pc := 153) rw_42_153 (A := 1) rfl (by decide) ?_))
              have k_146 : (1 : Int32).toInt = 1 := rfl
              exact h (1 : Int32) M137 hG138 F139 (by decide) (by decide)
            · refine to_an (pc := 140) rw_42_140 rfl (to_c (pc := 141) rw_42_141 (x := (5 : Int32)) rfl rfl (s_v (pc := 142) rw_42_142 (dp0 hd (by decide)) (ls0 := [.ref 1, .int (5 : Int32)]) rfl (Nat.le_of_ble_eq_true rfl) (Nat.le_of_ble_eq_true rfl) rfl (to_rc rfl rfl rfl (g_o hG138 rfl)) rfl (to_an (pc := 0) rw_84_0 rfl (to_in (pc := 1) rw_84_1 rfl (s_pI (pc := 2) rw_84_2 hG138 rfl (fun M148 W147 => ?_))))))
              have hG149 := g_wf hG138 W147 rfl rfl (by decide)
              have F150 := FR.w F139 W147 (show 1 = 1 ∧ 5 ≤ 10 ∨ 3 ≤ 1 ∧ 1 ≤ 5 ∨ 1 = 57 ∨ 1 = 66 by decide)
              refine to_an (pc := 5) rw_84_5 rfl (to_an (pc := 6) rw_84_6 rfl ?_)
              have c_151 : M148.2.1 1 9 = (N.2.1 1 9) := (W_n W147 (by decide) (W_l W136 rfl))
              refine tt_gI (pc := 7) rw_84_7 (g_o hG149 rfl) (v := (N.2.1 1 9)) c_151 (s_pI (pc := 10) rw_84_10 hG149 rfl (fun M153 W152 => ?_))
              have hG154 := g_wf hG149 W152 rfl rfl (by decide)
              have F155 := FR.w F150 W152 (show 1 = 1 ∧ 5 ≤ 11 ∨ 3 ≤ 1 ∧ 1 ≤ 5 ∨ 1 = 57 ∨ 1 = 66 by decide)
              refine to_c (pc := 13) rw_84_13 (x := (0 : Int32)) rfl rfl (s_r1 (pc := 14) rw_84_14 (A := 0) rfl (by decide) (b_ieq_t (pc := 145) rw_42_145 (A := 0) rfl (by decide) (to_c (pc := 152) rw_42_152 (x := (0 : Int32)) rfl rfl (s_r1 (pc := 153) rw_42_153 (A := 0) rfl (by decide) ?_))))
              have k_156 : (0 : Int32).toInt = 0 := rfl
              exact h (0 : Int32) M153 hG154 F155 (by decide) (by decide)
        · refine to_i (pc := 29) rw_42_29 rfl (to_an (pc := 31) rw_42_31 rfl (s_gR (pc := 32) rw_42_32 hG (by rcases hp with rfl | rfl <;> rfl) (v := (p + 5)) (by rcases hp with rfl | rfl <;> rfl) (to_in (pc := 35) rw_42_35 rfl (s_ialk (pc := 36) rw_42_36 hG (by rcases hp with rfl | rfl <;> rfl) (n := 8) (by rcases hp with rfl | rfl <;> rfl) (by rcases hp with rfl | rfl <;> rfl) (A := f.toInt) rfl (by omega) (by omega) (v := v111) w_112 (b_cge (pc := 37) rw_42_37 (A := x5.toInt) (B := v111.toInt) rfl rfl (fun h159 => ?_) (fun h159 => ?_))))))
          · refine to_c (pc := 50) rw_42_50 (x := (-1 : Int32)) rfl rfl (to_is (pc := 51) rw_42_51 (ls2 := [.ref p, .ref 1, .int f, .long y3, .null, .int x5, .int (-1 : Int32), u7, u8]) rfl rfl (to_an (pc := 53) rw_42_53 rfl (to_c (pc := 54) rw_42_54 (x := (0 : Int32)) rfl rfl (to_i (pc := 55) rw_42_55 rfl (s_v (pc := 57) rw_42_57 (dp0 hd (by decide)) (ls0 := [.ref 1, .int (0 : Int32), .int (-1 : Int32)]) rfl (Nat.le_of_ble_eq_true rfl) (Nat.le_of_ble_eq_true rfl) rfl (to_rc rfl rfl rfl (g_o hG rfl)) rfl (to_an (pc := 0) rw_88_0 rfl (tt_gI (pc := 1) rw_88_1 (g_o hG rfl) (v := (N.2.1 1 7)) rfl (to_c (pc := 4) rw_88_4 (x := (2 : Int32)) rfl rfl (b_ceq_t (pc := 5) rw_88_5 (A := (N.2.1 1 7).toInt) (B := 2) rfl rfl (by omega) (to_an (pc := 14) rw_88_14 rfl (tt_gI (pc := 15) rw_88_15 (g_o hG rfl) (v := (N.2.1 1 8)) rfl ?_)))))))))))
            refine to_in (pc := 18) rw_88_18 rfl (b_clt (pc := 19) rw_88_19 (A := (N.2.1 1 8).toInt) (B := 0) rfl rfl (fun h160 => ?_) (fun h160 => ?_))
            · refine to_an (pc := 30) rw_88_30 rfl (to_c (pc := 31) rw_88_31 (x := (2 : Int32)) rfl rfl (s_v (pc := 32) rw_88_32 (dp1 hd (by decide)) (ls0 := [.ref 1, .int (2 : Int32)]) rfl (Nat.le_of_ble_eq_true rfl) (Nat.le_of_ble_eq_true rfl) rfl (to_rc rfl rfl rfl (g_o hG rfl)) rfl (to_an (pc := 0) rw_84_0 rfl (to_in (pc := 1) rw_84_1 rfl (s_pI (pc := 2) rw_84_2 hG rfl (fun M162 W161 => ?_))))))
              have hG163 := g_wf hG W161 rfl rfl (by decide)
              have F164 := FR.w F0 W161 (show 1 = 1 ∧ 5 ≤ 10 ∨ 3 ≤ 1 ∧ 1 ≤ 5 ∨ 1 = 57 ∨ 1 = 66 by decide)
              refine to_an (pc := 5) rw_84_5 rfl (to_an (pc := 6) rw_84_6 rfl ?_)
              have c_165 : M162.2.1 1 9 = (N.2.1 1 9) := (W_n W161 (by decide) rfl)
              refine tt_gI (pc := 7) rw_84_7 (g_o hG163 rfl) (v := (N.2.1 1 9)) c_165 (s_pI (pc := 10) rw_84_10 hG163 rfl (fun M167 W166 => ?_))
              have hG168 := g_wf hG163 W166 rfl rfl (by decide)
              have F169 := FR.w F164 W166 (show 1 = 1 ∧ 5 ≤ 11 ∨ 3 ≤ 1 ∧ 1 ≤ 5 ∨ 1 = 57 ∨ 1 = 66 by decide)
              refine to_c (pc := 13) rw_84_13 (x := (0 : Int32)) rfl rfl (s_r1 (pc := 14) rw_84_14 (A := 0) rfl (by decide) (b_ieq_t (pc := 35) rw_88_35 (A := 0) rfl (by decide) (to_c (pc := 42) rw_88_42 (x := (0 : Int32)) rfl rfl (s_r1 (pc := 43) rw_88_43 (A := 0) rfl (by decide) (b_ine_f (pc := 60) rw_42_60 (A := 0) rfl (by decide) (to_c (pc := 63) rw_42_63 (x := (0 : Int32)) rfl rfl (s_r1 (pc := 64) rw_42_64 (A := 0) rfl (by decide) ?_)))))))
              have k_170 : (0 : Int32).toInt = 0 := rfl
              exact h (0 : Int32) M167 hG168 F169 (by decide) (by decide)
            · refine to_an (pc := 22) rw_88_22 rfl (tt_gI (pc := 23) rw_88_23 (g_o hG rfl) (v := (N.2.1 1 8)) rfl (to_in (pc := 26) rw_88_26 rfl (b_cle_f (pc := 27) rw_88_27 (A := (N.2.1 1 8).toInt) (B := -1) rfl rfl (by omega) (to_an (pc := 30) rw_88_30 rfl (to_c (pc := 31) rw_88_31 (x := (2 : Int32)) rfl rfl (s_v (pc := 32) rw_88_32 (dp1 hd (by decide)) (ls0 := [.ref 1, .int (2 : Int32)]) rfl (Nat.le_of_ble_eq_true rfl) (Nat.le_of_ble_eq_true rfl) rfl (to_rc rfl rfl rfl (g_o hG rfl)) rfl (to_an (pc := 0) rw_84_0 rfl (to_in (pc := 1) rw_84_1 rfl (s_pI (pc := 2) rw_84_2 hG rfl (fun M172 W171 => ?_))))))))))
              have hG173 := g_wf hG W171 rfl rfl (by decide)
              have F174 := FR.w F0 W171 (show 1 = 1 ∧ 5 ≤ 10 ∨ 3 ≤ 1 ∧ 1 ≤ 5 ∨ 1 = 57 ∨ 1 = 66 by decide)
              refine to_an (pc := 5) rw_84_5 rfl (to_an (pc := 6) rw_84_6 rfl ?_)
              have c_175 : M172.2.1 1 9 = (N.2.1 1 9) := (W_n W171 (by decide) rfl)
              refine tt_gI (pc := 7) rw_84_7 (g_o hG173 rfl) (v := (N.2.1 1 9)) c_175 (s_pI (pc := 10) rw_84_10 hG173 rfl (fun M177 W176 => ?_))
              have hG178 := g_wf hG173 W176 rfl rfl (by decide)
              have F179 := FR.w F174 W176 (show 1 = 1 ∧ 5 ≤ 11 ∨ 3 ≤ 1 ∧ 1 ≤ 5 ∨ 1 = 57 ∨ 1 = 66 by decide)
              refine to_c (pc := 13) rw_84_13 (x := (0 : Int32)) rfl rfl (s_r1 (pc := 14) rw_84_14 (A := 0) rfl (by decide) (b_ieq_t (pc := 35) rw_88_35 (A := 0) rfl (by decide) (to_c (pc := 42) rw_88_42 (x := (0 : Int32)) rfl rfl (s_r1 (pc := 43) rw_88_43 (A := 0) rfl (by decide) (b_ine_f (pc := 60) rw_42_60 (A := 0) rfl (by decide) (to_c (pc := 63) rw_42_63 (x := (0 : Int32)) rfl rfl (s_r1 (pc := 64) rw_42_64 (A := 0) rfl (by decide) ?_)))))))
              have k_180 : (0 : Int32).toInt = 0 := rfl
              exact h (0 : Int32) M177 hG178 F179 (by decide) (by decide)
          · refine to_an (pc := 40) rw_42_40 rfl (to_in (pc := 41) rw_42_41 rfl (s_v (pc := 42) rw_42_42 (dp0 hd (by decide)) (ls0 := [.ref p, .int f]) rfl (Nat.le_of_ble_eq_true rfl) (Nat.le_of_ble_eq_true rfl) rfl (to_rc rfl rfl rfl (g_o hG (by rcases hp with rfl | rfl <;> rfl))) rfl (to_an (pc := 0) rw_47_0 rfl (s_gR (pc := 1) rw_47_1 hG (by rcases hp with rfl | rfl <;> rfl) (v := (p + 4)) (by rcases hp with rfl | rfl <;> rfl) (to_in (pc := 4) rw_47_4 rfl (s_ial (pc := 5) rw_47_5 hG (by rcases hp with rfl | rfl <;> rfl) (n := 8) (by rcases hp with rfl | rfl <;> rfl) (by rcases hp with rfl | rfl <;> rfl) (A := f.toInt) rfl (by omega) (by omega) (lo := 0) (hi := 63) (by rcases hp with rfl | rfl <;> rfl) (by rcases hp with rfl | rfl <;> rfl) (fun v181 w_182 _ _ => to_an (pc := 6) rw_47_6 rfl (s_gR (pc := 7) rw_47_7 hG (by rcases hp with rfl | rfl <;> rfl) (v := (p + 3)) (by rcases hp with rfl | rfl <;> rfl) (to_in (pc := 10) rw_47_10 rfl (s_ial (pc := 11) rw_47_11 hG (by rcases hp with rfl | rfl <;> rfl) (n := 8) (by rcases hp with rfl | rfl <;> rfl) (by rcases hp with rfl | rfl <;> rfl) (A := f.toInt) rfl (by omega) (by omega) (lo := 0) (hi := 59) (by rcases hp with rfl | rfl <;> rfl) (by rcases hp with rfl | rfl <;> rfl) (fun v183 w_184 _ _ => s_sub (pc := 12) rw_47_12 (A := v181.toInt) (B := v183.toInt) rfl rfl (by omega) (fun v185 e186 => ?_))))))))))))
            refine to_c (pc := 13) rw_47_13 (x := (1 : Int32)) rfl rfl (s_add (pc := 14) rw_47_14 (A := v185.toInt) (B := 1) rfl rfl (by omega) (fun v187 e188 => to_r0 (pc := 15) rw_47_15 (to_c (pc := 45) rw_42_45 (x := (1 : Int32)) rfl rfl (s_sub (pc := 46) rw_42_46 (A := v187.toInt) (B := 1) rfl rfl (by omega) (fun v189 e190 => to_go (pc := 47) rw_42_47 (to_is (pc := 51) rw_42_51 (ls2 := [.ref p, .ref 1, .int f, .long y3, .null, .int x5, .int v189, u7, u8]) rfl rfl (to_an (pc := 53) rw_42_53 rfl (to_c (pc := 54) rw_42_54 (x := (0 : Int32)) rfl rfl (to_i (pc := 55) rw_42_55 rfl (s_v (pc := 57) rw_42_57 (dp0 hd (by decide)) (ls0 := [.ref 1, .int (0 : Int32), .int v189]) rfl (Nat.le_of_ble_eq_true rfl) (Nat.le_of_ble_eq_true rfl) rfl (to_rc rfl rfl rfl (g_o hG rfl)) rfl (to_an (pc := 0) rw_88_0 rfl ?_)))))))))))
            refine tt_gI (pc := 1) rw_88_1 (g_o hG rfl) (v := (N.2.1 1 7)) rfl (to_c (pc := 4) rw_88_4 (x := (2 : Int32)) rfl rfl (b_ceq_t (pc := 5) rw_88_5 (A := (N.2.1 1 7).toInt) (B := 2) rfl rfl (by omega) (to_an (pc := 14) rw_88_14 rfl (tt_gI (pc := 15) rw_88_15 (g_o hG rfl) (v := (N.2.1 1 8)) rfl (to_in (pc := 18) rw_88_18 rfl (b_clt (pc := 19) rw_88_19 (A := (N.2.1 1 8).toInt) (B := 0) rfl rfl (fun h191 => ?_) (fun h191 => ?_)))))))
            · refine to_an (pc := 30) rw_88_30 rfl (to_c (pc := 31) rw_88_31 (x := (2 : Int32)) rfl rfl (s_v (pc := 32) rw_88_32 (dp1 hd (by decide)) (ls0 := [.ref 1, .int (2 : Int32)]) rfl (Nat.le_of_ble_eq_true rfl) (Nat.le_of_ble_eq_true rfl) rfl (to_rc rfl rfl rfl (g_o hG rfl)) rfl (to_an (pc := 0) rw_84_0 rfl (to_in (pc := 1) rw_84_1 rfl (s_pI (pc := 2) rw_84_2 hG rfl (fun M193 W192 => ?_))))))
              have hG194 := g_wf hG W192 rfl rfl (by decide)
              have F195 := FR.w F0 W192 (show 1 = 1 ∧ 5 ≤ 10 ∨ 3 ≤ 1 ∧ 1 ≤ 5 ∨ 1 = 57 ∨ 1 = 66 by decide)
              refine to_an (pc := 5) rw_84_5 rfl (to_an (pc := 6) rw_84_6 rfl ?_)
              have c_196 : M193.2.1 1 9 = (N.2.1 1 9) := (W_n W192 (by decide) rfl)
              refine tt_gI (pc := 7) rw_84_7 (g_o hG194 rfl) (v := (N.2.1 1 9)) c_196 (s_pI (pc := 10) rw_84_10 hG194 rfl (fun M198 W197 => ?_))
              have hG199 := g_wf hG194 W197 rfl rfl (by decide)
              have F200 := FR.w F195 W197 (show 1 = 1 ∧ 5 ≤ 11 ∨ 3 ≤ 1 ∧ 1 ≤ 5 ∨ 1 = 57 ∨ 1 = 66 by decide)
              refine to_c (pc := 13) rw_84_13 (x := (0 : Int32)) rfl rfl (s_r1 (pc := 14) rw_84_14 (A := 0) rfl (by decide) (b_ieq_t (pc := 35) rw_88_35 (A := 0) rfl (by decide) (to_c (pc := 42) rw_88_42 (x := (0 : Int32)) rfl rfl (s_r1 (pc := 43) rw_88_43 (A := 0) rfl (by decide) (b_ine_f (pc := 60) rw_42_60 (A := 0) rfl (by decide) (to_c (pc := 63) rw_42_63 (x := (0 : Int32)) rfl rfl (s_r1 (pc := 64) rw_42_64 (A := 0) rfl (by decide) ?_)))))))
              have k_201 : (0 : Int32).toInt = 0 := rfl
              exact h (0 : Int32) M198 hG199 F200 (by decide) (by decide)
            · refine to_an (pc := 22) rw_88_22 rfl (tt_gI (pc := 23) rw_88_23 (g_o hG rfl) (v := (N.2.1 1 8)) rfl (to_in (pc := 26) rw_88_26 rfl (b_cle (pc := 27) rw_88_27 (A := (N.2.1 1 8).toInt) (B := v189.toInt) rfl rfl (fun h202 => ?_) (fun h202 => ?_))))
              · refine to_c (pc := 38) rw_88_38 (x := (1 : Int32)) rfl rfl (to_go (pc := 39) rw_88_39 (s_r1 (pc := 43) rw_88_43 (A := 1) rfl (by decide) (b_ine_t (pc := 60) rw_42_60 (A := 1) rfl (by decide) (s_cl (pc := 65) rw_42_65 rfl (fun l203 => to_an (pc := 66) rw_42_66 rfl (s_gR (pc := 67) rw_42_67 hG (by rcases hp with rfl | rfl <;> rfl) (v := (p + 3)) (by rcases hp with rfl | rfl <;> rfl) (to_in (pc := 70) rw_42_70 rfl (s_ialk (pc := 71) rw_42_71 hG (by rcases hp with rfl | rfl <;> rfl) (n := 8) (by rcases hp with rfl | rfl <;> rfl) (by rcases hp with rfl | rfl <;> rfl) (A := f.toInt) rfl (by omega) (by omega) (v := v183) w_184 (to_an (pc := 72) rw_42_72 rfl (tt_gI (pc := 73) rw_42_73 (g_o hG rfl) (v := (N.2.1 1 8)) rfl (s_add (pc := 76) rw_42_76 (A := v183.toInt) (B := (N.2.1 1 8).toInt) rfl rfl (by omega) (fun v206 e207 => ?_))))))))))))
                refine s_anyS (pc := 77) rw_42_77 (fun _ _ => rfl) (fun l208 => to_ls (pc := 78) rw_42_78 (ls2 := [.ref p, .ref 1, .int f, .long y3, .null, .int x5, .int v189, .long l208, .null]) rfl rfl (to_ln (pc := 80) rw_42_80 rfl rfl rfl (to_l (pc := 81) rw_42_81 rfl rfl rfl (s_anyL (pc := 83) rw_42_83 (fun _ _ => rfl) (fun l209 => s_cl (pc := 84) rw_42_84 rfl (fun l210 => s_lcmp (pc := 85) rw_42_85 (fun v211 => b_ieq (pc := 86) rw_42_86 (A := v211.toInt) rfl (fun h212 => ?_) (fun h212 => ?_))))))))
                · refine to_ln (pc := 95) rw_42_95 rfl rfl rfl (to_l (pc := 96) rw_42_96 rfl rfl rfl (s_anyL (pc := 98) rw_42_98 (fun _ _ => rfl) (fun l213 => to_lsn (pc := 99) rw_42_99 (ls2 := [.ref p, .ref 1, .int f, .long l213, .null, .int x5, .int v189, .long l208, .null]) rfl rfl (s_inc (pc := 100) rw_42_100 (ls2 := fun v => [.ref p, .ref 1, .int f, .long l213, .null, .int v, .int v189, .long l208, .null]) rfl rfl (fun _ => rfl) (A := x5.toInt) (B := 1) rfl rfl (by omega) (fun v214 e215 => to_an (pc := 103) rw_42_103 rfl (s_v (pc := 104) rw_42_104 (dp0 hd (by decide)) (ls0 := [.ref 1]) rfl (Nat.le_of_ble_eq_true rfl) (Nat.le_of_ble_eq_true rfl) rfl (to_rc rfl rfl rfl (g_o hG rfl)) rfl (C_83 hX (dp1 hd (by decide)) hG  (fun M218 hG217 F216 => ?_))))))))
                  have F219 := FR.c F0 F216 tg_119
                  refine to_go (pc := 107) rw_42_107 ?_
                  have c_220 : M218.2.1 p 3 = (N.2.1 p 3) := (F_n F216 (show ¬ (p = 1 ∧ 5 ≤ 3 ∨ 3 ≤ p ∧ p ≤ 5) by omega) rfl)
                  have t_221 : (M218.2.1 p 3).toInt = (N.2.1 p 3).toInt := congrArg Int32.toInt c_220
                  exact ih M218 l213 v214 (.int v189) (.long l208) (.null) hG217 F219 (by omega) (by omega) (by omega) (by omega) (by omega) (by omega)
                · refine to_an (pc := 89) rw_42_89 rfl (to_c (pc := 90) rw_42_90 (x := (3 : Int32)) rfl rfl (s_v (pc := 91) rw_42_91 (dp0 hd (by decide)) (ls0 := [.ref 1, .int (3 : Int32)]) rfl (Nat.le_of_ble_eq_true rfl) (Nat.le_of_ble_eq_true rfl) rfl (to_rc rfl rfl rfl (g_o hG rfl)) rfl (to_an (pc := 0) rw_84_0 rfl (to_in (pc := 1) rw_84_1 rfl (s_pI (pc := 2) rw_84_2 hG rfl (fun M223 W222 => ?_))))))
                  have hG224 := g_wf hG W222 rfl rfl (by decide)
                  have F225 := FR.w F0 W222 (show 1 = 1 ∧ 5 ≤ 10 ∨ 3 ≤ 1 ∧ 1 ≤ 5 ∨ 1 = 57 ∨ 1 = 66 by decide)
                  refine to_an (pc := 5) rw_84_5 rfl (to_an (pc := 6) rw_84_6 rfl ?_)
                  have c_226 : M223.2.1 1 9 = (N.2.1 1 9) := (W_n W222 (by decide) rfl)
                  refine tt_gI (pc := 7) rw_84_7 (g_o hG224 rfl) (v := (N.2.1 1 9)) c_226 (s_pI (pc := 10) rw_84_10 hG224 rfl (fun M228 W227 => ?_))
                  have hG229 := g_wf hG224 W227 rfl rfl (by decide)
                  have F230 := FR.w F225 W227 (show 1 = 1 ∧ 5 ≤ 11 ∨ 3 ≤ 1 ∧ 1 ≤ 5 ∨ 1 = 57 ∨ 1 = 66 by decide)
                  refine to_c (pc := 13) rw_84_13 (x := (0 : Int32)) rfl rfl (s_r1 (pc := 14) rw_84_14 (A := 0) rfl (by decide) (s_r1 (pc := 94) rw_42_94 (A := 0) rfl (by decide) ?_))
                  have k_231 : (0 : Int32).toInt = 0 := rfl
                  exact h (0 : Int32) M228 hG229 F230 (by decide) (by decide)
              · refine to_an (pc := 30) rw_88_30 rfl (to_c (pc := 31) rw_88_31 (x := (2 : Int32)) rfl rfl (s_v (pc := 32) rw_88_32 (dp1 hd (by decide)) (ls0 := [.ref 1, .int (2 : Int32)]) rfl (Nat.le_of_ble_eq_true rfl) (Nat.le_of_ble_eq_true rfl) rfl (to_rc rfl rfl rfl (g_o hG rfl)) rfl (to_an (pc := 0) rw_84_0 rfl (to_in (pc := 1) rw_84_1 rfl (s_pI (pc := 2) rw_84_2 hG rfl (fun M233 W232 => ?_))))))
                have hG234 := g_wf hG W232 rfl rfl (by decide)
                have F235 := FR.w F0 W232 (show 1 = 1 ∧ 5 ≤ 10 ∨ 3 ≤ 1 ∧ 1 ≤ 5 ∨ 1 = 57 ∨ 1 = 66 by decide)
                refine to_an (pc := 5) rw_84_5 rfl (to_an (pc := 6) rw_84_6 rfl ?_)
                have c_236 : M233.2.1 1 9 = (N.2.1 1 9) := (W_n W232 (by decide) rfl)
                refine tt_gI (pc := 7) rw_84_7 (g_o hG234 rfl) (v := (N.2.1 1 9)) c_236 (s_pI (pc := 10) rw_84_10 hG234 rfl (fun M238 W237 => ?_))
                have hG239 := g_wf hG234 W237 rfl rfl (by decide)
                have F240 := FR.w F235 W237 (show 1 = 1 ∧ 5 ≤ 11 ∨ 3 ≤ 1 ∧ 1 ≤ 5 ∨ 1 = 57 ∨ 1 = 66 by decide)
                refine to_c (pc := 13) rw_84_13 (x := (0 : Int32)) rfl rfl (s_r1 (pc := 14) rw_84_14 (A := 0) rfl (by decide) (b_ieq_t (pc := 35) rw_88_35 (A := 0) rfl (by decide) (to_c (pc := 42) rw_88_42 (x := (0 : Int32)) rfl rfl (s_r1 (pc := 43) rw_88_43 (A := 0) rfl (by decide) (b_ine_f (pc := 60) rw_42_60 (A := 0) rfl (by decide) (to_c (pc := 63) rw_42_63 (x := (0 : Int32)) rfl rfl (s_r1 (pc := 64) rw_42_64 (A := 0) rfl (by decide) ?_)))))))
                have k_241 : (0 : Int32).toInt = 0 := rfl
                exact h (0 : Int32) M238 hG239 F240 (by decide) (by decide)
set_option maxRecDepth 4000 in
set_option maxHeartbeats 0 in
theorem C_42 {X : mm_X} {d : Nat} {M : mm_M} {Q : Option Value → mm_M → Prop} {p : Nat} {f : Int32} (hX : g_X X) (hd : 2 ≤ d) (hG : g_G M) (hp : p = 49 ∨ p = 58) (q1 : 0 ≤ f.toInt) (q2 : f.toInt ≤ 7) (q3 : (M.2.1 p 3).toInt ≤ 11) (h : ∀ (r : Int32) (M1 : mm_M), g_G M1 → FR md_c42 M M1 → (0 ≤ r.toInt) → (r.toInt ≤ 1) → Q (some (.int r)) M1) : mm_T X d 42 0 [.ref p, .ref 1, .int f, .null, .null, .null, .null, .null, .null] [] M Q := by
  have F0 : FR md_c42 M M := FR.rf
  have b_242 := g_b hG (a := p) (i := 3) (lo := 0) (hi := 12) (by rcases hp with rfl | rfl <;> rfl) (by rcases hp with rfl | rfl <;> rfl)
  refine s_cl (pc := 0) rw_42_0 rfl (fun l243 => to_lsn (pc := 1) rw_42_1 (ls2 := [.ref p, .ref 1, .int f, .long l243, .null, .null, .null, .null, .null]) rfl rfl (to_c (pc := 2) rw_42_2 (x := (0 : Int32)) rfl rfl (to_is (pc := 3) rw_42_3 (ls2 := [.ref p, .ref 1, .int f, .long l243, .null, .int (0 : Int32), .null, .null, .null]) rfl rfl ?_)))
  have k_244 : (0 : Int32).toInt = 0 := rfl
  exact (T_42_0 (p := p) (f := f) hX hd hp q1 q2 q3 h ((25 - (0 : Int32).toInt).toNat + 1)) M l243 (0 : Int32) (.null) (.null) (.null) hG F0 (by omega) (by omega) (by omega) (by omega) (by omega) (by omega)
set_option maxRecDepth 4000 in
set_option maxHeartbeats 0 in
theorem C_41 {X : mm_X} {d : Nat} {M : mm_M} {Q : Option Value → mm_M → Prop} {p : Nat} (hX : g_X X) (hd : 3 ≤ d) (hG : g_G M) (hp : p = 49 ∨ p = 58) (q1 : PI M) (h : ∀ (r : Int32) (M1 : mm_M), g_G M1 → FR md_pt M M1 → (0 ≤ r.toInt) → (r.toInt ≤ 1) → PI M1 → Q (some (.int r)) M1) : mm_T X d 41 0 [.ref p, .ref 1, .null] [] M Q := by
  have F0 : FR md_pt M M := FR.rf
  refine to_an (pc := 0) rw_41_0 rfl ?_
  have b_1 := g_b hG (a := p) (i := 3) (lo := 0) (hi := 12) (by rcases hp with rfl | rfl <;> rfl) (by rcases hp with rfl | rfl <;> rfl)
  refine tt_gI (pc := 1) rw_41_1 (g_o hG (by rcases hp with rfl | rfl <;> rfl)) (v := (M.2.1 p 3)) rfl (to_c (pc := 4) rw_41_4 (x := (12 : Int32)) rfl rfl (b_clt (pc := 6) rw_41_6 (A := (M.2.1 p 3).toInt) (B := 12) rfl rfl (fun h2 => ?_) (fun h2 => ?_)))
  · refine to_an (pc := 15) rw_41_15 rfl (s_v (pc := 16) rw_41_16 (dp0 hd (by decide)) (ls0 := [.ref 1]) rfl (Nat.le_of_ble_eq_true rfl) (Nat.le_of_ble_eq_true rfl) rfl (to_rc rfl rfl rfl (g_o hG rfl)) rfl (C_83 hX (dp1 hd (by decide)) hG  (fun M5 hG4 F3 => ?_)))
    have F6 := FR.c F0 F3 tg_116
    refine to_an (pc := 19) rw_41_19 rfl (tt_gI (pc := 20) rw_41_20 (g_o hG4 rfl) (v := (M5.2.1 1 7)) rfl (to_c (pc := 23) rw_41_23 (x := (3 : Int32)) rfl rfl (b_ceq (pc := 24) rw_41_24 (A := (M5.2.1 1 7).toInt) (B := 3) rfl rfl (fun h7 => ?_) (fun h7 => ?_))))
    · refine to_an (pc := 33) rw_41_33 rfl (to_an (pc := 34) rw_41_34 rfl (tt_gI (pc := 35) rw_41_35 (g_o hG4 rfl) (v := (M5.2.1 1 8)) rfl (s_v (pc := 38) rw_41_38 (dp0 hd (by decide)) (ls0 := [.ref p, .int (M5.2.1 1 8)]) rfl (Nat.le_of_ble_eq_true rfl) (Nat.le_of_ble_eq_true rfl) rfl (to_rc rfl rfl rfl (g_o hG4 (by rcases hp with rfl | rfl <;> rfl))) rfl (to_an (pc := 0) rw_52_0 rfl (s_gR (pc := 1) rw_52_1 hG4 (by rcases hp with rfl | rfl <;> rfl) (v := (p + 1)) (by rcases hp with rfl | rfl <;> rfl) (to_an (pc := 4) rw_52_4 rfl ?_))))))
      have c_8 : M5.2.1 p 2 = (M.2.1 p 2) := (F_n F3 (show ¬ (p = 1 ∧ 5 ≤ 2 ∨ 3 ≤ p ∧ p ≤ 5) by omega) rfl)
      have b_9 := g_b hG (a := p) (i := 2) (lo := 0) (hi := 8) (by rcases hp with rfl | rfl <;> rfl) (by rcases hp with rfl | rfl <;> rfl)
      refine tt_gI (pc := 5) rw_52_5 (g_o hG4 (by rcases hp with rfl | rfl <;> rfl)) (v := (M.2.1 p 2)) c_8 (to_in (pc := 8) rw_52_8 rfl (s_s (pc := 9) rw_52_9 (dp1 hd (by decide)) (ls0 := [.ref (p + 1), .int (M.2.1 p 2), .int (M5.2.1 1 8), .null]) rfl (Nat.le_of_ble_eq_true rfl) (Nat.le_of_ble_eq_true rfl) rfl (to_rcs rfl rfl) rfl (C_54f hX (dp2 hd (by decide)) hG4 (by omega) (f := (p + 1)) (s := (M.2.1 p 2)) (x := (M5.2.1 1 8)) (fun r10 M15 hG12 F11 p_13 p_14 => ?_))))
      have F16 := FR.c F6 F11 tg_117
      refine to_r0 (pc := 12) rw_52_12 (to_isn (pc := 41) rw_41_41 (ls2 := [.ref p, .ref 1, .int r10]) rfl rfl (to_an (pc := 42) rw_41_42 rfl (to_in (pc := 43) rw_41_43 rfl (s_v (pc := 44) rw_41_44 (dp0 hd (by decide)) (ls0 := [.ref p, .int r10]) rfl (Nat.le_of_ble_eq_true rfl) (Nat.le_of_ble_eq_true rfl) rfl (to_rc rfl rfl rfl (g_o hG12 (by rcases hp with rfl | rfl <;> rfl))) rfl (to_in (pc := 0) rw_43_0 rfl (b_ilt (pc := 1) rw_43_1 (A := r10.toInt) rfl (fun h17 => ?_) (fun h17 => ?_)))))))
      · refine to_c (pc := 16) rw_43_16 (x := (0 : Int32)) rfl rfl (s_r1 (pc := 17) rw_43_17 (A := 0) rfl (by decide) (b_ieq_t (pc := 47) rw_41_47 (A := 0) rfl (by decide) (to_an (pc := 58) rw_41_58 rfl (to_c (pc := 59) rw_41_59 (x := (4 : Int32)) rfl rfl (s_v (pc := 60) rw_41_60 (dp0 hd (by decide)) (ls0 := [.ref 1, .int (4 : Int32)]) rfl (Nat.le_of_ble_eq_true rfl) (Nat.le_of_ble_eq_true rfl) rfl (to_rc rfl rfl rfl (g_o hG12 rfl)) rfl (to_an (pc := 0) rw_84_0 rfl (to_in (pc := 1) rw_84_1 rfl (s_pI (pc := 2) rw_84_2 hG12 rfl (fun M19 W18 => ?_)))))))))
        have hG20 := g_wf hG12 W18 rfl rfl (by decide)
        have F21 := FR.w F16 W18 (show 1 = 1 ∧ 5 ≤ 10 ∨ 3 ≤ 1 ∧ 1 ≤ 5 ∨ 49 ≤ 1 ∧ 1 ≤ 66 by decide)
        refine to_an (pc := 5) rw_84_5 rfl (to_an (pc := 6) rw_84_6 rfl ?_)
        have c_22 : M19.2.1 1 9 = (M5.2.1 1 9) := (W_n W18 (by decide) (F_n F11 (show ¬ (1 < 0) by decide) rfl))
        refine tt_gI (pc := 7) rw_84_7 (g_o hG20 rfl) (v := (M5.2.1 1 9)) c_22 (s_pI (pc := 10) rw_84_10 hG20 rfl (fun M24 W23 => ?_))
        have hG25 := g_wf hG20 W23 rfl rfl (by decide)
        have F26 := FR.w F21 W23 (show 1 = 1 ∧ 5 ≤ 11 ∨ 3 ≤ 1 ∧ 1 ≤ 5 ∨ 49 ≤ 1 ∧ 1 ≤ 66 by decide)
        refine to_c (pc := 13) rw_84_13 (x := (0 : Int32)) rfl rfl (s_r1 (pc := 14) rw_84_14 (A := 0) rfl (by decide) (s_r1 (pc := 63) rw_41_63 (A := 0) rfl (by decide) ?_))
        have k_27 : (0 : Int32).toInt = 0 := rfl
        have j_28 := (PI_f (fun a i z => W_n W23 (by /-r1,11-/ omega) rfl) (PI_f (fun a i z => W_n W18 (by /-r1,10-/ omega) rfl) (PI_f (tg_99 F11) (PI_f (tg_112 F3) q1))))
        exact h (0 : Int32) M24 hG25 F26 (by decide) (by decide) j_28
      · refine to_in (pc := 4) rw_43_4 rfl (to_an (pc := 5) rw_43_5 rfl ?_)
        have c_29 : M15.2.1 p 2 = (M.2.1 p 2) := (F_n F11 (show ¬ (p < 0) by omega) c_8)
        refine tt_gI (pc := 6) rw_43_6 (g_o hG12 (by rcases hp with rfl | rfl <;> rfl)) (v := (M.2.1 p 2)) c_29 (b_cge (pc := 9) rw_43_9 (A := r10.toInt) (B := (M.2.1 p 2).toInt) rfl rfl (fun h30 => ?_) (fun h30 => ?_))
        · refine to_c (pc := 16) rw_43_16 (x := (0 : Int32)) rfl rfl (s_r1 (pc := 17) rw_43_17 (A := 0) rfl (by decide) (b_ieq_t (pc := 47) rw_41_47 (A := 0) rfl (by decide) (to_an (pc := 58) rw_41_58 rfl (to_c (pc := 59) rw_41_59 (x := (4 : Int32)) rfl rfl (s_v (pc := 60) rw_41_60 (dp0 hd (by decide)) (ls0 := [.ref 1, .int (4 : Int32)]) rfl (Nat.le_of_ble_eq_true rfl) (Nat.le_of_ble_eq_true rfl) rfl (to_rc rfl rfl rfl (g_o hG12 rfl)) rfl (to_an (pc := 0) rw_84_0 rfl (to_in (pc := 1) rw_84_1 rfl (s_pI (pc := 2) rw_84_2 hG12 rfl (fun M32 W31 => ?_)))))))))
          have hG33 := g_wf hG12 W31 rfl rfl (by decide)
          have F34 := FR.w F16 W31 (show 1 = 1 ∧ 5 ≤ 10 ∨ 3 ≤ 1 ∧ 1 ≤ 5 ∨ 49 ≤ 1 ∧ 1 ≤ 66 by decide)
          refine to_an (pc := 5) rw_84_5 rfl (to_an (pc := 6) rw_84_6 rfl ?_)
          have c_35 : M32.2.1 1 9 = (M5.2.1 1 9) := (W_n W31 (by decide) (F_n F11 (show ¬ (1 < 0) by decide) rfl))
          refine tt_gI (pc := 7) rw_84_7 (g_o hG33 rfl) (v := (M5.2.1 1 9)) c_35 (s_pI (pc := 10) rw_84_10 hG33 rfl (fun M37 W36 => ?_))
          have hG38 := g_wf hG33 W36 rfl rfl (by decide)
          have F39 := FR.w F34 W36 (show 1 = 1 ∧ 5 ≤ 11 ∨ 3 ≤ 1 ∧ 1 ≤ 5 ∨ 49 ≤ 1 ∧ 1 ≤ 66 by decide)
          refine to_c (pc := 13) rw_84_13 (x := (0 : Int32)) rfl rfl (s_r1 (pc := 14) rw_84_14 (A := 0) rfl (by decide) (s_r1 (pc := 63) rw_41_63 (A := 0) rfl (by decide) ?_))
          have k_40 : (0 : Int32).toInt = 0 := rfl
          have j_41 := (PI_f (fun a i z => W_n W36 (by /-r1,11-/ omega) rfl) (PI_f (fun a i z => W_n W31 (by /-r1,10-/ omega) rfl) (PI_f (tg_99 F11) (PI_f (tg_112 F3) q1))))
          exact h (0 : Int32) M37 hG38 F39 (by decide) (by decide) j_41
        · refine to_c (pc := 12) rw_43_12 (x := (1 : Int32)) rfl rfl (to_go (pc := 13) rw_43_13 (s_r1 (pc := 17) rw_43_17 (A := 1) rfl (by decide) (b_ieq_f (pc := 47) rw_41_47 (A := 1) rfl (by decide) (to_an (pc := 50) rw_41_50 rfl (to_in (pc := 51) rw_41_51 rfl (s_v (pc := 52) rw_41_52 (dp0 hd (by decide)) (ls0 := [.ref p, .int r10]) rfl (Nat.le_of_ble_eq_true rfl) (Nat.le_of_ble_eq_true rfl) rfl (to_rc rfl rfl rfl (g_o hG12 (by rcases hp with rfl | rfl <;> rfl))) rfl (to_an (pc := 0) rw_45_0 rfl (s_gR (pc := 1) rw_45_1 hG12 (by rcases hp with rfl | rfl <;> rfl) (v := (p + 2)) (by rcases hp with rfl | rfl <;> rfl) (to_in (pc := 4) rw_45_4 rfl (s_ial (pc := 5) rw_45_5 hG12 (by rcases hp with rfl | rfl <;> rfl) (n := 8) (by rcases hp with rfl | rfl <;> rfl) (by rcases hp with rfl | rfl <;> rfl) (A := r10.toInt) rfl (by omega) (by omega) (lo := 0) (hi := 3) (by rcases hp with rfl | rfl <;> rfl) (by rcases hp with rfl | rfl <;> rfl) (fun v42 w_43 _ _ => to_c (pc := 6) rw_45_6 (x := (3 : Int32)) rfl rfl ?_)))))))))))
          refine b_cne (pc := 7) rw_45_7 (A := v42.toInt) (B := 3) rfl rfl (fun h44 => ?_) (fun h44 => ?_)
          · refine to_c (pc := 14) rw_45_14 (x := (0 : Int32)) rfl rfl (s_r1 (pc := 15) rw_45_15 (A := 0) rfl (by decide) (b_ine_f (pc := 55) rw_41_55 (A := 0) rfl (by decide) (to_an (pc := 58) rw_41_58 rfl (to_c (pc := 59) rw_41_59 (x := (4 : Int32)) rfl rfl (s_v (pc := 60) rw_41_60 (dp0 hd (by decide)) (ls0 := [.ref 1, .int (4 : Int32)]) rfl (Nat.le_of_ble_eq_true rfl) (Nat.le_of_ble_eq_true rfl) rfl (to_rc rfl rfl rfl (g_o hG12 rfl)) rfl (to_an (pc := 0) rw_84_0 rfl (to_in (pc := 1) rw_84_1 rfl (s_pI (pc := 2) rw_84_2 hG12 rfl (fun M46 W45 => ?_)))))))))
            have hG47 := g_wf hG12 W45 rfl rfl (by decide)
            have F48 := FR.w F16 W45 (show 1 = 1 ∧ 5 ≤ 10 ∨ 3 ≤ 1 ∧ 1 ≤ 5 ∨ 49 ≤ 1 ∧ 1 ≤ 66 by decide)
            refine to_an (pc := 5) rw_84_5 rfl (to_an (pc := 6) rw_84_6 rfl ?_)
            have c_49 : M46.2.1 1 9 = (M5.2.1 1 9) := (W_n W45 (by decide) (F_n F11 (show ¬ (1 < 0) by decide) rfl))
            refine tt_gI (pc := 7) rw_84_7 (g_o hG47 rfl) (v := (M5.2.1 1 9)) c_49 (s_pI (pc := 10) rw_84_10 hG47 rfl (fun M51 W50 => ?_))
            have hG52 := g_wf hG47 W50 rfl rfl (by decide)
            have F53 := FR.w F48 W50 (show 1 = 1 ∧ 5 ≤ 11 ∨ 3 ≤ 1 ∧ 1 ≤ 5 ∨ 49 ≤ 1 ∧ 1 ≤ 66 by decide)
            refine to_c (pc := 13) rw_84_13 (x := (0 : Int32)) rfl rfl (s_r1 (pc := 14) rw_84_14 (A := 0) rfl (by decide) (s_r1 (pc := 63) rw_41_63 (A := 0) rfl (by decide) ?_))
            have k_54 : (0 : Int32).toInt = 0 := rfl
            have j_55 := (PI_f (fun a i z => W_n W50 (by /-r1,11-/ omega) rfl) (PI_f (fun a i z => W_n W45 (by /-r1,10-/ omega) rfl) (PI_f (tg_99 F11) (PI_f (tg_112 F3) q1))))
            exact h (0 : Int32) M51 hG52 F53 (by decide) (by decide) j_55
          · refine to_c (pc := 10) rw_45_10 (x := (1 : Int32)) rfl rfl (to_go (pc := 11) rw_45_11 (s_r1 (pc := 15) rw_45_15 (A := 1) rfl (by decide) (b_ine_t (pc := 55) rw_41_55 (A := 1) rfl (by decide) (to_an (pc := 64) rw_41_64 rfl (s_v (pc := 65) rw_41_65 (dp0 hd (by decide)) (ls0 := [.ref 1]) rfl (Nat.le_of_ble_eq_true rfl) (Nat.le_of_ble_eq_true rfl) rfl (to_rc rfl rfl rfl (g_o hG12 rfl)) rfl (C_83 hX (dp1 hd (by decide)) hG12  (fun M58 hG57 F56 => ?_)))))))
            have F59 := FR.c F16 F56 tg_116
            refine to_an (pc := 68) rw_41_68 rfl (to_an (pc := 69) rw_41_69 rfl (s_v (pc := 70) rw_41_70 (dp0 hd (by decide)) (ls0 := [.ref p, .ref 1]) rfl (Nat.le_of_ble_eq_true rfl) (Nat.le_of_ble_eq_true rfl) rfl (to_rc rfl rfl rfl (g_o hG57 (by rcases hp with rfl | rfl <;> rfl))) rfl (C_34 hX (dp1 hd (by decide)) hG57 hp (p := p) (fun r60 M65 hG62 F61 p_63 p_64 => ?_))))
            have F66 := FR.c F59 F61 tg_116
            refine b_ine (pc := 73) rw_41_73 (A := r60.toInt) rfl (fun h67 => ?_) (fun h67 => ?_)
            · refine to_an (pc := 78) rw_41_78 rfl (s_gR (pc := 79) rw_41_79 hG62 (by rcases hp with rfl | rfl <;> rfl) (v := (p + 6)) (by rcases hp with rfl | rfl <;> rfl) (to_an (pc := 82) rw_41_82 rfl ?_))
              have c_68 : M65.2.1 p 3 = (M.2.1 p 3) := (F_n F61 (show ¬ (p = 1 ∧ 5 ≤ 3 ∨ 3 ≤ p ∧ p ≤ 5) by omega) (F_n F56 (show ¬ (p = 1 ∧ 5 ≤ 3 ∨ 3 ≤ p ∧ p ≤ 5) by omega) (F_n F11 (show ¬ (p < 0) by omega) (F_n F3 (show ¬ (p = 1 ∧ 5 ≤ 3 ∨ 3 ≤ p ∧ p ≤ 5) by omega) rfl))))
              refine tt_gI (pc := 83) rw_41_83 (g_o hG62 (by rcases hp with rfl | rfl <;> rfl)) (v := (M.2.1 p 3)) c_68 (to_an (pc := 86) rw_41_86 rfl (tt_gI (pc := 87) rw_41_87 (g_o hG62 rfl) (v := (M65.2.1 1 8)) rfl (s_ias (pc := 90) rw_41_90 hG62 (by rcases hp with rfl | rfl <;> rfl) (n := 12) (by rcases hp with rfl | rfl <;> rfl) (A := (M.2.1 p 3).toInt) rfl (by omega) (by omega) (fun M70 W69 => ?_))))
              have hG71 := g_wf hG62 W69 (by rcases hp with rfl | rfl <;> rfl) (by rcases hp with rfl | rfl <;> rfl) (by omega)
              have F72 := FR.w F66 W69 (show (p + 6) = 1 ∧ 5 ≤ ((M.2.1 p 3).toInt).toNat ∨ 3 ≤ (p + 6) ∧ (p + 6) ≤ 5 ∨ 49 ≤ (p + 6) ∧ (p + 6) ≤ 66 by omega)
              refine to_an (pc := 91) rw_41_91 rfl (s_gR (pc := 92) rw_41_92 hG71 (by rcases hp with rfl | rfl <;> rfl) (v := (p + 7)) (by rcases hp with rfl | rfl <;> rfl) (to_an (pc := 95) rw_41_95 rfl ?_))
              have c_73 : M70.2.1 p 3 = (M.2.1 p 3) := (W_n W69 (by omega) c_68)
              refine tt_gI (pc := 96) rw_41_96 (g_o hG71 (by rcases hp with rfl | rfl <;> rfl)) (v := (M.2.1 p 3)) c_73 (to_in (pc := 99) rw_41_99 rfl (s_ias (pc := 100) rw_41_100 hG71 (by rcases hp with rfl | rfl <;> rfl) (n := 12) (by rcases hp with rfl | rfl <;> rfl) (A := (M.2.1 p 3).toInt) rfl (by omega) (by omega) (fun M75 W74 => ?_)))
              have hG76 := g_w hG71 W74 (A := r10.toInt) rfl (lo := 0) (hi := 7) (by rcases hp with rfl | rfl <;> rfl) (by rcases hp with rfl | rfl <;> rfl) (by omega) (by omega)
              have F77 := FR.w F72 W74 (show (p + 7) = 1 ∧ 5 ≤ ((M.2.1 p 3).toInt).toNat ∨ 3 ≤ (p + 7) ∧ (p + 7) ≤ 5 ∨ 49 ≤ (p + 7) ∧ (p + 7) ≤ 66 by omega)
              refine to_an (pc := 101) rw_41_101 rfl (s_v (pc := 102) rw_41_102 (dp0 hd (by decide)) (ls0 := [.ref 1]) rfl (Nat.le_of_ble_eq_true rfl) (Nat.le_of_ble_eq_true rfl) rfl (to_rc rfl rfl rfl (g_o hG76 rfl)) rfl (C_83 hX (dp1 hd (by decide)) hG76  (fun M80 hG79 F78 => ?_)))
              have F81 := FR.c F77 F78 tg_116
              refine to_an (pc := 105) rw_41_105 rfl (to_an (pc := 106) rw_41_106 rfl (to_in (pc := 107) rw_41_107 rfl (s_v (pc := 108) rw_41_108 (dp0 hd (by decide)) (ls0 := [.ref p, .ref 1, .int r10, .null, .null, .null, .null, .null, .null]) rfl (Nat.le_of_ble_eq_true rfl) (Nat.le_of_ble_eq_true rfl) rfl (to_rc rfl rfl rfl (g_o hG79 (by rcases hp with rfl | rfl <;> rfl))) rfl ?_)))
              have c_82 : M80.2.1 p 3 = (M.2.1 p 3) := (F_n F78 (show ¬ (p = 1 ∧ 5 ≤ 3 ∨ 3 ≤ p ∧ p ≤ 5) by omega) (W_n W74 (by omega) c_73))
              have t_83 : (M80.2.1 p 3).toInt = (M.2.1 p 3).toInt := congrArg Int32.toInt c_82
              refine C_42 hX (dp1 hd (by decide)) hG79 hp (by omega) (by omega) (by omega) (p := p) (f := r10) (fun r84 M89 hG86 F85 p_87 p_88 => ?_)
              have F90 := FR.c F81 F85 tg_120
              refine b_ine (pc := 111) rw_41_111 (A := r84.toInt) rfl (fun h91 => ?_) (fun h91 => ?_)
              · refine to_an (pc := 116) rw_41_116 rfl (to_dupr (pc := 117) rw_41_117 ?_)
                have c_92 : M89.2.1 p 3 = (M.2.1 p 3) := (F_n F85 (show ¬ (p = 1 ∧ 5 ≤ 3 ∨ 3 ≤ p ∧ p ≤ 5 ∨ p = 57 ∨ p = 66) by omega) c_82)
                refine tt_gI (pc := 118) rw_41_118 (g_o hG86 (by rcases hp with rfl | rfl <;> rfl)) (v := (M.2.1 p 3)) c_92 (to_c (pc := 121) rw_41_121 (x := (1 : Int32)) rfl rfl (s_add (pc := 122) rw_41_122 (A := (M.2.1 p 3).toInt) (B := 1) rfl rfl (by omega) (fun v93 e94 => s_pI (pc := 123) rw_41_123 hG86 (by rcases hp with rfl | rfl <;> rfl) (fun M96 W95 => ?_))))
                have hG97 := g_w hG86 W95 (A := v93.toInt) rfl (lo := 0) (hi := 12) (by rcases hp with rfl | rfl <;> rfl) (by rcases hp with rfl | rfl <;> rfl) (by omega) (by omega)
                have F98 := FR.w F90 W95 (show p = 1 ∧ 5 ≤ 3 ∨ 3 ≤ p ∧ p ≤ 5 ∨ 49 ≤ p ∧ p ≤ 66 by omega)
                refine to_c (pc := 126) rw_41_126 (x := (1 : Int32)) rfl rfl (s_r1 (pc := 127) rw_41_127 (A := 1) rfl (by decide) ?_)
                have k_99 : (1 : Int32).toInt = 1 := rfl
                have j_100 := (PI_f (fun a i z => W_n W95 (by omega) rfl) (PI_f (tg_113 F85) (PI_f (tg_112 F78) (PI_f (fun a i z => W_n W74 (by omega) rfl) (PI_f (fun a i z => W_n W69 (by omega) rfl) (PI_f (tg_112 F61) (PI_f (tg_112 F56) (PI_f (tg_99 F11) (PI_f (tg_112 F3) q1)))))))))
                exact h (1 : Int32) M96 hG97 F98 (by decide) (by decide) j_100
              · refine to_c (pc := 114) rw_41_114 (x := (0 : Int32)) rfl rfl (s_r1 (pc := 115) rw_41_115 (A := 0) rfl (by decide) ?_)
                have k_101 : (0 : Int32).toInt = 0 := rfl
                have j_102 := (PI_f (tg_113 F85) (PI_f (tg_112 F78) (PI_f (fun a i z => W_n W74 (by omega) rfl) (PI_f (fun a i z => W_n W69 (by omega) rfl) (PI_f (tg_112 F61) (PI_f (tg_112 F56) (PI_f (tg_99 F11) (PI_f (tg_112 F3) q1))))))))
                exact h (0 : Int32) M89 hG86 F90 (by decide) (by decide) j_102
            · refine to_c (pc := 76) rw_41_76 (x := (0 : Int32)) rfl rfl (s_r1 (pc := 77) rw_41_77 (A := 0) rfl (by decide) ?_)
              have k_103 : (0 : Int32).toInt = 0 := rfl
              have j_104 := (PI_f (tg_112 F61) (PI_f (tg_112 F56) (PI_f (tg_99 F11) (PI_f (tg_112 F3) q1))))
              exact h (0 : Int32) M65 hG62 F66 (by decide) (by decide) j_104
    · refine to_an (pc := 27) rw_41_27 rfl (to_c (pc := 28) rw_41_28 (x := (1 : Int32)) rfl rfl (s_v (pc := 29) rw_41_29 (dp0 hd (by decide)) (ls0 := [.ref 1, .int (1 : Int32)]) rfl (Nat.le_of_ble_eq_true rfl) (Nat.le_of_ble_eq_true rfl) rfl (to_rc rfl rfl rfl (g_o hG4 rfl)) rfl (to_an (pc := 0) rw_84_0 rfl (to_in (pc := 1) rw_84_1 rfl (s_pI (pc := 2) rw_84_2 hG4 rfl (fun M106 W105 => ?_))))))
      have hG107 := g_wf hG4 W105 rfl rfl (by decide)
      have F108 := FR.w F6 W105 (show 1 = 1 ∧ 5 ≤ 10 ∨ 3 ≤ 1 ∧ 1 ≤ 5 ∨ 49 ≤ 1 ∧ 1 ≤ 66 by decide)
      refine to_an (pc := 5) rw_84_5 rfl (to_an (pc := 6) rw_84_6 rfl ?_)
      have c_109 : M106.2.1 1 9 = (M5.2.1 1 9) := (W_n W105 (by decide) rfl)
      refine tt_gI (pc := 7) rw_84_7 (g_o hG107 rfl) (v := (M5.2.1 1 9)) c_109 (s_pI (pc := 10) rw_84_10 hG107 rfl (fun M111 W110 => ?_))
      have hG112 := g_wf hG107 W110 rfl rfl (by decide)
      have F113 := FR.w F108 W110 (show 1 = 1 ∧ 5 ≤ 11 ∨ 3 ≤ 1 ∧ 1 ≤ 5 ∨ 49 ≤ 1 ∧ 1 ≤ 66 by decide)
      refine to_c (pc := 13) rw_84_13 (x := (0 : Int32)) rfl rfl (s_r1 (pc := 14) rw_84_14 (A := 0) rfl (by decide) (s_r1 (pc := 32) rw_41_32 (A := 0) rfl (by decide) ?_))
      have k_114 : (0 : Int32).toInt = 0 := rfl
      have j_115 := (PI_f (fun a i z => W_n W110 (by /-r1,11-/ omega) rfl) (PI_f (fun a i z => W_n W105 (by /-r1,10-/ omega) rfl) (PI_f (tg_112 F3) q1)))
      exact h (0 : Int32) M111 hG112 F113 (by decide) (by decide) j_115
  · refine to_an (pc := 9) rw_41_9 rfl (to_c (pc := 10) rw_41_10 (x := (2 : Int32)) rfl rfl (s_v (pc := 11) rw_41_11 (dp0 hd (by decide)) (ls0 := [.ref 1, .int (2 : Int32)]) rfl (Nat.le_of_ble_eq_true rfl) (Nat.le_of_ble_eq_true rfl) rfl (to_rc rfl rfl rfl (g_o hG rfl)) rfl (to_an (pc := 0) rw_84_0 rfl (to_in (pc := 1) rw_84_1 rfl (s_pI (pc := 2) rw_84_2 hG rfl (fun M117 W116 => ?_))))))
    have hG118 := g_wf hG W116 rfl rfl (by decide)
    have F119 := FR.w F0 W116 (show 1 = 1 ∧ 5 ≤ 10 ∨ 3 ≤ 1 ∧ 1 ≤ 5 ∨ 49 ≤ 1 ∧ 1 ≤ 66 by decide)
    refine to_an (pc := 5) rw_84_5 rfl (to_an (pc := 6) rw_84_6 rfl ?_)
    have c_120 : M117.2.1 1 9 = (M.2.1 1 9) := (W_n W116 (by decide) rfl)
    refine tt_gI (pc := 7) rw_84_7 (g_o hG118 rfl) (v := (M.2.1 1 9)) c_120 (s_pI (pc := 10) rw_84_10 hG118 rfl (fun M122 W121 => ?_))
    have hG123 := g_wf hG118 W121 rfl rfl (by decide)
    have F124 := FR.w F119 W121 (show 1 = 1 ∧ 5 ≤ 11 ∨ 3 ≤ 1 ∧ 1 ≤ 5 ∨ 49 ≤ 1 ∧ 1 ≤ 66 by decide)
    refine to_c (pc := 13) rw_84_13 (x := (0 : Int32)) rfl rfl (s_r1 (pc := 14) rw_84_14 (A := 0) rfl (by decide) (s_r1 (pc := 14) rw_41_14 (A := 0) rfl (by decide) ?_))
    have k_125 : (0 : Int32).toInt = 0 := rfl
    have j_126 := (PI_f (fun a i z => W_n W121 (by /-r1,11-/ omega) rfl) (PI_f (fun a i z => W_n W116 (by /-r1,10-/ omega) rfl) q1))
    exact h (0 : Int32) M122 hG123 F124 (by decide) (by decide) j_126
set_option maxRecDepth 4000 in
set_option maxHeartbeats 0 in
theorem C_31 {X : mm_X} {d : Nat} {M : mm_M} {Q : Option Value → mm_M → Prop} {p : Nat} (hX : g_X X) (hd : 4 ≤ d) (hG : g_G M) (hp : p = 49 ∨ p = 58) (q1 : PI M) (h : ∀ (r : Int32) (M1 : mm_M), g_G M1 → FR md_pt M M1 → (0 ≤ r.toInt) → (r.toInt ≤ 1) → PI M1 → Q (some (.int r)) M1) : mm_T X d 31 0 [.ref p, .ref 1] [] M Q := by
  have F0 : FR md_pt M M := FR.rf
  refine to_an (pc := 0) rw_31_0 rfl (to_c (pc := 1) rw_31_1 (x := (284563040 : Int32)) rfl rfl (s_v (pc := 3) rw_31_3 (dp0 hd (by decide)) (ls0 := [.ref 1, .int (284563040 : Int32)]) rfl (Nat.le_of_ble_eq_true rfl) (Nat.le_of_ble_eq_true rfl) rfl (to_rc rfl rfl rfl (g_o hG rfl)) rfl (to_an (pc := 0) rw_86_0 rfl (tt_gI (pc := 1) rw_86_1 (g_o hG rfl) (v := (M.2.1 1 7)) rfl (to_c (pc := 4) rw_86_4 (x := (4 : Int32)) rfl rfl (b_cne (pc := 5) rw_86_5 (A := (M.2.1 1 7).toInt) (B := 4) rfl rfl (fun h1 => ?_) (fun h1 => ?_)))))))
  · refine to_c (pc := 20) rw_86_20 (x := (0 : Int32)) rfl rfl (s_r1 (pc := 21) rw_86_21 (A := 0) rfl (by decide) (b_ieq_t (pc := 6) rw_31_6 (A := 0) rfl (by decide) (to_an (pc := 15) rw_31_15 rfl (tt_gI (pc := 16) rw_31_16 (g_o hG (by rcases hp with rfl | rfl <;> rfl)) (v := (M.2.1 p 1)) rfl (b_ile (pc := 19) rw_31_19 (A := (M.2.1 p 1).toInt) rfl (fun h2 => ?_) (fun h2 => ?_))))))
    · refine to_an (pc := 37) rw_31_37 rfl (tt_gI (pc := 38) rw_31_38 (g_o hG (by rcases hp with rfl | rfl <;> rfl)) (v := (M.2.1 p 1)) rfl (b_ile_t (pc := 41) rw_31_41 (A := (M.2.1 p 1).toInt) rfl (by omega) (to_an (pc := 59) rw_31_59 rfl (to_c (pc := 60) rw_31_60 (x := (1 : Int32)) rfl rfl (s_v (pc := 61) rw_31_61 (dp0 hd (by decide)) (ls0 := [.ref 1, .int (1 : Int32)]) rfl (Nat.le_of_ble_eq_true rfl) (Nat.le_of_ble_eq_true rfl) rfl (to_rc rfl rfl rfl (g_o hG rfl)) rfl (to_an (pc := 0) rw_84_0 rfl (to_in (pc := 1) rw_84_1 rfl (s_pI (pc := 2) rw_84_2 hG rfl (fun M4 W3 => ?_)))))))))
      have hG5 := g_wf hG W3 rfl rfl (by decide)
      have F6 := FR.w F0 W3 (show 1 = 1 ∧ 5 ≤ 10 ∨ 3 ≤ 1 ∧ 1 ≤ 5 ∨ 49 ≤ 1 ∧ 1 ≤ 66 by decide)
      refine to_an (pc := 5) rw_84_5 rfl (to_an (pc := 6) rw_84_6 rfl ?_)
      have c_7 : M4.2.1 1 9 = (M.2.1 1 9) := (W_n W3 (by decide) rfl)
      refine tt_gI (pc := 7) rw_84_7 (g_o hG5 rfl) (v := (M.2.1 1 9)) c_7 (s_pI (pc := 10) rw_84_10 hG5 rfl (fun M9 W8 => ?_))
      have hG10 := g_wf hG5 W8 rfl rfl (by decide)
      have F11 := FR.w F6 W8 (show 1 = 1 ∧ 5 ≤ 11 ∨ 3 ≤ 1 ∧ 1 ≤ 5 ∨ 49 ≤ 1 ∧ 1 ≤ 66 by decide)
      refine to_c (pc := 13) rw_84_13 (x := (0 : Int32)) rfl rfl (s_r1 (pc := 14) rw_84_14 (A := 0) rfl (by decide) (s_r1 (pc := 64) rw_31_64 (A := 0) rfl (by decide) ?_))
      have k_12 : (0 : Int32).toInt = 0 := rfl
      have j_13 := (PI_f (fun a i z => W_n W8 (by /-r1,11-/ omega) rfl) (PI_f (fun a i z => W_n W3 (by /-r1,10-/ omega) rfl) q1))
      exact h (0 : Int32) M9 hG10 F11 (by decide) (by decide) j_13
    · refine to_an (pc := 22) rw_31_22 rfl (to_c (pc := 23) rw_31_23 (x := (210940032 : Int32)) rfl rfl (s_v (pc := 25) rw_31_25 (dp0 hd (by decide)) (ls0 := [.ref 1, .int (210940032 : Int32)]) rfl (Nat.le_of_ble_eq_true rfl) (Nat.le_of_ble_eq_true rfl) rfl (to_rc rfl rfl rfl (g_o hG rfl)) rfl (to_an (pc := 0) rw_86_0 rfl (tt_gI (pc := 1) rw_86_1 (g_o hG rfl) (v := (M.2.1 1 7)) rfl (to_c (pc := 4) rw_86_4 (x := (4 : Int32)) rfl rfl (b_cne (pc := 5) rw_86_5 (A := (M.2.1 1 7).toInt) (B := 4) rfl rfl (fun h14 => ?_) (fun h14 => ?_)))))))
      · refine to_c (pc := 20) rw_86_20 (x := (0 : Int32)) rfl rfl (s_r1 (pc := 21) rw_86_21 (A := 0) rfl (by decide) (b_ieq_t (pc := 28) rw_31_28 (A := 0) rfl (by decide) (to_an (pc := 37) rw_31_37 rfl (tt_gI (pc := 38) rw_31_38 (g_o hG (by rcases hp with rfl | rfl <;> rfl)) (v := (M.2.1 p 1)) rfl (b_ile_f (pc := 41) rw_31_41 (A := (M.2.1 p 1).toInt) rfl (by omega) (to_an (pc := 44) rw_31_44 rfl (to_c (pc := 45) rw_31_45 (x := (788074496 : Int32)) rfl rfl (s_v (pc := 47) rw_31_47 (dp0 hd (by decide)) (ls0 := [.ref 1, .int (788074496 : Int32)]) rfl (Nat.le_of_ble_eq_true rfl) (Nat.le_of_ble_eq_true rfl) rfl (to_rc rfl rfl rfl (g_o hG rfl)) rfl (to_an (pc := 0) rw_86_0 rfl (tt_gI (pc := 1) rw_86_1 (g_o hG rfl) (v := (M.2.1 1 7)) rfl (to_c (pc := 4) rw_86_4 (x := (4 : Int32)) rfl rfl ?_)))))))))))
        refine b_cne (pc := 5) rw_86_5 (A := (M.2.1 1 7).toInt) (B := 4) rfl rfl (fun h15 => ?_) (fun h15 => ?_)
        · refine to_c (pc := 20) rw_86_20 (x := (0 : Int32)) rfl rfl (s_r1 (pc := 21) rw_86_21 (A := 0) rfl (by decide) (b_ieq_t (pc := 50) rw_31_50 (A := 0) rfl (by decide) (to_an (pc := 59) rw_31_59 rfl (to_c (pc := 60) rw_31_60 (x := (1 : Int32)) rfl rfl (s_v (pc := 61) rw_31_61 (dp0 hd (by decide)) (ls0 := [.ref 1, .int (1 : Int32)]) rfl (Nat.le_of_ble_eq_true rfl) (Nat.le_of_ble_eq_true rfl) rfl (to_rc rfl rfl rfl (g_o hG rfl)) rfl (to_an (pc := 0) rw_84_0 rfl (to_in (pc := 1) rw_84_1 rfl (s_pI (pc := 2) rw_84_2 hG rfl (fun M17 W16 => ?_)))))))))
          have hG18 := g_wf hG W16 rfl rfl (by decide)
          have F19 := FR.w F0 W16 (show 1 = 1 ∧ 5 ≤ 10 ∨ 3 ≤ 1 ∧ 1 ≤ 5 ∨ 49 ≤ 1 ∧ 1 ≤ 66 by decide)
          refine to_an (pc := 5) rw_84_5 rfl (to_an (pc := 6) rw_84_6 rfl ?_)
          have c_20 : M17.2.1 1 9 = (M.2.1 1 9) := (W_n W16 (by decide) rfl)
          refine tt_gI (pc := 7) rw_84_7 (g_o hG18 rfl) (v := (M.2.1 1 9)) c_20 (s_pI (pc := 10) rw_84_10 hG18 rfl (fun M22 W21 => ?_))
          have hG23 := g_wf hG18 W21 rfl rfl (by decide)
          have F24 := FR.w F19 W21 (show 1 = 1 ∧ 5 ≤ 11 ∨ 3 ≤ 1 ∧ 1 ≤ 5 ∨ 49 ≤ 1 ∧ 1 ≤ 66 by decide)
          refine to_c (pc := 13) rw_84_13 (x := (0 : Int32)) rfl rfl (s_r1 (pc := 14) rw_84_14 (A := 0) rfl (by decide) (s_r1 (pc := 64) rw_31_64 (A := 0) rfl (by decide) ?_))
          have k_25 : (0 : Int32).toInt = 0 := rfl
          have j_26 := (PI_f (fun a i z => W_n W21 (by /-r1,11-/ omega) rfl) (PI_f (fun a i z => W_n W16 (by /-r1,10-/ omega) rfl) q1))
          exact h (0 : Int32) M22 hG23 F24 (by decide) (by decide) j_26
        · refine to_an (pc := 8) rw_86_8 rfl (tt_gI (pc := 9) rw_86_9 (g_o hG rfl) (v := (M.2.1 1 8)) rfl (to_in (pc := 12) rw_86_12 rfl (b_cne (pc := 13) rw_86_13 (A := (M.2.1 1 8).toInt) (B := 788074496) rfl rfl (fun h27 => ?_) (fun h27 => ?_))))
          · refine to_c (pc := 20) rw_86_20 (x := (0 : Int32)) rfl rfl (s_r1 (pc := 21) rw_86_21 (A := 0) rfl (by decide) (b_ieq_t (pc := 50) rw_31_50 (A := 0) rfl (by decide) (to_an (pc := 59) rw_31_59 rfl (to_c (pc := 60) rw_31_60 (x := (1 : Int32)) rfl rfl (s_v (pc := 61) rw_31_61 (dp0 hd (by decide)) (ls0 := [.ref 1, .int (1 : Int32)]) rfl (Nat.le_of_ble_eq_true rfl) (Nat.le_of_ble_eq_true rfl) rfl (to_rc rfl rfl rfl (g_o hG rfl)) rfl (to_an (pc := 0) rw_84_0 rfl (to_in (pc := 1) rw_84_1 rfl (s_pI (pc := 2) rw_84_2 hG rfl (fun M29 W28 => ?_)))))))))
            have hG30 := g_wf hG W28 rfl rfl (by decide)
            have F31 := FR.w F0 W28 (show 1 = 1 ∧ 5 ≤ 10 ∨ 3 ≤ 1 ∧ 1 ≤ 5 ∨ 49 ≤ 1 ∧ 1 ≤ 66 by decide)
            refine to_an (pc := 5) rw_84_5 rfl (to_an (pc := 6) rw_84_6 rfl ?_)
            have c_32 : M29.2.1 1 9 = (M.2.1 1 9) := (W_n W28 (by decide) rfl)
            refine tt_gI (pc := 7) rw_84_7 (g_o hG30 rfl) (v := (M.2.1 1 9)) c_32 (s_pI (pc := 10) rw_84_10 hG30 rfl (fun M34 W33 => ?_))
            have hG35 := g_wf hG30 W33 rfl rfl (by decide)
            have F36 := FR.w F31 W33 (show 1 = 1 ∧ 5 ≤ 11 ∨ 3 ≤ 1 ∧ 1 ≤ 5 ∨ 49 ≤ 1 ∧ 1 ≤ 66 by decide)
            refine to_c (pc := 13) rw_84_13 (x := (0 : Int32)) rfl rfl (s_r1 (pc := 14) rw_84_14 (A := 0) rfl (by decide) (s_r1 (pc := 64) rw_31_64 (A := 0) rfl (by decide) ?_))
            have k_37 : (0 : Int32).toInt = 0 := rfl
            have j_38 := (PI_f (fun a i z => W_n W33 (by /-r1,11-/ omega) rfl) (PI_f (fun a i z => W_n W28 (by /-r1,10-/ omega) rfl) q1))
            exact h (0 : Int32) M34 hG35 F36 (by decide) (by decide) j_38
          · refine to_c (pc := 16) rw_86_16 (x := (1 : Int32)) rfl rfl (to_go (pc := 17) rw_86_17 (s_r1 (pc := 21) rw_86_21 (A := 1) rfl (by decide) (b_ieq_f (pc := 50) rw_31_50 (A := 1) rfl (by decide) (to_an (pc := 53) rw_31_53 rfl (to_an (pc := 54) rw_31_54 rfl (s_v (pc := 55) rw_31_55 (dp0 hd (by decide)) (ls0 := [.ref p, .ref 1, .null]) rfl (Nat.le_of_ble_eq_true rfl) (Nat.le_of_ble_eq_true rfl) rfl (to_rc rfl rfl rfl (g_o hG (by rcases hp with rfl | rfl <;> rfl))) rfl (C_41 hX (dp1 hd (by decide)) hG hp q1 (p := p) (fun r39 M45 hG41 F40 p_42 p_43 p_44 => ?_))))))))
            have F46 := FR.c F0 F40 tg_121
            refine s_r1 (pc := 58) rw_31_58 (A := r39.toInt) rfl (by omega) ?_
            exact h r39 M45 hG41 F46 (by omega) (by omega) p_44
      · refine to_an (pc := 8) rw_86_8 rfl (tt_gI (pc := 9) rw_86_9 (g_o hG rfl) (v := (M.2.1 1 8)) rfl (to_in (pc := 12) rw_86_12 rfl (b_cne (pc := 13) rw_86_13 (A := (M.2.1 1 8).toInt) (B := 210940032) rfl rfl (fun h47 => ?_) (fun h47 => ?_))))
        · refine to_c (pc := 20) rw_86_20 (x := (0 : Int32)) rfl rfl (s_r1 (pc := 21) rw_86_21 (A := 0) rfl (by decide) (b_ieq_t (pc := 28) rw_31_28 (A := 0) rfl (by decide) (to_an (pc := 37) rw_31_37 rfl (tt_gI (pc := 38) rw_31_38 (g_o hG (by rcases hp with rfl | rfl <;> rfl)) (v := (M.2.1 p 1)) rfl (b_ile_f (pc := 41) rw_31_41 (A := (M.2.1 p 1).toInt) rfl (by omega) (to_an (pc := 44) rw_31_44 rfl (to_c (pc := 45) rw_31_45 (x := (788074496 : Int32)) rfl rfl (s_v (pc := 47) rw_31_47 (dp0 hd (by decide)) (ls0 := [.ref 1, .int (788074496 : Int32)]) rfl (Nat.le_of_ble_eq_true rfl) (Nat.le_of_ble_eq_true rfl) rfl (to_rc rfl rfl rfl (g_o hG rfl)) rfl (to_an (pc := 0) rw_86_0 rfl (tt_gI (pc := 1) rw_86_1 (g_o hG rfl) (v := (M.2.1 1 7)) rfl (to_c (pc := 4) rw_86_4 (x := (4 : Int32)) rfl rfl ?_)))))))))))
          refine b_cne_f (pc := 5) rw_86_5 (A := (M.2.1 1 7).toInt) (B := 4) rfl rfl (by omega) (to_an (pc := 8) rw_86_8 rfl (tt_gI (pc := 9) rw_86_9 (g_o hG rfl) (v := (M.2.1 1 8)) rfl (to_in (pc := 12) rw_86_12 rfl (b_cne (pc := 13) rw_86_13 (A := (M.2.1 1 8).toInt) (B := 788074496) rfl rfl (fun h48 => ?_) (fun h48 => ?_)))))
          · refine to_c (pc := 20) rw_86_20 (x := (0 : Int32)) rfl rfl (s_r1 (pc := 21) rw_86_21 (A := 0) rfl (by decide) (b_ieq_t (pc := 50) rw_31_50 (A := 0) rfl (by decide) (to_an (pc := 59) rw_31_59 rfl (to_c (pc := 60) rw_31_60 (x := (1 : Int32)) rfl rfl (s_v (pc := 61) rw_31_61 (dp0 hd (by decide)) (ls0 := [.ref 1, .int (1 : Int32)]) rfl (Nat.le_of_ble_eq_true rfl) (Nat.le_of_ble_eq_true rfl) rfl (to_rc rfl rfl rfl (g_o hG rfl)) rfl (to_an (pc := 0) rw_84_0 rfl (to_in (pc := 1) rw_84_1 rfl (s_pI (pc := 2) rw_84_2 hG rfl (fun M50 W49 => ?_)))))))))
            have hG51 := g_wf hG W49 rfl rfl (by decide)
            have F52 := FR.w F0 W49 (show 1 = 1 ∧ 5 ≤ 10 ∨ 3 ≤ 1 ∧ 1 ≤ 5 ∨ 49 ≤ 1 ∧ 1 ≤ 66 by decide)
            refine to_an (pc := 5) rw_84_5 rfl (to_an (pc := 6) rw_84_6 rfl ?_)
            have c_53 : M50.2.1 1 9 = (M.2.1 1 9) := (W_n W49 (by decide) rfl)
            refine tt_gI (pc := 7) rw_84_7 (g_o hG51 rfl) (v := (M.2.1 1 9)) c_53 (s_pI (pc := 10) rw_84_10 hG51 rfl (fun M55 W54 => ?_))
            have hG56 := g_wf hG51 W54 rfl rfl (by decide)
            have F57 := FR.w F52 W54 (show 1 = 1 ∧ 5 ≤ 11 ∨ 3 ≤ 1 ∧ 1 ≤ 5 ∨ 49 ≤ 1 ∧ 1 ≤ 66 by decide)
            refine to_c (pc := 13) rw_84_13 (x := (0 : Int32)) rfl rfl (s_r1 (pc := 14) rw_84_14 (A := 0) rfl (by decide) (s_r1 (pc := 64) rw_31_64 (A := 0) rfl (by decide) ?_))
            have k_58 : (0 : Int32).toInt = 0 := rfl
            have j_59 := (PI_f (fun a i z => W_n W54 (by /-r1,11-/ omega) rfl) (PI_f (fun a i z => W_n W49 (by /-r1,10-/ omega) rfl) q1))
            exact h (0 : Int32) M55 hG56 F57 (by decide) (by decide) j_59
          · refine to_c (pc := 16) rw_86_16 (x := (1 : Int32)) rfl rfl (to_go (pc := 17) rw_86_17 (s_r1 (pc := 21) rw_86_21 (A := 1) rfl (by decide) (b_ieq_f (pc := 50) rw_31_50 (A := 1) rfl (by decide) (to_an (pc := 53) rw_31_53 rfl (to_an (pc := 54) rw_31_54 rfl (s_v (pc := 55) rw_31_55 (dp0 hd (by decide)) (ls0 := [.ref p, .ref 1, .null]) rfl (Nat.le_of_ble_eq_true rfl) (Nat.le_of_ble_eq_true rfl) rfl (to_rc rfl rfl rfl (g_o hG (by rcases hp with rfl | rfl <;> rfl))) rfl (C_41 hX (dp1 hd (by decide)) hG hp q1 (p := p) (fun r60 M66 hG62 F61 p_63 p_64 p_65 => ?_))))))))
            have F67 := FR.c F0 F61 tg_121
            refine s_r1 (pc := 58) rw_31_58 (A := r60.toInt) rfl (by omega) ?_
            exact h r60 M66 hG62 F67 (by omega) (by omega) p_65
        · refine to_c (pc := 16) rw_86_16 (x := (1 : Int32)) rfl rfl (to_go (pc := 17) rw_86_17 (s_r1 (pc := 21) rw_86_21 (A := 1) rfl (by decide) (b_ieq_f (pc := 28) rw_31_28 (A := 1) rfl (by decide) (to_an (pc := 31) rw_31_31 rfl (to_an (pc := 32) rw_31_32 rfl (s_v (pc := 33) rw_31_33 (dp0 hd (by decide)) (ls0 := [.ref p, .ref 1, .null, .null]) rfl (Nat.le_of_ble_eq_true rfl) (Nat.le_of_ble_eq_true rfl) rfl (to_rc rfl rfl rfl (g_o hG (by rcases hp with rfl | rfl <;> rfl))) rfl (C_33 hX (dp1 hd (by decide)) hG hp q1 (p := p) (fun r68 M74 hG70 F69 p_71 p_72 p_73 => ?_))))))))
          have F75 := FR.c F0 F69 tg_121
          refine s_r1 (pc := 36) rw_31_36 (A := r68.toInt) rfl (by omega) ?_
          exact h r68 M74 hG70 F75 (by omega) (by omega) p_73
  · refine to_an (pc := 8) rw_86_8 rfl (tt_gI (pc := 9) rw_86_9 (g_o hG rfl) (v := (M.2.1 1 8)) rfl (to_in (pc := 12) rw_86_12 rfl (b_cne (pc := 13) rw_86_13 (A := (M.2.1 1 8).toInt) (B := 284563040) rfl rfl (fun h76 => ?_) (fun h76 => ?_))))
    · refine to_c (pc := 20) rw_86_20 (x := (0 : Int32)) rfl rfl (s_r1 (pc := 21) rw_86_21 (A := 0) rfl (by decide) (b_ieq_t (pc := 6) rw_31_6 (A := 0) rfl (by decide) (to_an (pc := 15) rw_31_15 rfl (tt_gI (pc := 16) rw_31_16 (g_o hG (by rcases hp with rfl | rfl <;> rfl)) (v := (M.2.1 p 1)) rfl (b_ile (pc := 19) rw_31_19 (A := (M.2.1 p 1).toInt) rfl (fun h77 => ?_) (fun h77 => ?_))))))
      · refine to_an (pc := 37) rw_31_37 rfl (tt_gI (pc := 38) rw_31_38 (g_o hG (by rcases hp with rfl | rfl <;> rfl)) (v := (M.2.1 p 1)) rfl (b_ile_t (pc := 41) rw_31_41 (A := (M.2.1 p 1).toInt) rfl (by omega) (to_an (pc := 59) rw_31_59 rfl (to_c (pc := 60) rw_31_60 (x := (1 : Int32)) rfl rfl (s_v (pc := 61) rw_31_61 (dp0 hd (by decide)) (ls0 := [.ref 1, .int (1 : Int32)]) rfl (Nat.le_of_ble_eq_true rfl) (Nat.le_of_ble_eq_true rfl) rfl (to_rc rfl rfl rfl (g_o hG rfl)) rfl (to_an (pc := 0) rw_84_0 rfl (to_in (pc := 1) rw_84_1 rfl (s_pI (pc := 2) rw_84_2 hG rfl (fun M79 W78 => ?_)))))))))
        have hG80 := g_wf hG W78 rfl rfl (by decide)
        have F81 := FR.w F0 W78 (show 1 = 1 ∧ 5 ≤ 10 ∨ 3 ≤ 1 ∧ 1 ≤ 5 ∨ 49 ≤ 1 ∧ 1 ≤ 66 by decide)
        refine to_an (pc := 5) rw_84_5 rfl (to_an (pc := 6) rw_84_6 rfl ?_)
        have c_82 : M79.2.1 1 9 = (M.2.1 1 9) := (W_n W78 (by decide) rfl)
        refine tt_gI (pc := 7) rw_84_7 (g_o hG80 rfl) (v := (M.2.1 1 9)) c_82 (s_pI (pc := 10) rw_84_10 hG80 rfl (fun M84 W83 => ?_))
        have hG85 := g_wf hG80 W83 rfl rfl (by decide)
        have F86 := FR.w F81 W83 (show 1 = 1 ∧ 5 ≤ 11 ∨ 3 ≤ 1 ∧ 1 ≤ 5 ∨ 49 ≤ 1 ∧ 1 ≤ 66 by decide)
        refine to_c (pc := 13) rw_84_13 (x := (0 : Int32)) rfl rfl (s_r1 (pc := 14) rw_84_14 (A := 0) rfl (by decide) (s_r1 (pc := 64) rw_31_64 (A := 0) rfl (by decide) ?_))
        have k_87 : (0 : Int32).toInt = 0 := rfl
        have j_88 := (PI_f (fun a i z => W_n W83 (by /-r1,11-/ omega) rfl) (PI_f (fun a i z => W_n W78 (by /-r1,10-/ omega) rfl) q1))
        exact h (0 : Int32) M84 hG85 F86 (by decide) (by decide) j_88
      · refine to_an (pc := 22) rw_31_22 rfl (to_c (pc := 23) rw_31_23 (x := (210940032 : Int32)) rfl rfl (s_v (pc := 25) rw_31_25 (dp0 hd (by decide)) (ls0 := [.ref 1, .int (210940032 : Int32)]) rfl (Nat.le_of_ble_eq_true rfl) (Nat.le_of_ble_eq_true rfl) rfl (to_rc rfl rfl rfl (g_o hG rfl)) rfl (to_an (pc := 0) rw_86_0 rfl (tt_gI (pc := 1) rw_86_1 (g_o hG rfl) (v := (M.2.1 1 7)) rfl (to_c (pc := 4) rw_86_4 (x := (4 : Int32)) rfl rfl (b_cne_f (pc := 5) rw_86_5 (A := (M.2.1 1 7).toInt) (B := 4) rfl rfl (by omega) (to_an (pc := 8) rw_86_8 rfl (tt_gI (pc := 9) rw_86_9 (g_o hG rfl) (v := (M.2.1 1 8)) rfl (to_in (pc := 12) rw_86_12 rfl (b_cne (pc := 13) rw_86_13 (A := (M.2.1 1 8).toInt) (B := 210940032) rfl rfl (fun h89 => ?_) (fun h89 => ?_)))))))))))
        · refine to_c (pc := 20) rw_86_20 (x := (0 : Int32)) rfl rfl (s_r1 (pc := 21) rw_86_21 (A := 0) rfl (by decide) (b_ieq_t (pc := 28) rw_31_28 (A := 0) rfl (by decide) (to_an (pc := 37) rw_31_37 rfl (tt_gI (pc := 38) rw_31_38 (g_o hG (by rcases hp with rfl | rfl <;> rfl)) (v := (M.2.1 p 1)) rfl (b_ile_f (pc := 41) rw_31_41 (A := (M.2.1 p 1).toInt) rfl (by omega) (to_an (pc := 44) rw_31_44 rfl (to_c (pc := 45) rw_31_45 (x := (788074496 : Int32)) rfl rfl (s_v (pc := 47) rw_31_47 (dp0 hd (by decide)) (ls0 := [.ref 1, .int (788074496 : Int32)]) rfl (Nat.le_of_ble_eq_true rfl) (Nat.le_of_ble_eq_true rfl) rfl (to_rc rfl rfl rfl (g_o hG rfl)) rfl (to_an (pc := 0) rw_86_0 rfl (tt_gI (pc := 1) rw_86_1 (g_o hG rfl) (v := (M.2.1 1 7)) rfl (to_c (pc := 4) rw_86_4 (x := (4 : Int32)) rfl rfl ?_)))))))))))
          refine b_cne_f (pc := 5) rw_86_5 (A := (M.2.1 1 7).toInt) (B := 4) rfl rfl (by omega) (to_an (pc := 8) rw_86_8 rfl (tt_gI (pc := 9) rw_86_9 (g_o hG rfl) (v := (M.2.1 1 8)) rfl (to_in (pc := 12) rw_86_12 rfl (b_cne (pc := 13) rw_86_13 (A := (M.2.1 1 8).toInt) (B := 788074496) rfl rfl (fun h90 => ?_) (fun h90 => ?_)))))
          · refine to_c (pc := 20) rw_86_20 (x := (0 : Int32)) rfl rfl (s_r1 (pc := 21) rw_86_21 (A := 0) rfl (by decide) (b_ieq_t (pc := 50) rw_31_50 (A := 0) rfl (by decide) (to_an (pc := 59) rw_31_59 rfl (to_c (pc := 60) rw_31_60 (x := (1 : Int32)) rfl rfl (s_v (pc := 61) rw_31_61 (dp0 hd (by decide)) (ls0 := [.ref 1, .int (1 : Int32)]) rfl (Nat.le_of_ble_eq_true rfl) (Nat.le_of_ble_eq_true rfl) rfl (to_rc rfl rfl rfl (g_o hG rfl)) rfl (to_an (pc := 0) rw_84_0 rfl (to_in (pc := 1) rw_84_1 rfl (s_pI (pc := 2) rw_84_2 hG rfl (fun M92 W91 => ?_)))))))))
            have hG93 := g_wf hG W91 rfl rfl (by decide)
            have F94 := FR.w F0 W91 (show 1 = 1 ∧ 5 ≤ 10 ∨ 3 ≤ 1 ∧ 1 ≤ 5 ∨ 49 ≤ 1 ∧ 1 ≤ 66 by decide)
            refine to_an (pc := 5) rw_84_5 rfl (to_an (pc := 6) rw_84_6 rfl ?_)
            have c_95 : M92.2.1 1 9 = (M.2.1 1 9) := (W_n W91 (by decide) rfl)
            refine tt_gI (pc := 7) rw_84_7 (g_o hG93 rfl) (v := (M.2.1 1 9)) c_95 (s_pI (pc := 10) rw_84_10 hG93 rfl (fun M97 W96 => ?_))
            have hG98 := g_wf hG93 W96 rfl rfl (by decide)
            have F99 := FR.w F94 W96 (show 1 = 1 ∧ 5 ≤ 11 ∨ 3 ≤ 1 ∧ 1 ≤ 5 ∨ 49 ≤ 1 ∧ 1 ≤ 66 by decide)
            refine to_c (pc := 13) rw_84_13 (x := (0 : Int32)) rfl rfl (s_r1 (pc := 14) rw_84_14 (A := 0) rfl (by decide) (s_r1 (pc := 64) rw_31_64 (A := 0) rfl (by decide) ?_))
            have k_100 : (0 : Int32).toInt = 0 := rfl
            have j_101 := (PI_f (fun a i z => W_n W96 (by /-r1,11-/ omega) rfl) (PI_f (fun a i z => W_n W91 (by /-r1,10-/ omega) rfl) q1))
            exact h (0 : Int32) M97 hG98 F99 (by decide) (by decide) j_101
          · refine to_c (pc := 16) rw_86_16 (x := (1 : Int32)) rfl rfl (to_go (pc := 17) rw_86_17 (s_r1 (pc := 21) rw_86_21 (A := 1) rfl (by decide) (b_ieq_f (pc := 50) rw_31_50 (A := 1) rfl (by decide) (to_an (pc := 53) rw_31_53 rfl (to_an (pc := 54) rw_31_54 rfl (s_v (pc := 55) rw_31_55 (dp0 hd (by decide)) (ls0 := [.ref p, .ref 1, .null]) rfl (Nat.le_of_ble_eq_true rfl) (Nat.le_of_ble_eq_true rfl) rfl (to_rc rfl rfl rfl (g_o hG (by rcases hp with rfl | rfl <;> rfl))) rfl (C_41 hX (dp1 hd (by decide)) hG hp q1 (p := p) (fun r102 M108 hG104 F103 p_105 p_106 p_107 => ?_))))))))
            have F109 := FR.c F0 F103 tg_121
            refine s_r1 (pc := 58) rw_31_58 (A := r102.toInt) rfl (by omega) ?_
            exact h r102 M108 hG104 F109 (by omega) (by omega) p_107
        · refine to_c (pc := 16) rw_86_16 (x := (1 : Int32)) rfl rfl (to_go (pc := 17) rw_86_17 (s_r1 (pc := 21) rw_86_21 (A := 1) rfl (by decide) (b_ieq_f (pc := 28) rw_31_28 (A := 1) rfl (by decide) (to_an (pc := 31) rw_31_31 rfl (to_an (pc := 32) rw_31_32 rfl (s_v (pc := 33) rw_31_33 (dp0 hd (by decide)) (ls0 := [.ref p, .ref 1, .null, .null]) rfl (Nat.le_of_ble_eq_true rfl) (Nat.le_of_ble_eq_true rfl) rfl (to_rc rfl rfl rfl (g_o hG (by rcases hp with rfl | rfl <;> rfl))) rfl (C_33 hX (dp1 hd (by decide)) hG hp q1 (p := p) (fun r110 M116 hG112 F111 p_113 p_114 p_115 => ?_))))))))
          have F117 := FR.c F0 F111 tg_121
          refine s_r1 (pc := 36) rw_31_36 (A := r110.toInt) rfl (by omega) ?_
          exact h r110 M116 hG112 F117 (by omega) (by omega) p_115
    · refine to_c (pc := 16) rw_86_16 (x := (1 : Int32)) rfl rfl (to_go (pc := 17) rw_86_17 (s_r1 (pc := 21) rw_86_21 (A := 1) rfl (by decide) (b_ieq_f (pc := 6) rw_31_6 (A := 1) rfl (by decide) (to_an (pc := 9) rw_31_9 rfl (to_an (pc := 10) rw_31_10 rfl (s_v (pc := 11) rw_31_11 (dp0 hd (by decide)) (ls0 := [.ref p, .ref 1]) rfl (Nat.le_of_ble_eq_true rfl) (Nat.le_of_ble_eq_true rfl) rfl (to_rc rfl rfl rfl (g_o hG (by rcases hp with rfl | rfl <;> rfl))) rfl (C_32 hX (dp1 hd (by decide)) hG hp q1 (p := p) (fun r118 M124 hG120 F119 p_121 p_122 p_123 => ?_))))))))
      have F125 := FR.c F0 F119 tg_121
      refine s_r1 (pc := 14) rw_31_14 (A := r118.toInt) rfl (by omega) ?_
      exact h r118 M124 hG120 F125 (by omega) (by omega) p_123
set_option maxRecDepth 4000 in
set_option maxHeartbeats 0 in
theorem T_30_0 {X : mm_X} {d : Nat} {M : mm_M} {Q : Option Value → mm_M → Prop} {p : Nat} (hX : g_X X) (hd : 5 ≤ d) (hp : p = 49 ∨ p = 58) (q1 : PI M) (h : ∀ (r : Int32) (M1 : mm_M), g_G M1 → FR md_pt M M1 → (0 ≤ r.toInt) → (r.toInt ≤ 1) → PI M1 → Q (some (.int r)) M1) : ∀ nn9 : Nat, (∀ (N : mm_M) (x2 : Int32), g_G N → FR md_pt M N → (0 ≤ x2.toInt) → (x2.toInt ≤ 22) → (PI N) → 22 - x2.toInt < (nn9 : Int) → mm_T X d 30 28 [.ref p, .ref 1, .int x2] [] N Q) := by
  intro nn9
  induction nn9 with
  | zero =>
    intro N x2 hG F0 g1 g2 g3 hm
    exfalso; omega
  | succ nn9 ih =>
    intro N x2 hG F0 g1 g2 g3 hm
    refine to_in (pc := 28) rw_30_28 rfl (to_c (pc := 29) rw_30_29 (x := (21 : Int32)) rfl rfl (b_cgt (pc := 31) rw_30_31 (A := x2.toInt) (B := 21) rfl rfl (fun h1 => ?_) (fun h1 => ?_)))
    · refine to_c (pc := 76) rw_30_76 (x := (1 : Int32)) rfl rfl (s_r1 (pc := 77) rw_30_77 (A := 1) rfl (by decide) ?_)
      have k_2 : (1 : Int32).toInt = 1 := rfl
      exact h (1 : Int32) N hG F0 (by decide) (by decide) g3
    · refine to_an (pc := 34) rw_30_34 rfl (tt_gI (pc := 35) rw_30_35 (g_o hG rfl) (v := (N.2.1 1 7)) rfl (b_ieq (pc := 38) rw_30_38 (A := (N.2.1 1 7).toInt) rfl (fun h3 => ?_) (fun h3 => ?_)))
      · refine to_c (pc := 76) rw_30_76 (x := (1 : Int32)) rfl rfl (s_r1 (pc := 77) rw_30_77 (A := 1) rfl (by decide) ?_)
        have k_4 : (1 : Int32).toInt = 1 := rfl
        exact h (1 : Int32) N hG F0 (by decide) (by decide) g3
      · refine to_an (pc := 41) rw_30_41 rfl (to_an (pc := 42) rw_30_42 rfl (s_v (pc := 43) rw_30_43 (dp0 hd (by decide)) (ls0 := [.ref p, .ref 1]) rfl (Nat.le_of_ble_eq_true rfl) (Nat.le_of_ble_eq_true rfl) rfl (to_rc rfl rfl rfl (g_o hG (by rcases hp with rfl | rfl <;> rfl))) rfl (C_31 hX (dp1 hd (by decide)) hG hp g3 (p := p) (fun r5 M11 hG7 F6 p_8 p_9 p_10 => ?_))))
        have F12 := FR.c F0 F6 tg_121
        refine b_ieq (pc := 46) rw_30_46 (A := r5.toInt) rfl (fun h13 => ?_) (fun h13 => ?_)
        · refine to_c (pc := 58) rw_30_58 (x := (0 : Int32)) rfl rfl (s_r1 (pc := 59) rw_30_59 (A := 0) rfl (by decide) ?_)
          have k_14 : (0 : Int32).toInt = 0 := rfl
          exact h (0 : Int32) M11 hG7 F12 (by decide) (by decide) p_10
        · refine to_an (pc := 49) rw_30_49 rfl (to_c (pc := 50) rw_30_50 (x := (59 : Int32)) rfl rfl (s_v (pc := 52) rw_30_52 (dp0 hd (by decide)) (ls0 := [.ref 1, .int (59 : Int32)]) rfl (Nat.le_of_ble_eq_true rfl) (Nat.le_of_ble_eq_true rfl) rfl (to_rc rfl rfl rfl (g_o hG7 rfl)) rfl ?_))
          have k_15 : (59 : Int32).toInt = 59 := rfl
          refine C_90 hX (dp1 hd (by decide)) hG7 (x := (59 : Int32)) (fun r16 M22 hG18 F17 p_19 p_20 p_21 => ?_)
          have F23 := FR.c F12 F17 tg_116
          refine b_ine (pc := 55) rw_30_55 (A := r16.toInt) rfl (fun h24 => ?_) (fun h24 => ?_)
          · refine to_an (pc := 60) rw_30_60 rfl (to_dupr (pc := 61) rw_30_61 ?_)
            have c_25 : M22.2.1 p 1 = (M11.2.1 p 1) := (F_n F17 (show ¬ (p = 1 ∧ 5 ≤ 1 ∨ 3 ≤ p ∧ p ≤ 5) by omega) rfl)
            refine tt_gI (pc := 62) rw_30_62 (g_o hG18 (by rcases hp with rfl | rfl <;> rfl)) (v := (M11.2.1 p 1)) c_25 (to_c (pc := 65) rw_30_65 (x := (1 : Int32)) rfl rfl (s_any (pc := 66) rw_30_66 (fun _ _ => rfl) (fun v26 => s_pI (pc := 67) rw_30_67 hG18 (by rcases hp with rfl | rfl <;> rfl) (fun M28 W27 => ?_))))
            have hG29 := g_wf hG18 W27 (by rcases hp with rfl | rfl <;> rfl) (by rcases hp with rfl | rfl <;> rfl) (by omega)
            have F30 := FR.w F23 W27 (show p = 1 ∧ 5 ≤ 1 ∨ 3 ≤ p ∧ p ≤ 5 ∨ 49 ≤ p ∧ p ≤ 66 by omega)
            refine s_inc (pc := 70) rw_30_70 (ls2 := fun v => [.ref p, .ref 1, .int v]) rfl rfl (fun _ => rfl) (A := x2.toInt) (B := 1) rfl rfl (by omega) (fun v31 e32 => to_go (pc := 73) rw_30_73 ?_)
            have j_33 := (PI_f (fun a i z => W_n W27 (by omega) rfl) (PI_f (tg_112 F17) p_10))
            exact ih M28 v31 hG29 F30 (by omega) (by omega) j_33 (by omega)
          · refine to_c (pc := 58) rw_30_58 (x := (0 : Int32)) rfl rfl (s_r1 (pc := 59) rw_30_59 (A := 0) rfl (by decide) ?_)
            have k_34 : (0 : Int32).toInt = 0 := rfl
            have j_35 := (PI_f (tg_112 F17) p_10)
            exact h (0 : Int32) M22 hG18 F23 (by decide) (by decide) j_35
set_option maxRecDepth 4000 in
set_option maxHeartbeats 0 in
theorem C_30 {X : mm_X} {d : Nat} {M : mm_M} {Q : Option Value → mm_M → Prop} {p : Nat} (hX : g_X X) (hd : 5 ≤ d) (hG : g_G M) (hp : p = 49 ∨ p = 58) (q1 : PI M) (h : ∀ (r : Int32) (M1 : mm_M), g_G M1 → FR md_pt M M1 → (0 ≤ r.toInt) → (r.toInt ≤ 1) → PI M1 → Q (some (.int r)) M1) : mm_T X d 30 0 [.ref p, .ref 1, .null] [] M Q := by
  have F0 : FR md_pt M M := FR.rf
  refine to_an (pc := 0) rw_30_0 rfl (to_c (pc := 1) rw_30_1 (x := (10 : Int32)) rfl rfl (s_pI (pc := 3) rw_30_3 hG (by rcases hp with rfl | rfl <;> rfl) (fun M37 W36 => ?_)))
  have hG38 := g_w hG W36 (A := 10) rfl (lo := 10) (hi := 60) (by rcases hp with rfl | rfl <;> rfl) (by rcases hp with rfl | rfl <;> rfl) (by omega) (by omega)
  have F39 := FR.w F0 W36 (show p = 1 ∧ 5 ≤ 0 ∨ 3 ≤ p ∧ p ≤ 5 ∨ 49 ≤ p ∧ p ≤ 66 by omega)
  refine to_an (pc := 6) rw_30_6 rfl (to_c (pc := 7) rw_30_7 (x := (0 : Int32)) rfl rfl (s_pI (pc := 8) rw_30_8 hG38 (by rcases hp with rfl | rfl <;> rfl) (fun M41 W40 => ?_)))
  have hG42 := g_wf hG38 W40 (by rcases hp with rfl | rfl <;> rfl) (by rcases hp with rfl | rfl <;> rfl) (by omega)
  have F43 := FR.w F39 W40 (show p = 1 ∧ 5 ≤ 1 ∨ 3 ≤ p ∧ p ≤ 5 ∨ 49 ≤ p ∧ p ≤ 66 by omega)
  refine to_an (pc := 11) rw_30_11 rfl (to_c (pc := 12) rw_30_12 (x := (0 : Int32)) rfl rfl (s_pI (pc := 13) rw_30_13 hG42 (by rcases hp with rfl | rfl <;> rfl) (fun M45 W44 => ?_)))
  have hG46 := g_w hG42 W44 (A := 0) rfl (lo := 0) (hi := 8) (by rcases hp with rfl | rfl <;> rfl) (by rcases hp with rfl | rfl <;> rfl) (by omega) (by omega)
  have F47 := FR.w F43 W44 (show p = 1 ∧ 5 ≤ 2 ∨ 3 ≤ p ∧ p ≤ 5 ∨ 49 ≤ p ∧ p ≤ 66 by omega)
  refine to_an (pc := 16) rw_30_16 rfl (to_c (pc := 17) rw_30_17 (x := (0 : Int32)) rfl rfl (s_pI (pc := 18) rw_30_18 hG46 (by rcases hp with rfl | rfl <;> rfl) (fun M49 W48 => ?_)))
  have hG50 := g_w hG46 W48 (A := 0) rfl (lo := 0) (hi := 12) (by rcases hp with rfl | rfl <;> rfl) (by rcases hp with rfl | rfl <;> rfl) (by omega) (by omega)
  have F51 := FR.w F47 W48 (show p = 1 ∧ 5 ≤ 3 ∨ 3 ≤ p ∧ p ≤ 5 ∨ 49 ≤ p ∧ p ≤ 66 by omega)
  refine to_an (pc := 21) rw_30_21 rfl (s_cl (pc := 22) rw_30_22 rfl (fun l52 => s_pJ (pc := 23) rw_30_23 hG50 (by rcases hp with rfl | rfl <;> rfl) (fun M54 W53 => ?_)))
  have hG55 := g_wl hG50 W53
  have F56 := FR.wl F51 W53 (show p = 1 ∧ 5 ≤ 4 ∨ 3 ≤ p ∧ p ≤ 5 ∨ 49 ≤ p ∧ p ≤ 66 by omega)
  refine to_c (pc := 26) rw_30_26 (x := (0 : Int32)) rfl rfl (to_isn (pc := 27) rw_30_27 (ls2 := [.ref p, .ref 1, .int (0 : Int32)]) rfl rfl ?_)
  have k_57 : (0 : Int32).toInt = 0 := rfl
  have j_58 := (PI_f (fun a i z => W_l W53 rfl) (PI_f (fun a i z => W_n W48 (by omega) rfl) (PI_f (fun a i z => W_n W44 (by omega) rfl) (PI_f (fun a i z => W_n W40 (by omega) rfl) (PI_f (fun a i z => W_n W36 (by omega) rfl) q1)))))
  exact (T_30_0 (p := p) hX hd hp q1 h ((22 - (0 : Int32).toInt).toNat + 1)) M54 (0 : Int32) hG55 F56 (by omega) (by omega) j_58 (by omega)
set_option maxRecDepth 4000 in
set_option maxHeartbeats 0 in
theorem C_49 {X : mm_X} {d : Nat} {M : mm_M} {Q : Option Value → mm_M → Prop} {p : Nat} {f : Int32} {v : Int32} (hX : g_X X) (hd : 2 ≤ d) (hG : g_G M) (hp : p = 49 ∨ p = 58) (h : ∀ (r : Int64) (M1 : mm_M), g_G M1 → FR md_0 M M1 → Q (some (.long r)) M1) : mm_T X d 49 0 [.ref p, .int f, .int v, .null, .null] [] M Q := by
  have F0 : FR md_0 M M := FR.rf
  refine to_an (pc := 0) rw_49_0 rfl (to_in (pc := 1) rw_49_1 rfl (to_in (pc := 2) rw_49_2 rfl (s_v (pc := 3) rw_49_3 (dp0 hd (by decide)) (ls0 := [.ref p, .int f, .int v]) rfl (Nat.le_of_ble_eq_true rfl) (Nat.le_of_ble_eq_true rfl) rfl (to_rc rfl rfl rfl (g_o hG (by rcases hp with rfl | rfl <;> rfl))) rfl (to_an (pc := 0) rw_46_0 rfl (to_in (pc := 1) rw_46_1 rfl (s_v (pc := 2) rw_46_2 (dp1 hd (by decide)) (ls0 := [.ref p, .int f]) rfl (Nat.le_of_ble_eq_true rfl) (Nat.le_of_ble_eq_true rfl) rfl (to_rc rfl rfl rfl (g_o hG (by rcases hp with rfl | rfl <;> rfl))) rfl (to_in (pc := 0) rw_43_0 rfl (b_ilt (pc := 1) rw_43_1 (A := f.toInt) rfl (fun h1 => ?_) (fun h1 => ?_)))))))))
  · refine to_c (pc := 16) rw_43_16 (x := (0 : Int32)) rfl rfl (s_r1 (pc := 17) rw_43_17 (A := 0) rfl (by decide) (b_ieq_t (pc := 5) rw_46_5 (A := 0) rfl (by decide) (to_c (pc := 34) rw_46_34 (x := (0 : Int32)) rfl rfl (s_r1 (pc := 35) rw_46_35 (A := 0) rfl (by decide) (b_ine_f (pc := 6) rw_49_6 (A := 0) rfl (by decide) (s_cl (pc := 9) rw_49_9 rfl (fun l2 => to_rl (pc := 10) rw_49_10 ?_)))))))
    exact h l2 M hG F0 
  · refine to_in (pc := 4) rw_43_4 rfl (to_an (pc := 5) rw_43_5 rfl ?_)
    have b_3 := g_b hG (a := p) (i := 2) (lo := 0) (hi := 8) (by rcases hp with rfl | rfl <;> rfl) (by rcases hp with rfl | rfl <;> rfl)
    refine tt_gI (pc := 6) rw_43_6 (g_o hG (by rcases hp with rfl | rfl <;> rfl)) (v := (M.2.1 p 2)) rfl (b_cge (pc := 9) rw_43_9 (A := f.toInt) (B := (M.2.1 p 2).toInt) rfl rfl (fun h4 => ?_) (fun h4 => ?_))
    · refine to_c (pc := 16) rw_43_16 (x := (0 : Int32)) rfl rfl (s_r1 (pc := 17) rw_43_17 (A := 0) rfl (by decide) (b_ieq_t (pc := 5) rw_46_5 (A := 0) rfl (by decide) (to_c (pc := 34) rw_46_34 (x := (0 : Int32)) rfl rfl (s_r1 (pc := 35) rw_46_35 (A := 0) rfl (by decide) (b_ine_f (pc := 6) rw_49_6 (A := 0) rfl (by decide) (s_cl (pc := 9) rw_49_9 rfl (fun l5 => to_rl (pc := 10) rw_49_10 ?_)))))))
      exact h l5 M hG F0 
    · refine to_c (pc := 12) rw_43_12 (x := (1 : Int32)) rfl rfl (to_go (pc := 13) rw_43_13 (s_r1 (pc := 17) rw_43_17 (A := 1) rfl (by decide) (b_ieq_f (pc := 5) rw_46_5 (A := 1) rfl (by decide) (to_an (pc := 8) rw_46_8 rfl (to_in (pc := 9) rw_46_9 rfl (s_v (pc := 10) rw_46_10 (dp1 hd (by decide)) (ls0 := [.ref p, .int f]) rfl (Nat.le_of_ble_eq_true rfl) (Nat.le_of_ble_eq_true rfl) rfl (to_rc rfl rfl rfl (g_o hG (by rcases hp with rfl | rfl <;> rfl))) rfl (to_an (pc := 0) rw_45_0 rfl (s_gR (pc := 1) rw_45_1 hG (by rcases hp with rfl | rfl <;> rfl) (v := (p + 2)) (by rcases hp with rfl | rfl <;> rfl) (to_in (pc := 4) rw_45_4 rfl (s_ial (pc := 5) rw_45_5 hG (by rcases hp with rfl | rfl <;> rfl) (n := 8) (by rcases hp with rfl | rfl <;> rfl) (by rcases hp with rfl | rfl <;> rfl) (A := f.toInt) rfl (by omega) (by omega) (lo := 0) (hi := 3) (by rcases hp with rfl | rfl <;> rfl) (by rcases hp with rfl | rfl <;> rfl) (fun v6 w_7 _ _ => to_c (pc := 6) rw_45_6 (x := (3 : Int32)) rfl rfl ?_)))))))))))
      refine b_cne (pc := 7) rw_45_7 (A := v6.toInt) (B := 3) rfl rfl (fun h8 => ?_) (fun h8 => ?_)
      · refine to_c (pc := 14) rw_45_14 (x := (0 : Int32)) rfl rfl (s_r1 (pc := 15) rw_45_15 (A := 0) rfl (by decide) (b_ine_f (pc := 13) rw_46_13 (A := 0) rfl (by decide) (to_in (pc := 16) rw_46_16 rfl (b_ilt (pc := 17) rw_46_17 (A := v.toInt) rfl (fun h9 => ?_) (fun h9 => ?_)))))
        · refine to_c (pc := 34) rw_46_34 (x := (0 : Int32)) rfl rfl (s_r1 (pc := 35) rw_46_35 (A := 0) rfl (by decide) (b_ine_f (pc := 6) rw_49_6 (A := 0) rfl (by decide) (s_cl (pc := 9) rw_49_9 rfl (fun l10 => to_rl (pc := 10) rw_49_10 ?_))))
          exact h l10 M hG F0 
        · refine to_in (pc := 20) rw_46_20 rfl (to_an (pc := 21) rw_46_21 rfl (s_gR (pc := 22) rw_46_22 hG (by rcases hp with rfl | rfl <;> rfl) (v := (p + 5)) (by rcases hp with rfl | rfl <;> rfl) (to_in (pc := 25) rw_46_25 rfl (s_ial (pc := 26) rw_46_26 hG (by rcases hp with rfl | rfl <;> rfl) (n := 8) (by rcases hp with rfl | rfl <;> rfl) (by rcases hp with rfl | rfl <;> rfl) (A := f.toInt) rfl (by omega) (by omega) (lo := 0) (hi := 24) (by rcases hp with rfl | rfl <;> rfl) (by rcases hp with rfl | rfl <;> rfl) (fun v11 w_12 _ _ => b_cge (pc := 27) rw_46_27 (A := v.toInt) (B := v11.toInt) rfl rfl (fun h13 => ?_) (fun h13 => ?_))))))
          · refine to_c (pc := 34) rw_46_34 (x := (0 : Int32)) rfl rfl (s_r1 (pc := 35) rw_46_35 (A := 0) rfl (by decide) (b_ine_f (pc := 6) rw_49_6 (A := 0) rfl (by decide) (s_cl (pc := 9) rw_49_9 rfl (fun l14 => to_rl (pc := 10) rw_49_10 ?_))))
            exact h l14 M hG F0 
          · refine to_c (pc := 30) rw_46_30 (x := (1 : Int32)) rfl rfl (to_go (pc := 31) rw_46_31 (s_r1 (pc := 35) rw_46_35 (A := 1) rfl (by decide) (b_ine_t (pc := 6) rw_49_6 (A := 1) rfl (by decide) (s_cl (pc := 11) rw_49_11 rfl (fun l15 => to_in (pc := 12) rw_49_12 rfl (s_anyS (pc := 13) rw_49_13 (fun _ _ => rfl) (fun l16 => to_lsn (pc := 14) rw_49_14 (ls2 := [.ref p, .int f, .int v, .long l16, .null]) rfl rfl (to_an (pc := 15) rw_49_15 rfl (s_gR (pc := 16) rw_49_16 hG (by rcases hp with rfl | rfl <;> rfl) (v := (p + 2)) (by rcases hp with rfl | rfl <;> rfl) (to_in (pc := 19) rw_49_19 rfl (s_ialk (pc := 20) rw_49_20 hG (by rcases hp with rfl | rfl <;> rfl) (n := 8) (by rcases hp with rfl | rfl <;> rfl) (by rcases hp with rfl | rfl <;> rfl) (A := f.toInt) rfl (by omega) (by omega) (v := v6) w_7 ?_)))))))))))
            refine to_c (pc := 21) rw_49_21 (x := (1 : Int32)) rfl rfl (b_cne (pc := 22) rw_49_22 (A := v6.toInt) (B := 1) rfl rfl (fun h19 => ?_) (fun h19 => ?_))
            · refine to_an (pc := 43) rw_49_43 rfl (s_gR (pc := 44) rw_49_44 hG (by rcases hp with rfl | rfl <;> rfl) (v := (p + 2)) (by rcases hp with rfl | rfl <;> rfl) (to_in (pc := 47) rw_49_47 rfl (s_ialk (pc := 48) rw_49_48 hG (by rcases hp with rfl | rfl <;> rfl) (n := 8) (by rcases hp with rfl | rfl <;> rfl) (by rcases hp with rfl | rfl <;> rfl) (A := f.toInt) rfl (by omega) (by omega) (v := v6) w_7 (to_c (pc := 49) rw_49_49 (x := (2 : Int32)) rfl rfl (b_cne (pc := 50) rw_49_50 (A := v6.toInt) (B := 2) rfl rfl (fun h22 => ?_) (fun h22 => ?_))))))
              · refine to_ln (pc := 68) rw_49_68 rfl rfl rfl (to_an (pc := 69) rw_49_69 rfl (s_gR (pc := 70) rw_49_70 hG (by rcases hp with rfl | rfl <;> rfl) (v := (p + 3)) (by rcases hp with rfl | rfl <;> rfl) (to_in (pc := 73) rw_49_73 rfl (s_ial (pc := 74) rw_49_74 hG (by rcases hp with rfl | rfl <;> rfl) (n := 8) (by rcases hp with rfl | rfl <;> rfl) (by rcases hp with rfl | rfl <;> rfl) (A := f.toInt) rfl (by omega) (by omega) (lo := 0) (hi := 59) (by rcases hp with rfl | rfl <;> rfl) (by rcases hp with rfl | rfl <;> rfl) (fun v23 w_24 _ _ => s_anyS (pc := 75) rw_49_75 (fun _ _ => rfl) (fun l25 => to_rl (pc := 76) rw_49_76 ?_))))))
                exact h l25 M hG F0 
              · refine to_in (pc := 53) rw_49_53 rfl (s_gs (pc := 54) rw_49_54 (s_xlen (pc := 57) rw_49_57 hX (e := 3) (n := 10) rfl (v := (10 : Int32)) rfl (b_cge (pc := 58) rw_49_58 (A := v.toInt) (B := 10) rfl rfl (fun h26 => ?_) (fun h26 => ?_))))
                · refine to_ln (pc := 68) rw_49_68 rfl rfl rfl (to_an (pc := 69) rw_49_69 rfl (s_gR (pc := 70) rw_49_70 hG (by rcases hp with rfl | rfl <;> rfl) (v := (p + 3)) (by rcases hp with rfl | rfl <;> rfl) (to_in (pc := 73) rw_49_73 rfl (s_ial (pc := 74) rw_49_74 hG (by rcases hp with rfl | rfl <;> rfl) (n := 8) (by rcases hp with rfl | rfl <;> rfl) (by rcases hp with rfl | rfl <;> rfl) (A := f.toInt) rfl (by omega) (by omega) (lo := 0) (hi := 59) (by rcases hp with rfl | rfl <;> rfl) (by rcases hp with rfl | rfl <;> rfl) (fun v27 w_28 _ _ => s_anyS (pc := 75) rw_49_75 (fun _ _ => rfl) (fun l29 => to_rl (pc := 76) rw_49_76 ?_))))))
                  exact h l29 M hG F0 
                · refine s_gs (pc := 61) rw_49_61 (to_in (pc := 64) rw_49_64 rfl (s_xal (pc := 65) rw_49_65 hX (e := 3) (n := 10) rfl (A := v.toInt) rfl (by omega) (by omega) (fun v30 => s_i2l (pc := 66) rw_49_66 (fun l31 e32 => to_lsn (pc := 67) rw_49_67 (ls2 := [.ref p, .int f, .int v, .long l31, .null]) rfl rfl (to_ln (pc := 68) rw_49_68 rfl rfl rfl (to_an (pc := 69) rw_49_69 rfl (s_gR (pc := 70) rw_49_70 hG (by rcases hp with rfl | rfl <;> rfl) (v := (p + 3)) (by rcases hp with rfl | rfl <;> rfl) (to_in (pc := 73) rw_49_73 rfl (s_ial (pc := 74) rw_49_74 hG (by rcases hp with rfl | rfl <;> rfl) (n := 8) (by rcases hp with rfl | rfl <;> rfl) (by rcases hp with rfl | rfl <;> rfl) (A := f.toInt) rfl (by omega) (by omega) (lo := 0) (hi := 59) (by rcases hp with rfl | rfl <;> rfl) (by rcases hp with rfl | rfl <;> rfl) (fun v33 w_34 _ _ => s_anyS (pc := 75) rw_49_75 (fun _ _ => rfl) (fun l35 => to_rl (pc := 76) rw_49_76 ?_)))))))))))
                  exact h l35 M hG F0 
            · refine to_in (pc := 25) rw_49_25 rfl (s_gs (pc := 26) rw_49_26 (s_xlen (pc := 29) rw_49_29 hX (e := 2) (n := 10) rfl (v := (10 : Int32)) rfl (b_cge (pc := 30) rw_49_30 (A := v.toInt) (B := 10) rfl rfl (fun h36 => ?_) (fun h36 => ?_))))
              · refine to_an (pc := 43) rw_49_43 rfl (s_gR (pc := 44) rw_49_44 hG (by rcases hp with rfl | rfl <;> rfl) (v := (p + 2)) (by rcases hp with rfl | rfl <;> rfl) (to_in (pc := 47) rw_49_47 rfl (s_ialk (pc := 48) rw_49_48 hG (by rcases hp with rfl | rfl <;> rfl) (n := 8) (by rcases hp with rfl | rfl <;> rfl) (by rcases hp with rfl | rfl <;> rfl) (A := f.toInt) rfl (by omega) (by omega) (v := v6) w_7 (to_c (pc := 49) rw_49_49 (x := (2 : Int32)) rfl rfl (b_cne_t (pc := 50) rw_49_50 (A := v6.toInt) (B := 2) rfl rfl (by omega) (to_ln (pc := 68) rw_49_68 rfl rfl rfl (to_an (pc := 69) rw_49_69 rfl (s_gR (pc := 70) rw_49_70 hG (by rcases hp with rfl | rfl <;> rfl) (v := (p + 3)) (by rcases hp with rfl | rfl <;> rfl) (to_in (pc := 73) rw_49_73 rfl (s_ial (pc := 74) rw_49_74 hG (by rcases hp with rfl | rfl <;> rfl) (n := 8) (by rcases hp with rfl | rfl <;> rfl) (by rcases hp with rfl | rfl <;> rfl) (A := f.toInt) rfl (by omega) (by omega) (lo := 0) (hi := 59) (by rcases hp with rfl | rfl <;> rfl) (by rcases hp with rfl | rfl <;> rfl) (fun v39 w_40 _ _ => s_anyS (pc := 75) rw_49_75 (fun _ _ => rfl) (fun l41 => ?_))))))))))))
                refine to_rl (pc := 76) rw_49_76 ?_
                exact h l41 M hG F0 
              · refine s_gs (pc := 33) rw_49_33 (to_in (pc := 36) rw_49_36 rfl (s_xal (pc := 37) rw_49_37 hX (e := 2) (n := 10) rfl (A := v.toInt) rfl (by omega) (by omega) (fun v42 => s_i2l (pc := 38) rw_49_38 (fun l43 e44 => to_lsn (pc := 39) rw_49_39 (ls2 := [.ref p, .int f, .int v, .long l43, .null]) rfl rfl (to_go (pc := 40) rw_49_40 (to_ln (pc := 68) rw_49_68 rfl rfl rfl (to_an (pc := 69) rw_49_69 rfl (s_gR (pc := 70) rw_49_70 hG (by rcases hp with rfl | rfl <;> rfl) (v := (p + 3)) (by rcases hp with rfl | rfl <;> rfl) (to_in (pc := 73) rw_49_73 rfl (s_ial (pc := 74) rw_49_74 hG (by rcases hp with rfl | rfl <;> rfl) (n := 8) (by rcases hp with rfl | rfl <;> rfl) (by rcases hp with rfl | rfl <;> rfl) (A := f.toInt) rfl (by omega) (by omega) (lo := 0) (hi := 59) (by rcases hp with rfl | rfl <;> rfl) (by rcases hp with rfl | rfl <;> rfl) (fun v45 w_46 _ _ => s_anyS (pc := 75) rw_49_75 (fun _ _ => rfl) (fun l47 => ?_))))))))))))
                refine to_rl (pc := 76) rw_49_76 ?_
                exact h l47 M hG F0 
      · refine to_c (pc := 10) rw_45_10 (x := (1 : Int32)) rfl rfl (to_go (pc := 11) rw_45_11 (s_r1 (pc := 15) rw_45_15 (A := 1) rfl (by decide) (b_ine_t (pc := 13) rw_46_13 (A := 1) rfl (by decide) (to_c (pc := 34) rw_46_34 (x := (0 : Int32)) rfl rfl (s_r1 (pc := 35) rw_46_35 (A := 0) rfl (by decide) (b_ine_f (pc := 6) rw_49_6 (A := 0) rfl (by decide) (s_cl (pc := 9) rw_49_9 rfl (fun l48 => to_rl (pc := 10) rw_49_10 ?_))))))))
        exact h l48 M hG F0 
set_option maxRecDepth 4000 in
set_option maxHeartbeats 0 in
theorem C_50 {X : mm_X} {d : Nat} {M : mm_M} {Q : Option Value → mm_M → Prop} {p : Nat} {w : Int32} {b : Int32} (hX : g_X X) (hd : 1 ≤ d) (hG : g_G M) (hp : p = 49 ∨ p = 58) (q1 : 0 ≤ w.toInt) (q2 : w.toInt ≤ 11) (h : ∀ (r : Int32) (M1 : mm_M), g_G M1 → FR md_0 M M1 → (0 ≤ r.toInt) → (r.toInt ≤ 1) → Q (some (.int r)) M1) : mm_T X d 50 0 [.ref p, .int w, .int b, .null] [] M Q := by
  have F0 : FR md_0 M M := FR.rf
  refine to_an (pc := 0) rw_50_0 rfl (s_gR (pc := 1) rw_50_1 hG (by rcases hp with rfl | rfl <;> rfl) (v := (p + 7)) (by rcases hp with rfl | rfl <;> rfl) (to_in (pc := 4) rw_50_4 rfl (s_ial (pc := 5) rw_50_5 hG (by rcases hp with rfl | rfl <;> rfl) (n := 12) (by rcases hp with rfl | rfl <;> rfl) (by rcases hp with rfl | rfl <;> rfl) (A := w.toInt) rfl (by omega) (by omega) (lo := 0) (hi := 7) (by rcases hp with rfl | rfl <;> rfl) (by rcases hp with rfl | rfl <;> rfl) (fun v1 w_2 _ _ => to_isn (pc := 6) rw_50_6 (ls2 := [.ref p, .int w, .int b, .int v1]) rfl rfl (to_in (pc := 7) rw_50_7 rfl (b_ilt (pc := 8) rw_50_8 (A := b.toInt) rfl (fun h3 => ?_) (fun h3 => ?_)))))))
  · refine to_c (pc := 38) rw_50_38 (x := (0 : Int32)) rfl rfl (s_r1 (pc := 39) rw_50_39 (A := 0) rfl (by decide) ?_)
    have k_4 : (0 : Int32).toInt = 0 := rfl
    exact h (0 : Int32) M hG F0 (by decide) (by decide)
  · refine to_in (pc := 11) rw_50_11 rfl (to_an (pc := 12) rw_50_12 rfl (to_in (pc := 13) rw_50_13 rfl (s_v (pc := 14) rw_50_14 (dp0 hd (by decide)) (ls0 := [.ref p, .int v1]) rfl (Nat.le_of_ble_eq_true rfl) (Nat.le_of_ble_eq_true rfl) rfl (to_rc rfl rfl rfl (g_o hG (by rcases hp with rfl | rfl <;> rfl))) rfl (to_an (pc := 0) rw_47_0 rfl (s_gR (pc := 1) rw_47_1 hG (by rcases hp with rfl | rfl <;> rfl) (v := (p + 4)) (by rcases hp with rfl | rfl <;> rfl) (to_in (pc := 4) rw_47_4 rfl (s_ial (pc := 5) rw_47_5 hG (by rcases hp with rfl | rfl <;> rfl) (n := 8) (by rcases hp with rfl | rfl <;> rfl) (by rcases hp with rfl | rfl <;> rfl) (A := v1.toInt) rfl (by omega) (by omega) (lo := 0) (hi := 63) (by rcases hp with rfl | rfl <;> rfl) (by rcases hp with rfl | rfl <;> rfl) (fun v5 w_6 _ _ => to_an (pc := 6) rw_47_6 rfl (s_gR (pc := 7) rw_47_7 hG (by rcases hp with rfl | rfl <;> rfl) (v := (p + 3)) (by rcases hp with rfl | rfl <;> rfl) (to_in (pc := 10) rw_47_10 rfl (s_ial (pc := 11) rw_47_11 hG (by rcases hp with rfl | rfl <;> rfl) (n := 8) (by rcases hp with rfl | rfl <;> rfl) (by rcases hp with rfl | rfl <;> rfl) (A := v1.toInt) rfl (by omega) (by omega) (lo := 0) (hi := 59) (by rcases hp with rfl | rfl <;> rfl) (by rcases hp with rfl | rfl <;> rfl) (fun v7 w_8 _ _ => ?_))))))))))))
    refine s_sub (pc := 12) rw_47_12 (A := v5.toInt) (B := v7.toInt) rfl rfl (by omega) (fun v9 e10 => to_c (pc := 13) rw_47_13 (x := (1 : Int32)) rfl rfl (s_add (pc := 14) rw_47_14 (A := v9.toInt) (B := 1) rfl rfl (by omega) (fun v11 e12 => to_r0 (pc := 15) rw_47_15 (s_shr (pc := 17) rw_50_17 (A := b.toInt) rfl (by omega) (fun v13 _ _ => b_ine (pc := 18) rw_50_18 (A := v13.toInt) rfl (fun h14 => ?_) (fun h14 => ?_))))))
    · refine to_c (pc := 38) rw_50_38 (x := (0 : Int32)) rfl rfl (s_r1 (pc := 39) rw_50_39 (A := 0) rfl (by decide) ?_)
      have k_15 : (0 : Int32).toInt = 0 := rfl
      exact h (0 : Int32) M hG F0 (by decide) (by decide)
    · refine to_in (pc := 21) rw_50_21 rfl (s_s (pc := 22) rw_50_22 (dp0 hd (by decide)) (ls0 := [.int b]) rfl (Nat.le_of_ble_eq_true rfl) (Nat.le_of_ble_eq_true rfl) rfl (to_rcs rfl rfl) rfl (C_247 hX (dp1 hd (by decide)) hG (x := b) (fun r16 M19 hG18 F17 => ?_)))
      have F20 := FR.c F0 F17 tg_29
      refine to_an (pc := 25) rw_50_25 rfl (s_gR (pc := 26) rw_50_26 hG18 (by rcases hp with rfl | rfl <;> rfl) (v := (p + 5)) (by rcases hp with rfl | rfl <;> rfl) (to_in (pc := 29) rw_50_29 rfl (s_ial (pc := 30) rw_50_30 hG18 (by rcases hp with rfl | rfl <;> rfl) (n := 8) (by rcases hp with rfl | rfl <;> rfl) (by rcases hp with rfl | rfl <;> rfl) (A := v1.toInt) rfl (by omega) (by omega) (lo := 0) (hi := 24) (by rcases hp with rfl | rfl <;> rfl) (by rcases hp with rfl | rfl <;> rfl) (fun v21 w_22 _ _ => b_cne (pc := 31) rw_50_31 (A := r16.toInt) (B := v21.toInt) rfl rfl (fun h23 => ?_) (fun h23 => ?_)))))
      · refine to_c (pc := 38) rw_50_38 (x := (0 : Int32)) rfl rfl (s_r1 (pc := 39) rw_50_39 (A := 0) rfl (by decide) ?_)
        have k_24 : (0 : Int32).toInt = 0 := rfl
        exact h (0 : Int32) M19 hG18 F20 (by decide) (by decide)
      · refine to_c (pc := 34) rw_50_34 (x := (1 : Int32)) rfl rfl (to_go (pc := 35) rw_50_35 (s_r1 (pc := 39) rw_50_39 (A := 1) rfl (by decide) ?_))
        have k_25 : (1 : Int32).toInt = 1 := rfl
        exact h (1 : Int32) M19 hG18 F20 (by decide) (by decide)
set_option maxRecDepth 4000 in
set_option maxHeartbeats 0 in
theorem T_51_0 {X : mm_X} {d : Nat} {M : mm_M} {Q : Option Value → mm_M → Prop} {p : Nat} {f : Int32} (hX : g_X X) (hd : 0 ≤ d) (hp : p = 49 ∨ p = 58) (h : ∀ (r : Int32) (M1 : mm_M), g_G M1 → FR md_0 M M1 → Q (some (.int r)) M1) : ∀ nn9 : Nat, (∀ (N : mm_M) (x2 : Int32) (x3 : Int32), g_G N → FR md_0 M N → (0 ≤ x3.toInt) → (x3.toInt ≤ 12) → 12 - x3.toInt < (nn9 : Int) → mm_T X d 51 4 [.ref p, .int f, .int x2, .int x3] [] N Q) := by
  intro nn9
  induction nn9 with
  | zero =>
    intro N x2 x3 hG F0 g1 g2 hm
    exfalso; omega
  | succ nn9 ih =>
    intro N x2 x3 hG F0 g1 g2 hm
    refine to_in (pc := 4) rw_51_4 rfl (to_an (pc := 5) rw_51_5 rfl ?_)
    have b_1 := g_b hG (a := p) (i := 3) (lo := 0) (hi := 12) (by rcases hp with rfl | rfl <;> rfl) (by rcases hp with rfl | rfl <;> rfl)
    refine tt_gI (pc := 6) rw_51_6 (g_o hG (by rcases hp with rfl | rfl <;> rfl)) (v := (N.2.1 p 3)) rfl (b_cge (pc := 9) rw_51_9 (A := x3.toInt) (B := (N.2.1 p 3).toInt) rfl rfl (fun h2 => ?_) (fun h2 => ?_))
    · refine to_in (pc := 34) rw_51_34 rfl (to_r0 (pc := 35) rw_51_35 ?_)
      exact h x2 N hG F0 
    · refine to_an (pc := 12) rw_51_12 rfl (s_gR (pc := 13) rw_51_13 hG (by rcases hp with rfl | rfl <;> rfl) (v := (p + 7)) (by rcases hp with rfl | rfl <;> rfl) (to_in (pc := 16) rw_51_16 rfl (s_ial (pc := 17) rw_51_17 hG (by rcases hp with rfl | rfl <;> rfl) (n := 12) (by rcases hp with rfl | rfl <;> rfl) (by rcases hp with rfl | rfl <;> rfl) (A := x3.toInt) rfl (by omega) (by omega) (lo := 0) (hi := 7) (by rcases hp with rfl | rfl <;> rfl) (by rcases hp with rfl | rfl <;> rfl) (fun v3 w_4 _ _ => to_in (pc := 18) rw_51_18 rfl (b_cne (pc := 19) rw_51_19 (A := v3.toInt) (B := f.toInt) rfl rfl (fun h5 => ?_) (fun h5 => ?_))))))
      · refine s_inc (pc := 28) rw_51_28 (ls2 := fun v => [.ref p, .int f, .int x2, .int v]) rfl rfl (fun _ => rfl) (A := x3.toInt) (B := 1) rfl rfl (by omega) (fun v6 e7 => to_go (pc := 31) rw_51_31 ?_)
        exact ih N x2 v6 hG F0 (by omega) (by omega) (by omega)
      · refine to_in (pc := 22) rw_51_22 rfl (to_c (pc := 23) rw_51_23 (x := (1 : Int32)) rfl rfl (to_in (pc := 24) rw_51_24 rfl (s_any (pc := 25) rw_51_25 (fun _ _ => rfl) (fun v8 => s_any (pc := 26) rw_51_26 (fun _ _ => rfl) (fun v9 => to_isn (pc := 27) rw_51_27 (ls2 := [.ref p, .int f, .int v9, .int x3]) rfl rfl (s_inc (pc := 28) rw_51_28 (ls2 := fun v => [.ref p, .int f, .int v9, .int v]) rfl rfl (fun _ => rfl) (A := x3.toInt) (B := 1) rfl rfl (by omega) (fun v10 e11 => to_go (pc := 31) rw_51_31 ?_)))))))
        exact ih N v9 v10 hG F0 (by omega) (by omega) (by omega)
set_option maxRecDepth 4000 in
set_option maxHeartbeats 0 in
theorem C_51 {X : mm_X} {d : Nat} {M : mm_M} {Q : Option Value → mm_M → Prop} {p : Nat} {f : Int32} (hX : g_X X) (hd : 0 ≤ d) (hG : g_G M) (hp : p = 49 ∨ p = 58) (h : ∀ (r : Int32) (M1 : mm_M), g_G M1 → FR md_0 M M1 → Q (some (.int r)) M1) : mm_T X d 51 0 [.ref p, .int f, .null, .null] [] M Q := by
  have F0 : FR md_0 M M := FR.rf
  refine to_c (pc := 0) rw_51_0 (x := (0 : Int32)) rfl rfl (to_isn (pc := 1) rw_51_1 (ls2 := [.ref p, .int f, .int (0 : Int32), .null]) rfl rfl (to_c (pc := 2) rw_51_2 (x := (0 : Int32)) rfl rfl (to_isn (pc := 3) rw_51_3 (ls2 := [.ref p, .int f, .int (0 : Int32), .int (0 : Int32)]) rfl rfl ?_)))
  have k_12 : (0 : Int32).toInt = 0 := rfl
  exact (T_51_0 (p := p) (f := f) hX hd hp h ((12 - (0 : Int32).toInt).toNat + 1)) M (0 : Int32) (0 : Int32) hG F0 (by omega) (by omega) (by omega)
end
section
theorem tg_122 {M M1 : mm_M} (F : FR (fun a i : Nat => 11 ≤ a ∧ a ≤ 16) M M1) : ∀ a i : Nat, (7 ≤ a ∧ a ≤ 9) → M1.2.1 a i = M.2.1 a i := fun a i z => F_n F (show ¬ (11 ≤ a ∧ a ≤ 16) by omega) rfl
theorem tg_123 : ∀ a i : Nat, (a < 0) → (11 ≤ a ∧ a ≤ 16) := fun a i z => by omega
theorem tg_124 : ∀ a i : Nat, (11 ≤ a ∧ a ≤ 16) → (11 ≤ a ∧ a ≤ 16) := fun a i z => by omega
theorem tg_125 : ∀ a i : Nat, (a < 0) → (18 ≤ a ∧ a ≤ 27) := fun a i z => by omega
theorem tg_126 : ∀ a i : Nat, (18 ≤ a ∧ a ≤ 27) → (18 ≤ a ∧ a ≤ 27) := fun a i z => by omega
set_option maxRecDepth 4000 in
set_option maxHeartbeats 0 in
theorem C_20 {X : mm_X} {d : Nat} {M : mm_M} {Q : Option Value → mm_M → Prop} {k : Int32} {f : Int32} {s : Int32} {t : Int32} (hX : g_X X) (hd : 0 ≤ d) (hG : g_G M) (q1 : 0 ≤ k.toInt) (q2 : k.toInt ≤ 5) (q3 : 0 ≤ f.toInt) (q4 : f.toInt ≤ 149) (q5 : (k.toInt = 0 → f.toInt ≤ 29 ∧ 0 ≤ s.toInt ∧ s.toInt ≤ 7) ∧ (k.toInt = 1 → f.toInt ≤ 29 ∧ 0 ≤ s.toInt ∧ s.toInt ≤ 11) ∧ (k.toInt = 2 → f.toInt ≤ 29) ∧ (k.toInt = 3 → f.toInt ≤ 29) ∧ (k.toInt = 4 → f.toInt ≤ 11)) (q6 : NI M) (h : ∀ (r : Int32) (M1 : mm_M), g_G M1 → FR md_n M M1 → (150 ≤ (M.2.1 6 0).toInt → r.toInt = -1 ∧ (M1.2.1 6 0).toInt = (M.2.1 6 0).toInt) → ((M.2.1 6 0).toInt < 150 → r.toInt = (M.2.1 6 0).toInt ∧ (M1.2.1 6 0).toInt = (M.2.1 6 0).toInt + 1) → NI M1 → Q (some (.int r)) M1) : mm_T X d 20 0 [.ref 6, .int k, .int f, .int s, .int t] [] M Q := by
  have F0 : FR md_n M M := FR.rf
  refine to_an (pc := 0) rw_20_0 rfl ?_
  have b_1 := g_b hG (a := 6) (i := 0) (lo := 0) (hi := 150) rfl rfl
  refine tt_gI (pc := 1) rw_20_1 (g_o hG rfl) (v := (M.2.1 6 0)) rfl (to_c (pc := 4) rw_20_4 (x := (150 : Int32)) rfl rfl (b_clt (pc := 7) rw_20_7 (A := (M.2.1 6 0).toInt) (B := 150) rfl rfl (fun h2 => ?_) (fun h2 => ?_)))
  · refine to_an (pc := 12) rw_20_12 rfl (s_gR (pc := 13) rw_20_13 hG rfl (v := 7) rfl (to_an (pc := 16) rw_20_16 rfl (tt_gI (pc := 17) rw_20_17 (g_o hG rfl) (v := (M.2.1 6 0)) rfl (to_in (pc := 20) rw_20_20 rfl (s_ias (pc := 21) rw_20_21 hG rfl (n := 150) rfl (A := (M.2.1 6 0).toInt) rfl (by omega) (by omega) (fun M4 W3 => ?_))))))
    have hG5 := g_w hG W3 (A := k.toInt) rfl (lo := 0) (hi := 5) rfl rfl (by omega) (by decide)
    have F6 := FR.w F0 W3 (show 6 ≤ 7 ∧ 7 ≤ 10 by decide)
    refine to_an (pc := 22) rw_20_22 rfl (s_gR (pc := 23) rw_20_23 hG5 rfl (v := 8) rfl (to_an (pc := 26) rw_20_26 rfl ?_))
    have c_7 : M4.2.1 6 0 = (M.2.1 6 0) := (W_n W3 (fun z => absurd z.1 (by decide)) rfl)
    refine tt_gI (pc := 27) rw_20_27 (g_o hG5 rfl) (v := (M.2.1 6 0)) c_7 (to_in (pc := 30) rw_20_30 rfl (s_ias (pc := 31) rw_20_31 hG5 rfl (n := 150) rfl (A := (M.2.1 6 0).toInt) rfl (by omega) (by omega) (fun M9 W8 => ?_)))
    have hG10 := g_w hG5 W8 (A := f.toInt) rfl (lo := 0) (hi := 149) rfl rfl (by omega) (by decide)
    have F11 := FR.w F6 W8 (show 6 ≤ 8 ∧ 8 ≤ 10 by decide)
    refine to_an (pc := 32) rw_20_32 rfl (s_gR (pc := 33) rw_20_33 hG10 rfl (v := 9) rfl (to_an (pc := 36) rw_20_36 rfl ?_))
    have c_12 : M9.2.1 6 0 = (M.2.1 6 0) := (W_n W8 (fun z => absurd z.1 (by decide)) c_7)
    refine tt_gI (pc := 37) rw_20_37 (g_o hG10 rfl) (v := (M.2.1 6 0)) c_12 (to_in (pc := 40) rw_20_40 rfl (s_ias (pc := 41) rw_20_41 hG10 rfl (n := 150) rfl (A := (M.2.1 6 0).toInt) rfl (by omega) (by omega) (fun M14 W13 => ?_)))
    have hG15 := g_wf hG10 W13 rfl rfl (by decide)
    have F16 := FR.w F11 W13 (show 6 ≤ 9 ∧ 9 ≤ 10 by decide)
    have j_17 := NI_k q6 W3 W8 W13 q5
    refine to_an (pc := 42) rw_20_42 rfl (s_gR (pc := 43) rw_20_43 hG15 rfl (v := 10) rfl (to_an (pc := 46) rw_20_46 rfl ?_))
    have c_18 : M14.2.1 6 0 = (M.2.1 6 0) := (W_n W13 (fun z => absurd z.1 (by decide)) c_12)
    refine tt_gI (pc := 47) rw_20_47 (g_o hG15 rfl) (v := (M.2.1 6 0)) c_18 (to_i (pc := 50) rw_20_50 rfl (s_ias (pc := 52) rw_20_52 hG15 rfl (n := 150) rfl (A := (M.2.1 6 0).toInt) rfl (by omega) (by omega) (fun M20 W19 => ?_)))
    have hG21 := g_wf hG15 W19 rfl rfl (by decide)
    have F22 := FR.w F16 W19 (show 6 ≤ 10 ∧ 10 ≤ 10 by decide)
    refine to_an (pc := 53) rw_20_53 rfl (to_dupr (pc := 54) rw_20_54 ?_)
    have c_23 : M20.2.1 6 0 = (M.2.1 6 0) := (W_n W19 (fun z => absurd z.1 (by decide)) c_18)
    refine tt_gI (pc := 55) rw_20_55 (g_o hG21 rfl) (v := (M.2.1 6 0)) c_23 (to_c (pc := 58) rw_20_58 (x := (1 : Int32)) rfl rfl (s_add (pc := 59) rw_20_59 (A := (M.2.1 6 0).toInt) (B := 1) rfl rfl (by omega) (fun v24 e25 => s_pI (pc := 60) rw_20_60 hG21 rfl (fun M27 W26 => ?_))))
    have hG28 := g_w hG21 W26 (A := v24.toInt) rfl (lo := 0) (hi := 150) rfl rfl (by omega) (by decide)
    have F29 := FR.w F22 W26 (show 6 ≤ 6 ∧ 6 ≤ 10 by decide)
    refine to_an (pc := 63) rw_20_63 rfl ?_
    have c_30 : M27.2.1 6 0 = v24 := (W_e W26)
    refine tt_gI (pc := 64) rw_20_64 (g_o hG28 rfl) (v := v24) c_30 (to_c (pc := 67) rw_20_67 (x := (1 : Int32)) rfl rfl (s_sub (pc := 68) rw_20_68 (A := v24.toInt) (B := 1) rfl rfl (by omega) (fun v31 e32 => to_r0 (pc := 69) rw_20_69 ?_)))
    have t_33 : (M27.2.1 6 0).toInt = v24.toInt := congrArg Int32.toInt c_30
    have j_34 := (NI_f (fun a i z => W_n W26 (tg_107 a i z) rfl) (NI_f (fun a i z => W_n W19 (tg_108 a i _ z) rfl) j_17))
    exact h v31 M27 hG28 F29 (by omega) (by omega) j_34
  · refine to_c (pc := 10) rw_20_10 (x := (-1 : Int32)) rfl rfl (to_r0 (pc := 11) rw_20_11 ?_)
    have k_35 : (-1 : Int32).toInt = -1 := rfl
    exact h (-1 : Int32) M hG F0 (by omega) (by omega) q6
set_option maxRecDepth 4000 in
set_option maxHeartbeats 0 in
theorem T_9_0 {X : mm_X} {d : Nat} {M : mm_M} {Q : Option Value → mm_M → Prop} {p : Nat} (hX : g_X X) (hd : 0 ≤ d) (hp : p = 49 ∨ p = 58) (h : ∀ (M1 : mm_M), g_G M1 → FR md_k M M1 → Q (none) M1) : ∀ nn9 : Nat, (∀ (N : mm_M) (x2 : Int32), g_G N → FR md_k M N → (0 ≤ x2.toInt) → (x2.toInt ≤ 12) → 12 - x2.toInt < (nn9 : Int) → mm_T X d 9 54 [.ref 11, .ref p, .int x2] [] N Q) := by
  intro nn9
  induction nn9 with
  | zero =>
    intro N x2 hG F0 g1 g2 hm
    exfalso; omega
  | succ nn9 ih =>
    intro N x2 hG F0 g1 g2 hm
    refine to_in (pc := 54) rw_9_54 rfl (to_c (pc := 55) rw_9_55 (x := (12 : Int32)) rfl rfl (b_cge (pc := 57) rw_9_57 (A := x2.toInt) (B := 12) rfl rfl (fun h1 => ?_) (fun h1 => ?_)))
    · refine to_rv (pc := 78) rw_9_78 ?_
      exact h N hG F0 
    · refine to_an (pc := 60) rw_9_60 rfl (s_gR (pc := 61) rw_9_61 hG rfl (v := 15) rfl (to_in (pc := 64) rw_9_64 rfl (to_an (pc := 65) rw_9_65 rfl (s_gR (pc := 66) rw_9_66 hG (by rcases hp with rfl | rfl <;> rfl) (v := (p + 8)) (by rcases hp with rfl | rfl <;> rfl) (to_in (pc := 69) rw_9_69 rfl (s_lal (pc := 70) rw_9_70 hG (by rcases hp with rfl | rfl <;> rfl) (n := 12) (by rcases hp with rfl | rfl <;> rfl) (A := x2.toInt) rfl (by omega) (by omega) (fun l2 => s_las (pc := 71) rw_9_71 hG rfl (n := 12) rfl (A := x2.toInt) rfl (by omega) (by omega) (fun M4 W3 => ?_))))))))
      have hG5 := g_wl hG W3
      have F6 := FR.wl F0 W3 (show 11 ≤ 15 ∧ 15 ≤ 16 by decide)
      refine s_inc (pc := 72) rw_9_72 (ls2 := fun v => [.ref 11, .ref p, .int v]) rfl rfl (fun _ => rfl) (A := x2.toInt) (B := 1) rfl rfl (by omega) (fun v7 e8 => to_go (pc := 75) rw_9_75 ?_)
      exact ih M4 v7 hG5 F6 (by omega) (by omega) (by omega)
set_option maxRecDepth 4000 in
set_option maxHeartbeats 0 in
theorem T_9_1 {X : mm_X} {d : Nat} {M : mm_M} {Q : Option Value → mm_M → Prop} {p : Nat} (hX : g_X X) (hd : 0 ≤ d) (hp : p = 49 ∨ p = 58) (h : ∀ (M1 : mm_M), g_G M1 → FR md_k M M1 → Q (none) M1) : ∀ nn9 : Nat, (∀ (N : mm_M) (x2 : Int32), g_G N → FR md_k M N → (0 ≤ x2.toInt) → (x2.toInt ≤ 240) → 240 - x2.toInt < (nn9 : Int) → mm_T X d 9 30 [.ref 11, .ref p, .int x2] [] N Q) := by
  intro nn9
  induction nn9 with
  | zero =>
    intro N x2 hG F0 g1 g2 hm
    exfalso; omega
  | succ nn9 ih =>
    intro N x2 hG F0 g1 g2 hm
    refine to_in (pc := 30) rw_9_30 rfl (to_an (pc := 31) rw_9_31 rfl (s_gR (pc := 32) rw_9_32 hG rfl (v := 14) rfl (s_len (pc := 35) rw_9_35 hG rfl rfl (n := 240) rfl (v := (240 : Int32)) rfl (b_cge (pc := 36) rw_9_36 (A := x2.toInt) (B := 240) rfl rfl (fun h9 => ?_) (fun h9 => ?_)))))
    · refine to_c (pc := 52) rw_9_52 (x := (0 : Int32)) rfl rfl (to_isn (pc := 53) rw_9_53 (ls2 := [.ref 11, .ref p, .int (0 : Int32)]) rfl rfl ?_)
      have k_10 : (0 : Int32).toInt = 0 := rfl
      exact (T_9_0 (p := p) hX hd hp h ((12 - (0 : Int32).toInt).toNat + 1)) N (0 : Int32) hG F0 (by omega) (by omega) (by omega)
    · refine to_an (pc := 39) rw_9_39 rfl (s_gR (pc := 40) rw_9_40 hG rfl (v := 14) rfl (to_in (pc := 43) rw_9_43 rfl (to_c (pc := 44) rw_9_44 (x := (-1 : Int32)) rfl rfl (s_ias (pc := 45) rw_9_45 hG rfl (n := 240) rfl (A := x2.toInt) rfl (by omega) (by omega) (fun M12 W11 => ?_)))))
      have hG13 := g_wf hG W11 rfl rfl (by decide)
      have F14 := FR.w F0 W11 (show 11 ≤ 14 ∧ 14 ≤ 16 by decide)
      refine s_inc (pc := 46) rw_9_46 (ls2 := fun v => [.ref 11, .ref p, .int v]) rfl rfl (fun _ => rfl) (A := x2.toInt) (B := 1) rfl rfl (by omega) (fun v15 e16 => to_go (pc := 49) rw_9_49 ?_)
      exact ih M12 v15 hG13 F14 (by omega) (by omega) (by omega)
set_option maxRecDepth 4000 in
set_option maxHeartbeats 0 in
theorem T_9_2 {X : mm_X} {d : Nat} {M : mm_M} {Q : Option Value → mm_M → Prop} {p : Nat} (hX : g_X X) (hd : 0 ≤ d) (hp : p = 49 ∨ p = 58) (h : ∀ (M1 : mm_M), g_G M1 → FR md_k M M1 → Q (none) M1) : ∀ nn9 : Nat, (∀ (N : mm_M) (x2 : Int32), g_G N → FR md_k M N → (0 ≤ x2.toInt) → (x2.toInt ≤ 30) → 30 - x2.toInt < (nn9 : Int) → mm_T X d 9 2 [.ref 11, .ref p, .int x2] [] N Q) := by
  intro nn9
  induction nn9 with
  | zero =>
    intro N x2 hG F0 g1 g2 hm
    exfalso; omega
  | succ nn9 ih =>
    intro N x2 hG F0 g1 g2 hm
    refine to_in (pc := 2) rw_9_2 rfl (to_c (pc := 3) rw_9_3 (x := (30 : Int32)) rfl rfl (b_cge (pc := 5) rw_9_5 (A := x2.toInt) (B := 30) rfl rfl (fun h17 => ?_) (fun h17 => ?_)))
    · refine to_c (pc := 28) rw_9_28 (x := (0 : Int32)) rfl rfl (to_isn (pc := 29) rw_9_29 (ls2 := [.ref 11, .ref p, .int (0 : Int32)]) rfl rfl ?_)
      have k_18 : (0 : Int32).toInt = 0 := rfl
      exact (T_9_1 (p := p) hX hd hp h ((240 - (0 : Int32).toInt).toNat + 1)) N (0 : Int32) hG F0 (by omega) (by omega) (by omega)
    · refine to_an (pc := 8) rw_9_8 rfl (s_gR (pc := 9) rw_9_9 hG rfl (v := 12) rfl (to_in (pc := 12) rw_9_12 rfl (s_cl (pc := 13) rw_9_13 rfl (fun l19 => s_las (pc := 14) rw_9_14 hG rfl (n := 30) rfl (A := x2.toInt) rfl (by omega) (by omega) (fun M21 W20 => ?_)))))
      have hG22 := g_wl hG W20
      have F23 := FR.wl F0 W20 (show 11 ≤ 12 ∧ 12 ≤ 16 by decide)
      refine to_an (pc := 15) rw_9_15 rfl (s_gR (pc := 16) rw_9_16 hG22 rfl (v := 13) rfl (to_in (pc := 19) rw_9_19 rfl (to_c (pc := 20) rw_9_20 (x := (0 : Int32)) rfl rfl (s_ias (pc := 21) rw_9_21 hG22 rfl (n := 30) rfl (A := x2.toInt) rfl (by omega) (by omega) (fun M25 W24 => ?_)))))
      have hG26 := g_wf hG22 W24 rfl rfl (by decide)
      have F27 := FR.w F23 W24 (show 11 ≤ 13 ∧ 13 ≤ 16 by decide)
      refine s_inc (pc := 22) rw_9_22 (ls2 := fun v => [.ref 11, .ref p, .int v]) rfl rfl (fun _ => rfl) (A := x2.toInt) (B := 1) rfl rfl (by omega) (fun v28 e29 => to_go (pc := 25) rw_9_25 ?_)
      exact ih M25 v28 hG26 F27 (by omega) (by omega) (by omega)
set_option maxRecDepth 4000 in
set_option maxHeartbeats 0 in
theorem C_9 {X : mm_X} {d : Nat} {M : mm_M} {Q : Option Value → mm_M → Prop} {p : Nat} (hX : g_X X) (hd : 0 ≤ d) (hG : g_G M) (hp : p = 49 ∨ p = 58) (h : ∀ (M1 : mm_M), g_G M1 → FR md_k M M1 → Q (none) M1) : mm_T X d 9 0 [.ref 11, .ref p, .null] [] M Q := by
  have F0 : FR md_k M M := FR.rf
  refine to_c (pc := 0) rw_9_0 (x := (0 : Int32)) rfl rfl (to_isn (pc := 1) rw_9_1 (ls2 := [.ref 11, .ref p, .int (0 : Int32)]) rfl rfl ?_)
  have k_30 : (0 : Int32).toInt = 0 := rfl
  exact (T_9_2 (p := p) hX hd hp h ((30 - (0 : Int32).toInt).toNat + 1)) M (0 : Int32) hG F0 (by omega) (by omega) (by omega)
set_option maxRecDepth 4000 in
set_option maxHeartbeats 0 in
theorem T_10_0 {X : mm_X} {d : Nat} {M : mm_M} {Q : Option Value → mm_M → Prop} {n : Int32} (hX : g_X X) (hd : 0 ≤ d) (q1 : 0 ≤ n.toInt) (q2 : n.toInt ≤ 150) (h : ∀ (M1 : mm_M), g_G M1 → FR md_k M M1 → Q (none) M1) : ∀ nn9 : Nat, (∀ (N : mm_M) (u2 : Value) (u3 : Value) (x4 : Int32), g_G N → FR md_k M N → (-1 ≤ x4.toInt) → (x4.toInt ≤ 149) → x4.toInt + 1 < (nn9 : Int) → mm_T X d 10 36 [.ref 11, .ref 6, u2, u3, .int x4] [] N Q) := by
  intro nn9
  induction nn9 with
  | zero =>
    intro N u2 u3 x4 hG F0 g1 g2 hm
    exfalso; omega
  | succ nn9 ih =>
    intro N u2 u3 x4 hG F0 g1 g2 hm
    refine to_i (pc := 36) rw_10_36 rfl (b_ilt (pc := 38) rw_10_38 (A := x4.toInt) rfl (fun h1 => ?_) (fun h1 => ?_))
    · refine to_rv (pc := 81) rw_10_81 ?_
      exact h N hG F0 
    · refine to_an (pc := 41) rw_10_41 rfl (s_gR (pc := 42) rw_10_42 hG rfl (v := 7) rfl (to_i (pc := 45) rw_10_45 rfl (s_ial (pc := 47) rw_10_47 hG rfl (n := 150) rfl rfl (A := x4.toInt) rfl (by omega) (by omega) (lo := 0) (hi := 5) rfl rfl (fun v2 w_3 _ _ => to_c (pc := 48) rw_10_48 (x := (5 : Int32)) rfl rfl (b_cne (pc := 49) rw_10_49 (A := v2.toInt) (B := 5) rfl rfl (fun h4 => ?_) (fun h4 => ?_))))))
      · refine s_inc (pc := 75) rw_10_75 (ls2 := fun v => [.ref 11, .ref 6, u2, u3, .int v]) rfl rfl (fun _ => rfl) (A := x4.toInt) (B := -1) rfl rfl (by omega) (fun v5 e6 => to_go (pc := 78) rw_10_78 ?_)
        exact ih N (u2) (u3) v5 hG F0 (by omega) (by omega) (by omega)
      · refine to_an (pc := 52) rw_10_52 rfl (s_gR (pc := 53) rw_10_53 hG rfl (v := 16) rfl (to_i (pc := 56) rw_10_56 rfl (s_bal (pc := 58) rw_10_58 hG rfl (n := 150) rfl (A := x4.toInt) rfl (by omega) (by omega) (lo := 0) (hi := 1) rfl rfl (fun v7 w_8 _ _ => b_ine (pc := 59) rw_10_59 (A := v7.toInt) rfl (fun h9 => ?_) (fun h9 => ?_)))))
        · refine s_inc (pc := 75) rw_10_75 (ls2 := fun v => [.ref 11, .ref 6, u2, u3, .int v]) rfl rfl (fun _ => rfl) (A := x4.toInt) (B := -1) rfl rfl (by omega) (fun v10 e11 => to_go (pc := 78) rw_10_78 ?_)
          exact ih N (u2) (u3) v10 hG F0 (by omega) (by omega) (by omega)
        · refine to_an (pc := 62) rw_10_62 rfl (s_gR (pc := 63) rw_10_63 hG rfl (v := 16) rfl (to_an (pc := 66) rw_10_66 rfl (s_gR (pc := 67) rw_10_67 hG rfl (v := 8) rfl (to_i (pc := 70) rw_10_70 rfl (s_ial (pc := 72) rw_10_72 hG rfl (n := 150) rfl rfl (A := x4.toInt) rfl (by omega) (by omega) (lo := 0) (hi := 149) rfl rfl (fun v12 w_13 _ _ => to_c (pc := 73) rw_10_73 (x := (1 : Int32)) rfl rfl (s_zas (pc := 74) rw_10_74 hG rfl (n := 150) rfl (A := v12.toInt) rfl (by omega) (by omega) (B := 1) rfl (by omega) (fun M15 W14 => ?_))))))))
          have hG16 := g_w hG W14 (A := 1) rfl (lo := 0) (hi := 1) rfl rfl (by omega) (by decide)
          have F17 := FR.w F0 W14 (show 11 ≤ 16 ∧ 16 ≤ 16 by decide)
          refine s_inc (pc := 75) rw_10_75 (ls2 := fun v => [.ref 11, .ref 6, u2, u3, .int v]) rfl rfl (fun _ => rfl) (A := x4.toInt) (B := -1) rfl rfl (by omega) (fun v18 e19 => to_go (pc := 78) rw_10_78 ?_)
          exact ih M15 (u2) (u3) v18 hG16 F17 (by omega) (by omega) (by omega)
set_option maxRecDepth 4000 in
set_option maxHeartbeats 0 in
theorem T_10_1 {X : mm_X} {d : Nat} {M : mm_M} {Q : Option Value → mm_M → Prop} {n : Int32} (hX : g_X X) (hd : 0 ≤ d) (q1 : 0 ≤ n.toInt) (q2 : n.toInt ≤ 150) (h : ∀ (M1 : mm_M), g_G M1 → FR md_k M M1 → Q (none) M1) : ∀ nn9 : Nat, (∀ (N : mm_M) (u2 : Value) (x3 : Int32) (x4 : Int32), g_G N → FR md_k M N → (0 ≤ x4.toInt) → (x4.toInt ≤ 150) → (0 ≤ x3.toInt) → (x3.toInt ≤ 150) → 150 - x4.toInt < (nn9 : Int) → mm_T X d 10 11 [.ref 11, .ref 6, u2, .int x3, .int x4] [] N Q) := by
  intro nn9
  induction nn9 with
  | zero =>
    intro N u2 x3 x4 hG F0 g1 g2 g3 g4 hm
    exfalso; omega
  | succ nn9 ih =>
    intro N u2 x3 x4 hG F0 g1 g2 g3 g4 hm
    refine to_i (pc := 11) rw_10_11 rfl (to_in (pc := 13) rw_10_13 rfl (b_cge (pc := 14) rw_10_14 (A := x4.toInt) (B := x3.toInt) rfl rfl (fun h20 => ?_) (fun h20 => ?_)))
    · refine to_in (pc := 31) rw_10_31 rfl (to_c (pc := 32) rw_10_32 (x := (1 : Int32)) rfl rfl (s_sub (pc := 33) rw_10_33 (A := x3.toInt) (B := 1) rfl rfl (by omega) (fun v21 e22 => to_is (pc := 34) rw_10_34 (ls2 := [.ref 11, .ref 6, u2, .int x3, .int v21]) rfl rfl ?_)))
      exact (T_10_0 (n := n) hX hd q1 q2 h ((v21.toInt + 1).toNat + 1)) N (u2) (.int x3) v21 hG F0 (by omega) (by omega) (by omega)
    · refine to_an (pc := 17) rw_10_17 rfl (s_gR (pc := 18) rw_10_18 hG rfl (v := 16) rfl (to_i (pc := 21) rw_10_21 rfl (to_c (pc := 23) rw_10_23 (x := (0 : Int32)) rfl rfl (s_zas (pc := 24) rw_10_24 hG rfl (n := 150) rfl (A := x4.toInt) rfl (by omega) (by omega) (B := 0) rfl (by omega) (fun M24 W23 => ?_)))))
      have hG25 := g_w hG W23 (A := 0) rfl (lo := 0) (hi := 1) rfl rfl (by omega) (by decide)
      have F26 := FR.w F0 W23 (show 11 ≤ 16 ∧ 16 ≤ 16 by decide)
      refine s_inc (pc := 25) rw_10_25 (ls2 := fun v => [.ref 11, .ref 6, u2, .int x3, .int v]) rfl rfl (fun _ => rfl) (A := x4.toInt) (B := 1) rfl rfl (by omega) (fun v27 e28 => to_go (pc := 28) rw_10_28 ?_)
      exact ih M24 (u2) x3 v27 hG25 F26 (by omega) (by omega) (by omega) (by omega) (by omega)
set_option maxRecDepth 4000 in
set_option maxHeartbeats 0 in
theorem C_10 {X : mm_X} {d : Nat} {M : mm_M} {Q : Option Value → mm_M → Prop} {n : Int32} (hX : g_X X) (hd : 0 ≤ d) (hG : g_G M) (q1 : 0 ≤ n.toInt) (q2 : n.toInt ≤ 150) (h : ∀ (M1 : mm_M), g_G M1 → FR md_k M M1 → Q (none) M1) : mm_T X d 10 0 [.ref 11, .ref 6, .int n, .null, .null] [] M Q := by
  have F0 : FR md_k M M := FR.rf
  refine to_in (pc := 0) rw_10_0 rfl (to_c (pc := 1) rw_10_1 (x := (150 : Int32)) rfl rfl (s_min (pc := 4) rw_10_4 rfl (A := n.toInt) (B := 150) rfl rfl (fun v29 _ _ _ => to_isn (pc := 7) rw_10_7 (ls2 := [.ref 11, .ref 6, .int n, .int v29, .null]) rfl rfl (to_c (pc := 8) rw_10_8 (x := (0 : Int32)) rfl rfl (to_is (pc := 9) rw_10_9 (ls2 := [.ref 11, .ref 6, .int n, .int v29, .int (0 : Int32)]) rfl rfl ?_)))))
  have k_30 : (0 : Int32).toInt = 0 := rfl
  exact (T_10_1 (n := n) hX hd q1 q2 h ((150 - (0 : Int32).toInt).toNat + 1)) M (.int n) v29 (0 : Int32) hG F0 (by omega) (by omega) (by omega) (by omega) (by omega)
set_option maxRecDepth 4000 in
set_option maxHeartbeats 0 in
theorem C_11 {X : mm_X} {d : Nat} {M : mm_M} {Q : Option Value → mm_M → Prop} {p : Nat} {n : Int32} (hX : g_X X) (hd : 3 ≤ d) (hG : g_G M) (hp : p = 49 ∨ p = 58) (q1 : 0 ≤ n.toInt) (q2 : n.toInt ≤ 149) (q3 : NI M) (h : ∀ (M1 : mm_M), g_G M1 → FR md_k M M1 → Q (none) M1) : mm_T X d 11 0 [.ref 11, .ref p, .ref 6, .int n, .null, .null] [] M Q := by
  have F0 : FR md_k M M := FR.rf
  refine to_an (pc := 0) rw_11_0 rfl (s_gR (pc := 1) rw_11_1 hG rfl (v := 8) rfl (to_in (pc := 4) rw_11_4 rfl (s_ial (pc := 5) rw_11_5 hG rfl (n := 150) rfl rfl (A := n.toInt) rfl (by omega) (by omega) (lo := 0) (hi := 149) rfl rfl (fun v1 w_2 _ _ => ?_))))
  have j_3 := NI_u q3 (n.toInt).toNat
  have t_4 := congrArg Int32.toInt w_2
  refine to_is (pc := 6) rw_11_6 (ls2 := [.ref 11, .ref p, .ref 6, .int n, .int v1, .null]) rfl rfl (to_an (pc := 8) rw_11_8 rfl (s_gR (pc := 9) rw_11_9 hG rfl (v := 9) rfl (to_in (pc := 12) rw_11_12 rfl (s_ial (pc := 13) rw_11_13 hG rfl (n := 150) rfl rfl (A := n.toInt) rfl (by omega) (by omega) (lo := -2147483648) (hi := 2147483647) rfl rfl (fun v5 w_6 _ _ => ?_)))))
  have t_7 := congrArg Int32.toInt w_6
  refine to_is (pc := 14) rw_11_14 (ls2 := [.ref 11, .ref p, .ref 6, .int n, .int v1, .int v5]) rfl rfl (to_an (pc := 16) rw_11_16 rfl (s_gR (pc := 17) rw_11_17 hG rfl (v := 7) rfl (to_in (pc := 20) rw_11_20 rfl (s_ial (pc := 21) rw_11_21 hG rfl (n := 150) rfl rfl (A := n.toInt) rfl (by omega) (by omega) (lo := 0) (hi := 5) rfl rfl (fun v8 w_9 _ _ => ?_)))))
  have t_10 := congrArg Int32.toInt w_9
  rcases (show v8.toInt = 0 ∨ v8.toInt = 1 ∨ v8.toInt = 2 ∨ v8.toInt = 3 ∨ v8.toInt = 4 ∨ (v8.toInt < 0 ∨ 4 < v8.toInt) by omega) with h11 | h11 | h11 | h11 | h11 | h11
  · refine s_sw (pc := 22) rw_11_22 (A := v8.toInt) (k := 0) (t := 56) rfl h11 (by decide) rfl (to_an (pc := 56) rw_11_56 rfl (s_gR (pc := 57) rw_11_57 hG rfl (v := 14) rfl (to_i (pc := 60) rw_11_60 rfl (to_c (pc := 62) rw_11_62 (x := (8 : Int32)) rfl rfl (s_mul (pc := 64) rw_11_64 (A := v1.toInt) (B := 8) rfl rfl (by omega) (fun v12 e13 => to_i (pc := 65) rw_11_65 rfl (s_addo (pc := 67) rw_11_67 (A := v12.toInt) (B := v5.toInt) rfl rfl (fun v14 e15 => to_an (pc := 68) rw_11_68 rfl (s_gR (pc := 69) rw_11_69 hG rfl (v := 10) rfl (to_in (pc := 72) rw_11_72 rfl (s_ial (pc := 73) rw_11_73 hG rfl (n := 150) rfl rfl (A := n.toInt) rfl (by omega) (by omega) (lo := -2147483648) (hi := 2147483647) rfl rfl (fun v16 w_17 _ _ => ?_))))))))))))
    refine s_ias (pc := 74) rw_11_74 hG rfl (n := 240) rfl (A := v14.toInt) rfl (by omega) (by omega) (fun M19 W18 => ?_)
    have hG20 := g_wf hG W18 rfl rfl (by decide)
    have F21 := FR.w F0 W18 (show 11 ≤ 14 ∧ 14 ≤ 16 by decide)
    refine to_an (pc := 75) rw_11_75 rfl (s_gR (pc := 76) rw_11_76 hG20 rfl (v := 12) rfl (to_i (pc := 79) rw_11_79 rfl (to_dup2 (pc := 81) rw_11_81 (s_lal (pc := 82) rw_11_82 hG20 rfl (n := 30) rfl (A := v1.toInt) rfl (by omega) (by omega) (fun l22 => to_an (pc := 83) rw_11_83 rfl (to_i (pc := 84) rw_11_84 rfl (to_an (pc := 86) rw_11_86 rfl (s_gR (pc := 87) rw_11_87 hG20 rfl (v := 10) rfl (to_in (pc := 90) rw_11_90 rfl (s_ialk (pc := 91) rw_11_91 hG20 rfl (n := 150) rfl rfl (A := n.toInt) rfl (by omega) (by omega) (v := v16) (W_n W18 (by omega) w_17) (s_v (pc := 92) rw_11_92 (dp0 hd (by decide)) (ls0 := [.ref p, .int v5, .int v16, .null, .null]) rfl (Nat.le_of_ble_eq_true rfl) (Nat.le_of_ble_eq_true rfl) rfl (to_rc rfl rfl rfl (g_o hG20 (by rcases hp with rfl | rfl <;> rfl))) rfl ?_)))))))))))
    refine C_49 hX (dp1 hd (by decide)) hG20 hp (p := p) (f := v5) (v := v16) (fun r25 M28 hG27 F26 => ?_)
    have F29 := FR.c F21 F26 tg_123
    refine s_anyL (pc := 95) rw_11_95 (fun _ _ => rfl) (fun l30 => s_las (pc := 96) rw_11_96 hG27 rfl (n := 30) rfl (A := v1.toInt) rfl (by omega) (by omega) (fun M32 W31 => ?_))
    have hG33 := g_wl hG27 W31
    have F34 := FR.wl F29 W31 (show 11 ≤ 12 ∧ 12 ≤ 16 by decide)
    refine to_go (pc := 97) rw_11_97 (to_rv (pc := 198) rw_11_198 ?_)
    exact h M32 hG33 F34 
  · refine s_sw (pc := 22) rw_11_22 (A := v8.toInt) (k := 1) (t := 100) rfl h11 (by decide) rfl (to_an (pc := 100) rw_11_100 rfl (s_gR (pc := 101) rw_11_101 hG rfl (v := 13) rfl (to_i (pc := 104) rw_11_104 rfl (to_dup2 (pc := 106) rw_11_106 (s_ial (pc := 107) rw_11_107 hG rfl (n := 30) rfl rfl (A := v1.toInt) rfl (by omega) (by omega) (lo := -2147483648) (hi := 2147483647) rfl rfl (fun v35 w_36 _ _ => to_c (pc := 108) rw_11_108 (x := (1 : Int32)) rfl rfl (to_i (pc := 109) rw_11_109 rfl (s_any (pc := 111) rw_11_111 (fun _ _ => rfl) (fun v37 => s_any (pc := 112) rw_11_112 (fun _ _ => rfl) (fun v38 => s_ias (pc := 113) rw_11_113 hG rfl (n := 30) rfl (A := v1.toInt) rfl (by omega) (by omega) (fun M40 W39 => ?_)))))))))))
    have hG41 := g_wf hG W39 rfl rfl (by decide)
    have F42 := FR.w F0 W39 (show 11 ≤ 13 ∧ 13 ≤ 16 by decide)
    refine to_an (pc := 114) rw_11_114 rfl (s_gR (pc := 115) rw_11_115 hG41 rfl (v := 12) rfl (to_i (pc := 118) rw_11_118 rfl (to_dup2 (pc := 120) rw_11_120 (s_lal (pc := 121) rw_11_121 hG41 rfl (n := 30) rfl (A := v1.toInt) rfl (by omega) (by omega) (fun l43 => to_an (pc := 122) rw_11_122 rfl (s_gR (pc := 123) rw_11_123 hG41 rfl (v := 15) rfl (to_i (pc := 126) rw_11_126 rfl (s_lal (pc := 128) rw_11_128 hG41 rfl (n := 12) rfl (A := v5.toInt) rfl (by omega) (by omega) (fun l44 => s_anyL (pc := 129) rw_11_129 (fun _ _ => rfl) (fun l45 => s_las (pc := 130) rw_11_130 hG41 rfl (n := 30) rfl (A := v1.toInt) rfl (by omega) (by omega) (fun M47 W46 => ?_)))))))))))
    have hG48 := g_wl hG41 W46
    have F49 := FR.wl F42 W46 (show 11 ≤ 12 ∧ 12 ≤ 16 by decide)
    refine to_go (pc := 131) rw_11_131 (to_rv (pc := 198) rw_11_198 ?_)
    exact h M47 hG48 F49 
  · refine s_sw (pc := 22) rw_11_22 (A := v8.toInt) (k := 2) (t := 134) rfl h11 (by decide) rfl (to_an (pc := 134) rw_11_134 rfl (s_gR (pc := 135) rw_11_135 hG rfl (v := 12) rfl (to_i (pc := 138) rw_11_138 rfl (to_dup2 (pc := 140) rw_11_140 (s_lal (pc := 141) rw_11_141 hG rfl (n := 30) rfl (A := v1.toInt) rfl (by omega) (by omega) (fun l50 => s_cl (pc := 142) rw_11_142 rfl (fun l51 => to_i (pc := 143) rw_11_143 rfl (s_anyS (pc := 145) rw_11_145 (fun _ _ => rfl) (fun l52 => s_anyL (pc := 146) rw_11_146 (fun _ _ => rfl) (fun l53 => s_las (pc := 147) rw_11_147 hG rfl (n := 30) rfl (A := v1.toInt) rfl (by omega) (by omega) (fun M55 W54 => ?_)))))))))))
    have hG56 := g_wl hG W54
    have F57 := FR.wl F0 W54 (show 11 ≤ 12 ∧ 12 ≤ 16 by decide)
    refine to_go (pc := 148) rw_11_148 (to_rv (pc := 198) rw_11_198 ?_)
    exact h M55 hG56 F57 
  · refine s_sw (pc := 22) rw_11_22 (A := v8.toInt) (k := 3) (t := 151) rfl h11 (by decide) rfl (to_an (pc := 151) rw_11_151 rfl (s_gR (pc := 152) rw_11_152 hG rfl (v := 12) rfl (to_i (pc := 155) rw_11_155 rfl (to_dup2 (pc := 157) rw_11_157 (s_lal (pc := 158) rw_11_158 hG rfl (n := 30) rfl (A := v1.toInt) rfl (by omega) (by omega) (fun l58 => s_cl (pc := 159) rw_11_159 rfl (fun l59 => to_i (pc := 160) rw_11_160 rfl (s_anyS (pc := 162) rw_11_162 (fun _ _ => rfl) (fun l60 => s_cl (pc := 163) rw_11_163 rfl (fun l61 => s_anyL (pc := 166) rw_11_166 (fun _ _ => rfl) (fun l62 => s_anyL (pc := 167) rw_11_167 (fun _ _ => rfl) (fun l63 => ?_))))))))))))
    refine s_las (pc := 168) rw_11_168 hG rfl (n := 30) rfl (A := v1.toInt) rfl (by omega) (by omega) (fun M65 W64 => ?_)
    have hG66 := g_wl hG W64
    have F67 := FR.wl F0 W64 (show 11 ≤ 12 ∧ 12 ≤ 16 by decide)
    refine to_go (pc := 169) rw_11_169 (to_rv (pc := 198) rw_11_198 ?_)
    exact h M65 hG66 F67 
  · refine s_sw (pc := 22) rw_11_22 (A := v8.toInt) (k := 4) (t := 172) rfl h11 (by decide) rfl (to_an (pc := 172) rw_11_172 rfl (s_gR (pc := 173) rw_11_173 hG rfl (v := 15) rfl (to_i (pc := 176) rw_11_176 rfl (to_i (pc := 178) rw_11_178 rfl (s_i2l (pc := 180) rw_11_180 (fun l68 e69 => to_an (pc := 181) rw_11_181 rfl (s_gR (pc := 182) rw_11_182 hG (by rcases hp with rfl | rfl <;> rfl) (v := (p + 3)) (by rcases hp with rfl | rfl <;> rfl) (to_an (pc := 185) rw_11_185 rfl (s_gR (pc := 186) rw_11_186 hG (by rcases hp with rfl | rfl <;> rfl) (v := (p + 7)) (by rcases hp with rfl | rfl <;> rfl) (to_i (pc := 189) rw_11_189 rfl (s_ial (pc := 191) rw_11_191 hG (by rcases hp with rfl | rfl <;> rfl) (n := 12) (by rcases hp with rfl | rfl <;> rfl) (by rcases hp with rfl | rfl <;> rfl) (A := v1.toInt) rfl (by omega) (by omega) (lo := 0) (hi := 7) (by rcases hp with rfl | rfl <;> rfl) (by rcases hp with rfl | rfl <;> rfl) (fun v70 w_71 _ _ => ?_))))))))))))
    refine s_ial (pc := 192) rw_11_192 hG (by rcases hp with rfl | rfl <;> rfl) (n := 8) (by rcases hp with rfl | rfl <;> rfl) (by rcases hp with rfl | rfl <;> rfl) (A := v70.toInt) rfl (by omega) (by omega) (lo := 0) (hi := 59) (by rcases hp with rfl | rfl <;> rfl) (by rcases hp with rfl | rfl <;> rfl) (fun v72 w_73 _ _ => s_anyS (pc := 193) rw_11_193 (fun _ _ => rfl) (fun l74 => s_las (pc := 194) rw_11_194 hG rfl (n := 12) rfl (A := v1.toInt) rfl (by omega) (by omega) (fun M76 W75 => ?_)))
    have hG77 := g_wl hG W75
    have F78 := FR.wl F0 W75 (show 11 ≤ 15 ∧ 15 ≤ 16 by decide)
    refine to_go (pc := 195) rw_11_195 (to_rv (pc := 198) rw_11_198 ?_)
    exact h M76 hG77 F78 
  · refine s_swd (pc := 22) rw_11_22 (A := v8.toInt) rfl h11 (to_rv (pc := 198) rw_11_198 ?_)
    exact h M hG F0 
set_option maxRecDepth 4000 in
set_option maxHeartbeats 0 in
theorem T_8_0 {X : mm_X} {d : Nat} {M : mm_M} {Q : Option Value → mm_M → Prop} {p : Nat} {n : Int32} (hX : g_X X) (hd : 4 ≤ d) (hp : p = 49 ∨ p = 58) (q1 : 0 ≤ n.toInt) (q2 : n.toInt ≤ 150) (q3 : NI M) (h : ∀ (M1 : mm_M), g_G M1 → FR md_k M M1 → Q (none) M1) : ∀ nn9 : Nat, (∀ (N : mm_M) (x4 : Int32), g_G N → FR md_k M N → (0 ≤ x4.toInt) → (x4.toInt ≤ 150) → (0 ≤ n.toInt) → (n.toInt ≤ 150) → (NI N) → 150 - x4.toInt < (nn9 : Int) → mm_T X d 8 14 [.ref 11, .ref p, .ref 6, .int n, .int x4] [] N Q) := by
  intro nn9
  induction nn9 with
  | zero =>
    intro N x4 hG F0 g1 g2 g3 g4 g5 hm
    exfalso; omega
  | succ nn9 ih =>
    intro N x4 hG F0 g1 g2 g3 g4 g5 hm
    refine to_i (pc := 14) rw_8_14 rfl (to_in (pc := 16) rw_8_16 rfl (b_cge (pc := 17) rw_8_17 (A := x4.toInt) (B := n.toInt) rfl rfl (fun h1 => ?_) (fun h1 => ?_)))
    · refine to_rv (pc := 52) rw_8_52 ?_
      exact h N hG F0 
    · refine to_i (pc := 20) rw_8_20 rfl (to_c (pc := 22) rw_8_22 (x := (150 : Int32)) rfl rfl (b_cge_f (pc := 25) rw_8_25 (A := x4.toInt) (B := 150) rfl rfl (by omega) (to_an (pc := 28) rw_8_28 rfl (s_gR (pc := 29) rw_8_29 hG rfl (v := 16) rfl (to_i (pc := 32) rw_8_32 rfl (s_bal (pc := 34) rw_8_34 hG rfl (n := 150) rfl (A := x4.toInt) rfl (by omega) (by omega) (lo := 0) (hi := 1) rfl rfl (fun v2 w_3 _ _ => b_ine (pc := 35) rw_8_35 (A := v2.toInt) rfl (fun h4 => ?_) (fun h4 => ?_))))))))
      · refine s_inc (pc := 46) rw_8_46 (ls2 := fun v => [.ref 11, .ref p, .ref 6, .int n, .int v]) rfl rfl (fun _ => rfl) (A := x4.toInt) (B := 1) rfl rfl (by omega) (fun v5 e6 => to_go (pc := 49) rw_8_49 ?_)
        exact ih N v5 hG F0 (by omega) (by omega) (by omega) (by omega) g5 (by omega)
      · refine to_an (pc := 38) rw_8_38 rfl (to_an (pc := 39) rw_8_39 rfl (to_an (pc := 40) rw_8_40 rfl (to_i (pc := 41) rw_8_41 rfl (s_v (pc := 43) rw_8_43 (dp0 hd (by decide)) (ls0 := [.ref 11, .ref p, .ref 6, .int x4, .null, .null]) rfl (Nat.le_of_ble_eq_true rfl) (Nat.le_of_ble_eq_true rfl) rfl (to_rc rfl rfl rfl (g_o hG rfl)) rfl (C_11 hX (dp1 hd (by decide)) hG hp (by omega) (by omega) g5 (p := p) (n := x4) (fun M9 hG8 F7 => ?_))))))
        have F10 := FR.c F0 F7 tg_124
        refine s_inc (pc := 46) rw_8_46 (ls2 := fun v => [.ref 11, .ref p, .ref 6, .int n, .int v]) rfl rfl (fun _ => rfl) (A := x4.toInt) (B := 1) rfl rfl (by omega) (fun v11 e12 => to_go (pc := 49) rw_8_49 ?_)
        have j_13 := (NI_f (tg_122 F7) g5)
        exact ih M9 v11 hG8 F10 (by omega) (by omega) (by omega) (by omega) j_13 (by omega)
set_option maxRecDepth 4000 in
set_option maxHeartbeats 0 in
theorem C_8 {X : mm_X} {d : Nat} {M : mm_M} {Q : Option Value → mm_M → Prop} {p : Nat} {n : Int32} (hX : g_X X) (hd : 4 ≤ d) (hG : g_G M) (hp : p = 49 ∨ p = 58) (q1 : 0 ≤ n.toInt) (q2 : n.toInt ≤ 150) (q3 : NI M) (h : ∀ (M1 : mm_M), g_G M1 → FR md_k M M1 → Q (none) M1) : mm_T X d 8 0 [.ref 11, .ref p, .ref 6, .int n, .null] [] M Q := by
  have F0 : FR md_k M M := FR.rf
  refine to_an (pc := 0) rw_8_0 rfl (to_an (pc := 1) rw_8_1 rfl (s_v (pc := 2) rw_8_2 (dp0 hd (by decide)) (ls0 := [.ref 11, .ref p, .null]) rfl (Nat.le_of_ble_eq_true rfl) (Nat.le_of_ble_eq_true rfl) rfl (to_rc rfl rfl rfl (g_o hG rfl)) rfl (C_9 hX (dp1 hd (by decide)) hG hp (p := p) (fun M16 hG15 F14 => ?_))))
  have F17 := FR.c F0 F14 tg_124
  refine to_an (pc := 5) rw_8_5 rfl (to_an (pc := 6) rw_8_6 rfl (to_in (pc := 7) rw_8_7 rfl (s_v (pc := 8) rw_8_8 (dp0 hd (by decide)) (ls0 := [.ref 11, .ref 6, .int n, .null, .null]) rfl (Nat.le_of_ble_eq_true rfl) (Nat.le_of_ble_eq_true rfl) rfl (to_rc rfl rfl rfl (g_o hG15 rfl)) rfl (C_10 hX (dp1 hd (by decide)) hG15 (by omega) (by omega) (n := n) (fun M20 hG19 F18 => ?_)))))
  have F21 := FR.c F17 F18 tg_124
  refine to_c (pc := 11) rw_8_11 (x := (0 : Int32)) rfl rfl (to_is (pc := 12) rw_8_12 (ls2 := [.ref 11, .ref p, .ref 6, .int n, .int (0 : Int32)]) rfl rfl ?_)
  have k_22 : (0 : Int32).toInt = 0 := rfl
  have j_23 := (NI_f (tg_122 F18) (NI_f (tg_122 F14) q3))
  exact (T_8_0 (p := p) (n := n) hX hd hp q1 q2 q3 h ((150 - (0 : Int32).toInt).toNat + 1)) M20 (0 : Int32) hG19 F21 (by omega) (by omega) (by omega) (by omega) j_23 (by omega)
set_option maxRecDepth 4000 in
set_option maxHeartbeats 0 in
theorem T_22_0 {X : mm_X} {d : Nat} {M : mm_M} {Q : Option Value → mm_M → Prop} (hX : g_X X) (hd : 0 ≤ d) (h : ∀ (M1 : mm_M), g_G M1 → FR md_c M M1 → ((M1.2.1 17 4).toInt = 0) → Q (none) M1) : ∀ nn9 : Nat, (∀ (N : mm_M) (x1 : Int32), g_G N → FR md_c M N → (0 ≤ x1.toInt) → (x1.toInt ≤ 6) → ((N.2.1 17 4).toInt = 0) → 6 - x1.toInt < (nn9 : Int) → mm_T X d 22 7 [.ref 17, .int x1] [] N Q) := by
  intro nn9
  induction nn9 with
  | zero =>
    intro N x1 hG F0 g1 g2 g3 hm
    exfalso; omega
  | succ nn9 ih =>
    intro N x1 hG F0 g1 g2 g3 hm
    refine to_in (pc := 7) rw_22_7 rfl (to_c (pc := 8) rw_22_8 (x := (6 : Int32)) rfl rfl (b_cge (pc := 10) rw_22_10 (A := x1.toInt) (B := 6) rfl rfl (fun h1 => ?_) (fun h1 => ?_)))
    · refine to_rv (pc := 26) rw_22_26 ?_
      exact h N hG F0 (by omega)
    · refine to_an (pc := 13) rw_22_13 rfl (s_gR (pc := 14) rw_22_14 hG rfl (v := 25) rfl (to_in (pc := 17) rw_22_17 rfl (to_c (pc := 18) rw_22_18 (x := (0 : Int32)) rfl rfl (s_ias (pc := 19) rw_22_19 hG rfl (n := 6) rfl (A := x1.toInt) rfl (by omega) (by omega) (fun M3 W2 => ?_)))))
      have hG4 := g_w hG W2 (A := 0) rfl (lo := 0) (hi := 30) rfl rfl (by omega) (by decide)
      have F5 := FR.w F0 W2 (show 17 ≤ 25 ∧ 25 ≤ 27 by decide)
      refine s_inc (pc := 20) rw_22_20 (ls2 := fun v => [.ref 17, .int v]) rfl rfl (fun _ => rfl) (A := x1.toInt) (B := 1) rfl rfl (by omega) (fun v6 e7 => to_go (pc := 23) rw_22_23 ?_)
      have c_8 : M3.2.1 17 4 = (N.2.1 17 4) := (W_n W2 (fun z => absurd z.1 (by decide)) rfl)
      have t_9 : (M3.2.1 17 4).toInt = (N.2.1 17 4).toInt := congrArg Int32.toInt c_8
      exact ih M3 v6 hG4 F5 (by omega) (by omega) (by omega) (by omega)
set_option maxRecDepth 4000 in
set_option maxHeartbeats 0 in
theorem C_22 {X : mm_X} {d : Nat} {M : mm_M} {Q : Option Value → mm_M → Prop} (hX : g_X X) (hd : 0 ≤ d) (hG : g_G M) (h : ∀ (M1 : mm_M), g_G M1 → FR md_c M M1 → ((M1.2.1 17 4).toInt = 0) → Q (none) M1) : mm_T X d 22 0 [.ref 17, .null] [] M Q := by
  have F0 : FR md_c M M := FR.rf
  refine to_an (pc := 0) rw_22_0 rfl (to_c (pc := 1) rw_22_1 (x := (0 : Int32)) rfl rfl (s_pI (pc := 2) rw_22_2 hG rfl (fun M11 W10 => ?_)))
  have hG12 := g_wf hG W10 rfl rfl (by decide)
  have F13 := FR.w F0 W10 (show 17 ≤ 17 ∧ 17 ≤ 27 by decide)
  refine to_c (pc := 5) rw_22_5 (x := (0 : Int32)) rfl rfl (to_isn (pc := 6) rw_22_6 (ls2 := [.ref 17, .int (0 : Int32)]) rfl rfl ?_)
  have k_14 : (0 : Int32).toInt = 0 := rfl
  have c_15 : M11.2.1 17 4 = (0 : Int32) := (W_e W10)
  have t_16 : (M11.2.1 17 4).toInt = (0 : Int32).toInt := congrArg Int32.toInt c_15
  exact (T_22_0 hX hd  h ((6 - (0 : Int32).toInt).toNat + 1)) M11 (0 : Int32) hG12 F13 (by omega) (by omega) (by omega) (by omega)
set_option maxRecDepth 4000 in
set_option maxHeartbeats 0 in
theorem C_23 {X : mm_X} {d : Nat} {M : mm_M} {Q : Option Value → mm_M → Prop} {p : Int32} {c : Int32} (hX : g_X X) (hd : 0 ≤ d) (hG : g_G M) (q1 : 0 ≤ p.toInt) (q2 : p.toInt ≤ 5) (q3 : 0 ≤ c.toInt) (q4 : c.toInt ≤ 29) (h : ∀ (M1 : mm_M), g_G M1 → FR md_c8 M M1 → Q (none) M1) : mm_T X d 23 0 [.ref 17, .int p, .int c] [] M Q := by
  have F0 : FR md_c8 M M := FR.rf
  refine to_an (pc := 0) rw_23_0 rfl (s_gR (pc := 1) rw_23_1 hG rfl (v := 25) rfl (to_in (pc := 4) rw_23_4 rfl (s_ial (pc := 5) rw_23_5 hG rfl (n := 6) rfl rfl (A := p.toInt) rfl (by omega) (by omega) (lo := 0) (hi := 30) rfl rfl (fun v1 w_2 _ _ => to_c (pc := 6) rw_23_6 (x := (30 : Int32)) rfl rfl (b_cge (pc := 8) rw_23_8 (A := v1.toInt) (B := 30) rfl rfl (fun h3 => ?_) (fun h3 => ?_))))))
  · refine to_rv (pc := 35) rw_23_35 ?_
    exact h M hG F0 
  · refine to_an (pc := 11) rw_23_11 rfl (s_gR (pc := 12) rw_23_12 hG rfl (v := 18) rfl (to_in (pc := 15) rw_23_15 rfl (s_aal (pc := 16) rw_23_16 hG (A := p.toInt) rfl (by omega) (by omega) (fun r4 hr4 => to_an (pc := 17) rw_23_17 rfl (s_gR (pc := 18) rw_23_18 hG rfl (v := 25) rfl (to_in (pc := 21) rw_23_21 rfl (s_ialk (pc := 22) rw_23_22 hG rfl (n := 6) rfl rfl (A := p.toInt) rfl (by omega) (by omega) (v := v1) w_2 (to_in (pc := 23) rw_23_23 rfl (s_ias (pc := 24) rw_23_24 hG (by rcases rr_6 hr4 with z | z | z | z | z | z <;> rw [z] <;> rfl) (n := 30) (by rcases rr_6 hr4 with z | z | z | z | z | z <;> rw [z] <;> rfl) (A := v1.toInt) rfl (by omega) (by omega) (fun M8 W7 => ?_))))))))))
    have hG9 := g_w hG W7 (A := c.toInt) rfl (lo := 0) (hi := 29) (by rcases rr_6 hr4 with z | z | z | z | z | z <;> rw [z] <;> rfl) (by rcases rr_6 hr4 with z | z | z | z | z | z <;> rw [z] <;> rfl) (by omega) (by omega)
    have F10 := FR.w F0 W7 (show 18 ≤ r4 ∧ r4 ≤ 27 by omega)
    refine to_an (pc := 25) rw_23_25 rfl (s_gR (pc := 26) rw_23_26 hG9 rfl (v := 25) rfl (to_in (pc := 29) rw_23_29 rfl (to_dup2 (pc := 30) rw_23_30 (s_ialk (pc := 31) rw_23_31 hG9 rfl (n := 6) rfl rfl (A := p.toInt) rfl (by omega) (by omega) (v := v1) (W_n W7 (by omega) w_2) (to_c (pc := 32) rw_23_32 (x := (1 : Int32)) rfl rfl (s_add (pc := 33) rw_23_33 (A := v1.toInt) (B := 1) rfl rfl (by omega) (fun v13 e14 => s_ias (pc := 34) rw_23_34 hG9 rfl (n := 6) rfl (A := p.toInt) rfl (by omega) (by omega) (fun M16 W15 => ?_))))))))
    have hG17 := g_w hG9 W15 (A := v13.toInt) rfl (lo := 0) (hi := 30) rfl rfl (by omega) (by decide)
    have F18 := FR.w F10 W15 (show 18 ≤ 25 ∧ 25 ≤ 27 by decide)
    refine to_rv (pc := 35) rw_23_35 ?_
    exact h M16 hG17 F18 
set_option maxRecDepth 4000 in
set_option maxHeartbeats 0 in
theorem T_25_0 {X : mm_X} {d : Nat} {M : mm_M} {Q : Option Value → mm_M → Prop} {x : Int64} {y : Int32} (hX : g_X X) (hd : 0 ≤ d) (q1 : y.toInt ≤ 60) (h : ∀ (r : Int64) (M1 : mm_M), g_G M1 → FR md_0 M M1 → Q (some (.long r)) M1) : ∀ nn9 : Nat, (∀ (N : mm_M) (y3 : Int64) (x5 : Int32), g_G N → FR md_0 M N → (0 ≤ x5.toInt) → (x5.toInt ≤ 60) → (y.toInt ≤ 60) → 60 - x5.toInt < (nn9 : Int) → mm_T X d 25 5 [.long x, .null, .int y, .long y3, .null, .int x5] [] N Q) := by
  intro nn9
  induction nn9 with
  | zero =>
    intro N y3 x5 hG F0 g1 g2 g3 hm
    exfalso; omega
  | succ nn9 ih =>
    intro N y3 x5 hG F0 g1 g2 g3 hm
    refine to_i (pc := 5) rw_25_5 rfl (to_in (pc := 7) rw_25_7 rfl (b_cge (pc := 8) rw_25_8 (A := x5.toInt) (B := y.toInt) rfl rfl (fun h1 => ?_) (fun h1 => ?_)))
    · refine to_ln (pc := 28) rw_25_28 rfl rfl rfl (to_rl (pc := 29) rw_25_29 ?_)
      exact h y3 N hG F0 
    · refine to_ln (pc := 11) rw_25_11 rfl rfl rfl (to_c (pc := 12) rw_25_12 (x := (1 : Int32)) rfl rfl (s_anyS (pc := 13) rw_25_13 (fun _ _ => rfl) (fun l2 => to_ln (pc := 14) rw_25_14 rfl rfl rfl (to_i (pc := 15) rw_25_15 rfl (s_anyS (pc := 17) rw_25_17 (fun _ _ => rfl) (fun l3 => s_cl (pc := 18) rw_25_18 rfl (fun l4 => s_anyL (pc := 19) rw_25_19 (fun _ _ => rfl) (fun l5 => s_anyL (pc := 20) rw_25_20 (fun _ _ => rfl) (fun l6 => to_lsn (pc := 21) rw_25_21 (ls2 := [.long x, .null, .int y, .long l6, .null, .int x5]) rfl rfl (s_inc (pc := 22) rw_25_22 (ls2 := fun v => [.long x, .null, .int y, .long l6, .null, .int v]) rfl rfl (fun _ => rfl) (A := x5.toInt) (B := 1) rfl rfl (by omega) (fun v7 e8 => to_go (pc := 25) rw_25_25 ?_)))))))))))
      exact ih N l6 v7 hG F0 (by omega) (by omega) (by omega) (by omega)
set_option maxRecDepth 4000 in
set_option maxHeartbeats 0 in
theorem C_25 {X : mm_X} {d : Nat} {M : mm_M} {Q : Option Value → mm_M → Prop} {x : Int64} {y : Int32} (hX : g_X X) (hd : 0 ≤ d) (hG : g_G M) (q1 : y.toInt ≤ 60) (h : ∀ (r : Int64) (M1 : mm_M), g_G M1 → FR md_0 M M1 → Q (some (.long r)) M1) : mm_T X d 25 0 [.long x, .null, .int y, .null, .null, .null] [] M Q := by
  have F0 : FR md_0 M M := FR.rf
  refine s_cl (pc := 0) rw_25_0 rfl (fun l9 => to_lsn (pc := 1) rw_25_1 (ls2 := [.long x, .null, .int y, .long l9, .null, .null]) rfl rfl (to_c (pc := 2) rw_25_2 (x := (0 : Int32)) rfl rfl (to_is (pc := 3) rw_25_3 (ls2 := [.long x, .null, .int y, .long l9, .null, .int (0 : Int32)]) rfl rfl ?_)))
  have k_10 : (0 : Int32).toInt = 0 := rfl
  exact (T_25_0 (x := x) (y := y) hX hd q1 h ((60 - (0 : Int32).toInt).toNat + 1)) M l9 (0 : Int32) hG F0 (by omega) (by omega) (by omega) (by omega)
set_option maxRecDepth 4000 in
set_option maxHeartbeats 0 in
theorem T_24_0 {X : mm_X} {d : Nat} {M : mm_M} {Q : Option Value → mm_M → Prop} {y : Int32} (hX : g_X X) (hd : 1 ≤ d) (q1 : y.toInt ≤ 60) (h : ∀ (M1 : mm_M), g_G M1 → FR md_c8 M M1 → Q (none) M1) : ∀ nn9 : Nat, (∀ (N : mm_M) (x3 : Int32) (u4 : Value), g_G N → FR md_c8 M N → (0 ≤ x3.toInt) → (x3.toInt ≤ 30) → (y.toInt ≤ 60) → 30 - x3.toInt < (nn9 : Int) → mm_T X d 24 2 [.ref 17, .ref 11, .int y, .int x3, u4] [] N Q) := by
  intro nn9
  induction nn9 with
  | zero =>
    intro N x3 u4 hG F0 g1 g2 g3 hm
    exfalso; omega
  | succ nn9 ih =>
    intro N x3 u4 hG F0 g1 g2 g3 hm
    refine to_in (pc := 2) rw_24_2 rfl (to_c (pc := 3) rw_24_3 (x := (30 : Int32)) rfl rfl (b_cge (pc := 5) rw_24_5 (A := x3.toInt) (B := 30) rfl rfl (fun h1 => ?_) (fun h1 => ?_)))
    · refine to_rv (pc := 62) rw_24_62 ?_
      exact h N hG F0 
    · refine to_an (pc := 8) rw_24_8 rfl (tt_gI (pc := 9) rw_24_9 (g_o hG rfl) (v := (N.2.1 17 4)) rfl (to_in (pc := 12) rw_24_12 rfl (s_any (pc := 13) rw_24_13 (fun _ _ => rfl) (fun v2 => to_c (pc := 14) rw_24_14 (x := (1 : Int32)) rfl rfl (s_and (pc := 15) rw_24_15 (B := 1) rfl (by omega) (fun v3 e4 _ _ => b_ieq (pc := 16) rw_24_16 (A := v3.toInt) rfl (fun h5 => ?_) (fun h5 => ?_)))))))
      · refine to_c (pc := 23) rw_24_23 (x := (0 : Int32)) rfl rfl (to_is (pc := 24) rw_24_24 (ls2 := [.ref 17, .ref 11, .int y, .int x3, .int (0 : Int32)]) rfl rfl (to_an (pc := 26) rw_24_26 rfl (s_gR (pc := 27) rw_24_27 hG rfl (v := 27) rfl (to_in (pc := 30) rw_24_30 rfl (to_i (pc := 31) rw_24_31 rfl (b_ieq_t (pc := 33) rw_24_33 (A := 0) rfl (by decide) (to_an (pc := 49) rw_24_49 rfl (s_gR (pc := 50) rw_24_50 hG rfl (v := 12) rfl (to_in (pc := 53) rw_24_53 rfl (s_lal (pc := 54) rw_24_54 hG rfl (n := 30) rfl (A := x3.toInt) rfl (by omega) (by omega) (fun l6 => s_las (pc := 55) rw_24_55 hG rfl (n := 30) rfl (A := x3.toInt) rfl (by omega) (by omega) (fun M8 W7 => ?_))))))))))))
        have hG9 := g_wl hG W7
        have F10 := FR.wl F0 W7 (show 18 ≤ 27 ∧ 27 ≤ 27 by decide)
        refine s_inc (pc := 56) rw_24_56 (ls2 := fun v => [.ref 17, .ref 11, .int y, .int v, .int (0 : Int32)]) rfl rfl (fun _ => rfl) (A := x3.toInt) (B := 1) rfl rfl (by omega) (fun v11 e12 => to_go (pc := 59) rw_24_59 ?_)
        exact ih M8 v11 (.int (0 : Int32)) hG9 F10 (by omega) (by omega) (by omega) (by omega)
      · refine to_c (pc := 19) rw_24_19 (x := (1 : Int32)) rfl rfl (to_go (pc := 20) rw_24_20 (to_is (pc := 24) rw_24_24 (ls2 := [.ref 17, .ref 11, .int y, .int x3, .int (1 : Int32)]) rfl rfl (to_an (pc := 26) rw_24_26 rfl (s_gR (pc := 27) rw_24_27 hG rfl (v := 27) rfl (to_in (pc := 30) rw_24_30 rfl (to_i (pc := 31) rw_24_31 rfl (b_ieq_f (pc := 33) rw_24_33 (A := 1) rfl (by decide) (to_an (pc := 36) rw_24_36 rfl (s_gR (pc := 37) rw_24_37 hG rfl (v := 12) rfl (to_in (pc := 40) rw_24_40 rfl (s_lal (pc := 41) rw_24_41 hG rfl (n := 30) rfl (A := x3.toInt) rfl (by omega) (by omega) (fun l13 => ?_))))))))))))
        refine to_in (pc := 42) rw_24_42 rfl (s_s (pc := 43) rw_24_43 (dp0 hd (by decide)) (ls0 := [.long l13, .null, .int y, .null, .null, .null]) rfl (Nat.le_of_ble_eq_true rfl) (Nat.le_of_ble_eq_true rfl) rfl (to_rcs rfl rfl) rfl (C_25 hX (dp1 hd (by decide)) hG (by omega) (x := l13) (y := y) (fun r14 M17 hG16 F15 => ?_)))
        have F18 := FR.c F0 F15 tg_125
        refine to_go (pc := 46) rw_24_46 (s_las (pc := 55) rw_24_55 hG16 rfl (n := 30) rfl (A := x3.toInt) rfl (by omega) (by omega) (fun M20 W19 => ?_))
        have hG21 := g_wl hG16 W19
        have F22 := FR.wl F18 W19 (show 18 ≤ 27 ∧ 27 ≤ 27 by decide)
        refine s_inc (pc := 56) rw_24_56 (ls2 := fun v => [.ref 17, .ref 11, .int y, .int v, .int (1 : Int32)]) rfl rfl (fun _ => rfl) (A := x3.toInt) (B := 1) rfl rfl (by omega) (fun v23 e24 => to_go (pc := 59) rw_24_59 ?_)
        exact ih M20 v23 (.int (1 : Int32)) hG21 F22 (by omega) (by omega) (by omega) (by omega)
set_option maxRecDepth 4000 in
set_option maxHeartbeats 0 in
theorem C_24 {X : mm_X} {d : Nat} {M : mm_M} {Q : Option Value → mm_M → Prop} {y : Int32} (hX : g_X X) (hd : 1 ≤ d) (hG : g_G M) (q1 : y.toInt ≤ 60) (h : ∀ (M1 : mm_M), g_G M1 → FR md_c8 M M1 → Q (none) M1) : mm_T X d 24 0 [.ref 17, .ref 11, .int y, .null, .null] [] M Q := by
  have F0 : FR md_c8 M M := FR.rf
  refine to_c (pc := 0) rw_24_0 (x := (0 : Int32)) rfl rfl (to_isn (pc := 1) rw_24_1 (ls2 := [.ref 17, .ref 11, .int y, .int (0 : Int32), .null]) rfl rfl ?_)
  have k_25 : (0 : Int32).toInt = 0 := rfl
  exact (T_24_0 (y := y) hX hd q1 h ((30 - (0 : Int32).toInt).toNat + 1)) M (0 : Int32) (.null) hG F0 (by omega) (by omega) (by omega) (by omega)
set_option maxRecDepth 4000 in
set_option maxHeartbeats 0 in
theorem T_27_0 {X : mm_X} {d : Nat} {M : mm_M} {Q : Option Value → mm_M → Prop} {p : Int32} {x : Int64} (hX : g_X X) (hd : 1 ≤ d) (q1 : 0 ≤ p.toInt) (q2 : p.toInt ≤ 5) (h : ∀ (r : Int32) (M1 : mm_M), g_G M1 → FR md_0 M M1 → Q (some (.int r)) M1) : ∀ nn9 : Nat, (∀ (N : mm_M) (x4 : Int32) (x5 : Int32) (u6 : Value), g_G N → FR md_0 M N → (0 ≤ x5.toInt) → (x5.toInt ≤ 30) → (0 ≤ p.toInt) → (p.toInt ≤ 5) → 30 - x5.toInt < (nn9 : Int) → mm_T X d 27 6 [.ref 17, .int p, .long x, .null, .int x4, .int x5, u6] [] N Q) := by
  intro nn9
  induction nn9 with
  | zero =>
    intro N x4 x5 u6 hG F0 g1 g2 g3 g4 hm
    exfalso; omega
  | succ nn9 ih =>
    intro N x4 x5 u6 hG F0 g1 g2 g3 g4 hm
    refine to_i (pc := 6) rw_27_6 rfl (to_an (pc := 8) rw_27_8 rfl (s_gR (pc := 9) rw_27_9 hG rfl (v := 25) rfl (to_in (pc := 12) rw_27_12 rfl (s_ial (pc := 13) rw_27_13 hG rfl (n := 6) rfl rfl (A := p.toInt) rfl (by omega) (by omega) (lo := 0) (hi := 30) rfl rfl (fun v1 w_2 _ _ => b_cge (pc := 14) rw_27_14 (A := x5.toInt) (B := v1.toInt) rfl rfl (fun h3 => ?_) (fun h3 => ?_))))))
    · refine to_i (pc := 53) rw_27_53 rfl (to_r0 (pc := 55) rw_27_55 ?_)
      exact h x4 N hG F0 
    · refine to_an (pc := 17) rw_27_17 rfl (s_gR (pc := 18) rw_27_18 hG rfl (v := 18) rfl (to_in (pc := 21) rw_27_21 rfl (s_aal (pc := 22) rw_27_22 hG (A := p.toInt) rfl (by omega) (by omega) (fun r4 hr4 => to_i (pc := 23) rw_27_23 rfl (s_ial (pc := 25) rw_27_25 hG (by rcases rr_6 hr4 with z | z | z | z | z | z <;> rw [z] <;> rfl) (n := 30) (by rcases rr_6 hr4 with z | z | z | z | z | z <;> rw [z] <;> rfl) (by rcases rr_6 hr4 with z | z | z | z | z | z <;> rw [z] <;> rfl) (A := x5.toInt) rfl (by omega) (by omega) (lo := 0) (hi := 29) (by rcases rr_6 hr4 with z | z | z | z | z | z <;> rw [z] <;> rfl) (by rcases rr_6 hr4 with z | z | z | z | z | z <;> rw [z] <;> rfl) (fun v5 w_6 _ _ => to_is (pc := 26) rw_27_26 (ls2 := [.ref 17, .int p, .long x, .null, .int x4, .int x5, .int v5]) rfl rfl (to_an (pc := 28) rw_27_28 rfl (to_i (pc := 29) rw_27_29 rfl (to_ln (pc := 31) rw_27_31 rfl rfl rfl (s_v (pc := 32) rw_27_32 (dp0 hd (by decide)) (ls0 := [.ref 17, .int v5, .long x, .null]) rfl (Nat.le_of_ble_eq_true rfl) (Nat.le_of_ble_eq_true rfl) rfl (to_rc rfl rfl rfl (g_o hG rfl)) rfl (to_an (pc := 0) rw_26_0 rfl ?_)))))))))))
      refine s_gR (pc := 1) rw_26_1 hG rfl (v := 27) rfl (to_in (pc := 4) rw_26_4 rfl (s_lal (pc := 5) rw_26_5 hG rfl (n := 30) rfl (A := v5.toInt) rfl (by omega) (by omega) (fun l7 => to_ln (pc := 6) rw_26_6 rfl rfl rfl (s_anyL (pc := 7) rw_26_7 (fun _ _ => rfl) (fun l8 => to_ln (pc := 8) rw_26_8 rfl rfl rfl (s_lcmp (pc := 9) rw_26_9 (fun v9 => b_ine (pc := 10) rw_26_10 (A := v9.toInt) rfl (fun h10 => ?_) (fun h10 => ?_))))))))
      · refine to_c (pc := 17) rw_26_17 (x := (0 : Int32)) rfl rfl (s_r1 (pc := 18) rw_26_18 (A := 0) rfl (by decide) (b_ieq_t (pc := 35) rw_27_35 (A := 0) rfl (by decide) (s_inc (pc := 47) rw_27_47 (ls2 := fun v => [.ref 17, .int p, .long x, .null, .int x4, .int v, .int v5]) rfl rfl (fun _ => rfl) (A := x5.toInt) (B := 1) rfl rfl (by omega) (fun v11 e12 => to_go (pc := 50) rw_27_50 ?_))))
        exact ih N x4 v11 (.int v5) hG F0 (by omega) (by omega) (by omega) (by omega) (by omega)
      · refine to_c (pc := 13) rw_26_13 (x := (1 : Int32)) rfl rfl (to_go (pc := 14) rw_26_14 (s_r1 (pc := 18) rw_26_18 (A := 1) rfl (by decide) (b_ieq_f (pc := 35) rw_27_35 (A := 1) rfl (by decide) (to_i (pc := 38) rw_27_38 rfl (to_c (pc := 40) rw_27_40 (x := (1 : Int32)) rfl rfl (to_i (pc := 41) rw_27_41 rfl (s_any (pc := 43) rw_27_43 (fun _ _ => rfl) (fun v13 => s_any (pc := 44) rw_27_44 (fun _ _ => rfl) (fun v14 => to_is (pc := 45) rw_27_45 (ls2 := [.ref 17, .int p, .long x, .null, .int v14, .int x5, .int v5]) rfl rfl (s_inc (pc := 47) rw_27_47 (ls2 := fun v => [.ref 17, .int p, .long x, .null, .int v14, .int v, .int v5]) rfl rfl (fun _ => rfl) (A := x5.toInt) (B := 1) rfl rfl (by omega) (fun v15 e16 => to_go (pc := 50) rw_27_50 ?_)))))))))))
        exact ih N v14 v15 (.int v5) hG F0 (by omega) (by omega) (by omega) (by omega) (by omega)
set_option maxRecDepth 4000 in
set_option maxHeartbeats 0 in
theorem C_27 {X : mm_X} {d : Nat} {M : mm_M} {Q : Option Value → mm_M → Prop} {p : Int32} {x : Int64} (hX : g_X X) (hd : 1 ≤ d) (hG : g_G M) (q1 : 0 ≤ p.toInt) (q2 : p.toInt ≤ 5) (h : ∀ (r : Int32) (M1 : mm_M), g_G M1 → FR md_0 M M1 → Q (some (.int r)) M1) : mm_T X d 27 0 [.ref 17, .int p, .long x, .null, .null, .null, .null] [] M Q := by
  have F0 : FR md_0 M M := FR.rf
  refine to_c (pc := 0) rw_27_0 (x := (0 : Int32)) rfl rfl (to_is (pc := 1) rw_27_1 (ls2 := [.ref 17, .int p, .long x, .null, .int (0 : Int32), .null, .null]) rfl rfl (to_c (pc := 3) rw_27_3 (x := (0 : Int32)) rfl rfl (to_is (pc := 4) rw_27_4 (ls2 := [.ref 17, .int p, .long x, .null, .int (0 : Int32), .int (0 : Int32), .null]) rfl rfl ?_)))
  have k_17 : (0 : Int32).toInt = 0 := rfl
  exact (T_27_0 (p := p) (x := x) hX hd q1 q2 h ((30 - (0 : Int32).toInt).toNat + 1)) M (0 : Int32) (0 : Int32) (.null) hG F0 (by omega) (by omega) (by omega) (by omega) (by omega)
set_option maxRecDepth 4000 in
set_option maxHeartbeats 0 in
theorem T_28_0 {X : mm_X} {d : Nat} {M : mm_M} {Q : Option Value → mm_M → Prop} {f : Int32} {a : Int32} {b : Int32} {x : Int64} (hX : g_X X) (hd : 1 ≤ d) (q1 : 0 ≤ f.toInt) (q2 : f.toInt ≤ 5) (q3 : 0 ≤ a.toInt) (q4 : a.toInt ≤ 5) (q5 : 0 ≤ b.toInt) (q6 : b.toInt ≤ 5) (h : ∀ (M1 : mm_M), g_G M1 → FR md_c8 M M1 → Q (none) M1) : ∀ nn9 : Nat, (∀ (N : mm_M) (u1 : Value) (x6 : Int32) (x7 : Int32), g_G N → FR md_c8 M N → (0 ≤ x7.toInt) → (x7.toInt ≤ 30) → (0 ≤ x6.toInt) → (x6.toInt ≤ 30) → (0 ≤ a.toInt) → (a.toInt ≤ 5) → (0 ≤ b.toInt) → (b.toInt ≤ 5) → 30 - x7.toInt < (nn9 : Int) → mm_T X d 28 50 [.ref 17, u1, .int a, .int b, .long x, .null, .int x6, .int x7] [] N Q) := by
  intro nn9
  induction nn9 with
  | zero =>
    intro N u1 x6 x7 hG F0 g1 g2 g3 g4 g5 g6 g7 g8 hm
    exfalso; omega
  | succ nn9 ih =>
    intro N u1 x6 x7 hG F0 g1 g2 g3 g4 g5 g6 g7 g8 hm
    refine to_i (pc := 50) rw_28_50 rfl (to_i (pc := 52) rw_28_52 rfl (b_cge (pc := 54) rw_28_54 (A := x7.toInt) (B := x6.toInt) rfl rfl (fun h1 => ?_) (fun h1 => ?_)))
    · refine to_rv (pc := 95) rw_28_95 ?_
      exact h N hG F0 
    · refine to_an (pc := 57) rw_28_57 rfl (to_an (pc := 58) rw_28_58 rfl (to_an (pc := 59) rw_28_59 rfl (s_gR (pc := 60) rw_28_60 hG rfl (v := 26) rfl (to_i (pc := 63) rw_28_63 rfl (s_ial (pc := 65) rw_28_65 hG rfl (n := 30) rfl rfl (A := x7.toInt) rfl (by omega) (by omega) (lo := 0) (hi := 29) rfl rfl (fun v2 w_3 _ _ => to_l (pc := 66) rw_28_66 rfl rfl rfl (s_v (pc := 68) rw_28_68 (dp0 hd (by decide)) (ls0 := [.ref 17, .int v2, .long x, .null]) rfl (Nat.le_of_ble_eq_true rfl) (Nat.le_of_ble_eq_true rfl) rfl (to_rc rfl rfl rfl (g_o hG rfl)) rfl (to_an (pc := 0) rw_26_0 rfl (s_gR (pc := 1) rw_26_1 hG rfl (v := 27) rfl (to_in (pc := 4) rw_26_4 rfl (s_lal (pc := 5) rw_26_5 hG rfl (n := 30) rfl (A := v2.toInt) rfl (by omega) (by omega) (fun l4 => ?_))))))))))))
      refine to_ln (pc := 6) rw_26_6 rfl rfl rfl (s_anyL (pc := 7) rw_26_7 (fun _ _ => rfl) (fun l5 => to_ln (pc := 8) rw_26_8 rfl rfl rfl (s_lcmp (pc := 9) rw_26_9 (fun v6 => b_ine (pc := 10) rw_26_10 (A := v6.toInt) rfl (fun h7 => ?_) (fun h7 => ?_)))))
      · refine to_c (pc := 17) rw_26_17 (x := (0 : Int32)) rfl rfl (s_r1 (pc := 18) rw_26_18 (A := 0) rfl (by decide) (b_ieq_t (pc := 71) rw_28_71 (A := 0) rfl (by decide) (to_in (pc := 78) rw_28_78 rfl (to_an (pc := 79) rw_28_79 rfl (s_gR (pc := 80) rw_28_80 hG rfl (v := 26) rfl (to_i (pc := 83) rw_28_83 rfl (s_ialk (pc := 85) rw_28_85 hG rfl (n := 30) rfl rfl (A := x7.toInt) rfl (by omega) (by omega) (v := v2) w_3 (s_v (pc := 86) rw_28_86 (dp0 hd (by decide)) (ls0 := [.ref 17, .int b, .int v2]) rfl (Nat.le_of_ble_eq_true rfl) (Nat.le_of_ble_eq_true rfl) rfl (to_rc rfl rfl rfl (g_o hG rfl)) rfl (C_23 hX (dp1 hd (by decide)) hG (by omega) (by omega) (by omega) (by omega) (p := b) (c := v2) (fun M12 hG11 F10 => ?_))))))))))
        have F13 := FR.c F0 F10 tg_126
        refine s_inc (pc := 89) rw_28_89 (ls2 := fun v => [.ref 17, u1, .int a, .int b, .long x, .null, .int x6, .int v]) rfl rfl (fun _ => rfl) (A := x7.toInt) (B := 1) rfl rfl (by omega) (fun v14 e15 => to_go (pc := 92) rw_28_92 ?_)
        exact ih M12 (u1) x6 v14 hG11 F13 (by omega) (by omega) (by omega) (by omega) (by omega) (by omega) (by omega) (by omega) (by omega)
      · refine to_c (pc := 13) rw_26_13 (x := (1 : Int32)) rfl rfl (to_go (pc := 14) rw_26_14 (s_r1 (pc := 18) rw_26_18 (A := 1) rfl (by decide) (b_ieq_f (pc := 71) rw_28_71 (A := 1) rfl (by decide) (to_in (pc := 74) rw_28_74 rfl (to_go (pc := 75) rw_28_75 (to_an (pc := 79) rw_28_79 rfl (s_gR (pc := 80) rw_28_80 hG rfl (v := 26) rfl (to_i (pc := 83) rw_28_83 rfl (s_ialk (pc := 85) rw_28_85 hG rfl (n := 30) rfl rfl (A := x7.toInt) rfl (by omega) (by omega) (v := v2) w_3 (s_v (pc := 86) rw_28_86 (dp0 hd (by decide)) (ls0 := [.ref 17, .int a, .int v2]) rfl (Nat.le_of_ble_eq_true rfl) (Nat.le_of_ble_eq_true rfl) rfl (to_rc rfl rfl rfl (g_o hG rfl)) rfl (C_23 hX (dp1 hd (by decide)) hG (by omega) (by omega) (by omega) (by omega) (p := a) (c := v2) (fun M20 hG19 F18 => ?_))))))))))))
        have F21 := FR.c F0 F18 tg_126
        refine s_inc (pc := 89) rw_28_89 (ls2 := fun v => [.ref 17, u1, .int a, .int b, .long x, .null, .int x6, .int v]) rfl rfl (fun _ => rfl) (A := x7.toInt) (B := 1) rfl rfl (by omega) (fun v22 e23 => to_go (pc := 92) rw_28_92 ?_)
        exact ih M20 (u1) x6 v22 hG19 F21 (by omega) (by omega) (by omega) (by omega) (by omega) (by omega) (by omega) (by omega) (by omega)
set_option maxRecDepth 4000 in
set_option maxHeartbeats 0 in
theorem T_28_1 {X : mm_X} {d : Nat} {M : mm_M} {Q : Option Value → mm_M → Prop} {f : Int32} {a : Int32} {b : Int32} {x : Int64} (hX : g_X X) (hd : 1 ≤ d) (q1 : 0 ≤ f.toInt) (q2 : f.toInt ≤ 5) (q3 : 0 ≤ a.toInt) (q4 : a.toInt ≤ 5) (q5 : 0 ≤ b.toInt) (q6 : b.toInt ≤ 5) (h : ∀ (M1 : mm_M), g_G M1 → FR md_c8 M M1 → Q (none) M1) : ∀ nn9 : Nat, (∀ (N : mm_M) (x6 : Int32) (x7 : Int32), g_G N → FR md_c8 M N → (0 ≤ x7.toInt) → (x7.toInt ≤ 30) → (0 ≤ x6.toInt) → (x6.toInt ≤ 30) → (0 ≤ f.toInt) → (f.toInt ≤ 5) → (0 ≤ a.toInt) → (a.toInt ≤ 5) → (0 ≤ b.toInt) → (b.toInt ≤ 5) → 30 - x7.toInt < (nn9 : Int) → mm_T X d 28 11 [.ref 17, .int f, .int a, .int b, .long x, .null, .int x6, .int x7] [] N Q) := by
  intro nn9
  induction nn9 with
  | zero =>
    intro N x6 x7 hG F0 g1 g2 g3 g4 g5 g6 g7 g8 g9 g10 hm
    exfalso; omega
  | succ nn9 ih =>
    intro N x6 x7 hG F0 g1 g2 g3 g4 g5 g6 g7 g8 g9 g10 hm
    refine to_i (pc := 11) rw_28_11 rfl (to_i (pc := 13) rw_28_13 rfl (b_cge (pc := 15) rw_28_15 (A := x7.toInt) (B := x6.toInt) rfl rfl (fun h24 => ?_) (fun h24 => ?_)))
    · refine to_an (pc := 40) rw_28_40 rfl (s_gR (pc := 41) rw_28_41 hG rfl (v := 25) rfl (to_in (pc := 44) rw_28_44 rfl (to_c (pc := 45) rw_28_45 (x := (0 : Int32)) rfl rfl (s_ias (pc := 46) rw_28_46 hG rfl (n := 6) rfl (A := f.toInt) rfl (by omega) (by omega) (fun M26 W25 => ?_)))))
      have hG27 := g_w hG W25 (A := 0) rfl (lo := 0) (hi := 30) rfl rfl (by omega) (by decide)
      have F28 := FR.w F0 W25 (show 18 ≤ 25 ∧ 25 ≤ 27 by decide)
      refine to_c (pc := 47) rw_28_47 (x := (0 : Int32)) rfl rfl (to_is (pc := 48) rw_28_48 (ls2 := [.ref 17, .int f, .int a, .int b, .long x, .null, .int x6, .int (0 : Int32)]) rfl rfl ?_)
      have k_29 : (0 : Int32).toInt = 0 := rfl
      exact (T_28_0 (f := f) (a := a) (b := b) (x := x) hX hd q1 q2 q3 q4 q5 q6 h ((30 - (0 : Int32).toInt).toNat + 1)) M26 (.int f) x6 (0 : Int32) hG27 F28 (by omega) (by omega) (by omega) (by omega) (by omega) (by omega) (by omega) (by omega) (by omega)
    · refine to_an (pc := 18) rw_28_18 rfl (s_gR (pc := 19) rw_28_19 hG rfl (v := 26) rfl (to_i (pc := 22) rw_28_22 rfl (to_an (pc := 24) rw_28_24 rfl (s_gR (pc := 25) rw_28_25 hG rfl (v := 18) rfl (to_in (pc := 28) rw_28_28 rfl (s_aal (pc := 29) rw_28_29 hG (A := f.toInt) rfl (by omega) (by omega) (fun r30 hr30 => to_i (pc := 30) rw_28_30 rfl (s_ial (pc := 32) rw_28_32 hG (by rcases rr_6 hr30 with z | z | z | z | z | z <;> rw [z] <;> rfl) (n := 30) (by rcases rr_6 hr30 with z | z | z | z | z | z <;> rw [z] <;> rfl) (by rcases rr_6 hr30 with z | z | z | z | z | z <;> rw [z] <;> rfl) (A := x7.toInt) rfl (by omega) (by omega) (lo := 0) (hi := 29) (by rcases rr_6 hr30 with z | z | z | z | z | z <;> rw [z] <;> rfl) (by rcases rr_6 hr30 with z | z | z | z | z | z <;> rw [z] <;> rfl) (fun v31 w_32 _ _ => s_ias (pc := 33) rw_28_33 hG rfl (n := 30) rfl (A := x7.toInt) rfl (by omega) (by omega) (fun M34 W33 => ?_))))))))))
      have hG35 := g_w hG W33 (A := v31.toInt) rfl (lo := 0) (hi := 29) rfl rfl (by omega) (by decide)
      have F36 := FR.w F0 W33 (show 18 ≤ 26 ∧ 26 ≤ 27 by decide)
      refine s_inc (pc := 34) rw_28_34 (ls2 := fun v => [.ref 17, .int f, .int a, .int b, .long x, .null, .int x6, .int v]) rfl rfl (fun _ => rfl) (A := x7.toInt) (B := 1) rfl rfl (by omega) (fun v37 e38 => to_go (pc := 37) rw_28_37 ?_)
      exact ih M34 x6 v37 hG35 F36 (by omega) (by omega) (by omega) (by omega) (by omega) (by omega) (by omega) (by omega) (by omega) (by omega) (by omega)
set_option maxRecDepth 4000 in
set_option maxHeartbeats 0 in
theorem C_28 {X : mm_X} {d : Nat} {M : mm_M} {Q : Option Value → mm_M → Prop} {f : Int32} {a : Int32} {b : Int32} {x : Int64} (hX : g_X X) (hd : 1 ≤ d) (hG : g_G M) (q1 : 0 ≤ f.toInt) (q2 : f.toInt ≤ 5) (q3 : 0 ≤ a.toInt) (q4 : a.toInt ≤ 5) (q5 : 0 ≤ b.toInt) (q6 : b.toInt ≤ 5) (h : ∀ (M1 : mm_M), g_G M1 → FR md_c8 M M1 → Q (none) M1) : mm_T X d 28 0 [.ref 17, .int f, .int a, .int b, .long x, .null, .null, .null] [] M Q := by
  have F0 : FR md_c8 M M := FR.rf
  refine to_an (pc := 0) rw_28_0 rfl (s_gR (pc := 1) rw_28_1 hG rfl (v := 25) rfl (to_in (pc := 4) rw_28_4 rfl (s_ial (pc := 5) rw_28_5 hG rfl (n := 6) rfl rfl (A := f.toInt) rfl (by omega) (by omega) (lo := 0) (hi := 30) rfl rfl (fun v39 w_40 _ _ => to_is (pc := 6) rw_28_6 (ls2 := [.ref 17, .int f, .int a, .int b, .long x, .null, .int v39, .null]) rfl rfl (to_c (pc := 8) rw_28_8 (x := (0 : Int32)) rfl rfl (to_is (pc := 9) rw_28_9 (ls2 := [.ref 17, .int f, .int a, .int b, .long x, .null, .int v39, .int (0 : Int32)]) rfl rfl ?_))))))
  have k_41 : (0 : Int32).toInt = 0 := rfl
  exact (T_28_1 (f := f) (a := a) (b := b) (x := x) hX hd q1 q2 q3 q4 q5 q6 h ((30 - (0 : Int32).toInt).toNat + 1)) M v39 (0 : Int32) hG F0 (by omega) (by omega) (by omega) (by omega) (by omega) (by omega) (by omega) (by omega) (by omega) (by omega) (by omega)
end
section
theorem tg_127 : ∀ a i : Nat, (36 ≤ a ∧ a ≤ 38) → (36 ≤ a ∧ a ≤ 38) := fun a i z => by omega
theorem tg_128 : ∀ a i : Nat, (a < 0) → (36 ≤ a ∧ a ≤ 38) := fun a i z => by omega
theorem tg_129 : ∀ a i : Nat, (a < 0) → (a = 39 ∧ 4 ≤ i) := fun a i z => by omega
theorem tg_130 : ∀ a i : Nat, (a = 39 ∧ 4 ≤ i) → (a = 39 ∧ 4 ≤ i) := fun a i z => by omega
theorem tg_131 : ∀ a i : Nat, (a < 0) → (39 ≤ a ∧ a ≤ 41) := fun a i z => by omega
theorem tg_132 : ∀ a i : Nat, (a = 39 ∧ 4 ≤ i) → (39 ≤ a ∧ a ≤ 41) := fun a i z => by omega
set_option maxRecDepth 4000 in
set_option maxHeartbeats 0 in
theorem T_3_0 {X : mm_X} {d : Nat} {M : mm_M} {Q : Option Value → mm_M → Prop} {c : Int32} {y : Int32} (hX : g_X X) (hd : 0 ≤ d) (q1 : c.toInt ≤ 30) (h : ∀ (r : Int32) (M1 : mm_M), g_G M1 → FR md_0 M M1 → Q (some (.int r)) M1) : ∀ nn9 : Nat, (∀ (N : mm_M) (x3 : Int32) (x4 : Int32), g_G N → FR md_0 M N → (0 ≤ x4.toInt) → (x4.toInt ≤ 30) → (c.toInt ≤ 30) → 30 - x4.toInt < (nn9 : Int) → mm_T X d 3 5 [.ref 11, .int c, .int y, .int x3, .int x4] [] N Q) := by
  intro nn9
  induction nn9 with
  | zero =>
    intro N x3 x4 hG F0 g1 g2 g3 hm
    exfalso; omega
  | succ nn9 ih =>
    intro N x3 x4 hG F0 g1 g2 g3 hm
    refine to_i (pc := 5) rw_3_5 rfl (to_in (pc := 7) rw_3_7 rfl (b_cge (pc := 8) rw_3_8 (A := x4.toInt) (B := c.toInt) rfl rfl (fun h1 => ?_) (fun h1 => ?_)))
    · refine to_in (pc := 35) rw_3_35 rfl (to_r0 (pc := 36) rw_3_36 ?_)
      exact h x3 N hG F0 
    · refine to_in (pc := 11) rw_3_11 rfl (to_an (pc := 12) rw_3_12 rfl (s_gR (pc := 13) rw_3_13 hG rfl (v := 12) rfl (to_i (pc := 16) rw_3_16 rfl (s_lal (pc := 18) rw_3_18 hG rfl (n := 30) rfl (A := x4.toInt) rfl (by omega) (by omega) (fun l2 => to_in (pc := 19) rw_3_19 rfl (s_anyS (pc := 20) rw_3_20 (fun _ _ => rfl) (fun l3 => s_cl (pc := 21) rw_3_21 rfl (fun l4 => s_anyL (pc := 22) rw_3_22 (fun _ _ => rfl) (fun l5 => s_l2i (pc := 23) rw_3_23 (fun v6 => to_i (pc := 24) rw_3_24 rfl (s_any (pc := 26) rw_3_26 (fun _ _ => rfl) (fun v7 => ?_))))))))))))
      refine s_any (pc := 27) rw_3_27 (fun _ _ => rfl) (fun v8 => to_isn (pc := 28) rw_3_28 (ls2 := [.ref 11, .int c, .int y, .int v8, .int x4]) rfl rfl (s_inc (pc := 29) rw_3_29 (ls2 := fun v => [.ref 11, .int c, .int y, .int v8, .int v]) rfl rfl (fun _ => rfl) (A := x4.toInt) (B := 1) rfl rfl (by omega) (fun v9 e10 => to_go (pc := 32) rw_3_32 ?_)))
      exact ih N v8 v9 hG F0 (by omega) (by omega) (by omega) (by omega)
set_option maxRecDepth 4000 in
set_option maxHeartbeats 0 in
theorem C_3 {X : mm_X} {d : Nat} {M : mm_M} {Q : Option Value → mm_M → Prop} {c : Int32} {y : Int32} (hX : g_X X) (hd : 0 ≤ d) (hG : g_G M) (q1 : c.toInt ≤ 30) (h : ∀ (r : Int32) (M1 : mm_M), g_G M1 → FR md_0 M M1 → Q (some (.int r)) M1) : mm_T X d 3 0 [.ref 11, .int c, .int y, .null, .null] [] M Q := by
  have F0 : FR md_0 M M := FR.rf
  refine to_c (pc := 0) rw_3_0 (x := (0 : Int32)) rfl rfl (to_isn (pc := 1) rw_3_1 (ls2 := [.ref 11, .int c, .int y, .int (0 : Int32), .null]) rfl rfl (to_c (pc := 2) rw_3_2 (x := (0 : Int32)) rfl rfl (to_is (pc := 3) rw_3_3 (ls2 := [.ref 11, .int c, .int y, .int (0 : Int32), .int (0 : Int32)]) rfl rfl ?_)))
  have k_11 : (0 : Int32).toInt = 0 := rfl
  exact (T_3_0 (c := c) (y := y) hX hd q1 h ((30 - (0 : Int32).toInt).toNat + 1)) M (0 : Int32) (0 : Int32) hG F0 (by omega) (by omega) (by omega) (by omega)
set_option maxRecDepth 4000 in
set_option maxHeartbeats 0 in
theorem T_4_0 {X : mm_X} {d : Nat} {M : mm_M} {Q : Option Value → mm_M → Prop} {p : Nat} {w : Int32} {y : Int32} (hX : g_X X) (hd : 0 ≤ d) (hp : p = 49 ∨ p = 58) (h : ∀ (r : Int32) (M1 : mm_M), g_G M1 → FR md_0 M M1 → Q (some (.int r)) M1) : ∀ nn9 : Nat, (∀ (N : mm_M) (x4 : Int32) (x5 : Int32), g_G N → FR md_0 M N → (0 ≤ x5.toInt) → (x5.toInt ≤ 12) → 12 - x5.toInt < (nn9 : Int) → mm_T X d 4 6 [.ref p, .ref 11, .int w, .int y, .int x4, .int x5] [] N Q) := by
  intro nn9
  induction nn9 with
  | zero =>
    intro N x4 x5 hG F0 g1 g2 hm
    exfalso; omega
  | succ nn9 ih =>
    intro N x4 x5 hG F0 g1 g2 hm
    refine to_i (pc := 6) rw_4_6 rfl (to_an (pc := 8) rw_4_8 rfl ?_)
    have b_1 := g_b hG (a := p) (i := 3) (lo := 0) (hi := 12) (by rcases hp with rfl | rfl <;> rfl) (by rcases hp with rfl | rfl <;> rfl)
    refine tt_gI (pc := 9) rw_4_9 (g_o hG (by rcases hp with rfl | rfl <;> rfl)) (v := (N.2.1 p 3)) rfl (b_cge (pc := 12) rw_4_12 (A := x5.toInt) (B := (N.2.1 p 3).toInt) rfl rfl (fun h2 => ?_) (fun h2 => ?_))
    · refine to_i (pc := 46) rw_4_46 rfl (to_r0 (pc := 48) rw_4_48 ?_)
      exact h x4 N hG F0 
    · refine to_i (pc := 15) rw_4_15 rfl (to_in (pc := 17) rw_4_17 rfl (b_ceq (pc := 18) rw_4_18 (A := x5.toInt) (B := w.toInt) rfl rfl (fun h3 => ?_) (fun h3 => ?_)))
      · refine s_inc (pc := 40) rw_4_40 (ls2 := fun v => [.ref p, .ref 11, .int w, .int y, .int x4, .int v]) rfl rfl (fun _ => rfl) (A := x5.toInt) (B := 1) rfl rfl (by omega) (fun v4 e5 => to_go (pc := 43) rw_4_43 ?_)
        exact ih N x4 v4 hG F0 (by omega) (by omega) (by omega)
      · refine to_an (pc := 21) rw_4_21 rfl (s_gR (pc := 22) rw_4_22 hG rfl (v := 15) rfl (to_i (pc := 25) rw_4_25 rfl (s_lal (pc := 27) rw_4_27 hG rfl (n := 12) rfl (A := x5.toInt) rfl (by omega) (by omega) (fun l6 => to_in (pc := 28) rw_4_28 rfl (s_anyS (pc := 29) rw_4_29 (fun _ _ => rfl) (fun l7 => s_cl (pc := 30) rw_4_30 rfl (fun l8 => s_anyL (pc := 31) rw_4_31 (fun _ _ => rfl) (fun l9 => s_cl (pc := 32) rw_4_32 rfl (fun l10 => s_lcmp (pc := 33) rw_4_33 (fun v11 => b_ieq (pc := 34) rw_4_34 (A := v11.toInt) rfl (fun h12 => ?_) (fun h12 => ?_)))))))))))
        · refine s_inc (pc := 40) rw_4_40 (ls2 := fun v => [.ref p, .ref 11, .int w, .int y, .int x4, .int v]) rfl rfl (fun _ => rfl) (A := x5.toInt) (B := 1) rfl rfl (by omega) (fun v13 e14 => to_go (pc := 43) rw_4_43 ?_)
          exact ih N x4 v13 hG F0 (by omega) (by omega) (by omega)
        · refine s_incx (pc := 37) rw_4_37 (ls2 := fun v => [.ref p, .ref 11, .int w, .int y, .int v, .int x5]) rfl rfl (fun _ => rfl) (fun v15 => s_inc (pc := 40) rw_4_40 (ls2 := fun v => [.ref p, .ref 11, .int w, .int y, .int v15, .int v]) rfl rfl (fun _ => rfl) (A := x5.toInt) (B := 1) rfl rfl (by omega) (fun v17 e18 => to_go (pc := 43) rw_4_43 ?_))
          exact ih N v15 v17 hG F0 (by omega) (by omega) (by omega)
set_option maxRecDepth 4000 in
set_option maxHeartbeats 0 in
theorem C_4 {X : mm_X} {d : Nat} {M : mm_M} {Q : Option Value → mm_M → Prop} {p : Nat} {w : Int32} {y : Int32} (hX : g_X X) (hd : 0 ≤ d) (hG : g_G M) (hp : p = 49 ∨ p = 58) (h : ∀ (r : Int32) (M1 : mm_M), g_G M1 → FR md_0 M M1 → Q (some (.int r)) M1) : mm_T X d 4 0 [.ref p, .ref 11, .int w, .int y, .null, .null] [] M Q := by
  have F0 : FR md_0 M M := FR.rf
  refine to_c (pc := 0) rw_4_0 (x := (0 : Int32)) rfl rfl (to_is (pc := 1) rw_4_1 (ls2 := [.ref p, .ref 11, .int w, .int y, .int (0 : Int32), .null]) rfl rfl (to_c (pc := 3) rw_4_3 (x := (0 : Int32)) rfl rfl (to_is (pc := 4) rw_4_4 (ls2 := [.ref p, .ref 11, .int w, .int y, .int (0 : Int32), .int (0 : Int32)]) rfl rfl ?_)))
  have k_19 : (0 : Int32).toInt = 0 := rfl
  exact (T_4_0 (p := p) (w := w) (y := y) hX hd hp h ((12 - (0 : Int32).toInt).toNat + 1)) M (0 : Int32) (0 : Int32) hG F0 (by omega) (by omega) (by omega)
set_option maxRecDepth 4000 in
set_option maxHeartbeats 0 in
theorem C_6 {X : mm_X} {d : Nat} {M : mm_M} {Q : Option Value → mm_M → Prop} {c : Int32} {b : Int32} {s : Int32} (hX : g_X X) (hd : 0 ≤ d) (hG : g_G M) (h : ∀ (M1 : mm_M), g_G M1 → FR md_b M M1 → Q (none) M1) : mm_T X d 6 0 [.ref 36, .int c, .int b, .int s, .null] [] M Q := by
  have F0 : FR md_b M M := FR.rf
  refine to_in (pc := 0) rw_6_0 rfl (to_an (pc := 1) rw_6_1 rfl (tt_gI (pc := 2) rw_6_2 (g_o hG rfl) (v := (M.2.1 36 3)) rfl (b_clt (pc := 5) rw_6_5 (A := b.toInt) (B := (M.2.1 36 3).toInt) rfl rfl (fun h1 => ?_) (fun h1 => ?_))))
  · refine to_c (pc := 24) rw_6_24 (x := (1 : Int32)) rfl rfl (to_go (pc := 25) rw_6_25 (to_is (pc := 29) rw_6_29 (ls2 := [.ref 36, .int c, .int b, .int s, .int (1 : Int32)]) rfl rfl (to_an (pc := 31) rw_6_31 rfl (tt_gI (pc := 32) rw_6_32 (g_o hG rfl) (v := (M.2.1 36 2)) rfl (to_c (pc := 35) rw_6_35 (x := (-1 : Int32)) rfl rfl (b_ceq (pc := 36) rw_6_36 (A := (M.2.1 36 2).toInt) (B := -1) rfl rfl (fun h2 => ?_) (fun h2 => ?_)))))))
    · refine to_an (pc := 44) rw_6_44 rfl (to_in (pc := 45) rw_6_45 rfl (s_pI (pc := 46) rw_6_46 hG rfl (fun M4 W3 => ?_)))
      have hG5 := g_wf hG W3 rfl rfl (by decide)
      have F6 := FR.w F0 W3 (show 36 ≤ 36 ∧ 36 ≤ 38 by decide)
      refine to_an (pc := 49) rw_6_49 rfl (to_in (pc := 50) rw_6_50 rfl (s_pI (pc := 51) rw_6_51 hG5 rfl (fun M8 W7 => ?_)))
      have hG9 := g_wf hG5 W7 rfl rfl (by decide)
      have F10 := FR.w F6 W7 (show 36 ≤ 36 ∧ 36 ≤ 38 by decide)
      refine to_an (pc := 54) rw_6_54 rfl (to_in (pc := 55) rw_6_55 rfl (s_pI (pc := 56) rw_6_56 hG9 rfl (fun M12 W11 => ?_)))
      have hG13 := g_wf hG9 W11 rfl rfl (by decide)
      have F14 := FR.w F10 W11 (show 36 ≤ 36 ∧ 36 ≤ 38 by decide)
      refine to_rv (pc := 59) rw_6_59 ?_
      exact h M12 hG13 F14 
    · refine to_i (pc := 39) rw_6_39 rfl (b_ieq_f (pc := 41) rw_6_41 (A := 1) rfl (by decide) (to_an (pc := 44) rw_6_44 rfl (to_in (pc := 45) rw_6_45 rfl (s_pI (pc := 46) rw_6_46 hG rfl (fun M16 W15 => ?_)))))
      have hG17 := g_wf hG W15 rfl rfl (by decide)
      have F18 := FR.w F0 W15 (show 36 ≤ 36 ∧ 36 ≤ 38 by decide)
      refine to_an (pc := 49) rw_6_49 rfl (to_in (pc := 50) rw_6_50 rfl (s_pI (pc := 51) rw_6_51 hG17 rfl (fun M20 W19 => ?_)))
      have hG21 := g_wf hG17 W19 rfl rfl (by decide)
      have F22 := FR.w F18 W19 (show 36 ≤ 36 ∧ 36 ≤ 38 by decide)
      refine to_an (pc := 54) rw_6_54 rfl (to_in (pc := 55) rw_6_55 rfl (s_pI (pc := 56) rw_6_56 hG21 rfl (fun M24 W23 => ?_)))
      have hG25 := g_wf hG21 W23 rfl rfl (by decide)
      have F26 := FR.w F22 W23 (show 36 ≤ 36 ∧ 36 ≤ 38 by decide)
      refine to_rv (pc := 59) rw_6_59 ?_
      exact h M24 hG25 F26 
  · refine to_in (pc := 8) rw_6_8 rfl (to_an (pc := 9) rw_6_9 rfl (tt_gI (pc := 10) rw_6_10 (g_o hG rfl) (v := (M.2.1 36 3)) rfl (b_cne (pc := 13) rw_6_13 (A := b.toInt) (B := (M.2.1 36 3).toInt) rfl rfl (fun h27 => ?_) (fun h27 => ?_))))
    · refine to_c (pc := 28) rw_6_28 (x := (0 : Int32)) rfl rfl (to_is (pc := 29) rw_6_29 (ls2 := [.ref 36, .int c, .int b, .int s, .int (0 : Int32)]) rfl rfl (to_an (pc := 31) rw_6_31 rfl (tt_gI (pc := 32) rw_6_32 (g_o hG rfl) (v := (M.2.1 36 2)) rfl (to_c (pc := 35) rw_6_35 (x := (-1 : Int32)) rfl rfl (b_ceq (pc := 36) rw_6_36 (A := (M.2.1 36 2).toInt) (B := -1) rfl rfl (fun h28 => ?_) (fun h28 => ?_))))))
      · refine to_an (pc := 44) rw_6_44 rfl (to_in (pc := 45) rw_6_45 rfl (s_pI (pc := 46) rw_6_46 hG rfl (fun M30 W29 => ?_)))
        have hG31 := g_wf hG W29 rfl rfl (by decide)
        have F32 := FR.w F0 W29 (show 36 ≤ 36 ∧ 36 ≤ 38 by decide)
        refine to_an (pc := 49) rw_6_49 rfl (to_in (pc := 50) rw_6_50 rfl (s_pI (pc := 51) rw_6_51 hG31 rfl (fun M34 W33 => ?_)))
        have hG35 := g_wf hG31 W33 rfl rfl (by decide)
        have F36 := FR.w F32 W33 (show 36 ≤ 36 ∧ 36 ≤ 38 by decide)
        refine to_an (pc := 54) rw_6_54 rfl (to_in (pc := 55) rw_6_55 rfl (s_pI (pc := 56) rw_6_56 hG35 rfl (fun M38 W37 => ?_)))
        have hG39 := g_wf hG35 W37 rfl rfl (by decide)
        have F40 := FR.w F36 W37 (show 36 ≤ 36 ∧ 36 ≤ 38 by decide)
        refine to_rv (pc := 59) rw_6_59 ?_
        exact h M38 hG39 F40 
      · refine to_i (pc := 39) rw_6_39 rfl (b_ieq_t (pc := 41) rw_6_41 (A := 0) rfl (by decide) (to_rv (pc := 59) rw_6_59 ?_))
        exact h M hG F0 
    · refine to_in (pc := 16) rw_6_16 rfl (to_an (pc := 17) rw_6_17 rfl (tt_gI (pc := 18) rw_6_18 (g_o hG rfl) (v := (M.2.1 36 4)) rfl (b_cge (pc := 21) rw_6_21 (A := s.toInt) (B := (M.2.1 36 4).toInt) rfl rfl (fun h41 => ?_) (fun h41 => ?_))))
      · refine to_c (pc := 28) rw_6_28 (x := (0 : Int32)) rfl rfl (to_is (pc := 29) rw_6_29 (ls2 := [.ref 36, .int c, .int b, .int s, .int (0 : Int32)]) rfl rfl (to_an (pc := 31) rw_6_31 rfl (tt_gI (pc := 32) rw_6_32 (g_o hG rfl) (v := (M.2.1 36 2)) rfl (to_c (pc := 35) rw_6_35 (x := (-1 : Int32)) rfl rfl (b_ceq (pc := 36) rw_6_36 (A := (M.2.1 36 2).toInt) (B := -1) rfl rfl (fun h42 => ?_) (fun h42 => ?_))))))
        · refine to_an (pc := 44) rw_6_44 rfl (to_in (pc := 45) rw_6_45 rfl (s_pI (pc := 46) rw_6_46 hG rfl (fun M44 W43 => ?_)))
          have hG45 := g_wf hG W43 rfl rfl (by decide)
          have F46 := FR.w F0 W43 (show 36 ≤ 36 ∧ 36 ≤ 38 by decide)
          refine to_an (pc := 49) rw_6_49 rfl (to_in (pc := 50) rw_6_50 rfl (s_pI (pc := 51) rw_6_51 hG45 rfl (fun M48 W47 => ?_)))
          have hG49 := g_wf hG45 W47 rfl rfl (by decide)
          have F50 := FR.w F46 W47 (show 36 ≤ 36 ∧ 36 ≤ 38 by decide)
          refine to_an (pc := 54) rw_6_54 rfl (to_in (pc := 55) rw_6_55 rfl (s_pI (pc := 56) rw_6_56 hG49 rfl (fun M52 W51 => ?_)))
          have hG53 := g_wf hG49 W51 rfl rfl (by decide)
          have F54 := FR.w F50 W51 (show 36 ≤ 36 ∧ 36 ≤ 38 by decide)
          refine to_rv (pc := 59) rw_6_59 ?_
          exact h M52 hG53 F54 
        · refine to_i (pc := 39) rw_6_39 rfl (b_ieq_t (pc := 41) rw_6_41 (A := 0) rfl (by decide) (to_rv (pc := 59) rw_6_59 ?_))
          exact h M hG F0 
      · refine to_c (pc := 24) rw_6_24 (x := (1 : Int32)) rfl rfl (to_go (pc := 25) rw_6_25 (to_is (pc := 29) rw_6_29 (ls2 := [.ref 36, .int c, .int b, .int s, .int (1 : Int32)]) rfl rfl (to_an (pc := 31) rw_6_31 rfl (tt_gI (pc := 32) rw_6_32 (g_o hG rfl) (v := (M.2.1 36 2)) rfl (to_c (pc := 35) rw_6_35 (x := (-1 : Int32)) rfl rfl (b_ceq (pc := 36) rw_6_36 (A := (M.2.1 36 2).toInt) (B := -1) rfl rfl (fun h55 => ?_) (fun h55 => ?_)))))))
        · refine to_an (pc := 44) rw_6_44 rfl (to_in (pc := 45) rw_6_45 rfl (s_pI (pc := 46) rw_6_46 hG rfl (fun M57 W56 => ?_)))
          have hG58 := g_wf hG W56 rfl rfl (by decide)
          have F59 := FR.w F0 W56 (show 36 ≤ 36 ∧ 36 ≤ 38 by decide)
          refine to_an (pc := 49) rw_6_49 rfl (to_in (pc := 50) rw_6_50 rfl (s_pI (pc := 51) rw_6_51 hG58 rfl (fun M61 W60 => ?_)))
          have hG62 := g_wf hG58 W60 rfl rfl (by decide)
          have F63 := FR.w F59 W60 (show 36 ≤ 36 ∧ 36 ≤ 38 by decide)
          refine to_an (pc := 54) rw_6_54 rfl (to_in (pc := 55) rw_6_55 rfl (s_pI (pc := 56) rw_6_56 hG62 rfl (fun M65 W64 => ?_)))
          have hG66 := g_wf hG62 W64 rfl rfl (by decide)
          have F67 := FR.w F63 W64 (show 36 ≤ 36 ∧ 36 ≤ 38 by decide)
          refine to_rv (pc := 59) rw_6_59 ?_
          exact h M65 hG66 F67 
        · refine to_i (pc := 39) rw_6_39 rfl (b_ieq_f (pc := 41) rw_6_41 (A := 1) rfl (by decide) (to_an (pc := 44) rw_6_44 rfl (to_in (pc := 45) rw_6_45 rfl (s_pI (pc := 46) rw_6_46 hG rfl (fun M69 W68 => ?_)))))
          have hG70 := g_wf hG W68 rfl rfl (by decide)
          have F71 := FR.w F0 W68 (show 36 ≤ 36 ∧ 36 ≤ 38 by decide)
          refine to_an (pc := 49) rw_6_49 rfl (to_in (pc := 50) rw_6_50 rfl (s_pI (pc := 51) rw_6_51 hG70 rfl (fun M73 W72 => ?_)))
          have hG74 := g_wf hG70 W72 rfl rfl (by decide)
          have F75 := FR.w F71 W72 (show 36 ≤ 36 ∧ 36 ≤ 38 by decide)
          refine to_an (pc := 54) rw_6_54 rfl (to_in (pc := 55) rw_6_55 rfl (s_pI (pc := 56) rw_6_56 hG74 rfl (fun M77 W76 => ?_)))
          have hG78 := g_wf hG74 W76 rfl rfl (by decide)
          have F79 := FR.w F75 W76 (show 36 ≤ 36 ∧ 36 ≤ 38 by decide)
          refine to_rv (pc := 59) rw_6_59 ?_
          exact h M77 hG78 F79 
noncomputable def RC_5 (k : Int) : Prop := ∀ (X : mm_X) (d : Nat) (M : mm_M) (Q : Option Value → mm_M → Prop) (l : Int32) (b : Int32) (c : Int32) (y : Int32) (s : Int32), g_X X → (1 + l.toInt ≤ (d : Int)) → g_G M → (0 ≤ l.toInt) → (l.toInt ≤ 24) → (b.toInt ≤ 24) → l.toInt < k → (∀ (M1 : mm_M), g_G M1 → FR md_b M M1 → Q (none) M1) → mm_T X d 5 0 [.ref 36, .int l, .int b, .int c, .int y, .int s, .null] [] M Q
set_option maxRecDepth 4000 in
set_option maxHeartbeats 0 in
theorem T_5_0 {X : mm_X} {d : Nat} {M : mm_M} {Q : Option Value → mm_M → Prop} {l : Int32} {b : Int32} {c : Int32} {y : Int32} {s : Int32} (hX : g_X X) (hd : 1 + l.toInt ≤ (d : Int)) (q1 : 0 ≤ l.toInt) (q2 : l.toInt ≤ 24) (q3 : b.toInt ≤ 24) (hr : RC_5 (l.toInt)) (h : ∀ (M1 : mm_M), g_G M1 → FR md_b M M1 → Q (none) M1) : ∀ nn9 : Nat, (∀ (N : mm_M) (x6 : Int32), g_G N → FR md_b M N → (0 ≤ x6.toInt) → (x6.toInt ≤ 24) → (b.toInt ≤ 24) → (1 ≤ l.toInt) → (l.toInt ≤ 24) → (l.toInt = l.toInt) → 24 - x6.toInt < (nn9 : Int) → mm_T X d 5 22 [.ref 36, .int l, .int b, .int c, .int y, .int s, .int x6] [] N Q) := by
  intro nn9
  induction nn9 with
  | zero =>
    intro N x6 hG F0 g1 g2 g3 g4 g5 g6 hm
    exfalso; omega
  | succ nn9 ih =>
    intro N x6 hG F0 g1 g2 g3 g4 g5 g6 hm
    refine to_i (pc := 22) rw_5_22 rfl (to_in (pc := 24) rw_5_24 rfl (b_cge (pc := 25) rw_5_25 (A := x6.toInt) (B := b.toInt) rfl rfl (fun h1 => ?_) (fun h1 => ?_)))
    · refine to_rv (pc := 69) rw_5_69 ?_
      exact h N hG F0 
    · refine to_an (pc := 28) rw_5_28 rfl (to_in (pc := 29) rw_5_29 rfl (to_c (pc := 30) rw_5_30 (x := (1 : Int32)) rfl rfl (s_sub (pc := 31) rw_5_31 (A := l.toInt) (B := 1) rfl rfl (by omega) (fun v2 e3 => to_i (pc := 32) rw_5_32 rfl (to_in (pc := 34) rw_5_34 rfl (to_c (pc := 35) rw_5_35 (x := (1 : Int32)) rfl rfl (to_i (pc := 36) rw_5_36 rfl (s_any (pc := 38) rw_5_38 (fun _ _ => rfl) (fun v4 => s_any (pc := 39) rw_5_39 (fun _ _ => rfl) (fun v5 => to_i (pc := 40) rw_5_40 rfl (to_an (pc := 42) rw_5_42 rfl ?_)))))))))))
      refine s_gR (pc := 43) rw_5_43 hG rfl (v := 37) rfl (to_i (pc := 46) rw_5_46 rfl (s_ial (pc := 48) rw_5_48 hG rfl (n := 24) rfl rfl (A := x6.toInt) rfl (by omega) (by omega) (lo := -2147483648) (hi := 2147483647) rfl rfl (fun v6 w_7 _ _ => s_any (pc := 49) rw_5_49 (fun _ _ => rfl) (fun v8 => to_i (pc := 50) rw_5_50 rfl (to_an (pc := 52) rw_5_52 rfl (s_gR (pc := 53) rw_5_53 hG rfl (v := 38) rfl (to_i (pc := 56) rw_5_56 rfl (s_ial (pc := 58) rw_5_58 hG rfl (n := 24) rfl rfl (A := x6.toInt) rfl (by omega) (by omega) (lo := -2147483648) (hi := 2147483647) rfl rfl (fun v10 w_11 _ _ => s_any (pc := 59) rw_5_59 (fun _ _ => rfl) (fun v12 => s_v (pc := 60) rw_5_60 (by omega) (ls0 := [.ref 36, .int v2, .int x6, .int v5, .int v8, .int v12, .null]) rfl (Nat.le_of_ble_eq_true rfl) (Nat.le_of_ble_eq_true rfl) rfl (to_rc rfl rfl rfl (g_o hG rfl)) rfl (hr X _ _ _ v2 x6 v5 v8 v12 hX (by omega) hG (by omega) (by omega) (by omega) (by omega) (fun M15 hG14 F13 => ?_))))))))))))
      have F16 := FR.c F0 F13 tg_127
      refine s_inc (pc := 63) rw_5_63 (ls2 := fun v => [.ref 36, .int l, .int b, .int c, .int y, .int s, .int v]) rfl rfl (fun _ => rfl) (A := x6.toInt) (B := 1) rfl rfl (by omega) (fun v17 e18 => to_go (pc := 66) rw_5_66 ?_)
      exact ih M15 v17 hG14 F16 (by omega) (by omega) (by omega) (by omega) (by omega) (by omega) (by omega)
set_option maxRecDepth 4000 in
set_option maxHeartbeats 0 in
theorem B_5 {X : mm_X} {d : Nat} {M : mm_M} {Q : Option Value → mm_M → Prop} {l : Int32} {b : Int32} {c : Int32} {y : Int32} {s : Int32} (hX : g_X X) (hd : 1 + l.toInt ≤ (d : Int)) (hG : g_G M) (q1 : 0 ≤ l.toInt) (q2 : l.toInt ≤ 24) (q3 : b.toInt ≤ 24) (hr : RC_5 (l.toInt)) (h : ∀ (M1 : mm_M), g_G M1 → FR md_b M M1 → Q (none) M1) : mm_T X d 5 0 [.ref 36, .int l, .int b, .int c, .int y, .int s, .null] [] M Q := by
  have F0 : FR md_b M M := FR.rf
  refine to_in (pc := 0) rw_5_0 rfl (b_igt (pc := 1) rw_5_1 (A := l.toInt) rfl (fun h19 => ?_) (fun h19 => ?_))
  · refine to_in (pc := 17) rw_5_17 rfl (to_c (pc := 18) rw_5_18 (x := (1 : Int32)) rfl rfl (s_sub (pc := 19) rw_5_19 (A := l.toInt) (B := 1) rfl rfl (by omega) (fun v20 e21 => to_is (pc := 20) rw_5_20 (ls2 := [.ref 36, .int l, .int b, .int c, .int y, .int s, .int v20]) rfl rfl ?_)))
    exact (T_5_0 (l := l) (b := b) (c := c) (y := y) (s := s) hX hd q1 q2 q3 hr h ((24 - v20.toInt).toNat + 1)) M v20 hG F0 (by omega) (by omega) (by omega) (by omega) (by omega) (by omega) (by omega)
  · refine to_an (pc := 4) rw_5_4 rfl (to_in (pc := 5) rw_5_5 rfl (to_i (pc := 6) rw_5_6 rfl (s_s (pc := 8) rw_5_8 (by omega) (ls0 := [.int y]) rfl (Nat.le_of_ble_eq_true rfl) (Nat.le_of_ble_eq_true rfl) rfl (to_rcs rfl rfl) rfl (C_247 hX (by omega) hG (x := y) (fun r22 M25 hG24 F23 => ?_)))))
    have F26 := FR.c F0 F23 tg_128
    refine to_i (pc := 11) rw_5_11 rfl (s_v (pc := 13) rw_5_13 (by omega) (ls0 := [.ref 36, .int c, .int r22, .int s, .null]) rfl (Nat.le_of_ble_eq_true rfl) (Nat.le_of_ble_eq_true rfl) rfl (to_rc rfl rfl rfl (g_o hG24 rfl)) rfl (C_6 hX (by omega) hG24 (c := c) (b := r22) (s := s) (fun M29 hG28 F27 => ?_)))
    have F30 := FR.c F26 F27 tg_127
    refine to_rv (pc := 16) rw_5_16 ?_
    exact h M29 hG28 F30 
theorem RC_5_all : ∀ nn : Nat, RC_5 (nn : Int) := by
  intro nn
  induction nn with
  | zero =>
    intro X d M Q l b c y s hX hd hG q1 q2 q3 hm h
    exfalso; omega
  | succ nn ih =>
    intro X d M Q l b c y s hX hd hG q1 q2 q3 hm h
    exact B_5 hX hd hG q1 q2 q3 (fun X2 d2 M2 Q2 l2 b2 c2 y2 s2 e71 e72 e73 q12 q22 q32 hm2 h2 => ih X2 d2 M2 Q2 l2 b2 c2 y2 s2 e71 e72 e73 q12 q22 q32 (by omega) h2) h
theorem C_5 {X : mm_X} {d : Nat} {M : mm_M} {Q : Option Value → mm_M → Prop} {l : Int32} {b : Int32} {c : Int32} {y : Int32} {s : Int32} (hX : g_X X) (hd : 1 + l.toInt ≤ (d : Int)) (hG : g_G M) (q1 : 0 ≤ l.toInt) (q2 : l.toInt ≤ 24) (q3 : b.toInt ≤ 24) (h : ∀ (M1 : mm_M), g_G M1 → FR md_b M M1 → Q (none) M1) : mm_T X d 5 0 [.ref 36, .int l, .int b, .int c, .int y, .int s, .null] [] M Q := RC_5_all ((l.toInt).toNat + 1) X d M Q l b c y s hX hd hG q1 q2 q3 (by omega) h
set_option maxRecDepth 4000 in
set_option maxHeartbeats 0 in
theorem T_2_0 {X : mm_X} {d : Nat} {M : mm_M} {Q : Option Value → mm_M → Prop} {p : Nat} {c : Int32} {w : Int32} (hX : g_X X) (hd : 27 ≤ d) (hp : p = 49 ∨ p = 58) (q1 : 0 ≤ c.toInt) (q2 : c.toInt ≤ 30) (q3 : 0 ≤ w.toInt) (q4 : w.toInt ≤ 11) (h : ∀ (r : Int32) (M1 : mm_M), g_G M1 → FR md_b M M1 → Q (some (.int r)) M1) : ∀ nn9 : Nat, (∀ (N : mm_M) (x5 : Int32) (x6 : Int32) (x7 : Int32) (x8 : Int32) (u9 : Value), g_G N → FR md_b M N → (0 ≤ x8.toInt) → (x8.toInt ≤ 24) → (0 ≤ c.toInt) → (c.toInt ≤ 30) → (0 ≤ x5.toInt) → (x5.toInt ≤ 7) → (x7.toInt ≤ 24) → (0 ≤ w.toInt) → (w.toInt ≤ 11) → 24 - x8.toInt < (nn9 : Int) → mm_T X d 2 63 [.ref 36, .ref p, .ref 11, .int c, .int w, .int x5, .int x6, .int x7, .int x8, u9] [] N Q) := by
  intro nn9
  induction nn9 with
  | zero =>
    intro N x5 x6 x7 x8 u9 hG F0 g1 g2 g3 g4 g5 g6 g7 g8 g9 hm
    exfalso; omega
  | succ nn9 ih =>
    intro N x5 x6 x7 x8 u9 hG F0 g1 g2 g3 g4 g5 g6 g7 g8 g9 hm
    refine to_i (pc := 63) rw_2_63 rfl (to_i (pc := 65) rw_2_65 rfl (b_cge (pc := 67) rw_2_67 (A := x8.toInt) (B := x7.toInt) rfl rfl (fun h1 => ?_) (fun h1 => ?_)))
    · refine to_an (pc := 121) rw_2_121 rfl (to_c (pc := 122) rw_2_122 (x := (-1 : Int32)) rfl rfl (s_pI (pc := 123) rw_2_123 hG rfl (fun M3 W2 => ?_)))
      have hG4 := g_wf hG W2 rfl rfl (by decide)
      have F5 := FR.w F0 W2 (show 36 ≤ 36 ∧ 36 ≤ 38 by decide)
      refine to_an (pc := 126) rw_2_126 rfl (to_an (pc := 127) rw_2_127 rfl (s_gR (pc := 128) rw_2_128 hG4 (by rcases hp with rfl | rfl <;> rfl) (v := (p + 5)) (by rcases hp with rfl | rfl <;> rfl) (to_i (pc := 131) rw_2_131 rfl (s_ial (pc := 133) rw_2_133 hG4 (by rcases hp with rfl | rfl <;> rfl) (n := 8) (by rcases hp with rfl | rfl <;> rfl) (by rcases hp with rfl | rfl <;> rfl) (A := x5.toInt) rfl (by omega) (by omega) (lo := 0) (hi := 24) (by rcases hp with rfl | rfl <;> rfl) (by rcases hp with rfl | rfl <;> rfl) (fun v6 w_7 _ _ => to_i (pc := 134) rw_2_134 rfl (to_c (pc := 136) rw_2_136 (x := (0 : Int32)) rfl rfl (to_i (pc := 137) rw_2_137 rfl (to_c (pc := 139) rw_2_139 (x := (0 : Int32)) rfl rfl (s_v (pc := 140) rw_2_140 (dp0 hd (by decide)) (ls0 := [.ref 36, .int v6, .int x7, .int (0 : Int32), .int x6, .int (0 : Int32), .null]) rfl (Nat.le_of_ble_eq_true rfl) (Nat.le_of_ble_eq_true rfl) rfl (to_rc rfl rfl rfl (g_o hG4 rfl)) rfl ?_)))))))))
      have k_8 : (0 : Int32).toInt = 0 := rfl
      refine C_5 hX (by omega) hG4 (by omega) (by omega) (by omega) (l := v6) (b := x7) (c := (0 : Int32)) (y := x6) (s := (0 : Int32)) (fun M11 hG10 F9 => ?_)
      have F12 := FR.c F5 F9 tg_127
      refine to_an (pc := 143) rw_2_143 rfl (tt_gI (pc := 144) rw_2_144 (g_o hG10 rfl) (v := (M11.2.1 36 2)) rfl (to_r0 (pc := 147) rw_2_147 ?_))
      exact h (M11.2.1 36 2) M11 hG10 F12 
    · refine to_an (pc := 70) rw_2_70 rfl (s_gR (pc := 71) rw_2_71 hG (by rcases hp with rfl | rfl <;> rfl) (v := (p + 3)) (by rcases hp with rfl | rfl <;> rfl) (to_i (pc := 74) rw_2_74 rfl (s_ial (pc := 76) rw_2_76 hG (by rcases hp with rfl | rfl <;> rfl) (n := 8) (by rcases hp with rfl | rfl <;> rfl) (by rcases hp with rfl | rfl <;> rfl) (A := x5.toInt) rfl (by omega) (by omega) (lo := 0) (hi := 59) (by rcases hp with rfl | rfl <;> rfl) (by rcases hp with rfl | rfl <;> rfl) (fun v13 w_14 _ _ => to_i (pc := 77) rw_2_77 rfl (s_add (pc := 79) rw_2_79 (A := v13.toInt) (B := x8.toInt) rfl rfl (by omega) (fun v15 e16 => to_is (pc := 80) rw_2_80 (ls2 := [.ref 36, .ref p, .ref 11, .int c, .int w, .int x5, .int x6, .int x7, .int x8, .int v15]) rfl rfl (to_an (pc := 82) rw_2_82 rfl (s_gR (pc := 83) rw_2_83 hG rfl (v := 37) rfl (to_i (pc := 86) rw_2_86 rfl (to_i (pc := 88) rw_2_88 rfl (to_an (pc := 90) rw_2_90 rfl ?_)))))))))))
      refine to_in (pc := 91) rw_2_91 rfl (to_i (pc := 92) rw_2_92 rfl (s_s (pc := 94) rw_2_94 (dp0 hd (by decide)) (ls0 := [.ref 11, .int c, .int v15, .null, .null]) rfl (Nat.le_of_ble_eq_true rfl) (Nat.le_of_ble_eq_true rfl) rfl (to_rcs rfl rfl) rfl (C_3 hX (dp1 hd (by decide)) hG (by omega) (c := c) (y := v15) (fun r17 M20 hG19 F18 => ?_))))
      have F21 := FR.c F0 F18 tg_128
      refine s_any (pc := 97) rw_2_97 (fun _ _ => rfl) (fun v22 => s_ias (pc := 98) rw_2_98 hG19 rfl (n := 24) rfl (A := x8.toInt) rfl (by omega) (by omega) (fun M25 W24 => ?_))
      have hG26 := g_wf hG19 W24 rfl rfl (by decide)
      have F27 := FR.w F21 W24 (show 36 ≤ 37 ∧ 37 ≤ 38 by decide)
      refine to_an (pc := 99) rw_2_99 rfl (s_gR (pc := 100) rw_2_100 hG26 rfl (v := 38) rfl (to_i (pc := 103) rw_2_103 rfl (to_an (pc := 105) rw_2_105 rfl (to_an (pc := 106) rw_2_106 rfl (to_i (pc := 107) rw_2_107 rfl (to_i (pc := 109) rw_2_109 rfl (s_s (pc := 111) rw_2_111 (dp0 hd (by decide)) (ls0 := [.ref p, .ref 11, .int w, .int v15, .null, .null]) rfl (Nat.le_of_ble_eq_true rfl) (Nat.le_of_ble_eq_true rfl) rfl (to_rcs rfl rfl) rfl (C_4 hX (dp1 hd (by decide)) hG26 hp (p := p) (w := w) (y := v15) (fun r28 M31 hG30 F29 => ?_)))))))))
      have F32 := FR.c F27 F29 tg_128
      refine s_ias (pc := 114) rw_2_114 hG30 rfl (n := 24) rfl (A := x8.toInt) rfl (by omega) (by omega) (fun M34 W33 => ?_)
      have hG35 := g_wf hG30 W33 rfl rfl (by decide)
      have F36 := FR.w F32 W33 (show 36 ≤ 38 ∧ 38 ≤ 38 by decide)
      refine s_inc (pc := 115) rw_2_115 (ls2 := fun v => [.ref 36, .ref p, .ref 11, .int c, .int w, .int x5, .int x6, .int x7, .int v, .int v15]) rfl rfl (fun _ => rfl) (A := x8.toInt) (B := 1) rfl rfl (by omega) (fun v37 e38 => to_go (pc := 118) rw_2_118 ?_)
      exact ih M34 x5 x6 x7 v37 (.int v15) hG35 F36 (by omega) (by omega) (by omega) (by omega) (by omega) (by omega) (by omega) (by omega) (by omega) (by omega)
set_option maxRecDepth 4000 in
set_option maxHeartbeats 0 in
theorem T_2_1 {X : mm_X} {d : Nat} {M : mm_M} {Q : Option Value → mm_M → Prop} {p : Nat} {c : Int32} {w : Int32} (hX : g_X X) (hd : 27 ≤ d) (hp : p = 49 ∨ p = 58) (q1 : 0 ≤ c.toInt) (q2 : c.toInt ≤ 30) (q3 : 0 ≤ w.toInt) (q4 : w.toInt ≤ 11) (h : ∀ (r : Int32) (M1 : mm_M), g_G M1 → FR md_b M M1 → Q (some (.int r)) M1) : ∀ nn9 : Nat, (∀ (N : mm_M) (x5 : Int32) (x6 : Int32) (x7 : Int32) (u8 : Value) (u9 : Value), g_G N → FR md_b M N → (0 ≤ x7.toInt) → (x7.toInt ≤ 30) → (0 ≤ c.toInt) → (c.toInt ≤ 30) → (0 ≤ x5.toInt) → (x5.toInt ≤ 7) → (0 ≤ w.toInt) → (w.toInt ≤ 11) → 30 - x7.toInt < (nn9 : Int) → mm_T X d 2 15 [.ref 36, .ref p, .ref 11, .int c, .int w, .int x5, .int x6, .int x7, u8, u9] [] N Q) := by
  intro nn9
  induction nn9 with
  | zero =>
    intro N x5 x6 x7 u8 u9 hG F0 g1 g2 g3 g4 g5 g6 g7 g8 hm
    exfalso; omega
  | succ nn9 ih =>
    intro N x5 x6 x7 u8 u9 hG F0 g1 g2 g3 g4 g5 g6 g7 g8 hm
    refine to_i (pc := 15) rw_2_15 rfl (to_in (pc := 17) rw_2_17 rfl (b_cge (pc := 18) rw_2_18 (A := x7.toInt) (B := c.toInt) rfl rfl (fun h39 => ?_) (fun h39 => ?_)))
    · refine to_an (pc := 47) rw_2_47 rfl (to_i (pc := 48) rw_2_48 rfl (s_v (pc := 50) rw_2_50 (dp0 hd (by decide)) (ls0 := [.ref p, .int x5]) rfl (Nat.le_of_ble_eq_true rfl) (Nat.le_of_ble_eq_true rfl) rfl (to_rc rfl rfl rfl (g_o hG (by rcases hp with rfl | rfl <;> rfl))) rfl (to_an (pc := 0) rw_47_0 rfl (s_gR (pc := 1) rw_47_1 hG (by rcases hp with rfl | rfl <;> rfl) (v := (p + 4)) (by rcases hp with rfl | rfl <;> rfl) (to_in (pc := 4) rw_47_4 rfl (s_ial (pc := 5) rw_47_5 hG (by rcases hp with rfl | rfl <;> rfl) (n := 8) (by rcases hp with rfl | rfl <;> rfl) (by rcases hp with rfl | rfl <;> rfl) (A := x5.toInt) rfl (by omega) (by omega) (lo := 0) (hi := 63) (by rcases hp with rfl | rfl <;> rfl) (by rcases hp with rfl | rfl <;> rfl) (fun v40 w_41 _ _ => to_an (pc := 6) rw_47_6 rfl (s_gR (pc := 7) rw_47_7 hG (by rcases hp with rfl | rfl <;> rfl) (v := (p + 3)) (by rcases hp with rfl | rfl <;> rfl) (to_in (pc := 10) rw_47_10 rfl (s_ial (pc := 11) rw_47_11 hG (by rcases hp with rfl | rfl <;> rfl) (n := 8) (by rcases hp with rfl | rfl <;> rfl) (by rcases hp with rfl | rfl <;> rfl) (A := x5.toInt) rfl (by omega) (by omega) (lo := 0) (hi := 59) (by rcases hp with rfl | rfl <;> rfl) (by rcases hp with rfl | rfl <;> rfl) (fun v42 w_43 _ _ => s_sub (pc := 12) rw_47_12 (A := v40.toInt) (B := v42.toInt) rfl rfl (by omega) (fun v44 e45 => ?_))))))))))))
      refine to_c (pc := 13) rw_47_13 (x := (1 : Int32)) rfl rfl (s_add (pc := 14) rw_47_14 (A := v44.toInt) (B := 1) rfl rfl (by omega) (fun v46 e47 => to_r0 (pc := 15) rw_47_15 (to_c (pc := 53) rw_2_53 (x := (24 : Int32)) rfl rfl (s_min (pc := 55) rw_2_55 rfl (A := v46.toInt) (B := 24) rfl rfl (fun v48 _ _ _ => to_is (pc := 58) rw_2_58 (ls2 := [.ref 36, .ref p, .ref 11, .int c, .int w, .int x5, .int x6, .int v48, u8, u9]) rfl rfl (to_c (pc := 60) rw_2_60 (x := (0 : Int32)) rfl rfl (to_is (pc := 61) rw_2_61 (ls2 := [.ref 36, .ref p, .ref 11, .int c, .int w, .int x5, .int x6, .int v48, .int (0 : Int32), u9]) rfl rfl ?_)))))))
      have k_49 : (0 : Int32).toInt = 0 := rfl
      exact (T_2_0 (p := p) (c := c) (w := w) hX hd hp q1 q2 q3 q4 h ((24 - (0 : Int32).toInt).toNat + 1)) N x5 x6 v48 (0 : Int32) (u9) hG F0 (by omega) (by omega) (by omega) (by omega) (by omega) (by omega) (by omega) (by omega) (by omega) (by omega)
    · refine to_an (pc := 21) rw_2_21 rfl (to_i (pc := 22) rw_2_22 rfl (to_i (pc := 24) rw_2_24 rfl (s_v (pc := 26) rw_2_26 (dp0 hd (by decide)) (ls0 := [.ref 11, .int x7, .int w]) rfl (Nat.le_of_ble_eq_true rfl) (Nat.le_of_ble_eq_true rfl) rfl (to_rc rfl rfl rfl (g_o hG rfl)) rfl (to_an (pc := 0) rw_13_0 rfl (s_gR (pc := 1) rw_13_1 hG rfl (v := 13) rfl (to_in (pc := 4) rw_13_4 rfl (s_ial (pc := 5) rw_13_5 hG rfl (n := 30) rfl rfl (A := x7.toInt) rfl (by omega) (by omega) (lo := -2147483648) (hi := 2147483647) rfl rfl (fun v50 w_51 _ _ => to_in (pc := 6) rw_13_6 rfl (s_any (pc := 7) rw_13_7 (fun _ _ => rfl) (fun v52 => to_c (pc := 8) rw_13_8 (x := (1 : Int32)) rfl rfl (s_and (pc := 9) rw_13_9 (B := 1) rfl (by omega) (fun v53 e54 _ _ => ?_))))))))))))
      refine b_ieq (pc := 10) rw_13_10 (A := v53.toInt) rfl (fun h55 => ?_) (fun h55 => ?_)
      · refine to_c (pc := 17) rw_13_17 (x := (0 : Int32)) rfl rfl (s_r1 (pc := 18) rw_13_18 (A := 0) rfl (by decide) (b_ine_f (pc := 29) rw_2_29 (A := 0) rfl (by decide) (to_i (pc := 32) rw_2_32 rfl (to_c (pc := 34) rw_2_34 (x := (1 : Int32)) rfl rfl (to_i (pc := 35) rw_2_35 rfl (s_any (pc := 37) rw_2_37 (fun _ _ => rfl) (fun v56 => s_any (pc := 38) rw_2_38 (fun _ _ => rfl) (fun v57 => to_is (pc := 39) rw_2_39 (ls2 := [.ref 36, .ref p, .ref 11, .int c, .int w, .int x5, .int v57, .int x7, u8, u9]) rfl rfl (s_inc (pc := 41) rw_2_41 (ls2 := fun v => [.ref 36, .ref p, .ref 11, .int c, .int w, .int x5, .int v57, .int v, u8, u9]) rfl rfl (fun _ => rfl) (A := x7.toInt) (B := 1) rfl rfl (by omega) (fun v58 e59 => to_go (pc := 44) rw_2_44 ?_))))))))))
        exact ih N x5 v57 v58 (u8) (u9) hG F0 (by omega) (by omega) (by omega) (by omega) (by omega) (by omega) (by omega) (by omega) (by omega)
      · refine to_c (pc := 13) rw_13_13 (x := (1 : Int32)) rfl rfl (to_go (pc := 14) rw_13_14 (s_r1 (pc := 18) rw_13_18 (A := 1) rfl (by decide) (b_ine_t (pc := 29) rw_2_29 (A := 1) rfl (by decide) (s_inc (pc := 41) rw_2_41 (ls2 := fun v => [.ref 36, .ref p, .ref 11, .int c, .int w, .int x5, .int x6, .int v, u8, u9]) rfl rfl (fun _ => rfl) (A := x7.toInt) (B := 1) rfl rfl (by omega) (fun v60 e61 => to_go (pc := 44) rw_2_44 ?_)))))
        exact ih N x5 x6 v60 (u8) (u9) hG F0 (by omega) (by omega) (by omega) (by omega) (by omega) (by omega) (by omega) (by omega) (by omega)
set_option maxRecDepth 4000 in
set_option maxHeartbeats 0 in
theorem C_2 {X : mm_X} {d : Nat} {M : mm_M} {Q : Option Value → mm_M → Prop} {p : Nat} {c : Int32} {w : Int32} (hX : g_X X) (hd : 27 ≤ d) (hG : g_G M) (hp : p = 49 ∨ p = 58) (q1 : 0 ≤ c.toInt) (q2 : c.toInt ≤ 30) (q3 : 0 ≤ w.toInt) (q4 : w.toInt ≤ 11) (h : ∀ (r : Int32) (M1 : mm_M), g_G M1 → FR md_b M M1 → Q (some (.int r)) M1) : mm_T X d 2 0 [.ref 36, .ref p, .ref 11, .int c, .int w, .null, .null, .null, .null, .null] [] M Q := by
  have F0 : FR md_b M M := FR.rf
  refine to_an (pc := 0) rw_2_0 rfl (s_gR (pc := 1) rw_2_1 hG (by rcases hp with rfl | rfl <;> rfl) (v := (p + 7)) (by rcases hp with rfl | rfl <;> rfl) (to_i (pc := 4) rw_2_4 rfl (s_ial (pc := 6) rw_2_6 hG (by rcases hp with rfl | rfl <;> rfl) (n := 12) (by rcases hp with rfl | rfl <;> rfl) (by rcases hp with rfl | rfl <;> rfl) (A := w.toInt) rfl (by omega) (by omega) (lo := 0) (hi := 7) (by rcases hp with rfl | rfl <;> rfl) (by rcases hp with rfl | rfl <;> rfl) (fun v62 w_63 _ _ => to_is (pc := 7) rw_2_7 (ls2 := [.ref 36, .ref p, .ref 11, .int c, .int w, .int v62, .null, .null, .null, .null]) rfl rfl (to_c (pc := 9) rw_2_9 (x := (0 : Int32)) rfl rfl (to_is (pc := 10) rw_2_10 (ls2 := [.ref 36, .ref p, .ref 11, .int c, .int w, .int v62, .int (0 : Int32), .null, .null, .null]) rfl rfl (to_c (pc := 12) rw_2_12 (x := (0 : Int32)) rfl rfl (to_is (pc := 13) rw_2_13 (ls2 := [.ref 36, .ref p, .ref 11, .int c, .int w, .int v62, .int (0 : Int32), .int (0 : Int32), .null, .null]) rfl rfl ?_))))))))
  have k_64 : (0 : Int32).toInt = 0 := rfl
  exact (T_2_1 (p := p) (c := c) (w := w) hX hd hp q1 q2 q3 q4 h ((30 - (0 : Int32).toInt).toNat + 1)) M v62 (0 : Int32) (0 : Int32) (.null) (.null) hG F0 (by omega) (by omega) (by omega) (by omega) (by omega) (by omega) (by omega) (by omega) (by omega)
noncomputable def RC_17 (k : Int) : Prop := ∀ (X : mm_X) (d : Nat) (M : mm_M) (Q : Option Value → mm_M → Prop) (f : Int32) (c : Int32) (x : Int64), g_X X → (13 - f.toInt ≤ (d : Int)) → g_G M → (0 ≤ f.toInt) → (f.toInt ≤ 12) → 12 - f.toInt < k → (∀ (M1 : mm_M), g_G M1 → FR md_m2 M M1 → Q (none) M1) → mm_T X d 17 0 [.ref 39, .int f, .int c, .long x, .null] [] M Q
set_option maxRecDepth 4000 in
set_option maxHeartbeats 0 in
theorem B_17 {X : mm_X} {d : Nat} {M : mm_M} {Q : Option Value → mm_M → Prop} {f : Int32} {c : Int32} {x : Int64} (hX : g_X X) (hd : 13 - f.toInt ≤ (d : Int)) (hG : g_G M) (q1 : 0 ≤ f.toInt) (q2 : f.toInt ≤ 12) (hr : RC_17 (12 - f.toInt)) (h : ∀ (M1 : mm_M), g_G M1 → FR md_m2 M M1 → Q (none) M1) : mm_T X d 17 0 [.ref 39, .int f, .int c, .long x, .null] [] M Q := by
  have F0 : FR md_m2 M M := FR.rf
  refine to_in (pc := 0) rw_17_0 rfl (to_an (pc := 1) rw_17_1 rfl ?_)
  have b_1 := g_b hG (a := 39) (i := 2) (lo := 0) (hi := 12) rfl rfl
  refine tt_gI (pc := 2) rw_17_2 (g_o hG rfl) (v := (M.2.1 39 2)) rfl (b_cge (pc := 5) rw_17_5 (A := f.toInt) (B := (M.2.1 39 2).toInt) rfl rfl (fun h2 => ?_) (fun h2 => ?_))
  · refine to_ln (pc := 49) rw_17_49 rfl rfl rfl (s_s (pc := 50) rw_17_50 (by omega) (ls0 := [.long x, .null]) rfl (Nat.le_of_ble_eq_true rfl) (Nat.le_of_ble_eq_true rfl) rfl (to_rcs rfl rfl) rfl (C_248 hX (by omega) hG (x := x) (fun r3 M6 hG5 F4 => ?_)))
    have F7 := FR.c F0 F4 tg_129
    refine to_an (pc := 53) rw_17_53 rfl ?_
    have c_8 : M6.2.1 39 3 = (M.2.1 39 3) := (F_n F4 (show ¬ (39 < 0) by decide) rfl)
    refine tt_gI (pc := 54) rw_17_54 (g_o hG5 rfl) (v := (M.2.1 39 3)) c_8 (b_cgt (pc := 57) rw_17_57 (A := r3.toInt) (B := (M.2.1 39 3).toInt) rfl rfl (fun h9 => ?_) (fun h9 => ?_))
    · refine to_rv (pc := 90) rw_17_90 ?_
      exact h M6 hG5 F7 
    · refine to_an (pc := 60) rw_17_60 rfl (to_dupr (pc := 61) rw_17_61 ?_)
      have c_10 : M6.2.1 39 6 = (M.2.1 39 6) := (F_n F4 (show ¬ (39 < 0) by decide) rfl)
      refine tt_gI (pc := 62) rw_17_62 (g_o hG5 rfl) (v := (M.2.1 39 6)) c_10 (to_c (pc := 65) rw_17_65 (x := (1 : Int32)) rfl rfl (s_any (pc := 66) rw_17_66 (fun _ _ => rfl) (fun v11 => s_pI (pc := 67) rw_17_67 hG5 rfl (fun M13 W12 => ?_))))
      have hG14 := g_wf hG5 W12 rfl rfl (by decide)
      have F15 := FR.w F7 W12 (show 39 = 39 ∧ 4 ≤ 6 by decide)
      refine to_an (pc := 70) rw_17_70 rfl (to_dupr (pc := 71) rw_17_71 ?_)
      have c_16 : M13.2.1 39 4 = (M.2.1 39 4) := (W_n W12 (by decide) (F_n F4 (show ¬ (39 < 0) by decide) rfl))
      refine tt_gI (pc := 72) rw_17_72 (g_o hG14 rfl) (v := (M.2.1 39 4)) c_16 (to_in (pc := 75) rw_17_75 rfl (s_any (pc := 76) rw_17_76 (fun _ _ => rfl) (fun v17 => s_pI (pc := 77) rw_17_77 hG14 rfl (fun M20 W19 => ?_))))
      have hG21 := g_wf hG14 W19 rfl rfl (by decide)
      have F22 := FR.w F15 W19 (show 39 = 39 ∧ 4 ≤ 4 by decide)
      refine to_an (pc := 80) rw_17_80 rfl (to_dupr (pc := 81) rw_17_81 ?_)
      have c_23 : M20.2.1 39 5 = (M.2.1 39 5) := (W_n W19 (by decide) (W_n W12 (by decide) (F_n F4 (show ¬ (39 < 0) by decide) rfl)))
      refine tt_gI (pc := 82) rw_17_82 (g_o hG21 rfl) (v := (M.2.1 39 5)) c_23 (to_in (pc := 85) rw_17_85 rfl (s_any (pc := 86) rw_17_86 (fun _ _ => rfl) (fun v24 => s_pI (pc := 87) rw_17_87 hG21 rfl (fun M26 W25 => ?_))))
      have hG27 := g_wf hG21 W25 rfl rfl (by decide)
      have F28 := FR.w F22 W25 (show 39 = 39 ∧ 4 ≤ 5 by decide)
      refine to_rv (pc := 90) rw_17_90 ?_
      exact h M26 hG27 F28 
  · refine to_an (pc := 8) rw_17_8 rfl (to_in (pc := 9) rw_17_9 rfl (to_c (pc := 10) rw_17_10 (x := (1 : Int32)) rfl rfl (s_add (pc := 11) rw_17_11 (A := f.toInt) (B := 1) rfl rfl (by omega) (fun v29 e30 => to_in (pc := 12) rw_17_12 rfl (to_ln (pc := 13) rw_17_13 rfl rfl rfl (s_v (pc := 14) rw_17_14 (by omega) (ls0 := [.ref 39, .int v29, .int c, .long x, .null]) rfl (Nat.le_of_ble_eq_true rfl) (Nat.le_of_ble_eq_true rfl) rfl (to_rc rfl rfl rfl (g_o hG rfl)) rfl (hr X _ _ _ v29 c x hX (by omega) hG (by omega) (by omega) (by omega) (fun M33 hG32 F31 => ?_))))))))
    have F34 := FR.c F0 F31 tg_130
    refine to_an (pc := 17) rw_17_17 rfl (to_in (pc := 18) rw_17_18 rfl (to_c (pc := 19) rw_17_19 (x := (1 : Int32)) rfl rfl (s_add (pc := 20) rw_17_20 (A := f.toInt) (B := 1) rfl rfl (by omega) (fun v35 e36 => to_in (pc := 21) rw_17_21 rfl (to_c (pc := 22) rw_17_22 (x := (1 : Int32)) rfl rfl (to_an (pc := 23) rw_17_23 rfl (s_gR (pc := 24) rw_17_24 hG32 rfl (v := 40) rfl (to_in (pc := 27) rw_17_27 rfl (s_ial (pc := 28) rw_17_28 hG32 rfl (n := 12) rfl rfl (A := f.toInt) rfl (by omega) (by omega) (lo := -2147483648) (hi := 2147483647) rfl rfl (fun v37 w_38 _ _ => s_any (pc := 29) rw_17_29 (fun _ _ => rfl) (fun v39 => s_any (pc := 30) rw_17_30 (fun _ _ => rfl) (fun v40 => ?_))))))))))))
    refine to_ln (pc := 31) rw_17_31 rfl rfl rfl (to_an (pc := 32) rw_17_32 rfl (s_gR (pc := 33) rw_17_33 hG32 rfl (v := 41) rfl (to_in (pc := 36) rw_17_36 rfl (s_lal (pc := 37) rw_17_37 hG32 rfl (n := 12) rfl (A := f.toInt) rfl (by omega) (by omega) (fun l41 => s_cl (pc := 38) rw_17_38 rfl (fun l42 => s_anyL (pc := 41) rw_17_41 (fun _ _ => rfl) (fun l43 => s_anyL (pc := 42) rw_17_42 (fun _ _ => rfl) (fun l44 => s_v (pc := 43) rw_17_43 (by omega) (ls0 := [.ref 39, .int v35, .int v40, .long l44, .null]) rfl (Nat.le_of_ble_eq_true rfl) (Nat.le_of_ble_eq_true rfl) rfl (to_rc rfl rfl rfl (g_o hG32 rfl)) rfl (hr X _ _ _ v35 v40 l44 hX (by omega) hG32 (by omega) (by omega) (by omega) (fun M47 hG46 F45 => ?_))))))))))
    have F48 := FR.c F34 F45 tg_130
    refine to_go (pc := 46) rw_17_46 (to_rv (pc := 90) rw_17_90 ?_)
    exact h M47 hG46 F48 
theorem RC_17_all : ∀ nn : Nat, RC_17 (nn : Int) := by
  intro nn
  induction nn with
  | zero =>
    intro X d M Q f c x hX hd hG q1 q2 hm h
    exfalso; omega
  | succ nn ih =>
    intro X d M Q f c x hX hd hG q1 q2 hm h
    exact B_17 hX hd hG q1 q2 (fun X2 d2 M2 Q2 f2 c2 x2 e71 e72 e73 q12 q22 hm2 h2 => ih X2 d2 M2 Q2 f2 c2 x2 e71 e72 e73 q12 q22 (by omega) h2) h
theorem C_17 {X : mm_X} {d : Nat} {M : mm_M} {Q : Option Value → mm_M → Prop} {f : Int32} {c : Int32} {x : Int64} (hX : g_X X) (hd : 13 - f.toInt ≤ (d : Int)) (hG : g_G M) (q1 : 0 ≤ f.toInt) (q2 : f.toInt ≤ 12) (h : ∀ (M1 : mm_M), g_G M1 → FR md_m2 M M1 → Q (none) M1) : mm_T X d 17 0 [.ref 39, .int f, .int c, .long x, .null] [] M Q := RC_17_all ((12 - f.toInt).toNat + 1) X d M Q f c x hX hd hG q1 q2 (by omega) h
set_option maxRecDepth 4000 in
set_option maxHeartbeats 0 in
theorem T_16_0 {X : mm_X} {d : Nat} {M : mm_M} {Q : Option Value → mm_M → Prop} {p : Nat} {c : Int32} {f : Int32} {t : Int32} (hX : g_X X) (hd : 14 ≤ d) (hp : p = 49 ∨ p = 58) (q1 : 0 ≤ c.toInt) (q2 : c.toInt ≤ 29) (q3 : 0 ≤ f.toInt) (q4 : f.toInt ≤ 7) (h : ∀ (M1 : mm_M), g_G M1 → FR md_m M M1 → Q (none) M1) : ∀ nn9 : Nat, (∀ (N : mm_M) (y6 : Int64) (x8 : Int32), g_G N → FR md_m M N → (0 ≤ x8.toInt) → (x8.toInt ≤ 12) → (0 ≤ c.toInt) → (c.toInt ≤ 29) → (0 ≤ f.toInt) → (f.toInt ≤ 7) → ((N.2.1 39 2).toInt ≤ x8.toInt) → 12 - x8.toInt < (nn9 : Int) → mm_T X d 16 23 [.ref 39, .ref p, .ref 11, .int c, .int f, .int t, .long y6, .null, .int x8] [] N Q) := by
  intro nn9
  induction nn9 with
  | zero =>
    intro N y6 x8 hG F0 g1 g2 g3 g4 g5 g6 g7 hm
    have b_1 := g_b hG (a := 39) (i := 2) (lo := 0) (hi := 12) rfl rfl
    exfalso; omega
  | succ nn9 ih =>
    intro N y6 x8 hG F0 g1 g2 g3 g4 g5 g6 g7 hm
    have b_2 := g_b hG (a := 39) (i := 2) (lo := 0) (hi := 12) rfl rfl
    refine to_i (pc := 23) rw_16_23 rfl (to_an (pc := 25) rw_16_25 rfl ?_)
    have b_3 := g_b hG (a := p) (i := 3) (lo := 0) (hi := 12) (by rcases hp with rfl | rfl <;> rfl) (by rcases hp with rfl | rfl <;> rfl)
    refine tt_gI (pc := 26) rw_16_26 (g_o hG (by rcases hp with rfl | rfl <;> rfl)) (v := (N.2.1 p 3)) rfl (b_cge (pc := 29) rw_16_29 (A := x8.toInt) (B := (N.2.1 p 3).toInt) rfl rfl (fun h4 => ?_) (fun h4 => ?_))
    · refine to_an (pc := 109) rw_16_109 rfl (to_i (pc := 110) rw_16_110 rfl (s_pI (pc := 112) rw_16_112 hG rfl (fun M6 W5 => ?_)))
      have hG7 := g_wf hG W5 rfl rfl (by decide)
      have F8 := FR.w F0 W5 (show 39 ≤ 39 ∧ 39 ≤ 41 by decide)
      refine to_an (pc := 115) rw_16_115 rfl (to_an (pc := 116) rw_16_116 rfl (to_i (pc := 117) rw_16_117 rfl (s_v (pc := 119) rw_16_119 (dp0 hd (by decide)) (ls0 := [.ref p, .int f, .null, .null]) rfl (Nat.le_of_ble_eq_true rfl) (Nat.le_of_ble_eq_true rfl) rfl (to_rc rfl rfl rfl (g_o hG7 (by rcases hp with rfl | rfl <;> rfl))) rfl (C_51 hX (dp1 hd (by decide)) hG7 hp (p := p) (f := f) (fun r9 M12 hG11 F10 => ?_)))))
      have F13 := FR.c F8 F10 tg_131
      refine s_pI (pc := 122) rw_16_122 hG11 rfl (fun M15 W14 => ?_)
      have hG16 := g_wf hG11 W14 rfl rfl (by decide)
      have F17 := FR.w F13 W14 (show 39 ≤ 39 ∧ 39 ≤ 41 by decide)
      refine to_an (pc := 125) rw_16_125 rfl (to_c (pc := 126) rw_16_126 (x := (0 : Int32)) rfl rfl (s_pI (pc := 127) rw_16_127 hG16 rfl (fun M19 W18 => ?_)))
      have hG20 := g_wf hG16 W18 rfl rfl (by decide)
      have F21 := FR.w F17 W18 (show 39 ≤ 39 ∧ 39 ≤ 41 by decide)
      refine to_an (pc := 130) rw_16_130 rfl (to_c (pc := 131) rw_16_131 (x := (0 : Int32)) rfl rfl (s_pI (pc := 132) rw_16_132 hG20 rfl (fun M23 W22 => ?_)))
      have hG24 := g_wf hG20 W22 rfl rfl (by decide)
      have F25 := FR.w F21 W22 (show 39 ≤ 39 ∧ 39 ≤ 41 by decide)
      refine to_an (pc := 135) rw_16_135 rfl (to_c (pc := 136) rw_16_136 (x := (0 : Int32)) rfl rfl (to_c (pc := 137) rw_16_137 (x := (0 : Int32)) rfl rfl (to_l (pc := 138) rw_16_138 rfl rfl rfl (s_v (pc := 140) rw_16_140 (dp0 hd (by decide)) (ls0 := [.ref 39, .int (0 : Int32), .int (0 : Int32), .long y6, .null]) rfl (Nat.le_of_ble_eq_true rfl) (Nat.le_of_ble_eq_true rfl) rfl (to_rc rfl rfl rfl (g_o hG24 rfl)) rfl ?_))))
      have k_26 : (0 : Int32).toInt = 0 := rfl
      refine C_17 hX (by omega) hG24 (by omega) (by omega) (f := (0 : Int32)) (c := (0 : Int32)) (x := y6) (fun M29 hG28 F27 => ?_)
      have F30 := FR.c F25 F27 tg_132
      refine to_an (pc := 143) rw_16_143 rfl (tt_gI (pc := 144) rw_16_144 (g_o hG28 rfl) (v := (M29.2.1 39 6)) rfl (b_ine (pc := 147) rw_16_147 (A := (M29.2.1 39 6).toInt) rfl (fun h31 => ?_) (fun h31 => ?_)))
      · refine to_rv (pc := 155) rw_16_155 ?_
        exact h M29 hG28 F30 
      · refine to_an (pc := 150) rw_16_150 rfl (to_c (pc := 151) rw_16_151 (x := (0 : Int32)) rfl rfl (s_pI (pc := 152) rw_16_152 hG28 rfl (fun M33 W32 => ?_)))
        have hG34 := g_wf hG28 W32 rfl rfl (by decide)
        have F35 := FR.w F30 W32 (show 39 ≤ 39 ∧ 39 ≤ 41 by decide)
        refine to_rv (pc := 155) rw_16_155 ?_
        exact h M33 hG34 F35 
    · refine to_i (pc := 32) rw_16_32 rfl (to_c (pc := 34) rw_16_34 (x := (12 : Int32)) rfl rfl (b_cge_f (pc := 36) rw_16_36 (A := x8.toInt) (B := 12) rfl rfl (by omega) (to_an (pc := 39) rw_16_39 rfl (s_gR (pc := 40) rw_16_40 hG (by rcases hp with rfl | rfl <;> rfl) (v := (p + 7)) (by rcases hp with rfl | rfl <;> rfl) (to_i (pc := 43) rw_16_43 rfl (s_ial (pc := 45) rw_16_45 hG (by rcases hp with rfl | rfl <;> rfl) (n := 12) (by rcases hp with rfl | rfl <;> rfl) (by rcases hp with rfl | rfl <;> rfl) (A := x8.toInt) rfl (by omega) (by omega) (lo := 0) (hi := 7) (by rcases hp with rfl | rfl <;> rfl) (by rcases hp with rfl | rfl <;> rfl) (fun v36 w_37 _ _ => to_i (pc := 46) rw_16_46 rfl (b_cne (pc := 48) rw_16_48 (A := v36.toInt) (B := f.toInt) rfl rfl (fun h38 => ?_) (fun h38 => ?_)))))))))
      · refine s_inc (pc := 103) rw_16_103 (ls2 := fun v => [.ref 39, .ref p, .ref 11, .int c, .int f, .int t, .long y6, .null, .int v]) rfl rfl (fun _ => rfl) (A := x8.toInt) (B := 1) rfl rfl (by omega) (fun v39 e40 => to_go (pc := 106) rw_16_106 ?_)
        exact ih N y6 v39 hG F0 (by omega) (by omega) (by omega) (by omega) (by omega) (by omega) (by omega) (by omega)
      · refine to_an (pc := 51) rw_16_51 rfl (to_in (pc := 52) rw_16_52 rfl (to_an (pc := 53) rw_16_53 rfl (s_gR (pc := 54) rw_16_54 hG rfl (v := 15) rfl (to_i (pc := 57) rw_16_57 rfl (s_lal (pc := 59) rw_16_59 hG rfl (n := 12) rfl (A := x8.toInt) rfl (by omega) (by omega) (fun l41 => s_v (pc := 60) rw_16_60 (dp0 hd (by decide)) (ls0 := [.ref 11, .int c, .long l41, .null]) rfl (Nat.le_of_ble_eq_true rfl) (Nat.le_of_ble_eq_true rfl) rfl (to_rc rfl rfl rfl (g_o hG rfl)) rfl (to_an (pc := 0) rw_14_0 rfl (s_gR (pc := 1) rw_14_1 hG rfl (v := 12) rfl (to_in (pc := 4) rw_14_4 rfl (s_lal (pc := 5) rw_14_5 hG rfl (n := 30) rfl (A := c.toInt) rfl (by omega) (by omega) (fun l42 => to_ln (pc := 6) rw_14_6 rfl rfl rfl ?_)))))))))))
        refine s_anyL (pc := 7) rw_14_7 (fun _ _ => rfl) (fun l43 => to_ln (pc := 8) rw_14_8 rfl rfl rfl (s_lcmp (pc := 9) rw_14_9 (fun v44 => b_ine (pc := 10) rw_14_10 (A := v44.toInt) rfl (fun h45 => ?_) (fun h45 => ?_))))
        · refine to_c (pc := 17) rw_14_17 (x := (0 : Int32)) rfl rfl (s_r1 (pc := 18) rw_14_18 (A := 0) rfl (by decide) (b_ieq_t (pc := 63) rw_16_63 (A := 0) rfl (by decide) (s_inc (pc := 103) rw_16_103 (ls2 := fun v => [.ref 39, .ref p, .ref 11, .int c, .int f, .int t, .long y6, .null, .int v]) rfl rfl (fun _ => rfl) (A := x8.toInt) (B := 1) rfl rfl (by omega) (fun v46 e47 => to_go (pc := 106) rw_16_106 ?_))))
          exact ih N y6 v46 hG F0 (by omega) (by omega) (by omega) (by omega) (by omega) (by omega) (by omega) (by omega)
        · refine to_c (pc := 13) rw_14_13 (x := (1 : Int32)) rfl rfl (to_go (pc := 14) rw_14_14 (s_r1 (pc := 18) rw_14_18 (A := 1) rfl (by decide) (b_ieq_f (pc := 63) rw_16_63 (A := 1) rfl (by decide) (to_an (pc := 66) rw_16_66 rfl (s_gR (pc := 67) rw_16_67 hG rfl (v := 40) rfl (to_an (pc := 70) rw_16_70 rfl (tt_gI (pc := 71) rw_16_71 (g_o hG rfl) (v := (N.2.1 39 2)) rfl (to_i (pc := 74) rw_16_74 rfl (s_ias (pc := 76) rw_16_76 hG rfl (n := 12) rfl (A := (N.2.1 39 2).toInt) rfl (by omega) (by omega) (fun M49 W48 => ?_))))))))))
          have hG50 := g_wf hG W48 rfl rfl (by decide)
          have F51 := FR.w F0 W48 (show 39 ≤ 40 ∧ 40 ≤ 41 by decide)
          refine to_an (pc := 77) rw_16_77 rfl (s_gR (pc := 78) rw_16_78 hG50 rfl (v := 41) rfl (to_an (pc := 81) rw_16_81 rfl ?_))
          have c_52 : M49.2.1 39 2 = (N.2.1 39 2) := (W_n W48 (fun z => absurd z.1 (by decide)) rfl)
          refine tt_gI (pc := 82) rw_16_82 (g_o hG50 rfl) (v := (N.2.1 39 2)) c_52 (to_an (pc := 85) rw_16_85 rfl (s_gR (pc := 86) rw_16_86 hG50 rfl (v := 15) rfl (to_i (pc := 89) rw_16_89 rfl (s_lal (pc := 91) rw_16_91 hG50 rfl (n := 12) rfl (A := x8.toInt) rfl (by omega) (by omega) (fun l53 => s_las (pc := 92) rw_16_92 hG50 rfl (n := 12) rfl (A := (N.2.1 39 2).toInt) rfl (by omega) (by omega) (fun M55 W54 => ?_))))))
          have hG56 := g_wl hG50 W54
          have F57 := FR.wl F51 W54 (show 39 ≤ 41 ∧ 41 ≤ 41 by decide)
          refine to_an (pc := 93) rw_16_93 rfl (to_dupr (pc := 94) rw_16_94 ?_)
          have c_58 : M55.2.1 39 2 = (N.2.1 39 2) := (W_l W54 c_52)
          refine tt_gI (pc := 95) rw_16_95 (g_o hG56 rfl) (v := (N.2.1 39 2)) c_58 (to_c (pc := 98) rw_16_98 (x := (1 : Int32)) rfl rfl (s_add (pc := 99) rw_16_99 (A := (N.2.1 39 2).toInt) (B := 1) rfl rfl (by omega) (fun v59 e60 => s_pI (pc := 100) rw_16_100 hG56 rfl (fun M62 W61 => ?_))))
          have hG63 := g_w hG56 W61 (A := v59.toInt) rfl (lo := 0) (hi := 12) rfl rfl (by omega) (by decide)
          have F64 := FR.w F57 W61 (show 39 ≤ 39 ∧ 39 ≤ 41 by decide)
          refine s_inc (pc := 103) rw_16_103 (ls2 := fun v => [.ref 39, .ref p, .ref 11, .int c, .int f, .int t, .long y6, .null, .int v]) rfl rfl (fun _ => rfl) (A := x8.toInt) (B := 1) rfl rfl (by omega) (fun v65 e66 => to_go (pc := 106) rw_16_106 ?_)
          have c_67 : M62.2.1 39 2 = v59 := (W_e W61)
          have t_68 : (M62.2.1 39 2).toInt = v59.toInt := congrArg Int32.toInt c_67
          exact ih M62 y6 v65 hG63 F64 (by omega) (by omega) (by omega) (by omega) (by omega) (by omega) (by omega) (by omega)
set_option maxRecDepth 4000 in
set_option maxHeartbeats 0 in
theorem C_16 {X : mm_X} {d : Nat} {M : mm_M} {Q : Option Value → mm_M → Prop} {p : Nat} {c : Int32} {f : Int32} {t : Int32} (hX : g_X X) (hd : 14 ≤ d) (hG : g_G M) (hp : p = 49 ∨ p = 58) (q1 : 0 ≤ c.toInt) (q2 : c.toInt ≤ 29) (q3 : 0 ≤ f.toInt) (q4 : f.toInt ≤ 7) (h : ∀ (M1 : mm_M), g_G M1 → FR md_m M M1 → Q (none) M1) : mm_T X d 16 0 [.ref 39, .ref p, .ref 11, .int c, .int f, .int t, .null, .null, .null] [] M Q := by
  have F0 : FR md_m M M := FR.rf
  refine to_an (pc := 0) rw_16_0 rfl (s_gR (pc := 1) rw_16_1 hG rfl (v := 12) rfl (to_in (pc := 4) rw_16_4 rfl (s_lal (pc := 5) rw_16_5 hG rfl (n := 30) rfl (A := c.toInt) rfl (by omega) (by omega) (fun l69 => to_an (pc := 6) rw_16_6 rfl (to_i (pc := 7) rw_16_7 rfl (s_v (pc := 9) rw_16_9 (dp0 hd (by decide)) (ls0 := [.ref p, .int f]) rfl (Nat.le_of_ble_eq_true rfl) (Nat.le_of_ble_eq_true rfl) rfl (to_rc rfl rfl rfl (g_o hG (by rcases hp with rfl | rfl <;> rfl))) rfl (to_an (pc := 0) rw_48_0 rfl (s_gR (pc := 1) rw_48_1 hG (by rcases hp with rfl | rfl <;> rfl) (v := (p + 3)) (by rcases hp with rfl | rfl <;> rfl) (to_in (pc := 4) rw_48_4 rfl (s_ial (pc := 5) rw_48_5 hG (by rcases hp with rfl | rfl <;> rfl) (n := 8) (by rcases hp with rfl | rfl <;> rfl) (by rcases hp with rfl | rfl <;> rfl) (A := f.toInt) rfl (by omega) (by omega) (lo := 0) (hi := 59) (by rcases hp with rfl | rfl <;> rfl) (by rcases hp with rfl | rfl <;> rfl) (fun v70 w_71 _ _ => to_an (pc := 6) rw_48_6 rfl ?_)))))))))))
  refine s_gR (pc := 7) rw_48_7 hG (by rcases hp with rfl | rfl <;> rfl) (v := (p + 4)) (by rcases hp with rfl | rfl <;> rfl) (to_in (pc := 10) rw_48_10 rfl (s_ial (pc := 11) rw_48_11 hG (by rcases hp with rfl | rfl <;> rfl) (n := 8) (by rcases hp with rfl | rfl <;> rfl) (by rcases hp with rfl | rfl <;> rfl) (A := f.toInt) rfl (by omega) (by omega) (lo := 0) (hi := 63) (by rcases hp with rfl | rfl <;> rfl) (by rcases hp with rfl | rfl <;> rfl) (fun v72 w_73 _ _ => s_s (pc := 12) rw_48_12 (dp1 hd (by decide)) (ls0 := [.int v70, .int v72]) rfl (Nat.le_of_ble_eq_true rfl) (Nat.le_of_ble_eq_true rfl) rfl (to_rcs rfl rfl) rfl (s_cl (pc := 0) rw_144_0 rfl (fun l74 => to_in (pc := 1) rw_144_1 rfl (to_in (pc := 2) rw_144_2 rfl (s_sub (pc := 3) rw_144_3 (A := v72.toInt) (B := v70.toInt) rfl rfl (by omega) (fun v75 e76 => to_c (pc := 4) rw_144_4 (x := (1 : Int32)) rfl rfl (s_add (pc := 5) rw_144_5 (A := v75.toInt) (B := 1) rfl rfl (by omega) (fun v77 e78 => s_anyS (pc := 6) rw_144_6 (fun _ _ => rfl) (fun l79 => s_cl (pc := 7) rw_144_7 rfl (fun l80 => ?_))))))))))))
  refine s_anyL (pc := 8) rw_144_8 (fun _ _ => rfl) (fun l81 => to_in (pc := 9) rw_144_9 rfl (s_anyS (pc := 10) rw_144_10 (fun _ _ => rfl) (fun l82 => to_rl (pc := 11) rw_144_11 (to_rl (pc := 15) rw_48_15 (s_anyL (pc := 12) rw_16_12 (fun _ _ => rfl) (fun l83 => to_ls (pc := 13) rw_16_13 (ls2 := [.ref 39, .ref p, .ref 11, .int c, .int f, .int t, .long l83, .null, .null]) rfl rfl (to_an (pc := 15) rw_16_15 rfl (to_c (pc := 16) rw_16_16 (x := (0 : Int32)) rfl rfl (s_pI (pc := 17) rw_16_17 hG rfl (fun M85 W84 => ?_))))))))))
  have hG86 := g_w hG W84 (A := 0) rfl (lo := 0) (hi := 12) rfl rfl (by omega) (by decide)
  have F87 := FR.w F0 W84 (show 39 ≤ 39 ∧ 39 ≤ 41 by decide)
  refine to_c (pc := 20) rw_16_20 (x := (0 : Int32)) rfl rfl (to_is (pc := 21) rw_16_21 (ls2 := [.ref 39, .ref p, .ref 11, .int c, .int f, .int t, .long l83, .null, .int (0 : Int32)]) rfl rfl ?_)
  have k_88 : (0 : Int32).toInt = 0 := rfl
  have c_89 : M85.2.1 39 2 = (0 : Int32) := (W_e W84)
  have t_90 : (M85.2.1 39 2).toInt = (0 : Int32).toInt := congrArg Int32.toInt c_89
  exact (T_16_0 (p := p) (c := c) (f := f) (t := t) hX hd hp q1 q2 q3 q4 h ((12 - (0 : Int32).toInt).toNat + 1)) M85 l83 (0 : Int32) hG86 F87 (by omega) (by omega) (by omega) (by omega) (by omega) (by omega) (by omega) (by omega)
set_option maxRecDepth 4000 in
set_option maxHeartbeats 0 in
theorem T_18_0 {X : mm_X} {d : Nat} {M : mm_M} {Q : Option Value → mm_M → Prop} {p : Nat} {c : Int32} {f : Int32} {t : Int32} (hX : g_X X) (hd : 3 ≤ d) (hp : p = 49 ∨ p = 58) (q1 : 0 ≤ c.toInt) (q2 : c.toInt ≤ 29) (q3 : 0 ≤ f.toInt) (q4 : f.toInt ≤ 7) (h : ∀ (M1 : mm_M), g_G M1 → FR md_m M M1 → Q (none) M1) : ∀ nn9 : Nat, (∀ (N : mm_M) (u2 : Value) (u3 : Value) (y6 : Int64) (x8 : Int32) (u9 : Value) (u10 : Value), g_G N → FR md_m M N → (0 ≤ x8.toInt) → (x8.toInt ≤ 24) → (0 ≤ f.toInt) → (f.toInt ≤ 7) → 24 - x8.toInt < (nn9 : Int) → mm_T X d 18 33 [.ref 39, .ref p, u2, u3, .int f, .int t, .long y6, .null, .int x8, u9, u10] [] N Q) := by
  intro nn9
  induction nn9 with
  | zero =>
    intro N u2 u3 y6 x8 u9 u10 hG F0 g1 g2 g3 g4 hm
    exfalso; omega
  | succ nn9 ih =>
    intro N u2 u3 y6 x8 u9 u10 hG F0 g1 g2 g3 g4 hm
    refine to_i (pc := 33) rw_18_33 rfl (to_an (pc := 35) rw_18_35 rfl (s_gR (pc := 36) rw_18_36 hG (by rcases hp with rfl | rfl <;> rfl) (v := (p + 5)) (by rcases hp with rfl | rfl <;> rfl) (to_i (pc := 39) rw_18_39 rfl (s_ial (pc := 41) rw_18_41 hG (by rcases hp with rfl | rfl <;> rfl) (n := 8) (by rcases hp with rfl | rfl <;> rfl) (by rcases hp with rfl | rfl <;> rfl) (A := f.toInt) rfl (by omega) (by omega) (lo := 0) (hi := 24) (by rcases hp with rfl | rfl <;> rfl) (by rcases hp with rfl | rfl <;> rfl) (fun v1 w_2 _ _ => b_cge (pc := 42) rw_18_42 (A := x8.toInt) (B := v1.toInt) rfl rfl (fun h3 => ?_) (fun h3 => ?_))))))
    · refine to_rv (pc := 130) rw_18_130 ?_
      exact h N hG F0 
    · refine to_an (pc := 45) rw_18_45 rfl (to_i (pc := 46) rw_18_46 rfl (to_i (pc := 48) rw_18_48 rfl (s_v (pc := 50) rw_18_50 (dp0 hd (by decide)) (ls0 := [.ref p, .int f, .int x8, .null, .null]) rfl (Nat.le_of_ble_eq_true rfl) (Nat.le_of_ble_eq_true rfl) rfl (to_rc rfl rfl rfl (g_o hG (by rcases hp with rfl | rfl <;> rfl))) rfl (C_49 hX (dp1 hd (by decide)) hG hp (p := p) (f := f) (v := x8) (fun r4 M7 hG6 F5 => ?_)))))
      have F8 := FR.c F0 F5 tg_131
      refine to_ls (pc := 53) rw_18_53 (ls2 := [.ref 39, .ref p, u2, u3, .int f, .int t, .long y6, .null, .int x8, .long r4, .null]) rfl rfl (to_l (pc := 55) rw_18_55 rfl rfl rfl (to_l (pc := 57) rw_18_57 rfl rfl rfl (s_anyL (pc := 59) rw_18_59 (fun _ _ => rfl) (fun l9 => to_l (pc := 60) rw_18_60 rfl rfl rfl (s_lcmp (pc := 62) rw_18_62 (fun v10 => b_ine (pc := 63) rw_18_63 (A := v10.toInt) rfl (fun h11 => ?_) (fun h11 => ?_)))))))
      · refine s_inc (pc := 124) rw_18_124 (ls2 := fun v => [.ref 39, .ref p, u2, u3, .int f, .int t, .long y6, .null, .int v, .long r4, .null]) rfl rfl (fun _ => rfl) (A := x8.toInt) (B := 1) rfl rfl (by omega) (fun v12 e13 => to_go (pc := 127) rw_18_127 ?_)
        exact ih M7 (u2) (u3) y6 v12 (.long r4) (.null) hG6 F8 (by omega) (by omega) (by omega) (by omega) (by omega)
      · refine to_l (pc := 66) rw_18_66 rfl rfl rfl (to_l (pc := 68) rw_18_68 rfl rfl rfl (s_cl (pc := 70) rw_18_70 rfl (fun l14 => s_anyL (pc := 73) rw_18_73 (fun _ _ => rfl) (fun l15 => s_anyL (pc := 74) rw_18_74 (fun _ _ => rfl) (fun l16 => s_s (pc := 75) rw_18_75 (dp0 hd (by decide)) (ls0 := [.long l16, .null]) rfl (Nat.le_of_ble_eq_true rfl) (Nat.le_of_ble_eq_true rfl) rfl (to_rcs rfl rfl) rfl (C_248 hX (dp1 hd (by decide)) hG6 (x := l16) (fun r17 M20 hG19 F18 => ?_)))))))
        have F21 := FR.c F8 F18 tg_131
        refine to_i (pc := 78) rw_18_78 rfl (b_cgt (pc := 80) rw_18_80 (A := r17.toInt) (B := t.toInt) rfl rfl (fun h22 => ?_) (fun h22 => ?_))
        · refine s_inc (pc := 124) rw_18_124 (ls2 := fun v => [.ref 39, .ref p, u2, u3, .int f, .int t, .long y6, .null, .int v, .long r4, .null]) rfl rfl (fun _ => rfl) (A := x8.toInt) (B := 1) rfl rfl (by omega) (fun v23 e24 => to_go (pc := 127) rw_18_127 ?_)
          exact ih M20 (u2) (u3) y6 v23 (.long r4) (.null) hG19 F21 (by omega) (by omega) (by omega) (by omega) (by omega)
        · refine to_an (pc := 83) rw_18_83 rfl (to_dupr (pc := 84) rw_18_84 ?_)
          have c_25 : M20.2.1 39 6 = (N.2.1 39 6) := (F_n F18 (show ¬ (39 < 0) by decide) (F_n F5 (show ¬ (39 < 0) by decide) rfl))
          refine tt_gI (pc := 85) rw_18_85 (g_o hG19 rfl) (v := (N.2.1 39 6)) c_25 (to_c (pc := 88) rw_18_88 (x := (1 : Int32)) rfl rfl (s_any (pc := 89) rw_18_89 (fun _ _ => rfl) (fun v26 => s_pI (pc := 90) rw_18_90 hG19 rfl (fun M28 W27 => ?_))))
          have hG29 := g_wf hG19 W27 rfl rfl (by decide)
          have F30 := FR.w F21 W27 (show 39 ≤ 39 ∧ 39 ≤ 41 by decide)
          refine to_an (pc := 93) rw_18_93 rfl (to_an (pc := 94) rw_18_94 rfl ?_)
          have c_31 : M28.2.1 39 6 = v26 := (W_e W27)
          refine tt_gI (pc := 95) rw_18_95 (g_o hG29 rfl) (v := v26) c_31 (to_c (pc := 98) rw_18_98 (x := (1 : Int32)) rfl rfl (b_cne (pc := 99) rw_18_99 (A := v26.toInt) (B := 1) rfl rfl (fun h32 => ?_) (fun h32 => ?_)))
          · refine to_c (pc := 107) rw_18_107 (x := (-1 : Int32)) rfl rfl (s_pI (pc := 108) rw_18_108 hG29 rfl (fun M34 W33 => ?_))
            have hG35 := g_wf hG29 W33 rfl rfl (by decide)
            have F36 := FR.w F30 W33 (show 39 ≤ 39 ∧ 39 ≤ 41 by decide)
            refine to_an (pc := 111) rw_18_111 rfl (to_dupr (pc := 112) rw_18_112 ?_)
            have c_37 : M34.2.1 39 5 = (N.2.1 39 5) := (W_n W33 (by decide) (W_n W27 (by decide) (F_n F18 (show ¬ (39 < 0) by decide) (F_n F5 (show ¬ (39 < 0) by decide) rfl))))
            refine tt_gI (pc := 113) rw_18_113 (g_o hG35 rfl) (v := (N.2.1 39 5)) c_37 (to_c (pc := 116) rw_18_116 (x := (1 : Int32)) rfl rfl (to_i (pc := 117) rw_18_117 rfl (s_any (pc := 119) rw_18_119 (fun _ _ => rfl) (fun v38 => s_any (pc := 120) rw_18_120 (fun _ _ => rfl) (fun v39 => s_pI (pc := 121) rw_18_121 hG35 rfl (fun M41 W40 => ?_))))))
            have hG42 := g_wf hG35 W40 rfl rfl (by decide)
            have F43 := FR.w F36 W40 (show 39 ≤ 39 ∧ 39 ≤ 41 by decide)
            refine s_inc (pc := 124) rw_18_124 (ls2 := fun v => [.ref 39, .ref p, u2, u3, .int f, .int t, .long y6, .null, .int v, .long r4, .null]) rfl rfl (fun _ => rfl) (A := x8.toInt) (B := 1) rfl rfl (by omega) (fun v44 e45 => to_go (pc := 127) rw_18_127 ?_)
            exact ih M41 (u2) (u3) y6 v44 (.long r4) (.null) hG42 F43 (by omega) (by omega) (by omega) (by omega) (by omega)
          · refine to_i (pc := 102) rw_18_102 rfl (to_go (pc := 104) rw_18_104 (s_pI (pc := 108) rw_18_108 hG29 rfl (fun M47 W46 => ?_)))
            have hG48 := g_wf hG29 W46 rfl rfl (by decide)
            have F49 := FR.w F30 W46 (show 39 ≤ 39 ∧ 39 ≤ 41 by decide)
            refine to_an (pc := 111) rw_18_111 rfl (to_dupr (pc := 112) rw_18_112 ?_)
            have c_50 : M47.2.1 39 5 = (N.2.1 39 5) := (W_n W46 (by decide) (W_n W27 (by decide) (F_n F18 (show ¬ (39 < 0) by decide) (F_n F5 (show ¬ (39 < 0) by decide) rfl))))
            refine tt_gI (pc := 113) rw_18_113 (g_o hG48 rfl) (v := (N.2.1 39 5)) c_50 (to_c (pc := 116) rw_18_116 (x := (1 : Int32)) rfl rfl (to_i (pc := 117) rw_18_117 rfl (s_any (pc := 119) rw_18_119 (fun _ _ => rfl) (fun v51 => s_any (pc := 120) rw_18_120 (fun _ _ => rfl) (fun v52 => s_pI (pc := 121) rw_18_121 hG48 rfl (fun M54 W53 => ?_))))))
            have hG55 := g_wf hG48 W53 rfl rfl (by decide)
            have F56 := FR.w F49 W53 (show 39 ≤ 39 ∧ 39 ≤ 41 by decide)
            refine s_inc (pc := 124) rw_18_124 (ls2 := fun v => [.ref 39, .ref p, u2, u3, .int f, .int t, .long y6, .null, .int v, .long r4, .null]) rfl rfl (fun _ => rfl) (A := x8.toInt) (B := 1) rfl rfl (by omega) (fun v57 e58 => to_go (pc := 127) rw_18_127 ?_)
            exact ih M54 (u2) (u3) y6 v57 (.long r4) (.null) hG55 F56 (by omega) (by omega) (by omega) (by omega) (by omega)
set_option maxRecDepth 4000 in
set_option maxHeartbeats 0 in
theorem C_18 {X : mm_X} {d : Nat} {M : mm_M} {Q : Option Value → mm_M → Prop} {p : Nat} {c : Int32} {f : Int32} {t : Int32} (hX : g_X X) (hd : 3 ≤ d) (hG : g_G M) (hp : p = 49 ∨ p = 58) (q1 : 0 ≤ c.toInt) (q2 : c.toInt ≤ 29) (q3 : 0 ≤ f.toInt) (q4 : f.toInt ≤ 7) (h : ∀ (M1 : mm_M), g_G M1 → FR md_m M M1 → Q (none) M1) : mm_T X d 18 0 [.ref 39, .ref p, .ref 11, .int c, .int f, .int t, .null, .null, .null, .null, .null] [] M Q := by
  have F0 : FR md_m M M := FR.rf
  refine to_an (pc := 0) rw_18_0 rfl (s_gR (pc := 1) rw_18_1 hG rfl (v := 12) rfl (to_in (pc := 4) rw_18_4 rfl (s_lal (pc := 5) rw_18_5 hG rfl (n := 30) rfl (A := c.toInt) rfl (by omega) (by omega) (fun l59 => to_an (pc := 6) rw_18_6 rfl (to_i (pc := 7) rw_18_7 rfl (s_v (pc := 9) rw_18_9 (dp0 hd (by decide)) (ls0 := [.ref p, .int f]) rfl (Nat.le_of_ble_eq_true rfl) (Nat.le_of_ble_eq_true rfl) rfl (to_rc rfl rfl rfl (g_o hG (by rcases hp with rfl | rfl <;> rfl))) rfl (to_an (pc := 0) rw_48_0 rfl (s_gR (pc := 1) rw_48_1 hG (by rcases hp with rfl | rfl <;> rfl) (v := (p + 3)) (by rcases hp with rfl | rfl <;> rfl) (to_in (pc := 4) rw_48_4 rfl (s_ial (pc := 5) rw_48_5 hG (by rcases hp with rfl | rfl <;> rfl) (n := 8) (by rcases hp with rfl | rfl <;> rfl) (by rcases hp with rfl | rfl <;> rfl) (A := f.toInt) rfl (by omega) (by omega) (lo := 0) (hi := 59) (by rcases hp with rfl | rfl <;> rfl) (by rcases hp with rfl | rfl <;> rfl) (fun v60 w_61 _ _ => to_an (pc := 6) rw_48_6 rfl ?_)))))))))))
  refine s_gR (pc := 7) rw_48_7 hG (by rcases hp with rfl | rfl <;> rfl) (v := (p + 4)) (by rcases hp with rfl | rfl <;> rfl) (to_in (pc := 10) rw_48_10 rfl (s_ial (pc := 11) rw_48_11 hG (by rcases hp with rfl | rfl <;> rfl) (n := 8) (by rcases hp with rfl | rfl <;> rfl) (by rcases hp with rfl | rfl <;> rfl) (A := f.toInt) rfl (by omega) (by omega) (lo := 0) (hi := 63) (by rcases hp with rfl | rfl <;> rfl) (by rcases hp with rfl | rfl <;> rfl) (fun v62 w_63 _ _ => s_s (pc := 12) rw_48_12 (dp1 hd (by decide)) (ls0 := [.int v60, .int v62]) rfl (Nat.le_of_ble_eq_true rfl) (Nat.le_of_ble_eq_true rfl) rfl (to_rcs rfl rfl) rfl (s_cl (pc := 0) rw_144_0 rfl (fun l64 => to_in (pc := 1) rw_144_1 rfl (to_in (pc := 2) rw_144_2 rfl (s_sub (pc := 3) rw_144_3 (A := v62.toInt) (B := v60.toInt) rfl rfl (by omega) (fun v65 e66 => to_c (pc := 4) rw_144_4 (x := (1 : Int32)) rfl rfl (s_add (pc := 5) rw_144_5 (A := v65.toInt) (B := 1) rfl rfl (by omega) (fun v67 e68 => s_anyS (pc := 6) rw_144_6 (fun _ _ => rfl) (fun l69 => s_cl (pc := 7) rw_144_7 rfl (fun l70 => ?_))))))))))))
  refine s_anyL (pc := 8) rw_144_8 (fun _ _ => rfl) (fun l71 => to_in (pc := 9) rw_144_9 rfl (s_anyS (pc := 10) rw_144_10 (fun _ _ => rfl) (fun l72 => to_rl (pc := 11) rw_144_11 (to_rl (pc := 15) rw_48_15 (s_anyL (pc := 12) rw_18_12 (fun _ _ => rfl) (fun l73 => to_ls (pc := 13) rw_18_13 (ls2 := [.ref 39, .ref p, .ref 11, .int c, .int f, .int t, .long l73, .null, .null, .null, .null]) rfl rfl (to_an (pc := 15) rw_18_15 rfl (to_c (pc := 16) rw_18_16 (x := (-1 : Int32)) rfl rfl (s_pI (pc := 17) rw_18_17 hG rfl (fun M75 W74 => ?_))))))))))
  have hG76 := g_wf hG W74 rfl rfl (by decide)
  have F77 := FR.w F0 W74 (show 39 ≤ 39 ∧ 39 ≤ 41 by decide)
  refine to_an (pc := 20) rw_18_20 rfl (to_c (pc := 21) rw_18_21 (x := (0 : Int32)) rfl rfl (s_pI (pc := 22) rw_18_22 hG76 rfl (fun M79 W78 => ?_)))
  have hG80 := g_wf hG76 W78 rfl rfl (by decide)
  have F81 := FR.w F77 W78 (show 39 ≤ 39 ∧ 39 ≤ 41 by decide)
  refine to_an (pc := 25) rw_18_25 rfl (to_c (pc := 26) rw_18_26 (x := (0 : Int32)) rfl rfl (s_pI (pc := 27) rw_18_27 hG80 rfl (fun M83 W82 => ?_)))
  have hG84 := g_wf hG80 W82 rfl rfl (by decide)
  have F85 := FR.w F81 W82 (show 39 ≤ 39 ∧ 39 ≤ 41 by decide)
  refine to_c (pc := 30) rw_18_30 (x := (0 : Int32)) rfl rfl (to_is (pc := 31) rw_18_31 (ls2 := [.ref 39, .ref p, .ref 11, .int c, .int f, .int t, .long l73, .null, .int (0 : Int32), .null, .null]) rfl rfl ?_)
  have k_86 : (0 : Int32).toInt = 0 := rfl
  exact (T_18_0 (p := p) (c := c) (f := f) (t := t) hX hd hp q1 q2 q3 q4 h ((24 - (0 : Int32).toInt).toNat + 1)) M83 (.ref 11) (.int c) l73 (0 : Int32) (.null) (.null) hG84 F85 (by omega) (by omega) (by omega) (by omega) (by omega)
end
section
theorem tg_133 : ∀ a i : Nat, (a = 1 ∧ 5 ≤ i ∨ 3 ≤ a ∧ a ≤ 5) → (a = 1 ∧ 5 ≤ i ∨ 3 ≤ a ∧ a ≤ 5 ∨ 29 ≤ a ∧ a ≤ 35) := fun a i z => by omega
theorem tg_134 : ∀ a i : Nat, (a = 1 ∧ 5 ≤ i ∨ 3 ≤ a ∧ a ≤ 5) → (a = 1 ∧ 5 ≤ i ∨ 3 ≤ a ∧ a ≤ 5 ∨ a = 33) := fun a i z => by omega
theorem tg_135 : ∀ a i : Nat, (a < 0) → (a = 1 ∧ 5 ≤ i ∨ 3 ≤ a ∧ a ≤ 5 ∨ a = 33) := fun a i z => by omega
theorem tg_136 : ∀ a i : Nat, (a = 1 ∧ 5 ≤ i ∨ 3 ≤ a ∧ a ≤ 5 ∨ a = 33) → (a = 1 ∧ 5 ≤ i ∨ 3 ≤ a ∧ a ≤ 5 ∨ 29 ≤ a ∧ a ≤ 35) := fun a i z => by omega
theorem tg_137 : ∀ a i : Nat, (a = 1 ∧ 5 ≤ i ∨ 3 ≤ a ∧ a ≤ 5 ∨ 29 ≤ a ∧ a ≤ 35) → (a = 1 ∧ 5 ≤ i ∨ 3 ≤ a ∧ a ≤ 5 ∨ 29 ≤ a ∧ a ≤ 35) := fun a i z => by omega
theorem tg_138 : ∀ a i : Nat, (a = 1 ∧ 5 ≤ i ∨ 3 ≤ a ∧ a ≤ 5) → (a = 1 ∧ 5 ≤ i ∨ 3 ≤ a ∧ a ≤ 5 ∨ 28 ≤ a ∧ a ≤ 35) := fun a i z => by omega
theorem tg_139 : ∀ a i : Nat, (a = 1 ∧ 5 ≤ i ∨ 3 ≤ a ∧ a ≤ 5 ∨ 28 ≤ a ∧ a ≤ 35) → (a = 1 ∧ 5 ≤ i ∨ 3 ≤ a ∧ a ≤ 5 ∨ 28 ≤ a ∧ a ≤ 35) := fun a i z => by omega
theorem tg_140 : ∀ a i : Nat, (a = 1 ∧ 5 ≤ i ∨ 3 ≤ a ∧ a ≤ 5 ∨ 29 ≤ a ∧ a ≤ 35) → (a = 1 ∧ 5 ≤ i ∨ 3 ≤ a ∧ a ≤ 5 ∨ 28 ≤ a ∧ a ≤ 35) := fun a i z => by omega
theorem tg_141 : ∀ a i : Nat, (18 ≤ a ∧ a ≤ 35) → (18 ≤ a ∧ a ≤ 35) := fun a i z => by omega
theorem tg_142 : ∀ a i : Nat, (18 ≤ a ∧ a ≤ 27) → (18 ≤ a ∧ a ≤ 35) := fun a i z => by omega
set_option maxRecDepth 4000 in
set_option maxHeartbeats 0 in
theorem C_102 {X : mm_X} {d : Nat} {M : mm_M} {Q : Option Value → mm_M → Prop} {w : Nat} {s : Int32} (hX : g_X X) (hd : 1 ≤ d) (hG : g_G M) (hw : w = 30 ∨ w = 31 ∨ w = 32) (q1 : 0 ≤ s.toInt) (q2 : s.toInt ≤ 39) (h : ∀ (r : Int32) (M1 : mm_M), g_G M1 → FR md_wr M M1 → (0 ≤ r.toInt) → (r.toInt ≤ 1) → Q (some (.int r)) M1) : mm_T X d 102 0 [.ref 28, .ref 1, .ref w, .int s, .null] [] M Q := by
  have F0 : FR md_wr M M := FR.rf
  refine to_an (pc := 0) rw_102_0 rfl (tt_gI (pc := 1) rw_102_1 (g_o hG rfl) (v := (M.2.1 1 7)) rfl (to_c (pc := 4) rw_102_4 (x := (3 : Int32)) rfl rfl (b_cne (pc := 5) rw_102_5 (A := (M.2.1 1 7).toInt) (B := 3) rfl rfl (fun h1 => ?_) (fun h1 => ?_))))
  · refine to_c (pc := 18) rw_102_18 (x := (0 : Int32)) rfl rfl (to_is (pc := 19) rw_102_19 (ls2 := [.ref 28, .ref 1, .ref w, .int s, .int (0 : Int32)]) rfl rfl (to_i (pc := 21) rw_102_21 rfl (to_c (pc := 23) rw_102_23 (x := (1 : Int32)) rfl rfl (b_clt_t (pc := 24) rw_102_24 (A := 0) (B := 1) rfl rfl (by decide) (to_an (pc := 46) rw_102_46 rfl (to_c (pc := 47) rw_102_47 (x := (1 : Int32)) rfl rfl (s_v (pc := 48) rw_102_48 (dp0 hd (by decide)) (ls0 := [.ref 1, .int (1 : Int32)]) rfl (Nat.le_of_ble_eq_true rfl) (Nat.le_of_ble_eq_true rfl) rfl (to_rc rfl rfl rfl (g_o hG rfl)) rfl (to_an (pc := 0) rw_84_0 rfl (to_in (pc := 1) rw_84_1 rfl (s_pI (pc := 2) rw_84_2 hG rfl (fun M3 W2 => ?_)))))))))))
    have hG4 := g_wf hG W2 rfl rfl (by decide)
    have F5 := FR.w F0 W2 (show 1 = 1 ∧ 5 ≤ 10 ∨ 3 ≤ 1 ∧ 1 ≤ 5 ∨ 29 ≤ 1 ∧ 1 ≤ 35 by decide)
    refine to_an (pc := 5) rw_84_5 rfl (to_an (pc := 6) rw_84_6 rfl ?_)
    have c_6 : M3.2.1 1 9 = (M.2.1 1 9) := (W_n W2 (by decide) rfl)
    refine tt_gI (pc := 7) rw_84_7 (g_o hG4 rfl) (v := (M.2.1 1 9)) c_6 (s_pI (pc := 10) rw_84_10 hG4 rfl (fun M8 W7 => ?_))
    have hG9 := g_wf hG4 W7 rfl rfl (by decide)
    have F10 := FR.w F5 W7 (show 1 = 1 ∧ 5 ≤ 11 ∨ 3 ≤ 1 ∧ 1 ≤ 5 ∨ 29 ≤ 1 ∧ 1 ≤ 35 by decide)
    refine to_c (pc := 13) rw_84_13 (x := (0 : Int32)) rfl rfl (s_r1 (pc := 14) rw_84_14 (A := 0) rfl (by decide) (s_r1 (pc := 51) rw_102_51 (A := 0) rfl (by decide) ?_))
    have k_11 : (0 : Int32).toInt = 0 := rfl
    exact h (0 : Int32) M8 hG9 F10 (by decide) (by decide)
  · refine to_an (pc := 8) rw_102_8 rfl (tt_gI (pc := 9) rw_102_9 (g_o hG rfl) (v := (M.2.1 1 8)) rfl (to_c (pc := 12) rw_102_12 (x := (25 : Int32)) rfl rfl (s_any (pc := 14) rw_102_14 (fun _ _ => rfl) (fun v12 => to_go (pc := 15) rw_102_15 (to_is (pc := 19) rw_102_19 (ls2 := [.ref 28, .ref 1, .ref w, .int s, .int v12]) rfl rfl (to_i (pc := 21) rw_102_21 rfl (to_c (pc := 23) rw_102_23 (x := (1 : Int32)) rfl rfl (b_clt (pc := 24) rw_102_24 (A := v12.toInt) (B := 1) rfl rfl (fun h13 => ?_) (fun h13 => ?_)))))))))
    · refine to_an (pc := 46) rw_102_46 rfl (to_c (pc := 47) rw_102_47 (x := (1 : Int32)) rfl rfl (s_v (pc := 48) rw_102_48 (dp0 hd (by decide)) (ls0 := [.ref 1, .int (1 : Int32)]) rfl (Nat.le_of_ble_eq_true rfl) (Nat.le_of_ble_eq_true rfl) rfl (to_rc rfl rfl rfl (g_o hG rfl)) rfl (to_an (pc := 0) rw_84_0 rfl (to_in (pc := 1) rw_84_1 rfl (s_pI (pc := 2) rw_84_2 hG rfl (fun M15 W14 => ?_))))))
      have hG16 := g_wf hG W14 rfl rfl (by decide)
      have F17 := FR.w F0 W14 (show 1 = 1 ∧ 5 ≤ 10 ∨ 3 ≤ 1 ∧ 1 ≤ 5 ∨ 29 ≤ 1 ∧ 1 ≤ 35 by decide)
      refine to_an (pc := 5) rw_84_5 rfl (to_an (pc := 6) rw_84_6 rfl ?_)
      have c_18 : M15.2.1 1 9 = (M.2.1 1 9) := (W_n W14 (by decide) rfl)
      refine tt_gI (pc := 7) rw_84_7 (g_o hG16 rfl) (v := (M.2.1 1 9)) c_18 (s_pI (pc := 10) rw_84_10 hG16 rfl (fun M20 W19 => ?_))
      have hG21 := g_wf hG16 W19 rfl rfl (by decide)
      have F22 := FR.w F17 W19 (show 1 = 1 ∧ 5 ≤ 11 ∨ 3 ≤ 1 ∧ 1 ≤ 5 ∨ 29 ≤ 1 ∧ 1 ≤ 35 by decide)
      refine to_c (pc := 13) rw_84_13 (x := (0 : Int32)) rfl rfl (s_r1 (pc := 14) rw_84_14 (A := 0) rfl (by decide) (s_r1 (pc := 51) rw_102_51 (A := 0) rfl (by decide) ?_))
      have k_23 : (0 : Int32).toInt = 0 := rfl
      exact h (0 : Int32) M20 hG21 F22 (by decide) (by decide)
    · refine to_i (pc := 27) rw_102_27 rfl (to_c (pc := 29) rw_102_29 (x := (6 : Int32)) rfl rfl (b_cgt (pc := 31) rw_102_31 (A := v12.toInt) (B := 6) rfl rfl (fun h24 => ?_) (fun h24 => ?_)))
      · refine to_an (pc := 46) rw_102_46 rfl (to_c (pc := 47) rw_102_47 (x := (1 : Int32)) rfl rfl (s_v (pc := 48) rw_102_48 (dp0 hd (by decide)) (ls0 := [.ref 1, .int (1 : Int32)]) rfl (Nat.le_of_ble_eq_true rfl) (Nat.le_of_ble_eq_true rfl) rfl (to_rc rfl rfl rfl (g_o hG rfl)) rfl (to_an (pc := 0) rw_84_0 rfl (to_in (pc := 1) rw_84_1 rfl (s_pI (pc := 2) rw_84_2 hG rfl (fun M26 W25 => ?_))))))
        have hG27 := g_wf hG W25 rfl rfl (by decide)
        have F28 := FR.w F0 W25 (show 1 = 1 ∧ 5 ≤ 10 ∨ 3 ≤ 1 ∧ 1 ≤ 5 ∨ 29 ≤ 1 ∧ 1 ≤ 35 by decide)
        refine to_an (pc := 5) rw_84_5 rfl (to_an (pc := 6) rw_84_6 rfl ?_)
        have c_29 : M26.2.1 1 9 = (M.2.1 1 9) := (W_n W25 (by decide) rfl)
        refine tt_gI (pc := 7) rw_84_7 (g_o hG27 rfl) (v := (M.2.1 1 9)) c_29 (s_pI (pc := 10) rw_84_10 hG27 rfl (fun M31 W30 => ?_))
        have hG32 := g_wf hG27 W30 rfl rfl (by decide)
        have F33 := FR.w F28 W30 (show 1 = 1 ∧ 5 ≤ 11 ∨ 3 ≤ 1 ∧ 1 ≤ 5 ∨ 29 ≤ 1 ∧ 1 ≤ 35 by decide)
        refine to_c (pc := 13) rw_84_13 (x := (0 : Int32)) rfl rfl (s_r1 (pc := 14) rw_84_14 (A := 0) rfl (by decide) (s_r1 (pc := 51) rw_102_51 (A := 0) rfl (by decide) ?_))
        have k_34 : (0 : Int32).toInt = 0 := rfl
        exact h (0 : Int32) M31 hG32 F33 (by decide) (by decide)
      · refine to_an (pc := 34) rw_102_34 rfl (tt_gI (pc := 35) rw_102_35 (g_o hG rfl) (v := (M.2.1 1 8)) rfl (to_i (pc := 38) rw_102_38 rfl (to_c (pc := 40) rw_102_40 (x := (25 : Int32)) rfl rfl (s_any (pc := 42) rw_102_42 (fun _ _ => rfl) (fun v35 => b_ceq (pc := 43) rw_102_43 (A := (M.2.1 1 8).toInt) (B := v35.toInt) rfl rfl (fun h36 => ?_) (fun h36 => ?_))))))
        · refine to_an (pc := 52) rw_102_52 rfl (to_in (pc := 53) rw_102_53 rfl (to_i (pc := 54) rw_102_54 rfl (to_c (pc := 56) rw_102_56 (x := (1 : Int32)) rfl rfl (s_sub (pc := 57) rw_102_57 (A := v12.toInt) (B := 1) rfl rfl (by omega) (fun v37 e38 => s_ias (pc := 58) rw_102_58 hG (by rcases hw with rfl | rfl | rfl <;> rfl) (n := 40) (by rcases hw with rfl | rfl | rfl <;> rfl) (A := s.toInt) rfl (by omega) (by omega) (fun M40 W39 => ?_))))))
          have hG41 := g_w hG W39 (A := v37.toInt) rfl (lo := 0) (hi := 5) (by rcases hw with rfl | rfl | rfl <;> rfl) (by rcases hw with rfl | rfl | rfl <;> rfl) (by omega) (by omega)
          have F42 := FR.w F0 W39 (show w = 1 ∧ 5 ≤ (s.toInt).toNat ∨ 3 ≤ w ∧ w ≤ 5 ∨ 29 ≤ w ∧ w ≤ 35 by omega)
          refine to_an (pc := 59) rw_102_59 rfl (s_v (pc := 60) rw_102_60 (dp0 hd (by decide)) (ls0 := [.ref 1]) rfl (Nat.le_of_ble_eq_true rfl) (Nat.le_of_ble_eq_true rfl) rfl (to_rc rfl rfl rfl (g_o hG41 rfl)) rfl (C_83 hX (dp1 hd (by decide)) hG41  (fun M45 hG44 F43 => ?_)))
          have F46 := FR.c F42 F43 tg_133
          refine to_c (pc := 63) rw_102_63 (x := (1 : Int32)) rfl rfl (s_r1 (pc := 64) rw_102_64 (A := 1) rfl (by decide) ?_)
          have k_47 : (1 : Int32).toInt = 1 := rfl
          exact h (1 : Int32) M45 hG44 F46 (by decide) (by decide)
        · refine to_an (pc := 46) rw_102_46 rfl (to_c (pc := 47) rw_102_47 (x := (1 : Int32)) rfl rfl (s_v (pc := 48) rw_102_48 (dp0 hd (by decide)) (ls0 := [.ref 1, .int (1 : Int32)]) rfl (Nat.le_of_ble_eq_true rfl) (Nat.le_of_ble_eq_true rfl) rfl (to_rc rfl rfl rfl (g_o hG rfl)) rfl (to_an (pc := 0) rw_84_0 rfl (to_in (pc := 1) rw_84_1 rfl (s_pI (pc := 2) rw_84_2 hG rfl (fun M49 W48 => ?_))))))
          have hG50 := g_wf hG W48 rfl rfl (by decide)
          have F51 := FR.w F0 W48 (show 1 = 1 ∧ 5 ≤ 10 ∨ 3 ≤ 1 ∧ 1 ≤ 5 ∨ 29 ≤ 1 ∧ 1 ≤ 35 by decide)
          refine to_an (pc := 5) rw_84_5 rfl (to_an (pc := 6) rw_84_6 rfl ?_)
          have c_52 : M49.2.1 1 9 = (M.2.1 1 9) := (W_n W48 (by decide) rfl)
          refine tt_gI (pc := 7) rw_84_7 (g_o hG50 rfl) (v := (M.2.1 1 9)) c_52 (s_pI (pc := 10) rw_84_10 hG50 rfl (fun M54 W53 => ?_))
          have hG55 := g_wf hG50 W53 rfl rfl (by decide)
          have F56 := FR.w F51 W53 (show 1 = 1 ∧ 5 ≤ 11 ∨ 3 ≤ 1 ∧ 1 ≤ 5 ∨ 29 ≤ 1 ∧ 1 ≤ 35 by decide)
          refine to_c (pc := 13) rw_84_13 (x := (0 : Int32)) rfl rfl (s_r1 (pc := 14) rw_84_14 (A := 0) rfl (by decide) (s_r1 (pc := 51) rw_102_51 (A := 0) rfl (by decide) ?_))
          have k_57 : (0 : Int32).toInt = 0 := rfl
          exact h (0 : Int32) M54 hG55 F56 (by decide) (by decide)
set_option maxRecDepth 4000 in
set_option maxHeartbeats 0 in
theorem C_103 {X : mm_X} {d : Nat} {M : mm_M} {Q : Option Value → mm_M → Prop} {p : Nat} {s : Int32} (hX : g_X X) (hd : 2 ≤ d) (hG : g_G M) (hp : p = 49 ∨ p = 58) (q1 : 0 ≤ s.toInt) (q2 : s.toInt ≤ 39) (h : ∀ (r : Int32) (M1 : mm_M), g_G M1 → FR md_t3 M M1 → (0 ≤ r.toInt) → (r.toInt ≤ 1) → Q (some (.int r)) M1) : mm_T X d 103 0 [.ref 28, .ref 1, .ref p, .ref 11, .int s, .null, .null, .null, .null] [] M Q := by
  have F0 : FR md_t3 M M := FR.rf
  refine to_c (pc := 0) rw_103_0 (x := (0 : Int32)) rfl rfl (to_is (pc := 1) rw_103_1 (ls2 := [.ref 28, .ref 1, .ref p, .ref 11, .int s, .int (0 : Int32), .null, .null, .null]) rfl rfl (to_an (pc := 3) rw_103_3 rfl ?_))
  have b_1 := g_b hG (a := p) (i := 0) (lo := 10) (hi := 60) (by rcases hp with rfl | rfl <;> rfl) (by rcases hp with rfl | rfl <;> rfl)
  refine tt_gI (pc := 4) rw_103_4 (g_o hG (by rcases hp with rfl | rfl <;> rfl)) (v := (M.2.1 p 0)) rfl (to_c (pc := 7) rw_103_7 (x := (1 : Int32)) rfl rfl (s_sub (pc := 8) rw_103_8 (A := (M.2.1 p 0).toInt) (B := 1) rfl rfl (by omega) (fun v2 e3 => to_is (pc := 9) rw_103_9 (ls2 := [.ref 28, .ref 1, .ref p, .ref 11, .int s, .int (0 : Int32), .int v2, .null, .null]) rfl rfl (to_an (pc := 11) rw_103_11 rfl (tt_gI (pc := 12) rw_103_12 (g_o hG rfl) (v := (M.2.1 1 7)) rfl (to_c (pc := 15) rw_103_15 (x := (3 : Int32)) rfl rfl (b_cne (pc := 16) rw_103_16 (A := (M.2.1 1 7).toInt) (B := 3) rfl rfl (fun h4 => ?_) (fun h4 => ?_))))))))
  · refine to_an (pc := 109) rw_103_109 rfl (to_c (pc := 110) rw_103_110 (x := (0 : Int32)) rfl rfl (to_i (pc := 111) rw_103_111 rfl (s_v (pc := 113) rw_103_113 (dp0 hd (by decide)) (ls0 := [.ref 1, .int (0 : Int32), .int v2]) rfl (Nat.le_of_ble_eq_true rfl) (Nat.le_of_ble_eq_true rfl) rfl (to_rc rfl rfl rfl (g_o hG rfl)) rfl (to_an (pc := 0) rw_88_0 rfl (tt_gI (pc := 1) rw_88_1 (g_o hG rfl) (v := (M.2.1 1 7)) rfl (to_c (pc := 4) rw_88_4 (x := (2 : Int32)) rfl rfl (b_ceq (pc := 5) rw_88_5 (A := (M.2.1 1 7).toInt) (B := 2) rfl rfl (fun h5 => ?_) (fun h5 => ?_))))))))
    · refine to_an (pc := 14) rw_88_14 rfl (tt_gI (pc := 15) rw_88_15 (g_o hG rfl) (v := (M.2.1 1 8)) rfl (to_in (pc := 18) rw_88_18 rfl (b_clt (pc := 19) rw_88_19 (A := (M.2.1 1 8).toInt) (B := 0) rfl rfl (fun h6 => ?_) (fun h6 => ?_))))
      · refine to_an (pc := 30) rw_88_30 rfl (to_c (pc := 31) rw_88_31 (x := (2 : Int32)) rfl rfl (s_v (pc := 32) rw_88_32 (dp1 hd (by decide)) (ls0 := [.ref 1, .int (2 : Int32)]) rfl (Nat.le_of_ble_eq_true rfl) (Nat.le_of_ble_eq_true rfl) rfl (to_rc rfl rfl rfl (g_o hG rfl)) rfl (to_an (pc := 0) rw_84_0 rfl (to_in (pc := 1) rw_84_1 rfl (s_pI (pc := 2) rw_84_2 hG rfl (fun M8 W7 => ?_))))))
        have hG9 := g_wf hG W7 rfl rfl (by decide)
        have F10 := FR.w F0 W7 (show 1 = 1 ∧ 5 ≤ 10 ∨ 3 ≤ 1 ∧ 1 ≤ 5 ∨ 1 = 33 by decide)
        refine to_an (pc := 5) rw_84_5 rfl (to_an (pc := 6) rw_84_6 rfl ?_)
        have c_11 : M8.2.1 1 9 = (M.2.1 1 9) := (W_n W7 (by decide) rfl)
        refine tt_gI (pc := 7) rw_84_7 (g_o hG9 rfl) (v := (M.2.1 1 9)) c_11 (s_pI (pc := 10) rw_84_10 hG9 rfl (fun M13 W12 => ?_))
        have hG14 := g_wf hG9 W12 rfl rfl (by decide)
        have F15 := FR.w F10 W12 (show 1 = 1 ∧ 5 ≤ 11 ∨ 3 ≤ 1 ∧ 1 ≤ 5 ∨ 1 = 33 by decide)
        refine to_c (pc := 13) rw_84_13 (x := (0 : Int32)) rfl rfl (s_r1 (pc := 14) rw_84_14 (A := 0) rfl (by decide) (b_ieq_t (pc := 35) rw_88_35 (A := 0) rfl (by decide) (to_c (pc := 42) rw_88_42 (x := (0 : Int32)) rfl rfl (s_r1 (pc := 43) rw_88_43 (A := 0) rfl (by decide) (b_ine_f (pc := 116) rw_103_116 (A := 0) rfl (by decide) (to_c (pc := 119) rw_103_119 (x := (0 : Int32)) rfl rfl (s_r1 (pc := 120) rw_103_120 (A := 0) rfl (by decide) ?_)))))))
        have k_16 : (0 : Int32).toInt = 0 := rfl
        exact h (0 : Int32) M13 hG14 F15 (by decide) (by decide)
      · refine to_an (pc := 22) rw_88_22 rfl (tt_gI (pc := 23) rw_88_23 (g_o hG rfl) (v := (M.2.1 1 8)) rfl (to_in (pc := 26) rw_88_26 rfl (b_cle (pc := 27) rw_88_27 (A := (M.2.1 1 8).toInt) (B := v2.toInt) rfl rfl (fun h17 => ?_) (fun h17 => ?_))))
        · refine to_c (pc := 38) rw_88_38 (x := (1 : Int32)) rfl rfl (to_go (pc := 39) rw_88_39 (s_r1 (pc := 43) rw_88_43 (A := 1) rfl (by decide) (b_ine_t (pc := 116) rw_103_116 (A := 1) rfl (by decide) (to_an (pc := 121) rw_103_121 rfl (s_gR (pc := 122) rw_103_122 hG rfl (v := 33) rfl (to_i (pc := 125) rw_103_125 rfl (to_dup2 (pc := 127) rw_103_127 (s_lal (pc := 128) rw_103_128 hG rfl (n := 40) rfl (A := s.toInt) rfl (by omega) (by omega) (fun l18 => s_cl (pc := 129) rw_103_129 rfl (fun l19 => to_i (pc := 130) rw_103_130 rfl (to_an (pc := 132) rw_103_132 rfl ?_)))))))))))
          refine tt_gI (pc := 133) rw_103_133 (g_o hG rfl) (v := (M.2.1 1 8)) rfl (s_add (pc := 136) rw_103_136 (A := 0) (B := (M.2.1 1 8).toInt) rfl rfl (by omega) (fun v20 e21 => s_anyS (pc := 137) rw_103_137 (fun _ _ => rfl) (fun l22 => s_anyL (pc := 138) rw_103_138 (fun _ _ => rfl) (fun l23 => s_las (pc := 139) rw_103_139 hG rfl (n := 40) rfl (A := s.toInt) rfl (by omega) (by omega) (fun M25 W24 => ?_)))))
          have hG26 := g_wl hG W24
          have F27 := FR.wl F0 W24 (show 33 = 1 ∧ 5 ≤ (s.toInt).toNat ∨ 3 ≤ 33 ∧ 33 ≤ 5 ∨ 33 = 33 by omega)
          refine to_an (pc := 140) rw_103_140 rfl (s_v (pc := 141) rw_103_141 (dp0 hd (by decide)) (ls0 := [.ref 1]) rfl (Nat.le_of_ble_eq_true rfl) (Nat.le_of_ble_eq_true rfl) rfl (to_rc rfl rfl rfl (g_o hG26 rfl)) rfl (C_83 hX (dp1 hd (by decide)) hG26  (fun M30 hG29 F28 => ?_)))
          have F31 := FR.c F27 F28 tg_134
          refine to_c (pc := 144) rw_103_144 (x := (1 : Int32)) rfl rfl (s_r1 (pc := 145) rw_103_145 (A := 1) rfl (by decide) ?_)
          have k_32 : (1 : Int32).toInt = 1 := rfl
          exact h (1 : Int32) M30 hG29 F31 (by decide) (by decide)
        · refine to_an (pc := 30) rw_88_30 rfl (to_c (pc := 31) rw_88_31 (x := (2 : Int32)) rfl rfl (s_v (pc := 32) rw_88_32 (dp1 hd (by decide)) (ls0 := [.ref 1, .int (2 : Int32)]) rfl (Nat.le_of_ble_eq_true rfl) (Nat.le_of_ble_eq_true rfl) rfl (to_rc rfl rfl rfl (g_o hG rfl)) rfl (to_an (pc := 0) rw_84_0 rfl (to_in (pc := 1) rw_84_1 rfl (s_pI (pc := 2) rw_84_2 hG rfl (fun M34 W33 => ?_))))))
          have hG35 := g_wf hG W33 rfl rfl (by decide)
          have F36 := FR.w F0 W33 (show 1 = 1 ∧ 5 ≤ 10 ∨ 3 ≤ 1 ∧ 1 ≤ 5 ∨ 1 = 33 by decide)
          refine to_an (pc := 5) rw_84_5 rfl (to_an (pc := 6) rw_84_6 rfl ?_)
          have c_37 : M34.2.1 1 9 = (M.2.1 1 9) := (W_n W33 (by decide) rfl)
          refine tt_gI (pc := 7) rw_84_7 (g_o hG35 rfl) (v := (M.2.1 1 9)) c_37 (s_pI (pc := 10) rw_84_10 hG35 rfl (fun M39 W38 => ?_))
          have hG40 := g_wf hG35 W38 rfl rfl (by decide)
          have F41 := FR.w F36 W38 (show 1 = 1 ∧ 5 ≤ 11 ∨ 3 ≤ 1 ∧ 1 ≤ 5 ∨ 1 = 33 by decide)
          refine to_c (pc := 13) rw_84_13 (x := (0 : Int32)) rfl rfl (s_r1 (pc := 14) rw_84_14 (A := 0) rfl (by decide) (b_ieq_t (pc := 35) rw_88_35 (A := 0) rfl (by decide) (to_c (pc := 42) rw_88_42 (x := (0 : Int32)) rfl rfl (s_r1 (pc := 43) rw_88_43 (A := 0) rfl (by decide) (b_ine_f (pc := 116) rw_103_116 (A := 0) rfl (by decide) (to_c (pc := 119) rw_103_119 (x := (0 : Int32)) rfl rfl (s_r1 (pc := 120) rw_103_120 (A := 0) rfl (by decide) ?_)))))))
          have k_42 : (0 : Int32).toInt = 0 := rfl
          exact h (0 : Int32) M39 hG40 F41 (by decide) (by decide)
    · refine to_an (pc := 8) rw_88_8 rfl (to_c (pc := 9) rw_88_9 (x := (1 : Int32)) rfl rfl (s_v (pc := 10) rw_88_10 (dp1 hd (by decide)) (ls0 := [.ref 1, .int (1 : Int32)]) rfl (Nat.le_of_ble_eq_true rfl) (Nat.le_of_ble_eq_true rfl) rfl (to_rc rfl rfl rfl (g_o hG rfl)) rfl (to_an (pc := 0) rw_84_0 rfl (to_in (pc := 1) rw_84_1 rfl (s_pI (pc := 2) rw_84_2 hG rfl (fun M44 W43 => ?_))))))
      have hG45 := g_wf hG W43 rfl rfl (by decide)
      have F46 := FR.w F0 W43 (show 1 = 1 ∧ 5 ≤ 10 ∨ 3 ≤ 1 ∧ 1 ≤ 5 ∨ 1 = 33 by decide)
      refine to_an (pc := 5) rw_84_5 rfl (to_an (pc := 6) rw_84_6 rfl ?_)
      have c_47 : M44.2.1 1 9 = (M.2.1 1 9) := (W_n W43 (by decide) rfl)
      refine tt_gI (pc := 7) rw_84_7 (g_o hG45 rfl) (v := (M.2.1 1 9)) c_47 (s_pI (pc := 10) rw_84_10 hG45 rfl (fun M49 W48 => ?_))
      have hG50 := g_wf hG45 W48 rfl rfl (by decide)
      have F51 := FR.w F46 W48 (show 1 = 1 ∧ 5 ≤ 11 ∨ 3 ≤ 1 ∧ 1 ≤ 5 ∨ 1 = 33 by decide)
      refine to_c (pc := 13) rw_84_13 (x := (0 : Int32)) rfl rfl (s_r1 (pc := 14) rw_84_14 (A := 0) rfl (by decide) (s_r1 (pc := 13) rw_88_13 (A := 0) rfl (by decide) (b_ine_f (pc := 116) rw_103_116 (A := 0) rfl (by decide) (to_c (pc := 119) rw_103_119 (x := (0 : Int32)) rfl rfl (s_r1 (pc := 120) rw_103_120 (A := 0) rfl (by decide) ?_)))))
      have k_52 : (0 : Int32).toInt = 0 := rfl
      exact h (0 : Int32) M49 hG50 F51 (by decide) (by decide)
  · refine to_an (pc := 19) rw_103_19 rfl (to_an (pc := 20) rw_103_20 rfl (tt_gI (pc := 21) rw_103_21 (g_o hG rfl) (v := (M.2.1 1 8)) rfl (s_v (pc := 24) rw_103_24 (dp0 hd (by decide)) (ls0 := [.ref p, .int (M.2.1 1 8)]) rfl (Nat.le_of_ble_eq_true rfl) (Nat.le_of_ble_eq_true rfl) rfl (to_rc rfl rfl rfl (g_o hG (by rcases hp with rfl | rfl <;> rfl))) rfl (to_an (pc := 0) rw_53_0 rfl (s_gR (pc := 1) rw_53_1 hG (by rcases hp with rfl | rfl <;> rfl) (v := (p + 6)) (by rcases hp with rfl | rfl <;> rfl) (to_an (pc := 4) rw_53_4 rfl ?_))))))
    have b_53 := g_b hG (a := p) (i := 3) (lo := 0) (hi := 12) (by rcases hp with rfl | rfl <;> rfl) (by rcases hp with rfl | rfl <;> rfl)
    refine tt_gI (pc := 5) rw_53_5 (g_o hG (by rcases hp with rfl | rfl <;> rfl)) (v := (M.2.1 p 3)) rfl (to_in (pc := 8) rw_53_8 rfl (s_s (pc := 9) rw_53_9 (dp1 hd (by decide)) (ls0 := [.ref (p + 6), .int (M.2.1 p 3), .int (M.2.1 1 8), .null]) rfl (Nat.le_of_ble_eq_true rfl) (Nat.le_of_ble_eq_true rfl) rfl (to_rcs rfl rfl) rfl (C_54g hX (dp2 hd (by decide)) hG (by omega) (g := (p + 6)) (s := (M.2.1 p 3)) (x := (M.2.1 1 8)) (fun r54 M59 hG56 F55 p_57 p_58 => ?_))))
    have F60 := FR.c F0 F55 tg_135
    refine to_r0 (pc := 12) rw_53_12 (to_is (pc := 27) rw_103_27 (ls2 := [.ref 28, .ref 1, .ref p, .ref 11, .int s, .int (0 : Int32), .int v2, .int r54, .null]) rfl rfl (to_an (pc := 29) rw_103_29 rfl (to_i (pc := 30) rw_103_30 rfl (s_v (pc := 32) rw_103_32 (dp0 hd (by decide)) (ls0 := [.ref p, .int r54]) rfl (Nat.le_of_ble_eq_true rfl) (Nat.le_of_ble_eq_true rfl) rfl (to_rc rfl rfl rfl (g_o hG56 (by rcases hp with rfl | rfl <;> rfl))) rfl (to_in (pc := 0) rw_44_0 rfl (b_ilt (pc := 1) rw_44_1 (A := r54.toInt) rfl (fun h61 => ?_) (fun h61 => ?_)))))))
    · refine to_c (pc := 16) rw_44_16 (x := (0 : Int32)) rfl rfl (s_r1 (pc := 17) rw_44_17 (A := 0) rfl (by decide) (b_ieq_t (pc := 35) rw_103_35 (A := 0) rfl (by decide) (to_an (pc := 61) rw_103_61 rfl (to_an (pc := 62) rw_103_62 rfl ?_))))
      have c_62 : M59.2.1 1 8 = (M.2.1 1 8) := (F_n F55 (show ¬ (1 < 0) by decide) rfl)
      refine tt_gI (pc := 63) rw_103_63 (g_o hG56 rfl) (v := (M.2.1 1 8)) c_62 (s_v (pc := 66) rw_103_66 (dp0 hd (by decide)) (ls0 := [.ref p, .int (M.2.1 1 8)]) rfl (Nat.le_of_ble_eq_true rfl) (Nat.le_of_ble_eq_true rfl) rfl (to_rc rfl rfl rfl (g_o hG56 (by rcases hp with rfl | rfl <;> rfl))) rfl (to_an (pc := 0) rw_52_0 rfl (s_gR (pc := 1) rw_52_1 hG56 (by rcases hp with rfl | rfl <;> rfl) (v := (p + 1)) (by rcases hp with rfl | rfl <;> rfl) (to_an (pc := 4) rw_52_4 rfl ?_))))
      have c_63 : M59.2.1 p 2 = (M.2.1 p 2) := (F_n F55 (show ¬ (p < 0) by omega) rfl)
      have b_64 := g_b hG (a := p) (i := 2) (lo := 0) (hi := 8) (by rcases hp with rfl | rfl <;> rfl) (by rcases hp with rfl | rfl <;> rfl)
      refine tt_gI (pc := 5) rw_52_5 (g_o hG56 (by rcases hp with rfl | rfl <;> rfl)) (v := (M.2.1 p 2)) c_63 (to_in (pc := 8) rw_52_8 rfl (s_s (pc := 9) rw_52_9 (dp1 hd (by decide)) (ls0 := [.ref (p + 1), .int (M.2.1 p 2), .int (M.2.1 1 8), .null]) rfl (Nat.le_of_ble_eq_true rfl) (Nat.le_of_ble_eq_true rfl) rfl (to_rcs rfl rfl) rfl (C_54f hX (dp2 hd (by decide)) hG56 (by omega) (f := (p + 1)) (s := (M.2.1 p 2)) (x := (M.2.1 1 8)) (fun r65 M70 hG67 F66 p_68 p_69 => ?_))))
      have F71 := FR.c F60 F66 tg_135
      refine to_r0 (pc := 12) rw_52_12 (to_is (pc := 69) rw_103_69 (ls2 := [.ref 28, .ref 1, .ref p, .ref 11, .int s, .int (0 : Int32), .int v2, .int r54, .int r65]) rfl rfl (to_an (pc := 71) rw_103_71 rfl (to_i (pc := 72) rw_103_72 rfl (s_v (pc := 74) rw_103_74 (dp0 hd (by decide)) (ls0 := [.ref p, .int r65]) rfl (Nat.le_of_ble_eq_true rfl) (Nat.le_of_ble_eq_true rfl) rfl (to_rc rfl rfl rfl (g_o hG67 (by rcases hp with rfl | rfl <;> rfl))) rfl (to_in (pc := 0) rw_43_0 rfl (b_ilt (pc := 1) rw_43_1 (A := r65.toInt) rfl (fun h72 => ?_) (fun h72 => ?_)))))))
      · refine to_c (pc := 16) rw_43_16 (x := (0 : Int32)) rfl rfl (s_r1 (pc := 17) rw_43_17 (A := 0) rfl (by decide) (b_ine_f (pc := 77) rw_103_77 (A := 0) rfl (by decide) (to_an (pc := 80) rw_103_80 rfl (to_c (pc := 81) rw_103_81 (x := (4 : Int32)) rfl rfl (s_v (pc := 82) rw_103_82 (dp0 hd (by decide)) (ls0 := [.ref 1, .int (4 : Int32)]) rfl (Nat.le_of_ble_eq_true rfl) (Nat.le_of_ble_eq_true rfl) rfl (to_rc rfl rfl rfl (g_o hG67 rfl)) rfl (to_an (pc := 0) rw_84_0 rfl (to_in (pc := 1) rw_84_1 rfl (s_pI (pc := 2) rw_84_2 hG67 rfl (fun M74 W73 => ?_)))))))))
        have hG75 := g_wf hG67 W73 rfl rfl (by decide)
        have F76 := FR.w F71 W73 (show 1 = 1 ∧ 5 ≤ 10 ∨ 3 ≤ 1 ∧ 1 ≤ 5 ∨ 1 = 33 by decide)
        refine to_an (pc := 5) rw_84_5 rfl (to_an (pc := 6) rw_84_6 rfl ?_)
        have c_77 : M74.2.1 1 9 = (M.2.1 1 9) := (W_n W73 (by decide) (F_n F66 (show ¬ (1 < 0) by decide) (F_n F55 (show ¬ (1 < 0) by decide) rfl)))
        refine tt_gI (pc := 7) rw_84_7 (g_o hG75 rfl) (v := (M.2.1 1 9)) c_77 (s_pI (pc := 10) rw_84_10 hG75 rfl (fun M79 W78 => ?_))
        have hG80 := g_wf hG75 W78 rfl rfl (by decide)
        have F81 := FR.w F76 W78 (show 1 = 1 ∧ 5 ≤ 11 ∨ 3 ≤ 1 ∧ 1 ≤ 5 ∨ 1 = 33 by decide)
        refine to_c (pc := 13) rw_84_13 (x := (0 : Int32)) rfl rfl (s_r1 (pc := 14) rw_84_14 (A := 0) rfl (by decide) (s_r1 (pc := 85) rw_103_85 (A := 0) rfl (by decide) ?_))
        have k_82 : (0 : Int32).toInt = 0 := rfl
        exact h (0 : Int32) M79 hG80 F81 (by decide) (by decide)
      · refine to_in (pc := 4) rw_43_4 rfl (to_an (pc := 5) rw_43_5 rfl ?_)
        have c_83 : M70.2.1 p 2 = (M.2.1 p 2) := (F_n F66 (show ¬ (p < 0) by omega) c_63)
        refine tt_gI (pc := 6) rw_43_6 (g_o hG67 (by rcases hp with rfl | rfl <;> rfl)) (v := (M.2.1 p 2)) c_83 (b_cge (pc := 9) rw_43_9 (A := r65.toInt) (B := (M.2.1 p 2).toInt) rfl rfl (fun h84 => ?_) (fun h84 => ?_))
        · refine to_c (pc := 16) rw_43_16 (x := (0 : Int32)) rfl rfl (s_r1 (pc := 17) rw_43_17 (A := 0) rfl (by decide) (b_ine_f (pc := 77) rw_103_77 (A := 0) rfl (by decide) (to_an (pc := 80) rw_103_80 rfl (to_c (pc := 81) rw_103_81 (x := (4 : Int32)) rfl rfl (s_v (pc := 82) rw_103_82 (dp0 hd (by decide)) (ls0 := [.ref 1, .int (4 : Int32)]) rfl (Nat.le_of_ble_eq_true rfl) (Nat.le_of_ble_eq_true rfl) rfl (to_rc rfl rfl rfl (g_o hG67 rfl)) rfl (to_an (pc := 0) rw_84_0 rfl (to_in (pc := 1) rw_84_1 rfl (s_pI (pc := 2) rw_84_2 hG67 rfl (fun M86 W85 => ?_)))))))))
          have hG87 := g_wf hG67 W85 rfl rfl (by decide)
          have F88 := FR.w F71 W85 (show 1 = 1 ∧ 5 ≤ 10 ∨ 3 ≤ 1 ∧ 1 ≤ 5 ∨ 1 = 33 by decide)
          refine to_an (pc := 5) rw_84_5 rfl (to_an (pc := 6) rw_84_6 rfl ?_)
          have c_89 : M86.2.1 1 9 = (M.2.1 1 9) := (W_n W85 (by decide) (F_n F66 (show ¬ (1 < 0) by decide) (F_n F55 (show ¬ (1 < 0) by decide) rfl)))
          refine tt_gI (pc := 7) rw_84_7 (g_o hG87 rfl) (v := (M.2.1 1 9)) c_89 (s_pI (pc := 10) rw_84_10 hG87 rfl (fun M91 W90 => ?_))
          have hG92 := g_wf hG87 W90 rfl rfl (by decide)
          have F93 := FR.w F88 W90 (show 1 = 1 ∧ 5 ≤ 11 ∨ 3 ≤ 1 ∧ 1 ≤ 5 ∨ 1 = 33 by decide)
          refine to_c (pc := 13) rw_84_13 (x := (0 : Int32)) rfl rfl (s_r1 (pc := 14) rw_84_14 (A := 0) rfl (by decide) (s_r1 (pc := 85) rw_103_85 (A := 0) rfl (by decide) ?_))
          have k_94 : (0 : Int32).toInt = 0 := rfl
          exact h (0 : Int32) M91 hG92 F93 (by decide) (by decide)
        · refine to_c (pc := 12) rw_43_12 (x := (1 : Int32)) rfl rfl (to_go (pc := 13) rw_43_13 (s_r1 (pc := 17) rw_43_17 (A := 1) rfl (by decide) (b_ine_t (pc := 77) rw_103_77 (A := 1) rfl (by decide) (to_an (pc := 86) rw_103_86 rfl (s_gR (pc := 87) rw_103_87 hG67 (by rcases hp with rfl | rfl <;> rfl) (v := (p + 3)) (by rcases hp with rfl | rfl <;> rfl) (to_i (pc := 90) rw_103_90 rfl (s_ial (pc := 92) rw_103_92 hG67 (by rcases hp with rfl | rfl <;> rfl) (n := 8) (by rcases hp with rfl | rfl <;> rfl) (by rcases hp with rfl | rfl <;> rfl) (A := r65.toInt) rfl (by omega) (by omega) (lo := 0) (hi := 59) (by rcases hp with rfl | rfl <;> rfl) (by rcases hp with rfl | rfl <;> rfl) (fun v95 w_96 _ _ => to_is (pc := 93) rw_103_93 (ls2 := [.ref 28, .ref 1, .ref p, .ref 11, .int s, .int v95, .int v2, .int r54, .int r65]) rfl rfl (to_an (pc := 95) rw_103_95 rfl (to_i (pc := 96) rw_103_96 rfl (s_v (pc := 98) rw_103_98 (dp0 hd (by decide)) (ls0 := [.ref p, .int r65]) rfl (Nat.le_of_ble_eq_true rfl) (Nat.le_of_ble_eq_true rfl) rfl (to_rc rfl rfl rfl (g_o hG67 (by rcases hp with rfl | rfl <;> rfl))) rfl ?_)))))))))))
          refine to_an (pc := 0) rw_47_0 rfl (s_gR (pc := 1) rw_47_1 hG67 (by rcases hp with rfl | rfl <;> rfl) (v := (p + 4)) (by rcases hp with rfl | rfl <;> rfl) (to_in (pc := 4) rw_47_4 rfl (s_ial (pc := 5) rw_47_5 hG67 (by rcases hp with rfl | rfl <;> rfl) (n := 8) (by rcases hp with rfl | rfl <;> rfl) (by rcases hp with rfl | rfl <;> rfl) (A := r65.toInt) rfl (by omega) (by omega) (lo := 0) (hi := 63) (by rcases hp with rfl | rfl <;> rfl) (by rcases hp with rfl | rfl <;> rfl) (fun v97 w_98 _ _ => to_an (pc := 6) rw_47_6 rfl (s_gR (pc := 7) rw_47_7 hG67 (by rcases hp with rfl | rfl <;> rfl) (v := (p + 3)) (by rcases hp with rfl | rfl <;> rfl) (to_in (pc := 10) rw_47_10 rfl (s_ialk (pc := 11) rw_47_11 hG67 (by rcases hp with rfl | rfl <;> rfl) (n := 8) (by rcases hp with rfl | rfl <;> rfl) (by rcases hp with rfl | rfl <;> rfl) (A := r65.toInt) rfl (by omega) (by omega) (v := v95) w_96 (s_sub (pc := 12) rw_47_12 (A := v97.toInt) (B := v95.toInt) rfl rfl (by omega) (fun v101 e102 => to_c (pc := 13) rw_47_13 (x := (1 : Int32)) rfl rfl (s_add (pc := 14) rw_47_14 (A := v101.toInt) (B := 1) rfl rfl (by omega) (fun v103 e104 => to_r0 (pc := 15) rw_47_15 ?_)))))))))))
          refine to_c (pc := 101) rw_103_101 (x := (1 : Int32)) rfl rfl (s_sub (pc := 102) rw_103_102 (A := v103.toInt) (B := 1) rfl rfl (by omega) (fun v105 e106 => to_is (pc := 103) rw_103_103 (ls2 := [.ref 28, .ref 1, .ref p, .ref 11, .int s, .int v95, .int v105, .int r54, .int r65]) rfl rfl (to_an (pc := 105) rw_103_105 rfl (s_v (pc := 106) rw_103_106 (dp0 hd (by decide)) (ls0 := [.ref 1]) rfl (Nat.le_of_ble_eq_true rfl) (Nat.le_of_ble_eq_true rfl) rfl (to_rc rfl rfl rfl (g_o hG67 rfl)) rfl (C_83 hX (dp1 hd (by decide)) hG67  (fun M109 hG108 F107 => ?_))))))
          have F110 := FR.c F71 F107 tg_134
          refine to_an (pc := 109) rw_103_109 rfl (to_c (pc := 110) rw_103_110 (x := (0 : Int32)) rfl rfl (to_i (pc := 111) rw_103_111 rfl (s_v (pc := 113) rw_103_113 (dp0 hd (by decide)) (ls0 := [.ref 1, .int (0 : Int32), .int v105]) rfl (Nat.le_of_ble_eq_true rfl) (Nat.le_of_ble_eq_true rfl) rfl (to_rc rfl rfl rfl (g_o hG108 rfl)) rfl (to_an (pc := 0) rw_88_0 rfl (tt_gI (pc := 1) rw_88_1 (g_o hG108 rfl) (v := (M109.2.1 1 7)) rfl (to_c (pc := 4) rw_88_4 (x := (2 : Int32)) rfl rfl (b_ceq (pc := 5) rw_88_5 (A := (M109.2.1 1 7).toInt) (B := 2) rfl rfl (fun h111 => ?_) (fun h111 => ?_))))))))
          · refine to_an (pc := 14) rw_88_14 rfl (tt_gI (pc := 15) rw_88_15 (g_o hG108 rfl) (v := (M109.2.1 1 8)) rfl (to_in (pc := 18) rw_88_18 rfl (b_clt (pc := 19) rw_88_19 (A := (M109.2.1 1 8).toInt) (B := 0) rfl rfl (fun h112 => ?_) (fun h112 => ?_))))
            · refine to_an (pc := 30) rw_88_30 rfl (to_c (pc := 31) rw_88_31 (x := (2 : Int32)) rfl rfl (s_v (pc := 32) rw_88_32 (dp1 hd (by decide)) (ls0 := [.ref 1, .int (2 : Int32)]) rfl (Nat.le_of_ble_eq_true rfl) (Nat.le_of_ble_eq_true rfl) rfl (to_rc rfl rfl rfl (g_o hG108 rfl)) rfl (to_an (pc := 0) rw_84_0 rfl (to_in (pc := 1) rw_84_1 rfl (s_pI (pc := 2) rw_84_2 hG108 rfl (fun M114 W113 => ?_))))))
              have hG115 := g_wf hG108 W113 rfl rfl (by decide)
              have F116 := FR.w F110 W113 (show 1 = 1 ∧ 5 ≤ 10 ∨ 3 ≤ 1 ∧ 1 ≤ 5 ∨ 1 = 33 by decide)
              refine to_an (pc := 5) rw_84_5 rfl (to_an (pc := 6) rw_84_6 rfl ?_)
              have c_117 : M114.2.1 1 9 = (M109.2.1 1 9) := (W_n W113 (by decide) rfl)
              refine tt_gI (pc := 7) rw_84_7 (g_o hG115 rfl) (v := (M109.2.1 1 9)) c_117 (s_pI (pc := 10) rw_84_10 hG115 rfl (fun M119 W118 => ?_))
              have hG120 := g_wf hG115 W118 rfl rfl (by decide)
              have F121 := FR.w F116 W118 (show 1 = 1 ∧ 5 ≤ 11 ∨ 3 ≤ 1 ∧ 1 ≤ 5 ∨ 1 = 33 by decide)
              refine to_c (pc := 13) rw_84_13 (x := (0 : Int32)) rfl rfl (s_r1 (pc := 14) rw_84_14 (A := 0) rfl (by decide) (b_ieq_t (pc := 35) rw_88_35 (A := 0) rfl (by decide) (to_c (pc := 42) rw_88_42 (x := (0 : Int32)) rfl rfl (s_r1 (pc := 43) rw_88_43 (A := 0) rfl (by decide) (b_ine_f (pc := 116) rw_103_116 (A := 0) rfl (by decide) (to_c (pc := 119) rw_103_119 (x := (0 : Int32)) rfl rfl (s_r1 (pc := 120) rw_103_120 (A := 0) rfl (by decide) ?_)))))))
              have k_122 : (0 : Int32).toInt = 0 := rfl
              exact h (0 : Int32) M119 hG120 F121 (by decide) (by decide)
            · refine to_an (pc := 22) rw_88_22 rfl (tt_gI (pc := 23) rw_88_23 (g_o hG108 rfl) (v := (M109.2.1 1 8)) rfl (to_in (pc := 26) rw_88_26 rfl (b_cle (pc := 27) rw_88_27 (A := (M109.2.1 1 8).toInt) (B := v105.toInt) rfl rfl (fun h123 => ?_) (fun h123 => ?_))))
              · refine to_c (pc := 38) rw_88_38 (x := (1 : Int32)) rfl rfl (to_go (pc := 39) rw_88_39 (s_r1 (pc := 43) rw_88_43 (A := 1) rfl (by decide) (b_ine_t (pc := 116) rw_103_116 (A := 1) rfl (by decide) (to_an (pc := 121) rw_103_121 rfl (s_gR (pc := 122) rw_103_122 hG108 rfl (v := 33) rfl (to_i (pc := 125) rw_103_125 rfl (to_dup2 (pc := 127) rw_103_127 (s_lal (pc := 128) rw_103_128 hG108 rfl (n := 40) rfl (A := s.toInt) rfl (by omega) (by omega) (fun l124 => s_cl (pc := 129) rw_103_129 rfl (fun l125 => to_i (pc := 130) rw_103_130 rfl (to_an (pc := 132) rw_103_132 rfl ?_)))))))))))
                refine tt_gI (pc := 133) rw_103_133 (g_o hG108 rfl) (v := (M109.2.1 1 8)) rfl (s_add (pc := 136) rw_103_136 (A := v95.toInt) (B := (M109.2.1 1 8).toInt) rfl rfl (by omega) (fun v126 e127 => s_anyS (pc := 137) rw_103_137 (fun _ _ => rfl) (fun l128 => s_anyL (pc := 138) rw_103_138 (fun _ _ => rfl) (fun l129 => s_las (pc := 139) rw_103_139 hG108 rfl (n := 40) rfl (A := s.toInt) rfl (by omega) (by omega) (fun M131 W130 => ?_)))))
                have hG132 := g_wl hG108 W130
                have F133 := FR.wl F110 W130 (show 33 = 1 ∧ 5 ≤ (s.toInt).toNat ∨ 3 ≤ 33 ∧ 33 ≤ 5 ∨ 33 = 33 by omega)
                refine to_an (pc := 140) rw_103_140 rfl (s_v (pc := 141) rw_103_141 (dp0 hd (by decide)) (ls0 := [.ref 1]) rfl (Nat.le_of_ble_eq_true rfl) (Nat.le_of_ble_eq_true rfl) rfl (to_rc rfl rfl rfl (g_o hG132 rfl)) rfl (C_83 hX (dp1 hd (by decide)) hG132  (fun M136 hG135 F134 => ?_)))
                have F137 := FR.c F133 F134 tg_134
                refine to_c (pc := 144) rw_103_144 (x := (1 : Int32)) rfl rfl (s_r1 (pc := 145) rw_103_145 (A := 1) rfl (by decide) ?_)
                have k_138 : (1 : Int32).toInt = 1 := rfl
                exact h (1 : Int32) M136 hG135 F137 (by decide) (by decide)
              · refine to_an (pc := 30) rw_88_30 rfl (to_c (pc := 31) rw_88_31 (x := (2 : Int32)) rfl rfl (s_v (pc := 32) rw_88_32 (dp1 hd (by decide)) (ls0 := [.ref 1, .int (2 : Int32)]) rfl (Nat.le_of_ble_eq_true rfl) (Nat.le_of_ble_eq_true rfl) rfl (to_rc rfl rfl rfl (g_o hG108 rfl)) rfl (to_an (pc := 0) rw_84_0 rfl (to_in (pc := 1) rw_84_1 rfl (s_pI (pc := 2) rw_84_2 hG108 rfl (fun M140 W139 => ?_))))))
                have hG141 := g_wf hG108 W139 rfl rfl (by decide)
                have F142 := FR.w F110 W139 (show 1 = 1 ∧ 5 ≤ 10 ∨ 3 ≤ 1 ∧ 1 ≤ 5 ∨ 1 = 33 by decide)
                refine to_an (pc := 5) rw_84_5 rfl (to_an (pc := 6) rw_84_6 rfl ?_)
                have c_143 : M140.2.1 1 9 = (M109.2.1 1 9) := (W_n W139 (by decide) rfl)
                refine tt_gI (pc := 7) rw_84_7 (g_o hG141 rfl) (v := (M109.2.1 1 9)) c_143 (s_pI (pc := 10) rw_84_10 hG141 rfl (fun M145 W144 => ?_))
                have hG146 := g_wf hG141 W144 rfl rfl (by decide)
                have F147 := FR.w F142 W144 (show 1 = 1 ∧ 5 ≤ 11 ∨ 3 ≤ 1 ∧ 1 ≤ 5 ∨ 1 = 33 by decide)
                refine to_c (pc := 13) rw_84_13 (x := (0 : Int32)) rfl rfl (s_r1 (pc := 14) rw_84_14 (A := 0) rfl (by decide) (b_ieq_t (pc := 35) rw_88_35 (A := 0) rfl (by decide) (to_c (pc := 42) rw_88_42 (x := (0 : Int32)) rfl rfl (s_r1 (pc := 43) rw_88_43 (A := 0) rfl (by decide) (b_ine_f (pc := 116) rw_103_116 (A := 0) rfl (by decide) (to_c (pc := 119) rw_103_119 (x := (0 : Int32)) rfl rfl (s_r1 (pc := 120) rw_103_120 (A := 0) rfl (by decide) ?_)))))))
                have k_148 : (0 : Int32).toInt = 0 := rfl
                exact h (0 : Int32) M145 hG146 F147 (by decide) (by decide)
          · refine to_an (pc := 8) rw_88_8 rfl (to_c (pc := 9) rw_88_9 (x := (1 : Int32)) rfl rfl (s_v (pc := 10) rw_88_10 (dp1 hd (by decide)) (ls0 := [.ref 1, .int (1 : Int32)]) rfl (Nat.le_of_ble_eq_true rfl) (Nat.le_of_ble_eq_true rfl) rfl (to_rc rfl rfl rfl (g_o hG108 rfl)) rfl (to_an (pc := 0) rw_84_0 rfl (to_in (pc := 1) rw_84_1 rfl (s_pI (pc := 2) rw_84_2 hG108 rfl (fun M150 W149 => ?_))))))
            have hG151 := g_wf hG108 W149 rfl rfl (by decide)
            have F152 := FR.w F110 W149 (show 1 = 1 ∧ 5 ≤ 10 ∨ 3 ≤ 1 ∧ 1 ≤ 5 ∨ 1 = 33 by decide)
            refine to_an (pc := 5) rw_84_5 rfl (to_an (pc := 6) rw_84_6 rfl ?_)
            have c_153 : M150.2.1 1 9 = (M109.2.1 1 9) := (W_n W149 (by decide) rfl)
            refine tt_gI (pc := 7) rw_84_7 (g_o hG151 rfl) (v := (M109.2.1 1 9)) c_153 (s_pI (pc := 10) rw_84_10 hG151 rfl (fun M155 W154 => ?_))
            have hG156 := g_wf hG151 W154 rfl rfl (by decide)
            have F157 := FR.w F152 W154 (show 1 = 1 ∧ 5 ≤ 11 ∨ 3 ≤ 1 ∧ 1 ≤ 5 ∨ 1 = 33 by decide)
            refine to_c (pc := 13) rw_84_13 (x := (0 : Int32)) rfl rfl (s_r1 (pc := 14) rw_84_14 (A := 0) rfl (by decide) (s_r1 (pc := 13) rw_88_13 (A := 0) rfl (by decide) (b_ine_f (pc := 116) rw_103_116 (A := 0) rfl (by decide) (to_c (pc := 119) rw_103_119 (x := (0 : Int32)) rfl rfl (s_r1 (pc := 120) rw_103_120 (A := 0) rfl (by decide) ?_)))))
            have k_158 : (0 : Int32).toInt = 0 := rfl
            exact h (0 : Int32) M155 hG156 F157 (by decide) (by decide)
    · refine to_in (pc := 4) rw_44_4 rfl (to_an (pc := 5) rw_44_5 rfl ?_)
      have c_159 : M59.2.1 p 3 = (M.2.1 p 3) := (F_n F55 (show ¬ (p < 0) by omega) rfl)
      refine tt_gI (pc := 6) rw_44_6 (g_o hG56 (by rcases hp with rfl | rfl <;> rfl)) (v := (M.2.1 p 3)) c_159 (b_cge (pc := 9) rw_44_9 (A := r54.toInt) (B := (M.2.1 p 3).toInt) rfl rfl (fun h160 => ?_) (fun h160 => ?_))
      · refine to_c (pc := 16) rw_44_16 (x := (0 : Int32)) rfl rfl (s_r1 (pc := 17) rw_44_17 (A := 0) rfl (by decide) (b_ieq_t (pc := 35) rw_103_35 (A := 0) rfl (by decide) (to_an (pc := 61) rw_103_61 rfl (to_an (pc := 62) rw_103_62 rfl ?_))))
        have c_161 : M59.2.1 1 8 = (M.2.1 1 8) := (F_n F55 (show ¬ (1 < 0) by decide) rfl)
        refine tt_gI (pc := 63) rw_103_63 (g_o hG56 rfl) (v := (M.2.1 1 8)) c_161 (s_v (pc := 66) rw_103_66 (dp0 hd (by decide)) (ls0 := [.ref p, .int (M.2.1 1 8)]) rfl (Nat.le_of_ble_eq_true rfl) (Nat.le_of_ble_eq_true rfl) rfl (to_rc rfl rfl rfl (g_o hG56 (by rcases hp with rfl | rfl <;> rfl))) rfl (to_an (pc := 0) rw_52_0 rfl (s_gR (pc := 1) rw_52_1 hG56 (by rcases hp with rfl | rfl <;> rfl) (v := (p + 1)) (by rcases hp with rfl | rfl <;> rfl) (to_an (pc := 4) rw_52_4 rfl ?_))))
        have c_162 : M59.2.1 p 2 = (M.2.1 p 2) := (F_n F55 (show ¬ (p < 0) by omega) rfl)
        have b_163 := g_b hG (a := p) (i := 2) (lo := 0) (hi := 8) (by rcases hp with rfl | rfl <;> rfl) (by rcases hp with rfl | rfl <;> rfl)
        refine tt_gI (pc := 5) rw_52_5 (g_o hG56 (by rcases hp with rfl | rfl <;> rfl)) (v := (M.2.1 p 2)) c_162 (to_in (pc := 8) rw_52_8 rfl (s_s (pc := 9) rw_52_9 (dp1 hd (by decide)) (ls0 := [.ref (p + 1), .int (M.2.1 p 2), .int (M.2.1 1 8), .null]) rfl (Nat.le_of_ble_eq_true rfl) (Nat.le_of_ble_eq_true rfl) rfl (to_rcs rfl rfl) rfl (C_54f hX (dp2 hd (by decide)) hG56 (by omega) (f := (p + 1)) (s := (M.2.1 p 2)) (x := (M.2.1 1 8)) (fun r164 M169 hG166 F165 p_167 p_168 => ?_))))
        have F170 := FR.c F60 F165 tg_135
        refine to_r0 (pc := 12) rw_52_12 (to_is (pc := 69) rw_103_69 (ls2 := [.ref 28, .ref 1, .ref p, .ref 11, .int s, .int (0 : Int32), .int v2, .int r54, .int r164]) rfl rfl (to_an (pc := 71) rw_103_71 rfl (to_i (pc := 72) rw_103_72 rfl (s_v (pc := 74) rw_103_74 (dp0 hd (by decide)) (ls0 := [.ref p, .int r164]) rfl (Nat.le_of_ble_eq_true rfl) (Nat.le_of_ble_eq_true rfl) rfl (to_rc rfl rfl rfl (g_o hG166 (by rcases hp with rfl | rfl <;> rfl))) rfl (to_in (pc := 0) rw_43_0 rfl (b_ilt (pc := 1) rw_43_1 (A := r164.toInt) rfl (fun h171 => ?_) (fun h171 => ?_)))))))
        · refine to_c (pc := 16) rw_43_16 (x := (0 : Int32)) rfl rfl (s_r1 (pc := 17) rw_43_17 (A := 0) rfl (by decide) (b_ine_f (pc := 77) rw_103_77 (A := 0) rfl (by decide) (to_an (pc := 80) rw_103_80 rfl (to_c (pc := 81) rw_103_81 (x := (4 : Int32)) rfl rfl (s_v (pc := 82) rw_103_82 (dp0 hd (by decide)) (ls0 := [.ref 1, .int (4 : Int32)]) rfl (Nat.le_of_ble_eq_true rfl) (Nat.le_of_ble_eq_true rfl) rfl (to_rc rfl rfl rfl (g_o hG166 rfl)) rfl (to_an (pc := 0) rw_84_0 rfl (to_in (pc := 1) rw_84_1 rfl (s_pI (pc := 2) rw_84_2 hG166 rfl (fun M173 W172 => ?_)))))))))
          have hG174 := g_wf hG166 W172 rfl rfl (by decide)
          have F175 := FR.w F170 W172 (show 1 = 1 ∧ 5 ≤ 10 ∨ 3 ≤ 1 ∧ 1 ≤ 5 ∨ 1 = 33 by decide)
          refine to_an (pc := 5) rw_84_5 rfl (to_an (pc := 6) rw_84_6 rfl ?_)
          have c_176 : M173.2.1 1 9 = (M.2.1 1 9) := (W_n W172 (by decide) (F_n F165 (show ¬ (1 < 0) by decide) (F_n F55 (show ¬ (1 < 0) by decide) rfl)))
          refine tt_gI (pc := 7) rw_84_7 (g_o hG174 rfl) (v := (M.2.1 1 9)) c_176 (s_pI (pc := 10) rw_84_10 hG174 rfl (fun M178 W177 => ?_))
          have hG179 := g_wf hG174 W177 rfl rfl (by decide)
          have F180 := FR.w F175 W177 (show 1 = 1 ∧ 5 ≤ 11 ∨ 3 ≤ 1 ∧ 1 ≤ 5 ∨ 1 = 33 by decide)
          refine to_c (pc := 13) rw_84_13 (x := (0 : Int32)) rfl rfl (s_r1 (pc := 14) rw_84_14 (A := 0) rfl (by decide) (s_r1 (pc := 85) rw_103_85 (A := 0) rfl (by decide) ?_))
          have k_181 : (0 : Int32).toInt = 0 := rfl
          exact h (0 : Int32) M178 hG179 F180 (by decide) (by decide)
        · refine to_in (pc := 4) rw_43_4 rfl (to_an (pc := 5) rw_43_5 rfl ?_)
          have c_182 : M169.2.1 p 2 = (M.2.1 p 2) := (F_n F165 (show ¬ (p < 0) by omega) c_162)
          refine tt_gI (pc := 6) rw_43_6 (g_o hG166 (by rcases hp with rfl | rfl <;> rfl)) (v := (M.2.1 p 2)) c_182 (b_cge (pc := 9) rw_43_9 (A := r164.toInt) (B := (M.2.1 p 2).toInt) rfl rfl (fun h183 => ?_) (fun h183 => ?_))
          · refine to_c (pc := 16) rw_43_16 (x := (0 : Int32)) rfl rfl (s_r1 (pc := 17) rw_43_17 (A := 0) rfl (by decide) (b_ine_f (pc := 77) rw_103_77 (A := 0) rfl (by decide) (to_an (pc := 80) rw_103_80 rfl (to_c (pc := 81) rw_103_81 (x := (4 : Int32)) rfl rfl (s_v (pc := 82) rw_103_82 (dp0 hd (by decide)) (ls0 := [.ref 1, .int (4 : Int32)]) rfl (Nat.le_of_ble_eq_true rfl) (Nat.le_of_ble_eq_true rfl) rfl (to_rc rfl rfl rfl (g_o hG166 rfl)) rfl (to_an (pc := 0) rw_84_0 rfl (to_in (pc := 1) rw_84_1 rfl (s_pI (pc := 2) rw_84_2 hG166 rfl (fun M185 W184 => ?_)))))))))
            have hG186 := g_wf hG166 W184 rfl rfl (by decide)
            have F187 := FR.w F170 W184 (show 1 = 1 ∧ 5 ≤ 10 ∨ 3 ≤ 1 ∧ 1 ≤ 5 ∨ 1 = 33 by decide)
            refine to_an (pc := 5) rw_84_5 rfl (to_an (pc := 6) rw_84_6 rfl ?_)
            have c_188 : M185.2.1 1 9 = (M.2.1 1 9) := (W_n W184 (by decide) (F_n F165 (show ¬ (1 < 0) by decide) (F_n F55 (show ¬ (1 < 0) by decide) rfl)))
            refine tt_gI (pc := 7) rw_84_7 (g_o hG186 rfl) (v := (M.2.1 1 9)) c_188 (s_pI (pc := 10) rw_84_10 hG186 rfl (fun M190 W189 => ?_))
            have hG191 := g_wf hG186 W189 rfl rfl (by decide)
            have F192 := FR.w F187 W189 (show 1 = 1 ∧ 5 ≤ 11 ∨ 3 ≤ 1 ∧ 1 ≤ 5 ∨ 1 = 33 by decide)
            refine to_c (pc := 13) rw_84_13 (x := (0 : Int32)) rfl rfl (s_r1 (pc := 14) rw_84_14 (A := 0) rfl (by decide) (s_r1 (pc := 85) rw_103_85 (A := 0) rfl (by decide) ?_))
            have k_193 : (0 : Int32).toInt = 0 := rfl
            exact h (0 : Int32) M190 hG191 F192 (by decide) (by decide)
          · refine to_c (pc := 12) rw_43_12 (x := (1 : Int32)) rfl rfl (to_go (pc := 13) rw_43_13 (s_r1 (pc := 17) rw_43_17 (A := 1) rfl (by decide) (b_ine_t (pc := 77) rw_103_77 (A := 1) rfl (by decide) (to_an (pc := 86) rw_103_86 rfl (s_gR (pc := 87) rw_103_87 hG166 (by rcases hp with rfl | rfl <;> rfl) (v := (p + 3)) (by rcases hp with rfl | rfl <;> rfl) (to_i (pc := 90) rw_103_90 rfl (s_ial (pc := 92) rw_103_92 hG166 (by rcases hp with rfl | rfl <;> rfl) (n := 8) (by rcases hp with rfl | rfl <;> rfl) (by rcases hp with rfl | rfl <;> rfl) (A := r164.toInt) rfl (by omega) (by omega) (lo := 0) (hi := 59) (by rcases hp with rfl | rfl <;> rfl) (by rcases hp with rfl | rfl <;> rfl) (fun v194 w_195 _ _ => to_is (pc := 93) rw_103_93 (ls2 := [.ref 28, .ref 1, .ref p, .ref 11, .int s, .int v194, .int v2, .int r54, .int r164]) rfl rfl (to_an (pc := 95) rw_103_95 rfl (to_i (pc := 96) rw_103_96 rfl (s_v (pc := 98) rw_103_98 (dp0 hd (by decide)) (ls0 := [.ref p, .int r164]) rfl (Nat.le_of_ble_eq_true rfl) (Nat.le_of_ble_eq_true rfl) rfl (to_rc rfl rfl rfl (g_o hG166 (by rcases hp with rfl | rfl <;> rfl))) rfl ?_)))))))))))
            refine to_an (pc := 0) rw_47_0 rfl (s_gR (pc := 1) rw_47_1 hG166 (by rcases hp with rfl | rfl <;> rfl) (v := (p + 4)) (by rcases hp with rfl | rfl <;> rfl) (to_in (pc := 4) rw_47_4 rfl (s_ial (pc := 5) rw_47_5 hG166 (by rcases hp with rfl | rfl <;> rfl) (n := 8) (by rcases hp with rfl | rfl <;> rfl) (by rcases hp with rfl | rfl <;> rfl) (A := r164.toInt) rfl (by omega) (by omega) (lo := 0) (hi := 63) (by rcases hp with rfl | rfl <;> rfl) (by rcases hp with rfl | rfl <;> rfl) (fun v196 w_197 _ _ => to_an (pc := 6) rw_47_6 rfl (s_gR (pc := 7) rw_47_7 hG166 (by rcases hp with rfl | rfl <;> rfl) (v := (p + 3)) (by rcases hp with rfl | rfl <;> rfl) (to_in (pc := 10) rw_47_10 rfl (s_ialk (pc := 11) rw_47_11 hG166 (by rcases hp with rfl | rfl <;> rfl) (n := 8) (by rcases hp with rfl | rfl <;> rfl) (by rcases hp with rfl | rfl <;> rfl) (A := r164.toInt) rfl (by omega) (by omega) (v := v194) w_195 (s_sub (pc := 12) rw_47_12 (A := v196.toInt) (B := v194.toInt) rfl rfl (by omega) (fun v200 e201 => to_c (pc := 13) rw_47_13 (x := (1 : Int32)) rfl rfl (s_add (pc := 14) rw_47_14 (A := v200.toInt) (B := 1) rfl rfl (by omega) (fun v202 e203 => to_r0 (pc := 15) rw_47_15 ?_)))))))))))
            refine to_c (pc := 101) rw_103_101 (x := (1 : Int32)) rfl rfl (s_sub (pc := 102) rw_103_102 (A := v202.toInt) (B := 1) rfl rfl (by omega) (fun v204 e205 => to_is (pc := 103) rw_103_103 (ls2 := [.ref 28, .ref 1, .ref p, .ref 11, .int s, .int v194, .int v204, .int r54, .int r164]) rfl rfl (to_an (pc := 105) rw_103_105 rfl (s_v (pc := 106) rw_103_106 (dp0 hd (by decide)) (ls0 := [.ref 1]) rfl (Nat.le_of_ble_eq_true rfl) (Nat.le_of_ble_eq_true rfl) rfl (to_rc rfl rfl rfl (g_o hG166 rfl)) rfl (C_83 hX (dp1 hd (by decide)) hG166  (fun M208 hG207 F206 => ?_))))))
            have F209 := FR.c F170 F206 tg_134
            refine to_an (pc := 109) rw_103_109 rfl (to_c (pc := 110) rw_103_110 (x := (0 : Int32)) rfl rfl (to_i (pc := 111) rw_103_111 rfl (s_v (pc := 113) rw_103_113 (dp0 hd (by decide)) (ls0 := [.ref 1, .int (0 : Int32), .int v204]) rfl (Nat.le_of_ble_eq_true rfl) (Nat.le_of_ble_eq_true rfl) rfl (to_rc rfl rfl rfl (g_o hG207 rfl)) rfl (to_an (pc := 0) rw_88_0 rfl (tt_gI (pc := 1) rw_88_1 (g_o hG207 rfl) (v := (M208.2.1 1 7)) rfl (to_c (pc := 4) rw_88_4 (x := (2 : Int32)) rfl rfl (b_ceq (pc := 5) rw_88_5 (A := (M208.2.1 1 7).toInt) (B := 2) rfl rfl (fun h210 => ?_) (fun h210 => ?_))))))))
            · refine to_an (pc := 14) rw_88_14 rfl (tt_gI (pc := 15) rw_88_15 (g_o hG207 rfl) (v := (M208.2.1 1 8)) rfl (to_in (pc := 18) rw_88_18 rfl (b_clt (pc := 19) rw_88_19 (A := (M208.2.1 1 8).toInt) (B := 0) rfl rfl (fun h211 => ?_) (fun h211 => ?_))))
              · refine to_an (pc := 30) rw_88_30 rfl (to_c (pc := 31) rw_88_31 (x := (2 : Int32)) rfl rfl (s_v (pc := 32) rw_88_32 (dp1 hd (by decide)) (ls0 := [.ref 1, .int (2 : Int32)]) rfl (Nat.le_of_ble_eq_true rfl) (Nat.le_of_ble_eq_true rfl) rfl (to_rc rfl rfl rfl (g_o hG207 rfl)) rfl (to_an (pc := 0) rw_84_0 rfl (to_in (pc := 1) rw_84_1 rfl (s_pI (pc := 2) rw_84_2 hG207 rfl (fun M213 W212 => ?_))))))
                have hG214 := g_wf hG207 W212 rfl rfl (by decide)
                have F215 := FR.w F209 W212 (show 1 = 1 ∧ 5 ≤ 10 ∨ 3 ≤ 1 ∧ 1 ≤ 5 ∨ 1 = 33 by decide)
                refine to_an (pc := 5) rw_84_5 rfl (to_an (pc := 6) rw_84_6 rfl ?_)
                have c_216 : M213.2.1 1 9 = (M208.2.1 1 9) := (W_n W212 (by decide) rfl)
                refine tt_gI (pc := 7) rw_84_7 (g_o hG214 rfl) (v := (M208.2.1 1 9)) c_216 (s_pI (pc := 10) rw_84_10 hG214 rfl (fun M218 W217 => ?_))
                have hG219 := g_wf hG214 W217 rfl rfl (by decide)
                have F220 := FR.w F215 W217 (show 1 = 1 ∧ 5 ≤ 11 ∨ 3 ≤ 1 ∧ 1 ≤ 5 ∨ 1 = 33 by decide)
                refine to_c (pc := 13) rw_84_13 (x := (0 : Int32)) rfl rfl (s_r1 (pc := 14) rw_84_14 (A := 0) rfl (by decide) (b_ieq_t (pc := 35) rw_88_35 (A := 0) rfl (by decide) (to_c (pc := 42) rw_88_42 (x := (0 : Int32)) rfl rfl (s_r1 (pc := 43) rw_88_43 (A := 0) rfl (by decide) (b_ine_f (pc := 116) rw_103_116 (A := 0) rfl (by decide) (to_c (pc := 119) rw_103_119 (x := (0 : Int32)) rfl rfl (s_r1 (pc := 120) rw_103_120 (A := 0) rfl (by decide) ?_)))))))
                have k_221 : (0 : Int32).toInt = 0 := rfl
                exact h (0 : Int32) M218 hG219 F220 (by decide) (by decide)
              · refine to_an (pc := 22) rw_88_22 rfl (tt_gI (pc := 23) rw_88_23 (g_o hG207 rfl) (v := (M208.2.1 1 8)) rfl (to_in (pc := 26) rw_88_26 rfl (b_cle (pc := 27) rw_88_27 (A := (M208.2.1 1 8).toInt) (B := v204.toInt) rfl rfl (fun h222 => ?_) (fun h222 => ?_))))
                · refine to_c (pc := 38) rw_88_38 (x := (1 : Int32)) rfl rfl (to_go (pc := 39) rw_88_39 (s_r1 (pc := 43) rw_88_43 (A := 1) rfl (by decide) (b_ine_t (pc := 116) rw_103_116 (A := 1) rfl (by decide) (to_an (pc := 121) rw_103_121 rfl (s_gR (pc := 122) rw_103_122 hG207 rfl (v := 33) rfl (to_i (pc := 125) rw_103_125 rfl (to_dup2 (pc := 127) rw_103_127 (s_lal (pc := 128) rw_103_128 hG207 rfl (n := 40) rfl (A := s.toInt) rfl (by omega) (by omega) (fun l223 => s_cl (pc := 129) rw_103_129 rfl (fun l224 => to_i (pc := 130) rw_103_130 rfl (to_an (pc := 132) rw_103_132 rfl ?_)))))))))))
                  refine tt_gI (pc := 133) rw_103_133 (g_o hG207 rfl) (v := (M208.2.1 1 8)) rfl (s_add (pc := 136) rw_103_136 (A := v194.toInt) (B := (M208.2.1 1 8).toInt) rfl rfl (by omega) (fun v225 e226 => s_anyS (pc := 137) rw_103_137 (fun _ _ => rfl) (fun l227 => s_anyL (pc := 138) rw_103_138 (fun _ _ => rfl) (fun l228 => s_las (pc := 139) rw_103_139 hG207 rfl (n := 40) rfl (A := s.toInt) rfl (by omega) (by omega) (fun M230 W229 => ?_)))))
                  have hG231 := g_wl hG207 W229
                  have F232 := FR.wl F209 W229 (show 33 = 1 ∧ 5 ≤ (s.toInt).toNat ∨ 3 ≤ 33 ∧ 33 ≤ 5 ∨ 33 = 33 by omega)
                  refine to_an (pc := 140) rw_103_140 rfl (s_v (pc := 141) rw_103_141 (dp0 hd (by decide)) (ls0 := [.ref 1]) rfl (Nat.le_of_ble_eq_true rfl) (Nat.le_of_ble_eq_true rfl) rfl (to_rc rfl rfl rfl (g_o hG231 rfl)) rfl (C_83 hX (dp1 hd (by decide)) hG231  (fun M235 hG234 F233 => ?_)))
                  have F236 := FR.c F232 F233 tg_134
                  refine to_c (pc := 144) rw_103_144 (x := (1 : Int32)) rfl rfl (s_r1 (pc := 145) rw_103_145 (A := 1) rfl (by decide) ?_)
                  have k_237 : (1 : Int32).toInt = 1 := rfl
                  exact h (1 : Int32) M235 hG234 F236 (by decide) (by decide)
                · refine to_an (pc := 30) rw_88_30 rfl (to_c (pc := 31) rw_88_31 (x := (2 : Int32)) rfl rfl (s_v (pc := 32) rw_88_32 (dp1 hd (by decide)) (ls0 := [.ref 1, .int (2 : Int32)]) rfl (Nat.le_of_ble_eq_true rfl) (Nat.le_of_ble_eq_true rfl) rfl (to_rc rfl rfl rfl (g_o hG207 rfl)) rfl (to_an (pc := 0) rw_84_0 rfl (to_in (pc := 1) rw_84_1 rfl (s_pI (pc := 2) rw_84_2 hG207 rfl (fun M239 W238 => ?_))))))
                  have hG240 := g_wf hG207 W238 rfl rfl (by decide)
                  have F241 := FR.w F209 W238 (show 1 = 1 ∧ 5 ≤ 10 ∨ 3 ≤ 1 ∧ 1 ≤ 5 ∨ 1 = 33 by decide)
                  refine to_an (pc := 5) rw_84_5 rfl (to_an (pc := 6) rw_84_6 rfl ?_)
                  have c_242 : M239.2.1 1 9 = (M208.2.1 1 9) := (W_n W238 (by decide) rfl)
                  refine tt_gI (pc := 7) rw_84_7 (g_o hG240 rfl) (v := (M208.2.1 1 9)) c_242 (s_pI (pc := 10) rw_84_10 hG240 rfl (fun M244 W243 => ?_))
                  have hG245 := g_wf hG240 W243 rfl rfl (by decide)
                  have F246 := FR.w F241 W243 (show 1 = 1 ∧ 5 ≤ 11 ∨ 3 ≤ 1 ∧ 1 ≤ 5 ∨ 1 = 33 by decide)
                  refine to_c (pc := 13) rw_84_13 (x := (0 : Int32)) rfl rfl (s_r1 (pc := 14) rw_84_14 (A := 0) rfl (by decide) (b_ieq_t (pc := 35) rw_88_35 (A := 0) rfl (by decide) (to_c (pc := 42) rw_88_42 (x := (0 : Int32)) rfl rfl (s_r1 (pc := 43) rw_88_43 (A := 0) rfl (by decide) (b_ine_f (pc := 116) rw_103_116 (A := 0) rfl (by decide) (to_c (pc := 119) rw_103_119 (x := (0 : Int32)) rfl rfl (s_r1 (pc := 120) rw_103_120 (A := 0) rfl (by decide) ?_)))))))
                  have k_247 : (0 : Int32).toInt = 0 := rfl
                  exact h (0 : Int32) M244 hG245 F246 (by decide) (by decide)
            · refine to_an (pc := 8) rw_88_8 rfl (to_c (pc := 9) rw_88_9 (x := (1 : Int32)) rfl rfl (s_v (pc := 10) rw_88_10 (dp1 hd (by decide)) (ls0 := [.ref 1, .int (1 : Int32)]) rfl (Nat.le_of_ble_eq_true rfl) (Nat.le_of_ble_eq_true rfl) rfl (to_rc rfl rfl rfl (g_o hG207 rfl)) rfl (to_an (pc := 0) rw_84_0 rfl (to_in (pc := 1) rw_84_1 rfl (s_pI (pc := 2) rw_84_2 hG207 rfl (fun M249 W248 => ?_))))))
              have hG250 := g_wf hG207 W248 rfl rfl (by decide)
              have F251 := FR.w F209 W248 (show 1 = 1 ∧ 5 ≤ 10 ∨ 3 ≤ 1 ∧ 1 ≤ 5 ∨ 1 = 33 by decide)
              refine to_an (pc := 5) rw_84_5 rfl (to_an (pc := 6) rw_84_6 rfl ?_)
              have c_252 : M249.2.1 1 9 = (M208.2.1 1 9) := (W_n W248 (by decide) rfl)
              refine tt_gI (pc := 7) rw_84_7 (g_o hG250 rfl) (v := (M208.2.1 1 9)) c_252 (s_pI (pc := 10) rw_84_10 hG250 rfl (fun M254 W253 => ?_))
              have hG255 := g_wf hG250 W253 rfl rfl (by decide)
              have F256 := FR.w F251 W253 (show 1 = 1 ∧ 5 ≤ 11 ∨ 3 ≤ 1 ∧ 1 ≤ 5 ∨ 1 = 33 by decide)
              refine to_c (pc := 13) rw_84_13 (x := (0 : Int32)) rfl rfl (s_r1 (pc := 14) rw_84_14 (A := 0) rfl (by decide) (s_r1 (pc := 13) rw_88_13 (A := 0) rfl (by decide) (b_ine_f (pc := 116) rw_103_116 (A := 0) rfl (by decide) (to_c (pc := 119) rw_103_119 (x := (0 : Int32)) rfl rfl (s_r1 (pc := 120) rw_103_120 (A := 0) rfl (by decide) ?_)))))
              have k_257 : (0 : Int32).toInt = 0 := rfl
              exact h (0 : Int32) M254 hG255 F256 (by decide) (by decide)
      · refine to_c (pc := 12) rw_44_12 (x := (1 : Int32)) rfl rfl (to_go (pc := 13) rw_44_13 (s_r1 (pc := 17) rw_44_17 (A := 1) rfl (by decide) (b_ieq_f (pc := 35) rw_103_35 (A := 1) rfl (by decide) (to_an (pc := 38) rw_103_38 rfl (s_gR (pc := 39) rw_103_39 hG56 rfl (v := 33) rfl (to_i (pc := 42) rw_103_42 rfl (to_dup2 (pc := 44) rw_103_44 (s_lal (pc := 45) rw_103_45 hG56 rfl (n := 40) rfl (A := s.toInt) rfl (by omega) (by omega) (fun l258 => to_an (pc := 46) rw_103_46 rfl (s_gR (pc := 47) rw_103_47 hG56 rfl (v := 15) rfl (to_i (pc := 50) rw_103_50 rfl ?_)))))))))))
        refine s_lal (pc := 52) rw_103_52 hG56 rfl (n := 12) rfl (A := r54.toInt) rfl (by omega) (by omega) (fun l259 => s_anyL (pc := 53) rw_103_53 (fun _ _ => rfl) (fun l260 => s_las (pc := 54) rw_103_54 hG56 rfl (n := 40) rfl (A := s.toInt) rfl (by omega) (by omega) (fun M262 W261 => ?_)))
        have hG263 := g_wl hG56 W261
        have F264 := FR.wl F60 W261 (show 33 = 1 ∧ 5 ≤ (s.toInt).toNat ∨ 3 ≤ 33 ∧ 33 ≤ 5 ∨ 33 = 33 by omega)
        refine to_an (pc := 55) rw_103_55 rfl (s_v (pc := 56) rw_103_56 (dp0 hd (by decide)) (ls0 := [.ref 1]) rfl (Nat.le_of_ble_eq_true rfl) (Nat.le_of_ble_eq_true rfl) rfl (to_rc rfl rfl rfl (g_o hG263 rfl)) rfl (C_83 hX (dp1 hd (by decide)) hG263  (fun M267 hG266 F265 => ?_)))
        have F268 := FR.c F264 F265 tg_134
        refine to_c (pc := 59) rw_103_59 (x := (1 : Int32)) rfl rfl (s_r1 (pc := 60) rw_103_60 (A := 1) rfl (by decide) ?_)
        have k_269 : (1 : Int32).toInt = 1 := rfl
        exact h (1 : Int32) M267 hG266 F268 (by decide) (by decide)
set_option maxRecDepth 4000 in
set_option maxHeartbeats 0 in
theorem T_101_0 {X : mm_X} {d : Nat} {M : mm_M} {Q : Option Value → mm_M → Prop} {p : Nat} {s : Int32} (hX : g_X X) (hd : 3 ≤ d) (hp : p = 49 ∨ p = 58) (q1 : 0 ≤ s.toInt) (q2 : s.toInt ≤ 39) (h : ∀ (r : Int32) (M1 : mm_M), g_G M1 → FR md_wr M M1 → (0 ≤ r.toInt) → (r.toInt ≤ 1) → Q (some (.int r)) M1) : ∀ nn9 : Nat, (∀ (N : mm_M) (x5 : Int32), g_G N → FR md_wr M N → (0 ≤ x5.toInt) → (x5.toInt ≤ 500) → (0 ≤ s.toInt) → (s.toInt ≤ 39) → 500 - x5.toInt < (nn9 : Int) → mm_T X d 101 89 [.ref 28, .ref 1, .ref p, .ref 11, .int s, .int x5] [] N Q) := by
  intro nn9
  induction nn9 with
  | zero =>
    intro N x5 hG F0 g1 g2 g3 g4 hm
    exfalso; omega
  | succ nn9 ih =>
    intro N x5 hG F0 g1 g2 g3 g4 hm
    refine to_i (pc := 89) rw_101_89 rfl (to_c (pc := 91) rw_101_91 (x := (500 : Int32)) rfl rfl (b_cge (pc := 94) rw_101_94 (A := x5.toInt) (B := 500) rfl rfl (fun h1 => ?_) (fun h1 => ?_)))
    · refine to_an (pc := 126) rw_101_126 rfl (to_c (pc := 127) rw_101_127 (x := (59 : Int32)) rfl rfl (s_v (pc := 129) rw_101_129 (dp0 hd (by decide)) (ls0 := [.ref 1, .int (59 : Int32)]) rfl (Nat.le_of_ble_eq_true rfl) (Nat.le_of_ble_eq_true rfl) rfl (to_rc rfl rfl rfl (g_o hG rfl)) rfl ?_))
      have k_2 : (59 : Int32).toInt = 59 := rfl
      refine C_90 hX (dp1 hd (by decide)) hG (x := (59 : Int32)) (fun r3 M9 hG5 F4 p_6 p_7 p_8 => ?_)
      have F10 := FR.c F0 F4 tg_133
      refine s_r1 (pc := 132) rw_101_132 (A := r3.toInt) rfl (by omega) ?_
      exact h r3 M9 hG5 F10 (by omega) (by omega)
    · refine to_an (pc := 97) rw_101_97 rfl (tt_gI (pc := 98) rw_101_98 (g_o hG rfl) (v := (N.2.1 1 7)) rfl (to_c (pc := 101) rw_101_101 (x := (59 : Int32)) rfl rfl (b_ceq (pc := 103) rw_101_103 (A := (N.2.1 1 7).toInt) (B := 59) rfl rfl (fun h11 => ?_) (fun h11 => ?_))))
      · refine to_an (pc := 126) rw_101_126 rfl (to_c (pc := 127) rw_101_127 (x := (59 : Int32)) rfl rfl (s_v (pc := 129) rw_101_129 (dp0 hd (by decide)) (ls0 := [.ref 1, .int (59 : Int32)]) rfl (Nat.le_of_ble_eq_true rfl) (Nat.le_of_ble_eq_true rfl) rfl (to_rc rfl rfl rfl (g_o hG rfl)) rfl ?_))
        have k_12 : (59 : Int32).toInt = 59 := rfl
        refine C_90 hX (dp1 hd (by decide)) hG (x := (59 : Int32)) (fun r13 M19 hG15 F14 p_16 p_17 p_18 => ?_)
        have F20 := FR.c F0 F14 tg_133
        refine s_r1 (pc := 132) rw_101_132 (A := r13.toInt) rfl (by omega) ?_
        exact h r13 M19 hG15 F20 (by omega) (by omega)
      · refine to_an (pc := 106) rw_101_106 rfl (to_an (pc := 107) rw_101_107 rfl (to_an (pc := 108) rw_101_108 rfl (to_an (pc := 109) rw_101_109 rfl (to_i (pc := 110) rw_101_110 rfl (s_v (pc := 112) rw_101_112 (dp0 hd (by decide)) (ls0 := [.ref 28, .ref 1, .ref p, .ref 11, .int s, .null, .null, .null, .null]) rfl (Nat.le_of_ble_eq_true rfl) (Nat.le_of_ble_eq_true rfl) rfl (to_rc rfl rfl rfl (g_o hG rfl)) rfl (C_103 hX (dp1 hd (by decide)) hG hp (by omega) (by omega) (p := p) (s := s) (fun r21 M26 hG23 F22 p_24 p_25 => ?_)))))))
        have F27 := FR.c F0 F22 tg_136
        refine b_ine (pc := 115) rw_101_115 (A := r21.toInt) rfl (fun h28 => ?_) (fun h28 => ?_)
        · refine s_inc (pc := 120) rw_101_120 (ls2 := fun v => [.ref 28, .ref 1, .ref p, .ref 11, .int s, .int v]) rfl rfl (fun _ => rfl) (A := x5.toInt) (B := 1) rfl rfl (by omega) (fun v29 e30 => to_go (pc := 123) rw_101_123 ?_)
          exact ih M26 v29 hG23 F27 (by omega) (by omega) (by omega) (by omega) (by omega)
        · refine to_c (pc := 118) rw_101_118 (x := (0 : Int32)) rfl rfl (s_r1 (pc := 119) rw_101_119 (A := 0) rfl (by decide) ?_)
          have k_31 : (0 : Int32).toInt = 0 := rfl
          exact h (0 : Int32) M26 hG23 F27 (by decide) (by decide)
set_option maxRecDepth 4000 in
set_option maxHeartbeats 0 in
theorem C_101 {X : mm_X} {d : Nat} {M : mm_M} {Q : Option Value → mm_M → Prop} {p : Nat} {s : Int32} (hX : g_X X) (hd : 3 ≤ d) (hG : g_G M) (hp : p = 49 ∨ p = 58) (q1 : 0 ≤ s.toInt) (q2 : s.toInt ≤ 39) (h : ∀ (r : Int32) (M1 : mm_M), g_G M1 → FR md_wr M M1 → (0 ≤ r.toInt) → (r.toInt ≤ 1) → Q (some (.int r)) M1) : mm_T X d 101 0 [.ref 28, .ref 1, .ref p, .ref 11, .int s, .null] [] M Q := by
  have F0 : FR md_wr M M := FR.rf
  refine to_an (pc := 0) rw_101_0 rfl (to_an (pc := 1) rw_101_1 rfl (to_an (pc := 2) rw_101_2 rfl (s_gR (pc := 3) rw_101_3 hG rfl (v := 30) rfl (to_i (pc := 6) rw_101_6 rfl (s_v (pc := 8) rw_101_8 (dp0 hd (by decide)) (ls0 := [.ref 28, .ref 1, .ref 30, .int s, .null]) rfl (Nat.le_of_ble_eq_true rfl) (Nat.le_of_ble_eq_true rfl) rfl (to_rc rfl rfl rfl (g_o hG rfl)) rfl (C_102 hX (dp1 hd (by decide)) hG (by decide) (by omega) (by omega) (w := 30) (s := s) (fun r32 M37 hG34 F33 p_35 p_36 => ?_)))))))
  have F38 := FR.c F0 F33 tg_137
  refine b_ieq (pc := 11) rw_101_11 (A := r32.toInt) rfl (fun h39 => ?_) (fun h39 => ?_)
  · refine to_c (pc := 23) rw_101_23 (x := (0 : Int32)) rfl rfl (s_r1 (pc := 24) rw_101_24 (A := 0) rfl (by decide) ?_)
    have k_40 : (0 : Int32).toInt = 0 := rfl
    exact h (0 : Int32) M37 hG34 F38 (by decide) (by decide)
  · refine to_an (pc := 14) rw_101_14 rfl (to_c (pc := 15) rw_101_15 (x := (686817280 : Int32)) rfl rfl (s_v (pc := 17) rw_101_17 (dp0 hd (by decide)) (ls0 := [.ref 1, .int (686817280 : Int32)]) rfl (Nat.le_of_ble_eq_true rfl) (Nat.le_of_ble_eq_true rfl) rfl (to_rc rfl rfl rfl (g_o hG34 rfl)) rfl ?_))
    have k_41 : (686817280 : Int32).toInt = 686817280 := rfl
    refine C_89 hX (dp1 hd (by decide)) hG34 (x := (686817280 : Int32)) (fun r42 M47 hG44 F43 p_45 p_46 => ?_)
    have F48 := FR.c F38 F43 tg_133
    refine b_ine (pc := 20) rw_101_20 (A := r42.toInt) rfl (fun h49 => ?_) (fun h49 => ?_)
    · refine to_an (pc := 25) rw_101_25 rfl (to_an (pc := 26) rw_101_26 rfl (to_an (pc := 27) rw_101_27 rfl (s_gR (pc := 28) rw_101_28 hG44 rfl (v := 31) rfl (to_i (pc := 31) rw_101_31 rfl (s_v (pc := 33) rw_101_33 (dp0 hd (by decide)) (ls0 := [.ref 28, .ref 1, .ref 31, .int s, .null]) rfl (Nat.le_of_ble_eq_true rfl) (Nat.le_of_ble_eq_true rfl) rfl (to_rc rfl rfl rfl (g_o hG44 rfl)) rfl (C_102 hX (dp1 hd (by decide)) hG44 (by decide) (by omega) (by omega) (w := 31) (s := s) (fun r50 M55 hG52 F51 p_53 p_54 => ?_)))))))
      have F56 := FR.c F48 F51 tg_137
      refine b_ieq (pc := 36) rw_101_36 (A := r50.toInt) rfl (fun h57 => ?_) (fun h57 => ?_)
      · refine to_c (pc := 62) rw_101_62 (x := (0 : Int32)) rfl rfl (s_r1 (pc := 63) rw_101_63 (A := 0) rfl (by decide) ?_)
        have k_58 : (0 : Int32).toInt = 0 := rfl
        exact h (0 : Int32) M55 hG52 F56 (by decide) (by decide)
      · refine to_an (pc := 39) rw_101_39 rfl (to_an (pc := 40) rw_101_40 rfl (to_an (pc := 41) rw_101_41 rfl (s_gR (pc := 42) rw_101_42 hG52 rfl (v := 32) rfl (to_i (pc := 45) rw_101_45 rfl (s_v (pc := 47) rw_101_47 (dp0 hd (by decide)) (ls0 := [.ref 28, .ref 1, .ref 32, .int s, .null]) rfl (Nat.le_of_ble_eq_true rfl) (Nat.le_of_ble_eq_true rfl) rfl (to_rc rfl rfl rfl (g_o hG52 rfl)) rfl (C_102 hX (dp1 hd (by decide)) hG52 (by decide) (by omega) (by omega) (w := 32) (s := s) (fun r59 M64 hG61 F60 p_62 p_63 => ?_)))))))
        have F65 := FR.c F56 F60 tg_137
        refine b_ieq (pc := 50) rw_101_50 (A := r59.toInt) rfl (fun h66 => ?_) (fun h66 => ?_)
        · refine to_c (pc := 62) rw_101_62 (x := (0 : Int32)) rfl rfl (s_r1 (pc := 63) rw_101_63 (A := 0) rfl (by decide) ?_)
          have k_67 : (0 : Int32).toInt = 0 := rfl
          exact h (0 : Int32) M64 hG61 F65 (by decide) (by decide)
        · refine to_an (pc := 53) rw_101_53 rfl (to_c (pc := 54) rw_101_54 (x := (93323264 : Int32)) rfl rfl (s_v (pc := 56) rw_101_56 (dp0 hd (by decide)) (ls0 := [.ref 1, .int (93323264 : Int32)]) rfl (Nat.le_of_ble_eq_true rfl) (Nat.le_of_ble_eq_true rfl) rfl (to_rc rfl rfl rfl (g_o hG61 rfl)) rfl ?_))
          have k_68 : (93323264 : Int32).toInt = 93323264 := rfl
          refine C_89 hX (dp1 hd (by decide)) hG61 (x := (93323264 : Int32)) (fun r69 M74 hG71 F70 p_72 p_73 => ?_)
          have F75 := FR.c F65 F70 tg_133
          refine b_ine (pc := 59) rw_101_59 (A := r69.toInt) rfl (fun h76 => ?_) (fun h76 => ?_)
          · refine to_an (pc := 64) rw_101_64 rfl (s_gR (pc := 65) rw_101_65 hG71 rfl (v := 33) rfl (to_i (pc := 68) rw_101_68 rfl (s_cl (pc := 70) rw_101_70 rfl (fun l77 => s_las (pc := 71) rw_101_71 hG71 rfl (n := 40) rfl (A := s.toInt) rfl (by omega) (by omega) (fun M79 W78 => ?_)))))
            have hG80 := g_wl hG71 W78
            have F81 := FR.wl F75 W78 (show 33 = 1 ∧ 5 ≤ (s.toInt).toNat ∨ 3 ≤ 33 ∧ 33 ≤ 5 ∨ 29 ≤ 33 ∧ 33 ≤ 35 by omega)
            refine to_an (pc := 72) rw_101_72 rfl (to_an (pc := 73) rw_101_73 rfl (to_an (pc := 74) rw_101_74 rfl (to_an (pc := 75) rw_101_75 rfl (to_i (pc := 76) rw_101_76 rfl (s_v (pc := 78) rw_101_78 (dp0 hd (by decide)) (ls0 := [.ref 28, .ref 1, .ref p, .ref 11, .int s, .null, .null, .null, .null]) rfl (Nat.le_of_ble_eq_true rfl) (Nat.le_of_ble_eq_true rfl) rfl (to_rc rfl rfl rfl (g_o hG80 rfl)) rfl (C_103 hX (dp1 hd (by decide)) hG80 hp (by omega) (by omega) (p := p) (s := s) (fun r82 M87 hG84 F83 p_85 p_86 => ?_)))))))
            have F88 := FR.c F81 F83 tg_136
            refine b_ine (pc := 81) rw_101_81 (A := r82.toInt) rfl (fun h89 => ?_) (fun h89 => ?_)
            · refine to_c (pc := 86) rw_101_86 (x := (0 : Int32)) rfl rfl (to_is (pc := 87) rw_101_87 (ls2 := [.ref 28, .ref 1, .ref p, .ref 11, .int s, .int (0 : Int32)]) rfl rfl ?_)
              have k_90 : (0 : Int32).toInt = 0 := rfl
              exact (T_101_0 (p := p) (s := s) hX hd hp q1 q2 h ((500 - (0 : Int32).toInt).toNat + 1)) M87 (0 : Int32) hG84 F88 (by omega) (by omega) (by omega) (by omega) (by omega)
            · refine to_c (pc := 84) rw_101_84 (x := (0 : Int32)) rfl rfl (s_r1 (pc := 85) rw_101_85 (A := 0) rfl (by decide) ?_)
              have k_91 : (0 : Int32).toInt = 0 := rfl
              exact h (0 : Int32) M87 hG84 F88 (by decide) (by decide)
          · refine to_c (pc := 62) rw_101_62 (x := (0 : Int32)) rfl rfl (s_r1 (pc := 63) rw_101_63 (A := 0) rfl (by decide) ?_)
            have k_92 : (0 : Int32).toInt = 0 := rfl
            exact h (0 : Int32) M74 hG71 F75 (by decide) (by decide)
    · refine to_c (pc := 23) rw_101_23 (x := (0 : Int32)) rfl rfl (s_r1 (pc := 24) rw_101_24 (A := 0) rfl (by decide) ?_)
      have k_93 : (0 : Int32).toInt = 0 := rfl
      exact h (0 : Int32) M47 hG44 F48 (by decide) (by decide)
set_option maxRecDepth 4000 in
set_option maxHeartbeats 0 in
theorem C_104 {X : mm_X} {d : Nat} {M : mm_M} {Q : Option Value → mm_M → Prop} {s : Int32} (hX : g_X X) (hd : 2 ≤ d) (hG : g_G M) (q1 : 0 ≤ s.toInt) (q2 : s.toInt ≤ 39) (h : ∀ (r : Int32) (M1 : mm_M), g_G M1 → FR md_wr M M1 → (0 ≤ r.toInt) → (r.toInt ≤ 1) → Q (some (.int r)) M1) : mm_T X d 104 0 [.ref 28, .ref 1, .int s, .null] [] M Q := by
  have F0 : FR md_wr M M := FR.rf
  refine to_an (pc := 0) rw_104_0 rfl (to_an (pc := 1) rw_104_1 rfl (to_an (pc := 2) rw_104_2 rfl (s_gR (pc := 3) rw_104_3 hG rfl (v := 30) rfl (to_in (pc := 6) rw_104_6 rfl (s_v (pc := 7) rw_104_7 (dp0 hd (by decide)) (ls0 := [.ref 28, .ref 1, .ref 30, .int s, .null]) rfl (Nat.le_of_ble_eq_true rfl) (Nat.le_of_ble_eq_true rfl) rfl (to_rc rfl rfl rfl (g_o hG rfl)) rfl (C_102 hX (dp1 hd (by decide)) hG (by decide) (by omega) (by omega) (w := 30) (s := s) (fun r1 M6 hG3 F2 p_4 p_5 => ?_)))))))
  have F7 := FR.c F0 F2 tg_137
  refine b_ine (pc := 10) rw_104_10 (A := r1.toInt) rfl (fun h8 => ?_) (fun h8 => ?_)
  · refine to_an (pc := 15) rw_104_15 rfl (tt_gI (pc := 16) rw_104_16 (g_o hG3 rfl) (v := (M6.2.1 1 9)) rfl (to_isn (pc := 19) rw_104_19 (ls2 := [.ref 28, .ref 1, .int s, .int (M6.2.1 1 9)]) rfl rfl (to_an (pc := 20) rw_104_20 rfl (to_an (pc := 21) rw_104_21 rfl (to_an (pc := 22) rw_104_22 rfl (s_gR (pc := 23) rw_104_23 hG3 rfl (v := 31) rfl (to_in (pc := 26) rw_104_26 rfl (s_v (pc := 27) rw_104_27 (dp0 hd (by decide)) (ls0 := [.ref 28, .ref 1, .ref 31, .int s, .null]) rfl (Nat.le_of_ble_eq_true rfl) (Nat.le_of_ble_eq_true rfl) rfl (to_rc rfl rfl rfl (g_o hG3 rfl)) rfl (C_102 hX (dp1 hd (by decide)) hG3 (by decide) (by omega) (by omega) (w := 31) (s := s) (fun r9 M14 hG11 F10 p_12 p_13 => ?_))))))))))
    have F15 := FR.c F7 F10 tg_137
    refine b_ine (pc := 30) rw_104_30 (A := r9.toInt) rfl (fun h16 => ?_) (fun h16 => ?_)
    · refine to_an (pc := 35) rw_104_35 rfl (s_gR (pc := 36) rw_104_36 hG11 rfl (v := 30) rfl (to_in (pc := 39) rw_104_39 rfl (s_ial (pc := 40) rw_104_40 hG11 rfl (n := 40) rfl rfl (A := s.toInt) rfl (by omega) (by omega) (lo := 0) (hi := 5) rfl rfl (fun v17 w_18 _ _ => to_an (pc := 41) rw_104_41 rfl (s_gR (pc := 42) rw_104_42 hG11 rfl (v := 31) rfl (to_in (pc := 45) rw_104_45 rfl (s_ial (pc := 46) rw_104_46 hG11 rfl (n := 40) rfl rfl (A := s.toInt) rfl (by omega) (by omega) (lo := 0) (hi := 5) rfl rfl (fun v19 w_20 _ _ => b_cne (pc := 47) rw_104_47 (A := v17.toInt) (B := v19.toInt) rfl rfl (fun h21 => ?_) (fun h21 => ?_)))))))))
      · refine to_an (pc := 57) rw_104_57 rfl (to_c (pc := 58) rw_104_58 (x := (59 : Int32)) rfl rfl (s_v (pc := 60) rw_104_60 (dp0 hd (by decide)) (ls0 := [.ref 1, .int (59 : Int32)]) rfl (Nat.le_of_ble_eq_true rfl) (Nat.le_of_ble_eq_true rfl) rfl (to_rc rfl rfl rfl (g_o hG11 rfl)) rfl ?_))
        have k_22 : (59 : Int32).toInt = 59 := rfl
        refine C_90 hX (dp1 hd (by decide)) hG11 (x := (59 : Int32)) (fun r23 M29 hG25 F24 p_26 p_27 p_28 => ?_)
        have F30 := FR.c F15 F24 tg_133
        refine s_r1 (pc := 63) rw_104_63 (A := r23.toInt) rfl (by omega) ?_
        exact h r23 M29 hG25 F30 (by omega) (by omega)
      · refine to_an (pc := 50) rw_104_50 rfl (to_c (pc := 51) rw_104_51 (x := (3 : Int32)) rfl rfl (to_in (pc := 52) rw_104_52 rfl (s_v (pc := 53) rw_104_53 (dp0 hd (by decide)) (ls0 := [.ref 1, .int (3 : Int32), .int (M6.2.1 1 9)]) rfl (Nat.le_of_ble_eq_true rfl) (Nat.le_of_ble_eq_true rfl) rfl (to_rc rfl rfl rfl (g_o hG11 rfl)) rfl (to_an (pc := 0) rw_85_0 rfl (to_in (pc := 1) rw_85_1 rfl (s_pI (pc := 2) rw_85_2 hG11 rfl (fun M32 W31 => ?_)))))))
        have hG33 := g_wf hG11 W31 rfl rfl (by decide)
        have F34 := FR.w F15 W31 (show 1 = 1 ∧ 5 ≤ 10 ∨ 3 ≤ 1 ∧ 1 ≤ 5 ∨ 29 ≤ 1 ∧ 1 ≤ 35 by decide)
        refine to_an (pc := 5) rw_85_5 rfl (to_in (pc := 6) rw_85_6 rfl (s_pI (pc := 7) rw_85_7 hG33 rfl (fun M36 W35 => ?_)))
        have hG37 := g_wf hG33 W35 rfl rfl (by decide)
        have F38 := FR.w F34 W35 (show 1 = 1 ∧ 5 ≤ 11 ∨ 3 ≤ 1 ∧ 1 ≤ 5 ∨ 29 ≤ 1 ∧ 1 ≤ 35 by decide)
        refine to_c (pc := 10) rw_85_10 (x := (0 : Int32)) rfl rfl (s_r1 (pc := 11) rw_85_11 (A := 0) rfl (by decide) (s_r1 (pc := 56) rw_104_56 (A := 0) rfl (by decide) ?_))
        have k_39 : (0 : Int32).toInt = 0 := rfl
        exact h (0 : Int32) M36 hG37 F38 (by decide) (by decide)
    · refine to_c (pc := 33) rw_104_33 (x := (0 : Int32)) rfl rfl (s_r1 (pc := 34) rw_104_34 (A := 0) rfl (by decide) ?_)
      have k_40 : (0 : Int32).toInt = 0 := rfl
      exact h (0 : Int32) M14 hG11 F15 (by decide) (by decide)
  · refine to_c (pc := 13) rw_104_13 (x := (0 : Int32)) rfl rfl (s_r1 (pc := 14) rw_104_14 (A := 0) rfl (by decide) ?_)
    have k_41 : (0 : Int32).toInt = 0 := rfl
    exact h (0 : Int32) M6 hG3 F7 (by decide) (by decide)
noncomputable def RC_99 (k : Int) : Prop := ∀ (X : mm_X) (d : Nat) (M : mm_M) (Q : Option Value → mm_M → Prop) (p : Nat) (o : Int32), g_X X → (5 + 3 * (5 - o.toInt) ≤ (d : Int)) → g_G M → (p = 49 ∨ p = 58) → (0 ≤ o.toInt) → (o.toInt ≤ 5) → 5 - o.toInt < k → (∀ (r : Int32) (M1 : mm_M), g_G M1 → FR md_wt M M1 → (0 ≤ r.toInt) → (r.toInt ≤ 1) → Q (some (.int r)) M1) → mm_T X d 99 0 [.ref 28, .ref 1, .ref p, .ref 11, .int o, .null] [] M Q
set_option maxRecDepth 4000 in
set_option maxHeartbeats 0 in
theorem C_105 {X : mm_X} {d : Nat} {M : mm_M} {Q : Option Value → mm_M → Prop} {p : Nat} {o : Int32} {s : Int32} (hX : g_X X) (hd : 3 + 3 * (5 - o.toInt) ≤ (d : Int)) (hG : g_G M) (hp : p = 49 ∨ p = 58) (q1 : 0 ≤ o.toInt) (q2 : o.toInt ≤ 5) (q3 : 0 ≤ s.toInt) (q4 : s.toInt ≤ 39) (hr : RC_99 (5 - o.toInt)) (h : ∀ (r : Int32) (M1 : mm_M), g_G M1 → FR md_wt M M1 → (0 ≤ r.toInt) → (r.toInt ≤ 1) → Q (some (.int r)) M1) : mm_T X d 105 0 [.ref 28, .ref 1, .ref p, .ref 11, .int o, .int s] [] M Q := by
  have F0 : FR md_wt M M := FR.rf
  refine to_an (pc := 0) rw_105_0 rfl (to_c (pc := 1) rw_105_1 (x := (0 : Int32)) rfl rfl (to_c (pc := 2) rw_105_2 (x := (99 : Int32)) rfl rfl (s_v (pc := 4) rw_105_4 (by omega) (ls0 := [.ref 1, .int (0 : Int32), .int (99 : Int32)]) rfl (Nat.le_of_ble_eq_true rfl) (Nat.le_of_ble_eq_true rfl) rfl (to_rc rfl rfl rfl (g_o hG rfl)) rfl (to_an (pc := 0) rw_88_0 rfl (tt_gI (pc := 1) rw_88_1 (g_o hG rfl) (v := (M.2.1 1 7)) rfl (to_c (pc := 4) rw_88_4 (x := (2 : Int32)) rfl rfl (b_ceq (pc := 5) rw_88_5 (A := (M.2.1 1 7).toInt) (B := 2) rfl rfl (fun h1 => ?_) (fun h1 => ?_))))))))
  · refine to_an (pc := 14) rw_88_14 rfl (tt_gI (pc := 15) rw_88_15 (g_o hG rfl) (v := (M.2.1 1 8)) rfl (to_in (pc := 18) rw_88_18 rfl (b_clt (pc := 19) rw_88_19 (A := (M.2.1 1 8).toInt) (B := 0) rfl rfl (fun h2 => ?_) (fun h2 => ?_))))
    · refine to_an (pc := 30) rw_88_30 rfl (to_c (pc := 31) rw_88_31 (x := (2 : Int32)) rfl rfl (s_v (pc := 32) rw_88_32 (by omega) (ls0 := [.ref 1, .int (2 : Int32)]) rfl (Nat.le_of_ble_eq_true rfl) (Nat.le_of_ble_eq_true rfl) rfl (to_rc rfl rfl rfl (g_o hG rfl)) rfl (to_an (pc := 0) rw_84_0 rfl (to_in (pc := 1) rw_84_1 rfl (s_pI (pc := 2) rw_84_2 hG rfl (fun M4 W3 => ?_))))))
      have hG5 := g_wf hG W3 rfl rfl (by decide)
      have F6 := FR.w F0 W3 (show 1 = 1 ∧ 5 ≤ 10 ∨ 3 ≤ 1 ∧ 1 ≤ 5 ∨ 28 ≤ 1 ∧ 1 ≤ 35 by decide)
      refine to_an (pc := 5) rw_84_5 rfl (to_an (pc := 6) rw_84_6 rfl ?_)
      have c_7 : M4.2.1 1 9 = (M.2.1 1 9) := (W_n W3 (by decide) rfl)
      refine tt_gI (pc := 7) rw_84_7 (g_o hG5 rfl) (v := (M.2.1 1 9)) c_7 (s_pI (pc := 10) rw_84_10 hG5 rfl (fun M9 W8 => ?_))
      have hG10 := g_wf hG5 W8 rfl rfl (by decide)
      have F11 := FR.w F6 W8 (show 1 = 1 ∧ 5 ≤ 11 ∨ 3 ≤ 1 ∧ 1 ≤ 5 ∨ 28 ≤ 1 ∧ 1 ≤ 35 by decide)
      refine to_c (pc := 13) rw_84_13 (x := (0 : Int32)) rfl rfl (s_r1 (pc := 14) rw_84_14 (A := 0) rfl (by decide) (b_ieq_t (pc := 35) rw_88_35 (A := 0) rfl (by decide) (to_c (pc := 42) rw_88_42 (x := (0 : Int32)) rfl rfl (s_r1 (pc := 43) rw_88_43 (A := 0) rfl (by decide) (b_ine_f (pc := 7) rw_105_7 (A := 0) rfl (by decide) (to_c (pc := 10) rw_105_10 (x := (0 : Int32)) rfl rfl (s_r1 (pc := 11) rw_105_11 (A := 0) rfl (by decide) ?_)))))))
      have k_12 : (0 : Int32).toInt = 0 := rfl
      exact h (0 : Int32) M9 hG10 F11 (by decide) (by decide)
    · refine to_an (pc := 22) rw_88_22 rfl (tt_gI (pc := 23) rw_88_23 (g_o hG rfl) (v := (M.2.1 1 8)) rfl (to_in (pc := 26) rw_88_26 rfl (b_cle (pc := 27) rw_88_27 (A := (M.2.1 1 8).toInt) (B := 99) rfl rfl (fun h13 => ?_) (fun h13 => ?_))))
      · refine to_c (pc := 38) rw_88_38 (x := (1 : Int32)) rfl rfl (to_go (pc := 39) rw_88_39 (s_r1 (pc := 43) rw_88_43 (A := 1) rfl (by decide) (b_ine_t (pc := 7) rw_105_7 (A := 1) rfl (by decide) (to_an (pc := 12) rw_105_12 rfl (s_gR (pc := 13) rw_105_13 hG rfl (v := 34) rfl (to_i (pc := 16) rw_105_16 rfl (to_an (pc := 18) rw_105_18 rfl (tt_gI (pc := 19) rw_105_19 (g_o hG rfl) (v := (M.2.1 1 8)) rfl (s_ias (pc := 22) rw_105_22 hG rfl (n := 40) rfl (A := s.toInt) rfl (by omega) (by omega) (fun M15 W14 => ?_))))))))))
        have hG16 := g_w hG W14 (A := (M.2.1 1 8).toInt) rfl (lo := 0) (hi := 99) rfl rfl (by omega) (by decide)
        have F17 := FR.w F0 W14 (show 34 = 1 ∧ 5 ≤ (s.toInt).toNat ∨ 3 ≤ 34 ∧ 34 ≤ 5 ∨ 28 ≤ 34 ∧ 34 ≤ 35 by omega)
        refine to_an (pc := 23) rw_105_23 rfl (s_v (pc := 24) rw_105_24 (by omega) (ls0 := [.ref 1]) rfl (Nat.le_of_ble_eq_true rfl) (Nat.le_of_ble_eq_true rfl) rfl (to_rc rfl rfl rfl (g_o hG16 rfl)) rfl (C_83 hX (by omega) hG16  (fun M20 hG19 F18 => ?_)))
        have F21 := FR.c F17 F18 tg_138
        refine to_an (pc := 27) rw_105_27 rfl (tt_gI (pc := 28) rw_105_28 (g_o hG19 rfl) (v := (M20.2.1 1 7)) rfl (to_c (pc := 31) rw_105_31 (x := (40 : Int32)) rfl rfl (b_cne (pc := 33) rw_105_33 (A := (M20.2.1 1 7).toInt) (B := 40) rfl rfl (fun h22 => ?_) (fun h22 => ?_))))
        · refine to_an (pc := 48) rw_105_48 rfl (to_c (pc := 49) rw_105_49 (x := (40 : Int32)) rfl rfl (s_v (pc := 51) rw_105_51 (by omega) (ls0 := [.ref 1, .int (40 : Int32)]) rfl (Nat.le_of_ble_eq_true rfl) (Nat.le_of_ble_eq_true rfl) rfl (to_rc rfl rfl rfl (g_o hG19 rfl)) rfl ?_))
          have k_23 : (40 : Int32).toInt = 40 := rfl
          refine C_90 hX (by omega) hG19 (x := (40 : Int32)) (fun r24 M30 hG26 F25 p_27 p_28 p_29 => ?_)
          have F31 := FR.c F21 F25 tg_138
          refine b_ieq (pc := 54) rw_105_54 (A := r24.toInt) rfl (fun h32 => ?_) (fun h32 => ?_)
          · refine to_c (pc := 84) rw_105_84 (x := (0 : Int32)) rfl rfl (s_r1 (pc := 85) rw_105_85 (A := 0) rfl (by decide) ?_)
            have k_33 : (0 : Int32).toInt = 0 := rfl
            exact h (0 : Int32) M30 hG26 F31 (by decide) (by decide)
          · refine to_an (pc := 57) rw_105_57 rfl (to_an (pc := 58) rw_105_58 rfl (to_an (pc := 59) rw_105_59 rfl (to_an (pc := 60) rw_105_60 rfl (to_i (pc := 61) rw_105_61 rfl (to_c (pc := 63) rw_105_63 (x := (1 : Int32)) rfl rfl (s_add (pc := 64) rw_105_64 (A := o.toInt) (B := 1) rfl rfl (by omega) (fun v34 e35 => s_v (pc := 65) rw_105_65 (by omega) (ls0 := [.ref 28, .ref 1, .ref p, .ref 11, .int v34, .null]) rfl (Nat.le_of_ble_eq_true rfl) (Nat.le_of_ble_eq_true rfl) rfl (to_rc rfl rfl rfl (g_o hG26 rfl)) rfl (hr X _ _ _ p v34 hX (by omega) hG26 hp (by omega) (by omega) (by omega) (fun r36 M41 hG38 F37 p_39 p_40 => ?_)))))))))
            have F42 := FR.c F31 F37 tg_139
            refine b_ieq (pc := 68) rw_105_68 (A := r36.toInt) rfl (fun h43 => ?_) (fun h43 => ?_)
            · refine to_c (pc := 84) rw_105_84 (x := (0 : Int32)) rfl rfl (s_r1 (pc := 85) rw_105_85 (A := 0) rfl (by decide) ?_)
              have k_44 : (0 : Int32).toInt = 0 := rfl
              exact h (0 : Int32) M41 hG38 F42 (by decide) (by decide)
            · refine to_an (pc := 71) rw_105_71 rfl (to_c (pc := 72) rw_105_72 (x := (41 : Int32)) rfl rfl (s_v (pc := 74) rw_105_74 (by omega) (ls0 := [.ref 1, .int (41 : Int32)]) rfl (Nat.le_of_ble_eq_true rfl) (Nat.le_of_ble_eq_true rfl) rfl (to_rc rfl rfl rfl (g_o hG38 rfl)) rfl ?_))
              have k_45 : (41 : Int32).toInt = 41 := rfl
              refine C_90 hX (by omega) hG38 (x := (41 : Int32)) (fun r46 M52 hG48 F47 p_49 p_50 p_51 => ?_)
              have F53 := FR.c F42 F47 tg_138
              refine b_ieq (pc := 77) rw_105_77 (A := r46.toInt) rfl (fun h54 => ?_) (fun h54 => ?_)
              · refine to_c (pc := 84) rw_105_84 (x := (0 : Int32)) rfl rfl (s_r1 (pc := 85) rw_105_85 (A := 0) rfl (by decide) ?_)
                have k_55 : (0 : Int32).toInt = 0 := rfl
                exact h (0 : Int32) M52 hG48 F53 (by decide) (by decide)
              · refine to_c (pc := 80) rw_105_80 (x := (1 : Int32)) rfl rfl (to_go (pc := 81) rw_105_81 (s_r1 (pc := 85) rw_105_85 (A := 1) rfl (by decide) ?_))
                have k_56 : (1 : Int32).toInt = 1 := rfl
                exact h (1 : Int32) M52 hG48 F53 (by decide) (by decide)
        · refine to_i (pc := 36) rw_105_36 rfl (to_c (pc := 38) rw_105_38 (x := (5 : Int32)) rfl rfl (b_clt (pc := 39) rw_105_39 (A := o.toInt) (B := 5) rfl rfl (fun h57 => ?_) (fun h57 => ?_)))
          · refine to_an (pc := 48) rw_105_48 rfl (to_c (pc := 49) rw_105_49 (x := (40 : Int32)) rfl rfl (s_v (pc := 51) rw_105_51 (by omega) (ls0 := [.ref 1, .int (40 : Int32)]) rfl (Nat.le_of_ble_eq_true rfl) (Nat.le_of_ble_eq_true rfl) rfl (to_rc rfl rfl rfl (g_o hG19 rfl)) rfl ?_))
            have k_58 : (40 : Int32).toInt = 40 := rfl
            refine C_90 hX (by omega) hG19 (x := (40 : Int32)) (fun r59 M65 hG61 F60 p_62 p_63 p_64 => ?_)
            have F66 := FR.c F21 F60 tg_138
            refine b_ieq (pc := 54) rw_105_54 (A := r59.toInt) rfl (fun h67 => ?_) (fun h67 => ?_)
            · refine to_c (pc := 84) rw_105_84 (x := (0 : Int32)) rfl rfl (s_r1 (pc := 85) rw_105_85 (A := 0) rfl (by decide) ?_)
              have k_68 : (0 : Int32).toInt = 0 := rfl
              exact h (0 : Int32) M65 hG61 F66 (by decide) (by decide)
            · refine to_an (pc := 57) rw_105_57 rfl (to_an (pc := 58) rw_105_58 rfl (to_an (pc := 59) rw_105_59 rfl (to_an (pc := 60) rw_105_60 rfl (to_i (pc := 61) rw_105_61 rfl (to_c (pc := 63) rw_105_63 (x := (1 : Int32)) rfl rfl (s_add (pc := 64) rw_105_64 (A := o.toInt) (B := 1) rfl rfl (by omega) (fun v69 e70 => s_v (pc := 65) rw_105_65 (by omega) (ls0 := [.ref 28, .ref 1, .ref p, .ref 11, .int v69, .null]) rfl (Nat.le_of_ble_eq_true rfl) (Nat.le_of_ble_eq_true rfl) rfl (to_rc rfl rfl rfl (g_o hG61 rfl)) rfl (hr X _ _ _ p v69 hX (by omega) hG61 hp (by omega) (by omega) (by omega) (fun r71 M76 hG73 F72 p_74 p_75 => ?_)))))))))
              have F77 := FR.c F66 F72 tg_139
              refine b_ieq (pc := 68) rw_105_68 (A := r71.toInt) rfl (fun h78 => ?_) (fun h78 => ?_)
              · refine to_c (pc := 84) rw_105_84 (x := (0 : Int32)) rfl rfl (s_r1 (pc := 85) rw_105_85 (A := 0) rfl (by decide) ?_)
                have k_79 : (0 : Int32).toInt = 0 := rfl
                exact h (0 : Int32) M76 hG73 F77 (by decide) (by decide)
              · refine to_an (pc := 71) rw_105_71 rfl (to_c (pc := 72) rw_105_72 (x := (41 : Int32)) rfl rfl (s_v (pc := 74) rw_105_74 (by omega) (ls0 := [.ref 1, .int (41 : Int32)]) rfl (Nat.le_of_ble_eq_true rfl) (Nat.le_of_ble_eq_true rfl) rfl (to_rc rfl rfl rfl (g_o hG73 rfl)) rfl ?_))
                have k_80 : (41 : Int32).toInt = 41 := rfl
                refine C_90 hX (by omega) hG73 (x := (41 : Int32)) (fun r81 M87 hG83 F82 p_84 p_85 p_86 => ?_)
                have F88 := FR.c F77 F82 tg_138
                refine b_ieq (pc := 77) rw_105_77 (A := r81.toInt) rfl (fun h89 => ?_) (fun h89 => ?_)
                · refine to_c (pc := 84) rw_105_84 (x := (0 : Int32)) rfl rfl (s_r1 (pc := 85) rw_105_85 (A := 0) rfl (by decide) ?_)
                  have k_90 : (0 : Int32).toInt = 0 := rfl
                  exact h (0 : Int32) M87 hG83 F88 (by decide) (by decide)
                · refine to_c (pc := 80) rw_105_80 (x := (1 : Int32)) rfl rfl (to_go (pc := 81) rw_105_81 (s_r1 (pc := 85) rw_105_85 (A := 1) rfl (by decide) ?_))
                  have k_91 : (1 : Int32).toInt = 1 := rfl
                  exact h (1 : Int32) M87 hG83 F88 (by decide) (by decide)
          · refine to_an (pc := 42) rw_105_42 rfl (to_c (pc := 43) rw_105_43 (x := (2 : Int32)) rfl rfl (s_v (pc := 44) rw_105_44 (by omega) (ls0 := [.ref 1, .int (2 : Int32)]) rfl (Nat.le_of_ble_eq_true rfl) (Nat.le_of_ble_eq_true rfl) rfl (to_rc rfl rfl rfl (g_o hG19 rfl)) rfl (to_an (pc := 0) rw_84_0 rfl (to_in (pc := 1) rw_84_1 rfl (s_pI (pc := 2) rw_84_2 hG19 rfl (fun M93 W92 => ?_))))))
            have hG94 := g_wf hG19 W92 rfl rfl (by decide)
            have F95 := FR.w F21 W92 (show 1 = 1 ∧ 5 ≤ 10 ∨ 3 ≤ 1 ∧ 1 ≤ 5 ∨ 28 ≤ 1 ∧ 1 ≤ 35 by decide)
            refine to_an (pc := 5) rw_84_5 rfl (to_an (pc := 6) rw_84_6 rfl ?_)
            have c_96 : M93.2.1 1 9 = (M20.2.1 1 9) := (W_n W92 (by decide) rfl)
            refine tt_gI (pc := 7) rw_84_7 (g_o hG94 rfl) (v := (M20.2.1 1 9)) c_96 (s_pI (pc := 10) rw_84_10 hG94 rfl (fun M98 W97 => ?_))
            have hG99 := g_wf hG94 W97 rfl rfl (by decide)
            have F100 := FR.w F95 W97 (show 1 = 1 ∧ 5 ≤ 11 ∨ 3 ≤ 1 ∧ 1 ≤ 5 ∨ 28 ≤ 1 ∧ 1 ≤ 35 by decide)
            refine to_c (pc := 13) rw_84_13 (x := (0 : Int32)) rfl rfl (s_r1 (pc := 14) rw_84_14 (A := 0) rfl (by decide) (s_r1 (pc := 47) rw_105_47 (A := 0) rfl (by decide) ?_))
            have k_101 : (0 : Int32).toInt = 0 := rfl
            exact h (0 : Int32) M98 hG99 F100 (by decide) (by decide)
      · refine to_an (pc := 30) rw_88_30 rfl (to_c (pc := 31) rw_88_31 (x := (2 : Int32)) rfl rfl (s_v (pc := 32) rw_88_32 (by omega) (ls0 := [.ref 1, .int (2 : Int32)]) rfl (Nat.le_of_ble_eq_true rfl) (Nat.le_of_ble_eq_true rfl) rfl (to_rc rfl rfl rfl (g_o hG rfl)) rfl (to_an (pc := 0) rw_84_0 rfl (to_in (pc := 1) rw_84_1 rfl (s_pI (pc := 2) rw_84_2 hG rfl (fun M103 W102 => ?_))))))
        have hG104 := g_wf hG W102 rfl rfl (by decide)
        have F105 := FR.w F0 W102 (show 1 = 1 ∧ 5 ≤ 10 ∨ 3 ≤ 1 ∧ 1 ≤ 5 ∨ 28 ≤ 1 ∧ 1 ≤ 35 by decide)
        refine to_an (pc := 5) rw_84_5 rfl (to_an (pc := 6) rw_84_6 rfl ?_)
        have c_106 : M103.2.1 1 9 = (M.2.1 1 9) := (W_n W102 (by decide) rfl)
        refine tt_gI (pc := 7) rw_84_7 (g_o hG104 rfl) (v := (M.2.1 1 9)) c_106 (s_pI (pc := 10) rw_84_10 hG104 rfl (fun M108 W107 => ?_))
        have hG109 := g_wf hG104 W107 rfl rfl (by decide)
        have F110 := FR.w F105 W107 (show 1 = 1 ∧ 5 ≤ 11 ∨ 3 ≤ 1 ∧ 1 ≤ 5 ∨ 28 ≤ 1 ∧ 1 ≤ 35 by decide)
        refine to_c (pc := 13) rw_84_13 (x := (0 : Int32)) rfl rfl (s_r1 (pc := 14) rw_84_14 (A := 0) rfl (by decide) (b_ieq_t (pc := 35) rw_88_35 (A := 0) rfl (by decide) (to_c (pc := 42) rw_88_42 (x := (0 : Int32)) rfl rfl (s_r1 (pc := 43) rw_88_43 (A := 0) rfl (by decide) (b_ine_f (pc := 7) rw_105_7 (A := 0) rfl (by decide) (to_c (pc := 10) rw_105_10 (x := (0 : Int32)) rfl rfl (s_r1 (pc := 11) rw_105_11 (A := 0) rfl (by decide) ?_)))))))
        have k_111 : (0 : Int32).toInt = 0 := rfl
        exact h (0 : Int32) M108 hG109 F110 (by decide) (by decide)
  · refine to_an (pc := 8) rw_88_8 rfl (to_c (pc := 9) rw_88_9 (x := (1 : Int32)) rfl rfl (s_v (pc := 10) rw_88_10 (by omega) (ls0 := [.ref 1, .int (1 : Int32)]) rfl (Nat.le_of_ble_eq_true rfl) (Nat.le_of_ble_eq_true rfl) rfl (to_rc rfl rfl rfl (g_o hG rfl)) rfl (to_an (pc := 0) rw_84_0 rfl (to_in (pc := 1) rw_84_1 rfl (s_pI (pc := 2) rw_84_2 hG rfl (fun M113 W112 => ?_))))))
    have hG114 := g_wf hG W112 rfl rfl (by decide)
    have F115 := FR.w F0 W112 (show 1 = 1 ∧ 5 ≤ 10 ∨ 3 ≤ 1 ∧ 1 ≤ 5 ∨ 28 ≤ 1 ∧ 1 ≤ 35 by decide)
    refine to_an (pc := 5) rw_84_5 rfl (to_an (pc := 6) rw_84_6 rfl ?_)
    have c_116 : M113.2.1 1 9 = (M.2.1 1 9) := (W_n W112 (by decide) rfl)
    refine tt_gI (pc := 7) rw_84_7 (g_o hG114 rfl) (v := (M.2.1 1 9)) c_116 (s_pI (pc := 10) rw_84_10 hG114 rfl (fun M118 W117 => ?_))
    have hG119 := g_wf hG114 W117 rfl rfl (by decide)
    have F120 := FR.w F115 W117 (show 1 = 1 ∧ 5 ≤ 11 ∨ 3 ≤ 1 ∧ 1 ≤ 5 ∨ 28 ≤ 1 ∧ 1 ≤ 35 by decide)
    refine to_c (pc := 13) rw_84_13 (x := (0 : Int32)) rfl rfl (s_r1 (pc := 14) rw_84_14 (A := 0) rfl (by decide) (s_r1 (pc := 13) rw_88_13 (A := 0) rfl (by decide) (b_ine_f (pc := 7) rw_105_7 (A := 0) rfl (by decide) (to_c (pc := 10) rw_105_10 (x := (0 : Int32)) rfl rfl (s_r1 (pc := 11) rw_105_11 (A := 0) rfl (by decide) ?_)))))
    have k_121 : (0 : Int32).toInt = 0 := rfl
    exact h (0 : Int32) M118 hG119 F120 (by decide) (by decide)
set_option maxRecDepth 4000 in
set_option maxHeartbeats 0 in
theorem C_100 {X : mm_X} {d : Nat} {M : mm_M} {Q : Option Value → mm_M → Prop} {p : Nat} {o : Int32} (hX : g_X X) (hd : 4 + 3 * (5 - o.toInt) ≤ (d : Int)) (hG : g_G M) (hp : p = 49 ∨ p = 58) (q1 : 0 ≤ o.toInt) (q2 : o.toInt ≤ 5) (hr : RC_99 (5 - o.toInt)) (h : ∀ (r : Int32) (M1 : mm_M), g_G M1 → FR md_wt M M1 → (0 ≤ r.toInt) → (r.toInt ≤ 1) → Q (some (.int r)) M1) : mm_T X d 100 0 [.ref 28, .ref 1, .ref p, .ref 11, .int o, .null, .null, .null] [] M Q := by
  have F0 : FR md_wt M M := FR.rf
  refine to_an (pc := 0) rw_100_0 rfl (tt_gI (pc := 1) rw_100_1 (g_o hG rfl) (v := (M.2.1 1 8)) rfl (to_is (pc := 4) rw_100_4 (ls2 := [.ref 28, .ref 1, .ref p, .ref 11, .int o, .int (M.2.1 1 8), .null, .null]) rfl rfl (to_i (pc := 6) rw_100_6 rfl (to_c (pc := 8) rw_100_8 (x := (538561536 : Int32)) rfl rfl (b_ceq (pc := 10) rw_100_10 (A := (M.2.1 1 8).toInt) (B := 538561536) rfl rfl (fun h1 => ?_) (fun h1 => ?_))))))
  · refine to_an (pc := 33) rw_100_33 rfl ?_
    have b_2 := g_b hG (a := 28) (i := 7) (lo := 0) (hi := 40) rfl rfl
    refine tt_gI (pc := 34) rw_100_34 (g_o hG rfl) (v := (M.2.1 28 7)) rfl (to_c (pc := 37) rw_100_37 (x := (40 : Int32)) rfl rfl (b_clt (pc := 39) rw_100_39 (A := (M.2.1 28 7).toInt) (B := 40) rfl rfl (fun h3 => ?_) (fun h3 => ?_)))
    · refine to_an (pc := 48) rw_100_48 rfl (tt_gI (pc := 49) rw_100_49 (g_o hG rfl) (v := (M.2.1 28 7)) rfl (to_is (pc := 52) rw_100_52 (ls2 := [.ref 28, .ref 1, .ref p, .ref 11, .int o, .int (M.2.1 1 8), .int (M.2.1 28 7), .null]) rfl rfl (to_an (pc := 54) rw_100_54 rfl (to_dupr (pc := 55) rw_100_55 (tt_gI (pc := 56) rw_100_56 (g_o hG rfl) (v := (M.2.1 28 7)) rfl (to_c (pc := 59) rw_100_59 (x := (1 : Int32)) rfl rfl (s_add (pc := 60) rw_100_60 (A := (M.2.1 28 7).toInt) (B := 1) rfl rfl (by omega) (fun v4 e5 => s_pI (pc := 61) rw_100_61 hG rfl (fun M7 W6 => ?_)))))))))
      have hG8 := g_w hG W6 (A := v4.toInt) rfl (lo := 0) (hi := 40) rfl rfl (by omega) (by decide)
      have F9 := FR.w F0 W6 (show 28 = 1 ∧ 5 ≤ 7 ∨ 3 ≤ 28 ∧ 28 ≤ 5 ∨ 28 ≤ 28 ∧ 28 ≤ 35 by decide)
      refine to_an (pc := 64) rw_100_64 rfl (s_gR (pc := 65) rw_100_65 hG8 rfl (v := 29) rfl (to_i (pc := 68) rw_100_68 rfl (to_i (pc := 70) rw_100_70 rfl (s_ias (pc := 72) rw_100_72 hG8 rfl (n := 40) rfl (A := (M.2.1 28 7).toInt) rfl (by omega) (by omega) (fun M11 W10 => ?_)))))
      have hG12 := g_wf hG8 W10 rfl rfl (by decide)
      have F13 := FR.w F9 W10 (show 29 = 1 ∧ 5 ≤ ((M.2.1 28 7).toInt).toNat ∨ 3 ≤ 29 ∧ 29 ≤ 5 ∨ 28 ≤ 29 ∧ 29 ≤ 35 by omega)
      refine to_an (pc := 73) rw_100_73 rfl (s_v (pc := 74) rw_100_74 (by omega) (ls0 := [.ref 1]) rfl (Nat.le_of_ble_eq_true rfl) (Nat.le_of_ble_eq_true rfl) rfl (to_rc rfl rfl rfl (g_o hG12 rfl)) rfl (C_83 hX (by omega) hG12  (fun M16 hG15 F14 => ?_)))
      have F17 := FR.c F13 F14 tg_138
      refine to_i (pc := 77) rw_100_77 rfl (to_c (pc := 79) rw_100_79 (x := (538561536 : Int32)) rfl rfl (b_cne_f (pc := 81) rw_100_81 (A := (M.2.1 1 8).toInt) (B := 538561536) rfl rfl (by omega) (to_an (pc := 84) rw_100_84 rfl (to_an (pc := 85) rw_100_85 rfl (to_an (pc := 86) rw_100_86 rfl (to_an (pc := 87) rw_100_87 rfl (to_i (pc := 88) rw_100_88 rfl (s_v (pc := 90) rw_100_90 (by omega) (ls0 := [.ref 28, .ref 1, .ref p, .ref 11, .int (M.2.1 28 7), .null]) rfl (Nat.le_of_ble_eq_true rfl) (Nat.le_of_ble_eq_true rfl) rfl (to_rc rfl rfl rfl (g_o hG15 rfl)) rfl (C_101 hX (by omega) hG15 hp (by omega) (by omega) (p := p) (s := (M.2.1 28 7)) (fun r18 M23 hG20 F19 p_21 p_22 => ?_))))))))))
      have F24 := FR.c F17 F19 tg_140
      refine to_is (pc := 93) rw_100_93 (ls2 := [.ref 28, .ref 1, .ref p, .ref 11, .int o, .int (M.2.1 1 8), .int (M.2.1 28 7), .int r18]) rfl rfl (to_go (pc := 95) rw_100_95 (to_an (pc := 130) rw_100_130 rfl (s_gR (pc := 131) rw_100_131 hG20 rfl (v := 35) rfl (to_i (pc := 134) rw_100_134 rfl (to_an (pc := 136) rw_100_136 rfl ?_)))))
      have c_25 : M23.2.1 28 7 = v4 := (F_n F19 (show ¬ (28 = 1 ∧ 5 ≤ 7 ∨ 3 ≤ 28 ∧ 28 ≤ 5 ∨ 29 ≤ 28 ∧ 28 ≤ 35) by decide) (F_n F14 (show ¬ (28 = 1 ∧ 5 ≤ 7 ∨ 3 ≤ 28 ∧ 28 ≤ 5) by decide) (W_n W10 (fun z => absurd z.1 (by decide)) (W_e W6))))
      refine tt_gI (pc := 137) rw_100_137 (g_o hG20 rfl) (v := v4) c_25 (s_ias (pc := 140) rw_100_140 hG20 rfl (n := 40) rfl (A := (M.2.1 28 7).toInt) rfl (by omega) (by omega) (fun M27 W26 => ?_))
      have hG28 := g_w hG20 W26 (A := v4.toInt) rfl (lo := 0) (hi := 40) rfl rfl (by omega) (by decide)
      have F29 := FR.w F24 W26 (show 35 = 1 ∧ 5 ≤ ((M.2.1 28 7).toInt).toNat ∨ 3 ≤ 35 ∧ 35 ≤ 5 ∨ 28 ≤ 35 ∧ 35 ≤ 35 by omega)
      refine to_i (pc := 141) rw_100_141 rfl (s_r1 (pc := 143) rw_100_143 (A := r18.toInt) rfl (by omega) ?_)
      exact h r18 M27 hG28 F29 (by omega) (by omega)
    · refine to_an (pc := 42) rw_100_42 rfl (to_c (pc := 43) rw_100_43 (x := (2 : Int32)) rfl rfl (s_v (pc := 44) rw_100_44 (by omega) (ls0 := [.ref 1, .int (2 : Int32)]) rfl (Nat.le_of_ble_eq_true rfl) (Nat.le_of_ble_eq_true rfl) rfl (to_rc rfl rfl rfl (g_o hG rfl)) rfl (to_an (pc := 0) rw_84_0 rfl (to_in (pc := 1) rw_84_1 rfl (s_pI (pc := 2) rw_84_2 hG rfl (fun M31 W30 => ?_))))))
      have hG32 := g_wf hG W30 rfl rfl (by decide)
      have F33 := FR.w F0 W30 (show 1 = 1 ∧ 5 ≤ 10 ∨ 3 ≤ 1 ∧ 1 ≤ 5 ∨ 28 ≤ 1 ∧ 1 ≤ 35 by decide)
      refine to_an (pc := 5) rw_84_5 rfl (to_an (pc := 6) rw_84_6 rfl ?_)
      have c_34 : M31.2.1 1 9 = (M.2.1 1 9) := (W_n W30 (by decide) rfl)
      refine tt_gI (pc := 7) rw_84_7 (g_o hG32 rfl) (v := (M.2.1 1 9)) c_34 (s_pI (pc := 10) rw_84_10 hG32 rfl (fun M36 W35 => ?_))
      have hG37 := g_wf hG32 W35 rfl rfl (by decide)
      have F38 := FR.w F33 W35 (show 1 = 1 ∧ 5 ≤ 11 ∨ 3 ≤ 1 ∧ 1 ≤ 5 ∨ 28 ≤ 1 ∧ 1 ≤ 35 by decide)
      refine to_c (pc := 13) rw_84_13 (x := (0 : Int32)) rfl rfl (s_r1 (pc := 14) rw_84_14 (A := 0) rfl (by decide) (s_r1 (pc := 47) rw_100_47 (A := 0) rfl (by decide) ?_))
      have k_39 : (0 : Int32).toInt = 0 := rfl
      exact h (0 : Int32) M36 hG37 F38 (by decide) (by decide)
  · refine to_i (pc := 13) rw_100_13 rfl (to_c (pc := 15) rw_100_15 (x := (351582208 : Int32)) rfl rfl (b_ceq (pc := 17) rw_100_17 (A := (M.2.1 1 8).toInt) (B := 351582208) rfl rfl (fun h40 => ?_) (fun h40 => ?_)))
    · refine to_an (pc := 33) rw_100_33 rfl ?_
      have b_41 := g_b hG (a := 28) (i := 7) (lo := 0) (hi := 40) rfl rfl
      refine tt_gI (pc := 34) rw_100_34 (g_o hG rfl) (v := (M.2.1 28 7)) rfl (to_c (pc := 37) rw_100_37 (x := (40 : Int32)) rfl rfl (b_clt (pc := 39) rw_100_39 (A := (M.2.1 28 7).toInt) (B := 40) rfl rfl (fun h42 => ?_) (fun h42 => ?_)))
      · refine to_an (pc := 48) rw_100_48 rfl (tt_gI (pc := 49) rw_100_49 (g_o hG rfl) (v := (M.2.1 28 7)) rfl (to_is (pc := 52) rw_100_52 (ls2 := [.ref 28, .ref 1, .ref p, .ref 11, .int o, .int (M.2.1 1 8), .int (M.2.1 28 7), .null]) rfl rfl (to_an (pc := 54) rw_100_54 rfl (to_dupr (pc := 55) rw_100_55 (tt_gI (pc := 56) rw_100_56 (g_o hG rfl) (v := (M.2.1 28 7)) rfl (to_c (pc := 59) rw_100_59 (x := (1 : Int32)) rfl rfl (s_add (pc := 60) rw_100_60 (A := (M.2.1 28 7).toInt) (B := 1) rfl rfl (by omega) (fun v43 e44 => s_pI (pc := 61) rw_100_61 hG rfl (fun M46 W45 => ?_)))))))))
        have hG47 := g_w hG W45 (A := v43.toInt) rfl (lo := 0) (hi := 40) rfl rfl (by omega) (by decide)
        have F48 := FR.w F0 W45 (show 28 = 1 ∧ 5 ≤ 7 ∨ 3 ≤ 28 ∧ 28 ≤ 5 ∨ 28 ≤ 28 ∧ 28 ≤ 35 by decide)
        refine to_an (pc := 64) rw_100_64 rfl (s_gR (pc := 65) rw_100_65 hG47 rfl (v := 29) rfl (to_i (pc := 68) rw_100_68 rfl (to_i (pc := 70) rw_100_70 rfl (s_ias (pc := 72) rw_100_72 hG47 rfl (n := 40) rfl (A := (M.2.1 28 7).toInt) rfl (by omega) (by omega) (fun M50 W49 => ?_)))))
        have hG51 := g_wf hG47 W49 rfl rfl (by decide)
        have F52 := FR.w F48 W49 (show 29 = 1 ∧ 5 ≤ ((M.2.1 28 7).toInt).toNat ∨ 3 ≤ 29 ∧ 29 ≤ 5 ∨ 28 ≤ 29 ∧ 29 ≤ 35 by omega)
        refine to_an (pc := 73) rw_100_73 rfl (s_v (pc := 74) rw_100_74 (by omega) (ls0 := [.ref 1]) rfl (Nat.le_of_ble_eq_true rfl) (Nat.le_of_ble_eq_true rfl) rfl (to_rc rfl rfl rfl (g_o hG51 rfl)) rfl (C_83 hX (by omega) hG51  (fun M55 hG54 F53 => ?_)))
        have F56 := FR.c F52 F53 tg_138
        refine to_i (pc := 77) rw_100_77 rfl (to_c (pc := 79) rw_100_79 (x := (538561536 : Int32)) rfl rfl (b_cne_t (pc := 81) rw_100_81 (A := (M.2.1 1 8).toInt) (B := 538561536) rfl rfl (by omega) (to_i (pc := 98) rw_100_98 rfl (to_c (pc := 100) rw_100_100 (x := (351582208 : Int32)) rfl rfl (b_cne_f (pc := 102) rw_100_102 (A := (M.2.1 1 8).toInt) (B := 351582208) rfl rfl (by omega) (to_an (pc := 105) rw_100_105 rfl (to_an (pc := 106) rw_100_106 rfl (to_i (pc := 107) rw_100_107 rfl (s_v (pc := 109) rw_100_109 (by omega) (ls0 := [.ref 28, .ref 1, .int (M.2.1 28 7), .null]) rfl (Nat.le_of_ble_eq_true rfl) (Nat.le_of_ble_eq_true rfl) rfl (to_rc rfl rfl rfl (g_o hG54 rfl)) rfl (C_104 hX (by omega) hG54 (by omega) (by omega) (s := (M.2.1 28 7)) (fun r57 M62 hG59 F58 p_60 p_61 => ?_)))))))))))
        have F63 := FR.c F56 F58 tg_140
        refine to_is (pc := 112) rw_100_112 (ls2 := [.ref 28, .ref 1, .ref p, .ref 11, .int o, .int (M.2.1 1 8), .int (M.2.1 28 7), .int r57]) rfl rfl (to_go (pc := 114) rw_100_114 (to_an (pc := 130) rw_100_130 rfl (s_gR (pc := 131) rw_100_131 hG59 rfl (v := 35) rfl (to_i (pc := 134) rw_100_134 rfl (to_an (pc := 136) rw_100_136 rfl ?_)))))
        have c_64 : M62.2.1 28 7 = v43 := (F_n F58 (show ¬ (28 = 1 ∧ 5 ≤ 7 ∨ 3 ≤ 28 ∧ 28 ≤ 5 ∨ 29 ≤ 28 ∧ 28 ≤ 35) by decide) (F_n F53 (show ¬ (28 = 1 ∧ 5 ≤ 7 ∨ 3 ≤ 28 ∧ 28 ≤ 5) by decide) (W_n W49 (fun z => absurd z.1 (by decide)) (W_e W45))))
        refine tt_gI (pc := 137) rw_100_137 (g_o hG59 rfl) (v := v43) c_64 (s_ias (pc := 140) rw_100_140 hG59 rfl (n := 40) rfl (A := (M.2.1 28 7).toInt) rfl (by omega) (by omega) (fun M66 W65 => ?_))
        have hG67 := g_w hG59 W65 (A := v43.toInt) rfl (lo := 0) (hi := 40) rfl rfl (by omega) (by decide)
        have F68 := FR.w F63 W65 (show 35 = 1 ∧ 5 ≤ ((M.2.1 28 7).toInt).toNat ∨ 3 ≤ 35 ∧ 35 ≤ 5 ∨ 28 ≤ 35 ∧ 35 ≤ 35 by omega)
        refine to_i (pc := 141) rw_100_141 rfl (s_r1 (pc := 143) rw_100_143 (A := r57.toInt) rfl (by omega) ?_)
        exact h r57 M66 hG67 F68 (by omega) (by omega)
      · refine to_an (pc := 42) rw_100_42 rfl (to_c (pc := 43) rw_100_43 (x := (2 : Int32)) rfl rfl (s_v (pc := 44) rw_100_44 (by omega) (ls0 := [.ref 1, .int (2 : Int32)]) rfl (Nat.le_of_ble_eq_true rfl) (Nat.le_of_ble_eq_true rfl) rfl (to_rc rfl rfl rfl (g_o hG rfl)) rfl (to_an (pc := 0) rw_84_0 rfl (to_in (pc := 1) rw_84_1 rfl (s_pI (pc := 2) rw_84_2 hG rfl (fun M70 W69 => ?_))))))
        have hG71 := g_wf hG W69 rfl rfl (by decide)
        have F72 := FR.w F0 W69 (show 1 = 1 ∧ 5 ≤ 10 ∨ 3 ≤ 1 ∧ 1 ≤ 5 ∨ 28 ≤ 1 ∧ 1 ≤ 35 by decide)
        refine to_an (pc := 5) rw_84_5 rfl (to_an (pc := 6) rw_84_6 rfl ?_)
        have c_73 : M70.2.1 1 9 = (M.2.1 1 9) := (W_n W69 (by decide) rfl)
        refine tt_gI (pc := 7) rw_84_7 (g_o hG71 rfl) (v := (M.2.1 1 9)) c_73 (s_pI (pc := 10) rw_84_10 hG71 rfl (fun M75 W74 => ?_))
        have hG76 := g_wf hG71 W74 rfl rfl (by decide)
        have F77 := FR.w F72 W74 (show 1 = 1 ∧ 5 ≤ 11 ∨ 3 ≤ 1 ∧ 1 ≤ 5 ∨ 28 ≤ 1 ∧ 1 ≤ 35 by decide)
        refine to_c (pc := 13) rw_84_13 (x := (0 : Int32)) rfl rfl (s_r1 (pc := 14) rw_84_14 (A := 0) rfl (by decide) (s_r1 (pc := 47) rw_100_47 (A := 0) rfl (by decide) ?_))
        have k_78 : (0 : Int32).toInt = 0 := rfl
        exact h (0 : Int32) M75 hG76 F77 (by decide) (by decide)
    · refine to_i (pc := 20) rw_100_20 rfl (to_c (pc := 22) rw_100_22 (x := (40936896 : Int32)) rfl rfl (b_ceq (pc := 24) rw_100_24 (A := (M.2.1 1 8).toInt) (B := 40936896) rfl rfl (fun h79 => ?_) (fun h79 => ?_)))
      · refine to_an (pc := 33) rw_100_33 rfl ?_
        have b_80 := g_b hG (a := 28) (i := 7) (lo := 0) (hi := 40) rfl rfl
        refine tt_gI (pc := 34) rw_100_34 (g_o hG rfl) (v := (M.2.1 28 7)) rfl (to_c (pc := 37) rw_100_37 (x := (40 : Int32)) rfl rfl (b_clt (pc := 39) rw_100_39 (A := (M.2.1 28 7).toInt) (B := 40) rfl rfl (fun h81 => ?_) (fun h81 => ?_)))
        · refine to_an (pc := 48) rw_100_48 rfl (tt_gI (pc := 49) rw_100_49 (g_o hG rfl) (v := (M.2.1 28 7)) rfl (to_is (pc := 52) rw_100_52 (ls2 := [.ref 28, .ref 1, .ref p, .ref 11, .int o, .int (M.2.1 1 8), .int (M.2.1 28 7), .null]) rfl rfl (to_an (pc := 54) rw_100_54 rfl (to_dupr (pc := 55) rw_100_55 (tt_gI (pc := 56) rw_100_56 (g_o hG rfl) (v := (M.2.1 28 7)) rfl (to_c (pc := 59) rw_100_59 (x := (1 : Int32)) rfl rfl (s_add (pc := 60) rw_100_60 (A := (M.2.1 28 7).toInt) (B := 1) rfl rfl (by omega) (fun v82 e83 => s_pI (pc := 61) rw_100_61 hG rfl (fun M85 W84 => ?_)))))))))
          have hG86 := g_w hG W84 (A := v82.toInt) rfl (lo := 0) (hi := 40) rfl rfl (by omega) (by decide)
          have F87 := FR.w F0 W84 (show 28 = 1 ∧ 5 ≤ 7 ∨ 3 ≤ 28 ∧ 28 ≤ 5 ∨ 28 ≤ 28 ∧ 28 ≤ 35 by decide)
          refine to_an (pc := 64) rw_100_64 rfl (s_gR (pc := 65) rw_100_65 hG86 rfl (v := 29) rfl (to_i (pc := 68) rw_100_68 rfl (to_i (pc := 70) rw_100_70 rfl (s_ias (pc := 72) rw_100_72 hG86 rfl (n := 40) rfl (A := (M.2.1 28 7).toInt) rfl (by omega) (by omega) (fun M89 W88 => ?_)))))
          have hG90 := g_wf hG86 W88 rfl rfl (by decide)
          have F91 := FR.w F87 W88 (show 29 = 1 ∧ 5 ≤ ((M.2.1 28 7).toInt).toNat ∨ 3 ≤ 29 ∧ 29 ≤ 5 ∨ 28 ≤ 29 ∧ 29 ≤ 35 by omega)
          refine to_an (pc := 73) rw_100_73 rfl (s_v (pc := 74) rw_100_74 (by omega) (ls0 := [.ref 1]) rfl (Nat.le_of_ble_eq_true rfl) (Nat.le_of_ble_eq_true rfl) rfl (to_rc rfl rfl rfl (g_o hG90 rfl)) rfl (C_83 hX (by omega) hG90  (fun M94 hG93 F92 => ?_)))
          have F95 := FR.c F91 F92 tg_138
          refine to_i (pc := 77) rw_100_77 rfl (to_c (pc := 79) rw_100_79 (x := (538561536 : Int32)) rfl rfl (b_cne_t (pc := 81) rw_100_81 (A := (M.2.1 1 8).toInt) (B := 538561536) rfl rfl (by omega) (to_i (pc := 98) rw_100_98 rfl (to_c (pc := 100) rw_100_100 (x := (351582208 : Int32)) rfl rfl (b_cne_t (pc := 102) rw_100_102 (A := (M.2.1 1 8).toInt) (B := 351582208) rfl rfl (by omega) (to_an (pc := 117) rw_100_117 rfl (to_an (pc := 118) rw_100_118 rfl (to_an (pc := 119) rw_100_119 rfl (to_an (pc := 120) rw_100_120 rfl (to_i (pc := 121) rw_100_121 rfl (to_i (pc := 123) rw_100_123 rfl ?_)))))))))))
          refine s_v (pc := 125) rw_100_125 (by omega) (ls0 := [.ref 28, .ref 1, .ref p, .ref 11, .int o, .int (M.2.1 28 7)]) rfl (Nat.le_of_ble_eq_true rfl) (Nat.le_of_ble_eq_true rfl) rfl (to_rc rfl rfl rfl (g_o hG93 rfl)) rfl (C_105 hX (by omega) hG93 hp (by omega) (by omega) (by omega) (by omega) hr (p := p) (o := o) (s := (M.2.1 28 7)) (fun r96 M101 hG98 F97 p_99 p_100 => ?_))
          have F102 := FR.c F95 F97 tg_139
          refine to_is (pc := 128) rw_100_128 (ls2 := [.ref 28, .ref 1, .ref p, .ref 11, .int o, .int (M.2.1 1 8), .int (M.2.1 28 7), .int r96]) rfl rfl (to_an (pc := 130) rw_100_130 rfl (s_gR (pc := 131) rw_100_131 hG98 rfl (v := 35) rfl (to_i (pc := 134) rw_100_134 rfl (to_an (pc := 136) rw_100_136 rfl ?_))))
          have b_103 := g_b hG98 (a := 28) (i := 7) (lo := 0) (hi := 40) rfl rfl
          refine tt_gI (pc := 137) rw_100_137 (g_o hG98 rfl) (v := (M101.2.1 28 7)) rfl (s_ias (pc := 140) rw_100_140 hG98 rfl (n := 40) rfl (A := (M.2.1 28 7).toInt) rfl (by omega) (by omega) (fun M105 W104 => ?_))
          have hG106 := g_w hG98 W104 (A := (M101.2.1 28 7).toInt) rfl (lo := 0) (hi := 40) rfl rfl (by omega) (by decide)
          have F107 := FR.w F102 W104 (show 35 = 1 ∧ 5 ≤ ((M.2.1 28 7).toInt).toNat ∨ 3 ≤ 35 ∧ 35 ≤ 5 ∨ 28 ≤ 35 ∧ 35 ≤ 35 by omega)
          refine to_i (pc := 141) rw_100_141 rfl (s_r1 (pc := 143) rw_100_143 (A := r96.toInt) rfl (by omega) ?_)
          exact h r96 M105 hG106 F107 (by omega) (by omega)
        · refine to_an (pc := 42) rw_100_42 rfl (to_c (pc := 43) rw_100_43 (x := (2 : Int32)) rfl rfl (s_v (pc := 44) rw_100_44 (by omega) (ls0 := [.ref 1, .int (2 : Int32)]) rfl (Nat.le_of_ble_eq_true rfl) (Nat.le_of_ble_eq_true rfl) rfl (to_rc rfl rfl rfl (g_o hG rfl)) rfl (to_an (pc := 0) rw_84_0 rfl (to_in (pc := 1) rw_84_1 rfl (s_pI (pc := 2) rw_84_2 hG rfl (fun M109 W108 => ?_))))))
          have hG110 := g_wf hG W108 rfl rfl (by decide)
          have F111 := FR.w F0 W108 (show 1 = 1 ∧ 5 ≤ 10 ∨ 3 ≤ 1 ∧ 1 ≤ 5 ∨ 28 ≤ 1 ∧ 1 ≤ 35 by decide)
          refine to_an (pc := 5) rw_84_5 rfl (to_an (pc := 6) rw_84_6 rfl ?_)
          have c_112 : M109.2.1 1 9 = (M.2.1 1 9) := (W_n W108 (by decide) rfl)
          refine tt_gI (pc := 7) rw_84_7 (g_o hG110 rfl) (v := (M.2.1 1 9)) c_112 (s_pI (pc := 10) rw_84_10 hG110 rfl (fun M114 W113 => ?_))
          have hG115 := g_wf hG110 W113 rfl rfl (by decide)
          have F116 := FR.w F111 W113 (show 1 = 1 ∧ 5 ≤ 11 ∨ 3 ≤ 1 ∧ 1 ≤ 5 ∨ 28 ≤ 1 ∧ 1 ≤ 35 by decide)
          refine to_c (pc := 13) rw_84_13 (x := (0 : Int32)) rfl rfl (s_r1 (pc := 14) rw_84_14 (A := 0) rfl (by decide) (s_r1 (pc := 47) rw_100_47 (A := 0) rfl (by decide) ?_))
          have k_117 : (0 : Int32).toInt = 0 := rfl
          exact h (0 : Int32) M114 hG115 F116 (by decide) (by decide)
      · refine to_an (pc := 27) rw_100_27 rfl (to_c (pc := 28) rw_100_28 (x := (1 : Int32)) rfl rfl (s_v (pc := 29) rw_100_29 (by omega) (ls0 := [.ref 1, .int (1 : Int32)]) rfl (Nat.le_of_ble_eq_true rfl) (Nat.le_of_ble_eq_true rfl) rfl (to_rc rfl rfl rfl (g_o hG rfl)) rfl (to_an (pc := 0) rw_84_0 rfl (to_in (pc := 1) rw_84_1 rfl (s_pI (pc := 2) rw_84_2 hG rfl (fun M119 W118 => ?_))))))
        have hG120 := g_wf hG W118 rfl rfl (by decide)
        have F121 := FR.w F0 W118 (show 1 = 1 ∧ 5 ≤ 10 ∨ 3 ≤ 1 ∧ 1 ≤ 5 ∨ 28 ≤ 1 ∧ 1 ≤ 35 by decide)
        refine to_an (pc := 5) rw_84_5 rfl (to_an (pc := 6) rw_84_6 rfl ?_)
        have c_122 : M119.2.1 1 9 = (M.2.1 1 9) := (W_n W118 (by decide) rfl)
        refine tt_gI (pc := 7) rw_84_7 (g_o hG120 rfl) (v := (M.2.1 1 9)) c_122 (s_pI (pc := 10) rw_84_10 hG120 rfl (fun M124 W123 => ?_))
        have hG125 := g_wf hG120 W123 rfl rfl (by decide)
        have F126 := FR.w F121 W123 (show 1 = 1 ∧ 5 ≤ 11 ∨ 3 ≤ 1 ∧ 1 ≤ 5 ∨ 28 ≤ 1 ∧ 1 ≤ 35 by decide)
        refine to_c (pc := 13) rw_84_13 (x := (0 : Int32)) rfl rfl (s_r1 (pc := 14) rw_84_14 (A := 0) rfl (by decide) (s_r1 (pc := 32) rw_100_32 (A := 0) rfl (by decide) ?_))
        have k_127 : (0 : Int32).toInt = 0 := rfl
        exact h (0 : Int32) M124 hG125 F126 (by decide) (by decide)
set_option maxRecDepth 4000 in
set_option maxHeartbeats 0 in
theorem T_99_0 {X : mm_X} {d : Nat} {M : mm_M} {Q : Option Value → mm_M → Prop} {p : Nat} {o : Int32} (hX : g_X X) (hd : 5 + 3 * (5 - o.toInt) ≤ (d : Int)) (hp : p = 49 ∨ p = 58) (q1 : 0 ≤ o.toInt) (q2 : o.toInt ≤ 5) (hr : RC_99 (5 - o.toInt)) (h : ∀ (r : Int32) (M1 : mm_M), g_G M1 → FR md_wt M M1 → (0 ≤ r.toInt) → (r.toInt ≤ 1) → Q (some (.int r)) M1) : ∀ nn9 : Nat, (∀ (N : mm_M) (x5 : Int32), g_G N → FR md_wt M N → (0 ≤ x5.toInt) → (x5.toInt ≤ 41) → (o.toInt = o.toInt) → 41 - x5.toInt < (nn9 : Int) → mm_T X d 99 3 [.ref 28, .ref 1, .ref p, .ref 11, .int o, .int x5] [] N Q) := by
  intro nn9
  induction nn9 with
  | zero =>
    intro N x5 hG F0 g1 g2 g3 hm
    exfalso; omega
  | succ nn9 ih =>
    intro N x5 hG F0 g1 g2 g3 hm
    refine to_i (pc := 3) rw_99_3 rfl (to_c (pc := 5) rw_99_5 (x := (40 : Int32)) rfl rfl (b_cgt (pc := 7) rw_99_7 (A := x5.toInt) (B := 40) rfl rfl (fun h1 => ?_) (fun h1 => ?_)))
    · refine to_c (pc := 38) rw_99_38 (x := (1 : Int32)) rfl rfl (s_r1 (pc := 39) rw_99_39 (A := 1) rfl (by decide) ?_)
      have k_2 : (1 : Int32).toInt = 1 := rfl
      exact h (1 : Int32) N hG F0 (by decide) (by decide)
    · refine to_an (pc := 10) rw_99_10 rfl (tt_gI (pc := 11) rw_99_11 (g_o hG rfl) (v := (N.2.1 1 7)) rfl (to_c (pc := 14) rw_99_14 (x := (4 : Int32)) rfl rfl (b_cne (pc := 15) rw_99_15 (A := (N.2.1 1 7).toInt) (B := 4) rfl rfl (fun h3 => ?_) (fun h3 => ?_))))
      · refine to_c (pc := 38) rw_99_38 (x := (1 : Int32)) rfl rfl (s_r1 (pc := 39) rw_99_39 (A := 1) rfl (by decide) ?_)
        have k_4 : (1 : Int32).toInt = 1 := rfl
        exact h (1 : Int32) N hG F0 (by decide) (by decide)
      · refine to_an (pc := 18) rw_99_18 rfl (to_an (pc := 19) rw_99_19 rfl (to_an (pc := 20) rw_99_20 rfl (to_an (pc := 21) rw_99_21 rfl (to_i (pc := 22) rw_99_22 rfl (s_v (pc := 24) rw_99_24 (by omega) (ls0 := [.ref 28, .ref 1, .ref p, .ref 11, .int o, .null, .null, .null]) rfl (Nat.le_of_ble_eq_true rfl) (Nat.le_of_ble_eq_true rfl) rfl (to_rc rfl rfl rfl (g_o hG rfl)) rfl (C_100 hX (by omega) hG hp (by omega) (by omega) hr (p := p) (o := o) (fun r5 M10 hG7 F6 p_8 p_9 => ?_)))))))
        have F11 := FR.c F0 F6 tg_139
        refine b_ine (pc := 27) rw_99_27 (A := r5.toInt) rfl (fun h12 => ?_) (fun h12 => ?_)
        · refine s_inc (pc := 32) rw_99_32 (ls2 := fun v => [.ref 28, .ref 1, .ref p, .ref 11, .int o, .int v]) rfl rfl (fun _ => rfl) (A := x5.toInt) (B := 1) rfl rfl (by omega) (fun v13 e14 => to_go (pc := 35) rw_99_35 ?_)
          exact ih M10 v13 hG7 F11 (by omega) (by omega) (by omega) (by omega)
        · refine to_c (pc := 30) rw_99_30 (x := (0 : Int32)) rfl rfl (s_r1 (pc := 31) rw_99_31 (A := 0) rfl (by decide) ?_)
          have k_15 : (0 : Int32).toInt = 0 := rfl
          exact h (0 : Int32) M10 hG7 F11 (by decide) (by decide)
set_option maxRecDepth 4000 in
set_option maxHeartbeats 0 in
theorem B_99 {X : mm_X} {d : Nat} {M : mm_M} {Q : Option Value → mm_M → Prop} {p : Nat} {o : Int32} (hX : g_X X) (hd : 5 + 3 * (5 - o.toInt) ≤ (d : Int)) (hG : g_G M) (hp : p = 49 ∨ p = 58) (q1 : 0 ≤ o.toInt) (q2 : o.toInt ≤ 5) (hr : RC_99 (5 - o.toInt)) (h : ∀ (r : Int32) (M1 : mm_M), g_G M1 → FR md_wt M M1 → (0 ≤ r.toInt) → (r.toInt ≤ 1) → Q (some (.int r)) M1) : mm_T X d 99 0 [.ref 28, .ref 1, .ref p, .ref 11, .int o, .null] [] M Q := by
  have F0 : FR md_wt M M := FR.rf
  refine to_c (pc := 0) rw_99_0 (x := (0 : Int32)) rfl rfl (to_is (pc := 1) rw_99_1 (ls2 := [.ref 28, .ref 1, .ref p, .ref 11, .int o, .int (0 : Int32)]) rfl rfl ?_)
  have k_16 : (0 : Int32).toInt = 0 := rfl
  exact (T_99_0 (p := p) (o := o) hX hd hp q1 q2 hr h ((41 - (0 : Int32).toInt).toNat + 1)) M (0 : Int32) hG F0 (by omega) (by omega) (by omega) (by omega)
theorem RC_99_all : ∀ nn : Nat, RC_99 (nn : Int) := by
  intro nn
  induction nn with
  | zero =>
    intro X d M Q p o hX hd hG hp q1 q2 hm h
    exfalso; omega
  | succ nn ih =>
    intro X d M Q p o hX hd hG hp q1 q2 hm h
    exact B_99 hX hd hG hp q1 q2 (fun X2 d2 M2 Q2 p2 o2 e71 e72 e73 hp2 q12 q22 hm2 h2 => ih X2 d2 M2 Q2 p2 o2 e71 e72 e73 hp2 q12 q22 (by omega) h2) h
theorem C_99 {X : mm_X} {d : Nat} {M : mm_M} {Q : Option Value → mm_M → Prop} {p : Nat} {o : Int32} (hX : g_X X) (hd : 5 + 3 * (5 - o.toInt) ≤ (d : Int)) (hG : g_G M) (hp : p = 49 ∨ p = 58) (q1 : 0 ≤ o.toInt) (q2 : o.toInt ≤ 5) (h : ∀ (r : Int32) (M1 : mm_M), g_G M1 → FR md_wt M M1 → (0 ≤ r.toInt) → (r.toInt ≤ 1) → Q (some (.int r)) M1) : mm_T X d 99 0 [.ref 28, .ref 1, .ref p, .ref 11, .int o, .null] [] M Q := RC_99_all ((5 - o.toInt).toNat + 1) X d M Q p o hX hd hG hp q1 q2 (by omega) h
set_option maxRecDepth 4000 in
set_option maxHeartbeats 0 in
theorem C_98 {X : mm_X} {d : Nat} {M : mm_M} {Q : Option Value → mm_M → Prop} {p : Nat} (hX : g_X X) (hd : 21 ≤ d) (hG : g_G M) (hp : p = 49 ∨ p = 58) (h : ∀ (r : Int32) (M1 : mm_M), g_G M1 → FR md_wt M M1 → (0 ≤ r.toInt) → (r.toInt ≤ 1) → Q (some (.int r)) M1) : mm_T X d 98 0 [.ref 28, .ref 1, .ref p, .ref 11] [] M Q := by
  have F0 : FR md_wt M M := FR.rf
  refine to_an (pc := 0) rw_98_0 rfl (to_c (pc := 1) rw_98_1 (x := (0 : Int32)) rfl rfl (s_pI (pc := 2) rw_98_2 hG rfl (fun M2 W1 => ?_)))
  have hG3 := g_w hG W1 (A := 0) rfl (lo := 0) (hi := 40) rfl rfl (by omega) (by decide)
  have F4 := FR.w F0 W1 (show 28 = 1 ∧ 5 ≤ 7 ∨ 3 ≤ 28 ∧ 28 ≤ 5 ∨ 28 ≤ 28 ∧ 28 ≤ 35 by decide)
  refine to_an (pc := 5) rw_98_5 rfl (to_an (pc := 6) rw_98_6 rfl (to_an (pc := 7) rw_98_7 rfl (to_an (pc := 8) rw_98_8 rfl (to_c (pc := 9) rw_98_9 (x := (0 : Int32)) rfl rfl (s_v (pc := 10) rw_98_10 (dp0 hd (by decide)) (ls0 := [.ref 28, .ref 1, .ref p, .ref 11, .int (0 : Int32), .null]) rfl (Nat.le_of_ble_eq_true rfl) (Nat.le_of_ble_eq_true rfl) rfl (to_rc rfl rfl rfl (g_o hG3 rfl)) rfl ?_)))))
  have k_5 : (0 : Int32).toInt = 0 := rfl
  refine C_99 hX (by omega) hG3 hp (by omega) (by omega) (p := p) (o := (0 : Int32)) (fun r6 M11 hG8 F7 p_9 p_10 => ?_)
  have F12 := FR.c F4 F7 tg_139
  refine b_ieq (pc := 13) rw_98_13 (A := r6.toInt) rfl (fun h13 => ?_) (fun h13 => ?_)
  · refine to_c (pc := 27) rw_98_27 (x := (0 : Int32)) rfl rfl (s_r1 (pc := 28) rw_98_28 (A := 0) rfl (by decide) ?_)
    exact h (0 : Int32) M11 hG8 F12 (by decide) (by decide)
  · refine to_an (pc := 16) rw_98_16 rfl (s_v (pc := 17) rw_98_17 (dp0 hd (by decide)) (ls0 := [.ref 1]) rfl (Nat.le_of_ble_eq_true rfl) (Nat.le_of_ble_eq_true rfl) rfl (to_rc rfl rfl rfl (g_o hG8 rfl)) rfl (to_an (pc := 0) rw_87_0 rfl (tt_gI (pc := 1) rw_87_1 (g_o hG8 rfl) (v := (M11.2.1 1 7)) rfl (b_ieq (pc := 4) rw_87_4 (A := (M11.2.1 1 7).toInt) rfl (fun h14 => ?_) (fun h14 => ?_)))))
    · refine to_c (pc := 15) rw_87_15 (x := (1 : Int32)) rfl rfl (to_go (pc := 16) rw_87_16 (s_r1 (pc := 20) rw_87_20 (A := 1) rfl (by decide) (b_ieq_f (pc := 20) rw_98_20 (A := 1) rfl (by decide) (to_c (pc := 23) rw_98_23 (x := (1 : Int32)) rfl rfl (to_go (pc := 24) rw_98_24 (s_r1 (pc := 28) rw_98_28 (A := 1) rfl (by decide) ?_))))))
      have k_15 : (1 : Int32).toInt = 1 := rfl
      exact h (1 : Int32) M11 hG8 F12 (by decide) (by decide)
    · refine to_an (pc := 7) rw_87_7 rfl (to_c (pc := 8) rw_87_8 (x := (1 : Int32)) rfl rfl (s_v (pc := 9) rw_87_9 (dp1 hd (by decide)) (ls0 := [.ref 1, .int (1 : Int32)]) rfl (Nat.le_of_ble_eq_true rfl) (Nat.le_of_ble_eq_true rfl) rfl (to_rc rfl rfl rfl (g_o hG8 rfl)) rfl (to_an (pc := 0) rw_84_0 rfl (to_in (pc := 1) rw_84_1 rfl (s_pI (pc := 2) rw_84_2 hG8 rfl (fun M17 W16 => ?_))))))
      have hG18 := g_wf hG8 W16 rfl rfl (by decide)
      have F19 := FR.w F12 W16 (show 1 = 1 ∧ 5 ≤ 10 ∨ 3 ≤ 1 ∧ 1 ≤ 5 ∨ 28 ≤ 1 ∧ 1 ≤ 35 by decide)
      refine to_an (pc := 5) rw_84_5 rfl (to_an (pc := 6) rw_84_6 rfl ?_)
      have c_20 : M17.2.1 1 9 = (M11.2.1 1 9) := (W_n W16 (by decide) rfl)
      refine tt_gI (pc := 7) rw_84_7 (g_o hG18 rfl) (v := (M11.2.1 1 9)) c_20 (s_pI (pc := 10) rw_84_10 hG18 rfl (fun M22 W21 => ?_))
      have hG23 := g_wf hG18 W21 rfl rfl (by decide)
      have F24 := FR.w F19 W21 (show 1 = 1 ∧ 5 ≤ 11 ∨ 3 ≤ 1 ∧ 1 ≤ 5 ∨ 28 ≤ 1 ∧ 1 ≤ 35 by decide)
      refine to_c (pc := 13) rw_84_13 (x := (0 : Int32)) rfl rfl (s_r1 (pc := 14) rw_84_14 (A := 0) rfl (by decide) (b_ieq_t (pc := 12) rw_87_12 (A := 0) rfl (by decide) (to_c (pc := 19) rw_87_19 (x := (0 : Int32)) rfl rfl (s_r1 (pc := 20) rw_87_20 (A := 0) rfl (by decide) (b_ieq_t (pc := 20) rw_98_20 (A := 0) rfl (by decide) (to_c (pc := 27) rw_98_27 (x := (0 : Int32)) rfl rfl (s_r1 (pc := 28) rw_98_28 (A := 0) rfl (by decide) ?_)))))))
      exact h (0 : Int32) M22 hG23 F24 (by decide) (by decide)
noncomputable def RC_107 (k : Int) : Prop := ∀ (X : mm_X) (d : Nat) (M : mm_M) (Q : Option Value → mm_M → Prop) (f : Int32) (t : Int32) (o : Int32), g_X X → (3 + 2 * (6 - o.toInt) ≤ (d : Int)) → g_G M → (0 ≤ f.toInt) → (f.toInt ≤ 40) → (0 ≤ o.toInt) → (o.toInt ≤ 6) → 6 - o.toInt < k → (∀ (M1 : mm_M), g_G M1 → FR md_w M M1 → Q (none) M1) → mm_T X d 107 0 [.ref 28, .ref 17, .int f, .int t, .int o, .null] [] M Q
set_option maxRecDepth 4000 in
set_option maxHeartbeats 0 in
theorem T_108_0 {X : mm_X} {d : Nat} {M : mm_M} {Q : Option Value → mm_M → Prop} {s : Int32} {o : Int32} (hX : g_X X) (hd : 2 + 2 * (6 - o.toInt) ≤ (d : Int)) (q1 : 0 ≤ s.toInt) (q2 : s.toInt ≤ 39) (q3 : 0 ≤ o.toInt) (q4 : o.toInt ≤ 5) (hr : RC_107 (6 - o.toInt)) (h : ∀ (M1 : mm_M), g_G M1 → FR md_w M M1 → Q (none) M1) : ∀ nn9 : Nat, (∀ (N : mm_M) (x4 : Int32), g_G N → FR md_w M N → (0 ≤ x4.toInt) → (x4.toInt ≤ 99) → (0 ≤ s.toInt) → (s.toInt ≤ 39) → (o.toInt = o.toInt) → (0 ≤ o.toInt) → (o.toInt ≤ 5) → 99 - x4.toInt < (nn9 : Int) → mm_T X d 108 92 [.ref 28, .ref 17, .int s, .int o, .int x4] [] N Q) := by
  intro nn9
  induction nn9 with
  | zero =>
    intro N x4 hG F0 g1 g2 g3 g4 g5 g6 g7 hm
    exfalso; omega
  | succ nn9 ih =>
    intro N x4 hG F0 g1 g2 g3 g4 g5 g6 g7 hm
    refine to_i (pc := 92) rw_108_92 rfl (to_an (pc := 94) rw_108_94 rfl (s_gR (pc := 95) rw_108_95 hG rfl (v := 34) rfl (to_in (pc := 98) rw_108_98 rfl (s_ial (pc := 99) rw_108_99 hG rfl (n := 40) rfl rfl (A := s.toInt) rfl (by omega) (by omega) (lo := 0) (hi := 99) rfl rfl (fun v1 w_2 _ _ => b_cge (pc := 100) rw_108_100 (A := x4.toInt) (B := v1.toInt) rfl rfl (fun h3 => ?_) (fun h3 => ?_))))))
    · refine to_rv (pc := 133) rw_108_133 ?_
      exact h N hG F0 
    · refine to_an (pc := 103) rw_108_103 rfl ?_
      have b_4 := g_b hG (a := 28) (i := 10) (lo := 0) (hi := 1) rfl rfl
      refine tt_gZ (pc := 104) rw_108_104 (g_o hG rfl) (v := (N.2.1 28 10)) rfl (b_ine (pc := 107) rw_108_107 (A := (N.2.1 28 10).toInt) rfl (fun h5 => ?_) (fun h5 => ?_))
      · refine to_rv (pc := 133) rw_108_133 ?_
        exact h N hG F0 
      · refine to_an (pc := 110) rw_108_110 rfl (to_an (pc := 111) rw_108_111 rfl (to_in (pc := 112) rw_108_112 rfl (to_c (pc := 113) rw_108_113 (x := (1 : Int32)) rfl rfl (s_add (pc := 114) rw_108_114 (A := s.toInt) (B := 1) rfl rfl (by omega) (fun v6 e7 => to_an (pc := 115) rw_108_115 rfl (s_gR (pc := 116) rw_108_116 hG rfl (v := 35) rfl (to_in (pc := 119) rw_108_119 rfl (s_ial (pc := 120) rw_108_120 hG rfl (n := 40) rfl rfl (A := s.toInt) rfl (by omega) (by omega) (lo := 0) (hi := 40) rfl rfl (fun v8 w_9 _ _ => to_in (pc := 121) rw_108_121 rfl (to_c (pc := 122) rw_108_122 (x := (1 : Int32)) rfl rfl (s_add (pc := 123) rw_108_123 (A := o.toInt) (B := 1) rfl rfl (by omega) (fun v10 e11 => ?_))))))))))))
        refine s_v (pc := 124) rw_108_124 (by omega) (ls0 := [.ref 28, .ref 17, .int v6, .int v8, .int v10, .null]) rfl (Nat.le_of_ble_eq_true rfl) (Nat.le_of_ble_eq_true rfl) rfl (to_rc rfl rfl rfl (g_o hG rfl)) rfl (hr X _ _ _ v6 v8 v10 hX (by omega) hG (by omega) (by omega) (by omega) (by omega) (by omega) (fun M14 hG13 F12 => ?_))
        have F15 := FR.c F0 F12 tg_141
        refine s_inc (pc := 127) rw_108_127 (ls2 := fun v => [.ref 28, .ref 17, .int s, .int o, .int v]) rfl rfl (fun _ => rfl) (A := x4.toInt) (B := 1) rfl rfl (by omega) (fun v16 e17 => to_go (pc := 130) rw_108_130 ?_)
        exact ih M14 v16 hG13 F15 (by omega) (by omega) (by omega) (by omega) (by omega) (by omega) (by omega) (by omega)
set_option maxRecDepth 4000 in
set_option maxHeartbeats 0 in
theorem C_108 {X : mm_X} {d : Nat} {M : mm_M} {Q : Option Value → mm_M → Prop} {s : Int32} {o : Int32} (hX : g_X X) (hd : 2 + 2 * (6 - o.toInt) ≤ (d : Int)) (hG : g_G M) (q1 : 0 ≤ s.toInt) (q2 : s.toInt ≤ 39) (q3 : 0 ≤ o.toInt) (q4 : o.toInt ≤ 5) (hr : RC_107 (6 - o.toInt)) (h : ∀ (M1 : mm_M), g_G M1 → FR md_w M M1 → Q (none) M1) : mm_T X d 108 0 [.ref 28, .ref 17, .int s, .int o, .null] [] M Q := by
  have F0 : FR md_w M M := FR.rf
  refine to_an (pc := 0) rw_108_0 rfl (s_gR (pc := 1) rw_108_1 hG rfl (v := 29) rfl (to_in (pc := 4) rw_108_4 rfl (s_ial (pc := 5) rw_108_5 hG rfl (n := 40) rfl rfl (A := s.toInt) rfl (by omega) (by omega) (lo := -2147483648) (hi := 2147483647) rfl rfl (fun v18 w_19 _ _ => to_c (pc := 6) rw_108_6 (x := (538561536 : Int32)) rfl rfl (b_cne (pc := 8) rw_108_8 (A := v18.toInt) (B := 538561536) rfl rfl (fun h20 => ?_) (fun h20 => ?_))))))
  · refine to_an (pc := 52) rw_108_52 rfl (s_gR (pc := 53) rw_108_53 hG rfl (v := 29) rfl (to_in (pc := 56) rw_108_56 rfl (s_ialk (pc := 57) rw_108_57 hG rfl (n := 40) rfl rfl (A := s.toInt) rfl (by omega) (by omega) (v := v18) w_19 (to_c (pc := 58) rw_108_58 (x := (351582208 : Int32)) rfl rfl (b_cne (pc := 60) rw_108_60 (A := v18.toInt) (B := 351582208) rfl rfl (fun h23 => ?_) (fun h23 => ?_))))))
    · refine to_c (pc := 89) rw_108_89 (x := (0 : Int32)) rfl rfl (to_is (pc := 90) rw_108_90 (ls2 := [.ref 28, .ref 17, .int s, .int o, .int (0 : Int32)]) rfl rfl ?_)
      have k_24 : (0 : Int32).toInt = 0 := rfl
      exact (T_108_0 (s := s) (o := o) hX hd q1 q2 q3 q4 hr h ((99 - (0 : Int32).toInt).toNat + 1)) M (0 : Int32) hG F0 (by omega) (by omega) (by omega) (by omega) (by omega) (by omega) (by omega) (by omega)
    · refine to_an (pc := 63) rw_108_63 rfl (to_an (pc := 64) rw_108_64 rfl (s_gR (pc := 65) rw_108_65 hG rfl (v := 30) rfl (to_in (pc := 68) rw_108_68 rfl (s_ial (pc := 69) rw_108_69 hG rfl (n := 40) rfl rfl (A := s.toInt) rfl (by omega) (by omega) (lo := 0) (hi := 5) rfl rfl (fun v25 w_26 _ _ => to_an (pc := 70) rw_108_70 rfl (s_gR (pc := 71) rw_108_71 hG rfl (v := 31) rfl (to_in (pc := 74) rw_108_74 rfl (s_ial (pc := 75) rw_108_75 hG rfl (n := 40) rfl rfl (A := s.toInt) rfl (by omega) (by omega) (lo := 0) (hi := 5) rfl rfl (fun v27 w_28 _ _ => to_an (pc := 76) rw_108_76 rfl (s_gR (pc := 77) rw_108_77 hG rfl (v := 31) rfl (to_in (pc := 80) rw_108_80 rfl ?_)))))))))))
      refine s_ialk (pc := 81) rw_108_81 hG rfl (n := 40) rfl rfl (A := s.toInt) rfl (by omega) (by omega) (v := v27) w_28 (s_cl (pc := 82) rw_108_82 rfl (fun l31 => s_v (pc := 83) rw_108_83 (by omega) (ls0 := [.ref 17, .int v25, .int v27, .int v27, .long l31, .null, .null, .null]) rfl (Nat.le_of_ble_eq_true rfl) (Nat.le_of_ble_eq_true rfl) rfl (to_rc rfl rfl rfl (g_o hG rfl)) rfl (C_28 hX (by omega) hG (by omega) (by omega) (by omega) (by omega) (by omega) (by omega) (f := v25) (a := v27) (b := v27) (x := l31) (fun M34 hG33 F32 => ?_))))
      have F35 := FR.c F0 F32 tg_142
      refine to_go (pc := 86) rw_108_86 (to_rv (pc := 133) rw_108_133 ?_)
      exact h M34 hG33 F35 
  · refine to_an (pc := 11) rw_108_11 rfl (to_dupr (pc := 12) rw_108_12 (tt_gI (pc := 13) rw_108_13 (g_o hG rfl) (v := (M.2.1 28 9)) rfl (to_c (pc := 16) rw_108_16 (x := (1 : Int32)) rfl rfl (s_any (pc := 17) rw_108_17 (fun _ _ => rfl) (fun v36 => s_pI (pc := 18) rw_108_18 hG rfl (fun M38 W37 => ?_))))))
    have hG39 := g_wf hG W37 rfl rfl (by decide)
    have F40 := FR.w F0 W37 (show 18 ≤ 28 ∧ 28 ≤ 35 by decide)
    refine to_an (pc := 21) rw_108_21 rfl (to_an (pc := 22) rw_108_22 rfl (s_gR (pc := 23) rw_108_23 hG39 rfl (v := 30) rfl (to_in (pc := 26) rw_108_26 rfl (s_ial (pc := 27) rw_108_27 hG39 rfl (n := 40) rfl rfl (A := s.toInt) rfl (by omega) (by omega) (lo := 0) (hi := 5) rfl rfl (fun v41 w_42 _ _ => to_an (pc := 28) rw_108_28 rfl (s_gR (pc := 29) rw_108_29 hG39 rfl (v := 31) rfl (to_in (pc := 32) rw_108_32 rfl (s_ial (pc := 33) rw_108_33 hG39 rfl (n := 40) rfl rfl (A := s.toInt) rfl (by omega) (by omega) (lo := 0) (hi := 5) rfl rfl (fun v43 w_44 _ _ => to_an (pc := 34) rw_108_34 rfl (s_gR (pc := 35) rw_108_35 hG39 rfl (v := 32) rfl (to_in (pc := 38) rw_108_38 rfl ?_)))))))))))
    refine s_ial (pc := 39) rw_108_39 hG39 rfl (n := 40) rfl rfl (A := s.toInt) rfl (by omega) (by omega) (lo := 0) (hi := 5) rfl rfl (fun v45 w_46 _ _ => to_an (pc := 40) rw_108_40 rfl (s_gR (pc := 41) rw_108_41 hG39 rfl (v := 33) rfl (to_in (pc := 44) rw_108_44 rfl (s_lal (pc := 45) rw_108_45 hG39 rfl (n := 40) rfl (A := s.toInt) rfl (by omega) (by omega) (fun l47 => s_v (pc := 46) rw_108_46 (by omega) (ls0 := [.ref 17, .int v41, .int v43, .int v45, .long l47, .null, .null, .null]) rfl (Nat.le_of_ble_eq_true rfl) (Nat.le_of_ble_eq_true rfl) rfl (to_rc rfl rfl rfl (g_o hG39 rfl)) rfl (C_28 hX (by omega) hG39 (by omega) (by omega) (by omega) (by omega) (by omega) (by omega) (f := v41) (a := v43) (b := v45) (x := l47) (fun M50 hG49 F48 => ?_)))))))
    have F51 := FR.c F40 F48 tg_142
    refine to_go (pc := 49) rw_108_49 (to_rv (pc := 133) rw_108_133 ?_)
    exact h M50 hG49 F51 
set_option maxRecDepth 4000 in
set_option maxHeartbeats 0 in
theorem T_107_0 {X : mm_X} {d : Nat} {M : mm_M} {Q : Option Value → mm_M → Prop} {f : Int32} {t : Int32} {o : Int32} (hX : g_X X) (hd : 3 + 2 * (6 - o.toInt) ≤ (d : Int)) (q1 : 0 ≤ f.toInt) (q2 : f.toInt ≤ 40) (q3 : 0 ≤ o.toInt) (q4 : o.toInt ≤ 6) (hr : RC_107 (6 - o.toInt)) (h : ∀ (M1 : mm_M), g_G M1 → FR md_w M M1 → Q (none) M1) : ∀ nn9 : Nat, (∀ (N : mm_M) (u2 : Value) (x5 : Int32), g_G N → FR md_w M N → (0 ≤ x5.toInt) → (x5.toInt ≤ 40) → (o.toInt = o.toInt) → (0 ≤ o.toInt) → (o.toInt ≤ 5) → 40 - x5.toInt < (nn9 : Int) → mm_T X d 107 10 [.ref 28, .ref 17, u2, .int t, .int o, .int x5] [] N Q) := by
  intro nn9
  induction nn9 with
  | zero =>
    intro N u2 x5 hG F0 g1 g2 g3 g4 g5 hm
    exfalso; omega
  | succ nn9 ih =>
    intro N u2 x5 hG F0 g1 g2 g3 g4 g5 hm
    refine to_i (pc := 10) rw_107_10 rfl (to_in (pc := 12) rw_107_12 rfl (b_cge (pc := 13) rw_107_13 (A := x5.toInt) (B := t.toInt) rfl rfl (fun h1 => ?_) (fun h1 => ?_)))
    · refine to_rv (pc := 86) rw_107_86 ?_
      exact h N hG F0 
    · refine to_i (pc := 16) rw_107_16 rfl (to_c (pc := 18) rw_107_18 (x := (40 : Int32)) rfl rfl (b_cge (pc := 20) rw_107_20 (A := x5.toInt) (B := 40) rfl rfl (fun h2 => ?_) (fun h2 => ?_)))
      · refine to_rv (pc := 86) rw_107_86 ?_
        exact h N hG F0 
      · refine to_an (pc := 23) rw_107_23 rfl ?_
        have b_3 := g_b hG (a := 28) (i := 10) (lo := 0) (hi := 1) rfl rfl
        refine tt_gZ (pc := 24) rw_107_24 (g_o hG rfl) (v := (N.2.1 28 10)) rfl (b_ine (pc := 27) rw_107_27 (A := (N.2.1 28 10).toInt) rfl (fun h4 => ?_) (fun h4 => ?_))
        · refine to_rv (pc := 86) rw_107_86 ?_
          exact h N hG F0 
        · refine to_an (pc := 30) rw_107_30 rfl ?_
          have b_5 := g_b hG (a := 28) (i := 8) (lo := 0) (hi := 3000) rfl rfl
          refine tt_gI (pc := 31) rw_107_31 (g_o hG rfl) (v := (N.2.1 28 8)) rfl (to_c (pc := 34) rw_107_34 (x := (3000 : Int32)) rfl rfl (b_clt (pc := 37) rw_107_37 (A := (N.2.1 28 8).toInt) (B := 3000) rfl rfl (fun h6 => ?_) (fun h6 => ?_)))
          · refine to_an (pc := 48) rw_107_48 rfl (to_dupr (pc := 49) rw_107_49 (tt_gI (pc := 50) rw_107_50 (g_o hG rfl) (v := (N.2.1 28 8)) rfl (to_c (pc := 53) rw_107_53 (x := (1 : Int32)) rfl rfl (s_add (pc := 54) rw_107_54 (A := (N.2.1 28 8).toInt) (B := 1) rfl rfl (by omega) (fun v7 e8 => s_pI (pc := 55) rw_107_55 hG rfl (fun M10 W9 => ?_))))))
            have hG11 := g_w hG W9 (A := v7.toInt) rfl (lo := 0) (hi := 3000) rfl rfl (by omega) (by decide)
            have F12 := FR.w F0 W9 (show 18 ≤ 28 ∧ 28 ≤ 35 by decide)
            refine to_an (pc := 58) rw_107_58 rfl (to_an (pc := 59) rw_107_59 rfl (to_i (pc := 60) rw_107_60 rfl (to_i (pc := 62) rw_107_62 rfl (s_v (pc := 64) rw_107_64 (by omega) (ls0 := [.ref 28, .ref 17, .int x5, .int o, .null]) rfl (Nat.le_of_ble_eq_true rfl) (Nat.le_of_ble_eq_true rfl) rfl (to_rc rfl rfl rfl (g_o hG11 rfl)) rfl (C_108 hX (by omega) hG11 (by omega) (by omega) (by omega) (by omega) hr (s := x5) (o := o) (fun M15 hG14 F13 => ?_))))))
            have F16 := FR.c F12 F13 tg_141
            refine to_i (pc := 67) rw_107_67 rfl (to_c (pc := 69) rw_107_69 (x := (1 : Int32)) rfl rfl (s_add (pc := 70) rw_107_70 (A := x5.toInt) (B := 1) rfl rfl (by omega) (fun v17 e18 => to_an (pc := 71) rw_107_71 rfl (s_gR (pc := 72) rw_107_72 hG14 rfl (v := 35) rfl (to_i (pc := 75) rw_107_75 rfl (s_ial (pc := 77) rw_107_77 hG14 rfl (n := 40) rfl rfl (A := x5.toInt) rfl (by omega) (by omega) (lo := 0) (hi := 40) rfl rfl (fun v19 w_20 _ _ => s_max (pc := 78) rw_107_78 rfl (A := v17.toInt) (B := v19.toInt) rfl rfl (fun v21 _ _ _ => to_is (pc := 81) rw_107_81 (ls2 := [.ref 28, .ref 17, u2, .int t, .int o, .int v21]) rfl rfl (to_go (pc := 83) rw_107_83 ?_)))))))))
            exact ih M15 (u2) v21 hG14 F16 (by omega) (by omega) (by omega) (by omega) (by omega) (by omega)
          · refine to_an (pc := 40) rw_107_40 rfl (to_c (pc := 41) rw_107_41 (x := (1 : Int32)) rfl rfl (s_pZ (pc := 42) rw_107_42 hG rfl (A := 1) rfl (by omega) (fun M23 W22 => ?_)))
            have hG24 := g_w hG W22 (A := 1) rfl (lo := 0) (hi := 1) rfl rfl (by omega) (by decide)
            have F25 := FR.w F0 W22 (show 18 ≤ 28 ∧ 28 ≤ 35 by decide)
            refine to_go (pc := 45) rw_107_45 (to_i (pc := 67) rw_107_67 rfl (to_c (pc := 69) rw_107_69 (x := (1 : Int32)) rfl rfl (s_add (pc := 70) rw_107_70 (A := x5.toInt) (B := 1) rfl rfl (by omega) (fun v26 e27 => to_an (pc := 71) rw_107_71 rfl (s_gR (pc := 72) rw_107_72 hG24 rfl (v := 35) rfl (to_i (pc := 75) rw_107_75 rfl (s_ial (pc := 77) rw_107_77 hG24 rfl (n := 40) rfl rfl (A := x5.toInt) rfl (by omega) (by omega) (lo := 0) (hi := 40) rfl rfl (fun v28 w_29 _ _ => s_max (pc := 78) rw_107_78 rfl (A := v26.toInt) (B := v28.toInt) rfl rfl (fun v30 _ _ _ => to_is (pc := 81) rw_107_81 (ls2 := [.ref 28, .ref 17, u2, .int t, .int o, .int v30]) rfl rfl (to_go (pc := 83) rw_107_83 ?_))))))))))
            exact ih M23 (u2) v30 hG24 F25 (by omega) (by omega) (by omega) (by omega) (by omega) (by omega)
set_option maxRecDepth 4000 in
set_option maxHeartbeats 0 in
theorem B_107 {X : mm_X} {d : Nat} {M : mm_M} {Q : Option Value → mm_M → Prop} {f : Int32} {t : Int32} {o : Int32} (hX : g_X X) (hd : 3 + 2 * (6 - o.toInt) ≤ (d : Int)) (hG : g_G M) (q1 : 0 ≤ f.toInt) (q2 : f.toInt ≤ 40) (q3 : 0 ≤ o.toInt) (q4 : o.toInt ≤ 6) (hr : RC_107 (6 - o.toInt)) (h : ∀ (M1 : mm_M), g_G M1 → FR md_w M M1 → Q (none) M1) : mm_T X d 107 0 [.ref 28, .ref 17, .int f, .int t, .int o, .null] [] M Q := by
  have F0 : FR md_w M M := FR.rf
  refine to_i (pc := 0) rw_107_0 rfl (to_c (pc := 2) rw_107_2 (x := (5 : Int32)) rfl rfl (b_cle (pc := 3) rw_107_3 (A := o.toInt) (B := 5) rfl rfl (fun h31 => ?_) (fun h31 => ?_)))
  · refine to_in (pc := 7) rw_107_7 rfl (to_is (pc := 8) rw_107_8 (ls2 := [.ref 28, .ref 17, .int f, .int t, .int o, .int f]) rfl rfl ?_)
    exact (T_107_0 (f := f) (t := t) (o := o) hX hd q1 q2 q3 q4 hr h ((40 - f.toInt).toNat + 1)) M (.int f) f hG F0 (by omega) (by omega) (by omega) (by omega) (by omega) (by omega)
  · refine to_rv (pc := 6) rw_107_6 ?_
    exact h M hG F0 
theorem RC_107_all : ∀ nn : Nat, RC_107 (nn : Int) := by
  intro nn
  induction nn with
  | zero =>
    intro X d M Q f t o hX hd hG q1 q2 q3 q4 hm h
    exfalso; omega
  | succ nn ih =>
    intro X d M Q f t o hX hd hG q1 q2 q3 q4 hm h
    exact B_107 hX hd hG q1 q2 q3 q4 (fun X2 d2 M2 Q2 f2 t2 o2 e71 e72 e73 q12 q22 q32 q42 hm2 h2 => ih X2 d2 M2 Q2 f2 t2 o2 e71 e72 e73 q12 q22 q32 q42 (by omega) h2) h
theorem C_107 {X : mm_X} {d : Nat} {M : mm_M} {Q : Option Value → mm_M → Prop} {f : Int32} {t : Int32} {o : Int32} (hX : g_X X) (hd : 3 + 2 * (6 - o.toInt) ≤ (d : Int)) (hG : g_G M) (q1 : 0 ≤ f.toInt) (q2 : f.toInt ≤ 40) (q3 : 0 ≤ o.toInt) (q4 : o.toInt ≤ 6) (h : ∀ (M1 : mm_M), g_G M1 → FR md_w M M1 → Q (none) M1) : mm_T X d 107 0 [.ref 28, .ref 17, .int f, .int t, .int o, .null] [] M Q := RC_107_all ((6 - o.toInt).toNat + 1) X d M Q f t o hX hd hG q1 q2 q3 q4 (by omega) h
set_option maxRecDepth 4000 in
set_option maxHeartbeats 0 in
theorem C_106 {X : mm_X} {d : Nat} {M : mm_M} {Q : Option Value → mm_M → Prop} (hX : g_X X) (hd : 16 ≤ d) (hG : g_G M) (h : ∀ (r : Int32) (M1 : mm_M), g_G M1 → FR md_w M M1 → (0 ≤ r.toInt) → (r.toInt ≤ 1) → Q (some (.int r)) M1) : mm_T X d 106 0 [.ref 28, .ref 17] [] M Q := by
  have F0 : FR md_w M M := FR.rf
  refine to_an (pc := 0) rw_106_0 rfl (to_c (pc := 1) rw_106_1 (x := (0 : Int32)) rfl rfl (s_pI (pc := 2) rw_106_2 hG rfl (fun M2 W1 => ?_)))
  have hG3 := g_w hG W1 (A := 0) rfl (lo := 0) (hi := 3000) rfl rfl (by omega) (by decide)
  have F4 := FR.w F0 W1 (show 18 ≤ 28 ∧ 28 ≤ 35 by decide)
  refine to_an (pc := 5) rw_106_5 rfl (to_c (pc := 6) rw_106_6 (x := (0 : Int32)) rfl rfl (s_pI (pc := 7) rw_106_7 hG3 rfl (fun M6 W5 => ?_)))
  have hG7 := g_wf hG3 W5 rfl rfl (by decide)
  have F8 := FR.w F4 W5 (show 18 ≤ 28 ∧ 28 ≤ 35 by decide)
  refine to_an (pc := 10) rw_106_10 rfl (to_c (pc := 11) rw_106_11 (x := (0 : Int32)) rfl rfl (s_pZ (pc := 12) rw_106_12 hG7 rfl (A := 0) rfl (by omega) (fun M10 W9 => ?_)))
  have hG11 := g_w hG7 W9 (A := 0) rfl (lo := 0) (hi := 1) rfl rfl (by omega) (by decide)
  have F12 := FR.w F8 W9 (show 18 ≤ 28 ∧ 28 ≤ 35 by decide)
  refine to_an (pc := 15) rw_106_15 rfl (to_an (pc := 16) rw_106_16 rfl (to_c (pc := 17) rw_106_17 (x := (0 : Int32)) rfl rfl (to_an (pc := 18) rw_106_18 rfl ?_)))
  have c_13 : M10.2.1 28 7 = (M.2.1 28 7) := (W_n W9 (by decide) (W_n W5 (by decide) (W_n W1 (by decide) rfl)))
  have b_14 := g_b hG (a := 28) (i := 7) (lo := 0) (hi := 40) rfl rfl
  refine tt_gI (pc := 19) rw_106_19 (g_o hG11 rfl) (v := (M.2.1 28 7)) c_13 (to_c (pc := 22) rw_106_22 (x := (0 : Int32)) rfl rfl (s_v (pc := 23) rw_106_23 (dp0 hd (by decide)) (ls0 := [.ref 28, .ref 17, .int (0 : Int32), .int (M.2.1 28 7), .int (0 : Int32), .null]) rfl (Nat.le_of_ble_eq_true rfl) (Nat.le_of_ble_eq_true rfl) rfl (to_rc rfl rfl rfl (g_o hG11 rfl)) rfl ?_))
  have k_15 : (0 : Int32).toInt = 0 := rfl
  refine C_107 hX (by omega) hG11 (by omega) (by omega) (by omega) (by omega) (f := (0 : Int32)) (t := (M.2.1 28 7)) (o := (0 : Int32)) (fun M18 hG17 F16 => ?_)
  have F19 := FR.c F12 F16 tg_141
  refine to_an (pc := 26) rw_106_26 rfl ?_
  have b_20 := g_b hG17 (a := 28) (i := 10) (lo := 0) (hi := 1) rfl rfl
  refine tt_gZ (pc := 27) rw_106_27 (g_o hG17 rfl) (v := (M18.2.1 28 10)) rfl (b_ine (pc := 30) rw_106_30 (A := (M18.2.1 28 10).toInt) rfl (fun h21 => ?_) (fun h21 => ?_))
  · refine to_c (pc := 37) rw_106_37 (x := (0 : Int32)) rfl rfl (s_r1 (pc := 38) rw_106_38 (A := 0) rfl (by decide) ?_)
    exact h (0 : Int32) M18 hG17 F19 (by decide) (by decide)
  · refine to_c (pc := 33) rw_106_33 (x := (1 : Int32)) rfl rfl (to_go (pc := 34) rw_106_34 (s_r1 (pc := 38) rw_106_38 (A := 1) rfl (by decide) ?_))
    have k_22 : (1 : Int32).toInt = 1 := rfl
    exact h (1 : Int32) M18 hG17 F19 (by decide) (by decide)
end
section
theorem tg_143 {M M1 : mm_M} (F : FR (fun a i : Nat => a = 1 ∧ 5 ≤ i ∨ 3 ≤ a ∧ a ≤ 5 ∨ a = 67 ∨ a = 72) M M1) : ∀ a i : Nat, (a = 68 ∨ a = 69 ∨ a = 73 ∨ a = 74) → M1.2.1 a i = M.2.1 a i := fun a i z => F_n F (show ¬ (a = 1 ∧ 5 ≤ i ∨ 3 ≤ a ∧ a ≤ 5 ∨ a = 67 ∨ a = 72) by omega) rfl
theorem tg_144 {M M1 : mm_M} (F : FR (fun a i : Nat => a = 1 ∧ 5 ≤ i ∨ 3 ≤ a ∧ a ≤ 5) M M1) : ∀ a i : Nat, (a = 68 ∨ a = 69 ∨ a = 73 ∨ a = 74) → M1.2.1 a i = M.2.1 a i := fun a i z => F_n F (show ¬ (a = 1 ∧ 5 ≤ i ∨ 3 ≤ a ∧ a ≤ 5) by omega) rfl
theorem tg_145 : ∀ a i : Nat, (a = 1 ∧ 5 ≤ i ∨ 3 ≤ a ∧ a ≤ 5) → (a = 1 ∧ 5 ≤ i ∨ 3 ≤ a ∧ a ≤ 5 ∨ a = 67 ∨ a = 72) := fun a i z => by omega
theorem tg_146 : ∀ a i : Nat, (a = 1 ∧ 5 ≤ i ∨ 3 ≤ a ∧ a ≤ 5 ∨ a = 67 ∨ a = 72) → (a = 1 ∧ 5 ≤ i ∨ 3 ≤ a ∧ a ≤ 5 ∨ 67 ≤ a ∧ a ≤ 76) := fun a i z => by omega
theorem tg_147 : ∀ a i : Nat, (a < 0) → (a = 1 ∧ 5 ≤ i ∨ 3 ≤ a ∧ a ≤ 5 ∨ 67 ≤ a ∧ a ≤ 76) := fun a i z => by omega
theorem tg_148 : ∀ a i : Nat, (67 ≤ a ∧ a ≤ 76) → (a = 1 ∧ 5 ≤ i ∨ 3 ≤ a ∧ a ≤ 5 ∨ 67 ≤ a ∧ a ≤ 76) := fun a i z => by omega
theorem tg_149 : ∀ a i : Nat, (a = 1 ∧ 5 ≤ i ∨ 3 ≤ a ∧ a ≤ 5) → (a = 1 ∧ 5 ≤ i ∨ 3 ≤ a ∧ a ≤ 5 ∨ 67 ≤ a ∧ a ≤ 76) := fun a i z => by omega
theorem tg_150 : ∀ a i : Nat, (a = 1 ∧ 5 ≤ i ∨ 3 ≤ a ∧ a ≤ 5 ∨ 67 ≤ a ∧ a ≤ 76) → (a = 1 ∧ 5 ≤ i ∨ 3 ≤ a ∧ a ≤ 5 ∨ 67 ≤ a ∧ a ≤ 76) := fun a i z => by omega
theorem tg_151 : ∀ a i : Nat, (a = 68 ∨ a = 69 ∨ a = 73 ∨ a = 74) → ¬ (a = 1 ∧ i = 11) := fun a i z => by omega
theorem tg_152 : ∀ a i : Nat, (a = 68 ∨ a = 69 ∨ a = 73 ∨ a = 74) → ¬ (a = 1 ∧ i = 10) := fun a i z => by omega
set_option maxRecDepth 4000 in
set_option maxHeartbeats 0 in
theorem C_64 {X : mm_X} {d : Nat} {M : mm_M} {Q : Option Value → mm_M → Prop} {q : Nat} {k : Int32} {f : Int32} {s : Int32} (hX : g_X X) (hd : 0 ≤ d) (hG : g_G M) (hq : q = 67 ∨ q = 72) (q1 : 0 ≤ k.toInt) (q2 : k.toInt ≤ 4) (q3 : 0 ≤ f.toInt) (q4 : f.toInt ≤ 11) (q5 : k.toInt = 0 → f.toInt ≤ 7) (q6 : QI M) (h : ∀ (M1 : mm_M), g_G M1 → FR md_q M M1 → QI M1 → Q (none) M1) : mm_T X d 64 0 [.ref q, .int k, .int f, .int s] [] M Q := by
  have F0 : FR md_q M M := FR.rf
  refine to_an (pc := 0) rw_64_0 rfl ?_
  have b_1 := g_b hG (a := q) (i := 5) (lo := 0) (hi := 40) (by rcases hq with rfl | rfl <;> rfl) (by rcases hq with rfl | rfl <;> rfl)
  refine tt_gI (pc := 1) rw_64_1 (g_o hG (by rcases hq with rfl | rfl <;> rfl)) (v := (M.2.1 q 5)) rfl (to_c (pc := 4) rw_64_4 (x := (40 : Int32)) rfl rfl (b_cge (pc := 6) rw_64_6 (A := (M.2.1 q 5).toInt) (B := 40) rfl rfl (fun h2 => ?_) (fun h2 => ?_)))
  · refine to_rv (pc := 49) rw_64_49 ?_
    exact h M hG F0 q6
  · refine to_an (pc := 9) rw_64_9 rfl (s_gR (pc := 10) rw_64_10 hG (by rcases hq with rfl | rfl <;> rfl) (v := (q + 1)) (by rcases hq with rfl | rfl <;> rfl) (to_an (pc := 13) rw_64_13 rfl (tt_gI (pc := 14) rw_64_14 (g_o hG (by rcases hq with rfl | rfl <;> rfl)) (v := (M.2.1 q 5)) rfl (to_in (pc := 17) rw_64_17 rfl (s_ias (pc := 18) rw_64_18 hG (by rcases hq with rfl | rfl <;> rfl) (n := 40) (by rcases hq with rfl | rfl <;> rfl) (A := (M.2.1 q 5).toInt) rfl (by omega) (by omega) (fun M4 W3 => ?_))))))
    have hG5 := g_w hG W3 (A := k.toInt) rfl (lo := 0) (hi := 4) (by rcases hq with rfl | rfl <;> rfl) (by rcases hq with rfl | rfl <;> rfl) (by omega) (by omega)
    have F6 := FR.w F0 W3 (show 67 ≤ (q + 1) ∧ (q + 1) ≤ 76 by omega)
    refine to_an (pc := 19) rw_64_19 rfl (s_gR (pc := 20) rw_64_20 hG5 (by rcases hq with rfl | rfl <;> rfl) (v := (q + 2)) (by rcases hq with rfl | rfl <;> rfl) (to_an (pc := 23) rw_64_23 rfl ?_))
    have c_7 : M4.2.1 q 5 = (M.2.1 q 5) := (W_n W3 (by omega) rfl)
    refine tt_gI (pc := 24) rw_64_24 (g_o hG5 (by rcases hq with rfl | rfl <;> rfl)) (v := (M.2.1 q 5)) c_7 (to_in (pc := 27) rw_64_27 rfl (s_ias (pc := 28) rw_64_28 hG5 (by rcases hq with rfl | rfl <;> rfl) (n := 40) (by rcases hq with rfl | rfl <;> rfl) (A := (M.2.1 q 5).toInt) rfl (by omega) (by omega) (fun M9 W8 => ?_)))
    have hG10 := g_w hG5 W8 (A := f.toInt) rfl (lo := 0) (hi := 11) (by rcases hq with rfl | rfl <;> rfl) (by rcases hq with rfl | rfl <;> rfl) (by omega) (by omega)
    have F11 := FR.w F6 W8 (show 67 ≤ (q + 2) ∧ (q + 2) ≤ 76 by omega)
    have j_12 := QI_k q6 hq W3 W8 q5
    refine to_an (pc := 29) rw_64_29 rfl (s_gR (pc := 30) rw_64_30 hG10 (by rcases hq with rfl | rfl <;> rfl) (v := (q + 3)) (by rcases hq with rfl | rfl <;> rfl) (to_an (pc := 33) rw_64_33 rfl ?_))
    have c_13 : M9.2.1 q 5 = (M.2.1 q 5) := (W_n W8 (by omega) c_7)
    refine tt_gI (pc := 34) rw_64_34 (g_o hG10 (by rcases hq with rfl | rfl <;> rfl)) (v := (M.2.1 q 5)) c_13 (to_in (pc := 37) rw_64_37 rfl (s_ias (pc := 38) rw_64_38 hG10 (by rcases hq with rfl | rfl <;> rfl) (n := 40) (by rcases hq with rfl | rfl <;> rfl) (A := (M.2.1 q 5).toInt) rfl (by omega) (by omega) (fun M15 W14 => ?_)))
    have hG16 := g_wf hG10 W14 (by rcases hq with rfl | rfl <;> rfl) (by rcases hq with rfl | rfl <;> rfl) (by omega)
    have F17 := FR.w F11 W14 (show 67 ≤ (q + 3) ∧ (q + 3) ≤ 76 by omega)
    refine to_an (pc := 39) rw_64_39 rfl (to_dupr (pc := 40) rw_64_40 ?_)
    have c_18 : M15.2.1 q 5 = (M.2.1 q 5) := (W_n W14 (by omega) c_13)
    refine tt_gI (pc := 41) rw_64_41 (g_o hG16 (by rcases hq with rfl | rfl <;> rfl)) (v := (M.2.1 q 5)) c_18 (to_c (pc := 44) rw_64_44 (x := (1 : Int32)) rfl rfl (s_add (pc := 45) rw_64_45 (A := (M.2.1 q 5).toInt) (B := 1) rfl rfl (by omega) (fun v19 e20 => s_pI (pc := 46) rw_64_46 hG16 (by rcases hq with rfl | rfl <;> rfl) (fun M22 W21 => ?_))))
    have hG23 := g_w hG16 W21 (A := v19.toInt) rfl (lo := 0) (hi := 40) (by rcases hq with rfl | rfl <;> rfl) (by rcases hq with rfl | rfl <;> rfl) (by omega) (by omega)
    have F24 := FR.w F17 W21 (show 67 ≤ q ∧ q ≤ 76 by omega)
    refine to_rv (pc := 49) rw_64_49 ?_
    have j_25 := (QI_f (fun a i z => W_n W21 (by omega) rfl) (QI_f (fun a i z => W_n W14 (by omega) rfl) j_12))
    exact h M22 hG23 F24 j_25
set_option maxRecDepth 4000 in
set_option maxHeartbeats 0 in
theorem C_63 {X : mm_X} {d : Nat} {M : mm_M} {Q : Option Value → mm_M → Prop} {q : Nat} (hX : g_X X) (hd : 1 ≤ d) (hG : g_G M) (hq : q = 67 ∨ q = 72) (h : ∀ (r : Int32) (M1 : mm_M), g_G M1 → FR md_qk M M1 → (0 ≤ r.toInt) → (r.toInt ≤ 1) → Q (some (.int r)) M1) : mm_T X d 63 0 [.ref q, .ref 1] [] M Q := by
  have F0 : FR md_qk M M := FR.rf
  refine to_an (pc := 0) rw_63_0 rfl ?_
  have b_1 := g_b hG (a := q) (i := 4) (lo := 0) (hi := 40) (by rcases hq with rfl | rfl <;> rfl) (by rcases hq with rfl | rfl <;> rfl)
  refine tt_gI (pc := 1) rw_63_1 (g_o hG (by rcases hq with rfl | rfl <;> rfl)) (v := (M.2.1 q 4)) rfl (to_c (pc := 4) rw_63_4 (x := (40 : Int32)) rfl rfl (b_clt (pc := 6) rw_63_6 (A := (M.2.1 q 4).toInt) (B := 40) rfl rfl (fun h2 => ?_) (fun h2 => ?_)))
  · refine to_an (pc := 15) rw_63_15 rfl (to_dupr (pc := 16) rw_63_16 (tt_gI (pc := 17) rw_63_17 (g_o hG (by rcases hq with rfl | rfl <;> rfl)) (v := (M.2.1 q 4)) rfl (to_c (pc := 20) rw_63_20 (x := (1 : Int32)) rfl rfl (s_add (pc := 21) rw_63_21 (A := (M.2.1 q 4).toInt) (B := 1) rfl rfl (by omega) (fun v3 e4 => s_pI (pc := 22) rw_63_22 hG (by rcases hq with rfl | rfl <;> rfl) (fun M6 W5 => ?_))))))
    have hG7 := g_w hG W5 (A := v3.toInt) rfl (lo := 0) (hi := 40) (by rcases hq with rfl | rfl <;> rfl) (by rcases hq with rfl | rfl <;> rfl) (by omega) (by omega)
    have F8 := FR.w F0 W5 (show q = 1 ∧ 5 ≤ 4 ∨ 3 ≤ q ∧ q ≤ 5 ∨ q = 67 ∨ q = 72 by omega)
    refine to_an (pc := 25) rw_63_25 rfl (s_v (pc := 26) rw_63_26 (dp0 hd (by decide)) (ls0 := [.ref 1]) rfl (Nat.le_of_ble_eq_true rfl) (Nat.le_of_ble_eq_true rfl) rfl (to_rc rfl rfl rfl (g_o hG7 rfl)) rfl (C_83 hX (dp1 hd (by decide)) hG7  (fun M11 hG10 F9 => ?_)))
    have F12 := FR.c F8 F9 tg_145
    refine to_c (pc := 29) rw_63_29 (x := (1 : Int32)) rfl rfl (s_r1 (pc := 30) rw_63_30 (A := 1) rfl (by decide) ?_)
    have k_13 : (1 : Int32).toInt = 1 := rfl
    exact h (1 : Int32) M11 hG10 F12 (by decide) (by decide)
  · refine to_an (pc := 9) rw_63_9 rfl (to_c (pc := 10) rw_63_10 (x := (2 : Int32)) rfl rfl (s_v (pc := 11) rw_63_11 (dp0 hd (by decide)) (ls0 := [.ref 1, .int (2 : Int32)]) rfl (Nat.le_of_ble_eq_true rfl) (Nat.le_of_ble_eq_true rfl) rfl (to_rc rfl rfl rfl (g_o hG rfl)) rfl (to_an (pc := 0) rw_84_0 rfl (to_in (pc := 1) rw_84_1 rfl (s_pI (pc := 2) rw_84_2 hG rfl (fun M15 W14 => ?_))))))
    have hG16 := g_wf hG W14 rfl rfl (by decide)
    have F17 := FR.w F0 W14 (show 1 = 1 ∧ 5 ≤ 10 ∨ 3 ≤ 1 ∧ 1 ≤ 5 ∨ 1 = 67 ∨ 1 = 72 by decide)
    refine to_an (pc := 5) rw_84_5 rfl (to_an (pc := 6) rw_84_6 rfl ?_)
    have c_18 : M15.2.1 1 9 = (M.2.1 1 9) := (W_n W14 (by decide) rfl)
    refine tt_gI (pc := 7) rw_84_7 (g_o hG16 rfl) (v := (M.2.1 1 9)) c_18 (s_pI (pc := 10) rw_84_10 hG16 rfl (fun M20 W19 => ?_))
    have hG21 := g_wf hG16 W19 rfl rfl (by decide)
    have F22 := FR.w F17 W19 (show 1 = 1 ∧ 5 ≤ 11 ∨ 3 ≤ 1 ∧ 1 ≤ 5 ∨ 1 = 67 ∨ 1 = 72 by decide)
    refine to_c (pc := 13) rw_84_13 (x := (0 : Int32)) rfl rfl (s_r1 (pc := 14) rw_84_14 (A := 0) rfl (by decide) (s_r1 (pc := 14) rw_63_14 (A := 0) rfl (by decide) ?_))
    have k_23 : (0 : Int32).toInt = 0 := rfl
    exact h (0 : Int32) M20 hG21 F22 (by decide) (by decide)
set_option maxRecDepth 4000 in
set_option maxHeartbeats 0 in
theorem C_62 {X : mm_X} {d : Nat} {M : mm_M} {Q : Option Value → mm_M → Prop} {q : Nat} {p : Nat} (hX : g_X X) (hd : 2 ≤ d) (hG : g_G M) (hq : q = 67 ∨ q = 72) (hp : p = 49 ∨ p = 58) (q1 : QI M) (h : ∀ (r : Int32) (M1 : mm_M), g_G M1 → FR md_qt M M1 → (0 ≤ r.toInt) → (r.toInt ≤ 1) → QI M1 → Q (some (.int r)) M1) : mm_T X d 62 0 [.ref q, .ref 1, .ref p, .null, .null, .null, .null] [] M Q := by
  have F0 : FR md_qt M M := FR.rf
  refine to_an (pc := 0) rw_62_0 rfl (tt_gI (pc := 1) rw_62_1 (g_o hG rfl) (v := (M.2.1 1 7)) rfl (to_c (pc := 4) rw_62_4 (x := (3 : Int32)) rfl rfl (b_ceq (pc := 5) rw_62_5 (A := (M.2.1 1 7).toInt) (B := 3) rfl rfl (fun h1 => ?_) (fun h1 => ?_))))
  · refine to_an (pc := 14) rw_62_14 rfl (tt_gI (pc := 15) rw_62_15 (g_o hG rfl) (v := (M.2.1 1 8)) rfl (to_isn (pc := 18) rw_62_18 (ls2 := [.ref q, .ref 1, .ref p, .int (M.2.1 1 8), .null, .null, .null]) rfl rfl (to_an (pc := 19) rw_62_19 rfl (tt_gI (pc := 20) rw_62_20 (g_o hG rfl) (v := (M.2.1 1 9)) rfl (to_is (pc := 23) rw_62_23 (ls2 := [.ref q, .ref 1, .ref p, .int (M.2.1 1 8), .int (M.2.1 1 9), .null, .null]) rfl rfl (to_an (pc := 25) rw_62_25 rfl (to_an (pc := 26) rw_62_26 rfl (s_v (pc := 27) rw_62_27 (dp0 hd (by decide)) (ls0 := [.ref q, .ref 1]) rfl (Nat.le_of_ble_eq_true rfl) (Nat.le_of_ble_eq_true rfl) rfl (to_rc rfl rfl rfl (g_o hG (by rcases hq with rfl | rfl <;> rfl))) rfl (C_63 hX (dp1 hd (by decide)) hG hq (q := q) (fun r2 M7 hG4 F3 p_5 p_6 => ?_))))))))))
    have F8 := FR.c F0 F3 tg_146
    refine b_ine (pc := 30) rw_62_30 (A := r2.toInt) rfl (fun h9 => ?_) (fun h9 => ?_)
    · refine to_an (pc := 35) rw_62_35 rfl (tt_gI (pc := 36) rw_62_36 (g_o hG4 rfl) (v := (M7.2.1 1 7)) rfl (to_c (pc := 39) rw_62_39 (x := (61 : Int32)) rfl rfl (b_cne (pc := 41) rw_62_41 (A := (M7.2.1 1 7).toInt) (B := 61) rfl rfl (fun h10 => ?_) (fun h10 => ?_))))
      · refine to_c (pc := 48) rw_62_48 (x := (0 : Int32)) rfl rfl (to_is (pc := 49) rw_62_49 (ls2 := [.ref q, .ref 1, .ref p, .int (M.2.1 1 8), .int (M.2.1 1 9), .int (0 : Int32), .null]) rfl rfl (to_i (pc := 51) rw_62_51 rfl (b_ieq_t (pc := 53) rw_62_53 (A := 0) rfl (by decide) (to_an (pc := 64) rw_62_64 rfl (to_in (pc := 65) rw_62_65 rfl (s_v (pc := 66) rw_62_66 (dp0 hd (by decide)) (ls0 := [.ref p, .int (M.2.1 1 8)]) rfl (Nat.le_of_ble_eq_true rfl) (Nat.le_of_ble_eq_true rfl) rfl (to_rc rfl rfl rfl (g_o hG4 (by rcases hp with rfl | rfl <;> rfl))) rfl (to_an (pc := 0) rw_53_0 rfl (s_gR (pc := 1) rw_53_1 hG4 (by rcases hp with rfl | rfl <;> rfl) (v := (p + 6)) (by rcases hp with rfl | rfl <;> rfl) (to_an (pc := 4) rw_53_4 rfl ?_)))))))))
        have c_11 : M7.2.1 p 3 = (M.2.1 p 3) := (F_n F3 (show ¬ (p = 1 ∧ 5 ≤ 3 ∨ 3 ≤ p ∧ p ≤ 5 ∨ p = 67 ∨ p = 72) by omega) rfl)
        have b_12 := g_b hG (a := p) (i := 3) (lo := 0) (hi := 12) (by rcases hp with rfl | rfl <;> rfl) (by rcases hp with rfl | rfl <;> rfl)
        refine tt_gI (pc := 5) rw_53_5 (g_o hG4 (by rcases hp with rfl | rfl <;> rfl)) (v := (M.2.1 p 3)) c_11 (to_in (pc := 8) rw_53_8 rfl (s_s (pc := 9) rw_53_9 (dp1 hd (by decide)) (ls0 := [.ref (p + 6), .int (M.2.1 p 3), .int (M.2.1 1 8), .null]) rfl (Nat.le_of_ble_eq_true rfl) (Nat.le_of_ble_eq_true rfl) rfl (to_rcs rfl rfl) rfl (C_54g hX (dp2 hd (by decide)) hG4 (by omega) (g := (p + 6)) (s := (M.2.1 p 3)) (x := (M.2.1 1 8)) (fun r13 M18 hG15 F14 p_16 p_17 => ?_))))
        have F19 := FR.c F8 F14 tg_147
        refine to_r0 (pc := 12) rw_53_12 (to_is (pc := 69) rw_62_69 (ls2 := [.ref q, .ref 1, .ref p, .int (M.2.1 1 8), .int (M.2.1 1 9), .int (0 : Int32), .int r13]) rfl rfl (to_i (pc := 71) rw_62_71 rfl (to_c (pc := 73) rw_62_73 (x := (-1 : Int32)) rfl rfl (b_ceq (pc := 74) rw_62_74 (A := r13.toInt) (B := -1) rfl rfl (fun h20 => ?_) (fun h20 => ?_)))))
        · refine to_an (pc := 91) rw_62_91 rfl (to_c (pc := 92) rw_62_92 (x := (4 : Int32)) rfl rfl (to_i (pc := 93) rw_62_93 rfl (s_v (pc := 95) rw_62_95 (dp0 hd (by decide)) (ls0 := [.ref 1, .int (4 : Int32), .int (M.2.1 1 9)]) rfl (Nat.le_of_ble_eq_true rfl) (Nat.le_of_ble_eq_true rfl) rfl (to_rc rfl rfl rfl (g_o hG15 rfl)) rfl (to_an (pc := 0) rw_85_0 rfl (to_in (pc := 1) rw_85_1 rfl (s_pI (pc := 2) rw_85_2 hG15 rfl (fun M22 W21 => ?_)))))))
          have hG23 := g_wf hG15 W21 rfl rfl (by decide)
          have F24 := FR.w F19 W21 (show 1 = 1 ∧ 5 ≤ 10 ∨ 3 ≤ 1 ∧ 1 ≤ 5 ∨ 67 ≤ 1 ∧ 1 ≤ 76 by decide)
          refine to_an (pc := 5) rw_85_5 rfl (to_in (pc := 6) rw_85_6 rfl (s_pI (pc := 7) rw_85_7 hG23 rfl (fun M26 W25 => ?_)))
          have hG27 := g_wf hG23 W25 rfl rfl (by decide)
          have F28 := FR.w F24 W25 (show 1 = 1 ∧ 5 ≤ 11 ∨ 3 ≤ 1 ∧ 1 ≤ 5 ∨ 67 ≤ 1 ∧ 1 ≤ 76 by decide)
          refine to_c (pc := 10) rw_85_10 (x := (0 : Int32)) rfl rfl (s_r1 (pc := 11) rw_85_11 (A := 0) rfl (by decide) (s_r1 (pc := 98) rw_62_98 (A := 0) rfl (by decide) ?_))
          have k_29 : (0 : Int32).toInt = 0 := rfl
          have j_30 := (QI_f (fun a i z => W_n W25 (tg_151 a i z) rfl) (QI_f (fun a i z => W_n W21 (tg_152 a i z) rfl) (QI_f (tg_100 F14) (QI_f (tg_143 F3) q1))))
          exact h (0 : Int32) M26 hG27 F28 (by decide) (by decide) j_30
        · refine to_i (pc := 77) rw_62_77 rfl (b_ieq_t (pc := 79) rw_62_79 (A := 0) rfl (by decide) (to_i (pc := 99) rw_62_99 rfl (b_ine_f (pc := 101) rw_62_101 (A := 0) rfl (by decide) (to_an (pc := 104) rw_62_104 rfl (to_c (pc := 105) rw_62_105 (x := (1 : Int32)) rfl rfl (to_i (pc := 106) rw_62_106 rfl (to_c (pc := 108) rw_62_108 (x := (0 : Int32)) rfl rfl (s_v (pc := 109) rw_62_109 (dp0 hd (by decide)) (ls0 := [.ref q, .int (1 : Int32), .int r13, .int (0 : Int32)]) rfl (Nat.le_of_ble_eq_true rfl) (Nat.le_of_ble_eq_true rfl) rfl (to_rc rfl rfl rfl (g_o hG15 (by rcases hq with rfl | rfl <;> rfl))) rfl ?_))))))))
          have k_31 : (1 : Int32).toInt = 1 := rfl
          have k_32 : (0 : Int32).toInt = 0 := rfl
          have j_33 := (QI_f (tg_100 F14) (QI_f (tg_143 F3) q1))
          refine C_64 hX (dp1 hd (by decide)) hG15 hq (by omega) (by omega) (by omega) (by omega) (by omega) j_33 (q := q) (k := (1 : Int32)) (f := r13) (s := (0 : Int32)) (fun M37 hG35 F34 p_36 => ?_)
          have F38 := FR.c F19 F34 tg_148
          refine to_c (pc := 112) rw_62_112 (x := (1 : Int32)) rfl rfl (s_r1 (pc := 113) rw_62_113 (A := 1) rfl (by decide) ?_)
          exact h (1 : Int32) M37 hG35 F38 (by decide) (by decide) p_36
      · refine to_c (pc := 44) rw_62_44 (x := (1 : Int32)) rfl rfl (to_go (pc := 45) rw_62_45 (to_is (pc := 49) rw_62_49 (ls2 := [.ref q, .ref 1, .ref p, .int (M.2.1 1 8), .int (M.2.1 1 9), .int (1 : Int32), .null]) rfl rfl (to_i (pc := 51) rw_62_51 rfl (b_ieq_f (pc := 53) rw_62_53 (A := 1) rfl (by decide) (to_an (pc := 56) rw_62_56 rfl (to_in (pc := 57) rw_62_57 rfl (s_v (pc := 58) rw_62_58 (dp0 hd (by decide)) (ls0 := [.ref p, .int (M.2.1 1 8)]) rfl (Nat.le_of_ble_eq_true rfl) (Nat.le_of_ble_eq_true rfl) rfl (to_rc rfl rfl rfl (g_o hG4 (by rcases hp with rfl | rfl <;> rfl))) rfl (to_an (pc := 0) rw_52_0 rfl (s_gR (pc := 1) rw_52_1 hG4 (by rcases hp with rfl | rfl <;> rfl) (v := (p + 1)) (by rcases hp with rfl | rfl <;> rfl) (to_an (pc := 4) rw_52_4 rfl ?_))))))))))
        have c_39 : M7.2.1 p 2 = (M.2.1 p 2) := (F_n F3 (show ¬ (p = 1 ∧ 5 ≤ 2 ∨ 3 ≤ p ∧ p ≤ 5 ∨ p = 67 ∨ p = 72) by omega) rfl)
        have b_40 := g_b hG (a := p) (i := 2) (lo := 0) (hi := 8) (by rcases hp with rfl | rfl <;> rfl) (by rcases hp with rfl | rfl <;> rfl)
        refine tt_gI (pc := 5) rw_52_5 (g_o hG4 (by rcases hp with rfl | rfl <;> rfl)) (v := (M.2.1 p 2)) c_39 (to_in (pc := 8) rw_52_8 rfl (s_s (pc := 9) rw_52_9 (dp1 hd (by decide)) (ls0 := [.ref (p + 1), .int (M.2.1 p 2), .int (M.2.1 1 8), .null]) rfl (Nat.le_of_ble_eq_true rfl) (Nat.le_of_ble_eq_true rfl) rfl (to_rcs rfl rfl) rfl (C_54f hX (dp2 hd (by decide)) hG4 (by omega) (f := (p + 1)) (s := (M.2.1 p 2)) (x := (M.2.1 1 8)) (fun r41 M46 hG43 F42 p_44 p_45 => ?_))))
        have F47 := FR.c F8 F42 tg_147
        refine to_r0 (pc := 12) rw_52_12 (to_go (pc := 61) rw_62_61 (to_is (pc := 69) rw_62_69 (ls2 := [.ref q, .ref 1, .ref p, .int (M.2.1 1 8), .int (M.2.1 1 9), .int (1 : Int32), .int r41]) rfl rfl (to_i (pc := 71) rw_62_71 rfl (to_c (pc := 73) rw_62_73 (x := (-1 : Int32)) rfl rfl (b_ceq (pc := 74) rw_62_74 (A := r41.toInt) (B := -1) rfl rfl (fun h48 => ?_) (fun h48 => ?_))))))
        · refine to_an (pc := 91) rw_62_91 rfl (to_c (pc := 92) rw_62_92 (x := (4 : Int32)) rfl rfl (to_i (pc := 93) rw_62_93 rfl (s_v (pc := 95) rw_62_95 (dp0 hd (by decide)) (ls0 := [.ref 1, .int (4 : Int32), .int (M.2.1 1 9)]) rfl (Nat.le_of_ble_eq_true rfl) (Nat.le_of_ble_eq_true rfl) rfl (to_rc rfl rfl rfl (g_o hG43 rfl)) rfl (to_an (pc := 0) rw_85_0 rfl (to_in (pc := 1) rw_85_1 rfl (s_pI (pc := 2) rw_85_2 hG43 rfl (fun M50 W49 => ?_)))))))
          have hG51 := g_wf hG43 W49 rfl rfl (by decide)
          have F52 := FR.w F47 W49 (show 1 = 1 ∧ 5 ≤ 10 ∨ 3 ≤ 1 ∧ 1 ≤ 5 ∨ 67 ≤ 1 ∧ 1 ≤ 76 by decide)
          refine to_an (pc := 5) rw_85_5 rfl (to_in (pc := 6) rw_85_6 rfl (s_pI (pc := 7) rw_85_7 hG51 rfl (fun M54 W53 => ?_)))
          have hG55 := g_wf hG51 W53 rfl rfl (by decide)
          have F56 := FR.w F52 W53 (show 1 = 1 ∧ 5 ≤ 11 ∨ 3 ≤ 1 ∧ 1 ≤ 5 ∨ 67 ≤ 1 ∧ 1 ≤ 76 by decide)
          refine to_c (pc := 10) rw_85_10 (x := (0 : Int32)) rfl rfl (s_r1 (pc := 11) rw_85_11 (A := 0) rfl (by decide) (s_r1 (pc := 98) rw_62_98 (A := 0) rfl (by decide) ?_))
          have k_57 : (0 : Int32).toInt = 0 := rfl
          have j_58 := (QI_f (fun a i z => W_n W53 (tg_151 a i z) rfl) (QI_f (fun a i z => W_n W49 (tg_152 a i z) rfl) (QI_f (tg_100 F42) (QI_f (tg_143 F3) q1))))
          exact h (0 : Int32) M54 hG55 F56 (by decide) (by decide) j_58
        · refine to_i (pc := 77) rw_62_77 rfl (b_ieq_f (pc := 79) rw_62_79 (A := 1) rfl (by decide) (to_an (pc := 82) rw_62_82 rfl (to_i (pc := 83) rw_62_83 rfl (s_v (pc := 85) rw_62_85 (dp0 hd (by decide)) (ls0 := [.ref p, .int r41]) rfl (Nat.le_of_ble_eq_true rfl) (Nat.le_of_ble_eq_true rfl) rfl (to_rc rfl rfl rfl (g_o hG43 (by rcases hp with rfl | rfl <;> rfl))) rfl (to_an (pc := 0) rw_45_0 rfl (s_gR (pc := 1) rw_45_1 hG43 (by rcases hp with rfl | rfl <;> rfl) (v := (p + 2)) (by rcases hp with rfl | rfl <;> rfl) (to_in (pc := 4) rw_45_4 rfl (s_ial (pc := 5) rw_45_5 hG43 (by rcases hp with rfl | rfl <;> rfl) (n := 8) (by rcases hp with rfl | rfl <;> rfl) (by rcases hp with rfl | rfl <;> rfl) (A := r41.toInt) rfl (by omega) (by omega) (lo := 0) (hi := 3) (by rcases hp with rfl | rfl <;> rfl) (by rcases hp with rfl | rfl <;> rfl) (fun v59 w_60 _ _ => to_c (pc := 6) rw_45_6 (x := (3 : Int32)) rfl rfl (b_cne (pc := 7) rw_45_7 (A := v59.toInt) (B := 3) rfl rfl (fun h61 => ?_) (fun h61 => ?_)))))))))))
          · refine to_c (pc := 14) rw_45_14 (x := (0 : Int32)) rfl rfl (s_r1 (pc := 15) rw_45_15 (A := 0) rfl (by decide) (b_ieq_t (pc := 88) rw_62_88 (A := 0) rfl (by decide) (to_i (pc := 99) rw_62_99 rfl (b_ine_t (pc := 101) rw_62_101 (A := 1) rfl (by decide) (to_an (pc := 114) rw_62_114 rfl (s_v (pc := 115) rw_62_115 (dp0 hd (by decide)) (ls0 := [.ref 1]) rfl (Nat.le_of_ble_eq_true rfl) (Nat.le_of_ble_eq_true rfl) rfl (to_rc rfl rfl rfl (g_o hG43 rfl)) rfl (C_83 hX (dp1 hd (by decide)) hG43  (fun M64 hG63 F62 => ?_))))))))
            have F65 := FR.c F47 F62 tg_149
            refine to_an (pc := 118) rw_62_118 rfl (to_c (pc := 119) rw_62_119 (x := (0 : Int32)) rfl rfl (to_an (pc := 120) rw_62_120 rfl (s_gR (pc := 121) rw_62_121 hG63 (by rcases hp with rfl | rfl <;> rfl) (v := (p + 5)) (by rcases hp with rfl | rfl <;> rfl) (to_i (pc := 124) rw_62_124 rfl (s_ial (pc := 126) rw_62_126 hG63 (by rcases hp with rfl | rfl <;> rfl) (n := 8) (by rcases hp with rfl | rfl <;> rfl) (by rcases hp with rfl | rfl <;> rfl) (A := r41.toInt) rfl (by omega) (by omega) (lo := 0) (hi := 24) (by rcases hp with rfl | rfl <;> rfl) (by rcases hp with rfl | rfl <;> rfl) (fun v66 w_67 _ _ => to_c (pc := 127) rw_62_127 (x := (1 : Int32)) rfl rfl (s_sub (pc := 128) rw_62_128 (A := v66.toInt) (B := 1) rfl rfl (by omega) (fun v68 e69 => s_v (pc := 129) rw_62_129 (dp0 hd (by decide)) (ls0 := [.ref 1, .int (0 : Int32), .int v68]) rfl (Nat.le_of_ble_eq_true rfl) (Nat.le_of_ble_eq_true rfl) rfl (to_rc rfl rfl rfl (g_o hG63 rfl)) rfl (to_an (pc := 0) rw_88_0 rfl (tt_gI (pc := 1) rw_88_1 (g_o hG63 rfl) (v := (M64.2.1 1 7)) rfl (to_c (pc := 4) rw_88_4 (x := (2 : Int32)) rfl rfl ?_)))))))))))
            refine b_ceq (pc := 5) rw_88_5 (A := (M64.2.1 1 7).toInt) (B := 2) rfl rfl (fun h70 => ?_) (fun h70 => ?_)
            · refine to_an (pc := 14) rw_88_14 rfl (tt_gI (pc := 15) rw_88_15 (g_o hG63 rfl) (v := (M64.2.1 1 8)) rfl (to_in (pc := 18) rw_88_18 rfl (b_clt (pc := 19) rw_88_19 (A := (M64.2.1 1 8).toInt) (B := 0) rfl rfl (fun h71 => ?_) (fun h71 => ?_))))
              · refine to_an (pc := 30) rw_88_30 rfl (to_c (pc := 31) rw_88_31 (x := (2 : Int32)) rfl rfl (s_v (pc := 32) rw_88_32 (dp1 hd (by decide)) (ls0 := [.ref 1, .int (2 : Int32)]) rfl (Nat.le_of_ble_eq_true rfl) (Nat.le_of_ble_eq_true rfl) rfl (to_rc rfl rfl rfl (g_o hG63 rfl)) rfl (to_an (pc := 0) rw_84_0 rfl (to_in (pc := 1) rw_84_1 rfl (s_pI (pc := 2) rw_84_2 hG63 rfl (fun M73 W72 => ?_))))))
                have hG74 := g_wf hG63 W72 rfl rfl (by decide)
                have F75 := FR.w F65 W72 (show 1 = 1 ∧ 5 ≤ 10 ∨ 3 ≤ 1 ∧ 1 ≤ 5 ∨ 67 ≤ 1 ∧ 1 ≤ 76 by decide)
                refine to_an (pc := 5) rw_84_5 rfl (to_an (pc := 6) rw_84_6 rfl ?_)
                have c_76 : M73.2.1 1 9 = (M64.2.1 1 9) := (W_n W72 (by decide) rfl)
                refine tt_gI (pc := 7) rw_84_7 (g_o hG74 rfl) (v := (M64.2.1 1 9)) c_76 (s_pI (pc := 10) rw_84_10 hG74 rfl (fun M78 W77 => ?_))
                have hG79 := g_wf hG74 W77 rfl rfl (by decide)
                have F80 := FR.w F75 W77 (show 1 = 1 ∧ 5 ≤ 11 ∨ 3 ≤ 1 ∧ 1 ≤ 5 ∨ 67 ≤ 1 ∧ 1 ≤ 76 by decide)
                refine to_c (pc := 13) rw_84_13 (x := (0 : Int32)) rfl rfl (s_r1 (pc := 14) rw_84_14 (A := 0) rfl (by decide) (b_ieq_t (pc := 35) rw_88_35 (A := 0) rfl (by decide) (to_c (pc := 42) rw_88_42 (x := (0 : Int32)) rfl rfl (s_r1 (pc := 43) rw_88_43 (A := 0) rfl (by decide) (b_ine_f (pc := 132) rw_62_132 (A := 0) rfl (by decide) (to_c (pc := 135) rw_62_135 (x := (0 : Int32)) rfl rfl (s_r1 (pc := 136) rw_62_136 (A := 0) rfl (by decide) ?_)))))))
                have k_81 : (0 : Int32).toInt = 0 := rfl
                have j_82 := (QI_f (fun a i z => W_n W77 (tg_151 a i z) rfl) (QI_f (fun a i z => W_n W72 (tg_152 a i z) rfl) (QI_f (tg_144 F62) (QI_f (tg_100 F42) (QI_f (tg_143 F3) q1)))))
                exact h (0 : Int32) M78 hG79 F80 (by decide) (by decide) j_82
              · refine to_an (pc := 22) rw_88_22 rfl (tt_gI (pc := 23) rw_88_23 (g_o hG63 rfl) (v := (M64.2.1 1 8)) rfl (to_in (pc := 26) rw_88_26 rfl (b_cle (pc := 27) rw_88_27 (A := (M64.2.1 1 8).toInt) (B := v68.toInt) rfl rfl (fun h83 => ?_) (fun h83 => ?_))))
                · refine to_c (pc := 38) rw_88_38 (x := (1 : Int32)) rfl rfl (to_go (pc := 39) rw_88_39 (s_r1 (pc := 43) rw_88_43 (A := 1) rfl (by decide) (b_ine_t (pc := 132) rw_62_132 (A := 1) rfl (by decide) (to_an (pc := 137) rw_62_137 rfl (to_c (pc := 138) rw_62_138 (x := (0 : Int32)) rfl rfl (to_i (pc := 139) rw_62_139 rfl (to_an (pc := 141) rw_62_141 rfl (tt_gI (pc := 142) rw_62_142 (g_o hG63 rfl) (v := (M64.2.1 1 8)) rfl (s_v (pc := 145) rw_62_145 (dp0 hd (by decide)) (ls0 := [.ref q, .int (0 : Int32), .int r41, .int (M64.2.1 1 8)]) rfl (Nat.le_of_ble_eq_true rfl) (Nat.le_of_ble_eq_true rfl) rfl (to_rc rfl rfl rfl (g_o hG63 (by rcases hq with rfl | rfl <;> rfl))) rfl ?_)))))))))
                  have k_84 : (0 : Int32).toInt = 0 := rfl
                  have j_85 := (QI_f (tg_144 F62) (QI_f (tg_100 F42) (QI_f (tg_143 F3) q1)))
                  refine C_64 hX (dp1 hd (by decide)) hG63 hq (by omega) (by omega) (by omega) (by omega) (by omega) j_85 (q := q) (k := (0 : Int32)) (f := r41) (s := (M64.2.1 1 8)) (fun M89 hG87 F86 p_88 => ?_)
                  have F90 := FR.c F65 F86 tg_148
                  refine to_an (pc := 148) rw_62_148 rfl (s_v (pc := 149) rw_62_149 (dp0 hd (by decide)) (ls0 := [.ref 1]) rfl (Nat.le_of_ble_eq_true rfl) (Nat.le_of_ble_eq_true rfl) rfl (to_rc rfl rfl rfl (g_o hG87 rfl)) rfl (C_83 hX (dp1 hd (by decide)) hG87  (fun M93 hG92 F91 => ?_)))
                  have F94 := FR.c F90 F91 tg_149
                  refine to_c (pc := 152) rw_62_152 (x := (1 : Int32)) rfl rfl (s_r1 (pc := 153) rw_62_153 (A := 1) rfl (by decide) ?_)
                  have k_95 : (1 : Int32).toInt = 1 := rfl
                  have j_96 := (QI_f (tg_144 F91) p_88)
                  exact h (1 : Int32) M93 hG92 F94 (by decide) (by decide) j_96
                · refine to_an (pc := 30) rw_88_30 rfl (to_c (pc := 31) rw_88_31 (x := (2 : Int32)) rfl rfl (s_v (pc := 32) rw_88_32 (dp1 hd (by decide)) (ls0 := [.ref 1, .int (2 : Int32)]) rfl (Nat.le_of_ble_eq_true rfl) (Nat.le_of_ble_eq_true rfl) rfl (to_rc rfl rfl rfl (g_o hG63 rfl)) rfl (to_an (pc := 0) rw_84_0 rfl (to_in (pc := 1) rw_84_1 rfl (s_pI (pc := 2) rw_84_2 hG63 rfl (fun M98 W97 => ?_))))))
                  have hG99 := g_wf hG63 W97 rfl rfl (by decide)
                  have F100 := FR.w F65 W97 (show 1 = 1 ∧ 5 ≤ 10 ∨ 3 ≤ 1 ∧ 1 ≤ 5 ∨ 67 ≤ 1 ∧ 1 ≤ 76 by decide)
                  refine to_an (pc := 5) rw_84_5 rfl (to_an (pc := 6) rw_84_6 rfl ?_)
                  have c_101 : M98.2.1 1 9 = (M64.2.1 1 9) := (W_n W97 (by decide) rfl)
                  refine tt_gI (pc := 7) rw_84_7 (g_o hG99 rfl) (v := (M64.2.1 1 9)) c_101 (s_pI (pc := 10) rw_84_10 hG99 rfl (fun M103 W102 => ?_))
                  have hG104 := g_wf hG99 W102 rfl rfl (by decide)
                  have F105 := FR.w F100 W102 (show 1 = 1 ∧ 5 ≤ 11 ∨ 3 ≤ 1 ∧ 1 ≤ 5 ∨ 67 ≤ 1 ∧ 1 ≤ 76 by decide)
                  refine to_c (pc := 13) rw_84_13 (x := (0 : Int32)) rfl rfl (s_r1 (pc := 14) rw_84_14 (A := 0) rfl (by decide) (b_ieq_t (pc := 35) rw_88_35 (A := 0) rfl (by decide) (to_c (pc := 42) rw_88_42 (x := (0 : Int32)) rfl rfl (s_r1 (pc := 43) rw_88_43 (A := 0) rfl (by decide) (b_ine_f (pc := 132) rw_62_132 (A := 0) rfl (by decide) (to_c (pc := 135) rw_62_135 (x := (0 : Int32)) rfl rfl (s_r1 (pc := 136) rw_62_136 (A := 0) rfl (by decide) ?_)))))))
                  have k_106 : (0 : Int32).toInt = 0 := rfl
                  have j_107 := (QI_f (fun a i z => W_n W102 (tg_151 a i z) rfl) (QI_f (fun a i z => W_n W97 (tg_152 a i z) rfl) (QI_f (tg_144 F62) (QI_f (tg_100 F42) (QI_f (tg_143 F3) q1)))))
                  exact h (0 : Int32) M103 hG104 F105 (by decide) (by decide) j_107
            · refine to_an (pc := 8) rw_88_8 rfl (to_c (pc := 9) rw_88_9 (x := (1 : Int32)) rfl rfl (s_v (pc := 10) rw_88_10 (dp1 hd (by decide)) (ls0 := [.ref 1, .int (1 : Int32)]) rfl (Nat.le_of_ble_eq_true rfl) (Nat.le_of_ble_eq_true rfl) rfl (to_rc rfl rfl rfl (g_o hG63 rfl)) rfl (to_an (pc := 0) rw_84_0 rfl (to_in (pc := 1) rw_84_1 rfl (s_pI (pc := 2) rw_84_2 hG63 rfl (fun M109 W108 => ?_))))))
              have hG110 := g_wf hG63 W108 rfl rfl (by decide)
              have F111 := FR.w F65 W108 (show 1 = 1 ∧ 5 ≤ 10 ∨ 3 ≤ 1 ∧ 1 ≤ 5 ∨ 67 ≤ 1 ∧ 1 ≤ 76 by decide)
              refine to_an (pc := 5) rw_84_5 rfl (to_an (pc := 6) rw_84_6 rfl ?_)
              have c_112 : M109.2.1 1 9 = (M64.2.1 1 9) := (W_n W108 (by decide) rfl)
              refine tt_gI (pc := 7) rw_84_7 (g_o hG110 rfl) (v := (M64.2.1 1 9)) c_112 (s_pI (pc := 10) rw_84_10 hG110 rfl (fun M114 W113 => ?_))
              have hG115 := g_wf hG110 W113 rfl rfl (by decide)
              have F116 := FR.w F111 W113 (show 1 = 1 ∧ 5 ≤ 11 ∨ 3 ≤ 1 ∧ 1 ≤ 5 ∨ 67 ≤ 1 ∧ 1 ≤ 76 by decide)
              refine to_c (pc := 13) rw_84_13 (x := (0 : Int32)) rfl rfl (s_r1 (pc := 14) rw_84_14 (A := 0) rfl (by decide) (s_r1 (pc := 13) rw_88_13 (A := 0) rfl (by decide) (b_ine_f (pc := 132) rw_62_132 (A := 0) rfl (by decide) (to_c (pc := 135) rw_62_135 (x := (0 : Int32)) rfl rfl (s_r1 (pc := 136) rw_62_136 (A := 0) rfl (by decide) ?_)))))
              have k_117 : (0 : Int32).toInt = 0 := rfl
              have j_118 := (QI_f (fun a i z => W_n W113 (tg_151 a i z) rfl) (QI_f (fun a i z => W_n W108 (tg_152 a i z) rfl) (QI_f (tg_144 F62) (QI_f (tg_100 F42) (QI_f (tg_143 F3) q1)))))
              exact h (0 : Int32) M114 hG115 F116 (by decide) (by decide) j_118
          · refine to_c (pc := 10) rw_45_10 (x := (1 : Int32)) rfl rfl (to_go (pc := 11) rw_45_11 (s_r1 (pc := 15) rw_45_15 (A := 1) rfl (by decide) (b_ieq_f (pc := 88) rw_62_88 (A := 1) rfl (by decide) (to_an (pc := 91) rw_62_91 rfl (to_c (pc := 92) rw_62_92 (x := (4 : Int32)) rfl rfl (to_i (pc := 93) rw_62_93 rfl (s_v (pc := 95) rw_62_95 (dp0 hd (by decide)) (ls0 := [.ref 1, .int (4 : Int32), .int (M.2.1 1 9)]) rfl (Nat.le_of_ble_eq_true rfl) (Nat.le_of_ble_eq_true rfl) rfl (to_rc rfl rfl rfl (g_o hG43 rfl)) rfl (to_an (pc := 0) rw_85_0 rfl (to_in (pc := 1) rw_85_1 rfl (s_pI (pc := 2) rw_85_2 hG43 rfl (fun M120 W119 => ?_)))))))))))
            have hG121 := g_wf hG43 W119 rfl rfl (by decide)
            have F122 := FR.w F47 W119 (show 1 = 1 ∧ 5 ≤ 10 ∨ 3 ≤ 1 ∧ 1 ≤ 5 ∨ 67 ≤ 1 ∧ 1 ≤ 76 by decide)
            refine to_an (pc := 5) rw_85_5 rfl (to_in (pc := 6) rw_85_6 rfl (s_pI (pc := 7) rw_85_7 hG121 rfl (fun M124 W123 => ?_)))
            have hG125 := g_wf hG121 W123 rfl rfl (by decide)
            have F126 := FR.w F122 W123 (show 1 = 1 ∧ 5 ≤ 11 ∨ 3 ≤ 1 ∧ 1 ≤ 5 ∨ 67 ≤ 1 ∧ 1 ≤ 76 by decide)
            refine to_c (pc := 10) rw_85_10 (x := (0 : Int32)) rfl rfl (s_r1 (pc := 11) rw_85_11 (A := 0) rfl (by decide) (s_r1 (pc := 98) rw_62_98 (A := 0) rfl (by decide) ?_))
            have k_127 : (0 : Int32).toInt = 0 := rfl
            have j_128 := (QI_f (fun a i z => W_n W123 (tg_151 a i z) rfl) (QI_f (fun a i z => W_n W119 (tg_152 a i z) rfl) (QI_f (tg_100 F42) (QI_f (tg_143 F3) q1))))
            exact h (0 : Int32) M124 hG125 F126 (by decide) (by decide) j_128
    · refine to_c (pc := 33) rw_62_33 (x := (0 : Int32)) rfl rfl (s_r1 (pc := 34) rw_62_34 (A := 0) rfl (by decide) ?_)
      have k_129 : (0 : Int32).toInt = 0 := rfl
      have j_130 := (QI_f (tg_143 F3) q1)
      exact h (0 : Int32) M7 hG4 F8 (by decide) (by decide) j_130
  · refine to_an (pc := 8) rw_62_8 rfl (to_c (pc := 9) rw_62_9 (x := (1 : Int32)) rfl rfl (s_v (pc := 10) rw_62_10 (dp0 hd (by decide)) (ls0 := [.ref 1, .int (1 : Int32)]) rfl (Nat.le_of_ble_eq_true rfl) (Nat.le_of_ble_eq_true rfl) rfl (to_rc rfl rfl rfl (g_o hG rfl)) rfl (to_an (pc := 0) rw_84_0 rfl (to_in (pc := 1) rw_84_1 rfl (s_pI (pc := 2) rw_84_2 hG rfl (fun M132 W131 => ?_))))))
    have hG133 := g_wf hG W131 rfl rfl (by decide)
    have F134 := FR.w F0 W131 (show 1 = 1 ∧ 5 ≤ 10 ∨ 3 ≤ 1 ∧ 1 ≤ 5 ∨ 67 ≤ 1 ∧ 1 ≤ 76 by decide)
    refine to_an (pc := 5) rw_84_5 rfl (to_an (pc := 6) rw_84_6 rfl ?_)
    have c_135 : M132.2.1 1 9 = (M.2.1 1 9) := (W_n W131 (by decide) rfl)
    refine tt_gI (pc := 7) rw_84_7 (g_o hG133 rfl) (v := (M.2.1 1 9)) c_135 (s_pI (pc := 10) rw_84_10 hG133 rfl (fun M137 W136 => ?_))
    have hG138 := g_wf hG133 W136 rfl rfl (by decide)
    have F139 := FR.w F134 W136 (show 1 = 1 ∧ 5 ≤ 11 ∨ 3 ≤ 1 ∧ 1 ≤ 5 ∨ 67 ≤ 1 ∧ 1 ≤ 76 by decide)
    refine to_c (pc := 13) rw_84_13 (x := (0 : Int32)) rfl rfl (s_r1 (pc := 14) rw_84_14 (A := 0) rfl (by decide) (s_r1 (pc := 13) rw_62_13 (A := 0) rfl (by decide) ?_))
    have k_140 : (0 : Int32).toInt = 0 := rfl
    have j_141 := (QI_f (fun a i z => W_n W136 (tg_151 a i z) rfl) (QI_f (fun a i z => W_n W131 (tg_152 a i z) rfl) q1))
    exact h (0 : Int32) M137 hG138 F139 (by decide) (by decide) j_141
noncomputable def RC_58 (k : Int) : Prop := ∀ (X : mm_X) (d : Nat) (M : mm_M) (Q : Option Value → mm_M → Prop) (q : Nat) (p : Nat) (o : Int32), g_X X → (5 + 4 * (8 - o.toInt) ≤ (d : Int)) → g_G M → (q = 67 ∨ q = 72) → (p = 49 ∨ p = 58) → (0 ≤ o.toInt) → (o.toInt ≤ 8) → QI M → 8 - o.toInt < k → (∀ (r : Int32) (M1 : mm_M), g_G M1 → FR md_qt M M1 → (0 ≤ r.toInt) → (r.toInt ≤ 1) → QI M1 → Q (some (.int r)) M1) → mm_T X d 58 0 [.ref q, .ref 1, .ref p, .int o, .null] [] M Q
set_option maxRecDepth 4000 in
set_option maxHeartbeats 0 in
theorem C_61 {X : mm_X} {d : Nat} {M : mm_M} {Q : Option Value → mm_M → Prop} {q : Nat} {p : Nat} {o : Int32} (hX : g_X X) (hd : 2 + 4 * (8 - o.toInt) ≤ (d : Int)) (hG : g_G M) (hq : q = 67 ∨ q = 72) (hp : p = 49 ∨ p = 58) (q1 : 0 ≤ o.toInt) (q2 : o.toInt ≤ 8) (q3 : QI M) (hr : RC_58 (8 - o.toInt)) (h : ∀ (r : Int32) (M1 : mm_M), g_G M1 → FR md_qt M M1 → (0 ≤ r.toInt) → (r.toInt ≤ 1) → QI M1 → Q (some (.int r)) M1) : mm_T X d 61 0 [.ref q, .ref 1, .ref p, .int o] [] M Q := by
  have F0 : FR md_qt M M := FR.rf
  refine to_in (pc := 0) rw_61_0 rfl (to_c (pc := 1) rw_61_1 (x := (8 : Int32)) rfl rfl (b_clt (pc := 3) rw_61_3 (A := o.toInt) (B := 8) rfl rfl (fun h1 => ?_) (fun h1 => ?_)))
  · refine to_an (pc := 12) rw_61_12 rfl (s_v (pc := 13) rw_61_13 (by omega) (ls0 := [.ref 1]) rfl (Nat.le_of_ble_eq_true rfl) (Nat.le_of_ble_eq_true rfl) rfl (to_rc rfl rfl rfl (g_o hG rfl)) rfl (C_83 hX (by omega) hG  (fun M4 hG3 F2 => ?_)))
    have F5 := FR.c F0 F2 tg_149
    refine to_an (pc := 16) rw_61_16 rfl (to_an (pc := 17) rw_61_17 rfl (to_an (pc := 18) rw_61_18 rfl (to_in (pc := 19) rw_61_19 rfl (to_c (pc := 20) rw_61_20 (x := (1 : Int32)) rfl rfl (s_add (pc := 21) rw_61_21 (A := o.toInt) (B := 1) rfl rfl (by omega) (fun v6 e7 => s_v (pc := 22) rw_61_22 (by omega) (ls0 := [.ref q, .ref 1, .ref p, .int v6, .null]) rfl (Nat.le_of_ble_eq_true rfl) (Nat.le_of_ble_eq_true rfl) rfl (to_rc rfl rfl rfl (g_o hG3 (by rcases hq with rfl | rfl <;> rfl))) rfl ?_))))))
    have j_8 := (QI_f (tg_144 F2) q3)
    refine hr X _ _ _ q p v6 hX (by omega) hG3 hq hp (by omega) (by omega) j_8 (by omega) (fun r9 M15 hG11 F10 p_12 p_13 p_14 => ?_)
    have F16 := FR.c F5 F10 tg_150
    refine b_ieq (pc := 25) rw_61_25 (A := r9.toInt) rfl (fun h17 => ?_) (fun h17 => ?_)
    · refine to_c (pc := 41) rw_61_41 (x := (0 : Int32)) rfl rfl (s_r1 (pc := 42) rw_61_42 (A := 0) rfl (by decide) ?_)
      have k_18 : (0 : Int32).toInt = 0 := rfl
      exact h (0 : Int32) M15 hG11 F16 (by decide) (by decide) p_14
    · refine to_an (pc := 28) rw_61_28 rfl (to_c (pc := 29) rw_61_29 (x := (41 : Int32)) rfl rfl (s_v (pc := 31) rw_61_31 (by omega) (ls0 := [.ref 1, .int (41 : Int32)]) rfl (Nat.le_of_ble_eq_true rfl) (Nat.le_of_ble_eq_true rfl) rfl (to_rc rfl rfl rfl (g_o hG11 rfl)) rfl ?_))
      have k_19 : (41 : Int32).toInt = 41 := rfl
      refine C_90 hX (by omega) hG11 (x := (41 : Int32)) (fun r20 M26 hG22 F21 p_23 p_24 p_25 => ?_)
      have F27 := FR.c F16 F21 tg_149
      refine b_ieq (pc := 34) rw_61_34 (A := r20.toInt) rfl (fun h28 => ?_) (fun h28 => ?_)
      · refine to_c (pc := 41) rw_61_41 (x := (0 : Int32)) rfl rfl (s_r1 (pc := 42) rw_61_42 (A := 0) rfl (by decide) ?_)
        have k_29 : (0 : Int32).toInt = 0 := rfl
        have j_30 := (QI_f (tg_144 F21) p_14)
        exact h (0 : Int32) M26 hG22 F27 (by decide) (by decide) j_30
      · refine to_c (pc := 37) rw_61_37 (x := (1 : Int32)) rfl rfl (to_go (pc := 38) rw_61_38 (s_r1 (pc := 42) rw_61_42 (A := 1) rfl (by decide) ?_))
        have k_31 : (1 : Int32).toInt = 1 := rfl
        have j_32 := (QI_f (tg_144 F21) p_14)
        exact h (1 : Int32) M26 hG22 F27 (by decide) (by decide) j_32
  · refine to_an (pc := 6) rw_61_6 rfl (to_c (pc := 7) rw_61_7 (x := (2 : Int32)) rfl rfl (s_v (pc := 8) rw_61_8 (by omega) (ls0 := [.ref 1, .int (2 : Int32)]) rfl (Nat.le_of_ble_eq_true rfl) (Nat.le_of_ble_eq_true rfl) rfl (to_rc rfl rfl rfl (g_o hG rfl)) rfl (to_an (pc := 0) rw_84_0 rfl (to_in (pc := 1) rw_84_1 rfl (s_pI (pc := 2) rw_84_2 hG rfl (fun M34 W33 => ?_))))))
    have hG35 := g_wf hG W33 rfl rfl (by decide)
    have F36 := FR.w F0 W33 (show 1 = 1 ∧ 5 ≤ 10 ∨ 3 ≤ 1 ∧ 1 ≤ 5 ∨ 67 ≤ 1 ∧ 1 ≤ 76 by decide)
    refine to_an (pc := 5) rw_84_5 rfl (to_an (pc := 6) rw_84_6 rfl ?_)
    have c_37 : M34.2.1 1 9 = (M.2.1 1 9) := (W_n W33 (by decide) rfl)
    refine tt_gI (pc := 7) rw_84_7 (g_o hG35 rfl) (v := (M.2.1 1 9)) c_37 (s_pI (pc := 10) rw_84_10 hG35 rfl (fun M39 W38 => ?_))
    have hG40 := g_wf hG35 W38 rfl rfl (by decide)
    have F41 := FR.w F36 W38 (show 1 = 1 ∧ 5 ≤ 11 ∨ 3 ≤ 1 ∧ 1 ≤ 5 ∨ 67 ≤ 1 ∧ 1 ≤ 76 by decide)
    refine to_c (pc := 13) rw_84_13 (x := (0 : Int32)) rfl rfl (s_r1 (pc := 14) rw_84_14 (A := 0) rfl (by decide) (s_r1 (pc := 11) rw_61_11 (A := 0) rfl (by decide) ?_))
    have k_42 : (0 : Int32).toInt = 0 := rfl
    have j_43 := (QI_f (fun a i z => W_n W38 (tg_151 a i z) rfl) (QI_f (fun a i z => W_n W33 (tg_152 a i z) rfl) q3))
    exact h (0 : Int32) M39 hG40 F41 (by decide) (by decide) j_43
set_option maxRecDepth 4000 in
set_option maxHeartbeats 0 in
theorem T_60_0 {X : mm_X} {d : Nat} {M : mm_M} {Q : Option Value → mm_M → Prop} {q : Nat} {p : Nat} {o : Int32} (hX : g_X X) (hd : 3 + 4 * (8 - o.toInt) ≤ (d : Int)) (hq : q = 67 ∨ q = 72) (hp : p = 49 ∨ p = 58) (q1 : 0 ≤ o.toInt) (q2 : o.toInt ≤ 8) (q3 : QI M) (hr : RC_58 (8 - o.toInt)) (h : ∀ (r : Int32) (M1 : mm_M), g_G M1 → FR md_qt M M1 → (0 ≤ r.toInt) → (r.toInt ≤ 1) → QI M1 → Q (some (.int r)) M1) : ∀ nn9 : Nat, (∀ (N : mm_M) (u1 : Value) (u2 : Value) (u3 : Value) (x4 : Int32) (x5 : Int32) (x6 : Int32), g_G N → FR md_qt M N → (0 ≤ x6.toInt) → (x6.toInt ≤ 41) → (0 ≤ x4.toInt) → (x4.toInt ≤ 41) → (0 ≤ x5.toInt) → (x5.toInt ≤ 1) → (QI N) → 41 - x6.toInt < (nn9 : Int) → mm_T X d 60 65 [.ref q, u1, u2, u3, .int x4, .int x5, .int x6] [] N Q) := by
  intro nn9
  induction nn9 with
  | zero =>
    intro N u1 u2 u3 x4 x5 x6 hG F0 g1 g2 g3 g4 g5 g6 g7 hm
    exfalso; omega
  | succ nn9 ih =>
    intro N u1 u2 u3 x4 x5 x6 hG F0 g1 g2 g3 g4 g5 g6 g7 hm
    refine to_i (pc := 65) rw_60_65 rfl (to_i (pc := 67) rw_60_67 rfl (b_cge (pc := 69) rw_60_69 (A := x6.toInt) (B := x4.toInt) rfl rfl (fun h1 => ?_) (fun h1 => ?_)))
    · refine to_i (pc := 90) rw_60_90 rfl (s_r1 (pc := 92) rw_60_92 (A := x5.toInt) rfl (by omega) ?_)
      exact h x5 N hG F0 (by omega) (by omega) g7
    · refine to_i (pc := 72) rw_60_72 rfl (b_ieq (pc := 74) rw_60_74 (A := x5.toInt) rfl (fun h2 => ?_) (fun h2 => ?_))
      · refine to_i (pc := 90) rw_60_90 rfl (s_r1 (pc := 92) rw_60_92 (A := x5.toInt) rfl (by omega) ?_)
        exact h x5 N hG F0 (by omega) (by omega) g7
      · refine to_an (pc := 77) rw_60_77 rfl (to_c (pc := 78) rw_60_78 (x := (2 : Int32)) rfl rfl (to_c (pc := 79) rw_60_79 (x := (0 : Int32)) rfl rfl (to_c (pc := 80) rw_60_80 (x := (0 : Int32)) rfl rfl (s_v (pc := 81) rw_60_81 (by omega) (ls0 := [.ref q, .int (2 : Int32), .int (0 : Int32), .int (0 : Int32)]) rfl (Nat.le_of_ble_eq_true rfl) (Nat.le_of_ble_eq_true rfl) rfl (to_rc rfl rfl rfl (g_o hG (by rcases hq with rfl | rfl <;> rfl))) rfl ?_))))
        have k_3 : (2 : Int32).toInt = 2 := rfl
        have k_4 : (0 : Int32).toInt = 0 := rfl
        refine C_64 hX (by omega) hG hq (by omega) (by omega) (by omega) (by omega) (by omega) g7 (q := q) (k := (2 : Int32)) (f := (0 : Int32)) (s := (0 : Int32)) (fun M8 hG6 F5 p_7 => ?_)
        have F9 := FR.c F0 F5 tg_148
        refine s_inc (pc := 84) rw_60_84 (ls2 := fun v => [.ref q, u1, u2, u3, .int x4, .int x5, .int v]) rfl rfl (fun _ => rfl) (A := x6.toInt) (B := 1) rfl rfl (by omega) (fun v10 e11 => to_go (pc := 87) rw_60_87 ?_)
        exact ih M8 (u1) (u2) (u3) x4 x5 v10 hG6 F9 (by omega) (by omega) (by omega) (by omega) (by omega) (by omega) p_7 (by omega)
set_option maxRecDepth 4000 in
set_option maxHeartbeats 0 in
theorem T_60_1 {X : mm_X} {d : Nat} {M : mm_M} {Q : Option Value → mm_M → Prop} {q : Nat} {p : Nat} {o : Int32} (hX : g_X X) (hd : 3 + 4 * (8 - o.toInt) ≤ (d : Int)) (hq : q = 67 ∨ q = 72) (hp : p = 49 ∨ p = 58) (q1 : 0 ≤ o.toInt) (q2 : o.toInt ≤ 8) (q3 : QI M) (hr : RC_58 (8 - o.toInt)) (h : ∀ (r : Int32) (M1 : mm_M), g_G M1 → FR md_qt M M1 → (0 ≤ r.toInt) → (r.toInt ≤ 1) → QI M1 → Q (some (.int r)) M1) : ∀ nn9 : Nat, (∀ (N : mm_M) (x4 : Int32) (u5 : Value) (u6 : Value), g_G N → FR md_qt M N → (0 ≤ x4.toInt) → (x4.toInt ≤ 41) → (o.toInt = o.toInt) → (QI N) → 41 - x4.toInt < (nn9 : Int) → mm_T X d 60 3 [.ref q, .ref 1, .ref p, .int o, .int x4, u5, u6] [] N Q) := by
  intro nn9
  induction nn9 with
  | zero =>
    intro N x4 u5 u6 hG F0 g1 g2 g3 g4 hm
    exfalso; omega
  | succ nn9 ih =>
    intro N x4 u5 u6 hG F0 g1 g2 g3 g4 hm
    refine to_i (pc := 3) rw_60_3 rfl (to_c (pc := 5) rw_60_5 (x := (40 : Int32)) rfl rfl (b_cgt (pc := 7) rw_60_7 (A := x4.toInt) (B := 40) rfl rfl (fun h12 => ?_) (fun h12 => ?_)))
    · refine to_an (pc := 35) rw_60_35 rfl (tt_gI (pc := 36) rw_60_36 (g_o hG rfl) (v := (N.2.1 1 7)) rfl (to_c (pc := 39) rw_60_39 (x := (40 : Int32)) rfl rfl (b_cne (pc := 41) rw_60_41 (A := (N.2.1 1 7).toInt) (B := 40) rfl rfl (fun h13 => ?_) (fun h13 => ?_))))
      · refine to_an (pc := 54) rw_60_54 rfl (to_an (pc := 55) rw_60_55 rfl (to_an (pc := 56) rw_60_56 rfl (s_v (pc := 57) rw_60_57 (by omega) (ls0 := [.ref q, .ref 1, .ref p, .null, .null, .null, .null]) rfl (Nat.le_of_ble_eq_true rfl) (Nat.le_of_ble_eq_true rfl) rfl (to_rc rfl rfl rfl (g_o hG (by rcases hq with rfl | rfl <;> rfl))) rfl (C_62 hX (by omega) hG hq hp g4 (q := q) (p := p) (fun r14 M20 hG16 F15 p_17 p_18 p_19 => ?_)))))
        have F21 := FR.c F0 F15 tg_150
        refine to_is (pc := 60) rw_60_60 (ls2 := [.ref q, .ref 1, .ref p, .int o, .int x4, .int r14, u6]) rfl rfl (to_c (pc := 62) rw_60_62 (x := (0 : Int32)) rfl rfl (to_is (pc := 63) rw_60_63 (ls2 := [.ref q, .ref 1, .ref p, .int o, .int x4, .int r14, .int (0 : Int32)]) rfl rfl ?_))
        have k_22 : (0 : Int32).toInt = 0 := rfl
        exact (T_60_0 (q := q) (p := p) (o := o) hX hd hq hp q1 q2 q3 hr h ((41 - (0 : Int32).toInt).toNat + 1)) M20 (.ref 1) (.ref p) (.int o) x4 r14 (0 : Int32) hG16 F21 (by omega) (by omega) (by omega) (by omega) (by omega) (by omega) p_19 (by omega)
      · refine to_an (pc := 44) rw_60_44 rfl (to_an (pc := 45) rw_60_45 rfl (to_an (pc := 46) rw_60_46 rfl (to_in (pc := 47) rw_60_47 rfl (s_v (pc := 48) rw_60_48 (by omega) (ls0 := [.ref q, .ref 1, .ref p, .int o]) rfl (Nat.le_of_ble_eq_true rfl) (Nat.le_of_ble_eq_true rfl) rfl (to_rc rfl rfl rfl (g_o hG (by rcases hq with rfl | rfl <;> rfl))) rfl (C_61 hX (by omega) hG hq hp (by omega) (by omega) g4 hr (q := q) (p := p) (o := o) (fun r23 M29 hG25 F24 p_26 p_27 p_28 => ?_))))))
        have F30 := FR.c F0 F24 tg_150
        refine to_go (pc := 51) rw_60_51 (to_is (pc := 60) rw_60_60 (ls2 := [.ref q, .ref 1, .ref p, .int o, .int x4, .int r23, u6]) rfl rfl (to_c (pc := 62) rw_60_62 (x := (0 : Int32)) rfl rfl (to_is (pc := 63) rw_60_63 (ls2 := [.ref q, .ref 1, .ref p, .int o, .int x4, .int r23, .int (0 : Int32)]) rfl rfl ?_)))
        have k_31 : (0 : Int32).toInt = 0 := rfl
        exact (T_60_0 (q := q) (p := p) (o := o) hX hd hq hp q1 q2 q3 hr h ((41 - (0 : Int32).toInt).toNat + 1)) M29 (.ref 1) (.ref p) (.int o) x4 r23 (0 : Int32) hG25 F30 (by omega) (by omega) (by omega) (by omega) (by omega) (by omega) p_28 (by omega)
    · refine to_an (pc := 10) rw_60_10 rfl (to_c (pc := 11) rw_60_11 (x := (486146048 : Int32)) rfl rfl (s_v (pc := 13) rw_60_13 (by omega) (ls0 := [.ref 1, .int (486146048 : Int32)]) rfl (Nat.le_of_ble_eq_true rfl) (Nat.le_of_ble_eq_true rfl) rfl (to_rc rfl rfl rfl (g_o hG rfl)) rfl (to_an (pc := 0) rw_86_0 rfl (tt_gI (pc := 1) rw_86_1 (g_o hG rfl) (v := (N.2.1 1 7)) rfl (to_c (pc := 4) rw_86_4 (x := (4 : Int32)) rfl rfl (b_cne (pc := 5) rw_86_5 (A := (N.2.1 1 7).toInt) (B := 4) rfl rfl (fun h32 => ?_) (fun h32 => ?_)))))))
      · refine to_c (pc := 20) rw_86_20 (x := (0 : Int32)) rfl rfl (s_r1 (pc := 21) rw_86_21 (A := 0) rfl (by decide) (b_ieq_t (pc := 16) rw_60_16 (A := 0) rfl (by decide) (to_an (pc := 35) rw_60_35 rfl (tt_gI (pc := 36) rw_60_36 (g_o hG rfl) (v := (N.2.1 1 7)) rfl (to_c (pc := 39) rw_60_39 (x := (40 : Int32)) rfl rfl (b_cne (pc := 41) rw_60_41 (A := (N.2.1 1 7).toInt) (B := 40) rfl rfl (fun h33 => ?_) (fun h33 => ?_)))))))
        · refine to_an (pc := 54) rw_60_54 rfl (to_an (pc := 55) rw_60_55 rfl (to_an (pc := 56) rw_60_56 rfl (s_v (pc := 57) rw_60_57 (by omega) (ls0 := [.ref q, .ref 1, .ref p, .null, .null, .null, .null]) rfl (Nat.le_of_ble_eq_true rfl) (Nat.le_of_ble_eq_true rfl) rfl (to_rc rfl rfl rfl (g_o hG (by rcases hq with rfl | rfl <;> rfl))) rfl (C_62 hX (by omega) hG hq hp g4 (q := q) (p := p) (fun r34 M40 hG36 F35 p_37 p_38 p_39 => ?_)))))
          have F41 := FR.c F0 F35 tg_150
          refine to_is (pc := 60) rw_60_60 (ls2 := [.ref q, .ref 1, .ref p, .int o, .int x4, .int r34, u6]) rfl rfl (to_c (pc := 62) rw_60_62 (x := (0 : Int32)) rfl rfl (to_is (pc := 63) rw_60_63 (ls2 := [.ref q, .ref 1, .ref p, .int o, .int x4, .int r34, .int (0 : Int32)]) rfl rfl ?_))
          have k_42 : (0 : Int32).toInt = 0 := rfl
          exact (T_60_0 (q := q) (p := p) (o := o) hX hd hq hp q1 q2 q3 hr h ((41 - (0 : Int32).toInt).toNat + 1)) M40 (.ref 1) (.ref p) (.int o) x4 r34 (0 : Int32) hG36 F41 (by omega) (by omega) (by omega) (by omega) (by omega) (by omega) p_39 (by omega)
        · refine to_an (pc := 44) rw_60_44 rfl (to_an (pc := 45) rw_60_45 rfl (to_an (pc := 46) rw_60_46 rfl (to_in (pc := 47) rw_60_47 rfl (s_v (pc := 48) rw_60_48 (by omega) (ls0 := [.ref q, .ref 1, .ref p, .int o]) rfl (Nat.le_of_ble_eq_true rfl) (Nat.le_of_ble_eq_true rfl) rfl (to_rc rfl rfl rfl (g_o hG (by rcases hq with rfl | rfl <;> rfl))) rfl (C_61 hX (by omega) hG hq hp (by omega) (by omega) g4 hr (q := q) (p := p) (o := o) (fun r43 M49 hG45 F44 p_46 p_47 p_48 => ?_))))))
          have F50 := FR.c F0 F44 tg_150
          refine to_go (pc := 51) rw_60_51 (to_is (pc := 60) rw_60_60 (ls2 := [.ref q, .ref 1, .ref p, .int o, .int x4, .int r43, u6]) rfl rfl (to_c (pc := 62) rw_60_62 (x := (0 : Int32)) rfl rfl (to_is (pc := 63) rw_60_63 (ls2 := [.ref q, .ref 1, .ref p, .int o, .int x4, .int r43, .int (0 : Int32)]) rfl rfl ?_)))
          have k_51 : (0 : Int32).toInt = 0 := rfl
          exact (T_60_0 (q := q) (p := p) (o := o) hX hd hq hp q1 q2 q3 hr h ((41 - (0 : Int32).toInt).toNat + 1)) M49 (.ref 1) (.ref p) (.int o) x4 r43 (0 : Int32) hG45 F50 (by omega) (by omega) (by omega) (by omega) (by omega) (by omega) p_48 (by omega)
      · refine to_an (pc := 8) rw_86_8 rfl (tt_gI (pc := 9) rw_86_9 (g_o hG rfl) (v := (N.2.1 1 8)) rfl (to_in (pc := 12) rw_86_12 rfl (b_cne (pc := 13) rw_86_13 (A := (N.2.1 1 8).toInt) (B := 486146048) rfl rfl (fun h52 => ?_) (fun h52 => ?_))))
        · refine to_c (pc := 20) rw_86_20 (x := (0 : Int32)) rfl rfl (s_r1 (pc := 21) rw_86_21 (A := 0) rfl (by decide) (b_ieq_t (pc := 16) rw_60_16 (A := 0) rfl (by decide) (to_an (pc := 35) rw_60_35 rfl (tt_gI (pc := 36) rw_60_36 (g_o hG rfl) (v := (N.2.1 1 7)) rfl (to_c (pc := 39) rw_60_39 (x := (40 : Int32)) rfl rfl (b_cne_t (pc := 41) rw_60_41 (A := (N.2.1 1 7).toInt) (B := 40) rfl rfl (by omega) (to_an (pc := 54) rw_60_54 rfl (to_an (pc := 55) rw_60_55 rfl (to_an (pc := 56) rw_60_56 rfl (s_v (pc := 57) rw_60_57 (by omega) (ls0 := [.ref q, .ref 1, .ref p, .null, .null, .null, .null]) rfl (Nat.le_of_ble_eq_true rfl) (Nat.le_of_ble_eq_true rfl) rfl (to_rc rfl rfl rfl (g_o hG (by rcases hq with rfl | rfl <;> rfl))) rfl (C_62 hX (by omega) hG hq hp g4 (q := q) (p := p) (fun r53 M59 hG55 F54 p_56 p_57 p_58 => ?_))))))))))))
          have F60 := FR.c F0 F54 tg_150
          refine to_is (pc := 60) rw_60_60 (ls2 := [.ref q, .ref 1, .ref p, .int o, .int x4, .int r53, u6]) rfl rfl (to_c (pc := 62) rw_60_62 (x := (0 : Int32)) rfl rfl (to_is (pc := 63) rw_60_63 (ls2 := [.ref q, .ref 1, .ref p, .int o, .int x4, .int r53, .int (0 : Int32)]) rfl rfl ?_))
          have k_61 : (0 : Int32).toInt = 0 := rfl
          exact (T_60_0 (q := q) (p := p) (o := o) hX hd hq hp q1 q2 q3 hr h ((41 - (0 : Int32).toInt).toNat + 1)) M59 (.ref 1) (.ref p) (.int o) x4 r53 (0 : Int32) hG55 F60 (by omega) (by omega) (by omega) (by omega) (by omega) (by omega) p_58 (by omega)
        · refine to_c (pc := 16) rw_86_16 (x := (1 : Int32)) rfl rfl (to_go (pc := 17) rw_86_17 (s_r1 (pc := 21) rw_86_21 (A := 1) rfl (by decide) (b_ieq_f (pc := 16) rw_60_16 (A := 1) rfl (by decide) (to_an (pc := 19) rw_60_19 rfl (to_an (pc := 20) rw_60_20 rfl (s_v (pc := 21) rw_60_21 (by omega) (ls0 := [.ref q, .ref 1]) rfl (Nat.le_of_ble_eq_true rfl) (Nat.le_of_ble_eq_true rfl) rfl (to_rc rfl rfl rfl (g_o hG (by rcases hq with rfl | rfl <;> rfl))) rfl (C_63 hX (by omega) hG hq (q := q) (fun r62 M67 hG64 F63 p_65 p_66 => ?_))))))))
          have F68 := FR.c F0 F63 tg_146
          refine b_ine (pc := 24) rw_60_24 (A := r62.toInt) rfl (fun h69 => ?_) (fun h69 => ?_)
          · refine s_inc (pc := 29) rw_60_29 (ls2 := fun v => [.ref q, .ref 1, .ref p, .int o, .int v, u5, u6]) rfl rfl (fun _ => rfl) (A := x4.toInt) (B := 1) rfl rfl (by omega) (fun v70 e71 => to_go (pc := 32) rw_60_32 ?_)
            have j_72 := (QI_f (tg_143 F63) g4)
            exact ih M67 v70 (u5) (u6) hG64 F68 (by omega) (by omega) (by omega) j_72 (by omega)
          · refine to_c (pc := 27) rw_60_27 (x := (0 : Int32)) rfl rfl (s_r1 (pc := 28) rw_60_28 (A := 0) rfl (by decide) ?_)
            have k_73 : (0 : Int32).toInt = 0 := rfl
            have j_74 := (QI_f (tg_143 F63) g4)
            exact h (0 : Int32) M67 hG64 F68 (by decide) (by decide) j_74
set_option maxRecDepth 4000 in
set_option maxHeartbeats 0 in
theorem C_60 {X : mm_X} {d : Nat} {M : mm_M} {Q : Option Value → mm_M → Prop} {q : Nat} {p : Nat} {o : Int32} (hX : g_X X) (hd : 3 + 4 * (8 - o.toInt) ≤ (d : Int)) (hG : g_G M) (hq : q = 67 ∨ q = 72) (hp : p = 49 ∨ p = 58) (q1 : 0 ≤ o.toInt) (q2 : o.toInt ≤ 8) (q3 : QI M) (hr : RC_58 (8 - o.toInt)) (h : ∀ (r : Int32) (M1 : mm_M), g_G M1 → FR md_qt M M1 → (0 ≤ r.toInt) → (r.toInt ≤ 1) → QI M1 → Q (some (.int r)) M1) : mm_T X d 60 0 [.ref q, .ref 1, .ref p, .int o, .null, .null, .null] [] M Q := by
  have F0 : FR md_qt M M := FR.rf
  refine to_c (pc := 0) rw_60_0 (x := (0 : Int32)) rfl rfl (to_is (pc := 1) rw_60_1 (ls2 := [.ref q, .ref 1, .ref p, .int o, .int (0 : Int32), .null, .null]) rfl rfl ?_)
  have k_75 : (0 : Int32).toInt = 0 := rfl
  exact (T_60_1 (q := q) (p := p) (o := o) hX hd hq hp q1 q2 q3 hr h ((41 - (0 : Int32).toInt).toNat + 1)) M (0 : Int32) (.null) (.null) hG F0 (by omega) (by omega) (by omega) q3 (by omega)
set_option maxRecDepth 4000 in
set_option maxHeartbeats 0 in
theorem T_59_0 {X : mm_X} {d : Nat} {M : mm_M} {Q : Option Value → mm_M → Prop} {q : Nat} {p : Nat} {o : Int32} (hX : g_X X) (hd : 4 + 4 * (8 - o.toInt) ≤ (d : Int)) (hq : q = 67 ∨ q = 72) (hp : p = 49 ∨ p = 58) (q1 : 0 ≤ o.toInt) (q2 : o.toInt ≤ 8) (q3 : QI M) (hr : RC_58 (8 - o.toInt)) (h : ∀ (r : Int32) (M1 : mm_M), g_G M1 → FR md_qt M M1 → (0 ≤ r.toInt) → (r.toInt ≤ 1) → QI M1 → Q (some (.int r)) M1) : ∀ nn9 : Nat, (∀ (N : mm_M) (x4 : Int32), g_G N → FR md_qt M N → (0 ≤ x4.toInt) → (x4.toInt ≤ 41) → (o.toInt = o.toInt) → (QI N) → 41 - x4.toInt < (nn9 : Int) → mm_T X d 59 15 [.ref q, .ref 1, .ref p, .int o, .int x4] [] N Q) := by
  intro nn9
  induction nn9 with
  | zero =>
    intro N x4 hG F0 g1 g2 g3 g4 hm
    exfalso; omega
  | succ nn9 ih =>
    intro N x4 hG F0 g1 g2 g3 g4 hm
    refine to_i (pc := 15) rw_59_15 rfl (to_c (pc := 17) rw_59_17 (x := (40 : Int32)) rfl rfl (b_cgt (pc := 19) rw_59_19 (A := x4.toInt) (B := 40) rfl rfl (fun h1 => ?_) (fun h1 => ?_)))
    · refine to_c (pc := 64) rw_59_64 (x := (1 : Int32)) rfl rfl (s_r1 (pc := 65) rw_59_65 (A := 1) rfl (by decide) ?_)
      have k_2 : (1 : Int32).toInt = 1 := rfl
      exact h (1 : Int32) N hG F0 (by decide) (by decide) g4
    · refine to_an (pc := 22) rw_59_22 rfl (to_c (pc := 23) rw_59_23 (x := (48365568 : Int32)) rfl rfl (s_v (pc := 25) rw_59_25 (by omega) (ls0 := [.ref 1, .int (48365568 : Int32)]) rfl (Nat.le_of_ble_eq_true rfl) (Nat.le_of_ble_eq_true rfl) rfl (to_rc rfl rfl rfl (g_o hG rfl)) rfl (to_an (pc := 0) rw_86_0 rfl (tt_gI (pc := 1) rw_86_1 (g_o hG rfl) (v := (N.2.1 1 7)) rfl (to_c (pc := 4) rw_86_4 (x := (4 : Int32)) rfl rfl (b_cne (pc := 5) rw_86_5 (A := (N.2.1 1 7).toInt) (B := 4) rfl rfl (fun h3 => ?_) (fun h3 => ?_)))))))
      · refine to_c (pc := 20) rw_86_20 (x := (0 : Int32)) rfl rfl (s_r1 (pc := 21) rw_86_21 (A := 0) rfl (by decide) (b_ieq_t (pc := 28) rw_59_28 (A := 0) rfl (by decide) (to_c (pc := 64) rw_59_64 (x := (1 : Int32)) rfl rfl (s_r1 (pc := 65) rw_59_65 (A := 1) rfl (by decide) ?_))))
        have k_4 : (1 : Int32).toInt = 1 := rfl
        exact h (1 : Int32) N hG F0 (by decide) (by decide) g4
      · refine to_an (pc := 8) rw_86_8 rfl (tt_gI (pc := 9) rw_86_9 (g_o hG rfl) (v := (N.2.1 1 8)) rfl (to_in (pc := 12) rw_86_12 rfl (b_cne (pc := 13) rw_86_13 (A := (N.2.1 1 8).toInt) (B := 48365568) rfl rfl (fun h5 => ?_) (fun h5 => ?_))))
        · refine to_c (pc := 20) rw_86_20 (x := (0 : Int32)) rfl rfl (s_r1 (pc := 21) rw_86_21 (A := 0) rfl (by decide) (b_ieq_t (pc := 28) rw_59_28 (A := 0) rfl (by decide) (to_c (pc := 64) rw_59_64 (x := (1 : Int32)) rfl rfl (s_r1 (pc := 65) rw_59_65 (A := 1) rfl (by decide) ?_))))
          have k_6 : (1 : Int32).toInt = 1 := rfl
          exact h (1 : Int32) N hG F0 (by decide) (by decide) g4
        · refine to_c (pc := 16) rw_86_16 (x := (1 : Int32)) rfl rfl (to_go (pc := 17) rw_86_17 (s_r1 (pc := 21) rw_86_21 (A := 1) rfl (by decide) (b_ieq_f (pc := 28) rw_59_28 (A := 1) rfl (by decide) (to_an (pc := 31) rw_59_31 rfl (to_an (pc := 32) rw_59_32 rfl (s_v (pc := 33) rw_59_33 (by omega) (ls0 := [.ref q, .ref 1]) rfl (Nat.le_of_ble_eq_true rfl) (Nat.le_of_ble_eq_true rfl) rfl (to_rc rfl rfl rfl (g_o hG (by rcases hq with rfl | rfl <;> rfl))) rfl (C_63 hX (by omega) hG hq (q := q) (fun r7 M12 hG9 F8 p_10 p_11 => ?_))))))))
          have F13 := FR.c F0 F8 tg_146
          refine b_ieq (pc := 36) rw_59_36 (A := r7.toInt) rfl (fun h14 => ?_) (fun h14 => ?_)
          · refine to_c (pc := 49) rw_59_49 (x := (0 : Int32)) rfl rfl (s_r1 (pc := 50) rw_59_50 (A := 0) rfl (by decide) ?_)
            have k_15 : (0 : Int32).toInt = 0 := rfl
            have j_16 := (QI_f (tg_143 F8) g4)
            exact h (0 : Int32) M12 hG9 F13 (by decide) (by decide) j_16
          · refine to_an (pc := 39) rw_59_39 rfl (to_an (pc := 40) rw_59_40 rfl (to_an (pc := 41) rw_59_41 rfl (to_in (pc := 42) rw_59_42 rfl (s_v (pc := 43) rw_59_43 (by omega) (ls0 := [.ref q, .ref 1, .ref p, .int o, .null, .null, .null]) rfl (Nat.le_of_ble_eq_true rfl) (Nat.le_of_ble_eq_true rfl) rfl (to_rc rfl rfl rfl (g_o hG9 (by rcases hq with rfl | rfl <;> rfl))) rfl ?_))))
            have j_17 := (QI_f (tg_143 F8) g4)
            refine C_60 hX (by omega) hG9 hq hp (by omega) (by omega) j_17 hr (q := q) (p := p) (o := o) (fun r18 M24 hG20 F19 p_21 p_22 p_23 => ?_)
            have F25 := FR.c F13 F19 tg_150
            refine b_ine (pc := 46) rw_59_46 (A := r18.toInt) rfl (fun h26 => ?_) (fun h26 => ?_)
            · refine to_an (pc := 51) rw_59_51 rfl (to_c (pc := 52) rw_59_52 (x := (3 : Int32)) rfl rfl (to_c (pc := 53) rw_59_53 (x := (0 : Int32)) rfl rfl (to_c (pc := 54) rw_59_54 (x := (0 : Int32)) rfl rfl (s_v (pc := 55) rw_59_55 (by omega) (ls0 := [.ref q, .int (3 : Int32), .int (0 : Int32), .int (0 : Int32)]) rfl (Nat.le_of_ble_eq_true rfl) (Nat.le_of_ble_eq_true rfl) rfl (to_rc rfl rfl rfl (g_o hG20 (by rcases hq with rfl | rfl <;> rfl))) rfl ?_))))
              have k_27 : (3 : Int32).toInt = 3 := rfl
              have k_28 : (0 : Int32).toInt = 0 := rfl
              refine C_64 hX (by omega) hG20 hq (by omega) (by omega) (by omega) (by omega) (by omega) p_23 (q := q) (k := (3 : Int32)) (f := (0 : Int32)) (s := (0 : Int32)) (fun M32 hG30 F29 p_31 => ?_)
              have F33 := FR.c F25 F29 tg_148
              refine s_inc (pc := 58) rw_59_58 (ls2 := fun v => [.ref q, .ref 1, .ref p, .int o, .int v]) rfl rfl (fun _ => rfl) (A := x4.toInt) (B := 1) rfl rfl (by omega) (fun v34 e35 => to_go (pc := 61) rw_59_61 ?_)
              exact ih M32 v34 hG30 F33 (by omega) (by omega) (by omega) p_31 (by omega)
            · refine to_c (pc := 49) rw_59_49 (x := (0 : Int32)) rfl rfl (s_r1 (pc := 50) rw_59_50 (A := 0) rfl (by decide) ?_)
              have k_36 : (0 : Int32).toInt = 0 := rfl
              exact h (0 : Int32) M24 hG20 F25 (by decide) (by decide) p_23
set_option maxRecDepth 4000 in
set_option maxHeartbeats 0 in
theorem C_59 {X : mm_X} {d : Nat} {M : mm_M} {Q : Option Value → mm_M → Prop} {q : Nat} {p : Nat} {o : Int32} (hX : g_X X) (hd : 4 + 4 * (8 - o.toInt) ≤ (d : Int)) (hG : g_G M) (hq : q = 67 ∨ q = 72) (hp : p = 49 ∨ p = 58) (q1 : 0 ≤ o.toInt) (q2 : o.toInt ≤ 8) (q3 : QI M) (hr : RC_58 (8 - o.toInt)) (h : ∀ (r : Int32) (M1 : mm_M), g_G M1 → FR md_qt M M1 → (0 ≤ r.toInt) → (r.toInt ≤ 1) → QI M1 → Q (some (.int r)) M1) : mm_T X d 59 0 [.ref q, .ref 1, .ref p, .int o, .null] [] M Q := by
  have F0 : FR md_qt M M := FR.rf
  refine to_an (pc := 0) rw_59_0 rfl (to_an (pc := 1) rw_59_1 rfl (to_an (pc := 2) rw_59_2 rfl (to_in (pc := 3) rw_59_3 rfl (s_v (pc := 4) rw_59_4 (by omega) (ls0 := [.ref q, .ref 1, .ref p, .int o, .null, .null, .null]) rfl (Nat.le_of_ble_eq_true rfl) (Nat.le_of_ble_eq_true rfl) rfl (to_rc rfl rfl rfl (g_o hG (by rcases hq with rfl | rfl <;> rfl))) rfl (C_60 hX (by omega) hG hq hp (by omega) (by omega) q3 hr (q := q) (p := p) (o := o) (fun r37 M43 hG39 F38 p_40 p_41 p_42 => ?_))))))
  have F44 := FR.c F0 F38 tg_150
  refine b_ine (pc := 7) rw_59_7 (A := r37.toInt) rfl (fun h45 => ?_) (fun h45 => ?_)
  · refine to_c (pc := 12) rw_59_12 (x := (0 : Int32)) rfl rfl (to_is (pc := 13) rw_59_13 (ls2 := [.ref q, .ref 1, .ref p, .int o, .int (0 : Int32)]) rfl rfl ?_)
    have k_46 : (0 : Int32).toInt = 0 := rfl
    exact (T_59_0 (q := q) (p := p) (o := o) hX hd hq hp q1 q2 q3 hr h ((41 - (0 : Int32).toInt).toNat + 1)) M43 (0 : Int32) hG39 F44 (by omega) (by omega) (by omega) p_42 (by omega)
  · refine to_c (pc := 10) rw_59_10 (x := (0 : Int32)) rfl rfl (s_r1 (pc := 11) rw_59_11 (A := 0) rfl (by decide) ?_)
    have k_47 : (0 : Int32).toInt = 0 := rfl
    exact h (0 : Int32) M43 hG39 F44 (by decide) (by decide) p_42
set_option maxRecDepth 4000 in
set_option maxHeartbeats 0 in
theorem T_58_0 {X : mm_X} {d : Nat} {M : mm_M} {Q : Option Value → mm_M → Prop} {q : Nat} {p : Nat} {o : Int32} (hX : g_X X) (hd : 5 + 4 * (8 - o.toInt) ≤ (d : Int)) (hq : q = 67 ∨ q = 72) (hp : p = 49 ∨ p = 58) (q1 : 0 ≤ o.toInt) (q2 : o.toInt ≤ 8) (q3 : QI M) (hr : RC_58 (8 - o.toInt)) (h : ∀ (r : Int32) (M1 : mm_M), g_G M1 → FR md_qt M M1 → (0 ≤ r.toInt) → (r.toInt ≤ 1) → QI M1 → Q (some (.int r)) M1) : ∀ nn9 : Nat, (∀ (N : mm_M) (x4 : Int32), g_G N → FR md_qt M N → (0 ≤ x4.toInt) → (x4.toInt ≤ 41) → (o.toInt = o.toInt) → (QI N) → 41 - x4.toInt < (nn9 : Int) → mm_T X d 58 15 [.ref q, .ref 1, .ref p, .int o, .int x4] [] N Q) := by
  intro nn9
  induction nn9 with
  | zero =>
    intro N x4 hG F0 g1 g2 g3 g4 hm
    exfalso; omega
  | succ nn9 ih =>
    intro N x4 hG F0 g1 g2 g3 g4 hm
    refine to_i (pc := 15) rw_58_15 rfl (to_c (pc := 17) rw_58_17 (x := (40 : Int32)) rfl rfl (b_cgt (pc := 19) rw_58_19 (A := x4.toInt) (B := 40) rfl rfl (fun h1 => ?_) (fun h1 => ?_)))
    · refine to_c (pc := 64) rw_58_64 (x := (1 : Int32)) rfl rfl (s_r1 (pc := 65) rw_58_65 (A := 1) rfl (by decide) ?_)
      have k_2 : (1 : Int32).toInt = 1 := rfl
      exact h (1 : Int32) N hG F0 (by decide) (by decide) g4
    · refine to_an (pc := 22) rw_58_22 rfl (to_c (pc := 23) rw_58_23 (x := (522190848 : Int32)) rfl rfl (s_v (pc := 25) rw_58_25 (by omega) (ls0 := [.ref 1, .int (522190848 : Int32)]) rfl (Nat.le_of_ble_eq_true rfl) (Nat.le_of_ble_eq_true rfl) rfl (to_rc rfl rfl rfl (g_o hG rfl)) rfl (to_an (pc := 0) rw_86_0 rfl (tt_gI (pc := 1) rw_86_1 (g_o hG rfl) (v := (N.2.1 1 7)) rfl (to_c (pc := 4) rw_86_4 (x := (4 : Int32)) rfl rfl (b_cne (pc := 5) rw_86_5 (A := (N.2.1 1 7).toInt) (B := 4) rfl rfl (fun h3 => ?_) (fun h3 => ?_)))))))
      · refine to_c (pc := 20) rw_86_20 (x := (0 : Int32)) rfl rfl (s_r1 (pc := 21) rw_86_21 (A := 0) rfl (by decide) (b_ieq_t (pc := 28) rw_58_28 (A := 0) rfl (by decide) (to_c (pc := 64) rw_58_64 (x := (1 : Int32)) rfl rfl (s_r1 (pc := 65) rw_58_65 (A := 1) rfl (by decide) ?_))))
        have k_4 : (1 : Int32).toInt = 1 := rfl
        exact h (1 : Int32) N hG F0 (by decide) (by decide) g4
      · refine to_an (pc := 8) rw_86_8 rfl (tt_gI (pc := 9) rw_86_9 (g_o hG rfl) (v := (N.2.1 1 8)) rfl (to_in (pc := 12) rw_86_12 rfl (b_cne (pc := 13) rw_86_13 (A := (N.2.1 1 8).toInt) (B := 522190848) rfl rfl (fun h5 => ?_) (fun h5 => ?_))))
        · refine to_c (pc := 20) rw_86_20 (x := (0 : Int32)) rfl rfl (s_r1 (pc := 21) rw_86_21 (A := 0) rfl (by decide) (b_ieq_t (pc := 28) rw_58_28 (A := 0) rfl (by decide) (to_c (pc := 64) rw_58_64 (x := (1 : Int32)) rfl rfl (s_r1 (pc := 65) rw_58_65 (A := 1) rfl (by decide) ?_))))
          have k_6 : (1 : Int32).toInt = 1 := rfl
          exact h (1 : Int32) N hG F0 (by decide) (by decide) g4
        · refine to_c (pc := 16) rw_86_16 (x := (1 : Int32)) rfl rfl (to_go (pc := 17) rw_86_17 (s_r1 (pc := 21) rw_86_21 (A := 1) rfl (by decide) (b_ieq_f (pc := 28) rw_58_28 (A := 1) rfl (by decide) (to_an (pc := 31) rw_58_31 rfl (to_an (pc := 32) rw_58_32 rfl (s_v (pc := 33) rw_58_33 (by omega) (ls0 := [.ref q, .ref 1]) rfl (Nat.le_of_ble_eq_true rfl) (Nat.le_of_ble_eq_true rfl) rfl (to_rc rfl rfl rfl (g_o hG (by rcases hq with rfl | rfl <;> rfl))) rfl (C_63 hX (by omega) hG hq (q := q) (fun r7 M12 hG9 F8 p_10 p_11 => ?_))))))))
          have F13 := FR.c F0 F8 tg_146
          refine b_ieq (pc := 36) rw_58_36 (A := r7.toInt) rfl (fun h14 => ?_) (fun h14 => ?_)
          · refine to_c (pc := 49) rw_58_49 (x := (0 : Int32)) rfl rfl (s_r1 (pc := 50) rw_58_50 (A := 0) rfl (by decide) ?_)
            have k_15 : (0 : Int32).toInt = 0 := rfl
            have j_16 := (QI_f (tg_143 F8) g4)
            exact h (0 : Int32) M12 hG9 F13 (by decide) (by decide) j_16
          · refine to_an (pc := 39) rw_58_39 rfl (to_an (pc := 40) rw_58_40 rfl (to_an (pc := 41) rw_58_41 rfl (to_in (pc := 42) rw_58_42 rfl (s_v (pc := 43) rw_58_43 (by omega) (ls0 := [.ref q, .ref 1, .ref p, .int o, .null]) rfl (Nat.le_of_ble_eq_true rfl) (Nat.le_of_ble_eq_true rfl) rfl (to_rc rfl rfl rfl (g_o hG9 (by rcases hq with rfl | rfl <;> rfl))) rfl ?_))))
            have j_17 := (QI_f (tg_143 F8) g4)
            refine C_59 hX (by omega) hG9 hq hp (by omega) (by omega) j_17 hr (q := q) (p := p) (o := o) (fun r18 M24 hG20 F19 p_21 p_22 p_23 => ?_)
            have F25 := FR.c F13 F19 tg_150
            refine b_ine (pc := 46) rw_58_46 (A := r18.toInt) rfl (fun h26 => ?_) (fun h26 => ?_)
            · refine to_an (pc := 51) rw_58_51 rfl (to_c (pc := 52) rw_58_52 (x := (4 : Int32)) rfl rfl (to_c (pc := 53) rw_58_53 (x := (0 : Int32)) rfl rfl (to_c (pc := 54) rw_58_54 (x := (0 : Int32)) rfl rfl (s_v (pc := 55) rw_58_55 (by omega) (ls0 := [.ref q, .int (4 : Int32), .int (0 : Int32), .int (0 : Int32)]) rfl (Nat.le_of_ble_eq_true rfl) (Nat.le_of_ble_eq_true rfl) rfl (to_rc rfl rfl rfl (g_o hG20 (by rcases hq with rfl | rfl <;> rfl))) rfl ?_))))
              have k_27 : (4 : Int32).toInt = 4 := rfl
              have k_28 : (0 : Int32).toInt = 0 := rfl
              refine C_64 hX (by omega) hG20 hq (by omega) (by omega) (by omega) (by omega) (by omega) p_23 (q := q) (k := (4 : Int32)) (f := (0 : Int32)) (s := (0 : Int32)) (fun M32 hG30 F29 p_31 => ?_)
              have F33 := FR.c F25 F29 tg_148
              refine s_inc (pc := 58) rw_58_58 (ls2 := fun v => [.ref q, .ref 1, .ref p, .int o, .int v]) rfl rfl (fun _ => rfl) (A := x4.toInt) (B := 1) rfl rfl (by omega) (fun v34 e35 => to_go (pc := 61) rw_58_61 ?_)
              exact ih M32 v34 hG30 F33 (by omega) (by omega) (by omega) p_31 (by omega)
            · refine to_c (pc := 49) rw_58_49 (x := (0 : Int32)) rfl rfl (s_r1 (pc := 50) rw_58_50 (A := 0) rfl (by decide) ?_)
              have k_36 : (0 : Int32).toInt = 0 := rfl
              exact h (0 : Int32) M24 hG20 F25 (by decide) (by decide) p_23
set_option maxRecDepth 4000 in
set_option maxHeartbeats 0 in
theorem B_58 {X : mm_X} {d : Nat} {M : mm_M} {Q : Option Value → mm_M → Prop} {q : Nat} {p : Nat} {o : Int32} (hX : g_X X) (hd : 5 + 4 * (8 - o.toInt) ≤ (d : Int)) (hG : g_G M) (hq : q = 67 ∨ q = 72) (hp : p = 49 ∨ p = 58) (q1 : 0 ≤ o.toInt) (q2 : o.toInt ≤ 8) (q3 : QI M) (hr : RC_58 (8 - o.toInt)) (h : ∀ (r : Int32) (M1 : mm_M), g_G M1 → FR md_qt M M1 → (0 ≤ r.toInt) → (r.toInt ≤ 1) → QI M1 → Q (some (.int r)) M1) : mm_T X d 58 0 [.ref q, .ref 1, .ref p, .int o, .null] [] M Q := by
  have F0 : FR md_qt M M := FR.rf
  refine to_an (pc := 0) rw_58_0 rfl (to_an (pc := 1) rw_58_1 rfl (to_an (pc := 2) rw_58_2 rfl (to_in (pc := 3) rw_58_3 rfl (s_v (pc := 4) rw_58_4 (by omega) (ls0 := [.ref q, .ref 1, .ref p, .int o, .null]) rfl (Nat.le_of_ble_eq_true rfl) (Nat.le_of_ble_eq_true rfl) rfl (to_rc rfl rfl rfl (g_o hG (by rcases hq with rfl | rfl <;> rfl))) rfl (C_59 hX (by omega) hG hq hp (by omega) (by omega) q3 hr (q := q) (p := p) (o := o) (fun r37 M43 hG39 F38 p_40 p_41 p_42 => ?_))))))
  have F44 := FR.c F0 F38 tg_150
  refine b_ine (pc := 7) rw_58_7 (A := r37.toInt) rfl (fun h45 => ?_) (fun h45 => ?_)
  · refine to_c (pc := 12) rw_58_12 (x := (0 : Int32)) rfl rfl (to_is (pc := 13) rw_58_13 (ls2 := [.ref q, .ref 1, .ref p, .int o, .int (0 : Int32)]) rfl rfl ?_)
    have k_46 : (0 : Int32).toInt = 0 := rfl
    exact (T_58_0 (q := q) (p := p) (o := o) hX hd hq hp q1 q2 q3 hr h ((41 - (0 : Int32).toInt).toNat + 1)) M43 (0 : Int32) hG39 F44 (by omega) (by omega) (by omega) p_42 (by omega)
  · refine to_c (pc := 10) rw_58_10 (x := (0 : Int32)) rfl rfl (s_r1 (pc := 11) rw_58_11 (A := 0) rfl (by decide) ?_)
    have k_47 : (0 : Int32).toInt = 0 := rfl
    exact h (0 : Int32) M43 hG39 F44 (by decide) (by decide) p_42
theorem RC_58_all : ∀ nn : Nat, RC_58 (nn : Int) := by
  intro nn
  induction nn with
  | zero =>
    intro X d M Q q p o hX hd hG hq hp q1 q2 q3 hm h
    exfalso; omega
  | succ nn ih =>
    intro X d M Q q p o hX hd hG hq hp q1 q2 q3 hm h
    exact B_58 hX hd hG hq hp q1 q2 q3 (fun X2 d2 M2 Q2 q2 p2 o2 e71 e72 e73 hq2 hp2 q12 q22 q32 hm2 h2 => ih X2 d2 M2 Q2 q2 p2 o2 e71 e72 e73 hq2 hp2 q12 q22 q32 (by omega) h2) h
theorem C_58 {X : mm_X} {d : Nat} {M : mm_M} {Q : Option Value → mm_M → Prop} {q : Nat} {p : Nat} {o : Int32} (hX : g_X X) (hd : 5 + 4 * (8 - o.toInt) ≤ (d : Int)) (hG : g_G M) (hq : q = 67 ∨ q = 72) (hp : p = 49 ∨ p = 58) (q1 : 0 ≤ o.toInt) (q2 : o.toInt ≤ 8) (q3 : QI M) (h : ∀ (r : Int32) (M1 : mm_M), g_G M1 → FR md_qt M M1 → (0 ≤ r.toInt) → (r.toInt ≤ 1) → QI M1 → Q (some (.int r)) M1) : mm_T X d 58 0 [.ref q, .ref 1, .ref p, .int o, .null] [] M Q := RC_58_all ((8 - o.toInt).toNat + 1) X d M Q q p o hX hd hG hq hp q1 q2 q3 (by omega) h
set_option maxRecDepth 4000 in
set_option maxHeartbeats 0 in
theorem C_57 {X : mm_X} {d : Nat} {M : mm_M} {Q : Option Value → mm_M → Prop} {q : Nat} {p : Nat} (hX : g_X X) (hd : 38 ≤ d) (hG : g_G M) (hq : q = 67 ∨ q = 72) (hp : p = 49 ∨ p = 58) (q1 : QI M) (h : ∀ (r : Int32) (M1 : mm_M), g_G M1 → FR md_qt M M1 → (0 ≤ r.toInt) → (r.toInt ≤ 1) → QI M1 → Q (some (.int r)) M1) : mm_T X d 57 0 [.ref q, .ref 1, .ref p] [] M Q := by
  have F0 : FR md_qt M M := FR.rf
  refine to_an (pc := 0) rw_57_0 rfl (s_v (pc := 1) rw_57_1 (dp0 hd (by decide)) (ls0 := [.ref q]) rfl (Nat.le_of_ble_eq_true rfl) (Nat.le_of_ble_eq_true rfl) rfl (to_rc rfl rfl rfl (g_o hG (by rcases hq with rfl | rfl <;> rfl))) rfl (to_an (pc := 0) rw_56_0 rfl (to_c (pc := 1) rw_56_1 (x := (0 : Int32)) rfl rfl (s_pI (pc := 2) rw_56_2 hG (by rcases hq with rfl | rfl <;> rfl) (fun M2 W1 => ?_)))))
  have hG3 := g_w hG W1 (A := 0) rfl (lo := 0) (hi := 40) (by rcases hq with rfl | rfl <;> rfl) (by rcases hq with rfl | rfl <;> rfl) (by omega) (by omega)
  have F4 := FR.w F0 W1 (show q = 1 ∧ 5 ≤ 4 ∨ 3 ≤ q ∧ q ≤ 5 ∨ 67 ≤ q ∧ q ≤ 76 by omega)
  refine to_an (pc := 5) rw_56_5 rfl (to_c (pc := 6) rw_56_6 (x := (0 : Int32)) rfl rfl (s_pI (pc := 7) rw_56_7 hG3 (by rcases hq with rfl | rfl <;> rfl) (fun M6 W5 => ?_)))
  have hG7 := g_w hG3 W5 (A := 0) rfl (lo := 0) (hi := 40) (by rcases hq with rfl | rfl <;> rfl) (by rcases hq with rfl | rfl <;> rfl) (by omega) (by omega)
  have F8 := FR.w F4 W5 (show q = 1 ∧ 5 ≤ 5 ∨ 3 ≤ q ∧ q ≤ 5 ∨ 67 ≤ q ∧ q ≤ 76 by omega)
  refine to_rv (pc := 10) rw_56_10 (to_an (pc := 4) rw_57_4 rfl (to_an (pc := 5) rw_57_5 rfl (to_an (pc := 6) rw_57_6 rfl (to_c (pc := 7) rw_57_7 (x := (0 : Int32)) rfl rfl (s_v (pc := 8) rw_57_8 (dp0 hd (by decide)) (ls0 := [.ref q, .ref 1, .ref p, .int (0 : Int32), .null]) rfl (Nat.le_of_ble_eq_true rfl) (Nat.le_of_ble_eq_true rfl) rfl (to_rc rfl rfl rfl (g_o hG7 (by rcases hq with rfl | rfl <;> rfl))) rfl ?_)))))
  have k_9 : (0 : Int32).toInt = 0 := rfl
  have j_10 := (QI_f (fun a i z => W_n W5 (by omega) rfl) (QI_f (fun a i z => W_n W1 (by omega) rfl) q1))
  refine C_58 hX (by omega) hG7 hq hp (by omega) (by omega) j_10 (q := q) (p := p) (o := (0 : Int32)) (fun r11 M17 hG13 F12 p_14 p_15 p_16 => ?_)
  have F18 := FR.c F8 F12 tg_150
  refine b_ieq (pc := 11) rw_57_11 (A := r11.toInt) rfl (fun h19 => ?_) (fun h19 => ?_)
  · refine to_c (pc := 25) rw_57_25 (x := (0 : Int32)) rfl rfl (s_r1 (pc := 26) rw_57_26 (A := 0) rfl (by decide) ?_)
    exact h (0 : Int32) M17 hG13 F18 (by decide) (by decide) p_16
  · refine to_an (pc := 14) rw_57_14 rfl (s_v (pc := 15) rw_57_15 (dp0 hd (by decide)) (ls0 := [.ref 1]) rfl (Nat.le_of_ble_eq_true rfl) (Nat.le_of_ble_eq_true rfl) rfl (to_rc rfl rfl rfl (g_o hG13 rfl)) rfl (to_an (pc := 0) rw_87_0 rfl (tt_gI (pc := 1) rw_87_1 (g_o hG13 rfl) (v := (M17.2.1 1 7)) rfl (b_ieq (pc := 4) rw_87_4 (A := (M17.2.1 1 7).toInt) rfl (fun h20 => ?_) (fun h20 => ?_)))))
    · refine to_c (pc := 15) rw_87_15 (x := (1 : Int32)) rfl rfl (to_go (pc := 16) rw_87_16 (s_r1 (pc := 20) rw_87_20 (A := 1) rfl (by decide) (b_ieq_f (pc := 18) rw_57_18 (A := 1) rfl (by decide) (to_c (pc := 21) rw_57_21 (x := (1 : Int32)) rfl rfl (to_go (pc := 22) rw_57_22 (s_r1 (pc := 26) rw_57_26 (A := 1) rfl (by decide) ?_))))))
      have k_21 : (1 : Int32).toInt = 1 := rfl
      exact h (1 : Int32) M17 hG13 F18 (by decide) (by decide) p_16
    · refine to_an (pc := 7) rw_87_7 rfl (to_c (pc := 8) rw_87_8 (x := (1 : Int32)) rfl rfl (s_v (pc := 9) rw_87_9 (dp1 hd (by decide)) (ls0 := [.ref 1, .int (1 : Int32)]) rfl (Nat.le_of_ble_eq_true rfl) (Nat.le_of_ble_eq_true rfl) rfl (to_rc rfl rfl rfl (g_o hG13 rfl)) rfl (to_an (pc := 0) rw_84_0 rfl (to_in (pc := 1) rw_84_1 rfl (s_pI (pc := 2) rw_84_2 hG13 rfl (fun M23 W22 => ?_))))))
      have hG24 := g_wf hG13 W22 rfl rfl (by decide)
      have F25 := FR.w F18 W22 (show 1 = 1 ∧ 5 ≤ 10 ∨ 3 ≤ 1 ∧ 1 ≤ 5 ∨ 67 ≤ 1 ∧ 1 ≤ 76 by decide)
      refine to_an (pc := 5) rw_84_5 rfl (to_an (pc := 6) rw_84_6 rfl ?_)
      have c_26 : M23.2.1 1 9 = (M17.2.1 1 9) := (W_n W22 (by decide) rfl)
      refine tt_gI (pc := 7) rw_84_7 (g_o hG24 rfl) (v := (M17.2.1 1 9)) c_26 (s_pI (pc := 10) rw_84_10 hG24 rfl (fun M28 W27 => ?_))
      have hG29 := g_wf hG24 W27 rfl rfl (by decide)
      have F30 := FR.w F25 W27 (show 1 = 1 ∧ 5 ≤ 11 ∨ 3 ≤ 1 ∧ 1 ≤ 5 ∨ 67 ≤ 1 ∧ 1 ≤ 76 by decide)
      refine to_c (pc := 13) rw_84_13 (x := (0 : Int32)) rfl rfl (s_r1 (pc := 14) rw_84_14 (A := 0) rfl (by decide) (b_ieq_t (pc := 12) rw_87_12 (A := 0) rfl (by decide) (to_c (pc := 19) rw_87_19 (x := (0 : Int32)) rfl rfl (s_r1 (pc := 20) rw_87_20 (A := 0) rfl (by decide) (b_ieq_t (pc := 18) rw_57_18 (A := 0) rfl (by decide) (to_c (pc := 25) rw_57_25 (x := (0 : Int32)) rfl rfl (s_r1 (pc := 26) rw_57_26 (A := 0) rfl (by decide) ?_)))))))
      have j_31 := (QI_f (fun a i z => W_n W27 (tg_151 a i z) rfl) (QI_f (fun a i z => W_n W22 (tg_152 a i z) rfl) p_16))
      exact h (0 : Int32) M28 hG29 F30 (by decide) (by decide) j_31
end
section
theorem tg_153 : ∀ a i : Nat, (a < 0) → (a = 71 ∨ a = 76) := fun a i z => by omega
theorem tg_154 : ∀ a i : Nat, (43 ≤ a ∧ a ≤ 48) → (43 ≤ a ∧ a ≤ 48) := fun a i z => by omega
theorem tg_155 : ∀ a i : Nat, (a < 0) → (43 ≤ a ∧ a ≤ 48) := fun a i z => by omega
theorem tg_156 : ∀ a i : Nat, (a < 0) → (42 ≤ a ∧ a ≤ 48) := fun a i z => by omega
theorem tg_157 : ∀ a i : Nat, (43 ≤ a ∧ a ≤ 48) → (42 ≤ a ∧ a ≤ 48) := fun a i z => by omega
set_option maxRecDepth 4000 in
set_option maxHeartbeats 0 in
theorem T_66_0 {X : mm_X} {d : Nat} {M : mm_M} {Q : Option Value → mm_M → Prop} {q : Nat} {p : Nat} {c : Int32} {k : Int32} (hX : g_X X) (hd : 3 ≤ d) (hq : q = 67 ∨ q = 72) (hp : p = 49 ∨ p = 58) (q1 : c.toInt ≤ 30) (q2 : 0 ≤ k.toInt) (q3 : k.toInt ≤ 39) (h : ∀ (r : Int32) (M1 : mm_M), g_G M1 → FR md_0 M M1 → Q (some (.int r)) M1) : ∀ nn9 : Nat, (∀ (N : mm_M) (u0 : Value) (u1 : Value) (u4 : Value) (u5 : Value) (y6 : Int64) (x8 : Int32) (x9 : Int32), g_G N → FR md_0 M N → (0 ≤ x9.toInt) → (x9.toInt ≤ 30) → 30 - x9.toInt < (nn9 : Int) → mm_T X d 66 64 [u0, u1, .ref 11, .int c, u4, u5, .long y6, .null, .int x8, .int x9] [] N Q) := by
  intro nn9
  induction nn9 with
  | zero =>
    intro N u0 u1 u4 u5 y6 x8 x9 hG F0 g1 g2 hm
    exfalso; omega
  | succ nn9 ih =>
    intro N u0 u1 u4 u5 y6 x8 x9 hG F0 g1 g2 hm
    refine to_i (pc := 64) rw_66_64 rfl (to_in (pc := 66) rw_66_66 rfl (b_cge (pc := 67) rw_66_67 (A := x9.toInt) (B := c.toInt) rfl rfl (fun h1 => ?_) (fun h1 => ?_)))
    · refine to_i (pc := 96) rw_66_96 rfl (to_r0 (pc := 98) rw_66_98 ?_)
      exact h x8 N hG F0 
    · refine to_an (pc := 70) rw_66_70 rfl (to_i (pc := 71) rw_66_71 rfl (to_l (pc := 73) rw_66_73 rfl rfl rfl (s_v (pc := 75) rw_66_75 (dp0 hd (by decide)) (ls0 := [.ref 11, .int x9, .long y6, .null]) rfl (Nat.le_of_ble_eq_true rfl) (Nat.le_of_ble_eq_true rfl) rfl (to_rc rfl rfl rfl (g_o hG rfl)) rfl (to_an (pc := 0) rw_14_0 rfl (s_gR (pc := 1) rw_14_1 hG rfl (v := 12) rfl (to_in (pc := 4) rw_14_4 rfl (s_lal (pc := 5) rw_14_5 hG rfl (n := 30) rfl (A := x9.toInt) rfl (by omega) (by omega) (fun l2 => to_ln (pc := 6) rw_14_6 rfl rfl rfl (s_anyL (pc := 7) rw_14_7 (fun _ _ => rfl) (fun l3 => to_ln (pc := 8) rw_14_8 rfl rfl rfl (s_lcmp (pc := 9) rw_14_9 (fun v4 => ?_))))))))))))
      refine b_ine (pc := 10) rw_14_10 (A := v4.toInt) rfl (fun h5 => ?_) (fun h5 => ?_)
      · refine to_c (pc := 17) rw_14_17 (x := (0 : Int32)) rfl rfl (s_r1 (pc := 18) rw_14_18 (A := 0) rfl (by decide) (b_ieq_t (pc := 78) rw_66_78 (A := 0) rfl (by decide) (s_inc (pc := 90) rw_66_90 (ls2 := fun v => [u0, u1, .ref 11, .int c, u4, u5, .long y6, .null, .int x8, .int v]) rfl rfl (fun _ => rfl) (A := x9.toInt) (B := 1) rfl rfl (by omega) (fun v6 e7 => to_go (pc := 93) rw_66_93 ?_))))
        exact ih N (u0) (u1) (u4) (u5) y6 x8 v6 hG F0 (by omega) (by omega) (by omega)
      · refine to_c (pc := 13) rw_14_13 (x := (1 : Int32)) rfl rfl (to_go (pc := 14) rw_14_14 (s_r1 (pc := 18) rw_14_18 (A := 1) rfl (by decide) (b_ieq_f (pc := 78) rw_66_78 (A := 1) rfl (by decide) (to_i (pc := 81) rw_66_81 rfl (to_c (pc := 83) rw_66_83 (x := (1 : Int32)) rfl rfl (to_i (pc := 84) rw_66_84 rfl (s_any (pc := 86) rw_66_86 (fun _ _ => rfl) (fun v8 => s_any (pc := 87) rw_66_87 (fun _ _ => rfl) (fun v9 => to_is (pc := 88) rw_66_88 (ls2 := [u0, u1, .ref 11, .int c, u4, u5, .long y6, .null, .int v9, .int x9]) rfl rfl (s_inc (pc := 90) rw_66_90 (ls2 := fun v => [u0, u1, .ref 11, .int c, u4, u5, .long y6, .null, .int v9, .int v]) rfl rfl (fun _ => rfl) (A := x9.toInt) (B := 1) rfl rfl (by omega) (fun v10 e11 => to_go (pc := 93) rw_66_93 ?_)))))))))))
        exact ih N (u0) (u1) (u4) (u5) y6 v9 v10 hG F0 (by omega) (by omega) (by omega)
set_option maxRecDepth 4000 in
set_option maxHeartbeats 0 in
theorem C_66 {X : mm_X} {d : Nat} {M : mm_M} {Q : Option Value → mm_M → Prop} {q : Nat} {p : Nat} {c : Int32} {k : Int32} (hX : g_X X) (hd : 3 ≤ d) (hG : g_G M) (hq : q = 67 ∨ q = 72) (hp : p = 49 ∨ p = 58) (q1 : c.toInt ≤ 30) (q2 : 0 ≤ k.toInt) (q3 : k.toInt ≤ 39) (h : ∀ (r : Int32) (M1 : mm_M), g_G M1 → FR md_0 M M1 → Q (some (.int r)) M1) : mm_T X d 66 0 [.ref q, .ref p, .ref 11, .int c, .int k, .null, .null, .null, .null, .null] [] M Q := by
  have F0 : FR md_0 M M := FR.rf
  refine to_an (pc := 0) rw_66_0 rfl (s_gR (pc := 1) rw_66_1 hG (by rcases hq with rfl | rfl <;> rfl) (v := (q + 1)) (by rcases hq with rfl | rfl <;> rfl) (to_i (pc := 4) rw_66_4 rfl (s_ial (pc := 6) rw_66_6 hG (by rcases hq with rfl | rfl <;> rfl) (n := 40) (by rcases hq with rfl | rfl <;> rfl) (by rcases hq with rfl | rfl <;> rfl) (A := k.toInt) rfl (by omega) (by omega) (lo := 0) (hi := 4) (by rcases hq with rfl | rfl <;> rfl) (by rcases hq with rfl | rfl <;> rfl) (fun v12 w_13 _ _ => to_c (pc := 7) rw_66_7 (x := (1 : Int32)) rfl rfl (b_cne (pc := 8) rw_66_8 (A := v12.toInt) (B := 1) rfl rfl (fun h14 => ?_) (fun h14 => ?_))))))
  · refine to_c (pc := 15) rw_66_15 (x := (0 : Int32)) rfl rfl (to_is (pc := 16) rw_66_16 (ls2 := [.ref q, .ref p, .ref 11, .int c, .int k, .int (0 : Int32), .null, .null, .null, .null]) rfl rfl (to_i (pc := 18) rw_66_18 rfl (b_ieq_t (pc := 20) rw_66_20 (A := 0) rfl (by decide) (to_an (pc := 38) rw_66_38 rfl (to_an (pc := 39) rw_66_39 rfl (s_gR (pc := 40) rw_66_40 hG (by rcases hq with rfl | rfl <;> rfl) (v := (q + 2)) (by rcases hq with rfl | rfl <;> rfl) (to_i (pc := 43) rw_66_43 rfl (s_ial (pc := 45) rw_66_45 hG (by rcases hq with rfl | rfl <;> rfl) (n := 40) (by rcases hq with rfl | rfl <;> rfl) (by rcases hq with rfl | rfl <;> rfl) (A := k.toInt) rfl (by omega) (by omega) (lo := 0) (hi := 11) (by rcases hq with rfl | rfl <;> rfl) (by rcases hq with rfl | rfl <;> rfl) (fun v15 w_16 _ _ => to_an (pc := 46) rw_66_46 rfl (s_gR (pc := 47) rw_66_47 hG (by rcases hq with rfl | rfl <;> rfl) (v := (q + 3)) (by rcases hq with rfl | rfl <;> rfl) (to_i (pc := 50) rw_66_50 rfl ?_)))))))))))
    refine s_ial (pc := 52) rw_66_52 hG (by rcases hq with rfl | rfl <;> rfl) (n := 40) (by rcases hq with rfl | rfl <;> rfl) (by rcases hq with rfl | rfl <;> rfl) (A := k.toInt) rfl (by omega) (by omega) (lo := -2147483648) (hi := 2147483647) (by rcases hq with rfl | rfl <;> rfl) (by rcases hq with rfl | rfl <;> rfl) (fun v17 w_18 _ _ => s_v (pc := 53) rw_66_53 (dp0 hd (by decide)) (ls0 := [.ref p, .int v15, .int v17, .null, .null]) rfl (Nat.le_of_ble_eq_true rfl) (Nat.le_of_ble_eq_true rfl) rfl (to_rc rfl rfl rfl (g_o hG (by rcases hp with rfl | rfl <;> rfl))) rfl (C_49 hX (dp1 hd (by decide)) hG hp (p := p) (f := v15) (v := v17) (fun r19 M22 hG21 F20 => ?_)))
    have F23 := FR.c F0 F20 tg_29
    refine to_ls (pc := 56) rw_66_56 (ls2 := [.ref q, .ref p, .ref 11, .int c, .int k, .int (0 : Int32), .long r19, .null, .null, .null]) rfl rfl (to_c (pc := 58) rw_66_58 (x := (0 : Int32)) rfl rfl (to_is (pc := 59) rw_66_59 (ls2 := [.ref q, .ref p, .ref 11, .int c, .int k, .int (0 : Int32), .long r19, .null, .int (0 : Int32), .null]) rfl rfl (to_c (pc := 61) rw_66_61 (x := (0 : Int32)) rfl rfl (to_is (pc := 62) rw_66_62 (ls2 := [.ref q, .ref p, .ref 11, .int c, .int k, .int (0 : Int32), .long r19, .null, .int (0 : Int32), .int (0 : Int32)]) rfl rfl ?_))))
    have k_24 : (0 : Int32).toInt = 0 := rfl
    exact (T_66_0 (q := q) (p := p) (c := c) (k := k) hX hd hq hp q1 q2 q3 h ((30 - (0 : Int32).toInt).toNat + 1)) M22 (.ref q) (.ref p) (.int k) (.int (0 : Int32)) r19 (0 : Int32) (0 : Int32) hG21 F23 (by omega) (by omega) (by omega)
  · refine to_c (pc := 11) rw_66_11 (x := (1 : Int32)) rfl rfl (to_go (pc := 12) rw_66_12 (to_is (pc := 16) rw_66_16 (ls2 := [.ref q, .ref p, .ref 11, .int c, .int k, .int (1 : Int32), .null, .null, .null, .null]) rfl rfl (to_i (pc := 18) rw_66_18 rfl (b_ieq_f (pc := 20) rw_66_20 (A := 1) rfl (by decide) (to_an (pc := 23) rw_66_23 rfl (s_gR (pc := 24) rw_66_24 hG rfl (v := 15) rfl (to_an (pc := 27) rw_66_27 rfl (s_gR (pc := 28) rw_66_28 hG (by rcases hq with rfl | rfl <;> rfl) (v := (q + 2)) (by rcases hq with rfl | rfl <;> rfl) (to_i (pc := 31) rw_66_31 rfl (s_ial (pc := 33) rw_66_33 hG (by rcases hq with rfl | rfl <;> rfl) (n := 40) (by rcases hq with rfl | rfl <;> rfl) (by rcases hq with rfl | rfl <;> rfl) (A := k.toInt) rfl (by omega) (by omega) (lo := 0) (hi := 11) (by rcases hq with rfl | rfl <;> rfl) (by rcases hq with rfl | rfl <;> rfl) (fun v25 w_26 _ _ => s_lal (pc := 34) rw_66_34 hG rfl (n := 12) rfl (A := v25.toInt) rfl (by omega) (by omega) (fun l27 => ?_))))))))))))
    refine to_go (pc := 35) rw_66_35 (to_ls (pc := 56) rw_66_56 (ls2 := [.ref q, .ref p, .ref 11, .int c, .int k, .int (1 : Int32), .long l27, .null, .null, .null]) rfl rfl (to_c (pc := 58) rw_66_58 (x := (0 : Int32)) rfl rfl (to_is (pc := 59) rw_66_59 (ls2 := [.ref q, .ref p, .ref 11, .int c, .int k, .int (1 : Int32), .long l27, .null, .int (0 : Int32), .null]) rfl rfl (to_c (pc := 61) rw_66_61 (x := (0 : Int32)) rfl rfl (to_is (pc := 62) rw_66_62 (ls2 := [.ref q, .ref p, .ref 11, .int c, .int k, .int (1 : Int32), .long l27, .null, .int (0 : Int32), .int (0 : Int32)]) rfl rfl ?_)))))
    have k_28 : (0 : Int32).toInt = 0 := rfl
    exact (T_66_0 (q := q) (p := p) (c := c) (k := k) hX hd hq hp q1 q2 q3 h ((30 - (0 : Int32).toInt).toNat + 1)) M (.ref q) (.ref p) (.int k) (.int (1 : Int32)) l27 (0 : Int32) (0 : Int32) hG F0 (by omega) (by omega) (by omega)
set_option maxRecDepth 4000 in
set_option maxHeartbeats 0 in
theorem T_67_0 {X : mm_X} {d : Nat} {M : mm_M} {Q : Option Value → mm_M → Prop} {q : Nat} {c : Int32} {k : Int32} (hX : g_X X) (hd : 1 ≤ d) (hq : q = 67 ∨ q = 72) (q1 : c.toInt ≤ 30) (q2 : 0 ≤ k.toInt) (q3 : k.toInt ≤ 39) (q4 : (M.2.1 (q + 1) (k.toInt).toNat).toInt ≤ 1) (q5 : QI M) (h : ∀ (r : Int32) (M1 : mm_M), g_G M1 → FR md_0 M M1 → Q (some (.int r)) M1) : ∀ nn9 : Nat, (∀ (N : mm_M) (x4 : Int32) (x5 : Int32) (x6 : Int32) (u7 : Value), g_G N → FR md_0 M N → (0 ≤ x6.toInt) → (x6.toInt ≤ 30) → (0 ≤ x4.toInt) → (x4.toInt ≤ 1) → (x4.toInt = 0 → (N.2.1 (q + 1) (k.toInt).toNat).toInt = 0) → (QI N) → 30 - x6.toInt < (nn9 : Int) → mm_T X d 67 23 [.ref q, .ref 11, .int c, .int k, .int x4, .int x5, .int x6, u7] [] N Q) := by
  intro nn9
  induction nn9 with
  | zero =>
    intro N x4 x5 x6 u7 hG F0 g1 g2 g3 g4 g5 g6 hm
    exfalso; omega
  | succ nn9 ih =>
    intro N x4 x5 x6 u7 hG F0 g1 g2 g3 g4 g5 g6 hm
    refine to_i (pc := 23) rw_67_23 rfl (to_in (pc := 25) rw_67_25 rfl (b_cge (pc := 26) rw_67_26 (A := x6.toInt) (B := c.toInt) rfl rfl (fun h1 => ?_) (fun h1 => ?_)))
    · refine to_i (pc := 97) rw_67_97 rfl (to_r0 (pc := 99) rw_67_99 ?_)
      exact h x5 N hG F0 
    · refine to_i (pc := 29) rw_67_29 rfl (b_ieq (pc := 31) rw_67_31 (A := x4.toInt) rfl (fun h2 => ?_) (fun h2 => ?_))
      · refine to_an (pc := 49) rw_67_49 rfl (to_i (pc := 50) rw_67_50 rfl (to_an (pc := 52) rw_67_52 rfl (s_gR (pc := 53) rw_67_53 hG (by rcases hq with rfl | rfl <;> rfl) (v := (q + 2)) (by rcases hq with rfl | rfl <;> rfl) (to_in (pc := 56) rw_67_56 rfl (s_ial (pc := 57) rw_67_57 hG (by rcases hq with rfl | rfl <;> rfl) (n := 40) (by rcases hq with rfl | rfl <;> rfl) (by rcases hq with rfl | rfl <;> rfl) (A := k.toInt) rfl (by omega) (by omega) (lo := 0) (hi := 11) (by rcases hq with rfl | rfl <;> rfl) (by rcases hq with rfl | rfl <;> rfl) (fun v3 w_4 _ _ => ?_))))))
        have t_5 := congrArg Int32.toInt w_4
        have j_6 := QI_u g6 hq (k.toInt).toNat
        refine s_v (pc := 58) rw_67_58 (dp0 hd (by decide)) (ls0 := [.ref 11, .int x6, .int v3]) rfl (Nat.le_of_ble_eq_true rfl) (Nat.le_of_ble_eq_true rfl) rfl (to_rc rfl rfl rfl (g_o hG rfl)) rfl (to_an (pc := 0) rw_12_0 rfl (s_gR (pc := 1) rw_12_1 hG rfl (v := 14) rfl (to_in (pc := 4) rw_12_4 rfl (to_c (pc := 5) rw_12_5 (x := (8 : Int32)) rfl rfl (s_mul (pc := 7) rw_12_7 (A := x6.toInt) (B := 8) rfl rfl (by omega) (fun v7 e8 => to_in (pc := 8) rw_12_8 rfl (s_add (pc := 9) rw_12_9 (A := v7.toInt) (B := v3.toInt) rfl rfl (by omega) (fun v9 e10 => s_ial (pc := 10) rw_12_10 hG rfl (n := 240) rfl rfl (A := v9.toInt) rfl (by omega) (by omega) (lo := -2147483648) (hi := 2147483647) rfl rfl (fun v11 w_12 _ _ => to_r0 (pc := 11) rw_12_11 (to_an (pc := 61) rw_67_61 rfl (s_gR (pc := 62) rw_67_62 hG (by rcases hq with rfl | rfl <;> rfl) (v := (q + 3)) (by rcases hq with rfl | rfl <;> rfl) ?_)))))))))))
        refine to_in (pc := 65) rw_67_65 rfl (s_ial (pc := 66) rw_67_66 hG (by rcases hq with rfl | rfl <;> rfl) (n := 40) (by rcases hq with rfl | rfl <;> rfl) (by rcases hq with rfl | rfl <;> rfl) (A := k.toInt) rfl (by omega) (by omega) (lo := -2147483648) (hi := 2147483647) (by rcases hq with rfl | rfl <;> rfl) (by rcases hq with rfl | rfl <;> rfl) (fun v13 w_14 _ _ => b_cne (pc := 67) rw_67_67 (A := v11.toInt) (B := v13.toInt) rfl rfl (fun h15 => ?_) (fun h15 => ?_)))
        · refine to_c (pc := 74) rw_67_74 (x := (0 : Int32)) rfl rfl (to_is (pc := 75) rw_67_75 (ls2 := [.ref q, .ref 11, .int c, .int k, .int x4, .int x5, .int x6, .int (0 : Int32)]) rfl rfl (to_i (pc := 77) rw_67_77 rfl (b_ieq_t (pc := 79) rw_67_79 (A := 0) rfl (by decide) (s_inc (pc := 91) rw_67_91 (ls2 := fun v => [.ref q, .ref 11, .int c, .int k, .int x4, .int x5, .int v, .int (0 : Int32)]) rfl rfl (fun _ => rfl) (A := x6.toInt) (B := 1) rfl rfl (by omega) (fun v16 e17 => to_go (pc := 94) rw_67_94 ?_)))))
          exact ih N x4 x5 v16 (.int (0 : Int32)) hG F0 (by omega) (by omega) (by omega) (by omega) (by omega) g6 (by omega)
        · refine to_c (pc := 70) rw_67_70 (x := (1 : Int32)) rfl rfl (to_go (pc := 71) rw_67_71 (to_is (pc := 75) rw_67_75 (ls2 := [.ref q, .ref 11, .int c, .int k, .int x4, .int x5, .int x6, .int (1 : Int32)]) rfl rfl (to_i (pc := 77) rw_67_77 rfl (b_ieq_f (pc := 79) rw_67_79 (A := 1) rfl (by decide) (to_i (pc := 82) rw_67_82 rfl (to_c (pc := 84) rw_67_84 (x := (1 : Int32)) rfl rfl (to_i (pc := 85) rw_67_85 rfl (s_any (pc := 87) rw_67_87 (fun _ _ => rfl) (fun v18 => s_any (pc := 88) rw_67_88 (fun _ _ => rfl) (fun v19 => to_is (pc := 89) rw_67_89 (ls2 := [.ref q, .ref 11, .int c, .int k, .int x4, .int v19, .int x6, .int (1 : Int32)]) rfl rfl (s_inc (pc := 91) rw_67_91 (ls2 := fun v => [.ref q, .ref 11, .int c, .int k, .int x4, .int v19, .int v, .int (1 : Int32)]) rfl rfl (fun _ => rfl) (A := x6.toInt) (B := 1) rfl rfl (by omega) (fun v20 e21 => ?_))))))))))))
          refine to_go (pc := 94) rw_67_94 ?_
          exact ih N x4 v19 v20 (.int (1 : Int32)) hG F0 (by omega) (by omega) (by omega) (by omega) (by omega) g6 (by omega)
      · refine to_an (pc := 34) rw_67_34 rfl (to_i (pc := 35) rw_67_35 rfl (to_an (pc := 37) rw_67_37 rfl (s_gR (pc := 38) rw_67_38 hG (by rcases hq with rfl | rfl <;> rfl) (v := (q + 2)) (by rcases hq with rfl | rfl <;> rfl) (to_in (pc := 41) rw_67_41 rfl (s_ial (pc := 42) rw_67_42 hG (by rcases hq with rfl | rfl <;> rfl) (n := 40) (by rcases hq with rfl | rfl <;> rfl) (by rcases hq with rfl | rfl <;> rfl) (A := k.toInt) rfl (by omega) (by omega) (lo := 0) (hi := 11) (by rcases hq with rfl | rfl <;> rfl) (by rcases hq with rfl | rfl <;> rfl) (fun v22 w_23 _ _ => ?_))))))
        have t_24 := congrArg Int32.toInt w_23
        have j_25 := QI_u g6 hq (k.toInt).toNat
        refine s_v (pc := 43) rw_67_43 (dp0 hd (by decide)) (ls0 := [.ref 11, .int x6, .int v22]) rfl (Nat.le_of_ble_eq_true rfl) (Nat.le_of_ble_eq_true rfl) rfl (to_rc rfl rfl rfl (g_o hG rfl)) rfl (to_an (pc := 0) rw_13_0 rfl (s_gR (pc := 1) rw_13_1 hG rfl (v := 13) rfl (to_in (pc := 4) rw_13_4 rfl (s_ial (pc := 5) rw_13_5 hG rfl (n := 30) rfl rfl (A := x6.toInt) rfl (by omega) (by omega) (lo := -2147483648) (hi := 2147483647) rfl rfl (fun v26 w_27 _ _ => to_in (pc := 6) rw_13_6 rfl (s_any (pc := 7) rw_13_7 (fun _ _ => rfl) (fun v28 => to_c (pc := 8) rw_13_8 (x := (1 : Int32)) rfl rfl (s_and (pc := 9) rw_13_9 (B := 1) rfl (by omega) (fun v29 e30 _ _ => b_ieq (pc := 10) rw_13_10 (A := v29.toInt) rfl (fun h31 => ?_) (fun h31 => ?_))))))))))
        · refine to_c (pc := 17) rw_13_17 (x := (0 : Int32)) rfl rfl (s_r1 (pc := 18) rw_13_18 (A := 0) rfl (by decide) (to_go (pc := 46) rw_67_46 (to_is (pc := 75) rw_67_75 (ls2 := [.ref q, .ref 11, .int c, .int k, .int x4, .int x5, .int x6, .int (0 : Int32)]) rfl rfl (to_i (pc := 77) rw_67_77 rfl (b_ieq_t (pc := 79) rw_67_79 (A := 0) rfl (by decide) (s_inc (pc := 91) rw_67_91 (ls2 := fun v => [.ref q, .ref 11, .int c, .int k, .int x4, .int x5, .int v, .int (0 : Int32)]) rfl rfl (fun _ => rfl) (A := x6.toInt) (B := 1) rfl rfl (by omega) (fun v32 e33 => to_go (pc := 94) rw_67_94 ?_)))))))
          exact ih N x4 x5 v32 (.int (0 : Int32)) hG F0 (by omega) (by omega) (by omega) (by omega) (by omega) g6 (by omega)
        · refine to_c (pc := 13) rw_13_13 (x := (1 : Int32)) rfl rfl (to_go (pc := 14) rw_13_14 (s_r1 (pc := 18) rw_13_18 (A := 1) rfl (by decide) (to_go (pc := 46) rw_67_46 (to_is (pc := 75) rw_67_75 (ls2 := [.ref q, .ref 11, .int c, .int k, .int x4, .int x5, .int x6, .int (1 : Int32)]) rfl rfl (to_i (pc := 77) rw_67_77 rfl (b_ieq_f (pc := 79) rw_67_79 (A := 1) rfl (by decide) (to_i (pc := 82) rw_67_82 rfl (to_c (pc := 84) rw_67_84 (x := (1 : Int32)) rfl rfl (to_i (pc := 85) rw_67_85 rfl (s_any (pc := 87) rw_67_87 (fun _ _ => rfl) (fun v34 => s_any (pc := 88) rw_67_88 (fun _ _ => rfl) (fun v35 => ?_))))))))))))
          refine to_is (pc := 89) rw_67_89 (ls2 := [.ref q, .ref 11, .int c, .int k, .int x4, .int v35, .int x6, .int (1 : Int32)]) rfl rfl (s_inc (pc := 91) rw_67_91 (ls2 := fun v => [.ref q, .ref 11, .int c, .int k, .int x4, .int v35, .int v, .int (1 : Int32)]) rfl rfl (fun _ => rfl) (A := x6.toInt) (B := 1) rfl rfl (by omega) (fun v36 e37 => to_go (pc := 94) rw_67_94 ?_))
          exact ih N x4 v35 v36 (.int (1 : Int32)) hG F0 (by omega) (by omega) (by omega) (by omega) (by omega) g6 (by omega)
set_option maxRecDepth 4000 in
set_option maxHeartbeats 0 in
theorem C_67 {X : mm_X} {d : Nat} {M : mm_M} {Q : Option Value → mm_M → Prop} {q : Nat} {c : Int32} {k : Int32} (hX : g_X X) (hd : 1 ≤ d) (hG : g_G M) (hq : q = 67 ∨ q = 72) (q1 : c.toInt ≤ 30) (q2 : 0 ≤ k.toInt) (q3 : k.toInt ≤ 39) (q4 : (M.2.1 (q + 1) (k.toInt).toNat).toInt ≤ 1) (q5 : QI M) (h : ∀ (r : Int32) (M1 : mm_M), g_G M1 → FR md_0 M M1 → Q (some (.int r)) M1) : mm_T X d 67 0 [.ref q, .ref 11, .int c, .int k, .null, .null, .null, .null] [] M Q := by
  have F0 : FR md_0 M M := FR.rf
  refine to_an (pc := 0) rw_67_0 rfl (s_gR (pc := 1) rw_67_1 hG (by rcases hq with rfl | rfl <;> rfl) (v := (q + 1)) (by rcases hq with rfl | rfl <;> rfl) (to_in (pc := 4) rw_67_4 rfl (s_ial (pc := 5) rw_67_5 hG (by rcases hq with rfl | rfl <;> rfl) (n := 40) (by rcases hq with rfl | rfl <;> rfl) (by rcases hq with rfl | rfl <;> rfl) (A := k.toInt) rfl (by omega) (by omega) (lo := 0) (hi := 4) (by rcases hq with rfl | rfl <;> rfl) (by rcases hq with rfl | rfl <;> rfl) (fun v38 w_39 _ _ => ?_))))
  have t_40 := congrArg Int32.toInt w_39
  refine to_c (pc := 6) rw_67_6 (x := (1 : Int32)) rfl rfl (b_cne (pc := 7) rw_67_7 (A := v38.toInt) (B := 1) rfl rfl (fun h41 => ?_) (fun h41 => ?_))
  · refine to_c (pc := 14) rw_67_14 (x := (0 : Int32)) rfl rfl (to_is (pc := 15) rw_67_15 (ls2 := [.ref q, .ref 11, .int c, .int k, .int (0 : Int32), .null, .null, .null]) rfl rfl (to_c (pc := 17) rw_67_17 (x := (0 : Int32)) rfl rfl (to_is (pc := 18) rw_67_18 (ls2 := [.ref q, .ref 11, .int c, .int k, .int (0 : Int32), .int (0 : Int32), .null, .null]) rfl rfl (to_c (pc := 20) rw_67_20 (x := (0 : Int32)) rfl rfl (to_is (pc := 21) rw_67_21 (ls2 := [.ref q, .ref 11, .int c, .int k, .int (0 : Int32), .int (0 : Int32), .int (0 : Int32), .null]) rfl rfl ?_)))))
    have k_42 : (0 : Int32).toInt = 0 := rfl
    exact (T_67_0 (q := q) (c := c) (k := k) hX hd hq q1 q2 q3 q4 q5 h ((30 - (0 : Int32).toInt).toNat + 1)) M (0 : Int32) (0 : Int32) (0 : Int32) (.null) hG F0 (by omega) (by omega) (by omega) (by omega) (by omega) q5 (by omega)
  · refine to_c (pc := 10) rw_67_10 (x := (1 : Int32)) rfl rfl (to_go (pc := 11) rw_67_11 (to_is (pc := 15) rw_67_15 (ls2 := [.ref q, .ref 11, .int c, .int k, .int (1 : Int32), .null, .null, .null]) rfl rfl (to_c (pc := 17) rw_67_17 (x := (0 : Int32)) rfl rfl (to_is (pc := 18) rw_67_18 (ls2 := [.ref q, .ref 11, .int c, .int k, .int (1 : Int32), .int (0 : Int32), .null, .null]) rfl rfl (to_c (pc := 20) rw_67_20 (x := (0 : Int32)) rfl rfl (to_is (pc := 21) rw_67_21 (ls2 := [.ref q, .ref 11, .int c, .int k, .int (1 : Int32), .int (0 : Int32), .int (0 : Int32), .null]) rfl rfl ?_))))))
    have k_43 : (1 : Int32).toInt = 1 := rfl
    have k_44 : (0 : Int32).toInt = 0 := rfl
    exact (T_67_0 (q := q) (c := c) (k := k) hX hd hq q1 q2 q3 q4 q5 h ((30 - (0 : Int32).toInt).toNat + 1)) M (1 : Int32) (0 : Int32) (0 : Int32) (.null) hG F0 (by omega) (by omega) (by omega) (by omega) (by omega) q5 (by omega)
set_option maxRecDepth 4000 in
set_option maxHeartbeats 0 in
theorem T_65_0 {X : mm_X} {d : Nat} {M : mm_M} {Q : Option Value → mm_M → Prop} {q : Nat} {p : Nat} {c : Int32} {t : Int32} (hX : g_X X) (hd : 4 ≤ d) (hq : q = 67 ∨ q = 72) (hp : p = 49 ∨ p = 58) (q1 : 0 ≤ c.toInt) (q2 : c.toInt ≤ 30) (q3 : 0 ≤ t.toInt) (q4 : t.toInt ≤ 1) (q5 : QI M) (h : ∀ (r : Int32) (M1 : mm_M), g_G M1 → FR md_qa M M1 → Q (some (.int r)) M1) : ∀ nn9 : Nat, (∀ (N : mm_M) (x5 : Int32) (x6 : Int32) (x7 : Int32) (u8 : Value), g_G N → FR md_qa M N → (-1 ≤ x6.toInt) → (x6.toInt ≤ 39) → (x6.toInt + 1 ≤ x7.toInt) → (0 ≤ x7.toInt) → (x7.toInt ≤ 40) → (QI N) → 40 - x7.toInt < (nn9 : Int) → mm_T X d 65 16 [.ref q, .ref p, .ref 11, .int c, .int t, .int x5, .int x6, .int x7, u8] [] N Q) := by
  intro nn9
  induction nn9 with
  | zero =>
    intro N x5 x6 x7 u8 hG F0 g1 g2 g3 g4 g5 g6 hm
    exfalso; omega
  | succ nn9 ih =>
    intro N x5 x6 x7 u8 hG F0 g1 g2 g3 g4 g5 g6 hm
    refine to_i (pc := 16) rw_65_16 rfl (to_an (pc := 18) rw_65_18 rfl ?_)
    have b_1 := g_b hG (a := q) (i := 5) (lo := 0) (hi := 40) (by rcases hq with rfl | rfl <;> rfl) (by rcases hq with rfl | rfl <;> rfl)
    refine tt_gI (pc := 19) rw_65_19 (g_o hG (by rcases hq with rfl | rfl <;> rfl)) (v := (N.2.1 q 5)) rfl (b_cge (pc := 22) rw_65_22 (A := x7.toInt) (B := (N.2.1 q 5).toInt) rfl rfl (fun h2 => ?_) (fun h2 => ?_))
    · refine to_i (pc := 196) rw_65_196 rfl (b_ilt (pc := 198) rw_65_198 (A := x6.toInt) rfl (fun h3 => ?_) (fun h3 => ?_))
      · refine to_c (pc := 210) rw_65_210 (x := (0 : Int32)) rfl rfl (to_r0 (pc := 211) rw_65_211 ?_)
        have k_4 : (0 : Int32).toInt = 0 := rfl
        exact h (0 : Int32) N hG F0 
      · refine to_an (pc := 201) rw_65_201 rfl (s_gR (pc := 202) rw_65_202 hG (by rcases hq with rfl | rfl <;> rfl) (v := (q + 4)) (by rcases hq with rfl | rfl <;> rfl) (to_c (pc := 205) rw_65_205 (x := (0 : Int32)) rfl rfl (s_ial (pc := 206) rw_65_206 hG (by rcases hq with rfl | rfl <;> rfl) (n := 40) (by rcases hq with rfl | rfl <;> rfl) (by rcases hq with rfl | rfl <;> rfl) (A := 0) rfl (by omega) (by omega) (lo := -2147483648) (hi := 2147483647) (by rcases hq with rfl | rfl <;> rfl) (by rcases hq with rfl | rfl <;> rfl) (fun v5 w_6 _ _ => to_go (pc := 207) rw_65_207 (to_r0 (pc := 211) rw_65_211 ?_)))))
        exact h v5 N hG F0 
    · refine to_an (pc := 25) rw_65_25 rfl (s_gR (pc := 26) rw_65_26 hG (by rcases hq with rfl | rfl <;> rfl) (v := (q + 1)) (by rcases hq with rfl | rfl <;> rfl) (to_i (pc := 29) rw_65_29 rfl (s_ial (pc := 31) rw_65_31 hG (by rcases hq with rfl | rfl <;> rfl) (n := 40) (by rcases hq with rfl | rfl <;> rfl) (by rcases hq with rfl | rfl <;> rfl) (A := x7.toInt) rfl (by omega) (by omega) (lo := 0) (hi := 4) (by rcases hq with rfl | rfl <;> rfl) (by rcases hq with rfl | rfl <;> rfl) (fun v7 w_8 _ _ => ?_))))
      have t_9 := congrArg Int32.toInt w_8
      refine b_ieq (pc := 32) rw_65_32 (A := v7.toInt) rfl (fun h10 => ?_) (fun h10 => ?_)
      · refine s_inc (pc := 46) rw_65_46 (ls2 := fun v => [.ref q, .ref p, .ref 11, .int c, .int t, .int x5, .int v, .int x7, u8]) rfl rfl (fun _ => rfl) (A := x6.toInt) (B := 1) rfl rfl (by omega) (fun v11 e12 => to_an (pc := 49) rw_65_49 rfl (s_gR (pc := 50) rw_65_50 hG (by rcases hq with rfl | rfl <;> rfl) (v := (q + 4)) (by rcases hq with rfl | rfl <;> rfl) (to_i (pc := 53) rw_65_53 rfl (to_i (pc := 55) rw_65_55 rfl (b_ieq (pc := 57) rw_65_57 (A := t.toInt) rfl (fun h13 => ?_) (fun h13 => ?_))))))
        · refine to_an (pc := 71) rw_65_71 rfl (to_an (pc := 72) rw_65_72 rfl (to_an (pc := 73) rw_65_73 rfl (to_in (pc := 74) rw_65_74 rfl (to_i (pc := 75) rw_65_75 rfl (s_v (pc := 77) rw_65_77 (dp0 hd (by decide)) (ls0 := [.ref q, .ref p, .ref 11, .int c, .int x7, .null, .null, .null, .null, .null]) rfl (Nat.le_of_ble_eq_true rfl) (Nat.le_of_ble_eq_true rfl) rfl (to_rc rfl rfl rfl (g_o hG (by rcases hq with rfl | rfl <;> rfl))) rfl (C_66 hX (dp1 hd (by decide)) hG hq hp (by omega) (by omega) (by omega) (q := q) (p := p) (c := c) (k := x7) (fun r14 M17 hG16 F15 => ?_)))))))
          have F18 := FR.c F0 F15 tg_153
          refine s_ias (pc := 80) rw_65_80 hG16 (by rcases hq with rfl | rfl <;> rfl) (n := 40) (by rcases hq with rfl | rfl <;> rfl) (A := v11.toInt) rfl (by omega) (by omega) (fun M20 W19 => ?_)
          have hG21 := g_wf hG16 W19 (by rcases hq with rfl | rfl <;> rfl) (by rcases hq with rfl | rfl <;> rfl) (by omega)
          have F22 := FR.w F18 W19 (show (q + 4) = 71 ∨ (q + 4) = 76 by omega)
          refine to_go (pc := 81) rw_65_81 (s_inc (pc := 190) rw_65_190 (ls2 := fun v => [.ref q, .ref p, .ref 11, .int c, .int t, .int x5, .int v11, .int v, u8]) rfl rfl (fun _ => rfl) (A := x7.toInt) (B := 1) rfl rfl (by omega) (fun v23 e24 => to_go (pc := 193) rw_65_193 ?_))
          have j_25 := (QI_f (fun a i z => W_n W19 (by omega) rfl) (QI_f (tg_100 F15) g6))
          exact ih M20 x5 v11 v23 (u8) hG21 F22 (by omega) (by omega) (by omega) (by omega) (by omega) j_25 (by omega)
        · refine to_an (pc := 60) rw_65_60 rfl (to_an (pc := 61) rw_65_61 rfl (to_in (pc := 62) rw_65_62 rfl (to_i (pc := 63) rw_65_63 rfl (s_v (pc := 65) rw_65_65 (dp0 hd (by decide)) (ls0 := [.ref q, .ref 11, .int c, .int x7, .null, .null, .null, .null]) rfl (Nat.le_of_ble_eq_true rfl) (Nat.le_of_ble_eq_true rfl) rfl (to_rc rfl rfl rfl (g_o hG (by rcases hq with rfl | rfl <;> rfl))) rfl (C_67 hX (dp1 hd (by decide)) hG hq (by omega) (by omega) (by omega) (by omega) g6 (q := q) (c := c) (k := x7) (fun r26 M29 hG28 F27 => ?_))))))
          have F30 := FR.c F0 F27 tg_153
          refine to_go (pc := 68) rw_65_68 (s_ias (pc := 80) rw_65_80 hG28 (by rcases hq with rfl | rfl <;> rfl) (n := 40) (by rcases hq with rfl | rfl <;> rfl) (A := v11.toInt) rfl (by omega) (by omega) (fun M32 W31 => ?_))
          have hG33 := g_wf hG28 W31 (by rcases hq with rfl | rfl <;> rfl) (by rcases hq with rfl | rfl <;> rfl) (by omega)
          have F34 := FR.w F30 W31 (show (q + 4) = 71 ∨ (q + 4) = 76 by omega)
          refine to_go (pc := 81) rw_65_81 (s_inc (pc := 190) rw_65_190 (ls2 := fun v => [.ref q, .ref p, .ref 11, .int c, .int t, .int x5, .int v11, .int v, u8]) rfl rfl (fun _ => rfl) (A := x7.toInt) (B := 1) rfl rfl (by omega) (fun v35 e36 => to_go (pc := 193) rw_65_193 ?_))
          have j_37 := (QI_f (fun a i z => W_n W31 (by omega) rfl) (QI_f (tg_100 F27) g6))
          exact ih M32 x5 v11 v35 (u8) hG33 F34 (by omega) (by omega) (by omega) (by omega) (by omega) j_37 (by omega)
      · refine to_an (pc := 35) rw_65_35 rfl (s_gR (pc := 36) rw_65_36 hG (by rcases hq with rfl | rfl <;> rfl) (v := (q + 1)) (by rcases hq with rfl | rfl <;> rfl) (to_i (pc := 39) rw_65_39 rfl (s_ialk (pc := 41) rw_65_41 hG (by rcases hq with rfl | rfl <;> rfl) (n := 40) (by rcases hq with rfl | rfl <;> rfl) (by rcases hq with rfl | rfl <;> rfl) (A := x7.toInt) rfl (by omega) (by omega) (v := v7) w_8 (to_c (pc := 42) rw_65_42 (x := (1 : Int32)) rfl rfl (b_cne (pc := 43) rw_65_43 (A := v7.toInt) (B := 1) rfl rfl (fun h40 => ?_) (fun h40 => ?_))))))
        · refine to_an (pc := 84) rw_65_84 rfl (s_gR (pc := 85) rw_65_85 hG (by rcases hq with rfl | rfl <;> rfl) (v := (q + 1)) (by rcases hq with rfl | rfl <;> rfl) (to_i (pc := 88) rw_65_88 rfl (s_ialk (pc := 90) rw_65_90 hG (by rcases hq with rfl | rfl <;> rfl) (n := 40) (by rcases hq with rfl | rfl <;> rfl) (by rcases hq with rfl | rfl <;> rfl) (A := x7.toInt) rfl (by omega) (by omega) (v := v7) w_8 (to_c (pc := 91) rw_65_91 (x := (2 : Int32)) rfl rfl (b_cne (pc := 92) rw_65_92 (A := v7.toInt) (B := 2) rfl rfl (fun h43 => ?_) (fun h43 => ?_))))))
          · refine to_i (pc := 122) rw_65_122 rfl (to_c (pc := 124) rw_65_124 (x := (1 : Int32)) rfl rfl (b_clt (pc := 125) rw_65_125 (A := x6.toInt) (B := 1) rfl rfl (fun h44 => ?_) (fun h44 => ?_)))
            · refine s_inc (pc := 190) rw_65_190 (ls2 := fun v => [.ref q, .ref p, .ref 11, .int c, .int t, .int x5, .int x6, .int v, u8]) rfl rfl (fun _ => rfl) (A := x7.toInt) (B := 1) rfl rfl (by omega) (fun v45 e46 => to_go (pc := 193) rw_65_193 ?_)
              exact ih N x5 x6 v45 (u8) hG F0 (by omega) (by omega) (by omega) (by omega) (by omega) g6 (by omega)
            · refine to_an (pc := 128) rw_65_128 rfl (s_gR (pc := 129) rw_65_129 hG (by rcases hq with rfl | rfl <;> rfl) (v := (q + 1)) (by rcases hq with rfl | rfl <;> rfl) (to_i (pc := 132) rw_65_132 rfl (s_ialk (pc := 134) rw_65_134 hG (by rcases hq with rfl | rfl <;> rfl) (n := 40) (by rcases hq with rfl | rfl <;> rfl) (by rcases hq with rfl | rfl <;> rfl) (A := x7.toInt) rfl (by omega) (by omega) (v := v7) w_8 (to_c (pc := 135) rw_65_135 (x := (3 : Int32)) rfl rfl (b_cne (pc := 136) rw_65_136 (A := v7.toInt) (B := 3) rfl rfl (fun h49 => ?_) (fun h49 => ?_))))))
              · refine to_an (pc := 159) rw_65_159 rfl (s_gR (pc := 160) rw_65_160 hG (by rcases hq with rfl | rfl <;> rfl) (v := (q + 4)) (by rcases hq with rfl | rfl <;> rfl) (to_i (pc := 163) rw_65_163 rfl (to_c (pc := 165) rw_65_165 (x := (1 : Int32)) rfl rfl (s_sub (pc := 166) rw_65_166 (A := x6.toInt) (B := 1) rfl rfl (by omega) (fun v50 e51 => s_ial (pc := 167) rw_65_167 hG (by rcases hq with rfl | rfl <;> rfl) (n := 40) (by rcases hq with rfl | rfl <;> rfl) (by rcases hq with rfl | rfl <;> rfl) (A := v50.toInt) rfl (by omega) (by omega) (lo := -2147483648) (hi := 2147483647) (by rcases hq with rfl | rfl <;> rfl) (by rcases hq with rfl | rfl <;> rfl) (fun v52 w_53 _ _ => to_an (pc := 168) rw_65_168 rfl (s_gR (pc := 169) rw_65_169 hG (by rcases hq with rfl | rfl <;> rfl) (v := (q + 4)) (by rcases hq with rfl | rfl <;> rfl) (to_i (pc := 172) rw_65_172 rfl (s_ial (pc := 174) rw_65_174 hG (by rcases hq with rfl | rfl <;> rfl) (n := 40) (by rcases hq with rfl | rfl <;> rfl) (by rcases hq with rfl | rfl <;> rfl) (A := x6.toInt) rfl (by omega) (by omega) (lo := -2147483648) (hi := 2147483647) (by rcases hq with rfl | rfl <;> rfl) (by rcases hq with rfl | rfl <;> rfl) (fun v54 w_55 _ _ => s_any (pc := 175) rw_65_175 (fun _ _ => rfl) (fun v56 => to_is (pc := 176) rw_65_176 (ls2 := [.ref q, .ref p, .ref 11, .int c, .int t, .int x5, .int x6, .int x7, .int v56]) rfl rfl ?_)))))))))))
                refine s_inc (pc := 178) rw_65_178 (ls2 := fun v => [.ref q, .ref p, .ref 11, .int c, .int t, .int x5, .int v, .int x7, .int v56]) rfl rfl (fun _ => rfl) (A := x6.toInt) (B := -1) rfl rfl (by omega) (fun v57 e58 => to_an (pc := 181) rw_65_181 rfl (s_gR (pc := 182) rw_65_182 hG (by rcases hq with rfl | rfl <;> rfl) (v := (q + 4)) (by rcases hq with rfl | rfl <;> rfl) (to_i (pc := 185) rw_65_185 rfl (to_i (pc := 187) rw_65_187 rfl (s_ias (pc := 189) rw_65_189 hG (by rcases hq with rfl | rfl <;> rfl) (n := 40) (by rcases hq with rfl | rfl <;> rfl) (A := v57.toInt) rfl (by omega) (by omega) (fun M60 W59 => ?_))))))
                have hG61 := g_wf hG W59 (by rcases hq with rfl | rfl <;> rfl) (by rcases hq with rfl | rfl <;> rfl) (by omega)
                have F62 := FR.w F0 W59 (show (q + 4) = 71 ∨ (q + 4) = 76 by omega)
                refine s_inc (pc := 190) rw_65_190 (ls2 := fun v => [.ref q, .ref p, .ref 11, .int c, .int t, .int x5, .int v57, .int v, .int v56]) rfl rfl (fun _ => rfl) (A := x7.toInt) (B := 1) rfl rfl (by omega) (fun v63 e64 => to_go (pc := 193) rw_65_193 ?_)
                have j_65 := (QI_f (fun a i z => W_n W59 (by omega) rfl) g6)
                exact ih M60 x5 v57 v63 (.int v56) hG61 F62 (by omega) (by omega) (by omega) (by omega) (by omega) j_65 (by omega)
              · refine to_an (pc := 139) rw_65_139 rfl (s_gR (pc := 140) rw_65_140 hG (by rcases hq with rfl | rfl <;> rfl) (v := (q + 4)) (by rcases hq with rfl | rfl <;> rfl) (to_i (pc := 143) rw_65_143 rfl (to_c (pc := 145) rw_65_145 (x := (1 : Int32)) rfl rfl (s_sub (pc := 146) rw_65_146 (A := x6.toInt) (B := 1) rfl rfl (by omega) (fun v66 e67 => s_ial (pc := 147) rw_65_147 hG (by rcases hq with rfl | rfl <;> rfl) (n := 40) (by rcases hq with rfl | rfl <;> rfl) (by rcases hq with rfl | rfl <;> rfl) (A := v66.toInt) rfl (by omega) (by omega) (lo := -2147483648) (hi := 2147483647) (by rcases hq with rfl | rfl <;> rfl) (by rcases hq with rfl | rfl <;> rfl) (fun v68 w_69 _ _ => to_an (pc := 148) rw_65_148 rfl (s_gR (pc := 149) rw_65_149 hG (by rcases hq with rfl | rfl <;> rfl) (v := (q + 4)) (by rcases hq with rfl | rfl <;> rfl) (to_i (pc := 152) rw_65_152 rfl (s_ial (pc := 154) rw_65_154 hG (by rcases hq with rfl | rfl <;> rfl) (n := 40) (by rcases hq with rfl | rfl <;> rfl) (by rcases hq with rfl | rfl <;> rfl) (A := x6.toInt) rfl (by omega) (by omega) (lo := -2147483648) (hi := 2147483647) (by rcases hq with rfl | rfl <;> rfl) (by rcases hq with rfl | rfl <;> rfl) (fun v70 w_71 _ _ => s_any (pc := 155) rw_65_155 (fun _ _ => rfl) (fun v72 => to_go (pc := 156) rw_65_156 ?_)))))))))))
                refine to_is (pc := 176) rw_65_176 (ls2 := [.ref q, .ref p, .ref 11, .int c, .int t, .int x5, .int x6, .int x7, .int v72]) rfl rfl (s_inc (pc := 178) rw_65_178 (ls2 := fun v => [.ref q, .ref p, .ref 11, .int c, .int t, .int x5, .int v, .int x7, .int v72]) rfl rfl (fun _ => rfl) (A := x6.toInt) (B := -1) rfl rfl (by omega) (fun v74 e75 => to_an (pc := 181) rw_65_181 rfl (s_gR (pc := 182) rw_65_182 hG (by rcases hq with rfl | rfl <;> rfl) (v := (q + 4)) (by rcases hq with rfl | rfl <;> rfl) (to_i (pc := 185) rw_65_185 rfl (to_i (pc := 187) rw_65_187 rfl (s_ias (pc := 189) rw_65_189 hG (by rcases hq with rfl | rfl <;> rfl) (n := 40) (by rcases hq with rfl | rfl <;> rfl) (A := v74.toInt) rfl (by omega) (by omega) (fun M77 W76 => ?_)))))))
                have hG78 := g_wf hG W76 (by rcases hq with rfl | rfl <;> rfl) (by rcases hq with rfl | rfl <;> rfl) (by omega)
                have F79 := FR.w F0 W76 (show (q + 4) = 71 ∨ (q + 4) = 76 by omega)
                refine s_inc (pc := 190) rw_65_190 (ls2 := fun v => [.ref q, .ref p, .ref 11, .int c, .int t, .int x5, .int v74, .int v, .int v72]) rfl rfl (fun _ => rfl) (A := x7.toInt) (B := 1) rfl rfl (by omega) (fun v80 e81 => to_go (pc := 193) rw_65_193 ?_)
                have j_82 := (QI_f (fun a i z => W_n W76 (by omega) rfl) g6)
                exact ih M77 x5 v74 v80 (.int v72) hG78 F79 (by omega) (by omega) (by omega) (by omega) (by omega) j_82 (by omega)
          · refine to_i (pc := 95) rw_65_95 rfl (b_ilt (pc := 97) rw_65_97 (A := x6.toInt) rfl (fun h83 => ?_) (fun h83 => ?_))
            · refine to_i (pc := 122) rw_65_122 rfl (to_c (pc := 124) rw_65_124 (x := (1 : Int32)) rfl rfl (b_clt_t (pc := 125) rw_65_125 (A := x6.toInt) (B := 1) rfl rfl (by omega) (s_inc (pc := 190) rw_65_190 (ls2 := fun v => [.ref q, .ref p, .ref 11, .int c, .int t, .int x5, .int x6, .int v, u8]) rfl rfl (fun _ => rfl) (A := x7.toInt) (B := 1) rfl rfl (by omega) (fun v84 e85 => to_go (pc := 193) rw_65_193 ?_))))
              exact ih N x5 x6 v84 (u8) hG F0 (by omega) (by omega) (by omega) (by omega) (by omega) g6 (by omega)
            · refine to_an (pc := 100) rw_65_100 rfl (s_gR (pc := 101) rw_65_101 hG (by rcases hq with rfl | rfl <;> rfl) (v := (q + 4)) (by rcases hq with rfl | rfl <;> rfl) (to_i (pc := 104) rw_65_104 rfl (to_i (pc := 106) rw_65_106 rfl (to_an (pc := 108) rw_65_108 rfl (s_gR (pc := 109) rw_65_109 hG (by rcases hq with rfl | rfl <;> rfl) (v := (q + 4)) (by rcases hq with rfl | rfl <;> rfl) (to_i (pc := 112) rw_65_112 rfl (s_ial (pc := 114) rw_65_114 hG (by rcases hq with rfl | rfl <;> rfl) (n := 40) (by rcases hq with rfl | rfl <;> rfl) (by rcases hq with rfl | rfl <;> rfl) (A := x6.toInt) rfl (by omega) (by omega) (lo := -2147483648) (hi := 2147483647) (by rcases hq with rfl | rfl <;> rfl) (by rcases hq with rfl | rfl <;> rfl) (fun v86 w_87 _ _ => to_c (pc := 115) rw_65_115 (x := (-1 : Int32)) rfl rfl (s_any (pc := 116) rw_65_116 (fun _ _ => rfl) (fun v88 => s_any (pc := 117) rw_65_117 (fun _ _ => rfl) (fun v89 => s_ias (pc := 118) rw_65_118 hG (by rcases hq with rfl | rfl <;> rfl) (n := 40) (by rcases hq with rfl | rfl <;> rfl) (A := x6.toInt) rfl (by omega) (by omega) (fun M92 W91 => ?_))))))))))))
              have hG93 := g_wf hG W91 (by rcases hq with rfl | rfl <;> rfl) (by rcases hq with rfl | rfl <;> rfl) (by omega)
              have F94 := FR.w F0 W91 (show (q + 4) = 71 ∨ (q + 4) = 76 by omega)
              refine to_go (pc := 119) rw_65_119 (s_inc (pc := 190) rw_65_190 (ls2 := fun v => [.ref q, .ref p, .ref 11, .int c, .int t, .int x5, .int x6, .int v, u8]) rfl rfl (fun _ => rfl) (A := x7.toInt) (B := 1) rfl rfl (by omega) (fun v95 e96 => to_go (pc := 193) rw_65_193 ?_))
              have j_97 := (QI_f (fun a i z => W_n W91 (by omega) rfl) g6)
              exact ih M92 x5 x6 v95 (u8) hG93 F94 (by omega) (by omega) (by omega) (by omega) (by omega) j_97 (by omega)
        · refine s_inc (pc := 46) rw_65_46 (ls2 := fun v => [.ref q, .ref p, .ref 11, .int c, .int t, .int x5, .int v, .int x7, u8]) rfl rfl (fun _ => rfl) (A := x6.toInt) (B := 1) rfl rfl (by omega) (fun v98 e99 => to_an (pc := 49) rw_65_49 rfl (s_gR (pc := 50) rw_65_50 hG (by rcases hq with rfl | rfl <;> rfl) (v := (q + 4)) (by rcases hq with rfl | rfl <;> rfl) (to_i (pc := 53) rw_65_53 rfl (to_i (pc := 55) rw_65_55 rfl (b_ieq (pc := 57) rw_65_57 (A := t.toInt) rfl (fun h100 => ?_) (fun h100 => ?_))))))
          · refine to_an (pc := 71) rw_65_71 rfl (to_an (pc := 72) rw_65_72 rfl (to_an (pc := 73) rw_65_73 rfl (to_in (pc := 74) rw_65_74 rfl (to_i (pc := 75) rw_65_75 rfl (s_v (pc := 77) rw_65_77 (dp0 hd (by decide)) (ls0 := [.ref q, .ref p, .ref 11, .int c, .int x7, .null, .null, .null, .null, .null]) rfl (Nat.le_of_ble_eq_true rfl) (Nat.le_of_ble_eq_true rfl) rfl (to_rc rfl rfl rfl (g_o hG (by rcases hq with rfl | rfl <;> rfl))) rfl (C_66 hX (dp1 hd (by decide)) hG hq hp (by omega) (by omega) (by omega) (q := q) (p := p) (c := c) (k := x7) (fun r101 M104 hG103 F102 => ?_)))))))
            have F105 := FR.c F0 F102 tg_153
            refine s_ias (pc := 80) rw_65_80 hG103 (by rcases hq with rfl | rfl <;> rfl) (n := 40) (by rcases hq with rfl | rfl <;> rfl) (A := v98.toInt) rfl (by omega) (by omega) (fun M107 W106 => ?_)
            have hG108 := g_wf hG103 W106 (by rcases hq with rfl | rfl <;> rfl) (by rcases hq with rfl | rfl <;> rfl) (by omega)
            have F109 := FR.w F105 W106 (show (q + 4) = 71 ∨ (q + 4) = 76 by omega)
            refine to_go (pc := 81) rw_65_81 (s_inc (pc := 190) rw_65_190 (ls2 := fun v => [.ref q, .ref p, .ref 11, .int c, .int t, .int x5, .int v98, .int v, u8]) rfl rfl (fun _ => rfl) (A := x7.toInt) (B := 1) rfl rfl (by omega) (fun v110 e111 => to_go (pc := 193) rw_65_193 ?_))
            have j_112 := (QI_f (fun a i z => W_n W106 (by omega) rfl) (QI_f (tg_100 F102) g6))
            exact ih M107 x5 v98 v110 (u8) hG108 F109 (by omega) (by omega) (by omega) (by omega) (by omega) j_112 (by omega)
          · refine to_an (pc := 60) rw_65_60 rfl (to_an (pc := 61) rw_65_61 rfl (to_in (pc := 62) rw_65_62 rfl (to_i (pc := 63) rw_65_63 rfl (s_v (pc := 65) rw_65_65 (dp0 hd (by decide)) (ls0 := [.ref q, .ref 11, .int c, .int x7, .null, .null, .null, .null]) rfl (Nat.le_of_ble_eq_true rfl) (Nat.le_of_ble_eq_true rfl) rfl (to_rc rfl rfl rfl (g_o hG (by rcases hq with rfl | rfl <;> rfl))) rfl (C_67 hX (dp1 hd (by decide)) hG hq (by omega) (by omega) (by omega) (by omega) g6 (q := q) (c := c) (k := x7) (fun r113 M116 hG115 F114 => ?_))))))
            have F117 := FR.c F0 F114 tg_153
            refine to_go (pc := 68) rw_65_68 (s_ias (pc := 80) rw_65_80 hG115 (by rcases hq with rfl | rfl <;> rfl) (n := 40) (by rcases hq with rfl | rfl <;> rfl) (A := v98.toInt) rfl (by omega) (by omega) (fun M119 W118 => ?_))
            have hG120 := g_wf hG115 W118 (by rcases hq with rfl | rfl <;> rfl) (by rcases hq with rfl | rfl <;> rfl) (by omega)
            have F121 := FR.w F117 W118 (show (q + 4) = 71 ∨ (q + 4) = 76 by omega)
            refine to_go (pc := 81) rw_65_81 (s_inc (pc := 190) rw_65_190 (ls2 := fun v => [.ref q, .ref p, .ref 11, .int c, .int t, .int x5, .int v98, .int v, u8]) rfl rfl (fun _ => rfl) (A := x7.toInt) (B := 1) rfl rfl (by omega) (fun v122 e123 => to_go (pc := 193) rw_65_193 ?_))
            have j_124 := (QI_f (fun a i z => W_n W118 (by omega) rfl) (QI_f (tg_100 F114) g6))
            exact ih M119 x5 v98 v122 (u8) hG120 F121 (by omega) (by omega) (by omega) (by omega) (by omega) j_124 (by omega)
set_option maxRecDepth 4000 in
set_option maxHeartbeats 0 in
theorem C_65 {X : mm_X} {d : Nat} {M : mm_M} {Q : Option Value → mm_M → Prop} {q : Nat} {p : Nat} {c : Int32} {t : Int32} (hX : g_X X) (hd : 4 ≤ d) (hG : g_G M) (hq : q = 67 ∨ q = 72) (hp : p = 49 ∨ p = 58) (q1 : 0 ≤ c.toInt) (q2 : c.toInt ≤ 30) (q3 : 0 ≤ t.toInt) (q4 : t.toInt ≤ 1) (q5 : QI M) (h : ∀ (r : Int32) (M1 : mm_M), g_G M1 → FR md_qa M M1 → Q (some (.int r)) M1) : mm_T X d 65 0 [.ref q, .ref p, .ref 11, .int c, .int t, .null, .null, .null, .null] [] M Q := by
  have F0 : FR md_qa M M := FR.rf
  refine to_c (pc := 0) rw_65_0 (x := (0 : Int32)) rfl rfl (to_in (pc := 1) rw_65_1 rfl (to_c (pc := 2) rw_65_2 (x := (1 : Int32)) rfl rfl (s_sub (pc := 3) rw_65_3 (A := c.toInt) (B := 1) rfl rfl (by omega) (fun v125 e126 => s_s (pc := 4) rw_65_4 (dp0 hd (by decide)) (ls0 := [.int (0 : Int32), .int v125]) rfl (Nat.le_of_ble_eq_true rfl) (Nat.le_of_ble_eq_true rfl) rfl (to_rcs rfl rfl) rfl (s_cl (pc := 0) rw_144_0 rfl (fun l127 => to_in (pc := 1) rw_144_1 rfl (to_in (pc := 2) rw_144_2 rfl (s_sub (pc := 3) rw_144_3 (A := v125.toInt) (B := 0) rfl rfl (by omega) (fun v128 e129 => to_c (pc := 4) rw_144_4 (x := (1 : Int32)) rfl rfl (s_add (pc := 5) rw_144_5 (A := v128.toInt) (B := 1) rfl rfl (by omega) (fun v130 e131 => s_anyS (pc := 6) rw_144_6 (fun _ _ => rfl) (fun l132 => ?_))))))))))))
  refine s_cl (pc := 7) rw_144_7 rfl (fun l133 => s_anyL (pc := 8) rw_144_8 (fun _ _ => rfl) (fun l134 => to_in (pc := 9) rw_144_9 rfl (s_anyS (pc := 10) rw_144_10 (fun _ _ => rfl) (fun l135 => to_rl (pc := 11) rw_144_11 (s_l2i (pc := 7) rw_65_7 (fun v136 => to_is (pc := 8) rw_65_8 (ls2 := [.ref q, .ref p, .ref 11, .int c, .int t, .int v136, .null, .null, .null]) rfl rfl (to_c (pc := 10) rw_65_10 (x := (-1 : Int32)) rfl rfl (to_is (pc := 11) rw_65_11 (ls2 := [.ref q, .ref p, .ref 11, .int c, .int t, .int v136, .int (-1 : Int32), .null, .null]) rfl rfl (to_c (pc := 13) rw_65_13 (x := (0 : Int32)) rfl rfl (to_is (pc := 14) rw_65_14 (ls2 := [.ref q, .ref p, .ref 11, .int c, .int t, .int v136, .int (-1 : Int32), .int (0 : Int32), .null]) rfl rfl ?_))))))))))
  have k_137 : (-1 : Int32).toInt = -1 := rfl
  have k_138 : (0 : Int32).toInt = 0 := rfl
  exact (T_65_0 (q := q) (p := p) (c := c) (t := t) hX hd hq hp q1 q2 q3 q4 q5 h ((40 - (0 : Int32).toInt).toNat + 1)) M v136 (-1 : Int32) (0 : Int32) (.null) hG F0 (by omega) (by omega) (by omega) (by omega) (by omega) q5 (by omega)
set_option maxRecDepth 4000 in
set_option maxHeartbeats 0 in
theorem T_69_0 {X : mm_X} {d : Nat} {M : mm_M} {Q : Option Value → mm_M → Prop} {k : Int32} {p : Nat} {f : Int32} (hX : g_X X) (hd : 1 ≤ d) (hp : p = 49 ∨ p = 58) (q1 : 0 ≤ k.toInt) (q2 : k.toInt ≤ 5) (q3 : 0 ≤ f.toInt) (q4 : f.toInt ≤ 7) (q5 : PI M) (h : ∀ (M1 : mm_M), g_G M1 → FR md_s M M1 → Q (none) M1) : ∀ nn9 : Nat, (∀ (N : mm_M) (x6 : Int32) (u7 : Value), g_G N → FR md_s M N → (0 ≤ x6.toInt) → (x6.toInt ≤ 30) → 30 - x6.toInt < (nn9 : Int) → mm_T X d 69 28 [.ref 42, .ref 17, .int k, .ref p, .ref 11, .int f, .int x6, u7] [] N Q) := by
  intro nn9
  induction nn9 with
  | zero =>
    intro N x6 u7 hG F0 g1 g2 hm
    exfalso; omega
  | succ nn9 ih =>
    intro N x6 u7 hG F0 g1 g2 hm
    refine to_i (pc := 28) rw_69_28 rfl (to_an (pc := 30) rw_69_30 rfl ?_)
    have b_1 := g_b hG (a := 42) (i := 0) (lo := 0) (hi := 30) rfl rfl
    refine tt_gI (pc := 31) rw_69_31 (g_o hG rfl) (v := (N.2.1 42 0)) rfl (b_cge (pc := 34) rw_69_34 (A := x6.toInt) (B := (N.2.1 42 0).toInt) rfl rfl (fun h2 => ?_) (fun h2 => ?_))
    · refine to_rv (pc := 102) rw_69_102 ?_
      exact h N hG F0 
    · refine to_an (pc := 37) rw_69_37 rfl (s_gR (pc := 38) rw_69_38 hG rfl (v := 18) rfl (to_in (pc := 41) rw_69_41 rfl (s_aal (pc := 42) rw_69_42 hG (A := k.toInt) rfl (by omega) (by omega) (fun r3 hr3 => to_i (pc := 43) rw_69_43 rfl (s_ial (pc := 45) rw_69_45 hG (by rcases rr_6 hr3 with z | z | z | z | z | z <;> rw [z] <;> rfl) (n := 30) (by rcases rr_6 hr3 with z | z | z | z | z | z <;> rw [z] <;> rfl) (by rcases rr_6 hr3 with z | z | z | z | z | z <;> rw [z] <;> rfl) (A := x6.toInt) rfl (by omega) (by omega) (lo := 0) (hi := 29) (by rcases rr_6 hr3 with z | z | z | z | z | z <;> rw [z] <;> rfl) (by rcases rr_6 hr3 with z | z | z | z | z | z <;> rw [z] <;> rfl) (fun v4 w_5 _ _ => to_is (pc := 46) rw_69_46 (ls2 := [.ref 42, .ref 17, .int k, .ref p, .ref 11, .int f, .int x6, .int v4]) rfl rfl (to_an (pc := 48) rw_69_48 rfl (s_gR (pc := 49) rw_69_49 hG rfl (v := 43) rfl (to_i (pc := 52) rw_69_52 rfl (to_a (pc := 54) rw_69_54 rfl (to_i (pc := 56) rw_69_56 rfl ?_)))))))))))
      refine to_i (pc := 58) rw_69_58 rfl (s_v (pc := 60) rw_69_60 (dp0 hd (by decide)) (ls0 := [.ref 11, .int v4, .int f]) rfl (Nat.le_of_ble_eq_true rfl) (Nat.le_of_ble_eq_true rfl) rfl (to_rc rfl rfl rfl (g_o hG rfl)) rfl (to_an (pc := 0) rw_12_0 rfl (s_gR (pc := 1) rw_12_1 hG rfl (v := 14) rfl (to_in (pc := 4) rw_12_4 rfl (to_c (pc := 5) rw_12_5 (x := (8 : Int32)) rfl rfl (s_mul (pc := 7) rw_12_7 (A := v4.toInt) (B := 8) rfl rfl (by omega) (fun v6 e7 => to_in (pc := 8) rw_12_8 rfl (s_add (pc := 9) rw_12_9 (A := v6.toInt) (B := f.toInt) rfl rfl (by omega) (fun v8 e9 => s_ial (pc := 10) rw_12_10 hG rfl (n := 240) rfl rfl (A := v8.toInt) rfl (by omega) (by omega) (lo := -2147483648) (hi := 2147483647) rfl rfl (fun v10 w_11 _ _ => to_r0 (pc := 11) rw_12_11 (s_ias (pc := 63) rw_69_63 hG rfl (n := 30) rfl (A := x6.toInt) rfl (by omega) (by omega) (fun M13 W12 => ?_))))))))))))
      have hG14 := g_wf hG W12 rfl rfl (by decide)
      have F15 := FR.w F0 W12 (show 42 ≤ 43 ∧ 43 ≤ 48 by decide)
      refine to_an (pc := 64) rw_69_64 rfl (s_gR (pc := 65) rw_69_65 hG14 rfl (v := 44) rfl (to_i (pc := 68) rw_69_68 rfl (to_an (pc := 70) rw_69_70 rfl (s_gR (pc := 71) rw_69_71 hG14 rfl (v := 27) rfl (to_i (pc := 74) rw_69_74 rfl (s_lal (pc := 76) rw_69_76 hG14 rfl (n := 30) rfl (A := v4.toInt) rfl (by omega) (by omega) (fun l16 => to_an (pc := 77) rw_69_77 rfl (s_gR (pc := 78) rw_69_78 hG14 (by rcases hp with rfl | rfl <;> rfl) (v := (p + 3)) (by rcases hp with rfl | rfl <;> rfl) (to_i (pc := 81) rw_69_81 rfl (s_ial (pc := 83) rw_69_83 hG14 (by rcases hp with rfl | rfl <;> rfl) (n := 8) (by rcases hp with rfl | rfl <;> rfl) (by rcases hp with rfl | rfl <;> rfl) (A := f.toInt) rfl (by omega) (by omega) (lo := 0) (hi := 59) (by rcases hp with rfl | rfl <;> rfl) (by rcases hp with rfl | rfl <;> rfl) (fun v17 w_18 _ _ => s_anyS (pc := 84) rw_69_84 (fun _ _ => rfl) (fun l19 => ?_))))))))))))
      refine s_l2i (pc := 85) rw_69_85 (fun v20 => to_c (pc := 86) rw_69_86 (x := (1 : Int32)) rfl rfl (to_an (pc := 87) rw_69_87 rfl ?_))
      have c_21 : M13.2.1 42 1 = (N.2.1 42 1) := (W_n W12 (fun z => absurd z.1 (by decide)) rfl)
      have b_22 := g_b hG (a := 42) (i := 1) (lo := 0) (hi := 6) rfl rfl
      refine tt_gI (pc := 88) rw_69_88 (g_o hG14 rfl) (v := (N.2.1 42 1)) c_21 (s_shl1 (pc := 91) rw_69_91 (B := (N.2.1 42 1).toInt) rfl (by omega) (fun v23 _ _ => to_c (pc := 92) rw_69_92 (x := (1 : Int32)) rfl rfl (s_sub (pc := 93) rw_69_93 (A := v23.toInt) (B := 1) rfl rfl (by omega) (fun v24 e25 => s_and (pc := 94) rw_69_94 (B := v24.toInt) rfl (by omega) (fun v26 e27 _ _ => s_ias (pc := 95) rw_69_95 hG14 rfl (n := 30) rfl (A := x6.toInt) rfl (by omega) (by omega) (fun M29 W28 => ?_))))))
      have hG30 := g_w hG14 W28 (A := v26.toInt) rfl (lo := 0) (hi := 63) rfl rfl (by omega) (by decide)
      have F31 := FR.w F15 W28 (show 42 ≤ 44 ∧ 44 ≤ 48 by decide)
      refine s_inc (pc := 96) rw_69_96 (ls2 := fun v => [.ref 42, .ref 17, .int k, .ref p, .ref 11, .int f, .int v, .int v4]) rfl rfl (fun _ => rfl) (A := x6.toInt) (B := 1) rfl rfl (by omega) (fun v32 e33 => to_go (pc := 99) rw_69_99 ?_)
      exact ih M29 v32 (.int v4) hG30 F31 (by omega) (by omega) (by omega)
set_option maxRecDepth 4000 in
set_option maxHeartbeats 0 in
theorem C_69 {X : mm_X} {d : Nat} {M : mm_M} {Q : Option Value → mm_M → Prop} {k : Int32} {p : Nat} {f : Int32} (hX : g_X X) (hd : 1 ≤ d) (hG : g_G M) (hp : p = 49 ∨ p = 58) (q1 : 0 ≤ k.toInt) (q2 : k.toInt ≤ 5) (q3 : 0 ≤ f.toInt) (q4 : f.toInt ≤ 7) (q5 : PI M) (h : ∀ (M1 : mm_M), g_G M1 → FR md_s M M1 → Q (none) M1) : mm_T X d 69 0 [.ref 42, .ref 17, .int k, .ref p, .ref 11, .int f, .null, .null] [] M Q := by
  have F0 : FR md_s M M := FR.rf
  refine to_an (pc := 0) rw_69_0 rfl (to_an (pc := 1) rw_69_1 rfl (s_gR (pc := 2) rw_69_2 hG rfl (v := 25) rfl (to_in (pc := 5) rw_69_5 rfl (s_ial (pc := 6) rw_69_6 hG rfl (n := 6) rfl rfl (A := k.toInt) rfl (by omega) (by omega) (lo := 0) (hi := 30) rfl rfl (fun v34 w_35 _ _ => s_pI (pc := 7) rw_69_7 hG rfl (fun M37 W36 => ?_))))))
  have hG38 := g_w hG W36 (A := v34.toInt) rfl (lo := 0) (hi := 30) rfl rfl (by omega) (by decide)
  have F39 := FR.w F0 W36 (show 42 ≤ 42 ∧ 42 ≤ 48 by decide)
  refine to_an (pc := 10) rw_69_10 rfl (to_an (pc := 11) rw_69_11 rfl (to_i (pc := 12) rw_69_12 rfl (s_v (pc := 14) rw_69_14 (dp0 hd (by decide)) (ls0 := [.ref p, .int f]) rfl (Nat.le_of_ble_eq_true rfl) (Nat.le_of_ble_eq_true rfl) rfl (to_rc rfl rfl rfl (g_o hG38 (by rcases hp with rfl | rfl <;> rfl))) rfl (to_an (pc := 0) rw_47_0 rfl (s_gR (pc := 1) rw_47_1 hG38 (by rcases hp with rfl | rfl <;> rfl) (v := (p + 4)) (by rcases hp with rfl | rfl <;> rfl) (to_in (pc := 4) rw_47_4 rfl (s_ial (pc := 5) rw_47_5 hG38 (by rcases hp with rfl | rfl <;> rfl) (n := 8) (by rcases hp with rfl | rfl <;> rfl) (by rcases hp with rfl | rfl <;> rfl) (A := f.toInt) rfl (by omega) (by omega) (lo := 0) (hi := 63) (by rcases hp with rfl | rfl <;> rfl) (by rcases hp with rfl | rfl <;> rfl) (fun v40 w_41 _ _ => ?_))))))))
  have t_42 := congrArg Int32.toInt w_41
  have j_44 := (PI_f (fun a i z => W_n W36 (by /-r42,0-/ omega) rfl) q5)
  have j_43 := PI_p j_44 hp (f.toInt).toNat
  refine to_an (pc := 6) rw_47_6 rfl (s_gR (pc := 7) rw_47_7 hG38 (by rcases hp with rfl | rfl <;> rfl) (v := (p + 3)) (by rcases hp with rfl | rfl <;> rfl) (to_in (pc := 10) rw_47_10 rfl (s_ial (pc := 11) rw_47_11 hG38 (by rcases hp with rfl | rfl <;> rfl) (n := 8) (by rcases hp with rfl | rfl <;> rfl) (by rcases hp with rfl | rfl <;> rfl) (A := f.toInt) rfl (by omega) (by omega) (lo := 0) (hi := 59) (by rcases hp with rfl | rfl <;> rfl) (by rcases hp with rfl | rfl <;> rfl) (fun v45 w_46 _ _ => ?_))))
  have t_47 := congrArg Int32.toInt w_46
  refine s_sub (pc := 12) rw_47_12 (A := v40.toInt) (B := v45.toInt) rfl rfl (by omega) (fun v48 e49 => to_c (pc := 13) rw_47_13 (x := (1 : Int32)) rfl rfl (s_add (pc := 14) rw_47_14 (A := v48.toInt) (B := 1) rfl rfl (by omega) (fun v50 e51 => to_r0 (pc := 15) rw_47_15 (to_c (pc := 17) rw_69_17 (x := (6 : Int32)) rfl rfl (s_min (pc := 19) rw_69_19 rfl (A := v50.toInt) (B := 6) rfl rfl (fun v52 _ _ _ => s_pI (pc := 22) rw_69_22 hG38 rfl (fun M54 W53 => ?_)))))))
  have hG55 := g_w hG38 W53 (A := v52.toInt) rfl (lo := 0) (hi := 6) rfl rfl (by omega) (by decide)
  have F56 := FR.w F39 W53 (show 42 ≤ 42 ∧ 42 ≤ 48 by decide)
  refine to_c (pc := 25) rw_69_25 (x := (0 : Int32)) rfl rfl (to_is (pc := 26) rw_69_26 (ls2 := [.ref 42, .ref 17, .int k, .ref p, .ref 11, .int f, .int (0 : Int32), .null]) rfl rfl ?_)
  have k_57 : (0 : Int32).toInt = 0 := rfl
  exact (T_69_0 (k := k) (p := p) (f := f) hX hd hp q1 q2 q3 q4 q5 h ((30 - (0 : Int32).toInt).toNat + 1)) M54 (0 : Int32) (.null) hG55 F56 (by omega) (by omega) (by omega)
set_option maxRecDepth 4000 in
set_option maxHeartbeats 0 in
theorem T_70_0 {X : mm_X} {d : Nat} {M : mm_M} {Q : Option Value → mm_M → Prop} (hX : g_X X) (hd : 0 ≤ d) (h : ∀ (r : Int32) (M1 : mm_M), g_G M1 → FR md_s2 M M1 → Q (some (.int r)) M1) : ∀ nn9 : Nat, (∀ (N : mm_M) (x1 : Int32) (x2 : Int32) (u3 : Value), g_G N → FR md_s2 M N → (0 ≤ x2.toInt) → (x2.toInt ≤ 30) → (30 - x2.toInt) * 100 + 50 < (nn9 : Int) → mm_T X d 70 4 [.ref 42, .int x1, .int x2, u3] [] N Q) ∧ (∀ (N : mm_M) (x1 : Int32) (x2 : Int32) (x3 : Int32), g_G N → FR md_s2 M N → (0 ≤ x2.toInt) → (x2.toInt ≤ 29) → (0 ≤ x3.toInt) → (x3.toInt ≤ 30) → (x3.toInt ≤ x2.toInt) → (30 - x2.toInt) * 100 + 30 - x3.toInt < (nn9 : Int) → mm_T X d 70 21 [.ref 42, .int x1, .int x2, .int x3] [] N Q) := by
  intro nn9
  induction nn9 with
  | zero =>
    refine ⟨?_, ?_⟩
    · intro N x1 x2 u3 hG F0 g1 g2 hm
      exfalso; omega
    · intro N x1 x2 x3 hG F0 g1 g2 g3 g4 g5 hm
      exfalso; omega
  | succ nn9 ih =>
    refine ⟨?_, ?_⟩
    · intro N x1 x2 u3 hG F0 g1 g2 hm
      refine to_in (pc := 4) rw_70_4 rfl (to_an (pc := 5) rw_70_5 rfl ?_)
      have b_1 := g_b hG (a := 42) (i := 0) (lo := 0) (hi := 30) rfl rfl
      refine tt_gI (pc := 6) rw_70_6 (g_o hG rfl) (v := (N.2.1 42 0)) rfl (b_cge (pc := 9) rw_70_9 (A := x2.toInt) (B := (N.2.1 42 0).toInt) rfl rfl (fun h2 => ?_) (fun h2 => ?_))
      · refine to_an (pc := 87) rw_70_87 rfl (tt_gI (pc := 88) rw_70_88 (g_o hG rfl) (v := (N.2.1 42 0)) rfl (to_in (pc := 91) rw_70_91 rfl (s_any (pc := 92) rw_70_92 (fun _ _ => rfl) (fun v3 => to_r0 (pc := 93) rw_70_93 ?_))))
        exact h v3 N hG F0 
      · refine to_an (pc := 12) rw_70_12 rfl (s_gR (pc := 13) rw_70_13 hG rfl (v := 45) rfl (to_in (pc := 16) rw_70_16 rfl (to_c (pc := 17) rw_70_17 (x := (1 : Int32)) rfl rfl (s_ias (pc := 18) rw_70_18 hG rfl (n := 30) rfl (A := x2.toInt) rfl (by omega) (by omega) (fun M5 W4 => ?_)))))
        have hG6 := g_wf hG W4 rfl rfl (by decide)
        have F7 := FR.w F0 W4 (show 43 ≤ 45 ∧ 45 ≤ 48 by decide)
        refine to_c (pc := 19) rw_70_19 (x := (0 : Int32)) rfl rfl (to_isn (pc := 20) rw_70_20 (ls2 := [.ref 42, .int x1, .int x2, .int (0 : Int32)]) rfl rfl ?_)
        have k_8 : (0 : Int32).toInt = 0 := rfl
        exact ih.2 M5 x1 x2 (0 : Int32) hG6 F7 (by omega) (by omega) (by omega) (by omega) (by omega) (by omega)
    · intro N x1 x2 x3 hG F0 g1 g2 g3 g4 g5 hm
      refine to_in (pc := 21) rw_70_21 rfl (to_in (pc := 22) rw_70_22 rfl (b_cge (pc := 23) rw_70_23 (A := x3.toInt) (B := x2.toInt) rfl rfl (fun h9 => ?_) (fun h9 => ?_)))
      · refine to_in (pc := 70) rw_70_70 rfl (to_an (pc := 71) rw_70_71 rfl (s_gR (pc := 72) rw_70_72 hG rfl (v := 45) rfl (to_in (pc := 75) rw_70_75 rfl (s_ial (pc := 76) rw_70_76 hG rfl (n := 30) rfl rfl (A := x2.toInt) rfl (by omega) (by omega) (lo := -2147483648) (hi := 2147483647) rfl rfl (fun v10 w_11 _ _ => s_max (pc := 77) rw_70_77 rfl (A := x1.toInt) (B := v10.toInt) rfl rfl (fun v12 _ _ _ => to_isn (pc := 80) rw_70_80 (ls2 := [.ref 42, .int v12, .int x2, .int x3]) rfl rfl (s_inc (pc := 81) rw_70_81 (ls2 := fun v => [.ref 42, .int v12, .int v, .int x3]) rfl rfl (fun _ => rfl) (A := x2.toInt) (B := 1) rfl rfl (by omega) (fun v13 e14 => to_go (pc := 84) rw_70_84 ?_))))))))
        exact ih.1 N v12 v13 (.int x3) hG F0 (by omega) (by omega) (by omega)
      · refine to_an (pc := 26) rw_70_26 rfl (s_gR (pc := 27) rw_70_27 hG rfl (v := 43) rfl (to_in (pc := 30) rw_70_30 rfl (s_ial (pc := 31) rw_70_31 hG rfl (n := 30) rfl rfl (A := x3.toInt) rfl (by omega) (by omega) (lo := -2147483648) (hi := 2147483647) rfl rfl (fun v15 w_16 _ _ => to_an (pc := 32) rw_70_32 rfl (s_gR (pc := 33) rw_70_33 hG rfl (v := 43) rfl (to_in (pc := 36) rw_70_36 rfl (s_ial (pc := 37) rw_70_37 hG rfl (n := 30) rfl rfl (A := x2.toInt) rfl (by omega) (by omega) (lo := -2147483648) (hi := 2147483647) rfl rfl (fun v17 w_18 _ _ => b_cgt (pc := 38) rw_70_38 (A := v15.toInt) (B := v17.toInt) rfl rfl (fun h19 => ?_) (fun h19 => ?_)))))))))
        · refine s_inc (pc := 64) rw_70_64 (ls2 := fun v => [.ref 42, .int x1, .int x2, .int v]) rfl rfl (fun _ => rfl) (A := x3.toInt) (B := 1) rfl rfl (by omega) (fun v20 e21 => to_go (pc := 67) rw_70_67 ?_)
          exact ih.2 N x1 x2 v20 hG F0 (by omega) (by omega) (by omega) (by omega) (by omega) (by omega)
        · refine to_an (pc := 41) rw_70_41 rfl (s_gR (pc := 42) rw_70_42 hG rfl (v := 45) rfl (to_in (pc := 45) rw_70_45 rfl (to_an (pc := 46) rw_70_46 rfl (s_gR (pc := 47) rw_70_47 hG rfl (v := 45) rfl (to_in (pc := 50) rw_70_50 rfl (s_ial (pc := 51) rw_70_51 hG rfl (n := 30) rfl rfl (A := x2.toInt) rfl (by omega) (by omega) (lo := -2147483648) (hi := 2147483647) rfl rfl (fun v22 w_23 _ _ => to_an (pc := 52) rw_70_52 rfl (s_gR (pc := 53) rw_70_53 hG rfl (v := 45) rfl (to_in (pc := 56) rw_70_56 rfl (s_ial (pc := 57) rw_70_57 hG rfl (n := 30) rfl rfl (A := x3.toInt) rfl (by omega) (by omega) (lo := -2147483648) (hi := 2147483647) rfl rfl (fun v24 w_25 _ _ => to_c (pc := 58) rw_70_58 (x := (1 : Int32)) rfl rfl ?_)))))))))))
          refine s_any (pc := 59) rw_70_59 (fun _ _ => rfl) (fun v26 => s_max (pc := 60) rw_70_60 rfl (A := v22.toInt) (B := v26.toInt) rfl rfl (fun v27 _ _ _ => s_ias (pc := 63) rw_70_63 hG rfl (n := 30) rfl (A := x2.toInt) rfl (by omega) (by omega) (fun M29 W28 => ?_)))
          have hG30 := g_wf hG W28 rfl rfl (by decide)
          have F31 := FR.w F0 W28 (show 43 ≤ 45 ∧ 45 ≤ 48 by decide)
          refine s_inc (pc := 64) rw_70_64 (ls2 := fun v => [.ref 42, .int x1, .int x2, .int v]) rfl rfl (fun _ => rfl) (A := x3.toInt) (B := 1) rfl rfl (by omega) (fun v32 e33 => to_go (pc := 67) rw_70_67 ?_)
          exact ih.2 M29 x1 x2 v32 hG30 F31 (by omega) (by omega) (by omega) (by omega) (by omega) (by omega)
set_option maxRecDepth 4000 in
set_option maxHeartbeats 0 in
theorem C_70 {X : mm_X} {d : Nat} {M : mm_M} {Q : Option Value → mm_M → Prop} (hX : g_X X) (hd : 0 ≤ d) (hG : g_G M) (h : ∀ (r : Int32) (M1 : mm_M), g_G M1 → FR md_s2 M M1 → Q (some (.int r)) M1) : mm_T X d 70 0 [.ref 42, .null, .null, .null] [] M Q := by
  have F0 : FR md_s2 M M := FR.rf
  refine to_c (pc := 0) rw_70_0 (x := (0 : Int32)) rfl rfl (to_isn (pc := 1) rw_70_1 (ls2 := [.ref 42, .int (0 : Int32), .null, .null]) rfl rfl (to_c (pc := 2) rw_70_2 (x := (0 : Int32)) rfl rfl (to_isn (pc := 3) rw_70_3 (ls2 := [.ref 42, .int (0 : Int32), .int (0 : Int32), .null]) rfl rfl ?_)))
  have k_34 : (0 : Int32).toInt = 0 := rfl
  exact (T_70_0 hX hd  h (((30 - (0 : Int32).toInt) * 100 + 50).toNat + 1)).1 M (0 : Int32) (0 : Int32) (.null) hG F0 (by omega) (by omega) (by omega)
set_option maxRecDepth 4000 in
set_option maxHeartbeats 0 in
theorem T_73_0 {X : mm_X} {d : Nat} {M : mm_M} {Q : Option Value → mm_M → Prop} {l : Int32} {y : Int32} (hX : g_X X) (hd : 0 ≤ d) (q1 : 0 ≤ l.toInt) (q2 : l.toInt ≤ 63) (h : ∀ (r : Int32) (M1 : mm_M), g_G M1 → FR md_s2 M M1 → (0 ≤ r.toInt) → (r.toInt ≤ 1) → Q (some (.int r)) M1) : ∀ nn9 : Nat, (∀ (N : mm_M) (x3 : Int32) (u4 : Value), g_G N → FR md_s2 M N → (0 ≤ x3.toInt) → (x3.toInt ≤ 30) → 30 - x3.toInt < (nn9 : Int) → mm_T X d 73 48 [.ref 42, .int l, .int y, .int x3, u4] [] N Q) := by
  intro nn9
  induction nn9 with
  | zero =>
    intro N x3 u4 hG F0 g1 g2 hm
    exfalso; omega
  | succ nn9 ih =>
    intro N x3 u4 hG F0 g1 g2 hm
    refine to_in (pc := 48) rw_73_48 rfl (to_an (pc := 49) rw_73_49 rfl ?_)
    have b_1 := g_b hG (a := 42) (i := 0) (lo := 0) (hi := 30) rfl rfl
    refine tt_gI (pc := 50) rw_73_50 (g_o hG rfl) (v := (N.2.1 42 0)) rfl (b_cge (pc := 53) rw_73_53 (A := x3.toInt) (B := (N.2.1 42 0).toInt) rfl rfl (fun h2 => ?_) (fun h2 => ?_))
    · refine to_c (pc := 153) rw_73_153 (x := (1 : Int32)) rfl rfl (s_r1 (pc := 154) rw_73_154 (A := 1) rfl (by decide) ?_)
      have k_3 : (1 : Int32).toInt = 1 := rfl
      exact h (1 : Int32) N hG F0 (by decide) (by decide)
    · refine to_an (pc := 56) rw_73_56 rfl (s_gR (pc := 57) rw_73_57 hG rfl (v := 44) rfl (to_in (pc := 60) rw_73_60 rfl (s_ial (pc := 61) rw_73_61 hG rfl (n := 30) rfl rfl (A := x3.toInt) rfl (by omega) (by omega) (lo := 0) (hi := 63) rfl rfl (fun v4 w_5 _ _ => to_in (pc := 62) rw_73_62 rfl (s_and (pc := 63) rw_73_63 (B := l.toInt) rfl (by omega) (fun v6 e7 _ _ => to_is (pc := 64) rw_73_64 (ls2 := [.ref 42, .int l, .int y, .int x3, .int v6]) rfl rfl (to_an (pc := 66) rw_73_66 rfl (s_gR (pc := 67) rw_73_67 hG rfl (v := 44) rfl (to_in (pc := 70) rw_73_70 rfl (s_ialk (pc := 71) rw_73_71 hG rfl (n := 30) rfl rfl (A := x3.toInt) rfl (by omega) (by omega) (v := v4) w_5 (to_in (pc := 72) rw_73_72 rfl ?_)))))))))))
      refine s_shr (pc := 73) rw_73_73 (A := v4.toInt) rfl (by omega) (fun v10 _ _ => to_c (pc := 74) rw_73_74 (x := (1 : Int32)) rfl rfl (s_and (pc := 75) rw_73_75 (B := 1) rfl (by omega) (fun v11 e12 _ _ => b_ieq (pc := 76) rw_73_76 (A := v11.toInt) rfl (fun h13 => ?_) (fun h13 => ?_))))
      · refine to_an (pc := 105) rw_73_105 rfl (s_gR (pc := 106) rw_73_106 hG rfl (v := 47) rfl (to_i (pc := 109) rw_73_109 rfl (to_an (pc := 111) rw_73_111 rfl (s_gR (pc := 112) rw_73_112 hG rfl (v := 47) rfl (to_i (pc := 115) rw_73_115 rfl (s_ial (pc := 117) rw_73_117 hG rfl (n := 64) rfl rfl (A := v6.toInt) rfl (by omega) (by omega) (lo := -2147483648) (hi := 2147483647) rfl rfl (fun v14 w_15 _ _ => to_an (pc := 118) rw_73_118 rfl (s_gR (pc := 119) rw_73_119 hG rfl (v := 43) rfl (to_in (pc := 122) rw_73_122 rfl (s_ial (pc := 123) rw_73_123 hG rfl (n := 30) rfl rfl (A := x3.toInt) rfl (by omega) (by omega) (lo := -2147483648) (hi := 2147483647) rfl rfl (fun v16 w_17 _ _ => s_max (pc := 124) rw_73_124 rfl (A := v14.toInt) (B := v16.toInt) rfl rfl (fun v18 _ _ _ => ?_))))))))))))
        refine s_ias (pc := 127) rw_73_127 hG rfl (n := 64) rfl (A := v6.toInt) rfl (by omega) (by omega) (fun M20 W19 => ?_)
        have hG21 := g_wf hG W19 rfl rfl (by decide)
        have F22 := FR.w F0 W19 (show 43 ≤ 47 ∧ 47 ≤ 48 by decide)
        refine to_an (pc := 128) rw_73_128 rfl (s_gR (pc := 129) rw_73_129 hG21 rfl (v := 47) rfl (to_i (pc := 132) rw_73_132 rfl (s_ialk (pc := 134) rw_73_134 hG21 rfl (n := 64) rfl rfl (A := v6.toInt) rfl (by omega) (by omega) (v := v18) (W_e W19) (to_an (pc := 135) rw_73_135 rfl (s_gR (pc := 136) rw_73_136 hG21 rfl (v := 48) rfl (to_i (pc := 139) rw_73_139 rfl (s_ial (pc := 141) rw_73_141 hG21 rfl (n := 64) rfl rfl (A := v6.toInt) rfl (by omega) (by omega) (lo := -2147483648) (hi := 2147483647) rfl rfl (fun v25 w_26 _ _ => b_cle (pc := 142) rw_73_142 (A := v18.toInt) (B := v25.toInt) rfl rfl (fun h27 => ?_) (fun h27 => ?_)))))))))
        · refine s_inc (pc := 147) rw_73_147 (ls2 := fun v => [.ref 42, .int l, .int y, .int v, .int v6]) rfl rfl (fun _ => rfl) (A := x3.toInt) (B := 1) rfl rfl (by omega) (fun v28 e29 => to_go (pc := 150) rw_73_150 ?_)
          exact ih M20 v28 (.int v6) hG21 F22 (by omega) (by omega) (by omega)
        · refine to_c (pc := 145) rw_73_145 (x := (0 : Int32)) rfl rfl (s_r1 (pc := 146) rw_73_146 (A := 0) rfl (by decide) ?_)
          have k_30 : (0 : Int32).toInt = 0 := rfl
          exact h (0 : Int32) M20 hG21 F22 (by decide) (by decide)
      · refine to_an (pc := 79) rw_73_79 rfl (s_gR (pc := 80) rw_73_80 hG rfl (v := 48) rfl (to_i (pc := 83) rw_73_83 rfl (to_an (pc := 85) rw_73_85 rfl (s_gR (pc := 86) rw_73_86 hG rfl (v := 48) rfl (to_i (pc := 89) rw_73_89 rfl (s_ial (pc := 91) rw_73_91 hG rfl (n := 64) rfl rfl (A := v6.toInt) rfl (by omega) (by omega) (lo := -2147483648) (hi := 2147483647) rfl rfl (fun v31 w_32 _ _ => to_an (pc := 92) rw_73_92 rfl (s_gR (pc := 93) rw_73_93 hG rfl (v := 43) rfl (to_in (pc := 96) rw_73_96 rfl (s_ial (pc := 97) rw_73_97 hG rfl (n := 30) rfl rfl (A := x3.toInt) rfl (by omega) (by omega) (lo := -2147483648) (hi := 2147483647) rfl rfl (fun v33 w_34 _ _ => s_min (pc := 98) rw_73_98 rfl (A := v31.toInt) (B := v33.toInt) rfl rfl (fun v35 _ _ _ => ?_))))))))))))
        refine s_ias (pc := 101) rw_73_101 hG rfl (n := 64) rfl (A := v6.toInt) rfl (by omega) (by omega) (fun M37 W36 => ?_)
        have hG38 := g_wf hG W36 rfl rfl (by decide)
        have F39 := FR.w F0 W36 (show 43 ≤ 48 ∧ 48 ≤ 48 by decide)
        refine to_go (pc := 102) rw_73_102 (to_an (pc := 128) rw_73_128 rfl (s_gR (pc := 129) rw_73_129 hG38 rfl (v := 47) rfl (to_i (pc := 132) rw_73_132 rfl (s_ial (pc := 134) rw_73_134 hG38 rfl (n := 64) rfl rfl (A := v6.toInt) rfl (by omega) (by omega) (lo := -2147483648) (hi := 2147483647) rfl rfl (fun v40 w_41 _ _ => to_an (pc := 135) rw_73_135 rfl (s_gR (pc := 136) rw_73_136 hG38 rfl (v := 48) rfl (to_i (pc := 139) rw_73_139 rfl (s_ialk (pc := 141) rw_73_141 hG38 rfl (n := 64) rfl rfl (A := v6.toInt) rfl (by omega) (by omega) (v := v35) (W_e W36) (b_cle (pc := 142) rw_73_142 (A := v40.toInt) (B := v35.toInt) rfl rfl (fun h44 => ?_) (fun h44 => ?_))))))))))
        · refine s_inc (pc := 147) rw_73_147 (ls2 := fun v => [.ref 42, .int l, .int y, .int v, .int v6]) rfl rfl (fun _ => rfl) (A := x3.toInt) (B := 1) rfl rfl (by omega) (fun v45 e46 => to_go (pc := 150) rw_73_150 ?_)
          exact ih M37 v45 (.int v6) hG38 F39 (by omega) (by omega) (by omega)
        · refine to_c (pc := 145) rw_73_145 (x := (0 : Int32)) rfl rfl (s_r1 (pc := 146) rw_73_146 (A := 0) rfl (by decide) ?_)
          have k_47 : (0 : Int32).toInt = 0 := rfl
          exact h (0 : Int32) M37 hG38 F39 (by decide) (by decide)
set_option maxRecDepth 4000 in
set_option maxHeartbeats 0 in
theorem T_73_1 {X : mm_X} {d : Nat} {M : mm_M} {Q : Option Value → mm_M → Prop} {l : Int32} {y : Int32} (hX : g_X X) (hd : 0 ≤ d) (q1 : 0 ≤ l.toInt) (q2 : l.toInt ≤ 63) (h : ∀ (r : Int32) (M1 : mm_M), g_G M1 → FR md_s2 M M1 → (0 ≤ r.toInt) → (r.toInt ≤ 1) → Q (some (.int r)) M1) : ∀ nn9 : Nat, (∀ (N : mm_M) (x3 : Int32) (u4 : Value), g_G N → FR md_s2 M N → (0 ≤ x3.toInt) → (x3.toInt ≤ 30) → 30 - x3.toInt < (nn9 : Int) → mm_T X d 73 2 [.ref 42, .int l, .int y, .int x3, u4] [] N Q) := by
  intro nn9
  induction nn9 with
  | zero =>
    intro N x3 u4 hG F0 g1 g2 hm
    exfalso; omega
  | succ nn9 ih =>
    intro N x3 u4 hG F0 g1 g2 hm
    refine to_in (pc := 2) rw_73_2 rfl (to_an (pc := 3) rw_73_3 rfl ?_)
    have b_48 := g_b hG (a := 42) (i := 0) (lo := 0) (hi := 30) rfl rfl
    refine tt_gI (pc := 4) rw_73_4 (g_o hG rfl) (v := (N.2.1 42 0)) rfl (b_cge (pc := 7) rw_73_7 (A := x3.toInt) (B := (N.2.1 42 0).toInt) rfl rfl (fun h49 => ?_) (fun h49 => ?_))
    · refine to_c (pc := 46) rw_73_46 (x := (0 : Int32)) rfl rfl (to_isn (pc := 47) rw_73_47 (ls2 := [.ref 42, .int l, .int y, .int (0 : Int32), u4]) rfl rfl ?_)
      have k_50 : (0 : Int32).toInt = 0 := rfl
      exact (T_73_0 (l := l) (y := y) hX hd q1 q2 h ((30 - (0 : Int32).toInt).toNat + 1)) N (0 : Int32) (u4) hG F0 (by omega) (by omega) (by omega)
    · refine to_an (pc := 10) rw_73_10 rfl (s_gR (pc := 11) rw_73_11 hG rfl (v := 47) rfl (to_an (pc := 14) rw_73_14 rfl (s_gR (pc := 15) rw_73_15 hG rfl (v := 44) rfl (to_in (pc := 18) rw_73_18 rfl (s_ial (pc := 19) rw_73_19 hG rfl (n := 30) rfl rfl (A := x3.toInt) rfl (by omega) (by omega) (lo := 0) (hi := 63) rfl rfl (fun v51 w_52 _ _ => to_in (pc := 20) rw_73_20 rfl (s_and (pc := 21) rw_73_21 (B := l.toInt) rfl (by omega) (fun v53 e54 _ _ => to_c (pc := 22) rw_73_22 (x := (-2 : Int32)) rfl rfl (s_ias (pc := 24) rw_73_24 hG rfl (n := 64) rfl (A := v53.toInt) rfl (by omega) (by omega) (fun M56 W55 => ?_))))))))))
      have hG57 := g_wf hG W55 rfl rfl (by decide)
      have F58 := FR.w F0 W55 (show 43 ≤ 47 ∧ 47 ≤ 48 by decide)
      refine to_an (pc := 25) rw_73_25 rfl (s_gR (pc := 26) rw_73_26 hG57 rfl (v := 48) rfl (to_an (pc := 29) rw_73_29 rfl (s_gR (pc := 30) rw_73_30 hG57 rfl (v := 44) rfl (to_in (pc := 33) rw_73_33 rfl (s_ialk (pc := 34) rw_73_34 hG57 rfl (n := 30) rfl rfl (A := x3.toInt) rfl (by omega) (by omega) (v := v51) (W_n W55 (by omega) w_52) (to_in (pc := 35) rw_73_35 rfl (to_2 (pc := 36) rw_73_36 (v := v53) (congrArg some e54) (to_c (pc := 37) rw_73_37 (x := (100 : Int32)) rfl rfl (s_ias (pc := 39) rw_73_39 hG57 rfl (n := 64) rfl (A := v53.toInt) rfl (by omega) (by omega) (fun M64 W63 => ?_))))))))))
      have hG65 := g_wf hG57 W63 rfl rfl (by decide)
      have F66 := FR.w F58 W63 (show 43 ≤ 48 ∧ 48 ≤ 48 by decide)
      refine s_inc (pc := 40) rw_73_40 (ls2 := fun v => [.ref 42, .int l, .int y, .int v, u4]) rfl rfl (fun _ => rfl) (A := x3.toInt) (B := 1) rfl rfl (by omega) (fun v67 e68 => to_go (pc := 43) rw_73_43 ?_)
      exact ih M64 v67 (u4) hG65 F66 (by omega) (by omega) (by omega)
set_option maxRecDepth 4000 in
set_option maxHeartbeats 0 in
theorem C_73 {X : mm_X} {d : Nat} {M : mm_M} {Q : Option Value → mm_M → Prop} {l : Int32} {y : Int32} (hX : g_X X) (hd : 0 ≤ d) (hG : g_G M) (q1 : 0 ≤ l.toInt) (q2 : l.toInt ≤ 63) (h : ∀ (r : Int32) (M1 : mm_M), g_G M1 → FR md_s2 M M1 → (0 ≤ r.toInt) → (r.toInt ≤ 1) → Q (some (.int r)) M1) : mm_T X d 73 0 [.ref 42, .int l, .int y, .null, .null] [] M Q := by
  have F0 : FR md_s2 M M := FR.rf
  refine to_c (pc := 0) rw_73_0 (x := (0 : Int32)) rfl rfl (to_isn (pc := 1) rw_73_1 (ls2 := [.ref 42, .int l, .int y, .int (0 : Int32), .null]) rfl rfl ?_)
  have k_69 : (0 : Int32).toInt = 0 := rfl
  exact (T_73_1 (l := l) (y := y) hX hd q1 q2 h ((30 - (0 : Int32).toInt).toNat + 1)) M (0 : Int32) (.null) hG F0 (by omega) (by omega) (by omega)
set_option maxRecDepth 4000 in
set_option maxHeartbeats 0 in
theorem T_74_0 {X : mm_X} {d : Nat} {M : mm_M} {Q : Option Value → mm_M → Prop} {s : Int32} (hX : g_X X) (hd : 0 ≤ d) (q1 : 0 ≤ s.toInt) (q2 : s.toInt ≤ 63) (h : ∀ (r : Int32) (M1 : mm_M), g_G M1 → FR md_s2 M M1 → (0 ≤ r.toInt) → (r.toInt ≤ 1) → Q (some (.int r)) M1) : ∀ nn9 : Nat, (∀ (N : mm_M) (x2 : Int32), g_G N → FR md_s2 M N → (0 ≤ x2.toInt) → (x2.toInt ≤ 30) → 30 - x2.toInt < (nn9 : Int) → mm_T X d 74 33 [.ref 42, .int s, .int x2] [] N Q) := by
  intro nn9
  induction nn9 with
  | zero =>
    intro N x2 hG F0 g1 g2 hm
    exfalso; omega
  | succ nn9 ih =>
    intro N x2 hG F0 g1 g2 hm
    refine to_in (pc := 33) rw_74_33 rfl (to_an (pc := 34) rw_74_34 rfl ?_)
    have b_1 := g_b hG (a := 42) (i := 0) (lo := 0) (hi := 30) rfl rfl
    refine tt_gI (pc := 35) rw_74_35 (g_o hG rfl) (v := (N.2.1 42 0)) rfl (b_cge (pc := 38) rw_74_38 (A := x2.toInt) (B := (N.2.1 42 0).toInt) rfl rfl (fun h2 => ?_) (fun h2 => ?_))
    · refine to_c (pc := 90) rw_74_90 (x := (1 : Int32)) rfl rfl (s_r1 (pc := 91) rw_74_91 (A := 1) rfl (by decide) ?_)
      have k_3 : (1 : Int32).toInt = 1 := rfl
      exact h (1 : Int32) N hG F0 (by decide) (by decide)
    · refine to_an (pc := 41) rw_74_41 rfl (s_gR (pc := 42) rw_74_42 hG rfl (v := 43) rfl (to_in (pc := 45) rw_74_45 rfl (s_ial (pc := 46) rw_74_46 hG rfl (n := 30) rfl rfl (A := x2.toInt) rfl (by omega) (by omega) (lo := -2147483648) (hi := 2147483647) rfl rfl (fun v4 w_5 _ _ => to_an (pc := 47) rw_74_47 rfl (s_gR (pc := 48) rw_74_48 hG rfl (v := 47) rfl (to_an (pc := 51) rw_74_51 rfl (s_gR (pc := 52) rw_74_52 hG rfl (v := 44) rfl (to_in (pc := 55) rw_74_55 rfl (s_ial (pc := 56) rw_74_56 hG rfl (n := 30) rfl rfl (A := x2.toInt) rfl (by omega) (by omega) (lo := 0) (hi := 63) rfl rfl (fun v6 w_7 _ _ => to_in (pc := 57) rw_74_57 rfl (s_and (pc := 58) rw_74_58 (B := s.toInt) rfl (by omega) (fun v8 e9 _ _ => ?_))))))))))))
      refine s_ial (pc := 59) rw_74_59 hG rfl (n := 64) rfl rfl (A := v8.toInt) rfl (by omega) (by omega) (lo := -2147483648) (hi := 2147483647) rfl rfl (fun v10 w_11 _ _ => b_cge (pc := 60) rw_74_60 (A := v4.toInt) (B := v10.toInt) rfl rfl (fun h12 => ?_) (fun h12 => ?_))
      · refine to_an (pc := 65) rw_74_65 rfl (s_gR (pc := 66) rw_74_66 hG rfl (v := 47) rfl (to_an (pc := 69) rw_74_69 rfl (s_gR (pc := 70) rw_74_70 hG rfl (v := 44) rfl (to_in (pc := 73) rw_74_73 rfl (s_ialk (pc := 74) rw_74_74 hG rfl (n := 30) rfl rfl (A := x2.toInt) rfl (by omega) (by omega) (v := v6) w_7 (to_in (pc := 75) rw_74_75 rfl (to_2 (pc := 76) rw_74_76 (v := v8) (congrArg some e9) (to_an (pc := 77) rw_74_77 rfl (s_gR (pc := 78) rw_74_78 hG rfl (v := 43) rfl (to_in (pc := 81) rw_74_81 rfl (s_ialk (pc := 82) rw_74_82 hG rfl (n := 30) rfl rfl (A := x2.toInt) rfl (by omega) (by omega) (v := v4) w_5 ?_)))))))))))
        refine s_ias (pc := 83) rw_74_83 hG rfl (n := 64) rfl (A := v8.toInt) rfl (by omega) (by omega) (fun M20 W19 => ?_)
        have hG21 := g_wf hG W19 rfl rfl (by decide)
        have F22 := FR.w F0 W19 (show 43 ≤ 47 ∧ 47 ≤ 48 by decide)
        refine s_inc (pc := 84) rw_74_84 (ls2 := fun v => [.ref 42, .int s, .int v]) rfl rfl (fun _ => rfl) (A := x2.toInt) (B := 1) rfl rfl (by omega) (fun v23 e24 => to_go (pc := 87) rw_74_87 ?_)
        exact ih M20 v23 hG21 F22 (by omega) (by omega) (by omega)
      · refine to_c (pc := 63) rw_74_63 (x := (0 : Int32)) rfl rfl (s_r1 (pc := 64) rw_74_64 (A := 0) rfl (by decide) ?_)
        have k_25 : (0 : Int32).toInt = 0 := rfl
        exact h (0 : Int32) N hG F0 (by decide) (by decide)
set_option maxRecDepth 4000 in
set_option maxHeartbeats 0 in
theorem T_74_1 {X : mm_X} {d : Nat} {M : mm_M} {Q : Option Value → mm_M → Prop} {s : Int32} (hX : g_X X) (hd : 0 ≤ d) (q1 : 0 ≤ s.toInt) (q2 : s.toInt ≤ 63) (h : ∀ (r : Int32) (M1 : mm_M), g_G M1 → FR md_s2 M M1 → (0 ≤ r.toInt) → (r.toInt ≤ 1) → Q (some (.int r)) M1) : ∀ nn9 : Nat, (∀ (N : mm_M) (x2 : Int32), g_G N → FR md_s2 M N → (0 ≤ x2.toInt) → (x2.toInt ≤ 30) → 30 - x2.toInt < (nn9 : Int) → mm_T X d 74 2 [.ref 42, .int s, .int x2] [] N Q) := by
  intro nn9
  induction nn9 with
  | zero =>
    intro N x2 hG F0 g1 g2 hm
    exfalso; omega
  | succ nn9 ih =>
    intro N x2 hG F0 g1 g2 hm
    refine to_in (pc := 2) rw_74_2 rfl (to_an (pc := 3) rw_74_3 rfl ?_)
    have b_26 := g_b hG (a := 42) (i := 0) (lo := 0) (hi := 30) rfl rfl
    refine tt_gI (pc := 4) rw_74_4 (g_o hG rfl) (v := (N.2.1 42 0)) rfl (b_cge (pc := 7) rw_74_7 (A := x2.toInt) (B := (N.2.1 42 0).toInt) rfl rfl (fun h27 => ?_) (fun h27 => ?_))
    · refine to_c (pc := 31) rw_74_31 (x := (0 : Int32)) rfl rfl (to_isn (pc := 32) rw_74_32 (ls2 := [.ref 42, .int s, .int (0 : Int32)]) rfl rfl ?_)
      have k_28 : (0 : Int32).toInt = 0 := rfl
      exact (T_74_0 (s := s) hX hd q1 q2 h ((30 - (0 : Int32).toInt).toNat + 1)) N (0 : Int32) hG F0 (by omega) (by omega) (by omega)
    · refine to_an (pc := 10) rw_74_10 rfl (s_gR (pc := 11) rw_74_11 hG rfl (v := 47) rfl (to_an (pc := 14) rw_74_14 rfl (s_gR (pc := 15) rw_74_15 hG rfl (v := 44) rfl (to_in (pc := 18) rw_74_18 rfl (s_ial (pc := 19) rw_74_19 hG rfl (n := 30) rfl rfl (A := x2.toInt) rfl (by omega) (by omega) (lo := 0) (hi := 63) rfl rfl (fun v29 w_30 _ _ => to_in (pc := 20) rw_74_20 rfl (s_and (pc := 21) rw_74_21 (B := s.toInt) rfl (by omega) (fun v31 e32 _ _ => to_c (pc := 22) rw_74_22 (x := (-2 : Int32)) rfl rfl (s_ias (pc := 24) rw_74_24 hG rfl (n := 64) rfl (A := v31.toInt) rfl (by omega) (by omega) (fun M34 W33 => ?_))))))))))
      have hG35 := g_wf hG W33 rfl rfl (by decide)
      have F36 := FR.w F0 W33 (show 43 ≤ 47 ∧ 47 ≤ 48 by decide)
      refine s_inc (pc := 25) rw_74_25 (ls2 := fun v => [.ref 42, .int s, .int v]) rfl rfl (fun _ => rfl) (A := x2.toInt) (B := 1) rfl rfl (by omega) (fun v37 e38 => to_go (pc := 28) rw_74_28 ?_)
      exact ih M34 v37 hG35 F36 (by omega) (by omega) (by omega)
set_option maxRecDepth 4000 in
set_option maxHeartbeats 0 in
theorem C_74 {X : mm_X} {d : Nat} {M : mm_M} {Q : Option Value → mm_M → Prop} {s : Int32} (hX : g_X X) (hd : 0 ≤ d) (hG : g_G M) (q1 : 0 ≤ s.toInt) (q2 : s.toInt ≤ 63) (h : ∀ (r : Int32) (M1 : mm_M), g_G M1 → FR md_s2 M M1 → (0 ≤ r.toInt) → (r.toInt ≤ 1) → Q (some (.int r)) M1) : mm_T X d 74 0 [.ref 42, .int s, .null] [] M Q := by
  have F0 : FR md_s2 M M := FR.rf
  refine to_c (pc := 0) rw_74_0 (x := (0 : Int32)) rfl rfl (to_isn (pc := 1) rw_74_1 (ls2 := [.ref 42, .int s, .int (0 : Int32)]) rfl rfl ?_)
  have k_39 : (0 : Int32).toInt = 0 := rfl
  exact (T_74_1 (s := s) hX hd q1 q2 h ((30 - (0 : Int32).toInt).toNat + 1)) M (0 : Int32) hG F0 (by omega) (by omega) (by omega)
set_option maxRecDepth 4000 in
set_option maxHeartbeats 0 in
theorem T_72_0 {X : mm_X} {d : Nat} {M : mm_M} {Q : Option Value → mm_M → Prop} {s : Int32} (hX : g_X X) (hd : 1 ≤ d) (q1 : 0 ≤ s.toInt) (q2 : s.toInt ≤ 63) (h : ∀ (r : Int32) (M1 : mm_M), g_G M1 → FR md_s2 M M1 → Q (some (.int r)) M1) : ∀ nn9 : Nat, (∀ (N : mm_M) (x2 : Int32) (x3 : Int32) (u4 : Value), g_G N → FR md_s2 M N → (0 ≤ x3.toInt) → (x3.toInt ≤ 6) → 6 - x3.toInt < (nn9 : Int) → mm_T X d 72 9 [.ref 42, .int s, .int x2, .int x3, u4] [] N Q) := by
  intro nn9
  induction nn9 with
  | zero =>
    intro N x2 x3 u4 hG F0 g1 g2 hm
    exfalso; omega
  | succ nn9 ih =>
    intro N x2 x3 u4 hG F0 g1 g2 hm
    refine to_in (pc := 9) rw_72_9 rfl (to_an (pc := 10) rw_72_10 rfl ?_)
    have b_1 := g_b hG (a := 42) (i := 1) (lo := 0) (hi := 6) rfl rfl
    refine tt_gI (pc := 11) rw_72_11 (g_o hG rfl) (v := (N.2.1 42 1)) rfl (b_cge (pc := 14) rw_72_14 (A := x3.toInt) (B := (N.2.1 42 1).toInt) rfl rfl (fun h2 => ?_) (fun h2 => ?_))
    · refine to_c (pc := 73) rw_72_73 (x := (-1 : Int32)) rfl rfl (to_r0 (pc := 74) rw_72_74 ?_)
      have k_3 : (-1 : Int32).toInt = -1 := rfl
      exact h (-1 : Int32) N hG F0 
    · refine to_in (pc := 17) rw_72_17 rfl (to_c (pc := 18) rw_72_18 (x := (1 : Int32)) rfl rfl (to_in (pc := 19) rw_72_19 rfl (s_shl1 (pc := 20) rw_72_20 (B := x3.toInt) rfl (by omega) (fun v4 _ _ => to_c (pc := 21) rw_72_21 (x := (-1 : Int32)) rfl rfl (s_any (pc := 22) rw_72_22 (fun _ _ => rfl) (fun v5 => s_and' (pc := 23) rw_72_23 (A := s.toInt) rfl (by omega) (fun v6 e7 _ _ => to_is (pc := 24) rw_72_24 (ls2 := [.ref 42, .int s, .int x2, .int x3, .int v6]) rfl rfl (to_i (pc := 26) rw_72_26 rfl (to_in (pc := 28) rw_72_28 rfl (b_ceq (pc := 29) rw_72_29 (A := v6.toInt) (B := s.toInt) rfl rfl (fun h8 => ?_) (fun h8 => ?_)))))))))))
      · refine s_inc (pc := 67) rw_72_67 (ls2 := fun v => [.ref 42, .int s, .int x2, .int v, .int v6]) rfl rfl (fun _ => rfl) (A := x3.toInt) (B := 1) rfl rfl (by omega) (fun v9 e10 => to_go (pc := 70) rw_72_70 ?_)
        exact ih N x2 v9 (.int v6) hG F0 (by omega) (by omega) (by omega)
      · refine to_an (pc := 32) rw_72_32 rfl (s_gR (pc := 33) rw_72_33 hG rfl (v := 46) rfl (to_i (pc := 36) rw_72_36 rfl (s_ial (pc := 38) rw_72_38 hG rfl (n := 64) rfl rfl (A := v6.toInt) rfl (by omega) (by omega) (lo := -2147483648) (hi := 2147483647) rfl rfl (fun v11 w_12 _ _ => to_c (pc := 39) rw_72_39 (x := (-1 : Int32)) rfl rfl (b_ceq (pc := 40) rw_72_40 (A := v11.toInt) (B := -1) rfl rfl (fun h13 => ?_) (fun h13 => ?_))))))
        · refine s_inc (pc := 67) rw_72_67 (ls2 := fun v => [.ref 42, .int s, .int x2, .int v, .int v6]) rfl rfl (fun _ => rfl) (A := x3.toInt) (B := 1) rfl rfl (by omega) (fun v14 e15 => to_go (pc := 70) rw_72_70 ?_)
          exact ih N x2 v14 (.int v6) hG F0 (by omega) (by omega) (by omega)
        · refine to_an (pc := 43) rw_72_43 rfl (to_i (pc := 44) rw_72_44 rfl (to_in (pc := 46) rw_72_46 rfl (s_v (pc := 47) rw_72_47 (dp0 hd (by decide)) (ls0 := [.ref 42, .int v6, .int x3, .null, .null]) rfl (Nat.le_of_ble_eq_true rfl) (Nat.le_of_ble_eq_true rfl) rfl (to_rc rfl rfl rfl (g_o hG rfl)) rfl (C_73 hX (dp1 hd (by decide)) hG (by omega) (by omega) (l := v6) (y := x3) (fun r16 M21 hG18 F17 p_19 p_20 => ?_)))))
          have F22 := FR.c F0 F17 tg_154
          refine b_ieq (pc := 50) rw_72_50 (A := r16.toInt) rfl (fun h23 => ?_) (fun h23 => ?_)
          · refine s_inc (pc := 67) rw_72_67 (ls2 := fun v => [.ref 42, .int s, .int x2, .int v, .int v6]) rfl rfl (fun _ => rfl) (A := x3.toInt) (B := 1) rfl rfl (by omega) (fun v24 e25 => to_go (pc := 70) rw_72_70 ?_)
            exact ih M21 x2 v24 (.int v6) hG18 F22 (by omega) (by omega) (by omega)
          · refine to_in (pc := 53) rw_72_53 rfl (to_c (pc := 54) rw_72_54 (x := (3 : Int32)) rfl rfl (to_in (pc := 55) rw_72_55 rfl (s_any (pc := 56) rw_72_56 (fun _ _ => rfl) (fun v26 => s_any (pc := 57) rw_72_57 (fun _ _ => rfl) (fun v27 => to_an (pc := 58) rw_72_58 rfl (s_gR (pc := 59) rw_72_59 hG18 rfl (v := 46) rfl (to_i (pc := 62) rw_72_62 rfl (s_ial (pc := 64) rw_72_64 hG18 rfl (n := 64) rfl rfl (A := v6.toInt) rfl (by omega) (by omega) (lo := -2147483648) (hi := 2147483647) rfl rfl (fun v28 w_29 _ _ => s_any (pc := 65) rw_72_65 (fun _ _ => rfl) (fun v30 => to_r0 (pc := 66) rw_72_66 ?_))))))))))
            exact h v30 M21 hG18 F22 
set_option maxRecDepth 4000 in
set_option maxHeartbeats 0 in
theorem C_72 {X : mm_X} {d : Nat} {M : mm_M} {Q : Option Value → mm_M → Prop} {s : Int32} (hX : g_X X) (hd : 1 ≤ d) (hG : g_G M) (q1 : 0 ≤ s.toInt) (q2 : s.toInt ≤ 63) (h : ∀ (r : Int32) (M1 : mm_M), g_G M1 → FR md_s2 M M1 → Q (some (.int r)) M1) : mm_T X d 72 0 [.ref 42, .int s, .null, .null, .null] [] M Q := by
  have F0 : FR md_s2 M M := FR.rf
  refine to_in (pc := 0) rw_72_0 rfl (s_s (pc := 1) rw_72_1 (dp0 hd (by decide)) (ls0 := [.int s]) rfl (Nat.le_of_ble_eq_true rfl) (Nat.le_of_ble_eq_true rfl) rfl (to_rcs rfl rfl) rfl (C_247 hX (dp1 hd (by decide)) hG (x := s) (fun r31 M34 hG33 F32 => ?_)))
  have F35 := FR.c F0 F32 tg_155
  refine to_c (pc := 4) rw_72_4 (x := (1 : Int32)) rfl rfl (s_any (pc := 5) rw_72_5 (fun _ _ => rfl) (fun v36 => to_isn (pc := 6) rw_72_6 (ls2 := [.ref 42, .int s, .int v36, .null, .null]) rfl rfl (to_c (pc := 7) rw_72_7 (x := (0 : Int32)) rfl rfl (to_isn (pc := 8) rw_72_8 (ls2 := [.ref 42, .int s, .int v36, .int (0 : Int32), .null]) rfl rfl ?_))))
  have k_37 : (0 : Int32).toInt = 0 := rfl
  exact (T_72_0 (s := s) hX hd q1 q2 h ((6 - (0 : Int32).toInt).toNat + 1)) M34 v36 (0 : Int32) (.null) hG33 F35 (by omega) (by omega) (by omega)
set_option maxRecDepth 4000 in
set_option maxHeartbeats 0 in
theorem T_71_0 {X : mm_X} {d : Nat} {M : mm_M} {Q : Option Value → mm_M → Prop} (hX : g_X X) (hd : 2 ≤ d) (h : ∀ (r : Int32) (M1 : mm_M), g_G M1 → FR md_s M M1 → (0 ≤ r.toInt) → (r.toInt ≤ 1) → Q (some (.int r)) M1) : ∀ nn9 : Nat, (∀ (N : mm_M) (x1 : Int32) (u2 : Value) (u3 : Value), g_G N → FR md_s M N → (0 ≤ x1.toInt) → (x1.toInt ≤ 64) → 64 - x1.toInt < (nn9 : Int) → mm_T X d 71 14 [.ref 42, .int x1, u2, u3] [] N Q) := by
  intro nn9
  induction nn9 with
  | zero =>
    intro N x1 u2 u3 hG F0 g1 g2 hm
    exfalso; omega
  | succ nn9 ih =>
    intro N x1 u2 u3 hG F0 g1 g2 hm
    refine to_in (pc := 14) rw_71_14 rfl (to_c (pc := 15) rw_71_15 (x := (1 : Int32)) rfl rfl (to_an (pc := 16) rw_71_16 rfl ?_))
    have b_1 := g_b hG (a := 42) (i := 1) (lo := 0) (hi := 6) rfl rfl
    refine tt_gI (pc := 17) rw_71_17 (g_o hG rfl) (v := (N.2.1 42 1)) rfl (s_shl1 (pc := 20) rw_71_20 (B := (N.2.1 42 1).toInt) rfl (by omega) (fun v2 _ _ => b_cge (pc := 21) rw_71_21 (A := x1.toInt) (B := v2.toInt) rfl rfl (fun h3 => ?_) (fun h3 => ?_)))
    · refine to_an (pc := 130) rw_71_130 rfl (tt_gI (pc := 131) rw_71_131 (g_o hG rfl) (v := (N.2.1 42 8)) rfl (to_c (pc := 134) rw_71_134 (x := (-1 : Int32)) rfl rfl (b_ceq (pc := 135) rw_71_135 (A := (N.2.1 42 8).toInt) (B := -1) rfl rfl (fun h4 => ?_) (fun h4 => ?_))))
      · refine to_c (pc := 142) rw_71_142 (x := (0 : Int32)) rfl rfl (s_r1 (pc := 143) rw_71_143 (A := 0) rfl (by decide) ?_)
        have k_5 : (0 : Int32).toInt = 0 := rfl
        exact h (0 : Int32) N hG F0 (by decide) (by decide)
      · refine to_c (pc := 138) rw_71_138 (x := (1 : Int32)) rfl rfl (to_go (pc := 139) rw_71_139 (s_r1 (pc := 143) rw_71_143 (A := 1) rfl (by decide) ?_))
        have k_6 : (1 : Int32).toInt = 1 := rfl
        exact h (1 : Int32) N hG F0 (by decide) (by decide)
    · refine to_in (pc := 24) rw_71_24 rfl (b_ile (pc := 25) rw_71_25 (A := x1.toInt) rfl (fun h7 => ?_) (fun h7 => ?_))
      · refine to_in (pc := 39) rw_71_39 rfl (s_s (pc := 40) rw_71_40 (dp0 hd (by decide)) (ls0 := [.int x1]) rfl (Nat.le_of_ble_eq_true rfl) (Nat.le_of_ble_eq_true rfl) rfl (to_rcs rfl rfl) rfl (C_247 hX (dp1 hd (by decide)) hG (x := x1) (fun r8 M11 hG10 F9 => ?_)))
        have F12 := FR.c F0 F9 tg_156
        refine to_isn (pc := 43) rw_71_43 (ls2 := [.ref 42, .int x1, .int r8, u3]) rfl rfl (to_an (pc := 44) rw_71_44 rfl ?_)
        have c_13 : M11.2.1 42 8 = (N.2.1 42 8) := (F_n F9 (show ¬ (42 < 0) by decide) rfl)
        refine tt_gI (pc := 45) rw_71_45 (g_o hG10 rfl) (v := (N.2.1 42 8)) c_13 (to_c (pc := 48) rw_71_48 (x := (-1 : Int32)) rfl rfl (b_ceq (pc := 49) rw_71_49 (A := (N.2.1 42 8).toInt) (B := -1) rfl rfl (fun h14 => ?_) (fun h14 => ?_)))
        · refine to_c (pc := 81) rw_71_81 (x := (1 : Int32)) rfl rfl (to_go (pc := 82) rw_71_82 (to_isn (pc := 86) rw_71_86 (ls2 := [.ref 42, .int x1, .int r8, .int (1 : Int32)]) rfl rfl (to_an (pc := 87) rw_71_87 rfl (s_gR (pc := 88) rw_71_88 hG10 rfl (v := 46) rfl (to_in (pc := 91) rw_71_91 rfl (s_ial (pc := 92) rw_71_92 hG10 rfl (n := 64) rfl rfl (A := x1.toInt) rfl (by omega) (by omega) (lo := -2147483648) (hi := 2147483647) rfl rfl (fun v15 w_16 _ _ => to_c (pc := 93) rw_71_93 (x := (-1 : Int32)) rfl rfl (b_ceq (pc := 94) rw_71_94 (A := v15.toInt) (B := -1) rfl rfl (fun h17 => ?_) (fun h17 => ?_)))))))))
          · refine s_inc (pc := 124) rw_71_124 (ls2 := fun v => [.ref 42, .int v, .int r8, .int (1 : Int32)]) rfl rfl (fun _ => rfl) (A := x1.toInt) (B := 1) rfl rfl (by omega) (fun v18 e19 => to_go (pc := 127) rw_71_127 ?_)
            exact ih M11 v18 (.int r8) (.int (1 : Int32)) hG10 F12 (by omega) (by omega) (by omega)
          · refine to_in (pc := 97) rw_71_97 rfl (b_ieq_f (pc := 98) rw_71_98 (A := 1) rfl (by decide) (to_an (pc := 101) rw_71_101 rfl (to_in (pc := 102) rw_71_102 rfl (s_v (pc := 103) rw_71_103 (dp0 hd (by decide)) (ls0 := [.ref 42, .int x1, .null]) rfl (Nat.le_of_ble_eq_true rfl) (Nat.le_of_ble_eq_true rfl) rfl (to_rc rfl rfl rfl (g_o hG10 rfl)) rfl (C_74 hX (dp1 hd (by decide)) hG10 (by omega) (by omega) (s := x1) (fun r20 M25 hG22 F21 p_23 p_24 => ?_))))))
            have F26 := FR.c F12 F21 tg_157
            refine b_ieq (pc := 106) rw_71_106 (A := r20.toInt) rfl (fun h27 => ?_) (fun h27 => ?_)
            · refine s_inc (pc := 124) rw_71_124 (ls2 := fun v => [.ref 42, .int v, .int r8, .int (1 : Int32)]) rfl rfl (fun _ => rfl) (A := x1.toInt) (B := 1) rfl rfl (by omega) (fun v28 e29 => to_go (pc := 127) rw_71_127 ?_)
              exact ih M25 v28 (.int r8) (.int (1 : Int32)) hG22 F26 (by omega) (by omega) (by omega)
            · refine to_an (pc := 109) rw_71_109 rfl (to_in (pc := 110) rw_71_110 rfl (s_pI (pc := 111) rw_71_111 hG22 rfl (fun M31 W30 => ?_)))
              have hG32 := g_wf hG22 W30 rfl rfl (by decide)
              have F33 := FR.w F26 W30 (show 42 ≤ 42 ∧ 42 ≤ 48 by decide)
              refine to_an (pc := 114) rw_71_114 rfl (to_an (pc := 115) rw_71_115 rfl (s_gR (pc := 116) rw_71_116 hG32 rfl (v := 46) rfl (to_in (pc := 119) rw_71_119 rfl (s_ial (pc := 120) rw_71_120 hG32 rfl (n := 64) rfl rfl (A := x1.toInt) rfl (by omega) (by omega) (lo := -2147483648) (hi := 2147483647) rfl rfl (fun v34 w_35 _ _ => s_pI (pc := 121) rw_71_121 hG32 rfl (fun M37 W36 => ?_))))))
              have hG38 := g_wf hG32 W36 rfl rfl (by decide)
              have F39 := FR.w F33 W36 (show 42 ≤ 42 ∧ 42 ≤ 48 by decide)
              refine s_inc (pc := 124) rw_71_124 (ls2 := fun v => [.ref 42, .int v, .int r8, .int (1 : Int32)]) rfl rfl (fun _ => rfl) (A := x1.toInt) (B := 1) rfl rfl (by omega) (fun v40 e41 => to_go (pc := 127) rw_71_127 ?_)
              exact ih M37 v40 (.int r8) (.int (1 : Int32)) hG38 F39 (by omega) (by omega) (by omega)
        · refine to_in (pc := 52) rw_71_52 rfl (to_an (pc := 53) rw_71_53 rfl (tt_gI (pc := 54) rw_71_54 (g_o hG10 rfl) (v := (N.2.1 42 8)) c_13 (b_clt (pc := 57) rw_71_57 (A := r8.toInt) (B := (N.2.1 42 8).toInt) rfl rfl (fun h42 => ?_) (fun h42 => ?_))))
          · refine to_c (pc := 81) rw_71_81 (x := (1 : Int32)) rfl rfl (to_go (pc := 82) rw_71_82 (to_isn (pc := 86) rw_71_86 (ls2 := [.ref 42, .int x1, .int r8, .int (1 : Int32)]) rfl rfl (to_an (pc := 87) rw_71_87 rfl (s_gR (pc := 88) rw_71_88 hG10 rfl (v := 46) rfl (to_in (pc := 91) rw_71_91 rfl (s_ial (pc := 92) rw_71_92 hG10 rfl (n := 64) rfl rfl (A := x1.toInt) rfl (by omega) (by omega) (lo := -2147483648) (hi := 2147483647) rfl rfl (fun v43 w_44 _ _ => to_c (pc := 93) rw_71_93 (x := (-1 : Int32)) rfl rfl (b_ceq (pc := 94) rw_71_94 (A := v43.toInt) (B := -1) rfl rfl (fun h45 => ?_) (fun h45 => ?_)))))))))
            · refine s_inc (pc := 124) rw_71_124 (ls2 := fun v => [.ref 42, .int v, .int r8, .int (1 : Int32)]) rfl rfl (fun _ => rfl) (A := x1.toInt) (B := 1) rfl rfl (by omega) (fun v46 e47 => to_go (pc := 127) rw_71_127 ?_)
              exact ih M11 v46 (.int r8) (.int (1 : Int32)) hG10 F12 (by omega) (by omega) (by omega)
            · refine to_in (pc := 97) rw_71_97 rfl (b_ieq_f (pc := 98) rw_71_98 (A := 1) rfl (by decide) (to_an (pc := 101) rw_71_101 rfl (to_in (pc := 102) rw_71_102 rfl (s_v (pc := 103) rw_71_103 (dp0 hd (by decide)) (ls0 := [.ref 42, .int x1, .null]) rfl (Nat.le_of_ble_eq_true rfl) (Nat.le_of_ble_eq_true rfl) rfl (to_rc rfl rfl rfl (g_o hG10 rfl)) rfl (C_74 hX (dp1 hd (by decide)) hG10 (by omega) (by omega) (s := x1) (fun r48 M53 hG50 F49 p_51 p_52 => ?_))))))
              have F54 := FR.c F12 F49 tg_157
              refine b_ieq (pc := 106) rw_71_106 (A := r48.toInt) rfl (fun h55 => ?_) (fun h55 => ?_)
              · refine s_inc (pc := 124) rw_71_124 (ls2 := fun v => [.ref 42, .int v, .int r8, .int (1 : Int32)]) rfl rfl (fun _ => rfl) (A := x1.toInt) (B := 1) rfl rfl (by omega) (fun v56 e57 => to_go (pc := 127) rw_71_127 ?_)
                exact ih M53 v56 (.int r8) (.int (1 : Int32)) hG50 F54 (by omega) (by omega) (by omega)
              · refine to_an (pc := 109) rw_71_109 rfl (to_in (pc := 110) rw_71_110 rfl (s_pI (pc := 111) rw_71_111 hG50 rfl (fun M59 W58 => ?_)))
                have hG60 := g_wf hG50 W58 rfl rfl (by decide)
                have F61 := FR.w F54 W58 (show 42 ≤ 42 ∧ 42 ≤ 48 by decide)
                refine to_an (pc := 114) rw_71_114 rfl (to_an (pc := 115) rw_71_115 rfl (s_gR (pc := 116) rw_71_116 hG60 rfl (v := 46) rfl (to_in (pc := 119) rw_71_119 rfl (s_ial (pc := 120) rw_71_120 hG60 rfl (n := 64) rfl rfl (A := x1.toInt) rfl (by omega) (by omega) (lo := -2147483648) (hi := 2147483647) rfl rfl (fun v62 w_63 _ _ => s_pI (pc := 121) rw_71_121 hG60 rfl (fun M65 W64 => ?_))))))
                have hG66 := g_wf hG60 W64 rfl rfl (by decide)
                have F67 := FR.w F61 W64 (show 42 ≤ 42 ∧ 42 ≤ 48 by decide)
                refine s_inc (pc := 124) rw_71_124 (ls2 := fun v => [.ref 42, .int v, .int r8, .int (1 : Int32)]) rfl rfl (fun _ => rfl) (A := x1.toInt) (B := 1) rfl rfl (by omega) (fun v68 e69 => to_go (pc := 127) rw_71_127 ?_)
                exact ih M65 v68 (.int r8) (.int (1 : Int32)) hG66 F67 (by omega) (by omega) (by omega)
          · refine to_in (pc := 60) rw_71_60 rfl (to_an (pc := 61) rw_71_61 rfl (tt_gI (pc := 62) rw_71_62 (g_o hG10 rfl) (v := (N.2.1 42 8)) c_13 (b_cne (pc := 65) rw_71_65 (A := r8.toInt) (B := (N.2.1 42 8).toInt) rfl rfl (fun h70 => ?_) (fun h70 => ?_))))
            · refine to_c (pc := 85) rw_71_85 (x := (0 : Int32)) rfl rfl (to_isn (pc := 86) rw_71_86 (ls2 := [.ref 42, .int x1, .int r8, .int (0 : Int32)]) rfl rfl (to_an (pc := 87) rw_71_87 rfl (s_gR (pc := 88) rw_71_88 hG10 rfl (v := 46) rfl (to_in (pc := 91) rw_71_91 rfl (s_ial (pc := 92) rw_71_92 hG10 rfl (n := 64) rfl rfl (A := x1.toInt) rfl (by omega) (by omega) (lo := -2147483648) (hi := 2147483647) rfl rfl (fun v71 w_72 _ _ => to_c (pc := 93) rw_71_93 (x := (-1 : Int32)) rfl rfl (b_ceq (pc := 94) rw_71_94 (A := v71.toInt) (B := -1) rfl rfl (fun h73 => ?_) (fun h73 => ?_))))))))
              · refine s_inc (pc := 124) rw_71_124 (ls2 := fun v => [.ref 42, .int v, .int r8, .int (0 : Int32)]) rfl rfl (fun _ => rfl) (A := x1.toInt) (B := 1) rfl rfl (by omega) (fun v74 e75 => to_go (pc := 127) rw_71_127 ?_)
                exact ih M11 v74 (.int r8) (.int (0 : Int32)) hG10 F12 (by omega) (by omega) (by omega)
              · refine to_in (pc := 97) rw_71_97 rfl (b_ieq_t (pc := 98) rw_71_98 (A := 0) rfl (by decide) (s_inc (pc := 124) rw_71_124 (ls2 := fun v => [.ref 42, .int v, .int r8, .int (0 : Int32)]) rfl rfl (fun _ => rfl) (A := x1.toInt) (B := 1) rfl rfl (by omega) (fun v76 e77 => to_go (pc := 127) rw_71_127 ?_)))
                exact ih M11 v76 (.int r8) (.int (0 : Int32)) hG10 F12 (by omega) (by omega) (by omega)
            · refine to_an (pc := 68) rw_71_68 rfl (s_gR (pc := 69) rw_71_69 hG10 rfl (v := 46) rfl (to_in (pc := 72) rw_71_72 rfl (s_ial (pc := 73) rw_71_73 hG10 rfl (n := 64) rfl rfl (A := x1.toInt) rfl (by omega) (by omega) (lo := -2147483648) (hi := 2147483647) rfl rfl (fun v78 w_79 _ _ => to_an (pc := 74) rw_71_74 rfl ?_))))
              have c_80 : M11.2.1 42 9 = (N.2.1 42 9) := (F_n F9 (show ¬ (42 < 0) by decide) rfl)
              refine tt_gI (pc := 75) rw_71_75 (g_o hG10 rfl) (v := (N.2.1 42 9)) c_80 (b_cge (pc := 78) rw_71_78 (A := v78.toInt) (B := (N.2.1 42 9).toInt) rfl rfl (fun h81 => ?_) (fun h81 => ?_))
              · refine to_c (pc := 85) rw_71_85 (x := (0 : Int32)) rfl rfl (to_isn (pc := 86) rw_71_86 (ls2 := [.ref 42, .int x1, .int r8, .int (0 : Int32)]) rfl rfl (to_an (pc := 87) rw_71_87 rfl (s_gR (pc := 88) rw_71_88 hG10 rfl (v := 46) rfl (to_in (pc := 91) rw_71_91 rfl (s_ialk (pc := 92) rw_71_92 hG10 rfl (n := 64) rfl rfl (A := x1.toInt) rfl (by omega) (by omega) (v := v78) w_79 (to_c (pc := 93) rw_71_93 (x := (-1 : Int32)) rfl rfl (b_ceq (pc := 94) rw_71_94 (A := v78.toInt) (B := -1) rfl rfl (fun h84 => ?_) (fun h84 => ?_))))))))
                · refine s_inc (pc := 124) rw_71_124 (ls2 := fun v => [.ref 42, .int v, .int r8, .int (0 : Int32)]) rfl rfl (fun _ => rfl) (A := x1.toInt) (B := 1) rfl rfl (by omega) (fun v85 e86 => to_go (pc := 127) rw_71_127 ?_)
                  exact ih M11 v85 (.int r8) (.int (0 : Int32)) hG10 F12 (by omega) (by omega) (by omega)
                · refine to_in (pc := 97) rw_71_97 rfl (b_ieq_t (pc := 98) rw_71_98 (A := 0) rfl (by decide) (s_inc (pc := 124) rw_71_124 (ls2 := fun v => [.ref 42, .int v, .int r8, .int (0 : Int32)]) rfl rfl (fun _ => rfl) (A := x1.toInt) (B := 1) rfl rfl (by omega) (fun v87 e88 => to_go (pc := 127) rw_71_127 ?_)))
                  exact ih M11 v87 (.int r8) (.int (0 : Int32)) hG10 F12 (by omega) (by omega) (by omega)
              · refine to_c (pc := 81) rw_71_81 (x := (1 : Int32)) rfl rfl (to_go (pc := 82) rw_71_82 (to_isn (pc := 86) rw_71_86 (ls2 := [.ref 42, .int x1, .int r8, .int (1 : Int32)]) rfl rfl (to_an (pc := 87) rw_71_87 rfl (s_gR (pc := 88) rw_71_88 hG10 rfl (v := 46) rfl (to_in (pc := 91) rw_71_91 rfl (s_ialk (pc := 92) rw_71_92 hG10 rfl (n := 64) rfl rfl (A := x1.toInt) rfl (by omega) (by omega) (v := v78) w_79 (to_c (pc := 93) rw_71_93 (x := (-1 : Int32)) rfl rfl (b_ceq (pc := 94) rw_71_94 (A := v78.toInt) (B := -1) rfl rfl (fun h91 => ?_) (fun h91 => ?_)))))))))
                · refine s_inc (pc := 124) rw_71_124 (ls2 := fun v => [.ref 42, .int v, .int r8, .int (1 : Int32)]) rfl rfl (fun _ => rfl) (A := x1.toInt) (B := 1) rfl rfl (by omega) (fun v92 e93 => to_go (pc := 127) rw_71_127 ?_)
                  exact ih M11 v92 (.int r8) (.int (1 : Int32)) hG10 F12 (by omega) (by omega) (by omega)
                · refine to_in (pc := 97) rw_71_97 rfl (b_ieq_f (pc := 98) rw_71_98 (A := 1) rfl (by decide) (to_an (pc := 101) rw_71_101 rfl (to_in (pc := 102) rw_71_102 rfl (s_v (pc := 103) rw_71_103 (dp0 hd (by decide)) (ls0 := [.ref 42, .int x1, .null]) rfl (Nat.le_of_ble_eq_true rfl) (Nat.le_of_ble_eq_true rfl) rfl (to_rc rfl rfl rfl (g_o hG10 rfl)) rfl (C_74 hX (dp1 hd (by decide)) hG10 (by omega) (by omega) (s := x1) (fun r94 M99 hG96 F95 p_97 p_98 => ?_))))))
                  have F100 := FR.c F12 F95 tg_157
                  refine b_ieq (pc := 106) rw_71_106 (A := r94.toInt) rfl (fun h101 => ?_) (fun h101 => ?_)
                  · refine s_inc (pc := 124) rw_71_124 (ls2 := fun v => [.ref 42, .int v, .int r8, .int (1 : Int32)]) rfl rfl (fun _ => rfl) (A := x1.toInt) (B := 1) rfl rfl (by omega) (fun v102 e103 => to_go (pc := 127) rw_71_127 ?_)
                    exact ih M99 v102 (.int r8) (.int (1 : Int32)) hG96 F100 (by omega) (by omega) (by omega)
                  · refine to_an (pc := 109) rw_71_109 rfl (to_in (pc := 110) rw_71_110 rfl (s_pI (pc := 111) rw_71_111 hG96 rfl (fun M105 W104 => ?_)))
                    have hG106 := g_wf hG96 W104 rfl rfl (by decide)
                    have F107 := FR.w F100 W104 (show 42 ≤ 42 ∧ 42 ≤ 48 by decide)
                    refine to_an (pc := 114) rw_71_114 rfl (to_an (pc := 115) rw_71_115 rfl (s_gR (pc := 116) rw_71_116 hG106 rfl (v := 46) rfl (to_in (pc := 119) rw_71_119 rfl (s_ial (pc := 120) rw_71_120 hG106 rfl (n := 64) rfl rfl (A := x1.toInt) rfl (by omega) (by omega) (lo := -2147483648) (hi := 2147483647) rfl rfl (fun v108 w_109 _ _ => s_pI (pc := 121) rw_71_121 hG106 rfl (fun M111 W110 => ?_))))))
                    have hG112 := g_wf hG106 W110 rfl rfl (by decide)
                    have F113 := FR.w F107 W110 (show 42 ≤ 42 ∧ 42 ≤ 48 by decide)
                    refine s_inc (pc := 124) rw_71_124 (ls2 := fun v => [.ref 42, .int v, .int r8, .int (1 : Int32)]) rfl rfl (fun _ => rfl) (A := x1.toInt) (B := 1) rfl rfl (by omega) (fun v114 e115 => to_go (pc := 127) rw_71_127 ?_)
                    exact ih M111 v114 (.int r8) (.int (1 : Int32)) hG112 F113 (by omega) (by omega) (by omega)
      · refine to_an (pc := 28) rw_71_28 rfl (s_gR (pc := 29) rw_71_29 hG rfl (v := 46) rfl (to_in (pc := 32) rw_71_32 rfl (to_an (pc := 33) rw_71_33 rfl (to_in (pc := 34) rw_71_34 rfl (s_v (pc := 35) rw_71_35 (dp0 hd (by decide)) (ls0 := [.ref 42, .int x1, .null, .null, .null]) rfl (Nat.le_of_ble_eq_true rfl) (Nat.le_of_ble_eq_true rfl) rfl (to_rc rfl rfl rfl (g_o hG rfl)) rfl (C_72 hX (dp1 hd (by decide)) hG (by omega) (by omega) (s := x1) (fun r116 M119 hG118 F117 => ?_)))))))
        have F120 := FR.c F0 F117 tg_157
        refine s_ias (pc := 38) rw_71_38 hG118 rfl (n := 64) rfl (A := x1.toInt) rfl (by omega) (by omega) (fun M122 W121 => ?_)
        have hG123 := g_wf hG118 W121 rfl rfl (by decide)
        have F124 := FR.w F120 W121 (show 42 ≤ 46 ∧ 46 ≤ 48 by decide)
        refine to_in (pc := 39) rw_71_39 rfl (s_s (pc := 40) rw_71_40 (dp0 hd (by decide)) (ls0 := [.int x1]) rfl (Nat.le_of_ble_eq_true rfl) (Nat.le_of_ble_eq_true rfl) rfl (to_rcs rfl rfl) rfl (C_247 hX (dp1 hd (by decide)) hG123 (x := x1) (fun r125 M128 hG127 F126 => ?_)))
        have F129 := FR.c F124 F126 tg_156
        refine to_isn (pc := 43) rw_71_43 (ls2 := [.ref 42, .int x1, .int r125, u3]) rfl rfl (to_an (pc := 44) rw_71_44 rfl ?_)
        have c_130 : M128.2.1 42 8 = (N.2.1 42 8) := (F_n F126 (show ¬ (42 < 0) by decide) (W_n W121 (fun z => absurd z.1 (by decide)) (F_n F117 (show ¬ (43 ≤ 42 ∧ 42 ≤ 48) by decide) rfl)))
        refine tt_gI (pc := 45) rw_71_45 (g_o hG127 rfl) (v := (N.2.1 42 8)) c_130 (to_c (pc := 48) rw_71_48 (x := (-1 : Int32)) rfl rfl (b_ceq (pc := 49) rw_71_49 (A := (N.2.1 42 8).toInt) (B := -1) rfl rfl (fun h131 => ?_) (fun h131 => ?_)))
        · refine to_c (pc := 81) rw_71_81 (x := (1 : Int32)) rfl rfl (to_go (pc := 82) rw_71_82 (to_isn (pc := 86) rw_71_86 (ls2 := [.ref 42, .int x1, .int r125, .int (1 : Int32)]) rfl rfl (to_an (pc := 87) rw_71_87 rfl (s_gR (pc := 88) rw_71_88 hG127 rfl (v := 46) rfl (to_in (pc := 91) rw_71_91 rfl (s_ialk (pc := 92) rw_71_92 hG127 rfl (n := 64) rfl rfl (A := x1.toInt) rfl (by omega) (by omega) (v := r116) (F_n F126 (show ¬ (46 < 0) by decide) (W_e W121)) (to_c (pc := 93) rw_71_93 (x := (-1 : Int32)) rfl rfl (b_ceq (pc := 94) rw_71_94 (A := r116.toInt) (B := -1) rfl rfl (fun h134 => ?_) (fun h134 => ?_)))))))))
          · refine s_inc (pc := 124) rw_71_124 (ls2 := fun v => [.ref 42, .int v, .int r125, .int (1 : Int32)]) rfl rfl (fun _ => rfl) (A := x1.toInt) (B := 1) rfl rfl (by omega) (fun v135 e136 => to_go (pc := 127) rw_71_127 ?_)
            exact ih M128 v135 (.int r125) (.int (1 : Int32)) hG127 F129 (by omega) (by omega) (by omega)
          · refine to_in (pc := 97) rw_71_97 rfl (b_ieq_f (pc := 98) rw_71_98 (A := 1) rfl (by decide) (to_an (pc := 101) rw_71_101 rfl (to_in (pc := 102) rw_71_102 rfl (s_v (pc := 103) rw_71_103 (dp0 hd (by decide)) (ls0 := [.ref 42, .int x1, .null]) rfl (Nat.le_of_ble_eq_true rfl) (Nat.le_of_ble_eq_true rfl) rfl (to_rc rfl rfl rfl (g_o hG127 rfl)) rfl (C_74 hX (dp1 hd (by decide)) hG127 (by omega) (by omega) (s := x1) (fun r137 M142 hG139 F138 p_140 p_141 => ?_))))))
            have F143 := FR.c F129 F138 tg_157
            refine b_ieq (pc := 106) rw_71_106 (A := r137.toInt) rfl (fun h144 => ?_) (fun h144 => ?_)
            · refine s_inc (pc := 124) rw_71_124 (ls2 := fun v => [.ref 42, .int v, .int r125, .int (1 : Int32)]) rfl rfl (fun _ => rfl) (A := x1.toInt) (B := 1) rfl rfl (by omega) (fun v145 e146 => to_go (pc := 127) rw_71_127 ?_)
              exact ih M142 v145 (.int r125) (.int (1 : Int32)) hG139 F143 (by omega) (by omega) (by omega)
            · refine to_an (pc := 109) rw_71_109 rfl (to_in (pc := 110) rw_71_110 rfl (s_pI (pc := 111) rw_71_111 hG139 rfl (fun M148 W147 => ?_)))
              have hG149 := g_wf hG139 W147 rfl rfl (by decide)
              have F150 := FR.w F143 W147 (show 42 ≤ 42 ∧ 42 ≤ 48 by decide)
              refine to_an (pc := 114) rw_71_114 rfl (to_an (pc := 115) rw_71_115 rfl (s_gR (pc := 116) rw_71_116 hG149 rfl (v := 46) rfl (to_in (pc := 119) rw_71_119 rfl (s_ial (pc := 120) rw_71_120 hG149 rfl (n := 64) rfl rfl (A := x1.toInt) rfl (by omega) (by omega) (lo := -2147483648) (hi := 2147483647) rfl rfl (fun v151 w_152 _ _ => s_pI (pc := 121) rw_71_121 hG149 rfl (fun M154 W153 => ?_))))))
              have hG155 := g_wf hG149 W153 rfl rfl (by decide)
              have F156 := FR.w F150 W153 (show 42 ≤ 42 ∧ 42 ≤ 48 by decide)
              refine s_inc (pc := 124) rw_71_124 (ls2 := fun v => [.ref 42, .int v, .int r125, .int (1 : Int32)]) rfl rfl (fun _ => rfl) (A := x1.toInt) (B := 1) rfl rfl (by omega) (fun v157 e158 => to_go (pc := 127) rw_71_127 ?_)
              exact ih M154 v157 (.int r125) (.int (1 : Int32)) hG155 F156 (by omega) (by omega) (by omega)
        · refine to_in (pc := 52) rw_71_52 rfl (to_an (pc := 53) rw_71_53 rfl (tt_gI (pc := 54) rw_71_54 (g_o hG127 rfl) (v := (N.2.1 42 8)) c_130 (b_clt (pc := 57) rw_71_57 (A := r125.toInt) (B := (N.2.1 42 8).toInt) rfl rfl (fun h159 => ?_) (fun h159 => ?_))))
          · refine to_c (pc := 81) rw_71_81 (x := (1 : Int32)) rfl rfl (to_go (pc := 82) rw_71_82 (to_isn (pc := 86) rw_71_86 (ls2 := [.ref 42, .int x1, .int r125, .int (1 : Int32)]) rfl rfl (to_an (pc := 87) rw_71_87 rfl (s_gR (pc := 88) rw_71_88 hG127 rfl (v := 46) rfl (to_in (pc := 91) rw_71_91 rfl (s_ialk (pc := 92) rw_71_92 hG127 rfl (n := 64) rfl rfl (A := x1.toInt) rfl (by omega) (by omega) (v := r116) (F_n F126 (show ¬ (46 < 0) by decide) (W_e W121)) (to_c (pc := 93) rw_71_93 (x := (-1 : Int32)) rfl rfl (b_ceq (pc := 94) rw_71_94 (A := r116.toInt) (B := -1) rfl rfl (fun h162 => ?_) (fun h162 => ?_)))))))))
            · refine s_inc (pc := 124) rw_71_124 (ls2 := fun v => [.ref 42, .int v, .int r125, .int (1 : Int32)]) rfl rfl (fun _ => rfl) (A := x1.toInt) (B := 1) rfl rfl (by omega) (fun v163 e164 => to_go (pc := 127) rw_71_127 ?_)
              exact ih M128 v163 (.int r125) (.int (1 : Int32)) hG127 F129 (by omega) (by omega) (by omega)
            · refine to_in (pc := 97) rw_71_97 rfl (b_ieq_f (pc := 98) rw_71_98 (A := 1) rfl (by decide) (to_an (pc := 101) rw_71_101 rfl (to_in (pc := 102) rw_71_102 rfl (s_v (pc := 103) rw_71_103 (dp0 hd (by decide)) (ls0 := [.ref 42, .int x1, .null]) rfl (Nat.le_of_ble_eq_true rfl) (Nat.le_of_ble_eq_true rfl) rfl (to_rc rfl rfl rfl (g_o hG127 rfl)) rfl (C_74 hX (dp1 hd (by decide)) hG127 (by omega) (by omega) (s := x1) (fun r165 M170 hG167 F166 p_168 p_169 => ?_))))))
              have F171 := FR.c F129 F166 tg_157
              refine b_ieq (pc := 106) rw_71_106 (A := r165.toInt) rfl (fun h172 => ?_) (fun h172 => ?_)
              · refine s_inc (pc := 124) rw_71_124 (ls2 := fun v => [.ref 42, .int v, .int r125, .int (1 : Int32)]) rfl rfl (fun _ => rfl) (A := x1.toInt) (B := 1) rfl rfl (by omega) (fun v173 e174 => to_go (pc := 127) rw_71_127 ?_)
                exact ih M170 v173 (.int r125) (.int (1 : Int32)) hG167 F171 (by omega) (by omega) (by omega)
              · refine to_an (pc := 109) rw_71_109 rfl (to_in (pc := 110) rw_71_110 rfl (s_pI (pc := 111) rw_71_111 hG167 rfl (fun M176 W175 => ?_)))
                have hG177 := g_wf hG167 W175 rfl rfl (by decide)
                have F178 := FR.w F171 W175 (show 42 ≤ 42 ∧ 42 ≤ 48 by decide)
                refine to_an (pc := 114) rw_71_114 rfl (to_an (pc := 115) rw_71_115 rfl (s_gR (pc := 116) rw_71_116 hG177 rfl (v := 46) rfl (to_in (pc := 119) rw_71_119 rfl (s_ial (pc := 120) rw_71_120 hG177 rfl (n := 64) rfl rfl (A := x1.toInt) rfl (by omega) (by omega) (lo := -2147483648) (hi := 2147483647) rfl rfl (fun v179 w_180 _ _ => s_pI (pc := 121) rw_71_121 hG177 rfl (fun M182 W181 => ?_))))))
                have hG183 := g_wf hG177 W181 rfl rfl (by decide)
                have F184 := FR.w F178 W181 (show 42 ≤ 42 ∧ 42 ≤ 48 by decide)
                refine s_inc (pc := 124) rw_71_124 (ls2 := fun v => [.ref 42, .int v, .int r125, .int (1 : Int32)]) rfl rfl (fun _ => rfl) (A := x1.toInt) (B := 1) rfl rfl (by omega) (fun v185 e186 => to_go (pc := 127) rw_71_127 ?_)
                exact ih M182 v185 (.int r125) (.int (1 : Int32)) hG183 F184 (by omega) (by omega) (by omega)
          · refine to_in (pc := 60) rw_71_60 rfl (to_an (pc := 61) rw_71_61 rfl (tt_gI (pc := 62) rw_71_62 (g_o hG127 rfl) (v := (N.2.1 42 8)) c_130 (b_cne (pc := 65) rw_71_65 (A := r125.toInt) (B := (N.2.1 42 8).toInt) rfl rfl (fun h187 => ?_) (fun h187 => ?_))))
            · refine to_c (pc := 85) rw_71_85 (x := (0 : Int32)) rfl rfl (to_isn (pc := 86) rw_71_86 (ls2 := [.ref 42, .int x1, .int r125, .int (0 : Int32)]) rfl rfl (to_an (pc := 87) rw_71_87 rfl (s_gR (pc := 88) rw_71_88 hG127 rfl (v := 46) rfl (to_in (pc := 91) rw_71_91 rfl (s_ialk (pc := 92) rw_71_92 hG127 rfl (n := 64) rfl rfl (A := x1.toInt) rfl (by omega) (by omega) (v := r116) (F_n F126 (show ¬ (46 < 0) by decide) (W_e W121)) (to_c (pc := 93) rw_71_93 (x := (-1 : Int32)) rfl rfl (b_ceq (pc := 94) rw_71_94 (A := r116.toInt) (B := -1) rfl rfl (fun h190 => ?_) (fun h190 => ?_))))))))
              · refine s_inc (pc := 124) rw_71_124 (ls2 := fun v => [.ref 42, .int v, .int r125, .int (0 : Int32)]) rfl rfl (fun _ => rfl) (A := x1.toInt) (B := 1) rfl rfl (by omega) (fun v191 e192 => to_go (pc := 127) rw_71_127 ?_)
                exact ih M128 v191 (.int r125) (.int (0 : Int32)) hG127 F129 (by omega) (by omega) (by omega)
              · refine to_in (pc := 97) rw_71_97 rfl (b_ieq_t (pc := 98) rw_71_98 (A := 0) rfl (by decide) (s_inc (pc := 124) rw_71_124 (ls2 := fun v => [.ref 42, .int v, .int r125, .int (0 : Int32)]) rfl rfl (fun _ => rfl) (A := x1.toInt) (B := 1) rfl rfl (by omega) (fun v193 e194 => to_go (pc := 127) rw_71_127 ?_)))
                exact ih M128 v193 (.int r125) (.int (0 : Int32)) hG127 F129 (by omega) (by omega) (by omega)
            · refine to_an (pc := 68) rw_71_68 rfl (s_gR (pc := 69) rw_71_69 hG127 rfl (v := 46) rfl (to_in (pc := 72) rw_71_72 rfl (s_ialk (pc := 73) rw_71_73 hG127 rfl (n := 64) rfl rfl (A := x1.toInt) rfl (by omega) (by omega) (v := r116) (F_n F126 (show ¬ (46 < 0) by decide) (W_e W121)) (to_an (pc := 74) rw_71_74 rfl ?_))))
              have c_197 : M128.2.1 42 9 = (N.2.1 42 9) := (F_n F126 (show ¬ (42 < 0) by decide) (W_n W121 (fun z => absurd z.1 (by decide)) (F_n F117 (show ¬ (43 ≤ 42 ∧ 42 ≤ 48) by decide) rfl)))
              refine tt_gI (pc := 75) rw_71_75 (g_o hG127 rfl) (v := (N.2.1 42 9)) c_197 (b_cge (pc := 78) rw_71_78 (A := r116.toInt) (B := (N.2.1 42 9).toInt) rfl rfl (fun h198 => ?_) (fun h198 => ?_))
              · refine to_c (pc := 85) rw_71_85 (x := (0 : Int32)) rfl rfl (to_isn (pc := 86) rw_71_86 (ls2 := [.ref 42, .int x1, .int r125, .int (0 : Int32)]) rfl rfl (to_an (pc := 87) rw_71_87 rfl (s_gR (pc := 88) rw_71_88 hG127 rfl (v := 46) rfl (to_in (pc := 91) rw_71_91 rfl (s_ialk (pc := 92) rw_71_92 hG127 rfl (n := 64) rfl rfl (A := x1.toInt) rfl (by omega) (by omega) (v := r116) (F_n F126 (show ¬ (46 < 0) by decide) (W_e W121)) (to_c (pc := 93) rw_71_93 (x := (-1 : Int32)) rfl rfl (b_ceq (pc := 94) rw_71_94 (A := r116.toInt) (B := -1) rfl rfl (fun h201 => ?_) (fun h201 => ?_))))))))
                · refine s_inc (pc := 124) rw_71_124 (ls2 := fun v => [.ref 42, .int v, .int r125, .int (0 : Int32)]) rfl rfl (fun _ => rfl) (A := x1.toInt) (B := 1) rfl rfl (by omega) (fun v202 e203 => to_go (pc := 127) rw_71_127 ?_)
                  exact ih M128 v202 (.int r125) (.int (0 : Int32)) hG127 F129 (by omega) (by omega) (by omega)
                · refine to_in (pc := 97) rw_71_97 rfl (b_ieq_t (pc := 98) rw_71_98 (A := 0) rfl (by decide) (s_inc (pc := 124) rw_71_124 (ls2 := fun v => [.ref 42, .int v, .int r125, .int (0 : Int32)]) rfl rfl (fun _ => rfl) (A := x1.toInt) (B := 1) rfl rfl (by omega) (fun v204 e205 => to_go (pc := 127) rw_71_127 ?_)))
                  exact ih M128 v204 (.int r125) (.int (0 : Int32)) hG127 F129 (by omega) (by omega) (by omega)
              · refine to_c (pc := 81) rw_71_81 (x := (1 : Int32)) rfl rfl (to_go (pc := 82) rw_71_82 (to_isn (pc := 86) rw_71_86 (ls2 := [.ref 42, .int x1, .int r125, .int (1 : Int32)]) rfl rfl (to_an (pc := 87) rw_71_87 rfl (s_gR (pc := 88) rw_71_88 hG127 rfl (v := 46) rfl (to_in (pc := 91) rw_71_91 rfl (s_ialk (pc := 92) rw_71_92 hG127 rfl (n := 64) rfl rfl (A := x1.toInt) rfl (by omega) (by omega) (v := r116) (F_n F126 (show ¬ (46 < 0) by decide) (W_e W121)) (to_c (pc := 93) rw_71_93 (x := (-1 : Int32)) rfl rfl (b_ceq (pc := 94) rw_71_94 (A := r116.toInt) (B := -1) rfl rfl (fun h208 => ?_) (fun h208 => ?_)))))))))
                · refine s_inc (pc := 124) rw_71_124 (ls2 := fun v => [.ref 42, .int v, .int r125, .int (1 : Int32)]) rfl rfl (fun _ => rfl) (A := x1.toInt) (B := 1) rfl rfl (by omega) (fun v209 e210 => to_go (pc := 127) rw_71_127 ?_)
                  exact ih M128 v209 (.int r125) (.int (1 : Int32)) hG127 F129 (by omega) (by omega) (by omega)
                · refine to_in (pc := 97) rw_71_97 rfl (b_ieq_f (pc := 98) rw_71_98 (A := 1) rfl (by decide) (to_an (pc := 101) rw_71_101 rfl (to_in (pc := 102) rw_71_102 rfl (s_v (pc := 103) rw_71_103 (dp0 hd (by decide)) (ls0 := [.ref 42, .int x1, .null]) rfl (Nat.le_of_ble_eq_true rfl) (Nat.le_of_ble_eq_true rfl) rfl (to_rc rfl rfl rfl (g_o hG127 rfl)) rfl (C_74 hX (dp1 hd (by decide)) hG127 (by omega) (by omega) (s := x1) (fun r211 M216 hG213 F212 p_214 p_215 => ?_))))))
                  have F217 := FR.c F129 F212 tg_157
                  refine b_ieq (pc := 106) rw_71_106 (A := r211.toInt) rfl (fun h218 => ?_) (fun h218 => ?_)
                  · refine s_inc (pc := 124) rw_71_124 (ls2 := fun v => [.ref 42, .int v, .int r125, .int (1 : Int32)]) rfl rfl (fun _ => rfl) (A := x1.toInt) (B := 1) rfl rfl (by omega) (fun v219 e220 => to_go (pc := 127) rw_71_127 ?_)
                    exact ih M216 v219 (.int r125) (.int (1 : Int32)) hG213 F217 (by omega) (by omega) (by omega)
                  · refine to_an (pc := 109) rw_71_109 rfl (to_in (pc := 110) rw_71_110 rfl (s_pI (pc := 111) rw_71_111 hG213 rfl (fun M222 W221 => ?_)))
                    have hG223 := g_wf hG213 W221 rfl rfl (by decide)
                    have F224 := FR.w F217 W221 (show 42 ≤ 42 ∧ 42 ≤ 48 by decide)
                    refine to_an (pc := 114) rw_71_114 rfl (to_an (pc := 115) rw_71_115 rfl (s_gR (pc := 116) rw_71_116 hG223 rfl (v := 46) rfl (to_in (pc := 119) rw_71_119 rfl (s_ial (pc := 120) rw_71_120 hG223 rfl (n := 64) rfl rfl (A := x1.toInt) rfl (by omega) (by omega) (lo := -2147483648) (hi := 2147483647) rfl rfl (fun v225 w_226 _ _ => s_pI (pc := 121) rw_71_121 hG223 rfl (fun M228 W227 => ?_))))))
                    have hG229 := g_wf hG223 W227 rfl rfl (by decide)
                    have F230 := FR.w F224 W227 (show 42 ≤ 42 ∧ 42 ≤ 48 by decide)
                    refine s_inc (pc := 124) rw_71_124 (ls2 := fun v => [.ref 42, .int v, .int r125, .int (1 : Int32)]) rfl rfl (fun _ => rfl) (A := x1.toInt) (B := 1) rfl rfl (by omega) (fun v231 e232 => to_go (pc := 127) rw_71_127 ?_)
                    exact ih M228 v231 (.int r125) (.int (1 : Int32)) hG229 F230 (by omega) (by omega) (by omega)
set_option maxRecDepth 4000 in
set_option maxHeartbeats 0 in
theorem C_71 {X : mm_X} {d : Nat} {M : mm_M} {Q : Option Value → mm_M → Prop} (hX : g_X X) (hd : 2 ≤ d) (hG : g_G M) (h : ∀ (r : Int32) (M1 : mm_M), g_G M1 → FR md_s M M1 → (0 ≤ r.toInt) → (r.toInt ≤ 1) → Q (some (.int r)) M1) : mm_T X d 71 0 [.ref 42, .null, .null, .null] [] M Q := by
  have F0 : FR md_s M M := FR.rf
  refine to_an (pc := 0) rw_71_0 rfl (to_c (pc := 1) rw_71_1 (x := (-1 : Int32)) rfl rfl (s_pI (pc := 2) rw_71_2 hG rfl (fun M234 W233 => ?_)))
  have hG235 := g_wf hG W233 rfl rfl (by decide)
  have F236 := FR.w F0 W233 (show 42 ≤ 42 ∧ 42 ≤ 48 by decide)
  refine to_an (pc := 5) rw_71_5 rfl (s_gR (pc := 6) rw_71_6 hG235 rfl (v := 46) rfl (to_c (pc := 9) rw_71_9 (x := (0 : Int32)) rfl rfl (to_c (pc := 10) rw_71_10 (x := (0 : Int32)) rfl rfl (s_ias (pc := 11) rw_71_11 hG235 rfl (n := 64) rfl (A := 0) rfl (by omega) (by omega) (fun M238 W237 => ?_)))))
  have hG239 := g_wf hG235 W237 rfl rfl (by decide)
  have F240 := FR.w F236 W237 (show 42 ≤ 46 ∧ 46 ≤ 48 by decide)
  refine to_c (pc := 12) rw_71_12 (x := (0 : Int32)) rfl rfl (to_isn (pc := 13) rw_71_13 (ls2 := [.ref 42, .int (0 : Int32), .null, .null]) rfl rfl ?_)
  have k_241 : (0 : Int32).toInt = 0 := rfl
  exact (T_71_0 hX hd  h ((64 - (0 : Int32).toInt).toNat + 1)) M238 (0 : Int32) (.null) (.null) hG239 F240 (by omega) (by omega) (by omega)
end
