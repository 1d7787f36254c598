theorem tg_112 {M M1 : mm_M} (F : FR (fun a i : Nat => a = 1 ∧ 5 ≤ i ∨ 3 ≤ a ∧ a ≤ 5) M M1) : ∀ a i : Nat, PI_r a → M1.2.1 a i = M.2.1 a i := fun a i z => F_n F (show ¬ (a = 1 ∧ 5 ≤ i ∨ 3 ≤ a ∧ a ≤ 5) by omega) rfl
theorem tg_113 {M M1 : mm_M} (F : FR (fun a i : Nat => a = 1 ∧ 5 ≤ i ∨ 3 ≤ a ∧ a ≤ 5 ∨ a = 57 ∨ a = 66) M M1) : ∀ a i : Nat, PI_r a → M1.2.1 a i = M.2.1 a i := fun a i z => F_n F (show ¬ (a = 1 ∧ 5 ≤ i ∨ 3 ≤ a ∧ a ≤ 5 ∨ a = 57 ∨ a = 66) by omega) rfl
theorem tg_114 : ∀ a i : Nat, (a = 1 ∧ 5 ≤ i ∨ 3 ≤ a ∧ a ≤ 5) → (a = 1 ∧ 5 ≤ i ∨ 3 ≤ a ∧ a ≤ 5 ∨ 50 ≤ a ∧ a ≤ 57 ∨ 59 ≤ a ∧ a ≤ 66) := fun a i z => by omega
theorem tg_115 : ∀ a i : Nat, (a = 1 ∧ 5 ≤ i ∨ 3 ≤ a ∧ a ≤ 5 ∨ 50 ≤ a ∧ a ≤ 57 ∨ 59 ≤ a ∧ a ≤ 66) → (a = 1 ∧ 5 ≤ i ∨ 3 ≤ a ∧ a ≤ 5 ∨ 50 ≤ a ∧ a ≤ 57 ∨ 59 ≤ a ∧ a ≤ 66) := fun a i z => by omega
theorem tg_116 : ∀ a i : Nat, (a = 1 ∧ 5 ≤ i ∨ 3 ≤ a ∧ a ≤ 5) → (a = 1 ∧ 5 ≤ i ∨ 3 ≤ a ∧ a ≤ 5 ∨ 49 ≤ a ∧ a ≤ 66) := fun a i z => by omega
theorem tg_117 : ∀ a i : Nat, (a < 0) → (a = 1 ∧ 5 ≤ i ∨ 3 ≤ a ∧ a ≤ 5 ∨ 49 ≤ a ∧ a ≤ 66) := fun a i z => by omega
theorem tg_118 : ∀ a i : Nat, (a = 1 ∧ 5 ≤ i ∨ 3 ≤ a ∧ a ≤ 5 ∨ 50 ≤ a ∧ a ≤ 57 ∨ 59 ≤ a ∧ a ≤ 66) → (a = 1 ∧ 5 ≤ i ∨ 3 ≤ a ∧ a ≤ 5 ∨ 49 ≤ a ∧ a ≤ 66) := fun a i z => by omega
theorem tg_119 : ∀ a i : Nat, (a = 1 ∧ 5 ≤ i ∨ 3 ≤ a ∧ a ≤ 5) → (a = 1 ∧ 5 ≤ i ∨ 3 ≤ a ∧ a ≤ 5 ∨ a = 57 ∨ a = 66) := fun a i z => by omega
theorem tg_120 : ∀ a i : Nat, (a = 1 ∧ 5 ≤ i ∨ 3 ≤ a ∧ a ≤ 5 ∨ a = 57 ∨ a = 66) → (a = 1 ∧ 5 ≤ i ∨ 3 ≤ a ∧ a ≤ 5 ∨ 49 ≤ a ∧ a ≤ 66) := fun a i z => by omega
theorem tg_121 : ∀ a i : Nat, (a = 1 ∧ 5 ≤ i ∨ 3 ≤ a ∧ a ≤ 5 ∨ 49 ≤ a ∧ a ≤ 66) → (a = 1 ∧ 5 ≤ i ∨ 3 ≤ a ∧ a ≤ 5 ∨ 49 ≤ a ∧ a ≤ 66) := fun a i z => by omega
set_option maxRecDepth 4000 in
set_option maxHeartbeats 0 in
theorem C_247 {X : mm_X} {d : Nat} {M : mm_M} {Q : Option Value → mm_M → Prop} {x : Int32} (hX : g_X X) (hd : 0 ≤ d) (hG : g_G M) (h : ∀ (r : Int32) (M1 : mm_M), g_G M1 → FR md_0 M M1 → Q (some (.int r)) M1) : mm_T X d 246 0 [.int x] [] M Q := by
  have F0 : FR md_0 M M := FR.rf
  refine to_in (pc := 0) rw_247_0 rfl (to_in (pc := 1) rw_247_1 rfl (to_c (pc := 2) rw_247_2 (x := (1 : Int32)) rfl rfl (s_any (pc := 3) rw_247_3 (fun _ _ => rfl) (fun v1 => to_c (pc := 4) rw_247_4 (x := (1431655765 : Int32)) rfl rfl (s_and (pc := 7) rw_247_7 (B := 1431655765) rfl (by omega) (fun v2 e3 _ _ => s_any (pc := 8) rw_247_8 (fun _ _ => rfl) (fun v4 => to_isn (pc := 9) rw_247_9 (ls2 := [.int v4]) rfl rfl (to_in (pc := 10) rw_247_10 rfl (to_c (pc := 11) rw_247_11 (x := (858993459 : Int32)) rfl rfl (s_and (pc := 14) rw_247_14 (B := 858993459) rfl (by omega) (fun v5 e6 _ _ => to_in (pc := 15) rw_247_15 rfl ?_)))))))))))
  refine to_c (pc := 16) rw_247_16 (x := (2 : Int32)) rfl rfl (s_any (pc := 17) rw_247_17 (fun _ _ => rfl) (fun v7 => to_c (pc := 18) rw_247_18 (x := (858993459 : Int32)) rfl rfl (s_and (pc := 21) rw_247_21 (B := 858993459) rfl (by omega) (fun v8 e9 _ _ => s_add (pc := 22) rw_247_22 (A := v5.toInt) (B := v8.toInt) rfl rfl (by omega) (fun v10 e11 => to_isn (pc := 23) rw_247_23 (ls2 := [.int v10]) rfl rfl (to_in (pc := 24) rw_247_24 rfl (to_in (pc := 25) rw_247_25 rfl (to_c (pc := 26) rw_247_26 (x := (4 : Int32)) rfl rfl (s_any (pc := 27) rw_247_27 (fun _ _ => rfl) (fun v12 => s_any (pc := 28) rw_247_28 (fun _ _ => rfl) (fun v13 => to_c (pc := 29) rw_247_29 (x := (252645135 : Int32)) rfl rfl ?_)))))))))))
  refine s_and (pc := 32) rw_247_32 (B := 252645135) rfl (by omega) (fun v14 e15 _ _ => to_isn (pc := 33) rw_247_33 (ls2 := [.int v14]) rfl rfl (to_in (pc := 34) rw_247_34 rfl (to_in (pc := 35) rw_247_35 rfl (to_c (pc := 36) rw_247_36 (x := (8 : Int32)) rfl rfl (s_any (pc := 38) rw_247_38 (fun _ _ => rfl) (fun v16 => s_any (pc := 39) rw_247_39 (fun _ _ => rfl) (fun v17 => to_isn (pc := 40) rw_247_40 (ls2 := [.int v17]) rfl rfl (to_in (pc := 41) rw_247_41 rfl (to_in (pc := 42) rw_247_42 rfl (to_c (pc := 43) rw_247_43 (x := (16 : Int32)) rfl rfl (s_any (pc := 45) rw_247_45 (fun _ _ => rfl) (fun v18 => ?_))))))))))))
  refine s_any (pc := 46) rw_247_46 (fun _ _ => rfl) (fun v19 => to_isn (pc := 47) rw_247_47 (ls2 := [.int v19]) rfl rfl (to_in (pc := 48) rw_247_48 rfl (to_c (pc := 49) rw_247_49 (x := (63 : Int32)) rfl rfl (s_and (pc := 51) rw_247_51 (B := 63) rfl (by omega) (fun v20 e21 _ _ => to_r0 (pc := 52) rw_247_52 ?_)))))
  exact h v20 M hG F0 
set_option maxRecDepth 4000 in
set_option maxHeartbeats 0 in
theorem C_248 {X : mm_X} {d : Nat} {M : mm_M} {Q : Option Value → mm_M → Prop} {x : Int64} (hX : g_X X) (hd : 0 ≤ d) (hG : g_G M) (h : ∀ (r : Int32) (M1 : mm_M), g_G M1 → FR md_0 M M1 → Q (some (.int r)) M1) : mm_T X d 247 0 [.long x, .null] [] M Q := by
  have F0 : FR md_0 M M := FR.rf
  refine to_ln (pc := 0) rw_248_0 rfl rfl rfl (to_ln (pc := 1) rw_248_1 rfl rfl rfl (to_c (pc := 2) rw_248_2 (x := (1 : Int32)) rfl rfl (s_anyS (pc := 3) rw_248_3 (fun _ _ => rfl) (fun l1 => s_cl (pc := 4) rw_248_4 rfl (fun l2 => s_anyL (pc := 7) rw_248_7 (fun _ _ => rfl) (fun l3 => s_anyL (pc := 8) rw_248_8 (fun _ _ => rfl) (fun l4 => to_lsn (pc := 9) rw_248_9 (ls2 := [.long l4, .null]) rfl rfl (to_ln (pc := 10) rw_248_10 rfl rfl rfl (s_cl (pc := 11) rw_248_11 rfl (fun l5 => s_anyL (pc := 14) rw_248_14 (fun _ _ => rfl) (fun l6 => to_ln (pc := 15) rw_248_15 rfl rfl rfl ?_)))))))))))
  refine to_c (pc := 16) rw_248_16 (x := (2 : Int32)) rfl rfl (s_anyS (pc := 17) rw_248_17 (fun _ _ => rfl) (fun l7 => s_cl (pc := 18) rw_248_18 rfl (fun l8 => s_anyL (pc := 21) rw_248_21 (fun _ _ => rfl) (fun l9 => s_anyL (pc := 22) rw_248_22 (fun _ _ => rfl) (fun l10 => to_lsn (pc := 23) rw_248_23 (ls2 := [.long l10, .null]) rfl rfl (to_ln (pc := 24) rw_248_24 rfl rfl rfl (to_ln (pc := 25) rw_248_25 rfl rfl rfl (to_c (pc := 26) rw_248_26 (x := (4 : Int32)) rfl rfl (s_anyS (pc := 27) rw_248_27 (fun _ _ => rfl) (fun l11 => s_anyL (pc := 28) rw_248_28 (fun _ _ => rfl) (fun l12 => s_cl (pc := 29) rw_248_29 rfl (fun l13 => ?_))))))))))))
  refine s_anyL (pc := 32) rw_248_32 (fun _ _ => rfl) (fun l14 => to_lsn (pc := 33) rw_248_33 (ls2 := [.long l14, .null]) rfl rfl (to_ln (pc := 34) rw_248_34 rfl rfl rfl (to_ln (pc := 35) rw_248_35 rfl rfl rfl (to_c (pc := 36) rw_248_36 (x := (8 : Int32)) rfl rfl (s_anyS (pc := 38) rw_248_38 (fun _ _ => rfl) (fun l15 => s_anyL (pc := 39) rw_248_39 (fun _ _ => rfl) (fun l16 => to_lsn (pc := 40) rw_248_40 (ls2 := [.long l16, .null]) rfl rfl (to_ln (pc := 41) rw_248_41 rfl rfl rfl (to_ln (pc := 42) rw_248_42 rfl rfl rfl (to_c (pc := 43) rw_248_43 (x := (16 : Int32)) rfl rfl (s_anyS (pc := 45) rw_248_45 (fun _ _ => rfl) (fun l17 => ?_))))))))))))
  refine s_anyL (pc := 46) rw_248_46 (fun _ _ => rfl) (fun l18 => to_lsn (pc := 47) rw_248_47 (ls2 := [.long l18, .null]) rfl rfl (to_ln (pc := 48) rw_248_48 rfl rfl rfl (to_ln (pc := 49) rw_248_49 rfl rfl rfl (to_c (pc := 50) rw_248_50 (x := (32 : Int32)) rfl rfl (s_anyS (pc := 52) rw_248_52 (fun _ _ => rfl) (fun l19 => s_anyL (pc := 53) rw_248_53 (fun _ _ => rfl) (fun l20 => to_lsn (pc := 54) rw_248_54 (ls2 := [.long l20, .null]) rfl rfl (to_ln (pc := 55) rw_248_55 rfl rfl rfl (s_l2i (pc := 56) rw_248_56 (fun v21 => to_c (pc := 57) rw_248_57 (x := (127 : Int32)) rfl rfl (s_and (pc := 59) rw_248_59 (B := 127) rfl (by omega) (fun v22 e23 _ _ => ?_))))))))))))
  refine to_r0 (pc := 60) rw_248_60 ?_
  exact h v22 M hG F0 
set_option maxRecDepth 4000 in
set_option maxHeartbeats 0 in
theorem T_54f_0 {X : mm_X} {d : Nat} {M : mm_M} {Q : Option Value → mm_M → Prop} {f : Nat} {s : Int32} {x : Int32} (hX : g_X X) (hd : 0 ≤ d) (hf : f = 50 ∨ f = 59) (h : ∀ (r : Int32) (M1 : mm_M), g_G M1 → FR md_0 M M1 → (-1 ≤ r.toInt) → (r.toInt ≤ 7) → Q (some (.int r)) M1) : ∀ nn9 : Nat, (∀ (N : mm_M) (x3 : Int32), g_G N → FR md_0 M N → (0 ≤ x3.toInt) → (x3.toInt ≤ 8) → 8 - x3.toInt < (nn9 : Int) → mm_T X d 54 2 [.ref f, .int s, .int x, .int x3] [] N Q) := by
  intro nn9
  induction nn9 with
  | zero =>
    intro N x3 hG F0 g1 g2 hm
    exfalso; omega
  | succ nn9 ih =>
    intro N x3 hG F0 g1 g2 hm
    refine to_in (pc := 2) rw_54_2 rfl (to_in (pc := 3) rw_54_3 rfl (b_cge (pc := 4) rw_54_4 (A := x3.toInt) (B := s.toInt) rfl rfl (fun h1 => ?_) (fun h1 => ?_)))
    · refine to_c (pc := 28) rw_54_28 (x := (-1 : Int32)) rfl rfl (to_r0 (pc := 29) rw_54_29 ?_)
      have k_2 : (-1 : Int32).toInt = -1 := rfl
      exact h (-1 : Int32) N hG F0 (by omega) (by omega)
    · refine to_in (pc := 7) rw_54_7 rfl (to_an (pc := 8) rw_54_8 rfl (s_len (pc := 9) rw_54_9 hG (by rcases hf with rfl | rfl <;> rfl) (by rcases hf with rfl | rfl <;> rfl) (n := 8) (by rcases hf with rfl | rfl <;> rfl) (v := (8 : Int32)) rfl (b_cge (pc := 10) rw_54_10 (A := x3.toInt) (B := 8) rfl rfl (fun h3 => ?_) (fun h3 => ?_))))
      · refine to_c (pc := 28) rw_54_28 (x := (-1 : Int32)) rfl rfl (to_r0 (pc := 29) rw_54_29 ?_)
        have k_4 : (-1 : Int32).toInt = -1 := rfl
        exact h (-1 : Int32) N hG F0 (by omega) (by omega)
      · refine to_an (pc := 13) rw_54_13 rfl (to_in (pc := 14) rw_54_14 rfl (s_ial (pc := 15) rw_54_15 hG (by rcases hf with rfl | rfl <;> rfl) (n := 8) (by rcases hf with rfl | rfl <;> rfl) (by rcases hf with rfl | rfl <;> rfl) (A := x3.toInt) rfl (by omega) (by omega) (lo := -2147483648) (hi := 2147483647) (by rcases hf with rfl | rfl <;> rfl) (by rcases hf with rfl | rfl <;> rfl) (fun v5 w_6 _ _ => to_in (pc := 16) rw_54_16 rfl (b_cne (pc := 17) rw_54_17 (A := v5.toInt) (B := x.toInt) rfl rfl (fun h7 => ?_) (fun h7 => ?_)))))
        · refine s_inc (pc := 22) rw_54_22 (ls2 := fun v => [.ref f, .int s, .int x, .int v]) rfl rfl (fun _ => rfl) (A := x3.toInt) (B := 1) rfl rfl (by omega) (fun v8 e9 => to_go (pc := 25) rw_54_25 ?_)
          exact ih N v8 hG F0 (by omega) (by omega) (by omega)
        · refine to_in (pc := 20) rw_54_20 rfl (to_r0 (pc := 21) rw_54_21 ?_)
          exact h x3 N hG F0 (by omega) (by omega)
set_option maxRecDepth 4000 in
set_option maxHeartbeats 0 in
theorem C_54f {X : mm_X} {d : Nat} {M : mm_M} {Q : Option Value → mm_M → Prop} {f : Nat} {s : Int32} {x : Int32} (hX : g_X X) (hd : 0 ≤ d) (hG : g_G M) (hf : f = 50 ∨ f = 59) (h : ∀ (r : Int32) (M1 : mm_M), g_G M1 → FR md_0 M M1 → (-1 ≤ r.toInt) → (r.toInt ≤ 7) → Q (some (.int r)) M1) : mm_T X d 54 0 [.ref f, .int s, .int x, .null] [] M Q := by
  have F0 : FR md_0 M M := FR.rf
  refine to_c (pc := 0) rw_54_0 (x := (0 : Int32)) rfl rfl (to_isn (pc := 1) rw_54_1 (ls2 := [.ref f, .int s, .int x, .int (0 : Int32)]) rfl rfl ?_)
  have k_10 : (0 : Int32).toInt = 0 := rfl
  exact (T_54f_0 (f := f) (s := s) (x := x) hX hd hf h ((8 - (0 : Int32).toInt).toNat + 1)) M (0 : Int32) hG F0 (by omega) (by omega) (by omega)
set_option maxRecDepth 4000 in
set_option maxHeartbeats 0 in
theorem T_54g_0 {X : mm_X} {d : Nat} {M : mm_M} {Q : Option Value → mm_M → Prop} {g : Nat} {s : Int32} {x : Int32} (hX : g_X X) (hd : 0 ≤ d) (hg : g = 55 ∨ g = 64) (h : ∀ (r : Int32) (M1 : mm_M), g_G M1 → FR md_0 M M1 → (-1 ≤ r.toInt) → (r.toInt ≤ 11) → Q (some (.int r)) M1) : ∀ nn9 : Nat, (∀ (N : mm_M) (x3 : Int32), g_G N → FR md_0 M N → (0 ≤ x3.toInt) → (x3.toInt ≤ 12) → 12 - x3.toInt < (nn9 : Int) → mm_T X d 54 2 [.ref g, .int s, .int x, .int x3] [] N Q) := by
  intro nn9
  induction nn9 with
  | zero =>
    intro N x3 hG F0 g1 g2 hm
    exfalso; omega
  | succ nn9 ih =>
    intro N x3 hG F0 g1 g2 hm
    refine to_in (pc := 2) rw_54_2 rfl (to_in (pc := 3) rw_54_3 rfl (b_cge (pc := 4) rw_54_4 (A := x3.toInt) (B := s.toInt) rfl rfl (fun h1 => ?_) (fun h1 => ?_)))
    · refine to_c (pc := 28) rw_54_28 (x := (-1 : Int32)) rfl rfl (to_r0 (pc := 29) rw_54_29 ?_)
      have k_2 : (-1 : Int32).toInt = -1 := rfl
      exact h (-1 : Int32) N hG F0 (by omega) (by omega)
    · refine to_in (pc := 7) rw_54_7 rfl (to_an (pc := 8) rw_54_8 rfl (s_len (pc := 9) rw_54_9 hG (by rcases hg with rfl | rfl <;> rfl) (by rcases hg with rfl | rfl <;> rfl) (n := 12) (by rcases hg with rfl | rfl <;> rfl) (v := (12 : Int32)) rfl (b_cge (pc := 10) rw_54_10 (A := x3.toInt) (B := 12) rfl rfl (fun h3 => ?_) (fun h3 => ?_))))
      · refine to_c (pc := 28) rw_54_28 (x := (-1 : Int32)) rfl rfl (to_r0 (pc := 29) rw_54_29 ?_)
        have k_4 : (-1 : Int32).toInt = -1 := rfl
        exact h (-1 : Int32) N hG F0 (by omega) (by omega)
      · refine to_an (pc := 13) rw_54_13 rfl (to_in (pc := 14) rw_54_14 rfl (s_ial (pc := 15) rw_54_15 hG (by rcases hg with rfl | rfl <;> rfl) (n := 12) (by rcases hg with rfl | rfl <;> rfl) (by rcases hg with rfl | rfl <;> rfl) (A := x3.toInt) rfl (by omega) (by omega) (lo := -2147483648) (hi := 2147483647) (by rcases hg with rfl | rfl <;> rfl) (by rcases hg with rfl | rfl <;> rfl) (fun v5 w_6 _ _ => to_in (pc := 16) rw_54_16 rfl (b_cne (pc := 17) rw_54_17 (A := v5.toInt) (B := x.toInt) rfl rfl (fun h7 => ?_) (fun h7 => ?_)))))
        · refine s_inc (pc := 22) rw_54_22 (ls2 := fun v => [.ref g, .int s, .int x, .int v]) rfl rfl (fun _ => rfl) (A := x3.toInt) (B := 1) rfl rfl (by omega) (fun v8 e9 => to_go (pc := 25) rw_54_25 ?_)
          exact ih N v8 hG F0 (by omega) (by omega) (by omega)
        · refine to_in (pc := 20) rw_54_20 rfl (to_r0 (pc := 21) rw_54_21 ?_)
          exact h x3 N hG F0 (by omega) (by omega)
set_option maxRecDepth 4000 in
set_option maxHeartbeats 0 in
theorem C_54g {X : mm_X} {d : Nat} {M : mm_M} {Q : Option Value → mm_M → Prop} {g : Nat} {s : Int32} {x : Int32} (hX : g_X X) (hd : 0 ≤ d) (hG : g_G M) (hg : g = 55 ∨ g = 64) (h : ∀ (r : Int32) (M1 : mm_M), g_G M1 → FR md_0 M M1 → (-1 ≤ r.toInt) → (r.toInt ≤ 11) → Q (some (.int r)) M1) : mm_T X d 54 0 [.ref g, .int s, .int x, .null] [] M Q := by
  have F0 : FR md_0 M M := FR.rf
  refine to_c (pc := 0) rw_54_0 (x := (0 : Int32)) rfl rfl (to_isn (pc := 1) rw_54_1 (ls2 := [.ref g, .int s, .int x, .int (0 : Int32)]) rfl rfl ?_)
  have k_10 : (0 : Int32).toInt = 0 := rfl
  exact (T_54g_0 (g := g) (s := s) (x := x) hX hd hg h ((12 - (0 : Int32).toInt).toNat + 1)) M (0 : Int32) hG F0 (by omega) (by omega) (by omega)
set_option maxRecDepth 4000 in
set_option maxHeartbeats 0 in
theorem C_34 {X : mm_X} {d : Nat} {M : mm_M} {Q : Option Value → mm_M → Prop} {p : Nat} (hX : g_X X) (hd : 2 ≤ d) (hG : g_G M) (hp : p = 49 ∨ p = 58) (h : ∀ (r : Int32) (M1 : mm_M), g_G M1 → FR md_t M M1 → (0 ≤ r.toInt) → (r.toInt ≤ 1) → Q (some (.int r)) M1) : mm_T X d 34 0 [.ref p, .ref 1] [] M Q := by
  have F0 : FR md_t M M := FR.rf
  refine to_an (pc := 0) rw_34_0 rfl (tt_gI (pc := 1) rw_34_1 (g_o hG rfl) (v := (M.2.1 1 7)) rfl (to_c (pc := 4) rw_34_4 (x := (3 : Int32)) rfl rfl (b_ceq (pc := 5) rw_34_5 (A := (M.2.1 1 7).toInt) (B := 3) rfl rfl (fun h1 => ?_) (fun h1 => ?_))))
  · refine to_an (pc := 14) rw_34_14 rfl (to_an (pc := 15) rw_34_15 rfl (tt_gI (pc := 16) rw_34_16 (g_o hG rfl) (v := (M.2.1 1 8)) rfl (s_v (pc := 19) rw_34_19 (dp0 hd (by decide)) (ls0 := [.ref p, .int (M.2.1 1 8)]) rfl (Nat.le_of_ble_eq_true rfl) (Nat.le_of_ble_eq_true rfl) rfl (to_rc rfl rfl rfl (g_o hG (by rcases hp with rfl | rfl <;> rfl))) rfl (to_an (pc := 0) rw_52_0 rfl (s_gR (pc := 1) rw_52_1 hG (by rcases hp with rfl | rfl <;> rfl) (v := (p + 1)) (by rcases hp with rfl | rfl <;> rfl) (to_an (pc := 4) rw_52_4 rfl ?_))))))
    have b_2 := g_b hG (a := p) (i := 2) (lo := 0) (hi := 8) (by rcases hp with rfl | rfl <;> rfl) (by rcases hp with rfl | rfl <;> rfl)
    refine tt_gI (pc := 5) rw_52_5 (g_o hG (by rcases hp with rfl | rfl <;> rfl)) (v := (M.2.1 p 2)) rfl (to_in (pc := 8) rw_52_8 rfl (s_s (pc := 9) rw_52_9 (dp1 hd (by decide)) (ls0 := [.ref (p + 1), .int (M.2.1 p 2), .int (M.2.1 1 8), .null]) rfl (Nat.le_of_ble_eq_true rfl) (Nat.le_of_ble_eq_true rfl) rfl (to_rcs rfl rfl) rfl (C_54f hX (dp2 hd (by decide)) hG (by omega) (f := (p + 1)) (s := (M.2.1 p 2)) (x := (M.2.1 1 8)) (fun r3 M8 hG5 F4 p_6 p_7 => ?_))))
    have F9 := FR.c F0 F4 tg_109
    refine to_r0 (pc := 12) rw_52_12 (to_c (pc := 22) rw_34_22 (x := (-1 : Int32)) rfl rfl (b_cne (pc := 23) rw_34_23 (A := r3.toInt) (B := -1) rfl rfl (fun h10 => ?_) (fun h10 => ?_)))
    · refine to_an (pc := 38) rw_34_38 rfl (to_c (pc := 39) rw_34_39 (x := (3 : Int32)) rfl rfl (s_v (pc := 40) rw_34_40 (dp0 hd (by decide)) (ls0 := [.ref 1, .int (3 : Int32)]) rfl (Nat.le_of_ble_eq_true rfl) (Nat.le_of_ble_eq_true rfl) rfl (to_rc rfl rfl rfl (g_o hG5 rfl)) rfl (to_an (pc := 0) rw_84_0 rfl (to_in (pc := 1) rw_84_1 rfl (s_pI (pc := 2) rw_84_2 hG5 rfl (fun M12 W11 => ?_))))))
      have hG13 := g_wf hG5 W11 rfl rfl (by decide)
      have F14 := FR.w F9 W11 (show 1 = 1 ∧ 5 ≤ 10 ∨ 3 ≤ 1 ∧ 1 ≤ 5 by decide)
      refine to_an (pc := 5) rw_84_5 rfl (to_an (pc := 6) rw_84_6 rfl ?_)
      have c_15 : M12.2.1 1 9 = (M.2.1 1 9) := (W_n W11 (by decide) (F_n F4 (show ¬ (1 < 0) by decide) rfl))
      refine tt_gI (pc := 7) rw_84_7 (g_o hG13 rfl) (v := (M.2.1 1 9)) c_15 (s_pI (pc := 10) rw_84_10 hG13 rfl (fun M17 W16 => ?_))
      have hG18 := g_wf hG13 W16 rfl rfl (by decide)
      have F19 := FR.w F14 W16 (show 1 = 1 ∧ 5 ≤ 11 ∨ 3 ≤ 1 ∧ 1 ≤ 5 by decide)
      refine to_c (pc := 13) rw_84_13 (x := (0 : Int32)) rfl rfl (s_r1 (pc := 14) rw_84_14 (A := 0) rfl (by decide) (s_r1 (pc := 43) rw_34_43 (A := 0) rfl (by decide) ?_))
      have k_20 : (0 : Int32).toInt = 0 := rfl
      exact h (0 : Int32) M17 hG18 F19 (by decide) (by decide)
    · refine to_an (pc := 26) rw_34_26 rfl (to_an (pc := 27) rw_34_27 rfl ?_)
      have c_21 : M8.2.1 1 8 = (M.2.1 1 8) := (F_n F4 (show ¬ (1 < 0) by decide) rfl)
      refine tt_gI (pc := 28) rw_34_28 (g_o hG5 rfl) (v := (M.2.1 1 8)) c_21 (s_v (pc := 31) rw_34_31 (dp0 hd (by decide)) (ls0 := [.ref p, .int (M.2.1 1 8)]) rfl (Nat.le_of_ble_eq_true rfl) (Nat.le_of_ble_eq_true rfl) rfl (to_rc rfl rfl rfl (g_o hG5 (by rcases hp with rfl | rfl <;> rfl))) rfl (to_an (pc := 0) rw_53_0 rfl (s_gR (pc := 1) rw_53_1 hG5 (by rcases hp with rfl | rfl <;> rfl) (v := (p + 6)) (by rcases hp with rfl | rfl <;> rfl) (to_an (pc := 4) rw_53_4 rfl ?_))))
      have c_22 : M8.2.1 p 3 = (M.2.1 p 3) := (F_n F4 (show ¬ (p < 0) by omega) rfl)
      have b_23 := g_b hG (a := p) (i := 3) (lo := 0) (hi := 12) (by rcases hp with rfl | rfl <;> rfl) (by rcases hp with rfl | rfl <;> rfl)
      refine tt_gI (pc := 5) rw_53_5 (g_o hG5 (by rcases hp with rfl | rfl <;> rfl)) (v := (M.2.1 p 3)) c_22 (to_in (pc := 8) rw_53_8 rfl (s_s (pc := 9) rw_53_9 (dp1 hd (by decide)) (ls0 := [.ref (p + 6), .int (M.2.1 p 3), .int (M.2.1 1 8), .null]) rfl (Nat.le_of_ble_eq_true rfl) (Nat.le_of_ble_eq_true rfl) rfl (to_rcs rfl rfl) rfl (C_54g hX (dp2 hd (by decide)) hG5 (by omega) (g := (p + 6)) (s := (M.2.1 p 3)) (x := (M.2.1 1 8)) (fun r24 M29 hG26 F25 p_27 p_28 => ?_))))
      have F30 := FR.c F9 F25 tg_109
      refine to_r0 (pc := 12) rw_53_12 (to_c (pc := 34) rw_34_34 (x := (-1 : Int32)) rfl rfl (b_ceq (pc := 35) rw_34_35 (A := r24.toInt) (B := -1) rfl rfl (fun h31 => ?_) (fun h31 => ?_)))
      · refine to_c (pc := 44) rw_34_44 (x := (1 : Int32)) rfl rfl (s_r1 (pc := 45) rw_34_45 (A := 1) rfl (by decide) ?_)
        have k_32 : (1 : Int32).toInt = 1 := rfl
        exact h (1 : Int32) M29 hG26 F30 (by decide) (by decide)
      · refine to_an (pc := 38) rw_34_38 rfl (to_c (pc := 39) rw_34_39 (x := (3 : Int32)) rfl rfl (s_v (pc := 40) rw_34_40 (dp0 hd (by decide)) (ls0 := [.ref 1, .int (3 : Int32)]) rfl (Nat.le_of_ble_eq_true rfl) (Nat.le_of_ble_eq_true rfl) rfl (to_rc rfl rfl rfl (g_o hG26 rfl)) rfl (to_an (pc := 0) rw_84_0 rfl (to_in (pc := 1) rw_84_1 rfl (s_pI (pc := 2) rw_84_2 hG26 rfl (fun M34 W33 => ?_))))))
        have hG35 := g_wf hG26 W33 rfl rfl (by decide)
        have F36 := FR.w F30 W33 (show 1 = 1 ∧ 5 ≤ 10 ∨ 3 ≤ 1 ∧ 1 ≤ 5 by decide)
        refine to_an (pc := 5) rw_84_5 rfl (to_an (pc := 6) rw_84_6 rfl ?_)
        have c_37 : M34.2.1 1 9 = (M.2.1 1 9) := (W_n W33 (by decide) (F_n F25 (show ¬ (1 < 0) by decide) (F_n F4 (show ¬ (1 < 0) by decide) rfl)))
        refine tt_gI (pc := 7) rw_84_7 (g_o hG35 rfl) (v := (M.2.1 1 9)) c_37 (s_pI (pc := 10) rw_84_10 hG35 rfl (fun M39 W38 => ?_))
        have hG40 := g_wf hG35 W38 rfl rfl (by decide)
        have F41 := FR.w F36 W38 (show 1 = 1 ∧ 5 ≤ 11 ∨ 3 ≤ 1 ∧ 1 ≤ 5 by decide)
        refine to_c (pc := 13) rw_84_13 (x := (0 : Int32)) rfl rfl (s_r1 (pc := 14) rw_84_14 (A := 0) rfl (by decide) (s_r1 (pc := 43) rw_34_43 (A := 0) rfl (by decide) ?_))
        have k_42 : (0 : Int32).toInt = 0 := rfl
        exact h (0 : Int32) M39 hG40 F41 (by decide) (by decide)
  · refine to_an (pc := 8) rw_34_8 rfl (to_c (pc := 9) rw_34_9 (x := (1 : Int32)) rfl rfl (s_v (pc := 10) rw_34_10 (dp0 hd (by decide)) (ls0 := [.ref 1, .int (1 : Int32)]) rfl (Nat.le_of_ble_eq_true rfl) (Nat.le_of_ble_eq_true rfl) rfl (to_rc rfl rfl rfl (g_o hG rfl)) rfl (to_an (pc := 0) rw_84_0 rfl (to_in (pc := 1) rw_84_1 rfl (s_pI (pc := 2) rw_84_2 hG rfl (fun M44 W43 => ?_))))))
    have hG45 := g_wf hG W43 rfl rfl (by decide)
    have F46 := FR.w F0 W43 (show 1 = 1 ∧ 5 ≤ 10 ∨ 3 ≤ 1 ∧ 1 ≤ 5 by decide)
    refine to_an (pc := 5) rw_84_5 rfl (to_an (pc := 6) rw_84_6 rfl ?_)
    have c_47 : M44.2.1 1 9 = (M.2.1 1 9) := (W_n W43 (by decide) rfl)
    refine tt_gI (pc := 7) rw_84_7 (g_o hG45 rfl) (v := (M.2.1 1 9)) c_47 (s_pI (pc := 10) rw_84_10 hG45 rfl (fun M49 W48 => ?_))
    have hG50 := g_wf hG45 W48 rfl rfl (by decide)
    have F51 := FR.w F46 W48 (show 1 = 1 ∧ 5 ≤ 11 ∨ 3 ≤ 1 ∧ 1 ≤ 5 by decide)
    refine to_c (pc := 13) rw_84_13 (x := (0 : Int32)) rfl rfl (s_r1 (pc := 14) rw_84_14 (A := 0) rfl (by decide) (s_r1 (pc := 13) rw_34_13 (A := 0) rfl (by decide) ?_))
    have k_52 : (0 : Int32).toInt = 0 := rfl
    exact h (0 : Int32) M49 hG50 F51 (by decide) (by decide)
set_option maxRecDepth 4000 in
set_option maxHeartbeats 0 in
theorem C_35 {X : mm_X} {d : Nat} {M : mm_M} {Q : Option Value → mm_M → Prop} (hX : g_X X) (hd : 1 ≤ d) (hG : g_G M) (h : ∀ (r : Int32) (M1 : mm_M), g_G M1 → FR md_0 M M1 → (-1 ≤ r.toInt) → (r.toInt ≤ 3) → Q (some (.int r)) M1) : mm_T X d 35 0 [.ref 1] [] M Q := by
  have F0 : FR md_0 M M := FR.rf
  refine to_an (pc := 0) rw_35_0 rfl (to_c (pc := 1) rw_35_1 (x := (518160384 : Int32)) rfl rfl (s_v (pc := 3) rw_35_3 (dp0 hd (by decide)) (ls0 := [.ref 1, .int (518160384 : Int32)]) rfl (Nat.le_of_ble_eq_true rfl) (Nat.le_of_ble_eq_true rfl) rfl (to_rc rfl rfl rfl (g_o hG rfl)) rfl (to_an (pc := 0) rw_86_0 rfl (tt_gI (pc := 1) rw_86_1 (g_o hG rfl) (v := (M.2.1 1 7)) rfl (to_c (pc := 4) rw_86_4 (x := (4 : Int32)) rfl rfl (b_cne (pc := 5) rw_86_5 (A := (M.2.1 1 7).toInt) (B := 4) rfl rfl (fun h1 => ?_) (fun h1 => ?_)))))))
  · refine to_c (pc := 20) rw_86_20 (x := (0 : Int32)) rfl rfl (s_r1 (pc := 21) rw_86_21 (A := 0) rfl (by decide) (b_ieq_t (pc := 6) rw_35_6 (A := 0) rfl (by decide) (to_an (pc := 11) rw_35_11 rfl (to_c (pc := 12) rw_35_12 (x := (659999744 : Int32)) rfl rfl (s_v (pc := 14) rw_35_14 (dp0 hd (by decide)) (ls0 := [.ref 1, .int (659999744 : Int32)]) rfl (Nat.le_of_ble_eq_true rfl) (Nat.le_of_ble_eq_true rfl) rfl (to_rc rfl rfl rfl (g_o hG rfl)) rfl (to_an (pc := 0) rw_86_0 rfl (tt_gI (pc := 1) rw_86_1 (g_o hG rfl) (v := (M.2.1 1 7)) rfl (to_c (pc := 4) rw_86_4 (x := (4 : Int32)) rfl rfl (b_cne (pc := 5) rw_86_5 (A := (M.2.1 1 7).toInt) (B := 4) rfl rfl (fun h2 => ?_) (fun h2 => ?_))))))))))
    · refine to_c (pc := 20) rw_86_20 (x := (0 : Int32)) rfl rfl (s_r1 (pc := 21) rw_86_21 (A := 0) rfl (by decide) (b_ieq_t (pc := 17) rw_35_17 (A := 0) rfl (by decide) (to_an (pc := 22) rw_35_22 rfl (to_c (pc := 23) rw_35_23 (x := (538233440 : Int32)) rfl rfl (s_v (pc := 25) rw_35_25 (dp0 hd (by decide)) (ls0 := [.ref 1, .int (538233440 : Int32)]) rfl (Nat.le_of_ble_eq_true rfl) (Nat.le_of_ble_eq_true rfl) rfl (to_rc rfl rfl rfl (g_o hG rfl)) rfl (to_an (pc := 0) rw_86_0 rfl (tt_gI (pc := 1) rw_86_1 (g_o hG rfl) (v := (M.2.1 1 7)) rfl (to_c (pc := 4) rw_86_4 (x := (4 : Int32)) rfl rfl (b_cne (pc := 5) rw_86_5 (A := (M.2.1 1 7).toInt) (B := 4) rfl rfl (fun h3 => ?_) (fun h3 => ?_))))))))))
      · refine to_c (pc := 20) rw_86_20 (x := (0 : Int32)) rfl rfl (s_r1 (pc := 21) rw_86_21 (A := 0) rfl (by decide) (b_ieq_t (pc := 28) rw_35_28 (A := 0) rfl (by decide) (to_an (pc := 33) rw_35_33 rfl (to_c (pc := 34) rw_35_34 (x := (404000768 : Int32)) rfl rfl (s_v (pc := 36) rw_35_36 (dp0 hd (by decide)) (ls0 := [.ref 1, .int (404000768 : Int32)]) rfl (Nat.le_of_ble_eq_true rfl) (Nat.le_of_ble_eq_true rfl) rfl (to_rc rfl rfl rfl (g_o hG rfl)) rfl (to_an (pc := 0) rw_86_0 rfl (tt_gI (pc := 1) rw_86_1 (g_o hG rfl) (v := (M.2.1 1 7)) rfl (to_c (pc := 4) rw_86_4 (x := (4 : Int32)) rfl rfl (b_cne (pc := 5) rw_86_5 (A := (M.2.1 1 7).toInt) (B := 4) rfl rfl (fun h4 => ?_) (fun h4 => ?_))))))))))
        · refine to_c (pc := 20) rw_86_20 (x := (0 : Int32)) rfl rfl (s_r1 (pc := 21) rw_86_21 (A := 0) rfl (by decide) (b_ieq_t (pc := 39) rw_35_39 (A := 0) rfl (by decide) (to_c (pc := 46) rw_35_46 (x := (-1 : Int32)) rfl rfl (to_r0 (pc := 47) rw_35_47 ?_))))
          have k_5 : (-1 : Int32).toInt = -1 := rfl
          exact h (-1 : Int32) M hG F0 (by omega) (by omega)
        · refine to_an (pc := 8) rw_86_8 rfl (tt_gI (pc := 9) rw_86_9 (g_o hG rfl) (v := (M.2.1 1 8)) rfl (to_in (pc := 12) rw_86_12 rfl (b_cne (pc := 13) rw_86_13 (A := (M.2.1 1 8).toInt) (B := 404000768) rfl rfl (fun h6 => ?_) (fun h6 => ?_))))
          · refine to_c (pc := 20) rw_86_20 (x := (0 : Int32)) rfl rfl (s_r1 (pc := 21) rw_86_21 (A := 0) rfl (by decide) (b_ieq_t (pc := 39) rw_35_39 (A := 0) rfl (by decide) (to_c (pc := 46) rw_35_46 (x := (-1 : Int32)) rfl rfl (to_r0 (pc := 47) rw_35_47 ?_))))
            have k_7 : (-1 : Int32).toInt = -1 := rfl
            exact h (-1 : Int32) M hG F0 (by omega) (by omega)
          · refine to_c (pc := 16) rw_86_16 (x := (1 : Int32)) rfl rfl (to_go (pc := 17) rw_86_17 (s_r1 (pc := 21) rw_86_21 (A := 1) rfl (by decide) (b_ieq_f (pc := 39) rw_35_39 (A := 1) rfl (by decide) (to_c (pc := 42) rw_35_42 (x := (3 : Int32)) rfl rfl (to_go (pc := 43) rw_35_43 (to_r0 (pc := 47) rw_35_47 ?_))))))
            have k_8 : (3 : Int32).toInt = 3 := rfl
            exact h (3 : Int32) M hG F0 (by omega) (by omega)
      · refine to_an (pc := 8) rw_86_8 rfl (tt_gI (pc := 9) rw_86_9 (g_o hG rfl) (v := (M.2.1 1 8)) rfl (to_in (pc := 12) rw_86_12 rfl (b_cne (pc := 13) rw_86_13 (A := (M.2.1 1 8).toInt) (B := 538233440) rfl rfl (fun h9 => ?_) (fun h9 => ?_))))
        · refine to_c (pc := 20) rw_86_20 (x := (0 : Int32)) rfl rfl (s_r1 (pc := 21) rw_86_21 (A := 0) rfl (by decide) (b_ieq_t (pc := 28) rw_35_28 (A := 0) rfl (by decide) (to_an (pc := 33) rw_35_33 rfl (to_c (pc := 34) rw_35_34 (x := (404000768 : Int32)) rfl rfl (s_v (pc := 36) rw_35_36 (dp0 hd (by decide)) (ls0 := [.ref 1, .int (404000768 : Int32)]) rfl (Nat.le_of_ble_eq_true rfl) (Nat.le_of_ble_eq_true rfl) rfl (to_rc rfl rfl rfl (g_o hG rfl)) rfl (to_an (pc := 0) rw_86_0 rfl (tt_gI (pc := 1) rw_86_1 (g_o hG rfl) (v := (M.2.1 1 7)) rfl (to_c (pc := 4) rw_86_4 (x := (4 : Int32)) rfl rfl (b_cne_f (pc := 5) rw_86_5 (A := (M.2.1 1 7).toInt) (B := 4) rfl rfl (by omega) (to_an (pc := 8) rw_86_8 rfl (tt_gI (pc := 9) rw_86_9 (g_o hG rfl) (v := (M.2.1 1 8)) rfl ?_)))))))))))
          refine to_in (pc := 12) rw_86_12 rfl (b_cne (pc := 13) rw_86_13 (A := (M.2.1 1 8).toInt) (B := 404000768) rfl rfl (fun h10 => ?_) (fun h10 => ?_))
          · refine to_c (pc := 20) rw_86_20 (x := (0 : Int32)) rfl rfl (s_r1 (pc := 21) rw_86_21 (A := 0) rfl (by decide) (b_ieq_t (pc := 39) rw_35_39 (A := 0) rfl (by decide) (to_c (pc := 46) rw_35_46 (x := (-1 : Int32)) rfl rfl (to_r0 (pc := 47) rw_35_47 ?_))))
            have k_11 : (-1 : Int32).toInt = -1 := rfl
            exact h (-1 : Int32) M hG F0 (by omega) (by omega)
          · refine to_c (pc := 16) rw_86_16 (x := (1 : Int32)) rfl rfl (to_go (pc := 17) rw_86_17 (s_r1 (pc := 21) rw_86_21 (A := 1) rfl (by decide) (b_ieq_f (pc := 39) rw_35_39 (A := 1) rfl (by decide) (to_c (pc := 42) rw_35_42 (x := (3 : Int32)) rfl rfl (to_go (pc := 43) rw_35_43 (to_r0 (pc := 47) rw_35_47 ?_))))))
            have k_12 : (3 : Int32).toInt = 3 := rfl
            exact h (3 : Int32) M hG F0 (by omega) (by omega)
        · refine to_c (pc := 16) rw_86_16 (x := (1 : Int32)) rfl rfl (to_go (pc := 17) rw_86_17 (s_r1 (pc := 21) rw_86_21 (A := 1) rfl (by decide) (b_ieq_f (pc := 28) rw_35_28 (A := 1) rfl (by decide) (to_c (pc := 31) rw_35_31 (x := (2 : Int32)) rfl rfl (to_r0 (pc := 32) rw_35_32 ?_)))))
          have k_13 : (2 : Int32).toInt = 2 := rfl
          exact h (2 : Int32) M hG F0 (by omega) (by omega)
    · refine to_an (pc := 8) rw_86_8 rfl (tt_gI (pc := 9) rw_86_9 (g_o hG rfl) (v := (M.2.1 1 8)) rfl (to_in (pc := 12) rw_86_12 rfl (b_cne (pc := 13) rw_86_13 (A := (M.2.1 1 8).toInt) (B := 659999744) rfl rfl (fun h14 => ?_) (fun h14 => ?_))))
      · refine to_c (pc := 20) rw_86_20 (x := (0 : Int32)) rfl rfl (s_r1 (pc := 21) rw_86_21 (A := 0) rfl (by decide) (b_ieq_t (pc := 17) rw_35_17 (A := 0) rfl (by decide) (to_an (pc := 22) rw_35_22 rfl (to_c (pc := 23) rw_35_23 (x := (538233440 : Int32)) rfl rfl (s_v (pc := 25) rw_35_25 (dp0 hd (by decide)) (ls0 := [.ref 1, .int (538233440 : Int32)]) rfl (Nat.le_of_ble_eq_true rfl) (Nat.le_of_ble_eq_true rfl) rfl (to_rc rfl rfl rfl (g_o hG rfl)) rfl (to_an (pc := 0) rw_86_0 rfl (tt_gI (pc := 1) rw_86_1 (g_o hG rfl) (v := (M.2.1 1 7)) rfl (to_c (pc := 4) rw_86_4 (x := (4 : Int32)) rfl rfl (b_cne_f (pc := 5) rw_86_5 (A := (M.2.1 1 7).toInt) (B := 4) rfl rfl (by omega) (to_an (pc := 8) rw_86_8 rfl (tt_gI (pc := 9) rw_86_9 (g_o hG rfl) (v := (M.2.1 1 8)) rfl ?_)))))))))))
        refine to_in (pc := 12) rw_86_12 rfl (b_cne (pc := 13) rw_86_13 (A := (M.2.1 1 8).toInt) (B := 538233440) rfl rfl (fun h15 => ?_) (fun h15 => ?_))
        · refine to_c (pc := 20) rw_86_20 (x := (0 : Int32)) rfl rfl (s_r1 (pc := 21) rw_86_21 (A := 0) rfl (by decide) (b_ieq_t (pc := 28) rw_35_28 (A := 0) rfl (by decide) (to_an (pc := 33) rw_35_33 rfl (to_c (pc := 34) rw_35_34 (x := (404000768 : Int32)) rfl rfl (s_v (pc := 36) rw_35_36 (dp0 hd (by decide)) (ls0 := [.ref 1, .int (404000768 : Int32)]) rfl (Nat.le_of_ble_eq_true rfl) (Nat.le_of_ble_eq_true rfl) rfl (to_rc rfl rfl rfl (g_o hG rfl)) rfl (to_an (pc := 0) rw_86_0 rfl (tt_gI (pc := 1) rw_86_1 (g_o hG rfl) (v := (M.2.1 1 7)) rfl (to_c (pc := 4) rw_86_4 (x := (4 : Int32)) rfl rfl (b_cne_f (pc := 5) rw_86_5 (A := (M.2.1 1 7).toInt) (B := 4) rfl rfl (by omega) (to_an (pc := 8) rw_86_8 rfl (tt_gI (pc := 9) rw_86_9 (g_o hG rfl) (v := (M.2.1 1 8)) rfl ?_)))))))))))
          refine to_in (pc := 12) rw_86_12 rfl (b_cne (pc := 13) rw_86_13 (A := (M.2.1 1 8).toInt) (B := 404000768) rfl rfl (fun h16 => ?_) (fun h16 => ?_))
          · refine to_c (pc := 20) rw_86_20 (x := (0 : Int32)) rfl rfl (s_r1 (pc := 21) rw_86_21 (A := 0) rfl (by decide) (b_ieq_t (pc := 39) rw_35_39 (A := 0) rfl (by decide) (to_c (pc := 46) rw_35_46 (x := (-1 : Int32)) rfl rfl (to_r0 (pc := 47) rw_35_47 ?_))))
            have k_17 : (-1 : Int32).toInt = -1 := rfl
            exact h (-1 : Int32) M hG F0 (by omega) (by omega)
          · refine to_c (pc := 16) rw_86_16 (x := (1 : Int32)) rfl rfl (to_go (pc := 17) rw_86_17 (s_r1 (pc := 21) rw_86_21 (A := 1) rfl (by decide) (b_ieq_f (pc := 39) rw_35_39 (A := 1) rfl (by decide) (to_c (pc := 42) rw_35_42 (x := (3 : Int32)) rfl rfl (to_go (pc := 43) rw_35_43 (to_r0 (pc := 47) rw_35_47 ?_))))))
            have k_18 : (3 : Int32).toInt = 3 := rfl
            exact h (3 : Int32) M hG F0 (by omega) (by omega)
        · refine to_c (pc := 16) rw_86_16 (x := (1 : Int32)) rfl rfl (to_go (pc := 17) rw_86_17 (s_r1 (pc := 21) rw_86_21 (A := 1) rfl (by decide) (b_ieq_f (pc := 28) rw_35_28 (A := 1) rfl (by decide) (to_c (pc := 31) rw_35_31 (x := (2 : Int32)) rfl rfl (to_r0 (pc := 32) rw_35_32 ?_)))))
          have k_19 : (2 : Int32).toInt = 2 := rfl
          exact h (2 : Int32) M hG F0 (by omega) (by omega)
      · refine to_c (pc := 16) rw_86_16 (x := (1 : Int32)) rfl rfl (to_go (pc := 17) rw_86_17 (s_r1 (pc := 21) rw_86_21 (A := 1) rfl (by decide) (b_ieq_f (pc := 17) rw_35_17 (A := 1) rfl (by decide) (to_c (pc := 20) rw_35_20 (x := (1 : Int32)) rfl rfl (to_r0 (pc := 21) rw_35_21 ?_)))))
        have k_20 : (1 : Int32).toInt = 1 := rfl
        exact h (1 : Int32) M hG F0 (by omega) (by omega)
  · refine to_an (pc := 8) rw_86_8 rfl (tt_gI (pc := 9) rw_86_9 (g_o hG rfl) (v := (M.2.1 1 8)) rfl (to_in (pc := 12) rw_86_12 rfl (b_cne (pc := 13) rw_86_13 (A := (M.2.1 1 8).toInt) (B := 518160384) rfl rfl (fun h21 => ?_) (fun h21 => ?_))))
    · refine to_c (pc := 20) rw_86_20 (x := (0 : Int32)) rfl rfl (s_r1 (pc := 21) rw_86_21 (A := 0) rfl (by decide) (b_ieq_t (pc := 6) rw_35_6 (A := 0) rfl (by decide) (to_an (pc := 11) rw_35_11 rfl (to_c (pc := 12) rw_35_12 (x := (659999744 : Int32)) rfl rfl (s_v (pc := 14) rw_35_14 (dp0 hd (by decide)) (ls0 := [.ref 1, .int (659999744 : Int32)]) rfl (Nat.le_of_ble_eq_true rfl) (Nat.le_of_ble_eq_true rfl) rfl (to_rc rfl rfl rfl (g_o hG rfl)) rfl (to_an (pc := 0) rw_86_0 rfl (tt_gI (pc := 1) rw_86_1 (g_o hG rfl) (v := (M.2.1 1 7)) rfl (to_c (pc := 4) rw_86_4 (x := (4 : Int32)) rfl rfl (b_cne_f (pc := 5) rw_86_5 (A := (M.2.1 1 7).toInt) (B := 4) rfl rfl (by omega) (to_an (pc := 8) rw_86_8 rfl (tt_gI (pc := 9) rw_86_9 (g_o hG rfl) (v := (M.2.1 1 8)) rfl ?_)))))))))))
      refine to_in (pc := 12) rw_86_12 rfl (b_cne (pc := 13) rw_86_13 (A := (M.2.1 1 8).toInt) (B := 659999744) rfl rfl (fun h22 => ?_) (fun h22 => ?_))
      · refine to_c (pc := 20) rw_86_20 (x := (0 : Int32)) rfl rfl (s_r1 (pc := 21) rw_86_21 (A := 0) rfl (by decide) (b_ieq_t (pc := 17) rw_35_17 (A := 0) rfl (by decide) (to_an (pc := 22) rw_35_22 rfl (to_c (pc := 23) rw_35_23 (x := (538233440 : Int32)) rfl rfl (s_v (pc := 25) rw_35_25 (dp0 hd (by decide)) (ls0 := [.ref 1, .int (538233440 : Int32)]) rfl (Nat.le_of_ble_eq_true rfl) (Nat.le_of_ble_eq_true rfl) rfl (to_rc rfl rfl rfl (g_o hG rfl)) rfl (to_an (pc := 0) rw_86_0 rfl (tt_gI (pc := 1) rw_86_1 (g_o hG rfl) (v := (M.2.1 1 7)) rfl (to_c (pc := 4) rw_86_4 (x := (4 : Int32)) rfl rfl (b_cne_f (pc := 5) rw_86_5 (A := (M.2.1 1 7).toInt) (B := 4) rfl rfl (by omega) (to_an (pc := 8) rw_86_8 rfl (tt_gI (pc := 9) rw_86_9 (g_o hG rfl) (v := (M.2.1 1 8)) rfl ?_)))))))))))
        refine to_in (pc := 12) rw_86_12 rfl (b_cne (pc := 13) rw_86_13 (A := (M.2.1 1 8).toInt) (B := 538233440) rfl rfl (fun h23 => ?_) (fun h23 => ?_))
        · refine to_c (pc := 20) rw_86_20 (x := (0 : Int32)) rfl rfl (s_r1 (pc := 21) rw_86_21 (A := 0) rfl (by decide) (b_ieq_t (pc := 28) rw_35_28 (A := 0) rfl (by decide) (to_an (pc := 33) rw_35_33 rfl (to_c (pc := 34) rw_35_34 (x := (404000768 : Int32)) rfl rfl (s_v (pc := 36) rw_35_36 (dp0 hd (by decide)) (ls0 := [.ref 1, .int (404000768 : Int32)]) rfl (Nat.le_of_ble_eq_true rfl) (Nat.le_of_ble_eq_true rfl) rfl (to_rc rfl rfl rfl (g_o hG rfl)) rfl (to_an (pc := 0) rw_86_0 rfl (tt_gI (pc := 1) rw_86_1 (g_o hG rfl) (v := (M.2.1 1 7)) rfl (to_c (pc := 4) rw_86_4 (x := (4 : Int32)) rfl rfl (b_cne_f (pc := 5) rw_86_5 (A := (M.2.1 1 7).toInt) (B := 4) rfl rfl (by omega) (to_an (pc := 8) rw_86_8 rfl (tt_gI (pc := 9) rw_86_9 (g_o hG rfl) (v := (M.2.1 1 8)) rfl ?_)))))))))))
          refine to_in (pc := 12) rw_86_12 rfl (b_cne (pc := 13) rw_86_13 (A := (M.2.1 1 8).toInt) (B := 404000768) rfl rfl (fun h24 => ?_) (fun h24 => ?_))
          · refine to_c (pc := 20) rw_86_20 (x := (0 : Int32)) rfl rfl (s_r1 (pc := 21) rw_86_21 (A := 0) rfl (by decide) (b_ieq_t (pc := 39) rw_35_39 (A := 0) rfl (by decide) (to_c (pc := 46) rw_35_46 (x := (-1 : Int32)) rfl rfl (to_r0 (pc := 47) rw_35_47 ?_))))
            have k_25 : (-1 : Int32).toInt = -1 := rfl
            exact h (-1 : Int32) M hG F0 (by omega) (by omega)
          · refine to_c (pc := 16) rw_86_16 (x := (1 : Int32)) rfl rfl (to_go (pc := 17) rw_86_17 (s_r1 (pc := 21) rw_86_21 (A := 1) rfl (by decide) (b_ieq_f (pc := 39) rw_35_39 (A := 1) rfl (by decide) (to_c (pc := 42) rw_35_42 (x := (3 : Int32)) rfl rfl (to_go (pc := 43) rw_35_43 (to_r0 (pc := 47) rw_35_47 ?_))))))
            have k_26 : (3 : Int32).toInt = 3 := rfl
            exact h (3 : Int32) M hG F0 (by omega) (by omega)
        · refine to_c (pc := 16) rw_86_16 (x := (1 : Int32)) rfl rfl (to_go (pc := 17) rw_86_17 (s_r1 (pc := 21) rw_86_21 (A := 1) rfl (by decide) (b_ieq_f (pc := 28) rw_35_28 (A := 1) rfl (by decide) (to_c (pc := 31) rw_35_31 (x := (2 : Int32)) rfl rfl (to_r0 (pc := 32) rw_35_32 ?_)))))
          have k_27 : (2 : Int32).toInt = 2 := rfl
          exact h (2 : Int32) M hG F0 (by omega) (by omega)
      · refine to_c (pc := 16) rw_86_16 (x := (1 : Int32)) rfl rfl (to_go (pc := 17) rw_86_17 (s_r1 (pc := 21) rw_86_21 (A := 1) rfl (by decide) (b_ieq_f (pc := 17) rw_35_17 (A := 1) rfl (by decide) (to_c (pc := 20) rw_35_20 (x := (1 : Int32)) rfl rfl (to_r0 (pc := 21) rw_35_21 ?_)))))
        have k_28 : (1 : Int32).toInt = 1 := rfl
        exact h (1 : Int32) M hG F0 (by omega) (by omega)
    · refine to_c (pc := 16) rw_86_16 (x := (1 : Int32)) rfl rfl (to_go (pc := 17) rw_86_17 (s_r1 (pc := 21) rw_86_21 (A := 1) rfl (by decide) (b_ieq_f (pc := 6) rw_35_6 (A := 1) rfl (by decide) (to_c (pc := 9) rw_35_9 (x := (0 : Int32)) rfl rfl (to_r0 (pc := 10) rw_35_10 ?_)))))
      have k_29 : (0 : Int32).toInt = 0 := rfl
      exact h (0 : Int32) M hG F0 (by omega) (by omega)
set_option maxRecDepth 4000 in
set_option maxHeartbeats 0 in
theorem C_39 {X : mm_X} {d : Nat} {M : mm_M} {Q : Option Value → mm_M → Prop} {p : Nat} {f : Int32} {l : Int32} (hX : g_X X) (hd : 1 ≤ d) (hG : g_G M) (hp : p = 49 ∨ p = 58) (h : ∀ (r : Int32) (M1 : mm_M), g_G M1 → FR md_t M M1 → (0 ≤ r.toInt) → (r.toInt ≤ 1) → Q (some (.int r)) M1) : mm_T X d 39 0 [.ref p, .ref 1, .int f, .int l] [] M Q := by
  have F0 : FR md_t M M := FR.rf
  refine to_an (pc := 0) rw_39_0 rfl (s_gJ (pc := 1) rw_39_1 hG (by rcases hp with rfl | rfl <;> rfl) (fun l1 => to_in (pc := 4) rw_39_4 rfl (to_in (pc := 5) rw_39_5 rfl (s_s (pc := 6) rw_39_6 (dp0 hd (by decide)) (ls0 := [.int f, .int l]) rfl (Nat.le_of_ble_eq_true rfl) (Nat.le_of_ble_eq_true rfl) rfl (to_rcs rfl rfl) rfl (s_cl (pc := 0) rw_144_0 rfl (fun l2 => to_in (pc := 1) rw_144_1 rfl (to_in (pc := 2) rw_144_2 rfl (s_any (pc := 3) rw_144_3 (fun _ _ => rfl) (fun v3 => to_c (pc := 4) rw_144_4 (x := (1 : Int32)) rfl rfl (s_any (pc := 5) rw_144_5 (fun _ _ => rfl) (fun v4 => s_anyS (pc := 6) rw_144_6 (fun _ _ => rfl) (fun l5 => ?_))))))))))))
  refine s_cl (pc := 7) rw_144_7 rfl (fun l6 => s_anyL (pc := 8) rw_144_8 (fun _ _ => rfl) (fun l7 => to_in (pc := 9) rw_144_9 rfl (s_anyS (pc := 10) rw_144_10 (fun _ _ => rfl) (fun l8 => to_rl (pc := 11) rw_144_11 (s_anyL (pc := 9) rw_39_9 (fun _ _ => rfl) (fun l9 => s_cl (pc := 10) rw_39_10 rfl (fun l10 => s_lcmp (pc := 11) rw_39_11 (fun v11 => b_ieq (pc := 12) rw_39_12 (A := v11.toInt) rfl (fun h12 => ?_) (fun h12 => ?_)))))))))
  · refine to_c (pc := 23) rw_39_23 (x := (1 : Int32)) rfl rfl (to_go (pc := 24) rw_39_24 (s_r1 (pc := 28) rw_39_28 (A := 1) rfl (by decide) ?_))
    have k_13 : (1 : Int32).toInt = 1 := rfl
    exact h (1 : Int32) M hG F0 (by decide) (by decide)
  · refine to_an (pc := 15) rw_39_15 rfl (to_c (pc := 16) rw_39_16 (x := (3 : Int32)) rfl rfl (s_v (pc := 17) rw_39_17 (dp0 hd (by decide)) (ls0 := [.ref 1, .int (3 : Int32)]) rfl (Nat.le_of_ble_eq_true rfl) (Nat.le_of_ble_eq_true rfl) rfl (to_rc rfl rfl rfl (g_o hG rfl)) rfl (to_an (pc := 0) rw_84_0 rfl (to_in (pc := 1) rw_84_1 rfl (s_pI (pc := 2) rw_84_2 hG rfl (fun M15 W14 => ?_))))))
    have hG16 := g_wf hG W14 rfl rfl (by decide)
    have F17 := FR.w F0 W14 (show 1 = 1 ∧ 5 ≤ 10 ∨ 3 ≤ 1 ∧ 1 ≤ 5 by decide)
    refine to_an (pc := 5) rw_84_5 rfl (to_an (pc := 6) rw_84_6 rfl ?_)
    have c_18 : M15.2.1 1 9 = (M.2.1 1 9) := (W_n W14 (by decide) rfl)
    refine tt_gI (pc := 7) rw_84_7 (g_o hG16 rfl) (v := (M.2.1 1 9)) c_18 (s_pI (pc := 10) rw_84_10 hG16 rfl (fun M20 W19 => ?_))
    have hG21 := g_wf hG16 W19 rfl rfl (by decide)
    have F22 := FR.w F17 W19 (show 1 = 1 ∧ 5 ≤ 11 ∨ 3 ≤ 1 ∧ 1 ≤ 5 by decide)
    refine to_c (pc := 13) rw_84_13 (x := (0 : Int32)) rfl rfl (s_r1 (pc := 14) rw_84_14 (A := 0) rfl (by decide) (b_ieq_t (pc := 20) rw_39_20 (A := 0) rfl (by decide) (to_c (pc := 27) rw_39_27 (x := (0 : Int32)) rfl rfl (s_r1 (pc := 28) rw_39_28 (A := 0) rfl (by decide) ?_))))
    have k_23 : (0 : Int32).toInt = 0 := rfl
    exact h (0 : Int32) M20 hG21 F22 (by decide) (by decide)
set_option maxRecDepth 4000 in
set_option maxHeartbeats 0 in
theorem C_40 {X : mm_X} {d : Nat} {M : mm_M} {Q : Option Value → mm_M → Prop} {p : Nat} {f : Int32} {l : Int32} {c : Int32} (hX : g_X X) (hd : 0 ≤ d) (hG : g_G M) (hp : p = 49 ∨ p = 58) (q1 : 0 ≤ f.toInt) (q2 : f.toInt ≤ 59) (q3 : 0 ≤ l.toInt) (q4 : l.toInt ≤ 63) (q5 : 0 ≤ c.toInt) (q6 : c.toInt ≤ 24) (q7 : f.toInt ≤ l.toInt) (q8 : (M.2.1 p 2).toInt ≤ 7) (q9 : PI M) (h : ∀ (M1 : mm_M), g_G M1 → FR md_pr M M1 → PI M1 → Q (none) M1) : mm_T X d 40 0 [.ref p, .int f, .int l, .int c] [] M Q := by
  have F0 : FR md_pr M M := FR.rf
  have b_1 := g_b hG (a := p) (i := 2) (lo := 0) (hi := 8) (by rcases hp with rfl | rfl <;> rfl) (by rcases hp with rfl | rfl <;> rfl)
  refine to_an (pc := 0) rw_40_0 rfl (s_gR (pc := 1) rw_40_1 hG (by rcases hp with rfl | rfl <;> rfl) (v := (p + 3)) (by rcases hp with rfl | rfl <;> rfl) (to_an (pc := 4) rw_40_4 rfl (tt_gI (pc := 5) rw_40_5 (g_o hG (by rcases hp with rfl | rfl <;> rfl)) (v := (M.2.1 p 2)) rfl (to_in (pc := 8) rw_40_8 rfl (s_ias (pc := 9) rw_40_9 hG (by rcases hp with rfl | rfl <;> rfl) (n := 8) (by rcases hp with rfl | rfl <;> rfl) (A := (M.2.1 p 2).toInt) rfl (by omega) (by omega) (fun M3 W2 => ?_))))))
  have hG4 := g_w hG W2 (A := f.toInt) rfl (lo := 0) (hi := 59) (by rcases hp with rfl | rfl <;> rfl) (by rcases hp with rfl | rfl <;> rfl) (by omega) (by omega)
  have F5 := FR.w F0 W2 (show (p + 3) = 1 ∧ 5 ≤ ((M.2.1 p 2).toInt).toNat ∨ 3 ≤ (p + 3) ∧ (p + 3) ≤ 5 ∨ 50 ≤ (p + 3) ∧ (p + 3) ≤ 57 ∨ 59 ≤ (p + 3) ∧ (p + 3) ≤ 66 by omega)
  refine to_an (pc := 10) rw_40_10 rfl (s_gR (pc := 11) rw_40_11 hG4 (by rcases hp with rfl | rfl <;> rfl) (v := (p + 4)) (by rcases hp with rfl | rfl <;> rfl) (to_an (pc := 14) rw_40_14 rfl ?_))
  have c_6 : M3.2.1 p 2 = (M.2.1 p 2) := (W_n W2 (by omega) rfl)
  refine tt_gI (pc := 15) rw_40_15 (g_o hG4 (by rcases hp with rfl | rfl <;> rfl)) (v := (M.2.1 p 2)) c_6 (to_in (pc := 18) rw_40_18 rfl (s_ias (pc := 19) rw_40_19 hG4 (by rcases hp with rfl | rfl <;> rfl) (n := 8) (by rcases hp with rfl | rfl <;> rfl) (A := (M.2.1 p 2).toInt) rfl (by omega) (by omega) (fun M8 W7 => ?_)))
  have hG9 := g_w hG4 W7 (A := l.toInt) rfl (lo := 0) (hi := 63) (by rcases hp with rfl | rfl <;> rfl) (by rcases hp with rfl | rfl <;> rfl) (by omega) (by omega)
  have F10 := FR.w F5 W7 (show (p + 4) = 1 ∧ 5 ≤ ((M.2.1 p 2).toInt).toNat ∨ 3 ≤ (p + 4) ∧ (p + 4) ≤ 5 ∨ 50 ≤ (p + 4) ∧ (p + 4) ≤ 57 ∨ 59 ≤ (p + 4) ∧ (p + 4) ≤ 66 by omega)
  have j_11 := PI_k q9 hp W2 W7 (by omega)
  refine to_an (pc := 20) rw_40_20 rfl (s_gR (pc := 21) rw_40_21 hG9 (by rcases hp with rfl | rfl <;> rfl) (v := (p + 5)) (by rcases hp with rfl | rfl <;> rfl) (to_an (pc := 24) rw_40_24 rfl ?_))
  have c_12 : M8.2.1 p 2 = (M.2.1 p 2) := (W_n W7 (by omega) c_6)
  refine tt_gI (pc := 25) rw_40_25 (g_o hG9 (by rcases hp with rfl | rfl <;> rfl)) (v := (M.2.1 p 2)) c_12 (to_in (pc := 28) rw_40_28 rfl (s_ias (pc := 29) rw_40_29 hG9 (by rcases hp with rfl | rfl <;> rfl) (n := 8) (by rcases hp with rfl | rfl <;> rfl) (A := (M.2.1 p 2).toInt) rfl (by omega) (by omega) (fun M14 W13 => ?_)))
  have hG15 := g_w hG9 W13 (A := c.toInt) rfl (lo := 0) (hi := 24) (by rcases hp with rfl | rfl <;> rfl) (by rcases hp with rfl | rfl <;> rfl) (by omega) (by omega)
  have F16 := FR.w F10 W13 (show (p + 5) = 1 ∧ 5 ≤ ((M.2.1 p 2).toInt).toNat ∨ 3 ≤ (p + 5) ∧ (p + 5) ≤ 5 ∨ 50 ≤ (p + 5) ∧ (p + 5) ≤ 57 ∨ 59 ≤ (p + 5) ∧ (p + 5) ≤ 66 by omega)
  refine to_rv (pc := 30) rw_40_30 ?_
  have j_17 := (PI_f (fun a i z => W_n W13 (by omega) rfl) j_11)
  exact h M14 hG15 F16 j_17
set_option maxRecDepth 4000 in
set_option maxHeartbeats 0 in
theorem C_36 {X : mm_X} {d : Nat} {M : mm_M} {Q : Option Value → mm_M → Prop} {p : Nat} {w : Int32} (hX : g_X X) (hd : 2 ≤ d) (hG : g_G M) (hp : p = 49 ∨ p = 58) (q1 : 1 ≤ w.toInt) (q2 : w.toInt ≤ 2) (q3 : (M.2.1 p 2).toInt ≤ 7) (q4 : PI M) (h : ∀ (r : Int32) (M1 : mm_M), g_G M1 → FR md_pr M M1 → (0 ≤ r.toInt) → (r.toInt ≤ 1) → PI M1 → Q (some (.int r)) M1) : mm_T X d 36 0 [.ref p, .ref 1, .int w, .null, .null, .null] [] M Q := by
  have F0 : FR md_pr M M := FR.rf
  have b_1 := g_b hG (a := p) (i := 2) (lo := 0) (hi := 8) (by rcases hp with rfl | rfl <;> rfl) (by rcases hp with rfl | rfl <;> rfl)
  refine to_an (pc := 0) rw_36_0 rfl (tt_gI (pc := 1) rw_36_1 (g_o hG rfl) (v := (M.2.1 1 8)) rfl (to_isn (pc := 4) rw_36_4 (ls2 := [.ref p, .ref 1, .int w, .int (M.2.1 1 8), .null, .null]) rfl rfl (to_an (pc := 5) rw_36_5 rfl (to_c (pc := 6) rw_36_6 (x := (0 : Int32)) rfl rfl (to_an (pc := 7) rw_36_7 rfl ?_)))))
  have b_2 := g_b hG (a := p) (i := 0) (lo := 10) (hi := 60) (by rcases hp with rfl | rfl <;> rfl) (by rcases hp with rfl | rfl <;> rfl)
  refine tt_gI (pc := 8) rw_36_8 (g_o hG (by rcases hp with rfl | rfl <;> rfl)) (v := (M.2.1 p 0)) rfl (to_c (pc := 11) rw_36_11 (x := (1 : Int32)) rfl rfl (s_sub (pc := 12) rw_36_12 (A := (M.2.1 p 0).toInt) (B := 1) rfl rfl (by omega) (fun v3 e4 => s_v (pc := 13) rw_36_13 (dp0 hd (by decide)) (ls0 := [.ref 1, .int (0 : Int32), .int v3]) rfl (Nat.le_of_ble_eq_true rfl) (Nat.le_of_ble_eq_true rfl) rfl (to_rc rfl rfl rfl (g_o hG rfl)) rfl (to_an (pc := 0) rw_88_0 rfl (tt_gI (pc := 1) rw_88_1 (g_o hG rfl) (v := (M.2.1 1 7)) rfl (to_c (pc := 4) rw_88_4 (x := (2 : Int32)) rfl rfl (b_ceq (pc := 5) rw_88_5 (A := (M.2.1 1 7).toInt) (B := 2) rfl rfl (fun h5 => ?_) (fun h5 => ?_))))))))
  · refine to_an (pc := 14) rw_88_14 rfl (tt_gI (pc := 15) rw_88_15 (g_o hG rfl) (v := (M.2.1 1 8)) rfl (to_in (pc := 18) rw_88_18 rfl (b_clt (pc := 19) rw_88_19 (A := (M.2.1 1 8).toInt) (B := 0) rfl rfl (fun h6 => ?_) (fun h6 => ?_))))
    · refine to_an (pc := 30) rw_88_30 rfl (to_c (pc := 31) rw_88_31 (x := (2 : Int32)) rfl rfl (s_v (pc := 32) rw_88_32 (dp1 hd (by decide)) (ls0 := [.ref 1, .int (2 : Int32)]) rfl (Nat.le_of_ble_eq_true rfl) (Nat.le_of_ble_eq_true rfl) rfl (to_rc rfl rfl rfl (g_o hG rfl)) rfl (to_an (pc := 0) rw_84_0 rfl (to_in (pc := 1) rw_84_1 rfl (s_pI (pc := 2) rw_84_2 hG rfl (fun M8 W7 => ?_))))))
      have hG9 := g_wf hG W7 rfl rfl (by decide)
      have F10 := FR.w F0 W7 (show 1 = 1 ∧ 5 ≤ 10 ∨ 3 ≤ 1 ∧ 1 ≤ 5 ∨ 50 ≤ 1 ∧ 1 ≤ 57 ∨ 59 ≤ 1 ∧ 1 ≤ 66 by decide)
      refine to_an (pc := 5) rw_84_5 rfl (to_an (pc := 6) rw_84_6 rfl ?_)
      have c_11 : M8.2.1 1 9 = (M.2.1 1 9) := (W_n W7 (by decide) rfl)
      refine tt_gI (pc := 7) rw_84_7 (g_o hG9 rfl) (v := (M.2.1 1 9)) c_11 (s_pI (pc := 10) rw_84_10 hG9 rfl (fun M13 W12 => ?_))
      have hG14 := g_wf hG9 W12 rfl rfl (by decide)
      have F15 := FR.w F10 W12 (show 1 = 1 ∧ 5 ≤ 11 ∨ 3 ≤ 1 ∧ 1 ≤ 5 ∨ 50 ≤ 1 ∧ 1 ≤ 57 ∨ 59 ≤ 1 ∧ 1 ≤ 66 by decide)
      refine to_c (pc := 13) rw_84_13 (x := (0 : Int32)) rfl rfl (s_r1 (pc := 14) rw_84_14 (A := 0) rfl (by decide) (b_ieq_t (pc := 35) rw_88_35 (A := 0) rfl (by decide) (to_c (pc := 42) rw_88_42 (x := (0 : Int32)) rfl rfl (s_r1 (pc := 43) rw_88_43 (A := 0) rfl (by decide) (b_ieq_t (pc := 16) rw_36_16 (A := 0) rfl (by decide) (to_c (pc := 29) rw_36_29 (x := (0 : Int32)) rfl rfl (s_r1 (pc := 30) rw_36_30 (A := 0) rfl (by decide) ?_)))))))
      have k_16 : (0 : Int32).toInt = 0 := rfl
      have j_17 := (PI_f (fun a i z => W_n W12 (by /-r1,11-/ omega) rfl) (PI_f (fun a i z => W_n W7 (by /-r1,10-/ omega) rfl) q4))
      exact h (0 : Int32) M13 hG14 F15 (by decide) (by decide) j_17
    · refine to_an (pc := 22) rw_88_22 rfl (tt_gI (pc := 23) rw_88_23 (g_o hG rfl) (v := (M.2.1 1 8)) rfl (to_in (pc := 26) rw_88_26 rfl (b_cle (pc := 27) rw_88_27 (A := (M.2.1 1 8).toInt) (B := v3.toInt) rfl rfl (fun h18 => ?_) (fun h18 => ?_))))
      · refine to_c (pc := 38) rw_88_38 (x := (1 : Int32)) rfl rfl (to_go (pc := 39) rw_88_39 (s_r1 (pc := 43) rw_88_43 (A := 1) rfl (by decide) (b_ieq_f (pc := 16) rw_36_16 (A := 1) rfl (by decide) (to_an (pc := 19) rw_36_19 rfl (to_an (pc := 20) rw_36_20 rfl (to_in (pc := 21) rw_36_21 rfl (to_in (pc := 22) rw_36_22 rfl (s_v (pc := 23) rw_36_23 (dp0 hd (by decide)) (ls0 := [.ref p, .ref 1, .int (M.2.1 1 8), .int (M.2.1 1 8)]) rfl (Nat.le_of_ble_eq_true rfl) (Nat.le_of_ble_eq_true rfl) rfl (to_rc rfl rfl rfl (g_o hG (by rcases hp with rfl | rfl <;> rfl))) rfl (C_39 hX (dp1 hd (by decide)) hG hp (p := p) (f := (M.2.1 1 8)) (l := (M.2.1 1 8)) (fun r19 M24 hG21 F20 p_22 p_23 => ?_))))))))))
        have F25 := FR.c F0 F20 tg_114
        refine b_ine (pc := 26) rw_36_26 (A := r19.toInt) rfl (fun h26 => ?_) (fun h26 => ?_)
        · refine to_an (pc := 31) rw_36_31 rfl (s_v (pc := 32) rw_36_32 (dp0 hd (by decide)) (ls0 := [.ref 1]) rfl (Nat.le_of_ble_eq_true rfl) (Nat.le_of_ble_eq_true rfl) rfl (to_rc rfl rfl rfl (g_o hG21 rfl)) rfl (C_83 hX (dp1 hd (by decide)) hG21  (fun M29 hG28 F27 => ?_)))
          have F30 := FR.c F25 F27 tg_114
          refine to_an (pc := 35) rw_36_35 rfl (tt_gI (pc := 36) rw_36_36 (g_o hG28 rfl) (v := (M29.2.1 1 8)) rfl (to_is (pc := 39) rw_36_39 (ls2 := [.ref p, .ref 1, .int w, .int (M.2.1 1 8), .int (M29.2.1 1 8), .null]) rfl rfl (to_an (pc := 41) rw_36_41 rfl ?_)))
          have c_31 : M29.2.1 p 0 = (M.2.1 p 0) := (F_n F27 (show ¬ (p = 1 ∧ 5 ≤ 0 ∨ 3 ≤ p ∧ p ≤ 5) by omega) (F_n F20 (show ¬ (p = 1 ∧ 5 ≤ 0 ∨ 3 ≤ p ∧ p ≤ 5) by omega) rfl))
          refine tt_gI (pc := 42) rw_36_42 (g_o hG28 (by rcases hp with rfl | rfl <;> rfl)) (v := (M.2.1 p 0)) c_31 (to_c (pc := 45) rw_36_45 (x := (1 : Int32)) rfl rfl (s_sub (pc := 46) rw_36_46 (A := (M.2.1 p 0).toInt) (B := 1) rfl rfl (by omega) (fun v32 e33 => to_in (pc := 47) rw_36_47 rfl (to_c (pc := 48) rw_36_48 (x := (24 : Int32)) rfl rfl (s_add (pc := 50) rw_36_50 (A := (M.2.1 1 8).toInt) (B := 24) rfl rfl (by omega) (fun v34 e35 => to_c (pc := 51) rw_36_51 (x := (1 : Int32)) rfl rfl (s_sub (pc := 52) rw_36_52 (A := v34.toInt) (B := 1) rfl rfl (by omega) (fun v36 e37 => s_min (pc := 53) rw_36_53 rfl (A := v32.toInt) (B := v36.toInt) rfl rfl (fun v38 _ _ _ => to_is (pc := 56) rw_36_56 (ls2 := [.ref p, .ref 1, .int w, .int (M.2.1 1 8), .int (M29.2.1 1 8), .int v38]) rfl rfl (to_an (pc := 58) rw_36_58 rfl (to_in (pc := 59) rw_36_59 rfl ?_)))))))))))
          refine to_in (pc := 60) rw_36_60 rfl (s_add (pc := 61) rw_36_61 (A := (M.2.1 1 8).toInt) (B := w.toInt) rfl rfl (by omega) (fun v39 e40 => to_c (pc := 62) rw_36_62 (x := (1 : Int32)) rfl rfl (s_sub (pc := 63) rw_36_63 (A := v39.toInt) (B := 1) rfl rfl (by omega) (fun v41 e42 => to_i (pc := 64) rw_36_64 rfl (s_v (pc := 66) rw_36_66 (dp0 hd (by decide)) (ls0 := [.ref 1, .int v41, .int v38]) rfl (Nat.le_of_ble_eq_true rfl) (Nat.le_of_ble_eq_true rfl) rfl (to_rc rfl rfl rfl (g_o hG28 rfl)) rfl (to_an (pc := 0) rw_88_0 rfl (tt_gI (pc := 1) rw_88_1 (g_o hG28 rfl) (v := (M29.2.1 1 7)) rfl (to_c (pc := 4) rw_88_4 (x := (2 : Int32)) rfl rfl (b_ceq (pc := 5) rw_88_5 (A := (M29.2.1 1 7).toInt) (B := 2) rfl rfl (fun h43 => ?_) (fun h43 => ?_))))))))))
          · refine to_an (pc := 14) rw_88_14 rfl (tt_gI (pc := 15) rw_88_15 (g_o hG28 rfl) (v := (M29.2.1 1 8)) rfl (to_in (pc := 18) rw_88_18 rfl (b_clt (pc := 19) rw_88_19 (A := (M29.2.1 1 8).toInt) (B := v41.toInt) rfl rfl (fun h44 => ?_) (fun h44 => ?_))))
            · refine to_an (pc := 30) rw_88_30 rfl (to_c (pc := 31) rw_88_31 (x := (2 : Int32)) rfl rfl (s_v (pc := 32) rw_88_32 (dp1 hd (by decide)) (ls0 := [.ref 1, .int (2 : Int32)]) rfl (Nat.le_of_ble_eq_true rfl) (Nat.le_of_ble_eq_true rfl) rfl (to_rc rfl rfl rfl (g_o hG28 rfl)) rfl (to_an (pc := 0) rw_84_0 rfl (to_in (pc := 1) rw_84_1 rfl (s_pI (pc := 2) rw_84_2 hG28 rfl (fun M46 W45 => ?_))))))
              have hG47 := g_wf hG28 W45 rfl rfl (by decide)
              have F48 := FR.w F30 W45 (show 1 = 1 ∧ 5 ≤ 10 ∨ 3 ≤ 1 ∧ 1 ≤ 5 ∨ 50 ≤ 1 ∧ 1 ≤ 57 ∨ 59 ≤ 1 ∧ 1 ≤ 66 by decide)
              refine to_an (pc := 5) rw_84_5 rfl (to_an (pc := 6) rw_84_6 rfl ?_)
              have c_49 : M46.2.1 1 9 = (M29.2.1 1 9) := (W_n W45 (by decide) rfl)
              refine tt_gI (pc := 7) rw_84_7 (g_o hG47 rfl) (v := (M29.2.1 1 9)) c_49 (s_pI (pc := 10) rw_84_10 hG47 rfl (fun M51 W50 => ?_))
              have hG52 := g_wf hG47 W50 rfl rfl (by decide)
              have F53 := FR.w F48 W50 (show 1 = 1 ∧ 5 ≤ 11 ∨ 3 ≤ 1 ∧ 1 ≤ 5 ∨ 50 ≤ 1 ∧ 1 ≤ 57 ∨ 59 ≤ 1 ∧ 1 ≤ 66 by decide)
              refine to_c (pc := 13) rw_84_13 (x := (0 : Int32)) rfl rfl (s_r1 (pc := 14) rw_84_14 (A := 0) rfl (by decide) (b_ieq_t (pc := 35) rw_88_35 (A := 0) rfl (by decide) (to_c (pc := 42) rw_88_42 (x := (0 : Int32)) rfl rfl (s_r1 (pc := 43) rw_88_43 (A := 0) rfl (by decide) (b_ieq_t (pc := 69) rw_36_69 (A := 0) rfl (by decide) (to_c (pc := 83) rw_36_83 (x := (0 : Int32)) rfl rfl (s_r1 (pc := 84) rw_36_84 (A := 0) rfl (by decide) ?_)))))))
              have k_54 : (0 : Int32).toInt = 0 := rfl
              have j_55 := (PI_f (fun a i z => W_n W50 (by /-r1,11-/ omega) rfl) (PI_f (fun a i z => W_n W45 (by /-r1,10-/ omega) rfl) (PI_f (tg_112 F27) (PI_f (tg_112 F20) q4))))
              exact h (0 : Int32) M51 hG52 F53 (by decide) (by decide) j_55
            · refine to_an (pc := 22) rw_88_22 rfl (tt_gI (pc := 23) rw_88_23 (g_o hG28 rfl) (v := (M29.2.1 1 8)) rfl (to_in (pc := 26) rw_88_26 rfl (b_cle (pc := 27) rw_88_27 (A := (M29.2.1 1 8).toInt) (B := v38.toInt) rfl rfl (fun h56 => ?_) (fun h56 => ?_))))
              · refine to_c (pc := 38) rw_88_38 (x := (1 : Int32)) rfl rfl (to_go (pc := 39) rw_88_39 (s_r1 (pc := 43) rw_88_43 (A := 1) rfl (by decide) (b_ieq_f (pc := 69) rw_36_69 (A := 1) rfl (by decide) (to_an (pc := 72) rw_36_72 rfl (to_an (pc := 73) rw_36_73 rfl (to_in (pc := 74) rw_36_74 rfl (to_i (pc := 75) rw_36_75 rfl (s_v (pc := 77) rw_36_77 (dp0 hd (by decide)) (ls0 := [.ref p, .ref 1, .int (M.2.1 1 8), .int (M29.2.1 1 8)]) rfl (Nat.le_of_ble_eq_true rfl) (Nat.le_of_ble_eq_true rfl) rfl (to_rc rfl rfl rfl (g_o hG28 (by rcases hp with rfl | rfl <;> rfl))) rfl (C_39 hX (dp1 hd (by decide)) hG28 hp (p := p) (f := (M.2.1 1 8)) (l := (M29.2.1 1 8)) (fun r57 M62 hG59 F58 p_60 p_61 => ?_))))))))))
                have F63 := FR.c F30 F58 tg_114
                refine b_ine (pc := 80) rw_36_80 (A := r57.toInt) rfl (fun h64 => ?_) (fun h64 => ?_)
                · refine to_an (pc := 85) rw_36_85 rfl (s_v (pc := 86) rw_36_86 (dp0 hd (by decide)) (ls0 := [.ref 1]) rfl (Nat.le_of_ble_eq_true rfl) (Nat.le_of_ble_eq_true rfl) rfl (to_rc rfl rfl rfl (g_o hG59 rfl)) rfl (C_83 hX (dp1 hd (by decide)) hG59  (fun M67 hG66 F65 => ?_)))
                  have F68 := FR.c F63 F65 tg_114
                  refine to_an (pc := 89) rw_36_89 rfl (to_in (pc := 90) rw_36_90 rfl (to_i (pc := 91) rw_36_91 rfl (to_i (pc := 93) rw_36_93 rfl (to_in (pc := 95) rw_36_95 rfl (s_sub (pc := 96) rw_36_96 (A := (M29.2.1 1 8).toInt) (B := (M.2.1 1 8).toInt) rfl rfl (by omega) (fun v69 e70 => to_c (pc := 97) rw_36_97 (x := (1 : Int32)) rfl rfl (s_add (pc := 98) rw_36_98 (A := v69.toInt) (B := 1) rfl rfl (by omega) (fun v71 e72 => s_v (pc := 99) rw_36_99 (dp0 hd (by decide)) (ls0 := [.ref p, .int (M.2.1 1 8), .int (M29.2.1 1 8), .int v71]) rfl (Nat.le_of_ble_eq_true rfl) (Nat.le_of_ble_eq_true rfl) rfl (to_rc rfl rfl rfl (g_o hG66 (by rcases hp with rfl | rfl <;> rfl))) rfl ?_))))))))
                  have c_73 : M67.2.1 p 2 = (M.2.1 p 2) := (F_n F65 (show ¬ (p = 1 ∧ 5 ≤ 2 ∨ 3 ≤ p ∧ p ≤ 5) by omega) (F_n F58 (show ¬ (p = 1 ∧ 5 ≤ 2 ∨ 3 ≤ p ∧ p ≤ 5) by omega) (F_n F27 (show ¬ (p = 1 ∧ 5 ≤ 2 ∨ 3 ≤ p ∧ p ≤ 5) by omega) (F_n F20 (show ¬ (p = 1 ∧ 5 ≤ 2 ∨ 3 ≤ p ∧ p ≤ 5) by omega) rfl))))
                  have t_74 : (M67.2.1 p 2).toInt = (M.2.1 p 2).toInt := congrArg Int32.toInt c_73
                  have j_75 := (PI_f (tg_112 F65) (PI_f (tg_112 F58) (PI_f (tg_112 F27) (PI_f (tg_112 F20) q4))))
                  refine C_40 hX (dp1 hd (by decide)) hG66 hp (by omega) (by omega) (by omega) (by omega) (by omega) (by omega) (by omega) (by omega) j_75 (p := p) (f := (M.2.1 1 8)) (l := (M29.2.1 1 8)) (c := v71) (fun M79 hG77 F76 p_78 => ?_)
                  have F80 := FR.c F68 F76 tg_115
                  refine to_c (pc := 102) rw_36_102 (x := (1 : Int32)) rfl rfl (s_r1 (pc := 103) rw_36_103 (A := 1) rfl (by decide) ?_)
                  have k_81 : (1 : Int32).toInt = 1 := rfl
                  exact h (1 : Int32) M79 hG77 F80 (by decide) (by decide) p_78
                · refine to_c (pc := 83) rw_36_83 (x := (0 : Int32)) rfl rfl (s_r1 (pc := 84) rw_36_84 (A := 0) rfl (by decide) ?_)
                  have k_82 : (0 : Int32).toInt = 0 := rfl
                  have j_83 := (PI_f (tg_112 F58) (PI_f (tg_112 F27) (PI_f (tg_112 F20) q4)))
                  exact h (0 : Int32) M62 hG59 F63 (by decide) (by decide) j_83
              · refine to_an (pc := 30) rw_88_30 rfl (to_c (pc := 31) rw_88_31 (x := (2 : Int32)) rfl rfl (s_v (pc := 32) rw_88_32 (dp1 hd (by decide)) (ls0 := [.ref 1, .int (2 : Int32)]) rfl (Nat.le_of_ble_eq_true rfl) (Nat.le_of_ble_eq_true rfl) rfl (to_rc rfl rfl rfl (g_o hG28 rfl)) rfl (to_an (pc := 0) rw_84_0 rfl (to_in (pc := 1) rw_84_1 rfl (s_pI (pc := 2) rw_84_2 hG28 rfl (fun M85 W84 => ?_))))))
                have hG86 := g_wf hG28 W84 rfl rfl (by decide)
                have F87 := FR.w F30 W84 (show 1 = 1 ∧ 5 ≤ 10 ∨ 3 ≤ 1 ∧ 1 ≤ 5 ∨ 50 ≤ 1 ∧ 1 ≤ 57 ∨ 59 ≤ 1 ∧ 1 ≤ 66 by decide)
                refine to_an (pc := 5) rw_84_5 rfl (to_an (pc := 6) rw_84_6 rfl ?_)
                have c_88 : M85.2.1 1 9 = (M29.2.1 1 9) := (W_n W84 (by decide) rfl)
                refine tt_gI (pc := 7) rw_84_7 (g_o hG86 rfl) (v := (M29.2.1 1 9)) c_88 (s_pI (pc := 10) rw_84_10 hG86 rfl (fun M90 W89 => ?_))
                have hG91 := g_wf hG86 W89 rfl rfl (by decide)
                have F92 := FR.w F87 W89 (show 1 = 1 ∧ 5 ≤ 11 ∨ 3 ≤ 1 ∧ 1 ≤ 5 ∨ 50 ≤ 1 ∧ 1 ≤ 57 ∨ 59 ≤ 1 ∧ 1 ≤ 66 by decide)
                refine to_c (pc := 13) rw_84_13 (x := (0 : Int32)) rfl rfl (s_r1 (pc := 14) rw_84_14 (A := 0) rfl (by decide) (b_ieq_t (pc := 35) rw_88_35 (A := 0) rfl (by decide) (to_c (pc := 42) rw_88_42 (x := (0 : Int32)) rfl rfl (s_r1 (pc := 43) rw_88_43 (A := 0) rfl (by decide) (b_ieq_t (pc := 69) rw_36_69 (A := 0) rfl (by decide) (to_c (pc := 83) rw_36_83 (x := (0 : Int32)) rfl rfl (s_r1 (pc := 84) rw_36_84 (A := 0) rfl (by decide) ?_)))))))
                have k_93 : (0 : Int32).toInt = 0 := rfl
                have j_94 := (PI_f (fun a i z => W_n W89 (by /-r1,11-/ omega) rfl) (PI_f (fun a i z => W_n W84 (by /-r1,10-/ omega) rfl) (PI_f (tg_112 F27) (PI_f (tg_112 F20) q4))))
                exact h (0 : Int32) M90 hG91 F92 (by decide) (by decide) j_94
          · refine to_an (pc := 8) rw_88_8 rfl (to_c (pc := 9) rw_88_9 (x := (1 : Int32)) rfl rfl (s_v (pc := 10) rw_88_10 (dp1 hd (by decide)) (ls0 := [.ref 1, .int (1 : Int32)]) rfl (Nat.le_of_ble_eq_true rfl) (Nat.le_of_ble_eq_true rfl) rfl (to_rc rfl rfl rfl (g_o hG28 rfl)) rfl (to_an (pc := 0) rw_84_0 rfl (to_in (pc := 1) rw_84_1 rfl (s_pI (pc := 2) rw_84_2 hG28 rfl (fun M96 W95 => ?_))))))
            have hG97 := g_wf hG28 W95 rfl rfl (by decide)
            have F98 := FR.w F30 W95 (show 1 = 1 ∧ 5 ≤ 10 ∨ 3 ≤ 1 ∧ 1 ≤ 5 ∨ 50 ≤ 1 ∧ 1 ≤ 57 ∨ 59 ≤ 1 ∧ 1 ≤ 66 by decide)
            refine to_an (pc := 5) rw_84_5 rfl (to_an (pc := 6) rw_84_6 rfl ?_)
            have c_99 : M96.2.1 1 9 = (M29.2.1 1 9) := (W_n W95 (by decide) rfl)
            refine tt_gI (pc := 7) rw_84_7 (g_o hG97 rfl) (v := (M29.2.1 1 9)) c_99 (s_pI (pc := 10) rw_84_10 hG97 rfl (fun M101 W100 => ?_))
            have hG102 := g_wf hG97 W100 rfl rfl (by decide)
            have F103 := FR.w F98 W100 (show 1 = 1 ∧ 5 ≤ 11 ∨ 3 ≤ 1 ∧ 1 ≤ 5 ∨ 50 ≤ 1 ∧ 1 ≤ 57 ∨ 59 ≤ 1 ∧ 1 ≤ 66 by decide)
            refine to_c (pc := 13) rw_84_13 (x := (0 : Int32)) rfl rfl (s_r1 (pc := 14) rw_84_14 (A := 0) rfl (by decide) (s_r1 (pc := 13) rw_88_13 (A := 0) rfl (by decide) (b_ieq_t (pc := 69) rw_36_69 (A := 0) rfl (by decide) (to_c (pc := 83) rw_36_83 (x := (0 : Int32)) rfl rfl (s_r1 (pc := 84) rw_36_84 (A := 0) rfl (by decide) ?_)))))
            have k_104 : (0 : Int32).toInt = 0 := rfl
            have j_105 := (PI_f (fun a i z => W_n W100 (by /-r1,11-/ omega) rfl) (PI_f (fun a i z => W_n W95 (by /-r1,10-/ omega) rfl) (PI_f (tg_112 F27) (PI_f (tg_112 F20) q4))))
            exact h (0 : Int32) M101 hG102 F103 (by decide) (by decide) j_105
        · refine to_c (pc := 29) rw_36_29 (x := (0 : Int32)) rfl rfl (s_r1 (pc := 30) rw_36_30 (A := 0) rfl (by decide) ?_)
          have k_106 : (0 : Int32).toInt = 0 := rfl
          have j_107 := (PI_f (tg_112 F20) q4)
          exact h (0 : Int32) M24 hG21 F25 (by decide) (by decide) j_107
      · refine to_an (pc := 30) rw_88_30 rfl (to_c (pc := 31) rw_88_31 (x := (2 : Int32)) rfl rfl (s_v (pc := 32) rw_88_32 (dp1 hd (by decide)) (ls0 := [.ref 1, .int (2 : Int32)]) rfl (Nat.le_of_ble_eq_true rfl) (Nat.le_of_ble_eq_true rfl) rfl (to_rc rfl rfl rfl (g_o hG rfl)) rfl (to_an (pc := 0) rw_84_0 rfl (to_in (pc := 1) rw_84_1 rfl (s_pI (pc := 2) rw_84_2 hG rfl (fun M109 W108 => ?_))))))
        have hG110 := g_wf hG W108 rfl rfl (by decide)
        have F111 := FR.w F0 W108 (show 1 = 1 ∧ 5 ≤ 10 ∨ 3 ≤ 1 ∧ 1 ≤ 5 ∨ 50 ≤ 1 ∧ 1 ≤ 57 ∨ 59 ≤ 1 ∧ 1 ≤ 66 by decide)
        refine to_an (pc := 5) rw_84_5 rfl (to_an (pc := 6) rw_84_6 rfl ?_)
        have c_112 : M109.2.1 1 9 = (M.2.1 1 9) := (W_n W108 (by decide) rfl)
        refine tt_gI (pc := 7) rw_84_7 (g_o hG110 rfl) (v := (M.2.1 1 9)) c_112 (s_pI (pc := 10) rw_84_10 hG110 rfl (fun M114 W113 => ?_))
        have hG115 := g_wf hG110 W113 rfl rfl (by decide)
        have F116 := FR.w F111 W113 (show 1 = 1 ∧ 5 ≤ 11 ∨ 3 ≤ 1 ∧ 1 ≤ 5 ∨ 50 ≤ 1 ∧ 1 ≤ 57 ∨ 59 ≤ 1 ∧ 1 ≤ 66 by decide)
        refine to_c (pc := 13) rw_84_13 (x := (0 : Int32)) rfl rfl (s_r1 (pc := 14) rw_84_14 (A := 0) rfl (by decide) (b_ieq_t (pc := 35) rw_88_35 (A := 0) rfl (by decide) (to_c (pc := 42) rw_88_42 (x := (0 : Int32)) rfl rfl (s_r1 (pc := 43) rw_88_43 (A := 0) rfl (by decide) (b_ieq_t (pc := 16) rw_36_16 (A := 0) rfl (by decide) (to_c (pc := 29) rw_36_29 (x := (0 : Int32)) rfl rfl (s_r1 (pc := 30) rw_36_30 (A := 0) rfl (by decide) ?_)))))))
        have k_117 : (0 : Int32).toInt = 0 := rfl
        have j_118 := (PI_f (fun a i z => W_n W113 (by /-r1,11-/ omega) rfl) (PI_f (fun a i z => W_n W108 (by /-r1,10-/ omega) rfl) q4))
        exact h (0 : Int32) M114 hG115 F116 (by decide) (by decide) j_118
  · refine to_an (pc := 8) rw_88_8 rfl (to_c (pc := 9) rw_88_9 (x := (1 : Int32)) rfl rfl (s_v (pc := 10) rw_88_10 (dp1 hd (by decide)) (ls0 := [.ref 1, .int (1 : Int32)]) rfl (Nat.le_of_ble_eq_true rfl) (Nat.le_of_ble_eq_true rfl) rfl (to_rc rfl rfl rfl (g_o hG rfl)) rfl (to_an (pc := 0) rw_84_0 rfl (to_in (pc := 1) rw_84_1 rfl (s_pI (pc := 2) rw_84_2 hG rfl (fun M120 W119 => ?_))))))
    have hG121 := g_wf hG W119 rfl rfl (by decide)
    have F122 := FR.w F0 W119 (show 1 = 1 ∧ 5 ≤ 10 ∨ 3 ≤ 1 ∧ 1 ≤ 5 ∨ 50 ≤ 1 ∧ 1 ≤ 57 ∨ 59 ≤ 1 ∧ 1 ≤ 66 by decide)
    refine to_an (pc := 5) rw_84_5 rfl (to_an (pc := 6) rw_84_6 rfl ?_)
    have c_123 : M120.2.1 1 9 = (M.2.1 1 9) := (W_n W119 (by decide) rfl)
    refine tt_gI (pc := 7) rw_84_7 (g_o hG121 rfl) (v := (M.2.1 1 9)) c_123 (s_pI (pc := 10) rw_84_10 hG121 rfl (fun M125 W124 => ?_))
    have hG126 := g_wf hG121 W124 rfl rfl (by decide)
    have F127 := FR.w F122 W124 (show 1 = 1 ∧ 5 ≤ 11 ∨ 3 ≤ 1 ∧ 1 ≤ 5 ∨ 50 ≤ 1 ∧ 1 ≤ 57 ∨ 59 ≤ 1 ∧ 1 ≤ 66 by decide)
    refine to_c (pc := 13) rw_84_13 (x := (0 : Int32)) rfl rfl (s_r1 (pc := 14) rw_84_14 (A := 0) rfl (by decide) (s_r1 (pc := 13) rw_88_13 (A := 0) rfl (by decide) (b_ieq_t (pc := 16) rw_36_16 (A := 0) rfl (by decide) (to_c (pc := 29) rw_36_29 (x := (0 : Int32)) rfl rfl (s_r1 (pc := 30) rw_36_30 (A := 0) rfl (by decide) ?_)))))
    have k_128 : (0 : Int32).toInt = 0 := rfl
    have j_129 := (PI_f (fun a i z => W_n W124 (by /-r1,11-/ omega) rfl) (PI_f (fun a i z => W_n W119 (by /-r1,10-/ omega) rfl) q4))
    exact h (0 : Int32) M125 hG126 F127 (by decide) (by decide) j_129
set_option maxRecDepth 4000 in
set_option maxHeartbeats 0 in
theorem C_37 {X : mm_X} {d : Nat} {M : mm_M} {Q : Option Value → mm_M → Prop} {p : Nat} {w : Int32} (hX : g_X X) (hd : 2 ≤ d) (hG : g_G M) (hp : p = 49 ∨ p = 58) (q1 : 4 ≤ w.toInt) (q2 : w.toInt ≤ 5) (q3 : (M.2.1 p 2).toInt ≤ 7) (q4 : PI M) (h : ∀ (r : Int32) (M1 : mm_M), g_G M1 → FR md_pr M M1 → (0 ≤ r.toInt) → (r.toInt ≤ 1) → PI M1 → Q (some (.int r)) M1) : mm_T X d 37 0 [.ref p, .ref 1, .int w, .null, .null] [] M Q := by
  have F0 : FR md_pr M M := FR.rf
  have b_1 := g_b hG (a := p) (i := 2) (lo := 0) (hi := 8) (by rcases hp with rfl | rfl <;> rfl) (by rcases hp with rfl | rfl <;> rfl)
  refine to_an (pc := 0) rw_37_0 rfl (tt_gI (pc := 1) rw_37_1 (g_o hG rfl) (v := (M.2.1 1 8)) rfl (to_isn (pc := 4) rw_37_4 (ls2 := [.ref p, .ref 1, .int w, .int (M.2.1 1 8), .null]) rfl rfl (to_in (pc := 5) rw_37_5 rfl (to_in (pc := 6) rw_37_6 rfl (s_addo (pc := 7) rw_37_7 (A := (M.2.1 1 8).toInt) (B := w.toInt) rfl rfl (fun v2 e3 => to_c (pc := 8) rw_37_8 (x := (1 : Int32)) rfl rfl (s_subo (pc := 9) rw_37_9 (A := v2.toInt) (B := 1) rfl rfl (fun v4 e5 => to_is (pc := 10) rw_37_10 (ls2 := [.ref p, .ref 1, .int w, .int (M.2.1 1 8), .int v4]) rfl rfl (to_an (pc := 12) rw_37_12 rfl (to_c (pc := 13) rw_37_13 (x := (0 : Int32)) rfl rfl (to_an (pc := 14) rw_37_14 rfl ?_)))))))))))
  have b_6 := g_b hG (a := p) (i := 0) (lo := 10) (hi := 60) (by rcases hp with rfl | rfl <;> rfl) (by rcases hp with rfl | rfl <;> rfl)
  refine tt_gI (pc := 15) rw_37_15 (g_o hG (by rcases hp with rfl | rfl <;> rfl)) (v := (M.2.1 p 0)) rfl (to_in (pc := 18) rw_37_18 rfl (s_sub (pc := 19) rw_37_19 (A := (M.2.1 p 0).toInt) (B := w.toInt) rfl rfl (by omega) (fun v7 e8 => s_v (pc := 20) rw_37_20 (dp0 hd (by decide)) (ls0 := [.ref 1, .int (0 : Int32), .int v7]) rfl (Nat.le_of_ble_eq_true rfl) (Nat.le_of_ble_eq_true rfl) rfl (to_rc rfl rfl rfl (g_o hG rfl)) rfl (to_an (pc := 0) rw_88_0 rfl (tt_gI (pc := 1) rw_88_1 (g_o hG rfl) (v := (M.2.1 1 7)) rfl (to_c (pc := 4) rw_88_4 (x := (2 : Int32)) rfl rfl (b_ceq (pc := 5) rw_88_5 (A := (M.2.1 1 7).toInt) (B := 2) rfl rfl (fun h9 => ?_) (fun h9 => ?_))))))))
  · refine to_an (pc := 14) rw_88_14 rfl (tt_gI (pc := 15) rw_88_15 (g_o hG rfl) (v := (M.2.1 1 8)) rfl (to_in (pc := 18) rw_88_18 rfl (b_clt (pc := 19) rw_88_19 (A := (M.2.1 1 8).toInt) (B := 0) rfl rfl (fun h10 => ?_) (fun h10 => ?_))))
    · refine to_an (pc := 30) rw_88_30 rfl (to_c (pc := 31) rw_88_31 (x := (2 : Int32)) rfl rfl (s_v (pc := 32) rw_88_32 (dp1 hd (by decide)) (ls0 := [.ref 1, .int (2 : Int32)]) rfl (Nat.le_of_ble_eq_true rfl) (Nat.le_of_ble_eq_true rfl) rfl (to_rc rfl rfl rfl (g_o hG rfl)) rfl (to_an (pc := 0) rw_84_0 rfl (to_in (pc := 1) rw_84_1 rfl (s_pI (pc := 2) rw_84_2 hG rfl (fun M12 W11 => ?_))))))
      have hG13 := g_wf hG W11 rfl rfl (by decide)
      have F14 := FR.w F0 W11 (show 1 = 1 ∧ 5 ≤ 10 ∨ 3 ≤ 1 ∧ 1 ≤ 5 ∨ 50 ≤ 1 ∧ 1 ≤ 57 ∨ 59 ≤ 1 ∧ 1 ≤ 66 by decide)
      refine to_an (pc := 5) rw_84_5 rfl (to_an (pc := 6) rw_84_6 rfl ?_)
      have c_15 : M12.2.1 1 9 = (M.2.1 1 9) := (W_n W11 (by decide) rfl)
      refine tt_gI (pc := 7) rw_84_7 (g_o hG13 rfl) (v := (M.2.1 1 9)) c_15 (s_pI (pc := 10) rw_84_10 hG13 rfl (fun M17 W16 => ?_))
      have hG18 := g_wf hG13 W16 rfl rfl (by decide)
      have F19 := FR.w F14 W16 (show 1 = 1 ∧ 5 ≤ 11 ∨ 3 ≤ 1 ∧ 1 ≤ 5 ∨ 50 ≤ 1 ∧ 1 ≤ 57 ∨ 59 ≤ 1 ∧ 1 ≤ 66 by decide)
      refine to_c (pc := 13) rw_84_13 (x := (0 : Int32)) rfl rfl (s_r1 (pc := 14) rw_84_14 (A := 0) rfl (by decide) (b_ieq_t (pc := 35) rw_88_35 (A := 0) rfl (by decide) (to_c (pc := 42) rw_88_42 (x := (0 : Int32)) rfl rfl (s_r1 (pc := 43) rw_88_43 (A := 0) rfl (by decide) (b_ieq_t (pc := 23) rw_37_23 (A := 0) rfl (by decide) (to_c (pc := 37) rw_37_37 (x := (0 : Int32)) rfl rfl (s_r1 (pc := 38) rw_37_38 (A := 0) rfl (by decide) ?_)))))))
      have k_20 : (0 : Int32).toInt = 0 := rfl
      have j_21 := (PI_f (fun a i z => W_n W16 (by /-r1,11-/ omega) rfl) (PI_f (fun a i z => W_n W11 (by /-r1,10-/ omega) rfl) q4))
      exact h (0 : Int32) M17 hG18 F19 (by decide) (by decide) j_21
    · refine to_an (pc := 22) rw_88_22 rfl (tt_gI (pc := 23) rw_88_23 (g_o hG rfl) (v := (M.2.1 1 8)) rfl (to_in (pc := 26) rw_88_26 rfl (b_cle (pc := 27) rw_88_27 (A := (M.2.1 1 8).toInt) (B := v7.toInt) rfl rfl (fun h22 => ?_) (fun h22 => ?_))))
      · refine to_c (pc := 38) rw_88_38 (x := (1 : Int32)) rfl rfl (to_go (pc := 39) rw_88_39 (s_r1 (pc := 43) rw_88_43 (A := 1) rfl (by decide) (b_ieq_f (pc := 23) rw_37_23 (A := 1) rfl (by decide) (to_an (pc := 26) rw_37_26 rfl (to_an (pc := 27) rw_37_27 rfl (to_in (pc := 28) rw_37_28 rfl (to_i (pc := 29) rw_37_29 rfl (s_v (pc := 31) rw_37_31 (dp0 hd (by decide)) (ls0 := [.ref p, .ref 1, .int (M.2.1 1 8), .int v4]) rfl (Nat.le_of_ble_eq_true rfl) (Nat.le_of_ble_eq_true rfl) rfl (to_rc rfl rfl rfl (g_o hG (by rcases hp with rfl | rfl <;> rfl))) rfl (C_39 hX (dp1 hd (by decide)) hG hp (p := p) (f := (M.2.1 1 8)) (l := v4) (fun r23 M28 hG25 F24 p_26 p_27 => ?_))))))))))
        have F29 := FR.c F0 F24 tg_114
        refine b_ine (pc := 34) rw_37_34 (A := r23.toInt) rfl (fun h30 => ?_) (fun h30 => ?_)
        · refine to_an (pc := 39) rw_37_39 rfl (s_v (pc := 40) rw_37_40 (dp0 hd (by decide)) (ls0 := [.ref 1]) rfl (Nat.le_of_ble_eq_true rfl) (Nat.le_of_ble_eq_true rfl) rfl (to_rc rfl rfl rfl (g_o hG25 rfl)) rfl (C_83 hX (dp1 hd (by decide)) hG25  (fun M33 hG32 F31 => ?_)))
          have F34 := FR.c F29 F31 tg_114
          refine to_an (pc := 43) rw_37_43 rfl (to_in (pc := 44) rw_37_44 rfl (to_i (pc := 45) rw_37_45 rfl (to_c (pc := 47) rw_37_47 (x := (10 : Int32)) rfl rfl (s_v (pc := 49) rw_37_49 (dp0 hd (by decide)) (ls0 := [.ref p, .int (M.2.1 1 8), .int v4, .int (10 : Int32)]) rfl (Nat.le_of_ble_eq_true rfl) (Nat.le_of_ble_eq_true rfl) rfl (to_rc rfl rfl rfl (g_o hG32 (by rcases hp with rfl | rfl <;> rfl))) rfl ?_))))
          have k_35 : (10 : Int32).toInt = 10 := rfl
          have c_36 : M33.2.1 p 2 = (M.2.1 p 2) := (F_n F31 (show ¬ (p = 1 ∧ 5 ≤ 2 ∨ 3 ≤ p ∧ p ≤ 5) by omega) (F_n F24 (show ¬ (p = 1 ∧ 5 ≤ 2 ∨ 3 ≤ p ∧ p ≤ 5) by omega) rfl))
          have t_37 : (M33.2.1 p 2).toInt = (M.2.1 p 2).toInt := congrArg Int32.toInt c_36
          have j_38 := (PI_f (tg_112 F31) (PI_f (tg_112 F24) q4))
          refine C_40 hX (dp1 hd (by decide)) hG32 hp (by omega) (by omega) (by omega) (by omega) (by omega) (by omega) (by omega) (by omega) j_38 (p := p) (f := (M.2.1 1 8)) (l := v4) (c := (10 : Int32)) (fun M42 hG40 F39 p_41 => ?_)
          have F43 := FR.c F34 F39 tg_115
          refine to_c (pc := 52) rw_37_52 (x := (1 : Int32)) rfl rfl (s_r1 (pc := 53) rw_37_53 (A := 1) rfl (by decide) ?_)
          have k_44 : (1 : Int32).toInt = 1 := rfl
          exact h (1 : Int32) M42 hG40 F43 (by decide) (by decide) p_41
        · refine to_c (pc := 37) rw_37_37 (x := (0 : Int32)) rfl rfl (s_r1 (pc := 38) rw_37_38 (A := 0) rfl (by decide) ?_)
          have k_45 : (0 : Int32).toInt = 0 := rfl
          have j_46 := (PI_f (tg_112 F24) q4)
          exact h (0 : Int32) M28 hG25 F29 (by decide) (by decide) j_46
      · refine to_an (pc := 30) rw_88_30 rfl (to_c (pc := 31) rw_88_31 (x := (2 : Int32)) rfl rfl (s_v (pc := 32) rw_88_32 (dp1 hd (by decide)) (ls0 := [.ref 1, .int (2 : Int32)]) rfl (Nat.le_of_ble_eq_true rfl) (Nat.le_of_ble_eq_true rfl) rfl (to_rc rfl rfl rfl (g_o hG rfl)) rfl (to_an (pc := 0) rw_84_0 rfl (to_in (pc := 1) rw_84_1 rfl (s_pI (pc := 2) rw_84_2 hG rfl (fun M48 W47 => ?_))))))
        have hG49 := g_wf hG W47 rfl rfl (by decide)
        have F50 := FR.w F0 W47 (show 1 = 1 ∧ 5 ≤ 10 ∨ 3 ≤ 1 ∧ 1 ≤ 5 ∨ 50 ≤ 1 ∧ 1 ≤ 57 ∨ 59 ≤ 1 ∧ 1 ≤ 66 by decide)
        refine to_an (pc := 5) rw_84_5 rfl (to_an (pc := 6) rw_84_6 rfl ?_)
        have c_51 : M48.2.1 1 9 = (M.2.1 1 9) := (W_n W47 (by decide) rfl)
        refine tt_gI (pc := 7) rw_84_7 (g_o hG49 rfl) (v := (M.2.1 1 9)) c_51 (s_pI (pc := 10) rw_84_10 hG49 rfl (fun M53 W52 => ?_))
        have hG54 := g_wf hG49 W52 rfl rfl (by decide)
        have F55 := FR.w F50 W52 (show 1 = 1 ∧ 5 ≤ 11 ∨ 3 ≤ 1 ∧ 1 ≤ 5 ∨ 50 ≤ 1 ∧ 1 ≤ 57 ∨ 59 ≤ 1 ∧ 1 ≤ 66 by decide)
        refine to_c (pc := 13) rw_84_13 (x := (0 : Int32)) rfl rfl (s_r1 (pc := 14) rw_84_14 (A := 0) rfl (by decide) (b_ieq_t (pc := 35) rw_88_35 (A := 0) rfl (by decide) (to_c (pc := 42) rw_88_42 (x := (0 : Int32)) rfl rfl (s_r1 (pc := 43) rw_88_43 (A := 0) rfl (by decide) (b_ieq_t (pc := 23) rw_37_23 (A := 0) rfl (by decide) (to_c (pc := 37) rw_37_37 (x := (0 : Int32)) rfl rfl (s_r1 (pc := 38) rw_37_38 (A := 0) rfl (by decide) ?_)))))))
        have k_56 : (0 : Int32).toInt = 0 := rfl
        have j_57 := (PI_f (fun a i z => W_n W52 (by /-r1,11-/ omega) rfl) (PI_f (fun a i z => W_n W47 (by /-r1,10-/ omega) rfl) q4))
        exact h (0 : Int32) M53 hG54 F55 (by decide) (by decide) j_57
  · refine to_an (pc := 8) rw_88_8 rfl (to_c (pc := 9) rw_88_9 (x := (1 : Int32)) rfl rfl (s_v (pc := 10) rw_88_10 (dp1 hd (by decide)) (ls0 := [.ref 1, .int (1 : Int32)]) rfl (Nat.le_of_ble_eq_true rfl) (Nat.le_of_ble_eq_true rfl) rfl (to_rc rfl rfl rfl (g_o hG rfl)) rfl (to_an (pc := 0) rw_84_0 rfl (to_in (pc := 1) rw_84_1 rfl (s_pI (pc := 2) rw_84_2 hG rfl (fun M59 W58 => ?_))))))
    have hG60 := g_wf hG W58 rfl rfl (by decide)
    have F61 := FR.w F0 W58 (show 1 = 1 ∧ 5 ≤ 10 ∨ 3 ≤ 1 ∧ 1 ≤ 5 ∨ 50 ≤ 1 ∧ 1 ≤ 57 ∨ 59 ≤ 1 ∧ 1 ≤ 66 by decide)
    refine to_an (pc := 5) rw_84_5 rfl (to_an (pc := 6) rw_84_6 rfl ?_)
    have c_62 : M59.2.1 1 9 = (M.2.1 1 9) := (W_n W58 (by decide) rfl)
    refine tt_gI (pc := 7) rw_84_7 (g_o hG60 rfl) (v := (M.2.1 1 9)) c_62 (s_pI (pc := 10) rw_84_10 hG60 rfl (fun M64 W63 => ?_))
    have hG65 := g_wf hG60 W63 rfl rfl (by decide)
    have F66 := FR.w F61 W63 (show 1 = 1 ∧ 5 ≤ 11 ∨ 3 ≤ 1 ∧ 1 ≤ 5 ∨ 50 ≤ 1 ∧ 1 ≤ 57 ∨ 59 ≤ 1 ∧ 1 ≤ 66 by decide)
    refine to_c (pc := 13) rw_84_13 (x := (0 : Int32)) rfl rfl (s_r1 (pc := 14) rw_84_14 (A := 0) rfl (by decide) (s_r1 (pc := 13) rw_88_13 (A := 0) rfl (by decide) (b_ieq_t (pc := 23) rw_37_23 (A := 0) rfl (by decide) (to_c (pc := 37) rw_37_37 (x := (0 : Int32)) rfl rfl (s_r1 (pc := 38) rw_37_38 (A := 0) rfl (by decide) ?_)))))
    have k_67 : (0 : Int32).toInt = 0 := rfl
    have j_68 := (PI_f (fun a i z => W_n W63 (by /-r1,11-/ omega) rfl) (PI_f (fun a i z => W_n W58 (by /-r1,10-/ omega) rfl) q4))
    exact h (0 : Int32) M64 hG65 F66 (by decide) (by decide) j_68
set_option maxRecDepth 4000 in
set_option maxHeartbeats 0 in
theorem C_38 {X : mm_X} {d : Nat} {M : mm_M} {Q : Option Value → mm_M → Prop} {p : Nat} (hX : g_X X) (hd : 2 ≤ d) (hG : g_G M) (hp : p = 49 ∨ p = 58) (q1 : (M.2.1 p 2).toInt ≤ 7) (q2 : PI M) (h : ∀ (r : Int32) (M1 : mm_M), g_G M1 → FR md_pr M M1 → (0 ≤ r.toInt) → (r.toInt ≤ 1) → PI M1 → Q (some (.int r)) M1) : mm_T X d 38 0 [.ref p, .ref 1] [] M Q := by
  have F0 : FR md_pr M M := FR.rf
  have b_1 := g_b hG (a := p) (i := 2) (lo := 0) (hi := 8) (by rcases hp with rfl | rfl <;> rfl) (by rcases hp with rfl | rfl <;> rfl)
  refine to_an (pc := 0) rw_38_0 rfl (to_c (pc := 1) rw_38_1 (x := (1 : Int32)) rfl rfl (to_c (pc := 2) rw_38_2 (x := (4 : Int32)) rfl rfl (to_an (pc := 3) rw_38_3 rfl (to_an (pc := 4) rw_38_4 rfl (tt_gI (pc := 5) rw_38_5 (g_o hG (by rcases hp with rfl | rfl <;> rfl)) (v := (M.2.1 p 2)) rfl (s_v (pc := 8) rw_38_8 (dp0 hd (by decide)) (ls0 := [.ref p, .int (M.2.1 p 2)]) rfl (Nat.le_of_ble_eq_true rfl) (Nat.le_of_ble_eq_true rfl) rfl (to_rc rfl rfl rfl (g_o hG (by rcases hp with rfl | rfl <;> rfl))) rfl (to_an (pc := 0) rw_47_0 rfl (s_gR (pc := 1) rw_47_1 hG (by rcases hp with rfl | rfl <;> rfl) (v := (p + 4)) (by rcases hp with rfl | rfl <;> rfl) (to_in (pc := 4) rw_47_4 rfl (s_ial (pc := 5) rw_47_5 hG (by rcases hp with rfl | rfl <;> rfl) (n := 8) (by rcases hp with rfl | rfl <;> rfl) (by rcases hp with rfl | rfl <;> rfl) (A := (M.2.1 p 2).toInt) rfl (by omega) (by omega) (lo := 0) (hi := 63) (by rcases hp with rfl | rfl <;> rfl) (by rcases hp with rfl | rfl <;> rfl) (fun v2 w_3 _ _ => to_an (pc := 6) rw_47_6 rfl ?_)))))))))))
  refine s_gR (pc := 7) rw_47_7 hG (by rcases hp with rfl | rfl <;> rfl) (v := (p + 3)) (by rcases hp with rfl | rfl <;> rfl) (to_in (pc := 10) rw_47_10 rfl (s_ial (pc := 11) rw_47_11 hG (by rcases hp with rfl | rfl <;> rfl) (n := 8) (by rcases hp with rfl | rfl <;> rfl) (by rcases hp with rfl | rfl <;> rfl) (A := (M.2.1 p 2).toInt) rfl (by omega) (by omega) (lo := 0) (hi := 59) (by rcases hp with rfl | rfl <;> rfl) (by rcases hp with rfl | rfl <;> rfl) (fun v4 w_5 _ _ => s_sub (pc := 12) rw_47_12 (A := v2.toInt) (B := v4.toInt) rfl rfl (by omega) (fun v6 e7 => to_c (pc := 13) rw_47_13 (x := (1 : Int32)) rfl rfl (s_add (pc := 14) rw_47_14 (A := v6.toInt) (B := 1) rfl rfl (by omega) (fun v8 e9 => to_r0 (pc := 15) rw_47_15 (s_min (pc := 11) rw_38_11 rfl (A := 4) (B := v8.toInt) rfl rfl (fun v10 _ _ _ => s_v (pc := 14) rw_38_14 (dp0 hd (by decide)) (ls0 := [.ref 1, .int (1 : Int32), .int v10]) rfl (Nat.le_of_ble_eq_true rfl) (Nat.le_of_ble_eq_true rfl) rfl (to_rc rfl rfl rfl (g_o hG rfl)) rfl (to_an (pc := 0) rw_88_0 rfl (tt_gI (pc := 1) rw_88_1 (g_o hG rfl) (v := (M.2.1 1 7)) rfl (to_c (pc := 4) rw_88_4 (x := (2 : Int32)) rfl rfl ?_)))))))))))
  refine b_ceq (pc := 5) rw_88_5 (A := (M.2.1 1 7).toInt) (B := 2) rfl rfl (fun h11 => ?_) (fun h11 => ?_)
  · refine to_an (pc := 14) rw_88_14 rfl (tt_gI (pc := 15) rw_88_15 (g_o hG rfl) (v := (M.2.1 1 8)) rfl (to_in (pc := 18) rw_88_18 rfl (b_clt (pc := 19) rw_88_19 (A := (M.2.1 1 8).toInt) (B := 1) rfl rfl (fun h12 => ?_) (fun h12 => ?_))))
    · refine to_an (pc := 30) rw_88_30 rfl (to_c (pc := 31) rw_88_31 (x := (2 : Int32)) rfl rfl (s_v (pc := 32) rw_88_32 (dp1 hd (by decide)) (ls0 := [.ref 1, .int (2 : Int32)]) rfl (Nat.le_of_ble_eq_true rfl) (Nat.le_of_ble_eq_true rfl) rfl (to_rc rfl rfl rfl (g_o hG rfl)) rfl (to_an (pc := 0) rw_84_0 rfl (to_in (pc := 1) rw_84_1 rfl (s_pI (pc := 2) rw_84_2 hG rfl (fun M14 W13 => ?_))))))
      have hG15 := g_wf hG W13 rfl rfl (by decide)
      have F16 := FR.w F0 W13 (show 1 = 1 ∧ 5 ≤ 10 ∨ 3 ≤ 1 ∧ 1 ≤ 5 ∨ 50 ≤ 1 ∧ 1 ≤ 57 ∨ 59 ≤ 1 ∧ 1 ≤ 66 by decide)
      refine to_an (pc := 5) rw_84_5 rfl (to_an (pc := 6) rw_84_6 rfl ?_)
      have c_17 : M14.2.1 1 9 = (M.2.1 1 9) := (W_n W13 (by decide) rfl)
      refine tt_gI (pc := 7) rw_84_7 (g_o hG15 rfl) (v := (M.2.1 1 9)) c_17 (s_pI (pc := 10) rw_84_10 hG15 rfl (fun M19 W18 => ?_))
      have hG20 := g_wf hG15 W18 rfl rfl (by decide)
      have F21 := FR.w F16 W18 (show 1 = 1 ∧ 5 ≤ 11 ∨ 3 ≤ 1 ∧ 1 ≤ 5 ∨ 50 ≤ 1 ∧ 1 ≤ 57 ∨ 59 ≤ 1 ∧ 1 ≤ 66 by decide)
      refine to_c (pc := 13) rw_84_13 (x := (0 : Int32)) rfl rfl (s_r1 (pc := 14) rw_84_14 (A := 0) rfl (by decide) (b_ieq_t (pc := 35) rw_88_35 (A := 0) rfl (by decide) (to_c (pc := 42) rw_88_42 (x := (0 : Int32)) rfl rfl (s_r1 (pc := 43) rw_88_43 (A := 0) rfl (by decide) (b_ine_f (pc := 17) rw_38_17 (A := 0) rfl (by decide) (to_c (pc := 20) rw_38_20 (x := (0 : Int32)) rfl rfl (s_r1 (pc := 21) rw_38_21 (A := 0) rfl (by decide) ?_)))))))
      have k_22 : (0 : Int32).toInt = 0 := rfl
      have j_23 := (PI_f (fun a i z => W_n W18 (by /-r1,11-/ omega) rfl) (PI_f (fun a i z => W_n W13 (by /-r1,10-/ omega) rfl) q2))
      exact h (0 : Int32) M19 hG20 F21 (by decide) (by decide) j_23
    · refine to_an (pc := 22) rw_88_22 rfl (tt_gI (pc := 23) rw_88_23 (g_o hG rfl) (v := (M.2.1 1 8)) rfl (to_in (pc := 26) rw_88_26 rfl (b_cle (pc := 27) rw_88_27 (A := (M.2.1 1 8).toInt) (B := v10.toInt) rfl rfl (fun h24 => ?_) (fun h24 => ?_))))
      · refine to_c (pc := 38) rw_88_38 (x := (1 : Int32)) rfl rfl (to_go (pc := 39) rw_88_39 (s_r1 (pc := 43) rw_88_43 (A := 1) rfl (by decide) (b_ine_t (pc := 17) rw_38_17 (A := 1) rfl (by decide) (to_an (pc := 22) rw_38_22 rfl (s_gR (pc := 23) rw_38_23 hG (by rcases hp with rfl | rfl <;> rfl) (v := (p + 5)) (by rcases hp with rfl | rfl <;> rfl) (to_an (pc := 26) rw_38_26 rfl (tt_gI (pc := 27) rw_38_27 (g_o hG (by rcases hp with rfl | rfl <;> rfl)) (v := (M.2.1 p 2)) rfl (to_an (pc := 30) rw_38_30 rfl (tt_gI (pc := 31) rw_38_31 (g_o hG rfl) (v := (M.2.1 1 8)) rfl (s_ias (pc := 34) rw_38_34 hG (by rcases hp with rfl | rfl <;> rfl) (n := 8) (by rcases hp with rfl | rfl <;> rfl) (A := (M.2.1 p 2).toInt) rfl (by omega) (by omega) (fun M26 W25 => ?_)))))))))))
        have hG27 := g_w hG W25 (A := (M.2.1 1 8).toInt) rfl (lo := 0) (hi := 24) (by rcases hp with rfl | rfl <;> rfl) (by rcases hp with rfl | rfl <;> rfl) (by omega) (by omega)
        have F28 := FR.w F0 W25 (show (p + 5) = 1 ∧ 5 ≤ ((M.2.1 p 2).toInt).toNat ∨ 3 ≤ (p + 5) ∧ (p + 5) ≤ 5 ∨ 50 ≤ (p + 5) ∧ (p + 5) ≤ 57 ∨ 59 ≤ (p + 5) ∧ (p + 5) ≤ 66 by omega)
        refine to_an (pc := 35) rw_38_35 rfl (s_v (pc := 36) rw_38_36 (dp0 hd (by decide)) (ls0 := [.ref 1]) rfl (Nat.le_of_ble_eq_true rfl) (Nat.le_of_ble_eq_true rfl) rfl (to_rc rfl rfl rfl (g_o hG27 rfl)) rfl (C_83 hX (dp1 hd (by decide)) hG27  (fun M31 hG30 F29 => ?_)))
        have F32 := FR.c F28 F29 tg_114
        refine to_c (pc := 39) rw_38_39 (x := (1 : Int32)) rfl rfl (s_r1 (pc := 40) rw_38_40 (A := 1) rfl (by decide) ?_)
        have k_33 : (1 : Int32).toInt = 1 := rfl
        have j_34 := (PI_f (tg_112 F29) (PI_f (fun a i z => W_n W25 (by omega) rfl) q2))
        exact h (1 : Int32) M31 hG30 F32 (by decide) (by decide) j_34
      · refine to_an (pc := 30) rw_88_30 rfl (to_c (pc := 31) rw_88_31 (x := (2 : Int32)) rfl rfl (s_v (pc := 32) rw_88_32 (dp1 hd (by decide)) (ls0 := [.ref 1, .int (2 : Int32)]) rfl (Nat.le_of_ble_eq_true rfl) (Nat.le_of_ble_eq_true rfl) rfl (to_rc rfl rfl rfl (g_o hG rfl)) rfl (to_an (pc := 0) rw_84_0 rfl (to_in (pc := 1) rw_84_1 rfl (s_pI (pc := 2) rw_84_2 hG rfl (fun M36 W35 => ?_))))))
        have hG37 := g_wf hG W35 rfl rfl (by decide)
        have F38 := FR.w F0 W35 (show 1 = 1 ∧ 5 ≤ 10 ∨ 3 ≤ 1 ∧ 1 ≤ 5 ∨ 50 ≤ 1 ∧ 1 ≤ 57 ∨ 59 ≤ 1 ∧ 1 ≤ 66 by decide)
        refine to_an (pc := 5) rw_84_5 rfl (to_an (pc := 6) rw_84_6 rfl ?_)
        have c_39 : M36.2.1 1 9 = (M.2.1 1 9) := (W_n W35 (by decide) rfl)
        refine tt_gI (pc := 7) rw_84_7 (g_o hG37 rfl) (v := (M.2.1 1 9)) c_39 (s_pI (pc := 10) rw_84_10 hG37 rfl (fun M41 W40 => ?_))
        have hG42 := g_wf hG37 W40 rfl rfl (by decide)
        have F43 := FR.w F38 W40 (show 1 = 1 ∧ 5 ≤ 11 ∨ 3 ≤ 1 ∧ 1 ≤ 5 ∨ 50 ≤ 1 ∧ 1 ≤ 57 ∨ 59 ≤ 1 ∧ 1 ≤ 66 by decide)
        refine to_c (pc := 13) rw_84_13 (x := (0 : Int32)) rfl rfl (s_r1 (pc := 14) rw_84_14 (A := 0) rfl (by decide) (b_ieq_t (pc := 35) rw_88_35 (A := 0) rfl (by decide) (to_c (pc := 42) rw_88_42 (x := (0 : Int32)) rfl rfl (s_r1 (pc := 43) rw_88_43 (A := 0) rfl (by decide) (b_ine_f (pc := 17) rw_38_17 (A := 0) rfl (by decide) (to_c (pc := 20) rw_38_20 (x := (0 : Int32)) rfl rfl (s_r1 (pc := 21) rw_38_21 (A := 0) rfl (by decide) ?_)))))))
        have k_44 : (0 : Int32).toInt = 0 := rfl
        have j_45 := (PI_f (fun a i z => W_n W40 (by /-r1,11-/ omega) rfl) (PI_f (fun a i z => W_n W35 (by /-r1,10-/ omega) rfl) q2))
        exact h (0 : Int32) M41 hG42 F43 (by decide) (by decide) j_45
  · refine to_an (pc := 8) rw_88_8 rfl (to_c (pc := 9) rw_88_9 (x := (1 : Int32)) rfl rfl (s_v (pc := 10) rw_88_10 (dp1 hd (by decide)) (ls0 := [.ref 1, .int (1 : Int32)]) rfl (Nat.le_of_ble_eq_true rfl) (Nat.le_of_ble_eq_true rfl) rfl (to_rc rfl rfl rfl (g_o hG rfl)) rfl (to_an (pc := 0) rw_84_0 rfl (to_in (pc := 1) rw_84_1 rfl (s_pI (pc := 2) rw_84_2 hG rfl (fun M47 W46 => ?_))))))
    have hG48 := g_wf hG W46 rfl rfl (by decide)
    have F49 := FR.w F0 W46 (show 1 = 1 ∧ 5 ≤ 10 ∨ 3 ≤ 1 ∧ 1 ≤ 5 ∨ 50 ≤ 1 ∧ 1 ≤ 57 ∨ 59 ≤ 1 ∧ 1 ≤ 66 by decide)
    refine to_an (pc := 5) rw_84_5 rfl (to_an (pc := 6) rw_84_6 rfl ?_)
    have c_50 : M47.2.1 1 9 = (M.2.1 1 9) := (W_n W46 (by decide) rfl)
    refine tt_gI (pc := 7) rw_84_7 (g_o hG48 rfl) (v := (M.2.1 1 9)) c_50 (s_pI (pc := 10) rw_84_10 hG48 rfl (fun M52 W51 => ?_))
    have hG53 := g_wf hG48 W51 rfl rfl (by decide)
    have F54 := FR.w F49 W51 (show 1 = 1 ∧ 5 ≤ 11 ∨ 3 ≤ 1 ∧ 1 ≤ 5 ∨ 50 ≤ 1 ∧ 1 ≤ 57 ∨ 59 ≤ 1 ∧ 1 ≤ 66 by decide)
    refine to_c (pc := 13) rw_84_13 (x := (0 : Int32)) rfl rfl (s_r1 (pc := 14) rw_84_14 (A := 0) rfl (by decide) (s_r1 (pc := 13) rw_88_13 (A := 0) rfl (by decide) (b_ine_f (pc := 17) rw_38_17 (A := 0) rfl (by decide) (to_c (pc := 20) rw_38_20 (x := (0 : Int32)) rfl rfl (s_r1 (pc := 21) rw_38_21 (A := 0) rfl (by decide) ?_)))))
    have k_55 : (0 : Int32).toInt = 0 := rfl
    have j_56 := (PI_f (fun a i z => W_n W51 (by /-r1,11-/ omega) rfl) (PI_f (fun a i z => W_n W46 (by /-r1,10-/ omega) rfl) q2))
    exact h (0 : Int32) M52 hG53 F54 (by decide) (by decide) j_56
set_option maxRecDepth 4000 in
set_option maxHeartbeats 0 in
theorem C_32 {X : mm_X} {d : Nat} {M : mm_M} {Q : Option Value → mm_M → Prop} {p : Nat} (hX : g_X X) (hd : 2 ≤ d) (hG : g_G M) (hp : p = 49 ∨ p = 58) (q1 : PI M) (h : ∀ (r : Int32) (M1 : mm_M), g_G M1 → FR md_pt M M1 → (0 ≤ r.toInt) → (r.toInt ≤ 1) → PI M1 → Q (some (.int r)) M1) : mm_T X d 32 0 [.ref p, .ref 1] [] M Q := by
  have F0 : FR md_pt M M := FR.rf
  refine to_an (pc := 0) rw_32_0 rfl (tt_gI (pc := 1) rw_32_1 (g_o hG (by rcases hp with rfl | rfl <;> rfl)) (v := (M.2.1 p 1)) rfl (b_ile (pc := 4) rw_32_4 (A := (M.2.1 p 1).toInt) rfl (fun h1 => ?_) (fun h1 => ?_)))
  · refine to_an (pc := 13) rw_32_13 rfl (s_v (pc := 14) rw_32_14 (dp0 hd (by decide)) (ls0 := [.ref 1]) rfl (Nat.le_of_ble_eq_true rfl) (Nat.le_of_ble_eq_true rfl) rfl (to_rc rfl rfl rfl (g_o hG rfl)) rfl (C_83 hX (dp1 hd (by decide)) hG  (fun M4 hG3 F2 => ?_)))
    have F5 := FR.c F0 F2 tg_116
    refine to_an (pc := 17) rw_32_17 rfl (to_c (pc := 18) rw_32_18 (x := (10 : Int32)) rfl rfl (to_c (pc := 20) rw_32_20 (x := (60 : Int32)) rfl rfl (s_v (pc := 22) rw_32_22 (dp0 hd (by decide)) (ls0 := [.ref 1, .int (10 : Int32), .int (60 : Int32)]) rfl (Nat.le_of_ble_eq_true rfl) (Nat.le_of_ble_eq_true rfl) rfl (to_rc rfl rfl rfl (g_o hG3 rfl)) rfl (to_an (pc := 0) rw_88_0 rfl (tt_gI (pc := 1) rw_88_1 (g_o hG3 rfl) (v := (M4.2.1 1 7)) rfl (to_c (pc := 4) rw_88_4 (x := (2 : Int32)) rfl rfl (b_ceq (pc := 5) rw_88_5 (A := (M4.2.1 1 7).toInt) (B := 2) rfl rfl (fun h6 => ?_) (fun h6 => ?_))))))))
    · refine to_an (pc := 14) rw_88_14 rfl (tt_gI (pc := 15) rw_88_15 (g_o hG3 rfl) (v := (M4.2.1 1 8)) rfl (to_in (pc := 18) rw_88_18 rfl (b_clt (pc := 19) rw_88_19 (A := (M4.2.1 1 8).toInt) (B := 10) rfl rfl (fun h7 => ?_) (fun h7 => ?_))))
      · refine to_an (pc := 30) rw_88_30 rfl (to_c (pc := 31) rw_88_31 (x := (2 : Int32)) rfl rfl (s_v (pc := 32) rw_88_32 (dp1 hd (by decide)) (ls0 := [.ref 1, .int (2 : Int32)]) rfl (Nat.le_of_ble_eq_true rfl) (Nat.le_of_ble_eq_true rfl) rfl (to_rc rfl rfl rfl (g_o hG3 rfl)) rfl (to_an (pc := 0) rw_84_0 rfl (to_in (pc := 1) rw_84_1 rfl (s_pI (pc := 2) rw_84_2 hG3 rfl (fun M9 W8 => ?_))))))
        have hG10 := g_wf hG3 W8 rfl rfl (by decide)
        have F11 := FR.w F5 W8 (show 1 = 1 ∧ 5 ≤ 10 ∨ 3 ≤ 1 ∧ 1 ≤ 5 ∨ 49 ≤ 1 ∧ 1 ≤ 66 by decide)
        refine to_an (pc := 5) rw_84_5 rfl (to_an (pc := 6) rw_84_6 rfl ?_)
        have c_12 : M9.2.1 1 9 = (M4.2.1 1 9) := (W_n W8 (by decide) rfl)
        refine tt_gI (pc := 7) rw_84_7 (g_o hG10 rfl) (v := (M4.2.1 1 9)) c_12 (s_pI (pc := 10) rw_84_10 hG10 rfl (fun M14 W13 => ?_))
        have hG15 := g_wf hG10 W13 rfl rfl (by decide)
        have F16 := FR.w F11 W13 (show 1 = 1 ∧ 5 ≤ 11 ∨ 3 ≤ 1 ∧ 1 ≤ 5 ∨ 49 ≤ 1 ∧ 1 ≤ 66 by decide)
        refine to_c (pc := 13) rw_84_13 (x := (0 : Int32)) rfl rfl (s_r1 (pc := 14) rw_84_14 (A := 0) rfl (by decide) (b_ieq_t (pc := 35) rw_88_35 (A := 0) rfl (by decide) (to_c (pc := 42) rw_88_42 (x := (0 : Int32)) rfl rfl (s_r1 (pc := 43) rw_88_43 (A := 0) rfl (by decide) (b_ine_f (pc := 25) rw_32_25 (A := 0) rfl (by decide) (to_c (pc := 28) rw_32_28 (x := (0 : Int32)) rfl rfl (s_r1 (pc := 29) rw_32_29 (A := 0) rfl (by decide) ?_)))))))
        have k_17 : (0 : Int32).toInt = 0 := rfl
        have j_18 := (PI_f (fun a i z => W_n W13 (by /-r1,11-/ omega) rfl) (PI_f (fun a i z => W_n W8 (by /-r1,10-/ omega) rfl) (PI_f (tg_112 F2) q1)))
        exact h (0 : Int32) M14 hG15 F16 (by decide) (by decide) j_18
      · refine to_an (pc := 22) rw_88_22 rfl (tt_gI (pc := 23) rw_88_23 (g_o hG3 rfl) (v := (M4.2.1 1 8)) rfl (to_in (pc := 26) rw_88_26 rfl (b_cle (pc := 27) rw_88_27 (A := (M4.2.1 1 8).toInt) (B := 60) rfl rfl (fun h19 => ?_) (fun h19 => ?_))))
        · refine to_c (pc := 38) rw_88_38 (x := (1 : Int32)) rfl rfl (to_go (pc := 39) rw_88_39 (s_r1 (pc := 43) rw_88_43 (A := 1) rfl (by decide) (b_ine_t (pc := 25) rw_32_25 (A := 1) rfl (by decide) (to_an (pc := 30) rw_32_30 rfl (to_an (pc := 31) rw_32_31 rfl (tt_gI (pc := 32) rw_32_32 (g_o hG3 rfl) (v := (M4.2.1 1 8)) rfl (s_pI (pc := 35) rw_32_35 hG3 (by rcases hp with rfl | rfl <;> rfl) (fun M21 W20 => ?_))))))))
          have hG22 := g_w hG3 W20 (A := (M4.2.1 1 8).toInt) rfl (lo := 10) (hi := 60) (by rcases hp with rfl | rfl <;> rfl) (by rcases hp with rfl | rfl <;> rfl) (by omega) (by omega)
          have F23 := FR.w F5 W20 (show p = 1 ∧ 5 ≤ 0 ∨ 3 ≤ p ∧ p ≤ 5 ∨ 49 ≤ p ∧ p ≤ 66 by omega)
          refine to_an (pc := 38) rw_32_38 rfl (s_v (pc := 39) rw_32_39 (dp0 hd (by decide)) (ls0 := [.ref 1]) rfl (Nat.le_of_ble_eq_true rfl) (Nat.le_of_ble_eq_true rfl) rfl (to_rc rfl rfl rfl (g_o hG22 rfl)) rfl (C_83 hX (dp1 hd (by decide)) hG22  (fun M26 hG25 F24 => ?_)))
          have F27 := FR.c F23 F24 tg_116
          refine to_c (pc := 42) rw_32_42 (x := (1 : Int32)) rfl rfl (s_r1 (pc := 43) rw_32_43 (A := 1) rfl (by decide) ?_)
          have k_28 : (1 : Int32).toInt = 1 := rfl
          have j_29 := (PI_f (tg_112 F24) (PI_f (fun a i z => W_n W20 (by omega) rfl) (PI_f (tg_112 F2) q1)))
          exact h (1 : Int32) M26 hG25 F27 (by decide) (by decide) j_29
        · refine to_an (pc := 30) rw_88_30 rfl (to_c (pc := 31) rw_88_31 (x := (2 : Int32)) rfl rfl (s_v (pc := 32) rw_88_32 (dp1 hd (by decide)) (ls0 := [.ref 1, .int (2 : Int32)]) rfl (Nat.le_of_ble_eq_true rfl) (Nat.le_of_ble_eq_true rfl) rfl (to_rc rfl rfl rfl (g_o hG3 rfl)) rfl (to_an (pc := 0) rw_84_0 rfl (to_in (pc := 1) rw_84_1 rfl (s_pI (pc := 2) rw_84_2 hG3 rfl (fun M31 W30 => ?_))))))
          have hG32 := g_wf hG3 W30 rfl rfl (by decide)
          have F33 := FR.w F5 W30 (show 1 = 1 ∧ 5 ≤ 10 ∨ 3 ≤ 1 ∧ 1 ≤ 5 ∨ 49 ≤ 1 ∧ 1 ≤ 66 by decide)
          refine to_an (pc := 5) rw_84_5 rfl (to_an (pc := 6) rw_84_6 rfl ?_)
          have c_34 : M31.2.1 1 9 = (M4.2.1 1 9) := (W_n W30 (by decide) rfl)
          refine tt_gI (pc := 7) rw_84_7 (g_o hG32 rfl) (v := (M4.2.1 1 9)) c_34 (s_pI (pc := 10) rw_84_10 hG32 rfl (fun M36 W35 => ?_))
          have hG37 := g_wf hG32 W35 rfl rfl (by decide)
          have F38 := FR.w F33 W35 (show 1 = 1 ∧ 5 ≤ 11 ∨ 3 ≤ 1 ∧ 1 ≤ 5 ∨ 49 ≤ 1 ∧ 1 ≤ 66 by decide)
          refine to_c (pc := 13) rw_84_13 (x := (0 : Int32)) rfl rfl (s_r1 (pc := 14) rw_84_14 (A := 0) rfl (by decide) (b_ieq_t (pc := 35) rw_88_35 (A := 0) rfl (by decide) (to_c (pc := 42) rw_88_42 (x := (0 : Int32)) rfl rfl (s_r1 (pc := 43) rw_88_43 (A := 0) rfl (by decide) (b_ine_f (pc := 25) rw_32_25 (A := 0) rfl (by decide) (to_c (pc := 28) rw_32_28 (x := (0 : Int32)) rfl rfl (s_r1 (pc := 29) rw_32_29 (A := 0) rfl (by decide) ?_)))))))
          have k_39 : (0 : Int32).toInt = 0 := rfl
          have j_40 := (PI_f (fun a i z => W_n W35 (by /-r1,11-/ omega) rfl) (PI_f (fun a i z => W_n W30 (by /-r1,10-/ omega) rfl) (PI_f (tg_112 F2) q1)))
          exact h (0 : Int32) M36 hG37 F38 (by decide) (by decide) j_40
    · refine to_an (pc := 8) rw_88_8 rfl (to_c (pc := 9) rw_88_9 (x := (1 : Int32)) rfl rfl (s_v (pc := 10) rw_88_10 (dp1 hd (by decide)) (ls0 := [.ref 1, .int (1 : Int32)]) rfl (Nat.le_of_ble_eq_true rfl) (Nat.le_of_ble_eq_true rfl) rfl (to_rc rfl rfl rfl (g_o hG3 rfl)) rfl (to_an (pc := 0) rw_84_0 rfl (to_in (pc := 1) rw_84_1 rfl (s_pI (pc := 2) rw_84_2 hG3 rfl (fun M42 W41 => ?_))))))
      have hG43 := g_wf hG3 W41 rfl rfl (by decide)
      have F44 := FR.w F5 W41 (show 1 = 1 ∧ 5 ≤ 10 ∨ 3 ≤ 1 ∧ 1 ≤ 5 ∨ 49 ≤ 1 ∧ 1 ≤ 66 by decide)
      refine to_an (pc := 5) rw_84_5 rfl (to_an (pc := 6) rw_84_6 rfl ?_)
      have c_45 : M42.2.1 1 9 = (M4.2.1 1 9) := (W_n W41 (by decide) rfl)
      refine tt_gI (pc := 7) rw_84_7 (g_o hG43 rfl) (v := (M4.2.1 1 9)) c_45 (s_pI (pc := 10) rw_84_10 hG43 rfl (fun M47 W46 => ?_))
      have hG48 := g_wf hG43 W46 rfl rfl (by decide)
      have F49 := FR.w F44 W46 (show 1 = 1 ∧ 5 ≤ 11 ∨ 3 ≤ 1 ∧ 1 ≤ 5 ∨ 49 ≤ 1 ∧ 1 ≤ 66 by decide)
      refine to_c (pc := 13) rw_84_13 (x := (0 : Int32)) rfl rfl (s_r1 (pc := 14) rw_84_14 (A := 0) rfl (by decide) (s_r1 (pc := 13) rw_88_13 (A := 0) rfl (by decide) (b_ine_f (pc := 25) rw_32_25 (A := 0) rfl (by decide) (to_c (pc := 28) rw_32_28 (x := (0 : Int32)) rfl rfl (s_r1 (pc := 29) rw_32_29 (A := 0) rfl (by decide) ?_)))))
      have k_50 : (0 : Int32).toInt = 0 := rfl
      have j_51 := (PI_f (fun a i z => W_n W46 (by /-r1,11-/ omega) rfl) (PI_f (fun a i z => W_n W41 (by /-r1,10-/ omega) rfl) (PI_f (tg_112 F2) q1)))
      exact h (0 : Int32) M47 hG48 F49 (by decide) (by decide) j_51
  · refine to_an (pc := 7) rw_32_7 rfl (to_c (pc := 8) rw_32_8 (x := (3 : Int32)) rfl rfl (s_v (pc := 9) rw_32_9 (dp0 hd (by decide)) (ls0 := [.ref 1, .int (3 : Int32)]) rfl (Nat.le_of_ble_eq_true rfl) (Nat.le_of_ble_eq_true rfl) rfl (to_rc rfl rfl rfl (g_o hG rfl)) rfl (to_an (pc := 0) rw_84_0 rfl (to_in (pc := 1) rw_84_1 rfl (s_pI (pc := 2) rw_84_2 hG rfl (fun M53 W52 => ?_))))))
    have hG54 := g_wf hG W52 rfl rfl (by decide)
    have F55 := FR.w F0 W52 (show 1 = 1 ∧ 5 ≤ 10 ∨ 3 ≤ 1 ∧ 1 ≤ 5 ∨ 49 ≤ 1 ∧ 1 ≤ 66 by decide)
    refine to_an (pc := 5) rw_84_5 rfl (to_an (pc := 6) rw_84_6 rfl ?_)
    have c_56 : M53.2.1 1 9 = (M.2.1 1 9) := (W_n W52 (by decide) rfl)
    refine tt_gI (pc := 7) rw_84_7 (g_o hG54 rfl) (v := (M.2.1 1 9)) c_56 (s_pI (pc := 10) rw_84_10 hG54 rfl (fun M58 W57 => ?_))
    have hG59 := g_wf hG54 W57 rfl rfl (by decide)
    have F60 := FR.w F55 W57 (show 1 = 1 ∧ 5 ≤ 11 ∨ 3 ≤ 1 ∧ 1 ≤ 5 ∨ 49 ≤ 1 ∧ 1 ≤ 66 by decide)
    refine to_c (pc := 13) rw_84_13 (x := (0 : Int32)) rfl rfl (s_r1 (pc := 14) rw_84_14 (A := 0) rfl (by decide) (s_r1 (pc := 12) rw_32_12 (A := 0) rfl (by decide) ?_))
    have k_61 : (0 : Int32).toInt = 0 := rfl
    have j_62 := (PI_f (fun a i z => W_n W57 (by /-r1,11-/ omega) rfl) (PI_f (fun a i z => W_n W52 (by /-r1,10-/ omega) rfl) q1))
    exact h (0 : Int32) M58 hG59 F60 (by decide) (by decide) j_62
set_option maxRecDepth 4000 in
set_option maxHeartbeats 0 in
theorem C_33 {X : mm_X} {d : Nat} {M : mm_M} {Q : Option Value → mm_M → Prop} {p : Nat} (hX : g_X X) (hd : 3 ≤ d) (hG : g_G M) (hp : p = 49 ∨ p = 58) (q1 : PI M) (h : ∀ (r : Int32) (M1 : mm_M), g_G M1 → FR md_pt M M1 → (0 ≤ r.toInt) → (r.toInt ≤ 1) → PI M1 → Q (some (.int r)) M1) : mm_T X d 33 0 [.ref p, .ref 1, .null, .null] [] M Q := by
  have F0 : FR md_pt M M := FR.rf
  refine to_an (pc := 0) rw_33_0 rfl ?_
  have b_1 := g_b hG (a := p) (i := 2) (lo := 0) (hi := 8) (by rcases hp with rfl | rfl <;> rfl) (by rcases hp with rfl | rfl <;> rfl)
  refine tt_gI (pc := 1) rw_33_1 (g_o hG (by rcases hp with rfl | rfl <;> rfl)) (v := (M.2.1 p 2)) rfl (to_c (pc := 4) rw_33_4 (x := (8 : Int32)) rfl rfl (b_clt (pc := 6) rw_33_6 (A := (M.2.1 p 2).toInt) (B := 8) rfl rfl (fun h2 => ?_) (fun h2 => ?_)))
  · refine to_an (pc := 15) rw_33_15 rfl (s_v (pc := 16) rw_33_16 (dp0 hd (by decide)) (ls0 := [.ref 1]) rfl (Nat.le_of_ble_eq_true rfl) (Nat.le_of_ble_eq_true rfl) rfl (to_rc rfl rfl rfl (g_o hG rfl)) rfl (C_83 hX (dp1 hd (by decide)) hG  (fun M5 hG4 F3 => ?_)))
    have F6 := FR.c F0 F3 tg_116
    refine to_an (pc := 19) rw_33_19 rfl (to_an (pc := 20) rw_33_20 rfl (s_v (pc := 21) rw_33_21 (dp0 hd (by decide)) (ls0 := [.ref p, .ref 1]) rfl (Nat.le_of_ble_eq_true rfl) (Nat.le_of_ble_eq_true rfl) rfl (to_rc rfl rfl rfl (g_o hG4 (by rcases hp with rfl | rfl <;> rfl))) rfl (C_34 hX (dp1 hd (by decide)) hG4 hp (p := p) (fun r7 M12 hG9 F8 p_10 p_11 => ?_))))
    have F13 := FR.c F6 F8 tg_116
    refine b_ine (pc := 24) rw_33_24 (A := r7.toInt) rfl (fun h14 => ?_) (fun h14 => ?_)
    · refine to_an (pc := 29) rw_33_29 rfl (s_gR (pc := 30) rw_33_30 hG9 (by rcases hp with rfl | rfl <;> rfl) (v := (p + 1)) (by rcases hp with rfl | rfl <;> rfl) (to_an (pc := 33) rw_33_33 rfl ?_))
      have c_15 : M12.2.1 p 2 = (M.2.1 p 2) := (F_n F8 (show ¬ (p = 1 ∧ 5 ≤ 2 ∨ 3 ≤ p ∧ p ≤ 5) by omega) (F_n F3 (show ¬ (p = 1 ∧ 5 ≤ 2 ∨ 3 ≤ p ∧ p ≤ 5) by omega) rfl))
      refine tt_gI (pc := 34) rw_33_34 (g_o hG9 (by rcases hp with rfl | rfl <;> rfl)) (v := (M.2.1 p 2)) c_15 (to_an (pc := 37) rw_33_37 rfl (tt_gI (pc := 38) rw_33_38 (g_o hG9 rfl) (v := (M12.2.1 1 8)) rfl (s_ias (pc := 41) rw_33_41 hG9 (by rcases hp with rfl | rfl <;> rfl) (n := 8) (by rcases hp with rfl | rfl <;> rfl) (A := (M.2.1 p 2).toInt) rfl (by omega) (by omega) (fun M17 W16 => ?_))))
      have hG18 := g_wf hG9 W16 (by rcases hp with rfl | rfl <;> rfl) (by rcases hp with rfl | rfl <;> rfl) (by omega)
      have F19 := FR.w F13 W16 (show (p + 1) = 1 ∧ 5 ≤ ((M.2.1 p 2).toInt).toNat ∨ 3 ≤ (p + 1) ∧ (p + 1) ≤ 5 ∨ 49 ≤ (p + 1) ∧ (p + 1) ≤ 66 by omega)
      refine to_an (pc := 42) rw_33_42 rfl (s_v (pc := 43) rw_33_43 (dp0 hd (by decide)) (ls0 := [.ref 1]) rfl (Nat.le_of_ble_eq_true rfl) (Nat.le_of_ble_eq_true rfl) rfl (to_rc rfl rfl rfl (g_o hG18 rfl)) rfl (C_83 hX (dp1 hd (by decide)) hG18  (fun M22 hG21 F20 => ?_)))
      have F23 := FR.c F19 F20 tg_116
      refine to_an (pc := 46) rw_33_46 rfl (s_s (pc := 47) rw_33_47 (dp0 hd (by decide)) (ls0 := [.ref 1]) rfl (Nat.le_of_ble_eq_true rfl) (Nat.le_of_ble_eq_true rfl) rfl (to_rcs rfl rfl) rfl (C_35 hX (dp1 hd (by decide)) hG21  (fun r24 M29 hG26 F25 p_27 p_28 => ?_)))
      have F30 := FR.c F23 F25 tg_117
      refine to_isn (pc := 50) rw_33_50 (ls2 := [.ref p, .ref 1, .int r24, .null]) rfl rfl (to_in (pc := 51) rw_33_51 rfl (to_c (pc := 52) rw_33_52 (x := (-1 : Int32)) rfl rfl (b_cne (pc := 53) rw_33_53 (A := r24.toInt) (B := -1) rfl rfl (fun h31 => ?_) (fun h31 => ?_))))
      · refine to_an (pc := 62) rw_33_62 rfl (s_gR (pc := 63) rw_33_63 hG26 (by rcases hp with rfl | rfl <;> rfl) (v := (p + 2)) (by rcases hp with rfl | rfl <;> rfl) (to_an (pc := 66) rw_33_66 rfl ?_))
        have c_32 : M29.2.1 p 2 = (M.2.1 p 2) := (F_n F25 (show ¬ (p < 0) by omega) (F_n F20 (show ¬ (p = 1 ∧ 5 ≤ 2 ∨ 3 ≤ p ∧ p ≤ 5) by omega) (W_n W16 (by omega) c_15)))
        refine tt_gI (pc := 67) rw_33_67 (g_o hG26 (by rcases hp with rfl | rfl <;> rfl)) (v := (M.2.1 p 2)) c_32 (to_in (pc := 70) rw_33_70 rfl (s_ias (pc := 71) rw_33_71 hG26 (by rcases hp with rfl | rfl <;> rfl) (n := 8) (by rcases hp with rfl | rfl <;> rfl) (A := (M.2.1 p 2).toInt) rfl (by omega) (by omega) (fun M34 W33 => ?_)))
        have hG35 := g_w hG26 W33 (A := r24.toInt) rfl (lo := 0) (hi := 3) (by rcases hp with rfl | rfl <;> rfl) (by rcases hp with rfl | rfl <;> rfl) (by omega) (by omega)
        have F36 := FR.w F30 W33 (show (p + 2) = 1 ∧ 5 ≤ ((M.2.1 p 2).toInt).toNat ∨ 3 ≤ (p + 2) ∧ (p + 2) ≤ 5 ∨ 49 ≤ (p + 2) ∧ (p + 2) ≤ 66 by omega)
        refine to_an (pc := 72) rw_33_72 rfl (s_v (pc := 73) rw_33_73 (dp0 hd (by decide)) (ls0 := [.ref 1]) rfl (Nat.le_of_ble_eq_true rfl) (Nat.le_of_ble_eq_true rfl) rfl (to_rc rfl rfl rfl (g_o hG35 rfl)) rfl (C_83 hX (dp1 hd (by decide)) hG35  (fun M39 hG38 F37 => ?_)))
        have F40 := FR.c F36 F37 tg_116
        refine to_in (pc := 76) rw_33_76 rfl (to_c (pc := 77) rw_33_77 (x := (1 : Int32)) rfl rfl (b_ceq (pc := 78) rw_33_78 (A := r24.toInt) (B := 1) rfl rfl (fun h41 => ?_) (fun h41 => ?_)))
        · refine to_an (pc := 86) rw_33_86 rfl (to_an (pc := 87) rw_33_87 rfl (to_in (pc := 88) rw_33_88 rfl (to_c (pc := 89) rw_33_89 (x := (1 : Int32)) rfl rfl (b_cne_f (pc := 90) rw_33_90 (A := r24.toInt) (B := 1) rfl rfl (by omega) (to_c (pc := 93) rw_33_93 (x := (4 : Int32)) rfl rfl (to_go (pc := 94) rw_33_94 (s_v (pc := 98) rw_33_98 (dp0 hd (by decide)) (ls0 := [.ref p, .ref 1, .int (4 : Int32), .null, .null]) rfl (Nat.le_of_ble_eq_true rfl) (Nat.le_of_ble_eq_true rfl) rfl (to_rc rfl rfl rfl (g_o hG38 (by rcases hp with rfl | rfl <;> rfl))) rfl ?_)))))))
          have k_42 : (4 : Int32).toInt = 4 := rfl
          have c_43 : M39.2.1 p 2 = (M.2.1 p 2) := (F_n F37 (show ¬ (p = 1 ∧ 5 ≤ 2 ∨ 3 ≤ p ∧ p ≤ 5) by omega) (W_n W33 (by omega) c_32))
          have t_44 : (M39.2.1 p 2).toInt = (M.2.1 p 2).toInt := congrArg Int32.toInt c_43
          have j_45 := (PI_f (tg_112 F37) (PI_f (fun a i z => W_n W33 (by omega) rfl) (PI_f (tg_99 F25) (PI_f (tg_112 F20) (PI_f (fun a i z => W_n W16 (by omega) rfl) (PI_f (tg_112 F8) (PI_f (tg_112 F3) q1)))))))
          refine C_37 hX (dp1 hd (by decide)) hG38 hp (by omega) (by omega) (by omega) j_45 (p := p) (w := (4 : Int32)) (fun r46 M52 hG48 F47 p_49 p_50 p_51 => ?_)
          have F53 := FR.c F40 F47 tg_118
          refine to_isn (pc := 101) rw_33_101 (ls2 := [.ref p, .ref 1, .int r24, .int r46]) rfl rfl (to_go (pc := 102) rw_33_102 (to_in (pc := 140) rw_33_140 rfl (b_ine (pc := 141) rw_33_141 (A := r46.toInt) rfl (fun h54 => ?_) (fun h54 => ?_))))
          · refine to_an (pc := 146) rw_33_146 rfl (to_dupr (pc := 147) rw_33_147 (s_gJ (pc := 148) rw_33_148 hG48 (by rcases hp with rfl | rfl <;> rfl) (fun l55 => to_an (pc := 151) rw_33_151 rfl (s_gR (pc := 152) rw_33_152 hG48 (by rcases hp with rfl | rfl <;> rfl) (v := (p + 3)) (by rcases hp with rfl | rfl <;> rfl) (to_an (pc := 155) rw_33_155 rfl ?_)))))
            have c_56 : M52.2.1 p 2 = (M.2.1 p 2) := (F_n F47 (show ¬ (p = 1 ∧ 5 ≤ 2 ∨ 3 ≤ p ∧ p ≤ 5 ∨ 50 ≤ p ∧ p ≤ 57 ∨ 59 ≤ p ∧ p ≤ 66) by omega) c_43)
            refine tt_gI (pc := 156) rw_33_156 (g_o hG48 (by rcases hp with rfl | rfl <;> rfl)) (v := (M.2.1 p 2)) c_56 (s_ial (pc := 159) rw_33_159 hG48 (by rcases hp with rfl | rfl <;> rfl) (n := 8) (by rcases hp with rfl | rfl <;> rfl) (by rcases hp with rfl | rfl <;> rfl) (A := (M.2.1 p 2).toInt) rfl (by omega) (by omega) (lo := 0) (hi := 59) (by rcases hp with rfl | rfl <;> rfl) (by rcases hp with rfl | rfl <;> rfl) (fun v57 w_58 _ _ => to_an (pc := 160) rw_33_160 rfl (s_gR (pc := 161) rw_33_161 hG48 (by rcases hp with rfl | rfl <;> rfl) (v := (p + 4)) (by rcases hp with rfl | rfl <;> rfl) (to_an (pc := 164) rw_33_164 rfl (tt_gI (pc := 165) rw_33_165 (g_o hG48 (by rcases hp with rfl | rfl <;> rfl)) (v := (M.2.1 p 2)) c_56 (s_ial (pc := 168) rw_33_168 hG48 (by rcases hp with rfl | rfl <;> rfl) (n := 8) (by rcases hp with rfl | rfl <;> rfl) (by rcases hp with rfl | rfl <;> rfl) (A := (M.2.1 p 2).toInt) rfl (by omega) (by omega) (lo := 0) (hi := 63) (by rcases hp with rfl | rfl <;> rfl) (by rcases hp with rfl | rfl <;> rfl) (fun v59 w_60 _ _ => s_s (pc := 169) rw_33_169 (dp0 hd (by decide)) (ls0 := [.int v57, .int v59]) rfl (Nat.le_of_ble_eq_true rfl) (Nat.le_of_ble_eq_true rfl) rfl (to_rcs rfl rfl) rfl (s_cl (pc := 0) rw_144_0 rfl (fun l61 => to_in (pc := 1) rw_144_1 rfl (to_in (pc := 2) rw_144_2 rfl (s_sub (pc := 3) rw_144_3 (A := v59.toInt) (B := v57.toInt) rfl rfl (by omega) (fun v62 e63 => ?_))))))))))))
            refine to_c (pc := 4) rw_144_4 (x := (1 : Int32)) rfl rfl (s_add (pc := 5) rw_144_5 (A := v62.toInt) (B := 1) rfl rfl (by omega) (fun v64 e65 => s_anyS (pc := 6) rw_144_6 (fun _ _ => rfl) (fun l66 => s_cl (pc := 7) rw_144_7 rfl (fun l67 => s_anyL (pc := 8) rw_144_8 (fun _ _ => rfl) (fun l68 => to_in (pc := 9) rw_144_9 rfl (s_anyS (pc := 10) rw_144_10 (fun _ _ => rfl) (fun l69 => to_rl (pc := 11) rw_144_11 (s_anyL (pc := 172) rw_33_172 (fun _ _ => rfl) (fun l70 => s_pJ (pc := 173) rw_33_173 hG48 (by rcases hp with rfl | rfl <;> rfl) (fun M72 W71 => ?_))))))))))
            have hG73 := g_wl hG48 W71
            have F74 := FR.wl F53 W71 (show p = 1 ∧ 5 ≤ 4 ∨ 3 ≤ p ∧ p ≤ 5 ∨ 49 ≤ p ∧ p ≤ 66 by omega)
            refine to_an (pc := 176) rw_33_176 rfl (to_dupr (pc := 177) rw_33_177 ?_)
            have c_75 : M72.2.1 p 2 = (M.2.1 p 2) := (W_l W71 c_56)
            refine tt_gI (pc := 178) rw_33_178 (g_o hG73 (by rcases hp with rfl | rfl <;> rfl)) (v := (M.2.1 p 2)) c_75 (to_c (pc := 181) rw_33_181 (x := (1 : Int32)) rfl rfl (s_add (pc := 182) rw_33_182 (A := (M.2.1 p 2).toInt) (B := 1) rfl rfl (by omega) (fun v76 e77 => s_pI (pc := 183) rw_33_183 hG73 (by rcases hp with rfl | rfl <;> rfl) (fun M79 W78 => ?_))))
            have hG80 := g_w hG73 W78 (A := v76.toInt) rfl (lo := 0) (hi := 8) (by rcases hp with rfl | rfl <;> rfl) (by rcases hp with rfl | rfl <;> rfl) (by omega) (by omega)
            have F81 := FR.w F74 W78 (show p = 1 ∧ 5 ≤ 2 ∨ 3 ≤ p ∧ p ≤ 5 ∨ 49 ≤ p ∧ p ≤ 66 by omega)
            refine to_c (pc := 186) rw_33_186 (x := (1 : Int32)) rfl rfl (s_r1 (pc := 187) rw_33_187 (A := 1) rfl (by decide) ?_)
            have k_82 : (1 : Int32).toInt = 1 := rfl
            have j_83 := (PI_f (fun a i z => W_n W78 (by omega) rfl) (PI_f (fun a i z => W_l W71 rfl) p_51))
            exact h (1 : Int32) M79 hG80 F81 (by decide) (by decide) j_83
          · refine to_c (pc := 144) rw_33_144 (x := (0 : Int32)) rfl rfl (s_r1 (pc := 145) rw_33_145 (A := 0) rfl (by decide) ?_)
            have k_84 : (0 : Int32).toInt = 0 := rfl
            exact h (0 : Int32) M52 hG48 F53 (by decide) (by decide) p_51
        · refine to_in (pc := 81) rw_33_81 rfl (to_c (pc := 82) rw_33_82 (x := (2 : Int32)) rfl rfl (b_cne (pc := 83) rw_33_83 (A := r24.toInt) (B := 2) rfl rfl (fun h85 => ?_) (fun h85 => ?_)))
          · refine to_an (pc := 105) rw_33_105 rfl (to_an (pc := 106) rw_33_106 rfl (to_in (pc := 107) rw_33_107 rfl (b_ine (pc := 108) rw_33_108 (A := r24.toInt) rfl (fun h86 => ?_) (fun h86 => ?_))))
            · refine to_c (pc := 115) rw_33_115 (x := (1 : Int32)) rfl rfl (s_v (pc := 116) rw_33_116 (dp0 hd (by decide)) (ls0 := [.ref p, .ref 1, .int (1 : Int32), .null, .null, .null]) rfl (Nat.le_of_ble_eq_true rfl) (Nat.le_of_ble_eq_true rfl) rfl (to_rc rfl rfl rfl (g_o hG38 (by rcases hp with rfl | rfl <;> rfl))) rfl ?_)
              have k_87 : (1 : Int32).toInt = 1 := rfl
              have c_88 : M39.2.1 p 2 = (M.2.1 p 2) := (F_n F37 (show ¬ (p = 1 ∧ 5 ≤ 2 ∨ 3 ≤ p ∧ p ≤ 5) by omega) (W_n W33 (by omega) c_32))
              have t_89 : (M39.2.1 p 2).toInt = (M.2.1 p 2).toInt := congrArg Int32.toInt c_88
              have j_90 := (PI_f (tg_112 F37) (PI_f (fun a i z => W_n W33 (by omega) rfl) (PI_f (tg_99 F25) (PI_f (tg_112 F20) (PI_f (fun a i z => W_n W16 (by omega) rfl) (PI_f (tg_112 F8) (PI_f (tg_112 F3) q1)))))))
              refine C_36 hX (dp1 hd (by decide)) hG38 hp (by omega) (by omega) (by omega) j_90 (p := p) (w := (1 : Int32)) (fun r91 M97 hG93 F92 p_94 p_95 p_96 => ?_)
              have F98 := FR.c F40 F92 tg_118
              refine b_ieq (pc := 119) rw_33_119 (A := r91.toInt) rfl (fun h99 => ?_) (fun h99 => ?_)
              · refine to_c (pc := 138) rw_33_138 (x := (0 : Int32)) rfl rfl (to_isn (pc := 139) rw_33_139 (ls2 := [.ref p, .ref 1, .int r24, .int (0 : Int32)]) rfl rfl (to_in (pc := 140) rw_33_140 rfl (b_ine_f (pc := 141) rw_33_141 (A := 0) rfl (by decide) (to_c (pc := 144) rw_33_144 (x := (0 : Int32)) rfl rfl (s_r1 (pc := 145) rw_33_145 (A := 0) rfl (by decide) ?_)))))
                have k_100 : (0 : Int32).toInt = 0 := rfl
                exact h (0 : Int32) M97 hG93 F98 (by decide) (by decide) p_96
              · refine to_in (pc := 122) rw_33_122 rfl (b_ieq_f (pc := 123) rw_33_123 (A := r24.toInt) rfl (by omega) (to_an (pc := 126) rw_33_126 rfl (to_an (pc := 127) rw_33_127 rfl (s_v (pc := 128) rw_33_128 (dp0 hd (by decide)) (ls0 := [.ref p, .ref 1]) rfl (Nat.le_of_ble_eq_true rfl) (Nat.le_of_ble_eq_true rfl) rfl (to_rc rfl rfl rfl (g_o hG93 (by rcases hp with rfl | rfl <;> rfl))) rfl ?_))))
                have c_101 : M97.2.1 p 2 = (M.2.1 p 2) := (F_n F92 (show ¬ (p = 1 ∧ 5 ≤ 2 ∨ 3 ≤ p ∧ p ≤ 5 ∨ 50 ≤ p ∧ p ≤ 57 ∨ 59 ≤ p ∧ p ≤ 66) by omega) c_88)
                have t_102 : (M97.2.1 p 2).toInt = (M.2.1 p 2).toInt := congrArg Int32.toInt c_101
                refine C_38 hX (dp1 hd (by decide)) hG93 hp (by omega) p_96 (p := p) (fun r103 M109 hG105 F104 p_106 p_107 p_108 => ?_)
                have F110 := FR.c F98 F104 tg_118
                refine b_ieq (pc := 131) rw_33_131 (A := r103.toInt) rfl (fun h111 => ?_) (fun h111 => ?_)
                · refine to_c (pc := 138) rw_33_138 (x := (0 : Int32)) rfl rfl (to_isn (pc := 139) rw_33_139 (ls2 := [.ref p, .ref 1, .int r24, .int (0 : Int32)]) rfl rfl (to_in (pc := 140) rw_33_140 rfl (b_ine_f (pc := 141) rw_33_141 (A := 0) rfl (by decide) (to_c (pc := 144) rw_33_144 (x := (0 : Int32)) rfl rfl (s_r1 (pc := 145) rw_33_145 (A := 0) rfl (by decide) ?_)))))
                  have k_112 : (0 : Int32).toInt = 0 := rfl
                  exact h (0 : Int32) M109 hG105 F110 (by decide) (by decide) p_108
                · refine to_c (pc := 134) rw_33_134 (x := (1 : Int32)) rfl rfl (to_go (pc := 135) rw_33_135 (to_isn (pc := 139) rw_33_139 (ls2 := [.ref p, .ref 1, .int r24, .int (1 : Int32)]) rfl rfl (to_in (pc := 140) rw_33_140 rfl (b_ine_t (pc := 141) rw_33_141 (A := 1) rfl (by decide) (to_an (pc := 146) rw_33_146 rfl (to_dupr (pc := 147) rw_33_147 (s_gJ (pc := 148) rw_33_148 hG105 (by rcases hp with rfl | rfl <;> rfl) (fun l113 => to_an (pc := 151) rw_33_151 rfl (s_gR (pc := 152) rw_33_152 hG105 (by rcases hp with rfl | rfl <;> rfl) (v := (p + 3)) (by rcases hp with rfl | rfl <;> rfl) (to_an (pc := 155) rw_33_155 rfl ?_))))))))))
                  have c_114 : M109.2.1 p 2 = (M.2.1 p 2) := (F_n F104 (show ¬ (p = 1 ∧ 5 ≤ 2 ∨ 3 ≤ p ∧ p ≤ 5 ∨ 50 ≤ p ∧ p ≤ 57 ∨ 59 ≤ p ∧ p ≤ 66) by omega) c_101)
                  refine tt_gI (pc := 156) rw_33_156 (g_o hG105 (by rcases hp with rfl | rfl <;> rfl)) (v := (M.2.1 p 2)) c_114 (s_ial (pc := 159) rw_33_159 hG105 (by rcases hp with rfl | rfl <;> rfl) (n := 8) (by rcases hp with rfl | rfl <;> rfl) (by rcases hp with rfl | rfl <;> rfl) (A := (M.2.1 p 2).toInt) rfl (by omega) (by omega) (lo := 0) (hi := 59) (by rcases hp with rfl | rfl <;> rfl) (by rcases hp with rfl | rfl <;> rfl) (fun v115 w_116 _ _ => to_an (pc := 160) rw_33_160 rfl (s_gR (pc := 161) rw_33_161 hG105 (by rcases hp with rfl | rfl <;> rfl) (v := (p + 4)) (by rcases hp with rfl | rfl <;> rfl) (to_an (pc := 164) rw_33_164 rfl (tt_gI (pc := 165) rw_33_165 (g_o hG105 (by rcases hp with rfl | rfl <;> rfl)) (v := (M.2.1 p 2)) c_114 (s_ial (pc := 168) rw_33_168 hG105 (by rcases hp with rfl | rfl <;> rfl) (n := 8) (by rcases hp with rfl | rfl <;> rfl) (by rcases hp with rfl | rfl <;> rfl) (A := (M.2.1 p 2).toInt) rfl (by omega) (by omega) (lo := 0) (hi := 63) (by rcases hp with rfl | rfl <;> rfl) (by rcases hp with rfl | rfl <;> rfl) (fun v117 w_118 _ _ => s_s (pc := 169) rw_33_169 (dp0 hd (by decide)) (ls0 := [.int v115, .int v117]) rfl (Nat.le_of_ble_eq_true rfl) (Nat.le_of_ble_eq_true rfl) rfl (to_rcs rfl rfl) rfl (s_cl (pc := 0) rw_144_0 rfl (fun l119 => to_in (pc := 1) rw_144_1 rfl (to_in (pc := 2) rw_144_2 rfl (s_sub (pc := 3) rw_144_3 (A := v117.toInt) (B := v115.toInt) rfl rfl (by omega) (fun v120 e121 => ?_))))))))))))
                  refine to_c (pc := 4) rw_144_4 (x := (1 : Int32)) rfl rfl (s_add (pc := 5) rw_144_5 (A := v120.toInt) (B := 1) rfl rfl (by omega) (fun v122 e123 => s_anyS (pc := 6) rw_144_6 (fun _ _ => rfl) (fun l124 => s_cl (pc := 7) rw_144_7 rfl (fun l125 => s_anyL (pc := 8) rw_144_8 (fun _ _ => rfl) (fun l126 => to_in (pc := 9) rw_144_9 rfl (s_anyS (pc := 10) rw_144_10 (fun _ _ => rfl) (fun l127 => to_rl (pc := 11) rw_144_11 (s_anyL (pc := 172) rw_33_172 (fun _ _ => rfl) (fun l128 => s_pJ (pc := 173) rw_33_173 hG105 (by rcases hp with rfl | rfl <;> rfl) (fun M130 W129 => ?_))))))))))
                  have hG131 := g_wl hG105 W129
                  have F132 := FR.wl F110 W129 (show p = 1 ∧ 5 ≤ 4 ∨ 3 ≤ p ∧ p ≤ 5 ∨ 49 ≤ p ∧ p ≤ 66 by omega)
                  refine to_an (pc := 176) rw_33_176 rfl (to_dupr (pc := 177) rw_33_177 ?_)
                  have c_133 : M130.2.1 p 2 = (M.2.1 p 2) := (W_l W129 c_114)
                  refine tt_gI (pc := 178) rw_33_178 (g_o hG131 (by rcases hp with rfl | rfl <;> rfl)) (v := (M.2.1 p 2)) c_133 (to_c (pc := 181) rw_33_181 (x := (1 : Int32)) rfl rfl (s_add (pc := 182) rw_33_182 (A := (M.2.1 p 2).toInt) (B := 1) rfl rfl (by omega) (fun v134 e135 => s_pI (pc := 183) rw_33_183 hG131 (by rcases hp with rfl | rfl <;> rfl) (fun M137 W136 => ?_))))
                  have hG138 := g_w hG131 W136 (A := v134.toInt) rfl (lo := 0) (hi := 8) (by rcases hp with rfl | rfl <;> rfl) (by rcases hp with rfl | rfl <;> rfl) (by omega) (by omega)
                  have F139 := FR.w F132 W136 (show p = 1 ∧ 5 ≤ 2 ∨ 3 ≤ p ∧ p ≤ 5 ∨ 49 ≤ p ∧ p ≤ 66 by omega)
                  refine to_c (pc := 186) rw_33_186 (x := (1 : Int32)) rfl rfl (s_r1 (pc := 187) rw_33_187 (A := 1) rfl (by decide) ?_)
                  have j_140 := (PI_f (fun a i z => W_n W136 (by omega) rfl) (PI_f (fun a i z => W_l W129 rfl) p_108))
                  exact h (1 : Int32) M137 hG138 F139 (by decide) (by decide) j_140
            · refine to_c (pc := 111) rw_33_111 (x := (2 : Int32)) rfl rfl (to_go (pc := 112) rw_33_112 (s_v (pc := 116) rw_33_116 (dp0 hd (by decide)) (ls0 := [.ref p, .ref 1, .int (2 : Int32), .null, .null, .null]) rfl (Nat.le_of_ble_eq_true rfl) (Nat.le_of_ble_eq_true rfl) rfl (to_rc rfl rfl rfl (g_o hG38 (by rcases hp with rfl | rfl <;> rfl))) rfl ?_))
              have k_141 : (2 : Int32).toInt = 2 := rfl
              have c_142 : M39.2.1 p 2 = (M.2.1 p 2) := (F_n F37 (show ¬ (p = 1 ∧ 5 ≤ 2 ∨ 3 ≤ p ∧ p ≤ 5) by omega) (W_n W33 (by omega) c_32))
              have t_143 : (M39.2.1 p 2).toInt = (M.2.1 p 2).toInt := congrArg Int32.toInt c_142
              have j_144 := (PI_f (tg_112 F37) (PI_f (fun a i z => W_n W33 (by omega) rfl) (PI_f (tg_99 F25) (PI_f (tg_112 F20) (PI_f (fun a i z => W_n W16 (by omega) rfl) (PI_f (tg_112 F8) (PI_f (tg_112 F3) q1)))))))
              refine C_36 hX (dp1 hd (by decide)) hG38 hp (by omega) (by omega) (by omega) j_144 (p := p) (w := (2 : Int32)) (fun r145 M151 hG147 F146 p_148 p_149 p_150 => ?_)
              have F152 := FR.c F40 F146 tg_118
              refine b_ieq (pc := 119) rw_33_119 (A := r145.toInt) rfl (fun h153 => ?_) (fun h153 => ?_)
              · refine to_c (pc := 138) rw_33_138 (x := (0 : Int32)) rfl rfl (to_isn (pc := 139) rw_33_139 (ls2 := [.ref p, .ref 1, .int r24, .int (0 : Int32)]) rfl rfl (to_in (pc := 140) rw_33_140 rfl (b_ine_f (pc := 141) rw_33_141 (A := 0) rfl (by decide) (to_c (pc := 144) rw_33_144 (x := (0 : Int32)) rfl rfl (s_r1 (pc := 145) rw_33_145 (A := 0) rfl (by decide) ?_)))))
                have k_154 : (0 : Int32).toInt = 0 := rfl
                exact h (0 : Int32) M151 hG147 F152 (by decide) (by decide) p_150
              · refine to_in (pc := 122) rw_33_122 rfl (b_ieq_t (pc := 123) rw_33_123 (A := r24.toInt) rfl (by omega) (to_c (pc := 134) rw_33_134 (x := (1 : Int32)) rfl rfl (to_go (pc := 135) rw_33_135 (to_isn (pc := 139) rw_33_139 (ls2 := [.ref p, .ref 1, .int r24, .int (1 : Int32)]) rfl rfl (to_in (pc := 140) rw_33_140 rfl (b_ine_t (pc := 141) rw_33_141 (A := 1) rfl (by decide) (to_an (pc := 146) rw_33_146 rfl (to_dupr (pc := 147) rw_33_147 (s_gJ (pc := 148) rw_33_148 hG147 (by rcases hp with rfl | rfl <;> rfl) (fun l155 => to_an (pc := 151) rw_33_151 rfl (s_gR (pc := 152) rw_33_152 hG147 (by rcases hp with rfl | rfl <;> rfl) (v := (p + 3)) (by rcases hp with rfl | rfl <;> rfl) ?_)))))))))))
                refine to_an (pc := 155) rw_33_155 rfl ?_
                have c_156 : M151.2.1 p 2 = (M.2.1 p 2) := (F_n F146 (show ¬ (p = 1 ∧ 5 ≤ 2 ∨ 3 ≤ p ∧ p ≤ 5 ∨ 50 ≤ p ∧ p ≤ 57 ∨ 59 ≤ p ∧ p ≤ 66) by omega) c_142)
                refine tt_gI (pc := 156) rw_33_156 (g_o hG147 (by rcases hp with rfl | rfl <;> rfl)) (v := (M.2.1 p 2)) c_156 (s_ial (pc := 159) rw_33_159 hG147 (by rcases hp with rfl | rfl <;> rfl) (n := 8) (by rcases hp with rfl | rfl <;> rfl) (by rcases hp with rfl | rfl <;> rfl) (A := (M.2.1 p 2).toInt) rfl (by omega) (by omega) (lo := 0) (hi := 59) (by rcases hp with rfl | rfl <;> rfl) (by rcases hp with rfl | rfl <;> rfl) (fun v157 w_158 _ _ => to_an (pc := 160) rw_33_160 rfl (s_gR (pc := 161) rw_33_161 hG147 (by rcases hp with rfl | rfl <;> rfl) (v := (p + 4)) (by rcases hp with rfl | rfl <;> rfl) (to_an (pc := 164) rw_33_164 rfl (tt_gI (pc := 165) rw_33_165 (g_o hG147 (by rcases hp with rfl | rfl <;> rfl)) (v := (M.2.1 p 2)) c_156 (s_ial (pc := 168) rw_33_168 hG147 (by rcases hp with rfl | rfl <;> rfl) (n := 8) (by rcases hp with rfl | rfl <;> rfl) (by rcases hp with rfl | rfl <;> rfl) (A := (M.2.1 p 2).toInt) rfl (by omega) (by omega) (lo := 0) (hi := 63) (by rcases hp with rfl | rfl <;> rfl) (by rcases hp with rfl | rfl <;> rfl) (fun v159 w_160 _ _ => s_s (pc := 169) rw_33_169 (dp0 hd (by decide)) (ls0 := [.int v157, .int v159]) rfl (Nat.le_of_ble_eq_true rfl) (Nat.le_of_ble_eq_true rfl) rfl (to_rcs rfl rfl) rfl (s_cl (pc := 0) rw_144_0 rfl (fun l161 => to_in (pc := 1) rw_144_1 rfl (to_in (pc := 2) rw_144_2 rfl (s_sub (pc := 3) rw_144_3 (A := v159.toInt) (B := v157.toInt) rfl rfl (by omega) (fun v162 e163 => ?_))))))))))))
                refine to_c (pc := 4) rw_144_4 (x := (1 : Int32)) rfl rfl (s_add (pc := 5) rw_144_5 (A := v162.toInt) (B := 1) rfl rfl (by omega) (fun v164 e165 => s_anyS (pc := 6) rw_144_6 (fun _ _ => rfl) (fun l166 => s_cl (pc := 7) rw_144_7 rfl (fun l167 => s_anyL (pc := 8) rw_144_8 (fun _ _ => rfl) (fun l168 => to_in (pc := 9) rw_144_9 rfl (s_anyS (pc := 10) rw_144_10 (fun _ _ => rfl) (fun l169 => to_rl (pc := 11) rw_144_11 (s_anyL (pc := 172) rw_33_172 (fun _ _ => rfl) (fun l170 => s_pJ (pc := 173) rw_33_173 hG147 (by rcases hp with rfl | rfl <;> rfl) (fun M172 W171 => ?_))))))))))
                have hG173 := g_wl hG147 W171
                have F174 := FR.wl F152 W171 (show p = 1 ∧ 5 ≤ 4 ∨ 3 ≤ p ∧ p ≤ 5 ∨ 49 ≤ p ∧ p ≤ 66 by omega)
                refine to_an (pc := 176) rw_33_176 rfl (to_dupr (pc := 177) rw_33_177 ?_)
                have c_175 : M172.2.1 p 2 = (M.2.1 p 2) := (W_l W171 c_156)
                refine tt_gI (pc := 178) rw_33_178 (g_o hG173 (by rcases hp with rfl | rfl <;> rfl)) (v := (M.2.1 p 2)) c_175 (to_c (pc := 181) rw_33_181 (x := (1 : Int32)) rfl rfl (s_add (pc := 182) rw_33_182 (A := (M.2.1 p 2).toInt) (B := 1) rfl rfl (by omega) (fun v176 e177 => s_pI (pc := 183) rw_33_183 hG173 (by rcases hp with rfl | rfl <;> rfl) (fun M179 W178 => ?_))))
                have hG180 := g_w hG173 W178 (A := v176.toInt) rfl (lo := 0) (hi := 8) (by rcases hp with rfl | rfl <;> rfl) (by rcases hp with rfl | rfl <;> rfl) (by omega) (by omega)
                have F181 := FR.w F174 W178 (show p = 1 ∧ 5 ≤ 2 ∨ 3 ≤ p ∧ p ≤ 5 ∨ 49 ≤ p ∧ p ≤ 66 by omega)
                refine to_c (pc := 186) rw_33_186 (x := (1 : Int32)) rfl rfl (s_r1 (pc := 187) rw_33_187 (A := 1) rfl (by decide) ?_)
                have k_182 : (1 : Int32).toInt = 1 := rfl
                have j_183 := (PI_f (fun a i z => W_n W178 (by omega) rfl) (PI_f (fun a i z => W_l W171 rfl) p_150))
                exact h (1 : Int32) M179 hG180 F181 (by decide) (by decide) j_183
          · refine to_an (pc := 86) rw_33_86 rfl (to_an (pc := 87) rw_33_87 rfl (to_in (pc := 88) rw_33_88 rfl (to_c (pc := 89) rw_33_89 (x := (1 : Int32)) rfl rfl (b_cne_t (pc := 90) rw_33_90 (A := r24.toInt) (B := 1) rfl rfl (by omega) (to_c (pc := 97) rw_33_97 (x := (5 : Int32)) rfl rfl (s_v (pc := 98) rw_33_98 (dp0 hd (by decide)) (ls0 := [.ref p, .ref 1, .int (5 : Int32), .null, .null]) rfl (Nat.le_of_ble_eq_true rfl) (Nat.le_of_ble_eq_true rfl) rfl (to_rc rfl rfl rfl (g_o hG38 (by rcases hp with rfl | rfl <;> rfl))) rfl ?_))))))
            have k_184 : (5 : Int32).toInt = 5 := rfl
            have c_185 : M39.2.1 p 2 = (M.2.1 p 2) := (F_n F37 (show ¬ (p = 1 ∧ 5 ≤ 2 ∨ 3 ≤ p ∧ p ≤ 5) by omega) (W_n W33 (by omega) c_32))
            have t_186 : (M39.2.1 p 2).toInt = (M.2.1 p 2).toInt := congrArg Int32.toInt c_185
            have j_187 := (PI_f (tg_112 F37) (PI_f (fun a i z => W_n W33 (by omega) rfl) (PI_f (tg_99 F25) (PI_f (tg_112 F20) (PI_f (fun a i z => W_n W16 (by omega) rfl) (PI_f (tg_112 F8) (PI_f (tg_112 F3) q1)))))))
            refine C_37 hX (dp1 hd (by decide)) hG38 hp (by omega) (by omega) (by omega) j_187 (p := p) (w := (5 : Int32)) (fun r188 M194 hG190 F189 p_191 p_192 p_193 => ?_)
            have F195 := FR.c F40 F189 tg_118
            refine to_isn (pc := 101) rw_33_101 (ls2 := [.ref p, .ref 1, .int r24, .int r188]) rfl rfl (to_go (pc := 102) rw_33_102 (to_in (pc := 140) rw_33_140 rfl (b_ine (pc := 141) rw_33_141 (A := r188.toInt) rfl (fun h196 => ?_) (fun h196 => ?_))))
            · refine to_an (pc := 146) rw_33_146 rfl (to_dupr (pc := 147) rw_33_147 (s_gJ (pc := 148) rw_33_148 hG190 (by rcases hp with rfl | rfl <;> rfl) (fun l197 => to_an (pc := 151) rw_33_151 rfl (s_gR (pc := 152) rw_33_152 hG190 (by rcases hp with rfl | rfl <;> rfl) (v := (p + 3)) (by rcases hp with rfl | rfl <;> rfl) (to_an (pc := 155) rw_33_155 rfl ?_)))))
              have c_198 : M194.2.1 p 2 = (M.2.1 p 2) := (F_n F189 (show ¬ (p = 1 ∧ 5 ≤ 2 ∨ 3 ≤ p ∧ p ≤ 5 ∨ 50 ≤ p ∧ p ≤ 57 ∨ 59 ≤ p ∧ p ≤ 66) by omega) c_185)
              refine tt_gI (pc := 156) rw_33_156 (g_o hG190 (by rcases hp with rfl | rfl <;> rfl)) (v := (M.2.1 p 2)) c_198 (s_ial (pc := 159) rw_33_159 hG190 (by rcases hp with rfl | rfl <;> rfl) (n := 8) (by rcases hp with rfl | rfl <;> rfl) (by rcases hp with rfl | rfl <;> rfl) (A := (M.2.1 p 2).toInt) rfl (by omega) (by omega) (lo := 0) (hi := 59) (by rcases hp with rfl | rfl <;> rfl) (by rcases hp with rfl | rfl <;> rfl) (fun v199 w_200 _ _ => to_an (pc := 160) rw_33_160 rfl (s_gR (pc := 161) rw_33_161 hG190 (by rcases hp with rfl | rfl <;> rfl) (v := (p + 4)) (by rcases hp with rfl | rfl <;> rfl) (to_an (pc := 164) rw_33_164 rfl (tt_gI (pc := 165) rw_33_165 (g_o hG190 (by rcases hp with rfl | rfl <;> rfl)) (v := (M.2.1 p 2)) c_198 (s_ial (pc := 168) rw_33_168 hG190 (by rcases hp with rfl | rfl <;> rfl) (n := 8) (by rcases hp with rfl | rfl <;> rfl) (by rcases hp with rfl | rfl <;> rfl) (A := (M.2.1 p 2).toInt) rfl (by omega) (by omega) (lo := 0) (hi := 63) (by rcases hp with rfl | rfl <;> rfl) (by rcases hp with rfl | rfl <;> rfl) (fun v201 w_202 _ _ => s_s (pc := 169) rw_33_169 (dp0 hd (by decide)) (ls0 := [.int v199, .int v201]) rfl (Nat.le_of_ble_eq_true rfl) (Nat.le_of_ble_eq_true rfl) rfl (to_rcs rfl rfl) rfl (s_cl (pc := 0) rw_144_0 rfl (fun l203 => to_in (pc := 1) rw_144_1 rfl (to_in (pc := 2) rw_144_2 rfl (s_sub (pc := 3) rw_144_3 (A := v201.toInt) (B := v199.toInt) rfl rfl (by omega) (fun v204 e205 => ?_))))))))))))
              refine to_c (pc := 4) rw_144_4 (x := (1 : Int32)) rfl rfl (s_add (pc := 5) rw_144_5 (A := v204.toInt) (B := 1) rfl rfl (by omega) (fun v206 e207 => s_anyS (pc := 6) rw_144_6 (fun _ _ => rfl) (fun l208 => s_cl (pc := 7) rw_144_7 rfl (fun l209 => s_anyL (pc := 8) rw_144_8 (fun _ _ => rfl) (fun l210 => to_in (pc := 9) rw_144_9 rfl (s_anyS (pc := 10) rw_144_10 (fun _ _ => rfl) (fun l211 => to_rl (pc := 11) rw_144_11 (s_anyL (pc := 172) rw_33_172 (fun _ _ => rfl) (fun l212 => s_pJ (pc := 173) rw_33_173 hG190 (by rcases hp with rfl | rfl <;> rfl) (fun M214 W213 => ?_))))))))))
              have hG215 := g_wl hG190 W213
              have F216 := FR.wl F195 W213 (show p = 1 ∧ 5 ≤ 4 ∨ 3 ≤ p ∧ p ≤ 5 ∨ 49 ≤ p ∧ p ≤ 66 by omega)
              refine to_an (pc := 176) rw_33_176 rfl (to_dupr (pc := 177) rw_33_177 ?_)
              have c_217 : M214.2.1 p 2 = (M.2.1 p 2) := (W_l W213 c_198)
              refine tt_gI (pc := 178) rw_33_178 (g_o hG215 (by rcases hp with rfl | rfl <;> rfl)) (v := (M.2.1 p 2)) c_217 (to_c (pc := 181) rw_33_181 (x := (1 : Int32)) rfl rfl (s_add (pc := 182) rw_33_182 (A := (M.2.1 p 2).toInt) (B := 1) rfl rfl (by omega) (fun v218 e219 => s_pI (pc := 183) rw_33_183 hG215 (by rcases hp with rfl | rfl <;> rfl) (fun M221 W220 => ?_))))
              have hG222 := g_w hG215 W220 (A := v218.toInt) rfl (lo := 0) (hi := 8) (by rcases hp with rfl | rfl <;> rfl) (by rcases hp with rfl | rfl <;> rfl) (by omega) (by omega)
              have F223 := FR.w F216 W220 (show p = 1 ∧ 5 ≤ 2 ∨ 3 ≤ p ∧ p ≤ 5 ∨ 49 ≤ p ∧ p ≤ 66 by omega)
              refine to_c (pc := 186) rw_33_186 (x := (1 : Int32)) rfl rfl (s_r1 (pc := 187) rw_33_187 (A := 1) rfl (by decide) ?_)
              have k_224 : (1 : Int32).toInt = 1 := rfl
              have j_225 := (PI_f (fun a i z => W_n W220 (by omega) rfl) (PI_f (fun a i z => W_l W213 rfl) p_193))
              exact h (1 : Int32) M221 hG222 F223 (by decide) (by decide) j_225
            · refine to_c (pc := 144) rw_33_144 (x := (0 : Int32)) rfl rfl (s_r1 (pc := 145) rw_33_145 (A := 0) rfl (by decide) ?_)
              have k_226 : (0 : Int32).toInt = 0 := rfl
              exact h (0 : Int32) M194 hG190 F195 (by decide) (by decide) p_193
      · refine to_an (pc := 56) rw_33_56 rfl (to_c (pc := 57) rw_33_57 (x := (1 : Int32)) rfl rfl (s_v (pc := 58) rw_33_58 (dp0 hd (by decide)) (ls0 := [.ref 1, .int (1 : Int32)]) rfl (Nat.le_of_ble_eq_true rfl) (Nat.le_of_ble_eq_true rfl) rfl (to_rc rfl rfl rfl (g_o hG26 rfl)) rfl (to_an (pc := 0) rw_84_0 rfl (to_in (pc := 1) rw_84_1 rfl (s_pI (pc := 2) rw_84_2 hG26 rfl (fun M228 W227 => ?_))))))
        have hG229 := g_wf hG26 W227 rfl rfl (by decide)
        have F230 := FR.w F30 W227 (show 1 = 1 ∧ 5 ≤ 10 ∨ 3 ≤ 1 ∧ 1 ≤ 5 ∨ 49 ≤ 1 ∧ 1 ≤ 66 by decide)
        refine to_an (pc := 5) rw_84_5 rfl (to_an (pc := 6) rw_84_6 rfl ?_)
        have c_231 : M228.2.1 1 9 = (M22.2.1 1 9) := (W_n W227 (by decide) (F_n F25 (show ¬ (1 < 0) by decide) rfl))
        refine tt_gI (pc := 7) rw_84_7 (g_o hG229 rfl) (v := (M22.2.1 1 9)) c_231 (s_pI (pc := 10) rw_84_10 hG229 rfl (fun M233 W232 => ?_))
        have hG234 := g_wf hG229 W232 rfl rfl (by decide)
        have F235 := FR.w F230 W232 (show 1 = 1 ∧ 5 ≤ 11 ∨ 3 ≤ 1 ∧ 1 ≤ 5 ∨ 49 ≤ 1 ∧ 1 ≤ 66 by decide)
        refine to_c (pc := 13) rw_84_13 (x := (0 : Int32)) rfl rfl (s_r1 (pc := 14) rw_84_14 (A := 0) rfl (by decide) (s_r1 (pc := 61) rw_33_61 (A := 0) rfl (by decide) ?_))
        have k_236 : (0 : Int32).toInt = 0 := rfl
        have j_237 := (PI_f (fun a i z => W_n W232 (by /-r1,11-/ omega) rfl) (PI_f (fun a i z => W_n W227 (by /-r1,10-/ omega) rfl) (PI_f (tg_99 F25) (PI_f (tg_112 F20) (PI_f (fun a i z => W_n W16 (by omega) rfl) (PI_f (tg_112 F8) (PI_f (tg_112 F3) q1)))))))
        exact h (0 : Int32) M233 hG234 F235 (by decide) (by decide) j_237
    · refine to_c (pc := 27) rw_33_27 (x := (0 : Int32)) rfl rfl (s_r1 (pc := 28) rw_33_28 (A := 0) rfl (by decide) ?_)
      have k_238 : (0 : Int32).toInt = 0 := rfl
      have j_239 := (PI_f (tg_112 F8) (PI_f (tg_112 F3) q1))
      exact h (0 : Int32) M12 hG9 F13 (by decide) (by decide) j_239
  · refine to_an (pc := 9) rw_33_9 rfl (to_c (pc := 10) rw_33_10 (x := (2 : Int32)) rfl rfl (s_v (pc := 11) rw_33_11 (dp0 hd (by decide)) (ls0 := [.ref 1, .int (2 : Int32)]) rfl (Nat.le_of_ble_eq_true rfl) (Nat.le_of_ble_eq_true rfl) rfl (to_rc rfl rfl rfl (g_o hG rfl)) rfl (to_an (pc := 0) rw_84_0 rfl (to_in (pc := 1) rw_84_1 rfl (s_pI (pc := 2) rw_84_2 hG rfl (fun M241 W240 => ?_))))))
    have hG242 := g_wf hG W240 rfl rfl (by decide)
    have F243 := FR.w F0 W240 (show 1 = 1 ∧ 5 ≤ 10 ∨ 3 ≤ 1 ∧ 1 ≤ 5 ∨ 49 ≤ 1 ∧ 1 ≤ 66 by decide)
    refine to_an (pc := 5) rw_84_5 rfl (to_an (pc := 6) rw_84_6 rfl ?_)
    have c_244 : M241.2.1 1 9 = (M.2.1 1 9) := (W_n W240 (by decide) rfl)
    refine tt_gI (pc := 7) rw_84_7 (g_o hG242 rfl) (v := (M.2.1 1 9)) c_244 (s_pI (pc := 10) rw_84_10 hG242 rfl (fun M246 W245 => ?_))
    have hG247 := g_wf hG242 W245 rfl rfl (by decide)
    have F248 := FR.w F243 W245 (show 1 = 1 ∧ 5 ≤ 11 ∨ 3 ≤ 1 ∧ 1 ≤ 5 ∨ 49 ≤ 1 ∧ 1 ≤ 66 by decide)
    refine to_c (pc := 13) rw_84_13 (x := (0 : Int32)) rfl rfl (s_r1 (pc := 14) rw_84_14 (A := 0) rfl (by decide) (s_r1 (pc := 14) rw_33_14 (A := 0) rfl (by decide) ?_))
    have k_249 : (0 : Int32).toInt = 0 := rfl
    have j_250 := (PI_f (fun a i z => W_n W245 (by /-r1,11-/ omega) rfl) (PI_f (fun a i z => W_n W240 (by /-r1,10-/ omega) rfl) q1))
    exact h (0 : Int32) M246 hG247 F248 (by decide) (by decide) j_250
set_option maxRecDepth 4000 in
set_option maxHeartbeats 0 in
theorem T_42_0 {X : mm_X} {d : Nat} {M : mm_M} {Q : Option Value → mm_M → Prop} {p : Nat} {f : Int32} (hX : g_X X) (hd : 2 ≤ d) (hp : p = 49 ∨ p = 58) (q1 : 0 ≤ f.toInt) (q2 : f.toInt ≤ 7) (q3 : (M.2.1 p 3).toInt ≤ 11) (h : ∀ (r : Int32) (M1 : mm_M), g_G M1 → FR md_c42 M M1 → (0 ≤ r.toInt) → (r.toInt ≤ 1) → Q (some (.int r)) M1) : ∀ nn9 : Nat, (∀ (N : mm_M) (y3 : Int64) (x5 : Int32) (u6 : Value) (u7 : Value) (u8 : Value), g_G N → FR md_c42 M N → (0 ≤ x5.toInt) → (x5.toInt ≤ 25) → (0 ≤ f.toInt) → (f.toInt ≤ 7) → ((N.2.1 p 3).toInt ≤ 11) → 25 - x5.toInt < (nn9 : Int) → mm_T X d 42 5 [.ref p, .ref 1, .int f, .long y3, .null, .int x5, u6, u7, u8] [] N Q) := by
  intro nn9
  induction nn9 with
  | zero =>
    intro N y3 x5 u6 u7 u8 hG F0 g1 g2 g3 g4 g5 hm
    have b_1 := g_b hG (a := p) (i := 3) (lo := 0) (hi := 12) (by rcases hp with rfl | rfl <;> rfl) (by rcases hp with rfl | rfl <;> rfl)
    exfalso; omega
  | succ nn9 ih =>
    intro N y3 x5 u6 u7 u8 hG F0 g1 g2 g3 g4 g5 hm
    have b_2 := g_b hG (a := p) (i := 3) (lo := 0) (hi := 12) (by rcases hp with rfl | rfl <;> rfl) (by rcases hp with rfl | rfl <;> rfl)
    refine to_i (pc := 5) rw_42_5 rfl (b_ieq (pc := 7) rw_42_7 (A := x5.toInt) rfl (fun h3 => ?_) (fun h3 => ?_))
    · refine to_i (pc := 29) rw_42_29 rfl (to_an (pc := 31) rw_42_31 rfl (s_gR (pc := 32) rw_42_32 hG (by rcases hp with rfl | rfl <;> rfl) (v := (p + 5)) (by rcases hp with rfl | rfl <;> rfl) (to_in (pc := 35) rw_42_35 rfl (s_ial (pc := 36) rw_42_36 hG (by rcases hp with rfl | rfl <;> rfl) (n := 8) (by rcases hp with rfl | rfl <;> rfl) (by rcases hp with rfl | rfl <;> rfl) (A := f.toInt) rfl (by omega) (by omega) (lo := 0) (hi := 24) (by rcases hp with rfl | rfl <;> rfl) (by rcases hp with rfl | rfl <;> rfl) (fun v4 w_5 _ _ => b_cge (pc := 37) rw_42_37 (A := x5.toInt) (B := v4.toInt) rfl rfl (fun h6 => ?_) (fun h6 => ?_))))))
      · refine to_c (pc := 50) rw_42_50 (x := (-1 : Int32)) rfl rfl (to_is (pc := 51) rw_42_51 (ls2 := [.ref p, .ref 1, .int f, .long y3, .null, .int x5, .int (-1 : Int32), u7, u8]) rfl rfl (to_an (pc := 53) rw_42_53 rfl (to_c (pc := 54) rw_42_54 (x := (0 : Int32)) rfl rfl (to_i (pc := 55) rw_42_55 rfl (s_v (pc := 57) rw_42_57 (dp0 hd (by decide)) (ls0 := [.ref 1, .int (0 : Int32), .int (-1 : Int32)]) rfl (Nat.le_of_ble_eq_true rfl) (Nat.le_of_ble_eq_true rfl) rfl (to_rc rfl rfl rfl (g_o hG rfl)) rfl (to_an (pc := 0) rw_88_0 rfl (tt_gI (pc := 1) rw_88_1 (g_o hG rfl) (v := (N.2.1 1 7)) rfl (to_c (pc := 4) rw_88_4 (x := (2 : Int32)) rfl rfl (b_ceq (pc := 5) rw_88_5 (A := (N.2.1 1 7).toInt) (B := 2) rfl rfl (fun h7 => ?_) (fun h7 => ?_))))))))))
        · refine to_an (pc := 14) rw_88_14 rfl (tt_gI (pc := 15) rw_88_15 (g_o hG rfl) (v := (N.2.1 1 8)) rfl (to_in (pc := 18) rw_88_18 rfl (b_clt (pc := 19) rw_88_19 (A := (N.2.1 1 8).toInt) (B := 0) rfl rfl (fun h8 => ?_) (fun h8 => ?_))))
          · refine to_an (pc := 30) rw_88_30 rfl (to_c (pc := 31) rw_88_31 (x := (2 : Int32)) rfl rfl (s_v (pc := 32) rw_88_32 (dp1 hd (by decide)) (ls0 := [.ref 1, .int (2 : Int32)]) rfl (Nat.le_of_ble_eq_true rfl) (Nat.le_of_ble_eq_true rfl) rfl (to_rc rfl rfl rfl (g_o hG rfl)) rfl (to_an (pc := 0) rw_84_0 rfl (to_in (pc := 1) rw_84_1 rfl (s_pI (pc := 2) rw_84_2 hG rfl (fun M10 W9 => ?_))))))
            have hG11 := g_wf hG W9 rfl rfl (by decide)
            have F12 := FR.w F0 W9 (show 1 = 1 ∧ 5 ≤ 10 ∨ 3 ≤ 1 ∧ 1 ≤ 5 ∨ 1 = 57 ∨ 1 = 66 by decide)
            refine to_an (pc := 5) rw_84_5 rfl (to_an (pc := 6) rw_84_6 rfl ?_)
            have c_13 : M10.2.1 1 9 = (N.2.1 1 9) := (W_n W9 (by decide) rfl)
            refine tt_gI (pc := 7) rw_84_7 (g_o hG11 rfl) (v := (N.2.1 1 9)) c_13 (s_pI (pc := 10) rw_84_10 hG11 rfl (fun M15 W14 => ?_))
            have hG16 := g_wf hG11 W14 rfl rfl (by decide)
            have F17 := FR.w F12 W14 (show 1 = 1 ∧ 5 ≤ 11 ∨ 3 ≤ 1 ∧ 1 ≤ 5 ∨ 1 = 57 ∨ 1 = 66 by decide)
            refine to_c (pc := 13) rw_84_13 (x := (0 : Int32)) rfl rfl (s_r1 (pc := 14) rw_84_14 (A := 0) rfl (by decide) (b_ieq_t (pc := 35) rw_88_35 (A := 0) rfl (by decide) (to_c (pc := 42) rw_88_42 (x := (0 : Int32)) rfl rfl (s_r1 (pc := 43) rw_88_43 (A := 0) rfl (by decide) (b_ine_f (pc := 60) rw_42_60 (A := 0) rfl (by decide) (to_c (pc := 63) rw_42_63 (x := (0 : Int32)) rfl rfl (s_r1 (pc := 64) rw_42_64 (A := 0) rfl (by decide) ?_)))))))
            have k_18 : (0 : Int32).toInt = 0 := rfl
            exact h (0 : Int32) M15 hG16 F17 (by decide) (by decide)
          · refine to_an (pc := 22) rw_88_22 rfl (tt_gI (pc := 23) rw_88_23 (g_o hG rfl) (v := (N.2.1 1 8)) rfl (to_in (pc := 26) rw_88_26 rfl (b_cle_f (pc := 27) rw_88_27 (A := (N.2.1 1 8).toInt) (B := -1) rfl rfl (by omega) (to_an (pc := 30) rw_88_30 rfl (to_c (pc := 31) rw_88_31 (x := (2 : Int32)) rfl rfl (s_v (pc := 32) rw_88_32 (dp1 hd (by decide)) (ls0 := [.ref 1, .int (2 : Int32)]) rfl (Nat.le_of_ble_eq_true rfl) (Nat.le_of_ble_eq_true rfl) rfl (to_rc rfl rfl rfl (g_o hG rfl)) rfl (to_an (pc := 0) rw_84_0 rfl (to_in (pc := 1) rw_84_1 rfl (s_pI (pc := 2) rw_84_2 hG rfl (fun M20 W19 => ?_))))))))))
            have hG21 := g_wf hG W19 rfl rfl (by decide)
            have F22 := FR.w F0 W19 (show 1 = 1 ∧ 5 ≤ 10 ∨ 3 ≤ 1 ∧ 1 ≤ 5 ∨ 1 = 57 ∨ 1 = 66 by decide)
            refine to_an (pc := 5) rw_84_5 rfl (to_an (pc := 6) rw_84_6 rfl ?_)
            have c_23 : M20.2.1 1 9 = (N.2.1 1 9) := (W_n W19 (by decide) rfl)
            refine tt_gI (pc := 7) rw_84_7 (g_o hG21 rfl) (v := (N.2.1 1 9)) c_23 (s_pI (pc := 10) rw_84_10 hG21 rfl (fun M25 W24 => ?_))
            have hG26 := g_wf hG21 W24 rfl rfl (by decide)
            have F27 := FR.w F22 W24 (show 1 = 1 ∧ 5 ≤ 11 ∨ 3 ≤ 1 ∧ 1 ≤ 5 ∨ 1 = 57 ∨ 1 = 66 by decide)
            refine to_c (pc := 13) rw_84_13 (x := (0 : Int32)) rfl rfl (s_r1 (pc := 14) rw_84_14 (A := 0) rfl (by decide) (b_ieq_t (pc := 35) rw_88_35 (A := 0) rfl (by decide) (to_c (pc := 42) rw_88_42 (x := (0 : Int32)) rfl rfl (s_r1 (pc := 43) rw_88_43 (A := 0) rfl (by decide) (b_ine_f (pc := 60) rw_42_60 (A := 0) rfl (by decide) (to_c (pc := 63) rw_42_63 (x := (0 : Int32)) rfl rfl (s_r1 (pc := 64) rw_42_64 (A := 0) rfl (by decide) ?_)))))))
            have k_28 : (0 : Int32).toInt = 0 := rfl
            exact h (0 : Int32) M25 hG26 F27 (by decide) (by decide)
        · refine to_an (pc := 8) rw_88_8 rfl (to_c (pc := 9) rw_88_9 (x := (1 : Int32)) rfl rfl (s_v (pc := 10) rw_88_10 (dp1 hd (by decide)) (ls0 := [.ref 1, .int (1 : Int32)]) rfl (Nat.le_of_ble_eq_true rfl) (Nat.le_of_ble_eq_true rfl) rfl (to_rc rfl rfl rfl (g_o hG rfl)) rfl (to_an (pc := 0) rw_84_0 rfl (to_in (pc := 1) rw_84_1 rfl (s_pI (pc := 2) rw_84_2 hG rfl (fun M30 W29 => ?_))))))
          have hG31 := g_wf hG W29 rfl rfl (by decide)
          have F32 := FR.w F0 W29 (show 1 = 1 ∧ 5 ≤ 10 ∨ 3 ≤ 1 ∧ 1 ≤ 5 ∨ 1 = 57 ∨ 1 = 66 by decide)
          refine to_an (pc := 5) rw_84_5 rfl (to_an (pc := 6) rw_84_6 rfl ?_)
          have c_33 : M30.2.1 1 9 = (N.2.1 1 9) := (W_n W29 (by decide) rfl)
          refine tt_gI (pc := 7) rw_84_7 (g_o hG31 rfl) (v := (N.2.1 1 9)) c_33 (s_pI (pc := 10) rw_84_10 hG31 rfl (fun M35 W34 => ?_))
          have hG36 := g_wf hG31 W34 rfl rfl (by decide)
          have F37 := FR.w F32 W34 (show 1 = 1 ∧ 5 ≤ 11 ∨ 3 ≤ 1 ∧ 1 ≤ 5 ∨ 1 = 57 ∨ 1 = 66 by decide)
          refine to_c (pc := 13) rw_84_13 (x := (0 : Int32)) rfl rfl (s_r1 (pc := 14) rw_84_14 (A := 0) rfl (by decide) (s_r1 (pc := 13) rw_88_13 (A := 0) rfl (by decide) (b_ine_f (pc := 60) rw_42_60 (A := 0) rfl (by decide) (to_c (pc := 63) rw_42_63 (x := (0 : Int32)) rfl rfl (s_r1 (pc := 64) rw_42_64 (A := 0) rfl (by decide) ?_)))))
          have k_38 : (0 : Int32).toInt = 0 := rfl
          exact h (0 : Int32) M35 hG36 F37 (by decide) (by decide)
      · refine to_an (pc := 40) rw_42_40 rfl (to_in (pc := 41) rw_42_41 rfl (s_v (pc := 42) rw_42_42 (dp0 hd (by decide)) (ls0 := [.ref p, .int f]) rfl (Nat.le_of_ble_eq_true rfl) (Nat.le_of_ble_eq_true rfl) rfl (to_rc rfl rfl rfl (g_o hG (by rcases hp with rfl | rfl <;> rfl))) rfl (to_an (pc := 0) rw_47_0 rfl (s_gR (pc := 1) rw_47_1 hG (by rcases hp with rfl | rfl <;> rfl) (v := (p + 4)) (by rcases hp with rfl | rfl <;> rfl) (to_in (pc := 4) rw_47_4 rfl (s_ial (pc := 5) rw_47_5 hG (by rcases hp with rfl | rfl <;> rfl) (n := 8) (by rcases hp with rfl | rfl <;> rfl) (by rcases hp with rfl | rfl <;> rfl) (A := f.toInt) rfl (by omega) (by omega) (lo := 0) (hi := 63) (by rcases hp with rfl | rfl <;> rfl) (by rcases hp with rfl | rfl <;> rfl) (fun v39 w_40 _ _ => to_an (pc := 6) rw_47_6 rfl (s_gR (pc := 7) rw_47_7 hG (by rcases hp with rfl | rfl <;> rfl) (v := (p + 3)) (by rcases hp with rfl | rfl <;> rfl) (to_in (pc := 10) rw_47_10 rfl (s_ial (pc := 11) rw_47_11 hG (by rcases hp with rfl | rfl <;> rfl) (n := 8) (by rcases hp with rfl | rfl <;> rfl) (by rcases hp with rfl | rfl <;> rfl) (A := f.toInt) rfl (by omega) (by omega) (lo := 0) (hi := 59) (by rcases hp with rfl | rfl <;> rfl) (by rcases hp with rfl | rfl <;> rfl) (fun v41 w_42 _ _ => s_sub (pc := 12) rw_47_12 (A := v39.toInt) (B := v41.toInt) rfl rfl (by omega) (fun v43 e44 => ?_))))))))))))
        refine to_c (pc := 13) rw_47_13 (x := (1 : Int32)) rfl rfl (s_add (pc := 14) rw_47_14 (A := v43.toInt) (B := 1) rfl rfl (by omega) (fun v45 e46 => to_r0 (pc := 15) rw_47_15 (to_c (pc := 45) rw_42_45 (x := (1 : Int32)) rfl rfl (s_sub (pc := 46) rw_42_46 (A := v45.toInt) (B := 1) rfl rfl (by omega) (fun v47 e48 => to_go (pc := 47) rw_42_47 (to_is (pc := 51) rw_42_51 (ls2 := [.ref p, .ref 1, .int f, .long y3, .null, .int x5, .int v47, u7, u8]) rfl rfl (to_an (pc := 53) rw_42_53 rfl (to_c (pc := 54) rw_42_54 (x := (0 : Int32)) rfl rfl (to_i (pc := 55) rw_42_55 rfl (s_v (pc := 57) rw_42_57 (dp0 hd (by decide)) (ls0 := [.ref 1, .int (0 : Int32), .int v47]) rfl (Nat.le_of_ble_eq_true rfl) (Nat.le_of_ble_eq_true rfl) rfl (to_rc rfl rfl rfl (g_o hG rfl)) rfl (to_an (pc := 0) rw_88_0 rfl ?_)))))))))))
        refine tt_gI (pc := 1) rw_88_1 (g_o hG rfl) (v := (N.2.1 1 7)) rfl (to_c (pc := 4) rw_88_4 (x := (2 : Int32)) rfl rfl (b_ceq (pc := 5) rw_88_5 (A := (N.2.1 1 7).toInt) (B := 2) rfl rfl (fun h49 => ?_) (fun h49 => ?_)))
        · refine to_an (pc := 14) rw_88_14 rfl (tt_gI (pc := 15) rw_88_15 (g_o hG rfl) (v := (N.2.1 1 8)) rfl (to_in (pc := 18) rw_88_18 rfl (b_clt (pc := 19) rw_88_19 (A := (N.2.1 1 8).toInt) (B := 0) rfl rfl (fun h50 => ?_) (fun h50 => ?_))))
          · refine to_an (pc := 30) rw_88_30 rfl (to_c (pc := 31) rw_88_31 (x := (2 : Int32)) rfl rfl (s_v (pc := 32) rw_88_32 (dp1 hd (by decide)) (ls0 := [.ref 1, .int (2 : Int32)]) rfl (Nat.le_of_ble_eq_true rfl) (Nat.le_of_ble_eq_true rfl) rfl (to_rc rfl rfl rfl (g_o hG rfl)) rfl (to_an (pc := 0) rw_84_0 rfl (to_in (pc := 1) rw_84_1 rfl (s_pI (pc := 2) rw_84_2 hG rfl (fun M52 W51 => ?_))))))
            have hG53 := g_wf hG W51 rfl rfl (by decide)
            have F54 := FR.w F0 W51 (show 1 = 1 ∧ 5 ≤ 10 ∨ 3 ≤ 1 ∧ 1 ≤ 5 ∨ 1 = 57 ∨ 1 = 66 by decide)
            refine to_an (pc := 5) rw_84_5 rfl (to_an (pc := 6) rw_84_6 rfl ?_)
            have c_55 : M52.2.1 1 9 = (N.2.1 1 9) := (W_n W51 (by decide) rfl)
            refine tt_gI (pc := 7) rw_84_7 (g_o hG53 rfl) (v := (N.2.1 1 9)) c_55 (s_pI (pc := 10) rw_84_10 hG53 rfl (fun M57 W56 => ?_))
            have hG58 := g_wf hG53 W56 rfl rfl (by decide)
            have F59 := FR.w F54 W56 (show 1 = 1 ∧ 5 ≤ 11 ∨ 3 ≤ 1 ∧ 1 ≤ 5 ∨ 1 = 57 ∨ 1 = 66 by decide)
            refine to_c (pc := 13) rw_84_13 (x := (0 : Int32)) rfl rfl (s_r1 (pc := 14) rw_84_14 (A := 0) rfl (by decide) (b_ieq_t (pc := 35) rw_88_35 (A := 0) rfl (by decide) (to_c (pc := 42) rw_88_42 (x := (0 : Int32)) rfl rfl (s_r1 (pc := 43) rw_88_43 (A := 0) rfl (by decide) (b_ine_f (pc := 60) rw_42_60 (A := 0) rfl (by decide) (to_c (pc := 63) rw_42_63 (x := (0 : Int32)) rfl rfl (s_r1 (pc := 64) rw_42_64 (A := 0) rfl (by decide) ?_)))))))
            have k_60 : (0 : Int32).toInt = 0 := rfl
            exact h (0 : Int32) M57 hG58 F59 (by decide) (by decide)
          · refine to_an (pc := 22) rw_88_22 rfl (tt_gI (pc := 23) rw_88_23 (g_o hG rfl) (v := (N.2.1 1 8)) rfl (to_in (pc := 26) rw_88_26 rfl (b_cle (pc := 27) rw_88_27 (A := (N.2.1 1 8).toInt) (B := v47.toInt) rfl rfl (fun h61 => ?_) (fun h61 => ?_))))
            · refine to_c (pc := 38) rw_88_38 (x := (1 : Int32)) rfl rfl (to_go (pc := 39) rw_88_39 (s_r1 (pc := 43) rw_88_43 (A := 1) rfl (by decide) (b_ine_t (pc := 60) rw_42_60 (A := 1) rfl (by decide) (s_cl (pc := 65) rw_42_65 rfl (fun l62 => to_an (pc := 66) rw_42_66 rfl (s_gR (pc := 67) rw_42_67 hG (by rcases hp with rfl | rfl <;> rfl) (v := (p + 3)) (by rcases hp with rfl | rfl <;> rfl) (to_in (pc := 70) rw_42_70 rfl (s_ialk (pc := 71) rw_42_71 hG (by rcases hp with rfl | rfl <;> rfl) (n := 8) (by rcases hp with rfl | rfl <;> rfl) (by rcases hp with rfl | rfl <;> rfl) (A := f.toInt) rfl (by omega) (by omega) (v := v41) w_42 (to_an (pc := 72) rw_42_72 rfl (tt_gI (pc := 73) rw_42_73 (g_o hG rfl) (v := (N.2.1 1 8)) rfl (s_add (pc := 76) rw_42_76 (A := v41.toInt) (B := (N.2.1 1 8).toInt) rfl rfl (by omega) (fun v65 e66 => ?_))))))))))))
              refine s_anyS (pc := 77) rw_42_77 (fun _ _ => rfl) (fun l67 => to_ls (pc := 78) rw_42_78 (ls2 := [.ref p, .ref 1, .int f, .long y3, .null, .int x5, .int v47, .long l67, .null]) rfl rfl (to_ln (pc := 80) rw_42_80 rfl rfl rfl (to_l (pc := 81) rw_42_81 rfl rfl rfl (s_anyL (pc := 83) rw_42_83 (fun _ _ => rfl) (fun l68 => s_cl (pc := 84) rw_42_84 rfl (fun l69 => s_lcmp (pc := 85) rw_42_85 (fun v70 => b_ieq (pc := 86) rw_42_86 (A := v70.toInt) rfl (fun h71 => ?_) (fun h71 => ?_))))))))
              · refine to_ln (pc := 95) rw_42_95 rfl rfl rfl (to_l (pc := 96) rw_42_96 rfl rfl rfl (s_anyL (pc := 98) rw_42_98 (fun _ _ => rfl) (fun l72 => to_lsn (pc := 99) rw_42_99 (ls2 := [.ref p, .ref 1, .int f, .long l72, .null, .int x5, .int v47, .long l67, .null]) rfl rfl (s_inc (pc := 100) rw_42_100 (ls2 := fun v => [.ref p, .ref 1, .int f, .long l72, .null, .int v, .int v47, .long l67, .null]) rfl rfl (fun _ => rfl) (A := x5.toInt) (B := 1) rfl rfl (by omega) (fun v73 e74 => to_an (pc := 103) rw_42_103 rfl (s_v (pc := 104) rw_42_104 (dp0 hd (by decide)) (ls0 := [.ref 1]) rfl (Nat.le_of_ble_eq_true rfl) (Nat.le_of_ble_eq_true rfl) rfl (to_rc rfl rfl rfl (g_o hG rfl)) rfl (C_83 hX (dp1 hd (by decide)) hG  (fun M77 hG76 F75 => ?_))))))))
                have F78 := FR.c F0 F75 tg_119
                refine to_go (pc := 107) rw_42_107 ?_
                have c_79 : M77.2.1 p 3 = (N.2.1 p 3) := (F_n F75 (show ¬ (p = 1 ∧ 5 ≤ 3 ∨ 3 ≤ p ∧ p ≤ 5) by omega) rfl)
                have t_80 : (M77.2.1 p 3).toInt = (N.2.1 p 3).toInt := congrArg Int32.toInt c_79
                exact ih M77 l72 v73 (.int v47) (.long l67) (.null) hG76 F78 (by omega) (by omega) (by omega) (by omega) (by omega) (by omega)
              · refine to_an (pc := 89) rw_42_89 rfl (to_c (pc := 90) rw_42_90 (x := (3 : Int32)) rfl rfl (s_v (pc := 91) rw_42_91 (dp0 hd (by decide)) (ls0 := [.ref 1, .int (3 : Int32)]) rfl (Nat.le_of_ble_eq_true rfl) (Nat.le_of_ble_eq_true rfl) rfl (to_rc rfl rfl rfl (g_o hG rfl)) rfl (to_an (pc := 0) rw_84_0 rfl (to_in (pc := 1) rw_84_1 rfl (s_pI (pc := 2) rw_84_2 hG rfl (fun M82 W81 => ?_))))))
                have hG83 := g_wf hG W81 rfl rfl (by decide)
                have F84 := FR.w F0 W81 (show 1 = 1 ∧ 5 ≤ 10 ∨ 3 ≤ 1 ∧ 1 ≤ 5 ∨ 1 = 57 ∨ 1 = 66 by decide)
                refine to_an (pc := 5) rw_84_5 rfl (to_an (pc := 6) rw_84_6 rfl ?_)
                have c_85 : M82.2.1 1 9 = (N.2.1 1 9) := (W_n W81 (by decide) rfl)
                refine tt_gI (pc := 7) rw_84_7 (g_o hG83 rfl) (v := (N.2.1 1 9)) c_85 (s_pI (pc := 10) rw_84_10 hG83 rfl (fun M87 W86 => ?_))
                have hG88 := g_wf hG83 W86 rfl rfl (by decide)
                have F89 := FR.w F84 W86 (show 1 = 1 ∧ 5 ≤ 11 ∨ 3 ≤ 1 ∧ 1 ≤ 5 ∨ 1 = 57 ∨ 1 = 66 by decide)
                refine to_c (pc := 13) rw_84_13 (x := (0 : Int32)) rfl rfl (s_r1 (pc := 14) rw_84_14 (A := 0) rfl (by decide) (s_r1 (pc := 94) rw_42_94 (A := 0) rfl (by decide) ?_))
                have k_90 : (0 : Int32).toInt = 0 := rfl
                exact h (0 : Int32) M87 hG88 F89 (by decide) (by decide)
            · refine to_an (pc := 30) rw_88_30 rfl (to_c (pc := 31) rw_88_31 (x := (2 : Int32)) rfl rfl (s_v (pc := 32) rw_88_32 (dp1 hd (by decide)) (ls0 := [.ref 1, .int (2 : Int32)]) rfl (Nat.le_of_ble_eq_true rfl) (Nat.le_of_ble_eq_true rfl) rfl (to_rc rfl rfl rfl (g_o hG rfl)) rfl (to_an (pc := 0) rw_84_0 rfl (to_in (pc := 1) rw_84_1 rfl (s_pI (pc := 2) rw_84_2 hG rfl (fun M92 W91 => ?_))))))
              have hG93 := g_wf hG W91 rfl rfl (by decide)
              have F94 := FR.w F0 W91 (show 1 = 1 ∧ 5 ≤ 10 ∨ 3 ≤ 1 ∧ 1 ≤ 5 ∨ 1 = 57 ∨ 1 = 66 by decide)
              refine to_an (pc := 5) rw_84_5 rfl (to_an (pc := 6) rw_84_6 rfl ?_)
              have c_95 : M92.2.1 1 9 = (N.2.1 1 9) := (W_n W91 (by decide) rfl)
              refine tt_gI (pc := 7) rw_84_7 (g_o hG93 rfl) (v := (N.2.1 1 9)) c_95 (s_pI (pc := 10) rw_84_10 hG93 rfl (fun M97 W96 => ?_))
              have hG98 := g_wf hG93 W96 rfl rfl (by decide)
              have F99 := FR.w F94 W96 (show 1 = 1 ∧ 5 ≤ 11 ∨ 3 ≤ 1 ∧ 1 ≤ 5 ∨ 1 = 57 ∨ 1 = 66 by decide)
              refine to_c (pc := 13) rw_84_13 (x := (0 : Int32)) rfl rfl (s_r1 (pc := 14) rw_84_14 (A := 0) rfl (by decide) (b_ieq_t (pc := 35) rw_88_35 (A := 0) rfl (by decide) (to_c (pc := 42) rw_88_42 (x := (0 : Int32)) rfl rfl (s_r1 (pc := 43) rw_88_43 (A := 0) rfl (by decide) (b_ine_f (pc := 60) rw_42_60 (A := 0) rfl (by decide) (to_c (pc := 63) rw_42_63 (x := (0 : Int32)) rfl rfl (s_r1 (pc := 64) rw_42_64 (A := 0) rfl (by decide) ?_)))))))
              have k_100 : (0 : Int32).toInt = 0 := rfl
              exact h (0 : Int32) M97 hG98 F99 (by decide) (by decide)
        · refine to_an (pc := 8) rw_88_8 rfl (to_c (pc := 9) rw_88_9 (x := (1 : Int32)) rfl rfl (s_v (pc := 10) rw_88_10 (dp1 hd (by decide)) (ls0 := [.ref 1, .int (1 : Int32)]) rfl (Nat.le_of_ble_eq_true rfl) (Nat.le_of_ble_eq_true rfl) rfl (to_rc rfl rfl rfl (g_o hG rfl)) rfl (to_an (pc := 0) rw_84_0 rfl (to_in (pc := 1) rw_84_1 rfl (s_pI (pc := 2) rw_84_2 hG rfl (fun M102 W101 => ?_))))))
          have hG103 := g_wf hG W101 rfl rfl (by decide)
          have F104 := FR.w F0 W101 (show 1 = 1 ∧ 5 ≤ 10 ∨ 3 ≤ 1 ∧ 1 ≤ 5 ∨ 1 = 57 ∨ 1 = 66 by decide)
          refine to_an (pc := 5) rw_84_5 rfl (to_an (pc := 6) rw_84_6 rfl ?_)
          have c_105 : M102.2.1 1 9 = (N.2.1 1 9) := (W_n W101 (by decide) rfl)
          refine tt_gI (pc := 7) rw_84_7 (g_o hG103 rfl) (v := (N.2.1 1 9)) c_105 (s_pI (pc := 10) rw_84_10 hG103 rfl (fun M107 W106 => ?_))
          have hG108 := g_wf hG103 W106 rfl rfl (by decide)
          have F109 := FR.w F104 W106 (show 1 = 1 ∧ 5 ≤ 11 ∨ 3 ≤ 1 ∧ 1 ≤ 5 ∨ 1 = 57 ∨ 1 = 66 by decide)
          refine to_c (pc := 13) rw_84_13 (x := (0 : Int32)) rfl rfl (s_r1 (pc := 14) rw_84_14 (A := 0) rfl (by decide) (s_r1 (pc := 13) rw_88_13 (A := 0) rfl (by decide) (b_ine_f (pc := 60) rw_42_60 (A := 0) rfl (by decide) (to_c (pc := 63) rw_42_63 (x := (0 : Int32)) rfl rfl (s_r1 (pc := 64) rw_42_64 (A := 0) rfl (by decide) ?_)))))
          have k_110 : (0 : Int32).toInt = 0 := rfl
          exact h (0 : Int32) M107 hG108 F109 (by decide) (by decide)
    · refine to_i (pc := 10) rw_42_10 rfl (to_an (pc := 12) rw_42_12 rfl (s_gR (pc := 13) rw_42_13 hG (by rcases hp with rfl | rfl <;> rfl) (v := (p + 5)) (by rcases hp with rfl | rfl <;> rfl) (to_in (pc := 16) rw_42_16 rfl (s_ial (pc := 17) rw_42_17 hG (by rcases hp with rfl | rfl <;> rfl) (n := 8) (by rcases hp with rfl | rfl <;> rfl) (by rcases hp with rfl | rfl <;> rfl) (A := f.toInt) rfl (by omega) (by omega) (lo := 0) (hi := 24) (by rcases hp with rfl | rfl <;> rfl) (by rcases hp with rfl | rfl <;> rfl) (fun v111 w_112 _ _ => b_cgt (pc := 18) rw_42_18 (A := x5.toInt) (B := v111.toInt) rfl rfl (fun h113 => ?_) (fun h113 => ?_))))))
      · refine to_an (pc := 110) rw_42_110 rfl (s_gR (pc := 111) rw_42_111 hG (by rcases hp with rfl | rfl <;> rfl) (v := (p + 8)) (by rcases hp with rfl | rfl <;> rfl) (to_an (pc := 114) rw_42_114 rfl (tt_gI (pc := 115) rw_42_115 (g_o hG (by rcases hp with rfl | rfl <;> rfl)) (v := (N.2.1 p 3)) rfl (to_ln (pc := 118) rw_42_118 rfl rfl rfl (s_las (pc := 119) rw_42_119 hG (by rcases hp with rfl | rfl <;> rfl) (n := 12) (by rcases hp with rfl | rfl <;> rfl) (A := (N.2.1 p 3).toInt) rfl (by omega) (by omega) (fun M115 W114 => ?_))))))
        have hG116 := g_wl hG W114
        have F117 := FR.wl F0 W114 (show (p + 8) = 1 ∧ 5 ≤ ((N.2.1 p 3).toInt).toNat ∨ 3 ≤ (p + 8) ∧ (p + 8) ≤ 5 ∨ (p + 8) = 57 ∨ (p + 8) = 66 by omega)
        refine to_i (pc := 120) rw_42_120 rfl (to_an (pc := 122) rw_42_122 rfl (s_gR (pc := 123) rw_42_123 hG116 (by rcases hp with rfl | rfl <;> rfl) (v := (p + 5)) (by rcases hp with rfl | rfl <;> rfl) (to_in (pc := 126) rw_42_126 rfl (s_ialk (pc := 127) rw_42_127 hG116 (by rcases hp with rfl | rfl <;> rfl) (n := 8) (by rcases hp with rfl | rfl <;> rfl) (by rcases hp with rfl | rfl <;> rfl) (A := f.toInt) rfl (by omega) (by omega) (v := v111) (W_l W114 w_112) (b_ceq (pc := 128) rw_42_128 (A := x5.toInt) (B := v111.toInt) rfl rfl (fun h120 => ?_) (fun h120 => ?_))))))
        · refine to_c (pc := 148) rw_42_148 (x := (1 : Int32)) rfl rfl (to_go (pc := 149) rw_42_149 (s_r1 (pc := 153) rw_42_153 (A := 1) rfl (by decide) ?_))
          have k_121 : (1 : Int32).toInt = 1 := rfl
          exact h (1 : Int32) M115 hG116 F117 (by decide) (by decide)
        · refine to_an (pc := 131) rw_42_131 rfl ?_
          have c_122 : M115.2.1 1 7 = (N.2.1 1 7) := (W_l W114 rfl)
          refine tt_gI (pc := 132) rw_42_132 (g_o hG116 rfl) (v := (N.2.1 1 7)) c_122 (to_c (pc := 135) rw_42_135 (x := (59 : Int32)) rfl rfl (b_cne (pc := 137) rw_42_137 (A := (N.2.1 1 7).toInt) (B := 59) rfl rfl (fun h123 => ?_) (fun h123 => ?_)))
          · refine to_c (pc := 148) rw_42_148 (x := (1 : Int32)) rfl rfl (to_go (pc := 149) rw_42_149 (s_r1 (pc := 153) rw_42_153 (A := 1) rfl (by decide) ?_))
            have k_124 : (1 : Int32).toInt = 1 := rfl
            exact h (1 : Int32) M115 hG116 F117 (by decide) (by decide)
          · refine to_an (pc := 140) rw_42_140 rfl (to_c (pc := 141) rw_42_141 (x := (5 : Int32)) rfl rfl (s_v (pc := 142) rw_42_142 (dp0 hd (by decide)) (ls0 := [.ref 1, .int (5 : Int32)]) rfl (Nat.le_of_ble_eq_true rfl) (Nat.le_of_ble_eq_true rfl) rfl (to_rc rfl rfl rfl (g_o hG116 rfl)) rfl (to_an (pc := 0) rw_84_0 rfl (to_in (pc := 1) rw_84_1 rfl (s_pI (pc := 2) rw_84_2 hG116 rfl (fun M126 W125 => ?_))))))
            have hG127 := g_wf hG116 W125 rfl rfl (by decide)
            have F128 := FR.w F117 W125 (show 1 = 1 ∧ 5 ≤ 10 ∨ 3 ≤ 1 ∧ 1 ≤ 5 ∨ 1 = 57 ∨ 1 = 66 by decide)
            refine to_an (pc := 5) rw_84_5 rfl (to_an (pc := 6) rw_84_6 rfl ?_)
            have c_129 : M126.2.1 1 9 = (N.2.1 1 9) := (W_n W125 (by decide) (W_l W114 rfl))
            refine tt_gI (pc := 7) rw_84_7 (g_o hG127 rfl) (v := (N.2.1 1 9)) c_129 (s_pI (pc := 10) rw_84_10 hG127 rfl (fun M131 W130 => ?_))
            have hG132 := g_wf hG127 W130 rfl rfl (by decide)
            have F133 := FR.w F128 W130 (show 1 = 1 ∧ 5 ≤ 11 ∨ 3 ≤ 1 ∧ 1 ≤ 5 ∨ 1 = 57 ∨ 1 = 66 by decide)
            refine to_c (pc := 13) rw_84_13 (x := (0 : Int32)) rfl rfl (s_r1 (pc := 14) rw_84_14 (A := 0) rfl (by decide) (b_ieq_t (pc := 145) rw_42_145 (A := 0) rfl (by decide) (to_c (pc := 152) rw_42_152 (x := (0 : Int32)) rfl rfl (s_r1 (pc := 153) rw_42_153 (A := 0) rfl (by decide) ?_))))
            have k_134 : (0 : Int32).toInt = 0 := rfl
            exact h (0 : Int32) M131 hG132 F133 (by decide) (by decide)
      · refine to_an (pc := 21) rw_42_21 rfl (tt_gI (pc := 22) rw_42_22 (g_o hG rfl) (v := (N.2.1 1 7)) rfl (to_c (pc := 25) rw_42_25 (x := (2 : Int32)) rfl rfl (b_cne (pc := 26) rw_42_26 (A := (N.2.1 1 7).toInt) (B := 2) rfl rfl (fun h135 => ?_) (fun h135 => ?_))))
        · refine to_an (pc := 110) rw_42_110 rfl (s_gR (pc := 111) rw_42_111 hG (by rcases hp with rfl | rfl <;> rfl) (v := (p + 8)) (by rcases hp with rfl | rfl <;> rfl) (to_an (pc := 114) rw_42_114 rfl (tt_gI (pc := 115) rw_42_115 (g_o hG (by rcases hp with rfl | rfl <;> rfl)) (v := (N.2.1 p 3)) rfl (to_ln (pc := 118) rw_42_118 rfl rfl rfl (s_las (pc := 119) rw_42_119 hG (by rcases hp with rfl | rfl <;> rfl) (n := 12) (by rcases hp with rfl | rfl <;> rfl) (A := (N.2.1 p 3).toInt) rfl (by omega) (by omega) (fun M137 W136 => ?_))))))
          have hG138 := g_wl hG W136
          have F139 := FR.wl F0 W136 (show (p + 8) = 1 ∧ 5 ≤ ((N.2.1 p 3).toInt).toNat ∨ 3 ≤ (p + 8) ∧ (p + 8) ≤ 5 ∨ (p + 8) = 57 ∨ (p + 8) = 66 by omega)
          refine to_i (pc := 120) rw_42_120 rfl (to_an (pc := 122) rw_42_122 rfl (s_gR (pc := 123) rw_42_123 hG138 (by rcases hp with rfl | rfl <;> rfl) (v := (p + 5)) (by rcases hp with rfl | rfl <;> rfl) (to_in (pc := 126) rw_42_126 rfl (s_ialk (pc := 127) rw_42_127 hG138 (by rcases hp with rfl | rfl <;> rfl) (n := 8) (by rcases hp with rfl | rfl <;> rfl) (by rcases hp with rfl | rfl <;> rfl) (A := f.toInt) rfl (by omega) (by omega) (v := v111) (W_l W136 w_112) (b_ceq (pc := 128) rw_42_128 (A := x5.toInt) (B := v111.toInt) rfl rfl (fun h142 => ?_) (fun h142 => ?_))))))
          · refine to_c (pc := 148) rw_42_148 (x := (1 : Int32)) rfl rfl (to_go (pc := 149) rw_42_149 (s_r1 (pc := 153) rw_42_153 (A := 1) rfl (by decide) ?_))
            have k_143 : (1 : Int32).toInt = 1 := rfl
            exact h (1 : Int32) M137 hG138 F139 (by decide) (by decide)
          · refine to_an (pc := 131) rw_42_131 rfl ?_
            have c_144 : M137.2.1 1 7 = (N.2.1 1 7) := (W_l W136 rfl)
            refine tt_gI (pc := 132) rw_42_132 (g_o hG138 rfl) (v := (N.2.1 1 7)) c_144 (to_c (pc := 135) rw_42_135 (x := (59 : Int32)) rfl rfl (b_cne (pc := 137) rw_42_137 (A := (N.2.1 1 7).toInt) (B := 59) rfl rfl (fun h145 => ?_) (fun h145 => ?_)))
            · refine to_c (pc := 148) rw_42_148 (x := (1 : Int32)) rfl rfl (to_go (pc := 149) rw_42_149 (s_r1 (pc := 153) rw_42_153 (A := 1) rfl (by decide) ?_))
              have k_146 : (1 : Int32).toInt = 1 := rfl
              exact h (1 : Int32) M137 hG138 F139 (by decide) (by decide)
            · refine to_an (pc := 140) rw_42_140 rfl (to_c (pc := 141) rw_42_141 (x := (5 : Int32)) rfl rfl (s_v (pc := 142) rw_42_142 (dp0 hd (by decide)) (ls0 := [.ref 1, .int (5 : Int32)]) rfl (Nat.le_of_ble_eq_true rfl) (Nat.le_of_ble_eq_true rfl) rfl (to_rc rfl rfl rfl (g_o hG138 rfl)) rfl (to_an (pc := 0) rw_84_0 rfl (to_in (pc := 1) rw_84_1 rfl (s_pI (pc := 2) rw_84_2 hG138 rfl (fun M148 W147 => ?_))))))
              have hG149 := g_wf hG138 W147 rfl rfl (by decide)
              have F150 := FR.w F139 W147 (show 1 = 1 ∧ 5 ≤ 10 ∨ 3 ≤ 1 ∧ 1 ≤ 5 ∨ 1 = 57 ∨ 1 = 66 by decide)
              refine to_an (pc := 5) rw_84_5 rfl (to_an (pc := 6) rw_84_6 rfl ?_)
              have c_151 : M148.2.1 1 9 = (N.2.1 1 9) := (W_n W147 (by decide) (W_l W136 rfl))
              refine tt_gI (pc := 7) rw_84_7 (g_o hG149 rfl) (v := (N.2.1 1 9)) c_151 (s_pI (pc := 10) rw_84_10 hG149 rfl (fun M153 W152 => ?_))
              have hG154 := g_wf hG149 W152 rfl rfl (by decide)
              have F155 := FR.w F150 W152 (show 1 = 1 ∧ 5 ≤ 11 ∨ 3 ≤ 1 ∧ 1 ≤ 5 ∨ 1 = 57 ∨ 1 = 66 by decide)
              refine to_c (pc := 13) rw_84_13 (x := (0 : Int32)) rfl rfl (s_r1 (pc := 14) rw_84_14 (A := 0) rfl (by decide) (b_ieq_t (pc := 145) rw_42_145 (A := 0) rfl (by decide) (to_c (pc := 152) rw_42_152 (x := (0 : Int32)) rfl rfl (s_r1 (pc := 153) rw_42_153 (A := 0) rfl (by decide) ?_))))
              have k_156 : (0 : Int32).toInt = 0 := rfl
              exact h (0 : Int32) M153 hG154 F155 (by decide) (by decide)
        · refine to_i (pc := 29) rw_42_29 rfl (to_an (pc := 31) rw_42_31 rfl (s_gR (pc := 32) rw_42_32 hG (by rcases hp with rfl | rfl <;> rfl) (v := (p + 5)) (by rcases hp with rfl | rfl <;> rfl) (to_in (pc := 35) rw_42_35 rfl (s_ialk (pc := 36) rw_42_36 hG (by rcases hp with rfl | rfl <;> rfl) (n := 8) (by rcases hp with rfl | rfl <;> rfl) (by rcases hp with rfl | rfl <;> rfl) (A := f.toInt) rfl (by omega) (by omega) (v := v111) w_112 (b_cge (pc := 37) rw_42_37 (A := x5.toInt) (B := v111.toInt) rfl rfl (fun h159 => ?_) (fun h159 => ?_))))))
          · refine to_c (pc := 50) rw_42_50 (x := (-1 : Int32)) rfl rfl (to_is (pc := 51) rw_42_51 (ls2 := [.ref p, .ref 1, .int f, .long y3, .null, .int x5, .int (-1 : Int32), u7, u8]) rfl rfl (to_an (pc := 53) rw_42_53 rfl (to_c (pc := 54) rw_42_54 (x := (0 : Int32)) rfl rfl (to_i (pc := 55) rw_42_55 rfl (s_v (pc := 57) rw_42_57 (dp0 hd (by decide)) (ls0 := [.ref 1, .int (0 : Int32), .int (-1 : Int32)]) rfl (Nat.le_of_ble_eq_true rfl) (Nat.le_of_ble_eq_true rfl) rfl (to_rc rfl rfl rfl (g_o hG rfl)) rfl (to_an (pc := 0) rw_88_0 rfl (tt_gI (pc := 1) rw_88_1 (g_o hG rfl) (v := (N.2.1 1 7)) rfl (to_c (pc := 4) rw_88_4 (x := (2 : Int32)) rfl rfl (b_ceq_t (pc := 5) rw_88_5 (A := (N.2.1 1 7).toInt) (B := 2) rfl rfl (by omega) (to_an (pc := 14) rw_88_14 rfl (tt_gI (pc := 15) rw_88_15 (g_o hG rfl) (v := (N.2.1 1 8)) rfl ?_)))))))))))
            refine to_in (pc := 18) rw_88_18 rfl (b_clt (pc := 19) rw_88_19 (A := (N.2.1 1 8).toInt) (B := 0) rfl rfl (fun h160 => ?_) (fun h160 => ?_))
            · refine to_an (pc := 30) rw_88_30 rfl (to_c (pc := 31) rw_88_31 (x := (2 : Int32)) rfl rfl (s_v (pc := 32) rw_88_32 (dp1 hd (by decide)) (ls0 := [.ref 1, .int (2 : Int32)]) rfl (Nat.le_of_ble_eq_true rfl) (Nat.le_of_ble_eq_true rfl) rfl (to_rc rfl rfl rfl (g_o hG rfl)) rfl (to_an (pc := 0) rw_84_0 rfl (to_in (pc := 1) rw_84_1 rfl (s_pI (pc := 2) rw_84_2 hG rfl (fun M162 W161 => ?_))))))
              have hG163 := g_wf hG W161 rfl rfl (by decide)
              have F164 := FR.w F0 W161 (show 1 = 1 ∧ 5 ≤ 10 ∨ 3 ≤ 1 ∧ 1 ≤ 5 ∨ 1 = 57 ∨ 1 = 66 by decide)
              refine to_an (pc := 5) rw_84_5 rfl (to_an (pc := 6) rw_84_6 rfl ?_)
              have c_165 : M162.2.1 1 9 = (N.2.1 1 9) := (W_n W161 (by decide) rfl)
              refine tt_gI (pc := 7) rw_84_7 (g_o hG163 rfl) (v := (N.2.1 1 9)) c_165 (s_pI (pc := 10) rw_84_10 hG163 rfl (fun M167 W166 => ?_))
              have hG168 := g_wf hG163 W166 rfl rfl (by decide)
              have F169 := FR.w F164 W166 (show 1 = 1 ∧ 5 ≤ 11 ∨ 3 ≤ 1 ∧ 1 ≤ 5 ∨ 1 = 57 ∨ 1 = 66 by decide)
              refine to_c (pc := 13) rw_84_13 (x := (0 : Int32)) rfl rfl (s_r1 (pc := 14) rw_84_14 (A := 0) rfl (by decide) (b_ieq_t (pc := 35) rw_88_35 (A := 0) rfl (by decide) (to_c (pc := 42) rw_88_42 (x := (0 : Int32)) rfl rfl (s_r1 (pc := 43) rw_88_43 (A := 0) rfl (by decide) (b_ine_f (pc := 60) rw_42_60 (A := 0) rfl (by decide) (to_c (pc := 63) rw_42_63 (x := (0 : Int32)) rfl rfl (s_r1 (pc := 64) rw_42_64 (A := 0) rfl (by decide) ?_)))))))
              have k_170 : (0 : Int32).toInt = 0 := rfl
              exact h (0 : Int32) M167 hG168 F169 (by decide) (by decide)
            · refine to_an (pc := 22) rw_88_22 rfl (tt_gI (pc := 23) rw_88_23 (g_o hG rfl) (v := (N.2.1 1 8)) rfl (to_in (pc := 26) rw_88_26 rfl (b_cle_f (pc := 27) rw_88_27 (A := (N.2.1 1 8).toInt) (B := -1) rfl rfl (by omega) (to_an (pc := 30) rw_88_30 rfl (to_c (pc := 31) rw_88_31 (x := (2 : Int32)) rfl rfl (s_v (pc := 32) rw_88_32 (dp1 hd (by decide)) (ls0 := [.ref 1, .int (2 : Int32)]) rfl (Nat.le_of_ble_eq_true rfl) (Nat.le_of_ble_eq_true rfl) rfl (to_rc rfl rfl rfl (g_o hG rfl)) rfl (to_an (pc := 0) rw_84_0 rfl (to_in (pc := 1) rw_84_1 rfl (s_pI (pc := 2) rw_84_2 hG rfl (fun M172 W171 => ?_))))))))))
              have hG173 := g_wf hG W171 rfl rfl (by decide)
              have F174 := FR.w F0 W171 (show 1 = 1 ∧ 5 ≤ 10 ∨ 3 ≤ 1 ∧ 1 ≤ 5 ∨ 1 = 57 ∨ 1 = 66 by decide)
              refine to_an (pc := 5) rw_84_5 rfl (to_an (pc := 6) rw_84_6 rfl ?_)
              have c_175 : M172.2.1 1 9 = (N.2.1 1 9) := (W_n W171 (by decide) rfl)
              refine tt_gI (pc := 7) rw_84_7 (g_o hG173 rfl) (v := (N.2.1 1 9)) c_175 (s_pI (pc := 10) rw_84_10 hG173 rfl (fun M177 W176 => ?_))
              have hG178 := g_wf hG173 W176 rfl rfl (by decide)
              have F179 := FR.w F174 W176 (show 1 = 1 ∧ 5 ≤ 11 ∨ 3 ≤ 1 ∧ 1 ≤ 5 ∨ 1 = 57 ∨ 1 = 66 by decide)
              refine to_c (pc := 13) rw_84_13 (x := (0 : Int32)) rfl rfl (s_r1 (pc := 14) rw_84_14 (A := 0) rfl (by decide) (b_ieq_t (pc := 35) rw_88_35 (A := 0) rfl (by decide) (to_c (pc := 42) rw_88_42 (x := (0 : Int32)) rfl rfl (s_r1 (pc := 43) rw_88_43 (A := 0) rfl (by decide) (b_ine_f (pc := 60) rw_42_60 (A := 0) rfl (by decide) (to_c (pc := 63) rw_42_63 (x := (0 : Int32)) rfl rfl (s_r1 (pc := 64) rw_42_64 (A := 0) rfl (by decide) ?_)))))))
              have k_180 : (0 : Int32).toInt = 0 := rfl
              exact h (0 : Int32) M177 hG178 F179 (by decide) (by decide)
          · refine to_an (pc := 40) rw_42_40 rfl (to_in (pc := 41) rw_42_41 rfl (s_v (pc := 42) rw_42_42 (dp0 hd (by decide)) (ls0 := [.ref p, .int f]) rfl (Nat.le_of_ble_eq_true rfl) (Nat.le_of_ble_eq_true rfl) rfl (to_rc rfl rfl rfl (g_o hG (by rcases hp with rfl | rfl <;> rfl))) rfl (to_an (pc := 0) rw_47_0 rfl (s_gR (pc := 1) rw_47_1 hG (by rcases hp with rfl | rfl <;> rfl) (v := (p + 4)) (by rcases hp with rfl | rfl <;> rfl) (to_in (pc := 4) rw_47_4 rfl (s_ial (pc := 5) rw_47_5 hG (by rcases hp with rfl | rfl <;> rfl) (n := 8) (by rcases hp with rfl | rfl <;> rfl) (by rcases hp with rfl | rfl <;> rfl) (A := f.toInt) rfl (by omega) (by omega) (lo := 0) (hi := 63) (by rcases hp with rfl | rfl <;> rfl) (by rcases hp with rfl | rfl <;> rfl) (fun v181 w_182 _ _ => to_an (pc := 6) rw_47_6 rfl (s_gR (pc := 7) rw_47_7 hG (by rcases hp with rfl | rfl <;> rfl) (v := (p + 3)) (by rcases hp with rfl | rfl <;> rfl) (to_in (pc := 10) rw_47_10 rfl (s_ial (pc := 11) rw_47_11 hG (by rcases hp with rfl | rfl <;> rfl) (n := 8) (by rcases hp with rfl | rfl <;> rfl) (by rcases hp with rfl | rfl <;> rfl) (A := f.toInt) rfl (by omega) (by omega) (lo := 0) (hi := 59) (by rcases hp with rfl | rfl <;> rfl) (by rcases hp with rfl | rfl <;> rfl) (fun v183 w_184 _ _ => s_sub (pc := 12) rw_47_12 (A := v181.toInt) (B := v183.toInt) rfl rfl (by omega) (fun v185 e186 => ?_))))))))))))
            refine to_c (pc := 13) rw_47_13 (x := (1 : Int32)) rfl rfl (s_add (pc := 14) rw_47_14 (A := v185.toInt) (B := 1) rfl rfl (by omega) (fun v187 e188 => to_r0 (pc := 15) rw_47_15 (to_c (pc := 45) rw_42_45 (x := (1 : Int32)) rfl rfl (s_sub (pc := 46) rw_42_46 (A := v187.toInt) (B := 1) rfl rfl (by omega) (fun v189 e190 => to_go (pc := 47) rw_42_47 (to_is (pc := 51) rw_42_51 (ls2 := [.ref p, .ref 1, .int f, .long y3, .null, .int x5, .int v189, u7, u8]) rfl rfl (to_an (pc := 53) rw_42_53 rfl (to_c (pc := 54) rw_42_54 (x := (0 : Int32)) rfl rfl (to_i (pc := 55) rw_42_55 rfl (s_v (pc := 57) rw_42_57 (dp0 hd (by decide)) (ls0 := [.ref 1, .int (0 : Int32), .int v189]) rfl (Nat.le_of_ble_eq_true rfl) (Nat.le_of_ble_eq_true rfl) rfl (to_rc rfl rfl rfl (g_o hG rfl)) rfl (to_an (pc := 0) rw_88_0 rfl ?_)))))))))))
            refine tt_gI (pc := 1) rw_88_1 (g_o hG rfl) (v := (N.2.1 1 7)) rfl (to_c (pc := 4) rw_88_4 (x := (2 : Int32)) rfl rfl (b_ceq_t (pc := 5) rw_88_5 (A := (N.2.1 1 7).toInt) (B := 2) rfl rfl (by omega) (to_an (pc := 14) rw_88_14 rfl (tt_gI (pc := 15) rw_88_15 (g_o hG rfl) (v := (N.2.1 1 8)) rfl (to_in (pc := 18) rw_88_18 rfl (b_clt (pc := 19) rw_88_19 (A := (N.2.1 1 8).toInt) (B := 0) rfl rfl (fun h191 => ?_) (fun h191 => ?_)))))))
            · refine to_an (pc := 30) rw_88_30 rfl (to_c (pc := 31) rw_88_31 (x := (2 : Int32)) rfl rfl (s_v (pc := 32) rw_88_32 (dp1 hd (by decide)) (ls0 := [.ref 1, .int (2 : Int32)]) rfl (Nat.le_of_ble_eq_true rfl) (Nat.le_of_ble_eq_true rfl) rfl (to_rc rfl rfl rfl (g_o hG rfl)) rfl (to_an (pc := 0) rw_84_0 rfl (to_in (pc := 1) rw_84_1 rfl (s_pI (pc := 2) rw_84_2 hG rfl (fun M193 W192 => ?_))))))
              have hG194 := g_wf hG W192 rfl rfl (by decide)
              have F195 := FR.w F0 W192 (show 1 = 1 ∧ 5 ≤ 10 ∨ 3 ≤ 1 ∧ 1 ≤ 5 ∨ 1 = 57 ∨ 1 = 66 by decide)
              refine to_an (pc := 5) rw_84_5 rfl (to_an (pc := 6) rw_84_6 rfl ?_)
              have c_196 : M193.2.1 1 9 = (N.2.1 1 9) := (W_n W192 (by decide) rfl)
              refine tt_gI (pc := 7) rw_84_7 (g_o hG194 rfl) (v := (N.2.1 1 9)) c_196 (s_pI (pc := 10) rw_84_10 hG194 rfl (fun M198 W197 => ?_))
              have hG199 := g_wf hG194 W197 rfl rfl (by decide)
              have F200 := FR.w F195 W197 (show 1 = 1 ∧ 5 ≤ 11 ∨ 3 ≤ 1 ∧ 1 ≤ 5 ∨ 1 = 57 ∨ 1 = 66 by decide)
              refine to_c (pc := 13) rw_84_13 (x := (0 : Int32)) rfl rfl (s_r1 (pc := 14) rw_84_14 (A := 0) rfl (by decide) (b_ieq_t (pc := 35) rw_88_35 (A := 0) rfl (by decide) (to_c (pc := 42) rw_88_42 (x := (0 : Int32)) rfl rfl (s_r1 (pc := 43) rw_88_43 (A := 0) rfl (by decide) (b_ine_f (pc := 60) rw_42_60 (A := 0) rfl (by decide) (to_c (pc := 63) rw_42_63 (x := (0 : Int32)) rfl rfl (s_r1 (pc := 64) rw_42_64 (A := 0) rfl (by decide) ?_)))))))
              have k_201 : (0 : Int32).toInt = 0 := rfl
              exact h (0 : Int32) M198 hG199 F200 (by decide) (by decide)
            · refine to_an (pc := 22) rw_88_22 rfl (tt_gI (pc := 23) rw_88_23 (g_o hG rfl) (v := (N.2.1 1 8)) rfl (to_in (pc := 26) rw_88_26 rfl (b_cle (pc := 27) rw_88_27 (A := (N.2.1 1 8).toInt) (B := v189.toInt) rfl rfl (fun h202 => ?_) (fun h202 => ?_))))
              · refine to_c (pc := 38) rw_88_38 (x := (1 : Int32)) rfl rfl (to_go (pc := 39) rw_88_39 (s_r1 (pc := 43) rw_88_43 (A := 1) rfl (by decide) (b_ine_t (pc := 60) rw_42_60 (A := 1) rfl (by decide) (s_cl (pc := 65) rw_42_65 rfl (fun l203 => to_an (pc := 66) rw_42_66 rfl (s_gR (pc := 67) rw_42_67 hG (by rcases hp with rfl | rfl <;> rfl) (v := (p + 3)) (by rcases hp with rfl | rfl <;> rfl) (to_in (pc := 70) rw_42_70 rfl (s_ialk (pc := 71) rw_42_71 hG (by rcases hp with rfl | rfl <;> rfl) (n := 8) (by rcases hp with rfl | rfl <;> rfl) (by rcases hp with rfl | rfl <;> rfl) (A := f.toInt) rfl (by omega) (by omega) (v := v183) w_184 (to_an (pc := 72) rw_42_72 rfl (tt_gI (pc := 73) rw_42_73 (g_o hG rfl) (v := (N.2.1 1 8)) rfl (s_add (pc := 76) rw_42_76 (A := v183.toInt) (B := (N.2.1 1 8).toInt) rfl rfl (by omega) (fun v206 e207 => ?_))))))))))))
                refine s_anyS (pc := 77) rw_42_77 (fun _ _ => rfl) (fun l208 => to_ls (pc := 78) rw_42_78 (ls2 := [.ref p, .ref 1, .int f, .long y3, .null, .int x5, .int v189, .long l208, .null]) rfl rfl (to_ln (pc := 80) rw_42_80 rfl rfl rfl (to_l (pc := 81) rw_42_81 rfl rfl rfl (s_anyL (pc := 83) rw_42_83 (fun _ _ => rfl) (fun l209 => s_cl (pc := 84) rw_42_84 rfl (fun l210 => s_lcmp (pc := 85) rw_42_85 (fun v211 => b_ieq (pc := 86) rw_42_86 (A := v211.toInt) rfl (fun h212 => ?_) (fun h212 => ?_))))))))
                · refine to_ln (pc := 95) rw_42_95 rfl rfl rfl (to_l (pc := 96) rw_42_96 rfl rfl rfl (s_anyL (pc := 98) rw_42_98 (fun _ _ => rfl) (fun l213 => to_lsn (pc := 99) rw_42_99 (ls2 := [.ref p, .ref 1, .int f, .long l213, .null, .int x5, .int v189, .long l208, .null]) rfl rfl (s_inc (pc := 100) rw_42_100 (ls2 := fun v => [.ref p, .ref 1, .int f, .long l213, .null, .int v, .int v189, .long l208, .null]) rfl rfl (fun _ => rfl) (A := x5.toInt) (B := 1) rfl rfl (by omega) (fun v214 e215 => to_an (pc := 103) rw_42_103 rfl (s_v (pc := 104) rw_42_104 (dp0 hd (by decide)) (ls0 := [.ref 1]) rfl (Nat.le_of_ble_eq_true rfl) (Nat.le_of_ble_eq_true rfl) rfl (to_rc rfl rfl rfl (g_o hG rfl)) rfl (C_83 hX (dp1 hd (by decide)) hG  (fun M218 hG217 F216 => ?_))))))))
                  have F219 := FR.c F0 F216 tg_119
                  refine to_go (pc := 107) rw_42_107 ?_
                  have c_220 : M218.2.1 p 3 = (N.2.1 p 3) := (F_n F216 (show ¬ (p = 1 ∧ 5 ≤ 3 ∨ 3 ≤ p ∧ p ≤ 5) by omega) rfl)
                  have t_221 : (M218.2.1 p 3).toInt = (N.2.1 p 3).toInt := congrArg Int32.toInt c_220
                  exact ih M218 l213 v214 (.int v189) (.long l208) (.null) hG217 F219 (by omega) (by omega) (by omega) (by omega) (by omega) (by omega)
                · refine to_an (pc := 89) rw_42_89 rfl (to_c (pc := 90) rw_42_90 (x := (3 : Int32)) rfl rfl (s_v (pc := 91) rw_42_91 (dp0 hd (by decide)) (ls0 := [.ref 1, .int (3 : Int32)]) rfl (Nat.le_of_ble_eq_true rfl) (Nat.le_of_ble_eq_true rfl) rfl (to_rc rfl rfl rfl (g_o hG rfl)) rfl (to_an (pc := 0) rw_84_0 rfl (to_in (pc := 1) rw_84_1 rfl (s_pI (pc := 2) rw_84_2 hG rfl (fun M223 W222 => ?_))))))
                  have hG224 := g_wf hG W222 rfl rfl (by decide)
                  have F225 := FR.w F0 W222 (show 1 = 1 ∧ 5 ≤ 10 ∨ 3 ≤ 1 ∧ 1 ≤ 5 ∨ 1 = 57 ∨ 1 = 66 by decide)
                  refine to_an (pc := 5) rw_84_5 rfl (to_an (pc := 6) rw_84_6 rfl ?_)
                  have c_226 : M223.2.1 1 9 = (N.2.1 1 9) := (W_n W222 (by decide) rfl)
                  refine tt_gI (pc := 7) rw_84_7 (g_o hG224 rfl) (v := (N.2.1 1 9)) c_226 (s_pI (pc := 10) rw_84_10 hG224 rfl (fun M228 W227 => ?_))
                  have hG229 := g_wf hG224 W227 rfl rfl (by decide)
                  have F230 := FR.w F225 W227 (show 1 = 1 ∧ 5 ≤ 11 ∨ 3 ≤ 1 ∧ 1 ≤ 5 ∨ 1 = 57 ∨ 1 = 66 by decide)
                  refine to_c (pc := 13) rw_84_13 (x := (0 : Int32)) rfl rfl (s_r1 (pc := 14) rw_84_14 (A := 0) rfl (by decide) (s_r1 (pc := 94) rw_42_94 (A := 0) rfl (by decide) ?_))
                  have k_231 : (0 : Int32).toInt = 0 := rfl
                  exact h (0 : Int32) M228 hG229 F230 (by decide) (by decide)
              · refine to_an (pc := 30) rw_88_30 rfl (to_c (pc := 31) rw_88_31 (x := (2 : Int32)) rfl rfl (s_v (pc := 32) rw_88_32 (dp1 hd (by decide)) (ls0 := [.ref 1, .int (2 : Int32)]) rfl (Nat.le_of_ble_eq_true rfl) (Nat.le_of_ble_eq_true rfl) rfl (to_rc rfl rfl rfl (g_o hG rfl)) rfl (to_an (pc := 0) rw_84_0 rfl (to_in (pc := 1) rw_84_1 rfl (s_pI (pc := 2) rw_84_2 hG rfl (fun M233 W232 => ?_))))))
                have hG234 := g_wf hG W232 rfl rfl (by decide)
                have F235 := FR.w F0 W232 (show 1 = 1 ∧ 5 ≤ 10 ∨ 3 ≤ 1 ∧ 1 ≤ 5 ∨ 1 = 57 ∨ 1 = 66 by decide)
                refine to_an (pc := 5) rw_84_5 rfl (to_an (pc := 6) rw_84_6 rfl ?_)
                have c_236 : M233.2.1 1 9 = (N.2.1 1 9) := (W_n W232 (by decide) rfl)
                refine tt_gI (pc := 7) rw_84_7 (g_o hG234 rfl) (v := (N.2.1 1 9)) c_236 (s_pI (pc := 10) rw_84_10 hG234 rfl (fun M238 W237 => ?_))
                have hG239 := g_wf hG234 W237 rfl rfl (by decide)
                have F240 := FR.w F235 W237 (show 1 = 1 ∧ 5 ≤ 11 ∨ 3 ≤ 1 ∧ 1 ≤ 5 ∨ 1 = 57 ∨ 1 = 66 by decide)
                refine to_c (pc := 13) rw_84_13 (x := (0 : Int32)) rfl rfl (s_r1 (pc := 14) rw_84_14 (A := 0) rfl (by decide) (b_ieq_t (pc := 35) rw_88_35 (A := 0) rfl (by decide) (to_c (pc := 42) rw_88_42 (x := (0 : Int32)) rfl rfl (s_r1 (pc := 43) rw_88_43 (A := 0) rfl (by decide) (b_ine_f (pc := 60) rw_42_60 (A := 0) rfl (by decide) (to_c (pc := 63) rw_42_63 (x := (0 : Int32)) rfl rfl (s_r1 (pc := 64) rw_42_64 (A := 0) rfl (by decide) ?_)))))))
                have k_241 : (0 : Int32).toInt = 0 := rfl
                exact h (0 : Int32) M238 hG239 F240 (by decide) (by decide)
set_option maxRecDepth 4000 in
set_option maxHeartbeats 0 in
theorem C_42 {X : mm_X} {d : Nat} {M : mm_M} {Q : Option Value → mm_M → Prop} {p : Nat} {f : Int32} (hX : g_X X) (hd : 2 ≤ d) (hG : g_G M) (hp : p = 49 ∨ p = 58) (q1 : 0 ≤ f.toInt) (q2 : f.toInt ≤ 7) (q3 : (M.2.1 p 3).toInt ≤ 11) (h : ∀ (r : Int32) (M1 : mm_M), g_G M1 → FR md_c42 M M1 → (0 ≤ r.toInt) → (r.toInt ≤ 1) → Q (some (.int r)) M1) : mm_T X d 42 0 [.ref p, .ref 1, .int f, .null, .null, .null, .null, .null, .null] [] M Q := by
  have F0 : FR md_c42 M M := FR.rf
  have b_242 := g_b hG (a := p) (i := 3) (lo := 0) (hi := 12) (by rcases hp with rfl | rfl <;> rfl) (by rcases hp with rfl | rfl <;> rfl)
  refine s_cl (pc := 0) rw_42_0 rfl (fun l243 => to_lsn (pc := 1) rw_42_1 (ls2 := [.ref p, .ref 1, .int f, .long l243, .null, .null, .null, .null, .null]) rfl rfl (to_c (pc := 2) rw_42_2 (x := (0 : Int32)) rfl rfl (to_is (pc := 3) rw_42_3 (ls2 := [.ref p, .ref 1, .int f, .long l243, .null, .int (0 : Int32), .null, .null, .null]) rfl rfl ?_)))
  have k_244 : (0 : Int32).toInt = 0 := rfl
  exact (T_42_0 (p := p) (f := f) hX hd hp q1 q2 q3 h ((25 - (0 : Int32).toInt).toNat + 1)) M l243 (0 : Int32) (.null) (.null) (.null) hG F0 (by omega) (by omega) (by omega) (by omega) (by omega) (by omega)
set_option maxRecDepth 4000 in
set_option maxHeartbeats 0 in
theorem C_41 {X : mm_X} {d : Nat} {M : mm_M} {Q : Option Value → mm_M → Prop} {p : Nat} (hX : g_X X) (hd : 3 ≤ d) (hG : g_G M) (hp : p = 49 ∨ p = 58) (q1 : PI M) (h : ∀ (r : Int32) (M1 : mm_M), g_G M1 → FR md_pt M M1 → (0 ≤ r.toInt) → (r.toInt ≤ 1) → PI M1 → Q (some (.int r)) M1) : mm_T X d 41 0 [.ref p, .ref 1, .null] [] M Q := by
  have F0 : FR md_pt M M := FR.rf
  refine to_an (pc := 0) rw_41_0 rfl ?_
  have b_1 := g_b hG (a := p) (i := 3) (lo := 0) (hi := 12) (by rcases hp with rfl | rfl <;> rfl) (by rcases hp with rfl | rfl <;> rfl)
  refine tt_gI (pc := 1) rw_41_1 (g_o hG (by rcases hp with rfl | rfl <;> rfl)) (v := (M.2.1 p 3)) rfl (to_c (pc := 4) rw_41_4 (x := (12 : Int32)) rfl rfl (b_clt (pc := 6) rw_41_6 (A := (M.2.1 p 3).toInt) (B := 12) rfl rfl (fun h2 => ?_) (fun h2 => ?_)))
  · refine to_an (pc := 15) rw_41_15 rfl (s_v (pc := 16) rw_41_16 (dp0 hd (by decide)) (ls0 := [.ref 1]) rfl (Nat.le_of_ble_eq_true rfl) (Nat.le_of_ble_eq_true rfl) rfl (to_rc rfl rfl rfl (g_o hG rfl)) rfl (C_83 hX (dp1 hd (by decide)) hG  (fun M5 hG4 F3 => ?_)))
    have F6 := FR.c F0 F3 tg_116
    refine to_an (pc := 19) rw_41_19 rfl (tt_gI (pc := 20) rw_41_20 (g_o hG4 rfl) (v := (M5.2.1 1 7)) rfl (to_c (pc := 23) rw_41_23 (x := (3 : Int32)) rfl rfl (b_ceq (pc := 24) rw_41_24 (A := (M5.2.1 1 7).toInt) (B := 3) rfl rfl (fun h7 => ?_) (fun h7 => ?_))))
    · refine to_an (pc := 33) rw_41_33 rfl (to_an (pc := 34) rw_41_34 rfl (tt_gI (pc := 35) rw_41_35 (g_o hG4 rfl) (v := (M5.2.1 1 8)) rfl (s_v (pc := 38) rw_41_38 (dp0 hd (by decide)) (ls0 := [.ref p, .int (M5.2.1 1 8)]) rfl (Nat.le_of_ble_eq_true rfl) (Nat.le_of_ble_eq_true rfl) rfl (to_rc rfl rfl rfl (g_o hG4 (by rcases hp with rfl | rfl <;> rfl))) rfl (to_an (pc := 0) rw_52_0 rfl (s_gR (pc := 1) rw_52_1 hG4 (by rcases hp with rfl | rfl <;> rfl) (v := (p + 1)) (by rcases hp with rfl | rfl <;> rfl) (to_an (pc := 4) rw_52_4 rfl ?_))))))
      have c_8 : M5.2.1 p 2 = (M.2.1 p 2) := (F_n F3 (show ¬ (p = 1 ∧ 5 ≤ 2 ∨ 3 ≤ p ∧ p ≤ 5) by omega) rfl)
      have b_9 := g_b hG (a := p) (i := 2) (lo := 0) (hi := 8) (by rcases hp with rfl | rfl <;> rfl) (by rcases hp with rfl | rfl <;> rfl)
      refine tt_gI (pc := 5) rw_52_5 (g_o hG4 (by rcases hp with rfl | rfl <;> rfl)) (v := (M.2.1 p 2)) c_8 (to_in (pc := 8) rw_52_8 rfl (s_s (pc := 9) rw_52_9 (dp1 hd (by decide)) (ls0 := [.ref (p + 1), .int (M.2.1 p 2), .int (M5.2.1 1 8), .null]) rfl (Nat.le_of_ble_eq_true rfl) (Nat.le_of_ble_eq_true rfl) rfl (to_rcs rfl rfl) rfl (C_54f hX (dp2 hd (by decide)) hG4 (by omega) (f := (p + 1)) (s := (M.2.1 p 2)) (x := (M5.2.1 1 8)) (fun r10 M15 hG12 F11 p_13 p_14 => ?_))))
      have F16 := FR.c F6 F11 tg_117
      refine to_r0 (pc := 12) rw_52_12 (to_isn (pc := 41) rw_41_41 (ls2 := [.ref p, .ref 1, .int r10]) rfl rfl (to_an (pc := 42) rw_41_42 rfl (to_in (pc := 43) rw_41_43 rfl (s_v (pc := 44) rw_41_44 (dp0 hd (by decide)) (ls0 := [.ref p, .int r10]) rfl (Nat.le_of_ble_eq_true rfl) (Nat.le_of_ble_eq_true rfl) rfl (to_rc rfl rfl rfl (g_o hG12 (by rcases hp with rfl | rfl <;> rfl))) rfl (to_in (pc := 0) rw_43_0 rfl (b_ilt (pc := 1) rw_43_1 (A := r10.toInt) rfl (fun h17 => ?_) (fun h17 => ?_)))))))
      · refine to_c (pc := 16) rw_43_16 (x := (0 : Int32)) rfl rfl (s_r1 (pc := 17) rw_43_17 (A := 0) rfl (by decide) (b_ieq_t (pc := 47) rw_41_47 (A := 0) rfl (by decide) (to_an (pc := 58) rw_41_58 rfl (to_c (pc := 59) rw_41_59 (x := (4 : Int32)) rfl rfl (s_v (pc := 60) rw_41_60 (dp0 hd (by decide)) (ls0 := [.ref 1, .int (4 : Int32)]) rfl (Nat.le_of_ble_eq_true rfl) (Nat.le_of_ble_eq_true rfl) rfl (to_rc rfl rfl rfl (g_o hG12 rfl)) rfl (to_an (pc := 0) rw_84_0 rfl (to_in (pc := 1) rw_84_1 rfl (s_pI (pc := 2) rw_84_2 hG12 rfl (fun M19 W18 => ?_)))))))))
        have hG20 := g_wf hG12 W18 rfl rfl (by decide)
        have F21 := FR.w F16 W18 (show 1 = 1 ∧ 5 ≤ 10 ∨ 3 ≤ 1 ∧ 1 ≤ 5 ∨ 49 ≤ 1 ∧ 1 ≤ 66 by decide)
        refine to_an (pc := 5) rw_84_5 rfl (to_an (pc := 6) rw_84_6 rfl ?_)
        have c_22 : M19.2.1 1 9 = (M5.2.1 1 9) := (W_n W18 (by decide) (F_n F11 (show ¬ (1 < 0) by decide) rfl))
        refine tt_gI (pc := 7) rw_84_7 (g_o hG20 rfl) (v := (M5.2.1 1 9)) c_22 (s_pI (pc := 10) rw_84_10 hG20 rfl (fun M24 W23 => ?_))
        have hG25 := g_wf hG20 W23 rfl rfl (by decide)
        have F26 := FR.w F21 W23 (show 1 = 1 ∧ 5 ≤ 11 ∨ 3 ≤ 1 ∧ 1 ≤ 5 ∨ 49 ≤ 1 ∧ 1 ≤ 66 by decide)
        refine to_c (pc := 13) rw_84_13 (x := (0 : Int32)) rfl rfl (s_r1 (pc := 14) rw_84_14 (A := 0) rfl (by decide) (s_r1 (pc := 63) rw_41_63 (A := 0) rfl (by decide) ?_))
        have k_27 : (0 : Int32).toInt = 0 := rfl
        have j_28 := (PI_f (fun a i z => W_n W23 (by /-r1,11-/ omega) rfl) (PI_f (fun a i z => W_n W18 (by /-r1,10-/ omega) rfl) (PI_f (tg_99 F11) (PI_f (tg_112 F3) q1))))
        exact h (0 : Int32) M24 hG25 F26 (by decide) (by decide) j_28
      · refine to_in (pc := 4) rw_43_4 rfl (to_an (pc := 5) rw_43_5 rfl ?_)
        have c_29 : M15.2.1 p 2 = (M.2.1 p 2) := (F_n F11 (show ¬ (p < 0) by omega) c_8)
        refine tt_gI (pc := 6) rw_43_6 (g_o hG12 (by rcases hp with rfl | rfl <;> rfl)) (v := (M.2.1 p 2)) c_29 (b_cge (pc := 9) rw_43_9 (A := r10.toInt) (B := (M.2.1 p 2).toInt) rfl rfl (fun h30 => ?_) (fun h30 => ?_))
        · refine to_c (pc := 16) rw_43_16 (x := (0 : Int32)) rfl rfl (s_r1 (pc := 17) rw_43_17 (A := 0) rfl (by decide) (b_ieq_t (pc := 47) rw_41_47 (A := 0) rfl (by decide) (to_an (pc := 58) rw_41_58 rfl (to_c (pc := 59) rw_41_59 (x := (4 : Int32)) rfl rfl (s_v (pc := 60) rw_41_60 (dp0 hd (by decide)) (ls0 := [.ref 1, .int (4 : Int32)]) rfl (Nat.le_of_ble_eq_true rfl) (Nat.le_of_ble_eq_true rfl) rfl (to_rc rfl rfl rfl (g_o hG12 rfl)) rfl (to_an (pc := 0) rw_84_0 rfl (to_in (pc := 1) rw_84_1 rfl (s_pI (pc := 2) rw_84_2 hG12 rfl (fun M32 W31 => ?_)))))))))
          have hG33 := g_wf hG12 W31 rfl rfl (by decide)
          have F34 := FR.w F16 W31 (show 1 = 1 ∧ 5 ≤ 10 ∨ 3 ≤ 1 ∧ 1 ≤ 5 ∨ 49 ≤ 1 ∧ 1 ≤ 66 by decide)
          refine to_an (pc := 5) rw_84_5 rfl (to_an (pc := 6) rw_84_6 rfl ?_)
          have c_35 : M32.2.1 1 9 = (M5.2.1 1 9) := (W_n W31 (by decide) (F_n F11 (show ¬ (1 < 0) by decide) rfl))
          refine tt_gI (pc := 7) rw_84_7 (g_o hG33 rfl) (v := (M5.2.1 1 9)) c_35 (s_pI (pc := 10) rw_84_10 hG33 rfl (fun M37 W36 => ?_))
          have hG38 := g_wf hG33 W36 rfl rfl (by decide)
          have F39 := FR.w F34 W36 (show 1 = 1 ∧ 5 ≤ 11 ∨ 3 ≤ 1 ∧ 1 ≤ 5 ∨ 49 ≤ 1 ∧ 1 ≤ 66 by decide)
          refine to_c (pc := 13) rw_84_13 (x := (0 : Int32)) rfl rfl (s_r1 (pc := 14) rw_84_14 (A := 0) rfl (by decide) (s_r1 (pc := 63) rw_41_63 (A := 0) rfl (by decide) ?_))
          have k_40 : (0 : Int32).toInt = 0 := rfl
          have j_41 := (PI_f (fun a i z => W_n W36 (by /-r1,11-/ omega) rfl) (PI_f (fun a i z => W_n W31 (by /-r1,10-/ omega) rfl) (PI_f (tg_99 F11) (PI_f (tg_112 F3) q1))))
          exact h (0 : Int32) M37 hG38 F39 (by decide) (by decide) j_41
        · refine to_c (pc := 12) rw_43_12 (x := (1 : Int32)) rfl rfl (to_go (pc := 13) rw_43_13 (s_r1 (pc := 17) rw_43_17 (A := 1) rfl (by decide) (b_ieq_f (pc := 47) rw_41_47 (A := 1) rfl (by decide) (to_an (pc := 50) rw_41_50 rfl (to_in (pc := 51) rw_41_51 rfl (s_v (pc := 52) rw_41_52 (dp0 hd (by decide)) (ls0 := [.ref p, .int r10]) rfl (Nat.le_of_ble_eq_true rfl) (Nat.le_of_ble_eq_true rfl) rfl (to_rc rfl rfl rfl (g_o hG12 (by rcases hp with rfl | rfl <;> rfl))) rfl (to_an (pc := 0) rw_45_0 rfl (s_gR (pc := 1) rw_45_1 hG12 (by rcases hp with rfl | rfl <;> rfl) (v := (p + 2)) (by rcases hp with rfl | rfl <;> rfl) (to_in (pc := 4) rw_45_4 rfl (s_ial (pc := 5) rw_45_5 hG12 (by rcases hp with rfl | rfl <;> rfl) (n := 8) (by rcases hp with rfl | rfl <;> rfl) (by rcases hp with rfl | rfl <;> rfl) (A := r10.toInt) rfl (by omega) (by omega) (lo := 0) (hi := 3) (by rcases hp with rfl | rfl <;> rfl) (by rcases hp with rfl | rfl <;> rfl) (fun v42 w_43 _ _ => to_c (pc := 6) rw_45_6 (x := (3 : Int32)) rfl rfl ?_)))))))))))
          refine b_cne (pc := 7) rw_45_7 (A := v42.toInt) (B := 3) rfl rfl (fun h44 => ?_) (fun h44 => ?_)
          · refine to_c (pc := 14) rw_45_14 (x := (0 : Int32)) rfl rfl (s_r1 (pc := 15) rw_45_15 (A := 0) rfl (by decide) (b_ine_f (pc := 55) rw_41_55 (A := 0) rfl (by decide) (to_an (pc := 58) rw_41_58 rfl (to_c (pc := 59) rw_41_59 (x := (4 : Int32)) rfl rfl (s_v (pc := 60) rw_41_60 (dp0 hd (by decide)) (ls0 := [.ref 1, .int (4 : Int32)]) rfl (Nat.le_of_ble_eq_true rfl) (Nat.le_of_ble_eq_true rfl) rfl (to_rc rfl rfl rfl (g_o hG12 rfl)) rfl (to_an (pc := 0) rw_84_0 rfl (to_in (pc := 1) rw_84_1 rfl (s_pI (pc := 2) rw_84_2 hG12 rfl (fun M46 W45 => ?_)))))))))
            have hG47 := g_wf hG12 W45 rfl rfl (by decide)
            have F48 := FR.w F16 W45 (show 1 = 1 ∧ 5 ≤ 10 ∨ 3 ≤ 1 ∧ 1 ≤ 5 ∨ 49 ≤ 1 ∧ 1 ≤ 66 by decide)
            refine to_an (pc := 5) rw_84_5 rfl (to_an (pc := 6) rw_84_6 rfl ?_)
            have c_49 : M46.2.1 1 9 = (M5.2.1 1 9) := (W_n W45 (by decide) (F_n F11 (show ¬ (1 < 0) by decide) rfl))
            refine tt_gI (pc := 7) rw_84_7 (g_o hG47 rfl) (v := (M5.2.1 1 9)) c_49 (s_pI (pc := 10) rw_84_10 hG47 rfl (fun M51 W50 => ?_))
            have hG52 := g_wf hG47 W50 rfl rfl (by decide)
            have F53 := FR.w F48 W50 (show 1 = 1 ∧ 5 ≤ 11 ∨ 3 ≤ 1 ∧ 1 ≤ 5 ∨ 49 ≤ 1 ∧ 1 ≤ 66 by decide)
            refine to_c (pc := 13) rw_84_13 (x := (0 : Int32)) rfl rfl (s_r1 (pc := 14) rw_84_14 (A := 0) rfl (by decide) (s_r1 (pc := 63) rw_41_63 (A := 0) rfl (by decide) ?_))
            have k_54 : (0 : Int32).toInt = 0 := rfl
            have j_55 := (PI_f (fun a i z => W_n W50 (by /-r1,11-/ omega) rfl) (PI_f (fun a i z => W_n W45 (by /-r1,10-/ omega) rfl) (PI_f (tg_99 F11) (PI_f (tg_112 F3) q1))))
            exact h (0 : Int32) M51 hG52 F53 (by decide) (by decide) j_55
          · refine to_c (pc := 10) rw_45_10 (x := (1 : Int32)) rfl rfl (to_go (pc := 11) rw_45_11 (s_r1 (pc := 15) rw_45_15 (A := 1) rfl (by decide) (b_ine_t (pc := 55) rw_41_55 (A := 1) rfl (by decide) (to_an (pc := 64) rw_41_64 rfl (s_v (pc := 65) rw_41_65 (dp0 hd (by decide)) (ls0 := [.ref 1]) rfl (Nat.le_of_ble_eq_true rfl) (Nat.le_of_ble_eq_true rfl) rfl (to_rc rfl rfl rfl (g_o hG12 rfl)) rfl (C_83 hX (dp1 hd (by decide)) hG12  (fun M58 hG57 F56 => ?_)))))))
            have F59 := FR.c F16 F56 tg_116
            refine to_an (pc := 68) rw_41_68 rfl (to_an (pc := 69) rw_41_69 rfl (s_v (pc := 70) rw_41_70 (dp0 hd (by decide)) (ls0 := [.ref p, .ref 1]) rfl (Nat.le_of_ble_eq_true rfl) (Nat.le_of_ble_eq_true rfl) rfl (to_rc rfl rfl rfl (g_o hG57 (by rcases hp with rfl | rfl <;> rfl))) rfl (C_34 hX (dp1 hd (by decide)) hG57 hp (p := p) (fun r60 M65 hG62 F61 p_63 p_64 => ?_))))
            have F66 := FR.c F59 F61 tg_116
            refine b_ine (pc := 73) rw_41_73 (A := r60.toInt) rfl (fun h67 => ?_) (fun h67 => ?_)
            · refine to_an (pc := 78) rw_41_78 rfl (s_gR (pc := 79) rw_41_79 hG62 (by rcases hp with rfl | rfl <;> rfl) (v := (p + 6)) (by rcases hp with rfl | rfl <;> rfl) (to_an (pc := 82) rw_41_82 rfl ?_))
              have c_68 : M65.2.1 p 3 = (M.2.1 p 3) := (F_n F61 (show ¬ (p = 1 ∧ 5 ≤ 3 ∨ 3 ≤ p ∧ p ≤ 5) by omega) (F_n F56 (show ¬ (p = 1 ∧ 5 ≤ 3 ∨ 3 ≤ p ∧ p ≤ 5) by omega) (F_n F11 (show ¬ (p < 0) by omega) (F_n F3 (show ¬ (p = 1 ∧ 5 ≤ 3 ∨ 3 ≤ p ∧ p ≤ 5) by omega) rfl))))
              refine tt_gI (pc := 83) rw_41_83 (g_o hG62 (by rcases hp with rfl | rfl <;> rfl)) (v := (M.2.1 p 3)) c_68 (to_an (pc := 86) rw_41_86 rfl (tt_gI (pc := 87) rw_41_87 (g_o hG62 rfl) (v := (M65.2.1 1 8)) rfl (s_ias (pc := 90) rw_41_90 hG62 (by rcases hp with rfl | rfl <;> rfl) (n := 12) (by rcases hp with rfl | rfl <;> rfl) (A := (M.2.1 p 3).toInt) rfl (by omega) (by omega) (fun M70 W69 => ?_))))
              have hG71 := g_wf hG62 W69 (by rcases hp with rfl | rfl <;> rfl) (by rcases hp with rfl | rfl <;> rfl) (by omega)
              have F72 := FR.w F66 W69 (show (p + 6) = 1 ∧ 5 ≤ ((M.2.1 p 3).toInt).toNat ∨ 3 ≤ (p + 6) ∧ (p + 6) ≤ 5 ∨ 49 ≤ (p + 6) ∧ (p + 6) ≤ 66 by omega)
              refine to_an (pc := 91) rw_41_91 rfl (s_gR (pc := 92) rw_41_92 hG71 (by rcases hp with rfl | rfl <;> rfl) (v := (p + 7)) (by rcases hp with rfl | rfl <;> rfl) (to_an (pc := 95) rw_41_95 rfl ?_))
              have c_73 : M70.2.1 p 3 = (M.2.1 p 3) := (W_n W69 (by omega) c_68)
              refine tt_gI (pc := 96) rw_41_96 (g_o hG71 (by rcases hp with rfl | rfl <;> rfl)) (v := (M.2.1 p 3)) c_73 (to_in (pc := 99) rw_41_99 rfl (s_ias (pc := 100) rw_41_100 hG71 (by rcases hp with rfl | rfl <;> rfl) (n := 12) (by rcases hp with rfl | rfl <;> rfl) (A := (M.2.1 p 3).toInt) rfl (by omega) (by omega) (fun M75 W74 => ?_)))
              have hG76 := g_w hG71 W74 (A := r10.toInt) rfl (lo := 0) (hi := 7) (by rcases hp with rfl | rfl <;> rfl) (by rcases hp with rfl | rfl <;> rfl) (by omega) (by omega)
              have F77 := FR.w F72 W74 (show (p + 7) = 1 ∧ 5 ≤ ((M.2.1 p 3).toInt).toNat ∨ 3 ≤ (p + 7) ∧ (p + 7) ≤ 5 ∨ 49 ≤ (p + 7) ∧ (p + 7) ≤ 66 by omega)
              refine to_an (pc := 101) rw_41_101 rfl (s_v (pc := 102) rw_41_102 (dp0 hd (by decide)) (ls0 := [.ref 1]) rfl (Nat.le_of_ble_eq_true rfl) (Nat.le_of_ble_eq_true rfl) rfl (to_rc rfl rfl rfl (g_o hG76 rfl)) rfl (C_83 hX (dp1 hd (by decide)) hG76  (fun M80 hG79 F78 => ?_)))
              have F81 := FR.c F77 F78 tg_116
              refine to_an (pc := 105) rw_41_105 rfl (to_an (pc := 106) rw_41_106 rfl (to_in (pc := 107) rw_41_107 rfl (s_v (pc := 108) rw_41_108 (dp0 hd (by decide)) (ls0 := [.ref p, .ref 1, .int r10, .null, .null, .null, .null, .null, .null]) rfl (Nat.le_of_ble_eq_true rfl) (Nat.le_of_ble_eq_true rfl) rfl (to_rc rfl rfl rfl (g_o hG79 (by rcases hp with rfl | rfl <;> rfl))) rfl ?_)))
              have c_82 : M80.2.1 p 3 = (M.2.1 p 3) := (F_n F78 (show ¬ (p = 1 ∧ 5 ≤ 3 ∨ 3 ≤ p ∧ p ≤ 5) by omega) (W_n W74 (by omega) c_73))
              have t_83 : (M80.2.1 p 3).toInt = (M.2.1 p 3).toInt := congrArg Int32.toInt c_82
              refine C_42 hX (dp1 hd (by decide)) hG79 hp (by omega) (by omega) (by omega) (p := p) (f := r10) (fun r84 M89 hG86 F85 p_87 p_88 => ?_)
              have F90 := FR.c F81 F85 tg_120
              refine b_ine (pc := 111) rw_41_111 (A := r84.toInt) rfl (fun h91 => ?_) (fun h91 => ?_)
              · refine to_an (pc := 116) rw_41_116 rfl (to_dupr (pc := 117) rw_41_117 ?_)
                have c_92 : M89.2.1 p 3 = (M.2.1 p 3) := (F_n F85 (show ¬ (p = 1 ∧ 5 ≤ 3 ∨ 3 ≤ p ∧ p ≤ 5 ∨ p = 57 ∨ p = 66) by omega) c_82)
                refine tt_gI (pc := 118) rw_41_118 (g_o hG86 (by rcases hp with rfl | rfl <;> rfl)) (v := (M.2.1 p 3)) c_92 (to_c (pc := 121) rw_41_121 (x := (1 : Int32)) rfl rfl (s_add (pc := 122) rw_41_122 (A := (M.2.1 p 3).toInt) (B := 1) rfl rfl (by omega) (fun v93 e94 => s_pI (pc := 123) rw_41_123 hG86 (by rcases hp with rfl | rfl <;> rfl) (fun M96 W95 => ?_))))
                have hG97 := g_w hG86 W95 (A := v93.toInt) rfl (lo := 0) (hi := 12) (by rcases hp with rfl | rfl <;> rfl) (by rcases hp with rfl | rfl <;> rfl) (by omega) (by omega)
                have F98 := FR.w F90 W95 (show p = 1 ∧ 5 ≤ 3 ∨ 3 ≤ p ∧ p ≤ 5 ∨ 49 ≤ p ∧ p ≤ 66 by omega)
                refine to_c (pc := 126) rw_41_126 (x := (1 : Int32)) rfl rfl (s_r1 (pc := 127) rw_41_127 (A := 1) rfl (by decide) ?_)
                have k_99 : (1 : Int32).toInt = 1 := rfl
                have j_100 := (PI_f (fun a i z => W_n W95 (by omega) rfl) (PI_f (tg_113 F85) (PI_f (tg_112 F78) (PI_f (fun a i z => W_n W74 (by omega) rfl) (PI_f (fun a i z => W_n W69 (by omega) rfl) (PI_f (tg_112 F61) (PI_f (tg_112 F56) (PI_f (tg_99 F11) (PI_f (tg_112 F3) q1)))))))))
                exact h (1 : Int32) M96 hG97 F98 (by decide) (by decide) j_100
              · refine to_c (pc := 114) rw_41_114 (x := (0 : Int32)) rfl rfl (s_r1 (pc := 115) rw_41_115 (A := 0) rfl (by decide) ?_)
                have k_101 : (0 : Int32).toInt = 0 := rfl
                have j_102 := (PI_f (tg_113 F85) (PI_f (tg_112 F78) (PI_f (fun a i z => W_n W74 (by omega) rfl) (PI_f (fun a i z => W_n W69 (by omega) rfl) (PI_f (tg_112 F61) (PI_f (tg_112 F56) (PI_f (tg_99 F11) (PI_f (tg_112 F3) q1))))))))
                exact h (0 : Int32) M89 hG86 F90 (by decide) (by decide) j_102
            · refine to_c (pc := 76) rw_41_76 (x := (0 : Int32)) rfl rfl (s_r1 (pc := 77) rw_41_77 (A := 0) rfl (by decide) ?_)
              have k_103 : (0 : Int32).toInt = 0 := rfl
              have j_104 := (PI_f (tg_112 F61) (PI_f (tg_112 F56) (PI_f (tg_99 F11) (PI_f (tg_112 F3) q1))))
              exact h (0 : Int32) M65 hG62 F66 (by decide) (by decide) j_104
    · refine to_an (pc := 27) rw_41_27 rfl (to_c (pc := 28) rw_41_28 (x := (1 : Int32)) rfl rfl (s_v (pc := 29) rw_41_29 (dp0 hd (by decide)) (ls0 := [.ref 1, .int (1 : Int32)]) rfl (Nat.le_of_ble_eq_true rfl) (Nat.le_of_ble_eq_true rfl) rfl (to_rc rfl rfl rfl (g_o hG4 rfl)) rfl (to_an (pc := 0) rw_84_0 rfl (to_in (pc := 1) rw_84_1 rfl (s_pI (pc := 2) rw_84_2 hG4 rfl (fun M106 W105 => ?_))))))
      have hG107 := g_wf hG4 W105 rfl rfl (by decide)
      have F108 := FR.w F6 W105 (show 1 = 1 ∧ 5 ≤ 10 ∨ 3 ≤ 1 ∧ 1 ≤ 5 ∨ 49 ≤ 1 ∧ 1 ≤ 66 by decide)
      refine to_an (pc := 5) rw_84_5 rfl (to_an (pc := 6) rw_84_6 rfl ?_)
      have c_109 : M106.2.1 1 9 = (M5.2.1 1 9) := (W_n W105 (by decide) rfl)
      refine tt_gI (pc := 7) rw_84_7 (g_o hG107 rfl) (v := (M5.2.1 1 9)) c_109 (s_pI (pc := 10) rw_84_10 hG107 rfl (fun M111 W110 => ?_))
      have hG112 := g_wf hG107 W110 rfl rfl (by decide)
      have F113 := FR.w F108 W110 (show 1 = 1 ∧ 5 ≤ 11 ∨ 3 ≤ 1 ∧ 1 ≤ 5 ∨ 49 ≤ 1 ∧ 1 ≤ 66 by decide)
      refine to_c (pc := 13) rw_84_13 (x := (0 : Int32)) rfl rfl (s_r1 (pc := 14) rw_84_14 (A := 0) rfl (by decide) (s_r1 (pc := 32) rw_41_32 (A := 0) rfl (by decide) ?_))
      have k_114 : (0 : Int32).toInt = 0 := rfl
      have j_115 := (PI_f (fun a i z => W_n W110 (by /-r1,11-/ omega) rfl) (PI_f (fun a i z => W_n W105 (by /-r1,10-/ omega) rfl) (PI_f (tg_112 F3) q1)))
      exact h (0 : Int32) M111 hG112 F113 (by decide) (by decide) j_115
  · refine to_an (pc := 9) rw_41_9 rfl (to_c (pc := 10) rw_41_10 (x := (2 : Int32)) rfl rfl (s_v (pc := 11) rw_41_11 (dp0 hd (by decide)) (ls0 := [.ref 1, .int (2 : Int32)]) rfl (Nat.le_of_ble_eq_true rfl) (Nat.le_of_ble_eq_true rfl) rfl (to_rc rfl rfl rfl (g_o hG rfl)) rfl (to_an (pc := 0) rw_84_0 rfl (to_in (pc := 1) rw_84_1 rfl (s_pI (pc := 2) rw_84_2 hG rfl (fun M117 W116 => ?_))))))
    have hG118 := g_wf hG W116 rfl rfl (by decide)
    have F119 := FR.w F0 W116 (show 1 = 1 ∧ 5 ≤ 10 ∨ 3 ≤ 1 ∧ 1 ≤ 5 ∨ 49 ≤ 1 ∧ 1 ≤ 66 by decide)
    refine to_an (pc := 5) rw_84_5 rfl (to_an (pc := 6) rw_84_6 rfl ?_)
    have c_120 : M117.2.1 1 9 = (M.2.1 1 9) := (W_n W116 (by decide) rfl)
    refine tt_gI (pc := 7) rw_84_7 (g_o hG118 rfl) (v := (M.2.1 1 9)) c_120 (s_pI (pc := 10) rw_84_10 hG118 rfl (fun M122 W121 => ?_))
    have hG123 := g_wf hG118 W121 rfl rfl (by decide)
    have F124 := FR.w F119 W121 (show 1 = 1 ∧ 5 ≤ 11 ∨ 3 ≤ 1 ∧ 1 ≤ 5 ∨ 49 ≤ 1 ∧ 1 ≤ 66 by decide)
    refine to_c (pc := 13) rw_84_13 (x := (0 : Int32)) rfl rfl (s_r1 (pc := 14) rw_84_14 (A := 0) rfl (by decide) (s_r1 (pc := 14) rw_41_14 (A := 0) rfl (by decide) ?_))
    have k_125 : (0 : Int32).toInt = 0 := rfl
    have j_126 := (PI_f (fun a i z => W_n W121 (by /-r1,11-/ omega) rfl) (PI_f (fun a i z => W_n W116 (by /-r1,10-/ omega) rfl) q1))
    exact h (0 : Int32) M122 hG123 F124 (by decide) (by decide) j_126
set_option maxRecDepth 4000 in
set_option maxHeartbeats 0 in
theorem C_31 {X : mm_X} {d : Nat} {M : mm_M} {Q : Option Value → mm_M → Prop} {p : Nat} (hX : g_X X) (hd : 4 ≤ d) (hG : g_G M) (hp : p = 49 ∨ p = 58) (q1 : PI M) (h : ∀ (r : Int32) (M1 : mm_M), g_G M1 → FR md_pt M M1 → (0 ≤ r.toInt) → (r.toInt ≤ 1) → PI M1 → Q (some (.int r)) M1) : mm_T X d 31 0 [.ref p, .ref 1] [] M Q := by
  have F0 : FR md_pt M M := FR.rf
  refine to_an (pc := 0) rw_31_0 rfl (to_c (pc := 1) rw_31_1 (x := (284563040 : Int32)) rfl rfl (s_v (pc := 3) rw_31_3 (dp0 hd (by decide)) (ls0 := [.ref 1, .int (284563040 : Int32)]) rfl (Nat.le_of_ble_eq_true rfl) (Nat.le_of_ble_eq_true rfl) rfl (to_rc rfl rfl rfl (g_o hG rfl)) rfl (to_an (pc := 0) rw_86_0 rfl (tt_gI (pc := 1) rw_86_1 (g_o hG rfl) (v := (M.2.1 1 7)) rfl (to_c (pc := 4) rw_86_4 (x := (4 : Int32)) rfl rfl (b_cne (pc := 5) rw_86_5 (A := (M.2.1 1 7).toInt) (B := 4) rfl rfl (fun h1 => ?_) (fun h1 => ?_)))))))
  · refine to_c (pc := 20) rw_86_20 (x := (0 : Int32)) rfl rfl (s_r1 (pc := 21) rw_86_21 (A := 0) rfl (by decide) (b_ieq_t (pc := 6) rw_31_6 (A := 0) rfl (by decide) (to_an (pc := 15) rw_31_15 rfl (tt_gI (pc := 16) rw_31_16 (g_o hG (by rcases hp with rfl | rfl <;> rfl)) (v := (M.2.1 p 1)) rfl (b_ile (pc := 19) rw_31_19 (A := (M.2.1 p 1).toInt) rfl (fun h2 => ?_) (fun h2 => ?_))))))
    · refine to_an (pc := 37) rw_31_37 rfl (tt_gI (pc := 38) rw_31_38 (g_o hG (by rcases hp with rfl | rfl <;> rfl)) (v := (M.2.1 p 1)) rfl (b_ile_t (pc := 41) rw_31_41 (A := (M.2.1 p 1).toInt) rfl (by omega) (to_an (pc := 59) rw_31_59 rfl (to_c (pc := 60) rw_31_60 (x := (1 : Int32)) rfl rfl (s_v (pc := 61) rw_31_61 (dp0 hd (by decide)) (ls0 := [.ref 1, .int (1 : Int32)]) rfl (Nat.le_of_ble_eq_true rfl) (Nat.le_of_ble_eq_true rfl) rfl (to_rc rfl rfl rfl (g_o hG rfl)) rfl (to_an (pc := 0) rw_84_0 rfl (to_in (pc := 1) rw_84_1 rfl (s_pI (pc := 2) rw_84_2 hG rfl (fun M4 W3 => ?_)))))))))
      have hG5 := g_wf hG W3 rfl rfl (by decide)
      have F6 := FR.w F0 W3 (show 1 = 1 ∧ 5 ≤ 10 ∨ 3 ≤ 1 ∧ 1 ≤ 5 ∨ 49 ≤ 1 ∧ 1 ≤ 66 by decide)
      refine to_an (pc := 5) rw_84_5 rfl (to_an (pc := 6) rw_84_6 rfl ?_)
      have c_7 : M4.2.1 1 9 = (M.2.1 1 9) := (W_n W3 (by decide) rfl)
      refine tt_gI (pc := 7) rw_84_7 (g_o hG5 rfl) (v := (M.2.1 1 9)) c_7 (s_pI (pc := 10) rw_84_10 hG5 rfl (fun M9 W8 => ?_))
      have hG10 := g_wf hG5 W8 rfl rfl (by decide)
      have F11 := FR.w F6 W8 (show 1 = 1 ∧ 5 ≤ 11 ∨ 3 ≤ 1 ∧ 1 ≤ 5 ∨ 49 ≤ 1 ∧ 1 ≤ 66 by decide)
      refine to_c (pc := 13) rw_84_13 (x := (0 : Int32)) rfl rfl (s_r1 (pc := 14) rw_84_14 (A := 0) rfl (by decide) (s_r1 (pc := 64) rw_31_64 (A := 0) rfl (by decide) ?_))
      have k_12 : (0 : Int32).toInt = 0 := rfl
      have j_13 := (PI_f (fun a i z => W_n W8 (by /-r1,11-/ omega) rfl) (PI_f (fun a i z => W_n W3 (by /-r1,10-/ omega) rfl) q1))
      exact h (0 : Int32) M9 hG10 F11 (by decide) (by decide) j_13
    · refine to_an (pc := 22) rw_31_22 rfl (to_c (pc := 23) rw_31_23 (x := (210940032 : Int32)) rfl rfl (s_v (pc := 25) rw_31_25 (dp0 hd (by decide)) (ls0 := [.ref 1, .int (210940032 : Int32)]) rfl (Nat.le_of_ble_eq_true rfl) (Nat.le_of_ble_eq_true rfl) rfl (to_rc rfl rfl rfl (g_o hG rfl)) rfl (to_an (pc := 0) rw_86_0 rfl (tt_gI (pc := 1) rw_86_1 (g_o hG rfl) (v := (M.2.1 1 7)) rfl (to_c (pc := 4) rw_86_4 (x := (4 : Int32)) rfl rfl (b_cne (pc := 5) rw_86_5 (A := (M.2.1 1 7).toInt) (B := 4) rfl rfl (fun h14 => ?_) (fun h14 => ?_)))))))
      · refine to_c (pc := 20) rw_86_20 (x := (0 : Int32)) rfl rfl (s_r1 (pc := 21) rw_86_21 (A := 0) rfl (by decide) (b_ieq_t (pc := 28) rw_31_28 (A := 0) rfl (by decide) (to_an (pc := 37) rw_31_37 rfl (tt_gI (pc := 38) rw_31_38 (g_o hG (by rcases hp with rfl | rfl <;> rfl)) (v := (M.2.1 p 1)) rfl (b_ile_f (pc := 41) rw_31_41 (A := (M.2.1 p 1).toInt) rfl (by omega) (to_an (pc := 44) rw_31_44 rfl (to_c (pc := 45) rw_31_45 (x := (788074496 : Int32)) rfl rfl (s_v (pc := 47) rw_31_47 (dp0 hd (by decide)) (ls0 := [.ref 1, .int (788074496 : Int32)]) rfl (Nat.le_of_ble_eq_true rfl) (Nat.le_of_ble_eq_true rfl) rfl (to_rc rfl rfl rfl (g_o hG rfl)) rfl (to_an (pc := 0) rw_86_0 rfl (tt_gI (pc := 1) rw_86_1 (g_o hG rfl) (v := (M.2.1 1 7)) rfl (to_c (pc := 4) rw_86_4 (x := (4 : Int32)) rfl rfl ?_)))))))))))
        refine b_cne (pc := 5) rw_86_5 (A := (M.2.1 1 7).toInt) (B := 4) rfl rfl (fun h15 => ?_) (fun h15 => ?_)
        · refine to_c (pc := 20) rw_86_20 (x := (0 : Int32)) rfl rfl (s_r1 (pc := 21) rw_86_21 (A := 0) rfl (by decide) (b_ieq_t (pc := 50) rw_31_50 (A := 0) rfl (by decide) (to_an (pc := 59) rw_31_59 rfl (to_c (pc := 60) rw_31_60 (x := (1 : Int32)) rfl rfl (s_v (pc := 61) rw_31_61 (dp0 hd (by decide)) (ls0 := [.ref 1, .int (1 : Int32)]) rfl (Nat.le_of_ble_eq_true rfl) (Nat.le_of_ble_eq_true rfl) rfl (to_rc rfl rfl rfl (g_o hG rfl)) rfl (to_an (pc := 0) rw_84_0 rfl (to_in (pc := 1) rw_84_1 rfl (s_pI (pc := 2) rw_84_2 hG rfl (fun M17 W16 => ?_)))))))))
          have hG18 := g_wf hG W16 rfl rfl (by decide)
          have F19 := FR.w F0 W16 (show 1 = 1 ∧ 5 ≤ 10 ∨ 3 ≤ 1 ∧ 1 ≤ 5 ∨ 49 ≤ 1 ∧ 1 ≤ 66 by decide)
          refine to_an (pc := 5) rw_84_5 rfl (to_an (pc := 6) rw_84_6 rfl ?_)
          have c_20 : M17.2.1 1 9 = (M.2.1 1 9) := (W_n W16 (by decide) rfl)
          refine tt_gI (pc := 7) rw_84_7 (g_o hG18 rfl) (v := (M.2.1 1 9)) c_20 (s_pI (pc := 10) rw_84_10 hG18 rfl (fun M22 W21 => ?_))
          have hG23 := g_wf hG18 W21 rfl rfl (by decide)
          have F24 := FR.w F19 W21 (show 1 = 1 ∧ 5 ≤ 11 ∨ 3 ≤ 1 ∧ 1 ≤ 5 ∨ 49 ≤ 1 ∧ 1 ≤ 66 by decide)
          refine to_c (pc := 13) rw_84_13 (x := (0 : Int32)) rfl rfl (s_r1 (pc := 14) rw_84_14 (A := 0) rfl (by decide) (s_r1 (pc := 64) rw_31_64 (A := 0) rfl (by decide) ?_))
          have k_25 : (0 : Int32).toInt = 0 := rfl
          have j_26 := (PI_f (fun a i z => W_n W21 (by /-r1,11-/ omega) rfl) (PI_f (fun a i z => W_n W16 (by /-r1,10-/ omega) rfl) q1))
          exact h (0 : Int32) M22 hG23 F24 (by decide) (by decide) j_26
        · refine to_an (pc := 8) rw_86_8 rfl (tt_gI (pc := 9) rw_86_9 (g_o hG rfl) (v := (M.2.1 1 8)) rfl (to_in (pc := 12) rw_86_12 rfl (b_cne (pc := 13) rw_86_13 (A := (M.2.1 1 8).toInt) (B := 788074496) rfl rfl (fun h27 => ?_) (fun h27 => ?_))))
          · refine to_c (pc := 20) rw_86_20 (x := (0 : Int32)) rfl rfl (s_r1 (pc := 21) rw_86_21 (A := 0) rfl (by decide) (b_ieq_t (pc := 50) rw_31_50 (A := 0) rfl (by decide) (to_an (pc := 59) rw_31_59 rfl (to_c (pc := 60) rw_31_60 (x := (1 : Int32)) rfl rfl (s_v (pc := 61) rw_31_61 (dp0 hd (by decide)) (ls0 := [.ref 1, .int (1 : Int32)]) rfl (Nat.le_of_ble_eq_true rfl) (Nat.le_of_ble_eq_true rfl) rfl (to_rc rfl rfl rfl (g_o hG rfl)) rfl (to_an (pc := 0) rw_84_0 rfl (to_in (pc := 1) rw_84_1 rfl (s_pI (pc := 2) rw_84_2 hG rfl (fun M29 W28 => ?_)))))))))
            have hG30 := g_wf hG W28 rfl rfl (by decide)
            have F31 := FR.w F0 W28 (show 1 = 1 ∧ 5 ≤ 10 ∨ 3 ≤ 1 ∧ 1 ≤ 5 ∨ 49 ≤ 1 ∧ 1 ≤ 66 by decide)
            refine to_an (pc := 5) rw_84_5 rfl (to_an (pc := 6) rw_84_6 rfl ?_)
            have c_32 : M29.2.1 1 9 = (M.2.1 1 9) := (W_n W28 (by decide) rfl)
            refine tt_gI (pc := 7) rw_84_7 (g_o hG30 rfl) (v := (M.2.1 1 9)) c_32 (s_pI (pc := 10) rw_84_10 hG30 rfl (fun M34 W33 => ?_))
            have hG35 := g_wf hG30 W33 rfl rfl (by decide)
            have F36 := FR.w F31 W33 (show 1 = 1 ∧ 5 ≤ 11 ∨ 3 ≤ 1 ∧ 1 ≤ 5 ∨ 49 ≤ 1 ∧ 1 ≤ 66 by decide)
            refine to_c (pc := 13) rw_84_13 (x := (0 : Int32)) rfl rfl (s_r1 (pc := 14) rw_84_14 (A := 0) rfl (by decide) (s_r1 (pc := 64) rw_31_64 (A := 0) rfl (by decide) ?_))
            have k_37 : (0 : Int32).toInt = 0 := rfl
            have j_38 := (PI_f (fun a i z => W_n W33 (by /-r1,11-/ omega) rfl) (PI_f (fun a i z => W_n W28 (by /-r1,10-/ omega) rfl) q1))
            exact h (0 : Int32) M34 hG35 F36 (by decide) (by decide) j_38
          · refine to_c (pc := 16) rw_86_16 (x := (1 : Int32)) rfl rfl (to_go (pc := 17) rw_86_17 (s_r1 (pc := 21) rw_86_21 (A := 1) rfl (by decide) (b_ieq_f (pc := 50) rw_31_50 (A := 1) rfl (by decide) (to_an (pc := 53) rw_31_53 rfl (to_an (pc := 54) rw_31_54 rfl (s_v (pc := 55) rw_31_55 (dp0 hd (by decide)) (ls0 := [.ref p, .ref 1, .null]) rfl (Nat.le_of_ble_eq_true rfl) (Nat.le_of_ble_eq_true rfl) rfl (to_rc rfl rfl rfl (g_o hG (by rcases hp with rfl | rfl <;> rfl))) rfl (C_41 hX (dp1 hd (by decide)) hG hp q1 (p := p) (fun r39 M45 hG41 F40 p_42 p_43 p_44 => ?_))))))))
            have F46 := FR.c F0 F40 tg_121
            refine s_r1 (pc := 58) rw_31_58 (A := r39.toInt) rfl (by omega) ?_
            exact h r39 M45 hG41 F46 (by omega) (by omega) p_44
      · refine to_an (pc := 8) rw_86_8 rfl (tt_gI (pc := 9) rw_86_9 (g_o hG rfl) (v := (M.2.1 1 8)) rfl (to_in (pc := 12) rw_86_12 rfl (b_cne (pc := 13) rw_86_13 (A := (M.2.1 1 8).toInt) (B := 210940032) rfl rfl (fun h47 => ?_) (fun h47 => ?_))))
        · refine to_c (pc := 20) rw_86_20 (x := (0 : Int32)) rfl rfl (s_r1 (pc := 21) rw_86_21 (A := 0) rfl (by decide) (b_ieq_t (pc := 28) rw_31_28 (A := 0) rfl (by decide) (to_an (pc := 37) rw_31_37 rfl (tt_gI (pc := 38) rw_31_38 (g_o hG (by rcases hp with rfl | rfl <;> rfl)) (v := (M.2.1 p 1)) rfl (b_ile_f (pc := 41) rw_31_41 (A := (M.2.1 p 1).toInt) rfl (by omega) (to_an (pc := 44) rw_31_44 rfl (to_c (pc := 45) rw_31_45 (x := (788074496 : Int32)) rfl rfl (s_v (pc := 47) rw_31_47 (dp0 hd (by decide)) (ls0 := [.ref 1, .int (788074496 : Int32)]) rfl (Nat.le_of_ble_eq_true rfl) (Nat.le_of_ble_eq_true rfl) rfl (to_rc rfl rfl rfl (g_o hG rfl)) rfl (to_an (pc := 0) rw_86_0 rfl (tt_gI (pc := 1) rw_86_1 (g_o hG rfl) (v := (M.2.1 1 7)) rfl (to_c (pc := 4) rw_86_4 (x := (4 : Int32)) rfl rfl ?_)))))))))))
          refine b_cne_f (pc := 5) rw_86_5 (A := (M.2.1 1 7).toInt) (B := 4) rfl rfl (by omega) (to_an (pc := 8) rw_86_8 rfl (tt_gI (pc := 9) rw_86_9 (g_o hG rfl) (v := (M.2.1 1 8)) rfl (to_in (pc := 12) rw_86_12 rfl (b_cne (pc := 13) rw_86_13 (A := (M.2.1 1 8).toInt) (B := 788074496) rfl rfl (fun h48 => ?_) (fun h48 => ?_)))))
          · refine to_c (pc := 20) rw_86_20 (x := (0 : Int32)) rfl rfl (s_r1 (pc := 21) rw_86_21 (A := 0) rfl (by decide) (b_ieq_t (pc := 50) rw_31_50 (A := 0) rfl (by decide) (to_an (pc := 59) rw_31_59 rfl (to_c (pc := 60) rw_31_60 (x := (1 : Int32)) rfl rfl (s_v (pc := 61) rw_31_61 (dp0 hd (by decide)) (ls0 := [.ref 1, .int (1 : Int32)]) rfl (Nat.le_of_ble_eq_true rfl) (Nat.le_of_ble_eq_true rfl) rfl (to_rc rfl rfl rfl (g_o hG rfl)) rfl (to_an (pc := 0) rw_84_0 rfl (to_in (pc := 1) rw_84_1 rfl (s_pI (pc := 2) rw_84_2 hG rfl (fun M50 W49 => ?_)))))))))
            have hG51 := g_wf hG W49 rfl rfl (by decide)
            have F52 := FR.w F0 W49 (show 1 = 1 ∧ 5 ≤ 10 ∨ 3 ≤ 1 ∧ 1 ≤ 5 ∨ 49 ≤ 1 ∧ 1 ≤ 66 by decide)
            refine to_an (pc := 5) rw_84_5 rfl (to_an (pc := 6) rw_84_6 rfl ?_)
            have c_53 : M50.2.1 1 9 = (M.2.1 1 9) := (W_n W49 (by decide) rfl)
            refine tt_gI (pc := 7) rw_84_7 (g_o hG51 rfl) (v := (M.2.1 1 9)) c_53 (s_pI (pc := 10) rw_84_10 hG51 rfl (fun M55 W54 => ?_))
            have hG56 := g_wf hG51 W54 rfl rfl (by decide)
            have F57 := FR.w F52 W54 (show 1 = 1 ∧ 5 ≤ 11 ∨ 3 ≤ 1 ∧ 1 ≤ 5 ∨ 49 ≤ 1 ∧ 1 ≤ 66 by decide)
            refine to_c (pc := 13) rw_84_13 (x := (0 : Int32)) rfl rfl (s_r1 (pc := 14) rw_84_14 (A := 0) rfl (by decide) (s_r1 (pc := 64) rw_31_64 (A := 0) rfl (by decide) ?_))
            have k_58 : (0 : Int32).toInt = 0 := rfl
            have j_59 := (PI_f (fun a i z => W_n W54 (by /-r1,11-/ omega) rfl) (PI_f (fun a i z => W_n W49 (by /-r1,10-/ omega) rfl) q1))
            exact h (0 : Int32) M55 hG56 F57 (by decide) (by decide) j_59
          · refine to_c (pc := 16) rw_86_16 (x := (1 : Int32)) rfl rfl (to_go (pc := 17) rw_86_17 (s_r1 (pc := 21) rw_86_21 (A := 1) rfl (by decide) (b_ieq_f (pc := 50) rw_31_50 (A := 1) rfl (by decide) (to_an (pc := 53) rw_31_53 rfl (to_an (pc := 54) rw_31_54 rfl (s_v (pc := 55) rw_31_55 (dp0 hd (by decide)) (ls0 := [.ref p, .ref 1, .null]) rfl (Nat.le_of_ble_eq_true rfl) (Nat.le_of_ble_eq_true rfl) rfl (to_rc rfl rfl rfl (g_o hG (by rcases hp with rfl | rfl <;> rfl))) rfl (C_41 hX (dp1 hd (by decide)) hG hp q1 (p := p) (fun r60 M66 hG62 F61 p_63 p_64 p_65 => ?_))))))))
            have F67 := FR.c F0 F61 tg_121
            refine s_r1 (pc := 58) rw_31_58 (A := r60.toInt) rfl (by omega) ?_
            exact h r60 M66 hG62 F67 (by omega) (by omega) p_65
        · refine to_c (pc := 16) rw_86_16 (x := (1 : Int32)) rfl rfl (to_go (pc := 17) rw_86_17 (s_r1 (pc := 21) rw_86_21 (A := 1) rfl (by decide) (b_ieq_f (pc := 28) rw_31_28 (A := 1) rfl (by decide) (to_an (pc := 31) rw_31_31 rfl (to_an (pc := 32) rw_31_32 rfl (s_v (pc := 33) rw_31_33 (dp0 hd (by decide)) (ls0 := [.ref p, .ref 1, .null, .null]) rfl (Nat.le_of_ble_eq_true rfl) (Nat.le_of_ble_eq_true rfl) rfl (to_rc rfl rfl rfl (g_o hG (by rcases hp with rfl | rfl <;> rfl))) rfl (C_33 hX (dp1 hd (by decide)) hG hp q1 (p := p) (fun r68 M74 hG70 F69 p_71 p_72 p_73 => ?_))))))))
          have F75 := FR.c F0 F69 tg_121
          refine s_r1 (pc := 36) rw_31_36 (A := r68.toInt) rfl (by omega) ?_
          exact h r68 M74 hG70 F75 (by omega) (by omega) p_73
  · refine to_an (pc := 8) rw_86_8 rfl (tt_gI (pc := 9) rw_86_9 (g_o hG rfl) (v := (M.2.1 1 8)) rfl (to_in (pc := 12) rw_86_12 rfl (b_cne (pc := 13) rw_86_13 (A := (M.2.1 1 8).toInt) (B := 284563040) rfl rfl (fun h76 => ?_) (fun h76 => ?_))))
    · refine to_c (pc := 20) rw_86_20 (x := (0 : Int32)) rfl rfl (s_r1 (pc := 21) rw_86_21 (A := 0) rfl (by decide) (b_ieq_t (pc := 6) rw_31_6 (A := 0) rfl (by decide) (to_an (pc := 15) rw_31_15 rfl (tt_gI (pc := 16) rw_31_16 (g_o hG (by rcases hp with rfl | rfl <;> rfl)) (v := (M.2.1 p 1)) rfl (b_ile (pc := 19) rw_31_19 (A := (M.2.1 p 1).toInt) rfl (fun h77 => ?_) (fun h77 => ?_))))))
      · refine to_an (pc := 37) rw_31_37 rfl (tt_gI (pc := 38) rw_31_38 (g_o hG (by rcases hp with rfl | rfl <;> rfl)) (v := (M.2.1 p 1)) rfl (b_ile_t (pc := 41) rw_31_41 (A := (M.2.1 p 1).toInt) rfl (by omega) (to_an (pc := 59) rw_31_59 rfl (to_c (pc := 60) rw_31_60 (x := (1 : Int32)) rfl rfl (s_v (pc := 61) rw_31_61 (dp0 hd (by decide)) (ls0 := [.ref 1, .int (1 : Int32)]) rfl (Nat.le_of_ble_eq_true rfl) (Nat.le_of_ble_eq_true rfl) rfl (to_rc rfl rfl rfl (g_o hG rfl)) rfl (to_an (pc := 0) rw_84_0 rfl (to_in (pc := 1) rw_84_1 rfl (s_pI (pc := 2) rw_84_2 hG rfl (fun M79 W78 => ?_)))))))))
        have hG80 := g_wf hG W78 rfl rfl (by decide)
        have F81 := FR.w F0 W78 (show 1 = 1 ∧ 5 ≤ 10 ∨ 3 ≤ 1 ∧ 1 ≤ 5 ∨ 49 ≤ 1 ∧ 1 ≤ 66 by decide)
        refine to_an (pc := 5) rw_84_5 rfl (to_an (pc := 6) rw_84_6 rfl ?_)
        have c_82 : M79.2.1 1 9 = (M.2.1 1 9) := (W_n W78 (by decide) rfl)
        refine tt_gI (pc := 7) rw_84_7 (g_o hG80 rfl) (v := (M.2.1 1 9)) c_82 (s_pI (pc := 10) rw_84_10 hG80 rfl (fun M84 W83 => ?_))
        have hG85 := g_wf hG80 W83 rfl rfl (by decide)
        have F86 := FR.w F81 W83 (show 1 = 1 ∧ 5 ≤ 11 ∨ 3 ≤ 1 ∧ 1 ≤ 5 ∨ 49 ≤ 1 ∧ 1 ≤ 66 by decide)
        refine to_c (pc := 13) rw_84_13 (x := (0 : Int32)) rfl rfl (s_r1 (pc := 14) rw_84_14 (A := 0) rfl (by decide) (s_r1 (pc := 64) rw_31_64 (A := 0) rfl (by decide) ?_))
        have k_87 : (0 : Int32).toInt = 0 := rfl
        have j_88 := (PI_f (fun a i z => W_n W83 (by /-r1,11-/ omega) rfl) (PI_f (fun a i z => W_n W78 (by /-r1,10-/ omega) rfl) q1))
        exact h (0 : Int32) M84 hG85 F86 (by decide) (by decide) j_88
      · refine to_an (pc := 22) rw_31_22 rfl (to_c (pc := 23) rw_31_23 (x := (210940032 : Int32)) rfl rfl (s_v (pc := 25) rw_31_25 (dp0 hd (by decide)) (ls0 := [.ref 1, .int (210940032 : Int32)]) rfl (Nat.le_of_ble_eq_true rfl) (Nat.le_of_ble_eq_true rfl) rfl (to_rc rfl rfl rfl (g_o hG rfl)) rfl (to_an (pc := 0) rw_86_0 rfl (tt_gI (pc := 1) rw_86_1 (g_o hG rfl) (v := (M.2.1 1 7)) rfl (to_c (pc := 4) rw_86_4 (x := (4 : Int32)) rfl rfl (b_cne_f (pc := 5) rw_86_5 (A := (M.2.1 1 7).toInt) (B := 4) rfl rfl (by omega) (to_an (pc := 8) rw_86_8 rfl (tt_gI (pc := 9) rw_86_9 (g_o hG rfl) (v := (M.2.1 1 8)) rfl (to_in (pc := 12) rw_86_12 rfl (b_cne (pc := 13) rw_86_13 (A := (M.2.1 1 8).toInt) (B := 210940032) rfl rfl (fun h89 => ?_) (fun h89 => ?_)))))))))))
        · refine to_c (pc := 20) rw_86_20 (x := (0 : Int32)) rfl rfl (s_r1 (pc := 21) rw_86_21 (A := 0) rfl (by decide) (b_ieq_t (pc := 28) rw_31_28 (A := 0) rfl (by decide) (to_an (pc := 37) rw_31_37 rfl (tt_gI (pc := 38) rw_31_38 (g_o hG (by rcases hp with rfl | rfl <;> rfl)) (v := (M.2.1 p 1)) rfl (b_ile_f (pc := 41) rw_31_41 (A := (M.2.1 p 1).toInt) rfl (by omega) (to_an (pc := 44) rw_31_44 rfl (to_c (pc := 45) rw_31_45 (x := (788074496 : Int32)) rfl rfl (s_v (pc := 47) rw_31_47 (dp0 hd (by decide)) (ls0 := [.ref 1, .int (788074496 : Int32)]) rfl (Nat.le_of_ble_eq_true rfl) (Nat.le_of_ble_eq_true rfl) rfl (to_rc rfl rfl rfl (g_o hG rfl)) rfl (to_an (pc := 0) rw_86_0 rfl (tt_gI (pc := 1) rw_86_1 (g_o hG rfl) (v := (M.2.1 1 7)) rfl (to_c (pc := 4) rw_86_4 (x := (4 : Int32)) rfl rfl ?_)))))))))))
          refine b_cne_f (pc := 5) rw_86_5 (A := (M.2.1 1 7).toInt) (B := 4) rfl rfl (by omega) (to_an (pc := 8) rw_86_8 rfl (tt_gI (pc := 9) rw_86_9 (g_o hG rfl) (v := (M.2.1 1 8)) rfl (to_in (pc := 12) rw_86_12 rfl (b_cne (pc := 13) rw_86_13 (A := (M.2.1 1 8).toInt) (B := 788074496) rfl rfl (fun h90 => ?_) (fun h90 => ?_)))))
          · refine to_c (pc := 20) rw_86_20 (x := (0 : Int32)) rfl rfl (s_r1 (pc := 21) rw_86_21 (A := 0) rfl (by decide) (b_ieq_t (pc := 50) rw_31_50 (A := 0) rfl (by decide) (to_an (pc := 59) rw_31_59 rfl (to_c (pc := 60) rw_31_60 (x := (1 : Int32)) rfl rfl (s_v (pc := 61) rw_31_61 (dp0 hd (by decide)) (ls0 := [.ref 1, .int (1 : Int32)]) rfl (Nat.le_of_ble_eq_true rfl) (Nat.le_of_ble_eq_true rfl) rfl (to_rc rfl rfl rfl (g_o hG rfl)) rfl (to_an (pc := 0) rw_84_0 rfl (to_in (pc := 1) rw_84_1 rfl (s_pI (pc := 2) rw_84_2 hG rfl (fun M92 W91 => ?_)))))))))
            have hG93 := g_wf hG W91 rfl rfl (by decide)
            have F94 := FR.w F0 W91 (show 1 = 1 ∧ 5 ≤ 10 ∨ 3 ≤ 1 ∧ 1 ≤ 5 ∨ 49 ≤ 1 ∧ 1 ≤ 66 by decide)
            refine to_an (pc := 5) rw_84_5 rfl (to_an (pc := 6) rw_84_6 rfl ?_)
            have c_95 : M92.2.1 1 9 = (M.2.1 1 9) := (W_n W91 (by decide) rfl)
            refine tt_gI (pc := 7) rw_84_7 (g_o hG93 rfl) (v := (M.2.1 1 9)) c_95 (s_pI (pc := 10) rw_84_10 hG93 rfl (fun M97 W96 => ?_))
            have hG98 := g_wf hG93 W96 rfl rfl (by decide)
            have F99 := FR.w F94 W96 (show 1 = 1 ∧ 5 ≤ 11 ∨ 3 ≤ 1 ∧ 1 ≤ 5 ∨ 49 ≤ 1 ∧ 1 ≤ 66 by decide)
            refine to_c (pc := 13) rw_84_13 (x := (0 : Int32)) rfl rfl (s_r1 (pc := 14) rw_84_14 (A := 0) rfl (by decide) (s_r1 (pc := 64) rw_31_64 (A := 0) rfl (by decide) ?_))
            have k_100 : (0 : Int32).toInt = 0 := rfl
            have j_101 := (PI_f (fun a i z => W_n W96 (by /-r1,11-/ omega) rfl) (PI_f (fun a i z => W_n W91 (by /-r1,10-/ omega) rfl) q1))
            exact h (0 : Int32) M97 hG98 F99 (by decide) (by decide) j_101
          · refine to_c (pc := 16) rw_86_16 (x := (1 : Int32)) rfl rfl (to_go (pc := 17) rw_86_17 (s_r1 (pc := 21) rw_86_21 (A := 1) rfl (by decide) (b_ieq_f (pc := 50) rw_31_50 (A := 1) rfl (by decide) (to_an (pc := 53) rw_31_53 rfl (to_an (pc := 54) rw_31_54 rfl (s_v (pc := 55) rw_31_55 (dp0 hd (by decide)) (ls0 := [.ref p, .ref 1, .null]) rfl (Nat.le_of_ble_eq_true rfl) (Nat.le_of_ble_eq_true rfl) rfl (to_rc rfl rfl rfl (g_o hG (by rcases hp with rfl | rfl <;> rfl))) rfl (C_41 hX (dp1 hd (by decide)) hG hp q1 (p := p) (fun r102 M108 hG104 F103 p_105 p_106 p_107 => ?_))))))))
            have F109 := FR.c F0 F103 tg_121
            refine s_r1 (pc := 58) rw_31_58 (A := r102.toInt) rfl (by omega) ?_
            exact h r102 M108 hG104 F109 (by omega) (by omega) p_107
        · refine to_c (pc := 16) rw_86_16 (x := (1 : Int32)) rfl rfl (to_go (pc := 17) rw_86_17 (s_r1 (pc := 21) rw_86_21 (A := 1) rfl (by decide) (b_ieq_f (pc := 28) rw_31_28 (A := 1) rfl (by decide) (to_an (pc := 31) rw_31_31 rfl (to_an (pc := 32) rw_31_32 rfl (s_v (pc := 33) rw_31_33 (dp0 hd (by decide)) (ls0 := [.ref p, .ref 1, .null, .null]) rfl (Nat.le_of_ble_eq_true rfl) (Nat.le_of_ble_eq_true rfl) rfl (to_rc rfl rfl rfl (g_o hG (by rcases hp with rfl | rfl <;> rfl))) rfl (C_33 hX (dp1 hd (by decide)) hG hp q1 (p := p) (fun r110 M116 hG112 F111 p_113 p_114 p_115 => ?_))))))))
          have F117 := FR.c F0 F111 tg_121
          refine s_r1 (pc := 36) rw_31_36 (A := r110.toInt) rfl (by omega) ?_
          exact h r110 M116 hG112 F117 (by omega) (by omega) p_115
    · refine to_c (pc := 16) rw_86_16 (x := (1 : Int32)) rfl rfl (to_go (pc := 17) rw_86_17 (s_r1 (pc := 21) rw_86_21 (A := 1) rfl (by decide) (b_ieq_f (pc := 6) rw_31_6 (A := 1) rfl (by decide) (to_an (pc := 9) rw_31_9 rfl (to_an (pc := 10) rw_31_10 rfl (s_v (pc := 11) rw_31_11 (dp0 hd (by decide)) (ls0 := [.ref p, .ref 1]) rfl (Nat.le_of_ble_eq_true rfl) (Nat.le_of_ble_eq_true rfl) rfl (to_rc rfl rfl rfl (g_o hG (by rcases hp with rfl | rfl <;> rfl))) rfl (C_32 hX (dp1 hd (by decide)) hG hp q1 (p := p) (fun r118 M124 hG120 F119 p_121 p_122 p_123 => ?_))))))))
      have F125 := FR.c F0 F119 tg_121
      refine s_r1 (pc := 14) rw_31_14 (A := r118.toInt) rfl (by omega) ?_
      exact h r118 M124 hG120 F125 (by omega) (by omega) p_123
set_option maxRecDepth 4000 in
set_option maxHeartbeats 0 in
theorem T_30_0 {X : mm_X} {d : Nat} {M : mm_M} {Q : Option Value → mm_M → Prop} {p : Nat} (hX : g_X X) (hd : 5 ≤ d) (hp : p = 49 ∨ p = 58) (q1 : PI M) (h : ∀ (r : Int32) (M1 : mm_M), g_G M1 → FR md_pt M M1 → (0 ≤ r.toInt) → (r.toInt ≤ 1) → PI M1 → Q (some (.int r)) M1) : ∀ nn9 : Nat, (∀ (N : mm_M) (x2 : Int32), g_G N → FR md_pt M N → (0 ≤ x2.toInt) → (x2.toInt ≤ 22) → (PI N) → 22 - x2.toInt < (nn9 : Int) → mm_T X d 30 28 [.ref p, .ref 1, .int x2] [] N Q) := by
  intro nn9
  induction nn9 with
  | zero =>
    intro N x2 hG F0 g1 g2 g3 hm
    exfalso; omega
  | succ nn9 ih =>
    intro N x2 hG F0 g1 g2 g3 hm
    refine to_in (pc := 28) rw_30_28 rfl (to_c (pc := 29) rw_30_29 (x := (21 : Int32)) rfl rfl (b_cgt (pc := 31) rw_30_31 (A := x2.toInt) (B := 21) rfl rfl (fun h1 => ?_) (fun h1 => ?_)))
    · refine to_c (pc := 76) rw_30_76 (x := (1 : Int32)) rfl rfl (s_r1 (pc := 77) rw_30_77 (A := 1) rfl (by decide) ?_)
      have k_2 : (1 : Int32).toInt = 1 := rfl
      exact h (1 : Int32) N hG F0 (by decide) (by decide) g3
    · refine to_an (pc := 34) rw_30_34 rfl (tt_gI (pc := 35) rw_30_35 (g_o hG rfl) (v := (N.2.1 1 7)) rfl (b_ieq (pc := 38) rw_30_38 (A := (N.2.1 1 7).toInt) rfl (fun h3 => ?_) (fun h3 => ?_)))
      · refine to_c (pc := 76) rw_30_76 (x := (1 : Int32)) rfl rfl (s_r1 (pc := 77) rw_30_77 (A := 1) rfl (by decide) ?_)
        have k_4 : (1 : Int32).toInt = 1 := rfl
        exact h (1 : Int32) N hG F0 (by decide) (by decide) g3
      · refine to_an (pc := 41) rw_30_41 rfl (to_an (pc := 42) rw_30_42 rfl (s_v (pc := 43) rw_30_43 (dp0 hd (by decide)) (ls0 := [.ref p, .ref 1]) rfl (Nat.le_of_ble_eq_true rfl) (Nat.le_of_ble_eq_true rfl) rfl (to_rc rfl rfl rfl (g_o hG (by rcases hp with rfl | rfl <;> rfl))) rfl (C_31 hX (dp1 hd (by decide)) hG hp g3 (p := p) (fun r5 M11 hG7 F6 p_8 p_9 p_10 => ?_))))
        have F12 := FR.c F0 F6 tg_121
        refine b_ieq (pc := 46) rw_30_46 (A := r5.toInt) rfl (fun h13 => ?_) (fun h13 => ?_)
        · refine to_c (pc := 58) rw_30_58 (x := (0 : Int32)) rfl rfl (s_r1 (pc := 59) rw_30_59 (A := 0) rfl (by decide) ?_)
          have k_14 : (0 : Int32).toInt = 0 := rfl
          exact h (0 : Int32) M11 hG7 F12 (by decide) (by decide) p_10
        · refine to_an (pc := 49) rw_30_49 rfl (to_c (pc := 50) rw_30_50 (x := (59 : Int32)) rfl rfl (s_v (pc := 52) rw_30_52 (dp0 hd (by decide)) (ls0 := [.ref 1, .int (59 : Int32)]) rfl (Nat.le_of_ble_eq_true rfl) (Nat.le_of_ble_eq_true rfl) rfl (to_rc rfl rfl rfl (g_o hG7 rfl)) rfl ?_))
          have k_15 : (59 : Int32).toInt = 59 := rfl
          refine C_90 hX (dp1 hd (by decide)) hG7 (x := (59 : Int32)) (fun r16 M22 hG18 F17 p_19 p_20 p_21 => ?_)
          have F23 := FR.c F12 F17 tg_116
          refine b_ine (pc := 55) rw_30_55 (A := r16.toInt) rfl (fun h24 => ?_) (fun h24 => ?_)
          · refine to_an (pc := 60) rw_30_60 rfl (to_dupr (pc := 61) rw_30_61 ?_)
            have c_25 : M22.2.1 p 1 = (M11.2.1 p 1) := (F_n F17 (show ¬ (p = 1 ∧ 5 ≤ 1 ∨ 3 ≤ p ∧ p ≤ 5) by omega) rfl)
            refine tt_gI (pc := 62) rw_30_62 (g_o hG18 (by rcases hp with rfl | rfl <;> rfl)) (v := (M11.2.1 p 1)) c_25 (to_c (pc := 65) rw_30_65 (x := (1 : Int32)) rfl rfl (s_any (pc := 66) rw_30_66 (fun _ _ => rfl) (fun v26 => s_pI (pc := 67) rw_30_67 hG18 (by rcases hp with rfl | rfl <;> rfl) (fun M28 W27 => ?_))))
            have hG29 := g_wf hG18 W27 (by rcases hp with rfl | rfl <;> rfl) (by rcases hp with rfl | rfl <;> rfl) (by omega)
            have F30 := FR.w F23 W27 (show p = 1 ∧ 5 ≤ 1 ∨ 3 ≤ p ∧ p ≤ 5 ∨ 49 ≤ p ∧ p ≤ 66 by omega)
            refine s_inc (pc := 70) rw_30_70 (ls2 := fun v => [.ref p, .ref 1, .int v]) rfl rfl (fun _ => rfl) (A := x2.toInt) (B := 1) rfl rfl (by omega) (fun v31 e32 => to_go (pc := 73) rw_30_73 ?_)
            have j_33 := (PI_f (fun a i z => W_n W27 (by omega) rfl) (PI_f (tg_112 F17) p_10))
            exact ih M28 v31 hG29 F30 (by omega) (by omega) j_33 (by omega)
          · refine to_c (pc := 58) rw_30_58 (x := (0 : Int32)) rfl rfl (s_r1 (pc := 59) rw_30_59 (A := 0) rfl (by decide) ?_)
            have k_34 : (0 : Int32).toInt = 0 := rfl
            have j_35 := (PI_f (tg_112 F17) p_10)
            exact h (0 : Int32) M22 hG18 F23 (by decide) (by decide) j_35
set_option maxRecDepth 4000 in
set_option maxHeartbeats 0 in
theorem C_30 {X : mm_X} {d : Nat} {M : mm_M} {Q : Option Value → mm_M → Prop} {p : Nat} (hX : g_X X) (hd : 5 ≤ d) (hG : g_G M) (hp : p = 49 ∨ p = 58) (q1 : PI M) (h : ∀ (r : Int32) (M1 : mm_M), g_G M1 → FR md_pt M M1 → (0 ≤ r.toInt) → (r.toInt ≤ 1) → PI M1 → Q (some (.int r)) M1) : mm_T X d 30 0 [.ref p, .ref 1, .null] [] M Q := by
  have F0 : FR md_pt M M := FR.rf
  refine to_an (pc := 0) rw_30_0 rfl (to_c (pc := 1) rw_30_1 (x := (10 : Int32)) rfl rfl (s_pI (pc := 3) rw_30_3 hG (by rcases hp with rfl | rfl <;> rfl) (fun M37 W36 => ?_)))
  have hG38 := g_w hG W36 (A := 10) rfl (lo := 10) (hi := 60) (by rcases hp with rfl | rfl <;> rfl) (by rcases hp with rfl | rfl <;> rfl) (by omega) (by omega)
  have F39 := FR.w F0 W36 (show p = 1 ∧ 5 ≤ 0 ∨ 3 ≤ p ∧ p ≤ 5 ∨ 49 ≤ p ∧ p ≤ 66 by omega)
  refine to_an (pc := 6) rw_30_6 rfl (to_c (pc := 7) rw_30_7 (x := (0 : Int32)) rfl rfl (s_pI (pc := 8) rw_30_8 hG38 (by rcases hp with rfl | rfl <;> rfl) (fun M41 W40 => ?_)))
  have hG42 := g_wf hG38 W40 (by rcases hp with rfl | rfl <;> rfl) (by rcases hp with rfl | rfl <;> rfl) (by omega)
  have F43 := FR.w F39 W40 (show p = 1 ∧ 5 ≤ 1 ∨ 3 ≤ p ∧ p ≤ 5 ∨ 49 ≤ p ∧ p ≤ 66 by omega)
  refine to_an (pc := 11) rw_30_11 rfl (to_c (pc := 12) rw_30_12 (x := (0 : Int32)) rfl rfl (s_pI (pc := 13) rw_30_13 hG42 (by rcases hp with rfl | rfl <;> rfl) (fun M45 W44 => ?_)))
  have hG46 := g_w hG42 W44 (A := 0) rfl (lo := 0) (hi := 8) (by rcases hp with rfl | rfl <;> rfl) (by rcases hp with rfl | rfl <;> rfl) (by omega) (by omega)
  have F47 := FR.w F43 W44 (show p = 1 ∧ 5 ≤ 2 ∨ 3 ≤ p ∧ p ≤ 5 ∨ 49 ≤ p ∧ p ≤ 66 by omega)
  refine to_an (pc := 16) rw_30_16 rfl (to_c (pc := 17) rw_30_17 (x := (0 : Int32)) rfl rfl (s_pI (pc := 18) rw_30_18 hG46 (by rcases hp with rfl | rfl <;> rfl) (fun M49 W48 => ?_)))
  have hG50 := g_w hG46 W48 (A := 0) rfl (lo := 0) (hi := 12) (by rcases hp with rfl | rfl <;> rfl) (by rcases hp with rfl | rfl <;> rfl) (by omega) (by omega)
  have F51 := FR.w F47 W48 (show p = 1 ∧ 5 ≤ 3 ∨ 3 ≤ p ∧ p ≤ 5 ∨ 49 ≤ p ∧ p ≤ 66 by omega)
  refine to_an (pc := 21) rw_30_21 rfl (s_cl (pc := 22) rw_30_22 rfl (fun l52 => s_pJ (pc := 23) rw_30_23 hG50 (by rcases hp with rfl | rfl <;> rfl) (fun M54 W53 => ?_)))
  have hG55 := g_wl hG50 W53
  have F56 := FR.wl F51 W53 (show p = 1 ∧ 5 ≤ 4 ∨ 3 ≤ p ∧ p ≤ 5 ∨ 49 ≤ p ∧ p ≤ 66 by omega)
  refine to_c (pc := 26) rw_30_26 (x := (0 : Int32)) rfl rfl (to_isn (pc := 27) rw_30_27 (ls2 := [.ref p, .ref 1, .int (0 : Int32)]) rfl rfl ?_)
  have k_57 : (0 : Int32).toInt = 0 := rfl
  have j_58 := (PI_f (fun a i z => W_l W53 rfl) (PI_f (fun a i z => W_n W48 (by omega) rfl) (PI_f (fun a i z => W_n W44 (by omega) rfl) (PI_f (fun a i z => W_n W40 (by omega) rfl) (PI_f (fun a i z => W_n W36 (by omega) rfl) q1)))))
  exact (T_30_0 (p := p) hX hd hp q1 h ((22 - (0 : Int32).toInt).toNat + 1)) M54 (0 : Int32) hG55 F56 (by omega) (by omega) j_58 (by omega)
set_option maxRecDepth 4000 in
set_option maxHeartbeats 0 in
theorem C_49 {X : mm_X} {d : Nat} {M : mm_M} {Q : Option Value → mm_M → Prop} {p : Nat} {f : Int32} {v : Int32} (hX : g_X X) (hd : 2 ≤ d) (hG : g_G M) (hp : p = 49 ∨ p = 58) (h : ∀ (r : Int64) (M1 : mm_M), g_G M1 → FR md_0 M M1 → Q (some (.long r)) M1) : mm_T X d 49 0 [.ref p, .int f, .int v, .null, .null] [] M Q := by
  have F0 : FR md_0 M M := FR.rf
  refine to_an (pc := 0) rw_49_0 rfl (to_in (pc := 1) rw_49_1 rfl (to_in (pc := 2) rw_49_2 rfl (s_v (pc := 3) rw_49_3 (dp0 hd (by decide)) (ls0 := [.ref p, .int f, .int v]) rfl (Nat.le_of_ble_eq_true rfl) (Nat.le_of_ble_eq_true rfl) rfl (to_rc rfl rfl rfl (g_o hG (by rcases hp with rfl | rfl <;> rfl))) rfl (to_an (pc := 0) rw_46_0 rfl (to_in (pc := 1) rw_46_1 rfl (s_v (pc := 2) rw_46_2 (dp1 hd (by decide)) (ls0 := [.ref p, .int f]) rfl (Nat.le_of_ble_eq_true rfl) (Nat.le_of_ble_eq_true rfl) rfl (to_rc rfl rfl rfl (g_o hG (by rcases hp with rfl | rfl <;> rfl))) rfl (to_in (pc := 0) rw_43_0 rfl (b_ilt (pc := 1) rw_43_1 (A := f.toInt) rfl (fun h1 => ?_) (fun h1 => ?_)))))))))
  · refine to_c (pc := 16) rw_43_16 (x := (0 : Int32)) rfl rfl (s_r1 (pc := 17) rw_43_17 (A := 0) rfl (by decide) (b_ieq_t (pc := 5) rw_46_5 (A := 0) rfl (by decide) (to_c (pc := 34) rw_46_34 (x := (0 : Int32)) rfl rfl (s_r1 (pc := 35) rw_46_35 (A := 0) rfl (by decide) (b_ine_f (pc := 6) rw_49_6 (A := 0) rfl (by decide) (s_cl (pc := 9) rw_49_9 rfl (fun l2 => to_rl (pc := 10) rw_49_10 ?_)))))))
    exact h l2 M hG F0 
  · refine to_in (pc := 4) rw_43_4 rfl (to_an (pc := 5) rw_43_5 rfl ?_)
    have b_3 := g_b hG (a := p) (i := 2) (lo := 0) (hi := 8) (by rcases hp with rfl | rfl <;> rfl) (by rcases hp with rfl | rfl <;> rfl)
    refine tt_gI (pc := 6) rw_43_6 (g_o hG (by rcases hp with rfl | rfl <;> rfl)) (v := (M.2.1 p 2)) rfl (b_cge (pc := 9) rw_43_9 (A := f.toInt) (B := (M.2.1 p 2).toInt) rfl rfl (fun h4 => ?_) (fun h4 => ?_))
    · refine to_c (pc := 16) rw_43_16 (x := (0 : Int32)) rfl rfl (s_r1 (pc := 17) rw_43_17 (A := 0) rfl (by decide) (b_ieq_t (pc := 5) rw_46_5 (A := 0) rfl (by decide) (to_c (pc := 34) rw_46_34 (x := (0 : Int32)) rfl rfl (s_r1 (pc := 35) rw_46_35 (A := 0) rfl (by decide) (b_ine_f (pc := 6) rw_49_6 (A := 0) rfl (by decide) (s_cl (pc := 9) rw_49_9 rfl (fun l5 => to_rl (pc := 10) rw_49_10 ?_)))))))
      exact h l5 M hG F0 
    · refine to_c (pc := 12) rw_43_12 (x := (1 : Int32)) rfl rfl (to_go (pc := 13) rw_43_13 (s_r1 (pc := 17) rw_43_17 (A := 1) rfl (by decide) (b_ieq_f (pc := 5) rw_46_5 (A := 1) rfl (by decide) (to_an (pc := 8) rw_46_8 rfl (to_in (pc := 9) rw_46_9 rfl (s_v (pc := 10) rw_46_10 (dp1 hd (by decide)) (ls0 := [.ref p, .int f]) rfl (Nat.le_of_ble_eq_true rfl) (Nat.le_of_ble_eq_true rfl) rfl (to_rc rfl rfl rfl (g_o hG (by rcases hp with rfl | rfl <;> rfl))) rfl (to_an (pc := 0) rw_45_0 rfl (s_gR (pc := 1) rw_45_1 hG (by rcases hp with rfl | rfl <;> rfl) (v := (p + 2)) (by rcases hp with rfl | rfl <;> rfl) (to_in (pc := 4) rw_45_4 rfl (s_ial (pc := 5) rw_45_5 hG (by rcases hp with rfl | rfl <;> rfl) (n := 8) (by rcases hp with rfl | rfl <;> rfl) (by rcases hp with rfl | rfl <;> rfl) (A := f.toInt) rfl (by omega) (by omega) (lo := 0) (hi := 3) (by rcases hp with rfl | rfl <;> rfl) (by rcases hp with rfl | rfl <;> rfl) (fun v6 w_7 _ _ => to_c (pc := 6) rw_45_6 (x := (3 : Int32)) rfl rfl ?_)))))))))))
      refine b_cne (pc := 7) rw_45_7 (A := v6.toInt) (B := 3) rfl rfl (fun h8 => ?_) (fun h8 => ?_)
      · refine to_c (pc := 14) rw_45_14 (x := (0 : Int32)) rfl rfl (s_r1 (pc := 15) rw_45_15 (A := 0) rfl (by decide) (b_ine_f (pc := 13) rw_46_13 (A := 0) rfl (by decide) (to_in (pc := 16) rw_46_16 rfl (b_ilt (pc := 17) rw_46_17 (A := v.toInt) rfl (fun h9 => ?_) (fun h9 => ?_)))))
        · refine to_c (pc := 34) rw_46_34 (x := (0 : Int32)) rfl rfl (s_r1 (pc := 35) rw_46_35 (A := 0) rfl (by decide) (b_ine_f (pc := 6) rw_49_6 (A := 0) rfl (by decide) (s_cl (pc := 9) rw_49_9 rfl (fun l10 => to_rl (pc := 10) rw_49_10 ?_))))
          exact h l10 M hG F0 
        · refine to_in (pc := 20) rw_46_20 rfl (to_an (pc := 21) rw_46_21 rfl (s_gR (pc := 22) rw_46_22 hG (by rcases hp with rfl | rfl <;> rfl) (v := (p + 5)) (by rcases hp with rfl | rfl <;> rfl) (to_in (pc := 25) rw_46_25 rfl (s_ial (pc := 26) rw_46_26 hG (by rcases hp with rfl | rfl <;> rfl) (n := 8) (by rcases hp with rfl | rfl <;> rfl) (by rcases hp with rfl | rfl <;> rfl) (A := f.toInt) rfl (by omega) (by omega) (lo := 0) (hi := 24) (by rcases hp with rfl | rfl <;> rfl) (by rcases hp with rfl | rfl <;> rfl) (fun v11 w_12 _ _ => b_cge (pc := 27) rw_46_27 (A := v.toInt) (B := v11.toInt) rfl rfl (fun h13 => ?_) (fun h13 => ?_))))))
          · refine to_c (pc := 34) rw_46_34 (x := (0 : Int32)) rfl rfl (s_r1 (pc := 35) rw_46_35 (A := 0) rfl (by decide) (b_ine_f (pc := 6) rw_49_6 (A := 0) rfl (by decide) (s_cl (pc := 9) rw_49_9 rfl (fun l14 => to_rl (pc := 10) rw_49_10 ?_))))
            exact h l14 M hG F0 
          · refine to_c (pc := 30) rw_46_30 (x := (1 : Int32)) rfl rfl (to_go (pc := 31) rw_46_31 (s_r1 (pc := 35) rw_46_35 (A := 1) rfl (by decide) (b_ine_t (pc := 6) rw_49_6 (A := 1) rfl (by decide) (s_cl (pc := 11) rw_49_11 rfl (fun l15 => to_in (pc := 12) rw_49_12 rfl (s_anyS (pc := 13) rw_49_13 (fun _ _ => rfl) (fun l16 => to_lsn (pc := 14) rw_49_14 (ls2 := [.ref p, .int f, .int v, .long l16, .null]) rfl rfl (to_an (pc := 15) rw_49_15 rfl (s_gR (pc := 16) rw_49_16 hG (by rcases hp with rfl | rfl <;> rfl) (v := (p + 2)) (by rcases hp with rfl | rfl <;> rfl) (to_in (pc := 19) rw_49_19 rfl (s_ialk (pc := 20) rw_49_20 hG (by rcases hp with rfl | rfl <;> rfl) (n := 8) (by rcases hp with rfl | rfl <;> rfl) (by rcases hp with rfl | rfl <;> rfl) (A := f.toInt) rfl (by omega) (by omega) (v := v6) w_7 ?_)))))))))))
            refine to_c (pc := 21) rw_49_21 (x := (1 : Int32)) rfl rfl (b_cne (pc := 22) rw_49_22 (A := v6.toInt) (B := 1) rfl rfl (fun h19 => ?_) (fun h19 => ?_))
            · refine to_an (pc := 43) rw_49_43 rfl (s_gR (pc := 44) rw_49_44 hG (by rcases hp with rfl | rfl <;> rfl) (v := (p + 2)) (by rcases hp with rfl | rfl <;> rfl) (to_in (pc := 47) rw_49_47 rfl (s_ialk (pc := 48) rw_49_48 hG (by rcases hp with rfl | rfl <;> rfl) (n := 8) (by rcases hp with rfl | rfl <;> rfl) (by rcases hp with rfl | rfl <;> rfl) (A := f.toInt) rfl (by omega) (by omega) (v := v6) w_7 (to_c (pc := 49) rw_49_49 (x := (2 : Int32)) rfl rfl (b_cne (pc := 50) rw_49_50 (A := v6.toInt) (B := 2) rfl rfl (fun h22 => ?_) (fun h22 => ?_))))))
              · refine to_ln (pc := 68) rw_49_68 rfl rfl rfl (to_an (pc := 69) rw_49_69 rfl (s_gR (pc := 70) rw_49_70 hG (by rcases hp with rfl | rfl <;> rfl) (v := (p + 3)) (by rcases hp with rfl | rfl <;> rfl) (to_in (pc := 73) rw_49_73 rfl (s_ial (pc := 74) rw_49_74 hG (by rcases hp with rfl | rfl <;> rfl) (n := 8) (by rcases hp with rfl | rfl <;> rfl) (by rcases hp with rfl | rfl <;> rfl) (A := f.toInt) rfl (by omega) (by omega) (lo := 0) (hi := 59) (by rcases hp with rfl | rfl <;> rfl) (by rcases hp with rfl | rfl <;> rfl) (fun v23 w_24 _ _ => s_anyS (pc := 75) rw_49_75 (fun _ _ => rfl) (fun l25 => to_rl (pc := 76) rw_49_76 ?_))))))
                exact h l25 M hG F0 
              · refine to_in (pc := 53) rw_49_53 rfl (s_gs (pc := 54) rw_49_54 (s_xlen (pc := 57) rw_49_57 hX (e := 3) (n := 10) rfl (v := (10 : Int32)) rfl (b_cge (pc := 58) rw_49_58 (A := v.toInt) (B := 10) rfl rfl (fun h26 => ?_) (fun h26 => ?_))))
                · refine to_ln (pc := 68) rw_49_68 rfl rfl rfl (to_an (pc := 69) rw_49_69 rfl (s_gR (pc := 70) rw_49_70 hG (by rcases hp with rfl | rfl <;> rfl) (v := (p + 3)) (by rcases hp with rfl | rfl <;> rfl) (to_in (pc := 73) rw_49_73 rfl (s_ial (pc := 74) rw_49_74 hG (by rcases hp with rfl | rfl <;> rfl) (n := 8) (by rcases hp with rfl | rfl <;> rfl) (by rcases hp with rfl | rfl <;> rfl) (A := f.toInt) rfl (by omega) (by omega) (lo := 0) (hi := 59) (by rcases hp with rfl | rfl <;> rfl) (by rcases hp with rfl | rfl <;> rfl) (fun v27 w_28 _ _ => s_anyS (pc := 75) rw_49_75 (fun _ _ => rfl) (fun l29 => to_rl (pc := 76) rw_49_76 ?_))))))
                  exact h l29 M hG F0 
                · refine s_gs (pc := 61) rw_49_61 (to_in (pc := 64) rw_49_64 rfl (s_xal (pc := 65) rw_49_65 hX (e := 3) (n := 10) rfl (A := v.toInt) rfl (by omega) (by omega) (fun v30 => s_i2l (pc := 66) rw_49_66 (fun l31 e32 => to_lsn (pc := 67) rw_49_67 (ls2 := [.ref p, .int f, .int v, .long l31, .null]) rfl rfl (to_ln (pc := 68) rw_49_68 rfl rfl rfl (to_an (pc := 69) rw_49_69 rfl (s_gR (pc := 70) rw_49_70 hG (by rcases hp with rfl | rfl <;> rfl) (v := (p + 3)) (by rcases hp with rfl | rfl <;> rfl) (to_in (pc := 73) rw_49_73 rfl (s_ial (pc := 74) rw_49_74 hG (by rcases hp with rfl | rfl <;> rfl) (n := 8) (by rcases hp with rfl | rfl <;> rfl) (by rcases hp with rfl | rfl <;> rfl) (A := f.toInt) rfl (by omega) (by omega) (lo := 0) (hi := 59) (by rcases hp with rfl | rfl <;> rfl) (by rcases hp with rfl | rfl <;> rfl) (fun v33 w_34 _ _ => s_anyS (pc := 75) rw_49_75 (fun _ _ => rfl) (fun l35 => to_rl (pc := 76) rw_49_76 ?_)))))))))))
                  exact h l35 M hG F0 
            · refine to_in (pc := 25) rw_49_25 rfl (s_gs (pc := 26) rw_49_26 (s_xlen (pc := 29) rw_49_29 hX (e := 2) (n := 10) rfl (v := (10 : Int32)) rfl (b_cge (pc := 30) rw_49_30 (A := v.toInt) (B := 10) rfl rfl (fun h36 => ?_) (fun h36 => ?_))))
              · refine to_an (pc := 43) rw_49_43 rfl (s_gR (pc := 44) rw_49_44 hG (by rcases hp with rfl | rfl <;> rfl) (v := (p + 2)) (by rcases hp with rfl | rfl <;> rfl) (to_in (pc := 47) rw_49_47 rfl (s_ialk (pc := 48) rw_49_48 hG (by rcases hp with rfl | rfl <;> rfl) (n := 8) (by rcases hp with rfl | rfl <;> rfl) (by rcases hp with rfl | rfl <;> rfl) (A := f.toInt) rfl (by omega) (by omega) (v := v6) w_7 (to_c (pc := 49) rw_49_49 (x := (2 : Int32)) rfl rfl (b_cne_t (pc := 50) rw_49_50 (A := v6.toInt) (B := 2) rfl rfl (by omega) (to_ln (pc := 68) rw_49_68 rfl rfl rfl (to_an (pc := 69) rw_49_69 rfl (s_gR (pc := 70) rw_49_70 hG (by rcases hp with rfl | rfl <;> rfl) (v := (p + 3)) (by rcases hp with rfl | rfl <;> rfl) (to_in (pc := 73) rw_49_73 rfl (s_ial (pc := 74) rw_49_74 hG (by rcases hp with rfl | rfl <;> rfl) (n := 8) (by rcases hp with rfl | rfl <;> rfl) (by rcases hp with rfl | rfl <;> rfl) (A := f.toInt) rfl (by omega) (by omega) (lo := 0) (hi := 59) (by rcases hp with rfl | rfl <;> rfl) (by rcases hp with rfl | rfl <;> rfl) (fun v39 w_40 _ _ => s_anyS (pc := 75) rw_49_75 (fun _ _ => rfl) (fun l41 => ?_))))))))))))
                refine to_rl (pc := 76) rw_49_76 ?_
                exact h l41 M hG F0 
              · refine s_gs (pc := 33) rw_49_33 (to_in (pc := 36) rw_49_36 rfl (s_xal (pc := 37) rw_49_37 hX (e := 2) (n := 10) rfl (A := v.toInt) rfl (by omega) (by omega) (fun v42 => s_i2l (pc := 38) rw_49_38 (fun l43 e44 => to_lsn (pc := 39) rw_49_39 (ls2 := [.ref p, .int f, .int v, .long l43, .null]) rfl rfl (to_go (pc := 40) rw_49_40 (to_ln (pc := 68) rw_49_68 rfl rfl rfl (to_an (pc := 69) rw_49_69 rfl (s_gR (pc := 70) rw_49_70 hG (by rcases hp with rfl | rfl <;> rfl) (v := (p + 3)) (by rcases hp with rfl | rfl <;> rfl) (to_in (pc := 73) rw_49_73 rfl (s_ial (pc := 74) rw_49_74 hG (by rcases hp with rfl | rfl <;> rfl) (n := 8) (by rcases hp with rfl | rfl <;> rfl) (by rcases hp with rfl | rfl <;> rfl) (A := f.toInt) rfl (by omega) (by omega) (lo := 0) (hi := 59) (by rcases hp with rfl | rfl <;> rfl) (by rcases hp with rfl | rfl <;> rfl) (fun v45 w_46 _ _ => s_anyS (pc := 75) rw_49_75 (fun _ _ => rfl) (fun l47 => ?_))))))))))))
                refine to_rl (pc := 76) rw_49_76 ?_
                exact h l47 M hG F0 
      · refine to_c (pc := 10) rw_45_10 (x := (1 : Int32)) rfl rfl (to_go (pc := 11) rw_45_11 (s_r1 (pc := 15) rw_45_15 (A := 1) rfl (by decide) (b_ine_t (pc := 13) rw_46_13 (A := 1) rfl (by decide) (to_c (pc := 34) rw_46_34 (x := (0 : Int32)) rfl rfl (s_r1 (pc := 35) rw_46_35 (A := 0) rfl (by decide) (b_ine_f (pc := 6) rw_49_6 (A := 0) rfl (by decide) (s_cl (pc := 9) rw_49_9 rfl (fun l48 => to_rl (pc := 10) rw_49_10 ?_))))))))
        exact h l48 M hG F0 
set_option maxRecDepth 4000 in
set_option maxHeartbeats 0 in
theorem C_50 {X : mm_X} {d : Nat} {M : mm_M} {Q : Option Value → mm_M → Prop} {p : Nat} {w : Int32} {b : Int32} (hX : g_X X) (hd : 1 ≤ d) (hG : g_G M) (hp : p = 49 ∨ p = 58) (q1 : 0 ≤ w.toInt) (q2 : w.toInt ≤ 11) (h : ∀ (r : Int32) (M1 : mm_M), g_G M1 → FR md_0 M M1 → (0 ≤ r.toInt) → (r.toInt ≤ 1) → Q (some (.int r)) M1) : mm_T X d 50 0 [.ref p, .int w, .int b, .null] [] M Q := by
  have F0 : FR md_0 M M := FR.rf
  refine to_an (pc := 0) rw_50_0 rfl (s_gR (pc := 1) rw_50_1 hG (by rcases hp with rfl | rfl <;> rfl) (v := (p + 7)) (by rcases hp with rfl | rfl <;> rfl) (to_in (pc := 4) rw_50_4 rfl (s_ial (pc := 5) rw_50_5 hG (by rcases hp with rfl | rfl <;> rfl) (n := 12) (by rcases hp with rfl | rfl <;> rfl) (by rcases hp with rfl | rfl <;> rfl) (A := w.toInt) rfl (by omega) (by omega) (lo := 0) (hi := 7) (by rcases hp with rfl | rfl <;> rfl) (by rcases hp with rfl | rfl <;> rfl) (fun v1 w_2 _ _ => to_isn (pc := 6) rw_50_6 (ls2 := [.ref p, .int w, .int b, .int v1]) rfl rfl (to_in (pc := 7) rw_50_7 rfl (b_ilt (pc := 8) rw_50_8 (A := b.toInt) rfl (fun h3 => ?_) (fun h3 => ?_)))))))
  · refine to_c (pc := 38) rw_50_38 (x := (0 : Int32)) rfl rfl (s_r1 (pc := 39) rw_50_39 (A := 0) rfl (by decide) ?_)
    have k_4 : (0 : Int32).toInt = 0 := rfl
    exact h (0 : Int32) M hG F0 (by decide) (by decide)
  · refine to_in (pc := 11) rw_50_11 rfl (to_an (pc := 12) rw_50_12 rfl (to_in (pc := 13) rw_50_13 rfl (s_v (pc := 14) rw_50_14 (dp0 hd (by decide)) (ls0 := [.ref p, .int v1]) rfl (Nat.le_of_ble_eq_true rfl) (Nat.le_of_ble_eq_true rfl) rfl (to_rc rfl rfl rfl (g_o hG (by rcases hp with rfl | rfl <;> rfl))) rfl (to_an (pc := 0) rw_47_0 rfl (s_gR (pc := 1) rw_47_1 hG (by rcases hp with rfl | rfl <;> rfl) (v := (p + 4)) (by rcases hp with rfl | rfl <;> rfl) (to_in (pc := 4) rw_47_4 rfl (s_ial (pc := 5) rw_47_5 hG (by rcases hp with rfl | rfl <;> rfl) (n := 8) (by rcases hp with rfl | rfl <;> rfl) (by rcases hp with rfl | rfl <;> rfl) (A := v1.toInt) rfl (by omega) (by omega) (lo := 0) (hi := 63) (by rcases hp with rfl | rfl <;> rfl) (by rcases hp with rfl | rfl <;> rfl) (fun v5 w_6 _ _ => to_an (pc := 6) rw_47_6 rfl (s_gR (pc := 7) rw_47_7 hG (by rcases hp with rfl | rfl <;> rfl) (v := (p + 3)) (by rcases hp with rfl | rfl <;> rfl) (to_in (pc := 10) rw_47_10 rfl (s_ial (pc := 11) rw_47_11 hG (by rcases hp with rfl | rfl <;> rfl) (n := 8) (by rcases hp with rfl | rfl <;> rfl) (by rcases hp with rfl | rfl <;> rfl) (A := v1.toInt) rfl (by omega) (by omega) (lo := 0) (hi := 59) (by rcases hp with rfl | rfl <;> rfl) (by rcases hp with rfl | rfl <;> rfl) (fun v7 w_8 _ _ => ?_))))))))))))
    refine s_sub (pc := 12) rw_47_12 (A := v5.toInt) (B := v7.toInt) rfl rfl (by omega) (fun v9 e10 => to_c (pc := 13) rw_47_13 (x := (1 : Int32)) rfl rfl (s_add (pc := 14) rw_47_14 (A := v9.toInt) (B := 1) rfl rfl (by omega) (fun v11 e12 => to_r0 (pc := 15) rw_47_15 (s_shr (pc := 17) rw_50_17 (A := b.toInt) rfl (by omega) (fun v13 _ _ => b_ine (pc := 18) rw_50_18 (A := v13.toInt) rfl (fun h14 => ?_) (fun h14 => ?_))))))
    · refine to_c (pc := 38) rw_50_38 (x := (0 : Int32)) rfl rfl (s_r1 (pc := 39) rw_50_39 (A := 0) rfl (by decide) ?_)
      have k_15 : (0 : Int32).toInt = 0 := rfl
      exact h (0 : Int32) M hG F0 (by decide) (by decide)
    · refine to_in (pc := 21) rw_50_21 rfl (s_s (pc := 22) rw_50_22 (dp0 hd (by decide)) (ls0 := [.int b]) rfl (Nat.le_of_ble_eq_true rfl) (Nat.le_of_ble_eq_true rfl) rfl (to_rcs rfl rfl) rfl (C_247 hX (dp1 hd (by decide)) hG (x := b) (fun r16 M19 hG18 F17 => ?_)))
      have F20 := FR.c F0 F17 tg_29
      refine to_an (pc := 25) rw_50_25 rfl (s_gR (pc := 26) rw_50_26 hG18 (by rcases hp with rfl | rfl <;> rfl) (v := (p + 5)) (by rcases hp with rfl | rfl <;> rfl) (to_in (pc := 29) rw_50_29 rfl (s_ial (pc := 30) rw_50_30 hG18 (by rcases hp with rfl | rfl <;> rfl) (n := 8) (by rcases hp with rfl | rfl <;> rfl) (by rcases hp with rfl | rfl <;> rfl) (A := v1.toInt) rfl (by omega) (by omega) (lo := 0) (hi := 24) (by rcases hp with rfl | rfl <;> rfl) (by rcases hp with rfl | rfl <;> rfl) (fun v21 w_22 _ _ => b_cne (pc := 31) rw_50_31 (A := r16.toInt) (B := v21.toInt) rfl rfl (fun h23 => ?_) (fun h23 => ?_)))))
      · refine to_c (pc := 38) rw_50_38 (x := (0 : Int32)) rfl rfl (s_r1 (pc := 39) rw_50_39 (A := 0) rfl (by decide) ?_)
        have k_24 : (0 : Int32).toInt = 0 := rfl
        exact h (0 : Int32) M19 hG18 F20 (by decide) (by decide)
      · refine to_c (pc := 34) rw_50_34 (x := (1 : Int32)) rfl rfl (to_go (pc := 35) rw_50_35 (s_r1 (pc := 39) rw_50_39 (A := 1) rfl (by decide) ?_))
        have k_25 : (1 : Int32).toInt = 1 := rfl
        exact h (1 : Int32) M19 hG18 F20 (by decide) (by decide)
set_option maxRecDepth 4000 in
set_option maxHeartbeats 0 in
theorem T_51_0 {X : mm_X} {d : Nat} {M : mm_M} {Q : Option Value → mm_M → Prop} {p : Nat} {f : Int32} (hX : g_X X) (hd : 0 ≤ d) (hp : p = 49 ∨ p = 58) (h : ∀ (r : Int32) (M1 : mm_M), g_G M1 → FR md_0 M M1 → Q (some (.int r)) M1) : ∀ nn9 : Nat, (∀ (N : mm_M) (x2 : Int32) (x3 : Int32), g_G N → FR md_0 M N → (0 ≤ x3.toInt) → (x3.toInt ≤ 12) → 12 - x3.toInt < (nn9 : Int) → mm_T X d 51 4 [.ref p, .int f, .int x2, .int x3] [] N Q) := by
  intro nn9
  induction nn9 with
  | zero =>
    intro N x2 x3 hG F0 g1 g2 hm
    exfalso; omega
  | succ nn9 ih =>
    intro N x2 x3 hG F0 g1 g2 hm
    refine to_in (pc := 4) rw_51_4 rfl (to_an (pc := 5) rw_51_5 rfl ?_)
    have b_1 := g_b hG (a := p) (i := 3) (lo := 0) (hi := 12) (by rcases hp with rfl | rfl <;> rfl) (by rcases hp with rfl | rfl <;> rfl)
    refine tt_gI (pc := 6) rw_51_6 (g_o hG (by rcases hp with rfl | rfl <;> rfl)) (v := (N.2.1 p 3)) rfl (b_cge (pc := 9) rw_51_9 (A := x3.toInt) (B := (N.2.1 p 3).toInt) rfl rfl (fun h2 => ?_) (fun h2 => ?_))
    · refine to_in (pc := 34) rw_51_34 rfl (to_r0 (pc := 35) rw_51_35 ?_)
      exact h x2 N hG F0 
    · refine to_an (pc := 12) rw_51_12 rfl (s_gR (pc := 13) rw_51_13 hG (by rcases hp with rfl | rfl <;> rfl) (v := (p + 7)) (by rcases hp with rfl | rfl <;> rfl) (to_in (pc := 16) rw_51_16 rfl (s_ial (pc := 17) rw_51_17 hG (by rcases hp with rfl | rfl <;> rfl) (n := 12) (by rcases hp with rfl | rfl <;> rfl) (by rcases hp with rfl | rfl <;> rfl) (A := x3.toInt) rfl (by omega) (by omega) (lo := 0) (hi := 7) (by rcases hp with rfl | rfl <;> rfl) (by rcases hp with rfl | rfl <;> rfl) (fun v3 w_4 _ _ => to_in (pc := 18) rw_51_18 rfl (b_cne (pc := 19) rw_51_19 (A := v3.toInt) (B := f.toInt) rfl rfl (fun h5 => ?_) (fun h5 => ?_))))))
      · refine s_inc (pc := 28) rw_51_28 (ls2 := fun v => [.ref p, .int f, .int x2, .int v]) rfl rfl (fun _ => rfl) (A := x3.toInt) (B := 1) rfl rfl (by omega) (fun v6 e7 => to_go (pc := 31) rw_51_31 ?_)
        exact ih N x2 v6 hG F0 (by omega) (by omega) (by omega)
      · refine to_in (pc := 22) rw_51_22 rfl (to_c (pc := 23) rw_51_23 (x := (1 : Int32)) rfl rfl (to_in (pc := 24) rw_51_24 rfl (s_any (pc := 25) rw_51_25 (fun _ _ => rfl) (fun v8 => s_any (pc := 26) rw_51_26 (fun _ _ => rfl) (fun v9 => to_isn (pc := 27) rw_51_27 (ls2 := [.ref p, .int f, .int v9, .int x3]) rfl rfl (s_inc (pc := 28) rw_51_28 (ls2 := fun v => [.ref p, .int f, .int v9, .int v]) rfl rfl (fun _ => rfl) (A := x3.toInt) (B := 1) rfl rfl (by omega) (fun v10 e11 => to_go (pc := 31) rw_51_31 ?_)))))))
        exact ih N v9 v10 hG F0 (by omega) (by omega) (by omega)
set_option maxRecDepth 4000 in
set_option maxHeartbeats 0 in
theorem C_51 {X : mm_X} {d : Nat} {M : mm_M} {Q : Option Value → mm_M → Prop} {p : Nat} {f : Int32} (hX : g_X X) (hd : 0 ≤ d) (hG : g_G M) (hp : p = 49 ∨ p = 58) (h : ∀ (r : Int32) (M1 : mm_M), g_G M1 → FR md_0 M M1 → Q (some (.int r)) M1) : mm_T X d 51 0 [.ref p, .int f, .null, .null] [] M Q := by
  have F0 : FR md_0 M M := FR.rf
  refine to_c (pc := 0) rw_51_0 (x := (0 : Int32)) rfl rfl (to_isn (pc := 1) rw_51_1 (ls2 := [.ref p, .int f, .int (0 : Int32), .null]) rfl rfl (to_c (pc := 2) rw_51_2 (x := (0 : Int32)) rfl rfl (to_isn (pc := 3) rw_51_3 (ls2 := [.ref p, .int f, .int (0 : Int32), .int (0 : Int32)]) rfl rfl ?_)))
  have k_12 : (0 : Int32).toInt = 0 := rfl
  exact (T_51_0 (p := p) (f := f) hX hd hp h ((12 - (0 : Int32).toInt).toNat + 1)) M (0 : Int32) (0 : Int32) hG F0 (by omega) (by omega) (by omega)
