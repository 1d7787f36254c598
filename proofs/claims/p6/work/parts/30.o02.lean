theorem tg_208 {M M1 : mm_M} (F : FR (fun a i : Nat => a = 1 ∧ 5 ≤ i ∨ 3 ≤ a ∧ a ≤ 5) M M1) : ∀ a i : Nat, PI_r a → M1.2.1 a i = M.2.1 a i := fun a i z => F_n F (show ¬ (a = 1 ∧ 5 ≤ i ∨ 3 ≤ a ∧ a ≤ 5) by omega) rfl
theorem tg_209 {M M1 : mm_M} (F : FR (fun a i : Nat => a = 1 ∧ 5 ≤ i ∨ 3 ≤ a ∧ a ≤ 5 ∨ a = 57 ∨ a = 66) M M1) : ∀ a i : Nat, PI_r a → M1.2.1 a i = M.2.1 a i := fun a i z => F_n F (show ¬ (a = 1 ∧ 5 ≤ i ∨ 3 ≤ a ∧ a ≤ 5 ∨ a = 57 ∨ a = 66) by omega) rfl
theorem tg_210 : ∀ a i : Nat, (a = 1 ∧ 5 ≤ i ∨ 3 ≤ a ∧ a ≤ 5) → (a = 1 ∧ 5 ≤ i ∨ 3 ≤ a ∧ a ≤ 5 ∨ 50 ≤ a ∧ a ≤ 57 ∨ 59 ≤ a ∧ a ≤ 66) := fun a i z => by omega
theorem tg_211 : ∀ a i : Nat, (a = 1 ∧ 5 ≤ i ∨ 3 ≤ a ∧ a ≤ 5 ∨ 50 ≤ a ∧ a ≤ 57 ∨ 59 ≤ a ∧ a ≤ 66) → (a = 1 ∧ 5 ≤ i ∨ 3 ≤ a ∧ a ≤ 5 ∨ 50 ≤ a ∧ a ≤ 57 ∨ 59 ≤ a ∧ a ≤ 66) := fun a i z => by omega
theorem tg_212 : ∀ a i : Nat, (a = 1 ∧ 5 ≤ i ∨ 3 ≤ a ∧ a ≤ 5) → (a = 1 ∧ 5 ≤ i ∨ 3 ≤ a ∧ a ≤ 5 ∨ 49 ≤ a ∧ a ≤ 66) := fun a i z => by omega
theorem tg_213 : ∀ a i : Nat, (a < 0) → (a = 1 ∧ 5 ≤ i ∨ 3 ≤ a ∧ a ≤ 5 ∨ 49 ≤ a ∧ a ≤ 66) := fun a i z => by omega
theorem tg_214 : ∀ a i : Nat, (a = 1 ∧ 5 ≤ i ∨ 3 ≤ a ∧ a ≤ 5 ∨ 50 ≤ a ∧ a ≤ 57 ∨ 59 ≤ a ∧ a ≤ 66) → (a = 1 ∧ 5 ≤ i ∨ 3 ≤ a ∧ a ≤ 5 ∨ 49 ≤ a ∧ a ≤ 66) := fun a i z => by omega
theorem tg_215 : ∀ a i : Nat, (a = 1 ∧ 5 ≤ i ∨ 3 ≤ a ∧ a ≤ 5) → (a = 1 ∧ 5 ≤ i ∨ 3 ≤ a ∧ a ≤ 5 ∨ a = 57 ∨ a = 66) := fun a i z => by omega
theorem tg_216 : ∀ a i : Nat, (a = 1 ∧ 5 ≤ i ∨ 3 ≤ a ∧ a ≤ 5 ∨ a = 57 ∨ a = 66) → (a = 1 ∧ 5 ≤ i ∨ 3 ≤ a ∧ a ≤ 5 ∨ 49 ≤ a ∧ a ≤ 66) := fun a i z => by omega
theorem tg_217 : ∀ a i : Nat, (a = 1 ∧ 5 ≤ i ∨ 3 ≤ a ∧ a ≤ 5 ∨ 49 ≤ a ∧ a ≤ 66) → (a = 1 ∧ 5 ≤ i ∨ 3 ≤ a ∧ a ≤ 5 ∨ 49 ≤ a ∧ a ≤ 66) := fun a i z => by omega
set_option maxRecDepth 4000 in
set_option maxHeartbeats 0 in
theorem C_247 {X : mm_X} {d : Nat} {M : mm_M} {Q : Option Value → mm_M → Prop} {x : Int32} (hX : g_X X) (hd : 0 ≤ d) (hG : g_G M) (h : ∀ (r : Int32) (M1 : mm_M), g_G M1 → FR md_0 M M1 → Q (some (.int r)) M1) : mm_T X d 246 0 [.int x] [] M Q := by
  have F0 : FR md_0 M M := FR.rf
  refine to_in (pc := 0) rw_247_0 rfl (to_in (pc := 1) rw_247_1 rfl (to_c (pc := 2) rw_247_2 (x := (1 : Int32)) rfl rfl (s_any (pc := 3) rw_247_3 (fun _ _ => rfl) (fun v1 => to_c (pc := 4) rw_247_4 (x := (1431655765 : Int32)) rfl rfl (s_and (pc := 7) rw_247_7 (B := 1431655765) rfl (by omega) (fun v2 e3 _ _ => s_any (pc := 8) rw_247_8 (fun _ _ => rfl) (fun v4 => to_isn (pc := 9) rw_247_9 (ls2 := [.int v4]) rfl rfl (to_in (pc := 10) rw_247_10 rfl (to_c (pc := 11) rw_247_11 (x := (858993459 : Int32)) rfl rfl (s_and (pc := 14) rw_247_14 (B := 858993459) rfl (by omega) (fun v5 e6 _ _ => to_in (pc := 15) rw_247_15 rfl ?_)))))))))))
  refine to_c (pc := 16) rw_247_16 (x := (2 : Int32)) rfl rfl (s_any (pc := 17) rw_247_17 (fun _ _ => rfl) (fun v7 => to_c (pc := 18) rw_247_18 (x := (858993459 : Int32)) rfl rfl (s_and (pc := 21) rw_247_21 (B := 858993459) rfl (by omega) (fun v8 e9 _ _ => s_add (pc := 22) rw_247_22 (A := v5.toInt) (B := v8.toInt) rfl rfl (by omega) (fun v10 e11 => to_isn (pc := 23) rw_247_23 (ls2 := [.int v10]) rfl rfl (to_in (pc := 24) rw_247_24 rfl (to_in (pc := 25) rw_247_25 rfl (to_c (pc := 26) rw_247_26 (x := (4 : Int32)) rfl rfl (s_any (pc := 27) rw_247_27 (fun _ _ => rfl) (fun v12 => s_any (pc := 28) rw_247_28 (fun _ _ => rfl) (fun v13 => to_c (pc := 29) rw_247_29 (x := (252645135 : Int32)) rfl rfl ?_)))))))))))
  refine s_and (pc := 32) rw_247_32 (B := 252645135) rfl (by omega) (fun v14 e15 _ _ => to_isn (pc := 33) rw_247_33 (ls2 := [.int v14]) rfl rfl (to_in (pc := 34) rw_247_34 rfl (to_in (pc := 35) rw_247_35 rfl (to_c (pc := 36) rw_247_36 (x := (8 : Int32)) rfl rfl (s_any (pc := 38) rw_247_38 (fun _ _ => rfl) (fun v16 => s_any (pc := 39) rw_247_39 (fun _ _ => rfl) (fun v17 => to_isn (pc := 40) rw_247_40 (ls2 := [.int v17]) rfl rfl (to_in (pc := 41) rw_247_41 rfl (to_in (pc := 42) rw_247_42 rfl (to_c (pc := 43) rw_247_43 (x := (16 : Int32)) rfl rfl (s_any (pc := 45) rw_247_45 (fun _ _ => rfl) (fun v18 => ?_))))))))))))
  refine s_any (pc := 46) rw_247_46 (fun _ _ => rfl) (fun v19 => to_isn (pc := 47) rw_247_47 (ls2 := [.int v19]) rfl rfl (to_in (pc := 48) rw_247_48 rfl (to_c (pc := 49) rw_247_49 (x := (63 : Int32)) rfl rfl (s_and (pc := 51) rw_247_51 (B := 63) rfl (by omega) (fun v20 e21 _ _ => to_r0 (pc := 52) rw_247_52 ?_)))))
  exact h v20 M hG F0 
set_option maxRecDepth 4000 in
set_option maxHeartbeats 0 in
theorem C_248 {X : mm_X} {d : Nat} {M : mm_M} {Q : Option Value → mm_M → Prop} {x : Int64} (hX : g_X X) (hd : 0 ≤ d) (hG : g_G M) (h : ∀ (r : Int32) (M1 : mm_M), g_G M1 → FR md_0 M M1 → Q (some (.int r)) M1) : mm_T X d 247 0 [.long x, .null] [] M Q := by
  have F0 : FR md_0 M M := FR.rf
  refine to_ln (pc := 0) rw_248_0 rfl rfl rfl (to_ln (pc := 1) rw_248_1 rfl rfl rfl (to_c (pc := 2) rw_248_2 (x := (1 : Int32)) rfl rfl (s_anyS (pc := 3) rw_248_3 (fun _ _ => rfl) (fun l1 => s_cl (pc := 4) rw_248_4 rfl (fun l2 => s_anyL (pc := 7) rw_248_7 (fun _ _ => rfl) (fun l3 => s_anyL (pc := 8) rw_248_8 (fun _ _ => rfl) (fun l4 => to_lsn (pc := 9) rw_248_9 (ls2 := [.long l4, .null]) rfl rfl (to_ln (pc := 10) rw_248_10 rfl rfl rfl (s_cl (pc := 11) rw_248_11 rfl (fun l5 => s_anyL (pc := 14) rw_248_14 (fun _ _ => rfl) (fun l6 => to_ln (pc := 15) rw_248_15 rfl rfl rfl ?_)))))))))))
  refine to_c (pc := 16) rw_248_16 (x := (2 : Int32)) rfl rfl (s_anyS (pc := 17) rw_248_17 (fun _ _ => rfl) (fun l7 => s_cl (pc := 18) rw_248_18 rfl (fun l8 => s_anyL (pc := 21) rw_248_21 (fun _ _ => rfl) (fun l9 => s_anyL (pc := 22) rw_248_22 (fun _ _ => rfl) (fun l10 => to_lsn (pc := 23) rw_248_23 (ls2 := [.long l10, .null]) rfl rfl (to_ln (pc := 24) rw_248_24 rfl rfl rfl (to_ln (pc := 25) rw_248_25 rfl rfl rfl (to_c (pc := 26) rw_248_26 (x := (4 : Int32)) rfl rfl (s_anyS (pc := 27) rw_248_27 (fun _ _ => rfl) (fun l11 => s_anyL (pc := 28) rw_248_28 (fun _ _ => rfl) (fun l12 => s_cl (pc := 29) rw_248_29 rfl (fun l13 => ?_))))))))))))
  refine s_anyL (pc := 32) rw_248_32 (fun _ _ => rfl) (fun l14 => to_lsn (pc := 33) rw_248_33 (ls2 := [.long l14, .null]) rfl rfl (to_ln (pc := 34) rw_248_34 rfl rfl rfl (to_ln (pc := 35) rw_248_35 rfl rfl rfl (to_c (pc := 36) rw_248_36 (x := (8 : Int32)) rfl rfl (s_anyS (pc := 38) rw_248_38 (fun _ _ => rfl) (fun l15 => s_anyL (pc := 39) rw_248_39 (fun _ _ => rfl) (fun l16 => to_lsn (pc := 40) rw_248_40 (ls2 := [.long l16, .null]) rfl rfl (to_ln (pc := 41) rw_248_41 rfl rfl rfl (to_ln (pc := 42) rw_248_42 rfl rfl rfl (to_c (pc := 43) rw_248_43 (x := (16 : Int32)) rfl rfl (s_anyS (pc := 45) rw_248_45 (fun _ _ => rfl) (fun l17 => ?_))))))))))))
  refine s_anyL (pc := 46) rw_248_46 (fun _ _ => rfl) (fun l18 => to_lsn (pc := 47) rw_248_47 (ls2 := [.long l18, .null]) rfl rfl (to_ln (pc := 48) rw_248_48 rfl rfl rfl (to_ln (pc := 49) rw_248_49 rfl rfl rfl (to_c (pc := 50) rw_248_50 (x := (32 : Int32)) rfl rfl (s_anyS (pc := 52) rw_248_52 (fun _ _ => rfl) (fun l19 => s_anyL (pc := 53) rw_248_53 (fun _ _ => rfl) (fun l20 => to_lsn (pc := 54) rw_248_54 (ls2 := [.long l20, .null]) rfl rfl (to_ln (pc := 55) rw_248_55 rfl rfl rfl (s_l2i (pc := 56) rw_248_56 (fun v21 => to_c (pc := 57) rw_248_57 (x := (127 : Int32)) rfl rfl (s_and (pc := 59) rw_248_59 (B := 127) rfl (by omega) (fun v22 e23 _ _ => ?_))))))))))))
  refine to_r0 (pc := 60) rw_248_60 ?_
  exact h v22 M hG F0 
set_option maxRecDepth 4000 in
set_option maxHeartbeats 0 in
theorem T_54f_0 {X : mm_X} {d : Nat} {M : mm_M} {Q : Option Value → mm_M → Prop} {f : Nat} {s : Int32} {x : Int32} (hX : g_X X) (hd : 0 ≤ d) (hf : f = 50 ∨ f = 59) (h : ∀ (r : Int32) (M1 : mm_M), g_G M1 → FR md_0 M M1 → (-1 ≤ r.toInt) → (r.toInt ≤ 7) → Q (some (.int r)) M1) : ∀ nn9 : Nat, (∀ (N : mm_M) (x3 : Int32), g_G N → FR md_0 M N → (0 ≤ x3.toInt) → (x3.toInt ≤ 8) → 8 - x3.toInt < (nn9 : Int) → mm_T X d 54 2 [.ref f, .int s, .int x, .int x3] [] N Q) := by
  intro nn9
  induction nn9 with
  | zero =>
    intro N x3 hG F0 g1 g2 hm
    exfalso; omega
  | succ nn9 ih =>
    intro N x3 hG F0 g1 g2 hm
    refine to_in (pc := 2) rw_54_2 rfl (to_in (pc := 3) rw_54_3 rfl (b_cge (pc := 4) rw_54_4 (A := x3.toInt) (B := s.toInt) rfl rfl (fun h1 => ?_) (fun h1 => ?_)))
    · refine to_c (pc := 28) rw_54_28 (x := (-1 : Int32)) rfl rfl (to_r0 (pc := 29) rw_54_29 ?_)
      have k_2 : (-1 : Int32).toInt = -1 := rfl
      exact h (-1 : Int32) N hG F0 (by omega) (by omega)
    · refine to_in (pc := 7) rw_54_7 rfl (to_an (pc := 8) rw_54_8 rfl (s_len (pc := 9) rw_54_9 hG (by rcases hf with rfl | rfl <;> rfl) (by rcases hf with rfl | rfl <;> rfl) (n := 8) (by rcases hf with rfl | rfl <;> rfl) (v := (8 : Int32)) rfl (b_cge (pc := 10) rw_54_10 (A := x3.toInt) (B := 8) rfl rfl (fun h3 => ?_) (fun h3 => ?_))))
      · refine to_c (pc := 28) rw_54_28 (x := (-1 : Int32)) rfl rfl (to_r0 (pc := 29) rw_54_29 ?_)
        have k_4 : (-1 : Int32).toInt = -1 := rfl
        exact h (-1 : Int32) N hG F0 (by omega) (by omega)
      · refine to_an (pc := 13) rw_54_13 rfl (to_in (pc := 14) rw_54_14 rfl (s_ial (pc := 15) rw_54_15 hG (by rcases hf with rfl | rfl <;> rfl) (n := 8) (by rcases hf with rfl | rfl <;> rfl) (by rcases hf with rfl | rfl <;> rfl) (A := x3.toInt) rfl (by omega) (by omega) (lo := -2147483648) (hi := 2147483647) (by rcases hf with rfl | rfl <;> rfl) (by rcases hf with rfl | rfl <;> rfl) (fun v5 w_6 _ _ => to_in (pc := 16) rw_54_16 rfl (b_cne (pc := 17) rw_54_17 (A := v5.toInt) (B := x.toInt) rfl rfl (fun h7 => ?_) (fun h7 => ?_)))))
        · refine s_inc (pc := 22) rw_54_22 (ls2 := fun v => [.ref f, .int s, .int x, .int v]) rfl rfl (fun _ => rfl) (A := x3.toInt) (B := 1) rfl rfl (by omega) (fun v8 e9 => to_go (pc := 25) rw_54_25 ?_)
          exact ih N v8 hG F0 (by omega) (by omega) (by omega)
        · refine to_in (pc := 20) rw_54_20 rfl (to_r0 (pc := 21) rw_54_21 ?_)
          exact h x3 N hG F0 (by omega) (by omega)
set_option maxRecDepth 4000 in
set_option maxHeartbeats 0 in
theorem C_54f {X : mm_X} {d : Nat} {M : mm_M} {Q : Option Value → mm_M → Prop} {f : Nat} {s : Int32} {x : Int32} (hX : g_X X) (hd : 0 ≤ d) (hG : g_G M) (hf : f = 50 ∨ f = 59) (h : ∀ (r : Int32) (M1 : mm_M), g_G M1 → FR md_0 M M1 → (-1 ≤ r.toInt) → (r.toInt ≤ 7) → Q (some (.int r)) M1) : mm_T X d 54 0 [.ref f, .int s, .int x, .null] [] M Q := by
  have F0 : FR md_0 M M := FR.rf
  refine to_c (pc := 0) rw_54_0 (x := (0 : Int32)) rfl rfl (to_isn (pc := 1) rw_54_1 (ls2 := [.ref f, .int s, .int x, .int (0 : Int32)]) rfl rfl ?_)
  have k_10 : (0 : Int32).toInt = 0 := rfl
  exact (T_54f_0 (f := f) (s := s) (x := x) hX hd hf h ((8 - (0 : Int32).toInt).toNat + 1)) M (0 : Int32) hG F0 (by omega) (by omega) (by omega)
set_option maxRecDepth 4000 in
set_option maxHeartbeats 0 in
theorem T_54g_0 {X : mm_X} {d : Nat} {M : mm_M} {Q : Option Value → mm_M → Prop} {g : Nat} {s : Int32} {x : Int32} (hX : g_X X) (hd : 0 ≤ d) (hg : g = 55 ∨ g = 64) (h : ∀ (r : Int32) (M1 : mm_M), g_G M1 → FR md_0 M M1 → (-1 ≤ r.toInt) → (r.toInt ≤ 11) → Q (some (.int r)) M1) : ∀ nn9 : Nat, (∀ (N : mm_M) (x3 : Int32), g_G N → FR md_0 M N → (0 ≤ x3.toInt) → (x3.toInt ≤ 12) → 12 - x3.toInt < (nn9 : Int) → mm_T X d 54 2 [.ref g, .int s, .int x, .int x3] [] N Q) := by
  intro nn9
  induction nn9 with
  | zero =>
    intro N x3 hG F0 g1 g2 hm
    exfalso; omega
  | succ nn9 ih =>
    intro N x3 hG F0 g1 g2 hm
    refine to_in (pc := 2) rw_54_2 rfl (to_in (pc := 3) rw_54_3 rfl (b_cge (pc := 4) rw_54_4 (A := x3.toInt) (B := s.toInt) rfl rfl (fun h1 => ?_) (fun h1 => ?_)))
    · refine to_c (pc := 28) rw_54_28 (x := (-1 : Int32)) rfl rfl (to_r0 (pc := 29) rw_54_29 ?_)
      have k_2 : (-1 : Int32).toInt = -1 := rfl
      exact h (-1 : Int32) N hG F0 (by omega) (by omega)
    · refine to_in (pc := 7) rw_54_7 rfl (to_an (pc := 8) rw_54_8 rfl (s_len (pc := 9) rw_54_9 hG (by rcases hg with rfl | rfl <;> rfl) (by rcases hg with rfl | rfl <;> rfl) (n := 12) (by rcases hg with rfl | rfl <;> rfl) (v := (12 : Int32)) rfl (b_cge (pc := 10) rw_54_10 (A := x3.toInt) (B := 12) rfl rfl (fun h3 => ?_) (fun h3 => ?_))))
      · refine to_c (pc := 28) rw_54_28 (x := (-1 : Int32)) rfl rfl (to_r0 (pc := 29) rw_54_29 ?_)
        have k_4 : (-1 : Int32).toInt = -1 := rfl
        exact h (-1 : Int32) N hG F0 (by omega) (by omega)
      · refine to_an (pc := 13) rw_54_13 rfl (to_in (pc := 14) rw_54_14 rfl (s_ial (pc := 15) rw_54_15 hG (by rcases hg with rfl | rfl <;> rfl) (n := 12) (by rcases hg with rfl | rfl <;> rfl) (by rcases hg with rfl | rfl <;> rfl) (A := x3.toInt) rfl (by omega) (by omega) (lo := -2147483648) (hi := 2147483647) (by rcases hg with rfl | rfl <;> rfl) (by rcases hg with rfl | rfl <;> rfl) (fun v5 w_6 _ _ => to_in (pc := 16) rw_54_16 rfl (b_cne (pc := 17) rw_54_17 (A := v5.toInt) (B := x.toInt) rfl rfl (fun h7 => ?_) (fun h7 => ?_)))))
        · refine s_inc (pc := 22) rw_54_22 (ls2 := fun v => [.ref g, .int s, .int x, .int v]) rfl rfl (fun _ => rfl) (A := x3.toInt) (B := 1) rfl rfl (by omega) (fun v8 e9 => to_go (pc := 25) rw_54_25 ?_)
          exact ih N v8 hG F0 (by omega) (by omega) (by omega)
        · refine to_in (pc := 20) rw_54_20 rfl (to_r0 (pc := 21) rw_54_21 ?_)
          exact h x3 N hG F0 (by omega) (by omega)
set_option maxRecDepth 4000 in
set_option maxHeartbeats 0 in
theorem C_54g {X : mm_X} {d : Nat} {M : mm_M} {Q : Option Value → mm_M → Prop} {g : Nat} {s : Int32} {x : Int32} (hX : g_X X) (hd : 0 ≤ d) (hG : g_G M) (hg : g = 55 ∨ g = 64) (h : ∀ (r : Int32) (M1 : mm_M), g_G M1 → FR md_0 M M1 → (-1 ≤ r.toInt) → (r.toInt ≤ 11) → Q (some (.int r)) M1) : mm_T X d 54 0 [.ref g, .int s, .int x, .null] [] M Q := by
  have F0 : FR md_0 M M := FR.rf
  refine to_c (pc := 0) rw_54_0 (x := (0 : Int32)) rfl rfl (to_isn (pc := 1) rw_54_1 (ls2 := [.ref g, .int s, .int x, .int (0 : Int32)]) rfl rfl ?_)
  have k_10 : (0 : Int32).toInt = 0 := rfl
  exact (T_54g_0 (g := g) (s := s) (x := x) hX hd hg h ((12 - (0 : Int32).toInt).toNat + 1)) M (0 : Int32) hG F0 (by omega) (by omega) (by omega)
set_option maxRecDepth 4000 in
set_option maxHeartbeats 0 in
theorem C_34 {X : mm_X} {d : Nat} {M : mm_M} {Q : Option Value → mm_M → Prop} {p : Nat} (hX : g_X X) (hd : 2 ≤ d) (hG : g_G M) (hp : p = 49 ∨ p = 58) (h : ∀ (r : Int32) (M1 : mm_M), g_G M1 → FR md_t M M1 → (0 ≤ r.toInt) → (r.toInt ≤ 1) → (r.toInt = 1 → (M1.2.1 1 10).toInt = (M.2.1 1 10).toInt ∧ (M1.2.1 1 11).toInt = (M.2.1 1 11).toInt) → Q (some (.int r)) M1) : mm_T X d 34 0 [.ref p, .ref 1] [] M Q := by
  have F0 : FR md_t M M := FR.rf
  refine to_an (pc := 0) rw_34_0 rfl (tt_gI (pc := 1) rw_34_1 (g_o hG rfl) (v := (M.2.1 1 7)) rfl (to_c (pc := 4) rw_34_4 (x := (3 : Int32)) rfl rfl (b_ceq (pc := 5) rw_34_5 (A := (M.2.1 1 7).toInt) (B := 3) rfl rfl (fun h1 => ?_) (fun h1 => ?_))))
  · refine to_an (pc := 14) rw_34_14 rfl (to_an (pc := 15) rw_34_15 rfl (tt_gI (pc := 16) rw_34_16 (g_o hG rfl) (v := (M.2.1 1 8)) rfl (s_v (pc := 19) rw_34_19 (dp0 hd (by decide)) (ls0 := [.ref p, .int (M.2.1 1 8)]) rfl (Nat.le_of_ble_eq_true rfl) (Nat.le_of_ble_eq_true rfl) rfl (to_rc rfl rfl rfl (g_o hG (by rcases hp with rfl | rfl <;> rfl))) rfl (to_an (pc := 0) rw_52_0 rfl (s_gR (pc := 1) rw_52_1 hG (by rcases hp with rfl | rfl <;> rfl) (v := (p + 1)) (by rcases hp with rfl | rfl <;> rfl) (to_an (pc := 4) rw_52_4 rfl ?_))))))
    have b_2 := g_b hG (a := p) (i := 2) (lo := 0) (hi := 8) (by rcases hp with rfl | rfl <;> rfl) (by rcases hp with rfl | rfl <;> rfl)
    refine tt_gI (pc := 5) rw_52_5 (g_o hG (by rcases hp with rfl | rfl <;> rfl)) (v := (M.2.1 p 2)) rfl (to_in (pc := 8) rw_52_8 rfl (s_s (pc := 9) rw_52_9 (dp1 hd (by decide)) (ls0 := [.ref (p + 1), .int (M.2.1 p 2), .int (M.2.1 1 8), .null]) rfl (Nat.le_of_ble_eq_true rfl) (Nat.le_of_ble_eq_true rfl) rfl (to_rcs rfl rfl) rfl (C_54f hX (dp2 hd (by decide)) hG (by omega) (f := (p + 1)) (s := (M.2.1 p 2)) (x := (M.2.1 1 8)) (fun r3 M8 hG5 F4 p_6 p_7 => ?_))))
    have F9 := FR.c F0 F4 tg_205
    refine to_r0 (pc := 12) rw_52_12 (to_c (pc := 22) rw_34_22 (x := (-1 : Int32)) rfl rfl (b_cne (pc := 23) rw_34_23 (A := r3.toInt) (B := -1) rfl rfl (fun h10 => ?_) (fun h10 => ?_)))
    · refine to_an (pc := 38) rw_34_38 rfl (to_c (pc := 39) rw_34_39 (x := (3 : Int32)) rfl rfl (s_v (pc := 40) rw_34_40 (dp0 hd (by decide)) (ls0 := [.ref 1, .int (3 : Int32)]) rfl (Nat.le_of_ble_eq_true rfl) (Nat.le_of_ble_eq_true rfl) rfl (to_rc rfl rfl rfl (g_o hG5 rfl)) rfl (to_an (pc := 0) rw_84_0 rfl (to_in (pc := 1) rw_84_1 rfl (s_pI (pc := 2) rw_84_2 hG5 rfl (fun M12 W11 => ?_))))))
      have hG13 := g_wf hG5 W11 rfl rfl (by decide)
      have F14 := FR.w F9 W11 (show 1 = 1 ∧ 5 ≤ 10 ∨ 3 ≤ 1 ∧ 1 ≤ 5 by decide)
      refine to_an (pc := 5) rw_84_5 rfl (to_an (pc := 6) rw_84_6 rfl ?_)
      have c_15 : M12.2.1 1 9 = (M.2.1 1 9) := (W_n W11 (by decide) (F_n F4 (show ¬ (1 < 0) by decide) rfl))
      refine tt_gI (pc := 7) rw_84_7 (g_o hG13 rfl) (v := (M.2.1 1 9)) c_15 (s_pI (pc := 10) rw_84_10 hG13 rfl (fun M17 W16 => ?_))
      have hG18 := g_wf hG13 W16 rfl rfl (by decide)
      have F19 := FR.w F14 W16 (show 1 = 1 ∧ 5 ≤ 11 ∨ 3 ≤ 1 ∧ 1 ≤ 5 by decide)
      refine to_c (pc := 13) rw_84_13 (x := (0 : Int32)) rfl rfl (s_r1 (pc := 14) rw_84_14 (A := 0) rfl (by decide) (s_r1 (pc := 43) rw_34_43 (A := 0) rfl (by decide) ?_))
      have k_20 : (0 : Int32).toInt = 0 := rfl
      have c_21 : M17.2.1 1 10 = (3 : Int32) := (W_n W16 (by decide) (W_e W11))
      have k_22 : (3 : Int32).toInt = 3 := rfl
      have t_23 : (M17.2.1 1 10).toInt = (3 : Int32).toInt := congrArg Int32.toInt c_21
      have c_24 : M17.2.1 1 11 = (M.2.1 1 9) := (W_e W16)
      have t_25 : (M17.2.1 1 11).toInt = (M.2.1 1 9).toInt := congrArg Int32.toInt c_24
      exact h (0 : Int32) M17 hG18 F19 (by decide) (by decide) (by omega)
    · refine to_an (pc := 26) rw_34_26 rfl (to_an (pc := 27) rw_34_27 rfl ?_)
      have c_26 : M8.2.1 1 8 = (M.2.1 1 8) := (F_n F4 (show ¬ (1 < 0) by decide) rfl)
      refine tt_gI (pc := 28) rw_34_28 (g_o hG5 rfl) (v := (M.2.1 1 8)) c_26 (s_v (pc := 31) rw_34_31 (dp0 hd (by decide)) (ls0 := [.ref p, .int (M.2.1 1 8)]) rfl (Nat.le_of_ble_eq_true rfl) (Nat.le_of_ble_eq_true rfl) rfl (to_rc rfl rfl rfl (g_o hG5 (by rcases hp with rfl | rfl <;> rfl))) rfl (to_an (pc := 0) rw_53_0 rfl (s_gR (pc := 1) rw_53_1 hG5 (by rcases hp with rfl | rfl <;> rfl) (v := (p + 6)) (by rcases hp with rfl | rfl <;> rfl) (to_an (pc := 4) rw_53_4 rfl ?_))))
      have c_27 : M8.2.1 p 3 = (M.2.1 p 3) := (F_n F4 (show ¬ (p < 0) by omega) rfl)
      have b_28 := g_b hG (a := p) (i := 3) (lo := 0) (hi := 12) (by rcases hp with rfl | rfl <;> rfl) (by rcases hp with rfl | rfl <;> rfl)
      refine tt_gI (pc := 5) rw_53_5 (g_o hG5 (by rcases hp with rfl | rfl <;> rfl)) (v := (M.2.1 p 3)) c_27 (to_in (pc := 8) rw_53_8 rfl (s_s (pc := 9) rw_53_9 (dp1 hd (by decide)) (ls0 := [.ref (p + 6), .int (M.2.1 p 3), .int (M.2.1 1 8), .null]) rfl (Nat.le_of_ble_eq_true rfl) (Nat.le_of_ble_eq_true rfl) rfl (to_rcs rfl rfl) rfl (C_54g hX (dp2 hd (by decide)) hG5 (by omega) (g := (p + 6)) (s := (M.2.1 p 3)) (x := (M.2.1 1 8)) (fun r29 M34 hG31 F30 p_32 p_33 => ?_))))
      have F35 := FR.c F9 F30 tg_205
      refine to_r0 (pc := 12) rw_53_12 (to_c (pc := 34) rw_34_34 (x := (-1 : Int32)) rfl rfl (b_ceq (pc := 35) rw_34_35 (A := r29.toInt) (B := -1) rfl rfl (fun h36 => ?_) (fun h36 => ?_)))
      · refine to_c (pc := 44) rw_34_44 (x := (1 : Int32)) rfl rfl (s_r1 (pc := 45) rw_34_45 (A := 1) rfl (by decide) ?_)
        have k_37 : (1 : Int32).toInt = 1 := rfl
        have c_38 : M34.2.1 1 10 = (M.2.1 1 10) := (F_n F30 (show ¬ (1 < 0) by decide) (F_n F4 (show ¬ (1 < 0) by decide) rfl))
        have t_39 : (M34.2.1 1 10).toInt = (M.2.1 1 10).toInt := congrArg Int32.toInt c_38
        have c_40 : M34.2.1 1 11 = (M.2.1 1 11) := (F_n F30 (show ¬ (1 < 0) by decide) (F_n F4 (show ¬ (1 < 0) by decide) rfl))
        have t_41 : (M34.2.1 1 11).toInt = (M.2.1 1 11).toInt := congrArg Int32.toInt c_40
        exact h (1 : Int32) M34 hG31 F35 (by decide) (by decide) (by omega)
      · refine to_an (pc := 38) rw_34_38 rfl (to_c (pc := 39) rw_34_39 (x := (3 : Int32)) rfl rfl (s_v (pc := 40) rw_34_40 (dp0 hd (by decide)) (ls0 := [.ref 1, .int (3 : Int32)]) rfl (Nat.le_of_ble_eq_true rfl) (Nat.le_of_ble_eq_true rfl) rfl (to_rc rfl rfl rfl (g_o hG31 rfl)) rfl (to_an (pc := 0) rw_84_0 rfl (to_in (pc := 1) rw_84_1 rfl (s_pI (pc := 2) rw_84_2 hG31 rfl (fun M43 W42 => ?_))))))
        have hG44 := g_wf hG31 W42 rfl rfl (by decide)
        have F45 := FR.w F35 W42 (show 1 = 1 ∧ 5 ≤ 10 ∨ 3 ≤ 1 ∧ 1 ≤ 5 by decide)
        refine to_an (pc := 5) rw_84_5 rfl (to_an (pc := 6) rw_84_6 rfl ?_)
        have c_46 : M43.2.1 1 9 = (M.2.1 1 9) := (W_n W42 (by decide) (F_n F30 (show ¬ (1 < 0) by decide) (F_n F4 (show ¬ (1 < 0) by decide) rfl)))
        refine tt_gI (pc := 7) rw_84_7 (g_o hG44 rfl) (v := (M.2.1 1 9)) c_46 (s_pI (pc := 10) rw_84_10 hG44 rfl (fun M48 W47 => ?_))
        have hG49 := g_wf hG44 W47 rfl rfl (by decide)
        have F50 := FR.w F45 W47 (show 1 = 1 ∧ 5 ≤ 11 ∨ 3 ≤ 1 ∧ 1 ≤ 5 by decide)
        refine to_c (pc := 13) rw_84_13 (x := (0 : Int32)) rfl rfl (s_r1 (pc := 14) rw_84_14 (A := 0) rfl (by decide) (s_r1 (pc := 43) rw_34_43 (A := 0) rfl (by decide) ?_))
        have k_51 : (0 : Int32).toInt = 0 := rfl
        have c_52 : M48.2.1 1 10 = (3 : Int32) := (W_n W47 (by decide) (W_e W42))
        have k_53 : (3 : Int32).toInt = 3 := rfl
        have t_54 : (M48.2.1 1 10).toInt = (3 : Int32).toInt := congrArg Int32.toInt c_52
        have c_55 : M48.2.1 1 11 = (M.2.1 1 9) := (W_e W47)
        have t_56 : (M48.2.1 1 11).toInt = (M.2.1 1 9).toInt := congrArg Int32.toInt c_55
        exact h (0 : Int32) M48 hG49 F50 (by decide) (by decide) (by omega)
  · refine to_an (pc := 8) rw_34_8 rfl (to_c (pc := 9) rw_34_9 (x := (1 : Int32)) rfl rfl (s_v (pc := 10) rw_34_10 (dp0 hd (by decide)) (ls0 := [.ref 1, .int (1 : Int32)]) rfl (Nat.le_of_ble_eq_true rfl) (Nat.le_of_ble_eq_true rfl) rfl (to_rc rfl rfl rfl (g_o hG rfl)) rfl (to_an (pc := 0) rw_84_0 rfl (to_in (pc := 1) rw_84_1 rfl (s_pI (pc := 2) rw_84_2 hG rfl (fun M58 W57 => ?_))))))
    have hG59 := g_wf hG W57 rfl rfl (by decide)
    have F60 := FR.w F0 W57 (show 1 = 1 ∧ 5 ≤ 10 ∨ 3 ≤ 1 ∧ 1 ≤ 5 by decide)
    refine to_an (pc := 5) rw_84_5 rfl (to_an (pc := 6) rw_84_6 rfl ?_)
    have c_61 : M58.2.1 1 9 = (M.2.1 1 9) := (W_n W57 (by decide) rfl)
    refine tt_gI (pc := 7) rw_84_7 (g_o hG59 rfl) (v := (M.2.1 1 9)) c_61 (s_pI (pc := 10) rw_84_10 hG59 rfl (fun M63 W62 => ?_))
    have hG64 := g_wf hG59 W62 rfl rfl (by decide)
    have F65 := FR.w F60 W62 (show 1 = 1 ∧ 5 ≤ 11 ∨ 3 ≤ 1 ∧ 1 ≤ 5 by decide)
    refine to_c (pc := 13) rw_84_13 (x := (0 : Int32)) rfl rfl (s_r1 (pc := 14) rw_84_14 (A := 0) rfl (by decide) (s_r1 (pc := 13) rw_34_13 (A := 0) rfl (by decide) ?_))
    have k_66 : (0 : Int32).toInt = 0 := rfl
    have c_67 : M63.2.1 1 10 = (1 : Int32) := (W_n W62 (by decide) (W_e W57))
    have k_68 : (1 : Int32).toInt = 1 := rfl
    have t_69 : (M63.2.1 1 10).toInt = (1 : Int32).toInt := congrArg Int32.toInt c_67
    have c_70 : M63.2.1 1 11 = (M.2.1 1 9) := (W_e W62)
    have t_71 : (M63.2.1 1 11).toInt = (M.2.1 1 9).toInt := congrArg Int32.toInt c_70
    exact h (0 : Int32) M63 hG64 F65 (by decide) (by decide) (by omega)
set_option maxRecDepth 4000 in
set_option maxHeartbeats 0 in
theorem C_35 {X : mm_X} {d : Nat} {M : mm_M} {Q : Option Value → mm_M → Prop} (hX : g_X X) (hd : 1 ≤ d) (hG : g_G M) (h : ∀ (r : Int32) (M1 : mm_M), g_G M1 → FR md_0 M M1 → (-1 ≤ r.toInt) → (r.toInt ≤ 3) → Q (some (.int r)) M1) : mm_T X d 35 0 [.ref 1] [] M Q := by
  have F0 : FR md_0 M M := FR.rf
  refine to_an (pc := 0) rw_35_0 rfl (to_c (pc := 1) rw_35_1 (x := (518160384 : Int32)) rfl rfl (s_v (pc := 3) rw_35_3 (dp0 hd (by decide)) (ls0 := [.ref 1, .int (518160384 : Int32)]) rfl (Nat.le_of_ble_eq_true rfl) (Nat.le_of_ble_eq_true rfl) rfl (to_rc rfl rfl rfl (g_o hG rfl)) rfl (to_an (pc := 0) rw_86_0 rfl (tt_gI (pc := 1) rw_86_1 (g_o hG rfl) (v := (M.2.1 1 7)) rfl (to_c (pc := 4) rw_86_4 (x := (4 : Int32)) rfl rfl (b_cne (pc := 5) rw_86_5 (A := (M.2.1 1 7).toInt) (B := 4) rfl rfl (fun h1 => ?_) (fun h1 => ?_)))))))
  · refine to_c (pc := 20) rw_86_20 (x := (0 : Int32)) rfl rfl (s_r1 (pc := 21) rw_86_21 (A := 0) rfl (by decide) (b_ieq_t (pc := 6) rw_35_6 (A := 0) rfl (by decide) (to_an (pc := 11) rw_35_11 rfl (to_c (pc := 12) rw_35_12 (x := (659999744 : Int32)) rfl rfl (s_v (pc := 14) rw_35_14 (dp0 hd (by decide)) (ls0 := [.ref 1, .int (659999744 : Int32)]) rfl (Nat.le_of_ble_eq_true rfl) (Nat.le_of_ble_eq_true rfl) rfl (to_rc rfl rfl rfl (g_o hG rfl)) rfl (to_an (pc := 0) rw_86_0 rfl (tt_gI (pc := 1) rw_86_1 (g_o hG rfl) (v := (M.2.1 1 7)) rfl (to_c (pc := 4) rw_86_4 (x := (4 : Int32)) rfl rfl (b_cne (pc := 5) rw_86_5 (A := (M.2.1 1 7).toInt) (B := 4) rfl rfl (fun h2 => ?_) (fun h2 => ?_))))))))))
    · refine to_c (pc := 20) rw_86_20 (x := (0 : Int32)) rfl rfl (s_r1 (pc := 21) rw_86_21 (A := 0) rfl (by decide) (b_ieq_t (pc := 17) rw_35_17 (A := 0) rfl (by decide) (to_an (pc := 22) rw_35_22 rfl (to_c (pc := 23) rw_35_23 (x := (538233440 : Int32)) rfl rfl (s_v (pc := 25) rw_35_25 (dp0 hd (by decide)) (ls0 := [.ref 1, .int (538233440 : Int32)]) rfl (Nat.le_of_ble_eq_true rfl) (Nat.le_of_ble_eq_true rfl) rfl (to_rc rfl rfl rfl (g_o hG rfl)) rfl (to_an (pc := 0) rw_86_0 rfl (tt_gI (pc := 1) rw_86_1 (g_o hG rfl) (v := (M.2.1 1 7)) rfl (to_c (pc := 4) rw_86_4 (x := (4 : Int32)) rfl rfl (b_cne (pc := 5) rw_86_5 (A := (M.2.1 1 7).toInt) (B := 4) rfl rfl (fun h3 => ?_) (fun h3 => ?_))))))))))
      · refine to_c (pc := 20) rw_86_20 (x := (0 : Int32)) rfl rfl (s_r1 (pc := 21) rw_86_21 (A := 0) rfl (by decide) (b_ieq_t (pc := 28) rw_35_28 (A := 0) rfl (by decide) (to_an (pc := 33) rw_35_33 rfl (to_c (pc := 34) rw_35_34 (x := (404000768 : Int32)) rfl rfl (s_v (pc := 36) rw_35_36 (dp0 hd (by decide)) (ls0 := [.ref 1, .int (404000768 : Int32)]) rfl (Nat.le_of_ble_eq_true rfl) (Nat.le_of_ble_eq_true rfl) rfl (to_rc rfl rfl rfl (g_o hG rfl)) rfl (to_an (pc := 0) rw_86_0 rfl (tt_gI (pc := 1) rw_86_1 (g_o hG rfl) (v := (M.2.1 1 7)) rfl (to_c (pc := 4) rw_86_4 (x := (4 : Int32)) rfl rfl (b_cne (pc := 5) rw_86_5 (A := (M.2.1 1 7).toInt) (B := 4) rfl rfl (fun h4 => ?_) (fun h4 => ?_))))))))))
        · refine to_c (pc := 20) rw_86_20 (x := (0 : Int32)) rfl rfl (s_r1 (pc := 21) rw_86_21 (A := 0) rfl (by decide) (b_ieq_t (pc := 39) rw_35_39 (A := 0) rfl (by decide) (to_c (pc := 46) rw_35_46 (x := (-1 : Int32)) rfl rfl (to_r0 (pc := 47) rw_35_47 ?_))))
          have k_5 : (-1 : Int32).toInt = -1 := rfl
          exact h (-1 : Int32) M hG F0 (by omega) (by omega)
        · refine to_an (pc := 8) rw_86_8 rfl (tt_gI (pc := 9) rw_86_9 (g_o hG rfl) (v := (M.2.1 1 8)) rfl (to_in (pc := 12) rw_86_12 rfl (b_cne (pc := 13) rw_86_13 (A := (M.2.1 1 8).toInt) (B := 404000768) rfl rfl (fun h6 => ?_) (fun h6 => ?_))))
          · refine to_c (pc := 20) rw_86_20 (x := (0 : Int32)) rfl rfl (s_r1 (pc := 21) rw_86_21 (A := 0) rfl (by decide) (b_ieq_t (pc := 39) rw_35_39 (A := 0) rfl (by decide) (to_c (pc := 46) rw_35_46 (x := (-1 : Int32)) rfl rfl (to_r0 (pc := 47) rw_35_47 ?_))))
            have k_7 : (-1 : Int32).toInt = -1 := rfl
            exact h (-1 : Int32) M hG F0 (by omega) (by omega)
          · refine to_c (pc := 16) rw_86_16 (x := (1 : Int32)) rfl rfl (to_go (pc := 17) rw_86_17 (s_r1 (pc := 21) rw_86_21 (A := 1) rfl (by decide) (b_ieq_f (pc := 39) rw_35_39 (A := 1) rfl (by decide) (to_c (pc := 42) rw_35_42 (x := (3 : Int32)) rfl rfl (to_go (pc := 43) rw_35_43 (to_r0 (pc := 47) rw_35_47 ?_))))))
            have k_8 : (3 : Int32).toInt = 3 := rfl
            exact h (3 : Int32) M hG F0 (by omega) (by omega)
      · refine to_an (pc := 8) rw_86_8 rfl (tt_gI (pc := 9) rw_86_9 (g_o hG rfl) (v := (M.2.1 1 8)) rfl (to_in (pc := 12) rw_86_12 rfl (b_cne (pc := 13) rw_86_13 (A := (M.2.1 1 8).toInt) (B := 538233440) rfl rfl (fun h9 => ?_) (fun h9 => ?_))))
        · refine to_c (pc := 20) rw_86_20 (x := (0 : Int32)) rfl rfl (s_r1 (pc := 21) rw_86_21 (A := 0) rfl (by decide) (b_ieq_t (pc := 28) rw_35_28 (A := 0) rfl (by decide) (to_an (pc := 33) rw_35_33 rfl (to_c (pc := 34) rw_35_34 (x := (404000768 : Int32)) rfl rfl (s_v (pc := 36) rw_35_36 (dp0 hd (by decide)) (ls0 := [.ref 1, .int (404000768 : Int32)]) rfl (Nat.le_of_ble_eq_true rfl) (Nat.le_of_ble_eq_true rfl) rfl (to_rc rfl rfl rfl (g_o hG rfl)) rfl (to_an (pc := 0) rw_86_0 rfl (tt_gI (pc := 1) rw_86_1 (g_o hG rfl) (v := (M.2.1 1 7)) rfl (to_c (pc := 4) rw_86_4 (x := (4 : Int32)) rfl rfl (b_cne_f (pc := 5) rw_86_5 (A := (M.2.1 1 7).toInt) (B := 4) rfl rfl (by omega) (to_an (pc := 8) rw_86_8 rfl (tt_gI (pc := 9) rw_86_9 (g_o hG rfl) (v := (M.2.1 1 8)) rfl ?_)))))))))))
          refine to_in (pc := 12) rw_86_12 rfl (b_cne (pc := 13) rw_86_13 (A := (M.2.1 1 8).toInt) (B := 404000768) rfl rfl (fun h10 => ?_) (fun h10 => ?_))
          · refine to_c (pc := 20) rw_86_20 (x := (0 : Int32)) rfl rfl (s_r1 (pc := 21) rw_86_21 (A := 0) rfl (by decide) (b_ieq_t (pc := 39) rw_35_39 (A := 0) rfl (by decide) (to_c (pc := 46) rw_35_46 (x := (-1 : Int32)) rfl rfl (to_r0 (pc := 47) rw_35_47 ?_))))
            have k_11 : (-1 : Int32).toInt = -1 := rfl
            exact h (-1 : Int32) M hG F0 (by omega) (by omega)
          · refine to_c (pc := 16) rw_86_16 (x := (1 : Int32)) rfl rfl (to_go (pc := 17) rw_86_17 (s_r1 (pc := 21) rw_86_21 (A := 1) rfl (by decide) (b_ieq_f (pc := 39) rw_35_39 (A := 1) rfl (by decide) (to_c (pc := 42) rw_35_42 (x := (3 : Int32)) rfl rfl (to_go (pc := 43) rw_35_43 (to_r0 (pc := 47) rw_35_47 ?_))))))
            have k_12 : (3 : Int32).toInt = 3 := rfl
            exact h (3 : Int32) M hG F0 (by omega) (by omega)
        · refine to_c (pc := 16) rw_86_16 (x := (1 : Int32)) rfl rfl (to_go (pc := 17) rw_86_17 (s_r1 (pc := 21) rw_86_21 (A := 1) rfl (by decide) (b_ieq_f (pc := 28) rw_35_28 (A := 1) rfl (by decide) (to_c (pc := 31) rw_35_31 (x := (2 : Int32)) rfl rfl (to_r0 (pc := 32) rw_35_32 ?_)))))
          have k_13 : (2 : Int32).toInt = 2 := rfl
          exact h (2 : Int32) M hG F0 (by omega) (by omega)
    · refine to_an (pc := 8) rw_86_8 rfl (tt_gI (pc := 9) rw_86_9 (g_o hG rfl) (v := (M.2.1 1 8)) rfl (to_in (pc := 12) rw_86_12 rfl (b_cne (pc := 13) rw_86_13 (A := (M.2.1 1 8).toInt) (B := 659999744) rfl rfl (fun h14 => ?_) (fun h14 => ?_))))
      · refine to_c (pc := 20) rw_86_20 (x := (0 : Int32)) rfl rfl (s_r1 (pc := 21) rw_86_21 (A := 0) rfl (by decide) (b_ieq_t (pc := 17) rw_35_17 (A := 0) rfl (by decide) (to_an (pc := 22) rw_35_22 rfl (to_c (pc := 23) rw_35_23 (x := (538233440 : Int32)) rfl rfl (s_v (pc := 25) rw_35_25 (dp0 hd (by decide)) (ls0 := [.ref 1, .int (538233440 : Int32)]) rfl (Nat.le_of_ble_eq_true rfl) (Nat.le_of_ble_eq_true rfl) rfl (to_rc rfl rfl rfl (g_o hG rfl)) rfl (to_an (pc := 0) rw_86_0 rfl (tt_gI (pc := 1) rw_86_1 (g_o hG rfl) (v := (M.2.1 1 7)) rfl (to_c (pc := 4) rw_86_4 (x := (4 : Int32)) rfl rfl (b_cne_f (pc := 5) rw_86_5 (A := (M.2.1 1 7).toInt) (B := 4) rfl rfl (by omega) (to_an (pc := 8) rw_86_8 rfl (tt_gI (pc := 9) rw_86_9 (g_o hG rfl) (v := (M.2.1 1 8)) rfl ?_)))))))))))
        refine to_in (pc := 12) rw_86_12 rfl (b_cne (pc := 13) rw_86_13 (A := (M.2.1 1 8).toInt) (B := 538233440) rfl rfl (fun h15 => ?_) (fun h15 => ?_))
        · refine to_c (pc := 20) rw_86_20 (x := (0 : Int32)) rfl rfl (s_r1 (pc := 21) rw_86_21 (A := 0) rfl (by decide) (b_ieq_t (pc := 28) rw_35_28 (A := 0) rfl (by decide) (to_an (pc := 33) rw_35_33 rfl (to_c (pc := 34) rw_35_34 (x := (404000768 : Int32)) rfl rfl (s_v (pc := 36) rw_35_36 (dp0 hd (by decide)) (ls0 := [.ref 1, .int (404000768 : Int32)]) rfl (Nat.le_of_ble_eq_true rfl) (Nat.le_of_ble_eq_true rfl) rfl (to_rc rfl rfl rfl (g_o hG rfl)) rfl (to_an (pc := 0) rw_86_0 rfl (tt_gI (pc := 1) rw_86_1 (g_o hG rfl) (v := (M.2.1 1 7)) rfl (to_c (pc := 4) rw_86_4 (x := (4 : Int32)) rfl rfl (b_cne_f (pc := 5) rw_86_5 (A := (M.2.1 1 7).toInt) (B := 4) rfl rfl (by omega) (to_an (pc := 8) rw_86_8 rfl (tt_gI (pc := 9) rw_86_9 (g_o hG rfl) (v := (M.2.1 1 8)) rfl ?_)))))))))))
          refine to_in (pc := 12) rw_86_12 rfl (b_cne (pc := 13) rw_86_13 (A := (M.2.1 1 8).toInt) (B := 404000768) rfl rfl (fun h16 => ?_) (fun h16 => ?_))
          · refine to_c (pc := 20) rw_86_20 (x := (0 : Int32)) rfl rfl (s_r1 (pc := 21) rw_86_21 (A := 0) rfl (by decide) (b_ieq_t (pc := 39) rw_35_39 (A := 0) rfl (by decide) (to_c (pc := 46) rw_35_46 (x := (-1 : Int32)) rfl rfl (to_r0 (pc := 47) rw_35_47 ?_))))
            have k_17 : (-1 : Int32).toInt = -1 := rfl
            exact h (-1 : Int32) M hG F0 (by omega) (by omega)
          · refine to_c (pc := 16) rw_86_16 (x := (1 : Int32)) rfl rfl (to_go (pc := 17) rw_86_17 (s_r1 (pc := 21) rw_86_21 (A := 1) rfl (by decide) (b_ieq_f (pc := 39) rw_35_39 (A := 1) rfl (by decide) (to_c (pc := 42) rw_35_42 (x := (3 : Int32)) rfl rfl (to_go (pc := 43) rw_35_43 (to_r0 (pc := 47) rw_35_47 ?_))))))
            have k_18 : (3 : Int32).toInt = 3 := rfl
            exact h (3 : Int32) M hG F0 (by omega) (by omega)
        · refine to_c (pc := 16) rw_86_16 (x := (1 : Int32)) rfl rfl (to_go (pc := 17) rw_86_17 (s_r1 (pc := 21) rw_86_21 (A := 1) rfl (by decide) (b_ieq_f (pc := 28) rw_35_28 (A := 1) rfl (by decide) (to_c (pc := 31) rw_35_31 (x := (2 : Int32)) rfl rfl (to_r0 (pc := 32) rw_35_32 ?_)))))
          have k_19 : (2 : Int32).toInt = 2 := rfl
          exact h (2 : Int32) M hG F0 (by omega) (by omega)
      · refine to_c (pc := 16) rw_86_16 (x := (1 : Int32)) rfl rfl (to_go (pc := 17) rw_86_17 (s_r1 (pc := 21) rw_86_21 (A := 1) rfl (by decide) (b_ieq_f (pc := 17) rw_35_17 (A := 1) rfl (by decide) (to_c (pc := 20) rw_35_20 (x := (1 : Int32)) rfl rfl (to_r0 (pc := 21) rw_35_21 ?_)))))
        have k_20 : (1 : Int32).toInt = 1 := rfl
        exact h (1 : Int32) M hG F0 (by omega) (by omega)
  · refine to_an (pc := 8) rw_86_8 rfl (tt_gI (pc := 9) rw_86_9 (g_o hG rfl) (v := (M.2.1 1 8)) rfl (to_in (pc := 12) rw_86_12 rfl (b_cne (pc := 13) rw_86_13 (A := (M.2.1 1 8).toInt) (B := 518160384) rfl rfl (fun h21 => ?_) (fun h21 => ?_))))
    · refine to_c (pc := 20) rw_86_20 (x := (0 : Int32)) rfl rfl (s_r1 (pc := 21) rw_86_21 (A := 0) rfl (by decide) (b_ieq_t (pc := 6) rw_35_6 (A := 0) rfl (by decide) (to_an (pc := 11) rw_35_11 rfl (to_c (pc := 12) rw_35_12 (x := (659999744 : Int32)) rfl rfl (s_v (pc := 14) rw_35_14 (dp0 hd (by decide)) (ls0 := [.ref 1, .int (659999744 : Int32)]) rfl (Nat.le_of_ble_eq_true rfl) (Nat.le_of_ble_eq_true rfl) rfl (to_rc rfl rfl rfl (g_o hG rfl)) rfl (to_an (pc := 0) rw_86_0 rfl (tt_gI (pc := 1) rw_86_1 (g_o hG rfl) (v := (M.2.1 1 7)) rfl (to_c (pc := 4) rw_86_4 (x := (4 : Int32)) rfl rfl (b_cne_f (pc := 5) rw_86_5 (A := (M.2.1 1 7).toInt) (B := 4) rfl rfl (by omega) (to_an (pc := 8) rw_86_8 rfl (tt_gI (pc := 9) rw_86_9 (g_o hG rfl) (v := (M.2.1 1 8)) rfl ?_)))))))))))
      refine to_in (pc := 12) rw_86_12 rfl (b_cne (pc := 13) rw_86_13 (A := (M.2.1 1 8).toInt) (B := 659999744) rfl rfl (fun h22 => ?_) (fun h22 => ?_))
      · refine to_c (pc := 20) rw_86_20 (x := (0 : Int32)) rfl rfl (s_r1 (pc := 21) rw_86_21 (A := 0) rfl (by decide) (b_ieq_t (pc := 17) rw_35_17 (A := 0) rfl (by decide) (to_an (pc := 22) rw_35_22 rfl (to_c (pc := 23) rw_35_23 (x := (538233440 : Int32)) rfl rfl (s_v (pc := 25) rw_35_25 (dp0 hd (by decide)) (ls0 := [.ref 1, .int (538233440 : Int32)]) rfl (Nat.le_of_ble_eq_true rfl) (Nat.le_of_ble_eq_true rfl) rfl (to_rc rfl rfl rfl (g_o hG rfl)) rfl (to_an (pc := 0) rw_86_0 rfl (tt_gI (pc := 1) rw_86_1 (g_o hG rfl) (v := (M.2.1 1 7)) rfl (to_c (pc := 4) rw_86_4 (x := (4 : Int32)) rfl rfl (b_cne_f (pc := 5) rw_86_5 (A := (M.2.1 1 7).toInt) (B := 4) rfl rfl (by omega) (to_an (pc := 8) rw_86_8 rfl (tt_gI (pc := 9) rw_86_9 (g_o hG rfl) (v := (M.2.1 1 8)) rfl ?_)))))))))))
        refine to_in (pc := 12) rw_86_12 rfl (b_cne (pc := 13) rw_86_13 (A := (M.2.1 1 8).toInt) (B := 538233440) rfl rfl (fun h23 => ?_) (fun h23 => ?_))
        · refine to_c (pc := 20) rw_86_20 (x := (0 : Int32)) rfl rfl (s_r1 (pc := 21) rw_86_21 (A := 0) rfl (by decide) (b_ieq_t (pc := 28) rw_35_28 (A := 0) rfl (by decide) (to_an (pc := 33) rw_35_33 rfl (to_c (pc := 34) rw_35_34 (x := (404000768 : Int32)) rfl rfl (s_v (pc := 36) rw_35_36 (dp0 hd (by decide)) (ls0 := [.ref 1, .int (404000768 : Int32)]) rfl (Nat.le_of_ble_eq_true rfl) (Nat.le_of_ble_eq_true rfl) rfl (to_rc rfl rfl rfl (g_o hG rfl)) rfl (to_an (pc := 0) rw_86_0 rfl (tt_gI (pc := 1) rw_86_1 (g_o hG rfl) (v := (M.2.1 1 7)) rfl (to_c (pc := 4) rw_86_4 (x := (4 : Int32)) rfl rfl (b_cne_f (pc := 5) rw_86_5 (A := (M.2.1 1 7).toInt) (B := 4) rfl rfl (by omega) (to_an (pc := 8) rw_86_8 rfl (tt_gI (pc := 9) rw_86_9 (g_o hG rfl) (v := (M.2.1 1 8)) rfl ?_)))))))))))
          refine to_in (pc := 12) rw_86_12 rfl (b_cne (pc := 13) rw_86_13 (A := (M.2.1 1 8).toInt) (B := 404000768) rfl rfl (fun h24 => ?_) (fun h24 => ?_))
          · refine to_c (pc := 20) rw_86_20 (x := (0 : Int32)) rfl rfl (s_r1 (pc := 21) rw_86_21 (A := 0) rfl (by decide) (b_ieq_t (pc := 39) rw_35_39 (A := 0) rfl (by decide) (to_c (pc := 46) rw_35_46 (x := (-1 : Int32)) rfl rfl (to_r0 (pc := 47) rw_35_47 ?_))))
            have k_25 : (-1 : Int32).toInt = -1 := rfl
            exact h (-1 : Int32) M hG F0 (by omega) (by omega)
          · refine to_c (pc := 16) rw_86_16 (x := (1 : Int32)) rfl rfl (to_go (pc := 17) rw_86_17 (s_r1 (pc := 21) rw_86_21 (A := 1) rfl (by decide) (b_ieq_f (pc := 39) rw_35_39 (A := 1) rfl (by decide) (to_c (pc := 42) rw_35_42 (x := (3 : Int32)) rfl rfl (to_go (pc := 43) rw_35_43 (to_r0 (pc := 47) rw_35_47 ?_))))))
            have k_26 : (3 : Int32).toInt = 3 := rfl
            exact h (3 : Int32) M hG F0 (by omega) (by omega)
        · refine to_c (pc := 16) rw_86_16 (x := (1 : Int32)) rfl rfl (to_go (pc := 17) rw_86_17 (s_r1 (pc := 21) rw_86_21 (A := 1) rfl (by decide) (b_ieq_f (pc := 28) rw_35_28 (A := 1) rfl (by decide) (to_c (pc := 31) rw_35_31 (x := (2 : Int32)) rfl rfl (to_r0 (pc := 32) rw_35_32 ?_)))))
          have k_27 : (2 : Int32).toInt = 2 := rfl
          exact h (2 : Int32) M hG F0 (by omega) (by omega)
      · refine to_c (pc := 16) rw_86_16 (x := (1 : Int32)) rfl rfl (to_go (pc := 17) rw_86_17 (s_r1 (pc := 21) rw_86_21 (A := 1) rfl (by decide) (b_ieq_f (pc := 17) rw_35_17 (A := 1) rfl (by decide) (to_c (pc := 20) rw_35_20 (x := (1 : Int32)) rfl rfl (to_r0 (pc := 21) rw_35_21 ?_)))))
        have k_28 : (1 : Int32).toInt = 1 := rfl
        exact h (1 : Int32) M hG F0 (by omega) (by omega)
    · refine to_c (pc := 16) rw_86_16 (x := (1 : Int32)) rfl rfl (to_go (pc := 17) rw_86_17 (s_r1 (pc := 21) rw_86_21 (A := 1) rfl (by decide) (b_ieq_f (pc := 6) rw_35_6 (A := 1) rfl (by decide) (to_c (pc := 9) rw_35_9 (x := (0 : Int32)) rfl rfl (to_r0 (pc := 10) rw_35_10 ?_)))))
      have k_29 : (0 : Int32).toInt = 0 := rfl
      exact h (0 : Int32) M hG F0 (by omega) (by omega)
set_option maxRecDepth 4000 in
set_option maxHeartbeats 0 in
theorem C_39 {X : mm_X} {d : Nat} {M : mm_M} {Q : Option Value → mm_M → Prop} {p : Nat} {f : Int32} {l : Int32} (hX : g_X X) (hd : 1 ≤ d) (hG : g_G M) (hp : p = 49 ∨ p = 58) (h : ∀ (r : Int32) (M1 : mm_M), g_G M1 → FR md_t M M1 → (0 ≤ r.toInt) → (r.toInt ≤ 1) → (r.toInt = 1 → (M1.2.1 1 10).toInt = (M.2.1 1 10).toInt ∧ (M1.2.1 1 11).toInt = (M.2.1 1 11).toInt) → Q (some (.int r)) M1) : mm_T X d 39 0 [.ref p, .ref 1, .int f, .int l] [] M Q := by
  have F0 : FR md_t M M := FR.rf
  refine to_an (pc := 0) rw_39_0 rfl (s_gJ (pc := 1) rw_39_1 hG (by rcases hp with rfl | rfl <;> rfl) (fun l1 => to_in (pc := 4) rw_39_4 rfl (to_in (pc := 5) rw_39_5 rfl (s_s (pc := 6) rw_39_6 (dp0 hd (by decide)) (ls0 := [.int f, .int l]) rfl (Nat.le_of_ble_eq_true rfl) (Nat.le_of_ble_eq_true rfl) rfl (to_rcs rfl rfl) rfl (s_cl (pc := 0) rw_144_0 rfl (fun l2 => to_in (pc := 1) rw_144_1 rfl (to_in (pc := 2) rw_144_2 rfl (s_any (pc := 3) rw_144_3 (fun _ _ => rfl) (fun v3 => to_c (pc := 4) rw_144_4 (x := (1 : Int32)) rfl rfl (s_any (pc := 5) rw_144_5 (fun _ _ => rfl) (fun v4 => s_anyS (pc := 6) rw_144_6 (fun _ _ => rfl) (fun l5 => ?_))))))))))))
  refine s_cl (pc := 7) rw_144_7 rfl (fun l6 => s_anyL (pc := 8) rw_144_8 (fun _ _ => rfl) (fun l7 => to_in (pc := 9) rw_144_9 rfl (s_anyS (pc := 10) rw_144_10 (fun _ _ => rfl) (fun l8 => to_rl (pc := 11) rw_144_11 (s_anyL (pc := 9) rw_39_9 (fun _ _ => rfl) (fun l9 => s_cl (pc := 10) rw_39_10 rfl (fun l10 => s_lcmp (pc := 11) rw_39_11 (fun v11 => b_ieq (pc := 12) rw_39_12 (A := v11.toInt) rfl (fun h12 => ?_) (fun h12 => ?_)))))))))
  · refine to_c (pc := 23) rw_39_23 (x := (1 : Int32)) rfl rfl (to_go (pc := 24) rw_39_24 (s_r1 (pc := 28) rw_39_28 (A := 1) rfl (by decide) ?_))
    have k_13 : (1 : Int32).toInt = 1 := rfl
    exact h (1 : Int32) M hG F0 (by decide) (by decide) (by omega)
  · refine to_an (pc := 15) rw_39_15 rfl (to_c (pc := 16) rw_39_16 (x := (3 : Int32)) rfl rfl (s_v (pc := 17) rw_39_17 (dp0 hd (by decide)) (ls0 := [.ref 1, .int (3 : Int32)]) rfl (Nat.le_of_ble_eq_true rfl) (Nat.le_of_ble_eq_true rfl) rfl (to_rc rfl rfl rfl (g_o hG rfl)) rfl (to_an (pc := 0) rw_84_0 rfl (to_in (pc := 1) rw_84_1 rfl (s_pI (pc := 2) rw_84_2 hG rfl (fun M15 W14 => ?_))))))
    have hG16 := g_wf hG W14 rfl rfl (by decide)
    have F17 := FR.w F0 W14 (show 1 = 1 ∧ 5 ≤ 10 ∨ 3 ≤ 1 ∧ 1 ≤ 5 by decide)
    refine to_an (pc := 5) rw_84_5 rfl (to_an (pc := 6) rw_84_6 rfl ?_)
    have c_18 : M15.2.1 1 9 = (M.2.1 1 9) := (W_n W14 (by decide) rfl)
    refine tt_gI (pc := 7) rw_84_7 (g_o hG16 rfl) (v := (M.2.1 1 9)) c_18 (s_pI (pc := 10) rw_84_10 hG16 rfl (fun M20 W19 => ?_))
    have hG21 := g_wf hG16 W19 rfl rfl (by decide)
    have F22 := FR.w F17 W19 (show 1 = 1 ∧ 5 ≤ 11 ∨ 3 ≤ 1 ∧ 1 ≤ 5 by decide)
    refine to_c (pc := 13) rw_84_13 (x := (0 : Int32)) rfl rfl (s_r1 (pc := 14) rw_84_14 (A := 0) rfl (by decide) (b_ieq_t (pc := 20) rw_39_20 (A := 0) rfl (by decide) (to_c (pc := 27) rw_39_27 (x := (0 : Int32)) rfl rfl (s_r1 (pc := 28) rw_39_28 (A := 0) rfl (by decide) ?_))))
    have k_23 : (0 : Int32).toInt = 0 := rfl
    have c_24 : M20.2.1 1 10 = (3 : Int32) := (W_n W19 (by decide) (W_e W14))
    have k_25 : (3 : Int32).toInt = 3 := rfl
    have t_26 : (M20.2.1 1 10).toInt = (3 : Int32).toInt := congrArg Int32.toInt c_24
    have c_27 : M20.2.1 1 11 = (M.2.1 1 9) := (W_e W19)
    have t_28 : (M20.2.1 1 11).toInt = (M.2.1 1 9).toInt := congrArg Int32.toInt c_27
    exact h (0 : Int32) M20 hG21 F22 (by decide) (by decide) (by omega)
set_option maxRecDepth 4000 in
set_option maxHeartbeats 0 in
theorem C_40 {X : mm_X} {d : Nat} {M : mm_M} {Q : Option Value → mm_M → Prop} {p : Nat} {f : Int32} {l : Int32} {c : Int32} (hX : g_X X) (hd : 0 ≤ d) (hG : g_G M) (hp : p = 49 ∨ p = 58) (q1 : 0 ≤ f.toInt) (q2 : f.toInt ≤ 59) (q3 : 0 ≤ l.toInt) (q4 : l.toInt ≤ 63) (q5 : 0 ≤ c.toInt) (q6 : c.toInt ≤ 24) (q7 : f.toInt ≤ l.toInt) (q8 : (M.2.1 p 2).toInt ≤ 7) (q9 : PI M) (h : ∀ (M1 : mm_M), g_G M1 → FR md_pr M M1 → PI M1 → Q (none) M1) : mm_T X d 40 0 [.ref p, .int f, .int l, .int c] [] M Q := by
  have F0 : FR md_pr M M := FR.rf
  have b_1 := g_b hG (a := p) (i := 2) (lo := 0) (hi := 8) (by rcases hp with rfl | rfl <;> rfl) (by rcases hp with rfl | rfl <;> rfl)
  refine to_an (pc := 0) rw_40_0 rfl (s_gR (pc := 1) rw_40_1 hG (by rcases hp with rfl | rfl <;> rfl) (v := (p + 3)) (by rcases hp with rfl | rfl <;> rfl) (to_an (pc := 4) rw_40_4 rfl (tt_gI (pc := 5) rw_40_5 (g_o hG (by rcases hp with rfl | rfl <;> rfl)) (v := (M.2.1 p 2)) rfl (to_in (pc := 8) rw_40_8 rfl (s_ias (pc := 9) rw_40_9 hG (by rcases hp with rfl | rfl <;> rfl) (n := 8) (by rcases hp with rfl | rfl <;> rfl) (A := (M.2.1 p 2).toInt) rfl (by omega) (by omega) (fun M3 W2 => ?_))))))
  have hG4 := g_w hG W2 (A := f.toInt) rfl (lo := 0) (hi := 59) (by rcases hp with rfl | rfl <;> rfl) (by rcases hp with rfl | rfl <;> rfl) (by omega) (by omega)
  have F5 := FR.w F0 W2 (show (p + 3) = 1 ∧ 5 ≤ ((M.2.1 p 2).toInt).toNat ∨ 3 ≤ (p + 3) ∧ (p + 3) ≤ 5 ∨ 50 ≤ (p + 3) ∧ (p + 3) ≤ 57 ∨ 59 ≤ (p + 3) ∧ (p + 3) ≤ 66 by omega)
  refine to_an (pc := 10) rw_40_10 rfl (s_gR (pc := 11) rw_40_11 hG4 (by rcases hp with rfl | rfl <;> rfl) (v := (p + 4)) (by rcases hp with rfl | rfl <;> rfl) (to_an (pc := 14) rw_40_14 rfl ?_))
  have c_6 : M3.2.1 p 2 = (M.2.1 p 2) := (W_n W2 (by omega) rfl)
  refine tt_gI (pc := 15) rw_40_15 (g_o hG4 (by rcases hp with rfl | rfl <;> rfl)) (v := (M.2.1 p 2)) c_6 (to_in (pc := 18) rw_40_18 rfl (s_ias (pc := 19) rw_40_19 hG4 (by rcases hp with rfl | rfl <;> rfl) (n := 8) (by rcases hp with rfl | rfl <;> rfl) (A := (M.2.1 p 2).toInt) rfl (by omega) (by omega) (fun M8 W7 => ?_)))
  have hG9 := g_w hG4 W7 (A := l.toInt) rfl (lo := 0) (hi := 63) (by rcases hp with rfl | rfl <;> rfl) (by rcases hp with rfl | rfl <;> rfl) (by omega) (by omega)
  have F10 := FR.w F5 W7 (show (p + 4) = 1 ∧ 5 ≤ ((M.2.1 p 2).toInt).toNat ∨ 3 ≤ (p + 4) ∧ (p + 4) ≤ 5 ∨ 50 ≤ (p + 4) ∧ (p + 4) ≤ 57 ∨ 59 ≤ (p + 4) ∧ (p + 4) ≤ 66 by omega)
  have j_11 := PI_k q9 hp W2 W7 (by omega)
  refine to_an (pc := 20) rw_40_20 rfl (s_gR (pc := 21) rw_40_21 hG9 (by rcases hp with rfl | rfl <;> rfl) (v := (p + 5)) (by rcases hp with rfl | rfl <;> rfl) (to_an (pc := 24) rw_40_24 rfl ?_))
  have c_12 : M8.2.1 p 2 = (M.2.1 p 2) := (W_n W7 (by omega) c_6)
  refine tt_gI (pc := 25) rw_40_25 (g_o hG9 (by rcases hp with rfl | rfl <;> rfl)) (v := (M.2.1 p 2)) c_12 (to_in (pc := 28) rw_40_28 rfl (s_ias (pc := 29) rw_40_29 hG9 (by rcases hp with rfl | rfl <;> rfl) (n := 8) (by rcases hp with rfl | rfl <;> rfl) (A := (M.2.1 p 2).toInt) rfl (by omega) (by omega) (fun M14 W13 => ?_)))
  have hG15 := g_w hG9 W13 (A := c.toInt) rfl (lo := 0) (hi := 24) (by rcases hp with rfl | rfl <;> rfl) (by rcases hp with rfl | rfl <;> rfl) (by omega) (by omega)
  have F16 := FR.w F10 W13 (show (p + 5) = 1 ∧ 5 ≤ ((M.2.1 p 2).toInt).toNat ∨ 3 ≤ (p + 5) ∧ (p + 5) ≤ 5 ∨ 50 ≤ (p + 5) ∧ (p + 5) ≤ 57 ∨ 59 ≤ (p + 5) ∧ (p + 5) ≤ 66 by omega)
  refine to_rv (pc := 30) rw_40_30 ?_
  have j_17 := (PI_f (fun a i z => W_n W13 (by omega) rfl) j_11)
  exact h M14 hG15 F16 j_17
set_option maxRecDepth 4000 in
set_option maxHeartbeats 0 in
theorem C_36 {X : mm_X} {d : Nat} {M : mm_M} {Q : Option Value → mm_M → Prop} {p : Nat} {w : Int32} (hX : g_X X) (hd : 2 ≤ d) (hG : g_G M) (hp : p = 49 ∨ p = 58) (q1 : 1 ≤ w.toInt) (q2 : w.toInt ≤ 2) (q3 : (M.2.1 p 2).toInt ≤ 7) (q4 : PI M) (h : ∀ (r : Int32) (M1 : mm_M), g_G M1 → FR md_pr M M1 → (0 ≤ r.toInt) → (r.toInt ≤ 1) → PI M1 → (r.toInt = 1 → (M1.2.1 1 10).toInt = (M.2.1 1 10).toInt ∧ (M1.2.1 1 11).toInt = (M.2.1 1 11).toInt) → Q (some (.int r)) M1) : mm_T X d 36 0 [.ref p, .ref 1, .int w, .null, .null, .null] [] M Q := by
  have F0 : FR md_pr M M := FR.rf
  have b_1 := g_b hG (a := p) (i := 2) (lo := 0) (hi := 8) (by rcases hp with rfl | rfl <;> rfl) (by rcases hp with rfl | rfl <;> rfl)
  refine to_an (pc := 0) rw_36_0 rfl (tt_gI (pc := 1) rw_36_1 (g_o hG rfl) (v := (M.2.1 1 8)) rfl (to_isn (pc := 4) rw_36_4 (ls2 := [.ref p, .ref 1, .int w, .int (M.2.1 1 8), .null, .null]) rfl rfl (to_an (pc := 5) rw_36_5 rfl (to_c (pc := 6) rw_36_6 (x := (0 : Int32)) rfl rfl (to_an (pc := 7) rw_36_7 rfl ?_)))))
  have b_2 := g_b hG (a := p) (i := 0) (lo := 10) (hi := 60) (by rcases hp with rfl | rfl <;> rfl) (by rcases hp with rfl | rfl <;> rfl)
  refine tt_gI (pc := 8) rw_36_8 (g_o hG (by rcases hp with rfl | rfl <;> rfl)) (v := (M.2.1 p 0)) rfl (to_c (pc := 11) rw_36_11 (x := (1 : Int32)) rfl rfl (s_sub (pc := 12) rw_36_12 (A := (M.2.1 p 0).toInt) (B := 1) rfl rfl (by omega) (fun v3 e4 => s_v (pc := 13) rw_36_13 (dp0 hd (by decide)) (ls0 := [.ref 1, .int (0 : Int32), .int v3]) rfl (Nat.le_of_ble_eq_true rfl) (Nat.le_of_ble_eq_true rfl) rfl (to_rc rfl rfl rfl (g_o hG rfl)) rfl (to_an (pc := 0) rw_88_0 rfl (tt_gI (pc := 1) rw_88_1 (g_o hG rfl) (v := (M.2.1 1 7)) rfl (to_c (pc := 4) rw_88_4 (x := (2 : Int32)) rfl rfl (b_ceq (pc := 5) rw_88_5 (A := (M.2.1 1 7).toInt) (B := 2) rfl rfl (fun h5 => ?_) (fun h5 => ?_))))))))
  · refine to_an (pc := 14) rw_88_14 rfl (tt_gI (pc := 15) rw_88_15 (g_o hG rfl) (v := (M.2.1 1 8)) rfl (to_in (pc := 18) rw_88_18 rfl (b_clt (pc := 19) rw_88_19 (A := (M.2.1 1 8).toInt) (B := 0) rfl rfl (fun h6 => ?_) (fun h6 => ?_))))
    · refine to_an (pc := 30) rw_88_30 rfl (to_c (pc := 31) rw_88_31 (x := (2 : Int32)) rfl rfl (s_v (pc := 32) rw_88_32 (dp1 hd (by decide)) (ls0 := [.ref 1, .int (2 : Int32)]) rfl (Nat.le_of_ble_eq_true rfl) (Nat.le_of_ble_eq_true rfl) rfl (to_rc rfl rfl rfl (g_o hG rfl)) rfl (to_an (pc := 0) rw_84_0 rfl (to_in (pc := 1) rw_84_1 rfl (s_pI (pc := 2) rw_84_2 hG rfl (fun M8 W7 => ?_))))))
      have hG9 := g_wf hG W7 rfl rfl (by decide)
      have F10 := FR.w F0 W7 (show 1 = 1 ∧ 5 ≤ 10 ∨ 3 ≤ 1 ∧ 1 ≤ 5 ∨ 50 ≤ 1 ∧ 1 ≤ 57 ∨ 59 ≤ 1 ∧ 1 ≤ 66 by decide)
      refine to_an (pc := 5) rw_84_5 rfl (to_an (pc := 6) rw_84_6 rfl ?_)
      have c_11 : M8.2.1 1 9 = (M.2.1 1 9) := (W_n W7 (by decide) rfl)
      refine tt_gI (pc := 7) rw_84_7 (g_o hG9 rfl) (v := (M.2.1 1 9)) c_11 (s_pI (pc := 10) rw_84_10 hG9 rfl (fun M13 W12 => ?_))
      have hG14 := g_wf hG9 W12 rfl rfl (by decide)
      have F15 := FR.w F10 W12 (show 1 = 1 ∧ 5 ≤ 11 ∨ 3 ≤ 1 ∧ 1 ≤ 5 ∨ 50 ≤ 1 ∧ 1 ≤ 57 ∨ 59 ≤ 1 ∧ 1 ≤ 66 by decide)
      refine to_c (pc := 13) rw_84_13 (x := (0 : Int32)) rfl rfl (s_r1 (pc := 14) rw_84_14 (A := 0) rfl (by decide) (b_ieq_t (pc := 35) rw_88_35 (A := 0) rfl (by decide) (to_c (pc := 42) rw_88_42 (x := (0 : Int32)) rfl rfl (s_r1 (pc := 43) rw_88_43 (A := 0) rfl (by decide) (b_ieq_t (pc := 16) rw_36_16 (A := 0) rfl (by decide) (to_c (pc := 29) rw_36_29 (x := (0 : Int32)) rfl rfl (s_r1 (pc := 30) rw_36_30 (A := 0) rfl (by decide) ?_)))))))
      have k_16 : (0 : Int32).toInt = 0 := rfl
      have j_17 := (PI_f (fun a i z => W_n W12 (by /-r1,11-/ omega) rfl) (PI_f (fun a i z => W_n W7 (by /-r1,10-/ omega) rfl) q4))
      have c_18 : M13.2.1 1 10 = (2 : Int32) := (W_n W12 (by decide) (W_e W7))
      have k_19 : (2 : Int32).toInt = 2 := rfl
      have t_20 : (M13.2.1 1 10).toInt = (2 : Int32).toInt := congrArg Int32.toInt c_18
      have c_21 : M13.2.1 1 11 = (M.2.1 1 9) := (W_e W12)
      have t_22 : (M13.2.1 1 11).toInt = (M.2.1 1 9).toInt := congrArg Int32.toInt c_21
      exact h (0 : Int32) M13 hG14 F15 (by decide) (by decide) j_17 (by omega)
    · refine to_an (pc := 22) rw_88_22 rfl (tt_gI (pc := 23) rw_88_23 (g_o hG rfl) (v := (M.2.1 1 8)) rfl (to_in (pc := 26) rw_88_26 rfl (b_cle (pc := 27) rw_88_27 (A := (M.2.1 1 8).toInt) (B := v3.toInt) rfl rfl (fun h23 => ?_) (fun h23 => ?_))))
      · refine to_c (pc := 38) rw_88_38 (x := (1 : Int32)) rfl rfl (to_go (pc := 39) rw_88_39 (s_r1 (pc := 43) rw_88_43 (A := 1) rfl (by decide) (b_ieq_f (pc := 16) rw_36_16 (A := 1) rfl (by decide) (to_an (pc := 19) rw_36_19 rfl (to_an (pc := 20) rw_36_20 rfl (to_in (pc := 21) rw_36_21 rfl (to_in (pc := 22) rw_36_22 rfl (s_v (pc := 23) rw_36_23 (dp0 hd (by decide)) (ls0 := [.ref p, .ref 1, .int (M.2.1 1 8), .int (M.2.1 1 8)]) rfl (Nat.le_of_ble_eq_true rfl) (Nat.le_of_ble_eq_true rfl) rfl (to_rc rfl rfl rfl (g_o hG (by rcases hp with rfl | rfl <;> rfl))) rfl (C_39 hX (dp1 hd (by decide)) hG hp (p := p) (f := (M.2.1 1 8)) (l := (M.2.1 1 8)) (fun r24 M30 hG26 F25 p_27 p_28 p_29 => ?_))))))))))
        have F31 := FR.c F0 F25 tg_210
        refine b_ine (pc := 26) rw_36_26 (A := r24.toInt) rfl (fun h32 => ?_) (fun h32 => ?_)
        · refine to_an (pc := 31) rw_36_31 rfl (s_v (pc := 32) rw_36_32 (dp0 hd (by decide)) (ls0 := [.ref 1]) rfl (Nat.le_of_ble_eq_true rfl) (Nat.le_of_ble_eq_true rfl) rfl (to_rc rfl rfl rfl (g_o hG26 rfl)) rfl (C_83 hX (dp1 hd (by decide)) hG26  (fun M35 hG34 F33 => ?_)))
          have F36 := FR.c F31 F33 tg_210
          refine to_an (pc := 35) rw_36_35 rfl (tt_gI (pc := 36) rw_36_36 (g_o hG34 rfl) (v := (M35.2.1 1 8)) rfl (to_is (pc := 39) rw_36_39 (ls2 := [.ref p, .ref 1, .int w, .int (M.2.1 1 8), .int (M35.2.1 1 8), .null]) rfl rfl (to_an (pc := 41) rw_36_41 rfl ?_)))
          have c_37 : M35.2.1 p 0 = (M.2.1 p 0) := (F_n F33 (show ¬ (p = 1 ∧ 5 ≤ 0 ∨ 3 ≤ p ∧ p ≤ 5) by omega) (F_n F25 (show ¬ (p = 1 ∧ 5 ≤ 0 ∨ 3 ≤ p ∧ p ≤ 5) by omega) rfl))
          refine tt_gI (pc := 42) rw_36_42 (g_o hG34 (by rcases hp with rfl | rfl <;> rfl)) (v := (M.2.1 p 0)) c_37 (to_c (pc := 45) rw_36_45 (x := (1 : Int32)) rfl rfl (s_sub (pc := 46) rw_36_46 (A := (M.2.1 p 0).toInt) (B := 1) rfl rfl (by omega) (fun v38 e39 => to_in (pc := 47) rw_36_47 rfl (to_c (pc := 48) rw_36_48 (x := (24 : Int32)) rfl rfl (s_add (pc := 50) rw_36_50 (A := (M.2.1 1 8).toInt) (B := 24) rfl rfl (by omega) (fun v40 e41 => to_c (pc := 51) rw_36_51 (x := (1 : Int32)) rfl rfl (s_sub (pc := 52) rw_36_52 (A := v40.toInt) (B := 1) rfl rfl (by omega) (fun v42 e43 => s_min (pc := 53) rw_36_53 rfl (A := v38.toInt) (B := v42.toInt) rfl rfl (fun v44 _ _ _ => to_is (pc := 56) rw_36_56 (ls2 := [.ref p, .ref 1, .int w, .int (M.2.1 1 8), .int (M35.2.1 1 8), .int v44]) rfl rfl (to_an (pc := 58) rw_36_58 rfl (to_in (pc := 59) rw_36_59 rfl ?_)))))))))))
          refine to_in (pc := 60) rw_36_60 rfl (s_add (pc := 61) rw_36_61 (A := (M.2.1 1 8).toInt) (B := w.toInt) rfl rfl (by omega) (fun v45 e46 => to_c (pc := 62) rw_36_62 (x := (1 : Int32)) rfl rfl (s_sub (pc := 63) rw_36_63 (A := v45.toInt) (B := 1) rfl rfl (by omega) (fun v47 e48 => to_i (pc := 64) rw_36_64 rfl (s_v (pc := 66) rw_36_66 (dp0 hd (by decide)) (ls0 := [.ref 1, .int v47, .int v44]) rfl (Nat.le_of_ble_eq_true rfl) (Nat.le_of_ble_eq_true rfl) rfl (to_rc rfl rfl rfl (g_o hG34 rfl)) rfl (to_an (pc := 0) rw_88_0 rfl (tt_gI (pc := 1) rw_88_1 (g_o hG34 rfl) (v := (M35.2.1 1 7)) rfl (to_c (pc := 4) rw_88_4 (x := (2 : Int32)) rfl rfl (b_ceq (pc := 5) rw_88_5 (A := (M35.2.1 1 7).toInt) (B := 2) rfl rfl (fun h49 => ?_) (fun h49 => ?_))))))))))
          · refine to_an (pc := 14) rw_88_14 rfl (tt_gI (pc := 15) rw_88_15 (g_o hG34 rfl) (v := (M35.2.1 1 8)) rfl (to_in (pc := 18) rw_88_18 rfl (b_clt (pc := 19) rw_88_19 (A := (M35.2.1 1 8).toInt) (B := v47.toInt) rfl rfl (fun h50 => ?_) (fun h50 => ?_))))
            · refine to_an (pc := 30) rw_88_30 rfl (to_c (pc := 31) rw_88_31 (x := (2 : Int32)) rfl rfl (s_v (pc := 32) rw_88_32 (dp1 hd (by decide)) (ls0 := [.ref 1, .int (2 : Int32)]) rfl (Nat.le_of_ble_eq_true rfl) (Nat.le_of_ble_eq_true rfl) rfl (to_rc rfl rfl rfl (g_o hG34 rfl)) rfl (to_an (pc := 0) rw_84_0 rfl (to_in (pc := 1) rw_84_1 rfl (s_pI (pc := 2) rw_84_2 hG34 rfl (fun M52 W51 => ?_))))))
              have hG53 := g_wf hG34 W51 rfl rfl (by decide)
              have F54 := FR.w F36 W51 (show 1 = 1 ∧ 5 ≤ 10 ∨ 3 ≤ 1 ∧ 1 ≤ 5 ∨ 50 ≤ 1 ∧ 1 ≤ 57 ∨ 59 ≤ 1 ∧ 1 ≤ 66 by decide)
              refine to_an (pc := 5) rw_84_5 rfl (to_an (pc := 6) rw_84_6 rfl ?_)
              have c_55 : M52.2.1 1 9 = (M35.2.1 1 9) := (W_n W51 (by decide) rfl)
              refine tt_gI (pc := 7) rw_84_7 (g_o hG53 rfl) (v := (M35.2.1 1 9)) c_55 (s_pI (pc := 10) rw_84_10 hG53 rfl (fun M57 W56 => ?_))
              have hG58 := g_wf hG53 W56 rfl rfl (by decide)
              have F59 := FR.w F54 W56 (show 1 = 1 ∧ 5 ≤ 11 ∨ 3 ≤ 1 ∧ 1 ≤ 5 ∨ 50 ≤ 1 ∧ 1 ≤ 57 ∨ 59 ≤ 1 ∧ 1 ≤ 66 by decide)
              refine to_c (pc := 13) rw_84_13 (x := (0 : Int32)) rfl rfl (s_r1 (pc := 14) rw_84_14 (A := 0) rfl (by decide) (b_ieq_t (pc := 35) rw_88_35 (A := 0) rfl (by decide) (to_c (pc := 42) rw_88_42 (x := (0 : Int32)) rfl rfl (s_r1 (pc := 43) rw_88_43 (A := 0) rfl (by decide) (b_ieq_t (pc := 69) rw_36_69 (A := 0) rfl (by decide) (to_c (pc := 83) rw_36_83 (x := (0 : Int32)) rfl rfl (s_r1 (pc := 84) rw_36_84 (A := 0) rfl (by decide) ?_)))))))
              have k_60 : (0 : Int32).toInt = 0 := rfl
              have j_61 := (PI_f (fun a i z => W_n W56 (by /-r1,11-/ omega) rfl) (PI_f (fun a i z => W_n W51 (by /-r1,10-/ omega) rfl) (PI_f (tg_208 F33) (PI_f (tg_208 F25) q4))))
              have c_62 : M57.2.1 1 10 = (2 : Int32) := (W_n W56 (by decide) (W_e W51))
              have k_63 : (2 : Int32).toInt = 2 := rfl
              have t_64 : (M57.2.1 1 10).toInt = (2 : Int32).toInt := congrArg Int32.toInt c_62
              have c_65 : M57.2.1 1 11 = (M35.2.1 1 9) := (W_e W56)
              have t_66 : (M57.2.1 1 11).toInt = (M35.2.1 1 9).toInt := congrArg Int32.toInt c_65
              exact h (0 : Int32) M57 hG58 F59 (by decide) (by decide) j_61 (by omega)
            · refine to_an (pc := 22) rw_88_22 rfl (tt_gI (pc := 23) rw_88_23 (g_o hG34 rfl) (v := (M35.2.1 1 8)) rfl (to_in (pc := 26) rw_88_26 rfl (b_cle (pc := 27) rw_88_27 (A := (M35.2.1 1 8).toInt) (B := v44.toInt) rfl rfl (fun h67 => ?_) (fun h67 => ?_))))
              · refine to_c (pc := 38) rw_88_38 (x := (1 : Int32)) rfl rfl (to_go (pc := 39) rw_88_39 (s_r1 (pc := 43) rw_88_43 (A := 1) rfl (by decide) (b_ieq_f (pc := 69) rw_36_69 (A := 1) rfl (by decide) (to_an (pc := 72) rw_36_72 rfl (to_an (pc := 73) rw_36_73 rfl (to_in (pc := 74) rw_36_74 rfl (to_i (pc := 75) rw_36_75 rfl (s_v (pc := 77) rw_36_77 (dp0 hd (by decide)) (ls0 := [.ref p, .ref 1, .int (M.2.1 1 8), .int (M35.2.1 1 8)]) rfl (Nat.le_of_ble_eq_true rfl) (Nat.le_of_ble_eq_true rfl) rfl (to_rc rfl rfl rfl (g_o hG34 (by rcases hp with rfl | rfl <;> rfl))) rfl (C_39 hX (dp1 hd (by decide)) hG34 hp (p := p) (f := (M.2.1 1 8)) (l := (M35.2.1 1 8)) (fun r68 M74 hG70 F69 p_71 p_72 p_73 => ?_))))))))))
                have F75 := FR.c F36 F69 tg_210
                refine b_ine (pc := 80) rw_36_80 (A := r68.toInt) rfl (fun h76 => ?_) (fun h76 => ?_)
                · refine to_an (pc := 85) rw_36_85 rfl (s_v (pc := 86) rw_36_86 (dp0 hd (by decide)) (ls0 := [.ref 1]) rfl (Nat.le_of_ble_eq_true rfl) (Nat.le_of_ble_eq_true rfl) rfl (to_rc rfl rfl rfl (g_o hG70 rfl)) rfl (C_83 hX (dp1 hd (by decide)) hG70  (fun M79 hG78 F77 => ?_)))
                  have F80 := FR.c F75 F77 tg_210
                  refine to_an (pc := 89) rw_36_89 rfl (to_in (pc := 90) rw_36_90 rfl (to_i (pc := 91) rw_36_91 rfl (to_i (pc := 93) rw_36_93 rfl (to_in (pc := 95) rw_36_95 rfl (s_sub (pc := 96) rw_36_96 (A := (M35.2.1 1 8).toInt) (B := (M.2.1 1 8).toInt) rfl rfl (by omega) (fun v81 e82 => to_c (pc := 97) rw_36_97 (x := (1 : Int32)) rfl rfl (s_add (pc := 98) rw_36_98 (A := v81.toInt) (B := 1) rfl rfl (by omega) (fun v83 e84 => s_v (pc := 99) rw_36_99 (dp0 hd (by decide)) (ls0 := [.ref p, .int (M.2.1 1 8), .int (M35.2.1 1 8), .int v83]) rfl (Nat.le_of_ble_eq_true rfl) (Nat.le_of_ble_eq_true rfl) rfl (to_rc rfl rfl rfl (g_o hG78 (by rcases hp with rfl | rfl <;> rfl))) rfl ?_))))))))
                  have c_85 : M79.2.1 p 2 = (M.2.1 p 2) := (F_n F77 (show ¬ (p = 1 ∧ 5 ≤ 2 ∨ 3 ≤ p ∧ p ≤ 5) by omega) (F_n F69 (show ¬ (p = 1 ∧ 5 ≤ 2 ∨ 3 ≤ p ∧ p ≤ 5) by omega) (F_n F33 (show ¬ (p = 1 ∧ 5 ≤ 2 ∨ 3 ≤ p ∧ p ≤ 5) by omega) (F_n F25 (show ¬ (p = 1 ∧ 5 ≤ 2 ∨ 3 ≤ p ∧ p ≤ 5) by omega) rfl))))
                  have t_86 : (M79.2.1 p 2).toInt = (M.2.1 p 2).toInt := congrArg Int32.toInt c_85
                  have j_87 := (PI_f (tg_208 F77) (PI_f (tg_208 F69) (PI_f (tg_208 F33) (PI_f (tg_208 F25) q4))))
                  refine C_40 hX (dp1 hd (by decide)) hG78 hp (by omega) (by omega) (by omega) (by omega) (by omega) (by omega) (by omega) (by omega) j_87 (p := p) (f := (M.2.1 1 8)) (l := (M35.2.1 1 8)) (c := v83) (fun M91 hG89 F88 p_90 => ?_)
                  have F92 := FR.c F80 F88 tg_211
                  refine to_c (pc := 102) rw_36_102 (x := (1 : Int32)) rfl rfl (s_r1 (pc := 103) rw_36_103 (A := 1) rfl (by decide) ?_)
                  have k_93 : (1 : Int32).toInt = 1 := rfl
                  exact h (1 : Int32) M91 hG89 F92 (by decide) (by decide) p_90 (by omega)
                · refine to_c (pc := 83) rw_36_83 (x := (0 : Int32)) rfl rfl (s_r1 (pc := 84) rw_36_84 (A := 0) rfl (by decide) ?_)
                  have k_94 : (0 : Int32).toInt = 0 := rfl
                  have j_95 := (PI_f (tg_208 F69) (PI_f (tg_208 F33) (PI_f (tg_208 F25) q4)))
                  exact h (0 : Int32) M74 hG70 F75 (by decide) (by decide) j_95 (by omega)
              · refine to_an (pc := 30) rw_88_30 rfl (to_c (pc := 31) rw_88_31 (x := (2 : Int32)) rfl rfl (s_v (pc := 32) rw_88_32 (dp1 hd (by decide)) (ls0 := [.ref 1, .int (2 : Int32)]) rfl (Nat.le_of_ble_eq_true rfl) (Nat.le_of_ble_eq_true rfl) rfl (to_rc rfl rfl rfl (g_o hG34 rfl)) rfl (to_an (pc := 0) rw_84_0 rfl (to_in (pc := 1) rw_84_1 rfl (s_pI (pc := 2) rw_84_2 hG34 rfl (fun M97 W96 => ?_))))))
                have hG98 := g_wf hG34 W96 rfl rfl (by decide)
                have F99 := FR.w F36 W96 (show 1 = 1 ∧ 5 ≤ 10 ∨ 3 ≤ 1 ∧ 1 ≤ 5 ∨ 50 ≤ 1 ∧ 1 ≤ 57 ∨ 59 ≤ 1 ∧ 1 ≤ 66 by decide)
                refine to_an (pc := 5) rw_84_5 rfl (to_an (pc := 6) rw_84_6 rfl ?_)
                have c_100 : M97.2.1 1 9 = (M35.2.1 1 9) := (W_n W96 (by decide) rfl)
                refine tt_gI (pc := 7) rw_84_7 (g_o hG98 rfl) (v := (M35.2.1 1 9)) c_100 (s_pI (pc := 10) rw_84_10 hG98 rfl (fun M102 W101 => ?_))
                have hG103 := g_wf hG98 W101 rfl rfl (by decide)
                have F104 := FR.w F99 W101 (show 1 = 1 ∧ 5 ≤ 11 ∨ 3 ≤ 1 ∧ 1 ≤ 5 ∨ 50 ≤ 1 ∧ 1 ≤ 57 ∨ 59 ≤ 1 ∧ 1 ≤ 66 by decide)
                refine to_c (pc := 13) rw_84_13 (x := (0 : Int32)) rfl rfl (s_r1 (pc := 14) rw_84_14 (A := 0) rfl (by decide) (b_ieq_t (pc := 35) rw_88_35 (A := 0) rfl (by decide) (to_c (pc := 42) rw_88_42 (x := (0 : Int32)) rfl rfl (s_r1 (pc := 43) rw_88_43 (A := 0) rfl (by decide) (b_ieq_t (pc := 69) rw_36_69 (A := 0) rfl (by decide) (to_c (pc := 83) rw_36_83 (x := (0 : Int32)) rfl rfl (s_r1 (pc := 84) rw_36_84 (A := 0) rfl (by decide) ?_)))))))
                have k_105 : (0 : Int32).toInt = 0 := rfl
                have j_106 := (PI_f (fun a i z => W_n W101 (by /-r1,11-/ omega) rfl) (PI_f (fun a i z => W_n W96 (by /-r1,10-/ omega) rfl) (PI_f (tg_208 F33) (PI_f (tg_208 F25) q4))))
                have c_107 : M102.2.1 1 10 = (2 : Int32) := (W_n W101 (by decide) (W_e W96))
                have k_108 : (2 : Int32).toInt = 2 := rfl
                have t_109 : (M102.2.1 1 10).toInt = (2 : Int32).toInt := congrArg Int32.toInt c_107
                have c_110 : M102.2.1 1 11 = (M35.2.1 1 9) := (W_e W101)
                have t_111 : (M102.2.1 1 11).toInt = (M35.2.1 1 9).toInt := congrArg Int32.toInt c_110
                exact h (0 : Int32) M102 hG103 F104 (by decide) (by decide) j_106 (by omega)
          · refine to_an (pc := 8) rw_88_8 rfl (to_c (pc := 9) rw_88_9 (x := (1 : Int32)) rfl rfl (s_v (pc := 10) rw_88_10 (dp1 hd (by decide)) (ls0 := [.ref 1, .int (1 : Int32)]) rfl (Nat.le_of_ble_eq_true rfl) (Nat.le_of_ble_eq_true rfl) rfl (to_rc rfl rfl rfl (g_o hG34 rfl)) rfl (to_an (pc := 0) rw_84_0 rfl (to_in (pc := 1) rw_84_1 rfl (s_pI (pc := 2) rw_84_2 hG34 rfl (fun M113 W112 => ?_))))))
            have hG114 := g_wf hG34 W112 rfl rfl (by decide)
            have F115 := FR.w F36 W112 (show 1 = 1 ∧ 5 ≤ 10 ∨ 3 ≤ 1 ∧ 1 ≤ 5 ∨ 50 ≤ 1 ∧ 1 ≤ 57 ∨ 59 ≤ 1 ∧ 1 ≤ 66 by decide)
            refine to_an (pc := 5) rw_84_5 rfl (to_an (pc := 6) rw_84_6 rfl ?_)
            have c_116 : M113.2.1 1 9 = (M35.2.1 1 9) := (W_n W112 (by decide) rfl)
            refine tt_gI (pc := 7) rw_84_7 (g_o hG114 rfl) (v := (M35.2.1 1 9)) c_116 (s_pI (pc := 10) rw_84_10 hG114 rfl (fun M118 W117 => ?_))
            have hG119 := g_wf hG114 W117 rfl rfl (by decide)
            have F120 := FR.w F115 W117 (show 1 = 1 ∧ 5 ≤ 11 ∨ 3 ≤ 1 ∧ 1 ≤ 5 ∨ 50 ≤ 1 ∧ 1 ≤ 57 ∨ 59 ≤ 1 ∧ 1 ≤ 66 by decide)
            refine to_c (pc := 13) rw_84_13 (x := (0 : Int32)) rfl rfl (s_r1 (pc := 14) rw_84_14 (A := 0) rfl (by decide) (s_r1 (pc := 13) rw_88_13 (A := 0) rfl (by decide) (b_ieq_t (pc := 69) rw_36_69 (A := 0) rfl (by decide) (to_c (pc := 83) rw_36_83 (x := (0 : Int32)) rfl rfl (s_r1 (pc := 84) rw_36_84 (A := 0) rfl (by decide) ?_)))))
            have k_121 : (0 : Int32).toInt = 0 := rfl
            have j_122 := (PI_f (fun a i z => W_n W117 (by /-r1,11-/ omega) rfl) (PI_f (fun a i z => W_n W112 (by /-r1,10-/ omega) rfl) (PI_f (tg_208 F33) (PI_f (tg_208 F25) q4))))
            have c_123 : M118.2.1 1 10 = (1 : Int32) := (W_n W117 (by decide) (W_e W112))
            have k_124 : (1 : Int32).toInt = 1 := rfl
            have t_125 : (M118.2.1 1 10).toInt = (1 : Int32).toInt := congrArg Int32.toInt c_123
            have c_126 : M118.2.1 1 11 = (M35.2.1 1 9) := (W_e W117)
            have t_127 : (M118.2.1 1 11).toInt = (M35.2.1 1 9).toInt := congrArg Int32.toInt c_126
            exact h (0 : Int32) M118 hG119 F120 (by decide) (by decide) j_122 (by omega)
        · refine to_c (pc := 29) rw_36_29 (x := (0 : Int32)) rfl rfl (s_r1 (pc := 30) rw_36_30 (A := 0) rfl (by decide) ?_)
          have k_128 : (0 : Int32).toInt = 0 := rfl
          have j_129 := (PI_f (tg_208 F25) q4)
          exact h (0 : Int32) M30 hG26 F31 (by decide) (by decide) j_129 (by omega)
      · refine to_an (pc := 30) rw_88_30 rfl (to_c (pc := 31) rw_88_31 (x := (2 : Int32)) rfl rfl (s_v (pc := 32) rw_88_32 (dp1 hd (by decide)) (ls0 := [.ref 1, .int (2 : Int32)]) rfl (Nat.le_of_ble_eq_true rfl) (Nat.le_of_ble_eq_true rfl) rfl (to_rc rfl rfl rfl (g_o hG rfl)) rfl (to_an (pc := 0) rw_84_0 rfl (to_in (pc := 1) rw_84_1 rfl (s_pI (pc := 2) rw_84_2 hG rfl (fun M131 W130 => ?_))))))
        have hG132 := g_wf hG W130 rfl rfl (by decide)
        have F133 := FR.w F0 W130 (show 1 = 1 ∧ 5 ≤ 10 ∨ 3 ≤ 1 ∧ 1 ≤ 5 ∨ 50 ≤ 1 ∧ 1 ≤ 57 ∨ 59 ≤ 1 ∧ 1 ≤ 66 by decide)
        refine to_an (pc := 5) rw_84_5 rfl (to_an (pc := 6) rw_84_6 rfl ?_)
        have c_134 : M131.2.1 1 9 = (M.2.1 1 9) := (W_n W130 (by decide) rfl)
        refine tt_gI (pc := 7) rw_84_7 (g_o hG132 rfl) (v := (M.2.1 1 9)) c_134 (s_pI (pc := 10) rw_84_10 hG132 rfl (fun M136 W135 => ?_))
        have hG137 := g_wf hG132 W135 rfl rfl (by decide)
        have F138 := FR.w F133 W135 (show 1 = 1 ∧ 5 ≤ 11 ∨ 3 ≤ 1 ∧ 1 ≤ 5 ∨ 50 ≤ 1 ∧ 1 ≤ 57 ∨ 59 ≤ 1 ∧ 1 ≤ 66 by decide)
        refine to_c (pc := 13) rw_84_13 (x := (0 : Int32)) rfl rfl (s_r1 (pc := 14) rw_84_14 (A := 0) rfl (by decide) (b_ieq_t (pc := 35) rw_88_35 (A := 0) rfl (by decide) (to_c (pc := 42) rw_88_42 (x := (0 : Int32)) rfl rfl (s_r1 (pc := 43) rw_88_43 (A := 0) rfl (by decide) (b_ieq_t (pc := 16) rw_36_16 (A := 0) rfl (by decide) (to_c (pc := 29) rw_36_29 (x := (0 : Int32)) rfl rfl (s_r1 (pc := 30) rw_36_30 (A := 0) rfl (by decide) ?_)))))))
        have k_139 : (0 : Int32).toInt = 0 := rfl
        have j_140 := (PI_f (fun a i z => W_n W135 (by /-r1,11-/ omega) rfl) (PI_f (fun a i z => W_n W130 (by /-r1,10-/ omega) rfl) q4))
        have c_141 : M136.2.1 1 10 = (2 : Int32) := (W_n W135 (by decide) (W_e W130))
        have k_142 : (2 : Int32).toInt = 2 := rfl
        have t_143 : (M136.2.1 1 10).toInt = (2 : Int32).toInt := congrArg Int32.toInt c_141
        have c_144 : M136.2.1 1 11 = (M.2.1 1 9) := (W_e W135)
        have t_145 : (M136.2.1 1 11).toInt = (M.2.1 1 9).toInt := congrArg Int32.toInt c_144
        exact h (0 : Int32) M136 hG137 F138 (by decide) (by decide) j_140 (by omega)
  · refine to_an (pc := 8) rw_88_8 rfl (to_c (pc := 9) rw_88_9 (x := (1 : Int32)) rfl rfl (s_v (pc := 10) rw_88_10 (dp1 hd (by decide)) (ls0 := [.ref 1, .int (1 : Int32)]) rfl (Nat.le_of_ble_eq_true rfl) (Nat.le_of_ble_eq_true rfl) rfl (to_rc rfl rfl rfl (g_o hG rfl)) rfl (to_an (pc := 0) rw_84_0 rfl (to_in (pc := 1) rw_84_1 rfl (s_pI (pc := 2) rw_84_2 hG rfl (fun M147 W146 => ?_))))))
    have hG148 := g_wf hG W146 rfl rfl (by decide)
    have F149 := FR.w F0 W146 (show 1 = 1 ∧ 5 ≤ 10 ∨ 3 ≤ 1 ∧ 1 ≤ 5 ∨ 50 ≤ 1 ∧ 1 ≤ 57 ∨ 59 ≤ 1 ∧ 1 ≤ 66 by decide)
    refine to_an (pc := 5) rw_84_5 rfl (to_an (pc := 6) rw_84_6 rfl ?_)
    have c_150 : M147.2.1 1 9 = (M.2.1 1 9) := (W_n W146 (by decide) rfl)
    refine tt_gI (pc := 7) rw_84_7 (g_o hG148 rfl) (v := (M.2.1 1 9)) c_150 (s_pI (pc := 10) rw_84_10 hG148 rfl (fun M152 W151 => ?_))
    have hG153 := g_wf hG148 W151 rfl rfl (by decide)
    have F154 := FR.w F149 W151 (show 1 = 1 ∧ 5 ≤ 11 ∨ 3 ≤ 1 ∧ 1 ≤ 5 ∨ 50 ≤ 1 ∧ 1 ≤ 57 ∨ 59 ≤ 1 ∧ 1 ≤ 66 by decide)
    refine to_c (pc := 13) rw_84_13 (x := (0 : Int32)) rfl rfl (s_r1 (pc := 14) rw_84_14 (A := 0) rfl (by decide) (s_r1 (pc := 13) rw_88_13 (A := 0) rfl (by decide) (b_ieq_t (pc := 16) rw_36_16 (A := 0) rfl (by decide) (to_c (pc := 29) rw_36_29 (x := (0 : Int32)) rfl rfl (s_r1 (pc := 30) rw_36_30 (A := 0) rfl (by decide) ?_)))))
    have k_155 : (0 : Int32).toInt = 0 := rfl
    have j_156 := (PI_f (fun a i z => W_n W151 (by /-r1,11-/ omega) rfl) (PI_f (fun a i z => W_n W146 (by /-r1,10-/ omega) rfl) q4))
    have c_157 : M152.2.1 1 10 = (1 : Int32) := (W_n W151 (by decide) (W_e W146))
    have k_158 : (1 : Int32).toInt = 1 := rfl
    have t_159 : (M152.2.1 1 10).toInt = (1 : Int32).toInt := congrArg Int32.toInt c_157
    have c_160 : M152.2.1 1 11 = (M.2.1 1 9) := (W_e W151)
    have t_161 : (M152.2.1 1 11).toInt = (M.2.1 1 9).toInt := congrArg Int32.toInt c_160
    exact h (0 : Int32) M152 hG153 F154 (by decide) (by decide) j_156 (by omega)
set_option maxRecDepth 4000 in
set_option maxHeartbeats 0 in
theorem C_37 {X : mm_X} {d : Nat} {M : mm_M} {Q : Option Value → mm_M → Prop} {p : Nat} {w : Int32} (hX : g_X X) (hd : 2 ≤ d) (hG : g_G M) (hp : p = 49 ∨ p = 58) (q1 : 4 ≤ w.toInt) (q2 : w.toInt ≤ 5) (q3 : (M.2.1 p 2).toInt ≤ 7) (q4 : PI M) (h : ∀ (r : Int32) (M1 : mm_M), g_G M1 → FR md_pr M M1 → (0 ≤ r.toInt) → (r.toInt ≤ 1) → PI M1 → (r.toInt = 1 → (M1.2.1 1 10).toInt = (M.2.1 1 10).toInt ∧ (M1.2.1 1 11).toInt = (M.2.1 1 11).toInt) → Q (some (.int r)) M1) : mm_T X d 37 0 [.ref p, .ref 1, .int w, .null, .null] [] M Q := by
  have F0 : FR md_pr M M := FR.rf
  have b_1 := g_b hG (a := p) (i := 2) (lo := 0) (hi := 8) (by rcases hp with rfl | rfl <;> rfl) (by rcases hp with rfl | rfl <;> rfl)
  refine to_an (pc := 0) rw_37_0 rfl (tt_gI (pc := 1) rw_37_1 (g_o hG rfl) (v := (M.2.1 1 8)) rfl (to_isn (pc := 4) rw_37_4 (ls2 := [.ref p, .ref 1, .int w, .int (M.2.1 1 8), .null]) rfl rfl (to_in (pc := 5) rw_37_5 rfl (to_in (pc := 6) rw_37_6 rfl (s_addo (pc := 7) rw_37_7 (A := (M.2.1 1 8).toInt) (B := w.toInt) rfl rfl (fun v2 e3 => to_c (pc := 8) rw_37_8 (x := (1 : Int32)) rfl rfl (s_subo (pc := 9) rw_37_9 (A := v2.toInt) (B := 1) rfl rfl (fun v4 e5 => to_is (pc := 10) rw_37_10 (ls2 := [.ref p, .ref 1, .int w, .int (M.2.1 1 8), .int v4]) rfl rfl (to_an (pc := 12) rw_37_12 rfl (to_c (pc := 13) rw_37_13 (x := (0 : Int32)) rfl rfl (to_an (pc := 14) rw_37_14 rfl ?_)))))))))))
  have b_6 := g_b hG (a := p) (i := 0) (lo := 10) (hi := 60) (by rcases hp with rfl | rfl <;> rfl) (by rcases hp with rfl | rfl <;> rfl)
  refine tt_gI (pc := 15) rw_37_15 (g_o hG (by rcases hp with rfl | rfl <;> rfl)) (v := (M.2.1 p 0)) rfl (to_in (pc := 18) rw_37_18 rfl (s_sub (pc := 19) rw_37_19 (A := (M.2.1 p 0).toInt) (B := w.toInt) rfl rfl (by omega) (fun v7 e8 => s_v (pc := 20) rw_37_20 (dp0 hd (by decide)) (ls0 := [.ref 1, .int (0 : Int32), .int v7]) rfl (Nat.le_of_ble_eq_true rfl) (Nat.le_of_ble_eq_true rfl) rfl (to_rc rfl rfl rfl (g_o hG rfl)) rfl (to_an (pc := 0) rw_88_0 rfl (tt_gI (pc := 1) rw_88_1 (g_o hG rfl) (v := (M.2.1 1 7)) rfl (to_c (pc := 4) rw_88_4 (x := (2 : Int32)) rfl rfl (b_ceq (pc := 5) rw_88_5 (A := (M.2.1 1 7).toInt) (B := 2) rfl rfl (fun h9 => ?_) (fun h9 => ?_))))))))
  · refine to_an (pc := 14) rw_88_14 rfl (tt_gI (pc := 15) rw_88_15 (g_o hG rfl) (v := (M.2.1 1 8)) rfl (to_in (pc := 18) rw_88_18 rfl (b_clt (pc := 19) rw_88_19 (A := (M.2.1 1 8).toInt) (B := 0) rfl rfl (fun h10 => ?_) (fun h10 => ?_))))
    · refine to_an (pc := 30) rw_88_30 rfl (to_c (pc := 31) rw_88_31 (x := (2 : Int32)) rfl rfl (s_v (pc := 32) rw_88_32 (dp1 hd (by decide)) (ls0 := [.ref 1, .int (2 : Int32)]) rfl (Nat.le_of_ble_eq_true rfl) (Nat.le_of_ble_eq_true rfl) rfl (to_rc rfl rfl rfl (g_o hG rfl)) rfl (to_an (pc := 0) rw_84_0 rfl (to_in (pc := 1) rw_84_1 rfl (s_pI (pc := 2) rw_84_2 hG rfl (fun M12 W11 => ?_))))))
      have hG13 := g_wf hG W11 rfl rfl (by decide)
      have F14 := FR.w F0 W11 (show 1 = 1 ∧ 5 ≤ 10 ∨ 3 ≤ 1 ∧ 1 ≤ 5 ∨ 50 ≤ 1 ∧ 1 ≤ 57 ∨ 59 ≤ 1 ∧ 1 ≤ 66 by decide)
      refine to_an (pc := 5) rw_84_5 rfl (to_an (pc := 6) rw_84_6 rfl ?_)
      have c_15 : M12.2.1 1 9 = (M.2.1 1 9) := (W_n W11 (by decide) rfl)
      refine tt_gI (pc := 7) rw_84_7 (g_o hG13 rfl) (v := (M.2.1 1 9)) c_15 (s_pI (pc := 10) rw_84_10 hG13 rfl (fun M17 W16 => ?_))
      have hG18 := g_wf hG13 W16 rfl rfl (by decide)
      have F19 := FR.w F14 W16 (show 1 = 1 ∧ 5 ≤ 11 ∨ 3 ≤ 1 ∧ 1 ≤ 5 ∨ 50 ≤ 1 ∧ 1 ≤ 57 ∨ 59 ≤ 1 ∧ 1 ≤ 66 by decide)
      refine to_c (pc := 13) rw_84_13 (x := (0 : Int32)) rfl rfl (s_r1 (pc := 14) rw_84_14 (A := 0) rfl (by decide) (b_ieq_t (pc := 35) rw_88_35 (A := 0) rfl (by decide) (to_c (pc := 42) rw_88_42 (x := (0 : Int32)) rfl rfl (s_r1 (pc := 43) rw_88_43 (A := 0) rfl (by decide) (b_ieq_t (pc := 23) rw_37_23 (A := 0) rfl (by decide) (to_c (pc := 37) rw_37_37 (x := (0 : Int32)) rfl rfl (s_r1 (pc := 38) rw_37_38 (A := 0) rfl (by decide) ?_)))))))
      have k_20 : (0 : Int32).toInt = 0 := rfl
      have j_21 := (PI_f (fun a i z => W_n W16 (by /-r1,11-/ omega) rfl) (PI_f (fun a i z => W_n W11 (by /-r1,10-/ omega) rfl) q4))
      have c_22 : M17.2.1 1 10 = (2 : Int32) := (W_n W16 (by decide) (W_e W11))
      have k_23 : (2 : Int32).toInt = 2 := rfl
      have t_24 : (M17.2.1 1 10).toInt = (2 : Int32).toInt := congrArg Int32.toInt c_22
      have c_25 : M17.2.1 1 11 = (M.2.1 1 9) := (W_e W16)
      have t_26 : (M17.2.1 1 11).toInt = (M.2.1 1 9).toInt := congrArg Int32.toInt c_25
      exact h (0 : Int32) M17 hG18 F19 (by decide) (by decide) j_21 (by omega)
    · refine to_an (pc := 22) rw_88_22 rfl (tt_gI (pc := 23) rw_88_23 (g_o hG rfl) (v := (M.2.1 1 8)) rfl (to_in (pc := 26) rw_88_26 rfl (b_cle (pc := 27) rw_88_27 (A := (M.2.1 1 8).toInt) (B := v7.toInt) rfl rfl (fun h27 => ?_) (fun h27 => ?_))))
      · refine to_c (pc := 38) rw_88_38 (x := (1 : Int32)) rfl rfl (to_go (pc := 39) rw_88_39 (s_r1 (pc := 43) rw_88_43 (A := 1) rfl (by decide) (b_ieq_f (pc := 23) rw_37_23 (A := 1) rfl (by decide) (to_an (pc := 26) rw_37_26 rfl (to_an (pc := 27) rw_37_27 rfl (to_in (pc := 28) rw_37_28 rfl (to_i (pc := 29) rw_37_29 rfl (s_v (pc := 31) rw_37_31 (dp0 hd (by decide)) (ls0 := [.ref p, .ref 1, .int (M.2.1 1 8), .int v4]) rfl (Nat.le_of_ble_eq_true rfl) (Nat.le_of_ble_eq_true rfl) rfl (to_rc rfl rfl rfl (g_o hG (by rcases hp with rfl | rfl <;> rfl))) rfl (C_39 hX (dp1 hd (by decide)) hG hp (p := p) (f := (M.2.1 1 8)) (l := v4) (fun r28 M34 hG30 F29 p_31 p_32 p_33 => ?_))))))))))
        have F35 := FR.c F0 F29 tg_210
        refine b_ine (pc := 34) rw_37_34 (A := r28.toInt) rfl (fun h36 => ?_) (fun h36 => ?_)
        · refine to_an (pc := 39) rw_37_39 rfl (s_v (pc := 40) rw_37_40 (dp0 hd (by decide)) (ls0 := [.ref 1]) rfl (Nat.le_of_ble_eq_true rfl) (Nat.le_of_ble_eq_true rfl) rfl (to_rc rfl rfl rfl (g_o hG30 rfl)) rfl (C_83 hX (dp1 hd (by decide)) hG30  (fun M39 hG38 F37 => ?_)))
          have F40 := FR.c F35 F37 tg_210
          refine to_an (pc := 43) rw_37_43 rfl (to_in (pc := 44) rw_37_44 rfl (to_i (pc := 45) rw_37_45 rfl (to_c (pc := 47) rw_37_47 (x := (10 : Int32)) rfl rfl (s_v (pc := 49) rw_37_49 (dp0 hd (by decide)) (ls0 := [.ref p, .int (M.2.1 1 8), .int v4, .int (10 : Int32)]) rfl (Nat.le_of_ble_eq_true rfl) (Nat.le_of_ble_eq_true rfl) rfl (to_rc rfl rfl rfl (g_o hG38 (by rcases hp with rfl | rfl <;> rfl))) rfl ?_))))
          have k_41 : (10 : Int32).toInt = 10 := rfl
          have c_42 : M39.2.1 p 2 = (M.2.1 p 2) := (F_n F37 (show ¬ (p = 1 ∧ 5 ≤ 2 ∨ 3 ≤ p ∧ p ≤ 5) by omega) (F_n F29 (show ¬ (p = 1 ∧ 5 ≤ 2 ∨ 3 ≤ p ∧ p ≤ 5) by omega) rfl))
          have t_43 : (M39.2.1 p 2).toInt = (M.2.1 p 2).toInt := congrArg Int32.toInt c_42
          have j_44 := (PI_f (tg_208 F37) (PI_f (tg_208 F29) q4))
          refine C_40 hX (dp1 hd (by decide)) hG38 hp (by omega) (by omega) (by omega) (by omega) (by omega) (by omega) (by omega) (by omega) j_44 (p := p) (f := (M.2.1 1 8)) (l := v4) (c := (10 : Int32)) (fun M48 hG46 F45 p_47 => ?_)
          have F49 := FR.c F40 F45 tg_211
          refine to_c (pc := 52) rw_37_52 (x := (1 : Int32)) rfl rfl (s_r1 (pc := 53) rw_37_53 (A := 1) rfl (by decide) ?_)
          have k_50 : (1 : Int32).toInt = 1 := rfl
          exact h (1 : Int32) M48 hG46 F49 (by decide) (by decide) p_47 (by omega)
        · refine to_c (pc := 37) rw_37_37 (x := (0 : Int32)) rfl rfl (s_r1 (pc := 38) rw_37_38 (A := 0) rfl (by decide) ?_)
          have k_51 : (0 : Int32).toInt = 0 := rfl
          have j_52 := (PI_f (tg_208 F29) q4)
          exact h (0 : Int32) M34 hG30 F35 (by decide) (by decide) j_52 (by omega)
      · refine to_an (pc := 30) rw_88_30 rfl (to_c (pc := 31) rw_88_31 (x := (2 : Int32)) rfl rfl (s_v (pc := 32) rw_88_32 (dp1 hd (by decide)) (ls0 := [.ref 1, .int (2 : Int32)]) rfl (Nat.le_of_ble_eq_true rfl) (Nat.le_of_ble_eq_true rfl) rfl (to_rc rfl rfl rfl (g_o hG rfl)) rfl (to_an (pc := 0) rw_84_0 rfl (to_in (pc := 1) rw_84_1 rfl (s_pI (pc := 2) rw_84_2 hG rfl (fun M54 W53 => ?_))))))
        have hG55 := g_wf hG W53 rfl rfl (by decide)
        have F56 := FR.w F0 W53 (show 1 = 1 ∧ 5 ≤ 10 ∨ 3 ≤ 1 ∧ 1 ≤ 5 ∨ 50 ≤ 1 ∧ 1 ≤ 57 ∨ 59 ≤ 1 ∧ 1 ≤ 66 by decide)
        refine to_an (pc := 5) rw_84_5 rfl (to_an (pc := 6) rw_84_6 rfl ?_)
        have c_57 : M54.2.1 1 9 = (M.2.1 1 9) := (W_n W53 (by decide) rfl)
        refine tt_gI (pc := 7) rw_84_7 (g_o hG55 rfl) (v := (M.2.1 1 9)) c_57 (s_pI (pc := 10) rw_84_10 hG55 rfl (fun M59 W58 => ?_))
        have hG60 := g_wf hG55 W58 rfl rfl (by decide)
        have F61 := FR.w F56 W58 (show 1 = 1 ∧ 5 ≤ 11 ∨ 3 ≤ 1 ∧ 1 ≤ 5 ∨ 50 ≤ 1 ∧ 1 ≤ 57 ∨ 59 ≤ 1 ∧ 1 ≤ 66 by decide)
        refine to_c (pc := 13) rw_84_13 (x := (0 : Int32)) rfl rfl (s_r1 (pc := 14) rw_84_14 (A := 0) rfl (by decide) (b_ieq_t (pc := 35) rw_88_35 (A := 0) rfl (by decide) (to_c (pc := 42) rw_88_42 (x := (0 : Int32)) rfl rfl (s_r1 (pc := 43) rw_88_43 (A := 0) rfl (by decide) (b_ieq_t (pc := 23) rw_37_23 (A := 0) rfl (by decide) (to_c (pc := 37) rw_37_37 (x := (0 : Int32)) rfl rfl (s_r1 (pc := 38) rw_37_38 (A := 0) rfl (by decide) ?_)))))))
        have k_62 : (0 : Int32).toInt = 0 := rfl
        have j_63 := (PI_f (fun a i z => W_n W58 (by /-r1,11-/ omega) rfl) (PI_f (fun a i z => W_n W53 (by /-r1,10-/ omega) rfl) q4))
        have c_64 : M59.2.1 1 10 = (2 : Int32) := (W_n W58 (by decide) (W_e W53))
        have k_65 : (2 : Int32).toInt = 2 := rfl
        have t_66 : (M59.2.1 1 10).toInt = (2 : Int32).toInt := congrArg Int32.toInt c_64
        have c_67 : M59.2.1 1 11 = (M.2.1 1 9) := (W_e W58)
        have t_68 : (M59.2.1 1 11).toInt = (M.2.1 1 9).toInt := congrArg Int32.toInt c_67
        exact h (0 : Int32) M59 hG60 F61 (by decide) (by decide) j_63 (by omega)
  · refine to_an (pc := 8) rw_88_8 rfl (to_c (pc := 9) rw_88_9 (x := (1 : Int32)) rfl rfl (s_v (pc := 10) rw_88_10 (dp1 hd (by decide)) (ls0 := [.ref 1, .int (1 : Int32)]) rfl (Nat.le_of_ble_eq_true rfl) (Nat.le_of_ble_eq_true rfl) rfl (to_rc rfl rfl rfl (g_o hG rfl)) rfl (to_an (pc := 0) rw_84_0 rfl (to_in (pc := 1) rw_84_1 rfl (s_pI (pc := 2) rw_84_2 hG rfl (fun M70 W69 => ?_))))))
    have hG71 := g_wf hG W69 rfl rfl (by decide)
    have F72 := FR.w F0 W69 (show 1 = 1 ∧ 5 ≤ 10 ∨ 3 ≤ 1 ∧ 1 ≤ 5 ∨ 50 ≤ 1 ∧ 1 ≤ 57 ∨ 59 ≤ 1 ∧ 1 ≤ 66 by decide)
    refine to_an (pc := 5) rw_84_5 rfl (to_an (pc := 6) rw_84_6 rfl ?_)
    have c_73 : M70.2.1 1 9 = (M.2.1 1 9) := (W_n W69 (by decide) rfl)
    refine tt_gI (pc := 7) rw_84_7 (g_o hG71 rfl) (v := (M.2.1 1 9)) c_73 (s_pI (pc := 10) rw_84_10 hG71 rfl (fun M75 W74 => ?_))
    have hG76 := g_wf hG71 W74 rfl rfl (by decide)
    have F77 := FR.w F72 W74 (show 1 = 1 ∧ 5 ≤ 11 ∨ 3 ≤ 1 ∧ 1 ≤ 5 ∨ 50 ≤ 1 ∧ 1 ≤ 57 ∨ 59 ≤ 1 ∧ 1 ≤ 66 by decide)
    refine to_c (pc := 13) rw_84_13 (x := (0 : Int32)) rfl rfl (s_r1 (pc := 14) rw_84_14 (A := 0) rfl (by decide) (s_r1 (pc := 13) rw_88_13 (A := 0) rfl (by decide) (b_ieq_t (pc := 23) rw_37_23 (A := 0) rfl (by decide) (to_c (pc := 37) rw_37_37 (x := (0 : Int32)) rfl rfl (s_r1 (pc := 38) rw_37_38 (A := 0) rfl (by decide) ?_)))))
    have k_78 : (0 : Int32).toInt = 0 := rfl
    have j_79 := (PI_f (fun a i z => W_n W74 (by /-r1,11-/ omega) rfl) (PI_f (fun a i z => W_n W69 (by /-r1,10-/ omega) rfl) q4))
    have c_80 : M75.2.1 1 10 = (1 : Int32) := (W_n W74 (by decide) (W_e W69))
    have k_81 : (1 : Int32).toInt = 1 := rfl
    have t_82 : (M75.2.1 1 10).toInt = (1 : Int32).toInt := congrArg Int32.toInt c_80
    have c_83 : M75.2.1 1 11 = (M.2.1 1 9) := (W_e W74)
    have t_84 : (M75.2.1 1 11).toInt = (M.2.1 1 9).toInt := congrArg Int32.toInt c_83
    exact h (0 : Int32) M75 hG76 F77 (by decide) (by decide) j_79 (by omega)
set_option maxRecDepth 4000 in
set_option maxHeartbeats 0 in
theorem C_38 {X : mm_X} {d : Nat} {M : mm_M} {Q : Option Value → mm_M → Prop} {p : Nat} (hX : g_X X) (hd : 2 ≤ d) (hG : g_G M) (hp : p = 49 ∨ p = 58) (q1 : (M.2.1 p 2).toInt ≤ 7) (q2 : PI M) (h : ∀ (r : Int32) (M1 : mm_M), g_G M1 → FR md_pr M M1 → (0 ≤ r.toInt) → (r.toInt ≤ 1) → PI M1 → (r.toInt = 1 → (M1.2.1 1 10).toInt = (M.2.1 1 10).toInt ∧ (M1.2.1 1 11).toInt = (M.2.1 1 11).toInt) → Q (some (.int r)) M1) : mm_T X d 38 0 [.ref p, .ref 1] [] M Q := by
  have F0 : FR md_pr M M := FR.rf
  have b_1 := g_b hG (a := p) (i := 2) (lo := 0) (hi := 8) (by rcases hp with rfl | rfl <;> rfl) (by rcases hp with rfl | rfl <;> rfl)
  refine to_an (pc := 0) rw_38_0 rfl (to_c (pc := 1) rw_38_1 (x := (1 : Int32)) rfl rfl (to_c (pc := 2) rw_38_2 (x := (4 : Int32)) rfl rfl (to_an (pc := 3) rw_38_3 rfl (to_an (pc := 4) rw_38_4 rfl (tt_gI (pc := 5) rw_38_5 (g_o hG (by rcases hp with rfl | rfl <;> rfl)) (v := (M.2.1 p 2)) rfl (s_v (pc := 8) rw_38_8 (dp0 hd (by decide)) (ls0 := [.ref p, .int (M.2.1 p 2)]) rfl (Nat.le_of_ble_eq_true rfl) (Nat.le_of_ble_eq_true rfl) rfl (to_rc rfl rfl rfl (g_o hG (by rcases hp with rfl | rfl <;> rfl))) rfl (to_an (pc := 0) rw_47_0 rfl (s_gR (pc := 1) rw_47_1 hG (by rcases hp with rfl | rfl <;> rfl) (v := (p + 4)) (by rcases hp with rfl | rfl <;> rfl) (to_in (pc := 4) rw_47_4 rfl (s_ial (pc := 5) rw_47_5 hG (by rcases hp with rfl | rfl <;> rfl) (n := 8) (by rcases hp with rfl | rfl <;> rfl) (by rcases hp with rfl | rfl <;> rfl) (A := (M.2.1 p 2).toInt) rfl (by omega) (by omega) (lo := 0) (hi := 63) (by rcases hp with rfl | rfl <;> rfl) (by rcases hp with rfl | rfl <;> rfl) (fun v2 w_3 _ _ => to_an (pc := 6) rw_47_6 rfl ?_)))))))))))
  refine s_gR (pc := 7) rw_47_7 hG (by rcases hp with rfl | rfl <;> rfl) (v := (p + 3)) (by rcases hp with rfl | rfl <;> rfl) (to_in (pc := 10) rw_47_10 rfl (s_ial (pc := 11) rw_47_11 hG (by rcases hp with rfl | rfl <;> rfl) (n := 8) (by rcases hp with rfl | rfl <;> rfl) (by rcases hp with rfl | rfl <;> rfl) (A := (M.2.1 p 2).toInt) rfl (by omega) (by omega) (lo := 0) (hi := 59) (by rcases hp with rfl | rfl <;> rfl) (by rcases hp with rfl | rfl <;> rfl) (fun v4 w_5 _ _ => s_sub (pc := 12) rw_47_12 (A := v2.toInt) (B := v4.toInt) rfl rfl (by omega) (fun v6 e7 => to_c (pc := 13) rw_47_13 (x := (1 : Int32)) rfl rfl (s_add (pc := 14) rw_47_14 (A := v6.toInt) (B := 1) rfl rfl (by omega) (fun v8 e9 => to_r0 (pc := 15) rw_47_15 (s_min (pc := 11) rw_38_11 rfl (A := 4) (B := v8.toInt) rfl rfl (fun v10 _ _ _ => s_v (pc := 14) rw_38_14 (dp0 hd (by decide)) (ls0 := [.ref 1, .int (1 : Int32), .int v10]) rfl (Nat.le_of_ble_eq_true rfl) (Nat.le_of_ble_eq_true rfl) rfl (to_rc rfl rfl rfl (g_o hG rfl)) rfl (to_an (pc := 0) rw_88_0 rfl (tt_gI (pc := 1) rw_88_1 (g_o hG rfl) (v := (M.2.1 1 7)) rfl (to_c (pc := 4) rw_88_4 (x := (2 : Int32)) rfl rfl ?_)))))))))))
  refine b_ceq (pc := 5) rw_88_5 (A := (M.2.1 1 7).toInt) (B := 2) rfl rfl (fun h11 => ?_) (fun h11 => ?_)
  · refine to_an (pc := 14) rw_88_14 rfl (tt_gI (pc := 15) rw_88_15 (g_o hG rfl) (v := (M.2.1 1 8)) rfl (to_in (pc := 18) rw_88_18 rfl (b_clt (pc := 19) rw_88_19 (A := (M.2.1 1 8).toInt) (B := 1) rfl rfl (fun h12 => ?_) (fun h12 => ?_))))
    · refine to_an (pc := 30) rw_88_30 rfl (to_c (pc := 31) rw_88_31 (x := (2 : Int32)) rfl rfl (s_v (pc := 32) rw_88_32 (dp1 hd (by decide)) (ls0 := [.ref 1, .int (2 : Int32)]) rfl (Nat.le_of_ble_eq_true rfl) (Nat.le_of_ble_eq_true rfl) rfl (to_rc rfl rfl rfl (g_o hG rfl)) rfl (to_an (pc := 0) rw_84_0 rfl (to_in (pc := 1) rw_84_1 rfl (s_pI (pc := 2) rw_84_2 hG rfl (fun M14 W13 => ?_))))))
      have hG15 := g_wf hG W13 rfl rfl (by decide)
      have F16 := FR.w F0 W13 (show 1 = 1 ∧ 5 ≤ 10 ∨ 3 ≤ 1 ∧ 1 ≤ 5 ∨ 50 ≤ 1 ∧ 1 ≤ 57 ∨ 59 ≤ 1 ∧ 1 ≤ 66 by decide)
      refine to_an (pc := 5) rw_84_5 rfl (to_an (pc := 6) rw_84_6 rfl ?_)
      have c_17 : M14.2.1 1 9 = (M.2.1 1 9) := (W_n W13 (by decide) rfl)
      refine tt_gI (pc := 7) rw_84_7 (g_o hG15 rfl) (v := (M.2.1 1 9)) c_17 (s_pI (pc := 10) rw_84_10 hG15 rfl (fun M19 W18 => ?_))
      have hG20 := g_wf hG15 W18 rfl rfl (by decide)
      have F21 := FR.w F16 W18 (show 1 = 1 ∧ 5 ≤ 11 ∨ 3 ≤ 1 ∧ 1 ≤ 5 ∨ 50 ≤ 1 ∧ 1 ≤ 57 ∨ 59 ≤ 1 ∧ 1 ≤ 66 by decide)
      refine to_c (pc := 13) rw_84_13 (x := (0 : Int32)) rfl rfl (s_r1 (pc := 14) rw_84_14 (A := 0) rfl (by decide) (b_ieq_t (pc := 35) rw_88_35 (A := 0) rfl (by decide) (to_c (pc := 42) rw_88_42 (x := (0 : Int32)) rfl rfl (s_r1 (pc := 43) rw_88_43 (A := 0) rfl (by decide) (b_ine_f (pc := 17) rw_38_17 (A := 0) rfl (by decide) (to_c (pc := 20) rw_38_20 (x := (0 : Int32)) rfl rfl (s_r1 (pc := 21) rw_38_21 (A := 0) rfl (by decide) ?_)))))))
      have k_22 : (0 : Int32).toInt = 0 := rfl
      have j_23 := (PI_f (fun a i z => W_n W18 (by /-r1,11-/ omega) rfl) (PI_f (fun a i z => W_n W13 (by /-r1,10-/ omega) rfl) q2))
      have c_24 : M19.2.1 1 10 = (2 : Int32) := (W_n W18 (by decide) (W_e W13))
      have k_25 : (2 : Int32).toInt = 2 := rfl
      have t_26 : (M19.2.1 1 10).toInt = (2 : Int32).toInt := congrArg Int32.toInt c_24
      have c_27 : M19.2.1 1 11 = (M.2.1 1 9) := (W_e W18)
      have t_28 : (M19.2.1 1 11).toInt = (M.2.1 1 9).toInt := congrArg Int32.toInt c_27
      exact h (0 : Int32) M19 hG20 F21 (by decide) (by decide) j_23 (by omega)
    · refine to_an (pc := 22) rw_88_22 rfl (tt_gI (pc := 23) rw_88_23 (g_o hG rfl) (v := (M.2.1 1 8)) rfl (to_in (pc := 26) rw_88_26 rfl (b_cle (pc := 27) rw_88_27 (A := (M.2.1 1 8).toInt) (B := v10.toInt) rfl rfl (fun h29 => ?_) (fun h29 => ?_))))
      · refine to_c (pc := 38) rw_88_38 (x := (1 : Int32)) rfl rfl (to_go (pc := 39) rw_88_39 (s_r1 (pc := 43) rw_88_43 (A := 1) rfl (by decide) (b_ine_t (pc := 17) rw_38_17 (A := 1) rfl (by decide) (to_an (pc := 22) rw_38_22 rfl (s_gR (pc := 23) rw_38_23 hG (by rcases hp with rfl | rfl <;> rfl) (v := (p + 5)) (by rcases hp with rfl | rfl <;> rfl) (to_an (pc := 26) rw_38_26 rfl (tt_gI (pc := 27) rw_38_27 (g_o hG (by rcases hp with rfl | rfl <;> rfl)) (v := (M.2.1 p 2)) rfl (to_an (pc := 30) rw_38_30 rfl (tt_gI (pc := 31) rw_38_31 (g_o hG rfl) (v := (M.2.1 1 8)) rfl (s_ias (pc := 34) rw_38_34 hG (by rcases hp with rfl | rfl <;> rfl) (n := 8) (by rcases hp with rfl | rfl <;> rfl) (A := (M.2.1 p 2).toInt) rfl (by omega) (by omega) (fun M31 W30 => ?_)))))))))))
        have hG32 := g_w hG W30 (A := (M.2.1 1 8).toInt) rfl (lo := 0) (hi := 24) (by rcases hp with rfl | rfl <;> rfl) (by rcases hp with rfl | rfl <;> rfl) (by omega) (by omega)
        have F33 := FR.w F0 W30 (show (p + 5) = 1 ∧ 5 ≤ ((M.2.1 p 2).toInt).toNat ∨ 3 ≤ (p + 5) ∧ (p + 5) ≤ 5 ∨ 50 ≤ (p + 5) ∧ (p + 5) ≤ 57 ∨ 59 ≤ (p + 5) ∧ (p + 5) ≤ 66 by omega)
        refine to_an (pc := 35) rw_38_35 rfl (s_v (pc := 36) rw_38_36 (dp0 hd (by decide)) (ls0 := [.ref 1]) rfl (Nat.le_of_ble_eq_true rfl) (Nat.le_of_ble_eq_true rfl) rfl (to_rc rfl rfl rfl (g_o hG32 rfl)) rfl (C_83 hX (dp1 hd (by decide)) hG32  (fun M36 hG35 F34 => ?_)))
        have F37 := FR.c F33 F34 tg_210
        refine to_c (pc := 39) rw_38_39 (x := (1 : Int32)) rfl rfl (s_r1 (pc := 40) rw_38_40 (A := 1) rfl (by decide) ?_)
        have k_38 : (1 : Int32).toInt = 1 := rfl
        have j_39 := (PI_f (tg_208 F34) (PI_f (fun a i z => W_n W30 (by omega) rfl) q2))
        exact h (1 : Int32) M36 hG35 F37 (by decide) (by decide) j_39 (by omega)
      · refine to_an (pc := 30) rw_88_30 rfl (to_c (pc := 31) rw_88_31 (x := (2 : Int32)) rfl rfl (s_v (pc := 32) rw_88_32 (dp1 hd (by decide)) (ls0 := [.ref 1, .int (2 : Int32)]) rfl (Nat.le_of_ble_eq_true rfl) (Nat.le_of_ble_eq_true rfl) rfl (to_rc rfl rfl rfl (g_o hG rfl)) rfl (to_an (pc := 0) rw_84_0 rfl (to_in (pc := 1) rw_84_1 rfl (s_pI (pc := 2) rw_84_2 hG rfl (fun M41 W40 => ?_))))))
        have hG42 := g_wf hG W40 rfl rfl (by decide)
        have F43 := FR.w F0 W40 (show 1 = 1 ∧ 5 ≤ 10 ∨ 3 ≤ 1 ∧ 1 ≤ 5 ∨ 50 ≤ 1 ∧ 1 ≤ 57 ∨ 59 ≤ 1 ∧ 1 ≤ 66 by decide)
        refine to_an (pc := 5) rw_84_5 rfl (to_an (pc := 6) rw_84_6 rfl ?_)
        have c_44 : M41.2.1 1 9 = (M.2.1 1 9) := (W_n W40 (by decide) rfl)
        refine tt_gI (pc := 7) rw_84_7 (g_o hG42 rfl) (v := (M.2.1 1 9)) c_44 (s_pI (pc := 10) rw_84_10 hG42 rfl (fun M46 W45 => ?_))
        have hG47 := g_wf hG42 W45 rfl rfl (by decide)
        have F48 := FR.w F43 W45 (show 1 = 1 ∧ 5 ≤ 11 ∨ 3 ≤ 1 ∧ 1 ≤ 5 ∨ 50 ≤ 1 ∧ 1 ≤ 57 ∨ 59 ≤ 1 ∧ 1 ≤ 66 by decide)
        refine to_c (pc := 13) rw_84_13 (x := (0 : Int32)) rfl rfl (s_r1 (pc := 14) rw_84_14 (A := 0) rfl (by decide) (b_ieq_t (pc := 35) rw_88_35 (A := 0) rfl (by decide) (to_c (pc := 42) rw_88_42 (x := (0 : Int32)) rfl rfl (s_r1 (pc := 43) rw_88_43 (A := 0) rfl (by decide) (b_ine_f (pc := 17) rw_38_17 (A := 0) rfl (by decide) (to_c (pc := 20) rw_38_20 (x := (0 : Int32)) rfl rfl (s_r1 (pc := 21) rw_38_21 (A := 0) rfl (by decide) ?_)))))))
        have k_49 : (0 : Int32).toInt = 0 := rfl
        have j_50 := (PI_f (fun a i z => W_n W45 (by /-r1,11-/ omega) rfl) (PI_f (fun a i z => W_n W40 (by /-r1,10-/ omega) rfl) q2))
        have c_51 : M46.2.1 1 10 = (2 : Int32) := (W_n W45 (by decide) (W_e W40))
        have k_52 : (2 : Int32).toInt = 2 := rfl
        have t_53 : (M46.2.1 1 10).toInt = (2 : Int32).toInt := congrArg Int32.toInt c_51
        have c_54 : M46.2.1 1 11 = (M.2.1 1 9) := (W_e W45)
        have t_55 : (M46.2.1 1 11).toInt = (M.2.1 1 9).toInt := congrArg Int32.toInt c_54
        exact h (0 : Int32) M46 hG47 F48 (by decide) (by decide) j_50 (by omega)
  · refine to_an (pc := 8) rw_88_8 rfl (to_c (pc := 9) rw_88_9 (x := (1 : Int32)) rfl rfl (s_v (pc := 10) rw_88_10 (dp1 hd (by decide)) (ls0 := [.ref 1, .int (1 : Int32)]) rfl (Nat.le_of_ble_eq_true rfl) (Nat.le_of_ble_eq_true rfl) rfl (to_rc rfl rfl rfl (g_o hG rfl)) rfl (to_an (pc := 0) rw_84_0 rfl (to_in (pc := 1) rw_84_1 rfl (s_pI (pc := 2) rw_84_2 hG rfl (fun M57 W56 => ?_))))))
    have hG58 := g_wf hG W56 rfl rfl (by decide)
    have F59 := FR.w F0 W56 (show 1 = 1 ∧ 5 ≤ 10 ∨ 3 ≤ 1 ∧ 1 ≤ 5 ∨ 50 ≤ 1 ∧ 1 ≤ 57 ∨ 59 ≤ 1 ∧ 1 ≤ 66 by decide)
    refine to_an (pc := 5) rw_84_5 rfl (to_an (pc := 6) rw_84_6 rfl ?_)
    have c_60 : M57.2.1 1 9 = (M.2.1 1 9) := (W_n W56 (by decide) rfl)
    refine tt_gI (pc := 7) rw_84_7 (g_o hG58 rfl) (v := (M.2.1 1 9)) c_60 (s_pI (pc := 10) rw_84_10 hG58 rfl (fun M62 W61 => ?_))
    have hG63 := g_wf hG58 W61 rfl rfl (by decide)
    have F64 := FR.w F59 W61 (show 1 = 1 ∧ 5 ≤ 11 ∨ 3 ≤ 1 ∧ 1 ≤ 5 ∨ 50 ≤ 1 ∧ 1 ≤ 57 ∨ 59 ≤ 1 ∧ 1 ≤ 66 by decide)
    refine to_c (pc := 13) rw_84_13 (x := (0 : Int32)) rfl rfl (s_r1 (pc := 14) rw_84_14 (A := 0) rfl (by decide) (s_r1 (pc := 13) rw_88_13 (A := 0) rfl (by decide) (b_ine_f (pc := 17) rw_38_17 (A := 0) rfl (by decide) (to_c (pc := 20) rw_38_20 (x := (0 : Int32)) rfl rfl (s_r1 (pc := 21) rw_38_21 (A := 0) rfl (by decide) ?_)))))
    have k_65 : (0 : Int32).toInt = 0 := rfl
    have j_66 := (PI_f (fun a i z => W_n W61 (by /-r1,11-/ omega) rfl) (PI_f (fun a i z => W_n W56 (by /-r1,10-/ omega) rfl) q2))
    have c_67 : M62.2.1 1 10 = (1 : Int32) := (W_n W61 (by decide) (W_e W56))
    have k_68 : (1 : Int32).toInt = 1 := rfl
    have t_69 : (M62.2.1 1 10).toInt = (1 : Int32).toInt := congrArg Int32.toInt c_67
    have c_70 : M62.2.1 1 11 = (M.2.1 1 9) := (W_e W61)
    have t_71 : (M62.2.1 1 11).toInt = (M.2.1 1 9).toInt := congrArg Int32.toInt c_70
    exact h (0 : Int32) M62 hG63 F64 (by decide) (by decide) j_66 (by omega)
set_option maxRecDepth 4000 in
set_option maxHeartbeats 0 in
theorem C_32 {X : mm_X} {d : Nat} {M : mm_M} {Q : Option Value → mm_M → Prop} {p : Nat} (hX : g_X X) (hd : 2 ≤ d) (hG : g_G M) (hp : p = 49 ∨ p = 58) (q1 : PI M) (h : ∀ (r : Int32) (M1 : mm_M), g_G M1 → FR md_pt M M1 → (0 ≤ r.toInt) → (r.toInt ≤ 1) → PI M1 → (r.toInt = 1 → (M1.2.1 1 10).toInt = (M.2.1 1 10).toInt ∧ (M1.2.1 1 11).toInt = (M.2.1 1 11).toInt) → Q (some (.int r)) M1) : mm_T X d 32 0 [.ref p, .ref 1] [] M Q := by
  have F0 : FR md_pt M M := FR.rf
  refine to_an (pc := 0) rw_32_0 rfl (tt_gI (pc := 1) rw_32_1 (g_o hG (by rcases hp with rfl | rfl <;> rfl)) (v := (M.2.1 p 1)) rfl (b_ile (pc := 4) rw_32_4 (A := (M.2.1 p 1).toInt) rfl (fun h1 => ?_) (fun h1 => ?_)))
  · refine to_an (pc := 13) rw_32_13 rfl (s_v (pc := 14) rw_32_14 (dp0 hd (by decide)) (ls0 := [.ref 1]) rfl (Nat.le_of_ble_eq_true rfl) (Nat.le_of_ble_eq_true rfl) rfl (to_rc rfl rfl rfl (g_o hG rfl)) rfl (C_83 hX (dp1 hd (by decide)) hG  (fun M4 hG3 F2 => ?_)))
    have F5 := FR.c F0 F2 tg_212
    refine to_an (pc := 17) rw_32_17 rfl (to_c (pc := 18) rw_32_18 (x := (10 : Int32)) rfl rfl (to_c (pc := 20) rw_32_20 (x := (60 : Int32)) rfl rfl (s_v (pc := 22) rw_32_22 (dp0 hd (by decide)) (ls0 := [.ref 1, .int (10 : Int32), .int (60 : Int32)]) rfl (Nat.le_of_ble_eq_true rfl) (Nat.le_of_ble_eq_true rfl) rfl (to_rc rfl rfl rfl (g_o hG3 rfl)) rfl (to_an (pc := 0) rw_88_0 rfl (tt_gI (pc := 1) rw_88_1 (g_o hG3 rfl) (v := (M4.2.1 1 7)) rfl (to_c (pc := 4) rw_88_4 (x := (2 : Int32)) rfl rfl (b_ceq (pc := 5) rw_88_5 (A := (M4.2.1 1 7).toInt) (B := 2) rfl rfl (fun h6 => ?_) (fun h6 => ?_))))))))
    · refine to_an (pc := 14) rw_88_14 rfl (tt_gI (pc := 15) rw_88_15 (g_o hG3 rfl) (v := (M4.2.1 1 8)) rfl (to_in (pc := 18) rw_88_18 rfl (b_clt (pc := 19) rw_88_19 (A := (M4.2.1 1 8).toInt) (B := 10) rfl rfl (fun h7 => ?_) (fun h7 => ?_))))
      · refine to_an (pc := 30) rw_88_30 rfl (to_c (pc := 31) rw_88_31 (x := (2 : Int32)) rfl rfl (s_v (pc := 32) rw_88_32 (dp1 hd (by decide)) (ls0 := [.ref 1, .int (2 : Int32)]) rfl (Nat.le_of_ble_eq_true rfl) (Nat.le_of_ble_eq_true rfl) rfl (to_rc rfl rfl rfl (g_o hG3 rfl)) rfl (to_an (pc := 0) rw_84_0 rfl (to_in (pc := 1) rw_84_1 rfl (s_pI (pc := 2) rw_84_2 hG3 rfl (fun M9 W8 => ?_))))))
        have hG10 := g_wf hG3 W8 rfl rfl (by decide)
        have F11 := FR.w F5 W8 (show 1 = 1 ∧ 5 ≤ 10 ∨ 3 ≤ 1 ∧ 1 ≤ 5 ∨ 49 ≤ 1 ∧ 1 ≤ 66 by decide)
        refine to_an (pc := 5) rw_84_5 rfl (to_an (pc := 6) rw_84_6 rfl ?_)
        have c_12 : M9.2.1 1 9 = (M4.2.1 1 9) := (W_n W8 (by decide) rfl)
        refine tt_gI (pc := 7) rw_84_7 (g_o hG10 rfl) (v := (M4.2.1 1 9)) c_12 (s_pI (pc := 10) rw_84_10 hG10 rfl (fun M14 W13 => ?_))
        have hG15 := g_wf hG10 W13 rfl rfl (by decide)
        have F16 := FR.w F11 W13 (show 1 = 1 ∧ 5 ≤ 11 ∨ 3 ≤ 1 ∧ 1 ≤ 5 ∨ 49 ≤ 1 ∧ 1 ≤ 66 by decide)
        refine to_c (pc := 13) rw_84_13 (x := (0 : Int32)) rfl rfl (s_r1 (pc := 14) rw_84_14 (A := 0) rfl (by decide) (b_ieq_t (pc := 35) rw_88_35 (A := 0) rfl (by decide) (to_c (pc := 42) rw_88_42 (x := (0 : Int32)) rfl rfl (s_r1 (pc := 43) rw_88_43 (A := 0) rfl (by decide) (b_ine_f (pc := 25) rw_32_25 (A := 0) rfl (by decide) (to_c (pc := 28) rw_32_28 (x := (0 : Int32)) rfl rfl (s_r1 (pc := 29) rw_32_29 (A := 0) rfl (by decide) ?_)))))))
        have k_17 : (0 : Int32).toInt = 0 := rfl
        have j_18 := (PI_f (fun a i z => W_n W13 (by /-r1,11-/ omega) rfl) (PI_f (fun a i z => W_n W8 (by /-r1,10-/ omega) rfl) (PI_f (tg_208 F2) q1)))
        have c_19 : M14.2.1 1 10 = (2 : Int32) := (W_n W13 (by decide) (W_e W8))
        have k_20 : (2 : Int32).toInt = 2 := rfl
        have t_21 : (M14.2.1 1 10).toInt = (2 : Int32).toInt := congrArg Int32.toInt c_19
        have c_22 : M14.2.1 1 11 = (M4.2.1 1 9) := (W_e W13)
        have t_23 : (M14.2.1 1 11).toInt = (M4.2.1 1 9).toInt := congrArg Int32.toInt c_22
        exact h (0 : Int32) M14 hG15 F16 (by decide) (by decide) j_18 (by omega)
      · refine to_an (pc := 22) rw_88_22 rfl (tt_gI (pc := 23) rw_88_23 (g_o hG3 rfl) (v := (M4.2.1 1 8)) rfl (to_in (pc := 26) rw_88_26 rfl (b_cle (pc := 27) rw_88_27 (A := (M4.2.1 1 8).toInt) (B := 60) rfl rfl (fun h24 => ?_) (fun h24 => ?_))))
        · refine to_c (pc := 38) rw_88_38 (x := (1 : Int32)) rfl rfl (to_go (pc := 39) rw_88_39 (s_r1 (pc := 43) rw_88_43 (A := 1) rfl (by decide) (b_ine_t (pc := 25) rw_32_25 (A := 1) rfl (by decide) (to_an (pc := 30) rw_32_30 rfl (to_an (pc := 31) rw_32_31 rfl (tt_gI (pc := 32) rw_32_32 (g_o hG3 rfl) (v := (M4.2.1 1 8)) rfl (s_pI (pc := 35) rw_32_35 hG3 (by rcases hp with rfl | rfl <;> rfl) (fun M26 W25 => ?_))))))))
          have hG27 := g_w hG3 W25 (A := (M4.2.1 1 8).toInt) rfl (lo := 10) (hi := 60) (by rcases hp with rfl | rfl <;> rfl) (by rcases hp with rfl | rfl <;> rfl) (by omega) (by omega)
          have F28 := FR.w F5 W25 (show p = 1 ∧ 5 ≤ 0 ∨ 3 ≤ p ∧ p ≤ 5 ∨ 49 ≤ p ∧ p ≤ 66 by omega)
          refine to_an (pc := 38) rw_32_38 rfl (s_v (pc := 39) rw_32_39 (dp0 hd (by decide)) (ls0 := [.ref 1]) rfl (Nat.le_of_ble_eq_true rfl) (Nat.le_of_ble_eq_true rfl) rfl (to_rc rfl rfl rfl (g_o hG27 rfl)) rfl (C_83 hX (dp1 hd (by decide)) hG27  (fun M31 hG30 F29 => ?_)))
          have F32 := FR.c F28 F29 tg_212
          refine to_c (pc := 42) rw_32_42 (x := (1 : Int32)) rfl rfl (s_r1 (pc := 43) rw_32_43 (A := 1) rfl (by decide) ?_)
          have k_33 : (1 : Int32).toInt = 1 := rfl
          have j_34 := (PI_f (tg_208 F29) (PI_f (fun a i z => W_n W25 (by omega) rfl) (PI_f (tg_208 F2) q1)))
          exact h (1 : Int32) M31 hG30 F32 (by decide) (by decide) j_34 (by omega)
        · refine to_an (pc := 30) rw_88_30 rfl (to_c (pc := 31) rw_88_31 (x := (2 : Int32)) rfl rfl (s_v (pc := 32) rw_88_32 (dp1 hd (by decide)) (ls0 := [.ref 1, .int (2 : Int32)]) rfl (Nat.le_of_ble_eq_true rfl) (Nat.le_of_ble_eq_true rfl) rfl (to_rc rfl rfl rfl (g_o hG3 rfl)) rfl (to_an (pc := 0) rw_84_0 rfl (to_in (pc := 1) rw_84_1 rfl (s_pI (pc := 2) rw_84_2 hG3 rfl (fun M36 W35 => ?_))))))
          have hG37 := g_wf hG3 W35 rfl rfl (by decide)
          have F38 := FR.w F5 W35 (show 1 = 1 ∧ 5 ≤ 10 ∨ 3 ≤ 1 ∧ 1 ≤ 5 ∨ 49 ≤ 1 ∧ 1 ≤ 66 by decide)
          refine to_an (pc := 5) rw_84_5 rfl (to_an (pc := 6) rw_84_6 rfl ?_)
          have c_39 : M36.2.1 1 9 = (M4.2.1 1 9) := (W_n W35 (by decide) rfl)
          refine tt_gI (pc := 7) rw_84_7 (g_o hG37 rfl) (v := (M4.2.1 1 9)) c_39 (s_pI (pc := 10) rw_84_10 hG37 rfl (fun M41 W40 => ?_))
          have hG42 := g_wf hG37 W40 rfl rfl (by decide)
          have F43 := FR.w F38 W40 (show 1 = 1 ∧ 5 ≤ 11 ∨ 3 ≤ 1 ∧ 1 ≤ 5 ∨ 49 ≤ 1 ∧ 1 ≤ 66 by decide)
          refine to_c (pc := 13) rw_84_13 (x := (0 : Int32)) rfl rfl (s_r1 (pc := 14) rw_84_14 (A := 0) rfl (by decide) (b_ieq_t (pc := 35) rw_88_35 (A := 0) rfl (by decide) (to_c (pc := 42) rw_88_42 (x := (0 : Int32)) rfl rfl (s_r1 (pc := 43) rw_88_43 (A := 0) rfl (by decide) (b_ine_f (pc := 25) rw_32_25 (A := 0) rfl (by decide) (to_c (pc := 28) rw_32_28 (x := (0 : Int32)) rfl rfl (s_r1 (pc := 29) rw_32_29 (A := 0) rfl (by decide) ?_)))))))
          have k_44 : (0 : Int32).toInt = 0 := rfl
          have j_45 := (PI_f (fun a i z => W_n W40 (by /-r1,11-/ omega) rfl) (PI_f (fun a i z => W_n W35 (by /-r1,10-/ omega) rfl) (PI_f (tg_208 F2) q1)))
          have c_46 : M41.2.1 1 10 = (2 : Int32) := (W_n W40 (by decide) (W_e W35))
          have k_47 : (2 : Int32).toInt = 2 := rfl
          have t_48 : (M41.2.1 1 10).toInt = (2 : Int32).toInt := congrArg Int32.toInt c_46
          have c_49 : M41.2.1 1 11 = (M4.2.1 1 9) := (W_e W40)
          have t_50 : (M41.2.1 1 11).toInt = (M4.2.1 1 9).toInt := congrArg Int32.toInt c_49
          exact h (0 : Int32) M41 hG42 F43 (by decide) (by decide) j_45 (by omega)
    · refine to_an (pc := 8) rw_88_8 rfl (to_c (pc := 9) rw_88_9 (x := (1 : Int32)) rfl rfl (s_v (pc := 10) rw_88_10 (dp1 hd (by decide)) (ls0 := [.ref 1, .int (1 : Int32)]) rfl (Nat.le_of_ble_eq_true rfl) (Nat.le_of_ble_eq_true rfl) rfl (to_rc rfl rfl rfl (g_o hG3 rfl)) rfl (to_an (pc := 0) rw_84_0 rfl (to_in (pc := 1) rw_84_1 rfl (s_pI (pc := 2) rw_84_2 hG3 rfl (fun M52 W51 => ?_))))))
      have hG53 := g_wf hG3 W51 rfl rfl (by decide)
      have F54 := FR.w F5 W51 (show 1 = 1 ∧ 5 ≤ 10 ∨ 3 ≤ 1 ∧ 1 ≤ 5 ∨ 49 ≤ 1 ∧ 1 ≤ 66 by decide)
      refine to_an (pc := 5) rw_84_5 rfl (to_an (pc := 6) rw_84_6 rfl ?_)
      have c_55 : M52.2.1 1 9 = (M4.2.1 1 9) := (W_n W51 (by decide) rfl)
      refine tt_gI (pc := 7) rw_84_7 (g_o hG53 rfl) (v := (M4.2.1 1 9)) c_55 (s_pI (pc := 10) rw_84_10 hG53 rfl (fun M57 W56 => ?_))
      have hG58 := g_wf hG53 W56 rfl rfl (by decide)
      have F59 := FR.w F54 W56 (show 1 = 1 ∧ 5 ≤ 11 ∨ 3 ≤ 1 ∧ 1 ≤ 5 ∨ 49 ≤ 1 ∧ 1 ≤ 66 by decide)
      refine to_c (pc := 13) rw_84_13 (x := (0 : Int32)) rfl rfl (s_r1 (pc := 14) rw_84_14 (A := 0) rfl (by decide) (s_r1 (pc := 13) rw_88_13 (A := 0) rfl (by decide) (b_ine_f (pc := 25) rw_32_25 (A := 0) rfl (by decide) (to_c (pc := 28) rw_32_28 (x := (0 : Int32)) rfl rfl (s_r1 (pc := 29) rw_32_29 (A := 0) rfl (by decide) ?_)))))
      have k_60 : (0 : Int32).toInt = 0 := rfl
      have j_61 := (PI_f (fun a i z => W_n W56 (by /-r1,11-/ omega) rfl) (PI_f (fun a i z => W_n W51 (by /-r1,10-/ omega) rfl) (PI_f (tg_208 F2) q1)))
      have c_62 : M57.2.1 1 10 = (1 : Int32) := (W_n W56 (by decide) (W_e W51))
      have k_63 : (1 : Int32).toInt = 1 := rfl
      have t_64 : (M57.2.1 1 10).toInt = (1 : Int32).toInt := congrArg Int32.toInt c_62
      have c_65 : M57.2.1 1 11 = (M4.2.1 1 9) := (W_e W56)
      have t_66 : (M57.2.1 1 11).toInt = (M4.2.1 1 9).toInt := congrArg Int32.toInt c_65
      exact h (0 : Int32) M57 hG58 F59 (by decide) (by decide) j_61 (by omega)
  · refine to_an (pc := 7) rw_32_7 rfl (to_c (pc := 8) rw_32_8 (x := (3 : Int32)) rfl rfl (s_v (pc := 9) rw_32_9 (dp0 hd (by decide)) (ls0 := [.ref 1, .int (3 : Int32)]) rfl (Nat.le_of_ble_eq_true rfl) (Nat.le_of_ble_eq_true rfl) rfl (to_rc rfl rfl rfl (g_o hG rfl)) rfl (to_an (pc := 0) rw_84_0 rfl (to_in (pc := 1) rw_84_1 rfl (s_pI (pc := 2) rw_84_2 hG rfl (fun M68 W67 => ?_))))))
    have hG69 := g_wf hG W67 rfl rfl (by decide)
    have F70 := FR.w F0 W67 (show 1 = 1 ∧ 5 ≤ 10 ∨ 3 ≤ 1 ∧ 1 ≤ 5 ∨ 49 ≤ 1 ∧ 1 ≤ 66 by decide)
    refine to_an (pc := 5) rw_84_5 rfl (to_an (pc := 6) rw_84_6 rfl ?_)
    have c_71 : M68.2.1 1 9 = (M.2.1 1 9) := (W_n W67 (by decide) rfl)
    refine tt_gI (pc := 7) rw_84_7 (g_o hG69 rfl) (v := (M.2.1 1 9)) c_71 (s_pI (pc := 10) rw_84_10 hG69 rfl (fun M73 W72 => ?_))
    have hG74 := g_wf hG69 W72 rfl rfl (by decide)
    have F75 := FR.w F70 W72 (show 1 = 1 ∧ 5 ≤ 11 ∨ 3 ≤ 1 ∧ 1 ≤ 5 ∨ 49 ≤ 1 ∧ 1 ≤ 66 by decide)
    refine to_c (pc := 13) rw_84_13 (x := (0 : Int32)) rfl rfl (s_r1 (pc := 14) rw_84_14 (A := 0) rfl (by decide) (s_r1 (pc := 12) rw_32_12 (A := 0) rfl (by decide) ?_))
    have k_76 : (0 : Int32).toInt = 0 := rfl
    have j_77 := (PI_f (fun a i z => W_n W72 (by /-r1,11-/ omega) rfl) (PI_f (fun a i z => W_n W67 (by /-r1,10-/ omega) rfl) q1))
    have c_78 : M73.2.1 1 10 = (3 : Int32) := (W_n W72 (by decide) (W_e W67))
    have k_79 : (3 : Int32).toInt = 3 := rfl
    have t_80 : (M73.2.1 1 10).toInt = (3 : Int32).toInt := congrArg Int32.toInt c_78
    have c_81 : M73.2.1 1 11 = (M.2.1 1 9) := (W_e W72)
    have t_82 : (M73.2.1 1 11).toInt = (M.2.1 1 9).toInt := congrArg Int32.toInt c_81
    exact h (0 : Int32) M73 hG74 F75 (by decide) (by decide) j_77 (by omega)
set_option maxRecDepth 4000 in
set_option maxHeartbeats 0 in
theorem C_33 {X : mm_X} {d : Nat} {M : mm_M} {Q : Option Value → mm_M → Prop} {p : Nat} (hX : g_X X) (hd : 3 ≤ d) (hG : g_G M) (hp : p = 49 ∨ p = 58) (q1 : PI M) (h : ∀ (r : Int32) (M1 : mm_M), g_G M1 → FR md_pt M M1 → (0 ≤ r.toInt) → (r.toInt ≤ 1) → PI M1 → (r.toInt = 1 → (M1.2.1 1 10).toInt = (M.2.1 1 10).toInt ∧ (M1.2.1 1 11).toInt = (M.2.1 1 11).toInt) → Q (some (.int r)) M1) : mm_T X d 33 0 [.ref p, .ref 1, .null, .null] [] M Q := by
  have F0 : FR md_pt M M := FR.rf
  refine to_an (pc := 0) rw_33_0 rfl ?_
  have b_1 := g_b hG (a := p) (i := 2) (lo := 0) (hi := 8) (by rcases hp with rfl | rfl <;> rfl) (by rcases hp with rfl | rfl <;> rfl)
  refine tt_gI (pc := 1) rw_33_1 (g_o hG (by rcases hp with rfl | rfl <;> rfl)) (v := (M.2.1 p 2)) rfl (to_c (pc := 4) rw_33_4 (x := (8 : Int32)) rfl rfl (b_clt (pc := 6) rw_33_6 (A := (M.2.1 p 2).toInt) (B := 8) rfl rfl (fun h2 => ?_) (fun h2 => ?_)))
  · refine to_an (pc := 15) rw_33_15 rfl (s_v (pc := 16) rw_33_16 (dp0 hd (by decide)) (ls0 := [.ref 1]) rfl (Nat.le_of_ble_eq_true rfl) (Nat.le_of_ble_eq_true rfl) rfl (to_rc rfl rfl rfl (g_o hG rfl)) rfl (C_83 hX (dp1 hd (by decide)) hG  (fun M5 hG4 F3 => ?_)))
    have F6 := FR.c F0 F3 tg_212
    refine to_an (pc := 19) rw_33_19 rfl (to_an (pc := 20) rw_33_20 rfl (s_v (pc := 21) rw_33_21 (dp0 hd (by decide)) (ls0 := [.ref p, .ref 1]) rfl (Nat.le_of_ble_eq_true rfl) (Nat.le_of_ble_eq_true rfl) rfl (to_rc rfl rfl rfl (g_o hG4 (by rcases hp with rfl | rfl <;> rfl))) rfl (C_34 hX (dp1 hd (by decide)) hG4 hp (p := p) (fun r7 M13 hG9 F8 p_10 p_11 p_12 => ?_))))
    have F14 := FR.c F6 F8 tg_212
    refine b_ine (pc := 24) rw_33_24 (A := r7.toInt) rfl (fun h15 => ?_) (fun h15 => ?_)
    · refine to_an (pc := 29) rw_33_29 rfl (s_gR (pc := 30) rw_33_30 hG9 (by rcases hp with rfl | rfl <;> rfl) (v := (p + 1)) (by rcases hp with rfl | rfl <;> rfl) (to_an (pc := 33) rw_33_33 rfl ?_))
      have c_16 : M13.2.1 p 2 = (M.2.1 p 2) := (F_n F8 (show ¬ (p = 1 ∧ 5 ≤ 2 ∨ 3 ≤ p ∧ p ≤ 5) by omega) (F_n F3 (show ¬ (p = 1 ∧ 5 ≤ 2 ∨ 3 ≤ p ∧ p ≤ 5) by omega) rfl))
      refine tt_gI (pc := 34) rw_33_34 (g_o hG9 (by rcases hp with rfl | rfl <;> rfl)) (v := (M.2.1 p 2)) c_16 (to_an (pc := 37) rw_33_37 rfl (tt_gI (pc := 38) rw_33_38 (g_o hG9 rfl) (v := (M13.2.1 1 8)) rfl (s_ias (pc := 41) rw_33_41 hG9 (by rcases hp with rfl | rfl <;> rfl) (n := 8) (by rcases hp with rfl | rfl <;> rfl) (A := (M.2.1 p 2).toInt) rfl (by omega) (by omega) (fun M18 W17 => ?_))))
      have hG19 := g_wf hG9 W17 (by rcases hp with rfl | rfl <;> rfl) (by rcases hp with rfl | rfl <;> rfl) (by omega)
      have F20 := FR.w F14 W17 (show (p + 1) = 1 ∧ 5 ≤ ((M.2.1 p 2).toInt).toNat ∨ 3 ≤ (p + 1) ∧ (p + 1) ≤ 5 ∨ 49 ≤ (p + 1) ∧ (p + 1) ≤ 66 by omega)
      refine to_an (pc := 42) rw_33_42 rfl (s_v (pc := 43) rw_33_43 (dp0 hd (by decide)) (ls0 := [.ref 1]) rfl (Nat.le_of_ble_eq_true rfl) (Nat.le_of_ble_eq_true rfl) rfl (to_rc rfl rfl rfl (g_o hG19 rfl)) rfl (C_83 hX (dp1 hd (by decide)) hG19  (fun M23 hG22 F21 => ?_)))
      have F24 := FR.c F20 F21 tg_212
      refine to_an (pc := 46) rw_33_46 rfl (s_s (pc := 47) rw_33_47 (dp0 hd (by decide)) (ls0 := [.ref 1]) rfl (Nat.le_of_ble_eq_true rfl) (Nat.le_of_ble_eq_true rfl) rfl (to_rcs rfl rfl) rfl (C_35 hX (dp1 hd (by decide)) hG22  (fun r25 M30 hG27 F26 p_28 p_29 => ?_)))
      have F31 := FR.c F24 F26 tg_213
      refine to_isn (pc := 50) rw_33_50 (ls2 := [.ref p, .ref 1, .int r25, .null]) rfl rfl (to_in (pc := 51) rw_33_51 rfl (to_c (pc := 52) rw_33_52 (x := (-1 : Int32)) rfl rfl (b_cne (pc := 53) rw_33_53 (A := r25.toInt) (B := -1) rfl rfl (fun h32 => ?_) (fun h32 => ?_))))
      · refine to_an (pc := 62) rw_33_62 rfl (s_gR (pc := 63) rw_33_63 hG27 (by rcases hp with rfl | rfl <;> rfl) (v := (p + 2)) (by rcases hp with rfl | rfl <;> rfl) (to_an (pc := 66) rw_33_66 rfl ?_))
        have c_33 : M30.2.1 p 2 = (M.2.1 p 2) := (F_n F26 (show ¬ (p < 0) by omega) (F_n F21 (show ¬ (p = 1 ∧ 5 ≤ 2 ∨ 3 ≤ p ∧ p ≤ 5) by omega) (W_n W17 (by omega) c_16)))
        refine tt_gI (pc := 67) rw_33_67 (g_o hG27 (by rcases hp with rfl | rfl <;> rfl)) (v := (M.2.1 p 2)) c_33 (to_in (pc := 70) rw_33_70 rfl (s_ias (pc := 71) rw_33_71 hG27 (by rcases hp with rfl | rfl <;> rfl) (n := 8) (by rcases hp with rfl | rfl <;> rfl) (A := (M.2.1 p 2).toInt) rfl (by omega) (by omega) (fun M35 W34 => ?_)))
        have hG36 := g_w hG27 W34 (A := r25.toInt) rfl (lo := 0) (hi := 3) (by rcases hp with rfl | rfl <;> rfl) (by rcases hp with rfl | rfl <;> rfl) (by omega) (by omega)
        have F37 := FR.w F31 W34 (show (p + 2) = 1 ∧ 5 ≤ ((M.2.1 p 2).toInt).toNat ∨ 3 ≤ (p + 2) ∧ (p + 2) ≤ 5 ∨ 49 ≤ (p + 2) ∧ (p + 2) ≤ 66 by omega)
        refine to_an (pc := 72) rw_33_72 rfl (s_v (pc := 73) rw_33_73 (dp0 hd (by decide)) (ls0 := [.ref 1]) rfl (Nat.le_of_ble_eq_true rfl) (Nat.le_of_ble_eq_true rfl) rfl (to_rc rfl rfl rfl (g_o hG36 rfl)) rfl (C_83 hX (dp1 hd (by decide)) hG36  (fun M40 hG39 F38 => ?_)))
        have F41 := FR.c F37 F38 tg_212
        refine to_in (pc := 76) rw_33_76 rfl (to_c (pc := 77) rw_33_77 (x := (1 : Int32)) rfl rfl (b_ceq (pc := 78) rw_33_78 (A := r25.toInt) (B := 1) rfl rfl (fun h42 => ?_) (fun h42 => ?_)))
        · refine to_an (pc := 86) rw_33_86 rfl (to_an (pc := 87) rw_33_87 rfl (to_in (pc := 88) rw_33_88 rfl (to_c (pc := 89) rw_33_89 (x := (1 : Int32)) rfl rfl (b_cne_f (pc := 90) rw_33_90 (A := r25.toInt) (B := 1) rfl rfl (by omega) (to_c (pc := 93) rw_33_93 (x := (4 : Int32)) rfl rfl (to_go (pc := 94) rw_33_94 (s_v (pc := 98) rw_33_98 (dp0 hd (by decide)) (ls0 := [.ref p, .ref 1, .int (4 : Int32), .null, .null]) rfl (Nat.le_of_ble_eq_true rfl) (Nat.le_of_ble_eq_true rfl) rfl (to_rc rfl rfl rfl (g_o hG39 (by rcases hp with rfl | rfl <;> rfl))) rfl ?_)))))))
          have k_43 : (4 : Int32).toInt = 4 := rfl
          have c_44 : M40.2.1 p 2 = (M.2.1 p 2) := (F_n F38 (show ¬ (p = 1 ∧ 5 ≤ 2 ∨ 3 ≤ p ∧ p ≤ 5) by omega) (W_n W34 (by omega) c_33))
          have t_45 : (M40.2.1 p 2).toInt = (M.2.1 p 2).toInt := congrArg Int32.toInt c_44
          have j_46 := (PI_f (tg_208 F38) (PI_f (fun a i z => W_n W34 (by omega) rfl) (PI_f (tg_99 F26) (PI_f (tg_208 F21) (PI_f (fun a i z => W_n W17 (by omega) rfl) (PI_f (tg_208 F8) (PI_f (tg_208 F3) q1)))))))
          refine C_37 hX (dp1 hd (by decide)) hG39 hp (by omega) (by omega) (by omega) j_46 (p := p) (w := (4 : Int32)) (fun r47 M54 hG49 F48 p_50 p_51 p_52 p_53 => ?_)
          have F55 := FR.c F41 F48 tg_214
          refine to_isn (pc := 101) rw_33_101 (ls2 := [.ref p, .ref 1, .int r25, .int r47]) rfl rfl (to_go (pc := 102) rw_33_102 (to_in (pc := 140) rw_33_140 rfl (b_ine (pc := 141) rw_33_141 (A := r47.toInt) rfl (fun h56 => ?_) (fun h56 => ?_))))
          · refine to_an (pc := 146) rw_33_146 rfl (to_dupr (pc := 147) rw_33_147 (s_gJ (pc := 148) rw_33_148 hG49 (by rcases hp with rfl | rfl <;> rfl) (fun l57 => to_an (pc := 151) rw_33_151 rfl (s_gR (pc := 152) rw_33_152 hG49 (by rcases hp with rfl | rfl <;> rfl) (v := (p + 3)) (by rcases hp with rfl | rfl <;> rfl) (to_an (pc := 155) rw_33_155 rfl ?_)))))
            have c_58 : M54.2.1 p 2 = (M.2.1 p 2) := (F_n F48 (show ¬ (p = 1 ∧ 5 ≤ 2 ∨ 3 ≤ p ∧ p ≤ 5 ∨ 50 ≤ p ∧ p ≤ 57 ∨ 59 ≤ p ∧ p ≤ 66) by omega) c_44)
            refine tt_gI (pc := 156) rw_33_156 (g_o hG49 (by rcases hp with rfl | rfl <;> rfl)) (v := (M.2.1 p 2)) c_58 (s_ial (pc := 159) rw_33_159 hG49 (by rcases hp with rfl | rfl <;> rfl) (n := 8) (by rcases hp with rfl | rfl <;> rfl) (by rcases hp with rfl | rfl <;> rfl) (A := (M.2.1 p 2).toInt) rfl (by omega) (by omega) (lo := 0) (hi := 59) (by rcases hp with rfl | rfl <;> rfl) (by rcases hp with rfl | rfl <;> rfl) (fun v59 w_60 _ _ => to_an (pc := 160) rw_33_160 rfl (s_gR (pc := 161) rw_33_161 hG49 (by rcases hp with rfl | rfl <;> rfl) (v := (p + 4)) (by rcases hp with rfl | rfl <;> rfl) (to_an (pc := 164) rw_33_164 rfl (tt_gI (pc := 165) rw_33_165 (g_o hG49 (by rcases hp with rfl | rfl <;> rfl)) (v := (M.2.1 p 2)) c_58 (s_ial (pc := 168) rw_33_168 hG49 (by rcases hp with rfl | rfl <;> rfl) (n := 8) (by rcases hp with rfl | rfl <;> rfl) (by rcases hp with rfl | rfl <;> rfl) (A := (M.2.1 p 2).toInt) rfl (by omega) (by omega) (lo := 0) (hi := 63) (by rcases hp with rfl | rfl <;> rfl) (by rcases hp with rfl | rfl <;> rfl) (fun v61 w_62 _ _ => s_s (pc := 169) rw_33_169 (dp0 hd (by decide)) (ls0 := [.int v59, .int v61]) rfl (Nat.le_of_ble_eq_true rfl) (Nat.le_of_ble_eq_true rfl) rfl (to_rcs rfl rfl) rfl (s_cl (pc := 0) rw_144_0 rfl (fun l63 => to_in (pc := 1) rw_144_1 rfl (to_in (pc := 2) rw_144_2 rfl (s_sub (pc := 3) rw_144_3 (A := v61.toInt) (B := v59.toInt) rfl rfl (by omega) (fun v64 e65 => ?_))))))))))))
            refine to_c (pc := 4) rw_144_4 (x := (1 : Int32)) rfl rfl (s_add (pc := 5) rw_144_5 (A := v64.toInt) (B := 1) rfl rfl (by omega) (fun v66 e67 => s_anyS (pc := 6) rw_144_6 (fun _ _ => rfl) (fun l68 => s_cl (pc := 7) rw_144_7 rfl (fun l69 => s_anyL (pc := 8) rw_144_8 (fun _ _ => rfl) (fun l70 => to_in (pc := 9) rw_144_9 rfl (s_anyS (pc := 10) rw_144_10 (fun _ _ => rfl) (fun l71 => to_rl (pc := 11) rw_144_11 (s_anyL (pc := 172) rw_33_172 (fun _ _ => rfl) (fun l72 => s_pJ (pc := 173) rw_33_173 hG49 (by rcases hp with rfl | rfl <;> rfl) (fun M74 W73 => ?_))))))))))
            have hG75 := g_wl hG49 W73
            have F76 := FR.wl F55 W73 (show p = 1 ∧ 5 ≤ 4 ∨ 3 ≤ p ∧ p ≤ 5 ∨ 49 ≤ p ∧ p ≤ 66 by omega)
            refine to_an (pc := 176) rw_33_176 rfl (to_dupr (pc := 177) rw_33_177 ?_)
            have c_77 : M74.2.1 p 2 = (M.2.1 p 2) := (W_l W73 c_58)
            refine tt_gI (pc := 178) rw_33_178 (g_o hG75 (by rcases hp with rfl | rfl <;> rfl)) (v := (M.2.1 p 2)) c_77 (to_c (pc := 181) rw_33_181 (x := (1 : Int32)) rfl rfl (s_add (pc := 182) rw_33_182 (A := (M.2.1 p 2).toInt) (B := 1) rfl rfl (by omega) (fun v78 e79 => s_pI (pc := 183) rw_33_183 hG75 (by rcases hp with rfl | rfl <;> rfl) (fun M81 W80 => ?_))))
            have hG82 := g_w hG75 W80 (A := v78.toInt) rfl (lo := 0) (hi := 8) (by rcases hp with rfl | rfl <;> rfl) (by rcases hp with rfl | rfl <;> rfl) (by omega) (by omega)
            have F83 := FR.w F76 W80 (show p = 1 ∧ 5 ≤ 2 ∨ 3 ≤ p ∧ p ≤ 5 ∨ 49 ≤ p ∧ p ≤ 66 by omega)
            refine to_c (pc := 186) rw_33_186 (x := (1 : Int32)) rfl rfl (s_r1 (pc := 187) rw_33_187 (A := 1) rfl (by decide) ?_)
            have k_84 : (1 : Int32).toInt = 1 := rfl
            have j_85 := (PI_f (fun a i z => W_n W80 (by omega) rfl) (PI_f (fun a i z => W_l W73 rfl) p_52))
            have c_86 : M81.2.1 1 10 = (M54.2.1 1 10) := (W_n W80 (by omega) (W_l W73 rfl))
            have t_87 : (M81.2.1 1 10).toInt = (M54.2.1 1 10).toInt := congrArg Int32.toInt c_86
            have c_88 : M81.2.1 1 11 = (M54.2.1 1 11) := (W_n W80 (by omega) (W_l W73 rfl))
            have t_89 : (M81.2.1 1 11).toInt = (M54.2.1 1 11).toInt := congrArg Int32.toInt c_88
            exact h (1 : Int32) M81 hG82 F83 (by decide) (by decide) j_85 (by omega)
          · refine to_c (pc := 144) rw_33_144 (x := (0 : Int32)) rfl rfl (s_r1 (pc := 145) rw_33_145 (A := 0) rfl (by decide) ?_)
            have k_90 : (0 : Int32).toInt = 0 := rfl
            exact h (0 : Int32) M54 hG49 F55 (by decide) (by decide) p_52 (by omega)
        · refine to_in (pc := 81) rw_33_81 rfl (to_c (pc := 82) rw_33_82 (x := (2 : Int32)) rfl rfl (b_cne (pc := 83) rw_33_83 (A := r25.toInt) (B := 2) rfl rfl (fun h91 => ?_) (fun h91 => ?_)))
          · refine to_an (pc := 105) rw_33_105 rfl (to_an (pc := 106) rw_33_106 rfl (to_in (pc := 107) rw_33_107 rfl (b_ine (pc := 108) rw_33_108 (A := r25.toInt) rfl (fun h92 => ?_) (fun h92 => ?_))))
            · refine to_c (pc := 115) rw_33_115 (x := (1 : Int32)) rfl rfl (s_v (pc := 116) rw_33_116 (dp0 hd (by decide)) (ls0 := [.ref p, .ref 1, .int (1 : Int32), .null, .null, .null]) rfl (Nat.le_of_ble_eq_true rfl) (Nat.le_of_ble_eq_true rfl) rfl (to_rc rfl rfl rfl (g_o hG39 (by rcases hp with rfl | rfl <;> rfl))) rfl ?_)
              have k_93 : (1 : Int32).toInt = 1 := rfl
              have c_94 : M40.2.1 p 2 = (M.2.1 p 2) := (F_n F38 (show ¬ (p = 1 ∧ 5 ≤ 2 ∨ 3 ≤ p ∧ p ≤ 5) by omega) (W_n W34 (by omega) c_33))
              have t_95 : (M40.2.1 p 2).toInt = (M.2.1 p 2).toInt := congrArg Int32.toInt c_94
              have j_96 := (PI_f (tg_208 F38) (PI_f (fun a i z => W_n W34 (by omega) rfl) (PI_f (tg_99 F26) (PI_f (tg_208 F21) (PI_f (fun a i z => W_n W17 (by omega) rfl) (PI_f (tg_208 F8) (PI_f (tg_208 F3) q1)))))))
              refine C_36 hX (dp1 hd (by decide)) hG39 hp (by omega) (by omega) (by omega) j_96 (p := p) (w := (1 : Int32)) (fun r97 M104 hG99 F98 p_100 p_101 p_102 p_103 => ?_)
              have F105 := FR.c F41 F98 tg_214
              refine b_ieq (pc := 119) rw_33_119 (A := r97.toInt) rfl (fun h106 => ?_) (fun h106 => ?_)
              · refine to_c (pc := 138) rw_33_138 (x := (0 : Int32)) rfl rfl (to_isn (pc := 139) rw_33_139 (ls2 := [.ref p, .ref 1, .int r25, .int (0 : Int32)]) rfl rfl (to_in (pc := 140) rw_33_140 rfl (b_ine_f (pc := 141) rw_33_141 (A := 0) rfl (by decide) (to_c (pc := 144) rw_33_144 (x := (0 : Int32)) rfl rfl (s_r1 (pc := 145) rw_33_145 (A := 0) rfl (by decide) ?_)))))
                have k_107 : (0 : Int32).toInt = 0 := rfl
                exact h (0 : Int32) M104 hG99 F105 (by decide) (by decide) p_102 (by omega)
              · refine to_in (pc := 122) rw_33_122 rfl (b_ieq_f (pc := 123) rw_33_123 (A := r25.toInt) rfl (by omega) (to_an (pc := 126) rw_33_126 rfl (to_an (pc := 127) rw_33_127 rfl (s_v (pc := 128) rw_33_128 (dp0 hd (by decide)) (ls0 := [.ref p, .ref 1]) rfl (Nat.le_of_ble_eq_true rfl) (Nat.le_of_ble_eq_true rfl) rfl (to_rc rfl rfl rfl (g_o hG99 (by rcases hp with rfl | rfl <;> rfl))) rfl ?_))))
                have c_108 : M104.2.1 p 2 = (M.2.1 p 2) := (F_n F98 (show ¬ (p = 1 ∧ 5 ≤ 2 ∨ 3 ≤ p ∧ p ≤ 5 ∨ 50 ≤ p ∧ p ≤ 57 ∨ 59 ≤ p ∧ p ≤ 66) by omega) c_94)
                have t_109 : (M104.2.1 p 2).toInt = (M.2.1 p 2).toInt := congrArg Int32.toInt c_108
                refine C_38 hX (dp1 hd (by decide)) hG99 hp (by omega) p_102 (p := p) (fun r110 M117 hG112 F111 p_113 p_114 p_115 p_116 => ?_)
                have F118 := FR.c F105 F111 tg_214
                refine b_ieq (pc := 131) rw_33_131 (A := r110.toInt) rfl (fun h119 => ?_) (fun h119 => ?_)
                · refine to_c (pc := 138) rw_33_138 (x := (0 : Int32)) rfl rfl (to_isn (pc := 139) rw_33_139 (ls2 := [.ref p, .ref 1, .int r25, .int (0 : Int32)]) rfl rfl (to_in (pc := 140) rw_33_140 rfl (b_ine_f (pc := 141) rw_33_141 (A := 0) rfl (by decide) (to_c (pc := 144) rw_33_144 (x := (0 : Int32)) rfl rfl (s_r1 (pc := 145) rw_33_145 (A := 0) rfl (by decide) ?_)))))
                  have k_120 : (0 : Int32).toInt = 0 := rfl
                  exact h (0 : Int32) M117 hG112 F118 (by decide) (by decide) p_115 (by omega)
                · refine to_c (pc := 134) rw_33_134 (x := (1 : Int32)) rfl rfl (to_go (pc := 135) rw_33_135 (to_isn (pc := 139) rw_33_139 (ls2 := [.ref p, .ref 1, .int r25, .int (1 : Int32)]) rfl rfl (to_in (pc := 140) rw_33_140 rfl (b_ine_t (pc := 141) rw_33_141 (A := 1) rfl (by decide) (to_an (pc := 146) rw_33_146 rfl (to_dupr (pc := 147) rw_33_147 (s_gJ (pc := 148) rw_33_148 hG112 (by rcases hp with rfl | rfl <;> rfl) (fun l121 => to_an (pc := 151) rw_33_151 rfl (s_gR (pc := 152) rw_33_152 hG112 (by rcases hp with rfl | rfl <;> rfl) (v := (p + 3)) (by rcases hp with rfl | rfl <;> rfl) (to_an (pc := 155) rw_33_155 rfl ?_))))))))))
                  have c_122 : M117.2.1 p 2 = (M.2.1 p 2) := (F_n F111 (show ¬ (p = 1 ∧ 5 ≤ 2 ∨ 3 ≤ p ∧ p ≤ 5 ∨ 50 ≤ p ∧ p ≤ 57 ∨ 59 ≤ p ∧ p ≤ 66) by omega) c_108)
                  refine tt_gI (pc := 156) rw_33_156 (g_o hG112 (by rcases hp with rfl | rfl <;> rfl)) (v := (M.2.1 p 2)) c_122 (s_ial (pc := 159) rw_33_159 hG112 (by rcases hp with rfl | rfl <;> rfl) (n := 8) (by rcases hp with rfl | rfl <;> rfl) (by rcases hp with rfl | rfl <;> rfl) (A := (M.2.1 p 2).toInt) rfl (by omega) (by omega) (lo := 0) (hi := 59) (by rcases hp with rfl | rfl <;> rfl) (by rcases hp with rfl | rfl <;> rfl) (fun v123 w_124 _ _ => to_an (pc := 160) rw_33_160 rfl (s_gR (pc := 161) rw_33_161 hG112 (by rcases hp with rfl | rfl <;> rfl) (v := (p + 4)) (by rcases hp with rfl | rfl <;> rfl) (to_an (pc := 164) rw_33_164 rfl (tt_gI (pc := 165) rw_33_165 (g_o hG112 (by rcases hp with rfl | rfl <;> rfl)) (v := (M.2.1 p 2)) c_122 (s_ial (pc := 168) rw_33_168 hG112 (by rcases hp with rfl | rfl <;> rfl) (n := 8) (by rcases hp with rfl | rfl <;> rfl) (by rcases hp with rfl | rfl <;> rfl) (A := (M.2.1 p 2).toInt) rfl (by omega) (by omega) (lo := 0) (hi := 63) (by rcases hp with rfl | rfl <;> rfl) (by rcases hp with rfl | rfl <;> rfl) (fun v125 w_126 _ _ => s_s (pc := 169) rw_33_169 (dp0 hd (by decide)) (ls0 := [.int v123, .int v125]) rfl (Nat.le_of_ble_eq_true rfl) (Nat.le_of_ble_eq_true rfl) rfl (to_rcs rfl rfl) rfl (s_cl (pc := 0) rw_144_0 rfl (fun l127 => to_in (pc := 1) rw_144_1 rfl (to_in (pc := 2) rw_144_2 rfl (s_sub (pc := 3) rw_144_3 (A := v125.toInt) (B := v123.toInt) rfl rfl (by omega) (fun v128 e129 => ?_))))))))))))
                  refine to_c (pc := 4) rw_144_4 (x := (1 : Int32)) rfl rfl (s_add (pc := 5) rw_144_5 (A := v128.toInt) (B := 1) rfl rfl (by omega) (fun v130 e131 => s_anyS (pc := 6) rw_144_6 (fun _ _ => rfl) (fun l132 => s_cl (pc := 7) rw_144_7 rfl (fun l133 => s_anyL (pc := 8) rw_144_8 (fun _ _ => rfl) (fun l134 => to_in (pc := 9) rw_144_9 rfl (s_anyS (pc := 10) rw_144_10 (fun _ _ => rfl) (fun l135 => to_rl (pc := 11) rw_144_11 (s_anyL (pc := 172) rw_33_172 (fun _ _ => rfl) (fun l136 => s_pJ (pc := 173) rw_33_173 hG112 (by rcases hp with rfl | rfl <;> rfl) (fun M138 W137 => ?_))))))))))
                  have hG139 := g_wl hG112 W137
                  have F140 := FR.wl F118 W137 (show p = 1 ∧ 5 ≤ 4 ∨ 3 ≤ p ∧ p ≤ 5 ∨ 49 ≤ p ∧ p ≤ 66 by omega)
                  refine to_an (pc := 176) rw_33_176 rfl (to_dupr (pc := 177) rw_33_177 ?_)
                  have c_141 : M138.2.1 p 2 = (M.2.1 p 2) := (W_l W137 c_122)
                  refine tt_gI (pc := 178) rw_33_178 (g_o hG139 (by rcases hp with rfl | rfl <;> rfl)) (v := (M.2.1 p 2)) c_141 (to_c (pc := 181) rw_33_181 (x := (1 : Int32)) rfl rfl (s_add (pc := 182) rw_33_182 (A := (M.2.1 p 2).toInt) (B := 1) rfl rfl (by omega) (fun v142 e143 => s_pI (pc := 183) rw_33_183 hG139 (by rcases hp with rfl | rfl <;> rfl) (fun M145 W144 => ?_))))
                  have hG146 := g_w hG139 W144 (A := v142.toInt) rfl (lo := 0) (hi := 8) (by rcases hp with rfl | rfl <;> rfl) (by rcases hp with rfl | rfl <;> rfl) (by omega) (by omega)
                  have F147 := FR.w F140 W144 (show p = 1 ∧ 5 ≤ 2 ∨ 3 ≤ p ∧ p ≤ 5 ∨ 49 ≤ p ∧ p ≤ 66 by omega)
                  refine to_c (pc := 186) rw_33_186 (x := (1 : Int32)) rfl rfl (s_r1 (pc := 187) rw_33_187 (A := 1) rfl (by decide) ?_)
                  have j_148 := (PI_f (fun a i z => W_n W144 (by omega) rfl) (PI_f (fun a i z => W_l W137 rfl) p_115))
                  have c_149 : M145.2.1 1 10 = (M117.2.1 1 10) := (W_n W144 (by omega) (W_l W137 rfl))
                  have t_150 : (M145.2.1 1 10).toInt = (M117.2.1 1 10).toInt := congrArg Int32.toInt c_149
                  have c_151 : M145.2.1 1 11 = (M117.2.1 1 11) := (W_n W144 (by omega) (W_l W137 rfl))
                  have t_152 : (M145.2.1 1 11).toInt = (M117.2.1 1 11).toInt := congrArg Int32.toInt c_151
                  exact h (1 : Int32) M145 hG146 F147 (by decide) (by decide) j_148 (by omega)
            · refine to_c (pc := 111) rw_33_111 (x := (2 : Int32)) rfl rfl (to_go (pc := 112) rw_33_112 (s_v (pc := 116) rw_33_116 (dp0 hd (by decide)) (ls0 := [.ref p, .ref 1, .int (2 : Int32), .null, .null, .null]) rfl (Nat.le_of_ble_eq_true rfl) (Nat.le_of_ble_eq_true rfl) rfl (to_rc rfl rfl rfl (g_o hG39 (by rcases hp with rfl | rfl <;> rfl))) rfl ?_))
              have k_153 : (2 : Int32).toInt = 2 := rfl
              have c_154 : M40.2.1 p 2 = (M.2.1 p 2) := (F_n F38 (show ¬ (p = 1 ∧ 5 ≤ 2 ∨ 3 ≤ p ∧ p ≤ 5) by omega) (W_n W34 (by omega) c_33))
              have t_155 : (M40.2.1 p 2).toInt = (M.2.1 p 2).toInt := congrArg Int32.toInt c_154
              have j_156 := (PI_f (tg_208 F38) (PI_f (fun a i z => W_n W34 (by omega) rfl) (PI_f (tg_99 F26) (PI_f (tg_208 F21) (PI_f (fun a i z => W_n W17 (by omega) rfl) (PI_f (tg_208 F8) (PI_f (tg_208 F3) q1)))))))
              refine C_36 hX (dp1 hd (by decide)) hG39 hp (by omega) (by omega) (by omega) j_156 (p := p) (w := (2 : Int32)) (fun r157 M164 hG159 F158 p_160 p_161 p_162 p_163 => ?_)
              have F165 := FR.c F41 F158 tg_214
              refine b_ieq (pc := 119) rw_33_119 (A := r157.toInt) rfl (fun h166 => ?_) (fun h166 => ?_)
              · refine to_c (pc := 138) rw_33_138 (x := (0 : Int32)) rfl rfl (to_isn (pc := 139) rw_33_139 (ls2 := [.ref p, .ref 1, .int r25, .int (0 : Int32)]) rfl rfl (to_in (pc := 140) rw_33_140 rfl (b_ine_f (pc := 141) rw_33_141 (A := 0) rfl (by decide) (to_c (pc := 144) rw_33_144 (x := (0 : Int32)) rfl rfl (s_r1 (pc := 145) rw_33_145 (A := 0) rfl (by decide) ?_)))))
                have k_167 : (0 : Int32).toInt = 0 := rfl
                exact h (0 : Int32) M164 hG159 F165 (by decide) (by decide) p_162 (by omega)
              · refine to_in (pc := 122) rw_33_122 rfl (b_ieq_t (pc := 123) rw_33_123 (A := r25.toInt) rfl (by omega) (to_c (pc := 134) rw_33_134 (x := (1 : Int32)) rfl rfl (to_go (pc := 135) rw_33_135 (to_isn (pc := 139) rw_33_139 (ls2 := [.ref p, .ref 1, .int r25, .int (1 : Int32)]) rfl rfl (to_in (pc := 140) rw_33_140 rfl (b_ine_t (pc := 141) rw_33_141 (A := 1) rfl (by decide) (to_an (pc := 146) rw_33_146 rfl (to_dupr (pc := 147) rw_33_147 (s_gJ (pc := 148) rw_33_148 hG159 (by rcases hp with rfl | rfl <;> rfl) (fun l168 => to_an (pc := 151) rw_33_151 rfl (s_gR (pc := 152) rw_33_152 hG159 (by rcases hp with rfl | rfl <;> rfl) (v := (p + 3)) (by rcases hp with rfl | rfl <;> rfl) ?_)))))))))))
                refine to_an (pc := 155) rw_33_155 rfl ?_
                have c_169 : M164.2.1 p 2 = (M.2.1 p 2) := (F_n F158 (show ¬ (p = 1 ∧ 5 ≤ 2 ∨ 3 ≤ p ∧ p ≤ 5 ∨ 50 ≤ p ∧ p ≤ 57 ∨ 59 ≤ p ∧ p ≤ 66) by omega) c_154)
                refine tt_gI (pc := 156) rw_33_156 (g_o hG159 (by rcases hp with rfl | rfl <;> rfl)) (v := (M.2.1 p 2)) c_169 (s_ial (pc := 159) rw_33_159 hG159 (by rcases hp with rfl | rfl <;> rfl) (n := 8) (by rcases hp with rfl | rfl <;> rfl) (by rcases hp with rfl | rfl <;> rfl) (A := (M.2.1 p 2).toInt) rfl (by omega) (by omega) (lo := 0) (hi := 59) (by rcases hp with rfl | rfl <;> rfl) (by rcases hp with rfl | rfl <;> rfl) (fun v170 w_171 _ _ => to_an (pc := 160) rw_33_160 rfl (s_gR (pc := 161) rw_33_161 hG159 (by rcases hp with rfl | rfl <;> rfl) (v := (p + 4)) (by rcases hp with rfl | rfl <;> rfl) (to_an (pc := 164) rw_33_164 rfl (tt_gI (pc := 165) rw_33_165 (g_o hG159 (by rcases hp with rfl | rfl <;> rfl)) (v := (M.2.1 p 2)) c_169 (s_ial (pc := 168) rw_33_168 hG159 (by rcases hp with rfl | rfl <;> rfl) (n := 8) (by rcases hp with rfl | rfl <;> rfl) (by rcases hp with rfl | rfl <;> rfl) (A := (M.2.1 p 2).toInt) rfl (by omega) (by omega) (lo := 0) (hi := 63) (by rcases hp with rfl | rfl <;> rfl) (by rcases hp with rfl | rfl <;> rfl) (fun v172 w_173 _ _ => s_s (pc := 169) rw_33_169 (dp0 hd (by decide)) (ls0 := [.int v170, .int v172]) rfl (Nat.le_of_ble_eq_true rfl) (Nat.le_of_ble_eq_true rfl) rfl (to_rcs rfl rfl) rfl (s_cl (pc := 0) rw_144_0 rfl (fun l174 => to_in (pc := 1) rw_144_1 rfl (to_in (pc := 2) rw_144_2 rfl (s_sub (pc := 3) rw_144_3 (A := v172.toInt) (B := v170.toInt) rfl rfl (by omega) (fun v175 e176 => ?_))))))))))))
                refine to_c (pc := 4) rw_144_4 (x := (1 : Int32)) rfl rfl (s_add (pc := 5) rw_144_5 (A := v175.toInt) (B := 1) rfl rfl (by omega) (fun v177 e178 => s_anyS (pc := 6) rw_144_6 (fun _ _ => rfl) (fun l179 => s_cl (pc := 7) rw_144_7 rfl (fun l180 => s_anyL (pc := 8) rw_144_8 (fun _ _ => rfl) (fun l181 => to_in (pc := 9) rw_144_9 rfl (s_anyS (pc := 10) rw_144_10 (fun _ _ => rfl) (fun l182 => to_rl (pc := 11) rw_144_11 (s_anyL (pc := 172) rw_33_172 (fun _ _ => rfl) (fun l183 => s_pJ (pc := 173) rw_33_173 hG159 (by rcases hp with rfl | rfl <;> rfl) (fun M185 W184 => ?_))))))))))
                have hG186 := g_wl hG159 W184
                have F187 := FR.wl F165 W184 (show p = 1 ∧ 5 ≤ 4 ∨ 3 ≤ p ∧ p ≤ 5 ∨ 49 ≤ p ∧ p ≤ 66 by omega)
                refine to_an (pc := 176) rw_33_176 rfl (to_dupr (pc := 177) rw_33_177 ?_)
                have c_188 : M185.2.1 p 2 = (M.2.1 p 2) := (W_l W184 c_169)
                refine tt_gI (pc := 178) rw_33_178 (g_o hG186 (by rcases hp with rfl | rfl <;> rfl)) (v := (M.2.1 p 2)) c_188 (to_c (pc := 181) rw_33_181 (x := (1 : Int32)) rfl rfl (s_add (pc := 182) rw_33_182 (A := (M.2.1 p 2).toInt) (B := 1) rfl rfl (by omega) (fun v189 e190 => s_pI (pc := 183) rw_33_183 hG186 (by rcases hp with rfl | rfl <;> rfl) (fun M192 W191 => ?_))))
                have hG193 := g_w hG186 W191 (A := v189.toInt) rfl (lo := 0) (hi := 8) (by rcases hp with rfl | rfl <;> rfl) (by rcases hp with rfl | rfl <;> rfl) (by omega) (by omega)
                have F194 := FR.w F187 W191 (show p = 1 ∧ 5 ≤ 2 ∨ 3 ≤ p ∧ p ≤ 5 ∨ 49 ≤ p ∧ p ≤ 66 by omega)
                refine to_c (pc := 186) rw_33_186 (x := (1 : Int32)) rfl rfl (s_r1 (pc := 187) rw_33_187 (A := 1) rfl (by decide) ?_)
                have k_195 : (1 : Int32).toInt = 1 := rfl
                have j_196 := (PI_f (fun a i z => W_n W191 (by omega) rfl) (PI_f (fun a i z => W_l W184 rfl) p_162))
                have c_197 : M192.2.1 1 10 = (M164.2.1 1 10) := (W_n W191 (by omega) (W_l W184 rfl))
                have t_198 : (M192.2.1 1 10).toInt = (M164.2.1 1 10).toInt := congrArg Int32.toInt c_197
                have c_199 : M192.2.1 1 11 = (M164.2.1 1 11) := (W_n W191 (by omega) (W_l W184 rfl))
                have t_200 : (M192.2.1 1 11).toInt = (M164.2.1 1 11).toInt := congrArg Int32.toInt c_199
                exact h (1 : Int32) M192 hG193 F194 (by decide) (by decide) j_196 (by omega)
          · refine to_an (pc := 86) rw_33_86 rfl (to_an (pc := 87) rw_33_87 rfl (to_in (pc := 88) rw_33_88 rfl (to_c (pc := 89) rw_33_89 (x := (1 : Int32)) rfl rfl (b_cne_t (pc := 90) rw_33_90 (A := r25.toInt) (B := 1) rfl rfl (by omega) (to_c (pc := 97) rw_33_97 (x := (5 : Int32)) rfl rfl (s_v (pc := 98) rw_33_98 (dp0 hd (by decide)) (ls0 := [.ref p, .ref 1, .int (5 : Int32), .null, .null]) rfl (Nat.le_of_ble_eq_true rfl) (Nat.le_of_ble_eq_true rfl) rfl (to_rc rfl rfl rfl (g_o hG39 (by rcases hp with rfl | rfl <;> rfl))) rfl ?_))))))
            have k_201 : (5 : Int32).toInt = 5 := rfl
            have c_202 : M40.2.1 p 2 = (M.2.1 p 2) := (F_n F38 (show ¬ (p = 1 ∧ 5 ≤ 2 ∨ 3 ≤ p ∧ p ≤ 5) by omega) (W_n W34 (by omega) c_33))
            have t_203 : (M40.2.1 p 2).toInt = (M.2.1 p 2).toInt := congrArg Int32.toInt c_202
            have j_204 := (PI_f (tg_208 F38) (PI_f (fun a i z => W_n W34 (by omega) rfl) (PI_f (tg_99 F26) (PI_f (tg_208 F21) (PI_f (fun a i z => W_n W17 (by omega) rfl) (PI_f (tg_208 F8) (PI_f (tg_208 F3) q1)))))))
            refine C_37 hX (dp1 hd (by decide)) hG39 hp (by omega) (by omega) (by omega) j_204 (p := p) (w := (5 : Int32)) (fun r205 M212 hG207 F206 p_208 p_209 p_210 p_211 => ?_)
            have F213 := FR.c F41 F206 tg_214
            refine to_isn (pc := 101) rw_33_101 (ls2 := [.ref p, .ref 1, .int r25, .int r205]) rfl rfl (to_go (pc := 102) rw_33_102 (to_in (pc := 140) rw_33_140 rfl (b_ine (pc := 141) rw_33_141 (A := r205.toInt) rfl (fun h214 => ?_) (fun h214 => ?_))))
            · refine to_an (pc := 146) rw_33_146 rfl (to_dupr (pc := 147) rw_33_147 (s_gJ (pc := 148) rw_33_148 hG207 (by rcases hp with rfl | rfl <;> rfl) (fun l215 => to_an (pc := 151) rw_33_151 rfl (s_gR (pc := 152) rw_33_152 hG207 (by rcases hp with rfl | rfl <;> rfl) (v := (p + 3)) (by rcases hp with rfl | rfl <;> rfl) (to_an (pc := 155) rw_33_155 rfl ?_)))))
              have c_216 : M212.2.1 p 2 = (M.2.1 p 2) := (F_n F206 (show ¬ (p = 1 ∧ 5 ≤ 2 ∨ 3 ≤ p ∧ p ≤ 5 ∨ 50 ≤ p ∧ p ≤ 57 ∨ 59 ≤ p ∧ p ≤ 66) by omega) c_202)
              refine tt_gI (pc := 156) rw_33_156 (g_o hG207 (by rcases hp with rfl | rfl <;> rfl)) (v := (M.2.1 p 2)) c_216 (s_ial (pc := 159) rw_33_159 hG207 (by rcases hp with rfl | rfl <;> rfl) (n := 8) (by rcases hp with rfl | rfl <;> rfl) (by rcases hp with rfl | rfl <;> rfl) (A := (M.2.1 p 2).toInt) rfl (by omega) (by omega) (lo := 0) (hi := 59) (by rcases hp with rfl | rfl <;> rfl) (by rcases hp with rfl | rfl <;> rfl) (fun v217 w_218 _ _ => to_an (pc := 160) rw_33_160 rfl (s_gR (pc := 161) rw_33_161 hG207 (by rcases hp with rfl | rfl <;> rfl) (v := (p + 4)) (by rcases hp with rfl | rfl <;> rfl) (to_an (pc := 164) rw_33_164 rfl (tt_gI (pc := 165) rw_33_165 (g_o hG207 (by rcases hp with rfl | rfl <;> rfl)) (v := (M.2.1 p 2)) c_216 (s_ial (pc := 168) rw_33_168 hG207 (by rcases hp with rfl | rfl <;> rfl) (n := 8) (by rcases hp with rfl | rfl <;> rfl) (by rcases hp with rfl | rfl <;> rfl) (A := (M.2.1 p 2).toInt) rfl (by omega) (by omega) (lo := 0) (hi := 63) (by rcases hp with rfl | rfl <;> rfl) (by rcases hp with rfl | rfl <;> rfl) (fun v219 w_220 _ _ => s_s (pc := 169) rw_33_169 (dp0 hd (by decide)) (ls0 := [.int v217, .int v219]) rfl (Nat.le_of_ble_eq_true rfl) (Nat.le_of_ble_eq_true rfl) rfl (to_rcs rfl rfl) rfl (s_cl (pc := 0) rw_144_0 rfl (fun l221 => to_in (pc := 1) rw_144_1 rfl (to_in (pc := 2) rw_144_2 rfl (s_sub (pc := 3) rw_144_3 (A := v219.toInt) (B := v217.toInt) rfl rfl (by omega) (fun v222 e223 => ?_))))))))))))
              refine to_c (pc := 4) rw_144_4 (x := (1 : Int32)) rfl rfl (s_add (pc := 5) rw_144_5 (A := v222.toInt) (B := 1) rfl rfl (by omega) (fun v224 e225 => s_anyS (pc := 6) rw_144_6 (fun _ _ => rfl) (fun l226 => s_cl (pc := 7) rw_144_7 rfl (fun l227 => s_anyL (pc := 8) rw_144_8 (fun _ _ => rfl) (fun l228 => to_in (pc := 9) rw_144_9 rfl (s_anyS (pc := 10) rw_144_10 (fun _ _ => rfl) (fun l229 => to_rl (pc := 11) rw_144_11 (s_anyL (pc := 172) rw_33_172 (fun _ _ => rfl) (fun l230 => s_pJ (pc := 173) rw_33_173 hG207 (by rcases hp with rfl | rfl <;> rfl) (fun M232 W231 => ?_))))))))))
              have hG233 := g_wl hG207 W231
              have F234 := FR.wl F213 W231 (show p = 1 ∧ 5 ≤ 4 ∨ 3 ≤ p ∧ p ≤ 5 ∨ 49 ≤ p ∧ p ≤ 66 by omega)
              refine to_an (pc := 176) rw_33_176 rfl (to_dupr (pc := 177) rw_33_177 ?_)
              have c_235 : M232.2.1 p 2 = (M.2.1 p 2) := (W_l W231 c_216)
              refine tt_gI (pc := 178) rw_33_178 (g_o hG233 (by rcases hp with rfl | rfl <;> rfl)) (v := (M.2.1 p 2)) c_235 (to_c (pc := 181) rw_33_181 (x := (1 : Int32)) rfl rfl (s_add (pc := 182) rw_33_182 (A := (M.2.1 p 2).toInt) (B := 1) rfl rfl (by omega) (fun v236 e237 => s_pI (pc := 183) rw_33_183 hG233 (by rcases hp with rfl | rfl <;> rfl) (fun M239 W238 => ?_))))
              have hG240 := g_w hG233 W238 (A := v236.toInt) rfl (lo := 0) (hi := 8) (by rcases hp with rfl | rfl <;> rfl) (by rcases hp with rfl | rfl <;> rfl) (by omega) (by omega)
              have F241 := FR.w F234 W238 (show p = 1 ∧ 5 ≤ 2 ∨ 3 ≤ p ∧ p ≤ 5 ∨ 49 ≤ p ∧ p ≤ 66 by omega)
              refine to_c (pc := 186) rw_33_186 (x := (1 : Int32)) rfl rfl (s_r1 (pc := 187) rw_33_187 (A := 1) rfl (by decide) ?_)
              have k_242 : (1 : Int32).toInt = 1 := rfl
              have j_243 := (PI_f (fun a i z => W_n W238 (by omega) rfl) (PI_f (fun a i z => W_l W231 rfl) p_210))
              have c_244 : M239.2.1 1 10 = (M212.2.1 1 10) := (W_n W238 (by omega) (W_l W231 rfl))
              have t_245 : (M239.2.1 1 10).toInt = (M212.2.1 1 10).toInt := congrArg Int32.toInt c_244
              have c_246 : M239.2.1 1 11 = (M212.2.1 1 11) := (W_n W238 (by omega) (W_l W231 rfl))
              have t_247 : (M239.2.1 1 11).toInt = (M212.2.1 1 11).toInt := congrArg Int32.toInt c_246
              exact h (1 : Int32) M239 hG240 F241 (by decide) (by decide) j_243 (by omega)
            · refine to_c (pc := 144) rw_33_144 (x := (0 : Int32)) rfl rfl (s_r1 (pc := 145) rw_33_145 (A := 0) rfl (by decide) ?_)
              have k_248 : (0 : Int32).toInt = 0 := rfl
              exact h (0 : Int32) M212 hG207 F213 (by decide) (by decide) p_210 (by omega)
      · refine to_an (pc := 56) rw_33_56 rfl (to_c (pc := 57) rw_33_57 (x := (1 : Int32)) rfl rfl (s_v (pc := 58) rw_33_58 (dp0 hd (by decide)) (ls0 := [.ref 1, .int (1 : Int32)]) rfl (Nat.le_of_ble_eq_true rfl) (Nat.le_of_ble_eq_true rfl) rfl (to_rc rfl rfl rfl (g_o hG27 rfl)) rfl (to_an (pc := 0) rw_84_0 rfl (to_in (pc := 1) rw_84_1 rfl (s_pI (pc := 2) rw_84_2 hG27 rfl (fun M250 W249 => ?_))))))
        have hG251 := g_wf hG27 W249 rfl rfl (by decide)
        have F252 := FR.w F31 W249 (show 1 = 1 ∧ 5 ≤ 10 ∨ 3 ≤ 1 ∧ 1 ≤ 5 ∨ 49 ≤ 1 ∧ 1 ≤ 66 by decide)
        refine to_an (pc := 5) rw_84_5 rfl (to_an (pc := 6) rw_84_6 rfl ?_)
        have c_253 : M250.2.1 1 9 = (M23.2.1 1 9) := (W_n W249 (by decide) (F_n F26 (show ¬ (1 < 0) by decide) rfl))
        refine tt_gI (pc := 7) rw_84_7 (g_o hG251 rfl) (v := (M23.2.1 1 9)) c_253 (s_pI (pc := 10) rw_84_10 hG251 rfl (fun M255 W254 => ?_))
        have hG256 := g_wf hG251 W254 rfl rfl (by decide)
        have F257 := FR.w F252 W254 (show 1 = 1 ∧ 5 ≤ 11 ∨ 3 ≤ 1 ∧ 1 ≤ 5 ∨ 49 ≤ 1 ∧ 1 ≤ 66 by decide)
        refine to_c (pc := 13) rw_84_13 (x := (0 : Int32)) rfl rfl (s_r1 (pc := 14) rw_84_14 (A := 0) rfl (by decide) (s_r1 (pc := 61) rw_33_61 (A := 0) rfl (by decide) ?_))
        have k_258 : (0 : Int32).toInt = 0 := rfl
        have j_259 := (PI_f (fun a i z => W_n W254 (by /-r1,11-/ omega) rfl) (PI_f (fun a i z => W_n W249 (by /-r1,10-/ omega) rfl) (PI_f (tg_99 F26) (PI_f (tg_208 F21) (PI_f (fun a i z => W_n W17 (by omega) rfl) (PI_f (tg_208 F8) (PI_f (tg_208 F3) q1)))))))
        have c_260 : M255.2.1 1 10 = (1 : Int32) := (W_n W254 (by decide) (W_e W249))
        have k_261 : (1 : Int32).toInt = 1 := rfl
        have t_262 : (M255.2.1 1 10).toInt = (1 : Int32).toInt := congrArg Int32.toInt c_260
        have c_263 : M255.2.1 1 11 = (M23.2.1 1 9) := (W_e W254)
        have t_264 : (M255.2.1 1 11).toInt = (M23.2.1 1 9).toInt := congrArg Int32.toInt c_263
        exact h (0 : Int32) M255 hG256 F257 (by decide) (by decide) j_259 (by omega)
    · refine to_c (pc := 27) rw_33_27 (x := (0 : Int32)) rfl rfl (s_r1 (pc := 28) rw_33_28 (A := 0) rfl (by decide) ?_)
      have k_265 : (0 : Int32).toInt = 0 := rfl
      have j_266 := (PI_f (tg_208 F8) (PI_f (tg_208 F3) q1))
      exact h (0 : Int32) M13 hG9 F14 (by decide) (by decide) j_266 (by omega)
  · refine to_an (pc := 9) rw_33_9 rfl (to_c (pc := 10) rw_33_10 (x := (2 : Int32)) rfl rfl (s_v (pc := 11) rw_33_11 (dp0 hd (by decide)) (ls0 := [.ref 1, .int (2 : Int32)]) rfl (Nat.le_of_ble_eq_true rfl) (Nat.le_of_ble_eq_true rfl) rfl (to_rc rfl rfl rfl (g_o hG rfl)) rfl (to_an (pc := 0) rw_84_0 rfl (to_in (pc := 1) rw_84_1 rfl (s_pI (pc := 2) rw_84_2 hG rfl (fun M268 W267 => ?_))))))
    have hG269 := g_wf hG W267 rfl rfl (by decide)
    have F270 := FR.w F0 W267 (show 1 = 1 ∧ 5 ≤ 10 ∨ 3 ≤ 1 ∧ 1 ≤ 5 ∨ 49 ≤ 1 ∧ 1 ≤ 66 by decide)
    refine to_an (pc := 5) rw_84_5 rfl (to_an (pc := 6) rw_84_6 rfl ?_)
    have c_271 : M268.2.1 1 9 = (M.2.1 1 9) := (W_n W267 (by decide) rfl)
    refine tt_gI (pc := 7) rw_84_7 (g_o hG269 rfl) (v := (M.2.1 1 9)) c_271 (s_pI (pc := 10) rw_84_10 hG269 rfl (fun M273 W272 => ?_))
    have hG274 := g_wf hG269 W272 rfl rfl (by decide)
    have F275 := FR.w F270 W272 (show 1 = 1 ∧ 5 ≤ 11 ∨ 3 ≤ 1 ∧ 1 ≤ 5 ∨ 49 ≤ 1 ∧ 1 ≤ 66 by decide)
    refine to_c (pc := 13) rw_84_13 (x := (0 : Int32)) rfl rfl (s_r1 (pc := 14) rw_84_14 (A := 0) rfl (by decide) (s_r1 (pc := 14) rw_33_14 (A := 0) rfl (by decide) ?_))
    have k_276 : (0 : Int32).toInt = 0 := rfl
    have j_277 := (PI_f (fun a i z => W_n W272 (by /-r1,11-/ omega) rfl) (PI_f (fun a i z => W_n W267 (by /-r1,10-/ omega) rfl) q1))
    have c_278 : M273.2.1 1 10 = (2 : Int32) := (W_n W272 (by decide) (W_e W267))
    have k_279 : (2 : Int32).toInt = 2 := rfl
    have t_280 : (M273.2.1 1 10).toInt = (2 : Int32).toInt := congrArg Int32.toInt c_278
    have c_281 : M273.2.1 1 11 = (M.2.1 1 9) := (W_e W272)
    have t_282 : (M273.2.1 1 11).toInt = (M.2.1 1 9).toInt := congrArg Int32.toInt c_281
    exact h (0 : Int32) M273 hG274 F275 (by decide) (by decide) j_277 (by omega)
set_option maxRecDepth 4000 in
set_option maxHeartbeats 0 in
theorem T_42_0 {X : mm_X} {d : Nat} {M : mm_M} {Q : Option Value → mm_M → Prop} {p : Nat} {f : Int32} (hX : g_X X) (hd : 2 ≤ d) (hp : p = 49 ∨ p = 58) (q1 : 0 ≤ f.toInt) (q2 : f.toInt ≤ 7) (q3 : (M.2.1 p 3).toInt ≤ 11) (h : ∀ (r : Int32) (M1 : mm_M), g_G M1 → FR md_c42 M M1 → (0 ≤ r.toInt) → (r.toInt ≤ 1) → (r.toInt = 1 → (M1.2.1 1 10).toInt = (M.2.1 1 10).toInt ∧ (M1.2.1 1 11).toInt = (M.2.1 1 11).toInt) → Q (some (.int r)) M1) : ∀ nn9 : Nat, (∀ (N : mm_M) (y3 : Int64) (x5 : Int32) (u6 : Value) (u7 : Value) (u8 : Value), g_G N → FR md_c42 M N → (0 ≤ x5.toInt) → (x5.toInt ≤ 25) → (0 ≤ f.toInt) → (f.toInt ≤ 7) → ((N.2.1 p 3).toInt ≤ 11) → ((N.2.1 1 10).toInt = (M.2.1 1 10).toInt ∧ (N.2.1 1 11).toInt = (M.2.1 1 11).toInt) → 25 - x5.toInt < (nn9 : Int) → mm_T X d 42 5 [.ref p, .ref 1, .int f, .long y3, .null, .int x5, u6, u7, u8] [] N Q) := by
  intro nn9
  induction nn9 with
  | zero =>
    intro N y3 x5 u6 u7 u8 hG F0 g1 g2 g3 g4 g5 g6 hm
    have b_1 := g_b hG (a := p) (i := 3) (lo := 0) (hi := 12) (by rcases hp with rfl | rfl <;> rfl) (by rcases hp with rfl | rfl <;> rfl)
    exfalso; omega
  | succ nn9 ih =>
    intro N y3 x5 u6 u7 u8 hG F0 g1 g2 g3 g4 g5 g6 hm
    have b_2 := g_b hG (a := p) (i := 3) (lo := 0) (hi := 12) (by rcases hp with rfl | rfl <;> rfl) (by rcases hp with rfl | rfl <;> rfl)
    refine to_i (pc := 5) rw_42_5 rfl (b_ieq (pc := 7) rw_42_7 (A := x5.toInt) rfl (fun h3 => ?_) (fun h3 => ?_))
    · refine to_i (pc := 29) rw_42_29 rfl (to_an (pc := 31) rw_42_31 rfl (s_gR (pc := 32) rw_42_32 hG (by rcases hp with rfl | rfl <;> rfl) (v := (p + 5)) (by rcases hp with rfl | rfl <;> rfl) (to_in (pc := 35) rw_42_35 rfl (s_ial (pc := 36) rw_42_36 hG (by rcases hp with rfl | rfl <;> rfl) (n := 8) (by rcases hp with rfl | rfl <;> rfl) (by rcases hp with rfl | rfl <;> rfl) (A := f.toInt) rfl (by omega) (by omega) (lo := 0) (hi := 24) (by rcases hp with rfl | rfl <;> rfl) (by rcases hp with rfl | rfl <;> rfl) (fun v4 w_5 _ _ => b_cge (pc := 37) rw_42_37 (A := x5.toInt) (B := v4.toInt) rfl rfl (fun h6 => ?_) (fun h6 => ?_))))))
      · refine to_c (pc := 50) rw_42_50 (x := (-1 : Int32)) rfl rfl (to_is (pc := 51) rw_42_51 (ls2 := [.ref p, .ref 1, .int f, .long y3, .null, .int x5, .int (-1 : Int32), u7, u8]) rfl rfl (to_an (pc := 53) rw_42_53 rfl (to_c (pc := 54) rw_42_54 (x := (0 : Int32)) rfl rfl (to_i (pc := 55) rw_42_55 rfl (s_v (pc := 57) rw_42_57 (dp0 hd (by decide)) (ls0 := [.ref 1, .int (0 : Int32), .int (-1 : Int32)]) rfl (Nat.le_of_ble_eq_true rfl) (Nat.le_of_ble_eq_true rfl) rfl (to_rc rfl rfl rfl (g_o hG rfl)) rfl (to_an (pc := 0) rw_88_0 rfl (tt_gI (pc := 1) rw_88_1 (g_o hG rfl) (v := (N.2.1 1 7)) rfl (to_c (pc := 4) rw_88_4 (x := (2 : Int32)) rfl rfl (b_ceq (pc := 5) rw_88_5 (A := (N.2.1 1 7).toInt) (B := 2) rfl rfl (fun h7 => ?_) (fun h7 => ?_))))))))))
        · refine to_an (pc := 14) rw_88_14 rfl (tt_gI (pc := 15) rw_88_15 (g_o hG rfl) (v := (N.2.1 1 8)) rfl (to_in (pc := 18) rw_88_18 rfl (b_clt (pc := 19) rw_88_19 (A := (N.2.1 1 8).toInt) (B := 0) rfl rfl (fun h8 => ?_) (fun h8 => ?_))))
          · refine to_an (pc := 30) rw_88_30 rfl (to_c (pc := 31) rw_88_31 (x := (2 : Int32)) rfl rfl (s_v (pc := 32) rw_88_32 (dp1 hd (by decide)) (ls0 := [.ref 1, .int (2 : Int32)]) rfl (Nat.le_of_ble_eq_true rfl) (Nat.le_of_ble_eq_true rfl) rfl (to_rc rfl rfl rfl (g_o hG rfl)) rfl (to_an (pc := 0) rw_84_0 rfl (to_in (pc := 1) rw_84_1 rfl (s_pI (pc := 2) rw_84_2 hG rfl (fun M10 W9 => ?_))))))
            have hG11 := g_wf hG W9 rfl rfl (by decide)
            have F12 := FR.w F0 W9 (show 1 = 1 ∧ 5 ≤ 10 ∨ 3 ≤ 1 ∧ 1 ≤ 5 ∨ 1 = 57 ∨ 1 = 66 by decide)
            refine to_an (pc := 5) rw_84_5 rfl (to_an (pc := 6) rw_84_6 rfl ?_)
            have c_13 : M10.2.1 1 9 = (N.2.1 1 9) := (W_n W9 (by decide) rfl)
            refine tt_gI (pc := 7) rw_84_7 (g_o hG11 rfl) (v := (N.2.1 1 9)) c_13 (s_pI (pc := 10) rw_84_10 hG11 rfl (fun M15 W14 => ?_))
            have hG16 := g_wf hG11 W14 rfl rfl (by decide)
            have F17 := FR.w F12 W14 (show 1 = 1 ∧ 5 ≤ 11 ∨ 3 ≤ 1 ∧ 1 ≤ 5 ∨ 1 = 57 ∨ 1 = 66 by decide)
            refine to_c (pc := 13) rw_84_13 (x := (0 : Int32)) rfl rfl (s_r1 (pc := 14) rw_84_14 (A := 0) rfl (by decide) (b_ieq_t (pc := 35) rw_88_35 (A := 0) rfl (by decide) (to_c (pc := 42) rw_88_42 (x := (0 : Int32)) rfl rfl (s_r1 (pc := 43) rw_88_43 (A := 0) rfl (by decide) (b_ine_f (pc := 60) rw_42_60 (A := 0) rfl (by decide) (to_c (pc := 63) rw_42_63 (x := (0 : Int32)) rfl rfl (s_r1 (pc := 64) rw_42_64 (A := 0) rfl (by decide) ?_)))))))
            have k_18 : (0 : Int32).toInt = 0 := rfl
            have c_19 : M15.2.1 1 10 = (2 : Int32) := (W_n W14 (by decide) (W_e W9))
            have k_20 : (2 : Int32).toInt = 2 := rfl
            have t_21 : (M15.2.1 1 10).toInt = (2 : Int32).toInt := congrArg Int32.toInt c_19
            have c_22 : M15.2.1 1 11 = (N.2.1 1 9) := (W_e W14)
            have t_23 : (M15.2.1 1 11).toInt = (N.2.1 1 9).toInt := congrArg Int32.toInt c_22
            exact h (0 : Int32) M15 hG16 F17 (by decide) (by decide) (by omega)
          · refine to_an (pc := 22) rw_88_22 rfl (tt_gI (pc := 23) rw_88_23 (g_o hG rfl) (v := (N.2.1 1 8)) rfl (to_in (pc := 26) rw_88_26 rfl (b_cle_f (pc := 27) rw_88_27 (A := (N.2.1 1 8).toInt) (B := -1) rfl rfl (by omega) (to_an (pc := 30) rw_88_30 rfl (to_c (pc := 31) rw_88_31 (x := (2 : Int32)) rfl rfl (s_v (pc := 32) rw_88_32 (dp1 hd (by decide)) (ls0 := [.ref 1, .int (2 : Int32)]) rfl (Nat.le_of_ble_eq_true rfl) (Nat.le_of_ble_eq_true rfl) rfl (to_rc rfl rfl rfl (g_o hG rfl)) rfl (to_an (pc := 0) rw_84_0 rfl (to_in (pc := 1) rw_84_1 rfl (s_pI (pc := 2) rw_84_2 hG rfl (fun M25 W24 => ?_))))))))))
            have hG26 := g_wf hG W24 rfl rfl (by decide)
            have F27 := FR.w F0 W24 (show 1 = 1 ∧ 5 ≤ 10 ∨ 3 ≤ 1 ∧ 1 ≤ 5 ∨ 1 = 57 ∨ 1 = 66 by decide)
            refine to_an (pc := 5) rw_84_5 rfl (to_an (pc := 6) rw_84_6 rfl ?_)
            have c_28 : M25.2.1 1 9 = (N.2.1 1 9) := (W_n W24 (by decide) rfl)
            refine tt_gI (pc := 7) rw_84_7 (g_o hG26 rfl) (v := (N.2.1 1 9)) c_28 (s_pI (pc := 10) rw_84_10 hG26 rfl (fun M30 W29 => ?_))
            have hG31 := g_wf hG26 W29 rfl rfl (by decide)
            have F32 := FR.w F27 W29 (show 1 = 1 ∧ 5 ≤ 11 ∨ 3 ≤ 1 ∧ 1 ≤ 5 ∨ 1 = 57 ∨ 1 = 66 by decide)
            refine to_c (pc := 13) rw_84_13 (x := (0 : Int32)) rfl rfl (s_r1 (pc := 14) rw_84_14 (A := 0) rfl (by decide) (b_ieq_t (pc := 35) rw_88_35 (A := 0) rfl (by decide) (to_c (pc := 42) rw_88_42 (x := (0 : Int32)) rfl rfl (s_r1 (pc := 43) rw_88_43 (A := 0) rfl (by decide) (b_ine_f (pc := 60) rw_42_60 (A := 0) rfl (by decide) (to_c (pc := 63) rw_42_63 (x := (0 : Int32)) rfl rfl (s_r1 (pc := 64) rw_42_64 (A := 0) rfl (by decide) ?_)))))))
            have k_33 : (0 : Int32).toInt = 0 := rfl
            have c_34 : M30.2.1 1 10 = (2 : Int32) := (W_n W29 (by decide) (W_e W24))
            have k_35 : (2 : Int32).toInt = 2 := rfl
            have t_36 : (M30.2.1 1 10).toInt = (2 : Int32).toInt := congrArg Int32.toInt c_34
            have c_37 : M30.2.1 1 11 = (N.2.1 1 9) := (W_e W29)
            have t_38 : (M30.2.1 1 11).toInt = (N.2.1 1 9).toInt := congrArg Int32.toInt c_37
            exact h (0 : Int32) M30 hG31 F32 (by decide) (by decide) (by omega)
        · refine to_an (pc := 8) rw_88_8 rfl (to_c (pc := 9) rw_88_9 (x := (1 : Int32)) rfl rfl (s_v (pc := 10) rw_88_10 (dp1 hd (by decide)) (ls0 := [.ref 1, .int (1 : Int32)]) rfl (Nat.le_of_ble_eq_true rfl) (Nat.le_of_ble_eq_true rfl) rfl (to_rc rfl rfl rfl (g_o hG rfl)) rfl (to_an (pc := 0) rw_84_0 rfl (to_in (pc := 1) rw_84_1 rfl (s_pI (pc := 2) rw_84_2 hG rfl (fun M40 W39 => ?_))))))
          have hG41 := g_wf hG W39 rfl rfl (by decide)
          have F42 := FR.w F0 W39 (show 1 = 1 ∧ 5 ≤ 10 ∨ 3 ≤ 1 ∧ 1 ≤ 5 ∨ 1 = 57 ∨ 1 = 66 by decide)
          refine to_an (pc := 5) rw_84_5 rfl (to_an (pc := 6) rw_84_6 rfl ?_)
          have c_43 : M40.2.1 1 9 = (N.2.1 1 9) := (W_n W39 (by decide) rfl)
          refine tt_gI (pc := 7) rw_84_7 (g_o hG41 rfl) (v := (N.2.1 1 9)) c_43 (s_pI (pc := 10) rw_84_10 hG41 rfl (fun M45 W44 => ?_))
          have hG46 := g_wf hG41 W44 rfl rfl (by decide)
          have F47 := FR.w F42 W44 (show 1 = 1 ∧ 5 ≤ 11 ∨ 3 ≤ 1 ∧ 1 ≤ 5 ∨ 1 = 57 ∨ 1 = 66 by decide)
          refine to_c (pc := 13) rw_84_13 (x := (0 : Int32)) rfl rfl (s_r1 (pc := 14) rw_84_14 (A := 0) rfl (by decide) (s_r1 (pc := 13) rw_88_13 (A := 0) rfl (by decide) (b_ine_f (pc := 60) rw_42_60 (A := 0) rfl (by decide) (to_c (pc := 63) rw_42_63 (x := (0 : Int32)) rfl rfl (s_r1 (pc := 64) rw_42_64 (A := 0) rfl (by decide) ?_)))))
          have k_48 : (0 : Int32).toInt = 0 := rfl
          have c_49 : M45.2.1 1 10 = (1 : Int32) := (W_n W44 (by decide) (W_e W39))
          have k_50 : (1 : Int32).toInt = 1 := rfl
          have t_51 : (M45.2.1 1 10).toInt = (1 : Int32).toInt := congrArg Int32.toInt c_49
          have c_52 : M45.2.1 1 11 = (N.2.1 1 9) := (W_e W44)
          have t_53 : (M45.2.1 1 11).toInt = (N.2.1 1 9).toInt := congrArg Int32.toInt c_52
          exact h (0 : Int32) M45 hG46 F47 (by decide) (by decide) (by omega)
      · refine to_an (pc := 40) rw_42_40 rfl (to_in (pc := 41) rw_42_41 rfl (s_v (pc := 42) rw_42_42 (dp0 hd (by decide)) (ls0 := [.ref p, .int f]) rfl (Nat.le_of_ble_eq_true rfl) (Nat.le_of_ble_eq_true rfl) rfl (to_rc rfl rfl rfl (g_o hG (by rcases hp with rfl | rfl <;> rfl))) rfl (to_an (pc := 0) rw_47_0 rfl (s_gR (pc := 1) rw_47_1 hG (by rcases hp with rfl | rfl <;> rfl) (v := (p + 4)) (by rcases hp with rfl | rfl <;> rfl) (to_in (pc := 4) rw_47_4 rfl (s_ial (pc := 5) rw_47_5 hG (by rcases hp with rfl | rfl <;> rfl) (n := 8) (by rcases hp with rfl | rfl <;> rfl) (by rcases hp with rfl | rfl <;> rfl) (A := f.toInt) rfl (by omega) (by omega) (lo := 0) (hi := 63) (by rcases hp with rfl | rfl <;> rfl) (by rcases hp with rfl | rfl <;> rfl) (fun v54 w_55 _ _ => to_an (pc := 6) rw_47_6 rfl (s_gR (pc := 7) rw_47_7 hG (by rcases hp with rfl | rfl <;> rfl) (v := (p + 3)) (by rcases hp with rfl | rfl <;> rfl) (to_in (pc := 10) rw_47_10 rfl (s_ial (pc := 11) rw_47_11 hG (by rcases hp with rfl | rfl <;> rfl) (n := 8) (by rcases hp with rfl | rfl <;> rfl) (by rcases hp with rfl | rfl <;> rfl) (A := f.toInt) rfl (by omega) (by omega) (lo := 0) (hi := 59) (by rcases hp with rfl | rfl <;> rfl) (by rcases hp with rfl | rfl <;> rfl) (fun v56 w_57 _ _ => s_sub (pc := 12) rw_47_12 (A := v54.toInt) (B := v56.toInt) rfl rfl (by omega) (fun v58 e59 => ?_))))))))))))
        refine to_c (pc := 13) rw_47_13 (x := (1 : Int32)) rfl rfl (s_add (pc := 14) rw_47_14 (A := v58.toInt) (B := 1) rfl rfl (by omega) (fun v60 e61 => to_r0 (pc := 15) rw_47_15 (to_c (pc := 45) rw_42_45 (x := (1 : Int32)) rfl rfl (s_sub (pc := 46) rw_42_46 (A := v60.toInt) (B := 1) rfl rfl (by omega) (fun v62 e63 => to_go (pc := 47) rw_42_47 (to_is (pc := 51) rw_42_51 (ls2 := [.ref p, .ref 1, .int f, .long y3, .null, .int x5, .int v62, u7, u8]) rfl rfl (to_an (pc := 53) rw_42_53 rfl (to_c (pc := 54) rw_42_54 (x := (0 : Int32)) rfl rfl (to_i (pc := 55) rw_42_55 rfl (s_v (pc := 57) rw_42_57 (dp0 hd (by decide)) (ls0 := [.ref 1, .int (0 : Int32), .int v62]) rfl (Nat.le_of_ble_eq_true rfl) (Nat.le_of_ble_eq_true rfl) rfl (to_rc rfl rfl rfl (g_o hG rfl)) rfl (to_an (pc := 0) rw_88_0 rfl ?_)))))))))))
        refine tt_gI (pc := 1) rw_88_1 (g_o hG rfl) (v := (N.2.1 1 7)) rfl (to_c (pc := 4) rw_88_4 (x := (2 : Int32)) rfl rfl (b_ceq (pc := 5) rw_88_5 (A := (N.2.1 1 7).toInt) (B := 2) rfl rfl (fun h64 => ?_) (fun h64 => ?_)))
        · refine to_an (pc := 14) rw_88_14 rfl (tt_gI (pc := 15) rw_88_15 (g_o hG rfl) (v := (N.2.1 1 8)) rfl (to_in (pc := 18) rw_88_18 rfl (b_clt (pc := 19) rw_88_19 (A := (N.2.1 1 8).toInt) (B := 0) rfl rfl (fun h65 => ?_) (fun h65 => ?_))))
          · refine to_an (pc := 30) rw_88_30 rfl (to_c (pc := 31) rw_88_31 (x := (2 : Int32)) rfl rfl (s_v (pc := 32) rw_88_32 (dp1 hd (by decide)) (ls0 := [.ref 1, .int (2 : Int32)]) rfl (Nat.le_of_ble_eq_true rfl) (Nat.le_of_ble_eq_true rfl) rfl (to_rc rfl rfl rfl (g_o hG rfl)) rfl (to_an (pc := 0) rw_84_0 rfl (to_in (pc := 1) rw_84_1 rfl (s_pI (pc := 2) rw_84_2 hG rfl (fun M67 W66 => ?_))))))
            have hG68 := g_wf hG W66 rfl rfl (by decide)
            have F69 := FR.w F0 W66 (show 1 = 1 ∧ 5 ≤ 10 ∨ 3 ≤ 1 ∧ 1 ≤ 5 ∨ 1 = 57 ∨ 1 = 66 by decide)
            refine to_an (pc := 5) rw_84_5 rfl (to_an (pc := 6) rw_84_6 rfl ?_)
            have c_70 : M67.2.1 1 9 = (N.2.1 1 9) := (W_n W66 (by decide) rfl)
            refine tt_gI (pc := 7) rw_84_7 (g_o hG68 rfl) (v := (N.2.1 1 9)) c_70 (s_pI (pc := 10) rw_84_10 hG68 rfl (fun M72 W71 => ?_))
            have hG73 := g_wf hG68 W71 rfl rfl (by decide)
            have F74 := FR.w F69 W71 (show 1 = 1 ∧ 5 ≤ 11 ∨ 3 ≤ 1 ∧ 1 ≤ 5 ∨ 1 = 57 ∨ 1 = 66 by decide)
            refine to_c (pc := 13) rw_84_13 (x := (0 : Int32)) rfl rfl (s_r1 (pc := 14) rw_84_14 (A := 0) rfl (by decide) (b_ieq_t (pc := 35) rw_88_35 (A := 0) rfl (by decide) (to_c (pc := 42) rw_88_42 (x := (0 : Int32)) rfl rfl (s_r1 (pc := 43) rw_88_43 (A := 0) rfl (by decide) (b_ine_f (pc := 60) rw_42_60 (A := 0) rfl (by decide) (to_c (pc := 63) rw_42_63 (x := (0 : Int32)) rfl rfl (s_r1 (pc := 64) rw_42_64 (A := 0) rfl (by decide) ?_)))))))
            have k_75 : (0 : Int32).toInt = 0 := rfl
            have c_76 : M72.2.1 1 10 = (2 : Int32) := (W_n W71 (by decide) (W_e W66))
            have k_77 : (2 : Int32).toInt = 2 := rfl
            have t_78 : (M72.2.1 1 10).toInt = (2 : Int32).toInt := congrArg Int32.toInt c_76
            have c_79 : M72.2.1 1 11 = (N.2.1 1 9) := (W_e W71)
            have t_80 : (M72.2.1 1 11).toInt = (N.2.1 1 9).toInt := congrArg Int32.toInt c_79
            exact h (0 : Int32) M72 hG73 F74 (by decide) (by decide) (by omega)
          · refine to_an (pc := 22) rw_88_22 rfl (tt_gI (pc := 23) rw_88_23 (g_o hG rfl) (v := (N.2.1 1 8)) rfl (to_in (pc := 26) rw_88_26 rfl (b_cle (pc := 27) rw_88_27 (A := (N.2.1 1 8).toInt) (B := v62.toInt) rfl rfl (fun h81 => ?_) (fun h81 => ?_))))
            · refine to_c (pc := 38) rw_88_38 (x := (1 : Int32)) rfl rfl (to_go (pc := 39) rw_88_39 (s_r1 (pc := 43) rw_88_43 (A := 1) rfl (by decide) (b_ine_t (pc := 60) rw_42_60 (A := 1) rfl (by decide) (s_cl (pc := 65) rw_42_65 rfl (fun l82 => to_an (pc := 66) rw_42_66 rfl (s_gR (pc := 67) rw_42_67 hG (by rcases hp with rfl | rfl <;> rfl) (v := (p + 3)) (by rcases hp with rfl | rfl <;> rfl) (to_in (pc := 70) rw_42_70 rfl (s_ialk (pc := 71) rw_42_71 hG (by rcases hp with rfl | rfl <;> rfl) (n := 8) (by rcases hp with rfl | rfl <;> rfl) (by rcases hp with rfl | rfl <;> rfl) (A := f.toInt) rfl (by omega) (by omega) (v := v56) w_57 (to_an (pc := 72) rw_42_72 rfl (tt_gI (pc := 73) rw_42_73 (g_o hG rfl) (v := (N.2.1 1 8)) rfl (s_add (pc := 76) rw_42_76 (A := v56.toInt) (B := (N.2.1 1 8).toInt) rfl rfl (by omega) (fun v85 e86 => ?_))))))))))))
              refine s_anyS (pc := 77) rw_42_77 (fun _ _ => rfl) (fun l87 => to_ls (pc := 78) rw_42_78 (ls2 := [.ref p, .ref 1, .int f, .long y3, .null, .int x5, .int v62, .long l87, .null]) rfl rfl (to_ln (pc := 80) rw_42_80 rfl rfl rfl (to_l (pc := 81) rw_42_81 rfl rfl rfl (s_anyL (pc := 83) rw_42_83 (fun _ _ => rfl) (fun l88 => s_cl (pc := 84) rw_42_84 rfl (fun l89 => s_lcmp (pc := 85) rw_42_85 (fun v90 => b_ieq (pc := 86) rw_42_86 (A := v90.toInt) rfl (fun h91 => ?_) (fun h91 => ?_))))))))
              · refine to_ln (pc := 95) rw_42_95 rfl rfl rfl (to_l (pc := 96) rw_42_96 rfl rfl rfl (s_anyL (pc := 98) rw_42_98 (fun _ _ => rfl) (fun l92 => to_lsn (pc := 99) rw_42_99 (ls2 := [.ref p, .ref 1, .int f, .long l92, .null, .int x5, .int v62, .long l87, .null]) rfl rfl (s_inc (pc := 100) rw_42_100 (ls2 := fun v => [.ref p, .ref 1, .int f, .long l92, .null, .int v, .int v62, .long l87, .null]) rfl rfl (fun _ => rfl) (A := x5.toInt) (B := 1) rfl rfl (by omega) (fun v93 e94 => to_an (pc := 103) rw_42_103 rfl (s_v (pc := 104) rw_42_104 (dp0 hd (by decide)) (ls0 := [.ref 1]) rfl (Nat.le_of_ble_eq_true rfl) (Nat.le_of_ble_eq_true rfl) rfl (to_rc rfl rfl rfl (g_o hG rfl)) rfl (C_83 hX (dp1 hd (by decide)) hG  (fun M97 hG96 F95 => ?_))))))))
                have F98 := FR.c F0 F95 tg_215
                refine to_go (pc := 107) rw_42_107 ?_
                have c_99 : M97.2.1 p 3 = (N.2.1 p 3) := (F_n F95 (show ¬ (p = 1 ∧ 5 ≤ 3 ∨ 3 ≤ p ∧ p ≤ 5) by omega) rfl)
                have t_100 : (M97.2.1 p 3).toInt = (N.2.1 p 3).toInt := congrArg Int32.toInt c_99
                exact ih M97 l92 v93 (.int v62) (.long l87) (.null) hG96 F98 (by omega) (by omega) (by omega) (by omega) (by omega) (by omega) (by omega)
              · refine to_an (pc := 89) rw_42_89 rfl (to_c (pc := 90) rw_42_90 (x := (3 : Int32)) rfl rfl (s_v (pc := 91) rw_42_91 (dp0 hd (by decide)) (ls0 := [.ref 1, .int (3 : Int32)]) rfl (Nat.le_of_ble_eq_true rfl) (Nat.le_of_ble_eq_true rfl) rfl (to_rc rfl rfl rfl (g_o hG rfl)) rfl (to_an (pc := 0) rw_84_0 rfl (to_in (pc := 1) rw_84_1 rfl (s_pI (pc := 2) rw_84_2 hG rfl (fun M102 W101 => ?_))))))
                have hG103 := g_wf hG W101 rfl rfl (by decide)
                have F104 := FR.w F0 W101 (show 1 = 1 ∧ 5 ≤ 10 ∨ 3 ≤ 1 ∧ 1 ≤ 5 ∨ 1 = 57 ∨ 1 = 66 by decide)
                refine to_an (pc := 5) rw_84_5 rfl (to_an (pc := 6) rw_84_6 rfl ?_)
                have c_105 : M102.2.1 1 9 = (N.2.1 1 9) := (W_n W101 (by decide) rfl)
                refine tt_gI (pc := 7) rw_84_7 (g_o hG103 rfl) (v := (N.2.1 1 9)) c_105 (s_pI (pc := 10) rw_84_10 hG103 rfl (fun M107 W106 => ?_))
                have hG108 := g_wf hG103 W106 rfl rfl (by decide)
                have F109 := FR.w F104 W106 (show 1 = 1 ∧ 5 ≤ 11 ∨ 3 ≤ 1 ∧ 1 ≤ 5 ∨ 1 = 57 ∨ 1 = 66 by decide)
                refine to_c (pc := 13) rw_84_13 (x := (0 : Int32)) rfl rfl (s_r1 (pc := 14) rw_84_14 (A := 0) rfl (by decide) (s_r1 (pc := 94) rw_42_94 (A := 0) rfl (by decide) ?_))
                have k_110 : (0 : Int32).toInt = 0 := rfl
                have c_111 : M107.2.1 1 10 = (3 : Int32) := (W_n W106 (by decide) (W_e W101))
                have k_112 : (3 : Int32).toInt = 3 := rfl
                have t_113 : (M107.2.1 1 10).toInt = (3 : Int32).toInt := congrArg Int32.toInt c_111
                have c_114 : M107.2.1 1 11 = (N.2.1 1 9) := (W_e W106)
                have t_115 : (M107.2.1 1 11).toInt = (N.2.1 1 9).toInt := congrArg Int32.toInt c_114
                exact h (0 : Int32) M107 hG108 F109 (by decide) (by decide) (by omega)
            · refine to_an (pc := 30) rw_88_30 rfl (to_c (pc := 31) rw_88_31 (x := (2 : Int32)) rfl rfl (s_v (pc := 32) rw_88_32 (dp1 hd (by decide)) (ls0 := [.ref 1, .int (2 : Int32)]) rfl (Nat.le_of_ble_eq_true rfl) (Nat.le_of_ble_eq_true rfl) rfl (to_rc rfl rfl rfl (g_o hG rfl)) rfl (to_an (pc := 0) rw_84_0 rfl (to_in (pc := 1) rw_84_1 rfl (s_pI (pc := 2) rw_84_2 hG rfl (fun M117 W116 => ?_))))))
              have hG118 := g_wf hG W116 rfl rfl (by decide)
              have F119 := FR.w F0 W116 (show 1 = 1 ∧ 5 ≤ 10 ∨ 3 ≤ 1 ∧ 1 ≤ 5 ∨ 1 = 57 ∨ 1 = 66 by decide)
              refine to_an (pc := 5) rw_84_5 rfl (to_an (pc := 6) rw_84_6 rfl ?_)
              have c_120 : M117.2.1 1 9 = (N.2.1 1 9) := (W_n W116 (by decide) rfl)
              refine tt_gI (pc := 7) rw_84_7 (g_o hG118 rfl) (v := (N.2.1 1 9)) c_120 (s_pI (pc := 10) rw_84_10 hG118 rfl (fun M122 W121 => ?_))
              have hG123 := g_wf hG118 W121 rfl rfl (by decide)
              have F124 := FR.w F119 W121 (show 1 = 1 ∧ 5 ≤ 11 ∨ 3 ≤ 1 ∧ 1 ≤ 5 ∨ 1 = 57 ∨ 1 = 66 by decide)
              refine to_c (pc := 13) rw_84_13 (x := (0 : Int32)) rfl rfl (s_r1 (pc := 14) rw_84_14 (A := 0) rfl (by decide) (b_ieq_t (pc := 35) rw_88_35 (A := 0) rfl (by decide) (to_c (pc := 42) rw_88_42 (x := (0 : Int32)) rfl rfl (s_r1 (pc := 43) rw_88_43 (A := 0) rfl (by decide) (b_ine_f (pc := 60) rw_42_60 (A := 0) rfl (by decide) (to_c (pc := 63) rw_42_63 (x := (0 : Int32)) rfl rfl (s_r1 (pc := 64) rw_42_64 (A := 0) rfl (by decide) ?_)))))))
              have k_125 : (0 : Int32).toInt = 0 := rfl
              have c_126 : M122.2.1 1 10 = (2 : Int32) := (W_n W121 (by decide) (W_e W116))
              have k_127 : (2 : Int32).toInt = 2 := rfl
              have t_128 : (M122.2.1 1 10).toInt = (2 : Int32).toInt := congrArg Int32.toInt c_126
              have c_129 : M122.2.1 1 11 = (N.2.1 1 9) := (W_e W121)
              have t_130 : (M122.2.1 1 11).toInt = (N.2.1 1 9).toInt := congrArg Int32.toInt c_129
              exact h (0 : Int32) M122 hG123 F124 (by decide) (by decide) (by omega)
        · refine to_an (pc := 8) rw_88_8 rfl (to_c (pc := 9) rw_88_9 (x := (1 : Int32)) rfl rfl (s_v (pc := 10) rw_88_10 (dp1 hd (by decide)) (ls0 := [.ref 1, .int (1 : Int32)]) rfl (Nat.le_of_ble_eq_true rfl) (Nat.le_of_ble_eq_true rfl) rfl (to_rc rfl rfl rfl (g_o hG rfl)) rfl (to_an (pc := 0) rw_84_0 rfl (to_in (pc := 1) rw_84_1 rfl (s_pI (pc := 2) rw_84_2 hG rfl (fun M132 W131 => ?_))))))
          have hG133 := g_wf hG W131 rfl rfl (by decide)
          have F134 := FR.w F0 W131 (show 1 = 1 ∧ 5 ≤ 10 ∨ 3 ≤ 1 ∧ 1 ≤ 5 ∨ 1 = 57 ∨ 1 = 66 by decide)
          refine to_an (pc := 5) rw_84_5 rfl (to_an (pc := 6) rw_84_6 rfl ?_)
          have c_135 : M132.2.1 1 9 = (N.2.1 1 9) := (W_n W131 (by decide) rfl)
          refine tt_gI (pc := 7) rw_84_7 (g_o hG133 rfl) (v := (N.2.1 1 9)) c_135 (s_pI (pc := 10) rw_84_10 hG133 rfl (fun M137 W136 => ?_))
          have hG138 := g_wf hG133 W136 rfl rfl (by decide)
          have F139 := FR.w F134 W136 (show 1 = 1 ∧ 5 ≤ 11 ∨ 3 ≤ 1 ∧ 1 ≤ 5 ∨ 1 = 57 ∨ 1 = 66 by decide)
          refine to_c (pc := 13) rw_84_13 (x := (0 : Int32)) rfl rfl (s_r1 (pc := 14) rw_84_14 (A := 0) rfl (by decide) (s_r1 (pc := 13) rw_88_13 (A := 0) rfl (by decide) (b_ine_f (pc := 60) rw_42_60 (A := 0) rfl (by decide) (to_c (pc := 63) rw_42_63 (x := (0 : Int32)) rfl rfl (s_r1 (pc := 64) rw_42_64 (A := 0) rfl (by decide) ?_)))))
          have k_140 : (0 : Int32).toInt = 0 := rfl
          have c_141 : M137.2.1 1 10 = (1 : Int32) := (W_n W136 (by decide) (W_e W131))
          have k_142 : (1 : Int32).toInt = 1 := rfl
          have t_143 : (M137.2.1 1 10).toInt = (1 : Int32).toInt := congrArg Int32.toInt c_141
          have c_144 : M137.2.1 1 11 = (N.2.1 1 9) := (W_e W136)
          have t_145 : (M137.2.1 1 11).toInt = (N.2.1 1 9).toInt := congrArg Int32.toInt c_144
          exact h (0 : Int32) M137 hG138 F139 (by decide) (by decide) (by omega)
    · refine to_i (pc := 10) rw_42_10 rfl (to_an (pc := 12) rw_42_12 rfl (s_gR (pc := 13) rw_42_13 hG (by rcases hp with rfl | rfl <;> rfl) (v := (p + 5)) (by rcases hp with rfl | rfl <;> rfl) (to_in (pc := 16) rw_42_16 rfl (s_ial (pc := 17) rw_42_17 hG (by rcases hp with rfl | rfl <;> rfl) (n := 8) (by rcases hp with rfl | rfl <;> rfl) (by rcases hp with rfl | rfl <;> rfl) (A := f.toInt) rfl (by omega) (by omega) (lo := 0) (hi := 24) (by rcases hp with rfl | rfl <;> rfl) (by rcases hp with rfl | rfl <;> rfl) (fun v146 w_147 _ _ => b_cgt (pc := 18) rw_42_18 (A := x5.toInt) (B := v146.toInt) rfl rfl (fun h148 => ?_) (fun h148 => ?_))))))
      · refine to_an (pc := 110) rw_42_110 rfl (s_gR (pc := 111) rw_42_111 hG (by rcases hp with rfl | rfl <;> rfl) (v := (p + 8)) (by rcases hp with rfl | rfl <;> rfl) (to_an (pc := 114) rw_42_114 rfl (tt_gI (pc := 115) rw_42_115 (g_o hG (by rcases hp with rfl | rfl <;> rfl)) (v := (N.2.1 p 3)) rfl (to_ln (pc := 118) rw_42_118 rfl rfl rfl (s_las (pc := 119) rw_42_119 hG (by rcases hp with rfl | rfl <;> rfl) (n := 12) (by rcases hp with rfl | rfl <;> rfl) (A := (N.2.1 p 3).toInt) rfl (by omega) (by omega) (fun M150 W149 => ?_))))))
        have hG151 := g_wl hG W149
        have F152 := FR.wl F0 W149 (show (p + 8) = 1 ∧ 5 ≤ ((N.2.1 p 3).toInt).toNat ∨ 3 ≤ (p + 8) ∧ (p + 8) ≤ 5 ∨ (p + 8) = 57 ∨ (p + 8) = 66 by omega)
        refine to_i (pc := 120) rw_42_120 rfl (to_an (pc := 122) rw_42_122 rfl (s_gR (pc := 123) rw_42_123 hG151 (by rcases hp with rfl | rfl <;> rfl) (v := (p + 5)) (by rcases hp with rfl | rfl <;> rfl) (to_in (pc := 126) rw_42_126 rfl (s_ialk (pc := 127) rw_42_127 hG151 (by rcases hp with rfl | rfl <;> rfl) (n := 8) (by rcases hp with rfl | rfl <;> rfl) (by rcases hp with rfl | rfl <;> rfl) (A := f.toInt) rfl (by omega) (by omega) (v := v146) (W_l W149 w_147) (b_ceq (pc := 128) rw_42_128 (A := x5.toInt) (B := v146.toInt) rfl rfl (fun h155 => ?_) (fun h155 => ?_))))))
        · refine to_c (pc := 148) rw_42_148 (x := (1 : Int32)) rfl rfl (to_go (pc := 149) rw_42_149 (s_r1 (pc := 153) rw_42_153 (A := 1) rfl (by decide) ?_))
          have k_156 : (1 : Int32).toInt = 1 := rfl
          have c_157 : M150.2.1 1 10 = (N.2.1 1 10) := (W_l W149 rfl)
          have t_158 : (M150.2.1 1 10).toInt = (N.2.1 1 10).toInt := congrArg Int32.toInt c_157
          have c_159 : M150.2.1 1 11 = (N.2.1 1 11) := (W_l W149 rfl)
          have t_160 : (M150.2.1 1 11).toInt = (N.2.1 1 11).toInt := congrArg Int32.toInt c_159
          exact h (1 : Int32) M150 hG151 F152 (by decide) (by decide) (by omega)
        · refine to_an (pc := 131) rw_42_131 rfl ?_
          have c_161 : M150.2.1 1 7 = (N.2.1 1 7) := (W_l W149 rfl)
          refine tt_gI (pc := 132) rw_42_132 (g_o hG151 rfl) (v := (N.2.1 1 7)) c_161 (to_c (pc := 135) rw_42_135 (x := (59 : Int32)) rfl rfl (b_cne (pc := 137) rw_42_137 (A := (N.2.1 1 7).toInt) (B := 59) rfl rfl (fun h162 => ?_) (fun h162 => ?_)))
          · refine to_c (pc := 148) rw_42_148 (x := (1 : Int32)) rfl rfl (to_go (pc := 149) rw_42_149 (s_r1 (pc := 153) rw_42_153 (A := 1) rfl (by decide) ?_))
            have k_163 : (1 : Int32).toInt = 1 := rfl
            have c_164 : M150.2.1 1 10 = (N.2.1 1 10) := (W_l W149 rfl)
            have t_165 : (M150.2.1 1 10).toInt = (N.2.1 1 10).toInt := congrArg Int32.toInt c_164
            have c_166 : M150.2.1 1 11 = (N.2.1 1 11) := (W_l W149 rfl)
            have t_167 : (M150.2.1 1 11).toInt = (N.2.1 1 11).toInt := congrArg Int32.toInt c_166
            exact h (1 : Int32) M150 hG151 F152 (by decide) (by decide) (by omega)
          · refine to_an (pc := 140) rw_42_140 rfl (to_c (pc := 141) rw_42_141 (x := (5 : Int32)) rfl rfl (s_v (pc := 142) rw_42_142 (dp0 hd (by decide)) (ls0 := [.ref 1, .int (5 : Int32)]) rfl (Nat.le_of_ble_eq_true rfl) (Nat.le_of_ble_eq_true rfl) rfl (to_rc rfl rfl rfl (g_o hG151 rfl)) rfl (to_an (pc := 0) rw_84_0 rfl (to_in (pc := 1) rw_84_1 rfl (s_pI (pc := 2) rw_84_2 hG151 rfl (fun M169 W168 => ?_))))))
            have hG170 := g_wf hG151 W168 rfl rfl (by decide)
            have F171 := FR.w F152 W168 (show 1 = 1 ∧ 5 ≤ 10 ∨ 3 ≤ 1 ∧ 1 ≤ 5 ∨ 1 = 57 ∨ 1 = 66 by decide)
            refine to_an (pc := 5) rw_84_5 rfl (to_an (pc := 6) rw_84_6 rfl ?_)
            have c_172 : M169.2.1 1 9 = (N.2.1 1 9) := (W_n W168 (by decide) (W_l W149 rfl))
            refine tt_gI (pc := 7) rw_84_7 (g_o hG170 rfl) (v := (N.2.1 1 9)) c_172 (s_pI (pc := 10) rw_84_10 hG170 rfl (fun M174 W173 => ?_))
            have hG175 := g_wf hG170 W173 rfl rfl (by decide)
            have F176 := FR.w F171 W173 (show 1 = 1 ∧ 5 ≤ 11 ∨ 3 ≤ 1 ∧ 1 ≤ 5 ∨ 1 = 57 ∨ 1 = 66 by decide)
            refine to_c (pc := 13) rw_84_13 (x := (0 : Int32)) rfl rfl (s_r1 (pc := 14) rw_84_14 (A := 0) rfl (by decide) (b_ieq_t (pc := 145) rw_42_145 (A := 0) rfl (by decide) (to_c (pc := 152) rw_42_152 (x := (0 : Int32)) rfl rfl (s_r1 (pc := 153) rw_42_153 (A := 0) rfl (by decide) ?_))))
            have k_177 : (0 : Int32).toInt = 0 := rfl
            have c_178 : M174.2.1 1 10 = (5 : Int32) := (W_n W173 (by decide) (W_e W168))
            have k_179 : (5 : Int32).toInt = 5 := rfl
            have t_180 : (M174.2.1 1 10).toInt = (5 : Int32).toInt := congrArg Int32.toInt c_178
            have c_181 : M174.2.1 1 11 = (N.2.1 1 9) := (W_e W173)
            have t_182 : (M174.2.1 1 11).toInt = (N.2.1 1 9).toInt := congrArg Int32.toInt c_181
            exact h (0 : Int32) M174 hG175 F176 (by decide) (by decide) (by omega)
      · refine to_an (pc := 21) rw_42_21 rfl (tt_gI (pc := 22) rw_42_22 (g_o hG rfl) (v := (N.2.1 1 7)) rfl (to_c (pc := 25) rw_42_25 (x := (2 : Int32)) rfl rfl (b_cne (pc := 26) rw_42_26 (A := (N.2.1 1 7).toInt) (B := 2) rfl rfl (fun h183 => ?_) (fun h183 => ?_))))
        · refine to_an (pc := 110) rw_42_110 rfl (s_gR (pc := 111) rw_42_111 hG (by rcases hp with rfl | rfl <;> rfl) (v := (p + 8)) (by rcases hp with rfl | rfl <;> rfl) (to_an (pc := 114) rw_42_114 rfl (tt_gI (pc := 115) rw_42_115 (g_o hG (by rcases hp with rfl | rfl <;> rfl)) (v := (N.2.1 p 3)) rfl (to_ln (pc := 118) rw_42_118 rfl rfl rfl (s_las (pc := 119) rw_42_119 hG (by rcases hp with rfl | rfl <;> rfl) (n := 12) (by rcases hp with rfl | rfl <;> rfl) (A := (N.2.1 p 3).toInt) rfl (by omega) (by omega) (fun M185 W184 => ?_))))))
          have hG186 := g_wl hG W184
          have F187 := FR.wl F0 W184 (show (p + 8) = 1 ∧ 5 ≤ ((N.2.1 p 3).toInt).toNat ∨ 3 ≤ (p + 8) ∧ (p + 8) ≤ 5 ∨ (p + 8) = 57 ∨ (p + 8) = 66 by omega)
          refine to_i (pc := 120) rw_42_120 rfl (to_an (pc := 122) rw_42_122 rfl (s_gR (pc := 123) rw_42_123 hG186 (by rcases hp with rfl | rfl <;> rfl) (v := (p + 5)) (by rcases hp with rfl | rfl <;> rfl) (to_in (pc := 126) rw_42_126 rfl (s_ialk (pc := 127) rw_42_127 hG186 (by rcases hp with rfl | rfl <;> rfl) (n := 8) (by rcases hp with rfl | rfl <;> rfl) (by rcases hp with rfl | rfl <;> rfl) (A := f.toInt) rfl (by omega) (by omega) (v := v146) (W_l W184 w_147) (b_ceq (pc := 128) rw_42_128 (A := x5.toInt) (B := v146.toInt) rfl rfl (fun h190 => ?_) (fun h190 => ?_))))))
          · refine to_c (pc := 148) rw_42_148 (x := (1 : Int32)) rfl rfl (to_go (pc := 149) rw_42_149 (s_r1 (pc := 153) rw_42_153 (A := 1) rfl (by decide) ?_))
            have k_191 : (1 : Int32).toInt = 1 := rfl
            have c_192 : M185.2.1 1 10 = (N.2.1 1 10) := (W_l W184 rfl)
            have t_193 : (M185.2.1 1 10).toInt = (N.2.1 1 10).toInt := congrArg Int32.toInt c_192
            have c_194 : M185.2.1 1 11 = (N.2.1 1 11) := (W_l W184 rfl)
            have t_195 : (M185.2.1 1 11).toInt = (N.2.1 1 11).toInt := congrArg Int32.toInt c_194
            exact h (1 : Int32) M185 hG186 F187 (by decide) (by decide) (by omega)
          · refine to_an (pc := 131) rw_42_131 rfl ?_
            have c_196 : M185.2.1 1 7 = (N.2.1 1 7) := (W_l W184 rfl)
            refine tt_gI (pc := 132) rw_42_132 (g_o hG186 rfl) (v := (N.2.1 1 7)) c_196 (to_c (pc := 135) rw_42_135 (x := (59 : Int32)) rfl rfl (b_cne (pc := 137) rw_42_137 (A := (N.2.1 1 7).toInt) (B := 59) rfl rfl (fun h197 => ?_) (fun h197 => ?_)))
            · refine to_c (pc := 148) rw_42_148 (x := (1 : Int32)) rfl rfl (to_go (pc := 149) rw_42_149 (s_r1 (pc := 153) rw_42_153 (A := 1) rfl (by decide) ?_))
              have k_198 : (1 : Int32).toInt = 1 := rfl
              have c_199 : M185.2.1 1 10 = (N.2.1 1 10) := (W_l W184 rfl)
              have t_200 : (M185.2.1 1 10).toInt = (N.2.1 1 10).toInt := congrArg Int32.toInt c_199
              have c_201 : M185.2.1 1 11 = (N.2.1 1 11) := (W_l W184 rfl)
              have t_202 : (M185.2.1 1 11).toInt = (N.2.1 1 11).toInt := congrArg Int32.toInt c_201
              exact h (1 : Int32) M185 hG186 F187 (by decide) (by decide) (by omega)
            · refine to_an (pc := 140) rw_42_140 rfl (to_c (pc := 141) rw_42_141 (x := (5 : Int32)) rfl rfl (s_v (pc := 142) rw_42_142 (dp0 hd (by decide)) (ls0 := [.ref 1, .int (5 : Int32)]) rfl (Nat.le_of_ble_eq_true rfl) (Nat.le_of_ble_eq_true rfl) rfl (to_rc rfl rfl rfl (g_o hG186 rfl)) rfl (to_an (pc := 0) rw_84_0 rfl (to_in (pc := 1) rw_84_1 rfl (s_pI (pc := 2) rw_84_2 hG186 rfl (fun M204 W203 => ?_))))))
              have hG205 := g_wf hG186 W203 rfl rfl (by decide)
              have F206 := FR.w F187 W203 (show 1 = 1 ∧ 5 ≤ 10 ∨ 3 ≤ 1 ∧ 1 ≤ 5 ∨ 1 = 57 ∨ 1 = 66 by decide)
              refine to_an (pc := 5) rw_84_5 rfl (to_an (pc := 6) rw_84_6 rfl ?_)
              have c_207 : M204.2.1 1 9 = (N.2.1 1 9) := (W_n W203 (by decide) (W_l W184 rfl))
              refine tt_gI (pc := 7) rw_84_7 (g_o hG205 rfl) (v := (N.2.1 1 9)) c_207 (s_pI (pc := 10) rw_84_10 hG205 rfl (fun M209 W208 => ?_))
              have hG210 := g_wf hG205 W208 rfl rfl (by decide)
              have F211 := FR.w F206 W208 (show 1 = 1 ∧ 5 ≤ 11 ∨ 3 ≤ 1 ∧ 1 ≤ 5 ∨ 1 = 57 ∨ 1 = 66 by decide)
              refine to_c (pc := 13) rw_84_13 (x := (0 : Int32)) rfl rfl (s_r1 (pc := 14) rw_84_14 (A := 0) rfl (by decide) (b_ieq_t (pc := 145) rw_42_145 (A := 0) rfl (by decide) (to_c (pc := 152) rw_42_152 (x := (0 : Int32)) rfl rfl (s_r1 (pc := 153) rw_42_153 (A := 0) rfl (by decide) ?_))))
              have k_212 : (0 : Int32).toInt = 0 := rfl
              have c_213 : M209.2.1 1 10 = (5 : Int32) := (W_n W208 (by decide) (W_e W203))
              have k_214 : (5 : Int32).toInt = 5 := rfl
              have t_215 : (M209.2.1 1 10).toInt = (5 : Int32).toInt := congrArg Int32.toInt c_213
              have c_216 : M209.2.1 1 11 = (N.2.1 1 9) := (W_e W208)
              have t_217 : (M209.2.1 1 11).toInt = (N.2.1 1 9).toInt := congrArg Int32.toInt c_216
              exact h (0 : Int32) M209 hG210 F211 (by decide) (by decide) (by omega)
        · refine to_i (pc := 29) rw_42_29 rfl (to_an (pc := 31) rw_42_31 rfl (s_gR (pc := 32) rw_42_32 hG (by rcases hp with rfl | rfl <;> rfl) (v := (p + 5)) (by rcases hp with rfl | rfl <;> rfl) (to_in (pc := 35) rw_42_35 rfl (s_ialk (pc := 36) rw_42_36 hG (by rcases hp with rfl | rfl <;> rfl) (n := 8) (by rcases hp with rfl | rfl <;> rfl) (by rcases hp with rfl | rfl <;> rfl) (A := f.toInt) rfl (by omega) (by omega) (v := v146) w_147 (b_cge (pc := 37) rw_42_37 (A := x5.toInt) (B := v146.toInt) rfl rfl (fun h220 => ?_) (fun h220 => ?_))))))
          · refine to_c (pc := 50) rw_42_50 (x := (-1 : Int32)) rfl rfl (to_is (pc := 51) rw_42_51 (ls2 := [.ref p, .ref 1, .int f, .long y3, .null, .int x5, .int (-1 : Int32), u7, u8]) rfl rfl (to_an (pc := 53) rw_42_53 rfl (to_c (pc := 54) rw_42_54 (x := (0 : Int32)) rfl rfl (to_i (pc := 55) rw_42_55 rfl (s_v (pc := 57) rw_42_57 (dp0 hd (by decide)) (ls0 := [.ref 1, .int (0 : Int32), .int (-1 : Int32)]) rfl (Nat.le_of_ble_eq_true rfl) (Nat.le_of_ble_eq_true rfl) rfl (to_rc rfl rfl rfl (g_o hG rfl)) rfl (to_an (pc := 0) rw_88_0 rfl (tt_gI (pc := 1) rw_88_1 (g_o hG rfl) (v := (N.2.1 1 7)) rfl (to_c (pc := 4) rw_88_4 (x := (2 : Int32)) rfl rfl (b_ceq_t (pc := 5) rw_88_5 (A := (N.2.1 1 7).toInt) (B := 2) rfl rfl (by omega) (to_an (pc := 14) rw_88_14 rfl (tt_gI (pc := 15) rw_88_15 (g_o hG rfl) (v := (N.2.1 1 8)) rfl ?_)))))))))))
            refine to_in (pc := 18) rw_88_18 rfl (b_clt (pc := 19) rw_88_19 (A := (N.2.1 1 8).toInt) (B := 0) rfl rfl (fun h221 => ?_) (fun h221 => ?_))
            · refine to_an (pc := 30) rw_88_30 rfl (to_c (pc := 31) rw_88_31 (x := (2 : Int32)) rfl rfl (s_v (pc := 32) rw_88_32 (dp1 hd (by decide)) (ls0 := [.ref 1, .int (2 : Int32)]) rfl (Nat.le_of_ble_eq_true rfl) (Nat.le_of_ble_eq_true rfl) rfl (to_rc rfl rfl rfl (g_o hG rfl)) rfl (to_an (pc := 0) rw_84_0 rfl (to_in (pc := 1) rw_84_1 rfl (s_pI (pc := 2) rw_84_2 hG rfl (fun M223 W222 => ?_))))))
              have hG224 := g_wf hG W222 rfl rfl (by decide)
              have F225 := FR.w F0 W222 (show 1 = 1 ∧ 5 ≤ 10 ∨ 3 ≤ 1 ∧ 1 ≤ 5 ∨ 1 = 57 ∨ 1 = 66 by decide)
              refine to_an (pc := 5) rw_84_5 rfl (to_an (pc := 6) rw_84_6 rfl ?_)
              have c_226 : M223.2.1 1 9 = (N.2.1 1 9) := (W_n W222 (by decide) rfl)
              refine tt_gI (pc := 7) rw_84_7 (g_o hG224 rfl) (v := (N.2.1 1 9)) c_226 (s_pI (pc := 10) rw_84_10 hG224 rfl (fun M228 W227 => ?_))
              have hG229 := g_wf hG224 W227 rfl rfl (by decide)
              have F230 := FR.w F225 W227 (show 1 = 1 ∧ 5 ≤ 11 ∨ 3 ≤ 1 ∧ 1 ≤ 5 ∨ 1 = 57 ∨ 1 = 66 by decide)
              refine to_c (pc := 13) rw_84_13 (x := (0 : Int32)) rfl rfl (s_r1 (pc := 14) rw_84_14 (A := 0) rfl (by decide) (b_ieq_t (pc := 35) rw_88_35 (A := 0) rfl (by decide) (to_c (pc := 42) rw_88_42 (x := (0 : Int32)) rfl rfl (s_r1 (pc := 43) rw_88_43 (A := 0) rfl (by decide) (b_ine_f (pc := 60) rw_42_60 (A := 0) rfl (by decide) (to_c (pc := 63) rw_42_63 (x := (0 : Int32)) rfl rfl (s_r1 (pc := 64) rw_42_64 (A := 0) rfl (by decide) ?_)))))))
              have k_231 : (0 : Int32).toInt = 0 := rfl
              have c_232 : M228.2.1 1 10 = (2 : Int32) := (W_n W227 (by decide) (W_e W222))
              have k_233 : (2 : Int32).toInt = 2 := rfl
              have t_234 : (M228.2.1 1 10).toInt = (2 : Int32).toInt := congrArg Int32.toInt c_232
              have c_235 : M228.2.1 1 11 = (N.2.1 1 9) := (W_e W227)
              have t_236 : (M228.2.1 1 11).toInt = (N.2.1 1 9).toInt := congrArg Int32.toInt c_235
              exact h (0 : Int32) M228 hG229 F230 (by decide) (by decide) (by omega)
            · refine to_an (pc := 22) rw_88_22 rfl (tt_gI (pc := 23) rw_88_23 (g_o hG rfl) (v := (N.2.1 1 8)) rfl (to_in (pc := 26) rw_88_26 rfl (b_cle_f (pc := 27) rw_88_27 (A := (N.2.1 1 8).toInt) (B := -1) rfl rfl (by omega) (to_an (pc := 30) rw_88_30 rfl (to_c (pc := 31) rw_88_31 (x := (2 : Int32)) rfl rfl (s_v (pc := 32) rw_88_32 (dp1 hd (by decide)) (ls0 := [.ref 1, .int (2 : Int32)]) rfl (Nat.le_of_ble_eq_true rfl) (Nat.le_of_ble_eq_true rfl) rfl (to_rc rfl rfl rfl (g_o hG rfl)) rfl (to_an (pc := 0) rw_84_0 rfl (to_in (pc := 1) rw_84_1 rfl (s_pI (pc := 2) rw_84_2 hG rfl (fun M238 W237 => ?_))))))))))
              have hG239 := g_wf hG W237 rfl rfl (by decide)
              have F240 := FR.w F0 W237 (show 1 = 1 ∧ 5 ≤ 10 ∨ 3 ≤ 1 ∧ 1 ≤ 5 ∨ 1 = 57 ∨ 1 = 66 by decide)
              refine to_an (pc := 5) rw_84_5 rfl (to_an (pc := 6) rw_84_6 rfl ?_)
              have c_241 : M238.2.1 1 9 = (N.2.1 1 9) := (W_n W237 (by decide) rfl)
              refine tt_gI (pc := 7) rw_84_7 (g_o hG239 rfl) (v := (N.2.1 1 9)) c_241 (s_pI (pc := 10) rw_84_10 hG239 rfl (fun M243 W242 => ?_))
              have hG244 := g_wf hG239 W242 rfl rfl (by decide)
              have F245 := FR.w F240 W242 (show 1 = 1 ∧ 5 ≤ 11 ∨ 3 ≤ 1 ∧ 1 ≤ 5 ∨ 1 = 57 ∨ 1 = 66 by decide)
              refine to_c (pc := 13) rw_84_13 (x := (0 : Int32)) rfl rfl (s_r1 (pc := 14) rw_84_14 (A := 0) rfl (by decide) (b_ieq_t (pc := 35) rw_88_35 (A := 0) rfl (by decide) (to_c (pc := 42) rw_88_42 (x := (0 : Int32)) rfl rfl (s_r1 (pc := 43) rw_88_43 (A := 0) rfl (by decide) (b_ine_f (pc := 60) rw_42_60 (A := 0) rfl (by decide) (to_c (pc := 63) rw_42_63 (x := (0 : Int32)) rfl rfl (s_r1 (pc := 64) rw_42_64 (A := 0) rfl (by decide) ?_)))))))
              have k_246 : (0 : Int32).toInt = 0 := rfl
              have c_247 : M243.2.1 1 10 = (2 : Int32) := (W_n W242 (by decide) (W_e W237))
              have k_248 : (2 : Int32).toInt = 2 := rfl
              have t_249 : (M243.2.1 1 10).toInt = (2 : Int32).toInt := congrArg Int32.toInt c_247
              have c_250 : M243.2.1 1 11 = (N.2.1 1 9) := (W_e W242)
              have t_251 : (M243.2.1 1 11).toInt = (N.2.1 1 9).toInt := congrArg Int32.toInt c_250
              exact h (0 : Int32) M243 hG244 F245 (by decide) (by decide) (by omega)
          · refine to_an (pc := 40) rw_42_40 rfl (to_in (pc := 41) rw_42_41 rfl (s_v (pc := 42) rw_42_42 (dp0 hd (by decide)) (ls0 := [.ref p, .int f]) rfl (Nat.le_of_ble_eq_true rfl) (Nat.le_of_ble_eq_true rfl) rfl (to_rc rfl rfl rfl (g_o hG (by rcases hp with rfl | rfl <;> rfl))) rfl (to_an (pc := 0) rw_47_0 rfl (s_gR (pc := 1) rw_47_1 hG (by rcases hp with rfl | rfl <;> rfl) (v := (p + 4)) (by rcases hp with rfl | rfl <;> rfl) (to_in (pc := 4) rw_47_4 rfl (s_ial (pc := 5) rw_47_5 hG (by rcases hp with rfl | rfl <;> rfl) (n := 8) (by rcases hp with rfl | rfl <;> rfl) (by rcases hp with rfl | rfl <;> rfl) (A := f.toInt) rfl (by omega) (by omega) (lo := 0) (hi := 63) (by rcases hp with rfl | rfl <;> rfl) (by rcases hp with rfl | rfl <;> rfl) (fun v252 w_253 _ _ => to_an (pc := 6) rw_47_6 rfl (s_gR (pc := 7) rw_47_7 hG (by rcases hp with rfl | rfl <;> rfl) (v := (p + 3)) (by rcases hp with rfl | rfl <;> rfl) (to_in (pc := 10) rw_47_10 rfl (s_ial (pc := 11) rw_47_11 hG (by rcases hp with rfl | rfl <;> rfl) (n := 8) (by rcases hp with rfl | rfl <;> rfl) (by rcases hp with rfl | rfl <;> rfl) (A := f.toInt) rfl (by omega) (by omega) (lo := 0) (hi := 59) (by rcases hp with rfl | rfl <;> rfl) (by rcases hp with rfl | rfl <;> rfl) (fun v254 w_255 _ _ => s_sub (pc := 12) rw_47_12 (A := v252.toInt) (B := v254.toInt) rfl rfl (by omega) (fun v256 e257 => ?_))))))))))))
            refine to_c (pc := 13) rw_47_13 (x := (1 : Int32)) rfl rfl (s_add (pc := 14) rw_47_14 (A := v256.toInt) (B := 1) rfl rfl (by omega) (fun v258 e259 => to_r0 (pc := 15) rw_47_15 (to_c (pc := 45) rw_42_45 (x := (1 : Int32)) rfl rfl (s_sub (pc := 46) rw_42_46 (A := v258.toInt) (B := 1) rfl rfl (by omega) (fun v260 e261 => to_go (pc := 47) rw_42_47 (to_is (pc := 51) rw_42_51 (ls2 := [.ref p, .ref 1, .int f, .long y3, .null, .int x5, .int v260, u7, u8]) rfl rfl (to_an (pc := 53) rw_42_53 rfl (to_c (pc := 54) rw_42_54 (x := (0 : Int32)) rfl rfl (to_i (pc := 55) rw_42_55 rfl (s_v (pc := 57) rw_42_57 (dp0 hd (by decide)) (ls0 := [.ref 1, .int (0 : Int32), .int v260]) rfl (Nat.le_of_ble_eq_true rfl) (Nat.le_of_ble_eq_true rfl) rfl (to_rc rfl rfl rfl (g_o hG rfl)) rfl (to_an (pc := 0) rw_88_0 rfl ?_)))))))))))
            refine tt_gI (pc := 1) rw_88_1 (g_o hG rfl) (v := (N.2.1 1 7)) rfl (to_c (pc := 4) rw_88_4 (x := (2 : Int32)) rfl rfl (b_ceq_t (pc := 5) rw_88_5 (A := (N.2.1 1 7).toInt) (B := 2) rfl rfl (by omega) (to_an (pc := 14) rw_88_14 rfl (tt_gI (pc := 15) rw_88_15 (g_o hG rfl) (v := (N.2.1 1 8)) rfl (to_in (pc := 18) rw_88_18 rfl (b_clt (pc := 19) rw_88_19 (A := (N.2.1 1 8).toInt) (B := 0) rfl rfl (fun h262 => ?_) (fun h262 => ?_)))))))
            · refine to_an (pc := 30) rw_88_30 rfl (to_c (pc := 31) rw_88_31 (x := (2 : Int32)) rfl rfl (s_v (pc := 32) rw_88_32 (dp1 hd (by decide)) (ls0 := [.ref 1, .int (2 : Int32)]) rfl (Nat.le_of_ble_eq_true rfl) (Nat.le_of_ble_eq_true rfl) rfl (to_rc rfl rfl rfl (g_o hG rfl)) rfl (to_an (pc := 0) rw_84_0 rfl (to_in (pc := 1) rw_84_1 rfl (s_pI (pc := 2) rw_84_2 hG rfl (fun M264 W263 => ?_))))))
              have hG265 := g_wf hG W263 rfl rfl (by decide)
              have F266 := FR.w F0 W263 (show 1 = 1 ∧ 5 ≤ 10 ∨ 3 ≤ 1 ∧ 1 ≤ 5 ∨ 1 = 57 ∨ 1 = 66 by decide)
              refine to_an (pc := 5) rw_84_5 rfl (to_an (pc := 6) rw_84_6 rfl ?_)
              have c_267 : M264.2.1 1 9 = (N.2.1 1 9) := (W_n W263 (by decide) rfl)
              refine tt_gI (pc := 7) rw_84_7 (g_o hG265 rfl) (v := (N.2.1 1 9)) c_267 (s_pI (pc := 10) rw_84_10 hG265 rfl (fun M269 W268 => ?_))
              have hG270 := g_wf hG265 W268 rfl rfl (by decide)
              have F271 := FR.w F266 W268 (show 1 = 1 ∧ 5 ≤ 11 ∨ 3 ≤ 1 ∧ 1 ≤ 5 ∨ 1 = 57 ∨ 1 = 66 by decide)
              refine to_c (pc := 13) rw_84_13 (x := (0 : Int32)) rfl rfl (s_r1 (pc := 14) rw_84_14 (A := 0) rfl (by decide) (b_ieq_t (pc := 35) rw_88_35 (A := 0) rfl (by decide) (to_c (pc := 42) rw_88_42 (x := (0 : Int32)) rfl rfl (s_r1 (pc := 43) rw_88_43 (A := 0) rfl (by decide) (b_ine_f (pc := 60) rw_42_60 (A := 0) rfl (by decide) (to_c (pc := 63) rw_42_63 (x := (0 : Int32)) rfl rfl (s_r1 (pc := 64) rw_42_64 (A := 0) rfl (by decide) ?_)))))))
              have k_272 : (0 : Int32).toInt = 0 := rfl
              have c_273 : M269.2.1 1 10 = (2 : Int32) := (W_n W268 (by decide) (W_e W263))
              have k_274 : (2 : Int32).toInt = 2 := rfl
              have t_275 : (M269.2.1 1 10).toInt = (2 : Int32).toInt := congrArg Int32.toInt c_273
              have c_276 : M269.2.1 1 11 = (N.2.1 1 9) := (W_e W268)
              have t_277 : (M269.2.1 1 11).toInt = (N.2.1 1 9).toInt := congrArg Int32.toInt c_276
              exact h (0 : Int32) M269 hG270 F271 (by decide) (by decide) (by omega)
            · refine to_an (pc := 22) rw_88_22 rfl (tt_gI (pc := 23) rw_88_23 (g_o hG rfl) (v := (N.2.1 1 8)) rfl (to_in (pc := 26) rw_88_26 rfl (b_cle (pc := 27) rw_88_27 (A := (N.2.1 1 8).toInt) (B := v260.toInt) rfl rfl (fun h278 => ?_) (fun h278 => ?_))))
              · refine to_c (pc := 38) rw_88_38 (x := (1 : Int32)) rfl rfl (to_go (pc := 39) rw_88_39 (s_r1 (pc := 43) rw_88_43 (A := 1) rfl (by decide) (b_ine_t (pc := 60) rw_42_60 (A := 1) rfl (by decide) (s_cl (pc := 65) rw_42_65 rfl (fun l279 => to_an (pc := 66) rw_42_66 rfl (s_gR (pc := 67) rw_42_67 hG (by rcases hp with rfl | rfl <;> rfl) (v := (p + 3)) (by rcases hp with rfl | rfl <;> rfl) (to_in (pc := 70) rw_42_70 rfl (s_ialk (pc := 71) rw_42_71 hG (by rcases hp with rfl | rfl <;> rfl) (n := 8) (by rcases hp with rfl | rfl <;> rfl) (by rcases hp with rfl | rfl <;> rfl) (A := f.toInt) rfl (by omega) (by omega) (v := v254) w_255 (to_an (pc := 72) rw_42_72 rfl (tt_gI (pc := 73) rw_42_73 (g_o hG rfl) (v := (N.2.1 1 8)) rfl (s_add (pc := 76) rw_42_76 (A := v254.toInt) (B := (N.2.1 1 8).toInt) rfl rfl (by omega) (fun v282 e283 => ?_))))))))))))
                refine s_anyS (pc := 77) rw_42_77 (fun _ _ => rfl) (fun l284 => to_ls (pc := 78) rw_42_78 (ls2 := [.ref p, .ref 1, .int f, .long y3, .null, .int x5, .int v260, .long l284, .null]) rfl rfl (to_ln (pc := 80) rw_42_80 rfl rfl rfl (to_l (pc := 81) rw_42_81 rfl rfl rfl (s_anyL (pc := 83) rw_42_83 (fun _ _ => rfl) (fun l285 => s_cl (pc := 84) rw_42_84 rfl (fun l286 => s_lcmp (pc := 85) rw_42_85 (fun v287 => b_ieq (pc := 86) rw_42_86 (A := v287.toInt) rfl (fun h288 => ?_) (fun h288 => ?_))))))))
                · refine to_ln (pc := 95) rw_42_95 rfl rfl rfl (to_l (pc := 96) rw_42_96 rfl rfl rfl (s_anyL (pc := 98) rw_42_98 (fun _ _ => rfl) (fun l289 => to_lsn (pc := 99) rw_42_99 (ls2 := [.ref p, .ref 1, .int f, .long l289, .null, .int x5, .int v260, .long l284, .null]) rfl rfl (s_inc (pc := 100) rw_42_100 (ls2 := fun v => [.ref p, .ref 1, .int f, .long l289, .null, .int v, .int v260, .long l284, .null]) rfl rfl (fun _ => rfl) (A := x5.toInt) (B := 1) rfl rfl (by omega) (fun v290 e291 => to_an (pc := 103) rw_42_103 rfl (s_v (pc := 104) rw_42_104 (dp0 hd (by decide)) (ls0 := [.ref 1]) rfl (Nat.le_of_ble_eq_true rfl) (Nat.le_of_ble_eq_true rfl) rfl (to_rc rfl rfl rfl (g_o hG rfl)) rfl (C_83 hX (dp1 hd (by decide)) hG  (fun M294 hG293 F292 => ?_))))))))
                  have F295 := FR.c F0 F292 tg_215
                  refine to_go (pc := 107) rw_42_107 ?_
                  have c_296 : M294.2.1 p 3 = (N.2.1 p 3) := (F_n F292 (show ¬ (p = 1 ∧ 5 ≤ 3 ∨ 3 ≤ p ∧ p ≤ 5) by omega) rfl)
                  have t_297 : (M294.2.1 p 3).toInt = (N.2.1 p 3).toInt := congrArg Int32.toInt c_296
                  exact ih M294 l289 v290 (.int v260) (.long l284) (.null) hG293 F295 (by omega) (by omega) (by omega) (by omega) (by omega) (by omega) (by omega)
                · refine to_an (pc := 89) rw_42_89 rfl (to_c (pc := 90) rw_42_90 (x := (3 : Int32)) rfl rfl (s_v (pc := 91) rw_42_91 (dp0 hd (by decide)) (ls0 := [.ref 1, .int (3 : Int32)]) rfl (Nat.le_of_ble_eq_true rfl) (Nat.le_of_ble_eq_true rfl) rfl (to_rc rfl rfl rfl (g_o hG rfl)) rfl (to_an (pc := 0) rw_84_0 rfl (to_in (pc := 1) rw_84_1 rfl (s_pI (pc := 2) rw_84_2 hG rfl (fun M299 W298 => ?_))))))
                  have hG300 := g_wf hG W298 rfl rfl (by decide)
                  have F301 := FR.w F0 W298 (show 1 = 1 ∧ 5 ≤ 10 ∨ 3 ≤ 1 ∧ 1 ≤ 5 ∨ 1 = 57 ∨ 1 = 66 by decide)
                  refine to_an (pc := 5) rw_84_5 rfl (to_an (pc := 6) rw_84_6 rfl ?_)
                  have c_302 : M299.2.1 1 9 = (N.2.1 1 9) := (W_n W298 (by decide) rfl)
                  refine tt_gI (pc := 7) rw_84_7 (g_o hG300 rfl) (v := (N.2.1 1 9)) c_302 (s_pI (pc := 10) rw_84_10 hG300 rfl (fun M304 W303 => ?_))
                  have hG305 := g_wf hG300 W303 rfl rfl (by decide)
                  have F306 := FR.w F301 W303 (show 1 = 1 ∧ 5 ≤ 11 ∨ 3 ≤ 1 ∧ 1 ≤ 5 ∨ 1 = 57 ∨ 1 = 66 by decide)
                  refine to_c (pc := 13) rw_84_13 (x := (0 : Int32)) rfl rfl (s_r1 (pc := 14) rw_84_14 (A := 0) rfl (by decide) (s_r1 (pc := 94) rw_42_94 (A := 0) rfl (by decide) ?_))
                  have k_307 : (0 : Int32).toInt = 0 := rfl
                  have c_308 : M304.2.1 1 10 = (3 : Int32) := (W_n W303 (by decide) (W_e W298))
                  have k_309 : (3 : Int32).toInt = 3 := rfl
                  have t_310 : (M304.2.1 1 10).toInt = (3 : Int32).toInt := congrArg Int32.toInt c_308
                  have c_311 : M304.2.1 1 11 = (N.2.1 1 9) := (W_e W303)
                  have t_312 : (M304.2.1 1 11).toInt = (N.2.1 1 9).toInt := congrArg Int32.toInt c_311
                  exact h (0 : Int32) M304 hG305 F306 (by decide) (by decide) (by omega)
              · refine to_an (pc := 30) rw_88_30 rfl (to_c (pc := 31) rw_88_31 (x := (2 : Int32)) rfl rfl (s_v (pc := 32) rw_88_32 (dp1 hd (by decide)) (ls0 := [.ref 1, .int (2 : Int32)]) rfl (Nat.le_of_ble_eq_true rfl) (Nat.le_of_ble_eq_true rfl) rfl (to_rc rfl rfl rfl (g_o hG rfl)) rfl (to_an (pc := 0) rw_84_0 rfl (to_in (pc := 1) rw_84_1 rfl (s_pI (pc := 2) rw_84_2 hG rfl (fun M314 W313 => ?_))))))
                have hG315 := g_wf hG W313 rfl rfl (by decide)
                have F316 := FR.w F0 W313 (show 1 = 1 ∧ 5 ≤ 10 ∨ 3 ≤ 1 ∧ 1 ≤ 5 ∨ 1 = 57 ∨ 1 = 66 by decide)
                refine to_an (pc := 5) rw_84_5 rfl (to_an (pc := 6) rw_84_6 rfl ?_)
                have c_317 : M314.2.1 1 9 = (N.2.1 1 9) := (W_n W313 (by decide) rfl)
                refine tt_gI (pc := 7) rw_84_7 (g_o hG315 rfl) (v := (N.2.1 1 9)) c_317 (s_pI (pc := 10) rw_84_10 hG315 rfl (fun M319 W318 => ?_))
                have hG320 := g_wf hG315 W318 rfl rfl (by decide)
                have F321 := FR.w F316 W318 (show 1 = 1 ∧ 5 ≤ 11 ∨ 3 ≤ 1 ∧ 1 ≤ 5 ∨ 1 = 57 ∨ 1 = 66 by decide)
                refine to_c (pc := 13) rw_84_13 (x := (0 : Int32)) rfl rfl (s_r1 (pc := 14) rw_84_14 (A := 0) rfl (by decide) (b_ieq_t (pc := 35) rw_88_35 (A := 0) rfl (by decide) (to_c (pc := 42) rw_88_42 (x := (0 : Int32)) rfl rfl (s_r1 (pc := 43) rw_88_43 (A := 0) rfl (by decide) (b_ine_f (pc := 60) rw_42_60 (A := 0) rfl (by decide) (to_c (pc := 63) rw_42_63 (x := (0 : Int32)) rfl rfl (s_r1 (pc := 64) rw_42_64 (A := 0) rfl (by decide) ?_)))))))
                have k_322 : (0 : Int32).toInt = 0 := rfl
                have c_323 : M319.2.1 1 10 = (2 : Int32) := (W_n W318 (by decide) (W_e W313))
                have k_324 : (2 : Int32).toInt = 2 := rfl
                have t_325 : (M319.2.1 1 10).toInt = (2 : Int32).toInt := congrArg Int32.toInt c_323
                have c_326 : M319.2.1 1 11 = (N.2.1 1 9) := (W_e W318)
                have t_327 : (M319.2.1 1 11).toInt = (N.2.1 1 9).toInt := congrArg Int32.toInt c_326
                exact h (0 : Int32) M319 hG320 F321 (by decide) (by decide) (by omega)
set_option maxRecDepth 4000 in
set_option maxHeartbeats 0 in
theorem C_42 {X : mm_X} {d : Nat} {M : mm_M} {Q : Option Value → mm_M → Prop} {p : Nat} {f : Int32} (hX : g_X X) (hd : 2 ≤ d) (hG : g_G M) (hp : p = 49 ∨ p = 58) (q1 : 0 ≤ f.toInt) (q2 : f.toInt ≤ 7) (q3 : (M.2.1 p 3).toInt ≤ 11) (h : ∀ (r : Int32) (M1 : mm_M), g_G M1 → FR md_c42 M M1 → (0 ≤ r.toInt) → (r.toInt ≤ 1) → (r.toInt = 1 → (M1.2.1 1 10).toInt = (M.2.1 1 10).toInt ∧ (M1.2.1 1 11).toInt = (M.2.1 1 11).toInt) → Q (some (.int r)) M1) : mm_T X d 42 0 [.ref p, .ref 1, .int f, .null, .null, .null, .null, .null, .null] [] M Q := by
  have F0 : FR md_c42 M M := FR.rf
  have b_328 := g_b hG (a := p) (i := 3) (lo := 0) (hi := 12) (by rcases hp with rfl | rfl <;> rfl) (by rcases hp with rfl | rfl <;> rfl)
  refine s_cl (pc := 0) rw_42_0 rfl (fun l329 => to_lsn (pc := 1) rw_42_1 (ls2 := [.ref p, .ref 1, .int f, .long l329, .null, .null, .null, .null, .null]) rfl rfl (to_c (pc := 2) rw_42_2 (x := (0 : Int32)) rfl rfl (to_is (pc := 3) rw_42_3 (ls2 := [.ref p, .ref 1, .int f, .long l329, .null, .int (0 : Int32), .null, .null, .null]) rfl rfl ?_)))
  have k_330 : (0 : Int32).toInt = 0 := rfl
  exact (T_42_0 (p := p) (f := f) hX hd hp q1 q2 q3 h ((25 - (0 : Int32).toInt).toNat + 1)) M l329 (0 : Int32) (.null) (.null) (.null) hG F0 (by omega) (by omega) (by omega) (by omega) (by omega) (by omega) (by omega)
set_option maxRecDepth 4000 in
set_option maxHeartbeats 0 in
theorem C_41 {X : mm_X} {d : Nat} {M : mm_M} {Q : Option Value → mm_M → Prop} {p : Nat} (hX : g_X X) (hd : 3 ≤ d) (hG : g_G M) (hp : p = 49 ∨ p = 58) (q1 : PI M) (h : ∀ (r : Int32) (M1 : mm_M), g_G M1 → FR md_pt M M1 → (0 ≤ r.toInt) → (r.toInt ≤ 1) → PI M1 → (r.toInt = 1 → (M1.2.1 1 10).toInt = (M.2.1 1 10).toInt ∧ (M1.2.1 1 11).toInt = (M.2.1 1 11).toInt) → Q (some (.int r)) M1) : mm_T X d 41 0 [.ref p, .ref 1, .null] [] M Q := by
  have F0 : FR md_pt M M := FR.rf
  refine to_an (pc := 0) rw_41_0 rfl ?_
  have b_1 := g_b hG (a := p) (i := 3) (lo := 0) (hi := 12) (by rcases hp with rfl | rfl <;> rfl) (by rcases hp with rfl | rfl <;> rfl)
  refine tt_gI (pc := 1) rw_41_1 (g_o hG (by rcases hp with rfl | rfl <;> rfl)) (v := (M.2.1 p 3)) rfl (to_c (pc := 4) rw_41_4 (x := (12 : Int32)) rfl rfl (b_clt (pc := 6) rw_41_6 (A := (M.2.1 p 3).toInt) (B := 12) rfl rfl (fun h2 => ?_) (fun h2 => ?_)))
  · refine to_an (pc := 15) rw_41_15 rfl (s_v (pc := 16) rw_41_16 (dp0 hd (by decide)) (ls0 := [.ref 1]) rfl (Nat.le_of_ble_eq_true rfl) (Nat.le_of_ble_eq_true rfl) rfl (to_rc rfl rfl rfl (g_o hG rfl)) rfl (C_83 hX (dp1 hd (by decide)) hG  (fun M5 hG4 F3 => ?_)))
    have F6 := FR.c F0 F3 tg_212
    refine to_an (pc := 19) rw_41_19 rfl (tt_gI (pc := 20) rw_41_20 (g_o hG4 rfl) (v := (M5.2.1 1 7)) rfl (to_c (pc := 23) rw_41_23 (x := (3 : Int32)) rfl rfl (b_ceq (pc := 24) rw_41_24 (A := (M5.2.1 1 7).toInt) (B := 3) rfl rfl (fun h7 => ?_) (fun h7 => ?_))))
    · refine to_an (pc := 33) rw_41_33 rfl (to_an (pc := 34) rw_41_34 rfl (tt_gI (pc := 35) rw_41_35 (g_o hG4 rfl) (v := (M5.2.1 1 8)) rfl (s_v (pc := 38) rw_41_38 (dp0 hd (by decide)) (ls0 := [.ref p, .int (M5.2.1 1 8)]) rfl (Nat.le_of_ble_eq_true rfl) (Nat.le_of_ble_eq_true rfl) rfl (to_rc rfl rfl rfl (g_o hG4 (by rcases hp with rfl | rfl <;> rfl))) rfl (to_an (pc := 0) rw_52_0 rfl (s_gR (pc := 1) rw_52_1 hG4 (by rcases hp with rfl | rfl <;> rfl) (v := (p + 1)) (by rcases hp with rfl | rfl <;> rfl) (to_an (pc := 4) rw_52_4 rfl ?_))))))
      have c_8 : M5.2.1 p 2 = (M.2.1 p 2) := (F_n F3 (show ¬ (p = 1 ∧ 5 ≤ 2 ∨ 3 ≤ p ∧ p ≤ 5) by omega) rfl)
      have b_9 := g_b hG (a := p) (i := 2) (lo := 0) (hi := 8) (by rcases hp with rfl | rfl <;> rfl) (by rcases hp with rfl | rfl <;> rfl)
      refine tt_gI (pc := 5) rw_52_5 (g_o hG4 (by rcases hp with rfl | rfl <;> rfl)) (v := (M.2.1 p 2)) c_8 (to_in (pc := 8) rw_52_8 rfl (s_s (pc := 9) rw_52_9 (dp1 hd (by decide)) (ls0 := [.ref (p + 1), .int (M.2.1 p 2), .int (M5.2.1 1 8), .null]) rfl (Nat.le_of_ble_eq_true rfl) (Nat.le_of_ble_eq_true rfl) rfl (to_rcs rfl rfl) rfl (C_54f hX (dp2 hd (by decide)) hG4 (by omega) (f := (p + 1)) (s := (M.2.1 p 2)) (x := (M5.2.1 1 8)) (fun r10 M15 hG12 F11 p_13 p_14 => ?_))))
      have F16 := FR.c F6 F11 tg_213
      refine to_r0 (pc := 12) rw_52_12 (to_isn (pc := 41) rw_41_41 (ls2 := [.ref p, .ref 1, .int r10]) rfl rfl (to_an (pc := 42) rw_41_42 rfl (to_in (pc := 43) rw_41_43 rfl (s_v (pc := 44) rw_41_44 (dp0 hd (by decide)) (ls0 := [.ref p, .int r10]) rfl (Nat.le_of_ble_eq_true rfl) (Nat.le_of_ble_eq_true rfl) rfl (to_rc rfl rfl rfl (g_o hG12 (by rcases hp with rfl | rfl <;> rfl))) rfl (to_in (pc := 0) rw_43_0 rfl (b_ilt (pc := 1) rw_43_1 (A := r10.toInt) rfl (fun h17 => ?_) (fun h17 => ?_)))))))
      · refine to_c (pc := 16) rw_43_16 (x := (0 : Int32)) rfl rfl (s_r1 (pc := 17) rw_43_17 (A := 0) rfl (by decide) (b_ieq_t (pc := 47) rw_41_47 (A := 0) rfl (by decide) (to_an (pc := 58) rw_41_58 rfl (to_c (pc := 59) rw_41_59 (x := (4 : Int32)) rfl rfl (s_v (pc := 60) rw_41_60 (dp0 hd (by decide)) (ls0 := [.ref 1, .int (4 : Int32)]) rfl (Nat.le_of_ble_eq_true rfl) (Nat.le_of_ble_eq_true rfl) rfl (to_rc rfl rfl rfl (g_o hG12 rfl)) rfl (to_an (pc := 0) rw_84_0 rfl (to_in (pc := 1) rw_84_1 rfl (s_pI (pc := 2) rw_84_2 hG12 rfl (fun M19 W18 => ?_)))))))))
        have hG20 := g_wf hG12 W18 rfl rfl (by decide)
        have F21 := FR.w F16 W18 (show 1 = 1 ∧ 5 ≤ 10 ∨ 3 ≤ 1 ∧ 1 ≤ 5 ∨ 49 ≤ 1 ∧ 1 ≤ 66 by decide)
        refine to_an (pc := 5) rw_84_5 rfl (to_an (pc := 6) rw_84_6 rfl ?_)
        have c_22 : M19.2.1 1 9 = (M5.2.1 1 9) := (W_n W18 (by decide) (F_n F11 (show ¬ (1 < 0) by decide) rfl))
        refine tt_gI (pc := 7) rw_84_7 (g_o hG20 rfl) (v := (M5.2.1 1 9)) c_22 (s_pI (pc := 10) rw_84_10 hG20 rfl (fun M24 W23 => ?_))
        have hG25 := g_wf hG20 W23 rfl rfl (by decide)
        have F26 := FR.w F21 W23 (show 1 = 1 ∧ 5 ≤ 11 ∨ 3 ≤ 1 ∧ 1 ≤ 5 ∨ 49 ≤ 1 ∧ 1 ≤ 66 by decide)
        refine to_c (pc := 13) rw_84_13 (x := (0 : Int32)) rfl rfl (s_r1 (pc := 14) rw_84_14 (A := 0) rfl (by decide) (s_r1 (pc := 63) rw_41_63 (A := 0) rfl (by decide) ?_))
        have k_27 : (0 : Int32).toInt = 0 := rfl
        have j_28 := (PI_f (fun a i z => W_n W23 (by /-r1,11-/ omega) rfl) (PI_f (fun a i z => W_n W18 (by /-r1,10-/ omega) rfl) (PI_f (tg_99 F11) (PI_f (tg_208 F3) q1))))
        have c_29 : M24.2.1 1 10 = (4 : Int32) := (W_n W23 (by decide) (W_e W18))
        have k_30 : (4 : Int32).toInt = 4 := rfl
        have t_31 : (M24.2.1 1 10).toInt = (4 : Int32).toInt := congrArg Int32.toInt c_29
        have c_32 : M24.2.1 1 11 = (M5.2.1 1 9) := (W_e W23)
        have t_33 : (M24.2.1 1 11).toInt = (M5.2.1 1 9).toInt := congrArg Int32.toInt c_32
        exact h (0 : Int32) M24 hG25 F26 (by decide) (by decide) j_28 (by omega)
      · refine to_in (pc := 4) rw_43_4 rfl (to_an (pc := 5) rw_43_5 rfl ?_)
        have c_34 : M15.2.1 p 2 = (M.2.1 p 2) := (F_n F11 (show ¬ (p < 0) by omega) c_8)
        refine tt_gI (pc := 6) rw_43_6 (g_o hG12 (by rcases hp with rfl | rfl <;> rfl)) (v := (M.2.1 p 2)) c_34 (b_cge (pc := 9) rw_43_9 (A := r10.toInt) (B := (M.2.1 p 2).toInt) rfl rfl (fun h35 => ?_) (fun h35 => ?_))
        · refine to_c (pc := 16) rw_43_16 (x := (0 : Int32)) rfl rfl (s_r1 (pc := 17) rw_43_17 (A := 0) rfl (by decide) (b_ieq_t (pc := 47) rw_41_47 (A := 0) rfl (by decide) (to_an (pc := 58) rw_41_58 rfl (to_c (pc := 59) rw_41_59 (x := (4 : Int32)) rfl rfl (s_v (pc := 60) rw_41_60 (dp0 hd (by decide)) (ls0 := [.ref 1, .int (4 : Int32)]) rfl (Nat.le_of_ble_eq_true rfl) (Nat.le_of_ble_eq_true rfl) rfl (to_rc rfl rfl rfl (g_o hG12 rfl)) rfl (to_an (pc := 0) rw_84_0 rfl (to_in (pc := 1) rw_84_1 rfl (s_pI (pc := 2) rw_84_2 hG12 rfl (fun M37 W36 => ?_)))))))))
          have hG38 := g_wf hG12 W36 rfl rfl (by decide)
          have F39 := FR.w F16 W36 (show 1 = 1 ∧ 5 ≤ 10 ∨ 3 ≤ 1 ∧ 1 ≤ 5 ∨ 49 ≤ 1 ∧ 1 ≤ 66 by decide)
          refine to_an (pc := 5) rw_84_5 rfl (to_an (pc := 6) rw_84_6 rfl ?_)
          have c_40 : M37.2.1 1 9 = (M5.2.1 1 9) := (W_n W36 (by decide) (F_n F11 (show ¬ (1 < 0) by decide) rfl))
          refine tt_gI (pc := 7) rw_84_7 (g_o hG38 rfl) (v := (M5.2.1 1 9)) c_40 (s_pI (pc := 10) rw_84_10 hG38 rfl (fun M42 W41 => ?_))
          have hG43 := g_wf hG38 W41 rfl rfl (by decide)
          have F44 := FR.w F39 W41 (show 1 = 1 ∧ 5 ≤ 11 ∨ 3 ≤ 1 ∧ 1 ≤ 5 ∨ 49 ≤ 1 ∧ 1 ≤ 66 by decide)
          refine to_c (pc := 13) rw_84_13 (x := (0 : Int32)) rfl rfl (s_r1 (pc := 14) rw_84_14 (A := 0) rfl (by decide) (s_r1 (pc := 63) rw_41_63 (A := 0) rfl (by decide) ?_))
          have k_45 : (0 : Int32).toInt = 0 := rfl
          have j_46 := (PI_f (fun a i z => W_n W41 (by /-r1,11-/ omega) rfl) (PI_f (fun a i z => W_n W36 (by /-r1,10-/ omega) rfl) (PI_f (tg_99 F11) (PI_f (tg_208 F3) q1))))
          have c_47 : M42.2.1 1 10 = (4 : Int32) := (W_n W41 (by decide) (W_e W36))
          have k_48 : (4 : Int32).toInt = 4 := rfl
          have t_49 : (M42.2.1 1 10).toInt = (4 : Int32).toInt := congrArg Int32.toInt c_47
          have c_50 : M42.2.1 1 11 = (M5.2.1 1 9) := (W_e W41)
          have t_51 : (M42.2.1 1 11).toInt = (M5.2.1 1 9).toInt := congrArg Int32.toInt c_50
          exact h (0 : Int32) M42 hG43 F44 (by decide) (by decide) j_46 (by omega)
        · refine to_c (pc := 12) rw_43_12 (x := (1 : Int32)) rfl rfl (to_go (pc := 13) rw_43_13 (s_r1 (pc := 17) rw_43_17 (A := 1) rfl (by decide) (b_ieq_f (pc := 47) rw_41_47 (A := 1) rfl (by decide) (to_an (pc := 50) rw_41_50 rfl (to_in (pc := 51) rw_41_51 rfl (s_v (pc := 52) rw_41_52 (dp0 hd (by decide)) (ls0 := [.ref p, .int r10]) rfl (Nat.le_of_ble_eq_true rfl) (Nat.le_of_ble_eq_true rfl) rfl (to_rc rfl rfl rfl (g_o hG12 (by rcases hp with rfl | rfl <;> rfl))) rfl (to_an (pc := 0) rw_45_0 rfl (s_gR (pc := 1) rw_45_1 hG12 (by rcases hp with rfl | rfl <;> rfl) (v := (p + 2)) (by rcases hp with rfl | rfl <;> rfl) (to_in (pc := 4) rw_45_4 rfl (s_ial (pc := 5) rw_45_5 hG12 (by rcases hp with rfl | rfl <;> rfl) (n := 8) (by rcases hp with rfl | rfl <;> rfl) (by rcases hp with rfl | rfl <;> rfl) (A := r10.toInt) rfl (by omega) (by omega) (lo := 0) (hi := 3) (by rcases hp with rfl | rfl <;> rfl) (by rcases hp with rfl | rfl <;> rfl) (fun v52 w_53 _ _ => to_c (pc := 6) rw_45_6 (x := (3 : Int32)) rfl rfl ?_)))))))))))
          refine b_cne (pc := 7) rw_45_7 (A := v52.toInt) (B := 3) rfl rfl (fun h54 => ?_) (fun h54 => ?_)
          · refine to_c (pc := 14) rw_45_14 (x := (0 : Int32)) rfl rfl (s_r1 (pc := 15) rw_45_15 (A := 0) rfl (by decide) (b_ine_f (pc := 55) rw_41_55 (A := 0) rfl (by decide) (to_an (pc := 58) rw_41_58 rfl (to_c (pc := 59) rw_41_59 (x := (4 : Int32)) rfl rfl (s_v (pc := 60) rw_41_60 (dp0 hd (by decide)) (ls0 := [.ref 1, .int (4 : Int32)]) rfl (Nat.le_of_ble_eq_true rfl) (Nat.le_of_ble_eq_true rfl) rfl (to_rc rfl rfl rfl (g_o hG12 rfl)) rfl (to_an (pc := 0) rw_84_0 rfl (to_in (pc := 1) rw_84_1 rfl (s_pI (pc := 2) rw_84_2 hG12 rfl (fun M56 W55 => ?_)))))))))
            have hG57 := g_wf hG12 W55 rfl rfl (by decide)
            have F58 := FR.w F16 W55 (show 1 = 1 ∧ 5 ≤ 10 ∨ 3 ≤ 1 ∧ 1 ≤ 5 ∨ 49 ≤ 1 ∧ 1 ≤ 66 by decide)
            refine to_an (pc := 5) rw_84_5 rfl (to_an (pc := 6) rw_84_6 rfl ?_)
            have c_59 : M56.2.1 1 9 = (M5.2.1 1 9) := (W_n W55 (by decide) (F_n F11 (show ¬ (1 < 0) by decide) rfl))
            refine tt_gI (pc := 7) rw_84_7 (g_o hG57 rfl) (v := (M5.2.1 1 9)) c_59 (s_pI (pc := 10) rw_84_10 hG57 rfl (fun M61 W60 => ?_))
            have hG62 := g_wf hG57 W60 rfl rfl (by decide)
            have F63 := FR.w F58 W60 (show 1 = 1 ∧ 5 ≤ 11 ∨ 3 ≤ 1 ∧ 1 ≤ 5 ∨ 49 ≤ 1 ∧ 1 ≤ 66 by decide)
            refine to_c (pc := 13) rw_84_13 (x := (0 : Int32)) rfl rfl (s_r1 (pc := 14) rw_84_14 (A := 0) rfl (by decide) (s_r1 (pc := 63) rw_41_63 (A := 0) rfl (by decide) ?_))
            have k_64 : (0 : Int32).toInt = 0 := rfl
            have j_65 := (PI_f (fun a i z => W_n W60 (by /-r1,11-/ omega) rfl) (PI_f (fun a i z => W_n W55 (by /-r1,10-/ omega) rfl) (PI_f (tg_99 F11) (PI_f (tg_208 F3) q1))))
            have c_66 : M61.2.1 1 10 = (4 : Int32) := (W_n W60 (by decide) (W_e W55))
            have k_67 : (4 : Int32).toInt = 4 := rfl
            have t_68 : (M61.2.1 1 10).toInt = (4 : Int32).toInt := congrArg Int32.toInt c_66
            have c_69 : M61.2.1 1 11 = (M5.2.1 1 9) := (W_e W60)
            have t_70 : (M61.2.1 1 11).toInt = (M5.2.1 1 9).toInt := congrArg Int32.toInt c_69
            exact h (0 : Int32) M61 hG62 F63 (by decide) (by decide) j_65 (by omega)
          · refine to_c (pc := 10) rw_45_10 (x := (1 : Int32)) rfl rfl (to_go (pc := 11) rw_45_11 (s_r1 (pc := 15) rw_45_15 (A := 1) rfl (by decide) (b_ine_t (pc := 55) rw_41_55 (A := 1) rfl (by decide) (to_an (pc := 64) rw_41_64 rfl (s_v (pc := 65) rw_41_65 (dp0 hd (by decide)) (ls0 := [.ref 1]) rfl (Nat.le_of_ble_eq_true rfl) (Nat.le_of_ble_eq_true rfl) rfl (to_rc rfl rfl rfl (g_o hG12 rfl)) rfl (C_83 hX (dp1 hd (by decide)) hG12  (fun M73 hG72 F71 => ?_)))))))
            have F74 := FR.c F16 F71 tg_212
            refine to_an (pc := 68) rw_41_68 rfl (to_an (pc := 69) rw_41_69 rfl (s_v (pc := 70) rw_41_70 (dp0 hd (by decide)) (ls0 := [.ref p, .ref 1]) rfl (Nat.le_of_ble_eq_true rfl) (Nat.le_of_ble_eq_true rfl) rfl (to_rc rfl rfl rfl (g_o hG72 (by rcases hp with rfl | rfl <;> rfl))) rfl (C_34 hX (dp1 hd (by decide)) hG72 hp (p := p) (fun r75 M81 hG77 F76 p_78 p_79 p_80 => ?_))))
            have F82 := FR.c F74 F76 tg_212
            refine b_ine (pc := 73) rw_41_73 (A := r75.toInt) rfl (fun h83 => ?_) (fun h83 => ?_)
            · refine to_an (pc := 78) rw_41_78 rfl (s_gR (pc := 79) rw_41_79 hG77 (by rcases hp with rfl | rfl <;> rfl) (v := (p + 6)) (by rcases hp with rfl | rfl <;> rfl) (to_an (pc := 82) rw_41_82 rfl ?_))
              have c_84 : M81.2.1 p 3 = (M.2.1 p 3) := (F_n F76 (show ¬ (p = 1 ∧ 5 ≤ 3 ∨ 3 ≤ p ∧ p ≤ 5) by omega) (F_n F71 (show ¬ (p = 1 ∧ 5 ≤ 3 ∨ 3 ≤ p ∧ p ≤ 5) by omega) (F_n F11 (show ¬ (p < 0) by omega) (F_n F3 (show ¬ (p = 1 ∧ 5 ≤ 3 ∨ 3 ≤ p ∧ p ≤ 5) by omega) rfl))))
              refine tt_gI (pc := 83) rw_41_83 (g_o hG77 (by rcases hp with rfl | rfl <;> rfl)) (v := (M.2.1 p 3)) c_84 (to_an (pc := 86) rw_41_86 rfl (tt_gI (pc := 87) rw_41_87 (g_o hG77 rfl) (v := (M81.2.1 1 8)) rfl (s_ias (pc := 90) rw_41_90 hG77 (by rcases hp with rfl | rfl <;> rfl) (n := 12) (by rcases hp with rfl | rfl <;> rfl) (A := (M.2.1 p 3).toInt) rfl (by omega) (by omega) (fun M86 W85 => ?_))))
              have hG87 := g_wf hG77 W85 (by rcases hp with rfl | rfl <;> rfl) (by rcases hp with rfl | rfl <;> rfl) (by omega)
              have F88 := FR.w F82 W85 (show (p + 6) = 1 ∧ 5 ≤ ((M.2.1 p 3).toInt).toNat ∨ 3 ≤ (p + 6) ∧ (p + 6) ≤ 5 ∨ 49 ≤ (p + 6) ∧ (p + 6) ≤ 66 by omega)
              refine to_an (pc := 91) rw_41_91 rfl (s_gR (pc := 92) rw_41_92 hG87 (by rcases hp with rfl | rfl <;> rfl) (v := (p + 7)) (by rcases hp with rfl | rfl <;> rfl) (to_an (pc := 95) rw_41_95 rfl ?_))
              have c_89 : M86.2.1 p 3 = (M.2.1 p 3) := (W_n W85 (by omega) c_84)
              refine tt_gI (pc := 96) rw_41_96 (g_o hG87 (by rcases hp with rfl | rfl <;> rfl)) (v := (M.2.1 p 3)) c_89 (to_in (pc := 99) rw_41_99 rfl (s_ias (pc := 100) rw_41_100 hG87 (by rcases hp with rfl | rfl <;> rfl) (n := 12) (by rcases hp with rfl | rfl <;> rfl) (A := (M.2.1 p 3).toInt) rfl (by omega) (by omega) (fun M91 W90 => ?_)))
              have hG92 := g_w hG87 W90 (A := r10.toInt) rfl (lo := 0) (hi := 7) (by rcases hp with rfl | rfl <;> rfl) (by rcases hp with rfl | rfl <;> rfl) (by omega) (by omega)
              have F93 := FR.w F88 W90 (show (p + 7) = 1 ∧ 5 ≤ ((M.2.1 p 3).toInt).toNat ∨ 3 ≤ (p + 7) ∧ (p + 7) ≤ 5 ∨ 49 ≤ (p + 7) ∧ (p + 7) ≤ 66 by omega)
              refine to_an (pc := 101) rw_41_101 rfl (s_v (pc := 102) rw_41_102 (dp0 hd (by decide)) (ls0 := [.ref 1]) rfl (Nat.le_of_ble_eq_true rfl) (Nat.le_of_ble_eq_true rfl) rfl (to_rc rfl rfl rfl (g_o hG92 rfl)) rfl (C_83 hX (dp1 hd (by decide)) hG92  (fun M96 hG95 F94 => ?_)))
              have F97 := FR.c F93 F94 tg_212
              refine to_an (pc := 105) rw_41_105 rfl (to_an (pc := 106) rw_41_106 rfl (to_in (pc := 107) rw_41_107 rfl (s_v (pc := 108) rw_41_108 (dp0 hd (by decide)) (ls0 := [.ref p, .ref 1, .int r10, .null, .null, .null, .null, .null, .null]) rfl (Nat.le_of_ble_eq_true rfl) (Nat.le_of_ble_eq_true rfl) rfl (to_rc rfl rfl rfl (g_o hG95 (by rcases hp with rfl | rfl <;> rfl))) rfl ?_)))
              have c_98 : M96.2.1 p 3 = (M.2.1 p 3) := (F_n F94 (show ¬ (p = 1 ∧ 5 ≤ 3 ∨ 3 ≤ p ∧ p ≤ 5) by omega) (W_n W90 (by omega) c_89))
              have t_99 : (M96.2.1 p 3).toInt = (M.2.1 p 3).toInt := congrArg Int32.toInt c_98
              refine C_42 hX (dp1 hd (by decide)) hG95 hp (by omega) (by omega) (by omega) (p := p) (f := r10) (fun r100 M106 hG102 F101 p_103 p_104 p_105 => ?_)
              have F107 := FR.c F97 F101 tg_216
              refine b_ine (pc := 111) rw_41_111 (A := r100.toInt) rfl (fun h108 => ?_) (fun h108 => ?_)
              · refine to_an (pc := 116) rw_41_116 rfl (to_dupr (pc := 117) rw_41_117 ?_)
                have c_109 : M106.2.1 p 3 = (M.2.1 p 3) := (F_n F101 (show ¬ (p = 1 ∧ 5 ≤ 3 ∨ 3 ≤ p ∧ p ≤ 5 ∨ p = 57 ∨ p = 66) by omega) c_98)
                refine tt_gI (pc := 118) rw_41_118 (g_o hG102 (by rcases hp with rfl | rfl <;> rfl)) (v := (M.2.1 p 3)) c_109 (to_c (pc := 121) rw_41_121 (x := (1 : Int32)) rfl rfl (s_add (pc := 122) rw_41_122 (A := (M.2.1 p 3).toInt) (B := 1) rfl rfl (by omega) (fun v110 e111 => s_pI (pc := 123) rw_41_123 hG102 (by rcases hp with rfl | rfl <;> rfl) (fun M113 W112 => ?_))))
                have hG114 := g_w hG102 W112 (A := v110.toInt) rfl (lo := 0) (hi := 12) (by rcases hp with rfl | rfl <;> rfl) (by rcases hp with rfl | rfl <;> rfl) (by omega) (by omega)
                have F115 := FR.w F107 W112 (show p = 1 ∧ 5 ≤ 3 ∨ 3 ≤ p ∧ p ≤ 5 ∨ 49 ≤ p ∧ p ≤ 66 by omega)
                refine to_c (pc := 126) rw_41_126 (x := (1 : Int32)) rfl rfl (s_r1 (pc := 127) rw_41_127 (A := 1) rfl (by decide) ?_)
                have k_116 : (1 : Int32).toInt = 1 := rfl
                have j_117 := (PI_f (fun a i z => W_n W112 (by omega) rfl) (PI_f (tg_209 F101) (PI_f (tg_208 F94) (PI_f (fun a i z => W_n W90 (by omega) rfl) (PI_f (fun a i z => W_n W85 (by omega) rfl) (PI_f (tg_208 F76) (PI_f (tg_208 F71) (PI_f (tg_99 F11) (PI_f (tg_208 F3) q1)))))))))
                have c_118 : M113.2.1 1 10 = (M106.2.1 1 10) := (W_n W112 (by omega) rfl)
                have t_119 : (M113.2.1 1 10).toInt = (M106.2.1 1 10).toInt := congrArg Int32.toInt c_118
                have c_120 : M113.2.1 1 11 = (M106.2.1 1 11) := (W_n W112 (by omega) rfl)
                have t_121 : (M113.2.1 1 11).toInt = (M106.2.1 1 11).toInt := congrArg Int32.toInt c_120
                exact h (1 : Int32) M113 hG114 F115 (by decide) (by decide) j_117 (by omega)
              · refine to_c (pc := 114) rw_41_114 (x := (0 : Int32)) rfl rfl (s_r1 (pc := 115) rw_41_115 (A := 0) rfl (by decide) ?_)
                have k_122 : (0 : Int32).toInt = 0 := rfl
                have j_123 := (PI_f (tg_209 F101) (PI_f (tg_208 F94) (PI_f (fun a i z => W_n W90 (by omega) rfl) (PI_f (fun a i z => W_n W85 (by omega) rfl) (PI_f (tg_208 F76) (PI_f (tg_208 F71) (PI_f (tg_99 F11) (PI_f (tg_208 F3) q1))))))))
                exact h (0 : Int32) M106 hG102 F107 (by decide) (by decide) j_123 (by omega)
            · refine to_c (pc := 76) rw_41_76 (x := (0 : Int32)) rfl rfl (s_r1 (pc := 77) rw_41_77 (A := 0) rfl (by decide) ?_)
              have k_124 : (0 : Int32).toInt = 0 := rfl
              have j_125 := (PI_f (tg_208 F76) (PI_f (tg_208 F71) (PI_f (tg_99 F11) (PI_f (tg_208 F3) q1))))
              exact h (0 : Int32) M81 hG77 F82 (by decide) (by decide) j_125 (by omega)
    · refine to_an (pc := 27) rw_41_27 rfl (to_c (pc := 28) rw_41_28 (x := (1 : Int32)) rfl rfl (s_v (pc := 29) rw_41_29 (dp0 hd (by decide)) (ls0 := [.ref 1, .int (1 : Int32)]) rfl (Nat.le_of_ble_eq_true rfl) (Nat.le_of_ble_eq_true rfl) rfl (to_rc rfl rfl rfl (g_o hG4 rfl)) rfl (to_an (pc := 0) rw_84_0 rfl (to_in (pc := 1) rw_84_1 rfl (s_pI (pc := 2) rw_84_2 hG4 rfl (fun M127 W126 => ?_))))))
      have hG128 := g_wf hG4 W126 rfl rfl (by decide)
      have F129 := FR.w F6 W126 (show 1 = 1 ∧ 5 ≤ 10 ∨ 3 ≤ 1 ∧ 1 ≤ 5 ∨ 49 ≤ 1 ∧ 1 ≤ 66 by decide)
      refine to_an (pc := 5) rw_84_5 rfl (to_an (pc := 6) rw_84_6 rfl ?_)
      have c_130 : M127.2.1 1 9 = (M5.2.1 1 9) := (W_n W126 (by decide) rfl)
      refine tt_gI (pc := 7) rw_84_7 (g_o hG128 rfl) (v := (M5.2.1 1 9)) c_130 (s_pI (pc := 10) rw_84_10 hG128 rfl (fun M132 W131 => ?_))
      have hG133 := g_wf hG128 W131 rfl rfl (by decide)
      have F134 := FR.w F129 W131 (show 1 = 1 ∧ 5 ≤ 11 ∨ 3 ≤ 1 ∧ 1 ≤ 5 ∨ 49 ≤ 1 ∧ 1 ≤ 66 by decide)
      refine to_c (pc := 13) rw_84_13 (x := (0 : Int32)) rfl rfl (s_r1 (pc := 14) rw_84_14 (A := 0) rfl (by decide) (s_r1 (pc := 32) rw_41_32 (A := 0) rfl (by decide) ?_))
      have k_135 : (0 : Int32).toInt = 0 := rfl
      have j_136 := (PI_f (fun a i z => W_n W131 (by /-r1,11-/ omega) rfl) (PI_f (fun a i z => W_n W126 (by /-r1,10-/ omega) rfl) (PI_f (tg_208 F3) q1)))
      have c_137 : M132.2.1 1 10 = (1 : Int32) := (W_n W131 (by decide) (W_e W126))
      have k_138 : (1 : Int32).toInt = 1 := rfl
      have t_139 : (M132.2.1 1 10).toInt = (1 : Int32).toInt := congrArg Int32.toInt c_137
      have c_140 : M132.2.1 1 11 = (M5.2.1 1 9) := (W_e W131)
      have t_141 : (M132.2.1 1 11).toInt = (M5.2.1 1 9).toInt := congrArg Int32.toInt c_140
      exact h (0 : Int32) M132 hG133 F134 (by decide) (by decide) j_136 (by omega)
  · refine to_an (pc := 9) rw_41_9 rfl (to_c (pc := 10) rw_41_10 (x := (2 : Int32)) rfl rfl (s_v (pc := 11) rw_41_11 (dp0 hd (by decide)) (ls0 := [.ref 1, .int (2 : Int32)]) rfl (Nat.le_of_ble_eq_true rfl) (Nat.le_of_ble_eq_true rfl) rfl (to_rc rfl rfl rfl (g_o hG rfl)) rfl (to_an (pc := 0) rw_84_0 rfl (to_in (pc := 1) rw_84_1 rfl (s_pI (pc := 2) rw_84_2 hG rfl (fun M143 W142 => ?_))))))
    have hG144 := g_wf hG W142 rfl rfl (by decide)
    have F145 := FR.w F0 W142 (show 1 = 1 ∧ 5 ≤ 10 ∨ 3 ≤ 1 ∧ 1 ≤ 5 ∨ 49 ≤ 1 ∧ 1 ≤ 66 by decide)
    refine to_an (pc := 5) rw_84_5 rfl (to_an (pc := 6) rw_84_6 rfl ?_)
    have c_146 : M143.2.1 1 9 = (M.2.1 1 9) := (W_n W142 (by decide) rfl)
    refine tt_gI (pc := 7) rw_84_7 (g_o hG144 rfl) (v := (M.2.1 1 9)) c_146 (s_pI (pc := 10) rw_84_10 hG144 rfl (fun M148 W147 => ?_))
    have hG149 := g_wf hG144 W147 rfl rfl (by decide)
    have F150 := FR.w F145 W147 (show 1 = 1 ∧ 5 ≤ 11 ∨ 3 ≤ 1 ∧ 1 ≤ 5 ∨ 49 ≤ 1 ∧ 1 ≤ 66 by decide)
    refine to_c (pc := 13) rw_84_13 (x := (0 : Int32)) rfl rfl (s_r1 (pc := 14) rw_84_14 (A := 0) rfl (by decide) (s_r1 (pc := 14) rw_41_14 (A := 0) rfl (by decide) ?_))
    have k_151 : (0 : Int32).toInt = 0 := rfl
    have j_152 := (PI_f (fun a i z => W_n W147 (by /-r1,11-/ omega) rfl) (PI_f (fun a i z => W_n W142 (by /-r1,10-/ omega) rfl) q1))
    have c_153 : M148.2.1 1 10 = (2 : Int32) := (W_n W147 (by decide) (W_e W142))
    have k_154 : (2 : Int32).toInt = 2 := rfl
    have t_155 : (M148.2.1 1 10).toInt = (2 : Int32).toInt := congrArg Int32.toInt c_153
    have c_156 : M148.2.1 1 11 = (M.2.1 1 9) := (W_e W147)
    have t_157 : (M148.2.1 1 11).toInt = (M.2.1 1 9).toInt := congrArg Int32.toInt c_156
    exact h (0 : Int32) M148 hG149 F150 (by decide) (by decide) j_152 (by omega)
set_option maxRecDepth 4000 in
set_option maxHeartbeats 0 in
theorem C_31 {X : mm_X} {d : Nat} {M : mm_M} {Q : Option Value → mm_M → Prop} {p : Nat} (hX : g_X X) (hd : 4 ≤ d) (hG : g_G M) (hp : p = 49 ∨ p = 58) (q1 : PI M) (h : ∀ (r : Int32) (M1 : mm_M), g_G M1 → FR md_pt M M1 → (0 ≤ r.toInt) → (r.toInt ≤ 1) → PI M1 → (r.toInt = 1 → (M1.2.1 1 10).toInt = (M.2.1 1 10).toInt ∧ (M1.2.1 1 11).toInt = (M.2.1 1 11).toInt) → Q (some (.int r)) M1) : mm_T X d 31 0 [.ref p, .ref 1] [] M Q := by
  have F0 : FR md_pt M M := FR.rf
  refine to_an (pc := 0) rw_31_0 rfl (to_c (pc := 1) rw_31_1 (x := (284563040 : Int32)) rfl rfl (s_v (pc := 3) rw_31_3 (dp0 hd (by decide)) (ls0 := [.ref 1, .int (284563040 : Int32)]) rfl (Nat.le_of_ble_eq_true rfl) (Nat.le_of_ble_eq_true rfl) rfl (to_rc rfl rfl rfl (g_o hG rfl)) rfl (to_an (pc := 0) rw_86_0 rfl (tt_gI (pc := 1) rw_86_1 (g_o hG rfl) (v := (M.2.1 1 7)) rfl (to_c (pc := 4) rw_86_4 (x := (4 : Int32)) rfl rfl (b_cne (pc := 5) rw_86_5 (A := (M.2.1 1 7).toInt) (B := 4) rfl rfl (fun h1 => ?_) (fun h1 => ?_)))))))
  · refine to_c (pc := 20) rw_86_20 (x := (0 : Int32)) rfl rfl (s_r1 (pc := 21) rw_86_21 (A := 0) rfl (by decide) (b_ieq_t (pc := 6) rw_31_6 (A := 0) rfl (by decide) (to_an (pc := 15) rw_31_15 rfl (tt_gI (pc := 16) rw_31_16 (g_o hG (by rcases hp with rfl | rfl <;> rfl)) (v := (M.2.1 p 1)) rfl (b_ile (pc := 19) rw_31_19 (A := (M.2.1 p 1).toInt) rfl (fun h2 => ?_) (fun h2 => ?_))))))
    · refine to_an (pc := 37) rw_31_37 rfl (tt_gI (pc := 38) rw_31_38 (g_o hG (by rcases hp with rfl | rfl <;> rfl)) (v := (M.2.1 p 1)) rfl (b_ile_t (pc := 41) rw_31_41 (A := (M.2.1 p 1).toInt) rfl (by omega) (to_an (pc := 59) rw_31_59 rfl (to_c (pc := 60) rw_31_60 (x := (1 : Int32)) rfl rfl (s_v (pc := 61) rw_31_61 (dp0 hd (by decide)) (ls0 := [.ref 1, .int (1 : Int32)]) rfl (Nat.le_of_ble_eq_true rfl) (Nat.le_of_ble_eq_true rfl) rfl (to_rc rfl rfl rfl (g_o hG rfl)) rfl (to_an (pc := 0) rw_84_0 rfl (to_in (pc := 1) rw_84_1 rfl (s_pI (pc := 2) rw_84_2 hG rfl (fun M4 W3 => ?_)))))))))
      have hG5 := g_wf hG W3 rfl rfl (by decide)
      have F6 := FR.w F0 W3 (show 1 = 1 ∧ 5 ≤ 10 ∨ 3 ≤ 1 ∧ 1 ≤ 5 ∨ 49 ≤ 1 ∧ 1 ≤ 66 by decide)
      refine to_an (pc := 5) rw_84_5 rfl (to_an (pc := 6) rw_84_6 rfl ?_)
      have c_7 : M4.2.1 1 9 = (M.2.1 1 9) := (W_n W3 (by decide) rfl)
      refine tt_gI (pc := 7) rw_84_7 (g_o hG5 rfl) (v := (M.2.1 1 9)) c_7 (s_pI (pc := 10) rw_84_10 hG5 rfl (fun M9 W8 => ?_))
      have hG10 := g_wf hG5 W8 rfl rfl (by decide)
      have F11 := FR.w F6 W8 (show 1 = 1 ∧ 5 ≤ 11 ∨ 3 ≤ 1 ∧ 1 ≤ 5 ∨ 49 ≤ 1 ∧ 1 ≤ 66 by decide)
      refine to_c (pc := 13) rw_84_13 (x := (0 : Int32)) rfl rfl (s_r1 (pc := 14) rw_84_14 (A := 0) rfl (by decide) (s_r1 (pc := 64) rw_31_64 (A := 0) rfl (by decide) ?_))
      have k_12 : (0 : Int32).toInt = 0 := rfl
      have j_13 := (PI_f (fun a i z => W_n W8 (by /-r1,11-/ omega) rfl) (PI_f (fun a i z => W_n W3 (by /-r1,10-/ omega) rfl) q1))
      have c_14 : M9.2.1 1 10 = (1 : Int32) := (W_n W8 (by decide) (W_e W3))
      have k_15 : (1 : Int32).toInt = 1 := rfl
      have t_16 : (M9.2.1 1 10).toInt = (1 : Int32).toInt := congrArg Int32.toInt c_14
      have c_17 : M9.2.1 1 11 = (M.2.1 1 9) := (W_e W8)
      have t_18 : (M9.2.1 1 11).toInt = (M.2.1 1 9).toInt := congrArg Int32.toInt c_17
      exact h (0 : Int32) M9 hG10 F11 (by decide) (by decide) j_13 (by omega)
    · refine to_an (pc := 22) rw_31_22 rfl (to_c (pc := 23) rw_31_23 (x := (210940032 : Int32)) rfl rfl (s_v (pc := 25) rw_31_25 (dp0 hd (by decide)) (ls0 := [.ref 1, .int (210940032 : Int32)]) rfl (Nat.le_of_ble_eq_true rfl) (Nat.le_of_ble_eq_true rfl) rfl (to_rc rfl rfl rfl (g_o hG rfl)) rfl (to_an (pc := 0) rw_86_0 rfl (tt_gI (pc := 1) rw_86_1 (g_o hG rfl) (v := (M.2.1 1 7)) rfl (to_c (pc := 4) rw_86_4 (x := (4 : Int32)) rfl rfl (b_cne (pc := 5) rw_86_5 (A := (M.2.1 1 7).toInt) (B := 4) rfl rfl (fun h19 => ?_) (fun h19 => ?_)))))))
      · refine to_c (pc := 20) rw_86_20 (x := (0 : Int32)) rfl rfl (s_r1 (pc := 21) rw_86_21 (A := 0) rfl (by decide) (b_ieq_t (pc := 28) rw_31_28 (A := 0) rfl (by decide) (to_an (pc := 37) rw_31_37 rfl (tt_gI (pc := 38) rw_31_38 (g_o hG (by rcases hp with rfl | rfl <;> rfl)) (v := (M.2.1 p 1)) rfl (b_ile_f (pc := 41) rw_31_41 (A := (M.2.1 p 1).toInt) rfl (by omega) (to_an (pc := 44) rw_31_44 rfl (to_c (pc := 45) rw_31_45 (x := (788074496 : Int32)) rfl rfl (s_v (pc := 47) rw_31_47 (dp0 hd (by decide)) (ls0 := [.ref 1, .int (788074496 : Int32)]) rfl (Nat.le_of_ble_eq_true rfl) (Nat.le_of_ble_eq_true rfl) rfl (to_rc rfl rfl rfl (g_o hG rfl)) rfl (to_an (pc := 0) rw_86_0 rfl (tt_gI (pc := 1) rw_86_1 (g_o hG rfl) (v := (M.2.1 1 7)) rfl (to_c (pc := 4) rw_86_4 (x := (4 : Int32)) rfl rfl ?_)))))))))))
        refine b_cne (pc := 5) rw_86_5 (A := (M.2.1 1 7).toInt) (B := 4) rfl rfl (fun h20 => ?_) (fun h20 => ?_)
        · refine to_c (pc := 20) rw_86_20 (x := (0 : Int32)) rfl rfl (s_r1 (pc := 21) rw_86_21 (A := 0) rfl (by decide) (b_ieq_t (pc := 50) rw_31_50 (A := 0) rfl (by decide) (to_an (pc := 59) rw_31_59 rfl (to_c (pc := 60) rw_31_60 (x := (1 : Int32)) rfl rfl (s_v (pc := 61) rw_31_61 (dp0 hd (by decide)) (ls0 := [.ref 1, .int (1 : Int32)]) rfl (Nat.le_of_ble_eq_true rfl) (Nat.le_of_ble_eq_true rfl) rfl (to_rc rfl rfl rfl (g_o hG rfl)) rfl (to_an (pc := 0) rw_84_0 rfl (to_in (pc := 1) rw_84_1 rfl (s_pI (pc := 2) rw_84_2 hG rfl (fun M22 W21 => ?_)))))))))
          have hG23 := g_wf hG W21 rfl rfl (by decide)
          have F24 := FR.w F0 W21 (show 1 = 1 ∧ 5 ≤ 10 ∨ 3 ≤ 1 ∧ 1 ≤ 5 ∨ 49 ≤ 1 ∧ 1 ≤ 66 by decide)
          refine to_an (pc := 5) rw_84_5 rfl (to_an (pc := 6) rw_84_6 rfl ?_)
          have c_25 : M22.2.1 1 9 = (M.2.1 1 9) := (W_n W21 (by decide) rfl)
          refine tt_gI (pc := 7) rw_84_7 (g_o hG23 rfl) (v := (M.2.1 1 9)) c_25 (s_pI (pc := 10) rw_84_10 hG23 rfl (fun M27 W26 => ?_))
          have hG28 := g_wf hG23 W26 rfl rfl (by decide)
          have F29 := FR.w F24 W26 (show 1 = 1 ∧ 5 ≤ 11 ∨ 3 ≤ 1 ∧ 1 ≤ 5 ∨ 49 ≤ 1 ∧ 1 ≤ 66 by decide)
          refine to_c (pc := 13) rw_84_13 (x := (0 : Int32)) rfl rfl (s_r1 (pc := 14) rw_84_14 (A := 0) rfl (by decide) (s_r1 (pc := 64) rw_31_64 (A := 0) rfl (by decide) ?_))
          have k_30 : (0 : Int32).toInt = 0 := rfl
          have j_31 := (PI_f (fun a i z => W_n W26 (by /-r1,11-/ omega) rfl) (PI_f (fun a i z => W_n W21 (by /-r1,10-/ omega) rfl) q1))
          have c_32 : M27.2.1 1 10 = (1 : Int32) := (W_n W26 (by decide) (W_e W21))
          have k_33 : (1 : Int32).toInt = 1 := rfl
          have t_34 : (M27.2.1 1 10).toInt = (1 : Int32).toInt := congrArg Int32.toInt c_32
          have c_35 : M27.2.1 1 11 = (M.2.1 1 9) := (W_e W26)
          have t_36 : (M27.2.1 1 11).toInt = (M.2.1 1 9).toInt := congrArg Int32.toInt c_35
          exact h (0 : Int32) M27 hG28 F29 (by decide) (by decide) j_31 (by omega)
        · refine to_an (pc := 8) rw_86_8 rfl (tt_gI (pc := 9) rw_86_9 (g_o hG rfl) (v := (M.2.1 1 8)) rfl (to_in (pc := 12) rw_86_12 rfl (b_cne (pc := 13) rw_86_13 (A := (M.2.1 1 8).toInt) (B := 788074496) rfl rfl (fun h37 => ?_) (fun h37 => ?_))))
          · refine to_c (pc := 20) rw_86_20 (x := (0 : Int32)) rfl rfl (s_r1 (pc := 21) rw_86_21 (A := 0) rfl (by decide) (b_ieq_t (pc := 50) rw_31_50 (A := 0) rfl (by decide) (to_an (pc := 59) rw_31_59 rfl (to_c (pc := 60) rw_31_60 (x := (1 : Int32)) rfl rfl (s_v (pc := 61) rw_31_61 (dp0 hd (by decide)) (ls0 := [.ref 1, .int (1 : Int32)]) rfl (Nat.le_of_ble_eq_true rfl) (Nat.le_of_ble_eq_true rfl) rfl (to_rc rfl rfl rfl (g_o hG rfl)) rfl (to_an (pc := 0) rw_84_0 rfl (to_in (pc := 1) rw_84_1 rfl (s_pI (pc := 2) rw_84_2 hG rfl (fun M39 W38 => ?_)))))))))
            have hG40 := g_wf hG W38 rfl rfl (by decide)
            have F41 := FR.w F0 W38 (show 1 = 1 ∧ 5 ≤ 10 ∨ 3 ≤ 1 ∧ 1 ≤ 5 ∨ 49 ≤ 1 ∧ 1 ≤ 66 by decide)
            refine to_an (pc := 5) rw_84_5 rfl (to_an (pc := 6) rw_84_6 rfl ?_)
            have c_42 : M39.2.1 1 9 = (M.2.1 1 9) := (W_n W38 (by decide) rfl)
            refine tt_gI (pc := 7) rw_84_7 (g_o hG40 rfl) (v := (M.2.1 1 9)) c_42 (s_pI (pc := 10) rw_84_10 hG40 rfl (fun M44 W43 => ?_))
            have hG45 := g_wf hG40 W43 rfl rfl (by decide)
            have F46 := FR.w F41 W43 (show 1 = 1 ∧ 5 ≤ 11 ∨ 3 ≤ 1 ∧ 1 ≤ 5 ∨ 49 ≤ 1 ∧ 1 ≤ 66 by decide)
            refine to_c (pc := 13) rw_84_13 (x := (0 : Int32)) rfl rfl (s_r1 (pc := 14) rw_84_14 (A := 0) rfl (by decide) (s_r1 (pc := 64) rw_31_64 (A := 0) rfl (by decide) ?_))
            have k_47 : (0 : Int32).toInt = 0 := rfl
            have j_48 := (PI_f (fun a i z => W_n W43 (by /-r1,11-/ omega) rfl) (PI_f (fun a i z => W_n W38 (by /-r1,10-/ omega) rfl) q1))
            have c_49 : M44.2.1 1 10 = (1 : Int32) := (W_n W43 (by decide) (W_e W38))
            have k_50 : (1 : Int32).toInt = 1 := rfl
            have t_51 : (M44.2.1 1 10).toInt = (1 : Int32).toInt := congrArg Int32.toInt c_49
            have c_52 : M44.2.1 1 11 = (M.2.1 1 9) := (W_e W43)
            have t_53 : (M44.2.1 1 11).toInt = (M.2.1 1 9).toInt := congrArg Int32.toInt c_52
            exact h (0 : Int32) M44 hG45 F46 (by decide) (by decide) j_48 (by omega)
          · refine to_c (pc := 16) rw_86_16 (x := (1 : Int32)) rfl rfl (to_go (pc := 17) rw_86_17 (s_r1 (pc := 21) rw_86_21 (A := 1) rfl (by decide) (b_ieq_f (pc := 50) rw_31_50 (A := 1) rfl (by decide) (to_an (pc := 53) rw_31_53 rfl (to_an (pc := 54) rw_31_54 rfl (s_v (pc := 55) rw_31_55 (dp0 hd (by decide)) (ls0 := [.ref p, .ref 1, .null]) rfl (Nat.le_of_ble_eq_true rfl) (Nat.le_of_ble_eq_true rfl) rfl (to_rc rfl rfl rfl (g_o hG (by rcases hp with rfl | rfl <;> rfl))) rfl (C_41 hX (dp1 hd (by decide)) hG hp q1 (p := p) (fun r54 M61 hG56 F55 p_57 p_58 p_59 p_60 => ?_))))))))
            have F62 := FR.c F0 F55 tg_217
            refine s_r1 (pc := 58) rw_31_58 (A := r54.toInt) rfl (by omega) ?_
            exact h r54 M61 hG56 F62 (by omega) (by omega) p_59 (by omega)
      · refine to_an (pc := 8) rw_86_8 rfl (tt_gI (pc := 9) rw_86_9 (g_o hG rfl) (v := (M.2.1 1 8)) rfl (to_in (pc := 12) rw_86_12 rfl (b_cne (pc := 13) rw_86_13 (A := (M.2.1 1 8).toInt) (B := 210940032) rfl rfl (fun h63 => ?_) (fun h63 => ?_))))
        · refine to_c (pc := 20) rw_86_20 (x := (0 : Int32)) rfl rfl (s_r1 (pc := 21) rw_86_21 (A := 0) rfl (by decide) (b_ieq_t (pc := 28) rw_31_28 (A := 0) rfl (by decide) (to_an (pc := 37) rw_31_37 rfl (tt_gI (pc := 38) rw_31_38 (g_o hG (by rcases hp with rfl | rfl <;> rfl)) (v := (M.2.1 p 1)) rfl (b_ile_f (pc := 41) rw_31_41 (A := (M.2.1 p 1).toInt) rfl (by omega) (to_an (pc := 44) rw_31_44 rfl (to_c (pc := 45) rw_31_45 (x := (788074496 : Int32)) rfl rfl (s_v (pc := 47) rw_31_47 (dp0 hd (by decide)) (ls0 := [.ref 1, .int (788074496 : Int32)]) rfl (Nat.le_of_ble_eq_true rfl) (Nat.le_of_ble_eq_true rfl) rfl (to_rc rfl rfl rfl (g_o hG rfl)) rfl (to_an (pc := 0) rw_86_0 rfl (tt_gI (pc := 1) rw_86_1 (g_o hG rfl) (v := (M.2.1 1 7)) rfl (to_c (pc := 4) rw_86_4 (x := (4 : Int32)) rfl rfl ?_)))))))))))
          refine b_cne_f (pc := 5) rw_86_5 (A := (M.2.1 1 7).toInt) (B := 4) rfl rfl (by omega) (to_an (pc := 8) rw_86_8 rfl (tt_gI (pc := 9) rw_86_9 (g_o hG rfl) (v := (M.2.1 1 8)) rfl (to_in (pc := 12) rw_86_12 rfl (b_cne (pc := 13) rw_86_13 (A := (M.2.1 1 8).toInt) (B := 788074496) rfl rfl (fun h64 => ?_) (fun h64 => ?_)))))
          · refine to_c (pc := 20) rw_86_20 (x := (0 : Int32)) rfl rfl (s_r1 (pc := 21) rw_86_21 (A := 0) rfl (by decide) (b_ieq_t (pc := 50) rw_31_50 (A := 0) rfl (by decide) (to_an (pc := 59) rw_31_59 rfl (to_c (pc := 60) rw_31_60 (x := (1 : Int32)) rfl rfl (s_v (pc := 61) rw_31_61 (dp0 hd (by decide)) (ls0 := [.ref 1, .int (1 : Int32)]) rfl (Nat.le_of_ble_eq_true rfl) (Nat.le_of_ble_eq_true rfl) rfl (to_rc rfl rfl rfl (g_o hG rfl)) rfl (to_an (pc := 0) rw_84_0 rfl (to_in (pc := 1) rw_84_1 rfl (s_pI (pc := 2) rw_84_2 hG rfl (fun M66 W65 => ?_)))))))))
            have hG67 := g_wf hG W65 rfl rfl (by decide)
            have F68 := FR.w F0 W65 (show 1 = 1 ∧ 5 ≤ 10 ∨ 3 ≤ 1 ∧ 1 ≤ 5 ∨ 49 ≤ 1 ∧ 1 ≤ 66 by decide)
            refine to_an (pc := 5) rw_84_5 rfl (to_an (pc := 6) rw_84_6 rfl ?_)
            have c_69 : M66.2.1 1 9 = (M.2.1 1 9) := (W_n W65 (by decide) rfl)
            refine tt_gI (pc := 7) rw_84_7 (g_o hG67 rfl) (v := (M.2.1 1 9)) c_69 (s_pI (pc := 10) rw_84_10 hG67 rfl (fun M71 W70 => ?_))
            have hG72 := g_wf hG67 W70 rfl rfl (by decide)
            have F73 := FR.w F68 W70 (show 1 = 1 ∧ 5 ≤ 11 ∨ 3 ≤ 1 ∧ 1 ≤ 5 ∨ 49 ≤ 1 ∧ 1 ≤ 66 by decide)
            refine to_c (pc := 13) rw_84_13 (x := (0 : Int32)) rfl rfl (s_r1 (pc := 14) rw_84_14 (A := 0) rfl (by decide) (s_r1 (pc := 64) rw_31_64 (A := 0) rfl (by decide) ?_))
            have k_74 : (0 : Int32).toInt = 0 := rfl
            have j_75 := (PI_f (fun a i z => W_n W70 (by /-r1,11-/ omega) rfl) (PI_f (fun a i z => W_n W65 (by /-r1,10-/ omega) rfl) q1))
            have c_76 : M71.2.1 1 10 = (1 : Int32) := (W_n W70 (by decide) (W_e W65))
            have k_77 : (1 : Int32).toInt = 1 := rfl
            have t_78 : (M71.2.1 1 10).toInt = (1 : Int32).toInt := congrArg Int32.toInt c_76
            have c_79 : M71.2.1 1 11 = (M.2.1 1 9) := (W_e W70)
            have t_80 : (M71.2.1 1 11).toInt = (M.2.1 1 9).toInt := congrArg Int32.toInt c_79
            exact h (0 : Int32) M71 hG72 F73 (by decide) (by decide) j_75 (by omega)
          · refine to_c (pc := 16) rw_86_16 (x := (1 : Int32)) rfl rfl (to_go (pc := 17) rw_86_17 (s_r1 (pc := 21) rw_86_21 (A := 1) rfl (by decide) (b_ieq_f (pc := 50) rw_31_50 (A := 1) rfl (by decide) (to_an (pc := 53) rw_31_53 rfl (to_an (pc := 54) rw_31_54 rfl (s_v (pc := 55) rw_31_55 (dp0 hd (by decide)) (ls0 := [.ref p, .ref 1, .null]) rfl (Nat.le_of_ble_eq_true rfl) (Nat.le_of_ble_eq_true rfl) rfl (to_rc rfl rfl rfl (g_o hG (by rcases hp with rfl | rfl <;> rfl))) rfl (C_41 hX (dp1 hd (by decide)) hG hp q1 (p := p) (fun r81 M88 hG83 F82 p_84 p_85 p_86 p_87 => ?_))))))))
            have F89 := FR.c F0 F82 tg_217
            refine s_r1 (pc := 58) rw_31_58 (A := r81.toInt) rfl (by omega) ?_
            exact h r81 M88 hG83 F89 (by omega) (by omega) p_86 (by omega)
        · refine to_c (pc := 16) rw_86_16 (x := (1 : Int32)) rfl rfl (to_go (pc := 17) rw_86_17 (s_r1 (pc := 21) rw_86_21 (A := 1) rfl (by decide) (b_ieq_f (pc := 28) rw_31_28 (A := 1) rfl (by decide) (to_an (pc := 31) rw_31_31 rfl (to_an (pc := 32) rw_31_32 rfl (s_v (pc := 33) rw_31_33 (dp0 hd (by decide)) (ls0 := [.ref p, .ref 1, .null, .null]) rfl (Nat.le_of_ble_eq_true rfl) (Nat.le_of_ble_eq_true rfl) rfl (to_rc rfl rfl rfl (g_o hG (by rcases hp with rfl | rfl <;> rfl))) rfl (C_33 hX (dp1 hd (by decide)) hG hp q1 (p := p) (fun r90 M97 hG92 F91 p_93 p_94 p_95 p_96 => ?_))))))))
          have F98 := FR.c F0 F91 tg_217
          refine s_r1 (pc := 36) rw_31_36 (A := r90.toInt) rfl (by omega) ?_
          exact h r90 M97 hG92 F98 (by omega) (by omega) p_95 (by omega)
  · refine to_an (pc := 8) rw_86_8 rfl (tt_gI (pc := 9) rw_86_9 (g_o hG rfl) (v := (M.2.1 1 8)) rfl (to_in (pc := 12) rw_86_12 rfl (b_cne (pc := 13) rw_86_13 (A := (M.2.1 1 8).toInt) (B := 284563040) rfl rfl (fun h99 => ?_) (fun h99 => ?_))))
    · refine to_c (pc := 20) rw_86_20 (x := (0 : Int32)) rfl rfl (s_r1 (pc := 21) rw_86_21 (A := 0) rfl (by decide) (b_ieq_t (pc := 6) rw_31_6 (A := 0) rfl (by decide) (to_an (pc := 15) rw_31_15 rfl (tt_gI (pc := 16) rw_31_16 (g_o hG (by rcases hp with rfl | rfl <;> rfl)) (v := (M.2.1 p 1)) rfl (b_ile (pc := 19) rw_31_19 (A := (M.2.1 p 1).toInt) rfl (fun h100 => ?_) (fun h100 => ?_))))))
      · refine to_an (pc := 37) rw_31_37 rfl (tt_gI (pc := 38) rw_31_38 (g_o hG (by rcases hp with rfl | rfl <;> rfl)) (v := (M.2.1 p 1)) rfl (b_ile_t (pc := 41) rw_31_41 (A := (M.2.1 p 1).toInt) rfl (by omega) (to_an (pc := 59) rw_31_59 rfl (to_c (pc := 60) rw_31_60 (x := (1 : Int32)) rfl rfl (s_v (pc := 61) rw_31_61 (dp0 hd (by decide)) (ls0 := [.ref 1, .int (1 : Int32)]) rfl (Nat.le_of_ble_eq_true rfl) (Nat.le_of_ble_eq_true rfl) rfl (to_rc rfl rfl rfl (g_o hG rfl)) rfl (to_an (pc := 0) rw_84_0 rfl (to_in (pc := 1) rw_84_1 rfl (s_pI (pc := 2) rw_84_2 hG rfl (fun M102 W101 => ?_)))))))))
        have hG103 := g_wf hG W101 rfl rfl (by decide)
        have F104 := FR.w F0 W101 (show 1 = 1 ∧ 5 ≤ 10 ∨ 3 ≤ 1 ∧ 1 ≤ 5 ∨ 49 ≤ 1 ∧ 1 ≤ 66 by decide)
        refine to_an (pc := 5) rw_84_5 rfl (to_an (pc := 6) rw_84_6 rfl ?_)
        have c_105 : M102.2.1 1 9 = (M.2.1 1 9) := (W_n W101 (by decide) rfl)
        refine tt_gI (pc := 7) rw_84_7 (g_o hG103 rfl) (v := (M.2.1 1 9)) c_105 (s_pI (pc := 10) rw_84_10 hG103 rfl (fun M107 W106 => ?_))
        have hG108 := g_wf hG103 W106 rfl rfl (by decide)
        have F109 := FR.w F104 W106 (show 1 = 1 ∧ 5 ≤ 11 ∨ 3 ≤ 1 ∧ 1 ≤ 5 ∨ 49 ≤ 1 ∧ 1 ≤ 66 by decide)
        refine to_c (pc := 13) rw_84_13 (x := (0 : Int32)) rfl rfl (s_r1 (pc := 14) rw_84_14 (A := 0) rfl (by decide) (s_r1 (pc := 64) rw_31_64 (A := 0) rfl (by decide) ?_))
        have k_110 : (0 : Int32).toInt = 0 := rfl
        have j_111 := (PI_f (fun a i z => W_n W106 (by /-r1,11-/ omega) rfl) (PI_f (fun a i z => W_n W101 (by /-r1,10-/ omega) rfl) q1))
        have c_112 : M107.2.1 1 10 = (1 : Int32) := (W_n W106 (by decide) (W_e W101))
        have k_113 : (1 : Int32).toInt = 1 := rfl
        have t_114 : (M107.2.1 1 10).toInt = (1 : Int32).toInt := congrArg Int32.toInt c_112
        have c_115 : M107.2.1 1 11 = (M.2.1 1 9) := (W_e W106)
        have t_116 : (M107.2.1 1 11).toInt = (M.2.1 1 9).toInt := congrArg Int32.toInt c_115
        exact h (0 : Int32) M107 hG108 F109 (by decide) (by decide) j_111 (by omega)
      · refine to_an (pc := 22) rw_31_22 rfl (to_c (pc := 23) rw_31_23 (x := (210940032 : Int32)) rfl rfl (s_v (pc := 25) rw_31_25 (dp0 hd (by decide)) (ls0 := [.ref 1, .int (210940032 : Int32)]) rfl (Nat.le_of_ble_eq_true rfl) (Nat.le_of_ble_eq_true rfl) rfl (to_rc rfl rfl rfl (g_o hG rfl)) rfl (to_an (pc := 0) rw_86_0 rfl (tt_gI (pc := 1) rw_86_1 (g_o hG rfl) (v := (M.2.1 1 7)) rfl (to_c (pc := 4) rw_86_4 (x := (4 : Int32)) rfl rfl (b_cne_f (pc := 5) rw_86_5 (A := (M.2.1 1 7).toInt) (B := 4) rfl rfl (by omega) (to_an (pc := 8) rw_86_8 rfl (tt_gI (pc := 9) rw_86_9 (g_o hG rfl) (v := (M.2.1 1 8)) rfl (to_in (pc := 12) rw_86_12 rfl (b_cne (pc := 13) rw_86_13 (A := (M.2.1 1 8).toInt) (B := 210940032) rfl rfl (fun h117 => ?_) (fun h117 => ?_)))))))))))
        · refine to_c (pc := 20) rw_86_20 (x := (0 : Int32)) rfl rfl (s_r1 (pc := 21) rw_86_21 (A := 0) rfl (by decide) (b_ieq_t (pc := 28) rw_31_28 (A := 0) rfl (by decide) (to_an (pc := 37) rw_31_37 rfl (tt_gI (pc := 38) rw_31_38 (g_o hG (by rcases hp with rfl | rfl <;> rfl)) (v := (M.2.1 p 1)) rfl (b_ile_f (pc := 41) rw_31_41 (A := (M.2.1 p 1).toInt) rfl (by omega) (to_an (pc := 44) rw_31_44 rfl (to_c (pc := 45) rw_31_45 (x := (788074496 : Int32)) rfl rfl (s_v (pc := 47) rw_31_47 (dp0 hd (by decide)) (ls0 := [.ref 1, .int (788074496 : Int32)]) rfl (Nat.le_of_ble_eq_true rfl) (Nat.le_of_ble_eq_true rfl) rfl (to_rc rfl rfl rfl (g_o hG rfl)) rfl (to_an (pc := 0) rw_86_0 rfl (tt_gI (pc := 1) rw_86_1 (g_o hG rfl) (v := (M.2.1 1 7)) rfl (to_c (pc := 4) rw_86_4 (x := (4 : Int32)) rfl rfl ?_)))))))))))
          refine b_cne_f (pc := 5) rw_86_5 (A := (M.2.1 1 7).toInt) (B := 4) rfl rfl (by omega) (to_an (pc := 8) rw_86_8 rfl (tt_gI (pc := 9) rw_86_9 (g_o hG rfl) (v := (M.2.1 1 8)) rfl (to_in (pc := 12) rw_86_12 rfl (b_cne (pc := 13) rw_86_13 (A := (M.2.1 1 8).toInt) (B := 788074496) rfl rfl (fun h118 => ?_) (fun h118 => ?_)))))
          · refine to_c (pc := 20) rw_86_20 (x := (0 : Int32)) rfl rfl (s_r1 (pc := 21) rw_86_21 (A := 0) rfl (by decide) (b_ieq_t (pc := 50) rw_31_50 (A := 0) rfl (by decide) (to_an (pc := 59) rw_31_59 rfl (to_c (pc := 60) rw_31_60 (x := (1 : Int32)) rfl rfl (s_v (pc := 61) rw_31_61 (dp0 hd (by decide)) (ls0 := [.ref 1, .int (1 : Int32)]) rfl (Nat.le_of_ble_eq_true rfl) (Nat.le_of_ble_eq_true rfl) rfl (to_rc rfl rfl rfl (g_o hG rfl)) rfl (to_an (pc := 0) rw_84_0 rfl (to_in (pc := 1) rw_84_1 rfl (s_pI (pc := 2) rw_84_2 hG rfl (fun M120 W119 => ?_)))))))))
            have hG121 := g_wf hG W119 rfl rfl (by decide)
            have F122 := FR.w F0 W119 (show 1 = 1 ∧ 5 ≤ 10 ∨ 3 ≤ 1 ∧ 1 ≤ 5 ∨ 49 ≤ 1 ∧ 1 ≤ 66 by decide)
            refine to_an (pc := 5) rw_84_5 rfl (to_an (pc := 6) rw_84_6 rfl ?_)
            have c_123 : M120.2.1 1 9 = (M.2.1 1 9) := (W_n W119 (by decide) rfl)
            refine tt_gI (pc := 7) rw_84_7 (g_o hG121 rfl) (v := (M.2.1 1 9)) c_123 (s_pI (pc := 10) rw_84_10 hG121 rfl (fun M125 W124 => ?_))
            have hG126 := g_wf hG121 W124 rfl rfl (by decide)
            have F127 := FR.w F122 W124 (show 1 = 1 ∧ 5 ≤ 11 ∨ 3 ≤ 1 ∧ 1 ≤ 5 ∨ 49 ≤ 1 ∧ 1 ≤ 66 by decide)
            refine to_c (pc := 13) rw_84_13 (x := (0 : Int32)) rfl rfl (s_r1 (pc := 14) rw_84_14 (A := 0) rfl (by decide) (s_r1 (pc := 64) rw_31_64 (A := 0) rfl (by decide) ?_))
            have k_128 : (0 : Int32).toInt = 0 := rfl
            have j_129 := (PI_f (fun a i z => W_n W124 (by /-r1,11-/ omega) rfl) (PI_f (fun a i z => W_n W119 (by /-r1,10-/ omega) rfl) q1))
            have c_130 : M125.2.1 1 10 = (1 : Int32) := (W_n W124 (by decide) (W_e W119))
            have k_131 : (1 : Int32).toInt = 1 := rfl
            have t_132 : (M125.2.1 1 10).toInt = (1 : Int32).toInt := congrArg Int32.toInt c_130
            have c_133 : M125.2.1 1 11 = (M.2.1 1 9) := (W_e W124)
            have t_134 : (M125.2.1 1 11).toInt = (M.2.1 1 9).toInt := congrArg Int32.toInt c_133
            exact h (0 : Int32) M125 hG126 F127 (by decide) (by decide) j_129 (by omega)
          · refine to_c (pc := 16) rw_86_16 (x := (1 : Int32)) rfl rfl (to_go (pc := 17) rw_86_17 (s_r1 (pc := 21) rw_86_21 (A := 1) rfl (by decide) (b_ieq_f (pc := 50) rw_31_50 (A := 1) rfl (by decide) (to_an (pc := 53) rw_31_53 rfl (to_an (pc := 54) rw_31_54 rfl (s_v (pc := 55) rw_31_55 (dp0 hd (by decide)) (ls0 := [.ref p, .ref 1, .null]) rfl (Nat.le_of_ble_eq_true rfl) (Nat.le_of_ble_eq_true rfl) rfl (to_rc rfl rfl rfl (g_o hG (by rcases hp with rfl | rfl <;> rfl))) rfl (C_41 hX (dp1 hd (by decide)) hG hp q1 (p := p) (fun r135 M142 hG137 F136 p_138 p_139 p_140 p_141 => ?_))))))))
            have F143 := FR.c F0 F136 tg_217
            refine s_r1 (pc := 58) rw_31_58 (A := r135.toInt) rfl (by omega) ?_
            exact h r135 M142 hG137 F143 (by omega) (by omega) p_140 (by omega)
        · refine to_c (pc := 16) rw_86_16 (x := (1 : Int32)) rfl rfl (to_go (pc := 17) rw_86_17 (s_r1 (pc := 21) rw_86_21 (A := 1) rfl (by decide) (b_ieq_f (pc := 28) rw_31_28 (A := 1) rfl (by decide) (to_an (pc := 31) rw_31_31 rfl (to_an (pc := 32) rw_31_32 rfl (s_v (pc := 33) rw_31_33 (dp0 hd (by decide)) (ls0 := [.ref p, .ref 1, .null, .null]) rfl (Nat.le_of_ble_eq_true rfl) (Nat.le_of_ble_eq_true rfl) rfl (to_rc rfl rfl rfl (g_o hG (by rcases hp with rfl | rfl <;> rfl))) rfl (C_33 hX (dp1 hd (by decide)) hG hp q1 (p := p) (fun r144 M151 hG146 F145 p_147 p_148 p_149 p_150 => ?_))))))))
          have F152 := FR.c F0 F145 tg_217
          refine s_r1 (pc := 36) rw_31_36 (A := r144.toInt) rfl (by omega) ?_
          exact h r144 M151 hG146 F152 (by omega) (by omega) p_149 (by omega)
    · refine to_c (pc := 16) rw_86_16 (x := (1 : Int32)) rfl rfl (to_go (pc := 17) rw_86_17 (s_r1 (pc := 21) rw_86_21 (A := 1) rfl (by decide) (b_ieq_f (pc := 6) rw_31_6 (A := 1) rfl (by decide) (to_an (pc := 9) rw_31_9 rfl (to_an (pc := 10) rw_31_10 rfl (s_v (pc := 11) rw_31_11 (dp0 hd (by decide)) (ls0 := [.ref p, .ref 1]) rfl (Nat.le_of_ble_eq_true rfl) (Nat.le_of_ble_eq_true rfl) rfl (to_rc rfl rfl rfl (g_o hG (by rcases hp with rfl | rfl <;> rfl))) rfl (C_32 hX (dp1 hd (by decide)) hG hp q1 (p := p) (fun r153 M160 hG155 F154 p_156 p_157 p_158 p_159 => ?_))))))))
      have F161 := FR.c F0 F154 tg_217
      refine s_r1 (pc := 14) rw_31_14 (A := r153.toInt) rfl (by omega) ?_
      exact h r153 M160 hG155 F161 (by omega) (by omega) p_158 (by omega)
set_option maxRecDepth 4000 in
set_option maxHeartbeats 0 in
theorem T_30_0 {X : mm_X} {d : Nat} {M : mm_M} {Q : Option Value → mm_M → Prop} {p : Nat} (hX : g_X X) (hd : 5 ≤ d) (hp : p = 49 ∨ p = 58) (q1 : PI M) (h : ∀ (r : Int32) (M1 : mm_M), g_G M1 → FR md_pt M M1 → (0 ≤ r.toInt) → (r.toInt ≤ 1) → PI M1 → (r.toInt = 1 → (M1.2.1 1 10).toInt = (M.2.1 1 10).toInt ∧ (M1.2.1 1 11).toInt = (M.2.1 1 11).toInt) → Q (some (.int r)) M1) : ∀ nn9 : Nat, (∀ (N : mm_M) (x2 : Int32), g_G N → FR md_pt M N → (0 ≤ x2.toInt) → (x2.toInt ≤ 22) → (PI N) → ((N.2.1 1 10).toInt = (M.2.1 1 10).toInt ∧ (N.2.1 1 11).toInt = (M.2.1 1 11).toInt) → 22 - x2.toInt < (nn9 : Int) → mm_T X d 30 28 [.ref p, .ref 1, .int x2] [] N Q) := by
  intro nn9
  induction nn9 with
  | zero =>
    intro N x2 hG F0 g1 g2 g3 g4 hm
    exfalso; omega
  | succ nn9 ih =>
    intro N x2 hG F0 g1 g2 g3 g4 hm
    refine to_in (pc := 28) rw_30_28 rfl (to_c (pc := 29) rw_30_29 (x := (21 : Int32)) rfl rfl (b_cgt (pc := 31) rw_30_31 (A := x2.toInt) (B := 21) rfl rfl (fun h1 => ?_) (fun h1 => ?_)))
    · refine to_c (pc := 76) rw_30_76 (x := (1 : Int32)) rfl rfl (s_r1 (pc := 77) rw_30_77 (A := 1) rfl (by decide) ?_)
      have k_2 : (1 : Int32).toInt = 1 := rfl
      exact h (1 : Int32) N hG F0 (by decide) (by decide) g3 (by omega)
    · refine to_an (pc := 34) rw_30_34 rfl (tt_gI (pc := 35) rw_30_35 (g_o hG rfl) (v := (N.2.1 1 7)) rfl (b_ieq (pc := 38) rw_30_38 (A := (N.2.1 1 7).toInt) rfl (fun h3 => ?_) (fun h3 => ?_)))
      · refine to_c (pc := 76) rw_30_76 (x := (1 : Int32)) rfl rfl (s_r1 (pc := 77) rw_30_77 (A := 1) rfl (by decide) ?_)
        have k_4 : (1 : Int32).toInt = 1 := rfl
        exact h (1 : Int32) N hG F0 (by decide) (by decide) g3 (by omega)
      · refine to_an (pc := 41) rw_30_41 rfl (to_an (pc := 42) rw_30_42 rfl (s_v (pc := 43) rw_30_43 (dp0 hd (by decide)) (ls0 := [.ref p, .ref 1]) rfl (Nat.le_of_ble_eq_true rfl) (Nat.le_of_ble_eq_true rfl) rfl (to_rc rfl rfl rfl (g_o hG (by rcases hp with rfl | rfl <;> rfl))) rfl (C_31 hX (dp1 hd (by decide)) hG hp g3 (p := p) (fun r5 M12 hG7 F6 p_8 p_9 p_10 p_11 => ?_))))
        have F13 := FR.c F0 F6 tg_217
        refine b_ieq (pc := 46) rw_30_46 (A := r5.toInt) rfl (fun h14 => ?_) (fun h14 => ?_)
        · refine to_c (pc := 58) rw_30_58 (x := (0 : Int32)) rfl rfl (s_r1 (pc := 59) rw_30_59 (A := 0) rfl (by decide) ?_)
          have k_15 : (0 : Int32).toInt = 0 := rfl
          exact h (0 : Int32) M12 hG7 F13 (by decide) (by decide) p_10 (by omega)
        · refine to_an (pc := 49) rw_30_49 rfl (to_c (pc := 50) rw_30_50 (x := (59 : Int32)) rfl rfl (s_v (pc := 52) rw_30_52 (dp0 hd (by decide)) (ls0 := [.ref 1, .int (59 : Int32)]) rfl (Nat.le_of_ble_eq_true rfl) (Nat.le_of_ble_eq_true rfl) rfl (to_rc rfl rfl rfl (g_o hG7 rfl)) rfl ?_))
          have k_16 : (59 : Int32).toInt = 59 := rfl
          refine C_90 hX (dp1 hd (by decide)) hG7 (x := (59 : Int32)) (fun r17 M24 hG19 F18 p_20 p_21 p_22 p_23 => ?_)
          have F25 := FR.c F13 F18 tg_212
          refine b_ine (pc := 55) rw_30_55 (A := r17.toInt) rfl (fun h26 => ?_) (fun h26 => ?_)
          · refine to_an (pc := 60) rw_30_60 rfl (to_dupr (pc := 61) rw_30_61 ?_)
            have c_27 : M24.2.1 p 1 = (M12.2.1 p 1) := (F_n F18 (show ¬ (p = 1 ∧ 5 ≤ 1 ∨ 3 ≤ p ∧ p ≤ 5) by omega) rfl)
            refine tt_gI (pc := 62) rw_30_62 (g_o hG19 (by rcases hp with rfl | rfl <;> rfl)) (v := (M12.2.1 p 1)) c_27 (to_c (pc := 65) rw_30_65 (x := (1 : Int32)) rfl rfl (s_any (pc := 66) rw_30_66 (fun _ _ => rfl) (fun v28 => s_pI (pc := 67) rw_30_67 hG19 (by rcases hp with rfl | rfl <;> rfl) (fun M30 W29 => ?_))))
            have hG31 := g_wf hG19 W29 (by rcases hp with rfl | rfl <;> rfl) (by rcases hp with rfl | rfl <;> rfl) (by omega)
            have F32 := FR.w F25 W29 (show p = 1 ∧ 5 ≤ 1 ∨ 3 ≤ p ∧ p ≤ 5 ∨ 49 ≤ p ∧ p ≤ 66 by omega)
            refine s_inc (pc := 70) rw_30_70 (ls2 := fun v => [.ref p, .ref 1, .int v]) rfl rfl (fun _ => rfl) (A := x2.toInt) (B := 1) rfl rfl (by omega) (fun v33 e34 => to_go (pc := 73) rw_30_73 ?_)
            have j_35 := (PI_f (fun a i z => W_n W29 (by omega) rfl) (PI_f (tg_208 F18) p_10))
            have c_36 : M30.2.1 1 10 = (M24.2.1 1 10) := (W_n W29 (by omega) rfl)
            have t_37 : (M30.2.1 1 10).toInt = (M24.2.1 1 10).toInt := congrArg Int32.toInt c_36
            have c_38 : M30.2.1 1 11 = (M24.2.1 1 11) := (W_n W29 (by omega) rfl)
            have t_39 : (M30.2.1 1 11).toInt = (M24.2.1 1 11).toInt := congrArg Int32.toInt c_38
            exact ih M30 v33 hG31 F32 (by omega) (by omega) j_35 (by omega) (by omega)
          · refine to_c (pc := 58) rw_30_58 (x := (0 : Int32)) rfl rfl (s_r1 (pc := 59) rw_30_59 (A := 0) rfl (by decide) ?_)
            have k_40 : (0 : Int32).toInt = 0 := rfl
            have j_41 := (PI_f (tg_208 F18) p_10)
            exact h (0 : Int32) M24 hG19 F25 (by decide) (by decide) j_41 (by omega)
set_option maxRecDepth 4000 in
set_option maxHeartbeats 0 in
theorem C_30 {X : mm_X} {d : Nat} {M : mm_M} {Q : Option Value → mm_M → Prop} {p : Nat} (hX : g_X X) (hd : 5 ≤ d) (hG : g_G M) (hp : p = 49 ∨ p = 58) (q1 : PI M) (h : ∀ (r : Int32) (M1 : mm_M), g_G M1 → FR md_pt M M1 → (0 ≤ r.toInt) → (r.toInt ≤ 1) → PI M1 → (r.toInt = 1 → (M1.2.1 1 10).toInt = (M.2.1 1 10).toInt ∧ (M1.2.1 1 11).toInt = (M.2.1 1 11).toInt) → Q (some (.int r)) M1) : mm_T X d 30 0 [.ref p, .ref 1, .null] [] M Q := by
  have F0 : FR md_pt M M := FR.rf
  refine to_an (pc := 0) rw_30_0 rfl (to_c (pc := 1) rw_30_1 (x := (10 : Int32)) rfl rfl (s_pI (pc := 3) rw_30_3 hG (by rcases hp with rfl | rfl <;> rfl) (fun M43 W42 => ?_)))
  have hG44 := g_w hG W42 (A := 10) rfl (lo := 10) (hi := 60) (by rcases hp with rfl | rfl <;> rfl) (by rcases hp with rfl | rfl <;> rfl) (by omega) (by omega)
  have F45 := FR.w F0 W42 (show p = 1 ∧ 5 ≤ 0 ∨ 3 ≤ p ∧ p ≤ 5 ∨ 49 ≤ p ∧ p ≤ 66 by omega)
  refine to_an (pc := 6) rw_30_6 rfl (to_c (pc := 7) rw_30_7 (x := (0 : Int32)) rfl rfl (s_pI (pc := 8) rw_30_8 hG44 (by rcases hp with rfl | rfl <;> rfl) (fun M47 W46 => ?_)))
  have hG48 := g_wf hG44 W46 (by rcases hp with rfl | rfl <;> rfl) (by rcases hp with rfl | rfl <;> rfl) (by omega)
  have F49 := FR.w F45 W46 (show p = 1 ∧ 5 ≤ 1 ∨ 3 ≤ p ∧ p ≤ 5 ∨ 49 ≤ p ∧ p ≤ 66 by omega)
  refine to_an (pc := 11) rw_30_11 rfl (to_c (pc := 12) rw_30_12 (x := (0 : Int32)) rfl rfl (s_pI (pc := 13) rw_30_13 hG48 (by rcases hp with rfl | rfl <;> rfl) (fun M51 W50 => ?_)))
  have hG52 := g_w hG48 W50 (A := 0) rfl (lo := 0) (hi := 8) (by rcases hp with rfl | rfl <;> rfl) (by rcases hp with rfl | rfl <;> rfl) (by omega) (by omega)
  have F53 := FR.w F49 W50 (show p = 1 ∧ 5 ≤ 2 ∨ 3 ≤ p ∧ p ≤ 5 ∨ 49 ≤ p ∧ p ≤ 66 by omega)
  refine to_an (pc := 16) rw_30_16 rfl (to_c (pc := 17) rw_30_17 (x := (0 : Int32)) rfl rfl (s_pI (pc := 18) rw_30_18 hG52 (by rcases hp with rfl | rfl <;> rfl) (fun M55 W54 => ?_)))
  have hG56 := g_w hG52 W54 (A := 0) rfl (lo := 0) (hi := 12) (by rcases hp with rfl | rfl <;> rfl) (by rcases hp with rfl | rfl <;> rfl) (by omega) (by omega)
  have F57 := FR.w F53 W54 (show p = 1 ∧ 5 ≤ 3 ∨ 3 ≤ p ∧ p ≤ 5 ∨ 49 ≤ p ∧ p ≤ 66 by omega)
  refine to_an (pc := 21) rw_30_21 rfl (s_cl (pc := 22) rw_30_22 rfl (fun l58 => s_pJ (pc := 23) rw_30_23 hG56 (by rcases hp with rfl | rfl <;> rfl) (fun M60 W59 => ?_)))
  have hG61 := g_wl hG56 W59
  have F62 := FR.wl F57 W59 (show p = 1 ∧ 5 ≤ 4 ∨ 3 ≤ p ∧ p ≤ 5 ∨ 49 ≤ p ∧ p ≤ 66 by omega)
  refine to_c (pc := 26) rw_30_26 (x := (0 : Int32)) rfl rfl (to_isn (pc := 27) rw_30_27 (ls2 := [.ref p, .ref 1, .int (0 : Int32)]) rfl rfl ?_)
  have k_63 : (0 : Int32).toInt = 0 := rfl
  have j_64 := (PI_f (fun a i z => W_l W59 rfl) (PI_f (fun a i z => W_n W54 (by omega) rfl) (PI_f (fun a i z => W_n W50 (by omega) rfl) (PI_f (fun a i z => W_n W46 (by omega) rfl) (PI_f (fun a i z => W_n W42 (by omega) rfl) q1)))))
  have c_65 : M60.2.1 1 10 = (M.2.1 1 10) := (W_l W59 (W_n W54 (by omega) (W_n W50 (by omega) (W_n W46 (by omega) (W_n W42 (by omega) rfl)))))
  have t_66 : (M60.2.1 1 10).toInt = (M.2.1 1 10).toInt := congrArg Int32.toInt c_65
  have c_67 : M60.2.1 1 11 = (M.2.1 1 11) := (W_l W59 (W_n W54 (by omega) (W_n W50 (by omega) (W_n W46 (by omega) (W_n W42 (by omega) rfl)))))
  have t_68 : (M60.2.1 1 11).toInt = (M.2.1 1 11).toInt := congrArg Int32.toInt c_67
  exact (T_30_0 (p := p) hX hd hp q1 h ((22 - (0 : Int32).toInt).toNat + 1)) M60 (0 : Int32) hG61 F62 (by omega) (by omega) j_64 (by omega) (by omega)
set_option maxRecDepth 4000 in
set_option maxHeartbeats 0 in
theorem C_49 {X : mm_X} {d : Nat} {M : mm_M} {Q : Option Value → mm_M → Prop} {p : Nat} {f : Int32} {v : Int32} (hX : g_X X) (hd : 2 ≤ d) (hG : g_G M) (hp : p = 49 ∨ p = 58) (h : ∀ (r : Int64) (M1 : mm_M), g_G M1 → FR md_0 M M1 → Q (some (.long r)) M1) : mm_T X d 49 0 [.ref p, .int f, .int v, .null, .null] [] M Q := by
  have F0 : FR md_0 M M := FR.rf
  refine to_an (pc := 0) rw_49_0 rfl (to_in (pc := 1) rw_49_1 rfl (to_in (pc := 2) rw_49_2 rfl (s_v (pc := 3) rw_49_3 (dp0 hd (by decide)) (ls0 := [.ref p, .int f, .int v]) rfl (Nat.le_of_ble_eq_true rfl) (Nat.le_of_ble_eq_true rfl) rfl (to_rc rfl rfl rfl (g_o hG (by rcases hp with rfl | rfl <;> rfl))) rfl (to_an (pc := 0) rw_46_0 rfl (to_in (pc := 1) rw_46_1 rfl (s_v (pc := 2) rw_46_2 (dp1 hd (by decide)) (ls0 := [.ref p, .int f]) rfl (Nat.le_of_ble_eq_true rfl) (Nat.le_of_ble_eq_true rfl) rfl (to_rc rfl rfl rfl (g_o hG (by rcases hp with rfl | rfl <;> rfl))) rfl (to_in (pc := 0) rw_43_0 rfl (b_ilt (pc := 1) rw_43_1 (A := f.toInt) rfl (fun h1 => ?_) (fun h1 => ?_)))))))))
  · refine to_c (pc := 16) rw_43_16 (x := (0 : Int32)) rfl rfl (s_r1 (pc := 17) rw_43_17 (A := 0) rfl (by decide) (b_ieq_t (pc := 5) rw_46_5 (A := 0) rfl (by decide) (to_c (pc := 34) rw_46_34 (x := (0 : Int32)) rfl rfl (s_r1 (pc := 35) rw_46_35 (A := 0) rfl (by decide) (b_ine_f (pc := 6) rw_49_6 (A := 0) rfl (by decide) (s_cl (pc := 9) rw_49_9 rfl (fun l2 => to_rl (pc := 10) rw_49_10 ?_)))))))
    exact h l2 M hG F0 
  · refine to_in (pc := 4) rw_43_4 rfl (to_an (pc := 5) rw_43_5 rfl ?_)
    have b_3 := g_b hG (a := p) (i := 2) (lo := 0) (hi := 8) (by rcases hp with rfl | rfl <;> rfl) (by rcases hp with rfl | rfl <;> rfl)
    refine tt_gI (pc := 6) rw_43_6 (g_o hG (by rcases hp with rfl | rfl <;> rfl)) (v := (M.2.1 p 2)) rfl (b_cge (pc := 9) rw_43_9 (A := f.toInt) (B := (M.2.1 p 2).toInt) rfl rfl (fun h4 => ?_) (fun h4 => ?_))
    · refine to_c (pc := 16) rw_43_16 (x := (0 : Int32)) rfl rfl (s_r1 (pc := 17) rw_43_17 (A := 0) rfl (by decide) (b_ieq_t (pc := 5) rw_46_5 (A := 0) rfl (by decide) (to_c (pc := 34) rw_46_34 (x := (0 : Int32)) rfl rfl (s_r1 (pc := 35) rw_46_35 (A := 0) rfl (by decide) (b_ine_f (pc := 6) rw_49_6 (A := 0) rfl (by decide) (s_cl (pc := 9) rw_49_9 rfl (fun l5 => to_rl (pc := 10) rw_49_10 ?_)))))))
      exact h l5 M hG F0 
    · refine to_c (pc := 12) rw_43_12 (x := (1 : Int32)) rfl rfl (to_go (pc := 13) rw_43_13 (s_r1 (pc := 17) rw_43_17 (A := 1) rfl (by decide) (b_ieq_f (pc := 5) rw_46_5 (A := 1) rfl (by decide) (to_an (pc := 8) rw_46_8 rfl (to_in (pc := 9) rw_46_9 rfl (s_v (pc := 10) rw_46_10 (dp1 hd (by decide)) (ls0 := [.ref p, .int f]) rfl (Nat.le_of_ble_eq_true rfl) (Nat.le_of_ble_eq_true rfl) rfl (to_rc rfl rfl rfl (g_o hG (by rcases hp with rfl | rfl <;> rfl))) rfl (to_an (pc := 0) rw_45_0 rfl (s_gR (pc := 1) rw_45_1 hG (by rcases hp with rfl | rfl <;> rfl) (v := (p + 2)) (by rcases hp with rfl | rfl <;> rfl) (to_in (pc := 4) rw_45_4 rfl (s_ial (pc := 5) rw_45_5 hG (by rcases hp with rfl | rfl <;> rfl) (n := 8) (by rcases hp with rfl | rfl <;> rfl) (by rcases hp with rfl | rfl <;> rfl) (A := f.toInt) rfl (by omega) (by omega) (lo := 0) (hi := 3) (by rcases hp with rfl | rfl <;> rfl) (by rcases hp with rfl | rfl <;> rfl) (fun v6 w_7 _ _ => to_c (pc := 6) rw_45_6 (x := (3 : Int32)) rfl rfl ?_)))))))))))
      refine b_cne (pc := 7) rw_45_7 (A := v6.toInt) (B := 3) rfl rfl (fun h8 => ?_) (fun h8 => ?_)
      · refine to_c (pc := 14) rw_45_14 (x := (0 : Int32)) rfl rfl (s_r1 (pc := 15) rw_45_15 (A := 0) rfl (by decide) (b_ine_f (pc := 13) rw_46_13 (A := 0) rfl (by decide) (to_in (pc := 16) rw_46_16 rfl (b_ilt (pc := 17) rw_46_17 (A := v.toInt) rfl (fun h9 => ?_) (fun h9 => ?_)))))
        · refine to_c (pc := 34) rw_46_34 (x := (0 : Int32)) rfl rfl (s_r1 (pc := 35) rw_46_35 (A := 0) rfl (by decide) (b_ine_f (pc := 6) rw_49_6 (A := 0) rfl (by decide) (s_cl (pc := 9) rw_49_9 rfl (fun l10 => to_rl (pc := 10) rw_49_10 ?_))))
          exact h l10 M hG F0 
        · refine to_in (pc := 20) rw_46_20 rfl (to_an (pc := 21) rw_46_21 rfl (s_gR (pc := 22) rw_46_22 hG (by rcases hp with rfl | rfl <;> rfl) (v := (p + 5)) (by rcases hp with rfl | rfl <;> rfl) (to_in (pc := 25) rw_46_25 rfl (s_ial (pc := 26) rw_46_26 hG (by rcases hp with rfl | rfl <;> rfl) (n := 8) (by rcases hp with rfl | rfl <;> rfl) (by rcases hp with rfl | rfl <;> rfl) (A := f.toInt) rfl (by omega) (by omega) (lo := 0) (hi := 24) (by rcases hp with rfl | rfl <;> rfl) (by rcases hp with rfl | rfl <;> rfl) (fun v11 w_12 _ _ => b_cge (pc := 27) rw_46_27 (A := v.toInt) (B := v11.toInt) rfl rfl (fun h13 => ?_) (fun h13 => ?_))))))
          · refine to_c (pc := 34) rw_46_34 (x := (0 : Int32)) rfl rfl (s_r1 (pc := 35) rw_46_35 (A := 0) rfl (by decide) (b_ine_f (pc := 6) rw_49_6 (A := 0) rfl (by decide) (s_cl (pc := 9) rw_49_9 rfl (fun l14 => to_rl (pc := 10) rw_49_10 ?_))))
            exact h l14 M hG F0 
          · refine to_c (pc := 30) rw_46_30 (x := (1 : Int32)) rfl rfl (to_go (pc := 31) rw_46_31 (s_r1 (pc := 35) rw_46_35 (A := 1) rfl (by decide) (b_ine_t (pc := 6) rw_49_6 (A := 1) rfl (by decide) (s_cl (pc := 11) rw_49_11 rfl (fun l15 => to_in (pc := 12) rw_49_12 rfl (s_anyS (pc := 13) rw_49_13 (fun _ _ => rfl) (fun l16 => to_lsn (pc := 14) rw_49_14 (ls2 := [.ref p, .int f, .int v, .long l16, .null]) rfl rfl (to_an (pc := 15) rw_49_15 rfl (s_gR (pc := 16) rw_49_16 hG (by rcases hp with rfl | rfl <;> rfl) (v := (p + 2)) (by rcases hp with rfl | rfl <;> rfl) (to_in (pc := 19) rw_49_19 rfl (s_ialk (pc := 20) rw_49_20 hG (by rcases hp with rfl | rfl <;> rfl) (n := 8) (by rcases hp with rfl | rfl <;> rfl) (by rcases hp with rfl | rfl <;> rfl) (A := f.toInt) rfl (by omega) (by omega) (v := v6) w_7 ?_)))))))))))
            refine to_c (pc := 21) rw_49_21 (x := (1 : Int32)) rfl rfl (b_cne (pc := 22) rw_49_22 (A := v6.toInt) (B := 1) rfl rfl (fun h19 => ?_) (fun h19 => ?_))
            · refine to_an (pc := 43) rw_49_43 rfl (s_gR (pc := 44) rw_49_44 hG (by rcases hp with rfl | rfl <;> rfl) (v := (p + 2)) (by rcases hp with rfl | rfl <;> rfl) (to_in (pc := 47) rw_49_47 rfl (s_ialk (pc := 48) rw_49_48 hG (by rcases hp with rfl | rfl <;> rfl) (n := 8) (by rcases hp with rfl | rfl <;> rfl) (by rcases hp with rfl | rfl <;> rfl) (A := f.toInt) rfl (by omega) (by omega) (v := v6) w_7 (to_c (pc := 49) rw_49_49 (x := (2 : Int32)) rfl rfl (b_cne (pc := 50) rw_49_50 (A := v6.toInt) (B := 2) rfl rfl (fun h22 => ?_) (fun h22 => ?_))))))
              · refine to_ln (pc := 68) rw_49_68 rfl rfl rfl (to_an (pc := 69) rw_49_69 rfl (s_gR (pc := 70) rw_49_70 hG (by rcases hp with rfl | rfl <;> rfl) (v := (p + 3)) (by rcases hp with rfl | rfl <;> rfl) (to_in (pc := 73) rw_49_73 rfl (s_ial (pc := 74) rw_49_74 hG (by rcases hp with rfl | rfl <;> rfl) (n := 8) (by rcases hp with rfl | rfl <;> rfl) (by rcases hp with rfl | rfl <;> rfl) (A := f.toInt) rfl (by omega) (by omega) (lo := 0) (hi := 59) (by rcases hp with rfl | rfl <;> rfl) (by rcases hp with rfl | rfl <;> rfl) (fun v23 w_24 _ _ => s_anyS (pc := 75) rw_49_75 (fun _ _ => rfl) (fun l25 => to_rl (pc := 76) rw_49_76 ?_))))))
                exact h l25 M hG F0 
              · refine to_in (pc := 53) rw_49_53 rfl (s_gs (pc := 54) rw_49_54 (s_xlen (pc := 57) rw_49_57 hX (e := 3) (n := 10) rfl (v := (10 : Int32)) rfl (b_cge (pc := 58) rw_49_58 (A := v.toInt) (B := 10) rfl rfl (fun h26 => ?_) (fun h26 => ?_))))
                · refine to_ln (pc := 68) rw_49_68 rfl rfl rfl (to_an (pc := 69) rw_49_69 rfl (s_gR (pc := 70) rw_49_70 hG (by rcases hp with rfl | rfl <;> rfl) (v := (p + 3)) (by rcases hp with rfl | rfl <;> rfl) (to_in (pc := 73) rw_49_73 rfl (s_ial (pc := 74) rw_49_74 hG (by rcases hp with rfl | rfl <;> rfl) (n := 8) (by rcases hp with rfl | rfl <;> rfl) (by rcases hp with rfl | rfl <;> rfl) (A := f.toInt) rfl (by omega) (by omega) (lo := 0) (hi := 59) (by rcases hp with rfl | rfl <;> rfl) (by rcases hp with rfl | rfl <;> rfl) (fun v27 w_28 _ _ => s_anyS (pc := 75) rw_49_75 (fun _ _ => rfl) (fun l29 => to_rl (pc := 76) rw_49_76 ?_))))))
                  exact h l29 M hG F0 
                · refine s_gs (pc := 61) rw_49_61 (to_in (pc := 64) rw_49_64 rfl (s_xal (pc := 65) rw_49_65 hX (e := 3) (n := 10) rfl (A := v.toInt) rfl (by omega) (by omega) (fun v30 => s_i2l (pc := 66) rw_49_66 (fun l31 e32 => to_lsn (pc := 67) rw_49_67 (ls2 := [.ref p, .int f, .int v, .long l31, .null]) rfl rfl (to_ln (pc := 68) rw_49_68 rfl rfl rfl (to_an (pc := 69) rw_49_69 rfl (s_gR (pc := 70) rw_49_70 hG (by rcases hp with rfl | rfl <;> rfl) (v := (p + 3)) (by rcases hp with rfl | rfl <;> rfl) (to_in (pc := 73) rw_49_73 rfl (s_ial (pc := 74) rw_49_74 hG (by rcases hp with rfl | rfl <;> rfl) (n := 8) (by rcases hp with rfl | rfl <;> rfl) (by rcases hp with rfl | rfl <;> rfl) (A := f.toInt) rfl (by omega) (by omega) (lo := 0) (hi := 59) (by rcases hp with rfl | rfl <;> rfl) (by rcases hp with rfl | rfl <;> rfl) (fun v33 w_34 _ _ => s_anyS (pc := 75) rw_49_75 (fun _ _ => rfl) (fun l35 => to_rl (pc := 76) rw_49_76 ?_)))))))))))
                  exact h l35 M hG F0 
            · refine to_in (pc := 25) rw_49_25 rfl (s_gs (pc := 26) rw_49_26 (s_xlen (pc := 29) rw_49_29 hX (e := 2) (n := 10) rfl (v := (10 : Int32)) rfl (b_cge (pc := 30) rw_49_30 (A := v.toInt) (B := 10) rfl rfl (fun h36 => ?_) (fun h36 => ?_))))
              · refine to_an (pc := 43) rw_49_43 rfl (s_gR (pc := 44) rw_49_44 hG (by rcases hp with rfl | rfl <;> rfl) (v := (p + 2)) (by rcases hp with rfl | rfl <;> rfl) (to_in (pc := 47) rw_49_47 rfl (s_ialk (pc := 48) rw_49_48 hG (by rcases hp with rfl | rfl <;> rfl) (n := 8) (by rcases hp with rfl | rfl <;> rfl) (by rcases hp with rfl | rfl <;> rfl) (A := f.toInt) rfl (by omega) (by omega) (v := v6) w_7 (to_c (pc := 49) rw_49_49 (x := (2 : Int32)) rfl rfl (b_cne_t (pc := 50) rw_49_50 (A := v6.toInt) (B := 2) rfl rfl (by omega) (to_ln (pc := 68) rw_49_68 rfl rfl rfl (to_an (pc := 69) rw_49_69 rfl (s_gR (pc := 70) rw_49_70 hG (by rcases hp with rfl | rfl <;> rfl) (v := (p + 3)) (by rcases hp with rfl | rfl <;> rfl) (to_in (pc := 73) rw_49_73 rfl (s_ial (pc := 74) rw_49_74 hG (by rcases hp with rfl | rfl <;> rfl) (n := 8) (by rcases hp with rfl | rfl <;> rfl) (by rcases hp with rfl | rfl <;> rfl) (A := f.toInt) rfl (by omega) (by omega) (lo := 0) (hi := 59) (by rcases hp with rfl | rfl <;> rfl) (by rcases hp with rfl | rfl <;> rfl) (fun v39 w_40 _ _ => s_anyS (pc := 75) rw_49_75 (fun _ _ => rfl) (fun l41 => ?_))))))))))))
                refine to_rl (pc := 76) rw_49_76 ?_
                exact h l41 M hG F0 
              · refine s_gs (pc := 33) rw_49_33 (to_in (pc := 36) rw_49_36 rfl (s_xal (pc := 37) rw_49_37 hX (e := 2) (n := 10) rfl (A := v.toInt) rfl (by omega) (by omega) (fun v42 => s_i2l (pc := 38) rw_49_38 (fun l43 e44 => to_lsn (pc := 39) rw_49_39 (ls2 := [.ref p, .int f, .int v, .long l43, .null]) rfl rfl (to_go (pc := 40) rw_49_40 (to_ln (pc := 68) rw_49_68 rfl rfl rfl (to_an (pc := 69) rw_49_69 rfl (s_gR (pc := 70) rw_49_70 hG (by rcases hp with rfl | rfl <;> rfl) (v := (p + 3)) (by rcases hp with rfl | rfl <;> rfl) (to_in (pc := 73) rw_49_73 rfl (s_ial (pc := 74) rw_49_74 hG (by rcases hp with rfl | rfl <;> rfl) (n := 8) (by rcases hp with rfl | rfl <;> rfl) (by rcases hp with rfl | rfl <;> rfl) (A := f.toInt) rfl (by omega) (by omega) (lo := 0) (hi := 59) (by rcases hp with rfl | rfl <;> rfl) (by rcases hp with rfl | rfl <;> rfl) (fun v45 w_46 _ _ => s_anyS (pc := 75) rw_49_75 (fun _ _ => rfl) (fun l47 => ?_))))))))))))
                refine to_rl (pc := 76) rw_49_76 ?_
                exact h l47 M hG F0 
      · refine to_c (pc := 10) rw_45_10 (x := (1 : Int32)) rfl rfl (to_go (pc := 11) rw_45_11 (s_r1 (pc := 15) rw_45_15 (A := 1) rfl (by decide) (b_ine_t (pc := 13) rw_46_13 (A := 1) rfl (by decide) (to_c (pc := 34) rw_46_34 (x := (0 : Int32)) rfl rfl (s_r1 (pc := 35) rw_46_35 (A := 0) rfl (by decide) (b_ine_f (pc := 6) rw_49_6 (A := 0) rfl (by decide) (s_cl (pc := 9) rw_49_9 rfl (fun l48 => to_rl (pc := 10) rw_49_10 ?_))))))))
        exact h l48 M hG F0 
set_option maxRecDepth 4000 in
set_option maxHeartbeats 0 in
theorem C_50 {X : mm_X} {d : Nat} {M : mm_M} {Q : Option Value → mm_M → Prop} {p : Nat} {w : Int32} {b : Int32} (hX : g_X X) (hd : 1 ≤ d) (hG : g_G M) (hp : p = 49 ∨ p = 58) (q1 : 0 ≤ w.toInt) (q2 : w.toInt ≤ 11) (h : ∀ (r : Int32) (M1 : mm_M), g_G M1 → FR md_0 M M1 → (0 ≤ r.toInt) → (r.toInt ≤ 1) → Q (some (.int r)) M1) : mm_T X d 50 0 [.ref p, .int w, .int b, .null] [] M Q := by
  have F0 : FR md_0 M M := FR.rf
  refine to_an (pc := 0) rw_50_0 rfl (s_gR (pc := 1) rw_50_1 hG (by rcases hp with rfl | rfl <;> rfl) (v := (p + 7)) (by rcases hp with rfl | rfl <;> rfl) (to_in (pc := 4) rw_50_4 rfl (s_ial (pc := 5) rw_50_5 hG (by rcases hp with rfl | rfl <;> rfl) (n := 12) (by rcases hp with rfl | rfl <;> rfl) (by rcases hp with rfl | rfl <;> rfl) (A := w.toInt) rfl (by omega) (by omega) (lo := 0) (hi := 7) (by rcases hp with rfl | rfl <;> rfl) (by rcases hp with rfl | rfl <;> rfl) (fun v1 w_2 _ _ => to_isn (pc := 6) rw_50_6 (ls2 := [.ref p, .int w, .int b, .int v1]) rfl rfl (to_in (pc := 7) rw_50_7 rfl (b_ilt (pc := 8) rw_50_8 (A := b.toInt) rfl (fun h3 => ?_) (fun h3 => ?_)))))))
  · refine to_c (pc := 38) rw_50_38 (x := (0 : Int32)) rfl rfl (s_r1 (pc := 39) rw_50_39 (A := 0) rfl (by decide) ?_)
    have k_4 : (0 : Int32).toInt = 0 := rfl
    exact h (0 : Int32) M hG F0 (by decide) (by decide)
  · refine to_in (pc := 11) rw_50_11 rfl (to_an (pc := 12) rw_50_12 rfl (to_in (pc := 13) rw_50_13 rfl (s_v (pc := 14) rw_50_14 (dp0 hd (by decide)) (ls0 := [.ref p, .int v1]) rfl (Nat.le_of_ble_eq_true rfl) (Nat.le_of_ble_eq_true rfl) rfl (to_rc rfl rfl rfl (g_o hG (by rcases hp with rfl | rfl <;> rfl))) rfl (to_an (pc := 0) rw_47_0 rfl (s_gR (pc := 1) rw_47_1 hG (by rcases hp with rfl | rfl <;> rfl) (v := (p + 4)) (by rcases hp with rfl | rfl <;> rfl) (to_in (pc := 4) rw_47_4 rfl (s_ial (pc := 5) rw_47_5 hG (by rcases hp with rfl | rfl <;> rfl) (n := 8) (by rcases hp with rfl | rfl <;> rfl) (by rcases hp with rfl | rfl <;> rfl) (A := v1.toInt) rfl (by omega) (by omega) (lo := 0) (hi := 63) (by rcases hp with rfl | rfl <;> rfl) (by rcases hp with rfl | rfl <;> rfl) (fun v5 w_6 _ _ => to_an (pc := 6) rw_47_6 rfl (s_gR (pc := 7) rw_47_7 hG (by rcases hp with rfl | rfl <;> rfl) (v := (p + 3)) (by rcases hp with rfl | rfl <;> rfl) (to_in (pc := 10) rw_47_10 rfl (s_ial (pc := 11) rw_47_11 hG (by rcases hp with rfl | rfl <;> rfl) (n := 8) (by rcases hp with rfl | rfl <;> rfl) (by rcases hp with rfl | rfl <;> rfl) (A := v1.toInt) rfl (by omega) (by omega) (lo := 0) (hi := 59) (by rcases hp with rfl | rfl <;> rfl) (by rcases hp with rfl | rfl <;> rfl) (fun v7 w_8 _ _ => ?_))))))))))))
    refine s_sub (pc := 12) rw_47_12 (A := v5.toInt) (B := v7.toInt) rfl rfl (by omega) (fun v9 e10 => to_c (pc := 13) rw_47_13 (x := (1 : Int32)) rfl rfl (s_add (pc := 14) rw_47_14 (A := v9.toInt) (B := 1) rfl rfl (by omega) (fun v11 e12 => to_r0 (pc := 15) rw_47_15 (s_shr (pc := 17) rw_50_17 (A := b.toInt) rfl (by omega) (fun v13 _ _ => b_ine (pc := 18) rw_50_18 (A := v13.toInt) rfl (fun h14 => ?_) (fun h14 => ?_))))))
    · refine to_c (pc := 38) rw_50_38 (x := (0 : Int32)) rfl rfl (s_r1 (pc := 39) rw_50_39 (A := 0) rfl (by decide) ?_)
      have k_15 : (0 : Int32).toInt = 0 := rfl
      exact h (0 : Int32) M hG F0 (by decide) (by decide)
    · refine to_in (pc := 21) rw_50_21 rfl (s_s (pc := 22) rw_50_22 (dp0 hd (by decide)) (ls0 := [.int b]) rfl (Nat.le_of_ble_eq_true rfl) (Nat.le_of_ble_eq_true rfl) rfl (to_rcs rfl rfl) rfl (C_247 hX (dp1 hd (by decide)) hG (x := b) (fun r16 M19 hG18 F17 => ?_)))
      have F20 := FR.c F0 F17 tg_29
      refine to_an (pc := 25) rw_50_25 rfl (s_gR (pc := 26) rw_50_26 hG18 (by rcases hp with rfl | rfl <;> rfl) (v := (p + 5)) (by rcases hp with rfl | rfl <;> rfl) (to_in (pc := 29) rw_50_29 rfl (s_ial (pc := 30) rw_50_30 hG18 (by rcases hp with rfl | rfl <;> rfl) (n := 8) (by rcases hp with rfl | rfl <;> rfl) (by rcases hp with rfl | rfl <;> rfl) (A := v1.toInt) rfl (by omega) (by omega) (lo := 0) (hi := 24) (by rcases hp with rfl | rfl <;> rfl) (by rcases hp with rfl | rfl <;> rfl) (fun v21 w_22 _ _ => b_cne (pc := 31) rw_50_31 (A := r16.toInt) (B := v21.toInt) rfl rfl (fun h23 => ?_) (fun h23 => ?_)))))
      · refine to_c (pc := 38) rw_50_38 (x := (0 : Int32)) rfl rfl (s_r1 (pc := 39) rw_50_39 (A := 0) rfl (by decide) ?_)
        have k_24 : (0 : Int32).toInt = 0 := rfl
        exact h (0 : Int32) M19 hG18 F20 (by decide) (by decide)
      · refine to_c (pc := 34) rw_50_34 (x := (1 : Int32)) rfl rfl (to_go (pc := 35) rw_50_35 (s_r1 (pc := 39) rw_50_39 (A := 1) rfl (by decide) ?_))
        have k_25 : (1 : Int32).toInt = 1 := rfl
        exact h (1 : Int32) M19 hG18 F20 (by decide) (by decide)
set_option maxRecDepth 4000 in
set_option maxHeartbeats 0 in
theorem T_51_0 {X : mm_X} {d : Nat} {M : mm_M} {Q : Option Value → mm_M → Prop} {p : Nat} {f : Int32} (hX : g_X X) (hd : 0 ≤ d) (hp : p = 49 ∨ p = 58) (h : ∀ (r : Int32) (M1 : mm_M), g_G M1 → FR md_0 M M1 → Q (some (.int r)) M1) : ∀ nn9 : Nat, (∀ (N : mm_M) (x2 : Int32) (x3 : Int32), g_G N → FR md_0 M N → (0 ≤ x3.toInt) → (x3.toInt ≤ 12) → 12 - x3.toInt < (nn9 : Int) → mm_T X d 51 4 [.ref p, .int f, .int x2, .int x3] [] N Q) := by
  intro nn9
  induction nn9 with
  | zero =>
    intro N x2 x3 hG F0 g1 g2 hm
    exfalso; omega
  | succ nn9 ih =>
    intro N x2 x3 hG F0 g1 g2 hm
    refine to_in (pc := 4) rw_51_4 rfl (to_an (pc := 5) rw_51_5 rfl ?_)
    have b_1 := g_b hG (a := p) (i := 3) (lo := 0) (hi := 12) (by rcases hp with rfl | rfl <;> rfl) (by rcases hp with rfl | rfl <;> rfl)
    refine tt_gI (pc := 6) rw_51_6 (g_o hG (by rcases hp with rfl | rfl <;> rfl)) (v := (N.2.1 p 3)) rfl (b_cge (pc := 9) rw_51_9 (A := x3.toInt) (B := (N.2.1 p 3).toInt) rfl rfl (fun h2 => ?_) (fun h2 => ?_))
    · refine to_in (pc := 34) rw_51_34 rfl (to_r0 (pc := 35) rw_51_35 ?_)
      exact h x2 N hG F0 
    · refine to_an (pc := 12) rw_51_12 rfl (s_gR (pc := 13) rw_51_13 hG (by rcases hp with rfl | rfl <;> rfl) (v := (p + 7)) (by rcases hp with rfl | rfl <;> rfl) (to_in (pc := 16) rw_51_16 rfl (s_ial (pc := 17) rw_51_17 hG (by rcases hp with rfl | rfl <;> rfl) (n := 12) (by rcases hp with rfl | rfl <;> rfl) (by rcases hp with rfl | rfl <;> rfl) (A := x3.toInt) rfl (by omega) (by omega) (lo := 0) (hi := 7) (by rcases hp with rfl | rfl <;> rfl) (by rcases hp with rfl | rfl <;> rfl) (fun v3 w_4 _ _ => to_in (pc := 18) rw_51_18 rfl (b_cne (pc := 19) rw_51_19 (A := v3.toInt) (B := f.toInt) rfl rfl (fun h5 => ?_) (fun h5 => ?_))))))
      · refine s_inc (pc := 28) rw_51_28 (ls2 := fun v => [.ref p, .int f, .int x2, .int v]) rfl rfl (fun _ => rfl) (A := x3.toInt) (B := 1) rfl rfl (by omega) (fun v6 e7 => to_go (pc := 31) rw_51_31 ?_)
        exact ih N x2 v6 hG F0 (by omega) (by omega) (by omega)
      · refine to_in (pc := 22) rw_51_22 rfl (to_c (pc := 23) rw_51_23 (x := (1 : Int32)) rfl rfl (to_in (pc := 24) rw_51_24 rfl (s_any (pc := 25) rw_51_25 (fun _ _ => rfl) (fun v8 => s_any (pc := 26) rw_51_26 (fun _ _ => rfl) (fun v9 => to_isn (pc := 27) rw_51_27 (ls2 := [.ref p, .int f, .int v9, .int x3]) rfl rfl (s_inc (pc := 28) rw_51_28 (ls2 := fun v => [.ref p, .int f, .int v9, .int v]) rfl rfl (fun _ => rfl) (A := x3.toInt) (B := 1) rfl rfl (by omega) (fun v10 e11 => to_go (pc := 31) rw_51_31 ?_)))))))
        exact ih N v9 v10 hG F0 (by omega) (by omega) (by omega)
set_option maxRecDepth 4000 in
set_option maxHeartbeats 0 in
theorem C_51 {X : mm_X} {d : Nat} {M : mm_M} {Q : Option Value → mm_M → Prop} {p : Nat} {f : Int32} (hX : g_X X) (hd : 0 ≤ d) (hG : g_G M) (hp : p = 49 ∨ p = 58) (h : ∀ (r : Int32) (M1 : mm_M), g_G M1 → FR md_0 M M1 → Q (some (.int r)) M1) : mm_T X d 51 0 [.ref p, .int f, .null, .null] [] M Q := by
  have F0 : FR md_0 M M := FR.rf
  refine to_c (pc := 0) rw_51_0 (x := (0 : Int32)) rfl rfl (to_isn (pc := 1) rw_51_1 (ls2 := [.ref p, .int f, .int (0 : Int32), .null]) rfl rfl (to_c (pc := 2) rw_51_2 (x := (0 : Int32)) rfl rfl (to_isn (pc := 3) rw_51_3 (ls2 := [.ref p, .int f, .int (0 : Int32), .int (0 : Int32)]) rfl rfl ?_)))
  have k_12 : (0 : Int32).toInt = 0 := rfl
  exact (T_51_0 (p := p) (f := f) hX hd hp h ((12 - (0 : Int32).toInt).toNat + 1)) M (0 : Int32) (0 : Int32) hG F0 (by omega) (by omega) (by omega)
