theorem tg_208 {M M1 : mm_M} (F : FR (fun a i : Nat => a = 1 ∧ 5 ≤ i ∨ 3 ≤ a ∧ a ≤ 5) M M1) : ∀ a i : Nat, PI_r a → M1.2.1 a i = M.2.1 a i := fun a i z => F_n F (show ¬ (a = 1 ∧ 5 ≤ i ∨ 3 ≤ a ∧ a ≤ 5) by omega) rfl
theorem tg_209 {M M1 : mm_M} (F : FR (fun a i : Nat => a = 1 ∧ 5 ≤ i ∨ 3 ≤ a ∧ a ≤ 5 ∨ a = 57 ∨ a = 66) M M1) : ∀ a i : Nat, PI_r a → M1.2.1 a i = M.2.1 a i := fun a i z => F_n F (show ¬ (a = 1 ∧ 5 ≤ i ∨ 3 ≤ a ∧ a ≤ 5 ∨ a = 57 ∨ a = 66) by omega) rfl
theorem tg_210 : ∀ a i : Nat, (a = 1 ∧ 5 ≤ i ∨ 3 ≤ a ∧ a ≤ 5) → (a = 1 ∧ 5 ≤ i ∨ 3 ≤ a ∧ a ≤ 5 ∨ 50 ≤ a ∧ a ≤ 57 ∨ 59 ≤ a ∧ a ≤ 66) := fun a i z => by omega
theorem tg_211 : ∀ a i : Nat, (a = 1 ∧ 5 ≤ i ∨ 3 ≤ a ∧ a ≤ 5 ∨ 50 ≤ a ∧ a ≤ 57 ∨ 59 ≤ a ∧ a ≤ 66) → (a = 1 ∧ 5 ≤ i ∨ 3 ≤ a ∧ a ≤ 5 ∨ 50 ≤ a ∧ a ≤ 57 ∨ 59 ≤ a ∧ a ≤ 66) := fun a i z => by omega
theorem tg_212 : ∀ a i : Nat, (a = 1 ∧ 5 ≤ i ∨ 3 ≤ a ∧ a ≤ 5) → (a = 1 ∧ 5 ≤ i ∨ 3 ≤ a ∧ a ≤ 5 ∨ 49 ≤ a ∧ a ≤ 66) := fun a i z => by omega
theorem tg_213 : ∀ a i : Nat, (a < 0) → (a = 1 ∧ 5 ≤ i ∨ 3 ≤ a ∧ a ≤ 5 ∨ 49 ≤ a ∧ a ≤ 66) := fun a i z => by omega
theorem tg_214 : ∀ a i : Nat, (a = 1 ∧ 5 ≤ i ∨ 3 ≤ a ∧ a ≤ 5 ∨ 50 ≤ a ∧ a ≤ 57 ∨ 59 ≤ a ∧ a ≤ 66) → (a = 1 ∧ 5 ≤ i ∨ 3 ≤ a ∧ a ≤ 5 ∨ 49 ≤ a ∧ a ≤ 66) := fun a i z => by omega
theorem tg_215 : ∀ a i : Nat, (a = 1 ∧ 5 ≤ i ∨ 3 ≤ a ∧ a ≤ 5) → (a = 1 ∧ 5 ≤ i ∨ 3 ≤ a ∧ a ≤ 5 ∨ a = 57 ∨ a = 66) := fun a i z => by omega
theorem tg_216 : ∀ a i : Nat, (a = 1 ∧ 5 ≤ i ∨ 3 ≤ a ∧ a ≤ 5 ∨ a = 57 ∨ a = 66) → (a = 1 ∧ 5 ≤ i ∨ 3 ≤ a ∧ a ≤ 5 ∨ 49 ≤ a ∧ a ≤ 66) := fun a i z => by omega
theorem tg_217 : ∀ a i : Nat, (a = 1 ∧ 5 ≤ i ∨ 3 ≤ a ∧ a ≤ 5 ∨ 49 ≤ a ∧ a ≤ 66) → (a = 1 ∧ 5 ≤ i ∨ 3 ≤ a ∧ a ≤ 5 ∨ 49 ≤ a ∧ a ≤ 66) := fun a i z => by omega
set_option maxRecDepth 4000 in
set_option maxHeartbeats 0 in
theorem C_247 {X : mm_X} {d : Nat} {M : mm_M} {Q : Option Value → mm_M → Prop} {x : Int32} (hX : g_X X) (hd : 0 ≤ d) (hG : g_G M) (h : ∀ (r : Int32) (M1 : mm_M), g_G M1 → FR md_0 M M1 → Q (some (.int r)) M1) : mm_T X d 246 0 [.int x] [] M Q := by
  have F0 : FR md_0 M M := FR.rf
  refine to_in (pc := 0) rw_247_0 rfl (to_in (pc := 1) rw_247_1 rfl (to_c (pc := 2) rw_247_2 (x := (1 : Int32)) rfl rfl (s_any (pc := 3) rw_247_3 (fun _ _ => rfl) (fun v1 => to_c (pc := 4) rw_247_4 (x := (1431655765 : Int32)) rfl rfl (s_and (pc := 7) rw_247_7 (B := 1431655765) rfl (by omega) (fun v2 e3 _ _ => s_any (pc := 8) rw_247_8 (fun _ _ => rfl) (fun v4 => to_isn (pc := 9) rw_247_9 (ls2 := [.int v4]) rfl rfl (to_in (pc := 10) rw_247_10 rfl (to_c (pc := 11) rw_247_11 (x := (858993459 : Int32)) rfl rfl (s_and (pc := 14) rw_247_14 (B := 858993459) rfl (by omega) (fun v5 e6 _ _ => to_in (pc := 15) rw_247_15 rfl ?_)))))))))))
  refine to_c (pc := 16) rw_247_16 (x := (2 : Int32)) rfl rfl (s_any (pc := 17) rw_247_17 (fun _ _ => rfl) (fun v7 => to_c (pc := 18) rw_247_18 (x := (858993459 : Int32)) rfl rfl (s_and (pc := 21) rw_247_21 (B := 858993459) rfl (by omega) (fun v8 e9 _ _ => s_add (pc := 22) rw_247_22 (A := v5.toInt) (B := v8.toInt) rfl rfl (by omega) (fun v10 e11 => to_isn (pc := 23) rw_247_23 (ls2 := [.int v10]) rfl rfl (to_in (pc := 24) rw_247_24 rfl (to_in (pc := 25) rw_247_25 rfl (to_c (pc := 26) rw_247_26 (x := (4 : Int32)) rfl rfl (s_any (pc := 27) rw_247_27 (fun _ _ => rfl) (fun v12 => s_any (pc := 28) rw_247_28 (fun _ _ => rfl) (fun v13 => to_c (pc := 29) rw_247_29 (x := (252645135 : Int32)) rfl rfl ?_)))))))))))
  refine s_and (pc := 32) rw_247_32 (B := 252645135) rfl (by omega) (fun v14 e15 _ _ => to_isn (pc := 33) rw_247_33 (ls2 := [.int v14]) rfl rfl (to_in (pc := 34) rw_247_34 rfl (to_in (pc := 35) rw_247_35 rfl (to_c (pc := 36) rw_247_36 (x := (8 : Int32)) rfl rfl (s_any (pc := 38) rw_247_38 (fun _ _ => rfl) (fun v16 => s_any (pc := 39) rw_247_39 (fun _ _ => rfl) (fun v17 => to_isn (pc := 40) rw_247_40 (ls2 := [.int v17]) rfl rfl (to_in (pc := 41) rw_247_41 rfl (to_in (pc := 42) rw_247_42 rfl (to_c (pc := 43) rw_247_43 (x := (16 : Int32)) rfl rfl (s_any (pc := 45) rw_247_45 (fun _ _ => rfl) (fun v18 => ?_))))))))))))
  refine s_any (pc := 46) rw_247_46 (fun _ _ => rfl) (fun v19 => to_isn (pc := 47) rw_247_47 (ls2 := [.int v19]) rfl rfl (to_in (pc := 48) rw_247_48 rfl (to_c (pc := 49) rw_247_49 (x := (63 : Int32)) rfl rfl (s_and (pc := 51) rw_247_51 (B := 63) rfl (by omega) (fun v20 e21 _ _ => to_r0 (pc := 52) rw_247_52 ?_)))))
  exact h v20 M hG F0 
set_option maxRecDepth 4000 in
set_option maxHeartbeats 0 in
theorem C_248 {X : mm_X} {d : Nat} {M : mm_M} {Q : Option Value → mm_M → Prop} {x : Int64} (hX : g_X X) (hd : 0 ≤ d) (hG : g_G M) (h : ∀ (r : Int32) (M1 : mm_M), g_G M1 → FR md_0 M M1 → Q (some (.int r)) M1) : mm_T X d 247 0 [.long x, .null] [] M Q := by
  have F0 : FR md_0 M M := FR.rf
  refine to_ln (pc := 0) rw_248_0 rfl rfl rfl (to_ln (pc := 1) rw_248_1 rfl rfl rfl (to_c (pc := 2) rw_248_2 (x := (1 : Int32)) rfl rfl (s_anyS (pc := 3) rw_248_3 (fun _ _ => rfl) (fun l1 => s_cl (pc := 4) rw_248_4 rfl (fun l2 => s_anyL (pc := 7) rw_248_7 (fun _ _ => rfl) (fun l3 => s_anyL (pc := 8) rw_248_8 (fun _ _ => rfl) (fun l4 => to_lsn (pc := 9) rw_248_9 (ls2 := [.long l4, .null]) rfl rfl (to_ln (pc := 10) rw_248_10 rfl rfl rfl (s_cl (pc := 11) rw_248_11 rfl (fun l5 => s_anyL (pc := 14) rw_248_14 (fun _ _ => rfl) (fun l6 => to_ln (pc := 15) rw_248_15 rfl rfl rfl ?_)))))))))))
  refine to_c (pc := 16) rw_248_16 (x := (2 : Int32)) rfl rfl (s_anyS (pc := 17) rw_248_17 (fun _ _ => rfl) (fun l7 => s_cl (pc := 18) rw_248_18 rfl (fun l8 => s_anyL (pc := 21) rw_248_21 (fun _ _ => rfl) (fun l9 => s_anyL (pc := 22) rw_248_22 (fun _ _ => rfl) (fun l10 => to_lsn (pc := 23) rw_248_23 (ls2 := [.long l10, .null]) rfl rfl (to_ln (pc := 24) rw_248_24 rfl rfl rfl (to_ln (pc := 25) rw_248_25 rfl rfl rfl (to_c (pc := 26) rw_248_26 (x := (4 : Int32)) rfl rfl (s_anyS (pc := 27) rw_248_27 (fun _ _ => rfl) (fun l11 => s_anyL (pc := 28) rw_248_28 (fun _ _ => rfl) (fun l12 => s_cl (pc := 29) rw_248_29 rfl (fun l13 => ?_))))))))))))
  refine s_anyL (pc := 32) rw_248_32 (fun _ _ => rfl) (fun l14 => to_lsn (pc := 33) rw_248_33 (ls2 := [.long l14, .null]) rfl rfl (to_ln (pc := 34) rw_248_34 rfl rfl rfl (to_ln (pc := 35) rw_248_35 rfl rfl rfl (to_c (pc := 36) rw_248_36 (x := (8 : Int32)) rfl rfl (s_anyS (pc := 38) rw_248_38 (fun _ _ => rfl) (fun l15 => s_anyL (pc := 39) rw_248_39 (fun _ _ => rfl) (fun l16 => to_lsn (pc := 40) rw_248_40 (ls2 := [.long l16, .null]) rfl rfl (to_ln (pc := 41) rw_248_41 rfl rfl rfl (to_ln (pc := 42) rw_248_42 rfl rfl rfl (to_c (pc := 43) rw_248_43 (x := (16 : Int32)) rfl rfl (s_anyS (pc := 45) rw_248_45 (fun _ _ => rfl) (fun l17 => ?_))))))))))))
  refine s_anyL (pc := 46) rw_248_46 (fun _ _ => rfl) (fun l18 => to_lsn (pc := 47) rw_248_47 (ls2 := [.long l18, .null]) rfl rfl (to_ln (pc := 48) rw_248_48 rfl rfl rfl (to_ln (pc := 49) rw_248_49 rfl rfl rfl (to_c (pc := 50) rw_248_50 (x := (32 : Int32)) rfl rfl (s_anyS (pc := 52) rw_248_52 (fun _ _ => rfl) (fun l19 => s_anyL (pc := 53) rw_248_53 (fun _ _ => rfl) (fun l20 => to_lsn (pc := 54) rw_248_54 (ls2 := [.long l20, .null]) rfl rfl (to_ln (pc := 55) rw_248_55 rfl rfl rfl (s_l2i (pc := 56) rw_248_56 (fun v21 => to_c (pc := 57) rw_248_57 (x := (127 : Int32)) rfl rfl (s_and (pc := 59) rw_248_59 (B := 127) rfl (by omega) (fun v22 e23 _ _ => ?_))))))))))))
  refine to_r0 (pc := 60) rw_248_60 ?_
  exact h v22 M hG F0 
set_option maxRecDepth 4000 in
set_option maxHeartbeats 0 in
theorem T_54f_0 {X : mm_X} {d : Nat} {M : mm_M} {Q : Option Value → mm_M → Prop} {f : Nat} {s : Int32} {x : Int32} (hX : g_X X) (hd : 0 ≤ d) (hf : f = 50 ∨ f = 59) (h : ∀ (r : Int32) (M1 : mm_M), g_G M1 → FR md_0 M M1 → (-1 ≤ r.toInt) → (r.toInt ≤ 7) → Q (some (.int r)) M1) : ∀ nn9 : Nat, (∀ (N : mm_M) (x3 : Int32), g_G N → FR md_0 M N → (0 ≤ x3.toInt) → (x3.toInt ≤ 8) → 8 - x3.toInt < (nn9 : Int) → mm_T X d 54 2 [.ref f, .int s, .int x, .int x3] [] N Q) := by
  intro nn9
  induction nn9 with
  | zero =>
    intro N x3 hG F0 g1 g2 hm
    exfalso; omega
  | succ nn9 ih =>
    intro N x3 hG F0 g1 g2 hm
    refine to_in (pc := 2) rw_54_2 rfl (to_in (pc := 3) rw_54_3 rfl (b_cge (pc := 4) rw_54_4 (A := x3.toInt) (B := s.toInt) rfl rfl (fun h1 => ?_) (fun h1 => ?_)))
    · refine to_c (pc := 28) rw_54_28 (x := (-1 : Int32)) rfl rfl (to_r0 (pc := 29) rw_54_29 ?_)
      have k_2 : (-1 : Int32).toInt = -1 := rfl
      exact h (-1 : Int32) N hG F0 (by omega) (by omega)
    · refine to_in (pc := 7) rw_54_7 rfl (to_an (pc := 8) rw_54_8 rfl (s_len (pc := 9) rw_54_9 hG (by rcases hf with rfl | rfl <;> rfl) (by rcases hf with rfl | rfl <;> rfl) (n := 8) (by rcases hf with rfl | rfl <;> rfl) (v := (8 : Int32)) rfl (b_cge (pc := 10) rw_54_10 (A := x3.toInt) (B := 8) rfl rfl (fun h3 => ?_) (fun h3 => ?_))))
      · refine to_c (pc := 28) rw_54_28 (x := (-1 : Int32)) rfl rfl (to_r0 (pc := 29) rw_54_29 ?_)
        have k_4 : (-1 : Int32).toInt = -1 := rfl
        exact h (-1 : Int32) N hG F0 (by omega) (by omega)
      · refine to_an (pc := 13) rw_54_13 rfl (to_in (pc := 14) rw_54_14 rfl (s_ial (pc := 15) rw_54_15 hG (by rcases hf with rfl | rfl <;> rfl) (n := 8) (by rcases hf with rfl | rfl <;> rfl) (by rcases hf with rfl | rfl <;> rfl) (A := x3.toInt) rfl (by omega) (by omega) (lo := -2147483648) (hi := 2147483647) (by rcases hf with rfl | rfl <;> rfl) (by rcases hf with rfl | rfl <;> rfl) (fun v5 w_6 _ _ => to_in (pc := 16) rw_54_16 rfl (b_cne (pc := 17) rw_54_17 (A := v5.toInt) (B := x.toInt) rfl rfl (fun h7 => ?_) (fun h7 => ?_)))))
        · refine s_inc (pc := 22) rw_54_22 (ls2 := fun v => [.ref f, .int s, .int x, .int v]) rfl rfl (fun _ => rfl) (A := x3.toInt) (B := 1) rfl rfl (by omega) (fun v8 e9 => to_go (pc := 25) rw_54_25 ?_)
          exact ih N v8 hG F0 (by omega) (by omega) (by omega)
        · refine to_in (pc := 20) rw_54_20 rfl (to_r0 (pc := 21) rw_54_21 ?_)
          exact h x3 N hG F0 (by omega) (by omega)
set_option maxRecDepth 4000 in
set_option maxHeartbeats 0 in
theorem C_54f {X : mm_X} {d : Nat} {M : mm_M} {Q : Option Value → mm_M → Prop} {f : Nat} {s : Int32} {x : Int32} (hX : g_X X) (hd : 0 ≤ d) (hG : g_G M) (hf : f = 50 ∨ f = 59) (h : ∀ (r : Int32) (M1 : mm_M), g_G M1 → FR md_0 M M1 → (-1 ≤ r.toInt) → (r.toInt ≤ 7) → Q (some (.int r)) M1) : mm_T X d 54 0 [.ref f, .int s, .int x, .null] [] M Q := by
  have F0 : FR md_0 M M := FR.rf
  refine to_c (pc := 0) rw_54_0 (x := (0 : Int32)) rfl rfl (to_isn (pc := 1) rw_54_1 (ls2 := [.ref f, .int s, .int x, .int (0 : Int32)]) rfl rfl ?_)
  have k_10 : (0 : Int32).toInt = 0 := rfl
  exact (T_54f_0 (f := f) (s := s) (x := x) hX hd hf h ((8 - (0 : Int32).toInt).toNat + 1)) M (0 : Int32) hG F0 (by omega) (by omega) (by omega)
set_option maxRecDepth 4000 in
set_option maxHeartbeats 0 in
theorem T_54g_0 {X : mm_X} {d : Nat} {M : mm_M} {Q : Option Value → mm_M → Prop} {g : Nat} {s : Int32} {x : Int32} (hX : g_X X) (hd : 0 ≤ d) (hg : g = 55 ∨ g = 64) (h : ∀ (r : Int32) (M1 : mm_M), g_G M1 → FR md_0 M M1 → (-1 ≤ r.toInt) → (r.toInt ≤ 11) → Q (some (.int r)) M1) : ∀ nn9 : Nat, (∀ (N : mm_M) (x3 : Int32), g_G N → FR md_0 M N → (0 ≤ x3.toInt) → (x3.toInt ≤ 12) → 12 - x3.toInt < (nn9 : Int) → mm_T X d 54 2 [.ref g, .int s, .int x, .int x3] [] N Q) := by
  intro nn9
  induction nn9 with
  | zero =>
    intro N x3 hG F0 g1 g2 hm
    exfalso; omega
  | succ nn9 ih =>
    intro N x3 hG F0 g1 g2 hm
    refine to_in (pc := 2) rw_54_2 rfl (to_in (pc := 3) rw_54_3 rfl (b_cge (pc := 4) rw_54_4 (A := x3.toInt) (B := s.toInt) rfl rfl (fun h1 => ?_) (fun h1 => ?_)))
    · refine to_c (pc := 28) rw_54_28 (x := (-1 : Int32)) rfl rfl (to_r0 (pc := 29) rw_54_29 ?_)
      have k_2 : (-1 : Int32).toInt = -1 := rfl
      exact h (-1 : Int32) N hG F0 (by omega) (by omega)
    · refine to_in (pc := 7) rw_54_7 rfl (to_an (pc := 8) rw_54_8 rfl (s_len (pc := 9) rw_54_9 hG (by rcases hg with rfl | rfl <;> rfl) (by rcases hg with rfl | rfl <;> rfl) (n := 12) (by rcases hg with rfl | rfl <;> rfl) (v := (12 : Int32)) rfl (b_cge (pc := 10) rw_54_10 (A := x3.toInt) (B := 12) rfl rfl (fun h3 => ?_) (fun h3 => ?_))))
      · refine to_c (pc := 28) rw_54_28 (x := (-1 : Int32)) rfl rfl (to_r0 (pc := 29) rw_54_29 ?_)
        have k_4 : (-1 : Int32).toInt = -1 := rfl
        exact h (-1 : Int32) N hG F0 (by omega) (by omega)
      · refine to_an (pc := 13) rw_54_13 rfl (to_in (pc := 14) rw_54_14 rfl (s_ial (pc := 15) rw_54_15 hG (by rcases hg with rfl | rfl <;> rfl) (n := 12) (by rcases hg with rfl | rfl <;> rfl) (by rcases hg with rfl | rfl <;> rfl) (A := x3.toInt) rfl (by omega) (by omega) (lo := -2147483648) (hi := 2147483647) (by rcases hg with rfl | rfl <;> rfl) (by rcases hg with rfl | rfl <;> rfl) (fun v5 w_6 _ _ => to_in (pc := 16) rw_54_16 rfl (b_cne (pc := 17) rw_54_17 (A := v5.toInt) (B := x.toInt) rfl rfl (fun h7 => ?_) (fun h7 => ?_)))))
        · refine s_inc (pc := 22) rw_54_22 (ls2 := fun v => [.ref g, .int s, .int x, .int v]) rfl rfl (fun _ => rfl) (A := x3.toInt) (B := 1) rfl rfl (by omega) (fun v8 e9 => to_go (pc := 25) rw_54_25 ?_)
          exact ih N v8 hG F0 (by omega) (by omega) (by omega)
        · refine to_in (pc := 20) rw_54_20 rfl (to_r0 (pc := 21) rw_54_21 ?_)
          exact h x3 N hG F0 (by omega) (by omega)
set_option maxRecDepth 4000 in
set_option maxHeartbeats 0 in
theorem C_54g {X : mm_X} {d : Nat} {M : mm_M} {Q : Option Value → mm_M → Prop} {g : Nat} {s : Int32} {x : Int32} (hX : g_X X) (hd : 0 ≤ d) (hG : g_G M) (hg : g = 55 ∨ g = 64) (h : ∀ (r : Int32) (M1 : mm_M), g_G M1 → FR md_0 M M1 → (-1 ≤ r.toInt) → (r.toInt ≤ 11) → Q (some (.int r)) M1) : mm_T X d 54 0 [.ref g, .int s, .int x, .null] [] M Q := by
  have F0 : FR md_0 M M := FR.rf
  refine to_c (pc := 0) rw_54_0 (x := (0 : Int32)) rfl rfl (to_isn (pc := 1) rw_54_1 (ls2 := [.ref g, .int s, .int x, .int (0 : Int32)]) rfl rfl ?_)
  have k_10 : (0 : Int32).toInt = 0 := rfl
  exact (T_54g_0 (g := g) (s := s) (x := x) hX hd hg h ((12 - (0 : Int32).toInt).toNat + 1)) M (0 : Int32) hG F0 (by omega) (by omega) (by omega)
set_option maxRecDepth 4000 in
set_option maxHeartbeats 0 in
theorem C_34 {X : mm_X} {d : Nat} {M : mm_M} {Q : Option Value → mm_M → Prop} {p : Nat} (hX : g_X X) (hd : 2 ≤ d) (hG : g_G M) (hp : p = 49 ∨ p = 58) (h : ∀ (r : Int32) (M1 : mm_M), g_G M1 → FR md_t M M1 → (0 ≤ r.toInt) → (r.toInt ≤ 1) → (r.toInt = 1 → (M1.2.1 1 10).toInt = (M.2.1 1 10).toInt ∧ (M1.2.1 1 11).toInt = (M.2.1 1 11).toInt) → Q (some (.int r)) M1) : mm_T X d 34 0 [.ref p, .ref 1] [] M Q := by
  have F0 : FR md_t M M := FR.rf
  refine to_an (pc := 0) rw_34_0 rfl (tt_gI (pc := 1) rw_34_1 (g_o hG rfl) (v := (M.2.1 1 7)) rfl (to_c (pc := 4) rw_34_4 (x := (3 : Int32)) rfl rfl (b_ceq (pc := 5) rw_34_5 (A := (M.2.1 1 7).toInt) (B := 3) rfl rfl (fun h1 => ?_) (fun h1 => ?_))))
  · refine to_an (pc := 14) rw_34_14 rfl (to_an (pc := 15) rw_34_15 rfl (tt_gI (pc := 16) rw_34_16 (g_o hG rfl) (v := (M.2.1 1 8)) rfl (s_v (pc := 19) rw_34_19 (dp0 hd (by decide)) (ls0 := [.ref p, .int (M.2.1 1 8)]) rfl (Nat.le_of_ble_eq_true rfl) (Nat.le_of_ble_eq_true rfl) rfl (to_rc rfl rfl rfl (g_o hG (by rcases hp with rfl | rfl <;> rfl))) rfl (to_an (pc := 0) rw_52_0 rfl (s_gR (pc := 1) rw_52_1 hG (by rcases hp with rfl | rfl <;> rfl) (v := (p + 1)) (by rcases hp with rfl | rfl <;> rfl) (to_an (pc := 4) rw_52_4 rfl ?_))))))
    have b_2 := g_b hG (a := p) (i := 2) (lo := 0) (hi := 8) (by rcases hp with rfl | rfl <;> rfl) (by rcases hp with rfl | rfl <;> rfl)
    refine tt_gI (pc := 5) rw_52_5 (g_o hG (by rcases hp with rfl | rfl <;> rfl)) (v := (M.2.1 p 2)) rfl (to_in (pc := 8) rw_52_8 rfl (s_s (pc := 9) rw_52_9 (dp1 hd (by decide)) (ls0 := [.ref (p + 1), .int (M.2.1 p 2), .int (M.2.1 1 8), .null]) rfl (Nat.le_of_ble_eq_true rfl) (Nat.le_of_ble_eq_true rfl) rfl (to_rcs rfl rfl) rfl (C_54f hX (dp2 hd (by decide)) hG (by omega) (f := (p + 1)) (s := (M.2.1 p 2)) (x := (M.2.1 1 8)) (fun r3 M8 hG5 F4 p_6 p_7 => ?_))))
    have F9 := FR.c F0 F4 tg_205
    refine to_r0 (pc := 12) rw_52_12 (to_c (pc := 22) rw_34_22 (x := (-1 : Int32)) rfl rfl (b_cne (pc := 23) rw_34_23 (A := r3.toInt) (B := -1) rfl rfl (fun h10 => ?_) (fun h10 => ?_)))
    · refine to_an (pc := 38) rw_34_38 rfl (to_c (pc := 39) rw_34_39 (x := (3 : Int32)) rfl rfl (s_v (pc := 40) rw_34_40 (dp0 hd (by decide)) (ls0 := [.ref 1, .int (3 : Int32)]) rfl (Nat.le_of_ble_eq_true rfl) (Nat.le_of_ble_eq_true rfl) rfl (to_rc rfl rfl rfl (g_o hG5 rfl)) rfl (to_an (pc := 0) rw_84_0 rfl (to_in (pc := 1) rw_84_1 rfl (s_pI (pc := 2) rw_84_2 hG5 rfl (fun M12 W11 => ?_))))))
      have hG13 := g_wf hG5 W11 rfl rfl (by decide)
      have F14 := FR.w F9 W11 (show 1 = 1 ∧ 5 ≤ 10 ∨ 3 ≤ 1 ∧ 1 ≤ 5 by decide)
      refine to_an (pc := 5) rw_84_5 rfl (to_an (pc := 6) rw_84_6 rfl ?_)
      have c_15 : M12.2.1 1 9 = (M.2.1 1 9) := (W_n W11 (by decide) (F_n F4 (show ¬ (1 < 0) by decide) rfl))
      refine tt_gI (pc := 7) rw_84_7 (g_o hG13 rfl) (v := (M.2.1 1 9)) c_15 (s_pI (pc := 10) rw_84_10 hG13 rfl (fun M17 W16 => ?_))
      have hG18 := g_wf hG13 W16 rfl rfl (by decide)
      have F19 := FR.w F14 W16 (show 1 = 1 ∧ 5 ≤ 11 ∨ 3 ≤ 1 ∧ 1 ≤ 5 by decide)
      refine to_c (pc := 13) rw_84_13 (x := (0 : Int32)) rfl rfl (s_r1 (pc := 14) rw_84_14 (A := 0) rfl (by decide) (s_r1 (pc := 43) rw_34_43 (A := 0) rfl (by decide) ?_))
      have k_20 : (0 : Int32).toInt = 0 := rfl
      have c_21 : M17.2.1 1 10 = (3 : Int32) := (W_n W16 (by decide) (W_e W11))
      have k_22 : (3 : Int32).toInt = 3 := rfl
      have t_23 : (M17.2.1 1 10).toInt = (3 : Int32).toInt := congrArg Int32.toInt c_21
      have c_24 : M17.2.1 1 11 = (M.2.1 1 9) := (W_e W16)
      have t_25 : (M17.2.1 1 11).toInt = (M.2.1 1 9).toInt := congrArg Int32.toInt c_24
      exact h (0 : Int32) M17 hG18 F19 (by decide) (by decide) (by omega)
    · refine to_an (pc := 26) rw_34_26 rfl (to_an (pc := 27) rw_34_27 rfl ?_)
      have c_26 : M8.2.1 1 8 = (M.2.1 1 8) := (F_n F4 (show ¬ (1 < 0) by decide) rfl)
      refine tt_gI (pc := 28) rw_34_28 (g_o hG5 rfl) (v := (M.2.1 1 8)) c_26 (s_v (pc := 31) rw_34_31 (dp0 hd (by decide)) (ls0 := [.ref p, .int (M.2.1 1 8)]) rfl (Nat.le_of_ble_eq_true rfl) (Nat.le_of_ble_eq_true rfl) rfl (to_rc rfl rfl rfl (g_o hG5 (by rcases hp with rfl | rfl <;> rfl))) rfl (to_an (pc := 0) rw_53_0 rfl (s_gR (pc := 1) rw_53_1 hG5 (by rcases hp with rfl | rfl <;> rfl) (v := (p + 6)) (by rcases hp with rfl | rfl <;> rfl) (to_an (pc := 4) rw_53_4 rfl ?_))))
      have c_27 : M8.2.1 p 3 = (M.2.1 p 3) := (F_n F4 (show ¬ (p < 0) by omega) rfl)
      have b_28 := g_b hG (a := p) (i := 3) (lo := 0) (hi := 12) (by rcases hp with rfl | rfl <;> rfl) (by rcases hp with rfl | rfl <;> rfl)
      refine tt_gI (pc := 5) rw_53_5 (g_o hG5 (by rcases hp with rfl | rfl <;> rfl)) (v := (M.2.1 p 3)) c_27 (to_in (pc := 8) rw_53_8 rfl (s_s (pc := 9) rw_53_9 (dp1 hd (by decide)) (ls0 := [.ref (p + 6), .int (M.2.1 p 3), .int (M.2.1 1 8), .null]) rfl (Nat.le_of_ble_eq_true rfl) (Nat.le_of_ble_eq_true rfl) rfl (to_rcs rfl rfl) rfl (C_54g hX (dp2 hd (by decide)) hG5 (by omega) (g := (p + 6)) (s := (M.2.1 p 3)) (x := (M.2.1 1 8)) (fun r29 M34 hG31 F30 p_32 p_33 => ?_))))
      have F35 := FR.c F9 F30 tg_205
      refine to_r0 (pc := 12) rw_53_12 (to_c (pc := 34) rw_34_34 (x := (-1 : Int32)) rfl rfl (b_ceq (pc := 35) rw_34_35 (A := r29.toInt) (B := -1) rfl rfl (fun h36 => ?_) (fun h36 => ?_)))
      · refine to_c (pc := 44) rw_34_44 (x := (1 : Int32)) rfl rfl (s_r1 (pc := 45) rw_34_45 (A := 1) rfl (by decide) ?_)
        have k_37 : (1 : Int32).toInt = 1 := rfl
        have c_38 : M34.2.1 1 10 = (M.2.1 1 10) := (F_n F30 (show ¬ (1 < 0) by decide) (F_n F4 (show ¬ (1 < 0) by decide) rfl))
        have t_39 : (M34.2.1 1 10).toInt = (M.2.1 1 10).toInt := congrArg Int32.toInt c_38
        have c_40 : M34.2.1 1 11 = (M.2.1 1 11) := (F_n F30 (show ¬ (1 < 0) by decide) (F_n F4 (show ¬ (1 < 0) by decide) rfl))
        have t_41 : (M34.2.1 1 11).toInt = (M.2.1 1 11).toInt := congrArg Int32.toInt c_40
        exact h (1 : Int32) M34 hG31 F35 (by decide) (by decide) (by omega)
      · refine to_an (pc := 38) rw_34_38 rfl (to_c (pc := 39) rw_34_39 (x := (3 : Int32)) rfl rfl (s_v (pc := 40) rw_34_40 (dp0 hd (by decide)) (ls0 := [.ref 1, .int (3 : Int32)]) rfl (Nat.le_of_ble_eq_true rfl) (Nat.le_of_ble_eq_true rfl) rfl (to_rc rfl rfl rfl (g_o hG31 rfl)) rfl (to_an (pc := 0) rw_84_0 rfl (to_in (pc := 1) rw_84_1 rfl (s_pI (pc := 2) rw_84_2 hG31 rfl (fun M43 W42 => ?_))))))
        have hG44 := g_wf hG31 W42 rfl rfl (by decide)
        have F45 := FR.w F35 W42 (show 1 = 1 ∧ 5 ≤ 10 ∨ 3 ≤ 1 ∧ 1 ≤ 5 by decide)
        refine to_an (pc := 5) rw_84_5 rfl (to_an (pc := 6) rw_84_6 rfl ?_)
        have c_46 : M43.2.1 1 9 = (M.2.1 1 9) := (W_n W42 (by decide) (F_n F30 (show ¬ (1 < 0) by decide) (F_n F4 (show ¬ (1 < 0) by decide) rfl)))
        refine tt_gI (pc := 7) rw_84_7 (g_o hG44 rfl) (v := (M.2.1 1 9)) c_46 (s_pI (pc := 10) rw_84_10 hG44 rfl (fun M48 W47 => ?_))
        have hG49 := g_wf hG44 W47 rfl rfl (by decide)
        have F50 := FR.w F45 W47 (show 1 = 1 ∧ 5 ≤ 11 ∨ 3 ≤ 1 ∧ 1 ≤ 5 by decide)
        refine to_c (pc := 13) rw_84_13 (x := (0 : Int32)) rfl rfl (s_r1 (pc := 14) rw_84_14 (A := 0) rfl (by decide) (s_r1 (pc := 43) rw_34_43 (A := 0) rfl (by decide) ?_))
        have k_51 : (0 : Int32).toInt = 0 := rfl
        have c_52 : M48.2.1 1 10 = (3 : Int32) := (W_n W47 (by decide) (W_e W42))
        have k_53 : (3 : Int32).toInt = 3 := rfl
        have t_54 : (M48.2.1 1 10).toInt = (3 : Int32).toInt := congrArg Int32.toInt c_52
        have c_55 : M48.2.1 1 11 = (M.2.1 1 9) := (W_e W47)
        have t_56 : (M48.2.1 1 11).toInt = (M.2.1 1 9).toInt := congrArg Int32.toInt c_55
        exact h (0 : Int32) M48 hG49 F50 (by decide) (by decide) (by omega)
  · refine to_an (pc := 8) rw_34_8 rfl (to_c (pc := 9) rw_34_9 (x := (1 : Int32)) rfl rfl (s_v (pc := 10) rw_34_10 (dp0 hd (by decide)) (ls0 := [.ref 1, .int (1 : Int32)]) rfl (Nat.le_of_ble_eq_true rfl) (Nat.le_of_ble_eq_true rfl) rfl (to_rc rfl rfl rfl (g_o hG rfl)) rfl (to_an (pc := 0) rw_84_0 rfl (to_in (pc := 1) rw_84_1 rfl (s_pI (pc := 2) rw_84_2 hG rfl (fun M58 W57 => ?_))))))
    have hG59 := g_wf hG W57 rfl rfl (by decide)
    have F60 := FR.w F0 W57 (show 1 = 1 ∧ 5 ≤ 10 ∨ 3 ≤ 1 ∧ 1 ≤ 5 by decide)
    refine to_an (pc := 5) rw_84_5 rfl (to_an (pc := 6) rw_84_6 rfl ?_)
    have c_61 : M58.2.1 1 9 = (M.2.1 1 9) := (W_n W57 (by decide) rfl)
    refine tt_gI (pc := 7) rw_84_7 (g_o hG59 rfl) (v := (M.2.1 1 9)) c_61 (s_pI (pc := 10) rw_84_10 hG59 rfl (fun M63 W62 => ?_))
    have hG64 := g_wf hG59 W62 rfl rfl (by decide)
    have F65 := FR.w F60 W62 (show 1 = 1 ∧ 5 ≤ 11 ∨ 3 ≤ 1 ∧ 1 ≤ 5 by decide)
    refine to_c (pc := 13) rw_84_13 (x := (0 : Int32)) rfl rfl (s_r1 (pc := 14) rw_84_14 (A := 0) rfl (by decide) (s_r1 (pc := 13) rw_34_13 (A := 0) rfl (by decide) ?_))
    have k_66 : (0 : Int32).toInt = 0 := rfl
    have c_67 : M63.2.1 1 10 = (1 : Int32) := (W_n W62 (by decide) (W_e W57))
    have k_68 : (1 : Int32).toInt = 1 := rfl
    have t_69 : (M63.2.1 1 10).toInt = (1 : Int32).toInt := congrArg Int32.toInt c_67
    have c_70 : M63.2.1 1 11 = (M.2.1 1 9) := (W_e W62)
    have t_71 : (M63.2.1 1 11).toInt = (M.2.1 1 9).toInt := congrArg Int32.toInt c_70
    exact h (0 : Int32) M63 hG64 F65 (by decide) (by decide) (by omega)
set_option maxRecDepth 4000 in
set_option maxHeartbeats 0 in
theorem C_35 {X : mm_X} {d : Nat} {M : mm_M} {Q : Option Value → mm_M → Prop} (hX : g_X X) (hd : 1 ≤ d) (hG : g_G M) (h : ∀ (r : Int32) (M1 : mm_M), g_G M1 → FR md_0 M M1 → (-1 ≤ r.toInt) → (r.toInt ≤ 3) → Q (some (.int r)) M1) : mm_T X d 35 0 [.ref 1] [] M Q := by
  have F0 : FR md_0 M M := FR.rf
  refine to_an (pc := 0) rw_35_0 rfl (to_c (pc := 1) rw_35_1 (x := (518160384 : Int32)) rfl rfl (s_v (pc := 3) rw_35_3 (dp0 hd (by decide)) (ls0 := [.ref 1, .int (518160384 : Int32)]) rfl (Nat.le_of_ble_eq_true rfl) (Nat.le_of_ble_eq_true rfl) rfl (to_rc rfl rfl rfl (g_o hG rfl)) rfl (to_an (pc := 0) rw_86_0 rfl (tt_gI (pc := 1) rw_86_1 (g_o hG rfl) (v := (M.2.1 1 7)) rfl (to_c (pc := 4) rw_86_4 (x := (4 : Int32)) rfl rfl (b_cne (pc := 5) rw_86_5 (A := (M.2.1 1 7).toInt) (B := 4) rfl rfl (fun h1 => ?_) (fun h1 => ?_)))))))
  · refine to_c (pc := 20) rw_86_20 (x := (0 : Int32)) rfl rfl (s_r1 (pc := 21) rw_86_21 (A := 0) rfl (by decide) (b_ieq_t (pc := 6) rw_35_6 (A := 0) rfl (by decide) (to_an (pc := 11) rw_35_11 rfl (to_c (pc := 12) rw_35_12 (x := (659999744 : Int32)) rfl rfl (s_v (pc := 14) rw_35_14 (dp0 hd (by decide)) (ls0 := [.ref 1, .int (659999744 : Int32)]) rfl (Nat.le_of_ble_eq_true rfl) (Nat.le_of_ble_eq_true rfl) rfl (to_rc rfl rfl rfl (g_o hG rfl)) rfl (to_an (pc := 0) rw_86_0 rfl (tt_gI (pc := 1) rw_86_1 (g_o hG rfl) (v := (M.2.1 1 7)) rfl (to_c (pc := 4) rw_86_4 (x := (4 : Int32)) rfl rfl (b_cne (pc := 5) rw_86_5 (A := (M.2.1 1 7).toInt) (B := 4) rfl rfl (fun h2 => ?_) (fun h2 => ?_))))))))))
    · refine to_c (pc := 20) rw_86_20 (x := (0 : Int32)) rfl rfl (s_r1 (pc := 21) rw_86_21 (A := 0) rfl (by decide) (b_ieq_t (pc := 17) rw_35_17 (A := 0) rfl (by decide) (to_an (pc := 22) rw_35_22 rfl (to_c (pc := 23) rw_35_23 (x := (538233440 : Int32)) rfl rfl (s_v (pc := 25) rw_35_25 (dp0 hd (by decide)) (ls0 := [.ref 1, .int (538233440 : Int32)]) rfl (Nat.le_of_ble_eq_true rfl) (Nat.le_of_ble_eq_true rfl) rfl (to_rc rfl rfl rfl (g_o hG rfl)) rfl (to_an (pc := 0) rw_86_0 rfl (tt_gI (pc := 1) rw_86_1 (g_o hG rfl) (v := (M.2.1 1 7)) rfl (to_c (pc := 4) rw_86_4 (x := (4 : Int32)) rfl rfl (b_cne (pc := 5) rw_86_5 (A := (M.2.1 1 7).toInt) (B := 4) rfl rfl (fun h3 => ?_) (fun h3 => ?_))))))))))
      · refine to_c (pc := 20) rw_86_20 (x := (0 : Int32)) rfl rfl (s_r1 (pc := 21) rw_86_21 (A := 0) rfl (by decide) (b_ieq_t (pc := 28) rw_35_28 (A := 0) rfl (by decide) (to_an (pc := 33) rw_35_33 rfl (to_c (pc := 34) rw_35_34 (x := (404000768 : Int32)) rfl rfl (s_v (pc := 36) rw_35_36 (dp0 hd (by decide)) (ls0 := [.ref 1, .int (404000768 : Int32)]) rfl (Nat.le_of_ble_eq_true rfl) (Nat.le_of_ble_eq_true rfl) rfl (to_rc rfl rfl rfl (g_o hG rfl)) rfl (to_an (pc := 0) rw_86_0 rfl (tt_gI (pc := 1) rw_86_1 (g_o hG rfl) (v := (M.2.1 1 7)) rfl (to_c (pc := 4) rw_86_4 (x := (4 : Int32)) rfl rfl (b_cne (pc := 5) rw_86_5 (A := (M.2.1 1 7).toInt) (B := 4) rfl rfl (fun h4 => ?_) (fun h4 => ?_))))))))))
        · refine to_c (pc := 20) rw_86_20 (x := (0 : Int32)) rfl rfl (s_r1 (pc := 21) rw_86_21 (A := 0) rfl (by decide) (b_ieq_t (pc := 39) rw_35_39 (A := 0) rfl (by decide) (to_c (pc := 46) rw_35_46 (x := (-1 : Int32)) rfl rfl (to_r0 (pc := 47) rw_35_47 ?_))))
          have k_5 : (-1 : Int32).toInt = -1 := rfl
          exact h (-1 : Int32) M hG F0 (by omega) (by omega)
        · refine to_an (pc := 8) rw_86_8 rfl (tt_gI (pc := 9) rw_86_9 (g_o hG rfl) (v := (M.2.1 1 8)) rfl (to_in (pc := 12) rw_86_12 rfl (b_cne (pc := 13) rw_86_13 (A := (M.2.1 1 8).toInt) (B := 404000768) rfl rfl (fun h6 => ?_) (fun h6 => ?_))))
          · refine to_c (pc := 20) rw_86_20 (x := (0 : Int32)) rfl rfl (s_r1 (pc := 21) rw_86_21 (A := 0) rfl (by decide) (b_ieq_t (pc := 39) rw_35_39 (A := 0) rfl (by decide) (to_c (pc := 46) rw_35_46 (x := (-1 : Int32)) rfl rfl (to_r0 (pc := 47) rw_35_47 ?_))))
            have k_7 : (-1 : Int32).toInt = -1 := rfl
            exact h (-1 : Int32) M hG F0 (by omega) (by omega)
          · refine to_c (pc := 16) rw_86_16 (x := (1 : Int32)) rfl rfl (to_go (pc := 17) rw_86_17 (s_r1 (pc := 21) rw_86_21 (A := 1) rfl (by decide) (b_ieq_f (pc := 39) rw_35_39 (A := 1) rfl (by decide) (to_c (pc := 42) rw_35_42 (x := (3 : Int32)) rfl rfl (to_go (pc := 43) rw_35_43 (to_r0 (pc := 47) rw_35_47 ?_))))))
            have k_8 : (3 : Int32).toInt = 3 := rfl
            exact h (3 : Int32) M hG F0 (by omega) (by omega)
      · refine to_an (pc := 8) rw_86_8 rfl (tt_gI (pc := 9) rw_86_9 (g_o hG rfl) (v := (M.2.1 1 8)) rfl (to_in (pc := 12) rw_86_12 rfl (b_cne (pc := 13) rw_86_13 (A := (M.2.1 1 8).toInt) (B := 538233440) rfl rfl (fun h9 => ?_) (fun h9 => ?_))))
        · refine to_c (pc := 20) rw_86_20 (x := (0 : Int32)) rfl rfl (s_r1 (pc := 21) rw_86_21 (A := 0) rfl (by decide) (b_ieq_t (pc := 28) rw_35_28 (A := 0) rfl (by decide) (to_an (pc := 33) rw_35_33 rfl (to_c (pc := 34) rw_35_34 (x := (404000768 : Int32)) rfl rfl (s_v (pc := 36) rw_35_36 (dp0 hd (by decide)) (ls0 := [.ref 1, .int (404000768 : Int32)]) rfl (Nat.le_of_ble_eq_true rfl) (Nat.le_of_ble_eq_true rfl) rfl (to_rc rfl rfl rfl (g_o hG rfl)) rfl (to_an (pc := 0) rw_86_0 rfl (tt_gI (pc := 1) rw_86_1 (g_o hG rfl) (v := (M.2.1 1 7)) rfl (to_c (pc := 4) rw_86_4 (x := (4 : Int32)) rfl rfl (b_cne_f (pc := 5) rw_86_5 (A := (M.2.1 1 7).toInt) (B := 4) rfl rfl (by omega) (to_an (pc := 8) rw_86_8 rfl (tt_gI (pc := 9) rw_86_9 (g_o hG rfl) (v := (M.2.1 1 8)) rfl ?_)))))))))))
          refine to_in (pc := 12) rw_86_12 rfl (b_cne (pc := 13) rw_86_13 (A := (M.2.1 1 8).toInt) (B := 404000768) rfl rfl (fun h10 => ?_) (fun h10 => ?_))
          · refine to_c (pc := 20) rw_86_20 (x := (0 : Int32)) rfl rfl (s_r1 (pc := 21) rw_86_21 (A := 0) rfl (by decide) (b_ieq_t (pc := 39) rw_35_39 (A := 0) rfl (by decide) (to_c (pc := 46) rw_35_46 (x := (-1 : Int32)) rfl rfl (to_r0 (pc := 47) rw_35_47 ?_))))
            have k_11 : (-1 : Int32).toInt = -1 := rfl
            exact h (-1 : Int32) M hG F0 (by omega) (by omega)
          · refine to_c (pc := 16) rw_86_16 (x := (1 : Int32)) rfl rfl (to_go (pc := 17) rw_86_17 (s_r1 (pc := 21) rw_86_21 (A := 1) rfl (by decide) (b_ieq_f (pc := 39) rw_35_39 (A := 1) rfl (by decide) (to_c (pc := 42) rw_35_42 (x := (3 : Int32)) rfl rfl (to_go (pc := 43) rw_35_43 (to_r0 (pc := 47) rw_35_47 ?_))))))
            have k_12 : (3 : Int32).toInt = 3 := rfl
            exact h (3 : Int32) M hG F0 (by omega) (by omega)
        · refine to_c (pc := 16) rw_86_16 (x := (1 : Int32)) rfl rfl (to_go (pc := 17) rw_86_17 (s_r1 (pc := 21) rw_86_21 (A := 1) rfl (by decide) (b_ieq_f (pc := 28) rw_35_28 (A := 1) rfl (by decide) (to_c (pc := 31) rw_35_31 (x := (2 : Int32)) rfl rfl (to_r0 (pc := 32) rw_35_32 ?_)))))
          have k_13 : (2 : Int32).toInt = 2 := rfl
          exact h (2 : Int32) M hG F0 (by omega) (by omega)
    · refine to_an (pc := 8) rw_86_8 rfl (tt_gI (pc := 9) rw_86_9 (g_o hG rfl) (v := (M.2.1 1 8)) rfl (to_in (pc := 12) rw_86_12 rfl (b_cne (pc := 13) rw_86_13 (A := (M.2.1 1 8).toInt) (B := 659999744) rfl rfl (fun h14 => ?_) (fun h14 => ?_))))
      · refine to_c (pc := 20) rw_86_20 (x := (0 : Int32)) rfl rfl (s_r1 (pc := 21) rw_86_21 (A := 0) rfl (by decide) (b_ieq_t (pc := 17) rw_35_17 (A := 0) rfl (by decide) (to_an (pc := 22) rw_35_22 rfl (to_c (pc := 23) rw_35_23 (x := (538233440 : Int32)) rfl rfl (s_v (pc := 25) rw_35_25 (dp0 hd (by decide)) (ls0 := [.ref 1, .int (538233440 : Int32)]) rfl (Nat.le_of_ble_eq_true rfl) (Nat.le_of_ble_eq_true rfl) rfl (to_rc rfl rfl rfl (g_o hG rfl)) rfl (to_an (pc := 0) rw_86_0 rfl (tt_gI (pc := 1) rw_86_1 (g_o hG rfl) (v := (M.2.1 1 7)) rfl (to_c (pc := 4) rw_86_4 (x := (4 : Int32)) rfl rfl (b_cne_f (pc := 5) rw_86_5 (A := (M.2.1 1 7).toInt) (B := 4) rfl rfl (by omega) (to_an (pc := 8) rw_86_8 rfl (tt_gI (pc := 9) rw_86_9 (g_o hG rfl) (v := (M.2.1 1 8)) rfl ?_)))))))))))
        refine to_in (pc := 12) rw_86_12 rfl (b_cne (pc := 13) rw_86_13 (A := (M.2.1 1 8).toInt) (B := 538233440) rfl rfl (fun h15 => ?_) (fun h15 => ?_))
        · refine to_c (pc := 20) rw_86_20 (x := (0 : Int32)) rfl rfl (s_r1 (pc := 21) rw_86_21 (A := 0) rfl (by decide) (b_ieq_t (pc := 28) rw_35_28 (A := 0) rfl (by decide) (to_an (pc := 33) rw_35_33 rfl (to_c (pc := 34) rw_35_34 (x := (404000768 : Int32)) rfl rfl (s_v (pc := 36) rw_35_36 (dp0 hd (by decide)) (ls0 := [.ref 1, .int (404000768 : Int32)]) rfl (Nat.le_of_ble_eq_true rfl) (Nat.le_of_ble_eq_true rfl) rfl (to_rc rfl rfl rfl (g_o hG rfl)) rfl (to_an (pc := 0) rw_86_0 rfl (tt_gI (pc := 1) rw_86_1 (g_o hG rfl) (v := (M.2.1 1 7)) rfl (to_c (pc := 4) rw_86_4 (x := (4 : Int32)) rfl rfl (b_cne_f (pc := 5) rw_86_5 (A := (M.2.1 1 7).toInt) (B := 4) rfl rfl (by omega) (to_an (pc := 8) rw_86_8 rfl (tt_gI (pc := 9) rw_86_9 (g_o hG rfl) (v := (M.2.1 1 8)) rfl ?_)))))))))))
          refine to_in (pc := 12) rw_86_12 rfl (b_cne (pc := 13) rw_86_13 (A := (M.2.1 1 8).toInt) (B := 404000768) rfl rfl (fun h16 => ?_) (fun h16 => ?_))
          · refine to_c (pc := 20) rw_86_20 (x := (0 : Int32)) rfl rfl (s_r1 (pc := 21) rw_86_21 (A := 0) rfl (by decide) (b_ieq_t (pc := 39) rw_35_39 (A := 0) rfl (by decide) (to_c (pc := 46) rw_35_46 (x := (-1 : Int32)) rfl rfl (to_r0 (pc := 47) rw_35_47 ?_))))
            have k_17 : (-1 : Int32).toInt = -1 := rfl
            exact h (-1 : Int32) M hG F0 (by omega) (by omega)
          · refine to_c (pc := 16) rw_86_16 (x := (1 : Int32)) rfl rfl (to_go (pc := 17) rw_86_17 (s_r1 (pc := 21) rw_86_21 (A := 1) rfl (by decide) (b_ieq_f (pc := 39) rw_35_39 (A := 1) rfl (by decide) (to_c (pc := 42) rw_35_42 (x := (3 : Int32)) rfl rfl (to_go (pc := 43) rw_35_43 (to_r0 (pc := 47) rw_35_47 ?_))))))
            have k_18 : (3 : Int32).toInt = 3 := rfl
            exact h (3 : Int32) M hG F0 (by omega) (by omega)
        · refine to_c (pc := 16) rw_86_16 (x := (1 : Int32)) rfl rfl (to_go (pc := 17) rw_86_17 (s_r1 (pc := 21) rw_86_21 (A := 1) rfl (by decide) (b_ieq_f (pc := 28) rw_35_28 (A := 1) rfl (by decide) (to_c (pc := 31) rw_35_31 (x := (2 : Int32)) rfl rfl (to_r0 (pc := 32) rw_35_32 ?_)))))
          have k_19 : (2 : Int32).toInt = 2 := rfl
          exact h (2 : Int32) M hG F0 (by omega) (by omega)
      · refine to_c (pc := 16) rw_86_16 (x := (1 : Int32)) rfl rfl (to_go (pc := 17) rw_86_17 (s_r1 (pc := 21) rw_86_21 (A := 1) rfl (by decide) (b_ieq_f (pc := 17) rw_35_17 (A := 1) rfl (by decide) (to_c (pc := 20) rw_35_20 (x := (1 : Int32)) rfl rfl (to_r0 (pc := 21) rw_35_21 ?_)))))
        have k_20 : (1 : Int32).toInt = 1 := rfl
        exact h (1 : Int32) M hG F0 (by omega) (by omega)
  · refine to_an (pc := 8) rw_86_8 rfl (tt_gI (pc := 9) rw_86_9 (g_o hG rfl) (v := (M.2.1 1 8)) rfl (to_in (pc := 12) rw_86_12 rfl (b_cne (pc := 13) rw_86_13 (A := (M.2.1 1 8).toInt) (B := 518160384) rfl rfl (fun h21 => ?_) (fun h21 => ?_))))
    · refine to_c (pc := 20) rw_86_20 (x := (0 : Int32)) rfl rfl (s_r1 (pc := 21) rw_86_21 (A := 0) rfl (by decide) (b_ieq_t (pc := 6) rw_35_6 (A := 0) rfl (by decide) (to_an (pc := 11) rw_35_11 rfl (to_c (pc := 12) rw_35_12 (x := (659999744 : Int32)) rfl rfl (s_v (pc := 14) rw_35_14 (dp0 hd (by decide)) (ls0 := [.ref 1, .int (659999744 : Int32)]) rfl (Nat.le_of_ble_eq_true rfl) (Nat.le_of_ble_eq_true rfl) rfl (to_rc rfl rfl rfl (g_o hG rfl)) rfl (to_an (pc := 0) rw_86_0 rfl (tt_gI (pc := 1) rw_86_1 (g_o hG rfl) (v := (M.2.1 1 7)) rfl (to_c (pc := 4) rw_86_4 (x := (4 : Int32)) rfl rfl (b_cne_f (pc := 5) rw_86_5 (A := (M.2.1 1 7).toInt) (B := 4) rfl rfl (by omega) (to_an (pc := 8) rw_86_8 rfl (tt_gI (pc := 9) rw_86_9 (g_o hG rfl) (v := (M.2.1 1 8)) rfl ?_)))))))))))
      refine to_in (pc := 12) rw_86_12 rfl (b_cne (pc := 13) rw_86_13 (A := (M.2.1 1 8).toInt) (B := 659999744) rfl rfl (fun h22 => ?_) (fun h22 => ?_))
      · refine to_c (pc := 20) rw_86_20 (x := (0 : Int32)) rfl rfl (s_r1 (pc := 21) rw_86_21 (A := 0) rfl (by decide) (b_ieq_t (pc := 17) rw_35_17 (A := 0) rfl (by decide) (to_an (pc := 22) rw_35_22 rfl (to_c (pc := 23) rw_35_23 (x := (538233440 : Int32)) rfl rfl (s_v (pc := 25) rw_35_25 (dp0 hd (by decide)) (ls0 := [.ref 1, .int (538233440 : Int32)]) rfl (Nat.le_of_ble_eq_true rfl) (Nat.le_of_ble_eq_true rfl) rfl (to_rc rfl rfl rfl (g_o hG rfl)) rfl (to_an (pc := 0) rw_86_0 rfl (tt_gI (pc := 1) rw_86_1 (g_o hG rfl) (v := (M.2.1 1 7)) rfl (to_c (pc := 4) rw_86_4 (x := (4 : Int32)) rfl rfl (b_cne_f (pc := 5) rw_86_5 (A := (M.2.1 1 7).toInt) (B := 4) rfl rfl (by omega) (to_an (pc := 8) rw_86_8 rfl (tt_gI (pc := 9) rw_86_9 (g_o hG rfl) (v := (M.2.1 1 8)) rfl ?_)))))))))))
        refine to_in (pc := 12) rw_86_12 rfl (b_cne (pc := 13) rw_86_13 (A := (M.2.1 1 8).toInt) (B := 538233440) rfl rfl (fun h23 => ?_) (fun h23 => ?_))
        · refine to_c (pc := 20) rw_86_20 (x := (0 : Int32)) rfl rfl (s_r1 (pc := 21) rw_86_21 (A := 0) rfl (by decide) (b_ieq_t (pc := 28) rw_35_28 (A := 0) rfl (by decide) (to_an (pc := 33) rw_35_33 rfl (to_c (pc := 34) rw_35_34 (x := (404000768 : Int32)) rfl rfl (s_v (pc := 36) rw_35_36 (dp0 hd (by decide)) (ls0 := [.ref 1, .int (404000768 : Int32)]) rfl (Nat.le_of_ble_eq_true rfl) (Nat.le_of_ble_eq_true rfl) rfl (to_rc rfl rfl rfl (g_o hG rfl)) rfl (to_an (pc := 0) rw_86_0 rfl (tt_gI (pc := 1) rw_86_1 (g_o hG rfl) (v := (M.2.1 1 7)) rfl (to_c (pc := 4) rw_86_4 (x := (4 : Int32)) rfl rfl (b_cne_f (pc := 5) rw_86_5 (A := (M.2.1 1 7).toInt) (B := 4) rfl rfl (by omega) (to_an (pc := 8) rw_86_8 rfl (tt_gI (pc := 9) rw_86_9 (g_o hG rfl) (v := (M.2.1 1 8)) rfl ?_)))))))))))
          refine to_in (pc := 12) rw_86_12 rfl (b_cne (pc := 13) rw_86_13 (A := (M.2.1 1 8).toInt) (B := 404000768) rfl rfl (fun h24 => ?_) (fun h24 => ?_))
          · refine to_c (pc := 20) rw_86_20 (x := (0 : Int32)) rfl rfl (s_r1 (pc := 21) rw_86_21 (A := 0) rfl (by decide) (b_ieq_t (pc := 39) rw_35_39 (A := 0) rfl (by decide) (to_c (pc := 46) rw_35_46 (x := (-1 : Int32)) rfl rfl (to_r0 (pc := 47) rw_35_47 ?_))))
            have k_25 : (-1 : Int32).toInt = -1 := rfl
            exact h (-1 : Int32) M hG F0 (by omega) (by omega)
          · refine to_c (pc := 16) rw_86_16 (x := (1 : Int32)) rfl rfl (to_go (pc := 17) rw_86_17 (s_r1 (pc := 21) rw_86_21 (A := 1) rfl (by decide) (b_ieq_f (pc := 39) rw_35_39 (A := 1) rfl (by decide) (to_c (pc := 42) rw_35_42 (x := (3 : Int32)) rfl rfl (to_go (pc := 43) rw_35_43 (to_r0 (pc := 47) rw_35_47 ?_))))))
            have k_26 : (3 : Int32).toInt = 3 := rfl
            exact h (3 : Int32) M hG F0 (by omega) (by omega)
        · refine to_c (pc := 16) rw_86_16 (x := (1 : Int32)) rfl rfl (to_go (pc := 17) rw_86_17 (s_r1 (pc := 21) rw_86_21 (A := 1) rfl (by decide) (b_ieq_f (pc := 28) rw_35_28 (A := 1) rfl (by decide) (to_c (pc := 31) rw_35_31 (x := (2 : Int32)) rfl rfl (to_r0 (pc := 32) rw_35_32 ?_)))))
          have k_27 : (2 : Int32).toInt = 2 := rfl
          exact h (2 : Int32) M hG F0 (by omega) (by omega)
      · refine to_c (pc := 16) rw_86_16 (x := (1 : Int32)) rfl rfl (to_go (pc := 17) rw_86_17 (s_r1 (pc := 21) rw_86_21 (A := 1) rfl (by decide) (b_ieq_f (pc := 17) rw_35_17 (A := 1) rfl (by decide) (to_c (pc := 20) rw_35_20 (x := (1 : Int32)) rfl rfl (to_r0 (pc := 21) rw_35_21 ?_)))))
        have k_28 : (1 : Int32).toInt = 1 := rfl
        exact h (1 : Int32) M hG F0 (by omega) (by omega)
    · refine to_c (pc := 16) rw_86_16 (x := (1 : Int32)) rfl rfl (to_go (pc := 17) rw_86_17 (s_r1 (pc := 21) rw_86_21 (A := 1) rfl (by decide) (b_ieq_f (pc := 6) rw_35_6 (A := 1) rfl (by decide) (to_c (pc := 9) rw_35_9 (x := (0 : Int32)) rfl rfl (to_r0 (pc := 10) rw_35_10 ?_)))))
      have k_29 : (0 : Int32).toInt = 0 := rfl
      exact h (0 : Int32) M hG F0 (by omega) (by omega)
set_option maxRecDepth 4000 in
set_option maxHeartbeats 0 in
theorem C_39 {X : mm_X} {d : Nat} {M : mm_M} {Q : Option Value → mm_M → Prop} {p : Nat} {f : Int32} {l : Int32} (hX : g_X X) (hd : 1 ≤ d) (hG : g_G M) (hp : p = 49 ∨ p = 58) (h : ∀ (r : Int32) (M1 : mm_M), g_G M1 → FR md_t M M1 → (0 ≤ r.toInt) → (r.toInt ≤ 1) → (r.toInt = 1 → (M1.2.1 1 10).toInt = (M.2.1 1 10).toInt ∧ (M1.2.1 1 11).toInt = (M.2.1 1 11).toInt) → Q (some (.int r)) M1) : mm_T X d 39 0 [.ref p, .ref 1, .int f, .int l] [] M Q := by
  have F0 : FR md_t M M := FR.rf
  refine to_an (pc := 0) rw_39_0 rfl (s_gJ (pc := 1) rw_39_1 hG (by rcases hp with rfl | rfl <;> rfl) (fun l1 => to_in (pc := 4) rw_39_4 rfl (to_in (pc := 5) rw_39_5 rfl (s_s (pc := 6) rw_39_6 (dp0 hd (by decide)) (ls0 := [.int f, .int l]) rfl (Nat.le_of_ble_eq_true rfl) (Nat.le_of_ble_eq_true rfl) rfl (to_rcs rfl rfl) rfl (s_cl (pc := 0) rw_144_0 rfl (fun l2 => to_in (pc := 1) rw_144_1 rfl (to_in (pc := 2) rw_144_2 rfl (s_any (pc := 3) rw_144_3 (fun _ _ => rfl) (fun v3 => to_c (pc := 4) rw_144_4 (x := (1 : Int32)) rfl rfl (s_any (pc := 5) rw_144_5 (fun _ _ => rfl) (fun v4 => s_anyS (pc := 6) rw_144_6 (fun _ _ => rfl) (fun l5 => ?_))))))))))))
  refine s_cl (pc := 7) rw_144_7 rfl (fun l6 => s_anyL (pc := 8) rw_144_8 (fun _ _ => rfl) (fun l7 => to_in (pc := 9) rw_144_9 rfl (s_anyS (pc := 10) rw_144_10 (fun _ _ => rfl) (fun l8 => to_rl (pc := 11) rw_144_11 (s_anyL (pc := 9) rw_39_9 (fun _ _ => rfl) (fun l9 => s_cl (pc := 10) rw_39_10 rfl (fun l10 => s_lcmp (pc := 11) rw_39_11 (fun v11 => b_ieq (pc := 12) rw_39_12 (A := v11.toInt) rfl (fun h12 => ?_) (fun h12 => ?_)))))))))
  · refine to_c (pc := 23) rw_39_23 (x := (1 : Int32)) rfl rfl (to_go (pc := 24) rw_39_24 (s_r1 (pc := 28) rw_39_28 (A := 1) rfl (by decide) ?_))
    have k_13 : (1 : Int32).toInt = 1 := rfl
    exact h (1 : Int32) M hG F0 (by decide) (by decide) (by omega)
  · refine to_an (pc := 15) rw_39_15 rfl (to_c (pc := 16) rw_39_16 (x := (3 : Int32)) rfl rfl (s_v (pc := 17) rw_39_17 (dp0 hd (by decide)) (ls0 := [.ref 1, .int (3 : Int32)]) rfl (Nat.le_of_ble_eq_true rfl) (Nat.le_of_ble_eq_true rfl) rfl (to_rc rfl rfl rfl (g_o hG rfl)) rfl (to_an (pc := 0) rw_84_0 rfl (to_in (pc := 1) rw_84_1 rfl (s_pI (pc := 2) rw_84_2 hG rfl (fun M15 W14 => ?_))))))
    have hG16 := g_wf hG W14 rfl rfl (by decide)
    have F17 := FR.w F0 W14 (show 1 = 1 ∧ 5 ≤ 10 ∨ 3 ≤ 1 ∧ 1 ≤ 5 by decide)
    refine to_an (pc := 5) rw_84_5 rfl (to_an (pc := 6) rw_84_6 rfl ?_)
    have c_18 : M15.2.1 1 9 = (M.2.1 1 9) := (W_n W14 (by decide) rfl)
    refine tt_gI (pc := 7) rw_84_7 (g_o hG16 rfl) (v := (M.2.1 1 9)) c_18 (s_pI (pc := 10) rw_84_10 hG16 rfl (fun M20 W19 => ?_))
    have hG21 := g_wf hG16 W19 rfl rfl (by decide)
    have F22 := FR.w F17 W19 (show 1 = 1 ∧ 5 ≤ 11 ∨ 3 ≤ 1 ∧ 1 ≤ 5 by decide)
    refine to_c (pc := 13) rw_84_13 (x := (0 : Int32)) rfl rfl (s_r1 (pc := 14) rw_84_14 (A := 0) rfl (by decide) (b_ieq_t (pc := 20) rw_39_20 (A := 0) rfl (by decide) (to_c (pc := 27) rw_39_27 (x := (0 : Int32)) rfl rfl (s_r1 (pc := 28) rw_39_28 (A := 0) rfl (by decide) ?_))))
    have k_23 : (0 : Int32).toInt = 0 := rfl
    have c_24 : M20.2.1 1 10 = (3 : Int32) := (W_n W19 (by decide) (W_e W14))
    have k_25 : (3 : Int32).toInt = 3 := rfl
    have t_26 : (M20.2.1 1 10).toInt = (3 : Int32).toInt := congrArg Int32.toInt c_24
    have c_27 : M20.2.1 1 11 = (M.2.1 1 9) := (W_e W19)
    have t_28 : (M20.2.1 1 11).toInt = (M.2.1 1 9).toInt := congrArg Int32.toInt c_27
    exact h (0 : Int32) M20 hG21 F22 (by decide) (by decide) (by omega)
set_option maxRecDepth 4000 in
set_option maxHeartbeats 0 in
theorem C_40 {X : mm_X} {d : Nat} {M : mm_M} {Q : Option Value → mm_M → Prop} {p : Nat} {f : Int32} {l : Int32} {c : Int32} (hX : g_X X) (hd : 0 ≤ d) (hG : g_G M) (hp : p = 49 ∨ p = 58) (q1 : 0 ≤ f.toInt) (q2 : f.toInt ≤ 59) (q3 : 0 ≤ l.toInt) (q4 : l.toInt ≤ 63) (q5 : 0 ≤ c.toInt) (q6 : c.toInt ≤ 24) (q7 : f.toInt ≤ l.toInt) (q8 : (M.2.1 p 2).toInt ≤ 7) (q9 : PI M) (h : ∀ (M1 : mm_M), g_G M1 → FR md_pr M M1 → PI M1 → ((M1.2.1 1 10).toInt = (M.2.1 1 10).toInt ∧ (M1.2.1 1 11).toInt = (M.2.1 1 11).toInt) → Q (none) M1) : mm_T X d 40 0 [.ref p, .int f, .int l, .int c] [] M Q := by
  have F0 : FR md_pr M M := FR.rf
  have b_1 := g_b hG (a := p) (i := 2) (lo := 0) (hi := 8) (by rcases hp with rfl | rfl <;> rfl) (by rcases hp with rfl | rfl <;> rfl)
  refine to_an (pc := 0) rw_40_0 rfl (s_gR (pc := 1) rw_40_1 hG (by rcases hp with rfl | rfl <;> rfl) (v := (p + 3)) (by rcases hp with rfl | rfl <;> rfl) (to_an (pc := 4) rw_40_4 rfl (tt_gI (pc := 5) rw_40_5 (g_o hG (by rcases hp with rfl | rfl <;> rfl)) (v := (M.2.1 p 2)) rfl (to_in (pc := 8) rw_40_8 rfl (s_ias (pc := 9) rw_40_9 hG (by rcases hp with rfl | rfl <;> rfl) (n := 8) (by rcases hp with rfl | rfl <;> rfl) (A := (M.2.1 p 2).toInt) rfl (by omega) (by omega) (fun M3 W2 => ?_))))))
  have hG4 := g_w hG W2 (A := f.toInt) rfl (lo := 0) (hi := 59) (by rcases hp with rfl | rfl <;> rfl) (by rcases hp with rfl | rfl <;> rfl) (by omega) (by omega)
  have F5 := FR.w F0 W2 (show (p + 3) = 1 ∧ 5 ≤ ((M.2.1 p 2).toInt).toNat ∨ 3 ≤ (p + 3) ∧ (p + 3) ≤ 5 ∨ 50 ≤ (p + 3) ∧ (p + 3) ≤ 57 ∨ 59 ≤ (p + 3) ∧ (p + 3) ≤ 66 by omega)
  refine to_an (pc := 10) rw_40_10 rfl (s_gR (pc := 11) rw_40_11 hG4 (by rcases hp with rfl | rfl <;> rfl) (v := (p + 4)) (by rcases hp with rfl | rfl <;> rfl) (to_an (pc := 14) rw_40_14 rfl ?_))
  have c_6 : M3.2.1 p 2 = (M.2.1 p 2) := (W_n W2 (by omega) rfl)
  refine tt_gI (pc := 15) rw_40_15 (g_o hG4 (by rcases hp with rfl | rfl <;> rfl)) (v := (M.2.1 p 2)) c_6 (to_in (pc := 18) rw_40_18 rfl (s_ias (pc := 19) rw_40_19 hG4 (by rcases hp with rfl | rfl <;> rfl) (n := 8) (by rcases hp with rfl | rfl <;> rfl) (A := (M.2.1 p 2).toInt) rfl (by omega) (by omega) (fun M8 W7 => ?_)))
  have hG9 := g_w hG4 W7 (A := l.toInt) rfl (lo := 0) (hi := 63) (by rcases hp with rfl | rfl <;> rfl) (by rcases hp with rfl | rfl <;> rfl) (by omega) (by omega)
  have F10 := FR.w F5 W7 (show (p + 4) = 1 ∧ 5 ≤ ((M.2.1 p 2).toInt).toNat ∨ 3 ≤ (p + 4) ∧ (p + 4) ≤ 5 ∨ 50 ≤ (p + 4) ∧ (p + 4) ≤ 57 ∨ 59 ≤ (p + 4) ∧ (p + 4) ≤ 66 by omega)
  have j_11 := PI_k q9 hp W2 W7 (by omega)
  refine to_an (pc := 20) rw_40_20 rfl (s_gR (pc := 21) rw_40_21 hG9 (by rcases hp with rfl | rfl <;> rfl) (v := (p + 5)) (by rcases hp with rfl | rfl <;> rfl) (to_an (pc := 24) rw_40_24 rfl ?_))
  have c_12 : M8.2.1 p 2 = (M.2.1 p 2) := (W_n W7 (by omega) c_6)
  refine tt_gI (pc := 25) rw_40_25 (g_o hG9 (by rcases hp with rfl | rfl <;> rfl)) (v := (M.2.1 p 2)) c_12 (to_in (pc := 28) rw_40_28 rfl (s_ias (pc := 29) rw_40_29 hG9 (by rcases hp with rfl | rfl <;> rfl) (n := 8) (by rcases hp with rfl | rfl <;> rfl) (A := (M.2.1 p 2).toInt) rfl (by omega) (by omega) (fun M14 W13 => ?_)))
  have hG15 := g_w hG9 W13 (A := c.toInt) rfl (lo := 0) (hi := 24) (by rcases hp with rfl | rfl <;> rfl) (by rcases hp with rfl | rfl <;> rfl) (by omega) (by omega)
  have F16 := FR.w F10 W13 (show (p + 5) = 1 ∧ 5 ≤ ((M.2.1 p 2).toInt).toNat ∨ 3 ≤ (p + 5) ∧ (p + 5) ≤ 5 ∨ 50 ≤ (p + 5) ∧ (p + 5) ≤ 57 ∨ 59 ≤ (p + 5) ∧ (p + 5) ≤ 66 by omega)
  refine to_rv (pc := 30) rw_40_30 ?_
  have j_17 := (PI_f (fun a i z => W_n W13 (by omega) rfl) j_11)
  have c_18 : M14.2.1 1 10 = (M.2.1 1 10) := (W_n W13 (by omega) (W_n W7 (by omega) (W_n W2 (by omega) rfl)))
  have t_19 : (M14.2.1 1 10).toInt = (M.2.1 1 10).toInt := congrArg Int32.toInt c_18
  have c_20 : M14.2.1 1 11 = (M.2.1 1 11) := (W_n W13 (by omega) (W_n W7 (by omega) (W_n W2 (by omega) rfl)))
  have t_21 : (M14.2.1 1 11).toInt = (M.2.1 1 11).toInt := congrArg Int32.toInt c_20
  exact h M14 hG15 F16 j_17 (by omega)
set_option maxRecDepth 4000 in
set_option maxHeartbeats 0 in
theorem C_36 {X : mm_X} {d : Nat} {M : mm_M} {Q : Option Value → mm_M → Prop} {p : Nat} {w : Int32} (hX : g_X X) (hd : 2 ≤ d) (hG : g_G M) (hp : p = 49 ∨ p = 58) (q1 : 1 ≤ w.toInt) (q2 : w.toInt ≤ 2) (q3 : (M.2.1 p 2).toInt ≤ 7) (q4 : PI M) (h : ∀ (r : Int32) (M1 : mm_M), g_G M1 → FR md_pr M M1 → (0 ≤ r.toInt) → (r.toInt ≤ 1) → PI M1 → (r.toInt = 1 → (M1.2.1 1 10).toInt = (M.2.1 1 10).toInt ∧ (M1.2.1 1 11).toInt = (M.2.1 1 11).toInt) → Q (some (.int r)) M1) : mm_T X d 36 0 [.ref p, .ref 1, .int w, .null, .null, .null] [] M Q := by
  have F0 : FR md_pr M M := FR.rf
  have b_1 := g_b hG (a := p) (i := 2) (lo := 0) (hi := 8) (by rcases hp with rfl | rfl <;> rfl) (by rcases hp with rfl | rfl <;> rfl)
  refine to_an (pc := 0) rw_36_0 rfl (tt_gI (pc := 1) rw_36_1 (g_o hG rfl) (v := (M.2.1 1 8)) rfl (to_isn (pc := 4) rw_36_4 (ls2 := [.ref p, .ref 1, .int w, .int (M.2.1 1 8), .null, .null]) rfl rfl (to_an (pc := 5) rw_36_5 rfl (to_c (pc := 6) rw_36_6 (x := (0 : Int32)) rfl rfl (to_an (pc := 7) rw_36_7 rfl ?_)))))
  have b_2 := g_b hG (a := p) (i := 0) (lo := 10) (hi := 60) (by rcases hp with rfl | rfl <;> rfl) (by rcases hp with rfl | rfl <;> rfl)
  refine tt_gI (pc := 8) rw_36_8 (g_o hG (by rcases hp with rfl | rfl <;> rfl)) (v := (M.2.1 p 0)) rfl (to_c (pc := 11) rw_36_11 (x := (1 : Int32)) rfl rfl (s_sub (pc := 12) rw_36_12 (A := (M.2.1 p 0).toInt) (B := 1) rfl rfl (by omega) (fun v3 e4 => s_v (pc := 13) rw_36_13 (dp0 hd (by decide)) (ls0 := [.ref 1, .int (0 : Int32), .int v3]) rfl (Nat.le_of_ble_eq_true rfl) (Nat.le_of_ble_eq_true rfl) rfl (to_rc rfl rfl rfl (g_o hG rfl)) rfl (to_an (pc := 0) rw_88_0 rfl (tt_gI (pc := 1) rw_88_1 (g_o hG rfl) (v := (M.2.1 1 7)) rfl (to_c (pc := 4) rw_88_4 (x := (2 : Int32)) rfl rfl (b_ceq (pc := 5) rw_88_5 (A := (M.2.1 1 7).toInt) (B := 2) rfl rfl (fun h5 => ?_) (fun h5 => ?_))))))))
  · refine to_an (pc := 14) rw_88_14 rfl (tt_gI (pc := 15) rw_88_15 (g_o hG rfl) (v := (M.2.1 1 8)) rfl (to_in (pc := 18) rw_88_18 rfl (b_clt (pc := 19) rw_88_19 (A := (M.2.1 1 8).toInt) (B := 0) rfl rfl (fun h6 => ?_) (fun h6 => ?_))))
    · refine to_an (pc := 30) rw_88_30 rfl (to_c (pc := 31) rw_88_31 (x := (2 : Int32)) rfl rfl (s_v (pc := 32) rw_88_32 (dp1 hd (by decide)) (ls0 := [.ref 1, .int (2 : Int32)]) rfl (Nat.le_of_ble_eq_true rfl) (Nat.le_of_ble_eq_true rfl) rfl (to_rc rfl rfl rfl (g_o hG rfl)) rfl (to_an (pc := 0) rw_84_0 rfl (to_in (pc := 1) rw_84_1 rfl (s_pI (pc := 2) rw_84_2 hG rfl (fun M8 W7 => ?_))))))
      have hG9 := g_wf hG W7 rfl rfl (by decide)
      have F10 := FR.w F0 W7 (show 1 = 1 ∧ 5 ≤ 10 ∨ 3 ≤ 1 ∧ 1 ≤ 5 ∨ 50 ≤ 1 ∧ 1 ≤ 57 ∨ 59 ≤ 1 ∧ 1 ≤ 66 by decide)
      refine to_an (pc := 5) rw_84_5 rfl (to_an (pc := 6) rw_84_6 rfl ?_)
      have c_11 : M8.2.1 1 9 = (M.2.1 1 9) := (W_n W7 (by decide) rfl)
      refine tt_gI (pc := 7) rw_84_7 (g_o hG9 rfl) (v := (M.2.1 1 9)) c_11 (s_pI (pc := 10) rw_84_10 hG9 rfl (fun M13 W12 => ?_))
      have hG14 := g_wf hG9 W12 rfl rfl (by decide)
      have F15 := FR.w F10 W12 (show 1 = 1 ∧ 5 ≤ 11 ∨ 3 ≤ 1 ∧ 1 ≤ 5 ∨ 50 ≤ 1 ∧ 1 ≤ 57 ∨ 59 ≤ 1 ∧ 1 ≤ 66 by decide)
      refine to_c (pc := 13) rw_84_13 (x := (0 : Int32)) rfl rfl (s_r1 (pc := 14) rw_84_14 (A := 0) rfl (by decide) (b_ieq_t (pc := 35) rw_88_35 (A := 0) rfl (by decide) (to_c (pc := 42) rw_88_42 (x := (0 : Int32)) rfl rfl (s_r1 (pc := 43) rw_88_43 (A := 0) rfl (by decide) (b_ieq_t (pc := 16) rw_36_16 (A := 0) rfl (by decide) (to_c (pc := 29) rw_36_29 (x := (0 : Int32)) rfl rfl (s_r1 (pc := 30) rw_36_30 (A := 0) rfl (by decide) ?_)))))))
      have k_16 : (0 : Int32).toInt = 0 := rfl
      have j_17 := (PI_f (fun a i z => W_n W12 (by /-r1,11-/ omega) rfl) (PI_f (fun a i z => W_n W7 (by /-r1,10-/ omega) rfl) q4))
      have c_18 : M13.2.1 1 10 = (2 : Int32) := (W_n W12 (by decide) (W_e W7))
      have k_19 : (2 : Int32).toInt = 2 := rfl
      have t_20 : (M13.2.1 1 10).toInt = (2 : Int32).toInt := congrArg Int32.toInt c_18
      have c_21 : M13.2.1 1 11 = (M.2.1 1 9) := (W_e W12)
      have t_22 : (M13.2.1 1 11).toInt = (M.2.1 1 9).toInt := congrArg Int32.toInt c_21
      exact h (0 : Int32) M13 hG14 F15 (by decide) (by decide) j_17 (by omega)
    · refine to_an (pc := 22) rw_88_22 rfl (tt_gI (pc := 23) rw_88_23 (g_o hG rfl) (v := (M.2.1 1 8)) rfl (to_in (pc := 26) rw_88_26 rfl (b_cle (pc := 27) rw_88_27 (A := (M.2.1 1 8).toInt) (B := v3.toInt) rfl rfl (fun h23 => ?_) (fun h23 => ?_))))
      · refine to_c (pc := 38) rw_88_38 (x := (1 : Int32)) rfl rfl (to_go (pc := 39) rw_88_39 (s_r1 (pc := 43) rw_88_43 (A := 1) rfl (by decide) (b_ieq_f (pc := 16) rw_36_16 (A := 1) rfl (by decide) (to_an (pc := 19) rw_36_19 rfl (to_an (pc := 20) rw_36_20 rfl (to_in (pc := 21) rw_36_21 rfl (to_in (pc := 22) rw_36_22 rfl (s_v (pc := 23) rw_36_23 (dp0 hd (by decide)) (ls0 := [.ref p, .ref 1, .int (M.2.1 1 8), .int (M.2.1 1 8)]) rfl (Nat.le_of_ble_eq_true rfl) (Nat.le_of_ble_eq_true rfl) rfl (to_rc rfl rfl rfl (g_o hG (by rcases hp with rfl | rfl <;> rfl))) rfl (C_39 hX (dp1 hd (by decide)) hG hp (p := p) (f := (M.2.1 1 8)) (l := (M.2.1 1 8)) (fun r24 M30 hG26 F25 p_27 p_28 p_29 => ?_))))))))))
        have F31 := FR.c F0 F25 tg_210
        refine b_ine (pc := 26) rw_36_26 (A := r24.toInt) rfl (fun h32 => ?_) (fun h32 => ?_)
        · refine to_an (pc := 31) rw_36_31 rfl (s_v (pc := 32) rw_36_32 (dp0 hd (by decide)) (ls0 := [.ref 1]) rfl (Nat.le_of_ble_eq_true rfl) (Nat.le_of_ble_eq_true rfl) rfl (to_rc rfl rfl rfl (g_o hG26 rfl)) rfl (C_83 hX (dp1 hd (by decide)) hG26  (fun M36 hG34 F33 p_35 => ?_)))
          have F37 := FR.c F31 F33 tg_210
          refine to_an (pc := 35) rw_36_35 rfl (tt_gI (pc := 36) rw_36_36 (g_o hG34 rfl) (v := (M36.2.1 1 8)) rfl (to_is (pc := 39) rw_36_39 (ls2 := [.ref p, .ref 1, .int w, .int (M.2.1 1 8), .int (M36.2.1 1 8), .null]) rfl rfl (to_an (pc := 41) rw_36_41 rfl ?_)))
          have c_38 : M36.2.1 p 0 = (M.2.1 p 0) := (F_n F33 (show ¬ (p = 1 ∧ 5 ≤ 0 ∨ 3 ≤ p ∧ p ≤ 5) by omega) (F_n F25 (show ¬ (p = 1 ∧ 5 ≤ 0 ∨ 3 ≤ p ∧ p ≤ 5) by omega) rfl))
          refine tt_gI (pc := 42) rw_36_42 (g_o hG34 (by rcases hp with rfl | rfl <;> rfl)) (v := (M.2.1 p 0)) c_38 (to_c (pc := 45) rw_36_45 (x := (1 : Int32)) rfl rfl (s_sub (pc := 46) rw_36_46 (A := (M.2.1 p 0).toInt) (B := 1) rfl rfl (by omega) (fun v39 e40 => to_in (pc := 47) rw_36_47 rfl (to_c (pc := 48) rw_36_48 (x := (24 : Int32)) rfl rfl (s_add (pc := 50) rw_36_50 (A := (M.2.1 1 8).toInt) (B := 24) rfl rfl (by omega) (fun v41 e42 => to_c (pc := 51) rw_36_51 (x := (1 : Int32)) rfl rfl (s_sub (pc := 52) rw_36_52 (A := v41.toInt) (B := 1) rfl rfl (by omega) (fun v43 e44 => s_min (pc := 53) rw_36_53 rfl (A := v39.toInt) (B := v43.toInt) rfl rfl (fun v45 _ _ _ => to_is (pc := 56) rw_36_56 (ls2 := [.ref p, .ref 1, .int w, .int (M.2.1 1 8), .int (M36.2.1 1 8), .int v45]) rfl rfl (to_an (pc := 58) rw_36_58 rfl (to_in (pc := 59) rw_36_59 rfl ?_)))))))))))
          refine to_in (pc := 60) rw_36_60 rfl (s_add (pc := 61) rw_36_61 (A := (M.2.1 1 8).toInt) (B := w.toInt) rfl rfl (by omega) (fun v46 e47 => to_c (pc := 62) rw_36_62 (x := (1 : Int32)) rfl rfl (s_sub (pc := 63) rw_36_63 (A := v46.toInt) (B := 1) rfl rfl (by omega) (fun v48 e49 => to_i (pc := 64) rw_36_64 rfl (s_v (pc := 66) rw_36_66 (dp0 hd (by decide)) (ls0 := [.ref 1, .int v48, .int v45]) rfl (Nat.le_of_ble_eq_true rfl) (Nat.le_of_ble_eq_true rfl) rfl (to_rc rfl rfl rfl (g_o hG34 rfl)) rfl (to_an (pc := 0) rw_88_0 rfl (tt_gI (pc := 1) rw_88_1 (g_o hG34 rfl) (v := (M36.2.1 1 7)) rfl (to_c (pc := 4) rw_88_4 (x := (2 : Int32)) rfl rfl (b_ceq (pc := 5) rw_88_5 (A := (M36.2.1 1 7).toInt) (B := 2) rfl rfl (fun h50 => ?_) (fun h50 => ?_))))))))))
          · refine to_an (pc := 14) rw_88_14 rfl (tt_gI (pc := 15) rw_88_15 (g_o hG34 rfl) (v := (M36.2.1 1 8)) rfl (to_in (pc := 18) rw_88_18 rfl (b_clt (pc := 19) rw_88_19 (A := (M36.2.1 1 8).toInt) (B := v48.toInt) rfl rfl (fun h51 => ?_) (fun h51 => ?_))))
            · refine to_an (pc := 30) rw_88_30 rfl (to_c (pc := 31) rw_88_31 (x := (2 : Int32)) rfl rfl (s_v (pc := 32) rw_88_32 (dp1 hd (by decide)) (ls0 := [.ref 1, .int (2 : Int32)]) rfl (Nat.le_of_ble_eq_true rfl) (Nat.le_of_ble_eq_true rfl) rfl (to_rc rfl rfl rfl (g_o hG34 rfl)) rfl (to_an (pc := 0) rw_84_0 rfl (to_in (pc := 1) rw_84_1 rfl (s_pI (pc := 2) rw_84_2 hG34 rfl (fun M53 W52 => ?_))))))
              have hG54 := g_wf hG34 W52 rfl rfl (by decide)
              have F55 := FR.w F37 W52 (show 1 = 1 ∧ 5 ≤ 10 ∨ 3 ≤ 1 ∧ 1 ≤ 5 ∨ 50 ≤ 1 ∧ 1 ≤ 57 ∨ 59 ≤ 1 ∧ 1 ≤ 66 by decide)
              refine to_an (pc := 5) rw_84_5 rfl (to_an (pc := 6) rw_84_6 rfl ?_)
              have c_56 : M53.2.1 1 9 = (M36.2.1 1 9) := (W_n W52 (by decide) rfl)
              refine tt_gI (pc := 7) rw_84_7 (g_o hG54 rfl) (v := (M36.2.1 1 9)) c_56 (s_pI (pc := 10) rw_84_10 hG54 rfl (fun M58 W57 => ?_))
              have hG59 := g_wf hG54 W57 rfl rfl (by decide)
              have F60 := FR.w F55 W57 (show 1 = 1 ∧ 5 ≤ 11 ∨ 3 ≤ 1 ∧ 1 ≤ 5 ∨ 50 ≤ 1 ∧ 1 ≤ 57 ∨ 59 ≤ 1 ∧ 1 ≤ 66 by decide)
              refine to_c (pc := 13) rw_84_13 (x := (0 : Int32)) rfl rfl (s_r1 (pc := 14) rw_84_14 (A := 0) rfl (by decide) (b_ieq_t (pc := 35) rw_88_35 (A := 0) rfl (by decide) (to_c (pc := 42) rw_88_42 (x := (0 : Int32)) rfl rfl (s_r1 (pc := 43) rw_88_43 (A := 0) rfl (by decide) (b_ieq_t (pc := 69) rw_36_69 (A := 0) rfl (by decide) (to_c (pc := 83) rw_36_83 (x := (0 : Int32)) rfl rfl (s_r1 (pc := 84) rw_36_84 (A := 0) rfl (by decide) ?_)))))))
              have k_61 : (0 : Int32).toInt = 0 := rfl
              have j_62 := (PI_f (fun a i z => W_n W57 (by /-r1,11-/ omega) rfl) (PI_f (fun a i z => W_n W52 (by /-r1,10-/ omega) rfl) (PI_f (tg_208 F33) (PI_f (tg_208 F25) q4))))
              have c_63 : M58.2.1 1 10 = (2 : Int32) := (W_n W57 (by decide) (W_e W52))
              have k_64 : (2 : Int32).toInt = 2 := rfl
              have t_65 : (M58.2.1 1 10).toInt = (2 : Int32).toInt := congrArg Int32.toInt c_63
              have c_66 : M58.2.1 1 11 = (M36.2.1 1 9) := (W_e W57)
              have t_67 : (M58.2.1 1 11).toInt = (M36.2.1 1 9).toInt := congrArg Int32.toInt c_66
              exact h (0 : Int32) M58 hG59 F60 (by decide) (by decide) j_62 (by omega)
            · refine to_an (pc := 22) rw_88_22 rfl (tt_gI (pc := 23) rw_88_23 (g_o hG34 rfl) (v := (M36.2.1 1 8)) rfl (to_in (pc := 26) rw_88_26 rfl (b_cle (pc := 27) rw_88_27 (A := (M36.2.1 1 8).toInt) (B := v45.toInt) rfl rfl (fun h68 => ?_) (fun h68 => ?_))))
              · refine to_c (pc := 38) rw_88_38 (x := (1 : Int32)) rfl rfl (to_go (pc := 39) rw_88_39 (s_r1 (pc := 43) rw_88_43 (A := 1) rfl (by decide) (b_ieq_f (pc := 69) rw_36_69 (A := 1) rfl (by decide) (to_an (pc := 72) rw_36_72 rfl (to_an (pc := 73) rw_36_73 rfl (to_in (pc := 74) rw_36_74 rfl (to_i (pc := 75) rw_36_75 rfl (s_v (pc := 77) rw_36_77 (dp0 hd (by decide)) (ls0 := [.ref p, .ref 1, .int (M.2.1 1 8), .int (M36.2.1 1 8)]) rfl (Nat.le_of_ble_eq_true rfl) (Nat.le_of_ble_eq_true rfl) rfl (to_rc rfl rfl rfl (g_o hG34 (by rcases hp with rfl | rfl <;> rfl))) rfl (C_39 hX (dp1 hd (by decide)) hG34 hp (p := p) (f := (M.2.1 1 8)) (l := (M36.2.1 1 8)) (fun r69 M75 hG71 F70 p_72 p_73 p_74 => ?_))))))))))
                have F76 := FR.c F37 F70 tg_210
                refine b_ine (pc := 80) rw_36_80 (A := r69.toInt) rfl (fun h77 => ?_) (fun h77 => ?_)
                · refine to_an (pc := 85) rw_36_85 rfl (s_v (pc := 86) rw_36_86 (dp0 hd (by decide)) (ls0 := [.ref 1]) rfl (Nat.le_of_ble_eq_true rfl) (Nat.le_of_ble_eq_true rfl) rfl (to_rc rfl rfl rfl (g_o hG71 rfl)) rfl (C_83 hX (dp1 hd (by decide)) hG71  (fun M81 hG79 F78 p_80 => ?_)))
                  have F82 := FR.c F76 F78 tg_210
                  refine to_an (pc := 89) rw_36_89 rfl (to_in (pc := 90) rw_36_90 rfl (to_i (pc := 91) rw_36_91 rfl (to_i (pc := 93) rw_36_93 rfl (to_in (pc := 95) rw_36_95 rfl (s_sub (pc := 96) rw_36_96 (A := (M36.2.1 1 8).toInt) (B := (M.2.1 1 8).toInt) rfl rfl (by omega) (fun v83 e84 => to_c (pc := 97) rw_36_97 (x := (1 : Int32)) rfl rfl (s_add (pc := 98) rw_36_98 (A := v83.toInt) (B := 1) rfl rfl (by omega) (fun v85 e86 => s_v (pc := 99) rw_36_99 (dp0 hd (by decide)) (ls0 := [.ref p, .int (M.2.1 1 8), .int (M36.2.1 1 8), .int v85]) rfl (Nat.le_of_ble_eq_true rfl) (Nat.le_of_ble_eq_true rfl) rfl (to_rc rfl rfl rfl (g_o hG79 (by rcases hp with rfl | rfl <;> rfl))) rfl ?_))))))))
                  have c_87 : M81.2.1 p 2 = (M.2.1 p 2) := (F_n F78 (show ¬ (p = 1 ∧ 5 ≤ 2 ∨ 3 ≤ p ∧ p ≤ 5) by omega) (F_n F70 (show ¬ (p = 1 ∧ 5 ≤ 2 ∨ 3 ≤ p ∧ p ≤ 5) by omega) (F_n F33 (show ¬ (p = 1 ∧ 5 ≤ 2 ∨ 3 ≤ p ∧ p ≤ 5) by omega) (F_n F25 (show ¬ (p = 1 ∧ 5 ≤ 2 ∨ 3 ≤ p ∧ p ≤ 5) by omega) rfl))))
                  have t_88 : (M81.2.1 p 2).toInt = (M.2.1 p 2).toInt := congrArg Int32.toInt c_87
                  have j_89 := (PI_f (tg_208 F78) (PI_f (tg_208 F70) (PI_f (tg_208 F33) (PI_f (tg_208 F25) q4))))
                  refine C_40 hX (dp1 hd (by decide)) hG79 hp (by omega) (by omega) (by omega) (by omega) (by omega) (by omega) (by omega) (by omega) j_89 (p := p) (f := (M.2.1 1 8)) (l := (M36.2.1 1 8)) (c := v85) (fun M94 hG91 F90 p_92 p_93 => ?_)
                  have F95 := FR.c F82 F90 tg_211
                  refine to_c (pc := 102) rw_36_102 (x := (1 : Int32)) rfl rfl (s_r1 (pc := 103) rw_36_103 (A := 1) rfl (by decide) ?_)
                  have k_96 : (1 : Int32).toInt = 1 := rfl
                  exact h (1 : Int32) M94 hG91 F95 (by decide) (by decide) p_92 (by omega)
                · refine to_c (pc := 83) rw_36_83 (x := (0 : Int32)) rfl rfl (s_r1 (pc := 84) rw_36_84 (A := 0) rfl (by decide) ?_)
                  have k_97 : (0 : Int32).toInt = 0 := rfl
                  have j_98 := (PI_f (tg_208 F70) (PI_f (tg_208 F33) (PI_f (tg_208 F25) q4)))
                  exact h (0 : Int32) M75 hG71 F76 (by decide) (by decide) j_98 (by omega)
              · refine to_an (pc := 30) rw_88_30 rfl (to_c (pc := 31) rw_88_31 (x := (2 : Int32)) rfl rfl (s_v (pc := 32) rw_88_32 (dp1 hd (by decide)) (ls0 := [.ref 1, .int (2 : Int32)]) rfl (Nat.le_of_ble_eq_true rfl) (Nat.le_of_ble_eq_true rfl) rfl (to_rc rfl rfl rfl (g_o hG34 rfl)) rfl (to_an (pc := 0) rw_84_0 rfl (to_in (pc := 1) rw_84_1 rfl (s_pI (pc := 2) rw_84_2 hG34 rfl (fun M100 W99 => ?_))))))
                have hG101 := g_wf hG34 W99 rfl rfl (by decide)
                have F102 := FR.w F37 W99 (show 1 = 1 ∧ 5 ≤ 10 ∨ 3 ≤ 1 ∧ 1 ≤ 5 ∨ 50 ≤ 1 ∧ 1 ≤ 57 ∨ 59 ≤ 1 ∧ 1 ≤ 66 by decide)
                refine to_an (pc := 5) rw_84_5 rfl (to_an (pc := 6) rw_84_6 rfl ?_)
                have c_103 : M100.2.1 1 9 = (M36.2.1 1 9) := (W_n W99 (by decide) rfl)
                refine tt_gI (pc := 7) rw_84_7 (g_o hG101 rfl) (v := (M36.2.1 1 9)) c_103 (s_pI (pc := 10) rw_84_10 hG101 rfl (fun M105 W104 => ?_))
                have hG106 := g_wf hG101 W104 rfl rfl (by decide)
                have F107 := FR.w F102 W104 (show 1 = 1 ∧ 5 ≤ 11 ∨ 3 ≤ 1 ∧ 1 ≤ 5 ∨ 50 ≤ 1 ∧ 1 ≤ 57 ∨ 59 ≤ 1 ∧ 1 ≤ 66 by decide)
                refine to_c (pc := 13) rw_84_13 (x := (0 : Int32)) rfl rfl (s_r1 (pc := 14) rw_84_14 (A := 0) rfl (by decide) (b_ieq_t (pc := 35) rw_88_35 (A := 0) rfl (by decide) (to_c (pc := 42) rw_88_42 (x := (0 : Int32)) rfl rfl (s_r1 (pc := 43) rw_88_43 (A := 0) rfl (by decide) (b_ieq_t (pc := 69) rw_36_69 (A := 0) rfl (by decide) (to_c (pc := 83) rw_36_83 (x := (0 : Int32)) rfl rfl (s_r1 (pc := 84) rw_36_84 (A := 0) rfl (by decide) ?_)))))))
                have k_108 : (0 : Int32).toInt = 0 := rfl
                have j_109 := (PI_f (fun a i z => W_n W104 (by /-r1,11-/ omega) rfl) (PI_f (fun a i z => W_n W99 (by /-r1,10-/ omega) rfl) (PI_f (tg_208 F33) (PI_f (tg_208 F25) q4))))
                have c_110 : M105.2.1 1 10 = (2 : Int32) := (W_n W104 (by decide) (W_e W99))
                have k_111 : (2 : Int32).toInt = 2 := rfl
                have t_112 : (M105.2.1 1 10).toInt = (2 : Int32).toInt := congrArg Int32.toInt c_110
                have c_113 : M105.2.1 1 11 = (M36.2.1 1 9) := (W_e W104)
                have t_114 : (M105.2.1 1 11).toInt = (M36.2.1 1 9).toInt := congrArg Int32.toInt c_113
                exact h (0 : Int32) M105 hG106 F107 (by decide) (by decide) j_109 (by omega)
          · refine to_an (pc := 8) rw_88_8 rfl (to_c (pc := 9) rw_88_9 (x := (1 : Int32)) rfl rfl (s_v (pc := 10) rw_88_10 (dp1 hd (by decide)) (ls0 := [.ref 1, .int (1 : Int32)]) rfl (Nat.le_of_ble_eq_true rfl) (Nat.le_of_ble_eq_true rfl) rfl (to_rc rfl rfl rfl (g_o hG34 rfl)) rfl (to_an (pc := 0) rw_84_0 rfl (to_in (pc := 1) rw_84_1 rfl (s_pI (pc := 2) rw_84_2 hG34 rfl (fun M116 W115 => ?_))))))
            have hG117 := g_wf hG34 W115 rfl rfl (by decide)
            have F118 := FR.w F37 W115 (show 1 = 1 ∧ 5 ≤ 10 ∨ 3 ≤ 1 ∧ 1 ≤ 5 ∨ 50 ≤ 1 ∧ 1 ≤ 57 ∨ 59 ≤ 1 ∧ 1 ≤ 66 by decide)
            refine to_an (pc := 5) rw_84_5 rfl (to_an (pc := 6) rw_84_6 rfl ?_)
            have c_119 : M116.2.1 1 9 = (M36.2.1 1 9) := (W_n W115 (by decide) rfl)
            refine tt_gI (pc := 7) rw_84_7 (g_o hG117 rfl) (v := (M36.2.1 1 9)) c_119 (s_pI (pc := 10) rw_84_10 hG117 rfl (fun M121 W120 => ?_))
            have hG122 := g_wf hG117 W120 rfl rfl (by decide)
            have F123 := FR.w F118 W120 (show 1 = 1 ∧ 5 ≤ 11 ∨ 3 ≤ 1 ∧ 1 ≤ 5 ∨ 50 ≤ 1 ∧ 1 ≤ 57 ∨ 59 ≤ 1 ∧ 1 ≤ 66 by decide)
            refine to_c (pc := 13) rw_84_13 (x := (0 : Int32)) rfl rfl (s_r1 (pc := 14) rw_84_14 (A := 0) rfl (by decide) (s_r1 (pc := 13) rw_88_13 (A := 0) rfl (by decide) (b_ieq_t (pc := 69) rw_36_69 (A := 0) rfl (by decide) (to_c (pc := 83) rw_36_83 (x := (0 : Int32)) rfl rfl (s_r1 (pc := 84) rw_36_84 (A := 0) rfl (by decide) ?_)))))
            have k_124 : (0 : Int32).toInt = 0 := rfl
            have j_125 := (PI_f (fun a i z => W_n W120 (by /-r1,11-/ omega) rfl) (PI_f (fun a i z => W_n W115 (by /-r1,10-/ omega) rfl) (PI_f (tg_208 F33) (PI_f (tg_208 F25) q4))))
            have c_126 : M121.2.1 1 10 = (1 : Int32) := (W_n W120 (by decide) (W_e W115))
            have k_127 : (1 : Int32).toInt = 1 := rfl
            have t_128 : (M121.2.1 1 10).toInt = (1 : Int32).toInt := congrArg Int32.toInt c_126
            have c_129 : M121.2.1 1 11 = (M36.2.1 1 9) := (W_e W120)
            have t_130 : (M121.2.1 1 11).toInt = (M36.2.1 1 9).toInt := congrArg Int32.toInt c_129
            exact h (0 : Int32) M121 hG122 F123 (by decide) (by decide) j_125 (by omega)
        · refine to_c (pc := 29) rw_36_29 (x := (0 : Int32)) rfl rfl (s_r1 (pc := 30) rw_36_30 (A := 0) rfl (by decide) ?_)
          have k_131 : (0 : Int32).toInt = 0 := rfl
          have j_132 := (PI_f (tg_208 F25) q4)
          exact h (0 : Int32) M30 hG26 F31 (by decide) (by decide) j_132 (by omega)
      · refine to_an (pc := 30) rw_88_30 rfl (to_c (pc := 31) rw_88_31 (x := (2 : Int32)) rfl rfl (s_v (pc := 32) rw_88_32 (dp1 hd (by decide)) (ls0 := [.ref 1, .int (2 : Int32)]) rfl (Nat.le_of_ble_eq_true rfl) (Nat.le_of_ble_eq_true rfl) rfl (to_rc rfl rfl rfl (g_o hG rfl)) rfl (to_an (pc := 0) rw_84_0 rfl (to_in (pc := 1) rw_84_1 rfl (s_pI (pc := 2) rw_84_2 hG rfl (fun M134 W133 => ?_))))))
        have hG135 := g_wf hG W133 rfl rfl (by decide)
        have F136 := FR.w F0 W133 (show 1 = 1 ∧ 5 ≤ 10 ∨ 3 ≤ 1 ∧ 1 ≤ 5 ∨ 50 ≤ 1 ∧ 1 ≤ 57 ∨ 59 ≤ 1 ∧ 1 ≤ 66 by decide)
        refine to_an (pc := 5) rw_84_5 rfl (to_an (pc := 6) rw_84_6 rfl ?_)
        have c_137 : M134.2.1 1 9 = (M.2.1 1 9) := (W_n W133 (by decide) rfl)
        refine tt_gI (pc := 7) rw_84_7 (g_o hG135 rfl) (v := (M.2.1 1 9)) c_137 (s_pI (pc := 10) rw_84_10 hG135 rfl (fun M139 W138 => ?_))
        have hG140 := g_wf hG135 W138 rfl rfl (by decide)
        have F141 := FR.w F136 W138 (show 1 = 1 ∧ 5 ≤ 11 ∨ 3 ≤ 1 ∧ 1 ≤ 5 ∨ 50 ≤ 1 ∧ 1 ≤ 57 ∨ 59 ≤ 1 ∧ 1 ≤ 66 by decide)
        refine to_c (pc := 13) rw_84_13 (x := (0 : Int32)) rfl rfl (s_r1 (pc := 14) rw_84_14 (A := 0) rfl (by decide) (b_ieq_t (pc := 35) rw_88_35 (A := 0) rfl (by decide) (to_c (pc := 42) rw_88_42 (x := (0 : Int32)) rfl rfl (s_r1 (pc := 43) rw_88_43 (A := 0) rfl (by decide) (b_ieq_t (pc := 16) rw_36_16 (A := 0) rfl (by decide) (to_c (pc := 29) rw_36_29 (x := (0 : Int32)) rfl rfl (s_r1 (pc := 30) rw_36_30 (A := 0) rfl (by decide) ?_)))))))
        have k_142 : (0 : Int32).toInt = 0 := rfl
        have j_143 := (PI_f (fun a i z => W_n W138 (by /-r1,11-/ omega) rfl) (PI_f (fun a i z => W_n W133 (by /-r1,10-/ omega) rfl) q4))
        have c_144 : M139.2.1 1 10 = (2 : Int32) := (W_n W138 (by decide) (W_e W133))
        have k_145 : (2 : Int32).toInt = 2 := rfl
        have t_146 : (M139.2.1 1 10).toInt = (2 : Int32).toInt := congrArg Int32.toInt c_144
        have c_147 : M139.2.1 1 11 = (M.2.1 1 9) := (W_e W138)
        have t_148 : (M139.2.1 1 11).toInt = (M.2.1 1 9).toInt := congrArg Int32.toInt c_147
        exact h (0 : Int32) M139 hG140 F141 (by decide) (by decide) j_143 (by omega)
  · refine to_an (pc := 8) rw_88_8 rfl (to_c (pc := 9) rw_88_9 (x := (1 : Int32)) rfl rfl (s_v (pc := 10) rw_88_10 (dp1 hd (by decide)) (ls0 := [.ref 1, .int (1 : Int32)]) rfl (Nat.le_of_ble_eq_true rfl) (Nat.le_of_ble_eq_true rfl) rfl (to_rc rfl rfl rfl (g_o hG rfl)) rfl (to_an (pc := 0) rw_84_0 rfl (to_in (pc := 1) rw_84_1 rfl (s_pI (pc := 2) rw_84_2 hG rfl (fun M150 W149 => ?_))))))
    have hG151 := g_wf hG W149 rfl rfl (by decide)
    have F152 := FR.w F0 W149 (show 1 = 1 ∧ 5 ≤ 10 ∨ 3 ≤ 1 ∧ 1 ≤ 5 ∨ 50 ≤ 1 ∧ 1 ≤ 57 ∨ 59 ≤ 1 ∧ 1 ≤ 66 by decide)
    refine to_an (pc := 5) rw_84_5 rfl (to_an (pc := 6) rw_84_6 rfl ?_)
    have c_153 : M150.2.1 1 9 = (M.2.1 1 9) := (W_n W149 (by decide) rfl)
    refine tt_gI (pc := 7) rw_84_7 (g_o hG151 rfl) (v := (M.2.1 1 9)) c_153 (s_pI (pc := 10) rw_84_10 hG151 rfl (fun M155 W154 => ?_))
    have hG156 := g_wf hG151 W154 rfl rfl (by decide)
    have F157 := FR.w F152 W154 (show 1 = 1 ∧ 5 ≤ 11 ∨ 3 ≤ 1 ∧ 1 ≤ 5 ∨ 50 ≤ 1 ∧ 1 ≤ 57 ∨ 59 ≤ 1 ∧ 1 ≤ 66 by decide)
    refine to_c (pc := 13) rw_84_13 (x := (0 : Int32)) rfl rfl (s_r1 (pc := 14) rw_84_14 (A := 0) rfl (by decide) (s_r1 (pc := 13) rw_88_13 (A := 0) rfl (by decide) (b_ieq_t (pc := 16) rw_36_16 (A := 0) rfl (by decide) (to_c (pc := 29) rw_36_29 (x := (0 : Int32)) rfl rfl (s_r1 (pc := 30) rw_36_30 (A := 0) rfl (by decide) ?_)))))
    have k_158 : (0 : Int32).toInt = 0 := rfl
    have j_159 := (PI_f (fun a i z => W_n W154 (by /-r1,11-/ omega) rfl) (PI_f (fun a i z => W_n W149 (by /-r1,10-/ omega) rfl) q4))
    have c_160 : M155.2.1 1 10 = (1 : Int32) := (W_n W154 (by decide) (W_e W149))
    have k_161 : (1 : Int32).toInt = 1 := rfl
    have t_162 : (M155.2.1 1 10).toInt = (1 : Int32).toInt := congrArg Int32.toInt c_160
    have c_163 : M155.2.1 1 11 = (M.2.1 1 9) := (W_e W154)
    have t_164 : (M155.2.1 1 11).toInt = (M.2.1 1 9).toInt := congrArg Int32.toInt c_163
    exact h (0 : Int32) M155 hG156 F157 (by decide) (by decide) j_159 (by omega)
set_option maxRecDepth 4000 in
set_option maxHeartbeats 0 in
theorem C_37 {X : mm_X} {d : Nat} {M : mm_M} {Q : Option Value → mm_M → Prop} {p : Nat} {w : Int32} (hX : g_X X) (hd : 2 ≤ d) (hG : g_G M) (hp : p = 49 ∨ p = 58) (q1 : 4 ≤ w.toInt) (q2 : w.toInt ≤ 5) (q3 : (M.2.1 p 2).toInt ≤ 7) (q4 : PI M) (h : ∀ (r : Int32) (M1 : mm_M), g_G M1 → FR md_pr M M1 → (0 ≤ r.toInt) → (r.toInt ≤ 1) → PI M1 → (r.toInt = 1 → (M1.2.1 1 10).toInt = (M.2.1 1 10).toInt ∧ (M1.2.1 1 11).toInt = (M.2.1 1 11).toInt) → Q (some (.int r)) M1) : mm_T X d 37 0 [.ref p, .ref 1, .int w, .null, .null] [] M Q := by
  have F0 : FR md_pr M M := FR.rf
  have b_1 := g_b hG (a := p) (i := 2) (lo := 0) (hi := 8) (by rcases hp with rfl | rfl <;> rfl) (by rcases hp with rfl | rfl <;> rfl)
  refine to_an (pc := 0) rw_37_0 rfl (tt_gI (pc := 1) rw_37_1 (g_o hG rfl) (v := (M.2.1 1 8)) rfl (to_isn (pc := 4) rw_37_4 (ls2 := [.ref p, .ref 1, .int w, .int (M.2.1 1 8), .null]) rfl rfl (to_in (pc := 5) rw_37_5 rfl (to_in (pc := 6) rw_37_6 rfl (s_addo (pc := 7) rw_37_7 (A := (M.2.1 1 8).toInt) (B := w.toInt) rfl rfl (fun v2 e3 => to_c (pc := 8) rw_37_8 (x := (1 : Int32)) rfl rfl (s_subo (pc := 9) rw_37_9 (A := v2.toInt) (B := 1) rfl rfl (fun v4 e5 => to_is (pc := 10) rw_37_10 (ls2 := [.ref p, .ref 1, .int w, .int (M.2.1 1 8), .int v4]) rfl rfl (to_an (pc := 12) rw_37_12 rfl (to_c (pc := 13) rw_37_13 (x := (0 : Int32)) rfl rfl (to_an (pc := 14) rw_37_14 rfl ?_)))))))))))
  have b_6 := g_b hG (a := p) (i := 0) (lo := 10) (hi := 60) (by rcases hp with rfl | rfl <;> rfl) (by rcases hp with rfl | rfl <;> rfl)
  refine tt_gI (pc := 15) rw_37_15 (g_o hG (by rcases hp with rfl | rfl <;> rfl)) (v := (M.2.1 p 0)) rfl (to_in (pc := 18) rw_37_18 rfl (s_sub (pc := 19) rw_37_19 (A := (M.2.1 p 0).toInt) (B := w.toInt) rfl rfl (by omega) (fun v7 e8 => s_v (pc := 20) rw_37_20 (dp0 hd (by decide)) (ls0 := [.ref 1, .int (0 : Int32), .int v7]) rfl (Nat.le_of_ble_eq_true rfl) (Nat.le_of_ble_eq_true rfl) rfl (to_rc rfl rfl rfl (g_o hG rfl)) rfl (to_an (pc := 0) rw_88_0 rfl (tt_gI (pc := 1) rw_88_1 (g_o hG rfl) (v := (M.2.1 1 7)) rfl (to_c (pc := 4) rw_88_4 (x := (2 : Int32)) rfl rfl (b_ceq (pc := 5) rw_88_5 (A := (M.2.1 1 7).toInt) (B := 2) rfl rfl (fun h9 => ?_) (fun h9 => ?_))))))))
  · refine to_an (pc := 14) rw_88_14 rfl (tt_gI (pc := 15) rw_88_15 (g_o hG rfl) (v := (M.2.1 1 8)) rfl (to_in (pc := 18) rw_88_18 rfl (b_clt (pc := 19) rw_88_19 (A := (M.2.1 1 8).toInt) (B := 0) rfl rfl (fun h10 => ?_) (fun h10 => ?_))))
    · refine to_an (pc := 30) rw_88_30 rfl (to_c (pc := 31) rw_88_31 (x := (2 : Int32)) rfl rfl (s_v (pc := 32) rw_88_32 (dp1 hd (by decide)) (ls0 := [.ref 1, .int (2 : Int32)]) rfl (Nat.le_of_ble_eq_true rfl) (Nat.le_of_ble_eq_true rfl) rfl (to_rc rfl rfl rfl (g_o hG rfl)) rfl (to_an (pc := 0) rw_84_0 rfl (to_in (pc := 1) rw_84_1 rfl (s_pI (pc := 2) rw_84_2 hG rfl (fun M12 W11 => ?_))))))
      have hG13 := g_wf hG W11 rfl rfl (by decide)
      have F14 := FR.w F0 W11 (show 1 = 1 ∧ 5 ≤ 10 ∨ 3 ≤ 1 ∧ 1 ≤ 5 ∨ 50 ≤ 1 ∧ 1 ≤ 57 ∨ 59 ≤ 1 ∧ 1 ≤ 66 by decide)
      refine to_an (pc := 5) rw_84_5 rfl (to_an (pc := 6) rw_84_6 rfl ?_)
      have c_15 : M12.2.1 1 9 = (M.2.1 1 9) := (W_n W11 (by decide) rfl)
      refine tt_gI (pc := 7) rw_84_7 (g_o hG13 rfl) (v := (M.2.1 1 9)) c_15 (s_pI (pc := 10) rw_84_10 hG13 rfl (fun M17 W16 => ?_))
      have hG18 := g_wf hG13 W16 rfl rfl (by decide)
      have F19 := FR.w F14 W16 (show 1 = 1 ∧ 5 ≤ 11 ∨ 3 ≤ 1 ∧ 1 ≤ 5 ∨ 50 ≤ 1 ∧ 1 ≤ 57 ∨ 59 ≤ 1 ∧ 1 ≤ 66 by decide)
      refine to_c (pc := 13) rw_84_13 (x := (0 : Int32)) rfl rfl (s_r1 (pc := 14) rw_84_14 (A := 0) rfl (by decide) (b_ieq_t (pc := 35) rw_88_35 (A := 0) rfl (by decide) (to_c (pc := 42) rw_88_42 (x := (0 : Int32)) rfl rfl (s_r1 (pc := 43) rw_88_43 (A := 0) rfl (by decide) (b_ieq_t (pc := 23) rw_37_23 (A := 0) rfl (by decide) (to_c (pc := 37) rw_37_37 (x := (0 : Int32)) rfl rfl (s_r1 (pc := 38) rw_37_38 (A := 0) rfl (by decide) ?_)))))))
      have k_20 : (0 : Int32).toInt = 0 := rfl
      have j_21 := (PI_f (fun a i z => W_n W16 (by /-r1,11-/ omega) rfl) (PI_f (fun a i z => W_n W11 (by /-r1,10-/ omega) rfl) q4))
      have c_22 : M17.2.1 1 10 = (2 : Int32) := (W_n W16 (by decide) (W_e W11))
      have k_23 : (2 : Int32).toInt = 2 := rfl
      have t_24 : (M17.2.1 1 10).toInt = (2 : Int32).toInt := congrArg Int32.toInt c_22
      have c_25 : M17.2.1 1 11 = (M.2.1 1 9) := (W_e W16)
      have t_26 : (M17.2.1 1 11).toInt = (M.2.1 1 9).toInt := congrArg Int32.toInt c_25
      exact h (0 : Int32) M17 hG18 F19 (by decide) (by decide) j_21 (by omega)
    · refine to_an (pc := 22) rw_88_22 rfl (tt_gI (pc := 23) rw_88_23 (g_o hG rfl) (v := (M.2.1 1 8)) rfl (to_in (pc := 26) rw_88_26 rfl (b_cle (pc := 27) rw_88_27 (A := (M.2.1 1 8).toInt) (B := v7.toInt) rfl rfl (fun h27 => ?_) (fun h27 => ?_))))
      · refine to_c (pc := 38) rw_88_38 (x := (1 : Int32)) rfl rfl (to_go (pc := 39) rw_88_39 (s_r1 (pc := 43) rw_88_43 (A := 1) rfl (by decide) (b_ieq_f (pc := 23) rw_37_23 (A := 1) rfl (by decide) (to_an (pc := 26) rw_37_26 rfl (to_an (pc := 27) rw_37_27 rfl (to_in (pc := 28) rw_37_28 rfl (to_i (pc := 29) rw_37_29 rfl (s_v (pc := 31) rw_37_31 (dp0 hd (by decide)) (ls0 := [.ref p, .ref 1, .int (M.2.1 1 8), .int v4]) rfl (Nat.le_of_ble_eq_true rfl) (Nat.le_of_ble_eq_true rfl) rfl (to_rc rfl rfl rfl (g_o hG (by rcases hp with rfl | rfl <;> rfl))) rfl (C_39 hX (dp1 hd (by decide)) hG hp (p := p) (f := (M.2.1 1 8)) (l := v4) (fun r28 M34 hG30 F29 p_31 p_32 p_33 => ?_))))))))))
        have F35 := FR.c F0 F29 tg_210
        refine b_ine (pc := 34) rw_37_34 (A := r28.toInt) rfl (fun h36 => ?_) (fun h36 => ?_)
        · refine to_an (pc := 39) rw_37_39 rfl (s_v (pc := 40) rw_37_40 (dp0 hd (by decide)) (ls0 := [.ref 1]) rfl (Nat.le_of_ble_eq_true rfl) (Nat.le_of_ble_eq_true rfl) rfl (to_rc rfl rfl rfl (g_o hG30 rfl)) rfl (C_83 hX (dp1 hd (by decide)) hG30  (fun M40 hG38 F37 p_39 => ?_)))
          have F41 := FR.c F35 F37 tg_210
          refine to_an (pc := 43) rw_37_43 rfl (to_in (pc := 44) rw_37_44 rfl (to_i (pc := 45) rw_37_45 rfl (to_c (pc := 47) rw_37_47 (x := (10 : Int32)) rfl rfl (s_v (pc := 49) rw_37_49 (dp0 hd (by decide)) (ls0 := [.ref p, .int (M.2.1 1 8), .int v4, .int (10 : Int32)]) rfl (Nat.le_of_ble_eq_true rfl) (Nat.le_of_ble_eq_true rfl) rfl (to_rc rfl rfl rfl (g_o hG38 (by rcases hp with rfl | rfl <;> rfl))) rfl ?_))))
          have k_42 : (10 : Int32).toInt = 10 := rfl
          have c_43 : M40.2.1 p 2 = (M.2.1 p 2) := (F_n F37 (show ¬ (p = 1 ∧ 5 ≤ 2 ∨ 3 ≤ p ∧ p ≤ 5) by omega) (F_n F29 (show ¬ (p = 1 ∧ 5 ≤ 2 ∨ 3 ≤ p ∧ p ≤ 5) by omega) rfl))
          have t_44 : (M40.2.1 p 2).toInt = (M.2.1 p 2).toInt := congrArg Int32.toInt c_43
          have j_45 := (PI_f (tg_208 F37) (PI_f (tg_208 F29) q4))
          refine C_40 hX (dp1 hd (by decide)) hG38 hp (by omega) (by omega) (by omega) (by omega) (by omega) (by omega) (by omega) (by omega) j_45 (p := p) (f := (M.2.1 1 8)) (l := v4) (c := (10 : Int32)) (fun M50 hG47 F46 p_48 p_49 => ?_)
          have F51 := FR.c F41 F46 tg_211
          refine to_c (pc := 52) rw_37_52 (x := (1 : Int32)) rfl rfl (s_r1 (pc := 53) rw_37_53 (A := 1) rfl (by decide) ?_)
          have k_52 : (1 : Int32).toInt = 1 := rfl
          exact h (1 : Int32) M50 hG47 F51 (by decide) (by decide) p_48 (by omega)
        · refine to_c (pc := 37) rw_37_37 (x := (0 : Int32)) rfl rfl (s_r1 (pc := 38) rw_37_38 (A := 0) rfl (by decide) ?_)
          have k_53 : (0 : Int32).toInt = 0 := rfl
          have j_54 := (PI_f (tg_208 F29) q4)
          exact h (0 : Int32) M34 hG30 F35 (by decide) (by decide) j_54 (by omega)
      · refine to_an (pc := 30) rw_88_30 rfl (to_c (pc := 31) rw_88_31 (x := (2 : Int32)) rfl rfl (s_v (pc := 32) rw_88_32 (dp1 hd (by decide)) (ls0 := [.ref 1, .int (2 : Int32)]) rfl (Nat.le_of_ble_eq_true rfl) (Nat.le_of_ble_eq_true rfl) rfl (to_rc rfl rfl rfl (g_o hG rfl)) rfl (to_an (pc := 0) rw_84_0 rfl (to_in (pc := 1) rw_84_1 rfl (s_pI (pc := 2) rw_84_2 hG rfl (fun M56 W55 => ?_))))))
        have hG57 := g_wf hG W55 rfl rfl (by decide)
        have F58 := FR.w F0 W55 (show 1 = 1 ∧ 5 ≤ 10 ∨ 3 ≤ 1 ∧ 1 ≤ 5 ∨ 50 ≤ 1 ∧ 1 ≤ 57 ∨ 59 ≤ 1 ∧ 1 ≤ 66 by decide)
        refine to_an (pc := 5) rw_84_5 rfl (to_an (pc := 6) rw_84_6 rfl ?_)
        have c_59 : M56.2.1 1 9 = (M.2.1 1 9) := (W_n W55 (by decide) rfl)
        refine tt_gI (pc := 7) rw_84_7 (g_o hG57 rfl) (v := (M.2.1 1 9)) c_59 (s_pI (pc := 10) rw_84_10 hG57 rfl (fun M61 W60 => ?_))
        have hG62 := g_wf hG57 W60 rfl rfl (by decide)
        have F63 := FR.w F58 W60 (show 1 = 1 ∧ 5 ≤ 11 ∨ 3 ≤ 1 ∧ 1 ≤ 5 ∨ 50 ≤ 1 ∧ 1 ≤ 57 ∨ 59 ≤ 1 ∧ 1 ≤ 66 by decide)
        refine to_c (pc := 13) rw_84_13 (x := (0 : Int32)) rfl rfl (s_r1 (pc := 14) rw_84_14 (A := 0) rfl (by decide) (b_ieq_t (pc := 35) rw_88_35 (A := 0) rfl (by decide) (to_c (pc := 42) rw_88_42 (x := (0 : Int32)) rfl rfl (s_r1 (pc := 43) rw_88_43 (A := 0) rfl (by decide) (b_ieq_t (pc := 23) rw_37_23 (A := 0) rfl (by decide) (to_c (pc := 37) rw_37_37 (x := (0 : Int32)) rfl rfl (s_r1 (pc := 38) rw_37_38 (A := 0) rfl (by decide) ?_)))))))
        have k_64 : (0 : Int32).toInt = 0 := rfl
        have j_65 := (PI_f (fun a i z => W_n W60 (by /-r1,11-/ omega) rfl) (PI_f (fun a i z => W_n W55 (by /-r1,10-/ omega) rfl) q4))
        have c_66 : M61.2.1 1 10 = (2 : Int32) := (W_n W60 (by decide) (W_e W55))
        have k_67 : (2 : Int32).toInt = 2 := rfl
        have t_68 : (M61.2.1 1 10).toInt = (2 : Int32).toInt := congrArg Int32.toInt c_66
        have c_69 : M61.2.1 1 11 = (M.2.1 1 9) := (W_e W60)
        have t_70 : (M61.2.1 1 11).toInt = (M.2.1 1 9).toInt := congrArg Int32.toInt c_69
        exact h (0 : Int32) M61 hG62 F63 (by decide) (by decide) j_65 (by omega)
  · refine to_an (pc := 8) rw_88_8 rfl (to_c (pc := 9) rw_88_9 (x := (1 : Int32)) rfl rfl (s_v (pc := 10) rw_88_10 (dp1 hd (by decide)) (ls0 := [.ref 1, .int (1 : Int32)]) rfl (Nat.le_of_ble_eq_true rfl) (Nat.le_of_ble_eq_true rfl) rfl (to_rc rfl rfl rfl (g_o hG rfl)) rfl (to_an (pc := 0) rw_84_0 rfl (to_in (pc := 1) rw_84_1 rfl (s_pI (pc := 2) rw_84_2 hG rfl (fun M72 W71 => ?_))))))
    have hG73 := g_wf hG W71 rfl rfl (by decide)
    have F74 := FR.w F0 W71 (show 1 = 1 ∧ 5 ≤ 10 ∨ 3 ≤ 1 ∧ 1 ≤ 5 ∨ 50 ≤ 1 ∧ 1 ≤ 57 ∨ 59 ≤ 1 ∧ 1 ≤ 66 by decide)
    refine to_an (pc := 5) rw_84_5 rfl (to_an (pc := 6) rw_84_6 rfl ?_)
    have c_75 : M72.2.1 1 9 = (M.2.1 1 9) := (W_n W71 (by decide) rfl)
    refine tt_gI (pc := 7) rw_84_7 (g_o hG73 rfl) (v := (M.2.1 1 9)) c_75 (s_pI (pc := 10) rw_84_10 hG73 rfl (fun M77 W76 => ?_))
    have hG78 := g_wf hG73 W76 rfl rfl (by decide)
    have F79 := FR.w F74 W76 (show 1 = 1 ∧ 5 ≤ 11 ∨ 3 ≤ 1 ∧ 1 ≤ 5 ∨ 50 ≤ 1 ∧ 1 ≤ 57 ∨ 59 ≤ 1 ∧ 1 ≤ 66 by decide)
    refine to_c (pc := 13) rw_84_13 (x := (0 : Int32)) rfl rfl (s_r1 (pc := 14) rw_84_14 (A := 0) rfl (by decide) (s_r1 (pc := 13) rw_88_13 (A := 0) rfl (by decide) (b_ieq_t (pc := 23) rw_37_23 (A := 0) rfl (by decide) (to_c (pc := 37) rw_37_37 (x := (0 : Int32)) rfl rfl (s_r1 (pc := 38) rw_37_38 (A := 0) rfl (by decide) ?_)))))
    have k_80 : (0 : Int32).toInt = 0 := rfl
    have j_81 := (PI_f (fun a i z => W_n W76 (by /-r1,11-/ omega) rfl) (PI_f (fun a i z => W_n W71 (by /-r1,10-/ omega) rfl) q4))
    have c_82 : M77.2.1 1 10 = (1 : Int32) := (W_n W76 (by decide) (W_e W71))
    have k_83 : (1 : Int32).toInt = 1 := rfl
    have t_84 : (M77.2.1 1 10).toInt = (1 : Int32).toInt := congrArg Int32.toInt c_82
    have c_85 : M77.2.1 1 11 = (M.2.1 1 9) := (W_e W76)
    have t_86 : (M77.2.1 1 11).toInt = (M.2.1 1 9).toInt := congrArg Int32.toInt c_85
    exact h (0 : Int32) M77 hG78 F79 (by decide) (by decide) j_81 (by omega)
set_option maxRecDepth 4000 in
set_option maxHeartbeats 0 in
theorem C_38 {X : mm_X} {d : Nat} {M : mm_M} {Q : Option Value → mm_M → Prop} {p : Nat} (hX : g_X X) (hd : 2 ≤ d) (hG : g_G M) (hp : p = 49 ∨ p = 58) (q1 : (M.2.1 p 2).toInt ≤ 7) (q2 : PI M) (h : ∀ (r : Int32) (M1 : mm_M), g_G M1 → FR md_pr M M1 → (0 ≤ r.toInt) → (r.toInt ≤ 1) → PI M1 → (r.toInt = 1 → (M1.2.1 1 10).toInt = (M.2.1 1 10).toInt ∧ (M1.2.1 1 11).toInt = (M.2.1 1 11).toInt) → Q (some (.int r)) M1) : mm_T X d 38 0 [.ref p, .ref 1] [] M Q := by
  have F0 : FR md_pr M M := FR.rf
  have b_1 := g_b hG (a := p) (i := 2) (lo := 0) (hi := 8) (by rcases hp with rfl | rfl <;> rfl) (by rcases hp with rfl | rfl <;> rfl)
  refine to_an (pc := 0) rw_38_0 rfl (to_c (pc := 1) rw_38_1 (x := (1 : Int32)) rfl rfl (to_c (pc := 2) rw_38_2 (x := (4 : Int32)) rfl rfl (to_an (pc := 3) rw_38_3 rfl (to_an (pc := 4) rw_38_4 rfl (tt_gI (pc := 5) rw_38_5 (g_o hG (by rcases hp with rfl | rfl <;> rfl)) (v := (M.2.1 p 2)) rfl (s_v (pc := 8) rw_38_8 (dp0 hd (by decide)) (ls0 := [.ref p, .int (M.2.1 p 2)]) rfl (Nat.le_of_ble_eq_true rfl) (Nat.le_of_ble_eq_true rfl) rfl (to_rc rfl rfl rfl (g_o hG (by rcases hp with rfl | rfl <;> rfl))) rfl (to_an (pc := 0) rw_47_0 rfl (s_gR (pc := 1) rw_47_1 hG (by rcases hp with rfl | rfl <;> rfl) (v := (p + 4)) (by rcases hp with rfl | rfl <;> rfl) (to_in (pc := 4) rw_47_4 rfl (s_ial (pc := 5) rw_47_5 hG (by rcases hp with rfl | rfl <;> rfl) (n := 8) (by rcases hp with rfl | rfl <;> rfl) (by rcases hp with rfl | rfl <;> rfl) (A := (M.2.1 p 2).toInt) rfl (by omega) (by omega) (lo := 0) (hi := 63) (by rcases hp with rfl | rfl <;> rfl) (by rcases hp with rfl | rfl <;> rfl) (fun v2 w_3 _ _ => to_an (pc := 6) rw_47_6 rfl ?_)))))))))))
  refine s_gR (pc := 7) rw_47_7 hG (by rcases hp with rfl | rfl <;> rfl) (v := (p + 3)) (by rcases hp with rfl | rfl <;> rfl) (to_in (pc := 10) rw_47_10 rfl (s_ial (pc := 11) rw_47_11 hG (by rcases hp with rfl | rfl <;> rfl) (n := 8) (by rcases hp with rfl | rfl <;> rfl) (by rcases hp with rfl | rfl <;> rfl) (A := (M.2.1 p 2).toInt) rfl (by omega) (by omega) (lo := 0) (hi := 59) (by rcases hp with rfl | rfl <;> rfl) (by rcases hp with rfl | rfl <;> rfl) (fun v4 w_5 _ _ => s_sub (pc := 12) rw_47_12 (A := v2.toInt) (B := v4.toInt) rfl rfl (by omega) (fun v6 e7 => to_c (pc := 13) rw_47_13 (x := (1 : Int32)) rfl rfl (s_add (pc := 14) rw_47_14 (A := v6.toInt) (B := 1) rfl rfl (by omega) (fun v8 e9 => to_r0 (pc := 15) rw_47_15 (s_min (pc := 11) rw_38_11 rfl (A := 4) (B := v8.toInt) rfl rfl (fun v10 _ _ _ => s_v (pc := 14) rw_38_14 (dp0 hd (by decide)) (ls0 := [.ref 1, .int (1 : Int32), .int v10]) rfl (Nat.le_of_ble_eq_true rfl) (Nat.le_of_ble_eq_true rfl) rfl (to_rc rfl rfl rfl (g_o hG rfl)) rfl (to_an (pc := 0) rw_88_0 rfl (tt_gI (pc := 1) rw_88_1 (g_o hG rfl) (v := (M.2.1 1 7)) rfl (to_c (pc := 4) rw_88_4 (x := (2 : Int32)) rfl rfl ?_)))))))))))
  refine b_ceq (pc := 5) rw_88_5 (A := (M.2.1 1 7).toInt) (B := 2) rfl rfl (fun h11 => ?_) (fun h11 => ?_)
  · refine to_an (pc := 14) rw_88_14 rfl (tt_gI (pc := 15) rw_88_15 (g_o hG rfl) (v := (M.2.1 1 8)) rfl (to_in (pc := 18) rw_88_18 rfl (b_clt (pc := 19) rw_88_19 (A := (M.2.1 1 8).toInt) (B := 1) rfl rfl (fun h12 => ?_) (fun h12 => ?_))))
    · refine to_an (pc := 30) rw_88_30 rfl (to_c (pc := 31) rw_88_31 (x := (2 : Int32)) rfl rfl (s_v (pc := 32) rw_88_32 (dp1 hd (by decide)) (ls0 := [.ref 1, .int (2 : Int32)]) rfl (Nat.le_of_ble_eq_true rfl) (Nat.le_of_ble_eq_true rfl) rfl (to_rc rfl rfl rfl (g_o hG rfl)) rfl (to_an (pc := 0) rw_84_0 rfl (to_in (pc := 1) rw_84_1 rfl (s_pI (pc := 2) rw_84_2 hG rfl (fun M14 W13 => ?_))))))
      have hG15 := g_wf hG W13 rfl rfl (by decide)
      have F16 := FR.w F0 W13 (show 1 = 1 ∧ 5 ≤ 10 ∨ 3 ≤ 1 ∧ 1 ≤ 5 ∨ 50 ≤ 1 ∧ 1 ≤ 57 ∨ 59 ≤ 1 ∧ 1 ≤ 66 by decide)
      refine to_an (pc := 5) rw_84_5 rfl (to_an (pc := 6) rw_84_6 rfl ?_)
      have c_17 : M14.2.1 1 9 = (M.2.1 1 9) := (W_n W13 (by decide) rfl)
      refine tt_gI (pc := 7) rw_84_7 (g_o hG15 rfl) (v := (M.2.1 1 9)) c_17 (s_pI (pc := 10) rw_84_10 hG15 rfl (fun M19 W18 => ?_))
      have hG20 := g_wf hG15 W18 rfl rfl (by decide)
      have F21 := FR.w F16 W18 (show 1 = 1 ∧ 5 ≤ 11 ∨ 3 ≤ 1 ∧ 1 ≤ 5 ∨ 50 ≤ 1 ∧ 1 ≤ 57 ∨ 59 ≤ 1 ∧ 1 ≤ 66 by decide)
      refine to_c (pc := 13) rw_84_13 (x := (0 : Int32)) rfl rfl (s_r1 (pc := 14) rw_84_14 (A := 0) rfl (by decide) (b_ieq_t (pc := 35) rw_88_35 (A := 0) rfl (by decide) (to_c (pc := 42) rw_88_42 (x := (0 : Int32)) rfl rfl (s_r1 (pc := 43) rw_88_43 (A := 0) rfl (by decide) (b_ine_f (pc := 17) rw_38_17 (A := 0) rfl (by decide) (to_c (pc := 20) rw_38_20 (x := (0 : Int32)) rfl rfl (s_r1 (pc := 21) rw_38_21 (A := 0) rfl (by decide) ?_)))))))
      have k_22 : (0 : Int32).toInt = 0 := rfl
      have j_23 := (PI_f (fun a i z => W_n W18 (by /-r1,11-/ omega) rfl) (PI_f (fun a i z => W_n W13 (by /-r1,10-/ omega) rfl) q2))
      have c_24 : M19.2.1 1 10 = (2 : Int32) := (W_n W18 (by decide) (W_e W13))
      have k_25 : (2 : Int32).toInt = 2 := rfl
      have t_26 : (M19.2.1 1 10).toInt = (2 : Int32).toInt := congrArg Int32.toInt c_24
      have c_27 : M19.2.1 1 11 = (M.2.1 1 9) := (W_e W18)
      have t_28 : (M19.2.1 1 11).toInt = (M.2.1 1 9).toInt := congrArg Int32.toInt c_27
      exact h (0 : Int32) M19 hG20 F21 (by decide) (by decide) j_23 (by omega)
    · refine to_an (pc := 22) rw_88_22 rfl (tt_gI (pc := 23) rw_88_23 (g_o hG rfl) (v := (M.2.1 1 8)) rfl (to_in (pc := 26) rw_88_26 rfl (b_cle (pc := 27) rw_88_27 (A := (M.2.1 1 8).toInt) (B := v10.toInt) rfl rfl (fun h29 => ?_) (fun h29 => ?_))))
      · refine to_c (pc := 38) rw_88_38 (x := (1 : Int32)) rfl rfl (to_go (pc := 39) rw_88_39 (s_r1 (pc := 43) rw_88_43 (A := 1) rfl (by decide) (b_ine_t (pc := 17) rw_38_17 (A := 1) rfl (by decide) (to_an (pc := 22) rw_38_22 rfl (s_gR (pc := 23) rw_38_23 hG (by rcases hp with rfl | rfl <;> rfl) (v := (p + 5)) (by rcases hp with rfl | rfl <;> rfl) (to_an (pc := 26) rw_38_26 rfl (tt_gI (pc := 27) rw_38_27 (g_o hG (by rcases hp with rfl | rfl <;> rfl)) (v := (M.2.1 p 2)) rfl (to_an (pc := 30) rw_38_30 rfl (tt_gI (pc := 31) rw_38_31 (g_o hG rfl) (v := (M.2.1 1 8)) rfl (s_ias (pc := 34) rw_38_34 hG (by rcases hp with rfl | rfl <;> rfl) (n := 8) (by rcases hp with rfl | rfl <;> rfl) (A := (M.2.1 p 2).toInt) rfl (by omega) (by omega) (fun M31 W30 => ?_)))))))))))
        have hG32 := g_w hG W30 (A := (M.2.1 1 8).toInt) rfl (lo := 0) (hi := 24) (by rcases hp with rfl | rfl <;> rfl) (by rcases hp with rfl | rfl <;> rfl) (by omega) (by omega)
        have F33 := FR.w F0 W30 (show (p + 5) = 1 ∧ 5 ≤ ((M.2.1 p 2).toInt).toNat ∨ 3 ≤ (p + 5) ∧ (p + 5) ≤ 5 ∨ 50 ≤ (p + 5) ∧ (p + 5) ≤ 57 ∨ 59 ≤ (p + 5) ∧ (p + 5) ≤ 66 by omega)
        refine to_an (pc := 35) rw_38_35 rfl (s_v (pc := 36) rw_38_36 (dp0 hd (by decide)) (ls0 := [.ref 1]) rfl (Nat.le_of_ble_eq_true rfl) (Nat.le_of_ble_eq_true rfl) rfl (to_rc rfl rfl rfl (g_o hG32 rfl)) rfl ?_)
        have c_34 : M31.2.1 1 10 = (M.2.1 1 10) := (W_n W30 (by omega) rfl)
        have t_35 : (M31.2.1 1 10).toInt = (M.2.1 1 10).toInt := congrArg Int32.toInt c_34
        have c_36 : M31.2.1 1 11 = (M.2.1 1 11) := (W_n W30 (by omega) rfl)
        have t_37 : (M31.2.1 1 11).toInt = (M.2.1 1 11).toInt := congrArg Int32.toInt c_36
        refine C_83 hX (dp1 hd (by decide)) hG32  (fun M41 hG39 F38 p_40 => ?_)
        have F42 := FR.c F33 F38 tg_210
        refine to_c (pc := 39) rw_38_39 (x := (1 : Int32)) rfl rfl (s_r1 (pc := 40) rw_38_40 (A := 1) rfl (by decide) ?_)
        have k_43 : (1 : Int32).toInt = 1 := rfl
        have j_44 := (PI_f (tg_208 F38) (PI_f (fun a i z => W_n W30 (by omega) rfl) q2))
        exact h (1 : Int32) M41 hG39 F42 (by decide) (by decide) j_44 (by omega)
      · refine to_an (pc := 30) rw_88_30 rfl (to_c (pc := 31) rw_88_31 (x := (2 : Int32)) rfl rfl (s_v (pc := 32) rw_88_32 (dp1 hd (by decide)) (ls0 := [.ref 1, .int (2 : Int32)]) rfl (Nat.le_of_ble_eq_true rfl) (Nat.le_of_ble_eq_true rfl) rfl (to_rc rfl rfl rfl (g_o hG rfl)) rfl (to_an (pc := 0) rw_84_0 rfl (to_in (pc := 1) rw_84_1 rfl (s_pI (pc := 2) rw_84_2 hG rfl (fun M46 W45 => ?_))))))
        have hG47 := g_wf hG W45 rfl rfl (by decide)
        have F48 := FR.w F0 W45 (show 1 = 1 ∧ 5 ≤ 10 ∨ 3 ≤ 1 ∧ 1 ≤ 5 ∨ 50 ≤ 1 ∧ 1 ≤ 57 ∨ 59 ≤ 1 ∧ 1 ≤ 66 by decide)
        refine to_an (pc := 5) rw_84_5 rfl (to_an (pc := 6) rw_84_6 rfl ?_)
        have c_49 : M46.2.1 1 9 = (M.2.1 1 9) := (W_n W45 (by decide) rfl)
        refine tt_gI (pc := 7) rw_84_7 (g_o hG47 rfl) (v := (M.2.1 1 9)) c_49 (s_pI (pc := 10) rw_84_10 hG47 rfl (fun M51 W50 => ?_))
        have hG52 := g_wf hG47 W50 rfl rfl (by decide)
        have F53 := FR.w F48 W50 (show 1 = 1 ∧ 5 ≤ 11 ∨ 3 ≤ 1 ∧ 1 ≤ 5 ∨ 50 ≤ 1 ∧ 1 ≤ 57 ∨ 59 ≤ 1 ∧ 1 ≤ 66 by decide)
        refine to_c (pc := 13) rw_84_13 (x := (0 : Int32)) rfl rfl (s_r1 (pc := 14) rw_84_14 (A := 0) rfl (by decide) (b_ieq_t (pc := 35) rw_88_35 (A := 0) rfl (by decide) (to_c (pc := 42) rw_88_42 (x := (0 : Int32)) rfl rfl (s_r1 (pc := 43) rw_88_43 (A := 0) rfl (by decide) (b_ine_f (pc := 17) rw_38_17 (A := 0) rfl (by decide) (to_c (pc := 20) rw_38_20 (x := (0 : Int32)) rfl rfl (s_r1 (pc := 21) rw_38_21 (A := 0) rfl (by decide) ?_)))))))
        have k_54 : (0 : Int32).toInt = 0 := rfl
        have j_55 := (PI_f (fun a i z => W_n W50 (by /-r1,11-/ omega) rfl) (PI_f (fun a i z => W_n W45 (by /-r1,10-/ omega) rfl) q2))
        have c_56 : M51.2.1 1 10 = (2 : Int32) := (W_n W50 (by decide) (W_e W45))
        have k_57 : (2 : Int32).toInt = 2 := rfl
        have t_58 : (M51.2.1 1 10).toInt = (2 : Int32).toInt := congrArg Int32.toInt c_56
        have c_59 : M51.2.1 1 11 = (M.2.1 1 9) := (W_e W50)
        have t_60 : (M51.2.1 1 11).toInt = (M.2.1 1 9).toInt := congrArg Int32.toInt c_59
        exact h (0 : Int32) M51 hG52 F53 (by decide) (by decide) j_55 (by omega)
  · refine to_an (pc := 8) rw_88_8 rfl (to_c (pc := 9) rw_88_9 (x := (1 : Int32)) rfl rfl (s_v (pc := 10) rw_88_10 (dp1 hd (by decide)) (ls0 := [.ref 1, .int (1 : Int32)]) rfl (Nat.le_of_ble_eq_true rfl) (Nat.le_of_ble_eq_true rfl) rfl (to_rc rfl rfl rfl (g_o hG rfl)) rfl (to_an (pc := 0) rw_84_0 rfl (to_in (pc := 1) rw_84_1 rfl (s_pI (pc := 2) rw_84_2 hG rfl (fun M62 W61 => ?_))))))
    have hG63 := g_wf hG W61 rfl rfl (by decide)
    have F64 := FR.w F0 W61 (show 1 = 1 ∧ 5 ≤ 10 ∨ 3 ≤ 1 ∧ 1 ≤ 5 ∨ 50 ≤ 1 ∧ 1 ≤ 57 ∨ 59 ≤ 1 ∧ 1 ≤ 66 by decide)
    refine to_an (pc := 5) rw_84_5 rfl (to_an (pc := 6) rw_84_6 rfl ?_)
    have c_65 : M62.2.1 1 9 = (M.2.1 1 9) := (W_n W61 (by decide) rfl)
    refine tt_gI (pc := 7) rw_84_7 (g_o hG63 rfl) (v := (M.2.1 1 9)) c_65 (s_pI (pc := 10) rw_84_10 hG63 rfl (fun M67 W66 => ?_))
    have hG68 := g_wf hG63 W66 rfl rfl (by decide)
    have F69 := FR.w F64 W66 (show 1 = 1 ∧ 5 ≤ 11 ∨ 3 ≤ 1 ∧ 1 ≤ 5 ∨ 50 ≤ 1 ∧ 1 ≤ 57 ∨ 59 ≤ 1 ∧ 1 ≤ 66 by decide)
    refine to_c (pc := 13) rw_84_13 (x := (0 : Int32)) rfl rfl (s_r1 (pc := 14) rw_84_14 (A := 0) rfl (by decide) (s_r1 (pc := 13) rw_88_13 (A := 0) rfl (by decide) (b_ine_f (pc := 17) rw_38_17 (A := 0) rfl (by decide) (to_c (pc := 20) rw_38_20 (x := (0 : Int32)) rfl rfl (s_r1 (pc := 21) rw_38_21 (A := 0) rfl (by decide) ?_)))))
    have k_70 : (0 : Int32).toInt = 0 := rfl
    have j_71 := (PI_f (fun a i z => W_n W66 (by /-r1,11-/ omega) rfl) (PI_f (fun a i z => W_n W61 (by /-r1,10-/ omega) rfl) q2))
    have c_72 : M67.2.1 1 10 = (1 : Int32) := (W_n W66 (by decide) (W_e W61))
    have k_73 : (1 : Int32).toInt = 1 := rfl
    have t_74 : (M67.2.1 1 10).toInt = (1 : Int32).toInt := congrArg Int32.toInt c_72
    have c_75 : M67.2.1 1 11 = (M.2.1 1 9) := (W_e W66)
    have t_76 : (M67.2.1 1 11).toInt = (M.2.1 1 9).toInt := congrArg Int32.toInt c_75
    exact h (0 : Int32) M67 hG68 F69 (by decide) (by decide) j_71 (by omega)
set_option maxRecDepth 4000 in
set_option maxHeartbeats 0 in
theorem C_32 {X : mm_X} {d : Nat} {M : mm_M} {Q : Option Value → mm_M → Prop} {p : Nat} (hX : g_X X) (hd : 2 ≤ d) (hG : g_G M) (hp : p = 49 ∨ p = 58) (q1 : PI M) (h : ∀ (r : Int32) (M1 : mm_M), g_G M1 → FR md_pt M M1 → (0 ≤ r.toInt) → (r.toInt ≤ 1) → PI M1 → (r.toInt = 1 → (M1.2.1 1 10).toInt = (M.2.1 1 10).toInt ∧ (M1.2.1 1 11).toInt = (M.2.1 1 11).toInt) → Q (some (.int r)) M1) : mm_T X d 32 0 [.ref p, .ref 1] [] M Q := by
  have F0 : FR md_pt M M := FR.rf
  refine to_an (pc := 0) rw_32_0 rfl (tt_gI (pc := 1) rw_32_1 (g_o hG (by rcases hp with rfl | rfl <;> rfl)) (v := (M.2.1 p 1)) rfl (b_ile (pc := 4) rw_32_4 (A := (M.2.1 p 1).toInt) rfl (fun h1 => ?_) (fun h1 => ?_)))
  · refine to_an (pc := 13) rw_32_13 rfl (s_v (pc := 14) rw_32_14 (dp0 hd (by decide)) (ls0 := [.ref 1]) rfl (Nat.le_of_ble_eq_true rfl) (Nat.le_of_ble_eq_true rfl) rfl (to_rc rfl rfl rfl (g_o hG rfl)) rfl (C_83 hX (dp1 hd (by decide)) hG  (fun M5 hG3 F2 p_4 => ?_)))
    have F6 := FR.c F0 F2 tg_212
    refine to_an (pc := 17) rw_32_17 rfl (to_c (pc := 18) rw_32_18 (x := (10 : Int32)) rfl rfl (to_c (pc := 20) rw_32_20 (x := (60 : Int32)) rfl rfl (s_v (pc := 22) rw_32_22 (dp0 hd (by decide)) (ls0 := [.ref 1, .int (10 : Int32), .int (60 : Int32)]) rfl (Nat.le_of_ble_eq_true rfl) (Nat.le_of_ble_eq_true rfl) rfl (to_rc rfl rfl rfl (g_o hG3 rfl)) rfl (to_an (pc := 0) rw_88_0 rfl (tt_gI (pc := 1) rw_88_1 (g_o hG3 rfl) (v := (M5.2.1 1 7)) rfl (to_c (pc := 4) rw_88_4 (x := (2 : Int32)) rfl rfl (b_ceq (pc := 5) rw_88_5 (A := (M5.2.1 1 7).toInt) (B := 2) rfl rfl (fun h7 => ?_) (fun h7 => ?_))))))))
    · refine to_an (pc := 14) rw_88_14 rfl (tt_gI (pc := 15) rw_88_15 (g_o hG3 rfl) (v := (M5.2.1 1 8)) rfl (to_in (pc := 18) rw_88_18 rfl (b_clt (pc := 19) rw_88_19 (A := (M5.2.1 1 8).toInt) (B := 10) rfl rfl (fun h8 => ?_) (fun h8 => ?_))))
      · refine to_an (pc := 30) rw_88_30 rfl (to_c (pc := 31) rw_88_31 (x := (2 : Int32)) rfl rfl (s_v (pc := 32) rw_88_32 (dp1 hd (by decide)) (ls0 := [.ref 1, .int (2 : Int32)]) rfl (Nat.le_of_ble_eq_true rfl) (Nat.le_of_ble_eq_true rfl) rfl (to_rc rfl rfl rfl (g_o hG3 rfl)) rfl (to_an (pc := 0) rw_84_0 rfl (to_in (pc := 1) rw_84_1 rfl (s_pI (pc := 2) rw_84_2 hG3 rfl (fun M10 W9 => ?_))))))
        have hG11 := g_wf hG3 W9 rfl rfl (by decide)
        have F12 := FR.w F6 W9 (show 1 = 1 ∧ 5 ≤ 10 ∨ 3 ≤ 1 ∧ 1 ≤ 5 ∨ 49 ≤ 1 ∧ 1 ≤ 66 by decide)
        refine to_an (pc := 5) rw_84_5 rfl (to_an (pc := 6) rw_84_6 rfl ?_)
        have c_13 : M10.2.1 1 9 = (M5.2.1 1 9) := (W_n W9 (by decide) rfl)
        refine tt_gI (pc := 7) rw_84_7 (g_o hG11 rfl) (v := (M5.2.1 1 9)) c_13 (s_pI (pc := 10) rw_84_10 hG11 rfl (fun M15 W14 => ?_))
        have hG16 := g_wf hG11 W14 rfl rfl (by decide)
        have F17 := FR.w F12 W14 (show 1 = 1 ∧ 5 ≤ 11 ∨ 3 ≤ 1 ∧ 1 ≤ 5 ∨ 49 ≤ 1 ∧ 1 ≤ 66 by decide)
        refine to_c (pc := 13) rw_84_13 (x := (0 : Int32)) rfl rfl (s_r1 (pc := 14) rw_84_14 (A := 0) rfl (by decide) (b_ieq_t (pc := 35) rw_88_35 (A := 0) rfl (by decide) (to_c (pc := 42) rw_88_42 (x := (0 : Int32)) rfl rfl (s_r1 (pc := 43) rw_88_43 (A := 0) rfl (by decide) (b_ine_f (pc := 25) rw_32_25 (A := 0) rfl (by decide) (to_c (pc := 28) rw_32_28 (x := (0 : Int32)) rfl rfl (s_r1 (pc := 29) rw_32_29 (A := 0) rfl (by decide) ?_)))))))
        have k_18 : (0 : Int32).toInt = 0 := rfl
        have j_19 := (PI_f (fun a i z => W_n W14 (by /-r1,11-/ omega) rfl) (PI_f (fun a i z => W_n W9 (by /-r1,10-/ omega) rfl) (PI_f (tg_208 F2) q1)))
        have c_20 : M15.2.1 1 10 = (2 : Int32) := (W_n W14 (by decide) (W_e W9))
        have k_21 : (2 : Int32).toInt = 2 := rfl
        have t_22 : (M15.2.1 1 10).toInt = (2 : Int32).toInt := congrArg Int32.toInt c_20
        have c_23 : M15.2.1 1 11 = (M5.2.1 1 9) := (W_e W14)
        have t_24 : (M15.2.1 1 11).toInt = (M5.2.1 1 9).toInt := congrArg Int32.toInt c_23
        exact h (0 : Int32) M15 hG16 F17 (by decide) (by decide) j_19 (by omega)
      · refine to_an (pc := 22) rw_88_22 rfl (tt_gI (pc := 23) rw_88_23 (g_o hG3 rfl) (v := (M5.2.1 1 8)) rfl (to_in (pc := 26) rw_88_26 rfl (b_cle (pc := 27) rw_88_27 (A := (M5.2.1 1 8).toInt) (B := 60) rfl rfl (fun h25 => ?_) (fun h25 => ?_))))
        · refine to_c (pc := 38) rw_88_38 (x := (1 : Int32)) rfl rfl (to_go (pc := 39) rw_88_39 (s_r1 (pc := 43) rw_88_43 (A := 1) rfl (by decide) (b_ine_t (pc := 25) rw_32_25 (A := 1) rfl (by decide) (to_an (pc := 30) rw_32_30 rfl (to_an (pc := 31) rw_32_31 rfl (tt_gI (pc := 32) rw_32_32 (g_o hG3 rfl) (v := (M5.2.1 1 8)) rfl (s_pI (pc := 35) rw_32_35 hG3 (by rcases hp with rfl | rfl <;> rfl) (fun M27 W26 => ?_))))))))
          have hG28 := g_w hG3 W26 (A := (M5.2.1 1 8).toInt) rfl (lo := 10) (hi := 60) (by rcases hp with rfl | rfl <;> rfl) (by rcases hp with rfl | rfl <;> rfl) (by omega) (by omega)
          have F29 := FR.w F6 W26 (show p = 1 ∧ 5 ≤ 0 ∨ 3 ≤ p ∧ p ≤ 5 ∨ 49 ≤ p ∧ p ≤ 66 by omega)
          refine to_an (pc := 38) rw_32_38 rfl (s_v (pc := 39) rw_32_39 (dp0 hd (by decide)) (ls0 := [.ref 1]) rfl (Nat.le_of_ble_eq_true rfl) (Nat.le_of_ble_eq_true rfl) rfl (to_rc rfl rfl rfl (g_o hG28 rfl)) rfl ?_)
          have c_30 : M27.2.1 1 10 = (M5.2.1 1 10) := (W_n W26 (by omega) rfl)
          have t_31 : (M27.2.1 1 10).toInt = (M5.2.1 1 10).toInt := congrArg Int32.toInt c_30
          have c_32 : M27.2.1 1 11 = (M5.2.1 1 11) := (W_n W26 (by omega) rfl)
          have t_33 : (M27.2.1 1 11).toInt = (M5.2.1 1 11).toInt := congrArg Int32.toInt c_32
          refine C_83 hX (dp1 hd (by decide)) hG28  (fun M37 hG35 F34 p_36 => ?_)
          have F38 := FR.c F29 F34 tg_212
          refine to_c (pc := 42) rw_32_42 (x := (1 : Int32)) rfl rfl (s_r1 (pc := 43) rw_32_43 (A := 1) rfl (by decide) ?_)
          have k_39 : (1 : Int32).toInt = 1 := rfl
          have j_40 := (PI_f (tg_208 F34) (PI_f (fun a i z => W_n W26 (by omega) rfl) (PI_f (tg_208 F2) q1)))
          exact h (1 : Int32) M37 hG35 F38 (by decide) (by decide) j_40 (by omega)
        · refine to_an (pc := 30) rw_88_30 rfl (to_c (pc := 31) rw_88_31 (x := (2 : Int32)) rfl rfl (s_v (pc := 32) rw_88_32 (dp1 hd (by decide)) (ls0 := [.ref 1, .int (2 : Int32)]) rfl (Nat.le_of_ble_eq_true rfl) (Nat.le_of_ble_eq_true rfl) rfl (to_rc rfl rfl rfl (g_o hG3 rfl)) rfl (to_an (pc := 0) rw_84_0 rfl (to_in (pc := 1) rw_84_1 rfl (s_pI (pc := 2) rw_84_2 hG3 rfl (fun M42 W41 => ?_))))))
          have hG43 := g_wf hG3 W41 rfl rfl (by decide)
          have F44 := FR.w F6 W41 (show 1 = 1 ∧ 5 ≤ 10 ∨ 3 ≤ 1 ∧ 1 ≤ 5 ∨ 49 ≤ 1 ∧ 1 ≤ 66 by decide)
          refine to_an (pc := 5) rw_84_5 rfl (to_an (pc := 6) rw_84_6 rfl ?_)
          have c_45 : M42.2.1 1 9 = (M5.2.1 1 9) := (W_n W41 (by decide) rfl)
          refine tt_gI (pc := 7) rw_84_7 (g_o hG43 rfl) (v := (M5.2.1 1 9)) c_45 (s_pI (pc := 10) rw_84_10 hG43 rfl (fun M47 W46 => ?_))
          have hG48 := g_wf hG43 W46 rfl rfl (by decide)
          have F49 := FR.w F44 W46 (show 1 = 1 ∧ 5 ≤ 11 ∨ 3 ≤ 1 ∧ 1 ≤ 5 ∨ 49 ≤ 1 ∧ 1 ≤ 66 by decide)
          refine to_c (pc := 13) rw_84_13 (x := (0 : Int32)) rfl rfl (s_r1 (pc := 14) rw_84_14 (A := 0) rfl (by decide) (b_ieq_t (pc := 35) rw_88_35 (A := 0) rfl (by decide) (to_c (pc := 42) rw_88_42 (x := (0 : Int32)) rfl rfl (s_r1 (pc := 43) rw_88_43 (A := 0) rfl (by decide) (b_ine_f (pc := 25) rw_32_25 (A := 0) rfl (by decide) (to_c (pc := 28) rw_32_28 (x := (0 : Int32)) rfl rfl (s_r1 (pc := 29) rw_32_29 (A := 0) rfl (by decide) ?_)))))))
          have k_50 : (0 : Int32).toInt = 0 := rfl
          have j_51 := (PI_f (fun a i z => W_n W46 (by /-r1,11-/ omega) rfl) (PI_f (fun a i z => W_n W41 (by /-r1,10-/ omega) rfl) (PI_f (tg_208 F2) q1)))
          have c_52 : M47.2.1 1 10 = (2 : Int32) := (W_n W46 (by decide) (W_e W41))
          have k_53 : (2 : Int32).toInt = 2 := rfl
          have t_54 : (M47.2.1 1 10).toInt = (2 : Int32).toInt := congrArg Int32.toInt c_52
          have c_55 : M47.2.1 1 11 = (M5.2.1 1 9) := (W_e W46)
          have t_56 : (M47.2.1 1 11).toInt = (M5.2.1 1 9).toInt := congrArg Int32.toInt c_55
          exact h (0 : Int32) M47 hG48 F49 (by decide) (by decide) j_51 (by omega)
    · refine to_an (pc := 8) rw_88_8 rfl (to_c (pc := 9) rw_88_9 (x := (1 : Int32)) rfl rfl (s_v (pc := 10) rw_88_10 (dp1 hd (by decide)) (ls0 := [.ref 1, .int (1 : Int32)]) rfl (Nat.le_of_ble_eq_true rfl) (Nat.le_of_ble_eq_true rfl) rfl (to_rc rfl rfl rfl (g_o hG3 rfl)) rfl (to_an (pc := 0) rw_84_0 rfl (to_in (pc := 1) rw_84_1 rfl (s_pI (pc := 2) rw_84_2 hG3 rfl (fun M58 W57 => ?_))))))
      have hG59 := g_wf hG3 W57 rfl rfl (by decide)
      have F60 := FR.w F6 W57 (show 1 = 1 ∧ 5 ≤ 10 ∨ 3 ≤ 1 ∧ 1 ≤ 5 ∨ 49 ≤ 1 ∧ 1 ≤ 66 by decide)
      refine to_an (pc := 5) rw_84_5 rfl (to_an (pc := 6) rw_84_6 rfl ?_)
      have c_61 : M58.2.1 1 9 = (M5.2.1 1 9) := (W_n W57 (by decide) rfl)
      refine tt_gI (pc := 7) rw_84_7 (g_o hG59 rfl) (v := (M5.2.1 1 9)) c_61 (s_pI (pc := 10) rw_84_10 hG59 rfl (fun M63 W62 => ?_))
      have hG64 := g_wf hG59 W62 rfl rfl (by decide)
      have F65 := FR.w F60 W62 (show 1 = 1 ∧ 5 ≤ 11 ∨ 3 ≤ 1 ∧ 1 ≤ 5 ∨ 49 ≤ 1 ∧ 1 ≤ 66 by decide)
      refine to_c (pc := 13) rw_84_13 (x := (0 : Int32)) rfl rfl (s_r1 (pc := 14) rw_84_14 (A := 0) rfl (by decide) (s_r1 (pc := 13) rw_88_13 (A := 0) rfl (by decide) (b_ine_f (pc := 25) rw_32_25 (A := 0) rfl (by decide) (to_c (pc := 28) rw_32_28 (x := (0 : Int32)) rfl rfl (s_r1 (pc := 29) rw_32_29 (A := 0) rfl (by decide) ?_)))))
      have k_66 : (0 : Int32).toInt = 0 := rfl
      have j_67 := (PI_f (fun a i z => W_n W62 (by /-r1,11-/ omega) rfl) (PI_f (fun a i z => W_n W57 (by /-r1,10-/ omega) rfl) (PI_f (tg_208 F2) q1)))
      have c_68 : M63.2.1 1 10 = (1 : Int32) := (W_n W62 (by decide) (W_e W57))
      have k_69 : (1 : Int32).toInt = 1 := rfl
      have t_70 : (M63.2.1 1 10).toInt = (1 : Int32).toInt := congrArg Int32.toInt c_68
      have c_71 : M63.2.1 1 11 = (M5.2.1 1 9) := (W_e W62)
      have t_72 : (M63.2.1 1 11).toInt = (M5.2.1 1 9).toInt := congrArg Int32.toInt c_71
      exact h (0 : Int32) M63 hG64 F65 (by decide) (by decide) j_67 (by omega)
  · refine to_an (pc := 7) rw_32_7 rfl (to_c (pc := 8) rw_32_8 (x := (3 : Int32)) rfl rfl (s_v (pc := 9) rw_32_9 (dp0 hd (by decide)) (ls0 := [.ref 1, .int (3 : Int32)]) rfl (Nat.le_of_ble_eq_true rfl) (Nat.le_of_ble_eq_true rfl) rfl (to_rc rfl rfl rfl (g_o hG rfl)) rfl (to_an (pc := 0) rw_84_0 rfl (to_in (pc := 1) rw_84_1 rfl (s_pI (pc := 2) rw_84_2 hG rfl (fun M74 W73 => ?_))))))
    have hG75 := g_wf hG W73 rfl rfl (by decide)
    have F76 := FR.w F0 W73 (show 1 = 1 ∧ 5 ≤ 10 ∨ 3 ≤ 1 ∧ 1 ≤ 5 ∨ 49 ≤ 1 ∧ 1 ≤ 66 by decide)
    refine to_an (pc := 5) rw_84_5 rfl (to_an (pc := 6) rw_84_6 rfl ?_)
    have c_77 : M74.2.1 1 9 = (M.2.1 1 9) := (W_n W73 (by decide) rfl)
    refine tt_gI (pc := 7) rw_84_7 (g_o hG75 rfl) (v := (M.2.1 1 9)) c_77 (s_pI (pc := 10) rw_84_10 hG75 rfl (fun M79 W78 => ?_))
    have hG80 := g_wf hG75 W78 rfl rfl (by decide)
    have F81 := FR.w F76 W78 (show 1 = 1 ∧ 5 ≤ 11 ∨ 3 ≤ 1 ∧ 1 ≤ 5 ∨ 49 ≤ 1 ∧ 1 ≤ 66 by decide)
    refine to_c (pc := 13) rw_84_13 (x := (0 : Int32)) rfl rfl (s_r1 (pc := 14) rw_84_14 (A := 0) rfl (by decide) (s_r1 (pc := 12) rw_32_12 (A := 0) rfl (by decide) ?_))
    have k_82 : (0 : Int32).toInt = 0 := rfl
    have j_83 := (PI_f (fun a i z => W_n W78 (by /-r1,11-/ omega) rfl) (PI_f (fun a i z => W_n W73 (by /-r1,10-/ omega) rfl) q1))
    have c_84 : M79.2.1 1 10 = (3 : Int32) := (W_n W78 (by decide) (W_e W73))
    have k_85 : (3 : Int32).toInt = 3 := rfl
    have t_86 : (M79.2.1 1 10).toInt = (3 : Int32).toInt := congrArg Int32.toInt c_84
    have c_87 : M79.2.1 1 11 = (M.2.1 1 9) := (W_e W78)
    have t_88 : (M79.2.1 1 11).toInt = (M.2.1 1 9).toInt := congrArg Int32.toInt c_87
    exact h (0 : Int32) M79 hG80 F81 (by decide) (by decide) j_83 (by omega)
set_option maxRecDepth 4000 in
set_option maxHeartbeats 0 in
theorem C_33 {X : mm_X} {d : Nat} {M : mm_M} {Q : Option Value → mm_M → Prop} {p : Nat} (hX : g_X X) (hd : 3 ≤ d) (hG : g_G M) (hp : p = 49 ∨ p = 58) (q1 : PI M) (h : ∀ (r : Int32) (M1 : mm_M), g_G M1 → FR md_pt M M1 → (0 ≤ r.toInt) → (r.toInt ≤ 1) → PI M1 → (r.toInt = 1 → (M1.2.1 1 10).toInt = (M.2.1 1 10).toInt ∧ (M1.2.1 1 11).toInt = (M.2.1 1 11).toInt) → Q (some (.int r)) M1) : mm_T X d 33 0 [.ref p, .ref 1, .null, .null] [] M Q := by
  have F0 : FR md_pt M M := FR.rf
  refine to_an (pc := 0) rw_33_0 rfl ?_
  have b_1 := g_b hG (a := p) (i := 2) (lo := 0) (hi := 8) (by rcases hp with rfl | rfl <;> rfl) (by rcases hp with rfl | rfl <;> rfl)
  refine tt_gI (pc := 1) rw_33_1 (g_o hG (by rcases hp with rfl | rfl <;> rfl)) (v := (M.2.1 p 2)) rfl (to_c (pc := 4) rw_33_4 (x := (8 : Int32)) rfl rfl (b_clt (pc := 6) rw_33_6 (A := (M.2.1 p 2).toInt) (B := 8) rfl rfl (fun h2 => ?_) (fun h2 => ?_)))
  · refine to_an (pc := 15) rw_33_15 rfl (s_v (pc := 16) rw_33_16 (dp0 hd (by decide)) (ls0 := [.ref 1]) rfl (Nat.le_of_ble_eq_true rfl) (Nat.le_of_ble_eq_true rfl) rfl (to_rc rfl rfl rfl (g_o hG rfl)) rfl (C_83 hX (dp1 hd (by decide)) hG  (fun M6 hG4 F3 p_5 => ?_)))
    have F7 := FR.c F0 F3 tg_212
    refine to_an (pc := 19) rw_33_19 rfl (to_an (pc := 20) rw_33_20 rfl (s_v (pc := 21) rw_33_21 (dp0 hd (by decide)) (ls0 := [.ref p, .ref 1]) rfl (Nat.le_of_ble_eq_true rfl) (Nat.le_of_ble_eq_true rfl) rfl (to_rc rfl rfl rfl (g_o hG4 (by rcases hp with rfl | rfl <;> rfl))) rfl (C_34 hX (dp1 hd (by decide)) hG4 hp (p := p) (fun r8 M14 hG10 F9 p_11 p_12 p_13 => ?_))))
    have F15 := FR.c F7 F9 tg_212
    refine b_ine (pc := 24) rw_33_24 (A := r8.toInt) rfl (fun h16 => ?_) (fun h16 => ?_)
    · refine to_an (pc := 29) rw_33_29 rfl (s_gR (pc := 30) rw_33_30 hG10 (by rcases hp with rfl | rfl <;> rfl) (v := (p + 1)) (by rcases hp with rfl | rfl <;> rfl) (to_an (pc := 33) rw_33_33 rfl ?_))
      have c_17 : M14.2.1 p 2 = (M.2.1 p 2) := (F_n F9 (show ¬ (p = 1 ∧ 5 ≤ 2 ∨ 3 ≤ p ∧ p ≤ 5) by omega) (F_n F3 (show ¬ (p = 1 ∧ 5 ≤ 2 ∨ 3 ≤ p ∧ p ≤ 5) by omega) rfl))
      refine tt_gI (pc := 34) rw_33_34 (g_o hG10 (by rcases hp with rfl | rfl <;> rfl)) (v := (M.2.1 p 2)) c_17 (to_an (pc := 37) rw_33_37 rfl (tt_gI (pc := 38) rw_33_38 (g_o hG10 rfl) (v := (M14.2.1 1 8)) rfl (s_ias (pc := 41) rw_33_41 hG10 (by rcases hp with rfl | rfl <;> rfl) (n := 8) (by rcases hp with rfl | rfl <;> rfl) (A := (M.2.1 p 2).toInt) rfl (by omega) (by omega) (fun M19 W18 => ?_))))
      have hG20 := g_wf hG10 W18 (by rcases hp with rfl | rfl <;> rfl) (by rcases hp with rfl | rfl <;> rfl) (by omega)
      have F21 := FR.w F15 W18 (show (p + 1) = 1 ∧ 5 ≤ ((M.2.1 p 2).toInt).toNat ∨ 3 ≤ (p + 1) ∧ (p + 1) ≤ 5 ∨ 49 ≤ (p + 1) ∧ (p + 1) ≤ 66 by omega)
      refine to_an (pc := 42) rw_33_42 rfl (s_v (pc := 43) rw_33_43 (dp0 hd (by decide)) (ls0 := [.ref 1]) rfl (Nat.le_of_ble_eq_true rfl) (Nat.le_of_ble_eq_true rfl) rfl (to_rc rfl rfl rfl (g_o hG20 rfl)) rfl ?_)
      have c_22 : M19.2.1 1 10 = (M14.2.1 1 10) := (W_n W18 (by omega) rfl)
      have t_23 : (M19.2.1 1 10).toInt = (M14.2.1 1 10).toInt := congrArg Int32.toInt c_22
      have c_24 : M19.2.1 1 11 = (M14.2.1 1 11) := (W_n W18 (by omega) rfl)
      have t_25 : (M19.2.1 1 11).toInt = (M14.2.1 1 11).toInt := congrArg Int32.toInt c_24
      refine C_83 hX (dp1 hd (by decide)) hG20  (fun M29 hG27 F26 p_28 => ?_)
      have F30 := FR.c F21 F26 tg_212
      refine to_an (pc := 46) rw_33_46 rfl (s_s (pc := 47) rw_33_47 (dp0 hd (by decide)) (ls0 := [.ref 1]) rfl (Nat.le_of_ble_eq_true rfl) (Nat.le_of_ble_eq_true rfl) rfl (to_rcs rfl rfl) rfl (C_35 hX (dp1 hd (by decide)) hG27  (fun r31 M36 hG33 F32 p_34 p_35 => ?_)))
      have F37 := FR.c F30 F32 tg_213
      refine to_isn (pc := 50) rw_33_50 (ls2 := [.ref p, .ref 1, .int r31, .null]) rfl rfl (to_in (pc := 51) rw_33_51 rfl (to_c (pc := 52) rw_33_52 (x := (-1 : Int32)) rfl rfl (b_cne (pc := 53) rw_33_53 (A := r31.toInt) (B := -1) rfl rfl (fun h38 => ?_) (fun h38 => ?_))))
      · refine to_an (pc := 62) rw_33_62 rfl (s_gR (pc := 63) rw_33_63 hG33 (by rcases hp with rfl | rfl <;> rfl) (v := (p + 2)) (by rcases hp with rfl | rfl <;> rfl) (to_an (pc := 66) rw_33_66 rfl ?_))
        have c_39 : M36.2.1 p 2 = (M.2.1 p 2) := (F_n F32 (show ¬ (p < 0) by omega) (F_n F26 (show ¬ (p = 1 ∧ 5 ≤ 2 ∨ 3 ≤ p ∧ p ≤ 5) by omega) (W_n W18 (by omega) c_17)))
        refine tt_gI (pc := 67) rw_33_67 (g_o hG33 (by rcases hp with rfl | rfl <;> rfl)) (v := (M.2.1 p 2)) c_39 (to_in (pc := 70) rw_33_70 rfl (s_ias (pc := 71) rw_33_71 hG33 (by rcases hp with rfl | rfl <;> rfl) (n := 8) (by rcases hp with rfl | rfl <;> rfl) (A := (M.2.1 p 2).toInt) rfl (by omega) (by omega) (fun M41 W40 => ?_)))
        have hG42 := g_w hG33 W40 (A := r31.toInt) rfl (lo := 0) (hi := 3) (by rcases hp with rfl | rfl <;> rfl) (by rcases hp with rfl | rfl <;> rfl) (by omega) (by omega)
        have F43 := FR.w F37 W40 (show (p + 2) = 1 ∧ 5 ≤ ((M.2.1 p 2).toInt).toNat ∨ 3 ≤ (p + 2) ∧ (p + 2) ≤ 5 ∨ 49 ≤ (p + 2) ∧ (p + 2) ≤ 66 by omega)
        refine to_an (pc := 72) rw_33_72 rfl (s_v (pc := 73) rw_33_73 (dp0 hd (by decide)) (ls0 := [.ref 1]) rfl (Nat.le_of_ble_eq_true rfl) (Nat.le_of_ble_eq_true rfl) rfl (to_rc rfl rfl rfl (g_o hG42 rfl)) rfl ?_)
        have c_44 : M41.2.1 1 10 = (M29.2.1 1 10) := (W_n W40 (by omega) (F_n F32 (show ¬ (1 < 0) by decide) rfl))
        have t_45 : (M41.2.1 1 10).toInt = (M29.2.1 1 10).toInt := congrArg Int32.toInt c_44
        have c_46 : M41.2.1 1 11 = (M29.2.1 1 11) := (W_n W40 (by omega) (F_n F32 (show ¬ (1 < 0) by decide) rfl))
        have t_47 : (M41.2.1 1 11).toInt = (M29.2.1 1 11).toInt := congrArg Int32.toInt c_46
        refine C_83 hX (dp1 hd (by decide)) hG42  (fun M51 hG49 F48 p_50 => ?_)
        have F52 := FR.c F43 F48 tg_212
        refine to_in (pc := 76) rw_33_76 rfl (to_c (pc := 77) rw_33_77 (x := (1 : Int32)) rfl rfl (b_ceq (pc := 78) rw_33_78 (A := r31.toInt) (B := 1) rfl rfl (fun h53 => ?_) (fun h53 => ?_)))
        · refine to_an (pc := 86) rw_33_86 rfl (to_an (pc := 87) rw_33_87 rfl (to_in (pc := 88) rw_33_88 rfl (to_c (pc := 89) rw_33_89 (x := (1 : Int32)) rfl rfl (b_cne_f (pc := 90) rw_33_90 (A := r31.toInt) (B := 1) rfl rfl (by omega) (to_c (pc := 93) rw_33_93 (x := (4 : Int32)) rfl rfl (to_go (pc := 94) rw_33_94 (s_v (pc := 98) rw_33_98 (dp0 hd (by decide)) (ls0 := [.ref p, .ref 1, .int (4 : Int32), .null, .null]) rfl (Nat.le_of_ble_eq_true rfl) (Nat.le_of_ble_eq_true rfl) rfl (to_rc rfl rfl rfl (g_o hG49 (by rcases hp with rfl | rfl <;> rfl))) rfl ?_)))))))
          have k_54 : (4 : Int32).toInt = 4 := rfl
          have c_55 : M51.2.1 p 2 = (M.2.1 p 2) := (F_n F48 (show ¬ (p = 1 ∧ 5 ≤ 2 ∨ 3 ≤ p ∧ p ≤ 5) by omega) (W_n W40 (by omega) c_39))
          have t_56 : (M51.2.1 p 2).toInt = (M.2.1 p 2).toInt := congrArg Int32.toInt c_55
          have j_57 := (PI_f (tg_208 F48) (PI_f (fun a i z => W_n W40 (by omega) rfl) (PI_f (tg_99 F32) (PI_f (tg_208 F26) (PI_f (fun a i z => W_n W18 (by omega) rfl) (PI_f (tg_208 F9) (PI_f (tg_208 F3) q1)))))))
          refine C_37 hX (dp1 hd (by decide)) hG49 hp (by omega) (by omega) (by omega) j_57 (p := p) (w := (4 : Int32)) (fun r58 M65 hG60 F59 p_61 p_62 p_63 p_64 => ?_)
          have F66 := FR.c F52 F59 tg_214
          refine to_isn (pc := 101) rw_33_101 (ls2 := [.ref p, .ref 1, .int r31, .int r58]) rfl rfl (to_go (pc := 102) rw_33_102 (to_in (pc := 140) rw_33_140 rfl (b_ine (pc := 141) rw_33_141 (A := r58.toInt) rfl (fun h67 => ?_) (fun h67 => ?_))))
          · refine to_an (pc := 146) rw_33_146 rfl (to_dupr (pc := 147) rw_33_147 (s_gJ (pc := 148) rw_33_148 hG60 (by rcases hp with rfl | rfl <;> rfl) (fun l68 => to_an (pc := 151) rw_33_151 rfl (s_gR (pc := 152) rw_33_152 hG60 (by rcases hp with rfl | rfl <;> rfl) (v := (p + 3)) (by rcases hp with rfl | rfl <;> rfl) (to_an (pc := 155) rw_33_155 rfl ?_)))))
            have c_69 : M65.2.1 p 2 = (M.2.1 p 2) := (F_n F59 (show ¬ (p = 1 ∧ 5 ≤ 2 ∨ 3 ≤ p ∧ p ≤ 5 ∨ 50 ≤ p ∧ p ≤ 57 ∨ 59 ≤ p ∧ p ≤ 66) by omega) c_55)
            refine tt_gI (pc := 156) rw_33_156 (g_o hG60 (by rcases hp with rfl | rfl <;> rfl)) (v := (M.2.1 p 2)) c_69 (s_ial (pc := 159) rw_33_159 hG60 (by rcases hp with rfl | rfl <;> rfl) (n := 8) (by rcases hp with rfl | rfl <;> rfl) (by rcases hp with rfl | rfl <;> rfl) (A := (M.2.1 p 2).toInt) rfl (by omega) (by omega) (lo := 0) (hi := 59) (by rcases hp with rfl | rfl <;> rfl) (by rcases hp with rfl | rfl <;> rfl) (fun v70 w_71 _ _ => to_an (pc := 160) rw_33_160 rfl (s_gR (pc := 161) rw_33_161 hG60 (by rcases hp with rfl | rfl <;> rfl) (v := (p + 4)) (by rcases hp with rfl | rfl <;> rfl) (to_an (pc := 164) rw_33_164 rfl (tt_gI (pc := 165) rw_33_165 (g_o hG60 (by rcases hp with rfl | rfl <;> rfl)) (v := (M.2.1 p 2)) c_69 (s_ial (pc := 168) rw_33_168 hG60 (by rcases hp with rfl | rfl <;> rfl) (n := 8) (by rcases hp with rfl | rfl <;> rfl) (by rcases hp with rfl | rfl <;> rfl) (A := (M.2.1 p 2).toInt) rfl (by omega) (by omega) (lo := 0) (hi := 63) (by rcases hp with rfl | rfl <;> rfl) (by rcases hp with rfl | rfl <;> rfl) (fun v72 w_73 _ _ => s_s (pc := 169) rw_33_169 (dp0 hd (by decide)) (ls0 := [.int v70, .int v72]) rfl (Nat.le_of_ble_eq_true rfl) (Nat.le_of_ble_eq_true rfl) rfl (to_rcs rfl rfl) rfl (s_cl (pc := 0) rw_144_0 rfl (fun l74 => to_in (pc := 1) rw_144_1 rfl (to_in (pc := 2) rw_144_2 rfl (s_sub (pc := 3) rw_144_3 (A := v72.toInt) (B := v70.toInt) rfl rfl (by omega) (fun v75 e76 => ?_))))))))))))
            refine to_c (pc := 4) rw_144_4 (x := (1 : Int32)) rfl rfl (s_add (pc := 5) rw_144_5 (A := v75.toInt) (B := 1) rfl rfl (by omega) (fun v77 e78 => s_anyS (pc := 6) rw_144_6 (fun _ _ => rfl) (fun l79 => s_cl (pc := 7) rw_144_7 rfl (fun l80 => s_anyL (pc := 8) rw_144_8 (fun _ _ => rfl) (fun l81 => to_in (pc := 9) rw_144_9 rfl (s_anyS (pc := 10) rw_144_10 (fun _ _ => rfl) (fun l82 => to_rl (pc := 11) rw_144_11 (s_anyL (pc := 172) rw_33_172 (fun _ _ => rfl) (fun l83 => s_pJ (pc := 173) rw_33_173 hG60 (by rcases hp with rfl | rfl <;> rfl) (fun M85 W84 => ?_))))))))))
            have hG86 := g_wl hG60 W84
            have F87 := FR.wl F66 W84 (show p = 1 ∧ 5 ≤ 4 ∨ 3 ≤ p ∧ p ≤ 5 ∨ 49 ≤ p ∧ p ≤ 66 by omega)
            refine to_an (pc := 176) rw_33_176 rfl (to_dupr (pc := 177) rw_33_177 ?_)
            have c_88 : M85.2.1 p 2 = (M.2.1 p 2) := (W_l W84 c_69)
            refine tt_gI (pc := 178) rw_33_178 (g_o hG86 (by rcases hp with rfl | rfl <;> rfl)) (v := (M.2.1 p 2)) c_88 (to_c (pc := 181) rw_33_181 (x := (1 : Int32)) rfl rfl (s_add (pc := 182) rw_33_182 (A := (M.2.1 p 2).toInt) (B := 1) rfl rfl (by omega) (fun v89 e90 => s_pI (pc := 183) rw_33_183 hG86 (by rcases hp with rfl | rfl <;> rfl) (fun M92 W91 => ?_))))
            have hG93 := g_w hG86 W91 (A := v89.toInt) rfl (lo := 0) (hi := 8) (by rcases hp with rfl | rfl <;> rfl) (by rcases hp with rfl | rfl <;> rfl) (by omega) (by omega)
            have F94 := FR.w F87 W91 (show p = 1 ∧ 5 ≤ 2 ∨ 3 ≤ p ∧ p ≤ 5 ∨ 49 ≤ p ∧ p ≤ 66 by omega)
            refine to_c (pc := 186) rw_33_186 (x := (1 : Int32)) rfl rfl (s_r1 (pc := 187) rw_33_187 (A := 1) rfl (by decide) ?_)
            have k_95 : (1 : Int32).toInt = 1 := rfl
            have j_96 := (PI_f (fun a i z => W_n W91 (by omega) rfl) (PI_f (fun a i z => W_l W84 rfl) p_63))
            have c_97 : M92.2.1 1 10 = (M65.2.1 1 10) := (W_n W91 (by omega) (W_l W84 rfl))
            have t_98 : (M92.2.1 1 10).toInt = (M65.2.1 1 10).toInt := congrArg Int32.toInt c_97
            have c_99 : M92.2.1 1 11 = (M65.2.1 1 11) := (W_n W91 (by omega) (W_l W84 rfl))
            have t_100 : (M92.2.1 1 11).toInt = (M65.2.1 1 11).toInt := congrArg Int32.toInt c_99
            exact h (1 : Int32) M92 hG93 F94 (by decide) (by decide) j_96 (by omega)
          · refine to_c (pc := 144) rw_33_144 (x := (0 : Int32)) rfl rfl (s_r1 (pc := 145) rw_33_145 (A := 0) rfl (by decide) ?_)
            have k_101 : (0 : Int32).toInt = 0 := rfl
            exact h (0 : Int32) M65 hG60 F66 (by decide) (by decide) p_63 (by omega)
        · refine to_in (pc := 81) rw_33_81 rfl (to_c (pc := 82) rw_33_82 (x := (2 : Int32)) rfl rfl (b_cne (pc := 83) rw_33_83 (A := r31.toInt) (B := 2) rfl rfl (fun h102 => ?_) (fun h102 => ?_)))
          · refine to_an (pc := 105) rw_33_105 rfl (to_an (pc := 106) rw_33_106 rfl (to_in (pc := 107) rw_33_107 rfl (b_ine (pc := 108) rw_33_108 (A := r31.toInt) rfl (fun h103 => ?_) (fun h103 => ?_))))
            · refine to_c (pc := 115) rw_33_115 (x := (1 : Int32)) rfl rfl (s_v (pc := 116) rw_33_116 (dp0 hd (by decide)) (ls0 := [.ref p, .ref 1, .int (1 : Int32), .null, .null, .null]) rfl (Nat.le_of_ble_eq_true rfl) (Nat.le_of_ble_eq_true rfl) rfl (to_rc rfl rfl rfl (g_o hG49 (by rcases hp with rfl | rfl <;> rfl))) rfl ?_)
              have k_104 : (1 : Int32).toInt = 1 := rfl
              have c_105 : M51.2.1 p 2 = (M.2.1 p 2) := (F_n F48 (show ¬ (p = 1 ∧ 5 ≤ 2 ∨ 3 ≤ p ∧ p ≤ 5) by omega) (W_n W40 (by omega) c_39))
              have t_106 : (M51.2.1 p 2).toInt = (M.2.1 p 2).toInt := congrArg Int32.toInt c_105
              have j_107 := (PI_f (tg_208 F48) (PI_f (fun a i z => W_n W40 (by omega) rfl) (PI_f (tg_99 F32) (PI_f (tg_208 F26) (PI_f (fun a i z => W_n W18 (by omega) rfl) (PI_f (tg_208 F9) (PI_f (tg_208 F3) q1)))))))
              refine C_36 hX (dp1 hd (by decide)) hG49 hp (by omega) (by omega) (by omega) j_107 (p := p) (w := (1 : Int32)) (fun r108 M115 hG110 F109 p_111 p_112 p_113 p_114 => ?_)
              have F116 := FR.c F52 F109 tg_214
              refine b_ieq (pc := 119) rw_33_119 (A := r108.toInt) rfl (fun h117 => ?_) (fun h117 => ?_)
              · refine to_c (pc := 138) rw_33_138 (x := (0 : Int32)) rfl rfl (to_isn (pc := 139) rw_33_139 (ls2 := [.ref p, .ref 1, .int r31, .int (0 : Int32)]) rfl rfl (to_in (pc := 140) rw_33_140 rfl (b_ine_f (pc := 141) rw_33_141 (A := 0) rfl (by decide) (to_c (pc := 144) rw_33_144 (x := (0 : Int32)) rfl rfl (s_r1 (pc := 145) rw_33_145 (A := 0) rfl (by decide) ?_)))))
                have k_118 : (0 : Int32).toInt = 0 := rfl
                exact h (0 : Int32) M115 hG110 F116 (by decide) (by decide) p_113 (by omega)
              · refine to_in (pc := 122) rw_33_122 rfl (b_ieq_f (pc := 123) rw_33_123 (A := r31.toInt) rfl (by omega) (to_an (pc := 126) rw_33_126 rfl (to_an (pc := 127) rw_33_127 rfl (s_v (pc := 128) rw_33_128 (dp0 hd (by decide)) (ls0 := [.ref p, .ref 1]) rfl (Nat.le_of_ble_eq_true rfl) (Nat.le_of_ble_eq_true rfl) rfl (to_rc rfl rfl rfl (g_o hG110 (by rcases hp with rfl | rfl <;> rfl))) rfl ?_))))
                have c_119 : M115.2.1 p 2 = (M.2.1 p 2) := (F_n F109 (show ¬ (p = 1 ∧ 5 ≤ 2 ∨ 3 ≤ p ∧ p ≤ 5 ∨ 50 ≤ p ∧ p ≤ 57 ∨ 59 ≤ p ∧ p ≤ 66) by omega) c_105)
                have t_120 : (M115.2.1 p 2).toInt = (M.2.1 p 2).toInt := congrArg Int32.toInt c_119
                refine C_38 hX (dp1 hd (by decide)) hG110 hp (by omega) p_113 (p := p) (fun r121 M128 hG123 F122 p_124 p_125 p_126 p_127 => ?_)
                have F129 := FR.c F116 F122 tg_214
                refine b_ieq (pc := 131) rw_33_131 (A := r121.toInt) rfl (fun h130 => ?_) (fun h130 => ?_)
                · refine to_c (pc := 138) rw_33_138 (x := (0 : Int32)) rfl rfl (to_isn (pc := 139) rw_33_139 (ls2 := [.ref p, .ref 1, .int r31, .int (0 : Int32)]) rfl rfl (to_in (pc := 140) rw_33_140 rfl (b_ine_f (pc := 141) rw_33_141 (A := 0) rfl (by decide) (to_c (pc := 144) rw_33_144 (x := (0 : Int32)) rfl rfl (s_r1 (pc := 145) rw_33_145 (A := 0) rfl (by decide) ?_)))))
                  have k_131 : (0 : Int32).toInt = 0 := rfl
                  exact h (0 : Int32) M128 hG123 F129 (by decide) (by decide) p_126 (by omega)
                · refine to_c (pc := 134) rw_33_134 (x := (1 : Int32)) rfl rfl (to_go (pc := 135) rw_33_135 (to_isn (pc := 139) rw_33_139 (ls2 := [.ref p, .ref 1, .int r31, .int (1 : Int32)]) rfl rfl (to_in (pc := 140) rw_33_140 rfl (b_ine_t (pc := 141) rw_33_141 (A := 1) rfl (by decide) (to_an (pc := 146) rw_33_146 rfl (to_dupr (pc := 147) rw_33_147 (s_gJ (pc := 148) rw_33_148 hG123 (by rcases hp with rfl | rfl <;> rfl) (fun l132 => to_an (pc := 151) rw_33_151 rfl (s_gR (pc := 152) rw_33_152 hG123 (by rcases hp with rfl | rfl <;> rfl) (v := (p + 3)) (by rcases hp with rfl | rfl <;> rfl) (to_an (pc := 155) rw_33_155 rfl ?_))))))))))
                  have c_133 : M128.2.1 p 2 = (M.2.1 p 2) := (F_n F122 (show ¬ (p = 1 ∧ 5 ≤ 2 ∨ 3 ≤ p ∧ p ≤ 5 ∨ 50 ≤ p ∧ p ≤ 57 ∨ 59 ≤ p ∧ p ≤ 66) by omega) c_119)
                  refine tt_gI (pc := 156) rw_33_156 (g_o hG123 (by rcases hp with rfl | rfl <;> rfl)) (v := (M.2.1 p 2)) c_133 (s_ial (pc := 159) rw_33_159 hG123 (by rcases hp with rfl | rfl <;> rfl) (n := 8) (by rcases hp with rfl | rfl <;> rfl) (by rcases hp with rfl | rfl <;> rfl) (A := (M.2.1 p 2).toInt) rfl (by omega) (by omega) (lo := 0) (hi := 59) (by rcases hp with rfl | rfl <;> rfl) (by rcases hp with rfl | rfl <;> rfl) (fun v134 w_135 _ _ => to_an (pc := 160) rw_33_160 rfl (s_gR (pc := 161) rw_33_161 hG123 (by rcases hp with rfl | rfl <;> rfl) (v := (p + 4)) (by rcases hp with rfl | rfl <;> rfl) (to_an (pc := 164) rw_33_164 rfl (tt_gI (pc := 165) rw_33_165 (g_o hG123 (by rcases hp with rfl | rfl <;> rfl)) (v := (M.2.1 p 2)) c_133 (s_ial (pc := 168) rw_33_168 hG123 (by rcases hp with rfl | rfl <;> rfl) (n := 8) (by rcases hp with rfl | rfl <;> rfl) (by rcases hp with rfl | rfl <;> rfl) (A := (M.2.1 p 2).toInt) rfl (by omega) (by omega) (lo := 0) (hi := 63) (by rcases hp with rfl | rfl <;> rfl) (by rcases hp with rfl | rfl <;> rfl) (fun v136 w_137 _ _ => s_s (pc := 169) rw_33_169 (dp0 hd (by decide)) (ls0 := [.int v134, .int v136]) rfl (Nat.le_of_ble_eq_true rfl) (Nat.le_of_ble_eq_true rfl) rfl (to_rcs rfl rfl) rfl (s_cl (pc := 0) rw_144_0 rfl (fun l138 => to_in (pc := 1) rw_144_1 rfl (to_in (pc := 2) rw_144_2 rfl (s_sub (pc := 3) rw_144_3 (A := v136.toInt) (B := v134.toInt) rfl rfl (by omega) (fun v139 e140 => ?_))))))))))))
                  refine to_c (pc := 4) rw_144_4 (x := (1 : Int32)) rfl rfl (s_add (pc := 5) rw_144_5 (A := v139.toInt) (B := 1) rfl rfl (by omega) (fun v141 e142 => s_anyS (pc := 6) rw_144_6 (fun _ _ => rfl) (fun l143 => s_cl (pc := 7) rw_144_7 rfl (fun l144 => s_anyL (pc := 8) rw_144_8 (fun _ _ => rfl) (fun l145 => to_in (pc := 9) rw_144_9 rfl (s_anyS (pc := 10) rw_144_10 (fun _ _ => rfl) (fun l146 => to_rl (pc := 11) rw_144_11 (s_anyL (pc := 172) rw_33_172 (fun _ _ => rfl) (fun l147 => s_pJ (pc := 173) rw_33_173 hG123 (by rcases hp with rfl | rfl <;> rfl) (fun M149 W148 => ?_))))))))))
                  have hG150 := g_wl hG123 W148
                  have F151 := FR.wl F129 W148 (show p = 1 ∧ 5 ≤ 4 ∨ 3 ≤ p ∧ p ≤ 5 ∨ 49 ≤ p ∧ p ≤ 66 by omega)
                  refine to_an (pc := 176) rw_33_176 rfl (to_dupr (pc := 177) rw_33_177 ?_)
                  have c_152 : M149.2.1 p 2 = (M.2.1 p 2) := (W_l W148 c_133)
                  refine tt_gI (pc := 178) rw_33_178 (g_o hG150 (by rcases hp with rfl | rfl <;> rfl)) (v := (M.2.1 p 2)) c_152 (to_c (pc := 181) rw_33_181 (x := (1 : Int32)) rfl rfl (s_add (pc := 182) rw_33_182 (A := (M.2.1 p 2).toInt) (B := 1) rfl rfl (by omega) (fun v153 e154 => s_pI (pc := 183) rw_33_183 hG150 (by rcases hp with rfl | rfl <;> rfl) (fun M156 W155 => ?_))))
                  have hG157 := g_w hG150 W155 (A := v153.toInt) rfl (lo := 0) (hi := 8) (by rcases hp with rfl | rfl <;> rfl) (by rcases hp with rfl | rfl <;> rfl) (by omega) (by omega)
                  have F158 := FR.w F151 W155 (show p = 1 ∧ 5 ≤ 2 ∨ 3 ≤ p ∧ p ≤ 5 ∨ 49 ≤ p ∧ p ≤ 66 by omega)
                  refine to_c (pc := 186) rw_33_186 (x := (1 : Int32)) rfl rfl (s_r1 (pc := 187) rw_33_187 (A := 1) rfl (by decide) ?_)
                  have j_159 := (PI_f (fun a i z => W_n W155 (by omega) rfl) (PI_f (fun a i z => W_l W148 rfl) p_126))
                  have c_160 : M156.2.1 1 10 = (M128.2.1 1 10) := (W_n W155 (by omega) (W_l W148 rfl))
                  have t_161 : (M156.2.1 1 10).toInt = (M128.2.1 1 10).toInt := congrArg Int32.toInt c_160
                  have c_162 : M156.2.1 1 11 = (M128.2.1 1 11) := (W_n W155 (by omega) (W_l W148 rfl))
                  have t_163 : (M156.2.1 1 11).toInt = (M128.2.1 1 11).toInt := congrArg Int32.toInt c_162
                  exact h (1 : Int32) M156 hG157 F158 (by decide) (by decide) j_159 (by omega)
            · refine to_c (pc := 111) rw_33_111 (x := (2 : Int32)) rfl rfl (to_go (pc := 112) rw_33_112 (s_v (pc := 116) rw_33_116 (dp0 hd (by decide)) (ls0 := [.ref p, .ref 1, .int (2 : Int32), .null, .null, .null]) rfl (Nat.le_of_ble_eq_true rfl) (Nat.le_of_ble_eq_true rfl) rfl (to_rc rfl rfl rfl (g_o hG49 (by rcases hp with rfl | rfl <;> rfl))) rfl ?_))
              have k_164 : (2 : Int32).toInt = 2 := rfl
              have c_165 : M51.2.1 p 2 = (M.2.1 p 2) := (F_n F48 (show ¬ (p = 1 ∧ 5 ≤ 2 ∨ 3 ≤ p ∧ p ≤ 5) by omega) (W_n W40 (by omega) c_39))
              have t_166 : (M51.2.1 p 2).toInt = (M.2.1 p 2).toInt := congrArg Int32.toInt c_165
              have j_167 := (PI_f (tg_208 F48) (PI_f (fun a i z => W_n W40 (by omega) rfl) (PI_f (tg_99 F32) (PI_f (tg_208 F26) (PI_f (fun a i z => W_n W18 (by omega) rfl) (PI_f (tg_208 F9) (PI_f (tg_208 F3) q1)))))))
              refine C_36 hX (dp1 hd (by decide)) hG49 hp (by omega) (by omega) (by omega) j_167 (p := p) (w := (2 : Int32)) (fun r168 M175 hG170 F169 p_171 p_172 p_173 p_174 => ?_)
              have F176 := FR.c F52 F169 tg_214
              refine b_ieq (pc := 119) rw_33_119 (A := r168.toInt) rfl (fun h177 => ?_) (fun h177 => ?_)
              · refine to_c (pc := 138) rw_33_138 (x := (0 : Int32)) rfl rfl (to_isn (pc := 139) rw_33_139 (ls2 := [.ref p, .ref 1, .int r31, .int (0 : Int32)]) rfl rfl (to_in (pc := 140) rw_33_140 rfl (b_ine_f (pc := 141) rw_33_141 (A := 0) rfl (by decide) (to_c (pc := 144) rw_33_144 (x := (0 : Int32)) rfl rfl (s_r1 (pc := 145) rw_33_145 (A := 0) rfl (by decide) ?_)))))
                have k_178 : (0 : Int32).toInt = 0 := rfl
                exact h (0 : Int32) M175 hG170 F176 (by decide) (by decide) p_173 (by omega)
              · refine to_in (pc := 122) rw_33_122 rfl (b_ieq_t (pc := 123) rw_33_123 (A := r31.toInt) rfl (by omega) (to_c (pc := 134) rw_33_134 (x := (1 : Int32)) rfl rfl (to_go (pc := 135) rw_33_135 (to_isn (pc := 139) rw_33_139 (ls2 := [.ref p, .ref 1, .int r31, .int (1 : Int32)]) rfl rfl (to_in (pc := 140) rw_33_140 rfl (b_ine_t (pc := 141) rw_33_141 (A := 1) rfl (by decide) (to_an (pc := 146) rw_33_146 rfl (to_dupr (pc := 147) rw_33_147 (s_gJ (pc := 148) rw_33_148 hG170 (by rcases hp with rfl | rfl <;> rfl) (fun l179 => to_an (pc := 151) rw_33_151 rfl (s_gR (pc := 152) rw_33_152 hG170 (by rcases hp with rfl | rfl <;> rfl) (v := (p + 3)) (by rcases hp with rfl | rfl <;> rfl) ?_)))))))))))
                refine to_an (pc := 155) rw_33_155 rfl ?_
                have c_180 : M175.2.1 p 2 = (M.2.1 p 2) := (F_n F169 (show ¬ (p = 1 ∧ 5 ≤ 2 ∨ 3 ≤ p ∧ p ≤ 5 ∨ 50 ≤ p ∧ p ≤ 57 ∨ 59 ≤ p ∧ p ≤ 66) by omega) c_165)
                refine tt_gI (pc := 156) rw_33_156 (g_o hG170 (by rcases hp with rfl | rfl <;> rfl)) (v := (M.2.1 p 2)) c_180 (s_ial (pc := 159) rw_33_159 hG170 (by rcases hp with rfl | rfl <;> rfl) (n := 8) (by rcases hp with rfl | rfl <;> rfl) (by rcases hp with rfl | rfl <;> rfl) (A := (M.2.1 p 2).toInt) rfl (by omega) (by omega) (lo := 0) (hi := 59) (by rcases hp with rfl | rfl <;> rfl) (by rcases hp with rfl | rfl <;> rfl) (fun v181 w_182 _ _ => to_an (pc := 160) rw_33_160 rfl (s_gR (pc := 161) rw_33_161 hG170 (by rcases hp with rfl | rfl <;> rfl) (v := (p + 4)) (by rcases hp with rfl | rfl <;> rfl) (to_an (pc := 164) rw_33_164 rfl (tt_gI (pc := 165) rw_33_165 (g_o hG170 (by rcases hp with rfl | rfl <;> rfl)) (v := (M.2.1 p 2)) c_180 (s_ial (pc := 168) rw_33_168 hG170 (by rcases hp with rfl | rfl <;> rfl) (n := 8) (by rcases hp with rfl | rfl <;> rfl) (by rcases hp with rfl | rfl <;> rfl) (A := (M.2.1 p 2).toInt) rfl (by omega) (by omega) (lo := 0) (hi := 63) (by rcases hp with rfl | rfl <;> rfl) (by rcases hp with rfl | rfl <;> rfl) (fun v183 w_184 _ _ => s_s (pc := 169) rw_33_169 (dp0 hd (by decide)) (ls0 := [.int v181, .int v183]) rfl (Nat.le_of_ble_eq_true rfl) (Nat.le_of_ble_eq_true rfl) rfl (to_rcs rfl rfl) rfl (s_cl (pc := 0) rw_144_0 rfl (fun l185 => to_in (pc := 1) rw_144_1 rfl (to_in (pc := 2) rw_144_2 rfl (s_sub (pc := 3) rw_144_3 (A := v183.toInt) (B := v181.toInt) rfl rfl (by omega) (fun v186 e187 => ?_))))))))))))
                refine to_c (pc := 4) rw_144_4 (x := (1 : Int32)) rfl rfl (s_add (pc := 5) rw_144_5 (A := v186.toInt) (B := 1) rfl rfl (by omega) (fun v188 e189 => s_anyS (pc := 6) rw_144_6 (fun _ _ => rfl) (fun l190 => s_cl (pc := 7) rw_144_7 rfl (fun l191 => s_anyL (pc := 8) rw_144_8 (fun _ _ => rfl) (fun l192 => to_in (pc := 9) rw_144_9 rfl (s_anyS (pc := 10) rw_144_10 (fun _ _ => rfl) (fun l193 => to_rl (pc := 11) rw_144_11 (s_anyL (pc := 172) rw_33_172 (fun _ _ => rfl) (fun l194 => s_pJ (pc := 173) rw_33_173 hG170 (by rcases hp with rfl | rfl <;> rfl) (fun M196 W195 => ?_))))))))))
                have hG197 := g_wl hG170 W195
                have F198 := FR.wl F176 W195 (show p = 1 ∧ 5 ≤ 4 ∨ 3 ≤ p ∧ p ≤ 5 ∨ 49 ≤ p ∧ p ≤ 66 by omega)
                refine to_an (pc := 176) rw_33_176 rfl (to_dupr (pc := 177) rw_33_177 ?_)
                have c_199 : M196.2.1 p 2 = (M.2.1 p 2) := (W_l W195 c_180)
                refine tt_gI (pc := 178) rw_33_178 (g_o hG197 (by rcases hp with rfl | rfl <;> rfl)) (v := (M.2.1 p 2)) c_199 (to_c (pc := 181) rw_33_181 (x := (1 : Int32)) rfl rfl (s_add (pc := 182) rw_33_182 (A := (M.2.1 p 2).toInt) (B := 1) rfl rfl (by omega) (fun v200 e201 => s_pI (pc := 183) rw_33_183 hG197 (by rcases hp with rfl | rfl <;> rfl) (fun M203 W202 => ?_))))
                have hG204 := g_w hG197 W202 (A := v200.toInt) rfl (lo := 0) (hi := 8) (by rcases hp with rfl | rfl <;> rfl) (by rcases hp with rfl | rfl <;> rfl) (by omega) (by omega)
                have F205 := FR.w F198 W202 (show p = 1 ∧ 5 ≤ 2 ∨ 3 ≤ p ∧ p ≤ 5 ∨ 49 ≤ p ∧ p ≤ 66 by omega)
                refine to_c (pc := 186) rw_33_186 (x := (1 : Int32)) rfl rfl (s_r1 (pc := 187) rw_33_187 (A := 1) rfl (by decide) ?_)
                have k_206 : (1 : Int32).toInt = 1 := rfl
                have j_207 := (PI_f (fun a i z => W_n W202 (by omega) rfl) (PI_f (fun a i z => W_l W195 rfl) p_173))
                have c_208 : M203.2.1 1 10 = (M175.2.1 1 10) := (W_n W202 (by omega) (W_l W195 rfl))
                have t_209 : (M203.2.1 1 10).toInt = (M175.2.1 1 10).toInt := congrArg Int32.toInt c_208
                have c_210 : M203.2.1 1 11 = (M175.2.1 1 11) := (W_n W202 (by omega) (W_l W195 rfl))
                have t_211 : (M203.2.1 1 11).toInt = (M175.2.1 1 11).toInt := congrArg Int32.toInt c_210
                exact h (1 : Int32) M203 hG204 F205 (by decide) (by decide) j_207 (by omega)
          · refine to_an (pc := 86) rw_33_86 rfl (to_an (pc := 87) rw_33_87 rfl (to_in (pc := 88) rw_33_88 rfl (to_c (pc := 89) rw_33_89 (x := (1 : Int32)) rfl rfl (b_cne_t (pc := 90) rw_33_90 (A := r31.toInt) (B := 1) rfl rfl (by omega) (to_c (pc := 97) rw_33_97 (x := (5 : Int32)) rfl rfl (s_v (pc := 98) rw_33_98 (dp0 hd (by decide)) (ls0 := [.ref p, .ref 1, .int (5 : Int32), .null, .null]) rfl (Nat.le_of_ble_eq_true rfl) (Nat.le_of_ble_eq_true rfl) rfl (to_rc rfl rfl rfl (g_o hG49 (by rcases hp with rfl | rfl <;> rfl))) rfl ?_))))))
            have k_212 : (5 : Int32).toInt = 5 := rfl
            have c_213 : M51.2.1 p 2 = (M.2.1 p 2) := (F_n F48 (show ¬ (p = 1 ∧ 5 ≤ 2 ∨ 3 ≤ p ∧ p ≤ 5) by omega) (W_n W40 (by omega) c_39))
            have t_214 : (M51.2.1 p 2).toInt = (M.2.1 p 2).toInt := congrArg Int32.toInt c_213
            have j_215 := (PI_f (tg_208 F48) (PI_f (fun a i z => W_n W40 (by omega) rfl) (PI_f (tg_99 F32) (PI_f (tg_208 F26) (PI_f (fun a i z => W_n W18 (by omega) rfl) (PI_f (tg_208 F9) (PI_f (tg_208 F3) q1)))))))
            refine C_37 hX (dp1 hd (by decide)) hG49 hp (by omega) (by omega) (by omega) j_215 (p := p) (w := (5 : Int32)) (fun r216 M223 hG218 F217 p_219 p_220 p_221 p_222 => ?_)
            have F224 := FR.c F52 F217 tg_214
            refine to_isn (pc := 101) rw_33_101 (ls2 := [.ref p, .ref 1, .int r31, .int r216]) rfl rfl (to_go (pc := 102) rw_33_102 (to_in (pc := 140) rw_33_140 rfl (b_ine (pc := 141) rw_33_141 (A := r216.toInt) rfl (fun h225 => ?_) (fun h225 => ?_))))
            · refine to_an (pc := 146) rw_33_146 rfl (to_dupr (pc := 147) rw_33_147 (s_gJ (pc := 148) rw_33_148 hG218 (by rcases hp with rfl | rfl <;> rfl) (fun l226 => to_an (pc := 151) rw_33_151 rfl (s_gR (pc := 152) rw_33_152 hG218 (by rcases hp with rfl | rfl <;> rfl) (v := (p + 3)) (by rcases hp with rfl | rfl <;> rfl) (to_an (pc := 155) rw_33_155 rfl ?_)))))
              have c_227 : M223.2.1 p 2 = (M.2.1 p 2) := (F_n F217 (show ¬ (p = 1 ∧ 5 ≤ 2 ∨ 3 ≤ p ∧ p ≤ 5 ∨ 50 ≤ p ∧ p ≤ 57 ∨ 59 ≤ p ∧ p ≤ 66) by omega) c_213)
              refine tt_gI (pc := 156) rw_33_156 (g_o hG218 (by rcases hp with rfl | rfl <;> rfl)) (v := (M.2.1 p 2)) c_227 (s_ial (pc := 159) rw_33_159 hG218 (by rcases hp with rfl | rfl <;> rfl) (n := 8) (by rcases hp with rfl | rfl <;> rfl) (by rcases hp with rfl | rfl <;> rfl) (A := (M.2.1 p 2).toInt) rfl (by omega) (by omega) (lo := 0) (hi := 59) (by rcases hp with rfl | rfl <;> rfl) (by rcases hp with rfl | rfl <;> rfl) (fun v228 w_229 _ _ => to_an (pc := 160) rw_33_160 rfl (s_gR (pc := 161) rw_33_161 hG218 (by rcases hp with rfl | rfl <;> rfl) (v := (p + 4)) (by rcases hp with rfl | rfl <;> rfl) (to_an (pc := 164) rw_33_164 rfl (tt_gI (pc := 165) rw_33_165 (g_o hG218 (by rcases hp with rfl | rfl <;> rfl)) (v := (M.2.1 p 2)) c_227 (s_ial (pc := 168) rw_33_168 hG218 (by rcases hp with rfl | rfl <;> rfl) (n := 8) (by rcases hp with rfl | rfl <;> rfl) (by rcases hp with rfl | rfl <;> rfl) (A := (M.2.1 p 2).toInt) rfl (by omega) (by omega) (lo := 0) (hi := 63) (by rcases hp with rfl | rfl <;> rfl) (by rcases hp with rfl | rfl <;> rfl) (fun v230 w_231 _ _ => s_s (pc := 169) rw_33_169 (dp0 hd (by decide)) (ls0 := [.int v228, .int v230]) rfl (Nat.le_of_ble_eq_true rfl) (Nat.le_of_ble_eq_true rfl) rfl (to_rcs rfl rfl) rfl (s_cl (pc := 0) rw_144_0 rfl (fun l232 => to_in (pc := 1) rw_144_1 rfl (to_in (pc := 2) rw_144_2 rfl (s_sub (pc := 3) rw_144_3 (A := v230.toInt) (B := v228.toInt) rfl rfl (by omega) (fun v233 e234 => ?_))))))))))))
              refine to_c (pc := 4) rw_144_4 (x := (1 : Int32)) rfl rfl (s_add (pc := 5) rw_144_5 (A := v233.toInt) (B := 1) rfl rfl (by omega) (fun v235 e236 => s_anyS (pc := 6) rw_144_6 (fun _ _ => rfl) (fun l237 => s_cl (pc := 7) rw_144_7 rfl (fun l238 => s_anyL (pc := 8) rw_144_8 (fun _ _ => rfl) (fun l239 => to_in (pc := 9) rw_144_9 rfl (s_anyS (pc := 10) rw_144_10 (fun _ _ => rfl) (fun l240 => to_rl (pc := 11) rw_144_11 (s_anyL (pc := 172) rw_33_172 (fun _ _ => rfl) (fun l241 => s_pJ (pc := 173) rw_33_173 hG218 (by rcases hp with rfl | rfl <;> rfl) (fun M243 W242 => ?_))))))))))
              have hG244 := g_wl hG218 W242
              have F245 := FR.wl F224 W242 (show p = 1 ∧ 5 ≤ 4 ∨ 3 ≤ p ∧ p ≤ 5 ∨ 49 ≤ p ∧ p ≤ 66 by omega)
              refine to_an (pc := 176) rw_33_176 rfl (to_dupr (pc := 177) rw_33_177 ?_)
              have c_246 : M243.2.1 p 2 = (M.2.1 p 2) := (W_l W242 c_227)
              refine tt_gI (pc := 178) rw_33_178 (g_o hG244 (by rcases hp with rfl | rfl <;> rfl)) (v := (M.2.1 p 2)) c_246 (to_c (pc := 181) rw_33_181 (x := (1 : Int32)) rfl rfl (s_add (pc := 182) rw_33_182 (A := (M.2.1 p 2).toInt) (B := 1) rfl rfl (by omega) (fun v247 e248 => s_pI (pc := 183) rw_33_183 hG244 (by rcases hp with rfl | rfl <;> rfl) (fun M250 W249 => ?_))))
              have hG251 := g_w hG244 W249 (A := v247.toInt) rfl (lo := 0) (hi := 8) (by rcases hp with rfl | rfl <;> rfl) (by rcases hp with rfl | rfl <;> rfl) (by omega) (by omega)
              have F252 := FR.w F245 W249 (show p = 1 ∧ 5 ≤ 2 ∨ 3 ≤ p ∧ p ≤ 5 ∨ 49 ≤ p ∧ p ≤ 66 by omega)
              refine to_c (pc := 186) rw_33_186 (x := (1 : Int32)) rfl rfl (s_r1 (pc := 187) rw_33_187 (A := 1) rfl (by decide) ?_)
              have k_253 : (1 : Int32).toInt = 1 := rfl
              have j_254 := (PI_f (fun a i z => W_n W249 (by omega) rfl) (PI_f (fun a i z => W_l W242 rfl) p_221))
              have c_255 : M250.2.1 1 10 = (M223.2.1 1 10) := (W_n W249 (by omega) (W_l W242 rfl))
              have t_256 : (M250.2.1 1 10).toInt = (M223.2.1 1 10).toInt := congrArg Int32.toInt c_255
              have c_257 : M250.2.1 1 11 = (M223.2.1 1 11) := (W_n W249 (by omega) (W_l W242 rfl))
              have t_258 : (M250.2.1 1 11).toInt = (M223.2.1 1 11).toInt := congrArg Int32.toInt c_257
              exact h (1 : Int32) M250 hG251 F252 (by decide) (by decide) j_254 (by omega)
            · refine to_c (pc := 144) rw_33_144 (x := (0 : Int32)) rfl rfl (s_r1 (pc := 145) rw_33_145 (A := 0) rfl (by decide) ?_)
              have k_259 : (0 : Int32).toInt = 0 := rfl
              exact h (0 : Int32) M223 hG218 F224 (by decide) (by decide) p_221 (by omega)
      · refine to_an (pc := 56) rw_33_56 rfl (to_c (pc := 57) rw_33_57 (x := (1 : Int32)) rfl rfl (s_v (pc := 58) rw_33_58 (dp0 hd (by decide)) (ls0 := [.ref 1, .int (1 : Int32)]) rfl (Nat.le_of_ble_eq_true rfl) (Nat.le_of_ble_eq_true rfl) rfl (to_rc rfl rfl rfl (g_o hG33 rfl)) rfl (to_an (pc := 0) rw_84_0 rfl (to_in (pc := 1) rw_84_1 rfl (s_pI (pc := 2) rw_84_2 hG33 rfl (fun M261 W260 => ?_))))))
        have hG262 := g_wf hG33 W260 rfl rfl (by decide)
        have F263 := FR.w F37 W260 (show 1 = 1 ∧ 5 ≤ 10 ∨ 3 ≤ 1 ∧ 1 ≤ 5 ∨ 49 ≤ 1 ∧ 1 ≤ 66 by decide)
        refine to_an (pc := 5) rw_84_5 rfl (to_an (pc := 6) rw_84_6 rfl ?_)
        have c_264 : M261.2.1 1 9 = (M29.2.1 1 9) := (W_n W260 (by decide) (F_n F32 (show ¬ (1 < 0) by decide) rfl))
        refine tt_gI (pc := 7) rw_84_7 (g_o hG262 rfl) (v := (M29.2.1 1 9)) c_264 (s_pI (pc := 10) rw_84_10 hG262 rfl (fun M266 W265 => ?_))
        have hG267 := g_wf hG262 W265 rfl rfl (by decide)
        have F268 := FR.w F263 W265 (show 1 = 1 ∧ 5 ≤ 11 ∨ 3 ≤ 1 ∧ 1 ≤ 5 ∨ 49 ≤ 1 ∧ 1 ≤ 66 by decide)
        refine to_c (pc := 13) rw_84_13 (x := (0 : Int32)) rfl rfl (s_r1 (pc := 14) rw_84_14 (A := 0) rfl (by decide) (s_r1 (pc := 61) rw_33_61 (A := 0) rfl (by decide) ?_))
        have k_269 : (0 : Int32).toInt = 0 := rfl
        have j_270 := (PI_f (fun a i z => W_n W265 (by /-r1,11-/ omega) rfl) (PI_f (fun a i z => W_n W260 (by /-r1,10-/ omega) rfl) (PI_f (tg_99 F32) (PI_f (tg_208 F26) (PI_f (fun a i z => W_n W18 (by omega) rfl) (PI_f (tg_208 F9) (PI_f (tg_208 F3) q1)))))))
        have c_271 : M266.2.1 1 10 = (1 : Int32) := (W_n W265 (by decide) (W_e W260))
        have k_272 : (1 : Int32).toInt = 1 := rfl
        have t_273 : (M266.2.1 1 10).toInt = (1 : Int32).toInt := congrArg Int32.toInt c_271
        have c_274 : M266.2.1 1 11 = (M29.2.1 1 9) := (W_e W265)
        have t_275 : (M266.2.1 1 11).toInt = (M29.2.1 1 9).toInt := congrArg Int32.toInt c_274
        exact h (0 : Int32) M266 hG267 F268 (by decide) (by decide) j_270 (by omega)
    · refine to_c (pc := 27) rw_33_27 (x := (0 : Int32)) rfl rfl (s_r1 (pc := 28) rw_33_28 (A := 0) rfl (by decide) ?_)
      have k_276 : (0 : Int32).toInt = 0 := rfl
      have j_277 := (PI_f (tg_208 F9) (PI_f (tg_208 F3) q1))
      exact h (0 : Int32) M14 hG10 F15 (by decide) (by decide) j_277 (by omega)
  · refine to_an (pc := 9) rw_33_9 rfl (to_c (pc := 10) rw_33_10 (x := (2 : Int32)) rfl rfl (s_v (pc := 11) rw_33_11 (dp0 hd (by decide)) (ls0 := [.ref 1, .int (2 : Int32)]) rfl (Nat.le_of_ble_eq_true rfl) (Nat.le_of_ble_eq_true rfl) rfl (to_rc rfl rfl rfl (g_o hG rfl)) rfl (to_an (pc := 0) rw_84_0 rfl (to_in (pc := 1) rw_84_1 rfl (s_pI (pc := 2) rw_84_2 hG rfl (fun M279 W278 => ?_))))))
    have hG280 := g_wf hG W278 rfl rfl (by decide)
    have F281 := FR.w F0 W278 (show 1 = 1 ∧ 5 ≤ 10 ∨ 3 ≤ 1 ∧ 1 ≤ 5 ∨ 49 ≤ 1 ∧ 1 ≤ 66 by decide)
    refine to_an (pc := 5) rw_84_5 rfl (to_an (pc := 6) rw_84_6 rfl ?_)
    have c_282 : M279.2.1 1 9 = (M.2.1 1 9) := (W_n W278 (by decide) rfl)
    refine tt_gI (pc := 7) rw_84_7 (g_o hG280 rfl) (v := (M.2.1 1 9)) c_282 (s_pI (pc := 10) rw_84_10 hG280 rfl (fun M284 W283 => ?_))
    have hG285 := g_wf hG280 W283 rfl rfl (by decide)
    have F286 := FR.w F281 W283 (show 1 = 1 ∧ 5 ≤ 11 ∨ 3 ≤ 1 ∧ 1 ≤ 5 ∨ 49 ≤ 1 ∧ 1 ≤ 66 by decide)
    refine to_c (pc := 13) rw_84_13 (x := (0 : Int32)) rfl rfl (s_r1 (pc := 14) rw_84_14 (A := 0) rfl (by decide) (s_r1 (pc := 14) rw_33_14 (A := 0) rfl (by decide) ?_))
    have k_287 : (0 : Int32).toInt = 0 := rfl
    have j_288 := (PI_f (fun a i z => W_n W283 (by /-r1,11-/ omega) rfl) (PI_f (fun a i z => W_n W278 (by /-r1,10-/ omega) rfl) q1))
    have c_289 : M284.2.1 1 10 = (2 : Int32) := (W_n W283 (by decide) (W_e W278))
    have k_290 : (2 : Int32).toInt = 2 := rfl
    have t_291 : (M284.2.1 1 10).toInt = (2 : Int32).toInt := congrArg Int32.toInt c_289
    have c_292 : M284.2.1 1 11 = (M.2.1 1 9) := (W_e W283)
    have t_293 : (M284.2.1 1 11).toInt = (M.2.1 1 9).toInt := congrArg Int32.toInt c_292
    exact h (0 : Int32) M284 hG285 F286 (by decide) (by decide) j_288 (by omega)
set_option maxRecDepth 4000 in
set_option maxHeartbeats 0 in
theorem T_42_0 {X : mm_X} {d : Nat} {M : mm_M} {Q : Option Value → mm_M → Prop} {p : Nat} {f : Int32} (hX : g_X X) (hd : 2 ≤ d) (hp : p = 49 ∨ p = 58) (q1 : 0 ≤ f.toInt) (q2 : f.toInt ≤ 7) (q3 : (M.2.1 p 3).toInt ≤ 11) (h : ∀ (r : Int32) (M1 : mm_M), g_G M1 → FR md_c42 M M1 → (0 ≤ r.toInt) → (r.toInt ≤ 1) → (r.toInt = 1 → (M1.2.1 1 10).toInt = (M.2.1 1 10).toInt ∧ (M1.2.1 1 11).toInt = (M.2.1 1 11).toInt) → Q (some (.int r)) M1) : ∀ nn9 : Nat, (∀ (N : mm_M) (y3 : Int64) (x5 : Int32) (u6 : Value) (u7 : Value) (u8 : Value), g_G N → FR md_c42 M N → (0 ≤ x5.toInt) → (x5.toInt ≤ 25) → (0 ≤ f.toInt) → (f.toInt ≤ 7) → ((N.2.1 p 3).toInt ≤ 11) → ((N.2.1 1 10).toInt = (M.2.1 1 10).toInt ∧ (N.2.1 1 11).toInt = (M.2.1 1 11).toInt) → 25 - x5.toInt < (nn9 : Int) → mm_T X d 42 5 [.ref p, .ref 1, .int f, .long y3, .null, .int x5, u6, u7, u8] [] N Q) := by
  intro nn9
  induction nn9 with
  | zero =>
    intro N y3 x5 u6 u7 u8 hG F0 g1 g2 g3 g4 g5 g6 hm
    have b_1 := g_b hG (a := p) (i := 3) (lo := 0) (hi := 12) (by rcases hp with rfl | rfl <;> rfl) (by rcases hp with rfl | rfl <;> rfl)
    exfalso; omega
  | succ nn9 ih =>
    intro N y3 x5 u6 u7 u8 hG F0 g1 g2 g3 g4 g5 g6 hm
    have b_2 := g_b hG (a := p) (i := 3) (lo := 0) (hi := 12) (by rcases hp with rfl | rfl <;> rfl) (by rcases hp with rfl | rfl <;> rfl)
    refine to_i (pc := 5) rw_42_5 rfl (b_ieq (pc := 7) rw_42_7 (A := x5.toInt) rfl (fun h3 => ?_) (fun h3 => ?_))
    · refine to_i (pc := 29) rw_42_29 rfl (to_an (pc := 31) rw_42_31 rfl (s_gR (pc := 32) rw_42_32 hG (by rcases hp with rfl | rfl <;> rfl) (v := (p + 5)) (by rcases hp with rfl | rfl <;> rfl) (to_in (pc := 35) rw_42_35 rfl (s_ial (pc := 36) rw_42_36 hG (by rcases hp with rfl | rfl <;> rfl) (n := 8) (by rcases hp with rfl | rfl <;> rfl) (by rcases hp with rfl | rfl <;> rfl) (A := f.toInt) rfl (by omega) (by omega) (lo := 0) (hi := 24) (by rcases hp with rfl | rfl <;> rfl) (by rcases hp with rfl | rfl <;> rfl) (fun v4 w_5 _ _ => b_cge (pc := 37) rw_42_37 (A := x5.toInt) (B := v4.toInt) rfl rfl (fun h6 => ?_) (fun h6 => ?_))))))
      · refine to_c (pc := 50) rw_42_50 (x := (-1 : Int32)) rfl rfl (to_is (pc := 51) rw_42_51 (ls2 := [.ref p, .ref 1, .int f, .long y3, .null, .int x5, .int (-1 : Int32), u7, u8]) rfl rfl (to_an (pc := 53) rw_42_53 rfl (to_c (pc := 54) rw_42_54 (x := (0 : Int32)) rfl rfl (to_i (pc := 55) rw_42_55 rfl (s_v (pc := 57) rw_42_57 (dp0 hd (by decide)) (ls0 := [.ref 1, .int (0 : Int32), .int (-1 : Int32)]) rfl (Nat.le_of_ble_eq_true rfl) (Nat.le_of_ble_eq_true rfl) rfl (to_rc rfl rfl rfl (g_o hG rfl)) rfl (to_an (pc := 0) rw_88_0 rfl (tt_gI (pc := 1) rw_88_1 (g_o hG rfl) (v := (N.2.1 1 7)) rfl (to_c (pc := 4) rw_88_4 (x := (2 : Int32)) rfl rfl (b_ceq (pc := 5) rw_88_5 (A := (N.2.1 1 7).toInt) (B := 2) rfl rfl (fun h7 => ?_) (fun h7 => ?_))))))))))
        · refine to_an (pc := 14) rw_88_14 rfl (tt_gI (pc := 15) rw_88_15 (g_o hG rfl) (v := (N.2.1 1 8)) rfl (to_in (pc := 18) rw_88_18 rfl (b_clt (pc := 19) rw_88_19 (A := (N.2.1 1 8).toInt) (B := 0) rfl rfl (fun h8 => ?_) (fun h8 => ?_))))
          · refine to_an (pc := 30) rw_88_30 rfl (to_c (pc := 31) rw_88_31 (x := (2 : Int32)) rfl rfl (s_v (pc := 32) rw_88_32 (dp1 hd (by decide)) (ls0 := [.ref 1, .int (2 : Int32)]) rfl (Nat.le_of_ble_eq_true rfl) (Nat.le_of_ble_eq_true rfl) rfl (to_rc rfl rfl rfl (g_o hG rfl)) rfl (to_an (pc := 0) rw_84_0 rfl (to_in (pc := 1) rw_84_1 rfl (s_pI (pc := 2) rw_84_2 hG rfl (fun M10 W9 => ?_))))))
            have hG11 := g_wf hG W9 rfl rfl (by decide)
            have F12 := FR.w F0 W9 (show 1 = 1 ∧ 5 ≤ 10 ∨ 3 ≤ 1 ∧ 1 ≤ 5 ∨ 1 = 57 ∨ 1 = 66 by decide)
            refine to_an (pc := 5) rw_84_5 rfl (to_an (pc := 6) rw_84_6 rfl ?_)
            have c_13 : M10.2.1 1 9 = (N.2.1 1 9) := (W_n W9 (by decide) rfl)
            refine tt_gI (pc := 7) rw_84_7 (g_o hG11 rfl) (v := (N.2.1 1 9)) c_13 (s_pI (pc := 10) rw_84_10 hG11 rfl (fun M15 W14 => ?_))
            have hG16 := g_wf hG11 W14 rfl rfl (by decide)
            have F17 := FR.w F12 W14 (show 1 = 1 ∧ 5 ≤ 11 ∨ 3 ≤ 1 ∧ 1 ≤ 5 ∨ 1 = 57 ∨ 1 = 66 by decide)
            refine to_c (pc := 13) rw_84_13 (x := (0 : Int32)) rfl rfl (s_r1 (pc := 14) rw_84_14 (A := 0) rfl (by decide) (b_ieq_t (pc := 35) rw_88_35 (A := 0) rfl (by decide) (to_c (pc := 42) rw_88_42 (x := (0 : Int32)) rfl rfl (s_r1 (pc := 43) rw_88_43 (A := 0) rfl (by decide) (b_ine_f (pc := 60) rw_42_60 (A := 0) rfl (by decide) (to_c (pc := 63) rw_42_63 (x := (0 : Int32)) rfl rfl (s_r1 (pc := 64) rw_42_64 (A := 0) rfl (by decide) ?_)))))))
            have k_18 : (0 : Int32).toInt = 0 := rfl
            have c_19 : M15.2.1 1 10 = (2 : Int32) := (W_n W14 (by decide) (W_e W9))
            have k_20 : (2 : Int32).toInt = 2 := rfl
            have t_21 : (M15.2.1 1 10).toInt = (2 : Int32).toInt := congrArg Int32.toInt c_19
            have c_22 : M15.2.1 1 11 = (N.2.1 1 9) := (W_e W14)
            have t_23 : (M15.2.1 1 11).toInt = (N.2.1 1 9).toInt := congrArg Int32.toInt c_22
            exact h (0 : Int32) M15 hG16 F17 (by decide) (by decide) (by omega)
          · refine to_an (pc := 22) rw_88_22 rfl (tt_gI (pc := 23) rw_88_23 (g_o hG rfl) (v := (N.2.1 1 8)) rfl (to_in (pc := 26) rw_88_26 rfl (b_cle_f (pc := 27) rw_88_27 (A := (N.2.1 1 8).toInt) (B := -1) rfl rfl (by omega) (to_an (pc := 30) rw_88_30 rfl (to_c (pc := 31) rw_88_31 (x := (2 : Int32)) rfl rfl (s_v (pc := 32) rw_88_32 (dp1 hd (by decide)) (ls0 := [.ref 1, .int (2 : Int32)]) rfl (Nat.le_of_ble_eq_true rfl) (Nat.le_of_ble_eq_true rfl) rfl (to_rc rfl rfl rfl (g_o hG rfl)) rfl (to_an (pc := 0) rw_84_0 rfl (to_in (pc := 1) rw_84_1 rfl (s_pI (pc := 2) rw_84_2 hG rfl (fun M25 W24 => ?_))))))))))
            have hG26 := g_wf hG W24 rfl rfl (by decide)
            have F27 := FR.w F0 W24 (show 1 = 1 ∧ 5 ≤ 10 ∨ 3 ≤ 1 ∧ 1 ≤ 5 ∨ 1 = 57 ∨ 1 = 66 by decide)
            refine to_an (pc := 5) rw_84_5 rfl (to_an (pc := 6) rw_84_6 rfl ?_)
            have c_28 : M25.2.1 1 9 = (N.2.1 1 9) := (W_n W24 (by decide) rfl)
            refine tt_gI (pc := 7) rw_84_7 (g_o hG26 rfl) (v := (N.2.1 1 9)) c_28 (s_pI (pc := 10) rw_84_10 hG26 rfl (fun M30 W29 => ?_))
            have hG31 := g_wf hG26 W29 rfl rfl (by decide)
            have F32 := FR.w F27 W29 (show 1 = 1 ∧ 5 ≤ 11 ∨ 3 ≤ 1 ∧ 1 ≤ 5 ∨ 1 = 57 ∨ 1 = 66 by decide)
            refine to_c (pc := 13) rw_84_13 (x := (0 : Int32)) rfl rfl (s_r1 (pc := 14) rw_84_14 (A := 0) rfl (by decide) (b_ieq_t (pc := 35) rw_88_35 (A := 0) rfl (by decide) (to_c (pc := 42) rw_88_42 (x := (0 : Int32)) rfl rfl (s_r1 (pc := 43) rw_88_43 (A := 0) rfl (by decide) (b_ine_f (pc := 60) rw_42_60 (A := 0) rfl (by decide) (to_c (pc := 63) rw_42_63 (x := (0 : Int32)) rfl rfl (s_r1 (pc := 64) rw_42_64 (A := 0) rfl (by decide) ?_)))))))
            have k_33 : (0 : Int32).toInt = 0 := rfl
            have c_34 : M30.2.1 1 10 = (2 : Int32) := (W_n W29 (by decide) (W_e W24))
            have k_35 : (2 : Int32).toInt = 2 := rfl
            have t_36 : (M30.2.1 1 10).toInt = (2 : Int32).toInt := congrArg Int32.toInt c_34
            have c_37 : M30.2.1 1 11 = (N.2.1 1 9) := (W_e W29)
            have t_38 : (M30.2.1 1 11).toInt = (N.2.1 1 9).toInt := congrArg Int32.toInt c_37
            exact h (0 : Int32) M30 hG31 F32 (by decide) (by decide) (by omega)
        · refine to_an (pc := 8) rw_88_8 rfl (to_c (pc := 9) rw_88_9 (x := (1 : Int32)) rfl rfl (s_v (pc := 10) rw_88_10 (dp1 hd (by decide)) (ls0 := [.ref 1, .int (1 : Int32)]) rfl (Nat.le_of_ble_eq_true rfl) (Nat.le_of_ble_eq_true rfl) rfl (to_rc rfl rfl rfl (g_o hG rfl)) rfl (to_an (pc := 0) rw_84_0 rfl (to_in (pc := 1) rw_84_1 rfl (s_pI (pc := 2) rw_84_2 hG rfl (fun M40 W39 => ?_))))))
          have hG41 := g_wf hG W39 rfl rfl (by decide)
          have F42 := FR.w F0 W39 (show 1 = 1 ∧ 5 ≤ 10 ∨ 3 ≤ 1 ∧ 1 ≤ 5 ∨ 1 = 57 ∨ 1 = 66 by decide)
          refine to_an (pc := 5) rw_84_5 rfl (to_an (pc := 6) rw_84_6 rfl ?_)
          have c_43 : M40.2.1 1 9 = (N.2.1 1 9) := (W_n W39 (by decide) rfl)
          refine tt_gI (pc := 7) rw_84_7 (g_o hG41 rfl) (v := (N.2.1 1 9)) c_43 (s_pI (pc := 10) rw_84_10 hG41 rfl (fun M45 W44 => ?_))
          have hG46 := g_wf hG41 W44 rfl rfl (by decide)
          have F47 := FR.w F42 W44 (show 1 = 1 ∧ 5 ≤ 11 ∨ 3 ≤ 1 ∧ 1 ≤ 5 ∨ 1 = 57 ∨ 1 = 66 by decide)
          refine to_c (pc := 13) rw_84_13 (x := (0 : Int32)) rfl rfl (s_r1 (pc := 14) rw_84_14 (A := 0) rfl (by decide) (s_r1 (pc := 13) rw_88_13 (A := 0) rfl (by decide) (b_ine_f (pc := 60) rw_42_60 (A := 0) rfl (by decide) (to_c (pc := 63) rw_42_63 (x := (0 : Int32)) rfl rfl (s_r1 (pc := 64) rw_42_64 (A := 0) rfl (by decide) ?_)))))
          have k_48 : (0 : Int32).toInt = 0 := rfl
          have c_49 : M45.2.1 1 10 = (1 : Int32) := (W_n W44 (by decide) (W_e W39))
          have k_50 : (1 : Int32).toInt = 1 := rfl
          have t_51 : (M45.2.1 1 10).toInt = (1 : Int32).toInt := congrArg Int32.toInt c_49
          have c_52 : M45.2.1 1 11 = (N.2.1 1 9) := (W_e W44)
          have t_53 : (M45.2.1 1 11).toInt = (N.2.1 1 9).toInt := congrArg Int32.toInt c_52
          exact h (0 : Int32) M45 hG46 F47 (by decide) (by decide) (by omega)
      · refine to_an (pc := 40) rw_42_40 rfl (to_in (pc := 41) rw_42_41 rfl (s_v (pc := 42) rw_42_42 (dp0 hd (by decide)) (ls0 := [.ref p, .int f]) rfl (Nat.le_of_ble_eq_true rfl) (Nat.le_of_ble_eq_true rfl) rfl (to_rc rfl rfl rfl (g_o hG (by rcases hp with rfl | rfl <;> rfl))) rfl (to_an (pc := 0) rw_47_0 rfl (s_gR (pc := 1) rw_47_1 hG (by rcases hp with rfl | rfl <;> rfl) (v := (p + 4)) (by rcases hp with rfl | rfl <;> rfl) (to_in (pc := 4) rw_47_4 rfl (s_ial (pc := 5) rw_47_5 hG (by rcases hp with rfl | rfl <;> rfl) (n := 8) (by rcases hp with rfl | rfl <;> rfl) (by rcases hp with rfl | rfl <;> rfl) (A := f.toInt) rfl (by omega) (by omega) (lo := 0) (hi := 63) (by rcases hp with rfl | rfl <;> rfl) (by rcases hp with rfl | rfl <;> rfl) (fun v54 w_55 _ _ => to_an (pc := 6) rw_47_6 rfl (s_gR (pc := 7) rw_47_7 hG (by rcases hp with rfl | rfl <;> rfl) (v := (p + 3)) (by rcases hp with rfl | rfl <;> rfl) (to_in (pc := 10) rw_47_10 rfl (s_ial (pc := 11) rw_47_11 hG (by rcases hp with rfl | rfl <;> rfl) (n := 8) (by rcases hp with rfl | rfl <;> rfl) (by rcases hp with rfl | rfl <;> rfl) (A := f.toInt) rfl (by omega) (by omega) (lo := 0) (hi := 59) (by rcases hp with rfl | rfl <;> rfl) (by rcases hp with rfl | rfl <;> rfl) (fun v56 w_57 _ _ => s_sub (pc := 12) rw_47_12 (A := v54.toInt) (B := v56.toInt) rfl rfl (by omega) (fun v58 e59 => ?_))))))))))))
        refine to_c (pc := 13) rw_47_13 (x := (1 : Int32)) rfl rfl (s_add (pc := 14) rw_47_14 (A := v58.toInt) (B := 1) rfl rfl (by omega) (fun v60 e61 => to_r0 (pc := 15) rw_47_15 (to_c (pc := 45) rw_42_45 (x := (1 : Int32)) rfl rfl (s_sub (pc := 46) rw_42_46 (A := v60.toInt) (B := 1) rfl rfl (by omega) (fun v62 e63 => to_go (pc := 47) rw_42_47 (to_is (pc := 51) rw_42_51 (ls2 := [.ref p, .ref 1, .int f, .long y3, .null, .int x5, .int v62, u7, u8]) rfl rfl (to_an (pc := 53) rw_42_53 rfl (to_c (pc := 54) rw_42_54 (x := (0 : Int32)) rfl rfl (to_i (pc := 55) rw_42_55 rfl (s_v (pc := 57) rw_42_57 (dp0 hd (by decide)) (ls0 := [.ref 1, .int (0 : Int32), .int v62]) rfl (Nat.le_of_ble_eq_true rfl) (Nat.le_of_ble_eq_true rfl) rfl (to_rc rfl rfl rfl (g_o hG rfl)) rfl (to_an (pc := 0) rw_88_0 rfl ?_)))))))))))
        refine tt_gI (pc := 1) rw_88_1 (g_o hG rfl) (v := (N.2.1 1 7)) rfl (to_c (pc := 4) rw_88_4 (x := (2 : Int32)) rfl rfl (b_ceq (pc := 5) rw_88_5 (A := (N.2.1 1 7).toInt) (B := 2) rfl rfl (fun h64 => ?_) (fun h64 => ?_)))
        · refine to_an (pc := 14) rw_88_14 rfl (tt_gI (pc := 15) rw_88_15 (g_o hG rfl) (v := (N.2.1 1 8)) rfl (to_in (pc := 18) rw_88_18 rfl (b_clt (pc := 19) rw_88_19 (A := (N.2.1 1 8).toInt) (B := 0) rfl rfl (fun h65 => ?_) (fun h65 => ?_))))
          · refine to_an (pc := 30) rw_88_30 rfl (to_c (pc := 31) rw_88_31 (x := (2 : Int32)) rfl rfl (s_v (pc := 32) rw_88_32 (dp1 hd (by decide)) (ls0 := [.ref 1, .int (2 : Int32)]) rfl (Nat.le_of_ble_eq_true rfl) (Nat.le_of_ble_eq_true rfl) rfl (to_rc rfl rfl rfl (g_o hG rfl)) rfl (to_an (pc := 0) rw_84_0 rfl (to_in (pc := 1) rw_84_1 rfl (s_pI (pc := 2) rw_84_2 hG rfl (fun M67 W66 => ?_))))))
            have hG68 := g_wf hG W66 rfl rfl (by decide)
            have F69 := FR.w F0 W66 (show 1 = 1 ∧ 5 ≤ 10 ∨ 3 ≤ 1 ∧ 1 ≤ 5 ∨ 1 = 57 ∨ 1 = 66 by decide)
            refine to_an (pc := 5) rw_84_5 rfl (to_an (pc := 6) rw_84_6 rfl ?_)
            have c_70 : M67.2.1 1 9 = (N.2.1 1 9) := (W_n W66 (by decide) rfl)
            refine tt_gI (pc := 7) rw_84_7 (g_o hG68 rfl) (v := (N.2.1 1 9)) c_70 (s_pI (pc := 10) rw_84_10 hG68 rfl (fun M72 W71 => ?_))
            have hG73 := g_wf hG68 W71 rfl rfl (by decide)
            have F74 := FR.w F69 W71 (show 1 = 1 ∧ 5 ≤ 11 ∨ 3 ≤ 1 ∧ 1 ≤ 5 ∨ 1 = 57 ∨ 1 = 66 by decide)
            refine to_c (pc := 13) rw_84_13 (x := (0 : Int32)) rfl rfl (s_r1 (pc := 14) rw_84_14 (A := 0) rfl (by decide) (b_ieq_t (pc := 35) rw_88_35 (A := 0) rfl (by decide) (to_c (pc := 42) rw_88_42 (x := (0 : Int32)) rfl rfl (s_r1 (pc := 43) rw_88_43 (A := 0) rfl (by decide) (b_ine_f (pc := 60) rw_42_60 (A := 0) rfl (by decide) (to_c (pc := 63) rw_42_63 (x := (0 : Int32)) rfl rfl (s_r1 (pc := 64) rw_42_64 (A := 0) rfl (by decide) ?_)))))))
            have k_75 : (0 : Int32).toInt = 0 := rfl
            have c_76 : M72.2.1 1 10 = (2 : Int32) := (W_n W71 (by decide) (W_e W66))
            have k_77 : (2 : Int32).toInt = 2 := rfl
            have t_78 : (M72.2.1 1 10).toInt = (2 : Int32).toInt := congrArg Int32.toInt c_76
            have c_79 : M72.2.1 1 11 = (N.2.1 1 9) := (W_e W71)
            have t_80 : (M72.2.1 1 11).toInt = (N.2.1 1 9).toInt := congrArg Int32.toInt c_79
            exact h (0 : Int32) M72 hG73 F74 (by decide) (by decide) (by omega)
          · refine to_an (pc := 22) rw_88_22 rfl (tt_gI (pc := 23) rw_88_23 (g_o hG rfl) (v := (N.2.1 1 8)) rfl (to_in (pc := 26) rw_88_26 rfl (b_cle (pc := 27) rw_88_27 (A := (N.2.1 1 8).toInt) (B := v62.toInt) rfl rfl (fun h81 => ?_) (fun h81 => ?_))))
            · refine to_c (pc := 38) rw_88_38 (x := (1 : Int32)) rfl rfl (to_go (pc := 39) rw_88_39 (s_r1 (pc := 43) rw_88_43 (A := 1) rfl (by decide) (b_ine_t (pc := 60) rw_42_60 (A := 1) rfl (by decide) (s_cl (pc := 65) rw_42_65 rfl (fun l82 => to_an (pc := 66) rw_42_66 rfl (s_gR (pc := 67) rw_42_67 hG (by rcases hp with rfl | rfl <;> rfl) (v := (p + 3)) (by rcases hp with rfl | rfl <;> rfl) (to_in (pc := 70) rw_42_70 rfl (s_ialk (pc := 71) rw_42_71 hG (by rcases hp with rfl | rfl <;> rfl) (n := 8) (by rcases hp with rfl | rfl <;> rfl) (by rcases hp with rfl | rfl <;> rfl) (A := f.toInt) rfl (by omega) (by omega) (v := v56) w_57 (to_an (pc := 72) rw_42_72 rfl (tt_gI (pc := 73) rw_42_73 (g_o hG rfl) (v := (N.2.1 1 8)) rfl (s_add (pc := 76) rw_42_76 (A := v56.toInt) (B := (N.2.1 1 8).toInt) rfl rfl (by omega) (fun v85 e86 => ?_))))))))))))
              refine s_anyS (pc := 77) rw_42_77 (fun _ _ => rfl) (fun l87 => to_ls (pc := 78) rw_42_78 (ls2 := [.ref p, .ref 1, .int f, .long y3, .null, .int x5, .int v62, .long l87, .null]) rfl rfl (to_ln (pc := 80) rw_42_80 rfl rfl rfl (to_l (pc := 81) rw_42_81 rfl rfl rfl (s_anyL (pc := 83) rw_42_83 (fun _ _ => rfl) (fun l88 => s_cl (pc := 84) rw_42_84 rfl (fun l89 => s_lcmp (pc := 85) rw_42_85 (fun v90 => b_ieq (pc := 86) rw_42_86 (A := v90.toInt) rfl (fun h91 => ?_) (fun h91 => ?_))))))))
              · refine to_ln (pc := 95) rw_42_95 rfl rfl rfl (to_l (pc := 96) rw_42_96 rfl rfl rfl (s_anyL (pc := 98) rw_42_98 (fun _ _ => rfl) (fun l92 => to_lsn (pc := 99) rw_42_99 (ls2 := [.ref p, .ref 1, .int f, .long l92, .null, .int x5, .int v62, .long l87, .null]) rfl rfl (s_inc (pc := 100) rw_42_100 (ls2 := fun v => [.ref p, .ref 1, .int f, .long l92, .null, .int v, .int v62, .long l87, .null]) rfl rfl (fun _ => rfl) (A := x5.toInt) (B := 1) rfl rfl (by omega) (fun v93 e94 => to_an (pc := 103) rw_42_103 rfl (s_v (pc := 104) rw_42_104 (dp0 hd (by decide)) (ls0 := [.ref 1]) rfl (Nat.le_of_ble_eq_true rfl) (Nat.le_of_ble_eq_true rfl) rfl (to_rc rfl rfl rfl (g_o hG rfl)) rfl (C_83 hX (dp1 hd (by decide)) hG  (fun M98 hG96 F95 p_97 => ?_))))))))
                have F99 := FR.c F0 F95 tg_215
                refine to_go (pc := 107) rw_42_107 ?_
                have c_100 : M98.2.1 p 3 = (N.2.1 p 3) := (F_n F95 (show ¬ (p = 1 ∧ 5 ≤ 3 ∨ 3 ≤ p ∧ p ≤ 5) by omega) rfl)
                have t_101 : (M98.2.1 p 3).toInt = (N.2.1 p 3).toInt := congrArg Int32.toInt c_100
                exact ih M98 l92 v93 (.int v62) (.long l87) (.null) hG96 F99 (by omega) (by omega) (by omega) (by omega) (by omega) (by omega) (by omega)
              · refine to_an (pc := 89) rw_42_89 rfl (to_c (pc := 90) rw_42_90 (x := (3 : Int32)) rfl rfl (s_v (pc := 91) rw_42_91 (dp0 hd (by decide)) (ls0 := [.ref 1, .int (3 : Int32)]) rfl (Nat.le_of_ble_eq_true rfl) (Nat.le_of_ble_eq_true rfl) rfl (to_rc rfl rfl rfl (g_o hG rfl)) rfl (to_an (pc := 0) rw_84_0 rfl (to_in (pc := 1) rw_84_1 rfl (s_pI (pc := 2) rw_84_2 hG rfl (fun M103 W102 => ?_))))))
                have hG104 := g_wf hG W102 rfl rfl (by decide)
                have F105 := FR.w F0 W102 (show 1 = 1 ∧ 5 ≤ 10 ∨ 3 ≤ 1 ∧ 1 ≤ 5 ∨ 1 = 57 ∨ 1 = 66 by decide)
                refine to_an (pc := 5) rw_84_5 rfl (to_an (pc := 6) rw_84_6 rfl ?_)
                have c_106 : M103.2.1 1 9 = (N.2.1 1 9) := (W_n W102 (by decide) rfl)
                refine tt_gI (pc := 7) rw_84_7 (g_o hG104 rfl) (v := (N.2.1 1 9)) c_106 (s_pI (pc := 10) rw_84_10 hG104 rfl (fun M108 W107 => ?_))
                have hG109 := g_wf hG104 W107 rfl rfl (by decide)
                have F110 := FR.w F105 W107 (show 1 = 1 ∧ 5 ≤ 11 ∨ 3 ≤ 1 ∧ 1 ≤ 5 ∨ 1 = 57 ∨ 1 = 66 by decide)
                refine to_c (pc := 13) rw_84_13 (x := (0 : Int32)) rfl rfl (s_r1 (pc := 14) rw_84_14 (A := 0) rfl (by decide) (s_r1 (pc := 94) rw_42_94 (A := 0) rfl (by decide) ?_))
                have k_111 : (0 : Int32).toInt = 0 := rfl
                have c_112 : M108.2.1 1 10 = (3 : Int32) := (W_n W107 (by decide) (W_e W102))
                have k_113 : (3 : Int32).toInt = 3 := rfl
                have t_114 : (M108.2.1 1 10).toInt = (3 : Int32).toInt := congrArg Int32.toInt c_112
                have c_115 : M108.2.1 1 11 = (N.2.1 1 9) := (W_e W107)
                have t_116 : (M108.2.1 1 11).toInt = (N.2.1 1 9).toInt := congrArg Int32.toInt c_115
                exact h (0 : Int32) M108 hG109 F110 (by decide) (by decide) (by omega)
            · refine to_an (pc := 30) rw_88_30 rfl (to_c (pc := 31) rw_88_31 (x := (2 : Int32)) rfl rfl (s_v (pc := 32) rw_88_32 (dp1 hd (by decide)) (ls0 := [.ref 1, .int (2 : Int32)]) rfl (Nat.le_of_ble_eq_true rfl) (Nat.le_of_ble_eq_true rfl) rfl (to_rc rfl rfl rfl (g_o hG rfl)) rfl (to_an (pc := 0) rw_84_0 rfl (to_in (pc := 1) rw_84_1 rfl (s_pI (pc := 2) rw_84_2 hG rfl (fun M118 W117 => ?_))))))
              have hG119 := g_wf hG W117 rfl rfl (by decide)
              have F120 := FR.w F0 W117 (show 1 = 1 ∧ 5 ≤ 10 ∨ 3 ≤ 1 ∧ 1 ≤ 5 ∨ 1 = 57 ∨ 1 = 66 by decide)
              refine to_an (pc := 5) rw_84_5 rfl (to_an (pc := 6) rw_84_6 rfl ?_)
              have c_121 : M118.2.1 1 9 = (N.2.1 1 9) := (W_n W117 (by decide) rfl)
              refine tt_gI (pc := 7) rw_84_7 (g_o hG119 rfl) (v := (N.2.1 1 9)) c_121 (s_pI (pc := 10) rw_84_10 hG119 rfl (fun M123 W122 => ?_))
              have hG124 := g_wf hG119 W122 rfl rfl (by decide)
              have F125 := FR.w F120 W122 (show 1 = 1 ∧ 5 ≤ 11 ∨ 3 ≤ 1 ∧ 1 ≤ 5 ∨ 1 = 57 ∨ 1 = 66 by decide)
              refine to_c (pc := 13) rw_84_13 (x := (0 : Int32)) rfl rfl (s_r1 (pc := 14) rw_84_14 (A := 0) rfl (by decide) (b_ieq_t (pc := 35) rw_88_35 (A := 0) rfl (by decide) (to_c (pc := 42) rw_88_42 (x := (0 : Int32)) rfl rfl (s_r1 (pc := 43) rw_88_43 (A := 0) rfl (by decide) (b_ine_f (pc := 60) rw_42_60 (A := 0) rfl (by decide) (to_c (pc := 63) rw_42_63 (x := (0 : Int32)) rfl rfl (s_r1 (pc := 64) rw_42_64 (A := 0) rfl (by decide) ?_)))))))
              have k_126 : (0 : Int32).toInt = 0 := rfl
              have c_127 : M123.2.1 1 10 = (2 : Int32) := (W_n W122 (by decide) (W_e W117))
              have k_128 : (2 : Int32).toInt = 2 := rfl
              have t_129 : (M123.2.1 1 10).toInt = (2 : Int32).toInt := congrArg Int32.toInt c_127
              have c_130 : M123.2.1 1 11 = (N.2.1 1 9) := (W_e W122)
              have t_131 : (M123.2.1 1 11).toInt = (N.2.1 1 9).toInt := congrArg Int32.toInt c_130
              exact h (0 : Int32) M123 hG124 F125 (by decide) (by decide) (by omega)
        · refine to_an (pc := 8) rw_88_8 rfl (to_c (pc := 9) rw_88_9 (x := (1 : Int32)) rfl rfl (s_v (pc := 10) rw_88_10 (dp1 hd (by decide)) (ls0 := [.ref 1, .int (1 : Int32)]) rfl (Nat.le_of_ble_eq_true rfl) (Nat.le_of_ble_eq_true rfl) rfl (to_rc rfl rfl rfl (g_o hG rfl)) rfl (to_an (pc := 0) rw_84_0 rfl (to_in (pc := 1) rw_84_1 rfl (s_pI (pc := 2) rw_84_2 hG rfl (fun M133 W132 => ?_))))))
          have hG134 := g_wf hG W132 rfl rfl (by decide)
          have F135 := FR.w F0 W132 (show 1 = 1 ∧ 5 ≤ 10 ∨ 3 ≤ 1 ∧ 1 ≤ 5 ∨ 1 = 57 ∨ 1 = 66 by decide)
          refine to_an (pc := 5) rw_84_5 rfl (to_an (pc := 6) rw_84_6 rfl ?_)
          have c_136 : M133.2.1 1 9 = (N.2.1 1 9) := (W_n W132 (by decide) rfl)
          refine tt_gI (pc := 7) rw_84_7 (g_o hG134 rfl) (v := (N.2.1 1 9)) c_136 (s_pI (pc := 10) rw_84_10 hG134 rfl (fun M138 W137 => ?_))
          have hG139 := g_wf hG134 W137 rfl rfl (by decide)
          have F140 := FR.w F135 W137 (show 1 = 1 ∧ 5 ≤ 11 ∨ 3 ≤ 1 ∧ 1 ≤ 5 ∨ 1 = 57 ∨ 1 = 66 by decide)
          refine to_c (pc := 13) rw_84_13 (x := (0 : Int32)) rfl rfl (s_r1 (pc := 14) rw_84_14 (A := 0) rfl (by decide) (s_r1 (pc := 13) rw_88_13 (A := 0) rfl (by decide) (b_ine_f (pc := 60) rw_42_60 (A := 0) rfl (by decide) (to_c (pc := 63) rw_42_63 (x := (0 : Int32)) rfl rfl (s_r1 (pc := 64) rw_42_64 (A := 0) rfl (by decide) ?_)))))
          have k_141 : (0 : Int32).toInt = 0 := rfl
          have c_142 : M138.2.1 1 10 = (1 : Int32) := (W_n W137 (by decide) (W_e W132))
          have k_143 : (1 : Int32).toInt = 1 := rfl
          have t_144 : (M138.2.1 1 10).toInt = (1 : Int32).toInt := congrArg Int32.toInt c_142
          have c_145 : M138.2.1 1 11 = (N.2.1 1 9) := (W_e W137)
          have t_146 : (M138.2.1 1 11).toInt = (N.2.1 1 9).toInt := congrArg Int32.toInt c_145
          exact h (0 : Int32) M138 hG139 F140 (by decide) (by decide) (by omega)
    · refine to_i (pc := 10) rw_42_10 rfl (to_an (pc := 12) rw_42_12 rfl (s_gR (pc := 13) rw_42_13 hG (by rcases hp with rfl | rfl <;> rfl) (v := (p + 5)) (by rcases hp with rfl | rfl <;> rfl) (to_in (pc := 16) rw_42_16 rfl (s_ial (pc := 17) rw_42_17 hG (by rcases hp with rfl | rfl <;> rfl) (n := 8) (by rcases hp with rfl | rfl <;> rfl) (by rcases hp with rfl | rfl <;> rfl) (A := f.toInt) rfl (by omega) (by omega) (lo := 0) (hi := 24) (by rcases hp with rfl | rfl <;> rfl) (by rcases hp with rfl | rfl <;> rfl) (fun v147 w_148 _ _ => b_cgt (pc := 18) rw_42_18 (A := x5.toInt) (B := v147.toInt) rfl rfl (fun h149 => ?_) (fun h149 => ?_))))))
      · refine to_an (pc := 110) rw_42_110 rfl (s_gR (pc := 111) rw_42_111 hG (by rcases hp with rfl | rfl <;> rfl) (v := (p + 8)) (by rcases hp with rfl | rfl <;> rfl) (to_an (pc := 114) rw_42_114 rfl (tt_gI (pc := 115) rw_42_115 (g_o hG (by rcases hp with rfl | rfl <;> rfl)) (v := (N.2.1 p 3)) rfl (to_ln (pc := 118) rw_42_118 rfl rfl rfl (s_las (pc := 119) rw_42_119 hG (by rcases hp with rfl | rfl <;> rfl) (n := 12) (by rcases hp with rfl | rfl <;> rfl) (A := (N.2.1 p 3).toInt) rfl (by omega) (by omega) (fun M151 W150 => ?_))))))
        have hG152 := g_wl hG W150
        have F153 := FR.wl F0 W150 (show (p + 8) = 1 ∧ 5 ≤ ((N.2.1 p 3).toInt).toNat ∨ 3 ≤ (p + 8) ∧ (p + 8) ≤ 5 ∨ (p + 8) = 57 ∨ (p + 8) = 66 by omega)
        refine to_i (pc := 120) rw_42_120 rfl (to_an (pc := 122) rw_42_122 rfl (s_gR (pc := 123) rw_42_123 hG152 (by rcases hp with rfl | rfl <;> rfl) (v := (p + 5)) (by rcases hp with rfl | rfl <;> rfl) (to_in (pc := 126) rw_42_126 rfl (s_ialk (pc := 127) rw_42_127 hG152 (by rcases hp with rfl | rfl <;> rfl) (n := 8) (by rcases hp with rfl | rfl <;> rfl) (by rcases hp with rfl | rfl <;> rfl) (A := f.toInt) rfl (by omega) (by omega) (v := v147) (W_l W150 w_148) (b_ceq (pc := 128) rw_42_128 (A := x5.toInt) (B := v147.toInt) rfl rfl (fun h156 => ?_) (fun h156 => ?_))))))
        · refine to_c (pc := 148) rw_42_148 (x := (1 : Int32)) rfl rfl (to_go (pc := 149) rw_42_149 (s_r1 (pc := 153) rw_42_153 (A := 1) rfl (by decide) ?_))
          have k_157 : (1 : Int32).toInt = 1 := rfl
          have c_158 : M151.2.1 1 10 = (N.2.1 1 10) := (W_l W150 rfl)
          have t_159 : (M151.2.1 1 10).toInt = (N.2.1 1 10).toInt := congrArg Int32.toInt c_158
          have c_160 : M151.2.1 1 11 = (N.2.1 1 11) := (W_l W150 rfl)
          have t_161 : (M151.2.1 1 11).toInt = (N.2.1 1 11).toInt := congrArg Int32.toInt c_160
          exact h (1 : Int32) M151 hG152 F153 (by decide) (by decide) (by omega)
        · refine to_an (pc := 131) rw_42_131 rfl ?_
          have c_162 : M151.2.1 1 7 = (N.2.1 1 7) := (W_l W150 rfl)
          refine tt_gI (pc := 132) rw_42_132 (g_o hG152 rfl) (v := (N.2.1 1 7)) c_162 (to_c (pc := 135) rw_42_135 (x := (59 : Int32)) rfl rfl (b_cne (pc := 137) rw_42_137 (A := (N.2.1 1 7).toInt) (B := 59) rfl rfl (fun h163 => ?_) (fun h163 => ?_)))
          · refine to_c (pc := 148) rw_42_148 (x := (1 : Int32)) rfl rfl (to_go (pc := 149) rw_42_149 (s_r1 (pc := 153) rw_42_153 (A := 1) rfl (by decide) ?_))
            have k_164 : (1 : Int32).toInt = 1 := rfl
            have c_165 : M151.2.1 1 10 = (N.2.1 1 10) := (W_l W150 rfl)
            have t_166 : (M151.2.1 1 10).toInt = (N.2.1 1 10).toInt := congrArg Int32.toInt c_165
            have c_167 : M151.2.1 1 11 = (N.2.1 1 11) := (W_l W150 rfl)
            have t_168 : (M151.2.1 1 11).toInt = (N.2.1 1 11).toInt := congrArg Int32.toInt c_167
            exact h (1 : Int32) M151 hG152 F153 (by decide) (by decide) (by omega)
          · refine to_an (pc := 140) rw_42_140 rfl (to_c (pc := 141) rw_42_141 (x := (5 : Int32)) rfl rfl (s_v (pc := 142) rw_42_142 (dp0 hd (by decide)) (ls0 := [.ref 1, .int (5 : Int32)]) rfl (Nat.le_of_ble_eq_true rfl) (Nat.le_of_ble_eq_true rfl) rfl (to_rc rfl rfl rfl (g_o hG152 rfl)) rfl (to_an (pc := 0) rw_84_0 rfl (to_in (pc := 1) rw_84_1 rfl (s_pI (pc := 2) rw_84_2 hG152 rfl (fun M170 W169 => ?_))))))
            have hG171 := g_wf hG152 W169 rfl rfl (by decide)
            have F172 := FR.w F153 W169 (show 1 = 1 ∧ 5 ≤ 10 ∨ 3 ≤ 1 ∧ 1 ≤ 5 ∨ 1 = 57 ∨ 1 = 66 by decide)
            refine to_an (pc := 5) rw_84_5 rfl (to_an (pc := 6) rw_84_6 rfl ?_)
            have c_173 : M170.2.1 1 9 = (N.2.1 1 9) := (W_n W169 (by decide) (W_l W150 rfl))
            refine tt_gI (pc := 7) rw_84_7 (g_o hG171 rfl) (v := (N.2.1 1 9)) c_173 (s_pI (pc := 10) rw_84_10 hG171 rfl (fun M175 W174 => ?_))
            have hG176 := g_wf hG171 W174 rfl rfl (by decide)
            have F177 := FR.w F172 W174 (show 1 = 1 ∧ 5 ≤ 11 ∨ 3 ≤ 1 ∧ 1 ≤ 5 ∨ 1 = 57 ∨ 1 = 66 by decide)
            refine to_c (pc := 13) rw_84_13 (x := (0 : Int32)) rfl rfl (s_r1 (pc := 14) rw_84_14 (A := 0) rfl (by decide) (b_ieq_t (pc := 145) rw_42_145 (A := 0) rfl (by decide) (to_c (pc := 152) rw_42_152 (x := (0 : Int32)) rfl rfl (s_r1 (pc := 153) rw_42_153 (A := 0) rfl (by decide) ?_))))
            have k_178 : (0 : Int32).toInt = 0 := rfl
            have c_179 : M175.2.1 1 10 = (5 : Int32) := (W_n W174 (by decide) (W_e W169))
            have k_180 : (5 : Int32).toInt = 5 := rfl
            have t_181 : (M175.2.1 1 10).toInt = (5 : Int32).toInt := congrArg Int32.toInt c_179
            have c_182 : M175.2.1 1 11 = (N.2.1 1 9) := (W_e W174)
            have t_183 : (M175.2.1 1 11).toInt = (N.2.1 1 9).toInt := congrArg Int32.toInt c_182
            exact h (0 : Int32) M175 hG176 F177 (by decide) (by decide) (by omega)
      · refine to_an (pc := 21) rw_42_21 rfl (tt_gI (pc := 22) rw_42_22 (g_o hG rfl) (v := (N.2.1 1 7)) rfl (to_c (pc := 25) rw_42_25 (x := (2 : Int32)) rfl rfl (b_cne (pc := 26) rw_42_26 (A := (N.2.1 1 7).toInt) (B := 2) rfl rfl (fun h184 => ?_) (fun h184 => ?_))))
        · refine to_an (pc := 110) rw_42_110 rfl (s_gR (pc := 111) rw_42_111 hG (by rcases hp with rfl | rfl <;> rfl) (v := (p + 8)) (by rcases hp with rfl | rfl <;> rfl) (to_an (pc := 114) rw_42_114 rfl (tt_gI (pc := 115) rw_42_115 (g_o hG (by rcases hp with rfl | rfl <;> rfl)) (v := (N.2.1 p 3)) rfl (to_ln (pc := 118) rw_42_118 rfl rfl rfl (s_las (pc := 119) rw_42_119 hG (by rcases hp with rfl | rfl <;> rfl) (n := 12) (by rcases hp with rfl | rfl <;> rfl) (A := (N.2.1 p 3).toInt) rfl (by omega) (by omega) (fun M186 W185 => ?_))))))
          have hG187 := g_wl hG W185
          have F188 := FR.wl F0 W185 (show (p + 8) = 1 ∧ 5 ≤ ((N.2.1 p 3).toInt).toNat ∨ 3 ≤ (p + 8) ∧ (p + 8) ≤ 5 ∨ (p + 8) = 57 ∨ (p + 8) = 66 by omega)
          refine to_i (pc := 120) rw_42_120 rfl (to_an (pc := 122) rw_42_122 rfl (s_gR (pc := 123) rw_42_123 hG187 (by rcases hp with rfl | rfl <;> rfl) (v := (p + 5)) (by rcases hp with rfl | rfl <;> rfl) (to_in (pc := 126) rw_42_126 rfl (s_ialk (pc := 127) rw_42_127 hG187 (by rcases hp with rfl | rfl <;> rfl) (n := 8) (by rcases hp with rfl | rfl <;> rfl) (by rcases hp with rfl | rfl <;> rfl) (A := f.toInt) rfl (by omega) (by omega) (v := v147) (W_l W185 w_148) (b_ceq (pc := 128) rw_42_128 (A := x5.toInt) (B := v147.toInt) rfl rfl (fun h191 => ?_) (fun h191 => ?_))))))
          · refine to_c (pc := 148) rw_42_148 (x := (1 : Int32)) rfl rfl (to_go (pc := 149) rw_42_149 (s_r1 (pc := 153) rw_42_153 (A := 1) rfl (by decide) ?_))
            have k_192 : (1 : Int32).toInt = 1 := rfl
            have c_193 : M186.2.1 1 10 = (N.2.1 1 10) := (W_l W185 rfl)
            have t_194 : (M186.2.1 1 10).toInt = (N.2.1 1 10).toInt := congrArg Int32.toInt c_193
            have c_195 : M186.2.1 1 11 = (N.2.1 1 11) := (W_l W185 rfl)
            have t_196 : (M186.2.1 1 11).toInt = (N.2.1 1 11).toInt := congrArg Int32.toInt c_195
            exact h (1 : Int32) M186 hG187 F188 (by decide) (by decide) (by omega)
          · refine to_an (pc := 131) rw_42_131 rfl ?_
            have c_197 : M186.2.1 1 7 = (N.2.1 1 7) := (W_l W185 rfl)
            refine tt_gI (pc := 132) rw_42_132 (g_o hG187 rfl) (v := (N.2.1 1 7)) c_197 (to_c (pc := 135) rw_42_135 (x := (59 : Int32)) rfl rfl (b_cne (pc := 137) rw_42_137 (A := (N.2.1 1 7).toInt) (B := 59) rfl rfl (fun h198 => ?_) (fun h198 => ?_)))
            · refine to_c (pc := 148) rw_42_148 (x := (1 : Int32)) rfl rfl (to_go (pc := 149) rw_42_149 (s_r1 (pc := 153) rw_42_153 (A := 1) rfl (by decide) ?_))
              have k_199 : (1 : Int32).toInt = 1 := rfl
              have c_200 : M186.2.1 1 10 = (N.2.1 1 10) := (W_l W185 rfl)
              have t_201 : (M186.2.1 1 10).toInt = (N.2.1 1 10).toInt := congrArg Int32.toInt c_200
              have c_202 : M186.2.1 1 11 = (N.2.1 1 11) := (W_l W185 rfl)
              have t_203 : (M186.2.1 1 11).toInt = (N.2.1 1 11).toInt := congrArg Int32.toInt c_202
              exact h (1 : Int32) M186 hG187 F188 (by decide) (by decide) (by omega)
            · refine to_an (pc := 140) rw_42_140 rfl (to_c (pc := 141) rw_42_141 (x := (5 : Int32)) rfl rfl (s_v (pc := 142) rw_42_142 (dp0 hd (by decide)) (ls0 := [.ref 1, .int (5 : Int32)]) rfl (Nat.le_of_ble_eq_true rfl) (Nat.le_of_ble_eq_true rfl) rfl (to_rc rfl rfl rfl (g_o hG187 rfl)) rfl (to_an (pc := 0) rw_84_0 rfl (to_in (pc := 1) rw_84_1 rfl (s_pI (pc := 2) rw_84_2 hG187 rfl (fun M205 W204 => ?_))))))
              have hG206 := g_wf hG187 W204 rfl rfl (by decide)
              have F207 := FR.w F188 W204 (show 1 = 1 ∧ 5 ≤ 10 ∨ 3 ≤ 1 ∧ 1 ≤ 5 ∨ 1 = 57 ∨ 1 = 66 by decide)
              refine to_an (pc := 5) rw_84_5 rfl (to_an (pc := 6) rw_84_6 rfl ?_)
              have c_208 : M205.2.1 1 9 = (N.2.1 1 9) := (W_n W204 (by decide) (W_l W185 rfl))
              refine tt_gI (pc := 7) rw_84_7 (g_o hG206 rfl) (v := (N.2.1 1 9)) c_208 (s_pI (pc := 10) rw_84_10 hG206 rfl (fun M210 W209 => ?_))
              have hG211 := g_wf hG206 W209 rfl rfl (by decide)
              have F212 := FR.w F207 W209 (show 1 = 1 ∧ 5 ≤ 11 ∨ 3 ≤ 1 ∧ 1 ≤ 5 ∨ 1 = 57 ∨ 1 = 66 by decide)
              refine to_c (pc := 13) rw_84_13 (x := (0 : Int32)) rfl rfl (s_r1 (pc := 14) rw_84_14 (A := 0) rfl (by decide) (b_ieq_t (pc := 145) rw_42_145 (A := 0) rfl (by decide) (to_c (pc := 152) rw_42_152 (x := (0 : Int32)) rfl rfl (s_r1 (pc := 153) rw_42_153 (A := 0) rfl (by decide) ?_))))
              have k_213 : (0 : Int32).toInt = 0 := rfl
              have c_214 : M210.2.1 1 10 = (5 : Int32) := (W_n W209 (by decide) (W_e W204))
              have k_215 : (5 : Int32).toInt = 5 := rfl
              have t_216 : (M210.2.1 1 10).toInt = (5 : Int32).toInt := congrArg Int32.toInt c_214
              have c_217 : M210.2.1 1 11 = (N.2.1 1 9) := (W_e W209)
              have t_218 : (M210.2.1 1 11).toInt = (N.2.1 1 9).toInt := congrArg Int32.toInt c_217
              exact h (0 : Int32) M210 hG211 F212 (by decide) (by decide) (by omega)
        · refine to_i (pc := 29) rw_42_29 rfl (to_an (pc := 31) rw_42_31 rfl (s_gR (pc := 32) rw_42_32 hG (by rcases hp with rfl | rfl <;> rfl) (v := (p + 5)) (by rcases hp with rfl | rfl <;> rfl) (to_in (pc := 35) rw_42_35 rfl (s_ialk (pc := 36) rw_42_36 hG (by rcases hp with rfl | rfl <;> rfl) (n := 8) (by rcases hp with rfl | rfl <;> rfl) (by rcases hp with rfl | rfl <;> rfl) (A := f.toInt) rfl (by omega) (by omega) (v := v147) w_148 (b_cge (pc := 37) rw_42_37 (A := x5.toInt) (B := v147.toInt) rfl rfl (fun h221 => ?_) (fun h221 => ?_))))))
          · refine to_c (pc := 50) rw_42_50 (x := (-1 : Int32)) rfl rfl (to_is (pc := 51) rw_42_51 (ls2 := [.ref p, .ref 1, .int f, .long y3, .null, .int x5, .int (-1 : Int32), u7, u8]) rfl rfl (to_an (pc := 53) rw_42_53 rfl (to_c (pc := 54) rw_42_54 (x := (0 : Int32)) rfl rfl (to_i (pc := 55) rw_42_55 rfl (s_v (pc := 57) rw_42_57 (dp0 hd (by decide)) (ls0 := [.ref 1, .int (0 : Int32), .int (-1 : Int32)]) rfl (Nat.le_of_ble_eq_true rfl) (Nat.le_of_ble_eq_true rfl) rfl (to_rc rfl rfl rfl (g_o hG rfl)) rfl (to_an (pc := 0) rw_88_0 rfl (tt_gI (pc := 1) rw_88_1 (g_o hG rfl) (v := (N.2.1 1 7)) rfl (to_c (pc := 4) rw_88_4 (x := (2 : Int32)) rfl rfl (b_ceq_t (pc := 5) rw_88_5 (A := (N.2.1 1 7).toInt) (B := 2) rfl rfl (by omega) (to_an (pc := 14) rw_88_14 rfl (tt_gI (pc := 15) rw_88_15 (g_o hG rfl) (v := (N.2.1 1 8)) rfl ?_)))))))))))
            refine to_in (pc := 18) rw_88_18 rfl (b_clt (pc := 19) rw_88_19 (A := (N.2.1 1 8).toInt) (B := 0) rfl rfl (fun h222 => ?_) (fun h222 => ?_))
            · refine to_an (pc := 30) rw_88_30 rfl (to_c (pc := 31) rw_88_31 (x := (2 : Int32)) rfl rfl (s_v (pc := 32) rw_88_32 (dp1 hd (by decide)) (ls0 := [.ref 1, .int (2 : Int32)]) rfl (Nat.le_of_ble_eq_true rfl) (Nat.le_of_ble_eq_true rfl) rfl (to_rc rfl rfl rfl (g_o hG rfl)) rfl (to_an (pc := 0) rw_84_0 rfl (to_in (pc := 1) rw_84_1 rfl (s_pI (pc := 2) rw_84_2 hG rfl (fun M224 W223 => ?_))))))
              have hG225 := g_wf hG W223 rfl rfl (by decide)
              have F226 := FR.w F0 W223 (show 1 = 1 ∧ 5 ≤ 10 ∨ 3 ≤ 1 ∧ 1 ≤ 5 ∨ 1 = 57 ∨ 1 = 66 by decide)
              refine to_an (pc := 5) rw_84_5 rfl (to_an (pc := 6) rw_84_6 rfl ?_)
              have c_227 : M224.2.1 1 9 = (N.2.1 1 9) := (W_n W223 (by decide) rfl)
              refine tt_gI (pc := 7) rw_84_7 (g_o hG225 rfl) (v := (N.2.1 1 9)) c_227 (s_pI (pc := 10) rw_84_10 hG225 rfl (fun M229 W228 => ?_))
              have hG230 := g_wf hG225 W228 rfl rfl (by decide)
              have F231 := FR.w F226 W228 (show 1 = 1 ∧ 5 ≤ 11 ∨ 3 ≤ 1 ∧ 1 ≤ 5 ∨ 1 = 57 ∨ 1 = 66 by decide)
              refine to_c (pc := 13) rw_84_13 (x := (0 : Int32)) rfl rfl (s_r1 (pc := 14) rw_84_14 (A := 0) rfl (by decide) (b_ieq_t (pc := 35) rw_88_35 (A := 0) rfl (by decide) (to_c (pc := 42) rw_88_42 (x := (0 : Int32)) rfl rfl (s_r1 (pc := 43) rw_88_43 (A := 0) rfl (by decide) (b_ine_f (pc := 60) rw_42_60 (A := 0) rfl (by decide) (to_c (pc := 63) rw_42_63 (x := (0 : Int32)) rfl rfl (s_r1 (pc := 64) rw_42_64 (A := 0) rfl (by decide) ?_)))))))
              have k_232 : (0 : Int32).toInt = 0 := rfl
              have c_233 : M229.2.1 1 10 = (2 : Int32) := (W_n W228 (by decide) (W_e W223))
              have k_234 : (2 : Int32).toInt = 2 := rfl
              have t_235 : (M229.2.1 1 10).toInt = (2 : Int32).toInt := congrArg Int32.toInt c_233
              have c_236 : M229.2.1 1 11 = (N.2.1 1 9) := (W_e W228)
              have t_237 : (M229.2.1 1 11).toInt = (N.2.1 1 9).toInt := congrArg Int32.toInt c_236
              exact h (0 : Int32) M229 hG230 F231 (by decide) (by decide) (by omega)
            · refine to_an (pc := 22) rw_88_22 rfl (tt_gI (pc := 23) rw_88_23 (g_o hG rfl) (v := (N.2.1 1 8)) rfl (to_in (pc := 26) rw_88_26 rfl (b_cle_f (pc := 27) rw_88_27 (A := (N.2.1 1 8).toInt) (B := -1) rfl rfl (by omega) (to_an (pc := 30) rw_88_30 rfl (to_c (pc := 31) rw_88_31 (x := (2 : Int32)) rfl rfl (s_v (pc := 32) rw_88_32 (dp1 hd (by decide)) (ls0 := [.ref 1, .int (2 : Int32)]) rfl (Nat.le_of_ble_eq_true rfl) (Nat.le_of_ble_eq_true rfl) rfl (to_rc rfl rfl rfl (g_o hG rfl)) rfl (to_an (pc := 0) rw_84_0 rfl (to_in (pc := 1) rw_84_1 rfl (s_pI (pc := 2) rw_84_2 hG rfl (fun M239 W238 => ?_))))))))))
              have hG240 := g_wf hG W238 rfl rfl (by decide)
              have F241 := FR.w F0 W238 (show 1 = 1 ∧ 5 ≤ 10 ∨ 3 ≤ 1 ∧ 1 ≤ 5 ∨ 1 = 57 ∨ 1 = 66 by decide)
              refine to_an (pc := 5) rw_84_5 rfl (to_an (pc := 6) rw_84_6 rfl ?_)
              have c_242 : M239.2.1 1 9 = (N.2.1 1 9) := (W_n W238 (by decide) rfl)
              refine tt_gI (pc := 7) rw_84_7 (g_o hG240 rfl) (v := (N.2.1 1 9)) c_242 (s_pI (pc := 10) rw_84_10 hG240 rfl (fun M244 W243 => ?_))
              have hG245 := g_wf hG240 W243 rfl rfl (by decide)
              have F246 := FR.w F241 W243 (show 1 = 1 ∧ 5 ≤ 11 ∨ 3 ≤ 1 ∧ 1 ≤ 5 ∨ 1 = 57 ∨ 1 = 66 by decide)
              refine to_c (pc := 13) rw_84_13 (x := (0 : Int32)) rfl rfl (s_r1 (pc := 14) rw_84_14 (A := 0) rfl (by decide) (b_ieq_t (pc := 35) rw_88_35 (A := 0) rfl (by decide) (to_c (pc := 42) rw_88_42 (x := (0 : Int32)) rfl rfl (s_r1 (pc := 43) rw_88_43 (A := 0) rfl (by decide) (b_ine_f (pc := 60) rw_42_60 (A := 0) rfl (by decide) (to_c (pc := 63) rw_42_63 (x := (0 : Int32)) rfl rfl (s_r1 (pc := 64) rw_42_64 (A := 0) rfl (by decide) ?_)))))))
              have k_247 : (0 : Int32).toInt = 0 := rfl
              have c_248 : M244.2.1 1 10 = (2 : Int32) := (W_n W243 (by decide) (W_e W238))
              have k_249 : (2 : Int32).toInt = 2 := rfl
              have t_250 : (M244.2.1 1 10).toInt = (2 : Int32).toInt := congrArg Int32.toInt c_248
              have c_251 : M244.2.1 1 11 = (N.2.1 1 9) := (W_e W243)
              have t_252 : (M244.2.1 1 11).toInt = (N.2.1 1 9).toInt := congrArg Int32.toInt c_251
              exact h (0 : Int32) M244 hG245 F246 (by decide) (by decide) (by omega)
          · refine to_an (pc := 40) rw_42_40 rfl (to_in (pc := 41) rw_42_41 rfl (s_v (pc := 42) rw_42_42 (dp0 hd (by decide)) (ls0 := [.ref p, .int f]) rfl (Nat.le_of_ble_eq_true rfl) (Nat.le_of_ble_eq_true rfl) rfl (to_rc rfl rfl rfl (g_o hG (by rcases hp with rfl | rfl <;> rfl))) rfl (to_an (pc := 0) rw_47_0 rfl (s_gR (pc := 1) rw_47_1 hG (by rcases hp with rfl | rfl <;> rfl) (v := (p + 4)) (by rcases hp with rfl | rfl <;> rfl) (to_in (pc := 4) rw_47_4 rfl (s_ial (pc := 5) rw_47_5 hG (by rcases hp with rfl | rfl <;> rfl) (n := 8) (by rcases hp with rfl | rfl <;> rfl) (by rcases hp with rfl | rfl <;> rfl) (A := f.toInt) rfl (by omega) (by omega) (lo := 0) (hi := 63) (by rcases hp with rfl | rfl <;> rfl) (by rcases hp with rfl | rfl <;> rfl) (fun v253 w_254 _ _ => to_an (pc := 6) rw_47_6 rfl (s_gR (pc := 7) rw_47_7 hG (by rcases hp with rfl | rfl <;> rfl) (v := (p + 3)) (by rcases hp with rfl | rfl <;> rfl) (to_in (pc := 10) rw_47_10 rfl (s_ial (pc := 11) rw_47_11 hG (by rcases hp with rfl | rfl <;> rfl) (n := 8) (by rcases hp with rfl | rfl <;> rfl) (by rcases hp with rfl | rfl <;> rfl) (A := f.toInt) rfl (by omega) (by omega) (lo := 0) (hi := 59) (by rcases hp with rfl | rfl <;> rfl) (by rcases hp with rfl | rfl <;> rfl) (fun v255 w_256 _ _ => s_sub (pc := 12) rw_47_12 (A := v253.toInt) (B := v255.toInt) rfl rfl (by omega) (fun v257 e258 => ?_))))))))))))
            refine to_c (pc := 13) rw_47_13 (x := (1 : Int32)) rfl rfl (s_add (pc := 14) rw_47_14 (A := v257.toInt) (B := 1) rfl rfl (by omega) (fun v259 e260 => to_r0 (pc := 15) rw_47_15 (to_c (pc := 45) rw_42_45 (x := (1 : Int32)) rfl rfl (s_sub (pc := 46) rw_42_46 (A := v259.toInt) (B := 1) rfl rfl (by omega) (fun v261 e262 => to_go (pc := 47) rw_42_47 (to_is (pc := 51) rw_42_51 (ls2 := [.ref p, .ref 1, .int f, .long y3, .null, .int x5, .int v261, u7, u8]) rfl rfl (to_an (pc := 53) rw_42_53 rfl (to_c (pc := 54) rw_42_54 (x := (0 : Int32)) rfl rfl (to_i (pc := 55) rw_42_55 rfl (s_v (pc := 57) rw_42_57 (dp0 hd (by decide)) (ls0 := [.ref 1, .int (0 : Int32), .int v261]) rfl (Nat.le_of_ble_eq_true rfl) (Nat.le_of_ble_eq_true rfl) rfl (to_rc rfl rfl rfl (g_o hG rfl)) rfl (to_an (pc := 0) rw_88_0 rfl ?_)))))))))))
            refine tt_gI (pc := 1) rw_88_1 (g_o hG rfl) (v := (N.2.1 1 7)) rfl (to_c (pc := 4) rw_88_4 (x := (2 : Int32)) rfl rfl (b_ceq_t (pc := 5) rw_88_5 (A := (N.2.1 1 7).toInt) (B := 2) rfl rfl (by omega) (to_an (pc := 14) rw_88_14 rfl (tt_gI (pc := 15) rw_88_15 (g_o hG rfl) (v := (N.2.1 1 8)) rfl (to_in (pc := 18) rw_88_18 rfl (b_clt (pc := 19) rw_88_19 (A := (N.2.1 1 8).toInt) (B := 0) rfl rfl (fun h263 => ?_) (fun h263 => ?_)))))))
            · refine to_an (pc := 30) rw_88_30 rfl (to_c (pc := 31) rw_88_31 (x := (2 : Int32)) rfl rfl (s_v (pc := 32) rw_88_32 (dp1 hd (by decide)) (ls0 := [.ref 1, .int (2 : Int32)]) rfl (Nat.le_of_ble_eq_true rfl) (Nat.le_of_ble_eq_true rfl) rfl (to_rc rfl rfl rfl (g_o hG rfl)) rfl (to_an (pc := 0) rw_84_0 rfl (to_in (pc := 1) rw_84_1 rfl (s_pI (pc := 2) rw_84_2 hG rfl (fun M265 W264 => ?_))))))
              have hG266 := g_wf hG W264 rfl rfl (by decide)
              have F267 := FR.w F0 W264 (show 1 = 1 ∧ 5 ≤ 10 ∨ 3 ≤ 1 ∧ 1 ≤ 5 ∨ 1 = 57 ∨ 1 = 66 by decide)
              refine to_an (pc := 5) rw_84_5 rfl (to_an (pc := 6) rw_84_6 rfl ?_)
              have c_268 : M265.2.1 1 9 = (N.2.1 1 9) := (W_n W264 (by decide) rfl)
              refine tt_gI (pc := 7) rw_84_7 (g_o hG266 rfl) (v := (N.2.1 1 9)) c_268 (s_pI (pc := 10) rw_84_10 hG266 rfl (fun M270 W269 => ?_))
              have hG271 := g_wf hG266 W269 rfl rfl (by decide)
              have F272 := FR.w F267 W269 (show 1 = 1 ∧ 5 ≤ 11 ∨ 3 ≤ 1 ∧ 1 ≤ 5 ∨ 1 = 57 ∨ 1 = 66 by decide)
              refine to_c (pc := 13) rw_84_13 (x := (0 : Int32)) rfl rfl (s_r1 (pc := 14) rw_84_14 (A := 0) rfl (by decide) (b_ieq_t (pc := 35) rw_88_35 (A := 0) rfl (by decide) (to_c (pc := 42) rw_88_42 (x := (0 : Int32)) rfl rfl (s_r1 (pc := 43) rw_88_43 (A := 0) rfl (by decide) (b_ine_f (pc := 60) rw_42_60 (A := 0) rfl (by decide) (to_c (pc := 63) rw_42_63 (x := (0 : Int32)) rfl rfl (s_r1 (pc := 64) rw_42_64 (A := 0) rfl (by decide) ?_)))))))
              have k_273 : (0 : Int32).toInt = 0 := rfl
              have c_274 : M270.2.1 1 10 = (2 : Int32) := (W_n W269 (by decide) (W_e W264))
              have k_275 : (2 : Int32).toInt = 2 := rfl
              have t_276 : (M270.2.1 1 10).toInt = (2 : Int32).toInt := congrArg Int32.toInt c_274
              have c_277 : M270.2.1 1 11 = (N.2.1 1 9) := (W_e W269)
              have t_278 : (M270.2.1 1 11).toInt = (N.2.1 1 9).toInt := congrArg Int32.toInt c_277
              exact h (0 : Int32) M270 hG271 F272 (by decide) (by decide) (by omega)
            · refine to_an (pc := 22) rw_88_22 rfl (tt_gI (pc := 23) rw_88_23 (g_o hG rfl) (v := (N.2.1 1 8)) rfl (to_in (pc := 26) rw_88_26 rfl (b_cle (pc := 27) rw_88_27 (A := (N.2.1 1 8).toInt) (B := v261.toInt) rfl rfl (fun h279 => ?_) (fun h279 => ?_))))
              · refine to_c (pc := 38) rw_88_38 (x := (1 : Int32)) rfl rfl (to_go (pc := 39) rw_88_39 (s_r1 (pc := 43) rw_88_43 (A := 1) rfl (by decide) (b_ine_t (pc := 60) rw_42_60 (A := 1) rfl (by decide) (s_cl (pc := 65) rw_42_65 rfl (fun l280 => to_an (pc := 66) rw_42_66 rfl (s_gR (pc := 67) rw_42_67 hG (by rcases hp with rfl | rfl <;> rfl) (v := (p + 3)) (by rcases hp with rfl | rfl <;> rfl) (to_in (pc := 70) rw_42_70 rfl (s_ialk (pc := 71) rw_42_71 hG (by rcases hp with rfl | rfl <;> rfl) (n := 8) (by rcases hp with rfl | rfl <;> rfl) (by rcases hp with rfl | rfl <;> rfl) (A := f.toInt) rfl (by omega) (by omega) (v := v255) w_256 (to_an (pc := 72) rw_42_72 rfl (tt_gI (pc := 73) rw_42_73 (g_o hG rfl) (v := (N.2.1 1 8)) rfl (s_add (pc := 76) rw_42_76 (A := v255.toInt) (B := (N.2.1 1 8).toInt) rfl rfl (by omega) (fun v283 e284 => ?_))))))))))))
                refine s_anyS (pc := 77) rw_42_77 (fun _ _ => rfl) (fun l285 => to_ls (pc := 78) rw_42_78 (ls2 := [.ref p, .ref 1, .int f, .long y3, .null, .int x5, .int v261, .long l285, .null]) rfl rfl (to_ln (pc := 80) rw_42_80 rfl rfl rfl (to_l (pc := 81) rw_42_81 rfl rfl rfl (s_anyL (pc := 83) rw_42_83 (fun _ _ => rfl) (fun l286 => s_cl (pc := 84) rw_42_84 rfl (fun l287 => s_lcmp (pc := 85) rw_42_85 (fun v288 => b_ieq (pc := 86) rw_42_86 (A := v288.toInt) rfl (fun h289 => ?_) (fun h289 => ?_))))))))
                · refine to_ln (pc := 95) rw_42_95 rfl rfl rfl (to_l (pc := 96) rw_42_96 rfl rfl rfl (s_anyL (pc := 98) rw_42_98 (fun _ _ => rfl) (fun l290 => to_lsn (pc := 99) rw_42_99 (ls2 := [.ref p, .ref 1, .int f, .long l290, .null, .int x5, .int v261, .long l285, .null]) rfl rfl (s_inc (pc := 100) rw_42_100 (ls2 := fun v => [.ref p, .ref 1, .int f, .long l290, .null, .int v, .int v261, .long l285, .null]) rfl rfl (fun _ => rfl) (A := x5.toInt) (B := 1) rfl rfl (by omega) (fun v291 e292 => to_an (pc := 103) rw_42_103 rfl (s_v (pc := 104) rw_42_104 (dp0 hd (by decide)) (ls0 := [.ref 1]) rfl (Nat.le_of_ble_eq_true rfl) (Nat.le_of_ble_eq_true rfl) rfl (to_rc rfl rfl rfl (g_o hG rfl)) rfl (C_83 hX (dp1 hd (by decide)) hG  (fun M296 hG294 F293 p_295 => ?_))))))))
                  have F297 := FR.c F0 F293 tg_215
                  refine to_go (pc := 107) rw_42_107 ?_
                  have c_298 : M296.2.1 p 3 = (N.2.1 p 3) := (F_n F293 (show ¬ (p = 1 ∧ 5 ≤ 3 ∨ 3 ≤ p ∧ p ≤ 5) by omega) rfl)
                  have t_299 : (M296.2.1 p 3).toInt = (N.2.1 p 3).toInt := congrArg Int32.toInt c_298
                  exact ih M296 l290 v291 (.int v261) (.long l285) (.null) hG294 F297 (by omega) (by omega) (by omega) (by omega) (by omega) (by omega) (by omega)
                · refine to_an (pc := 89) rw_42_89 rfl (to_c (pc := 90) rw_42_90 (x := (3 : Int32)) rfl rfl (s_v (pc := 91) rw_42_91 (dp0 hd (by decide)) (ls0 := [.ref 1, .int (3 : Int32)]) rfl (Nat.le_of_ble_eq_true rfl) (Nat.le_of_ble_eq_true rfl) rfl (to_rc rfl rfl rfl (g_o hG rfl)) rfl (to_an (pc := 0) rw_84_0 rfl (to_in (pc := 1) rw_84_1 rfl (s_pI (pc := 2) rw_84_2 hG rfl (fun M301 W300 => ?_))))))
                  have hG302 := g_wf hG W300 rfl rfl (by decide)
                  have F303 := FR.w F0 W300 (show 1 = 1 ∧ 5 ≤ 10 ∨ 3 ≤ 1 ∧ 1 ≤ 5 ∨ 1 = 57 ∨ 1 = 66 by decide)
                  refine to_an (pc := 5) rw_84_5 rfl (to_an (pc := 6) rw_84_6 rfl ?_)
                  have c_304 : M301.2.1 1 9 = (N.2.1 1 9) := (W_n W300 (by decide) rfl)
                  refine tt_gI (pc := 7) rw_84_7 (g_o hG302 rfl) (v := (N.2.1 1 9)) c_304 (s_pI (pc := 10) rw_84_10 hG302 rfl (fun M306 W305 => ?_))
                  have hG307 := g_wf hG302 W305 rfl rfl (by decide)
                  have F308 := FR.w F303 W305 (show 1 = 1 ∧ 5 ≤ 11 ∨ 3 ≤ 1 ∧ 1 ≤ 5 ∨ 1 = 57 ∨ 1 = 66 by decide)
                  refine to_c (pc := 13) rw_84_13 (x := (0 : Int32)) rfl rfl (s_r1 (pc := 14) rw_84_14 (A := 0) rfl (by decide) (s_r1 (pc := 94) rw_42_94 (A := 0) rfl (by decide) ?_))
                  have k_309 : (0 : Int32).toInt = 0 := rfl
                  have c_310 : M306.2.1 1 10 = (3 : Int32) := (W_n W305 (by decide) (W_e W300))
                  have k_311 : (3 : Int32).toInt = 3 := rfl
                  have t_312 : (M306.2.1 1 10).toInt = (3 : Int32).toInt := congrArg Int32.toInt c_310
                  have c_313 : M306.2.1 1 11 = (N.2.1 1 9) := (W_e W305)
                  have t_314 : (M306.2.1 1 11).toInt = (N.2.1 1 9).toInt := congrArg Int32.toInt c_313
                  exact h (0 : Int32) M306 hG307 F308 (by decide) (by decide) (by omega)
              · refine to_an (pc := 30) rw_88_30 rfl (to_c (pc := 31) rw_88_31 (x := (2 : Int32)) rfl rfl (s_v (pc := 32) rw_88_32 (dp1 hd (by decide)) (ls0 := [.ref 1, .int (2 : Int32)]) rfl (Nat.le_of_ble_eq_true rfl) (Nat.le_of_ble_eq_true rfl) rfl (to_rc rfl rfl rfl (g_o hG rfl)) rfl (to_an (pc := 0) rw_84_0 rfl (to_in (pc := 1) rw_84_1 rfl (s_pI (pc := 2) rw_84_2 hG rfl (fun M316 W315 => ?_))))))
                have hG317 := g_wf hG W315 rfl rfl (by decide)
                have F318 := FR.w F0 W315 (show 1 = 1 ∧ 5 ≤ 10 ∨ 3 ≤ 1 ∧ 1 ≤ 5 ∨ 1 = 57 ∨ 1 = 66 by decide)
                refine to_an (pc := 5) rw_84_5 rfl (to_an (pc := 6) rw_84_6 rfl ?_)
                have c_319 : M316.2.1 1 9 = (N.2.1 1 9) := (W_n W315 (by decide) rfl)
                refine tt_gI (pc := 7) rw_84_7 (g_o hG317 rfl) (v := (N.2.1 1 9)) c_319 (s_pI (pc := 10) rw_84_10 hG317 rfl (fun M321 W320 => ?_))
                have hG322 := g_wf hG317 W320 rfl rfl (by decide)
                have F323 := FR.w F318 W320 (show 1 = 1 ∧ 5 ≤ 11 ∨ 3 ≤ 1 ∧ 1 ≤ 5 ∨ 1 = 57 ∨ 1 = 66 by decide)
                refine to_c (pc := 13) rw_84_13 (x := (0 : Int32)) rfl rfl (s_r1 (pc := 14) rw_84_14 (A := 0) rfl (by decide) (b_ieq_t (pc := 35) rw_88_35 (A := 0) rfl (by decide) (to_c (pc := 42) rw_88_42 (x := (0 : Int32)) rfl rfl (s_r1 (pc := 43) rw_88_43 (A := 0) rfl (by decide) (b_ine_f (pc := 60) rw_42_60 (A := 0) rfl (by decide) (to_c (pc := 63) rw_42_63 (x := (0 : Int32)) rfl rfl (s_r1 (pc := 64) rw_42_64 (A := 0) rfl (by decide) ?_)))))))
                have k_324 : (0 : Int32).toInt = 0 := rfl
                have c_325 : M321.2.1 1 10 = (2 : Int32) := (W_n W320 (by decide) (W_e W315))
                have k_326 : (2 : Int32).toInt = 2 := rfl
                have t_327 : (M321.2.1 1 10).toInt = (2 : Int32).toInt := congrArg Int32.toInt c_325
                have c_328 : M321.2.1 1 11 = (N.2.1 1 9) := (W_e W320)
                have t_329 : (M321.2.1 1 11).toInt = (N.2.1 1 9).toInt := congrArg Int32.toInt c_328
                exact h (0 : Int32) M321 hG322 F323 (by decide) (by decide) (by omega)
set_option maxRecDepth 4000 in
set_option maxHeartbeats 0 in
theorem C_42 {X : mm_X} {d : Nat} {M : mm_M} {Q : Option Value → mm_M → Prop} {p : Nat} {f : Int32} (hX : g_X X) (hd : 2 ≤ d) (hG : g_G M) (hp : p = 49 ∨ p = 58) (q1 : 0 ≤ f.toInt) (q2 : f.toInt ≤ 7) (q3 : (M.2.1 p 3).toInt ≤ 11) (h : ∀ (r : Int32) (M1 : mm_M), g_G M1 → FR md_c42 M M1 → (0 ≤ r.toInt) → (r.toInt ≤ 1) → (r.toInt = 1 → (M1.2.1 1 10).toInt = (M.2.1 1 10).toInt ∧ (M1.2.1 1 11).toInt = (M.2.1 1 11).toInt) → Q (some (.int r)) M1) : mm_T X d 42 0 [.ref p, .ref 1, .int f, .null, .null, .null, .null, .null, .null] [] M Q := by
  have F0 : FR md_c42 M M := FR.rf
  have b_330 := g_b hG (a := p) (i := 3) (lo := 0) (hi := 12) (by rcases hp with rfl | rfl <;> rfl) (by rcases hp with rfl | rfl <;> rfl)
  refine s_cl (pc := 0) rw_42_0 rfl (fun l331 => to_lsn (pc := 1) rw_42_1 (ls2 := [.ref p, .ref 1, .int f, .long l331, .null, .null, .null, .null, .null]) rfl rfl (to_c (pc := 2) rw_42_2 (x := (0 : Int32)) rfl rfl (to_is (pc := 3) rw_42_3 (ls2 := [.ref p, .ref 1, .int f, .long l331, .null, .int (0 : Int32), .null, .null, .null]) rfl rfl ?_)))
  have k_332 : (0 : Int32).toInt = 0 := rfl
  exact (T_42_0 (p := p) (f := f) hX hd hp q1 q2 q3 h ((25 - (0 : Int32).toInt).toNat + 1)) M l331 (0 : Int32) (.null) (.null) (.null) hG F0 (by omega) (by omega) (by omega) (by omega) (by omega) (by omega) (by omega)
set_option maxRecDepth 4000 in
set_option maxHeartbeats 0 in
theorem C_41 {X : mm_X} {d : Nat} {M : mm_M} {Q : Option Value → mm_M → Prop} {p : Nat} (hX : g_X X) (hd : 3 ≤ d) (hG : g_G M) (hp : p = 49 ∨ p = 58) (q1 : PI M) (h : ∀ (r : Int32) (M1 : mm_M), g_G M1 → FR md_pt M M1 → (0 ≤ r.toInt) → (r.toInt ≤ 1) → PI M1 → (r.toInt = 1 → (M1.2.1 1 10).toInt = (M.2.1 1 10).toInt ∧ (M1.2.1 1 11).toInt = (M.2.1 1 11).toInt) → Q (some (.int r)) M1) : mm_T X d 41 0 [.ref p, .ref 1, .null] [] M Q := by
  have F0 : FR md_pt M M := FR.rf
  refine to_an (pc := 0) rw_41_0 rfl ?_
  have b_1 := g_b hG (a := p) (i := 3) (lo := 0) (hi := 12) (by rcases hp with rfl | rfl <;> rfl) (by rcases hp with rfl | rfl <;> rfl)
  refine tt_gI (pc := 1) rw_41_1 (g_o hG (by rcases hp with rfl | rfl <;> rfl)) (v := (M.2.1 p 3)) rfl (to_c (pc := 4) rw_41_4 (x := (12 : Int32)) rfl rfl (b_clt (pc := 6) rw_41_6 (A := (M.2.1 p 3).toInt) (B := 12) rfl rfl (fun h2 => ?_) (fun h2 => ?_)))
  · refine to_an (pc := 15) rw_41_15 rfl (s_v (pc := 16) rw_41_16 (dp0 hd (by decide)) (ls0 := [.ref 1]) rfl (Nat.le_of_ble_eq_true rfl) (Nat.le_of_ble_eq_true rfl) rfl (to_rc rfl rfl rfl (g_o hG rfl)) rfl (C_83 hX (dp1 hd (by decide)) hG  (fun M6 hG4 F3 p_5 => ?_)))
    have F7 := FR.c F0 F3 tg_212
    refine to_an (pc := 19) rw_41_19 rfl (tt_gI (pc := 20) rw_41_20 (g_o hG4 rfl) (v := (M6.2.1 1 7)) rfl (to_c (pc := 23) rw_41_23 (x := (3 : Int32)) rfl rfl (b_ceq (pc := 24) rw_41_24 (A := (M6.2.1 1 7).toInt) (B := 3) rfl rfl (fun h8 => ?_) (fun h8 => ?_))))
    · refine to_an (pc := 33) rw_41_33 rfl (to_an (pc := 34) rw_41_34 rfl (tt_gI (pc := 35) rw_41_35 (g_o hG4 rfl) (v := (M6.2.1 1 8)) rfl (s_v (pc := 38) rw_41_38 (dp0 hd (by decide)) (ls0 := [.ref p, .int (M6.2.1 1 8)]) rfl (Nat.le_of_ble_eq_true rfl) (Nat.le_of_ble_eq_true rfl) rfl (to_rc rfl rfl rfl (g_o hG4 (by rcases hp with rfl | rfl <;> rfl))) rfl (to_an (pc := 0) rw_52_0 rfl (s_gR (pc := 1) rw_52_1 hG4 (by rcases hp with rfl | rfl <;> rfl) (v := (p + 1)) (by rcases hp with rfl | rfl <;> rfl) (to_an (pc := 4) rw_52_4 rfl ?_))))))
      have c_9 : M6.2.1 p 2 = (M.2.1 p 2) := (F_n F3 (show ¬ (p = 1 ∧ 5 ≤ 2 ∨ 3 ≤ p ∧ p ≤ 5) by omega) rfl)
      have b_10 := g_b hG (a := p) (i := 2) (lo := 0) (hi := 8) (by rcases hp with rfl | rfl <;> rfl) (by rcases hp with rfl | rfl <;> rfl)
      refine tt_gI (pc := 5) rw_52_5 (g_o hG4 (by rcases hp with rfl | rfl <;> rfl)) (v := (M.2.1 p 2)) c_9 (to_in (pc := 8) rw_52_8 rfl (s_s (pc := 9) rw_52_9 (dp1 hd (by decide)) (ls0 := [.ref (p + 1), .int (M.2.1 p 2), .int (M6.2.1 1 8), .null]) rfl (Nat.le_of_ble_eq_true rfl) (Nat.le_of_ble_eq_true rfl) rfl (to_rcs rfl rfl) rfl (C_54f hX (dp2 hd (by decide)) hG4 (by omega) (f := (p + 1)) (s := (M.2.1 p 2)) (x := (M6.2.1 1 8)) (fun r11 M16 hG13 F12 p_14 p_15 => ?_))))
      have F17 := FR.c F7 F12 tg_213
      refine to_r0 (pc := 12) rw_52_12 (to_isn (pc := 41) rw_41_41 (ls2 := [.ref p, .ref 1, .int r11]) rfl rfl (to_an (pc := 42) rw_41_42 rfl (to_in (pc := 43) rw_41_43 rfl (s_v (pc := 44) rw_41_44 (dp0 hd (by decide)) (ls0 := [.ref p, .int r11]) rfl (Nat.le_of_ble_eq_true rfl) (Nat.le_of_ble_eq_true rfl) rfl (to_rc rfl rfl rfl (g_o hG13 (by rcases hp with rfl | rfl <;> rfl))) rfl (to_in (pc := 0) rw_43_0 rfl (b_ilt (pc := 1) rw_43_1 (A := r11.toInt) rfl (fun h18 => ?_) (fun h18 => ?_)))))))
      · refine to_c (pc := 16) rw_43_16 (x := (0 : Int32)) rfl rfl (s_r1 (pc := 17) rw_43_17 (A := 0) rfl (by decide) (b_ieq_t (pc := 47) rw_41_47 (A := 0) rfl (by decide) (to_an (pc := 58) rw_41_58 rfl (to_c (pc := 59) rw_41_59 (x := (4 : Int32)) rfl rfl (s_v (pc := 60) rw_41_60 (dp0 hd (by decide)) (ls0 := [.ref 1, .int (4 : Int32)]) rfl (Nat.le_of_ble_eq_true rfl) (Nat.le_of_ble_eq_true rfl) rfl (to_rc rfl rfl rfl (g_o hG13 rfl)) rfl (to_an (pc := 0) rw_84_0 rfl (to_in (pc := 1) rw_84_1 rfl (s_pI (pc := 2) rw_84_2 hG13 rfl (fun M20 W19 => ?_)))))))))
        have hG21 := g_wf hG13 W19 rfl rfl (by decide)
        have F22 := FR.w F17 W19 (show 1 = 1 ∧ 5 ≤ 10 ∨ 3 ≤ 1 ∧ 1 ≤ 5 ∨ 49 ≤ 1 ∧ 1 ≤ 66 by decide)
        refine to_an (pc := 5) rw_84_5 rfl (to_an (pc := 6) rw_84_6 rfl ?_)
        have c_23 : M20.2.1 1 9 = (M6.2.1 1 9) := (W_n W19 (by decide) (F_n F12 (show ¬ (1 < 0) by decide) rfl))
        refine tt_gI (pc := 7) rw_84_7 (g_o hG21 rfl) (v := (M6.2.1 1 9)) c_23 (s_pI (pc := 10) rw_84_10 hG21 rfl (fun M25 W24 => ?_))
        have hG26 := g_wf hG21 W24 rfl rfl (by decide)
        have F27 := FR.w F22 W24 (show 1 = 1 ∧ 5 ≤ 11 ∨ 3 ≤ 1 ∧ 1 ≤ 5 ∨ 49 ≤ 1 ∧ 1 ≤ 66 by decide)
        refine to_c (pc := 13) rw_84_13 (x := (0 : Int32)) rfl rfl (s_r1 (pc := 14) rw_84_14 (A := 0) rfl (by decide) (s_r1 (pc := 63) rw_41_63 (A := 0) rfl (by decide) ?_))
        have k_28 : (0 : Int32).toInt = 0 := rfl
        have j_29 := (PI_f (fun a i z => W_n W24 (by /-r1,11-/ omega) rfl) (PI_f (fun a i z => W_n W19 (by /-r1,10-/ omega) rfl) (PI_f (tg_99 F12) (PI_f (tg_208 F3) q1))))
        have c_30 : M25.2.1 1 10 = (4 : Int32) := (W_n W24 (by decide) (W_e W19))
        have k_31 : (4 : Int32).toInt = 4 := rfl
        have t_32 : (M25.2.1 1 10).toInt = (4 : Int32).toInt := congrArg Int32.toInt c_30
        have c_33 : M25.2.1 1 11 = (M6.2.1 1 9) := (W_e W24)
        have t_34 : (M25.2.1 1 11).toInt = (M6.2.1 1 9).toInt := congrArg Int32.toInt c_33
        exact h (0 : Int32) M25 hG26 F27 (by decide) (by decide) j_29 (by omega)
      · refine to_in (pc := 4) rw_43_4 rfl (to_an (pc := 5) rw_43_5 rfl ?_)
        have c_35 : M16.2.1 p 2 = (M.2.1 p 2) := (F_n F12 (show ¬ (p < 0) by omega) c_9)
        refine tt_gI (pc := 6) rw_43_6 (g_o hG13 (by rcases hp with rfl | rfl <;> rfl)) (v := (M.2.1 p 2)) c_35 (b_cge (pc := 9) rw_43_9 (A := r11.toInt) (B := (M.2.1 p 2).toInt) rfl rfl (fun h36 => ?_) (fun h36 => ?_))
        · refine to_c (pc := 16) rw_43_16 (x := (0 : Int32)) rfl rfl (s_r1 (pc := 17) rw_43_17 (A := 0) rfl (by decide) (b_ieq_t (pc := 47) rw_41_47 (A := 0) rfl (by decide) (to_an (pc := 58) rw_41_58 rfl (to_c (pc := 59) rw_41_59 (x := (4 : Int32)) rfl rfl (s_v (pc := 60) rw_41_60 (dp0 hd (by decide)) (ls0 := [.ref 1, .int (4 : Int32)]) rfl (Nat.le_of_ble_eq_true rfl) (Nat.le_of_ble_eq_true rfl) rfl (to_rc rfl rfl rfl (g_o hG13 rfl)) rfl (to_an (pc := 0) rw_84_0 rfl (to_in (pc := 1) rw_84_1 rfl (s_pI (pc := 2) rw_84_2 hG13 rfl (fun M38 W37 => ?_)))))))))
          have hG39 := g_wf hG13 W37 rfl rfl (by decide)
          have F40 := FR.w F17 W37 (show 1 = 1 ∧ 5 ≤ 10 ∨ 3 ≤ 1 ∧ 1 ≤ 5 ∨ 49 ≤ 1 ∧ 1 ≤ 66 by decide)
          refine to_an (pc := 5) rw_84_5 rfl (to_an (pc := 6) rw_84_6 rfl ?_)
          have c_41 : M38.2.1 1 9 = (M6.2.1 1 9) := (W_n W37 (by decide) (F_n F12 (show ¬ (1 < 0) by decide) rfl))
          refine tt_gI (pc := 7) rw_84_7 (g_o hG39 rfl) (v := (M6.2.1 1 9)) c_41 (s_pI (pc := 10) rw_84_10 hG39 rfl (fun M43 W42 => ?_))
          have hG44 := g_wf hG39 W42 rfl rfl (by decide)
          have F45 := FR.w F40 W42 (show 1 = 1 ∧ 5 ≤ 11 ∨ 3 ≤ 1 ∧ 1 ≤ 5 ∨ 49 ≤ 1 ∧ 1 ≤ 66 by decide)
          refine to_c (pc := 13) rw_84_13 (x := (0 : Int32)) rfl rfl (s_r1 (pc := 14) rw_84_14 (A := 0) rfl (by decide) (s_r1 (pc := 63) rw_41_63 (A := 0) rfl (by decide) ?_))
          have k_46 : (0 : Int32).toInt = 0 := rfl
          have j_47 := (PI_f (fun a i z => W_n W42 (by /-r1,11-/ omega) rfl) (PI_f (fun a i z => W_n W37 (by /-r1,10-/ omega) rfl) (PI_f (tg_99 F12) (PI_f (tg_208 F3) q1))))
          have c_48 : M43.2.1 1 10 = (4 : Int32) := (W_n W42 (by decide) (W_e W37))
          have k_49 : (4 : Int32).toInt = 4 := rfl
          have t_50 : (M43.2.1 1 10).toInt = (4 : Int32).toInt := congrArg Int32.toInt c_48
          have c_51 : M43.2.1 1 11 = (M6.2.1 1 9) := (W_e W42)
          have t_52 : (M43.2.1 1 11).toInt = (M6.2.1 1 9).toInt := congrArg Int32.toInt c_51
          exact h (0 : Int32) M43 hG44 F45 (by decide) (by decide) j_47 (by omega)
        · refine to_c (pc := 12) rw_43_12 (x := (1 : Int32)) rfl rfl (to_go (pc := 13) rw_43_13 (s_r1 (pc := 17) rw_43_17 (A := 1) rfl (by decide) (b_ieq_f (pc := 47) rw_41_47 (A := 1) rfl (by decide) (to_an (pc := 50) rw_41_50 rfl (to_in (pc := 51) rw_41_51 rfl (s_v (pc := 52) rw_41_52 (dp0 hd (by decide)) (ls0 := [.ref p, .int r11]) rfl (Nat.le_of_ble_eq_true rfl) (Nat.le_of_ble_eq_true rfl) rfl (to_rc rfl rfl rfl (g_o hG13 (by rcases hp with rfl | rfl <;> rfl))) rfl (to_an (pc := 0) rw_45_0 rfl (s_gR (pc := 1) rw_45_1 hG13 (by rcases hp with rfl | rfl <;> rfl) (v := (p + 2)) (by rcases hp with rfl | rfl <;> rfl) (to_in (pc := 4) rw_45_4 rfl (s_ial (pc := 5) rw_45_5 hG13 (by rcases hp with rfl | rfl <;> rfl) (n := 8) (by rcases hp with rfl | rfl <;> rfl) (by rcases hp with rfl | rfl <;> rfl) (A := r11.toInt) rfl (by omega) (by omega) (lo := 0) (hi := 3) (by rcases hp with rfl | rfl <;> rfl) (by rcases hp with rfl | rfl <;> rfl) (fun v53 w_54 _ _ => to_c (pc := 6) rw_45_6 (x := (3 : Int32)) rfl rfl ?_)))))))))))
          refine b_cne (pc := 7) rw_45_7 (A := v53.toInt) (B := 3) rfl rfl (fun h55 => ?_) (fun h55 => ?_)
          · refine to_c (pc := 14) rw_45_14 (x := (0 : Int32)) rfl rfl (s_r1 (pc := 15) rw_45_15 (A := 0) rfl (by decide) (b_ine_f (pc := 55) rw_41_55 (A := 0) rfl (by decide) (to_an (pc := 58) rw_41_58 rfl (to_c (pc := 59) rw_41_59 (x := (4 : Int32)) rfl rfl (s_v (pc := 60) rw_41_60 (dp0 hd (by decide)) (ls0 := [.ref 1, .int (4 : Int32)]) rfl (Nat.le_of_ble_eq_true rfl) (Nat.le_of_ble_eq_true rfl) rfl (to_rc rfl rfl rfl (g_o hG13 rfl)) rfl (to_an (pc := 0) rw_84_0 rfl (to_in (pc := 1) rw_84_1 rfl (s_pI (pc := 2) rw_84_2 hG13 rfl (fun M57 W56 => ?_)))))))))
            have hG58 := g_wf hG13 W56 rfl rfl (by decide)
            have F59 := FR.w F17 W56 (show 1 = 1 ∧ 5 ≤ 10 ∨ 3 ≤ 1 ∧ 1 ≤ 5 ∨ 49 ≤ 1 ∧ 1 ≤ 66 by decide)
            refine to_an (pc := 5) rw_84_5 rfl (to_an (pc := 6) rw_84_6 rfl ?_)
            have c_60 : M57.2.1 1 9 = (M6.2.1 1 9) := (W_n W56 (by decide) (F_n F12 (show ¬ (1 < 0) by decide) rfl))
            refine tt_gI (pc := 7) rw_84_7 (g_o hG58 rfl) (v := (M6.2.1 1 9)) c_60 (s_pI (pc := 10) rw_84_10 hG58 rfl (fun M62 W61 => ?_))
            have hG63 := g_wf hG58 W61 rfl rfl (by decide)
            have F64 := FR.w F59 W61 (show 1 = 1 ∧ 5 ≤ 11 ∨ 3 ≤ 1 ∧ 1 ≤ 5 ∨ 49 ≤ 1 ∧ 1 ≤ 66 by decide)
            refine to_c (pc := 13) rw_84_13 (x := (0 : Int32)) rfl rfl (s_r1 (pc := 14) rw_84_14 (A := 0) rfl (by decide) (s_r1 (pc := 63) rw_41_63 (A := 0) rfl (by decide) ?_))
            have k_65 : (0 : Int32).toInt = 0 := rfl
            have j_66 := (PI_f (fun a i z => W_n W61 (by /-r1,11-/ omega) rfl) (PI_f (fun a i z => W_n W56 (by /-r1,10-/ omega) rfl) (PI_f (tg_99 F12) (PI_f (tg_208 F3) q1))))
            have c_67 : M62.2.1 1 10 = (4 : Int32) := (W_n W61 (by decide) (W_e W56))
            have k_68 : (4 : Int32).toInt = 4 := rfl
            have t_69 : (M62.2.1 1 10).toInt = (4 : Int32).toInt := congrArg Int32.toInt c_67
            have c_70 : M62.2.1 1 11 = (M6.2.1 1 9) := (W_e W61)
            have t_71 : (M62.2.1 1 11).toInt = (M6.2.1 1 9).toInt := congrArg Int32.toInt c_70
            exact h (0 : Int32) M62 hG63 F64 (by decide) (by decide) j_66 (by omega)
          · refine to_c (pc := 10) rw_45_10 (x := (1 : Int32)) rfl rfl (to_go (pc := 11) rw_45_11 (s_r1 (pc := 15) rw_45_15 (A := 1) rfl (by decide) (b_ine_t (pc := 55) rw_41_55 (A := 1) rfl (by decide) (to_an (pc := 64) rw_41_64 rfl (s_v (pc := 65) rw_41_65 (dp0 hd (by decide)) (ls0 := [.ref 1]) rfl (Nat.le_of_ble_eq_true rfl) (Nat.le_of_ble_eq_true rfl) rfl (to_rc rfl rfl rfl (g_o hG13 rfl)) rfl ?_)))))
            have c_72 : M16.2.1 1 10 = (M6.2.1 1 10) := (F_n F12 (show ¬ (1 < 0) by decide) rfl)
            have t_73 : (M16.2.1 1 10).toInt = (M6.2.1 1 10).toInt := congrArg Int32.toInt c_72
            have c_74 : M16.2.1 1 11 = (M6.2.1 1 11) := (F_n F12 (show ¬ (1 < 0) by decide) rfl)
            have t_75 : (M16.2.1 1 11).toInt = (M6.2.1 1 11).toInt := congrArg Int32.toInt c_74
            refine C_83 hX (dp1 hd (by decide)) hG13  (fun M79 hG77 F76 p_78 => ?_)
            have F80 := FR.c F17 F76 tg_212
            refine to_an (pc := 68) rw_41_68 rfl (to_an (pc := 69) rw_41_69 rfl (s_v (pc := 70) rw_41_70 (dp0 hd (by decide)) (ls0 := [.ref p, .ref 1]) rfl (Nat.le_of_ble_eq_true rfl) (Nat.le_of_ble_eq_true rfl) rfl (to_rc rfl rfl rfl (g_o hG77 (by rcases hp with rfl | rfl <;> rfl))) rfl (C_34 hX (dp1 hd (by decide)) hG77 hp (p := p) (fun r81 M87 hG83 F82 p_84 p_85 p_86 => ?_))))
            have F88 := FR.c F80 F82 tg_212
            refine b_ine (pc := 73) rw_41_73 (A := r81.toInt) rfl (fun h89 => ?_) (fun h89 => ?_)
            · refine to_an (pc := 78) rw_41_78 rfl (s_gR (pc := 79) rw_41_79 hG83 (by rcases hp with rfl | rfl <;> rfl) (v := (p + 6)) (by rcases hp with rfl | rfl <;> rfl) (to_an (pc := 82) rw_41_82 rfl ?_))
              have c_90 : M87.2.1 p 3 = (M.2.1 p 3) := (F_n F82 (show ¬ (p = 1 ∧ 5 ≤ 3 ∨ 3 ≤ p ∧ p ≤ 5) by omega) (F_n F76 (show ¬ (p = 1 ∧ 5 ≤ 3 ∨ 3 ≤ p ∧ p ≤ 5) by omega) (F_n F12 (show ¬ (p < 0) by omega) (F_n F3 (show ¬ (p = 1 ∧ 5 ≤ 3 ∨ 3 ≤ p ∧ p ≤ 5) by omega) rfl))))
              refine tt_gI (pc := 83) rw_41_83 (g_o hG83 (by rcases hp with rfl | rfl <;> rfl)) (v := (M.2.1 p 3)) c_90 (to_an (pc := 86) rw_41_86 rfl (tt_gI (pc := 87) rw_41_87 (g_o hG83 rfl) (v := (M87.2.1 1 8)) rfl (s_ias (pc := 90) rw_41_90 hG83 (by rcases hp with rfl | rfl <;> rfl) (n := 12) (by rcases hp with rfl | rfl <;> rfl) (A := (M.2.1 p 3).toInt) rfl (by omega) (by omega) (fun M92 W91 => ?_))))
              have hG93 := g_wf hG83 W91 (by rcases hp with rfl | rfl <;> rfl) (by rcases hp with rfl | rfl <;> rfl) (by omega)
              have F94 := FR.w F88 W91 (show (p + 6) = 1 ∧ 5 ≤ ((M.2.1 p 3).toInt).toNat ∨ 3 ≤ (p + 6) ∧ (p + 6) ≤ 5 ∨ 49 ≤ (p + 6) ∧ (p + 6) ≤ 66 by omega)
              refine to_an (pc := 91) rw_41_91 rfl (s_gR (pc := 92) rw_41_92 hG93 (by rcases hp with rfl | rfl <;> rfl) (v := (p + 7)) (by rcases hp with rfl | rfl <;> rfl) (to_an (pc := 95) rw_41_95 rfl ?_))
              have c_95 : M92.2.1 p 3 = (M.2.1 p 3) := (W_n W91 (by omega) c_90)
              refine tt_gI (pc := 96) rw_41_96 (g_o hG93 (by rcases hp with rfl | rfl <;> rfl)) (v := (M.2.1 p 3)) c_95 (to_in (pc := 99) rw_41_99 rfl (s_ias (pc := 100) rw_41_100 hG93 (by rcases hp with rfl | rfl <;> rfl) (n := 12) (by rcases hp with rfl | rfl <;> rfl) (A := (M.2.1 p 3).toInt) rfl (by omega) (by omega) (fun M97 W96 => ?_)))
              have hG98 := g_w hG93 W96 (A := r11.toInt) rfl (lo := 0) (hi := 7) (by rcases hp with rfl | rfl <;> rfl) (by rcases hp with rfl | rfl <;> rfl) (by omega) (by omega)
              have F99 := FR.w F94 W96 (show (p + 7) = 1 ∧ 5 ≤ ((M.2.1 p 3).toInt).toNat ∨ 3 ≤ (p + 7) ∧ (p + 7) ≤ 5 ∨ 49 ≤ (p + 7) ∧ (p + 7) ≤ 66 by omega)
              refine to_an (pc := 101) rw_41_101 rfl (s_v (pc := 102) rw_41_102 (dp0 hd (by decide)) (ls0 := [.ref 1]) rfl (Nat.le_of_ble_eq_true rfl) (Nat.le_of_ble_eq_true rfl) rfl (to_rc rfl rfl rfl (g_o hG98 rfl)) rfl ?_)
              have c_100 : M97.2.1 1 10 = (M87.2.1 1 10) := (W_n W96 (by omega) (W_n W91 (by omega) rfl))
              have t_101 : (M97.2.1 1 10).toInt = (M87.2.1 1 10).toInt := congrArg Int32.toInt c_100
              have c_102 : M97.2.1 1 11 = (M87.2.1 1 11) := (W_n W96 (by omega) (W_n W91 (by omega) rfl))
              have t_103 : (M97.2.1 1 11).toInt = (M87.2.1 1 11).toInt := congrArg Int32.toInt c_102
              refine C_83 hX (dp1 hd (by decide)) hG98  (fun M107 hG105 F104 p_106 => ?_)
              have F108 := FR.c F99 F104 tg_212
              refine to_an (pc := 105) rw_41_105 rfl (to_an (pc := 106) rw_41_106 rfl (to_in (pc := 107) rw_41_107 rfl (s_v (pc := 108) rw_41_108 (dp0 hd (by decide)) (ls0 := [.ref p, .ref 1, .int r11, .null, .null, .null, .null, .null, .null]) rfl (Nat.le_of_ble_eq_true rfl) (Nat.le_of_ble_eq_true rfl) rfl (to_rc rfl rfl rfl (g_o hG105 (by rcases hp with rfl | rfl <;> rfl))) rfl ?_)))
              have c_109 : M107.2.1 p 3 = (M.2.1 p 3) := (F_n F104 (show ¬ (p = 1 ∧ 5 ≤ 3 ∨ 3 ≤ p ∧ p ≤ 5) by omega) (W_n W96 (by omega) c_95))
              have t_110 : (M107.2.1 p 3).toInt = (M.2.1 p 3).toInt := congrArg Int32.toInt c_109
              refine C_42 hX (dp1 hd (by decide)) hG105 hp (by omega) (by omega) (by omega) (p := p) (f := r11) (fun r111 M117 hG113 F112 p_114 p_115 p_116 => ?_)
              have F118 := FR.c F108 F112 tg_216
              refine b_ine (pc := 111) rw_41_111 (A := r111.toInt) rfl (fun h119 => ?_) (fun h119 => ?_)
              · refine to_an (pc := 116) rw_41_116 rfl (to_dupr (pc := 117) rw_41_117 ?_)
                have c_120 : M117.2.1 p 3 = (M.2.1 p 3) := (F_n F112 (show ¬ (p = 1 ∧ 5 ≤ 3 ∨ 3 ≤ p ∧ p ≤ 5 ∨ p = 57 ∨ p = 66) by omega) c_109)
                refine tt_gI (pc := 118) rw_41_118 (g_o hG113 (by rcases hp with rfl | rfl <;> rfl)) (v := (M.2.1 p 3)) c_120 (to_c (pc := 121) rw_41_121 (x := (1 : Int32)) rfl rfl (s_add (pc := 122) rw_41_122 (A := (M.2.1 p 3).toInt) (B := 1) rfl rfl (by omega) (fun v121 e122 => s_pI (pc := 123) rw_41_123 hG113 (by rcases hp with rfl | rfl <;> rfl) (fun M124 W123 => ?_))))
                have hG125 := g_w hG113 W123 (A := v121.toInt) rfl (lo := 0) (hi := 12) (by rcases hp with rfl | rfl <;> rfl) (by rcases hp with rfl | rfl <;> rfl) (by omega) (by omega)
                have F126 := FR.w F118 W123 (show p = 1 ∧ 5 ≤ 3 ∨ 3 ≤ p ∧ p ≤ 5 ∨ 49 ≤ p ∧ p ≤ 66 by omega)
                refine to_c (pc := 126) rw_41_126 (x := (1 : Int32)) rfl rfl (s_r1 (pc := 127) rw_41_127 (A := 1) rfl (by decide) ?_)
                have k_127 : (1 : Int32).toInt = 1 := rfl
                have j_128 := (PI_f (fun a i z => W_n W123 (by omega) rfl) (PI_f (tg_209 F112) (PI_f (tg_208 F104) (PI_f (fun a i z => W_n W96 (by omega) rfl) (PI_f (fun a i z => W_n W91 (by omega) rfl) (PI_f (tg_208 F82) (PI_f (tg_208 F76) (PI_f (tg_99 F12) (PI_f (tg_208 F3) q1)))))))))
                have c_129 : M124.2.1 1 10 = (M117.2.1 1 10) := (W_n W123 (by omega) rfl)
                have t_130 : (M124.2.1 1 10).toInt = (M117.2.1 1 10).toInt := congrArg Int32.toInt c_129
                have c_131 : M124.2.1 1 11 = (M117.2.1 1 11) := (W_n W123 (by omega) rfl)
                have t_132 : (M124.2.1 1 11).toInt = (M117.2.1 1 11).toInt := congrArg Int32.toInt c_131
                exact h (1 : Int32) M124 hG125 F126 (by decide) (by decide) j_128 (by omega)
              · refine to_c (pc := 114) rw_41_114 (x := (0 : Int32)) rfl rfl (s_r1 (pc := 115) rw_41_115 (A := 0) rfl (by decide) ?_)
                have k_133 : (0 : Int32).toInt = 0 := rfl
                have j_134 := (PI_f (tg_209 F112) (PI_f (tg_208 F104) (PI_f (fun a i z => W_n W96 (by omega) rfl) (PI_f (fun a i z => W_n W91 (by omega) rfl) (PI_f (tg_208 F82) (PI_f (tg_208 F76) (PI_f (tg_99 F12) (PI_f (tg_208 F3) q1))))))))
                exact h (0 : Int32) M117 hG113 F118 (by decide) (by decide) j_134 (by omega)
            · refine to_c (pc := 76) rw_41_76 (x := (0 : Int32)) rfl rfl (s_r1 (pc := 77) rw_41_77 (A := 0) rfl (by decide) ?_)
              have k_135 : (0 : Int32).toInt = 0 := rfl
              have j_136 := (PI_f (tg_208 F82) (PI_f (tg_208 F76) (PI_f (tg_99 F12) (PI_f (tg_208 F3) q1))))
              exact h (0 : Int32) M87 hG83 F88 (by decide) (by decide) j_136 (by omega)
    · refine to_an (pc := 27) rw_41_27 rfl (to_c (pc := 28) rw_41_28 (x := (1 : Int32)) rfl rfl (s_v (pc := 29) rw_41_29 (dp0 hd (by decide)) (ls0 := [.ref 1, .int (1 : Int32)]) rfl (Nat.le_of_ble_eq_true rfl) (Nat.le_of_ble_eq_true rfl) rfl (to_rc rfl rfl rfl (g_o hG4 rfl)) rfl (to_an (pc := 0) rw_84_0 rfl (to_in (pc := 1) rw_84_1 rfl (s_pI (pc := 2) rw_84_2 hG4 rfl (fun M138 W137 => ?_))))))
      have hG139 := g_wf hG4 W137 rfl rfl (by decide)
      have F140 := FR.w F7 W137 (show 1 = 1 ∧ 5 ≤ 10 ∨ 3 ≤ 1 ∧ 1 ≤ 5 ∨ 49 ≤ 1 ∧ 1 ≤ 66 by decide)
      refine to_an (pc := 5) rw_84_5 rfl (to_an (pc := 6) rw_84_6 rfl ?_)
      have c_141 : M138.2.1 1 9 = (M6.2.1 1 9) := (W_n W137 (by decide) rfl)
      refine tt_gI (pc := 7) rw_84_7 (g_o hG139 rfl) (v := (M6.2.1 1 9)) c_141 (s_pI (pc := 10) rw_84_10 hG139 rfl (fun M143 W142 => ?_))
      have hG144 := g_wf hG139 W142 rfl rfl (by decide)
      have F145 := FR.w F140 W142 (show 1 = 1 ∧ 5 ≤ 11 ∨ 3 ≤ 1 ∧ 1 ≤ 5 ∨ 49 ≤ 1 ∧ 1 ≤ 66 by decide)
      refine to_c (pc := 13) rw_84_13 (x := (0 : Int32)) rfl rfl (s_r1 (pc := 14) rw_84_14 (A := 0) rfl (by decide) (s_r1 (pc := 32) rw_41_32 (A := 0) rfl (by decide) ?_))
      have k_146 : (0 : Int32).toInt = 0 := rfl
      have j_147 := (PI_f (fun a i z => W_n W142 (by /-r1,11-/ omega) rfl) (PI_f (fun a i z => W_n W137 (by /-r1,10-/ omega) rfl) (PI_f (tg_208 F3) q1)))
      have c_148 : M143.2.1 1 10 = (1 : Int32) := (W_n W142 (by decide) (W_e W137))
      have k_149 : (1 : Int32).toInt = 1 := rfl
      have t_150 : (M143.2.1 1 10).toInt = (1 : Int32).toInt := congrArg Int32.toInt c_148
      have c_151 : M143.2.1 1 11 = (M6.2.1 1 9) := (W_e W142)
      have t_152 : (M143.2.1 1 11).toInt = (M6.2.1 1 9).toInt := congrArg Int32.toInt c_151
      exact h (0 : Int32) M143 hG144 F145 (by decide) (by decide) j_147 (by omega)
  · refine to_an (pc := 9) rw_41_9 rfl (to_c (pc := 10) rw_41_10 (x := (2 : Int32)) rfl rfl (s_v (pc := 11) rw_41_11 (dp0 hd (by decide)) (ls0 := [.ref 1, .int (2 : Int32)]) rfl (Nat.le_of_ble_eq_true rfl) (Nat.le_of_ble_eq_true rfl) rfl (to_rc rfl rfl rfl (g_o hG rfl)) rfl (to_an (pc := 0) rw_84_0 rfl (to_in (pc := 1) rw_84_1 rfl (s_pI (pc := 2) rw_84_2 hG rfl (fun M154 W153 => ?_))))))
    have hG155 := g_wf hG W153 rfl rfl (by decide)
    have F156 := FR.w F0 W153 (show 1 = 1 ∧ 5 ≤ 10 ∨ 3 ≤ 1 ∧ 1 ≤ 5 ∨ 49 ≤ 1 ∧ 1 ≤ 66 by decide)
    refine to_an (pc := 5) rw_84_5 rfl (to_an (pc := 6) rw_84_6 rfl ?_)
    have c_157 : M154.2.1 1 9 = (M.2.1 1 9) := (W_n W153 (by decide) rfl)
    refine tt_gI (pc := 7) rw_84_7 (g_o hG155 rfl) (v := (M.2.1 1 9)) c_157 (s_pI (pc := 10) rw_84_10 hG155 rfl (fun M159 W158 => ?_))
    have hG160 := g_wf hG155 W158 rfl rfl (by decide)
    have F161 := FR.w F156 W158 (show 1 = 1 ∧ 5 ≤ 11 ∨ 3 ≤ 1 ∧ 1 ≤ 5 ∨ 49 ≤ 1 ∧ 1 ≤ 66 by decide)
    refine to_c (pc := 13) rw_84_13 (x := (0 : Int32)) rfl rfl (s_r1 (pc := 14) rw_84_14 (A := 0) rfl (by decide) (s_r1 (pc := 14) rw_41_14 (A := 0) rfl (by decide) ?_))
    have k_162 : (0 : Int32).toInt = 0 := rfl
    have j_163 := (PI_f (fun a i z => W_n W158 (by /-r1,11-/ omega) rfl) (PI_f (fun a i z => W_n W153 (by /-r1,10-/ omega) rfl) q1))
    have c_164 : M159.2.1 1 10 = (2 : Int32) := (W_n W158 (by decide) (W_e W153))
    have k_165 : (2 : Int32).toInt = 2 := rfl
    have t_166 : (M159.2.1 1 10).toInt = (2 : Int32).toInt := congrArg Int32.toInt c_164
    have c_167 : M159.2.1 1 11 = (M.2.1 1 9) := (W_e W158)
    have t_168 : (M159.2.1 1 11).toInt = (M.2.1 1 9).toInt := congrArg Int32.toInt c_167
    exact h (0 : Int32) M159 hG160 F161 (by decide) (by decide) j_163 (by omega)
set_option maxRecDepth 4000 in
set_option maxHeartbeats 0 in
theorem C_31 {X : mm_X} {d : Nat} {M : mm_M} {Q : Option Value → mm_M → Prop} {p : Nat} (hX : g_X X) (hd : 4 ≤ d) (hG : g_G M) (hp : p = 49 ∨ p = 58) (q1 : PI M) (h : ∀ (r : Int32) (M1 : mm_M), g_G M1 → FR md_pt M M1 → (0 ≤ r.toInt) → (r.toInt ≤ 1) → PI M1 → (r.toInt = 1 → (M1.2.1 1 10).toInt = (M.2.1 1 10).toInt ∧ (M1.2.1 1 11).toInt = (M.2.1 1 11).toInt) → Q (some (.int r)) M1) : mm_T X d 31 0 [.ref p, .ref 1] [] M Q := by
  have F0 : FR md_pt M M := FR.rf
  refine to_an (pc := 0) rw_31_0 rfl (to_c (pc := 1) rw_31_1 (x := (284563040 : Int32)) rfl rfl (s_v (pc := 3) rw_31_3 (dp0 hd (by decide)) (ls0 := [.ref 1, .int (284563040 : Int32)]) rfl (Nat.le_of_ble_eq_true rfl) (Nat.le_of_ble_eq_true rfl) rfl (to_rc rfl rfl rfl (g_o hG rfl)) rfl (to_an (pc := 0) rw_86_0 rfl (tt_gI (pc := 1) rw_86_1 (g_o hG rfl) (v := (M.2.1 1 7)) rfl (to_c (pc := 4) rw_86_4 (x := (4 : Int32)) rfl rfl (b_cne (pc := 5) rw_86_5 (A := (M.2.1 1 7).toInt) (B := 4) rfl rfl (fun h1 => ?_) (fun h1 => ?_)))))))
  · refine to_c (pc := 20) rw_86_20 (x := (0 : Int32)) rfl rfl (s_r1 (pc := 21) rw_86_21 (A := 0) rfl (by decide) (b_ieq_t (pc := 6) rw_31_6 (A := 0) rfl (by decide) (to_an (pc := 15) rw_31_15 rfl (tt_gI (pc := 16) rw_31_16 (g_o hG (by rcases hp with rfl | rfl <;> rfl)) (v := (M.2.1 p 1)) rfl (b_ile (pc := 19) rw_31_19 (A := (M.2.1 p 1).toInt) rfl (fun h2 => ?_) (fun h2 => ?_))))))
    · refine to_an (pc := 37) rw_31_37 rfl (tt_gI (pc := 38) rw_31_38 (g_o hG (by rcases hp with rfl | rfl <;> rfl)) (v := (M.2.1 p 1)) rfl (b_ile_t (pc := 41) rw_31_41 (A := (M.2.1 p 1).toInt) rfl (by omega) (to_an (pc := 59) rw_31_59 rfl (to_c (pc := 60) rw_31_60 (x := (1 : Int32)) rfl rfl (s_v (pc := 61) rw_31_61 (dp0 hd (by decide)) (ls0 := [.ref 1, .int (1 : Int32)]) rfl (Nat.le_of_ble_eq_true rfl) (Nat.le_of_ble_eq_true rfl) rfl (to_rc rfl rfl rfl (g_o hG rfl)) rfl (to_an (pc := 0) rw_84_0 rfl (to_in (pc := 1) rw_84_1 rfl (s_pI (pc := 2) rw_84_2 hG rfl (fun M4 W3 => ?_)))))))))
      have hG5 := g_wf hG W3 rfl rfl (by decide)
      have F6 := FR.w F0 W3 (show 1 = 1 ∧ 5 ≤ 10 ∨ 3 ≤ 1 ∧ 1 ≤ 5 ∨ 49 ≤ 1 ∧ 1 ≤ 66 by decide)
      refine to_an (pc := 5) rw_84_5 rfl (to_an (pc := 6) rw_84_6 rfl ?_)
      have c_7 : M4.2.1 1 9 = (M.2.1 1 9) := (W_n W3 (by decide) rfl)
      refine tt_gI (pc := 7) rw_84_7 (g_o hG5 rfl) (v := (M.2.1 1 9)) c_7 (s_pI (pc := 10) rw_84_10 hG5 rfl (fun M9 W8 => ?_))
      have hG10 := g_wf hG5 W8 rfl rfl (by decide)
      have F11 := FR.w F6 W8 (show 1 = 1 ∧ 5 ≤ 11 ∨ 3 ≤ 1 ∧ 1 ≤ 5 ∨ 49 ≤ 1 ∧ 1 ≤ 66 by decide)
      refine to_c (pc := 13) rw_84_13 (x := (0 : Int32)) rfl rfl (s_r1 (pc := 14) rw_84_14 (A := 0) rfl (by decide) (s_r1 (pc := 64) rw_31_64 (A := 0) rfl (by decide) ?_))
      have k_12 : (0 : Int32).toInt = 0 := rfl
      have j_13 := (PI_f (fun a i z => W_n W8 (by /-r1,11-/ omega) rfl) (PI_f (fun a i z => W_n W3 (by /-r1,10-/ omega) rfl) q1))
      have c_14 : M9.2.1 1 10 = (1 : Int32) := (W_n W8 (by decide) (W_e W3))
      have k_15 : (1 : Int32).toInt = 1 := rfl
      have t_16 : (M9.2.1 1 10).toInt = (1 : Int32).toInt := congrArg Int32.toInt c_14
      have c_17 : M9.2.1 1 11 = (M.2.1 1 9) := (W_e W8)
      have t_18 : (M9.2.1 1 11).toInt = (M.2.1 1 9).toInt := congrArg Int32.toInt c_17
      exact h (0 : Int32) M9 hG10 F11 (by decide) (by decide) j_13 (by omega)
    · refine to_an (pc := 22) rw_31_22 rfl (to_c (pc := 23) rw_31_23 (x := (210940032 : Int32)) rfl rfl (s_v (pc := 25) rw_31_25 (dp0 hd (by decide)) (ls0 := [.ref 1, .int (210940032 : Int32)]) rfl (Nat.le_of_ble_eq_true rfl) (Nat.le_of_ble_eq_true rfl) rfl (to_rc rfl rfl rfl (g_o hG rfl)) rfl (to_an (pc := 0) rw_86_0 rfl (tt_gI (pc := 1) rw_86_1 (g_o hG rfl) (v := (M.2.1 1 7)) rfl (to_c (pc := 4) rw_86_4 (x := (4 : Int32)) rfl rfl (b_cne (pc := 5) rw_86_5 (A := (M.2.1 1 7).toInt) (B := 4) rfl rfl (fun h19 => ?_) (fun h19 => ?_)))))))
      · refine to_c (pc := 20) rw_86_20 (x := (0 : Int32)) rfl rfl (s_r1 (pc := 21) rw_86_21 (A := 0) rfl (by decide) (b_ieq_t (pc := 28) rw_31_28 (A := 0) rfl (by decide) (to_an (pc := 37) rw_31_37 rfl (tt_gI (pc := 38) rw_31_38 (g_o hG (by rcases hp with rfl | rfl <;> rfl)) (v := (M.2.1 p 1)) rfl (b_ile_f (pc := 41) rw_31_41 (A := (M.2.1 p 1).toInt) rfl (by omega) (to_an (pc := 44) rw_31_44 rfl (to_c (pc := 45) rw_31_45 (x := (788074496 : Int32)) rfl rfl (s_v (pc := 47) rw_31_47 (dp0 hd (by decide)) (ls0 := [.ref 1, .int (788074496 : Int32)]) rfl (Nat.le_of_ble_eq_true rfl) (Nat.le_of_ble_eq_true rfl) rfl (to_rc rfl rfl rfl (g_o hG rfl)) rfl (to_an (pc := 0) rw_86_0 rfl (tt_gI (pc := 1) rw_86_1 (g_o hG rfl) (v := (M.2.1 1 7)) rfl (to_c (pc := 4) rw_86_4 (x := (4 : Int32)) rfl rfl ?_)))))))))))
        refine b_cne (pc := 5) rw_86_5 (A := (M.2.1 1 7).toInt) (B := 4) rfl rfl (fun h20 => ?_) (fun h20 => ?_)
        · refine to_c (pc := 20) rw_86_20 (x := (0 : Int32)) rfl rfl (s_r1 (pc := 21) rw_86_21 (A := 0) rfl (by decide) (b_ieq_t (pc := 50) rw_31_50 (A := 0) rfl (by decide) (to_an (pc := 59) rw_31_59 rfl (to_c (pc := 60) rw_31_60 (x := (1 : Int32)) rfl rfl (s_v (pc := 61) rw_31_61 (dp0 hd (by decide)) (ls0 := [.ref 1, .int (1 : Int32)]) rfl (Nat.le_of_ble_eq_true rfl) (Nat.le_of_ble_eq_true rfl) rfl (to_rc rfl rfl rfl (g_o hG rfl)) rfl (to_an (pc := 0) rw_84_0 rfl (to_in (pc := 1) rw_84_1 rfl (s_pI (pc := 2) rw_84_2 hG rfl (fun M22 W21 => ?_)))))))))
          have hG23 := g_wf hG W21 rfl rfl (by decide)
          have F24 := FR.w F0 W21 (show 1 = 1 ∧ 5 ≤ 10 ∨ 3 ≤ 1 ∧ 1 ≤ 5 ∨ 49 ≤ 1 ∧ 1 ≤ 66 by decide)
          refine to_an (pc := 5) rw_84_5 rfl (to_an (pc := 6) rw_84_6 rfl ?_)
          have c_25 : M22.2.1 1 9 = (M.2.1 1 9) := (W_n W21 (by decide) rfl)
          refine tt_gI (pc := 7) rw_84_7 (g_o hG23 rfl) (v := (M.2.1 1 9)) c_25 (s_pI (pc := 10) rw_84_10 hG23 rfl (fun M27 W26 => ?_))
          have hG28 := g_wf hG23 W26 rfl rfl (by decide)
          have F29 := FR.w F24 W26 (show 1 = 1 ∧ 5 ≤ 11 ∨ 3 ≤ 1 ∧ 1 ≤ 5 ∨ 49 ≤ 1 ∧ 1 ≤ 66 by decide)
          refine to_c (pc := 13) rw_84_13 (x := (0 : Int32)) rfl rfl (s_r1 (pc := 14) rw_84_14 (A := 0) rfl (by decide) (s_r1 (pc := 64) rw_31_64 (A := 0) rfl (by decide) ?_))
          have k_30 : (0 : Int32).toInt = 0 := rfl
          have j_31 := (PI_f (fun a i z => W_n W26 (by /-r1,11-/ omega) rfl) (PI_f (fun a i z => W_n W21 (by /-r1,10-/ omega) rfl) q1))
          have c_32 : M27.2.1 1 10 = (1 : Int32) := (W_n W26 (by decide) (W_e W21))
          have k_33 : (1 : Int32).toInt = 1 := rfl
          have t_34 : (M27.2.1 1 10).toInt = (1 : Int32).toInt := congrArg Int32.toInt c_32
          have c_35 : M27.2.1 1 11 = (M.2.1 1 9) := (W_e W26)
          have t_36 : (M27.2.1 1 11).toInt = (M.2.1 1 9).toInt := congrArg Int32.toInt c_35
          exact h (0 : Int32) M27 hG28 F29 (by decide) (by decide) j_31 (by omega)
        · refine to_an (pc := 8) rw_86_8 rfl (tt_gI (pc := 9) rw_86_9 (g_o hG rfl) (v := (M.2.1 1 8)) rfl (to_in (pc := 12) rw_86_12 rfl (b_cne (pc := 13) rw_86_13 (A := (M.2.1 1 8).toInt) (B := 788074496) rfl rfl (fun h37 => ?_) (fun h37 => ?_))))
          · refine to_c (pc := 20) rw_86_20 (x := (0 : Int32)) rfl rfl (s_r1 (pc := 21) rw_86_21 (A := 0) rfl (by decide) (b_ieq_t (pc := 50) rw_31_50 (A := 0) rfl (by decide) (to_an (pc := 59) rw_31_59 rfl (to_c (pc := 60) rw_31_60 (x := (1 : Int32)) rfl rfl (s_v (pc := 61) rw_31_61 (dp0 hd (by decide)) (ls0 := [.ref 1, .int (1 : Int32)]) rfl (Nat.le_of_ble_eq_true rfl) (Nat.le_of_ble_eq_true rfl) rfl (to_rc rfl rfl rfl (g_o hG rfl)) rfl (to_an (pc := 0) rw_84_0 rfl (to_in (pc := 1) rw_84_1 rfl (s_pI (pc := 2) rw_84_2 hG rfl (fun M39 W38 => ?_)))))))))
            have hG40 := g_wf hG W38 rfl rfl (by decide)
            have F41 := FR.w F0 W38 (show 1 = 1 ∧ 5 ≤ 10 ∨ 3 ≤ 1 ∧ 1 ≤ 5 ∨ 49 ≤ 1 ∧ 1 ≤ 66 by decide)
            refine to_an (pc := 5) rw_84_5 rfl (to_an (pc := 6) rw_84_6 rfl ?_)
            have c_42 : M39.2.1 1 9 = (M.2.1 1 9) := (W_n W38 (by decide) rfl)
            refine tt_gI (pc := 7) rw_84_7 (g_o hG40 rfl) (v := (M.2.1 1 9)) c_42 (s_pI (pc := 10) rw_84_10 hG40 rfl (fun M44 W43 => ?_))
            have hG45 := g_wf hG40 W43 rfl rfl (by decide)
            have F46 := FR.w F41 W43 (show 1 = 1 ∧ 5 ≤ 11 ∨ 3 ≤ 1 ∧ 1 ≤ 5 ∨ 49 ≤ 1 ∧ 1 ≤ 66 by decide)
            refine to_c (pc := 13) rw_84_13 (x := (0 : Int32)) rfl rfl (s_r1 (pc := 14) rw_84_14 (A := 0) rfl (by decide) (s_r1 (pc := 64) rw_31_64 (A := 0) rfl (by decide) ?_))
            have k_47 : (0 : Int32).toInt = 0 := rfl
            have j_48 := (PI_f (fun a i z => W_n W43 (by /-r1,11-/ omega) rfl) (PI_f (fun a i z => W_n W38 (by /-r1,10-/ omega) rfl) q1))
            have c_49 : M44.2.1 1 10 = (1 : Int32) := (W_n W43 (by decide) (W_e W38))
            have k_50 : (1 : Int32).toInt = 1 := rfl
            have t_51 : (M44.2.1 1 10).toInt = (1 : Int32).toInt := congrArg Int32.toInt c_49
            have c_52 : M44.2.1 1 11 = (M.2.1 1 9) := (W_e W43)
            have t_53 : (M44.2.1 1 11).toInt = (M.2.1 1 9).toInt := congrArg Int32.toInt c_52
            exact h (0 : Int32) M44 hG45 F46 (by decide) (by decide) j_48 (by omega)
          · refine to_c (pc := 16) rw_86_16 (x := (1 : Int32)) rfl rfl (to_go (pc := 17) rw_86_17 (s_r1 (pc := 21) rw_86_21 (A := 1) rfl (by decide) (b_ieq_f (pc := 50) rw_31_50 (A := 1) rfl (by decide) (to_an (pc := 53) rw_31_53 rfl (to_an (pc := 54) rw_31_54 rfl (s_v (pc := 55) rw_31_55 (dp0 hd (by decide)) (ls0 := [.ref p, .ref 1, .null]) rfl (Nat.le_of_ble_eq_true rfl) (Nat.le_of_ble_eq_true rfl) rfl (to_rc rfl rfl rfl (g_o hG (by rcases hp with rfl | rfl <;> rfl))) rfl (C_41 hX (dp1 hd (by decide)) hG hp q1 (p := p) (fun r54 M61 hG56 F55 p_57 p_58 p_59 p_60 => ?_))))))))
            have F62 := FR.c F0 F55 tg_217
            refine s_r1 (pc := 58) rw_31_58 (A := r54.toInt) rfl (by omega) ?_
            exact h r54 M61 hG56 F62 (by omega) (by omega) p_59 (by omega)
      · refine to_an (pc := 8) rw_86_8 rfl (tt_gI (pc := 9) rw_86_9 (g_o hG rfl) (v := (M.2.1 1 8)) rfl (to_in (pc := 12) rw_86_12 rfl (b_cne (pc := 13) rw_86_13 (A := (M.2.1 1 8).toInt) (B := 210940032) rfl rfl (fun h63 => ?_) (fun h63 => ?_))))
        · refine to_c (pc := 20) rw_86_20 (x := (0 : Int32)) rfl rfl (s_r1 (pc := 21) rw_86_21 (A := 0) rfl (by decide) (b_ieq_t (pc := 28) rw_31_28 (A := 0) rfl (by decide) (to_an (pc := 37) rw_31_37 rfl (tt_gI (pc := 38) rw_31_38 (g_o hG (by rcases hp with rfl | rfl <;> rfl)) (v := (M.2.1 p 1)) rfl (b_ile_f (pc := 41) rw_31_41 (A := (M.2.1 p 1).toInt) rfl (by omega) (to_an (pc := 44) rw_31_44 rfl (to_c (pc := 45) rw_31_45 (x := (788074496 : Int32)) rfl rfl (s_v (pc := 47) rw_31_47 (dp0 hd (by decide)) (ls0 := [.ref 1, .int (788074496 : Int32)]) rfl (Nat.le_of_ble_eq_true rfl) (Nat.le_of_ble_eq_true rfl) rfl (to_rc rfl rfl rfl (g_o hG rfl)) rfl (to_an (pc := 0) rw_86_0 rfl (tt_gI (pc := 1) rw_86_1 (g_o hG rfl) (v := (M.2.1 1 7)) rfl (to_c (pc := 4) rw_86_4 (x := (4 : Int32)) rfl rfl ?_)))))))))))
          refine b_cne_f (pc := 5) rw_86_5 (A := (M.2.1 1 7).toInt) (B := 4) rfl rfl (by omega) (to_an (pc := 8) rw_86_8 rfl (tt_gI (pc := 9) rw_86_9 (g_o hG rfl) (v := (M.2.1 1 8)) rfl (to_in (pc := 12) rw_86_12 rfl (b_cne (pc := 13) rw_86_13 (A := (M.2.1 1 8).toInt) (B := 788074496) rfl rfl (fun h64 => ?_) (fun h64 => ?_)))))
          · refine to_c (pc := 20) rw_86_20 (x := (0 : Int32)) rfl rfl (s_r1 (pc := 21) rw_86_21 (A := 0) rfl (by decide) (b_ieq_t (pc := 50) rw_31_50 (A := 0) rfl (by decide) (to_an (pc := 59) rw_31_59 rfl (to_c (pc := 60) rw_31_60 (x := (1 : Int32)) rfl rfl (s_v (pc := 61) rw_31_61 (dp0 hd (by decide)) (ls0 := [.ref 1, .int (1 : Int32)]) rfl (Nat.le_of_ble_eq_true rfl) (Nat.le_of_ble_eq_true rfl) rfl (to_rc rfl rfl rfl (g_o hG rfl)) rfl (to_an (pc := 0) rw_84_0 rfl (to_in (pc := 1) rw_84_1 rfl (s_pI (pc := 2) rw_84_2 hG rfl (fun M66 W65 => ?_)))))))))
            have hG67 := g_wf hG W65 rfl rfl (by decide)
            have F68 := FR.w F0 W65 (show 1 = 1 ∧ 5 ≤ 10 ∨ 3 ≤ 1 ∧ 1 ≤ 5 ∨ 49 ≤ 1 ∧ 1 ≤ 66 by decide)
            refine to_an (pc := 5) rw_84_5 rfl (to_an (pc := 6) rw_84_6 rfl ?_)
            have c_69 : M66.2.1 1 9 = (M.2.1 1 9) := (W_n W65 (by decide) rfl)
            refine tt_gI (pc := 7) rw_84_7 (g_o hG67 rfl) (v := (M.2.1 1 9)) c_69 (s_pI (pc := 10) rw_84_10 hG67 rfl (fun M71 W70 => ?_))
            have hG72 := g_wf hG67 W70 rfl rfl (by decide)
            have F73 := FR.w F68 W70 (show 1 = 1 ∧ 5 ≤ 11 ∨ 3 ≤ 1 ∧ 1 ≤ 5 ∨ 49 ≤ 1 ∧ 1 ≤ 66 by decide)
            refine to_c (pc := 13) rw_84_13 (x := (0 : Int32)) rfl rfl (s_r1 (pc := 14) rw_84_14 (A := 0) rfl (by decide) (s_r1 (pc := 64) rw_31_64 (A := 0) rfl (by decide) ?_))
            have k_74 : (0 : Int32).toInt = 0 := rfl
            have j_75 := (PI_f (fun a i z => W_n W70 (by /-r1,11-/ omega) rfl) (PI_f (fun a i z => W_n W65 (by /-r1,10-/ omega) rfl) q1))
            have c_76 : M71.2.1 1 10 = (1 : Int32) := (W_n W70 (by decide) (W_e W65))
            have k_77 : (1 : Int32).toInt = 1 := rfl
            have t_78 : (M71.2.1 1 10).toInt = (1 : Int32).toInt := congrArg Int32.toInt c_76
            have c_79 : M71.2.1 1 11 = (M.2.1 1 9) := (W_e W70)
            have t_80 : (M71.2.1 1 11).toInt = (M.2.1 1 9).toInt := congrArg Int32.toInt c_79
            exact h (0 : Int32) M71 hG72 F73 (by decide) (by decide) j_75 (by omega)
          · refine to_c (pc := 16) rw_86_16 (x := (1 : Int32)) rfl rfl (to_go (pc := 17) rw_86_17 (s_r1 (pc := 21) rw_86_21 (A := 1) rfl (by decide) (b_ieq_f (pc := 50) rw_31_50 (A := 1) rfl (by decide) (to_an (pc := 53) rw_31_53 rfl (to_an (pc := 54) rw_31_54 rfl (s_v (pc := 55) rw_31_55 (dp0 hd (by decide)) (ls0 := [.ref p, .ref 1, .null]) rfl (Nat.le_of_ble_eq_true rfl) (Nat.le_of_ble_eq_true rfl) rfl (to_rc rfl rfl rfl (g_o hG (by rcases hp with rfl | rfl <;> rfl))) rfl (C_41 hX (dp1 hd (by decide)) hG hp q1 (p := p) (fun r81 M88 hG83 F82 p_84 p_85 p_86 p_87 => ?_))))))))
            have F89 := FR.c F0 F82 tg_217
            refine s_r1 (pc := 58) rw_31_58 (A := r81.toInt) rfl (by omega) ?_
            exact h r81 M88 hG83 F89 (by omega) (by omega) p_86 (by omega)
        · refine to_c (pc := 16) rw_86_16 (x := (1 : Int32)) rfl rfl (to_go (pc := 17) rw_86_17 (s_r1 (pc := 21) rw_86_21 (A := 1) rfl (by decide) (b_ieq_f (pc := 28) rw_31_28 (A := 1) rfl (by decide) (to_an (pc := 31) rw_31_31 rfl (to_an (pc := 32) rw_31_32 rfl (s_v (pc := 33) rw_31_33 (dp0 hd (by decide)) (ls0 := [.ref p, .ref 1, .null, .null]) rfl (Nat.le_of_ble_eq_true rfl) (Nat.le_of_ble_eq_true rfl) rfl (to_rc rfl rfl rfl (g_o hG (by rcases hp with rfl | rfl <;> rfl))) rfl (C_33 hX (dp1 hd (by decide)) hG hp q1 (p := p) (fun r90 M97 hG92 F91 p_93 p_94 p_95 p_96 => ?_))))))))
          have F98 := FR.c F0 F91 tg_217
          refine s_r1 (pc := 36) rw_31_36 (A := r90.toInt) rfl (by omega) ?_
          exact h r90 M97 hG92 F98 (by omega) (by omega) p_95 (by omega)
  · refine to_an (pc := 8) rw_86_8 rfl (tt_gI (pc := 9) rw_86_9 (g_o hG rfl) (v := (M.2.1 1 8)) rfl (to_in (pc := 12) rw_86_12 rfl (b_cne (pc := 13) rw_86_13 (A := (M.2.1 1 8).toInt) (B := 284563040) rfl rfl (fun h99 => ?_) (fun h99 => ?_))))
    · refine to_c (pc := 20) rw_86_20 (x := (0 : Int32)) rfl rfl (s_r1 (pc := 21) rw_86_21 (A := 0) rfl (by decide) (b_ieq_t (pc := 6) rw_31_6 (A := 0) rfl (by decide) (to_an (pc := 15) rw_31_15 rfl (tt_gI (pc := 16) rw_31_16 (g_o hG (by rcases hp with rfl | rfl <;> rfl)) (v := (M.2.1 p 1)) rfl (b_ile (pc := 19) rw_31_19 (A := (M.2.1 p 1).toInt) rfl (fun h100 => ?_) (fun h100 => ?_))))))
      · refine to_an (pc := 37) rw_31_37 rfl (tt_gI (pc := 38) rw_31_38 (g_o hG (by rcases hp with rfl | rfl <;> rfl)) (v := (M.2.1 p 1)) rfl (b_ile_t (pc := 41) rw_31_41 (A := (M.2.1 p 1).toInt) rfl (by omega) (to_an (pc := 59) rw_31_59 rfl (to_c (pc := 60) rw_31_60 (x := (1 : Int32)) rfl rfl (s_v (pc := 61) rw_31_61 (dp0 hd (by decide)) (ls0 := [.ref 1, .int (1 : Int32)]) rfl (Nat.le_of_ble_eq_true rfl) (Nat.le_of_ble_eq_true rfl) rfl (to_rc rfl rfl rfl (g_o hG rfl)) rfl (to_an (pc := 0) rw_84_0 rfl (to_in (pc := 1) rw_84_1 rfl (s_pI (pc := 2) rw_84_2 hG rfl (fun M102 W101 => ?_)))))))))
        have hG103 := g_wf hG W101 rfl rfl (by decide)
        have F104 := FR.w F0 W101 (show 1 = 1 ∧ 5 ≤ 10 ∨ 3 ≤ 1 ∧ 1 ≤ 5 ∨ 49 ≤ 1 ∧ 1 ≤ 66 by decide)
        refine to_an (pc := 5) rw_84_5 rfl (to_an (pc := 6) rw_84_6 rfl ?_)
        have c_105 : M102.2.1 1 9 = (M.2.1 1 9) := (W_n W101 (by decide) rfl)
        refine tt_gI (pc := 7) rw_84_7 (g_o hG103 rfl) (v := (M.2.1 1 9)) c_105 (s_pI (pc := 10) rw_84_10 hG103 rfl (fun M107 W106 => ?_))
        have hG108 := g_wf hG103 W106 rfl rfl (by decide)
        have F109 := FR.w F104 W106 (show 1 = 1 ∧ 5 ≤ 11 ∨ 3 ≤ 1 ∧ 1 ≤ 5 ∨ 49 ≤ 1 ∧ 1 ≤ 66 by decide)
        refine to_c (pc := 13) rw_84_13 (x := (0 : Int32)) rfl rfl (s_r1 (pc := 14) rw_84_14 (A := 0) rfl (by decide) (s_r1 (pc := 64) rw_31_64 (A := 0) rfl (by decide) ?_))
        have k_110 : (0 : Int32).toInt = 0 := rfl
        have j_111 := (PI_f (fun a i z => W_n W106 (by /-r1,11-/ omega) rfl) (PI_f (fun a i z => W_n W101 (by /-r1,10-/ omega) rfl) q1))
        have c_112 : M107.2.1 1 10 = (1 : Int32) := (W_n W106 (by decide) (W_e W101))
        have k_113 : (1 : Int32).toInt = 1 := rfl
        have t_114 : (M107.2.1 1 10).toInt = (1 : Int32).toInt := congrArg Int32.toInt c_112
        have c_115 : M107.2.1 1 11 = (M.2.1 1 9) := (W_e W106)
        have t_116 : (M107.2.1 1 11).toInt = (M.2.1 1 9).toInt := congrArg Int32.toInt c_115
        exact h (0 : Int32) M107 hG108 F109 (by decide) (by decide) j_111 (by omega)
      · refine to_an (pc := 22) rw_31_22 rfl (to_c (pc := 23) rw_31_23 (x := (210940032 : Int32)) rfl rfl (s_v (pc := 25) rw_31_25 (dp0 hd (by decide)) (ls0 := [.ref 1, .int (210940032 : Int32)]) rfl (Nat.le_of_ble_eq_true rfl) (Nat.le_of_ble_eq_true rfl) rfl (to_rc rfl rfl rfl (g_o hG rfl)) rfl (to_an (pc := 0) rw_86_0 rfl (tt_gI (pc := 1) rw_86_1 (g_o hG rfl) (v := (M.2.1 1 7)) rfl (to_c (pc := 4) rw_86_4 (x := (4 : Int32)) rfl rfl (b_cne_f (pc := 5) rw_86_5 (A := (M.2.1 1 7).toInt) (B := 4) rfl rfl (by omega) (to_an (pc := 8) rw_86_8 rfl (tt_gI (pc := 9) rw_86_9 (g_o hG rfl) (v := (M.2.1 1 8)) rfl (to_in (pc := 12) rw_86_12 rfl (b_cne (pc := 13) rw_86_13 (A := (M.2.1 1 8).toInt) (B := 210940032) rfl rfl (fun h117 => ?_) (fun h117 => ?_)))))))))))
        · refine to_c (pc := 20) rw_86_20 (x := (0 : Int32)) rfl rfl (s_r1 (pc := 21) rw_86_21 (A := 0) rfl (by decide) (b_ieq_t (pc := 28) rw_31_28 (A := 0) rfl (by decide) (to_an (pc := 37) rw_31_37 rfl (tt_gI (pc := 38) rw_31_38 (g_o hG (by rcases hp with rfl | rfl <;> rfl)) (v := (M.2.1 p 1)) rfl (b_ile_f (pc := 41) rw_31_41 (A := (M.2.1 p 1).toInt) rfl (by omega) (to_an (pc := 44) rw_31_44 rfl (to_c (pc := 45) rw_31_45 (x := (788074496 : Int32)) rfl rfl (s_v (pc := 47) rw_31_47 (dp0 hd (by decide)) (ls0 := [.ref 1, .int (788074496 : Int32)]) rfl (Nat.le_of_ble_eq_true rfl) (Nat.le_of_ble_eq_true rfl) rfl (to_rc rfl rfl rfl (g_o hG rfl)) rfl (to_an (pc := 0) rw_86_0 rfl (tt_gI (pc := 1) rw_86_1 (g_o hG rfl) (v := (M.2.1 1 7)) rfl (to_c (pc := 4) rw_86_4 (x := (4 : Int32)) rfl rfl ?_)))))))))))
          refine b_cne_f (pc := 5) rw_86_5 (A := (M.2.1 1 7).toInt) (B := 4) rfl rfl (by omega) (to_an (pc := 8) rw_86_8 rfl (tt_gI (pc := 9) rw_86_9 (g_o hG rfl) (v := (M.2.1 1 8)) rfl (to_in (pc := 12) rw_86_12 rfl (b_cne (pc := 13) rw_86_13 (A := (M.2.1 1 8).toInt) (B := 788074496) rfl rfl (fun h118 => ?_) (fun h118 => ?_)))))
          · refine to_c (pc := 20) rw_86_20 (x := (0 : Int32)) rfl rfl (s_r1 (pc := 21) rw_86_21 (A := 0) rfl (by decide) (b_ieq_t (pc := 50) rw_31_50 (A := 0) rfl (by decide) (to_an (pc := 59) rw_31_59 rfl (to_c (pc := 60) rw_31_60 (x := (1 : Int32)) rfl rfl (s_v (pc := 61) rw_31_61 (dp0 hd (by decide)) (ls0 := [.ref 1, .int (1 : Int32)]) rfl (Nat.le_of_ble_eq_true rfl) (Nat.le_of_ble_eq_true rfl) rfl (to_rc rfl rfl rfl (g_o hG rfl)) rfl (to_an (pc := 0) rw_84_0 rfl (to_in (pc := 1) rw_84_1 rfl (s_pI (pc := 2) rw_84_2 hG rfl (fun M120 W119 => ?_)))))))))
            have hG121 := g_wf hG W119 rfl rfl (by decide)
            have F122 := FR.w F0 W119 (show 1 = 1 ∧ 5 ≤ 10 ∨ 3 ≤ 1 ∧ 1 ≤ 5 ∨ 49 ≤ 1 ∧ 1 ≤ 66 by decide)
            refine to_an (pc := 5) rw_84_5 rfl (to_an (pc := 6) rw_84_6 rfl ?_)
            have c_123 : M120.2.1 1 9 = (M.2.1 1 9) := (W_n W119 (by decide) rfl)
            refine tt_gI (pc := 7) rw_84_7 (g_o hG121 rfl) (v := (M.2.1 1 9)) c_123 (s_pI (pc := 10) rw_84_10 hG121 rfl (fun M125 W124 => ?_))
            have hG126 := g_wf hG121 W124 rfl rfl (by decide)
            have F127 := FR.w F122 W124 (show 1 = 1 ∧ 5 ≤ 11 ∨ 3 ≤ 1 ∧ 1 ≤ 5 ∨ 49 ≤ 1 ∧ 1 ≤ 66 by decide)
            refine to_c (pc := 13) rw_84_13 (x := (0 : Int32)) rfl rfl (s_r1 (pc := 14) rw_84_14 (A := 0) rfl (by decide) (s_r1 (pc := 64) rw_31_64 (A := 0) rfl (by decide) ?_))
            have k_128 : (0 : Int32).toInt = 0 := rfl
            have j_129 := (PI_f (fun a i z => W_n W124 (by /-r1,11-/ omega) rfl) (PI_f (fun a i z => W_n W119 (by /-r1,10-/ omega) rfl) q1))
            have c_130 : M125.2.1 1 10 = (1 : Int32) := (W_n W124 (by decide) (W_e W119))
            have k_131 : (1 : Int32).toInt = 1 := rfl
            have t_132 : (M125.2.1 1 10).toInt = (1 : Int32).toInt := congrArg Int32.toInt c_130
            have c_133 : M125.2.1 1 11 = (M.2.1 1 9) := (W_e W124)
            have t_134 : (M125.2.1 1 11).toInt = (M.2.1 1 9).toInt := congrArg Int32.toInt c_133
            exact h (0 : Int32) M125 hG126 F127 (by decide) (by decide) j_129 (by omega)
          · refine to_c (pc := 16) rw_86_16 (x := (1 : Int32)) rfl rfl (to_go (pc := 17) rw_86_17 (s_r1 (pc := 21) rw_86_21 (A := 1) rfl (by decide) (b_ieq_f (pc := 50) rw_31_50 (A := 1) rfl (by decide) (to_an (pc := 53) rw_31_53 rfl (to_an (pc := 54) rw_31_54 rfl (s_v (pc := 55) rw_31_55 (dp0 hd (by decide)) (ls0 := [.ref p, .ref 1, .null]) rfl (Nat.le_of_ble_eq_true rfl) (Nat.le_of_ble_eq_true rfl) rfl (to_rc rfl rfl rfl (g_o hG (by rcases hp with rfl | rfl <;> rfl))) rfl (C_41 hX (dp1 hd (by decide)) hG hp q1 (p := p) (fun r135 M142 hG137 F136 p_138 p_139 p_140 p_141 => ?_))))))))
            have F143 := FR.c F0 F136 tg_217
            refine s_r1 (pc := 58) rw_31_58 (A := r135.toInt) rfl (by omega) ?_
            exact h r135 M142 hG137 F143 (by omega) (by omega) p_140 (by omega)
        · refine to_c (pc := 16) rw_86_16 (x := (1 : Int32)) rfl rfl (to_go (pc := 17) rw_86_17 (s_r1 (pc := 21) rw_86_21 (A := 1) rfl (by decide) (b_ieq_f (pc := 28) rw_31_28 (A := 1) rfl (by decide) (to_an (pc := 31) rw_31_31 rfl (to_an (pc := 32) rw_31_32 rfl (s_v (pc := 33) rw_31_33 (dp0 hd (by decide)) (ls0 := [.ref p, .ref 1, .null, .null]) rfl (Nat.le_of_ble_eq_true rfl) (Nat.le_of_ble_eq_true rfl) rfl (to_rc rfl rfl rfl (g_o hG (by rcases hp with rfl | rfl <;> rfl))) rfl (C_33 hX (dp1 hd (by decide)) hG hp q1 (p := p) (fun r144 M151 hG146 F145 p_147 p_148 p_149 p_150 => ?_))))))))
          have F152 := FR.c F0 F145 tg_217
          refine s_r1 (pc := 36) rw_31_36 (A := r144.toInt) rfl (by omega) ?_
          exact h r144 M151 hG146 F152 (by omega) (by omega) p_149 (by omega)
    · refine to_c (pc := 16) rw_86_16 (x := (1 : Int32)) rfl rfl (to_go (pc := 17) rw_86_17 (s_r1 (pc := 21) rw_86_21 (A := 1) rfl (by decide) (b_ieq_f (pc := 6) rw_31_6 (A := 1) rfl (by decide) (to_an (pc := 9) rw_31_9 rfl (to_an (pc := 10) rw_31_10 rfl (s_v (pc := 11) rw_31_11 (dp0 hd (by decide)) (ls0 := [.ref p, .ref 1]) rfl (Nat.le_of_ble_eq_true rfl) (Nat.le_of_ble_eq_true rfl) rfl (to_rc rfl rfl rfl (g_o hG (by rcases hp with rfl | rfl <;> rfl))) rfl (C_32 hX (dp1 hd (by decide)) hG hp q1 (p := p) (fun r153 M160 hG155 F154 p_156 p_157 p_158 p_159 => ?_))))))))
      have F161 := FR.c F0 F154 tg_217
      refine s_r1 (pc := 14) rw_31_14 (A := r153.toInt) rfl (by omega) ?_
      exact h r153 M160 hG155 F161 (by omega) (by omega) p_158 (by omega)
set_option maxRecDepth 4000 in
set_option maxHeartbeats 0 in
theorem T_30_0 {X : mm_X} {d : Nat} {M : mm_M} {Q : Option Value → mm_M → Prop} {p : Nat} (hX : g_X X) (hd : 5 ≤ d) (hp : p = 49 ∨ p = 58) (q1 : PI M) (h : ∀ (r : Int32) (M1 : mm_M), g_G M1 → FR md_pt M M1 → (0 ≤ r.toInt) → (r.toInt ≤ 1) → PI M1 → (r.toInt = 1 → (M1.2.1 1 10).toInt = (M.2.1 1 10).toInt ∧ (M1.2.1 1 11).toInt = (M.2.1 1 11).toInt) → Q (some (.int r)) M1) : ∀ nn9 : Nat, (∀ (N : mm_M) (x2 : Int32), g_G N → FR md_pt M N → (0 ≤ x2.toInt) → (x2.toInt ≤ 22) → (PI N) → ((N.2.1 1 10).toInt = (M.2.1 1 10).toInt ∧ (N.2.1 1 11).toInt = (M.2.1 1 11).toInt) → 22 - x2.toInt < (nn9 : Int) → mm_T X d 30 28 [.ref p, .ref 1, .int x2] [] N Q) := by
  intro nn9
  induction nn9 with
  | zero =>
    intro N x2 hG F0 g1 g2 g3 g4 hm
    exfalso; omega
  | succ nn9 ih =>
    intro N x2 hG F0 g1 g2 g3 g4 hm
    refine to_in (pc := 28) rw_30_28 rfl (to_c (pc := 29) rw_30_29 (x := (21 : Int32)) rfl rfl (b_cgt (pc := 31) rw_30_31 (A := x2.toInt) (B := 21) rfl rfl (fun h1 => ?_) (fun h1 => ?_)))
    · refine to_c (pc := 76) rw_30_76 (x := (1 : Int32)) rfl rfl (s_r1 (pc := 77) rw_30_77 (A := 1) rfl (by decide) ?_)
      have k_2 : (1 : Int32).toInt = 1 := rfl
      exact h (1 : Int32) N hG F0 (by decide) (by decide) g3 (by omega)
    · refine to_an (pc := 34) rw_30_34 rfl (tt_gI (pc := 35) rw_30_35 (g_o hG rfl) (v := (N.2.1 1 7)) rfl (b_ieq (pc := 38) rw_30_38 (A := (N.2.1 1 7).toInt) rfl (fun h3 => ?_) (fun h3 => ?_)))
      · refine to_c (pc := 76) rw_30_76 (x := (1 : Int32)) rfl rfl (s_r1 (pc := 77) rw_30_77 (A := 1) rfl (by decide) ?_)
        have k_4 : (1 : Int32).toInt = 1 := rfl
        exact h (1 : Int32) N hG F0 (by decide) (by decide) g3 (by omega)
      · refine to_an (pc := 41) rw_30_41 rfl (to_an (pc := 42) rw_30_42 rfl (s_v (pc := 43) rw_30_43 (dp0 hd (by decide)) (ls0 := [.ref p, .ref 1]) rfl (Nat.le_of_ble_eq_true rfl) (Nat.le_of_ble_eq_true rfl) rfl (to_rc rfl rfl rfl (g_o hG (by rcases hp with rfl | rfl <;> rfl))) rfl (C_31 hX (dp1 hd (by decide)) hG hp g3 (p := p) (fun r5 M12 hG7 F6 p_8 p_9 p_10 p_11 => ?_))))
        have F13 := FR.c F0 F6 tg_217
        refine b_ieq (pc := 46) rw_30_46 (A := r5.toInt) rfl (fun h14 => ?_) (fun h14 => ?_)
        · refine to_c (pc := 58) rw_30_58 (x := (0 : Int32)) rfl rfl (s_r1 (pc := 59) rw_30_59 (A := 0) rfl (by decide) ?_)
          have k_15 : (0 : Int32).toInt = 0 := rfl
          exact h (0 : Int32) M12 hG7 F13 (by decide) (by decide) p_10 (by omega)
        · refine to_an (pc := 49) rw_30_49 rfl (to_c (pc := 50) rw_30_50 (x := (59 : Int32)) rfl rfl (s_v (pc := 52) rw_30_52 (dp0 hd (by decide)) (ls0 := [.ref 1, .int (59 : Int32)]) rfl (Nat.le_of_ble_eq_true rfl) (Nat.le_of_ble_eq_true rfl) rfl (to_rc rfl rfl rfl (g_o hG7 rfl)) rfl ?_))
          have k_16 : (59 : Int32).toInt = 59 := rfl
          refine C_90 hX (dp1 hd (by decide)) hG7 (x := (59 : Int32)) (fun r17 M24 hG19 F18 p_20 p_21 p_22 p_23 => ?_)
          have F25 := FR.c F13 F18 tg_212
          refine b_ine (pc := 55) rw_30_55 (A := r17.toInt) rfl (fun h26 => ?_) (fun h26 => ?_)
          · refine to_an (pc := 60) rw_30_60 rfl (to_dupr (pc := 61) rw_30_61 ?_)
            have c_27 : M24.2.1 p 1 = (M12.2.1 p 1) := (F_n F18 (show ¬ (p = 1 ∧ 5 ≤ 1 ∨ 3 ≤ p ∧ p ≤ 5) by omega) rfl)
            refine tt_gI (pc := 62) rw_30_62 (g_o hG19 (by rcases hp with rfl | rfl <;> rfl)) (v := (M12.2.1 p 1)) c_27 (to_c (pc := 65) rw_30_65 (x := (1 : Int32)) rfl rfl (s_any (pc := 66) rw_30_66 (fun _ _ => rfl) (fun v28 => s_pI (pc := 67) rw_30_67 hG19 (by rcases hp with rfl | rfl <;> rfl) (fun M30 W29 => ?_))))
            have hG31 := g_wf hG19 W29 (by rcases hp with rfl | rfl <;> rfl) (by rcases hp with rfl | rfl <;> rfl) (by omega)
            have F32 := FR.w F25 W29 (show p = 1 ∧ 5 ≤ 1 ∨ 3 ≤ p ∧ p ≤ 5 ∨ 49 ≤ p ∧ p ≤ 66 by omega)
            refine s_inc (pc := 70) rw_30_70 (ls2 := fun v => [.ref p, .ref 1, .int v]) rfl rfl (fun _ => rfl) (A := x2.toInt) (B := 1) rfl rfl (by omega) (fun v33 e34 => to_go (pc := 73) rw_30_73 ?_)
            have j_35 := (PI_f (fun a i z => W_n W29 (by omega) rfl) (PI_f (tg_208 F18) p_10))
            have c_36 : M30.2.1 1 10 = (M24.2.1 1 10) := (W_n W29 (by omega) rfl)
            have t_37 : (M30.2.1 1 10).toInt = (M24.2.1 1 10).toInt := congrArg Int32.toInt c_36
            have c_38 : M30.2.1 1 11 = (M24.2.1 1 11) := (W_n W29 (by omega) rfl)
            have t_39 : (M30.2.1 1 11).toInt = (M24.2.1 1 11).toInt := congrArg Int32.toInt c_38
            exact ih M30 v33 hG31 F32 (by omega) (by omega) j_35 (by omega) (by omega)
          · refine to_c (pc := 58) rw_30_58 (x := (0 : Int32)) rfl rfl (s_r1 (pc := 59) rw_30_59 (A := 0) rfl (by decide) ?_)
            have k_40 : (0 : Int32).toInt = 0 := rfl
            have j_41 := (PI_f (tg_208 F18) p_10)
            exact h (0 : Int32) M24 hG19 F25 (by decide) (by decide) j_41 (by omega)
set_option maxRecDepth 4000 in
set_option maxHeartbeats 0 in
theorem C_30 {X : mm_X} {d : Nat} {M : mm_M} {Q : Option Value → mm_M → Prop} {p : Nat} (hX : g_X X) (hd : 5 ≤ d) (hG : g_G M) (hp : p = 49 ∨ p = 58) (q1 : PI M) (h : ∀ (r : Int32) (M1 : mm_M), g_G M1 → FR md_pt M M1 → (0 ≤ r.toInt) → (r.toInt ≤ 1) → PI M1 → (r.toInt = 1 → (M1.2.1 1 10).toInt = (M.2.1 1 10).toInt ∧ (M1.2.1 1 11).toInt = (M.2.1 1 11).toInt) → Q (some (.int r)) M1) : mm_T X d 30 0 [.ref p, .ref 1, .null] [] M Q := by
  have F0 : FR md_pt M M := FR.rf
  refine to_an (pc := 0) rw_30_0 rfl (to_c (pc := 1) rw_30_1 (x := (10 : Int32)) rfl rfl (s_pI (pc := 3) rw_30_3 hG (by rcases hp with rfl | rfl <;> rfl) (fun M43 W42 => ?_)))
  have hG44 := g_w hG W42 (A := 10) rfl (lo := 10) (hi := 60) (by rcases hp with rfl | rfl <;> rfl) (by rcases hp with rfl | rfl <;> rfl) (by omega) (by omega)
  have F45 := FR.w F0 W42 (show p = 1 ∧ 5 ≤ 0 ∨ 3 ≤ p ∧ p ≤ 5 ∨ 49 ≤ p ∧ p ≤ 66 by omega)
  refine to_an (pc := 6) rw_30_6 rfl (to_c (pc := 7) rw_30_7 (x := (0 : Int32)) rfl rfl (s_pI (pc := 8) rw_30_8 hG44 (by rcases hp with rfl | rfl <;> rfl) (fun M47 W46 => ?_)))
  have hG48 := g_wf hG44 W46 (by rcases hp with rfl | rfl <;> rfl) (by rcases hp with rfl | rfl <;> rfl) (by omega)
  have F49 := FR.w F45 W46 (show p = 1 ∧ 5 ≤ 1 ∨ 3 ≤ p ∧ p ≤ 5 ∨ 49 ≤ p ∧ p ≤ 66 by omega)
  refine to_an (pc := 11) rw_30_11 rfl (to_c (pc := 12) rw_30_12 (x := (0 : Int32)) rfl rfl (s_pI (pc := 13) rw_30_13 hG48 (by rcases hp with rfl | rfl <;> rfl) (fun M51 W50 => ?_)))
  have hG52 := g_w hG48 W50 (A := 0) rfl (lo := 0) (hi := 8) (by rcases hp with rfl | rfl <;> rfl) (by rcases hp with rfl | rfl <;> rfl) (by omega) (by omega)
  have F53 := FR.w F49 W50 (show p = 1 ∧ 5 ≤ 2 ∨ 3 ≤ p ∧ p ≤ 5 ∨ 49 ≤ p ∧ p ≤ 66 by omega)
  refine to_an (pc := 16) rw_30_16 rfl (to_c (pc := 17) rw_30_17 (x := (0 : Int32)) rfl rfl (s_pI (pc := 18) rw_30_18 hG52 (by rcases hp with rfl | rfl <;> rfl) (fun M55 W54 => ?_)))
  have hG56 := g_w hG52 W54 (A := 0) rfl (lo := 0) (hi := 12) (by rcases hp with rfl | rfl <;> rfl) (by rcases hp with rfl | rfl <;> rfl) (by omega) (by omega)
  have F57 := FR.w F53 W54 (show p = 1 ∧ 5 ≤ 3 ∨ 3 ≤ p ∧ p ≤ 5 ∨ 49 ≤ p ∧ p ≤ 66 by omega)
  refine to_an (pc := 21) rw_30_21 rfl (s_cl (pc := 22) rw_30_22 rfl (fun l58 => s_pJ (pc := 23) rw_30_23 hG56 (by rcases hp with rfl | rfl <;> rfl) (fun M60 W59 => ?_)))
  have hG61 := g_wl hG56 W59
  have F62 := FR.wl F57 W59 (show p = 1 ∧ 5 ≤ 4 ∨ 3 ≤ p ∧ p ≤ 5 ∨ 49 ≤ p ∧ p ≤ 66 by omega)
  refine to_c (pc := 26) rw_30_26 (x := (0 : Int32)) rfl rfl (to_isn (pc := 27) rw_30_27 (ls2 := [.ref p, .ref 1, .int (0 : Int32)]) rfl rfl ?_)
  have k_63 : (0 : Int32).toInt = 0 := rfl
  have j_64 := (PI_f (fun a i z => W_l W59 rfl) (PI_f (fun a i z => W_n W54 (by omega) rfl) (PI_f (fun a i z => W_n W50 (by omega) rfl) (PI_f (fun a i z => W_n W46 (by omega) rfl) (PI_f (fun a i z => W_n W42 (by omega) rfl) q1)))))
  have c_65 : M60.2.1 1 10 = (M.2.1 1 10) := (W_l W59 (W_n W54 (by omega) (W_n W50 (by omega) (W_n W46 (by omega) (W_n W42 (by omega) rfl)))))
  have t_66 : (M60.2.1 1 10).toInt = (M.2.1 1 10).toInt := congrArg Int32.toInt c_65
  have c_67 : M60.2.1 1 11 = (M.2.1 1 11) := (W_l W59 (W_n W54 (by omega) (W_n W50 (by omega) (W_n W46 (by omega) (W_n W42 (by omega) rfl)))))
  have t_68 : (M60.2.1 1 11).toInt = (M.2.1 1 11).toInt := congrArg Int32.toInt c_67
  exact (T_30_0 (p := p) hX hd hp q1 h ((22 - (0 : Int32).toInt).toNat + 1)) M60 (0 : Int32) hG61 F62 (by omega) (by omega) j_64 (by omega) (by omega)
set_option maxRecDepth 4000 in
set_option maxHeartbeats 0 in
theorem C_49 {X : mm_X} {d : Nat} {M : mm_M} {Q : Option Value → mm_M → Prop} {p : Nat} {f : Int32} {v : Int32} (hX : g_X X) (hd : 2 ≤ d) (hG : g_G M) (hp : p = 49 ∨ p = 58) (h : ∀ (r : Int64) (M1 : mm_M), g_G M1 → FR md_0 M M1 → Q (some (.long r)) M1) : mm_T X d 49 0 [.ref p, .int f, .int v, .null, .null] [] M Q := by
  have F0 : FR md_0 M M := FR.rf
  refine to_an (pc := 0) rw_49_0 rfl (to_in (pc := 1) rw_49_1 rfl (to_in (pc := 2) rw_49_2 rfl (s_v (pc := 3) rw_49_3 (dp0 hd (by decide)) (ls0 := [.ref p, .int f, .int v]) rfl (Nat.le_of_ble_eq_true rfl) (Nat.le_of_ble_eq_true rfl) rfl (to_rc rfl rfl rfl (g_o hG (by rcases hp with rfl | rfl <;> rfl))) rfl (to_an (pc := 0) rw_46_0 rfl (to_in (pc := 1) rw_46_1 rfl (s_v (pc := 2) rw_46_2 (dp1 hd (by decide)) (ls0 := [.ref p, .int f]) rfl (Nat.le_of_ble_eq_true rfl) (Nat.le_of_ble_eq_true rfl) rfl (to_rc rfl rfl rfl (g_o hG (by rcases hp with rfl | rfl <;> rfl))) rfl (to_in (pc := 0) rw_43_0 rfl (b_ilt (pc := 1) rw_43_1 (A := f.toInt) rfl (fun h1 => ?_) (fun h1 => ?_)))))))))
  · refine to_c (pc := 16) rw_43_16 (x := (0 : Int32)) rfl rfl (s_r1 (pc := 17) rw_43_17 (A := 0) rfl (by decide) (b_ieq_t (pc := 5) rw_46_5 (A := 0) rfl (by decide) (to_c (pc := 34) rw_46_34 (x := (0 : Int32)) rfl rfl (s_r1 (pc := 35) rw_46_35 (A := 0) rfl (by decide) (b_ine_f (pc := 6) rw_49_6 (A := 0) rfl (by decide) (s_cl (pc := 9) rw_49_9 rfl (fun l2 => to_rl (pc := 10) rw_49_10 ?_)))))))
    exact h l2 M hG F0 
  · refine to_in (pc := 4) rw_43_4 rfl (to_an (pc := 5) rw_43_5 rfl ?_)
    have b_3 := g_b hG (a := p) (i := 2) (lo := 0) (hi := 8) (by rcases hp with rfl | rfl <;> rfl) (by rcases hp with rfl | rfl <;> rfl)
    refine tt_gI (pc := 6) rw_43_6 (g_o hG (by rcases hp with rfl | rfl <;> rfl)) (v := (M.2.1 p 2)) rfl (b_cge (pc := 9) rw_43_9 (A := f.toInt) (B := (M.2.1 p 2).toInt) rfl rfl (fun h4 => ?_) (fun h4 => ?_))
    · refine to_c (pc := 16) rw_43_16 (x := (0 : Int32)) rfl rfl (s_r1 (pc := 17) rw_43_17 (A := 0) rfl (by decide) (b_ieq_t (pc := 5) rw_46_5 (A := 0) rfl (by decide) (to_c (pc := 34) rw_46_34 (x := (0 : Int32)) rfl rfl (s_r1 (pc := 35) rw_46_35 (A := 0) rfl (by decide) (b_ine_f (pc := 6) rw_49_6 (A := 0) rfl (by decide) (s_cl (pc := 9) rw_49_9 rfl (fun l5 => to_rl (pc := 10) rw_49_10 ?_)))))))
      exact h l5 M hG F0 
    · refine to_c (pc := 12) rw_43_12 (x := (1 : Int32)) rfl rfl (to_go (pc := 13) rw_43_13 (s_r1 (pc := 17) rw_43_17 (A := 1) rfl (by decide) (b_ieq_f (pc := 5) rw_46_5 (A := 1) rfl (by decide) (to_an (pc := 8) rw_46_8 rfl (to_in (pc := 9) rw_46_9 rfl (s_v (pc := 10) rw_46_10 (dp1 hd (by decide)) (ls0 := [.ref p, .int f]) rfl (Nat.le_of_ble_eq_true rfl) (Nat.le_of_ble_eq_true rfl) rfl (to_rc rfl rfl rfl (g_o hG (by rcases hp with rfl | rfl <;> rfl))) rfl (to_an (pc := 0) rw_45_0 rfl (s_gR (pc := 1) rw_45_1 hG (by rcases hp with rfl | rfl <;> rfl) (v := (p + 2)) (by rcases hp with rfl | rfl <;> rfl) (to_in (pc := 4) rw_45_4 rfl (s_ial (pc := 5) rw_45_5 hG (by rcases hp with rfl | rfl <;> rfl) (n := 8) (by rcases hp with rfl | rfl <;> rfl) (by rcases hp with rfl | rfl <;> rfl) (A := f.toInt) rfl (by omega) (by omega) (lo := 0) (hi := 3) (by rcases hp with rfl | rfl <;> rfl) (by rcases hp with rfl | rfl <;> rfl) (fun v6 w_7 _ _ => to_c (pc := 6) rw_45_6 (x := (3 : Int32)) rfl rfl ?_)))))))))))
      refine b_cne (pc := 7) rw_45_7 (A := v6.toInt) (B := 3) rfl rfl (fun h8 => ?_) (fun h8 => ?_)
      · refine to_c (pc := 14) rw_45_14 (x := (0 : Int32)) rfl rfl (s_r1 (pc := 15) rw_45_15 (A := 0) rfl (by decide) (b_ine_f (pc := 13) rw_46_13 (A := 0) rfl (by decide) (to_in (pc := 16) rw_46_16 rfl (b_ilt (pc := 17) rw_46_17 (A := v.toInt) rfl (fun h9 => ?_) (fun h9 => ?_)))))
        · refine to_c (pc := 34) rw_46_34 (x := (0 : Int32)) rfl rfl (s_r1 (pc := 35) rw_46_35 (A := 0) rfl (by decide) (b_ine_f (pc := 6) rw_49_6 (A := 0) rfl (by decide) (s_cl (pc := 9) rw_49_9 rfl (fun l10 => to_rl (pc := 10) rw_49_10 ?_))))
          exact h l10 M hG F0 
        · refine to_in (pc := 20) rw_46_20 rfl (to_an (pc := 21) rw_46_21 rfl (s_gR (pc := 22) rw_46_22 hG (by rcases hp with rfl | rfl <;> rfl) (v := (p + 5)) (by rcases hp with rfl | rfl <;> rfl) (to_in (pc := 25) rw_46_25 rfl (s_ial (pc := 26) rw_46_26 hG (by rcases hp with rfl | rfl <;> rfl) (n := 8) (by rcases hp with rfl | rfl <;> rfl) (by rcases hp with rfl | rfl <;> rfl) (A := f.toInt) rfl (by omega) (by omega) (lo := 0) (hi := 24) (by rcases hp with rfl | rfl <;> rfl) (by rcases hp with rfl | rfl <;> rfl) (fun v11 w_12 _ _ => b_cge (pc := 27) rw_46_27 (A := v.toInt) (B := v11.toInt) rfl rfl (fun h13 => ?_) (fun h13 => ?_))))))
          · refine to_c (pc := 34) rw_46_34 (x := (0 : Int32)) rfl rfl (s_r1 (pc := 35) rw_46_35 (A := 0) rfl (by decide) (b_ine_f (pc := 6) rw_49_6 (A := 0) rfl (by decide) (s_cl (pc := 9) rw_49_9 rfl (fun l14 => to_rl (pc := 10) rw_49_10 ?_))))
            exact h l14 M hG F0 
          · refine to_c (pc := 30) rw_46_30 (x := (1 : Int32)) rfl rfl (to_go (pc := 31) rw_46_31 (s_r1 (pc := 35) rw_46_35 (A := 1) rfl (by decide) (b_ine_t (pc := 6) rw_49_6 (A := 1) rfl (by decide) (s_cl (pc := 11) rw_49_11 rfl (fun l15 => to_in (pc := 12) rw_49_12 rfl (s_anyS (pc := 13) rw_49_13 (fun _ _ => rfl) (fun l16 => to_lsn (pc := 14) rw_49_14 (ls2 := [.ref p, .int f, .int v, .long l16, .null]) rfl rfl (to_an (pc := 15) rw_49_15 rfl (s_gR (pc := 16) rw_49_16 hG (by rcases hp with rfl | rfl <;> rfl) (v := (p + 2)) (by rcases hp with rfl | rfl <;> rfl) (to_in (pc := 19) rw_49_19 rfl (s_ialk (pc := 20) rw_49_20 hG (by rcases hp with rfl | rfl <;> rfl) (n := 8) (by rcases hp with rfl | rfl <;> rfl) (by rcases hp with rfl | rfl <;> rfl) (A := f.toInt) rfl (by omega) (by omega) (v := v6) w_7 ?_)))))))))))
            refine to_c (pc := 21) rw_49_21 (x := (1 : Int32)) rfl rfl (b_cne (pc := 22) rw_49_22 (A := v6.toInt) (B := 1) rfl rfl (fun h19 => ?_) (fun h19 => ?_))
            · refine to_an (pc := 43) rw_49_43 rfl (s_gR (pc := 44) rw_49_44 hG (by rcases hp with rfl | rfl <;> rfl) (v := (p + 2)) (by rcases hp with rfl | rfl <;> rfl) (to_in (pc := 47) rw_49_47 rfl (s_ialk (pc := 48) rw_49_48 hG (by rcases hp with rfl | rfl <;> rfl) (n := 8) (by rcases hp with rfl | rfl <;> rfl) (by rcases hp with rfl | rfl <;> rfl) (A := f.toInt) rfl (by omega) (by omega) (v := v6) w_7 (to_c (pc := 49) rw_49_49 (x := (2 : Int32)) rfl rfl (b_cne (pc := 50) rw_49_50 (A := v6.toInt) (B := 2) rfl rfl (fun h22 => ?_) (fun h22 => ?_))))))
              · refine to_ln (pc := 68) rw_49_68 rfl rfl rfl (to_an (pc := 69) rw_49_69 rfl (s_gR (pc := 70) rw_49_70 hG (by rcases hp with rfl | rfl <;> rfl) (v := (p + 3)) (by rcases hp with rfl | rfl <;> rfl) (to_in (pc := 73) rw_49_73 rfl (s_ial (pc := 74) rw_49_74 hG (by rcases hp with rfl | rfl <;> rfl) (n := 8) (by rcases hp with rfl | rfl <;> rfl) (by rcases hp with rfl | rfl <;> rfl) (A := f.toInt) rfl (by omega) (by omega) (lo := 0) (hi := 59) (by rcases hp with rfl | rfl <;> rfl) (by rcases hp with rfl | rfl <;> rfl) (fun v23 w_24 _ _ => s_anyS (pc := 75) rw_49_75 (fun _ _ => rfl) (fun l25 => to_rl (pc := 76) rw_49_76 ?_))))))
                exact h l25 M hG F0 
              · refine to_in (pc := 53) rw_49_53 rfl (s_gs (pc := 54) rw_49_54 (s_xlen (pc := 57) rw_49_57 hX (e := 3) (n := 10) rfl (v := (10 : Int32)) rfl (b_cge (pc := 58) rw_49_58 (A := v.toInt) (B := 10) rfl rfl (fun h26 => ?_) (fun h26 => ?_))))
                · refine to_ln (pc := 68) rw_49_68 rfl rfl rfl (to_an (pc := 69) rw_49_69 rfl (s_gR (pc := 70) rw_49_70 hG (by rcases hp with rfl | rfl <;> rfl) (v := (p + 3)) (by rcases hp with rfl | rfl <;> rfl) (to_in (pc := 73) rw_49_73 rfl (s_ial (pc := 74) rw_49_74 hG (by rcases hp with rfl | rfl <;> rfl) (n := 8) (by rcases hp with rfl | rfl <;> rfl) (by rcases hp with rfl | rfl <;> rfl) (A := f.toInt) rfl (by omega) (by omega) (lo := 0) (hi := 59) (by rcases hp with rfl | rfl <;> rfl) (by rcases hp with rfl | rfl <;> rfl) (fun v27 w_28 _ _ => s_anyS (pc := 75) rw_49_75 (fun _ _ => rfl) (fun l29 => to_rl (pc := 76) rw_49_76 ?_))))))
                  exact h l29 M hG F0 
                · refine s_gs (pc := 61) rw_49_61 (to_in (pc := 64) rw_49_64 rfl (s_xal (pc := 65) rw_49_65 hX (e := 3) (n := 10) rfl (A := v.toInt) rfl (by omega) (by omega) (fun v30 => s_i2l (pc := 66) rw_49_66 (fun l31 e32 => to_lsn (pc := 67) rw_49_67 (ls2 := [.ref p, .int f, .int v, .long l31, .null]) rfl rfl (to_ln (pc := 68) rw_49_68 rfl rfl rfl (to_an (pc := 69) rw_49_69 rfl (s_gR (pc := 70) rw_49_70 hG (by rcases hp with rfl | rfl <;> rfl) (v := (p + 3)) (by rcases hp with rfl | rfl <;> rfl) (to_in (pc := 73) rw_49_73 rfl (s_ial (pc := 74) rw_49_74 hG (by rcases hp with rfl | rfl <;> rfl) (n := 8) (by rcases hp with rfl | rfl <;> rfl) (by rcases hp with rfl | rfl <;> rfl) (A := f.toInt) rfl (by omega) (by omega) (lo := 0) (hi := 59) (by rcases hp with rfl | rfl <;> rfl) (by rcases hp with rfl | rfl <;> rfl) (fun v33 w_34 _ _ => s_anyS (pc := 75) rw_49_75 (fun _ _ => rfl) (fun l35 => to_rl (pc := 76) rw_49_76 ?_)))))))))))
                  exact h l35 M hG F0 
            · refine to_in (pc := 25) rw_49_25 rfl (s_gs (pc := 26) rw_49_26 (s_xlen (pc := 29) rw_49_29 hX (e := 2) (n := 10) rfl (v := (10 : Int32)) rfl (b_cge (pc := 30) rw_49_30 (A := v.toInt) (B := 10) rfl rfl (fun h36 => ?_) (fun h36 => ?_))))
              · refine to_an (pc := 43) rw_49_43 rfl (s_gR (pc := 44) rw_49_44 hG (by rcases hp with rfl | rfl <;> rfl) (v := (p + 2)) (by rcases hp with rfl | rfl <;> rfl) (to_in (pc := 47) rw_49_47 rfl (s_ialk (pc := 48) rw_49_48 hG (by rcases hp with rfl | rfl <;> rfl) (n := 8) (by rcases hp with rfl | rfl <;> rfl) (by rcases hp with rfl | rfl <;> rfl) (A := f.toInt) rfl (by omega) (by omega) (v := v6) w_7 (to_c (pc := 49) rw_49_49 (x := (2 : Int32)) rfl rfl (b_cne_t (pc := 50) rw_49_50 (A := v6.toInt) (B := 2) rfl rfl (by omega) (to_ln (pc := 68) rw_49_68 rfl rfl rfl (to_an (pc := 69) rw_49_69 rfl (s_gR (pc := 70) rw_49_70 hG (by rcases hp with rfl | rfl <;> rfl) (v := (p + 3)) (by rcases hp with rfl | rfl <;> rfl) (to_in (pc := 73) rw_49_73 rfl (s_ial (pc := 74) rw_49_74 hG (by rcases hp with rfl | rfl <;> rfl) (n := 8) (by rcases hp with rfl | rfl <;> rfl) (by rcases hp with rfl | rfl <;> rfl) (A := f.toInt) rfl (by omega) (by omega) (lo := 0) (hi := 59) (by rcases hp with rfl | rfl <;> rfl) (by rcases hp with rfl | rfl <;> rfl) (fun v39 w_40 _ _ => s_anyS (pc := 75) rw_49_75 (fun _ _ => rfl) (fun l41 => ?_))))))))))))
                refine to_rl (pc := 76) rw_49_76 ?_
                exact h l41 M hG F0 
              · refine s_gs (pc := 33) rw_49_33 (to_in (pc := 36) rw_49_36 rfl (s_xal (pc := 37) rw_49_37 hX (e := 2) (n := 10) rfl (A := v.toInt) rfl (by omega) (by omega) (fun v42 => s_i2l (pc := 38) rw_49_38 (fun l43 e44 => to_lsn (pc := 39) rw_49_39 (ls2 := [.ref p, .int f, .int v, .long l43, .null]) rfl rfl (to_go (pc := 40) rw_49_40 (to_ln (pc := 68) rw_49_68 rfl rfl rfl (to_an (pc := 69) rw_49_69 rfl (s_gR (pc := 70) rw_49_70 hG (by rcases hp with rfl | rfl <;> rfl) (v := (p + 3)) (by rcases hp with rfl | rfl <;> rfl) (to_in (pc := 73) rw_49_73 rfl (s_ial (pc := 74) rw_49_74 hG (by rcases hp with rfl | rfl <;> rfl) (n := 8) (by rcases hp with rfl | rfl <;> rfl) (by rcases hp with rfl | rfl <;> rfl) (A := f.toInt) rfl (by omega) (by omega) (lo := 0) (hi := 59) (by rcases hp with rfl | rfl <;> rfl) (by rcases hp with rfl | rfl <;> rfl) (fun v45 w_46 _ _ => s_anyS (pc := 75) rw_49_75 (fun _ _ => rfl) (fun l47 => ?_))))))))))))
                refine to_rl (pc := 76) rw_49_76 ?_
                exact h l47 M hG F0 
      · refine to_c (pc := 10) rw_45_10 (x := (1 : Int32)) rfl rfl (to_go (pc := 11) rw_45_11 (s_r1 (pc := 15) rw_45_15 (A := 1) rfl (by decide) (b_ine_t (pc := 13) rw_46_13 (A := 1) rfl (by decide) (to_c (pc := 34) rw_46_34 (x := (0 : Int32)) rfl rfl (s_r1 (pc := 35) rw_46_35 (A := 0) rfl (by decide) (b_ine_f (pc := 6) rw_49_6 (A := 0) rfl (by decide) (s_cl (pc := 9) rw_49_9 rfl (fun l48 => to_rl (pc := 10) rw_49_10 ?_))))))))
        exact h l48 M hG F0 
set_option maxRecDepth 4000 in
set_option maxHeartbeats 0 in
theorem C_50 {X : mm_X} {d : Nat} {M : mm_M} {Q : Option Value → mm_M → Prop} {p : Nat} {w : Int32} {b : Int32} (hX : g_X X) (hd : 1 ≤ d) (hG : g_G M) (hp : p = 49 ∨ p = 58) (q1 : 0 ≤ w.toInt) (q2 : w.toInt ≤ 11) (h : ∀ (r : Int32) (M1 : mm_M), g_G M1 → FR md_0 M M1 → (0 ≤ r.toInt) → (r.toInt ≤ 1) → Q (some (.int r)) M1) : mm_T X d 50 0 [.ref p, .int w, .int b, .null] [] M Q := by
  have F0 : FR md_0 M M := FR.rf
  refine to_an (pc := 0) rw_50_0 rfl (s_gR (pc := 1) rw_50_1 hG (by rcases hp with rfl | rfl <;> rfl) (v := (p + 7)) (by rcases hp with rfl | rfl <;> rfl) (to_in (pc := 4) rw_50_4 rfl (s_ial (pc := 5) rw_50_5 hG (by rcases hp with rfl | rfl <;> rfl) (n := 12) (by rcases hp with rfl | rfl <;> rfl) (by rcases hp with rfl | rfl <;> rfl) (A := w.toInt) rfl (by omega) (by omega) (lo := 0) (hi := 7) (by rcases hp with rfl | rfl <;> rfl) (by rcases hp with rfl | rfl <;> rfl) (fun v1 w_2 _ _ => to_isn (pc := 6) rw_50_6 (ls2 := [.ref p, .int w, .int b, .int v1]) rfl rfl (to_in (pc := 7) rw_50_7 rfl (b_ilt (pc := 8) rw_50_8 (A := b.toInt) rfl (fun h3 => ?_) (fun h3 => ?_)))))))
  · refine to_c (pc := 38) rw_50_38 (x := (0 : Int32)) rfl rfl (s_r1 (pc := 39) rw_50_39 (A := 0) rfl (by decide) ?_)
    have k_4 : (0 : Int32).toInt = 0 := rfl
    exact h (0 : Int32) M hG F0 (by decide) (by decide)
  · refine to_in (pc := 11) rw_50_11 rfl (to_an (pc := 12) rw_50_12 rfl (to_in (pc := 13) rw_50_13 rfl (s_v (pc := 14) rw_50_14 (dp0 hd (by decide)) (ls0 := [.ref p, .int v1]) rfl (Nat.le_of_ble_eq_true rfl) (Nat.le_of_ble_eq_true rfl) rfl (to_rc rfl rfl rfl (g_o hG (by rcases hp with rfl | rfl <;> rfl))) rfl (to_an (pc := 0) rw_47_0 rfl (s_gR (pc := 1) rw_47_1 hG (by rcases hp with rfl | rfl <;> rfl) (v := (p + 4)) (by rcases hp with rfl | rfl <;> rfl) (to_in (pc := 4) rw_47_4 rfl (s_ial (pc := 5) rw_47_5 hG (by rcases hp with rfl | rfl <;> rfl) (n := 8) (by rcases hp with rfl | rfl <;> rfl) (by rcases hp with rfl | rfl <;> rfl) (A := v1.toInt) rfl (by omega) (by omega) (lo := 0) (hi := 63) (by rcases hp with rfl | rfl <;> rfl) (by rcases hp with rfl | rfl <;> rfl) (fun v5 w_6 _ _ => to_an (pc := 6) rw_47_6 rfl (s_gR (pc := 7) rw_47_7 hG (by rcases hp with rfl | rfl <;> rfl) (v := (p + 3)) (by rcases hp with rfl | rfl <;> rfl) (to_in (pc := 10) rw_47_10 rfl (s_ial (pc := 11) rw_47_11 hG (by rcases hp with rfl | rfl <;> rfl) (n := 8) (by rcases hp with rfl | rfl <;> rfl) (by rcases hp with rfl | rfl <;> rfl) (A := v1.toInt) rfl (by omega) (by omega) (lo := 0) (hi := 59) (by rcases hp with rfl | rfl <;> rfl) (by rcases hp with rfl | rfl <;> rfl) (fun v7 w_8 _ _ => ?_))))))))))))
    refine s_sub (pc := 12) rw_47_12 (A := v5.toInt) (B := v7.toInt) rfl rfl (by omega) (fun v9 e10 => to_c (pc := 13) rw_47_13 (x := (1 : Int32)) rfl rfl (s_add (pc := 14) rw_47_14 (A := v9.toInt) (B := 1) rfl rfl (by omega) (fun v11 e12 => to_r0 (pc := 15) rw_47_15 (s_shr (pc := 17) rw_50_17 (A := b.toInt) rfl (by omega) (fun v13 _ _ => b_ine (pc := 18) rw_50_18 (A := v13.toInt) rfl (fun h14 => ?_) (fun h14 => ?_))))))
    · refine to_c (pc := 38) rw_50_38 (x := (0 : Int32)) rfl rfl (s_r1 (pc := 39) rw_50_39 (A := 0) rfl (by decide) ?_)
      have k_15 : (0 : Int32).toInt = 0 := rfl
      exact h (0 : Int32) M hG F0 (by decide) (by decide)
    · refine to_in (pc := 21) rw_50_21 rfl (s_s (pc := 22) rw_50_22 (dp0 hd (by decide)) (ls0 := [.int b]) rfl (Nat.le_of_ble_eq_true rfl) (Nat.le_of_ble_eq_true rfl) rfl (to_rcs rfl rfl) rfl (C_247 hX (dp1 hd (by decide)) hG (x := b) (fun r16 M19 hG18 F17 => ?_)))
      have F20 := FR.c F0 F17 tg_29
      refine to_an (pc := 25) rw_50_25 rfl (s_gR (pc := 26) rw_50_26 hG18 (by rcases hp with rfl | rfl <;> rfl) (v := (p + 5)) (by rcases hp with rfl | rfl <;> rfl) (to_in (pc := 29) rw_50_29 rfl (s_ial (pc := 30) rw_50_30 hG18 (by rcases hp with rfl | rfl <;> rfl) (n := 8) (by rcases hp with rfl | rfl <;> rfl) (by rcases hp with rfl | rfl <;> rfl) (A := v1.toInt) rfl (by omega) (by omega) (lo := 0) (hi := 24) (by rcases hp with rfl | rfl <;> rfl) (by rcases hp with rfl | rfl <;> rfl) (fun v21 w_22 _ _ => b_cne (pc := 31) rw_50_31 (A := r16.toInt) (B := v21.toInt) rfl rfl (fun h23 => ?_) (fun h23 => ?_)))))
      · refine to_c (pc := 38) rw_50_38 (x := (0 : Int32)) rfl rfl (s_r1 (pc := 39) rw_50_39 (A := 0) rfl (by decide) ?_)
        have k_24 : (0 : Int32).toInt = 0 := rfl
        exact h (0 : Int32) M19 hG18 F20 (by decide) (by decide)
      · refine to_c (pc := 34) rw_50_34 (x := (1 : Int32)) rfl rfl (to_go (pc := 35) rw_50_35 (s_r1 (pc := 39) rw_50_39 (A := 1) rfl (by decide) ?_))
        have k_25 : (1 : Int32).toInt = 1 := rfl
        exact h (1 : Int32) M19 hG18 F20 (by decide) (by decide)
set_option maxRecDepth 4000 in
set_option maxHeartbeats 0 in
theorem T_51_0 {X : mm_X} {d : Nat} {M : mm_M} {Q : Option Value → mm_M → Prop} {p : Nat} {f : Int32} (hX : g_X X) (hd : 0 ≤ d) (hp : p = 49 ∨ p = 58) (h : ∀ (r : Int32) (M1 : mm_M), g_G M1 → FR md_0 M M1 → Q (some (.int r)) M1) : ∀ nn9 : Nat, (∀ (N : mm_M) (x2 : Int32) (x3 : Int32), g_G N → FR md_0 M N → (0 ≤ x3.toInt) → (x3.toInt ≤ 12) → 12 - x3.toInt < (nn9 : Int) → mm_T X d 51 4 [.ref p, .int f, .int x2, .int x3] [] N Q) := by
  intro nn9
  induction nn9 with
  | zero =>
    intro N x2 x3 hG F0 g1 g2 hm
    exfalso; omega
  | succ nn9 ih =>
    intro N x2 x3 hG F0 g1 g2 hm
    refine to_in (pc := 4) rw_51_4 rfl (to_an (pc := 5) rw_51_5 rfl ?_)
    have b_1 := g_b hG (a := p) (i := 3) (lo := 0) (hi := 12) (by rcases hp with rfl | rfl <;> rfl) (by rcases hp with rfl | rfl <;> rfl)
    refine tt_gI (pc := 6) rw_51_6 (g_o hG (by rcases hp with rfl | rfl <;> rfl)) (v := (N.2.1 p 3)) rfl (b_cge (pc := 9) rw_51_9 (A := x3.toInt) (B := (N.2.1 p 3).toInt) rfl rfl (fun h2 => ?_) (fun h2 => ?_))
    · refine to_in (pc := 34) rw_51_34 rfl (to_r0 (pc := 35) rw_51_35 ?_)
      exact h x2 N hG F0 
    · refine to_an (pc := 12) rw_51_12 rfl (s_gR (pc := 13) rw_51_13 hG (by rcases hp with rfl | rfl <;> rfl) (v := (p + 7)) (by rcases hp with rfl | rfl <;> rfl) (to_in (pc := 16) rw_51_16 rfl (s_ial (pc := 17) rw_51_17 hG (by rcases hp with rfl | rfl <;> rfl) (n := 12) (by rcases hp with rfl | rfl <;> rfl) (by rcases hp with rfl | rfl <;> rfl) (A := x3.toInt) rfl (by omega) (by omega) (lo := 0) (hi := 7) (by rcases hp with rfl | rfl <;> rfl) (by rcases hp with rfl | rfl <;> rfl) (fun v3 w_4 _ _ => to_in (pc := 18) rw_51_18 rfl (b_cne (pc := 19) rw_51_19 (A := v3.toInt) (B := f.toInt) rfl rfl (fun h5 => ?_) (fun h5 => ?_))))))
      · refine s_inc (pc := 28) rw_51_28 (ls2 := fun v => [.ref p, .int f, .int x2, .int v]) rfl rfl (fun _ => rfl) (A := x3.toInt) (B := 1) rfl rfl (by omega) (fun v6 e7 => to_go (pc := 31) rw_51_31 ?_)
        exact ih N x2 v6 hG F0 (by omega) (by omega) (by omega)
      · refine to_in (pc := 22) rw_51_22 rfl (to_c (pc := 23) rw_51_23 (x := (1 : Int32)) rfl rfl (to_in (pc := 24) rw_51_24 rfl (s_any (pc := 25) rw_51_25 (fun _ _ => rfl) (fun v8 => s_any (pc := 26) rw_51_26 (fun _ _ => rfl) (fun v9 => to_isn (pc := 27) rw_51_27 (ls2 := [.ref p, .int f, .int v9, .int x3]) rfl rfl (s_inc (pc := 28) rw_51_28 (ls2 := fun v => [.ref p, .int f, .int v9, .int v]) rfl rfl (fun _ => rfl) (A := x3.toInt) (B := 1) rfl rfl (by omega) (fun v10 e11 => to_go (pc := 31) rw_51_31 ?_)))))))
        exact ih N v9 v10 hG F0 (by omega) (by omega) (by omega)
set_option maxRecDepth 4000 in
set_option maxHeartbeats 0 in
theorem C_51 {X : mm_X} {d : Nat} {M : mm_M} {Q : Option Value → mm_M → Prop} {p : Nat} {f : Int32} (hX : g_X X) (hd : 0 ≤ d) (hG : g_G M) (hp : p = 49 ∨ p = 58) (h : ∀ (r : Int32) (M1 : mm_M), g_G M1 → FR md_0 M M1 → Q (some (.int r)) M1) : mm_T X d 51 0 [.ref p, .int f, .null, .null] [] M Q := by
  have F0 : FR md_0 M M := FR.rf
  refine to_c (pc := 0) rw_51_0 (x := (0 : Int32)) rfl rfl (to_isn (pc := 1) rw_51_1 (ls2 := [.ref p, .int f, .int (0 : Int32), .null]) rfl rfl (to_c (pc := 2) rw_51_2 (x := (0 : Int32)) rfl rfl (to_isn (pc := 3) rw_51_3 (ls2 := [.ref p, .int f, .int (0 : Int32), .int (0 : Int32)]) rfl rfl ?_)))
  have k_12 : (0 : Int32).toInt = 0 := rfl
  exact (T_51_0 (p := p) (f := f) hX hd hp h ((12 - (0 : Int32).toInt).toNat + 1)) M (0 : Int32) (0 : Int32) hG F0 (by omega) (by omega) (by omega)
