theorem tg_127 : ∀ a i : Nat, (36 ≤ a ∧ a ≤ 38) → (36 ≤ a ∧ a ≤ 38) := fun a i z => by omega
theorem tg_128 : ∀ a i : Nat, (a < 0) → (36 ≤ a ∧ a ≤ 38) := fun a i z => by omega
theorem tg_129 : ∀ a i : Nat, (a < 0) → (a = 39 ∧ 4 ≤ i) := fun a i z => by omega
theorem tg_130 : ∀ a i : Nat, (a = 39 ∧ 4 ≤ i) → (a = 39 ∧ 4 ≤ i) := fun a i z => by omega
theorem tg_131 : ∀ a i : Nat, (a < 0) → (39 ≤ a ∧ a ≤ 41) := fun a i z => by omega
theorem tg_132 : ∀ a i : Nat, (a = 39 ∧ 4 ≤ i) → (39 ≤ a ∧ a ≤ 41) := fun a i z => by omega
set_option maxRecDepth 4000 in
set_option maxHeartbeats 0 in
theorem T_3_0 {X : mm_X} {d : Nat} {M : mm_M} {Q : Option Value → mm_M → Prop} {c : Int32} {y : Int32} (hX : g_X X) (hd : 0 ≤ d) (q1 : c.toInt ≤ 30) (h : ∀ (r : Int32) (M1 : mm_M), g_G M1 → FR md_0 M M1 → Q (some (.int r)) M1) : ∀ nn9 : Nat, (∀ (N : mm_M) (x3 : Int32) (x4 : Int32), g_G N → FR md_0 M N → (0 ≤ x4.toInt) → (x4.toInt ≤ 30) → (c.toInt ≤ 30) → 30 - x4.toInt < (nn9 : Int) → mm_T X d 3 5 [.ref 11, .int c, .int y, .int x3, .int x4] [] N Q) := by
  intro nn9
  induction nn9 with
  | zero =>
    intro N x3 x4 hG F0 g1 g2 g3 hm
    exfalso; omega
  | succ nn9 ih =>
    intro N x3 x4 hG F0 g1 g2 g3 hm
    refine to_i (pc := 5) rw_3_5 rfl (to_in (pc := 7) rw_3_7 rfl (b_cge (pc := 8) rw_3_8 (A := x4.toInt) (B := c.toInt) rfl rfl (fun h1 => ?_) (fun h1 => ?_)))
    · refine to_in (pc := 35) rw_3_35 rfl (to_r0 (pc := 36) rw_3_36 ?_)
      exact h x3 N hG F0 
    · refine to_in (pc := 11) rw_3_11 rfl (to_an (pc := 12) rw_3_12 rfl (s_gR (pc := 13) rw_3_13 hG rfl (v := 12) rfl (to_i (pc := 16) rw_3_16 rfl (s_lal (pc := 18) rw_3_18 hG rfl (n := 30) rfl (A := x4.toInt) rfl (by omega) (by omega) (fun l2 => to_in (pc := 19) rw_3_19 rfl (s_anyS (pc := 20) rw_3_20 (fun _ _ => rfl) (fun l3 => s_cl (pc := 21) rw_3_21 rfl (fun l4 => s_anyL (pc := 22) rw_3_22 (fun _ _ => rfl) (fun l5 => s_l2i (pc := 23) rw_3_23 (fun v6 => to_i (pc := 24) rw_3_24 rfl (s_any (pc := 26) rw_3_26 (fun _ _ => rfl) (fun v7 => ?_))))))))))))
      refine s_any (pc := 27) rw_3_27 (fun _ _ => rfl) (fun v8 => to_isn (pc := 28) rw_3_28 (ls2 := [.ref 11, .int c, .int y, .int v8, .int x4]) rfl rfl (s_inc (pc := 29) rw_3_29 (ls2 := fun v => [.ref 11, .int c, .int y, .int v8, .int v]) rfl rfl (fun _ => rfl) (A := x4.toInt) (B := 1) rfl rfl (by omega) (fun v9 e10 => to_go (pc := 32) rw_3_32 ?_)))
      exact ih N v8 v9 hG F0 (by omega) (by omega) (by omega) (by omega)
set_option maxRecDepth 4000 in
set_option maxHeartbeats 0 in
theorem C_3 {X : mm_X} {d : Nat} {M : mm_M} {Q : Option Value → mm_M → Prop} {c : Int32} {y : Int32} (hX : g_X X) (hd : 0 ≤ d) (hG : g_G M) (q1 : c.toInt ≤ 30) (h : ∀ (r : Int32) (M1 : mm_M), g_G M1 → FR md_0 M M1 → Q (some (.int r)) M1) : mm_T X d 3 0 [.ref 11, .int c, .int y, .null, .null] [] M Q := by
  have F0 : FR md_0 M M := FR.rf
  refine to_c (pc := 0) rw_3_0 (x := (0 : Int32)) rfl rfl (to_isn (pc := 1) rw_3_1 (ls2 := [.ref 11, .int c, .int y, .int (0 : Int32), .null]) rfl rfl (to_c (pc := 2) rw_3_2 (x := (0 : Int32)) rfl rfl (to_is (pc := 3) rw_3_3 (ls2 := [.ref 11, .int c, .int y, .int (0 : Int32), .int (0 : Int32)]) rfl rfl ?_)))
  have k_11 : (0 : Int32).toInt = 0 := rfl
  exact (T_3_0 (c := c) (y := y) hX hd q1 h ((30 - (0 : Int32).toInt).toNat + 1)) M (0 : Int32) (0 : Int32) hG F0 (by omega) (by omega) (by omega) (by omega)
set_option maxRecDepth 4000 in
set_option maxHeartbeats 0 in
theorem T_4_0 {X : mm_X} {d : Nat} {M : mm_M} {Q : Option Value → mm_M → Prop} {p : Nat} {w : Int32} {y : Int32} (hX : g_X X) (hd : 0 ≤ d) (hp : p = 49 ∨ p = 58) (h : ∀ (r : Int32) (M1 : mm_M), g_G M1 → FR md_0 M M1 → Q (some (.int r)) M1) : ∀ nn9 : Nat, (∀ (N : mm_M) (x4 : Int32) (x5 : Int32), g_G N → FR md_0 M N → (0 ≤ x5.toInt) → (x5.toInt ≤ 12) → 12 - x5.toInt < (nn9 : Int) → mm_T X d 4 6 [.ref p, .ref 11, .int w, .int y, .int x4, .int x5] [] N Q) := by
  intro nn9
  induction nn9 with
  | zero =>
    intro N x4 x5 hG F0 g1 g2 hm
    exfalso; omega
  | succ nn9 ih =>
    intro N x4 x5 hG F0 g1 g2 hm
    refine to_i (pc := 6) rw_4_6 rfl (to_an (pc := 8) rw_4_8 rfl ?_)
    have b_1 := g_b hG (a := p) (i := 3) (lo := 0) (hi := 12) (by rcases hp with rfl | rfl <;> rfl) (by rcases hp with rfl | rfl <;> rfl)
    refine tt_gI (pc := 9) rw_4_9 (g_o hG (by rcases hp with rfl | rfl <;> rfl)) (v := (N.2.1 p 3)) rfl (b_cge (pc := 12) rw_4_12 (A := x5.toInt) (B := (N.2.1 p 3).toInt) rfl rfl (fun h2 => ?_) (fun h2 => ?_))
    · refine to_i (pc := 46) rw_4_46 rfl (to_r0 (pc := 48) rw_4_48 ?_)
      exact h x4 N hG F0 
    · refine to_i (pc := 15) rw_4_15 rfl (to_in (pc := 17) rw_4_17 rfl (b_ceq (pc := 18) rw_4_18 (A := x5.toInt) (B := w.toInt) rfl rfl (fun h3 => ?_) (fun h3 => ?_)))
      · refine s_inc (pc := 40) rw_4_40 (ls2 := fun v => [.ref p, .ref 11, .int w, .int y, .int x4, .int v]) rfl rfl (fun _ => rfl) (A := x5.toInt) (B := 1) rfl rfl (by omega) (fun v4 e5 => to_go (pc := 43) rw_4_43 ?_)
        exact ih N x4 v4 hG F0 (by omega) (by omega) (by omega)
      · refine to_an (pc := 21) rw_4_21 rfl (s_gR (pc := 22) rw_4_22 hG rfl (v := 15) rfl (to_i (pc := 25) rw_4_25 rfl (s_lal (pc := 27) rw_4_27 hG rfl (n := 12) rfl (A := x5.toInt) rfl (by omega) (by omega) (fun l6 => to_in (pc := 28) rw_4_28 rfl (s_anyS (pc := 29) rw_4_29 (fun _ _ => rfl) (fun l7 => s_cl (pc := 30) rw_4_30 rfl (fun l8 => s_anyL (pc := 31) rw_4_31 (fun _ _ => rfl) (fun l9 => s_cl (pc := 32) rw_4_32 rfl (fun l10 => s_lcmp (pc := 33) rw_4_33 (fun v11 => b_ieq (pc := 34) rw_4_34 (A := v11.toInt) rfl (fun h12 => ?_) (fun h12 => ?_)))))))))))
        · refine s_inc (pc := 40) rw_4_40 (ls2 := fun v => [.ref p, .ref 11, .int w, .int y, .int x4, .int v]) rfl rfl (fun _ => rfl) (A := x5.toInt) (B := 1) rfl rfl (by omega) (fun v13 e14 => to_go (pc := 43) rw_4_43 ?_)
          exact ih N x4 v13 hG F0 (by omega) (by omega) (by omega)
        · refine s_incx (pc := 37) rw_4_37 (ls2 := fun v => [.ref p, .ref 11, .int w, .int y, .int v, .int x5]) rfl rfl (fun _ => rfl) (fun v15 => s_inc (pc := 40) rw_4_40 (ls2 := fun v => [.ref p, .ref 11, .int w, .int y, .int v15, .int v]) rfl rfl (fun _ => rfl) (A := x5.toInt) (B := 1) rfl rfl (by omega) (fun v17 e18 => to_go (pc := 43) rw_4_43 ?_))
          exact ih N v15 v17 hG F0 (by omega) (by omega) (by omega)
set_option maxRecDepth 4000 in
set_option maxHeartbeats 0 in
theorem C_4 {X : mm_X} {d : Nat} {M : mm_M} {Q : Option Value → mm_M → Prop} {p : Nat} {w : Int32} {y : Int32} (hX : g_X X) (hd : 0 ≤ d) (hG : g_G M) (hp : p = 49 ∨ p = 58) (h : ∀ (r : Int32) (M1 : mm_M), g_G M1 → FR md_0 M M1 → Q (some (.int r)) M1) : mm_T X d 4 0 [.ref p, .ref 11, .int w, .int y, .null, .null] [] M Q := by
  have F0 : FR md_0 M M := FR.rf
  refine to_c (pc := 0) rw_4_0 (x := (0 : Int32)) rfl rfl (to_is (pc := 1) rw_4_1 (ls2 := [.ref p, .ref 11, .int w, .int y, .int (0 : Int32), .null]) rfl rfl (to_c (pc := 3) rw_4_3 (x := (0 : Int32)) rfl rfl (to_is (pc := 4) rw_4_4 (ls2 := [.ref p, .ref 11, .int w, .int y, .int (0 : Int32), .int (0 : Int32)]) rfl rfl ?_)))
  have k_19 : (0 : Int32).toInt = 0 := rfl
  exact (T_4_0 (p := p) (w := w) (y := y) hX hd hp h ((12 - (0 : Int32).toInt).toNat + 1)) M (0 : Int32) (0 : Int32) hG F0 (by omega) (by omega) (by omega)
set_option maxRecDepth 4000 in
set_option maxHeartbeats 0 in
theorem C_6 {X : mm_X} {d : Nat} {M : mm_M} {Q : Option Value → mm_M → Prop} {c : Int32} {b : Int32} {s : Int32} (hX : g_X X) (hd : 0 ≤ d) (hG : g_G M) (h : ∀ (M1 : mm_M), g_G M1 → FR md_b M M1 → Q (none) M1) : mm_T X d 6 0 [.ref 36, .int c, .int b, .int s, .null] [] M Q := by
  have F0 : FR md_b M M := FR.rf
  refine to_in (pc := 0) rw_6_0 rfl (to_an (pc := 1) rw_6_1 rfl (tt_gI (pc := 2) rw_6_2 (g_o hG rfl) (v := (M.2.1 36 3)) rfl (b_clt (pc := 5) rw_6_5 (A := b.toInt) (B := (M.2.1 36 3).toInt) rfl rfl (fun h1 => ?_) (fun h1 => ?_))))
  · refine to_c (pc := 24) rw_6_24 (x := (1 : Int32)) rfl rfl (to_go (pc := 25) rw_6_25 (to_is (pc := 29) rw_6_29 (ls2 := [.ref 36, .int c, .int b, .int s, .int (1 : Int32)]) rfl rfl (to_an (pc := 31) rw_6_31 rfl (tt_gI (pc := 32) rw_6_32 (g_o hG rfl) (v := (M.2.1 36 2)) rfl (to_c (pc := 35) rw_6_35 (x := (-1 : Int32)) rfl rfl (b_ceq (pc := 36) rw_6_36 (A := (M.2.1 36 2).toInt) (B := -1) rfl rfl (fun h2 => ?_) (fun h2 => ?_)))))))
    · refine to_an (pc := 44) rw_6_44 rfl (to_in (pc := 45) rw_6_45 rfl (s_pI (pc := 46) rw_6_46 hG rfl (fun M4 W3 => ?_)))
      have hG5 := g_wf hG W3 rfl rfl (by decide)
      have F6 := FR.w F0 W3 (show 36 ≤ 36 ∧ 36 ≤ 38 by decide)
      refine to_an (pc := 49) rw_6_49 rfl (to_in (pc := 50) rw_6_50 rfl (s_pI (pc := 51) rw_6_51 hG5 rfl (fun M8 W7 => ?_)))
      have hG9 := g_wf hG5 W7 rfl rfl (by decide)
      have F10 := FR.w F6 W7 (show 36 ≤ 36 ∧ 36 ≤ 38 by decide)
      refine to_an (pc := 54) rw_6_54 rfl (to_in (pc := 55) rw_6_55 rfl (s_pI (pc := 56) rw_6_56 hG9 rfl (fun M12 W11 => ?_)))
      have hG13 := g_wf hG9 W11 rfl rfl (by decide)
      have F14 := FR.w F10 W11 (show 36 ≤ 36 ∧ 36 ≤ 38 by decide)
      refine to_rv (pc := 59) rw_6_59 ?_
      exact h M12 hG13 F14 
    · refine to_i (pc := 39) rw_6_39 rfl (b_ieq_f (pc := 41) rw_6_41 (A := 1) rfl (by decide) (to_an (pc := 44) rw_6_44 rfl (to_in (pc := 45) rw_6_45 rfl (s_pI (pc := 46) rw_6_46 hG rfl (fun M16 W15 => ?_)))))
      have hG17 := g_wf hG W15 rfl rfl (by decide)
      have F18 := FR.w F0 W15 (show 36 ≤ 36 ∧ 36 ≤ 38 by decide)
      refine to_an (pc := 49) rw_6_49 rfl (to_in (pc := 50) rw_6_50 rfl (s_pI (pc := 51) rw_6_51 hG17 rfl (fun M20 W19 => ?_)))
      have hG21 := g_wf hG17 W19 rfl rfl (by decide)
      have F22 := FR.w F18 W19 (show 36 ≤ 36 ∧ 36 ≤ 38 by decide)
      refine to_an (pc := 54) rw_6_54 rfl (to_in (pc := 55) rw_6_55 rfl (s_pI (pc := 56) rw_6_56 hG21 rfl (fun M24 W23 => ?_)))
      have hG25 := g_wf hG21 W23 rfl rfl (by decide)
      have F26 := FR.w F22 W23 (show 36 ≤ 36 ∧ 36 ≤ 38 by decide)
      refine to_rv (pc := 59) rw_6_59 ?_
      exact h M24 hG25 F26 
  · refine to_in (pc := 8) rw_6_8 rfl (to_an (pc := 9) rw_6_9 rfl (tt_gI (pc := 10) rw_6_10 (g_o hG rfl) (v := (M.2.1 36 3)) rfl (b_cne (pc := 13) rw_6_13 (A := b.toInt) (B := (M.2.1 36 3).toInt) rfl rfl (fun h27 => ?_) (fun h27 => ?_))))
    · refine to_c (pc := 28) rw_6_28 (x := (0 : Int32)) rfl rfl (to_is (pc := 29) rw_6_29 (ls2 := [.ref 36, .int c, .int b, .int s, .int (0 : Int32)]) rfl rfl (to_an (pc := 31) rw_6_31 rfl (tt_gI (pc := 32) rw_6_32 (g_o hG rfl) (v := (M.2.1 36 2)) rfl (to_c (pc := 35) rw_6_35 (x := (-1 : Int32)) rfl rfl (b_ceq (pc := 36) rw_6_36 (A := (M.2.1 36 2).toInt) (B := -1) rfl rfl (fun h28 => ?_) (fun h28 => ?_))))))
      · refine to_an (pc := 44) rw_6_44 rfl (to_in (pc := 45) rw_6_45 rfl (s_pI (pc := 46) rw_6_46 hG rfl (fun M30 W29 => ?_)))
        have hG31 := g_wf hG W29 rfl rfl (by decide)
        have F32 := FR.w F0 W29 (show 36 ≤ 36 ∧ 36 ≤ 38 by decide)
        refine to_an (pc := 49) rw_6_49 rfl (to_in (pc := 50) rw_6_50 rfl (s_pI (pc := 51) rw_6_51 hG31 rfl (fun M34 W33 => ?_)))
        have hG35 := g_wf hG31 W33 rfl rfl (by decide)
        have F36 := FR.w F32 W33 (show 36 ≤ 36 ∧ 36 ≤ 38 by decide)
        refine to_an (pc := 54) rw_6_54 rfl (to_in (pc := 55) rw_6_55 rfl (s_pI (pc := 56) rw_6_56 hG35 rfl (fun M38 W37 => ?_)))
        have hG39 := g_wf hG35 W37 rfl rfl (by decide)
        have F40 := FR.w F36 W37 (show 36 ≤ 36 ∧ 36 ≤ 38 by decide)
        refine to_rv (pc := 59) rw_6_59 ?_
        exact h M38 hG39 F40 
      · refine to_i (pc := 39) rw_6_39 rfl (b_ieq_t (pc := 41) rw_6_41 (A := 0) rfl (by decide) (to_rv (pc := 59) rw_6_59 ?_))
        exact h M hG F0 
    · refine to_in (pc := 16) rw_6_16 rfl (to_an (pc := 17) rw_6_17 rfl (tt_gI (pc := 18) rw_6_18 (g_o hG rfl) (v := (M.2.1 36 4)) rfl (b_cge (pc := 21) rw_6_21 (A := s.toInt) (B := (M.2.1 36 4).toInt) rfl rfl (fun h41 => ?_) (fun h41 => ?_))))
      · refine to_c (pc := 28) rw_6_28 (x := (0 : Int32)) rfl rfl (to_is (pc := 29) rw_6_29 (ls2 := [.ref 36, .int c, .int b, .int s, .int (0 : Int32)]) rfl rfl (to_an (pc := 31) rw_6_31 rfl (tt_gI (pc := 32) rw_6_32 (g_o hG rfl) (v := (M.2.1 36 2)) rfl (to_c (pc := 35) rw_6_35 (x := (-1 : Int32)) rfl rfl (b_ceq (pc := 36) rw_6_36 (A := (M.2.1 36 2).toInt) (B := -1) rfl rfl (fun h42 => ?_) (fun h42 => ?_))))))
        · refine to_an (pc := 44) rw_6_44 rfl (to_in (pc := 45) rw_6_45 rfl (s_pI (pc := 46) rw_6_46 hG rfl (fun M44 W43 => ?_)))
          have hG45 := g_wf hG W43 rfl rfl (by decide)
          have F46 := FR.w F0 W43 (show 36 ≤ 36 ∧ 36 ≤ 38 by decide)
          refine to_an (pc := 49) rw_6_49 rfl (to_in (pc := 50) rw_6_50 rfl (s_pI (pc := 51) rw_6_51 hG45 rfl (fun M48 W47 => ?_)))
          have hG49 := g_wf hG45 W47 rfl rfl (by decide)
          have F50 := FR.w F46 W47 (show 36 ≤ 36 ∧ 36 ≤ 38 by decide)
          refine to_an (pc := 54) rw_6_54 rfl (to_in (pc := 55) rw_6_55 rfl (s_pI (pc := 56) rw_6_56 hG49 rfl (fun M52 W51 => ?_)))
          have hG53 := g_wf hG49 W51 rfl rfl (by decide)
          have F54 := FR.w F50 W51 (show 36 ≤ 36 ∧ 36 ≤ 38 by decide)
          refine to_rv (pc := 59) rw_6_59 ?_
          exact h M52 hG53 F54 
        · refine to_i (pc := 39) rw_6_39 rfl (b_ieq_t (pc := 41) rw_6_41 (A := 0) rfl (by decide) (to_rv (pc := 59) rw_6_59 ?_))
          exact h M hG F0 
      · refine to_c (pc := 24) rw_6_24 (x := (1 : Int32)) rfl rfl (to_go (pc := 25) rw_6_25 (to_is (pc := 29) rw_6_29 (ls2 := [.ref 36, .int c, .int b, .int s, .int (1 : Int32)]) rfl rfl (to_an (pc := 31) rw_6_31 rfl (tt_gI (pc := 32) rw_6_32 (g_o hG rfl) (v := (M.2.1 36 2)) rfl (to_c (pc := 35) rw_6_35 (x := (-1 : Int32)) rfl rfl (b_ceq (pc := 36) rw_6_36 (A := (M.2.1 36 2).toInt) (B := -1) rfl rfl (fun h55 => ?_) (fun h55 => ?_)))))))
        · refine to_an (pc := 44) rw_6_44 rfl (to_in (pc := 45) rw_6_45 rfl (s_pI (pc := 46) rw_6_46 hG rfl (fun M57 W56 => ?_)))
          have hG58 := g_wf hG W56 rfl rfl (by decide)
          have F59 := FR.w F0 W56 (show 36 ≤ 36 ∧ 36 ≤ 38 by decide)
          refine to_an (pc := 49) rw_6_49 rfl (to_in (pc := 50) rw_6_50 rfl (s_pI (pc := 51) rw_6_51 hG58 rfl (fun M61 W60 => ?_)))
          have hG62 := g_wf hG58 W60 rfl rfl (by decide)
          have F63 := FR.w F59 W60 (show 36 ≤ 36 ∧ 36 ≤ 38 by decide)
          refine to_an (pc := 54) rw_6_54 rfl (to_in (pc := 55) rw_6_55 rfl (s_pI (pc := 56) rw_6_56 hG62 rfl (fun M65 W64 => ?_)))
          have hG66 := g_wf hG62 W64 rfl rfl (by decide)
          have F67 := FR.w F63 W64 (show 36 ≤ 36 ∧ 36 ≤ 38 by decide)
          refine to_rv (pc := 59) rw_6_59 ?_
          exact h M65 hG66 F67 
        · refine to_i (pc := 39) rw_6_39 rfl (b_ieq_f (pc := 41) rw_6_41 (A := 1) rfl (by decide) (to_an (pc := 44) rw_6_44 rfl (to_in (pc := 45) rw_6_45 rfl (s_pI (pc := 46) rw_6_46 hG rfl (fun M69 W68 => ?_)))))
          have hG70 := g_wf hG W68 rfl rfl (by decide)
          have F71 := FR.w F0 W68 (show 36 ≤ 36 ∧ 36 ≤ 38 by decide)
          refine to_an (pc := 49) rw_6_49 rfl (to_in (pc := 50) rw_6_50 rfl (s_pI (pc := 51) rw_6_51 hG70 rfl (fun M73 W72 => ?_)))
          have hG74 := g_wf hG70 W72 rfl rfl (by decide)
          have F75 := FR.w F71 W72 (show 36 ≤ 36 ∧ 36 ≤ 38 by decide)
          refine to_an (pc := 54) rw_6_54 rfl (to_in (pc := 55) rw_6_55 rfl (s_pI (pc := 56) rw_6_56 hG74 rfl (fun M77 W76 => ?_)))
          have hG78 := g_wf hG74 W76 rfl rfl (by decide)
          have F79 := FR.w F75 W76 (show 36 ≤ 36 ∧ 36 ≤ 38 by decide)
          refine to_rv (pc := 59) rw_6_59 ?_
          exact h M77 hG78 F79 
noncomputable def RC_5 (k : Int) : Prop := ∀ (X : mm_X) (d : Nat) (M : mm_M) (Q : Option Value → mm_M → Prop) (l : Int32) (b : Int32) (c : Int32) (y : Int32) (s : Int32), g_X X → (1 + l.toInt ≤ (d : Int)) → g_G M → (0 ≤ l.toInt) → (l.toInt ≤ 24) → (b.toInt ≤ 24) → l.toInt < k → (∀ (M1 : mm_M), g_G M1 → FR md_b M M1 → Q (none) M1) → mm_T X d 5 0 [.ref 36, .int l, .int b, .int c, .int y, .int s, .null] [] M Q
set_option maxRecDepth 4000 in
set_option maxHeartbeats 0 in
theorem T_5_0 {X : mm_X} {d : Nat} {M : mm_M} {Q : Option Value → mm_M → Prop} {l : Int32} {b : Int32} {c : Int32} {y : Int32} {s : Int32} (hX : g_X X) (hd : 1 + l.toInt ≤ (d : Int)) (q1 : 0 ≤ l.toInt) (q2 : l.toInt ≤ 24) (q3 : b.toInt ≤ 24) (hr : RC_5 (l.toInt)) (h : ∀ (M1 : mm_M), g_G M1 → FR md_b M M1 → Q (none) M1) : ∀ nn9 : Nat, (∀ (N : mm_M) (x6 : Int32), g_G N → FR md_b M N → (0 ≤ x6.toInt) → (x6.toInt ≤ 24) → (b.toInt ≤ 24) → (1 ≤ l.toInt) → (l.toInt ≤ 24) → (l.toInt = l.toInt) → 24 - x6.toInt < (nn9 : Int) → mm_T X d 5 22 [.ref 36, .int l, .int b, .int c, .int y, .int s, .int x6] [] N Q) := by
  intro nn9
  induction nn9 with
  | zero =>
    intro N x6 hG F0 g1 g2 g3 g4 g5 g6 hm
    exfalso; omega
  | succ nn9 ih =>
    intro N x6 hG F0 g1 g2 g3 g4 g5 g6 hm
    refine to_i (pc := 22) rw_5_22 rfl (to_in (pc := 24) rw_5_24 rfl (b_cge (pc := 25) rw_5_25 (A := x6.toInt) (B := b.toInt) rfl rfl (fun h1 => ?_) (fun h1 => ?_)))
    · refine to_rv (pc := 69) rw_5_69 ?_
      exact h N hG F0 
    · refine to_an (pc := 28) rw_5_28 rfl (to_in (pc := 29) rw_5_29 rfl (to_c (pc := 30) rw_5_30 (x := (1 : Int32)) rfl rfl (s_sub (pc := 31) rw_5_31 (A := l.toInt) (B := 1) rfl rfl (by omega) (fun v2 e3 => to_i (pc := 32) rw_5_32 rfl (to_in (pc := 34) rw_5_34 rfl (to_c (pc := 35) rw_5_35 (x := (1 : Int32)) rfl rfl (to_i (pc := 36) rw_5_36 rfl (s_any (pc := 38) rw_5_38 (fun _ _ => rfl) (fun v4 => s_any (pc := 39) rw_5_39 (fun _ _ => rfl) (fun v5 => to_i (pc := 40) rw_5_40 rfl (to_an (pc := 42) rw_5_42 rfl ?_)))))))))))
      refine s_gR (pc := 43) rw_5_43 hG rfl (v := 37) rfl (to_i (pc := 46) rw_5_46 rfl (s_ial (pc := 48) rw_5_48 hG rfl (n := 24) rfl rfl (A := x6.toInt) rfl (by omega) (by omega) (lo := -2147483648) (hi := 2147483647) rfl rfl (fun v6 w_7 _ _ => s_any (pc := 49) rw_5_49 (fun _ _ => rfl) (fun v8 => to_i (pc := 50) rw_5_50 rfl (to_an (pc := 52) rw_5_52 rfl (s_gR (pc := 53) rw_5_53 hG rfl (v := 38) rfl (to_i (pc := 56) rw_5_56 rfl (s_ial (pc := 58) rw_5_58 hG rfl (n := 24) rfl rfl (A := x6.toInt) rfl (by omega) (by omega) (lo := -2147483648) (hi := 2147483647) rfl rfl (fun v10 w_11 _ _ => s_any (pc := 59) rw_5_59 (fun _ _ => rfl) (fun v12 => s_v (pc := 60) rw_5_60 (by omega) (ls0 := [.ref 36, .int v2, .int x6, .int v5, .int v8, .int v12, .null]) rfl (Nat.le_of_ble_eq_true rfl) (Nat.le_of_ble_eq_true rfl) rfl (to_rc rfl rfl rfl (g_o hG rfl)) rfl (hr X _ _ _ v2 x6 v5 v8 v12 hX (by omega) hG (by omega) (by omega) (by omega) (by omega) (fun M15 hG14 F13 => ?_))))))))))))
      have F16 := FR.c F0 F13 tg_127
      refine s_inc (pc := 63) rw_5_63 (ls2 := fun v => [.ref 36, .int l, .int b, .int c, .int y, .int s, .int v]) rfl rfl (fun _ => rfl) (A := x6.toInt) (B := 1) rfl rfl (by omega) (fun v17 e18 => to_go (pc := 66) rw_5_66 ?_)
      exact ih M15 v17 hG14 F16 (by omega) (by omega) (by omega) (by omega) (by omega) (by omega) (by omega)
set_option maxRecDepth 4000 in
set_option maxHeartbeats 0 in
theorem B_5 {X : mm_X} {d : Nat} {M : mm_M} {Q : Option Value → mm_M → Prop} {l : Int32} {b : Int32} {c : Int32} {y : Int32} {s : Int32} (hX : g_X X) (hd : 1 + l.toInt ≤ (d : Int)) (hG : g_G M) (q1 : 0 ≤ l.toInt) (q2 : l.toInt ≤ 24) (q3 : b.toInt ≤ 24) (hr : RC_5 (l.toInt)) (h : ∀ (M1 : mm_M), g_G M1 → FR md_b M M1 → Q (none) M1) : mm_T X d 5 0 [.ref 36, .int l, .int b, .int c, .int y, .int s, .null] [] M Q := by
  have F0 : FR md_b M M := FR.rf
  refine to_in (pc := 0) rw_5_0 rfl (b_igt (pc := 1) rw_5_1 (A := l.toInt) rfl (fun h19 => ?_) (fun h19 => ?_))
  · refine to_in (pc := 17) rw_5_17 rfl (to_c (pc := 18) rw_5_18 (x := (1 : Int32)) rfl rfl (s_sub (pc := 19) rw_5_19 (A := l.toInt) (B := 1) rfl rfl (by omega) (fun v20 e21 => to_is (pc := 20) rw_5_20 (ls2 := [.ref 36, .int l, .int b, .int c, .int y, .int s, .int v20]) rfl rfl ?_)))
    exact (T_5_0 (l := l) (b := b) (c := c) (y := y) (s := s) hX hd q1 q2 q3 hr h ((24 - v20.toInt).toNat + 1)) M v20 hG F0 (by omega) (by omega) (by omega) (by omega) (by omega) (by omega) (by omega)
  · refine to_an (pc := 4) rw_5_4 rfl (to_in (pc := 5) rw_5_5 rfl (to_i (pc := 6) rw_5_6 rfl (s_s (pc := 8) rw_5_8 (by omega) (ls0 := [.int y]) rfl (Nat.le_of_ble_eq_true rfl) (Nat.le_of_ble_eq_true rfl) rfl (to_rcs rfl rfl) rfl (C_247 hX (by omega) hG (x := y) (fun r22 M25 hG24 F23 => ?_)))))
    have F26 := FR.c F0 F23 tg_128
    refine to_i (pc := 11) rw_5_11 rfl (s_v (pc := 13) rw_5_13 (by omega) (ls0 := [.ref 36, .int c, .int r22, .int s, .null]) rfl (Nat.le_of_ble_eq_true rfl) (Nat.le_of_ble_eq_true rfl) rfl (to_rc rfl rfl rfl (g_o hG24 rfl)) rfl (C_6 hX (by omega) hG24 (c := c) (b := r22) (s := s) (fun M29 hG28 F27 => ?_)))
    have F30 := FR.c F26 F27 tg_127
    refine to_rv (pc := 16) rw_5_16 ?_
    exact h M29 hG28 F30 
theorem RC_5_all : ∀ nn : Nat, RC_5 (nn : Int) := by
  intro nn
  induction nn with
  | zero =>
    intro X d M Q l b c y s hX hd hG q1 q2 q3 hm h
    exfalso; omega
  | succ nn ih =>
    intro X d M Q l b c y s hX hd hG q1 q2 q3 hm h
    exact B_5 hX hd hG q1 q2 q3 (fun X2 d2 M2 Q2 l2 b2 c2 y2 s2 e71 e72 e73 q12 q22 q32 hm2 h2 => ih X2 d2 M2 Q2 l2 b2 c2 y2 s2 e71 e72 e73 q12 q22 q32 (by omega) h2) h
theorem C_5 {X : mm_X} {d : Nat} {M : mm_M} {Q : Option Value → mm_M → Prop} {l : Int32} {b : Int32} {c : Int32} {y : Int32} {s : Int32} (hX : g_X X) (hd : 1 + l.toInt ≤ (d : Int)) (hG : g_G M) (q1 : 0 ≤ l.toInt) (q2 : l.toInt ≤ 24) (q3 : b.toInt ≤ 24) (h : ∀ (M1 : mm_M), g_G M1 → FR md_b M M1 → Q (none) M1) : mm_T X d 5 0 [.ref 36, .int l, .int b, .int c, .int y, .int s, .null] [] M Q := RC_5_all ((l.toInt).toNat + 1) X d M Q l b c y s hX hd hG q1 q2 q3 (by omega) h
set_option maxRecDepth 4000 in
set_option maxHeartbeats 0 in
theorem T_2_0 {X : mm_X} {d : Nat} {M : mm_M} {Q : Option Value → mm_M → Prop} {p : Nat} {c : Int32} {w : Int32} (hX : g_X X) (hd : 27 ≤ d) (hp : p = 49 ∨ p = 58) (q1 : 0 ≤ c.toInt) (q2 : c.toInt ≤ 30) (q3 : 0 ≤ w.toInt) (q4 : w.toInt ≤ 11) (h : ∀ (r : Int32) (M1 : mm_M), g_G M1 → FR md_b M M1 → Q (some (.int r)) M1) : ∀ nn9 : Nat, (∀ (N : mm_M) (x5 : Int32) (x6 : Int32) (x7 : Int32) (x8 : Int32) (u9 : Value), g_G N → FR md_b M N → (0 ≤ x8.toInt) → (x8.toInt ≤ 24) → (0 ≤ c.toInt) → (c.toInt ≤ 30) → (0 ≤ x5.toInt) → (x5.toInt ≤ 7) → (x7.toInt ≤ 24) → (0 ≤ w.toInt) → (w.toInt ≤ 11) → 24 - x8.toInt < (nn9 : Int) → mm_T X d 2 63 [.ref 36, .ref p, .ref 11, .int c, .int w, .int x5, .int x6, .int x7, .int x8, u9] [] N Q) := by
  intro nn9
  induction nn9 with
  | zero =>
    intro N x5 x6 x7 x8 u9 hG F0 g1 g2 g3 g4 g5 g6 g7 g8 g9 hm
    exfalso; omega
  | succ nn9 ih =>
    intro N x5 x6 x7 x8 u9 hG F0 g1 g2 g3 g4 g5 g6 g7 g8 g9 hm
    refine to_i (pc := 63) rw_2_63 rfl (to_i (pc := 65) rw_2_65 rfl (b_cge (pc := 67) rw_2_67 (A := x8.toInt) (B := x7.toInt) rfl rfl (fun h1 => ?_) (fun h1 => ?_)))
    · refine to_an (pc := 121) rw_2_121 rfl (to_c (pc := 122) rw_2_122 (x := (-1 : Int32)) rfl rfl (s_pI (pc := 123) rw_2_123 hG rfl (fun M3 W2 => ?_)))
      have hG4 := g_wf hG W2 rfl rfl (by decide)
      have F5 := FR.w F0 W2 (show 36 ≤ 36 ∧ 36 ≤ 38 by decide)
      refine to_an (pc := 126) rw_2_126 rfl (to_an (pc := 127) rw_2_127 rfl (s_gR (pc := 128) rw_2_128 hG4 (by rcases hp with rfl | rfl <;> rfl) (v := (p + 5)) (by rcases hp with rfl | rfl <;> rfl) (to_i (pc := 131) rw_2_131 rfl (s_ial (pc := 133) rw_2_133 hG4 (by rcases hp with rfl | rfl <;> rfl) (n := 8) (by rcases hp with rfl | rfl <;> rfl) (by rcases hp with rfl | rfl <;> rfl) (A := x5.toInt) rfl (by omega) (by omega) (lo := 0) (hi := 24) (by rcases hp with rfl | rfl <;> rfl) (by rcases hp with rfl | rfl <;> rfl) (fun v6 w_7 _ _ => to_i (pc := 134) rw_2_134 rfl (to_c (pc := 136) rw_2_136 (x := (0 : Int32)) rfl rfl (to_i (pc := 137) rw_2_137 rfl (to_c (pc := 139) rw_2_139 (x := (0 : Int32)) rfl rfl (s_v (pc := 140) rw_2_140 (dp0 hd (by decide)) (ls0 := [.ref 36, .int v6, .int x7, .int (0 : Int32), .int x6, .int (0 : Int32), .null]) rfl (Nat.le_of_ble_eq_true rfl) (Nat.le_of_ble_eq_true rfl) rfl (to_rc rfl rfl rfl (g_o hG4 rfl)) rfl ?_)))))))))
      have k_8 : (0 : Int32).toInt = 0 := rfl
      refine C_5 hX (by omega) hG4 (by omega) (by omega) (by omega) (l := v6) (b := x7) (c := (0 : Int32)) (y := x6) (s := (0 : Int32)) (fun M11 hG10 F9 => ?_)
      have F12 := FR.c F5 F9 tg_127
      refine to_an (pc := 143) rw_2_143 rfl (tt_gI (pc := 144) rw_2_144 (g_o hG10 rfl) (v := (M11.2.1 36 2)) rfl (to_r0 (pc := 147) rw_2_147 ?_))
      exact h (M11.2.1 36 2) M11 hG10 F12 
    · refine to_an (pc := 70) rw_2_70 rfl (s_gR (pc := 71) rw_2_71 hG (by rcases hp with rfl | rfl <;> rfl) (v := (p + 3)) (by rcases hp with rfl | rfl <;> rfl) (to_i (pc := 74) rw_2_74 rfl (s_ial (pc := 76) rw_2_76 hG (by rcases hp with rfl | rfl <;> rfl) (n := 8) (by rcases hp with rfl | rfl <;> rfl) (by rcases hp with rfl | rfl <;> rfl) (A := x5.toInt) rfl (by omega) (by omega) (lo := 0) (hi := 59) (by rcases hp with rfl | rfl <;> rfl) (by rcases hp with rfl | rfl <;> rfl) (fun v13 w_14 _ _ => to_i (pc := 77) rw_2_77 rfl (s_add (pc := 79) rw_2_79 (A := v13.toInt) (B := x8.toInt) rfl rfl (by omega) (fun v15 e16 => to_is (pc := 80) rw_2_80 (ls2 := [.ref 36, .ref p, .ref 11, .int c, .int w, .int x5, .int x6, .int x7, .int x8, .int v15]) rfl rfl (to_an (pc := 82) rw_2_82 rfl (s_gR (pc := 83) rw_2_83 hG rfl (v := 37) rfl (to_i (pc := 86) rw_2_86 rfl (to_i (pc := 88) rw_2_88 rfl (to_an (pc := 90) rw_2_90 rfl ?_)))))))))))
      refine to_in (pc := 91) rw_2_91 rfl (to_i (pc := 92) rw_2_92 rfl (s_s (pc := 94) rw_2_94 (dp0 hd (by decide)) (ls0 := [.ref 11, .int c, .int v15, .null, .null]) rfl (Nat.le_of_ble_eq_true rfl) (Nat.le_of_ble_eq_true rfl) rfl (to_rcs rfl rfl) rfl (C_3 hX (dp1 hd (by decide)) hG (by omega) (c := c) (y := v15) (fun r17 M20 hG19 F18 => ?_))))
      have F21 := FR.c F0 F18 tg_128
      refine s_any (pc := 97) rw_2_97 (fun _ _ => rfl) (fun v22 => s_ias (pc := 98) rw_2_98 hG19 rfl (n := 24) rfl (A := x8.toInt) rfl (by omega) (by omega) (fun M25 W24 => ?_))
      have hG26 := g_wf hG19 W24 rfl rfl (by decide)
      have F27 := FR.w F21 W24 (show 36 ≤ 37 ∧ 37 ≤ 38 by decide)
      refine to_an (pc := 99) rw_2_99 rfl (s_gR (pc := 100) rw_2_100 hG26 rfl (v := 38) rfl (to_i (pc := 103) rw_2_103 rfl (to_an (pc := 105) rw_2_105 rfl (to_an (pc := 106) rw_2_106 rfl (to_i (pc := 107) rw_2_107 rfl (to_i (pc := 109) rw_2_109 rfl (s_s (pc := 111) rw_2_111 (dp0 hd (by decide)) (ls0 := [.ref p, .ref 11, .int w, .int v15, .null, .null]) rfl (Nat.le_of_ble_eq_true rfl) (Nat.le_of_ble_eq_true rfl) rfl (to_rcs rfl rfl) rfl (C_4 hX (dp1 hd (by decide)) hG26 hp (p := p) (w := w) (y := v15) (fun r28 M31 hG30 F29 => ?_)))))))))
      have F32 := FR.c F27 F29 tg_128
      refine s_ias (pc := 114) rw_2_114 hG30 rfl (n := 24) rfl (A := x8.toInt) rfl (by omega) (by omega) (fun M34 W33 => ?_)
      have hG35 := g_wf hG30 W33 rfl rfl (by decide)
      have F36 := FR.w F32 W33 (show 36 ≤ 38 ∧ 38 ≤ 38 by decide)
      refine s_inc (pc := 115) rw_2_115 (ls2 := fun v => [.ref 36, .ref p, .ref 11, .int c, .int w, .int x5, .int x6, .int x7, .int v, .int v15]) rfl rfl (fun _ => rfl) (A := x8.toInt) (B := 1) rfl rfl (by omega) (fun v37 e38 => to_go (pc := 118) rw_2_118 ?_)
      exact ih M34 x5 x6 x7 v37 (.int v15) hG35 F36 (by omega) (by omega) (by omega) (by omega) (by omega) (by omega) (by omega) (by omega) (by omega) (by omega)
set_option maxRecDepth 4000 in
set_option maxHeartbeats 0 in
theorem T_2_1 {X : mm_X} {d : Nat} {M : mm_M} {Q : Option Value → mm_M → Prop} {p : Nat} {c : Int32} {w : Int32} (hX : g_X X) (hd : 27 ≤ d) (hp : p = 49 ∨ p = 58) (q1 : 0 ≤ c.toInt) (q2 : c.toInt ≤ 30) (q3 : 0 ≤ w.toInt) (q4 : w.toInt ≤ 11) (h : ∀ (r : Int32) (M1 : mm_M), g_G M1 → FR md_b M M1 → Q (some (.int r)) M1) : ∀ nn9 : Nat, (∀ (N : mm_M) (x5 : Int32) (x6 : Int32) (x7 : Int32) (u8 : Value) (u9 : Value), g_G N → FR md_b M N → (0 ≤ x7.toInt) → (x7.toInt ≤ 30) → (0 ≤ c.toInt) → (c.toInt ≤ 30) → (0 ≤ x5.toInt) → (x5.toInt ≤ 7) → (0 ≤ w.toInt) → (w.toInt ≤ 11) → 30 - x7.toInt < (nn9 : Int) → mm_T X d 2 15 [.ref 36, .ref p, .ref 11, .int c, .int w, .int x5, .int x6, .int x7, u8, u9] [] N Q) := by
  intro nn9
  induction nn9 with
  | zero =>
    intro N x5 x6 x7 u8 u9 hG F0 g1 g2 g3 g4 g5 g6 g7 g8 hm
    exfalso; omega
  | succ nn9 ih =>
    intro N x5 x6 x7 u8 u9 hG F0 g1 g2 g3 g4 g5 g6 g7 g8 hm
    refine to_i (pc := 15) rw_2_15 rfl (to_in (pc := 17) rw_2_17 rfl (b_cge (pc := 18) rw_2_18 (A := x7.toInt) (B := c.toInt) rfl rfl (fun h39 => ?_) (fun h39 => ?_)))
    · refine to_an (pc := 47) rw_2_47 rfl (to_i (pc := 48) rw_2_48 rfl (s_v (pc := 50) rw_2_50 (dp0 hd (by decide)) (ls0 := [.ref p, .int x5]) rfl (Nat.le_of_ble_eq_true rfl) (Nat.le_of_ble_eq_true rfl) rfl (to_rc rfl rfl rfl (g_o hG (by rcases hp with rfl | rfl <;> rfl))) rfl (to_an (pc := 0) rw_47_0 rfl (s_gR (pc := 1) rw_47_1 hG (by rcases hp with rfl | rfl <;> rfl) (v := (p + 4)) (by rcases hp with rfl | rfl <;> rfl) (to_in (pc := 4) rw_47_4 rfl (s_ial (pc := 5) rw_47_5 hG (by rcases hp with rfl | rfl <;> rfl) (n := 8) (by rcases hp with rfl | rfl <;> rfl) (by rcases hp with rfl | rfl <;> rfl) (A := x5.toInt) rfl (by omega) (by omega) (lo := 0) (hi := 63) (by rcases hp with rfl | rfl <;> rfl) (by rcases hp with rfl | rfl <;> rfl) (fun v40 w_41 _ _ => to_an (pc := 6) rw_47_6 rfl (s_gR (pc := 7) rw_47_7 hG (by rcases hp with rfl | rfl <;> rfl) (v := (p + 3)) (by rcases hp with rfl | rfl <;> rfl) (to_in (pc := 10) rw_47_10 rfl (s_ial (pc := 11) rw_47_11 hG (by rcases hp with rfl | rfl <;> rfl) (n := 8) (by rcases hp with rfl | rfl <;> rfl) (by rcases hp with rfl | rfl <;> rfl) (A := x5.toInt) rfl (by omega) (by omega) (lo := 0) (hi := 59) (by rcases hp with rfl | rfl <;> rfl) (by rcases hp with rfl | rfl <;> rfl) (fun v42 w_43 _ _ => s_sub (pc := 12) rw_47_12 (A := v40.toInt) (B := v42.toInt) rfl rfl (by omega) (fun v44 e45 => ?_))))))))))))
      refine to_c (pc := 13) rw_47_13 (x := (1 : Int32)) rfl rfl (s_add (pc := 14) rw_47_14 (A := v44.toInt) (B := 1) rfl rfl (by omega) (fun v46 e47 => to_r0 (pc := 15) rw_47_15 (to_c (pc := 53) rw_2_53 (x := (24 : Int32)) rfl rfl (s_min (pc := 55) rw_2_55 rfl (A := v46.toInt) (B := 24) rfl rfl (fun v48 _ _ _ => to_is (pc := 58) rw_2_58 (ls2 := [.ref 36, .ref p, .ref 11, .int c, .int w, .int x5, .int x6, .int v48, u8, u9]) rfl rfl (to_c (pc := 60) rw_2_60 (x := (0 : Int32)) rfl rfl (to_is (pc := 61) rw_2_61 (ls2 := [.ref 36, .ref p, .ref 11, .int c, .int w, .int x5, .int x6, .int v48, .int (0 : Int32), u9]) rfl rfl ?_)))))))
      have k_49 : (0 : Int32).toInt = 0 := rfl
      exact (T_2_0 (p := p) (c := c) (w := w) hX hd hp q1 q2 q3 q4 h ((24 - (0 : Int32).toInt).toNat + 1)) N x5 x6 v48 (0 : Int32) (u9) hG F0 (by omega) (by omega) (by omega) (by omega) (by omega) (by omega) (by omega) (by omega) (by omega) (by omega)
    · refine to_an (pc := 21) rw_2_21 rfl (to_i (pc := 22) rw_2_22 rfl (to_i (pc := 24) rw_2_24 rfl (s_v (pc := 26) rw_2_26 (dp0 hd (by decide)) (ls0 := [.ref 11, .int x7, .int w]) rfl (Nat.le_of_ble_eq_true rfl) (Nat.le_of_ble_eq_true rfl) rfl (to_rc rfl rfl rfl (g_o hG rfl)) rfl (to_an (pc := 0) rw_13_0 rfl (s_gR (pc := 1) rw_13_1 hG rfl (v := 13) rfl (to_in (pc := 4) rw_13_4 rfl (s_ial (pc := 5) rw_13_5 hG rfl (n := 30) rfl rfl (A := x7.toInt) rfl (by omega) (by omega) (lo := -2147483648) (hi := 2147483647) rfl rfl (fun v50 w_51 _ _ => to_in (pc := 6) rw_13_6 rfl (s_any (pc := 7) rw_13_7 (fun _ _ => rfl) (fun v52 => to_c (pc := 8) rw_13_8 (x := (1 : Int32)) rfl rfl (s_and (pc := 9) rw_13_9 (B := 1) rfl (by omega) (fun v53 e54 _ _ => ?_))))))))))))
      refine b_ieq (pc := 10) rw_13_10 (A := v53.toInt) rfl (fun h55 => ?_) (fun h55 => ?_)
      · refine to_c (pc := 17) rw_13_17 (x := (0 : Int32)) rfl rfl (s_r1 (pc := 18) rw_13_18 (A := 0) rfl (by decide) (b_ine_f (pc := 29) rw_2_29 (A := 0) rfl (by decide) (to_i (pc := 32) rw_2_32 rfl (to_c (pc := 34) rw_2_34 (x := (1 : Int32)) rfl rfl (to_i (pc := 35) rw_2_35 rfl (s_any (pc := 37) rw_2_37 (fun _ _ => rfl) (fun v56 => s_any (pc := 38) rw_2_38 (fun _ _ => rfl) (fun v57 => to_is (pc := 39) rw_2_39 (ls2 := [.ref 36, .ref p, .ref 11, .int c, .int w, .int x5, .int v57, .int x7, u8, u9]) rfl rfl (s_inc (pc := 41) rw_2_41 (ls2 := fun v => [.ref 36, .ref p, .ref 11, .int c, .int w, .int x5, .int v57, .int v, u8, u9]) rfl rfl (fun _ => rfl) (A := x7.toInt) (B := 1) rfl rfl (by omega) (fun v58 e59 => to_go (pc := 44) rw_2_44 ?_))))))))))
        exact ih N x5 v57 v58 (u8) (u9) hG F0 (by omega) (by omega) (by omega) (by omega) (by omega) (by omega) (by omega) (by omega) (by omega)
      · refine to_c (pc := 13) rw_13_13 (x := (1 : Int32)) rfl rfl (to_go (pc := 14) rw_13_14 (s_r1 (pc := 18) rw_13_18 (A := 1) rfl (by decide) (b_ine_t (pc := 29) rw_2_29 (A := 1) rfl (by decide) (s_inc (pc := 41) rw_2_41 (ls2 := fun v => [.ref 36, .ref p, .ref 11, .int c, .int w, .int x5, .int x6, .int v, u8, u9]) rfl rfl (fun _ => rfl) (A := x7.toInt) (B := 1) rfl rfl (by omega) (fun v60 e61 => to_go (pc := 44) rw_2_44 ?_)))))
        exact ih N x5 x6 v60 (u8) (u9) hG F0 (by omega) (by omega) (by omega) (by omega) (by omega) (by omega) (by omega) (by omega) (by omega)
set_option maxRecDepth 4000 in
set_option maxHeartbeats 0 in
theorem C_2 {X : mm_X} {d : Nat} {M : mm_M} {Q : Option Value → mm_M → Prop} {p : Nat} {c : Int32} {w : Int32} (hX : g_X X) (hd : 27 ≤ d) (hG : g_G M) (hp : p = 49 ∨ p = 58) (q1 : 0 ≤ c.toInt) (q2 : c.toInt ≤ 30) (q3 : 0 ≤ w.toInt) (q4 : w.toInt ≤ 11) (h : ∀ (r : Int32) (M1 : mm_M), g_G M1 → FR md_b M M1 → Q (some (.int r)) M1) : mm_T X d 2 0 [.ref 36, .ref p, .ref 11, .int c, .int w, .null, .null, .null, .null, .null] [] M Q := by
  have F0 : FR md_b M M := FR.rf
  refine to_an (pc := 0) rw_2_0 rfl (s_gR (pc := 1) rw_2_1 hG (by rcases hp with rfl | rfl <;> rfl) (v := (p + 7)) (by rcases hp with rfl | rfl <;> rfl) (to_i (pc := 4) rw_2_4 rfl (s_ial (pc := 6) rw_2_6 hG (by rcases hp with rfl | rfl <;> rfl) (n := 12) (by rcases hp with rfl | rfl <;> rfl) (by rcases hp with rfl | rfl <;> rfl) (A := w.toInt) rfl (by omega) (by omega) (lo := 0) (hi := 7) (by rcases hp with rfl | rfl <;> rfl) (by rcases hp with rfl | rfl <;> rfl) (fun v62 w_63 _ _ => to_is (pc := 7) rw_2_7 (ls2 := [.ref 36, .ref p, .ref 11, .int c, .int w, .int v62, .null, .null, .null, .null]) rfl rfl (to_c (pc := 9) rw_2_9 (x := (0 : Int32)) rfl rfl (to_is (pc := 10) rw_2_10 (ls2 := [.ref 36, .ref p, .ref 11, .int c, .int w, .int v62, .int (0 : Int32), .null, .null, .null]) rfl rfl (to_c (pc := 12) rw_2_12 (x := (0 : Int32)) rfl rfl (to_is (pc := 13) rw_2_13 (ls2 := [.ref 36, .ref p, .ref 11, .int c, .int w, .int v62, .int (0 : Int32), .int (0 : Int32), .null, .null]) rfl rfl ?_))))))))
  have k_64 : (0 : Int32).toInt = 0 := rfl
  exact (T_2_1 (p := p) (c := c) (w := w) hX hd hp q1 q2 q3 q4 h ((30 - (0 : Int32).toInt).toNat + 1)) M v62 (0 : Int32) (0 : Int32) (.null) (.null) hG F0 (by omega) (by omega) (by omega) (by omega) (by omega) (by omega) (by omega) (by omega) (by omega)
noncomputable def RC_17 (k : Int) : Prop := ∀ (X : mm_X) (d : Nat) (M : mm_M) (Q : Option Value → mm_M → Prop) (f : Int32) (c : Int32) (x : Int64), g_X X → (13 - f.toInt ≤ (d : Int)) → g_G M → (0 ≤ f.toInt) → (f.toInt ≤ 12) → 12 - f.toInt < k → (∀ (M1 : mm_M), g_G M1 → FR md_m2 M M1 → Q (none) M1) → mm_T X d 17 0 [.ref 39, .int f, .int c, .long x, .null] [] M Q
set_option maxRecDepth 4000 in
set_option maxHeartbeats 0 in
theorem B_17 {X : mm_X} {d : Nat} {M : mm_M} {Q : Option Value → mm_M → Prop} {f : Int32} {c : Int32} {x : Int64} (hX : g_X X) (hd : 13 - f.toInt ≤ (d : Int)) (hG : g_G M) (q1 : 0 ≤ f.toInt) (q2 : f.toInt ≤ 12) (hr : RC_17 (12 - f.toInt)) (h : ∀ (M1 : mm_M), g_G M1 → FR md_m2 M M1 → Q (none) M1) : mm_T X d 17 0 [.ref 39, .int f, .int c, .long x, .null] [] M Q := by
  have F0 : FR md_m2 M M := FR.rf
  refine to_in (pc := 0) rw_17_0 rfl (to_an (pc := 1) rw_17_1 rfl ?_)
  have b_1 := g_b hG (a := 39) (i := 2) (lo := 0) (hi := 12) rfl rfl
  refine tt_gI (pc := 2) rw_17_2 (g_o hG rfl) (v := (M.2.1 39 2)) rfl (b_cge (pc := 5) rw_17_5 (A := f.toInt) (B := (M.2.1 39 2).toInt) rfl rfl (fun h2 => ?_) (fun h2 => ?_))
  · refine to_ln (pc := 49) rw_17_49 rfl rfl rfl (s_s (pc := 50) rw_17_50 (by omega) (ls0 := [.long x, .null]) rfl (Nat.le_of_ble_eq_true rfl) (Nat.le_of_ble_eq_true rfl) rfl (to_rcs rfl rfl) rfl (C_248 hX (by omega) hG (x := x) (fun r3 M6 hG5 F4 => ?_)))
    have F7 := FR.c F0 F4 tg_129
    refine to_an (pc := 53) rw_17_53 rfl ?_
    have c_8 : M6.2.1 39 3 = (M.2.1 39 3) := (F_n F4 (show ¬ (39 < 0) by decide) rfl)
    refine tt_gI (pc := 54) rw_17_54 (g_o hG5 rfl) (v := (M.2.1 39 3)) c_8 (b_cgt (pc := 57) rw_17_57 (A := r3.toInt) (B := (M.2.1 39 3).toInt) rfl rfl (fun h9 => ?_) (fun h9 => ?_))
    · refine to_rv (pc := 90) rw_17_90 ?_
      exact h M6 hG5 F7 
    · refine to_an (pc := 60) rw_17_60 rfl (to_dupr (pc := 61) rw_17_61 ?_)
      have c_10 : M6.2.1 39 6 = (M.2.1 39 6) := (F_n F4 (show ¬ (39 < 0) by decide) rfl)
      refine tt_gI (pc := 62) rw_17_62 (g_o hG5 rfl) (v := (M.2.1 39 6)) c_10 (to_c (pc := 65) rw_17_65 (x := (1 : Int32)) rfl rfl (s_any (pc := 66) rw_17_66 (fun _ _ => rfl) (fun v11 => s_pI (pc := 67) rw_17_67 hG5 rfl (fun M13 W12 => ?_))))
      have hG14 := g_wf hG5 W12 rfl rfl (by decide)
      have F15 := FR.w F7 W12 (show 39 = 39 ∧ 4 ≤ 6 by decide)
      refine to_an (pc := 70) rw_17_70 rfl (to_dupr (pc := 71) rw_17_71 ?_)
      have c_16 : M13.2.1 39 4 = (M.2.1 39 4) := (W_n W12 (by decide) (F_n F4 (show ¬ (39 < 0) by decide) rfl))
      refine tt_gI (pc := 72) rw_17_72 (g_o hG14 rfl) (v := (M.2.1 39 4)) c_16 (to_in (pc := 75) rw_17_75 rfl (s_any (pc := 76) rw_17_76 (fun _ _ => rfl) (fun v17 => s_pI (pc := 77) rw_17_77 hG14 rfl (fun M20 W19 => ?_))))
      have hG21 := g_wf hG14 W19 rfl rfl (by decide)
      have F22 := FR.w F15 W19 (show 39 = 39 ∧ 4 ≤ 4 by decide)
      refine to_an (pc := 80) rw_17_80 rfl (to_dupr (pc := 81) rw_17_81 ?_)
      have c_23 : M20.2.1 39 5 = (M.2.1 39 5) := (W_n W19 (by decide) (W_n W12 (by decide) (F_n F4 (show ¬ (39 < 0) by decide) rfl)))
      refine tt_gI (pc := 82) rw_17_82 (g_o hG21 rfl) (v := (M.2.1 39 5)) c_23 (to_in (pc := 85) rw_17_85 rfl (s_any (pc := 86) rw_17_86 (fun _ _ => rfl) (fun v24 => s_pI (pc := 87) rw_17_87 hG21 rfl (fun M26 W25 => ?_))))
      have hG27 := g_wf hG21 W25 rfl rfl (by decide)
      have F28 := FR.w F22 W25 (show 39 = 39 ∧ 4 ≤ 5 by decide)
      refine to_rv (pc := 90) rw_17_90 ?_
      exact h M26 hG27 F28 
  · refine to_an (pc := 8) rw_17_8 rfl (to_in (pc := 9) rw_17_9 rfl (to_c (pc := 10) rw_17_10 (x := (1 : Int32)) rfl rfl (s_add (pc := 11) rw_17_11 (A := f.toInt) (B := 1) rfl rfl (by omega) (fun v29 e30 => to_in (pc := 12) rw_17_12 rfl (to_ln (pc := 13) rw_17_13 rfl rfl rfl (s_v (pc := 14) rw_17_14 (by omega) (ls0 := [.ref 39, .int v29, .int c, .long x, .null]) rfl (Nat.le_of_ble_eq_true rfl) (Nat.le_of_ble_eq_true rfl) rfl (to_rc rfl rfl rfl (g_o hG rfl)) rfl (hr X _ _ _ v29 c x hX (by omega) hG (by omega) (by omega) (by omega) (fun M33 hG32 F31 => ?_))))))))
    have F34 := FR.c F0 F31 tg_130
    refine to_an (pc := 17) rw_17_17 rfl (to_in (pc := 18) rw_17_18 rfl (to_c (pc := 19) rw_17_19 (x := (1 : Int32)) rfl rfl (s_add (pc := 20) rw_17_20 (A := f.toInt) (B := 1) rfl rfl (by omega) (fun v35 e36 => to_in (pc := 21) rw_17_21 rfl (to_c (pc := 22) rw_17_22 (x := (1 : Int32)) rfl rfl (to_an (pc := 23) rw_17_23 rfl (s_gR (pc := 24) rw_17_24 hG32 rfl (v := 40) rfl (to_in (pc := 27) rw_17_27 rfl (s_ial (pc := 28) rw_17_28 hG32 rfl (n := 12) rfl rfl (A := f.toInt) rfl (by omega) (by omega) (lo := -2147483648) (hi := 2147483647) rfl rfl (fun v37 w_38 _ _ => s_any (pc := 29) rw_17_29 (fun _ _ => rfl) (fun v39 => s_any (pc := 30) rw_17_30 (fun _ _ => rfl) (fun v40 => ?_))))))))))))
    refine to_ln (pc := 31) rw_17_31 rfl rfl rfl (to_an (pc := 32) rw_17_32 rfl (s_gR (pc := 33) rw_17_33 hG32 rfl (v := 41) rfl (to_in (pc := 36) rw_17_36 rfl (s_lal (pc := 37) rw_17_37 hG32 rfl (n := 12) rfl (A := f.toInt) rfl (by omega) (by omega) (fun l41 => s_cl (pc := 38) rw_17_38 rfl (fun l42 => s_anyL (pc := 41) rw_17_41 (fun _ _ => rfl) (fun l43 => s_anyL (pc := 42) rw_17_42 (fun _ _ => rfl) (fun l44 => s_v (pc := 43) rw_17_43 (by omega) (ls0 := [.ref 39, .int v35, .int v40, .long l44, .null]) rfl (Nat.le_of_ble_eq_true rfl) (Nat.le_of_ble_eq_true rfl) rfl (to_rc rfl rfl rfl (g_o hG32 rfl)) rfl (hr X _ _ _ v35 v40 l44 hX (by omega) hG32 (by omega) (by omega) (by omega) (fun M47 hG46 F45 => ?_))))))))))
    have F48 := FR.c F34 F45 tg_130
    refine to_go (pc := 46) rw_17_46 (to_rv (pc := 90) rw_17_90 ?_)
    exact h M47 hG46 F48 
theorem RC_17_all : ∀ nn : Nat, RC_17 (nn : Int) := by
  intro nn
  induction nn with
  | zero =>
    intro X d M Q f c x hX hd hG q1 q2 hm h
    exfalso; omega
  | succ nn ih =>
    intro X d M Q f c x hX hd hG q1 q2 hm h
    exact B_17 hX hd hG q1 q2 (fun X2 d2 M2 Q2 f2 c2 x2 e71 e72 e73 q12 q22 hm2 h2 => ih X2 d2 M2 Q2 f2 c2 x2 e71 e72 e73 q12 q22 (by omega) h2) h
theorem C_17 {X : mm_X} {d : Nat} {M : mm_M} {Q : Option Value → mm_M → Prop} {f : Int32} {c : Int32} {x : Int64} (hX : g_X X) (hd : 13 - f.toInt ≤ (d : Int)) (hG : g_G M) (q1 : 0 ≤ f.toInt) (q2 : f.toInt ≤ 12) (h : ∀ (M1 : mm_M), g_G M1 → FR md_m2 M M1 → Q (none) M1) : mm_T X d 17 0 [.ref 39, .int f, .int c, .long x, .null] [] M Q := RC_17_all ((12 - f.toInt).toNat + 1) X d M Q f c x hX hd hG q1 q2 (by omega) h
set_option maxRecDepth 4000 in
set_option maxHeartbeats 0 in
theorem T_16_0 {X : mm_X} {d : Nat} {M : mm_M} {Q : Option Value → mm_M → Prop} {p : Nat} {c : Int32} {f : Int32} {t : Int32} (hX : g_X X) (hd : 14 ≤ d) (hp : p = 49 ∨ p = 58) (q1 : 0 ≤ c.toInt) (q2 : c.toInt ≤ 29) (q3 : 0 ≤ f.toInt) (q4 : f.toInt ≤ 7) (h : ∀ (M1 : mm_M), g_G M1 → FR md_m M M1 → Q (none) M1) : ∀ nn9 : Nat, (∀ (N : mm_M) (y6 : Int64) (x8 : Int32), g_G N → FR md_m M N → (0 ≤ x8.toInt) → (x8.toInt ≤ 12) → (0 ≤ c.toInt) → (c.toInt ≤ 29) → (0 ≤ f.toInt) → (f.toInt ≤ 7) → ((N.2.1 39 2).toInt ≤ x8.toInt) → 12 - x8.toInt < (nn9 : Int) → mm_T X d 16 23 [.ref 39, .ref p, .ref 11, .int c, .int f, .int t, .long y6, .null, .int x8] [] N Q) := by
  intro nn9
  induction nn9 with
  | zero =>
    intro N y6 x8 hG F0 g1 g2 g3 g4 g5 g6 g7 hm
    have b_1 := g_b hG (a := 39) (i := 2) (lo := 0) (hi := 12) rfl rfl
    exfalso; omega
  | succ nn9 ih =>
    intro N y6 x8 hG F0 g1 g2 g3 g4 g5 g6 g7 hm
    have b_2 := g_b hG (a := 39) (i := 2) (lo := 0) (hi := 12) rfl rfl
    refine to_i (pc := 23) rw_16_23 rfl (to_an (pc := 25) rw_16_25 rfl ?_)
    have b_3 := g_b hG (a := p) (i := 3) (lo := 0) (hi := 12) (by rcases hp with rfl | rfl <;> rfl) (by rcases hp with rfl | rfl <;> rfl)
    refine tt_gI (pc := 26) rw_16_26 (g_o hG (by rcases hp with rfl | rfl <;> rfl)) (v := (N.2.1 p 3)) rfl (b_cge (pc := 29) rw_16_29 (A := x8.toInt) (B := (N.2.1 p 3).toInt) rfl rfl (fun h4 => ?_) (fun h4 => ?_))
    · refine to_an (pc := 109) rw_16_109 rfl (to_i (pc := 110) rw_16_110 rfl (s_pI (pc := 112) rw_16_112 hG rfl (fun M6 W5 => ?_)))
      have hG7 := g_wf hG W5 rfl rfl (by decide)
      have F8 := FR.w F0 W5 (show 39 ≤ 39 ∧ 39 ≤ 41 by decide)
      refine to_an (pc := 115) rw_16_115 rfl (to_an (pc := 116) rw_16_116 rfl (to_i (pc := 117) rw_16_117 rfl (s_v (pc := 119) rw_16_119 (dp0 hd (by decide)) (ls0 := [.ref p, .int f, .null, .null]) rfl (Nat.le_of_ble_eq_true rfl) (Nat.le_of_ble_eq_true rfl) rfl (to_rc rfl rfl rfl (g_o hG7 (by rcases hp with rfl | rfl <;> rfl))) rfl (C_51 hX (dp1 hd (by decide)) hG7 hp (p := p) (f := f) (fun r9 M12 hG11 F10 => ?_)))))
      have F13 := FR.c F8 F10 tg_131
      refine s_pI (pc := 122) rw_16_122 hG11 rfl (fun M15 W14 => ?_)
      have hG16 := g_wf hG11 W14 rfl rfl (by decide)
      have F17 := FR.w F13 W14 (show 39 ≤ 39 ∧ 39 ≤ 41 by decide)
      refine to_an (pc := 125) rw_16_125 rfl (to_c (pc := 126) rw_16_126 (x := (0 : Int32)) rfl rfl (s_pI (pc := 127) rw_16_127 hG16 rfl (fun M19 W18 => ?_)))
      have hG20 := g_wf hG16 W18 rfl rfl (by decide)
      have F21 := FR.w F17 W18 (show 39 ≤ 39 ∧ 39 ≤ 41 by decide)
      refine to_an (pc := 130) rw_16_130 rfl (to_c (pc := 131) rw_16_131 (x := (0 : Int32)) rfl rfl (s_pI (pc := 132) rw_16_132 hG20 rfl (fun M23 W22 => ?_)))
      have hG24 := g_wf hG20 W22 rfl rfl (by decide)
      have F25 := FR.w F21 W22 (show 39 ≤ 39 ∧ 39 ≤ 41 by decide)
      refine to_an (pc := 135) rw_16_135 rfl (to_c (pc := 136) rw_16_136 (x := (0 : Int32)) rfl rfl (to_c (pc := 137) rw_16_137 (x := (0 : Int32)) rfl rfl (to_l (pc := 138) rw_16_138 rfl rfl rfl (s_v (pc := 140) rw_16_140 (dp0 hd (by decide)) (ls0 := [.ref 39, .int (0 : Int32), .int (0 : Int32), .long y6, .null]) rfl (Nat.le_of_ble_eq_true rfl) (Nat.le_of_ble_eq_true rfl) rfl (to_rc rfl rfl rfl (g_o hG24 rfl)) rfl ?_))))
      have k_26 : (0 : Int32).toInt = 0 := rfl
      refine C_17 hX (by omega) hG24 (by omega) (by omega) (f := (0 : Int32)) (c := (0 : Int32)) (x := y6) (fun M29 hG28 F27 => ?_)
      have F30 := FR.c F25 F27 tg_132
      refine to_an (pc := 143) rw_16_143 rfl (tt_gI (pc := 144) rw_16_144 (g_o hG28 rfl) (v := (M29.2.1 39 6)) rfl (b_ine (pc := 147) rw_16_147 (A := (M29.2.1 39 6).toInt) rfl (fun h31 => ?_) (fun h31 => ?_)))
      · refine to_rv (pc := 155) rw_16_155 ?_
        exact h M29 hG28 F30 
      · refine to_an (pc := 150) rw_16_150 rfl (to_c (pc := 151) rw_16_151 (x := (0 : Int32)) rfl rfl (s_pI (pc := 152) rw_16_152 hG28 rfl (fun M33 W32 => ?_)))
        have hG34 := g_wf hG28 W32 rfl rfl (by decide)
        have F35 := FR.w F30 W32 (show 39 ≤ 39 ∧ 39 ≤ 41 by decide)
        refine to_rv (pc := 155) rw_16_155 ?_
        exact h M33 hG34 F35 
    · refine to_i (pc := 32) rw_16_32 rfl (to_c (pc := 34) rw_16_34 (x := (12 : Int32)) rfl rfl (b_cge_f (pc := 36) rw_16_36 (A := x8.toInt) (B := 12) rfl rfl (by omega) (to_an (pc := 39) rw_16_39 rfl (s_gR (pc := 40) rw_16_40 hG (by rcases hp with rfl | rfl <;> rfl) (v := (p + 7)) (by rcases hp with rfl | rfl <;> rfl) (to_i (pc := 43) rw_16_43 rfl (s_ial (pc := 45) rw_16_45 hG (by rcases hp with rfl | rfl <;> rfl) (n := 12) (by rcases hp with rfl | rfl <;> rfl) (by rcases hp with rfl | rfl <;> rfl) (A := x8.toInt) rfl (by omega) (by omega) (lo := 0) (hi := 7) (by rcases hp with rfl | rfl <;> rfl) (by rcases hp with rfl | rfl <;> rfl) (fun v36 w_37 _ _ => to_i (pc := 46) rw_16_46 rfl (b_cne (pc := 48) rw_16_48 (A := v36.toInt) (B := f.toInt) rfl rfl (fun h38 => ?_) (fun h38 => ?_)))))))))
      · refine s_inc (pc := 103) rw_16_103 (ls2 := fun v => [.ref 39, .ref p, .ref 11, .int c, .int f, .int t, .long y6, .null, .int v]) rfl rfl (fun _ => rfl) (A := x8.toInt) (B := 1) rfl rfl (by omega) (fun v39 e40 => to_go (pc := 106) rw_16_106 ?_)
        exact ih N y6 v39 hG F0 (by omega) (by omega) (by omega) (by omega) (by omega) (by omega) (by omega) (by omega)
      · refine to_an (pc := 51) rw_16_51 rfl (to_in (pc := 52) rw_16_52 rfl (to_an (pc := 53) rw_16_53 rfl (s_gR (pc := 54) rw_16_54 hG rfl (v := 15) rfl (to_i (pc := 57) rw_16_57 rfl (s_lal (pc := 59) rw_16_59 hG rfl (n := 12) rfl (A := x8.toInt) rfl (by omega) (by omega) (fun l41 => s_v (pc := 60) rw_16_60 (dp0 hd (by decide)) (ls0 := [.ref 11, .int c, .long l41, .null]) rfl (Nat.le_of_ble_eq_true rfl) (Nat.le_of_ble_eq_true rfl) rfl (to_rc rfl rfl rfl (g_o hG rfl)) rfl (to_an (pc := 0) rw_14_0 rfl (s_gR (pc := 1) rw_14_1 hG rfl (v := 12) rfl (to_in (pc := 4) rw_14_4 rfl (s_lal (pc := 5) rw_14_5 hG rfl (n := 30) rfl (A := c.toInt) rfl (by omega) (by omega) (fun l42 => to_ln (pc := 6) rw_14_6 rfl rfl rfl ?_)))))))))))
        refine s_anyL (pc := 7) rw_14_7 (fun _ _ => rfl) (fun l43 => to_ln (pc := 8) rw_14_8 rfl rfl rfl (s_lcmp (pc := 9) rw_14_9 (fun v44 => b_ine (pc := 10) rw_14_10 (A := v44.toInt) rfl (fun h45 => ?_) (fun h45 => ?_))))
        · refine to_c (pc := 17) rw_14_17 (x := (0 : Int32)) rfl rfl (s_r1 (pc := 18) rw_14_18 (A := 0) rfl (by decide) (b_ieq_t (pc := 63) rw_16_63 (A := 0) rfl (by decide) (s_inc (pc := 103) rw_16_103 (ls2 := fun v => [.ref 39, .ref p, .ref 11, .int c, .int f, .int t, .long y6, .null, .int v]) rfl rfl (fun _ => rfl) (A := x8.toInt) (B := 1) rfl rfl (by omega) (fun v46 e47 => to_go (pc := 106) rw_16_106 ?_))))
          exact ih N y6 v46 hG F0 (by omega) (by omega) (by omega) (by omega) (by omega) (by omega) (by omega) (by omega)
        · refine to_c (pc := 13) rw_14_13 (x := (1 : Int32)) rfl rfl (to_go (pc := 14) rw_14_14 (s_r1 (pc := 18) rw_14_18 (A := 1) rfl (by decide) (b_ieq_f (pc := 63) rw_16_63 (A := 1) rfl (by decide) (to_an (pc := 66) rw_16_66 rfl (s_gR (pc := 67) rw_16_67 hG rfl (v := 40) rfl (to_an (pc := 70) rw_16_70 rfl (tt_gI (pc := 71) rw_16_71 (g_o hG rfl) (v := (N.2.1 39 2)) rfl (to_i (pc := 74) rw_16_74 rfl (s_ias (pc := 76) rw_16_76 hG rfl (n := 12) rfl (A := (N.2.1 39 2).toInt) rfl (by omega) (by omega) (fun M49 W48 => ?_))))))))))
          have hG50 := g_wf hG W48 rfl rfl (by decide)
          have F51 := FR.w F0 W48 (show 39 ≤ 40 ∧ 40 ≤ 41 by decide)
          refine to_an (pc := 77) rw_16_77 rfl (s_gR (pc := 78) rw_16_78 hG50 rfl (v := 41) rfl (to_an (pc := 81) rw_16_81 rfl ?_))
          have c_52 : M49.2.1 39 2 = (N.2.1 39 2) := (W_n W48 (fun z => absurd z.1 (by decide)) rfl)
          refine tt_gI (pc := 82) rw_16_82 (g_o hG50 rfl) (v := (N.2.1 39 2)) c_52 (to_an (pc := 85) rw_16_85 rfl (s_gR (pc := 86) rw_16_86 hG50 rfl (v := 15) rfl (to_i (pc := 89) rw_16_89 rfl (s_lal (pc := 91) rw_16_91 hG50 rfl (n := 12) rfl (A := x8.toInt) rfl (by omega) (by omega) (fun l53 => s_las (pc := 92) rw_16_92 hG50 rfl (n := 12) rfl (A := (N.2.1 39 2).toInt) rfl (by omega) (by omega) (fun M55 W54 => ?_))))))
          have hG56 := g_wl hG50 W54
          have F57 := FR.wl F51 W54 (show 39 ≤ 41 ∧ 41 ≤ 41 by decide)
          refine to_an (pc := 93) rw_16_93 rfl (to_dupr (pc := 94) rw_16_94 ?_)
          have c_58 : M55.2.1 39 2 = (N.2.1 39 2) := (W_l W54 c_52)
          refine tt_gI (pc := 95) rw_16_95 (g_o hG56 rfl) (v := (N.2.1 39 2)) c_58 (to_c (pc := 98) rw_16_98 (x := (1 : Int32)) rfl rfl (s_add (pc := 99) rw_16_99 (A := (N.2.1 39 2).toInt) (B := 1) rfl rfl (by omega) (fun v59 e60 => s_pI (pc := 100) rw_16_100 hG56 rfl (fun M62 W61 => ?_))))
          have hG63 := g_w hG56 W61 (A := v59.toInt) rfl (lo := 0) (hi := 12) rfl rfl (by omega) (by decide)
          have F64 := FR.w F57 W61 (show 39 ≤ 39 ∧ 39 ≤ 41 by decide)
          refine s_inc (pc := 103) rw_16_103 (ls2 := fun v => [.ref 39, .ref p, .ref 11, .int c, .int f, .int t, .long y6, .null, .int v]) rfl rfl (fun _ => rfl) (A := x8.toInt) (B := 1) rfl rfl (by omega) (fun v65 e66 => to_go (pc := 106) rw_16_106 ?_)
          have c_67 : M62.2.1 39 2 = v59 := (W_e W61)
          have t_68 : (M62.2.1 39 2).toInt = v59.toInt := congrArg Int32.toInt c_67
          exact ih M62 y6 v65 hG63 F64 (by omega) (by omega) (by omega) (by omega) (by omega) (by omega) (by omega) (by omega)
set_option maxRecDepth 4000 in
set_option maxHeartbeats 0 in
theorem C_16 {X : mm_X} {d : Nat} {M : mm_M} {Q : Option Value → mm_M → Prop} {p : Nat} {c : Int32} {f : Int32} {t : Int32} (hX : g_X X) (hd : 14 ≤ d) (hG : g_G M) (hp : p = 49 ∨ p = 58) (q1 : 0 ≤ c.toInt) (q2 : c.toInt ≤ 29) (q3 : 0 ≤ f.toInt) (q4 : f.toInt ≤ 7) (h : ∀ (M1 : mm_M), g_G M1 → FR md_m M M1 → Q (none) M1) : mm_T X d 16 0 [.ref 39, .ref p, .ref 11, .int c, .int f, .int t, .null, .null, .null] [] M Q := by
  have F0 : FR md_m M M := FR.rf
  refine to_an (pc := 0) rw_16_0 rfl (s_gR (pc := 1) rw_16_1 hG rfl (v := 12) rfl (to_in (pc := 4) rw_16_4 rfl (s_lal (pc := 5) rw_16_5 hG rfl (n := 30) rfl (A := c.toInt) rfl (by omega) (by omega) (fun l69 => to_an (pc := 6) rw_16_6 rfl (to_i (pc := 7) rw_16_7 rfl (s_v (pc := 9) rw_16_9 (dp0 hd (by decide)) (ls0 := [.ref p, .int f]) rfl (Nat.le_of_ble_eq_true rfl) (Nat.le_of_ble_eq_true rfl) rfl (to_rc rfl rfl rfl (g_o hG (by rcases hp with rfl | rfl <;> rfl))) rfl (to_an (pc := 0) rw_48_0 rfl (s_gR (pc := 1) rw_48_1 hG (by rcases hp with rfl | rfl <;> rfl) (v := (p + 3)) (by rcases hp with rfl | rfl <;> rfl) (to_in (pc := 4) rw_48_4 rfl (s_ial (pc := 5) rw_48_5 hG (by rcases hp with rfl | rfl <;> rfl) (n := 8) (by rcases hp with rfl | rfl <;> rfl) (by rcases hp with rfl | rfl <;> rfl) (A := f.toInt) rfl (by omega) (by omega) (lo := 0) (hi := 59) (by rcases hp with rfl | rfl <;> rfl) (by rcases hp with rfl | rfl <;> rfl) (fun v70 w_71 _ _ => to_an (pc := 6) rw_48_6 rfl ?_)))))))))))
  refine s_gR (pc := 7) rw_48_7 hG (by rcases hp with rfl | rfl <;> rfl) (v := (p + 4)) (by rcases hp with rfl | rfl <;> rfl) (to_in (pc := 10) rw_48_10 rfl (s_ial (pc := 11) rw_48_11 hG (by rcases hp with rfl | rfl <;> rfl) (n := 8) (by rcases hp with rfl | rfl <;> rfl) (by rcases hp with rfl | rfl <;> rfl) (A := f.toInt) rfl (by omega) (by omega) (lo := 0) (hi := 63) (by rcases hp with rfl | rfl <;> rfl) (by rcases hp with rfl | rfl <;> rfl) (fun v72 w_73 _ _ => s_s (pc := 12) rw_48_12 (dp1 hd (by decide)) (ls0 := [.int v70, .int v72]) rfl (Nat.le_of_ble_eq_true rfl) (Nat.le_of_ble_eq_true rfl) rfl (to_rcs rfl rfl) rfl (s_cl (pc := 0) rw_144_0 rfl (fun l74 => to_in (pc := 1) rw_144_1 rfl (to_in (pc := 2) rw_144_2 rfl (s_sub (pc := 3) rw_144_3 (A := v72.toInt) (B := v70.toInt) rfl rfl (by omega) (fun v75 e76 => to_c (pc := 4) rw_144_4 (x := (1 : Int32)) rfl rfl (s_add (pc := 5) rw_144_5 (A := v75.toInt) (B := 1) rfl rfl (by omega) (fun v77 e78 => s_anyS (pc := 6) rw_144_6 (fun _ _ => rfl) (fun l79 => s_cl (pc := 7) rw_144_7 rfl (fun l80 => ?_))))))))))))
  refine s_anyL (pc := 8) rw_144_8 (fun _ _ => rfl) (fun l81 => to_in (pc := 9) rw_144_9 rfl (s_anyS (pc := 10) rw_144_10 (fun _ _ => rfl) (fun l82 => to_rl (pc := 11) rw_144_11 (to_rl (pc := 15) rw_48_15 (s_anyL (pc := 12) rw_16_12 (fun _ _ => rfl) (fun l83 => to_ls (pc := 13) rw_16_13 (ls2 := [.ref 39, .ref p, .ref 11, .int c, .int f, .int t, .long l83, .null, .null]) rfl rfl (to_an (pc := 15) rw_16_15 rfl (to_c (pc := 16) rw_16_16 (x := (0 : Int32)) rfl rfl (s_pI (pc := 17) rw_16_17 hG rfl (fun M85 W84 => ?_))))))))))
  have hG86 := g_w hG W84 (A := 0) rfl (lo := 0) (hi := 12) rfl rfl (by omega) (by decide)
  have F87 := FR.w F0 W84 (show 39 ≤ 39 ∧ 39 ≤ 41 by decide)
  refine to_c (pc := 20) rw_16_20 (x := (0 : Int32)) rfl rfl (to_is (pc := 21) rw_16_21 (ls2 := [.ref 39, .ref p, .ref 11, .int c, .int f, .int t, .long l83, .null, .int (0 : Int32)]) rfl rfl ?_)
  have k_88 : (0 : Int32).toInt = 0 := rfl
  have c_89 : M85.2.1 39 2 = (0 : Int32) := (W_e W84)
  have t_90 : (M85.2.1 39 2).toInt = (0 : Int32).toInt := congrArg Int32.toInt c_89
  exact (T_16_0 (p := p) (c := c) (f := f) (t := t) hX hd hp q1 q2 q3 q4 h ((12 - (0 : Int32).toInt).toNat + 1)) M85 l83 (0 : Int32) hG86 F87 (by omega) (by omega) (by omega) (by omega) (by omega) (by omega) (by omega) (by omega)
set_option maxRecDepth 4000 in
set_option maxHeartbeats 0 in
theorem T_18_0 {X : mm_X} {d : Nat} {M : mm_M} {Q : Option Value → mm_M → Prop} {p : Nat} {c : Int32} {f : Int32} {t : Int32} (hX : g_X X) (hd : 3 ≤ d) (hp : p = 49 ∨ p = 58) (q1 : 0 ≤ c.toInt) (q2 : c.toInt ≤ 29) (q3 : 0 ≤ f.toInt) (q4 : f.toInt ≤ 7) (h : ∀ (M1 : mm_M), g_G M1 → FR md_m M M1 → Q (none) M1) : ∀ nn9 : Nat, (∀ (N : mm_M) (u2 : Value) (u3 : Value) (y6 : Int64) (x8 : Int32) (u9 : Value) (u10 : Value), g_G N → FR md_m M N → (0 ≤ x8.toInt) → (x8.toInt ≤ 24) → (0 ≤ f.toInt) → (f.toInt ≤ 7) → 24 - x8.toInt < (nn9 : Int) → mm_T X d 18 33 [.ref 39, .ref p, u2, u3, .int f, .int t, .long y6, .null, .int x8, u9, u10] [] N Q) := by
  intro nn9
  induction nn9 with
  | zero =>
    intro N u2 u3 y6 x8 u9 u10 hG F0 g1 g2 g3 g4 hm
    exfalso; omega
  | succ nn9 ih =>
    intro N u2 u3 y6 x8 u9 u10 hG F0 g1 g2 g3 g4 hm
    refine to_i (pc := 33) rw_18_33 rfl (to_an (pc := 35) rw_18_35 rfl (s_gR (pc := 36) rw_18_36 hG (by rcases hp with rfl | rfl <;> rfl) (v := (p + 5)) (by rcases hp with rfl | rfl <;> rfl) (to_i (pc := 39) rw_18_39 rfl (s_ial (pc := 41) rw_18_41 hG (by rcases hp with rfl | rfl <;> rfl) (n := 8) (by rcases hp with rfl | rfl <;> rfl) (by rcases hp with rfl | rfl <;> rfl) (A := f.toInt) rfl (by omega) (by omega) (lo := 0) (hi := 24) (by rcases hp with rfl | rfl <;> rfl) (by rcases hp with rfl | rfl <;> rfl) (fun v1 w_2 _ _ => b_cge (pc := 42) rw_18_42 (A := x8.toInt) (B := v1.toInt) rfl rfl (fun h3 => ?_) (fun h3 => ?_))))))
    · refine to_rv (pc := 130) rw_18_130 ?_
      exact h N hG F0 
    · refine to_an (pc := 45) rw_18_45 rfl (to_i (pc := 46) rw_18_46 rfl (to_i (pc := 48) rw_18_48 rfl (s_v (pc := 50) rw_18_50 (dp0 hd (by decide)) (ls0 := [.ref p, .int f, .int x8, .null, .null]) rfl (Nat.le_of_ble_eq_true rfl) (Nat.le_of_ble_eq_true rfl) rfl (to_rc rfl rfl rfl (g_o hG (by rcases hp with rfl | rfl <;> rfl))) rfl (C_49 hX (dp1 hd (by decide)) hG hp (p := p) (f := f) (v := x8) (fun r4 M7 hG6 F5 => ?_)))))
      have F8 := FR.c F0 F5 tg_131
      refine to_ls (pc := 53) rw_18_53 (ls2 := [.ref 39, .ref p, u2, u3, .int f, .int t, .long y6, .null, .int x8, .long r4, .null]) rfl rfl (to_l (pc := 55) rw_18_55 rfl rfl rfl (to_l (pc := 57) rw_18_57 rfl rfl rfl (s_anyL (pc := 59) rw_18_59 (fun _ _ => rfl) (fun l9 => to_l (pc := 60) rw_18_60 rfl rfl rfl (s_lcmp (pc := 62) rw_18_62 (fun v10 => b_ine (pc := 63) rw_18_63 (A := v10.toInt) rfl (fun h11 => ?_) (fun h11 => ?_)))))))
      · refine s_inc (pc := 124) rw_18_124 (ls2 := fun v => [.ref 39, .ref p, u2, u3, .int f, .int t, .long y6, .null, .int v, .long r4, .null]) rfl rfl (fun _ => rfl) (A := x8.toInt) (B := 1) rfl rfl (by omega) (fun v12 e13 => to_go (pc := 127) rw_18_127 ?_)
        exact ih M7 (u2) (u3) y6 v12 (.long r4) (.null) hG6 F8 (by omega) (by omega) (by omega) (by omega) (by omega)
      · refine to_l (pc := 66) rw_18_66 rfl rfl rfl (to_l (pc := 68) rw_18_68 rfl rfl rfl (s_cl (pc := 70) rw_18_70 rfl (fun l14 => s_anyL (pc := 73) rw_18_73 (fun _ _ => rfl) (fun l15 => s_anyL (pc := 74) rw_18_74 (fun _ _ => rfl) (fun l16 => s_s (pc := 75) rw_18_75 (dp0 hd (by decide)) (ls0 := [.long l16, .null]) rfl (Nat.le_of_ble_eq_true rfl) (Nat.le_of_ble_eq_true rfl) rfl (to_rcs rfl rfl) rfl (C_248 hX (dp1 hd (by decide)) hG6 (x := l16) (fun r17 M20 hG19 F18 => ?_)))))))
        have F21 := FR.c F8 F18 tg_131
        refine to_i (pc := 78) rw_18_78 rfl (b_cgt (pc := 80) rw_18_80 (A := r17.toInt) (B := t.toInt) rfl rfl (fun h22 => ?_) (fun h22 => ?_))
        · refine s_inc (pc := 124) rw_18_124 (ls2 := fun v => [.ref 39, .ref p, u2, u3, .int f, .int t, .long y6, .null, .int v, .long r4, .null]) rfl rfl (fun _ => rfl) (A := x8.toInt) (B := 1) rfl rfl (by omega) (fun v23 e24 => to_go (pc := 127) rw_18_127 ?_)
          exact ih M20 (u2) (u3) y6 v23 (.long r4) (.null) hG19 F21 (by omega) (by omega) (by omega) (by omega) (by omega)
        · refine to_an (pc := 83) rw_18_83 rfl (to_dupr (pc := 84) rw_18_84 ?_)
          have c_25 : M20.2.1 39 6 = (N.2.1 39 6) := (F_n F18 (show ¬ (39 < 0) by decide) (F_n F5 (show ¬ (39 < 0) by decide) rfl))
          refine tt_gI (pc := 85) rw_18_85 (g_o hG19 rfl) (v := (N.2.1 39 6)) c_25 (to_c (pc := 88) rw_18_88 (x := (1 : Int32)) rfl rfl (s_any (pc := 89) rw_18_89 (fun _ _ => rfl) (fun v26 => s_pI (pc := 90) rw_18_90 hG19 rfl (fun M28 W27 => ?_))))
          have hG29 := g_wf hG19 W27 rfl rfl (by decide)
          have F30 := FR.w F21 W27 (show 39 ≤ 39 ∧ 39 ≤ 41 by decide)
          refine to_an (pc := 93) rw_18_93 rfl (to_an (pc := 94) rw_18_94 rfl ?_)
          have c_31 : M28.2.1 39 6 = v26 := (W_e W27)
          refine tt_gI (pc := 95) rw_18_95 (g_o hG29 rfl) (v := v26) c_31 (to_c (pc := 98) rw_18_98 (x := (1 : Int32)) rfl rfl (b_cne (pc := 99) rw_18_99 (A := v26.toInt) (B := 1) rfl rfl (fun h32 => ?_) (fun h32 => ?_)))
          · refine to_c (pc := 107) rw_18_107 (x := (-1 : Int32)) rfl rfl (s_pI (pc := 108) rw_18_108 hG29 rfl (fun M34 W33 => ?_))
            have hG35 := g_wf hG29 W33 rfl rfl (by decide)
            have F36 := FR.w F30 W33 (show 39 ≤ 39 ∧ 39 ≤ 41 by decide)
            refine to_an (pc := 111) rw_18_111 rfl (to_dupr (pc := 112) rw_18_112 ?_)
            have c_37 : M34.2.1 39 5 = (N.2.1 39 5) := (W_n W33 (by decide) (W_n W27 (by decide) (F_n F18 (show ¬ (39 < 0) by decide) (F_n F5 (show ¬ (39 < 0) by decide) rfl))))
            refine tt_gI (pc := 113) rw_18_113 (g_o hG35 rfl) (v := (N.2.1 39 5)) c_37 (to_c (pc := 116) rw_18_116 (x := (1 : Int32)) rfl rfl (to_i (pc := 117) rw_18_117 rfl (s_any (pc := 119) rw_18_119 (fun _ _ => rfl) (fun v38 => s_any (pc := 120) rw_18_120 (fun _ _ => rfl) (fun v39 => s_pI (pc := 121) rw_18_121 hG35 rfl (fun M41 W40 => ?_))))))
            have hG42 := g_wf hG35 W40 rfl rfl (by decide)
            have F43 := FR.w F36 W40 (show 39 ≤ 39 ∧ 39 ≤ 41 by decide)
            refine s_inc (pc := 124) rw_18_124 (ls2 := fun v => [.ref 39, .ref p, u2, u3, .int f, .int t, .long y6, .null, .int v, .long r4, .null]) rfl rfl (fun _ => rfl) (A := x8.toInt) (B := 1) rfl rfl (by omega) (fun v44 e45 => to_go (pc := 127) rw_18_127 ?_)
            exact ih M41 (u2) (u3) y6 v44 (.long r4) (.null) hG42 F43 (by omega) (by omega) (by omega) (by omega) (by omega)
          · refine to_i (pc := 102) rw_18_102 rfl (to_go (pc := 104) rw_18_104 (s_pI (pc := 108) rw_18_108 hG29 rfl (fun M47 W46 => ?_)))
            have hG48 := g_wf hG29 W46 rfl rfl (by decide)
            have F49 := FR.w F30 W46 (show 39 ≤ 39 ∧ 39 ≤ 41 by decide)
            refine to_an (pc := 111) rw_18_111 rfl (to_dupr (pc := 112) rw_18_112 ?_)
            have c_50 : M47.2.1 39 5 = (N.2.1 39 5) := (W_n W46 (by decide) (W_n W27 (by decide) (F_n F18 (show ¬ (39 < 0) by decide) (F_n F5 (show ¬ (39 < 0) by decide) rfl))))
            refine tt_gI (pc := 113) rw_18_113 (g_o hG48 rfl) (v := (N.2.1 39 5)) c_50 (to_c (pc := 116) rw_18_116 (x := (1 : Int32)) rfl rfl (to_i (pc := 117) rw_18_117 rfl (s_any (pc := 119) rw_18_119 (fun _ _ => rfl) (fun v51 => s_any (pc := 120) rw_18_120 (fun _ _ => rfl) (fun v52 => s_pI (pc := 121) rw_18_121 hG48 rfl (fun M54 W53 => ?_))))))
            have hG55 := g_wf hG48 W53 rfl rfl (by decide)
            have F56 := FR.w F49 W53 (show 39 ≤ 39 ∧ 39 ≤ 41 by decide)
            refine s_inc (pc := 124) rw_18_124 (ls2 := fun v => [.ref 39, .ref p, u2, u3, .int f, .int t, .long y6, .null, .int v, .long r4, .null]) rfl rfl (fun _ => rfl) (A := x8.toInt) (B := 1) rfl rfl (by omega) (fun v57 e58 => to_go (pc := 127) rw_18_127 ?_)
            exact ih M54 (u2) (u3) y6 v57 (.long r4) (.null) hG55 F56 (by omega) (by omega) (by omega) (by omega) (by omega)
set_option maxRecDepth 4000 in
set_option maxHeartbeats 0 in
theorem C_18 {X : mm_X} {d : Nat} {M : mm_M} {Q : Option Value → mm_M → Prop} {p : Nat} {c : Int32} {f : Int32} {t : Int32} (hX : g_X X) (hd : 3 ≤ d) (hG : g_G M) (hp : p = 49 ∨ p = 58) (q1 : 0 ≤ c.toInt) (q2 : c.toInt ≤ 29) (q3 : 0 ≤ f.toInt) (q4 : f.toInt ≤ 7) (h : ∀ (M1 : mm_M), g_G M1 → FR md_m M M1 → Q (none) M1) : mm_T X d 18 0 [.ref 39, .ref p, .ref 11, .int c, .int f, .int t, .null, .null, .null, .null, .null] [] M Q := by
  have F0 : FR md_m M M := FR.rf
  refine to_an (pc := 0) rw_18_0 rfl (s_gR (pc := 1) rw_18_1 hG rfl (v := 12) rfl (to_in (pc := 4) rw_18_4 rfl (s_lal (pc := 5) rw_18_5 hG rfl (n := 30) rfl (A := c.toInt) rfl (by omega) (by omega) (fun l59 => to_an (pc := 6) rw_18_6 rfl (to_i (pc := 7) rw_18_7 rfl (s_v (pc := 9) rw_18_9 (dp0 hd (by decide)) (ls0 := [.ref p, .int f]) rfl (Nat.le_of_ble_eq_true rfl) (Nat.le_of_ble_eq_true rfl) rfl (to_rc rfl rfl rfl (g_o hG (by rcases hp with rfl | rfl <;> rfl))) rfl (to_an (pc := 0) rw_48_0 rfl (s_gR (pc := 1) rw_48_1 hG (by rcases hp with rfl | rfl <;> rfl) (v := (p + 3)) (by rcases hp with rfl | rfl <;> rfl) (to_in (pc := 4) rw_48_4 rfl (s_ial (pc := 5) rw_48_5 hG (by rcases hp with rfl | rfl <;> rfl) (n := 8) (by rcases hp with rfl | rfl <;> rfl) (by rcases hp with rfl | rfl <;> rfl) (A := f.toInt) rfl (by omega) (by omega) (lo := 0) (hi := 59) (by rcases hp with rfl | rfl <;> rfl) (by rcases hp with rfl | rfl <;> rfl) (fun v60 w_61 _ _ => to_an (pc := 6) rw_48_6 rfl ?_)))))))))))
  refine s_gR (pc := 7) rw_48_7 hG (by rcases hp with rfl | rfl <;> rfl) (v := (p + 4)) (by rcases hp with rfl | rfl <;> rfl) (to_in (pc := 10) rw_48_10 rfl (s_ial (pc := 11) rw_48_11 hG (by rcases hp with rfl | rfl <;> rfl) (n := 8) (by rcases hp with rfl | rfl <;> rfl) (by rcases hp with rfl | rfl <;> rfl) (A := f.toInt) rfl (by omega) (by omega) (lo := 0) (hi := 63) (by rcases hp with rfl | rfl <;> rfl) (by rcases hp with rfl | rfl <;> rfl) (fun v62 w_63 _ _ => s_s (pc := 12) rw_48_12 (dp1 hd (by decide)) (ls0 := [.int v60, .int v62]) rfl (Nat.le_of_ble_eq_true rfl) (Nat.le_of_ble_eq_true rfl) rfl (to_rcs rfl rfl) rfl (s_cl (pc := 0) rw_144_0 rfl (fun l64 => to_in (pc := 1) rw_144_1 rfl (to_in (pc := 2) rw_144_2 rfl (s_sub (pc := 3) rw_144_3 (A := v62.toInt) (B := v60.toInt) rfl rfl (by omega) (fun v65 e66 => to_c (pc := 4) rw_144_4 (x := (1 : Int32)) rfl rfl (s_add (pc := 5) rw_144_5 (A := v65.toInt) (B := 1) rfl rfl (by omega) (fun v67 e68 => s_anyS (pc := 6) rw_144_6 (fun _ _ => rfl) (fun l69 => s_cl (pc := 7) rw_144_7 rfl (fun l70 => ?_))))))))))))
  refine s_anyL (pc := 8) rw_144_8 (fun _ _ => rfl) (fun l71 => to_in (pc := 9) rw_144_9 rfl (s_anyS (pc := 10) rw_144_10 (fun _ _ => rfl) (fun l72 => to_rl (pc := 11) rw_144_11 (to_rl (pc := 15) rw_48_15 (s_anyL (pc := 12) rw_18_12 (fun _ _ => rfl) (fun l73 => to_ls (pc := 13) rw_18_13 (ls2 := [.ref 39, .ref p, .ref 11, .int c, .int f, .int t, .long l73, .null, .null, .null, .null]) rfl rfl (to_an (pc := 15) rw_18_15 rfl (to_c (pc := 16) rw_18_16 (x := (-1 : Int32)) rfl rfl (s_pI (pc := 17) rw_18_17 hG rfl (fun M75 W74 => ?_))))))))))
  have hG76 := g_wf hG W74 rfl rfl (by decide)
  have F77 := FR.w F0 W74 (show 39 ≤ 39 ∧ 39 ≤ 41 by decide)
  refine to_an (pc := 20) rw_18_20 rfl (to_c (pc := 21) rw_18_21 (x := (0 : Int32)) rfl rfl (s_pI (pc := 22) rw_18_22 hG76 rfl (fun M79 W78 => ?_)))
  have hG80 := g_wf hG76 W78 rfl rfl (by decide)
  have F81 := FR.w F77 W78 (show 39 ≤ 39 ∧ 39 ≤ 41 by decide)
  refine to_an (pc := 25) rw_18_25 rfl (to_c (pc := 26) rw_18_26 (x := (0 : Int32)) rfl rfl (s_pI (pc := 27) rw_18_27 hG80 rfl (fun M83 W82 => ?_)))
  have hG84 := g_wf hG80 W82 rfl rfl (by decide)
  have F85 := FR.w F81 W82 (show 39 ≤ 39 ∧ 39 ≤ 41 by decide)
  refine to_c (pc := 30) rw_18_30 (x := (0 : Int32)) rfl rfl (to_is (pc := 31) rw_18_31 (ls2 := [.ref 39, .ref p, .ref 11, .int c, .int f, .int t, .long l73, .null, .int (0 : Int32), .null, .null]) rfl rfl ?_)
  have k_86 : (0 : Int32).toInt = 0 := rfl
  exact (T_18_0 (p := p) (c := c) (f := f) (t := t) hX hd hp q1 q2 q3 q4 h ((24 - (0 : Int32).toInt).toNat + 1)) M83 (.ref 11) (.int c) l73 (0 : Int32) (.null) (.null) hG84 F85 (by omega) (by omega) (by omega) (by omega) (by omega)
