theorem tg_64 {M M1 : mm_M} (F : FR (fun a i : Nat => a = 77 ∧ (i = 4 ∨ i = 5 ∨ 7 ≤ i ∧ i ≤ 10 ∨ i = 16) ∨ 85 ≤ a ∧ a ≤ 87 ∧ 12 ≤ i) M M1) : ∀ a i : Nat, a = 78 → M1.2.1 a i = M.2.1 a i := fun a i z => F_n F (show ¬ (a = 77 ∧ (i = 4 ∨ i = 5 ∨ 7 ≤ i ∧ i ≤ 10 ∨ i = 16) ∨ 85 ≤ a ∧ a ≤ 87 ∧ 12 ≤ i) by omega) rfl
theorem tg_65 {M M1 : mm_M} (F : FR (fun a i : Nat => a = 77 ∧ (i = 4 ∨ i = 5 ∨ 7 ≤ i ∧ i ≤ 10 ∨ i = 16) ∨ 85 ≤ a ∧ a ≤ 87 ∧ 12 ≤ i) M M1) : ∀ a i : Nat, a = 79 → M1.2.1 a i = M.2.1 a i := fun a i z => F_n F (show ¬ (a = 77 ∧ (i = 4 ∨ i = 5 ∨ 7 ≤ i ∧ i ≤ 10 ∨ i = 16) ∨ 85 ≤ a ∧ a ≤ 87 ∧ 12 ≤ i) by omega) rfl
theorem tg_66 {M M1 : mm_M} (F : FR (fun a i : Nat => a = 77 ∧ (i = 4 ∨ i = 5 ∨ 7 ≤ i ∧ i ≤ 10 ∨ i = 15 ∨ i = 25) ∨ 80 ≤ a ∧ a ≤ 84 ∧ 8 ≤ i) M M1) : ∀ a i : Nat, a = 78 → M1.2.1 a i = M.2.1 a i := fun a i z => F_n F (show ¬ (a = 77 ∧ (i = 4 ∨ i = 5 ∨ 7 ≤ i ∧ i ≤ 10 ∨ i = 15 ∨ i = 25) ∨ 80 ≤ a ∧ a ≤ 84 ∧ 8 ≤ i) by omega) rfl
theorem tg_67 {M M1 : mm_M} (F : FR (fun a i : Nat => a = 77 ∧ (i = 4 ∨ i = 5 ∨ 7 ≤ i ∧ i ≤ 10 ∨ i = 15 ∨ i = 25) ∨ 80 ≤ a ∧ a ≤ 84 ∧ 8 ≤ i) M M1) : ∀ a i : Nat, a = 79 → M1.2.1 a i = M.2.1 a i := fun a i z => F_n F (show ¬ (a = 77 ∧ (i = 4 ∨ i = 5 ∨ 7 ≤ i ∧ i ≤ 10 ∨ i = 15 ∨ i = 25) ∨ 80 ≤ a ∧ a ≤ 84 ∧ 8 ≤ i) by omega) rfl
theorem tg_68 {M M1 : mm_M} {s : x_S} (F : FR (fun a i : Nat => a = 77 ∧ (i = 4 ∨ i = 5 ∨ 7 ≤ i ∧ i ≤ 10)) M M1) : ∀ a i : Nat, (a = 77 ∧ 14 ≤ i ∧ i ≤ 16 ∨ 80 ≤ a ∧ a ≤ 84 ∧ 8 ≤ i ∧ (i : Int) < s.2.1 + 8 ∨ 85 ≤ a ∧ a ≤ 86 ∧ 12 ≤ i ∧ (i : Int) < s.2.2.1 + 12) → M1.2.1 a i = M.2.1 a i := fun a i z => F_n F (show ¬ (a = 77 ∧ (i = 4 ∨ i = 5 ∨ 7 ≤ i ∧ i ≤ 10)) by omega) rfl
theorem tg_69 {M M1 : mm_M} (F : FR (fun a i : Nat => a = 77 ∧ (i = 4 ∨ i = 5 ∨ 7 ≤ i ∧ i ≤ 10 ∨ 14 ≤ i ∧ i ≤ 16 ∨ i = 25) ∨ 80 ≤ a ∧ a ≤ 84 ∧ 8 ≤ i ∨ 85 ≤ a ∧ a ≤ 87 ∧ 12 ≤ i) M M1) : ∀ a i : Nat, a = 78 → M1.2.1 a i = M.2.1 a i := fun a i z => F_n F (show ¬ (a = 77 ∧ (i = 4 ∨ i = 5 ∨ 7 ≤ i ∧ i ≤ 10 ∨ 14 ≤ i ∧ i ≤ 16 ∨ i = 25) ∨ 80 ≤ a ∧ a ≤ 84 ∧ 8 ≤ i ∨ 85 ≤ a ∧ a ≤ 87 ∧ 12 ≤ i) by omega) rfl
theorem tg_70 {M M1 : mm_M} (F : FR (fun a i : Nat => a = 77 ∧ (i = 4 ∨ i = 5 ∨ 7 ≤ i ∧ i ≤ 10 ∨ 14 ≤ i ∧ i ≤ 16 ∨ i = 25) ∨ 80 ≤ a ∧ a ≤ 84 ∧ 8 ≤ i ∨ 85 ≤ a ∧ a ≤ 87 ∧ 12 ≤ i) M M1) : ∀ a i : Nat, a = 79 → M1.2.1 a i = M.2.1 a i := fun a i z => F_n F (show ¬ (a = 77 ∧ (i = 4 ∨ i = 5 ∨ 7 ≤ i ∧ i ≤ 10 ∨ 14 ≤ i ∧ i ≤ 16 ∨ i = 25) ∨ 80 ≤ a ∧ a ≤ 84 ∧ 8 ≤ i ∨ 85 ≤ a ∧ a ≤ 87 ∧ 12 ≤ i) by omega) rfl
theorem tg_71 {M M1 : mm_M} (F : FR (fun a i : Nat => a = 77 ∧ (14 ≤ i ∧ i ≤ 16 ∨ i = 25)) M M1) : ∀ a i : Nat, (a = 77 ∧ 6 ≤ i ∧ i ≤ 10) → M1.2.1 a i = M.2.1 a i := fun a i z => F_n F (show ¬ (a = 77 ∧ (14 ≤ i ∧ i ≤ 16 ∨ i = 25)) by omega) rfl
theorem tg_72 {M M1 : mm_M} (F : FR (fun a i : Nat => a = 77 ∧ (14 ≤ i ∧ i ≤ 16 ∨ i = 25)) M M1) : ∀ a i : Nat, a = 78 → M1.2.1 a i = M.2.1 a i := fun a i z => F_n F (show ¬ (a = 77 ∧ (14 ≤ i ∧ i ≤ 16 ∨ i = 25)) by omega) rfl
theorem tg_73 {M M1 : mm_M} (F : FR (fun a i : Nat => a = 77 ∧ (i = 1 ∨ 4 ≤ i ∧ i ≤ 10)) M M1) : ∀ a i : Nat, a = 78 → M1.2.1 a i = M.2.1 a i := fun a i z => F_n F (show ¬ (a = 77 ∧ (i = 1 ∨ 4 ≤ i ∧ i ≤ 10)) by omega) rfl
theorem tg_74 {M M1 : mm_M} (F : FR (fun a i : Nat => a = 77 ∧ (14 ≤ i ∧ i ≤ 16 ∨ i = 25)) M M1) : ∀ a i : Nat, a = 79 → M1.2.1 a i = M.2.1 a i := fun a i z => F_n F (show ¬ (a = 77 ∧ (14 ≤ i ∧ i ≤ 16 ∨ i = 25)) by omega) rfl
theorem tg_75 {M M1 : mm_M} (F : FR (fun a i : Nat => a = 77 ∧ (i = 1 ∨ 4 ≤ i ∧ i ≤ 10)) M M1) : ∀ a i : Nat, a = 79 → M1.2.1 a i = M.2.1 a i := fun a i z => F_n F (show ¬ (a = 77 ∧ (i = 1 ∨ 4 ≤ i ∧ i ≤ 10)) by omega) rfl
theorem tg_76 : ∀ a i : Nat, (a = 77 ∧ (i = 4 ∨ i = 5 ∨ 7 ≤ i ∧ i ≤ 10 ∨ i = 16) ∨ 85 ≤ a ∧ a ≤ 87 ∧ 12 ≤ i) → (a = 77 ∧ (i = 4 ∨ i = 5 ∨ 7 ≤ i ∧ i ≤ 10 ∨ 14 ≤ i ∧ i ≤ 16 ∨ i = 25) ∨ 80 ≤ a ∧ a ≤ 84 ∧ 8 ≤ i ∨ 85 ≤ a ∧ a ≤ 87 ∧ 12 ≤ i) := fun a i z => by omega
theorem tg_77 : ∀ a i : Nat, (a = 77 ∧ (i = 4 ∨ i = 5 ∨ 7 ≤ i ∧ i ≤ 10)) → (a = 77 ∧ (i = 4 ∨ i = 5 ∨ 7 ≤ i ∧ i ≤ 10 ∨ 14 ≤ i ∧ i ≤ 16 ∨ i = 25) ∨ 80 ≤ a ∧ a ≤ 84 ∧ 8 ≤ i ∨ 85 ≤ a ∧ a ≤ 87 ∧ 12 ≤ i) := fun a i z => by omega
theorem tg_78 : ∀ a i : Nat, (a = 77 ∧ (i = 4 ∨ i = 5 ∨ 7 ≤ i ∧ i ≤ 10 ∨ i = 15 ∨ i = 25) ∨ 80 ≤ a ∧ a ≤ 84 ∧ 8 ≤ i) → (a = 77 ∧ (i = 4 ∨ i = 5 ∨ 7 ≤ i ∧ i ≤ 10 ∨ 14 ≤ i ∧ i ≤ 16 ∨ i = 25) ∨ 80 ≤ a ∧ a ≤ 84 ∧ 8 ≤ i ∨ 85 ≤ a ∧ a ≤ 87 ∧ 12 ≤ i) := fun a i z => by omega
theorem tg_79 : ∀ a i : Nat, (a = 77 ∧ 7 ≤ i ∧ i ≤ 10) → (a = 77 ∧ (i = 4 ∨ i = 5 ∨ 7 ≤ i ∧ i ≤ 10 ∨ 14 ≤ i ∧ i ≤ 16 ∨ i = 25) ∨ 80 ≤ a ∧ a ≤ 84 ∧ 8 ≤ i ∨ 85 ≤ a ∧ a ≤ 87 ∧ 12 ≤ i) := fun a i z => by omega
theorem tg_80 : ∀ a i : Nat, (a = 77 ∧ (i = 4 ∨ i = 5)) → (a = 77 ∧ (i = 4 ∨ i = 5 ∨ 7 ≤ i ∧ i ≤ 10 ∨ 14 ≤ i ∧ i ≤ 16 ∨ i = 25) ∨ 80 ≤ a ∧ a ≤ 84 ∧ 8 ≤ i ∨ 85 ≤ a ∧ a ≤ 87 ∧ 12 ≤ i) := fun a i z => by omega
theorem tg_81 : ∀ a i : Nat, (a = 77 ∧ (11 ≤ i ∧ i ≤ 13 ∨ i = 28 ∨ i = 29 ∨ i = 41 ∨ i = 57 ∨ i = 58) ∨ 80 ≤ a ∧ a ≤ 87 ∨ a = 100) → (a = 77 ∨ 79 < a ∧ a ≤ 87 ∨ a = 100) := fun a i z => by omega
theorem tg_82 : ∀ a i : Nat, (a = 77 ∧ (i = 4 ∨ i = 5 ∨ 7 ≤ i ∧ i ≤ 10 ∨ 14 ≤ i ∧ i ≤ 16 ∨ i = 25) ∨ 80 ≤ a ∧ a ≤ 84 ∧ 8 ≤ i ∨ 85 ≤ a ∧ a ≤ 87 ∧ 12 ≤ i) → (a = 77 ∨ 79 < a ∧ a ≤ 87 ∨ a = 100) := fun a i z => by omega
theorem tg_83 : ∀ a i : Nat, (a = 77 ∧ (i = 1 ∨ 4 ≤ i ∧ i ≤ 10)) → (a = 77 ∨ 79 < a ∧ a ≤ 87 ∨ a = 100) := fun a i z => by omega
theorem tg_84 : ∀ a i : Nat, (a = 77 ∧ (14 ≤ i ∧ i ≤ 16 ∨ i = 25)) → (a = 77 ∨ 79 < a ∧ a ≤ 87 ∨ a = 100) := fun a i z => by omega
theorem tg_85 : ∀ a i : Nat, (a = 77 ∧ 6 ≤ i ∧ i ≤ 10) → ¬ (a = 77 ∧ i = 14) := fun a i z => by omega
theorem tg_86 : ∀ a i : Nat, a = 78 → ¬ (a = 77 ∧ i = 14) := fun a i z => by omega
theorem tg_87 : ∀ a i : Nat, a = 79 → ¬ (a = 77 ∧ i = 14) := fun a i z => by omega
theorem tg_88 : ∀ a i : Nat, a = 78 → ¬ (a = 77 ∧ i = 2) := fun a i z => by omega
theorem tg_89 : ∀ a i : Nat, a = 79 → ¬ (a = 77 ∧ i = 2) := fun a i z => by omega
set_option maxRecDepth 4000 in
set_option maxHeartbeats 0 in
theorem E_172 {X : mm_X} {d : Nat} {M : mm_M} {Q : Option Value → mm_M → Prop} {x : Int32} {t : Nat → Int} {nn : Int} {a : Int} {sg : x_S} {L : Int} {fu : Nat} (hX : g_X X) (hd : 4 ≤ d) (hG : g_G M) (q1 : RS M t nn) (q2 : (M.2.1 77 10).toInt = a) (q3 : 0 ≤ nn) (q4 : nn ≤ 500) (q5 : TR M t nn) (q6 : W9 M) (q7 : PLr M sg) (q8 : CWr M sg) (q9 : 0 ≤ x.toInt) (q10 : x.toInt ≤ 1) (q11 : 0 ≤ L) (q12 : x.toInt = 1 → L = 0) (q13 : x.toInt = 0 → 0 < L) (h : ∀ (r : Int32) (M1 : mm_M), g_G M1 → FR md_l172 M M1 → (0 ≤ r.toInt) → (r.toInt ≤ 1) → RS M1 t nn → ((r.toInt = 0 → x_line t nn L sg a (x_kk t nn fu L) = none)) → ((r.toInt = 1 → LOr t nn (x_line t nn L sg a (x_kk t nn fu L)) fu L M1 sg)) → Q (some (.int r)) M1) : mm_T X d 171 0 [.ref 77, .int x] [] M Q := by
  have F0 : FR md_l172 M M := FR.rf
  have b_1 := g_b hG (a := 77) (i := 10) (lo := 0) (hi := 500) rfl rfl
  have z_2 := q7.2.1
  have z_3 := q7.2.2.1
  have z_4 := q7.2.2.2.1
  have z_5 := q7.1
  have z_6 := z_5.1
  have z_7 := z_5.2.1
  have z_8 := z_5.2.2.1
  have z_9 := z_5.2.2.2.1
  have z_10 := z_5.2.2.2.2.1
  have z_11 := z_5.2.2.2.2.2.1
  have b_12 := g_b hG (a := 77) (i := 14) (lo := 10) (hi := 60) rfl rfl
  have b_13 := g_b hG (a := 77) (i := 15) (lo := 0) (hi := 8) rfl rfl
  have b_14 := g_b hG (a := 77) (i := 16) (lo := 0) (hi := 12) rfl rfl
  have b_15 := g_b hG (a := 77) (i := 8) (lo := 0) (hi := 5) rfl rfl
  have c_16 := RS_u q1 (a := a) (by omega)
  unfold x_R at c_16
  refine to_an (pc := 0) rw_172_0 rfl (tt_gI (pc := 1) rw_172_1 (g_o hG rfl) (v := (M.2.1 77 8)) rfl (to_c (pc := 4) rw_172_4 (x := (1 : Int32)) rfl rfl (b_cne (pc := 5) rw_172_5 (A := (M.2.1 77 8).toInt) (B := 1) rfl rfl (fun h17 => ?_) (fun h17 => ?_))))
  · refine to_an (pc := 27) rw_172_27 rfl (to_c (pc := 28) rw_172_28 (x := (1 : Int32)) rfl rfl (s_v (pc := 29) rw_172_29 (dp0 hd (by decide)) (ls0 := [.ref 77, .int (1 : Int32)]) rfl (Nat.le_of_ble_eq_true rfl) (Nat.le_of_ble_eq_true rfl) rfl (to_rc rfl rfl rfl (g_o hG rfl)) rfl (to_an (pc := 0) rw_152_0 rfl (to_in (pc := 1) rw_152_1 rfl (s_pI (pc := 2) rw_152_2 hG rfl (fun M19 W18 => ?_))))))
    have hG20 := g_wf hG W18 rfl rfl (by decide)
    have F21 := FR.w F0 W18 (show 77 = 77 ∧ (4 = 4 ∨ 4 = 5 ∨ 7 ≤ 4 ∧ 4 ≤ 10 ∨ 14 ≤ 4 ∧ 4 ≤ 16 ∨ 4 = 25) ∨ 80 ≤ 77 ∧ 77 ≤ 84 ∧ 8 ≤ 4 ∨ 85 ≤ 77 ∧ 77 ≤ 87 ∧ 12 ≤ 4 by decide)
    refine to_an (pc := 5) rw_152_5 rfl (to_an (pc := 6) rw_152_6 rfl ?_)
    have c_22 : M19.2.1 77 10 = (M.2.1 77 10) := (W_n W18 (by decide) rfl)
    refine tt_gI (pc := 7) rw_152_7 (g_o hG20 rfl) (v := (M.2.1 77 10)) c_22 (s_pI (pc := 10) rw_152_10 hG20 rfl (fun M24 W23 => ?_))
    have hG25 := g_wf hG20 W23 rfl rfl (by decide)
    have F26 := FR.w F21 W23 (show 77 = 77 ∧ (5 = 4 ∨ 5 = 5 ∨ 7 ≤ 5 ∧ 5 ≤ 10 ∨ 14 ≤ 5 ∧ 5 ≤ 16 ∨ 5 = 25) ∨ 80 ≤ 77 ∧ 77 ≤ 84 ∧ 8 ≤ 5 ∨ 85 ≤ 77 ∧ 77 ≤ 87 ∧ 12 ≤ 5 by decide)
    refine to_c (pc := 13) rw_152_13 (x := (0 : Int32)) rfl rfl (s_r1 (pc := 14) rw_152_14 (A := 0) rfl (by decide) (s_r1 (pc := 32) rw_172_32 (A := 0) rfl (by decide) ?_))
    have k_27 : (0 : Int32).toInt = 0 := rfl
    have j_28 := (RS_f (fun a i z => W_n W23 (tg_37 a i z) rfl) (RS_f (fun a i z => W_n W18 (tg_38 a i z) rfl) q1))
    exact h (0 : Int32) M24 hG25 F26 (by decide) (by decide) j_28 (fun _ => by first | exact x_line_n (by omega) | exact x_line_t (by omega) (by omega) | exact (if g9 : x_kind t nn a = 1 then x_line_t (by omega) (by omega) else x_line_n (by omega)) | exact (x_line_h (by omega) (by omega) (by omega)).trans (x_holes_n (by omega))) (fun z => by exfalso; omega)
  · refine to_an (pc := 8) rw_172_8 rfl (tt_gI (pc := 9) rw_172_9 (g_o hG rfl) (v := (M.2.1 77 9)) rfl (to_c (pc := 12) rw_172_12 (x := (2 : Int32)) rfl rfl (b_cgt (pc := 13) rw_172_13 (A := (M.2.1 77 9).toInt) (B := 2) rfl rfl (fun h29 => ?_) (fun h29 => ?_))))
    · refine to_an (pc := 27) rw_172_27 rfl (to_c (pc := 28) rw_172_28 (x := (1 : Int32)) rfl rfl (s_v (pc := 29) rw_172_29 (dp0 hd (by decide)) (ls0 := [.ref 77, .int (1 : Int32)]) rfl (Nat.le_of_ble_eq_true rfl) (Nat.le_of_ble_eq_true rfl) rfl (to_rc rfl rfl rfl (g_o hG rfl)) rfl (to_an (pc := 0) rw_152_0 rfl (to_in (pc := 1) rw_152_1 rfl (s_pI (pc := 2) rw_152_2 hG rfl (fun M31 W30 => ?_))))))
      have hG32 := g_wf hG W30 rfl rfl (by decide)
      have F33 := FR.w F0 W30 (show 77 = 77 ∧ (4 = 4 ∨ 4 = 5 ∨ 7 ≤ 4 ∧ 4 ≤ 10 ∨ 14 ≤ 4 ∧ 4 ≤ 16 ∨ 4 = 25) ∨ 80 ≤ 77 ∧ 77 ≤ 84 ∧ 8 ≤ 4 ∨ 85 ≤ 77 ∧ 77 ≤ 87 ∧ 12 ≤ 4 by decide)
      refine to_an (pc := 5) rw_152_5 rfl (to_an (pc := 6) rw_152_6 rfl ?_)
      have c_34 : M31.2.1 77 10 = (M.2.1 77 10) := (W_n W30 (by decide) rfl)
      refine tt_gI (pc := 7) rw_152_7 (g_o hG32 rfl) (v := (M.2.1 77 10)) c_34 (s_pI (pc := 10) rw_152_10 hG32 rfl (fun M36 W35 => ?_))
      have hG37 := g_wf hG32 W35 rfl rfl (by decide)
      have F38 := FR.w F33 W35 (show 77 = 77 ∧ (5 = 4 ∨ 5 = 5 ∨ 7 ≤ 5 ∧ 5 ≤ 10 ∨ 14 ≤ 5 ∧ 5 ≤ 16 ∨ 5 = 25) ∨ 80 ≤ 77 ∧ 77 ≤ 84 ∧ 8 ≤ 5 ∨ 85 ≤ 77 ∧ 77 ≤ 87 ∧ 12 ≤ 5 by decide)
      refine to_c (pc := 13) rw_152_13 (x := (0 : Int32)) rfl rfl (s_r1 (pc := 14) rw_152_14 (A := 0) rfl (by decide) (s_r1 (pc := 32) rw_172_32 (A := 0) rfl (by decide) ?_))
      have k_39 : (0 : Int32).toInt = 0 := rfl
      have j_40 := (RS_f (fun a i z => W_n W35 (tg_37 a i z) rfl) (RS_f (fun a i z => W_n W30 (tg_38 a i z) rfl) q1))
      exact h (0 : Int32) M36 hG37 F38 (by decide) (by decide) j_40 (fun _ => by first | exact x_line_n (by omega) | exact x_line_t (by omega) (by omega) | exact (if g9 : x_kind t nn a = 1 then x_line_t (by omega) (by omega) else x_line_n (by omega)) | exact (x_line_h (by omega) (by omega) (by omega)).trans (x_holes_n (by omega))) (fun z => by exfalso; omega)
    · refine to_in (pc := 16) rw_172_16 rfl (b_ieq (pc := 17) rw_172_17 (A := x.toInt) rfl (fun h41 => ?_) (fun h41 => ?_))
      · refine to_an (pc := 33) rw_172_33 rfl (tt_gI (pc := 34) rw_172_34 (g_o hG rfl) (v := (M.2.1 77 9)) rfl (b_ine (pc := 37) rw_172_37 (A := (M.2.1 77 9).toInt) rfl (fun h42 => ?_) (fun h42 => ?_)))
        · refine to_an (pc := 82) rw_172_82 rfl (tt_gI (pc := 83) rw_172_83 (g_o hG rfl) (v := (M.2.1 77 9)) rfl (to_c (pc := 86) rw_172_86 (x := (1 : Int32)) rfl rfl (b_cne (pc := 87) rw_172_87 (A := (M.2.1 77 9).toInt) (B := 1) rfl rfl (fun h43 => ?_) (fun h43 => ?_))))
          · refine to_an (pc := 100) rw_172_100 rfl (s_v (pc := 101) rw_172_101 (dp0 hd (by decide)) (ls0 := [.ref 77, .null, .null, .null, .null, .null]) rfl (Nat.le_of_ble_eq_true rfl) (Nat.le_of_ble_eq_true rfl) rfl (to_rc rfl rfl rfl (g_o hG rfl)) rfl (E_171 hX (dp1 hd (by decide)) hG q1 (by omega) (by omega) (by omega) q5 q6 q7 q8 (t := t) (nn := nn) (a := a) (sg := sg) (k := (x_kk t nn fu L)) (fun r44 M52 hG46 F45 p_47 p_48 p_49 p_50 p_51 => ?_)))
            have F53 := FR.c F0 F45 tg_76
            rcases (show r44.toInt = 0 ∨ r44.toInt = 1 by omega) with h54 | h54
            · skip
              have p_55 := p_50 (by omega)
              clear p_50 p_51
              have b_56 := g_b hG46 (a := 77) (i := 10) (lo := 0) (hi := 500) rfl rfl
              have z_57 : x_line t nn L sg a (x_kk t nn fu L) = x_word t nn sg (x_ns t nn a) (x_kk t nn fu L) := x_line_w (by omega) (by omega) (by omega)
              refine b_ine_f (pc := 104) rw_172_104 (A := r44.toInt) rfl (by omega) (to_c (pc := 107) rw_172_107 (x := (0 : Int32)) rfl rfl (s_r1 (pc := 108) rw_172_108 (A := 0) rfl (by decide) ?_))
              have k_58 : (0 : Int32).toInt = 0 := rfl
              exact h (0 : Int32) M52 hG46 F53 (by decide) (by decide) p_49 (fun _ => z_57.trans p_55) (fun z => by exfalso; omega)
            · skip
              have p_59 := p_51 (by omega)
              clear p_50 p_51
              have b_60 := g_b hG46 (a := 77) (i := 10) (lo := 0) (hi := 500) rfl rfl
              have z_61 : x_line t nn L sg a (x_kk t nn fu L) = x_word t nn sg (x_ns t nn a) (x_kk t nn fu L) := x_line_w (by omega) (by omega) (by omega)
              refine b_ine_t (pc := 104) rw_172_104 (A := r44.toInt) rfl (by omega) (to_an (pc := 109) rw_172_109 rfl (to_c (pc := 110) rw_172_110 (x := (59 : Int32)) rfl rfl (s_v (pc := 112) rw_172_112 (dp0 hd (by decide)) (ls0 := [.ref 77, .int (59 : Int32)]) rfl (Nat.le_of_ble_eq_true rfl) (Nat.le_of_ble_eq_true rfl) rfl (to_rc rfl rfl rfl (g_o hG46 rfl)) rfl ?_)))
              have k_62 : (59 : Int32).toInt = 59 := rfl
              have j_63 := (TR_f (tg_64 F45) q5)
              have j_64 := (W9_f (tg_65 F45) q6)
              refine E_160 hX (dp1 hd (by decide)) hG46 p_49 (by omega) (by omega) (by omega) j_63 j_64 (by omega) (c := (59 : Int32)) (t := t) (nn := nn) (a := (M52.2.1 77 10).toInt) (fun r65 M73 hG67 F66 p_68 p_69 p_70 p_71 p_72 => ?_)
              have F74 := FR.c F53 F66 tg_77
              have b_75 := g_b hG67 (a := 77) (i := 10) (lo := 0) (hi := 500) rfl rfl
              rcases (show r65.toInt = 0 ∨ r65.toInt = 1 by omega) with h76 | h76
              · skip
                have p_77 := p_72 (by omega)
                clear p_71 p_72
                refine s_r1 (pc := 115) rw_172_115 (A := r65.toInt) rfl (by omega) ?_
                exact h r65 M73 hG67 F74 (by omega) (by omega) p_70 (fun _ => LOr_wn p_59 z_61 rfl (by omega)) (fun z => by exfalso; omega)
              · skip
                have p_78 := p_71 (by omega)
                clear p_71 p_72
                refine s_r1 (pc := 115) rw_172_115 (A := r65.toInt) rfl (by omega) ?_
                have tr_79 : ∀ s9 : x_S, PLr2 M52 s9 → PLr2 M73 s9 := fun s9 h9 => ⟨PLr_f (fun a i z => (F_n F66 (show ¬ (a = 77 ∧ (i = 4 ∨ i = 5 ∨ 7 ≤ i ∧ i ≤ 10)) by omega) rfl)) (F_nl F66 (show ¬ (77 = 77 ∧ (25 = 4 ∨ 25 = 5 ∨ 7 ≤ 25 ∧ 25 ≤ 10)) by decide) rfl) h9.1, CWr_f (fun k hk9 => (F_nl F66 (show ¬ (87 = 77 ∧ ((12 + k) = 4 ∨ (12 + k) = 5 ∨ 7 ≤ (12 + k) ∧ (12 + k) ≤ 10)) by omega) rfl)) h9.2⟩
                exact h r65 M73 hG67 F74 (by omega) (by omega) p_70 (fun z => by exfalso; omega) (fun _ => LOr_w p_59 z_61 rfl (by omega) (by omega) (by omega) tr_79)
          · refine to_an (pc := 90) rw_172_90 rfl (s_v (pc := 91) rw_172_91 (dp0 hd (by decide)) (ls0 := [.ref 77, .null, .null, .null, .null, .null, .null, .null, .null]) rfl (Nat.le_of_ble_eq_true rfl) (Nat.le_of_ble_eq_true rfl) rfl (to_rc rfl rfl rfl (g_o hG rfl)) rfl (E_170 hX (dp1 hd (by decide)) hG q1 (by omega) (by omega) (by omega) q5 q6 q7 q8 (t := t) (nn := nn) (a := a) (sg := sg) (k := (x_kk t nn fu L)) (fun r80 M88 hG82 F81 p_83 p_84 p_85 p_86 p_87 => ?_)))
            have F89 := FR.c F0 F81 tg_78
            rcases (show r80.toInt = 0 ∨ r80.toInt = 1 by omega) with h90 | h90
            · skip
              have p_91 := p_86 (by omega)
              clear p_86 p_87
              have b_92 := g_b hG82 (a := 77) (i := 10) (lo := 0) (hi := 500) rfl rfl
              have z_93 : x_line t nn L sg a (x_kk t nn fu L) = x_field t nn sg (x_ns t nn a) (x_kk t nn fu L) := x_line_f (by omega) (by omega) (by omega)
              refine b_ine_f (pc := 94) rw_172_94 (A := r80.toInt) rfl (by omega) (to_go (pc := 97) rw_172_97 (to_c (pc := 107) rw_172_107 (x := (0 : Int32)) rfl rfl (s_r1 (pc := 108) rw_172_108 (A := 0) rfl (by decide) ?_)))
              have k_94 : (0 : Int32).toInt = 0 := rfl
              exact h (0 : Int32) M88 hG82 F89 (by decide) (by decide) p_85 (fun _ => z_93.trans p_91) (fun z => by exfalso; omega)
            · skip
              have p_95 := p_87 (by omega)
              clear p_86 p_87
              have b_96 := g_b hG82 (a := 77) (i := 10) (lo := 0) (hi := 500) rfl rfl
              have z_97 : x_line t nn L sg a (x_kk t nn fu L) = x_field t nn sg (x_ns t nn a) (x_kk t nn fu L) := x_line_f (by omega) (by omega) (by omega)
              refine b_ine_t (pc := 94) rw_172_94 (A := r80.toInt) rfl (by omega) (to_an (pc := 109) rw_172_109 rfl (to_c (pc := 110) rw_172_110 (x := (59 : Int32)) rfl rfl (s_v (pc := 112) rw_172_112 (dp0 hd (by decide)) (ls0 := [.ref 77, .int (59 : Int32)]) rfl (Nat.le_of_ble_eq_true rfl) (Nat.le_of_ble_eq_true rfl) rfl (to_rc rfl rfl rfl (g_o hG82 rfl)) rfl ?_)))
              have k_98 : (59 : Int32).toInt = 59 := rfl
              have j_99 := (TR_f (tg_66 F81) q5)
              have j_100 := (W9_f (tg_67 F81) q6)
              refine E_160 hX (dp1 hd (by decide)) hG82 p_85 (by omega) (by omega) (by omega) j_99 j_100 (by omega) (c := (59 : Int32)) (t := t) (nn := nn) (a := (M88.2.1 77 10).toInt) (fun r101 M109 hG103 F102 p_104 p_105 p_106 p_107 p_108 => ?_)
              have F110 := FR.c F89 F102 tg_77
              have b_111 := g_b hG103 (a := 77) (i := 10) (lo := 0) (hi := 500) rfl rfl
              rcases (show r101.toInt = 0 ∨ r101.toInt = 1 by omega) with h112 | h112
              · skip
                have p_113 := p_108 (by omega)
                clear p_107 p_108
                refine s_r1 (pc := 115) rw_172_115 (A := r101.toInt) rfl (by omega) ?_
                exact h r101 M109 hG103 F110 (by omega) (by omega) p_106 (fun _ => LOr_fn p_95 z_97 rfl (by omega)) (fun z => by exfalso; omega)
              · skip
                have p_114 := p_107 (by omega)
                clear p_107 p_108
                refine s_r1 (pc := 115) rw_172_115 (A := r101.toInt) rfl (by omega) ?_
                have tr_115 : ∀ s9 : x_S, PLr2 M88 s9 → PLr2 M109 s9 := fun s9 h9 => ⟨PLr_f (fun a i z => (F_n F102 (show ¬ (a = 77 ∧ (i = 4 ∨ i = 5 ∨ 7 ≤ i ∧ i ≤ 10)) by omega) rfl)) (F_nl F102 (show ¬ (77 = 77 ∧ (25 = 4 ∨ 25 = 5 ∨ 7 ≤ 25 ∧ 25 ≤ 10)) by decide) rfl) h9.1, CWr_f (fun k hk9 => (F_nl F102 (show ¬ (87 = 77 ∧ ((12 + k) = 4 ∨ (12 + k) = 5 ∨ 7 ≤ (12 + k) ∧ (12 + k) ≤ 10)) by omega) rfl)) h9.2⟩
                exact h r101 M109 hG103 F110 (by omega) (by omega) p_106 (fun z => by exfalso; omega) (fun _ => LOr_f p_95 z_97 rfl (by omega) (by omega) (by omega) tr_115)
        · refine to_in (pc := 40) rw_172_40 rfl (b_ine_f (pc := 41) rw_172_41 (A := x.toInt) rfl (by omega) (to_an (pc := 44) rw_172_44 rfl (to_c (pc := 45) rw_172_45 (x := (3 : Int32)) rfl rfl (s_v (pc := 46) rw_172_46 (dp0 hd (by decide)) (ls0 := [.ref 77, .int (3 : Int32)]) rfl (Nat.le_of_ble_eq_true rfl) (Nat.le_of_ble_eq_true rfl) rfl (to_rc rfl rfl rfl (g_o hG rfl)) rfl (to_an (pc := 0) rw_152_0 rfl (to_in (pc := 1) rw_152_1 rfl (s_pI (pc := 2) rw_152_2 hG rfl (fun M117 W116 => ?_))))))))
          have hG118 := g_wf hG W116 rfl rfl (by decide)
          have F119 := FR.w F0 W116 (show 77 = 77 ∧ (4 = 4 ∨ 4 = 5 ∨ 7 ≤ 4 ∧ 4 ≤ 10 ∨ 14 ≤ 4 ∧ 4 ≤ 16 ∨ 4 = 25) ∨ 80 ≤ 77 ∧ 77 ≤ 84 ∧ 8 ≤ 4 ∨ 85 ≤ 77 ∧ 77 ≤ 87 ∧ 12 ≤ 4 by decide)
          refine to_an (pc := 5) rw_152_5 rfl (to_an (pc := 6) rw_152_6 rfl ?_)
          have c_120 : M117.2.1 77 10 = (M.2.1 77 10) := (W_n W116 (by decide) rfl)
          refine tt_gI (pc := 7) rw_152_7 (g_o hG118 rfl) (v := (M.2.1 77 10)) c_120 (s_pI (pc := 10) rw_152_10 hG118 rfl (fun M122 W121 => ?_))
          have hG123 := g_wf hG118 W121 rfl rfl (by decide)
          have F124 := FR.w F119 W121 (show 77 = 77 ∧ (5 = 4 ∨ 5 = 5 ∨ 7 ≤ 5 ∧ 5 ≤ 10 ∨ 14 ≤ 5 ∧ 5 ≤ 16 ∨ 5 = 25) ∨ 80 ≤ 77 ∧ 77 ≤ 84 ∧ 8 ≤ 5 ∨ 85 ≤ 77 ∧ 77 ≤ 87 ∧ 12 ≤ 5 by decide)
          refine to_c (pc := 13) rw_152_13 (x := (0 : Int32)) rfl rfl (s_r1 (pc := 14) rw_152_14 (A := 0) rfl (by decide) (s_r1 (pc := 49) rw_172_49 (A := 0) rfl (by decide) ?_))
          have k_125 : (0 : Int32).toInt = 0 := rfl
          have j_126 := (RS_f (fun a i z => W_n W121 (tg_37 a i z) rfl) (RS_f (fun a i z => W_n W116 (tg_38 a i z) rfl) q1))
          exact h (0 : Int32) M122 hG123 F124 (by decide) (by decide) j_126 (fun _ => by first | exact x_line_n (by omega) | exact x_line_t (by omega) (by omega) | exact (if g9 : x_kind t nn a = 1 then x_line_t (by omega) (by omega) else x_line_n (by omega)) | exact (x_line_h (by omega) (by omega) (by omega)).trans (x_holes_n (by omega))) (fun z => by exfalso; omega)
      · refine to_an (pc := 20) rw_172_20 rfl (tt_gI (pc := 21) rw_172_21 (g_o hG rfl) (v := (M.2.1 77 9)) rfl (b_ieq (pc := 24) rw_172_24 (A := (M.2.1 77 9).toInt) rfl (fun h127 => ?_) (fun h127 => ?_)))
        · refine to_an (pc := 33) rw_172_33 rfl (tt_gI (pc := 34) rw_172_34 (g_o hG rfl) (v := (M.2.1 77 9)) rfl (b_ine_f (pc := 37) rw_172_37 (A := (M.2.1 77 9).toInt) rfl (by omega) (to_in (pc := 40) rw_172_40 rfl (b_ine_t (pc := 41) rw_172_41 (A := x.toInt) rfl (by omega) (to_an (pc := 50) rw_172_50 rfl (s_v (pc := 51) rw_172_51 (dp0 hd (by decide)) (ls0 := [.ref 77]) rfl (Nat.le_of_ble_eq_true rfl) (Nat.le_of_ble_eq_true rfl) rfl (to_rc rfl rfl rfl (g_o hG rfl)) rfl ?_))))))
          have b_128 := g_b hG (a := 77) (i := 7) (lo := 0) (hi := 500) rfl rfl
          have b_129 := g_b hG (a := 77) (i := 6) (lo := 0) (hi := 500) rfl rfl
          have z_130 := RS_b q1 (a := a) (by omega)
          refine E_156 hX (dp1 hd (by decide)) hG (by omega) (by omega) (by omega) (by omega) q5 q6  (fun M137 hG132 F131 p_133 p_134 p_135 p_136 => ?_)
          have F138 := FR.c F0 F131 tg_79
          have b_139 := g_b hG132 (a := 77) (i := 7) (lo := 0) (hi := 500) rfl rfl
          have c_140 : M137.2.1 77 6 = (M.2.1 77 6) := (F_n F131 (show ¬ (77 = 77 ∧ 7 ≤ 6 ∧ 6 ≤ 10) by decide) rfl)
          have t_141 : (M137.2.1 77 6).toInt = (M.2.1 77 6).toInt := congrArg Int32.toInt c_140
          have b_142 := g_b hG132 (a := 77) (i := 8) (lo := 0) (hi := 5) rfl rfl
          have b_143 := g_b hG132 (a := 77) (i := 10) (lo := 0) (hi := 500) rfl rfl
          have z_144 := RS_s p_136.2 (a := a) (by omega)
          refine to_an (pc := 54) rw_172_54 rfl (to_c (pc := 55) rw_172_55 (x := (10 : Int32)) rfl rfl (to_c (pc := 57) rw_172_57 (x := (60 : Int32)) rfl rfl (s_v (pc := 59) rw_172_59 (dp0 hd (by decide)) (ls0 := [.ref 77, .int (10 : Int32), .int (60 : Int32)]) rfl (Nat.le_of_ble_eq_true rfl) (Nat.le_of_ble_eq_true rfl) rfl (to_rc rfl rfl rfl (g_o hG132 rfl)) rfl ?_)))
          have k_145 : (10 : Int32).toInt = 10 := rfl
          have k_146 : (60 : Int32).toInt = 60 := rfl
          refine E_162 hX (dp1 hd (by decide)) hG132 p_136.1 (by omega) (by omega) (l := (10 : Int32)) (m := (60 : Int32)) (t := t) (nn := nn) (a := (x_ns t nn a)) (fun r147 M154 hG149 F148 p_150 p_151 p_152 p_153 => ?_)
          have F155 := FR.c F138 F148 tg_80
          rcases (show r147.toInt = 0 ∨ r147.toInt = 1 by omega) with h156 | h156
          · skip
            have p_157 := p_153 (by omega)
            clear p_152 p_153
            have z_158 := x_val_b (t := t) (nn := nn) (a := (x_ns t nn a))
            refine b_ine_f (pc := 62) rw_172_62 (A := r147.toInt) rfl (by omega) (to_c (pc := 65) rw_172_65 (x := (0 : Int32)) rfl rfl (s_r1 (pc := 66) rw_172_66 (A := 0) rfl (by decide) ?_))
            have k_159 : (0 : Int32).toInt = 0 := rfl
            have j_160 := (RS_f (tg_40 F148) p_136.1)
            exact h (0 : Int32) M154 hG149 F155 (by decide) (by decide) j_160 (fun _ => by first | exact x_line_n (by omega) | exact x_line_t (by omega) (by omega) | exact (if g9 : x_kind t nn a = 1 then x_line_t (by omega) (by omega) else x_line_n (by omega)) | exact (x_line_h (by omega) (by omega) (by omega)).trans (x_holes_n (by omega))) (fun z => by exfalso; omega)
          · skip
            have p_161 := p_152 (by omega)
            clear p_152 p_153
            have c_162 : M154.2.1 77 9 = (M137.2.1 77 9) := (F_n F148 (show ¬ (77 = 77 ∧ (9 = 4 ∨ 9 = 5)) by decide) rfl)
            have z_163 := x_val_b (t := t) (nn := nn) (a := (x_ns t nn a)) (by omega)
            refine b_ine_t (pc := 62) rw_172_62 (A := r147.toInt) rfl (by omega) (to_an (pc := 67) rw_172_67 rfl (to_an (pc := 68) rw_172_68 rfl (tt_gI (pc := 69) rw_172_69 (g_o hG149 rfl) (v := (M137.2.1 77 9)) c_162 ?_)))
            have j_164 := (PLr_f (tg_48 F148) (F_nl F148 (show ¬ (77 = 77 ∧ (25 = 4 ∨ 25 = 5)) by decide) rfl) (PLr_f (tg_39 F131) (F_nl F131 (show ¬ (77 = 77 ∧ 7 ≤ 25 ∧ 25 ≤ 10) by decide) rfl) q7))
            refine s_pI (pc := 72) rw_172_72 hG149 rfl (fun M166 W165 => ?_)
            have hG167 := g_w hG149 W165 (A := (M137.2.1 77 9).toInt) rfl (lo := 10) (hi := 60) rfl rfl (by omega) (by decide)
            have F168 := FR.w F155 W165 (show 77 = 77 ∧ (14 = 4 ∨ 14 = 5 ∨ 7 ≤ 14 ∧ 14 ≤ 10 ∨ 14 ≤ 14 ∧ 14 ≤ 16 ∨ 14 = 25) ∨ 80 ≤ 77 ∧ 77 ≤ 84 ∧ 8 ≤ 14 ∨ 85 ≤ 77 ∧ 77 ≤ 87 ∧ 12 ≤ 14 by decide)
            have z_169 := PLr_h (w := x_val t nn (x_ns t nn a)) j_164 W165 (by omega) (by omega)
            refine to_an (pc := 75) rw_172_75 rfl (s_v (pc := 76) rw_172_76 (dp0 hd (by decide)) (ls0 := [.ref 77]) rfl (Nat.le_of_ble_eq_true rfl) (Nat.le_of_ble_eq_true rfl) rfl (to_rc rfl rfl rfl (g_o hG167 rfl)) rfl ?_)
            have c_170 : M166.2.1 77 7 = (M137.2.1 77 7) := (W_n W165 (by decide) (F_n F148 (show ¬ (77 = 77 ∧ (7 = 4 ∨ 7 = 5)) by decide) rfl))
            have t_171 : (M166.2.1 77 7).toInt = (M137.2.1 77 7).toInt := congrArg Int32.toInt c_170
            have c_172 : M166.2.1 77 6 = (M.2.1 77 6) := (W_n W165 (by decide) (F_n F148 (show ¬ (77 = 77 ∧ (6 = 4 ∨ 6 = 5)) by decide) c_140))
            have t_173 : (M166.2.1 77 6).toInt = (M.2.1 77 6).toInt := congrArg Int32.toInt c_172
            have c_174 : M166.2.1 77 10 = (M137.2.1 77 10) := (W_n W165 (by decide) (F_n F148 (show ¬ (77 = 77 ∧ (10 = 4 ∨ 10 = 5)) by decide) rfl))
            have t_175 : (M166.2.1 77 10).toInt = (M137.2.1 77 10).toInt := congrArg Int32.toInt c_174
            have j_176 := (RS_f (fun a i z => W_n W165 (tg_85 a i z) rfl) (RS_f (tg_40 F148) p_136.1))
            have z_177 := RS_b j_176 (a := (x_ns t nn a)) (by omega)
            have j_178 := (TR_f (fun a i z => W_n W165 (tg_86 a i z) rfl) (TR_f (tg_41 F148) (TR_f (tg_42 F131) q5)))
            have j_179 := (W9_f (fun a i z => W_n W165 (tg_87 a i z) rfl) (W9_f (tg_43 F148) (W9_f (tg_44 F131) q6)))
            refine E_156 hX (dp1 hd (by decide)) hG167 (by omega) (by omega) (by omega) (by omega) j_178 j_179  (fun M186 hG181 F180 p_182 p_183 p_184 p_185 => ?_)
            have F187 := FR.c F168 F180 tg_79
            have b_188 := g_b hG181 (a := 77) (i := 7) (lo := 0) (hi := 500) rfl rfl
            have c_189 : M186.2.1 77 6 = (M.2.1 77 6) := (F_n F180 (show ¬ (77 = 77 ∧ 7 ≤ 6 ∧ 6 ≤ 10) by decide) c_172)
            have t_190 : (M186.2.1 77 6).toInt = (M.2.1 77 6).toInt := congrArg Int32.toInt c_189
            have b_191 := g_b hG181 (a := 77) (i := 8) (lo := 0) (hi := 5) rfl rfl
            have b_192 := g_b hG181 (a := 77) (i := 10) (lo := 0) (hi := 500) rfl rfl
            have z_193 := RS_s p_185.2 (a := (x_ns t nn a)) (by omega)
            refine to_go (pc := 79) rw_172_79 (to_an (pc := 109) rw_172_109 rfl (to_c (pc := 110) rw_172_110 (x := (59 : Int32)) rfl rfl (s_v (pc := 112) rw_172_112 (dp0 hd (by decide)) (ls0 := [.ref 77, .int (59 : Int32)]) rfl (Nat.le_of_ble_eq_true rfl) (Nat.le_of_ble_eq_true rfl) rfl (to_rc rfl rfl rfl (g_o hG181 rfl)) rfl ?_)))
            have k_194 : (59 : Int32).toInt = 59 := rfl
            have j_195 := (TR_f (tg_42 F180) j_178)
            have j_196 := (W9_f (tg_44 F180) j_179)
            refine E_160 hX (dp1 hd (by decide)) hG181 p_185.1 (by omega) (by omega) (by omega) j_195 j_196 (by omega) (c := (59 : Int32)) (t := t) (nn := nn) (a := (x_ns t nn (x_ns t nn a))) (fun r197 M205 hG199 F198 p_200 p_201 p_202 p_203 p_204 => ?_)
            have F206 := FR.c F187 F198 tg_77
            have b_207 := g_b hG199 (a := 77) (i := 10) (lo := 0) (hi := 500) rfl rfl
            rcases (show r197.toInt = 0 ∨ r197.toInt = 1 by omega) with h208 | h208
            · skip
              have p_209 := p_204 (by omega)
              clear p_203 p_204
              refine s_r1 (pc := 115) rw_172_115 (A := r197.toInt) rfl (by omega) ?_
              have z_210 : x_line t nn L sg a (x_kk t nn fu L) = x_kk t nn fu L (x_ns t nn (x_ns t nn a)) (x_val t nn (x_ns t nn a), sg.2) := (x_line_h (by omega) (by omega) (by omega)).trans (x_holes_y (by omega))
              exact h r197 M205 hG199 F206 (by omega) (by omega) p_202 (fun _ => LOr_hn z_210 (by omega)) (fun z => by exfalso; omega)
            · skip
              have p_211 := p_203 (by omega)
              clear p_203 p_204
              refine s_r1 (pc := 115) rw_172_115 (A := r197.toInt) rfl (by omega) ?_
              have z_212 : x_line t nn L sg a (x_kk t nn fu L) = x_kk t nn fu L (x_ns t nn (x_ns t nn a)) (x_val t nn (x_ns t nn a), sg.2) := (x_line_h (by omega) (by omega) (by omega)).trans (x_holes_y (by omega))
              have j_213 := (PLr_f (tg_68 F198) (F_nl F198 (show ¬ (77 = 77 ∧ (25 = 4 ∨ 25 = 5 ∨ 7 ≤ 25 ∧ 25 ≤ 10)) by decide) rfl) (PLr_f (tg_39 F180) (F_nl F180 (show ¬ (77 = 77 ∧ 7 ≤ 25 ∧ 25 ≤ 10) by decide) rfl) z_169))
              have j_214 := (CWr_f (fun k hk9 => F_nl F198 (show ¬ (87 = 77 ∧ ((12 + k) = 4 ∨ (12 + k) = 5 ∨ 7 ≤ (12 + k) ∧ (12 + k) ≤ 10)) by omega) rfl) (CWr_f (fun k hk9 => F_nl F180 (show ¬ (87 = 77 ∧ 7 ≤ (12 + k) ∧ (12 + k) ≤ 10) by omega) rfl) (CWr_f (fun k hk9 => W_j W165 rfl) (CWr_f (fun k hk9 => F_nl F148 (show ¬ (87 = 77 ∧ ((12 + k) = 4 ∨ (12 + k) = 5)) by omega) rfl) (CWr_f (fun k hk9 => F_nl F131 (show ¬ (87 = 77 ∧ 7 ≤ (12 + k) ∧ (12 + k) ≤ 10) by omega) rfl) q8)))))
              exact h r197 M205 hG199 F206 (by omega) (by omega) p_202 (fun z => by exfalso; omega) (fun _ => LOr_h z_212 (by omega) (by omega) (by omega) ⟨j_213, j_214⟩ rfl)
        · refine to_an (pc := 27) rw_172_27 rfl (to_c (pc := 28) rw_172_28 (x := (1 : Int32)) rfl rfl (s_v (pc := 29) rw_172_29 (dp0 hd (by decide)) (ls0 := [.ref 77, .int (1 : Int32)]) rfl (Nat.le_of_ble_eq_true rfl) (Nat.le_of_ble_eq_true rfl) rfl (to_rc rfl rfl rfl (g_o hG rfl)) rfl (to_an (pc := 0) rw_152_0 rfl (to_in (pc := 1) rw_152_1 rfl (s_pI (pc := 2) rw_152_2 hG rfl (fun M216 W215 => ?_))))))
          have hG217 := g_wf hG W215 rfl rfl (by decide)
          have F218 := FR.w F0 W215 (show 77 = 77 ∧ (4 = 4 ∨ 4 = 5 ∨ 7 ≤ 4 ∧ 4 ≤ 10 ∨ 14 ≤ 4 ∧ 4 ≤ 16 ∨ 4 = 25) ∨ 80 ≤ 77 ∧ 77 ≤ 84 ∧ 8 ≤ 4 ∨ 85 ≤ 77 ∧ 77 ≤ 87 ∧ 12 ≤ 4 by decide)
          refine to_an (pc := 5) rw_152_5 rfl (to_an (pc := 6) rw_152_6 rfl ?_)
          have c_219 : M216.2.1 77 10 = (M.2.1 77 10) := (W_n W215 (by decide) rfl)
          refine tt_gI (pc := 7) rw_152_7 (g_o hG217 rfl) (v := (M.2.1 77 10)) c_219 (s_pI (pc := 10) rw_152_10 hG217 rfl (fun M221 W220 => ?_))
          have hG222 := g_wf hG217 W220 rfl rfl (by decide)
          have F223 := FR.w F218 W220 (show 77 = 77 ∧ (5 = 4 ∨ 5 = 5 ∨ 7 ≤ 5 ∧ 5 ≤ 10 ∨ 14 ≤ 5 ∧ 5 ≤ 16 ∨ 5 = 25) ∨ 80 ≤ 77 ∧ 77 ≤ 84 ∧ 8 ≤ 5 ∨ 85 ≤ 77 ∧ 77 ≤ 87 ∧ 12 ≤ 5 by decide)
          refine to_c (pc := 13) rw_152_13 (x := (0 : Int32)) rfl rfl (s_r1 (pc := 14) rw_152_14 (A := 0) rfl (by decide) (s_r1 (pc := 32) rw_172_32 (A := 0) rfl (by decide) ?_))
          have k_224 : (0 : Int32).toInt = 0 := rfl
          have j_225 := (RS_f (fun a i z => W_n W220 (tg_37 a i z) rfl) (RS_f (fun a i z => W_n W215 (tg_38 a i z) rfl) q1))
          exact h (0 : Int32) M221 hG222 F223 (by decide) (by decide) j_225 (fun _ => by first | exact x_line_n (by omega) | exact x_line_t (by omega) (by omega) | exact (if g9 : x_kind t nn a = 1 then x_line_t (by omega) (by omega) else x_line_n (by omega)) | exact (x_line_h (by omega) (by omega) (by omega)).trans (x_holes_n (by omega))) (fun z => by exfalso; omega)
set_option maxRecDepth 4000 in
set_option maxHeartbeats 0 in
theorem U_165_0 {X : mm_X} {d : Nat} {M : mm_M} {Q : Option Value → mm_M → Prop} (hX : g_X X) (hd : 0 ≤ d) (h : ∀ (M1 : mm_M), g_G M1 → FR md_ke M M1 → ((M1.2.1 77 28).toInt = 0) → ((M1.2.1 77 29).toInt = 0) → ((M1.2.1 77 41).toInt = 0) → (∀ s9 : x_S, PLr2 M s9 → PLk2 M1 s9) → Q (none) M1) : ∀ nn9 : Nat, (∀ (N : mm_M) (x1 : Int32), g_G N → FR md_ke M N → (0 ≤ x1.toInt) → (x1.toInt ≤ 6) → (KP N M 8 12) → (KL N M 12) → (N.2.1 77 11 = M.2.1 77 14) → (N.2.1 77 12 = M.2.1 77 15) → (N.2.1 77 13 = M.2.1 77 16) → ((N.2.1 77 28).toInt = 0) → ((N.2.1 77 29).toInt = 0) → ((N.2.1 77 41).toInt = 0) → (True) → 6 - x1.toInt < (nn9 : Int) → mm_T X d 164 199 [.ref 77, .int x1] [] N Q) := by
  intro nn9
  induction nn9 with
  | zero =>
    intro N x1 hG F0 g1 g2 g3 g4 g5 g6 g7 g8 g9 g10 g11 hm
    have b_1 := g_b hG (a := 77) (i := 28) (lo := 0) (hi := 30) rfl rfl
    have b_2 := g_b hG (a := 77) (i := 29) (lo := 0) (hi := 150) rfl rfl
    exfalso; omega
  | succ nn9 ih =>
    intro N x1 hG F0 g1 g2 g3 g4 g5 g6 g7 g8 g9 g10 g11 hm
    have b_3 := g_b hG (a := 77) (i := 28) (lo := 0) (hi := 30) rfl rfl
    have b_4 := g_b hG (a := 77) (i := 29) (lo := 0) (hi := 150) rfl rfl
    refine to_in (pc := 199) rw_165_199 rfl (to_c (pc := 200) rw_165_200 (x := (6 : Int32)) rfl rfl (b_cge (pc := 202) rw_165_202 (A := x1.toInt) (B := 6) rfl rfl (fun h5 => ?_) (fun h5 => ?_)))
    · refine to_rv (pc := 218) rw_165_218 ?_
      exact h N hG F0 (by omega) (by omega) (by omega) (fun s9 h9 => ⟨KP_e g3 g5 g6 g7 h9.1, CWk_e g4 h9.1.1 h9.2⟩)
    · refine to_an (pc := 205) rw_165_205 rfl (s_gR (pc := 206) rw_165_206 hG rfl (v := 100) rfl (to_in (pc := 209) rw_165_209 rfl (to_c (pc := 210) rw_165_210 (x := (0 : Int32)) rfl rfl (s_ias (pc := 211) rw_165_211 hG rfl (n := 6) rfl (A := x1.toInt) rfl (by omega) (by omega) (fun M7 W6 => ?_)))))
      have hG8 := g_w hG W6 (A := 0) rfl (lo := 0) (hi := 30) rfl rfl (by omega) (by decide)
      have F9 := FR.w F0 W6 (show 100 = 77 ∧ (11 ≤ (x1.toInt).toNat ∧ (x1.toInt).toNat ≤ 13 ∨ (x1.toInt).toNat = 28 ∨ (x1.toInt).toNat = 29 ∨ (x1.toInt).toNat = 41 ∨ (x1.toInt).toNat = 57 ∨ (x1.toInt).toNat = 58) ∨ 80 ≤ 100 ∧ 100 ≤ 87 ∨ 100 = 100 by omega)
      refine s_inc (pc := 212) rw_165_212 (ls2 := fun v => [.ref 77, .int v]) rfl rfl (fun _ => rfl) (A := x1.toInt) (B := 1) rfl rfl (by omega) (fun v10 e11 => to_go (pc := 215) rw_165_215 ?_)
      have c_12 : M7.2.1 77 11 = (N.2.1 77 11) := (W_n W6 (fun z => absurd z.1 (by decide)) rfl)
      have c_13 : M7.2.1 77 12 = (N.2.1 77 12) := (W_n W6 (fun z => absurd z.1 (by decide)) rfl)
      have c_14 : M7.2.1 77 13 = (N.2.1 77 13) := (W_n W6 (fun z => absurd z.1 (by decide)) rfl)
      have c_15 : M7.2.1 77 28 = (N.2.1 77 28) := (W_n W6 (fun z => absurd z.1 (by decide)) rfl)
      have t_16 : (M7.2.1 77 28).toInt = (N.2.1 77 28).toInt := congrArg Int32.toInt c_15
      have c_17 : M7.2.1 77 29 = (N.2.1 77 29) := (W_n W6 (fun z => absurd z.1 (by decide)) rfl)
      have t_18 : (M7.2.1 77 29).toInt = (N.2.1 77 29).toInt := congrArg Int32.toInt c_17
      have c_19 : M7.2.1 77 41 = (N.2.1 77 41) := (W_n W6 (fun z => absurd z.1 (by decide)) rfl)
      have t_20 : (M7.2.1 77 41).toInt = (N.2.1 77 41).toInt := congrArg Int32.toInt c_19
      exact ih M7 v10 hG8 F9 (by omega) (by omega) (KP_f (fun a i z => (W_n W6 (by /-r100-/ omega) rfl)) g3) (KL_f (fun i => (W_j W6 rfl)) g4) (c_12.trans g5) (c_13.trans g6) (c_14.trans g7) (by omega) (by omega) (by omega) trivial (by omega)
set_option maxRecDepth 4000 in
set_option maxHeartbeats 0 in
theorem U_165_1 {X : mm_X} {d : Nat} {M : mm_M} {Q : Option Value → mm_M → Prop} (hX : g_X X) (hd : 0 ≤ d) (h : ∀ (M1 : mm_M), g_G M1 → FR md_ke M M1 → ((M1.2.1 77 28).toInt = 0) → ((M1.2.1 77 29).toInt = 0) → ((M1.2.1 77 41).toInt = 0) → (∀ s9 : x_S, PLr2 M s9 → PLk2 M1 s9) → Q (none) M1) : ∀ nn9 : Nat, (∀ (N : mm_M) (x1 : Int32), g_G N → FR md_ke M N → (0 ≤ x1.toInt) → (x1.toInt ≤ 12) → (KP N M 8 (x1.toInt).toNat) → (KL N M (x1.toInt).toNat) → (N.2.1 77 11 = M.2.1 77 14) → (N.2.1 77 12 = M.2.1 77 15) → (N.2.1 77 13 = M.2.1 77 16) → 12 - x1.toInt < (nn9 : Int) → mm_T X d 164 115 [.ref 77, .int x1] [] N Q) := by
  intro nn9
  induction nn9 with
  | zero =>
    intro N x1 hG F0 g1 g2 g3 g4 g5 g6 g7 hm
    exfalso; omega
  | succ nn9 ih =>
    intro N x1 hG F0 g1 g2 g3 g4 g5 g6 g7 hm
    refine to_in (pc := 115) rw_165_115 rfl (to_c (pc := 116) rw_165_116 (x := (12 : Int32)) rfl rfl (b_cge (pc := 118) rw_165_118 (A := x1.toInt) (B := 12) rfl rfl (fun h21 => ?_) (fun h21 => ?_)))
    · refine to_an (pc := 172) rw_165_172 rfl (to_c (pc := 173) rw_165_173 (x := (0 : Int32)) rfl rfl (s_pI (pc := 174) rw_165_174 hG rfl (fun M23 W22 => ?_)))
      have hG24 := g_w hG W22 (A := 0) rfl (lo := 0) (hi := 30) rfl rfl (by omega) (by decide)
      have F25 := FR.w F0 W22 (show 77 = 77 ∧ (11 ≤ 28 ∧ 28 ≤ 13 ∨ 28 = 28 ∨ 28 = 29 ∨ 28 = 41 ∨ 28 = 57 ∨ 28 = 58) ∨ 80 ≤ 77 ∧ 77 ≤ 87 ∨ 77 = 100 by decide)
      refine to_an (pc := 177) rw_165_177 rfl (to_c (pc := 178) rw_165_178 (x := (0 : Int32)) rfl rfl (s_pI (pc := 179) rw_165_179 hG24 rfl (fun M27 W26 => ?_)))
      have hG28 := g_w hG24 W26 (A := 0) rfl (lo := 0) (hi := 150) rfl rfl (by omega) (by decide)
      have F29 := FR.w F25 W26 (show 77 = 77 ∧ (11 ≤ 29 ∧ 29 ≤ 13 ∨ 29 = 28 ∨ 29 = 29 ∨ 29 = 41 ∨ 29 = 57 ∨ 29 = 58) ∨ 80 ≤ 77 ∧ 77 ≤ 87 ∨ 77 = 100 by decide)
      refine to_an (pc := 182) rw_165_182 rfl (to_c (pc := 183) rw_165_183 (x := (0 : Int32)) rfl rfl (s_pI (pc := 184) rw_165_184 hG28 rfl (fun M31 W30 => ?_)))
      have hG32 := g_w hG28 W30 (A := 0) rfl (lo := 0) (hi := 40) rfl rfl (by omega) (by decide)
      have F33 := FR.w F29 W30 (show 77 = 77 ∧ (11 ≤ 58 ∧ 58 ≤ 13 ∨ 58 = 28 ∨ 58 = 29 ∨ 58 = 41 ∨ 58 = 57 ∨ 58 = 58) ∨ 80 ≤ 77 ∧ 77 ≤ 87 ∨ 77 = 100 by decide)
      refine to_an (pc := 187) rw_165_187 rfl (to_c (pc := 188) rw_165_188 (x := (0 : Int32)) rfl rfl (s_pZ (pc := 189) rw_165_189 hG32 rfl (A := 0) rfl (by omega) (fun M35 W34 => ?_)))
      have hG36 := g_w hG32 W34 (A := 0) rfl (lo := 0) (hi := 1) rfl rfl (by omega) (by decide)
      have F37 := FR.w F33 W34 (show 77 = 77 ∧ (11 ≤ 57 ∧ 57 ≤ 13 ∨ 57 = 28 ∨ 57 = 29 ∨ 57 = 41 ∨ 57 = 57 ∨ 57 = 58) ∨ 80 ≤ 77 ∧ 77 ≤ 87 ∨ 77 = 100 by decide)
      refine to_an (pc := 192) rw_165_192 rfl (to_c (pc := 193) rw_165_193 (x := (0 : Int32)) rfl rfl (s_pI (pc := 194) rw_165_194 hG36 rfl (fun M39 W38 => ?_)))
      have hG40 := g_wf hG36 W38 rfl rfl (by decide)
      have F41 := FR.w F37 W38 (show 77 = 77 ∧ (11 ≤ 41 ∧ 41 ≤ 13 ∨ 41 = 28 ∨ 41 = 29 ∨ 41 = 41 ∨ 41 = 57 ∨ 41 = 58) ∨ 80 ≤ 77 ∧ 77 ≤ 87 ∨ 77 = 100 by decide)
      refine to_c (pc := 197) rw_165_197 (x := (0 : Int32)) rfl rfl (to_isn (pc := 198) rw_165_198 (ls2 := [.ref 77, .int (0 : Int32)]) rfl rfl ?_)
      have k_42 : (0 : Int32).toInt = 0 := rfl
      have c_43 : M39.2.1 77 11 = (N.2.1 77 11) := (W_n W38 (by decide) (W_n W34 (by decide) (W_n W30 (by decide) (W_n W26 (by decide) (W_n W22 (by decide) rfl)))))
      have c_44 : M39.2.1 77 12 = (N.2.1 77 12) := (W_n W38 (by decide) (W_n W34 (by decide) (W_n W30 (by decide) (W_n W26 (by decide) (W_n W22 (by decide) rfl)))))
      have c_45 : M39.2.1 77 13 = (N.2.1 77 13) := (W_n W38 (by decide) (W_n W34 (by decide) (W_n W30 (by decide) (W_n W26 (by decide) (W_n W22 (by decide) rfl)))))
      have c_46 : M39.2.1 77 28 = (0 : Int32) := (W_n W38 (by decide) (W_n W34 (by decide) (W_n W30 (by decide) (W_n W26 (by decide) (W_e W22)))))
      have t_47 : (M39.2.1 77 28).toInt = (0 : Int32).toInt := congrArg Int32.toInt c_46
      have c_48 : M39.2.1 77 29 = (0 : Int32) := (W_n W38 (by decide) (W_n W34 (by decide) (W_n W30 (by decide) (W_e W26))))
      have t_49 : (M39.2.1 77 29).toInt = (0 : Int32).toInt := congrArg Int32.toInt c_48
      have c_50 : M39.2.1 77 41 = (0 : Int32) := (W_e W38)
      have t_51 : (M39.2.1 77 41).toInt = (0 : Int32).toInt := congrArg Int32.toInt c_50
      exact (U_165_0 hX hd  h ((6 - (0 : Int32).toInt).toNat + 1)) M39 (0 : Int32) hG40 F41 (by omega) (by omega) (KP_f (fun a i z => (W_n W38 (by /-r77,41-/ omega) (W_n W34 (by /-r77,57-/ omega) (W_n W30 (by /-r77,58-/ omega) (W_n W26 (by /-r77,29-/ omega) (W_n W22 (by /-r77,28-/ omega) rfl)))))) ((show (x1.toInt).toNat = 12 by omega) ▸ g3)) (KL_f (fun i => (W_j W38 (W_j W34 (W_j W30 (W_j W26 (W_j W22 rfl)))))) ((show (x1.toInt).toNat = 12 by omega) ▸ g4)) (c_43.trans g5) (c_44.trans g6) (c_45.trans g7) (by omega) (by omega) (by omega) trivial (by omega)
    · refine to_an (pc := 121) rw_165_121 rfl (s_gR (pc := 122) rw_165_122 hG rfl (v := 85) rfl (to_in (pc := 125) rw_165_125 rfl (to_an (pc := 126) rw_165_126 rfl (s_gR (pc := 127) rw_165_127 hG rfl (v := 85) rfl (to_c (pc := 130) rw_165_130 (x := (12 : Int32)) rfl rfl (to_in (pc := 132) rw_165_132 rfl (s_add (pc := 133) rw_165_133 (A := 12) (B := x1.toInt) rfl rfl (by omega) (fun v52 e53 => s_ial (pc := 134) rw_165_134 hG rfl (n := 24) rfl rfl (A := v52.toInt) rfl (by omega) (by omega) (lo := -2147483648) (hi := 2147483647) rfl rfl (fun v54 w_55 _ _ => s_ias (pc := 135) rw_165_135 hG rfl (n := 24) rfl (A := x1.toInt) rfl (by omega) (by omega) (fun M57 W56 => ?_))))))))))
      have hG58 := g_wf hG W56 rfl rfl (by decide)
      have F59 := FR.w F0 W56 (show 85 = 77 ∧ (11 ≤ (x1.toInt).toNat ∧ (x1.toInt).toNat ≤ 13 ∨ (x1.toInt).toNat = 28 ∨ (x1.toInt).toNat = 29 ∨ (x1.toInt).toNat = 41 ∨ (x1.toInt).toNat = 57 ∨ (x1.toInt).toNat = 58) ∨ 80 ≤ 85 ∧ 85 ≤ 87 ∨ 85 = 100 by omega)
      refine to_an (pc := 136) rw_165_136 rfl (s_gR (pc := 137) rw_165_137 hG58 rfl (v := 86) rfl (to_in (pc := 140) rw_165_140 rfl (to_an (pc := 141) rw_165_141 rfl (s_gR (pc := 142) rw_165_142 hG58 rfl (v := 86) rfl (to_c (pc := 145) rw_165_145 (x := (12 : Int32)) rfl rfl (to_in (pc := 147) rw_165_147 rfl (s_add (pc := 148) rw_165_148 (A := 12) (B := x1.toInt) rfl rfl (by omega) (fun v60 e61 => s_ial (pc := 149) rw_165_149 hG58 rfl (n := 24) rfl rfl (A := v60.toInt) rfl (by omega) (by omega) (lo := 0) (hi := 7) rfl rfl (fun v62 w_63 _ _ => s_ias (pc := 150) rw_165_150 hG58 rfl (n := 24) rfl (A := x1.toInt) rfl (by omega) (by omega) (fun M65 W64 => ?_))))))))))
      have hG66 := g_w hG58 W64 (A := v62.toInt) rfl (lo := 0) (hi := 7) rfl rfl (by omega) (by decide)
      have F67 := FR.w F59 W64 (show 86 = 77 ∧ (11 ≤ (x1.toInt).toNat ∧ (x1.toInt).toNat ≤ 13 ∨ (x1.toInt).toNat = 28 ∨ (x1.toInt).toNat = 29 ∨ (x1.toInt).toNat = 41 ∨ (x1.toInt).toNat = 57 ∨ (x1.toInt).toNat = 58) ∨ 80 ≤ 86 ∧ 86 ≤ 87 ∨ 86 = 100 by omega)
      refine to_an (pc := 151) rw_165_151 rfl (s_gR (pc := 152) rw_165_152 hG66 rfl (v := 87) rfl (to_in (pc := 155) rw_165_155 rfl (to_an (pc := 156) rw_165_156 rfl (s_gR (pc := 157) rw_165_157 hG66 rfl (v := 87) rfl (to_c (pc := 160) rw_165_160 (x := (12 : Int32)) rfl rfl (to_in (pc := 162) rw_165_162 rfl (s_add (pc := 163) rw_165_163 (A := 12) (B := x1.toInt) rfl rfl (by omega) (fun v68 e69 => s_lalE (pc := 164) rw_165_164 hG66 rfl (n := 24) rfl (A := v68.toInt) rfl (by omega) (by omega) (fun l70 w_71 => s_las (pc := 165) rw_165_165 hG66 rfl (n := 24) rfl (A := x1.toInt) rfl (by omega) (by omega) (fun M73 W72 => ?_))))))))))
      have hG74 := g_wl hG66 W72
      have F75 := FR.wl F67 W72 (show 87 = 77 ∧ (11 ≤ (x1.toInt).toNat ∧ (x1.toInt).toNat ≤ 13 ∨ (x1.toInt).toNat = 28 ∨ (x1.toInt).toNat = 29 ∨ (x1.toInt).toNat = 41 ∨ (x1.toInt).toNat = 57 ∨ (x1.toInt).toNat = 58) ∨ 80 ≤ 87 ∧ 87 ≤ 87 ∨ 87 = 100 by omega)
      refine s_inc (pc := 166) rw_165_166 (ls2 := fun v => [.ref 77, .int v]) rfl rfl (fun _ => rfl) (A := x1.toInt) (B := 1) rfl rfl (by omega) (fun v76 e77 => to_go (pc := 169) rw_165_169 ?_)
      have c_78 : M73.2.1 77 11 = (N.2.1 77 11) := (W_l W72 (W_n W64 (fun z => absurd z.1 (by decide)) (W_n W56 (fun z => absurd z.1 (by decide)) rfl)))
      have c_79 : M73.2.1 77 12 = (N.2.1 77 12) := (W_l W72 (W_n W64 (fun z => absurd z.1 (by decide)) (W_n W56 (fun z => absurd z.1 (by decide)) rfl)))
      have c_80 : M73.2.1 77 13 = (N.2.1 77 13) := (W_l W72 (W_n W64 (fun z => absurd z.1 (by decide)) (W_n W56 (fun z => absurd z.1 (by decide)) rfl)))
      exact ih M73 v76 hG74 F75 (by omega) (by omega) (KP_2 g3 (by omega) rfl (by omega) (show N.2.1 85 (12 + (x1.toInt).toNat) = v54 from (by rw [show 12 + (x1.toInt).toNat = (v52.toInt).toNat by omega]; exact w_55)) W56 (show M57.2.1 86 (12 + (x1.toInt).toNat) = v62 from (by rw [show 12 + (x1.toInt).toNat = (v60.toInt).toNat by omega]; exact w_63)) W64 W72) (KL_2 g4 (by omega) rfl (by omega) W56 W64 (show M65.2.2.1 87 (12 + (x1.toInt).toNat) = l70 from (by rw [show 12 + (x1.toInt).toNat = (v68.toInt).toNat by omega]; exact w_71)) W72) (c_78.trans g5) (c_79.trans g6) (c_80.trans g7) (by omega)
set_option maxRecDepth 4000 in
set_option maxHeartbeats 0 in
theorem U_165_2 {X : mm_X} {d : Nat} {M : mm_M} {Q : Option Value → mm_M → Prop} (hX : g_X X) (hd : 0 ≤ d) (h : ∀ (M1 : mm_M), g_G M1 → FR md_ke M M1 → ((M1.2.1 77 28).toInt = 0) → ((M1.2.1 77 29).toInt = 0) → ((M1.2.1 77 41).toInt = 0) → (∀ s9 : x_S, PLr2 M s9 → PLk2 M1 s9) → Q (none) M1) : ∀ nn9 : Nat, (∀ (N : mm_M) (x1 : Int32), g_G N → FR md_ke M N → (0 ≤ x1.toInt) → (x1.toInt ≤ 8) → (KP N M (x1.toInt).toNat 0) → (KL N M 0) → (N.2.1 77 11 = M.2.1 77 14) → (N.2.1 77 12 = M.2.1 77 15) → (N.2.1 77 13 = M.2.1 77 16) → 8 - x1.toInt < (nn9 : Int) → mm_T X d 164 26 [.ref 77, .int x1] [] N Q) := by
  intro nn9
  induction nn9 with
  | zero =>
    intro N x1 hG F0 g1 g2 g3 g4 g5 g6 g7 hm
    exfalso; omega
  | succ nn9 ih =>
    intro N x1 hG F0 g1 g2 g3 g4 g5 g6 g7 hm
    refine to_in (pc := 26) rw_165_26 rfl (to_c (pc := 27) rw_165_27 (x := (8 : Int32)) rfl rfl (b_cge (pc := 29) rw_165_29 (A := x1.toInt) (B := 8) rfl rfl (fun h81 => ?_) (fun h81 => ?_)))
    · refine to_c (pc := 113) rw_165_113 (x := (0 : Int32)) rfl rfl (to_isn (pc := 114) rw_165_114 (ls2 := [.ref 77, .int (0 : Int32)]) rfl rfl ?_)
      have k_82 : (0 : Int32).toInt = 0 := rfl
      exact (U_165_1 hX hd  h ((12 - (0 : Int32).toInt).toNat + 1)) N (0 : Int32) hG F0 (by omega) (by omega) ((show (x1.toInt).toNat = 8 by omega) ▸ g3) g4 g5 g6 g7 (by omega)
    · refine to_an (pc := 32) rw_165_32 rfl (s_gR (pc := 33) rw_165_33 hG rfl (v := 80) rfl (to_in (pc := 36) rw_165_36 rfl (to_an (pc := 37) rw_165_37 rfl (s_gR (pc := 38) rw_165_38 hG rfl (v := 80) rfl (to_c (pc := 41) rw_165_41 (x := (8 : Int32)) rfl rfl (to_in (pc := 43) rw_165_43 rfl (s_add (pc := 44) rw_165_44 (A := 8) (B := x1.toInt) rfl rfl (by omega) (fun v83 e84 => s_ial (pc := 45) rw_165_45 hG rfl (n := 16) rfl rfl (A := v83.toInt) rfl (by omega) (by omega) (lo := -2147483648) (hi := 2147483647) rfl rfl (fun v85 w_86 _ _ => s_ias (pc := 46) rw_165_46 hG rfl (n := 16) rfl (A := x1.toInt) rfl (by omega) (by omega) (fun M88 W87 => ?_))))))))))
      have hG89 := g_wf hG W87 rfl rfl (by decide)
      have F90 := FR.w F0 W87 (show 80 = 77 ∧ (11 ≤ (x1.toInt).toNat ∧ (x1.toInt).toNat ≤ 13 ∨ (x1.toInt).toNat = 28 ∨ (x1.toInt).toNat = 29 ∨ (x1.toInt).toNat = 41 ∨ (x1.toInt).toNat = 57 ∨ (x1.toInt).toNat = 58) ∨ 80 ≤ 80 ∧ 80 ≤ 87 ∨ 80 = 100 by omega)
      refine to_an (pc := 47) rw_165_47 rfl (s_gR (pc := 48) rw_165_48 hG89 rfl (v := 81) rfl (to_in (pc := 51) rw_165_51 rfl (to_an (pc := 52) rw_165_52 rfl (s_gR (pc := 53) rw_165_53 hG89 rfl (v := 81) rfl (to_c (pc := 56) rw_165_56 (x := (8 : Int32)) rfl rfl (to_in (pc := 58) rw_165_58 rfl (s_add (pc := 59) rw_165_59 (A := 8) (B := x1.toInt) rfl rfl (by omega) (fun v91 e92 => s_ial (pc := 60) rw_165_60 hG89 rfl (n := 16) rfl rfl (A := v91.toInt) rfl (by omega) (by omega) (lo := 0) (hi := 3) rfl rfl (fun v93 w_94 _ _ => s_ias (pc := 61) rw_165_61 hG89 rfl (n := 16) rfl (A := x1.toInt) rfl (by omega) (by omega) (fun M96 W95 => ?_))))))))))
      have hG97 := g_w hG89 W95 (A := v93.toInt) rfl (lo := 0) (hi := 3) rfl rfl (by omega) (by decide)
      have F98 := FR.w F90 W95 (show 81 = 77 ∧ (11 ≤ (x1.toInt).toNat ∧ (x1.toInt).toNat ≤ 13 ∨ (x1.toInt).toNat = 28 ∨ (x1.toInt).toNat = 29 ∨ (x1.toInt).toNat = 41 ∨ (x1.toInt).toNat = 57 ∨ (x1.toInt).toNat = 58) ∨ 80 ≤ 81 ∧ 81 ≤ 87 ∨ 81 = 100 by omega)
      refine to_an (pc := 62) rw_165_62 rfl (s_gR (pc := 63) rw_165_63 hG97 rfl (v := 82) rfl (to_in (pc := 66) rw_165_66 rfl (to_an (pc := 67) rw_165_67 rfl (s_gR (pc := 68) rw_165_68 hG97 rfl (v := 82) rfl (to_c (pc := 71) rw_165_71 (x := (8 : Int32)) rfl rfl (to_in (pc := 73) rw_165_73 rfl (s_add (pc := 74) rw_165_74 (A := 8) (B := x1.toInt) rfl rfl (by omega) (fun v99 e100 => s_ial (pc := 75) rw_165_75 hG97 rfl (n := 16) rfl rfl (A := v99.toInt) rfl (by omega) (by omega) (lo := 0) (hi := 59) rfl rfl (fun v101 w_102 _ _ => s_ias (pc := 76) rw_165_76 hG97 rfl (n := 16) rfl (A := x1.toInt) rfl (by omega) (by omega) (fun M104 W103 => ?_))))))))))
      have hG105 := g_w hG97 W103 (A := v101.toInt) rfl (lo := 0) (hi := 59) rfl rfl (by omega) (by decide)
      have F106 := FR.w F98 W103 (show 82 = 77 ∧ (11 ≤ (x1.toInt).toNat ∧ (x1.toInt).toNat ≤ 13 ∨ (x1.toInt).toNat = 28 ∨ (x1.toInt).toNat = 29 ∨ (x1.toInt).toNat = 41 ∨ (x1.toInt).toNat = 57 ∨ (x1.toInt).toNat = 58) ∨ 80 ≤ 82 ∧ 82 ≤ 87 ∨ 82 = 100 by omega)
      refine to_an (pc := 77) rw_165_77 rfl (s_gR (pc := 78) rw_165_78 hG105 rfl (v := 83) rfl (to_in (pc := 81) rw_165_81 rfl (to_an (pc := 82) rw_165_82 rfl (s_gR (pc := 83) rw_165_83 hG105 rfl (v := 83) rfl (to_c (pc := 86) rw_165_86 (x := (8 : Int32)) rfl rfl (to_in (pc := 88) rw_165_88 rfl (s_add (pc := 89) rw_165_89 (A := 8) (B := x1.toInt) rfl rfl (by omega) (fun v107 e108 => s_ial (pc := 90) rw_165_90 hG105 rfl (n := 16) rfl rfl (A := v107.toInt) rfl (by omega) (by omega) (lo := 0) (hi := 63) rfl rfl (fun v109 w_110 _ _ => s_ias (pc := 91) rw_165_91 hG105 rfl (n := 16) rfl (A := x1.toInt) rfl (by omega) (by omega) (fun M112 W111 => ?_))))))))))
      have hG113 := g_w hG105 W111 (A := v109.toInt) rfl (lo := 0) (hi := 63) rfl rfl (by omega) (by decide)
      have F114 := FR.w F106 W111 (show 83 = 77 ∧ (11 ≤ (x1.toInt).toNat ∧ (x1.toInt).toNat ≤ 13 ∨ (x1.toInt).toNat = 28 ∨ (x1.toInt).toNat = 29 ∨ (x1.toInt).toNat = 41 ∨ (x1.toInt).toNat = 57 ∨ (x1.toInt).toNat = 58) ∨ 80 ≤ 83 ∧ 83 ≤ 87 ∨ 83 = 100 by omega)
      refine to_an (pc := 92) rw_165_92 rfl (s_gR (pc := 93) rw_165_93 hG113 rfl (v := 84) rfl (to_in (pc := 96) rw_165_96 rfl (to_an (pc := 97) rw_165_97 rfl (s_gR (pc := 98) rw_165_98 hG113 rfl (v := 84) rfl (to_c (pc := 101) rw_165_101 (x := (8 : Int32)) rfl rfl (to_in (pc := 103) rw_165_103 rfl (s_add (pc := 104) rw_165_104 (A := 8) (B := x1.toInt) rfl rfl (by omega) (fun v115 e116 => s_ial (pc := 105) rw_165_105 hG113 rfl (n := 16) rfl rfl (A := v115.toInt) rfl (by omega) (by omega) (lo := 0) (hi := 24) rfl rfl (fun v117 w_118 _ _ => s_ias (pc := 106) rw_165_106 hG113 rfl (n := 16) rfl (A := x1.toInt) rfl (by omega) (by omega) (fun M120 W119 => ?_))))))))))
      have hG121 := g_w hG113 W119 (A := v117.toInt) rfl (lo := 0) (hi := 24) rfl rfl (by omega) (by decide)
      have F122 := FR.w F114 W119 (show 84 = 77 ∧ (11 ≤ (x1.toInt).toNat ∧ (x1.toInt).toNat ≤ 13 ∨ (x1.toInt).toNat = 28 ∨ (x1.toInt).toNat = 29 ∨ (x1.toInt).toNat = 41 ∨ (x1.toInt).toNat = 57 ∨ (x1.toInt).toNat = 58) ∨ 80 ≤ 84 ∧ 84 ≤ 87 ∨ 84 = 100 by omega)
      refine s_inc (pc := 107) rw_165_107 (ls2 := fun v => [.ref 77, .int v]) rfl rfl (fun _ => rfl) (A := x1.toInt) (B := 1) rfl rfl (by omega) (fun v123 e124 => to_go (pc := 110) rw_165_110 ?_)
      have c_125 : M120.2.1 77 11 = (N.2.1 77 11) := (W_n W119 (fun z => absurd z.1 (by decide)) (W_n W111 (fun z => absurd z.1 (by decide)) (W_n W103 (fun z => absurd z.1 (by decide)) (W_n W95 (fun z => absurd z.1 (by decide)) (W_n W87 (fun z => absurd z.1 (by decide)) rfl)))))
      have c_126 : M120.2.1 77 12 = (N.2.1 77 12) := (W_n W119 (fun z => absurd z.1 (by decide)) (W_n W111 (fun z => absurd z.1 (by decide)) (W_n W103 (fun z => absurd z.1 (by decide)) (W_n W95 (fun z => absurd z.1 (by decide)) (W_n W87 (fun z => absurd z.1 (by decide)) rfl)))))
      have c_127 : M120.2.1 77 13 = (N.2.1 77 13) := (W_n W119 (fun z => absurd z.1 (by decide)) (W_n W111 (fun z => absurd z.1 (by decide)) (W_n W103 (fun z => absurd z.1 (by decide)) (W_n W95 (fun z => absurd z.1 (by decide)) (W_n W87 (fun z => absurd z.1 (by decide)) rfl)))))
      exact ih M120 v123 hG121 F122 (by omega) (by omega) (KP_5 g3 (by omega) rfl (by omega) (show N.2.1 80 (8 + (x1.toInt).toNat) = v85 from (by rw [show 8 + (x1.toInt).toNat = (v83.toInt).toNat by omega]; exact w_86)) W87 (show M88.2.1 81 (8 + (x1.toInt).toNat) = v93 from (by rw [show 8 + (x1.toInt).toNat = (v91.toInt).toNat by omega]; exact w_94)) W95 (show M96.2.1 82 (8 + (x1.toInt).toNat) = v101 from (by rw [show 8 + (x1.toInt).toNat = (v99.toInt).toNat by omega]; exact w_102)) W103 (show M104.2.1 83 (8 + (x1.toInt).toNat) = v109 from (by rw [show 8 + (x1.toInt).toNat = (v107.toInt).toNat by omega]; exact w_110)) W111 (show M112.2.1 84 (8 + (x1.toInt).toNat) = v117 from (by rw [show 8 + (x1.toInt).toNat = (v115.toInt).toNat by omega]; exact w_118)) W119) (KL_f (fun i => (W_j W119 (W_j W111 (W_j W103 (W_j W95 (W_j W87 rfl)))))) g4) (c_125.trans g5) (c_126.trans g6) (c_127.trans g7) (by omega)
set_option maxRecDepth 4000 in
set_option maxHeartbeats 0 in
theorem E_165 {X : mm_X} {d : Nat} {M : mm_M} {Q : Option Value → mm_M → Prop} (hX : g_X X) (hd : 0 ≤ d) (hG : g_G M) (h : ∀ (M1 : mm_M), g_G M1 → FR md_ke M M1 → ((M1.2.1 77 28).toInt = 0) → ((M1.2.1 77 29).toInt = 0) → ((M1.2.1 77 41).toInt = 0) → (∀ s9 : x_S, PLr2 M s9 → PLk2 M1 s9) → Q (none) M1) : mm_T X d 164 0 [.ref 77, .null] [] M Q := by
  have F0 : FR md_ke M M := FR.rf
  refine to_an (pc := 0) rw_165_0 rfl (to_an (pc := 1) rw_165_1 rfl ?_)
  have b_128 := g_b hG (a := 77) (i := 14) (lo := 10) (hi := 60) rfl rfl
  refine tt_gI (pc := 2) rw_165_2 (g_o hG rfl) (v := (M.2.1 77 14)) rfl (s_pI (pc := 5) rw_165_5 hG rfl (fun M130 W129 => ?_))
  have hG131 := g_w hG W129 (A := (M.2.1 77 14).toInt) rfl (lo := 10) (hi := 60) rfl rfl (by omega) (by decide)
  have F132 := FR.w F0 W129 (show 77 = 77 ∧ (11 ≤ 11 ∧ 11 ≤ 13 ∨ 11 = 28 ∨ 11 = 29 ∨ 11 = 41 ∨ 11 = 57 ∨ 11 = 58) ∨ 80 ≤ 77 ∧ 77 ≤ 87 ∨ 77 = 100 by decide)
  refine to_an (pc := 8) rw_165_8 rfl (to_an (pc := 9) rw_165_9 rfl ?_)
  have c_133 : M130.2.1 77 15 = (M.2.1 77 15) := (W_n W129 (by decide) rfl)
  have b_134 := g_b hG (a := 77) (i := 15) (lo := 0) (hi := 8) rfl rfl
  refine tt_gI (pc := 10) rw_165_10 (g_o hG131 rfl) (v := (M.2.1 77 15)) c_133 (s_pI (pc := 13) rw_165_13 hG131 rfl (fun M136 W135 => ?_))
  have hG137 := g_w hG131 W135 (A := (M.2.1 77 15).toInt) rfl (lo := 0) (hi := 8) rfl rfl (by omega) (by decide)
  have F138 := FR.w F132 W135 (show 77 = 77 ∧ (11 ≤ 12 ∧ 12 ≤ 13 ∨ 12 = 28 ∨ 12 = 29 ∨ 12 = 41 ∨ 12 = 57 ∨ 12 = 58) ∨ 80 ≤ 77 ∧ 77 ≤ 87 ∨ 77 = 100 by decide)
  refine to_an (pc := 16) rw_165_16 rfl (to_an (pc := 17) rw_165_17 rfl ?_)
  have c_139 : M136.2.1 77 16 = (M.2.1 77 16) := (W_n W135 (by decide) (W_n W129 (by decide) rfl))
  have b_140 := g_b hG (a := 77) (i := 16) (lo := 0) (hi := 12) rfl rfl
  refine tt_gI (pc := 18) rw_165_18 (g_o hG137 rfl) (v := (M.2.1 77 16)) c_139 (s_pI (pc := 21) rw_165_21 hG137 rfl (fun M142 W141 => ?_))
  have hG143 := g_w hG137 W141 (A := (M.2.1 77 16).toInt) rfl (lo := 0) (hi := 12) rfl rfl (by omega) (by decide)
  have F144 := FR.w F138 W141 (show 77 = 77 ∧ (11 ≤ 13 ∧ 13 ≤ 13 ∨ 13 = 28 ∨ 13 = 29 ∨ 13 = 41 ∨ 13 = 57 ∨ 13 = 58) ∨ 80 ≤ 77 ∧ 77 ≤ 87 ∨ 77 = 100 by decide)
  refine to_c (pc := 24) rw_165_24 (x := (0 : Int32)) rfl rfl (to_isn (pc := 25) rw_165_25 (ls2 := [.ref 77, .int (0 : Int32)]) rfl rfl ?_)
  have k_145 : (0 : Int32).toInt = 0 := rfl
  have c_146 : M142.2.1 77 11 = (M.2.1 77 14) := (W_n W141 (by decide) (W_n W135 (by decide) (W_e W129)))
  have c_147 : M142.2.1 77 12 = (M.2.1 77 15) := (W_n W141 (by decide) (W_e W135))
  have c_148 : M142.2.1 77 13 = (M.2.1 77 16) := (W_e W141)
  exact (U_165_2 hX hd  h ((8 - (0 : Int32).toInt).toNat + 1)) M142 (0 : Int32) hG143 F144 (by omega) (by omega) (KP_0 (fun a i z => (W_n W141 (by /-r77,13-/ omega) (W_n W135 (by /-r77,12-/ omega) (W_n W129 (by /-r77,11-/ omega) rfl))))) (KL_0 (fun i => (W_j W141 (W_j W135 (W_j W129 rfl))))) c_146 c_147 c_148 (by omega)
set_option maxRecDepth 4000 in
set_option maxHeartbeats 0 in
theorem U_173_0 {X : mm_X} {d : Nat} {M : mm_M} {Q : Option Value → mm_M → Prop} {n : Int32} {t : Nat → Int} {nn : Int} (hX : g_X X) (hd : 5 ≤ d) (q1 : (M.2.1 77 7).toInt ≤ (M.2.1 77 6).toInt) (q2 : 0 ≤ n.toInt ∧ n.toInt ≤ (M.2.1 77 1).toInt → n.toInt = nn) (q3 : TR M t nn) (q4 : W9 M) (h : ∀ (r : Int32) (M1 : mm_M), g_G M1 → FR md_P M M1 → (n.toInt < 0 ∨ (M.2.1 77 1).toInt < n.toInt → r.toInt = -2) → ((0 ≤ n.toInt ∧ n.toInt ≤ (M.2.1 77 1).toInt → PAN (x_plan t nn 23 0 x_s0 (x_sk t nn 0)) r.toInt)) → (-2 ≤ r.toInt) → (r.toInt < 0 → (M1.2.1 77 28).toInt = (M.2.1 77 28).toInt ∧ (M1.2.1 77 29).toInt = (M.2.1 77 29).toInt ∧ (M1.2.1 77 41).toInt = (M.2.1 77 41).toInt) → (0 ≤ r.toInt → (M1.2.1 77 28).toInt = 0 ∧ (M1.2.1 77 29).toInt = 0 ∧ (M1.2.1 77 41).toInt = 0) → ((r.toInt < 0 → ∀ s9 : x_S, PLk2 M s9 → PLk2 M1 s9)) → ((0 ≤ r.toInt → ∃ s2 : x_S, x_plan t nn 23 0 x_s0 (x_sk t nn 0) = some (r.toInt, s2) ∧ PLk2 M1 s2)) → Q (some (.int r)) M1) : ∀ nn9 : Nat, (∀ (N : mm_M) (u1 : Value) (x2 : Int32), g_G N → FR md_P M N → (0 ≤ x2.toInt) → (x2.toInt ≤ 22) → (0 ≤ n.toInt) → (n.toInt ≤ (M.2.1 77 1).toInt) → (n.toInt = nn) → (0 ≤ nn) → (nn ≤ 500) → (RS N t nn) → (TR N t nn) → (W9 N) → ((N.2.1 77 28).toInt = (M.2.1 77 28).toInt) → ((N.2.1 77 29).toInt = (M.2.1 77 29).toInt) → ((N.2.1 77 41).toInt = (M.2.1 77 41).toInt) → (∀ s9 : x_S, PLk2 M s9 → PLk2 N s9) → (IVr t nn (x_plan t nn 23 0 x_s0 (x_sk t nn 0)) N x2.toInt (N.2.1 77 10).toInt) → 22 - x2.toInt < (nn9 : Int) → mm_T X d 172 22 [.ref 77, u1, .int x2] [] N Q) := by
  intro nn9
  induction nn9 with
  | zero =>
    intro N u1 x2 hG F0 g1 g2 g3 g4 g5 g6 g7 g8 g9 g10 g11 g12 g13 g14 g15 hm
    have b_1 := g_b hG (a := 77) (i := 28) (lo := 0) (hi := 30) rfl rfl
    have b_2 := g_b hG (a := 77) (i := 29) (lo := 0) (hi := 150) rfl rfl
    exfalso; omega
  | succ nn9 ih =>
    intro N u1 x2 hG F0 g1 g2 g3 g4 g5 g6 g7 g8 g9 g10 g11 g12 g13 g14 g15 hm
    have b_3 := g_b hG (a := 77) (i := 28) (lo := 0) (hi := 30) rfl rfl
    have b_4 := g_b hG (a := 77) (i := 29) (lo := 0) (hi := 150) rfl rfl
    obtain ⟨sg, i_1, i_2, i_3, i_4⟩ := g15
    have i_5 : x2.toInt ≤ 21 := by have q1 : sg.2.1 ≤ 8 := i_1.1.1.2.2.2.1; have q2 : sg.2.2.1 ≤ 12 := i_1.1.1.2.2.2.2.2.1; rcases (show x2.toInt = 0 ∨ 0 < x2.toInt by omega) with z | z; omega; have := i_4 z; omega
    refine to_an (pc := 22) rw_173_22 rfl ?_
    have b_5 := g_b hG (a := 77) (i := 8) (lo := 0) (hi := 5) rfl rfl
    have b_6 := g_b hG (a := 77) (i := 10) (lo := 0) (hi := 500) rfl rfl
    have c_7 := RS_u g8 (a := (N.2.1 77 10).toInt) (by omega)
    unfold x_R at c_7
    refine tt_gI (pc := 23) rw_173_23 (g_o hG rfl) (v := (N.2.1 77 8)) rfl (b_ieq (pc := 26) rw_173_26 (A := (N.2.1 77 8).toInt) rfl (fun h8 => ?_) (fun h8 => ?_))
    · refine to_an (pc := 53) rw_173_53 rfl (s_v (pc := 54) rw_173_54 (dp0 hd (by decide)) (ls0 := [.ref 77, .null]) rfl (Nat.le_of_ble_eq_true rfl) (Nat.le_of_ble_eq_true rfl) rfl (to_rc rfl rfl rfl (g_o hG rfl)) rfl (E_165 hX (dp1 hd (by decide)) hG  (fun M15 hG10 F9 p_11 p_12 p_13 p_14 => ?_)))
      have F16 := FR.c F0 F9 tg_81
      have b_17 := g_b hG10 (a := 77) (i := 28) (lo := 0) (hi := 30) rfl rfl
      have b_18 := g_b hG10 (a := 77) (i := 29) (lo := 0) (hi := 150) rfl rfl
      refine to_in (pc := 57) rw_173_57 rfl (to_r0 (pc := 58) rw_173_58 ?_)
      exact h x2 M15 hG10 F16 (by omega) (fun _ => IVr_e (by omega) i_2 (by omega) rfl) (by omega) (by omega) (by omega) (fun z => by exfalso; omega) (fun _ => ⟨sg, (by rw [← i_2]; exact x_plan_e (by omega) (by omega)), p_14 sg ⟨i_1.1, i_1.2⟩⟩)
    · refine to_an (pc := 29) rw_173_29 rfl (to_in (pc := 30) rw_173_30 rfl (b_ine (pc := 31) rw_173_31 (A := x2.toInt) rfl (fun h19 => ?_) (fun h19 => ?_)))
      · refine to_c (pc := 38) rw_173_38 (x := (0 : Int32)) rfl rfl (s_v (pc := 39) rw_173_39 (dp0 hd (by decide)) (ls0 := [.ref 77, .int (0 : Int32)]) rfl (Nat.le_of_ble_eq_true rfl) (Nat.le_of_ble_eq_true rfl) rfl (to_rc rfl rfl rfl (g_o hG rfl)) rfl ?_)
        have k_20 : (0 : Int32).toInt = 0 := rfl
        refine E_172 hX (dp1 hd (by decide)) hG g8 (by omega) (by omega) (by omega) g9 g10 i_1.1 i_1.2 (by omega) (by omega) (by omega) (by omega) (by omega) (x := (0 : Int32)) (t := t) (nn := nn) (a := (N.2.1 77 10).toInt) (sg := sg) (L := x2.toInt) (fu := (22 - x2.toInt).toNat) (fun r21 M29 hG23 F22 p_24 p_25 p_26 p_27 p_28 => ?_)
        have F30 := FR.c F0 F22 tg_82
        rcases (show r21.toInt = 0 ∨ r21.toInt = 1 by omega) with h31 | h31
        · skip
          have p_32 := p_27 (by omega)
          clear p_27 p_28
          refine b_ine_f (pc := 42) rw_173_42 (A := r21.toInt) rfl (by omega) (to_c (pc := 45) rw_173_45 (x := (-1 : Int32)) rfl rfl (to_r0 (pc := 46) rw_173_46 ?_))
          have k_33 : (-1 : Int32).toInt = -1 := rfl
          have c_34 : M29.2.1 77 28 = (N.2.1 77 28) := (F_n F22 (show ¬ (77 = 77 ∧ (28 = 4 ∨ 28 = 5 ∨ 7 ≤ 28 ∧ 28 ≤ 10 ∨ 14 ≤ 28 ∧ 28 ≤ 16 ∨ 28 = 25) ∨ 80 ≤ 77 ∧ 77 ≤ 84 ∧ 8 ≤ 28 ∨ 85 ≤ 77 ∧ 77 ≤ 87 ∧ 12 ≤ 28) by decide) rfl)
          have t_35 : (M29.2.1 77 28).toInt = (N.2.1 77 28).toInt := congrArg Int32.toInt c_34
          have c_36 : M29.2.1 77 29 = (N.2.1 77 29) := (F_n F22 (show ¬ (77 = 77 ∧ (29 = 4 ∨ 29 = 5 ∨ 7 ≤ 29 ∧ 29 ≤ 10 ∨ 14 ≤ 29 ∧ 29 ≤ 16 ∨ 29 = 25) ∨ 80 ≤ 77 ∧ 77 ≤ 84 ∧ 8 ≤ 29 ∨ 85 ≤ 77 ∧ 77 ≤ 87 ∧ 12 ≤ 29) by decide) rfl)
          have t_37 : (M29.2.1 77 29).toInt = (N.2.1 77 29).toInt := congrArg Int32.toInt c_36
          have c_38 : M29.2.1 77 41 = (N.2.1 77 41) := (F_n F22 (show ¬ (77 = 77 ∧ (41 = 4 ∨ 41 = 5 ∨ 7 ≤ 41 ∧ 41 ≤ 10 ∨ 14 ≤ 41 ∧ 41 ≤ 16 ∨ 41 = 25) ∨ 80 ≤ 77 ∧ 77 ≤ 84 ∧ 8 ≤ 41 ∨ 85 ≤ 77 ∧ 77 ≤ 87 ∧ 12 ≤ 41) by decide) rfl)
          have t_39 : (M29.2.1 77 41).toInt = (N.2.1 77 41).toInt := congrArg Int32.toInt c_38
          exact h (-1 : Int32) M29 hG23 F30 (by omega) (fun _ => Or.inl ⟨IVr_l (by omega) (by omega) i_2 (by omega) p_32, rfl⟩) (by omega) (by omega) (by omega) (fun _ => (fun s9 h9 => PLk2_f (fun a i z => (F_n F22 (show ¬ (a = 77 ∧ (i = 4 ∨ i = 5 ∨ 7 ≤ i ∧ i ≤ 10 ∨ 14 ≤ i ∧ i ≤ 16 ∨ i = 25) ∨ 80 ≤ a ∧ a ≤ 84 ∧ 8 ≤ i ∨ 85 ≤ a ∧ a ≤ 87 ∧ 12 ≤ i) by omega) rfl)) (fun i hi9 => (F_nl F22 (show ¬ (87 = 77 ∧ (i = 4 ∨ i = 5 ∨ 7 ≤ i ∧ i ≤ 10 ∨ 14 ≤ i ∧ i ≤ 16 ∨ i = 25) ∨ 80 ≤ 87 ∧ 87 ≤ 84 ∧ 8 ≤ i ∨ 85 ≤ 87 ∧ 87 ≤ 87 ∧ 12 ≤ i) by omega) rfl)) (g14 s9 h9))) (fun z => by exfalso; omega)
        · skip
          have p_40 := p_28 (by omega)
          clear p_27 p_28
          refine b_ine_t (pc := 42) rw_173_42 (A := r21.toInt) rfl (by omega) (s_inc (pc := 47) rw_173_47 (ls2 := fun v => [.ref 77, u1, .int v]) rfl rfl (fun _ => rfl) (A := x2.toInt) (B := 1) rfl rfl (by omega) (fun v41 e42 => to_go (pc := 50) rw_173_50 ?_))
          have j_43 := (TR_f (tg_69 F22) g9)
          have j_44 := (W9_f (tg_70 F22) g10)
          have c_45 : M29.2.1 77 28 = (N.2.1 77 28) := (F_n F22 (show ¬ (77 = 77 ∧ (28 = 4 ∨ 28 = 5 ∨ 7 ≤ 28 ∧ 28 ≤ 10 ∨ 14 ≤ 28 ∧ 28 ≤ 16 ∨ 28 = 25) ∨ 80 ≤ 77 ∧ 77 ≤ 84 ∧ 8 ≤ 28 ∨ 85 ≤ 77 ∧ 77 ≤ 87 ∧ 12 ≤ 28) by decide) rfl)
          have t_46 : (M29.2.1 77 28).toInt = (N.2.1 77 28).toInt := congrArg Int32.toInt c_45
          have c_47 : M29.2.1 77 29 = (N.2.1 77 29) := (F_n F22 (show ¬ (77 = 77 ∧ (29 = 4 ∨ 29 = 5 ∨ 7 ≤ 29 ∧ 29 ≤ 10 ∨ 14 ≤ 29 ∧ 29 ≤ 16 ∨ 29 = 25) ∨ 80 ≤ 77 ∧ 77 ≤ 84 ∧ 8 ≤ 29 ∨ 85 ≤ 77 ∧ 77 ≤ 87 ∧ 12 ≤ 29) by decide) rfl)
          have t_48 : (M29.2.1 77 29).toInt = (N.2.1 77 29).toInt := congrArg Int32.toInt c_47
          have c_49 : M29.2.1 77 41 = (N.2.1 77 41) := (F_n F22 (show ¬ (77 = 77 ∧ (41 = 4 ∨ 41 = 5 ∨ 7 ≤ 41 ∧ 41 ≤ 10 ∨ 14 ≤ 41 ∧ 41 ≤ 16 ∨ 41 = 25) ∨ 80 ≤ 77 ∧ 77 ≤ 84 ∧ 8 ≤ 41 ∨ 85 ≤ 77 ∧ 77 ≤ 87 ∧ 12 ≤ 41) by decide) rfl)
          have t_50 : (M29.2.1 77 41).toInt = (N.2.1 77 41).toInt := congrArg Int32.toInt c_49
          have b_51 := g_b hG23 (a := 77) (i := 10) (lo := 0) (hi := 500) rfl rfl
          exact ih M29 (u1) v41 hG23 F30 (by omega) (by omega) (by omega) (by omega) (by omega) (by omega) (by omega) p_26 j_43 j_44 (by omega) (by omega) (by omega) (fun s9 h9 => PLk2_f (fun a i z => (F_n F22 (show ¬ (a = 77 ∧ (i = 4 ∨ i = 5 ∨ 7 ≤ i ∧ i ≤ 10 ∨ 14 ≤ i ∧ i ≤ 16 ∨ i = 25) ∨ 80 ≤ a ∧ a ≤ 84 ∧ 8 ≤ i ∨ 85 ≤ a ∧ a ≤ 87 ∧ 12 ≤ i) by omega) rfl)) (fun i hi9 => (F_nl F22 (show ¬ (87 = 77 ∧ (i = 4 ∨ i = 5 ∨ 7 ≤ i ∧ i ≤ 10 ∨ 14 ≤ i ∧ i ≤ 16 ∨ i = 25) ∨ 80 ≤ 87 ∧ 87 ≤ 84 ∧ 8 ≤ i ∨ 85 ≤ 87 ∧ 87 ≤ 87 ∧ 12 ≤ i) by omega) rfl)) (g14 s9 h9)) (IVr_s (by omega) (by omega) i_2 (by omega) i_3 i_4 p_40 rfl (by omega)) (by omega)
      · refine to_c (pc := 34) rw_173_34 (x := (1 : Int32)) rfl rfl (to_go (pc := 35) rw_173_35 (s_v (pc := 39) rw_173_39 (dp0 hd (by decide)) (ls0 := [.ref 77, .int (1 : Int32)]) rfl (Nat.le_of_ble_eq_true rfl) (Nat.le_of_ble_eq_true rfl) rfl (to_rc rfl rfl rfl (g_o hG rfl)) rfl ?_))
        have k_52 : (1 : Int32).toInt = 1 := rfl
        refine E_172 hX (dp1 hd (by decide)) hG g8 (by omega) (by omega) (by omega) g9 g10 i_1.1 i_1.2 (by omega) (by omega) (by omega) (by omega) (by omega) (x := (1 : Int32)) (t := t) (nn := nn) (a := (N.2.1 77 10).toInt) (sg := sg) (L := x2.toInt) (fu := (22 - x2.toInt).toNat) (fun r53 M61 hG55 F54 p_56 p_57 p_58 p_59 p_60 => ?_)
        have F62 := FR.c F0 F54 tg_82
        rcases (show r53.toInt = 0 ∨ r53.toInt = 1 by omega) with h63 | h63
        · skip
          have p_64 := p_59 (by omega)
          clear p_59 p_60
          refine b_ine_f (pc := 42) rw_173_42 (A := r53.toInt) rfl (by omega) (to_c (pc := 45) rw_173_45 (x := (-1 : Int32)) rfl rfl (to_r0 (pc := 46) rw_173_46 ?_))
          have k_65 : (-1 : Int32).toInt = -1 := rfl
          have c_66 : M61.2.1 77 28 = (N.2.1 77 28) := (F_n F54 (show ¬ (77 = 77 ∧ (28 = 4 ∨ 28 = 5 ∨ 7 ≤ 28 ∧ 28 ≤ 10 ∨ 14 ≤ 28 ∧ 28 ≤ 16 ∨ 28 = 25) ∨ 80 ≤ 77 ∧ 77 ≤ 84 ∧ 8 ≤ 28 ∨ 85 ≤ 77 ∧ 77 ≤ 87 ∧ 12 ≤ 28) by decide) rfl)
          have t_67 : (M61.2.1 77 28).toInt = (N.2.1 77 28).toInt := congrArg Int32.toInt c_66
          have c_68 : M61.2.1 77 29 = (N.2.1 77 29) := (F_n F54 (show ¬ (77 = 77 ∧ (29 = 4 ∨ 29 = 5 ∨ 7 ≤ 29 ∧ 29 ≤ 10 ∨ 14 ≤ 29 ∧ 29 ≤ 16 ∨ 29 = 25) ∨ 80 ≤ 77 ∧ 77 ≤ 84 ∧ 8 ≤ 29 ∨ 85 ≤ 77 ∧ 77 ≤ 87 ∧ 12 ≤ 29) by decide) rfl)
          have t_69 : (M61.2.1 77 29).toInt = (N.2.1 77 29).toInt := congrArg Int32.toInt c_68
          have c_70 : M61.2.1 77 41 = (N.2.1 77 41) := (F_n F54 (show ¬ (77 = 77 ∧ (41 = 4 ∨ 41 = 5 ∨ 7 ≤ 41 ∧ 41 ≤ 10 ∨ 14 ≤ 41 ∧ 41 ≤ 16 ∨ 41 = 25) ∨ 80 ≤ 77 ∧ 77 ≤ 84 ∧ 8 ≤ 41 ∨ 85 ≤ 77 ∧ 77 ≤ 87 ∧ 12 ≤ 41) by decide) rfl)
          have t_71 : (M61.2.1 77 41).toInt = (N.2.1 77 41).toInt := congrArg Int32.toInt c_70
          exact h (-1 : Int32) M61 hG55 F62 (by omega) (fun _ => Or.inl ⟨IVr_l (by omega) (by omega) i_2 (by omega) p_64, rfl⟩) (by omega) (by omega) (by omega) (fun _ => (fun s9 h9 => PLk2_f (fun a i z => (F_n F54 (show ¬ (a = 77 ∧ (i = 4 ∨ i = 5 ∨ 7 ≤ i ∧ i ≤ 10 ∨ 14 ≤ i ∧ i ≤ 16 ∨ i = 25) ∨ 80 ≤ a ∧ a ≤ 84 ∧ 8 ≤ i ∨ 85 ≤ a ∧ a ≤ 87 ∧ 12 ≤ i) by omega) rfl)) (fun i hi9 => (F_nl F54 (show ¬ (87 = 77 ∧ (i = 4 ∨ i = 5 ∨ 7 ≤ i ∧ i ≤ 10 ∨ 14 ≤ i ∧ i ≤ 16 ∨ i = 25) ∨ 80 ≤ 87 ∧ 87 ≤ 84 ∧ 8 ≤ i ∨ 85 ≤ 87 ∧ 87 ≤ 87 ∧ 12 ≤ i) by omega) rfl)) (g14 s9 h9))) (fun z => by exfalso; omega)
        · skip
          have p_72 := p_60 (by omega)
          clear p_59 p_60
          refine b_ine_t (pc := 42) rw_173_42 (A := r53.toInt) rfl (by omega) (s_inc (pc := 47) rw_173_47 (ls2 := fun v => [.ref 77, u1, .int v]) rfl rfl (fun _ => rfl) (A := x2.toInt) (B := 1) rfl rfl (by omega) (fun v73 e74 => to_go (pc := 50) rw_173_50 ?_))
          have j_75 := (TR_f (tg_69 F54) g9)
          have j_76 := (W9_f (tg_70 F54) g10)
          have c_77 : M61.2.1 77 28 = (N.2.1 77 28) := (F_n F54 (show ¬ (77 = 77 ∧ (28 = 4 ∨ 28 = 5 ∨ 7 ≤ 28 ∧ 28 ≤ 10 ∨ 14 ≤ 28 ∧ 28 ≤ 16 ∨ 28 = 25) ∨ 80 ≤ 77 ∧ 77 ≤ 84 ∧ 8 ≤ 28 ∨ 85 ≤ 77 ∧ 77 ≤ 87 ∧ 12 ≤ 28) by decide) rfl)
          have t_78 : (M61.2.1 77 28).toInt = (N.2.1 77 28).toInt := congrArg Int32.toInt c_77
          have c_79 : M61.2.1 77 29 = (N.2.1 77 29) := (F_n F54 (show ¬ (77 = 77 ∧ (29 = 4 ∨ 29 = 5 ∨ 7 ≤ 29 ∧ 29 ≤ 10 ∨ 14 ≤ 29 ∧ 29 ≤ 16 ∨ 29 = 25) ∨ 80 ≤ 77 ∧ 77 ≤ 84 ∧ 8 ≤ 29 ∨ 85 ≤ 77 ∧ 77 ≤ 87 ∧ 12 ≤ 29) by decide) rfl)
          have t_80 : (M61.2.1 77 29).toInt = (N.2.1 77 29).toInt := congrArg Int32.toInt c_79
          have c_81 : M61.2.1 77 41 = (N.2.1 77 41) := (F_n F54 (show ¬ (77 = 77 ∧ (41 = 4 ∨ 41 = 5 ∨ 7 ≤ 41 ∧ 41 ≤ 10 ∨ 14 ≤ 41 ∧ 41 ≤ 16 ∨ 41 = 25) ∨ 80 ≤ 77 ∧ 77 ≤ 84 ∧ 8 ≤ 41 ∨ 85 ≤ 77 ∧ 77 ≤ 87 ∧ 12 ≤ 41) by decide) rfl)
          have t_82 : (M61.2.1 77 41).toInt = (N.2.1 77 41).toInt := congrArg Int32.toInt c_81
          have b_83 := g_b hG55 (a := 77) (i := 10) (lo := 0) (hi := 500) rfl rfl
          exact ih M61 (u1) v73 hG55 F62 (by omega) (by omega) (by omega) (by omega) (by omega) (by omega) (by omega) p_58 j_75 j_76 (by omega) (by omega) (by omega) (fun s9 h9 => PLk2_f (fun a i z => (F_n F54 (show ¬ (a = 77 ∧ (i = 4 ∨ i = 5 ∨ 7 ≤ i ∧ i ≤ 10 ∨ 14 ≤ i ∧ i ≤ 16 ∨ i = 25) ∨ 80 ≤ a ∧ a ≤ 84 ∧ 8 ≤ i ∨ 85 ≤ a ∧ a ≤ 87 ∧ 12 ≤ i) by omega) rfl)) (fun i hi9 => (F_nl F54 (show ¬ (87 = 77 ∧ (i = 4 ∨ i = 5 ∨ 7 ≤ i ∧ i ≤ 10 ∨ 14 ≤ i ∧ i ≤ 16 ∨ i = 25) ∨ 80 ≤ 87 ∧ 87 ≤ 84 ∧ 8 ≤ i ∨ 85 ≤ 87 ∧ 87 ≤ 87 ∧ 12 ≤ i) by omega) rfl)) (g14 s9 h9)) (IVr_s (by omega) (by omega) i_2 (by omega) i_3 i_4 p_72 rfl (by omega)) (by omega)
set_option maxRecDepth 4000 in
set_option maxHeartbeats 0 in
theorem E_173 {X : mm_X} {d : Nat} {M : mm_M} {Q : Option Value → mm_M → Prop} {n : Int32} {t : Nat → Int} {nn : Int} (hX : g_X X) (hd : 5 ≤ d) (hG : g_G M) (q1 : (M.2.1 77 7).toInt ≤ (M.2.1 77 6).toInt) (q2 : 0 ≤ n.toInt ∧ n.toInt ≤ (M.2.1 77 1).toInt → n.toInt = nn) (q3 : TR M t nn) (q4 : W9 M) (h : ∀ (r : Int32) (M1 : mm_M), g_G M1 → FR md_P M M1 → (n.toInt < 0 ∨ (M.2.1 77 1).toInt < n.toInt → r.toInt = -2) → ((0 ≤ n.toInt ∧ n.toInt ≤ (M.2.1 77 1).toInt → PAN (x_plan t nn 23 0 x_s0 (x_sk t nn 0)) r.toInt)) → (-2 ≤ r.toInt) → (r.toInt < 0 → (M1.2.1 77 28).toInt = (M.2.1 77 28).toInt ∧ (M1.2.1 77 29).toInt = (M.2.1 77 29).toInt ∧ (M1.2.1 77 41).toInt = (M.2.1 77 41).toInt) → (0 ≤ r.toInt → (M1.2.1 77 28).toInt = 0 ∧ (M1.2.1 77 29).toInt = 0 ∧ (M1.2.1 77 41).toInt = 0) → ((r.toInt < 0 → ∀ s9 : x_S, PLk2 M s9 → PLk2 M1 s9)) → ((0 ≤ r.toInt → ∃ s2 : x_S, x_plan t nn 23 0 x_s0 (x_sk t nn 0) = some (r.toInt, s2) ∧ PLk2 M1 s2)) → Q (some (.int r)) M1) : mm_T X d 172 0 [.ref 77, .int n, .null] [] M Q := by
  have F0 : FR md_P M M := FR.rf
  have b_84 := g_b hG (a := 77) (i := 7) (lo := 0) (hi := 500) rfl rfl
  have b_85 := g_b hG (a := 77) (i := 6) (lo := 0) (hi := 500) rfl rfl
  have b_86 := g_b hG (a := 77) (i := 1) (lo := 0) (hi := 500) rfl rfl
  refine to_an (pc := 0) rw_173_0 rfl (to_c (pc := 1) rw_173_1 (x := (0 : Int32)) rfl rfl (s_pI (pc := 2) rw_173_2 hG rfl (fun M88 W87 => ?_)))
  have hG89 := g_wf hG W87 rfl rfl (by decide)
  have F90 := FR.w F0 W87 (show 77 = 77 ∨ 79 < 77 ∧ 77 ≤ 87 ∨ 77 = 100 by decide)
  refine to_an (pc := 5) rw_173_5 rfl (to_in (pc := 6) rw_173_6 rfl (s_v (pc := 7) rw_173_7 (dp0 hd (by decide)) (ls0 := [.ref 77, .int n]) rfl (Nat.le_of_ble_eq_true rfl) (Nat.le_of_ble_eq_true rfl) rfl (to_rc rfl rfl rfl (g_o hG89 rfl)) rfl ?_))
  have c_91 : M88.2.1 77 1 = (M.2.1 77 1) := (W_n W87 (by decide) rfl)
  have t_92 : (M88.2.1 77 1).toInt = (M.2.1 77 1).toInt := congrArg Int32.toInt c_91
  have c_93 : M88.2.1 77 7 = (M.2.1 77 7) := (W_n W87 (by decide) rfl)
  have t_94 : (M88.2.1 77 7).toInt = (M.2.1 77 7).toInt := congrArg Int32.toInt c_93
  have c_95 : M88.2.1 77 6 = (M.2.1 77 6) := (W_n W87 (by decide) rfl)
  have t_96 : (M88.2.1 77 6).toInt = (M.2.1 77 6).toInt := congrArg Int32.toInt c_95
  have j_97 := (TR_f (fun a i z => W_n W87 (tg_88 a i z) rfl) q3)
  have j_98 := (W9_f (fun a i z => W_n W87 (tg_89 a i z) rfl) q4)
  refine E_163 hX (dp1 hd (by decide)) hG89 (by omega) (by omega) j_97 j_98 (n := n) (fun r99 M108 hG101 F100 p_102 p_103 p_104 p_105 p_106 p_107 => ?_)
  have F109 := FR.c F90 F100 tg_83
  have b_110 := g_b hG101 (a := 77) (i := 7) (lo := 0) (hi := 500) rfl rfl
  have b_111 := g_b hG101 (a := 77) (i := 6) (lo := 0) (hi := 500) rfl rfl
  have b_112 := g_b hG101 (a := 77) (i := 1) (lo := 0) (hi := 500) rfl rfl
  rcases (show r99.toInt = 0 ∨ r99.toInt = 1 by omega) with h113 | h113
  · skip
    clear p_107
    refine b_ine_f (pc := 10) rw_173_10 (A := r99.toInt) rfl (by omega) (to_c (pc := 13) rw_173_13 (x := (-2 : Int32)) rfl rfl (to_r0 (pc := 15) rw_173_15 ?_))
    have k_114 : (-2 : Int32).toInt = -2 := rfl
    have c_115 : M108.2.1 77 28 = (M.2.1 77 28) := (F_n F100 (show ¬ (77 = 77 ∧ (28 = 1 ∨ 4 ≤ 28 ∧ 28 ≤ 10)) by decide) (W_n W87 (by decide) rfl))
    have b_116 := g_b hG (a := 77) (i := 28) (lo := 0) (hi := 30) rfl rfl
    have t_117 : (M108.2.1 77 28).toInt = (M.2.1 77 28).toInt := congrArg Int32.toInt c_115
    have c_118 : M108.2.1 77 29 = (M.2.1 77 29) := (F_n F100 (show ¬ (77 = 77 ∧ (29 = 1 ∨ 4 ≤ 29 ∧ 29 ≤ 10)) by decide) (W_n W87 (by decide) rfl))
    have b_119 := g_b hG (a := 77) (i := 29) (lo := 0) (hi := 150) rfl rfl
    have t_120 : (M108.2.1 77 29).toInt = (M.2.1 77 29).toInt := congrArg Int32.toInt c_118
    have c_121 : M108.2.1 77 41 = (M.2.1 77 41) := (F_n F100 (show ¬ (77 = 77 ∧ (41 = 1 ∨ 4 ≤ 41 ∧ 41 ≤ 10)) by decide) (W_n W87 (by decide) rfl))
    have t_122 : (M108.2.1 77 41).toInt = (M.2.1 77 41).toInt := congrArg Int32.toInt c_121
    exact h (-2 : Int32) M108 hG101 F109 (by omega) (fun z => by exfalso; omega) (by omega) (by omega) (by omega) (fun _ => (fun s9 h9 => PLk2_f (fun a i z => (F_n F100 (show ¬ (a = 77 ∧ (i = 1 ∨ 4 ≤ i ∧ i ≤ 10)) by omega) (W_n W87 (by /-r77,2-/ omega) rfl))) (fun i hi9 => (F_nl F100 (show ¬ (87 = 77 ∧ (i = 1 ∨ 4 ≤ i ∧ i ≤ 10)) by omega) (W_j W87 rfl))) h9)) (fun z => by exfalso; omega)
  · skip
    have p_123 := p_107 (by omega)
    clear p_107
    have b_124 := g_b hG101 (a := 77) (i := 10) (lo := 0) (hi := 500) rfl rfl
    have z_125 := p_123.2
    refine b_ine_t (pc := 10) rw_173_10 (A := r99.toInt) rfl (by omega) (to_an (pc := 16) rw_173_16 rfl (s_v (pc := 17) rw_173_17 (dp0 hd (by decide)) (ls0 := [.ref 77]) rfl (Nat.le_of_ble_eq_true rfl) (Nat.le_of_ble_eq_true rfl) rfl (to_rc rfl rfl rfl (g_o hG101 rfl)) rfl (E_164 hX (dp1 hd (by decide)) hG101  (fun M129 hG127 F126 p_128 => ?_))))
    have F130 := FR.c F109 F126 tg_84
    refine to_c (pc := 20) rw_173_20 (x := (0 : Int32)) rfl rfl (to_isn (pc := 21) rw_173_21 (ls2 := [.ref 77, .int n, .int (0 : Int32)]) rfl rfl ?_)
    have k_131 : (0 : Int32).toInt = 0 := rfl
    have j_132 := (RS_f (tg_71 F126) p_123.1)
    have j_133 := (TR_f (tg_72 F126) (TR_f (tg_73 F100) j_97))
    have j_134 := (W9_f (tg_74 F126) (W9_f (tg_75 F100) j_98))
    have c_135 : M129.2.1 77 28 = (M.2.1 77 28) := (F_n F126 (show ¬ (77 = 77 ∧ (14 ≤ 28 ∧ 28 ≤ 16 ∨ 28 = 25)) by decide) (F_n F100 (show ¬ (77 = 77 ∧ (28 = 1 ∨ 4 ≤ 28 ∧ 28 ≤ 10)) by decide) (W_n W87 (by decide) rfl)))
    have b_136 := g_b hG (a := 77) (i := 28) (lo := 0) (hi := 30) rfl rfl
    have t_137 : (M129.2.1 77 28).toInt = (M.2.1 77 28).toInt := congrArg Int32.toInt c_135
    have c_138 : M129.2.1 77 29 = (M.2.1 77 29) := (F_n F126 (show ¬ (77 = 77 ∧ (14 ≤ 29 ∧ 29 ≤ 16 ∨ 29 = 25)) by decide) (F_n F100 (show ¬ (77 = 77 ∧ (29 = 1 ∨ 4 ≤ 29 ∧ 29 ≤ 10)) by decide) (W_n W87 (by decide) rfl)))
    have b_139 := g_b hG (a := 77) (i := 29) (lo := 0) (hi := 150) rfl rfl
    have t_140 : (M129.2.1 77 29).toInt = (M.2.1 77 29).toInt := congrArg Int32.toInt c_138
    have c_141 : M129.2.1 77 41 = (M.2.1 77 41) := (F_n F126 (show ¬ (77 = 77 ∧ (14 ≤ 41 ∧ 41 ≤ 16 ∨ 41 = 25)) by decide) (F_n F100 (show ¬ (77 = 77 ∧ (41 = 1 ∨ 4 ≤ 41 ∧ 41 ≤ 10)) by decide) (W_n W87 (by decide) rfl)))
    have t_142 : (M129.2.1 77 41).toInt = (M.2.1 77 41).toInt := congrArg Int32.toInt c_141
    have c_143 : M129.2.1 77 10 = (M108.2.1 77 10) := (F_n F126 (show ¬ (77 = 77 ∧ (14 ≤ 10 ∧ 10 ≤ 16 ∨ 10 = 25)) by decide) rfl)
    have t_144 : (M129.2.1 77 10).toInt = (M108.2.1 77 10).toInt := congrArg Int32.toInt c_143
    exact (U_173_0 (n := n) (t := t) (nn := nn) hX hd q1 q2 q3 q4 h ((22 - (0 : Int32).toInt).toNat + 1)) M129 (.int n) (0 : Int32) hG127 F130 (by omega) (by omega) (by omega) (by omega) (by omega) (by omega) (by omega) j_132 j_133 j_134 (by omega) (by omega) (by omega) (fun s9 h9 => PLk2_f (fun a i z => (F_n F126 (show ¬ (a = 77 ∧ (14 ≤ i ∧ i ≤ 16 ∨ i = 25)) by omega) (F_n F100 (show ¬ (a = 77 ∧ (i = 1 ∨ 4 ≤ i ∧ i ≤ 10)) by omega) (W_n W87 (by /-r77,2-/ omega) rfl)))) (fun i hi9 => (F_nl F126 (show ¬ (87 = 77 ∧ (14 ≤ i ∧ i ≤ 16 ∨ i = 25)) by omega) (F_nl F100 (show ¬ (87 = 77 ∧ (i = 1 ∨ 4 ≤ i ∧ i ≤ 10)) by omega) (W_j W87 rfl)))) h9) (IVr_0 ⟨p_128, CWr_0⟩ (by omega) (by omega)) (by omega)
