theorem tg_64 {M M1 : mm_M} (F : FR (fun a i : Nat => a = 77 ∧ (i = 4 ∨ i = 5 ∨ 7 ≤ i ∧ i ≤ 10 ∨ i = 16) ∨ 85 ≤ a ∧ a ≤ 87 ∧ 12 ≤ i) M M1) : ∀ a i : Nat, a = 78 → M1.2.1 a i = M.2.1 a i := fun a i z => F_n F (show ¬ (a = 77 ∧ (i = 4 ∨ i = 5 ∨ 7 ≤ i ∧ i ≤ 10 ∨ i = 16) ∨ 85 ≤ a ∧ a ≤ 87 ∧ 12 ≤ i) by omega) rfl
theorem tg_65 {M M1 : mm_M} (F : FR (fun a i : Nat => a = 77 ∧ (i = 4 ∨ i = 5 ∨ 7 ≤ i ∧ i ≤ 10 ∨ i = 16) ∨ 85 ≤ a ∧ a ≤ 87 ∧ 12 ≤ i) M M1) : ∀ a i : Nat, a = 79 → M1.2.1 a i = M.2.1 a i := fun a i z => F_n F (show ¬ (a = 77 ∧ (i = 4 ∨ i = 5 ∨ 7 ≤ i ∧ i ≤ 10 ∨ i = 16) ∨ 85 ≤ a ∧ a ≤ 87 ∧ 12 ≤ i) by omega) rfl
theorem tg_66 {M M1 : mm_M} (F : FR (fun a i : Nat => a = 77 ∧ (i = 4 ∨ i = 5 ∨ 7 ≤ i ∧ i ≤ 10 ∨ i = 15 ∨ i = 25) ∨ 80 ≤ a ∧ a ≤ 84 ∧ 8 ≤ i) M M1) : ∀ a i : Nat, a = 78 → M1.2.1 a i = M.2.1 a i := fun a i z => F_n F (show ¬ (a = 77 ∧ (i = 4 ∨ i = 5 ∨ 7 ≤ i ∧ i ≤ 10 ∨ i = 15 ∨ i = 25) ∨ 80 ≤ a ∧ a ≤ 84 ∧ 8 ≤ i) by omega) rfl
theorem tg_67 {M M1 : mm_M} (F : FR (fun a i : Nat => a = 77 ∧ (i = 4 ∨ i = 5 ∨ 7 ≤ i ∧ i ≤ 10 ∨ i = 15 ∨ i = 25) ∨ 80 ≤ a ∧ a ≤ 84 ∧ 8 ≤ i) M M1) : ∀ a i : Nat, a = 79 → M1.2.1 a i = M.2.1 a i := fun a i z => F_n F (show ¬ (a = 77 ∧ (i = 4 ∨ i = 5 ∨ 7 ≤ i ∧ i ≤ 10 ∨ i = 15 ∨ i = 25) ∨ 80 ≤ a ∧ a ≤ 84 ∧ 8 ≤ i) by omega) rfl
theorem tg_68 {M M1 : mm_M} {s : x_S} (F : FR (fun a i : Nat => a = 77 ∧ (i = 4 ∨ i = 5 ∨ 7 ≤ i ∧ i ≤ 10)) M M1) : ∀ a i : Nat, (a = 77 ∧ 14 ≤ i ∧ i ≤ 16 ∨ 80 ≤ a ∧ a ≤ 84 ∧ 8 ≤ i ∧ (i : Int) < s.2.1 + 8 ∨ 85 ≤ a ∧ a ≤ 86 ∧ 12 ≤ i ∧ (i : Int) < s.2.2.1 + 12) → M1.2.1 a i = M.2.1 a i := fun a i z => F_n F (show ¬ (a = 77 ∧ (i = 4 ∨ i = 5 ∨ 7 ≤ i ∧ i ≤ 10)) by omega) rfl
theorem tg_69 {M M1 : mm_M} (F : FR (fun a i : Nat => a = 77 ∧ (i = 4 ∨ i = 5 ∨ 7 ≤ i ∧ i ≤ 10 ∨ 14 ≤ i ∧ i ≤ 16 ∨ i = 25) ∨ 80 ≤ a ∧ a ≤ 84 ∧ 8 ≤ i ∨ 85 ≤ a ∧ a ≤ 87 ∧ 12 ≤ i) M M1) : ∀ a i : Nat, a = 78 → M1.2.1 a i = M.2.1 a i := fun a i z => F_n F (show ¬ (a = 77 ∧ (i = 4 ∨ i = 5 ∨ 7 ≤ i ∧ i ≤ 10 ∨ 14 ≤ i ∧ i ≤ 16 ∨ i = 25) ∨ 80 ≤ a ∧ a ≤ 84 ∧ 8 ≤ i ∨ 85 ≤ a ∧ a ≤ 87 ∧ 12 ≤ i) by omega) rfl
theorem tg_70 {M M1 : mm_M} (F : FR (fun a i : Nat => a = 77 ∧ (i = 4 ∨ i = 5 ∨ 7 ≤ i ∧ i ≤ 10 ∨ 14 ≤ i ∧ i ≤ 16 ∨ i = 25) ∨ 80 ≤ a ∧ a ≤ 84 ∧ 8 ≤ i ∨ 85 ≤ a ∧ a ≤ 87 ∧ 12 ≤ i) M M1) : ∀ a i : Nat, a = 79 → M1.2.1 a i = M.2.1 a i := fun a i z => F_n F (show ¬ (a = 77 ∧ (i = 4 ∨ i = 5 ∨ 7 ≤ i ∧ i ≤ 10 ∨ 14 ≤ i ∧ i ≤ 16 ∨ i = 25) ∨ 80 ≤ a ∧ a ≤ 84 ∧ 8 ≤ i ∨ 85 ≤ a ∧ a ≤ 87 ∧ 12 ≤ i) by omega) rfl
theorem tg_71 {M M1 : mm_M} (F : FR (fun a i : Nat => a = 77 ∧ (14 ≤ i ∧ i ≤ 16 ∨ i = 25)) M M1) : ∀ a i : Nat, (a = 77 ∧ 6 ≤ i ∧ i ≤ 10) → M1.2.1 a i = M.2.1 a i := fun a i z => F_n F (show ¬ (a = 77 ∧ (14 ≤ i ∧ i ≤ 16 ∨ i = 25)) by omega) rfl
theorem tg_72 {M M1 : mm_M} (F : FR (fun a i : Nat => a = 77 ∧ (14 ≤ i ∧ i ≤ 16 ∨ i = 25)) M M1) : ∀ a i : Nat, a = 78 → M1.2.1 a i = M.2.1 a i := fun a i z => F_n F (show ¬ (a = 77 ∧ (14 ≤ i ∧ i ≤ 16 ∨ i = 25)) by omega) rfl
theorem tg_73 {M M1 : mm_M} (F : FR (fun a i : Nat => a = 77 ∧ (i = 1 ∨ 4 ≤ i ∧ i ≤ 10)) M M1) : ∀ a i : Nat, a = 78 → M1.2.1 a i = M.2.1 a i := fun a i z => F_n F (show ¬ (a = 77 ∧ (i = 1 ∨ 4 ≤ i ∧ i ≤ 10)) by omega) rfl
theorem tg_74 {M M1 : mm_M} (F : FR (fun a i : Nat => a = 77 ∧ (14 ≤ i ∧ i ≤ 16 ∨ i = 25)) M M1) : ∀ a i : Nat, a = 79 → M1.2.1 a i = M.2.1 a i := fun a i z => F_n F (show ¬ (a = 77 ∧ (14 ≤ i ∧ i ≤ 16 ∨ i = 25)) by omega) rfl
theorem tg_75 {M M1 : mm_M} (F : FR (fun a i : Nat => a = 77 ∧ (i = 1 ∨ 4 ≤ i ∧ i ≤ 10)) M M1) : ∀ a i : Nat, a = 79 → M1.2.1 a i = M.2.1 a i := fun a i z => F_n F (show ¬ (a = 77 ∧ (i = 1 ∨ 4 ≤ i ∧ i ≤ 10)) by omega) rfl
theorem tg_76 : ∀ a i : Nat, (a = 77 ∧ (i = 4 ∨ i = 5 ∨ 7 ≤ i ∧ i ≤ 10 ∨ i = 16) ∨ 85 ≤ a ∧ a ≤ 87 ∧ 12 ≤ i) → (a = 77 ∧ (i = 4 ∨ i = 5 ∨ 7 ≤ i ∧ i ≤ 10 ∨ 14 ≤ i ∧ i ≤ 16 ∨ i = 25) ∨ 80 ≤ a ∧ a ≤ 84 ∧ 8 ≤ i ∨ 85 ≤ a ∧ a ≤ 87 ∧ 12 ≤ i) := fun a i z => by omega
theorem tg_77 : ∀ a i : Nat, (a = 77 ∧ (i = 4 ∨ i = 5 ∨ 7 ≤ i ∧ i ≤ 10)) → (a = 77 ∧ (i = 4 ∨ i = 5 ∨ 7 ≤ i ∧ i ≤ 10 ∨ 14 ≤ i ∧ i ≤ 16 ∨ i = 25) ∨ 80 ≤ a ∧ a ≤ 84 ∧ 8 ≤ i ∨ 85 ≤ a ∧ a ≤ 87 ∧ 12 ≤ i) := fun a i z => by omega
theorem tg_78 : ∀ a i : Nat, (a = 77 ∧ (i = 4 ∨ i = 5 ∨ 7 ≤ i ∧ i ≤ 10 ∨ i = 15 ∨ i = 25) ∨ 80 ≤ a ∧ a ≤ 84 ∧ 8 ≤ i) → (a = 77 ∧ (i = 4 ∨ i = 5 ∨ 7 ≤ i ∧ i ≤ 10 ∨ 14 ≤ i ∧ i ≤ 16 ∨ i = 25) ∨ 80 ≤ a ∧ a ≤ 84 ∧ 8 ≤ i ∨ 85 ≤ a ∧ a ≤ 87 ∧ 12 ≤ i) := fun a i z => by omega
theorem tg_79 : ∀ a i : Nat, (a = 77 ∧ 7 ≤ i ∧ i ≤ 10) → (a = 77 ∧ (i = 4 ∨ i = 5 ∨ 7 ≤ i ∧ i ≤ 10 ∨ 14 ≤ i ∧ i ≤ 16 ∨ i = 25) ∨ 80 ≤ a ∧ a ≤ 84 ∧ 8 ≤ i ∨ 85 ≤ a ∧ a ≤ 87 ∧ 12 ≤ i) := fun a i z => by omega
theorem tg_80 : ∀ a i : Nat, (a = 77 ∧ (i = 4 ∨ i = 5)) → (a = 77 ∧ (i = 4 ∨ i = 5 ∨ 7 ≤ i ∧ i ≤ 10 ∨ 14 ≤ i ∧ i ≤ 16 ∨ i = 25) ∨ 80 ≤ a ∧ a ≤ 84 ∧ 8 ≤ i ∨ 85 ≤ a ∧ a ≤ 87 ∧ 12 ≤ i) := fun a i z => by omega
theorem tg_81 : ∀ a i : Nat, (a = 77 ∧ (11 ≤ i ∧ i ≤ 13 ∨ i = 28 ∨ i = 29 ∨ i = 41 ∨ i = 57 ∨ i = 58) ∨ 80 ≤ a ∧ a ≤ 87 ∨ a = 100) → (a = 77 ∨ 79 < a ∧ a ≤ 87 ∨ a = 100) := fun a i z => by omega
theorem tg_82 : ∀ a i : Nat, (a = 77 ∧ (i = 4 ∨ i = 5 ∨ 7 ≤ i ∧ i ≤ 10 ∨ 14 ≤ i ∧ i ≤ 16 ∨ i = 25) ∨ 80 ≤ a ∧ a ≤ 84 ∧ 8 ≤ i ∨ 85 ≤ a ∧ a ≤ 87 ∧ 12 ≤ i) → (a = 77 ∨ 79 < a ∧ a ≤ 87 ∨ a = 100) := fun a i z => by omega
theorem tg_83 : ∀ a i : Nat, (a = 77 ∧ (i = 1 ∨ 4 ≤ i ∧ i ≤ 10)) → (a = 77 ∨ 79 < a ∧ a ≤ 87 ∨ a = 100) := fun a i z => by omega
theorem tg_84 : ∀ a i : Nat, (a = 77 ∧ (14 ≤ i ∧ i ≤ 16 ∨ i = 25)) → (a = 77 ∨ 79 < a ∧ a ≤ 87 ∨ a = 100) := fun a i z => by omega
theorem tg_85 : ∀ a i : Nat, (a = 77 ∧ 6 ≤ i ∧ i ≤ 10) → ¬ (a = 77 ∧ i = 14) := fun a i z => by omega
theorem tg_86 : ∀ a i : Nat, a = 78 → ¬ (a = 77 ∧ i = 14) := fun a i z => by omega
theorem tg_87 : ∀ a i : Nat, a = 79 → ¬ (a = 77 ∧ i = 14) := fun a i z => by omega
theorem tg_88 : ∀ a i : Nat, a = 78 → ¬ (a = 77 ∧ i = 2) := fun a i z => by omega
theorem tg_89 : ∀ a i : Nat, a = 79 → ¬ (a = 77 ∧ i = 2) := fun a i z => by omega
set_option maxRecDepth 4000 in
set_option maxHeartbeats 0 in
theorem E_172 {X : mm_X} {d : Nat} {M : mm_M} {Q : Option Value → mm_M → Prop} {x : Int32} {t : Nat → Int} {nn : Int} {a : Int} {sg : x_S} {L : Int} {fu : Nat} (hX : g_X X) (hd : 4 ≤ d) (hG : g_G M) (q1 : RS M t nn) (q2 : (M.2.1 77 10).toInt = a) (q3 : 0 ≤ nn) (q4 : nn ≤ 500) (q5 : TR M t nn) (q6 : W9 M) (q7 : PLr M sg) (q8 : CWr M sg) (q9 : 0 ≤ x.toInt) (q10 : x.toInt ≤ 1) (q11 : 0 ≤ L) (q12 : x.toInt = 1 → L = 0) (q13 : x.toInt = 0 → 0 < L) (h : ∀ (r : Int32) (M1 : mm_M), g_G M1 → FR md_l172 M M1 → (0 ≤ r.toInt) → (r.toInt ≤ 1) → RS M1 t nn → ((r.toInt = 0 → x_line t nn L sg a (x_kk t nn fu L) = none)) → ((r.toInt = 1 → LOr t nn (x_line t nn L sg a (x_kk t nn fu L)) fu L M1 sg)) → Q (some (.int r)) M1) : mm_T X d 171 0 [.ref 77, .int x] [] M Q := by
  have F0 : FR md_l172 M M := FR.rf
  have b_1 := g_b hG (a := 77) (i := 10) (lo := 0) (hi := 500) rfl rfl
  have z_2 := q7.2.1
  have z_3 := q7.2.2.1
  have z_4 := q7.2.2.2.1
  have z_5 := q7.1
  have z_6 := z_5.1
  have z_7 := z_5.2.1
  have z_8 := z_5.2.2.1
  have z_9 := z_5.2.2.2.1
  have z_10 := z_5.2.2.2.2.1
  have z_11 := z_5.2.2.2.2.2.1
  have b_12 := g_b hG (a := 77) (i := 14) (lo := 10) (hi := 60) rfl rfl
  have b_13 := g_b hG (a := 77) (i := 15) (lo := 0) (hi := 8) rfl rfl
  have b_14 := g_b hG (a := 77) (i := 16) (lo := 0) (hi := 12) rfl rfl
  have b_15 := g_b hG (a := 77) (i := 8) (lo := 0) (hi := 5) rfl rfl
  have c_16 := RS_u q1 (a := a) (by omega)
  unfold x_R at c_16
  refine to_an (pc := 0) rw_172_0 rfl (tt_gI (pc := 1) rw_172_1 (g_o hG rfl) (v := (M.2.1 77 8)) rfl (to_c (pc := 4) rw_172_4 (x := (1 : Int32)) rfl rfl (b_cne (pc := 5) rw_172_5 (A := (M.2.1 77 8).toInt) (B := 1) rfl rfl (fun h17 => ?_) (fun h17 => ?_))))
  · refine to_an (pc := 27) rw_172_27 rfl (to_c (pc := 28) rw_172_28 (x := (1 : Int32)) rfl rfl (s_v (pc := 29) rw_172_29 (dp0 hd (by decide)) (ls0 := [.ref 77, .int (1 : Int32)]) rfl (Nat.le_of_ble_eq_true rfl) (Nat.le_of_ble_eq_true rfl) rfl (to_rc rfl rfl rfl (g_o hG rfl)) rfl (to_an (pc := 0) rw_152_0 rfl (to_in (pc := 1) rw_152_1 rfl (s_pI (pc := 2) rw_152_2 hG rfl (fun M19 W18 => ?_))))))
    have hG20 := g_wf hG W18 rfl rfl (by decide)
    have F21 := FR.w F0 W18 (show 77 = 77 ∧ (4 = 4 ∨ 4 = 5 ∨ 7 ≤ 4 ∧ 4 ≤ 10 ∨ 14 ≤ 4 ∧ 4 ≤ 16 ∨ 4 = 25) ∨ 80 ≤ 77 ∧ 77 ≤ 84 ∧ 8 ≤ 4 ∨ 85 ≤ 77 ∧ 77 ≤ 87 ∧ 12 ≤ 4 by decide)
    refine to_an (pc := 5) rw_152_5 rfl (to_an (pc := 6) rw_152_6 rfl ?_)
    have c_22 : M19.2.1 77 10 = (M.2.1 77 10) := (W_n W18 (by decide) rfl)
    refine tt_gI (pc := 7) rw_152_7 (g_o hG20 rfl) (v := (M.2.1 77 10)) c_22 (s_pI (pc := 10) rw_152_10 hG20 rfl (fun M24 W23 => ?_))
    have hG25 := g_wf hG20 W23 rfl rfl (by decide)
    have F26 := FR.w F21 W23 (show 77 = 77 ∧ (5 = 4 ∨ 5 = 5 ∨ 7 ≤ 5 ∧ 5 ≤ 10 ∨ 14 ≤ 5 ∧ 5 ≤ 16 ∨ 5 = 25) ∨ 80 ≤ 77 ∧ 77 ≤ 84 ∧ 8 ≤ 5 ∨ 85 ≤ 77 ∧ 77 ≤ 87 ∧ 12 ≤ 5 by decide)
    refine to_c (pc := 13) rw_152_13 (x := (0 : Int32)) rfl rfl (s_r1 (pc := 14) rw_152_14 (A := 0) rfl (by decide) (s_r1 (pc := 32) rw_172_32 (A := 0) rfl (by decide) ?_))
    have k_27 : (0 : Int32).toInt = 0 := rfl
    have j_28 := (RS_f (fun a i z => W_n W23 (tg_37 a i z) rfl) (RS_f (fun a i z => W_n W18 (tg_38 a i z) rfl) q1))
    exact h (0 : Int32) M24 hG25 F26 (by decide) (by decide) j_28 (fun _ => by first | exact x_line_n (by omega) | exact x_line_t (by omega) (by omega) | exact (if g9 : x_kind t nn a = 1 then x_line_t (by omega) (by omega) else x_line_n (by omega)) | exact (x_line_h (by omega) (by omega) (by omega)).trans (x_holes_n (by omega))) (fun z => by exfalso; omega)
  · refine to_an (pc := 8) rw_172_8 rfl (tt_gI (pc := 9) rw_172_9 (g_o hG rfl) (v := (M.2.1 77 9)) rfl (to_c (pc := 12) rw_172_12 (x := (2 : Int32)) rfl rfl (b_cgt (pc := 13) rw_172_13 (A := (M.2.1 77 9).toInt) (B := 2) rfl rfl (fun h29 => ?_) (fun h29 => ?_))))
    · refine to_an (pc := 27) rw_172_27 rfl (to_c (pc := 28) rw_172_28 (x := (1 : Int32)) rfl rfl (s_v (pc := 29) rw_172_29 (dp0 hd (by decide)) (ls0 := [.ref 77, .int (1 : Int32)]) rfl (Nat.le_of_ble_eq_true rfl) (Nat.le_of_ble_eq_true rfl) rfl (to_rc rfl rfl rfl (g_o hG rfl)) rfl (to_an (pc := 0) rw_152_0 rfl (to_in (pc := 1) rw_152_1 rfl (s_pI (pc := 2) rw_152_2 hG rfl (fun M31 W30 => ?_))))))
      have hG32 := g_wf hG W30 rfl rfl (by decide)
      have F33 := FR.w F0 W30 (show 77 = 77 ∧ (4 = 4 ∨ 4 = 5 ∨ 7 ≤ 4 ∧ 4 ≤ 10 ∨ 14 ≤ 4 ∧ 4 ≤ 16 ∨ 4 = 25) ∨ 80 ≤ 77 ∧ 77 ≤ 84 ∧ 8 ≤ 4 ∨ 85 ≤ 77 ∧ 77 ≤ 87 ∧ 12 ≤ 4 by decide)
      refine to_an (pc := 5) rw_152_5 rfl (to_an (pc := 6) rw_152_6 rfl ?_)
      have c_34 : M31.2.1 77 10 = (M.2.1 77 10) := (W_n W30 (by decide) rfl)
      refine tt_gI (pc := 7) rw_152_7 (g_o hG32 rfl) (v := (M.2.1 77 10)) c_34 (s_pI (pc := 10) rw_152_10 hG32 rfl (fun M36 W35 => ?_))
      have hG37 := g_wf hG32 W35 rfl rfl (by decide)
      have F38 := FR.w F33 W35 (show 77 = 77 ∧ (5 = 4 ∨ 5 = 5 ∨ 7 ≤ 5 ∧ 5 ≤ 10 ∨ 14 ≤ 5 ∧ 5 ≤ 16 ∨ 5 = 25) ∨ 80 ≤ 77 ∧ 77 ≤ 84 ∧ 8 ≤ 5 ∨ 85 ≤ 77 ∧ 77 ≤ 87 ∧ 12 ≤ 5 by decide)
      refine to_c (pc := 13) rw_152_13 (x := (0 : Int32)) rfl rfl (s_r1 (pc := 14) rw_152_14 (A := 0) rfl (by decide) (s_r1 (pc := 32) rw_172_32 (A := 0) rfl (by decide) ?_))
      have k_39 : (0 : Int32).toInt = 0 := rfl
      have j_40 := (RS_f (fun a i z => W_n W35 (tg_37 a i z) rfl) (RS_f (fun a i z => W_n W30 (tg_38 a i z) rfl) q1))
      exact h (0 : Int32) M36 hG37 F38 (by decide) (by decide) j_40 (fun _ => by first | exact x_line_n (by omega) | exact x_line_t (by omega) (by omega) | exact (if g9 : x_kind t nn a = 1 then x_line_t (by omega) (by omega) else x_line_n (by omega)) | exact (x_line_h (by omega) (by omega) (by omega)).trans (x_holes_n (by omega))) (fun z => by exfalso; omega)
    · refine to_in (pc := 16) rw_172_16 rfl (b_ieq (pc := 17) rw_172_17 (A := x.toInt) rfl (fun h41 => ?_) (fun h41 => ?_))
      · refine to_an (pc := 33) rw_172_33 rfl (tt_gI (pc := 34) rw_172_34 (g_o hG rfl) (v := (M.2.1 77 9)) rfl (b_ine (pc := 37) rw_172_37 (A := (M.2.1 77 9).toInt) rfl (fun h42 => ?_) (fun h42 => ?_)))
        · refine to_an (pc := 82) rw_172_82 rfl (tt_gI (pc := 83) rw_172_83 (g_o hG rfl) (v := (M.2.1 77 9)) rfl (to_c (pc := 86) rw_172_86 (x := (1 : Int32)) rfl rfl (b_cne (pc := 87) rw_172_87 (A := (M.2.1 77 9).toInt) (B := 1) rfl rfl (fun h43 => ?_) (fun h43 => ?_))))
          · refine to_an (pc := 100) rw_172_100 rfl (s_v (pc := 101) rw_172_101 (dp0 hd (by decide)) (ls0 := [.ref 77, .null, .null, .null, .null, .null]) rfl (Nat.le_of_ble_eq_true rfl) (Nat.le_of_ble_eq_true rfl) rfl (to_rc rfl rfl rfl (g_o hG rfl)) rfl (E_171 hX (dp1 hd (by decide)) hG q1 (by omega) (by omega) (by omega) q5 q6 q7 q8 (t := t) (nn := nn) (a := a) (sg := sg) (k := (x_kk t nn fu L)) (fun r44 M52 hG46 F45 p_47 p_48 p_49 p_50 p_51 => ?_)))
            have F53 := FR.c F0 F45 tg_76
            rcases (show r44.toInt = 0 ∨ r44.toInt = 1 by omega) with h54 | h54
            · skip
              have p_55 := p_50 (by omega)
              clear p_50 p_51
              have b_56 := g_b hG46 (a := 77) (i := 10) (lo := 0) (hi := 500) rfl rfl
              have z_57 : x_line t nn L sg a (x_kk t nn fu L) = x_word t nn sg (x_ns t nn a) (x_kk t nn fu L) := x_line_w (by omega) (by omega) (by omega)
              refine b_ine_f (pc := 104) rw_172_104 (A := r44.toInt) rfl (by omega) (to_c (pc := 107) rw_172_107 (x := (0 : Int32)) rfl rfl (s_r1 (pc := 108) rw_172_108 (A := 0) rfl (by decide) ?_))
              have k_58 : (0 : Int32).toInt = 0 := rfl
              exact h (0 : Int32) M52 hG46 F53 (by decide) (by decide) p_49 (fun _ => z_57.trans p_55) (fun z => by exfalso; omega)
            · skip
              have p_59 := p_51 (by omega)
              clear p_50 p_51
              have b_60 := g_b hG46 (a := 77) (i := 10) (lo := 0) (hi := 500) rfl rfl
              have z_61 : x_line t nn L sg a (x_kk t nn fu L) = x_word t nn sg (x_ns t nn a) (x_kk t nn fu L) := x_line_w (by omega) (by omega) (by omega)
              refine b_ine_t (pc := 104) rw_172_104 (A := r44.toInt) rfl (by omega) (to_an (pc := 109) rw_172_109 rfl (to_c (pc := 110) rw_172_110 (x := (59 : Int32)) rfl rfl (s_v (pc := 112) rw_172_112 (dp0 hd (by decide)) (ls0 := [.ref 77, .int (59 : Int32)]) rfl (Nat.le_of_ble_eq_true rfl) (Nat.le_of_ble_eq_true rfl) rfl (to_rc rfl rfl rfl (g_o hG46 rfl)) rfl ?_)))
              have k_62 : (59 : Int32).toInt = 59 := rfl
              have j_63 := (TR_f (tg_64 F45) q5)
              have j_64 := (W9_f (tg_65 F45) q6)
              refine E_160 hX (dp1 hd (by decide)) hG46 p_49 (by omega) (by omega) (by omega) j_63 j_64 (by omega) (c := (59 : Int32)) (t := t) (nn := nn) (a := (M52.2.1 77 10).toInt) (fun r65 M73 hG67 F66 p_68 p_69 p_70 p_71 p_72 => ?_)
              have F74 := FR.c F53 F66 tg_77
              have b_75 := g_b hG67 (a := 77) (i := 10) (lo := 0) (hi := 500) rfl rfl
              rcases (show r65.toInt = 0 ∨ r65.toInt = 1 by omega) with h76 | h76
              · skip
                have p_77 := p_72 (by omega)
                clear p_71 p_72
                refine s_r1 (pc := 115) rw_172_115 (A := r65.toInt) rfl (by omega) ?_
                exact h r65 M73 hG67 F74 (by omega) (by omega) p_70 (fun _ => LOr_wn p_59 z_61 rfl (by omega)) (fun z => by exfalso; omega)
              · skip
                have p_78 := p_71 (by omega)
                clear p_71 p_72
                refine s_r1 (pc := 115) rw_172_115 (A := r65.toInt) rfl (by omega) ?_
                have tr_79 : ∀ s9 : x_S, PLr2 M52 s9 → PLr2 M73 s9 := fun s9 h9 => ⟨PLr_f (fun a i z => (F_n F66 (show ¬ (a = 77 ∧ (i = 4 ∨ i = 5 ∨ 7 ≤ i ∧ i ≤ 10)) by omega) rfl)) (F_nl F66 (show ¬ (77 = 77 ∧ (25 = 4 ∨ 25 = 5 ∨ 7 ≤ 25 ∧ 25 ≤ 10)) by decide) rfl) h9.1, CWr_f (fun k hk9 => (F_nl F66 (show ¬ (87 = 77 ∧ ((12 + k) = 4 ∨ (12 + k) = 5 ∨ 7 ≤ (12 + k) ∧ (12 + k) ≤ 10)) by omega) rfl)) h9.2⟩
                exact h r65 M73 hG67 F74 (by omega) (by omega) p_70 (fun z => by exfalso; omega) (fun _ => LOr_w p_59 z_61 rfl (by omega) (by omega) (by omega) tr_79)
          · refine to_an (pc := 90) rw_172_90 rfl (s_v (pc := 91) rw_172_91 (dp0 hd (by decide)) (ls0 := [.ref 77, .null, .null, .null, .null, .null, .null, .null, .null]) rfl (Nat.le_of_ble_eq_true rfl) (Nat.le_of_ble_eq_true rfl) rfl (to_rc rfl rfl rfl (g_o hG rfl)) rfl (E_170 hX (dp1 hd (by decide)) hG q1 (by omega) (by omega) (by omega) q5 q6 q7 q8 (t := t) (nn := nn) (a := a) (sg := sg) (k := (x_kk t nn fu L)) (fun r80 M88 hG82 F81 p_83 p_84 p_85 p_86 p_87 => ?_)))
            have F89 := FR.c F0 F81 tg_78
            rcases (show r80.toInt = 0 ∨ r80.toInt = 1 by omega) with h90 | h90
            · skip
              have p_91 := p_86 (by omega)
              clear p_86 p_87
              have b_92 := g_b hG82 (a := 77) (i := 10) (lo := 0) (hi := 500) rfl rfl
              have z_93 : x_line t nn L sg a (x_kk t nn fu L) = x_field t nn sg (x_ns t nn a) (x_kk t nn fu L) := x_line_f (by omega) (by omega) (by omega)
              refine b_ine_f (pc := 94) rw_172_94 (A := r80.toInt) rfl (by omega) (to_go (pc := 97) rw_172_97 (to_c (pc := 107) rw_172_107 (x := (0 : Int32)) rfl rfl (s_r1 (pc := 108) rw_172_108 (A := 0) rfl (by decide) ?_)))
              have k_94 : (0 : Int32).toInt = 0 := rfl
              exact h (0 : Int32) M88 hG82 F89 (by decide) (by decide) p_85 (fun _ => z_93.trans p_91) (fun z => by exfalso; omega)
            · skip
              have p_95 := p_87 (by omega)
              clear p_86 p_87
              have b_96 := g_b hG82 (a := 77) (i := 10) (lo := 0) (hi := 500) rfl rfl
              have z_97 : x_line t nn L sg a (x_kk t nn fu L) = x_field t nn sg (x_ns t nn a) (x_kk t nn fu L) := x_line_f (by omega) (by omega) (by omega)
              refine b_ine_t (pc := 94) rw_172_94 (A := r80.toInt) rfl (by omega) (to_an (pc := 109) rw_172_109 rfl (to_c (pc := 110) rw_172_110 (x := (59 : Int32)) rfl rfl (s_v (pc := 112) rw_172_112 (dp0 hd (by decide)) (ls0 := [.ref 77, .int (59 : Int32)]) rfl (Nat.le_of_ble_eq_true rfl) (Nat.le_of_ble_eq_true rfl) rfl (to_rc rfl rfl rfl (g_o hG82 rfl)) rfl ?_)))
              have k_98 : (59 : Int32).toInt = 59 := rfl
              have j_99 := (TR_f (tg_66 F81) q5)
              have j_100 := (W9_f (tg_67 F81) q6)
              refine E_160 hX (dp1 hd (by decide)) hG82 p_85 (by omega) (by omega) (by omega) j_99 j_100 (by omega) (c := (59 : Int32)) (t := t) (nn := nn) (a := (M88.2.1 77 10).toInt) (fun r101 M109 hG103 F102 p_104 p_105 p_106 p_107 p_108 => ?_)
              have F110 := FR.c F89 F102 tg_77
              have b_111 := g_b hG103 (a := 77) (i := 10) (lo := 0) (hi := 500) rfl rfl
              rcases (show r101.toInt = 0 ∨ r101.toInt = 1 by omega) with h112 | h112
              · skip
                have p_113 := p_108 (by omega)
                clear p_107 p_108
                refine s_r1 (pc := 115) rw_172_115 (A := r101.toInt) rfl (by omega) ?_
                exact h r101 M109 hG103 F110 (by omega) (by omega) p_106 (fun _ => LOr_fn p_95 z_97 rfl (by omega)) (fun z => by exfalso; omega)
              · skip
                have p_114 := p_107 (by omega)
                clear p_107 p_108
                refine s_r1 (pc := 115) rw_172_115 (A := r101.toInt) rfl (by omega) ?_
                have tr_115 : ∀ s9 : x_S, PLr2 M88 s9 → PLr2 M109 s9 := fun s9 h9 => ⟨PLr_f (fun a i z => (F_n F102 (show ¬ (a = 77 ∧ (i = 4 ∨ i = 5 ∨ 7 ≤ i ∧ i ≤ 10)) by omega) rfl)) (F_nl F102 (show ¬ (77 = 77 ∧ (25 = 4 ∨ 25 = 5 ∨ 7 ≤ 25 ∧ 25 ≤ 10)) by decide) rfl) h9.1, CWr_f (fun k hk9 => (F_nl F102 (show ¬ (87 = 77 ∧ ((12 + k) = 4 ∨ (12 + k) = 5 ∨ 7 ≤ (12 + k) ∧ (12 + k) ≤ 10)) by omega) rfl)) h9.2⟩
                exact h r101 M109 hG103 F110 (by omega) (by omega) p_106 (fun z => by exfalso; omega) (fun _ => LOr_f p_95 z_97 rfl (by omega) (by omega) (by omega) tr_115)
        · refine to_in (pc := 40) rw_172_40 rfl (b_ine_f (pc := 41) rw_172_41 (A := x.toInt) rfl (by omega) (to_an (pc := 44) rw_172_44 rfl (to_c (pc := 45) rw_172_45 (x := (3 : Int32)) rfl rfl (s_v (pc := 46) rw_172_46 (dp0 hd (by decide)) (ls0 := [.ref 77, .int (3 : Int32)]) rfl (Nat.le_of_ble_eq_true rfl) (Nat.le_of_ble_eq_true rfl) rfl (to_rc rfl rfl rfl (g_o hG rfl)) rfl (to_an (pc := 0) rw_152_0 rfl (to_in (pc := 1) rw_152_1 rfl (s_pI (pc := 2) rw_152_2 hG rfl (fun M117 W116 => ?_))))))))
          have hG118 := g_wf hG W116 rfl rfl (by decide)
          have F119 := FR.w F0 W116 (show 77 = 77 ∧ (4 = 4 ∨ 4 = 5 ∨ 7 ≤ 4 ∧ 4 ≤ 10 ∨ 14 ≤ 4 ∧ 4 ≤ 16 ∨ 4 = 25) ∨ 80 ≤ 77 ∧ 77 ≤ 84 ∧ 8 ≤ 4 ∨ 85 ≤ 77 ∧ 77 ≤ 87 ∧ 12 ≤ 4 by decide)
          refine to_an (pc := 5) rw_152_5 rfl (to_an (pc := 6) rw_152_6 rfl ?_)
          have c_120 : M117.2.1 77 10 = (M.2.1 77 10) := (W_n W116 (by decide) rfl)
          refine tt_gI (pc := 7) rw_152_7 (g_o hG118 rfl) (v := (M.2.1 77 10)) c_120 (s_pI (pc := 10) rw_152_10 hG118 rfl (fun M122 W121 => ?_))
          have hG123 := g_wf hG118 W121 rfl rfl (by decide)
          have F124 := FR.w F119 W121 (show 77 = 77 ∧ (5 = 4 ∨ 5 = 5 ∨ 7 ≤ 5 ∧ 5 ≤ 10 ∨ 14 ≤ 5 ∧ 5 ≤ 16 ∨ 5 = 25) ∨ 80 ≤ 77 ∧ 77 ≤ 84 ∧ 8 ≤ 5 ∨ 85 ≤ 77 ∧ 77 ≤ 87 ∧ 12 ≤ 5 by decide)
          refine to_c (pc := 13) rw_152_13 (x := (0 : Int32)) rfl rfl (s_r1 (pc := 14) rw_152_14 (A := 0) rfl (by decide) (s_r1 (pc := 49) rw_172_49 (A := 0) rfl (by decide) ?_))
          have k_125 : (0 : Int32).toInt = 0 := rfl
          have j_126 := (RS_f (fun a i z => W_n W121 (tg_37 a i z) rfl) (RS_f (fun a i z => W_n W116 (tg_38 a i z) rfl) q1))
          exact h (0 : Int32) M122 hG123 F124 (by decide) (by decide) j_126 (fun _ => by first | exact x_line_n (by omega) | exact x_line_t (by omega) (by omega) | exact (if g9 : x_kind t nn a = 1 then x_line_t (by omega) (by omega) else x_line_n (by omega)) | exact (x_line_h (by omega) (by omega) (by omega)).trans (x_holes_n (by omega))) (fun z => by exfalso; omega)
      · refine to_an (pc := 20) rw_172_20 rfl (tt_gI (pc := 21) rw_172_21 (g_o hG rfl) (v := (M.2.1 77 9)) rfl (b_ieq (pc := 24) rw_172_24 (A := (M.2.1 77 9).toInt) rfl (fun h127 => ?_) (fun h127 => ?_)))
        · refine to_an (pc := 33) rw_172_33 rfl (tt_gI (pc := 34) rw_172_34 (g_o hG rfl) (v := (M.2.1 77 9)) rfl (b_ine_f (pc := 37) rw_172_37 (A := (M.2.1 77 9).toInt) rfl (by omega) (to_in (pc := 40) rw_172_40 rfl (b_ine_t (pc := 41) rw_172_41 (A := x.toInt) rfl (by omega) (to_an (pc := 50) rw_172_50 rfl (s_v (pc := 51) rw_172_51 (dp0 hd (by decide)) (ls0 := [.ref 77]) rfl (Nat.le_of_ble_eq_true rfl) (Nat.le_of_ble_eq_true rfl) rfl (to_rc rfl rfl rfl (g_o hG rfl)) rfl ?_))))))
          have b_128 := g_b hG (a := 77) (i := 7) (lo := 0) (hi := 500) rfl rfl
          have b_129 := g_b hG (a := 77) (i := 6) (lo := 0) (hi := 500) rfl rfl
          have z_130 := RS_b q1 (a := a) (by omega)
          refine E_156 hX (dp1 hd (by decide)) hG (by omega) (by omega) (by omega) (by omega) q5 q6  (fun M137 hG132 F131 p_133 p_134 p_135 p_136 => ?_)
          have F138 := FR.c F0 F131 tg_79
          have b_139 := g_b hG132 (a := 77) (i := 7) (lo := 0) (hi := 500) rfl rfl
          have c_140 : M137.2.1 77 6 = (M.2.1 77 6) := (F_n F131 (show ¬ (77 = 77 ∧ 7 ≤ 6 ∧ 6 ≤ 10) by decide) rfl)
          have t_141 : (M137.2.1 77 6).toInt = (M.2.1 77 6).toInt := congrArg Int32.toInt c_140
          have b_142 := g_b hG132 (a := 77) (i := 8) (lo := 0) (hi := 5) rfl rfl
          have b_143 := g_b hG132 (a := 77) (i := 10) (lo := 0) (hi := 500) rfl rfl
          have z_144 := RS_s p_136.2 (a := a) (by omega)
          refine to_an (pc := 54) rw_172_54 rfl (to_c (pc := 55) rw_172_55 (x := (10 : Int32)) rfl rfl (to_c (pc := 57) rw_172_57 (x := (60 : Int32)) rfl rfl (s_v (pc := 59) rw_172_59 (dp0 hd (by decide)) (ls0 := [.ref 77, .int (10 : Int32), .int (60 : Int32)]) rfl (Nat.le_of_ble_eq_true rfl) (Nat.le_of_ble_eq_true rfl) rfl (to_rc rfl rfl rfl (g_o hG132 rfl)) rfl ?_)))
          have k_145 : (10 : Int32).toInt = 10 := rfl
          have k_146 : (60 : Int32).toInt = 60 := rfl
          refine E_162 hX (dp1 hd (by decide)) hG132 p_136.1 (by omega) (by omega) (l := (10 : Int32)) (m := (60 : Int32)) (t := t) (nn := nn) (a := (x_ns t nn a)) (fun r147 M154 hG149 F148 p_150 p_151 p_152 p_153 => ?_)
          have F155 := FR.c F138 F148 tg_80
          rcases (show r147.toInt = 0 ∨ r147.toInt = 1 by omega) with h156 | h156
          · skip
            have p_157 := p_153 (by omega)
            clear p_152 p_153
            have z_158 := x_val_b (t := t) (nn := nn) (a := (x_ns t nn a))
            refine b_ine_f (pc := 62) rw_172_62 (A := r147.toInt) rfl (by omega) (to_c (pc := 65) rw_172_65 (x := (0 : Int32)) rfl rfl (s_r1 (pc := 66) rw_172_66 (A := 0) rfl (by decide) ?_))
            have k_159 : (0 : Int32).toInt = 0 := rfl
            have j_160 := (RS_f (tg_40 F148) p_136.1)
            exact h (0 : Int32) M154 hG149 F155 (by decide) (by decide) j_160 (fun _ => by first | exact x_line_n (by omega) | exact x_line_t (by omega) (by omega) | exact (if g9 : x_kind t nn a = 1 then x_line_t (by omega) (by omega) else x_line_n (by omega)) | exact (x_line_h (by omega) (by omega) (by omega)).trans (x_holes_n (by omega))) (fun z => by exfalso; omega)
          · skip
            have p_161 := p_152 (by omega)
            clear p_152 p_153
            have c_162 : M154.2.1 77 9 = (M137.2.1 77 9) := (F_n F148 (show ¬ (77 = 77 ∧ (9 = 4 ∨ 9 = 5)) by decide) rfl)
            have z_163 := x_val_b (t := t) (nn := nn) (a := (x_ns t nn a)) (by omega)
            refine b_ine_t (pc := 62) rw_172_62 (A := r147.toInt) rfl (by omega) (to_an (pc := 67) rw_172_67 rfl (to_an (pc := 68) rw_172_68 rfl (tt_gI (pc := 69) rw_172_69 (g_o hG149 rfl) (v := (M137.2.1 77 9)) c_162 ?_)))
            have j_164 := (PLr_f (tg_48 F148) (F_nl F148 (show ¬ (77 = 77 ∧ (25 = 4 ∨ 25 = 5)) by decide) rfl) (PLr_f (tg_39 F131) (F_nl F131 (show ¬ (77 = 77 ∧ 7 ≤ 25 ∧ 25 ≤ 10) by decide) rfl) q7))
            refine s_pI (pc := 72) rw_172_72 hG149 rfl (fun M166 W165 => ?_)
            have hG167 := g_w hG149 W165 (A := (M137.2.1 77 9).toInt) rfl (lo := 10) (hi := 60) rfl rfl (by omega) (by decide)
            have F168 := FR.w F155 W165 (show 77 = 77 ∧ (14 = 4 ∨ 14 = 5 ∨ 7 ≤ 14 ∧ 14 ≤ 10 ∨ 14 ≤ 14 ∧ 14 ≤ 16 ∨ 14 = 25) ∨ 80 ≤ 77 ∧ 77 ≤ 84 ∧ 8 ≤ 14 ∨ 85 ≤ 77 ∧ 77 ≤ 87 ∧ 12 ≤ 14 by decide)
            have z_169 := PLr_h (w := x_val t nn (x_ns t nn a)) j_164 W165 (by omega) (by omega)
            refine to_an (pc := 75) rw_172_75 rfl (s_v (pc := 76) rw_172_76 (dp0 hd (by decide)) (ls0 := [.ref 77]) rfl (Nat.le_of_ble_eq_true rfl) (Nat.le_of_ble_eq_true rfl) rfl (to_rc rfl rfl rfl (g_o hG167 rfl)) rfl ?_)
            have c_170 : M166.2.1 77 7 = (M137.2.1 77 7) := (W_n W165 (by decide) (F_n F148 (show ¬ (77 = 77 ∧ (7 = 4 ∨ 7 = 5)) by decide) rfl))
            have t_171 : (M166.2.1 77 7).toInt = (M137.2.1 77 7).toInt := congrArg Int32.toInt c_170
            have c_172 : M166.2.1 77 6 = (M.2.1 77 6) := (W_n W165 (by decide) (F_n F148 (show ¬ (77 = 77 ∧ (6 = 4 ∨ 6 = 5)) by decide) c_140))
            have t_173 : (M166.2.1 77 6).toInt = (M.2.1 77 6).toInt := congrArg Int32.toInt c_172
            have c_174 : M166.2.1 77 10 = (M137.2.1 77 10) := (W_n W165 (by decide) (F_n F148 (show ¬ (77 = 77 ∧ (10 = 4 ∨ 10 = 5)) by decide) rfl))
            have t_175 : (M166.2.1 77 10).toInt = (M137.2.1 77 10).toInt := congrArg Int32.toInt c_174
            have j_176 := (RS_f (fun a i z => W_n W165 (tg_85 a i z) rfl) (RS_f (tg_40 F148) p_136.1))
            have z_177 := RS_b j_176 (a := (x_ns t nn a)) (by omega)
            have j_178 := (TR_f (fun a i z => W_n W165 (tg_86 a i z) rfl) (TR_f (tg_41 F148) (TR_f (tg_42 F131) q5)))
            have j_179 := (W9_f (fun a i z => W_n W165 (tg_87 a i z) rfl) (W9_f (tg_43 F148) (W9_f (tg_44 F131) q6)))
            refine E_156 hX (dp1 hd (by decide)) hG167 (by omega) (by omega) (by omega) (by omega) j_178 j_179  (fun M186 hG181 F180 p_182 p_183 p_184 p_185 => ?_)
            have F187 := FR.c F168 F180 tg_79
            have b_188 := g_b hG181 (a := 77) (i := 7) (lo := 0) (hi := 500) rfl rfl
            have c_189 : M186.2.1 77 6 = (M.2.1 77 6) := (F_n F180 (show ¬ (77 = 77 ∧ 7 ≤ 6 ∧ 6 ≤ 10) by decide) c_172)
            have t_190 : (M186.2.1 77 6).toInt = (M.2.1 77 6).toInt := congrArg Int32.toInt c_189
            have b_191 := g_b hG181 (a := 77) (i := 8) (lo := 0) (hi := 5) rfl rfl
            have b_192 := g_b hG181 (a := 77) (i := 10) (lo := 0) (hi := 500) rfl rfl
            have z_193 := RS_s p_185.2 (a := (x_ns t nn a)) (by omega)
            refine to_go (pc := 79) rw_172_79 (to_an (pc := 109) rw_172_109 rfl (to_c (pc := 110) rw_172_110 (x := (59 : Int32)) rfl rfl (s_v (pc := 112) rw_172_112 (dp0 hd (by decide)) (ls0 := [.ref 77, .int (59 : Int32)]) rfl (Nat.le_of_ble_eq_true rfl) (Nat.le_of_ble_eq_true rfl) rfl (to_rc rfl rfl rfl (g_o hG181 rfl)) rfl ?_)))
            have k_194 : (59 : Int32).toInt = 59 := rfl
            have j_195 := (TR_f (tg_42 F180) j_178)
            have j_196 := (W9_f (tg_44 F180) j_179)
            refine E_160 hX (dp1 hd (by decide)) hG181 p_185.1 (by omega) (by omega) (by omega) j_195 j_196 (by omega) (c := (59 : Int32)) (t := t) (nn := nn) (a := (x_ns t nn (x_ns t nn a))) (fun r197 M205 hG199 F198 p_200 p_201 p_202 p_203 p_204 => ?_)
            have F206 := FR.c F187 F198 tg_77
            have b_207 := g_b hG199 (a := 77) (i := 10) (lo := 0) (hi := 500) rfl rfl
            rcases (show r197.toInt = 0 ∨ r197.toInt = 1 by omega) with h208 | h208
            · skip
              have p_209 := p_204 (by omega)
              clear p_203 p_204
              refine s_r1 (pc := 115) rw_172_115 (A := r197.toInt) rfl (by omega) ?_
              have z_210 : x_line t nn L sg a (x_kk t nn fu L) = x_kk t nn fu L (x_ns t nn (x_ns t nn a)) (x_val t nn (x_ns t nn a), sg.2) := (x_line_h (by omega) (by omega) (by omega)).trans (x_holes_y (by omega))
              exact h r197 M205 hG199 F206 (by omega) (by omega) p_202 (fun _ => LOr_hn z_210 (by omega)) (fun z => by exfalso; omega)
            · skip
              have p_211 := p_203 (by omega)
              clear p_203 p_204
              refine s_r1 (pc := 115) rw_172_115 (A := r197.toInt) rfl (by omega) ?_
              have z_212 : x_line t nn L sg a (x_kk t nn fu L) = x_kk t nn fu L (x_ns t nn (x_ns t nn a)) (x_val t nn (x_ns t nn a), sg.2) := (x_line_h (by omega) (by omega) (by omega)).trans (x_holes_y (by omega))
              have j_213 := (PLr_f (tg_68 F198) (F_nl F198 (show ¬ (77 = 77 ∧ (25 = 4 ∨ 25 = 5 ∨ 7 ≤ 25 ∧ 25 ≤ 10)) by decide) rfl) (PLr_f (tg_39 F180) (F_nl F180 (show ¬ (77 = 77 ∧ 7 ≤ 25 ∧ 25 ≤ 10) by decide) rfl) z_169))
              have j_214 := (CWr_f (fun k hk9 => F_nl F198 (show ¬ (87 = 77 ∧ ((12 + k) = 4 ∨ (12 + k) = 5 ∨ 7 ≤ (12 + k) ∧ (12 + k) ≤ 10)) by omega) rfl) (CWr_f (fun k hk9 => F_nl F180 (show ¬ (87 = 77 ∧ 7 ≤ (12 + k) ∧ (12 + k) ≤ 10) by omega) rfl) (CWr_f (fun k hk9 => W_j W165 rfl) (CWr_f (fun k hk9 => F_nl F148 (show ¬ (87 = 77 ∧ ((12 + k) = 4 ∨ (12 + k) = 5)) by omega) rfl) (CWr_f (fun k hk9 => F_nl F131 (show ¬ (87 = 77 ∧ 7 ≤ (12 + k) ∧ (12 + k) ≤ 10) by omega) rfl) q8)))))
              exact h r197 M205 hG199 F206 (by omega) (by omega) p_202 (fun z => by exfalso; omega) (fun _ => LOr_h z_212 (by omega) (by omega) (by omega) ⟨j_213, j_214⟩ rfl)
        · refine to_an (pc := 27) rw_172_27 rfl (to_c (pc := 28) rw_172_28 (x := (1 : Int32)) rfl rfl (s_v (pc := 29) rw_172_29 (dp0 hd (by decide)) (ls0 := [.ref 77, .int (1 : Int32)]) rfl (Nat.le_of_ble_eq_true rfl) (Nat.le_of_ble_eq_true rfl) rfl (to_rc rfl rfl rfl (g_o hG rfl)) rfl (to_an (pc := 0) rw_152_0 rfl (to_in (pc := 1) rw_152_1 rfl (s_pI (pc := 2) rw_152_2 hG rfl (fun M216 W215 => ?_))))))
          have hG217 := g_wf hG W215 rfl rfl (by decide)
          have F218 := FR.w F0 W215 (show 77 = 77 ∧ (4 = 4 ∨ 4 = 5 ∨ 7 ≤ 4 ∧ 4 ≤ 10 ∨ 14 ≤ 4 ∧ 4 ≤ 16 ∨ 4 = 25) ∨ 80 ≤ 77 ∧ 77 ≤ 84 ∧ 8 ≤ 4 ∨ 85 ≤ 77 ∧ 77 ≤ 87 ∧ 12 ≤ 4 by decide)
          refine to_an (pc := 5) rw_152_5 rfl (to_an (pc := 6) rw_152_6 rfl ?_)
          have c_219 : M216.2.1 77 10 = (M.2.1 77 10) := (W_n W215 (by decide) rfl)
          refine tt_gI (pc := 7) rw_152_7 (g_o hG217 rfl) (v := (M.2.1 77 10)) c_219 (s_pI (pc := 10) rw_152_10 hG217 rfl (fun M221 W220 => ?_))
          have hG222 := g_wf hG217 W220 rfl rfl (by decide)
          have F223 := FR.w F218 W220 (show 77 = 77 ∧ (5 = 4 ∨ 5 = 5 ∨ 7 ≤ 5 ∧ 5 ≤ 10 ∨ 14 ≤ 5 ∧ 5 ≤ 16 ∨ 5 = 25) ∨ 80 ≤ 77 ∧ 77 ≤ 84 ∧ 8 ≤ 5 ∨ 85 ≤ 77 ∧ 77 ≤ 87 ∧ 12 ≤ 5 by decide)
          refine to_c (pc := 13) rw_152_13 (x := (0 : Int32)) rfl rfl (s_r1 (pc := 14) rw_152_14 (A := 0) rfl (by decide) (s_r1 (pc := 32) rw_172_32 (A := 0) rfl (by decide) ?_))
          have k_224 : (0 : Int32).toInt = 0 := rfl
          have j_225 := (RS_f (fun a i z => W_n W220 (tg_37 a i z) rfl) (RS_f (fun a i z => W_n W215 (tg_38 a i z) rfl) q1))
          exact h (0 : Int32) M221 hG222 F223 (by decide) (by decide) j_225 (fun _ => by first | exact x_line_n (by omega) | exact x_line_t (by omega) (by omega) | exact (if g9 : x_kind t nn a = 1 then x_line_t (by omega) (by omega) else x_line_n (by omega)) | exact (x_line_h (by omega) (by omega) (by omega)).trans (x_holes_n (by omega))) (fun z => by exfalso; omega)
set_option maxRecDepth 4000 in
set_option maxHeartbeats 0 in
theorem U_165_0 {X : mm_X} {d : Nat} {M : mm_M} {Q : Option Value → mm_M → Prop} (hX : g_X X) (hd : 0 ≤ d) (h : ∀ (M1 : mm_M), g_G M1 → FR md_ke M M1 → ((M1.2.1 77 28).toInt = 0) → ((M1.2.1 77 29).toInt = 0) → ((M1.2.1 77 41).toInt = 0) → (∀ s9 : x_S, PLr2 M s9 → PLk2 M1 s9) → ((M1.2.1 77 58).toInt = 0) → ((M1.2.1 77 57).toInt = 0) → Q (none) M1) : ∀ nn9 : Nat, (∀ (N : mm_M) (x1 : Int32), g_G N → FR md_ke M N → (0 ≤ x1.toInt) → (x1.toInt ≤ 6) → (KP N M 8 12) → (KL N M 12) → (N.2.1 77 11 = M.2.1 77 14) → (N.2.1 77 12 = M.2.1 77 15) → (N.2.1 77 13 = M.2.1 77 16) → ((N.2.1 77 28).toInt = 0) → ((N.2.1 77 29).toInt = 0) → ((N.2.1 77 41).toInt = 0) → (True) → ((N.2.1 77 58).toInt = 0) → ((N.2.1 77 57).toInt = 0) → 6 - x1.toInt < (nn9 : Int) → mm_T X d 164 199 [.ref 77, .int x1] [] N Q) := by
  intro nn9
  induction nn9 with
  | zero =>
    intro N x1 hG F0 g1 g2 g3 g4 g5 g6 g7 g8 g9 g10 g11 g12 g13 hm
    have b_1 := g_b hG (a := 77) (i := 28) (lo := 0) (hi := 30) rfl rfl
    have b_2 := g_b hG (a := 77) (i := 29) (lo := 0) (hi := 150) rfl rfl
    have b_3 := g_b hG (a := 77) (i := 58) (lo := 0) (hi := 40) rfl rfl
    have b_4 := g_b hG (a := 77) (i := 57) (lo := 0) (hi := 1) rfl rfl
    exfalso; omega
  | succ nn9 ih =>
    intro N x1 hG F0 g1 g2 g3 g4 g5 g6 g7 g8 g9 g10 g11 g12 g13 hm
    have b_5 := g_b hG (a := 77) (i := 28) (lo := 0) (hi := 30) rfl rfl
    have b_6 := g_b hG (a := 77) (i := 29) (lo := 0) (hi := 150) rfl rfl
    have b_7 := g_b hG (a := 77) (i := 58) (lo := 0) (hi := 40) rfl rfl
    have b_8 := g_b hG (a := 77) (i := 57) (lo := 0) (hi := 1) rfl rfl
    refine to_in (pc := 199) rw_165_199 rfl (to_c (pc := 200) rw_165_200 (x := (6 : Int32)) rfl rfl (b_cge (pc := 202) rw_165_202 (A := x1.toInt) (B := 6) rfl rfl (fun h9 => ?_) (fun h9 => ?_)))
    · refine to_rv (pc := 218) rw_165_218 ?_
      exact h N hG F0 (by omega) (by omega) (by omega) (fun s9 h9 => ⟨KP_e g3 g5 g6 g7 h9.1, CWk_e g4 h9.1.1 h9.2⟩) (by omega) (by omega)
    · refine to_an (pc := 205) rw_165_205 rfl (s_gR (pc := 206) rw_165_206 hG rfl (v := 100) rfl (to_in (pc := 209) rw_165_209 rfl (to_c (pc := 210) rw_165_210 (x := (0 : Int32)) rfl rfl (s_ias (pc := 211) rw_165_211 hG rfl (n := 6) rfl (A := x1.toInt) rfl (by omega) (by omega) (fun M11 W10 => ?_)))))
      have hG12 := g_w hG W10 (A := 0) rfl (lo := 0) (hi := 30) rfl rfl (by omega) (by decide)
      have F13 := FR.w F0 W10 (show 100 = 77 ∧ (11 ≤ (x1.toInt).toNat ∧ (x1.toInt).toNat ≤ 13 ∨ (x1.toInt).toNat = 28 ∨ (x1.toInt).toNat = 29 ∨ (x1.toInt).toNat = 41 ∨ (x1.toInt).toNat = 57 ∨ (x1.toInt).toNat = 58) ∨ 80 ≤ 100 ∧ 100 ≤ 87 ∨ 100 = 100 by omega)
      refine s_inc (pc := 212) rw_165_212 (ls2 := fun v => [.ref 77, .int v]) rfl rfl (fun _ => rfl) (A := x1.toInt) (B := 1) rfl rfl (by omega) (fun v14 e15 => to_go (pc := 215) rw_165_215 ?_)
      have c_16 : M11.2.1 77 11 = (N.2.1 77 11) := (W_n W10 (fun z => absurd z.1 (by decide)) rfl)
      have c_17 : M11.2.1 77 12 = (N.2.1 77 12) := (W_n W10 (fun z => absurd z.1 (by decide)) rfl)
      have c_18 : M11.2.1 77 13 = (N.2.1 77 13) := (W_n W10 (fun z => absurd z.1 (by decide)) rfl)
      have c_19 : M11.2.1 77 28 = (N.2.1 77 28) := (W_n W10 (fun z => absurd z.1 (by decide)) rfl)
      have t_20 : (M11.2.1 77 28).toInt = (N.2.1 77 28).toInt := congrArg Int32.toInt c_19
      have c_21 : M11.2.1 77 29 = (N.2.1 77 29) := (W_n W10 (fun z => absurd z.1 (by decide)) rfl)
      have t_22 : (M11.2.1 77 29).toInt = (N.2.1 77 29).toInt := congrArg Int32.toInt c_21
      have c_23 : M11.2.1 77 41 = (N.2.1 77 41) := (W_n W10 (fun z => absurd z.1 (by decide)) rfl)
      have t_24 : (M11.2.1 77 41).toInt = (N.2.1 77 41).toInt := congrArg Int32.toInt c_23
      have c_25 : M11.2.1 77 58 = (N.2.1 77 58) := (W_n W10 (fun z => absurd z.1 (by decide)) rfl)
      have t_26 : (M11.2.1 77 58).toInt = (N.2.1 77 58).toInt := congrArg Int32.toInt c_25
      have c_27 : M11.2.1 77 57 = (N.2.1 77 57) := (W_n W10 (fun z => absurd z.1 (by decide)) rfl)
      have t_28 : (M11.2.1 77 57).toInt = (N.2.1 77 57).toInt := congrArg Int32.toInt c_27
      exact ih M11 v14 hG12 F13 (by omega) (by omega) (KP_f (fun a i z => (W_n W10 (by /-r100-/ omega) rfl)) g3) (KL_f (fun i => (W_j W10 rfl)) g4) (c_16.trans g5) (c_17.trans g6) (c_18.trans g7) (by omega) (by omega) (by omega) trivial (by omega) (by omega) (by omega)
set_option maxRecDepth 4000 in
set_option maxHeartbeats 0 in
theorem U_165_1 {X : mm_X} {d : Nat} {M : mm_M} {Q : Option Value → mm_M → Prop} (hX : g_X X) (hd : 0 ≤ d) (h : ∀ (M1 : mm_M), g_G M1 → FR md_ke M M1 → ((M1.2.1 77 28).toInt = 0) → ((M1.2.1 77 29).toInt = 0) → ((M1.2.1 77 41).toInt = 0) → (∀ s9 : x_S, PLr2 M s9 → PLk2 M1 s9) → ((M1.2.1 77 58).toInt = 0) → ((M1.2.1 77 57).toInt = 0) → Q (none) M1) : ∀ nn9 : Nat, (∀ (N : mm_M) (x1 : Int32), g_G N → FR md_ke M N → (0 ≤ x1.toInt) → (x1.toInt ≤ 12) → (KP N M 8 (x1.toInt).toNat) → (KL N M (x1.toInt).toNat) → (N.2.1 77 11 = M.2.1 77 14) → (N.2.1 77 12 = M.2.1 77 15) → (N.2.1 77 13 = M.2.1 77 16) → 12 - x1.toInt < (nn9 : Int) → mm_T X d 164 115 [.ref 77, .int x1] [] N Q) := by
  intro nn9
  induction nn9 with
  | zero =>
    intro N x1 hG F0 g1 g2 g3 g4 g5 g6 g7 hm
    exfalso; omega
  | succ nn9 ih =>
    intro N x1 hG F0 g1 g2 g3 g4 g5 g6 g7 hm
    refine to_in (pc := 115) rw_165_115 rfl (to_c (pc := 116) rw_165_116 (x := (12 : Int32)) rfl rfl (b_cge (pc := 118) rw_165_118 (A := x1.toInt) (B := 12) rfl rfl (fun h29 => ?_) (fun h29 => ?_)))
    · refine to_an (pc := 172) rw_165_172 rfl (to_c (pc := 173) rw_165_173 (x := (0 : Int32)) rfl rfl (s_pI (pc := 174) rw_165_174 hG rfl (fun M31 W30 => ?_)))
      have hG32 := g_w hG W30 (A := 0) rfl (lo := 0) (hi := 30) rfl rfl (by omega) (by decide)
      have F33 := FR.w F0 W30 (show 77 = 77 ∧ (11 ≤ 28 ∧ 28 ≤ 13 ∨ 28 = 28 ∨ 28 = 29 ∨ 28 = 41 ∨ 28 = 57 ∨ 28 = 58) ∨ 80 ≤ 77 ∧ 77 ≤ 87 ∨ 77 = 100 by decide)
      refine to_an (pc := 177) rw_165_177 rfl (to_c (pc := 178) rw_165_178 (x := (0 : Int32)) rfl rfl (s_pI (pc := 179) rw_165_179 hG32 rfl (fun M35 W34 => ?_)))
      have hG36 := g_w hG32 W34 (A := 0) rfl (lo := 0) (hi := 150) rfl rfl (by omega) (by decide)
      have F37 := FR.w F33 W34 (show 77 = 77 ∧ (11 ≤ 29 ∧ 29 ≤ 13 ∨ 29 = 28 ∨ 29 = 29 ∨ 29 = 41 ∨ 29 = 57 ∨ 29 = 58) ∨ 80 ≤ 77 ∧ 77 ≤ 87 ∨ 77 = 100 by decide)
      refine to_an (pc := 182) rw_165_182 rfl (to_c (pc := 183) rw_165_183 (x := (0 : Int32)) rfl rfl (s_pI (pc := 184) rw_165_184 hG36 rfl (fun M39 W38 => ?_)))
      have hG40 := g_w hG36 W38 (A := 0) rfl (lo := 0) (hi := 40) rfl rfl (by omega) (by decide)
      have F41 := FR.w F37 W38 (show 77 = 77 ∧ (11 ≤ 58 ∧ 58 ≤ 13 ∨ 58 = 28 ∨ 58 = 29 ∨ 58 = 41 ∨ 58 = 57 ∨ 58 = 58) ∨ 80 ≤ 77 ∧ 77 ≤ 87 ∨ 77 = 100 by decide)
      refine to_an (pc := 187) rw_165_187 rfl (to_c (pc := 188) rw_165_188 (x := (0 : Int32)) rfl rfl (s_pZ (pc := 189) rw_165_189 hG40 rfl (A := 0) rfl (by omega) (fun M43 W42 => ?_)))
      have hG44 := g_w hG40 W42 (A := 0) rfl (lo := 0) (hi := 1) rfl rfl (by omega) (by decide)
      have F45 := FR.w F41 W42 (show 77 = 77 ∧ (11 ≤ 57 ∧ 57 ≤ 13 ∨ 57 = 28 ∨ 57 = 29 ∨ 57 = 41 ∨ 57 = 57 ∨ 57 = 58) ∨ 80 ≤ 77 ∧ 77 ≤ 87 ∨ 77 = 100 by decide)
      refine to_an (pc := 192) rw_165_192 rfl (to_c (pc := 193) rw_165_193 (x := (0 : Int32)) rfl rfl (s_pI (pc := 194) rw_165_194 hG44 rfl (fun M47 W46 => ?_)))
      have hG48 := g_wf hG44 W46 rfl rfl (by decide)
      have F49 := FR.w F45 W46 (show 77 = 77 ∧ (11 ≤ 41 ∧ 41 ≤ 13 ∨ 41 = 28 ∨ 41 = 29 ∨ 41 = 41 ∨ 41 = 57 ∨ 41 = 58) ∨ 80 ≤ 77 ∧ 77 ≤ 87 ∨ 77 = 100 by decide)
      refine to_c (pc := 197) rw_165_197 (x := (0 : Int32)) rfl rfl (to_isn (pc := 198) rw_165_198 (ls2 := [.ref 77, .int (0 : Int32)]) rfl rfl ?_)
      have k_50 : (0 : Int32).toInt = 0 := rfl
      have c_51 : M47.2.1 77 11 = (N.2.1 77 11) := (W_n W46 (by decide) (W_n W42 (by decide) (W_n W38 (by decide) (W_n W34 (by decide) (W_n W30 (by decide) rfl)))))
      have c_52 : M47.2.1 77 12 = (N.2.1 77 12) := (W_n W46 (by decide) (W_n W42 (by decide) (W_n W38 (by decide) (W_n W34 (by decide) (W_n W30 (by decide) rfl)))))
      have c_53 : M47.2.1 77 13 = (N.2.1 77 13) := (W_n W46 (by decide) (W_n W42 (by decide) (W_n W38 (by decide) (W_n W34 (by decide) (W_n W30 (by decide) rfl)))))
      have c_54 : M47.2.1 77 28 = (0 : Int32) := (W_n W46 (by decide) (W_n W42 (by decide) (W_n W38 (by decide) (W_n W34 (by decide) (W_e W30)))))
      have t_55 : (M47.2.1 77 28).toInt = (0 : Int32).toInt := congrArg Int32.toInt c_54
      have c_56 : M47.2.1 77 29 = (0 : Int32) := (W_n W46 (by decide) (W_n W42 (by decide) (W_n W38 (by decide) (W_e W34))))
      have t_57 : (M47.2.1 77 29).toInt = (0 : Int32).toInt := congrArg Int32.toInt c_56
      have c_58 : M47.2.1 77 41 = (0 : Int32) := (W_e W46)
      have t_59 : (M47.2.1 77 41).toInt = (0 : Int32).toInt := congrArg Int32.toInt c_58
      have c_60 : M47.2.1 77 58 = (0 : Int32) := (W_n W46 (by decide) (W_n W42 (by decide) (W_e W38)))
      have t_61 : (M47.2.1 77 58).toInt = (0 : Int32).toInt := congrArg Int32.toInt c_60
      have c_62 : M47.2.1 77 57 = (0 : Int32) := (W_n W46 (by decide) (W_e W42))
      have t_63 : (M47.2.1 77 57).toInt = (0 : Int32).toInt := congrArg Int32.toInt c_62
      exact (U_165_0 hX hd  h ((6 - (0 : Int32).toInt).toNat + 1)) M47 (0 : Int32) hG48 F49 (by omega) (by omega) (KP_f (fun a i z => (W_n W46 (by /-r77,41-/ omega) (W_n W42 (by /-r77,57-/ omega) (W_n W38 (by /-r77,58-/ omega) (W_n W34 (by /-r77,29-/ omega) (W_n W30 (by /-r77,28-/ omega) rfl)))))) ((show (x1.toInt).toNat = 12 by omega) ▸ g3)) (KL_f (fun i => (W_j W46 (W_j W42 (W_j W38 (W_j W34 (W_j W30 rfl)))))) ((show (x1.toInt).toNat = 12 by omega) ▸ g4)) (c_51.trans g5) (c_52.trans g6) (c_53.trans g7) (by omega) (by omega) (by omega) trivial (by omega) (by omega) (by omega)
    · refine to_an (pc := 121) rw_165_121 rfl (s_gR (pc := 122) rw_165_122 hG rfl (v := 85) rfl (to_in (pc := 125) rw_165_125 rfl (to_an (pc := 126) rw_165_126 rfl (s_gR (pc := 127) rw_165_127 hG rfl (v := 85) rfl (to_c (pc := 130) rw_165_130 (x := (12 : Int32)) rfl rfl (to_in (pc := 132) rw_165_132 rfl (s_add (pc := 133) rw_165_133 (A := 12) (B := x1.toInt) rfl rfl (by omega) (fun v64 e65 => s_ial (pc := 134) rw_165_134 hG rfl (n := 24) rfl rfl (A := v64.toInt) rfl (by omega) (by omega) (lo := -2147483648) (hi := 2147483647) rfl rfl (fun v66 w_67 _ _ => s_ias (pc := 135) rw_165_135 hG rfl (n := 24) rfl (A := x1.toInt) rfl (by omega) (by omega) (fun M69 W68 => ?_))))))))))
      have hG70 := g_wf hG W68 rfl rfl (by decide)
      have F71 := FR.w F0 W68 (show 85 = 77 ∧ (11 ≤ (x1.toInt).toNat ∧ (x1.toInt).toNat ≤ 13 ∨ (x1.toInt).toNat = 28 ∨ (x1.toInt).toNat = 29 ∨ (x1.toInt).toNat = 41 ∨ (x1.toInt).toNat = 57 ∨ (x1.toInt).toNat = 58) ∨ 80 ≤ 85 ∧ 85 ≤ 87 ∨ 85 = 100 by omega)
      refine to_an (pc := 136) rw_165_136 rfl (s_gR (pc := 137) rw_165_137 hG70 rfl (v := 86) rfl (to_in (pc := 140) rw_165_140 rfl (to_an (pc := 141) rw_165_141 rfl (s_gR (pc := 142) rw_165_142 hG70 rfl (v := 86) rfl (to_c (pc := 145) rw_165_145 (x := (12 : Int32)) rfl rfl (to_in (pc := 147) rw_165_147 rfl (s_add (pc := 148) rw_165_148 (A := 12) (B := x1.toInt) rfl rfl (by omega) (fun v72 e73 => s_ial (pc := 149) rw_165_149 hG70 rfl (n := 24) rfl rfl (A := v72.toInt) rfl (by omega) (by omega) (lo := 0) (hi := 7) rfl rfl (fun v74 w_75 _ _ => s_ias (pc := 150) rw_165_150 hG70 rfl (n := 24) rfl (A := x1.toInt) rfl (by omega) (by omega) (fun M77 W76 => ?_))))))))))
      have hG78 := g_w hG70 W76 (A := v74.toInt) rfl (lo := 0) (hi := 7) rfl rfl (by omega) (by decide)
      have F79 := FR.w F71 W76 (show 86 = 77 ∧ (11 ≤ (x1.toInt).toNat ∧ (x1.toInt).toNat ≤ 13 ∨ (x1.toInt).toNat = 28 ∨ (x1.toInt).toNat = 29 ∨ (x1.toInt).toNat = 41 ∨ (x1.toInt).toNat = 57 ∨ (x1.toInt).toNat = 58) ∨ 80 ≤ 86 ∧ 86 ≤ 87 ∨ 86 = 100 by omega)
      refine to_an (pc := 151) rw_165_151 rfl (s_gR (pc := 152) rw_165_152 hG78 rfl (v := 87) rfl (to_in (pc := 155) rw_165_155 rfl (to_an (pc := 156) rw_165_156 rfl (s_gR (pc := 157) rw_165_157 hG78 rfl (v := 87) rfl (to_c (pc := 160) rw_165_160 (x := (12 : Int32)) rfl rfl (to_in (pc := 162) rw_165_162 rfl (s_add (pc := 163) rw_165_163 (A := 12) (B := x1.toInt) rfl rfl (by omega) (fun v80 e81 => s_lalE (pc := 164) rw_165_164 hG78 rfl (n := 24) rfl (A := v80.toInt) rfl (by omega) (by omega) (fun l82 w_83 => s_las (pc := 165) rw_165_165 hG78 rfl (n := 24) rfl (A := x1.toInt) rfl (by omega) (by omega) (fun M85 W84 => ?_))))))))))
      have hG86 := g_wl hG78 W84
      have F87 := FR.wl F79 W84 (show 87 = 77 ∧ (11 ≤ (x1.toInt).toNat ∧ (x1.toInt).toNat ≤ 13 ∨ (x1.toInt).toNat = 28 ∨ (x1.toInt).toNat = 29 ∨ (x1.toInt).toNat = 41 ∨ (x1.toInt).toNat = 57 ∨ (x1.toInt).toNat = 58) ∨ 80 ≤ 87 ∧ 87 ≤ 87 ∨ 87 = 100 by omega)
      refine s_inc (pc := 166) rw_165_166 (ls2 := fun v => [.ref 77, .int v]) rfl rfl (fun _ => rfl) (A := x1.toInt) (B := 1) rfl rfl (by omega) (fun v88 e89 => to_go (pc := 169) rw_165_169 ?_)
      have c_90 : M85.2.1 77 11 = (N.2.1 77 11) := (W_l W84 (W_n W76 (fun z => absurd z.1 (by decide)) (W_n W68 (fun z => absurd z.1 (by decide)) rfl)))
      have c_91 : M85.2.1 77 12 = (N.2.1 77 12) := (W_l W84 (W_n W76 (fun z => absurd z.1 (by decide)) (W_n W68 (fun z => absurd z.1 (by decide)) rfl)))
      have c_92 : M85.2.1 77 13 = (N.2.1 77 13) := (W_l W84 (W_n W76 (fun z => absurd z.1 (by decide)) (W_n W68 (fun z => absurd z.1 (by decide)) rfl)))
      exact ih M85 v88 hG86 F87 (by omega) (by omega) (KP_2 g3 (by omega) rfl (by omega) (show N.2.1 85 (12 + (x1.toInt).toNat) = v66 from (by rw [show 12 + (x1.toInt).toNat = (v64.toInt).toNat by omega]; exact w_67)) W68 (show M69.2.1 86 (12 + (x1.toInt).toNat) = v74 from (by rw [show 12 + (x1.toInt).toNat = (v72.toInt).toNat by omega]; exact w_75)) W76 W84) (KL_2 g4 (by omega) rfl (by omega) W68 W76 (show M77.2.2.1 87 (12 + (x1.toInt).toNat) = l82 from (by rw [show 12 + (x1.toInt).toNat = (v80.toInt).toNat by omega]; exact w_83)) W84) (c_90.trans g5) (c_91.trans g6) (c_92.trans g7) (by omega)
set_option maxRecDepth 4000 in
set_option maxHeartbeats 0 in
theorem U_165_2 {X : mm_X} {d : Nat} {M : mm_M} {Q : Option Value → mm_M → Prop} (hX : g_X X) (hd : 0 ≤ d) (h : ∀ (M1 : mm_M), g_G M1 → FR md_ke M M1 → ((M1.2.1 77 28).toInt = 0) → ((M1.2.1 77 29).toInt = 0) → ((M1.2.1 77 41).toInt = 0) → (∀ s9 : x_S, PLr2 M s9 → PLk2 M1 s9) → ((M1.2.1 77 58).toInt = 0) → ((M1.2.1 77 57).toInt = 0) → Q (none) M1) : ∀ nn9 : Nat, (∀ (N : mm_M) (x1 : Int32), g_G N → FR md_ke M N → (0 ≤ x1.toInt) → (x1.toInt ≤ 8) → (KP N M (x1.toInt).toNat 0) → (KL N M 0) → (N.2.1 77 11 = M.2.1 77 14) → (N.2.1 77 12 = M.2.1 77 15) → (N.2.1 77 13 = M.2.1 77 16) → 8 - x1.toInt < (nn9 : Int) → mm_T X d 164 26 [.ref 77, .int x1] [] N Q) := by
  intro nn9
  induction nn9 with
  | zero =>
    intro N x1 hG F0 g1 g2 g3 g4 g5 g6 g7 hm
    exfalso; omega
  | succ nn9 ih =>
    intro N x1 hG F0 g1 g2 g3 g4 g5 g6 g7 hm
    refine to_in (pc := 26) rw_165_26 rfl (to_c (pc := 27) rw_165_27 (x := (8 : Int32)) rfl rfl (b_cge (pc := 29) rw_165_29 (A := x1.toInt) (B := 8) rfl rfl (fun h93 => ?_) (fun h93 => ?_)))
    · refine to_c (pc := 113) rw_165_113 (x := (0 : Int32)) rfl rfl (to_isn (pc := 114) rw_165_114 (ls2 := [.ref 77, .int (0 : Int32)]) rfl rfl ?_)
      have k_94 : (0 : Int32).toInt = 0 := rfl
      exact (U_165_1 hX hd  h ((12 - (0 : Int32).toInt).toNat + 1)) N (0 : Int32) hG F0 (by omega) (by omega) ((show (x1.toInt).toNat = 8 by omega) ▸ g3) g4 g5 g6 g7 (by omega)
    · refine to_an (pc := 32) rw_165_32 rfl (s_gR (pc := 33) rw_165_33 hG rfl (v := 80) rfl (to_in (pc := 36) rw_165_36 rfl (to_an (pc := 37) rw_165_37 rfl (s_gR (pc := 38) rw_165_38 hG rfl (v := 80) rfl (to_c (pc := 41) rw_165_41 (x := (8 : Int32)) rfl rfl (to_in (pc := 43) rw_165_43 rfl (s_add (pc := 44) rw_165_44 (A := 8) (B := x1.toInt) rfl rfl (by omega) (fun v95 e96 => s_ial (pc := 45) rw_165_45 hG rfl (n := 16) rfl rfl (A := v95.toInt) rfl (by omega) (by omega) (lo := -2147483648) (hi := 2147483647) rfl rfl (fun v97 w_98 _ _ => s_ias (pc := 46) rw_165_46 hG rfl (n := 16) rfl (A := x1.toInt) rfl (by omega) (by omega) (fun M100 W99 => ?_))))))))))
      have hG101 := g_wf hG W99 rfl rfl (by decide)
      have F102 := FR.w F0 W99 (show 80 = 77 ∧ (11 ≤ (x1.toInt).toNat ∧ (x1.toInt).toNat ≤ 13 ∨ (x1.toInt).toNat = 28 ∨ (x1.toInt).toNat = 29 ∨ (x1.toInt).toNat = 41 ∨ (x1.toInt).toNat = 57 ∨ (x1.toInt).toNat = 58) ∨ 80 ≤ 80 ∧ 80 ≤ 87 ∨ 80 = 100 by omega)
      refine to_an (pc := 47) rw_165_47 rfl (s_gR (pc := 48) rw_165_48 hG101 rfl (v := 81) rfl (to_in (pc := 51) rw_165_51 rfl (to_an (pc := 52) rw_165_52 rfl (s_gR (pc := 53) rw_165_53 hG101 rfl (v := 81) rfl (to_c (pc := 56) rw_165_56 (x := (8 : Int32)) rfl rfl (to_in (pc := 58) rw_165_58 rfl (s_add (pc := 59) rw_165_59 (A := 8) (B := x1.toInt) rfl rfl (by omega) (fun v103 e104 => s_ial (pc := 60) rw_165_60 hG101 rfl (n := 16) rfl rfl (A := v103.toInt) rfl (by omega) (by omega) (lo := 0) (hi := 3) rfl rfl (fun v105 w_106 _ _ => s_ias (pc := 61) rw_165_61 hG101 rfl (n := 16) rfl (A := x1.toInt) rfl (by omega) (by omega) (fun M108 W107 => ?_))))))))))
      have hG109 := g_w hG101 W107 (A := v105.toInt) rfl (lo := 0) (hi := 3) rfl rfl (by omega) (by decide)
      have F110 := FR.w F102 W107 (show 81 = 77 ∧ (11 ≤ (x1.toInt).toNat ∧ (x1.toInt).toNat ≤ 13 ∨ (x1.toInt).toNat = 28 ∨ (x1.toInt).toNat = 29 ∨ (x1.toInt).toNat = 41 ∨ (x1.toInt).toNat = 57 ∨ (x1.toInt).toNat = 58) ∨ 80 ≤ 81 ∧ 81 ≤ 87 ∨ 81 = 100 by omega)
      refine to_an (pc := 62) rw_165_62 rfl (s_gR (pc := 63) rw_165_63 hG109 rfl (v := 82) rfl (to_in (pc := 66) rw_165_66 rfl (to_an (pc := 67) rw_165_67 rfl (s_gR (pc := 68) rw_165_68 hG109 rfl (v := 82) rfl (to_c (pc := 71) rw_165_71 (x := (8 : Int32)) rfl rfl (to_in (pc := 73) rw_165_73 rfl (s_add (pc := 74) rw_165_74 (A := 8) (B := x1.toInt) rfl rfl (by omega) (fun v111 e112 => s_ial (pc := 75) rw_165_75 hG109 rfl (n := 16) rfl rfl (A := v111.toInt) rfl (by omega) (by omega) (lo := 0) (hi := 59) rfl rfl (fun v113 w_114 _ _ => s_ias (pc := 76) rw_165_76 hG109 rfl (n := 16) rfl (A := x1.toInt) rfl (by omega) (by omega) (fun M116 W115 => ?_))))))))))
      have hG117 := g_w hG109 W115 (A := v113.toInt) rfl (lo := 0) (hi := 59) rfl rfl (by omega) (by decide)
      have F118 := FR.w F110 W115 (show 82 = 77 ∧ (11 ≤ (x1.toInt).toNat ∧ (x1.toInt).toNat ≤ 13 ∨ (x1.toInt).toNat = 28 ∨ (x1.toInt).toNat = 29 ∨ (x1.toInt).toNat = 41 ∨ (x1.toInt).toNat = 57 ∨ (x1.toInt).toNat = 58) ∨ 80 ≤ 82 ∧ 82 ≤ 87 ∨ 82 = 100 by omega)
      refine to_an (pc := 77) rw_165_77 rfl (s_gR (pc := 78) rw_165_78 hG117 rfl (v := 83) rfl (to_in (pc := 81) rw_165_81 rfl (to_an (pc := 82) rw_165_82 rfl (s_gR (pc := 83) rw_165_83 hG117 rfl (v := 83) rfl (to_c (pc := 86) rw_165_86 (x := (8 : Int32)) rfl rfl (to_in (pc := 88) rw_165_88 rfl (s_add (pc := 89) rw_165_89 (A := 8) (B := x1.toInt) rfl rfl (by omega) (fun v119 e120 => s_ial (pc := 90) rw_165_90 hG117 rfl (n := 16) rfl rfl (A := v119.toInt) rfl (by omega) (by omega) (lo := 0) (hi := 63) rfl rfl (fun v121 w_122 _ _ => s_ias (pc := 91) rw_165_91 hG117 rfl (n := 16) rfl (A := x1.toInt) rfl (by omega) (by omega) (fun M124 W123 => ?_))))))))))
      have hG125 := g_w hG117 W123 (A := v121.toInt) rfl (lo := 0) (hi := 63) rfl rfl (by omega) (by decide)
      have F126 := FR.w F118 W123 (show 83 = 77 ∧ (11 ≤ (x1.toInt).toNat ∧ (x1.toInt).toNat ≤ 13 ∨ (x1.toInt).toNat = 28 ∨ (x1.toInt).toNat = 29 ∨ (x1.toInt).toNat = 41 ∨ (x1.toInt).toNat = 57 ∨ (x1.toInt).toNat = 58) ∨ 80 ≤ 83 ∧ 83 ≤ 87 ∨ 83 = 100 by omega)
      refine to_an (pc := 92) rw_165_92 rfl (s_gR (pc := 93) rw_165_93 hG125 rfl (v := 84) rfl (to_in (pc := 96) rw_165_96 rfl (to_an (pc := 97) rw_165_97 rfl (s_gR (pc := 98) rw_165_98 hG125 rfl (v := 84) rfl (to_c (pc := 101) rw_165_101 (x := (8 : Int32)) rfl rfl (to_in (pc := 103) rw_165_103 rfl (s_add (pc := 104) rw_165_104 (A := 8) (B := x1.toInt) rfl rfl (by omega) (fun v127 e128 => s_ial (pc := 105) rw_165_105 hG125 rfl (n := 16) rfl rfl (A := v127.toInt) rfl (by omega) (by omega) (lo := 0) (hi := 24) rfl rfl (fun v129 w_130 _ _ => s_ias (pc := 106) rw_165_106 hG125 rfl (n := 16) rfl (A := x1.toInt) rfl (by omega) (by omega) (fun M132 W131 => ?_))))))))))
      have hG133 := g_w hG125 W131 (A := v129.toInt) rfl (lo := 0) (hi := 24) rfl rfl (by omega) (by decide)
      have F134 := FR.w F126 W131 (show 84 = 77 ∧ (11 ≤ (x1.toInt).toNat ∧ (x1.toInt).toNat ≤ 13 ∨ (x1.toInt).toNat = 28 ∨ (x1.toInt).toNat = 29 ∨ (x1.toInt).toNat = 41 ∨ (x1.toInt).toNat = 57 ∨ (x1.toInt).toNat = 58) ∨ 80 ≤ 84 ∧ 84 ≤ 87 ∨ 84 = 100 by omega)
      refine s_inc (pc := 107) rw_165_107 (ls2 := fun v => [.ref 77, .int v]) rfl rfl (fun _ => rfl) (A := x1.toInt) (B := 1) rfl rfl (by omega) (fun v135 e136 => to_go (pc := 110) rw_165_110 ?_)
      have c_137 : M132.2.1 77 11 = (N.2.1 77 11) := (W_n W131 (fun z => absurd z.1 (by decide)) (W_n W123 (fun z => absurd z.1 (by decide)) (W_n W115 (fun z => absurd z.1 (by decide)) (W_n W107 (fun z => absurd z.1 (by decide)) (W_n W99 (fun z => absurd z.1 (by decide)) rfl)))))
      have c_138 : M132.2.1 77 12 = (N.2.1 77 12) := (W_n W131 (fun z => absurd z.1 (by decide)) (W_n W123 (fun z => absurd z.1 (by decide)) (W_n W115 (fun z => absurd z.1 (by decide)) (W_n W107 (fun z => absurd z.1 (by decide)) (W_n W99 (fun z => absurd z.1 (by decide)) rfl)))))
      have c_139 : M132.2.1 77 13 = (N.2.1 77 13) := (W_n W131 (fun z => absurd z.1 (by decide)) (W_n W123 (fun z => absurd z.1 (by decide)) (W_n W115 (fun z => absurd z.1 (by decide)) (W_n W107 (fun z => absurd z.1 (by decide)) (W_n W99 (fun z => absurd z.1 (by decide)) rfl)))))
      exact ih M132 v135 hG133 F134 (by omega) (by omega) (KP_5 g3 (by omega) rfl (by omega) (show N.2.1 80 (8 + (x1.toInt).toNat) = v97 from (by rw [show 8 + (x1.toInt).toNat = (v95.toInt).toNat by omega]; exact w_98)) W99 (show M100.2.1 81 (8 + (x1.toInt).toNat) = v105 from (by rw [show 8 + (x1.toInt).toNat = (v103.toInt).toNat by omega]; exact w_106)) W107 (show M108.2.1 82 (8 + (x1.toInt).toNat) = v113 from (by rw [show 8 + (x1.toInt).toNat = (v111.toInt).toNat by omega]; exact w_114)) W115 (show M116.2.1 83 (8 + (x1.toInt).toNat) = v121 from (by rw [show 8 + (x1.toInt).toNat = (v119.toInt).toNat by omega]; exact w_122)) W123 (show M124.2.1 84 (8 + (x1.toInt).toNat) = v129 from (by rw [show 8 + (x1.toInt).toNat = (v127.toInt).toNat by omega]; exact w_130)) W131) (KL_f (fun i => (W_j W131 (W_j W123 (W_j W115 (W_j W107 (W_j W99 rfl)))))) g4) (c_137.trans g5) (c_138.trans g6) (c_139.trans g7) (by omega)
set_option maxRecDepth 4000 in
set_option maxHeartbeats 0 in
theorem E_165 {X : mm_X} {d : Nat} {M : mm_M} {Q : Option Value → mm_M → Prop} (hX : g_X X) (hd : 0 ≤ d) (hG : g_G M) (h : ∀ (M1 : mm_M), g_G M1 → FR md_ke M M1 → ((M1.2.1 77 28).toInt = 0) → ((M1.2.1 77 29).toInt = 0) → ((M1.2.1 77 41).toInt = 0) → (∀ s9 : x_S, PLr2 M s9 → PLk2 M1 s9) → ((M1.2.1 77 58).toInt = 0) → ((M1.2.1 77 57).toInt = 0) → Q (none) M1) : mm_T X d 164 0 [.ref 77, .null] [] M Q := by
  have F0 : FR md_ke M M := FR.rf
  refine to_an (pc := 0) rw_165_0 rfl (to_an (pc := 1) rw_165_1 rfl ?_)
  have b_140 := g_b hG (a := 77) (i := 14) (lo := 10) (hi := 60) rfl rfl
  refine tt_gI (pc := 2) rw_165_2 (g_o hG rfl) (v := (M.2.1 77 14)) rfl (s_pI (pc := 5) rw_165_5 hG rfl (fun M142 W141 => ?_))
  have hG143 := g_w hG W141 (A := (M.2.1 77 14).toInt) rfl (lo := 10) (hi := 60) rfl rfl (by omega) (by decide)
  have F144 := FR.w F0 W141 (show 77 = 77 ∧ (11 ≤ 11 ∧ 11 ≤ 13 ∨ 11 = 28 ∨ 11 = 29 ∨ 11 = 41 ∨ 11 = 57 ∨ 11 = 58) ∨ 80 ≤ 77 ∧ 77 ≤ 87 ∨ 77 = 100 by decide)
  refine to_an (pc := 8) rw_165_8 rfl (to_an (pc := 9) rw_165_9 rfl ?_)
  have c_145 : M142.2.1 77 15 = (M.2.1 77 15) := (W_n W141 (by decide) rfl)
  have b_146 := g_b hG (a := 77) (i := 15) (lo := 0) (hi := 8) rfl rfl
  refine tt_gI (pc := 10) rw_165_10 (g_o hG143 rfl) (v := (M.2.1 77 15)) c_145 (s_pI (pc := 13) rw_165_13 hG143 rfl (fun M148 W147 => ?_))
  have hG149 := g_w hG143 W147 (A := (M.2.1 77 15).toInt) rfl (lo := 0) (hi := 8) rfl rfl (by omega) (by decide)
  have F150 := FR.w F144 W147 (show 77 = 77 ∧ (11 ≤ 12 ∧ 12 ≤ 13 ∨ 12 = 28 ∨ 12 = 29 ∨ 12 = 41 ∨ 12 = 57 ∨ 12 = 58) ∨ 80 ≤ 77 ∧ 77 ≤ 87 ∨ 77 = 100 by decide)
  refine to_an (pc := 16) rw_165_16 rfl (to_an (pc := 17) rw_165_17 rfl ?_)
  have c_151 : M148.2.1 77 16 = (M.2.1 77 16) := (W_n W147 (by decide) (W_n W141 (by decide) rfl))
  have b_152 := g_b hG (a := 77) (i := 16) (lo := 0) (hi := 12) rfl rfl
  refine tt_gI (pc := 18) rw_165_18 (g_o hG149 rfl) (v := (M.2.1 77 16)) c_151 (s_pI (pc := 21) rw_165_21 hG149 rfl (fun M154 W153 => ?_))
  have hG155 := g_w hG149 W153 (A := (M.2.1 77 16).toInt) rfl (lo := 0) (hi := 12) rfl rfl (by omega) (by decide)
  have F156 := FR.w F150 W153 (show 77 = 77 ∧ (11 ≤ 13 ∧ 13 ≤ 13 ∨ 13 = 28 ∨ 13 = 29 ∨ 13 = 41 ∨ 13 = 57 ∨ 13 = 58) ∨ 80 ≤ 77 ∧ 77 ≤ 87 ∨ 77 = 100 by decide)
  refine to_c (pc := 24) rw_165_24 (x := (0 : Int32)) rfl rfl (to_isn (pc := 25) rw_165_25 (ls2 := [.ref 77, .int (0 : Int32)]) rfl rfl ?_)
  have k_157 : (0 : Int32).toInt = 0 := rfl
  have c_158 : M154.2.1 77 11 = (M.2.1 77 14) := (W_n W153 (by decide) (W_n W147 (by decide) (W_e W141)))
  have c_159 : M154.2.1 77 12 = (M.2.1 77 15) := (W_n W153 (by decide) (W_e W147))
  have c_160 : M154.2.1 77 13 = (M.2.1 77 16) := (W_e W153)
  exact (U_165_2 hX hd  h ((8 - (0 : Int32).toInt).toNat + 1)) M154 (0 : Int32) hG155 F156 (by omega) (by omega) (KP_0 (fun a i z => (W_n W153 (by /-r77,13-/ omega) (W_n W147 (by /-r77,12-/ omega) (W_n W141 (by /-r77,11-/ omega) rfl))))) (KL_0 (fun i => (W_j W153 (W_j W147 (W_j W141 rfl))))) c_158 c_159 c_160 (by omega)
set_option maxRecDepth 4000 in
set_option maxHeartbeats 0 in
theorem U_173_0 {X : mm_X} {d : Nat} {M : mm_M} {Q : Option Value → mm_M → Prop} {n : Int32} {t : Nat → Int} {nn : Int} (hX : g_X X) (hd : 5 ≤ d) (q1 : (M.2.1 77 7).toInt ≤ (M.2.1 77 6).toInt) (q2 : 0 ≤ n.toInt ∧ n.toInt ≤ (M.2.1 77 1).toInt → n.toInt = nn) (q3 : TR M t nn) (q4 : W9 M) (h : ∀ (r : Int32) (M1 : mm_M), g_G M1 → FR md_P M M1 → (n.toInt < 0 ∨ (M.2.1 77 1).toInt < n.toInt → r.toInt = -2) → ((0 ≤ n.toInt ∧ n.toInt ≤ (M.2.1 77 1).toInt → PAN (x_plan t nn 23 0 x_s0 (x_sk t nn 0)) r.toInt)) → (-2 ≤ r.toInt) → (r.toInt < 0 → (M1.2.1 77 28).toInt = (M.2.1 77 28).toInt ∧ (M1.2.1 77 29).toInt = (M.2.1 77 29).toInt ∧ (M1.2.1 77 41).toInt = (M.2.1 77 41).toInt) → (0 ≤ r.toInt → (M1.2.1 77 28).toInt = 0 ∧ (M1.2.1 77 29).toInt = 0 ∧ (M1.2.1 77 41).toInt = 0) → ((r.toInt < 0 → ∀ s9 : x_S, PLk2 M s9 → PLk2 M1 s9)) → ((0 ≤ r.toInt → ∃ s2 : x_S, x_plan t nn 23 0 x_s0 (x_sk t nn 0) = some (r.toInt, s2) ∧ PLk2 M1 s2)) → (r.toInt < 0 → (M1.2.1 77 58).toInt = (M.2.1 77 58).toInt ∧ (M1.2.1 77 57).toInt = (M.2.1 77 57).toInt) → (0 ≤ r.toInt → (M1.2.1 77 58).toInt = 0 ∧ (M1.2.1 77 57).toInt = 0) → Q (some (.int r)) M1) : ∀ nn9 : Nat, (∀ (N : mm_M) (u1 : Value) (x2 : Int32), g_G N → FR md_P M N → (0 ≤ x2.toInt) → (x2.toInt ≤ 22) → (0 ≤ n.toInt) → (n.toInt ≤ (M.2.1 77 1).toInt) → (n.toInt = nn) → (0 ≤ nn) → (nn ≤ 500) → (RS N t nn) → (TR N t nn) → (W9 N) → ((N.2.1 77 28).toInt = (M.2.1 77 28).toInt) → ((N.2.1 77 29).toInt = (M.2.1 77 29).toInt) → ((N.2.1 77 41).toInt = (M.2.1 77 41).toInt) → (∀ s9 : x_S, PLk2 M s9 → PLk2 N s9) → (IVr t nn (x_plan t nn 23 0 x_s0 (x_sk t nn 0)) N x2.toInt (N.2.1 77 10).toInt) → ((N.2.1 77 58).toInt = (M.2.1 77 58).toInt) → ((N.2.1 77 57).toInt = (M.2.1 77 57).toInt) → 22 - x2.toInt < (nn9 : Int) → mm_T X d 172 22 [.ref 77, u1, .int x2] [] N Q) := by
  intro nn9
  induction nn9 with
  | zero =>
    intro N u1 x2 hG F0 g1 g2 g3 g4 g5 g6 g7 g8 g9 g10 g11 g12 g13 g14 g15 g16 g17 hm
    have b_1 := g_b hG (a := 77) (i := 28) (lo := 0) (hi := 30) rfl rfl
    have b_2 := g_b hG (a := 77) (i := 29) (lo := 0) (hi := 150) rfl rfl
    have b_3 := g_b hG (a := 77) (i := 58) (lo := 0) (hi := 40) rfl rfl
    have b_4 := g_b hG (a := 77) (i := 57) (lo := 0) (hi := 1) rfl rfl
    exfalso; omega
  | succ nn9 ih =>
    intro N u1 x2 hG F0 g1 g2 g3 g4 g5 g6 g7 g8 g9 g10 g11 g12 g13 g14 g15 g16 g17 hm
    have b_5 := g_b hG (a := 77) (i := 28) (lo := 0) (hi := 30) rfl rfl
    have b_6 := g_b hG (a := 77) (i := 29) (lo := 0) (hi := 150) rfl rfl
    have b_7 := g_b hG (a := 77) (i := 58) (lo := 0) (hi := 40) rfl rfl
    have b_8 := g_b hG (a := 77) (i := 57) (lo := 0) (hi := 1) rfl rfl
    obtain ⟨sg, i_1, i_2, i_3, i_4⟩ := g15
    have i_5 : x2.toInt ≤ 21 := by have q1 : sg.2.1 ≤ 8 := i_1.1.1.2.2.2.1; have q2 : sg.2.2.1 ≤ 12 := i_1.1.1.2.2.2.2.2.1; rcases (show x2.toInt = 0 ∨ 0 < x2.toInt by omega) with z | z; omega; have := i_4 z; omega
    refine to_an (pc := 22) rw_173_22 rfl ?_
    have b_9 := g_b hG (a := 77) (i := 8) (lo := 0) (hi := 5) rfl rfl
    have b_10 := g_b hG (a := 77) (i := 10) (lo := 0) (hi := 500) rfl rfl
    have c_11 := RS_u g8 (a := (N.2.1 77 10).toInt) (by omega)
    unfold x_R at c_11
    refine tt_gI (pc := 23) rw_173_23 (g_o hG rfl) (v := (N.2.1 77 8)) rfl (b_ieq (pc := 26) rw_173_26 (A := (N.2.1 77 8).toInt) rfl (fun h12 => ?_) (fun h12 => ?_))
    · refine to_an (pc := 53) rw_173_53 rfl (s_v (pc := 54) rw_173_54 (dp0 hd (by decide)) (ls0 := [.ref 77, .null]) rfl (Nat.le_of_ble_eq_true rfl) (Nat.le_of_ble_eq_true rfl) rfl (to_rc rfl rfl rfl (g_o hG rfl)) rfl (E_165 hX (dp1 hd (by decide)) hG  (fun M21 hG14 F13 p_15 p_16 p_17 p_18 p_19 p_20 => ?_)))
      have F22 := FR.c F0 F13 tg_81
      have b_23 := g_b hG14 (a := 77) (i := 28) (lo := 0) (hi := 30) rfl rfl
      have b_24 := g_b hG14 (a := 77) (i := 29) (lo := 0) (hi := 150) rfl rfl
      have b_25 := g_b hG14 (a := 77) (i := 58) (lo := 0) (hi := 40) rfl rfl
      have b_26 := g_b hG14 (a := 77) (i := 57) (lo := 0) (hi := 1) rfl rfl
      refine to_in (pc := 57) rw_173_57 rfl (to_r0 (pc := 58) rw_173_58 ?_)
      exact h x2 M21 hG14 F22 (by omega) (fun _ => IVr_e (by omega) i_2 (by omega) rfl) (by omega) (by omega) (by omega) (fun z => by exfalso; omega) (fun _ => ⟨sg, (by rw [← i_2]; exact x_plan_e (by omega) (by omega)), p_18 sg ⟨i_1.1, i_1.2⟩⟩) (by omega) (by omega)
    · refine to_an (pc := 29) rw_173_29 rfl (to_in (pc := 30) rw_173_30 rfl (b_ine (pc := 31) rw_173_31 (A := x2.toInt) rfl (fun h27 => ?_) (fun h27 => ?_)))
      · refine to_c (pc := 38) rw_173_38 (x := (0 : Int32)) rfl rfl (s_v (pc := 39) rw_173_39 (dp0 hd (by decide)) (ls0 := [.ref 77, .int (0 : Int32)]) rfl (Nat.le_of_ble_eq_true rfl) (Nat.le_of_ble_eq_true rfl) rfl (to_rc rfl rfl rfl (g_o hG rfl)) rfl ?_)
        have k_28 : (0 : Int32).toInt = 0 := rfl
        refine E_172 hX (dp1 hd (by decide)) hG g8 (by omega) (by omega) (by omega) g9 g10 i_1.1 i_1.2 (by omega) (by omega) (by omega) (by omega) (by omega) (x := (0 : Int32)) (t := t) (nn := nn) (a := (N.2.1 77 10).toInt) (sg := sg) (L := x2.toInt) (fu := (22 - x2.toInt).toNat) (fun r29 M37 hG31 F30 p_32 p_33 p_34 p_35 p_36 => ?_)
        have F38 := FR.c F0 F30 tg_82
        rcases (show r29.toInt = 0 ∨ r29.toInt = 1 by omega) with h39 | h39
        · skip
          have p_40 := p_35 (by omega)
          clear p_35 p_36
          refine b_ine_f (pc := 42) rw_173_42 (A := r29.toInt) rfl (by omega) (to_c (pc := 45) rw_173_45 (x := (-1 : Int32)) rfl rfl (to_r0 (pc := 46) rw_173_46 ?_))
          have k_41 : (-1 : Int32).toInt = -1 := rfl
          have c_42 : M37.2.1 77 28 = (N.2.1 77 28) := (F_n F30 (show ¬ (77 = 77 ∧ (28 = 4 ∨ 28 = 5 ∨ 7 ≤ 28 ∧ 28 ≤ 10 ∨ 14 ≤ 28 ∧ 28 ≤ 16 ∨ 28 = 25) ∨ 80 ≤ 77 ∧ 77 ≤ 84 ∧ 8 ≤ 28 ∨ 85 ≤ 77 ∧ 77 ≤ 87 ∧ 12 ≤ 28) by decide) rfl)
          have t_43 : (M37.2.1 77 28).toInt = (N.2.1 77 28).toInt := congrArg Int32.toInt c_42
          have c_44 : M37.2.1 77 29 = (N.2.1 77 29) := (F_n F30 (show ¬ (77 = 77 ∧ (29 = 4 ∨ 29 = 5 ∨ 7 ≤ 29 ∧ 29 ≤ 10 ∨ 14 ≤ 29 ∧ 29 ≤ 16 ∨ 29 = 25) ∨ 80 ≤ 77 ∧ 77 ≤ 84 ∧ 8 ≤ 29 ∨ 85 ≤ 77 ∧ 77 ≤ 87 ∧ 12 ≤ 29) by decide) rfl)
          have t_45 : (M37.2.1 77 29).toInt = (N.2.1 77 29).toInt := congrArg Int32.toInt c_44
          have c_46 : M37.2.1 77 41 = (N.2.1 77 41) := (F_n F30 (show ¬ (77 = 77 ∧ (41 = 4 ∨ 41 = 5 ∨ 7 ≤ 41 ∧ 41 ≤ 10 ∨ 14 ≤ 41 ∧ 41 ≤ 16 ∨ 41 = 25) ∨ 80 ≤ 77 ∧ 77 ≤ 84 ∧ 8 ≤ 41 ∨ 85 ≤ 77 ∧ 77 ≤ 87 ∧ 12 ≤ 41) by decide) rfl)
          have t_47 : (M37.2.1 77 41).toInt = (N.2.1 77 41).toInt := congrArg Int32.toInt c_46
          have c_48 : M37.2.1 77 58 = (N.2.1 77 58) := (F_n F30 (show ¬ (77 = 77 ∧ (58 = 4 ∨ 58 = 5 ∨ 7 ≤ 58 ∧ 58 ≤ 10 ∨ 14 ≤ 58 ∧ 58 ≤ 16 ∨ 58 = 25) ∨ 80 ≤ 77 ∧ 77 ≤ 84 ∧ 8 ≤ 58 ∨ 85 ≤ 77 ∧ 77 ≤ 87 ∧ 12 ≤ 58) by decide) rfl)
          have t_49 : (M37.2.1 77 58).toInt = (N.2.1 77 58).toInt := congrArg Int32.toInt c_48
          have c_50 : M37.2.1 77 57 = (N.2.1 77 57) := (F_n F30 (show ¬ (77 = 77 ∧ (57 = 4 ∨ 57 = 5 ∨ 7 ≤ 57 ∧ 57 ≤ 10 ∨ 14 ≤ 57 ∧ 57 ≤ 16 ∨ 57 = 25) ∨ 80 ≤ 77 ∧ 77 ≤ 84 ∧ 8 ≤ 57 ∨ 85 ≤ 77 ∧ 77 ≤ 87 ∧ 12 ≤ 57) by decide) rfl)
          have t_51 : (M37.2.1 77 57).toInt = (N.2.1 77 57).toInt := congrArg Int32.toInt c_50
          exact h (-1 : Int32) M37 hG31 F38 (by omega) (fun _ => Or.inl ⟨IVr_l (by omega) (by omega) i_2 (by omega) p_40, rfl⟩) (by omega) (by omega) (by omega) (fun _ => (fun s9 h9 => PLk2_f (fun a i z => (F_n F30 (show ¬ (a = 77 ∧ (i = 4 ∨ i = 5 ∨ 7 ≤ i ∧ i ≤ 10 ∨ 14 ≤ i ∧ i ≤ 16 ∨ i = 25) ∨ 80 ≤ a ∧ a ≤ 84 ∧ 8 ≤ i ∨ 85 ≤ a ∧ a ≤ 87 ∧ 12 ≤ i) by omega) rfl)) (fun i hi9 => (F_nl F30 (show ¬ (87 = 77 ∧ (i = 4 ∨ i = 5 ∨ 7 ≤ i ∧ i ≤ 10 ∨ 14 ≤ i ∧ i ≤ 16 ∨ i = 25) ∨ 80 ≤ 87 ∧ 87 ≤ 84 ∧ 8 ≤ i ∨ 85 ≤ 87 ∧ 87 ≤ 87 ∧ 12 ≤ i) by omega) rfl)) (g14 s9 h9))) (fun z => by exfalso; omega) (by omega) (by omega)
        · skip
          have p_52 := p_36 (by omega)
          clear p_35 p_36
          refine b_ine_t (pc := 42) rw_173_42 (A := r29.toInt) rfl (by omega) (s_inc (pc := 47) rw_173_47 (ls2 := fun v => [.ref 77, u1, .int v]) rfl rfl (fun _ => rfl) (A := x2.toInt) (B := 1) rfl rfl (by omega) (fun v53 e54 => to_go (pc := 50) rw_173_50 ?_))
          have j_55 := (TR_f (tg_69 F30) g9)
          have j_56 := (W9_f (tg_70 F30) g10)
          have c_57 : M37.2.1 77 28 = (N.2.1 77 28) := (F_n F30 (show ¬ (77 = 77 ∧ (28 = 4 ∨ 28 = 5 ∨ 7 ≤ 28 ∧ 28 ≤ 10 ∨ 14 ≤ 28 ∧ 28 ≤ 16 ∨ 28 = 25) ∨ 80 ≤ 77 ∧ 77 ≤ 84 ∧ 8 ≤ 28 ∨ 85 ≤ 77 ∧ 77 ≤ 87 ∧ 12 ≤ 28) by decide) rfl)
          have t_58 : (M37.2.1 77 28).toInt = (N.2.1 77 28).toInt := congrArg Int32.toInt c_57
          have c_59 : M37.2.1 77 29 = (N.2.1 77 29) := (F_n F30 (show ¬ (77 = 77 ∧ (29 = 4 ∨ 29 = 5 ∨ 7 ≤ 29 ∧ 29 ≤ 10 ∨ 14 ≤ 29 ∧ 29 ≤ 16 ∨ 29 = 25) ∨ 80 ≤ 77 ∧ 77 ≤ 84 ∧ 8 ≤ 29 ∨ 85 ≤ 77 ∧ 77 ≤ 87 ∧ 12 ≤ 29) by decide) rfl)
          have t_60 : (M37.2.1 77 29).toInt = (N.2.1 77 29).toInt := congrArg Int32.toInt c_59
          have c_61 : M37.2.1 77 41 = (N.2.1 77 41) := (F_n F30 (show ¬ (77 = 77 ∧ (41 = 4 ∨ 41 = 5 ∨ 7 ≤ 41 ∧ 41 ≤ 10 ∨ 14 ≤ 41 ∧ 41 ≤ 16 ∨ 41 = 25) ∨ 80 ≤ 77 ∧ 77 ≤ 84 ∧ 8 ≤ 41 ∨ 85 ≤ 77 ∧ 77 ≤ 87 ∧ 12 ≤ 41) by decide) rfl)
          have t_62 : (M37.2.1 77 41).toInt = (N.2.1 77 41).toInt := congrArg Int32.toInt c_61
          have b_63 := g_b hG31 (a := 77) (i := 10) (lo := 0) (hi := 500) rfl rfl
          have c_64 : M37.2.1 77 58 = (N.2.1 77 58) := (F_n F30 (show ¬ (77 = 77 ∧ (58 = 4 ∨ 58 = 5 ∨ 7 ≤ 58 ∧ 58 ≤ 10 ∨ 14 ≤ 58 ∧ 58 ≤ 16 ∨ 58 = 25) ∨ 80 ≤ 77 ∧ 77 ≤ 84 ∧ 8 ≤ 58 ∨ 85 ≤ 77 ∧ 77 ≤ 87 ∧ 12 ≤ 58) by decide) rfl)
          have t_65 : (M37.2.1 77 58).toInt = (N.2.1 77 58).toInt := congrArg Int32.toInt c_64
          have c_66 : M37.2.1 77 57 = (N.2.1 77 57) := (F_n F30 (show ¬ (77 = 77 ∧ (57 = 4 ∨ 57 = 5 ∨ 7 ≤ 57 ∧ 57 ≤ 10 ∨ 14 ≤ 57 ∧ 57 ≤ 16 ∨ 57 = 25) ∨ 80 ≤ 77 ∧ 77 ≤ 84 ∧ 8 ≤ 57 ∨ 85 ≤ 77 ∧ 77 ≤ 87 ∧ 12 ≤ 57) by decide) rfl)
          have t_67 : (M37.2.1 77 57).toInt = (N.2.1 77 57).toInt := congrArg Int32.toInt c_66
          exact ih M37 (u1) v53 hG31 F38 (by omega) (by omega) (by omega) (by omega) (by omega) (by omega) (by omega) p_34 j_55 j_56 (by omega) (by omega) (by omega) (fun s9 h9 => PLk2_f (fun a i z => (F_n F30 (show ¬ (a = 77 ∧ (i = 4 ∨ i = 5 ∨ 7 ≤ i ∧ i ≤ 10 ∨ 14 ≤ i ∧ i ≤ 16 ∨ i = 25) ∨ 80 ≤ a ∧ a ≤ 84 ∧ 8 ≤ i ∨ 85 ≤ a ∧ a ≤ 87 ∧ 12 ≤ i) by omega) rfl)) (fun i hi9 => (F_nl F30 (show ¬ (87 = 77 ∧ (i = 4 ∨ i = 5 ∨ 7 ≤ i ∧ i ≤ 10 ∨ 14 ≤ i ∧ i ≤ 16 ∨ i = 25) ∨ 80 ≤ 87 ∧ 87 ≤ 84 ∧ 8 ≤ i ∨ 85 ≤ 87 ∧ 87 ≤ 87 ∧ 12 ≤ i) by omega) rfl)) (g14 s9 h9)) (IVr_s (by omega) (by omega) i_2 (by omega) i_3 i_4 p_52 rfl (by omega)) (by omega) (by omega) (by omega)
      · refine to_c (pc := 34) rw_173_34 (x := (1 : Int32)) rfl rfl (to_go (pc := 35) rw_173_35 (s_v (pc := 39) rw_173_39 (dp0 hd (by decide)) (ls0 := [.ref 77, .int (1 : Int32)]) rfl (Nat.le_of_ble_eq_true rfl) (Nat.le_of_ble_eq_true rfl) rfl (to_rc rfl rfl rfl (g_o hG rfl)) rfl ?_))
        have k_68 : (1 : Int32).toInt = 1 := rfl
        refine E_172 hX (dp1 hd (by decide)) hG g8 (by omega) (by omega) (by omega) g9 g10 i_1.1 i_1.2 (by omega) (by omega) (by omega) (by omega) (by omega) (x := (1 : Int32)) (t := t) (nn := nn) (a := (N.2.1 77 10).toInt) (sg := sg) (L := x2.toInt) (fu := (22 - x2.toInt).toNat) (fun r69 M77 hG71 F70 p_72 p_73 p_74 p_75 p_76 => ?_)
        have F78 := FR.c F0 F70 tg_82
        rcases (show r69.toInt = 0 ∨ r69.toInt = 1 by omega) with h79 | h79
        · skip
          have p_80 := p_75 (by omega)
          clear p_75 p_76
          refine b_ine_f (pc := 42) rw_173_42 (A := r69.toInt) rfl (by omega) (to_c (pc := 45) rw_173_45 (x := (-1 : Int32)) rfl rfl (to_r0 (pc := 46) rw_173_46 ?_))
          have k_81 : (-1 : Int32).toInt = -1 := rfl
          have c_82 : M77.2.1 77 28 = (N.2.1 77 28) := (F_n F70 (show ¬ (77 = 77 ∧ (28 = 4 ∨ 28 = 5 ∨ 7 ≤ 28 ∧ 28 ≤ 10 ∨ 14 ≤ 28 ∧ 28 ≤ 16 ∨ 28 = 25) ∨ 80 ≤ 77 ∧ 77 ≤ 84 ∧ 8 ≤ 28 ∨ 85 ≤ 77 ∧ 77 ≤ 87 ∧ 12 ≤ 28) by decide) rfl)
          have t_83 : (M77.2.1 77 28).toInt = (N.2.1 77 28).toInt := congrArg Int32.toInt c_82
          have c_84 : M77.2.1 77 29 = (N.2.1 77 29) := (F_n F70 (show ¬ (77 = 77 ∧ (29 = 4 ∨ 29 = 5 ∨ 7 ≤ 29 ∧ 29 ≤ 10 ∨ 14 ≤ 29 ∧ 29 ≤ 16 ∨ 29 = 25) ∨ 80 ≤ 77 ∧ 77 ≤ 84 ∧ 8 ≤ 29 ∨ 85 ≤ 77 ∧ 77 ≤ 87 ∧ 12 ≤ 29) by decide) rfl)
          have t_85 : (M77.2.1 77 29).toInt = (N.2.1 77 29).toInt := congrArg Int32.toInt c_84
          have c_86 : M77.2.1 77 41 = (N.2.1 77 41) := (F_n F70 (show ¬ (77 = 77 ∧ (41 = 4 ∨ 41 = 5 ∨ 7 ≤ 41 ∧ 41 ≤ 10 ∨ 14 ≤ 41 ∧ 41 ≤ 16 ∨ 41 = 25) ∨ 80 ≤ 77 ∧ 77 ≤ 84 ∧ 8 ≤ 41 ∨ 85 ≤ 77 ∧ 77 ≤ 87 ∧ 12 ≤ 41) by decide) rfl)
          have t_87 : (M77.2.1 77 41).toInt = (N.2.1 77 41).toInt := congrArg Int32.toInt c_86
          have c_88 : M77.2.1 77 58 = (N.2.1 77 58) := (F_n F70 (show ¬ (77 = 77 ∧ (58 = 4 ∨ 58 = 5 ∨ 7 ≤ 58 ∧ 58 ≤ 10 ∨ 14 ≤ 58 ∧ 58 ≤ 16 ∨ 58 = 25) ∨ 80 ≤ 77 ∧ 77 ≤ 84 ∧ 8 ≤ 58 ∨ 85 ≤ 77 ∧ 77 ≤ 87 ∧ 12 ≤ 58) by decide) rfl)
          have t_89 : (M77.2.1 77 58).toInt = (N.2.1 77 58).toInt := congrArg Int32.toInt c_88
          have c_90 : M77.2.1 77 57 = (N.2.1 77 57) := (F_n F70 (show ¬ (77 = 77 ∧ (57 = 4 ∨ 57 = 5 ∨ 7 ≤ 57 ∧ 57 ≤ 10 ∨ 14 ≤ 57 ∧ 57 ≤ 16 ∨ 57 = 25) ∨ 80 ≤ 77 ∧ 77 ≤ 84 ∧ 8 ≤ 57 ∨ 85 ≤ 77 ∧ 77 ≤ 87 ∧ 12 ≤ 57) by decide) rfl)
          have t_91 : (M77.2.1 77 57).toInt = (N.2.1 77 57).toInt := congrArg Int32.toInt c_90
          exact h (-1 : Int32) M77 hG71 F78 (by omega) (fun _ => Or.inl ⟨IVr_l (by omega) (by omega) i_2 (by omega) p_80, rfl⟩) (by omega) (by omega) (by omega) (fun _ => (fun s9 h9 => PLk2_f (fun a i z => (F_n F70 (show ¬ (a = 77 ∧ (i = 4 ∨ i = 5 ∨ 7 ≤ i ∧ i ≤ 10 ∨ 14 ≤ i ∧ i ≤ 16 ∨ i = 25) ∨ 80 ≤ a ∧ a ≤ 84 ∧ 8 ≤ i ∨ 85 ≤ a ∧ a ≤ 87 ∧ 12 ≤ i) by omega) rfl)) (fun i hi9 => (F_nl F70 (show ¬ (87 = 77 ∧ (i = 4 ∨ i = 5 ∨ 7 ≤ i ∧ i ≤ 10 ∨ 14 ≤ i ∧ i ≤ 16 ∨ i = 25) ∨ 80 ≤ 87 ∧ 87 ≤ 84 ∧ 8 ≤ i ∨ 85 ≤ 87 ∧ 87 ≤ 87 ∧ 12 ≤ i) by omega) rfl)) (g14 s9 h9))) (fun z => by exfalso; omega) (by omega) (by omega)
        · skip
          have p_92 := p_76 (by omega)
          clear p_75 p_76
          refine b_ine_t (pc := 42) rw_173_42 (A := r69.toInt) rfl (by omega) (s_inc (pc := 47) rw_173_47 (ls2 := fun v => [.ref 77, u1, .int v]) rfl rfl (fun _ => rfl) (A := x2.toInt) (B := 1) rfl rfl (by omega) (fun v93 e94 => to_go (pc := 50) rw_173_50 ?_))
          have j_95 := (TR_f (tg_69 F70) g9)
          have j_96 := (W9_f (tg_70 F70) g10)
          have c_97 : M77.2.1 77 28 = (N.2.1 77 28) := (F_n F70 (show ¬ (77 = 77 ∧ (28 = 4 ∨ 28 = 5 ∨ 7 ≤ 28 ∧ 28 ≤ 10 ∨ 14 ≤ 28 ∧ 28 ≤ 16 ∨ 28 = 25) ∨ 80 ≤ 77 ∧ 77 ≤ 84 ∧ 8 ≤ 28 ∨ 85 ≤ 77 ∧ 77 ≤ 87 ∧ 12 ≤ 28) by decide) rfl)
          have t_98 : (M77.2.1 77 28).toInt = (N.2.1 77 28).toInt := congrArg Int32.toInt c_97
          have c_99 : M77.2.1 77 29 = (N.2.1 77 29) := (F_n F70 (show ¬ (77 = 77 ∧ (29 = 4 ∨ 29 = 5 ∨ 7 ≤ 29 ∧ 29 ≤ 10 ∨ 14 ≤ 29 ∧ 29 ≤ 16 ∨ 29 = 25) ∨ 80 ≤ 77 ∧ 77 ≤ 84 ∧ 8 ≤ 29 ∨ 85 ≤ 77 ∧ 77 ≤ 87 ∧ 12 ≤ 29) by decide) rfl)
          have t_100 : (M77.2.1 77 29).toInt = (N.2.1 77 29).toInt := congrArg Int32.toInt c_99
          have c_101 : M77.2.1 77 41 = (N.2.1 77 41) := (F_n F70 (show ¬ (77 = 77 ∧ (41 = 4 ∨ 41 = 5 ∨ 7 ≤ 41 ∧ 41 ≤ 10 ∨ 14 ≤ 41 ∧ 41 ≤ 16 ∨ 41 = 25) ∨ 80 ≤ 77 ∧ 77 ≤ 84 ∧ 8 ≤ 41 ∨ 85 ≤ 77 ∧ 77 ≤ 87 ∧ 12 ≤ 41) by decide) rfl)
          have t_102 : (M77.2.1 77 41).toInt = (N.2.1 77 41).toInt := congrArg Int32.toInt c_101
          have b_103 := g_b hG71 (a := 77) (i := 10) (lo := 0) (hi := 500) rfl rfl
          have c_104 : M77.2.1 77 58 = (N.2.1 77 58) := (F_n F70 (show ¬ (77 = 77 ∧ (58 = 4 ∨ 58 = 5 ∨ 7 ≤ 58 ∧ 58 ≤ 10 ∨ 14 ≤ 58 ∧ 58 ≤ 16 ∨ 58 = 25) ∨ 80 ≤ 77 ∧ 77 ≤ 84 ∧ 8 ≤ 58 ∨ 85 ≤ 77 ∧ 77 ≤ 87 ∧ 12 ≤ 58) by decide) rfl)
          have t_105 : (M77.2.1 77 58).toInt = (N.2.1 77 58).toInt := congrArg Int32.toInt c_104
          have c_106 : M77.2.1 77 57 = (N.2.1 77 57) := (F_n F70 (show ¬ (77 = 77 ∧ (57 = 4 ∨ 57 = 5 ∨ 7 ≤ 57 ∧ 57 ≤ 10 ∨ 14 ≤ 57 ∧ 57 ≤ 16 ∨ 57 = 25) ∨ 80 ≤ 77 ∧ 77 ≤ 84 ∧ 8 ≤ 57 ∨ 85 ≤ 77 ∧ 77 ≤ 87 ∧ 12 ≤ 57) by decide) rfl)
          have t_107 : (M77.2.1 77 57).toInt = (N.2.1 77 57).toInt := congrArg Int32.toInt c_106
          exact ih M77 (u1) v93 hG71 F78 (by omega) (by omega) (by omega) (by omega) (by omega) (by omega) (by omega) p_74 j_95 j_96 (by omega) (by omega) (by omega) (fun s9 h9 => PLk2_f (fun a i z => (F_n F70 (show ¬ (a = 77 ∧ (i = 4 ∨ i = 5 ∨ 7 ≤ i ∧ i ≤ 10 ∨ 14 ≤ i ∧ i ≤ 16 ∨ i = 25) ∨ 80 ≤ a ∧ a ≤ 84 ∧ 8 ≤ i ∨ 85 ≤ a ∧ a ≤ 87 ∧ 12 ≤ i) by omega) rfl)) (fun i hi9 => (F_nl F70 (show ¬ (87 = 77 ∧ (i = 4 ∨ i = 5 ∨ 7 ≤ i ∧ i ≤ 10 ∨ 14 ≤ i ∧ i ≤ 16 ∨ i = 25) ∨ 80 ≤ 87 ∧ 87 ≤ 84 ∧ 8 ≤ i ∨ 85 ≤ 87 ∧ 87 ≤ 87 ∧ 12 ≤ i) by omega) rfl)) (g14 s9 h9)) (IVr_s (by omega) (by omega) i_2 (by omega) i_3 i_4 p_92 rfl (by omega)) (by omega) (by omega) (by omega)
set_option maxRecDepth 4000 in
set_option maxHeartbeats 0 in
theorem E_173 {X : mm_X} {d : Nat} {M : mm_M} {Q : Option Value → mm_M → Prop} {n : Int32} {t : Nat → Int} {nn : Int} (hX : g_X X) (hd : 5 ≤ d) (hG : g_G M) (q1 : (M.2.1 77 7).toInt ≤ (M.2.1 77 6).toInt) (q2 : 0 ≤ n.toInt ∧ n.toInt ≤ (M.2.1 77 1).toInt → n.toInt = nn) (q3 : TR M t nn) (q4 : W9 M) (h : ∀ (r : Int32) (M1 : mm_M), g_G M1 → FR md_P M M1 → (n.toInt < 0 ∨ (M.2.1 77 1).toInt < n.toInt → r.toInt = -2) → ((0 ≤ n.toInt ∧ n.toInt ≤ (M.2.1 77 1).toInt → PAN (x_plan t nn 23 0 x_s0 (x_sk t nn 0)) r.toInt)) → (-2 ≤ r.toInt) → (r.toInt < 0 → (M1.2.1 77 28).toInt = (M.2.1 77 28).toInt ∧ (M1.2.1 77 29).toInt = (M.2.1 77 29).toInt ∧ (M1.2.1 77 41).toInt = (M.2.1 77 41).toInt) → (0 ≤ r.toInt → (M1.2.1 77 28).toInt = 0 ∧ (M1.2.1 77 29).toInt = 0 ∧ (M1.2.1 77 41).toInt = 0) → ((r.toInt < 0 → ∀ s9 : x_S, PLk2 M s9 → PLk2 M1 s9)) → ((0 ≤ r.toInt → ∃ s2 : x_S, x_plan t nn 23 0 x_s0 (x_sk t nn 0) = some (r.toInt, s2) ∧ PLk2 M1 s2)) → (r.toInt < 0 → (M1.2.1 77 58).toInt = (M.2.1 77 58).toInt ∧ (M1.2.1 77 57).toInt = (M.2.1 77 57).toInt) → (0 ≤ r.toInt → (M1.2.1 77 58).toInt = 0 ∧ (M1.2.1 77 57).toInt = 0) → Q (some (.int r)) M1) : mm_T X d 172 0 [.ref 77, .int n, .null] [] M Q := by
  have F0 : FR md_P M M := FR.rf
  have b_108 := g_b hG (a := 77) (i := 7) (lo := 0) (hi := 500) rfl rfl
  have b_109 := g_b hG (a := 77) (i := 6) (lo := 0) (hi := 500) rfl rfl
  have b_110 := g_b hG (a := 77) (i := 1) (lo := 0) (hi := 500) rfl rfl
  refine to_an (pc := 0) rw_173_0 rfl (to_c (pc := 1) rw_173_1 (x := (0 : Int32)) rfl rfl (s_pI (pc := 2) rw_173_2 hG rfl (fun M112 W111 => ?_)))
  have hG113 := g_wf hG W111 rfl rfl (by decide)
  have F114 := FR.w F0 W111 (show 77 = 77 ∨ 79 < 77 ∧ 77 ≤ 87 ∨ 77 = 100 by decide)
  refine to_an (pc := 5) rw_173_5 rfl (to_in (pc := 6) rw_173_6 rfl (s_v (pc := 7) rw_173_7 (dp0 hd (by decide)) (ls0 := [.ref 77, .int n]) rfl (Nat.le_of_ble_eq_true rfl) (Nat.le_of_ble_eq_true rfl) rfl (to_rc rfl rfl rfl (g_o hG113 rfl)) rfl ?_))
  have c_115 : M112.2.1 77 1 = (M.2.1 77 1) := (W_n W111 (by decide) rfl)
  have t_116 : (M112.2.1 77 1).toInt = (M.2.1 77 1).toInt := congrArg Int32.toInt c_115
  have c_117 : M112.2.1 77 7 = (M.2.1 77 7) := (W_n W111 (by decide) rfl)
  have t_118 : (M112.2.1 77 7).toInt = (M.2.1 77 7).toInt := congrArg Int32.toInt c_117
  have c_119 : M112.2.1 77 6 = (M.2.1 77 6) := (W_n W111 (by decide) rfl)
  have t_120 : (M112.2.1 77 6).toInt = (M.2.1 77 6).toInt := congrArg Int32.toInt c_119
  have j_121 := (TR_f (fun a i z => W_n W111 (tg_88 a i z) rfl) q3)
  have j_122 := (W9_f (fun a i z => W_n W111 (tg_89 a i z) rfl) q4)
  refine E_163 hX (dp1 hd (by decide)) hG113 (by omega) (by omega) j_121 j_122 (n := n) (fun r123 M132 hG125 F124 p_126 p_127 p_128 p_129 p_130 p_131 => ?_)
  have F133 := FR.c F114 F124 tg_83
  have b_134 := g_b hG125 (a := 77) (i := 7) (lo := 0) (hi := 500) rfl rfl
  have b_135 := g_b hG125 (a := 77) (i := 6) (lo := 0) (hi := 500) rfl rfl
  have b_136 := g_b hG125 (a := 77) (i := 1) (lo := 0) (hi := 500) rfl rfl
  rcases (show r123.toInt = 0 ∨ r123.toInt = 1 by omega) with h137 | h137
  · skip
    clear p_131
    refine b_ine_f (pc := 10) rw_173_10 (A := r123.toInt) rfl (by omega) (to_c (pc := 13) rw_173_13 (x := (-2 : Int32)) rfl rfl (to_r0 (pc := 15) rw_173_15 ?_))
    have k_138 : (-2 : Int32).toInt = -2 := rfl
    have c_139 : M132.2.1 77 28 = (M.2.1 77 28) := (F_n F124 (show ¬ (77 = 77 ∧ (28 = 1 ∨ 4 ≤ 28 ∧ 28 ≤ 10)) by decide) (W_n W111 (by decide) rfl))
    have b_140 := g_b hG (a := 77) (i := 28) (lo := 0) (hi := 30) rfl rfl
    have t_141 : (M132.2.1 77 28).toInt = (M.2.1 77 28).toInt := congrArg Int32.toInt c_139
    have c_142 : M132.2.1 77 29 = (M.2.1 77 29) := (F_n F124 (show ¬ (77 = 77 ∧ (29 = 1 ∨ 4 ≤ 29 ∧ 29 ≤ 10)) by decide) (W_n W111 (by decide) rfl))
    have b_143 := g_b hG (a := 77) (i := 29) (lo := 0) (hi := 150) rfl rfl
    have t_144 : (M132.2.1 77 29).toInt = (M.2.1 77 29).toInt := congrArg Int32.toInt c_142
    have c_145 : M132.2.1 77 41 = (M.2.1 77 41) := (F_n F124 (show ¬ (77 = 77 ∧ (41 = 1 ∨ 4 ≤ 41 ∧ 41 ≤ 10)) by decide) (W_n W111 (by decide) rfl))
    have t_146 : (M132.2.1 77 41).toInt = (M.2.1 77 41).toInt := congrArg Int32.toInt c_145
    have c_147 : M132.2.1 77 58 = (M.2.1 77 58) := (F_n F124 (show ¬ (77 = 77 ∧ (58 = 1 ∨ 4 ≤ 58 ∧ 58 ≤ 10)) by decide) (W_n W111 (by decide) rfl))
    have b_148 := g_b hG (a := 77) (i := 58) (lo := 0) (hi := 40) rfl rfl
    have t_149 : (M132.2.1 77 58).toInt = (M.2.1 77 58).toInt := congrArg Int32.toInt c_147
    have c_150 : M132.2.1 77 57 = (M.2.1 77 57) := (F_n F124 (show ¬ (77 = 77 ∧ (57 = 1 ∨ 4 ≤ 57 ∧ 57 ≤ 10)) by decide) (W_n W111 (by decide) rfl))
    have b_151 := g_b hG (a := 77) (i := 57) (lo := 0) (hi := 1) rfl rfl
    have t_152 : (M132.2.1 77 57).toInt = (M.2.1 77 57).toInt := congrArg Int32.toInt c_150
    exact h (-2 : Int32) M132 hG125 F133 (by omega) (fun z => by exfalso; omega) (by omega) (by omega) (by omega) (fun _ => (fun s9 h9 => PLk2_f (fun a i z => (F_n F124 (show ¬ (a = 77 ∧ (i = 1 ∨ 4 ≤ i ∧ i ≤ 10)) by omega) (W_n W111 (by /-r77,2-/ omega) rfl))) (fun i hi9 => (F_nl F124 (show ¬ (87 = 77 ∧ (i = 1 ∨ 4 ≤ i ∧ i ≤ 10)) by omega) (W_j W111 rfl))) h9)) (fun z => by exfalso; omega) (by omega) (by omega)
  · skip
    have p_153 := p_131 (by omega)
    clear p_131
    have b_154 := g_b hG125 (a := 77) (i := 10) (lo := 0) (hi := 500) rfl rfl
    have z_155 := p_153.2
    refine b_ine_t (pc := 10) rw_173_10 (A := r123.toInt) rfl (by omega) (to_an (pc := 16) rw_173_16 rfl (s_v (pc := 17) rw_173_17 (dp0 hd (by decide)) (ls0 := [.ref 77]) rfl (Nat.le_of_ble_eq_true rfl) (Nat.le_of_ble_eq_true rfl) rfl (to_rc rfl rfl rfl (g_o hG125 rfl)) rfl (E_164 hX (dp1 hd (by decide)) hG125  (fun M159 hG157 F156 p_158 => ?_))))
    have F160 := FR.c F133 F156 tg_84
    refine to_c (pc := 20) rw_173_20 (x := (0 : Int32)) rfl rfl (to_isn (pc := 21) rw_173_21 (ls2 := [.ref 77, .int n, .int (0 : Int32)]) rfl rfl ?_)
    have k_161 : (0 : Int32).toInt = 0 := rfl
    have j_162 := (RS_f (tg_71 F156) p_153.1)
    have j_163 := (TR_f (tg_72 F156) (TR_f (tg_73 F124) j_121))
    have j_164 := (W9_f (tg_74 F156) (W9_f (tg_75 F124) j_122))
    have c_165 : M159.2.1 77 28 = (M.2.1 77 28) := (F_n F156 (show ¬ (77 = 77 ∧ (14 ≤ 28 ∧ 28 ≤ 16 ∨ 28 = 25)) by decide) (F_n F124 (show ¬ (77 = 77 ∧ (28 = 1 ∨ 4 ≤ 28 ∧ 28 ≤ 10)) by decide) (W_n W111 (by decide) rfl)))
    have b_166 := g_b hG (a := 77) (i := 28) (lo := 0) (hi := 30) rfl rfl
    have t_167 : (M159.2.1 77 28).toInt = (M.2.1 77 28).toInt := congrArg Int32.toInt c_165
    have c_168 : M159.2.1 77 29 = (M.2.1 77 29) := (F_n F156 (show ¬ (77 = 77 ∧ (14 ≤ 29 ∧ 29 ≤ 16 ∨ 29 = 25)) by decide) (F_n F124 (show ¬ (77 = 77 ∧ (29 = 1 ∨ 4 ≤ 29 ∧ 29 ≤ 10)) by decide) (W_n W111 (by decide) rfl)))
    have b_169 := g_b hG (a := 77) (i := 29) (lo := 0) (hi := 150) rfl rfl
    have t_170 : (M159.2.1 77 29).toInt = (M.2.1 77 29).toInt := congrArg Int32.toInt c_168
    have c_171 : M159.2.1 77 41 = (M.2.1 77 41) := (F_n F156 (show ¬ (77 = 77 ∧ (14 ≤ 41 ∧ 41 ≤ 16 ∨ 41 = 25)) by decide) (F_n F124 (show ¬ (77 = 77 ∧ (41 = 1 ∨ 4 ≤ 41 ∧ 41 ≤ 10)) by decide) (W_n W111 (by decide) rfl)))
    have t_172 : (M159.2.1 77 41).toInt = (M.2.1 77 41).toInt := congrArg Int32.toInt c_171
    have c_173 : M159.2.1 77 10 = (M132.2.1 77 10) := (F_n F156 (show ¬ (77 = 77 ∧ (14 ≤ 10 ∧ 10 ≤ 16 ∨ 10 = 25)) by decide) rfl)
    have t_174 : (M159.2.1 77 10).toInt = (M132.2.1 77 10).toInt := congrArg Int32.toInt c_173
    have c_175 : M159.2.1 77 58 = (M.2.1 77 58) := (F_n F156 (show ¬ (77 = 77 ∧ (14 ≤ 58 ∧ 58 ≤ 16 ∨ 58 = 25)) by decide) (F_n F124 (show ¬ (77 = 77 ∧ (58 = 1 ∨ 4 ≤ 58 ∧ 58 ≤ 10)) by decide) (W_n W111 (by decide) rfl)))
    have b_176 := g_b hG (a := 77) (i := 58) (lo := 0) (hi := 40) rfl rfl
    have t_177 : (M159.2.1 77 58).toInt = (M.2.1 77 58).toInt := congrArg Int32.toInt c_175
    have c_178 : M159.2.1 77 57 = (M.2.1 77 57) := (F_n F156 (show ¬ (77 = 77 ∧ (14 ≤ 57 ∧ 57 ≤ 16 ∨ 57 = 25)) by decide) (F_n F124 (show ¬ (77 = 77 ∧ (57 = 1 ∨ 4 ≤ 57 ∧ 57 ≤ 10)) by decide) (W_n W111 (by decide) rfl)))
    have b_179 := g_b hG (a := 77) (i := 57) (lo := 0) (hi := 1) rfl rfl
    have t_180 : (M159.2.1 77 57).toInt = (M.2.1 77 57).toInt := congrArg Int32.toInt c_178
    exact (U_173_0 (n := n) (t := t) (nn := nn) hX hd q1 q2 q3 q4 h ((22 - (0 : Int32).toInt).toNat + 1)) M159 (.int n) (0 : Int32) hG157 F160 (by omega) (by omega) (by omega) (by omega) (by omega) (by omega) (by omega) j_162 j_163 j_164 (by omega) (by omega) (by omega) (fun s9 h9 => PLk2_f (fun a i z => (F_n F156 (show ¬ (a = 77 ∧ (14 ≤ i ∧ i ≤ 16 ∨ i = 25)) by omega) (F_n F124 (show ¬ (a = 77 ∧ (i = 1 ∨ 4 ≤ i ∧ i ≤ 10)) by omega) (W_n W111 (by /-r77,2-/ omega) rfl)))) (fun i hi9 => (F_nl F156 (show ¬ (87 = 77 ∧ (14 ≤ i ∧ i ≤ 16 ∨ i = 25)) by omega) (F_nl F124 (show ¬ (87 = 77 ∧ (i = 1 ∨ 4 ≤ i ∧ i ≤ 10)) by omega) (W_j W111 rfl)))) h9) (IVr_0 ⟨p_158, CWr_0⟩ (by omega) (by omega)) (by omega) (by omega) (by omega)
