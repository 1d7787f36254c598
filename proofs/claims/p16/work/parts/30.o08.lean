theorem tg_158 {M M1 : mm_M} (F : FR (fun a i : Nat => a = 1 ∨ 3 ≤ a ∧ a ≤ 5) M M1) : ∀ a i : Nat, PI_r a → M1.2.1 a i = M.2.1 a i := fun a i z => F_n F (show ¬ (a = 1 ∨ 3 ≤ a ∧ a ≤ 5) by omega) rfl
theorem tg_159 {M M1 : mm_M} (F : FR (fun a i : Nat => 17 ≤ a ∧ a ≤ 27) M M1) : ∀ a i : Nat, PI_r a → M1.2.1 a i = M.2.1 a i := fun a i z => F_n F (show ¬ (17 ≤ a ∧ a ≤ 27) by omega) rfl
theorem tg_160 {M M1 : mm_M} (F : FR (fun a i : Nat => 17 ≤ a ∧ a ≤ 27) M M1) : ∀ a i : Nat, (7 ≤ a ∧ a ≤ 9) → M1.2.1 a i = M.2.1 a i := fun a i z => F_n F (show ¬ (17 ≤ a ∧ a ≤ 27) by omega) rfl
theorem tg_161 {M M1 : mm_M} (F : FR (fun a i : Nat => a = 1 ∧ 5 ≤ i ∨ 3 ≤ a ∧ a ≤ 5 ∨ 49 ≤ a ∧ a ≤ 66) M M1) : ∀ a i : Nat, (7 ≤ a ∧ a ≤ 9) → M1.2.1 a i = M.2.1 a i := fun a i z => F_n F (show ¬ (a = 1 ∧ 5 ≤ i ∨ 3 ≤ a ∧ a ≤ 5 ∨ 49 ≤ a ∧ a ≤ 66) by omega) rfl
theorem tg_162 {M M1 : mm_M} (F : FR (fun a i : Nat => a = 1 ∨ 3 ≤ a ∧ a ≤ 5) M M1) : ∀ a i : Nat, (7 ≤ a ∧ a ≤ 9) → M1.2.1 a i = M.2.1 a i := fun a i z => F_n F (show ¬ (a = 1 ∨ 3 ≤ a ∧ a ≤ 5) by omega) rfl
theorem tg_163 {M M1 : mm_M} (F : FR (fun a i : Nat => 17 ≤ a ∧ a ≤ 27) M M1) : ∀ a i : Nat, (a = 68 ∨ a = 69 ∨ a = 73 ∨ a = 74) → M1.2.1 a i = M.2.1 a i := fun a i z => F_n F (show ¬ (17 ≤ a ∧ a ≤ 27) by omega) rfl
theorem tg_164 {M M1 : mm_M} (F : FR (fun a i : Nat => a = 1 ∧ 5 ≤ i ∨ 3 ≤ a ∧ a ≤ 5 ∨ 49 ≤ a ∧ a ≤ 66) M M1) : ∀ a i : Nat, (a = 68 ∨ a = 69 ∨ a = 73 ∨ a = 74) → M1.2.1 a i = M.2.1 a i := fun a i z => F_n F (show ¬ (a = 1 ∧ 5 ≤ i ∨ 3 ≤ a ∧ a ≤ 5 ∨ 49 ≤ a ∧ a ≤ 66) by omega) rfl
theorem tg_165 {M M1 : mm_M} (F : FR (fun a i : Nat => a = 1 ∨ 3 ≤ a ∧ a ≤ 5) M M1) : ∀ a i : Nat, (a = 68 ∨ a = 69 ∨ a = 73 ∨ a = 74) → M1.2.1 a i = M.2.1 a i := fun a i z => F_n F (show ¬ (a = 1 ∨ 3 ≤ a ∧ a ≤ 5) by omega) rfl
theorem tg_166 {M M1 : mm_M} (F : FR (fun a i : Nat => 18 ≤ a ∧ a ≤ 35) M M1) : ∀ a i : Nat, PI_r a → M1.2.1 a i = M.2.1 a i := fun a i z => F_n F (show ¬ (18 ≤ a ∧ a ≤ 35) by omega) rfl
theorem tg_167 {M M1 : mm_M} (F : FR (fun a i : Nat => 18 ≤ a ∧ a ≤ 27) M M1) : ∀ a i : Nat, PI_r a → M1.2.1 a i = M.2.1 a i := fun a i z => F_n F (show ¬ (18 ≤ a ∧ a ≤ 27) by omega) rfl
theorem tg_168 {M M1 : mm_M} (F : FR (fun a i : Nat => a = 1 ∧ 5 ≤ i ∨ 3 ≤ a ∧ a ≤ 5 ∨ 28 ≤ a ∧ a ≤ 35) M M1) : ∀ a i : Nat, PI_r a → M1.2.1 a i = M.2.1 a i := fun a i z => F_n F (show ¬ (a = 1 ∧ 5 ≤ i ∨ 3 ≤ a ∧ a ≤ 5 ∨ 28 ≤ a ∧ a ≤ 35) by omega) rfl
theorem tg_169 {M M1 : mm_M} (F : FR (fun a i : Nat => 11 ≤ a ∧ a ≤ 16) M M1) : ∀ a i : Nat, PI_r a → M1.2.1 a i = M.2.1 a i := fun a i z => F_n F (show ¬ (11 ≤ a ∧ a ≤ 16) by omega) rfl
theorem tg_170 {M M1 : mm_M} (F : FR (fun a i : Nat => 18 ≤ a ∧ a ≤ 35) M M1) : ∀ a i : Nat, (7 ≤ a ∧ a ≤ 9) → M1.2.1 a i = M.2.1 a i := fun a i z => F_n F (show ¬ (18 ≤ a ∧ a ≤ 35) by omega) rfl
theorem tg_171 {M M1 : mm_M} (F : FR (fun a i : Nat => 18 ≤ a ∧ a ≤ 27) M M1) : ∀ a i : Nat, (7 ≤ a ∧ a ≤ 9) → M1.2.1 a i = M.2.1 a i := fun a i z => F_n F (show ¬ (18 ≤ a ∧ a ≤ 27) by omega) rfl
theorem tg_172 {M M1 : mm_M} (F : FR (fun a i : Nat => a = 1 ∧ 5 ≤ i ∨ 3 ≤ a ∧ a ≤ 5 ∨ 28 ≤ a ∧ a ≤ 35) M M1) : ∀ a i : Nat, (7 ≤ a ∧ a ≤ 9) → M1.2.1 a i = M.2.1 a i := fun a i z => F_n F (show ¬ (a = 1 ∧ 5 ≤ i ∨ 3 ≤ a ∧ a ≤ 5 ∨ 28 ≤ a ∧ a ≤ 35) by omega) rfl
theorem tg_173 {M M1 : mm_M} (F : FR (fun a i : Nat => 18 ≤ a ∧ a ≤ 35) M M1) : ∀ a i : Nat, (a = 68 ∨ a = 69 ∨ a = 73 ∨ a = 74) → M1.2.1 a i = M.2.1 a i := fun a i z => F_n F (show ¬ (18 ≤ a ∧ a ≤ 35) by omega) rfl
theorem tg_174 {M M1 : mm_M} (F : FR (fun a i : Nat => 18 ≤ a ∧ a ≤ 27) M M1) : ∀ a i : Nat, (a = 68 ∨ a = 69 ∨ a = 73 ∨ a = 74) → M1.2.1 a i = M.2.1 a i := fun a i z => F_n F (show ¬ (18 ≤ a ∧ a ≤ 27) by omega) rfl
theorem tg_175 {M M1 : mm_M} (F : FR (fun a i : Nat => a = 1 ∧ 5 ≤ i ∨ 3 ≤ a ∧ a ≤ 5 ∨ 28 ≤ a ∧ a ≤ 35) M M1) : ∀ a i : Nat, (a = 68 ∨ a = 69 ∨ a = 73 ∨ a = 74) → M1.2.1 a i = M.2.1 a i := fun a i z => F_n F (show ¬ (a = 1 ∧ 5 ≤ i ∨ 3 ≤ a ∧ a ≤ 5 ∨ 28 ≤ a ∧ a ≤ 35) by omega) rfl
theorem tg_176 {M M1 : mm_M} (F : FR (fun a i : Nat => 11 ≤ a ∧ a ≤ 16) M M1) : ∀ a i : Nat, (a = 68 ∨ a = 69 ∨ a = 73 ∨ a = 74) → M1.2.1 a i = M.2.1 a i := fun a i z => F_n F (show ¬ (11 ≤ a ∧ a ≤ 16) by omega) rfl
theorem tg_177 {M M1 : mm_M} (F : FR (fun a i : Nat => a = 1 ∧ 5 ≤ i ∨ 3 ≤ a ∧ a ≤ 5 ∨ 67 ≤ a ∧ a ≤ 76) M M1) : ∀ a i : Nat, PI_r a → M1.2.1 a i = M.2.1 a i := fun a i z => F_n F (show ¬ (a = 1 ∧ 5 ≤ i ∨ 3 ≤ a ∧ a ≤ 5 ∨ 67 ≤ a ∧ a ≤ 76) by omega) rfl
theorem tg_178 {M M1 : mm_M} (F : FR (fun a i : Nat => a = 1 ∧ 5 ≤ i ∨ 3 ≤ a ∧ a ≤ 5 ∨ 67 ≤ a ∧ a ≤ 76) M M1) : ∀ a i : Nat, (7 ≤ a ∧ a ≤ 9) → M1.2.1 a i = M.2.1 a i := fun a i z => F_n F (show ¬ (a = 1 ∧ 5 ≤ i ∨ 3 ≤ a ∧ a ≤ 5 ∨ 67 ≤ a ∧ a ≤ 76) by omega) rfl
theorem tg_179 : ∀ a i : Nat, (a = 1 ∧ i = 1 ∨ a = 2) → (a = 1 ∧ i = 1 ∨ a = 2) := fun a i z => by omega
theorem tg_180 : ∀ a i : Nat, (a = 1 ∨ 3 ≤ a ∧ a ≤ 5) → (a ≤ 76 ∧ ¬ a = 2) := fun a i z => by omega
theorem tg_181 : ∀ a i : Nat, (a = 1 ∧ 5 ≤ i ∨ 3 ≤ a ∧ a ≤ 5 ∨ 49 ≤ a ∧ a ≤ 66) → (a ≤ 76 ∧ ¬ a = 2) := fun a i z => by omega
theorem tg_182 : ∀ a i : Nat, (17 ≤ a ∧ a ≤ 27) → (a ≤ 76 ∧ ¬ a = 2) := fun a i z => by omega
theorem tg_183 : ∀ a i : Nat, (a = 1 ∨ 3 ≤ a ∧ a ≤ 5) → (a = 1 ∨ 3 ≤ a ∧ a ≤ 5 ∨ 11 ≤ a ∧ a ≤ 16 ∨ 18 ≤ a ∧ a ≤ 48) := fun a i z => by omega
theorem tg_184 : ∀ a i : Nat, (11 ≤ a ∧ a ≤ 16) → (a = 1 ∨ 3 ≤ a ∧ a ≤ 5 ∨ 11 ≤ a ∧ a ≤ 16 ∨ 18 ≤ a ∧ a ≤ 48) := fun a i z => by omega
theorem tg_185 : ∀ a i : Nat, (a = 1 ∧ 5 ≤ i ∨ 3 ≤ a ∧ a ≤ 5 ∨ 28 ≤ a ∧ a ≤ 35) → (a = 1 ∨ 3 ≤ a ∧ a ≤ 5 ∨ 11 ≤ a ∧ a ≤ 16 ∨ 18 ≤ a ∧ a ≤ 48) := fun a i z => by omega
theorem tg_186 : ∀ a i : Nat, (18 ≤ a ∧ a ≤ 27) → (a = 1 ∨ 3 ≤ a ∧ a ≤ 5 ∨ 11 ≤ a ∧ a ≤ 16 ∨ 18 ≤ a ∧ a ≤ 48) := fun a i z => by omega
theorem tg_187 : ∀ a i : Nat, (18 ≤ a ∧ a ≤ 35) → (a = 1 ∨ 3 ≤ a ∧ a ≤ 5 ∨ 11 ≤ a ∧ a ≤ 16 ∨ 18 ≤ a ∧ a ≤ 48) := fun a i z => by omega
theorem tg_188 : ∀ a i : Nat, (a = 1 ∨ 3 ≤ a ∧ a ≤ 5) → (a = 1 ∨ 3 ≤ a ∧ a ≤ 5 ∨ 67 ≤ a ∧ a ≤ 76) := fun a i z => by omega
theorem tg_189 : ∀ a i : Nat, (a = 1 ∧ 5 ≤ i ∨ 3 ≤ a ∧ a ≤ 5 ∨ 67 ≤ a ∧ a ≤ 76) → (a = 1 ∨ 3 ≤ a ∧ a ≤ 5 ∨ 67 ≤ a ∧ a ≤ 76) := fun a i z => by omega
theorem tg_190 : ∀ a i : Nat, (11 ≤ a ∧ a ≤ 16) → (11 ≤ a ∧ a ≤ 16 ∨ 18 ≤ a ∧ a ≤ 48 ∨ 67 ≤ a ∧ a ≤ 76) := fun a i z => by omega
theorem tg_191 : ∀ a i : Nat, (18 ≤ a ∧ a ≤ 27) → (a = 0 ∧ i = 12 ∨ 18 ≤ a ∧ a ≤ 27) := fun a i z => by omega
theorem tg_192 : ∀ a i : Nat, (a < 0) → (11 ≤ a ∧ a ≤ 16 ∨ 18 ≤ a ∧ a ≤ 48 ∨ 67 ≤ a ∧ a ≤ 76) := fun a i z => by omega
theorem tg_193 : ∀ a i : Nat, (7 ≤ a ∧ a ≤ 9) → ¬ (a = 0 ∧ i = 12) := fun a i z => by omega
theorem tg_194 : ∀ a i : Nat, (a = 68 ∨ a = 69 ∨ a = 73 ∨ a = 74) → ¬ (a = 6 ∧ i = 0) := fun a i z => by omega
theorem tg_195 : ∀ a i : Nat, (a = 68 ∨ a = 69 ∨ a = 73 ∨ a = 74) → ¬ (a = 0 ∧ i = 12) := fun a i z => by omega
set_option maxRecDepth 4000 in
set_option maxHeartbeats 0 in
theorem T_145_0 {X : mm_X} {d : Nat} {M : mm_M} {Q : Option Value → mm_M → Prop} {a : Int32} {c : Int32} (hX : g_X X) (hd : 0 ≤ d) (q1 : c.toInt ≤ 24) (h : ∀ (r : Int64) (M1 : mm_M), g_G M1 → FR md_0 M M1 → Q (some (.long r)) M1) : ∀ nn9 : Nat, (∀ (N : mm_M) (y2 : Int64) (x4 : Int32), g_G N → FR md_0 M N → (1 ≤ x4.toInt) → (x4.toInt ≤ 25) → 25 - x4.toInt < (nn9 : Int) → mm_T X d 145 5 [.int a, .int c, .long y2, .null, .int x4] [] N Q) := by
  intro nn9
  induction nn9 with
  | zero =>
    intro N y2 x4 hG F0 g1 g2 hm
    exfalso; omega
  | succ nn9 ih =>
    intro N y2 x4 hG F0 g1 g2 hm
    refine to_i (pc := 5) rw_145_5 rfl (to_in (pc := 7) rw_145_7 rfl (b_cgt (pc := 8) rw_145_8 (A := x4.toInt) (B := c.toInt) rfl rfl (fun h1 => ?_) (fun h1 => ?_)))
    · refine to_in (pc := 31) rw_145_31 rfl (to_in (pc := 32) rw_145_32 rfl (b_cge (pc := 33) rw_145_33 (A := a.toInt) (B := c.toInt) rfl rfl (fun h2 => ?_) (fun h2 => ?_)))
      · refine to_ln (pc := 40) rw_145_40 rfl rfl rfl (to_rl (pc := 41) rw_145_41 ?_)
        exact h y2 N hG F0 
      · refine s_cl (pc := 36) rw_145_36 rfl (fun l3 => to_go (pc := 37) rw_145_37 (to_rl (pc := 41) rw_145_41 ?_))
        exact h l3 N hG F0 
    · refine to_ln (pc := 11) rw_145_11 rfl rfl rfl (to_in (pc := 12) rw_145_12 rfl (to_in (pc := 13) rw_145_13 rfl (s_any (pc := 14) rw_145_14 (fun _ _ => rfl) (fun v4 => to_i (pc := 15) rw_145_15 rfl (s_any (pc := 17) rw_145_17 (fun _ _ => rfl) (fun v5 => s_i2l (pc := 18) rw_145_18 (fun l6 e7 => s_anyL (pc := 19) rw_145_19 (fun _ _ => rfl) (fun l8 => to_i (pc := 20) rw_145_20 rfl (s_i2l (pc := 22) rw_145_22 (fun l9 e10 => s_ldiv (pc := 23) rw_145_23 e10 (A := x4.toInt) rfl (by omega) (fun l11 => to_lsn (pc := 24) rw_145_24 (ls2 := [.int a, .int c, .long l11, .null, .int x4]) rfl rfl ?_)))))))))))
      refine s_inc (pc := 25) rw_145_25 (ls2 := fun v => [.int a, .int c, .long l11, .null, .int v]) rfl rfl (fun _ => rfl) (A := x4.toInt) (B := 1) rfl rfl (by omega) (fun v12 e13 => to_go (pc := 28) rw_145_28 ?_)
      exact ih N l11 v12 hG F0 (by omega) (by omega) (by omega)
set_option maxRecDepth 4000 in
set_option maxHeartbeats 0 in
theorem C_145 {X : mm_X} {d : Nat} {M : mm_M} {Q : Option Value → mm_M → Prop} {a : Int32} {c : Int32} (hX : g_X X) (hd : 0 ≤ d) (hG : g_G M) (q1 : c.toInt ≤ 24) (h : ∀ (r : Int64) (M1 : mm_M), g_G M1 → FR md_0 M M1 → Q (some (.long r)) M1) : mm_T X d 145 0 [.int a, .int c, .null, .null, .null] [] M Q := by
  have F0 : FR md_0 M M := FR.rf
  refine s_cl (pc := 0) rw_145_0 rfl (fun l14 => to_lsn (pc := 1) rw_145_1 (ls2 := [.int a, .int c, .long l14, .null, .null]) rfl rfl (to_c (pc := 2) rw_145_2 (x := (1 : Int32)) rfl rfl (to_is (pc := 3) rw_145_3 (ls2 := [.int a, .int c, .long l14, .null, .int (1 : Int32)]) rfl rfl ?_)))
  have k_15 : (1 : Int32).toInt = 1 := rfl
  exact (T_145_0 (a := a) (c := c) hX hd q1 h ((25 - (1 : Int32).toInt).toNat + 1)) M l14 (1 : Int32) hG F0 (by omega) (by omega) (by omega)
set_option maxRecDepth 4000 in
set_option maxHeartbeats 0 in
theorem C_110 {X : mm_X} {d : Nat} {M : mm_M} {Q : Option Value → mm_M → Prop} {a : Int32} {b : Int32} {c : Int32} {x : Int32} {e : Int32} (hX : g_X X) (hd : 1 ≤ d) (hG : g_G M) (h : ∀ (r : Int32) (M1 : mm_M), g_G M1 → FR md_a M M1 → (480 < (M.2.1 1 1).toInt → r.toInt = -1 ∧ (M1.2.1 1 1).toInt = (M.2.1 1 1).toInt) → ((M.2.1 1 1).toInt ≤ 480 → r.toInt = (M.2.1 1 1).toInt + 20 ∧ (M1.2.1 1 1).toInt = (M.2.1 1 1).toInt + 20) → Q (some (.int r)) M1) : mm_T X d 110 0 [.ref 0, .int a, .int b, .int c, .int x, .int e] [] M Q := by
  have F0 : FR md_a M M := FR.rf
  refine to_an (pc := 0) rw_110_0 rfl (s_gR (pc := 1) rw_110_1 hG rfl (v := 1) rfl ?_)
  have b_1 := g_b hG (a := 1) (i := 1) (lo := 0) (hi := 500) rfl rfl
  refine tt_gI (pc := 4) rw_110_4 (g_o hG rfl) (v := (M.2.1 1 1)) rfl (to_c (pc := 7) rw_110_7 (x := (480 : Int32)) rfl rfl (b_cle (pc := 10) rw_110_10 (A := (M.2.1 1 1).toInt) (B := 480) rfl rfl (fun h2 => ?_) (fun h2 => ?_)))
  · refine to_an (pc := 15) rw_110_15 rfl (s_gR (pc := 16) rw_110_16 hG rfl (v := 1) rfl (to_in (pc := 19) rw_110_19 rfl (s_v (pc := 20) rw_110_20 (dp0 hd (by decide)) (ls0 := [.ref 1, .int a, .null]) rfl (Nat.le_of_ble_eq_true rfl) (Nat.le_of_ble_eq_true rfl) rfl (to_rc rfl rfl rfl (g_o hG rfl)) rfl (C_77 hX (dp1 hd (by decide)) hG (by omega) (x := a) (fun M6 hG4 F3 p_5 => ?_)))))
    have F7 := FR.c F0 F3 tg_179
    have b_8 := g_b hG4 (a := 1) (i := 1) (lo := 0) (hi := 500) rfl rfl
    refine to_an (pc := 23) rw_110_23 rfl (s_gR (pc := 24) rw_110_24 hG4 rfl (v := 1) rfl (to_in (pc := 27) rw_110_27 rfl (s_v (pc := 28) rw_110_28 (dp0 hd (by decide)) (ls0 := [.ref 1, .int b, .null]) rfl (Nat.le_of_ble_eq_true rfl) (Nat.le_of_ble_eq_true rfl) rfl (to_rc rfl rfl rfl (g_o hG4 rfl)) rfl (C_77 hX (dp1 hd (by decide)) hG4 (by omega) (x := b) (fun M12 hG10 F9 p_11 => ?_)))))
    have F13 := FR.c F7 F9 tg_179
    have b_14 := g_b hG10 (a := 1) (i := 1) (lo := 0) (hi := 500) rfl rfl
    refine to_an (pc := 31) rw_110_31 rfl (s_gR (pc := 32) rw_110_32 hG10 rfl (v := 1) rfl (to_in (pc := 35) rw_110_35 rfl (s_v (pc := 36) rw_110_36 (dp0 hd (by decide)) (ls0 := [.ref 1, .int c, .null]) rfl (Nat.le_of_ble_eq_true rfl) (Nat.le_of_ble_eq_true rfl) rfl (to_rc rfl rfl rfl (g_o hG10 rfl)) rfl (C_77 hX (dp1 hd (by decide)) hG10 (by omega) (x := c) (fun M18 hG16 F15 p_17 => ?_)))))
    have F19 := FR.c F13 F15 tg_179
    have b_20 := g_b hG16 (a := 1) (i := 1) (lo := 0) (hi := 500) rfl rfl
    refine to_an (pc := 39) rw_110_39 rfl (s_gR (pc := 40) rw_110_40 hG16 rfl (v := 1) rfl (to_i (pc := 43) rw_110_43 rfl (s_v (pc := 45) rw_110_45 (dp0 hd (by decide)) (ls0 := [.ref 1, .int x, .null]) rfl (Nat.le_of_ble_eq_true rfl) (Nat.le_of_ble_eq_true rfl) rfl (to_rc rfl rfl rfl (g_o hG16 rfl)) rfl (C_77 hX (dp1 hd (by decide)) hG16 (by omega) (x := x) (fun M24 hG22 F21 p_23 => ?_)))))
    have F25 := FR.c F19 F21 tg_179
    have b_26 := g_b hG22 (a := 1) (i := 1) (lo := 0) (hi := 500) rfl rfl
    refine to_an (pc := 48) rw_110_48 rfl (s_gR (pc := 49) rw_110_49 hG22 rfl (v := 1) rfl (to_i (pc := 52) rw_110_52 rfl (s_v (pc := 54) rw_110_54 (dp0 hd (by decide)) (ls0 := [.ref 1, .int e, .null]) rfl (Nat.le_of_ble_eq_true rfl) (Nat.le_of_ble_eq_true rfl) rfl (to_rc rfl rfl rfl (g_o hG22 rfl)) rfl (C_77 hX (dp1 hd (by decide)) hG22 (by omega) (x := e) (fun M30 hG28 F27 p_29 => ?_)))))
    have F31 := FR.c F25 F27 tg_179
    have b_32 := g_b hG28 (a := 1) (i := 1) (lo := 0) (hi := 500) rfl rfl
    refine to_an (pc := 57) rw_110_57 rfl (s_gR (pc := 58) rw_110_58 hG28 rfl (v := 1) rfl (tt_gI (pc := 61) rw_110_61 (g_o hG28 rfl) (v := (M30.2.1 1 1)) rfl (to_r0 (pc := 64) rw_110_64 ?_)))
    exact h (M30.2.1 1 1) M30 hG28 F31 (by omega) (by omega)
  · refine to_c (pc := 13) rw_110_13 (x := (-1 : Int32)) rfl rfl (to_r0 (pc := 14) rw_110_14 ?_)
    have k_33 : (-1 : Int32).toInt = -1 := rfl
    exact h (-1 : Int32) M hG F0 (by omega) (by omega)
set_option maxRecDepth 4000 in
set_option maxHeartbeats 0 in
theorem C_111 {X : mm_X} {d : Nat} {M : mm_M} {Q : Option Value → mm_M → Prop} {n : Int32} {p : Nat} {pz : Nat} {q : Nat} {qz : Nat} (hX : g_X X) (hd : 6 ≤ d) (hG : g_G M) (hp : p = 49 ∨ p = 58) (hpz : pz = 49 ∨ pz = 58) (hq : q = 67 ∨ q = 72) (hqz : qz = 67 ∨ qz = 72) (q1 : g_PQ M p pz q qz) (q2 : PI M) (q3 : NI M) (q4 : QI M) (h : ∀ (r : Int32) (M1 : mm_M), g_G M1 → FRX md_X M M1 → (n.toInt < 0 ∨ (M.2.1 1 1).toInt < n.toInt → (M1.2.1 1 1).toInt = (M.2.1 1 1).toInt) → (0 ≤ n.toInt ∧ n.toInt ≤ (M.2.1 1 1).toInt → (M1.2.1 1 1).toInt = 0) → PI M1 → g_PP M1 p pz q qz → NI M1 → QI M1 → Q (some (.int r)) M1) : mm_T X d 111 0 [.ref 0, .int n, .null] [] M Q := by
  have F0 : FRX md_X M M := FRX.rf
  refine to_an (pc := 0) rw_111_0 rfl (s_gR (pc := 1) rw_111_1 hG rfl (v := 1) rfl (to_in (pc := 4) rw_111_4 rfl (s_v (pc := 5) rw_111_5 (dp0 hd (by decide)) (ls0 := [.ref 1, .int n]) rfl (Nat.le_of_ble_eq_true rfl) (Nat.le_of_ble_eq_true rfl) rfl (to_rc rfl rfl rfl (g_o hG rfl)) rfl ?_)))
  have b_1 := g_b hG (a := 1) (i := 1) (lo := 0) (hi := 500) rfl rfl
  refine C_78 hX (dp1 hd (by decide)) hG (n := n) (fun r2 M9 hG4 F3 p_5 p_6 p_7 p_8 => ?_)
  have F10 := FRX.c F0 F3 tg_180
  have b_11 := g_b hG4 (a := 1) (i := 1) (lo := 0) (hi := 500) rfl rfl
  refine b_ine (pc := 8) rw_111_8 (A := r2.toInt) rfl (fun h12 => ?_) (fun h12 => ?_)
  · refine to_an (pc := 14) rw_111_14 rfl ?_
    have j_13 := (PQ_f F3 q1)
    refine tt_gR (pc := 15) rw_111_15 (g_o hG4 rfl) j_13.2.1 (to_an (pc := 18) rw_111_18 rfl (s_gR (pc := 19) rw_111_19 hG4 rfl (v := 1) rfl (s_v (pc := 22) rw_111_22 (dp0 hd (by decide)) (ls0 := [.ref pz, .ref 1, .null]) rfl (Nat.le_of_ble_eq_true rfl) (Nat.le_of_ble_eq_true rfl) rfl (to_rc rfl rfl rfl (g_o hG4 (by rcases hpz with rfl | rfl <;> rfl))) rfl ?_)))
    have j_14 := (PI_f (tg_158 F3) q2)
    refine C_30 hX (dp1 hd (by decide)) hG4 hpz j_14 (p := pz) (fun r15 M21 hG17 F16 p_18 p_19 p_20 => ?_)
    have F22 := FRX.c F10 F16 tg_181
    refine b_ine (pc := 25) rw_111_25 (A := r15.toInt) rfl (fun h23 => ?_) (fun h23 => ?_)
    · refine to_an (pc := 30) rw_111_30 rfl ?_
      have j_24 := (PQ_f F16 j_13)
      refine tt_gR (pc := 31) rw_111_31 (g_o hG17 rfl) j_24.1 (to_asn (pc := 34) rw_111_34 (ls2 := [.ref 0, .int n, .ref p]) rfl rfl (to_an (pc := 35) rw_111_35 rfl (to_an (pc := 36) rw_111_36 rfl (tt_gR (pc := 37) rw_111_37 (g_o hG17 rfl) j_24.2.1 (s_pR (pc := 40) rw_111_40 hG17 rfl (by rcases hpz with rfl | rfl <;> rfl) (fun M26 W25 => ?_))))))
      have hG27 := g_wr hG17 W25 rfl
      have F28 := FRX.wr F22 W25
      have j_29 := PQ_s8 W25 j_24
      refine to_an (pc := 43) rw_111_43 rfl (to_an (pc := 44) rw_111_44 rfl (s_pR (pc := 45) rw_111_45 hG27 rfl (by rcases hp with rfl | rfl <;> rfl) (fun M31 W30 => ?_)))
      have hG32 := g_wr hG27 W30 rfl
      have F33 := FRX.wr F28 W30
      have j_34 := PQ_s9 W30 j_29
      refine to_an (pc := 48) rw_111_48 rfl (to_c (pc := 49) rw_111_49 (x := (0 : Int32)) rfl rfl (s_pI (pc := 50) rw_111_50 hG32 rfl (fun M36 W35 => ?_)))
      have hG37 := g_w hG32 W35 (A := 0) rfl (lo := 0) (hi := 30) rfl rfl (by omega) (by decide)
      have F38 := FRX.w F33 W35 (show 0 ≤ 76 ∧ ¬ 0 = 2 by decide)
      refine to_an (pc := 53) rw_111_53 rfl (s_gR (pc := 54) rw_111_54 hG37 rfl (v := 6) rfl (to_c (pc := 57) rw_111_57 (x := (0 : Int32)) rfl rfl (s_pI (pc := 58) rw_111_58 hG37 rfl (fun M40 W39 => ?_))))
      have hG41 := g_w hG37 W39 (A := 0) rfl (lo := 0) (hi := 150) rfl rfl (by omega) (by decide)
      have F42 := FRX.w F38 W39 (show 6 ≤ 76 ∧ ¬ 6 = 2 by decide)
      refine to_an (pc := 61) rw_111_61 rfl ?_
      have j_43 := (PQ_w W39 (PQ_w W35 j_34))
      refine tt_gR (pc := 62) rw_111_62 (g_o hG41 rfl) j_43.2.2.1 (s_v (pc := 65) rw_111_65 (dp0 hd (by decide)) (ls0 := [.ref q]) rfl (Nat.le_of_ble_eq_true rfl) (Nat.le_of_ble_eq_true rfl) rfl (to_rc rfl rfl rfl (g_o hG41 (by rcases hq with rfl | rfl <;> rfl))) rfl (to_an (pc := 0) rw_56_0 rfl (to_c (pc := 1) rw_56_1 (x := (0 : Int32)) rfl rfl (s_pI (pc := 2) rw_56_2 hG41 (by rcases hq with rfl | rfl <;> rfl) (fun M45 W44 => ?_)))))
      have hG46 := g_w hG41 W44 (A := 0) rfl (lo := 0) (hi := 40) (by rcases hq with rfl | rfl <;> rfl) (by rcases hq with rfl | rfl <;> rfl) (by omega) (by omega)
      have F47 := FRX.w F42 W44 (show q ≤ 76 ∧ ¬ q = 2 by omega)
      refine to_an (pc := 5) rw_56_5 rfl (to_c (pc := 6) rw_56_6 (x := (0 : Int32)) rfl rfl (s_pI (pc := 7) rw_56_7 hG46 (by rcases hq with rfl | rfl <;> rfl) (fun M49 W48 => ?_)))
      have hG50 := g_w hG46 W48 (A := 0) rfl (lo := 0) (hi := 40) (by rcases hq with rfl | rfl <;> rfl) (by rcases hq with rfl | rfl <;> rfl) (by omega) (by omega)
      have F51 := FRX.w F47 W48 (show q ≤ 76 ∧ ¬ q = 2 by omega)
      refine to_rv (pc := 10) rw_56_10 (to_an (pc := 68) rw_111_68 rfl (s_gR (pc := 69) rw_111_69 hG50 rfl (v := 17) rfl (s_v (pc := 72) rw_111_72 (dp0 hd (by decide)) (ls0 := [.ref 17, .null]) rfl (Nat.le_of_ble_eq_true rfl) (Nat.le_of_ble_eq_true rfl) rfl (to_rc rfl rfl rfl (g_o hG50 rfl)) rfl (C_22 hX (dp1 hd (by decide)) hG50  (fun M55 hG53 F52 p_54 => ?_)))))
      have F56 := FRX.c F51 F52 tg_182
      refine to_an (pc := 75) rw_111_75 rfl ?_
      have j_57 := (PQ_f F52 (PQ_w W48 (PQ_w W44 j_43)))
      refine tt_gR (pc := 76) rw_111_76 (g_o hG53 rfl) j_57.1 ?_
      have c_58 : M55.2.1 pz 1 = (M21.2.1 pz 1) := (F_n F52 (show ¬ (17 ≤ pz ∧ pz ≤ 27) by omega) (W_n W48 (by omega) (W_n W44 (by omega) (W_n W39 (by omega) (W_n W35 (by omega) (W_rf W30 (W_rf W25 rfl)))))))
      refine tt_gI (pc := 79) rw_111_79 (g_o hG53 (by rcases hpz with rfl | rfl <;> rfl)) (v := (M21.2.1 pz 1)) c_58 (to_r0 (pc := 82) rw_111_82 ?_)
      have c_59 : M55.2.1 1 1 = (M9.2.1 1 1) := (F_n F52 (show ¬ (17 ≤ 1 ∧ 1 ≤ 27) by decide) (W_n W48 (by omega) (W_n W44 (by omega) (W_n W39 (by decide) (W_n W35 (by decide) (W_rf W30 (W_rf W25 (F_n F16 (show ¬ (1 = 1 ∧ 5 ≤ 1 ∨ 3 ≤ 1 ∧ 1 ≤ 5 ∨ 49 ≤ 1 ∧ 1 ≤ 66) by decide) rfl))))))))
      have t_60 : (M55.2.1 1 1).toInt = (M9.2.1 1 1).toInt := congrArg Int32.toInt c_59
      have j_61 := (PI_f (tg_159 F52) (PI_f (fun a i z => W_n W48 (by omega) rfl) (PI_f (fun a i z => W_n W44 (by omega) rfl) (PI_f (fun a i z => W_n W39 (by /-r6,0-/ omega) rfl) (PI_f (fun a i z => W_n W35 (by /-r0,12-/ omega) rfl) (PI_f (fun a i z => W_rf W30 rfl) (PI_f (fun a i z => W_rf W25 rfl) p_20)))))))
      have j_62 := (NI_f (tg_160 F52) (NI_f (fun a i z => W_n W48 (by omega) rfl) (NI_f (fun a i z => W_n W44 (by omega) rfl) (NI_f (fun a i z => W_n W39 (tg_107 a i z) rfl) (NI_f (fun a i z => W_n W35 (tg_193 a i z) rfl) (NI_f (fun a i z => W_rf W30 rfl) (NI_f (fun a i z => W_rf W25 rfl) (NI_f (tg_161 F16) (NI_f (tg_162 F3) q3)))))))))
      have j_63 := (QI_f (tg_163 F52) (QI_f (fun a i z => W_n W48 (by omega) rfl) (QI_f (fun a i z => W_n W44 (by omega) rfl) (QI_f (fun a i z => W_n W39 (tg_194 a i z) rfl) (QI_f (fun a i z => W_n W35 (tg_195 a i z) rfl) (QI_f (fun a i z => W_rf W30 rfl) (QI_f (fun a i z => W_rf W25 rfl) (QI_f (tg_164 F16) (QI_f (tg_165 F3) q4)))))))))
      exact h (M21.2.1 pz 1) M55 hG53 F56 (by omega) (by omega) j_61 (Or.inr j_57) j_62 j_63
    · refine to_c (pc := 28) rw_111_28 (x := (-1 : Int32)) rfl rfl (to_r0 (pc := 29) rw_111_29 ?_)
      have k_64 : (-1 : Int32).toInt = -1 := rfl
      have c_65 : M21.2.1 1 1 = (M9.2.1 1 1) := (F_n F16 (show ¬ (1 = 1 ∧ 5 ≤ 1 ∨ 3 ≤ 1 ∧ 1 ≤ 5 ∨ 49 ≤ 1 ∧ 1 ≤ 66) by decide) rfl)
      have t_66 : (M21.2.1 1 1).toInt = (M9.2.1 1 1).toInt := congrArg Int32.toInt c_65
      have j_67 := (PQ_f F16 j_13)
      have j_68 := (NI_f (tg_161 F16) (NI_f (tg_162 F3) q3))
      have j_69 := (QI_f (tg_164 F16) (QI_f (tg_165 F3) q4))
      exact h (-1 : Int32) M21 hG17 F22 (by omega) (by omega) p_20 (Or.inl j_67) j_68 j_69
  · refine to_c (pc := 11) rw_111_11 (x := (-2 : Int32)) rfl rfl (to_r0 (pc := 13) rw_111_13 ?_)
    have k_70 : (-2 : Int32).toInt = -2 := rfl
    have j_71 := (PI_f (tg_158 F3) q2)
    have j_72 := (PQ_f F3 q1)
    have j_73 := (NI_f (tg_162 F3) q3)
    have j_74 := (QI_f (tg_165 F3) q4)
    exact h (-2 : Int32) M9 hG4 F10 (by omega) (by omega) j_71 (Or.inl j_72) j_73 j_74
set_option maxRecDepth 4000 in
set_option maxHeartbeats 0 in
theorem C_112 {X : mm_X} {d : Nat} {M : mm_M} {Q : Option Value → mm_M → Prop} {n : Int32} {p : Nat} {pz : Nat} {q : Nat} {qz : Nat} (hX : g_X X) (hd : 22 ≤ d) (hG : g_G M) (hp : p = 49 ∨ p = 58) (hpz : pz = 49 ∨ pz = 58) (hq : q = 67 ∨ q = 72) (hqz : qz = 67 ∨ qz = 72) (q1 : g_PQ M p pz q qz) (q2 : NI M) (q3 : PI M) (q4 : QI M) (h : ∀ (r : Int32) (M1 : mm_M), g_G M1 → FR md_X2 M M1 → (n.toInt < 0 ∨ (M.2.1 1 1).toInt < n.toInt → (M1.2.1 1 1).toInt = (M.2.1 1 1).toInt) → (0 ≤ n.toInt ∧ n.toInt ≤ (M.2.1 1 1).toInt → (M1.2.1 1 1).toInt = 0) → PI M1 → NI M1 → QI M1 → Q (some (.int r)) M1) : mm_T X d 112 0 [.ref 0, .int n] [] M Q := by
  have F0 : FR md_X2 M M := FR.rf
  refine to_an (pc := 0) rw_112_0 rfl (s_gR (pc := 1) rw_112_1 hG rfl (v := 1) rfl (to_in (pc := 4) rw_112_4 rfl (s_v (pc := 5) rw_112_5 (dp0 hd (by decide)) (ls0 := [.ref 1, .int n]) rfl (Nat.le_of_ble_eq_true rfl) (Nat.le_of_ble_eq_true rfl) rfl (to_rc rfl rfl rfl (g_o hG rfl)) rfl ?_)))
  have b_1 := g_b hG (a := 1) (i := 1) (lo := 0) (hi := 500) rfl rfl
  refine C_78 hX (dp1 hd (by decide)) hG (n := n) (fun r2 M9 hG4 F3 p_5 p_6 p_7 p_8 => ?_)
  have F10 := FR.c F0 F3 tg_183
  have b_11 := g_b hG4 (a := 1) (i := 1) (lo := 0) (hi := 500) rfl rfl
  refine b_ine (pc := 8) rw_112_8 (A := r2.toInt) rfl (fun h12 => ?_) (fun h12 => ?_)
  · refine to_an (pc := 14) rw_112_14 rfl (s_v (pc := 15) rw_112_15 (dp0 hd (by decide)) (ls0 := [.ref 0]) rfl (Nat.le_of_ble_eq_true rfl) (Nat.le_of_ble_eq_true rfl) rfl (to_rc rfl rfl rfl (g_o hG4 rfl)) rfl (to_an (pc := 0) rw_142_0 rfl (s_gR (pc := 1) rw_142_1 hG4 rfl (v := 11) rfl (to_an (pc := 4) rw_142_4 rfl ?_))))
    have j_13 := (PQ_f F3 q1)
    refine tt_gR (pc := 5) rw_142_5 (g_o hG4 rfl) j_13.1 (to_an (pc := 8) rw_142_8 rfl (s_gR (pc := 9) rw_142_9 hG4 rfl (v := 6) rfl (to_an (pc := 12) rw_142_12 rfl (s_gR (pc := 13) rw_142_13 hG4 rfl (v := 6) rfl ?_))))
    have c_14 : M9.2.1 6 0 = (M.2.1 6 0) := (F_n F3 (show ¬ (6 = 1 ∨ 3 ≤ 6 ∧ 6 ≤ 5) by decide) rfl)
    have b_15 := g_b hG (a := 6) (i := 0) (lo := 0) (hi := 150) rfl rfl
    refine tt_gI (pc := 16) rw_142_16 (g_o hG4 rfl) (v := (M.2.1 6 0)) c_14 (s_v (pc := 19) rw_142_19 (dp1 hd (by decide)) (ls0 := [.ref 11, .ref p, .ref 6, .int (M.2.1 6 0), .null]) rfl (Nat.le_of_ble_eq_true rfl) (Nat.le_of_ble_eq_true rfl) rfl (to_rc rfl rfl rfl (g_o hG4 rfl)) rfl ?_)
    have j_16 := (NI_f (tg_162 F3) q2)
    refine C_8 hX (dp2 hd (by decide)) hG4 hp (by omega) (by omega) j_16 (p := p) (n := (M.2.1 6 0)) (fun M19 hG18 F17 => ?_)
    have F20 := FR.c F10 F17 tg_184
    refine to_rv (pc := 22) rw_142_22 (to_an (pc := 18) rw_112_18 rfl (s_gR (pc := 19) rw_112_19 hG18 rfl (v := 28) rfl (to_an (pc := 22) rw_112_22 rfl (s_gR (pc := 23) rw_112_23 hG18 rfl (v := 1) rfl (to_an (pc := 26) rw_112_26 rfl ?_)))))
    have j_21 := (PQ_f F17 j_13)
    refine tt_gR (pc := 27) rw_112_27 (g_o hG18 rfl) j_21.1 (to_an (pc := 30) rw_112_30 rfl (s_gR (pc := 31) rw_112_31 hG18 rfl (v := 11) rfl (s_v (pc := 34) rw_112_34 (dp0 hd (by decide)) (ls0 := [.ref 28, .ref 1, .ref p, .ref 11]) rfl (Nat.le_of_ble_eq_true rfl) (Nat.le_of_ble_eq_true rfl) rfl (to_rc rfl rfl rfl (g_o hG18 rfl)) rfl (C_98 hX (dp1 hd (by decide)) hG18 hp (p := p) (fun r22 M27 hG24 F23 p_25 p_26 => ?_)))))
    have F28 := FR.c F20 F23 tg_185
    refine b_ine (pc := 37) rw_112_37 (A := r22.toInt) rfl (fun h29 => ?_) (fun h29 => ?_)
    · refine to_an (pc := 42) rw_112_42 rfl (s_gR (pc := 43) rw_112_43 hG24 rfl (v := 17) rfl (to_an (pc := 46) rw_112_46 rfl (s_gR (pc := 47) rw_112_47 hG24 rfl (v := 11) rfl (to_an (pc := 50) rw_112_50 rfl ?_))))
      have j_30 := (PQ_f F23 j_21)
      refine tt_gR (pc := 51) rw_112_51 (g_o hG24 rfl) j_30.1 ?_
      have c_31 : M27.2.1 p 0 = (M.2.1 p 0) := (F_n F23 (show ¬ (p = 1 ∧ 5 ≤ 0 ∨ 3 ≤ p ∧ p ≤ 5 ∨ 28 ≤ p ∧ p ≤ 35) by omega) (F_n F17 (show ¬ (11 ≤ p ∧ p ≤ 16) by omega) (F_n F3 (show ¬ (p = 1 ∨ 3 ≤ p ∧ p ≤ 5) by omega) rfl)))
      have b_32 := g_b hG (a := p) (i := 0) (lo := 10) (hi := 60) (by rcases hp with rfl | rfl <;> rfl) (by rcases hp with rfl | rfl <;> rfl)
      refine tt_gI (pc := 54) rw_112_54 (g_o hG24 (by rcases hp with rfl | rfl <;> rfl)) (v := (M.2.1 p 0)) c_31 (s_v (pc := 57) rw_112_57 (dp0 hd (by decide)) (ls0 := [.ref 17, .ref 11, .int (M.2.1 p 0), .null, .null]) rfl (Nat.le_of_ble_eq_true rfl) (Nat.le_of_ble_eq_true rfl) rfl (to_rc rfl rfl rfl (g_o hG24 rfl)) rfl (C_24 hX (dp1 hd (by decide)) hG24 (by omega) (y := (M.2.1 p 0)) (fun M35 hG34 F33 => ?_)))
      have F36 := FR.c F28 F33 tg_186
      refine to_an (pc := 60) rw_112_60 rfl (s_gR (pc := 61) rw_112_61 hG34 rfl (v := 28) rfl (to_an (pc := 64) rw_112_64 rfl (s_gR (pc := 65) rw_112_65 hG34 rfl (v := 17) rfl (s_v (pc := 68) rw_112_68 (dp0 hd (by decide)) (ls0 := [.ref 28, .ref 17]) rfl (Nat.le_of_ble_eq_true rfl) (Nat.le_of_ble_eq_true rfl) rfl (to_rc rfl rfl rfl (g_o hG34 rfl)) rfl (C_106 hX (dp1 hd (by decide)) hG34  (fun r37 M42 hG39 F38 p_40 p_41 => ?_))))))
      have F43 := FR.c F36 F38 tg_187
      refine b_ieq (pc := 71) rw_112_71 (A := r37.toInt) rfl (fun h44 => ?_) (fun h44 => ?_)
      · refine to_c (pc := 78) rw_112_78 (x := (1 : Int32)) rfl rfl (to_r0 (pc := 79) rw_112_79 ?_)
        have k_45 : (1 : Int32).toInt = 1 := rfl
        have c_46 : M42.2.1 1 1 = (M9.2.1 1 1) := (F_n F38 (show ¬ (18 ≤ 1 ∧ 1 ≤ 35) by decide) (F_n F33 (show ¬ (18 ≤ 1 ∧ 1 ≤ 27) by decide) (F_n F23 (show ¬ (1 = 1 ∧ 5 ≤ 1 ∨ 3 ≤ 1 ∧ 1 ≤ 5 ∨ 28 ≤ 1 ∧ 1 ≤ 35) by decide) (F_n F17 (show ¬ (11 ≤ 1 ∧ 1 ≤ 16) by decide) rfl))))
        have t_47 : (M42.2.1 1 1).toInt = (M9.2.1 1 1).toInt := congrArg Int32.toInt c_46
        have j_48 := (PI_f (tg_166 F38) (PI_f (tg_167 F33) (PI_f (tg_168 F23) (PI_f (tg_169 F17) (PI_f (tg_158 F3) q3)))))
        have j_49 := (NI_f (tg_170 F38) (NI_f (tg_171 F33) (NI_f (tg_172 F23) (NI_f (tg_122 F17) j_16))))
        have j_50 := (QI_f (tg_173 F38) (QI_f (tg_174 F33) (QI_f (tg_175 F23) (QI_f (tg_176 F17) (QI_f (tg_165 F3) q4)))))
        exact h (1 : Int32) M42 hG39 F43 (by omega) (by omega) j_48 j_49 j_50
      · refine to_c (pc := 74) rw_112_74 (x := (0 : Int32)) rfl rfl (to_go (pc := 75) rw_112_75 (to_r0 (pc := 79) rw_112_79 ?_))
        have k_51 : (0 : Int32).toInt = 0 := rfl
        have c_52 : M42.2.1 1 1 = (M9.2.1 1 1) := (F_n F38 (show ¬ (18 ≤ 1 ∧ 1 ≤ 35) by decide) (F_n F33 (show ¬ (18 ≤ 1 ∧ 1 ≤ 27) by decide) (F_n F23 (show ¬ (1 = 1 ∧ 5 ≤ 1 ∨ 3 ≤ 1 ∧ 1 ≤ 5 ∨ 28 ≤ 1 ∧ 1 ≤ 35) by decide) (F_n F17 (show ¬ (11 ≤ 1 ∧ 1 ≤ 16) by decide) rfl))))
        have t_53 : (M42.2.1 1 1).toInt = (M9.2.1 1 1).toInt := congrArg Int32.toInt c_52
        have j_54 := (PI_f (tg_166 F38) (PI_f (tg_167 F33) (PI_f (tg_168 F23) (PI_f (tg_169 F17) (PI_f (tg_158 F3) q3)))))
        have j_55 := (NI_f (tg_170 F38) (NI_f (tg_171 F33) (NI_f (tg_172 F23) (NI_f (tg_122 F17) j_16))))
        have j_56 := (QI_f (tg_173 F38) (QI_f (tg_174 F33) (QI_f (tg_175 F23) (QI_f (tg_176 F17) (QI_f (tg_165 F3) q4)))))
        exact h (0 : Int32) M42 hG39 F43 (by omega) (by omega) j_54 j_55 j_56
    · refine to_c (pc := 40) rw_112_40 (x := (-1 : Int32)) rfl rfl (to_r0 (pc := 41) rw_112_41 ?_)
      have k_57 : (-1 : Int32).toInt = -1 := rfl
      have c_58 : M27.2.1 1 1 = (M9.2.1 1 1) := (F_n F23 (show ¬ (1 = 1 ∧ 5 ≤ 1 ∨ 3 ≤ 1 ∧ 1 ≤ 5 ∨ 28 ≤ 1 ∧ 1 ≤ 35) by decide) (F_n F17 (show ¬ (11 ≤ 1 ∧ 1 ≤ 16) by decide) rfl))
      have t_59 : (M27.2.1 1 1).toInt = (M9.2.1 1 1).toInt := congrArg Int32.toInt c_58
      have j_60 := (PI_f (tg_168 F23) (PI_f (tg_169 F17) (PI_f (tg_158 F3) q3)))
      have j_61 := (NI_f (tg_172 F23) (NI_f (tg_122 F17) j_16))
      have j_62 := (QI_f (tg_175 F23) (QI_f (tg_176 F17) (QI_f (tg_165 F3) q4)))
      exact h (-1 : Int32) M27 hG24 F28 (by omega) (by omega) j_60 j_61 j_62
  · refine to_c (pc := 11) rw_112_11 (x := (-2 : Int32)) rfl rfl (to_r0 (pc := 13) rw_112_13 ?_)
    have k_63 : (-2 : Int32).toInt = -2 := rfl
    have j_64 := (PI_f (tg_158 F3) q3)
    have j_65 := (NI_f (tg_162 F3) q2)
    have j_66 := (QI_f (tg_165 F3) q4)
    exact h (-2 : Int32) M9 hG4 F10 (by omega) (by omega) j_64 j_65 j_66
set_option maxRecDepth 4000 in
set_option maxHeartbeats 0 in
theorem C_113 {X : mm_X} {d : Nat} {M : mm_M} {Q : Option Value → mm_M → Prop} {n : Int32} {p : Nat} {pz : Nat} {q : Nat} {qz : Nat} (hX : g_X X) (hd : 39 ≤ d) (hG : g_G M) (hp : p = 49 ∨ p = 58) (hpz : pz = 49 ∨ pz = 58) (hq : q = 67 ∨ q = 72) (hqz : qz = 67 ∨ qz = 72) (q1 : g_PQ M p pz q qz) (q2 : QI M) (q3 : PI M) (q4 : NI M) (h : ∀ (r : Int32) (M1 : mm_M), g_G M1 → FRX md_X3 M M1 → (n.toInt < 0 ∨ (M.2.1 1 1).toInt < n.toInt → (M1.2.1 1 1).toInt = (M.2.1 1 1).toInt) → (0 ≤ n.toInt ∧ n.toInt ≤ (M.2.1 1 1).toInt → (M1.2.1 1 1).toInt = 0) → QI M1 → g_QQ M1 p pz q qz → PI M1 → NI M1 → Q (some (.int r)) M1) : mm_T X d 113 0 [.ref 0, .int n, .null] [] M Q := by
  have F0 : FRX md_X3 M M := FRX.rf
  refine to_an (pc := 0) rw_113_0 rfl (s_gR (pc := 1) rw_113_1 hG rfl (v := 1) rfl (to_in (pc := 4) rw_113_4 rfl (s_v (pc := 5) rw_113_5 (dp0 hd (by decide)) (ls0 := [.ref 1, .int n]) rfl (Nat.le_of_ble_eq_true rfl) (Nat.le_of_ble_eq_true rfl) rfl (to_rc rfl rfl rfl (g_o hG rfl)) rfl ?_)))
  have b_1 := g_b hG (a := 1) (i := 1) (lo := 0) (hi := 500) rfl rfl
  refine C_78 hX (dp1 hd (by decide)) hG (n := n) (fun r2 M9 hG4 F3 p_5 p_6 p_7 p_8 => ?_)
  have F10 := FRX.c F0 F3 tg_188
  have b_11 := g_b hG4 (a := 1) (i := 1) (lo := 0) (hi := 500) rfl rfl
  refine b_ine (pc := 8) rw_113_8 (A := r2.toInt) rfl (fun h12 => ?_) (fun h12 => ?_)
  · refine to_an (pc := 14) rw_113_14 rfl ?_
    have j_13 := (PQ_f F3 q1)
    refine tt_gR (pc := 15) rw_113_15 (g_o hG4 rfl) j_13.2.2.2 (to_an (pc := 18) rw_113_18 rfl (s_gR (pc := 19) rw_113_19 hG4 rfl (v := 1) rfl (to_an (pc := 22) rw_113_22 rfl (tt_gR (pc := 23) rw_113_23 (g_o hG4 rfl) j_13.1 (s_v (pc := 26) rw_113_26 (dp0 hd (by decide)) (ls0 := [.ref qz, .ref 1, .ref p]) rfl (Nat.le_of_ble_eq_true rfl) (Nat.le_of_ble_eq_true rfl) rfl (to_rc rfl rfl rfl (g_o hG4 (by rcases hqz with rfl | rfl <;> rfl))) rfl ?_)))))
    have j_14 := (QI_f (tg_165 F3) q2)
    refine C_57 hX (dp1 hd (by decide)) hG4 hqz hp j_14 (q := qz) (p := p) (fun r15 M21 hG17 F16 p_18 p_19 p_20 => ?_)
    have F22 := FRX.c F10 F16 tg_189
    refine b_ine (pc := 29) rw_113_29 (A := r15.toInt) rfl (fun h23 => ?_) (fun h23 => ?_)
    · refine to_an (pc := 34) rw_113_34 rfl ?_
      have j_24 := (PQ_f F16 j_13)
      refine tt_gR (pc := 35) rw_113_35 (g_o hG17 rfl) j_24.2.2.1 (to_asn (pc := 38) rw_113_38 (ls2 := [.ref 0, .int n, .ref q]) rfl rfl (to_an (pc := 39) rw_113_39 rfl (to_an (pc := 40) rw_113_40 rfl (tt_gR (pc := 41) rw_113_41 (g_o hG17 rfl) j_24.2.2.2 (s_pR (pc := 44) rw_113_44 hG17 rfl (by rcases hqz with rfl | rfl <;> rfl) (fun M26 W25 => ?_))))))
      have hG27 := g_wr hG17 W25 rfl
      have F28 := FRX.wr F22 W25
      have j_29 := PQ_s10 W25 j_24
      refine to_an (pc := 47) rw_113_47 rfl (to_an (pc := 48) rw_113_48 rfl (s_pR (pc := 49) rw_113_49 hG27 rfl (by rcases hq with rfl | rfl <;> rfl) (fun M31 W30 => ?_)))
      have hG32 := g_wr hG27 W30 rfl
      have F33 := FRX.wr F28 W30
      have j_34 := PQ_s11 W30 j_29
      refine to_an (pc := 52) rw_113_52 rfl (tt_gR (pc := 53) rw_113_53 (g_o hG32 rfl) j_34.2.2.1 ?_)
      have c_35 : M31.2.1 qz 4 = (M21.2.1 qz 4) := (W_rf W30 (W_rf W25 rfl))
      have b_36 := g_b hG17 (a := qz) (i := 4) (lo := 0) (hi := 40) (by rcases hqz with rfl | rfl <;> rfl) (by rcases hqz with rfl | rfl <;> rfl)
      refine tt_gI (pc := 56) rw_113_56 (g_o hG32 (by rcases hqz with rfl | rfl <;> rfl)) (v := (M21.2.1 qz 4)) c_35 (to_r0 (pc := 59) rw_113_59 ?_)
      have c_37 : M31.2.1 1 1 = (M9.2.1 1 1) := (W_rf W30 (W_rf W25 (F_n F16 (show ¬ (1 = 1 ∧ 5 ≤ 1 ∨ 3 ≤ 1 ∧ 1 ≤ 5 ∨ 67 ≤ 1 ∧ 1 ≤ 76) by decide) rfl)))
      have t_38 : (M31.2.1 1 1).toInt = (M9.2.1 1 1).toInt := congrArg Int32.toInt c_37
      have j_39 := (QI_f (fun a i z => W_rf W30 rfl) (QI_f (fun a i z => W_rf W25 rfl) p_20))
      have j_40 := (PI_f (fun a i z => W_rf W30 rfl) (PI_f (fun a i z => W_rf W25 rfl) (PI_f (tg_177 F16) (PI_f (tg_158 F3) q3))))
      have j_41 := (NI_f (fun a i z => W_rf W30 rfl) (NI_f (fun a i z => W_rf W25 rfl) (NI_f (tg_178 F16) (NI_f (tg_162 F3) q4))))
      exact h (M21.2.1 qz 4) M31 hG32 F33 (by omega) (by omega) j_39 (Or.inr j_34) j_40 j_41
    · refine to_c (pc := 32) rw_113_32 (x := (-1 : Int32)) rfl rfl (to_r0 (pc := 33) rw_113_33 ?_)
      have k_42 : (-1 : Int32).toInt = -1 := rfl
      have c_43 : M21.2.1 1 1 = (M9.2.1 1 1) := (F_n F16 (show ¬ (1 = 1 ∧ 5 ≤ 1 ∨ 3 ≤ 1 ∧ 1 ≤ 5 ∨ 67 ≤ 1 ∧ 1 ≤ 76) by decide) rfl)
      have t_44 : (M21.2.1 1 1).toInt = (M9.2.1 1 1).toInt := congrArg Int32.toInt c_43
      have j_45 := (PQ_f F16 j_13)
      have j_46 := (PI_f (tg_177 F16) (PI_f (tg_158 F3) q3))
      have j_47 := (NI_f (tg_178 F16) (NI_f (tg_162 F3) q4))
      exact h (-1 : Int32) M21 hG17 F22 (by omega) (by omega) p_20 (Or.inl j_45) j_46 j_47
  · refine to_c (pc := 11) rw_113_11 (x := (-2 : Int32)) rfl rfl (to_r0 (pc := 13) rw_113_13 ?_)
    have k_48 : (-2 : Int32).toInt = -2 := rfl
    have j_49 := (QI_f (tg_165 F3) q2)
    have j_50 := (PQ_f F3 q1)
    have j_51 := (PI_f (tg_158 F3) q3)
    have j_52 := (NI_f (tg_162 F3) q4)
    exact h (-2 : Int32) M9 hG4 F10 (by omega) (by omega) j_49 (Or.inl j_50) j_51 j_52
set_option maxRecDepth 4000 in
set_option maxHeartbeats 0 in
theorem C_114 {X : mm_X} {d : Nat} {M : mm_M} {Q : Option Value → mm_M → Prop} {w : Int32} {p : Nat} {pz : Nat} {q : Nat} {qz : Nat} (hX : g_X X) (hd : 0 ≤ d) (hG : g_G M) (hp : p = 49 ∨ p = 58) (hpz : pz = 49 ∨ pz = 58) (hq : q = 67 ∨ q = 72) (hqz : qz = 67 ∨ qz = 72) (q1 : g_PQ M p pz q qz) (h : ∀ (r : Int32) (M1 : mm_M), g_G M1 → FR md_0 M M1 → Q (some (.int r)) M1) : mm_T X d 114 0 [.ref 0, .int w] [] M Q := by
  have F0 : FR md_0 M M := FR.rf
  refine to_in (pc := 0) rw_114_0 rfl (b_ine (pc := 1) rw_114_1 (A := w.toInt) rfl (fun h1 => ?_) (fun h1 => ?_))
  · refine to_in (pc := 12) rw_114_12 rfl (to_c (pc := 13) rw_114_13 (x := (1 : Int32)) rfl rfl (b_cne (pc := 14) rw_114_14 (A := w.toInt) (B := 1) rfl rfl (fun h2 => ?_) (fun h2 => ?_)))
    · refine to_c (pc := 27) rw_114_27 (x := (-1 : Int32)) rfl rfl (to_r0 (pc := 28) rw_114_28 ?_)
      have k_3 : (-1 : Int32).toInt = -1 := rfl
      exact h (-1 : Int32) M hG F0 
    · refine to_an (pc := 17) rw_114_17 rfl (s_gR (pc := 18) rw_114_18 hG rfl (v := 1) rfl (tt_gI (pc := 21) rw_114_21 (g_o hG rfl) (v := (M.2.1 1 11)) rfl (to_go (pc := 24) rw_114_24 (to_r0 (pc := 28) rw_114_28 ?_))))
      exact h (M.2.1 1 11) M hG F0 
  · refine to_an (pc := 4) rw_114_4 rfl (s_gR (pc := 5) rw_114_5 hG rfl (v := 1) rfl (tt_gI (pc := 8) rw_114_8 (g_o hG rfl) (v := (M.2.1 1 10)) rfl (to_r0 (pc := 11) rw_114_11 ?_)))
    exact h (M.2.1 1 10) M hG F0 
set_option maxRecDepth 4000 in
set_option maxHeartbeats 0 in
theorem C_115 {X : mm_X} {d : Nat} {M : mm_M} {Q : Option Value → mm_M → Prop} {w : Int32} {l : Int32} {p : Nat} {pz : Nat} {q : Nat} {qz : Nat} (hX : g_X X) (hd : 2 ≤ d) (hG : g_G M) (hp : p = 49 ∨ p = 58) (hpz : pz = 49 ∨ pz = 58) (hq : q = 67 ∨ q = 72) (hqz : qz = 67 ∨ qz = 72) (q1 : g_PQ M p pz q qz) (h : ∀ (r : Int32) (M1 : mm_M), g_G M1 → FR md_0 M M1 → Q (some (.int r)) M1) : mm_T X d 115 0 [.ref 0, .int w, .int l] [] M Q := by
  have F0 : FR md_0 M M := FR.rf
  refine to_in (pc := 0) rw_115_0 rfl (b_ine (pc := 1) rw_115_1 (A := w.toInt) rfl (fun h1 => ?_) (fun h1 => ?_))
  · refine to_in (pc := 13) rw_115_13 rfl (to_c (pc := 14) rw_115_14 (x := (1 : Int32)) rfl rfl (b_cne (pc := 15) rw_115_15 (A := w.toInt) (B := 1) rfl rfl (fun h2 => ?_) (fun h2 => ?_)))
    · refine to_c (pc := 29) rw_115_29 (x := (-1 : Int32)) rfl rfl (to_r0 (pc := 30) rw_115_30 ?_)
      have k_3 : (-1 : Int32).toInt = -1 := rfl
      exact h (-1 : Int32) M hG F0 
    · refine to_an (pc := 18) rw_115_18 rfl (tt_gR (pc := 19) rw_115_19 (g_o hG rfl) q1.1 (to_in (pc := 22) rw_115_22 rfl (s_v (pc := 23) rw_115_23 (dp0 hd (by decide)) (ls0 := [.ref p, .int l]) rfl (Nat.le_of_ble_eq_true rfl) (Nat.le_of_ble_eq_true rfl) rfl (to_rc rfl rfl rfl (g_o hG (by rcases hp with rfl | rfl <;> rfl))) rfl (to_an (pc := 0) rw_53_0 rfl (s_gR (pc := 1) rw_53_1 hG (by rcases hp with rfl | rfl <;> rfl) (v := (p + 6)) (by rcases hp with rfl | rfl <;> rfl) (to_an (pc := 4) rw_53_4 rfl ?_))))))
      have b_4 := g_b hG (a := p) (i := 3) (lo := 0) (hi := 12) (by rcases hp with rfl | rfl <;> rfl) (by rcases hp with rfl | rfl <;> rfl)
      refine tt_gI (pc := 5) rw_53_5 (g_o hG (by rcases hp with rfl | rfl <;> rfl)) (v := (M.2.1 p 3)) rfl (to_in (pc := 8) rw_53_8 rfl (s_s (pc := 9) rw_53_9 (dp1 hd (by decide)) (ls0 := [.ref (p + 6), .int (M.2.1 p 3), .int l, .null]) rfl (Nat.le_of_ble_eq_true rfl) (Nat.le_of_ble_eq_true rfl) rfl (to_rcs rfl rfl) rfl (C_54g hX (dp2 hd (by decide)) hG (by omega) (g := (p + 6)) (s := (M.2.1 p 3)) (x := l) (fun r5 M10 hG7 F6 p_8 p_9 => ?_))))
      have F11 := FR.c F0 F6 tg_29
      refine to_r0 (pc := 12) rw_53_12 (to_go (pc := 26) rw_115_26 (to_r0 (pc := 30) rw_115_30 ?_))
      exact h r5 M10 hG7 F11 
  · refine to_an (pc := 4) rw_115_4 rfl (tt_gR (pc := 5) rw_115_5 (g_o hG rfl) q1.1 (to_in (pc := 8) rw_115_8 rfl (s_v (pc := 9) rw_115_9 (dp0 hd (by decide)) (ls0 := [.ref p, .int l]) rfl (Nat.le_of_ble_eq_true rfl) (Nat.le_of_ble_eq_true rfl) rfl (to_rc rfl rfl rfl (g_o hG (by rcases hp with rfl | rfl <;> rfl))) rfl (to_an (pc := 0) rw_52_0 rfl (s_gR (pc := 1) rw_52_1 hG (by rcases hp with rfl | rfl <;> rfl) (v := (p + 1)) (by rcases hp with rfl | rfl <;> rfl) (to_an (pc := 4) rw_52_4 rfl ?_))))))
    have b_12 := g_b hG (a := p) (i := 2) (lo := 0) (hi := 8) (by rcases hp with rfl | rfl <;> rfl) (by rcases hp with rfl | rfl <;> rfl)
    refine tt_gI (pc := 5) rw_52_5 (g_o hG (by rcases hp with rfl | rfl <;> rfl)) (v := (M.2.1 p 2)) rfl (to_in (pc := 8) rw_52_8 rfl (s_s (pc := 9) rw_52_9 (dp1 hd (by decide)) (ls0 := [.ref (p + 1), .int (M.2.1 p 2), .int l, .null]) rfl (Nat.le_of_ble_eq_true rfl) (Nat.le_of_ble_eq_true rfl) rfl (to_rcs rfl rfl) rfl (C_54f hX (dp2 hd (by decide)) hG (by omega) (f := (p + 1)) (s := (M.2.1 p 2)) (x := l) (fun r13 M18 hG15 F14 p_16 p_17 => ?_))))
    have F19 := FR.c F0 F14 tg_29
    refine to_r0 (pc := 12) rw_52_12 (to_r0 (pc := 12) rw_115_12 ?_)
    exact h r13 M18 hG15 F19 
set_option maxRecDepth 4000 in
set_option maxHeartbeats 0 in
theorem C_116 {X : mm_X} {d : Nat} {M : mm_M} {Q : Option Value → mm_M → Prop} {f : Int32} {v : Int32} {p : Nat} {pz : Nat} {q : Nat} {qz : Nat} (hX : g_X X) (hd : 3 ≤ d) (hG : g_G M) (hp : p = 49 ∨ p = 58) (hpz : pz = 49 ∨ pz = 58) (hq : q = 67 ∨ q = 72) (hqz : qz = 67 ∨ qz = 72) (q1 : g_PQ M p pz q qz) (h : ∀ (r : Int64) (M1 : mm_M), g_G M1 → FR md_0 M M1 → Q (some (.long r)) M1) : mm_T X d 116 0 [.ref 0, .int f, .int v] [] M Q := by
  have F0 : FR md_0 M M := FR.rf
  refine to_an (pc := 0) rw_116_0 rfl (tt_gR (pc := 1) rw_116_1 (g_o hG rfl) q1.1 (to_in (pc := 4) rw_116_4 rfl (to_in (pc := 5) rw_116_5 rfl (s_v (pc := 6) rw_116_6 (dp0 hd (by decide)) (ls0 := [.ref p, .int f, .int v, .null, .null]) rfl (Nat.le_of_ble_eq_true rfl) (Nat.le_of_ble_eq_true rfl) rfl (to_rc rfl rfl rfl (g_o hG (by rcases hp with rfl | rfl <;> rfl))) rfl (C_49 hX (dp1 hd (by decide)) hG hp (p := p) (f := f) (v := v) (fun r1 M4 hG3 F2 => ?_))))))
  have F5 := FR.c F0 F2 tg_29
  refine to_rl (pc := 9) rw_116_9 ?_
  exact h r1 M4 hG3 F5 
set_option maxRecDepth 4000 in
set_option maxHeartbeats 0 in
theorem C_117 {X : mm_X} {d : Nat} {M : mm_M} {Q : Option Value → mm_M → Prop} {n : Int32} {w : Int32} {p : Nat} {pz : Nat} {q : Nat} {qz : Nat} (hX : g_X X) (hd : 6 ≤ d) (hG : g_G M) (hp : p = 49 ∨ p = 58) (hpz : pz = 49 ∨ pz = 58) (hq : q = 67 ∨ q = 72) (hqz : qz = 67 ∨ qz = 72) (q1 : g_PQ M p pz q qz) (q2 : NI M) (q3 : PI M) (q4 : QI M) (h : ∀ (r : Int64) (M1 : mm_M), g_G M1 → FR md_y M M1 → PI M1 → NI M1 → QI M1 → Q (some (.long r)) M1) : mm_T X d 117 0 [.ref 0, .int n, .int w] [] M Q := by
  have F0 : FR md_y M M := FR.rf
  refine to_an (pc := 0) rw_117_0 rfl (to_in (pc := 1) rw_117_1 rfl (s_v (pc := 2) rw_117_2 (dp0 hd (by decide)) (ls0 := [.ref 0, .int n]) rfl (Nat.le_of_ble_eq_true rfl) (Nat.le_of_ble_eq_true rfl) rfl (to_rc rfl rfl rfl (g_o hG rfl)) rfl (to_in (pc := 0) rw_139_0 rfl (b_ilt (pc := 1) rw_139_1 (A := n.toInt) rfl (fun h1 => ?_) (fun h1 => ?_)))))
  · refine to_c (pc := 19) rw_139_19 (x := (0 : Int32)) rfl rfl (s_r1 (pc := 20) rw_139_20 (A := 0) rfl (by decide) (b_ieq_t (pc := 5) rw_117_5 (A := 0) rfl (by decide) (s_cl (pc := 19) rw_117_19 rfl (fun l2 => to_rl (pc := 20) rw_117_20 ?_))))
    exact h l2 M hG F0 q3 q2 q4
  · refine to_in (pc := 4) rw_139_4 rfl (to_an (pc := 5) rw_139_5 rfl (s_gR (pc := 6) rw_139_6 hG rfl (v := 6) rfl ?_))
    have b_3 := g_b hG (a := 6) (i := 0) (lo := 0) (hi := 150) rfl rfl
    refine tt_gI (pc := 9) rw_139_9 (g_o hG rfl) (v := (M.2.1 6 0)) rfl (b_cgt (pc := 12) rw_139_12 (A := n.toInt) (B := (M.2.1 6 0).toInt) rfl rfl (fun h4 => ?_) (fun h4 => ?_))
    · refine to_c (pc := 19) rw_139_19 (x := (0 : Int32)) rfl rfl (s_r1 (pc := 20) rw_139_20 (A := 0) rfl (by decide) (b_ieq_t (pc := 5) rw_117_5 (A := 0) rfl (by decide) (s_cl (pc := 19) rw_117_19 rfl (fun l5 => to_rl (pc := 20) rw_117_20 ?_))))
      exact h l5 M hG F0 q3 q2 q4
    · refine to_c (pc := 15) rw_139_15 (x := (1 : Int32)) rfl rfl (to_go (pc := 16) rw_139_16 (s_r1 (pc := 20) rw_139_20 (A := 1) rfl (by decide) (b_ieq_f (pc := 5) rw_117_5 (A := 1) rfl (by decide) (to_an (pc := 8) rw_117_8 rfl (tt_gR (pc := 9) rw_117_9 (g_o hG rfl) q1.1 (to_in (pc := 12) rw_117_12 rfl (s_v (pc := 13) rw_117_13 (dp0 hd (by decide)) (ls0 := [.ref p, .int w]) rfl (Nat.le_of_ble_eq_true rfl) (Nat.le_of_ble_eq_true rfl) rfl (to_rc rfl rfl rfl (g_o hG (by rcases hp with rfl | rfl <;> rfl))) rfl (to_in (pc := 0) rw_44_0 rfl (b_ilt (pc := 1) rw_44_1 (A := w.toInt) rfl (fun h6 => ?_) (fun h6 => ?_))))))))))
      · refine to_c (pc := 16) rw_44_16 (x := (0 : Int32)) rfl rfl (s_r1 (pc := 17) rw_44_17 (A := 0) rfl (by decide) (b_ine_f (pc := 16) rw_117_16 (A := 0) rfl (by decide) (s_cl (pc := 19) rw_117_19 rfl (fun l7 => to_rl (pc := 20) rw_117_20 ?_))))
        exact h l7 M hG F0 q3 q2 q4
      · refine to_in (pc := 4) rw_44_4 rfl (to_an (pc := 5) rw_44_5 rfl ?_)
        have b_8 := g_b hG (a := p) (i := 3) (lo := 0) (hi := 12) (by rcases hp with rfl | rfl <;> rfl) (by rcases hp with rfl | rfl <;> rfl)
        refine tt_gI (pc := 6) rw_44_6 (g_o hG (by rcases hp with rfl | rfl <;> rfl)) (v := (M.2.1 p 3)) rfl (b_cge (pc := 9) rw_44_9 (A := w.toInt) (B := (M.2.1 p 3).toInt) rfl rfl (fun h9 => ?_) (fun h9 => ?_))
        · refine to_c (pc := 16) rw_44_16 (x := (0 : Int32)) rfl rfl (s_r1 (pc := 17) rw_44_17 (A := 0) rfl (by decide) (b_ine_f (pc := 16) rw_117_16 (A := 0) rfl (by decide) (s_cl (pc := 19) rw_117_19 rfl (fun l10 => to_rl (pc := 20) rw_117_20 ?_))))
          exact h l10 M hG F0 q3 q2 q4
        · refine to_c (pc := 12) rw_44_12 (x := (1 : Int32)) rfl rfl (to_go (pc := 13) rw_44_13 (s_r1 (pc := 17) rw_44_17 (A := 1) rfl (by decide) (b_ine_t (pc := 16) rw_117_16 (A := 1) rfl (by decide) (to_an (pc := 21) rw_117_21 rfl (to_in (pc := 22) rw_117_22 rfl (s_v (pc := 23) rw_117_23 (dp0 hd (by decide)) (ls0 := [.ref 0, .int n]) rfl (Nat.le_of_ble_eq_true rfl) (Nat.le_of_ble_eq_true rfl) rfl (to_rc rfl rfl rfl (g_o hG rfl)) rfl (to_an (pc := 0) rw_141_0 rfl (s_gR (pc := 1) rw_141_1 hG rfl (v := 11) rfl (to_an (pc := 4) rw_141_4 rfl (tt_gR (pc := 5) rw_141_5 (g_o hG rfl) q1.1 (to_an (pc := 8) rw_141_8 rfl ?_)))))))))))
          refine s_gR (pc := 9) rw_141_9 hG rfl (v := 6) rfl (to_in (pc := 12) rw_141_12 rfl (s_v (pc := 13) rw_141_13 (dp1 hd (by decide)) (ls0 := [.ref 11, .ref p, .ref 6, .int n, .null]) rfl (Nat.le_of_ble_eq_true rfl) (Nat.le_of_ble_eq_true rfl) rfl (to_rc rfl rfl rfl (g_o hG rfl)) rfl (C_8 hX (dp2 hd (by decide)) hG hp (by omega) (by omega) q2 (p := p) (n := n) (fun M13 hG12 F11 => ?_))))
          have F14 := FR.c F0 F11 tg_190
          refine to_rv (pc := 16) rw_141_16 (to_an (pc := 26) rw_117_26 rfl (s_gR (pc := 27) rw_117_27 hG12 rfl (v := 11) rfl (s_gR (pc := 30) rw_117_30 hG12 rfl (v := 15) rfl (to_in (pc := 33) rw_117_33 rfl (s_lal (pc := 34) rw_117_34 hG12 rfl (n := 12) rfl (A := w.toInt) rfl (by omega) (by omega) (fun l15 => to_rl (pc := 35) rw_117_35 ?_))))))
          have j_16 := (PI_f (tg_169 F11) q3)
          have j_17 := (NI_f (tg_122 F11) q2)
          have j_18 := (QI_f (tg_176 F11) q4)
          exact h l15 M13 hG12 F14 j_16 j_17 j_18
set_option maxRecDepth 4000 in
set_option maxHeartbeats 0 in
theorem C_118 {X : mm_X} {d : Nat} {M : mm_M} {Q : Option Value → mm_M → Prop} {p : Nat} {pz : Nat} {q : Nat} {qz : Nat} (hX : g_X X) (hd : 1 ≤ d) (hG : g_G M) (hp : p = 49 ∨ p = 58) (hpz : pz = 49 ∨ pz = 58) (hq : q = 67 ∨ q = 72) (hqz : qz = 67 ∨ qz = 72) (q1 : g_PQ M p pz q qz) (q2 : PI M) (q3 : NI M) (q4 : QI M) (h : ∀ (r : Int32) (M1 : mm_M), g_G M1 → FR md_yc M M1 → (30 ≤ (M.2.1 0 12).toInt → r.toInt = -1 ∧ (M1.2.1 0 12).toInt = (M.2.1 0 12).toInt) → ((M.2.1 0 12).toInt < 30 → r.toInt = (M.2.1 0 12).toInt ∧ (M1.2.1 0 12).toInt = (M.2.1 0 12).toInt + 1) → PI M1 → NI M1 → QI M1 → Q (some (.int r)) M1) : mm_T X d 118 0 [.ref 0] [] M Q := by
  have F0 : FR md_yc M M := FR.rf
  refine to_an (pc := 0) rw_118_0 rfl ?_
  have b_1 := g_b hG (a := 0) (i := 12) (lo := 0) (hi := 30) rfl rfl
  refine tt_gI (pc := 1) rw_118_1 (g_o hG rfl) (v := (M.2.1 0 12)) rfl (to_c (pc := 4) rw_118_4 (x := (30 : Int32)) rfl rfl (b_clt (pc := 6) rw_118_6 (A := (M.2.1 0 12).toInt) (B := 30) rfl rfl (fun h2 => ?_) (fun h2 => ?_)))
  · refine to_an (pc := 11) rw_118_11 rfl (s_gR (pc := 12) rw_118_12 hG rfl (v := 17) rfl (to_c (pc := 15) rw_118_15 (x := (0 : Int32)) rfl rfl (to_an (pc := 16) rw_118_16 rfl (tt_gI (pc := 17) rw_118_17 (g_o hG rfl) (v := (M.2.1 0 12)) rfl (s_v (pc := 20) rw_118_20 (dp0 hd (by decide)) (ls0 := [.ref 17, .int (0 : Int32), .int (M.2.1 0 12)]) rfl (Nat.le_of_ble_eq_true rfl) (Nat.le_of_ble_eq_true rfl) rfl (to_rc rfl rfl rfl (g_o hG rfl)) rfl ?_)))))
    have k_3 : (0 : Int32).toInt = 0 := rfl
    refine C_23 hX (dp1 hd (by decide)) hG (by omega) (by omega) (by omega) (by omega) (p := (0 : Int32)) (c := (M.2.1 0 12)) (fun M6 hG5 F4 => ?_)
    have F7 := FR.c F0 F4 tg_191
    refine to_an (pc := 23) rw_118_23 rfl (to_dupr (pc := 24) rw_118_24 ?_)
    have c_8 : M6.2.1 0 12 = (M.2.1 0 12) := (F_n F4 (show ¬ (18 ≤ 0 ∧ 0 ≤ 27) by decide) rfl)
    refine tt_gI (pc := 25) rw_118_25 (g_o hG5 rfl) (v := (M.2.1 0 12)) c_8 (to_c (pc := 28) rw_118_28 (x := (1 : Int32)) rfl rfl (s_add (pc := 29) rw_118_29 (A := (M.2.1 0 12).toInt) (B := 1) rfl rfl (by omega) (fun v9 e10 => s_pI (pc := 30) rw_118_30 hG5 rfl (fun M12 W11 => ?_))))
    have hG13 := g_w hG5 W11 (A := v9.toInt) rfl (lo := 0) (hi := 30) rfl rfl (by omega) (by decide)
    have F14 := FR.w F7 W11 (show 0 = 0 ∧ 12 = 12 ∨ 18 ≤ 0 ∧ 0 ≤ 27 by decide)
    refine to_an (pc := 33) rw_118_33 rfl ?_
    have c_15 : M12.2.1 0 12 = v9 := (W_e W11)
    refine tt_gI (pc := 34) rw_118_34 (g_o hG13 rfl) (v := v9) c_15 (to_c (pc := 37) rw_118_37 (x := (1 : Int32)) rfl rfl (s_sub (pc := 38) rw_118_38 (A := v9.toInt) (B := 1) rfl rfl (by omega) (fun v16 e17 => to_r0 (pc := 39) rw_118_39 ?_)))
    have t_18 : (M12.2.1 0 12).toInt = v9.toInt := congrArg Int32.toInt c_15
    have j_19 := (PI_f (fun a i z => W_n W11 (by /-r0,12-/ omega) rfl) (PI_f (tg_167 F4) q2))
    have j_20 := (NI_f (fun a i z => W_n W11 (tg_193 a i z) rfl) (NI_f (tg_171 F4) q3))
    have j_21 := (QI_f (fun a i z => W_n W11 (tg_195 a i z) rfl) (QI_f (tg_174 F4) q4))
    exact h v16 M12 hG13 F14 (by omega) (by omega) j_19 j_20 j_21
  · refine to_c (pc := 9) rw_118_9 (x := (-1 : Int32)) rfl rfl (to_r0 (pc := 10) rw_118_10 ?_)
    have k_22 : (-1 : Int32).toInt = -1 := rfl
    exact h (-1 : Int32) M hG F0 (by omega) (by omega) q2 q3 q4
set_option maxRecDepth 4000 in
set_option maxHeartbeats 0 in
theorem C_119 {X : mm_X} {d : Nat} {M : mm_M} {Q : Option Value → mm_M → Prop} {c : Int32} {f : Int32} {v : Int32} {p : Nat} {pz : Nat} {q : Nat} {qz : Nat} (hX : g_X X) (hd : 2 ≤ d) (hG : g_G M) (hp : p = 49 ∨ p = 58) (hpz : pz = 49 ∨ pz = 58) (hq : q = 67 ∨ q = 72) (hqz : qz = 67 ∨ qz = 72) (q1 : g_PQ M p pz q qz) (q2 : NI M) (q3 : PI M) (q4 : QI M) (h : ∀ (r : Int32) (M1 : mm_M), g_G M1 → FR md_n M M1 → NI M1 → PI M1 → QI M1 → Q (some (.int r)) M1) : mm_T X d 119 0 [.ref 0, .int c, .int f, .int v] [] M Q := by
  have F0 : FR md_n M M := FR.rf
  refine to_an (pc := 0) rw_119_0 rfl (to_in (pc := 1) rw_119_1 rfl (s_v (pc := 2) rw_119_2 (dp0 hd (by decide)) (ls0 := [.ref 0, .int c]) rfl (Nat.le_of_ble_eq_true rfl) (Nat.le_of_ble_eq_true rfl) rfl (to_rc rfl rfl rfl (g_o hG rfl)) rfl (to_in (pc := 0) rw_140_0 rfl (b_ilt (pc := 1) rw_140_1 (A := c.toInt) rfl (fun h1 => ?_) (fun h1 => ?_)))))
  · refine to_c (pc := 16) rw_140_16 (x := (0 : Int32)) rfl rfl (s_r1 (pc := 17) rw_140_17 (A := 0) rfl (by decide) (b_ieq_t (pc := 5) rw_119_5 (A := 0) rfl (by decide) (to_c (pc := 20) rw_119_20 (x := (-1 : Int32)) rfl rfl (to_r0 (pc := 21) rw_119_21 ?_))))
    have k_2 : (-1 : Int32).toInt = -1 := rfl
    exact h (-1 : Int32) M hG F0 q2 q3 q4
  · refine to_in (pc := 4) rw_140_4 rfl (to_an (pc := 5) rw_140_5 rfl ?_)
    have b_3 := g_b hG (a := 0) (i := 12) (lo := 0) (hi := 30) rfl rfl
    refine tt_gI (pc := 6) rw_140_6 (g_o hG rfl) (v := (M.2.1 0 12)) rfl (b_cge (pc := 9) rw_140_9 (A := c.toInt) (B := (M.2.1 0 12).toInt) rfl rfl (fun h4 => ?_) (fun h4 => ?_))
    · refine to_c (pc := 16) rw_140_16 (x := (0 : Int32)) rfl rfl (s_r1 (pc := 17) rw_140_17 (A := 0) rfl (by decide) (b_ieq_t (pc := 5) rw_119_5 (A := 0) rfl (by decide) (to_c (pc := 20) rw_119_20 (x := (-1 : Int32)) rfl rfl (to_r0 (pc := 21) rw_119_21 ?_))))
      have k_5 : (-1 : Int32).toInt = -1 := rfl
      exact h (-1 : Int32) M hG F0 q2 q3 q4
    · refine to_c (pc := 12) rw_140_12 (x := (1 : Int32)) rfl rfl (to_go (pc := 13) rw_140_13 (s_r1 (pc := 17) rw_140_17 (A := 1) rfl (by decide) (b_ieq_f (pc := 5) rw_119_5 (A := 1) rfl (by decide) (to_an (pc := 8) rw_119_8 rfl (tt_gR (pc := 9) rw_119_9 (g_o hG rfl) q1.1 (to_in (pc := 12) rw_119_12 rfl (to_in (pc := 13) rw_119_13 rfl (s_v (pc := 14) rw_119_14 (dp0 hd (by decide)) (ls0 := [.ref p, .int f, .int v]) rfl (Nat.le_of_ble_eq_true rfl) (Nat.le_of_ble_eq_true rfl) rfl (to_rc rfl rfl rfl (g_o hG (by rcases hp with rfl | rfl <;> rfl))) rfl (to_an (pc := 0) rw_46_0 rfl (to_in (pc := 1) rw_46_1 rfl (s_v (pc := 2) rw_46_2 (dp1 hd (by decide)) (ls0 := [.ref p, .int f]) rfl (Nat.le_of_ble_eq_true rfl) (Nat.le_of_ble_eq_true rfl) rfl (to_rc rfl rfl rfl (g_o hG (by rcases hp with rfl | rfl <;> rfl))) rfl ?_)))))))))))
      refine to_in (pc := 0) rw_43_0 rfl (b_ilt (pc := 1) rw_43_1 (A := f.toInt) rfl (fun h6 => ?_) (fun h6 => ?_))
      · refine to_c (pc := 16) rw_43_16 (x := (0 : Int32)) rfl rfl (s_r1 (pc := 17) rw_43_17 (A := 0) rfl (by decide) (b_ieq_t (pc := 5) rw_46_5 (A := 0) rfl (by decide) (to_c (pc := 34) rw_46_34 (x := (0 : Int32)) rfl rfl (s_r1 (pc := 35) rw_46_35 (A := 0) rfl (by decide) (b_ine_f (pc := 17) rw_119_17 (A := 0) rfl (by decide) (to_c (pc := 20) rw_119_20 (x := (-1 : Int32)) rfl rfl (to_r0 (pc := 21) rw_119_21 ?_)))))))
        have k_7 : (-1 : Int32).toInt = -1 := rfl
        exact h (-1 : Int32) M hG F0 q2 q3 q4
      · refine to_in (pc := 4) rw_43_4 rfl (to_an (pc := 5) rw_43_5 rfl ?_)
        have b_8 := g_b hG (a := p) (i := 2) (lo := 0) (hi := 8) (by rcases hp with rfl | rfl <;> rfl) (by rcases hp with rfl | rfl <;> rfl)
        refine tt_gI (pc := 6) rw_43_6 (g_o hG (by rcases hp with rfl | rfl <;> rfl)) (v := (M.2.1 p 2)) rfl (b_cge (pc := 9) rw_43_9 (A := f.toInt) (B := (M.2.1 p 2).toInt) rfl rfl (fun h9 => ?_) (fun h9 => ?_))
        · refine to_c (pc := 16) rw_43_16 (x := (0 : Int32)) rfl rfl (s_r1 (pc := 17) rw_43_17 (A := 0) rfl (by decide) (b_ieq_t (pc := 5) rw_46_5 (A := 0) rfl (by decide) (to_c (pc := 34) rw_46_34 (x := (0 : Int32)) rfl rfl (s_r1 (pc := 35) rw_46_35 (A := 0) rfl (by decide) (b_ine_f (pc := 17) rw_119_17 (A := 0) rfl (by decide) (to_c (pc := 20) rw_119_20 (x := (-1 : Int32)) rfl rfl (to_r0 (pc := 21) rw_119_21 ?_)))))))
          have k_10 : (-1 : Int32).toInt = -1 := rfl
          exact h (-1 : Int32) M hG F0 q2 q3 q4
        · refine to_c (pc := 12) rw_43_12 (x := (1 : Int32)) rfl rfl (to_go (pc := 13) rw_43_13 (s_r1 (pc := 17) rw_43_17 (A := 1) rfl (by decide) (b_ieq_f (pc := 5) rw_46_5 (A := 1) rfl (by decide) (to_an (pc := 8) rw_46_8 rfl (to_in (pc := 9) rw_46_9 rfl (s_v (pc := 10) rw_46_10 (dp1 hd (by decide)) (ls0 := [.ref p, .int f]) rfl (Nat.le_of_ble_eq_true rfl) (Nat.le_of_ble_eq_true rfl) rfl (to_rc rfl rfl rfl (g_o hG (by rcases hp with rfl | rfl <;> rfl))) rfl (to_an (pc := 0) rw_45_0 rfl (s_gR (pc := 1) rw_45_1 hG (by rcases hp with rfl | rfl <;> rfl) (v := (p + 2)) (by rcases hp with rfl | rfl <;> rfl) (to_in (pc := 4) rw_45_4 rfl (s_ial (pc := 5) rw_45_5 hG (by rcases hp with rfl | rfl <;> rfl) (n := 8) (by rcases hp with rfl | rfl <;> rfl) (by rcases hp with rfl | rfl <;> rfl) (A := f.toInt) rfl (by omega) (by omega) (lo := 0) (hi := 3) (by rcases hp with rfl | rfl <;> rfl) (by rcases hp with rfl | rfl <;> rfl) (fun v11 w_12 _ _ => to_c (pc := 6) rw_45_6 (x := (3 : Int32)) rfl rfl ?_)))))))))))
          refine b_cne (pc := 7) rw_45_7 (A := v11.toInt) (B := 3) rfl rfl (fun h13 => ?_) (fun h13 => ?_)
          · refine to_c (pc := 14) rw_45_14 (x := (0 : Int32)) rfl rfl (s_r1 (pc := 15) rw_45_15 (A := 0) rfl (by decide) (b_ine_f (pc := 13) rw_46_13 (A := 0) rfl (by decide) (to_in (pc := 16) rw_46_16 rfl (b_ilt (pc := 17) rw_46_17 (A := v.toInt) rfl (fun h14 => ?_) (fun h14 => ?_)))))
            · refine to_c (pc := 34) rw_46_34 (x := (0 : Int32)) rfl rfl (s_r1 (pc := 35) rw_46_35 (A := 0) rfl (by decide) (b_ine_f (pc := 17) rw_119_17 (A := 0) rfl (by decide) (to_c (pc := 20) rw_119_20 (x := (-1 : Int32)) rfl rfl (to_r0 (pc := 21) rw_119_21 ?_))))
              have k_15 : (-1 : Int32).toInt = -1 := rfl
              exact h (-1 : Int32) M hG F0 q2 q3 q4
            · refine to_in (pc := 20) rw_46_20 rfl (to_an (pc := 21) rw_46_21 rfl (s_gR (pc := 22) rw_46_22 hG (by rcases hp with rfl | rfl <;> rfl) (v := (p + 5)) (by rcases hp with rfl | rfl <;> rfl) (to_in (pc := 25) rw_46_25 rfl (s_ial (pc := 26) rw_46_26 hG (by rcases hp with rfl | rfl <;> rfl) (n := 8) (by rcases hp with rfl | rfl <;> rfl) (by rcases hp with rfl | rfl <;> rfl) (A := f.toInt) rfl (by omega) (by omega) (lo := 0) (hi := 24) (by rcases hp with rfl | rfl <;> rfl) (by rcases hp with rfl | rfl <;> rfl) (fun v16 w_17 _ _ => b_cge (pc := 27) rw_46_27 (A := v.toInt) (B := v16.toInt) rfl rfl (fun h18 => ?_) (fun h18 => ?_))))))
              · refine to_c (pc := 34) rw_46_34 (x := (0 : Int32)) rfl rfl (s_r1 (pc := 35) rw_46_35 (A := 0) rfl (by decide) (b_ine_f (pc := 17) rw_119_17 (A := 0) rfl (by decide) (to_c (pc := 20) rw_119_20 (x := (-1 : Int32)) rfl rfl (to_r0 (pc := 21) rw_119_21 ?_))))
                have k_19 : (-1 : Int32).toInt = -1 := rfl
                exact h (-1 : Int32) M hG F0 q2 q3 q4
              · refine to_c (pc := 30) rw_46_30 (x := (1 : Int32)) rfl rfl (to_go (pc := 31) rw_46_31 (s_r1 (pc := 35) rw_46_35 (A := 1) rfl (by decide) (b_ine_t (pc := 17) rw_119_17 (A := 1) rfl (by decide) (to_an (pc := 22) rw_119_22 rfl (s_gR (pc := 23) rw_119_23 hG rfl (v := 6) rfl (to_c (pc := 26) rw_119_26 (x := (0 : Int32)) rfl rfl (to_in (pc := 27) rw_119_27 rfl (to_in (pc := 28) rw_119_28 rfl (to_in (pc := 29) rw_119_29 rfl (s_v (pc := 30) rw_119_30 (dp0 hd (by decide)) (ls0 := [.ref 6, .int (0 : Int32), .int c, .int f, .int v]) rfl (Nat.le_of_ble_eq_true rfl) (Nat.le_of_ble_eq_true rfl) rfl (to_rc rfl rfl rfl (g_o hG rfl)) rfl ?_))))))))))
                have k_20 : (0 : Int32).toInt = 0 := rfl
                have b_21 := g_b hG (a := 6) (i := 0) (lo := 0) (hi := 150) rfl rfl
                refine C_20 hX (dp1 hd (by decide)) hG (by omega) (by omega) (by omega) (by omega) (by omega) q2 (k := (0 : Int32)) (f := c) (s := f) (t := v) (fun r22 M28 hG24 F23 p_25 p_26 p_27 => ?_)
                have F29 := FR.c F0 F23 tg_103
                have b_30 := g_b hG24 (a := 6) (i := 0) (lo := 0) (hi := 150) rfl rfl
                refine to_r0 (pc := 33) rw_119_33 ?_
                have j_31 := (PI_f (tg_96 F23) q3)
                have j_32 := (QI_f (tg_97 F23) q4)
                exact h r22 M28 hG24 F29 p_27 j_31 j_32
          · refine to_c (pc := 10) rw_45_10 (x := (1 : Int32)) rfl rfl (to_go (pc := 11) rw_45_11 (s_r1 (pc := 15) rw_45_15 (A := 1) rfl (by decide) (b_ine_t (pc := 13) rw_46_13 (A := 1) rfl (by decide) (to_c (pc := 34) rw_46_34 (x := (0 : Int32)) rfl rfl (s_r1 (pc := 35) rw_46_35 (A := 0) rfl (by decide) (b_ine_f (pc := 17) rw_119_17 (A := 0) rfl (by decide) (to_c (pc := 20) rw_119_20 (x := (-1 : Int32)) rfl rfl (to_r0 (pc := 21) rw_119_21 ?_))))))))
            have k_33 : (-1 : Int32).toInt = -1 := rfl
            exact h (-1 : Int32) M hG F0 q2 q3 q4
set_option maxRecDepth 4000 in
set_option maxHeartbeats 0 in
theorem C_120 {X : mm_X} {d : Nat} {M : mm_M} {Q : Option Value → mm_M → Prop} {c : Int32} {w : Int32} {p : Nat} {pz : Nat} {q : Nat} {qz : Nat} (hX : g_X X) (hd : 1 ≤ d) (hG : g_G M) (hp : p = 49 ∨ p = 58) (hpz : pz = 49 ∨ pz = 58) (hq : q = 67 ∨ q = 72) (hqz : qz = 67 ∨ qz = 72) (q1 : g_PQ M p pz q qz) (q2 : NI M) (q3 : PI M) (q4 : QI M) (h : ∀ (r : Int32) (M1 : mm_M), g_G M1 → FR md_n M M1 → NI M1 → PI M1 → QI M1 → Q (some (.int r)) M1) : mm_T X d 120 0 [.ref 0, .int c, .int w] [] M Q := by
  have F0 : FR md_n M M := FR.rf
  refine to_an (pc := 0) rw_120_0 rfl (to_in (pc := 1) rw_120_1 rfl (s_v (pc := 2) rw_120_2 (dp0 hd (by decide)) (ls0 := [.ref 0, .int c]) rfl (Nat.le_of_ble_eq_true rfl) (Nat.le_of_ble_eq_true rfl) rfl (to_rc rfl rfl rfl (g_o hG rfl)) rfl (to_in (pc := 0) rw_140_0 rfl (b_ilt (pc := 1) rw_140_1 (A := c.toInt) rfl (fun h1 => ?_) (fun h1 => ?_)))))
  · refine to_c (pc := 16) rw_140_16 (x := (0 : Int32)) rfl rfl (s_r1 (pc := 17) rw_140_17 (A := 0) rfl (by decide) (b_ieq_t (pc := 5) rw_120_5 (A := 0) rfl (by decide) (to_c (pc := 19) rw_120_19 (x := (-1 : Int32)) rfl rfl (to_r0 (pc := 20) rw_120_20 ?_))))
    have k_2 : (-1 : Int32).toInt = -1 := rfl
    exact h (-1 : Int32) M hG F0 q2 q3 q4
  · refine to_in (pc := 4) rw_140_4 rfl (to_an (pc := 5) rw_140_5 rfl ?_)
    have b_3 := g_b hG (a := 0) (i := 12) (lo := 0) (hi := 30) rfl rfl
    refine tt_gI (pc := 6) rw_140_6 (g_o hG rfl) (v := (M.2.1 0 12)) rfl (b_cge (pc := 9) rw_140_9 (A := c.toInt) (B := (M.2.1 0 12).toInt) rfl rfl (fun h4 => ?_) (fun h4 => ?_))
    · refine to_c (pc := 16) rw_140_16 (x := (0 : Int32)) rfl rfl (s_r1 (pc := 17) rw_140_17 (A := 0) rfl (by decide) (b_ieq_t (pc := 5) rw_120_5 (A := 0) rfl (by decide) (to_c (pc := 19) rw_120_19 (x := (-1 : Int32)) rfl rfl (to_r0 (pc := 20) rw_120_20 ?_))))
      have k_5 : (-1 : Int32).toInt = -1 := rfl
      exact h (-1 : Int32) M hG F0 q2 q3 q4
    · refine to_c (pc := 12) rw_140_12 (x := (1 : Int32)) rfl rfl (to_go (pc := 13) rw_140_13 (s_r1 (pc := 17) rw_140_17 (A := 1) rfl (by decide) (b_ieq_f (pc := 5) rw_120_5 (A := 1) rfl (by decide) (to_an (pc := 8) rw_120_8 rfl (tt_gR (pc := 9) rw_120_9 (g_o hG rfl) q1.1 (to_in (pc := 12) rw_120_12 rfl (s_v (pc := 13) rw_120_13 (dp0 hd (by decide)) (ls0 := [.ref p, .int w]) rfl (Nat.le_of_ble_eq_true rfl) (Nat.le_of_ble_eq_true rfl) rfl (to_rc rfl rfl rfl (g_o hG (by rcases hp with rfl | rfl <;> rfl))) rfl (to_in (pc := 0) rw_44_0 rfl (b_ilt (pc := 1) rw_44_1 (A := w.toInt) rfl (fun h6 => ?_) (fun h6 => ?_))))))))))
      · refine to_c (pc := 16) rw_44_16 (x := (0 : Int32)) rfl rfl (s_r1 (pc := 17) rw_44_17 (A := 0) rfl (by decide) (b_ine_f (pc := 16) rw_120_16 (A := 0) rfl (by decide) (to_c (pc := 19) rw_120_19 (x := (-1 : Int32)) rfl rfl (to_r0 (pc := 20) rw_120_20 ?_))))
        have k_7 : (-1 : Int32).toInt = -1 := rfl
        exact h (-1 : Int32) M hG F0 q2 q3 q4
      · refine to_in (pc := 4) rw_44_4 rfl (to_an (pc := 5) rw_44_5 rfl ?_)
        have b_8 := g_b hG (a := p) (i := 3) (lo := 0) (hi := 12) (by rcases hp with rfl | rfl <;> rfl) (by rcases hp with rfl | rfl <;> rfl)
        refine tt_gI (pc := 6) rw_44_6 (g_o hG (by rcases hp with rfl | rfl <;> rfl)) (v := (M.2.1 p 3)) rfl (b_cge (pc := 9) rw_44_9 (A := w.toInt) (B := (M.2.1 p 3).toInt) rfl rfl (fun h9 => ?_) (fun h9 => ?_))
        · refine to_c (pc := 16) rw_44_16 (x := (0 : Int32)) rfl rfl (s_r1 (pc := 17) rw_44_17 (A := 0) rfl (by decide) (b_ine_f (pc := 16) rw_120_16 (A := 0) rfl (by decide) (to_c (pc := 19) rw_120_19 (x := (-1 : Int32)) rfl rfl (to_r0 (pc := 20) rw_120_20 ?_))))
          have k_10 : (-1 : Int32).toInt = -1 := rfl
          exact h (-1 : Int32) M hG F0 q2 q3 q4
        · refine to_c (pc := 12) rw_44_12 (x := (1 : Int32)) rfl rfl (to_go (pc := 13) rw_44_13 (s_r1 (pc := 17) rw_44_17 (A := 1) rfl (by decide) (b_ine_t (pc := 16) rw_120_16 (A := 1) rfl (by decide) (to_an (pc := 21) rw_120_21 rfl (s_gR (pc := 22) rw_120_22 hG rfl (v := 6) rfl (to_c (pc := 25) rw_120_25 (x := (1 : Int32)) rfl rfl (to_in (pc := 26) rw_120_26 rfl (to_in (pc := 27) rw_120_27 rfl (to_c (pc := 28) rw_120_28 (x := (0 : Int32)) rfl rfl (s_v (pc := 29) rw_120_29 (dp0 hd (by decide)) (ls0 := [.ref 6, .int (1 : Int32), .int c, .int w, .int (0 : Int32)]) rfl (Nat.le_of_ble_eq_true rfl) (Nat.le_of_ble_eq_true rfl) rfl (to_rc rfl rfl rfl (g_o hG rfl)) rfl ?_))))))))))
          have k_11 : (1 : Int32).toInt = 1 := rfl
          have k_12 : (0 : Int32).toInt = 0 := rfl
          have b_13 := g_b hG (a := 6) (i := 0) (lo := 0) (hi := 150) rfl rfl
          refine C_20 hX (dp1 hd (by decide)) hG (by omega) (by omega) (by omega) (by omega) (by omega) q2 (k := (1 : Int32)) (f := c) (s := w) (t := (0 : Int32)) (fun r14 M20 hG16 F15 p_17 p_18 p_19 => ?_)
          have F21 := FR.c F0 F15 tg_103
          have b_22 := g_b hG16 (a := 6) (i := 0) (lo := 0) (hi := 150) rfl rfl
          refine to_r0 (pc := 32) rw_120_32 ?_
          have j_23 := (PI_f (tg_96 F15) q3)
          have j_24 := (QI_f (tg_97 F15) q4)
          exact h r14 M20 hG16 F21 p_19 j_23 j_24
set_option maxRecDepth 4000 in
set_option maxHeartbeats 0 in
theorem C_121 {X : mm_X} {d : Nat} {M : mm_M} {Q : Option Value → mm_M → Prop} {c : Int32} {e : Int32} {m : Int32} {p : Nat} {pz : Nat} {q : Nat} {qz : Nat} (hX : g_X X) (hd : 1 ≤ d) (hG : g_G M) (hp : p = 49 ∨ p = 58) (hpz : pz = 49 ∨ pz = 58) (hq : q = 67 ∨ q = 72) (hqz : qz = 67 ∨ qz = 72) (q1 : g_PQ M p pz q qz) (q2 : 0 ≤ m.toInt) (q3 : m.toInt ≤ 1) (q4 : NI M) (q5 : PI M) (q6 : QI M) (h : ∀ (r : Int32) (M1 : mm_M), g_G M1 → FR md_n M M1 → NI M1 → PI M1 → QI M1 → Q (some (.int r)) M1) : mm_T X d 121 0 [.ref 0, .int c, .int e, .int m] [] M Q := by
  have F0 : FR md_n M M := FR.rf
  refine to_an (pc := 0) rw_121_0 rfl (to_in (pc := 1) rw_121_1 rfl (s_v (pc := 2) rw_121_2 (dp0 hd (by decide)) (ls0 := [.ref 0, .int c]) rfl (Nat.le_of_ble_eq_true rfl) (Nat.le_of_ble_eq_true rfl) rfl (to_rc rfl rfl rfl (g_o hG rfl)) rfl (to_in (pc := 0) rw_140_0 rfl (b_ilt (pc := 1) rw_140_1 (A := c.toInt) rfl (fun h1 => ?_) (fun h1 => ?_)))))
  · refine to_c (pc := 16) rw_140_16 (x := (0 : Int32)) rfl rfl (s_r1 (pc := 17) rw_140_17 (A := 0) rfl (by decide) (b_ieq_t (pc := 5) rw_121_5 (A := 0) rfl (by decide) (to_c (pc := 23) rw_121_23 (x := (-1 : Int32)) rfl rfl (to_r0 (pc := 24) rw_121_24 ?_))))
    have k_2 : (-1 : Int32).toInt = -1 := rfl
    exact h (-1 : Int32) M hG F0 q4 q5 q6
  · refine to_in (pc := 4) rw_140_4 rfl (to_an (pc := 5) rw_140_5 rfl ?_)
    have b_3 := g_b hG (a := 0) (i := 12) (lo := 0) (hi := 30) rfl rfl
    refine tt_gI (pc := 6) rw_140_6 (g_o hG rfl) (v := (M.2.1 0 12)) rfl (b_cge (pc := 9) rw_140_9 (A := c.toInt) (B := (M.2.1 0 12).toInt) rfl rfl (fun h4 => ?_) (fun h4 => ?_))
    · refine to_c (pc := 16) rw_140_16 (x := (0 : Int32)) rfl rfl (s_r1 (pc := 17) rw_140_17 (A := 0) rfl (by decide) (b_ieq_t (pc := 5) rw_121_5 (A := 0) rfl (by decide) (to_c (pc := 23) rw_121_23 (x := (-1 : Int32)) rfl rfl (to_r0 (pc := 24) rw_121_24 ?_))))
      have k_5 : (-1 : Int32).toInt = -1 := rfl
      exact h (-1 : Int32) M hG F0 q4 q5 q6
    · refine to_c (pc := 12) rw_140_12 (x := (1 : Int32)) rfl rfl (to_go (pc := 13) rw_140_13 (s_r1 (pc := 17) rw_140_17 (A := 1) rfl (by decide) (b_ieq_f (pc := 5) rw_121_5 (A := 1) rfl (by decide) (to_in (pc := 8) rw_121_8 rfl (b_ilt (pc := 9) rw_121_9 (A := e.toInt) rfl (fun h6 => ?_) (fun h6 => ?_))))))
      · refine to_c (pc := 23) rw_121_23 (x := (-1 : Int32)) rfl rfl (to_r0 (pc := 24) rw_121_24 ?_)
        have k_7 : (-1 : Int32).toInt = -1 := rfl
        exact h (-1 : Int32) M hG F0 q4 q5 q6
      · refine to_in (pc := 12) rw_121_12 rfl (to_an (pc := 13) rw_121_13 rfl (tt_gR (pc := 14) rw_121_14 (g_o hG rfl) q1.1 ?_))
        have b_8 := g_b hG (a := p) (i := 0) (lo := 10) (hi := 60) (by rcases hp with rfl | rfl <;> rfl) (by rcases hp with rfl | rfl <;> rfl)
        refine tt_gI (pc := 17) rw_121_17 (g_o hG (by rcases hp with rfl | rfl <;> rfl)) (v := (M.2.1 p 0)) rfl (b_clt (pc := 20) rw_121_20 (A := e.toInt) (B := (M.2.1 p 0).toInt) rfl rfl (fun h9 => ?_) (fun h9 => ?_))
        · refine to_an (pc := 25) rw_121_25 rfl (s_gR (pc := 26) rw_121_26 hG rfl (v := 6) rfl (to_in (pc := 29) rw_121_29 rfl (b_ieq (pc := 30) rw_121_30 (A := m.toInt) rfl (fun h10 => ?_) (fun h10 => ?_))))
          · refine to_c (pc := 37) rw_121_37 (x := (2 : Int32)) rfl rfl (to_in (pc := 38) rw_121_38 rfl (to_in (pc := 39) rw_121_39 rfl (to_c (pc := 40) rw_121_40 (x := (0 : Int32)) rfl rfl (s_v (pc := 41) rw_121_41 (dp0 hd (by decide)) (ls0 := [.ref 6, .int (2 : Int32), .int c, .int e, .int (0 : Int32)]) rfl (Nat.le_of_ble_eq_true rfl) (Nat.le_of_ble_eq_true rfl) rfl (to_rc rfl rfl rfl (g_o hG rfl)) rfl ?_))))
            have k_11 : (2 : Int32).toInt = 2 := rfl
            have k_12 : (0 : Int32).toInt = 0 := rfl
            have b_13 := g_b hG (a := 6) (i := 0) (lo := 0) (hi := 150) rfl rfl
            refine C_20 hX (dp1 hd (by decide)) hG (by omega) (by omega) (by omega) (by omega) (by omega) q4 (k := (2 : Int32)) (f := c) (s := e) (t := (0 : Int32)) (fun r14 M20 hG16 F15 p_17 p_18 p_19 => ?_)
            have F21 := FR.c F0 F15 tg_103
            have b_22 := g_b hG16 (a := 6) (i := 0) (lo := 0) (hi := 150) rfl rfl
            refine to_r0 (pc := 44) rw_121_44 ?_
            have j_23 := (PI_f (tg_96 F15) q5)
            have j_24 := (QI_f (tg_97 F15) q6)
            exact h r14 M20 hG16 F21 p_19 j_23 j_24
          · refine to_c (pc := 33) rw_121_33 (x := (3 : Int32)) rfl rfl (to_go (pc := 34) rw_121_34 (to_in (pc := 38) rw_121_38 rfl (to_in (pc := 39) rw_121_39 rfl (to_c (pc := 40) rw_121_40 (x := (0 : Int32)) rfl rfl (s_v (pc := 41) rw_121_41 (dp0 hd (by decide)) (ls0 := [.ref 6, .int (3 : Int32), .int c, .int e, .int (0 : Int32)]) rfl (Nat.le_of_ble_eq_true rfl) (Nat.le_of_ble_eq_true rfl) rfl (to_rc rfl rfl rfl (g_o hG rfl)) rfl ?_)))))
            have k_25 : (3 : Int32).toInt = 3 := rfl
            have k_26 : (0 : Int32).toInt = 0 := rfl
            have b_27 := g_b hG (a := 6) (i := 0) (lo := 0) (hi := 150) rfl rfl
            refine C_20 hX (dp1 hd (by decide)) hG (by omega) (by omega) (by omega) (by omega) (by omega) q4 (k := (3 : Int32)) (f := c) (s := e) (t := (0 : Int32)) (fun r28 M34 hG30 F29 p_31 p_32 p_33 => ?_)
            have F35 := FR.c F0 F29 tg_103
            have b_36 := g_b hG30 (a := 6) (i := 0) (lo := 0) (hi := 150) rfl rfl
            refine to_r0 (pc := 44) rw_121_44 ?_
            have j_37 := (PI_f (tg_96 F29) q5)
            have j_38 := (QI_f (tg_97 F29) q6)
            exact h r28 M34 hG30 F35 p_33 j_37 j_38
        · refine to_c (pc := 23) rw_121_23 (x := (-1 : Int32)) rfl rfl (to_r0 (pc := 24) rw_121_24 ?_)
          have k_39 : (-1 : Int32).toInt = -1 := rfl
          exact h (-1 : Int32) M hG F0 q4 q5 q6
set_option maxRecDepth 4000 in
set_option maxHeartbeats 0 in
theorem C_122 {X : mm_X} {d : Nat} {M : mm_M} {Q : Option Value → mm_M → Prop} {w : Int32} {b : Int32} {p : Nat} {pz : Nat} {q : Nat} {qz : Nat} (hX : g_X X) (hd : 2 ≤ d) (hG : g_G M) (hp : p = 49 ∨ p = 58) (hpz : pz = 49 ∨ pz = 58) (hq : q = 67 ∨ q = 72) (hqz : qz = 67 ∨ qz = 72) (q1 : g_PQ M p pz q qz) (q2 : NI M) (q3 : PI M) (q4 : QI M) (h : ∀ (r : Int32) (M1 : mm_M), g_G M1 → FR md_n M M1 → NI M1 → PI M1 → QI M1 → Q (some (.int r)) M1) : mm_T X d 122 0 [.ref 0, .int w, .int b] [] M Q := by
  have F0 : FR md_n M M := FR.rf
  refine to_an (pc := 0) rw_122_0 rfl (tt_gR (pc := 1) rw_122_1 (g_o hG rfl) q1.1 (to_in (pc := 4) rw_122_4 rfl (s_v (pc := 5) rw_122_5 (dp0 hd (by decide)) (ls0 := [.ref p, .int w]) rfl (Nat.le_of_ble_eq_true rfl) (Nat.le_of_ble_eq_true rfl) rfl (to_rc rfl rfl rfl (g_o hG (by rcases hp with rfl | rfl <;> rfl))) rfl (to_in (pc := 0) rw_44_0 rfl (b_ilt (pc := 1) rw_44_1 (A := w.toInt) rfl (fun h1 => ?_) (fun h1 => ?_))))))
  · refine to_c (pc := 16) rw_44_16 (x := (0 : Int32)) rfl rfl (s_r1 (pc := 17) rw_44_17 (A := 0) rfl (by decide) (b_ieq_t (pc := 8) rw_122_8 (A := 0) rfl (by decide) (to_c (pc := 23) rw_122_23 (x := (-1 : Int32)) rfl rfl (to_r0 (pc := 24) rw_122_24 ?_))))
    have k_2 : (-1 : Int32).toInt = -1 := rfl
    exact h (-1 : Int32) M hG F0 q2 q3 q4
  · refine to_in (pc := 4) rw_44_4 rfl (to_an (pc := 5) rw_44_5 rfl ?_)
    have b_3 := g_b hG (a := p) (i := 3) (lo := 0) (hi := 12) (by rcases hp with rfl | rfl <;> rfl) (by rcases hp with rfl | rfl <;> rfl)
    refine tt_gI (pc := 6) rw_44_6 (g_o hG (by rcases hp with rfl | rfl <;> rfl)) (v := (M.2.1 p 3)) rfl (b_cge (pc := 9) rw_44_9 (A := w.toInt) (B := (M.2.1 p 3).toInt) rfl rfl (fun h4 => ?_) (fun h4 => ?_))
    · refine to_c (pc := 16) rw_44_16 (x := (0 : Int32)) rfl rfl (s_r1 (pc := 17) rw_44_17 (A := 0) rfl (by decide) (b_ieq_t (pc := 8) rw_122_8 (A := 0) rfl (by decide) (to_c (pc := 23) rw_122_23 (x := (-1 : Int32)) rfl rfl (to_r0 (pc := 24) rw_122_24 ?_))))
      have k_5 : (-1 : Int32).toInt = -1 := rfl
      exact h (-1 : Int32) M hG F0 q2 q3 q4
    · refine to_c (pc := 12) rw_44_12 (x := (1 : Int32)) rfl rfl (to_go (pc := 13) rw_44_13 (s_r1 (pc := 17) rw_44_17 (A := 1) rfl (by decide) (b_ieq_f (pc := 8) rw_122_8 (A := 1) rfl (by decide) (to_an (pc := 11) rw_122_11 rfl (tt_gR (pc := 12) rw_122_12 (g_o hG rfl) q1.1 (to_in (pc := 15) rw_122_15 rfl (to_in (pc := 16) rw_122_16 rfl (s_v (pc := 17) rw_122_17 (dp0 hd (by decide)) (ls0 := [.ref p, .int w, .int b, .null]) rfl (Nat.le_of_ble_eq_true rfl) (Nat.le_of_ble_eq_true rfl) rfl (to_rc rfl rfl rfl (g_o hG (by rcases hp with rfl | rfl <;> rfl))) rfl (C_50 hX (dp1 hd (by decide)) hG hp (by omega) (by omega) (p := p) (w := w) (b := b) (fun r6 M11 hG8 F7 p_9 p_10 => ?_))))))))))
      have F12 := FR.c F0 F7 tg_104
      refine b_ine (pc := 20) rw_122_20 (A := r6.toInt) rfl (fun h13 => ?_) (fun h13 => ?_)
      · refine to_an (pc := 25) rw_122_25 rfl (s_gR (pc := 26) rw_122_26 hG8 rfl (v := 6) rfl (to_c (pc := 29) rw_122_29 (x := (4 : Int32)) rfl rfl (to_in (pc := 30) rw_122_30 rfl (to_in (pc := 31) rw_122_31 rfl (to_c (pc := 32) rw_122_32 (x := (0 : Int32)) rfl rfl (s_v (pc := 33) rw_122_33 (dp0 hd (by decide)) (ls0 := [.ref 6, .int (4 : Int32), .int w, .int b, .int (0 : Int32)]) rfl (Nat.le_of_ble_eq_true rfl) (Nat.le_of_ble_eq_true rfl) rfl (to_rc rfl rfl rfl (g_o hG8 rfl)) rfl ?_))))))
        have k_14 : (4 : Int32).toInt = 4 := rfl
        have k_15 : (0 : Int32).toInt = 0 := rfl
        have c_16 : M11.2.1 6 0 = (M.2.1 6 0) := (F_n F7 (show ¬ (6 < 0) by decide) rfl)
        have b_17 := g_b hG (a := 6) (i := 0) (lo := 0) (hi := 150) rfl rfl
        have t_18 : (M11.2.1 6 0).toInt = (M.2.1 6 0).toInt := congrArg Int32.toInt c_16
        have j_19 := (NI_f (tg_98 F7) q2)
        refine C_20 hX (dp1 hd (by decide)) hG8 (by omega) (by omega) (by omega) (by omega) (by omega) j_19 (k := (4 : Int32)) (f := w) (s := b) (t := (0 : Int32)) (fun r20 M26 hG22 F21 p_23 p_24 p_25 => ?_)
        have F27 := FR.c F12 F21 tg_103
        have b_28 := g_b hG22 (a := 6) (i := 0) (lo := 0) (hi := 150) rfl rfl
        refine to_r0 (pc := 36) rw_122_36 ?_
        have j_29 := (PI_f (tg_96 F21) (PI_f (tg_99 F7) q3))
        have j_30 := (QI_f (tg_97 F21) (QI_f (tg_100 F7) q4))
        exact h r20 M26 hG22 F27 p_25 j_29 j_30
      · refine to_c (pc := 23) rw_122_23 (x := (-1 : Int32)) rfl rfl (to_r0 (pc := 24) rw_122_24 ?_)
        have k_31 : (-1 : Int32).toInt = -1 := rfl
        have j_32 := (NI_f (tg_98 F7) q2)
        have j_33 := (PI_f (tg_99 F7) q3)
        have j_34 := (QI_f (tg_100 F7) q4)
        exact h (-1 : Int32) M11 hG8 F12 j_32 j_33 j_34
set_option maxRecDepth 4000 in
set_option maxHeartbeats 0 in
theorem C_123 {X : mm_X} {d : Nat} {M : mm_M} {Q : Option Value → mm_M → Prop} {n : Int32} {p : Nat} {pz : Nat} {q : Nat} {qz : Nat} (hX : g_X X) (hd : 1 ≤ d) (hG : g_G M) (hp : p = 49 ∨ p = 58) (hpz : pz = 49 ∨ pz = 58) (hq : q = 67 ∨ q = 72) (hqz : qz = 67 ∨ qz = 72) (q1 : g_PQ M p pz q qz) (q2 : NI M) (q3 : PI M) (q4 : QI M) (h : ∀ (r : Int32) (M1 : mm_M), g_G M1 → FR md_n M M1 → NI M1 → PI M1 → QI M1 → Q (some (.int r)) M1) : mm_T X d 123 0 [.ref 0, .int n] [] M Q := by
  have F0 : FR md_n M M := FR.rf
  refine to_in (pc := 0) rw_123_0 rfl (b_ilt (pc := 1) rw_123_1 (A := n.toInt) rfl (fun h1 => ?_) (fun h1 => ?_))
  · refine to_c (pc := 15) rw_123_15 (x := (-1 : Int32)) rfl rfl (to_r0 (pc := 16) rw_123_16 ?_)
    have k_2 : (-1 : Int32).toInt = -1 := rfl
    exact h (-1 : Int32) M hG F0 q2 q3 q4
  · refine to_in (pc := 4) rw_123_4 rfl (to_an (pc := 5) rw_123_5 rfl (s_gR (pc := 6) rw_123_6 hG rfl (v := 6) rfl ?_))
    have b_3 := g_b hG (a := 6) (i := 0) (lo := 0) (hi := 150) rfl rfl
    refine tt_gI (pc := 9) rw_123_9 (g_o hG rfl) (v := (M.2.1 6 0)) rfl (b_clt (pc := 12) rw_123_12 (A := n.toInt) (B := (M.2.1 6 0).toInt) rfl rfl (fun h4 => ?_) (fun h4 => ?_))
    · refine to_an (pc := 17) rw_123_17 rfl (s_gR (pc := 18) rw_123_18 hG rfl (v := 6) rfl (to_c (pc := 21) rw_123_21 (x := (5 : Int32)) rfl rfl (to_in (pc := 22) rw_123_22 rfl (to_c (pc := 23) rw_123_23 (x := (0 : Int32)) rfl rfl (to_c (pc := 24) rw_123_24 (x := (0 : Int32)) rfl rfl (s_v (pc := 25) rw_123_25 (dp0 hd (by decide)) (ls0 := [.ref 6, .int (5 : Int32), .int n, .int (0 : Int32), .int (0 : Int32)]) rfl (Nat.le_of_ble_eq_true rfl) (Nat.le_of_ble_eq_true rfl) rfl (to_rc rfl rfl rfl (g_o hG rfl)) rfl ?_))))))
      have k_5 : (5 : Int32).toInt = 5 := rfl
      have k_6 : (0 : Int32).toInt = 0 := rfl
      refine C_20 hX (dp1 hd (by decide)) hG (by omega) (by omega) (by omega) (by omega) (by omega) q2 (k := (5 : Int32)) (f := n) (s := (0 : Int32)) (t := (0 : Int32)) (fun r7 M13 hG9 F8 p_10 p_11 p_12 => ?_)
      have F14 := FR.c F0 F8 tg_103
      have b_15 := g_b hG9 (a := 6) (i := 0) (lo := 0) (hi := 150) rfl rfl
      refine to_r0 (pc := 28) rw_123_28 ?_
      have j_16 := (PI_f (tg_96 F8) q3)
      have j_17 := (QI_f (tg_97 F8) q4)
      exact h r7 M13 hG9 F14 p_12 j_16 j_17
    · refine to_c (pc := 15) rw_123_15 (x := (-1 : Int32)) rfl rfl (to_r0 (pc := 16) rw_123_16 ?_)
      have k_18 : (-1 : Int32).toInt = -1 := rfl
      exact h (-1 : Int32) M hG F0 q2 q3 q4
set_option maxRecDepth 4000 in
set_option maxHeartbeats 0 in
theorem C_124 {X : mm_X} {d : Nat} {M : mm_M} {Q : Option Value → mm_M → Prop} {n : Int32} {c : Int32} {p : Nat} {pz : Nat} {q : Nat} {qz : Nat} (hX : g_X X) (hd : 6 ≤ d) (hG : g_G M) (hp : p = 49 ∨ p = 58) (hpz : pz = 49 ∨ pz = 58) (hq : q = 67 ∨ q = 72) (hqz : qz = 67 ∨ qz = 72) (q1 : g_PQ M p pz q qz) (q2 : NI M) (q3 : PI M) (q4 : QI M) (h : ∀ (r : Int64) (M1 : mm_M), g_G M1 → FR md_y M M1 → PI M1 → NI M1 → QI M1 → Q (some (.long r)) M1) : mm_T X d 124 0 [.ref 0, .int n, .int c] [] M Q := by
  have F0 : FR md_y M M := FR.rf
  refine to_an (pc := 0) rw_124_0 rfl (to_in (pc := 1) rw_124_1 rfl (s_v (pc := 2) rw_124_2 (dp0 hd (by decide)) (ls0 := [.ref 0, .int n]) rfl (Nat.le_of_ble_eq_true rfl) (Nat.le_of_ble_eq_true rfl) rfl (to_rc rfl rfl rfl (g_o hG rfl)) rfl (to_in (pc := 0) rw_139_0 rfl (b_ilt (pc := 1) rw_139_1 (A := n.toInt) rfl (fun h1 => ?_) (fun h1 => ?_)))))
  · refine to_c (pc := 19) rw_139_19 (x := (0 : Int32)) rfl rfl (s_r1 (pc := 20) rw_139_20 (A := 0) rfl (by decide) (b_ieq_t (pc := 5) rw_124_5 (A := 0) rfl (by decide) (s_cl (pc := 16) rw_124_16 rfl (fun l2 => to_rl (pc := 19) rw_124_19 ?_))))
    exact h l2 M hG F0 q3 q2 q4
  · refine to_in (pc := 4) rw_139_4 rfl (to_an (pc := 5) rw_139_5 rfl (s_gR (pc := 6) rw_139_6 hG rfl (v := 6) rfl ?_))
    have b_3 := g_b hG (a := 6) (i := 0) (lo := 0) (hi := 150) rfl rfl
    refine tt_gI (pc := 9) rw_139_9 (g_o hG rfl) (v := (M.2.1 6 0)) rfl (b_cgt (pc := 12) rw_139_12 (A := n.toInt) (B := (M.2.1 6 0).toInt) rfl rfl (fun h4 => ?_) (fun h4 => ?_))
    · refine to_c (pc := 19) rw_139_19 (x := (0 : Int32)) rfl rfl (s_r1 (pc := 20) rw_139_20 (A := 0) rfl (by decide) (b_ieq_t (pc := 5) rw_124_5 (A := 0) rfl (by decide) (s_cl (pc := 16) rw_124_16 rfl (fun l5 => to_rl (pc := 19) rw_124_19 ?_))))
      exact h l5 M hG F0 q3 q2 q4
    · refine to_c (pc := 15) rw_139_15 (x := (1 : Int32)) rfl rfl (to_go (pc := 16) rw_139_16 (s_r1 (pc := 20) rw_139_20 (A := 1) rfl (by decide) (b_ieq_f (pc := 5) rw_124_5 (A := 1) rfl (by decide) (to_an (pc := 8) rw_124_8 rfl (to_in (pc := 9) rw_124_9 rfl (s_v (pc := 10) rw_124_10 (dp0 hd (by decide)) (ls0 := [.ref 0, .int c]) rfl (Nat.le_of_ble_eq_true rfl) (Nat.le_of_ble_eq_true rfl) rfl (to_rc rfl rfl rfl (g_o hG rfl)) rfl (to_in (pc := 0) rw_140_0 rfl (b_ilt (pc := 1) rw_140_1 (A := c.toInt) rfl (fun h6 => ?_) (fun h6 => ?_)))))))))
      · refine to_c (pc := 16) rw_140_16 (x := (0 : Int32)) rfl rfl (s_r1 (pc := 17) rw_140_17 (A := 0) rfl (by decide) (b_ine_f (pc := 13) rw_124_13 (A := 0) rfl (by decide) (s_cl (pc := 16) rw_124_16 rfl (fun l7 => to_rl (pc := 19) rw_124_19 ?_))))
        exact h l7 M hG F0 q3 q2 q4
      · refine to_in (pc := 4) rw_140_4 rfl (to_an (pc := 5) rw_140_5 rfl ?_)
        have b_8 := g_b hG (a := 0) (i := 12) (lo := 0) (hi := 30) rfl rfl
        refine tt_gI (pc := 6) rw_140_6 (g_o hG rfl) (v := (M.2.1 0 12)) rfl (b_cge (pc := 9) rw_140_9 (A := c.toInt) (B := (M.2.1 0 12).toInt) rfl rfl (fun h9 => ?_) (fun h9 => ?_))
        · refine to_c (pc := 16) rw_140_16 (x := (0 : Int32)) rfl rfl (s_r1 (pc := 17) rw_140_17 (A := 0) rfl (by decide) (b_ine_f (pc := 13) rw_124_13 (A := 0) rfl (by decide) (s_cl (pc := 16) rw_124_16 rfl (fun l10 => to_rl (pc := 19) rw_124_19 ?_))))
          exact h l10 M hG F0 q3 q2 q4
        · refine to_c (pc := 12) rw_140_12 (x := (1 : Int32)) rfl rfl (to_go (pc := 13) rw_140_13 (s_r1 (pc := 17) rw_140_17 (A := 1) rfl (by decide) (b_ine_t (pc := 13) rw_124_13 (A := 1) rfl (by decide) (to_an (pc := 20) rw_124_20 rfl (to_in (pc := 21) rw_124_21 rfl (s_v (pc := 22) rw_124_22 (dp0 hd (by decide)) (ls0 := [.ref 0, .int n]) rfl (Nat.le_of_ble_eq_true rfl) (Nat.le_of_ble_eq_true rfl) rfl (to_rc rfl rfl rfl (g_o hG rfl)) rfl (to_an (pc := 0) rw_141_0 rfl (s_gR (pc := 1) rw_141_1 hG rfl (v := 11) rfl (to_an (pc := 4) rw_141_4 rfl (tt_gR (pc := 5) rw_141_5 (g_o hG rfl) q1.1 (to_an (pc := 8) rw_141_8 rfl ?_)))))))))))
          refine s_gR (pc := 9) rw_141_9 hG rfl (v := 6) rfl (to_in (pc := 12) rw_141_12 rfl (s_v (pc := 13) rw_141_13 (dp1 hd (by decide)) (ls0 := [.ref 11, .ref p, .ref 6, .int n, .null]) rfl (Nat.le_of_ble_eq_true rfl) (Nat.le_of_ble_eq_true rfl) rfl (to_rc rfl rfl rfl (g_o hG rfl)) rfl (C_8 hX (dp2 hd (by decide)) hG hp (by omega) (by omega) q2 (p := p) (n := n) (fun M13 hG12 F11 => ?_))))
          have F14 := FR.c F0 F11 tg_190
          refine to_rv (pc := 16) rw_141_16 (to_an (pc := 25) rw_124_25 rfl (s_gR (pc := 26) rw_124_26 hG12 rfl (v := 11) rfl (s_gR (pc := 29) rw_124_29 hG12 rfl (v := 12) rfl (to_in (pc := 32) rw_124_32 rfl (s_lal (pc := 33) rw_124_33 hG12 rfl (n := 30) rfl (A := c.toInt) rfl (by omega) (by omega) (fun l15 => to_rl (pc := 34) rw_124_34 ?_))))))
          have j_16 := (PI_f (tg_169 F11) q3)
          have j_17 := (NI_f (tg_122 F11) q2)
          have j_18 := (QI_f (tg_176 F11) q4)
          exact h l15 M13 hG12 F14 j_16 j_17 j_18
set_option maxRecDepth 4000 in
set_option maxHeartbeats 0 in
theorem C_125 {X : mm_X} {d : Nat} {M : mm_M} {Q : Option Value → mm_M → Prop} {n : Int32} {c : Int32} {f : Int32} {p : Nat} {pz : Nat} {q : Nat} {qz : Nat} (hX : g_X X) (hd : 6 ≤ d) (hG : g_G M) (hp : p = 49 ∨ p = 58) (hpz : pz = 49 ∨ pz = 58) (hq : q = 67 ∨ q = 72) (hqz : qz = 67 ∨ qz = 72) (q1 : g_PQ M p pz q qz) (q2 : NI M) (q3 : PI M) (q4 : QI M) (h : ∀ (r : Int32) (M1 : mm_M), g_G M1 → FR md_y M M1 → PI M1 → NI M1 → QI M1 → Q (some (.int r)) M1) : mm_T X d 125 0 [.ref 0, .int n, .int c, .int f] [] M Q := by
  have F0 : FR md_y M M := FR.rf
  refine to_an (pc := 0) rw_125_0 rfl (to_in (pc := 1) rw_125_1 rfl (s_v (pc := 2) rw_125_2 (dp0 hd (by decide)) (ls0 := [.ref 0, .int n]) rfl (Nat.le_of_ble_eq_true rfl) (Nat.le_of_ble_eq_true rfl) rfl (to_rc rfl rfl rfl (g_o hG rfl)) rfl (to_in (pc := 0) rw_139_0 rfl (b_ilt (pc := 1) rw_139_1 (A := n.toInt) rfl (fun h1 => ?_) (fun h1 => ?_)))))
  · refine to_c (pc := 19) rw_139_19 (x := (0 : Int32)) rfl rfl (s_r1 (pc := 20) rw_139_20 (A := 0) rfl (by decide) (b_ieq_t (pc := 5) rw_125_5 (A := 0) rfl (by decide) (to_c (pc := 27) rw_125_27 (x := (-2 : Int32)) rfl rfl (to_r0 (pc := 29) rw_125_29 ?_))))
    have k_2 : (-2 : Int32).toInt = -2 := rfl
    exact h (-2 : Int32) M hG F0 q3 q2 q4
  · refine to_in (pc := 4) rw_139_4 rfl (to_an (pc := 5) rw_139_5 rfl (s_gR (pc := 6) rw_139_6 hG rfl (v := 6) rfl ?_))
    have b_3 := g_b hG (a := 6) (i := 0) (lo := 0) (hi := 150) rfl rfl
    refine tt_gI (pc := 9) rw_139_9 (g_o hG rfl) (v := (M.2.1 6 0)) rfl (b_cgt (pc := 12) rw_139_12 (A := n.toInt) (B := (M.2.1 6 0).toInt) rfl rfl (fun h4 => ?_) (fun h4 => ?_))
    · refine to_c (pc := 19) rw_139_19 (x := (0 : Int32)) rfl rfl (s_r1 (pc := 20) rw_139_20 (A := 0) rfl (by decide) (b_ieq_t (pc := 5) rw_125_5 (A := 0) rfl (by decide) (to_c (pc := 27) rw_125_27 (x := (-2 : Int32)) rfl rfl (to_r0 (pc := 29) rw_125_29 ?_))))
      have k_5 : (-2 : Int32).toInt = -2 := rfl
      exact h (-2 : Int32) M hG F0 q3 q2 q4
    · refine to_c (pc := 15) rw_139_15 (x := (1 : Int32)) rfl rfl (to_go (pc := 16) rw_139_16 (s_r1 (pc := 20) rw_139_20 (A := 1) rfl (by decide) (b_ieq_f (pc := 5) rw_125_5 (A := 1) rfl (by decide) (to_an (pc := 8) rw_125_8 rfl (to_in (pc := 9) rw_125_9 rfl (s_v (pc := 10) rw_125_10 (dp0 hd (by decide)) (ls0 := [.ref 0, .int c]) rfl (Nat.le_of_ble_eq_true rfl) (Nat.le_of_ble_eq_true rfl) rfl (to_rc rfl rfl rfl (g_o hG rfl)) rfl (to_in (pc := 0) rw_140_0 rfl (b_ilt (pc := 1) rw_140_1 (A := c.toInt) rfl (fun h6 => ?_) (fun h6 => ?_)))))))))
      · refine to_c (pc := 16) rw_140_16 (x := (0 : Int32)) rfl rfl (s_r1 (pc := 17) rw_140_17 (A := 0) rfl (by decide) (b_ieq_t (pc := 13) rw_125_13 (A := 0) rfl (by decide) (to_c (pc := 27) rw_125_27 (x := (-2 : Int32)) rfl rfl (to_r0 (pc := 29) rw_125_29 ?_))))
        have k_7 : (-2 : Int32).toInt = -2 := rfl
        exact h (-2 : Int32) M hG F0 q3 q2 q4
      · refine to_in (pc := 4) rw_140_4 rfl (to_an (pc := 5) rw_140_5 rfl ?_)
        have b_8 := g_b hG (a := 0) (i := 12) (lo := 0) (hi := 30) rfl rfl
        refine tt_gI (pc := 6) rw_140_6 (g_o hG rfl) (v := (M.2.1 0 12)) rfl (b_cge (pc := 9) rw_140_9 (A := c.toInt) (B := (M.2.1 0 12).toInt) rfl rfl (fun h9 => ?_) (fun h9 => ?_))
        · refine to_c (pc := 16) rw_140_16 (x := (0 : Int32)) rfl rfl (s_r1 (pc := 17) rw_140_17 (A := 0) rfl (by decide) (b_ieq_t (pc := 13) rw_125_13 (A := 0) rfl (by decide) (to_c (pc := 27) rw_125_27 (x := (-2 : Int32)) rfl rfl (to_r0 (pc := 29) rw_125_29 ?_))))
          have k_10 : (-2 : Int32).toInt = -2 := rfl
          exact h (-2 : Int32) M hG F0 q3 q2 q4
        · refine to_c (pc := 12) rw_140_12 (x := (1 : Int32)) rfl rfl (to_go (pc := 13) rw_140_13 (s_r1 (pc := 17) rw_140_17 (A := 1) rfl (by decide) (b_ieq_f (pc := 13) rw_125_13 (A := 1) rfl (by decide) (to_an (pc := 16) rw_125_16 rfl (tt_gR (pc := 17) rw_125_17 (g_o hG rfl) q1.1 (to_in (pc := 20) rw_125_20 rfl (s_v (pc := 21) rw_125_21 (dp0 hd (by decide)) (ls0 := [.ref p, .int f]) rfl (Nat.le_of_ble_eq_true rfl) (Nat.le_of_ble_eq_true rfl) rfl (to_rc rfl rfl rfl (g_o hG (by rcases hp with rfl | rfl <;> rfl))) rfl (to_in (pc := 0) rw_43_0 rfl (b_ilt (pc := 1) rw_43_1 (A := f.toInt) rfl (fun h11 => ?_) (fun h11 => ?_))))))))))
          · refine to_c (pc := 16) rw_43_16 (x := (0 : Int32)) rfl rfl (s_r1 (pc := 17) rw_43_17 (A := 0) rfl (by decide) (b_ine_f (pc := 24) rw_125_24 (A := 0) rfl (by decide) (to_c (pc := 27) rw_125_27 (x := (-2 : Int32)) rfl rfl (to_r0 (pc := 29) rw_125_29 ?_))))
            have k_12 : (-2 : Int32).toInt = -2 := rfl
            exact h (-2 : Int32) M hG F0 q3 q2 q4
          · refine to_in (pc := 4) rw_43_4 rfl (to_an (pc := 5) rw_43_5 rfl ?_)
            have b_13 := g_b hG (a := p) (i := 2) (lo := 0) (hi := 8) (by rcases hp with rfl | rfl <;> rfl) (by rcases hp with rfl | rfl <;> rfl)
            refine tt_gI (pc := 6) rw_43_6 (g_o hG (by rcases hp with rfl | rfl <;> rfl)) (v := (M.2.1 p 2)) rfl (b_cge (pc := 9) rw_43_9 (A := f.toInt) (B := (M.2.1 p 2).toInt) rfl rfl (fun h14 => ?_) (fun h14 => ?_))
            · refine to_c (pc := 16) rw_43_16 (x := (0 : Int32)) rfl rfl (s_r1 (pc := 17) rw_43_17 (A := 0) rfl (by decide) (b_ine_f (pc := 24) rw_125_24 (A := 0) rfl (by decide) (to_c (pc := 27) rw_125_27 (x := (-2 : Int32)) rfl rfl (to_r0 (pc := 29) rw_125_29 ?_))))
              have k_15 : (-2 : Int32).toInt = -2 := rfl
              exact h (-2 : Int32) M hG F0 q3 q2 q4
            · refine to_c (pc := 12) rw_43_12 (x := (1 : Int32)) rfl rfl (to_go (pc := 13) rw_43_13 (s_r1 (pc := 17) rw_43_17 (A := 1) rfl (by decide) (b_ine_t (pc := 24) rw_125_24 (A := 1) rfl (by decide) (to_an (pc := 30) rw_125_30 rfl (to_in (pc := 31) rw_125_31 rfl (s_v (pc := 32) rw_125_32 (dp0 hd (by decide)) (ls0 := [.ref 0, .int n]) rfl (Nat.le_of_ble_eq_true rfl) (Nat.le_of_ble_eq_true rfl) rfl (to_rc rfl rfl rfl (g_o hG rfl)) rfl (to_an (pc := 0) rw_141_0 rfl (s_gR (pc := 1) rw_141_1 hG rfl (v := 11) rfl (to_an (pc := 4) rw_141_4 rfl (tt_gR (pc := 5) rw_141_5 (g_o hG rfl) q1.1 (to_an (pc := 8) rw_141_8 rfl ?_)))))))))))
              refine s_gR (pc := 9) rw_141_9 hG rfl (v := 6) rfl (to_in (pc := 12) rw_141_12 rfl (s_v (pc := 13) rw_141_13 (dp1 hd (by decide)) (ls0 := [.ref 11, .ref p, .ref 6, .int n, .null]) rfl (Nat.le_of_ble_eq_true rfl) (Nat.le_of_ble_eq_true rfl) rfl (to_rc rfl rfl rfl (g_o hG rfl)) rfl (C_8 hX (dp2 hd (by decide)) hG hp (by omega) (by omega) q2 (p := p) (n := n) (fun M18 hG17 F16 => ?_))))
              have F19 := FR.c F0 F16 tg_190
              refine to_rv (pc := 16) rw_141_16 (to_an (pc := 35) rw_125_35 rfl ?_)
              have j_20 := (PQ_f F16 q1)
              refine tt_gR (pc := 36) rw_125_36 (g_o hG17 rfl) j_20.1 (to_in (pc := 39) rw_125_39 rfl (s_v (pc := 40) rw_125_40 (dp0 hd (by decide)) (ls0 := [.ref p, .int f]) rfl (Nat.le_of_ble_eq_true rfl) (Nat.le_of_ble_eq_true rfl) rfl (to_rc rfl rfl rfl (g_o hG17 (by rcases hp with rfl | rfl <;> rfl))) rfl (to_an (pc := 0) rw_45_0 rfl (s_gR (pc := 1) rw_45_1 hG17 (by rcases hp with rfl | rfl <;> rfl) (v := (p + 2)) (by rcases hp with rfl | rfl <;> rfl) (to_in (pc := 4) rw_45_4 rfl (s_ial (pc := 5) rw_45_5 hG17 (by rcases hp with rfl | rfl <;> rfl) (n := 8) (by rcases hp with rfl | rfl <;> rfl) (by rcases hp with rfl | rfl <;> rfl) (A := f.toInt) rfl (by omega) (by omega) (lo := 0) (hi := 3) (by rcases hp with rfl | rfl <;> rfl) (by rcases hp with rfl | rfl <;> rfl) (fun v21 w_22 _ _ => to_c (pc := 6) rw_45_6 (x := (3 : Int32)) rfl rfl (b_cne (pc := 7) rw_45_7 (A := v21.toInt) (B := 3) rfl rfl (fun h23 => ?_) (fun h23 => ?_)))))))))
              · refine to_c (pc := 14) rw_45_14 (x := (0 : Int32)) rfl rfl (s_r1 (pc := 15) rw_45_15 (A := 0) rfl (by decide) (b_ieq_t (pc := 43) rw_125_43 (A := 0) rfl (by decide) (to_an (pc := 65) rw_125_65 rfl (s_gR (pc := 66) rw_125_66 hG17 rfl (v := 11) rfl (to_in (pc := 69) rw_125_69 rfl (to_in (pc := 70) rw_125_70 rfl (s_v (pc := 71) rw_125_71 (dp0 hd (by decide)) (ls0 := [.ref 11, .int c, .int f]) rfl (Nat.le_of_ble_eq_true rfl) (Nat.le_of_ble_eq_true rfl) rfl (to_rc rfl rfl rfl (g_o hG17 rfl)) rfl (to_an (pc := 0) rw_12_0 rfl (s_gR (pc := 1) rw_12_1 hG17 rfl (v := 14) rfl (to_in (pc := 4) rw_12_4 rfl (to_c (pc := 5) rw_12_5 (x := (8 : Int32)) rfl rfl ?_)))))))))))
                refine s_mul (pc := 7) rw_12_7 (A := c.toInt) (B := 8) rfl rfl (by omega) (fun v24 e25 => to_in (pc := 8) rw_12_8 rfl (s_add (pc := 9) rw_12_9 (A := v24.toInt) (B := f.toInt) rfl rfl (by omega) (fun v26 e27 => s_ial (pc := 10) rw_12_10 hG17 rfl (n := 240) rfl rfl (A := v26.toInt) rfl (by omega) (by omega) (lo := -2147483648) (hi := 2147483647) rfl rfl (fun v28 w_29 _ _ => to_r0 (pc := 11) rw_12_11 (to_r0 (pc := 74) rw_125_74 ?_)))))
                have j_30 := (PI_f (tg_169 F16) q3)
                have j_31 := (NI_f (tg_122 F16) q2)
                have j_32 := (QI_f (tg_176 F16) q4)
                exact h v28 M18 hG17 F19 j_30 j_31 j_32
              · refine to_c (pc := 10) rw_45_10 (x := (1 : Int32)) rfl rfl (to_go (pc := 11) rw_45_11 (s_r1 (pc := 15) rw_45_15 (A := 1) rfl (by decide) (b_ieq_f (pc := 43) rw_125_43 (A := 1) rfl (by decide) (to_an (pc := 46) rw_125_46 rfl (s_gR (pc := 47) rw_125_47 hG17 rfl (v := 11) rfl (s_gR (pc := 50) rw_125_50 hG17 rfl (v := 13) rfl (to_in (pc := 53) rw_125_53 rfl (s_ial (pc := 54) rw_125_54 hG17 rfl (n := 30) rfl rfl (A := c.toInt) rfl (by omega) (by omega) (lo := -2147483648) (hi := 2147483647) rfl rfl (fun v33 w_34 _ _ => to_an (pc := 55) rw_125_55 rfl (tt_gR (pc := 56) rw_125_56 (g_o hG17 rfl) j_20.1 (to_in (pc := 59) rw_125_59 rfl ?_)))))))))))
                refine s_v (pc := 60) rw_125_60 (dp0 hd (by decide)) (ls0 := [.ref p, .int f, .null, .null]) rfl (Nat.le_of_ble_eq_true rfl) (Nat.le_of_ble_eq_true rfl) rfl (to_rc rfl rfl rfl (g_o hG17 (by rcases hp with rfl | rfl <;> rfl))) rfl (C_51 hX (dp1 hd (by decide)) hG17 hp (p := p) (f := f) (fun r35 M38 hG37 F36 => ?_))
                have F39 := FR.c F19 F36 tg_192
                refine s_any (pc := 63) rw_125_63 (fun _ _ => rfl) (fun v40 => to_r0 (pc := 64) rw_125_64 ?_)
                have j_42 := (PI_f (tg_99 F36) (PI_f (tg_169 F16) q3))
                have j_43 := (NI_f (tg_98 F36) (NI_f (tg_122 F16) q2))
                have j_44 := (QI_f (tg_100 F36) (QI_f (tg_176 F16) q4))
                exact h v40 M38 hG37 F39 j_42 j_43 j_44
set_option maxRecDepth 4000 in
set_option maxHeartbeats 0 in
theorem C_126 {X : mm_X} {d : Nat} {M : mm_M} {Q : Option Value → mm_M → Prop} {c : Int32} {p : Nat} {pz : Nat} {q : Nat} {qz : Nat} (hX : g_X X) (hd : 1 ≤ d) (hG : g_G M) (hp : p = 49 ∨ p = 58) (hpz : pz = 49 ∨ pz = 58) (hq : q = 67 ∨ q = 72) (hqz : qz = 67 ∨ qz = 72) (q1 : g_PQ M p pz q qz) (q2 : PI M) (q3 : NI M) (q4 : QI M) (h : ∀ (r : Int32) (M1 : mm_M), g_G M1 → FR md_17 M M1 → (0 ≤ r.toInt) → (r.toInt ≤ 1) → (r.toInt = 1 → 0 ≤ c.toInt ∧ c.toInt < (M.2.1 0 12).toInt) → (r.toInt = 0 → ¬ (0 ≤ c.toInt ∧ c.toInt < (M.2.1 0 12).toInt)) → PI M1 → NI M1 → QI M1 → Q (some (.int r)) M1) : mm_T X d 126 0 [.ref 0, .int c] [] M Q := by
  have F0 : FR md_17 M M := FR.rf
  refine to_an (pc := 0) rw_126_0 rfl (to_in (pc := 1) rw_126_1 rfl (s_v (pc := 2) rw_126_2 (dp0 hd (by decide)) (ls0 := [.ref 0, .int c]) rfl (Nat.le_of_ble_eq_true rfl) (Nat.le_of_ble_eq_true rfl) rfl (to_rc rfl rfl rfl (g_o hG rfl)) rfl (to_in (pc := 0) rw_140_0 rfl (b_ilt (pc := 1) rw_140_1 (A := c.toInt) rfl (fun h1 => ?_) (fun h1 => ?_)))))
  · refine to_c (pc := 16) rw_140_16 (x := (0 : Int32)) rfl rfl (s_r1 (pc := 17) rw_140_17 (A := 0) rfl (by decide) (b_ine_f (pc := 5) rw_126_5 (A := 0) rfl (by decide) (to_c (pc := 8) rw_126_8 (x := (0 : Int32)) rfl rfl (s_r1 (pc := 9) rw_126_9 (A := 0) rfl (by decide) ?_))))
    have k_2 : (0 : Int32).toInt = 0 := rfl
    exact h (0 : Int32) M hG F0 (by decide) (by decide) (by omega) (by omega) q2 q3 q4
  · refine to_in (pc := 4) rw_140_4 rfl (to_an (pc := 5) rw_140_5 rfl ?_)
    have b_3 := g_b hG (a := 0) (i := 12) (lo := 0) (hi := 30) rfl rfl
    refine tt_gI (pc := 6) rw_140_6 (g_o hG rfl) (v := (M.2.1 0 12)) rfl (b_cge (pc := 9) rw_140_9 (A := c.toInt) (B := (M.2.1 0 12).toInt) rfl rfl (fun h4 => ?_) (fun h4 => ?_))
    · refine to_c (pc := 16) rw_140_16 (x := (0 : Int32)) rfl rfl (s_r1 (pc := 17) rw_140_17 (A := 0) rfl (by decide) (b_ine_f (pc := 5) rw_126_5 (A := 0) rfl (by decide) (to_c (pc := 8) rw_126_8 (x := (0 : Int32)) rfl rfl (s_r1 (pc := 9) rw_126_9 (A := 0) rfl (by decide) ?_))))
      have k_5 : (0 : Int32).toInt = 0 := rfl
      exact h (0 : Int32) M hG F0 (by decide) (by decide) (by omega) (by omega) q2 q3 q4
    · refine to_c (pc := 12) rw_140_12 (x := (1 : Int32)) rfl rfl (to_go (pc := 13) rw_140_13 (s_r1 (pc := 17) rw_140_17 (A := 1) rfl (by decide) (b_ine_t (pc := 5) rw_126_5 (A := 1) rfl (by decide) (to_an (pc := 10) rw_126_10 rfl (s_gR (pc := 11) rw_126_11 hG rfl (v := 17) rfl (to_dupr (pc := 14) rw_126_14 (tt_gI (pc := 15) rw_126_15 (g_o hG rfl) (v := (M.2.1 17 4)) rfl (to_c (pc := 18) rw_126_18 (x := (1 : Int32)) rfl rfl (to_in (pc := 19) rw_126_19 rfl (s_any (pc := 20) rw_126_20 (fun _ _ => rfl) (fun v6 => s_any (pc := 21) rw_126_21 (fun _ _ => rfl) (fun v7 => ?_))))))))))))
      refine s_pI (pc := 22) rw_126_22 hG rfl (fun M9 W8 => ?_)
      have hG10 := g_wf hG W8 rfl rfl (by decide)
      have F11 := FR.w F0 W8 (show 17 = 17 by decide)
      refine to_c (pc := 25) rw_126_25 (x := (1 : Int32)) rfl rfl (s_r1 (pc := 26) rw_126_26 (A := 1) rfl (by decide) ?_)
      have k_12 : (1 : Int32).toInt = 1 := rfl
      have j_13 := (PI_f (fun a i z => W_n W8 (by /-r17,4-/ omega) rfl) q2)
      have j_14 := (NI_f (fun a i z => W_n W8 (tg_92 a i z) rfl) q3)
      have j_15 := (QI_f (fun a i z => W_n W8 (tg_93 a i z) rfl) q4)
      exact h (1 : Int32) M9 hG10 F11 (by decide) (by decide) (by omega) (by omega) j_13 j_14 j_15
set_option maxRecDepth 4000 in
set_option maxHeartbeats 0 in
theorem C_127 {X : mm_X} {d : Nat} {M : mm_M} {Q : Option Value → mm_M → Prop} {p : Nat} {pz : Nat} {q : Nat} {qz : Nat} (hX : g_X X) (hd : 0 ≤ d) (hG : g_G M) (hp : p = 49 ∨ p = 58) (hpz : pz = 49 ∨ pz = 58) (hq : q = 67 ∨ q = 72) (hqz : qz = 67 ∨ qz = 72) (q1 : g_PQ M p pz q qz) (h : ∀ (r : Int32) (M1 : mm_M), g_G M1 → FR md_0 M M1 → (r.toInt = (M.2.1 17 4).toInt) → Q (some (.int r)) M1) : mm_T X d 127 0 [.ref 0] [] M Q := by
  have F0 : FR md_0 M M := FR.rf
  refine to_an (pc := 0) rw_127_0 rfl (s_gR (pc := 1) rw_127_1 hG rfl (v := 17) rfl (tt_gI (pc := 4) rw_127_4 (g_o hG rfl) (v := (M.2.1 17 4)) rfl (to_r0 (pc := 7) rw_127_7 ?_)))
  exact h (M.2.1 17 4) M hG F0 (by omega)
set_option maxRecDepth 4000 in
set_option maxHeartbeats 0 in
theorem C_128 {X : mm_X} {d : Nat} {M : mm_M} {Q : Option Value → mm_M → Prop} {k : Int32} {j : Int32} {p : Nat} {pz : Nat} {q : Nat} {qz : Nat} (hX : g_X X) (hd : 1 ≤ d) (hG : g_G M) (hp : p = 49 ∨ p = 58) (hpz : pz = 49 ∨ pz = 58) (hq : q = 67 ∨ q = 72) (hqz : qz = 67 ∨ qz = 72) (q1 : g_PQ M p pz q qz) (h : ∀ (r : Int32) (M1 : mm_M), g_G M1 → FR md_0 M M1 → Q (some (.int r)) M1) : mm_T X d 128 0 [.ref 0, .int k, .int j] [] M Q := by
  have F0 : FR md_0 M M := FR.rf
  refine to_in (pc := 0) rw_128_0 rfl (s_s (pc := 1) rw_128_1 (dp0 hd (by decide)) (ls0 := [.int k]) rfl (Nat.le_of_ble_eq_true rfl) (Nat.le_of_ble_eq_true rfl) rfl (to_rcs rfl rfl) rfl (to_in (pc := 0) rw_143_0 rfl (b_ilt (pc := 1) rw_143_1 (A := k.toInt) rfl (fun h1 => ?_) (fun h1 => ?_))))
  · refine to_c (pc := 14) rw_143_14 (x := (0 : Int32)) rfl rfl (s_r1 (pc := 15) rw_143_15 (A := 0) rfl (by decide) (b_ieq_t (pc := 4) rw_128_4 (A := 0) rfl (by decide) (to_c (pc := 24) rw_128_24 (x := (-1 : Int32)) rfl rfl (to_r0 (pc := 25) rw_128_25 ?_))))
    have k_2 : (-1 : Int32).toInt = -1 := rfl
    exact h (-1 : Int32) M hG F0 
  · refine to_in (pc := 4) rw_143_4 rfl (to_c (pc := 5) rw_143_5 (x := (6 : Int32)) rfl rfl (b_cge (pc := 7) rw_143_7 (A := k.toInt) (B := 6) rfl rfl (fun h3 => ?_) (fun h3 => ?_)))
    · refine to_c (pc := 14) rw_143_14 (x := (0 : Int32)) rfl rfl (s_r1 (pc := 15) rw_143_15 (A := 0) rfl (by decide) (b_ieq_t (pc := 4) rw_128_4 (A := 0) rfl (by decide) (to_c (pc := 24) rw_128_24 (x := (-1 : Int32)) rfl rfl (to_r0 (pc := 25) rw_128_25 ?_))))
      have k_4 : (-1 : Int32).toInt = -1 := rfl
      exact h (-1 : Int32) M hG F0 
    · refine to_c (pc := 10) rw_143_10 (x := (1 : Int32)) rfl rfl (to_go (pc := 11) rw_143_11 (s_r1 (pc := 15) rw_143_15 (A := 1) rfl (by decide) (b_ieq_f (pc := 4) rw_128_4 (A := 1) rfl (by decide) (to_in (pc := 7) rw_128_7 rfl (b_ilt (pc := 8) rw_128_8 (A := j.toInt) rfl (fun h5 => ?_) (fun h5 => ?_))))))
      · refine to_c (pc := 24) rw_128_24 (x := (-1 : Int32)) rfl rfl (to_r0 (pc := 25) rw_128_25 ?_)
        have k_6 : (-1 : Int32).toInt = -1 := rfl
        exact h (-1 : Int32) M hG F0 
      · refine to_in (pc := 11) rw_128_11 rfl (to_an (pc := 12) rw_128_12 rfl (s_gR (pc := 13) rw_128_13 hG rfl (v := 17) rfl (s_gR (pc := 16) rw_128_16 hG rfl (v := 25) rfl (to_in (pc := 19) rw_128_19 rfl (s_ial (pc := 20) rw_128_20 hG rfl (n := 6) rfl rfl (A := k.toInt) rfl (by omega) (by omega) (lo := 0) (hi := 30) rfl rfl (fun v7 w_8 _ _ => b_clt (pc := 21) rw_128_21 (A := j.toInt) (B := v7.toInt) rfl rfl (fun h9 => ?_) (fun h9 => ?_)))))))
        · refine to_an (pc := 26) rw_128_26 rfl (s_gR (pc := 27) rw_128_27 hG rfl (v := 17) rfl (s_gR (pc := 30) rw_128_30 hG rfl (v := 18) rfl (to_in (pc := 33) rw_128_33 rfl (s_aal (pc := 34) rw_128_34 hG (A := k.toInt) rfl (by omega) (by omega) (fun r10 hr10 => to_in (pc := 35) rw_128_35 rfl (s_ial (pc := 36) rw_128_36 hG (by rcases rr_6 hr10 with z | z | z | z | z | z <;> rw [z] <;> rfl) (n := 30) (by rcases rr_6 hr10 with z | z | z | z | z | z <;> rw [z] <;> rfl) (by rcases rr_6 hr10 with z | z | z | z | z | z <;> rw [z] <;> rfl) (A := j.toInt) rfl (by omega) (by omega) (lo := 0) (hi := 29) (by rcases rr_6 hr10 with z | z | z | z | z | z <;> rw [z] <;> rfl) (by rcases rr_6 hr10 with z | z | z | z | z | z <;> rw [z] <;> rfl) (fun v11 w_12 _ _ => to_r0 (pc := 37) rw_128_37 ?_)))))))
          exact h v11 M hG F0 
        · refine to_c (pc := 24) rw_128_24 (x := (-1 : Int32)) rfl rfl (to_r0 (pc := 25) rw_128_25 ?_)
          have k_13 : (-1 : Int32).toInt = -1 := rfl
          exact h (-1 : Int32) M hG F0 
