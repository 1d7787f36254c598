set_option maxRecDepth 4000 in
set_option maxHeartbeats 0 in
theorem LW_0 {X : mm_X} {d L : Nat} {M : mm_M} {Q : Option Value → mm_M → Prop} {i : Int32} {u5 u6 : Value} (hX : g_X X) (hW : g_W X) (hL : (X 0).1 = L) (h3 : L ≤ 3072) (hd : 40 ≤ d) (hi : 0 ≤ i.toInt) (hi2 : i.toInt + 6 ≤ (L : Int)) (H : LI3 M) (h : ∀ (M1 : mm_M) (v5 v6 : Value), LI3 M1 → M1.1.2.1 ≤ M.1.2.1 + 1 → M1.1.2.2.1 ≤ M.1.2.2.1 + 6 → mm_T X d 0 1313 [.ref mm_ext, .ref 0, .ref 77, .ref 125, .int i, v5, v6] [] M1 Q) : mm_T X d 0 176 [.ref mm_ext, .ref 0, .ref 77, .ref 125, .int i, u5, u6] [] M Q := by
  obtain ⟨⟨hG, ⟨jPI, jNI, jQI, jPQE⟩, ⟨jFA, jWC, jNJ, jPS, jKQ⟩, jJ, jE⟩, jTP, jW9⟩ := H
  have b_1 := g_b hG (a := 77) (i := 7) (lo := 0) (hi := 500) rfl rfl
  have b_2 := g_b hG (a := 77) (i := 6) (lo := 0) (hi := 500) rfl rfl
  have b_3 := g_b hG (a := 1) (i := 1) (lo := 0) (hi := 500) rfl rfl
  have b_4 := g_b hG (a := 77) (i := 1) (lo := 0) (hi := 500) rfl rfl
  refine to_an (pc := 176) rw_0_176 rfl ?_
  refine to_an (pc := 177) rw_0_177 rfl ?_
  refine to_i (pc := 178) rw_0_178 rfl ?_
  refine to_c (pc := 180) rw_0_180 (x := (1 : Int32)) rfl rfl ?_
  refine s_add (pc := 181) rw_0_181 (A := i.toInt) (B := 1) rfl rfl (by omega) (fun v5 e6 => ?_)
  refine s_x0 (pc := 182) rw_0_182 hL (A := v5.toInt) rfl (by omega) (by omega) (fun v7 e8 => ?_)
  refine to_an (pc := 183) rw_0_183 rfl ?_
  refine to_i (pc := 184) rw_0_184 rfl ?_
  refine to_c (pc := 186) rw_0_186 (x := (2 : Int32)) rfl rfl ?_
  refine s_add (pc := 187) rw_0_187 (A := i.toInt) (B := 2) rfl rfl (by omega) (fun v9 e10 => ?_)
  refine s_x0 (pc := 188) rw_0_188 hL (A := v9.toInt) rfl (by omega) (by omega) (fun v11 e12 => ?_)
  refine to_an (pc := 189) rw_0_189 rfl ?_
  refine to_i (pc := 190) rw_0_190 rfl ?_
  refine to_c (pc := 192) rw_0_192 (x := (3 : Int32)) rfl rfl ?_
  refine s_add (pc := 193) rw_0_193 (A := i.toInt) (B := 3) rfl rfl (by omega) (fun v13 e14 => ?_)
  refine s_x0 (pc := 194) rw_0_194 hL (A := v13.toInt) rfl (by omega) (by omega) (fun v15 e16 => ?_)
  refine to_an (pc := 195) rw_0_195 rfl ?_
  refine to_i (pc := 196) rw_0_196 rfl ?_
  refine to_c (pc := 198) rw_0_198 (x := (4 : Int32)) rfl rfl ?_
  refine s_add (pc := 199) rw_0_199 (A := i.toInt) (B := 4) rfl rfl (by omega) (fun v17 e18 => ?_)
  refine s_x0 (pc := 200) rw_0_200 hL (A := v17.toInt) rfl (by omega) (by omega) (fun v19 e20 => ?_)
  refine to_an (pc := 201) rw_0_201 rfl ?_
  refine to_i (pc := 202) rw_0_202 rfl ?_
  refine to_c (pc := 204) rw_0_204 (x := (5 : Int32)) rfl rfl ?_
  refine s_add (pc := 205) rw_0_205 (A := i.toInt) (B := 5) rfl rfl (by omega) (fun v21 e22 => ?_)
  refine s_x0 (pc := 206) rw_0_206 hL (A := v21.toInt) rfl (by omega) (by omega) (fun v23 e24 => ?_)
  refine s_v (pc := 207) rw_0_207 (by omega) (ls0 := [.ref 0, .int v7, .int v11, .int v15, .int v19, .int v23]) rfl (Nat.le_of_ble_eq_true rfl) (Nat.le_of_ble_eq_true rfl) rfl (to_rc rfl rfl rfl (g_o hG rfl)) rfl ?_
  refine E_110 hX (by omega) hG (a := v7) (b := v11) (c := v15) (x := v19) (e := v23) (fun r25 M31 hG27 F26 p_28 p_29 p_30 => ?_)
  have n_32 : M31.1.2.1 = M.1.2.1 ∧ M31.1.2.2.1 = M.1.2.2.1 := by rw [F26.1]; exact ⟨rfl, rfl⟩
  have b_34 := g_b hG27 (a := 1) (i := 1) (lo := 0) (hi := 500) rfl rfl
  refine to_popi (pc := 210) rw_0_210 ?_
  refine to_an (pc := 211) rw_0_211 rfl ?_
  refine to_an (pc := 212) rw_0_212 rfl ?_
  refine to_i (pc := 213) rw_0_213 rfl ?_
  refine to_c (pc := 215) rw_0_215 (x := (1 : Int32)) rfl rfl ?_
  refine s_addk (pc := 216) rw_0_216 (A := i.toInt) (B := 1) rfl rfl (by omega) (v := v5) e6 ?_
  refine s_x0k (pc := 217) rw_0_217 hL (A := v5.toInt) rfl (by omega) (by omega) (v := v7) e8 ?_
  refine to_an (pc := 218) rw_0_218 rfl ?_
  refine to_i (pc := 219) rw_0_219 rfl ?_
  refine to_c (pc := 221) rw_0_221 (x := (2 : Int32)) rfl rfl ?_
  refine s_addk (pc := 222) rw_0_222 (A := i.toInt) (B := 2) rfl rfl (by omega) (v := v9) e10 ?_
  refine s_x0k (pc := 223) rw_0_223 hL (A := v9.toInt) rfl (by omega) (by omega) (v := v11) e12 ?_
  refine to_an (pc := 224) rw_0_224 rfl ?_
  refine to_i (pc := 225) rw_0_225 rfl ?_
  refine to_c (pc := 227) rw_0_227 (x := (3 : Int32)) rfl rfl ?_
  refine s_addk (pc := 228) rw_0_228 (A := i.toInt) (B := 3) rfl rfl (by omega) (v := v13) e14 ?_
  refine s_x0k (pc := 229) rw_0_229 hL (A := v13.toInt) rfl (by omega) (by omega) (v := v15) e16 ?_
  refine to_an (pc := 230) rw_0_230 rfl ?_
  refine to_i (pc := 231) rw_0_231 rfl ?_
  refine to_c (pc := 233) rw_0_233 (x := (4 : Int32)) rfl rfl ?_
  refine s_addk (pc := 234) rw_0_234 (A := i.toInt) (B := 4) rfl rfl (by omega) (v := v17) e18 ?_
  refine s_x0k (pc := 235) rw_0_235 hL (A := v17.toInt) rfl (by omega) (by omega) (v := v19) e20 ?_
  refine to_an (pc := 236) rw_0_236 rfl ?_
  refine to_i (pc := 237) rw_0_237 rfl ?_
  refine to_c (pc := 239) rw_0_239 (x := (5 : Int32)) rfl rfl ?_
  refine s_addk (pc := 240) rw_0_240 (A := i.toInt) (B := 5) rfl rfl (by omega) (v := v21) e22 ?_
  refine s_x0k (pc := 241) rw_0_241 hL (A := v21.toInt) rfl (by omega) (by omega) (v := v23) e24 ?_
  refine s_v (pc := 242) rw_0_242 (by omega) (ls0 := [.ref 77, .int v7, .int v11, .int v15, .int v19, .int v23, .null, .null]) rfl (Nat.le_of_ble_eq_true rfl) (Nat.le_of_ble_eq_true rfl) rfl (to_rc rfl rfl rfl (g_o hG27 rfl)) rfl ?_
  have c_45 : M31.2.1 77 1 = (M.2.1 77 1) := (F_n F26 (show ¬ (77 = 1 ∧ 1 = 1 ∨ 77 = 2) by omega) rfl)
  have t_46 : (M31.2.1 77 1).toInt = (M.2.1 77 1).toInt := congrArg Int32.toInt c_45
  refine E_148 hX (by omega) hG27 (a := v7) (b := v11) (c := v15) (x := v19) (e := v23) (fun r47 M53 hG49 F48 p_50 p_51 p_52 => ?_)
  have n_54 : M53.1.2.1 = M31.1.2.1 ∧ M53.1.2.2.1 = M31.1.2.2.1 := by rw [F48.1]; exact ⟨rfl, rfl⟩
  have b_56 := g_b hG49 (a := 77) (i := 1) (lo := 0) (hi := 500) rfl rfl
  have c_57 : M53.2.1 1 1 = (M31.2.1 1 1) := (F_n F48 (show ¬ (1 = 77 ∧ (1 = 1 ∨ 1 = 2) ∨ 1 = 78) by omega) rfl)
  have t_58 : (M53.2.1 1 1).toInt = (M31.2.1 1 1).toInt := congrArg Int32.toInt c_57
  have z_59 := TP_d jTP (by omega) (by omega) p_30 (by omega) (fun k => (F_n F26 (show ¬ (78 = 1 ∧ k = 1 ∨ 78 = 2) by omega) rfl)) (F_n F26 (show ¬ (77 = 1 ∧ 1 = 1 ∨ 77 = 2) by omega) rfl) p_52 (fun k => (F_n F48 (show ¬ (2 = 77 ∧ (k = 1 ∨ k = 2) ∨ 2 = 78) by omega) rfl))
  refine to_popi (pc := 245) rw_0_245 ?_
  refine to_go (pc := 246) rw_0_246 ?_
  have c_60 : M53.2.1 77 7 = (M.2.1 77 7) := (F_n F48 (show ¬ (77 = 77 ∧ (7 = 1 ∨ 7 = 2) ∨ 77 = 78) by omega) (F_n F26 (show ¬ (77 = 1 ∧ 7 = 1 ∨ 77 = 2) by omega) rfl))
  have t_61 : (M53.2.1 77 7).toInt = (M.2.1 77 7).toInt := congrArg Int32.toInt c_60
  have c_62 : M53.2.1 77 6 = (M.2.1 77 6) := (F_n F48 (show ¬ (77 = 77 ∧ (6 = 1 ∨ 6 = 2) ∨ 77 = 78) by omega) (F_n F26 (show ¬ (77 = 1 ∧ 6 = 1 ∨ 77 = 2) by omega) rfl))
  have t_63 : (M53.2.1 77 6).toInt = (M.2.1 77 6).toInt := congrArg Int32.toInt c_62
  have j_64 := (PI_f (fun a i z => F_n F48 (show ¬ (a = 77 ∧ (i = 1 ∨ i = 2) ∨ a = 78) by omega) rfl) (PI_f (fun a i z => F_n F26 (show ¬ (a = 1 ∧ i = 1 ∨ a = 2) by omega) rfl) jPI))
  have j_65 := (NI_f (fun a i z => F_n F48 (show ¬ (a = 77 ∧ (i = 1 ∨ i = 2) ∨ a = 78) by omega) rfl) (NI_f (fun a i z => F_n F26 (show ¬ (a = 1 ∧ i = 1 ∨ a = 2) by omega) rfl) jNI))
  have j_66 := (QI_f (fun a i z => F_n F48 (show ¬ (a = 77 ∧ (i = 1 ∨ i = 2) ∨ a = 78) by omega) rfl) (QI_f (fun a i z => F_n F26 (show ¬ (a = 1 ∧ i = 1 ∨ a = 2) by omega) rfl) jQI))
  have j_67 := (PQE_r F48.2.1 (PQE_r F26.2.1 jPQE))
  have j_68 := (FA_f (fun a i z => F_n F48 (show ¬ (a = 77 ∧ (i = 1 ∨ i = 2) ∨ a = 78) by omega) rfl) (FA_f (fun a i z => F_n F26 (show ¬ (a = 1 ∧ i = 1 ∨ a = 2) by omega) rfl) jFA))
  have j_69 := (WC_f (fun a i z => F_n F48 (show ¬ (a = 77 ∧ (i = 1 ∨ i = 2) ∨ a = 78) by omega) rfl) (WC_f (fun a i z => F_n F26 (show ¬ (a = 1 ∧ i = 1 ∨ a = 2) by omega) rfl) jWC))
  have j_70 := (NJ_f (fun a i z => F_n F48 (show ¬ (a = 77 ∧ (i = 1 ∨ i = 2) ∨ a = 78) by omega) rfl) (NJ_f (fun a i z => F_n F26 (show ¬ (a = 1 ∧ i = 1 ∨ a = 2) by omega) rfl) jNJ))
  have j_71 := (PS_f (fun a i z => F_n F48 (show ¬ (a = 77 ∧ (i = 1 ∨ i = 2) ∨ a = 78) by omega) rfl) (PS_f (fun a i z => F_n F26 (show ¬ (a = 1 ∧ i = 1 ∨ a = 2) by omega) rfl) jPS))
  have j_72 := (KQ_f (fun a i z => F_n F48 (show ¬ (a = 77 ∧ (i = 1 ∨ i = 2) ∨ a = 78) by omega) rfl) (KQ_f (fun a i z => F_n F26 (show ¬ (a = 1 ∧ i = 1 ∨ a = 2) by omega) rfl) jKQ))
  have j_73 := (W9_f (fun a i z => F_n F48 (show ¬ (a = 77 ∧ (i = 1 ∨ i = 2) ∨ a = 78) by omega) rfl) (W9_f (fun a i z => F_n F26 (show ¬ (a = 1 ∧ i = 1 ∨ a = 2) by omega) rfl) jW9))
  exact h M53 (u5) (u6) ⟨⟨hG49, ⟨j_64, j_65, j_66, j_67⟩, ⟨j_68, j_69, j_70, j_71, j_72⟩, by omega, by omega⟩, z_59, j_73⟩ (by omega) (by omega)
set_option maxRecDepth 4000 in
set_option maxHeartbeats 0 in
theorem LW_1 {X : mm_X} {d L : Nat} {M : mm_M} {Q : Option Value → mm_M → Prop} {i : Int32} {u5 u6 : Value} (hX : g_X X) (hW : g_W X) (hL : (X 0).1 = L) (h3 : L ≤ 3072) (hd : 40 ≤ d) (hi : 0 ≤ i.toInt) (hi2 : i.toInt + 6 ≤ (L : Int)) (H : LI3 M) (h : ∀ (M1 : mm_M) (v5 v6 : Value), LI3 M1 → M1.1.2.1 ≤ M.1.2.1 + 1 → M1.1.2.2.1 ≤ M.1.2.2.1 + 6 → mm_T X d 0 1313 [.ref mm_ext, .ref 0, .ref 77, .ref 125, .int i, v5, v6] [] M1 Q) : mm_T X d 0 249 [.ref mm_ext, .ref 0, .ref 77, .ref 125, .int i, u5, u6] [] M Q := by
  obtain ⟨⟨hG, ⟨jPI, jNI, jQI, jPQE⟩, ⟨jFA, jWC, jNJ, jPS, jKQ⟩, jJ, jE⟩, jTP, jW9⟩ := H
  have b_1 := g_b hG (a := 77) (i := 7) (lo := 0) (hi := 500) rfl rfl
  have b_2 := g_b hG (a := 77) (i := 6) (lo := 0) (hi := 500) rfl rfl
  have b_3 := g_b hG (a := 1) (i := 1) (lo := 0) (hi := 500) rfl rfl
  have b_4 := g_b hG (a := 77) (i := 1) (lo := 0) (hi := 500) rfl rfl
  refine to_an (pc := 249) rw_0_249 rfl ?_
  refine to_an (pc := 250) rw_0_250 rfl ?_
  refine to_i (pc := 251) rw_0_251 rfl ?_
  refine to_c (pc := 253) rw_0_253 (x := (1 : Int32)) rfl rfl ?_
  refine s_add (pc := 254) rw_0_254 (A := i.toInt) (B := 1) rfl rfl (by omega) (fun v5 e6 => ?_)
  refine s_x0 (pc := 255) rw_0_255 hL (A := v5.toInt) rfl (by omega) (by omega) (fun v7 e8 => ?_)
  refine s_v (pc := 256) rw_0_256 (by omega) (ls0 := [.ref 0, .int v7, .null]) rfl (Nat.le_of_ble_eq_true rfl) (Nat.le_of_ble_eq_true rfl) rfl (to_rc rfl rfl rfl (g_o hG rfl)) rfl ?_
  obtain ⟨pz9, pzz9, qz9, qzz9, hpz9, hpzz9, hqz9, hqzz9, hpqz9⟩ := id jPQE
  obtain ⟨t, nn, hn1, hT1, hR1⟩ := TP_X (n := v7.toInt) jTP
  refine D_111 hX (by omega) hG hpz9 hpzz9 hqz9 hqzz9 hpqz9 jPI jNI jQI (by omega) hT1 hW (n := v7) (t := t) (nn := nn) (p := pz9) (pz := pzz9) (q := qz9) (qz := qzz9) (fun r10 M21 hG12 F11 p_13 p_14 p_15 p_16 p_17 p_18 p_19 p_20 => ?_)
  have n_22 : M21.1.2.1 = M.1.2.1 ∧ M21.1.2.2.1 = M.1.2.2.1 := by rw [F11.1]; exact ⟨rfl, rfl⟩
  have b_24 := g_b hG12 (a := 1) (i := 1) (lo := 0) (hi := 500) rfl rfl
  have z_25 := TP_s jTP (by omega) (fun a i z => (Fx_n F11 (show ¬ (a ≤ 76 ∧ ¬ a = 2) by omega) rfl))
  refine to_an (pc := 259) rw_0_259 rfl ?_
  refine to_an (pc := 260) rw_0_260 rfl ?_
  refine to_i (pc := 261) rw_0_261 rfl ?_
  refine to_c (pc := 263) rw_0_263 (x := (1 : Int32)) rfl rfl ?_
  refine s_addk (pc := 264) rw_0_264 (A := i.toInt) (B := 1) rfl rfl (by omega) (v := v5) e6 ?_
  refine s_x0k (pc := 265) rw_0_265 hL (A := v5.toInt) rfl (by omega) (by omega) (v := v7) e8 ?_
  refine s_v (pc := 266) rw_0_266 (by omega) (ls0 := [.ref 77, .int v7, .null]) rfl (Nat.le_of_ble_eq_true rfl) (Nat.le_of_ble_eq_true rfl) rfl (to_rc rfl rfl rfl (g_o hG12 rfl)) rfl ?_
  have c_28 : M21.2.1 77 1 = (M.2.1 77 1) := (Fx_n F11 (show ¬ (77 ≤ 76 ∧ ¬ 77 = 2) by omega) rfl)
  have t_29 : (M21.2.1 77 1).toInt = (M.2.1 77 1).toInt := congrArg Int32.toInt c_28
  have c_30 : M21.2.1 77 7 = (M.2.1 77 7) := (Fx_n F11 (show ¬ (77 ≤ 76 ∧ ¬ 77 = 2) by omega) rfl)
  have t_31 : (M21.2.1 77 7).toInt = (M.2.1 77 7).toInt := congrArg Int32.toInt c_30
  have c_32 : M21.2.1 77 6 = (M.2.1 77 6) := (Fx_n F11 (show ¬ (77 ≤ 76 ∧ ¬ 77 = 2) by omega) rfl)
  have t_33 : (M21.2.1 77 6).toInt = (M.2.1 77 6).toInt := congrArg Int32.toInt c_32
  have j_34 := (FA_f (fun a i z => Fx_n F11 (show ¬ (a ≤ 76 ∧ ¬ a = 2) by omega) rfl) jFA)
  have j_35 := (WC_f (fun a i z => Fx_n F11 (show ¬ (a ≤ 76 ∧ ¬ a = 2) by omega) rfl) jWC)
  have j_36 := (NJ_f (fun a i z => Fx_n F11 (show ¬ (a ≤ 76 ∧ ¬ a = 2) by omega) rfl) jNJ)
  have j_37 := (PS_f (fun a i z => Fx_n F11 (show ¬ (a ≤ 76 ∧ ¬ a = 2) by omega) rfl) jPS)
  have j_38 := (KQ_f (fun a i z => Fx_n F11 (show ¬ (a ≤ 76 ∧ ¬ a = 2) by omega) rfl) jKQ)
  have j_39 := (TR_f (fun a i z => Fx_n F11 (show ¬ (a ≤ 76 ∧ ¬ a = 2) by omega) rfl) hR1)
  have j_40 := (W9_f (fun a i z => Fx_n F11 (show ¬ (a ≤ 76 ∧ ¬ a = 2) by omega) rfl) jW9)
  refine D_173 hX (by omega) hG12 (by omega) j_34 j_35 j_36 j_37 j_38 (by omega) j_39 j_40 (n := v7) (t := t) (nn := nn) (fun r41 M54 hG43 F42 p_44 p_45 p_46 p_47 p_48 p_49 p_50 p_51 p_52 p_53 => ?_)
  have n_55 : M54.1.2.1 = M21.1.2.1 ∧ M54.1.2.2.1 = M21.1.2.2.1 := by rw [F42.1]; exact ⟨rfl, rfl⟩
  have b_57 := g_b hG43 (a := 77) (i := 7) (lo := 0) (hi := 500) rfl rfl
  have b_58 := g_b hG43 (a := 77) (i := 6) (lo := 0) (hi := 500) rfl rfl
  have b_59 := g_b hG43 (a := 77) (i := 1) (lo := 0) (hi := 500) rfl rfl
  have z_60 := PAN_q (h1 := (M.2.1 1 1).toInt) (h2 := (M21.2.1 77 1).toInt) (by omega) p_19 p_52 p_20 p_53
  refine b_ceq (pc := 269) rw_0_269 (A := r10.toInt) (B := r41.toInt) rfl rfl (fun h61 => ?_) (fun h61 => ?_)
  · have c_62 : M54.2.1 1 1 = (M21.2.1 1 1) := (F_n F42 (show ¬ (1 = 77 ∨ 79 < 1 ∧ 1 ≤ 87 ∨ 1 = 100) by omega) rfl)
    have t_63 : (M54.2.1 1 1).toInt = (M21.2.1 1 1).toInt := congrArg Int32.toInt c_62
    have j_64 := (PI_f (fun a i z => F_n F42 (show ¬ (a = 77 ∨ 79 < a ∧ a ≤ 87 ∨ a = 100) by omega) rfl) p_15)
    have j_65 := (NI_f (fun a i z => F_n F42 (show ¬ (a = 77 ∨ 79 < a ∧ a ≤ 87 ∨ a = 100) by omega) rfl) p_17)
    have j_66 := (QI_f (fun a i z => F_n F42 (show ¬ (a = 77 ∨ 79 < a ∧ a ≤ 87 ∨ a = 100) by omega) rfl) p_18)
    have j_67 := (PQE_r F42.2.1 (PQE_pp hpz9 hpzz9 hqz9 hqzz9 p_16))
    have j_68 := (TP_f (fun a i z => F_n F42 (show ¬ (a = 77 ∨ 79 < a ∧ a ≤ 87 ∨ a = 100) by omega) rfl) z_25)
    have j_69 := (W9_f (fun a i z => F_n F42 (show ¬ (a = 77 ∨ 79 < a ∧ a ≤ 87 ∨ a = 100) by omega) rfl) j_40)
    exact h M54 (u5) (u6) ⟨⟨hG43, ⟨j_64, j_65, j_66, j_67⟩, ⟨p_45, p_46, p_47, p_48, p_49⟩, by omega, by omega⟩, j_68, j_69⟩ (by omega) (by omega)
  · exfalso; omega
set_option maxRecDepth 4000 in
set_option maxHeartbeats 0 in
theorem LW_2 {X : mm_X} {d L : Nat} {M : mm_M} {Q : Option Value → mm_M → Prop} {i : Int32} {u5 u6 : Value} (hX : g_X X) (hW : g_W X) (hL : (X 0).1 = L) (h3 : L ≤ 3072) (hd : 40 ≤ d) (hi : 0 ≤ i.toInt) (hi2 : i.toInt + 6 ≤ (L : Int)) (H : LI3 M) (h : ∀ (M1 : mm_M) (v5 v6 : Value), LI3 M1 → M1.1.2.1 ≤ M.1.2.1 + 1 → M1.1.2.2.1 ≤ M.1.2.2.1 + 6 → mm_T X d 0 1313 [.ref mm_ext, .ref 0, .ref 77, .ref 125, .int i, v5, v6] [] M1 Q) : mm_T X d 0 274 [.ref mm_ext, .ref 0, .ref 77, .ref 125, .int i, u5, u6] [] M Q := by
  obtain ⟨⟨hG, ⟨jPI, jNI, jQI, jPQE⟩, ⟨jFA, jWC, jNJ, jPS, jKQ⟩, jJ, jE⟩, jTP, jW9⟩ := H
  have b_1 := g_b hG (a := 77) (i := 7) (lo := 0) (hi := 500) rfl rfl
  have b_2 := g_b hG (a := 77) (i := 6) (lo := 0) (hi := 500) rfl rfl
  have b_3 := g_b hG (a := 1) (i := 1) (lo := 0) (hi := 500) rfl rfl
  have b_4 := g_b hG (a := 77) (i := 1) (lo := 0) (hi := 500) rfl rfl
  refine to_an (pc := 274) rw_0_274 rfl ?_
  refine to_an (pc := 275) rw_0_275 rfl ?_
  refine to_i (pc := 276) rw_0_276 rfl ?_
  refine to_c (pc := 278) rw_0_278 (x := (1 : Int32)) rfl rfl ?_
  refine s_add (pc := 279) rw_0_279 (A := i.toInt) (B := 1) rfl rfl (by omega) (fun v5 e6 => ?_)
  refine s_x0 (pc := 280) rw_0_280 hL (A := v5.toInt) rfl (by omega) (by omega) (fun v7 e8 => ?_)
  refine s_v (pc := 281) rw_0_281 (by omega) (ls0 := [.ref 0, .int v7]) rfl (Nat.le_of_ble_eq_true rfl) (Nat.le_of_ble_eq_true rfl) rfl (to_rc rfl rfl rfl (g_o hG rfl)) rfl ?_
  obtain ⟨pz9, pzz9, qz9, qzz9, hpz9, hpzz9, hqz9, hqzz9, hpqz9⟩ := id jPQE
  refine C_112 hX (by omega) hG hpz9 hpzz9 hqz9 hqzz9 hpqz9 jNI jPI jQI (n := v7) (p := pz9) (pz := pzz9) (q := qz9) (qz := qzz9) (fun r10 M18 hG12 F11 p_13 p_14 p_15 p_16 p_17 => ?_)
  have n_19 : M18.1.2.1 = M.1.2.1 ∧ M18.1.2.2.1 = M.1.2.2.1 := by rw [F11.1]; exact ⟨rfl, rfl⟩
  have b_21 := g_b hG12 (a := 1) (i := 1) (lo := 0) (hi := 500) rfl rfl
  have z_22 := TP_s jTP (by omega) (fun a i z => (F_n F11 (show ¬ (a ≤ 76 ∧ ¬ a = 2) by omega) rfl))
  refine to_popi (pc := 284) rw_0_284 ?_
  refine to_an (pc := 285) rw_0_285 rfl ?_
  refine to_an (pc := 286) rw_0_286 rfl ?_
  refine to_i (pc := 287) rw_0_287 rfl ?_
  refine to_c (pc := 289) rw_0_289 (x := (1 : Int32)) rfl rfl ?_
  refine s_addk (pc := 290) rw_0_290 (A := i.toInt) (B := 1) rfl rfl (by omega) (v := v5) e6 ?_
  refine s_x0k (pc := 291) rw_0_291 hL (A := v5.toInt) rfl (by omega) (by omega) (v := v7) e8 ?_
  refine s_v (pc := 292) rw_0_292 (by omega) (ls0 := [.ref 77, .int v7]) rfl (Nat.le_of_ble_eq_true rfl) (Nat.le_of_ble_eq_true rfl) rfl (to_rc rfl rfl rfl (g_o hG12 rfl)) rfl ?_
  have c_25 : M18.2.1 77 1 = (M.2.1 77 1) := (F_n F11 (show ¬ (77 ≤ 76 ∧ ¬ 77 = 2) by omega) rfl)
  have t_26 : (M18.2.1 77 1).toInt = (M.2.1 77 1).toInt := congrArg Int32.toInt c_25
  have c_27 : M18.2.1 77 7 = (M.2.1 77 7) := (F_n F11 (show ¬ (77 ≤ 76 ∧ ¬ 77 = 2) by omega) rfl)
  have t_28 : (M18.2.1 77 7).toInt = (M.2.1 77 7).toInt := congrArg Int32.toInt c_27
  have c_29 : M18.2.1 77 6 = (M.2.1 77 6) := (F_n F11 (show ¬ (77 ≤ 76 ∧ ¬ 77 = 2) by omega) rfl)
  have t_30 : (M18.2.1 77 6).toInt = (M.2.1 77 6).toInt := congrArg Int32.toInt c_29
  have j_31 := (FA_f (fun a i z => F_n F11 (show ¬ (a ≤ 76 ∧ ¬ a = 2) by omega) rfl) jFA)
  have j_32 := (WC_f (fun a i z => F_n F11 (show ¬ (a ≤ 76 ∧ ¬ a = 2) by omega) rfl) jWC)
  have j_33 := (NJ_f (fun a i z => F_n F11 (show ¬ (a ≤ 76 ∧ ¬ a = 2) by omega) rfl) jNJ)
  have j_34 := (PS_f (fun a i z => F_n F11 (show ¬ (a ≤ 76 ∧ ¬ a = 2) by omega) rfl) jPS)
  have j_35 := (KQ_f (fun a i z => F_n F11 (show ¬ (a ≤ 76 ∧ ¬ a = 2) by omega) rfl) jKQ)
  refine C_219 hX (by omega) hG12 (by omega) j_31 j_32 j_33 j_34 j_35 (n := v7) (fun r36 M47 hG38 F37 p_39 p_40 p_41 p_42 p_43 p_44 p_45 p_46 => ?_)
  have n_48 : M47.1.2.1 = M18.1.2.1 ∧ M47.1.2.2.1 = M18.1.2.2.1 := by rw [F37.1]; exact ⟨rfl, rfl⟩
  have b_50 := g_b hG38 (a := 77) (i := 7) (lo := 0) (hi := 500) rfl rfl
  have b_51 := g_b hG38 (a := 77) (i := 6) (lo := 0) (hi := 500) rfl rfl
  have b_52 := g_b hG38 (a := 77) (i := 1) (lo := 0) (hi := 500) rfl rfl
  refine to_popi (pc := 295) rw_0_295 ?_
  refine to_go (pc := 296) rw_0_296 ?_
  have c_53 : M47.2.1 1 1 = (M18.2.1 1 1) := (F_n F37 (show ¬ (1 = 77 ∧ (1 ≤ 1 ∧ 1 ≤ 2 ∨ 4 ≤ 1 ∧ 1 ≤ 10 ∨ 42 ≤ 1 ∧ 1 ≤ 44 ∨ 1 = 52) ∨ 94 ≤ 1 ∧ 1 ≤ 111) by omega) rfl)
  have t_54 : (M47.2.1 1 1).toInt = (M18.2.1 1 1).toInt := congrArg Int32.toInt c_53
  have j_55 := (PI_f (fun a i z => F_n F37 (show ¬ (a = 77 ∧ (1 ≤ i ∧ i ≤ 2 ∨ 4 ≤ i ∧ i ≤ 10 ∨ 42 ≤ i ∧ i ≤ 44 ∨ i = 52) ∨ 94 ≤ a ∧ a ≤ 111) by omega) rfl) p_15)
  have j_56 := (NI_f (fun a i z => F_n F37 (show ¬ (a = 77 ∧ (1 ≤ i ∧ i ≤ 2 ∨ 4 ≤ i ∧ i ≤ 10 ∨ 42 ≤ i ∧ i ≤ 44 ∨ i = 52) ∨ 94 ≤ a ∧ a ≤ 111) by omega) rfl) p_16)
  have j_57 := (QI_f (fun a i z => F_n F37 (show ¬ (a = 77 ∧ (1 ≤ i ∧ i ≤ 2 ∨ 4 ≤ i ∧ i ≤ 10 ∨ 42 ≤ i ∧ i ≤ 44 ∨ i = 52) ∨ 94 ≤ a ∧ a ≤ 111) by omega) rfl) p_17)
  have j_58 := (PQE_r F37.2.1 (PQE_r F11.2.1 jPQE))
  have j_59 := (TP_f (fun a i z => F_n F37 (show ¬ (a = 77 ∧ (1 ≤ i ∧ i ≤ 2 ∨ 4 ≤ i ∧ i ≤ 10 ∨ 42 ≤ i ∧ i ≤ 44 ∨ i = 52) ∨ 94 ≤ a ∧ a ≤ 111) by omega) rfl) z_22)
  have j_60 := (W9_f (fun a i z => F_n F37 (show ¬ (a = 77 ∧ (1 ≤ i ∧ i ≤ 2 ∨ 4 ≤ i ∧ i ≤ 10 ∨ 42 ≤ i ∧ i ≤ 44 ∨ i = 52) ∨ 94 ≤ a ∧ a ≤ 111) by omega) rfl) (W9_f (fun a i z => F_n F11 (show ¬ (a ≤ 76 ∧ ¬ a = 2) by omega) rfl) jW9))
  exact h M47 (u5) (u6) ⟨⟨hG38, ⟨j_55, j_56, j_57, j_58⟩, ⟨p_40, p_41, p_42, p_43, p_44⟩, by omega, by omega⟩, j_59, j_60⟩ (by omega) (by omega)
set_option maxRecDepth 4000 in
set_option maxHeartbeats 0 in
theorem LW_3 {X : mm_X} {d L : Nat} {M : mm_M} {Q : Option Value → mm_M → Prop} {i : Int32} {u5 u6 : Value} (hX : g_X X) (hW : g_W X) (hL : (X 0).1 = L) (h3 : L ≤ 3072) (hd : 40 ≤ d) (hi : 0 ≤ i.toInt) (hi2 : i.toInt + 6 ≤ (L : Int)) (H : LI3 M) (h : ∀ (M1 : mm_M) (v5 v6 : Value), LI3 M1 → M1.1.2.1 ≤ M.1.2.1 + 1 → M1.1.2.2.1 ≤ M.1.2.2.1 + 6 → mm_T X d 0 1313 [.ref mm_ext, .ref 0, .ref 77, .ref 125, .int i, v5, v6] [] M1 Q) : mm_T X d 0 299 [.ref mm_ext, .ref 0, .ref 77, .ref 125, .int i, u5, u6] [] M Q := by
  obtain ⟨⟨hG, ⟨jPI, jNI, jQI, jPQE⟩, ⟨jFA, jWC, jNJ, jPS, jKQ⟩, jJ, jE⟩, jTP, jW9⟩ := H
  have b_1 := g_b hG (a := 77) (i := 7) (lo := 0) (hi := 500) rfl rfl
  have b_2 := g_b hG (a := 77) (i := 6) (lo := 0) (hi := 500) rfl rfl
  have b_3 := g_b hG (a := 1) (i := 1) (lo := 0) (hi := 500) rfl rfl
  have b_4 := g_b hG (a := 77) (i := 1) (lo := 0) (hi := 500) rfl rfl
  refine to_an (pc := 299) rw_0_299 rfl ?_
  refine to_an (pc := 300) rw_0_300 rfl ?_
  refine to_i (pc := 301) rw_0_301 rfl ?_
  refine to_c (pc := 303) rw_0_303 (x := (1 : Int32)) rfl rfl ?_
  refine s_add (pc := 304) rw_0_304 (A := i.toInt) (B := 1) rfl rfl (by omega) (fun v5 e6 => ?_)
  refine s_x0 (pc := 305) rw_0_305 hL (A := v5.toInt) rfl (by omega) (by omega) (fun v7 e8 => ?_)
  refine s_v (pc := 306) rw_0_306 (by omega) (ls0 := [.ref 0, .int v7, .null]) rfl (Nat.le_of_ble_eq_true rfl) (Nat.le_of_ble_eq_true rfl) rfl (to_rc rfl rfl rfl (g_o hG rfl)) rfl ?_
  obtain ⟨pz9, pzz9, qz9, qzz9, hpz9, hpzz9, hqz9, hqzz9, hpqz9⟩ := id jPQE
  refine C_113 hX (by omega) hG hpz9 hpzz9 hqz9 hqzz9 hpqz9 jQI jPI jNI (n := v7) (p := pz9) (pz := pzz9) (q := qz9) (qz := qzz9) (fun r10 M19 hG12 F11 p_13 p_14 p_15 p_16 p_17 p_18 => ?_)
  have n_20 : M19.1.2.1 = M.1.2.1 ∧ M19.1.2.2.1 = M.1.2.2.1 := by rw [F11.1]; exact ⟨rfl, rfl⟩
  have b_22 := g_b hG12 (a := 1) (i := 1) (lo := 0) (hi := 500) rfl rfl
  have z_23 := TP_s jTP (by omega) (fun a i z => (Fx_n F11 (show ¬ (a ≤ 76 ∧ ¬ a = 2) by omega) rfl))
  refine to_popi (pc := 309) rw_0_309 ?_
  refine to_an (pc := 310) rw_0_310 rfl ?_
  refine to_an (pc := 311) rw_0_311 rfl ?_
  refine to_i (pc := 312) rw_0_312 rfl ?_
  refine to_c (pc := 314) rw_0_314 (x := (1 : Int32)) rfl rfl ?_
  refine s_addk (pc := 315) rw_0_315 (A := i.toInt) (B := 1) rfl rfl (by omega) (v := v5) e6 ?_
  refine s_x0k (pc := 316) rw_0_316 hL (A := v5.toInt) rfl (by omega) (by omega) (v := v7) e8 ?_
  refine s_v (pc := 317) rw_0_317 (by omega) (ls0 := [.ref 77, .int v7, .null]) rfl (Nat.le_of_ble_eq_true rfl) (Nat.le_of_ble_eq_true rfl) rfl (to_rc rfl rfl rfl (g_o hG12 rfl)) rfl ?_
  have c_26 : M19.2.1 77 1 = (M.2.1 77 1) := (Fx_n F11 (show ¬ (77 ≤ 76 ∧ ¬ 77 = 2) by omega) rfl)
  have t_27 : (M19.2.1 77 1).toInt = (M.2.1 77 1).toInt := congrArg Int32.toInt c_26
  have c_28 : M19.2.1 77 7 = (M.2.1 77 7) := (Fx_n F11 (show ¬ (77 ≤ 76 ∧ ¬ 77 = 2) by omega) rfl)
  have t_29 : (M19.2.1 77 7).toInt = (M.2.1 77 7).toInt := congrArg Int32.toInt c_28
  have c_30 : M19.2.1 77 6 = (M.2.1 77 6) := (Fx_n F11 (show ¬ (77 ≤ 76 ∧ ¬ 77 = 2) by omega) rfl)
  have t_31 : (M19.2.1 77 6).toInt = (M.2.1 77 6).toInt := congrArg Int32.toInt c_30
  have j_32 := (FA_f (fun a i z => Fx_n F11 (show ¬ (a ≤ 76 ∧ ¬ a = 2) by omega) rfl) jFA)
  have j_33 := (WC_f (fun a i z => Fx_n F11 (show ¬ (a ≤ 76 ∧ ¬ a = 2) by omega) rfl) jWC)
  have j_34 := (NJ_f (fun a i z => Fx_n F11 (show ¬ (a ≤ 76 ∧ ¬ a = 2) by omega) rfl) jNJ)
  have j_35 := (PS_f (fun a i z => Fx_n F11 (show ¬ (a ≤ 76 ∧ ¬ a = 2) by omega) rfl) jPS)
  have j_36 := (KQ_f (fun a i z => Fx_n F11 (show ¬ (a ≤ 76 ∧ ¬ a = 2) by omega) rfl) jKQ)
  refine C_227 hX (by omega) hG12 (by omega) j_32 j_33 j_34 j_35 j_36 (n := v7) (fun r37 M48 hG39 F38 p_40 p_41 p_42 p_43 p_44 p_45 p_46 p_47 => ?_)
  have n_49 : M48.1.2.1 = M19.1.2.1 ∧ M48.1.2.2.1 = M19.1.2.2.1 := by rw [F38.1]; exact ⟨rfl, rfl⟩
  have b_51 := g_b hG39 (a := 77) (i := 7) (lo := 0) (hi := 500) rfl rfl
  have b_52 := g_b hG39 (a := 77) (i := 6) (lo := 0) (hi := 500) rfl rfl
  have b_53 := g_b hG39 (a := 77) (i := 1) (lo := 0) (hi := 500) rfl rfl
  refine to_popi (pc := 320) rw_0_320 ?_
  refine to_go (pc := 321) rw_0_321 ?_
  have c_54 : M48.2.1 1 1 = (M19.2.1 1 1) := (F_n F38 (show ¬ (1 = 77 ∧ (1 ≤ 1 ∧ 1 ≤ 2 ∨ 4 ≤ 1 ∧ 1 ≤ 10 ∨ 57 ≤ 1 ∧ 1 ≤ 59 ∨ 65 ≤ 1 ∧ 1 ≤ 69) ∨ 112 ≤ 1 ∧ 1 ≤ 116) by omega) rfl)
  have t_55 : (M48.2.1 1 1).toInt = (M19.2.1 1 1).toInt := congrArg Int32.toInt c_54
  have j_56 := (PI_f (fun a i z => F_n F38 (show ¬ (a = 77 ∧ (1 ≤ i ∧ i ≤ 2 ∨ 4 ≤ i ∧ i ≤ 10 ∨ 57 ≤ i ∧ i ≤ 59 ∨ 65 ≤ i ∧ i ≤ 69) ∨ 112 ≤ a ∧ a ≤ 116) by omega) rfl) p_17)
  have j_57 := (NI_f (fun a i z => F_n F38 (show ¬ (a = 77 ∧ (1 ≤ i ∧ i ≤ 2 ∨ 4 ≤ i ∧ i ≤ 10 ∨ 57 ≤ i ∧ i ≤ 59 ∨ 65 ≤ i ∧ i ≤ 69) ∨ 112 ≤ a ∧ a ≤ 116) by omega) rfl) p_18)
  have j_58 := (QI_f (fun a i z => F_n F38 (show ¬ (a = 77 ∧ (1 ≤ i ∧ i ≤ 2 ∨ 4 ≤ i ∧ i ≤ 10 ∨ 57 ≤ i ∧ i ≤ 59 ∨ 65 ≤ i ∧ i ≤ 69) ∨ 112 ≤ a ∧ a ≤ 116) by omega) rfl) p_15)
  have j_59 := (PQE_r F38.2.1 (PQE_qq hpz9 hpzz9 hqz9 hqzz9 p_16))
  have j_60 := (TP_f (fun a i z => F_n F38 (show ¬ (a = 77 ∧ (1 ≤ i ∧ i ≤ 2 ∨ 4 ≤ i ∧ i ≤ 10 ∨ 57 ≤ i ∧ i ≤ 59 ∨ 65 ≤ i ∧ i ≤ 69) ∨ 112 ≤ a ∧ a ≤ 116) by omega) rfl) z_23)
  have j_61 := (W9_f (fun a i z => F_n F38 (show ¬ (a = 77 ∧ (1 ≤ i ∧ i ≤ 2 ∨ 4 ≤ i ∧ i ≤ 10 ∨ 57 ≤ i ∧ i ≤ 59 ∨ 65 ≤ i ∧ i ≤ 69) ∨ 112 ≤ a ∧ a ≤ 116) by omega) rfl) (W9_f (fun a i z => Fx_n F11 (show ¬ (a ≤ 76 ∧ ¬ a = 2) by omega) rfl) jW9))
  exact h M48 (u5) (u6) ⟨⟨hG39, ⟨j_56, j_57, j_58, j_59⟩, ⟨p_41, p_42, p_43, p_44, p_45⟩, by omega, by omega⟩, j_60, j_61⟩ (by omega) (by omega)
set_option maxRecDepth 4000 in
set_option maxHeartbeats 0 in
theorem LW_4 {X : mm_X} {d L : Nat} {M : mm_M} {Q : Option Value → mm_M → Prop} {i : Int32} {u5 u6 : Value} (hX : g_X X) (hW : g_W X) (hL : (X 0).1 = L) (h3 : L ≤ 3072) (hd : 40 ≤ d) (hi : 0 ≤ i.toInt) (hi2 : i.toInt + 6 ≤ (L : Int)) (H : LI3 M) (h : ∀ (M1 : mm_M) (v5 v6 : Value), LI3 M1 → M1.1.2.1 ≤ M.1.2.1 + 1 → M1.1.2.2.1 ≤ M.1.2.2.1 + 6 → mm_T X d 0 1313 [.ref mm_ext, .ref 0, .ref 77, .ref 125, .int i, v5, v6] [] M1 Q) : mm_T X d 0 324 [.ref mm_ext, .ref 0, .ref 77, .ref 125, .int i, u5, u6] [] M Q := by
  obtain ⟨⟨hG, ⟨jPI, jNI, jQI, jPQE⟩, ⟨jFA, jWC, jNJ, jPS, jKQ⟩, jJ, jE⟩, jTP, jW9⟩ := H
  have b_1 := g_b hG (a := 77) (i := 7) (lo := 0) (hi := 500) rfl rfl
  have b_2 := g_b hG (a := 77) (i := 6) (lo := 0) (hi := 500) rfl rfl
  have b_3 := g_b hG (a := 1) (i := 1) (lo := 0) (hi := 500) rfl rfl
  have b_4 := g_b hG (a := 77) (i := 1) (lo := 0) (hi := 500) rfl rfl
  refine to_an (pc := 324) rw_0_324 rfl ?_
  refine to_an (pc := 325) rw_0_325 rfl ?_
  refine to_i (pc := 326) rw_0_326 rfl ?_
  refine to_c (pc := 328) rw_0_328 (x := (1 : Int32)) rfl rfl ?_
  refine s_add (pc := 329) rw_0_329 (A := i.toInt) (B := 1) rfl rfl (by omega) (fun v5 e6 => ?_)
  refine s_x0 (pc := 330) rw_0_330 hL (A := v5.toInt) rfl (by omega) (by omega) (fun v7 e8 => ?_)
  refine s_v (pc := 331) rw_0_331 (by omega) (ls0 := [.ref 0, .int v7]) rfl (Nat.le_of_ble_eq_true rfl) (Nat.le_of_ble_eq_true rfl) rfl (to_rc rfl rfl rfl (g_o hG rfl)) rfl ?_
  obtain ⟨pz9, pzz9, qz9, qzz9, hpz9, hpzz9, hqz9, hqzz9, hpqz9⟩ := id jPQE
  refine C_114 hX (by omega) hG hpz9 hpzz9 hqz9 hqzz9 hpqz9 (w := v7) (p := pz9) (pz := pzz9) (q := qz9) (qz := qzz9) (fun r10 M13 hG12 F11 => ?_)
  have n_14 : M13.1.2.1 = M.1.2.1 ∧ M13.1.2.2.1 = M.1.2.2.1 := by rw [F11.1]; exact ⟨rfl, rfl⟩
  refine to_popi (pc := 334) rw_0_334 ?_
  refine to_an (pc := 335) rw_0_335 rfl ?_
  refine to_an (pc := 336) rw_0_336 rfl ?_
  refine to_i (pc := 337) rw_0_337 rfl ?_
  refine to_c (pc := 339) rw_0_339 (x := (1 : Int32)) rfl rfl ?_
  refine s_addk (pc := 340) rw_0_340 (A := i.toInt) (B := 1) rfl rfl (by omega) (v := v5) e6 ?_
  refine s_x0k (pc := 341) rw_0_341 hL (A := v5.toInt) rfl (by omega) (by omega) (v := v7) e8 ?_
  refine s_v (pc := 342) rw_0_342 (by omega) (ls0 := [.ref 77, .int v7]) rfl (Nat.le_of_ble_eq_true rfl) (Nat.le_of_ble_eq_true rfl) rfl (to_rc rfl rfl rfl (g_o hG12 rfl)) rfl ?_
  refine C_174 hX (by omega) hG12 (w := v7) (fun r18 M21 hG20 F19 => ?_)
  have n_22 : M21.1.2.1 = M13.1.2.1 ∧ M21.1.2.2.1 = M13.1.2.2.1 := by rw [F19.1]; exact ⟨rfl, rfl⟩
  refine to_popi (pc := 345) rw_0_345 ?_
  refine to_go (pc := 346) rw_0_346 ?_
  have c_24 : M21.2.1 77 7 = (M.2.1 77 7) := (F_n F19 (show ¬ (77 = 77 ∧ 7 = 2) by omega) (F_n F11 (show ¬ (77 < 0) by omega) rfl))
  have t_25 : (M21.2.1 77 7).toInt = (M.2.1 77 7).toInt := congrArg Int32.toInt c_24
  have c_26 : M21.2.1 77 6 = (M.2.1 77 6) := (F_n F19 (show ¬ (77 = 77 ∧ 6 = 2) by omega) (F_n F11 (show ¬ (77 < 0) by omega) rfl))
  have t_27 : (M21.2.1 77 6).toInt = (M.2.1 77 6).toInt := congrArg Int32.toInt c_26
  have c_28 : M21.2.1 1 1 = (M.2.1 1 1) := (F_n F19 (show ¬ (1 = 77 ∧ 1 = 2) by omega) (F_n F11 (show ¬ (1 < 0) by omega) rfl))
  have t_29 : (M21.2.1 1 1).toInt = (M.2.1 1 1).toInt := congrArg Int32.toInt c_28
  have c_30 : M21.2.1 77 1 = (M.2.1 77 1) := (F_n F19 (show ¬ (77 = 77 ∧ 1 = 2) by omega) (F_n F11 (show ¬ (77 < 0) by omega) rfl))
  have t_31 : (M21.2.1 77 1).toInt = (M.2.1 77 1).toInt := congrArg Int32.toInt c_30
  have j_32 := (PI_f (fun a i z => F_n F19 (show ¬ (a = 77 ∧ i = 2) by omega) rfl) (PI_f (fun a i z => F_n F11 (show ¬ (a < 0) by omega) rfl) jPI))
  have j_33 := (NI_f (fun a i z => F_n F19 (show ¬ (a = 77 ∧ i = 2) by omega) rfl) (NI_f (fun a i z => F_n F11 (show ¬ (a < 0) by omega) rfl) jNI))
  have j_34 := (QI_f (fun a i z => F_n F19 (show ¬ (a = 77 ∧ i = 2) by omega) rfl) (QI_f (fun a i z => F_n F11 (show ¬ (a < 0) by omega) rfl) jQI))
  have j_35 := (PQE_r F19.2.1 (PQE_r F11.2.1 jPQE))
  have j_36 := (FA_f (fun a i z => F_n F19 (show ¬ (a = 77 ∧ i = 2) by omega) rfl) (FA_f (fun a i z => F_n F11 (show ¬ (a < 0) by omega) rfl) jFA))
  have j_37 := (WC_f (fun a i z => F_n F19 (show ¬ (a = 77 ∧ i = 2) by omega) rfl) (WC_f (fun a i z => F_n F11 (show ¬ (a < 0) by omega) rfl) jWC))
  have j_38 := (NJ_f (fun a i z => F_n F19 (show ¬ (a = 77 ∧ i = 2) by omega) rfl) (NJ_f (fun a i z => F_n F11 (show ¬ (a < 0) by omega) rfl) jNJ))
  have j_39 := (PS_f (fun a i z => F_n F19 (show ¬ (a = 77 ∧ i = 2) by omega) rfl) (PS_f (fun a i z => F_n F11 (show ¬ (a < 0) by omega) rfl) jPS))
  have j_40 := (KQ_f (fun a i z => F_n F19 (show ¬ (a = 77 ∧ i = 2) by omega) rfl) (KQ_f (fun a i z => F_n F11 (show ¬ (a < 0) by omega) rfl) jKQ))
  have j_41 := (TP_f (fun a i z => F_n F19 (show ¬ (a = 77 ∧ i = 2) by omega) rfl) (TP_f (fun a i z => F_n F11 (show ¬ (a < 0) by omega) rfl) jTP))
  have j_42 := (W9_f (fun a i z => F_n F19 (show ¬ (a = 77 ∧ i = 2) by omega) rfl) (W9_f (fun a i z => F_n F11 (show ¬ (a < 0) by omega) rfl) jW9))
  exact h M21 (u5) (u6) ⟨⟨hG20, ⟨j_32, j_33, j_34, j_35⟩, ⟨j_36, j_37, j_38, j_39, j_40⟩, by omega, by omega⟩, j_41, j_42⟩ (by omega) (by omega)
set_option maxRecDepth 4000 in
set_option maxHeartbeats 0 in
theorem LW_5 {X : mm_X} {d L : Nat} {M : mm_M} {Q : Option Value → mm_M → Prop} {i : Int32} {u5 u6 : Value} (hX : g_X X) (hW : g_W X) (hL : (X 0).1 = L) (h3 : L ≤ 3072) (hd : 40 ≤ d) (hi : 0 ≤ i.toInt) (hi2 : i.toInt + 6 ≤ (L : Int)) (H : LI3 M) (h : ∀ (M1 : mm_M) (v5 v6 : Value), LI3 M1 → M1.1.2.1 ≤ M.1.2.1 + 1 → M1.1.2.2.1 ≤ M.1.2.2.1 + 6 → mm_T X d 0 1313 [.ref mm_ext, .ref 0, .ref 77, .ref 125, .int i, v5, v6] [] M1 Q) : mm_T X d 0 349 [.ref mm_ext, .ref 0, .ref 77, .ref 125, .int i, u5, u6] [] M Q := by
  obtain ⟨⟨hG, ⟨jPI, jNI, jQI, jPQE⟩, ⟨jFA, jWC, jNJ, jPS, jKQ⟩, jJ, jE⟩, jTP, jW9⟩ := H
  have b_1 := g_b hG (a := 77) (i := 7) (lo := 0) (hi := 500) rfl rfl
  have b_2 := g_b hG (a := 77) (i := 6) (lo := 0) (hi := 500) rfl rfl
  have b_3 := g_b hG (a := 1) (i := 1) (lo := 0) (hi := 500) rfl rfl
  have b_4 := g_b hG (a := 77) (i := 1) (lo := 0) (hi := 500) rfl rfl
  refine to_an (pc := 349) rw_0_349 rfl ?_
  refine to_an (pc := 350) rw_0_350 rfl ?_
  refine to_i (pc := 351) rw_0_351 rfl ?_
  refine to_c (pc := 353) rw_0_353 (x := (1 : Int32)) rfl rfl ?_
  refine s_add (pc := 354) rw_0_354 (A := i.toInt) (B := 1) rfl rfl (by omega) (fun v5 e6 => ?_)
  refine s_x0 (pc := 355) rw_0_355 hL (A := v5.toInt) rfl (by omega) (by omega) (fun v7 e8 => ?_)
  refine to_an (pc := 356) rw_0_356 rfl ?_
  refine to_i (pc := 357) rw_0_357 rfl ?_
  refine to_c (pc := 359) rw_0_359 (x := (2 : Int32)) rfl rfl ?_
  refine s_add (pc := 360) rw_0_360 (A := i.toInt) (B := 2) rfl rfl (by omega) (fun v9 e10 => ?_)
  refine s_x0 (pc := 361) rw_0_361 hL (A := v9.toInt) rfl (by omega) (by omega) (fun v11 e12 => ?_)
  refine s_v (pc := 362) rw_0_362 (by omega) (ls0 := [.ref 0, .int v7, .int v11]) rfl (Nat.le_of_ble_eq_true rfl) (Nat.le_of_ble_eq_true rfl) rfl (to_rc rfl rfl rfl (g_o hG rfl)) rfl ?_
  obtain ⟨pz13, pzz13, qz13, qzz13, hpz13, hpzz13, hqz13, hqzz13, hpqz13⟩ := id jPQE
  refine C_115 hX (by omega) hG hpz13 hpzz13 hqz13 hqzz13 hpqz13 (w := v7) (l := v11) (p := pz13) (pz := pzz13) (q := qz13) (qz := qzz13) (fun r14 M17 hG16 F15 => ?_)
  have n_18 : M17.1.2.1 = M.1.2.1 ∧ M17.1.2.2.1 = M.1.2.2.1 := by rw [F15.1]; exact ⟨rfl, rfl⟩
  refine to_popi (pc := 365) rw_0_365 ?_
  refine to_an (pc := 366) rw_0_366 rfl ?_
  refine to_an (pc := 367) rw_0_367 rfl ?_
  refine to_i (pc := 368) rw_0_368 rfl ?_
  refine to_c (pc := 370) rw_0_370 (x := (1 : Int32)) rfl rfl ?_
  refine s_addk (pc := 371) rw_0_371 (A := i.toInt) (B := 1) rfl rfl (by omega) (v := v5) e6 ?_
  refine s_x0k (pc := 372) rw_0_372 hL (A := v5.toInt) rfl (by omega) (by omega) (v := v7) e8 ?_
  refine to_an (pc := 373) rw_0_373 rfl ?_
  refine to_i (pc := 374) rw_0_374 rfl ?_
  refine to_c (pc := 376) rw_0_376 (x := (2 : Int32)) rfl rfl ?_
  refine s_addk (pc := 377) rw_0_377 (A := i.toInt) (B := 2) rfl rfl (by omega) (v := v9) e10 ?_
  refine s_x0k (pc := 378) rw_0_378 hL (A := v9.toInt) rfl (by omega) (by omega) (v := v11) e12 ?_
  refine s_v (pc := 379) rw_0_379 (by omega) (ls0 := [.ref 77, .int v7, .int v11]) rfl (Nat.le_of_ble_eq_true rfl) (Nat.le_of_ble_eq_true rfl) rfl (to_rc rfl rfl rfl (g_o hG16 rfl)) rfl ?_
  refine C_177 hX (by omega) hG16 (w := v7) (n := v11) (fun r24 M27 hG26 F25 => ?_)
  have n_28 : M27.1.2.1 = M17.1.2.1 ∧ M27.1.2.2.1 = M17.1.2.2.1 := by rw [F25.1]; exact ⟨rfl, rfl⟩
  refine to_popi (pc := 382) rw_0_382 ?_
  refine to_go (pc := 383) rw_0_383 ?_
  have c_30 : M27.2.1 77 7 = (M.2.1 77 7) := (F_n F25 (show ¬ (77 = 77 ∧ 7 = 2) by omega) (F_n F15 (show ¬ (77 < 0) by omega) rfl))
  have t_31 : (M27.2.1 77 7).toInt = (M.2.1 77 7).toInt := congrArg Int32.toInt c_30
  have c_32 : M27.2.1 77 6 = (M.2.1 77 6) := (F_n F25 (show ¬ (77 = 77 ∧ 6 = 2) by omega) (F_n F15 (show ¬ (77 < 0) by omega) rfl))
  have t_33 : (M27.2.1 77 6).toInt = (M.2.1 77 6).toInt := congrArg Int32.toInt c_32
  have c_34 : M27.2.1 1 1 = (M.2.1 1 1) := (F_n F25 (show ¬ (1 = 77 ∧ 1 = 2) by omega) (F_n F15 (show ¬ (1 < 0) by omega) rfl))
  have t_35 : (M27.2.1 1 1).toInt = (M.2.1 1 1).toInt := congrArg Int32.toInt c_34
  have c_36 : M27.2.1 77 1 = (M.2.1 77 1) := (F_n F25 (show ¬ (77 = 77 ∧ 1 = 2) by omega) (F_n F15 (show ¬ (77 < 0) by omega) rfl))
  have t_37 : (M27.2.1 77 1).toInt = (M.2.1 77 1).toInt := congrArg Int32.toInt c_36
  have j_38 := (PI_f (fun a i z => F_n F25 (show ¬ (a = 77 ∧ i = 2) by omega) rfl) (PI_f (fun a i z => F_n F15 (show ¬ (a < 0) by omega) rfl) jPI))
  have j_39 := (NI_f (fun a i z => F_n F25 (show ¬ (a = 77 ∧ i = 2) by omega) rfl) (NI_f (fun a i z => F_n F15 (show ¬ (a < 0) by omega) rfl) jNI))
  have j_40 := (QI_f (fun a i z => F_n F25 (show ¬ (a = 77 ∧ i = 2) by omega) rfl) (QI_f (fun a i z => F_n F15 (show ¬ (a < 0) by omega) rfl) jQI))
  have j_41 := (PQE_r F25.2.1 (PQE_r F15.2.1 jPQE))
  have j_42 := (FA_f (fun a i z => F_n F25 (show ¬ (a = 77 ∧ i = 2) by omega) rfl) (FA_f (fun a i z => F_n F15 (show ¬ (a < 0) by omega) rfl) jFA))
  have j_43 := (WC_f (fun a i z => F_n F25 (show ¬ (a = 77 ∧ i = 2) by omega) rfl) (WC_f (fun a i z => F_n F15 (show ¬ (a < 0) by omega) rfl) jWC))
  have j_44 := (NJ_f (fun a i z => F_n F25 (show ¬ (a = 77 ∧ i = 2) by omega) rfl) (NJ_f (fun a i z => F_n F15 (show ¬ (a < 0) by omega) rfl) jNJ))
  have j_45 := (PS_f (fun a i z => F_n F25 (show ¬ (a = 77 ∧ i = 2) by omega) rfl) (PS_f (fun a i z => F_n F15 (show ¬ (a < 0) by omega) rfl) jPS))
  have j_46 := (KQ_f (fun a i z => F_n F25 (show ¬ (a = 77 ∧ i = 2) by omega) rfl) (KQ_f (fun a i z => F_n F15 (show ¬ (a < 0) by omega) rfl) jKQ))
  have j_47 := (TP_f (fun a i z => F_n F25 (show ¬ (a = 77 ∧ i = 2) by omega) rfl) (TP_f (fun a i z => F_n F15 (show ¬ (a < 0) by omega) rfl) jTP))
  have j_48 := (W9_f (fun a i z => F_n F25 (show ¬ (a = 77 ∧ i = 2) by omega) rfl) (W9_f (fun a i z => F_n F15 (show ¬ (a < 0) by omega) rfl) jW9))
  exact h M27 (u5) (u6) ⟨⟨hG26, ⟨j_38, j_39, j_40, j_41⟩, ⟨j_42, j_43, j_44, j_45, j_46⟩, by omega, by omega⟩, j_47, j_48⟩ (by omega) (by omega)
set_option maxRecDepth 4000 in
set_option maxHeartbeats 0 in
theorem LW_6 {X : mm_X} {d L : Nat} {M : mm_M} {Q : Option Value → mm_M → Prop} {i : Int32} {u5 u6 : Value} (hX : g_X X) (hW : g_W X) (hL : (X 0).1 = L) (h3 : L ≤ 3072) (hd : 40 ≤ d) (hi : 0 ≤ i.toInt) (hi2 : i.toInt + 6 ≤ (L : Int)) (H : LI3 M) (h : ∀ (M1 : mm_M) (v5 v6 : Value), LI3 M1 → M1.1.2.1 ≤ M.1.2.1 + 1 → M1.1.2.2.1 ≤ M.1.2.2.1 + 6 → mm_T X d 0 1313 [.ref mm_ext, .ref 0, .ref 77, .ref 125, .int i, v5, v6] [] M1 Q) : mm_T X d 0 386 [.ref mm_ext, .ref 0, .ref 77, .ref 125, .int i, u5, u6] [] M Q := by
  obtain ⟨⟨hG, ⟨jPI, jNI, jQI, jPQE⟩, ⟨jFA, jWC, jNJ, jPS, jKQ⟩, jJ, jE⟩, jTP, jW9⟩ := H
  have b_1 := g_b hG (a := 77) (i := 7) (lo := 0) (hi := 500) rfl rfl
  have b_2 := g_b hG (a := 77) (i := 6) (lo := 0) (hi := 500) rfl rfl
  have b_3 := g_b hG (a := 1) (i := 1) (lo := 0) (hi := 500) rfl rfl
  have b_4 := g_b hG (a := 77) (i := 1) (lo := 0) (hi := 500) rfl rfl
  refine to_an (pc := 386) rw_0_386 rfl ?_
  refine to_an (pc := 387) rw_0_387 rfl ?_
  refine to_i (pc := 388) rw_0_388 rfl ?_
  refine to_c (pc := 390) rw_0_390 (x := (1 : Int32)) rfl rfl ?_
  refine s_add (pc := 391) rw_0_391 (A := i.toInt) (B := 1) rfl rfl (by omega) (fun v5 e6 => ?_)
  refine s_x0 (pc := 392) rw_0_392 hL (A := v5.toInt) rfl (by omega) (by omega) (fun v7 e8 => ?_)
  refine to_an (pc := 393) rw_0_393 rfl ?_
  refine to_i (pc := 394) rw_0_394 rfl ?_
  refine to_c (pc := 396) rw_0_396 (x := (2 : Int32)) rfl rfl ?_
  refine s_add (pc := 397) rw_0_397 (A := i.toInt) (B := 2) rfl rfl (by omega) (fun v9 e10 => ?_)
  refine s_x0 (pc := 398) rw_0_398 hL (A := v9.toInt) rfl (by omega) (by omega) (fun v11 e12 => ?_)
  refine to_an (pc := 399) rw_0_399 rfl ?_
  refine s_lk (pc := 400) rw_0_400 (by omega) rfl hG jPQE (fun r13 M17 hG14 K15 K16 n_a n_b => ?_)
  refine to_is (pc := 403) rw_0_403 (ls2 := [.ref mm_ext, .ref 0, .ref 77, .ref 125, .int i, .int r13, u6]) rfl rfl ?_
  refine to_an (pc := 405) rw_0_405 rfl ?_
  refine to_an (pc := 406) rw_0_406 rfl ?_
  refine to_i (pc := 407) rw_0_407 rfl ?_
  refine to_c (pc := 409) rw_0_409 (x := (1 : Int32)) rfl rfl ?_
  refine s_addk (pc := 410) rw_0_410 (A := i.toInt) (B := 1) rfl rfl (by omega) (v := v5) e6 ?_
  refine s_x0k (pc := 411) rw_0_411 hL (A := v5.toInt) rfl (by omega) (by omega) (v := v7) e8 ?_
  refine to_an (pc := 412) rw_0_412 rfl ?_
  refine to_i (pc := 413) rw_0_413 rfl ?_
  refine to_c (pc := 415) rw_0_415 (x := (2 : Int32)) rfl rfl ?_
  refine s_addk (pc := 416) rw_0_416 (A := i.toInt) (B := 2) rfl rfl (by omega) (v := v9) e10 ?_
  refine s_x0k (pc := 417) rw_0_417 hL (A := v9.toInt) rfl (by omega) (by omega) (v := v11) e12 ?_
  refine s_v (pc := 418) rw_0_418 (by omega) (ls0 := [.ref 77, .int v7, .int v11]) rfl (Nat.le_of_ble_eq_true rfl) (Nat.le_of_ble_eq_true rfl) rfl (to_rc rfl rfl rfl (g_o hG14 rfl)) rfl ?_
  refine C_182 hX (by omega) hG14 (f := v7) (w := v11) (fun r22 M25 hG24 F23 => ?_)
  have n_26 : M25.1.2.1 = M17.1.2.1 ∧ M25.1.2.2.1 = M17.1.2.2.1 := by rw [F23.1]; exact ⟨rfl, rfl⟩
  refine to_is (pc := 421) rw_0_421 (ls2 := [.ref mm_ext, .ref 0, .ref 77, .ref 125, .int i, .int r13, .int r22]) rfl rfl ?_
  refine to_go (pc := 423) rw_0_423 ?_
  have c_28 : M25.2.1 77 7 = (M.2.1 77 7) := (F_n F23 (show ¬ (77 = 77 ∧ 7 = 2) by omega) (K_n K15 rfl))
  have t_29 : (M25.2.1 77 7).toInt = (M.2.1 77 7).toInt := congrArg Int32.toInt c_28
  have c_30 : M25.2.1 77 6 = (M.2.1 77 6) := (F_n F23 (show ¬ (77 = 77 ∧ 6 = 2) by omega) (K_n K15 rfl))
  have t_31 : (M25.2.1 77 6).toInt = (M.2.1 77 6).toInt := congrArg Int32.toInt c_30
  have c_32 : M25.2.1 1 1 = (M.2.1 1 1) := (F_n F23 (show ¬ (1 = 77 ∧ 1 = 2) by omega) (K_n K15 rfl))
  have t_33 : (M25.2.1 1 1).toInt = (M.2.1 1 1).toInt := congrArg Int32.toInt c_32
  have c_34 : M25.2.1 77 1 = (M.2.1 77 1) := (F_n F23 (show ¬ (77 = 77 ∧ 1 = 2) by omega) (K_n K15 rfl))
  have t_35 : (M25.2.1 77 1).toInt = (M.2.1 77 1).toInt := congrArg Int32.toInt c_34
  have j_36 := (PI_f (fun a i z => F_n F23 (show ¬ (a = 77 ∧ i = 2) by omega) rfl) (PI_f (fun a i z => K_n K15 rfl) jPI))
  have j_37 := (NI_f (fun a i z => F_n F23 (show ¬ (a = 77 ∧ i = 2) by omega) rfl) (NI_f (fun a i z => K_n K15 rfl) jNI))
  have j_38 := (QI_f (fun a i z => F_n F23 (show ¬ (a = 77 ∧ i = 2) by omega) rfl) (QI_f (fun a i z => K_n K15 rfl) jQI))
  have j_39 := (PQE_r F23.2.1 (PQE_r K16 jPQE))
  have j_40 := (FA_f (fun a i z => F_n F23 (show ¬ (a = 77 ∧ i = 2) by omega) rfl) (FA_f (fun a i z => K_n K15 rfl) jFA))
  have j_41 := (WC_f (fun a i z => F_n F23 (show ¬ (a = 77 ∧ i = 2) by omega) rfl) (WC_f (fun a i z => K_n K15 rfl) jWC))
  have j_42 := (NJ_f (fun a i z => F_n F23 (show ¬ (a = 77 ∧ i = 2) by omega) rfl) (NJ_f (fun a i z => K_n K15 rfl) jNJ))
  have j_43 := (PS_f (fun a i z => F_n F23 (show ¬ (a = 77 ∧ i = 2) by omega) rfl) (PS_f (fun a i z => K_n K15 rfl) jPS))
  have j_44 := (KQ_f (fun a i z => F_n F23 (show ¬ (a = 77 ∧ i = 2) by omega) rfl) (KQ_f (fun a i z => K_n K15 rfl) jKQ))
  have j_45 := (TP_f (fun a i z => F_n F23 (show ¬ (a = 77 ∧ i = 2) by omega) rfl) (TP_f (fun a i z => K_n K15 rfl) jTP))
  have j_46 := (W9_f (fun a i z => F_n F23 (show ¬ (a = 77 ∧ i = 2) by omega) rfl) (W9_f (fun a i z => K_n K15 rfl) jW9))
  exact h M25 (.int r13) (.int r22) ⟨⟨hG24, ⟨j_36, j_37, j_38, j_39⟩, ⟨j_40, j_41, j_42, j_43, j_44⟩, by omega, by omega⟩, j_45, j_46⟩ (by omega) (by omega)
set_option maxRecDepth 4000 in
set_option maxHeartbeats 0 in
theorem LW_7 {X : mm_X} {d L : Nat} {M : mm_M} {Q : Option Value → mm_M → Prop} {i : Int32} {u5 u6 : Value} (hX : g_X X) (hW : g_W X) (hL : (X 0).1 = L) (h3 : L ≤ 3072) (hd : 40 ≤ d) (hi : 0 ≤ i.toInt) (hi2 : i.toInt + 6 ≤ (L : Int)) (H : LI3 M) (h : ∀ (M1 : mm_M) (v5 v6 : Value), LI3 M1 → M1.1.2.1 ≤ M.1.2.1 + 1 → M1.1.2.2.1 ≤ M.1.2.2.1 + 6 → mm_T X d 0 1313 [.ref mm_ext, .ref 0, .ref 77, .ref 125, .int i, v5, v6] [] M1 Q) : mm_T X d 0 426 [.ref mm_ext, .ref 0, .ref 77, .ref 125, .int i, u5, u6] [] M Q := by
  obtain ⟨⟨hG, ⟨jPI, jNI, jQI, jPQE⟩, ⟨jFA, jWC, jNJ, jPS, jKQ⟩, jJ, jE⟩, jTP, jW9⟩ := H
  have b_1 := g_b hG (a := 77) (i := 7) (lo := 0) (hi := 500) rfl rfl
  have b_2 := g_b hG (a := 77) (i := 6) (lo := 0) (hi := 500) rfl rfl
  have b_3 := g_b hG (a := 1) (i := 1) (lo := 0) (hi := 500) rfl rfl
  have b_4 := g_b hG (a := 77) (i := 1) (lo := 0) (hi := 500) rfl rfl
  refine to_an (pc := 426) rw_0_426 rfl ?_
  refine to_an (pc := 427) rw_0_427 rfl ?_
  refine to_i (pc := 428) rw_0_428 rfl ?_
  refine to_c (pc := 430) rw_0_430 (x := (1 : Int32)) rfl rfl ?_
  refine s_add (pc := 431) rw_0_431 (A := i.toInt) (B := 1) rfl rfl (by omega) (fun v5 e6 => ?_)
  refine s_x0 (pc := 432) rw_0_432 hL (A := v5.toInt) rfl (by omega) (by omega) (fun v7 e8 => ?_)
  refine to_an (pc := 433) rw_0_433 rfl ?_
  refine to_i (pc := 434) rw_0_434 rfl ?_
  refine to_c (pc := 436) rw_0_436 (x := (2 : Int32)) rfl rfl ?_
  refine s_add (pc := 437) rw_0_437 (A := i.toInt) (B := 2) rfl rfl (by omega) (fun v9 e10 => ?_)
  refine s_x0 (pc := 438) rw_0_438 hL (A := v9.toInt) rfl (by omega) (by omega) (fun v11 e12 => ?_)
  refine s_v (pc := 439) rw_0_439 (by omega) (ls0 := [.ref 0, .int v7, .int v11]) rfl (Nat.le_of_ble_eq_true rfl) (Nat.le_of_ble_eq_true rfl) rfl (to_rc rfl rfl rfl (g_o hG rfl)) rfl ?_
  obtain ⟨pz13, pzz13, qz13, qzz13, hpz13, hpzz13, hqz13, hqzz13, hpqz13⟩ := id jPQE
  refine C_116 hX (by omega) hG hpz13 hpzz13 hqz13 hqzz13 hpqz13 (f := v7) (v := v11) (p := pz13) (pz := pzz13) (q := qz13) (qz := qzz13) (fun r14 M17 hG16 F15 => ?_)
  have n_18 : M17.1.2.1 = M.1.2.1 ∧ M17.1.2.2.1 = M.1.2.2.1 := by rw [F15.1]; exact ⟨rfl, rfl⟩
  refine s_pop2 (pc := 442) rw_0_442 ?_
  refine to_an (pc := 443) rw_0_443 rfl ?_
  refine to_an (pc := 444) rw_0_444 rfl ?_
  refine to_i (pc := 445) rw_0_445 rfl ?_
  refine to_c (pc := 447) rw_0_447 (x := (1 : Int32)) rfl rfl ?_
  refine s_addk (pc := 448) rw_0_448 (A := i.toInt) (B := 1) rfl rfl (by omega) (v := v5) e6 ?_
  refine s_x0k (pc := 449) rw_0_449 hL (A := v5.toInt) rfl (by omega) (by omega) (v := v7) e8 ?_
  refine to_an (pc := 450) rw_0_450 rfl ?_
  refine to_i (pc := 451) rw_0_451 rfl ?_
  refine to_c (pc := 453) rw_0_453 (x := (2 : Int32)) rfl rfl ?_
  refine s_addk (pc := 454) rw_0_454 (A := i.toInt) (B := 2) rfl rfl (by omega) (v := v9) e10 ?_
  refine s_x0k (pc := 455) rw_0_455 hL (A := v9.toInt) rfl (by omega) (by omega) (v := v11) e12 ?_
  refine s_v (pc := 456) rw_0_456 (by omega) (ls0 := [.ref 77, .int v7, .int v11]) rfl (Nat.le_of_ble_eq_true rfl) (Nat.le_of_ble_eq_true rfl) rfl (to_rc rfl rfl rfl (g_o hG16 rfl)) rfl ?_
  have j_24 := (FA_f (fun a i z => F_n F15 (show ¬ (a < 0) by omega) rfl) jFA)
  refine C_185 hX (by omega) hG16 j_24 (f := v7) (v := v11) (fun r25 M28 hG27 F26 => ?_)
  have n_29 : M28.1.2.1 = M17.1.2.1 ∧ M28.1.2.2.1 = M17.1.2.2.1 := by rw [F26.1]; exact ⟨rfl, rfl⟩
  refine s_pop2 (pc := 459) rw_0_459 ?_
  refine to_go (pc := 460) rw_0_460 ?_
  have c_31 : M28.2.1 77 7 = (M.2.1 77 7) := (F_n F26 (show ¬ (77 = 77 ∧ 7 = 2) by omega) (F_n F15 (show ¬ (77 < 0) by omega) rfl))
  have t_32 : (M28.2.1 77 7).toInt = (M.2.1 77 7).toInt := congrArg Int32.toInt c_31
  have c_33 : M28.2.1 77 6 = (M.2.1 77 6) := (F_n F26 (show ¬ (77 = 77 ∧ 6 = 2) by omega) (F_n F15 (show ¬ (77 < 0) by omega) rfl))
  have t_34 : (M28.2.1 77 6).toInt = (M.2.1 77 6).toInt := congrArg Int32.toInt c_33
  have c_35 : M28.2.1 1 1 = (M.2.1 1 1) := (F_n F26 (show ¬ (1 = 77 ∧ 1 = 2) by omega) (F_n F15 (show ¬ (1 < 0) by omega) rfl))
  have t_36 : (M28.2.1 1 1).toInt = (M.2.1 1 1).toInt := congrArg Int32.toInt c_35
  have c_37 : M28.2.1 77 1 = (M.2.1 77 1) := (F_n F26 (show ¬ (77 = 77 ∧ 1 = 2) by omega) (F_n F15 (show ¬ (77 < 0) by omega) rfl))
  have t_38 : (M28.2.1 77 1).toInt = (M.2.1 77 1).toInt := congrArg Int32.toInt c_37
  have j_39 := (PI_f (fun a i z => F_n F26 (show ¬ (a = 77 ∧ i = 2) by omega) rfl) (PI_f (fun a i z => F_n F15 (show ¬ (a < 0) by omega) rfl) jPI))
  have j_40 := (NI_f (fun a i z => F_n F26 (show ¬ (a = 77 ∧ i = 2) by omega) rfl) (NI_f (fun a i z => F_n F15 (show ¬ (a < 0) by omega) rfl) jNI))
  have j_41 := (QI_f (fun a i z => F_n F26 (show ¬ (a = 77 ∧ i = 2) by omega) rfl) (QI_f (fun a i z => F_n F15 (show ¬ (a < 0) by omega) rfl) jQI))
  have j_42 := (PQE_r F26.2.1 (PQE_r F15.2.1 jPQE))
  have j_43 := (FA_f (fun a i z => F_n F26 (show ¬ (a = 77 ∧ i = 2) by omega) rfl) j_24)
  have j_44 := (WC_f (fun a i z => F_n F26 (show ¬ (a = 77 ∧ i = 2) by omega) rfl) (WC_f (fun a i z => F_n F15 (show ¬ (a < 0) by omega) rfl) jWC))
  have j_45 := (NJ_f (fun a i z => F_n F26 (show ¬ (a = 77 ∧ i = 2) by omega) rfl) (NJ_f (fun a i z => F_n F15 (show ¬ (a < 0) by omega) rfl) jNJ))
  have j_46 := (PS_f (fun a i z => F_n F26 (show ¬ (a = 77 ∧ i = 2) by omega) rfl) (PS_f (fun a i z => F_n F15 (show ¬ (a < 0) by omega) rfl) jPS))
  have j_47 := (KQ_f (fun a i z => F_n F26 (show ¬ (a = 77 ∧ i = 2) by omega) rfl) (KQ_f (fun a i z => F_n F15 (show ¬ (a < 0) by omega) rfl) jKQ))
  have j_48 := (TP_f (fun a i z => F_n F26 (show ¬ (a = 77 ∧ i = 2) by omega) rfl) (TP_f (fun a i z => F_n F15 (show ¬ (a < 0) by omega) rfl) jTP))
  have j_49 := (W9_f (fun a i z => F_n F26 (show ¬ (a = 77 ∧ i = 2) by omega) rfl) (W9_f (fun a i z => F_n F15 (show ¬ (a < 0) by omega) rfl) jW9))
  exact h M28 (u5) (u6) ⟨⟨hG27, ⟨j_39, j_40, j_41, j_42⟩, ⟨j_43, j_44, j_45, j_46, j_47⟩, by omega, by omega⟩, j_48, j_49⟩ (by omega) (by omega)
set_option maxRecDepth 4000 in
set_option maxHeartbeats 0 in
theorem LW_8 {X : mm_X} {d L : Nat} {M : mm_M} {Q : Option Value → mm_M → Prop} {i : Int32} {u5 u6 : Value} (hX : g_X X) (hW : g_W X) (hL : (X 0).1 = L) (h3 : L ≤ 3072) (hd : 40 ≤ d) (hi : 0 ≤ i.toInt) (hi2 : i.toInt + 6 ≤ (L : Int)) (H : LI3 M) (h : ∀ (M1 : mm_M) (v5 v6 : Value), LI3 M1 → M1.1.2.1 ≤ M.1.2.1 + 1 → M1.1.2.2.1 ≤ M.1.2.2.1 + 6 → mm_T X d 0 1313 [.ref mm_ext, .ref 0, .ref 77, .ref 125, .int i, v5, v6] [] M1 Q) : mm_T X d 0 463 [.ref mm_ext, .ref 0, .ref 77, .ref 125, .int i, u5, u6] [] M Q := by
  obtain ⟨⟨hG, ⟨jPI, jNI, jQI, jPQE⟩, ⟨jFA, jWC, jNJ, jPS, jKQ⟩, jJ, jE⟩, jTP, jW9⟩ := H
  have b_1 := g_b hG (a := 77) (i := 7) (lo := 0) (hi := 500) rfl rfl
  have b_2 := g_b hG (a := 77) (i := 6) (lo := 0) (hi := 500) rfl rfl
  have b_3 := g_b hG (a := 1) (i := 1) (lo := 0) (hi := 500) rfl rfl
  have b_4 := g_b hG (a := 77) (i := 1) (lo := 0) (hi := 500) rfl rfl
  refine to_an (pc := 463) rw_0_463 rfl ?_
  refine to_an (pc := 464) rw_0_464 rfl ?_
  refine to_i (pc := 465) rw_0_465 rfl ?_
  refine to_c (pc := 467) rw_0_467 (x := (1 : Int32)) rfl rfl ?_
  refine s_add (pc := 468) rw_0_468 (A := i.toInt) (B := 1) rfl rfl (by omega) (fun v5 e6 => ?_)
  refine s_x0 (pc := 469) rw_0_469 hL (A := v5.toInt) rfl (by omega) (by omega) (fun v7 e8 => ?_)
  refine to_an (pc := 470) rw_0_470 rfl ?_
  refine to_i (pc := 471) rw_0_471 rfl ?_
  refine to_c (pc := 473) rw_0_473 (x := (2 : Int32)) rfl rfl ?_
  refine s_add (pc := 474) rw_0_474 (A := i.toInt) (B := 2) rfl rfl (by omega) (fun v9 e10 => ?_)
  refine s_x0 (pc := 475) rw_0_475 hL (A := v9.toInt) rfl (by omega) (by omega) (fun v11 e12 => ?_)
  refine s_v (pc := 476) rw_0_476 (by omega) (ls0 := [.ref 0, .int v7, .int v11]) rfl (Nat.le_of_ble_eq_true rfl) (Nat.le_of_ble_eq_true rfl) rfl (to_rc rfl rfl rfl (g_o hG rfl)) rfl ?_
  obtain ⟨pz13, pzz13, qz13, qzz13, hpz13, hpzz13, hqz13, hqzz13, hpqz13⟩ := id jPQE
  refine C_117 hX (by omega) hG hpz13 hpzz13 hqz13 hqzz13 hpqz13 jNI jPI jQI (n := v7) (w := v11) (p := pz13) (pz := pzz13) (q := qz13) (qz := qzz13) (fun r14 M20 hG16 F15 p_17 p_18 p_19 => ?_)
  have n_21 : M20.1.2.1 = M.1.2.1 ∧ M20.1.2.2.1 = M.1.2.2.1 := by rw [F15.1]; exact ⟨rfl, rfl⟩
  refine s_pop2 (pc := 479) rw_0_479 ?_
  refine to_an (pc := 480) rw_0_480 rfl ?_
  refine to_an (pc := 481) rw_0_481 rfl ?_
  refine to_i (pc := 482) rw_0_482 rfl ?_
  refine to_c (pc := 484) rw_0_484 (x := (1 : Int32)) rfl rfl ?_
  refine s_addk (pc := 485) rw_0_485 (A := i.toInt) (B := 1) rfl rfl (by omega) (v := v5) e6 ?_
  refine s_x0k (pc := 486) rw_0_486 hL (A := v5.toInt) rfl (by omega) (by omega) (v := v7) e8 ?_
  refine to_an (pc := 487) rw_0_487 rfl ?_
  refine to_i (pc := 488) rw_0_488 rfl ?_
  refine to_c (pc := 490) rw_0_490 (x := (2 : Int32)) rfl rfl ?_
  refine s_addk (pc := 491) rw_0_491 (A := i.toInt) (B := 2) rfl rfl (by omega) (v := v9) e10 ?_
  refine s_x0k (pc := 492) rw_0_492 hL (A := v9.toInt) rfl (by omega) (by omega) (v := v11) e12 ?_
  refine s_v (pc := 493) rw_0_493 (by omega) (ls0 := [.ref 77, .int v7, .int v11]) rfl (Nat.le_of_ble_eq_true rfl) (Nat.le_of_ble_eq_true rfl) rfl (to_rc rfl rfl rfl (g_o hG16 rfl)) rfl ?_
  have j_27 := (NJ_f (fun a i z => F_n F15 (show ¬ (a = 0 ∨ 6 ≤ a ∧ a ≤ 76) by omega) rfl) jNJ)
  refine C_192 hX (by omega) hG16 j_27 (n := v7) (w := v11) (fun r28 M31 hG30 F29 => ?_)
  have n_32 : M31.1.2.1 = M20.1.2.1 ∧ M31.1.2.2.1 = M20.1.2.2.1 := by rw [F29.1]; exact ⟨rfl, rfl⟩
  refine s_pop2 (pc := 496) rw_0_496 ?_
  refine to_go (pc := 497) rw_0_497 ?_
  have c_34 : M31.2.1 77 7 = (M.2.1 77 7) := (F_n F29 (show ¬ (77 = 77 ∧ 7 = 2 ∨ 94 ≤ 77 ∧ 77 ≤ 98) by omega) (F_n F15 (show ¬ (77 = 0 ∨ 6 ≤ 77 ∧ 77 ≤ 76) by omega) rfl))
  have t_35 : (M31.2.1 77 7).toInt = (M.2.1 77 7).toInt := congrArg Int32.toInt c_34
  have c_36 : M31.2.1 77 6 = (M.2.1 77 6) := (F_n F29 (show ¬ (77 = 77 ∧ 6 = 2 ∨ 94 ≤ 77 ∧ 77 ≤ 98) by omega) (F_n F15 (show ¬ (77 = 0 ∨ 6 ≤ 77 ∧ 77 ≤ 76) by omega) rfl))
  have t_37 : (M31.2.1 77 6).toInt = (M.2.1 77 6).toInt := congrArg Int32.toInt c_36
  have c_38 : M31.2.1 1 1 = (M.2.1 1 1) := (F_n F29 (show ¬ (1 = 77 ∧ 1 = 2 ∨ 94 ≤ 1 ∧ 1 ≤ 98) by omega) (F_n F15 (show ¬ (1 = 0 ∨ 6 ≤ 1 ∧ 1 ≤ 76) by omega) rfl))
  have t_39 : (M31.2.1 1 1).toInt = (M.2.1 1 1).toInt := congrArg Int32.toInt c_38
  have c_40 : M31.2.1 77 1 = (M.2.1 77 1) := (F_n F29 (show ¬ (77 = 77 ∧ 1 = 2 ∨ 94 ≤ 77 ∧ 77 ≤ 98) by omega) (F_n F15 (show ¬ (77 = 0 ∨ 6 ≤ 77 ∧ 77 ≤ 76) by omega) rfl))
  have t_41 : (M31.2.1 77 1).toInt = (M.2.1 77 1).toInt := congrArg Int32.toInt c_40
  have j_42 := (PI_f (fun a i z => F_n F29 (show ¬ (a = 77 ∧ i = 2 ∨ 94 ≤ a ∧ a ≤ 98) by omega) rfl) p_17)
  have j_43 := (NI_f (fun a i z => F_n F29 (show ¬ (a = 77 ∧ i = 2 ∨ 94 ≤ a ∧ a ≤ 98) by omega) rfl) p_18)
  have j_44 := (QI_f (fun a i z => F_n F29 (show ¬ (a = 77 ∧ i = 2 ∨ 94 ≤ a ∧ a ≤ 98) by omega) rfl) p_19)
  have j_45 := (PQE_r F29.2.1 (PQE_r F15.2.1 jPQE))
  have j_46 := (FA_f (fun a i z => F_n F29 (show ¬ (a = 77 ∧ i = 2 ∨ 94 ≤ a ∧ a ≤ 98) by omega) rfl) (FA_f (fun a i z => F_n F15 (show ¬ (a = 0 ∨ 6 ≤ a ∧ a ≤ 76) by omega) rfl) jFA))
  have j_47 := (WC_f (fun a i z => F_n F29 (show ¬ (a = 77 ∧ i = 2 ∨ 94 ≤ a ∧ a ≤ 98) by omega) rfl) (WC_f (fun a i z => F_n F15 (show ¬ (a = 0 ∨ 6 ≤ a ∧ a ≤ 76) by omega) rfl) jWC))
  have j_48 := (NJ_f (fun a i z => F_n F29 (show ¬ (a = 77 ∧ i = 2 ∨ 94 ≤ a ∧ a ≤ 98) by omega) rfl) j_27)
  have j_49 := (PS_f (fun a i z => F_n F29 (show ¬ (a = 77 ∧ i = 2 ∨ 94 ≤ a ∧ a ≤ 98) by omega) rfl) (PS_f (fun a i z => F_n F15 (show ¬ (a = 0 ∨ 6 ≤ a ∧ a ≤ 76) by omega) rfl) jPS))
  have j_50 := (KQ_f (fun a i z => F_n F29 (show ¬ (a = 77 ∧ i = 2 ∨ 94 ≤ a ∧ a ≤ 98) by omega) rfl) (KQ_f (fun a i z => F_n F15 (show ¬ (a = 0 ∨ 6 ≤ a ∧ a ≤ 76) by omega) rfl) jKQ))
  have j_51 := (TP_f (fun a i z => F_n F29 (show ¬ (a = 77 ∧ i = 2 ∨ 94 ≤ a ∧ a ≤ 98) by omega) rfl) (TP_f (fun a i z => F_n F15 (show ¬ (a = 0 ∨ 6 ≤ a ∧ a ≤ 76) by omega) rfl) jTP))
  have j_52 := (W9_f (fun a i z => F_n F29 (show ¬ (a = 77 ∧ i = 2 ∨ 94 ≤ a ∧ a ≤ 98) by omega) rfl) (W9_f (fun a i z => F_n F15 (show ¬ (a = 0 ∨ 6 ≤ a ∧ a ≤ 76) by omega) rfl) jW9))
  exact h M31 (u5) (u6) ⟨⟨hG30, ⟨j_42, j_43, j_44, j_45⟩, ⟨j_46, j_47, j_48, j_49, j_50⟩, by omega, by omega⟩, j_51, j_52⟩ (by omega) (by omega)
set_option maxRecDepth 4000 in
set_option maxHeartbeats 0 in
theorem LW_9 {X : mm_X} {d L : Nat} {M : mm_M} {Q : Option Value → mm_M → Prop} {i : Int32} {u5 u6 : Value} (hX : g_X X) (hW : g_W X) (hL : (X 0).1 = L) (h3 : L ≤ 3072) (hd : 40 ≤ d) (hi : 0 ≤ i.toInt) (hi2 : i.toInt + 6 ≤ (L : Int)) (H : LI3 M) (h : ∀ (M1 : mm_M) (v5 v6 : Value), LI3 M1 → M1.1.2.1 ≤ M.1.2.1 + 1 → M1.1.2.2.1 ≤ M.1.2.2.1 + 6 → mm_T X d 0 1313 [.ref mm_ext, .ref 0, .ref 77, .ref 125, .int i, v5, v6] [] M1 Q) : mm_T X d 0 500 [.ref mm_ext, .ref 0, .ref 77, .ref 125, .int i, u5, u6] [] M Q := by
  obtain ⟨⟨hG, ⟨jPI, jNI, jQI, jPQE⟩, ⟨jFA, jWC, jNJ, jPS, jKQ⟩, jJ, jE⟩, jTP, jW9⟩ := H
  have b_1 := g_b hG (a := 77) (i := 7) (lo := 0) (hi := 500) rfl rfl
  have b_2 := g_b hG (a := 77) (i := 6) (lo := 0) (hi := 500) rfl rfl
  have b_3 := g_b hG (a := 1) (i := 1) (lo := 0) (hi := 500) rfl rfl
  have b_4 := g_b hG (a := 77) (i := 1) (lo := 0) (hi := 500) rfl rfl
  refine to_an (pc := 500) rw_0_500 rfl ?_
  refine s_v (pc := 501) rw_0_501 (by omega) (ls0 := [.ref 0]) rfl (Nat.le_of_ble_eq_true rfl) (Nat.le_of_ble_eq_true rfl) rfl (to_rc rfl rfl rfl (g_o hG rfl)) rfl ?_
  obtain ⟨pz5, pzz5, qz5, qzz5, hpz5, hpzz5, hqz5, hqzz5, hpqz5⟩ := id jPQE
  refine C_118 hX (by omega) hG hpz5 hpzz5 hqz5 hqzz5 hpqz5 jPI jNI jQI (p := pz5) (pz := pzz5) (q := qz5) (qz := qzz5) (fun r6 M12 hG8 F7 p_9 p_10 p_11 => ?_)
  have n_13 : M12.1.2.1 = M.1.2.1 ∧ M12.1.2.2.1 = M.1.2.2.1 := by rw [F7.1]; exact ⟨rfl, rfl⟩
  refine to_popi (pc := 504) rw_0_504 ?_
  refine to_an (pc := 505) rw_0_505 rfl ?_
  refine s_v (pc := 506) rw_0_506 (by omega) (ls0 := [.ref 77]) rfl (Nat.le_of_ble_eq_true rfl) (Nat.le_of_ble_eq_true rfl) rfl (to_rc rfl rfl rfl (g_o hG8 rfl)) rfl ?_
  have j_15 := (PS_f (fun a i z => F_n F7 (show ¬ (a = 0 ∨ 6 ≤ a ∧ a ≤ 76) by omega) rfl) jPS)
  refine C_193 hX (by omega) hG8 j_15  (fun r16 M20 hG18 F17 p_19 => ?_)
  have n_21 : M20.1.2.1 = M12.1.2.1 ∧ M20.1.2.2.1 = M12.1.2.2.1 := by rw [F17.1]; exact ⟨rfl, rfl⟩
  refine to_popi (pc := 509) rw_0_509 ?_
  refine to_go (pc := 510) rw_0_510 ?_
  have c_23 : M20.2.1 77 7 = (M.2.1 77 7) := (F_n F17 (show ¬ (77 = 77 ∧ (7 = 2 ∨ 7 = 28) ∨ 77 = 99 ∨ 77 = 100) by omega) (F_n F7 (show ¬ (77 = 0 ∨ 6 ≤ 77 ∧ 77 ≤ 76) by omega) rfl))
  have t_24 : (M20.2.1 77 7).toInt = (M.2.1 77 7).toInt := congrArg Int32.toInt c_23
  have c_25 : M20.2.1 77 6 = (M.2.1 77 6) := (F_n F17 (show ¬ (77 = 77 ∧ (6 = 2 ∨ 6 = 28) ∨ 77 = 99 ∨ 77 = 100) by omega) (F_n F7 (show ¬ (77 = 0 ∨ 6 ≤ 77 ∧ 77 ≤ 76) by omega) rfl))
  have t_26 : (M20.2.1 77 6).toInt = (M.2.1 77 6).toInt := congrArg Int32.toInt c_25
  have c_27 : M20.2.1 1 1 = (M.2.1 1 1) := (F_n F17 (show ¬ (1 = 77 ∧ (1 = 2 ∨ 1 = 28) ∨ 1 = 99 ∨ 1 = 100) by omega) (F_n F7 (show ¬ (1 = 0 ∨ 6 ≤ 1 ∧ 1 ≤ 76) by omega) rfl))
  have t_28 : (M20.2.1 1 1).toInt = (M.2.1 1 1).toInt := congrArg Int32.toInt c_27
  have c_29 : M20.2.1 77 1 = (M.2.1 77 1) := (F_n F17 (show ¬ (77 = 77 ∧ (1 = 2 ∨ 1 = 28) ∨ 77 = 99 ∨ 77 = 100) by omega) (F_n F7 (show ¬ (77 = 0 ∨ 6 ≤ 77 ∧ 77 ≤ 76) by omega) rfl))
  have t_30 : (M20.2.1 77 1).toInt = (M.2.1 77 1).toInt := congrArg Int32.toInt c_29
  have j_31 := (PI_f (fun a i z => F_n F17 (show ¬ (a = 77 ∧ (i = 2 ∨ i = 28) ∨ a = 99 ∨ a = 100) by omega) rfl) p_9)
  have j_32 := (NI_f (fun a i z => F_n F17 (show ¬ (a = 77 ∧ (i = 2 ∨ i = 28) ∨ a = 99 ∨ a = 100) by omega) rfl) p_10)
  have j_33 := (QI_f (fun a i z => F_n F17 (show ¬ (a = 77 ∧ (i = 2 ∨ i = 28) ∨ a = 99 ∨ a = 100) by omega) rfl) p_11)
  have j_34 := (PQE_r F17.2.1 (PQE_r F7.2.1 jPQE))
  have j_35 := (FA_f (fun a i z => F_n F17 (show ¬ (a = 77 ∧ (i = 2 ∨ i = 28) ∨ a = 99 ∨ a = 100) by omega) rfl) (FA_f (fun a i z => F_n F7 (show ¬ (a = 0 ∨ 6 ≤ a ∧ a ≤ 76) by omega) rfl) jFA))
  have j_36 := (WC_f (fun a i z => F_n F17 (show ¬ (a = 77 ∧ (i = 2 ∨ i = 28) ∨ a = 99 ∨ a = 100) by omega) rfl) (WC_f (fun a i z => F_n F7 (show ¬ (a = 0 ∨ 6 ≤ a ∧ a ≤ 76) by omega) rfl) jWC))
  have j_37 := (NJ_f (fun a i z => F_n F17 (show ¬ (a = 77 ∧ (i = 2 ∨ i = 28) ∨ a = 99 ∨ a = 100) by omega) rfl) (NJ_f (fun a i z => F_n F7 (show ¬ (a = 0 ∨ 6 ≤ a ∧ a ≤ 76) by omega) rfl) jNJ))
  have j_38 := (KQ_f (fun a i z => F_n F17 (show ¬ (a = 77 ∧ (i = 2 ∨ i = 28) ∨ a = 99 ∨ a = 100) by omega) rfl) (KQ_f (fun a i z => F_n F7 (show ¬ (a = 0 ∨ 6 ≤ a ∧ a ≤ 76) by omega) rfl) jKQ))
  have j_39 := (TP_f (fun a i z => F_n F17 (show ¬ (a = 77 ∧ (i = 2 ∨ i = 28) ∨ a = 99 ∨ a = 100) by omega) rfl) (TP_f (fun a i z => F_n F7 (show ¬ (a = 0 ∨ 6 ≤ a ∧ a ≤ 76) by omega) rfl) jTP))
  have j_40 := (W9_f (fun a i z => F_n F17 (show ¬ (a = 77 ∧ (i = 2 ∨ i = 28) ∨ a = 99 ∨ a = 100) by omega) rfl) (W9_f (fun a i z => F_n F7 (show ¬ (a = 0 ∨ 6 ≤ a ∧ a ≤ 76) by omega) rfl) jW9))
  exact h M20 (u5) (u6) ⟨⟨hG18, ⟨j_31, j_32, j_33, j_34⟩, ⟨j_35, j_36, j_37, p_19, j_38⟩, by omega, by omega⟩, j_39, j_40⟩ (by omega) (by omega)
set_option maxRecDepth 4000 in
set_option maxHeartbeats 0 in
theorem LW_10 {X : mm_X} {d L : Nat} {M : mm_M} {Q : Option Value → mm_M → Prop} {i : Int32} {u5 u6 : Value} (hX : g_X X) (hW : g_W X) (hL : (X 0).1 = L) (h3 : L ≤ 3072) (hd : 40 ≤ d) (hi : 0 ≤ i.toInt) (hi2 : i.toInt + 6 ≤ (L : Int)) (H : LI3 M) (h : ∀ (M1 : mm_M) (v5 v6 : Value), LI3 M1 → M1.1.2.1 ≤ M.1.2.1 + 1 → M1.1.2.2.1 ≤ M.1.2.2.1 + 6 → mm_T X d 0 1313 [.ref mm_ext, .ref 0, .ref 77, .ref 125, .int i, v5, v6] [] M1 Q) : mm_T X d 0 513 [.ref mm_ext, .ref 0, .ref 77, .ref 125, .int i, u5, u6] [] M Q := by
  obtain ⟨⟨hG, ⟨jPI, jNI, jQI, jPQE⟩, ⟨jFA, jWC, jNJ, jPS, jKQ⟩, jJ, jE⟩, jTP, jW9⟩ := H
  have b_1 := g_b hG (a := 77) (i := 7) (lo := 0) (hi := 500) rfl rfl
  have b_2 := g_b hG (a := 77) (i := 6) (lo := 0) (hi := 500) rfl rfl
  have b_3 := g_b hG (a := 1) (i := 1) (lo := 0) (hi := 500) rfl rfl
  have b_4 := g_b hG (a := 77) (i := 1) (lo := 0) (hi := 500) rfl rfl
  refine to_an (pc := 513) rw_0_513 rfl ?_
  refine to_an (pc := 514) rw_0_514 rfl ?_
  refine to_i (pc := 515) rw_0_515 rfl ?_
  refine to_c (pc := 517) rw_0_517 (x := (1 : Int32)) rfl rfl ?_
  refine s_add (pc := 518) rw_0_518 (A := i.toInt) (B := 1) rfl rfl (by omega) (fun v5 e6 => ?_)
  refine s_x0 (pc := 519) rw_0_519 hL (A := v5.toInt) rfl (by omega) (by omega) (fun v7 e8 => ?_)
  refine to_an (pc := 520) rw_0_520 rfl ?_
  refine to_i (pc := 521) rw_0_521 rfl ?_
  refine to_c (pc := 523) rw_0_523 (x := (2 : Int32)) rfl rfl ?_
  refine s_add (pc := 524) rw_0_524 (A := i.toInt) (B := 2) rfl rfl (by omega) (fun v9 e10 => ?_)
  refine s_x0 (pc := 525) rw_0_525 hL (A := v9.toInt) rfl (by omega) (by omega) (fun v11 e12 => ?_)
  refine to_an (pc := 526) rw_0_526 rfl ?_
  refine to_i (pc := 527) rw_0_527 rfl ?_
  refine to_c (pc := 529) rw_0_529 (x := (3 : Int32)) rfl rfl ?_
  refine s_add (pc := 530) rw_0_530 (A := i.toInt) (B := 3) rfl rfl (by omega) (fun v13 e14 => ?_)
  refine s_x0 (pc := 531) rw_0_531 hL (A := v13.toInt) rfl (by omega) (by omega) (fun v15 e16 => ?_)
  refine s_v (pc := 532) rw_0_532 (by omega) (ls0 := [.ref 0, .int v7, .int v11, .int v15]) rfl (Nat.le_of_ble_eq_true rfl) (Nat.le_of_ble_eq_true rfl) rfl (to_rc rfl rfl rfl (g_o hG rfl)) rfl ?_
  obtain ⟨pz17, pzz17, qz17, qzz17, hpz17, hpzz17, hqz17, hqzz17, hpqz17⟩ := id jPQE
  refine C_119 hX (by omega) hG hpz17 hpzz17 hqz17 hqzz17 hpqz17 jNI jPI jQI (c := v7) (f := v11) (v := v15) (p := pz17) (pz := pzz17) (q := qz17) (qz := qzz17) (fun r18 M24 hG20 F19 p_21 p_22 p_23 => ?_)
  have n_25 : M24.1.2.1 = M.1.2.1 ∧ M24.1.2.2.1 = M.1.2.2.1 := by rw [F19.1]; exact ⟨rfl, rfl⟩
  refine to_popi (pc := 535) rw_0_535 ?_
  refine to_an (pc := 536) rw_0_536 rfl ?_
  refine to_an (pc := 537) rw_0_537 rfl ?_
  refine to_i (pc := 538) rw_0_538 rfl ?_
  refine to_c (pc := 540) rw_0_540 (x := (1 : Int32)) rfl rfl ?_
  refine s_addk (pc := 541) rw_0_541 (A := i.toInt) (B := 1) rfl rfl (by omega) (v := v5) e6 ?_
  refine s_x0k (pc := 542) rw_0_542 hL (A := v5.toInt) rfl (by omega) (by omega) (v := v7) e8 ?_
  refine to_an (pc := 543) rw_0_543 rfl ?_
  refine to_i (pc := 544) rw_0_544 rfl ?_
  refine to_c (pc := 546) rw_0_546 (x := (2 : Int32)) rfl rfl ?_
  refine s_addk (pc := 547) rw_0_547 (A := i.toInt) (B := 2) rfl rfl (by omega) (v := v9) e10 ?_
  refine s_x0k (pc := 548) rw_0_548 hL (A := v9.toInt) rfl (by omega) (by omega) (v := v11) e12 ?_
  refine to_an (pc := 549) rw_0_549 rfl ?_
  refine to_i (pc := 550) rw_0_550 rfl ?_
  refine to_c (pc := 552) rw_0_552 (x := (3 : Int32)) rfl rfl ?_
  refine s_addk (pc := 553) rw_0_553 (A := i.toInt) (B := 3) rfl rfl (by omega) (v := v13) e14 ?_
  refine s_x0k (pc := 554) rw_0_554 hL (A := v13.toInt) rfl (by omega) (by omega) (v := v15) e16 ?_
  refine s_v (pc := 555) rw_0_555 (by omega) (ls0 := [.ref 77, .int v7, .int v11, .int v15]) rfl (Nat.le_of_ble_eq_true rfl) (Nat.le_of_ble_eq_true rfl) rfl (to_rc rfl rfl rfl (g_o hG20 rfl)) rfl ?_
  have j_33 := (NJ_f (fun a i z => F_n F19 (show ¬ (a = 0 ∨ 6 ≤ a ∧ a ≤ 76) by omega) rfl) jNJ)
  have j_34 := (FA_f (fun a i z => F_n F19 (show ¬ (a = 0 ∨ 6 ≤ a ∧ a ≤ 76) by omega) rfl) jFA)
  refine C_194 hX (by omega) hG20 j_33 j_34 (c := v7) (f := v11) (v := v15) (fun r35 M39 hG37 F36 p_38 => ?_)
  have n_40 : M39.1.2.1 = M24.1.2.1 ∧ M39.1.2.2.1 = M24.1.2.2.1 := by rw [F36.1]; exact ⟨rfl, rfl⟩
  refine to_popi (pc := 558) rw_0_558 ?_
  refine to_go (pc := 559) rw_0_559 ?_
  have c_42 : M39.2.1 77 7 = (M.2.1 77 7) := (F_n F36 (show ¬ (77 = 77 ∧ (7 = 2 ∨ 7 = 29) ∨ 90 ≤ 77 ∧ 77 ≤ 93) by omega) (F_n F19 (show ¬ (77 = 0 ∨ 6 ≤ 77 ∧ 77 ≤ 76) by omega) rfl))
  have t_43 : (M39.2.1 77 7).toInt = (M.2.1 77 7).toInt := congrArg Int32.toInt c_42
  have c_44 : M39.2.1 77 6 = (M.2.1 77 6) := (F_n F36 (show ¬ (77 = 77 ∧ (6 = 2 ∨ 6 = 29) ∨ 90 ≤ 77 ∧ 77 ≤ 93) by omega) (F_n F19 (show ¬ (77 = 0 ∨ 6 ≤ 77 ∧ 77 ≤ 76) by omega) rfl))
  have t_45 : (M39.2.1 77 6).toInt = (M.2.1 77 6).toInt := congrArg Int32.toInt c_44
  have c_46 : M39.2.1 1 1 = (M.2.1 1 1) := (F_n F36 (show ¬ (1 = 77 ∧ (1 = 2 ∨ 1 = 29) ∨ 90 ≤ 1 ∧ 1 ≤ 93) by omega) (F_n F19 (show ¬ (1 = 0 ∨ 6 ≤ 1 ∧ 1 ≤ 76) by omega) rfl))
  have t_47 : (M39.2.1 1 1).toInt = (M.2.1 1 1).toInt := congrArg Int32.toInt c_46
  have c_48 : M39.2.1 77 1 = (M.2.1 77 1) := (F_n F36 (show ¬ (77 = 77 ∧ (1 = 2 ∨ 1 = 29) ∨ 90 ≤ 77 ∧ 77 ≤ 93) by omega) (F_n F19 (show ¬ (77 = 0 ∨ 6 ≤ 77 ∧ 77 ≤ 76) by omega) rfl))
  have t_49 : (M39.2.1 77 1).toInt = (M.2.1 77 1).toInt := congrArg Int32.toInt c_48
  have j_50 := (PI_f (fun a i z => F_n F36 (show ¬ (a = 77 ∧ (i = 2 ∨ i = 29) ∨ 90 ≤ a ∧ a ≤ 93) by omega) rfl) p_22)
  have j_51 := (NI_f (fun a i z => F_n F36 (show ¬ (a = 77 ∧ (i = 2 ∨ i = 29) ∨ 90 ≤ a ∧ a ≤ 93) by omega) rfl) p_21)
  have j_52 := (QI_f (fun a i z => F_n F36 (show ¬ (a = 77 ∧ (i = 2 ∨ i = 29) ∨ 90 ≤ a ∧ a ≤ 93) by omega) rfl) p_23)
  have j_53 := (PQE_r F36.2.1 (PQE_r F19.2.1 jPQE))
  have j_54 := (FA_f (fun a i z => F_n F36 (show ¬ (a = 77 ∧ (i = 2 ∨ i = 29) ∨ 90 ≤ a ∧ a ≤ 93) by omega) rfl) j_34)
  have j_55 := (WC_f (fun a i z => F_n F36 (show ¬ (a = 77 ∧ (i = 2 ∨ i = 29) ∨ 90 ≤ a ∧ a ≤ 93) by omega) rfl) (WC_f (fun a i z => F_n F19 (show ¬ (a = 0 ∨ 6 ≤ a ∧ a ≤ 76) by omega) rfl) jWC))
  have j_56 := (PS_f (fun a i z => F_n F36 (show ¬ (a = 77 ∧ (i = 2 ∨ i = 29) ∨ 90 ≤ a ∧ a ≤ 93) by omega) rfl) (PS_f (fun a i z => F_n F19 (show ¬ (a = 0 ∨ 6 ≤ a ∧ a ≤ 76) by omega) rfl) jPS))
  have j_57 := (KQ_f (fun a i z => F_n F36 (show ¬ (a = 77 ∧ (i = 2 ∨ i = 29) ∨ 90 ≤ a ∧ a ≤ 93) by omega) rfl) (KQ_f (fun a i z => F_n F19 (show ¬ (a = 0 ∨ 6 ≤ a ∧ a ≤ 76) by omega) rfl) jKQ))
  have j_58 := (TP_f (fun a i z => F_n F36 (show ¬ (a = 77 ∧ (i = 2 ∨ i = 29) ∨ 90 ≤ a ∧ a ≤ 93) by omega) rfl) (TP_f (fun a i z => F_n F19 (show ¬ (a = 0 ∨ 6 ≤ a ∧ a ≤ 76) by omega) rfl) jTP))
  have j_59 := (W9_f (fun a i z => F_n F36 (show ¬ (a = 77 ∧ (i = 2 ∨ i = 29) ∨ 90 ≤ a ∧ a ≤ 93) by omega) rfl) (W9_f (fun a i z => F_n F19 (show ¬ (a = 0 ∨ 6 ≤ a ∧ a ≤ 76) by omega) rfl) jW9))
  exact h M39 (u5) (u6) ⟨⟨hG37, ⟨j_50, j_51, j_52, j_53⟩, ⟨j_54, j_55, p_38, j_56, j_57⟩, by omega, by omega⟩, j_58, j_59⟩ (by omega) (by omega)
set_option maxRecDepth 4000 in
set_option maxHeartbeats 0 in
theorem LW_11 {X : mm_X} {d L : Nat} {M : mm_M} {Q : Option Value → mm_M → Prop} {i : Int32} {u5 u6 : Value} (hX : g_X X) (hW : g_W X) (hL : (X 0).1 = L) (h3 : L ≤ 3072) (hd : 40 ≤ d) (hi : 0 ≤ i.toInt) (hi2 : i.toInt + 6 ≤ (L : Int)) (H : LI3 M) (h : ∀ (M1 : mm_M) (v5 v6 : Value), LI3 M1 → M1.1.2.1 ≤ M.1.2.1 + 1 → M1.1.2.2.1 ≤ M.1.2.2.1 + 6 → mm_T X d 0 1313 [.ref mm_ext, .ref 0, .ref 77, .ref 125, .int i, v5, v6] [] M1 Q) : mm_T X d 0 562 [.ref mm_ext, .ref 0, .ref 77, .ref 125, .int i, u5, u6] [] M Q := by
  obtain ⟨⟨hG, ⟨jPI, jNI, jQI, jPQE⟩, ⟨jFA, jWC, jNJ, jPS, jKQ⟩, jJ, jE⟩, jTP, jW9⟩ := H
  have b_1 := g_b hG (a := 77) (i := 7) (lo := 0) (hi := 500) rfl rfl
  have b_2 := g_b hG (a := 77) (i := 6) (lo := 0) (hi := 500) rfl rfl
  have b_3 := g_b hG (a := 1) (i := 1) (lo := 0) (hi := 500) rfl rfl
  have b_4 := g_b hG (a := 77) (i := 1) (lo := 0) (hi := 500) rfl rfl
  refine to_an (pc := 562) rw_0_562 rfl ?_
  refine to_an (pc := 563) rw_0_563 rfl ?_
  refine to_i (pc := 564) rw_0_564 rfl ?_
  refine to_c (pc := 566) rw_0_566 (x := (1 : Int32)) rfl rfl ?_
  refine s_add (pc := 567) rw_0_567 (A := i.toInt) (B := 1) rfl rfl (by omega) (fun v5 e6 => ?_)
  refine s_x0 (pc := 568) rw_0_568 hL (A := v5.toInt) rfl (by omega) (by omega) (fun v7 e8 => ?_)
  refine to_an (pc := 569) rw_0_569 rfl ?_
  refine to_i (pc := 570) rw_0_570 rfl ?_
  refine to_c (pc := 572) rw_0_572 (x := (2 : Int32)) rfl rfl ?_
  refine s_add (pc := 573) rw_0_573 (A := i.toInt) (B := 2) rfl rfl (by omega) (fun v9 e10 => ?_)
  refine s_x0 (pc := 574) rw_0_574 hL (A := v9.toInt) rfl (by omega) (by omega) (fun v11 e12 => ?_)
  refine s_v (pc := 575) rw_0_575 (by omega) (ls0 := [.ref 0, .int v7, .int v11]) rfl (Nat.le_of_ble_eq_true rfl) (Nat.le_of_ble_eq_true rfl) rfl (to_rc rfl rfl rfl (g_o hG rfl)) rfl ?_
  obtain ⟨pz13, pzz13, qz13, qzz13, hpz13, hpzz13, hqz13, hqzz13, hpqz13⟩ := id jPQE
  refine C_120 hX (by omega) hG hpz13 hpzz13 hqz13 hqzz13 hpqz13 jNI jPI jQI (c := v7) (w := v11) (p := pz13) (pz := pzz13) (q := qz13) (qz := qzz13) (fun r14 M20 hG16 F15 p_17 p_18 p_19 => ?_)
  have n_21 : M20.1.2.1 = M.1.2.1 ∧ M20.1.2.2.1 = M.1.2.2.1 := by rw [F15.1]; exact ⟨rfl, rfl⟩
  refine to_popi (pc := 578) rw_0_578 ?_
  refine to_an (pc := 579) rw_0_579 rfl ?_
  refine to_an (pc := 580) rw_0_580 rfl ?_
  refine to_i (pc := 581) rw_0_581 rfl ?_
  refine to_c (pc := 583) rw_0_583 (x := (1 : Int32)) rfl rfl ?_
  refine s_addk (pc := 584) rw_0_584 (A := i.toInt) (B := 1) rfl rfl (by omega) (v := v5) e6 ?_
  refine s_x0k (pc := 585) rw_0_585 hL (A := v5.toInt) rfl (by omega) (by omega) (v := v7) e8 ?_
  refine to_an (pc := 586) rw_0_586 rfl ?_
  refine to_i (pc := 587) rw_0_587 rfl ?_
  refine to_c (pc := 589) rw_0_589 (x := (2 : Int32)) rfl rfl ?_
  refine s_addk (pc := 590) rw_0_590 (A := i.toInt) (B := 2) rfl rfl (by omega) (v := v9) e10 ?_
  refine s_x0k (pc := 591) rw_0_591 hL (A := v9.toInt) rfl (by omega) (by omega) (v := v11) e12 ?_
  refine s_v (pc := 592) rw_0_592 (by omega) (ls0 := [.ref 77, .int v7, .int v11]) rfl (Nat.le_of_ble_eq_true rfl) (Nat.le_of_ble_eq_true rfl) rfl (to_rc rfl rfl rfl (g_o hG16 rfl)) rfl ?_
  have j_27 := (NJ_f (fun a i z => F_n F15 (show ¬ (a = 0 ∨ 6 ≤ a ∧ a ≤ 76) by omega) rfl) jNJ)
  refine C_195 hX (by omega) hG16 j_27 (c := v7) (w := v11) (fun r28 M32 hG30 F29 p_31 => ?_)
  have n_33 : M32.1.2.1 = M20.1.2.1 ∧ M32.1.2.2.1 = M20.1.2.2.1 := by rw [F29.1]; exact ⟨rfl, rfl⟩
  refine to_popi (pc := 595) rw_0_595 ?_
  refine to_go (pc := 596) rw_0_596 ?_
  have c_35 : M32.2.1 77 7 = (M.2.1 77 7) := (F_n F29 (show ¬ (77 = 77 ∧ (7 = 2 ∨ 7 = 29) ∨ 90 ≤ 77 ∧ 77 ≤ 93) by omega) (F_n F15 (show ¬ (77 = 0 ∨ 6 ≤ 77 ∧ 77 ≤ 76) by omega) rfl))
  have t_36 : (M32.2.1 77 7).toInt = (M.2.1 77 7).toInt := congrArg Int32.toInt c_35
  have c_37 : M32.2.1 77 6 = (M.2.1 77 6) := (F_n F29 (show ¬ (77 = 77 ∧ (6 = 2 ∨ 6 = 29) ∨ 90 ≤ 77 ∧ 77 ≤ 93) by omega) (F_n F15 (show ¬ (77 = 0 ∨ 6 ≤ 77 ∧ 77 ≤ 76) by omega) rfl))
  have t_38 : (M32.2.1 77 6).toInt = (M.2.1 77 6).toInt := congrArg Int32.toInt c_37
  have c_39 : M32.2.1 1 1 = (M.2.1 1 1) := (F_n F29 (show ¬ (1 = 77 ∧ (1 = 2 ∨ 1 = 29) ∨ 90 ≤ 1 ∧ 1 ≤ 93) by omega) (F_n F15 (show ¬ (1 = 0 ∨ 6 ≤ 1 ∧ 1 ≤ 76) by omega) rfl))
  have t_40 : (M32.2.1 1 1).toInt = (M.2.1 1 1).toInt := congrArg Int32.toInt c_39
  have c_41 : M32.2.1 77 1 = (M.2.1 77 1) := (F_n F29 (show ¬ (77 = 77 ∧ (1 = 2 ∨ 1 = 29) ∨ 90 ≤ 77 ∧ 77 ≤ 93) by omega) (F_n F15 (show ¬ (77 = 0 ∨ 6 ≤ 77 ∧ 77 ≤ 76) by omega) rfl))
  have t_42 : (M32.2.1 77 1).toInt = (M.2.1 77 1).toInt := congrArg Int32.toInt c_41
  have j_43 := (PI_f (fun a i z => F_n F29 (show ¬ (a = 77 ∧ (i = 2 ∨ i = 29) ∨ 90 ≤ a ∧ a ≤ 93) by omega) rfl) p_18)
  have j_44 := (NI_f (fun a i z => F_n F29 (show ¬ (a = 77 ∧ (i = 2 ∨ i = 29) ∨ 90 ≤ a ∧ a ≤ 93) by omega) rfl) p_17)
  have j_45 := (QI_f (fun a i z => F_n F29 (show ¬ (a = 77 ∧ (i = 2 ∨ i = 29) ∨ 90 ≤ a ∧ a ≤ 93) by omega) rfl) p_19)
  have j_46 := (PQE_r F29.2.1 (PQE_r F15.2.1 jPQE))
  have j_47 := (FA_f (fun a i z => F_n F29 (show ¬ (a = 77 ∧ (i = 2 ∨ i = 29) ∨ 90 ≤ a ∧ a ≤ 93) by omega) rfl) (FA_f (fun a i z => F_n F15 (show ¬ (a = 0 ∨ 6 ≤ a ∧ a ≤ 76) by omega) rfl) jFA))
  have j_48 := (WC_f (fun a i z => F_n F29 (show ¬ (a = 77 ∧ (i = 2 ∨ i = 29) ∨ 90 ≤ a ∧ a ≤ 93) by omega) rfl) (WC_f (fun a i z => F_n F15 (show ¬ (a = 0 ∨ 6 ≤ a ∧ a ≤ 76) by omega) rfl) jWC))
  have j_49 := (PS_f (fun a i z => F_n F29 (show ¬ (a = 77 ∧ (i = 2 ∨ i = 29) ∨ 90 ≤ a ∧ a ≤ 93) by omega) rfl) (PS_f (fun a i z => F_n F15 (show ¬ (a = 0 ∨ 6 ≤ a ∧ a ≤ 76) by omega) rfl) jPS))
  have j_50 := (KQ_f (fun a i z => F_n F29 (show ¬ (a = 77 ∧ (i = 2 ∨ i = 29) ∨ 90 ≤ a ∧ a ≤ 93) by omega) rfl) (KQ_f (fun a i z => F_n F15 (show ¬ (a = 0 ∨ 6 ≤ a ∧ a ≤ 76) by omega) rfl) jKQ))
  have j_51 := (TP_f (fun a i z => F_n F29 (show ¬ (a = 77 ∧ (i = 2 ∨ i = 29) ∨ 90 ≤ a ∧ a ≤ 93) by omega) rfl) (TP_f (fun a i z => F_n F15 (show ¬ (a = 0 ∨ 6 ≤ a ∧ a ≤ 76) by omega) rfl) jTP))
  have j_52 := (W9_f (fun a i z => F_n F29 (show ¬ (a = 77 ∧ (i = 2 ∨ i = 29) ∨ 90 ≤ a ∧ a ≤ 93) by omega) rfl) (W9_f (fun a i z => F_n F15 (show ¬ (a = 0 ∨ 6 ≤ a ∧ a ≤ 76) by omega) rfl) jW9))
  exact h M32 (u5) (u6) ⟨⟨hG30, ⟨j_43, j_44, j_45, j_46⟩, ⟨j_47, j_48, p_31, j_49, j_50⟩, by omega, by omega⟩, j_51, j_52⟩ (by omega) (by omega)
set_option maxRecDepth 4000 in
set_option maxHeartbeats 0 in
theorem LW_12 {X : mm_X} {d L : Nat} {M : mm_M} {Q : Option Value → mm_M → Prop} {i : Int32} {u5 u6 : Value} (hX : g_X X) (hW : g_W X) (hL : (X 0).1 = L) (h3 : L ≤ 3072) (hd : 40 ≤ d) (hi : 0 ≤ i.toInt) (hi2 : i.toInt + 6 ≤ (L : Int)) (H : LI3 M) (h : ∀ (M1 : mm_M) (v5 v6 : Value), LI3 M1 → M1.1.2.1 ≤ M.1.2.1 + 1 → M1.1.2.2.1 ≤ M.1.2.2.1 + 6 → mm_T X d 0 1313 [.ref mm_ext, .ref 0, .ref 77, .ref 125, .int i, v5, v6] [] M1 Q) : mm_T X d 0 599 [.ref mm_ext, .ref 0, .ref 77, .ref 125, .int i, u5, u6] [] M Q := by
  obtain ⟨⟨hG, ⟨jPI, jNI, jQI, jPQE⟩, ⟨jFA, jWC, jNJ, jPS, jKQ⟩, jJ, jE⟩, jTP, jW9⟩ := H
  have b_1 := g_b hG (a := 77) (i := 7) (lo := 0) (hi := 500) rfl rfl
  have b_2 := g_b hG (a := 77) (i := 6) (lo := 0) (hi := 500) rfl rfl
  have b_3 := g_b hG (a := 1) (i := 1) (lo := 0) (hi := 500) rfl rfl
  have b_4 := g_b hG (a := 77) (i := 1) (lo := 0) (hi := 500) rfl rfl
  refine to_an (pc := 599) rw_0_599 rfl ?_
  refine to_an (pc := 600) rw_0_600 rfl ?_
  refine to_i (pc := 601) rw_0_601 rfl ?_
  refine to_c (pc := 603) rw_0_603 (x := (1 : Int32)) rfl rfl ?_
  refine s_add (pc := 604) rw_0_604 (A := i.toInt) (B := 1) rfl rfl (by omega) (fun v5 e6 => ?_)
  refine s_x0 (pc := 605) rw_0_605 hL (A := v5.toInt) rfl (by omega) (by omega) (fun v7 e8 => ?_)
  refine to_an (pc := 606) rw_0_606 rfl ?_
  refine to_i (pc := 607) rw_0_607 rfl ?_
  refine to_c (pc := 609) rw_0_609 (x := (2 : Int32)) rfl rfl ?_
  refine s_add (pc := 610) rw_0_610 (A := i.toInt) (B := 2) rfl rfl (by omega) (fun v9 e10 => ?_)
  refine s_x0 (pc := 611) rw_0_611 hL (A := v9.toInt) rfl (by omega) (by omega) (fun v11 e12 => ?_)
  refine to_an (pc := 612) rw_0_612 rfl ?_
  refine to_i (pc := 613) rw_0_613 rfl ?_
  refine to_c (pc := 615) rw_0_615 (x := (3 : Int32)) rfl rfl ?_
  refine s_add (pc := 616) rw_0_616 (A := i.toInt) (B := 3) rfl rfl (by omega) (fun v13 e14 => ?_)
  refine s_x0 (pc := 617) rw_0_617 hL (A := v13.toInt) rfl (by omega) (by omega) (fun v15 e16 => ?_)
  refine b_ieq (pc := 618) rw_0_618 (A := v15.toInt) rfl (fun h17 => ?_) (fun h17 => ?_)
  · refine to_c (pc := 625) rw_0_625 (x := (0 : Int32)) rfl rfl ?_
    refine s_v (pc := 626) rw_0_626 (by omega) (ls0 := [.ref 0, .int v7, .int v11, .int (0 : Int32)]) rfl (Nat.le_of_ble_eq_true rfl) (Nat.le_of_ble_eq_true rfl) rfl (to_rc rfl rfl rfl (g_o hG rfl)) rfl ?_
    have k_18 : (0 : Int32).toInt = 0 := rfl
    obtain ⟨pz19, pzz19, qz19, qzz19, hpz19, hpzz19, hqz19, hqzz19, hpqz19⟩ := id jPQE
    refine C_121 hX (by omega) hG hpz19 hpzz19 hqz19 hqzz19 hpqz19 (by omega) (by omega) jNI jPI jQI (c := v7) (e := v11) (m := (0 : Int32)) (p := pz19) (pz := pzz19) (q := qz19) (qz := qzz19) (fun r20 M26 hG22 F21 p_23 p_24 p_25 => ?_)
    have n_27 : M26.1.2.1 = M.1.2.1 ∧ M26.1.2.2.1 = M.1.2.2.1 := by rw [F21.1]; exact ⟨rfl, rfl⟩
    refine to_popi (pc := 629) rw_0_629 ?_
    refine to_an (pc := 630) rw_0_630 rfl ?_
    refine to_an (pc := 631) rw_0_631 rfl ?_
    refine to_i (pc := 632) rw_0_632 rfl ?_
    refine to_c (pc := 634) rw_0_634 (x := (1 : Int32)) rfl rfl ?_
    refine s_addk (pc := 635) rw_0_635 (A := i.toInt) (B := 1) rfl rfl (by omega) (v := v5) e6 ?_
    refine s_x0k (pc := 636) rw_0_636 hL (A := v5.toInt) rfl (by omega) (by omega) (v := v7) e8 ?_
    refine to_an (pc := 637) rw_0_637 rfl ?_
    refine to_i (pc := 638) rw_0_638 rfl ?_
    refine to_c (pc := 640) rw_0_640 (x := (2 : Int32)) rfl rfl ?_
    refine s_addk (pc := 641) rw_0_641 (A := i.toInt) (B := 2) rfl rfl (by omega) (v := v9) e10 ?_
    refine s_x0k (pc := 642) rw_0_642 hL (A := v9.toInt) rfl (by omega) (by omega) (v := v11) e12 ?_
    refine to_an (pc := 643) rw_0_643 rfl ?_
    refine to_i (pc := 644) rw_0_644 rfl ?_
    refine to_c (pc := 646) rw_0_646 (x := (3 : Int32)) rfl rfl ?_
    refine s_addk (pc := 647) rw_0_647 (A := i.toInt) (B := 3) rfl rfl (by omega) (v := v13) e14 ?_
    refine s_x0k (pc := 648) rw_0_648 hL (A := v13.toInt) rfl (by omega) (by omega) (v := v15) e16 ?_
    refine b_ieq_t (pc := 649) rw_0_649 (A := v15.toInt) rfl (by omega) ?_
    refine to_c (pc := 656) rw_0_656 (x := (0 : Int32)) rfl rfl ?_
    refine s_v (pc := 657) rw_0_657 (by omega) (ls0 := [.ref 77, .int v7, .int v11, .int (0 : Int32)]) rfl (Nat.le_of_ble_eq_true rfl) (Nat.le_of_ble_eq_true rfl) rfl (to_rc rfl rfl rfl (g_o hG22 rfl)) rfl ?_
    have j_35 := (NJ_f (fun a i z => F_n F21 (show ¬ (a = 0 ∨ 6 ≤ a ∧ a ≤ 76) by omega) rfl) jNJ)
    refine C_196 hX (by omega) hG22 (by omega) (by omega) j_35 (c := v7) (e := v11) (m := (0 : Int32)) (fun r36 M40 hG38 F37 p_39 => ?_)
    have n_41 : M40.1.2.1 = M26.1.2.1 ∧ M40.1.2.2.1 = M26.1.2.2.1 := by rw [F37.1]; exact ⟨rfl, rfl⟩
    refine to_popi (pc := 660) rw_0_660 ?_
    refine to_go (pc := 661) rw_0_661 ?_
    have c_43 : M40.2.1 77 7 = (M.2.1 77 7) := (F_n F37 (show ¬ (77 = 77 ∧ (7 = 2 ∨ 7 = 29) ∨ 90 ≤ 77 ∧ 77 ≤ 93) by omega) (F_n F21 (show ¬ (77 = 0 ∨ 6 ≤ 77 ∧ 77 ≤ 76) by omega) rfl))
    have t_44 : (M40.2.1 77 7).toInt = (M.2.1 77 7).toInt := congrArg Int32.toInt c_43
    have c_45 : M40.2.1 77 6 = (M.2.1 77 6) := (F_n F37 (show ¬ (77 = 77 ∧ (6 = 2 ∨ 6 = 29) ∨ 90 ≤ 77 ∧ 77 ≤ 93) by omega) (F_n F21 (show ¬ (77 = 0 ∨ 6 ≤ 77 ∧ 77 ≤ 76) by omega) rfl))
    have t_46 : (M40.2.1 77 6).toInt = (M.2.1 77 6).toInt := congrArg Int32.toInt c_45
    have c_47 : M40.2.1 1 1 = (M.2.1 1 1) := (F_n F37 (show ¬ (1 = 77 ∧ (1 = 2 ∨ 1 = 29) ∨ 90 ≤ 1 ∧ 1 ≤ 93) by omega) (F_n F21 (show ¬ (1 = 0 ∨ 6 ≤ 1 ∧ 1 ≤ 76) by omega) rfl))
    have t_48 : (M40.2.1 1 1).toInt = (M.2.1 1 1).toInt := congrArg Int32.toInt c_47
    have c_49 : M40.2.1 77 1 = (M.2.1 77 1) := (F_n F37 (show ¬ (77 = 77 ∧ (1 = 2 ∨ 1 = 29) ∨ 90 ≤ 77 ∧ 77 ≤ 93) by omega) (F_n F21 (show ¬ (77 = 0 ∨ 6 ≤ 77 ∧ 77 ≤ 76) by omega) rfl))
    have t_50 : (M40.2.1 77 1).toInt = (M.2.1 77 1).toInt := congrArg Int32.toInt c_49
    have j_51 := (PI_f (fun a i z => F_n F37 (show ¬ (a = 77 ∧ (i = 2 ∨ i = 29) ∨ 90 ≤ a ∧ a ≤ 93) by omega) rfl) p_24)
    have j_52 := (NI_f (fun a i z => F_n F37 (show ¬ (a = 77 ∧ (i = 2 ∨ i = 29) ∨ 90 ≤ a ∧ a ≤ 93) by omega) rfl) p_23)
    have j_53 := (QI_f (fun a i z => F_n F37 (show ¬ (a = 77 ∧ (i = 2 ∨ i = 29) ∨ 90 ≤ a ∧ a ≤ 93) by omega) rfl) p_25)
    have j_54 := (PQE_r F37.2.1 (PQE_r F21.2.1 jPQE))
    have j_55 := (FA_f (fun a i z => F_n F37 (show ¬ (a = 77 ∧ (i = 2 ∨ i = 29) ∨ 90 ≤ a ∧ a ≤ 93) by omega) rfl) (FA_f (fun a i z => F_n F21 (show ¬ (a = 0 ∨ 6 ≤ a ∧ a ≤ 76) by omega) rfl) jFA))
    have j_56 := (WC_f (fun a i z => F_n F37 (show ¬ (a = 77 ∧ (i = 2 ∨ i = 29) ∨ 90 ≤ a ∧ a ≤ 93) by omega) rfl) (WC_f (fun a i z => F_n F21 (show ¬ (a = 0 ∨ 6 ≤ a ∧ a ≤ 76) by omega) rfl) jWC))
    have j_57 := (PS_f (fun a i z => F_n F37 (show ¬ (a = 77 ∧ (i = 2 ∨ i = 29) ∨ 90 ≤ a ∧ a ≤ 93) by omega) rfl) (PS_f (fun a i z => F_n F21 (show ¬ (a = 0 ∨ 6 ≤ a ∧ a ≤ 76) by omega) rfl) jPS))
    have j_58 := (KQ_f (fun a i z => F_n F37 (show ¬ (a = 77 ∧ (i = 2 ∨ i = 29) ∨ 90 ≤ a ∧ a ≤ 93) by omega) rfl) (KQ_f (fun a i z => F_n F21 (show ¬ (a = 0 ∨ 6 ≤ a ∧ a ≤ 76) by omega) rfl) jKQ))
    have j_59 := (TP_f (fun a i z => F_n F37 (show ¬ (a = 77 ∧ (i = 2 ∨ i = 29) ∨ 90 ≤ a ∧ a ≤ 93) by omega) rfl) (TP_f (fun a i z => F_n F21 (show ¬ (a = 0 ∨ 6 ≤ a ∧ a ≤ 76) by omega) rfl) jTP))
    have j_60 := (W9_f (fun a i z => F_n F37 (show ¬ (a = 77 ∧ (i = 2 ∨ i = 29) ∨ 90 ≤ a ∧ a ≤ 93) by omega) rfl) (W9_f (fun a i z => F_n F21 (show ¬ (a = 0 ∨ 6 ≤ a ∧ a ≤ 76) by omega) rfl) jW9))
    exact h M40 (u5) (u6) ⟨⟨hG38, ⟨j_51, j_52, j_53, j_54⟩, ⟨j_55, j_56, p_39, j_57, j_58⟩, by omega, by omega⟩, j_59, j_60⟩ (by omega) (by omega)
  · refine to_c (pc := 621) rw_0_621 (x := (1 : Int32)) rfl rfl ?_
    refine to_go (pc := 622) rw_0_622 ?_
    refine s_v (pc := 626) rw_0_626 (by omega) (ls0 := [.ref 0, .int v7, .int v11, .int (1 : Int32)]) rfl (Nat.le_of_ble_eq_true rfl) (Nat.le_of_ble_eq_true rfl) rfl (to_rc rfl rfl rfl (g_o hG rfl)) rfl ?_
    have k_61 : (1 : Int32).toInt = 1 := rfl
    obtain ⟨pz62, pzz62, qz62, qzz62, hpz62, hpzz62, hqz62, hqzz62, hpqz62⟩ := id jPQE
    refine C_121 hX (by omega) hG hpz62 hpzz62 hqz62 hqzz62 hpqz62 (by omega) (by omega) jNI jPI jQI (c := v7) (e := v11) (m := (1 : Int32)) (p := pz62) (pz := pzz62) (q := qz62) (qz := qzz62) (fun r63 M69 hG65 F64 p_66 p_67 p_68 => ?_)
    have n_70 : M69.1.2.1 = M.1.2.1 ∧ M69.1.2.2.1 = M.1.2.2.1 := by rw [F64.1]; exact ⟨rfl, rfl⟩
    refine to_popi (pc := 629) rw_0_629 ?_
    refine to_an (pc := 630) rw_0_630 rfl ?_
    refine to_an (pc := 631) rw_0_631 rfl ?_
    refine to_i (pc := 632) rw_0_632 rfl ?_
    refine to_c (pc := 634) rw_0_634 (x := (1 : Int32)) rfl rfl ?_
    refine s_addk (pc := 635) rw_0_635 (A := i.toInt) (B := 1) rfl rfl (by omega) (v := v5) e6 ?_
    refine s_x0k (pc := 636) rw_0_636 hL (A := v5.toInt) rfl (by omega) (by omega) (v := v7) e8 ?_
    refine to_an (pc := 637) rw_0_637 rfl ?_
    refine to_i (pc := 638) rw_0_638 rfl ?_
    refine to_c (pc := 640) rw_0_640 (x := (2 : Int32)) rfl rfl ?_
    refine s_addk (pc := 641) rw_0_641 (A := i.toInt) (B := 2) rfl rfl (by omega) (v := v9) e10 ?_
    refine s_x0k (pc := 642) rw_0_642 hL (A := v9.toInt) rfl (by omega) (by omega) (v := v11) e12 ?_
    refine to_an (pc := 643) rw_0_643 rfl ?_
    refine to_i (pc := 644) rw_0_644 rfl ?_
    refine to_c (pc := 646) rw_0_646 (x := (3 : Int32)) rfl rfl ?_
    refine s_addk (pc := 647) rw_0_647 (A := i.toInt) (B := 3) rfl rfl (by omega) (v := v13) e14 ?_
    refine s_x0k (pc := 648) rw_0_648 hL (A := v13.toInt) rfl (by omega) (by omega) (v := v15) e16 ?_
    refine b_ieq (pc := 649) rw_0_649 (A := v15.toInt) rfl (fun h78 => ?_) (fun h78 => ?_)
    · refine to_c (pc := 656) rw_0_656 (x := (0 : Int32)) rfl rfl ?_
      refine s_v (pc := 657) rw_0_657 (by omega) (ls0 := [.ref 77, .int v7, .int v11, .int (0 : Int32)]) rfl (Nat.le_of_ble_eq_true rfl) (Nat.le_of_ble_eq_true rfl) rfl (to_rc rfl rfl rfl (g_o hG65 rfl)) rfl ?_
      have k_79 : (0 : Int32).toInt = 0 := rfl
      have j_80 := (NJ_f (fun a i z => F_n F64 (show ¬ (a = 0 ∨ 6 ≤ a ∧ a ≤ 76) by omega) rfl) jNJ)
      refine C_196 hX (by omega) hG65 (by omega) (by omega) j_80 (c := v7) (e := v11) (m := (0 : Int32)) (fun r81 M85 hG83 F82 p_84 => ?_)
      have n_86 : M85.1.2.1 = M69.1.2.1 ∧ M85.1.2.2.1 = M69.1.2.2.1 := by rw [F82.1]; exact ⟨rfl, rfl⟩
      refine to_popi (pc := 660) rw_0_660 ?_
      refine to_go (pc := 661) rw_0_661 ?_
      have c_88 : M85.2.1 77 7 = (M.2.1 77 7) := (F_n F82 (show ¬ (77 = 77 ∧ (7 = 2 ∨ 7 = 29) ∨ 90 ≤ 77 ∧ 77 ≤ 93) by omega) (F_n F64 (show ¬ (77 = 0 ∨ 6 ≤ 77 ∧ 77 ≤ 76) by omega) rfl))
      have t_89 : (M85.2.1 77 7).toInt = (M.2.1 77 7).toInt := congrArg Int32.toInt c_88
      have c_90 : M85.2.1 77 6 = (M.2.1 77 6) := (F_n F82 (show ¬ (77 = 77 ∧ (6 = 2 ∨ 6 = 29) ∨ 90 ≤ 77 ∧ 77 ≤ 93) by omega) (F_n F64 (show ¬ (77 = 0 ∨ 6 ≤ 77 ∧ 77 ≤ 76) by omega) rfl))
      have t_91 : (M85.2.1 77 6).toInt = (M.2.1 77 6).toInt := congrArg Int32.toInt c_90
      have c_92 : M85.2.1 1 1 = (M.2.1 1 1) := (F_n F82 (show ¬ (1 = 77 ∧ (1 = 2 ∨ 1 = 29) ∨ 90 ≤ 1 ∧ 1 ≤ 93) by omega) (F_n F64 (show ¬ (1 = 0 ∨ 6 ≤ 1 ∧ 1 ≤ 76) by omega) rfl))
      have t_93 : (M85.2.1 1 1).toInt = (M.2.1 1 1).toInt := congrArg Int32.toInt c_92
      have c_94 : M85.2.1 77 1 = (M.2.1 77 1) := (F_n F82 (show ¬ (77 = 77 ∧ (1 = 2 ∨ 1 = 29) ∨ 90 ≤ 77 ∧ 77 ≤ 93) by omega) (F_n F64 (show ¬ (77 = 0 ∨ 6 ≤ 77 ∧ 77 ≤ 76) by omega) rfl))
      have t_95 : (M85.2.1 77 1).toInt = (M.2.1 77 1).toInt := congrArg Int32.toInt c_94
      have j_96 := (PI_f (fun a i z => F_n F82 (show ¬ (a = 77 ∧ (i = 2 ∨ i = 29) ∨ 90 ≤ a ∧ a ≤ 93) by omega) rfl) p_67)
      have j_97 := (NI_f (fun a i z => F_n F82 (show ¬ (a = 77 ∧ (i = 2 ∨ i = 29) ∨ 90 ≤ a ∧ a ≤ 93) by omega) rfl) p_66)
      have j_98 := (QI_f (fun a i z => F_n F82 (show ¬ (a = 77 ∧ (i = 2 ∨ i = 29) ∨ 90 ≤ a ∧ a ≤ 93) by omega) rfl) p_68)
      have j_99 := (PQE_r F82.2.1 (PQE_r F64.2.1 jPQE))
      have j_100 := (FA_f (fun a i z => F_n F82 (show ¬ (a = 77 ∧ (i = 2 ∨ i = 29) ∨ 90 ≤ a ∧ a ≤ 93) by omega) rfl) (FA_f (fun a i z => F_n F64 (show ¬ (a = 0 ∨ 6 ≤ a ∧ a ≤ 76) by omega) rfl) jFA))
      have j_101 := (WC_f (fun a i z => F_n F82 (show ¬ (a = 77 ∧ (i = 2 ∨ i = 29) ∨ 90 ≤ a ∧ a ≤ 93) by omega) rfl) (WC_f (fun a i z => F_n F64 (show ¬ (a = 0 ∨ 6 ≤ a ∧ a ≤ 76) by omega) rfl) jWC))
      have j_102 := (PS_f (fun a i z => F_n F82 (show ¬ (a = 77 ∧ (i = 2 ∨ i = 29) ∨ 90 ≤ a ∧ a ≤ 93) by omega) rfl) (PS_f (fun a i z => F_n F64 (show ¬ (a = 0 ∨ 6 ≤ a ∧ a ≤ 76) by omega) rfl) jPS))
      have j_103 := (KQ_f (fun a i z => F_n F82 (show ¬ (a = 77 ∧ (i = 2 ∨ i = 29) ∨ 90 ≤ a ∧ a ≤ 93) by omega) rfl) (KQ_f (fun a i z => F_n F64 (show ¬ (a = 0 ∨ 6 ≤ a ∧ a ≤ 76) by omega) rfl) jKQ))
      have j_104 := (TP_f (fun a i z => F_n F82 (show ¬ (a = 77 ∧ (i = 2 ∨ i = 29) ∨ 90 ≤ a ∧ a ≤ 93) by omega) rfl) (TP_f (fun a i z => F_n F64 (show ¬ (a = 0 ∨ 6 ≤ a ∧ a ≤ 76) by omega) rfl) jTP))
      have j_105 := (W9_f (fun a i z => F_n F82 (show ¬ (a = 77 ∧ (i = 2 ∨ i = 29) ∨ 90 ≤ a ∧ a ≤ 93) by omega) rfl) (W9_f (fun a i z => F_n F64 (show ¬ (a = 0 ∨ 6 ≤ a ∧ a ≤ 76) by omega) rfl) jW9))
      exact h M85 (u5) (u6) ⟨⟨hG83, ⟨j_96, j_97, j_98, j_99⟩, ⟨j_100, j_101, p_84, j_102, j_103⟩, by omega, by omega⟩, j_104, j_105⟩ (by omega) (by omega)
    · refine to_c (pc := 652) rw_0_652 (x := (1 : Int32)) rfl rfl ?_
      refine to_go (pc := 653) rw_0_653 ?_
      refine s_v (pc := 657) rw_0_657 (by omega) (ls0 := [.ref 77, .int v7, .int v11, .int (1 : Int32)]) rfl (Nat.le_of_ble_eq_true rfl) (Nat.le_of_ble_eq_true rfl) rfl (to_rc rfl rfl rfl (g_o hG65 rfl)) rfl ?_
      have j_106 := (NJ_f (fun a i z => F_n F64 (show ¬ (a = 0 ∨ 6 ≤ a ∧ a ≤ 76) by omega) rfl) jNJ)
      refine C_196 hX (by omega) hG65 (by omega) (by omega) j_106 (c := v7) (e := v11) (m := (1 : Int32)) (fun r107 M111 hG109 F108 p_110 => ?_)
      have n_112 : M111.1.2.1 = M69.1.2.1 ∧ M111.1.2.2.1 = M69.1.2.2.1 := by rw [F108.1]; exact ⟨rfl, rfl⟩
      refine to_popi (pc := 660) rw_0_660 ?_
      refine to_go (pc := 661) rw_0_661 ?_
      have c_114 : M111.2.1 77 7 = (M.2.1 77 7) := (F_n F108 (show ¬ (77 = 77 ∧ (7 = 2 ∨ 7 = 29) ∨ 90 ≤ 77 ∧ 77 ≤ 93) by omega) (F_n F64 (show ¬ (77 = 0 ∨ 6 ≤ 77 ∧ 77 ≤ 76) by omega) rfl))
      have t_115 : (M111.2.1 77 7).toInt = (M.2.1 77 7).toInt := congrArg Int32.toInt c_114
      have c_116 : M111.2.1 77 6 = (M.2.1 77 6) := (F_n F108 (show ¬ (77 = 77 ∧ (6 = 2 ∨ 6 = 29) ∨ 90 ≤ 77 ∧ 77 ≤ 93) by omega) (F_n F64 (show ¬ (77 = 0 ∨ 6 ≤ 77 ∧ 77 ≤ 76) by omega) rfl))
      have t_117 : (M111.2.1 77 6).toInt = (M.2.1 77 6).toInt := congrArg Int32.toInt c_116
      have c_118 : M111.2.1 1 1 = (M.2.1 1 1) := (F_n F108 (show ¬ (1 = 77 ∧ (1 = 2 ∨ 1 = 29) ∨ 90 ≤ 1 ∧ 1 ≤ 93) by omega) (F_n F64 (show ¬ (1 = 0 ∨ 6 ≤ 1 ∧ 1 ≤ 76) by omega) rfl))
      have t_119 : (M111.2.1 1 1).toInt = (M.2.1 1 1).toInt := congrArg Int32.toInt c_118
      have c_120 : M111.2.1 77 1 = (M.2.1 77 1) := (F_n F108 (show ¬ (77 = 77 ∧ (1 = 2 ∨ 1 = 29) ∨ 90 ≤ 77 ∧ 77 ≤ 93) by omega) (F_n F64 (show ¬ (77 = 0 ∨ 6 ≤ 77 ∧ 77 ≤ 76) by omega) rfl))
      have t_121 : (M111.2.1 77 1).toInt = (M.2.1 77 1).toInt := congrArg Int32.toInt c_120
      have j_122 := (PI_f (fun a i z => F_n F108 (show ¬ (a = 77 ∧ (i = 2 ∨ i = 29) ∨ 90 ≤ a ∧ a ≤ 93) by omega) rfl) p_67)
      have j_123 := (NI_f (fun a i z => F_n F108 (show ¬ (a = 77 ∧ (i = 2 ∨ i = 29) ∨ 90 ≤ a ∧ a ≤ 93) by omega) rfl) p_66)
      have j_124 := (QI_f (fun a i z => F_n F108 (show ¬ (a = 77 ∧ (i = 2 ∨ i = 29) ∨ 90 ≤ a ∧ a ≤ 93) by omega) rfl) p_68)
      have j_125 := (PQE_r F108.2.1 (PQE_r F64.2.1 jPQE))
      have j_126 := (FA_f (fun a i z => F_n F108 (show ¬ (a = 77 ∧ (i = 2 ∨ i = 29) ∨ 90 ≤ a ∧ a ≤ 93) by omega) rfl) (FA_f (fun a i z => F_n F64 (show ¬ (a = 0 ∨ 6 ≤ a ∧ a ≤ 76) by omega) rfl) jFA))
      have j_127 := (WC_f (fun a i z => F_n F108 (show ¬ (a = 77 ∧ (i = 2 ∨ i = 29) ∨ 90 ≤ a ∧ a ≤ 93) by omega) rfl) (WC_f (fun a i z => F_n F64 (show ¬ (a = 0 ∨ 6 ≤ a ∧ a ≤ 76) by omega) rfl) jWC))
      have j_128 := (PS_f (fun a i z => F_n F108 (show ¬ (a = 77 ∧ (i = 2 ∨ i = 29) ∨ 90 ≤ a ∧ a ≤ 93) by omega) rfl) (PS_f (fun a i z => F_n F64 (show ¬ (a = 0 ∨ 6 ≤ a ∧ a ≤ 76) by omega) rfl) jPS))
      have j_129 := (KQ_f (fun a i z => F_n F108 (show ¬ (a = 77 ∧ (i = 2 ∨ i = 29) ∨ 90 ≤ a ∧ a ≤ 93) by omega) rfl) (KQ_f (fun a i z => F_n F64 (show ¬ (a = 0 ∨ 6 ≤ a ∧ a ≤ 76) by omega) rfl) jKQ))
      have j_130 := (TP_f (fun a i z => F_n F108 (show ¬ (a = 77 ∧ (i = 2 ∨ i = 29) ∨ 90 ≤ a ∧ a ≤ 93) by omega) rfl) (TP_f (fun a i z => F_n F64 (show ¬ (a = 0 ∨ 6 ≤ a ∧ a ≤ 76) by omega) rfl) jTP))
      have j_131 := (W9_f (fun a i z => F_n F108 (show ¬ (a = 77 ∧ (i = 2 ∨ i = 29) ∨ 90 ≤ a ∧ a ≤ 93) by omega) rfl) (W9_f (fun a i z => F_n F64 (show ¬ (a = 0 ∨ 6 ≤ a ∧ a ≤ 76) by omega) rfl) jW9))
      exact h M111 (u5) (u6) ⟨⟨hG109, ⟨j_122, j_123, j_124, j_125⟩, ⟨j_126, j_127, p_110, j_128, j_129⟩, by omega, by omega⟩, j_130, j_131⟩ (by omega) (by omega)
set_option maxRecDepth 4000 in
set_option maxHeartbeats 0 in
theorem LW_13 {X : mm_X} {d L : Nat} {M : mm_M} {Q : Option Value → mm_M → Prop} {i : Int32} {u5 u6 : Value} (hX : g_X X) (hW : g_W X) (hL : (X 0).1 = L) (h3 : L ≤ 3072) (hd : 40 ≤ d) (hi : 0 ≤ i.toInt) (hi2 : i.toInt + 6 ≤ (L : Int)) (H : LI3 M) (h : ∀ (M1 : mm_M) (v5 v6 : Value), LI3 M1 → M1.1.2.1 ≤ M.1.2.1 + 1 → M1.1.2.2.1 ≤ M.1.2.2.1 + 6 → mm_T X d 0 1313 [.ref mm_ext, .ref 0, .ref 77, .ref 125, .int i, v5, v6] [] M1 Q) : mm_T X d 0 664 [.ref mm_ext, .ref 0, .ref 77, .ref 125, .int i, u5, u6] [] M Q := by
  obtain ⟨⟨hG, ⟨jPI, jNI, jQI, jPQE⟩, ⟨jFA, jWC, jNJ, jPS, jKQ⟩, jJ, jE⟩, jTP, jW9⟩ := H
  have b_1 := g_b hG (a := 77) (i := 7) (lo := 0) (hi := 500) rfl rfl
  have b_2 := g_b hG (a := 77) (i := 6) (lo := 0) (hi := 500) rfl rfl
  have b_3 := g_b hG (a := 1) (i := 1) (lo := 0) (hi := 500) rfl rfl
  have b_4 := g_b hG (a := 77) (i := 1) (lo := 0) (hi := 500) rfl rfl
  refine to_an (pc := 664) rw_0_664 rfl ?_
  refine to_an (pc := 665) rw_0_665 rfl ?_
  refine to_i (pc := 666) rw_0_666 rfl ?_
  refine to_c (pc := 668) rw_0_668 (x := (1 : Int32)) rfl rfl ?_
  refine s_add (pc := 669) rw_0_669 (A := i.toInt) (B := 1) rfl rfl (by omega) (fun v5 e6 => ?_)
  refine s_x0 (pc := 670) rw_0_670 hL (A := v5.toInt) rfl (by omega) (by omega) (fun v7 e8 => ?_)
  refine to_an (pc := 671) rw_0_671 rfl ?_
  refine to_i (pc := 672) rw_0_672 rfl ?_
  refine to_c (pc := 674) rw_0_674 (x := (2 : Int32)) rfl rfl ?_
  refine s_add (pc := 675) rw_0_675 (A := i.toInt) (B := 2) rfl rfl (by omega) (fun v9 e10 => ?_)
  refine s_x0 (pc := 676) rw_0_676 hL (A := v9.toInt) rfl (by omega) (by omega) (fun v11 e12 => ?_)
  refine s_v (pc := 677) rw_0_677 (by omega) (ls0 := [.ref 0, .int v7, .int v11]) rfl (Nat.le_of_ble_eq_true rfl) (Nat.le_of_ble_eq_true rfl) rfl (to_rc rfl rfl rfl (g_o hG rfl)) rfl ?_
  obtain ⟨pz13, pzz13, qz13, qzz13, hpz13, hpzz13, hqz13, hqzz13, hpqz13⟩ := id jPQE
  refine C_122 hX (by omega) hG hpz13 hpzz13 hqz13 hqzz13 hpqz13 jNI jPI jQI (w := v7) (b := v11) (p := pz13) (pz := pzz13) (q := qz13) (qz := qzz13) (fun r14 M20 hG16 F15 p_17 p_18 p_19 => ?_)
  have n_21 : M20.1.2.1 = M.1.2.1 ∧ M20.1.2.2.1 = M.1.2.2.1 := by rw [F15.1]; exact ⟨rfl, rfl⟩
  refine to_popi (pc := 680) rw_0_680 ?_
  refine to_an (pc := 681) rw_0_681 rfl ?_
  refine to_an (pc := 682) rw_0_682 rfl ?_
  refine to_i (pc := 683) rw_0_683 rfl ?_
  refine to_c (pc := 685) rw_0_685 (x := (1 : Int32)) rfl rfl ?_
  refine s_addk (pc := 686) rw_0_686 (A := i.toInt) (B := 1) rfl rfl (by omega) (v := v5) e6 ?_
  refine s_x0k (pc := 687) rw_0_687 hL (A := v5.toInt) rfl (by omega) (by omega) (v := v7) e8 ?_
  refine to_an (pc := 688) rw_0_688 rfl ?_
  refine to_i (pc := 689) rw_0_689 rfl ?_
  refine to_c (pc := 691) rw_0_691 (x := (2 : Int32)) rfl rfl ?_
  refine s_addk (pc := 692) rw_0_692 (A := i.toInt) (B := 2) rfl rfl (by omega) (v := v9) e10 ?_
  refine s_x0k (pc := 693) rw_0_693 hL (A := v9.toInt) rfl (by omega) (by omega) (v := v11) e12 ?_
  refine s_v (pc := 694) rw_0_694 (by omega) (ls0 := [.ref 77, .int v7, .int v11]) rfl (Nat.le_of_ble_eq_true rfl) (Nat.le_of_ble_eq_true rfl) rfl (to_rc rfl rfl rfl (g_o hG16 rfl)) rfl ?_
  have j_27 := (NJ_f (fun a i z => F_n F15 (show ¬ (a = 0 ∨ 6 ≤ a ∧ a ≤ 76) by omega) rfl) jNJ)
  refine C_198 hX (by omega) hG16 j_27 (w := v7) (b := v11) (fun r28 M32 hG30 F29 p_31 => ?_)
  have n_33 : M32.1.2.1 = M20.1.2.1 ∧ M32.1.2.2.1 = M20.1.2.2.1 := by rw [F29.1]; exact ⟨rfl, rfl⟩
  refine to_popi (pc := 697) rw_0_697 ?_
  refine to_go (pc := 698) rw_0_698 ?_
  have c_35 : M32.2.1 77 7 = (M.2.1 77 7) := (F_n F29 (show ¬ (77 = 77 ∧ (7 = 2 ∨ 7 = 29) ∨ 90 ≤ 77 ∧ 77 ≤ 93) by omega) (F_n F15 (show ¬ (77 = 0 ∨ 6 ≤ 77 ∧ 77 ≤ 76) by omega) rfl))
  have t_36 : (M32.2.1 77 7).toInt = (M.2.1 77 7).toInt := congrArg Int32.toInt c_35
  have c_37 : M32.2.1 77 6 = (M.2.1 77 6) := (F_n F29 (show ¬ (77 = 77 ∧ (6 = 2 ∨ 6 = 29) ∨ 90 ≤ 77 ∧ 77 ≤ 93) by omega) (F_n F15 (show ¬ (77 = 0 ∨ 6 ≤ 77 ∧ 77 ≤ 76) by omega) rfl))
  have t_38 : (M32.2.1 77 6).toInt = (M.2.1 77 6).toInt := congrArg Int32.toInt c_37
  have c_39 : M32.2.1 1 1 = (M.2.1 1 1) := (F_n F29 (show ¬ (1 = 77 ∧ (1 = 2 ∨ 1 = 29) ∨ 90 ≤ 1 ∧ 1 ≤ 93) by omega) (F_n F15 (show ¬ (1 = 0 ∨ 6 ≤ 1 ∧ 1 ≤ 76) by omega) rfl))
  have t_40 : (M32.2.1 1 1).toInt = (M.2.1 1 1).toInt := congrArg Int32.toInt c_39
  have c_41 : M32.2.1 77 1 = (M.2.1 77 1) := (F_n F29 (show ¬ (77 = 77 ∧ (1 = 2 ∨ 1 = 29) ∨ 90 ≤ 77 ∧ 77 ≤ 93) by omega) (F_n F15 (show ¬ (77 = 0 ∨ 6 ≤ 77 ∧ 77 ≤ 76) by omega) rfl))
  have t_42 : (M32.2.1 77 1).toInt = (M.2.1 77 1).toInt := congrArg Int32.toInt c_41
  have j_43 := (PI_f (fun a i z => F_n F29 (show ¬ (a = 77 ∧ (i = 2 ∨ i = 29) ∨ 90 ≤ a ∧ a ≤ 93) by omega) rfl) p_18)
  have j_44 := (NI_f (fun a i z => F_n F29 (show ¬ (a = 77 ∧ (i = 2 ∨ i = 29) ∨ 90 ≤ a ∧ a ≤ 93) by omega) rfl) p_17)
  have j_45 := (QI_f (fun a i z => F_n F29 (show ¬ (a = 77 ∧ (i = 2 ∨ i = 29) ∨ 90 ≤ a ∧ a ≤ 93) by omega) rfl) p_19)
  have j_46 := (PQE_r F29.2.1 (PQE_r F15.2.1 jPQE))
  have j_47 := (FA_f (fun a i z => F_n F29 (show ¬ (a = 77 ∧ (i = 2 ∨ i = 29) ∨ 90 ≤ a ∧ a ≤ 93) by omega) rfl) (FA_f (fun a i z => F_n F15 (show ¬ (a = 0 ∨ 6 ≤ a ∧ a ≤ 76) by omega) rfl) jFA))
  have j_48 := (WC_f (fun a i z => F_n F29 (show ¬ (a = 77 ∧ (i = 2 ∨ i = 29) ∨ 90 ≤ a ∧ a ≤ 93) by omega) rfl) (WC_f (fun a i z => F_n F15 (show ¬ (a = 0 ∨ 6 ≤ a ∧ a ≤ 76) by omega) rfl) jWC))
  have j_49 := (PS_f (fun a i z => F_n F29 (show ¬ (a = 77 ∧ (i = 2 ∨ i = 29) ∨ 90 ≤ a ∧ a ≤ 93) by omega) rfl) (PS_f (fun a i z => F_n F15 (show ¬ (a = 0 ∨ 6 ≤ a ∧ a ≤ 76) by omega) rfl) jPS))
  have j_50 := (KQ_f (fun a i z => F_n F29 (show ¬ (a = 77 ∧ (i = 2 ∨ i = 29) ∨ 90 ≤ a ∧ a ≤ 93) by omega) rfl) (KQ_f (fun a i z => F_n F15 (show ¬ (a = 0 ∨ 6 ≤ a ∧ a ≤ 76) by omega) rfl) jKQ))
  have j_51 := (TP_f (fun a i z => F_n F29 (show ¬ (a = 77 ∧ (i = 2 ∨ i = 29) ∨ 90 ≤ a ∧ a ≤ 93) by omega) rfl) (TP_f (fun a i z => F_n F15 (show ¬ (a = 0 ∨ 6 ≤ a ∧ a ≤ 76) by omega) rfl) jTP))
  have j_52 := (W9_f (fun a i z => F_n F29 (show ¬ (a = 77 ∧ (i = 2 ∨ i = 29) ∨ 90 ≤ a ∧ a ≤ 93) by omega) rfl) (W9_f (fun a i z => F_n F15 (show ¬ (a = 0 ∨ 6 ≤ a ∧ a ≤ 76) by omega) rfl) jW9))
  exact h M32 (u5) (u6) ⟨⟨hG30, ⟨j_43, j_44, j_45, j_46⟩, ⟨j_47, j_48, p_31, j_49, j_50⟩, by omega, by omega⟩, j_51, j_52⟩ (by omega) (by omega)
set_option maxRecDepth 4000 in
set_option maxHeartbeats 0 in
theorem LW_14 {X : mm_X} {d L : Nat} {M : mm_M} {Q : Option Value → mm_M → Prop} {i : Int32} {u5 u6 : Value} (hX : g_X X) (hW : g_W X) (hL : (X 0).1 = L) (h3 : L ≤ 3072) (hd : 40 ≤ d) (hi : 0 ≤ i.toInt) (hi2 : i.toInt + 6 ≤ (L : Int)) (H : LI3 M) (h : ∀ (M1 : mm_M) (v5 v6 : Value), LI3 M1 → M1.1.2.1 ≤ M.1.2.1 + 1 → M1.1.2.2.1 ≤ M.1.2.2.1 + 6 → mm_T X d 0 1313 [.ref mm_ext, .ref 0, .ref 77, .ref 125, .int i, v5, v6] [] M1 Q) : mm_T X d 0 701 [.ref mm_ext, .ref 0, .ref 77, .ref 125, .int i, u5, u6] [] M Q := by
  obtain ⟨⟨hG, ⟨jPI, jNI, jQI, jPQE⟩, ⟨jFA, jWC, jNJ, jPS, jKQ⟩, jJ, jE⟩, jTP, jW9⟩ := H
  have b_1 := g_b hG (a := 77) (i := 7) (lo := 0) (hi := 500) rfl rfl
  have b_2 := g_b hG (a := 77) (i := 6) (lo := 0) (hi := 500) rfl rfl
  have b_3 := g_b hG (a := 1) (i := 1) (lo := 0) (hi := 500) rfl rfl
  have b_4 := g_b hG (a := 77) (i := 1) (lo := 0) (hi := 500) rfl rfl
  refine to_an (pc := 701) rw_0_701 rfl ?_
  refine to_an (pc := 702) rw_0_702 rfl ?_
  refine to_i (pc := 703) rw_0_703 rfl ?_
  refine to_c (pc := 705) rw_0_705 (x := (1 : Int32)) rfl rfl ?_
  refine s_add (pc := 706) rw_0_706 (A := i.toInt) (B := 1) rfl rfl (by omega) (fun v5 e6 => ?_)
  refine s_x0 (pc := 707) rw_0_707 hL (A := v5.toInt) rfl (by omega) (by omega) (fun v7 e8 => ?_)
  refine s_v (pc := 708) rw_0_708 (by omega) (ls0 := [.ref 0, .int v7]) rfl (Nat.le_of_ble_eq_true rfl) (Nat.le_of_ble_eq_true rfl) rfl (to_rc rfl rfl rfl (g_o hG rfl)) rfl ?_
  obtain ⟨pz9, pzz9, qz9, qzz9, hpz9, hpzz9, hqz9, hqzz9, hpqz9⟩ := id jPQE
  refine C_123 hX (by omega) hG hpz9 hpzz9 hqz9 hqzz9 hpqz9 jNI jPI jQI (n := v7) (p := pz9) (pz := pzz9) (q := qz9) (qz := qzz9) (fun r10 M16 hG12 F11 p_13 p_14 p_15 => ?_)
  have n_17 : M16.1.2.1 = M.1.2.1 ∧ M16.1.2.2.1 = M.1.2.2.1 := by rw [F11.1]; exact ⟨rfl, rfl⟩
  refine to_popi (pc := 711) rw_0_711 ?_
  refine to_an (pc := 712) rw_0_712 rfl ?_
  refine to_an (pc := 713) rw_0_713 rfl ?_
  refine to_i (pc := 714) rw_0_714 rfl ?_
  refine to_c (pc := 716) rw_0_716 (x := (1 : Int32)) rfl rfl ?_
  refine s_addk (pc := 717) rw_0_717 (A := i.toInt) (B := 1) rfl rfl (by omega) (v := v5) e6 ?_
  refine s_x0k (pc := 718) rw_0_718 hL (A := v5.toInt) rfl (by omega) (by omega) (v := v7) e8 ?_
  refine s_v (pc := 719) rw_0_719 (by omega) (ls0 := [.ref 77, .int v7]) rfl (Nat.le_of_ble_eq_true rfl) (Nat.le_of_ble_eq_true rfl) rfl (to_rc rfl rfl rfl (g_o hG12 rfl)) rfl ?_
  have j_21 := (NJ_f (fun a i z => F_n F11 (show ¬ (a = 0 ∨ 6 ≤ a ∧ a ≤ 76) by omega) rfl) jNJ)
  refine C_199 hX (by omega) hG12 j_21 (n := v7) (fun r22 M26 hG24 F23 p_25 => ?_)
  have n_27 : M26.1.2.1 = M16.1.2.1 ∧ M26.1.2.2.1 = M16.1.2.2.1 := by rw [F23.1]; exact ⟨rfl, rfl⟩
  refine to_popi (pc := 722) rw_0_722 ?_
  refine to_go (pc := 723) rw_0_723 ?_
  have c_29 : M26.2.1 77 7 = (M.2.1 77 7) := (F_n F23 (show ¬ (77 = 77 ∧ (7 = 2 ∨ 7 = 29) ∨ 90 ≤ 77 ∧ 77 ≤ 93) by omega) (F_n F11 (show ¬ (77 = 0 ∨ 6 ≤ 77 ∧ 77 ≤ 76) by omega) rfl))
  have t_30 : (M26.2.1 77 7).toInt = (M.2.1 77 7).toInt := congrArg Int32.toInt c_29
  have c_31 : M26.2.1 77 6 = (M.2.1 77 6) := (F_n F23 (show ¬ (77 = 77 ∧ (6 = 2 ∨ 6 = 29) ∨ 90 ≤ 77 ∧ 77 ≤ 93) by omega) (F_n F11 (show ¬ (77 = 0 ∨ 6 ≤ 77 ∧ 77 ≤ 76) by omega) rfl))
  have t_32 : (M26.2.1 77 6).toInt = (M.2.1 77 6).toInt := congrArg Int32.toInt c_31
  have c_33 : M26.2.1 1 1 = (M.2.1 1 1) := (F_n F23 (show ¬ (1 = 77 ∧ (1 = 2 ∨ 1 = 29) ∨ 90 ≤ 1 ∧ 1 ≤ 93) by omega) (F_n F11 (show ¬ (1 = 0 ∨ 6 ≤ 1 ∧ 1 ≤ 76) by omega) rfl))
  have t_34 : (M26.2.1 1 1).toInt = (M.2.1 1 1).toInt := congrArg Int32.toInt c_33
  have c_35 : M26.2.1 77 1 = (M.2.1 77 1) := (F_n F23 (show ¬ (77 = 77 ∧ (1 = 2 ∨ 1 = 29) ∨ 90 ≤ 77 ∧ 77 ≤ 93) by omega) (F_n F11 (show ¬ (77 = 0 ∨ 6 ≤ 77 ∧ 77 ≤ 76) by omega) rfl))
  have t_36 : (M26.2.1 77 1).toInt = (M.2.1 77 1).toInt := congrArg Int32.toInt c_35
  have j_37 := (PI_f (fun a i z => F_n F23 (show ¬ (a = 77 ∧ (i = 2 ∨ i = 29) ∨ 90 ≤ a ∧ a ≤ 93) by omega) rfl) p_14)
  have j_38 := (NI_f (fun a i z => F_n F23 (show ¬ (a = 77 ∧ (i = 2 ∨ i = 29) ∨ 90 ≤ a ∧ a ≤ 93) by omega) rfl) p_13)
  have j_39 := (QI_f (fun a i z => F_n F23 (show ¬ (a = 77 ∧ (i = 2 ∨ i = 29) ∨ 90 ≤ a ∧ a ≤ 93) by omega) rfl) p_15)
  have j_40 := (PQE_r F23.2.1 (PQE_r F11.2.1 jPQE))
  have j_41 := (FA_f (fun a i z => F_n F23 (show ¬ (a = 77 ∧ (i = 2 ∨ i = 29) ∨ 90 ≤ a ∧ a ≤ 93) by omega) rfl) (FA_f (fun a i z => F_n F11 (show ¬ (a = 0 ∨ 6 ≤ a ∧ a ≤ 76) by omega) rfl) jFA))
  have j_42 := (WC_f (fun a i z => F_n F23 (show ¬ (a = 77 ∧ (i = 2 ∨ i = 29) ∨ 90 ≤ a ∧ a ≤ 93) by omega) rfl) (WC_f (fun a i z => F_n F11 (show ¬ (a = 0 ∨ 6 ≤ a ∧ a ≤ 76) by omega) rfl) jWC))
  have j_43 := (PS_f (fun a i z => F_n F23 (show ¬ (a = 77 ∧ (i = 2 ∨ i = 29) ∨ 90 ≤ a ∧ a ≤ 93) by omega) rfl) (PS_f (fun a i z => F_n F11 (show ¬ (a = 0 ∨ 6 ≤ a ∧ a ≤ 76) by omega) rfl) jPS))
  have j_44 := (KQ_f (fun a i z => F_n F23 (show ¬ (a = 77 ∧ (i = 2 ∨ i = 29) ∨ 90 ≤ a ∧ a ≤ 93) by omega) rfl) (KQ_f (fun a i z => F_n F11 (show ¬ (a = 0 ∨ 6 ≤ a ∧ a ≤ 76) by omega) rfl) jKQ))
  have j_45 := (TP_f (fun a i z => F_n F23 (show ¬ (a = 77 ∧ (i = 2 ∨ i = 29) ∨ 90 ≤ a ∧ a ≤ 93) by omega) rfl) (TP_f (fun a i z => F_n F11 (show ¬ (a = 0 ∨ 6 ≤ a ∧ a ≤ 76) by omega) rfl) jTP))
  have j_46 := (W9_f (fun a i z => F_n F23 (show ¬ (a = 77 ∧ (i = 2 ∨ i = 29) ∨ 90 ≤ a ∧ a ≤ 93) by omega) rfl) (W9_f (fun a i z => F_n F11 (show ¬ (a = 0 ∨ 6 ≤ a ∧ a ≤ 76) by omega) rfl) jW9))
  exact h M26 (u5) (u6) ⟨⟨hG24, ⟨j_37, j_38, j_39, j_40⟩, ⟨j_41, j_42, p_25, j_43, j_44⟩, by omega, by omega⟩, j_45, j_46⟩ (by omega) (by omega)
