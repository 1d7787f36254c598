set_option maxRecDepth 4000 in
set_option maxHeartbeats 0 in
theorem LW_0 {X : mm_X} {d L : Nat} {M : mm_M} {Q : Option Value → mm_M → Prop} {i : Int32} {u5 u6 : Value} (hX : g_X X) (hW : g_W X) (hL : (X 0).1 = L) (h3 : L ≤ 3072) (hd : 40 ≤ d) (hi : 0 ≤ i.toInt) (hi2 : i.toInt + 6 ≤ (L : Int)) (H : LI4 M) (h : ∀ (M1 : mm_M) (v5 v6 : Value), LI4 M1 → M1.1.2.1 ≤ M.1.2.1 + 1 → M1.1.2.2.1 ≤ M.1.2.2.1 + 6 → mm_T X d 0 1313 [.ref mm_ext, .ref 0, .ref 77, .ref 125, .int i, v5, v6] [] M1 Q) : mm_T X d 0 176 [.ref mm_ext, .ref 0, .ref 77, .ref 125, .int i, u5, u6] [] M Q := by
  obtain ⟨⟨⟨hG, ⟨jPI, jNI, jQI, jPQE⟩, ⟨jFA, jWC, jNJ, jPS, jKQ⟩, jJ, jE⟩, jTP, jW9⟩, jNE, jCC⟩ := H
  have b_1 := g_b hG (a := 77) (i := 7) (lo := 0) (hi := 500) rfl rfl
  have b_2 := g_b hG (a := 77) (i := 6) (lo := 0) (hi := 500) rfl rfl
  have b_3 := g_b hG (a := 1) (i := 1) (lo := 0) (hi := 500) rfl rfl
  have b_4 := g_b hG (a := 77) (i := 1) (lo := 0) (hi := 500) rfl rfl
  have b_5 := g_b hG (a := 0) (i := 12) (lo := 0) (hi := 30) rfl rfl
  have b_6 := g_b hG (a := 77) (i := 28) (lo := 0) (hi := 30) rfl rfl
  refine to_an (pc := 176) rw_0_176 rfl ?_
  refine to_an (pc := 177) rw_0_177 rfl ?_
  refine to_i (pc := 178) rw_0_178 rfl ?_
  refine to_c (pc := 180) rw_0_180 (x := (1 : Int32)) rfl rfl ?_
  refine s_add (pc := 181) rw_0_181 (A := i.toInt) (B := 1) rfl rfl (by omega) (fun v7 e8 => ?_)
  refine s_x0 (pc := 182) rw_0_182 hL (A := v7.toInt) rfl (by omega) (by omega) (fun v9 e10 => ?_)
  refine to_an (pc := 183) rw_0_183 rfl ?_
  refine to_i (pc := 184) rw_0_184 rfl ?_
  refine to_c (pc := 186) rw_0_186 (x := (2 : Int32)) rfl rfl ?_
  refine s_add (pc := 187) rw_0_187 (A := i.toInt) (B := 2) rfl rfl (by omega) (fun v11 e12 => ?_)
  refine s_x0 (pc := 188) rw_0_188 hL (A := v11.toInt) rfl (by omega) (by omega) (fun v13 e14 => ?_)
  refine to_an (pc := 189) rw_0_189 rfl ?_
  refine to_i (pc := 190) rw_0_190 rfl ?_
  refine to_c (pc := 192) rw_0_192 (x := (3 : Int32)) rfl rfl ?_
  refine s_add (pc := 193) rw_0_193 (A := i.toInt) (B := 3) rfl rfl (by omega) (fun v15 e16 => ?_)
  refine s_x0 (pc := 194) rw_0_194 hL (A := v15.toInt) rfl (by omega) (by omega) (fun v17 e18 => ?_)
  refine to_an (pc := 195) rw_0_195 rfl ?_
  refine to_i (pc := 196) rw_0_196 rfl ?_
  refine to_c (pc := 198) rw_0_198 (x := (4 : Int32)) rfl rfl ?_
  refine s_add (pc := 199) rw_0_199 (A := i.toInt) (B := 4) rfl rfl (by omega) (fun v19 e20 => ?_)
  refine s_x0 (pc := 200) rw_0_200 hL (A := v19.toInt) rfl (by omega) (by omega) (fun v21 e22 => ?_)
  refine to_an (pc := 201) rw_0_201 rfl ?_
  refine to_i (pc := 202) rw_0_202 rfl ?_
  refine to_c (pc := 204) rw_0_204 (x := (5 : Int32)) rfl rfl ?_
  refine s_add (pc := 205) rw_0_205 (A := i.toInt) (B := 5) rfl rfl (by omega) (fun v23 e24 => ?_)
  refine s_x0 (pc := 206) rw_0_206 hL (A := v23.toInt) rfl (by omega) (by omega) (fun v25 e26 => ?_)
  refine s_v (pc := 207) rw_0_207 (by omega) (ls0 := [.ref 0, .int v9, .int v13, .int v17, .int v21, .int v25]) rfl (Nat.le_of_ble_eq_true rfl) (Nat.le_of_ble_eq_true rfl) rfl (to_rc rfl rfl rfl (g_o hG rfl)) rfl ?_
  refine E_110 hX (by omega) hG (a := v9) (b := v13) (c := v17) (x := v21) (e := v25) (fun r27 M33 hG29 F28 p_30 p_31 p_32 => ?_)
  have n_34 : M33.1.2.1 = M.1.2.1 ∧ M33.1.2.2.1 = M.1.2.2.1 := by rw [F28.1]; exact ⟨rfl, rfl⟩
  have b_36 := g_b hG29 (a := 1) (i := 1) (lo := 0) (hi := 500) rfl rfl
  refine to_popi (pc := 210) rw_0_210 ?_
  refine to_an (pc := 211) rw_0_211 rfl ?_
  refine to_an (pc := 212) rw_0_212 rfl ?_
  refine to_i (pc := 213) rw_0_213 rfl ?_
  refine to_c (pc := 215) rw_0_215 (x := (1 : Int32)) rfl rfl ?_
  refine s_addk (pc := 216) rw_0_216 (A := i.toInt) (B := 1) rfl rfl (by omega) (v := v7) e8 ?_
  refine s_x0k (pc := 217) rw_0_217 hL (A := v7.toInt) rfl (by omega) (by omega) (v := v9) e10 ?_
  refine to_an (pc := 218) rw_0_218 rfl ?_
  refine to_i (pc := 219) rw_0_219 rfl ?_
  refine to_c (pc := 221) rw_0_221 (x := (2 : Int32)) rfl rfl ?_
  refine s_addk (pc := 222) rw_0_222 (A := i.toInt) (B := 2) rfl rfl (by omega) (v := v11) e12 ?_
  refine s_x0k (pc := 223) rw_0_223 hL (A := v11.toInt) rfl (by omega) (by omega) (v := v13) e14 ?_
  refine to_an (pc := 224) rw_0_224 rfl ?_
  refine to_i (pc := 225) rw_0_225 rfl ?_
  refine to_c (pc := 227) rw_0_227 (x := (3 : Int32)) rfl rfl ?_
  refine s_addk (pc := 228) rw_0_228 (A := i.toInt) (B := 3) rfl rfl (by omega) (v := v15) e16 ?_
  refine s_x0k (pc := 229) rw_0_229 hL (A := v15.toInt) rfl (by omega) (by omega) (v := v17) e18 ?_
  refine to_an (pc := 230) rw_0_230 rfl ?_
  refine to_i (pc := 231) rw_0_231 rfl ?_
  refine to_c (pc := 233) rw_0_233 (x := (4 : Int32)) rfl rfl ?_
  refine s_addk (pc := 234) rw_0_234 (A := i.toInt) (B := 4) rfl rfl (by omega) (v := v19) e20 ?_
  refine s_x0k (pc := 235) rw_0_235 hL (A := v19.toInt) rfl (by omega) (by omega) (v := v21) e22 ?_
  refine to_an (pc := 236) rw_0_236 rfl ?_
  refine to_i (pc := 237) rw_0_237 rfl ?_
  refine to_c (pc := 239) rw_0_239 (x := (5 : Int32)) rfl rfl ?_
  refine s_addk (pc := 240) rw_0_240 (A := i.toInt) (B := 5) rfl rfl (by omega) (v := v23) e24 ?_
  refine s_x0k (pc := 241) rw_0_241 hL (A := v23.toInt) rfl (by omega) (by omega) (v := v25) e26 ?_
  refine s_v (pc := 242) rw_0_242 (by omega) (ls0 := [.ref 77, .int v9, .int v13, .int v17, .int v21, .int v25, .null, .null]) rfl (Nat.le_of_ble_eq_true rfl) (Nat.le_of_ble_eq_true rfl) rfl (to_rc rfl rfl rfl (g_o hG29 rfl)) rfl ?_
  have c_47 : M33.2.1 77 1 = (M.2.1 77 1) := (F_n F28 (show ¬ (77 = 1 ∧ 1 = 1 ∨ 77 = 2) by omega) rfl)
  have t_48 : (M33.2.1 77 1).toInt = (M.2.1 77 1).toInt := congrArg Int32.toInt c_47
  refine E_148 hX (by omega) hG29 (a := v9) (b := v13) (c := v17) (x := v21) (e := v25) (fun r49 M55 hG51 F50 p_52 p_53 p_54 => ?_)
  have n_56 : M55.1.2.1 = M33.1.2.1 ∧ M55.1.2.2.1 = M33.1.2.2.1 := by rw [F50.1]; exact ⟨rfl, rfl⟩
  have b_58 := g_b hG51 (a := 77) (i := 1) (lo := 0) (hi := 500) rfl rfl
  have c_59 : M55.2.1 1 1 = (M33.2.1 1 1) := (F_n F50 (show ¬ (1 = 77 ∧ (1 = 1 ∨ 1 = 2) ∨ 1 = 78) by omega) rfl)
  have t_60 : (M55.2.1 1 1).toInt = (M33.2.1 1 1).toInt := congrArg Int32.toInt c_59
  have z_61 := TP_d jTP (by omega) (by omega) p_32 (by omega) (fun k => (F_n F28 (show ¬ (78 = 1 ∧ k = 1 ∨ 78 = 2) by omega) rfl)) (F_n F28 (show ¬ (77 = 1 ∧ 1 = 1 ∨ 77 = 2) by omega) rfl) p_54 (fun k => (F_n F50 (show ¬ (2 = 77 ∧ (k = 1 ∨ k = 2) ∨ 2 = 78) by omega) rfl))
  refine to_popi (pc := 245) rw_0_245 ?_
  refine to_go (pc := 246) rw_0_246 ?_
  have c_62 : M55.2.1 77 7 = (M.2.1 77 7) := (F_n F50 (show ¬ (77 = 77 ∧ (7 = 1 ∨ 7 = 2) ∨ 77 = 78) by omega) (F_n F28 (show ¬ (77 = 1 ∧ 7 = 1 ∨ 77 = 2) by omega) rfl))
  have t_63 : (M55.2.1 77 7).toInt = (M.2.1 77 7).toInt := congrArg Int32.toInt c_62
  have c_64 : M55.2.1 77 6 = (M.2.1 77 6) := (F_n F50 (show ¬ (77 = 77 ∧ (6 = 1 ∨ 6 = 2) ∨ 77 = 78) by omega) (F_n F28 (show ¬ (77 = 1 ∧ 6 = 1 ∨ 77 = 2) by omega) rfl))
  have t_65 : (M55.2.1 77 6).toInt = (M.2.1 77 6).toInt := congrArg Int32.toInt c_64
  have c_66 : M55.2.1 0 12 = (M.2.1 0 12) := (F_n F50 (show ¬ (0 = 77 ∧ (12 = 1 ∨ 12 = 2) ∨ 0 = 78) by omega) (F_n F28 (show ¬ (0 = 1 ∧ 12 = 1 ∨ 0 = 2) by omega) rfl))
  have t_67 : (M55.2.1 0 12).toInt = (M.2.1 0 12).toInt := congrArg Int32.toInt c_66
  have c_68 : M55.2.1 77 28 = (M.2.1 77 28) := (F_n F50 (show ¬ (77 = 77 ∧ (28 = 1 ∨ 28 = 2) ∨ 77 = 78) by omega) (F_n F28 (show ¬ (77 = 1 ∧ 28 = 1 ∨ 77 = 2) by omega) rfl))
  have t_69 : (M55.2.1 77 28).toInt = (M.2.1 77 28).toInt := congrArg Int32.toInt c_68
  have j_70 := (PI_f (fun a i z => F_n F50 (show ¬ (a = 77 ∧ (i = 1 ∨ i = 2) ∨ a = 78) by omega) rfl) (PI_f (fun a i z => F_n F28 (show ¬ (a = 1 ∧ i = 1 ∨ a = 2) by omega) rfl) jPI))
  have j_71 := (NI_f (fun a i z => F_n F50 (show ¬ (a = 77 ∧ (i = 1 ∨ i = 2) ∨ a = 78) by omega) rfl) (NI_f (fun a i z => F_n F28 (show ¬ (a = 1 ∧ i = 1 ∨ a = 2) by omega) rfl) jNI))
  have j_72 := (QI_f (fun a i z => F_n F50 (show ¬ (a = 77 ∧ (i = 1 ∨ i = 2) ∨ a = 78) by omega) rfl) (QI_f (fun a i z => F_n F28 (show ¬ (a = 1 ∧ i = 1 ∨ a = 2) by omega) rfl) jQI))
  have j_73 := (PQE_r F50.2.1 (PQE_r F28.2.1 jPQE))
  have j_74 := (FA_f (fun a i z => F_n F50 (show ¬ (a = 77 ∧ (i = 1 ∨ i = 2) ∨ a = 78) by omega) rfl) (FA_f (fun a i z => F_n F28 (show ¬ (a = 1 ∧ i = 1 ∨ a = 2) by omega) rfl) jFA))
  have j_75 := (WC_f (fun a i z => F_n F50 (show ¬ (a = 77 ∧ (i = 1 ∨ i = 2) ∨ a = 78) by omega) rfl) (WC_f (fun a i z => F_n F28 (show ¬ (a = 1 ∧ i = 1 ∨ a = 2) by omega) rfl) jWC))
  have j_76 := (NJ_f (fun a i z => F_n F50 (show ¬ (a = 77 ∧ (i = 1 ∨ i = 2) ∨ a = 78) by omega) rfl) (NJ_f (fun a i z => F_n F28 (show ¬ (a = 1 ∧ i = 1 ∨ a = 2) by omega) rfl) jNJ))
  have j_77 := (PS_f (fun a i z => F_n F50 (show ¬ (a = 77 ∧ (i = 1 ∨ i = 2) ∨ a = 78) by omega) rfl) (PS_f (fun a i z => F_n F28 (show ¬ (a = 1 ∧ i = 1 ∨ a = 2) by omega) rfl) jPS))
  have j_78 := (KQ_f (fun a i z => F_n F50 (show ¬ (a = 77 ∧ (i = 1 ∨ i = 2) ∨ a = 78) by omega) rfl) (KQ_f (fun a i z => F_n F28 (show ¬ (a = 1 ∧ i = 1 ∨ a = 2) by omega) rfl) jKQ))
  have j_79 := (W9_f (fun a i z => F_n F50 (show ¬ (a = 77 ∧ (i = 1 ∨ i = 2) ∨ a = 78) by omega) rfl) (W9_f (fun a i z => F_n F28 (show ¬ (a = 1 ∧ i = 1 ∨ a = 2) by omega) rfl) jW9))
  have j_80 := (NE_r F50.2.1 (NE_r F28.2.1 jNE))
  exact h M55 (u5) (u6) ⟨⟨⟨hG51, ⟨j_70, j_71, j_72, j_73⟩, ⟨j_74, j_75, j_76, j_77, j_78⟩, by omega, by omega⟩, z_61, j_79⟩, j_80, by omega⟩ (by omega) (by omega)
set_option maxRecDepth 4000 in
set_option maxHeartbeats 0 in
theorem LW_1 {X : mm_X} {d L : Nat} {M : mm_M} {Q : Option Value → mm_M → Prop} {i : Int32} {u5 u6 : Value} (hX : g_X X) (hW : g_W X) (hL : (X 0).1 = L) (h3 : L ≤ 3072) (hd : 40 ≤ d) (hi : 0 ≤ i.toInt) (hi2 : i.toInt + 6 ≤ (L : Int)) (H : LI4 M) (h : ∀ (M1 : mm_M) (v5 v6 : Value), LI4 M1 → M1.1.2.1 ≤ M.1.2.1 + 1 → M1.1.2.2.1 ≤ M.1.2.2.1 + 6 → mm_T X d 0 1313 [.ref mm_ext, .ref 0, .ref 77, .ref 125, .int i, v5, v6] [] M1 Q) : mm_T X d 0 249 [.ref mm_ext, .ref 0, .ref 77, .ref 125, .int i, u5, u6] [] M Q := by
  obtain ⟨⟨⟨hG, ⟨jPI, jNI, jQI, jPQE⟩, ⟨jFA, jWC, jNJ, jPS, jKQ⟩, jJ, jE⟩, jTP, jW9⟩, jNE, jCC⟩ := H
  have b_1 := g_b hG (a := 77) (i := 7) (lo := 0) (hi := 500) rfl rfl
  have b_2 := g_b hG (a := 77) (i := 6) (lo := 0) (hi := 500) rfl rfl
  have b_3 := g_b hG (a := 1) (i := 1) (lo := 0) (hi := 500) rfl rfl
  have b_4 := g_b hG (a := 77) (i := 1) (lo := 0) (hi := 500) rfl rfl
  have b_5 := g_b hG (a := 0) (i := 12) (lo := 0) (hi := 30) rfl rfl
  have b_6 := g_b hG (a := 77) (i := 28) (lo := 0) (hi := 30) rfl rfl
  refine to_an (pc := 249) rw_0_249 rfl ?_
  refine to_an (pc := 250) rw_0_250 rfl ?_
  refine to_i (pc := 251) rw_0_251 rfl ?_
  refine to_c (pc := 253) rw_0_253 (x := (1 : Int32)) rfl rfl ?_
  refine s_add (pc := 254) rw_0_254 (A := i.toInt) (B := 1) rfl rfl (by omega) (fun v7 e8 => ?_)
  refine s_x0 (pc := 255) rw_0_255 hL (A := v7.toInt) rfl (by omega) (by omega) (fun v9 e10 => ?_)
  refine s_v (pc := 256) rw_0_256 (by omega) (ls0 := [.ref 0, .int v9, .null]) rfl (Nat.le_of_ble_eq_true rfl) (Nat.le_of_ble_eq_true rfl) rfl (to_rc rfl rfl rfl (g_o hG rfl)) rfl ?_
  obtain ⟨pz11, pzz11, qz11, qzz11, hpz11, hpzz11, hqz11, hqzz11, hpqz11⟩ := id jPQE
  have b_12 := g_b hG (a := 6) (i := 0) (lo := 0) (hi := 150) rfl rfl
  obtain ⟨t, nn, hn1, hT1, hR1⟩ := TP_X (n := v9.toInt) jTP
  refine D_111 hX (by omega) hG hpz11 hpzz11 hqz11 hqzz11 hpqz11 jPI jNI jQI (by omega) hT1 hW (NE_p hpqz11 jNE) (n := v9) (t := t) (nn := nn) (p := pz11) (pz := pzz11) (q := qz11) (qz := qzz11) (fun r13 M30 hG15 F14 p_16 p_17 p_18 p_19 p_20 p_21 p_22 p_23 p_24 p_25 p_26 p_27 p_28 p_29 => ?_)
  have n_31 : M30.1.2.1 = M.1.2.1 ∧ M30.1.2.2.1 = M.1.2.2.1 := by rw [F14.1]; exact ⟨rfl, rfl⟩
  have b_33 := g_b hG15 (a := 1) (i := 1) (lo := 0) (hi := 500) rfl rfl
  have b_34 := g_b hG15 (a := 0) (i := 12) (lo := 0) (hi := 30) rfl rfl
  have b_35 := g_b hG15 (a := 6) (i := 0) (lo := 0) (hi := 150) rfl rfl
  have z_36 := TP_s jTP (by omega) (fun a i z => (Fx_n F14 (show ¬ (a ≤ 76 ∧ ¬ a = 2) by omega) rfl))
  refine to_popi (pc := 259) rw_0_259 ?_
  refine to_an (pc := 260) rw_0_260 rfl ?_
  refine to_an (pc := 261) rw_0_261 rfl ?_
  refine to_i (pc := 262) rw_0_262 rfl ?_
  refine to_c (pc := 264) rw_0_264 (x := (1 : Int32)) rfl rfl ?_
  refine s_addk (pc := 265) rw_0_265 (A := i.toInt) (B := 1) rfl rfl (by omega) (v := v7) e8 ?_
  refine s_x0k (pc := 266) rw_0_266 hL (A := v7.toInt) rfl (by omega) (by omega) (v := v9) e10 ?_
  refine s_v (pc := 267) rw_0_267 (by omega) (ls0 := [.ref 77, .int v9, .null]) rfl (Nat.le_of_ble_eq_true rfl) (Nat.le_of_ble_eq_true rfl) rfl (to_rc rfl rfl rfl (g_o hG15 rfl)) rfl ?_
  have c_39 : M30.2.1 77 1 = (M.2.1 77 1) := (Fx_n F14 (show ¬ (77 ≤ 76 ∧ ¬ 77 = 2) by omega) rfl)
  have t_40 : (M30.2.1 77 1).toInt = (M.2.1 77 1).toInt := congrArg Int32.toInt c_39
  have c_41 : M30.2.1 77 28 = (M.2.1 77 28) := (Fx_n F14 (show ¬ (77 ≤ 76 ∧ ¬ 77 = 2) by omega) rfl)
  have t_42 : (M30.2.1 77 28).toInt = (M.2.1 77 28).toInt := congrArg Int32.toInt c_41
  have c_43 : M30.2.1 77 29 = (M.2.1 77 29) := (Fx_n F14 (show ¬ (77 ≤ 76 ∧ ¬ 77 = 2) by omega) rfl)
  have b_44 := g_b hG (a := 77) (i := 29) (lo := 0) (hi := 150) rfl rfl
  have t_45 : (M30.2.1 77 29).toInt = (M.2.1 77 29).toInt := congrArg Int32.toInt c_43
  have c_46 : M30.2.1 77 7 = (M.2.1 77 7) := (Fx_n F14 (show ¬ (77 ≤ 76 ∧ ¬ 77 = 2) by omega) rfl)
  have t_47 : (M30.2.1 77 7).toInt = (M.2.1 77 7).toInt := congrArg Int32.toInt c_46
  have c_48 : M30.2.1 77 6 = (M.2.1 77 6) := (Fx_n F14 (show ¬ (77 ≤ 76 ∧ ¬ 77 = 2) by omega) rfl)
  have t_49 : (M30.2.1 77 6).toInt = (M.2.1 77 6).toInt := congrArg Int32.toInt c_48
  have j_50 := (FA_f (fun a i z => Fx_n F14 (show ¬ (a ≤ 76 ∧ ¬ a = 2) by omega) rfl) jFA)
  have j_51 := (WC_f (fun a i z => Fx_n F14 (show ¬ (a ≤ 76 ∧ ¬ a = 2) by omega) rfl) jWC)
  have j_52 := (NJ_f (fun a i z => Fx_n F14 (show ¬ (a ≤ 76 ∧ ¬ a = 2) by omega) rfl) jNJ)
  have j_53 := (PS_f (fun a i z => Fx_n F14 (show ¬ (a ≤ 76 ∧ ¬ a = 2) by omega) rfl) jPS)
  have j_54 := (KQ_f (fun a i z => Fx_n F14 (show ¬ (a ≤ 76 ∧ ¬ a = 2) by omega) rfl) jKQ)
  have j_55 := (TR_f (fun a i z => Fx_n F14 (show ¬ (a ≤ 76 ∧ ¬ a = 2) by omega) rfl) hR1)
  have j_56 := (W9_f (fun a i z => Fx_n F14 (show ¬ (a ≤ 76 ∧ ¬ a = 2) by omega) rfl) jW9)
  refine D_173 hX (by omega) hG15 (by omega) j_50 j_51 j_52 j_53 j_54 (by omega) j_55 j_56 (n := v9) (t := t) (nn := nn) (fun r57 M75 hG59 F58 p_60 p_61 p_62 p_63 p_64 p_65 p_66 p_67 p_68 p_69 p_70 p_71 p_72 p_73 p_74 => ?_)
  have n_76 : M75.1.2.1 = M30.1.2.1 ∧ M75.1.2.2.1 = M30.1.2.2.1 := by rw [F58.1]; exact ⟨rfl, rfl⟩
  have b_78 := g_b hG59 (a := 77) (i := 7) (lo := 0) (hi := 500) rfl rfl
  have b_79 := g_b hG59 (a := 77) (i := 6) (lo := 0) (hi := 500) rfl rfl
  have b_80 := g_b hG59 (a := 77) (i := 1) (lo := 0) (hi := 500) rfl rfl
  have b_81 := g_b hG59 (a := 77) (i := 28) (lo := 0) (hi := 30) rfl rfl
  have b_82 := g_b hG59 (a := 77) (i := 29) (lo := 0) (hi := 150) rfl rfl
  have z_83 := PAN_q (h1 := (M.2.1 1 1).toInt) (h2 := (M30.2.1 77 1).toInt) (by omega) p_22 p_68 p_23 p_69
  refine to_popi (pc := 270) rw_0_270 ?_
  refine to_go (pc := 271) rw_0_271 ?_
  have c_84 : M75.2.1 1 1 = (M30.2.1 1 1) := (F_n F58 (show ¬ (1 = 77 ∨ 79 < 1 ∧ 1 ≤ 87 ∨ 1 = 100) by omega) rfl)
  have t_85 : (M75.2.1 1 1).toInt = (M30.2.1 1 1).toInt := congrArg Int32.toInt c_84
  have c_86 : M75.2.1 0 12 = (M30.2.1 0 12) := (F_n F58 (show ¬ (0 = 77 ∨ 79 < 0 ∧ 0 ≤ 87 ∨ 0 = 100) by omega) rfl)
  have t_87 : (M75.2.1 0 12).toInt = (M30.2.1 0 12).toInt := congrArg Int32.toInt c_86
  have j_88 := (PI_f (fun a i z => F_n F58 (show ¬ (a = 77 ∨ 79 < a ∧ a ≤ 87 ∨ a = 100) by omega) rfl) p_18)
  have j_89 := (NI_f (fun a i z => F_n F58 (show ¬ (a = 77 ∨ 79 < a ∧ a ≤ 87 ∨ a = 100) by omega) rfl) p_20)
  have j_90 := (QI_f (fun a i z => F_n F58 (show ¬ (a = 77 ∨ 79 < a ∧ a ≤ 87 ∨ a = 100) by omega) rfl) p_21)
  have j_91 := (PQE_r F58.2.1 (PQE_pp hpz11 hpzz11 hqz11 hqzz11 p_19))
  have j_92 := (TP_f (fun a i z => F_n F58 (show ¬ (a = 77 ∨ 79 < a ∧ a ≤ 87 ∨ a = 100) by omega) rfl) z_36)
  have j_93 := (W9_f (fun a i z => F_n F58 (show ¬ (a = 77 ∨ 79 < a ∧ a ≤ 87 ∨ a = 100) by omega) rfl) j_56)
  have j_94 := (NE_r F58.2.1 p_29)
  exact h M75 (u5) (u6) ⟨⟨⟨hG59, ⟨j_88, j_89, j_90, j_91⟩, ⟨p_61, p_62, p_63, p_64, p_65⟩, by omega, by omega⟩, j_92, j_93⟩, j_94, by omega⟩ (by omega) (by omega)
set_option maxRecDepth 4000 in
set_option maxHeartbeats 0 in
theorem LW_2 {X : mm_X} {d L : Nat} {M : mm_M} {Q : Option Value → mm_M → Prop} {i : Int32} {u5 u6 : Value} (hX : g_X X) (hW : g_W X) (hL : (X 0).1 = L) (h3 : L ≤ 3072) (hd : 40 ≤ d) (hi : 0 ≤ i.toInt) (hi2 : i.toInt + 6 ≤ (L : Int)) (H : LI4 M) (h : ∀ (M1 : mm_M) (v5 v6 : Value), LI4 M1 → M1.1.2.1 ≤ M.1.2.1 + 1 → M1.1.2.2.1 ≤ M.1.2.2.1 + 6 → mm_T X d 0 1313 [.ref mm_ext, .ref 0, .ref 77, .ref 125, .int i, v5, v6] [] M1 Q) : mm_T X d 0 274 [.ref mm_ext, .ref 0, .ref 77, .ref 125, .int i, u5, u6] [] M Q := by
  obtain ⟨⟨⟨hG, ⟨jPI, jNI, jQI, jPQE⟩, ⟨jFA, jWC, jNJ, jPS, jKQ⟩, jJ, jE⟩, jTP, jW9⟩, jNE, jCC⟩ := H
  have b_1 := g_b hG (a := 77) (i := 7) (lo := 0) (hi := 500) rfl rfl
  have b_2 := g_b hG (a := 77) (i := 6) (lo := 0) (hi := 500) rfl rfl
  have b_3 := g_b hG (a := 1) (i := 1) (lo := 0) (hi := 500) rfl rfl
  have b_4 := g_b hG (a := 77) (i := 1) (lo := 0) (hi := 500) rfl rfl
  have b_5 := g_b hG (a := 0) (i := 12) (lo := 0) (hi := 30) rfl rfl
  have b_6 := g_b hG (a := 77) (i := 28) (lo := 0) (hi := 30) rfl rfl
  refine to_an (pc := 274) rw_0_274 rfl ?_
  refine to_an (pc := 275) rw_0_275 rfl ?_
  refine to_i (pc := 276) rw_0_276 rfl ?_
  refine to_c (pc := 278) rw_0_278 (x := (1 : Int32)) rfl rfl ?_
  refine s_add (pc := 279) rw_0_279 (A := i.toInt) (B := 1) rfl rfl (by omega) (fun v7 e8 => ?_)
  refine s_x0 (pc := 280) rw_0_280 hL (A := v7.toInt) rfl (by omega) (by omega) (fun v9 e10 => ?_)
  refine s_v (pc := 281) rw_0_281 (by omega) (ls0 := [.ref 0, .int v9]) rfl (Nat.le_of_ble_eq_true rfl) (Nat.le_of_ble_eq_true rfl) rfl (to_rc rfl rfl rfl (g_o hG rfl)) rfl ?_
  obtain ⟨pz11, pzz11, qz11, qzz11, hpz11, hpzz11, hqz11, hqzz11, hpqz11⟩ := id jPQE
  refine C_112 hX (by omega) hG hpz11 hpzz11 hqz11 hqzz11 hpqz11 jNI jPI jQI (n := v9) (p := pz11) (pz := pzz11) (q := qz11) (qz := qzz11) (fun r12 M20 hG14 F13 p_15 p_16 p_17 p_18 p_19 => ?_)
  have n_21 : M20.1.2.1 = M.1.2.1 ∧ M20.1.2.2.1 = M.1.2.2.1 := by rw [F13.1]; exact ⟨rfl, rfl⟩
  have b_23 := g_b hG14 (a := 1) (i := 1) (lo := 0) (hi := 500) rfl rfl
  have z_24 := TP_s jTP (by omega) (fun a i z => (F_n F13 (show ¬ (a = 1 ∨ 3 ≤ a ∧ a ≤ 5 ∨ 11 ≤ a ∧ a ≤ 48) by omega) rfl))
  refine to_popi (pc := 284) rw_0_284 ?_
  refine to_an (pc := 285) rw_0_285 rfl ?_
  refine to_an (pc := 286) rw_0_286 rfl ?_
  refine to_i (pc := 287) rw_0_287 rfl ?_
  refine to_c (pc := 289) rw_0_289 (x := (1 : Int32)) rfl rfl ?_
  refine s_addk (pc := 290) rw_0_290 (A := i.toInt) (B := 1) rfl rfl (by omega) (v := v7) e8 ?_
  refine s_x0k (pc := 291) rw_0_291 hL (A := v7.toInt) rfl (by omega) (by omega) (v := v9) e10 ?_
  refine s_v (pc := 292) rw_0_292 (by omega) (ls0 := [.ref 77, .int v9]) rfl (Nat.le_of_ble_eq_true rfl) (Nat.le_of_ble_eq_true rfl) rfl (to_rc rfl rfl rfl (g_o hG14 rfl)) rfl ?_
  have c_27 : M20.2.1 77 1 = (M.2.1 77 1) := (F_n F13 (show ¬ (77 = 1 ∨ 3 ≤ 77 ∧ 77 ≤ 5 ∨ 11 ≤ 77 ∧ 77 ≤ 48) by omega) rfl)
  have t_28 : (M20.2.1 77 1).toInt = (M.2.1 77 1).toInt := congrArg Int32.toInt c_27
  have c_29 : M20.2.1 77 7 = (M.2.1 77 7) := (F_n F13 (show ¬ (77 = 1 ∨ 3 ≤ 77 ∧ 77 ≤ 5 ∨ 11 ≤ 77 ∧ 77 ≤ 48) by omega) rfl)
  have t_30 : (M20.2.1 77 7).toInt = (M.2.1 77 7).toInt := congrArg Int32.toInt c_29
  have c_31 : M20.2.1 77 6 = (M.2.1 77 6) := (F_n F13 (show ¬ (77 = 1 ∨ 3 ≤ 77 ∧ 77 ≤ 5 ∨ 11 ≤ 77 ∧ 77 ≤ 48) by omega) rfl)
  have t_32 : (M20.2.1 77 6).toInt = (M.2.1 77 6).toInt := congrArg Int32.toInt c_31
  have j_33 := (FA_f (fun a i z => F_n F13 (show ¬ (a = 1 ∨ 3 ≤ a ∧ a ≤ 5 ∨ 11 ≤ a ∧ a ≤ 48) by omega) rfl) jFA)
  have j_34 := (WC_f (fun a i z => F_n F13 (show ¬ (a = 1 ∨ 3 ≤ a ∧ a ≤ 5 ∨ 11 ≤ a ∧ a ≤ 48) by omega) rfl) jWC)
  have j_35 := (NJ_f (fun a i z => F_n F13 (show ¬ (a = 1 ∨ 3 ≤ a ∧ a ≤ 5 ∨ 11 ≤ a ∧ a ≤ 48) by omega) rfl) jNJ)
  have j_36 := (PS_f (fun a i z => F_n F13 (show ¬ (a = 1 ∨ 3 ≤ a ∧ a ≤ 5 ∨ 11 ≤ a ∧ a ≤ 48) by omega) rfl) jPS)
  have j_37 := (KQ_f (fun a i z => F_n F13 (show ¬ (a = 1 ∨ 3 ≤ a ∧ a ≤ 5 ∨ 11 ≤ a ∧ a ≤ 48) by omega) rfl) jKQ)
  refine C_219 hX (by omega) hG14 (by omega) j_33 j_34 j_35 j_36 j_37 (n := v9) (fun r38 M49 hG40 F39 p_41 p_42 p_43 p_44 p_45 p_46 p_47 p_48 => ?_)
  have n_50 : M49.1.2.1 = M20.1.2.1 ∧ M49.1.2.2.1 = M20.1.2.2.1 := by rw [F39.1]; exact ⟨rfl, rfl⟩
  have b_52 := g_b hG40 (a := 77) (i := 7) (lo := 0) (hi := 500) rfl rfl
  have b_53 := g_b hG40 (a := 77) (i := 6) (lo := 0) (hi := 500) rfl rfl
  have b_54 := g_b hG40 (a := 77) (i := 1) (lo := 0) (hi := 500) rfl rfl
  refine to_popi (pc := 295) rw_0_295 ?_
  refine to_go (pc := 296) rw_0_296 ?_
  have c_55 : M49.2.1 1 1 = (M20.2.1 1 1) := (F_n F39 (show ¬ (1 = 77 ∧ (1 ≤ 1 ∧ 1 ≤ 2 ∨ 4 ≤ 1 ∧ 1 ≤ 10 ∨ 42 ≤ 1 ∧ 1 ≤ 44 ∨ 1 = 52) ∨ 94 ≤ 1 ∧ 1 ≤ 111) by omega) rfl)
  have t_56 : (M49.2.1 1 1).toInt = (M20.2.1 1 1).toInt := congrArg Int32.toInt c_55
  have c_57 : M49.2.1 0 12 = (M.2.1 0 12) := (F_n F39 (show ¬ (0 = 77 ∧ (1 ≤ 12 ∧ 12 ≤ 2 ∨ 4 ≤ 12 ∧ 12 ≤ 10 ∨ 42 ≤ 12 ∧ 12 ≤ 44 ∨ 12 = 52) ∨ 94 ≤ 0 ∧ 0 ≤ 111) by omega) (F_n F13 (show ¬ (0 = 1 ∨ 3 ≤ 0 ∧ 0 ≤ 5 ∨ 11 ≤ 0 ∧ 0 ≤ 48) by omega) rfl))
  have t_58 : (M49.2.1 0 12).toInt = (M.2.1 0 12).toInt := congrArg Int32.toInt c_57
  have c_59 : M49.2.1 77 28 = (M.2.1 77 28) := (F_n F39 (show ¬ (77 = 77 ∧ (1 ≤ 28 ∧ 28 ≤ 2 ∨ 4 ≤ 28 ∧ 28 ≤ 10 ∨ 42 ≤ 28 ∧ 28 ≤ 44 ∨ 28 = 52) ∨ 94 ≤ 77 ∧ 77 ≤ 111) by omega) (F_n F13 (show ¬ (77 = 1 ∨ 3 ≤ 77 ∧ 77 ≤ 5 ∨ 11 ≤ 77 ∧ 77 ≤ 48) by omega) rfl))
  have t_60 : (M49.2.1 77 28).toInt = (M.2.1 77 28).toInt := congrArg Int32.toInt c_59
  have j_61 := (PI_f (fun a i z => F_n F39 (show ¬ (a = 77 ∧ (1 ≤ i ∧ i ≤ 2 ∨ 4 ≤ i ∧ i ≤ 10 ∨ 42 ≤ i ∧ i ≤ 44 ∨ i = 52) ∨ 94 ≤ a ∧ a ≤ 111) by omega) rfl) p_17)
  have j_62 := (NI_f (fun a i z => F_n F39 (show ¬ (a = 77 ∧ (1 ≤ i ∧ i ≤ 2 ∨ 4 ≤ i ∧ i ≤ 10 ∨ 42 ≤ i ∧ i ≤ 44 ∨ i = 52) ∨ 94 ≤ a ∧ a ≤ 111) by omega) rfl) p_18)
  have j_63 := (QI_f (fun a i z => F_n F39 (show ¬ (a = 77 ∧ (1 ≤ i ∧ i ≤ 2 ∨ 4 ≤ i ∧ i ≤ 10 ∨ 42 ≤ i ∧ i ≤ 44 ∨ i = 52) ∨ 94 ≤ a ∧ a ≤ 111) by omega) rfl) p_19)
  have j_64 := (PQE_r F39.2.1 (PQE_r F13.2.1 jPQE))
  have j_65 := (TP_f (fun a i z => F_n F39 (show ¬ (a = 77 ∧ (1 ≤ i ∧ i ≤ 2 ∨ 4 ≤ i ∧ i ≤ 10 ∨ 42 ≤ i ∧ i ≤ 44 ∨ i = 52) ∨ 94 ≤ a ∧ a ≤ 111) by omega) rfl) z_24)
  have j_66 := (W9_f (fun a i z => F_n F39 (show ¬ (a = 77 ∧ (1 ≤ i ∧ i ≤ 2 ∨ 4 ≤ i ∧ i ≤ 10 ∨ 42 ≤ i ∧ i ≤ 44 ∨ i = 52) ∨ 94 ≤ a ∧ a ≤ 111) by omega) rfl) (W9_f (fun a i z => F_n F13 (show ¬ (a = 1 ∨ 3 ≤ a ∧ a ≤ 5 ∨ 11 ≤ a ∧ a ≤ 48) by omega) rfl) jW9))
  have j_67 := (NE_r F39.2.1 (NE_r F13.2.1 jNE))
  exact h M49 (u5) (u6) ⟨⟨⟨hG40, ⟨j_61, j_62, j_63, j_64⟩, ⟨p_42, p_43, p_44, p_45, p_46⟩, by omega, by omega⟩, j_65, j_66⟩, j_67, by omega⟩ (by omega) (by omega)
set_option maxRecDepth 4000 in
set_option maxHeartbeats 0 in
theorem LW_3 {X : mm_X} {d L : Nat} {M : mm_M} {Q : Option Value → mm_M → Prop} {i : Int32} {u5 u6 : Value} (hX : g_X X) (hW : g_W X) (hL : (X 0).1 = L) (h3 : L ≤ 3072) (hd : 40 ≤ d) (hi : 0 ≤ i.toInt) (hi2 : i.toInt + 6 ≤ (L : Int)) (H : LI4 M) (h : ∀ (M1 : mm_M) (v5 v6 : Value), LI4 M1 → M1.1.2.1 ≤ M.1.2.1 + 1 → M1.1.2.2.1 ≤ M.1.2.2.1 + 6 → mm_T X d 0 1313 [.ref mm_ext, .ref 0, .ref 77, .ref 125, .int i, v5, v6] [] M1 Q) : mm_T X d 0 299 [.ref mm_ext, .ref 0, .ref 77, .ref 125, .int i, u5, u6] [] M Q := by
  obtain ⟨⟨⟨hG, ⟨jPI, jNI, jQI, jPQE⟩, ⟨jFA, jWC, jNJ, jPS, jKQ⟩, jJ, jE⟩, jTP, jW9⟩, jNE, jCC⟩ := H
  have b_1 := g_b hG (a := 77) (i := 7) (lo := 0) (hi := 500) rfl rfl
  have b_2 := g_b hG (a := 77) (i := 6) (lo := 0) (hi := 500) rfl rfl
  have b_3 := g_b hG (a := 1) (i := 1) (lo := 0) (hi := 500) rfl rfl
  have b_4 := g_b hG (a := 77) (i := 1) (lo := 0) (hi := 500) rfl rfl
  have b_5 := g_b hG (a := 0) (i := 12) (lo := 0) (hi := 30) rfl rfl
  have b_6 := g_b hG (a := 77) (i := 28) (lo := 0) (hi := 30) rfl rfl
  refine to_an (pc := 299) rw_0_299 rfl ?_
  refine to_an (pc := 300) rw_0_300 rfl ?_
  refine to_i (pc := 301) rw_0_301 rfl ?_
  refine to_c (pc := 303) rw_0_303 (x := (1 : Int32)) rfl rfl ?_
  refine s_add (pc := 304) rw_0_304 (A := i.toInt) (B := 1) rfl rfl (by omega) (fun v7 e8 => ?_)
  refine s_x0 (pc := 305) rw_0_305 hL (A := v7.toInt) rfl (by omega) (by omega) (fun v9 e10 => ?_)
  refine s_v (pc := 306) rw_0_306 (by omega) (ls0 := [.ref 0, .int v9, .null]) rfl (Nat.le_of_ble_eq_true rfl) (Nat.le_of_ble_eq_true rfl) rfl (to_rc rfl rfl rfl (g_o hG rfl)) rfl ?_
  obtain ⟨pz11, pzz11, qz11, qzz11, hpz11, hpzz11, hqz11, hqzz11, hpqz11⟩ := id jPQE
  refine C_113 hX (by omega) hG hpz11 hpzz11 hqz11 hqzz11 hpqz11 jQI jPI jNI (n := v9) (p := pz11) (pz := pzz11) (q := qz11) (qz := qzz11) (fun r12 M21 hG14 F13 p_15 p_16 p_17 p_18 p_19 p_20 => ?_)
  have n_22 : M21.1.2.1 = M.1.2.1 ∧ M21.1.2.2.1 = M.1.2.2.1 := by rw [F13.1]; exact ⟨rfl, rfl⟩
  have b_24 := g_b hG14 (a := 1) (i := 1) (lo := 0) (hi := 500) rfl rfl
  have z_25 := TP_s jTP (by omega) (fun a i z => (Fx_n F13 (show ¬ (a = 1 ∨ 3 ≤ a ∧ a ≤ 5 ∨ 67 ≤ a ∧ a ≤ 76) by omega) rfl))
  refine to_popi (pc := 309) rw_0_309 ?_
  refine to_an (pc := 310) rw_0_310 rfl ?_
  refine to_an (pc := 311) rw_0_311 rfl ?_
  refine to_i (pc := 312) rw_0_312 rfl ?_
  refine to_c (pc := 314) rw_0_314 (x := (1 : Int32)) rfl rfl ?_
  refine s_addk (pc := 315) rw_0_315 (A := i.toInt) (B := 1) rfl rfl (by omega) (v := v7) e8 ?_
  refine s_x0k (pc := 316) rw_0_316 hL (A := v7.toInt) rfl (by omega) (by omega) (v := v9) e10 ?_
  refine s_v (pc := 317) rw_0_317 (by omega) (ls0 := [.ref 77, .int v9, .null]) rfl (Nat.le_of_ble_eq_true rfl) (Nat.le_of_ble_eq_true rfl) rfl (to_rc rfl rfl rfl (g_o hG14 rfl)) rfl ?_
  have c_28 : M21.2.1 77 1 = (M.2.1 77 1) := (Fx_n F13 (show ¬ (77 = 1 ∨ 3 ≤ 77 ∧ 77 ≤ 5 ∨ 67 ≤ 77 ∧ 77 ≤ 76) by omega) rfl)
  have t_29 : (M21.2.1 77 1).toInt = (M.2.1 77 1).toInt := congrArg Int32.toInt c_28
  have c_30 : M21.2.1 77 7 = (M.2.1 77 7) := (Fx_n F13 (show ¬ (77 = 1 ∨ 3 ≤ 77 ∧ 77 ≤ 5 ∨ 67 ≤ 77 ∧ 77 ≤ 76) by omega) rfl)
  have t_31 : (M21.2.1 77 7).toInt = (M.2.1 77 7).toInt := congrArg Int32.toInt c_30
  have c_32 : M21.2.1 77 6 = (M.2.1 77 6) := (Fx_n F13 (show ¬ (77 = 1 ∨ 3 ≤ 77 ∧ 77 ≤ 5 ∨ 67 ≤ 77 ∧ 77 ≤ 76) by omega) rfl)
  have t_33 : (M21.2.1 77 6).toInt = (M.2.1 77 6).toInt := congrArg Int32.toInt c_32
  have j_34 := (FA_f (fun a i z => Fx_n F13 (show ¬ (a = 1 ∨ 3 ≤ a ∧ a ≤ 5 ∨ 67 ≤ a ∧ a ≤ 76) by omega) rfl) jFA)
  have j_35 := (WC_f (fun a i z => Fx_n F13 (show ¬ (a = 1 ∨ 3 ≤ a ∧ a ≤ 5 ∨ 67 ≤ a ∧ a ≤ 76) by omega) rfl) jWC)
  have j_36 := (NJ_f (fun a i z => Fx_n F13 (show ¬ (a = 1 ∨ 3 ≤ a ∧ a ≤ 5 ∨ 67 ≤ a ∧ a ≤ 76) by omega) rfl) jNJ)
  have j_37 := (PS_f (fun a i z => Fx_n F13 (show ¬ (a = 1 ∨ 3 ≤ a ∧ a ≤ 5 ∨ 67 ≤ a ∧ a ≤ 76) by omega) rfl) jPS)
  have j_38 := (KQ_f (fun a i z => Fx_n F13 (show ¬ (a = 1 ∨ 3 ≤ a ∧ a ≤ 5 ∨ 67 ≤ a ∧ a ≤ 76) by omega) rfl) jKQ)
  refine C_227 hX (by omega) hG14 (by omega) j_34 j_35 j_36 j_37 j_38 (n := v9) (fun r39 M50 hG41 F40 p_42 p_43 p_44 p_45 p_46 p_47 p_48 p_49 => ?_)
  have n_51 : M50.1.2.1 = M21.1.2.1 ∧ M50.1.2.2.1 = M21.1.2.2.1 := by rw [F40.1]; exact ⟨rfl, rfl⟩
  have b_53 := g_b hG41 (a := 77) (i := 7) (lo := 0) (hi := 500) rfl rfl
  have b_54 := g_b hG41 (a := 77) (i := 6) (lo := 0) (hi := 500) rfl rfl
  have b_55 := g_b hG41 (a := 77) (i := 1) (lo := 0) (hi := 500) rfl rfl
  refine to_popi (pc := 320) rw_0_320 ?_
  refine to_go (pc := 321) rw_0_321 ?_
  have c_56 : M50.2.1 1 1 = (M21.2.1 1 1) := (F_n F40 (show ¬ (1 = 77 ∧ (1 ≤ 1 ∧ 1 ≤ 2 ∨ 4 ≤ 1 ∧ 1 ≤ 10 ∨ 57 ≤ 1 ∧ 1 ≤ 59 ∨ 65 ≤ 1 ∧ 1 ≤ 69) ∨ 112 ≤ 1 ∧ 1 ≤ 116) by omega) rfl)
  have t_57 : (M50.2.1 1 1).toInt = (M21.2.1 1 1).toInt := congrArg Int32.toInt c_56
  have c_58 : M50.2.1 0 12 = (M.2.1 0 12) := (F_n F40 (show ¬ (0 = 77 ∧ (1 ≤ 12 ∧ 12 ≤ 2 ∨ 4 ≤ 12 ∧ 12 ≤ 10 ∨ 57 ≤ 12 ∧ 12 ≤ 59 ∨ 65 ≤ 12 ∧ 12 ≤ 69) ∨ 112 ≤ 0 ∧ 0 ≤ 116) by omega) (Fx_n F13 (show ¬ (0 = 1 ∨ 3 ≤ 0 ∧ 0 ≤ 5 ∨ 67 ≤ 0 ∧ 0 ≤ 76) by omega) rfl))
  have t_59 : (M50.2.1 0 12).toInt = (M.2.1 0 12).toInt := congrArg Int32.toInt c_58
  have c_60 : M50.2.1 77 28 = (M.2.1 77 28) := (F_n F40 (show ¬ (77 = 77 ∧ (1 ≤ 28 ∧ 28 ≤ 2 ∨ 4 ≤ 28 ∧ 28 ≤ 10 ∨ 57 ≤ 28 ∧ 28 ≤ 59 ∨ 65 ≤ 28 ∧ 28 ≤ 69) ∨ 112 ≤ 77 ∧ 77 ≤ 116) by omega) (Fx_n F13 (show ¬ (77 = 1 ∨ 3 ≤ 77 ∧ 77 ≤ 5 ∨ 67 ≤ 77 ∧ 77 ≤ 76) by omega) rfl))
  have t_61 : (M50.2.1 77 28).toInt = (M.2.1 77 28).toInt := congrArg Int32.toInt c_60
  have j_62 := (PI_f (fun a i z => F_n F40 (show ¬ (a = 77 ∧ (1 ≤ i ∧ i ≤ 2 ∨ 4 ≤ i ∧ i ≤ 10 ∨ 57 ≤ i ∧ i ≤ 59 ∨ 65 ≤ i ∧ i ≤ 69) ∨ 112 ≤ a ∧ a ≤ 116) by omega) rfl) p_19)
  have j_63 := (NI_f (fun a i z => F_n F40 (show ¬ (a = 77 ∧ (1 ≤ i ∧ i ≤ 2 ∨ 4 ≤ i ∧ i ≤ 10 ∨ 57 ≤ i ∧ i ≤ 59 ∨ 65 ≤ i ∧ i ≤ 69) ∨ 112 ≤ a ∧ a ≤ 116) by omega) rfl) p_20)
  have j_64 := (QI_f (fun a i z => F_n F40 (show ¬ (a = 77 ∧ (1 ≤ i ∧ i ≤ 2 ∨ 4 ≤ i ∧ i ≤ 10 ∨ 57 ≤ i ∧ i ≤ 59 ∨ 65 ≤ i ∧ i ≤ 69) ∨ 112 ≤ a ∧ a ≤ 116) by omega) rfl) p_17)
  have j_65 := (PQE_r F40.2.1 (PQE_qq hpz11 hpzz11 hqz11 hqzz11 p_18))
  have j_66 := (TP_f (fun a i z => F_n F40 (show ¬ (a = 77 ∧ (1 ≤ i ∧ i ≤ 2 ∨ 4 ≤ i ∧ i ≤ 10 ∨ 57 ≤ i ∧ i ≤ 59 ∨ 65 ≤ i ∧ i ≤ 69) ∨ 112 ≤ a ∧ a ≤ 116) by omega) rfl) z_25)
  have j_67 := (W9_f (fun a i z => F_n F40 (show ¬ (a = 77 ∧ (1 ≤ i ∧ i ≤ 2 ∨ 4 ≤ i ∧ i ≤ 10 ∨ 57 ≤ i ∧ i ≤ 59 ∨ 65 ≤ i ∧ i ≤ 69) ∨ 112 ≤ a ∧ a ≤ 116) by omega) rfl) (W9_f (fun a i z => Fx_n F13 (show ¬ (a = 1 ∨ 3 ≤ a ∧ a ≤ 5 ∨ 67 ≤ a ∧ a ≤ 76) by omega) rfl) jW9))
  have j_68 := (NE_r F40.2.1 (NE_q hpqz11 p_18 jNE))
  exact h M50 (u5) (u6) ⟨⟨⟨hG41, ⟨j_62, j_63, j_64, j_65⟩, ⟨p_43, p_44, p_45, p_46, p_47⟩, by omega, by omega⟩, j_66, j_67⟩, j_68, by omega⟩ (by omega) (by omega)
set_option maxRecDepth 4000 in
set_option maxHeartbeats 0 in
theorem LW_4 {X : mm_X} {d L : Nat} {M : mm_M} {Q : Option Value → mm_M → Prop} {i : Int32} {u5 u6 : Value} (hX : g_X X) (hW : g_W X) (hL : (X 0).1 = L) (h3 : L ≤ 3072) (hd : 40 ≤ d) (hi : 0 ≤ i.toInt) (hi2 : i.toInt + 6 ≤ (L : Int)) (H : LI4 M) (h : ∀ (M1 : mm_M) (v5 v6 : Value), LI4 M1 → M1.1.2.1 ≤ M.1.2.1 + 1 → M1.1.2.2.1 ≤ M.1.2.2.1 + 6 → mm_T X d 0 1313 [.ref mm_ext, .ref 0, .ref 77, .ref 125, .int i, v5, v6] [] M1 Q) : mm_T X d 0 324 [.ref mm_ext, .ref 0, .ref 77, .ref 125, .int i, u5, u6] [] M Q := by
  obtain ⟨⟨⟨hG, ⟨jPI, jNI, jQI, jPQE⟩, ⟨jFA, jWC, jNJ, jPS, jKQ⟩, jJ, jE⟩, jTP, jW9⟩, jNE, jCC⟩ := H
  have b_1 := g_b hG (a := 77) (i := 7) (lo := 0) (hi := 500) rfl rfl
  have b_2 := g_b hG (a := 77) (i := 6) (lo := 0) (hi := 500) rfl rfl
  have b_3 := g_b hG (a := 1) (i := 1) (lo := 0) (hi := 500) rfl rfl
  have b_4 := g_b hG (a := 77) (i := 1) (lo := 0) (hi := 500) rfl rfl
  have b_5 := g_b hG (a := 0) (i := 12) (lo := 0) (hi := 30) rfl rfl
  have b_6 := g_b hG (a := 77) (i := 28) (lo := 0) (hi := 30) rfl rfl
  refine to_an (pc := 324) rw_0_324 rfl ?_
  refine to_an (pc := 325) rw_0_325 rfl ?_
  refine to_i (pc := 326) rw_0_326 rfl ?_
  refine to_c (pc := 328) rw_0_328 (x := (1 : Int32)) rfl rfl ?_
  refine s_add (pc := 329) rw_0_329 (A := i.toInt) (B := 1) rfl rfl (by omega) (fun v7 e8 => ?_)
  refine s_x0 (pc := 330) rw_0_330 hL (A := v7.toInt) rfl (by omega) (by omega) (fun v9 e10 => ?_)
  refine s_v (pc := 331) rw_0_331 (by omega) (ls0 := [.ref 0, .int v9]) rfl (Nat.le_of_ble_eq_true rfl) (Nat.le_of_ble_eq_true rfl) rfl (to_rc rfl rfl rfl (g_o hG rfl)) rfl ?_
  obtain ⟨pz11, pzz11, qz11, qzz11, hpz11, hpzz11, hqz11, hqzz11, hpqz11⟩ := id jPQE
  refine C_114 hX (by omega) hG hpz11 hpzz11 hqz11 hqzz11 hpqz11 (w := v9) (p := pz11) (pz := pzz11) (q := qz11) (qz := qzz11) (fun r12 M15 hG14 F13 => ?_)
  have n_16 : M15.1.2.1 = M.1.2.1 ∧ M15.1.2.2.1 = M.1.2.2.1 := by rw [F13.1]; exact ⟨rfl, rfl⟩
  refine to_popi (pc := 334) rw_0_334 ?_
  refine to_an (pc := 335) rw_0_335 rfl ?_
  refine to_an (pc := 336) rw_0_336 rfl ?_
  refine to_i (pc := 337) rw_0_337 rfl ?_
  refine to_c (pc := 339) rw_0_339 (x := (1 : Int32)) rfl rfl ?_
  refine s_addk (pc := 340) rw_0_340 (A := i.toInt) (B := 1) rfl rfl (by omega) (v := v7) e8 ?_
  refine s_x0k (pc := 341) rw_0_341 hL (A := v7.toInt) rfl (by omega) (by omega) (v := v9) e10 ?_
  refine s_v (pc := 342) rw_0_342 (by omega) (ls0 := [.ref 77, .int v9]) rfl (Nat.le_of_ble_eq_true rfl) (Nat.le_of_ble_eq_true rfl) rfl (to_rc rfl rfl rfl (g_o hG14 rfl)) rfl ?_
  refine C_174 hX (by omega) hG14 (w := v9) (fun r20 M23 hG22 F21 => ?_)
  have n_24 : M23.1.2.1 = M15.1.2.1 ∧ M23.1.2.2.1 = M15.1.2.2.1 := by rw [F21.1]; exact ⟨rfl, rfl⟩
  refine to_popi (pc := 345) rw_0_345 ?_
  refine to_go (pc := 346) rw_0_346 ?_
  have c_26 : M23.2.1 77 7 = (M.2.1 77 7) := (F_n F21 (show ¬ (77 = 77 ∧ 7 = 2) by omega) (F_n F13 (show ¬ (77 < 0) by omega) rfl))
  have t_27 : (M23.2.1 77 7).toInt = (M.2.1 77 7).toInt := congrArg Int32.toInt c_26
  have c_28 : M23.2.1 77 6 = (M.2.1 77 6) := (F_n F21 (show ¬ (77 = 77 ∧ 6 = 2) by omega) (F_n F13 (show ¬ (77 < 0) by omega) rfl))
  have t_29 : (M23.2.1 77 6).toInt = (M.2.1 77 6).toInt := congrArg Int32.toInt c_28
  have c_30 : M23.2.1 1 1 = (M.2.1 1 1) := (F_n F21 (show ¬ (1 = 77 ∧ 1 = 2) by omega) (F_n F13 (show ¬ (1 < 0) by omega) rfl))
  have t_31 : (M23.2.1 1 1).toInt = (M.2.1 1 1).toInt := congrArg Int32.toInt c_30
  have c_32 : M23.2.1 77 1 = (M.2.1 77 1) := (F_n F21 (show ¬ (77 = 77 ∧ 1 = 2) by omega) (F_n F13 (show ¬ (77 < 0) by omega) rfl))
  have t_33 : (M23.2.1 77 1).toInt = (M.2.1 77 1).toInt := congrArg Int32.toInt c_32
  have c_34 : M23.2.1 0 12 = (M.2.1 0 12) := (F_n F21 (show ¬ (0 = 77 ∧ 12 = 2) by omega) (F_n F13 (show ¬ (0 < 0) by omega) rfl))
  have t_35 : (M23.2.1 0 12).toInt = (M.2.1 0 12).toInt := congrArg Int32.toInt c_34
  have c_36 : M23.2.1 77 28 = (M.2.1 77 28) := (F_n F21 (show ¬ (77 = 77 ∧ 28 = 2) by omega) (F_n F13 (show ¬ (77 < 0) by omega) rfl))
  have t_37 : (M23.2.1 77 28).toInt = (M.2.1 77 28).toInt := congrArg Int32.toInt c_36
  have j_38 := (PI_f (fun a i z => F_n F21 (show ¬ (a = 77 ∧ i = 2) by omega) rfl) (PI_f (fun a i z => F_n F13 (show ¬ (a < 0) by omega) rfl) jPI))
  have j_39 := (NI_f (fun a i z => F_n F21 (show ¬ (a = 77 ∧ i = 2) by omega) rfl) (NI_f (fun a i z => F_n F13 (show ¬ (a < 0) by omega) rfl) jNI))
  have j_40 := (QI_f (fun a i z => F_n F21 (show ¬ (a = 77 ∧ i = 2) by omega) rfl) (QI_f (fun a i z => F_n F13 (show ¬ (a < 0) by omega) rfl) jQI))
  have j_41 := (PQE_r F21.2.1 (PQE_r F13.2.1 jPQE))
  have j_42 := (FA_f (fun a i z => F_n F21 (show ¬ (a = 77 ∧ i = 2) by omega) rfl) (FA_f (fun a i z => F_n F13 (show ¬ (a < 0) by omega) rfl) jFA))
  have j_43 := (WC_f (fun a i z => F_n F21 (show ¬ (a = 77 ∧ i = 2) by omega) rfl) (WC_f (fun a i z => F_n F13 (show ¬ (a < 0) by omega) rfl) jWC))
  have j_44 := (NJ_f (fun a i z => F_n F21 (show ¬ (a = 77 ∧ i = 2) by omega) rfl) (NJ_f (fun a i z => F_n F13 (show ¬ (a < 0) by omega) rfl) jNJ))
  have j_45 := (PS_f (fun a i z => F_n F21 (show ¬ (a = 77 ∧ i = 2) by omega) rfl) (PS_f (fun a i z => F_n F13 (show ¬ (a < 0) by omega) rfl) jPS))
  have j_46 := (KQ_f (fun a i z => F_n F21 (show ¬ (a = 77 ∧ i = 2) by omega) rfl) (KQ_f (fun a i z => F_n F13 (show ¬ (a < 0) by omega) rfl) jKQ))
  have j_47 := (TP_f (fun a i z => F_n F21 (show ¬ (a = 77 ∧ i = 2) by omega) rfl) (TP_f (fun a i z => F_n F13 (show ¬ (a < 0) by omega) rfl) jTP))
  have j_48 := (W9_f (fun a i z => F_n F21 (show ¬ (a = 77 ∧ i = 2) by omega) rfl) (W9_f (fun a i z => F_n F13 (show ¬ (a < 0) by omega) rfl) jW9))
  have j_49 := (NE_r F21.2.1 (NE_r F13.2.1 jNE))
  exact h M23 (u5) (u6) ⟨⟨⟨hG22, ⟨j_38, j_39, j_40, j_41⟩, ⟨j_42, j_43, j_44, j_45, j_46⟩, by omega, by omega⟩, j_47, j_48⟩, j_49, by omega⟩ (by omega) (by omega)
set_option maxRecDepth 4000 in
set_option maxHeartbeats 0 in
theorem LW_5 {X : mm_X} {d L : Nat} {M : mm_M} {Q : Option Value → mm_M → Prop} {i : Int32} {u5 u6 : Value} (hX : g_X X) (hW : g_W X) (hL : (X 0).1 = L) (h3 : L ≤ 3072) (hd : 40 ≤ d) (hi : 0 ≤ i.toInt) (hi2 : i.toInt + 6 ≤ (L : Int)) (H : LI4 M) (h : ∀ (M1 : mm_M) (v5 v6 : Value), LI4 M1 → M1.1.2.1 ≤ M.1.2.1 + 1 → M1.1.2.2.1 ≤ M.1.2.2.1 + 6 → mm_T X d 0 1313 [.ref mm_ext, .ref 0, .ref 77, .ref 125, .int i, v5, v6] [] M1 Q) : mm_T X d 0 349 [.ref mm_ext, .ref 0, .ref 77, .ref 125, .int i, u5, u6] [] M Q := by
  obtain ⟨⟨⟨hG, ⟨jPI, jNI, jQI, jPQE⟩, ⟨jFA, jWC, jNJ, jPS, jKQ⟩, jJ, jE⟩, jTP, jW9⟩, jNE, jCC⟩ := H
  have b_1 := g_b hG (a := 77) (i := 7) (lo := 0) (hi := 500) rfl rfl
  have b_2 := g_b hG (a := 77) (i := 6) (lo := 0) (hi := 500) rfl rfl
  have b_3 := g_b hG (a := 1) (i := 1) (lo := 0) (hi := 500) rfl rfl
  have b_4 := g_b hG (a := 77) (i := 1) (lo := 0) (hi := 500) rfl rfl
  have b_5 := g_b hG (a := 0) (i := 12) (lo := 0) (hi := 30) rfl rfl
  have b_6 := g_b hG (a := 77) (i := 28) (lo := 0) (hi := 30) rfl rfl
  refine to_an (pc := 349) rw_0_349 rfl ?_
  refine to_an (pc := 350) rw_0_350 rfl ?_
  refine to_i (pc := 351) rw_0_351 rfl ?_
  refine to_c (pc := 353) rw_0_353 (x := (1 : Int32)) rfl rfl ?_
  refine s_add (pc := 354) rw_0_354 (A := i.toInt) (B := 1) rfl rfl (by omega) (fun v7 e8 => ?_)
  refine s_x0 (pc := 355) rw_0_355 hL (A := v7.toInt) rfl (by omega) (by omega) (fun v9 e10 => ?_)
  refine to_an (pc := 356) rw_0_356 rfl ?_
  refine to_i (pc := 357) rw_0_357 rfl ?_
  refine to_c (pc := 359) rw_0_359 (x := (2 : Int32)) rfl rfl ?_
  refine s_add (pc := 360) rw_0_360 (A := i.toInt) (B := 2) rfl rfl (by omega) (fun v11 e12 => ?_)
  refine s_x0 (pc := 361) rw_0_361 hL (A := v11.toInt) rfl (by omega) (by omega) (fun v13 e14 => ?_)
  refine s_v (pc := 362) rw_0_362 (by omega) (ls0 := [.ref 0, .int v9, .int v13]) rfl (Nat.le_of_ble_eq_true rfl) (Nat.le_of_ble_eq_true rfl) rfl (to_rc rfl rfl rfl (g_o hG rfl)) rfl ?_
  obtain ⟨pz15, pzz15, qz15, qzz15, hpz15, hpzz15, hqz15, hqzz15, hpqz15⟩ := id jPQE
  refine C_115 hX (by omega) hG hpz15 hpzz15 hqz15 hqzz15 hpqz15 (w := v9) (l := v13) (p := pz15) (pz := pzz15) (q := qz15) (qz := qzz15) (fun r16 M19 hG18 F17 => ?_)
  have n_20 : M19.1.2.1 = M.1.2.1 ∧ M19.1.2.2.1 = M.1.2.2.1 := by rw [F17.1]; exact ⟨rfl, rfl⟩
  refine to_popi (pc := 365) rw_0_365 ?_
  refine to_an (pc := 366) rw_0_366 rfl ?_
  refine to_an (pc := 367) rw_0_367 rfl ?_
  refine to_i (pc := 368) rw_0_368 rfl ?_
  refine to_c (pc := 370) rw_0_370 (x := (1 : Int32)) rfl rfl ?_
  refine s_addk (pc := 371) rw_0_371 (A := i.toInt) (B := 1) rfl rfl (by omega) (v := v7) e8 ?_
  refine s_x0k (pc := 372) rw_0_372 hL (A := v7.toInt) rfl (by omega) (by omega) (v := v9) e10 ?_
  refine to_an (pc := 373) rw_0_373 rfl ?_
  refine to_i (pc := 374) rw_0_374 rfl ?_
  refine to_c (pc := 376) rw_0_376 (x := (2 : Int32)) rfl rfl ?_
  refine s_addk (pc := 377) rw_0_377 (A := i.toInt) (B := 2) rfl rfl (by omega) (v := v11) e12 ?_
  refine s_x0k (pc := 378) rw_0_378 hL (A := v11.toInt) rfl (by omega) (by omega) (v := v13) e14 ?_
  refine s_v (pc := 379) rw_0_379 (by omega) (ls0 := [.ref 77, .int v9, .int v13]) rfl (Nat.le_of_ble_eq_true rfl) (Nat.le_of_ble_eq_true rfl) rfl (to_rc rfl rfl rfl (g_o hG18 rfl)) rfl ?_
  refine C_177 hX (by omega) hG18 (w := v9) (n := v13) (fun r26 M29 hG28 F27 => ?_)
  have n_30 : M29.1.2.1 = M19.1.2.1 ∧ M29.1.2.2.1 = M19.1.2.2.1 := by rw [F27.1]; exact ⟨rfl, rfl⟩
  refine to_popi (pc := 382) rw_0_382 ?_
  refine to_go (pc := 383) rw_0_383 ?_
  have c_32 : M29.2.1 77 7 = (M.2.1 77 7) := (F_n F27 (show ¬ (77 = 77 ∧ 7 = 2) by omega) (F_n F17 (show ¬ (77 < 0) by omega) rfl))
  have t_33 : (M29.2.1 77 7).toInt = (M.2.1 77 7).toInt := congrArg Int32.toInt c_32
  have c_34 : M29.2.1 77 6 = (M.2.1 77 6) := (F_n F27 (show ¬ (77 = 77 ∧ 6 = 2) by omega) (F_n F17 (show ¬ (77 < 0) by omega) rfl))
  have t_35 : (M29.2.1 77 6).toInt = (M.2.1 77 6).toInt := congrArg Int32.toInt c_34
  have c_36 : M29.2.1 1 1 = (M.2.1 1 1) := (F_n F27 (show ¬ (1 = 77 ∧ 1 = 2) by omega) (F_n F17 (show ¬ (1 < 0) by omega) rfl))
  have t_37 : (M29.2.1 1 1).toInt = (M.2.1 1 1).toInt := congrArg Int32.toInt c_36
  have c_38 : M29.2.1 77 1 = (M.2.1 77 1) := (F_n F27 (show ¬ (77 = 77 ∧ 1 = 2) by omega) (F_n F17 (show ¬ (77 < 0) by omega) rfl))
  have t_39 : (M29.2.1 77 1).toInt = (M.2.1 77 1).toInt := congrArg Int32.toInt c_38
  have c_40 : M29.2.1 0 12 = (M.2.1 0 12) := (F_n F27 (show ¬ (0 = 77 ∧ 12 = 2) by omega) (F_n F17 (show ¬ (0 < 0) by omega) rfl))
  have t_41 : (M29.2.1 0 12).toInt = (M.2.1 0 12).toInt := congrArg Int32.toInt c_40
  have c_42 : M29.2.1 77 28 = (M.2.1 77 28) := (F_n F27 (show ¬ (77 = 77 ∧ 28 = 2) by omega) (F_n F17 (show ¬ (77 < 0) by omega) rfl))
  have t_43 : (M29.2.1 77 28).toInt = (M.2.1 77 28).toInt := congrArg Int32.toInt c_42
  have j_44 := (PI_f (fun a i z => F_n F27 (show ¬ (a = 77 ∧ i = 2) by omega) rfl) (PI_f (fun a i z => F_n F17 (show ¬ (a < 0) by omega) rfl) jPI))
  have j_45 := (NI_f (fun a i z => F_n F27 (show ¬ (a = 77 ∧ i = 2) by omega) rfl) (NI_f (fun a i z => F_n F17 (show ¬ (a < 0) by omega) rfl) jNI))
  have j_46 := (QI_f (fun a i z => F_n F27 (show ¬ (a = 77 ∧ i = 2) by omega) rfl) (QI_f (fun a i z => F_n F17 (show ¬ (a < 0) by omega) rfl) jQI))
  have j_47 := (PQE_r F27.2.1 (PQE_r F17.2.1 jPQE))
  have j_48 := (FA_f (fun a i z => F_n F27 (show ¬ (a = 77 ∧ i = 2) by omega) rfl) (FA_f (fun a i z => F_n F17 (show ¬ (a < 0) by omega) rfl) jFA))
  have j_49 := (WC_f (fun a i z => F_n F27 (show ¬ (a = 77 ∧ i = 2) by omega) rfl) (WC_f (fun a i z => F_n F17 (show ¬ (a < 0) by omega) rfl) jWC))
  have j_50 := (NJ_f (fun a i z => F_n F27 (show ¬ (a = 77 ∧ i = 2) by omega) rfl) (NJ_f (fun a i z => F_n F17 (show ¬ (a < 0) by omega) rfl) jNJ))
  have j_51 := (PS_f (fun a i z => F_n F27 (show ¬ (a = 77 ∧ i = 2) by omega) rfl) (PS_f (fun a i z => F_n F17 (show ¬ (a < 0) by omega) rfl) jPS))
  have j_52 := (KQ_f (fun a i z => F_n F27 (show ¬ (a = 77 ∧ i = 2) by omega) rfl) (KQ_f (fun a i z => F_n F17 (show ¬ (a < 0) by omega) rfl) jKQ))
  have j_53 := (TP_f (fun a i z => F_n F27 (show ¬ (a = 77 ∧ i = 2) by omega) rfl) (TP_f (fun a i z => F_n F17 (show ¬ (a < 0) by omega) rfl) jTP))
  have j_54 := (W9_f (fun a i z => F_n F27 (show ¬ (a = 77 ∧ i = 2) by omega) rfl) (W9_f (fun a i z => F_n F17 (show ¬ (a < 0) by omega) rfl) jW9))
  have j_55 := (NE_r F27.2.1 (NE_r F17.2.1 jNE))
  exact h M29 (u5) (u6) ⟨⟨⟨hG28, ⟨j_44, j_45, j_46, j_47⟩, ⟨j_48, j_49, j_50, j_51, j_52⟩, by omega, by omega⟩, j_53, j_54⟩, j_55, by omega⟩ (by omega) (by omega)
set_option maxRecDepth 4000 in
set_option maxHeartbeats 0 in
theorem LW_6 {X : mm_X} {d L : Nat} {M : mm_M} {Q : Option Value → mm_M → Prop} {i : Int32} {u5 u6 : Value} (hX : g_X X) (hW : g_W X) (hL : (X 0).1 = L) (h3 : L ≤ 3072) (hd : 40 ≤ d) (hi : 0 ≤ i.toInt) (hi2 : i.toInt + 6 ≤ (L : Int)) (H : LI4 M) (h : ∀ (M1 : mm_M) (v5 v6 : Value), LI4 M1 → M1.1.2.1 ≤ M.1.2.1 + 1 → M1.1.2.2.1 ≤ M.1.2.2.1 + 6 → mm_T X d 0 1313 [.ref mm_ext, .ref 0, .ref 77, .ref 125, .int i, v5, v6] [] M1 Q) : mm_T X d 0 386 [.ref mm_ext, .ref 0, .ref 77, .ref 125, .int i, u5, u6] [] M Q := by
  obtain ⟨⟨⟨hG, ⟨jPI, jNI, jQI, jPQE⟩, ⟨jFA, jWC, jNJ, jPS, jKQ⟩, jJ, jE⟩, jTP, jW9⟩, jNE, jCC⟩ := H
  have b_1 := g_b hG (a := 77) (i := 7) (lo := 0) (hi := 500) rfl rfl
  have b_2 := g_b hG (a := 77) (i := 6) (lo := 0) (hi := 500) rfl rfl
  have b_3 := g_b hG (a := 1) (i := 1) (lo := 0) (hi := 500) rfl rfl
  have b_4 := g_b hG (a := 77) (i := 1) (lo := 0) (hi := 500) rfl rfl
  have b_5 := g_b hG (a := 0) (i := 12) (lo := 0) (hi := 30) rfl rfl
  have b_6 := g_b hG (a := 77) (i := 28) (lo := 0) (hi := 30) rfl rfl
  refine to_an (pc := 386) rw_0_386 rfl ?_
  refine to_an (pc := 387) rw_0_387 rfl ?_
  refine to_i (pc := 388) rw_0_388 rfl ?_
  refine to_c (pc := 390) rw_0_390 (x := (1 : Int32)) rfl rfl ?_
  refine s_add (pc := 391) rw_0_391 (A := i.toInt) (B := 1) rfl rfl (by omega) (fun v7 e8 => ?_)
  refine s_x0 (pc := 392) rw_0_392 hL (A := v7.toInt) rfl (by omega) (by omega) (fun v9 e10 => ?_)
  refine to_an (pc := 393) rw_0_393 rfl ?_
  refine to_i (pc := 394) rw_0_394 rfl ?_
  refine to_c (pc := 396) rw_0_396 (x := (2 : Int32)) rfl rfl ?_
  refine s_add (pc := 397) rw_0_397 (A := i.toInt) (B := 2) rfl rfl (by omega) (fun v11 e12 => ?_)
  refine s_x0 (pc := 398) rw_0_398 hL (A := v11.toInt) rfl (by omega) (by omega) (fun v13 e14 => ?_)
  refine to_an (pc := 399) rw_0_399 rfl ?_
  refine s_lk (pc := 400) rw_0_400 (by omega) rfl hG jPQE (fun r15 M19 hG16 K17 K18 n_a n_b => ?_)
  refine to_is (pc := 403) rw_0_403 (ls2 := [.ref mm_ext, .ref 0, .ref 77, .ref 125, .int i, .int r15, u6]) rfl rfl ?_
  refine to_an (pc := 405) rw_0_405 rfl ?_
  refine to_an (pc := 406) rw_0_406 rfl ?_
  refine to_i (pc := 407) rw_0_407 rfl ?_
  refine to_c (pc := 409) rw_0_409 (x := (1 : Int32)) rfl rfl ?_
  refine s_addk (pc := 410) rw_0_410 (A := i.toInt) (B := 1) rfl rfl (by omega) (v := v7) e8 ?_
  refine s_x0k (pc := 411) rw_0_411 hL (A := v7.toInt) rfl (by omega) (by omega) (v := v9) e10 ?_
  refine to_an (pc := 412) rw_0_412 rfl ?_
  refine to_i (pc := 413) rw_0_413 rfl ?_
  refine to_c (pc := 415) rw_0_415 (x := (2 : Int32)) rfl rfl ?_
  refine s_addk (pc := 416) rw_0_416 (A := i.toInt) (B := 2) rfl rfl (by omega) (v := v11) e12 ?_
  refine s_x0k (pc := 417) rw_0_417 hL (A := v11.toInt) rfl (by omega) (by omega) (v := v13) e14 ?_
  refine s_v (pc := 418) rw_0_418 (by omega) (ls0 := [.ref 77, .int v9, .int v13]) rfl (Nat.le_of_ble_eq_true rfl) (Nat.le_of_ble_eq_true rfl) rfl (to_rc rfl rfl rfl (g_o hG16 rfl)) rfl ?_
  refine C_182 hX (by omega) hG16 (f := v9) (w := v13) (fun r24 M27 hG26 F25 => ?_)
  have n_28 : M27.1.2.1 = M19.1.2.1 ∧ M27.1.2.2.1 = M19.1.2.2.1 := by rw [F25.1]; exact ⟨rfl, rfl⟩
  refine to_is (pc := 421) rw_0_421 (ls2 := [.ref mm_ext, .ref 0, .ref 77, .ref 125, .int i, .int r15, .int r24]) rfl rfl ?_
  refine to_go (pc := 423) rw_0_423 ?_
  have c_30 : M27.2.1 77 7 = (M.2.1 77 7) := (F_n F25 (show ¬ (77 = 77 ∧ 7 = 2) by omega) (K_n K17 rfl))
  have t_31 : (M27.2.1 77 7).toInt = (M.2.1 77 7).toInt := congrArg Int32.toInt c_30
  have c_32 : M27.2.1 77 6 = (M.2.1 77 6) := (F_n F25 (show ¬ (77 = 77 ∧ 6 = 2) by omega) (K_n K17 rfl))
  have t_33 : (M27.2.1 77 6).toInt = (M.2.1 77 6).toInt := congrArg Int32.toInt c_32
  have c_34 : M27.2.1 1 1 = (M.2.1 1 1) := (F_n F25 (show ¬ (1 = 77 ∧ 1 = 2) by omega) (K_n K17 rfl))
  have t_35 : (M27.2.1 1 1).toInt = (M.2.1 1 1).toInt := congrArg Int32.toInt c_34
  have c_36 : M27.2.1 77 1 = (M.2.1 77 1) := (F_n F25 (show ¬ (77 = 77 ∧ 1 = 2) by omega) (K_n K17 rfl))
  have t_37 : (M27.2.1 77 1).toInt = (M.2.1 77 1).toInt := congrArg Int32.toInt c_36
  have c_38 : M27.2.1 0 12 = (M.2.1 0 12) := (F_n F25 (show ¬ (0 = 77 ∧ 12 = 2) by omega) (K_n K17 rfl))
  have t_39 : (M27.2.1 0 12).toInt = (M.2.1 0 12).toInt := congrArg Int32.toInt c_38
  have c_40 : M27.2.1 77 28 = (M.2.1 77 28) := (F_n F25 (show ¬ (77 = 77 ∧ 28 = 2) by omega) (K_n K17 rfl))
  have t_41 : (M27.2.1 77 28).toInt = (M.2.1 77 28).toInt := congrArg Int32.toInt c_40
  have j_42 := (PI_f (fun a i z => F_n F25 (show ¬ (a = 77 ∧ i = 2) by omega) rfl) (PI_f (fun a i z => K_n K17 rfl) jPI))
  have j_43 := (NI_f (fun a i z => F_n F25 (show ¬ (a = 77 ∧ i = 2) by omega) rfl) (NI_f (fun a i z => K_n K17 rfl) jNI))
  have j_44 := (QI_f (fun a i z => F_n F25 (show ¬ (a = 77 ∧ i = 2) by omega) rfl) (QI_f (fun a i z => K_n K17 rfl) jQI))
  have j_45 := (PQE_r F25.2.1 (PQE_r K18 jPQE))
  have j_46 := (FA_f (fun a i z => F_n F25 (show ¬ (a = 77 ∧ i = 2) by omega) rfl) (FA_f (fun a i z => K_n K17 rfl) jFA))
  have j_47 := (WC_f (fun a i z => F_n F25 (show ¬ (a = 77 ∧ i = 2) by omega) rfl) (WC_f (fun a i z => K_n K17 rfl) jWC))
  have j_48 := (NJ_f (fun a i z => F_n F25 (show ¬ (a = 77 ∧ i = 2) by omega) rfl) (NJ_f (fun a i z => K_n K17 rfl) jNJ))
  have j_49 := (PS_f (fun a i z => F_n F25 (show ¬ (a = 77 ∧ i = 2) by omega) rfl) (PS_f (fun a i z => K_n K17 rfl) jPS))
  have j_50 := (KQ_f (fun a i z => F_n F25 (show ¬ (a = 77 ∧ i = 2) by omega) rfl) (KQ_f (fun a i z => K_n K17 rfl) jKQ))
  have j_51 := (TP_f (fun a i z => F_n F25 (show ¬ (a = 77 ∧ i = 2) by omega) rfl) (TP_f (fun a i z => K_n K17 rfl) jTP))
  have j_52 := (W9_f (fun a i z => F_n F25 (show ¬ (a = 77 ∧ i = 2) by omega) rfl) (W9_f (fun a i z => K_n K17 rfl) jW9))
  have j_53 := (NE_r F25.2.1 (NE_r K18 jNE))
  exact h M27 (.int r15) (.int r24) ⟨⟨⟨hG26, ⟨j_42, j_43, j_44, j_45⟩, ⟨j_46, j_47, j_48, j_49, j_50⟩, by omega, by omega⟩, j_51, j_52⟩, j_53, by omega⟩ (by omega) (by omega)
set_option maxRecDepth 4000 in
set_option maxHeartbeats 0 in
theorem LW_7 {X : mm_X} {d L : Nat} {M : mm_M} {Q : Option Value → mm_M → Prop} {i : Int32} {u5 u6 : Value} (hX : g_X X) (hW : g_W X) (hL : (X 0).1 = L) (h3 : L ≤ 3072) (hd : 40 ≤ d) (hi : 0 ≤ i.toInt) (hi2 : i.toInt + 6 ≤ (L : Int)) (H : LI4 M) (h : ∀ (M1 : mm_M) (v5 v6 : Value), LI4 M1 → M1.1.2.1 ≤ M.1.2.1 + 1 → M1.1.2.2.1 ≤ M.1.2.2.1 + 6 → mm_T X d 0 1313 [.ref mm_ext, .ref 0, .ref 77, .ref 125, .int i, v5, v6] [] M1 Q) : mm_T X d 0 426 [.ref mm_ext, .ref 0, .ref 77, .ref 125, .int i, u5, u6] [] M Q := by
  obtain ⟨⟨⟨hG, ⟨jPI, jNI, jQI, jPQE⟩, ⟨jFA, jWC, jNJ, jPS, jKQ⟩, jJ, jE⟩, jTP, jW9⟩, jNE, jCC⟩ := H
  have b_1 := g_b hG (a := 77) (i := 7) (lo := 0) (hi := 500) rfl rfl
  have b_2 := g_b hG (a := 77) (i := 6) (lo := 0) (hi := 500) rfl rfl
  have b_3 := g_b hG (a := 1) (i := 1) (lo := 0) (hi := 500) rfl rfl
  have b_4 := g_b hG (a := 77) (i := 1) (lo := 0) (hi := 500) rfl rfl
  have b_5 := g_b hG (a := 0) (i := 12) (lo := 0) (hi := 30) rfl rfl
  have b_6 := g_b hG (a := 77) (i := 28) (lo := 0) (hi := 30) rfl rfl
  refine to_an (pc := 426) rw_0_426 rfl ?_
  refine to_an (pc := 427) rw_0_427 rfl ?_
  refine to_i (pc := 428) rw_0_428 rfl ?_
  refine to_c (pc := 430) rw_0_430 (x := (1 : Int32)) rfl rfl ?_
  refine s_add (pc := 431) rw_0_431 (A := i.toInt) (B := 1) rfl rfl (by omega) (fun v7 e8 => ?_)
  refine s_x0 (pc := 432) rw_0_432 hL (A := v7.toInt) rfl (by omega) (by omega) (fun v9 e10 => ?_)
  refine to_an (pc := 433) rw_0_433 rfl ?_
  refine to_i (pc := 434) rw_0_434 rfl ?_
  refine to_c (pc := 436) rw_0_436 (x := (2 : Int32)) rfl rfl ?_
  refine s_add (pc := 437) rw_0_437 (A := i.toInt) (B := 2) rfl rfl (by omega) (fun v11 e12 => ?_)
  refine s_x0 (pc := 438) rw_0_438 hL (A := v11.toInt) rfl (by omega) (by omega) (fun v13 e14 => ?_)
  refine s_v (pc := 439) rw_0_439 (by omega) (ls0 := [.ref 0, .int v9, .int v13]) rfl (Nat.le_of_ble_eq_true rfl) (Nat.le_of_ble_eq_true rfl) rfl (to_rc rfl rfl rfl (g_o hG rfl)) rfl ?_
  obtain ⟨pz15, pzz15, qz15, qzz15, hpz15, hpzz15, hqz15, hqzz15, hpqz15⟩ := id jPQE
  refine C_116 hX (by omega) hG hpz15 hpzz15 hqz15 hqzz15 hpqz15 (f := v9) (v := v13) (p := pz15) (pz := pzz15) (q := qz15) (qz := qzz15) (fun r16 M19 hG18 F17 => ?_)
  have n_20 : M19.1.2.1 = M.1.2.1 ∧ M19.1.2.2.1 = M.1.2.2.1 := by rw [F17.1]; exact ⟨rfl, rfl⟩
  refine s_pop2 (pc := 442) rw_0_442 ?_
  refine to_an (pc := 443) rw_0_443 rfl ?_
  refine to_an (pc := 444) rw_0_444 rfl ?_
  refine to_i (pc := 445) rw_0_445 rfl ?_
  refine to_c (pc := 447) rw_0_447 (x := (1 : Int32)) rfl rfl ?_
  refine s_addk (pc := 448) rw_0_448 (A := i.toInt) (B := 1) rfl rfl (by omega) (v := v7) e8 ?_
  refine s_x0k (pc := 449) rw_0_449 hL (A := v7.toInt) rfl (by omega) (by omega) (v := v9) e10 ?_
  refine to_an (pc := 450) rw_0_450 rfl ?_
  refine to_i (pc := 451) rw_0_451 rfl ?_
  refine to_c (pc := 453) rw_0_453 (x := (2 : Int32)) rfl rfl ?_
  refine s_addk (pc := 454) rw_0_454 (A := i.toInt) (B := 2) rfl rfl (by omega) (v := v11) e12 ?_
  refine s_x0k (pc := 455) rw_0_455 hL (A := v11.toInt) rfl (by omega) (by omega) (v := v13) e14 ?_
  refine s_v (pc := 456) rw_0_456 (by omega) (ls0 := [.ref 77, .int v9, .int v13]) rfl (Nat.le_of_ble_eq_true rfl) (Nat.le_of_ble_eq_true rfl) rfl (to_rc rfl rfl rfl (g_o hG18 rfl)) rfl ?_
  have j_26 := (FA_f (fun a i z => F_n F17 (show ¬ (a < 0) by omega) rfl) jFA)
  refine C_185 hX (by omega) hG18 j_26 (f := v9) (v := v13) (fun r27 M30 hG29 F28 => ?_)
  have n_31 : M30.1.2.1 = M19.1.2.1 ∧ M30.1.2.2.1 = M19.1.2.2.1 := by rw [F28.1]; exact ⟨rfl, rfl⟩
  refine s_pop2 (pc := 459) rw_0_459 ?_
  refine to_go (pc := 460) rw_0_460 ?_
  have c_33 : M30.2.1 77 7 = (M.2.1 77 7) := (F_n F28 (show ¬ (77 = 77 ∧ 7 = 2) by omega) (F_n F17 (show ¬ (77 < 0) by omega) rfl))
  have t_34 : (M30.2.1 77 7).toInt = (M.2.1 77 7).toInt := congrArg Int32.toInt c_33
  have c_35 : M30.2.1 77 6 = (M.2.1 77 6) := (F_n F28 (show ¬ (77 = 77 ∧ 6 = 2) by omega) (F_n F17 (show ¬ (77 < 0) by omega) rfl))
  have t_36 : (M30.2.1 77 6).toInt = (M.2.1 77 6).toInt := congrArg Int32.toInt c_35
  have c_37 : M30.2.1 1 1 = (M.2.1 1 1) := (F_n F28 (show ¬ (1 = 77 ∧ 1 = 2) by omega) (F_n F17 (show ¬ (1 < 0) by omega) rfl))
  have t_38 : (M30.2.1 1 1).toInt = (M.2.1 1 1).toInt := congrArg Int32.toInt c_37
  have c_39 : M30.2.1 77 1 = (M.2.1 77 1) := (F_n F28 (show ¬ (77 = 77 ∧ 1 = 2) by omega) (F_n F17 (show ¬ (77 < 0) by omega) rfl))
  have t_40 : (M30.2.1 77 1).toInt = (M.2.1 77 1).toInt := congrArg Int32.toInt c_39
  have c_41 : M30.2.1 0 12 = (M.2.1 0 12) := (F_n F28 (show ¬ (0 = 77 ∧ 12 = 2) by omega) (F_n F17 (show ¬ (0 < 0) by omega) rfl))
  have t_42 : (M30.2.1 0 12).toInt = (M.2.1 0 12).toInt := congrArg Int32.toInt c_41
  have c_43 : M30.2.1 77 28 = (M.2.1 77 28) := (F_n F28 (show ¬ (77 = 77 ∧ 28 = 2) by omega) (F_n F17 (show ¬ (77 < 0) by omega) rfl))
  have t_44 : (M30.2.1 77 28).toInt = (M.2.1 77 28).toInt := congrArg Int32.toInt c_43
  have j_45 := (PI_f (fun a i z => F_n F28 (show ¬ (a = 77 ∧ i = 2) by omega) rfl) (PI_f (fun a i z => F_n F17 (show ¬ (a < 0) by omega) rfl) jPI))
  have j_46 := (NI_f (fun a i z => F_n F28 (show ¬ (a = 77 ∧ i = 2) by omega) rfl) (NI_f (fun a i z => F_n F17 (show ¬ (a < 0) by omega) rfl) jNI))
  have j_47 := (QI_f (fun a i z => F_n F28 (show ¬ (a = 77 ∧ i = 2) by omega) rfl) (QI_f (fun a i z => F_n F17 (show ¬ (a < 0) by omega) rfl) jQI))
  have j_48 := (PQE_r F28.2.1 (PQE_r F17.2.1 jPQE))
  have j_49 := (FA_f (fun a i z => F_n F28 (show ¬ (a = 77 ∧ i = 2) by omega) rfl) j_26)
  have j_50 := (WC_f (fun a i z => F_n F28 (show ¬ (a = 77 ∧ i = 2) by omega) rfl) (WC_f (fun a i z => F_n F17 (show ¬ (a < 0) by omega) rfl) jWC))
  have j_51 := (NJ_f (fun a i z => F_n F28 (show ¬ (a = 77 ∧ i = 2) by omega) rfl) (NJ_f (fun a i z => F_n F17 (show ¬ (a < 0) by omega) rfl) jNJ))
  have j_52 := (PS_f (fun a i z => F_n F28 (show ¬ (a = 77 ∧ i = 2) by omega) rfl) (PS_f (fun a i z => F_n F17 (show ¬ (a < 0) by omega) rfl) jPS))
  have j_53 := (KQ_f (fun a i z => F_n F28 (show ¬ (a = 77 ∧ i = 2) by omega) rfl) (KQ_f (fun a i z => F_n F17 (show ¬ (a < 0) by omega) rfl) jKQ))
  have j_54 := (TP_f (fun a i z => F_n F28 (show ¬ (a = 77 ∧ i = 2) by omega) rfl) (TP_f (fun a i z => F_n F17 (show ¬ (a < 0) by omega) rfl) jTP))
  have j_55 := (W9_f (fun a i z => F_n F28 (show ¬ (a = 77 ∧ i = 2) by omega) rfl) (W9_f (fun a i z => F_n F17 (show ¬ (a < 0) by omega) rfl) jW9))
  have j_56 := (NE_r F28.2.1 (NE_r F17.2.1 jNE))
  exact h M30 (u5) (u6) ⟨⟨⟨hG29, ⟨j_45, j_46, j_47, j_48⟩, ⟨j_49, j_50, j_51, j_52, j_53⟩, by omega, by omega⟩, j_54, j_55⟩, j_56, by omega⟩ (by omega) (by omega)
set_option maxRecDepth 4000 in
set_option maxHeartbeats 0 in
theorem LW_8 {X : mm_X} {d L : Nat} {M : mm_M} {Q : Option Value → mm_M → Prop} {i : Int32} {u5 u6 : Value} (hX : g_X X) (hW : g_W X) (hL : (X 0).1 = L) (h3 : L ≤ 3072) (hd : 40 ≤ d) (hi : 0 ≤ i.toInt) (hi2 : i.toInt + 6 ≤ (L : Int)) (H : LI4 M) (h : ∀ (M1 : mm_M) (v5 v6 : Value), LI4 M1 → M1.1.2.1 ≤ M.1.2.1 + 1 → M1.1.2.2.1 ≤ M.1.2.2.1 + 6 → mm_T X d 0 1313 [.ref mm_ext, .ref 0, .ref 77, .ref 125, .int i, v5, v6] [] M1 Q) : mm_T X d 0 463 [.ref mm_ext, .ref 0, .ref 77, .ref 125, .int i, u5, u6] [] M Q := by
  obtain ⟨⟨⟨hG, ⟨jPI, jNI, jQI, jPQE⟩, ⟨jFA, jWC, jNJ, jPS, jKQ⟩, jJ, jE⟩, jTP, jW9⟩, jNE, jCC⟩ := H
  have b_1 := g_b hG (a := 77) (i := 7) (lo := 0) (hi := 500) rfl rfl
  have b_2 := g_b hG (a := 77) (i := 6) (lo := 0) (hi := 500) rfl rfl
  have b_3 := g_b hG (a := 1) (i := 1) (lo := 0) (hi := 500) rfl rfl
  have b_4 := g_b hG (a := 77) (i := 1) (lo := 0) (hi := 500) rfl rfl
  have b_5 := g_b hG (a := 0) (i := 12) (lo := 0) (hi := 30) rfl rfl
  have b_6 := g_b hG (a := 77) (i := 28) (lo := 0) (hi := 30) rfl rfl
  refine to_an (pc := 463) rw_0_463 rfl ?_
  refine to_an (pc := 464) rw_0_464 rfl ?_
  refine to_i (pc := 465) rw_0_465 rfl ?_
  refine to_c (pc := 467) rw_0_467 (x := (1 : Int32)) rfl rfl ?_
  refine s_add (pc := 468) rw_0_468 (A := i.toInt) (B := 1) rfl rfl (by omega) (fun v7 e8 => ?_)
  refine s_x0 (pc := 469) rw_0_469 hL (A := v7.toInt) rfl (by omega) (by omega) (fun v9 e10 => ?_)
  refine to_an (pc := 470) rw_0_470 rfl ?_
  refine to_i (pc := 471) rw_0_471 rfl ?_
  refine to_c (pc := 473) rw_0_473 (x := (2 : Int32)) rfl rfl ?_
  refine s_add (pc := 474) rw_0_474 (A := i.toInt) (B := 2) rfl rfl (by omega) (fun v11 e12 => ?_)
  refine s_x0 (pc := 475) rw_0_475 hL (A := v11.toInt) rfl (by omega) (by omega) (fun v13 e14 => ?_)
  refine s_v (pc := 476) rw_0_476 (by omega) (ls0 := [.ref 0, .int v9, .int v13]) rfl (Nat.le_of_ble_eq_true rfl) (Nat.le_of_ble_eq_true rfl) rfl (to_rc rfl rfl rfl (g_o hG rfl)) rfl ?_
  obtain ⟨pz15, pzz15, qz15, qzz15, hpz15, hpzz15, hqz15, hqzz15, hpqz15⟩ := id jPQE
  refine C_117 hX (by omega) hG hpz15 hpzz15 hqz15 hqzz15 hpqz15 jNI jPI jQI (n := v9) (w := v13) (p := pz15) (pz := pzz15) (q := qz15) (qz := qzz15) (fun r16 M22 hG18 F17 p_19 p_20 p_21 => ?_)
  have n_23 : M22.1.2.1 = M.1.2.1 ∧ M22.1.2.2.1 = M.1.2.2.1 := by rw [F17.1]; exact ⟨rfl, rfl⟩
  refine s_pop2 (pc := 479) rw_0_479 ?_
  refine to_an (pc := 480) rw_0_480 rfl ?_
  refine to_an (pc := 481) rw_0_481 rfl ?_
  refine to_i (pc := 482) rw_0_482 rfl ?_
  refine to_c (pc := 484) rw_0_484 (x := (1 : Int32)) rfl rfl ?_
  refine s_addk (pc := 485) rw_0_485 (A := i.toInt) (B := 1) rfl rfl (by omega) (v := v7) e8 ?_
  refine s_x0k (pc := 486) rw_0_486 hL (A := v7.toInt) rfl (by omega) (by omega) (v := v9) e10 ?_
  refine to_an (pc := 487) rw_0_487 rfl ?_
  refine to_i (pc := 488) rw_0_488 rfl ?_
  refine to_c (pc := 490) rw_0_490 (x := (2 : Int32)) rfl rfl ?_
  refine s_addk (pc := 491) rw_0_491 (A := i.toInt) (B := 2) rfl rfl (by omega) (v := v11) e12 ?_
  refine s_x0k (pc := 492) rw_0_492 hL (A := v11.toInt) rfl (by omega) (by omega) (v := v13) e14 ?_
  refine s_v (pc := 493) rw_0_493 (by omega) (ls0 := [.ref 77, .int v9, .int v13]) rfl (Nat.le_of_ble_eq_true rfl) (Nat.le_of_ble_eq_true rfl) rfl (to_rc rfl rfl rfl (g_o hG18 rfl)) rfl ?_
  have j_29 := (NJ_f (fun a i z => F_n F17 (show ¬ (11 ≤ a ∧ a ≤ 48 ∨ 67 ≤ a ∧ a ≤ 76) by omega) rfl) jNJ)
  refine C_192 hX (by omega) hG18 j_29 (n := v9) (w := v13) (fun r30 M33 hG32 F31 => ?_)
  have n_34 : M33.1.2.1 = M22.1.2.1 ∧ M33.1.2.2.1 = M22.1.2.2.1 := by rw [F31.1]; exact ⟨rfl, rfl⟩
  refine s_pop2 (pc := 496) rw_0_496 ?_
  refine to_go (pc := 497) rw_0_497 ?_
  have c_36 : M33.2.1 77 7 = (M.2.1 77 7) := (F_n F31 (show ¬ (77 = 77 ∧ 7 = 2 ∨ 94 ≤ 77 ∧ 77 ≤ 98) by omega) (F_n F17 (show ¬ (11 ≤ 77 ∧ 77 ≤ 48 ∨ 67 ≤ 77 ∧ 77 ≤ 76) by omega) rfl))
  have t_37 : (M33.2.1 77 7).toInt = (M.2.1 77 7).toInt := congrArg Int32.toInt c_36
  have c_38 : M33.2.1 77 6 = (M.2.1 77 6) := (F_n F31 (show ¬ (77 = 77 ∧ 6 = 2 ∨ 94 ≤ 77 ∧ 77 ≤ 98) by omega) (F_n F17 (show ¬ (11 ≤ 77 ∧ 77 ≤ 48 ∨ 67 ≤ 77 ∧ 77 ≤ 76) by omega) rfl))
  have t_39 : (M33.2.1 77 6).toInt = (M.2.1 77 6).toInt := congrArg Int32.toInt c_38
  have c_40 : M33.2.1 1 1 = (M.2.1 1 1) := (F_n F31 (show ¬ (1 = 77 ∧ 1 = 2 ∨ 94 ≤ 1 ∧ 1 ≤ 98) by omega) (F_n F17 (show ¬ (11 ≤ 1 ∧ 1 ≤ 48 ∨ 67 ≤ 1 ∧ 1 ≤ 76) by omega) rfl))
  have t_41 : (M33.2.1 1 1).toInt = (M.2.1 1 1).toInt := congrArg Int32.toInt c_40
  have c_42 : M33.2.1 77 1 = (M.2.1 77 1) := (F_n F31 (show ¬ (77 = 77 ∧ 1 = 2 ∨ 94 ≤ 77 ∧ 77 ≤ 98) by omega) (F_n F17 (show ¬ (11 ≤ 77 ∧ 77 ≤ 48 ∨ 67 ≤ 77 ∧ 77 ≤ 76) by omega) rfl))
  have t_43 : (M33.2.1 77 1).toInt = (M.2.1 77 1).toInt := congrArg Int32.toInt c_42
  have c_44 : M33.2.1 0 12 = (M.2.1 0 12) := (F_n F31 (show ¬ (0 = 77 ∧ 12 = 2 ∨ 94 ≤ 0 ∧ 0 ≤ 98) by omega) (F_n F17 (show ¬ (11 ≤ 0 ∧ 0 ≤ 48 ∨ 67 ≤ 0 ∧ 0 ≤ 76) by omega) rfl))
  have t_45 : (M33.2.1 0 12).toInt = (M.2.1 0 12).toInt := congrArg Int32.toInt c_44
  have c_46 : M33.2.1 77 28 = (M.2.1 77 28) := (F_n F31 (show ¬ (77 = 77 ∧ 28 = 2 ∨ 94 ≤ 77 ∧ 77 ≤ 98) by omega) (F_n F17 (show ¬ (11 ≤ 77 ∧ 77 ≤ 48 ∨ 67 ≤ 77 ∧ 77 ≤ 76) by omega) rfl))
  have t_47 : (M33.2.1 77 28).toInt = (M.2.1 77 28).toInt := congrArg Int32.toInt c_46
  have j_48 := (PI_f (fun a i z => F_n F31 (show ¬ (a = 77 ∧ i = 2 ∨ 94 ≤ a ∧ a ≤ 98) by omega) rfl) p_19)
  have j_49 := (NI_f (fun a i z => F_n F31 (show ¬ (a = 77 ∧ i = 2 ∨ 94 ≤ a ∧ a ≤ 98) by omega) rfl) p_20)
  have j_50 := (QI_f (fun a i z => F_n F31 (show ¬ (a = 77 ∧ i = 2 ∨ 94 ≤ a ∧ a ≤ 98) by omega) rfl) p_21)
  have j_51 := (PQE_r F31.2.1 (PQE_r F17.2.1 jPQE))
  have j_52 := (FA_f (fun a i z => F_n F31 (show ¬ (a = 77 ∧ i = 2 ∨ 94 ≤ a ∧ a ≤ 98) by omega) rfl) (FA_f (fun a i z => F_n F17 (show ¬ (11 ≤ a ∧ a ≤ 48 ∨ 67 ≤ a ∧ a ≤ 76) by omega) rfl) jFA))
  have j_53 := (WC_f (fun a i z => F_n F31 (show ¬ (a = 77 ∧ i = 2 ∨ 94 ≤ a ∧ a ≤ 98) by omega) rfl) (WC_f (fun a i z => F_n F17 (show ¬ (11 ≤ a ∧ a ≤ 48 ∨ 67 ≤ a ∧ a ≤ 76) by omega) rfl) jWC))
  have j_54 := (NJ_f (fun a i z => F_n F31 (show ¬ (a = 77 ∧ i = 2 ∨ 94 ≤ a ∧ a ≤ 98) by omega) rfl) j_29)
  have j_55 := (PS_f (fun a i z => F_n F31 (show ¬ (a = 77 ∧ i = 2 ∨ 94 ≤ a ∧ a ≤ 98) by omega) rfl) (PS_f (fun a i z => F_n F17 (show ¬ (11 ≤ a ∧ a ≤ 48 ∨ 67 ≤ a ∧ a ≤ 76) by omega) rfl) jPS))
  have j_56 := (KQ_f (fun a i z => F_n F31 (show ¬ (a = 77 ∧ i = 2 ∨ 94 ≤ a ∧ a ≤ 98) by omega) rfl) (KQ_f (fun a i z => F_n F17 (show ¬ (11 ≤ a ∧ a ≤ 48 ∨ 67 ≤ a ∧ a ≤ 76) by omega) rfl) jKQ))
  have j_57 := (TP_f (fun a i z => F_n F31 (show ¬ (a = 77 ∧ i = 2 ∨ 94 ≤ a ∧ a ≤ 98) by omega) rfl) (TP_f (fun a i z => F_n F17 (show ¬ (11 ≤ a ∧ a ≤ 48 ∨ 67 ≤ a ∧ a ≤ 76) by omega) rfl) jTP))
  have j_58 := (W9_f (fun a i z => F_n F31 (show ¬ (a = 77 ∧ i = 2 ∨ 94 ≤ a ∧ a ≤ 98) by omega) rfl) (W9_f (fun a i z => F_n F17 (show ¬ (11 ≤ a ∧ a ≤ 48 ∨ 67 ≤ a ∧ a ≤ 76) by omega) rfl) jW9))
  have j_59 := (NE_r F31.2.1 (NE_r F17.2.1 jNE))
  exact h M33 (u5) (u6) ⟨⟨⟨hG32, ⟨j_48, j_49, j_50, j_51⟩, ⟨j_52, j_53, j_54, j_55, j_56⟩, by omega, by omega⟩, j_57, j_58⟩, j_59, by omega⟩ (by omega) (by omega)
set_option maxRecDepth 4000 in
set_option maxHeartbeats 0 in
theorem LW_9 {X : mm_X} {d L : Nat} {M : mm_M} {Q : Option Value → mm_M → Prop} {i : Int32} {u5 u6 : Value} (hX : g_X X) (hW : g_W X) (hL : (X 0).1 = L) (h3 : L ≤ 3072) (hd : 40 ≤ d) (hi : 0 ≤ i.toInt) (hi2 : i.toInt + 6 ≤ (L : Int)) (H : LI4 M) (h : ∀ (M1 : mm_M) (v5 v6 : Value), LI4 M1 → M1.1.2.1 ≤ M.1.2.1 + 1 → M1.1.2.2.1 ≤ M.1.2.2.1 + 6 → mm_T X d 0 1313 [.ref mm_ext, .ref 0, .ref 77, .ref 125, .int i, v5, v6] [] M1 Q) : mm_T X d 0 500 [.ref mm_ext, .ref 0, .ref 77, .ref 125, .int i, u5, u6] [] M Q := by
  obtain ⟨⟨⟨hG, ⟨jPI, jNI, jQI, jPQE⟩, ⟨jFA, jWC, jNJ, jPS, jKQ⟩, jJ, jE⟩, jTP, jW9⟩, jNE, jCC⟩ := H
  have b_1 := g_b hG (a := 77) (i := 7) (lo := 0) (hi := 500) rfl rfl
  have b_2 := g_b hG (a := 77) (i := 6) (lo := 0) (hi := 500) rfl rfl
  have b_3 := g_b hG (a := 1) (i := 1) (lo := 0) (hi := 500) rfl rfl
  have b_4 := g_b hG (a := 77) (i := 1) (lo := 0) (hi := 500) rfl rfl
  have b_5 := g_b hG (a := 0) (i := 12) (lo := 0) (hi := 30) rfl rfl
  have b_6 := g_b hG (a := 77) (i := 28) (lo := 0) (hi := 30) rfl rfl
  refine to_an (pc := 500) rw_0_500 rfl ?_
  refine s_v (pc := 501) rw_0_501 (by omega) (ls0 := [.ref 0]) rfl (Nat.le_of_ble_eq_true rfl) (Nat.le_of_ble_eq_true rfl) rfl (to_rc rfl rfl rfl (g_o hG rfl)) rfl ?_
  obtain ⟨pz7, pzz7, qz7, qzz7, hpz7, hpzz7, hqz7, hqzz7, hpqz7⟩ := id jPQE
  refine C_118 hX (by omega) hG hpz7 hpzz7 hqz7 hqzz7 hpqz7 jPI jNI jQI (p := pz7) (pz := pzz7) (q := qz7) (qz := qzz7) (fun r8 M16 hG10 F9 p_11 p_12 p_13 p_14 p_15 => ?_)
  have n_17 : M16.1.2.1 = M.1.2.1 ∧ M16.1.2.2.1 = M.1.2.2.1 := by rw [F9.1]; exact ⟨rfl, rfl⟩
  have b_19 := g_b hG10 (a := 0) (i := 12) (lo := 0) (hi := 30) rfl rfl
  refine to_an (pc := 504) rw_0_504 rfl ?_
  refine s_v (pc := 505) rw_0_505 (by omega) (ls0 := [.ref 77]) rfl (Nat.le_of_ble_eq_true rfl) (Nat.le_of_ble_eq_true rfl) rfl (to_rc rfl rfl rfl (g_o hG10 rfl)) rfl ?_
  have c_20 : M16.2.1 77 28 = (M.2.1 77 28) := (F_n F9 (show ¬ (77 = 0 ∧ 28 = 12 ∨ 17 ≤ 77 ∧ 77 ≤ 27) by omega) rfl)
  have t_21 : (M16.2.1 77 28).toInt = (M.2.1 77 28).toInt := congrArg Int32.toInt c_20
  have j_22 := (PS_f (fun a i z => F_n F9 (show ¬ (a = 0 ∧ i = 12 ∨ 17 ≤ a ∧ a ≤ 27) by omega) rfl) jPS)
  refine C_193 hX (by omega) hG10 j_22  (fun r23 M29 hG25 F24 p_26 p_27 p_28 => ?_)
  have n_30 : M29.1.2.1 = M16.1.2.1 ∧ M29.1.2.2.1 = M16.1.2.2.1 := by rw [F24.1]; exact ⟨rfl, rfl⟩
  have b_32 := g_b hG25 (a := 77) (i := 28) (lo := 0) (hi := 30) rfl rfl
  refine b_ceq (pc := 508) rw_0_508 (A := r8.toInt) (B := r23.toInt) rfl rfl (fun h33 => ?_) (fun h33 => ?_)
  · have c_34 : M29.2.1 77 7 = (M.2.1 77 7) := (F_n F24 (show ¬ (77 = 77 ∧ (7 = 2 ∨ 7 = 28) ∨ 77 = 99 ∨ 77 = 100) by omega) (F_n F9 (show ¬ (77 = 0 ∧ 7 = 12 ∨ 17 ≤ 77 ∧ 77 ≤ 27) by omega) rfl))
    have t_35 : (M29.2.1 77 7).toInt = (M.2.1 77 7).toInt := congrArg Int32.toInt c_34
    have c_36 : M29.2.1 77 6 = (M.2.1 77 6) := (F_n F24 (show ¬ (77 = 77 ∧ (6 = 2 ∨ 6 = 28) ∨ 77 = 99 ∨ 77 = 100) by omega) (F_n F9 (show ¬ (77 = 0 ∧ 6 = 12 ∨ 17 ≤ 77 ∧ 77 ≤ 27) by omega) rfl))
    have t_37 : (M29.2.1 77 6).toInt = (M.2.1 77 6).toInt := congrArg Int32.toInt c_36
    have c_38 : M29.2.1 1 1 = (M.2.1 1 1) := (F_n F24 (show ¬ (1 = 77 ∧ (1 = 2 ∨ 1 = 28) ∨ 1 = 99 ∨ 1 = 100) by omega) (F_n F9 (show ¬ (1 = 0 ∧ 1 = 12 ∨ 17 ≤ 1 ∧ 1 ≤ 27) by omega) rfl))
    have t_39 : (M29.2.1 1 1).toInt = (M.2.1 1 1).toInt := congrArg Int32.toInt c_38
    have c_40 : M29.2.1 77 1 = (M.2.1 77 1) := (F_n F24 (show ¬ (77 = 77 ∧ (1 = 2 ∨ 1 = 28) ∨ 77 = 99 ∨ 77 = 100) by omega) (F_n F9 (show ¬ (77 = 0 ∧ 1 = 12 ∨ 17 ≤ 77 ∧ 77 ≤ 27) by omega) rfl))
    have t_41 : (M29.2.1 77 1).toInt = (M.2.1 77 1).toInt := congrArg Int32.toInt c_40
    have c_42 : M29.2.1 0 12 = (M16.2.1 0 12) := (F_n F24 (show ¬ (0 = 77 ∧ (12 = 2 ∨ 12 = 28) ∨ 0 = 99 ∨ 0 = 100) by omega) rfl)
    have t_43 : (M29.2.1 0 12).toInt = (M16.2.1 0 12).toInt := congrArg Int32.toInt c_42
    have j_44 := (PI_f (fun a i z => F_n F24 (show ¬ (a = 77 ∧ (i = 2 ∨ i = 28) ∨ a = 99 ∨ a = 100) by omega) rfl) p_13)
    have j_45 := (NI_f (fun a i z => F_n F24 (show ¬ (a = 77 ∧ (i = 2 ∨ i = 28) ∨ a = 99 ∨ a = 100) by omega) rfl) p_14)
    have j_46 := (QI_f (fun a i z => F_n F24 (show ¬ (a = 77 ∧ (i = 2 ∨ i = 28) ∨ a = 99 ∨ a = 100) by omega) rfl) p_15)
    have j_47 := (PQE_r F24.2.1 (PQE_r F9.2.1 jPQE))
    have j_48 := (FA_f (fun a i z => F_n F24 (show ¬ (a = 77 ∧ (i = 2 ∨ i = 28) ∨ a = 99 ∨ a = 100) by omega) rfl) (FA_f (fun a i z => F_n F9 (show ¬ (a = 0 ∧ i = 12 ∨ 17 ≤ a ∧ a ≤ 27) by omega) rfl) jFA))
    have j_49 := (WC_f (fun a i z => F_n F24 (show ¬ (a = 77 ∧ (i = 2 ∨ i = 28) ∨ a = 99 ∨ a = 100) by omega) rfl) (WC_f (fun a i z => F_n F9 (show ¬ (a = 0 ∧ i = 12 ∨ 17 ≤ a ∧ a ≤ 27) by omega) rfl) jWC))
    have j_50 := (NJ_f (fun a i z => F_n F24 (show ¬ (a = 77 ∧ (i = 2 ∨ i = 28) ∨ a = 99 ∨ a = 100) by omega) rfl) (NJ_f (fun a i z => F_n F9 (show ¬ (a = 0 ∧ i = 12 ∨ 17 ≤ a ∧ a ≤ 27) by omega) rfl) jNJ))
    have j_51 := (KQ_f (fun a i z => F_n F24 (show ¬ (a = 77 ∧ (i = 2 ∨ i = 28) ∨ a = 99 ∨ a = 100) by omega) rfl) (KQ_f (fun a i z => F_n F9 (show ¬ (a = 0 ∧ i = 12 ∨ 17 ≤ a ∧ a ≤ 27) by omega) rfl) jKQ))
    have j_52 := (TP_f (fun a i z => F_n F24 (show ¬ (a = 77 ∧ (i = 2 ∨ i = 28) ∨ a = 99 ∨ a = 100) by omega) rfl) (TP_f (fun a i z => F_n F9 (show ¬ (a = 0 ∧ i = 12 ∨ 17 ≤ a ∧ a ≤ 27) by omega) rfl) jTP))
    have j_53 := (W9_f (fun a i z => F_n F24 (show ¬ (a = 77 ∧ (i = 2 ∨ i = 28) ∨ a = 99 ∨ a = 100) by omega) rfl) (W9_f (fun a i z => F_n F9 (show ¬ (a = 0 ∧ i = 12 ∨ 17 ≤ a ∧ a ≤ 27) by omega) rfl) jW9))
    have j_54 := (NE_r F24.2.1 (NE_r F9.2.1 jNE))
    exact h M29 (u5) (u6) ⟨⟨⟨hG25, ⟨j_44, j_45, j_46, j_47⟩, ⟨j_48, j_49, j_50, p_28, j_51⟩, by omega, by omega⟩, j_52, j_53⟩, j_54, by omega⟩ (by omega) (by omega)
  · exfalso; omega
set_option maxRecDepth 4000 in
set_option maxHeartbeats 0 in
theorem LW_10 {X : mm_X} {d L : Nat} {M : mm_M} {Q : Option Value → mm_M → Prop} {i : Int32} {u5 u6 : Value} (hX : g_X X) (hW : g_W X) (hL : (X 0).1 = L) (h3 : L ≤ 3072) (hd : 40 ≤ d) (hi : 0 ≤ i.toInt) (hi2 : i.toInt + 6 ≤ (L : Int)) (H : LI4 M) (h : ∀ (M1 : mm_M) (v5 v6 : Value), LI4 M1 → M1.1.2.1 ≤ M.1.2.1 + 1 → M1.1.2.2.1 ≤ M.1.2.2.1 + 6 → mm_T X d 0 1313 [.ref mm_ext, .ref 0, .ref 77, .ref 125, .int i, v5, v6] [] M1 Q) : mm_T X d 0 513 [.ref mm_ext, .ref 0, .ref 77, .ref 125, .int i, u5, u6] [] M Q := by
  obtain ⟨⟨⟨hG, ⟨jPI, jNI, jQI, jPQE⟩, ⟨jFA, jWC, jNJ, jPS, jKQ⟩, jJ, jE⟩, jTP, jW9⟩, jNE, jCC⟩ := H
  have b_1 := g_b hG (a := 77) (i := 7) (lo := 0) (hi := 500) rfl rfl
  have b_2 := g_b hG (a := 77) (i := 6) (lo := 0) (hi := 500) rfl rfl
  have b_3 := g_b hG (a := 1) (i := 1) (lo := 0) (hi := 500) rfl rfl
  have b_4 := g_b hG (a := 77) (i := 1) (lo := 0) (hi := 500) rfl rfl
  have b_5 := g_b hG (a := 0) (i := 12) (lo := 0) (hi := 30) rfl rfl
  have b_6 := g_b hG (a := 77) (i := 28) (lo := 0) (hi := 30) rfl rfl
  refine to_an (pc := 513) rw_0_513 rfl ?_
  refine to_an (pc := 514) rw_0_514 rfl ?_
  refine to_i (pc := 515) rw_0_515 rfl ?_
  refine to_c (pc := 517) rw_0_517 (x := (1 : Int32)) rfl rfl ?_
  refine s_add (pc := 518) rw_0_518 (A := i.toInt) (B := 1) rfl rfl (by omega) (fun v7 e8 => ?_)
  refine s_x0 (pc := 519) rw_0_519 hL (A := v7.toInt) rfl (by omega) (by omega) (fun v9 e10 => ?_)
  refine to_an (pc := 520) rw_0_520 rfl ?_
  refine to_i (pc := 521) rw_0_521 rfl ?_
  refine to_c (pc := 523) rw_0_523 (x := (2 : Int32)) rfl rfl ?_
  refine s_add (pc := 524) rw_0_524 (A := i.toInt) (B := 2) rfl rfl (by omega) (fun v11 e12 => ?_)
  refine s_x0 (pc := 525) rw_0_525 hL (A := v11.toInt) rfl (by omega) (by omega) (fun v13 e14 => ?_)
  refine to_an (pc := 526) rw_0_526 rfl ?_
  refine to_i (pc := 527) rw_0_527 rfl ?_
  refine to_c (pc := 529) rw_0_529 (x := (3 : Int32)) rfl rfl ?_
  refine s_add (pc := 530) rw_0_530 (A := i.toInt) (B := 3) rfl rfl (by omega) (fun v15 e16 => ?_)
  refine s_x0 (pc := 531) rw_0_531 hL (A := v15.toInt) rfl (by omega) (by omega) (fun v17 e18 => ?_)
  refine s_v (pc := 532) rw_0_532 (by omega) (ls0 := [.ref 0, .int v9, .int v13, .int v17]) rfl (Nat.le_of_ble_eq_true rfl) (Nat.le_of_ble_eq_true rfl) rfl (to_rc rfl rfl rfl (g_o hG rfl)) rfl ?_
  obtain ⟨pz19, pzz19, qz19, qzz19, hpz19, hpzz19, hqz19, hqzz19, hpqz19⟩ := id jPQE
  refine C_119 hX (by omega) hG hpz19 hpzz19 hqz19 hqzz19 hpqz19 jNI jPI jQI (c := v9) (f := v13) (v := v17) (p := pz19) (pz := pzz19) (q := qz19) (qz := qzz19) (fun r20 M26 hG22 F21 p_23 p_24 p_25 => ?_)
  have n_27 : M26.1.2.1 = M.1.2.1 ∧ M26.1.2.2.1 = M.1.2.2.1 := by rw [F21.1]; exact ⟨rfl, rfl⟩
  refine to_popi (pc := 535) rw_0_535 ?_
  refine to_an (pc := 536) rw_0_536 rfl ?_
  refine to_an (pc := 537) rw_0_537 rfl ?_
  refine to_i (pc := 538) rw_0_538 rfl ?_
  refine to_c (pc := 540) rw_0_540 (x := (1 : Int32)) rfl rfl ?_
  refine s_addk (pc := 541) rw_0_541 (A := i.toInt) (B := 1) rfl rfl (by omega) (v := v7) e8 ?_
  refine s_x0k (pc := 542) rw_0_542 hL (A := v7.toInt) rfl (by omega) (by omega) (v := v9) e10 ?_
  refine to_an (pc := 543) rw_0_543 rfl ?_
  refine to_i (pc := 544) rw_0_544 rfl ?_
  refine to_c (pc := 546) rw_0_546 (x := (2 : Int32)) rfl rfl ?_
  refine s_addk (pc := 547) rw_0_547 (A := i.toInt) (B := 2) rfl rfl (by omega) (v := v11) e12 ?_
  refine s_x0k (pc := 548) rw_0_548 hL (A := v11.toInt) rfl (by omega) (by omega) (v := v13) e14 ?_
  refine to_an (pc := 549) rw_0_549 rfl ?_
  refine to_i (pc := 550) rw_0_550 rfl ?_
  refine to_c (pc := 552) rw_0_552 (x := (3 : Int32)) rfl rfl ?_
  refine s_addk (pc := 553) rw_0_553 (A := i.toInt) (B := 3) rfl rfl (by omega) (v := v15) e16 ?_
  refine s_x0k (pc := 554) rw_0_554 hL (A := v15.toInt) rfl (by omega) (by omega) (v := v17) e18 ?_
  refine s_v (pc := 555) rw_0_555 (by omega) (ls0 := [.ref 77, .int v9, .int v13, .int v17]) rfl (Nat.le_of_ble_eq_true rfl) (Nat.le_of_ble_eq_true rfl) rfl (to_rc rfl rfl rfl (g_o hG22 rfl)) rfl ?_
  have j_35 := (NJ_f (fun a i z => F_n F21 (show ¬ (6 ≤ a ∧ a ≤ 10) by omega) rfl) jNJ)
  have j_36 := (FA_f (fun a i z => F_n F21 (show ¬ (6 ≤ a ∧ a ≤ 10) by omega) rfl) jFA)
  refine C_194 hX (by omega) hG22 j_35 j_36 (c := v9) (f := v13) (v := v17) (fun r37 M41 hG39 F38 p_40 => ?_)
  have n_42 : M41.1.2.1 = M26.1.2.1 ∧ M41.1.2.2.1 = M26.1.2.2.1 := by rw [F38.1]; exact ⟨rfl, rfl⟩
  refine to_popi (pc := 558) rw_0_558 ?_
  refine to_go (pc := 559) rw_0_559 ?_
  have c_44 : M41.2.1 77 7 = (M.2.1 77 7) := (F_n F38 (show ¬ (77 = 77 ∧ (7 = 2 ∨ 7 = 29) ∨ 90 ≤ 77 ∧ 77 ≤ 93) by omega) (F_n F21 (show ¬ (6 ≤ 77 ∧ 77 ≤ 10) by omega) rfl))
  have t_45 : (M41.2.1 77 7).toInt = (M.2.1 77 7).toInt := congrArg Int32.toInt c_44
  have c_46 : M41.2.1 77 6 = (M.2.1 77 6) := (F_n F38 (show ¬ (77 = 77 ∧ (6 = 2 ∨ 6 = 29) ∨ 90 ≤ 77 ∧ 77 ≤ 93) by omega) (F_n F21 (show ¬ (6 ≤ 77 ∧ 77 ≤ 10) by omega) rfl))
  have t_47 : (M41.2.1 77 6).toInt = (M.2.1 77 6).toInt := congrArg Int32.toInt c_46
  have c_48 : M41.2.1 1 1 = (M.2.1 1 1) := (F_n F38 (show ¬ (1 = 77 ∧ (1 = 2 ∨ 1 = 29) ∨ 90 ≤ 1 ∧ 1 ≤ 93) by omega) (F_n F21 (show ¬ (6 ≤ 1 ∧ 1 ≤ 10) by omega) rfl))
  have t_49 : (M41.2.1 1 1).toInt = (M.2.1 1 1).toInt := congrArg Int32.toInt c_48
  have c_50 : M41.2.1 77 1 = (M.2.1 77 1) := (F_n F38 (show ¬ (77 = 77 ∧ (1 = 2 ∨ 1 = 29) ∨ 90 ≤ 77 ∧ 77 ≤ 93) by omega) (F_n F21 (show ¬ (6 ≤ 77 ∧ 77 ≤ 10) by omega) rfl))
  have t_51 : (M41.2.1 77 1).toInt = (M.2.1 77 1).toInt := congrArg Int32.toInt c_50
  have c_52 : M41.2.1 0 12 = (M.2.1 0 12) := (F_n F38 (show ¬ (0 = 77 ∧ (12 = 2 ∨ 12 = 29) ∨ 90 ≤ 0 ∧ 0 ≤ 93) by omega) (F_n F21 (show ¬ (6 ≤ 0 ∧ 0 ≤ 10) by omega) rfl))
  have t_53 : (M41.2.1 0 12).toInt = (M.2.1 0 12).toInt := congrArg Int32.toInt c_52
  have c_54 : M41.2.1 77 28 = (M.2.1 77 28) := (F_n F38 (show ¬ (77 = 77 ∧ (28 = 2 ∨ 28 = 29) ∨ 90 ≤ 77 ∧ 77 ≤ 93) by omega) (F_n F21 (show ¬ (6 ≤ 77 ∧ 77 ≤ 10) by omega) rfl))
  have t_55 : (M41.2.1 77 28).toInt = (M.2.1 77 28).toInt := congrArg Int32.toInt c_54
  have j_56 := (PI_f (fun a i z => F_n F38 (show ¬ (a = 77 ∧ (i = 2 ∨ i = 29) ∨ 90 ≤ a ∧ a ≤ 93) by omega) rfl) p_24)
  have j_57 := (NI_f (fun a i z => F_n F38 (show ¬ (a = 77 ∧ (i = 2 ∨ i = 29) ∨ 90 ≤ a ∧ a ≤ 93) by omega) rfl) p_23)
  have j_58 := (QI_f (fun a i z => F_n F38 (show ¬ (a = 77 ∧ (i = 2 ∨ i = 29) ∨ 90 ≤ a ∧ a ≤ 93) by omega) rfl) p_25)
  have j_59 := (PQE_r F38.2.1 (PQE_r F21.2.1 jPQE))
  have j_60 := (FA_f (fun a i z => F_n F38 (show ¬ (a = 77 ∧ (i = 2 ∨ i = 29) ∨ 90 ≤ a ∧ a ≤ 93) by omega) rfl) j_36)
  have j_61 := (WC_f (fun a i z => F_n F38 (show ¬ (a = 77 ∧ (i = 2 ∨ i = 29) ∨ 90 ≤ a ∧ a ≤ 93) by omega) rfl) (WC_f (fun a i z => F_n F21 (show ¬ (6 ≤ a ∧ a ≤ 10) by omega) rfl) jWC))
  have j_62 := (PS_f (fun a i z => F_n F38 (show ¬ (a = 77 ∧ (i = 2 ∨ i = 29) ∨ 90 ≤ a ∧ a ≤ 93) by omega) rfl) (PS_f (fun a i z => F_n F21 (show ¬ (6 ≤ a ∧ a ≤ 10) by omega) rfl) jPS))
  have j_63 := (KQ_f (fun a i z => F_n F38 (show ¬ (a = 77 ∧ (i = 2 ∨ i = 29) ∨ 90 ≤ a ∧ a ≤ 93) by omega) rfl) (KQ_f (fun a i z => F_n F21 (show ¬ (6 ≤ a ∧ a ≤ 10) by omega) rfl) jKQ))
  have j_64 := (TP_f (fun a i z => F_n F38 (show ¬ (a = 77 ∧ (i = 2 ∨ i = 29) ∨ 90 ≤ a ∧ a ≤ 93) by omega) rfl) (TP_f (fun a i z => F_n F21 (show ¬ (6 ≤ a ∧ a ≤ 10) by omega) rfl) jTP))
  have j_65 := (W9_f (fun a i z => F_n F38 (show ¬ (a = 77 ∧ (i = 2 ∨ i = 29) ∨ 90 ≤ a ∧ a ≤ 93) by omega) rfl) (W9_f (fun a i z => F_n F21 (show ¬ (6 ≤ a ∧ a ≤ 10) by omega) rfl) jW9))
  have j_66 := (NE_r F38.2.1 (NE_r F21.2.1 jNE))
  exact h M41 (u5) (u6) ⟨⟨⟨hG39, ⟨j_56, j_57, j_58, j_59⟩, ⟨j_60, j_61, p_40, j_62, j_63⟩, by omega, by omega⟩, j_64, j_65⟩, j_66, by omega⟩ (by omega) (by omega)
set_option maxRecDepth 4000 in
set_option maxHeartbeats 0 in
theorem LW_11 {X : mm_X} {d L : Nat} {M : mm_M} {Q : Option Value → mm_M → Prop} {i : Int32} {u5 u6 : Value} (hX : g_X X) (hW : g_W X) (hL : (X 0).1 = L) (h3 : L ≤ 3072) (hd : 40 ≤ d) (hi : 0 ≤ i.toInt) (hi2 : i.toInt + 6 ≤ (L : Int)) (H : LI4 M) (h : ∀ (M1 : mm_M) (v5 v6 : Value), LI4 M1 → M1.1.2.1 ≤ M.1.2.1 + 1 → M1.1.2.2.1 ≤ M.1.2.2.1 + 6 → mm_T X d 0 1313 [.ref mm_ext, .ref 0, .ref 77, .ref 125, .int i, v5, v6] [] M1 Q) : mm_T X d 0 562 [.ref mm_ext, .ref 0, .ref 77, .ref 125, .int i, u5, u6] [] M Q := by
  obtain ⟨⟨⟨hG, ⟨jPI, jNI, jQI, jPQE⟩, ⟨jFA, jWC, jNJ, jPS, jKQ⟩, jJ, jE⟩, jTP, jW9⟩, jNE, jCC⟩ := H
  have b_1 := g_b hG (a := 77) (i := 7) (lo := 0) (hi := 500) rfl rfl
  have b_2 := g_b hG (a := 77) (i := 6) (lo := 0) (hi := 500) rfl rfl
  have b_3 := g_b hG (a := 1) (i := 1) (lo := 0) (hi := 500) rfl rfl
  have b_4 := g_b hG (a := 77) (i := 1) (lo := 0) (hi := 500) rfl rfl
  have b_5 := g_b hG (a := 0) (i := 12) (lo := 0) (hi := 30) rfl rfl
  have b_6 := g_b hG (a := 77) (i := 28) (lo := 0) (hi := 30) rfl rfl
  refine to_an (pc := 562) rw_0_562 rfl ?_
  refine to_an (pc := 563) rw_0_563 rfl ?_
  refine to_i (pc := 564) rw_0_564 rfl ?_
  refine to_c (pc := 566) rw_0_566 (x := (1 : Int32)) rfl rfl ?_
  refine s_add (pc := 567) rw_0_567 (A := i.toInt) (B := 1) rfl rfl (by omega) (fun v7 e8 => ?_)
  refine s_x0 (pc := 568) rw_0_568 hL (A := v7.toInt) rfl (by omega) (by omega) (fun v9 e10 => ?_)
  refine to_an (pc := 569) rw_0_569 rfl ?_
  refine to_i (pc := 570) rw_0_570 rfl ?_
  refine to_c (pc := 572) rw_0_572 (x := (2 : Int32)) rfl rfl ?_
  refine s_add (pc := 573) rw_0_573 (A := i.toInt) (B := 2) rfl rfl (by omega) (fun v11 e12 => ?_)
  refine s_x0 (pc := 574) rw_0_574 hL (A := v11.toInt) rfl (by omega) (by omega) (fun v13 e14 => ?_)
  refine s_v (pc := 575) rw_0_575 (by omega) (ls0 := [.ref 0, .int v9, .int v13]) rfl (Nat.le_of_ble_eq_true rfl) (Nat.le_of_ble_eq_true rfl) rfl (to_rc rfl rfl rfl (g_o hG rfl)) rfl ?_
  obtain ⟨pz15, pzz15, qz15, qzz15, hpz15, hpzz15, hqz15, hqzz15, hpqz15⟩ := id jPQE
  refine C_120 hX (by omega) hG hpz15 hpzz15 hqz15 hqzz15 hpqz15 jNI jPI jQI (c := v9) (w := v13) (p := pz15) (pz := pzz15) (q := qz15) (qz := qzz15) (fun r16 M22 hG18 F17 p_19 p_20 p_21 => ?_)
  have n_23 : M22.1.2.1 = M.1.2.1 ∧ M22.1.2.2.1 = M.1.2.2.1 := by rw [F17.1]; exact ⟨rfl, rfl⟩
  refine to_popi (pc := 578) rw_0_578 ?_
  refine to_an (pc := 579) rw_0_579 rfl ?_
  refine to_an (pc := 580) rw_0_580 rfl ?_
  refine to_i (pc := 581) rw_0_581 rfl ?_
  refine to_c (pc := 583) rw_0_583 (x := (1 : Int32)) rfl rfl ?_
  refine s_addk (pc := 584) rw_0_584 (A := i.toInt) (B := 1) rfl rfl (by omega) (v := v7) e8 ?_
  refine s_x0k (pc := 585) rw_0_585 hL (A := v7.toInt) rfl (by omega) (by omega) (v := v9) e10 ?_
  refine to_an (pc := 586) rw_0_586 rfl ?_
  refine to_i (pc := 587) rw_0_587 rfl ?_
  refine to_c (pc := 589) rw_0_589 (x := (2 : Int32)) rfl rfl ?_
  refine s_addk (pc := 590) rw_0_590 (A := i.toInt) (B := 2) rfl rfl (by omega) (v := v11) e12 ?_
  refine s_x0k (pc := 591) rw_0_591 hL (A := v11.toInt) rfl (by omega) (by omega) (v := v13) e14 ?_
  refine s_v (pc := 592) rw_0_592 (by omega) (ls0 := [.ref 77, .int v9, .int v13]) rfl (Nat.le_of_ble_eq_true rfl) (Nat.le_of_ble_eq_true rfl) rfl (to_rc rfl rfl rfl (g_o hG18 rfl)) rfl ?_
  have j_29 := (NJ_f (fun a i z => F_n F17 (show ¬ (6 ≤ a ∧ a ≤ 10) by omega) rfl) jNJ)
  refine C_195 hX (by omega) hG18 j_29 (c := v9) (w := v13) (fun r30 M34 hG32 F31 p_33 => ?_)
  have n_35 : M34.1.2.1 = M22.1.2.1 ∧ M34.1.2.2.1 = M22.1.2.2.1 := by rw [F31.1]; exact ⟨rfl, rfl⟩
  refine to_popi (pc := 595) rw_0_595 ?_
  refine to_go (pc := 596) rw_0_596 ?_
  have c_37 : M34.2.1 77 7 = (M.2.1 77 7) := (F_n F31 (show ¬ (77 = 77 ∧ (7 = 2 ∨ 7 = 29) ∨ 90 ≤ 77 ∧ 77 ≤ 93) by omega) (F_n F17 (show ¬ (6 ≤ 77 ∧ 77 ≤ 10) by omega) rfl))
  have t_38 : (M34.2.1 77 7).toInt = (M.2.1 77 7).toInt := congrArg Int32.toInt c_37
  have c_39 : M34.2.1 77 6 = (M.2.1 77 6) := (F_n F31 (show ¬ (77 = 77 ∧ (6 = 2 ∨ 6 = 29) ∨ 90 ≤ 77 ∧ 77 ≤ 93) by omega) (F_n F17 (show ¬ (6 ≤ 77 ∧ 77 ≤ 10) by omega) rfl))
  have t_40 : (M34.2.1 77 6).toInt = (M.2.1 77 6).toInt := congrArg Int32.toInt c_39
  have c_41 : M34.2.1 1 1 = (M.2.1 1 1) := (F_n F31 (show ¬ (1 = 77 ∧ (1 = 2 ∨ 1 = 29) ∨ 90 ≤ 1 ∧ 1 ≤ 93) by omega) (F_n F17 (show ¬ (6 ≤ 1 ∧ 1 ≤ 10) by omega) rfl))
  have t_42 : (M34.2.1 1 1).toInt = (M.2.1 1 1).toInt := congrArg Int32.toInt c_41
  have c_43 : M34.2.1 77 1 = (M.2.1 77 1) := (F_n F31 (show ¬ (77 = 77 ∧ (1 = 2 ∨ 1 = 29) ∨ 90 ≤ 77 ∧ 77 ≤ 93) by omega) (F_n F17 (show ¬ (6 ≤ 77 ∧ 77 ≤ 10) by omega) rfl))
  have t_44 : (M34.2.1 77 1).toInt = (M.2.1 77 1).toInt := congrArg Int32.toInt c_43
  have c_45 : M34.2.1 0 12 = (M.2.1 0 12) := (F_n F31 (show ¬ (0 = 77 ∧ (12 = 2 ∨ 12 = 29) ∨ 90 ≤ 0 ∧ 0 ≤ 93) by omega) (F_n F17 (show ¬ (6 ≤ 0 ∧ 0 ≤ 10) by omega) rfl))
  have t_46 : (M34.2.1 0 12).toInt = (M.2.1 0 12).toInt := congrArg Int32.toInt c_45
  have c_47 : M34.2.1 77 28 = (M.2.1 77 28) := (F_n F31 (show ¬ (77 = 77 ∧ (28 = 2 ∨ 28 = 29) ∨ 90 ≤ 77 ∧ 77 ≤ 93) by omega) (F_n F17 (show ¬ (6 ≤ 77 ∧ 77 ≤ 10) by omega) rfl))
  have t_48 : (M34.2.1 77 28).toInt = (M.2.1 77 28).toInt := congrArg Int32.toInt c_47
  have j_49 := (PI_f (fun a i z => F_n F31 (show ¬ (a = 77 ∧ (i = 2 ∨ i = 29) ∨ 90 ≤ a ∧ a ≤ 93) by omega) rfl) p_20)
  have j_50 := (NI_f (fun a i z => F_n F31 (show ¬ (a = 77 ∧ (i = 2 ∨ i = 29) ∨ 90 ≤ a ∧ a ≤ 93) by omega) rfl) p_19)
  have j_51 := (QI_f (fun a i z => F_n F31 (show ¬ (a = 77 ∧ (i = 2 ∨ i = 29) ∨ 90 ≤ a ∧ a ≤ 93) by omega) rfl) p_21)
  have j_52 := (PQE_r F31.2.1 (PQE_r F17.2.1 jPQE))
  have j_53 := (FA_f (fun a i z => F_n F31 (show ¬ (a = 77 ∧ (i = 2 ∨ i = 29) ∨ 90 ≤ a ∧ a ≤ 93) by omega) rfl) (FA_f (fun a i z => F_n F17 (show ¬ (6 ≤ a ∧ a ≤ 10) by omega) rfl) jFA))
  have j_54 := (WC_f (fun a i z => F_n F31 (show ¬ (a = 77 ∧ (i = 2 ∨ i = 29) ∨ 90 ≤ a ∧ a ≤ 93) by omega) rfl) (WC_f (fun a i z => F_n F17 (show ¬ (6 ≤ a ∧ a ≤ 10) by omega) rfl) jWC))
  have j_55 := (PS_f (fun a i z => F_n F31 (show ¬ (a = 77 ∧ (i = 2 ∨ i = 29) ∨ 90 ≤ a ∧ a ≤ 93) by omega) rfl) (PS_f (fun a i z => F_n F17 (show ¬ (6 ≤ a ∧ a ≤ 10) by omega) rfl) jPS))
  have j_56 := (KQ_f (fun a i z => F_n F31 (show ¬ (a = 77 ∧ (i = 2 ∨ i = 29) ∨ 90 ≤ a ∧ a ≤ 93) by omega) rfl) (KQ_f (fun a i z => F_n F17 (show ¬ (6 ≤ a ∧ a ≤ 10) by omega) rfl) jKQ))
  have j_57 := (TP_f (fun a i z => F_n F31 (show ¬ (a = 77 ∧ (i = 2 ∨ i = 29) ∨ 90 ≤ a ∧ a ≤ 93) by omega) rfl) (TP_f (fun a i z => F_n F17 (show ¬ (6 ≤ a ∧ a ≤ 10) by omega) rfl) jTP))
  have j_58 := (W9_f (fun a i z => F_n F31 (show ¬ (a = 77 ∧ (i = 2 ∨ i = 29) ∨ 90 ≤ a ∧ a ≤ 93) by omega) rfl) (W9_f (fun a i z => F_n F17 (show ¬ (6 ≤ a ∧ a ≤ 10) by omega) rfl) jW9))
  have j_59 := (NE_r F31.2.1 (NE_r F17.2.1 jNE))
  exact h M34 (u5) (u6) ⟨⟨⟨hG32, ⟨j_49, j_50, j_51, j_52⟩, ⟨j_53, j_54, p_33, j_55, j_56⟩, by omega, by omega⟩, j_57, j_58⟩, j_59, by omega⟩ (by omega) (by omega)
set_option maxRecDepth 4000 in
set_option maxHeartbeats 0 in
theorem LW_12 {X : mm_X} {d L : Nat} {M : mm_M} {Q : Option Value → mm_M → Prop} {i : Int32} {u5 u6 : Value} (hX : g_X X) (hW : g_W X) (hL : (X 0).1 = L) (h3 : L ≤ 3072) (hd : 40 ≤ d) (hi : 0 ≤ i.toInt) (hi2 : i.toInt + 6 ≤ (L : Int)) (H : LI4 M) (h : ∀ (M1 : mm_M) (v5 v6 : Value), LI4 M1 → M1.1.2.1 ≤ M.1.2.1 + 1 → M1.1.2.2.1 ≤ M.1.2.2.1 + 6 → mm_T X d 0 1313 [.ref mm_ext, .ref 0, .ref 77, .ref 125, .int i, v5, v6] [] M1 Q) : mm_T X d 0 599 [.ref mm_ext, .ref 0, .ref 77, .ref 125, .int i, u5, u6] [] M Q := by
  obtain ⟨⟨⟨hG, ⟨jPI, jNI, jQI, jPQE⟩, ⟨jFA, jWC, jNJ, jPS, jKQ⟩, jJ, jE⟩, jTP, jW9⟩, jNE, jCC⟩ := H
  have b_1 := g_b hG (a := 77) (i := 7) (lo := 0) (hi := 500) rfl rfl
  have b_2 := g_b hG (a := 77) (i := 6) (lo := 0) (hi := 500) rfl rfl
  have b_3 := g_b hG (a := 1) (i := 1) (lo := 0) (hi := 500) rfl rfl
  have b_4 := g_b hG (a := 77) (i := 1) (lo := 0) (hi := 500) rfl rfl
  have b_5 := g_b hG (a := 0) (i := 12) (lo := 0) (hi := 30) rfl rfl
  have b_6 := g_b hG (a := 77) (i := 28) (lo := 0) (hi := 30) rfl rfl
  refine to_an (pc := 599) rw_0_599 rfl ?_
  refine to_an (pc := 600) rw_0_600 rfl ?_
  refine to_i (pc := 601) rw_0_601 rfl ?_
  refine to_c (pc := 603) rw_0_603 (x := (1 : Int32)) rfl rfl ?_
  refine s_add (pc := 604) rw_0_604 (A := i.toInt) (B := 1) rfl rfl (by omega) (fun v7 e8 => ?_)
  refine s_x0 (pc := 605) rw_0_605 hL (A := v7.toInt) rfl (by omega) (by omega) (fun v9 e10 => ?_)
  refine to_an (pc := 606) rw_0_606 rfl ?_
  refine to_i (pc := 607) rw_0_607 rfl ?_
  refine to_c (pc := 609) rw_0_609 (x := (2 : Int32)) rfl rfl ?_
  refine s_add (pc := 610) rw_0_610 (A := i.toInt) (B := 2) rfl rfl (by omega) (fun v11 e12 => ?_)
  refine s_x0 (pc := 611) rw_0_611 hL (A := v11.toInt) rfl (by omega) (by omega) (fun v13 e14 => ?_)
  refine to_an (pc := 612) rw_0_612 rfl ?_
  refine to_i (pc := 613) rw_0_613 rfl ?_
  refine to_c (pc := 615) rw_0_615 (x := (3 : Int32)) rfl rfl ?_
  refine s_add (pc := 616) rw_0_616 (A := i.toInt) (B := 3) rfl rfl (by omega) (fun v15 e16 => ?_)
  refine s_x0 (pc := 617) rw_0_617 hL (A := v15.toInt) rfl (by omega) (by omega) (fun v17 e18 => ?_)
  refine b_ieq (pc := 618) rw_0_618 (A := v17.toInt) rfl (fun h19 => ?_) (fun h19 => ?_)
  · refine to_c (pc := 625) rw_0_625 (x := (0 : Int32)) rfl rfl ?_
    refine s_v (pc := 626) rw_0_626 (by omega) (ls0 := [.ref 0, .int v9, .int v13, .int (0 : Int32)]) rfl (Nat.le_of_ble_eq_true rfl) (Nat.le_of_ble_eq_true rfl) rfl (to_rc rfl rfl rfl (g_o hG rfl)) rfl ?_
    have k_20 : (0 : Int32).toInt = 0 := rfl
    obtain ⟨pz21, pzz21, qz21, qzz21, hpz21, hpzz21, hqz21, hqzz21, hpqz21⟩ := id jPQE
    refine C_121 hX (by omega) hG hpz21 hpzz21 hqz21 hqzz21 hpqz21 (by omega) (by omega) jNI jPI jQI (c := v9) (e := v13) (m := (0 : Int32)) (p := pz21) (pz := pzz21) (q := qz21) (qz := qzz21) (fun r22 M28 hG24 F23 p_25 p_26 p_27 => ?_)
    have n_29 : M28.1.2.1 = M.1.2.1 ∧ M28.1.2.2.1 = M.1.2.2.1 := by rw [F23.1]; exact ⟨rfl, rfl⟩
    refine to_popi (pc := 629) rw_0_629 ?_
    refine to_an (pc := 630) rw_0_630 rfl ?_
    refine to_an (pc := 631) rw_0_631 rfl ?_
    refine to_i (pc := 632) rw_0_632 rfl ?_
    refine to_c (pc := 634) rw_0_634 (x := (1 : Int32)) rfl rfl ?_
    refine s_addk (pc := 635) rw_0_635 (A := i.toInt) (B := 1) rfl rfl (by omega) (v := v7) e8 ?_
    refine s_x0k (pc := 636) rw_0_636 hL (A := v7.toInt) rfl (by omega) (by omega) (v := v9) e10 ?_
    refine to_an (pc := 637) rw_0_637 rfl ?_
    refine to_i (pc := 638) rw_0_638 rfl ?_
    refine to_c (pc := 640) rw_0_640 (x := (2 : Int32)) rfl rfl ?_
    refine s_addk (pc := 641) rw_0_641 (A := i.toInt) (B := 2) rfl rfl (by omega) (v := v11) e12 ?_
    refine s_x0k (pc := 642) rw_0_642 hL (A := v11.toInt) rfl (by omega) (by omega) (v := v13) e14 ?_
    refine to_an (pc := 643) rw_0_643 rfl ?_
    refine to_i (pc := 644) rw_0_644 rfl ?_
    refine to_c (pc := 646) rw_0_646 (x := (3 : Int32)) rfl rfl ?_
    refine s_addk (pc := 647) rw_0_647 (A := i.toInt) (B := 3) rfl rfl (by omega) (v := v15) e16 ?_
    refine s_x0k (pc := 648) rw_0_648 hL (A := v15.toInt) rfl (by omega) (by omega) (v := v17) e18 ?_
    refine b_ieq_t (pc := 649) rw_0_649 (A := v17.toInt) rfl (by omega) ?_
    refine to_c (pc := 656) rw_0_656 (x := (0 : Int32)) rfl rfl ?_
    refine s_v (pc := 657) rw_0_657 (by omega) (ls0 := [.ref 77, .int v9, .int v13, .int (0 : Int32)]) rfl (Nat.le_of_ble_eq_true rfl) (Nat.le_of_ble_eq_true rfl) rfl (to_rc rfl rfl rfl (g_o hG24 rfl)) rfl ?_
    have j_37 := (NJ_f (fun a i z => F_n F23 (show ¬ (6 ≤ a ∧ a ≤ 10) by omega) rfl) jNJ)
    refine C_196 hX (by omega) hG24 (by omega) (by omega) j_37 (c := v9) (e := v13) (m := (0 : Int32)) (fun r38 M42 hG40 F39 p_41 => ?_)
    have n_43 : M42.1.2.1 = M28.1.2.1 ∧ M42.1.2.2.1 = M28.1.2.2.1 := by rw [F39.1]; exact ⟨rfl, rfl⟩
    refine to_popi (pc := 660) rw_0_660 ?_
    refine to_go (pc := 661) rw_0_661 ?_
    have c_45 : M42.2.1 77 7 = (M.2.1 77 7) := (F_n F39 (show ¬ (77 = 77 ∧ (7 = 2 ∨ 7 = 29) ∨ 90 ≤ 77 ∧ 77 ≤ 93) by omega) (F_n F23 (show ¬ (6 ≤ 77 ∧ 77 ≤ 10) by omega) rfl))
    have t_46 : (M42.2.1 77 7).toInt = (M.2.1 77 7).toInt := congrArg Int32.toInt c_45
    have c_47 : M42.2.1 77 6 = (M.2.1 77 6) := (F_n F39 (show ¬ (77 = 77 ∧ (6 = 2 ∨ 6 = 29) ∨ 90 ≤ 77 ∧ 77 ≤ 93) by omega) (F_n F23 (show ¬ (6 ≤ 77 ∧ 77 ≤ 10) by omega) rfl))
    have t_48 : (M42.2.1 77 6).toInt = (M.2.1 77 6).toInt := congrArg Int32.toInt c_47
    have c_49 : M42.2.1 1 1 = (M.2.1 1 1) := (F_n F39 (show ¬ (1 = 77 ∧ (1 = 2 ∨ 1 = 29) ∨ 90 ≤ 1 ∧ 1 ≤ 93) by omega) (F_n F23 (show ¬ (6 ≤ 1 ∧ 1 ≤ 10) by omega) rfl))
    have t_50 : (M42.2.1 1 1).toInt = (M.2.1 1 1).toInt := congrArg Int32.toInt c_49
    have c_51 : M42.2.1 77 1 = (M.2.1 77 1) := (F_n F39 (show ¬ (77 = 77 ∧ (1 = 2 ∨ 1 = 29) ∨ 90 ≤ 77 ∧ 77 ≤ 93) by omega) (F_n F23 (show ¬ (6 ≤ 77 ∧ 77 ≤ 10) by omega) rfl))
    have t_52 : (M42.2.1 77 1).toInt = (M.2.1 77 1).toInt := congrArg Int32.toInt c_51
    have c_53 : M42.2.1 0 12 = (M.2.1 0 12) := (F_n F39 (show ¬ (0 = 77 ∧ (12 = 2 ∨ 12 = 29) ∨ 90 ≤ 0 ∧ 0 ≤ 93) by omega) (F_n F23 (show ¬ (6 ≤ 0 ∧ 0 ≤ 10) by omega) rfl))
    have t_54 : (M42.2.1 0 12).toInt = (M.2.1 0 12).toInt := congrArg Int32.toInt c_53
    have c_55 : M42.2.1 77 28 = (M.2.1 77 28) := (F_n F39 (show ¬ (77 = 77 ∧ (28 = 2 ∨ 28 = 29) ∨ 90 ≤ 77 ∧ 77 ≤ 93) by omega) (F_n F23 (show ¬ (6 ≤ 77 ∧ 77 ≤ 10) by omega) rfl))
    have t_56 : (M42.2.1 77 28).toInt = (M.2.1 77 28).toInt := congrArg Int32.toInt c_55
    have j_57 := (PI_f (fun a i z => F_n F39 (show ¬ (a = 77 ∧ (i = 2 ∨ i = 29) ∨ 90 ≤ a ∧ a ≤ 93) by omega) rfl) p_26)
    have j_58 := (NI_f (fun a i z => F_n F39 (show ¬ (a = 77 ∧ (i = 2 ∨ i = 29) ∨ 90 ≤ a ∧ a ≤ 93) by omega) rfl) p_25)
    have j_59 := (QI_f (fun a i z => F_n F39 (show ¬ (a = 77 ∧ (i = 2 ∨ i = 29) ∨ 90 ≤ a ∧ a ≤ 93) by omega) rfl) p_27)
    have j_60 := (PQE_r F39.2.1 (PQE_r F23.2.1 jPQE))
    have j_61 := (FA_f (fun a i z => F_n F39 (show ¬ (a = 77 ∧ (i = 2 ∨ i = 29) ∨ 90 ≤ a ∧ a ≤ 93) by omega) rfl) (FA_f (fun a i z => F_n F23 (show ¬ (6 ≤ a ∧ a ≤ 10) by omega) rfl) jFA))
    have j_62 := (WC_f (fun a i z => F_n F39 (show ¬ (a = 77 ∧ (i = 2 ∨ i = 29) ∨ 90 ≤ a ∧ a ≤ 93) by omega) rfl) (WC_f (fun a i z => F_n F23 (show ¬ (6 ≤ a ∧ a ≤ 10) by omega) rfl) jWC))
    have j_63 := (PS_f (fun a i z => F_n F39 (show ¬ (a = 77 ∧ (i = 2 ∨ i = 29) ∨ 90 ≤ a ∧ a ≤ 93) by omega) rfl) (PS_f (fun a i z => F_n F23 (show ¬ (6 ≤ a ∧ a ≤ 10) by omega) rfl) jPS))
    have j_64 := (KQ_f (fun a i z => F_n F39 (show ¬ (a = 77 ∧ (i = 2 ∨ i = 29) ∨ 90 ≤ a ∧ a ≤ 93) by omega) rfl) (KQ_f (fun a i z => F_n F23 (show ¬ (6 ≤ a ∧ a ≤ 10) by omega) rfl) jKQ))
    have j_65 := (TP_f (fun a i z => F_n F39 (show ¬ (a = 77 ∧ (i = 2 ∨ i = 29) ∨ 90 ≤ a ∧ a ≤ 93) by omega) rfl) (TP_f (fun a i z => F_n F23 (show ¬ (6 ≤ a ∧ a ≤ 10) by omega) rfl) jTP))
    have j_66 := (W9_f (fun a i z => F_n F39 (show ¬ (a = 77 ∧ (i = 2 ∨ i = 29) ∨ 90 ≤ a ∧ a ≤ 93) by omega) rfl) (W9_f (fun a i z => F_n F23 (show ¬ (6 ≤ a ∧ a ≤ 10) by omega) rfl) jW9))
    have j_67 := (NE_r F39.2.1 (NE_r F23.2.1 jNE))
    exact h M42 (u5) (u6) ⟨⟨⟨hG40, ⟨j_57, j_58, j_59, j_60⟩, ⟨j_61, j_62, p_41, j_63, j_64⟩, by omega, by omega⟩, j_65, j_66⟩, j_67, by omega⟩ (by omega) (by omega)
  · refine to_c (pc := 621) rw_0_621 (x := (1 : Int32)) rfl rfl ?_
    refine to_go (pc := 622) rw_0_622 ?_
    refine s_v (pc := 626) rw_0_626 (by omega) (ls0 := [.ref 0, .int v9, .int v13, .int (1 : Int32)]) rfl (Nat.le_of_ble_eq_true rfl) (Nat.le_of_ble_eq_true rfl) rfl (to_rc rfl rfl rfl (g_o hG rfl)) rfl ?_
    have k_68 : (1 : Int32).toInt = 1 := rfl
    obtain ⟨pz69, pzz69, qz69, qzz69, hpz69, hpzz69, hqz69, hqzz69, hpqz69⟩ := id jPQE
    refine C_121 hX (by omega) hG hpz69 hpzz69 hqz69 hqzz69 hpqz69 (by omega) (by omega) jNI jPI jQI (c := v9) (e := v13) (m := (1 : Int32)) (p := pz69) (pz := pzz69) (q := qz69) (qz := qzz69) (fun r70 M76 hG72 F71 p_73 p_74 p_75 => ?_)
    have n_77 : M76.1.2.1 = M.1.2.1 ∧ M76.1.2.2.1 = M.1.2.2.1 := by rw [F71.1]; exact ⟨rfl, rfl⟩
    refine to_popi (pc := 629) rw_0_629 ?_
    refine to_an (pc := 630) rw_0_630 rfl ?_
    refine to_an (pc := 631) rw_0_631 rfl ?_
    refine to_i (pc := 632) rw_0_632 rfl ?_
    refine to_c (pc := 634) rw_0_634 (x := (1 : Int32)) rfl rfl ?_
    refine s_addk (pc := 635) rw_0_635 (A := i.toInt) (B := 1) rfl rfl (by omega) (v := v7) e8 ?_
    refine s_x0k (pc := 636) rw_0_636 hL (A := v7.toInt) rfl (by omega) (by omega) (v := v9) e10 ?_
    refine to_an (pc := 637) rw_0_637 rfl ?_
    refine to_i (pc := 638) rw_0_638 rfl ?_
    refine to_c (pc := 640) rw_0_640 (x := (2 : Int32)) rfl rfl ?_
    refine s_addk (pc := 641) rw_0_641 (A := i.toInt) (B := 2) rfl rfl (by omega) (v := v11) e12 ?_
    refine s_x0k (pc := 642) rw_0_642 hL (A := v11.toInt) rfl (by omega) (by omega) (v := v13) e14 ?_
    refine to_an (pc := 643) rw_0_643 rfl ?_
    refine to_i (pc := 644) rw_0_644 rfl ?_
    refine to_c (pc := 646) rw_0_646 (x := (3 : Int32)) rfl rfl ?_
    refine s_addk (pc := 647) rw_0_647 (A := i.toInt) (B := 3) rfl rfl (by omega) (v := v15) e16 ?_
    refine s_x0k (pc := 648) rw_0_648 hL (A := v15.toInt) rfl (by omega) (by omega) (v := v17) e18 ?_
    refine b_ieq (pc := 649) rw_0_649 (A := v17.toInt) rfl (fun h85 => ?_) (fun h85 => ?_)
    · refine to_c (pc := 656) rw_0_656 (x := (0 : Int32)) rfl rfl ?_
      refine s_v (pc := 657) rw_0_657 (by omega) (ls0 := [.ref 77, .int v9, .int v13, .int (0 : Int32)]) rfl (Nat.le_of_ble_eq_true rfl) (Nat.le_of_ble_eq_true rfl) rfl (to_rc rfl rfl rfl (g_o hG72 rfl)) rfl ?_
      have k_86 : (0 : Int32).toInt = 0 := rfl
      have j_87 := (NJ_f (fun a i z => F_n F71 (show ¬ (6 ≤ a ∧ a ≤ 10) by omega) rfl) jNJ)
      refine C_196 hX (by omega) hG72 (by omega) (by omega) j_87 (c := v9) (e := v13) (m := (0 : Int32)) (fun r88 M92 hG90 F89 p_91 => ?_)
      have n_93 : M92.1.2.1 = M76.1.2.1 ∧ M92.1.2.2.1 = M76.1.2.2.1 := by rw [F89.1]; exact ⟨rfl, rfl⟩
      refine to_popi (pc := 660) rw_0_660 ?_
      refine to_go (pc := 661) rw_0_661 ?_
      have c_95 : M92.2.1 77 7 = (M.2.1 77 7) := (F_n F89 (show ¬ (77 = 77 ∧ (7 = 2 ∨ 7 = 29) ∨ 90 ≤ 77 ∧ 77 ≤ 93) by omega) (F_n F71 (show ¬ (6 ≤ 77 ∧ 77 ≤ 10) by omega) rfl))
      have t_96 : (M92.2.1 77 7).toInt = (M.2.1 77 7).toInt := congrArg Int32.toInt c_95
      have c_97 : M92.2.1 77 6 = (M.2.1 77 6) := (F_n F89 (show ¬ (77 = 77 ∧ (6 = 2 ∨ 6 = 29) ∨ 90 ≤ 77 ∧ 77 ≤ 93) by omega) (F_n F71 (show ¬ (6 ≤ 77 ∧ 77 ≤ 10) by omega) rfl))
      have t_98 : (M92.2.1 77 6).toInt = (M.2.1 77 6).toInt := congrArg Int32.toInt c_97
      have c_99 : M92.2.1 1 1 = (M.2.1 1 1) := (F_n F89 (show ¬ (1 = 77 ∧ (1 = 2 ∨ 1 = 29) ∨ 90 ≤ 1 ∧ 1 ≤ 93) by omega) (F_n F71 (show ¬ (6 ≤ 1 ∧ 1 ≤ 10) by omega) rfl))
      have t_100 : (M92.2.1 1 1).toInt = (M.2.1 1 1).toInt := congrArg Int32.toInt c_99
      have c_101 : M92.2.1 77 1 = (M.2.1 77 1) := (F_n F89 (show ¬ (77 = 77 ∧ (1 = 2 ∨ 1 = 29) ∨ 90 ≤ 77 ∧ 77 ≤ 93) by omega) (F_n F71 (show ¬ (6 ≤ 77 ∧ 77 ≤ 10) by omega) rfl))
      have t_102 : (M92.2.1 77 1).toInt = (M.2.1 77 1).toInt := congrArg Int32.toInt c_101
      have c_103 : M92.2.1 0 12 = (M.2.1 0 12) := (F_n F89 (show ¬ (0 = 77 ∧ (12 = 2 ∨ 12 = 29) ∨ 90 ≤ 0 ∧ 0 ≤ 93) by omega) (F_n F71 (show ¬ (6 ≤ 0 ∧ 0 ≤ 10) by omega) rfl))
      have t_104 : (M92.2.1 0 12).toInt = (M.2.1 0 12).toInt := congrArg Int32.toInt c_103
      have c_105 : M92.2.1 77 28 = (M.2.1 77 28) := (F_n F89 (show ¬ (77 = 77 ∧ (28 = 2 ∨ 28 = 29) ∨ 90 ≤ 77 ∧ 77 ≤ 93) by omega) (F_n F71 (show ¬ (6 ≤ 77 ∧ 77 ≤ 10) by omega) rfl))
      have t_106 : (M92.2.1 77 28).toInt = (M.2.1 77 28).toInt := congrArg Int32.toInt c_105
      have j_107 := (PI_f (fun a i z => F_n F89 (show ¬ (a = 77 ∧ (i = 2 ∨ i = 29) ∨ 90 ≤ a ∧ a ≤ 93) by omega) rfl) p_74)
      have j_108 := (NI_f (fun a i z => F_n F89 (show ¬ (a = 77 ∧ (i = 2 ∨ i = 29) ∨ 90 ≤ a ∧ a ≤ 93) by omega) rfl) p_73)
      have j_109 := (QI_f (fun a i z => F_n F89 (show ¬ (a = 77 ∧ (i = 2 ∨ i = 29) ∨ 90 ≤ a ∧ a ≤ 93) by omega) rfl) p_75)
      have j_110 := (PQE_r F89.2.1 (PQE_r F71.2.1 jPQE))
      have j_111 := (FA_f (fun a i z => F_n F89 (show ¬ (a = 77 ∧ (i = 2 ∨ i = 29) ∨ 90 ≤ a ∧ a ≤ 93) by omega) rfl) (FA_f (fun a i z => F_n F71 (show ¬ (6 ≤ a ∧ a ≤ 10) by omega) rfl) jFA))
      have j_112 := (WC_f (fun a i z => F_n F89 (show ¬ (a = 77 ∧ (i = 2 ∨ i = 29) ∨ 90 ≤ a ∧ a ≤ 93) by omega) rfl) (WC_f (fun a i z => F_n F71 (show ¬ (6 ≤ a ∧ a ≤ 10) by omega) rfl) jWC))
      have j_113 := (PS_f (fun a i z => F_n F89 (show ¬ (a = 77 ∧ (i = 2 ∨ i = 29) ∨ 90 ≤ a ∧ a ≤ 93) by omega) rfl) (PS_f (fun a i z => F_n F71 (show ¬ (6 ≤ a ∧ a ≤ 10) by omega) rfl) jPS))
      have j_114 := (KQ_f (fun a i z => F_n F89 (show ¬ (a = 77 ∧ (i = 2 ∨ i = 29) ∨ 90 ≤ a ∧ a ≤ 93) by omega) rfl) (KQ_f (fun a i z => F_n F71 (show ¬ (6 ≤ a ∧ a ≤ 10) by omega) rfl) jKQ))
      have j_115 := (TP_f (fun a i z => F_n F89 (show ¬ (a = 77 ∧ (i = 2 ∨ i = 29) ∨ 90 ≤ a ∧ a ≤ 93) by omega) rfl) (TP_f (fun a i z => F_n F71 (show ¬ (6 ≤ a ∧ a ≤ 10) by omega) rfl) jTP))
      have j_116 := (W9_f (fun a i z => F_n F89 (show ¬ (a = 77 ∧ (i = 2 ∨ i = 29) ∨ 90 ≤ a ∧ a ≤ 93) by omega) rfl) (W9_f (fun a i z => F_n F71 (show ¬ (6 ≤ a ∧ a ≤ 10) by omega) rfl) jW9))
      have j_117 := (NE_r F89.2.1 (NE_r F71.2.1 jNE))
      exact h M92 (u5) (u6) ⟨⟨⟨hG90, ⟨j_107, j_108, j_109, j_110⟩, ⟨j_111, j_112, p_91, j_113, j_114⟩, by omega, by omega⟩, j_115, j_116⟩, j_117, by omega⟩ (by omega) (by omega)
    · refine to_c (pc := 652) rw_0_652 (x := (1 : Int32)) rfl rfl ?_
      refine to_go (pc := 653) rw_0_653 ?_
      refine s_v (pc := 657) rw_0_657 (by omega) (ls0 := [.ref 77, .int v9, .int v13, .int (1 : Int32)]) rfl (Nat.le_of_ble_eq_true rfl) (Nat.le_of_ble_eq_true rfl) rfl (to_rc rfl rfl rfl (g_o hG72 rfl)) rfl ?_
      have j_118 := (NJ_f (fun a i z => F_n F71 (show ¬ (6 ≤ a ∧ a ≤ 10) by omega) rfl) jNJ)
      refine C_196 hX (by omega) hG72 (by omega) (by omega) j_118 (c := v9) (e := v13) (m := (1 : Int32)) (fun r119 M123 hG121 F120 p_122 => ?_)
      have n_124 : M123.1.2.1 = M76.1.2.1 ∧ M123.1.2.2.1 = M76.1.2.2.1 := by rw [F120.1]; exact ⟨rfl, rfl⟩
      refine to_popi (pc := 660) rw_0_660 ?_
      refine to_go (pc := 661) rw_0_661 ?_
      have c_126 : M123.2.1 77 7 = (M.2.1 77 7) := (F_n F120 (show ¬ (77 = 77 ∧ (7 = 2 ∨ 7 = 29) ∨ 90 ≤ 77 ∧ 77 ≤ 93) by omega) (F_n F71 (show ¬ (6 ≤ 77 ∧ 77 ≤ 10) by omega) rfl))
      have t_127 : (M123.2.1 77 7).toInt = (M.2.1 77 7).toInt := congrArg Int32.toInt c_126
      have c_128 : M123.2.1 77 6 = (M.2.1 77 6) := (F_n F120 (show ¬ (77 = 77 ∧ (6 = 2 ∨ 6 = 29) ∨ 90 ≤ 77 ∧ 77 ≤ 93) by omega) (F_n F71 (show ¬ (6 ≤ 77 ∧ 77 ≤ 10) by omega) rfl))
      have t_129 : (M123.2.1 77 6).toInt = (M.2.1 77 6).toInt := congrArg Int32.toInt c_128
      have c_130 : M123.2.1 1 1 = (M.2.1 1 1) := (F_n F120 (show ¬ (1 = 77 ∧ (1 = 2 ∨ 1 = 29) ∨ 90 ≤ 1 ∧ 1 ≤ 93) by omega) (F_n F71 (show ¬ (6 ≤ 1 ∧ 1 ≤ 10) by omega) rfl))
      have t_131 : (M123.2.1 1 1).toInt = (M.2.1 1 1).toInt := congrArg Int32.toInt c_130
      have c_132 : M123.2.1 77 1 = (M.2.1 77 1) := (F_n F120 (show ¬ (77 = 77 ∧ (1 = 2 ∨ 1 = 29) ∨ 90 ≤ 77 ∧ 77 ≤ 93) by omega) (F_n F71 (show ¬ (6 ≤ 77 ∧ 77 ≤ 10) by omega) rfl))
      have t_133 : (M123.2.1 77 1).toInt = (M.2.1 77 1).toInt := congrArg Int32.toInt c_132
      have c_134 : M123.2.1 0 12 = (M.2.1 0 12) := (F_n F120 (show ¬ (0 = 77 ∧ (12 = 2 ∨ 12 = 29) ∨ 90 ≤ 0 ∧ 0 ≤ 93) by omega) (F_n F71 (show ¬ (6 ≤ 0 ∧ 0 ≤ 10) by omega) rfl))
      have t_135 : (M123.2.1 0 12).toInt = (M.2.1 0 12).toInt := congrArg Int32.toInt c_134
      have c_136 : M123.2.1 77 28 = (M.2.1 77 28) := (F_n F120 (show ¬ (77 = 77 ∧ (28 = 2 ∨ 28 = 29) ∨ 90 ≤ 77 ∧ 77 ≤ 93) by omega) (F_n F71 (show ¬ (6 ≤ 77 ∧ 77 ≤ 10) by omega) rfl))
      have t_137 : (M123.2.1 77 28).toInt = (M.2.1 77 28).toInt := congrArg Int32.toInt c_136
      have j_138 := (PI_f (fun a i z => F_n F120 (show ¬ (a = 77 ∧ (i = 2 ∨ i = 29) ∨ 90 ≤ a ∧ a ≤ 93) by omega) rfl) p_74)
      have j_139 := (NI_f (fun a i z => F_n F120 (show ¬ (a = 77 ∧ (i = 2 ∨ i = 29) ∨ 90 ≤ a ∧ a ≤ 93) by omega) rfl) p_73)
      have j_140 := (QI_f (fun a i z => F_n F120 (show ¬ (a = 77 ∧ (i = 2 ∨ i = 29) ∨ 90 ≤ a ∧ a ≤ 93) by omega) rfl) p_75)
      have j_141 := (PQE_r F120.2.1 (PQE_r F71.2.1 jPQE))
      have j_142 := (FA_f (fun a i z => F_n F120 (show ¬ (a = 77 ∧ (i = 2 ∨ i = 29) ∨ 90 ≤ a ∧ a ≤ 93) by omega) rfl) (FA_f (fun a i z => F_n F71 (show ¬ (6 ≤ a ∧ a ≤ 10) by omega) rfl) jFA))
      have j_143 := (WC_f (fun a i z => F_n F120 (show ¬ (a = 77 ∧ (i = 2 ∨ i = 29) ∨ 90 ≤ a ∧ a ≤ 93) by omega) rfl) (WC_f (fun a i z => F_n F71 (show ¬ (6 ≤ a ∧ a ≤ 10) by omega) rfl) jWC))
      have j_144 := (PS_f (fun a i z => F_n F120 (show ¬ (a = 77 ∧ (i = 2 ∨ i = 29) ∨ 90 ≤ a ∧ a ≤ 93) by omega) rfl) (PS_f (fun a i z => F_n F71 (show ¬ (6 ≤ a ∧ a ≤ 10) by omega) rfl) jPS))
      have j_145 := (KQ_f (fun a i z => F_n F120 (show ¬ (a = 77 ∧ (i = 2 ∨ i = 29) ∨ 90 ≤ a ∧ a ≤ 93) by omega) rfl) (KQ_f (fun a i z => F_n F71 (show ¬ (6 ≤ a ∧ a ≤ 10) by omega) rfl) jKQ))
      have j_146 := (TP_f (fun a i z => F_n F120 (show ¬ (a = 77 ∧ (i = 2 ∨ i = 29) ∨ 90 ≤ a ∧ a ≤ 93) by omega) rfl) (TP_f (fun a i z => F_n F71 (show ¬ (6 ≤ a ∧ a ≤ 10) by omega) rfl) jTP))
      have j_147 := (W9_f (fun a i z => F_n F120 (show ¬ (a = 77 ∧ (i = 2 ∨ i = 29) ∨ 90 ≤ a ∧ a ≤ 93) by omega) rfl) (W9_f (fun a i z => F_n F71 (show ¬ (6 ≤ a ∧ a ≤ 10) by omega) rfl) jW9))
      have j_148 := (NE_r F120.2.1 (NE_r F71.2.1 jNE))
      exact h M123 (u5) (u6) ⟨⟨⟨hG121, ⟨j_138, j_139, j_140, j_141⟩, ⟨j_142, j_143, p_122, j_144, j_145⟩, by omega, by omega⟩, j_146, j_147⟩, j_148, by omega⟩ (by omega) (by omega)
set_option maxRecDepth 4000 in
set_option maxHeartbeats 0 in
theorem LW_13 {X : mm_X} {d L : Nat} {M : mm_M} {Q : Option Value → mm_M → Prop} {i : Int32} {u5 u6 : Value} (hX : g_X X) (hW : g_W X) (hL : (X 0).1 = L) (h3 : L ≤ 3072) (hd : 40 ≤ d) (hi : 0 ≤ i.toInt) (hi2 : i.toInt + 6 ≤ (L : Int)) (H : LI4 M) (h : ∀ (M1 : mm_M) (v5 v6 : Value), LI4 M1 → M1.1.2.1 ≤ M.1.2.1 + 1 → M1.1.2.2.1 ≤ M.1.2.2.1 + 6 → mm_T X d 0 1313 [.ref mm_ext, .ref 0, .ref 77, .ref 125, .int i, v5, v6] [] M1 Q) : mm_T X d 0 664 [.ref mm_ext, .ref 0, .ref 77, .ref 125, .int i, u5, u6] [] M Q := by
  obtain ⟨⟨⟨hG, ⟨jPI, jNI, jQI, jPQE⟩, ⟨jFA, jWC, jNJ, jPS, jKQ⟩, jJ, jE⟩, jTP, jW9⟩, jNE, jCC⟩ := H
  have b_1 := g_b hG (a := 77) (i := 7) (lo := 0) (hi := 500) rfl rfl
  have b_2 := g_b hG (a := 77) (i := 6) (lo := 0) (hi := 500) rfl rfl
  have b_3 := g_b hG (a := 1) (i := 1) (lo := 0) (hi := 500) rfl rfl
  have b_4 := g_b hG (a := 77) (i := 1) (lo := 0) (hi := 500) rfl rfl
  have b_5 := g_b hG (a := 0) (i := 12) (lo := 0) (hi := 30) rfl rfl
  have b_6 := g_b hG (a := 77) (i := 28) (lo := 0) (hi := 30) rfl rfl
  refine to_an (pc := 664) rw_0_664 rfl ?_
  refine to_an (pc := 665) rw_0_665 rfl ?_
  refine to_i (pc := 666) rw_0_666 rfl ?_
  refine to_c (pc := 668) rw_0_668 (x := (1 : Int32)) rfl rfl ?_
  refine s_add (pc := 669) rw_0_669 (A := i.toInt) (B := 1) rfl rfl (by omega) (fun v7 e8 => ?_)
  refine s_x0 (pc := 670) rw_0_670 hL (A := v7.toInt) rfl (by omega) (by omega) (fun v9 e10 => ?_)
  refine to_an (pc := 671) rw_0_671 rfl ?_
  refine to_i (pc := 672) rw_0_672 rfl ?_
  refine to_c (pc := 674) rw_0_674 (x := (2 : Int32)) rfl rfl ?_
  refine s_add (pc := 675) rw_0_675 (A := i.toInt) (B := 2) rfl rfl (by omega) (fun v11 e12 => ?_)
  refine s_x0 (pc := 676) rw_0_676 hL (A := v11.toInt) rfl (by omega) (by omega) (fun v13 e14 => ?_)
  refine s_v (pc := 677) rw_0_677 (by omega) (ls0 := [.ref 0, .int v9, .int v13]) rfl (Nat.le_of_ble_eq_true rfl) (Nat.le_of_ble_eq_true rfl) rfl (to_rc rfl rfl rfl (g_o hG rfl)) rfl ?_
  obtain ⟨pz15, pzz15, qz15, qzz15, hpz15, hpzz15, hqz15, hqzz15, hpqz15⟩ := id jPQE
  refine C_122 hX (by omega) hG hpz15 hpzz15 hqz15 hqzz15 hpqz15 jNI jPI jQI (w := v9) (b := v13) (p := pz15) (pz := pzz15) (q := qz15) (qz := qzz15) (fun r16 M22 hG18 F17 p_19 p_20 p_21 => ?_)
  have n_23 : M22.1.2.1 = M.1.2.1 ∧ M22.1.2.2.1 = M.1.2.2.1 := by rw [F17.1]; exact ⟨rfl, rfl⟩
  refine to_popi (pc := 680) rw_0_680 ?_
  refine to_an (pc := 681) rw_0_681 rfl ?_
  refine to_an (pc := 682) rw_0_682 rfl ?_
  refine to_i (pc := 683) rw_0_683 rfl ?_
  refine to_c (pc := 685) rw_0_685 (x := (1 : Int32)) rfl rfl ?_
  refine s_addk (pc := 686) rw_0_686 (A := i.toInt) (B := 1) rfl rfl (by omega) (v := v7) e8 ?_
  refine s_x0k (pc := 687) rw_0_687 hL (A := v7.toInt) rfl (by omega) (by omega) (v := v9) e10 ?_
  refine to_an (pc := 688) rw_0_688 rfl ?_
  refine to_i (pc := 689) rw_0_689 rfl ?_
  refine to_c (pc := 691) rw_0_691 (x := (2 : Int32)) rfl rfl ?_
  refine s_addk (pc := 692) rw_0_692 (A := i.toInt) (B := 2) rfl rfl (by omega) (v := v11) e12 ?_
  refine s_x0k (pc := 693) rw_0_693 hL (A := v11.toInt) rfl (by omega) (by omega) (v := v13) e14 ?_
  refine s_v (pc := 694) rw_0_694 (by omega) (ls0 := [.ref 77, .int v9, .int v13]) rfl (Nat.le_of_ble_eq_true rfl) (Nat.le_of_ble_eq_true rfl) rfl (to_rc rfl rfl rfl (g_o hG18 rfl)) rfl ?_
  have j_29 := (NJ_f (fun a i z => F_n F17 (show ¬ (6 ≤ a ∧ a ≤ 10) by omega) rfl) jNJ)
  refine C_198 hX (by omega) hG18 j_29 (w := v9) (b := v13) (fun r30 M34 hG32 F31 p_33 => ?_)
  have n_35 : M34.1.2.1 = M22.1.2.1 ∧ M34.1.2.2.1 = M22.1.2.2.1 := by rw [F31.1]; exact ⟨rfl, rfl⟩
  refine to_popi (pc := 697) rw_0_697 ?_
  refine to_go (pc := 698) rw_0_698 ?_
  have c_37 : M34.2.1 77 7 = (M.2.1 77 7) := (F_n F31 (show ¬ (77 = 77 ∧ (7 = 2 ∨ 7 = 29) ∨ 90 ≤ 77 ∧ 77 ≤ 93) by omega) (F_n F17 (show ¬ (6 ≤ 77 ∧ 77 ≤ 10) by omega) rfl))
  have t_38 : (M34.2.1 77 7).toInt = (M.2.1 77 7).toInt := congrArg Int32.toInt c_37
  have c_39 : M34.2.1 77 6 = (M.2.1 77 6) := (F_n F31 (show ¬ (77 = 77 ∧ (6 = 2 ∨ 6 = 29) ∨ 90 ≤ 77 ∧ 77 ≤ 93) by omega) (F_n F17 (show ¬ (6 ≤ 77 ∧ 77 ≤ 10) by omega) rfl))
  have t_40 : (M34.2.1 77 6).toInt = (M.2.1 77 6).toInt := congrArg Int32.toInt c_39
  have c_41 : M34.2.1 1 1 = (M.2.1 1 1) := (F_n F31 (show ¬ (1 = 77 ∧ (1 = 2 ∨ 1 = 29) ∨ 90 ≤ 1 ∧ 1 ≤ 93) by omega) (F_n F17 (show ¬ (6 ≤ 1 ∧ 1 ≤ 10) by omega) rfl))
  have t_42 : (M34.2.1 1 1).toInt = (M.2.1 1 1).toInt := congrArg Int32.toInt c_41
  have c_43 : M34.2.1 77 1 = (M.2.1 77 1) := (F_n F31 (show ¬ (77 = 77 ∧ (1 = 2 ∨ 1 = 29) ∨ 90 ≤ 77 ∧ 77 ≤ 93) by omega) (F_n F17 (show ¬ (6 ≤ 77 ∧ 77 ≤ 10) by omega) rfl))
  have t_44 : (M34.2.1 77 1).toInt = (M.2.1 77 1).toInt := congrArg Int32.toInt c_43
  have c_45 : M34.2.1 0 12 = (M.2.1 0 12) := (F_n F31 (show ¬ (0 = 77 ∧ (12 = 2 ∨ 12 = 29) ∨ 90 ≤ 0 ∧ 0 ≤ 93) by omega) (F_n F17 (show ¬ (6 ≤ 0 ∧ 0 ≤ 10) by omega) rfl))
  have t_46 : (M34.2.1 0 12).toInt = (M.2.1 0 12).toInt := congrArg Int32.toInt c_45
  have c_47 : M34.2.1 77 28 = (M.2.1 77 28) := (F_n F31 (show ¬ (77 = 77 ∧ (28 = 2 ∨ 28 = 29) ∨ 90 ≤ 77 ∧ 77 ≤ 93) by omega) (F_n F17 (show ¬ (6 ≤ 77 ∧ 77 ≤ 10) by omega) rfl))
  have t_48 : (M34.2.1 77 28).toInt = (M.2.1 77 28).toInt := congrArg Int32.toInt c_47
  have j_49 := (PI_f (fun a i z => F_n F31 (show ¬ (a = 77 ∧ (i = 2 ∨ i = 29) ∨ 90 ≤ a ∧ a ≤ 93) by omega) rfl) p_20)
  have j_50 := (NI_f (fun a i z => F_n F31 (show ¬ (a = 77 ∧ (i = 2 ∨ i = 29) ∨ 90 ≤ a ∧ a ≤ 93) by omega) rfl) p_19)
  have j_51 := (QI_f (fun a i z => F_n F31 (show ¬ (a = 77 ∧ (i = 2 ∨ i = 29) ∨ 90 ≤ a ∧ a ≤ 93) by omega) rfl) p_21)
  have j_52 := (PQE_r F31.2.1 (PQE_r F17.2.1 jPQE))
  have j_53 := (FA_f (fun a i z => F_n F31 (show ¬ (a = 77 ∧ (i = 2 ∨ i = 29) ∨ 90 ≤ a ∧ a ≤ 93) by omega) rfl) (FA_f (fun a i z => F_n F17 (show ¬ (6 ≤ a ∧ a ≤ 10) by omega) rfl) jFA))
  have j_54 := (WC_f (fun a i z => F_n F31 (show ¬ (a = 77 ∧ (i = 2 ∨ i = 29) ∨ 90 ≤ a ∧ a ≤ 93) by omega) rfl) (WC_f (fun a i z => F_n F17 (show ¬ (6 ≤ a ∧ a ≤ 10) by omega) rfl) jWC))
  have j_55 := (PS_f (fun a i z => F_n F31 (show ¬ (a = 77 ∧ (i = 2 ∨ i = 29) ∨ 90 ≤ a ∧ a ≤ 93) by omega) rfl) (PS_f (fun a i z => F_n F17 (show ¬ (6 ≤ a ∧ a ≤ 10) by omega) rfl) jPS))
  have j_56 := (KQ_f (fun a i z => F_n F31 (show ¬ (a = 77 ∧ (i = 2 ∨ i = 29) ∨ 90 ≤ a ∧ a ≤ 93) by omega) rfl) (KQ_f (fun a i z => F_n F17 (show ¬ (6 ≤ a ∧ a ≤ 10) by omega) rfl) jKQ))
  have j_57 := (TP_f (fun a i z => F_n F31 (show ¬ (a = 77 ∧ (i = 2 ∨ i = 29) ∨ 90 ≤ a ∧ a ≤ 93) by omega) rfl) (TP_f (fun a i z => F_n F17 (show ¬ (6 ≤ a ∧ a ≤ 10) by omega) rfl) jTP))
  have j_58 := (W9_f (fun a i z => F_n F31 (show ¬ (a = 77 ∧ (i = 2 ∨ i = 29) ∨ 90 ≤ a ∧ a ≤ 93) by omega) rfl) (W9_f (fun a i z => F_n F17 (show ¬ (6 ≤ a ∧ a ≤ 10) by omega) rfl) jW9))
  have j_59 := (NE_r F31.2.1 (NE_r F17.2.1 jNE))
  exact h M34 (u5) (u6) ⟨⟨⟨hG32, ⟨j_49, j_50, j_51, j_52⟩, ⟨j_53, j_54, p_33, j_55, j_56⟩, by omega, by omega⟩, j_57, j_58⟩, j_59, by omega⟩ (by omega) (by omega)
set_option maxRecDepth 4000 in
set_option maxHeartbeats 0 in
theorem LW_14 {X : mm_X} {d L : Nat} {M : mm_M} {Q : Option Value → mm_M → Prop} {i : Int32} {u5 u6 : Value} (hX : g_X X) (hW : g_W X) (hL : (X 0).1 = L) (h3 : L ≤ 3072) (hd : 40 ≤ d) (hi : 0 ≤ i.toInt) (hi2 : i.toInt + 6 ≤ (L : Int)) (H : LI4 M) (h : ∀ (M1 : mm_M) (v5 v6 : Value), LI4 M1 → M1.1.2.1 ≤ M.1.2.1 + 1 → M1.1.2.2.1 ≤ M.1.2.2.1 + 6 → mm_T X d 0 1313 [.ref mm_ext, .ref 0, .ref 77, .ref 125, .int i, v5, v6] [] M1 Q) : mm_T X d 0 701 [.ref mm_ext, .ref 0, .ref 77, .ref 125, .int i, u5, u6] [] M Q := by
  obtain ⟨⟨⟨hG, ⟨jPI, jNI, jQI, jPQE⟩, ⟨jFA, jWC, jNJ, jPS, jKQ⟩, jJ, jE⟩, jTP, jW9⟩, jNE, jCC⟩ := H
  have b_1 := g_b hG (a := 77) (i := 7) (lo := 0) (hi := 500) rfl rfl
  have b_2 := g_b hG (a := 77) (i := 6) (lo := 0) (hi := 500) rfl rfl
  have b_3 := g_b hG (a := 1) (i := 1) (lo := 0) (hi := 500) rfl rfl
  have b_4 := g_b hG (a := 77) (i := 1) (lo := 0) (hi := 500) rfl rfl
  have b_5 := g_b hG (a := 0) (i := 12) (lo := 0) (hi := 30) rfl rfl
  have b_6 := g_b hG (a := 77) (i := 28) (lo := 0) (hi := 30) rfl rfl
  refine to_an (pc := 701) rw_0_701 rfl ?_
  refine to_an (pc := 702) rw_0_702 rfl ?_
  refine to_i (pc := 703) rw_0_703 rfl ?_
  refine to_c (pc := 705) rw_0_705 (x := (1 : Int32)) rfl rfl ?_
  refine s_add (pc := 706) rw_0_706 (A := i.toInt) (B := 1) rfl rfl (by omega) (fun v7 e8 => ?_)
  refine s_x0 (pc := 707) rw_0_707 hL (A := v7.toInt) rfl (by omega) (by omega) (fun v9 e10 => ?_)
  refine s_v (pc := 708) rw_0_708 (by omega) (ls0 := [.ref 0, .int v9]) rfl (Nat.le_of_ble_eq_true rfl) (Nat.le_of_ble_eq_true rfl) rfl (to_rc rfl rfl rfl (g_o hG rfl)) rfl ?_
  obtain ⟨pz11, pzz11, qz11, qzz11, hpz11, hpzz11, hqz11, hqzz11, hpqz11⟩ := id jPQE
  refine C_123 hX (by omega) hG hpz11 hpzz11 hqz11 hqzz11 hpqz11 jNI jPI jQI (n := v9) (p := pz11) (pz := pzz11) (q := qz11) (qz := qzz11) (fun r12 M18 hG14 F13 p_15 p_16 p_17 => ?_)
  have n_19 : M18.1.2.1 = M.1.2.1 ∧ M18.1.2.2.1 = M.1.2.2.1 := by rw [F13.1]; exact ⟨rfl, rfl⟩
  refine to_popi (pc := 711) rw_0_711 ?_
  refine to_an (pc := 712) rw_0_712 rfl ?_
  refine to_an (pc := 713) rw_0_713 rfl ?_
  refine to_i (pc := 714) rw_0_714 rfl ?_
  refine to_c (pc := 716) rw_0_716 (x := (1 : Int32)) rfl rfl ?_
  refine s_addk (pc := 717) rw_0_717 (A := i.toInt) (B := 1) rfl rfl (by omega) (v := v7) e8 ?_
  refine s_x0k (pc := 718) rw_0_718 hL (A := v7.toInt) rfl (by omega) (by omega) (v := v9) e10 ?_
  refine s_v (pc := 719) rw_0_719 (by omega) (ls0 := [.ref 77, .int v9]) rfl (Nat.le_of_ble_eq_true rfl) (Nat.le_of_ble_eq_true rfl) rfl (to_rc rfl rfl rfl (g_o hG14 rfl)) rfl ?_
  have j_23 := (NJ_f (fun a i z => F_n F13 (show ¬ (6 ≤ a ∧ a ≤ 10) by omega) rfl) jNJ)
  refine C_199 hX (by omega) hG14 j_23 (n := v9) (fun r24 M28 hG26 F25 p_27 => ?_)
  have n_29 : M28.1.2.1 = M18.1.2.1 ∧ M28.1.2.2.1 = M18.1.2.2.1 := by rw [F25.1]; exact ⟨rfl, rfl⟩
  refine to_popi (pc := 722) rw_0_722 ?_
  refine to_go (pc := 723) rw_0_723 ?_
  have c_31 : M28.2.1 77 7 = (M.2.1 77 7) := (F_n F25 (show ¬ (77 = 77 ∧ (7 = 2 ∨ 7 = 29) ∨ 90 ≤ 77 ∧ 77 ≤ 93) by omega) (F_n F13 (show ¬ (6 ≤ 77 ∧ 77 ≤ 10) by omega) rfl))
  have t_32 : (M28.2.1 77 7).toInt = (M.2.1 77 7).toInt := congrArg Int32.toInt c_31
  have c_33 : M28.2.1 77 6 = (M.2.1 77 6) := (F_n F25 (show ¬ (77 = 77 ∧ (6 = 2 ∨ 6 = 29) ∨ 90 ≤ 77 ∧ 77 ≤ 93) by omega) (F_n F13 (show ¬ (6 ≤ 77 ∧ 77 ≤ 10) by omega) rfl))
  have t_34 : (M28.2.1 77 6).toInt = (M.2.1 77 6).toInt := congrArg Int32.toInt c_33
  have c_35 : M28.2.1 1 1 = (M.2.1 1 1) := (F_n F25 (show ¬ (1 = 77 ∧ (1 = 2 ∨ 1 = 29) ∨ 90 ≤ 1 ∧ 1 ≤ 93) by omega) (F_n F13 (show ¬ (6 ≤ 1 ∧ 1 ≤ 10) by omega) rfl))
  have t_36 : (M28.2.1 1 1).toInt = (M.2.1 1 1).toInt := congrArg Int32.toInt c_35
  have c_37 : M28.2.1 77 1 = (M.2.1 77 1) := (F_n F25 (show ¬ (77 = 77 ∧ (1 = 2 ∨ 1 = 29) ∨ 90 ≤ 77 ∧ 77 ≤ 93) by omega) (F_n F13 (show ¬ (6 ≤ 77 ∧ 77 ≤ 10) by omega) rfl))
  have t_38 : (M28.2.1 77 1).toInt = (M.2.1 77 1).toInt := congrArg Int32.toInt c_37
  have c_39 : M28.2.1 0 12 = (M.2.1 0 12) := (F_n F25 (show ¬ (0 = 77 ∧ (12 = 2 ∨ 12 = 29) ∨ 90 ≤ 0 ∧ 0 ≤ 93) by omega) (F_n F13 (show ¬ (6 ≤ 0 ∧ 0 ≤ 10) by omega) rfl))
  have t_40 : (M28.2.1 0 12).toInt = (M.2.1 0 12).toInt := congrArg Int32.toInt c_39
  have c_41 : M28.2.1 77 28 = (M.2.1 77 28) := (F_n F25 (show ¬ (77 = 77 ∧ (28 = 2 ∨ 28 = 29) ∨ 90 ≤ 77 ∧ 77 ≤ 93) by omega) (F_n F13 (show ¬ (6 ≤ 77 ∧ 77 ≤ 10) by omega) rfl))
  have t_42 : (M28.2.1 77 28).toInt = (M.2.1 77 28).toInt := congrArg Int32.toInt c_41
  have j_43 := (PI_f (fun a i z => F_n F25 (show ¬ (a = 77 ∧ (i = 2 ∨ i = 29) ∨ 90 ≤ a ∧ a ≤ 93) by omega) rfl) p_16)
  have j_44 := (NI_f (fun a i z => F_n F25 (show ¬ (a = 77 ∧ (i = 2 ∨ i = 29) ∨ 90 ≤ a ∧ a ≤ 93) by omega) rfl) p_15)
  have j_45 := (QI_f (fun a i z => F_n F25 (show ¬ (a = 77 ∧ (i = 2 ∨ i = 29) ∨ 90 ≤ a ∧ a ≤ 93) by omega) rfl) p_17)
  have j_46 := (PQE_r F25.2.1 (PQE_r F13.2.1 jPQE))
  have j_47 := (FA_f (fun a i z => F_n F25 (show ¬ (a = 77 ∧ (i = 2 ∨ i = 29) ∨ 90 ≤ a ∧ a ≤ 93) by omega) rfl) (FA_f (fun a i z => F_n F13 (show ¬ (6 ≤ a ∧ a ≤ 10) by omega) rfl) jFA))
  have j_48 := (WC_f (fun a i z => F_n F25 (show ¬ (a = 77 ∧ (i = 2 ∨ i = 29) ∨ 90 ≤ a ∧ a ≤ 93) by omega) rfl) (WC_f (fun a i z => F_n F13 (show ¬ (6 ≤ a ∧ a ≤ 10) by omega) rfl) jWC))
  have j_49 := (PS_f (fun a i z => F_n F25 (show ¬ (a = 77 ∧ (i = 2 ∨ i = 29) ∨ 90 ≤ a ∧ a ≤ 93) by omega) rfl) (PS_f (fun a i z => F_n F13 (show ¬ (6 ≤ a ∧ a ≤ 10) by omega) rfl) jPS))
  have j_50 := (KQ_f (fun a i z => F_n F25 (show ¬ (a = 77 ∧ (i = 2 ∨ i = 29) ∨ 90 ≤ a ∧ a ≤ 93) by omega) rfl) (KQ_f (fun a i z => F_n F13 (show ¬ (6 ≤ a ∧ a ≤ 10) by omega) rfl) jKQ))
  have j_51 := (TP_f (fun a i z => F_n F25 (show ¬ (a = 77 ∧ (i = 2 ∨ i = 29) ∨ 90 ≤ a ∧ a ≤ 93) by omega) rfl) (TP_f (fun a i z => F_n F13 (show ¬ (6 ≤ a ∧ a ≤ 10) by omega) rfl) jTP))
  have j_52 := (W9_f (fun a i z => F_n F25 (show ¬ (a = 77 ∧ (i = 2 ∨ i = 29) ∨ 90 ≤ a ∧ a ≤ 93) by omega) rfl) (W9_f (fun a i z => F_n F13 (show ¬ (6 ≤ a ∧ a ≤ 10) by omega) rfl) jW9))
  have j_53 := (NE_r F25.2.1 (NE_r F13.2.1 jNE))
  exact h M28 (u5) (u6) ⟨⟨⟨hG26, ⟨j_43, j_44, j_45, j_46⟩, ⟨j_47, j_48, p_27, j_49, j_50⟩, by omega, by omega⟩, j_51, j_52⟩, j_53, by omega⟩ (by omega) (by omega)
