theorem tg_124 {M M1 : mm_M} (F : FR (fun a i : Nat => a = 1 ∨ 3 ≤ a ∧ a ≤ 5) M M1) : ∀ a i : Nat, (a = 68 ∨ a = 69 ∨ a = 73 ∨ a = 74) → M1.2.1 a i = M.2.1 a i := fun a i z => F_n F (show ¬ (a = 1 ∨ 3 ≤ a ∧ a ≤ 5) by omega) rfl
theorem tg_125 : ∀ a i : Nat, (a = 1 ∨ 3 ≤ a ∧ a ≤ 5) → (a = 1 ∨ 3 ≤ a ∧ a ≤ 5 ∨ 67 ≤ a ∧ a ≤ 76) := fun a i z => by omega
theorem tg_126 : ∀ a i : Nat, (a = 1 ∧ 5 ≤ i ∨ 3 ≤ a ∧ a ≤ 5 ∨ 67 ≤ a ∧ a ≤ 76) → (a = 1 ∨ 3 ≤ a ∧ a ≤ 5 ∨ 67 ≤ a ∧ a ≤ 76) := fun a i z => by omega
/-! a question's answer, on both sides -/
theorem q_w {t : Nat → Int} {nn : Int} {s : x_S} {tu br cn a tu2 br2 cn2 a2 : Int} (h : tu = tu2) (h0 : br = br2) (h1 : cn = cn2) (h2 : a = a2) : x_qq t nn s tu br cn a = x_qq t nn s tu2 br2 cn2 a2 := by rw [h, h0, h1, h2]
noncomputable def QAN (R : x_QR) (r : Int) : Prop := (∃ f p : Int, R = .inl (f, p) ∧ r = -1) ∨ R = .inr r
theorem QAN_u {R : x_QR} {r s : Int} (h : QAN R r) (g : QAN R s) : r = s := by
  rcases h with ⟨f, p, h1, h2⟩ | h <;> rcases g with ⟨f2, p2, g1, g2⟩ | g
  · rw [h2, g2]
  · rw [h1] at g; cases g
  · rw [g1] at h; cases h
  · rw [h] at g
    injection g
theorem QAN_q {R : x_QR} {n h1 h2 r s : Int} (e : h1 = h2) (a : n < 0 ∨ h1 < n → r = -2) (b : n < 0 ∨ h2 < n → s = -2) (c : 0 ≤ n ∧ n ≤ h1 → QAN R r) (d : 0 ≤ n ∧ n ≤ h2 → QAN R s) : r = s := by
  subst e
  by_cases g : 0 ≤ n ∧ n ≤ h1
  · exact QAN_u (c g) (d g)
  · rw [a (by omega), b (by omega)]
theorem QE_0 {M : mm_M} (h1 : (M.2.1 77 59).toInt = 0) (h2 : (M.2.1 77 65).toInt = 0) (h3 : (M.2.1 77 69).toInt = 0) : (M.2.1 77 59).toInt + Wo M ((M.2.1 77 65).toInt).toNat = (M.2.1 77 69).toInt := by
  rw [h1, h2, h3]
  rfl
theorem QK_z {M : mm_M} (H : QK M) (hb : (M.2.1 77 67).toInt = 0) (h0 : 0 ≤ (M.2.1 77 65).toInt) (ht : (M.2.1 77 65).toInt = 0 ∨ ((M.2.1 115 (((M.2.1 77 65).toInt).toNat - 1)).toInt = 0 ∨ (M.2.1 115 (((M.2.1 77 65).toInt).toNat - 1)).toInt = 1)) : (M.2.1 77 65).toInt = 0 := by
  by_cases g : (M.2.1 77 65).toInt = 0
  · exact g
  · exfalso
    have e : ((M.2.1 77 65).toInt).toNat - 1 + 1 = ((M.2.1 77 65).toInt).toNat := by omega
    have z1 := H.2.1 (((M.2.1 77 65).toInt).toNat - 1) (by omega)
    have z2 := (Wx_s M (((M.2.1 77 65).toInt).toNat - 1)).1
    have z3 := Wx_b M (((M.2.1 77 65).toInt).toNat - 1)
    have z4 := H.1.1
    rw [e] at z2
    rcases ht with h | h | h
    · exact g h
    · have z5 := (z2 h).2.1
      omega
    · exact z1 h
theorem QE_z {M : mm_M} {c : Int} (e : (M.2.1 77 59).toInt + Wo M ((M.2.1 77 65).toInt).toNat = c) (hz : (M.2.1 77 65).toInt = 0) : (M.2.1 77 59).toInt = c := by
  rw [hz] at e
  have e : (M.2.1 77 59).toInt + 0 = c := e
  omega
set_option maxRecDepth 4000 in
set_option maxHeartbeats 0 in
theorem E_113 {X : mm_X} {d : Nat} {M : mm_M} {Q : Option Value → mm_M → Prop} {n : Int32} {p : Nat} {pz : Nat} {q : Nat} {qz : Nat} {t : Nat → Int} {nn : Int} {sg : x_S} (hX : g_X X) (hd : 39 ≤ d) (hG : g_G M) (hp : p = 49 ∨ p = 58) (hpz : pz = 49 ∨ pz = 58) (hq : q = 67 ∨ q = 72) (hqz : qz = 67 ∨ qz = 72) (q1 : g_PQ M p pz q qz) (q2 : QI M) (q3 : 0 ≤ n.toInt ∧ n.toInt ≤ (M.2.1 1 1).toInt → n.toInt = nn) (q4 : TT M t nn) (q5 : g_W X) (q6 : PLs M p sg) (h : ∀ (r : Int32) (M1 : mm_M), g_G M1 → FRX md_X3 M M1 → (n.toInt < 0 ∨ (M.2.1 1 1).toInt < n.toInt → r.toInt = -2) → ((0 ≤ n.toInt ∧ n.toInt ≤ (M.2.1 1 1).toInt → QAN (x_qq t nn sg 0 0 0 (x_sk t nn 0)) r.toInt)) → ((r.toInt = -1 → x_qq t nn sg 0 0 0 (x_sk t nn 0) = Sum.inl ((M1.2.1 1 10).toInt, (M1.2.1 1 11).toInt))) → (-2 ≤ r.toInt) → (0 ≤ n.toInt ∧ n.toInt ≤ (M.2.1 1 1).toInt → -1 ≤ r.toInt) → Q (some (.int r)) M1) : mm_T X d 113 0 [.ref 0, .int n, .null] [] M Q := by
  have F0 : FRX md_X3 M M := FRX.rf
  have b_1 := g_b hG (a := 1) (i := 1) (lo := 0) (hi := 500) rfl rfl
  refine to_an (pc := 0) rw_113_0 rfl (s_gR (pc := 1) rw_113_1 hG rfl (v := 1) rfl (to_in (pc := 4) rw_113_4 rfl (s_v (pc := 5) rw_113_5 (dp0 hd (by decide)) (ls0 := [.ref 1, .int n]) rfl (Nat.le_of_ble_eq_true rfl) (Nat.le_of_ble_eq_true rfl) rfl (to_rc rfl rfl rfl (g_o hG rfl)) rfl (E_78 hX (dp1 hd (by decide)) hG (by omega) q4 q5 (n := n) (fun r2 M12 hG4 F3 p_5 p_6 p_7 p_8 p_9 p_10 p_11 => ?_)))))
  have F13 := FRX.c F0 F3 tg_125
  have b_14 := g_b hG4 (a := 1) (i := 1) (lo := 0) (hi := 500) rfl rfl
  rcases (show r2.toInt = 0 ∨ r2.toInt = 1 by omega) with h15 | h15
  · skip
    have p_16 := p_10 (by omega)
    clear p_9 p_10 p_11
    refine b_ine_f (pc := 8) rw_113_8 (A := r2.toInt) rfl (by omega) (to_c (pc := 11) rw_113_11 (x := (-2 : Int32)) rfl rfl (to_r0 (pc := 13) rw_113_13 ?_))
    have k_17 : (-2 : Int32).toInt = -2 := rfl
    exact h (-2 : Int32) M12 hG4 F13 (by omega) (fun z => by exfalso; omega) (fun z => by exfalso; omega) (by omega) (by omega)
  · skip
    have p_18 := p_9 (by omega)
    have p_19 := p_11 (by omega)
    clear p_9 p_10 p_11
    have z_20 := p_19.2
    refine b_ine_t (pc := 8) rw_113_8 (A := r2.toInt) rfl (by omega) (to_an (pc := 14) rw_113_14 rfl ?_)
    have j_21 := (PQ_f F3 q1)
    refine tt_gR (pc := 15) rw_113_15 (g_o hG4 rfl) j_21.2.2.2 (to_an (pc := 18) rw_113_18 rfl (s_gR (pc := 19) rw_113_19 hG4 rfl (v := 1) rfl (to_an (pc := 22) rw_113_22 rfl (tt_gR (pc := 23) rw_113_23 (g_o hG4 rfl) j_21.1 (s_v (pc := 26) rw_113_26 (dp0 hd (by decide)) (ls0 := [.ref qz, .ref 1, .ref p]) rfl (Nat.le_of_ble_eq_true rfl) (Nat.le_of_ble_eq_true rfl) rfl (to_rc rfl rfl rfl (g_o hG4 (by rcases hqz with rfl | rfl <;> rfl))) rfl ?_)))))
    have j_22 := (QI_f (tg_124 F3) q2)
    have j_23 := (PLs_f (fun a i z => F_n F3 (show ¬ (a = 1 ∨ 3 ≤ a ∧ a ≤ 5) by omega) rfl) q6)
    refine E_57 hX (dp1 hd (by decide)) hG4 hqz hp j_22 p_19.1 (by omega) j_23 (q := qz) (p := p) (t := t) (nn := nn) (a := (x_sk t nn 0)) (sg := sg) (fun r24 M34 hG26 F25 p_27 p_28 p_29 p_30 p_31 p_32 p_33 => ?_)
    have F35 := FRX.c F13 F25 tg_126
    have b_36 := g_b hG26 (a := qz) (i := 4) (lo := 0) (hi := 40) (by rcases hqz with rfl | rfl <;> rfl) (by rcases hqz with rfl | rfl <;> rfl)
    rcases (show r24.toInt = 0 ∨ r24.toInt = 1 by omega) with h37 | h37
    · skip
      have p_38 := p_33 (by omega)
      clear p_31 p_32 p_33
      refine b_ine_f (pc := 29) rw_113_29 (A := r24.toInt) rfl (by omega) (to_c (pc := 32) rw_113_32 (x := (-1 : Int32)) rfl rfl (to_r0 (pc := 33) rw_113_33 ?_))
      have k_39 : (-1 : Int32).toInt = -1 := rfl
      exact h (-1 : Int32) M34 hG26 F35 (by omega) (fun _ => Or.inl ⟨_, _, p_38, rfl⟩) (fun _ => p_38) (by omega) (by omega)
    · skip
      have p_40 := p_31 (by omega)
      have p_41 := p_32 (by omega)
      clear p_31 p_32 p_33
      refine b_ine_t (pc := 29) rw_113_29 (A := r24.toInt) rfl (by omega) (to_an (pc := 34) rw_113_34 rfl ?_)
      have j_42 := (PQ_f F25 j_21)
      refine tt_gR (pc := 35) rw_113_35 (g_o hG26 rfl) j_42.2.2.1 (to_asn (pc := 38) rw_113_38 (ls2 := [.ref 0, .int n, .ref q]) rfl rfl (to_an (pc := 39) rw_113_39 rfl (to_an (pc := 40) rw_113_40 rfl (tt_gR (pc := 41) rw_113_41 (g_o hG26 rfl) j_42.2.2.2 (s_pR (pc := 44) rw_113_44 hG26 rfl (by rcases hqz with rfl | rfl <;> rfl) (fun M44 W43 => ?_))))))
      have hG45 := g_wr hG26 W43 rfl
      have F46 := FRX.wr F35 W43
      have j_47 := PQ_s10 W43 j_42
      refine to_an (pc := 47) rw_113_47 rfl (to_an (pc := 48) rw_113_48 rfl (s_pR (pc := 49) rw_113_49 hG45 rfl (by rcases hq with rfl | rfl <;> rfl) (fun M49 W48 => ?_)))
      have hG50 := g_wr hG45 W48 rfl
      have F51 := FRX.wr F46 W48
      have j_52 := PQ_s11 W48 j_47
      refine to_an (pc := 52) rw_113_52 rfl (tt_gR (pc := 53) rw_113_53 (g_o hG50 rfl) j_52.2.2.1 ?_)
      have c_53 : M49.2.1 qz 4 = (M34.2.1 qz 4) := (W_rf W48 (W_rf W43 rfl))
      refine tt_gI (pc := 56) rw_113_56 (g_o hG50 (by rcases hqz with rfl | rfl <;> rfl)) (v := (M34.2.1 qz 4)) c_53 (to_r0 (pc := 59) rw_113_59 ?_)
      exact h (M34.2.1 qz 4) M49 hG50 F51 (by omega) (fun _ => Or.inr p_41) (fun z => by exfalso; omega) (by omega) (by omega)
