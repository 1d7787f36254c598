/-! words of a pass as bits of an int -/
theorem x_smod_32 : ∀ h : Fin 32, ((Int32.ofInt (h.val : Int)).toBitVec.smod 32).toNat = h.val := by decide +kernel
theorem x_shr_32 {bits : Int32} {h : Nat} (hh : h < 32) : (bits >>> Int32.ofInt (h : Int)) &&& 1 = 1 ↔ bits.toBitVec.getLsbD h = true := by
  have e : ∀ j, j < 32 → ((bits >>> Int32.ofInt (h : Int)) &&& 1).toBitVec.getLsbD j = (bits.toBitVec.getLsbD h && decide (j = 0)) := fun j hj => by
    rw [Int32.toBitVec_and, BitVec.getLsbD_and, Int32.toBitVec_shiftRight]
    have q : ((Int32.ofInt (h : Int)).toBitVec.smod 32).toNat = h := x_smod_32 ⟨h, hh⟩
    have o : (1 : Int32).toBitVec.getLsbD j = decide (j = 0) := by
      show (1#32).getLsbD j = _
      rw [BitVec.getLsbD_one]; simp
    show ((bits.toBitVec.sshiftRight ((Int32.ofInt (h : Int)).toBitVec.smod 32).toNat).getLsbD j && (1 : Int32).toBitVec.getLsbD j) = _
    rw [q, o]
    by_cases g : j = 0
    · subst g
      rw [BitVec.getLsbD_sshiftRight]
      simp
      intro z; omega
    · simp [g]
  constructor
  · intro z
    have q := e 0 (by decide)
    rw [z] at q
    simpa using q.symm
  · intro z
    apply Int32.toBitVec_inj.mp
    apply BitVec.eq_of_getLsbD_eq
    intro j hj
    rw [e j hj, z]
    show _ = (1#32).getLsbD j
    rw [BitVec.getLsbD_one]; simp
theorem x_wb_e {W : Int32} {k : Nat} (hh : k < 32) : x_wb W k = W.toBitVec.getLsbD k := by
  unfold x_wb
  rw [Bool.eq_iff_iff, decide_eq_true_eq, ← x_shr_32 hh]
  constructor
  · intro z
    exact Int32.toInt_inj.mp (show _ = (1 : Int32).toInt from z)
  · intro z
    rw [z]
    rfl
theorem x_bit_o32 : ∀ h : Fin 32, ((1 : Int32) <<< Int32.ofInt (h.val : Int)).toBitVec = 1#32 <<< h.val := by decide +kernel
theorem x_wb_or {W v : Int32} {w : Int} {k : Nat} (hv : v.toInt = w) (h0 : 0 ≤ w) (h1 : w < 32) (hk : k < 32) : x_wb (W ||| ((1 : Int32) <<< v)) k = (x_wb W k || decide ((k : Int) = w)) := by
  have ev : v = Int32.ofInt ((w.toNat : Nat) : Int) := by rw [show ((w.toNat : Nat) : Int) = w by omega, ← hv, Int32.ofInt_toInt]
  have e := x_bit_o32 ⟨w.toNat, by omega⟩
  rw [x_wb_e hk, x_wb_e hk, Int32.toBitVec_or, BitVec.getLsbD_or]
  congr 1
  rw [ev]
  show ((1 : Int32) <<< Int32.ofInt ((w.toNat : Nat) : Int)).toBitVec.getLsbD k = _
  rw [e, BitVec.getLsbD_shiftLeft, BitVec.getLsbD_one, Bool.eq_iff_iff]
  simp only [Bool.and_eq_true, Bool.not_eq_true', decide_eq_true_eq, decide_eq_false_iff_not]
  omega
section NWO
variable {C : Nat → Int64} {W W2 : Int32}
theorem l_or_w (a b c : Int64) : (a ||| b) ||| c = (a ||| c) ||| b := x_on_ext (fun i _ => by
  rw [x_on_or, x_on_or, x_on_or, x_on_or, Bool.or_assoc, Bool.or_assoc, Bool.or_comm (x_on b i)])
theorem l_or_0 (a : Int64) : a ||| 0 = a := x_on_ext (fun i _ => by rw [x_on_or, x_on_0, Bool.or_false])
theorem l_or_2 (a b : Int64) : (a ||| b) ||| b = a ||| b := x_on_ext (fun i _ => by rw [x_on_or, x_on_or, Bool.or_assoc, Bool.or_self])
theorem x_nwl_o : ∀ (m k : Nat) (acc b : Int64), x_nwl C W m k (acc ||| b) = x_nwl C W m k acc ||| b
  | 0, _, _, _ => rfl
  | m + 1, k, acc, b => by rw [x_nwl, x_nwl, l_or_w, x_nwl_o m (k + 1)]
theorem x_nwl_e : ∀ (m k : Nat) (acc : Int64), (∀ j : Nat, k ≤ j → j < k + m → x_wb W2 j = x_wb W j) → x_nwl C W2 m k acc = x_nwl C W m k acc
  | 0, _, _, _ => rfl
  | m + 1, k, acc, h => by rw [x_nwl, x_nwl, h k (Nat.le_refl _) (by omega), x_nwl_e m (k + 1) _ (fun j h0 h1 => h j (by omega) (by omega))]
theorem x_nwl_a : ∀ (m k : Nat) (acc : Int64) (w : Nat), k ≤ w → w < k + m → (∀ j : Nat, k ≤ j → j < k + m → x_wb W2 j = (x_wb W j || decide (j = w))) → x_nwl C W2 m k acc = x_nwl C W m k acc ||| C w
  | 0, _, _, _, h0, h1, _ => by omega
  | m + 1, k, acc, w, h0, h1, h => by
    have hk := h k (Nat.le_refl _) (by omega)
    rw [x_nwl, x_nwl, hk]
    by_cases g : k = w
    · subst g
      rw [decide_eq_true rfl, Bool.or_true, if_pos rfl, x_nwl_e (W := W) m (k + 1) _ (fun j j0 j1 => by rw [h j (by omega) (by omega), decide_eq_false (by omega), Bool.or_false]), x_nwl_o, x_nwl_o]
      by_cases q : x_wb W k = true
      · rw [if_pos q, l_or_2]
      · rw [if_neg q, l_or_0]
    · rw [decide_eq_false g, Bool.or_false]
      exact x_nwl_a m (k + 1) _ w (by omega) (by omega) (fun j j0 j1 => h j (by omega) (by omega))
/-- the reference notes a word -/
theorem x_nwl_wd {v : Int32} {w cw : Int} {b : Int64} (hv : v.toInt = w) (h0 : 0 ≤ w) (h1 : w < cw) (h2 : cw ≤ 12) : x_nwl C (W ||| ((1 : Int32) <<< v)) cw.toNat 0 b = x_nwl C W cw.toNat 0 b ||| C w.toNat := x_nwl_a _ _ _ _ (by omega) (by omega) (fun j _ hj => by
  rw [x_wb_or hv h0 (by omega) (by omega)]
  congr 1
  exact decide_eq_decide.mpr (by omega))
end NWO
/-! needles of a pass, in the order of the text -/
section XND
variable (t : Nat → Int) (nn : Int) (s : x_S) (C : Nat → Int64)
noncomputable def x_nb (g : Int) : Int64 := if x_kind t nn g = 2 then (if 0 ≤ x_fn s 6 (x_val t nn g) then C (x_fn s 6 (x_val t nn g)).toNat else x_bit (x_row s 3 (x_fn s 1 (x_val t nn g)) + x_val t nn (x_ns t nn g))) else x_bit (x_val t nn g)
noncomputable def x_ng (g : Int) : Int := if x_kind t nn g = 2 ∧ ¬ 0 ≤ x_fn s 6 (x_val t nn g) then x_ns t nn (x_ns t nn g) else x_ns t nn g
noncomputable def x_nds : Nat → Int → Int64 → Int64
  | 0, _, acc => acc
  | fu + 1, g, acc => if x_kind t nn g = 2 ∨ x_kind t nn g = 3 then x_nds fu (x_ng t nn s g) (acc ||| x_nb t nn s C g) else acc
noncomputable def x_ndv (g : Int) (acc : Int64) : Int64 := x_nds t nn s C (nn + 1 - g).toNat g acc
/-- what a pass, a join at the place a says -/
noncomputable def x_D9 (a : Int) : x_D := (x_kp t nn (x_ns t nn a), x_kp t nn (x_ns t nn (x_ns t nn (x_ns t nn a))), x_kp t nn (x_ns t nn (x_ns t nn (x_ns t nn (x_ns t nn a)))), x_ndv t nn s C (x_ns t nn (x_ns t nn (x_ns t nn (x_ns t nn (x_ns t nn (x_ns t nn a)))))) 0)
noncomputable def x_DJ (a : Int) : x_D := (x_kp t nn (x_ns t nn a), x_kp t nn (x_ns t nn (x_ns t nn a)), 0, 0)
noncomputable def x_DD (a : Int) : x_D := if x_kx (x_val t nn a) = 7 then x_D9 t nn s C a else x_DJ t nn a
end XND
section XNDL
variable {t : Nat → Int} {nn : Int} {s : x_S} {C : Nat → Int64}
theorem x_ng_b {g : Int} (h0 : 0 ≤ g) (h1 : g ≤ nn) (hk : x_kind t nn g = 2 ∨ x_kind t nn g = 3) : g < x_ng t nn s g ∧ x_ng t nn s g ≤ nn := by
  have b := x_ns_lt (t := t) h0 (x_lt_k (t := t) h1 (by omega))
  unfold x_ng
  by_cases q : x_kind t nn g = 2 ∧ ¬ 0 ≤ x_fn s 6 (x_val t nn g)
  · rw [if_pos q]
    have c := x_ns_b (t := t) (n := nn) (a := x_ns t nn g) (by omega) b.2
    omega
  · rw [if_neg q]
    exact b
theorem x_nds_f : ∀ (f1 f2 : Nat) (g : Int) (acc : Int64), 0 ≤ g → g ≤ nn → (nn + 1 - g).toNat ≤ f1 → (nn + 1 - g).toNat ≤ f2 → x_nds t nn s C f1 g acc = x_nds t nn s C f2 g acc
  | 0, _, g, _, h0, h1, h2, _ => by omega
  | _ + 1, 0, g, _, h0, h1, _, h3 => by omega
  | f1 + 1, f2 + 1, g, acc, h0, h1, h2, h3 => by
    rw [x_nds, x_nds]
    by_cases q : x_kind t nn g = 2 ∨ x_kind t nn g = 3
    · have b := x_ng_b (s := s) h0 h1 q
      rw [if_pos q, if_pos q]
      exact x_nds_f f1 f2 _ _ (by omega) b.2 (by omega) (by omega)
    · rw [if_neg q, if_neg q]
theorem x_ndv_s {g : Int} {acc : Int64} (h0 : 0 ≤ g) (h1 : g ≤ nn) (q : x_kind t nn g = 2 ∨ x_kind t nn g = 3) : x_ndv t nn s C g acc = x_ndv t nn s C (x_ng t nn s g) (acc ||| x_nb t nn s C g) := by
  have b := x_ng_b (s := s) h0 h1 q
  unfold x_ndv
  rw [show (nn + 1 - g).toNat = (nn - g).toNat + 1 by omega, x_nds, if_pos q]
  exact x_nds_f _ _ _ _ (by omega) b.2 (by omega) (Nat.le_refl _)
theorem x_ndv_e {g : Int} {acc : Int64} (h1 : g ≤ nn) (q : ¬ (x_kind t nn g = 2 ∨ x_kind t nn g = 3)) : x_ndv t nn s C g acc = acc := by
  unfold x_ndv
  rw [show (nn + 1 - g).toNat = (nn - g).toNat + 1 by omega, x_nds, if_neg q]
end XNDL
section XNB
variable {t : Nat → Int} {nn : Int} {s : x_S} {C : Nat → Int64} {g w b : Int} {l : Int64}
theorem x_nb_w (h : x_kind t nn g = 2) (h2 : 0 ≤ x_fn s 6 (x_val t nn g)) (e : w = x_fn s 6 (x_val t nn g)) (hl : l = C w.toNat) : l = x_nb t nn s C g ∧ x_ng t nn s g = x_ns t nn g := by
  refine ⟨?_, ?_⟩
  · unfold x_nb
    rw [if_pos h, if_pos h2, hl, e]
  · unfold x_ng
    rw [if_neg (fun z => z.2 h2)]
theorem x_nb_f (h : x_kind t nn g = 2) (h2 : ¬ 0 ≤ x_fn s 6 (x_val t nn g)) (e : b = x_row s 3 (x_fn s 1 (x_val t nn g)) + x_val t nn (x_ns t nn g)) : x_bit b = x_nb t nn s C g ∧ x_ng t nn s g = x_ns t nn (x_ns t nn g) := by
  refine ⟨?_, ?_⟩
  · unfold x_nb
    rw [if_pos h, if_neg h2, e]
  · unfold x_ng
    rw [if_pos ⟨h, h2⟩]
theorem x_nb_n (h : ¬ x_kind t nn g = 2) (e : b = x_val t nn g) : x_bit b = x_nb t nn s C g ∧ x_ng t nn s g = x_ns t nn g := by
  refine ⟨?_, ?_⟩
  · unfold x_nb
    rw [if_neg h, e]
  · unfold x_ng
    rw [if_neg (fun z => h z.1)]
end XNB
section NDS
variable {t : Nat → Int} {nn : Int} {s : x_S} {C : Nat → Int64} {g g2 a5 : Int} {l l2 : Int64}
theorem nd_s (H : x_ndv t nn s C a5 0 = x_ndv t nn s C g l) (h0 : 0 ≤ g) (h1 : g ≤ nn) (kd : x_kind t nn g = 2 ∨ x_kind t nn g = 3) (n : l2 = l ||| x_nb t nn s C g ∧ g2 = x_ng t nn s g) : x_ndv t nn s C a5 0 = x_ndv t nn s C g2 l2 := by
  rw [H, x_ndv_s h0 h1 kd, n.1, n.2]
theorem nd_0 (h0 : 0 ≤ g) (h1 : g ≤ nn) (kd : x_kind t nn g = 2 ∨ x_kind t nn g = 3) (e : l = 0) (n : l2 = l ||| x_nb t nn s C g ∧ g2 = x_ng t nn s g) : x_ndv t nn s C g 0 = x_ndv t nn s C g2 l2 := by
  rw [e] at n
  exact nd_s rfl h0 h1 kd n
theorem nd_x (H : x_ndv t nn s C a5 0 = x_ndv t nn s C g l) (h1 : g ≤ nn) (k : ¬ (x_kind t nn g = 2 ∨ x_kind t nn g = 3)) : l = x_ndv t nn s C a5 0 := by
  rw [H, x_ndv_e h1 k]
end NDS
section PDS
variable {t : Nat → Int} {nn : Int} {s : x_S} {C : Nat → Int64} {M : mm_M} {A : x_A} {n a : Int}
theorem PD_0 (hx : x_kx (x_val t nn a) = 7) (f : (M.2.1 30 n.toNat).toInt = x_kp t nn (x_ns t nn a) ∧ (M.2.1 31 n.toNat).toInt = x_kp t nn (x_ns t nn (x_ns t nn (x_ns t nn a))) ∧ (M.2.1 32 n.toNat).toInt = x_kp t nn (x_ns t nn (x_ns t nn (x_ns t nn (x_ns t nn a)))) ∧ M.2.2.1 33 n.toNat = x_ndv t nn s C (x_ns t nn (x_ns t nn (x_ns t nn (x_ns t nn (x_ns t nn (x_ns t nn a)))))) 0) : PDc (x_DD t nn s C) M (x_k1 A n 0 a) n.toNat := by
  have k0 : (x_k1 A n 0 a).1 n.toNat = 0 := x_up_y
  have k1 : (x_k1 A n 0 a).2.1 n.toNat = a := x_up_y
  unfold PDc
  rw [k0, k1]
  unfold x_DD
  rw [if_pos hx]
  exact ⟨fun _ => f, fun z => absurd z (by decide)⟩
theorem PD_1 (hx : x_kx (x_val t nn a) = 10) (f : (M.2.1 30 n.toNat).toInt = x_kp t nn (x_ns t nn a) ∧ (M.2.1 31 n.toNat).toInt = x_kp t nn (x_ns t nn (x_ns t nn a))) : PDc (x_DD t nn s C) M (x_k1 A n 1 a) n.toNat := by
  have k0 : (x_k1 A n 1 a).1 n.toNat = 1 := x_up_y
  have k1 : (x_k1 A n 1 a).2.1 n.toNat = a := x_up_y
  unfold PDc
  rw [k0, k1]
  unfold x_DD
  rw [if_neg (by omega)]
  exact ⟨fun z => absurd z (by decide), fun _ => f⟩
end PDS
/-! the reference's needles while it reads -/
section NWR
variable {C : Nat → Int64} {w2 w v : Int32} {l2 l b : Int64} {m : Nat}
theorem nw_b (hw : w2 = w) (hl : l2 = l ||| b) : x_nwl C w2 m 0 l2 = x_nwl C w m 0 l ||| b := by rw [hw, hl, x_nwl_o]
theorem nw_w {wi cw : Int} (hl : l2 = l) (hw : w2 = w ||| ((1 : Int32) <<< v)) (hv : v.toInt = wi) (h0 : 0 ≤ wi) (h1 : wi < cw) (h2 : cw ≤ 12) : x_nwl C w2 cw.toNat 0 l2 = x_nwl C w cw.toNat 0 l ||| C wi.toNat := by rw [hw, hl, x_nwl_wd hv h0 h1 h2]
theorem x_nwl_z : ∀ (m k : Nat), k + m ≤ 32 → x_nwl C 0 m k 0 = 0
  | 0, _, _ => rfl
  | m + 1, k, h => by
    have z : ¬ x_wb 0 k = true := by
      rw [x_wb_e (by omega)]
      show ¬ (0#32).getLsbD k = true
      rw [BitVec.getLsbD_zero]
      exact Bool.false_ne_true
    rw [x_nwl, if_neg z, l_or_0]
    exact x_nwl_z m (k + 1) (by omega)
theorem nd_i {t : Nat → Int} {nn : Int} {s : x_S} {g a5 cw : Int} (hg : g = a5) (hw : w = 0) (hl : l = 0) (hc : cw ≤ 12) : x_ndv t nn s C a5 0 = x_ndv t nn s C g (x_nwl C w cw.toNat 0 l) := by
  rw [hg, hw, hl, x_nwl_z _ _ (by omega)]
end NWR
section PRS
variable {t : Nat → Int} {nn : Int} {s : x_S} {C : Nat → Int64} {M : mm_M} {A : x_A} {n a cw : Int}
theorem PR_0 (hx : x_kx (x_val t nn a) = 7) (f : (M.2.1 102 n.toNat).toInt = x_kp t nn (x_ns t nn a) ∧ (M.2.1 103 n.toNat).toInt = x_kp t nn (x_ns t nn (x_ns t nn (x_ns t nn a))) ∧ (M.2.1 104 n.toNat).toInt = x_kp t nn (x_ns t nn (x_ns t nn (x_ns t nn (x_ns t nn a)))) ∧ x_nwl C (M.2.1 107 n.toNat) cw.toNat 0 (M.2.2.1 106 n.toNat) = x_ndv t nn s C (x_ns t nn (x_ns t nn (x_ns t nn (x_ns t nn (x_ns t nn (x_ns t nn a)))))) 0) : PDr (x_DD t nn s C) C cw M (x_k1 A n 0 a) n.toNat := by
  have k0 : (x_k1 A n 0 a).1 n.toNat = 0 := x_up_y
  have k1 : (x_k1 A n 0 a).2.1 n.toNat = a := x_up_y
  unfold PDr
  rw [k0, k1]
  unfold x_DD
  rw [if_pos hx]
  exact ⟨fun _ => f, fun z => absurd z (by decide)⟩
theorem PR_1 (hx : x_kx (x_val t nn a) = 10) (f : (M.2.1 102 n.toNat).toInt = x_kp t nn (x_ns t nn a) ∧ (M.2.1 103 n.toNat).toInt = x_kp t nn (x_ns t nn (x_ns t nn a))) : PDr (x_DD t nn s C) C cw M (x_k1 A n 1 a) n.toNat := by
  have k0 : (x_k1 A n 1 a).1 n.toNat = 1 := x_up_y
  have k1 : (x_k1 A n 1 a).2.1 n.toNat = a := x_up_y
  unfold PDr
  rw [k0, k1]
  unfold x_DD
  rw [if_neg (by omega)]
  exact ⟨fun z => absurd z (by decide), fun _ => f⟩
end PRS
/-! the class does the work -/
section BX
variable {A : x_A} {b e o : Int}
theorem BLKX_2 (H : BLKX A b e o) (h : b < e) (k : A.1 b.toNat = 2) : o ≤ 4 ∧ 0 ≤ A.2.1 b.toNat ∧ A.2.1 b.toNat ≤ 99 ∧ BLKX A (b + 1) (A.2.2 b.toNat) (o + 1) := by
  obtain ⟨f, H⟩ := H
  cases f with
  | zero =>
    have H : b = e := H
    omega
  | succ f =>
    rcases H with H | ⟨h1, ⟨h2, h3, h4⟩ | ⟨h2, h3, h4, h5, h6, h7⟩⟩
    · omega
    · omega
    · exact ⟨h3, h4, h5, f, h6⟩
theorem BLKX_1 (H : BLKX A b e o) (h : b < e) (k : A.1 b.toNat = 0 ∨ A.1 b.toNat = 1) : A.2.2 b.toNat = b + 1 := by
  obtain ⟨f, H⟩ := H
  cases f with
  | zero =>
    have H : b = e := H
    omega
  | succ f =>
    rcases H with H | ⟨h1, ⟨h2, h3, h4⟩ | ⟨h2, h3, h4, h5, h6, h7⟩⟩
    · omega
    · exact h3
    · omega
theorem BLKX_n (H : BLKX A b e o) (h : b < e) : BLKX A (A.2.2 b.toNat) e o ∧ b + 1 ≤ A.2.2 b.toNat ∧ A.2.2 b.toNat ≤ e := by
  obtain ⟨f, H⟩ := H
  cases f with
  | zero =>
    have H : b = e := H
    omega
  | succ f =>
    rcases H with H | ⟨h1, ⟨h2, h3, h4⟩ | ⟨h2, h3, h4, h5, h6, h7⟩⟩
    · omega
    · have l := BLK_le _ _ _ _ h4
      rw [h3]
      exact ⟨⟨f, h4⟩, by omega, by omega⟩
    · have l := BLK_le _ _ _ _ h6
      have l2 := BLK_le _ _ _ _ h7
      exact ⟨⟨f, h7⟩, by omega, by omega⟩
theorem BLKX_le (H : BLKX A b e o) : b ≤ e := by
  obtain ⟨f, H⟩ := H
  exact BLK_le _ _ _ _ H
theorem BLKX_v {b2 e2 o2 : Int} (h1 : b2 = b) (h2 : e2 = e) (h3 : o2 = o) (H : BLKX A b e o) : BLKX A b2 e2 o2 := by
  rw [h1, h2, h3]; exact H
end BX
theorem x_kw_0 {k : Int} (h : k = 0 ∨ k = 1 ∨ k = 2) (e : x_kw k = 538561536) : k = 0 := by
  unfold x_kw at e
  rcases h with h | h | h
  · exact h
  · rw [if_neg (by omega), if_pos h] at e; omega
  · rw [if_neg (by omega), if_neg (by omega)] at e; omega
theorem x_kw_1 {k : Int} (h : k = 0 ∨ k = 1 ∨ k = 2) (e : x_kw k = 351582208) : k = 1 := by
  unfold x_kw at e
  rcases h with h | h | h
  · rw [if_pos h] at e; omega
  · exact h
  · rw [if_neg (by omega), if_neg (by omega)] at e; omega
theorem x_kw_2 {k : Int} (h : k = 0 ∨ k = 1 ∨ k = 2) (e : ¬ x_kw k = 538561536) (e2 : ¬ x_kw k = 351582208) : k = 2 := by
  unfold x_kw at e e2
  rcases h with h | h | h
  · rw [if_pos h] at e; omega
  · rw [if_neg (by omega), if_pos h] at e2; omega
  · exact h
theorem WKc_k {D : Int → x_D} {M : mm_M} {A : x_A} {n B : Int} {v : Int32} (H : WKc D M A n []) (h0 : 0 ≤ B) (h1 : B < n) (W : M.2.1 29 B.toNat = v) : v.toInt = x_kw (A.1 B.toNat) := by
  rw [← W]
  exact (H B.toNat (by omega)).2.1
theorem WKc_e {D : Int → x_D} {M : mm_M} {A : x_A} {n B : Int} {v : Int32} (H : WKc D M A n []) (h0 : 0 ≤ B) (h1 : B < n) (W : M.2.1 35 B.toNat = v) : v.toInt = A.2.2 B.toNat := by
  rw [← W]
  exact (H B.toNat (by omega)).2.2.2.1 List.not_mem_nil
theorem WKc_m {D : Int → x_D} {M : mm_M} {A : x_A} {n B : Int} {v : Int32} (H : WKc D M A n []) (h0 : 0 ≤ B) (h1 : B < n) (k : A.1 B.toNat = 2) (W : M.2.1 34 B.toNat = v) : v.toInt = A.2.1 B.toNat := by
  rw [← W]
  exact (H B.toNat (by omega)).2.2.1 k
/-- where an again stands after j times of its steps -/
noncomputable def x_hs (A : x_A) (s j : Int) (k : List (Int × Int)) (dn : Int) (ps : x_Q) : x_DS :=
  if A.2.1 s.toNat = 0 then (A.2.2 s.toNat, k, dn, ps) else if j = 0 then (s + 1, (s, A.2.1 s.toNat) :: k, dn, ps) else (A.2.2 s.toNat, (s, A.2.1 s.toNat - j + 1) :: k, dn, ps)
section HSS
variable {A : x_A} {U : Int → x_Q → x_Q} {n s j to dn : Int} {ps : x_Q} {k : List (Int × Int)} {R : x_DR}
theorem HS_0 (he : x_ec A n k to) (ha : s < to) (hn : to ≤ n) (hd : ¬ dn = 3000) (hk : A.1 s.toNat = 2) (hj : j = 0) {dn2 : Int} (h2 : dn2 = dn + 1) (H : RUN A U n (x_hs A s j k dn2 ps) R) : RUN A U n (s, k, dn, ps) R := by
  unfold x_hs at H
  by_cases g : A.2.1 s.toNat = 0
  · rw [if_pos g, h2] at H
    exact r_a0 he ha hn hd hk g H
  · rw [if_neg g, if_pos hj, h2] at H
    exact r_a1 he ha hn hd hk g H
theorem HS_i (h0 : 0 ≤ j) (hj : j < A.2.1 s.toNat) (H : RUN A U n (s + 1, (s, A.2.1 s.toNat - j) :: k, dn, ps) R) : RUN A U n (x_hs A s j k dn ps) R := by
  unfold x_hs
  rw [if_neg (by omega)]
  by_cases g : j = 0
  · rw [if_pos g]
    rw [g, show A.2.1 s.toNat - 0 = A.2.1 s.toNat by omega] at H
    exact H
  · rw [if_neg g]
    refine r_lp rfl (by omega) ?_
    rw [show A.2.1 s.toNat - j + 1 - 1 = A.2.1 s.toNat - j by omega]
    exact H
theorem HS_n (h0 : 0 ≤ j) (hj : j < A.2.1 s.toNat) {j2 : Int} (h2 : j2 = j + 1) (H : RUN A U n (x_hs A s j2 k dn ps) R) : RUN A U n (A.2.2 s.toNat, (s, A.2.1 s.toNat - j) :: k, dn, ps) R := by
  unfold x_hs at H
  rw [if_neg (by omega), if_neg (by omega), h2, show A.2.1 s.toNat - (j + 1) + 1 = A.2.1 s.toNat - j by omega] at H
  exact H
theorem HS_x (hj : j = A.2.1 s.toNat) (H : RUN A U n (A.2.2 s.toNat, k, dn, ps) R) : RUN A U n (x_hs A s j k dn ps) R := by
  unfold x_hs
  by_cases g : A.2.1 s.toNat = 0
  · rw [if_pos g]
    exact H
  · rw [if_neg g, if_neg (by omega)]
    exact r_lx rfl (by omega) H
end HSS
theorem RUN_w {A : x_A} {U : Int → x_Q → x_Q} {n s j dn dn2 : Int} {ps ps2 : x_Q} {k k2 : List (Int × Int)} {R : x_DR} (hk : k2 = k) (h2 : dn2 = dn) (h3 : ps2 = ps) (H : RUN A U n (x_hs A s j k dn ps) R) : RUN A U n (x_hs A s j k2 dn2 ps2) R := by
  rw [hk, h2, h3]; exact H
theorem RUN_r {A : x_A} {U : Int → x_Q → x_Q} {n dn dn2 : Int} {ps ps2 : x_Q} {S : x_DS} (h1 : dn2 = dn) (h2 : ps2 = ps) (H : RUN A U n S (1, dn, ps)) : RUN A U n S (1, dn2, ps2) := by
  rw [h1, h2]; exact H
theorem RUN_r3 {A : x_A} {U : Int → x_Q → x_Q} {n r r2 dn : Int} {ps : x_Q} {S : x_DS} (h1 : r2 = r) (h2 : r = 0 ∨ r = 1) (H : RUN A U n S (r, dn, ps)) : RUN A U n S (r2, dn, ps) := by
  rw [h1]; exact H
theorem RUN_z {A : x_A} {U : Int → x_Q → x_Q} {n a dn : Int} {ps : x_Q} {k : List (Int × Int)} (hk : k = []) (h : a = n) : RUN A U n (a, k, dn, ps) (0, dn, ps) := by
  subst hk
  refine RUN_e ?_
  show (if a = n then _ else _) = _
  rw [if_pos h]
/-! the reference does the work -/
theorem WKr_f {D : x_DC} {M M1 : mm_M} {A : x_A} {n : Int} {op : List Int} (h : ∀ a i, (101 ≤ a ∧ a ≤ 105 ∨ a = 107) → M1.2.1 a i = M.2.1 a i) (l : ∀ i, M1.2.2.1 106 i = M.2.2.1 106 i) (H : WKr D M A n op) : WKr D M1 A n op := fun i hi => by
  have z := H i hi
  rw [h 101 i (by omega), h 102 i (by omega), h 105 i (by omega)]
  exact ⟨z.1, z.2.1, z.2.2.1, z.2.2.2.1, PDr_f rfl rfl (fun r hr => h r i (by omega)) (l i) z.2.2.2.2⟩
/-- what a step does to passes and packs -/
noncomputable def x_U (D : Int → x_D) (T : Int64 → Int → Bool) (A : x_A) (a : Int) (q : x_Q) : x_Q := if A.1 a.toNat = 0 then (q.1 + 1, x_dl q.2 (D (A.2.1 a.toNat)).1 (D (A.2.1 a.toNat)).2.1 (D (A.2.1 a.toNat)).2.2.1 (T (D (A.2.1 a.toNat)).2.2.2)) else (q.1, x_dl q.2 (D (A.2.1 a.toNat)).1 (D (A.2.1 a.toNat)).2.1 (D (A.2.1 a.toNat)).2.1 (fun _ => true))
theorem x_U_0 {D : Int → x_D} {T : Int64 → Int → Bool} {A : x_A} {a p p2 : Int} {P P2 : x_P} (k : A.1 a.toNat = 0) (hp : p2 = p + 1) (hP : x_dl P (D (A.2.1 a.toNat)).1 (D (A.2.1 a.toNat)).2.1 (D (A.2.1 a.toNat)).2.2.1 (T (D (A.2.1 a.toNat)).2.2.2) = P2) : x_U D T A a (p, P) = (p2, P2) := by
  unfold x_U
  rw [if_pos k, hp, ← hP]
theorem x_U_1 {D : Int → x_D} {T : Int64 → Int → Bool} {A : x_A} {a p p2 : Int} {P P2 : x_P} (k : A.1 a.toNat = 1) (hp : p2 = p) (hP : x_dl P (D (A.2.1 a.toNat)).1 (D (A.2.1 a.toNat)).2.1 (D (A.2.1 a.toNat)).2.1 (fun _ => true) = P2) : x_U D T A a (p, P) = (p2, P2) := by
  unfold x_U
  rw [if_neg (by omega), hp, ← hP]
theorem RUN_v {A : x_A} {U : Int → x_Q → x_Q} {n a a2 dn dn2 : Int} {ps ps2 : x_Q} {k k2 : List (Int × Int)} {R : x_DR} (h1 : a2 = a) (hk : k2 = k) (h2 : dn2 = dn) (h3 : ps2 = ps) (H : RUN A U n (a, k, dn, ps) R) : RUN A U n (a2, k2, dn2, ps2) R := by
  rw [h1, hk, h2, h3]; exact H
noncomputable def stkr (M : mm_M) : Nat → List (Int × Int)
  | 0 => []
  | k + 1 => ((M.2.1 110 k).toInt, (M.2.1 111 k).toInt) :: stkr M k
theorem stkr_f {M M1 : mm_M} : ∀ k : Nat, (∀ i : Nat, i < k → M1.2.1 110 i = M.2.1 110 i ∧ M1.2.1 111 i = M.2.1 111 i) → stkr M1 k = stkr M k
  | 0, _ => rfl
  | k + 1, h => by
    have e := h k (by omega)
    show _ :: _ = _ :: _
    rw [e.1, e.2, stkr_f k (fun i hi => h i (by omega))]
noncomputable def LKK (M : mm_M) (A : x_A) (n : Int) (k : Nat) : Prop := ∀ j : Nat, j < k → 0 ≤ (M.2.1 110 j).toInt ∧ (M.2.1 110 j).toInt < n ∧ A.1 ((M.2.1 110 j).toInt).toNat = 2
noncomputable def RNK (A : x_A) (U : Int → x_Q → x_Q) (n : Int) (P0 : x_P) (M : mm_M) (P : x_P) (a : Int) (k : Nat) : Prop := LKK M A n k ∧ ∀ R : x_DR, RUN A U n (a, stkr M k, (M.2.1 77 43).toInt, ((M.2.1 77 42).toInt, P)) R → RUN A U n (0, [], 0, (0, P0)) R
section RNKS
variable {D : x_DC} {A : x_A} {U : Int → x_Q → x_Q} {P0 P : x_P} {n a a2 dn : Int} {ps : x_Q} {M M1 : mm_M} {k k2 : Nat}
theorem RNK_0 (ha : a = 0) (hk : k = 0) (h1 : (M.2.1 77 43).toInt = 0) (h2 : (M.2.1 77 42).toInt = 0) : RNK A U n P M P a k := by
  subst ha; subst hk
  refine ⟨fun j hj => by omega, fun R h => ?_⟩
  rw [h1, h2] at h
  exact h
theorem x_ds_r (W : WKr D M A n []) (L : LKK M A n k) (hne : k = 0 ∨ ¬ a = (M.2.1 105 ((M.2.1 110 (k - 1)).toInt).toNat).toInt) : x_ds A U n (a, stkr M k, dn, ps) = x_d1 A U n (a, stkr M k, dn, ps) := by
  cases k with
  | zero => rfl
  | succ k =>
    have l := L k (by omega)
    have w := W ((M.2.1 110 k).toInt).toNat (by omega)
    have e := w.2.2.2.1 l.2.2 List.not_mem_nil
    rcases hne with h | h
    · omega
    · rw [show k + 1 - 1 = k by omega, e] at h
      show (if a = A.2.2 ((M.2.1 110 k).toInt).toNat then _ else _) = _
      rw [if_neg h]
theorem RNK_e0 (H : RNK A U n P0 M P a k) (W : WKr D M A n []) (hne : k = 0 ∨ ¬ a = (M.2.1 105 ((M.2.1 110 (k - 1)).toInt).toNat).toInt) (ha : a = n) {r : Int} (hr : r = 0) : RUN A U n (0, [], 0, (0, P0)) (r, (M.2.1 77 43).toInt, ((M.2.1 77 42).toInt, P)) := by
  rw [hr]
  refine H.2 _ (RUN_e ?_)
  rw [x_ds_r W H.1 hne]
  show (if a = n then _ else _) = _
  rw [if_pos ha]
theorem RNK_e1 (H : RNK A U n P0 M P a k) (W : WKr D M A n []) (hne : k = 0 ∨ ¬ a = (M.2.1 105 ((M.2.1 110 (k - 1)).toInt).toNat).toInt) (ha : ¬ a = n) (hd : (M.2.1 77 43).toInt = 3000) {r : Int} (hr : r = 1) : RUN A U n (0, [], 0, (0, P0)) (r, (M.2.1 77 43).toInt, ((M.2.1 77 42).toInt, P)) := by
  rw [hr]
  refine H.2 _ (RUN_e ?_)
  rw [x_ds_r W H.1 hne]
  show (if a = n then _ else if (M.2.1 77 43).toInt = 3000 then _ else _) = _
  rw [if_neg ha, if_pos hd]
theorem LKK_f (h : ∀ i : Nat, i < k → M1.2.1 110 i = M.2.1 110 i) (L : LKK M A n k) : LKK M1 A n k := fun j hj => by
  rw [h j hj]
  exact L j hj
/-- the top of what is open goes on, or is done -/
theorem RNK_lp (H : RNK A U n P0 M P a (k + 1)) (W : WKr D M A n []) (ha : a = (M.2.1 105 ((M.2.1 110 k).toInt).toNat).toInt) (hl : 0 < (M.2.1 111 k).toInt - 1) (f : ∀ i : Nat, M1.2.1 110 i = M.2.1 110 i) (f1 : ∀ i : Nat, i < k → M1.2.1 111 i = M.2.1 111 i) (e1 : (M1.2.1 111 k).toInt = (M.2.1 111 k).toInt - 1) (h43 : (M1.2.1 77 43).toInt = (M.2.1 77 43).toInt) (h42 : (M1.2.1 77 42).toInt = (M.2.1 77 42).toInt) (h2 : a2 = (M.2.1 110 k).toInt + 1) (hk : k2 = k + 1) : RNK A U n P0 M1 P a2 k2 := by
  subst hk
  have l := H.1 k (by omega)
  have w := W ((M.2.1 110 k).toInt).toNat (by omega)
  have e := w.2.2.2.1 l.2.2 List.not_mem_nil
  refine ⟨LKK_f (fun i _ => f i) H.1, fun R h => H.2 R ?_⟩
  rw [h43, h42, h2] at h
  have es : stkr M1 (k + 1) = ((M.2.1 110 k).toInt, (M.2.1 111 k).toInt - 1) :: stkr M k := by
    show (_, _) :: _ = _
    rw [f k, e1, stkr_f k (fun i hi => ⟨f i, f1 i hi⟩)]
  rw [es] at h
  exact r_lp (ha.trans e) hl h
theorem RNK_lx (H : RNK A U n P0 M P a (k + 1)) (W : WKr D M A n []) (ha : a = (M.2.1 105 ((M.2.1 110 k).toInt).toNat).toInt) (hl : ¬ 0 < (M.2.1 111 k).toInt - 1) (f : ∀ i : Nat, M1.2.1 110 i = M.2.1 110 i) (f1 : ∀ i : Nat, i < k → M1.2.1 111 i = M.2.1 111 i) (h43 : (M1.2.1 77 43).toInt = (M.2.1 77 43).toInt) (h42 : (M1.2.1 77 42).toInt = (M.2.1 77 42).toInt) (h2 : a2 = a) (hk : k2 = k) : RNK A U n P0 M1 P a2 k2 := by
  subst hk
  have l := H.1 k2 (by omega)
  have w := W ((M.2.1 110 k2).toInt).toNat (by omega)
  have e := w.2.2.2.1 l.2.2 List.not_mem_nil
  refine ⟨LKK_f (fun i _ => f i) (fun j hj => H.1 j (by omega)), fun R h => H.2 R ?_⟩
  rw [h43, h42, h2, stkr_f k2 (fun i hi => ⟨f i, f1 i hi⟩)] at h
  exact r_lx (ha.trans e) hl h
/-- a step is done -/
theorem RNK_1 {P2 : x_P} (H : RNK A U n P0 M P a k) (W : WKr D M A n []) (hne : k = 0 ∨ ¬ a = (M.2.1 105 ((M.2.1 110 (k - 1)).toInt).toNat).toInt) (h0 : 0 ≤ a) (ha : a < n) (hd : ¬ (M.2.1 77 43).toInt = 3000) (hp : A.1 a.toNat = 0 ∨ A.1 a.toNat = 1) (f : ∀ r i : Nat, (r = 110 ∨ r = 111) → M1.2.1 r i = M.2.1 r i) (h43 : (M1.2.1 77 43).toInt = (M.2.1 77 43).toInt + 1) (hU : U a ((M.2.1 77 42).toInt, P) = ((M1.2.1 77 42).toInt, P2)) (h2 : a2 = a + 1) (hk : k2 = k) : RNK A U n P0 M1 P2 a2 k2 := by
  subst hk
  refine ⟨LKK_f (fun i _ => f 110 i (by omega)) H.1, fun R h => H.2 R ?_⟩
  rw [h43, ← hU, h2, stkr_f k2 (fun i hi => ⟨f 110 i (by omega), f 111 i (by omega)⟩)] at h
  refine RUN_s ?_ h
  rw [x_ds_r W H.1 hne]
  show (if a = n then _ else if (M.2.1 77 43).toInt = 3000 then _ else if A.1 a.toNat = 0 ∨ A.1 a.toNat = 1 then _ else _) = _
  rw [if_neg (by omega), if_neg hd, if_pos hp]
theorem RNK_a0 (H : RNK A U n P0 M P a k) (W : WKr D M A n []) (hne : k = 0 ∨ ¬ a = (M.2.1 105 ((M.2.1 110 (k - 1)).toInt).toNat).toInt) (h0 : 0 ≤ a) (ha : a < n) (hd : ¬ (M.2.1 77 43).toInt = 3000) (hp : 2 ≤ (M.2.1 101 a.toNat).toInt) (ht : (M.2.1 102 a.toNat).toInt = 0) (f : ∀ r i : Nat, (r = 110 ∨ r = 111) → M1.2.1 r i = M.2.1 r i) (h43 : (M1.2.1 77 43).toInt = (M.2.1 77 43).toInt + 1) (h42 : (M1.2.1 77 42).toInt = (M.2.1 77 42).toInt) (h2 : a2 = (M.2.1 105 a.toNat).toInt) (hk : k2 = k) : RNK A U n P0 M1 P a2 k2 := by
  subst hk
  have w := W a.toNat (by omega)
  have k2e : A.1 a.toNat = 2 := by omega
  have e := w.2.2.2.1 k2e List.not_mem_nil
  have tm := w.2.2.1 k2e
  refine ⟨LKK_f (fun i _ => f 110 i (by omega)) H.1, fun R h => H.2 R ?_⟩
  rw [h43, h42, h2, stkr_f k2 (fun i hi => ⟨f 110 i (by omega), f 111 i (by omega)⟩)] at h
  refine RUN_s ?_ h
  rw [x_ds_r W H.1 hne]
  show (if a = n then _ else if (M.2.1 77 43).toInt = 3000 then _ else if A.1 a.toNat = 0 ∨ A.1 a.toNat = 1 then _ else if A.2.1 a.toNat = 0 then _ else _) = _
  rw [if_neg (by omega), if_neg hd, if_neg (by omega), if_pos (by omega), e]
theorem RNK_a1 (H : RNK A U n P0 M P a k) (W : WKr D M A n []) (hne : k = 0 ∨ ¬ a = (M.2.1 105 ((M.2.1 110 (k - 1)).toInt).toNat).toInt) (h0 : 0 ≤ a) (ha : a < n) (hd : ¬ (M.2.1 77 43).toInt = 3000) (hp : 2 ≤ (M.2.1 101 a.toNat).toInt) (ht : ¬ (M.2.1 102 a.toNat).toInt = 0) (f : ∀ i : Nat, i < k → M1.2.1 110 i = M.2.1 110 i ∧ M1.2.1 111 i = M.2.1 111 i) (e0 : (M1.2.1 110 k).toInt = a) (e1 : (M1.2.1 111 k).toInt = (M.2.1 102 a.toNat).toInt) (h43 : (M1.2.1 77 43).toInt = (M.2.1 77 43).toInt + 1) (h42 : (M1.2.1 77 42).toInt = (M.2.1 77 42).toInt) (h2 : a2 = a + 1) (hk : k2 = k + 1) : RNK A U n P0 M1 P a2 k2 := by
  subst hk
  have w := W a.toNat (by omega)
  have k2e : A.1 a.toNat = 2 := by omega
  have tm := w.2.2.1 k2e
  refine ⟨fun j hj => ?_, fun R h => H.2 R ?_⟩
  · by_cases g : j = k
    · subst g
      rw [e0]
      exact ⟨h0, ha, k2e⟩
    · rw [(f j (by omega)).1]
      exact H.1 j (by omega)
  · have es : stkr M1 (k + 1) = (a, A.2.1 a.toNat) :: stkr M k := by
      show (_, _) :: _ = _
      rw [e0, e1, tm, stkr_f k f]
    rw [h43, h42, h2, es] at h
    refine RUN_s ?_ h
    rw [x_ds_r W H.1 hne]
    show (if a = n then _ else if (M.2.1 77 43).toInt = 3000 then _ else if A.1 a.toNat = 0 ∨ A.1 a.toNat = 1 then _ else if A.2.1 a.toNat = 0 then _ else _) = _
    rw [if_neg (by omega), if_neg hd, if_neg (by omega), if_neg (by omega)]
end RNKS
/-! what work answers, on both sides -/
noncomputable def WAN (F : x_A → Int → x_Q → x_Q) (P0 : x_P) (R : x_WR) (r dn : Int) (ps : x_Q) : Prop := (∃ f p : Int, R = .inl (f, p) ∧ r = -1) ∨ (∃ (n : Int) (A : x_A), R = .inr (n, A) ∧ RUN A (F A) n (0, [], 0, (0, P0)) (r, dn, ps))
theorem WAN_u {F : x_A → Int → x_Q → x_Q} {P0 : x_P} {R : x_WR} {r dn r2 dn2 : Int} {ps ps2 : x_Q} (h : WAN F P0 R r dn ps) (g : WAN F P0 R r2 dn2 ps2) : r = r2 ∧ (0 ≤ r → dn = dn2 ∧ ps = ps2) := by
  rcases h with ⟨f, p, h1, h2⟩ | ⟨n, A, h1, h2⟩ <;> rcases g with ⟨f2, p2, g1, g2⟩ | ⟨n2, A2, g1, g2⟩
  · exact ⟨by omega, fun z => by omega⟩
  · rw [h1] at g1; cases g1
  · rw [g1] at h1; cases h1
  · rw [h1] at g1
    injection g1 with e
    injection e with e1 e2
    subst e1; subst e2
    have e := RUN_u h2 g2
    injection e with e3 e4
    injection e4 with e5 e6
    exact ⟨e3, fun _ => ⟨e5, e6⟩⟩
theorem WAN_q {F : x_A → Int → x_Q → x_Q} {P0 : x_P} {R : x_WR} {n h1 h2 r dn r2 dn2 : Int} {ps ps2 : x_Q} (e : h1 = h2) (a : n < 0 ∨ h1 < n → r = -2) (b : n < 0 ∨ h2 < n → r2 = -2) (c : 0 ≤ n ∧ n ≤ h1 → WAN F P0 R r dn ps) (d : 0 ≤ n ∧ n ≤ h2 → WAN F P0 R r2 dn2 ps2) : r = r2 ∧ (0 ≤ r → dn = dn2 ∧ ps = ps2) := by
  subst e
  by_cases g : 0 ≤ n ∧ n ≤ h1
  · exact WAN_u (c g) (d g)
  · have z1 := a (by omega)
    have z2 := b (by omega)
    exact ⟨by omega, fun z => by omega⟩
/-! what was read of the steps is good: packs are packs, needles are holes -/
noncomputable def GD (d : x_D) (ho : Int) : Prop := (0 ≤ d.1 ∧ d.1 ≤ 5 ∧ 0 ≤ d.2.1 ∧ d.2.1 ≤ 5 ∧ 0 ≤ d.2.2.1 ∧ d.2.2.1 ≤ 5) ∧ ∀ j : Nat, x_on d.2.2.2 j = true → (j : Int) < ho
noncomputable def GJ (d : x_D) : Prop := 0 ≤ d.1 ∧ d.1 ≤ 5 ∧ 0 ≤ d.2.1 ∧ d.2.1 ≤ 5 ∧ ¬ d.1 = d.2.1
noncomputable def GDA (D : Int → x_D) (ho : Int) (A : x_A) (n : Int) : Prop := ∀ i : Nat, (i : Int) < n → (A.1 i = 0 → GD (D (A.2.1 i)) ho) ∧ (A.1 i = 1 → GJ (D (A.2.1 i)))
section GDI
variable {t : Nat → Int} {nn : Int} {s : x_S} {C : Nat → Int64} {a g m : Int} {k : Int → x_WR} {R : Int × x_A}
theorem wi_p (h : x_wp t nn a k = .inr R) : 0 ≤ x_kp t nn a ∧ k (x_ns t nn a) = .inr R := by
  unfold x_wp at h
  by_cases q : 0 ≤ x_kp t nn a
  · rw [if_pos q] at h
    exact ⟨q, h⟩
  · rw [if_neg q] at h
    cases h
theorem wi_y {c : Int} (h : x_wy2 t nn c a k = .inr R) : k (x_ns t nn a) = .inr R := by
  unfold x_wy2 at h
  by_cases q : x_kind t nn a = 1 ∧ x_kx (x_val t nn a) = c
  · rw [if_pos q] at h
    exact h
  · rw [if_neg q] at h
    cases h
theorem wi_s {c : Int} (h : x_wsg t nn c a k = .inr R) : (x_kind t nn a = 4 ∧ x_val t nn a = c) ∧ k (x_ns t nn a) = .inr R := by
  unfold x_wsg at h
  by_cases q : x_kind t nn a = 4 ∧ x_val t nn a = c
  · rw [if_pos q] at h
    exact ⟨q, h⟩
  · rw [if_neg q] at h
    cases h
theorem wi_b (h : x_wnb t nn m a k = .inr R) : x_kind t nn a = 3 ∧ x_val t nn a ≤ m ∧ k (x_ns t nn a) = .inr R := by
  unfold x_wnb at h
  by_cases q : x_kind t nn a = 3
  · rw [if_pos q] at h
    by_cases q2 : x_val t nn a ≤ m
    · rw [if_pos q2] at h
      exact ⟨q, q2, h⟩
    · rw [if_neg q2] at h
      cases h
  · rw [if_neg q] at h
    cases h
/-- a needle that is one -/
theorem wi_n (G : x_G s) (G8 : x_G8 s) (cb : x_cb s C) (h : x_wnd t nn s a k = .inr R) : (x_kind t nn a = 2 ∨ x_kind t nn a = 3) ∧ k (x_ng t nn s a) = .inr R ∧ ∀ j : Nat, x_on (x_nb t nn s C a) j = true → (j : Int) < s.1 := by
  have h60 := G.2.1
  unfold x_wnd at h
  by_cases q : x_kind t nn a = 2
  · rw [if_pos q] at h
    by_cases w : 0 ≤ x_fn s 6 (x_val t nn a)
    · rw [if_pos w] at h
      have e := x_nb_w (t := t) (nn := nn) (s := s) (C := C) (g := a) q w rfl rfl
      have b := (x_fn_b6 (v := x_val t nn a) G).2.2 w
      have r7 := G.2.2.2.2.2.2.1 _ w b
      have r4 := G8.1 _ r7.1 r7.2.1
      refine ⟨Or.inl q, by rw [e.2]; exact h, fun j hj => ?_⟩
      rw [← e.1] at hj
      have c := (cb (x_fn s 6 (x_val t nn a)).toNat (by omega) j hj).2
      rw [show (((x_fn s 6 (x_val t nn a)).toNat : Nat) : Int) = x_fn s 6 (x_val t nn a) by omega] at c
      omega
    · rw [if_neg w] at h
      by_cases f : 0 ≤ x_fn s 1 (x_val t nn a)
      · rw [if_pos f] at h
        have z := wi_b h
        have e := x_nb_f (t := t) (nn := nn) (s := s) (C := C) (g := a) q w rfl
        have b := (x_fn_b (v := x_val t nn a) G).2.2 f
        have r := G.2.2.2.2.2.2.2 _ f b
        have r4 := G8.1 _ f b
        have v := x_val_b (t := t) (nn := nn) (a := x_ns t nn a) z.1
        refine ⟨Or.inl q, by rw [e.2]; exact z.2.2, fun j hj => ?_⟩
        rw [← e.1, x_on_bit (by omega) (by omega), decide_eq_true_eq] at hj
        omega
      · rw [if_neg f] at h
        cases h
  · rw [if_neg q] at h
    have z := wi_b h
    have e := x_nb_n (t := t) (nn := nn) (s := s) (C := C) (g := a) q rfl
    have v := x_val_b (t := t) (nn := nn) (a := a) z.1
    refine ⟨Or.inr z.1, by rw [e.2]; exact z.2.2, fun j hj => ?_⟩
    rw [← e.1, x_on_bit (by omega) (by omega), decide_eq_true_eq] at hj
    omega
theorem nd_or {x y : Int64} {ho : Int} (h : ∀ j : Nat, x_on x j = true → (j : Int) < ho) (h2 : ∀ j : Nat, x_on y j = true → (j : Int) < ho) : ∀ j : Nat, x_on (x ||| y) j = true → (j : Int) < ho := fun j hj => by
  rw [x_on_or, Bool.or_eq_true] at hj
  rcases hj with q | q
  · exact h j q
  · exact h2 j q
theorem nd_h (G : x_G s) (G8 : x_G8 s) (cb : x_cb s C) : ∀ (fu : Nat) (g : Int) (acc : Int64) (n : Int) (op : List Int) (A : x_A), 0 ≤ g → g ≤ nn → (nn + 1 - g).toNat ≤ fu → x_ww t nn s 1 n op A g = .inr R → (∀ j : Nat, x_on acc j = true → (j : Int) < s.1) → ∀ j : Nat, x_on (x_ndv t nn s C g acc) j = true → (j : Int) < s.1
  | 0, g, _, _, _, _, h0, h1, h2, _, _ => by omega
  | fu + 1, g, acc, n, op, A, h0, h1, h2, h, ha => by
    by_cases q : x_kind t nn g = 2 ∨ x_kind t nn g = 3
    · rw [x_ww_1 h0 h1] at h
      unfold x_w1 at h
      rw [if_pos q] at h
      have z := wi_n G G8 cb h
      have b := x_ng_b (s := s) h0 h1 q
      rw [x_ndv_s h0 h1 q]
      exact nd_h G G8 cb fu _ _ n op A (by omega) b.2 (by omega) z.2.1 (nd_or ha z.2.2)
    · rw [x_ndv_e h1 q]
      exact ha
theorem GDA_1 {kd n : Int} {D : Int → x_D} {ho : Int} {A : x_A} (H : GDA D ho A n) (h0 : 0 ≤ n) (z0 : kd = 0 → GD (D a) ho) (z1 : kd = 1 → GJ (D a)) : GDA D ho (x_k1 A n kd a) (n + 1) := fun i hi => by
  by_cases e : i = n.toNat
  · subst e
    have k1 : (x_k1 A n kd a).1 n.toNat = kd := x_up_y
    have k2 : (x_k1 A n kd a).2.1 n.toNat = a := x_up_y
    rw [k1, k2]
    exact ⟨z0, z1⟩
  · have k1 : (x_k1 A n kd a).1 i = A.1 i := x_up_n e
    have k2 : (x_k1 A n kd a).2.1 i = A.2.1 i := x_up_n e
    rw [k1, k2]
    exact H i (by omega)
theorem GDA_2 {tm n : Int} {D : Int → x_D} {ho : Int} {A : x_A} (H : GDA D ho A n) (h0 : 0 ≤ n) : GDA D ho (x_kt A n tm) (n + 1) := fun i hi => by
  by_cases e : i = n.toNat
  · subst e
    have k1 : (x_kt A n tm).1 n.toNat = 2 := x_up_y
    rw [k1]
    exact ⟨fun z => absurd z (by decide), fun z => absurd z (by decide)⟩
  · have k1 : (x_kt A n tm).1 i = A.1 i := x_up_n e
    have k2 : (x_kt A n tm).2.1 i = A.2.1 i := x_up_n e
    rw [k1, k2]
    exact H i (by omega)
theorem gd_w (G : x_G s) (G8 : x_G8 s) (cb : x_cb s C) : ∀ (fu : Nat) (tu n : Int) (op : List Int) (A : x_A) (a : Int), 0 ≤ a → a ≤ nn → (nn + 1 - a).toNat ≤ fu → 0 ≤ n → (tu = 0 ∨ tu = 1) → x_ww t nn s tu n op A a = .inr R → GDA (x_DD t nn s C) s.1 A n → GDA (x_DD t nn s C) s.1 R.2 R.1
  | 0, _, _, _, _, a, h0, h1, h2, _, _, _, _ => by omega
  | fu + 1, tu, n, op, A, a, h0, h1, h2, hn, ht, h, H => by
    have b := x_ns_b (t := t) (n := nn) (a := a) h0 h1
    rcases ht with ht | ht <;> subst ht
    · rw [x_ww_0 h0 h1] at h
      unfold x_w0 at h
      by_cases q : x_kind t nn a = 1
      · have l := x_ns_lt (t := t) h0 (x_lt_k (t := t) h1 (by omega))
        rw [if_pos q] at h
        by_cases q7 : x_kx (x_val t nn a) = 7
        · rw [if_pos q7] at h
          by_cases q4 : n = 40
          · rw [if_pos q4] at h
            cases h
          · rw [if_neg q4] at h
            unfold x_wps at h
            have z1 := wi_p h
            have z2 := wi_y z1.2
            have z3 := wi_p z2
            have z4 := wi_p z3.2
            have z5 := wi_y z4.2
            have z6 := wi_n G G8 cb z5
            have c1 := x_ns_b (t := t) (n := nn) (a := x_ns t nn a) (by omega) l.2
            have c2 := x_ns_b (t := t) (n := nn) (a := x_ns t nn (x_ns t nn a)) (by omega) c1.2
            have c3 := x_ns_b (t := t) (n := nn) (a := x_ns t nn (x_ns t nn (x_ns t nn a))) (by omega) c2.2
            have c4 := x_ns_b (t := t) (n := nn) (a := x_ns t nn (x_ns t nn (x_ns t nn (x_ns t nn a)))) (by omega) c3.2
            have c5 := x_ns_b (t := t) (n := nn) (a := x_ns t nn (x_ns t nn (x_ns t nn (x_ns t nn (x_ns t nn a))))) (by omega) c4.2
            have c6 := x_ng_b (s := s) (t := t) (nn := nn) (g := x_ns t nn (x_ns t nn (x_ns t nn (x_ns t nn (x_ns t nn (x_ns t nn a)))))) (by omega) c5.2 z6.1
            refine gd_w G G8 cb fu 1 (n + 1) op _ _ (by omega) c6.2 (by omega) (by omega) (Or.inr rfl) z6.2.1 (GDA_1 H hn (fun _ => ?_) (fun z => absurd z (by decide)))
            unfold x_DD
            rw [if_pos q7]
            refine ⟨⟨z1.1, (x_pk_b (t := t) (nn := nn)).2, z3.1, (x_pk_b (t := t) (nn := nn)).2, z4.1, (x_pk_b (t := t) (nn := nn)).2⟩, ?_⟩
            show ∀ j : Nat, x_on (x_ndv t nn s C _ 0) j = true → (j : Int) < s.1
            rw [x_ndv_s (by omega) c5.2 z6.1]
            refine nd_h G G8 cb fu _ _ _ _ _ (by omega) c6.2 (by omega) z6.2.1 (nd_or (fun j hj => ?_) z6.2.2)
            rw [x_on_0] at hj
            cases hj
        · rw [if_neg q7] at h
          by_cases q10 : x_kx (x_val t nn a) = 10
          · rw [if_pos q10] at h
            by_cases q4 : n = 40
            · rw [if_pos q4] at h
              cases h
            · rw [if_neg q4] at h
              unfold x_wjn at h
              have z1 := wi_p h
              have c1 := x_ns_b (t := t) (n := nn) (a := x_ns t nn a) (by omega) l.2
              have c2 := x_ns_b (t := t) (n := nn) (a := x_ns t nn (x_ns t nn a)) (by omega) c1.2
              have c3 := x_ns_b (t := t) (n := nn) (a := x_ns t nn (x_ns t nn (x_ns t nn a))) (by omega) c2.2
              have z2 := z1.2
              by_cases p2 : 0 ≤ x_kp t nn (x_ns t nn (x_ns t nn a))
              · rw [if_pos p2] at z2
                by_cases p3 : x_kp t nn (x_ns t nn (x_ns t nn a)) = x_kp t nn (x_ns t nn a)
                · rw [if_pos p3] at z2
                  cases z2
                · rw [if_neg p3] at z2
                  have z3 := wi_s z2
                  refine gd_w G G8 cb fu 0 (n + 1) op _ _ (by omega) c3.2 (by omega) (by omega) (Or.inl rfl) z3.2 (GDA_1 H hn (fun z => absurd z (by decide)) (fun _ => ?_))
                  unfold x_DD
                  rw [if_neg q7]
                  exact ⟨z1.1, (x_pk_b (t := t) (nn := nn)).2, p2, (x_pk_b (t := t) (nn := nn)).2, fun e => p3 e.symm⟩
              · rw [if_neg p2] at z2
                cases z2
          · rw [if_neg q10] at h
            by_cases q11 : x_kx (x_val t nn a) = 11
            · rw [if_pos q11] at h
              by_cases q4 : n = 40
              · rw [if_pos q4] at h
                cases h
              · rw [if_neg q4] at h
                unfold x_wag at h
                have z1 := wi_b h
                have c1 := x_ns_b (t := t) (n := nn) (a := x_ns t nn a) (by omega) l.2
                have c2 := x_ns_b (t := t) (n := nn) (a := x_ns t nn (x_ns t nn a)) (by omega) c1.2
                have z2 := z1.2.2
                by_cases p2 : x_kind t nn (x_ns t nn (x_ns t nn a)) = 4 ∧ x_val t nn (x_ns t nn (x_ns t nn a)) = 40
                · rw [if_pos p2] at z2
                  by_cases p3 : (op.length : Int) = 5
                  · rw [if_pos p3] at z2
                    cases z2
                  · rw [if_neg p3] at z2
                    have c3 := x_ns_b (t := t) (n := nn) (a := x_ns t nn (x_ns t nn a)) (by omega) c1.2
                    exact gd_w G G8 cb fu 0 (n + 1) (n :: op) _ _ (by omega) (x_ns_b (t := t) (n := nn) (a := x_ns t nn (x_ns t nn a)) (by omega) c1.2).2 (by omega) (by omega) (Or.inl rfl) z2 (GDA_2 H hn)
                · rw [if_neg p2] at z2
                  cases z2
            · rw [if_neg q11] at h
              cases h
      · rw [if_neg q] at h
        cases op with
        | nil =>
          by_cases k0 : x_kind t nn a = 0
          · have h : (if x_kind t nn a = 0 then (.inr (n, A) : x_WR) else .inl (1, a)) = .inr R := h
            rw [if_pos k0] at h
            injection h with h
            rw [← h]
            exact H
          · have h : (if x_kind t nn a = 0 then (.inr (n, A) : x_WR) else .inl (1, a)) = .inr R := h
            rw [if_neg k0] at h
            cases h
        | cons o os =>
          have z := wi_s (k := x_ww t nn s 0 n os (x_ke A o n)) h
          have l := x_ns_lt (t := t) h0 (x_lt_k (t := t) h1 (by omega))
          exact gd_w G G8 cb fu 0 n os _ _ (by omega) l.2 (by omega) hn (Or.inl rfl) z.2 H
    · rw [x_ww_1 h0 h1] at h
      unfold x_w1 at h
      by_cases q : x_kind t nn a = 2 ∨ x_kind t nn a = 3
      · rw [if_pos q] at h
        have z := wi_n G G8 cb h
        have c := x_ng_b (s := s) h0 h1 q
        exact gd_w G G8 cb fu 1 n op A _ (by omega) c.2 (by omega) hn (Or.inr rfl) z.2.1 H
      · rw [if_neg q] at h
        have z := wi_s h
        have l := x_ns_lt (t := t) h0 (x_lt_k (t := t) h1 (by omega))
        exact gd_w G G8 cb fu 0 n op A _ (by omega) l.2 (by omega) hn (Or.inl rfl) z.2 H
theorem gd_A {n a : Int} {B : x_A} (G : x_G s) (G8 : x_G8 s) (cb : x_cb s C) (h0 : 0 ≤ a) (h1 : a ≤ nn) (h : x_ww t nn s 0 0 [] x_A0 a = .inr (n, B)) : GDA (x_DD t nn s C) s.1 B n := gd_w G G8 cb _ 0 0 [] x_A0 a h0 h1 (Nat.le_refl _) (Int.le_refl _) (Or.inl rfl) h (fun i hi => by exfalso; omega)
end GDI
/-! drops, pack, card, gather -/
noncomputable def x_drops (P : x_P) (K : x_Kn) (ov : Int32) (ho : Int) (nd : Int64) (p : Int) : Int32 := if 0 ≤ p ∧ p ≤ 5 then x_dpl (P.1 p) (x_dt K ov ho nd) (P.2 p).toNat 0 0 else -1
noncomputable def x_packv (P : x_P) (p k : Int) : Int := if 0 ≤ p ∧ p ≤ 5 ∧ 0 ≤ k ∧ k < P.2 p then P.1 p k.toNat else -1
noncomputable def x_ga (n : Int) : x_P := (fun _ j => (j : Int), fun p => if p = 0 then n else 0)
section DRP
variable {P : x_P} {K : x_Kn} {ov ov2 r : Int32} {ho ho2 p k : Int} {nd m : Int64}
theorem x_bwE {v f : Int32} {a l : Int} (hv : v.toInt = l - a + 1) (hf : f.toInt = a) : (((1 : Int64) <<< (v.toInt64 &&& 63)) - 1) <<< (f.toInt64 &&& 63) = x_bw a l := by
  unfold x_bw
  rw [x_sh_e hv, x_sh_e hf]
theorem x_on_ms {i : Nat} (h0 : 0 ≤ ho) (h1 : ho ≤ 60) : x_on (x_bw 0 (ho - 1)) i = decide ((i : Int) < ho) := by
  by_cases g : ho = 0
  · subst g
    rw [show x_bw 0 (0 - 1) = 0 by decide, x_on_0]
    exact (decide_eq_false (by omega)).symm
  · rw [x_on_bw (by decide) (by omega) (by omega)]
    exact decide_eq_decide.mpr (by omega)
theorem x_ms_n (h0 : 0 ≤ ho) (h1 : ho ≤ 60) (hm : m = x_bw 0 (ho - 1)) : ∀ i : Nat, x_on (nd &&& m) i = true → (i : Int) < ho := fun i h => by
  rw [hm, x_on_and, x_on_ms h0 h1, Bool.and_eq_true, decide_eq_true_eq] at h
  exact h.2
theorem x_dtr_c {X nd1 nd2 : Int64} {o : Bool} : ∀ n : Nat, (∀ i : Nat, i < n → x_on nd1 i = x_on nd2 i) → x_dtr X nd1 ho o n = x_dtr X nd2 ho o n
  | 0, _ => rfl
  | n + 1, h => by rw [x_dtr, x_dtr, x_dtr_c n (fun i hi => h i (by omega)), h n (by omega)]
theorem x_dt_m (h0 : 0 ≤ ho) (h1 : ho ≤ 60) (hm : m = x_bw 0 (ho - 1)) : x_dt K ov ho (nd &&& m) = x_dt K ov ho nd := by
  funext c
  unfold x_dt
  refine x_dtr_c _ (fun i hi => ?_)
  rw [hm, x_on_and, x_on_ms h0 h1, decide_eq_true (by omega), Bool.and_true]
theorem x_drops_y {v nz : Int} {s : x_S} {N : x_N} (h : 0 ≤ p ∧ p ≤ 5) (h0 : 0 ≤ ho) (h1 : ho ≤ 60) (ev : v = nz) (hm : m = x_bw 0 (ho - 1)) (e : r = x_dpl (P.1 p) (x_dt (x_kn s N v.toNat) ov ho (nd &&& m)) (P.2 p).toNat 0 0) : r = x_drops P (x_kn s N nz.toNat) ov ho nd p := by
  rw [e, x_dt_m h0 h1 hm, ev]
  unfold x_drops
  rw [if_pos h]
theorem x_drops_r (h : 0 ≤ p ∧ p ≤ 5) (e : r = x_dpl (P.1 p) (x_dt K ov ho nd) (P.2 p).toNat 0 0) : r = x_drops P K ov ho nd p := by
  rw [e]
  unfold x_drops
  rw [if_pos h]
theorem x_drops_n (h : ¬ (0 ≤ p ∧ p ≤ 5)) (e : r = -1) : r = x_drops P K ov ho nd p := by
  rw [e]
  unfold x_drops
  rw [if_neg h]
theorem x_packv_y {v : Int} (h : 0 ≤ p ∧ p ≤ 5 ∧ 0 ≤ k ∧ k < P.2 p) (e : v = P.1 p k.toNat) : v = x_packv P p k := by
  rw [e]
  unfold x_packv
  rw [if_pos h]
theorem x_packv_n {v : Int} (h : ¬ (0 ≤ p ∧ p ≤ 5 ∧ 0 ≤ k ∧ k < P.2 p)) (e : v = -1) : v = x_packv P p k := by
  rw [e]
  unfold x_packv
  rw [if_neg h]
theorem PLC_c {M : mm_M} {ca a : Int} (e1 : ov2 = ov) (e2 : ho2 = ho) (H : PLC M K ov2 ho2 ca a) : PLC M K ov ho ca a := by
  subst e1; subst e2
  exact H
end DRP
section GA
variable {M M1 M2 : mm_M} {P : x_P} {n ca i i2 c : Int}
theorem x_ga_g (h0 : 0 ≤ n) (h1 : n ≤ ca) : x_pg (x_ga n) n ca := by
  refine ⟨?_, fun p p0 p1 => ?_⟩
  · show (if (0 : Int) = 0 then n else 0) + (if (1 : Int) = 0 then n else 0) + (if (2 : Int) = 0 then n else 0) + (if (3 : Int) = 0 then n else 0) + (if (4 : Int) = 0 then n else 0) + (if (5 : Int) = 0 then n else 0) = n
    rw [if_pos rfl, if_neg (by decide), if_neg (by decide), if_neg (by decide), if_neg (by decide), if_neg (by decide)]
    omega
  · show 0 ≤ (if p = 0 then n else 0) ∧ ∀ k : Nat, (k : Int) < (if p = 0 then n else 0) → 0 ≤ (k : Int) ∧ (k : Int) < ca
    by_cases g : p = 0
    · rw [if_pos g]
      exact ⟨h0, fun k hk => ⟨by omega, by omega⟩⟩
    · rw [if_neg g]
      exact ⟨Int.le_refl _, fun k hk => ⟨by omega, by omega⟩⟩
theorem x_pg_m {m : Int} (H : x_pg P n ca) (h : ca ≤ m) : x_pg P n m := ⟨H.1, fun p p0 p1 => ⟨(H.2 p p0 p1).1, fun k hk => ⟨((H.2 p p0 p1).2 k hk).1, by have := ((H.2 p p0 p1).2 k hk).2; omega⟩⟩⟩
theorem PKc_gs (H : PKc M (x_ap9 (x_ga i) 0 c)) (h0 : 0 ≤ i) (hc : c = i) (h2 : i2 = i + 1) : PKc M (x_ga i2) := fun p p0 p1 => by
  have z := H p p0 p1
  have z1 : (M.2.1 25 p.toNat).toInt = if p = 0 then (if (0 : Int) = 0 then i else 0) + 1 else if p = 0 then i else 0 := z.1
  have z2 : ∀ k : Nat, (k : Int) < (if p = 0 then (if (0 : Int) = 0 then i else 0) + 1 else if p = 0 then i else 0) → (M.2.1 (19 + p.toNat) k).toInt = if p = 0 ∧ (k : Int) = (if (0 : Int) = 0 then i else 0) then c else (k : Int) := z.2
  show (M.2.1 25 p.toNat).toInt = (if p = 0 then i2 else 0) ∧ ∀ k : Nat, (k : Int) < (if p = 0 then i2 else 0) → (M.2.1 (19 + p.toNat) k).toInt = (k : Int)
  rw [if_pos (rfl : (0 : Int) = 0)] at z1 z2
  by_cases g : p = 0
  · rw [if_pos g] at z1 z2 ⊢
    refine ⟨by omega, fun k hk => ?_⟩
    have y := z2 k (by omega)
    by_cases f : (k : Int) = i
    · rw [if_pos ⟨g, f⟩] at y
      omega
    · rw [if_neg (fun x => f x.2)] at y
      exact y
  · rw [if_neg g, if_neg g] at z1
    rw [if_neg g]
    exact ⟨z1, fun k hk => by omega⟩
theorem PKc_g0 (h : ∀ j : Nat, j < 6 → M.2.1 25 j = 0) (hi : i = 0) : PKc M (x_ga i) := fun p p0 p1 => by
  subst hi
  show (M.2.1 25 p.toNat).toInt = (if p = 0 then 0 else 0) ∧ ∀ k : Nat, (k : Int) < (if p = 0 then 0 else 0) → (M.2.1 (19 + p.toNat) k).toInt = (k : Int)
  rw [h p.toNat (by omega), ite_self]
  exact ⟨rfl, fun k hk => by omega⟩
theorem PKr_g0 (h : ∀ j : Nat, j < 6 → M.2.1 100 j = 0) : PKr M (x_ga 0) := fun p p0 p1 => by
  show (M.2.1 100 p.toNat).toInt = (if p = 0 then 0 else 0) ∧ ∀ k : Nat, (k : Int) < (if p = 0 then 0 else 0) → (M.2.1 99 (30 * p.toNat + k)).toInt = (k : Int)
  rw [h p.toNat (by omega), ite_self]
  exact ⟨rfl, fun k hk => by omega⟩
theorem PKr_ga {v : Int32} (h : ∀ j : Nat, j < 6 → M.2.1 100 j = 0) (r : ∀ j : Nat, (j : Int) < n → (M.2.1 99 j).toInt = (j : Int)) (W : M1 = mm_setI M 100 0 v) (hv : v.toInt = n) : PKr M1 (x_ga n) := fun p p0 p1 => by
  show (M1.2.1 100 p.toNat).toInt = (if p = 0 then n else 0) ∧ ∀ k : Nat, (k : Int) < (if p = 0 then n else 0) → (M1.2.1 99 (30 * p.toNat + k)).toInt = (k : Int)
  by_cases g : p = 0
  · subst g
    rw [if_pos rfl]
    refine ⟨by rw [show (0 : Int).toNat = 0 from rfl, W_e W]; exact hv, fun k hk => ?_⟩
    rw [show 30 * (0 : Int).toNat + k = k by rw [show (0 : Int).toNat = 0 from rfl]; omega, show M1.2.1 99 k = M.2.1 99 k from W_n W (by omega) rfl]
    exact r k hk
  · rw [if_neg g, show M1.2.1 100 p.toNat = M.2.1 100 p.toNat from W_n W (by omega) rfl, h p.toNat (by omega)]
    exact ⟨rfl, fun k hk => by omega⟩
/-- zeros, one by one -/
theorem zr_0 {r : Nat} (h : i = 0) : ∀ j : Nat, j < i.toNat → M.2.1 r j = 0 := fun j hj => by omega
theorem zr_s {r j : Nat} {v : Int32} (H : ∀ j : Nat, j < i.toNat → M.2.1 r j = 0) (h0 : 0 ≤ i) (W : M1 = mm_setI M r j v) (hj : j = i.toNat) (hv : v = 0) (h2 : i2 = i + 1) : ∀ j : Nat, j < i2.toNat → M1.2.1 r j = 0 := fun k hk => by
  by_cases g : k = j
  · rw [g, W_e W, hv]
  · rw [show M1.2.1 r k = M.2.1 r k from W_n W (by omega) rfl]
    exact H k (by omega)
theorem rr_s {r j : Nat} {v : Int32} (H : ∀ j : Nat, (j : Int) < i → (M.2.1 r j).toInt = (j : Int)) (h0 : 0 ≤ i) (W : M1 = mm_setI M r j v) (hj : j = i.toNat) (hv : v.toInt = i) (h2 : i2 = i + 1) : ∀ j : Nat, (j : Int) < i2 → (M1.2.1 r j).toInt = (j : Int) := fun k hk => by
  by_cases g : k = j
  · rw [g, W_e W]
    omega
  · rw [show M1.2.1 r k = M.2.1 r k from W_n W (by omega) rfl]
    exact H k (by omega)
end GA
theorem x_ga_v {M : mm_M} {a b : Int} (h : a = b) (H : PKc M (x_ga a)) : PKc M (x_ga b) := by rw [← h]; exact H
theorem x_ga_z {n p : Int} (hp : p = 0) (h0 : 0 ≤ n) (h1 : n < 30) : 0 ≤ (x_ga n).2 p ∧ (x_ga n).2 p < 30 := by
  subst hp
  show 0 ≤ (if (0 : Int) = 0 then n else 0) ∧ (if (0 : Int) = 0 then n else 0) < 30
  rw [if_pos rfl]
  exact ⟨h0, h1⟩
theorem PKc_q {M : mm_M} {P : x_P} {p q c b : Int} (h1 : p = q) (h2 : c = b) (H : PKc M (x_ap9 P p c)) : PKc M (x_ap9 P q b) := by rw [← h1, ← h2]; exact H
theorem PKr_q {M : mm_M} {P : x_P} {p q c b : Int} (h1 : p = q) (h2 : c = b) (H : PKr M (x_ap9 P p c)) : PKr M (x_ap9 P q b) := by rw [← h1, ← h2]; exact H
theorem KST_nv {M : mm_M} {a b c d : Nat} {ca n nz : Int} {s : x_S} {N : x_N} (e : n = nz) (H : KST M a b c d ca s (x_kn s N n.toNat)) : KST M a b c d ca s (x_kn s N nz.toNat) := by rw [← e]; exact H
/-! dealing keeps the packs good -/
theorem x_pg_dlk {R : Nat → Int} {T : Int → Bool} {d l ca : Int} (d0 : 0 ≤ d) (d1 : d ≤ 5) (l0 : 0 ≤ l) (l1 : l ≤ 5) : ∀ (m k : Nat) (P : x_P) (n : Int), x_pg P n ca → (∀ j : Nat, k ≤ j → j < k + m → 0 ≤ R j ∧ R j < ca) → x_pg (x_dlk R T d l m k P) (n + m) ca
  | 0, _, P, n, H, _ => by
    rw [x_dlk, show n + ((0 : Nat) : Int) = n by omega]
    exact H
  | m + 1, k, P, n, H, hR => by
    have r := hR k (Nat.le_refl _) (by omega)
    rw [x_dlk, show n + ((m + 1 : Nat) : Int) = (n + 1) + (m : Int) by omega]
    refine x_pg_dlk d0 d1 l0 l1 m (k + 1) _ _ ?_ (fun j h0 h1 => hR j (by omega) (by omega))
    by_cases t : T (R k) = true
    · rw [if_pos t]
      exact x_pg_a H d0 d1 r.1 r.2 rfl
    · rw [if_neg t]
      exact x_pg_a H l0 l1 r.1 r.2 rfl
theorem x_pg_dl {P : x_P} {T : Int → Bool} {n ca f d l : Int} (H : x_pg P n ca) (f0 : 0 ≤ f) (f1 : f ≤ 5) (d0 : 0 ≤ d) (d1 : d ≤ 5) (l0 : 0 ≤ l) (l1 : l ≤ 5) : x_pg (x_dl P f d l T) n ca := by
  have z := H.2 f f0 f1
  have e := x_pg_dlk (T := T) (R := P.1 f) d0 d1 l0 l1 (P.2 f).toNat 0 (x_z9 P f) (n - P.2 f) (x_pg_z H f0 f1 rfl) (fun j _ hj => z.2 j (by omega))
  rw [show n - P.2 f + ((P.2 f).toNat : Int) = n by omega] at e
  exact e
theorem ps_q {a b : Int} {P : x_P} (h : a = b) : ((a, P) : x_Q) = (b, P) := by rw [h]
/-! work with packs: what was read is good, for what is known by all notes; both sides come to the same packs -/
theorem gd_K {t : Nat → Int} {nn : Int} {s : x_S} {N : x_N} {ca nz n : Int} {B : x_A} (G : x_G s) (g8 : x_G8 s ∧ x_v8 s N nz) (V : x_vn s ca N nz) (z0 : 0 ≤ nz) (h0 : 0 ≤ nn) (h : x_ww t nn s 0 0 [] x_A0 (x_sk t nn 0) = .inr (n, B)) : GDA (x_DD t nn s (x_kn s N nz.toNat).2.2.2) s.1 B n := by
  have b := x_le (P := x_bl) (t := t) (n := nn) (x := 0) (by omega) h0
  have e : x_sk t nn 0 = x_end x_bl t nn 0 := rfl
  exact gd_A G g8.1 (x_cb_kn G g8.1 V g8.2 z0 (Int.le_refl _)) (by omega) (by omega) h
theorem PW_q {F : x_A → Int → x_Q → x_Q} {P0 : x_P} {R : x_WR} {M1 M2 : mm_M} {n h1 h2 r dn ps r2 dn2 ps2 ca : Int} (e : h1 = h2) (a : n < 0 ∨ h1 < n → r = -2) (b : n < 0 ∨ h2 < n → r2 = -2) (c : 0 ≤ n ∧ n ≤ h1 → ∃ P1 : x_P, PKc M1 P1 ∧ x_pg P1 ca ca ∧ WAN F P0 R r dn (ps, P1)) (d : 0 ≤ n ∧ n ≤ h2 → ∃ P1 : x_P, PKr M2 P1 ∧ x_pg P1 ca ca ∧ WAN F P0 R r2 dn2 (ps2, P1)) (p : r < 0 → PKc M1 P0) (q : r2 < 0 → PKr M2 P0) (g : x_pg P0 ca ca) : r = r2 ∧ ∃ P : x_P, PKc M1 P ∧ PKr M2 P ∧ x_pg P ca ca := by
  subst e
  by_cases k : 0 ≤ n ∧ n ≤ h1
  · obtain ⟨P1, c1, c2, c3⟩ := c k
    obtain ⟨P2, d1, d2, d3⟩ := d k
    have u := WAN_u c3 d3
    refine ⟨u.1, ?_⟩
    by_cases z : 0 ≤ r
    · have v := (u.2 z).2
      injection v with v1 v2
      subst v2
      exact ⟨P1, c1, d1, c2⟩
    · exact ⟨P0, p (by omega), q (by omega), g⟩
  · have z1 := a (by omega)
    have z2 := b (by omega)
    exact ⟨by omega, P0, p (by omega), q (by omega), g⟩
/-! packs alike, between the law's calls -/
noncomputable def PKA (M : mm_M) : Prop := ∃ P : x_P, PKc M P ∧ PKr M P ∧ x_pg P (M.2.1 0 12).toInt (M.2.1 0 12).toInt
section PKAS
variable {M M1 : mm_M} {P : Nat → Nat → Prop}
theorem PKA_u {ca : Int} (H : PKA M) (e : (M.2.1 0 12).toInt = ca) : ∃ Q : x_P, PKc M Q ∧ PKr M Q ∧ x_pg Q ca ca := by
  subst e
  exact H
theorem PKA_i {ca : Int} {Q : x_P} (e : (M.2.1 0 12).toInt = ca) (h1 : PKc M Q) (h2 : PKr M Q) (h3 : x_pg Q ca ca) : PKA M := by
  subst e
  exact ⟨Q, h1, h2, h3⟩
theorem PKA_g (q : ∀ a i : Nat, (19 ≤ a ∧ a ≤ 25 ∨ 99 ≤ a ∧ a ≤ 100 ∨ a = 0 ∧ i = 12) → M1.2.1 a i = M.2.1 a i) (H : PKA M) : PKA M1 := by
  obtain ⟨Q, h1, h2, h3⟩ := H
  refine ⟨Q, PKc_f (fun a i z => q a i (by omega)) h1, PKr_f (fun a i z => q a i (by omega)) h2, ?_⟩
  rw [q 0 12 (by omega)]
  exact h3
theorem PKA_F (F : FR P M M1) (h : ∀ a i : Nat, (19 ≤ a ∧ a ≤ 25 ∨ 99 ≤ a ∧ a ≤ 100 ∨ a = 0 ∧ i = 12) → ¬ P a i) (H : PKA M) : PKA M1 := PKA_g (fun a i z => (F.2.2 a i (h a i z)).1) H
theorem PKA_X (F : FRX P M M1) (h : ∀ a i : Nat, (19 ≤ a ∧ a ≤ 25 ∨ 99 ≤ a ∧ a ≤ 100 ∨ a = 0 ∧ i = 12) → ¬ P a i) (H : PKA M) : PKA M1 := PKA_g (fun a i z => (F.2 a i (h a i z)).1) H
theorem PKA_K (K : M1.2.1 = M.2.1) (kr : M1.2.2.2 = M.2.2.2) (kl : ∀ a i : Nat, a ≠ 125 → M1.2.2.1 a i = M.2.2.1 a i) (H : PKA M) : PKA M1 := PKA_g (fun a i z => by rw [K]) H
end PKAS
theorem x_pg_ca {P : x_P} {n ca c : Int} (H : x_pg (x_ap9 P 0 n) (n + 1) (n + 1)) (e : c = n + 1) : x_pg (x_ap9 P 0 n) c c := by
  subst e
  exact H
/-- a card more -/
theorem PK_cd {M1 M2 : mm_M} {P : x_P} {n c : Int} (n0 : 0 ≤ n) (a : n < 30 → PKc M1 (x_ap9 P 0 n)) (b : 30 ≤ n → PKc M1 P) (d : n < 30 → PKr M2 (x_ap9 P 0 n)) (f : 30 ≤ n → PKr M2 P) (G : x_pg P n n) (e1 : n < 30 → c = n + 1) (e2 : 30 ≤ n → c = n) : ∃ Q : x_P, PKc M1 Q ∧ PKr M2 Q ∧ x_pg Q c c := by
  by_cases g : n < 30
  · have z : x_pg (x_ap9 P 0 n) (n + 1) (n + 1) := x_pg_a (x_pg_m G (by omega)) (by decide) (by decide) n0 (by omega) rfl
    refine ⟨_, a g, d g, ?_⟩
    rw [e1 g]
    exact z
  · refine ⟨P, b (by omega), f (by omega), ?_⟩
    rw [e2 (by omega)]
    exact G
theorem PK_pl {M1 M2 : mm_M} {P : x_P} {r ca c : Int} (a : r < 0 → PKc M1 P) (b : 0 ≤ r → PKc M1 (x_ga 0)) (d : r < 0 → PKr M2 P) (f : 0 ≤ r → PKr M2 (x_ga 0)) (G : x_pg P ca ca) (e1 : r < 0 → c = ca) (e2 : 0 ≤ r → c = 0) : ∃ Q : x_P, PKc M1 Q ∧ PKr M2 Q ∧ x_pg Q c c := by
  by_cases g : r < 0
  · refine ⟨P, a g, d g, ?_⟩
    rw [e1 g]
    exact G
  · refine ⟨x_ga 0, b (by omega), f (by omega), ?_⟩
    rw [e2 (by omega)]
    exact x_ga_g (Int.le_refl _) (Int.le_refl _)
/-! the reference's token, without cases -/
theorem RS_k {M : mm_M} {t : Nat → Int} {nn a : Int} (H : RS M t nn) (e : (M.2.1 77 10).toInt = a) : x_kind t nn a = (M.2.1 77 8).toInt ∧ 0 ≤ a ∧ a ≤ nn := by
  have z := RS_u H e
  have b := RS_b H e
  unfold x_R at z
  omega
theorem RS_1 {M : mm_M} {t : Nat → Int} {nn a : Int} (H : RS M t nn) (e : (M.2.1 77 10).toInt = a) (k : (M.2.1 77 8).toInt = 1) : x_kx (x_val t nn a) = (M.2.1 77 9).toInt := by
  have z := RS_u H e
  unfold x_R at z
  omega
theorem RS_2 {M : mm_M} {t : Nat → Int} {nn a : Int} (H : RS M t nn) (e : (M.2.1 77 10).toInt = a) (k : (M.2.1 77 8).toInt = 2) : x_val t nn a = (M.2.1 77 9).toInt := by
  have z := RS_u H e
  unfold x_R at z
  omega
theorem RS_3 {M : mm_M} {t : Nat → Int} {nn a : Int} (H : RS M t nn) (e : (M.2.1 77 10).toInt = a) (k : (M.2.1 77 8).toInt = 3) (h : (M.2.1 77 9).toInt ≤ 99) : x_val t nn a = (M.2.1 77 9).toInt ∧ 0 ≤ x_val t nn a := by
  have z := RS_u H e
  unfold x_R at z
  omega
theorem RS_3x {M : mm_M} {t : Nat → Int} {nn a m : Int} (H : RS M t nn) (e : (M.2.1 77 10).toInt = a) (k : (M.2.1 77 8).toInt = 3) (hm : m ≤ 99) (h : ¬ ((M.2.1 77 9).toInt ≤ m ∧ 0 ≤ (M.2.1 77 9).toInt)) : ¬ x_val t nn a ≤ m := by
  have z := RS_u H e
  unfold x_R at z
  omega
theorem RS_4 {M : mm_M} {t : Nat → Int} {nn a : Int} (H : RS M t nn) (e : (M.2.1 77 10).toInt = a) (k : (M.2.1 77 8).toInt = 4) : x_val t nn a = (M.2.1 77 9).toInt := by
  have z := RS_u H e
  unfold x_R at z
  omega
