section XWS
variable {t : Nat → Int} {nn : Int} {s : x_S} {n a : Int} {op : List Int} {A : x_A}
theorem w_end (h0 : 0 ≤ a) (h1 : a ≤ nn) (h : x_kind t nn a = 0) : x_ww t nn s 0 n [] A a = .inr (n, A) := by
  rw [x_ww_0 h0 h1]; unfold x_w0; rw [if_neg (by omega), if_pos h]
theorem w_1x (h0 : 0 ≤ a) (h1 : a ≤ nn) (h : ¬ x_kind t nn a = 1) (h2 : ¬ x_kind t nn a = 0) : x_ww t nn s 0 n [] A a = .inl (1, a) := by
  rw [x_ww_0 h0 h1]; unfold x_w0; rw [if_neg h, if_neg h2]
theorem w_cl {o : Int} (h0 : 0 ≤ a) (h1 : a ≤ nn) (h : x_kind t nn a = 4 ∧ x_val t nn a = 41) : x_ww t nn s 0 n (o :: op) A a = x_ww t nn s 0 n op (x_ke A o n) (x_ns t nn a) := by
  rw [x_ww_0 h0 h1]; unfold x_w0; rw [if_neg (by omega)]; show x_wsg t nn 41 a _ = _; unfold x_wsg; rw [if_pos h]
theorem w_clx {o : Int} (h0 : 0 ≤ a) (h1 : a ≤ nn) (h : ¬ x_kind t nn a = 1) (h2 : ¬ (x_kind t nn a = 4 ∧ x_val t nn a = 41)) : x_ww t nn s 0 n (o :: op) A a = .inl (1, a) := by
  rw [x_ww_0 h0 h1]; unfold x_w0; rw [if_neg h]; show x_wsg t nn 41 a _ = _; unfold x_wsg; rw [if_neg h2]
theorem w_kx (h0 : 0 ≤ a) (h1 : a ≤ nn) (h : x_kind t nn a = 1) (h2 : ¬ (x_kx (x_val t nn a) = 7 ∨ x_kx (x_val t nn a) = 10 ∨ x_kx (x_val t nn a) = 11)) : x_ww t nn s 0 n op A a = .inl (1, a) := by
  rw [x_ww_0 h0 h1]; unfold x_w0; rw [if_pos h, if_neg (by omega), if_neg (by omega), if_neg (by omega)]
theorem w_40 (h0 : 0 ≤ a) (h1 : a ≤ nn) (h : x_kind t nn a = 1) (h2 : x_kx (x_val t nn a) = 7 ∨ x_kx (x_val t nn a) = 10 ∨ x_kx (x_val t nn a) = 11) (hn : n = 40) : x_ww t nn s 0 n op A a = .inl (2, a) := by
  rw [x_ww_0 h0 h1]; unfold x_w0; rw [if_pos h]
  rcases h2 with z | z | z
  · rw [if_pos z, if_pos hn]
  · rw [if_neg (by omega), if_pos z, if_pos hn]
  · rw [if_neg (by omega), if_neg (by omega), if_pos z, if_pos hn]
theorem w_ps (h0 : 0 ≤ a) (h1 : a ≤ nn) (h : x_kind t nn a = 1) (h2 : x_kx (x_val t nn a) = 7) (hn : ¬ n = 40) : x_ww t nn s 0 n op A a = x_wps t nn s (x_ns t nn a) (x_ww t nn s 1 (n + 1) op (x_k1 A n 0)) := by
  rw [x_ww_0 h0 h1]; unfold x_w0; rw [if_pos h, if_pos h2, if_neg hn]
theorem w_jn (h0 : 0 ≤ a) (h1 : a ≤ nn) (h : x_kind t nn a = 1) (h2 : x_kx (x_val t nn a) = 10) (hn : ¬ n = 40) : x_ww t nn s 0 n op A a = x_wjn t nn (x_ns t nn a) (x_ww t nn s 0 (n + 1) op (x_k1 A n 1)) := by
  rw [x_ww_0 h0 h1]; unfold x_w0; rw [if_pos h, if_neg (by omega), if_pos h2, if_neg hn]
theorem w_ag (h0 : 0 ≤ a) (h1 : a ≤ nn) (h : x_kind t nn a = 1) (h2 : x_kx (x_val t nn a) = 11) (hn : ¬ n = 40) : x_ww t nn s 0 n op A a = x_wag t nn op.length (x_ns t nn a) (fun tm => x_ww t nn s 0 (n + 1) (n :: op) (x_kt A n tm)) := by
  rw [x_ww_0 h0 h1]; unfold x_w0; rw [if_pos h, if_neg (by omega), if_neg (by omega), if_pos h2, if_neg hn]
theorem w1_n (h0 : 0 ≤ a) (h1 : a ≤ nn) (h : x_kind t nn a = 2 ∨ x_kind t nn a = 3) : x_ww t nn s 1 n op A a = x_wnd t nn s a (x_ww t nn s 1 n op A) := by
  rw [x_ww_1 h0 h1]; unfold x_w1; rw [if_pos h]
theorem w1_s (h0 : 0 ≤ a) (h1 : a ≤ nn) (h : x_kind t nn a = 4 ∧ x_val t nn a = 59) : x_ww t nn s 1 n op A a = x_ww t nn s 0 n op A (x_ns t nn a) := by
  rw [x_ww_1 h0 h1]; unfold x_w1; rw [if_neg (by omega)]; unfold x_wsg; rw [if_pos h]
theorem w1_x (h0 : 0 ≤ a) (h1 : a ≤ nn) (h : ¬ (x_kind t nn a = 2 ∨ x_kind t nn a = 3)) (h2 : ¬ (x_kind t nn a = 4 ∧ x_val t nn a = 59)) : x_ww t nn s 1 n op A a = .inl (1, a) := by
  rw [x_ww_1 h0 h1]; unfold x_w1; rw [if_neg h]; unfold x_wsg; rw [if_neg h2]
/-! pieces of a step -/
variable {k : Int → x_WR}
theorem p_wp (h : 0 ≤ x_kp t nn a) : x_wp t nn a k = k (x_ns t nn a) := by unfold x_wp; rw [if_pos h]
theorem p_wpx (h : x_kp t nn a = -1) : x_wp t nn a k = .inl (1, a) := by unfold x_wp; rw [if_neg (by omega)]
theorem p_wy {c : Int} (h : x_kind t nn a = 1 ∧ x_kx (x_val t nn a) = c) : x_wy2 t nn c a k = k (x_ns t nn a) := by unfold x_wy2; rw [if_pos h]
theorem p_wyx {c : Int} (h : ¬ (x_kind t nn a = 1 ∧ x_kx (x_val t nn a) = c)) : x_wy2 t nn c a k = .inl (1, a) := by unfold x_wy2; rw [if_neg h]
theorem p_ws {c : Int} (h : x_kind t nn a = 4 ∧ x_val t nn a = c) : x_wsg t nn c a k = k (x_ns t nn a) := by unfold x_wsg; rw [if_pos h]
theorem p_wsx {c : Int} (h : ¬ (x_kind t nn a = 4 ∧ x_val t nn a = c)) : x_wsg t nn c a k = .inl (1, a) := by unfold x_wsg; rw [if_neg h]
theorem p_nb {m : Int} (h : x_kind t nn a = 3) (h2 : x_val t nn a ≤ m) : x_wnb t nn m a k = k (x_ns t nn a) := by unfold x_wnb; rw [if_pos h, if_pos h2]
theorem p_nb2 {m : Int} (h : x_kind t nn a = 3) (h2 : ¬ x_val t nn a ≤ m) : x_wnb t nn m a k = .inl (2, a) := by unfold x_wnb; rw [if_pos h, if_neg h2]
theorem p_nb1 {m : Int} (h : ¬ x_kind t nn a = 3) : x_wnb t nn m a k = .inl (1, a) := by unfold x_wnb; rw [if_neg h]
theorem p_ndw (h : x_kind t nn a = 2) (h2 : 0 ≤ x_fn s 6 (x_val t nn a)) : x_wnd t nn s a k = k (x_ns t nn a) := by unfold x_wnd; rw [if_pos h, if_pos h2]
theorem p_ndf (h : x_kind t nn a = 2) (h2 : ¬ 0 ≤ x_fn s 6 (x_val t nn a)) (h3 : 0 ≤ x_fn s 1 (x_val t nn a)) : x_wnd t nn s a k = x_wnb t nn (x_row s 4 (x_fn s 1 (x_val t nn a)) - x_row s 3 (x_fn s 1 (x_val t nn a))) (x_ns t nn a) k := by unfold x_wnd; rw [if_pos h, if_neg h2, if_pos h3]
theorem p_ndx (h : x_kind t nn a = 2) (h2 : ¬ 0 ≤ x_fn s 6 (x_val t nn a)) (h3 : ¬ 0 ≤ x_fn s 1 (x_val t nn a)) : x_wnd t nn s a k = .inl (4, a) := by unfold x_wnd; rw [if_pos h, if_neg h2, if_neg h3]
theorem p_ndn (h : ¬ x_kind t nn a = 2) : x_wnd t nn s a k = x_wnb t nn (s.1 - 1) a k := by unfold x_wnd; rw [if_neg h]
theorem x_pk_b : -1 ≤ x_kp t nn a ∧ x_kp t nn a ≤ 5 := by
  unfold x_kp
  split <;> omega
theorem x_pk_y {l : Int} (h : x_kind t nn a = 2) (h1 : 1 ≤ l) (h2 : l ≤ 6) (hv : x_val t nn a = l * 33554432) : x_kp t nn a = l - 1 := by
  unfold x_kp
  rw [if_pos (by omega)]
  omega
theorem x_pk_n (h : ¬ (x_kind t nn a = 2 ∧ x_val t nn a % 33554432 = 0 ∧ 1 ≤ x_val t nn a / 33554432 ∧ x_val t nn a / 33554432 ≤ 6)) : x_kp t nn a = -1 := by
  unfold x_kp
  rw [if_neg h]
end XWS
theorem winl {R : x_WR} {x y x2 y2 : Int} (h1 : x = x2) (h2 : y = y2) (H : R = .inl (x2, y2)) : R = .inl (x, y) := by rw [h1, h2]; exact H
theorem w_v {t : Nat → Int} {nn : Int} {s : x_S} {tu n n2 a a2 : Int} {op : List Int} {A : x_A} (h1 : n = n2) (h2 : a = a2) : x_ww t nn s tu n op A a = x_ww t nn s tu n2 op A a2 := by rw [h1, h2]
theorem x_kx_w2 (v : Int) : (x_kx v = 7 ↔ v = 538561536) ∧ (x_kx v = 8 ↔ v = 686817280) ∧ (x_kx v = 9 ↔ v = 93323264) ∧ (x_kx v = 10 ↔ v = 351582208) ∧ (x_kx v = 11 ↔ v = 40936896) := by
  refine ⟨⟨fun h => ?_, fun h => by rw [h]; rfl⟩, ⟨fun h => ?_, fun h => by rw [h]; rfl⟩, ⟨fun h => ?_, fun h => by rw [h]; rfl⟩, ⟨fun h => ?_, fun h => by rw [h]; rfl⟩, ⟨fun h => ?_, fun h => by rw [h]; rfl⟩⟩
  · rcases x_kx_c h (by decide) with z | z | z | z | z | z | z | z | z | z | z | z | z | z | z <;> omega
  · rcases x_kx_c h (by decide) with z | z | z | z | z | z | z | z | z | z | z | z | z | z | z <;> omega
  · rcases x_kx_c h (by decide) with z | z | z | z | z | z | z | z | z | z | z | z | z | z | z <;> omega
  · rcases x_kx_c h (by decide) with z | z | z | z | z | z | z | z | z | z | z | z | z | z | z <;> omega
  · rcases x_kx_c h (by decide) with z | z | z | z | z | z | z | z | z | z | z | z | z | z | z <;> omega
/-! a block of steps, well bracketed -/
noncomputable def BLK (A : x_A) : Nat → Int → Int → Int → Prop
  | 0, b, e, _ => b = e
  | f + 1, b, e, o => b = e ∨ (b < e ∧ (((A.1 b.toNat = 0 ∨ A.1 b.toNat = 1) ∧ A.2.2 b.toNat = b + 1 ∧ BLK A f (b + 1) e o) ∨ (A.1 b.toNat = 2 ∧ o ≤ 4 ∧ 0 ≤ A.2.1 b.toNat ∧ A.2.1 b.toNat ≤ 99 ∧ BLK A f (b + 1) (A.2.2 b.toNat) (o + 1) ∧ BLK A f (A.2.2 b.toNat) e o)))
theorem BLK_le {A : x_A} : ∀ (f : Nat) (b e o : Int), BLK A f b e o → b ≤ e
  | 0, b, e, o, h => by
    have h : b = e := h
    omega
  | f + 1, b, e, o, h => by
    rcases h with h | h <;> omega
theorem BLK_m {A : x_A} : ∀ (f g : Nat) (b e o : Int), f ≤ g → BLK A f b e o → BLK A g b e o
  | 0, 0, b, e, o, _, h => h
  | 0, g + 1, b, e, o, _, h => Or.inl h
  | f + 1, 0, b, e, o, hg, _ => by omega
  | f + 1, g + 1, b, e, o, hg, h => by
    rcases h with h | ⟨h1, ⟨h2, h3, h4⟩ | ⟨h2, h3, h4, h5, h6, h7⟩⟩
    · exact Or.inl h
    · exact Or.inr ⟨h1, Or.inl ⟨h2, h3, BLK_m f g _ _ _ (by omega) h4⟩⟩
    · exact Or.inr ⟨h1, Or.inr ⟨h2, h3, h4, h5, BLK_m f g _ _ _ (by omega) h6, BLK_m f g _ _ _ (by omega) h7⟩⟩
/-- a block is one of the same steps, as other rows tell them alike -/
theorem BLK_q {A B : x_A} : ∀ (f : Nat) (b e o : Int), 0 ≤ b → (∀ i : Nat, b ≤ (i : Int) → (i : Int) < e → B.1 i = A.1 i ∧ B.2.1 i = A.2.1 i ∧ B.2.2 i = A.2.2 i) → BLK A f b e o → BLK B f b e o
  | 0, b, e, o, _, _, h => h
  | f + 1, b, e, o, h0, q, h => by
    rcases h with h | ⟨h1, ⟨h2, h3, h4⟩ | ⟨h2, h3, h4, h5, h6, h7⟩⟩
    · exact Or.inl h
    · have z := q b.toNat (by omega) (by omega)
      refine Or.inr ⟨h1, Or.inl ⟨by rw [z.1]; exact h2, by rw [z.2.2]; exact h3, BLK_q f _ _ _ (by omega) (fun i a1 a2 => q i (by omega) a2) h4⟩⟩
    · have z := q b.toNat (by omega) (by omega)
      have l6 := BLK_le _ _ _ _ h6
      have l7 := BLK_le _ _ _ _ h7
      refine Or.inr ⟨h1, Or.inr ⟨by rw [z.1]; exact h2, h3, by rw [z.2.1]; exact h4, by rw [z.2.1]; exact h5, ?_, ?_⟩⟩
      · rw [z.2.2]; exact BLK_q f _ _ _ (by omega) (fun i a1 a2 => q i (by omega) (by omega)) h6
      · rw [z.2.2]; exact BLK_q f _ _ _ (by omega) (fun i a1 a2 => q i (by omega) a2) h7
/-- one more behind it -/
theorem BLK_a {A : x_A} {g : Nat} : ∀ (f : Nat) (b c e o : Int), 0 ≤ b → BLK A f b c o → BLK A g c e o → c ≤ e → BLK A (f + g) b e o
  | 0, b, c, e, o, _, h, hg, _ => by
    have h : b = c := h
    rw [h, Nat.zero_add]
    exact hg
  | f + 1, b, c, e, o, h0, h, hg, hc => by
    rw [show f + 1 + g = f + g + 1 by omega]
    rcases h with h | ⟨h1, ⟨h2, h3, h4⟩ | ⟨h2, h3, h4, h5, h6, h7⟩⟩
    · rw [h]
      exact BLK_m g (f + g + 1) _ _ _ (by omega) hg
    · exact Or.inr ⟨by omega, Or.inl ⟨h2, h3, BLK_a f _ _ _ _ (by omega) h4 hg hc⟩⟩
    · have l6 := BLK_le _ _ _ _ h6
      exact Or.inr ⟨by omega, Or.inr ⟨h2, h3, h4, h5, BLK_m f (f + g) _ _ _ (by omega) h6, BLK_a f _ _ _ _ (by omega) h7 hg hc⟩⟩
noncomputable def BLKX (A : x_A) (b e o : Int) : Prop := ∃ f : Nat, BLK A f b e o
/-! the work is done: a machine over its steps; a, what is open (a step, how often still), steps done, passes -/
abbrev x_DS := Int × List (Int × Int) × Int × Int
abbrev x_DR := Int × Int × Int
noncomputable def x_d1 (A : x_A) (n : Int) (S : x_DS) : x_DS ⊕ x_DR :=
  if S.1 = n then .inr (0, S.2.2.1, S.2.2.2) else if S.2.2.1 = 3000 then .inr (1, S.2.2.1, S.2.2.2)
  else if A.1 S.1.toNat = 0 then .inl (S.1 + 1, S.2.1, S.2.2.1 + 1, S.2.2.2 + 1)
  else if A.1 S.1.toNat = 1 then .inl (S.1 + 1, S.2.1, S.2.2.1 + 1, S.2.2.2)
  else if A.2.1 S.1.toNat = 0 then .inl (A.2.2 S.1.toNat, S.2.1, S.2.2.1 + 1, S.2.2.2)
  else .inl (S.1 + 1, (S.1, A.2.1 S.1.toNat) :: S.2.1, S.2.2.1 + 1, S.2.2.2)
noncomputable def x_ds (A : x_A) (n : Int) (S : x_DS) : x_DS ⊕ x_DR := match S.2.1 with
  | [] => x_d1 A n S
  | q :: r => if S.1 = A.2.2 q.1.toNat then (if 0 < q.2 - 1 then .inl (q.1 + 1, (q.1, q.2 - 1) :: r, S.2.2) else .inl (S.1, r, S.2.2)) else x_d1 A n S
noncomputable def x_wrun (A : x_A) (n : Int) : Nat → x_DS → Option x_DR
  | 0, _ => none
  | f + 1, S => match x_ds A n S with
    | .inl S2 => x_wrun A n f S2
    | .inr R => some R
noncomputable def RUN (A : x_A) (n : Int) (S : x_DS) (R : x_DR) : Prop := ∃ f : Nat, x_wrun A n f S = some R
section RUNS
variable {A : x_A} {n : Int} {S S2 : x_DS} {R R2 : x_DR}
theorem RUN_s (h : x_ds A n S = .inl S2) (H : RUN A n S2 R) : RUN A n S R := by
  obtain ⟨f, hf⟩ := H
  refine ⟨f + 1, ?_⟩
  rw [x_wrun, h]
  exact hf
theorem RUN_e (h : x_ds A n S = .inr R) : RUN A n S R := by
  refine ⟨1, ?_⟩
  rw [x_wrun, h]
theorem x_wrun_u : ∀ (f g : Nat) (S : x_DS), x_wrun A n f S = some R → x_wrun A n g S = some R2 → R = R2
  | 0, _, _, h, _ => by
    rw [x_wrun] at h
    cases h
  | _ + 1, 0, _, _, h => by
    rw [x_wrun] at h
    cases h
  | f + 1, g + 1, S, h, h2 => by
    rw [x_wrun] at h h2
    cases e : x_ds A n S with
    | inl S2 =>
      rw [e] at h h2
      exact x_wrun_u f g S2 h h2
    | inr Q =>
      rw [e] at h h2
      have a : Q = R := Option.some.inj h
      have b : Q = R2 := Option.some.inj h2
      rw [← a, ← b]
theorem RUN_u (h : RUN A n S R) (h2 : RUN A n S R2) : R = R2 := by
  obtain ⟨f, hf⟩ := h
  obtain ⟨g, hg⟩ := h2
  exact x_wrun_u f g S hf hg
noncomputable def x_ec (A : x_A) (n : Int) (k : List (Int × Int)) (to : Int) : Prop := match k with
  | [] => to = n
  | q :: _ => A.2.2 q.1.toNat = to
variable {a to dn ps : Int} {k : List (Int × Int)}
theorem x_ds_1 (he : x_ec A n k to) (ha : a < to) : x_ds A n (a, k, dn, ps) = x_d1 A n (a, k, dn, ps) := by
  cases k with
  | nil => rfl
  | cons q r =>
    have he : A.2.2 q.1.toNat = to := he
    show (if a = A.2.2 q.1.toNat then _ else _) = _
    rw [if_neg (by omega)]
theorem r_sp (he : x_ec A n k to) (ha : a < to) (hn : to ≤ n) (hd : dn = 3000) : RUN A n (a, k, dn, ps) (1, dn, ps) := by
  refine RUN_e ?_
  rw [x_ds_1 he ha]
  show (if a = n then _ else if dn = 3000 then _ else _) = _
  rw [if_neg (by omega), if_pos hd]
theorem r_ps (he : x_ec A n k to) (ha : a < to) (hn : to ≤ n) (hd : ¬ dn = 3000) (hk : A.1 a.toNat = 0) (H : RUN A n (a + 1, k, dn + 1, ps + 1) R) : RUN A n (a, k, dn, ps) R := by
  refine RUN_s ?_ H
  rw [x_ds_1 he ha]
  show (if a = n then _ else if dn = 3000 then _ else if A.1 a.toNat = 0 then _ else _) = _
  rw [if_neg (by omega), if_neg hd, if_pos hk]
theorem r_jn (he : x_ec A n k to) (ha : a < to) (hn : to ≤ n) (hd : ¬ dn = 3000) (hk : A.1 a.toNat = 1) (H : RUN A n (a + 1, k, dn + 1, ps) R) : RUN A n (a, k, dn, ps) R := by
  refine RUN_s ?_ H
  rw [x_ds_1 he ha]
  show (if a = n then _ else if dn = 3000 then _ else if A.1 a.toNat = 0 then _ else if A.1 a.toNat = 1 then _ else _) = _
  rw [if_neg (by omega), if_neg hd, if_neg (by omega), if_pos hk]
theorem r_a0 (he : x_ec A n k to) (ha : a < to) (hn : to ≤ n) (hd : ¬ dn = 3000) (hk : A.1 a.toNat = 2) (ht : A.2.1 a.toNat = 0) (H : RUN A n (A.2.2 a.toNat, k, dn + 1, ps) R) : RUN A n (a, k, dn, ps) R := by
  refine RUN_s ?_ H
  rw [x_ds_1 he ha]
  show (if a = n then _ else if dn = 3000 then _ else if A.1 a.toNat = 0 then _ else if A.1 a.toNat = 1 then _ else if A.2.1 a.toNat = 0 then _ else _) = _
  rw [if_neg (by omega), if_neg hd, if_neg (by omega), if_neg (by omega), if_pos ht]
theorem r_a1 (he : x_ec A n k to) (ha : a < to) (hn : to ≤ n) (hd : ¬ dn = 3000) (hk : A.1 a.toNat = 2) (ht : ¬ A.2.1 a.toNat = 0) (H : RUN A n (a + 1, (a, A.2.1 a.toNat) :: k, dn + 1, ps) R) : RUN A n (a, k, dn, ps) R := by
  refine RUN_s ?_ H
  rw [x_ds_1 he ha]
  show (if a = n then _ else if dn = 3000 then _ else if A.1 a.toNat = 0 then _ else if A.1 a.toNat = 1 then _ else if A.2.1 a.toNat = 0 then _ else _) = _
  rw [if_neg (by omega), if_neg hd, if_neg (by omega), if_neg (by omega), if_neg ht]
variable {l lf : Int}
theorem r_lp (ha : a = A.2.2 l.toNat) (h : 0 < lf - 1) (H : RUN A n (l + 1, (l, lf - 1) :: k, dn, ps) R) : RUN A n (a, (l, lf) :: k, dn, ps) R := by
  refine RUN_s ?_ H
  show (if a = A.2.2 l.toNat then (if 0 < lf - 1 then _ else _) else _) = _
  rw [if_pos ha, if_pos h]
theorem r_lx (ha : a = A.2.2 l.toNat) (h : ¬ 0 < lf - 1) (H : RUN A n (a, k, dn, ps) R) : RUN A n (a, (l, lf) :: k, dn, ps) R := by
  refine RUN_s ?_ H
  show (if a = A.2.2 l.toNat then (if 0 < lf - 1 then _ else _) else _) = _
  rw [if_pos ha, if_neg h]
end RUNS
theorem w1_ny {t : Nat → Int} {nn : Int} {s : x_S} {n a c : Int} {op : List Int} {A : x_A} (h0 : 0 ≤ a) (h1 : a ≤ nn) (ok : ∀ k : Int → x_WR, x_wnd t nn s a k = k c) : x_ww t nn s 1 n op A a = x_ww t nn s 1 n op A c := by
  by_cases g : x_kind t nn a = 2 ∨ x_kind t nn a = 3
  · exact (w1_n h0 h1 g).trans (ok _)
  · exfalso
    have e := ok (fun _ => .inl (0, 0))
    rw [p_ndn (by omega), p_nb1 (by omega)] at e
    injection e with e
    injection e with e e2
    omega
theorem w1_nx {t : Nat → Int} {nn : Int} {s : x_S} {n a x y : Int} {op : List Int} {A : x_A} (h0 : 0 ≤ a) (h1 : a ≤ nn) (h2 : ¬ (x_kind t nn a = 4 ∧ x_val t nn a = 59)) (no : ∀ k : Int → x_WR, x_wnd t nn s a k = .inl (x, y)) : x_ww t nn s 1 n op A a = .inl (x, y) := by
  by_cases g : x_kind t nn a = 2 ∨ x_kind t nn a = 3
  · exact (w1_n h0 h1 g).trans (no _)
  · have e := no (fun _ => .inl (0, 0))
    rw [p_ndn (by omega), p_nb1 (by omega)] at e
    rw [w1_x h0 h1 g h2, e]
theorem i_shr25 {x v : Int32} (e : x >>> (25 : Int32) = v) : v.toInt = x.toInt / 33554432 := by
  rw [← e]
  show (x >>> (25 : Int32)).toBitVec.toInt = _
  rw [Int32.toBitVec_shiftRight]
  show (x.toBitVec.sshiftRight ((25 : Int32).toBitVec.smod 32).toNat).toInt = _
  rw [show ((25 : Int32).toBitVec.smod 32).toNat = 25 by decide, BitVec.toInt_sshiftRight, Int.shiftRight_eq_div_pow]
  rfl
theorem x_l25 : ∀ k : Fin 7, ((Int32.ofInt (k.val : Int)) <<< (25 : Int32)).toInt = (k.val : Int) * 33554432 := by decide +kernel
theorem i_shl25 {x v : Int32} (h0 : 0 ≤ x.toInt) (h1 : x.toInt ≤ 6) (e : x <<< (25 : Int32) = v) : v.toInt = x.toInt * 33554432 := by
  rw [← e]
  have q := x_l25 ⟨x.toInt.toNat, by omega⟩
  simp only [show ((x.toInt.toNat : Nat) : Int) = x.toInt by omega, Int32.ofInt_toInt] at q
  exact q
theorem i_and25 {x v : Int32} (e : x &&& (33554431 : Int32) = v) : v.toInt = x.toInt % 33554432 := by
  have e2 : v.toBitVec.toNat = x.toBitVec.toNat % 33554432 := by
    rw [← e, Int32.toBitVec_and, BitVec.toNat_and]
    show x.toBitVec.toNat &&& 33554431 = _
    rw [show (33554431 : Nat) = 2 ^ 25 - 1 from rfl, Nat.and_two_pow_sub_one_eq_mod]
  have a : v.toInt = if 2 * v.toBitVec.toNat < 2 ^ 32 then (v.toBitVec.toNat : Int) else (v.toBitVec.toNat : Int) - (2 ^ 32 : Nat) := BitVec.toInt_eq_toNat_cond v.toBitVec
  have b : x.toInt = if 2 * x.toBitVec.toNat < 2 ^ 32 then (x.toBitVec.toNat : Int) else (x.toBitVec.toNat : Int) - (2 ^ 32 : Nat) := BitVec.toInt_eq_toNat_cond x.toBitVec
  have c : x.toBitVec.toNat < 2 ^ 32 := x.toBitVec.isLt
  simp only [Nat.reducePow] at a b c
  rw [a, b, e2]
  split <;> split <;> omega
section WJ
variable {t : Nat → Int} {nn a : Int} {k : Int → x_WR}
theorem wj_1 (h : x_kp t nn a = -1) : x_wjn t nn a k = .inl (1, a) := by
  unfold x_wjn
  exact p_wpx h
theorem wj_2 (h : 0 ≤ x_kp t nn a) (h2 : x_kp t nn (x_ns t nn a) = -1) : x_wjn t nn a k = .inl (1, x_ns t nn a) := by
  unfold x_wjn
  rw [p_wp h, if_neg (by omega)]
theorem wj_3 (h : 0 ≤ x_kp t nn a) (h2 : 0 ≤ x_kp t nn (x_ns t nn a)) (h3 : x_kp t nn (x_ns t nn a) = x_kp t nn a) : x_wjn t nn a k = .inl (3, x_ns t nn a) := by
  unfold x_wjn
  rw [p_wp h, if_pos h2, if_pos h3]
theorem wj_4 (h : 0 ≤ x_kp t nn a) (h2 : 0 ≤ x_kp t nn (x_ns t nn a)) (h3 : ¬ x_kp t nn (x_ns t nn a) = x_kp t nn a) (h4 : ¬ (x_kind t nn (x_ns t nn (x_ns t nn a)) = 4 ∧ x_val t nn (x_ns t nn (x_ns t nn a)) = 59)) : x_wjn t nn a k = .inl (1, x_ns t nn (x_ns t nn a)) := by
  unfold x_wjn
  rw [p_wp h, if_pos h2, if_neg h3, p_wsx h4]
theorem wj_y (h : 0 ≤ x_kp t nn a) (h2 : 0 ≤ x_kp t nn (x_ns t nn a)) (h3 : ¬ x_kp t nn (x_ns t nn a) = x_kp t nn a) (h4 : x_kind t nn (x_ns t nn (x_ns t nn a)) = 4 ∧ x_val t nn (x_ns t nn (x_ns t nn a)) = 59) : x_wjn t nn a k = k (x_ns t nn (x_ns t nn (x_ns t nn a))) := by
  unfold x_wjn
  rw [p_wp h, if_pos h2, if_neg h3, p_ws h4]
end WJ
