/-! references that change: the two PLANS, the two QUESTIONS -/
noncomputable def FRX (P : Nat → Nat → Prop) (M M1 : mm_M) : Prop := M1.1 = M.1 ∧ ∀ a i, ¬ P a i → M1.2.1 a i = M.2.1 a i ∧ M1.2.2.1 a i = M.2.2.1 a i
section GX
variable {M M0 M1 : mm_M} {P P2 : Nat → Nat → Prop}
theorem FR.x (h : FR P M M1) : FRX P M M1 := ⟨h.1, h.2.2⟩
theorem FRX.rf : FRX P M M := ⟨rfl, fun _ _ _ => ⟨rfl, rfl⟩⟩
theorem FRX.w {a i : Nat} {v : Int32} (h : FRX P M0 M) (W : M1 = mm_setI M a i v) (hp : P a i) : FRX P M0 M1 := by
  subst W
  refine ⟨h.1, fun b j hn => ⟨?_, (h.2 b j hn).2⟩⟩
  show (if b = a ∧ j = i then v else M.2.1 b j) = _
  rw [if_neg (fun z => hn (by rw [z.1, z.2]; exact hp))]
  exact (h.2 b j hn).1
theorem FRX.wl {a i : Nat} {v : Int64} (h : FRX P M0 M) (W : M1 = mm_setL M a i v) (hp : P a i) : FRX P M0 M1 := by
  subst W
  refine ⟨h.1, fun b j hn => ⟨(h.2 b j hn).1, ?_⟩⟩
  show (if b = a ∧ j = i then v else M.2.2.1 b j) = _
  rw [if_neg (fun z => hn (by rw [z.1, z.2]; exact hp))]
  exact (h.2 b j hn).2
theorem FRX.wr {a i : Nat} {v : Option Nat} (h : FRX P M0 M) (W : M1 = mm_setR M a i v) : FRX P M0 M1 := by
  subst W
  exact ⟨h.1, h.2⟩
theorem FRX.c (h : FRX P M0 M) (h2 : FR P2 M M1) (hs : ∀ a i, P2 a i → P a i) : FRX P M0 M1 := ⟨h2.1.trans h.1, fun a i hn => ⟨((h2.2.2 a i (fun z => hn (hs a i z))).1).trans (h.2 a i hn).1, ((h2.2.2 a i (fun z => hn (hs a i z))).2).trans (h.2 a i hn).2⟩⟩
theorem W_rf {a i b j : Nat} {v : Option Nat} {w : Int32} (W : M1 = mm_setR M a i v) (h : M.2.1 b j = w) : M1.2.1 b j = w := by
  subst W
  exact h
theorem g_wr {a i : Nat} {v : Option Nat} (hG : g_G M) (W : M1 = mm_setR M a i v) (h : g_rf a i = none) : g_G M1 := by
  subst W
  refine ⟨⟨hG.1.1, hG.1.2.1, fun b j w hb => ?_⟩, hG.2.1, hG.2.2⟩
  show (if b = a ∧ j = i then v else M.2.2.2 b j) = some w
  rw [if_neg (fun z => by rw [z.1, z.2, h] at hb; cases hb)]
  exact hG.1.2.2 b j w hb
theorem PQ_s8 {p p2 q q2 v : Nat} (W : M1 = mm_setR M 0 8 (some v)) (h : g_PQ M p p2 q q2) : g_PQ M1 v p2 q q2 := by
  subst W
  exact ⟨rfl, h.2.1, h.2.2.1, h.2.2.2⟩
theorem PQ_s9 {p p2 q q2 v : Nat} (W : M1 = mm_setR M 0 9 (some v)) (h : g_PQ M p p2 q q2) : g_PQ M1 p v q q2 := by
  subst W
  exact ⟨h.1, rfl, h.2.2.1, h.2.2.2⟩
theorem PQ_s10 {p p2 q q2 v : Nat} (W : M1 = mm_setR M 0 10 (some v)) (h : g_PQ M p p2 q q2) : g_PQ M1 p p2 v q2 := by
  subst W
  exact ⟨h.1, h.2.1, rfl, h.2.2.2⟩
theorem PQ_s11 {p p2 q q2 v : Nat} (W : M1 = mm_setR M 0 11 (some v)) (h : g_PQ M p p2 q q2) : g_PQ M1 p p2 q v := by
  subst W
  exact ⟨h.1, h.2.1, h.2.2.1, rfl⟩
end GX
noncomputable def g_PP (M : mm_M) (p p2 q q2 : Nat) : Prop := g_PQ M p p2 q q2 ∨ g_PQ M p2 p q q2
noncomputable def g_QQ (M : mm_M) (p p2 q q2 : Nat) : Prop := g_PQ M p p2 q q2 ∨ g_PQ M p p2 q2 q
theorem s_pR {X : mm_X} {d mi pc : Nat} {ls st : List Value} {M : mm_M} {Q : Option Value → mm_M → Prop} {len a b : Nat} {ps : List Nat} {i o v : Nat} (hc : mm_code mi pc = some (.putfield i, len, a, b, 3 :: ps)) (hG : g_G M) (ho : (Nat.blt o 126 && Nat.beq (g_ty o) a) = true) (hv : Nat.blt v 126 = true) (h : ∀ M1, M1 = mm_setR M o b (some v) → mm_T X d mi (pc + len) ls st M1 Q) : mm_T X d mi pc ls (.ref v :: .ref o :: st) M Q := tt_1 hc (by
  show mm_b (mm_isObj M o a) (mm_b (Nat.blt v M.1.1.1) (mm_T X d mi (pc + len) ls st (mm_setR M o b (some v)) Q) False) False
  rw [g_o hG ho, hG.1.1, hv]
  exact h _ rfl)
theorem g_79 {M : mm_M} {A : Int} {v : Int32} (hG : g_G M) (hv : M.2.1 79 A.toNat = v) : A = 69 → v.toInt = 32 := fun z => by
  subst z
  have e : M.2.1 79 (69 : Int).toNat = 32 := hG.2.2
  rw [← hv, e]; rfl
section S4
variable {X : mm_X} {d mi pc : Nat} {ls st : List Value} {M : mm_M} {Q : Option Value → mm_M → Prop} {len a b : Nat} {ps : List Nat} {x y v : Int32} {A B : Int}
theorem s_addk (hc : mm_code mi pc = some (.iadd, len, a, b, ps)) (ex : x.toInt = A) (ey : y.toInt = B) (hr : -2147483648 ≤ A + B ∧ A + B ≤ 2147483647) (hv : v.toInt = A + B) (h : mm_T X d mi (pc + len) ls (.int v :: st) M Q) : mm_T X d mi pc ls (.int y :: .int x :: st) M Q := to_2 (v := v) hc (congrArg some (Int32.toInt_inj.mp ((i_add ex ey hr).trans hv.symm))) h
theorem s_subk (hc : mm_code mi pc = some (.isub, len, a, b, ps)) (ex : x.toInt = A) (ey : y.toInt = B) (hr : -2147483648 ≤ A - B ∧ A - B ≤ 2147483647) (hv : v.toInt = A - B) (h : mm_T X d mi (pc + len) ls (.int v :: st) M Q) : mm_T X d mi pc ls (.int y :: .int x :: st) M Q := to_2 (v := v) hc (congrArg some (Int32.toInt_inj.mp ((i_sub ex ey hr).trans hv.symm))) h
theorem s_mulk (hc : mm_code mi pc = some (.imul, len, a, b, ps)) (ex : x.toInt = A) (ey : y.toInt = B) (hr : -2147483648 ≤ A * B ∧ A * B ≤ 2147483647) (hv : v.toInt = A * B) (h : mm_T X d mi (pc + len) ls (.int v :: st) M Q) : mm_T X d mi pc ls (.int y :: .int x :: st) M Q := to_2 (v := v) hc (congrArg some (Int32.toInt_inj.mp ((i_mul ex ey hr).trans hv.symm))) h
end S4
/-! THE REFERENCE'S PLAN: what holds of its rows; the upper halves are those being read -/
abbrev FA_c (s f l z : Int) : Prop := ((s = 1 ∨ s = 2) → z ≤ 10) ∧ (s = 3 → 1 ≤ z ∧ z ≤ 4 ∧ z ≤ l - f + 1) ∧ f ≤ l
noncomputable def FA (M : mm_M) : Prop := ∀ i : Nat, FA_c (M.2.1 81 i).toInt (M.2.1 82 i).toInt (M.2.1 83 i).toInt (M.2.1 84 i).toInt
theorem FA_f {M M1 : mm_M} (h : ∀ a i, (81 ≤ a ∧ a ≤ 84) → M1.2.1 a i = M.2.1 a i) (H : FA M) : FA M1 := fun i => by
  rw [h 81 i (by omega), h 82 i (by omega), h 83 i (by omega), h 84 i (by omega)]
  exact H i
theorem FA_u {M : mm_M} (H : FA M) (i : Nat) : FA_c (M.2.1 81 i).toInt (M.2.1 82 i).toInt (M.2.1 83 i).toInt (M.2.1 84 i).toInt := H i
theorem FA_k {M M1 M2 M3 M4 : mm_M} {n : Nat} {s f l z : Int32} (H : FA M) (W1 : M1 = mm_setI M 81 n s) (W2 : M2 = mm_setI M1 82 n f) (W3 : M3 = mm_setI M2 83 n l) (W4 : M4 = mm_setI M3 84 n z) (hc : FA_c s.toInt f.toInt l.toInt z.toInt) : FA M4 := by
  intro i
  by_cases e : i = n
  · subst e
    rw [W_n W4 (by omega) (W_n W3 (by omega) (W_n W2 (by omega) (W_e W1))), W_n W4 (by omega) (W_n W3 (by omega) (W_e W2)), W_n W4 (by omega) (W_e W3), W_e W4]
    exact hc
  · rw [W_n W4 (by omega) (W_n W3 (by omega) (W_n W2 (by omega) (W_n W1 (by omega) rfl))), W_n W4 (by omega) (W_n W3 (by omega) (W_n W2 (by omega) (W_n W1 (by omega) rfl))), W_n W4 (by omega) (W_n W3 (by omega) (W_n W2 (by omega) (W_n W1 (by omega) rfl))), W_n W4 (by omega) (W_n W3 (by omega) (W_n W2 (by omega) (W_n W1 (by omega) rfl)))]
    exact H i
/-- WORDS being read lie in laid FIELDS -/
noncomputable def WR (M : mm_M) : Prop := ∀ w : Nat, w < 12 → (w : Int) < (M.2.1 77 16).toInt → (M.2.1 86 (12 + w)).toInt.toNat < 8 ∧ (0 ≤ (M.2.1 86 (12 + w)).toInt ∧ (M.2.1 86 (12 + w)).toInt < (M.2.1 77 15).toInt) ∧ (M.2.1 81 (8 + (M.2.1 86 (12 + w)).toInt.toNat)).toInt = 3
noncomputable def WC (M : mm_M) : Prop := ∀ w : Nat, w < 12 → (w : Int) < (M.2.1 77 13).toInt → (M.2.1 86 w).toInt.toNat < 8 ∧ (M.2.1 81 (M.2.1 86 w).toInt.toNat).toInt = 3
abbrev WR_r (a i : Nat) : Prop := a = 77 ∧ (i = 15 ∨ i = 16) ∨ a = 86 ∧ 12 ≤ i ∧ i < 24 ∨ a = 81 ∧ 8 ≤ i ∧ i < 16
abbrev WC_r (a i : Nat) : Prop := a = 77 ∧ i = 13 ∨ a = 86 ∧ i < 12 ∨ a = 81 ∧ i < 8
theorem WR_f {M M1 : mm_M} (h : ∀ a i, WR_r a i → M1.2.1 a i = M.2.1 a i) (H : WR M) : WR M1 := fun w hw hl => by
  rw [h 77 16 (by omega)] at hl
  obtain ⟨g1, g2, g3⟩ := H w hw hl
  rw [h 86 (12 + w) (by omega), h 77 15 (by omega), h 81 _ (by omega)]
  exact ⟨g1, g2, g3⟩
theorem WC_f {M M1 : mm_M} (h : ∀ a i, WC_r a i → M1.2.1 a i = M.2.1 a i) (H : WC M) : WC M1 := fun w hw hl => by
  rw [h 77 13 (by omega)] at hl
  obtain ⟨g1, g2⟩ := H w hw hl
  rw [h 86 w (by omega), h 81 _ (by omega)]
  exact ⟨g1, g2⟩
theorem WR_0 {M : mm_M} (h : (M.2.1 77 16).toInt = 0) : WR M := fun w _ hl => by omega
/-- a FIELD more -/
theorem WR_field {M M1 : mm_M} {n : Nat} (H : WR M) (hn : (n : Int) = (M.2.1 77 15).toInt) (h16 : M1.2.1 77 16 = M.2.1 77 16) (h86 : ∀ i, M1.2.1 86 i = M.2.1 86 i) (h81 : ∀ i, ¬ i = 8 + n → M1.2.1 81 i = M.2.1 81 i) (h15 : (M.2.1 77 15).toInt ≤ (M1.2.1 77 15).toInt) : WR M1 := fun w hw hl => by
  rw [h16] at hl
  obtain ⟨g1, g2, g3⟩ := H w hw hl
  rw [h86, h81 _ (by omega)]
  exact ⟨g1, by omega, g3⟩
/-- a WORD more -/
theorem WR_word {M M1 : mm_M} {n : Nat} {f : Int32} (H : WR M) (hn : (n : Int) = (M.2.1 77 16).toInt) (h15 : M1.2.1 77 15 = M.2.1 77 15) (h81 : ∀ i, M1.2.1 81 i = M.2.1 81 i) (h86 : ∀ i, ¬ i = 12 + n → M1.2.1 86 i = M.2.1 86 i) (hf : M1.2.1 86 (12 + n) = f) (h16 : (M1.2.1 77 16).toInt = (n : Int) + 1) (hf0 : 0 ≤ f.toInt ∧ f.toInt < (M.2.1 77 15).toInt ∧ f.toInt ≤ 7) (h3 : (M.2.1 81 (8 + f.toInt.toNat)).toInt = 3) : WR M1 := fun w hw hl => by
  by_cases e : w = n
  · subst e
    rw [hf, h15, h81]
    exact ⟨by omega, by omega, h3⟩
  · obtain ⟨g1, g2, g3⟩ := H w hw (by omega)
    rw [h86 _ (by omega), h15, h81]
    exact ⟨g1, g2, g3⟩
/-- what is read becomes what is -/
theorem WC_k {M : mm_M} (H : WR M) (h13 : (M.2.1 77 13).toInt = (M.2.1 77 16).toInt) (h15 : (M.2.1 77 15).toInt ≤ 8) (h81 : ∀ j : Nat, j < 8 → M.2.1 81 j = M.2.1 81 (8 + j)) (h86 : ∀ j : Nat, j < 12 → M.2.1 86 j = M.2.1 86 (12 + j)) : WC M := fun w hw hl => by
  obtain ⟨g1, g2, g3⟩ := H w hw (by omega)
  rw [h86 w hw, h81 _ g1]
  exact ⟨g1, g3⟩
theorem CP_s {M M1 : mm_M} {r o k : Nat} {v : Int32} (H : ∀ j : Nat, j < k → M.2.1 r j = M.2.1 r (o + j)) (ho : k < o) (hn : ∀ i, ¬ i = k → M1.2.1 r i = M.2.1 r i) (hk : M1.2.1 r k = v) (hv : M.2.1 r (o + k) = v) : ∀ j : Nat, j < k + 1 → M1.2.1 r j = M1.2.1 r (o + j) := fun j hj => by
  rw [hn (o + j) (by omega)]
  by_cases e : j = k
  · subst e
    rw [hk, hv]
  · rw [hn j e]
    exact H j (by omega)
theorem CP_f {M M1 : mm_M} {r o k : Nat} (H : ∀ j : Nat, j < k → M.2.1 r j = M.2.1 r (o + j)) (hn : ∀ i, M1.2.1 r i = M.2.1 r i) : ∀ j : Nat, j < k → M1.2.1 r j = M1.2.1 r (o + j) := fun j hj => by
  rw [hn, hn]
  exact H j hj
/-- PACKS: no more CARDS in all than there are -/
noncomputable def PSm (M : mm_M) : Int := (M.2.1 100 0).toInt + (M.2.1 100 1).toInt + (M.2.1 100 2).toInt + (M.2.1 100 3).toInt + (M.2.1 100 4).toInt + (M.2.1 100 5).toInt
noncomputable def PS (M : mm_M) : Prop := PSm M ≤ (M.2.1 77 28).toInt
theorem PS_f {M M1 : mm_M} (h : ∀ a i, (a = 100 ∨ a = 77 ∧ i = 28) → M1.2.1 a i = M.2.1 a i) (H : PS M) : PS M1 := by
  unfold PS PSm at H ⊢
  rw [h 100 0 (by omega), h 100 1 (by omega), h 100 2 (by omega), h 100 3 (by omega), h 100 4 (by omega), h 100 5 (by omega), h 77 28 (by omega)]
  exact H
theorem PS_0 {M : mm_M} (h : ∀ j : Nat, j < 6 → M.2.1 100 j = 0) (hc : 0 ≤ (M.2.1 77 28).toInt) : PS M := by
  unfold PS PSm
  rw [h 0 (by omega), h 1 (by omega), h 2 (by omega), h 3 (by omega), h 4 (by omega), h 5 (by omega)]
  have : (0 : Int32).toInt = 0 := rfl
  omega
theorem ZR_s {M M1 : mm_M} {r k : Nat} {v : Int32} (H : ∀ j : Nat, j < k → M.2.1 r j = v) (hn : ∀ i, ¬ i = k → M1.2.1 r i = M.2.1 r i) (hk : M1.2.1 r k = v) : ∀ j : Nat, j < k + 1 → M1.2.1 r j = v := fun j hj => by
  by_cases e : j = k
  · subst e
    exact hk
  · rw [hn j e]
    exact H j (by omega)
theorem FA_copy {M M1 M2 M3 M4 : mm_M} {n m : Nat} {s f l z : Int32} (H : FA M) (hs : M.2.1 81 m = s) (hf : M.2.1 82 m = f) (hl : M.2.1 83 m = l) (hz : M.2.1 84 m = z) (W1 : M1 = mm_setI M 81 n s) (W2 : M2 = mm_setI M1 82 n f) (W3 : M3 = mm_setI M2 83 n l) (W4 : M4 = mm_setI M3 84 n z) : FA M4 := FA_k H W1 W2 W3 W4 (by rw [← hs, ← hf, ← hl, ← hz]; exact H m)
/-! THE REFERENCE'S NOTES and its QUESTION -/
noncomputable def NJ (M : mm_M) : Prop := ∀ k : Nat, k < 150 → (k : Int) < (M.2.1 77 29).toInt →
  ((M.2.1 90 k).toInt = 0 → (M.2.1 91 k).toInt ≤ 29 ∧ (0 ≤ (M.2.1 92 k).toInt ∧ (M.2.1 92 k).toInt ≤ 7) ∧ 0 ≤ (M.2.1 93 k).toInt ∧ ((M.2.1 81 (M.2.1 92 k).toInt.toNat).toInt = 0 ∨ (M.2.1 93 k).toInt ≤ 9)) ∧
  ((M.2.1 90 k).toInt = 1 → (M.2.1 91 k).toInt ≤ 29 ∧ 0 ≤ (M.2.1 92 k).toInt ∧ (M.2.1 92 k).toInt ≤ 11) ∧ ((M.2.1 90 k).toInt = 2 → (M.2.1 91 k).toInt ≤ 29) ∧ ((M.2.1 90 k).toInt = 3 → (M.2.1 91 k).toInt ≤ 29) ∧ ((M.2.1 90 k).toInt = 4 → (M.2.1 91 k).toInt ≤ 11)
abbrev NJ_r (a i : Nat) : Prop := a = 77 ∧ i = 29 ∨ 90 ≤ a ∧ a ≤ 93 ∨ a = 81 ∧ i < 8
theorem NJ_f {M M1 : mm_M} (h : ∀ a i, NJ_r a i → M1.2.1 a i = M.2.1 a i) (H : NJ M) : NJ M1 := fun k hk hl => by
  rw [h 77 29 (by omega)] at hl
  obtain ⟨g1, g2⟩ := H k hk hl
  rw [h 90 k (by omega), h 91 k (by omega), h 92 k (by omega), h 93 k (by omega)]
  refine ⟨fun hw => ?_, g2⟩
  obtain ⟨a1, a2, a3, a4⟩ := g1 hw
  rw [h 81 _ (by omega)]
  exact ⟨a1, a2, a3, a4⟩
theorem NJ_0 {M : mm_M} (h : (M.2.1 77 29).toInt = 0) : NJ M := fun k _ hl => by omega
theorem NJ_k {M M1 : mm_M} {n : Nat} {w o m v : Int32} (H : NJ M) (hn : (n : Int) = (M.2.1 77 29).toInt) (h29 : (M1.2.1 77 29).toInt = (n : Int) + 1) (hf : ∀ a i, (90 ≤ a ∧ a ≤ 93 ∧ ¬ i = n ∨ a = 81) → M1.2.1 a i = M.2.1 a i) (e0 : M1.2.1 90 n = w) (e1 : M1.2.1 91 n = o) (e2 : M1.2.1 92 n = m) (e3 : M1.2.1 93 n = v)
    (c0 : w.toInt = 0 → o.toInt ≤ 29 ∧ (0 ≤ m.toInt ∧ m.toInt ≤ 7) ∧ 0 ≤ v.toInt ∧ ((M.2.1 81 m.toInt.toNat).toInt = 0 ∨ v.toInt ≤ 9)) (c1 : w.toInt = 1 → o.toInt ≤ 29 ∧ 0 ≤ m.toInt ∧ m.toInt ≤ 11) (c2 : w.toInt = 2 → o.toInt ≤ 29) (c3 : w.toInt = 3 → o.toInt ≤ 29) (c4 : w.toInt = 4 → o.toInt ≤ 11) : NJ M1 := fun k hk hl => by
  by_cases e : k = n
  · subst e
    rw [e0, e1, e2, e3, hf 81 _ (Or.inr rfl)]
    exact ⟨c0, c1, c2, c3, c4⟩
  · rw [hf 90 k (by omega), hf 91 k (by omega), hf 92 k (by omega), hf 93 k (by omega), hf 81 _ (Or.inr rfl)]
    exact H k hk (by omega)
theorem NJ_u {M : mm_M} {A : Int} (H : NJ M) (h0 : 0 ≤ A) (h1 : A < (M.2.1 77 29).toInt) (h2 : A < 150) :
  ((M.2.1 90 A.toNat).toInt = 0 → (M.2.1 91 A.toNat).toInt ≤ 29 ∧ (0 ≤ (M.2.1 92 A.toNat).toInt ∧ (M.2.1 92 A.toNat).toInt ≤ 7) ∧ 0 ≤ (M.2.1 93 A.toNat).toInt ∧ ((M.2.1 81 (M.2.1 92 A.toNat).toInt.toNat).toInt = 0 ∨ (M.2.1 93 A.toNat).toInt ≤ 9)) ∧
  ((M.2.1 90 A.toNat).toInt = 1 → (M.2.1 91 A.toNat).toInt ≤ 29 ∧ 0 ≤ (M.2.1 92 A.toNat).toInt ∧ (M.2.1 92 A.toNat).toInt ≤ 11) ∧ ((M.2.1 90 A.toNat).toInt = 2 → (M.2.1 91 A.toNat).toInt ≤ 29) ∧ ((M.2.1 90 A.toNat).toInt = 3 → (M.2.1 91 A.toNat).toInt ≤ 29) ∧ ((M.2.1 90 A.toNat).toInt = 4 → (M.2.1 91 A.toNat).toInt ≤ 11) := H A.toNat (by omega) (by omega)
/-- knots from one on, k of them -/
noncomputable def KN (M : mm_M) (z n : Nat) : Prop := ∀ k : Nat, k < 40 → k < n →
  ((M.2.1 112 (z + k)).toInt = 0 → (0 ≤ (M.2.1 113 (z + k)).toInt ∧ (M.2.1 113 (z + k)).toInt ≤ 7) ∧ 0 ≤ (M.2.1 114 (z + k)).toInt ∧ ((M.2.1 81 (M.2.1 113 (z + k)).toInt.toNat).toInt = 0 ∨ (M.2.1 114 (z + k)).toInt ≤ 9)) ∧
  ((M.2.1 112 (z + k)).toInt = 1 → 0 ≤ (M.2.1 113 (z + k)).toInt ∧ (M.2.1 113 (z + k)).toInt ≤ 11) ∧ ((M.2.1 112 (z + k)).toInt = 3 → 0 ≤ (M.2.1 114 (z + k)).toInt ∧ (M.2.1 114 (z + k)).toInt ≤ 39) ∧ ((M.2.1 112 (z + k)).toInt = 4 → 0 ≤ (M.2.1 114 (z + k)).toInt ∧ (M.2.1 114 (z + k)).toInt ≤ 39)
theorem KN_f {M M1 : mm_M} {z n : Nat} (h : ∀ a i, (112 ≤ a ∧ a ≤ 114 ∧ z ≤ i ∧ i < z + 40 ∨ a = 81 ∧ i < 8) → M1.2.1 a i = M.2.1 a i) (H : KN M z n) : KN M1 z n := fun k hk hl => by
  obtain ⟨g1, g2⟩ := H k hk hl
  rw [h 112 _ (by omega), h 113 _ (by omega), h 114 _ (by omega)]
  refine ⟨fun hw => ?_, g2⟩
  obtain ⟨a2, a3, a4⟩ := g1 hw
  rw [h 81 _ (by omega)]
  exact ⟨a2, a3, a4⟩
noncomputable def KQ (M : mm_M) : Prop := KN M 0 (M.2.1 77 58).toInt.toNat ∧ ((M.2.1 77 57).toInt = 1 → 1 ≤ (M.2.1 77 58).toInt)
abbrev KQ_r (a i : Nat) : Prop := 112 ≤ a ∧ a ≤ 114 ∧ i < 40 ∨ a = 81 ∧ i < 8 ∨ a = 77 ∧ (i = 57 ∨ i = 58)
theorem KQ_f {M M1 : mm_M} (h : ∀ a i, KQ_r a i → M1.2.1 a i = M.2.1 a i) (H : KQ M) : KQ M1 := by
  unfold KQ
  rw [h 77 58 (by omega), h 77 57 (by omega)]
  exact ⟨KN_f (fun a i z => h a i (by omega)) H.1, H.2⟩
theorem KQ_0 {M : mm_M} (h : (M.2.1 77 58).toInt = 0) (h2 : (M.2.1 77 57).toInt = 0) : KQ M := by
  refine ⟨fun k _ hl => ?_, fun z => ?_⟩
  · rw [h] at hl
    exact absurd hl (by omega)
  · rw [h2] at z
    exact absurd z (by omega)
theorem g_nn {M : mm_M} (hG : g_G M) (i : Nat) : 0 ≤ (M.2.1 100 i).toInt ∧ (M.2.1 100 i).toInt ≤ 30 := g_b hG rfl rfl
theorem PSm_le {M : mm_M} (hG : g_G M) {p : Nat} (hp : p < 6) : (M.2.1 100 p).toInt ≤ PSm M := by
  have h0 := g_nn hG 0
  have h1 := g_nn hG 1
  have h2 := g_nn hG 2
  have h3 := g_nn hG 3
  have h4 := g_nn hG 4
  have h5 := g_nn hG 5
  unfold PSm
  rcases (show p = 0 ∨ p = 1 ∨ p = 2 ∨ p = 3 ∨ p = 4 ∨ p = 5 by omega) with z | z | z | z | z | z <;> subst z <;> omega
theorem PSm_le2 {M : mm_M} (hG : g_G M) {p q : Nat} (hp : p < 6) (hq : q < 6) (hn : ¬ p = q) : (M.2.1 100 p).toInt + (M.2.1 100 q).toInt ≤ PSm M := by
  have h0 := g_nn hG 0
  have h1 := g_nn hG 1
  have h2 := g_nn hG 2
  have h3 := g_nn hG 3
  have h4 := g_nn hG 4
  have h5 := g_nn hG 5
  unfold PSm
  rcases (show p = 0 ∨ p = 1 ∨ p = 2 ∨ p = 3 ∨ p = 4 ∨ p = 5 by omega) with z | z | z | z | z | z <;> subst z <;> rcases (show q = 0 ∨ q = 1 ∨ q = 2 ∨ q = 3 ∨ q = 4 ∨ q = 5 by omega) with z | z | z | z | z | z <;> subst z <;> first | omega | (exact absurd rfl hn)
theorem PSm_set {M M1 : mm_M} {p : Nat} (hp : p < 6) (hn : ∀ i, ¬ i = p → M1.2.1 100 i = M.2.1 100 i) : PSm M1 = PSm M - (M.2.1 100 p).toInt + (M1.2.1 100 p).toInt := by
  unfold PSm
  rcases (show p = 0 ∨ p = 1 ∨ p = 2 ∨ p = 3 ∨ p = 4 ∨ p = 5 by omega) with z | z | z | z | z | z <;> subst z
  · rw [hn 1 (by omega), hn 2 (by omega), hn 3 (by omega), hn 4 (by omega), hn 5 (by omega)]; omega
  · rw [hn 0 (by omega), hn 2 (by omega), hn 3 (by omega), hn 4 (by omega), hn 5 (by omega)]; omega
  · rw [hn 0 (by omega), hn 1 (by omega), hn 3 (by omega), hn 4 (by omega), hn 5 (by omega)]; omega
  · rw [hn 0 (by omega), hn 1 (by omega), hn 2 (by omega), hn 4 (by omega), hn 5 (by omega)]; omega
  · rw [hn 0 (by omega), hn 1 (by omega), hn 2 (by omega), hn 3 (by omega), hn 5 (by omega)]; omega
  · rw [hn 0 (by omega), hn 1 (by omega), hn 2 (by omega), hn 3 (by omega), hn 4 (by omega)]; omega
theorem PSm_f {M M1 : mm_M} (h : ∀ i, M1.2.1 100 i = M.2.1 100 i) : PSm M1 = PSm M := by
  unfold PSm
  rw [h 0, h 1, h 2, h 3, h 4, h 5]
theorem PSm_0 {M : mm_M} (h : ∀ j : Nat, j < 6 → M.2.1 100 j = 0) : PSm M = 0 := by
  unfold PSm
  rw [h 0 (by omega), h 1 (by omega), h 2 (by omega), h 3 (by omega), h 4 (by omega), h 5 (by omega)]
  rfl
theorem PS_i {M : mm_M} (h : PSm M ≤ (M.2.1 77 28).toInt) : PS M := h
theorem PS_e {M : mm_M} (h : PS M) : PSm M ≤ (M.2.1 77 28).toInt := h
