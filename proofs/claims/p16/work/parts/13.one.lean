/-! ONE STEP is sound -/
theorem mm_cnd_P {c : ClassFile.Cond} {x y : Int32} {t e : Prop} (h : mm_cnd c x y t e) : (c = .eq ∧ ((x = y ∧ t) ∨ (¬ x = y ∧ e))) ∨ (c = .ne ∧ ((¬ x = y ∧ t) ∨ (x = y ∧ e))) ∨ (c = .lt ∧ ((x < y ∧ t) ∨ (¬ x < y ∧ e))) ∨ (c = .ge ∧ ((y ≤ x ∧ t) ∨ (¬ y ≤ x ∧ e))) ∨ (c = .gt ∧ ((y < x ∧ t) ∨ (¬ y < x ∧ e))) ∨ (c = .le ∧ ((x ≤ y ∧ t) ∨ (¬ x ≤ y ∧ e))) := by
  cases c <;> simp only [mm_cnd] at h <;> split at h <;> rename_i hc <;> simp [hc, h]
theorem mm_cT_at {pc : Nat} : ∀ {os : List Int} {ts : List Nat}, mm_cT pc os ts = true → ∀ {i t : Nat}, ts[i]? = some t → ∃ o, os[i]? = some o ∧ (pc : Int) + o = (t : Int)
  | [], [], _, i, t, h => by simp at h
  | o :: os, t :: ts, h, 0, t', h2 => by
    simp only [mm_cT, Bool.and_eq_true, decide_eq_true_eq] at h
    cases h2
    exact ⟨o, rfl, h.1⟩
  | o :: os, t :: ts, h, i + 1, t', h2 => by
    simp only [mm_cT, Bool.and_eq_true, decide_eq_true_eq] at h
    exact mm_cT_at h.2 (by simpa using h2)
  | [], _ :: _, h, _, _, _ => by simp [mm_cT] at h
  | _ :: _, [], h, _, _, _ => by simp [mm_cT] at h
theorem mm_pop_P : ∀ {n : Nat} {as st : List Value} {K : List Value → List Value → Prop}, mm_pop n as st K False → ∃ x r, K x r
  | 0, _, _, _, h => ⟨_, _, h⟩
  | _ + 1, _, [], _, h => h.elim
  | n + 1, _, _ :: _, _, h => mm_pop_P (n := n) h
theorem rl_V_I {B : Nat} {M : mm_M} {c a k : Nat} {x : Int32} (h : mm_fk c k = 0 ∨ mm_fk c k = 1) (i : Nat) : updV (rl_V B M c a) k (.int x) i = rl_V B (mm_setI M a k x) c a i := by
  unfold updV rl_V
  rw [mm_setI_at]
  by_cases e : i = k
  · subst e
    rw [if_pos rfl, if_pos rfl]
    rcases h with h | h <;> (rw [h]; rfl)
  · rw [if_neg e, if_neg e]
    rfl
theorem rl_V_L {B : Nat} {M : mm_M} {c a k : Nat} {x : Int64} (h : mm_fk c k = 2) (i : Nat) : updV (rl_V B M c a) k (.long x) i = rl_V B (mm_setL M a k x) c a i := by
  unfold updV rl_V
  rw [mm_setL_at]
  by_cases e : i = k
  · subst e
    rw [if_pos rfl, if_pos rfl, h]
    rfl
  · rw [if_neg e, if_neg e]
    rfl
theorem rl_V_R {B : Nat} {M : mm_M} {c a k : Nat} {x : Nat} (h : mm_fk c k = 3) (i : Nat) : updV (rl_V B M c a) k (.ref (B + x)) i = rl_V B (mm_setR M a k (some x)) c a i := by
  unfold updV rl_V
  rw [mm_setR_at]
  by_cases e : i = k
  · subst e
    rw [if_pos rfl, if_pos rfl, h]
    rfl
  · rw [if_neg e, if_neg e]
    rfl
theorem lk_at (o : Nat) (ho : o < 15) : ∀ d ∈ mm_ln o, mm_lc o d ∈ lw_tbl := mm_all_at (P := fun o => ∀ d ∈ mm_ln o, mm_lc o d ∈ lw_tbl) (lo := 0) (n := 15) ⟨lk_in_0, lk_in_1, lk_in_2, lk_in_3, lk_in_4, lk_in_5, lk_in_6, lk_in_7, lk_in_8, lk_in_9, lk_in_10, lk_in_11, lk_in_12, lk_in_13, lk_in_14, trivial⟩ o (Nat.zero_le _) (by omega)
theorem ow_all : mm_fo mm_nm (fun mi => Nat.blt (mm_ow mi) 15) = true := by decide +kernel
theorem ow_lt {mi : Nat} (h : mi < mm_nm) : mm_ow mi < 15 := Nat.le_of_ble_eq_true (mm_fo_at ow_all mi h)
theorem mm_tr_cat (B : Nat) (E : Nat → Nat) (v : Value) : (mm_tr B E v).category = v.category := by cases v <;> rfl
theorem mm_tr_sum (B : Nat) (E : Nat → Nat) (st : List Value) : ((st.map (mm_tr B E)).map fun v => v.category).sum = (st.map fun v => v.category).sum := by
  rw [List.map_map]
  congr 1
  exact List.map_congr_left (fun v _ => mm_tr_cat B E v)
theorem sn_sum (B : Nat) (E : Nat → Nat) (st : List Value) (h : (st.map fun v => v.category).sum ≤ 100) : ((st.map (mm_tr B E)).map fun v => v.category).sum ≤ 100 := by rw [mm_tr_sum]; exact h
section SNS
variable {p : Program} {l : Launch} {e : Env} {R : Room} {s : State} {m : MethodId} {args : Array Value} {below : List Frame} {meth : Method} {c : Code} {H : Heap} {locs : List Loc} {cells slots : Nat} {Q : State → Prop}
variable {D : va_G} {E : Nat → Nat} {X : mm_X} {B c0 s0 : Nat} {mi pc : Nat} {lsA : Array Slot} {ls st : List Value} {M : mm_M}
theorem sn_lk {pl : Nat} {d : Nat × Nat × Nat × Nat} (hm : mi < mm_nm) (h : (mm_ln (mm_ow mi))[pl]? = some d) : mm_lc (mm_ow mi) d ∈ lw_tbl := lk_at _ (ow_lt hm) d (List.mem_of_getElem? h)
set_option maxHeartbeats 4000000 in
theorem sn_one {q : mm_R} (hC : sn_C D E X B p s m args meth c mi) (hrow : mm_code mi pc = some q) (hI : sn_I D B s c0 s0 M H locs cells slots) (hl : lvR B E lsA (mm_mx mi) ls) (hR1 : 1 ≤ R.frames) (hR2 : 120 ≤ R.locals) (KW : mm_O → Prop) (hk : mm_stepK X q pc ls st M KW False)
    (hgo : ∀ pc' ls' st' M', KW (.inl (pc', ls', st', M')) → (M'.1.2.1 ≤ c0 + R.cells ∧ M'.1.2.2.1 ≤ s0 + R.slots) ∧ ∀ H' locs' lsA' cells' slots', sn_I D B s c0 s0 M' H' locs' cells' slots' → lvR B E lsA' (mm_mx mi) ls' → W p l e R s m args below meth c H' locs' cells' slots' Q (F0 m pc' lsA' (st'.map (mm_tr B E))))
    (hot : ∀ o, KW (.inr o) → W p l e R s m args below meth c H locs cells slots Q (F0 m pc lsA (st.map (mm_tr B E)))) : W p l e R s m args below meth c H locs cells slots Q (F0 m pc lsA (st.map (mm_tr B E))) := by
  have hck := mm_ck_all mi pc q hrow
  obtain ⟨i, len, a, b, ps⟩ := q
  unfold mm_ck at hck
  rw [Bool.and_eq_true, decide_eq_true_eq] at hck
  obtain ⟨hd, hcx⟩ := hck
  have hx := hC.1
  have hb := hC.2.1
  have hown := hC.2.2.2.1
  have hts := hC.2.2.2.2.1
  have hnm := hC.2.2.2.2.2.2.2.2.2
  cases i with
  | aload k =>
    have hlen : len = 2 := of_decide_eq_true hcx
    subst hlen
    obtain ⟨x, h1, hk⟩ := mm_gR_P hk
    exact lv_aload hx hb hd (hl.r h1) ((hgo _ _ _ _ hk).2 _ _ _ _ _ hI hl)
  | aload_n k =>
    have hlen : len = 1 := of_decide_eq_true hcx
    subst hlen
    obtain ⟨x, h1, hk⟩ := mm_gR_P hk
    exact lv_aload_n hx hb hd rfl (hl.r h1) ((hgo _ _ _ _ hk).2 _ _ _ _ _ hI hl)
  | iload k =>
    have hlen : len = 2 := of_decide_eq_true hcx
    subst hlen
    obtain ⟨x, h1, hk⟩ := mm_gI_P hk
    exact lv_iload hx hb hd (hl.i h1) ((hgo _ _ _ _ hk).2 _ _ _ _ _ hI hl)
  | iload_n k =>
    have hlen : len = 1 := of_decide_eq_true hcx
    subst hlen
    obtain ⟨x, h1, hk⟩ := mm_gI_P hk
    exact lv_iload_n hx hb hd rfl (hl.i h1) ((hgo _ _ _ _ hk).2 _ _ _ _ _ hI hl)
  | lload k =>
    have hlen : len = 2 := of_decide_eq_true hcx
    subst hlen
    obtain ⟨x, h1, h2, hk⟩ := mm_gL_P hk
    obtain ⟨h3, hk⟩ := mm_b_P hk
    exact lv_lload hx hb hd (hl.l h1 h2 (Nat.le_of_ble_eq_true h3)) ((hgo _ _ _ _ hk).2 _ _ _ _ _ hI hl)
  | lload_n k =>
    have hlen : len = 1 := of_decide_eq_true hcx
    subst hlen
    obtain ⟨x, h1, h2, hk⟩ := mm_gL_P hk
    obtain ⟨h3, hk⟩ := mm_b_P hk
    exact lv_lload_n hx hb hd rfl (hl.l h1 h2 (Nat.le_of_ble_eq_true h3)) ((hgo _ _ _ _ hk).2 _ _ _ _ _ hI hl)
  | istore k =>
    have hlen : len = 2 := of_decide_eq_true hcx
    subst hlen
    obtain ⟨x, r, rfl, hk⟩ := mm_pI_P hk
    obtain ⟨h3, hk⟩ := mm_b_P hk
    have h4 := Nat.le_of_ble_eq_true h3
    exact lv_istore hx hb hd hl.2 (by rw [← hl.1]; exact h4) rfl (fun ls2 hl2 => (hgo _ _ _ _ hk).2 _ _ _ _ _ hI (lvR.of (by rw [mm_set_len]; exact hl.1) hl2 (lvR.set1 h4 (Or.inl ⟨_, rfl⟩))))
  | istore_n k =>
    have hlen : len = 1 := of_decide_eq_true hcx
    subst hlen
    obtain ⟨x, r, rfl, hk⟩ := mm_pI_P hk
    obtain ⟨h3, hk⟩ := mm_b_P hk
    have h4 := Nat.le_of_ble_eq_true h3
    exact lv_istore_n hx hb hd rfl hl.2 (by rw [← hl.1]; exact h4) rfl (fun ls2 hl2 => (hgo _ _ _ _ hk).2 _ _ _ _ _ hI (lvR.of (by rw [mm_set_len]; exact hl.1) hl2 (lvR.set1 h4 (Or.inl ⟨_, rfl⟩))))
  | astore k =>
    have hlen : len = 2 := of_decide_eq_true hcx
    subst hlen
    obtain ⟨x, r, rfl, hk⟩ := mm_pR_P hk
    obtain ⟨h3, hk⟩ := mm_b_P hk
    have h4 := Nat.le_of_ble_eq_true h3
    exact lv_astore hx hb hd hl.2 (by rw [← hl.1]; exact h4) rfl (fun ls2 hl2 => (hgo _ _ _ _ hk).2 _ _ _ _ _ hI (lvR.of (by rw [mm_set_len]; exact hl.1) hl2 (lvR.set1 h4 (Or.inr ⟨_, rfl⟩))))
  | astore_n k =>
    have hlen : len = 1 := of_decide_eq_true hcx
    subst hlen
    obtain ⟨x, r, rfl, hk⟩ := mm_pR_P hk
    obtain ⟨h3, hk⟩ := mm_b_P hk
    have h4 := Nat.le_of_ble_eq_true h3
    exact lv_astore_n hx hb hd rfl hl.2 (by rw [← hl.1]; exact h4) rfl (fun ls2 hl2 => (hgo _ _ _ _ hk).2 _ _ _ _ _ hI (lvR.of (by rw [mm_set_len]; exact hl.1) hl2 (lvR.set1 h4 (Or.inr ⟨_, rfl⟩))))
  | lstore k =>
    have hlen : len = 2 := of_decide_eq_true hcx
    subst hlen
    obtain ⟨x, r, rfl, hk⟩ := mm_pL_P hk
    obtain ⟨h3, hk⟩ := mm_b_P hk
    have h4 := Nat.le_of_ble_eq_true h3
    exact lv_lstore hx hb hd hl.2 (by rw [← hl.1]; exact h4) rfl (fun ls2 hl2 => (hgo _ _ _ _ hk).2 _ _ _ _ _ hI (lvR.of (by rw [mm_set_len, mm_set_len]; exact hl.1) hl2 (lvR.set2 h4)))
  | lstore_n k =>
    have hlen : len = 1 := of_decide_eq_true hcx
    subst hlen
    obtain ⟨x, r, rfl, hk⟩ := mm_pL_P hk
    obtain ⟨h3, hk⟩ := mm_b_P hk
    have h4 := Nat.le_of_ble_eq_true h3
    exact lv_lstore_n hx hb hd rfl hl.2 (by rw [← hl.1]; exact h4) rfl (fun ls2 hl2 => (hgo _ _ _ _ hk).2 _ _ _ _ _ hI (lvR.of (by rw [mm_set_len, mm_set_len]; exact hl.1) hl2 (lvR.set2 h4)))
  | iinc k n =>
    simp only [mm_cx, Bool.and_eq_true, decide_eq_true_eq] at hcx
    obtain ⟨hlen, hcx⟩ := hcx
    subst hlen
    obtain ⟨x, h1, hk⟩ := mm_gI_P hk
    obtain ⟨h3, hk⟩ := mm_b_P hk
    have h4 := Nat.le_of_ble_eq_true h3
    have hm : (k, Value.int x) ∈ mm_cl B E ls := mm_cl_mem.mpr ⟨h4, mm_cl1_mk (Or.inl ⟨x, h1, rfl⟩)⟩
    obtain ⟨j, hj⟩ := List.getElem?_of_mem hm
    exact lv_iinc hx hb hd hl.2 (k := j) hj (v := x + mm_i a b) (by rw [hcx]) (by rw [← hl.1]; exact h4) rfl (fun ls2 hl2 => (hgo _ _ _ _ hk).2 _ _ _ _ _ hI (lvR.of (by rw [mm_set_len]; exact hl.1) hl2 (lvR.set1 h4 (Or.inl ⟨_, rfl⟩))))
  | iconst n =>
    simp only [mm_cx, Bool.and_eq_true, decide_eq_true_eq] at hcx
    obtain ⟨hlen, hcx⟩ := hcx
    subst hlen
    exact lv_iconst hx hb hd hcx ((hgo _ _ _ _ hk).2 _ _ _ _ _ hI hl)
  | bipush n =>
    simp only [mm_cx, Bool.and_eq_true, decide_eq_true_eq] at hcx
    obtain ⟨hlen, hcx⟩ := hcx
    subst hlen
    exact lv_bipush hx hb hd hcx ((hgo _ _ _ _ hk).2 _ _ _ _ _ hI hl)
  | sipush n =>
    simp only [mm_cx, Bool.and_eq_true, decide_eq_true_eq] at hcx
    obtain ⟨hlen, hcx⟩ := hcx
    subst hlen
    exact lv_sipush hx hb hd hcx ((hgo _ _ _ _ hk).2 _ _ _ _ _ hI hl)
  | lconst n =>
    simp only [mm_cx, Bool.and_eq_true, decide_eq_true_eq] at hcx
    obtain ⟨hlen, hcx⟩ := hcx
    subst hlen
    exact lv_lconst hx hb hd hcx ((hgo _ _ _ _ hk).2 _ _ _ _ _ hI hl)
  | ldc n =>
    simp only [mm_cx, Bool.and_eq_true, decide_eq_true_eq] at hcx
    obtain ⟨hlen, hcx⟩ := hcx
    subst hlen
    split at hcx
    · simp only [Bool.or_eq_true, Bool.and_eq_true, mm_cL, decide_eq_true_eq] at hcx
      rcases hcx with ⟨h1, h2⟩ | ⟨h1, h2⟩
      · have h3 := Nat.eq_of_beq_eq_true h1
        subst h3
        exact lv_ldc hx hb hown (hts _ (sn_lk hnm h2) rfl) hd ((hgo _ _ _ _ hk).2 _ _ _ _ _ hI hl)
      · have h3 := Nat.eq_of_beq_eq_true h1
        subst h3
        exact lv_ldc hx hb hown (hts _ (sn_lk hnm h2) rfl) hd ((hgo _ _ _ _ hk).2 _ _ _ _ _ hI hl)
    · cases hcx
  | ldc_w n =>
    simp only [mm_cx, Bool.and_eq_true, decide_eq_true_eq] at hcx
    obtain ⟨hlen, hcx⟩ := hcx
    subst hlen
    split at hcx
    · simp only [Bool.or_eq_true, Bool.and_eq_true, mm_cL, decide_eq_true_eq] at hcx
      rcases hcx with ⟨h1, h2⟩ | ⟨h1, h2⟩
      · have h3 := Nat.eq_of_beq_eq_true h1
        subst h3
        exact lv_ldcw hx hb hown (hts _ (sn_lk hnm h2) rfl) hd ((hgo _ _ _ _ hk).2 _ _ _ _ _ hI hl)
      · have h3 := Nat.eq_of_beq_eq_true h1
        subst h3
        exact lv_ldcw hx hb hown (hts _ (sn_lk hnm h2) rfl) hd ((hgo _ _ _ _ hk).2 _ _ _ _ _ hI hl)
    · cases hcx
  | ldc2_w n =>
    simp only [mm_cx, Bool.and_eq_true, decide_eq_true_eq] at hcx
    obtain ⟨hlen, hcx⟩ := hcx
    subst hlen
    split at hcx
    · simp only [Bool.or_eq_true, Bool.and_eq_true, mm_cL, decide_eq_true_eq] at hcx
      rcases hcx with ⟨h1, h2⟩ | ⟨h1, h2⟩
      · have h3 := Nat.eq_of_beq_eq_true h1
        subst h3
        exact lv_ldc2 hx hb hown (hts _ (sn_lk hnm h2) rfl) hd ((hgo _ _ _ _ hk).2 _ _ _ _ _ hI hl)
      · have h3 := Nat.eq_of_beq_eq_true h1
        subst h3
        exact lv_ldc2 hx hb hown (hts _ (sn_lk hnm h2) rfl) hd ((hgo _ _ _ _ hk).2 _ _ _ _ _ hI hl)
    · cases hcx
  | iadd =>
    have hlen : len = 1 := of_decide_eq_true hcx
    subst hlen
    obtain ⟨y, r, rfl, hk⟩ := mm_pI_P hk
    obtain ⟨x, r, rfl, hk⟩ := mm_pI_P hk
    exact lv_iadd hx hb hd ((hgo _ _ _ _ hk).2 _ _ _ _ _ hI hl)
  | isub =>
    have hlen : len = 1 := of_decide_eq_true hcx
    subst hlen
    obtain ⟨y, r, rfl, hk⟩ := mm_pI_P hk
    obtain ⟨x, r, rfl, hk⟩ := mm_pI_P hk
    exact lv_isub hx hb hd ((hgo _ _ _ _ hk).2 _ _ _ _ _ hI hl)
  | imul =>
    have hlen : len = 1 := of_decide_eq_true hcx
    subst hlen
    obtain ⟨y, r, rfl, hk⟩ := mm_pI_P hk
    obtain ⟨x, r, rfl, hk⟩ := mm_pI_P hk
    exact lv_imul hx hb hd ((hgo _ _ _ _ hk).2 _ _ _ _ _ hI hl)
  | iand =>
    have hlen : len = 1 := of_decide_eq_true hcx
    subst hlen
    obtain ⟨y, r, rfl, hk⟩ := mm_pI_P hk
    obtain ⟨x, r, rfl, hk⟩ := mm_pI_P hk
    exact lv_iand hx hb hd ((hgo _ _ _ _ hk).2 _ _ _ _ _ hI hl)
  | ior =>
    have hlen : len = 1 := of_decide_eq_true hcx
    subst hlen
    obtain ⟨y, r, rfl, hk⟩ := mm_pI_P hk
    obtain ⟨x, r, rfl, hk⟩ := mm_pI_P hk
    exact lv_ior hx hb hd ((hgo _ _ _ _ hk).2 _ _ _ _ _ hI hl)
  | ixor =>
    have hlen : len = 1 := of_decide_eq_true hcx
    subst hlen
    obtain ⟨y, r, rfl, hk⟩ := mm_pI_P hk
    obtain ⟨x, r, rfl, hk⟩ := mm_pI_P hk
    exact lv_ixor hx hb hd ((hgo _ _ _ _ hk).2 _ _ _ _ _ hI hl)
  | ishl =>
    have hlen : len = 1 := of_decide_eq_true hcx
    subst hlen
    obtain ⟨y, r, rfl, hk⟩ := mm_pI_P hk
    obtain ⟨x, r, rfl, hk⟩ := mm_pI_P hk
    refine lv_ishl hx hb hd ?_
    rw [← i32_ishl]
    exact (hgo _ _ _ _ hk).2 _ _ _ _ _ hI hl
  | ishr =>
    have hlen : len = 1 := of_decide_eq_true hcx
    subst hlen
    obtain ⟨y, r, rfl, hk⟩ := mm_pI_P hk
    obtain ⟨x, r, rfl, hk⟩ := mm_pI_P hk
    refine lv_ishr hx hb hd ?_
    rw [← i32_ishr]
    exact (hgo _ _ _ _ hk).2 _ _ _ _ _ hI hl
  | iushr =>
    have hlen : len = 1 := of_decide_eq_true hcx
    subst hlen
    obtain ⟨y, r, rfl, hk⟩ := mm_pI_P hk
    obtain ⟨x, r, rfl, hk⟩ := mm_pI_P hk
    exact lv_iushr hx hb hd rfl ((hgo _ _ _ _ hk).2 _ _ _ _ _ hI hl)
  | ladd =>
    have hlen : len = 1 := of_decide_eq_true hcx
    subst hlen
    obtain ⟨y, r, rfl, hk⟩ := mm_pL_P hk
    obtain ⟨x, r, rfl, hk⟩ := mm_pL_P hk
    exact lv_ladd hx hb hd ((hgo _ _ _ _ hk).2 _ _ _ _ _ hI hl)
  | lsub =>
    have hlen : len = 1 := of_decide_eq_true hcx
    subst hlen
    obtain ⟨y, r, rfl, hk⟩ := mm_pL_P hk
    obtain ⟨x, r, rfl, hk⟩ := mm_pL_P hk
    exact lv_lsub hx hb hd ((hgo _ _ _ _ hk).2 _ _ _ _ _ hI hl)
  | lmul =>
    have hlen : len = 1 := of_decide_eq_true hcx
    subst hlen
    obtain ⟨y, r, rfl, hk⟩ := mm_pL_P hk
    obtain ⟨x, r, rfl, hk⟩ := mm_pL_P hk
    exact lv_lmul hx hb hd ((hgo _ _ _ _ hk).2 _ _ _ _ _ hI hl)
  | land =>
    have hlen : len = 1 := of_decide_eq_true hcx
    subst hlen
    obtain ⟨y, r, rfl, hk⟩ := mm_pL_P hk
    obtain ⟨x, r, rfl, hk⟩ := mm_pL_P hk
    exact lv_land hx hb hd ((hgo _ _ _ _ hk).2 _ _ _ _ _ hI hl)
  | lor =>
    have hlen : len = 1 := of_decide_eq_true hcx
    subst hlen
    obtain ⟨y, r, rfl, hk⟩ := mm_pL_P hk
    obtain ⟨x, r, rfl, hk⟩ := mm_pL_P hk
    exact lv_lor hx hb hd ((hgo _ _ _ _ hk).2 _ _ _ _ _ hI hl)
  | lxor =>
    have hlen : len = 1 := of_decide_eq_true hcx
    subst hlen
    obtain ⟨y, r, rfl, hk⟩ := mm_pL_P hk
    obtain ⟨x, r, rfl, hk⟩ := mm_pL_P hk
    exact lv_lxor hx hb hd ((hgo _ _ _ _ hk).2 _ _ _ _ _ hI hl)
  | lshl =>
    have hlen : len = 1 := of_decide_eq_true hcx
    subst hlen
    obtain ⟨y, r, rfl, hk⟩ := mm_pI_P hk
    obtain ⟨x, r, rfl, hk⟩ := mm_pL_P hk
    exact lv_lshl hx hb hd rfl ((hgo _ _ _ _ hk).2 _ _ _ _ _ hI hl)
  | lshr =>
    have hlen : len = 1 := of_decide_eq_true hcx
    subst hlen
    obtain ⟨y, r, rfl, hk⟩ := mm_pI_P hk
    obtain ⟨x, r, rfl, hk⟩ := mm_pL_P hk
    exact lv_lshr hx hb hd rfl ((hgo _ _ _ _ hk).2 _ _ _ _ _ hI hl)
  | lushr =>
    have hlen : len = 1 := of_decide_eq_true hcx
    subst hlen
    obtain ⟨y, r, rfl, hk⟩ := mm_pI_P hk
    obtain ⟨x, r, rfl, hk⟩ := mm_pL_P hk
    exact lv_lushr hx hb hd rfl ((hgo _ _ _ _ hk).2 _ _ _ _ _ hI hl)
  | lcmp =>
    have hlen : len = 1 := of_decide_eq_true hcx
    subst hlen
    obtain ⟨y, r, rfl, hk⟩ := mm_pL_P hk
    obtain ⟨x, r, rfl, hk⟩ := mm_pL_P hk
    exact W.lcmp hx hb hd ((hgo _ _ _ _ hk).2 _ _ _ _ _ hI hl)
  | idiv =>
    have hlen : len = 1 := of_decide_eq_true hcx
    subst hlen
    obtain ⟨y, r, rfl, hk⟩ := mm_pI_P hk
    obtain ⟨x, r, rfl, hk⟩ := mm_pI_P hk
    obtain ⟨h0, hk⟩ := mm_nif hk
    exact lv_idiv hx hb hd h0 ((hgo _ _ _ _ hk).2 _ _ _ _ _ hI hl)
  | irem =>
    have hlen : len = 1 := of_decide_eq_true hcx
    subst hlen
    obtain ⟨y, r, rfl, hk⟩ := mm_pI_P hk
    obtain ⟨x, r, rfl, hk⟩ := mm_pI_P hk
    obtain ⟨h0, hk⟩ := mm_nif hk
    exact lv_irem hx hb hd h0 ((hgo _ _ _ _ hk).2 _ _ _ _ _ hI hl)
  | ldiv =>
    have hlen : len = 1 := of_decide_eq_true hcx
    subst hlen
    obtain ⟨y, r, rfl, hk⟩ := mm_pL_P hk
    obtain ⟨x, r, rfl, hk⟩ := mm_pL_P hk
    obtain ⟨h0, hk⟩ := mm_nif hk
    exact lv_ldiv hx hb hd h0 ((hgo _ _ _ _ hk).2 _ _ _ _ _ hI hl)
  | i2l =>
    have hlen : len = 1 := of_decide_eq_true hcx
    subst hlen
    obtain ⟨x, r, rfl, hk⟩ := mm_pI_P hk
    exact lv_i2l hx hb hd rfl ((hgo _ _ _ _ hk).2 _ _ _ _ _ hI hl)
  | l2i =>
    have hlen : len = 1 := of_decide_eq_true hcx
    subst hlen
    obtain ⟨x, r, rfl, hk⟩ := mm_pL_P hk
    exact lv_l2i hx hb hd rfl ((hgo _ _ _ _ hk).2 _ _ _ _ _ hI hl)
  | i2b =>
    have hlen : len = 1 := of_decide_eq_true hcx
    subst hlen
    obtain ⟨x, r, rfl, hk⟩ := mm_pI_P hk
    exact lv_i2b hx hb hd rfl ((hgo _ _ _ _ hk).2 _ _ _ _ _ hI hl)
  | dup =>
    have hlen : len = 1 := of_decide_eq_true hcx
    subst hlen
    have hk1 : mm_p1 st (fun v st => KW (.inl (pc + 1, ls, v :: v :: st, M))) False := hk
    obtain ⟨v, r, rfl, hv, hk⟩ := mm_p1_P hk1
    exact lv_dup hx hb hd (hv B E) ((hgo _ _ _ _ hk).2 _ _ _ _ _ hI hl)
  | pop =>
    have hlen : len = 1 := of_decide_eq_true hcx
    subst hlen
    have hk1 : mm_p1 st (fun _ st => KW (.inl (pc + 1, ls, st, M))) False := hk
    obtain ⟨v, r, rfl, hv, hk⟩ := mm_p1_P hk1
    exact lv_pop hx hb hd (hv B E) ((hgo _ _ _ _ hk).2 _ _ _ _ _ hI hl)
  | dup2 =>
    have hlen : len = 1 := of_decide_eq_true hcx
    subst hlen
    have hk1 : mm_p1 st (fun v st => mm_p1 st (fun w st => KW (.inl (pc + 1, ls, v :: w :: v :: w :: st, M))) False) False := hk
    obtain ⟨v, r, rfl, hv, hk⟩ := mm_p1_P hk1
    obtain ⟨w, r, rfl, hw, hk⟩ := mm_p1_P hk
    exact lv_dup2_11 hx hb hd (hv B E) (hw B E) ((hgo _ _ _ _ hk).2 _ _ _ _ _ hI hl)
  | pop2 =>
    have hlen : len = 1 := of_decide_eq_true hcx
    subst hlen
    obtain ⟨x, r, rfl, hk⟩ := mm_pL_P hk
    exact lv_pop2_2 hx hb hd rfl ((hgo _ _ _ _ hk).2 _ _ _ _ _ hI hl)
  | goto off =>
    simp only [mm_cx, Bool.and_eq_true, decide_eq_true_eq] at hcx
    obtain ⟨hlen, hcx⟩ := hcx
    subst hlen
    exact lv_goto hx hb hd hcx ((hgo _ _ _ _ hk).2 _ _ _ _ _ hI hl)
  | ifCond cd off =>
    simp only [mm_cx, Bool.and_eq_true, decide_eq_true_eq] at hcx
    obtain ⟨hlen, hcx⟩ := hcx
    subst hlen
    obtain ⟨x, r, rfl, hk⟩ := mm_pI_P hk
    rcases mm_cnd_P hk with ⟨rfl, h1⟩ | ⟨rfl, h1⟩ | ⟨rfl, h1⟩ | ⟨rfl, h1⟩ | ⟨rfl, h1⟩ | ⟨rfl, h1⟩
    · exact lv_if_eq hx hb hd hcx (fun hh => (hgo _ _ _ _ (h1.elim (fun z => z.2) (fun z => absurd hh z.1))).2 _ _ _ _ _ hI hl) (fun hh => (hgo _ _ _ _ (h1.elim (fun z => absurd z.1 hh) (fun z => z.2))).2 _ _ _ _ _ hI hl)
    · exact lv_if_ne hx hb hd hcx (fun hh => (hgo _ _ _ _ (h1.elim (fun z => z.2) (fun z => absurd z.1 hh))).2 _ _ _ _ _ hI hl) (fun hh => (hgo _ _ _ _ (h1.elim (fun z => absurd hh z.1) (fun z => z.2))).2 _ _ _ _ _ hI hl)
    · exact lv_if_lt hx hb hd hcx (fun hh => (hgo _ _ _ _ (h1.elim (fun z => z.2) (fun z => absurd hh z.1))).2 _ _ _ _ _ hI hl) (fun hh => (hgo _ _ _ _ (h1.elim (fun z => absurd z.1 hh) (fun z => z.2))).2 _ _ _ _ _ hI hl)
    · exact lv_if_ge hx hb hd hcx (fun hh => (hgo _ _ _ _ (h1.elim (fun z => z.2) (fun z => absurd hh z.1))).2 _ _ _ _ _ hI hl) (fun hh => (hgo _ _ _ _ (h1.elim (fun z => absurd z.1 hh) (fun z => z.2))).2 _ _ _ _ _ hI hl)
    · exact lv_if_gt hx hb hd hcx (fun hh => (hgo _ _ _ _ (h1.elim (fun z => z.2) (fun z => absurd hh z.1))).2 _ _ _ _ _ hI hl) (fun hh => (hgo _ _ _ _ (h1.elim (fun z => absurd z.1 hh) (fun z => z.2))).2 _ _ _ _ _ hI hl)
    · exact lv_if_le hx hb hd hcx (fun hh => (hgo _ _ _ _ (h1.elim (fun z => z.2) (fun z => absurd hh z.1))).2 _ _ _ _ _ hI hl) (fun hh => (hgo _ _ _ _ (h1.elim (fun z => absurd z.1 hh) (fun z => z.2))).2 _ _ _ _ _ hI hl)
  | if_icmp cd off =>
    simp only [mm_cx, Bool.and_eq_true, decide_eq_true_eq] at hcx
    obtain ⟨hlen, hcx⟩ := hcx
    subst hlen
    obtain ⟨y, r, rfl, hk⟩ := mm_pI_P hk
    obtain ⟨x, r, rfl, hk⟩ := mm_pI_P hk
    rcases mm_cnd_P hk with ⟨rfl, h1⟩ | ⟨rfl, h1⟩ | ⟨rfl, h1⟩ | ⟨rfl, h1⟩ | ⟨rfl, h1⟩ | ⟨rfl, h1⟩
    · exact lv_icmp_eq hx hb hd hcx (fun hh => (hgo _ _ _ _ (h1.elim (fun z => z.2) (fun z => absurd hh z.1))).2 _ _ _ _ _ hI hl) (fun hh => (hgo _ _ _ _ (h1.elim (fun z => absurd z.1 hh) (fun z => z.2))).2 _ _ _ _ _ hI hl)
    · exact lv_icmp_ne hx hb hd hcx (fun hh => (hgo _ _ _ _ (h1.elim (fun z => z.2) (fun z => absurd z.1 hh))).2 _ _ _ _ _ hI hl) (fun hh => (hgo _ _ _ _ (h1.elim (fun z => absurd hh z.1) (fun z => z.2))).2 _ _ _ _ _ hI hl)
    · exact lv_icmp_lt hx hb hd hcx (fun hh => (hgo _ _ _ _ (h1.elim (fun z => z.2) (fun z => absurd hh z.1))).2 _ _ _ _ _ hI hl) (fun hh => (hgo _ _ _ _ (h1.elim (fun z => absurd z.1 hh) (fun z => z.2))).2 _ _ _ _ _ hI hl)
    · exact lv_icmp_ge hx hb hd hcx (fun hh => (hgo _ _ _ _ (h1.elim (fun z => z.2) (fun z => absurd hh z.1))).2 _ _ _ _ _ hI hl) (fun hh => (hgo _ _ _ _ (h1.elim (fun z => absurd z.1 hh) (fun z => z.2))).2 _ _ _ _ _ hI hl)
    · exact lv_icmp_gt hx hb hd hcx (fun hh => (hgo _ _ _ _ (h1.elim (fun z => z.2) (fun z => absurd hh z.1))).2 _ _ _ _ _ hI hl) (fun hh => (hgo _ _ _ _ (h1.elim (fun z => absurd z.1 hh) (fun z => z.2))).2 _ _ _ _ _ hI hl)
    · exact lv_icmp_le hx hb hd hcx (fun hh => (hgo _ _ _ _ (h1.elim (fun z => z.2) (fun z => absurd hh z.1))).2 _ _ _ _ _ hI hl) (fun hh => (hgo _ _ _ _ (h1.elim (fun z => absurd z.1 hh) (fun z => z.2))).2 _ _ _ _ _ hI hl)
  | tableswitch df lo hi os =>
    simp only [mm_cx, Bool.and_eq_true, decide_eq_true_eq] at hcx
    obtain ⟨x, r, rfl, hk⟩ := mm_pI_P hk
    have hk1 : if x.toInt < lo ∨ hi < x.toInt then KW (.inl (a, ls, r, M)) else mm_gO (ps[(x.toInt - lo).toNat]?) (fun t => KW (.inl (t, ls, r, M))) False := hk
    by_cases h : x.toInt < lo ∨ hi < x.toInt
    · rw [if_pos h] at hk1
      exact lv_tableOut hx hb hd h hcx.1 ((hgo _ _ _ _ hk1).2 _ _ _ _ _ hI hl)
    · rw [if_neg h] at hk1
      obtain ⟨t, h1, hk3⟩ := mm_gO_P hk1
      obtain ⟨o, h2, h3⟩ := mm_cT_at hcx.2 h1
      exact lv_tableIn hx hb hd (fun z => h (Or.inl z)) (fun z => h (Or.inr z)) (by rw [← Array.getElem?_toList]; exact h2) h3 ((hgo _ _ _ _ hk3).2 _ _ _ _ _ hI hl)
  | iaload =>
    have hlen : len = 1 := of_decide_eq_true hcx
    subst hlen
    obtain ⟨i, r, rfl, hk⟩ := mm_pI_P hk
    obtain ⟨ad, r, rfl, hk⟩ := mm_pR_P hk
    rcases mm_b_E hk with ⟨h1, hk⟩ | ⟨h1, hk⟩
    · obtain ⟨h2, hk⟩ := mm_nif hk
      have e1 : mm_ad B E ad = E (ad - mm_ext) := if_pos (Nat.le_of_ble_eq_true h1)
      show W p l e R s m args below meth c H locs cells slots Q (F0 m pc lsA (.int i :: .ref (mm_ad B E ad) :: r.map (mm_tr B E)))
      rw [e1]
      exact sn_xald hC hI h2 hd ((hgo _ _ _ _ hk).2 _ _ _ _ _ hI hl)
    · obtain ⟨h2, hk⟩ := mm_b_P hk
      obtain ⟨h3, hk⟩ := mm_nif hk
      obtain ⟨g1, g2⟩ := mm_isObj_P h2
      show W p l e R s m args below meth c H locs cells slots Q (F0 m pc lsA (.int i :: .ref (mm_ad B E ad) :: r.map (mm_tr B E)))
      rw [hI.1.ext g1 E]
      exact sn_iald hC hI g1 g2 h3 hd ((hgo _ _ _ _ hk).2 _ _ _ _ _ hI hl)
  | laload =>
    have hlen : len = 1 := of_decide_eq_true hcx
    subst hlen
    obtain ⟨i, r, rfl, hk⟩ := mm_pI_P hk
    obtain ⟨ad, r, rfl, hk⟩ := mm_pR_P hk
    obtain ⟨h2, hk⟩ := mm_b_P hk
    obtain ⟨h3, hk⟩ := mm_nif hk
    obtain ⟨g1, g2⟩ := mm_isObj_P h2
    show W p l e R s m args below meth c H locs cells slots Q (F0 m pc lsA (.int i :: .ref (mm_ad B E ad) :: r.map (mm_tr B E)))
    rw [hI.1.ext g1 E]
    exact sn_lald hC hI g1 g2 h3 hd ((hgo _ _ _ _ hk).2 _ _ _ _ _ hI hl)
  | baload =>
    have hlen : len = 1 := of_decide_eq_true hcx
    subst hlen
    obtain ⟨i, r, rfl, hk⟩ := mm_pI_P hk
    obtain ⟨ad, r, rfl, hk⟩ := mm_pR_P hk
    obtain ⟨h2, hk⟩ := mm_b_P hk
    obtain ⟨h3, hk⟩ := mm_nif hk
    rw [Bool.or_eq_true] at h2
    show W p l e R s m args below meth c H locs cells slots Q (F0 m pc lsA (.int i :: .ref (mm_ad B E ad) :: r.map (mm_tr B E)))
    rcases h2 with h2 | h2
    · obtain ⟨g1, g2⟩ := mm_isObj_P h2
      rw [hI.1.ext g1 E]
      exact sn_zald hC hI g1 g2 h3 hd ((hgo _ _ _ _ hk).2 _ _ _ _ _ hI hl)
    · obtain ⟨g1, g2⟩ := mm_isObj_P h2
      rw [hI.1.ext g1 E]
      exact sn_bald hC hI g1 g2 h3 hd ((hgo _ _ _ _ hk).2 _ _ _ _ _ hI hl)
  | aaload =>
    have hlen : len = 1 := of_decide_eq_true hcx
    subst hlen
    obtain ⟨i, r, rfl, hk⟩ := mm_pI_P hk
    obtain ⟨ad, r, rfl, hk⟩ := mm_pR_P hk
    obtain ⟨h2, hk⟩ := mm_b_P hk
    obtain ⟨h3, hk⟩ := mm_nif hk
    obtain ⟨y, h4, hk⟩ := mm_gO_P hk
    obtain ⟨g1, g2⟩ := mm_isObj_P h2
    show W p l e R s m args below meth c H locs cells slots Q (F0 m pc lsA (.int i :: .ref (mm_ad B E ad) :: r.map (mm_tr B E)))
    rw [hI.1.ext g1 E]
    refine sn_aald hC hI g1 g2 h3 hd ?_
    rw [h4]
    have h5 : y < M.1.1.1 := hI.1.2.2.2 _ _ _ h4
    have h6 := (hgo _ _ _ _ hk).2 _ _ _ _ _ hI hl
    have e2 : mm_tr B E (.ref y) = .ref (B + y) := by show Value.ref (mm_ad B E y) = _; rw [hI.1.ext h5 E]
    simp only [List.map_cons, e2] at h6
    exact h6
  | iastore =>
    have hlen : len = 1 := of_decide_eq_true hcx
    subst hlen
    obtain ⟨x, r, rfl, hk⟩ := mm_pI_P hk
    obtain ⟨i, r, rfl, hk⟩ := mm_pI_P hk
    obtain ⟨ad, r, rfl, hk⟩ := mm_pR_P hk
    obtain ⟨h2, hk⟩ := mm_b_P hk
    obtain ⟨h3, hk⟩ := mm_nif hk
    obtain ⟨g1, g2⟩ := mm_isObj_P h2
    show W p l e R s m args below meth c H locs cells slots Q (F0 m pc lsA (.int x :: .int i :: .ref (mm_ad B E ad) :: r.map (mm_tr B E)))
    rw [hI.1.ext g1 E]
    exact sn_iast hC hI g1 g2 h3 hd (fun H1 locs1 hI1 => (hgo _ _ _ _ hk).2 _ _ _ _ _ hI1 hl)
  | lastore =>
    have hlen : len = 1 := of_decide_eq_true hcx
    subst hlen
    obtain ⟨x, r, rfl, hk⟩ := mm_pL_P hk
    obtain ⟨i, r, rfl, hk⟩ := mm_pI_P hk
    obtain ⟨ad, r, rfl, hk⟩ := mm_pR_P hk
    obtain ⟨h2, hk⟩ := mm_b_P hk
    obtain ⟨h3, hk⟩ := mm_nif hk
    obtain ⟨g1, g2⟩ := mm_isObj_P h2
    show W p l e R s m args below meth c H locs cells slots Q (F0 m pc lsA (.long x :: .int i :: .ref (mm_ad B E ad) :: r.map (mm_tr B E)))
    rw [hI.1.ext g1 E]
    exact sn_last hC hI g1 g2 h3 hd (fun H1 locs1 hI1 => (hgo _ _ _ _ hk).2 _ _ _ _ _ hI1 hl)
  | bastore =>
    have hlen : len = 1 := of_decide_eq_true hcx
    subst hlen
    obtain ⟨x, r, rfl, hk⟩ := mm_pI_P hk
    obtain ⟨i, r, rfl, hk⟩ := mm_pI_P hk
    obtain ⟨ad, r, rfl, hk⟩ := mm_pR_P hk
    show W p l e R s m args below meth c H locs cells slots Q (F0 m pc lsA (.int x :: .int i :: .ref (mm_ad B E ad) :: r.map (mm_tr B E)))
    rcases mm_b_E hk with ⟨h2, hk⟩ | ⟨-, hk⟩
    · obtain ⟨h3, hk⟩ := mm_nif hk
      obtain ⟨g1, g2⟩ := mm_isObj_P h2
      rw [hI.1.ext g1 E]
      exact sn_zast hC hI g1 g2 h3 hd (fun H1 locs1 hI1 => (hgo _ _ _ _ hk).2 _ _ _ _ _ hI1 hl)
    · obtain ⟨h2, hk⟩ := mm_b_P hk
      obtain ⟨h3, hk⟩ := mm_nif hk
      obtain ⟨g1, g2⟩ := mm_isObj_P h2
      rw [hI.1.ext g1 E]
      exact sn_bast hC hI g1 g2 h3 hd (fun H1 locs1 hI1 => (hgo _ _ _ _ hk).2 _ _ _ _ _ hI1 hl)
  | arraylength =>
    have hlen : len = 1 := of_decide_eq_true hcx
    subst hlen
    obtain ⟨ad, r, rfl, hk⟩ := mm_pR_P hk
    rcases mm_b_E hk with ⟨h1, hk⟩ | ⟨h1, hk⟩
    · have e1 : mm_ad B E ad = E (ad - mm_ext) := if_pos (Nat.le_of_ble_eq_true h1)
      show W p l e R s m args below meth c H locs cells slots Q (F0 m pc lsA (.ref (mm_ad B E ad) :: r.map (mm_tr B E)))
      rw [e1]
      exact sn_xlen hC hI hd ((hgo _ _ _ _ hk).2 _ _ _ _ _ hI hl)
    · obtain ⟨h2, hk⟩ := mm_b_P hk
      simp only [Bool.and_eq_true] at h2
      have g1 := Nat.le_of_ble_eq_true h2.1.1
      show W p l e R s m args below meth c H locs cells slots Q (F0 m pc lsA (.ref (mm_ad B E ad) :: r.map (mm_tr B E)))
      rw [hI.1.ext g1 E]
      exact sn_alen hC hI g1 (Nat.le_of_ble_eq_true h2.1.2) (Nat.le_of_ble_eq_true h2.2) hd ((hgo _ _ _ _ hk).2 _ _ _ _ _ hI hl)
  | getfield n =>
    simp only [mm_cx, Bool.and_eq_true, decide_eq_true_eq] at hcx
    obtain ⟨hlen, hcx⟩ := hcx
    subst hlen
    unfold mm_cF at hcx
    obtain ⟨ad, r, rfl, hk⟩ := mm_pR_P hk
    obtain ⟨h2, hk⟩ := mm_b_P hk
    obtain ⟨g1, g2⟩ := mm_isObj_P h2
    show W p l e R s m args below meth c H locs cells slots Q (F0 m pc lsA (.ref (mm_ad B E ad) :: r.map (mm_tr B E)))
    rw [hI.1.ext g1 E]
    match ps, hcx, hk with
    | [kd, pl], hcx, hk =>
      simp only [Bool.and_eq_true, decide_eq_true_eq] at hcx
      obtain ⟨⟨⟨⟨c1, c2⟩, c3⟩, c4⟩, -⟩ := hcx
      have c1 := Nat.le_of_ble_eq_true c1
      have c2 := Nat.le_of_ble_eq_true c2
      have c4 := Nat.eq_of_beq_eq_true c4
      refine sn_get hC hI g1 g2 c1 c2 (sn_lk hnm c3) hd ?_
      unfold rl_V
      rw [← c4]
      match kd, hk with
      | 0, hk => exact (hgo _ _ _ _ hk).2 _ _ _ _ _ hI hl
      | 1, hk => exact (hgo _ _ _ _ hk).2 _ _ _ _ _ hI hl
      | 2, hk => exact (hgo _ _ _ _ hk).2 _ _ _ _ _ hI hl
      | 3, hk =>
        obtain ⟨y, h4, hk⟩ := mm_gO_P hk
        have h5 : y < M.1.1.1 := hI.1.2.2.2 _ _ _ h4
        have h6 := (hgo _ _ _ _ hk).2 _ _ _ _ _ hI hl
        have e2 : mm_tr B E (.ref y) = .ref (B + y) := by show Value.ref (mm_ad B E y) = _; rw [hI.1.ext h5 E]
        simp only [List.map_cons, e2] at h6
        have h7 : M.2.2.2 ad b = some y := h4
        rw [h7]
        exact h6
      | _ + 4, hk => exact hk.elim
    | [], hcx, _ => cases hcx
    | [_], hcx, _ => cases hcx
    | _ :: _ :: _ :: _, hcx, _ => cases hcx
  | putfield n =>
    simp only [mm_cx, Bool.and_eq_true, decide_eq_true_eq] at hcx
    obtain ⟨hlen, hcx⟩ := hcx
    subst hlen
    unfold mm_cF at hcx
    match ps, hcx, hk with
    | [kd, pl], hcx, hk =>
      simp only [Bool.and_eq_true, decide_eq_true_eq] at hcx
      obtain ⟨⟨⟨⟨c1, c2⟩, c3⟩, c4⟩, c5⟩ := hcx
      have c1 := Nat.le_of_ble_eq_true c1
      have c2 := Nat.le_of_ble_eq_true c2
      have c4 := Nat.eq_of_beq_eq_true c4
      have hfin : (mm_tf a b).2.2.2 = false ∨ (mm_ii mi = true ∧ a = mm_ow mi) := by
        simp only [Bool.not_true, Bool.false_or, Bool.or_eq_true, Bool.not_eq_true', Bool.and_eq_true] at c5
        rcases c5 with h | h
        · exact Or.inl h
        · exact Or.inr ⟨h.1, Nat.eq_of_beq_eq_true h.2⟩
      match kd, hk, c4 with
      | 0, hk, c4 =>
        obtain ⟨x, r, rfl, hk⟩ := mm_pI_P hk
        obtain ⟨ad, r, rfl, hk⟩ := mm_pR_P hk
        obtain ⟨h2, hk⟩ := mm_b_P hk
        obtain ⟨g1, g2⟩ := mm_isObj_P h2
        show W p l e R s m args below meth c H locs cells slots Q (F0 m pc lsA (.int x :: .ref (mm_ad B E ad) :: r.map (mm_tr B E)))
        rw [hI.1.ext g1 E]
        have ht : mm_ty a b = .int := mm_tk_0 c4.symm
        exact sn_put (M1 := mm_setI M ad b x) hC hI g1 g2 c1 c2 (sn_lk hnm c3) hfin (by rw [ht]; rfl) (by rw [ht]; rfl) rfl (fun _ h => mm_setI_o M ad b x h) hI.1.2.2.2 (fun j _ => rl_V_I (Or.inl c4.symm) j) hd (fun H1 locs1 hI1 => (hgo _ _ _ _ hk).2 _ _ _ _ _ hI1 hl)
      | 1, hk, c4 =>
        obtain ⟨x, r, rfl, hk⟩ := mm_pI_P hk
        obtain ⟨ad, r, rfl, hk⟩ := mm_pR_P hk
        obtain ⟨h2, hk⟩ := mm_b_P hk
        obtain ⟨h3, hk⟩ := mm_pif hk
        obtain ⟨g1, g2⟩ := mm_isObj_P h2
        show W p l e R s m args below meth c H locs cells slots Q (F0 m pc lsA (.int x :: .ref (mm_ad B E ad) :: r.map (mm_tr B E)))
        rw [hI.1.ext g1 E]
        have ht : mm_ty a b = .boolean := mm_tk_1 c4.symm
        exact sn_put (M1 := mm_setI M ad b x) hC hI g1 g2 c1 c2 (sn_lk hnm c3) hfin (by rw [ht]; rcases h3 with rfl | rfl <;> decide) (by rw [ht]; rcases h3 with rfl | rfl <;> decide) rfl (fun _ h => mm_setI_o M ad b x h) hI.1.2.2.2 (fun j _ => rl_V_I (Or.inr c4.symm) j) hd (fun H1 locs1 hI1 => (hgo _ _ _ _ hk).2 _ _ _ _ _ hI1 hl)
      | 2, hk, c4 =>
        obtain ⟨x, r, rfl, hk⟩ := mm_pL_P hk
        obtain ⟨ad, r, rfl, hk⟩ := mm_pR_P hk
        obtain ⟨h2, hk⟩ := mm_b_P hk
        obtain ⟨g1, g2⟩ := mm_isObj_P h2
        show W p l e R s m args below meth c H locs cells slots Q (F0 m pc lsA (.long x :: .ref (mm_ad B E ad) :: r.map (mm_tr B E)))
        rw [hI.1.ext g1 E]
        have ht : mm_ty a b = .long := mm_tk_2 c4.symm
        exact sn_put (M1 := mm_setL M ad b x) hC hI g1 g2 c1 c2 (sn_lk hnm c3) hfin (by rw [ht]; rfl) (by rw [ht]; rfl) rfl (fun _ h => mm_setL_o M ad b x h) hI.1.2.2.2 (fun j _ => rl_V_L c4.symm j) hd (fun H1 locs1 hI1 => (hgo _ _ _ _ hk).2 _ _ _ _ _ hI1 hl)
      | 3, hk, c4 =>
        obtain ⟨x, r, rfl, hk⟩ := mm_pR_P hk
        obtain ⟨ad, r, rfl, hk⟩ := mm_pR_P hk
        obtain ⟨h2, hk⟩ := mm_b_P hk
        obtain ⟨h3, hk⟩ := mm_b_P hk
        obtain ⟨g1, g2⟩ := mm_isObj_P h2
        have h3 := Nat.le_of_ble_eq_true h3
        show W p l e R s m args below meth c H locs cells slots Q (F0 m pc lsA (.ref (mm_ad B E x) :: .ref (mm_ad B E ad) :: r.map (mm_tr B E)))
        rw [hI.1.ext g1 E, hI.1.ext h3 E]
        have ht : mm_rf (mm_ty a b) = true := by
          have h5 := mm_fo_at (cl_at c1).2.2.2.2.2.1 b c2
          simp only [Bool.and_eq_true, Bool.or_eq_true, Bool.not_eq_true'] at h5
          rcases h5.2 with h | h
          · rw [← c4] at h; cases h
          · exact h
        have hnf : narrow (mm_ty a b) (.ref (B + x)) = .ref (B + x) ∧ fits (mm_ty a b) (.ref (B + x)) = true := by
          generalize mm_ty a b = t at ht
          cases t <;> first | exact ⟨rfl, rfl⟩ | cases ht
        exact sn_put (M1 := mm_setR M ad b (some x)) hC hI g1 g2 c1 c2 (sn_lk hnm c3) hfin hnf.1 hnf.2 rfl (fun _ h => mm_setR_o M ad b _ h) (fun b2 i2 y hy => by
          have hy2 : (if b2 = ad ∧ i2 = b then some x else M.2.2.2 b2 i2) = some y := hy
          by_cases hh : b2 = ad ∧ i2 = b
          · rw [if_pos hh] at hy2; cases hy2; exact h3
          · rw [if_neg hh] at hy2; exact hI.1.2.2.2 _ _ _ hy2) (fun j _ => rl_V_R c4.symm j) hd (fun H1 locs1 hI1 => (hgo _ _ _ _ hk).2 _ _ _ _ _ hI1 hl)
      | _ + 4, hk, _ => exact hk.elim
    | [], hcx, _ => cases hcx
    | [_], hcx, _ => cases hcx
    | _ :: _ :: _ :: _, hcx, _ => cases hcx
  | getstatic n =>
    simp only [mm_cx, Bool.and_eq_true, decide_eq_true_eq] at hcx
    obtain ⟨⟨⟨hlen, h1⟩, h3⟩, hcx⟩ := hcx
    subst hlen
    split at hcx
    · have h4 := of_decide_eq_true hcx
      have e1 : mm_ad B E (mm_ext + a) = E a := by unfold mm_ad; rw [if_pos (Nat.le_add_right _ _), Nat.add_sub_cancel_left]
      refine sn_gets hC hI h1 h3 (List.mem_of_getElem? h4) hd ?_
      have h6 := (hgo _ _ _ _ hk).2 _ _ _ _ _ hI hl
      have e2 : mm_tr B E (.ref (mm_ext + a)) = .ref (E a) := congrArg Value.ref e1
      simp only [List.map_cons, e2] at h6
      exact h6
    · cases hcx
  | new n =>
    simp only [mm_cx, Bool.and_eq_true, decide_eq_true_eq] at hcx
    obtain ⟨hlen, hcx⟩ := hcx
    subst hlen
    obtain ⟨h1, hk⟩ := mm_b_P hk
    rw [Bool.and_eq_true] at h1
    have h2 := Nat.eq_of_beq_eq_true h1.1
    have h3 := Nat.le_of_ble_eq_true h1.2
    split at hcx
    · simp only [Bool.and_eq_true, mm_cL, decide_eq_true_eq] at hcx
      obtain ⟨⟨c1, c2⟩, c3⟩ := hcx
      have c1 := Nat.le_of_ble_eq_true c1
      have c3 := Nat.eq_of_beq_eq_true c3
      subst c3
      obtain ⟨⟨r1, r2⟩, h6⟩ := hgo _ _ _ _ hk
      refine sn_new hC hI c1 (sn_lk hnm c2) h2 h3 r1 r2 hd (fun H1 hI1 => ?_)
      have h7 := h6 _ _ lsA _ _ hI1 hl
      have e2 : mm_tr B E (.ref M.1.1.1) = .ref (B + M.1.1.1) := by show Value.ref (mm_ad B E M.1.1.1) = _; unfold mm_ad; rw [if_neg (by have : mm_ext = 1000000 := rfl; omega)]
      simp only [List.map_cons, e2] at h7
      exact h7
    · cases hcx
  | newarray t =>
    simp only [mm_cx, Bool.and_eq_true, decide_eq_true_eq] at hcx
    obtain ⟨⟨hlen, h4⟩, h5⟩ := hcx
    subst hlen
    subst h4
    obtain ⟨n, r, rfl, hk⟩ := mm_pI_P hk
    obtain ⟨h0, hk⟩ := mm_nif hk
    obtain ⟨h1, hk⟩ := mm_b_P hk
    rw [Bool.and_eq_true] at h1
    have h2 := Nat.eq_of_beq_eq_true h1.1
    have h3 := Nat.le_of_ble_eq_true h1.2
    obtain ⟨⟨r1, r2⟩, h6⟩ := hgo _ _ _ _ hk
    refine sn_newa hC hI h5 h0 h2 h3 r1 r2 hd (fun H1 hI1 => ?_)
    have h7 := h6 _ _ lsA _ _ hI1 hl
    have e2 : mm_tr B E (.ref M.1.1.1) = .ref (B + M.1.1.1) := by show Value.ref (mm_ad B E M.1.1.1) = _; unfold mm_ad; rw [if_neg (by have : mm_ext = 1000000 := rfl; omega)]
    simp only [List.map_cons, e2] at h7
    exact h7
  | multianewarray n dd =>
    simp only [mm_cx, Bool.and_eq_true, decide_eq_true_eq] at hcx
    obtain ⟨⟨hlen, h4⟩, hcx⟩ := hcx
    subst hlen
    subst h4
    split at hcx
    · have c2 := of_decide_eq_true hcx
      obtain ⟨k, r, rfl, hk⟩ := mm_pI_P hk
      obtain ⟨n9, r, rfl, hk⟩ := mm_pI_P hk
      obtain ⟨h0, hk⟩ := mm_nif hk
      obtain ⟨h1, hk⟩ := mm_b_P hk
      rw [Bool.and_eq_true] at h1
      have h2 := Nat.eq_of_beq_eq_true h1.1
      have h3 := Nat.le_of_ble_eq_true h1.2
      obtain ⟨⟨r1, r2⟩, h6⟩ := hgo _ _ _ _ hk
      obtain ⟨-, g2, g3, -⟩ := mm_rows_1 n9.toNatClampNeg k.toNatClampNeg (mm_new M 104 n9.toNatClampNeg n9.toNatClampNeg)
      have g4 : (mm_multi M n9.toNatClampNeg k.toNatClampNeg).1.2.1 = M.1.2.1 + 1 + n9.toNatClampNeg := g2
      have g5 : (mm_multi M n9.toNatClampNeg k.toNatClampNeg).1.2.2.1 = M.1.2.2.1 + n9.toNatClampNeg + n9.toNatClampNeg * k.toNatClampNeg := g3
      rw [g4] at r1
      rw [g5] at r2
      refine sn_multi hC hI h0 (sn_lk hnm c2) h2 h3 r1 r2 hd (fun H1 hI1 => ?_)
      have h7 := h6 _ _ lsA _ _ hI1 hl
      have e2 : mm_tr B E (.ref M.1.1.1) = .ref (B + M.1.1.1) := by show Value.ref (mm_ad B E M.1.1.1) = _; unfold mm_ad; rw [if_neg (by have : mm_ext = 1000000 := rfl; omega)]
      simp only [List.map_cons, e2] at h7
      exact h7
    · cases hcx
  | invokevirtual n =>
    obtain ⟨as, r, hk⟩ := mm_pop_P hk
    exact hot _ hk
  | invokestatic n =>
    rcases mm_b_E hk with ⟨h1, hkA⟩ | ⟨h1, hkA⟩
    · simp only [mm_cx, Bool.and_eq_true, decide_eq_true_eq] at hcx
      obtain ⟨hlen, hcx⟩ := hcx
      subst hlen
      have h1 : Nat.beq a 996 = true := h1
      rw [h1] at hcx
      simp only [cond_true] at hcx
      split at hcx
      · have c2 := of_decide_eq_true hcx
        clear hk
        obtain ⟨y, r, rfl, hk1⟩ := mm_pI_P hkA
        obtain ⟨x, r, rfl, hk2⟩ := mm_pI_P hk1
        obtain ⟨h3, hk3⟩ := mm_b_P hk2
        have h4 := sn_sum B E r (Nat.le_of_ble_eq_true h3)
        obtain ⟨⟨r1, r2⟩, h6⟩ := hgo _ _ _ _ hk3
        exact va_mmin hx hb (by rw [hC.2.2.1]; exact hl.2.1.symm) hown (hts _ (sn_lk hnm c2) rfl) (hts _ mt_min.1 rfl) (hts _ mt_min.2.1 rfl) (hts _ mt_min.2.2 rfl) hR1 (by omega) (by have := hI.2.2.1; omega) (by have := hI.2.2.2; omega) hd (h6 _ _ _ _ _ hI hl)
      · cases hcx
    · rcases mm_b_E hkA with ⟨h2, hkB⟩ | ⟨h2, hkB⟩
      · simp only [mm_cx, Bool.and_eq_true, decide_eq_true_eq] at hcx
        obtain ⟨hlen, hcx⟩ := hcx
        subst hlen
        have h1 : Nat.beq a 996 = false := h1
        have h2 : Nat.beq a 997 = true := h2
        rw [h1, h2] at hcx
        simp only [cond_true, cond_false] at hcx
        split at hcx
        · have c2 := of_decide_eq_true hcx
          clear hk hkA
          obtain ⟨y, r, rfl, hk1⟩ := mm_pI_P hkB
          obtain ⟨x, r, rfl, hk2⟩ := mm_pI_P hk1
          obtain ⟨h3, hk3⟩ := mm_b_P hk2
          have h4 := sn_sum B E r (Nat.le_of_ble_eq_true h3)
          obtain ⟨⟨r1, r2⟩, h6⟩ := hgo _ _ _ _ hk3
          exact va_mmax hx hb (by rw [hC.2.2.1]; exact hl.2.1.symm) hown (hts _ (sn_lk hnm c2) rfl) (hts _ mt_max.1 rfl) (hts _ mt_max.2.1 rfl) (hts _ mt_max.2.2 rfl) hR1 (by omega) (by have := hI.2.2.1; omega) (by have := hI.2.2.2; omega) hd (h6 _ _ _ _ _ hI hl)
        · cases hcx
      · obtain ⟨as, r, hk⟩ := mm_pop_P hkB
        exact hot _ hk
  | invokespecial n =>
    rcases mm_b_E hk with ⟨h1, hk⟩ | ⟨h1, hk⟩
    · simp only [mm_cx, Bool.and_eq_true, decide_eq_true_eq] at hcx
      obtain ⟨hlen, hcx⟩ := hcx
      subst hlen
      have h1 : Nat.beq a 999 = true := h1
      rw [h1] at hcx
      simp only [cond_true] at hcx
      split at hcx
      · have c2 := of_decide_eq_true hcx
        obtain ⟨ad, r, rfl, hk⟩ := mm_pR_P hk
        obtain ⟨rfl, hk⟩ := mm_e_P hk
        refine W.objInit hx hb hown (hts _ (sn_lk hnm c2) rfl) (hts _ oi_1 rfl) (hts _ oi_2 rfl) (g := F0 m pc lsA [.ref (mm_ad B E ad)]) rfl (by rw [hC.2.2.1]; exact hl.2.1) (a := mm_ad B E ad) (rest := []) rfl hd hR1 (by show 2 * 0 + 0 + 12 ≤ R.locals; omega) ?_
        exact (hgo _ _ _ _ hk).2 _ _ _ _ _ hI hl
      · cases hcx
    · obtain ⟨as, r, hk⟩ := mm_pop_P hk
      exact hot _ hk
  | ireturn =>
    obtain ⟨x, r, rfl, hk⟩ := mm_pI_P hk
    obtain ⟨rfl, hk⟩ := mm_e_P hk
    match a, hk with
    | 0, hk => exact hot _ hk
    | _ + 1, hk => exact hot _ (mm_pif hk).2
  | lreturn =>
    obtain ⟨x, r, rfl, hk⟩ := mm_pL_P hk
    obtain ⟨rfl, hk⟩ := mm_e_P hk
    exact hot _ hk
  | return_ =>
    obtain ⟨rfl, hk⟩ := mm_e_P hk
    exact hot _ hk
  | _ => exact hk.elim
end SNS
