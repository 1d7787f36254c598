/-! EVERY RUN is sound -/
set_option maxRecDepth 20000 in
theorem lk_w1 : Cond.codeWith yL_look cL_look 5 (some .int) [(0, 10, 13, 13), (0, 10, 17, 15)] ∈ lw_tbl := tb_5 _ (List.mem_of_getElem? (i := 105) rfl)
set_option maxRecDepth 20000 in
theorem lk_w2 : Cond.static yL_look ∈ lw_tbl := tb_5 _ (List.mem_of_getElem? (i := 104) rfl)
theorem lk_w3 : Cond.initialized RL ∈ lw_tbl := tb_1 _ (List.mem_of_getElem? (i := 0) rfl)
theorem lk_pd : (parseMethodDescriptor yL_look.desc).map (fun d => d.parameters.length) = some 4 := by decide +kernel
theorem lk_gw : goodWord (Cond.codeWith yL_look cL_look 5 (some .int) [(0, 10, 13, 13), (0, 10, 17, 15)]) = true := rfl
section SNA
variable {p : Program} {l : Launch} {e : Env} {R : Room} {s : State} {m : MethodId} {args : Array Value} {below : List Frame} {meth : Method} {c : Code} {H : Heap} {locs : List Loc} {cells slots : Nat} {Q : State → Prop}
variable {D : va_G} {E : Nat → Nat} {X : mm_X} {B c0 s0 : Nat} {mi pc : Nat} {lsA : Array Slot} {M : mm_M}
theorem sn_lookc {idx : Nat} {as rest : List Value} {r1 : Option Value} {M1 : mm_M} (hlk : lk_C l) (hC : sn_C D E X B p s m args meth c mi) (hI : sn_I D B s c0 s0 M H locs cells slots) (hsz : lsA.size = mm_mx mi) (hd : decode (mm_cc mi) pc = .ok (.invokestatic idx, 3)) (hln : mm_lc (mm_ow mi) (7, idx, 0, 0) ∈ lw_tbl) (hlen : as.length = 4) (h8 : mm_w8 rest ≤ 8) (hrun : mm_look M as = some (r1, M1))
    (hR : 35 ≤ R.frames ∧ 1300 ≤ R.locals ∧ M1.1.2.1 ≤ c0 + R.cells ∧ M1.1.2.2.1 ≤ s0 + R.slots)
    (kk : ∀ (H1 : Heap) (locs1 : List Loc) (cells1 slots1 : Nat), sn_I D B s c0 s0 M1 H1 locs1 cells1 slots1 → W p l e R s m args below meth c H1 locs1 cells1 slots1 Q (F0 m (pc + 3) lsA ((r1.toList ++ rest).map (mm_tr B E)))) : W p l e R s m args below meth c H locs cells slots Q (F0 m pc lsA ((as.reverse ++ rest).map (mm_tr B E))) := by
  have hts := hC.2.2.2.2.1
  have hB := hC.2.2.2.2.2.2.2.2.1
  have hS : CallFix p m c (mm_cc mi) (mm_mx mi) s args ws_all (mm_on (mm_ow mi)) := ⟨hC.1, hC.2.1, hC.2.2.1, hC.2.2.2.1, fun w hw => hts w (ws_good hw).1 (ws_good hw).2⟩
  obtain ⟨g1, g2⟩ := mo_look hrun
  have hst : ((as.reverse ++ rest).map (mm_tr B E)) = (as.map (mm_tr B E)).reverse ++ rest.map (mm_tr B E) := by rw [List.map_append, List.map_reverse]
  rw [hst]
  refine sn_after (vx_runSW (hh := [(0, 10, 13, 13), (0, 10, 17, 15)]) (bytes := cL_look) (maxL := 5) (ret := some .int) (n := 4) (rest := rest.map (mm_tr B E)) hS (hlk D E X B M M1 as r1 hrun) ⟨⟨rfl, rfl, by show 10 + 20 + 1 ≤ R.frames; omega, by show 8 + (5 + 11) + (64 * 10 + 400) ≤ R.locals; omega, fun w hw a' U hW => ?_, List.mem_cons_self⟩, hts _ lk_w1 lk_gw, hts _ lk_w3 rfl, ⟨by decide +kernel, by decide +kernel⟩, fun sig hs => ?_, hts _ hln rfl, hts _ lk_w2 rfl⟩ ⟨sn_blind, sn_pre hC hI as⟩ rfl (by rw [List.length_map]; exact hlen) hsz rfl (mm_w8_le m pc lsA _ h8) hd ⟨by have := hI.2.2.1; omega, by have := hI.2.2.2; omega⟩) hI hB (by omega) (by omega) ?_
  · rcases List.mem_cons.mp hw with rfl | hw
    · exact word_at hW (good_of_word lk_gw) (hts _ lk_w1 lk_gw)
    · exact word_at hW (good_of_word (ws_good hw).2) (hts _ (ws_good hw).1 (ws_good hw).2)
  · have h2 := lk_pd
    rw [hs] at h2
    exact (Option.some.inj h2).symm
  · intro H1 locs1 h9
    have h10 := kk H1 locs1 _ _ h9
    rw [sn_tl] at h10
    exact h10
end SNA
set_option maxHeartbeats 2000000 in
theorem sn_run {l : Launch} {X : mm_X} : ∀ n : Nat, sn_R l X n := by
  intro n
  induction n with
  | zero => intro d mi pc ls st M MF r h; cases h
  | succ n ih =>
    intro d mi pc ls st M MF r h p e R s m args below meth c H locs cells slots Q D E B c0 s0 lsA h12 hC hI hl hR hfin
    obtain ⟨q, o, hrow, hs, ho⟩ := mm_run_1 h
    have hck := mm_ck_all mi pc q hrow
    refine sn_one hC hrow hI hl (by omega) (by omega) (fun o' => o' = o) (by rw [mm_stepK_eq, hs]) ?_ ?_
    · intro pc' ls' st' M' eo
      subst eo
      have hm := mm_mono ho
      exact ⟨⟨by omega, by omega⟩, fun H' locs' lsA' cells' slots' hI' hl' => ih d mi pc' ls' st' M' MF r ho h12 hC hI' hl' hR hfin⟩
    · intro z eo
      subst eo
      have hz : mm_stepK X q pc ls st M (fun o => match o with | .inl _ => False | .inr z' => z' = z) False := by rw [mm_stepK_eq, hs]
      have hdec : decode (mm_cc mi) pc = .ok (q.1, q.2.1) ∧ mm_cx mi pc q = true := by
        unfold mm_ck at hck
        rw [Bool.and_eq_true, decide_eq_true_eq] at hck
        exact hck
      rcases mm_inr hz with ⟨h1, h2, h3⟩ | ⟨h1, x, h2, h3, h4⟩ | ⟨h1, x, h2, h3⟩ | ⟨idx, h1, as, rest, h2, h3, h4⟩
      · subst h3
        obtain ⟨rfl, rfl⟩ := ho
        obtain ⟨i, len, a, b, ps⟩ := q
        simp only at h1
        subst h1
        subst h2
        obtain ⟨hd, hcx⟩ := hdec
        simp only [mm_cx, Bool.and_eq_true, decide_eq_true_eq] at hcx
        obtain ⟨rfl, hrt⟩ := hcx
        exact hfin pc H locs lsA cells slots ⟨hd, hrt⟩ hI
      · subst h3
        obtain ⟨rfl, rfl⟩ := ho
        obtain ⟨i, len, a, b, ps⟩ := q
        simp only at h1
        subst h1
        subst h2
        obtain ⟨hd, hcx⟩ := hdec
        simp only [mm_cx, Bool.and_eq_true, decide_eq_true_eq] at hcx
        obtain ⟨rfl, hrt⟩ := hcx
        refine hfin pc H locs lsA cells slots ⟨hd, ?_⟩ hI
        rcases hrt with ⟨-, hrt⟩ | ⟨ha, hrt⟩
        · exact Or.inl hrt
        · refine Or.inr ⟨hrt, ?_⟩
          rcases h4 with h4 | h4
          · have h4 : a = 0 := h4
            omega
          · exact h4
      · subst h3
        obtain ⟨rfl, rfl⟩ := ho
        obtain ⟨i, len, a, b, ps⟩ := q
        simp only at h1
        subst h1
        subst h2
        obtain ⟨hd, hcx⟩ := hdec
        simp only [mm_cx, Bool.and_eq_true, decide_eq_true_eq] at hcx
        obtain ⟨rfl, hrt⟩ := hcx
        exact hfin pc H locs lsA cells slots ⟨hd, hrt⟩ hI
      · subst h4
        obtain ⟨d', r1, M1, hdd, h8, hcal, hnext⟩ := ho
        subst hdd
        subst h2
        have hm := mm_mono hnext
        by_cases hy : q.2.2.1 = 998
        · rw [if_pos hy] at hcal
          obtain ⟨i, len, a, b, ps⟩ := q
          simp only at hy h1 h3
          subst hy
          obtain ⟨hd, hcx⟩ := hdec
          rcases h1 with h1 | ⟨h1, -⟩ | ⟨h1, -, -⟩
          · subst h1
            simp only [mm_cx, Bool.and_eq_true] at hcx
            have := hcx.1.1.1.1.1.2
            cases this
          · subst h1
            simp only [mm_cx, Bool.and_eq_true, decide_eq_true_eq] at hcx
            have e9 : Nat.beq 998 999 = false := rfl
            rw [e9, cond_false] at hcx
            simp only [Bool.and_eq_true] at hcx
            have := hcx.2.1.1.1.1.1
            cases this
          · subst h1
            simp only [mm_cx, Bool.and_eq_true, decide_eq_true_eq] at hcx
            obtain ⟨rfl, hcx⟩ := hcx
            have e6 : Nat.beq 998 996 = false := rfl
            have e7 : Nat.beq 998 997 = false := rfl
            have e8 : Nat.beq 998 998 = true := rfl
            rw [e6, e7, e8] at hcx
            simp only [cond_false, cond_true, Bool.and_eq_true] at hcx
            obtain ⟨⟨hps, hb4⟩, how⟩ := hcx
            have hb4 := Nat.eq_of_beq_eq_true hb4
            have how := Nat.eq_of_beq_eq_true how
            obtain ⟨hd15, hlk⟩ := h12 how
            split at hps
            · have c2 := of_decide_eq_true hps
              exact sn_lookc hlk hC hI (by rw [← hl.2.1]) hd (sn_lk hC.2.2.2.2.2.2.2.2.2 c2) (by rw [h3]; exact hb4) h8 hcal ⟨by omega, by omega, by omega, by omega⟩ (fun H1 locs1 cells1 slots1 hI1 => ih (d' + 1) mi (pc + 3) ls (r1.toList ++ rest) M1 MF r hnext h12 hC hI1 hl hR hfin)
            · cases hps
        · rw [if_neg hy] at hcal
          exact sn_call ih hC hI (by rw [← hl.2.1]) hck h1 h3 h8 hy hcal.1 hcal.2 ⟨by omega, by omega, by omega, by omega⟩ (fun H1 locs1 cells1 slots1 hI1 => ih (d' + 1) mi (pc + 3) ls (r1.toList ++ rest) M1 MF r hnext h12 hC hI1 hl hR hfin)
