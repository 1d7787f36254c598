/-! LOOK: what it throws -/
def lk_nm : List String := ["java/lang/RuntimeException", "java/lang/Exception"]
theorem lk_ngI : ∀ w ∈ (vx_atS RX10 157 lk_I lk_nm).filter (fun w => !goodWord w), w ∈ ng_ws := by decide +kernel
theorem lk_otI : ∀ w ∈ Cond.classLink RX10 153 lk_I :: Cond.initialized lk_I :: vx_atS RX10 157 lk_I lk_nm, vx_ot w = true := by decide +kernel
theorem lk_gdI : ∀ w ∈ Cond.classLink RX10 153 lk_I :: Cond.initialized lk_I :: (vx_atS RX10 157 lk_I lk_nm).filter goodWord, w ∈ lw_tbl ∧ goodWord w = true := by decide +kernel
theorem lk_ont : ∀ w ∈ ng_ws, w.onTables = true := by decide +kernel
theorem lk_fit : Bundle.fit lk_I = true ∧ ∀ n ∈ lk_nm, Bundle.fit n = true := by decide +kernel
theorem lk_ml : Cond.methodLink RL 7 (mm_y 249) ∈ lw_tbl := by decide +kernel
theorem lk_cl : Cond.classLink RL 13 lk_I ∈ lw_tbl := by decide +kernel
theorem lk_dI : decode (mm_cc 249) 11 = .ok (.new 153, 3) ∧ decode (mm_cc 249) 14 = .ok (.dup, 1) ∧ decode (mm_cc 249) 15 = .ok (.ldc 155, 2) ∧ decode (mm_cc 249) 17 = .ok (.invokespecial 157, 3) ∧ decode (mm_cc 249) 20 = .ok (.athrow, 1) := by decide +kernel
theorem lk_dL : (decode cL_look 0 = .ok (.aload_n 3, 1) ∧ decode cL_look 1 = .ok (.iconst 0, 1) ∧ decode cL_look 2 = .ok (.aload_n 0, 1) ∧ decode cL_look 3 = .ok (.iload_n 1, 1) ∧ decode cL_look 4 = .ok (.iload_n 2, 1) ∧ decode cL_look 5 = .ok (.invokevirtual 7, 3)) ∧ decode cL_look 13 = .ok (.astore 4, 2) ∧ decode cL_look 15 = .ok (.iconst 1, 1) ∧ decode cL_look 16 = .ok (.ireturn, 1) := by decide +kernel
/-- a contract out of a body with handlers that always returns -/
theorem Met_ofWH {l : Launch} {y : MethodName} {ws ws' : List Cond} {rm : Room} {Pc : Array Value → State → Prop} {Qc : Array Value → State → Outcome → State → Prop} {mc ms : Nat} {free : Addr → Prop} {cc : ByteArray} {maxL : Nat} {ret : Option FieldType} {hh : List (Nat × Nat × Nat × Nat)}
    (hy : plainName y.cls = true) (hw : ws = Cond.codeWith y cc maxL ret hh :: ws')
    (body : ∀ p e s m args below meth c s₁, BodyLoose p l y (headSpec ws rm) cc maxL ret e s m args below meth c s₁ → c.maxLocals = maxL → Pc args s →
      W p l e (headSpec ws rm).room s m args below meth c s.heap [] 0 0 (MQ below Qc args s mc ms free) (entryFrame m args maxL)) : Met l y ws rm Pc Qc mc ms free := by
  refine MetFree.of_bodyS (code := cc) (maxLocals := maxL) (ret := ret) hy ?_ ?_
  · intro args s m h hn
    obtain ⟨m9, meth, c, hn9, h1, h2, h3, h4, -, h5, h6, -⟩ := Cond.codeWith_spec (atoms_spec (ws := ws) h _ (by rw [hw]; exact List.mem_cons_self))
    cases hn.symm.trans hn9
    exact ⟨meth, c, h1, h2, h3, h4, h5, h6⟩
  · intro p e s m args below meth c s₁ B hml hP _
    have hh0 : s₁.heap = s.heap := by rw [B.state]; rfl
    obtain ⟨t, a1, o, b1, b2, b3⟩ := body p e s m args below meth c s₁ B hml hP s₁ hh0 (Stand.of_body B)
    exact ⟨t, o, a1, b1, b2, b3⟩
/-- no such FIELD -/
theorem lk_isF {X : mm_X} {d p : Nat} {f : Int32} {M : mm_M} (hp : mm_isObj M p 5 = true) (hf : f < 0 ∨ M.2.1 p 2 ≤ f) : ∃ n, mm_run X n d 43 0 (mm_entry 43 [.ref p, .int f]) [] M = some (some (.int 0), M) := by
  have hz : mm_T X d 43 16 [.ref p, .int f] [] M (fun r M1 => r = some (.int 0) ∧ M1 = M) := by
    refine tt_1 (q := (.iconst 0, 1, 0, 0, [])) rfl ?_
    refine tt_1 (q := (.ireturn, 1, 1, 0, [])) (pc := 17) rfl ?_
    show (if (mm_i 0 0 = 0 ∨ mm_i 0 0 = 1) then (some (Value.int (mm_i 0 0)) = some (.int 0) ∧ M = M) else False)
    rw [if_pos (show (mm_i 0 0 = 0 ∨ mm_i 0 0 = 1) from Or.inl rfl)]
    exact ⟨rfl, rfl⟩
  have h : mm_T X d 43 0 [.ref p, .int f] [] M (fun r M1 => r = some (.int 0) ∧ M1 = M) := by
    refine tt_1 (q := (.iload_n 1, 1, 0, 0, [])) rfl ?_
    refine tt_if (pc := 1) (c := .lt) (o := 15) (len := 3) (a := 16) (b := 0) (ps := []) rfl ?_
    show (if f < 0 then _ else _)
    by_cases h0 : f < 0
    · rw [if_pos h0]; exact hz
    · rw [if_neg h0]
      have h1 : M.2.1 p 2 ≤ f := hf.resolve_left h0
      refine tt_1 (q := (.iload_n 1, 1, 0, 0, [])) (pc := 4) rfl ?_
      refine tt_1 (q := (.aload_n 0, 1, 0, 0, [])) (pc := 5) rfl ?_
      refine tt_gI (pc := 6) (i := 44) (len := 3) (a := 5) (b := 2) (ps := [11]) rfl hp rfl ?_
      refine tt_ic (pc := 9) (c := .ge) (o := 7) (len := 3) (a := 16) (b := 0) (ps := []) rfl ?_
      show (if M.2.1 p 2 ≤ f then _ else _)
      rw [if_pos h1]
      exact hz
  obtain ⟨n, r, M1, h1, rfl, rfl⟩ := h
  exact ⟨n, h1⟩
theorem rl.mark {D : va_G} {s t : State} {B : Nat} {M : mm_M} {H H1 : Heap} (h : rl D s B M H) (hv : s.vm.Alike t.vm) (h1 : H.size ≤ H1.size) (h2 : ∀ q : Nat, q < H.size → H1[q]? = H[q]?) : rl D t B (mm_mark M) H1 := by
  obtain ⟨⟨g1, -, g3⟩, g4, g5, g6⟩ := h
  refine ⟨⟨Nat.le_trans g1 h1, fun z => (by cases z), g3⟩, fun a ha => ?_, g5, g6⟩
  have ha' : a < M.1.1.1 := ha
  exact (((g4 a ha').kept (h2 _ (by omega))).moved hv).to rfl rfl (fun _ => rfl) (fun _ => rfl) (fun _ => rfl)
def lk_XC (D : va_G) (B : Nat) (M : mm_M) : String → State → State → Prop := fun E9 st t => E9 = lk_I ∧ rl D t B (mm_mark M) t.heap ∧ st.heap.size ≤ t.heap.size ∧ ∀ q : Nat, q < B → t.heap[q]? = st.heap[q]?
set_option maxHeartbeats 2000000 in
theorem lk_m10 {l : Launch} (hl0 : l.stackTraces = false) {D : va_G} {E : Nat → Nat} {X : mm_X} {B x p : Nat} {f w : Int32} {M : mm_M} (hx : mm_isObj M x 10 = true) (hp : M.2.2.2 x 8 = some p) (h5 : mm_isObj M p 5 = true) (hf : f < 0 ∨ M.2.1 p 2 ≤ f) :
    vx_Met l (mm_y 249) (ws_y 249) (rm_d 8 1 6) (sn_Pc D E X B M [.ref x, .int f, .int w]) (fun _ _ _ _ => False) (lk_XC D B M) 1 6 (rl_A B) := by
  obtain ⟨hmw, hcls, -, -⟩ := me_at (y := 249) (by decide) (by decide)
  have hon := on_at (ow_lt (mi := 249) (by decide))
  refine vx_ofW (cc := mm_cc 249) (maxL := mm_mx 249) (ret := mm_rt 249) (by rw [hcls]; exact hon.1) rfl ?_
  intro p' e s m args below meth c s₁ Bd hml htab hv
  obtain ⟨rfl, hrl, hE, hK, hB⟩ := hv
  have hts0 := atoms_spec (ws := ws_y 249) Bd.pre
  have hts : ∀ w' ∈ lw_tbl, goodWord w' = true → w'.before ([Value.ref x, .int f, .int w].map (mm_tr B E)).toArray s = true := fun w' h1 h2 => hts0 w' (List.mem_cons_of_mem _ (ws_in h1 h2))
  have hown : s.vm.findClass (mm_on (mm_ow 249)) = some m.cls := by rw [← hcls]; exact findClass_of_methodNamed Bd.named
  have hC : sn_C D E X B p' s m ([Value.ref x, .int f, .int w].map (mm_tr B E)).toArray meth c 249 := ⟨Bd.exec, Bd.bytes, hml, hown, hts, (fun h9 => by cases h9), hK, hE, hB, by decide⟩
  have hl2 := (sn_entry (B := B) (E := E) (y := 249) (as := [.ref x, .int f, .int w]) rfl (show 3 ≤ mm_mx 249 by decide)).2
  rw [lg_entry_eq]
  have hlocks := Bd.notSynchronized
  have he : mm_entry 249 [.ref x, .int f, .int w] = [.ref x, .int f, .int w] := rfl
  rw [he] at hl2
  have hI : sn_I D B s M.1.2.1 M.1.2.2.1 M s.heap [] 0 0 := ⟨hrl, va_S.rf, rfl, rfl⟩
  have hRm : (headSpec (ws_y 249) (rm_d 8 1 6)).room = rm_d 8 1 6 := rfl
  rw [hRm]
  have hcell : M.1.2.1 ≤ M.1.2.1 + (rm_d 8 1 6).cells ∧ M.1.2.2.1 ≤ M.1.2.2.1 + (rm_d 8 1 6).slots := ⟨Nat.le_add_right _ _, Nat.le_add_right _ _⟩
  refine sn_one (st := []) (pc := 0) (q := (.aload_n 0, 1, 0, 0, [])) hC rfl hI hl2 (by decide) (by decide) (fun o => o = .inl (1, [.ref x, .int f, .int w], [.ref x], M)) rfl (fun pc' ls' st' M' eo => ?_) (fun o eo => nomatch eo)
  cases eo
  refine ⟨hcell, fun H1 locs1 lsA1 cells1 slots1 hI hl2 => ?_⟩
  refine sn_one (pc := 1) (q := (.getfield 68, 3, 10, 8, [3, 18])) hC rfl hI hl2 (by decide) (by decide) (fun o => o = .inl (4, [.ref x, .int f, .int w], [.ref p], M)) (by
    show mm_b (mm_isObj M x 10) (mm_gO (M.2.2.2 x 8) (fun v => (Sum.inl (4, [Value.ref x, .int f, .int w], [Value.ref v], M) : mm_O) = .inl (4, [.ref x, .int f, .int w], [.ref p], M)) False) False
    rw [hx, hp]
    exact (rfl : (Sum.inl (4, [Value.ref x, .int f, .int w], [Value.ref p], M) : mm_O) = _)) (fun pc' ls' st' M' eo => ?_) (fun o eo => nomatch eo)
  cases eo
  refine ⟨hcell, fun H1 locs1 lsA1 cells1 slots1 hI hl2 => ?_⟩
  refine sn_one (pc := 4) (q := (.iload_n 1, 1, 0, 0, [])) hC rfl hI hl2 (by decide) (by decide) (fun o => o = .inl (5, [.ref x, .int f, .int w], [.int f, .ref p], M)) rfl (fun pc' ls' st' M' eo => ?_) (fun o eo => nomatch eo)
  cases eo
  refine ⟨hcell, fun H1 locs1 lsA1 cells1 slots1 hI hl2 => ?_⟩
  obtain ⟨n, hn⟩ := lk_isF (X := X) (d := 5) h5 hf
  refine sn_call (pc := 5) (q := (.invokevirtual 150, 3, 43, 2, [55, 0])) (idx := 150) (as := [.ref p, .int f]) (rest := []) (sn_run n) hC hI (by rw [← hl2.2.1]) (mm_ck_all 249 5 _ rfl) (Or.inl rfl) rfl (by decide) (by decide) (by
    show (true && mm_isObj M p 5) = true
    rw [h5]; rfl) hn ⟨by decide, by decide, hcell.1, hcell.2⟩ (fun H1 locs1 cells1 slots1 hI => ?_)
  refine sn_one (st := [.int 0]) (pc := 8) (q := (.ifCond .ne 13, 3, 21, 0, [])) hC rfl hI hl2 (by decide) (by decide) (fun o => o = .inl (11, [.ref x, .int f, .int w], [], M)) rfl (fun pc' ls' st' M' eo => ?_) (fun o eo => nomatch eo)
  cases eo
  refine ⟨hcell, fun H1 locs1 lsA1 cells1 slots1 hI hl2 => ?_⟩
  obtain ⟨d1, d2, d3, d4, d5⟩ := lk_dI
  obtain ⟨-, -, -, -, hU, hN, hng, ⟨sa, hsa⟩, -⟩ := hE
  have c0 := hI.2.2.1
  have s0 := hI.2.2.2
  refine vx_throwS (cc := mm_cc 249) (pc := 11) (own := RX10) (cls := lk_I) (text := "no such field") (names := lk_nm) (ik := 153) (is := 155) (ic := 157) (sa := sa) (A := rl_A B) (rest := []) Bd.exec Bd.bytes hl0 hown lk_fit.1 lk_fit.2
    (hts _ (lk_gdI _ List.mem_cons_self).1 (lk_gdI _ List.mem_cons_self).2) (hts _ (lk_gdI _ (List.mem_cons_of_mem _ List.mem_cons_self)).1 (lk_gdI _ (List.mem_cons_of_mem _ List.mem_cons_self)).2) hsa
    (vx_hat (fun w' h9 => hts w' (lk_gdI w' (List.mem_cons_of_mem _ (List.mem_cons_of_mem _ h9))).1 (lk_gdI w' (List.mem_cons_of_mem _ (List.mem_cons_of_mem _ h9))).2) lk_ngI (fun w' h9 => va_Nw.use (lk_ont w' h9) (hng w' h9))) lk_otI hU hN hI.2.1 (by rw [hml, ← hl2.2.1]) d1 d2 d3 d4 d5 (fun z hz => (htab z hz).elim) (by decide) (by decide) (by show cells1 + 1 ≤ 1; omega) (by show slots1 + 6 ≤ 6; omega) hlocks ?_ hI.2.1.2.2 (by omega) (by omega)
  intro t hv h1 h2
  refine ⟨rfl, hI.1.mark hv h1 h2, Nat.le_trans hI.2.1.1 h1, fun q hq => ?_⟩
  rw [h2 q (by have := hI.2.1.1; omega)]
  exact hI.2.1.2.1 q (by omega) (Nat.not_le.mpr hq)
set_option maxHeartbeats 2000000 in
theorem lk_law {l : Launch} (hl0 : l.stackTraces = false) {D : va_G} {E : Nat → Nat} {X : mm_X} {B x o p : Nat} {f w : Int32} {M : mm_M} (hx : mm_isObj M x 10 = true) (hp : M.2.2.2 x 8 = some p) (h5 : mm_isObj M p 5 = true) (hf : f < 0 ∨ M.2.1 p 2 ≤ f) :
    Met l yL_look (.codeWith yL_look cL_look 5 (some .int) [(0, 10, 13, 13), (0, 10, 17, 15)] :: ws_all) (rm_d 10 1 6) (sn_Pc D E X B M [.ref x, .int f, .int w, .ref o]) (sn_Qc D E B (some (.int 1)) (mm_mark M)) 1 6 (rl_A B) := by
  refine Met_ofWH (cc := cL_look) (maxL := 5) (ret := some .int) (hh := [(0, 10, 13, 13), (0, 10, 17, 15)]) (by decide +kernel) rfl ?_
  intro p' e s m args below meth c s₁ Bd hml hv
  obtain ⟨rfl, hrl, hE, hK, hB⟩ := hv
  obtain ⟨as, has⟩ : ∃ as : Array Value, as = ([Value.ref x, .int f, .int w, .ref o].map (mm_tr B E)).toArray := ⟨_, rfl⟩
  have hts0 := atoms_spec Bd.pre
  have hts : ∀ w' ∈ lw_tbl, goodWord w' = true → w'.before ([Value.ref x, .int f, .int w, .ref o].map (mm_tr B E)).toArray s = true := fun w' h1 h2 => hts0 w' (List.mem_cons_of_mem _ (ws_in h1 h2))
  have htab := vx_table (x := yL_look) Bd (hts0 _ List.mem_cons_self)
  have hown : s.vm.findClass RL = some m.cls := findClass_of_methodNamed Bd.named
  have hl2 := (sn_entry (B := B) (E := E) (y := 3) (as := [.ref x, .int f, .int w, .ref o]) rfl (show 4 ≤ mm_mx 3 by decide)).2
  rw [lg_entry_eq]
  have hlocks := Bd.notSynchronized
  have hmx : mm_mx 3 = 5 := rfl
  rw [hmx] at hl2
  have he : mm_entry 3 [.ref x, .int f, .int w, .ref o] = [.ref x, .int f, .int w, .ref o, .null] := rfl
  rw [he] at hl2
  have hex := Bd.exec
  have hby := Bd.bytes
  obtain ⟨⟨d0, d1, d2, d3, d4, d5⟩, d13, d15, d16⟩ := lk_dL
  have hRm : (headSpec (Cond.codeWith yL_look cL_look 5 (some .int) [(0, 10, 13, 13), (0, 10, 17, 15)] :: ws_all) (rm_d 10 1 6)).room = rm_d 10 1 6 := rfl
  rw [hRm]
  refine lv_aload_n (i := 3) hex hby d0 rfl (hl2.r (k := 3) rfl) ?_
  refine lv_iconst (pc := 1) hex hby d1 rfl ?_
  refine lv_aload_n (i := 0) (pc := 2) hex hby d2 rfl (hl2.r (k := 0) rfl) ?_
  refine lv_iload_n (i := 1) (pc := 3) hex hby d3 rfl (hl2.i (k := 1) rfl) ?_
  refine lv_iload_n (i := 2) (pc := 4) hex hby d4 rfl (hl2.i (k := 2) rfl) ?_
  have hxa : mm_ad B E x = B + x := hrl.ext (mm_isObj_P hx).1 E
  rw [hxa]
  obtain ⟨hmw, hcls, -, hpd⟩ := me_at (y := 249) (by decide) (by decide)
  have hon := on_at (ow_lt (mi := 249) (by decide))
  have hcode := hts _ (hmw _ List.mem_cons_self) rfl
  have hw1 : ∀ w' ∈ ws_y 249, ∀ (a' : Array Value) (U : State), s.WarmedH U.vm → w'.before a' U = true := fun w' hw a' U hW => by
    rcases List.mem_cons.mp hw with rfl | hw
    · exact word_at hW (good_of_word (w := Cond.code (mm_y 249) (mm_cc 249) (mm_mx 249) (mm_rt 249)) rfl) hcode
    · exact word_at hW (good_of_word (ws_good hw).2) (hts _ (ws_good hw).1 (ws_good hw).2)
  have hini := hts _ (hmw (Cond.initialized (mm_on (mm_ow 249))) (List.mem_cons_of_mem _ List.mem_cons_self)) rfl
  rw [← hcls] at hini
  have hin := hts _ (hmw (Cond.instanceMethod (mm_y 249)) (List.mem_cons_of_mem _ (List.mem_cons_of_mem _ List.mem_cons_self))) rfl
  have hse := hts _ (hmw (Cond.selects (mm_on (mm_ow 249)) (mm_y 249) (mm_y 249)) (List.mem_cons_of_mem _ (List.mem_cons_of_mem _ (List.mem_cons_of_mem _ List.mem_cons_self)))) rfl
  have hrec : ∃ cellB : Cell, s.heap[B + x]? = some cellB ∧ cellB.vm.isStatics = false ∧ s.vm.findClass (mm_on (mm_ow 249)) = some cellB.cls := by
    obtain ⟨g1, g2⟩ := mm_isObj_P hx
    obtain ⟨-, -, h3, -, -⟩ := cl_at (c := 10) (by decide)
    have hKn := hK.1 10 _ h3
    obtain ⟨cell, q1, q2, q3, -⟩ := (hrl.2.1 x g1).2.2.2.2.2 (by rw [g2]; decide)
    rw [g2] at q2
    exact ⟨cell, q1, by rw [q3]; rfl, by rw [q2]; exact hKn.2.1⟩
  have hpv : PreV s s.heap (mm_on (mm_ow 249)) (B + x) (sn_Pc D E X B M [.ref x, .int f, .int w]) [.int f, .int w] := ⟨sn_blind, hrec, fun U hU hW => ⟨by
    show [Value.ref (B + x), .int f, .int w].toArray = [Value.ref (mm_ad B E x), .int f, .int w].toArray
    rw [hxa], by rw [hU]; exact hrl.moved hW.alike, by rw [hU]; exact hE.warm hW, va_K.moved hW.alike hK, by rw [hU]; exact hB⟩⟩
  have hr := vx_runV (p := p') (e := e) (R := rm_d 10 1 6) (below := below) (meth := meth) (H := s.heap) (locs := []) (cells := 0) (slots := 0) (C := mm_on (mm_ow 249)) (own := RL) (index := 7) (bytes := mm_cc 249) (maxL := mm_mx 249) (ret := mm_rt 249) (n := 2) (nL := 5) (Ts := ws_all) (b := B + x) (As := [.int f, .int w]) (rest := [.int 0, .ref (mm_ad B E o)])
    (g := F0 m 5 ((lg_sl ([Value.ref x, .int f, .int w, .ref o].map (mm_tr B E)) ++ List.replicate (5 - (lg_sl ([Value.ref x, .int f, .int w, .ref o].map (mm_tr B E))).length) Slot.unset).toArray) [.int w, .int f, .ref (B + x), .int 0, .ref (mm_ad B E o)])
    ⟨hex, hby, hml, hown, fun w' hw => hts w' (ws_good hw).1 (ws_good hw).2⟩ (lk_m10 hl0 hx hp h5 hf) ⟨⟨rfl, rfl, by decide, by decide, hw1, List.mem_cons_self, hcode, hini, by rw [hcls]; exact hon.2, fun sig hs => by
      rw [hs] at hpd
      exact (Option.some.inj hpd).symm, hts _ lk_ml rfl⟩, hin, hse⟩ hpv rfl rfl hl2.2.1 rfl (lv_room (show 2 ≤ 8 by decide)) d5 ⟨Nat.le_refl _, Nat.le_refl _⟩
  intro T hT Xs
  rcases hr T hT Xs with ⟨v, st0, t, T', L, h0, X', hL, e1, e2, hq, st⟩ | ⟨q, st₀, t, T', L, E9, ce, h0, X', hL, e1, e2, ⟨rfl, hrl', hsz, hlow⟩, hce, hcv, hcl, st⟩
  · exact hq.elim
  · have hkk : W p' l e (rm_d 10 1 6) s m ([Value.ref x, .int f, .int w, .ref o].map (mm_tr B E)).toArray below meth c T'.heap ([] ++ L) (0 + 1) (0 + 6) (MQ below (sn_Qc D E B (some (.int 1)) (mm_mark M)) ([Value.ref x, .int f, .int w, .ref o].map (mm_tr B E)).toArray s 1 6 (rl_A B)) (F0 m 13 ((lg_sl ([Value.ref x, .int f, .int w, .ref o].map (mm_tr B E)) ++ List.replicate (5 - (lg_sl ([Value.ref x, .int f, .int w, .ref o].map (mm_tr B E))).length) Slot.unset).toArray) [.ref q]) := by
      refine lv_astore hex hby d13 hl2.2 (by decide) rfl (fun ls2 hl3 => ?_)
      refine lv_iconst (pc := 15) (v := 1) hex hby d15 rfl ?_
      refine W.iret hex hby Bd.returns ?_ (fun q hq => hL q (by simpa using hq)) d16
      intro t9 ht9 hW9
      refine ⟨rfl, ?_, fun q hq => ?_, ?_⟩
      · rw [ht9, e1]
        exact hrl'.moved ((by rw [← e2]; exact X'.warmed.alike.symm : t.vm.Alike s.vm).trans hW9.alike)
      · rw [ht9, e1, hlow q hq, h0]
      · rw [ht9, e1]
        rw [h0] at hsz
        exact hsz
    obtain ⟨t2, a1, b1⟩ := vx_catch (own := RL) (name := lk_I) (E := lk_I) (ce := ce) (q := q) (pc := 5) (rest := [.int 0, .ref (mm_ad B E o)]) hown [] ⟨0, 10, 13, 13⟩ [⟨0, 10, 17, 15⟩] htab (fun z hz => nomatch hz) (by decide) (by decide) (hts _ lk_cl rfl) (va_Nw.use rfl (hE.2.2.2.2.2.2.1 (.castable lk_I lk_I) (by decide +kernel))) (by rw [e1]; exact hce) hcv hcl hkk T' rfl X'
    exact ⟨t2, st.trans a1, b1⟩
theorem lk_all {l : Launch} (hl0 : l.stackTraces = false) : lk_C l := fun D E X B M M1 as r h => by
  obtain ⟨x, f, w, o, p, rfl, h1, -, -, h2, h3, h4, rfl, rfl⟩ := mm_look_I h
  exact lk_law hl0 h1 h2 h3 h4
