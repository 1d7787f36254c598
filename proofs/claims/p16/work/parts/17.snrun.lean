/-! A RUN is sound; a method's contract out of a run -/
noncomputable def ws_y (y : Nat) : List Cond := .code (mm_y y) (mm_cc y) (mm_mx y) (mm_rt y) :: ws_all
noncomputable def rm_d (d mc ms : Nat) : Room := { frames := d + 20, cells := mc, slots := ms, locals := 64 * d + 400 }
noncomputable def sn_Pc (D : va_G) (E : Nat → Nat) (X : mm_X) (B : Nat) (M : mm_M) (as : List Value) : Array Value → State → Prop := fun v U => v = (as.map (mm_tr B E)).toArray ∧ rl D U B M U.heap ∧ rl_E E X B U U.heap ∧ va_K D vwCl [] U ∧ B ≤ U.heap.size
noncomputable def sn_Qc (D : va_G) (E : Nat → Nat) (B : Nat) (r : Option Value) (M1 : mm_M) : Array Value → State → Outcome → State → Prop := fun _ st o t => o = .returned (r.map (mm_tr B E)) ∧ rl D t B M1 t.heap ∧ (∀ q : Nat, q < B → t.heap[q]? = st.heap[q]?) ∧ st.heap.size ≤ t.heap.size
theorem sn_blind {D : va_G} {E : Nat → Nat} {X : mm_X} {B : Nat} {M : mm_M} {as : List Value} : FrameBlind (sn_Pc D E X B M as) := fun a U g mk h => ⟨h.1, h.2.1.moved (U := U.calling g mk a) (Vm.Alike.refl U.vm), h.2.2.1.warm (U := U.calling g mk a) (State.WarmedH.refl U), va_K.moved (u := U) (U := U.calling g mk a) (Vm.Alike.refl U.vm) h.2.2.2.1, h.2.2.2.2⟩
theorem ws_good {w : Cond} (h : w ∈ ws_all) : w ∈ lw_tbl ∧ goodWord w = true := List.mem_filter.mp h
theorem ws_in {w : Cond} (h : w ∈ lw_tbl) (hg : goodWord w = true) : w ∈ ws_all := List.mem_filter.mpr ⟨h, hg⟩
/-- the contract of look's, still to be given -/
noncomputable def lk_C (l : Launch) : Prop := ∀ (D : va_G) (E : Nat → Nat) (X : mm_X) (B : Nat) (M M1 : mm_M) (as : List Value) (r : Option Value), mm_look M as = some (r, M1) → Met l yL_look (.codeWith yL_look cL_look 5 (some .int) [(0, 10, 13, 13), (0, 10, 17, 15)] :: ws_all) (rm_d 10 1 6) (sn_Pc D E X B M as) (sn_Qc D E B r M1) 1 6 (rl_A B)
section SNR
variable {p : Program} {l : Launch} {e : Env} {R : Room} {s : State} {m : MethodId} {args : Array Value} {below : List Frame} {meth : Method} {c : Code} {H : Heap} {locs : List Loc} {cells slots : Nat} {Q : State → Prop}
variable {D : va_G} {E : Nat → Nat} {X : mm_X} {B c0 s0 : Nat} {mi pc : Nat} {lsA : Array Slot} {M : mm_M}
theorem sn_pre (hC : sn_C D E X B p s m args meth c mi) (hI : sn_I D B s c0 s0 M H locs cells slots) (as : List Value) : ∀ U : State, U.heap = H → s.WarmedH U.vm → sn_Pc D E X B M as (as.map (mm_tr B E)).toArray U := by
  intro U hU hW
  obtain ⟨-, -, -, -, -, -, hK, hE, hB, -⟩ := hC
  refine ⟨rfl, by rw [hU]; exact hI.1.moved hW.alike, ?_, va_K.moved hW.alike hK, by rw [hU]; have := hI.2.1.1; omega⟩
  rw [hU]
  exact (hE.kept hI.2.1.2.1).warm hW
theorem sn_after {mc ms : Nat} {st0 rest : List Value} {a : Array Value} {r1 : Option Value} {M1 : mm_M} (hr : va_Run p l e R s m args below meth c H locs cells slots mc ms (F0 m pc lsA st0) rest (sn_Qc D E B r1 M1 a) (rl_A B)) (hI : sn_I D B s c0 s0 M H locs cells slots) (hB : B ≤ s.heap.size) (hmc : M.1.2.1 + mc = M1.1.2.1) (hms : M.1.2.2.1 + ms = M1.1.2.2.1)
    (kk : ∀ (H1 : Heap) (locs1 : List Loc), sn_I D B s c0 s0 M1 H1 locs1 (cells + mc) (slots + ms) → W p l e R s m args below meth c H1 locs1 (cells + mc) (slots + ms) Q (F0 m (pc + 3) lsA ((r1.map (mm_tr B E)).toList ++ rest))) : W p l e R s m args below meth c H locs cells slots Q (F0 m pc lsA st0) := by
  intro T hT Xs
  obtain ⟨v, st₀, t, T', L, h0, X', hL, e1, e2, ⟨hv, hrl, hlow, hsz⟩, st⟩ := hr T hT Xs
  cases hv
  rw [h0] at hlow hsz
  have hI1 : sn_I D B s c0 s0 M1 T'.heap (locs ++ L) (cells + mc) (slots + ms) := by
    refine ⟨?_, ⟨?_, ?_, ?_⟩, ?_, ?_⟩
    · rw [e1]
      refine hrl.moved ?_
      rw [← e2]
      exact X'.warmed.alike.symm
    · rw [e1]; exact Nat.le_trans hI.2.1.1 hsz
    · intro q h1 h2
      rw [e1, hlow q (Nat.not_le.mp h2)]
      exact hI.2.1.2.1 q h1 h2
    · intro q hq
      rcases List.mem_append.mp hq with h | h
      · exact hI.2.1.2.2 q h
      · exact hL q h
    · have := hI.2.2.1; omega
    · have := hI.2.2.2; omega
  obtain ⟨t2, a1, b1⟩ := kk T'.heap (locs ++ L) hI1 T' rfl X'
  exact ⟨t2, st t2 a1, b1⟩
theorem mm_w8_le (m : MethodId) (pc : Nat) (lsA : Array Slot) (st0 : List Value) {rest : List Value} (h : mm_w8 rest ≤ 8) : 2 * (F0 m pc lsA st0).monitorRoom + ((rest.map (mm_tr B E)).map fun v => v.category).sum ≤ 8 := lv_room (by rw [mm_tr_sum]; exact h)
/-- at a method's entry the locals are the arguments -/
theorem sn_entry {y : Nat} {as : List Value} (hok : mm_okv as = true) (hlen : (mm_sl as).length ≤ mm_mx y) : (lg_sl (as.map (mm_tr B E))).length = (mm_sl as).length ∧ lvR B E ((lg_sl (as.map (mm_tr B E)) ++ List.replicate (mm_mx y - (lg_sl (as.map (mm_tr B E))).length) Slot.unset).toArray) (mm_mx y) (mm_entry y as) := by
  have hlg : ∀ as : List Value, mm_okv as = true → (lg_sl (as.map (mm_tr B E))).length = (mm_sl as).length := by
    intro as
    induction as with
    | nil => intro _; rfl
    | cons v t ih =>
      intro h
      cases v with
      | int x => simp only [List.map_cons, mm_tr, mm_sl]; rw [show lg_sl (Value.int x :: t.map (mm_tr B E)) = .val (.int x) :: lg_sl (t.map (mm_tr B E)) from rfl, List.length_cons, List.length_cons, ih h]
      | long x => simp only [List.map_cons, mm_tr, mm_sl]; rw [show lg_sl (Value.long x :: t.map (mm_tr B E)) = .val (.long x) :: .second :: lg_sl (t.map (mm_tr B E)) from rfl, List.length_cons, List.length_cons, List.length_cons, List.length_cons, ih h]
      | ref x => simp only [List.map_cons, mm_tr, mm_sl]; rw [show lg_sl (Value.ref (mm_ad B E x) :: t.map (mm_tr B E)) = .val (.ref (mm_ad B E x)) :: lg_sl (t.map (mm_tr B E)) from rfl, List.length_cons, List.length_cons, ih h]
      | _ => cases h
  refine ⟨hlg as hok, lvR.of ?_ (lv_entry (as.map (mm_tr B E)) (by rw [hlg as hok]; exact hlen)) ?_⟩
  · unfold mm_entry; rw [List.length_append, List.length_replicate]; omega
  · have hat : ∀ (n k : Nat), mm_at (List.replicate n Value.null) k = .null := by
      intro n
      induction n with
      | zero => intro k; rfl
      | succ n ih => intro k; cases k with
        | zero => rfl
        | succ k => exact ih k
    have key : ∀ (as : List Value) (n j k : Nat) (v : Value), mm_okv as = true → (mm_at (mm_sl as ++ List.replicate n .null) k = v) → ((∃ x, v = .int x) ∨ (∃ x, v = .ref x) ∨ ∃ x, v = .long x) → (j + k, mm_tr B E v) ∈ lv_args j (as.map (mm_tr B E)) := by
      intro as
      induction as with
      | nil =>
        intro n j k v _ hv hh
        have : mm_at ([] ++ List.replicate n Value.null) k = .null := hat n k
        rw [show mm_sl [] = [] from rfl, this] at hv
        rcases hh with ⟨x, rfl⟩ | ⟨x, rfl⟩ | ⟨x, rfl⟩ <;> cases hv
      | cons w t ih =>
        intro n j k v hok hv hh
        cases w with
        | int x =>
          cases k with
          | zero => cases hv; exact List.mem_cons_self
          | succ k =>
            refine List.mem_cons_of_mem _ ?_
            have := ih n (j + 1) k v hok hv hh
            rwa [show j + 1 + k = j + (k + 1) by omega] at this
        | ref x =>
          cases k with
          | zero => cases hv; exact List.mem_cons_self
          | succ k =>
            refine List.mem_cons_of_mem _ ?_
            have := ih n (j + 1) k v hok hv hh
            rwa [show j + 1 + k = j + (k + 1) by omega] at this
        | long x =>
          cases k with
          | zero => cases hv; exact List.mem_cons_self
          | succ k =>
            cases k with
            | zero =>
              have hv2 : Value.null = v := hv
              rcases hh with ⟨x, rfl⟩ | ⟨x, rfl⟩ | ⟨x, rfl⟩ <;> cases hv2
            | succ k =>
              refine List.mem_cons_of_mem _ ?_
              have := ih n (j + 2) k v hok hv hh
              rwa [show j + 2 + k = j + (k + 1 + 1) by omega] at this
        | _ => cases hok
    intro q hq
    obtain ⟨h1, h2⟩ := mm_cl_mem.mp hq
    rcases mm_cl1_inv h2 with ⟨x, e1, e2⟩ | ⟨x, e1, e2⟩ | ⟨x, e1, -, -, e2⟩
    · have := key as _ 0 q.1 _ hok e1 (Or.inl ⟨x, rfl⟩)
      rw [Nat.zero_add] at this
      rw [e2]; exact this
    · have := key as _ 0 q.1 _ hok e1 (Or.inr (Or.inl ⟨x, rfl⟩))
      rw [Nat.zero_add] at this
      rw [e2]; exact this
    · have := key as _ 0 q.1 _ hok e1 (Or.inr (Or.inr ⟨x, rfl⟩))
      rw [Nat.zero_add] at this
      rw [e2]; exact this
end SNR
theorem ow_12a : mm_fo mm_nm (fun y => Nat.beq y 0 || !Nat.beq (mm_ow y) 12) = true := by decide +kernel
theorem ow_12 {y : Nat} (h0 : y ≠ 0) (h : y < mm_nm) : mm_ow y ≠ 12 := by
  intro z
  have h1 := mm_fo_at ow_12a y h
  rw [z] at h1
  simp only [Bool.or_eq_true] at h1
  rcases h1 with h1 | h1
  · exact h0 (Nat.eq_of_beq_eq_true h1)
  · cases h1
/-- what a run gives, for every caller -/
noncomputable def sn_R (l : Launch) (X : mm_X) (n : Nat) : Prop := ∀ (d mi pc : Nat) (ls st : List Value) (M MF : mm_M) (r : Option Value), mm_run X n d mi pc ls st M = some (r, MF) → ∀ {p : Program} {e : Env} {R : Room} {s : State} {m : MethodId} {args : Array Value} {below : List Frame} {meth : Method} {c : Code} {H : Heap} {locs : List Loc} {cells slots : Nat} {Q : State → Prop} {D : va_G} {E : Nat → Nat} {B c0 s0 : Nat} {lsA : Array Slot},
  (mm_ow mi = 12 → 15 ≤ d ∧ lk_C l) → sn_C D E X B p s m args meth c mi → sn_I D B s c0 s0 M H locs cells slots → lvR B E lsA (mm_mx mi) ls → (d + 20 ≤ R.frames ∧ 64 * d + 400 ≤ R.locals ∧ MF.1.2.1 ≤ c0 + R.cells ∧ MF.1.2.2.1 ≤ s0 + R.slots) →
  (∀ (pc' : Nat) (H' : Heap) (locs' : List Loc) (lsA' : Array Slot) (cells' slots' : Nat), sn_ret mi pc' r → sn_I D B s c0 s0 MF H' locs' cells' slots' → W p l e R s m args below meth c H' locs' cells' slots' Q (F0 m pc' lsA' (r.map (mm_tr B E)).toList)) →
  W p l e R s m args below meth c H locs cells slots Q (F0 m pc lsA (st.map (mm_tr B E)))
set_option maxHeartbeats 2000000 in
/-- a method's contract -/
theorem sn_met {l : Launch} {X : mm_X} {n d y : Nat} {M M1 : mm_M} {as : List Value} {r : Option Value} (ih : sn_R l X n) (hy0 : y ≠ 0) (hy : y < mm_nm) (hrc : mm_rc M y as = true) (h : mm_run X n d y 0 (mm_entry y as) [] M = some (r, M1)) (D : va_G) (E : Nat → Nat) (B : Nat) :
    Met l (mm_y y) (ws_y y) (rm_d d (M1.1.2.1 - M.1.2.1) (M1.1.2.2.1 - M.1.2.2.1)) (sn_Pc D E X B M as) (sn_Qc D E B r M1) (M1.1.2.1 - M.1.2.1) (M1.1.2.2.1 - M.1.2.2.1) (rl_A B) := by
  obtain ⟨hmw, hcls, hii, -⟩ := me_at hy0 hy
  have hon := on_at (ow_lt hy)
  have hmono := mm_mono h
  refine Met.ofW (cc := mm_cc y) (maxL := mm_mx y) (ret := mm_rt y) (by rw [hcls]; exact hon.1) rfl ?_
  intro p e s m args below meth c s₁ Bd hml hv
  obtain ⟨rfl, hrl, hE, hK, hB⟩ := hv
  have hts0 := atoms_spec (ws := ws_y y) Bd.pre
  have hts : ∀ w ∈ lw_tbl, goodWord w = true → w.before (as.map (mm_tr B E)).toArray s = true := fun w h1 h2 => hts0 w (List.mem_cons_of_mem _ (ws_in h1 h2))
  have hown : s.vm.findClass (mm_on (mm_ow y)) = some m.cls := by rw [← hcls]; exact findClass_of_methodNamed Bd.named
  have hnm : meth.name = (mm_y y).name := (name_of_methodNamed Bd.named Bd.method).1
  have hC : sn_C D E X B p s m (as.map (mm_tr B E)).toArray meth c y := ⟨Bd.exec, Bd.bytes, hml, hown, hts, fun h9 => hnm.trans (hii h9), hK, hE, hB, hy⟩
  unfold mm_rc at hrc
  rw [Bool.and_eq_true, Bool.and_eq_true] at hrc
  obtain ⟨hl1, hl2⟩ := sn_entry (B := B) (E := E) (y := y) hrc.1.1 (Nat.le_of_ble_eq_true hrc.1.2)
  rw [lg_entry_eq]
  have hlocks := Bd.notSynchronized
  have hr := Bd.returns
  refine ih d y 0 _ [] M M1 r h (fun z => absurd z (ow_12 hy0 hy)) hC (c0 := M.1.2.1) (s0 := M.1.2.2.1) (cells := 0) (slots := 0) ⟨hrl, va_S.rf, rfl, rfl⟩ hl2 ⟨Nat.le_refl _, Nat.le_refl _, by show _ ≤ _ + (M1.1.2.1 - M.1.2.1); omega, by show _ ≤ _ + (M1.1.2.2.1 - M.1.2.2.1); omega⟩ ?_
  intro pc' H' locs' lsA' cells' slots' hret hI
  refine W.widen (k := M1.1.2.1 - M.1.2.1) (n := M1.1.2.2.1 - M.1.2.2.1) (by have := hI.2.2.1; omega) (by have := hI.2.2.2; omega) ?_
  have hq : ∀ t : State, t.heap = H' → s.WarmedH t.vm → sn_Qc D E B r M1 (as.map (mm_tr B E)).toArray s (.returned (r.map (mm_tr B E))) t := fun t ht hW => ⟨rfl, by rw [ht]; exact hI.1.moved hW.alike, fun q hq => by rw [ht]; exact hI.2.1.2.1 q (by omega) (Nat.not_le.mpr hq), by rw [ht]; exact hI.2.1.1⟩
  match r, hret, hq with
  | none, hret, hq => exact W.vret Bd.exec Bd.bytes (hr.trans hret.2) hq hI.2.1.2.2 hret.1
  | some (.int x), hret, hq =>
    rcases hret.2 with h1 | ⟨h1, h2⟩
    · exact W.iret Bd.exec Bd.bytes (hr.trans h1) hq hI.2.1.2.2 hret.1
    · exact W.zret Bd.exec Bd.bytes (hr.trans h1) (by rcases h2 with rfl | rfl <;> decide) hq hI.2.1.2.2 hret.1
  | some (.long x), hret, hq => exact W.lret Bd.exec Bd.bytes (hr.trans hret.2) hq hI.2.1.2.2 hret.1
  | some (.ref _), hret, _ => exact hret.elim
  | some .null, hret, _ => exact hret.elim
  | some (.float _), hret, _ => exact hret.elim
  | some (.double _), hret, _ => exact hret.elim
  | some (.retAddr _), hret, _ => exact hret.elim
section SNQ
variable {p : Program} {l : Launch} {e : Env} {R : Room} {s : State} {m : MethodId} {args : Array Value} {below : List Frame} {meth : Method} {c : Code} {H : Heap} {locs : List Loc} {cells slots : Nat} {Q : State → Prop}
variable {D : va_G} {E : Nat → Nat} {X : mm_X} {B c0 s0 : Nat} {mi pc : Nat} {lsA : Array Slot} {M : mm_M}
theorem mw_good (y : Nat) : ∀ w ∈ mm_mw y, goodWord w = true := by
  intro w hw
  unfold mm_mw at hw
  rcases List.mem_cons.mp hw with rfl | hw
  · rfl
  · rcases List.mem_cons.mp hw with rfl | hw
    · rfl
    · cases hk : Nat.beq (mm_kc y) 99 with
      | true =>
        rw [hk] at hw
        rw [List.mem_singleton.mp hw]
        rfl
      | false =>
        rw [hk] at hw
        rcases List.mem_cons.mp hw with rfl | hw
        · rfl
        · cases hi : mm_ii y with
          | true => rw [hi] at hw; exact absurd hw List.not_mem_nil
          | false =>
            rw [hi] at hw
            rw [List.mem_singleton.mp hw]
            rfl
/-- a callee's words, for its caller -/
theorem sn_words {y : Nat} (hC : sn_C D E X B p s m args meth c mi) (hy0 : y ≠ 0) (hy : y < mm_nm) : (∀ w ∈ ws_y y, ∀ (a' : Array Value) (U : State), s.WarmedH U.vm → w.before a' U = true) ∧ (Cond.code (mm_y y) (mm_cc y) (mm_mx y) (mm_rt y)).before args s = true ∧ (Cond.initialized (mm_y y).cls).before args s = true ∧ ((mm_y y).cls ≠ "java/lang/invoke/MethodHandle" ∧ (mm_y y).cls ≠ "java/lang/invoke/VarHandle") ∧ (∀ sig, parseMethodDescriptor (mm_y y).desc = some sig → mm_pn y = sig.parameters.length) := by
  obtain ⟨hmw, hcls, -, hp⟩ := me_at hy0 hy
  have hon := on_at (ow_lt hy)
  have hts := hC.2.2.2.2.1
  have hcode := hmw _ List.mem_cons_self
  refine ⟨fun w hw a' U hW => ?_, hts _ hcode rfl, ?_, by rw [hcls]; exact hon.2, fun sig hs => ?_⟩
  · rcases List.mem_cons.mp hw with rfl | hw
    · exact word_at hW (good_of_word (w := Cond.code (mm_y y) (mm_cc y) (mm_mx y) (mm_rt y)) rfl) (hts _ hcode rfl)
    · exact word_at hW (good_of_word (ws_good hw).2) (hts _ (ws_good hw).1 (ws_good hw).2)
  · rw [hcls]; exact hts _ (hmw _ (List.mem_cons_of_mem _ List.mem_cons_self)) rfl
  · rw [hs] at hp
    exact (Option.some.inj hp).symm
theorem mx_20 {y : Nat} (hy : y < mm_nm) : mm_mx y ≤ 20 := by
  have h := mm_fo_at m1_all y hy
  unfold mm_m1 at h
  rw [Bool.and_eq_true] at h
  exact Nat.le_of_ble_eq_true h.2
theorem kc_own {y : Nat} (hy : y < mm_nm) (h : Nat.beq (mm_kc y) 99 = false) : mm_kc y = mm_ow y ∧ mm_ow y < mm_ncl := by
  have h1 := mm_fo_at m1_all y hy
  unfold mm_m1 at h1
  rw [Bool.and_eq_true, Bool.and_eq_true, h, Bool.false_or, Bool.and_eq_true] at h1
  exact ⟨Nat.eq_of_beq_eq_true h1.1.1.1, Nat.le_of_ble_eq_true h1.1.1.2⟩
theorem sn_tl (r1 : Option Value) (rest : List Value) : (r1.toList ++ rest).map (mm_tr B E) = (r1.map (mm_tr B E)).toList ++ rest.map (mm_tr B E) := by
  rw [List.map_append]
  cases r1 <;> rfl
/-- the object that a method is called on -/
theorem sn_recv {a y : Nat} (hC : sn_C D E X B p s m args meth c mi) (hI : sn_I D B s c0 s0 M H locs cells slots) (hy : y < mm_nm) (hk : Nat.beq (mm_kc y) 99 = false) (ho : mm_isObj M a (mm_kc y) = true) : ∃ cellB : Cell, H[B + a]? = some cellB ∧ cellB.vm.isStatics = false ∧ s.vm.findClass (mm_on (mm_ow y)) = some cellB.cls := by
  obtain ⟨e1, e2⟩ := kc_own hy hk
  obtain ⟨g1, g2⟩ := mm_isObj_P ho
  rw [e1] at g2
  obtain ⟨-, hKn⟩ := sn_cls hC e2
  obtain ⟨cell, q1, q2, q3, -⟩ := (hI.1.2.1 a g1).2.2.2.2.2 (by rw [g2]; exact e2)
  rw [g2] at q2
  exact ⟨cell, q1, by rw [q3]; rfl, by rw [q2]; exact hKn.2.1⟩
set_option maxHeartbeats 4000000 in
/-- A CALL -/
theorem sn_call {q : mm_R} {idx : Nat} {as rest : List Value} {n d : Nat} {r1 : Option Value} {M1 : mm_M} (ih : sn_R l X n) (hC : sn_C D E X B p s m args meth c mi) (hI : sn_I D B s c0 s0 M H locs cells slots) (hsz : lsA.size = mm_mx mi) (hck : mm_ck mi pc q = true) (hq : q.1 = .invokevirtual idx ∨ (q.1 = .invokespecial idx ∧ Nat.beq q.2.2.1 999 = false) ∨ (q.1 = .invokestatic idx ∧ Nat.beq q.2.2.1 996 = false ∧ Nat.beq q.2.2.1 997 = false)) (hlen : as.length = q.2.2.2.1) (h8 : mm_w8 rest ≤ 8) (hn8 : ¬ q.2.2.1 = 998) (hrc : mm_rc M q.2.2.1 as = true) (hrun : mm_run X n d q.2.2.1 0 (mm_entry q.2.2.1 as) [] M = some (r1, M1))
    (hR : d + 1 + 20 ≤ R.frames ∧ 64 * (d + 1) + 400 ≤ R.locals ∧ M1.1.2.1 ≤ c0 + R.cells ∧ M1.1.2.2.1 ≤ s0 + R.slots)
    (kk : ∀ (H1 : Heap) (locs1 : List Loc) (cells1 slots1 : Nat), sn_I D B s c0 s0 M1 H1 locs1 cells1 slots1 → W p l e R s m args below meth c H1 locs1 cells1 slots1 Q (F0 m (pc + 3) lsA ((r1.toList ++ rest).map (mm_tr B E)))) : W p l e R s m args below meth c H locs cells slots Q (F0 m pc lsA ((as.reverse ++ rest).map (mm_tr B E))) := by
  obtain ⟨i, len, y, b, ps⟩ := q
  unfold mm_ck at hck
  rw [Bool.and_eq_true, decide_eq_true_eq] at hck
  obtain ⟨hd, hcx⟩ := hck
  have hx := hC.1
  have hb := hC.2.1
  have hml := hC.2.2.1
  have hown := hC.2.2.2.1
  have hts := hC.2.2.2.2.1
  have hE := hC.2.2.2.2.2.2.2.1
  have hB := hC.2.2.2.2.2.2.2.2.1
  have hnm := hC.2.2.2.2.2.2.2.2.2
  have hmono := mm_mono hrun
  have hS : CallFix p m c (mm_cc mi) (mm_mx mi) s args ws_all (mm_on (mm_ow mi)) := ⟨hx, hb, hml, hown, fun w hw => hts w (ws_good hw).1 (ws_good hw).2⟩
  have hmc : M.1.2.1 + (M1.1.2.1 - M.1.2.1) = M1.1.2.1 := by omega
  have hms : M.1.2.2.1 + (M1.1.2.2.1 - M.1.2.2.1) = M1.1.2.2.1 := by omega
  have hfit : cells + (M1.1.2.1 - M.1.2.1) ≤ R.cells ∧ slots + (M1.1.2.2.1 - M.1.2.2.1) ≤ R.slots := by
    have h1 := hI.2.2.1
    have h2 := hI.2.2.2
    omega
  have hk2 : ∀ (H1 : Heap) (locs1 : List Loc), sn_I D B s c0 s0 M1 H1 locs1 (cells + (M1.1.2.1 - M.1.2.1)) (slots + (M1.1.2.2.1 - M.1.2.2.1)) → W p l e R s m args below meth c H1 locs1 (cells + (M1.1.2.1 - M.1.2.1)) (slots + (M1.1.2.2.1 - M.1.2.2.1)) Q (F0 m (pc + 3) lsA ((r1.map (mm_tr B E)).toList ++ rest.map (mm_tr B E))) := by
    intro H1 locs1 h9
    have h10 := kk H1 locs1 _ _ h9
    rw [sn_tl] at h10
    exact h10
  have hcall : ∀ {y : Nat}, y ≠ 0 → y < mm_nm → mm_rc M y as = true → mm_run X n d y 0 (mm_entry y as) [] M = some (r1, M1) →
      Met l (mm_y y) (ws_y y) (rm_d d (M1.1.2.1 - M.1.2.1) (M1.1.2.2.1 - M.1.2.2.1)) (sn_Pc D E X B M as) (sn_Qc D E B r1 M1) (M1.1.2.1 - M.1.2.1) (M1.1.2.2.1 - M.1.2.2.1) (rl_A B) ∧ (d + 20 + 1 ≤ R.frames ∧ 8 + (mm_mx y + 11) + (64 * d + 400) ≤ R.locals) := fun h0 h1 h2 h3 => ⟨sn_met ih h0 h1 h2 h3 D E B, by have := mx_20 h1; omega⟩
  have hpre := sn_pre hC hI as
  rcases hq with hq | ⟨hq, h999⟩ | ⟨hq, h996, h997⟩
  · -- invokevirtual
    simp only at hq
    subst hq
    simp only [mm_cx, Bool.and_eq_true, decide_eq_true_eq, Bool.not_eq_true'] at hcx
    obtain ⟨⟨⟨⟨⟨⟨hl3, c1⟩, c2⟩, c3⟩, c4⟩, c5⟩, c6⟩ := hcx
    subst hl3
    have c1 := Nat.le_of_ble_eq_true c1
    have c2 : y ≠ 0 := fun z => by rw [z] at c2; cases c2
    have c6 := Nat.eq_of_beq_eq_true c6
    obtain ⟨hMt, hR1, hR2⟩ := hcall c2 c1 hrc hrun
    obtain ⟨hw1, hw2, hw3, hw4, hw5⟩ := sn_words hC c2 c1
    obtain ⟨hmw, hcls, -, -⟩ := me_at c2 c1
    have hrc2 := hrc
    unfold mm_rc at hrc2
    rw [Bool.and_eq_true] at hrc2
    have hrc3 := hrc2.2
    rw [c3, cond_false] at hrc3
    match as, hlen, hrc3, hMt, hpre with
    | .ref a :: t, hlen, hrc3, hMt, hpre =>
      have hrec := sn_recv hC hI c1 c3 hrc3
      have e1 : mm_tr B E (.ref a) = .ref (B + a) := by show Value.ref (mm_ad B E a) = _; rw [hI.1.ext (mm_isObj_P hrc3).1 E]
      have hin := hts _ (hmw (Cond.instanceMethod (mm_y y)) (by unfold mm_mw; rw [c3]; exact List.mem_cons_of_mem _ (List.mem_cons_of_mem _ List.mem_cons_self))) rfl
      have hse := hts _ (hmw (Cond.selects (mm_on (mm_ow y)) (mm_y y) (mm_y y)) (by unfold mm_mw; rw [c3, c4]; exact List.mem_cons_of_mem _ (List.mem_cons_of_mem _ (List.mem_cons_of_mem _ List.mem_cons_self)))) rfl
      have hst : (((Value.ref a :: t).reverse ++ rest).map (mm_tr B E)) = (t.map (mm_tr B E)).reverse ++ .ref (B + a) :: rest.map (mm_tr B E) := by
        rw [List.reverse_cons, List.append_assoc, List.map_append, List.map_reverse]
        simp only [List.map_append, List.map_cons, List.singleton_append, e1]
      have hpv : PreV s H (mm_on (mm_ow y)) (B + a) (sn_Pc D E X B M (.ref a :: t)) (t.map (mm_tr B E)) := ⟨sn_blind, hrec, fun U hU hW => by have h9 := hpre U hU hW; simp only [List.map_cons, e1] at h9; exact h9⟩
      have hlen2 : (t.map (mm_tr B E)).length = mm_pn y := by rw [List.length_map]; simp only [List.length_cons] at hlen; omega
      rw [hst]
      unfold mm_cM at c5
      split at c5
      · have c7 := of_decide_eq_true c5
        exact sn_after (va_runV (C := mm_on (mm_ow y)) (bytes := mm_cc y) (maxL := mm_mx y) (ret := mm_rt y) hS hMt ⟨⟨rfl, rfl, hR1, hR2, hw1, List.mem_cons_self, hw2, hw3, hw4, hw5, hts _ (sn_lk hnm c7) rfl⟩, hin, hse⟩ hpv rfl hlen2 hsz rfl (mm_w8_le m pc lsA _ h8) hd hfit) hI hB hmc hms hk2
      · have c7 := of_decide_eq_true c5
        exact sn_after (va_runVN (C := mm_on (mm_ow y)) (host := "NotchedCards") (bytes := mm_cc y) (maxL := mm_mx y) (ret := mm_rt y) hS hMt ⟨⟨⟨rfl, rfl, hR1, hR2, hw1, List.mem_cons_self⟩, hw2, hw3, hw4, hw5, va_Nw.use rfl (hE.1 _ (List.mem_of_getElem? c7))⟩, hin, hse⟩ hpv rfl hlen2 hsz rfl (mm_w8_le m pc lsA _ h8) hd hfit) hI hB hmc hms hk2
      · cases c5
    | [], _, hrc3, _, _ => cases hrc3
    | .int _ :: _, _, hrc3, _, _ => cases hrc3
    | .long _ :: _, _, hrc3, _, _ => cases hrc3
    | .float _ :: _, _, hrc3, _, _ => cases hrc3
    | .double _ :: _, _, hrc3, _, _ => cases hrc3
    | .null :: _, _, hrc3, _, _ => cases hrc3
    | .retAddr _ :: _, _, hrc3, _, _ => cases hrc3
  · -- invokespecial: a constructor
    simp only at hq
    subst hq
    simp only [mm_cx, Bool.and_eq_true, decide_eq_true_eq] at hcx
    obtain ⟨hl3, hcx⟩ := hcx
    subst hl3
    have h999 : Nat.beq y 999 = false := h999
    rw [h999, cond_false] at hcx
    simp only [Bool.and_eq_true, Bool.not_eq_true'] at hcx
    obtain ⟨⟨⟨⟨⟨c1, c2⟩, c3⟩, c4⟩, c5⟩, c6⟩ := hcx
    have c1 := Nat.le_of_ble_eq_true c1
    have c2 : y ≠ 0 := fun z => by rw [z] at c2; cases c2
    have c6 := Nat.eq_of_beq_eq_true c6
    obtain ⟨hMt, hR1, hR2⟩ := hcall c2 c1 hrc hrun
    obtain ⟨hw1, hw2, hw3, hw4, hw5⟩ := sn_words hC c2 c1
    obtain ⟨hmw, hcls, hii, -⟩ := me_at c2 c1
    have hrt : mm_rt y = none := by
      have h1 := mm_fo_at m1_all y c1
      unfold mm_m1 at h1
      rw [Bool.and_eq_true, Bool.and_eq_true, c4] at h1
      simpa using h1.1.2
    have hrc2 := hrc
    unfold mm_rc at hrc2
    rw [Bool.and_eq_true] at hrc2
    have hrc3 := hrc2.2
    rw [c3, cond_false] at hrc3
    unfold ws_y at hMt hw1
    rw [hrt] at hMt hw1 hw2
    match as, hlen, hrc3, hMt, hpre with
    | .ref a :: t, hlen, hrc3, hMt, hpre =>
      have e1 : mm_tr B E (.ref a) = .ref (B + a) := by show Value.ref (mm_ad B E a) = _; rw [hI.1.ext (mm_isObj_P hrc3).1 E]
      have hin := hts _ (hmw (Cond.instanceMethod (mm_y y)) (by unfold mm_mw; rw [c3]; exact List.mem_cons_of_mem _ (List.mem_cons_of_mem _ List.mem_cons_self))) rfl
      have hst : (((Value.ref a :: t).reverse ++ rest).map (mm_tr B E)) = (t.map (mm_tr B E)).reverse ++ .ref (B + a) :: rest.map (mm_tr B E) := by
        rw [List.reverse_cons, List.append_assoc, List.map_append, List.map_reverse]
        simp only [List.map_append, List.map_cons, List.singleton_append, e1]
      have hpv : PreS s H (sn_Pc D E X B M (.ref a :: t)) (.ref (B + a) :: t.map (mm_tr B E)) := ⟨sn_blind, fun U hU hW => by have h9 := hpre U hU hW; simp only [List.map_cons, e1] at h9; exact h9⟩
      have hlen2 : (t.map (mm_tr B E)).length = mm_pn y := by rw [List.length_map]; simp only [List.length_cons] at hlen; omega
      rw [hst]
      unfold mm_cM at c5
      split at c5
      · have c7 := of_decide_eq_true c5
        exact sn_after (va_runI (bytes := mm_cc y) (maxL := mm_mx y) hS hMt ⟨⟨rfl, rfl, hR1, hR2, hw1, List.mem_cons_self, hw2, hw3, hw4, hw5, hts _ (sn_lk hnm c7) rfl⟩, hii c4, hin⟩ hpv rfl hlen2 hsz rfl (mm_w8_le m pc lsA _ h8) hd hfit) hI hB hmc hms hk2
      · have c7 := of_decide_eq_true c5
        exact sn_after (va_runIN (host := "NotchedCards") (bytes := mm_cc y) (maxL := mm_mx y) hS hMt ⟨⟨⟨rfl, rfl, hR1, hR2, hw1, List.mem_cons_self⟩, hw2, hw3, hw4, hw5, va_Nw.use rfl (hE.1 _ (List.mem_of_getElem? c7))⟩, hii c4, hin⟩ hpv rfl hlen2 hsz rfl (mm_w8_le m pc lsA _ h8) hd hfit) hI hB hmc hms hk2
      · cases c5
    | [], _, hrc3, _, _ => cases hrc3
    | .int _ :: _, _, hrc3, _, _ => cases hrc3
    | .long _ :: _, _, hrc3, _, _ => cases hrc3
    | .float _ :: _, _, hrc3, _, _ => cases hrc3
    | .double _ :: _, _, hrc3, _, _ => cases hrc3
    | .null :: _, _, hrc3, _, _ => cases hrc3
    | .retAddr _ :: _, _, hrc3, _, _ => cases hrc3
  · -- invokestatic
    simp only at hq
    subst hq
    simp only [mm_cx, Bool.and_eq_true, decide_eq_true_eq] at hcx
    obtain ⟨hl3, hcx⟩ := hcx
    subst hl3
    have h996 : Nat.beq y 996 = false := h996
    have h997 : Nat.beq y 997 = false := h997
    have h998 : Nat.beq y 998 = false := by
      cases hbb : Nat.beq y 998 with
      | false => rfl
      | true => exact absurd (Nat.eq_of_beq_eq_true hbb) hn8
    rw [h996, h997, h998] at hcx
    simp only [cond_false, Bool.and_eq_true, Bool.not_eq_true'] at hcx
    obtain ⟨⟨⟨⟨c1, c2⟩, c3⟩, c5⟩, c6⟩ := hcx
    have c1 := Nat.le_of_ble_eq_true c1
    have c2 : y ≠ 0 := fun z => by rw [z] at c2; cases c2
    have c6 := Nat.eq_of_beq_eq_true c6
    obtain ⟨hMt, hR1, hR2⟩ := hcall c2 c1 hrc hrun
    obtain ⟨hw1, hw2, hw3, hw4, hw5⟩ := sn_words hC c2 c1
    obtain ⟨hmw, hcls, -, -⟩ := me_at c2 c1
    have hst9 := hts _ (hmw (Cond.static (mm_y y)) (by unfold mm_mw; rw [c3]; exact List.mem_cons_of_mem _ (List.mem_cons_of_mem _ List.mem_cons_self))) rfl
    have hst : ((as.reverse ++ rest).map (mm_tr B E)) = (as.map (mm_tr B E)).reverse ++ rest.map (mm_tr B E) := by
      rw [List.map_append, List.map_reverse]
    have hpv : PreS s H (sn_Pc D E X B M as) (as.map (mm_tr B E)) := ⟨sn_blind, hpre⟩
    have hlen2 : (as.map (mm_tr B E)).length = mm_pn y := by rw [List.length_map, hlen]; exact c6
    rw [hst]
    unfold mm_cM at c5
    split at c5
    · have c7 := of_decide_eq_true c5
      exact sn_after (va_runS (bytes := mm_cc y) (maxL := mm_mx y) (ret := mm_rt y) hS hMt ⟨⟨rfl, rfl, hR1, hR2, hw1, List.mem_cons_self, hw2, hw3, hw4, hw5, hts _ (sn_lk hnm c7) rfl⟩, hst9⟩ hpv rfl hlen2 hsz rfl (mm_w8_le m pc lsA _ h8) hd hfit) hI hB hmc hms hk2
    · have c7 := of_decide_eq_true c5
      exact sn_after (va_runSN (host := "NotchedCards") (bytes := mm_cc y) (maxL := mm_mx y) (ret := mm_rt y) hS hMt ⟨⟨⟨rfl, rfl, hR1, hR2, hw1, List.mem_cons_self⟩, hw2, hw3, hw4, hw5, va_Nw.use rfl (hE.1 _ (List.mem_of_getElem? c7))⟩, hst9, trivial⟩ hpv rfl hlen2 hsz rfl (mm_w8_le m pc lsA _ h8) hd hfit) hI hB hmc hms hk2
    · cases c5
end SNQ
