/-! THE START: the law's state as the small machine's -/
theorem st_hA (s : State) : ∀ a : Nat, a < s.heap.size → ¬ rl_A s.heap.size a := fun a h => Nat.not_le.mpr h
theorem st_W_el {args : Array Value} {s : State} (hs : ∀ c ∈ flatC (Jvm.Cond.and given_1 narrow_1), c.before args s = true) : ∀ j : Nat, j < 15 → (Term.elem (.static "NotchedCards" "LANGUAGE_WORDS" "[I") (.int (Int32.ofNat j))).eval args s none [] s = some (.int (fr_W.getD j 0))
  | 0, _ => va_eqt (t := Term.elem (.static "NotchedCards" "LANGUAGE_WORDS" "[I") (.int 0)) (z := 284563040) (hs _ (by decide +kernel))
  | 1, _ => va_eqt (t := Term.elem (.static "NotchedCards" "LANGUAGE_WORDS" "[I") (.int 1)) (z := 210940032) (hs _ (by decide +kernel))
  | 2, _ => va_eqt (t := Term.elem (.static "NotchedCards" "LANGUAGE_WORDS" "[I") (.int 2)) (z := 788074496) (hs _ (by decide +kernel))
  | 3, _ => va_eqt (t := Term.elem (.static "NotchedCards" "LANGUAGE_WORDS" "[I") (.int 3)) (z := 518160384) (hs _ (by decide +kernel))
  | 4, _ => va_eqt (t := Term.elem (.static "NotchedCards" "LANGUAGE_WORDS" "[I") (.int 4)) (z := 659999744) (hs _ (by decide +kernel))
  | 5, _ => va_eqt (t := Term.elem (.static "NotchedCards" "LANGUAGE_WORDS" "[I") (.int 5)) (z := 538233440) (hs _ (by decide +kernel))
  | 6, _ => va_eqt (t := Term.elem (.static "NotchedCards" "LANGUAGE_WORDS" "[I") (.int 6)) (z := 404000768) (hs _ (by decide +kernel))
  | 7, _ => va_eqt (t := Term.elem (.static "NotchedCards" "LANGUAGE_WORDS" "[I") (.int 7)) (z := 538561536) (hs _ (by decide +kernel))
  | 8, _ => va_eqt (t := Term.elem (.static "NotchedCards" "LANGUAGE_WORDS" "[I") (.int 8)) (z := 686817280) (hs _ (by decide +kernel))
  | 9, _ => va_eqt (t := Term.elem (.static "NotchedCards" "LANGUAGE_WORDS" "[I") (.int 9)) (z := 93323264) (hs _ (by decide +kernel))
  | 10, _ => va_eqt (t := Term.elem (.static "NotchedCards" "LANGUAGE_WORDS" "[I") (.int 10)) (z := 351582208) (hs _ (by decide +kernel))
  | 11, _ => va_eqt (t := Term.elem (.static "NotchedCards" "LANGUAGE_WORDS" "[I") (.int 11)) (z := 40936896) (hs _ (by decide +kernel))
  | 12, _ => va_eqt (t := Term.elem (.static "NotchedCards" "LANGUAGE_WORDS" "[I") (.int 12)) (z := 486146048) (hs _ (by decide +kernel))
  | 13, _ => va_eqt (t := Term.elem (.static "NotchedCards" "LANGUAGE_WORDS" "[I") (.int 13)) (z := 48365568) (hs _ (by decide +kernel))
  | 14, _ => va_eqt (t := Term.elem (.static "NotchedCards" "LANGUAGE_WORDS" "[I") (.int 14)) (z := 522190848) (hs _ (by decide +kernel))
  | n + 15, h => absurd h (by omega)
theorem st_W {args : Array Value} {s : State} (hs : ∀ c ∈ flatC (Jvm.Cond.and given_1 narrow_1), c.before args s = true) (hts : ∀ w ∈ lw_tbl, w.before args s = true) : ∃ t : Nat, va_T .int t 15 (fun j => .int (fr_W.getD j 0)) (rl_A s.heap.size) s s.heap ∧ va_Z "NotchedCards" "LANGUAGE_WORDS" "[I" (.ref t) (rl_A s.heap.size) s s.heap := by
  obtain ⟨t, h1, h2⟩ := va_Tof (tm := .static "NotchedCards" "LANGUAGE_WORDS" "[I") (ty := .int) (N := 15) (f := fun j => .int (fr_W.getD j 0)) (A := rl_A s.heap.size) (by decide) (hs _ (by decide +kernel)) (va_eqt (t := Term.length (.static "NotchedCards" "LANGUAGE_WORDS" "[I")) (z := 15) (hs _ (by decide +kernel))) (st_W_el hs) (st_hA s)
  exact ⟨t, h2, va_Zof (hts _ (by decide +kernel)) (hts _ (by decide +kernel)) h1 (st_hA s)⟩
theorem st_S_el {args : Array Value} {s : State} (hs : ∀ c ∈ flatC (Jvm.Cond.and given_1 narrow_1), c.before args s = true) : ∀ j : Nat, j < 10 → (Term.elem (.static "NotchedCards" "SUMS_CODES" "[I") (.int (Int32.ofNat j))).eval args s none [] s = some (.int (fr_S.getD j 0))
  | 0, _ => va_eqt (t := Term.elem (.static "NotchedCards" "SUMS_CODES" "[I") (.int 0)) (z := 0) (hs _ (by decide +kernel))
  | 1, _ => va_eqt (t := Term.elem (.static "NotchedCards" "SUMS_CODES" "[I") (.int 1)) (z := 8) (hs _ (by decide +kernel))
  | 2, _ => va_eqt (t := Term.elem (.static "NotchedCards" "SUMS_CODES" "[I") (.int 2)) (z := 4) (hs _ (by decide +kernel))
  | 3, _ => va_eqt (t := Term.elem (.static "NotchedCards" "SUMS_CODES" "[I") (.int 3)) (z := 12) (hs _ (by decide +kernel))
  | 4, _ => va_eqt (t := Term.elem (.static "NotchedCards" "SUMS_CODES" "[I") (.int 4)) (z := 2) (hs _ (by decide +kernel))
  | 5, _ => va_eqt (t := Term.elem (.static "NotchedCards" "SUMS_CODES" "[I") (.int 5)) (z := 10) (hs _ (by decide +kernel))
  | 6, _ => va_eqt (t := Term.elem (.static "NotchedCards" "SUMS_CODES" "[I") (.int 6)) (z := 6) (hs _ (by decide +kernel))
  | 7, _ => va_eqt (t := Term.elem (.static "NotchedCards" "SUMS_CODES" "[I") (.int 7)) (z := 1) (hs _ (by decide +kernel))
  | 8, _ => va_eqt (t := Term.elem (.static "NotchedCards" "SUMS_CODES" "[I") (.int 8)) (z := 9) (hs _ (by decide +kernel))
  | 9, _ => va_eqt (t := Term.elem (.static "NotchedCards" "SUMS_CODES" "[I") (.int 9)) (z := 5) (hs _ (by decide +kernel))
  | n + 10, h => absurd h (by omega)
theorem st_S {args : Array Value} {s : State} (hs : ∀ c ∈ flatC (Jvm.Cond.and given_1 narrow_1), c.before args s = true) (hts : ∀ w ∈ lw_tbl, w.before args s = true) : ∃ t : Nat, va_T .int t 10 (fun j => .int (fr_S.getD j 0)) (rl_A s.heap.size) s s.heap ∧ va_Z "NotchedCards" "SUMS_CODES" "[I" (.ref t) (rl_A s.heap.size) s s.heap := by
  obtain ⟨t, h1, h2⟩ := va_Tof (tm := .static "NotchedCards" "SUMS_CODES" "[I") (ty := .int) (N := 10) (f := fun j => .int (fr_S.getD j 0)) (A := rl_A s.heap.size) (by decide) (hs _ (by decide +kernel)) (va_eqt (t := Term.length (.static "NotchedCards" "SUMS_CODES" "[I")) (z := 10) (hs _ (by decide +kernel))) (st_S_el hs) (st_hA s)
  exact ⟨t, h2, va_Zof (hts _ (by decide +kernel)) (hts _ (by decide +kernel)) h1 (st_hA s)⟩
theorem st_P_el {args : Array Value} {s : State} (hs : ∀ c ∈ flatC (Jvm.Cond.and given_1 narrow_1), c.before args s = true) : ∀ j : Nat, j < 10 → (Term.elem (.static "NotchedCards" "PAIRS_CODES" "[I") (.int (Int32.ofNat j))).eval args s none [] s = some (.int (fr_P.getD j 0))
  | 0, _ => va_eqt (t := Term.elem (.static "NotchedCards" "PAIRS_CODES" "[I") (.int 0)) (z := 3) (hs _ (by decide +kernel))
  | 1, _ => va_eqt (t := Term.elem (.static "NotchedCards" "PAIRS_CODES" "[I") (.int 1)) (z := 24) (hs _ (by decide +kernel))
  | 2, _ => va_eqt (t := Term.elem (.static "NotchedCards" "PAIRS_CODES" "[I") (.int 2)) (z := 20) (hs _ (by decide +kernel))
  | 3, _ => va_eqt (t := Term.elem (.static "NotchedCards" "PAIRS_CODES" "[I") (.int 3)) (z := 12) (hs _ (by decide +kernel))
  | 4, _ => va_eqt (t := Term.elem (.static "NotchedCards" "PAIRS_CODES" "[I") (.int 4)) (z := 18) (hs _ (by decide +kernel))
  | 5, _ => va_eqt (t := Term.elem (.static "NotchedCards" "PAIRS_CODES" "[I") (.int 5)) (z := 10) (hs _ (by decide +kernel))
  | 6, _ => va_eqt (t := Term.elem (.static "NotchedCards" "PAIRS_CODES" "[I") (.int 6)) (z := 6) (hs _ (by decide +kernel))
  | 7, _ => va_eqt (t := Term.elem (.static "NotchedCards" "PAIRS_CODES" "[I") (.int 7)) (z := 17) (hs _ (by decide +kernel))
  | 8, _ => va_eqt (t := Term.elem (.static "NotchedCards" "PAIRS_CODES" "[I") (.int 8)) (z := 9) (hs _ (by decide +kernel))
  | 9, _ => va_eqt (t := Term.elem (.static "NotchedCards" "PAIRS_CODES" "[I") (.int 9)) (z := 5) (hs _ (by decide +kernel))
  | n + 10, h => absurd h (by omega)
theorem st_P {args : Array Value} {s : State} (hs : ∀ c ∈ flatC (Jvm.Cond.and given_1 narrow_1), c.before args s = true) (hts : ∀ w ∈ lw_tbl, w.before args s = true) : ∃ t : Nat, va_T .int t 10 (fun j => .int (fr_P.getD j 0)) (rl_A s.heap.size) s s.heap ∧ va_Z "NotchedCards" "PAIRS_CODES" "[I" (.ref t) (rl_A s.heap.size) s s.heap := by
  obtain ⟨t, h1, h2⟩ := va_Tof (tm := .static "NotchedCards" "PAIRS_CODES" "[I") (ty := .int) (N := 10) (f := fun j => .int (fr_P.getD j 0)) (A := rl_A s.heap.size) (by decide) (hs _ (by decide +kernel)) (va_eqt (t := Term.length (.static "NotchedCards" "PAIRS_CODES" "[I")) (z := 10) (hs _ (by decide +kernel))) (st_P_el hs) (st_hA s)
  exact ⟨t, h2, va_Zof (hts _ (by decide +kernel)) (hts _ (by decide +kernel)) h1 (st_hA s)⟩
theorem st_str {args : Array Value} {s : State} {k : Nat} (h : (Cond.exactly (.string "NotchedCards" k) "java/lang/String").before args s = true) : ∃ a : Nat, (Term.string "NotchedCards" k).eval args s none [] s = some (.ref a) := by
  obtain ⟨a, -, -, -, h1, -⟩ := Cond.exactly_spec h
  exact ⟨a, h1⟩
theorem st_nw {args : Array Value} {s : State} (hts : ∀ w ∈ lw_tbl, w.before args s = true) : ∀ d ∈ nn_0, va_Nw (mm_nc d) s := fun d hd => va_Nw.of (by
  have h : ∀ d ∈ nn_0, (mm_nc d).onTables = true := by decide +kernel
  exact h d hd) (hts _ (nn_in d hd))
theorem st_ng : ∀ w ∈ ng_ws, w ∈ lw_tbl := by decide +kernel
theorem st_L {args : Array Value} {s : State} (hs : ∀ c ∈ flatC (Jvm.Cond.and given_1 narrow_1), c.before args s = true) (hts : ∀ w ∈ lw_tbl, w.before args s = true) : rl_L s.heap.size s s.heap := by
  obtain ⟨a1, e1⟩ := st_str (k := 155) (hs _ (by decide +kernel))
  obtain ⟨a2, e2⟩ := st_str (k := 175) (hs _ (by decide +kernel))
  exact ⟨vx_Zqof (hts _ (by decide +kernel)) (hts _ (by decide +kernel)) (hs _ (by decide +kernel)) (st_hA s), vx_Zqof (hts _ (by decide +kernel)) (hts _ (by decide +kernel)) (hs _ (by decide +kernel)) (st_hA s), fun w hw => va_Nw.of (lk_ont w hw) (hts w (st_ng w hw)), ⟨a1, vk_R.of (hts _ (by decide +kernel)) e1⟩, ⟨a2, vk_R.of (hts _ (by decide +kernel)) e2⟩, va_Nc.of (hs _ (by decide +kernel))⟩
theorem st_K {args : Array Value} {s : State} (hts : ∀ w ∈ lw_tbl, w.before args s = true) : ∃ D : va_G, va_K D vwCl [] s := by
  have h : ∀ c : Nat, c < mm_ncl → ∃ z : ClassId × (Nat → Nat), u_Kn s (mm_on c) (mm_tf c) (mm_tn c) z.1 z.2 := fun c hc => by
    obtain ⟨-, -, -, h4, h5, -⟩ := cl_at hc
    obtain ⟨cC, iS, h9⟩ := u_known hts h4 (hts _ h5.1)
    exact ⟨(cC, iS), h9⟩
  obtain ⟨z0, -⟩ := h 0 (by decide)
  have h2 : ∀ c : Nat, ∃ z : ClassId × (Nat → Nat), c < mm_ncl → u_Kn s (mm_on c) (mm_tf c) (mm_tn c) z.1 z.2 := fun c => by
    by_cases hc : c < mm_ncl
    · obtain ⟨z, hz⟩ := h c hc
      exact ⟨z, fun _ => hz⟩
    · exact ⟨z0, fun g => absurd g hc⟩
  refine ⟨(fun c => (Classical.choose (h2 c)).1, fun c => (Classical.choose (h2 c)).2), fun c q hq => ?_, fun k q hk => ?_⟩
  · have hc : c < mm_ncl := by
      have := (List.getElem?_eq_some_iff.mp hq).1
      exact this
    have h9 := Classical.choose_spec (h2 c) hc
    obtain ⟨-, -, h3, -⟩ := cl_at hc
    rw [h3] at hq
    cases hq
    exact h9
  · cases hk
theorem st_E {s : State} {args : Array Value} {b L : Nat} {xs : Nat → Int32} (hs : ∀ c ∈ flatC (Jvm.Cond.and given_1 narrow_1), c.before args s = true) (hts : ∀ w ∈ lw_tbl, w.before args s = true) (hX : va_X b L xs s s.heap) (hb : b < s.heap.size) : ∃ E : Nat → Nat, E 0 = b ∧ rl_E E (fr_X L xs) s.heap.size s s.heap := by
  obtain ⟨t1, u1, v1⟩ := st_W hs hts
  obtain ⟨t2, u2, v2⟩ := st_S hs hts
  obtain ⟨t3, u3, v3⟩ := st_P hs hts
  obtain ⟨scr, g1, g2, g3, g4, g5⟩ := hX
  have u0 : va_T .int b L (fun j => .int (xs j)) (rl_A s.heap.size) s s.heap := ⟨scr, g1, g2, g3, by omega, by rw [g4], g5, st_hA s b hb⟩
  refine ⟨fun e => match e with | 0 => b | 2 => t2 | 3 => t3 | _ => t1, rfl, st_nw hts, fun e => ?_, fun a h1 h2 => ?_, ?_, st_L hs hts⟩
  · match e with
    | 0 => exact u0
    | 1 => exact u1
    | 2 => exact u2
    | 3 => exact u3
    | n + 4 => exact u1
  · match a, h1, h2 with
    | 1, _, _ => exact v1
    | 2, _, _ => exact v2
    | 3, _, _ => exact v3
    | n + 4, _, h2 => exact absurd h2 (by omega)
  · have h9 := hts _ aw_o
    simp only [Cond.before, Cond.holds, Cond.value] at h9 ⊢
    exact h9
theorem rl_zero (D : va_G) (s : State) : rl D s s.heap.size mm_M0 s.heap := ⟨⟨Nat.le_refl _, fun _ => rfl, Nat.zero_le _⟩, fun a ha => absurd ha (Nat.not_lt_zero a), fun _ _ _ => ⟨rfl, rfl, rfl⟩, fun _ _ _ z => nomatch z⟩
noncomputable def R_law : String := "NotchedCardsLaw"
noncomputable def lw_P (b : Addr) (xs : List Int32) (args : Array Value) (s : State) : Prop := args = #[.ref b] ∧ s.IntsAt b xs ∧ xs.length ≤ 3072 ∧ (Jvm.Cond.and given_1 narrow_1).before args s = true
noncomputable def lw_Q (_ : Array Value) (s : State) (o : Outcome) (t : State) : Prop := o = .returned (some (.int 1)) ∧ Framed s o t [] 601024 7293034
noncomputable def lw_Z (below : List Frame) (a : Array Value) (s : State) : State → Prop := fun t => ∃ o, t.status = .running ∧ Ended t below o ∧ lw_Q a s o t
theorem lw_ret {p : Program} {l : Launch} {e : Env} {s : State} {m : MethodId} {below : List Frame} {meth : Method} {c : Code} {b : Nat} (hx : p.tables.exec = Jvm.exec) (hb : c.code = code) (hr : meth.sig.returnType = ret) (hlocks : meth.locks = false) {pc : Nat} {H : Heap} {ls : Array Slot} (hdg : decode code pc = .ok (.ireturn, 1)) : W p l e room_1 s m #[Value.ref b] below meth c H [] 601024 7293034 (lw_Z below #[Value.ref b] s) (F0 m pc ls [.int 1]) := by
  intro T hT X
  obtain ⟨fs, hret, hrun, hended, hW, hframe⟩ := X.leave (v := some (.int 1)) (hlocks := hlocks) (fun h => by rw [hr] at h; cases h)
  have hmeth' : T.vm.method? m = some meth := X.method'
  refine ⟨T.setFrames fs, ?_, .returned (some (.int 1)), hrun, hended, rfl, ⟨_, rfl⟩, hW, hframe⟩
  jvm_step X.here [X.here.top, hx, hb, hdg, hmeth', hr, ret, narrow_b1]
  (try refine ⟨rfl, ?_⟩); (try refine ⟨rfl, ?_⟩)
  first | (intro acts; rw [hret _ acts rfl rfl rfl]) | rw [hret _ _ rfl rfl rfl]
  exact Steps.refl _
noncomputable def lw_At (p : Program) (s : State) (m : MethodId) (meth : Method) (c : Code) (b L : Nat) (xs : Nat → Int32) : Prop :=
  p.tables.exec = Jvm.exec ∧ c.code = code ∧ meth.sig.returnType = ret ∧ c.maxLocals = 7 ∧ s.vm.findClass R_law = some m.cls ∧ (∀ w ∈ lw_tbl, w.before #[Value.ref b] s = true) ∧ va_X b L xs s s.heap ∧ b < s.heap.size ∧ meth.locks = false ∧ (Jvm.Cond.and given_1 narrow_1).before #[Value.ref b] s = true
theorem whole_start {p : Program} {e : Env} {s : State} {m : MethodId} {below : List Frame} {meth : Method} {c : Code} (l : Launch) (hl0 : l.stackTraces = false) {b L : Nat} {xs : Nat → Int32} (hL : L ≤ 3072) (C0 : lw_At p s m meth c b L xs) : W p l e room_1 s m #[Value.ref b] below meth c s.heap [] 0 0 (lw_Z below #[Value.ref b] s) (entryFrame m ([Value.ref b] : List Value).toArray 7) := by
  obtain ⟨hx, hby, hr, hml, hown, hts, hX, hbl, hlocks, hgv⟩ := C0
  have hs := flat_of_before _ hgv
  obtain ⟨D, hK⟩ := st_K hts
  obtain ⟨E, hE0, hE⟩ := st_E hs hts hX hbl
  have hC : sn_C D E (fr_X L xs) s.heap.size p s m #[Value.ref b] meth c 0 := ⟨hx, hby, hml, hown, fun w h1 _ => hts w h1, (fun h => by cases h), hK, hE, Nat.le_refl _, by decide⟩
  have hI : sn_I D s.heap.size s 0 0 mm_M0 s.heap [] 0 0 := ⟨rl_zero D s, va_S.rf, rfl, rfl⟩
  have hl2 := (sn_entry (B := s.heap.size) (E := E) (y := 0) (as := [.ref mm_ext]) rfl (show 1 ≤ mm_mx 0 by decide)).2
  have ha : ([Value.ref mm_ext].map (mm_tr s.heap.size E)) = [Value.ref b] := by
    show [Value.ref (mm_ad s.heap.size E mm_ext)] = [Value.ref b]
    have e1 : mm_ad s.heap.size E mm_ext = E 0 := by
      unfold mm_ad
      rw [if_pos (Nat.le_refl _), Nat.sub_self]
    rw [e1, hE0]
  rw [ha] at hl2
  rw [lg_entry_eq]
  obtain ⟨n, r, MF, hrun, rfl, hc1, hc2⟩ := p16_pure xs L hL
  refine sn_run n 40 0 0 _ [] mm_M0 MF _ hrun (fun _ => ⟨by decide, lk_all hl0⟩) hC hI hl2 ⟨by decide, by decide, by show _ ≤ 0 + 601024; omega, by show _ ≤ 0 + 7293034; omega⟩ ?_
  intro pc' H' locs' lsA' cells' slots' hret hI'
  refine W.widen (k := 601024) (n := 7293034) (by have := hI'.2.2.1; omega) (by have := hI'.2.2.2; omega) ?_
  refine va_forget (fun q hq => hI'.2.1.2.2 q hq) ?_
  exact lw_ret hx hby hr hlocks hret.1
