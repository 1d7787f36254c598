/-! A THROW whose class calls its super by another constant than 7 (the library's ctorThrowS has 7): the library's way for the classes above it, for platforms without stack traces -/
section LX
/-- the class's own constructor by the constant ix, those above it as the library has them -/
noncomputable def lk_chA (X Y : String) (ix : Nat) (rx : ByteArray) (r : List String) : List Cond := Bundle.passSAtoms X Y ix rx ++ Bundle.chainSAtoms Y r
theorem lk_chain {args : Array Value} {s : State} {pl : Platform} (hpl : pl.magicAccessors = ({} : Platform).magicAccessors) {top : MethodId} (htop : s.methodNamed? (Bundle.initS Bundle.tN) = some top)
    {ix : Nat} {rx : ByteArray} (x0 : decode rx 0 = .ok (.aload_n 0, 1)) (x1 : decode rx 1 = .ok (.aload_n 1, 1)) (x2 : decode rx 2 = .ok (.invokespecial ix, 3)) (x5 : decode rx 5 = .ok (.return_, 1)) {X Y : String} {r : List String}
    (hX : Bundle.fit X = true) (hn : ∀ n ∈ Y :: r, Bundle.fit n = true) (h : ∀ c ∈ lk_chA X Y ix rx r, c.before args s = true) :
    ∃ (P1 : PassC) (Ps : List PassC), Ps.length = (Y :: r).length ∧ P1.LinksS pl s ∧ (∀ P, P ∈ Ps → P.LinksS pl s) ∧ s.methodNamed? (Bundle.initS X) = some P1.m ∧ P1.sup = firstOf top (Ps.map (·.toPassT)) ∧ PassesOn top (Ps.map (·.toPassT)) := by
  obtain ⟨P, L, hm, hs⟩ := PassC.ofS_atoms (args := args) (s := s) hpl (X := X) (Y := Y) (Bundle.fit_spec hX).1 (Bundle.fit_spec (hn Y List.mem_cons_self)).2 x0 x1 x2 x5 (fun c hc => h c (List.mem_append.mpr (Or.inl hc)))
  obtain ⟨P2, Ps, hlen, L2, hL, hm2, hsup, hpass⟩ := Bundle.chainS (args := args) hpl htop r Y (hn Y List.mem_cons_self) (fun n hz => hn n (List.mem_cons_of_mem _ hz)) (fun c hc => h c (List.mem_append.mpr (Or.inr hc)))
  refine ⟨P, P2 :: Ps, congrArg (· + 1) hlen, L, fun Q hQ => ?_, hm, Option.some.inj (hs.symm.trans hm2), hsup, hpass⟩
  rcases List.mem_cons.mp hQ with rfl | hQ
  · exact L2
  · exact hL Q hQ
/-- what the throw wants of the tables -/
noncomputable def lk_own (own : String) (ic : Nat) (X Y : String) (ix : Nat) (rx : ByteArray) (r : List String) : List Cond :=
  lk_chA X Y ix rx r ++ (Bundle.throwableAtoms ++ (Bundle.throwableSAtoms ++
  ([.methodLink own ic (Bundle.initS X), .instantiable X 6, .castable X X, .selects X Bundle.tFill0 Bundle.tFill0, .selects X Bundle.tFill Bundle.tFill] ++
   ([("cause", "Ljava/lang/Throwable;"), ("stackTrace", Bundle.steD), ("suppressedExceptions", Bundle.listD), ("detailMessage", "Ljava/lang/String;"), ("backtrace", "Ljava/lang/Object;")].map (fun z => Cond.lays X Bundle.tN z.1 z.2) ++
   [.isRef (.static Bundle.tN "UNASSIGNED_STACK" Bundle.steD), .isRef (.static Bundle.tN "SUPPRESSED_SENTINEL" Bundle.listD), .fieldLink Bundle.tN 198 Bundle.tN "backtrace" "Ljava/lang/Object;", .lays Bundle.tN Bundle.tN "backtrace" "Ljava/lang/Object;"]))))
variable {p : Program} {l : Launch} {e : Env} {R : Room} {s : State} {m₀ : MethodId} {args : Array Value} {below : List Frame} {meth : Method} {c : Code} {W : State} {locs : List Loc} {cells slots : Nat}
set_option maxHeartbeats 1000000 in
theorem lk_ctorX (X : Stand p l e R s m₀ args below meth c W locs cells slots) (hexec : p.tables.exec = Jvm.exec) (htr : e.platform.stackTraces = false) {own cls up : String} {r : List String} {ic : Nat}
    {ix : Nat} {rx : ByteArray} (x0 : decode rx 0 = .ok (.aload_n 0, 1)) (x1 : decode rx 1 = .ok (.aload_n 1, 1)) (x2 : decode rx 2 = .ok (.invokespecial ix, 3)) (x5 : decode rx 5 = .ok (.return_, 1)) (hown : s.vm.findClass own = some m₀.cls) (hcls : Bundle.fit cls = true) (hnames : ∀ n ∈ up :: r, Bundle.fit n = true)
    (h : ∀ a ∈ lk_own own ic cls up ix rx r, a.before args s = true)
    (hlocs : ∀ x ∈ locs, ∀ cell, s.heap[x.base]? = some cell → cell.vm.isStatics = false)
    {a : Addr} {cX : ClassId} {kX : Class} (hfoundX : s.vm.findClass cls = some cX) (hkX : s.vm.classes[cX]? = some kX) (hcell : W.heap[a]? = some (freshCell cX kX)) (hnew : s.heap.size ≤ a)
    {msg : Value} (hmsg : msg.isRef = true)
    {g : JFrame} (hg : g.method = m₀) (hsize : g.locals.size = c.maxLocals) (hlocked : g.locked = none) (hentered : g.entered = []) {rest : List Value} (hstack : g.stack = msg :: .ref a :: .ref a :: rest)
    (hd6 : decode c.code g.pc = .ok (.invokespecial ic, 3)) (hd9 : decode c.code (g.pc + 3) = .ok (.athrow, 1)) (hout : ∀ x ∈ c.exceptionTable.toList, covers x (g.pc + 3) = false)
    (hRframes : (up :: r).length + 3 < R.frames) (hRlocals : 2 * g.monitorRoom + ((Value.ref a :: rest).map fun v => v.category).sum + (13 * ((up :: r).length + 1) + 42) ≤ R.locals) (hlocks : meth.locks = false := by first | assumption | exact BodyLoose.notSynchronized (by assumption) | exact Body.notSynchronized (by assumption)) :
    ∃ U : State, Steps p.tables e below (W.setTop g) U ∧ U.status = .running ∧ Ended U below (.threw a) ∧ s.WarmedH U.vm ∧ s.sameButNew ({ U with vm := s.vm } : State) locs cells slots ∧
      ∃ ce, U.heap[a]? = some ce ∧ s.vm.findClass cls = some ce.cls ∧ ce.vm = .none := by
  have howns : e.platform.frameOwnsMonitors = true := by rw [X.admits.platform]
  have hfin : e.platform.finalization = false := by rw [X.admits.platform]
  have hpl : e.platform.magicAccessors = ({} : Platform).magicAccessors := by rw [X.admits.platform]
  have a' : ∀ x, x ∈ lk_own own ic cls up ix rx r → x.holds args s none s [] = true := fun x hx => h x hx
  obtain ⟨T, Z0, L, -, Y⟩ := ThrowableC.of_atoms (args := args) howns hfin hpl (fun x hx => h x (by simp [lk_own, hx]))
  obtain ⟨Z, M, LZ, LM, hnZ⟩ := Init0T.ofS_atoms (args := args) hpl L Y (fun x hx => h x (by simp [lk_own, hx]))
  obtain ⟨P1, Ps, hlen, L1, hL, hP1m, hlink1, hlink⟩ := lk_chain (args := args) hpl hnZ x0 x1 x2 x5 (X := cls) (Y := up) (r := r) hcls hnames (fun x hx => h x (by simp [lk_own, hx]))
  have hfound : s.vm.findClass cls = some P1.m.cls := findClass_of_methodNamed hP1m
  cases Option.some.inj (hfoundX.symm.trans hfound)
  obtain ⟨c1, kX', hc1, hk, hord, -, -, hn6⟩ := Cond.instantiable_spec (a' (.instantiable cls 6) (by simp [lk_own]))
  cases Option.some.inj (hc1.symm.trans hfound)
  cases Option.some.inj (hkX.symm.trans hk)
  have hsel0 : selectMethod e.platform s.vm P1.m.cls T.fill0 = .method T.fill0 := by
    obtain ⟨c2, r2, m2, q1, q2, q3, q4, -⟩ := Cond.selects_spec (a' (.selects cls Bundle.tFill0 Bundle.tFill0) (by simp [lk_own]))
    cases Option.some.inj (q1.symm.trans hfound)
    cases Option.some.inj (q2.symm.trans (State.methodFound?_of_named Y.fill0 (by decide)))
    cases Option.some.inj (q3.symm.trans Y.fill0)
    rw [Launch.admits_selectMethod X.admits]; exact q4
  have hselF : selectMethod e.platform s.vm P1.m.cls T.fill = .method T.fill := by
    obtain ⟨c2, r2, m2, q1, q2, q3, q4, -⟩ := Cond.selects_spec (a' (.selects cls Bundle.tFill Bundle.tFill) (by simp [lk_own]))
    cases Option.some.inj (q1.symm.trans hfound)
    cases Option.some.inj (q2.symm.trans (State.methodFound?_of_named Y.fill (by decide)))
    cases Option.some.inj (q3.symm.trans Y.fill)
    rw [Launch.admits_selectMethod X.admits]; exact q4
  obtain ⟨cellS0, hcS0, hiss⟩ := Y.statics
  obtain ⟨u0, hu0⟩ := Cond.staticRefV Y.unassigned L.unassignedStatic L.statics hcS0 hiss (a' (.isRef (.static Bundle.tN "UNASSIGNED_STACK" Bundle.steD)) (by simp [lk_own]))
  obtain ⟨sen, hsen⟩ := Cond.staticRefV Y.sentinel L.sentinelStatic L.statics hcS0 hiss (a' (.isRef (.static Bundle.tN "SUPPRESSED_SENTINEL" Bundle.listD)) (by simp [lk_own]))
  obtain ⟨ci198, i198, fB, hk198, hg198, ha198, hsB, -, hnB, htB, hffB⟩ := Cond.ownField (t := .object "java/lang/Object") Y.found L.cls (by decide +kernel) (a' (.fieldLink Bundle.tN 198 Bundle.tN "backtrace" "Ljava/lang/Object;") (by simp [lk_own])) (a' (.lays Bundle.tN Bundle.tN "backtrace" "Ljava/lang/Object;") (by simp [lk_own])) e.platform hpl
  obtain ⟨cellS, hcS', heS, -, hkeep⟩ := X.same.2.2.2.2.2 T.aS cellS0 hcS0
  have hcellS : W.heap[T.aS]? = some cellS := hcS'
  have hout' : ∀ i, (⟨T.aS, i⟩ : Loc) ∉ locs := fun i hmem => by
    have := hlocs _ hmem cellS0 hcS0
    rw [hiss] at this; cases this
  have hknownS : cellS.vm ≠ .unknown := by
    rw [heS]; intro hu
    rw [show cellS0.vm = .unknown from hu] at hiss
    cases hiss
  have hneS : T.aS ≠ a := Nat.ne_of_lt (Nat.lt_of_lt_of_le (Array.getElem?_eq_some_iff.mp hcS0).1 hnew)
  obtain ⟨iM, hffM⟩ := Y.msg
  obtain ⟨tyC, dC, hdC, hdnC⟩ := Cond.laysAt hfound hk Y.cause (a' (.lays cls Bundle.tN "cause" "Ljava/lang/Throwable;") (by simp [lk_own]))
  obtain ⟨tyS, dS, hdS, hdnS⟩ := Cond.laysAt hfound hk Y.stack (a' (.lays cls Bundle.tN "stackTrace" Bundle.steD) (by simp [lk_own]))
  obtain ⟨tyP, dP, hdP, hdnP⟩ := Cond.laysAt hfound hk Y.supp (a' (.lays cls Bundle.tN "suppressedExceptions" Bundle.listD) (by simp [lk_own]))
  obtain ⟨tyM, dM, hdM, hdnM⟩ := Cond.laysAt hfound hk hffM (a' (.lays cls Bundle.tN "detailMessage" "Ljava/lang/String;") (by simp [lk_own]))
  obtain ⟨tyB, dB, hdB, hdnB⟩ := Cond.laysAt hfound hk hffB (a' (.lays cls Bundle.tN "backtrace" "Ljava/lang/Object;") (by simp [lk_own]))
  have bC := Cond.laysApart hdB hdC hdnB hdnC (by rw [hnB, Y.causeName]; decide)
  have bS := Cond.laysApart hdB hdS hdnB hdnS (by rw [hnB, Y.stackName]; decide)
  have bP := Cond.laysApart hdB hdP hdnB hdnP (by rw [hnB, Y.suppName]; decide)
  have hskip : SkipFacts T e.platform s (fun u => u) u0 ((preparedCellV T.toThrowableT (freshCell P1.m.cls kX) a u0 sen).withEntry W.cur) :=
    ⟨{ ci198 := ci198, i198 := i198, fBack := fB }, ⟨hk198, hg198, ha198, hsB⟩, by
      have := fresh_default (c := P1.m.cls) tyB
      rw [htB] at this
      simpa [preparedCellV, Cell.setSlot, Cell.withEntry, Array.getElem?_setIfInBounds, bC, bS, bP, bC.symm, bS.symm, bP.symm, defaultValue] using this, fun _ _ => rfl⟩
  obtain ⟨tm, methC, cdC, kC, vm₁, hnC, -, -, -, -, -, -, -, hW₁, st1⟩ := Steps.initColdS (tb := p.tables) (e := e) (below := below) (s := s) (U := W) X.here hexec X.warmed hpl hown (t := Bundle.initS cls) rfl rfl (Bundle.fit_spec hcls).2
    (a' (.methodLink own ic (Bundle.initS cls)) (by simp [lk_own])) (h (.instanceMethod (Bundle.initS cls)) (by simp [lk_own, lk_chA, Bundle.passSAtoms])) (bytes := rx) (maxL := 2) (h (.code (Bundle.initS cls) rx 2 none) (by simp [lk_own, lk_chA, Bundle.passSAtoms]))
    (f := g) hg (a := a) (msg := msg) (rest := .ref a :: rest) hstack hd6
  cases Option.some.inj (hnC.symm.trans hP1m)
  have X₁ := X.noted hW₁
  obtain ⟨vm₂, X₂, st2⟩ := X₁.ctorMessageOffV hexec (g := { g with stack := .ref a :: rest }) hg hsize T L Z LZ M LM (P1 :: Ps)
    (fun P hP => by rcases List.mem_cons.mp hP with rfl | hP; exact L1; exact hL P hP) ⟨hlink1, hlink⟩ (u0 := u0) (sen := sen) (self := a) hmsg (cell := freshCell P1.m.cls kX) (cellS := cellS)
    hcell (fun _ => by simp) (by simp) rfl rfl hsel0 hselF hcellS hneS hknownS (by rw [hkeep _ (hout' _)]; exact hu0) (by rw [hkeep _ (hout' _)]; exact hsen)
    (Takes.of_laid hk hord tyC (by rw [Y.causeType]; rfl)) (Takes.of_laid hk hord tyS (by rw [Y.stackType]; exact fits_refV_array _ u0)) (Takes.of_laid hk hord tyP (by rw [Y.suppType]; exact fits_refV_object _ sen))
    (Takes.of_laid hk hord tyM (by rw [Y.msgType]; exact fits_refV_object _ ⟨msg, hmsg⟩)) Y.objLocals hskip htr [] hd6
    (by simp only [List.length_cons, hlen]; omega) (by simp only [List.length_cons, hlen]; exact hRlocals)
  obtain ⟨hwalk, hrun, hended, hWU, hsame⟩ := X₂.athrowLeaves hexec (g := { g with stack := .ref a :: rest, pc := g.pc + 3 }) hg hlocked hentered hout (a := a) (rest := rest) rfl hd9
  have hlt : a < ((W.setVm vm₁).setVm vm₂).heap.size := (Array.getElem?_eq_some_iff.mp hcell).1
  have hU := heapAt_setCell_self (s := (W.setVm vm₁).setVm vm₂) (plainBareV T.toThrowableT (freshCell P1.m.cls kX) a u0 sen msg) hlt
  refine ⟨_, st1 _ (fun acts => ?_), hrun, hended, hWU, hsame.weaken (fun y hy hlt' => ?_) (Nat.le_refl _) (Nat.le_refl _), _, hU, hfound, rfl⟩
  · rw [doInvoke_state]
    exact st2 _ hwalk
  · rcases List.mem_append.mp hy with h1 | h1
    · exact h1
    · exfalso
      have hb : y.base = a := by
        simp only [List.mem_cons, List.not_mem_nil, or_false] at h1
        rcases h1 with rfl | rfl | rfl | rfl | rfl <;> rfl
      rw [hb] at hlt'
      exact Nat.not_lt.mpr hnew hlt'
end LX
noncomputable def vx_atX (own : String) (ic : Nat) (X : String) (ix : Nat) (rx : ByteArray) (Y : String) (r : List String) : List Cond := (lk_own own ic X Y ix rx r).filter vx_no
section LY
variable {p : Program} {l : Launch} {e : Env} {R : Room} {s : State} {m : MethodId} {args : Array Value} {below : List Frame} {meth : Method} {c : Code} {H : Heap} {locs : List Loc} {cells slots : Nat} {Q : State → Prop}
variable {mc ms : Nat} {free : Addr → Prop} {A0 A1 : Nat → Prop} {H0 : Heap} {a : Array Value} {ls : Array Slot} {st0 rest : List Value}
variable {Qc : Array Value → State → Outcome → State → Prop} {XC : String → State → State → Prop}
theorem vx_throwSX {cc : ByteArray} {pc : Nat} (hexec : p.tables.exec = Jvm.exec) (hb : c.code = cc) (hl : l.stackTraces = false) {own cls text up : String} {r : List String} {ik is ic mc ms sa ix : Nat} {rx : ByteArray} (x0 : decode rx 0 = .ok (.aload_n 0, 1)) (x1 : decode rx 1 = .ok (.aload_n 1, 1)) (x2 : decode rx 2 = .ok (.invokespecial ix, 3)) (x5 : decode rx 5 = .ok (.return_, 1)) {A : Nat → Prop}
    (hown : s.vm.findClass own = some m.cls) (hcls : Bundle.fit cls = true) (hnames : ∀ n ∈ up :: r, Bundle.fit n = true)
    (hk : (Cond.classLink own ik cls).before args s = true) (hini : (Cond.initialized cls).before args s = true) (hstr : vk_R own is text sa s) (hat : ∀ w ∈ vx_atX own ic cls ix rx up r, w.before args s = true)
    (hgood : ∀ w ∈ Cond.classLink own ik cls :: Cond.initialized cls :: vx_atX own ic cls ix rx up r, vx_ot w = true)
    (hU : vx_Zq Bundle.tN "UNASSIGNED_STACK" Bundle.steD A s s.heap) (hN : vx_Zq Bundle.tN "SUPPRESSED_SENTINEL" Bundle.listD A s s.heap) (hS : va_S A s.heap H locs) (hsize : ls.size = c.maxLocals)
    (d0 : decode cc pc = .ok (.new ik, 3)) (d3 : decode cc (pc + 3) = .ok (.dup, 1)) (d4 : decode cc (pc + 4) = .ok (.ldc is, 2)) (d6 : decode cc (pc + 6) = .ok (.invokespecial ic, 3)) (d9 : decode cc (pc + 9) = .ok (.athrow, 1))
    (hout : ∀ x ∈ c.exceptionTable.toList, covers x (pc + 9) = false)
    (hRframes : (up :: r).length + 3 < R.frames) (hRlocals : (rest.map fun v => v.category).sum + (13 * ((up :: r).length + 1) + 43) ≤ R.locals) (hRcells : cells + 1 ≤ R.cells) (hRslots : slots + 6 ≤ R.slots) (hlocks : meth.locks = false)
    (hx : ∀ t : State, s.vm.Alike t.vm → H.size ≤ t.heap.size → (∀ q : Nat, q < H.size → t.heap[q]? = H[q]?) → XC cls s t)
    (hf : ∀ z ∈ locs, free z.base) (hc : cells + 1 ≤ mc) (hs : slots + 6 ≤ ms) :
    W p l e R s m args below meth c H locs cells slots (vx_MQ below Qc XC args s mc ms free) (F0 m pc ls rest) := by
  intro T hT X
  have htr : e.platform.stackTraces = false := (show e.platform.stackTraces = l.stackTraces by rw [X.admits.platform]).trans hl
  have Y := vx_rebase X (R' := { frames := R.frames, locals := R.locals, cells := 1, slots := 6 }) (Nat.le_refl _) (Nat.le_refl _) hRcells hRslots
  obtain ⟨s', hA⟩ : ∃ z, z = (T.setVm s.vm).setFrames (.invoking m args :: below) := ⟨_, rfl⟩
  rw [← hA] at Y
  have hvm : s'.vm = s.vm := by rw [hA]; rfl
  have hhp : s'.heap = H := by rw [hA]; exact hT
  have hW0 : s.WarmedH s'.vm := by rw [hvm]; exact State.WarmedH.refl s
  have hat' : ∀ w ∈ vx_atX own ic cls ix rx up r, w.before args s' = true := fun w hw => vx_ot_at hW0 hvm.symm (hgood w (List.mem_cons_of_mem _ (List.mem_cons_of_mem _ hw))) (hat w hw)
  have hk' : (Cond.classLink own ik cls).before args s' = true := vx_ot_at hW0 hvm.symm (hgood _ List.mem_cons_self) hk
  have hini' : (Cond.initialized cls).before args s' = true := vx_ot_at hW0 hvm.symm (hgood _ (List.mem_cons_of_mem _ List.mem_cons_self)) hini
  have hU' : vx_Zq Bundle.tN "UNASSIGNED_STACK" Bundle.steD A s' s'.heap := by rw [hhp]; exact vx_Zq.moved hW0.alike (hU.kept hS.2.1)
  have hN' : vx_Zq Bundle.tN "SUPPRESSED_SENTINEL" Bundle.listD A s' s'.heap := by rw [hhp]; exact vx_Zq.moved hW0.alike (hN.kept hS.2.1)
  have h : ∀ w ∈ lk_own own ic cls up ix rx r, w.before args s' = true := vx_own hat' (vx_isRefq hU'.1) (vx_isRefq hN'.1) hU'.2.word hN'.2.word
  have hown' : s'.vm.findClass own = some m.cls := by rw [hvm]; exact hown
  have hins : (Cond.instantiable cls 6).before args s' = true := h _ (by simp [lk_own])
  obtain ⟨vm₁, cX, kX, hfX, hkX, -, -, X₁, st1⟩ := Y.newCold hexec (own := own) (C := cls) (index := ik) (n := 6) hown' hk' hins hini'
    (g := F0 m pc ls rest) rfl (by rw [hb]; exact d0) (Nat.le_refl _) (Nat.le_refl _)
  generalize hT1 : (T.setVm vm₁).pushCell { cls := cX, slots := kX.instanceTypes.map defaultValue, vm := .none } = T1 at X₁ st1
  have hcat : (Value.ref T.heap.size).category = 1 := rfl
  have hcellA : T1.heap[T.heap.size]? = some (freshCell cX kX) := by rw [← hT1]; exact State.heap_pushCell_size _ _
  have d3' : decode c.code (pc + 3) = .ok (.dup, 1) := by rw [hb]; exact d3
  have d4' : decode c.code (pc + 4) = .ok (.ldc is, 2) := by rw [hb]; exact d4
  have hstr' : vk_R own is text sa s' := vk_R.warm hW0 hstr
  obtain ⟨U, hsteps, hrun, hend, hW, hsame, ce, hce, hO, hOv⟩ := lk_ctorX X₁ hexec htr (ix := ix) (rx := rx) x0 x1 x2 x5 (own := own) (cls := cls) (up := up) (r := r) (ic := ic) hown' hcls hnames h (fun x hx => nomatch hx) hfX hkX hcellA (by rw [hhp, hT]; exact Nat.le_refl _) (msg := .ref sa) rfl
    (g := { method := m, pc := pc + 6, locals := ls, stack := .ref sa :: .ref T.heap.size :: .ref T.heap.size :: rest, locked := none }) rfl hsize rfl rfl (rest := rest) rfl
    (by rw [hb]; exact d6) (by rw [hb]; exact d9) hout hRframes (by simp only [List.map_cons, List.sum_cons, hcat]; omega) hlocks
  obtain ⟨f1, f2⟩ := vx_frame hsame
  rw [hhp] at f1 f2
  have hWs : s.WarmedH U.vm := State.WarmedH.trans hW0 hW
  have hcl : s.vm.findClass cls = some ce.cls := by
    have h9 := hO
    rw [hvm] at h9
    exact h9
  have hall : s.sameButNew ({ U with vm := s.vm } : State) locs mc ms := by
    subst hA
    obtain ⟨e1, e2⟩ := hsame
    rw [State.setFrames_setFrames] at e1
    have h2 : (T.setVm s.vm).sameButNew ({ U with vm := s.vm } : State) [] (0 + 1) (0 + 6) := ⟨e1, e2⟩
    have h3 := X.same.trans h2
    rw [List.append_nil] at h3
    exact h3.mono hc hs
  refine ⟨U, ?_, .threw T.heap.size, hrun, hend, Or.inr ⟨T.heap.size, rfl, cls, ce, locs, hx U hWs.alike f1 (fun q hq => f2 q hq (fun z hz => nomatch hz)), hce, hOv, hcl, hWs, hall, hf⟩⟩
  refine st1 _ ?_
  show Steps p.tables e below (T1.setTop { method := m, pc := pc + 3, locals := ls, stack := .ref T.heap.size :: rest, locked := none }) _
  jvm_step X₁.here [X₁.here.top, hexec, d3', Value.category]
  exact X₁.ldcString hexec (own := own) (text := text) (index := is) (a := sa) hown' hstr'.1 hstr'.2
    (g := { method := m, pc := pc + 4, locals := ls, stack := .ref T.heap.size :: .ref T.heap.size :: rest, locked := none }) rfl d4' _ hsteps
end LY
/-! LOOK: what it throws -/
noncomputable def lk_nm : List String := ["java/lang/RuntimeException", "java/lang/Exception"]
theorem lk_ngI : ∀ w ∈ (vx_atS RX10 157 lk_I lk_nm).filter (fun w => !goodWord w), w ∈ ng_ws := by decide +kernel
theorem lk_otI : ∀ w ∈ Cond.classLink RX10 153 lk_I :: Cond.initialized lk_I :: vx_atS RX10 157 lk_I lk_nm, vx_ot w = true := by decide +kernel
theorem lk_gdI : ∀ w ∈ Cond.classLink RX10 153 lk_I :: Cond.initialized lk_I :: (vx_atS RX10 157 lk_I lk_nm).filter goodWord, w ∈ lw_tbl ∧ goodWord w = true := by decide +kernel
theorem lk_ont : ∀ w ∈ ng_ws, w.onTables = true := by decide +kernel
theorem lk_fit : Bundle.fit lk_I = true ∧ ∀ n ∈ lk_nm, Bundle.fit n = true := by decide +kernel
theorem lk_ml : Cond.methodLink RL 7 (mm_y 248) ∈ lw_tbl := by decide +kernel
theorem lk_cl : Cond.classLink RL 13 lk_I ∈ lw_tbl := by decide +kernel
theorem lk_dI : decode (mm_cc 248) 11 = .ok (.new 153, 3) ∧ decode (mm_cc 248) 14 = .ok (.dup, 1) ∧ decode (mm_cc 248) 15 = .ok (.ldc 155, 2) ∧ decode (mm_cc 248) 17 = .ok (.invokespecial 157, 3) ∧ decode (mm_cc 248) 20 = .ok (.athrow, 1) := by decide +kernel
theorem lk_dL : (decode cL_look 0 = .ok (.aload_n 3, 1) ∧ decode cL_look 1 = .ok (.iconst 0, 1) ∧ decode cL_look 2 = .ok (.aload_n 0, 1) ∧ decode cL_look 3 = .ok (.iload_n 1, 1) ∧ decode cL_look 4 = .ok (.iload_n 2, 1) ∧ decode cL_look 5 = .ok (.invokevirtual 7, 3)) ∧ decode cL_look 13 = .ok (.astore 4, 2) ∧ decode cL_look 15 = .ok (.iconst 1, 1) ∧ decode cL_look 16 = .ok (.ireturn, 1) := by decide +kernel
/-- a contract out of a body with handlers that always returns -/
theorem Met_ofWH {l : Launch} {y : MethodName} {ws ws' : List Cond} {rm : Room} {Pc : Array Value → State → Prop} {Qc : Array Value → State → Outcome → State → Prop} {mc ms : Nat} {free : Addr → Prop} {cc : ByteArray} {maxL : Nat} {ret : Option FieldType} {hh : List (Nat × Nat × Nat × Nat)}
    (hy : plainName y.cls = true) (hw : ws = Cond.codeWith y cc maxL ret hh :: ws')
    (body : ∀ p e s m args below meth c s₁, BodyLoose p l y (headSpec ws rm) cc maxL ret e s m args below meth c s₁ → c.maxLocals = maxL → Pc args s →
      W p l e (headSpec ws rm).room s m args below meth c s.heap [] 0 0 (MQ below Qc args s mc ms free) (entryFrame m args maxL)) : Met l y ws rm Pc Qc mc ms free := by
  refine MetFree.of_bodyS (code := cc) (maxLocals := maxL) (ret := ret) hy ?_ ?_
  · intro args s m h hn
    obtain ⟨m9, meth, c, hn9, h1, h2, h3, h4, -, h5, h6, -⟩ := Cond.codeWith_spec (atoms_spec (ws := ws) h _ (by rw [hw]; exact List.mem_cons_self))
    cases hn.symm.trans hn9
    exact ⟨meth, c, h1, h2, h3, h4, h5, h6⟩
  · intro p e s m args below meth c s₁ B hml hP _
    have hh0 : s₁.heap = s.heap := by rw [B.state]; rfl
    obtain ⟨t, a1, o, b1, b2, b3⟩ := body p e s m args below meth c s₁ B hml hP s₁ hh0 (Stand.of_body B)
    exact ⟨t, o, a1, b1, b2, b3⟩
/-- no such FIELD -/
theorem lk_isF {X : mm_X} {d p : Nat} {f : Int32} {M : mm_M} (hp : mm_isObj M p 5 = true) (hf : f < 0 ∨ M.2.1 p 2 ≤ f) : ∃ n, mm_run X n d 43 0 (mm_entry 43 [.ref p, .int f]) [] M = some (some (.int 0), M) := by
  have hz : mm_T X d 43 16 [.ref p, .int f] [] M (fun r M1 => r = some (.int 0) ∧ M1 = M) := by
    refine tt_1 (q := (.iconst 0, 1, 0, 0, [])) rfl ?_
    refine tt_1 (q := (.ireturn, 1, 1, 0, [])) (pc := 17) rfl ?_
    show (if (mm_i 0 0 = 0 ∨ mm_i 0 0 = 1) then (some (Value.int (mm_i 0 0)) = some (.int 0) ∧ M = M) else False)
    rw [if_pos (show (mm_i 0 0 = 0 ∨ mm_i 0 0 = 1) from Or.inl rfl)]
    exact ⟨rfl, rfl⟩
  have h : mm_T X d 43 0 [.ref p, .int f] [] M (fun r M1 => r = some (.int 0) ∧ M1 = M) := by
    refine tt_1 (q := (.iload_n 1, 1, 0, 0, [])) rfl ?_
    refine tt_if (pc := 1) (c := .lt) (o := 15) (len := 3) (a := 16) (b := 0) (ps := []) rfl ?_
    show (if f < 0 then _ else _)
    by_cases h0 : f < 0
    · rw [if_pos h0]; exact hz
    · rw [if_neg h0]
      have h1 : M.2.1 p 2 ≤ f := hf.resolve_left h0
      refine tt_1 (q := (.iload_n 1, 1, 0, 0, [])) (pc := 4) rfl ?_
      refine tt_1 (q := (.aload_n 0, 1, 0, 0, [])) (pc := 5) rfl ?_
      refine tt_gI (pc := 6) (i := 44) (len := 3) (a := 5) (b := 2) (ps := [11]) rfl hp rfl ?_
      refine tt_ic (pc := 9) (c := .ge) (o := 7) (len := 3) (a := 16) (b := 0) (ps := []) rfl ?_
      show (if M.2.1 p 2 ≤ f then _ else _)
      rw [if_pos h1]
      exact hz
  obtain ⟨n, r, M1, h1, rfl, rfl⟩ := h
  exact ⟨n, h1⟩
theorem rl.mark {D : va_G} {s t : State} {B : Nat} {M : mm_M} {H H1 : Heap} (h : rl D s B M H) (hv : s.vm.Alike t.vm) (h1 : H.size ≤ H1.size) (h2 : ∀ q : Nat, q < H.size → H1[q]? = H[q]?) : rl D t B (mm_mark M) H1 := by
  obtain ⟨⟨g1, -, g3⟩, g4, g5, g6⟩ := h
  refine ⟨⟨Nat.le_trans g1 h1, fun z => (by cases z), g3⟩, fun a ha => ?_, g5, g6⟩
  have ha' : a < M.1.1.1 := ha
  exact (((g4 a ha').kept (h2 _ (by omega))).moved hv).to rfl rfl (fun _ => rfl) (fun _ => rfl) (fun _ => rfl)
noncomputable def lk_XC (D : va_G) (B : Nat) (M : mm_M) : String → State → State → Prop := fun E9 st t => E9 = lk_I ∧ rl D t B (mm_mark M) t.heap ∧ st.heap.size ≤ t.heap.size ∧ ∀ q : Nat, q < B → t.heap[q]? = st.heap[q]?
set_option maxHeartbeats 2000000 in
theorem lk_m10 {l : Launch} (hl0 : l.stackTraces = false) {D : va_G} {E : Nat → Nat} {X : mm_X} {B x p : Nat} {f w : Int32} {M : mm_M} (hx : mm_isObj M x 10 = true) (hp : M.2.2.2 x 8 = some p) (h5 : mm_isObj M p 5 = true) (hf : f < 0 ∨ M.2.1 p 2 ≤ f) :
    vx_Met l (mm_y 248) (ws_y 248) (rm_d 8 1 6) (sn_Pc D E X B M [.ref x, .int f, .int w]) (fun _ _ _ _ => False) (lk_XC D B M) 1 6 (rl_A B) := by
  obtain ⟨hmw, hcls, -, -⟩ := me_at (y := 248) (by decide) (by decide)
  have hon := on_at (ow_lt (mi := 248) (by decide))
  refine vx_ofW (cc := mm_cc 248) (maxL := mm_mx 248) (ret := mm_rt 248) (by rw [hcls]; exact hon.1) rfl ?_
  intro p' e s m args below meth c s₁ Bd hml htab hv
  obtain ⟨rfl, hrl, hE, hK, hB⟩ := hv
  have hts0 := atoms_spec (ws := ws_y 248) Bd.pre
  have hts : ∀ w' ∈ lw_tbl, goodWord w' = true → w'.before ([Value.ref x, .int f, .int w].map (mm_tr B E)).toArray s = true := fun w' h1 h2 => hts0 w' (List.mem_cons_of_mem _ (ws_in h1 h2))
  have hown : s.vm.findClass (mm_on (mm_ow 248)) = some m.cls := by rw [← hcls]; exact findClass_of_methodNamed Bd.named
  have hC : sn_C D E X B p' s m ([Value.ref x, .int f, .int w].map (mm_tr B E)).toArray meth c 248 := ⟨Bd.exec, Bd.bytes, hml, hown, hts, (fun h9 => by cases h9), hK, hE, hB, by decide⟩
  have hl2 := (sn_entry (B := B) (E := E) (y := 248) (as := [.ref x, .int f, .int w]) rfl (show 3 ≤ mm_mx 248 by decide)).2
  rw [lg_entry_eq]
  have hlocks := Bd.notSynchronized
  have he : mm_entry 248 [.ref x, .int f, .int w] = [.ref x, .int f, .int w] := rfl
  rw [he] at hl2
  have hI : sn_I D B s M.1.2.1 M.1.2.2.1 M s.heap [] 0 0 := ⟨hrl, va_S.rf, rfl, rfl⟩
  have hRm : (headSpec (ws_y 248) (rm_d 8 1 6)).room = rm_d 8 1 6 := rfl
  rw [hRm]
  have hcell : M.1.2.1 ≤ M.1.2.1 + (rm_d 8 1 6).cells ∧ M.1.2.2.1 ≤ M.1.2.2.1 + (rm_d 8 1 6).slots := ⟨Nat.le_add_right _ _, Nat.le_add_right _ _⟩
  refine sn_one (st := []) (pc := 0) (q := (.aload_n 0, 1, 0, 0, [])) hC rfl hI hl2 (by decide) (by decide) (fun o => o = .inl (1, [.ref x, .int f, .int w], [.ref x], M)) rfl (fun pc' ls' st' M' eo => ?_) (fun o eo => nomatch eo)
  cases eo
  refine ⟨hcell, fun H1 locs1 lsA1 cells1 slots1 hI hl2 => ?_⟩
  refine sn_one (pc := 1) (q := (.getfield 68, 3, 10, 8, [3, 18])) hC rfl hI hl2 (by decide) (by decide) (fun o => o = .inl (4, [.ref x, .int f, .int w], [.ref p], M)) (by
    show mm_b (mm_isObj M x 10) (mm_gO (M.2.2.2 x 8) (fun v => (Sum.inl (4, [Value.ref x, .int f, .int w], [Value.ref v], M) : mm_O) = .inl (4, [.ref x, .int f, .int w], [.ref p], M)) False) False
    rw [hx, hp]
    exact (rfl : (Sum.inl (4, [Value.ref x, .int f, .int w], [Value.ref p], M) : mm_O) = _)) (fun pc' ls' st' M' eo => ?_) (fun o eo => nomatch eo)
  cases eo
  refine ⟨hcell, fun H1 locs1 lsA1 cells1 slots1 hI hl2 => ?_⟩
  refine sn_one (pc := 4) (q := (.iload_n 1, 1, 0, 0, [])) hC rfl hI hl2 (by decide) (by decide) (fun o => o = .inl (5, [.ref x, .int f, .int w], [.int f, .ref p], M)) rfl (fun pc' ls' st' M' eo => ?_) (fun o eo => nomatch eo)
  cases eo
  refine ⟨hcell, fun H1 locs1 lsA1 cells1 slots1 hI hl2 => ?_⟩
  obtain ⟨n, hn⟩ := lk_isF (X := X) (d := 5) h5 hf
  refine sn_call (pc := 5) (q := (.invokevirtual 150, 3, 43, 2, [55, 0])) (idx := 150) (as := [.ref p, .int f]) (rest := []) (sn_run n) hC hI (by rw [← hl2.2.1]) (mm_ck_all 248 5 _ rfl) (Or.inl rfl) rfl (by decide) (by decide) (by
    show (true && mm_isObj M p 5) = true
    rw [h5]; rfl) hn ⟨by decide, by decide, hcell.1, hcell.2⟩ (fun H1 locs1 cells1 slots1 hI => ?_)
  refine sn_one (st := [.int 0]) (pc := 8) (q := (.ifCond .ne 13, 3, 21, 0, [])) hC rfl hI hl2 (by decide) (by decide) (fun o => o = .inl (11, [.ref x, .int f, .int w], [], M)) rfl (fun pc' ls' st' M' eo => ?_) (fun o eo => nomatch eo)
  cases eo
  refine ⟨hcell, fun H1 locs1 lsA1 cells1 slots1 hI hl2 => ?_⟩
  obtain ⟨d1, d2, d3, d4, d5⟩ := lk_dI
  obtain ⟨-, -, -, -, hU, hN, hng, ⟨sa, hsa⟩, -⟩ := hE
  have c0 := hI.2.2.1
  have s0 := hI.2.2.2
  refine vx_throwS (cc := mm_cc 248) (pc := 11) (own := RX10) (cls := lk_I) (text := "no such field") (names := lk_nm) (ik := 153) (is := 155) (ic := 157) (sa := sa) (A := rl_A B) (rest := []) Bd.exec Bd.bytes hl0 hown lk_fit.1 lk_fit.2
    (hts _ (lk_gdI _ List.mem_cons_self).1 (lk_gdI _ List.mem_cons_self).2) (hts _ (lk_gdI _ (List.mem_cons_of_mem _ List.mem_cons_self)).1 (lk_gdI _ (List.mem_cons_of_mem _ List.mem_cons_self)).2) hsa
    (vx_hat (fun w' h9 => hts w' (lk_gdI w' (List.mem_cons_of_mem _ (List.mem_cons_of_mem _ h9))).1 (lk_gdI w' (List.mem_cons_of_mem _ (List.mem_cons_of_mem _ h9))).2) lk_ngI (fun w' h9 => va_Nw.use (lk_ont w' h9) (hng w' h9))) lk_otI hU hN hI.2.1 (by rw [hml, ← hl2.2.1]) d1 d2 d3 d4 d5 (fun z hz => (htab z hz).elim) (by decide) (by decide) (by show cells1 + 1 ≤ 1; omega) (by show slots1 + 6 ≤ 6; omega) hlocks ?_ hI.2.1.2.2 (by omega) (by omega)
  intro t hv h1 h2
  refine ⟨rfl, hI.1.mark hv h1 h2, Nat.le_trans hI.2.1.1 h1, fun q hq => ?_⟩
  rw [h2 q (by have := hI.2.1.1; omega)]
  exact hI.2.1.2.1 q (by omega) (Nat.not_le.mpr hq)
set_option maxHeartbeats 2000000 in
theorem lk_law {l : Launch} (hl0 : l.stackTraces = false) {D : va_G} {E : Nat → Nat} {X : mm_X} {B x o p : Nat} {f w : Int32} {M : mm_M} (hx : mm_isObj M x 10 = true) (hp : M.2.2.2 x 8 = some p) (h5 : mm_isObj M p 5 = true) (hf : f < 0 ∨ M.2.1 p 2 ≤ f) :
    Met l yL_look (.codeWith yL_look cL_look 5 (some .int) [(0, 10, 13, 13), (0, 10, 17, 15)] :: ws_all) (rm_d 10 1 6) (sn_Pc D E X B M [.ref x, .int f, .int w, .ref o]) (sn_Qc D E B (some (.int 1)) (mm_mark M)) 1 6 (rl_A B) := by
  refine Met_ofWH (cc := cL_look) (maxL := 5) (ret := some .int) (hh := [(0, 10, 13, 13), (0, 10, 17, 15)]) (by decide +kernel) rfl ?_
  intro p' e s m args below meth c s₁ Bd hml hv
  obtain ⟨rfl, hrl, hE, hK, hB⟩ := hv
  obtain ⟨as, has⟩ : ∃ as : Array Value, as = ([Value.ref x, .int f, .int w, .ref o].map (mm_tr B E)).toArray := ⟨_, rfl⟩
  have hts0 := atoms_spec Bd.pre
  have hts : ∀ w' ∈ lw_tbl, goodWord w' = true → w'.before ([Value.ref x, .int f, .int w, .ref o].map (mm_tr B E)).toArray s = true := fun w' h1 h2 => hts0 w' (List.mem_cons_of_mem _ (ws_in h1 h2))
  have htab := vx_table (x := yL_look) Bd (hts0 _ List.mem_cons_self)
  have hown : s.vm.findClass RL = some m.cls := findClass_of_methodNamed Bd.named
  have hl2 := (sn_entry (B := B) (E := E) (y := 3) (as := [.ref x, .int f, .int w, .ref o]) rfl (show 4 ≤ mm_mx 3 by decide)).2
  rw [lg_entry_eq]
  have hlocks := Bd.notSynchronized
  have hmx : mm_mx 3 = 5 := rfl
  rw [hmx] at hl2
  have he : mm_entry 3 [.ref x, .int f, .int w, .ref o] = [.ref x, .int f, .int w, .ref o, .null] := rfl
  rw [he] at hl2
  have hex := Bd.exec
  have hby := Bd.bytes
  obtain ⟨⟨d0, d1, d2, d3, d4, d5⟩, d13, d15, d16⟩ := lk_dL
  have hRm : (headSpec (Cond.codeWith yL_look cL_look 5 (some .int) [(0, 10, 13, 13), (0, 10, 17, 15)] :: ws_all) (rm_d 10 1 6)).room = rm_d 10 1 6 := rfl
  rw [hRm]
  refine lv_aload_n (i := 3) hex hby d0 rfl (hl2.r (k := 3) rfl) ?_
  refine lv_iconst (pc := 1) hex hby d1 rfl ?_
  refine lv_aload_n (i := 0) (pc := 2) hex hby d2 rfl (hl2.r (k := 0) rfl) ?_
  refine lv_iload_n (i := 1) (pc := 3) hex hby d3 rfl (hl2.i (k := 1) rfl) ?_
  refine lv_iload_n (i := 2) (pc := 4) hex hby d4 rfl (hl2.i (k := 2) rfl) ?_
  have hxa : mm_ad B E x = B + x := hrl.ext (mm_isObj_P hx).1 E
  rw [hxa]
  obtain ⟨hmw, hcls, -, hpd⟩ := me_at (y := 248) (by decide) (by decide)
  have hon := on_at (ow_lt (mi := 248) (by decide))
  have hcode := hts _ (hmw _ List.mem_cons_self) rfl
  have hw1 : ∀ w' ∈ ws_y 248, ∀ (a' : Array Value) (U : State), s.WarmedH U.vm → w'.before a' U = true := fun w' hw a' U hW => by
    rcases List.mem_cons.mp hw with rfl | hw
    · exact word_at hW (good_of_word (w := Cond.code (mm_y 248) (mm_cc 248) (mm_mx 248) (mm_rt 248)) rfl) hcode
    · exact word_at hW (good_of_word (ws_good hw).2) (hts _ (ws_good hw).1 (ws_good hw).2)
  have hini := hts _ (hmw (Cond.initialized (mm_on (mm_ow 248))) (List.mem_cons_of_mem _ List.mem_cons_self)) rfl
  rw [← hcls] at hini
  have hin := hts _ (hmw (Cond.instanceMethod (mm_y 248)) (List.mem_cons_of_mem _ (List.mem_cons_of_mem _ List.mem_cons_self))) rfl
  have hse := hts _ (hmw (Cond.selects (mm_on (mm_ow 248)) (mm_y 248) (mm_y 248)) (List.mem_cons_of_mem _ (List.mem_cons_of_mem _ (List.mem_cons_of_mem _ List.mem_cons_self)))) rfl
  have hrec : ∃ cellB : Cell, s.heap[B + x]? = some cellB ∧ cellB.vm.isStatics = false ∧ s.vm.findClass (mm_on (mm_ow 248)) = some cellB.cls := by
    obtain ⟨g1, g2⟩ := mm_isObj_P hx
    obtain ⟨-, -, h3, -, -⟩ := cl_at (c := 10) (by decide)
    have hKn := hK.1 10 _ h3
    obtain ⟨cell, q1, q2, q3, -⟩ := (hrl.2.1 x g1).2.2.2.2.2 (by rw [g2]; decide)
    rw [g2] at q2
    exact ⟨cell, q1, by rw [q3]; rfl, by rw [q2]; exact hKn.2.1⟩
  have hpv : PreV s s.heap (mm_on (mm_ow 248)) (B + x) (sn_Pc D E X B M [.ref x, .int f, .int w]) [.int f, .int w] := ⟨sn_blind, hrec, fun U hU hW => ⟨by
    show [Value.ref (B + x), .int f, .int w].toArray = [Value.ref (mm_ad B E x), .int f, .int w].toArray
    rw [hxa], by rw [hU]; exact hrl.moved hW.alike, by rw [hU]; exact hE.warm hW, va_K.moved hW.alike hK, by rw [hU]; exact hB⟩⟩
  have hr := vx_runV (p := p') (e := e) (R := rm_d 10 1 6) (below := below) (meth := meth) (H := s.heap) (locs := []) (cells := 0) (slots := 0) (C := mm_on (mm_ow 248)) (own := RL) (index := 7) (bytes := mm_cc 248) (maxL := mm_mx 248) (ret := mm_rt 248) (n := 2) (nL := 5) (Ts := ws_all) (b := B + x) (As := [.int f, .int w]) (rest := [.int 0, .ref (mm_ad B E o)])
    (g := F0 m 5 ((lg_sl ([Value.ref x, .int f, .int w, .ref o].map (mm_tr B E)) ++ List.replicate (5 - (lg_sl ([Value.ref x, .int f, .int w, .ref o].map (mm_tr B E))).length) Slot.unset).toArray) [.int w, .int f, .ref (B + x), .int 0, .ref (mm_ad B E o)])
    ⟨hex, hby, hml, hown, fun w' hw => hts w' (ws_good hw).1 (ws_good hw).2⟩ (lk_m10 hl0 hx hp h5 hf) ⟨⟨rfl, rfl, by decide, by decide, hw1, List.mem_cons_self, hcode, hini, by rw [hcls]; exact hon.2, fun sig hs => by
      rw [hs] at hpd
      exact (Option.some.inj hpd).symm, hts _ lk_ml rfl⟩, hin, hse⟩ hpv rfl rfl hl2.2.1 rfl (lv_room (show 2 ≤ 8 by decide)) d5 ⟨Nat.le_refl _, Nat.le_refl _⟩
  intro T hT Xs
  rcases hr T hT Xs with ⟨v, st0, t, T', L, h0, X', hL, e1, e2, hq, st⟩ | ⟨q, st₀, t, T', L, E9, ce, h0, X', hL, e1, e2, ⟨rfl, hrl', hsz, hlow⟩, hce, hcv, hcl, st⟩
  · exact hq.elim
  · have hkk : W p' l e (rm_d 10 1 6) s m ([Value.ref x, .int f, .int w, .ref o].map (mm_tr B E)).toArray below meth c T'.heap ([] ++ L) (0 + 1) (0 + 6) (MQ below (sn_Qc D E B (some (.int 1)) (mm_mark M)) ([Value.ref x, .int f, .int w, .ref o].map (mm_tr B E)).toArray s 1 6 (rl_A B)) (F0 m 13 ((lg_sl ([Value.ref x, .int f, .int w, .ref o].map (mm_tr B E)) ++ List.replicate (5 - (lg_sl ([Value.ref x, .int f, .int w, .ref o].map (mm_tr B E))).length) Slot.unset).toArray) [.ref q]) := by
      refine lv_astore hex hby d13 hl2.2 (by decide) rfl (fun ls2 hl3 => ?_)
      refine lv_iconst (pc := 15) (v := 1) hex hby d15 rfl ?_
      refine W.iret hex hby Bd.returns ?_ (fun q hq => hL q (by simpa using hq)) d16
      intro t9 ht9 hW9
      refine ⟨rfl, ?_, fun q hq => ?_, ?_⟩
      · rw [ht9, e1]
        exact hrl'.moved ((by rw [← e2]; exact X'.warmed.alike.symm : t.vm.Alike s.vm).trans hW9.alike)
      · rw [ht9, e1, hlow q hq, h0]
      · rw [ht9, e1]
        rw [h0] at hsz
        exact hsz
    obtain ⟨t2, a1, b1⟩ := vx_catch (own := RL) (name := lk_I) (E := lk_I) (ce := ce) (q := q) (pc := 5) (rest := [.int 0, .ref (mm_ad B E o)]) hown [] ⟨0, 10, 13, 13⟩ [⟨0, 10, 17, 15⟩] htab (fun z hz => nomatch hz) (by decide) (by decide) (hts _ lk_cl rfl) (va_Nw.use rfl (hE.2.2.2.2.2.2.1 (.castable lk_I lk_I) (by decide +kernel))) (by rw [e1]; exact hce) hcv hcl hkk T' rfl X'
    exact ⟨t2, st.trans a1, b1⟩
/-- such a FIELD -/
theorem lk_isT {X : mm_X} {d p : Nat} {f : Int32} {M : mm_M} (hp : mm_isObj M p 5 = true) (hf : ¬ f < 0) (hf2 : ¬ M.2.1 p 2 ≤ f) : mm_T X d 43 0 [.ref p, .int f] [] M (fun r M1 => r = some (.int 1) ∧ M1 = M) := by
  refine tt_1 (q := (.iload_n 1, 1, 0, 0, [])) rfl ?_
  refine tt_if (pc := 1) (c := .lt) (o := 15) (len := 3) (a := 16) (b := 0) (ps := []) rfl ?_
  show (if f < 0 then _ else _)
  rw [if_neg hf]
  refine tt_1 (q := (.iload_n 1, 1, 0, 0, [])) (pc := 4) rfl ?_
  refine tt_1 (q := (.aload_n 0, 1, 0, 0, [])) (pc := 5) rfl ?_
  refine tt_gI (pc := 6) (i := 44) (len := 3) (a := 5) (b := 2) (ps := [11]) rfl hp rfl ?_
  refine tt_ic (pc := 9) (c := .ge) (o := 7) (len := 3) (a := 16) (b := 0) (ps := []) rfl ?_
  show (if M.2.1 p 2 ≤ f then _ else _)
  rw [if_neg hf2]
  refine tt_1 (q := (.iconst 1, 1, 1, 0, [])) (pc := 12) rfl ?_
  refine tt_1 (q := (.goto 4, 3, 17, 0, [])) (pc := 13) rfl ?_
  refine tt_1 (q := (.ireturn, 1, 1, 0, [])) (pc := 17) rfl ?_
  show (if (mm_i 1 0 = 0 ∨ mm_i 1 0 = 1) then (some (Value.int (mm_i 1 0)) = some (.int 1) ∧ M = M) else False)
  rw [if_pos (show (mm_i 1 0 = 0 ∨ mm_i 1 0 = 1) from Or.inr rfl)]
  exact ⟨rfl, rfl⟩
theorem lk_isT' {X : mm_X} {d p : Nat} {f : Int32} {M : mm_M} (hp : mm_isObj M p 5 = true) (hf : ¬ f < 0) (hf2 : ¬ M.2.1 p 2 ≤ f) : ∃ n, mm_run X n d 43 0 (mm_entry 43 [.ref p, .int f]) [] M = some (some (.int 1), M) := by
  obtain ⟨n, r, M1, h1, rfl, rfl⟩ := lk_isT (X := X) (d := d) hp hf hf2
  exact ⟨n, h1⟩
/-- the value told -/
theorem lk_run0 {X : mm_X} {x p q : Nat} {f w : Int32} {M : mm_M} (hx : mm_isObj M x 10 = true) (hp : M.2.2.2 x 8 = some p) (h5 : mm_isObj M p 5 = true) (hf : ¬ f < 0) (hf2 : ¬ M.2.1 p 2 ≤ f) (hw : w = 0 ∨ w = 1 ∨ w = 2 ∨ w = 3) (hq : M.2.2.2 p (6 + w.toNatClampNeg) = some q) (ho : mm_isObj M q 100 = true) (hn : f.toNatClampNeg < M.1.1.2.2 q) (he : Nat.ble mm_ext q = false) :
    ∃ n, mm_run X n 8 248 0 (mm_entry 248 [.ref x, .int f, .int w]) [] M = some (some (.int (M.2.1 q f.toNatClampNeg)), M) := by
  have h : mm_T X 8 248 0 [.ref x, .int f, .int w] [] M (fun r M1 => r = some (.int (M.2.1 q f.toNatClampNeg)) ∧ M1 = M) := by
    refine tt_1 (q := (.aload_n 0, 1, 0, 0, [])) rfl ?_
    refine tt_gR (pc := 1) (i := 68) (len := 3) (a := 10) (b := 8) (ps := [18]) rfl hx hp ?_
    refine tt_1 (q := (.iload_n 1, 1, 0, 0, [])) (pc := 4) rfl ?_
    refine to_v (d := 7) (pc := 5) (i := .invokevirtual 150) (len := 3) (y := 43) (n := 2) (ps := [55, 0]) (as := [.ref p, .int f]) (rest := []) (ls0 := [.ref p, .int f]) rfl rfl rfl (Nat.le_of_ble_eq_true rfl) (Nat.le_of_ble_eq_true rfl) rfl (by
      show (true && mm_isObj M p 5) = true
      rw [h5]; rfl) rfl ?_
    obtain ⟨n1, r1, M1, h1, rfl, rfl⟩ := lk_isT (X := X) (d := 7) h5 hf hf2
    refine ⟨n1, _, _, h1, ?_⟩
    refine to_ift (pc := 8) (c := .ne) (o := 13) (len := 3) (a := 21) (b := 0) (ps := []) rfl rfl ?_
    refine tt_1 (q := (.iload_n 2, 1, 0, 0, [])) (pc := 21) rfl ?_
    rcases hw with rfl | rfl | rfl | rfl
    · refine to_sw (pc := 22) (o := 70) (lo := 0) (hi := 3) (os := #[30, 40, 50, 60]) (len := 30) (a := 92) (b := 0) (ps := [52, 62, 72, 82]) (t := 52) rfl (by decide) rfl ?_
      refine tt_1 (q := (.aload_n 0, 1, 0, 0, [])) (pc := 52) rfl ?_
      refine tt_gR (pc := 53) (i := 68) (len := 3) (a := 10) (b := 8) (ps := [18]) rfl hx hp ?_
      refine tt_gR (pc := 56) (i := 160) (len := 3) (a := 5) (b := 6) (ps := [92]) rfl h5 hq ?_
      refine tt_1 (q := (.iload_n 1, 1, 0, 0, [])) (pc := 59) rfl ?_
      refine tt_ial (pc := 60) (len := 1) (a := 0) (b := 0) (ps := []) rfl he ho (fun z => z.elim hf (fun y => by omega)) rfl ?_
      exact to_r0 (pc := 61) (len := 1) (b := 0) (ps := []) rfl ⟨rfl, rfl⟩
    · refine to_sw (pc := 22) (o := 70) (lo := 0) (hi := 3) (os := #[30, 40, 50, 60]) (len := 30) (a := 92) (b := 0) (ps := [52, 62, 72, 82]) (t := 62) rfl (by decide) rfl ?_
      refine tt_1 (q := (.aload_n 0, 1, 0, 0, [])) (pc := 62) rfl ?_
      refine tt_gR (pc := 63) (i := 68) (len := 3) (a := 10) (b := 8) (ps := [18]) rfl hx hp ?_
      refine tt_gR (pc := 66) (i := 164) (len := 3) (a := 5) (b := 7) (ps := [85]) rfl h5 hq ?_
      refine tt_1 (q := (.iload_n 1, 1, 0, 0, [])) (pc := 69) rfl ?_
      refine tt_ial (pc := 70) (len := 1) (a := 0) (b := 0) (ps := []) rfl he ho (fun z => z.elim hf (fun y => by omega)) rfl ?_
      exact to_r0 (pc := 71) (len := 1) (b := 0) (ps := []) rfl ⟨rfl, rfl⟩
    · refine to_sw (pc := 22) (o := 70) (lo := 0) (hi := 3) (os := #[30, 40, 50, 60]) (len := 30) (a := 92) (b := 0) (ps := [52, 62, 72, 82]) (t := 72) rfl (by decide) rfl ?_
      refine tt_1 (q := (.aload_n 0, 1, 0, 0, [])) (pc := 72) rfl ?_
      refine tt_gR (pc := 73) (i := 68) (len := 3) (a := 10) (b := 8) (ps := [18]) rfl hx hp ?_
      refine tt_gR (pc := 76) (i := 167) (len := 3) (a := 5) (b := 8) (ps := [93]) rfl h5 hq ?_
      refine tt_1 (q := (.iload_n 1, 1, 0, 0, [])) (pc := 79) rfl ?_
      refine tt_ial (pc := 80) (len := 1) (a := 0) (b := 0) (ps := []) rfl he ho (fun z => z.elim hf (fun y => by omega)) rfl ?_
      exact to_r0 (pc := 81) (len := 1) (b := 0) (ps := []) rfl ⟨rfl, rfl⟩
    · refine to_sw (pc := 22) (o := 70) (lo := 0) (hi := 3) (os := #[30, 40, 50, 60]) (len := 30) (a := 92) (b := 0) (ps := [52, 62, 72, 82]) (t := 82) rfl (by decide) rfl ?_
      refine tt_1 (q := (.aload_n 0, 1, 0, 0, [])) (pc := 82) rfl ?_
      refine tt_gR (pc := 83) (i := 68) (len := 3) (a := 10) (b := 8) (ps := [18]) rfl hx hp ?_
      refine tt_gR (pc := 86) (i := 170) (len := 3) (a := 5) (b := 9) (ps := [68]) rfl h5 hq ?_
      refine tt_1 (q := (.iload_n 1, 1, 0, 0, [])) (pc := 89) rfl ?_
      refine tt_ial (pc := 90) (len := 1) (a := 0) (b := 0) (ps := []) rfl he ho (fun z => z.elim hf (fun y => by omega)) rfl ?_
      exact to_r0 (pc := 91) (len := 1) (b := 0) (ps := []) rfl ⟨rfl, rfl⟩
  obtain ⟨n, r, M1, h1, rfl, rfl⟩ := h
  exact ⟨n, h1⟩
/-- THE SECOND THROW: no such WHAT -/
noncomputable def lk_rx : ByteArray := ⟨#[0x2a, 0x2b, 0xb7, 0x00, 0x0d, 0xb1]⟩
theorem lk_rx0 : decode lk_rx 0 = .ok (.aload_n 0, 1) ∧ decode lk_rx 1 = .ok (.aload_n 1, 1) ∧ decode lk_rx 2 = .ok (.invokespecial 13, 3) ∧ decode lk_rx 5 = .ok (.return_, 1) := by decide +kernel
theorem lk_ngN : ∀ w ∈ (vx_atX RX10 177 lk_N 13 lk_rx "java/lang/RuntimeException" ["java/lang/Exception"]).filter (fun w => !goodWord w), w ∈ ng_ws := by decide +kernel
theorem lk_otN : ∀ w ∈ Cond.classLink RX10 173 lk_N :: Cond.initialized lk_N :: vx_atX RX10 177 lk_N 13 lk_rx "java/lang/RuntimeException" ["java/lang/Exception"], vx_ot w = true := by decide +kernel
theorem lk_gdN : ∀ w ∈ Cond.classLink RX10 173 lk_N :: Cond.initialized lk_N :: (vx_atX RX10 177 lk_N 13 lk_rx "java/lang/RuntimeException" ["java/lang/Exception"]).filter goodWord, w ∈ lw_tbl ∧ goodWord w = true := by decide +kernel
theorem lk_fitN : Bundle.fit lk_N = true := by decide +kernel
theorem lk_clN : Cond.classLink RL 15 lk_N ∈ lw_tbl := by decide +kernel
theorem lk_dN : decode (mm_cc 248) 92 = .ok (.new 173, 3) ∧ decode (mm_cc 248) 95 = .ok (.dup, 1) ∧ decode (mm_cc 248) 96 = .ok (.ldc 175, 2) ∧ decode (mm_cc 248) 98 = .ok (.invokespecial 177, 3) ∧ decode (mm_cc 248) 101 = .ok (.athrow, 1) := by decide +kernel
theorem lk_dL2 : (decode cL_look 8 = .ok (.i2l, 1) ∧ decode cL_look 9 = .ok (.lastore, 1) ∧ decode cL_look 10 = .ok (.goto 11, 3) ∧ decode cL_look 21 = .ok (.iconst 0, 1) ∧ decode cL_look 22 = .ok (.ireturn, 1)) ∧ decode cL_look 17 = .ok (.astore 4, 2) ∧ decode cL_look 19 = .ok (.iconst 2, 1) ∧ decode cL_look 20 = .ok (.ireturn, 1) := by decide +kernel
noncomputable def lk_XN (D : va_G) (B : Nat) (M : mm_M) : String → State → State → Prop := fun E9 st t => E9 = lk_N ∧ rl D t B (mm_mark M) t.heap ∧ st.heap.size ≤ t.heap.size ∧ ∀ q : Nat, q < B → t.heap[q]? = st.heap[q]?
theorem lk_w4 {w : Int32} (h : ¬ (w = 0 ∨ w = 1 ∨ w = 2 ∨ w = 3)) : w.toInt < 0 ∨ 3 < w.toInt := by
  by_cases h0 : w.toInt < 0
  · exact Or.inl h0
  · by_cases h1 : 3 < w.toInt
    · exact Or.inr h1
    · exfalso
      apply h
      rcases (show w.toInt = 0 ∨ w.toInt = 1 ∨ w.toInt = 2 ∨ w.toInt = 3 by omega) with z | z | z | z
      · exact Or.inl (Int32.toInt_inj.mp z)
      · exact Or.inr (Or.inl (Int32.toInt_inj.mp z))
      · exact Or.inr (Or.inr (Or.inl (Int32.toInt_inj.mp z)))
      · exact Or.inr (Or.inr (Or.inr (Int32.toInt_inj.mp z)))
set_option maxHeartbeats 2000000 in
theorem lk_m10N {l : Launch} (hl0 : l.stackTraces = false) {D : va_G} {E : Nat → Nat} {X : mm_X} {B x p : Nat} {f w : Int32} {M : mm_M} (hx : mm_isObj M x 10 = true) (hp : M.2.2.2 x 8 = some p) (h5 : mm_isObj M p 5 = true) (hf : ¬ f < 0) (hf2 : ¬ M.2.1 p 2 ≤ f) (hw : ¬ (w = 0 ∨ w = 1 ∨ w = 2 ∨ w = 3)) :
    vx_Met l (mm_y 248) (ws_y 248) (rm_d 8 1 6) (sn_Pc D E X B M [.ref x, .int f, .int w]) (fun _ _ _ _ => False) (lk_XN D B M) 1 6 (rl_A B) := by
  obtain ⟨hmw, hcls, -, -⟩ := me_at (y := 248) (by decide) (by decide)
  have hon := on_at (ow_lt (mi := 248) (by decide))
  refine vx_ofW (cc := mm_cc 248) (maxL := mm_mx 248) (ret := mm_rt 248) (by rw [hcls]; exact hon.1) rfl ?_
  intro p' e s m args below meth c s₁ Bd hml htab hv
  obtain ⟨rfl, hrl, hE, hK, hB⟩ := hv
  have hts0 := atoms_spec (ws := ws_y 248) Bd.pre
  have hts : ∀ w' ∈ lw_tbl, goodWord w' = true → w'.before ([Value.ref x, .int f, .int w].map (mm_tr B E)).toArray s = true := fun w' h1 h2 => hts0 w' (List.mem_cons_of_mem _ (ws_in h1 h2))
  have hown : s.vm.findClass (mm_on (mm_ow 248)) = some m.cls := by rw [← hcls]; exact findClass_of_methodNamed Bd.named
  have hC : sn_C D E X B p' s m ([Value.ref x, .int f, .int w].map (mm_tr B E)).toArray meth c 248 := ⟨Bd.exec, Bd.bytes, hml, hown, hts, (fun h9 => by cases h9), hK, hE, hB, by decide⟩
  have hl2 := (sn_entry (B := B) (E := E) (y := 248) (as := [.ref x, .int f, .int w]) rfl (show 3 ≤ mm_mx 248 by decide)).2
  rw [lg_entry_eq]
  have hlocks := Bd.notSynchronized
  have he : mm_entry 248 [.ref x, .int f, .int w] = [.ref x, .int f, .int w] := rfl
  rw [he] at hl2
  have hI : sn_I D B s M.1.2.1 M.1.2.2.1 M s.heap [] 0 0 := ⟨hrl, va_S.rf, rfl, rfl⟩
  have hRm : (headSpec (ws_y 248) (rm_d 8 1 6)).room = rm_d 8 1 6 := rfl
  rw [hRm]
  have hcell : M.1.2.1 ≤ M.1.2.1 + (rm_d 8 1 6).cells ∧ M.1.2.2.1 ≤ M.1.2.2.1 + (rm_d 8 1 6).slots := ⟨Nat.le_add_right _ _, Nat.le_add_right _ _⟩
  refine sn_one (st := []) (pc := 0) (q := (.aload_n 0, 1, 0, 0, [])) hC rfl hI hl2 (by decide) (by decide) (fun o => o = .inl (1, [.ref x, .int f, .int w], [.ref x], M)) rfl (fun pc' ls' st' M' eo => ?_) (fun o eo => nomatch eo)
  cases eo
  refine ⟨hcell, fun H1 locs1 lsA1 cells1 slots1 hI hl2 => ?_⟩
  refine sn_one (pc := 1) (q := (.getfield 68, 3, 10, 8, [3, 18])) hC rfl hI hl2 (by decide) (by decide) (fun o => o = .inl (4, [.ref x, .int f, .int w], [.ref p], M)) (by
    show mm_b (mm_isObj M x 10) (mm_gO (M.2.2.2 x 8) (fun v => (Sum.inl (4, [Value.ref x, .int f, .int w], [Value.ref v], M) : mm_O) = .inl (4, [.ref x, .int f, .int w], [.ref p], M)) False) False
    rw [hx, hp]
    exact (rfl : (Sum.inl (4, [Value.ref x, .int f, .int w], [Value.ref p], M) : mm_O) = _)) (fun pc' ls' st' M' eo => ?_) (fun o eo => nomatch eo)
  cases eo
  refine ⟨hcell, fun H1 locs1 lsA1 cells1 slots1 hI hl2 => ?_⟩
  refine sn_one (pc := 4) (q := (.iload_n 1, 1, 0, 0, [])) hC rfl hI hl2 (by decide) (by decide) (fun o => o = .inl (5, [.ref x, .int f, .int w], [.int f, .ref p], M)) rfl (fun pc' ls' st' M' eo => ?_) (fun o eo => nomatch eo)
  cases eo
  refine ⟨hcell, fun H1 locs1 lsA1 cells1 slots1 hI hl2 => ?_⟩
  obtain ⟨n, hn⟩ := lk_isT' (X := X) (d := 5) h5 hf hf2
  refine sn_call (pc := 5) (q := (.invokevirtual 150, 3, 43, 2, [55, 0])) (idx := 150) (as := [.ref p, .int f]) (rest := []) (sn_run n) hC hI (by rw [← hl2.2.1]) (mm_ck_all 248 5 _ rfl) (Or.inl rfl) rfl (by decide) (by decide) (by
    show (true && mm_isObj M p 5) = true
    rw [h5]; rfl) hn ⟨by decide, by decide, hcell.1, hcell.2⟩ (fun H1 locs1 cells1 slots1 hI => ?_)
  refine sn_one (st := [.int 1]) (pc := 8) (q := (.ifCond .ne 13, 3, 21, 0, [])) hC rfl hI hl2 (by decide) (by decide) (fun o => o = .inl (21, [.ref x, .int f, .int w], [], M)) rfl (fun pc' ls' st' M' eo => ?_) (fun o eo => nomatch eo)
  cases eo
  refine ⟨hcell, fun H1 locs1 lsA1 cells1 slots1 hI hl2 => ?_⟩
  refine sn_one (st := []) (pc := 21) (q := (.iload_n 2, 1, 0, 0, [])) hC rfl hI hl2 (by decide) (by decide) (fun o => o = .inl (22, [.ref x, .int f, .int w], [.int w], M)) rfl (fun pc' ls' st' M' eo => ?_) (fun o eo => nomatch eo)
  cases eo
  refine ⟨hcell, fun H1 locs1 lsA1 cells1 slots1 hI hl2 => ?_⟩
  refine sn_one (st := [.int w]) (pc := 22) (q := (.tableswitch 70 0 3 #[30, 40, 50, 60], 30, 92, 0, [52, 62, 72, 82])) hC rfl hI hl2 (by decide) (by decide) (fun o => o = .inl (92, [.ref x, .int f, .int w], [], M)) (by
    show (if w.toInt < 0 ∨ 3 < w.toInt then ((Sum.inl (92, [Value.ref x, .int f, .int w], [], M) : mm_O) = .inl (92, [.ref x, .int f, .int w], [], M)) else _)
    rw [if_pos (lk_w4 hw)]) (fun pc' ls' st' M' eo => ?_) (fun o eo => nomatch eo)
  cases eo
  refine ⟨hcell, fun H1 locs1 lsA1 cells1 slots1 hI hl2 => ?_⟩
  obtain ⟨d1, d2, d3, d4, d5⟩ := lk_dN
  obtain ⟨-, -, -, -, hU, hN, hng, -, ⟨sa, hsa⟩, -⟩ := hE
  have c0 := hI.2.2.1
  have s0 := hI.2.2.2
  refine vx_throwSX (cc := mm_cc 248) (pc := 92) (own := RX10) (cls := lk_N) (text := "no such what") (up := "java/lang/RuntimeException") (r := ["java/lang/Exception"]) (ik := 173) (is := 175) (ic := 177) (ix := 13) (rx := lk_rx) (sa := sa) (A := rl_A B) (rest := []) Bd.exec Bd.bytes hl0 lk_rx0.1 lk_rx0.2.1 lk_rx0.2.2.1 lk_rx0.2.2.2 hown lk_fitN lk_fit.2
    (hts _ (lk_gdN _ List.mem_cons_self).1 (lk_gdN _ List.mem_cons_self).2) (hts _ (lk_gdN _ (List.mem_cons_of_mem _ List.mem_cons_self)).1 (lk_gdN _ (List.mem_cons_of_mem _ List.mem_cons_self)).2) hsa
    (vx_hat (fun w' h9 => hts w' (lk_gdN w' (List.mem_cons_of_mem _ (List.mem_cons_of_mem _ h9))).1 (lk_gdN w' (List.mem_cons_of_mem _ (List.mem_cons_of_mem _ h9))).2) lk_ngN (fun w' h9 => va_Nw.use (lk_ont w' h9) (hng w' h9))) lk_otN hU hN hI.2.1 (by rw [hml, ← hl2.2.1]) d1 d2 d3 d4 d5 (fun z hz => (htab z hz).elim) (by decide) (by decide) (by show cells1 + 1 ≤ 1; omega) (by show slots1 + 6 ≤ 6; omega) hlocks ?_ hI.2.1.2.2 (by omega) (by omega)
  intro t hv h1 h2
  refine ⟨rfl, hI.1.mark hv h1 h2, Nat.le_trans hI.2.1.1 h1, fun q hq => ?_⟩
  rw [h2 q (by have := hI.2.1.1; omega)]
  exact hI.2.1.2.1 q (by omega) (Nat.not_le.mpr hq)
set_option maxHeartbeats 2000000 in
theorem lk_lawN {l : Launch} (hl0 : l.stackTraces = false) {D : va_G} {E : Nat → Nat} {X : mm_X} {B x o p : Nat} {f w : Int32} {M : mm_M} (hx : mm_isObj M x 10 = true) (hp : M.2.2.2 x 8 = some p) (h5 : mm_isObj M p 5 = true) (hf : ¬ f < 0) (hf2 : ¬ M.2.1 p 2 ≤ f) (hw : ¬ (w = 0 ∨ w = 1 ∨ w = 2 ∨ w = 3)) :
    Met l yL_look (.codeWith yL_look cL_look 5 (some .int) [(0, 10, 13, 13), (0, 10, 17, 15)] :: ws_all) (rm_d 10 1 6) (sn_Pc D E X B M [.ref x, .int f, .int w, .ref o]) (sn_Qc D E B (some (.int 2)) (mm_mark M)) 1 6 (rl_A B) := by
  refine Met_ofWH (cc := cL_look) (maxL := 5) (ret := some .int) (hh := [(0, 10, 13, 13), (0, 10, 17, 15)]) (by decide +kernel) rfl ?_
  intro p' e s m args below meth c s₁ Bd hml hv
  obtain ⟨rfl, hrl, hE, hK, hB⟩ := hv
  obtain ⟨as, has⟩ : ∃ as : Array Value, as = ([Value.ref x, .int f, .int w, .ref o].map (mm_tr B E)).toArray := ⟨_, rfl⟩
  have hts0 := atoms_spec Bd.pre
  have hts : ∀ w' ∈ lw_tbl, goodWord w' = true → w'.before ([Value.ref x, .int f, .int w, .ref o].map (mm_tr B E)).toArray s = true := fun w' h1 h2 => hts0 w' (List.mem_cons_of_mem _ (ws_in h1 h2))
  have htab := vx_table (x := yL_look) Bd (hts0 _ List.mem_cons_self)
  have hown : s.vm.findClass RL = some m.cls := findClass_of_methodNamed Bd.named
  have hl2 := (sn_entry (B := B) (E := E) (y := 3) (as := [.ref x, .int f, .int w, .ref o]) rfl (show 4 ≤ mm_mx 3 by decide)).2
  rw [lg_entry_eq]
  have hlocks := Bd.notSynchronized
  have hmx : mm_mx 3 = 5 := rfl
  rw [hmx] at hl2
  have he : mm_entry 3 [.ref x, .int f, .int w, .ref o] = [.ref x, .int f, .int w, .ref o, .null] := rfl
  rw [he] at hl2
  have hex := Bd.exec
  have hby := Bd.bytes
  obtain ⟨⟨d0, d1, d2, d3, d4, d5⟩, -⟩ := lk_dL
  obtain ⟨-, d13, d15, d16⟩ := lk_dL2
  have hRm : (headSpec (Cond.codeWith yL_look cL_look 5 (some .int) [(0, 10, 13, 13), (0, 10, 17, 15)] :: ws_all) (rm_d 10 1 6)).room = rm_d 10 1 6 := rfl
  rw [hRm]
  refine lv_aload_n (i := 3) hex hby d0 rfl (hl2.r (k := 3) rfl) ?_
  refine lv_iconst (pc := 1) hex hby d1 rfl ?_
  refine lv_aload_n (i := 0) (pc := 2) hex hby d2 rfl (hl2.r (k := 0) rfl) ?_
  refine lv_iload_n (i := 1) (pc := 3) hex hby d3 rfl (hl2.i (k := 1) rfl) ?_
  refine lv_iload_n (i := 2) (pc := 4) hex hby d4 rfl (hl2.i (k := 2) rfl) ?_
  have hxa : mm_ad B E x = B + x := hrl.ext (mm_isObj_P hx).1 E
  rw [hxa]
  obtain ⟨hmw, hcls, -, hpd⟩ := me_at (y := 248) (by decide) (by decide)
  have hon := on_at (ow_lt (mi := 248) (by decide))
  have hcode := hts _ (hmw _ List.mem_cons_self) rfl
  have hw1 : ∀ w' ∈ ws_y 248, ∀ (a' : Array Value) (U : State), s.WarmedH U.vm → w'.before a' U = true := fun w' hw a' U hW => by
    rcases List.mem_cons.mp hw with rfl | hw
    · exact word_at hW (good_of_word (w := Cond.code (mm_y 248) (mm_cc 248) (mm_mx 248) (mm_rt 248)) rfl) hcode
    · exact word_at hW (good_of_word (ws_good hw).2) (hts _ (ws_good hw).1 (ws_good hw).2)
  have hini := hts _ (hmw (Cond.initialized (mm_on (mm_ow 248))) (List.mem_cons_of_mem _ List.mem_cons_self)) rfl
  rw [← hcls] at hini
  have hin := hts _ (hmw (Cond.instanceMethod (mm_y 248)) (List.mem_cons_of_mem _ (List.mem_cons_of_mem _ List.mem_cons_self))) rfl
  have hse := hts _ (hmw (Cond.selects (mm_on (mm_ow 248)) (mm_y 248) (mm_y 248)) (List.mem_cons_of_mem _ (List.mem_cons_of_mem _ (List.mem_cons_of_mem _ List.mem_cons_self)))) rfl
  have hrec : ∃ cellB : Cell, s.heap[B + x]? = some cellB ∧ cellB.vm.isStatics = false ∧ s.vm.findClass (mm_on (mm_ow 248)) = some cellB.cls := by
    obtain ⟨g1, g2⟩ := mm_isObj_P hx
    obtain ⟨-, -, h3, -, -⟩ := cl_at (c := 10) (by decide)
    have hKn := hK.1 10 _ h3
    obtain ⟨cell, q1, q2, q3, -⟩ := (hrl.2.1 x g1).2.2.2.2.2 (by rw [g2]; decide)
    rw [g2] at q2
    exact ⟨cell, q1, by rw [q3]; rfl, by rw [q2]; exact hKn.2.1⟩
  have hpv : PreV s s.heap (mm_on (mm_ow 248)) (B + x) (sn_Pc D E X B M [.ref x, .int f, .int w]) [.int f, .int w] := ⟨sn_blind, hrec, fun U hU hW => ⟨by
    show [Value.ref (B + x), .int f, .int w].toArray = [Value.ref (mm_ad B E x), .int f, .int w].toArray
    rw [hxa], by rw [hU]; exact hrl.moved hW.alike, by rw [hU]; exact hE.warm hW, va_K.moved hW.alike hK, by rw [hU]; exact hB⟩⟩
  have hr := vx_runV (p := p') (e := e) (R := rm_d 10 1 6) (below := below) (meth := meth) (H := s.heap) (locs := []) (cells := 0) (slots := 0) (C := mm_on (mm_ow 248)) (own := RL) (index := 7) (bytes := mm_cc 248) (maxL := mm_mx 248) (ret := mm_rt 248) (n := 2) (nL := 5) (Ts := ws_all) (b := B + x) (As := [.int f, .int w]) (rest := [.int 0, .ref (mm_ad B E o)])
    (g := F0 m 5 ((lg_sl ([Value.ref x, .int f, .int w, .ref o].map (mm_tr B E)) ++ List.replicate (5 - (lg_sl ([Value.ref x, .int f, .int w, .ref o].map (mm_tr B E))).length) Slot.unset).toArray) [.int w, .int f, .ref (B + x), .int 0, .ref (mm_ad B E o)])
    ⟨hex, hby, hml, hown, fun w' hw => hts w' (ws_good hw).1 (ws_good hw).2⟩ (lk_m10N hl0 hx hp h5 hf hf2 hw) ⟨⟨rfl, rfl, by decide, by decide, hw1, List.mem_cons_self, hcode, hini, by rw [hcls]; exact hon.2, fun sig hs => by
      rw [hs] at hpd
      exact (Option.some.inj hpd).symm, hts _ lk_ml rfl⟩, hin, hse⟩ hpv rfl rfl hl2.2.1 rfl (lv_room (show 2 ≤ 8 by decide)) d5 ⟨Nat.le_refl _, Nat.le_refl _⟩
  intro T hT Xs
  rcases hr T hT Xs with ⟨v, st0, t, T', L, h0, X', hL, e1, e2, hq, st⟩ | ⟨q, st₀, t, T', L, E9, ce, h0, X', hL, e1, e2, ⟨rfl, hrl', hsz, hlow⟩, hce, hcv, hcl, st⟩
  · exact hq.elim
  · have hkk : W p' l e (rm_d 10 1 6) s m ([Value.ref x, .int f, .int w, .ref o].map (mm_tr B E)).toArray below meth c T'.heap ([] ++ L) (0 + 1) (0 + 6) (MQ below (sn_Qc D E B (some (.int 2)) (mm_mark M)) ([Value.ref x, .int f, .int w, .ref o].map (mm_tr B E)).toArray s 1 6 (rl_A B)) (F0 m 17 ((lg_sl ([Value.ref x, .int f, .int w, .ref o].map (mm_tr B E)) ++ List.replicate (5 - (lg_sl ([Value.ref x, .int f, .int w, .ref o].map (mm_tr B E))).length) Slot.unset).toArray) [.ref q]) := by
      refine lv_astore hex hby d13 hl2.2 (by decide) rfl (fun ls2 hl3 => ?_)
      refine lv_iconst (pc := 19) (v := 2) hex hby d15 rfl ?_
      refine W.iret hex hby Bd.returns ?_ (fun q hq => hL q (by simpa using hq)) d16
      intro t9 ht9 hW9
      refine ⟨rfl, ?_, fun q hq => ?_, ?_⟩
      · rw [ht9, e1]
        exact hrl'.moved ((by rw [← e2]; exact X'.warmed.alike.symm : t.vm.Alike s.vm).trans hW9.alike)
      · rw [ht9, e1, hlow q hq, h0]
      · rw [ht9, e1]
        rw [h0] at hsz
        exact hsz
    obtain ⟨t2, a1, b1⟩ := vx_catch (own := RL) (name := lk_N) (E := lk_N) (ce := ce) (q := q) (pc := 5) (rest := [.int 0, .ref (mm_ad B E o)]) hown [⟨0, 10, 13, 13⟩] ⟨0, 10, 17, 15⟩ [] htab (fun z hz => by
      cases List.mem_singleton.mp hz
      exact Or.inr ⟨by decide, lk_I, hts _ lk_cl rfl, hE.2.2.2.2.2.2.2.2.2⟩) (by decide) (by decide) (hts _ lk_clN rfl) (va_Nw.use rfl (hE.2.2.2.2.2.2.1 (.castable lk_N lk_N) (by decide +kernel))) (by rw [e1]; exact hce) hcv hcl hkk T' rfl X'
    exact ⟨t2, st.trans a1, b1⟩
/-- a long stored, in any method's code -/
theorem lk_last {p : Program} {l : Launch} {e : Env} {R : Room} {s : State} {m : MethodId} {args : Array Value} {below : List Frame} {meth : Method} {c : Code} {H : Heap} {locs : List Loc} {cells slots : Nat} {Q : State → Prop} {D : va_G} {B c0 s0 : Nat} {cc : ByteArray} {pc : Nat} {lsA : Array Slot} {rest : List Value} {M : mm_M} {a : Nat} {i : Int32} {x : Int64} (hx : p.tables.exec = Jvm.exec) (hb : c.code = cc) (hI : sn_I D B s c0 s0 M H locs cells slots) (ha : a < M.1.1.1) (ht : M.1.1.2.1 a = 101) (hin : ¬ (i < 0 ∨ M.1.1.2.2 a ≤ i.toNatClampNeg)) (hd : decode cc pc = .ok (.lastore, 1))
    (kk : ∀ (H1 : Heap) (locs1 : List Loc), sn_I D B s c0 s0 (mm_setL M a i.toNatClampNeg x) H1 locs1 cells slots → W p l e R s m args below meth c H1 locs1 cells slots Q (F0 m (pc + 1) lsA rest)) : W p l e R s m args below meth c H locs cells slots Q (F0 m pc lsA (.long x :: .int i :: .ref (B + a) :: rest)) := by
  obtain ⟨cA, hA, hc⟩ := (hI.1.2.1 a ha).2.1 ht
  refine W.last hx hb hc (hA _ _) (fun q => by cases q) (by rw [arrV_size]; exact hin) rfl rfl hd fun H1 e1 e2 e3 => ?_
  refine kk H1 _ ⟨hI.1.upd ha rfl e2 e3 (fun b hb => mm_setL_o M a _ _ hb) hI.1.2.2.2 (rl_at.longs ht ⟨cA, hA, ?_⟩), hI.2.1.put e2 e3 (Nat.le_add_right B a), hI.2.2.1, hI.2.2.2⟩
  rw [e1, arrV_store]
  refine congrArg some (congrArg (arrV cA _) (funext fun j => ?_))
  show _ = Value.long ((mm_setL M a i.toNatClampNeg x).2.2.1 a j)
  rw [mm_setL_at]
  by_cases hj : j = i.toNatClampNeg
  · rw [if_pos hj]; simp [updV, hj, narrow]
  · rw [if_neg hj]; simp [updV, hj]
theorem lk_ext {D : va_G} {U : State} {B : Nat} {M : mm_M} {H : Heap} (h : rl D U B M H) {a : Nat} (ha : a < M.1.1.1) : Nat.ble mm_ext a = false := by
  cases e : Nat.ble mm_ext a with
  | false => rfl
  | true =>
    have h1 := Nat.le_of_ble_eq_true e
    have h2 := h.1.2.2
    have h3 : mm_ext = 1000000 := rfl
    omega
set_option maxHeartbeats 2000000 in
theorem lk_law0 {l : Launch} (hl0 : l.stackTraces = false) {D : va_G} {E : Nat → Nat} {X : mm_X} {B x o p q : Nat} {f w : Int32} {M : mm_M} (hx : mm_isObj M x 10 = true) (hp : M.2.2.2 x 8 = some p) (h5 : mm_isObj M p 5 = true) (hob : mm_isObj M o 101 = true) (hol : M.1.1.2.2 o = 1) (hf : ¬ f < 0) (hf2 : ¬ M.2.1 p 2 ≤ f) (hw : w = 0 ∨ w = 1 ∨ w = 2 ∨ w = 3) (hq : M.2.2.2 p (6 + w.toNatClampNeg) = some q) (ho : mm_isObj M q 100 = true) (hn : f.toNatClampNeg < M.1.1.2.2 q) :
    Met l yL_look (.codeWith yL_look cL_look 5 (some .int) [(0, 10, 13, 13), (0, 10, 17, 15)] :: ws_all) (rm_d 10 1 6) (sn_Pc D E X B M [.ref x, .int f, .int w, .ref o]) (sn_Qc D E B (some (.int 0)) (mm_setL (mm_mark M) o 0 (M.2.1 q f.toNatClampNeg).toInt64)) 1 6 (rl_A B) := by
  refine Met_ofWH (cc := cL_look) (maxL := 5) (ret := some .int) (hh := [(0, 10, 13, 13), (0, 10, 17, 15)]) (by decide +kernel) rfl ?_
  intro p' e s m args below meth c s₁ Bd hml hv
  obtain ⟨rfl, hrl, hE, hK, hB⟩ := hv
  obtain ⟨as, has⟩ : ∃ as : Array Value, as = ([Value.ref x, .int f, .int w, .ref o].map (mm_tr B E)).toArray := ⟨_, rfl⟩
  have hts0 := atoms_spec Bd.pre
  have hts : ∀ w' ∈ lw_tbl, goodWord w' = true → w'.before ([Value.ref x, .int f, .int w, .ref o].map (mm_tr B E)).toArray s = true := fun w' h1 h2 => hts0 w' (List.mem_cons_of_mem _ (ws_in h1 h2))
  have htab := vx_table (x := yL_look) Bd (hts0 _ List.mem_cons_self)
  have hown : s.vm.findClass RL = some m.cls := findClass_of_methodNamed Bd.named
  have hl2 := (sn_entry (B := B) (E := E) (y := 3) (as := [.ref x, .int f, .int w, .ref o]) rfl (show 4 ≤ mm_mx 3 by decide)).2
  rw [lg_entry_eq]
  have hlocks := Bd.notSynchronized
  have hmx : mm_mx 3 = 5 := rfl
  rw [hmx] at hl2
  have he : mm_entry 3 [.ref x, .int f, .int w, .ref o] = [.ref x, .int f, .int w, .ref o, .null] := rfl
  rw [he] at hl2
  have hex := Bd.exec
  have hby := Bd.bytes
  obtain ⟨⟨d0, d1, d2, d3, d4, d5⟩, -⟩ := lk_dL
  obtain ⟨⟨d8, d9, d10, d21, d22⟩, -⟩ := lk_dL2
  have hRm : (headSpec (Cond.codeWith yL_look cL_look 5 (some .int) [(0, 10, 13, 13), (0, 10, 17, 15)] :: ws_all) (rm_d 10 1 6)).room = rm_d 10 1 6 := rfl
  rw [hRm]
  refine lv_aload_n (i := 3) hex hby d0 rfl (hl2.r (k := 3) rfl) ?_
  refine lv_iconst (pc := 1) hex hby d1 rfl ?_
  refine lv_aload_n (i := 0) (pc := 2) hex hby d2 rfl (hl2.r (k := 0) rfl) ?_
  refine lv_iload_n (i := 1) (pc := 3) hex hby d3 rfl (hl2.i (k := 1) rfl) ?_
  refine lv_iload_n (i := 2) (pc := 4) hex hby d4 rfl (hl2.i (k := 2) rfl) ?_
  have hxa : mm_ad B E x = B + x := hrl.ext (mm_isObj_P hx).1 E
  rw [hxa]
  obtain ⟨hmw, hcls, -, hpd⟩ := me_at (y := 248) (by decide) (by decide)
  have hon := on_at (ow_lt (mi := 248) (by decide))
  have hcode := hts _ (hmw _ List.mem_cons_self) rfl
  have hw1 : ∀ w' ∈ ws_y 248, ∀ (a' : Array Value) (U : State), s.WarmedH U.vm → w'.before a' U = true := fun w' hw a' U hW => by
    rcases List.mem_cons.mp hw with rfl | hw
    · exact word_at hW (good_of_word (w := Cond.code (mm_y 248) (mm_cc 248) (mm_mx 248) (mm_rt 248)) rfl) hcode
    · exact word_at hW (good_of_word (ws_good hw).2) (hts _ (ws_good hw).1 (ws_good hw).2)
  have hini := hts _ (hmw (Cond.initialized (mm_on (mm_ow 248))) (List.mem_cons_of_mem _ List.mem_cons_self)) rfl
  rw [← hcls] at hini
  have hin := hts _ (hmw (Cond.instanceMethod (mm_y 248)) (List.mem_cons_of_mem _ (List.mem_cons_of_mem _ List.mem_cons_self))) rfl
  have hse := hts _ (hmw (Cond.selects (mm_on (mm_ow 248)) (mm_y 248) (mm_y 248)) (List.mem_cons_of_mem _ (List.mem_cons_of_mem _ (List.mem_cons_of_mem _ List.mem_cons_self)))) rfl
  have hrec : ∃ cellB : Cell, s.heap[B + x]? = some cellB ∧ cellB.vm.isStatics = false ∧ s.vm.findClass (mm_on (mm_ow 248)) = some cellB.cls := by
    obtain ⟨g1, g2⟩ := mm_isObj_P hx
    obtain ⟨-, -, h3, -, -⟩ := cl_at (c := 10) (by decide)
    have hKn := hK.1 10 _ h3
    obtain ⟨cell, q1, q2, q3, -⟩ := (hrl.2.1 x g1).2.2.2.2.2 (by rw [g2]; decide)
    rw [g2] at q2
    exact ⟨cell, q1, by rw [q3]; rfl, by rw [q2]; exact hKn.2.1⟩
  have hpv : PreV s s.heap (mm_on (mm_ow 248)) (B + x) (sn_Pc D E X B M [.ref x, .int f, .int w]) [.int f, .int w] := ⟨sn_blind, hrec, fun U hU hW => ⟨by
    show [Value.ref (B + x), .int f, .int w].toArray = [Value.ref (mm_ad B E x), .int f, .int w].toArray
    rw [hxa], by rw [hU]; exact hrl.moved hW.alike, by rw [hU]; exact hE.warm hW, va_K.moved hW.alike hK, by rw [hU]; exact hB⟩⟩
  have hla : (lg_sl ([Value.ref x, .int f, .int w, .ref o].map (mm_tr B E)) ++ List.replicate (5 - (lg_sl ([Value.ref x, .int f, .int w, .ref o].map (mm_tr B E))).length) Slot.unset).toArray.size = 5 := hl2.2.1
  obtain ⟨nn, hrun⟩ := lk_run0 (X := X) hx hp h5 hf hf2 hw hq ho hn (lk_ext hrl (mm_isObj_P ho).1)
  have hMt := sn_met (l := l) (sn_run nn) (y := 248) (by decide) (by decide) (show mm_rc M 248 [.ref x, .int f, .int w] = true by
    show (true && mm_isObj M x 10) = true
    rw [hx]; rfl) hrun D E B
  have hI : sn_I D B s M.1.2.1 M.1.2.2.1 M s.heap [] 0 0 := ⟨hrl, va_S.rf, rfl, rfl⟩
  refine sn_after (va_runV (C := mm_on (mm_ow 248)) (own := RL) (index := 7) (bytes := mm_cc 248) (maxL := mm_mx 248) (ret := mm_rt 248) (n := 2) (nL := 5) (Ts := ws_all) (b := B + x) (As := [.int f, .int w]) (rest := [.int 0, .ref (mm_ad B E o)])
    ⟨hex, hby, hml, hown, fun w' hw => hts w' (ws_good hw).1 (ws_good hw).2⟩ hMt ⟨⟨rfl, rfl, (show 8 + 20 + 1 ≤ 10 + 20 by decide), (show 8 + (mm_mx 248 + 11) + (64 * 8 + 400) ≤ 64 * 10 + 400 by decide), hw1, List.mem_cons_self, hcode, hini, by rw [hcls]; exact hon.2, fun sig hs => by
      rw [hs] at hpd
      exact (Option.some.inj hpd).symm, hts _ lk_ml rfl⟩, hin, hse⟩ hpv rfl rfl hla rfl (lv_room (show 2 ≤ 8 by decide)) d5 ⟨by show 0 + (M.1.2.1 - M.1.2.1) ≤ 1; omega, by show 0 + (M.1.2.2.1 - M.1.2.2.1) ≤ 6; omega⟩) hI hB (by omega) (by omega) (fun H1 locs1 hI1 => ?_)
  refine lv_i2l (pc := 8) hex hby d8 rfl ?_
  have hoa : mm_ad B E o = B + o := hrl.ext (mm_isObj_P hob).1 E
  rw [hoa]
  refine lk_last (pc := 9) (i := 0) hex hby hI1 (mm_isObj_P hob).1 (mm_isObj_P hob).2 (by rw [hol]; decide) d9 (fun H2 locs2 hI2 => ?_)
  refine W.widen (k := 1) (n := 6) (by omega) (by omega) ?_
  refine lv_goto (pc := 10) hex hby d10 rfl ?_
  refine lv_iconst (pc := 21) (v := 0) hex hby d21 rfl ?_
  refine W.iret hex hby Bd.returns ?_ hI2.2.1.2.2 d22
  intro t9 ht9 hW9
  refine ⟨rfl, ?_, fun q hq => ?_, ?_⟩
  · rw [ht9]
    exact hI2.1.mark hW9.alike (Nat.le_refl _) (fun _ _ => rfl)
  · rw [ht9]
    exact hI2.2.1.2.1 q (by omega) (Nat.not_le.mpr hq)
  · rw [ht9]
    exact hI2.2.1.1
theorem lk_all {l : Launch} (hl0 : l.stackTraces = false) : lk_C l := fun D E X B M M1 as r h => by
  obtain ⟨x, f, w, o, p, rfl, h1, h6, h7, h2, h3, h4⟩ := mm_look_I h
  rcases h4 with ⟨h4, rfl, rfl⟩ | ⟨⟨g1, g2⟩, g3, q, g4, g5, g6, rfl, rfl⟩ | ⟨⟨g1, g2⟩, g3, rfl, rfl⟩
  · exact lk_law hl0 h1 h2 h3 h4
  · exact lk_law0 hl0 h1 h2 h3 h6 h7 g1 g2 g3 g4 g5 g6
  · exact lk_lawN hl0 h1 h2 h3 g1 g2 g3
