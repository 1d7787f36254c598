/-! the heap's instructions, over the small machine's cells -/
section SNO
variable {p : Program} {l : Launch} {e : Env} {R : Room} {s : State} {m : MethodId} {args : Array Value} {below : List Frame} {meth : Method} {c : Code} {H : Heap} {locs : List Loc} {cells slots : Nat} {Q : State → Prop}
variable {D : va_G} {E : Nat → Nat} {X : mm_X} {B c0 s0 : Nat} {mi pc : Nat} {lsA : Array Slot} {rest : List Value} {M : mm_M}
theorem sn_cls {k : Nat} (hC : sn_C D E X B p s m args meth c mi) (hk : k < mm_ncl) : (∀ w ∈ u_ws (mm_on k) (mm_tf k) (mm_tn k), w.before args s = true) ∧ u_Kn s (mm_on k) (mm_tf k) (mm_tn k) (D.1 k) (D.2 k) := by
  obtain ⟨-, -, -, -, hts, -, hK, -, -⟩ := hC
  obtain ⟨-, -, h3, h4, -⟩ := cl_at hk
  exact ⟨fun w hw => hts w (h4 w hw) (u_ws_good _ _ _ w hw), hK.1 k _ h3⟩
theorem sn_get {a k j idx : Nat} (hC : sn_C D E X B p s m args meth c mi) (hI : sn_I D B s c0 s0 M H locs cells slots) (ha : a < M.1.1.1) (ht : M.1.1.2.1 a = k) (hk : k < mm_ncl) (hj : j < mm_tn k) (hlink : mm_lc (mm_ow mi) (0, idx, k, j) ∈ lw_tbl) (hd : decode (mm_cc mi) pc = .ok (.getfield idx, 3))
    (kk : W p l e R s m args below meth c H locs cells slots Q (F0 m (pc + 3) lsA (rl_V B M k a j :: rest))) : W p l e R s m args below meth c H locs cells slots Q (F0 m pc lsA (.ref (B + a) :: rest)) := by
  subst ht
  obtain ⟨hu, hS, hfc, kC, hkC, hkind⟩ := sn_cls hC hk
  obtain ⟨hx, hb, -, hown, hts, -⟩ := hC
  obtain ⟨cell, q1, q2, q3, q4⟩ := (hI.1.2.1 a ha).2.2.2.2.2 hk
  obtain ⟨cf, kf, fi, f, hi, hsl⟩ := hS j hj
  refine W.getf hx hb hown (hts _ hlink rfl) hi (u_facts hfc hkC (u_lays hu (fun _ h => h) hj) hi).1 q1 (by rw [q3]; exact fun h => by cases h) (v := rl_V B M _ a j) ?_ rfl rfl hd kk
  rw [hsl, q4 j hj]
theorem sn_put {a k j idx : Nat} {v : Value} {M1 : mm_M} (hC : sn_C D E X B p s m args meth c mi) (hI : sn_I D B s c0 s0 M H locs cells slots) (ha : a < M.1.1.1) (ht : M.1.1.2.1 a = k) (hk : k < mm_ncl) (hj : j < mm_tn k) (hlink : mm_lc (mm_ow mi) (0, idx, k, j) ∈ lw_tbl) (hfin : (mm_tf k j).2.2.2 = false ∨ (mm_ii mi = true ∧ k = mm_ow mi)) (hn : narrow (mm_ty k j) v = v) (hfit : fits (mm_ty k j) v = true) (hs1 : M1.1 = M.1) (hc : ∀ b, b ≠ a → (∀ i, M1.2.1 b i = M.2.1 b i) ∧ (∀ i, M1.2.2.1 b i = M.2.2.1 b i) ∧ ∀ i, M1.2.2.2 b i = M.2.2.2 b i) (hcl : ∀ b i y, M1.2.2.2 b i = some y → y < M.1.1.1) (hv : ∀ i, i < mm_tn k → updV (rl_V B M k a) j v i = rl_V B M1 k a i) (hd : decode (mm_cc mi) pc = .ok (.putfield idx, 3))
    (kk : ∀ (H1 : Heap) (locs1 : List Loc), sn_I D B s c0 s0 M1 H1 locs1 cells slots → W p l e R s m args below meth c H1 locs1 cells slots Q (F0 m (pc + 3) lsA rest)) : W p l e R s m args below meth c H locs cells slots Q (F0 m pc lsA (v :: .ref (B + a) :: rest)) := by
  subst ht
  obtain ⟨hu, hKn⟩ := sn_cls hC hk
  have hap : ∀ x y, x < mm_tn (M.1.1.2.1 a) → y < mm_tn (M.1.1.2.1 a) → x ≠ y → D.2 (M.1.1.2.1 a) x ≠ D.2 (M.1.1.2.1 a) y := va_apart (own := "") (D := D) (cl := vwCl) (tys := []) hu (fun _ h => h) (mm_ty (M.1.1.2.1 a)) (cl_at hk).1 (cl_at hk).2.1 hC.2.2.2.2.2.2.1 (cl_at hk).2.2.1
  obtain ⟨hS, hfc, kC, hkC, hkind⟩ := hKn
  obtain ⟨hx, hb, -, hown, hts, hii, -⟩ := hC
  obtain ⟨cell, q1, q2, q3, q4⟩ := (hI.1.2.1 a ha).2.2.2.2.2 hk
  obtain ⟨cf, kf, fi, f, hi, hsl⟩ := hS j hj
  have hst := (u_facts hfc hkC (u_lays hu (fun _ h => h) hj) hi).1
  have hpd := (cl_at hk).1 j hj
  obtain ⟨hI1, hI2, hI3, hI4⟩ := hI
  have fin : ∀ H1 : Heap, H1[B + a]? = some (cell.setSlot (D.2 (M.1.1.2.1 a) j) v) → H1.size = H.size → (∀ q, q ≠ B + a → H1[q]? = H[q]?) → sn_I D B s c0 s0 M1 H1 (locs ++ [⟨B + a, D.2 (M.1.1.2.1 a) j⟩]) cells slots := by
    intro H1 e1 e2 e3
    refine ⟨hI1.upd ha hs1 e2 e3 hc hcl ?_, hI2.put e2 e3 (Nat.le_add_right B a), by rw [hs1]; exact hI3, by rw [hs1]; exact hI4⟩
    exact rl_at.obj (c := M.1.1.2.1 a) (by rw [hs1]) hk (t_OB.to (V := updV (rl_V B M (M.1.1.2.1 a) a) j v) ⟨_, e1, q2, q3, t_set q4 hap hj v⟩ hv)
  by_cases hf : (mm_tf (M.1.1.2.1 a) j).2.2.2 = false
  · have hlay := hu _ (u_in_lay hj)
    unfold u_lay at hlay
    rw [if_neg (by rw [hf]; decide)] at hlay
    have h6 := u_store hfc hkC hkind hlay hi hpd hn hfit
    refine W.putK hx hb (f := f) ⟨hown, hts _ hlink rfl, ⟨_, _, _, hi⟩, hst⟩ (by rw [q2]; exact h6) q1 q3 (by rw [hsl]; exact k2_hasslot (q4 j hj)) rfl rfl hd fun H1 e1 e2 e3 => ?_
    rw [hsl] at e1 ⊢
    exact kk H1 _ (fin H1 e1 e2 e3)
  · rcases hfin with h | ⟨h1, h2⟩
    · exact absurd h hf
    · have hcf : m.cls = cf := by
        have h3 := (State.fieldFound?_spec hi).1
        have h5 : (mm_tf (M.1.1.2.1 a) j).1 = mm_on (M.1.1.2.1 a) := (cl_at hk).2.2.2.2.2.2 j hj
        have hlay := hu _ (u_in_lay hj)
        unfold u_lay at hlay
        rw [if_pos (by simpa using hf)] at hlay
        obtain ⟨c', k', cf', kf', fi', fd', r1, r2, hi', -, -, -, hcf', -⟩ := Cond.laysFinal_spec hlay
        cases hi.symm.trans hi'
        have hr : s.vm.findClass (mm_on (M.1.1.2.1 a)) = some m.cls := by rw [h2]; exact hown
        first
          | (rw [h5] at hcf'; exact (Option.some.inj (hr.symm.trans hcf')))
          | (cases hr.symm.trans r1; first | exact hcf' | exact hcf'.symm | simp_all)
      have h7 := u_fits hfc hkC hkind (u_lays hu (fun _ h => h) hj) hi hpd hn hfit
      refine W.putFinK hx hb hown (hts _ hlink rfl) hi hst hcf (hii h1) (by rw [q2]; exact h7) q1 q3 (by rw [hsl]; exact k2_hasslot (q4 j hj)) rfl rfl hd fun H1 e1 e2 e3 => ?_
      rw [hsl] at e1 ⊢
      exact kk H1 _ (fin H1 e1 e2 e3)
theorem sn_iald {a : Nat} {i : Int32} (hC : sn_C D E X B p s m args meth c mi) (hI : sn_I D B s c0 s0 M H locs cells slots) (ha : a < M.1.1.1) (ht : M.1.1.2.1 a = 100) (hin : ¬ (i < 0 ∨ M.1.1.2.2 a ≤ i.toNatClampNeg)) (hd : decode (mm_cc mi) pc = .ok (.iaload, 1))
    (kk : W p l e R s m args below meth c H locs cells slots Q (F0 m (pc + 1) lsA (.int (M.2.1 a i.toNatClampNeg) :: rest))) : W p l e R s m args below meth c H locs cells slots Q (F0 m pc lsA (.int i :: .ref (B + a) :: rest)) := by
  obtain ⟨cA, hA, hc⟩ := (hI.1.2.1 a ha).1 ht
  have hlt : i.toNatClampNeg < M.1.1.2.2 a := Nat.not_le.mp fun q => hin (Or.inr q)
  exact W.iald (v := .int (M.2.1 a i.toNatClampNeg)) hC.1 hC.2.1 hc (hA _ _) (fun q => by cases q) (by rw [arrV_size]; exact hin) (by rw [arrV_read _ _ hlt]) rfl rfl hd kk
theorem sn_lald {a : Nat} {i : Int32} (hC : sn_C D E X B p s m args meth c mi) (hI : sn_I D B s c0 s0 M H locs cells slots) (ha : a < M.1.1.1) (ht : M.1.1.2.1 a = 101) (hin : ¬ (i < 0 ∨ M.1.1.2.2 a ≤ i.toNatClampNeg)) (hd : decode (mm_cc mi) pc = .ok (.laload, 1))
    (kk : W p l e R s m args below meth c H locs cells slots Q (F0 m (pc + 1) lsA (.long (M.2.2.1 a i.toNatClampNeg) :: rest))) : W p l e R s m args below meth c H locs cells slots Q (F0 m pc lsA (.int i :: .ref (B + a) :: rest)) := by
  obtain ⟨cA, hA, hc⟩ := (hI.1.2.1 a ha).2.1 ht
  have hlt : i.toNatClampNeg < M.1.1.2.2 a := Nat.not_le.mp fun q => hin (Or.inr q)
  exact W.lald (v := .long (M.2.2.1 a i.toNatClampNeg)) hC.1 hC.2.1 hc (hA _ _) (fun q => by cases q) (by rw [arrV_size]; exact hin) (by rw [arrV_read _ _ hlt]) rfl rfl hd kk
theorem sn_zald {a : Nat} {i : Int32} (hC : sn_C D E X B p s m args meth c mi) (hI : sn_I D B s c0 s0 M H locs cells slots) (ha : a < M.1.1.1) (ht : M.1.1.2.1 a = 102) (hin : ¬ (i < 0 ∨ M.1.1.2.2 a ≤ i.toNatClampNeg)) (hd : decode (mm_cc mi) pc = .ok (.baload, 1))
    (kk : W p l e R s m args below meth c H locs cells slots Q (F0 m (pc + 1) lsA (.int (M.2.1 a i.toNatClampNeg) :: rest))) : W p l e R s m args below meth c H locs cells slots Q (F0 m pc lsA (.int i :: .ref (B + a) :: rest)) := by
  obtain ⟨cA, hA, hc⟩ := (hI.1.2.1 a ha).2.2.1 ht
  have hlt : i.toNatClampNeg < M.1.1.2.2 a := Nat.not_le.mp fun q => hin (Or.inr q)
  exact W.zald (v := .int (M.2.1 a i.toNatClampNeg)) hC.1 hC.2.1 hc (hA _ _) (fun q => by cases q) (by rw [arrV_size]; exact hin) (by rw [arrV_read _ _ hlt]) rfl rfl hd kk
theorem sn_bald {a : Nat} {i : Int32} (hC : sn_C D E X B p s m args meth c mi) (hI : sn_I D B s c0 s0 M H locs cells slots) (ha : a < M.1.1.1) (ht : M.1.1.2.1 a = 103) (hin : ¬ (i < 0 ∨ M.1.1.2.2 a ≤ i.toNatClampNeg)) (hd : decode (mm_cc mi) pc = .ok (.baload, 1))
    (kk : W p l e R s m args below meth c H locs cells slots Q (F0 m (pc + 1) lsA (.int (M.2.1 a i.toNatClampNeg) :: rest))) : W p l e R s m args below meth c H locs cells slots Q (F0 m pc lsA (.int i :: .ref (B + a) :: rest)) := by
  obtain ⟨cA, hA, hc⟩ := (hI.1.2.1 a ha).2.2.2.1 ht
  have hlt : i.toNatClampNeg < M.1.1.2.2 a := Nat.not_le.mp fun q => hin (Or.inr q)
  exact W.bald (v := .int (M.2.1 a i.toNatClampNeg)) hC.1 hC.2.1 hc (hA _ _) (fun q => by cases q) (by rw [arrV_size]; exact hin) (by rw [arrV_read _ _ hlt]) rfl rfl hd kk
theorem sn_aald {a : Nat} {i : Int32} (hC : sn_C D E X B p s m args meth c mi) (hI : sn_I D B s c0 s0 M H locs cells slots) (ha : a < M.1.1.1) (ht : M.1.1.2.1 a = 104) (hin : ¬ (i < 0 ∨ M.1.1.2.2 a ≤ i.toNatClampNeg)) (hd : decode (mm_cc mi) pc = .ok (.aaload, 1))
    (kk : W p l e R s m args below meth c H locs cells slots Q (F0 m (pc + 1) lsA (va_rf ((M.2.2.2 a i.toNatClampNeg).map (B + ·)) :: rest))) : W p l e R s m args below meth c H locs cells slots Q (F0 m pc lsA (.int i :: .ref (B + a) :: rest)) := by
  obtain ⟨cA, hA, hc⟩ := (hI.1.2.1 a ha).2.2.2.2.1 ht
  have hlt : i.toNatClampNeg < M.1.1.2.2 a := Nat.not_le.mp fun q => hin (Or.inr q)
  exact W.aald (v := va_rf ((M.2.2.2 a i.toNatClampNeg).map (B + ·))) hC.1 hC.2.1 hc (hA _ _) rfl (fun q => by cases q) (by rw [arrV_size]; exact hin) (by rw [arrV_read _ _ hlt]) rfl rfl hd kk
theorem sn_iast {a : Nat} {i : Int32} {x : Int32} (hC : sn_C D E X B p s m args meth c mi) (hI : sn_I D B s c0 s0 M H locs cells slots) (ha : a < M.1.1.1) (ht : M.1.1.2.1 a = 100) (hin : ¬ (i < 0 ∨ M.1.1.2.2 a ≤ i.toNatClampNeg)) (hd : decode (mm_cc mi) pc = .ok (.iastore, 1))
    (kk : ∀ (H1 : Heap) (locs1 : List Loc), sn_I D B s c0 s0 (mm_setI M a i.toNatClampNeg x) H1 locs1 cells slots → W p l e R s m args below meth c H1 locs1 cells slots Q (F0 m (pc + 1) lsA rest)) : W p l e R s m args below meth c H locs cells slots Q (F0 m pc lsA (.int x :: .int i :: .ref (B + a) :: rest)) := by
  obtain ⟨cA, hA, hc⟩ := (hI.1.2.1 a ha).1 ht
  refine W.iast hC.1 hC.2.1 hc (hA _ _) (fun q => by cases q) (by rw [arrV_size]; exact hin) rfl rfl hd fun H1 e1 e2 e3 => ?_
  refine kk H1 _ ⟨hI.1.upd ha rfl e2 e3 (fun b hb => mm_setI_o M a _ _ hb) hI.1.2.2.2 (rl_at.ints ht ⟨cA, hA, ?_⟩), hI.2.1.put e2 e3 (Nat.le_add_right B a), hI.2.2.1, hI.2.2.2⟩
  rw [e1, arrV_store]
  refine congrArg some (congrArg (arrV cA _) (funext fun j => ?_))
  show _ = Value.int ((mm_setI M a i.toNatClampNeg x).2.1 a j)
  rw [mm_setI_at]
  by_cases hj : j = i.toNatClampNeg
  · rw [if_pos hj]; simp [updV, hj, narrow]
  · rw [if_neg hj]; simp [updV, hj]
theorem sn_last {a : Nat} {i : Int32} {x : Int64} (hC : sn_C D E X B p s m args meth c mi) (hI : sn_I D B s c0 s0 M H locs cells slots) (ha : a < M.1.1.1) (ht : M.1.1.2.1 a = 101) (hin : ¬ (i < 0 ∨ M.1.1.2.2 a ≤ i.toNatClampNeg)) (hd : decode (mm_cc mi) pc = .ok (.lastore, 1))
    (kk : ∀ (H1 : Heap) (locs1 : List Loc), sn_I D B s c0 s0 (mm_setL M a i.toNatClampNeg x) H1 locs1 cells slots → W p l e R s m args below meth c H1 locs1 cells slots Q (F0 m (pc + 1) lsA rest)) : W p l e R s m args below meth c H locs cells slots Q (F0 m pc lsA (.long x :: .int i :: .ref (B + a) :: rest)) := by
  obtain ⟨cA, hA, hc⟩ := (hI.1.2.1 a ha).2.1 ht
  refine W.last hC.1 hC.2.1 hc (hA _ _) (fun q => by cases q) (by rw [arrV_size]; exact hin) rfl rfl hd fun H1 e1 e2 e3 => ?_
  refine kk H1 _ ⟨hI.1.upd ha rfl e2 e3 (fun b hb => mm_setL_o M a _ _ hb) hI.1.2.2.2 (rl_at.longs ht ⟨cA, hA, ?_⟩), hI.2.1.put e2 e3 (Nat.le_add_right B a), hI.2.2.1, hI.2.2.2⟩
  rw [e1, arrV_store]
  refine congrArg some (congrArg (arrV cA _) (funext fun j => ?_))
  show _ = Value.long ((mm_setL M a i.toNatClampNeg x).2.2.1 a j)
  rw [mm_setL_at]
  by_cases hj : j = i.toNatClampNeg
  · rw [if_pos hj]; simp [updV, hj, narrow]
  · rw [if_neg hj]; simp [updV, hj]
theorem sn_zast {a : Nat} {i : Int32} {x : Int32} (hC : sn_C D E X B p s m args meth c mi) (hI : sn_I D B s c0 s0 M H locs cells slots) (ha : a < M.1.1.1) (ht : M.1.1.2.1 a = 102) (hin : ¬ (i < 0 ∨ M.1.1.2.2 a ≤ i.toNatClampNeg)) (hd : decode (mm_cc mi) pc = .ok (.bastore, 1))
    (kk : ∀ (H1 : Heap) (locs1 : List Loc), sn_I D B s c0 s0 (mm_setI M a i.toNatClampNeg (x &&& 1)) H1 locs1 cells slots → W p l e R s m args below meth c H1 locs1 cells slots Q (F0 m (pc + 1) lsA rest)) : W p l e R s m args below meth c H locs cells slots Q (F0 m pc lsA (.int x :: .int i :: .ref (B + a) :: rest)) := by
  obtain ⟨cA, hA, hc⟩ := (hI.1.2.1 a ha).2.2.1 ht
  refine W.zast hC.1 hC.2.1 hc (hA _ _) (fun q => by cases q) (by rw [arrV_size]; exact hin) rfl rfl hd fun H1 e1 e2 e3 => ?_
  refine kk H1 _ ⟨hI.1.upd ha rfl e2 e3 (fun b hb => mm_setI_o M a _ _ hb) hI.1.2.2.2 (rl_at.bools ht ⟨cA, hA, ?_⟩), hI.2.1.put e2 e3 (Nat.le_add_right B a), hI.2.2.1, hI.2.2.2⟩
  rw [e1, arrV_store]
  refine congrArg some (congrArg (arrV cA _) (funext fun j => ?_))
  show _ = Value.int ((mm_setI M a i.toNatClampNeg (x &&& 1)).2.1 a j)
  rw [mm_setI_at]
  by_cases hj : j = i.toNatClampNeg
  · rw [if_pos hj]; simp [updV, hj, narrow]
  · rw [if_neg hj]; simp [updV, hj]
theorem sn_bast {a : Nat} {i : Int32} {x : Int32} (hC : sn_C D E X B p s m args meth c mi) (hI : sn_I D B s c0 s0 M H locs cells slots) (ha : a < M.1.1.1) (ht : M.1.1.2.1 a = 103) (hin : ¬ (i < 0 ∨ M.1.1.2.2 a ≤ i.toNatClampNeg)) (hd : decode (mm_cc mi) pc = .ok (.bastore, 1))
    (kk : ∀ (H1 : Heap) (locs1 : List Loc), sn_I D B s c0 s0 (mm_setI M a i.toNatClampNeg x.toInt8.toInt32) H1 locs1 cells slots → W p l e R s m args below meth c H1 locs1 cells slots Q (F0 m (pc + 1) lsA rest)) : W p l e R s m args below meth c H locs cells slots Q (F0 m pc lsA (.int x :: .int i :: .ref (B + a) :: rest)) := by
  obtain ⟨cA, hA, hc⟩ := (hI.1.2.1 a ha).2.2.2.1 ht
  refine W.bast hC.1 hC.2.1 hc (hA _ _) (fun q => by cases q) (by rw [arrV_size]; exact hin) rfl rfl hd fun H1 e1 e2 e3 => ?_
  refine kk H1 _ ⟨hI.1.upd ha rfl e2 e3 (fun b hb => mm_setI_o M a _ _ hb) hI.1.2.2.2 (rl_at.bytes ht ⟨cA, hA, ?_⟩), hI.2.1.put e2 e3 (Nat.le_add_right B a), hI.2.2.1, hI.2.2.2⟩
  rw [e1, arrV_store]
  refine congrArg some (congrArg (arrV cA _) (funext fun j => ?_))
  show _ = Value.int ((mm_setI M a i.toNatClampNeg x.toInt8.toInt32).2.1 a j)
  rw [mm_setI_at]
  by_cases hj : j = i.toNatClampNeg
  · rw [if_pos hj]; simp [updV, hj, narrow]
  · rw [if_neg hj]; simp [updV, hj]
theorem sn_alen {a : Nat} (hC : sn_C D E X B p s m args meth c mi) (hI : sn_I D B s c0 s0 M H locs cells slots) (ha : a < M.1.1.1) (h1 : 100 ≤ M.1.1.2.1 a) (h2 : M.1.1.2.1 a ≤ 104) (hd : decode (mm_cc mi) pc = .ok (.arraylength, 1))
    (kk : W p l e R s m args below meth c H locs cells slots Q (F0 m (pc + 1) lsA (.int (Int32.ofNat (M.1.1.2.2 a)) :: rest))) : W p l e R s m args below meth c H locs cells slots Q (F0 m pc lsA (.ref (B + a) :: rest)) := by
  obtain ⟨g1, g2, g3, g4, g5, -⟩ := hI.1.2.1 a ha
  rcases (show M.1.1.2.1 a = 100 ∨ M.1.1.2.1 a = 101 ∨ M.1.1.2.1 a = 102 ∨ M.1.1.2.1 a = 103 ∨ M.1.1.2.1 a = 104 by omega) with h | h | h | h | h
  · obtain ⟨cA, hA, hc⟩ := g1 h
    exact W.alen (n := Int32.ofNat (M.1.1.2.2 a)) hC.1 hC.2.1 hc (hA _ _) (by rw [arrV_size] <;> rfl) rfl rfl hd kk
  · obtain ⟨cA, hA, hc⟩ := g2 h
    exact W.alen (n := Int32.ofNat (M.1.1.2.2 a)) hC.1 hC.2.1 hc (hA _ _) (by rw [arrV_size] <;> rfl) rfl rfl hd kk
  · obtain ⟨cA, hA, hc⟩ := g3 h
    exact W.alen (n := Int32.ofNat (M.1.1.2.2 a)) hC.1 hC.2.1 hc (hA _ _) (by rw [arrV_size] <;> rfl) rfl rfl hd kk
  · obtain ⟨cA, hA, hc⟩ := g4 h
    exact W.alen (n := Int32.ofNat (M.1.1.2.2 a)) hC.1 hC.2.1 hc (hA _ _) (by rw [arrV_size] <;> rfl) rfl rfl hd kk
  · obtain ⟨cA, hA, hc⟩ := g5 h
    exact W.alen (n := Int32.ofNat (M.1.1.2.2 a)) hC.1 hC.2.1 hc (hA _ _) (by rw [arrV_size] <;> rfl) rfl rfl hd kk
/-- rows from outside -/
theorem sn_xald {x : Nat} {i : Int32} (hC : sn_C D E X B p s m args meth c mi) (hI : sn_I D B s c0 s0 M H locs cells slots) (hin : ¬ (i < 0 ∨ (X x).1 ≤ i.toNatClampNeg)) (hd : decode (mm_cc mi) pc = .ok (.iaload, 1))
    (kk : W p l e R s m args below meth c H locs cells slots Q (F0 m (pc + 1) lsA (.int ((X x).2 i.toNatClampNeg) :: rest))) : W p l e R s m args below meth c H locs cells slots Q (F0 m pc lsA (.int i :: .ref (E x) :: rest)) :=
  va_ti hC.1 hC.2.1 (hC.2.2.2.2.2.2.2.1.2.1 x) hI.2.1 hin rfl hd kk
theorem sn_xlen {x : Nat} (hC : sn_C D E X B p s m args meth c mi) (hI : sn_I D B s c0 s0 M H locs cells slots) (hd : decode (mm_cc mi) pc = .ok (.arraylength, 1))
    (kk : W p l e R s m args below meth c H locs cells slots Q (F0 m (pc + 1) lsA (.int (Int32.ofNat (X x).1) :: rest))) : W p l e R s m args below meth c H locs cells slots Q (F0 m pc lsA (.ref (E x) :: rest)) := by
  obtain ⟨cell, h1, h2, h3, h4, h5, h6, h7⟩ := hC.2.2.2.2.2.2.2.1.2.1 x
  exact W.alen (n := Int32.ofNat (X x).1) hC.1 hC.2.1 (by rw [hI.2.1.2.1 _ (Array.getElem?_eq_some_iff.mp h1).1 h7]; exact h1) h2 h5 rfl rfl hd kk
theorem sn_gets {x idx : Nat} (hC : sn_C D E X B p s m args meth c mi) (hI : sn_I D B s c0 s0 M H locs cells slots) (h1 : 1 ≤ x) (h3 : x ≤ 3) (hn : (8, mm_ow mi, idx, x) ∈ nn_0) (hd : decode (mm_cc mi) pc = .ok (.getstatic idx, 3))
    (kk : W p l e R s m args below meth c H locs cells slots Q (F0 m (pc + 3) lsA (.ref (E x) :: rest))) : W p l e R s m args below meth c H locs cells slots Q (F0 m pc lsA rest) := by
  have hE := hC.2.2.2.2.2.2.2.1
  exact va_getsN hC.1 hC.2.1 (hE.2.2.1 x h1 h3) hI.2.1 hC.2.2.2.1 (va_Nw.use rfl (hE.1 _ hn)) (fun _ h => h) hd kk
theorem sn_new {k idx : Nat} (hC : sn_C D E X B p s m args meth c mi) (hI : sn_I D B s c0 s0 M H locs cells slots) (hk : k < mm_ncl) (hlink : mm_lc (mm_ow mi) (2, idx, k, 0) ∈ lw_tbl) (hx : M.1.2.2.2 = 0) (hlim : M.1.1.1 < 900000) (hcells : M.1.2.1 + 1 ≤ c0 + R.cells) (hslots : M.1.2.2.1 + mm_tn k ≤ s0 + R.slots) (hd : decode (mm_cc mi) pc = .ok (.new idx, 3))
    (kk : ∀ H1 : Heap, sn_I D B s c0 s0 (mm_new M k 0 (mm_tn k)) H1 locs (cells + 1) (slots + mm_tn k) → W p l e R s m args below meth c H1 locs (cells + 1) (slots + mm_tn k) Q (F0 m (pc + 3) lsA (.ref (B + M.1.1.1) :: rest))) : W p l e R s m args below meth c H locs cells slots Q (F0 m pc lsA rest) := by
  obtain ⟨hu, hKn⟩ := sn_cls hC hk
  obtain ⟨hx1, hb, -, hown, hts, -⟩ := hC
  obtain ⟨f1, -, -, -, ⟨f2, f3⟩, f4, -⟩ := cl_at hk
  have hS0 := hI.1.1.2.1 hx
  refine W.newcK hx1 hb hown (hts _ hlink rfl) (hts _ f2 rfl) (hts _ f3 rfl) rfl hd (by have := hI.2.2.1; omega) (by have := hI.2.2.2; omega) hKn.2.1 hS0 fun H1 kC hkC e1 z1 o1 => ?_
  refine kk H1 ⟨hI.1.push rfl rfl (by omega) hx (by omega) (fun q hq => o1 q (by omega)) (fun b hb2 => ⟨if_neg (by omega), if_neg (by omega)⟩) rfl ?_, ⟨by have := hI.2.1.1; omega, fun q h1 h2 => (o1 q (by have := hI.2.1.1; omega)).trans (hI.2.1.2.1 q h1 h2), hI.2.1.2.2⟩, by show c0 + (cells + 1) = M.1.2.1 + 1; have := hI.2.2.1; omega, by show s0 + (slots + mm_tn k) = M.1.2.2.1 + mm_tn k; have := hI.2.2.2; omega⟩
  refine rl_at.obj (c := k) (if_pos rfl) hk ((u_born (mm_ty k) hu (fun _ h => h) hKn hkC e1 f1).to fun j hj => ?_)
  have h5 := mm_fo_at f4 j hj
  simp only [Bool.and_eq_true, decide_eq_true_eq] at h5
  rw [h5.1]
  obtain ⟨z1, z2, z3⟩ := hI.1.2.2.1 M.1.1.1 j (Nat.le_refl _)
  show mm_dv (mm_fk k j) = match mm_fk k j with
    | 0 => Value.int (M.2.1 M.1.1.1 j)
    | 1 => Value.int (M.2.1 M.1.1.1 j)
    | 2 => Value.long (M.2.2.1 M.1.1.1 j)
    | _ => va_rf ((M.2.2.2 M.1.1.1 j).map (B + ·))
  rw [z1, z2, z3]
  generalize mm_fk k j = n
  match n with
  | 0 => rfl
  | 1 => rfl
  | 2 => rfl
  | _ + 3 => rfl
theorem sn_newa {n : Int32} {t : ArrayType} (hC : sn_C D E X B p s m args meth c mi) (hI : sn_I D B s c0 s0 M H locs cells slots) (ht : mm_ac t ≠ 0) (hn : ¬ (n < 0 ∨ 1000 < n.toNatClampNeg)) (hx : M.1.2.2.2 = 0) (hlim : M.1.1.1 < 900000) (hcells : M.1.2.1 + 1 ≤ c0 + R.cells) (hslots : M.1.2.2.1 + n.toNatClampNeg ≤ s0 + R.slots) (hd : decode (mm_cc mi) pc = .ok (.newarray t, 2))
    (kk : ∀ H1 : Heap, sn_I D B s c0 s0 (mm_new M (mm_ac t) n.toNatClampNeg n.toNatClampNeg) H1 locs (cells + 1) (slots + n.toNatClampNeg) → W p l e R s m args below meth c H1 locs (cells + 1) (slots + n.toNatClampNeg) Q (F0 m (pc + 2) lsA (.ref (B + M.1.1.1) :: rest))) : W p l e R s m args below meth c H locs cells slots Q (F0 m pc lsA (.int n :: rest)) := by
  have hS0 := hI.1.1.2.1 hx
  obtain ⟨hx1, hb, -, hown, hts, -⟩ := hC
  have harr : (Cond.arrayClass (newarray.typeOf t)).before args s = true := by
    cases t <;> first | exact absurd rfl ht | exact hts _ aw_i rfl | exact hts _ aw_l rfl | exact hts _ aw_z rfl | exact hts _ aw_b rfl
  have hle : n.toNatClampNeg ≤ 1000 := Nat.not_lt.mp fun q => hn (Or.inr q)
  have hcb : n.toNatClampNeg * componentBytes (newarray.typeOf t) ≤ 536870912 := by
    have : componentBytes (newarray.typeOf t) ≤ 8 := by cases t <;> decide
    exact Nat.le_trans (Nat.mul_le_mul hle this) (by decide)
  refine W.newaK hx1 hb harr rfl hd rfl (fun q => hn (Or.inl q)) rfl hcb (by have := hI.2.2.1; omega) (by have := hI.2.2.2; omega) hS0 fun H1 cA e1 z1 o1 hA => ?_
  refine kk H1 ⟨hI.1.push rfl rfl (by omega) hx (by omega) (fun q hq => o1 q (by omega)) (fun b hb2 => ⟨if_neg (by omega), if_neg (by omega)⟩) rfl ?_, ⟨by have := hI.2.1.1; omega, fun q h1 h2 => (o1 q (by have := hI.2.1.1; omega)).trans (hI.2.1.2.1 q h1 h2), hI.2.1.2.2⟩, by show c0 + (cells + 1) = M.1.2.1 + 1; have := hI.2.2.1; omega, by show s0 + (slots + n.toNatClampNeg) = M.1.2.2.1 + n.toNatClampNeg; have := hI.2.2.2; omega⟩
  have hz := hI.1.2.2.1 M.1.1.1
  have hl : (mm_new M (mm_ac t) n.toNatClampNeg n.toNatClampNeg).1.1.2.2 M.1.1.1 = n.toNatClampNeg := if_pos rfl
  have hi : (fun j => Value.int ((mm_new M (mm_ac t) n.toNatClampNeg n.toNatClampNeg).2.1 M.1.1.1 j)) = fun _ => Value.int 0 := funext fun j => congrArg Value.int (hz j (Nat.le_refl _)).1
  have hj : (fun j => Value.long ((mm_new M (mm_ac t) n.toNatClampNeg n.toNatClampNeg).2.2.1 M.1.1.1 j)) = fun _ => Value.long 0 := funext fun j => congrArg Value.long (hz j (Nat.le_refl _)).2.1
  cases t with
  | int => exact rl_at.ints (if_pos rfl) ⟨cA, hA, by rw [hl, hi]; exact e1⟩
  | long => exact rl_at.longs (if_pos rfl) ⟨cA, hA, by rw [hl, hj]; exact e1⟩
  | boolean => exact rl_at.bools (if_pos rfl) ⟨cA, hA, by rw [hl, hi]; exact e1⟩
  | byte => exact rl_at.bytes (if_pos rfl) ⟨cA, hA, by rw [hl, hi]; exact e1⟩
  | _ => exact absurd rfl ht
end SNO
