/-! new int[n][k] -/
theorem mm_rows_1 : ∀ (n k : Nat) (M : mm_M), (mm_rows n k M).1.1.1 = M.1.1.1 + n ∧ (mm_rows n k M).1.2.1 = M.1.2.1 + n ∧ (mm_rows n k M).1.2.2.1 = M.1.2.2.1 + n * k ∧ (mm_rows n k M).1.2.2.2 = M.1.2.2.2 ∧ (mm_rows n k M).2 = M.2 ∧ (∀ b, b < M.1.1.1 → (mm_rows n k M).1.1.2.1 b = M.1.1.2.1 b ∧ (mm_rows n k M).1.1.2.2 b = M.1.1.2.2 b) ∧ ∀ b, M.1.1.1 ≤ b → b < M.1.1.1 + n → (mm_rows n k M).1.1.2.1 b = 100 ∧ (mm_rows n k M).1.1.2.2 b = k
  | 0, k, M => ⟨rfl, rfl, by simp [mm_rows], rfl, rfl, fun _ _ => ⟨rfl, rfl⟩, fun b h1 h2 => absurd h2 (by omega)⟩
  | n + 1, k, M => by
    obtain ⟨h1, h2, h3, h4, h5, h6, h7⟩ := mm_rows_1 n k (mm_new M 100 k k)
    have e1 : (mm_new M 100 k k).1.1.1 = M.1.1.1 + 1 := rfl
    have e2 : (mm_new M 100 k k).1.2.1 = M.1.2.1 + 1 := rfl
    have e3 : (mm_new M 100 k k).1.2.2.1 = M.1.2.2.1 + k := rfl
    rw [e1] at h1 h6 h7
    rw [e2] at h2
    rw [e3] at h3
    refine ⟨by show (mm_rows n k _).1.1.1 = _; omega, by show (mm_rows n k _).1.2.1 = _; omega, ?_, h4, h5, fun b hb => ?_, fun b hb1 hb2 => ?_⟩
    · show (mm_rows n k _).1.2.2.1 = _
      rw [h3, Nat.succ_mul]; omega
    · obtain ⟨g1, g2⟩ := h6 b (by omega)
      exact ⟨g1.trans (if_neg (by omega)), g2.trans (if_neg (by omega))⟩
    · by_cases e : b = M.1.1.1
      · subst e
        obtain ⟨g1, g2⟩ := h6 M.1.1.1 (by omega)
        exact ⟨g1.trans (if_pos rfl), g2.trans (if_pos rfl)⟩
      · exact h7 b (by omega) (by omega)
theorem mm_refs_1 : ∀ (n a i q : Nat) (f : Nat → Nat → Option Nat) (b j : Nat), mm_refs n a i q f b j = if b = a ∧ i ≤ j ∧ j < i + n then some (q + (j - i)) else f b j
  | 0, a, i, q, f, b, j => by
    show f b j = _
    rw [if_neg (by omega)]
  | n + 1, a, i, q, f, b, j => by
    show mm_refs n a (i + 1) (q + 1) (mm_u f a i (some q)) b j = _
    rw [mm_refs_1 n a (i + 1) (q + 1) _ b j]
    by_cases h : b = a ∧ i + 1 ≤ j ∧ j < i + 1 + n
    · rw [if_pos h, if_pos ⟨h.1, by omega, by omega⟩]
      congr 1; omega
    · rw [if_neg h]
      unfold mm_u
      by_cases h2 : b = a ∧ j = i
      · rw [if_pos h2, if_pos ⟨h2.1, by omega, by omega⟩]
        congr 1; omega
      · rw [if_neg h2, if_neg (by omega)]
section SNM
variable {p : Program} {l : Launch} {e : Env} {R : Room} {s : State} {m : MethodId} {args : Array Value} {below : List Frame} {meth : Method} {c : Code} {H : Heap} {locs : List Loc} {cells slots : Nat} {Q : State → Prop}
variable {D : va_G} {E : Nat → Nat} {X : mm_X} {B c0 s0 : Nat} {mi pc : Nat} {lsA : Array Slot} {rest : List Value} {M : mm_M}
theorem sn_multi {n k : Int32} {idx : Nat} (hC : sn_C D E X B p s m args meth c mi) (hI : sn_I D B s c0 s0 M H locs cells slots) (hn : ¬ (n < 0 ∨ 1000 < n.toNatClampNeg ∨ k < 0 ∨ 1000 < k.toNatClampNeg)) (hlink : mm_lc (mm_ow mi) (6, idx, 0, 0) ∈ lw_tbl) (hx : M.1.2.2.2 = 0) (hlim : M.1.1.1 < 900000) (hcells : M.1.2.1 + 1 + n.toNatClampNeg ≤ c0 + R.cells) (hslots : M.1.2.2.1 + n.toNatClampNeg + n.toNatClampNeg * k.toNatClampNeg ≤ s0 + R.slots) (hd : decode (mm_cc mi) pc = .ok (.multianewarray idx 2, 4))
    (kk : ∀ H1 : Heap, sn_I D B s c0 s0 (mm_multi M n.toNatClampNeg k.toNatClampNeg) H1 locs (cells + 1 + n.toNatClampNeg) (slots + n.toNatClampNeg + n.toNatClampNeg * k.toNatClampNeg) → W p l e R s m args below meth c H1 locs (cells + 1 + n.toNatClampNeg) (slots + n.toNatClampNeg + n.toNatClampNeg * k.toNatClampNeg) Q (F0 m (pc + 4) lsA (.ref (B + M.1.1.1) :: rest))) : W p l e R s m args below meth c H locs cells slots Q (F0 m pc lsA (.int k :: .int n :: rest)) := by
  have hS0 := hI.1.1.2.1 hx
  have hE := hC.2.2.2.2.2.2.2.1
  obtain ⟨hx1, hb, -, hown, hts, -⟩ := hC
  have hn1 : ¬ n < 0 := fun q => hn (Or.inl q)
  have hn2 : n.toNatClampNeg ≤ 1000 := Nat.not_lt.mp fun q => hn (Or.inr (Or.inl q))
  have hn3 : ¬ k < 0 := fun q => hn (Or.inr (Or.inr (Or.inl q)))
  have hn4 : k.toNatClampNeg ≤ 1000 := Nat.not_lt.mp fun q => hn (Or.inr (Or.inr (Or.inr q)))
  intro T hT Xs
  obtain ⟨vm₁, cA, comp, -, fA, fC, hO, hIn, X', step⟩ := Xs.multianewarray2F hx1 (ty := .int) (index := idx) hown (hts _ hlink rfl) hE.2.2.2.1 (hts _ aw_i rfl) (g := F0 m pc lsA (.int k :: .int n :: rest)) rfl (by rw [hb]; exact hd) rfl hn1 hn3 (by omega) (by show k.toNatClampNeg * 4 ≤ _; omega) (by omega) rfl rfl (by have := hI.2.2.1; omega) (by have := hI.2.2.2; omega)
  generalize hF : Jvm.Free.Multi.fill (T.setVm vm₁) cA comp n.toNatClampNeg k.toNatClampNeg (defaultValue .int) n.toNatClampNeg = F at X' step
  have hTh : (T.setVm vm₁).heap = H := hT
  obtain ⟨f1, f2, -, -⟩ := Jvm.Free.Multi.fill_facts (T.setVm vm₁) cA comp n.toNatClampNeg k.toNatClampNeg (defaultValue .int) n.toNatClampNeg
  rw [hF, hTh] at f1 f2
  have hold : ∀ x : Nat, x < H.size → F.heap[x]? = H[x]? := fun x hx => by
    have := Jvm.Free.Multi.fill_old (T.setVm vm₁) cA comp n.toNatClampNeg k.toNatClampNeg (defaultValue .int) (a := x) (by rw [hTh]; exact hx) n.toNatClampNeg
    rw [hF, hTh] at this
    exact this
  have hrow : ∀ j : Nat, j < n.toNatClampNeg → F.heap[H.size + 1 + j]? = some (arrV comp k.toNatClampNeg (fun _ => .int 0)) := fun j hj => by
    have := Jvm.Free.Multi.fill_inner (T.setVm vm₁) cA comp n.toNatClampNeg k.toNatClampNeg (defaultValue .int) n.toNatClampNeg j hj
    rw [hF, hTh] at this
    rw [this, ← arrV_new]
    rfl
  rw [vr_outer cA n.toNatClampNeg H.size n.toNatClampNeg] at f2
  have hAr : ArrOfT s cA (.array .int) := fun N9 z9 => by
    obtain ⟨-, k9, hk9, cm9, hkk9⟩ := (hO 0 0 0).1
    exact ⟨(fun q hq => by cases hq), k9, hk9, cm9, hkk9⟩
  have hAi : ArrOfT s comp .int := fun N9 z9 => by
    obtain ⟨-, k9, hk9, cm9, hkk9⟩ := (hIn 0 (.int 0)).1
    exact ⟨(fun q hq => by cases hq), k9, hk9, cm9, hkk9⟩
  generalize n.toNatClampNeg = N at *
  generalize k.toNatClampNeg = K at *
  obtain ⟨r1, r2, r3, r4, r5, r6, r7⟩ := mm_rows_1 N K (mm_new M 104 N N)
  have q1 : (mm_new M 104 N N).1.1.1 = M.1.1.1 + 1 := rfl
  rw [q1] at r1 r6 r7
  have q2 : (mm_new M 104 N N).1.2.1 = M.1.2.1 + 1 := rfl
  have q3 : (mm_new M 104 N N).1.2.2.1 = M.1.2.2.1 + N := rfl
  rw [q2] at r2
  rw [q3] at r3
  have s1 : (mm_multi M N K).1 = (mm_rows N K (mm_new M 104 N N)).1 := rfl
  have hrl : rl D s B (mm_multi M N K) F.heap := by
    obtain ⟨⟨h1, h2, h3⟩, h4, h5, h6⟩ := hI.1
    have he : mm_ext = 1000000 := rfl
    have hold2 : ∀ b, b < M.1.1.1 → rl_at D s B (mm_multi M N K) F.heap b := fun b hb2 => by
      refine ((h4 b hb2).kept (hold (B + b) (by omega))).to ?_ ?_ (fun _ => rfl) (fun _ => rfl) (fun j => ?_)
      · rw [s1, (r6 b (by omega)).1]; exact if_neg (by omega)
      · rw [s1, (r6 b (by omega)).2]; exact if_neg (by omega)
      · show mm_refs N M.1.1.1 0 (M.1.1.1 + 1) M.2.2.2 b j = _
        rw [mm_refs_1, if_neg (by omega)]
    refine ⟨⟨by rw [s1]; omega, fun _ => by rw [s1]; omega, by rw [s1]; omega⟩, fun b hb2 => ?_, fun b i hb2 => ?_, fun b i y hy => ?_⟩
    · rw [s1, r1] at hb2
      rcases Nat.lt_trichotomy b M.1.1.1 with h | h | h
      · exact hold2 b h
      · subst h
        refine rl_at.rows ?_ ⟨cA, hAr, ?_⟩
        · rw [s1, (r6 M.1.1.1 (by omega)).1]; exact if_pos rfl
        · rw [show (mm_multi M N K).1.1.2.2 M.1.1.1 = N from by rw [s1, (r6 M.1.1.1 (by omega)).2]; exact if_pos rfl]
          rw [← hS0, f2]
          refine congrArg some (congrArg (arrV cA _) (funext fun j => ?_))
          show _ = va_rf ((mm_refs N M.1.1.1 0 (M.1.1.1 + 1) M.2.2.2 M.1.1.1 j).map (B + ·))
          rw [mm_refs_1]
          by_cases hj : j < N
          · rw [if_pos hj, if_pos ⟨rfl, by omega, by omega⟩]
            show va_rf _ = va_rf (some (B + (M.1.1.1 + 1 + (j - 0))))
            congr 2; omega
          · rw [if_neg hj, if_neg (by omega), (h5 M.1.1.1 j (Nat.le_refl _)).2.2]
            rfl
      · refine rl_at.ints ?_ ⟨comp, hAi, ?_⟩
        · rw [s1]; exact (r7 b (by omega) (by omega)).1
        · rw [show (mm_multi M N K).1.1.2.2 b = K from by rw [s1]; exact (r7 b (by omega) (by omega)).2]
          have := hrow (b - M.1.1.1 - 1) (by omega)
          rw [show H.size + 1 + (b - M.1.1.1 - 1) = B + b by omega] at this
          rw [this]
          refine congrArg some (congrArg (arrV comp _) (funext fun j => ?_))
          show _ = Value.int (M.2.1 b j)
          rw [(h5 b j (by omega)).1]
    · rw [s1, r1] at hb2
      obtain ⟨z1, z2, z3⟩ := h5 b i (by omega)
      refine ⟨z1, z2, ?_⟩
      show mm_refs N M.1.1.1 0 (M.1.1.1 + 1) M.2.2.2 b i = none
      rw [mm_refs_1, if_neg (by omega)]
      exact z3
    · rw [s1, r1]
      have hy2 : mm_refs N M.1.1.1 0 (M.1.1.1 + 1) M.2.2.2 b i = some y := hy
      rw [mm_refs_1] at hy2
      by_cases hh : b = M.1.1.1 ∧ 0 ≤ i ∧ i < 0 + N
      · rw [if_pos hh] at hy2
        have := Option.some.inj hy2
        omega
      · rw [if_neg hh] at hy2
        have := h6 b i y hy2
        omega
  obtain ⟨t, a1, b1⟩ := kk F.heap ⟨hrl, ⟨by have := hI.2.1.1; omega, fun x h1 h2 => (hold x (by have := hI.2.1.1; omega)).trans (hI.2.1.2.1 x h1 h2), hI.2.1.2.2⟩, by rw [s1]; have := hI.2.2.1; omega, by rw [s1, r3]; have := hI.2.2.2; omega⟩ F rfl X'
  refine ⟨t, step t ?_, b1⟩
  have e : T.heap.size = B + M.1.1.1 := by rw [hT]; exact hS0
  rw [e]
  exact a1
end SNM
