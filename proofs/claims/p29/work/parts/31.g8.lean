/-! codes within their fields: between the law's calls -/
noncomputable def x_al (M : mm_M) (p : Nat) (s g : x_S) : Prop := PLs2 M p s ∧ PLs2 M p g
section XAL
variable {M : mm_M} {p : Nat} {s g : x_S}
theorem x_al_n (a : PLs2 M p s) (b : PLs2 M p g) : s.1 = g.1 ∧ s.2.1 = g.2.1 ∧ s.2.2.1 = g.2.2.1 := ⟨a.1.2.1.symm.trans b.1.2.1, a.1.2.2.1.symm.trans b.1.2.2.1, a.1.2.2.2.1.symm.trans b.1.2.2.2.1⟩
theorem x_al_r (a : PLs2 M p s) (b : PLs2 M p g) {r : Nat} {k : Int} (h1 : 1 ≤ r) (h5 : r ≤ 5) (k0 : 0 ≤ k) (hk : k < s.2.1) : x_row s r k = x_row g r k :=
  (a.1.2.2.2.2.1 r k.toNat h1 h5 (by omega)).symm.trans (b.1.2.2.2.2.1 r k.toNat h1 h5 (by have := (x_al_n a b).2.1; omega))
theorem x_al_w (a : PLs2 M p s) (b : PLs2 M p g) {r : Nat} {k : Int} (h1 : 6 ≤ r) (h5 : r ≤ 7) (k0 : 0 ≤ k) (hk : k < s.2.2.1) : x_row s r k = x_row g r k :=
  (a.1.2.2.2.2.2 r k.toNat h1 h5 (by omega)).symm.trans (b.1.2.2.2.2.2 r k.toNat h1 h5 (by have := (x_al_n a b).2.2; omega))
theorem x_al_8 (a : PLs2 M p s) (b : PLs2 M p g) {k : Int} (k0 : 0 ≤ k) (hk : k < s.2.2.1) : x_row s 8 k = x_row g 8 k :=
  (a.2 k.toNat (by omega)).symm.trans (b.2 k.toNat (by have := (x_al_n a b).2.2; omega))
theorem x_G8_t (a : PLs2 M p s) (b : PLs2 M p g) (G : x_G8 s) : x_G8 g := by
  obtain ⟨n1, n2, n3⟩ := x_al_n a b
  refine ⟨fun k k0 k1 => ?_, fun w w0 w1 i hi => ?_⟩
  · rw [← x_al_r a b (by decide) (by decide) k0 (by omega), ← n1]
    exact G.1 k k0 (by omega)
  · have wl : w < s.2.2.1 := by omega
    have a9 := a.1.1.2.2.2.2.2.2.1 w w0 wl
    rw [← x_al_8 a b w0 wl] at hi
    have z := G.2 w w0 wl i hi
    rw [← x_al_w a b (r := 7) (by decide) (by decide) w0 wl, ← x_al_r a b (r := 3) (by decide) (by decide) a9.1 a9.2.1, ← x_al_r a b (r := 4) (by decide) (by decide) a9.1 a9.2.1]
    exact z
theorem x_wd_t (a : PLs2 M p s) (b : PLs2 M p g) {w : Int} (w0 : 0 ≤ w) (wl : w < s.2.2.1) : x_row s 4 (x_row s 7 w) - x_row s 3 (x_row s 7 w) + 1 = x_row g 4 (x_row g 7 w) - x_row g 3 (x_row g 7 w) + 1 := by
  have a9 := a.1.1.2.2.2.2.2.2.1 w w0 wl
  rw [← x_al_w a b (r := 7) (by decide) (by decide) w0 wl, ← x_al_r a b (r := 3) (by decide) (by decide) a9.1 a9.2.1, ← x_al_r a b (r := 4) (by decide) (by decide) a9.1 a9.2.1]
theorem x_v8_t {N N2 : x_N} {ca n : Int} (a : PLs2 M p s) (b : PLs2 M p g) (q : ∀ k : Nat, (k : Int) < n → N2.1 k = N.1 k ∧ N2.2.1 k = N.2.1 k ∧ N2.2.2.1 k = N.2.2.1 k) (V : x_vn s ca N n) (V8 : x_v8 s N n) : x_v8 g N2 n := fun k hk e => by
  obtain ⟨q1, q2, q3⟩ := q k hk
  rw [q1] at e
  have v := (V k hk).2.2.2.2 e
  have v8 := V8 k hk e
  rw [q2, q3, ← x_wd_t a b v.1 v.2]
  exact v8
end XAL
noncomputable def G8 (M : mm_M) : Prop := ∃ (s : x_S) (ca : Int), TPl M s ∧ x_G8 s ∧ x_vn s ca (nnM M) (M.2.1 6 0).toInt ∧ x_v8 s (nnM M) (M.2.1 6 0).toInt
section G8S
variable {M M1 M2 : mm_M} {p pz q qz : Nat} {P P1 P2 : Nat → Nat → Prop}
theorem G8_u {sg : x_S} {NN : x_N} {nz : Int} (H : G8 M) (hq : g_PQ M p pz q qz) (h1 : PLs2 M p sg) (hn : NTc M NN nz) (hz : (M.2.1 6 0).toInt = nz) : x_G8 sg ∧ x_v8 sg NN nz := by
  obtain ⟨s, ca, ⟨p2, hp2, e2, h3⟩, G, V, V8⟩ := H
  have ep : p2 = p := by
    have := hq.1
    rw [e2] at this
    exact Option.some.inj this
  subst ep
  rw [hz] at V V8
  exact ⟨x_G8_t h3 h1 G, x_v8_t h3 h1 (fun k hk => ⟨(hn k hk).1.symm, (hn k hk).2.1.symm, (hn k hk).2.2.1.symm⟩) V V8⟩
theorem G8_g (t : ∀ s : x_S, TPl M s → TPl M1 s) (hn : ∀ a i : Nat, 7 ≤ a ∧ a ≤ 10 → M1.2.1 a i = M.2.1 a i) (h6 : M1.2.1 6 0 = M.2.1 6 0) (H : G8 M) : G8 M1 := by
  obtain ⟨s, ca, a1, a2, a3, a4⟩ := H
  refine ⟨s, ca, t s a1, a2, ?_, ?_⟩
  · rw [nn_f hn, h6]
    exact a3
  · rw [nn_f hn, h6]
    exact a4
theorem G8_F (F : FR P M M1) (h : ∀ a i : Nat, (49 ≤ a ∧ a ≤ 66 ∨ 6 ≤ a ∧ a ≤ 10) → ¬ P a i) (H : G8 M) : G8 M1 :=
  G8_g (fun s h1 => TPl_f (fun a i z => F.2.2 a i (h a i (by omega))) (by rw [F.2.1]) h1) (fun a i z => (F.2.2 a i (h a i (by omega))).1) (F.2.2 6 0 (h 6 0 (by omega))).1 H
theorem G8_X (F : FRX P M M1) (h : ∀ a i : Nat, (49 ≤ a ∧ a ≤ 66 ∨ 6 ≤ a ∧ a ≤ 10) → ¬ P a i) (hr : M1.2.2.2 0 8 = M.2.2.2 0 8) (H : G8 M) : G8 M1 :=
  G8_g (fun s h1 => TPl_f (fun a i z => F.2 a i (h a i (by omega))) hr h1) (fun a i z => (F.2 a i (h a i (by omega))).1) (F.2 6 0 (h 6 0 (by omega))).1 H
theorem G8_K (K : M1.2.1 = M.2.1) (kr : M1.2.2.2 = M.2.2.2) (kl : ∀ a i : Nat, a ≠ 125 → M1.2.2.1 a i = M.2.2.1 a i) (H : G8 M) : G8 M1 :=
  G8_g (fun s h1 => TPl_f (fun a i z => ⟨by rw [K], kl a i (by omega)⟩) (by rw [kr]) h1) (fun a i z => by rw [K]) (by rw [K]) H
theorem G8_p {t : Nat → Int} {nn a : Int} {r : Int} (H : G8 M) (hq : g_PQ M p pz q qz) (pf : r < 0 → ∀ s9 : x_S, PLs2 M p s9 → TPl M1 s9) (ps : 0 ≤ r → ∃ s2 : x_S, x_plan t nn 23 0 x_s0 a = some (r, s2) ∧ TPl M1 s2) (F : FR P2 M1 M2) (h2 : ∀ a i : Nat, (49 ≤ a ∧ a ≤ 66 ∨ a ≤ 10) → ¬ P2 a i) (nf : r < 0 → ∀ a i : Nat, (6 ≤ a ∧ a ≤ 10 ∨ a = 0 ∧ i = 12) → M1.2.1 a i = M.2.1 a i) (z6 : 0 ≤ r → (M1.2.1 6 0).toInt = 0) : G8 M2 := by
  refine G8_F F (fun a i z => h2 a i (by omega)) ?_
  by_cases g : r < 0
  · obtain ⟨s, ca, ⟨p2, hp2, e2, h3⟩, G, V, V8⟩ := H
    have ep : p2 = p := by
      have := hq.1
      rw [e2] at this
      exact Option.some.inj this
    subst ep
    refine ⟨s, ca, pf g s h3, G, ?_, ?_⟩
    · rw [nn_f (fun a i z => nf g a i (by omega)), nf g 6 0 (by omega)]
      exact V
    · rw [nn_f (fun a i z => nf g a i (by omega)), nf g 6 0 (by omega)]
      exact V8
  · obtain ⟨s2, e1, t1⟩ := ps (by omega)
    have G := g8_plan (t := t) (nn := nn) (R := (r, s2)) 23 0 x_s0 a (by decide) (fun _ => rfl) x_G_0 x_G8_0 e1
    refine ⟨s2, 0, t1, G, ?_, ?_⟩
    · rw [z6 (by omega)]
      exact fun k hk => by omega
    · rw [z6 (by omega)]
      exact fun k hk => by omega
theorem G8_n {sg : x_S} {NN : x_N} {nz ca r : Int} {k f g t : Int32} (H : G8 M) (hp : p = 49 ∨ p = 58) (hq : g_PQ M p pz q qz) (hs : PLs2 M p sg) (hn : NTc M NN nz) (hv : x_vn sg ca NN nz) (h6 : (M.2.1 6 0).toInt = nz) (F : FR P1 M M1) (h1 : ∀ a i : Nat, 49 ≤ a ∧ a ≤ 66 → ¬ P1 a i) (nw : NWc M M1 r k f g t) (e : r = -1 ∧ (M1.2.1 6 0).toInt = (M.2.1 6 0).toInt ∨ r = (M.2.1 6 0).toInt ∧ (M1.2.1 6 0).toInt = (M.2.1 6 0).toInt + 1 ∧ 0 ≤ r) (v5 : 0 ≤ r → x_v5 sg ca k f g t) (v : 0 ≤ r → k.toInt = 4 → 0 ≤ g.toInt ∧ x_shz g.toInt (x_row sg 4 (x_row sg 7 f.toInt) - x_row sg 3 (x_row sg 7 f.toInt) + 1) = 0) : G8 M1 := by
  obtain ⟨G, V8⟩ := G8_u H hq hs hn h6
  have tp : TPl M1 sg := TPl_f (fun a i z => F.2.2 a i (h1 a i z)) (by rw [F.2.1]) ⟨p, hp, hq.1, hs⟩
  have nk : ∀ j : Nat, (j : Int) < nz → (nnM M).1 j = NN.1 j ∧ (nnM M).2.1 j = NN.2.1 j ∧ (nnM M).2.2.1 j = NN.2.2.1 j ∧ (nnM M).2.2.2 j = NN.2.2.2 j := fun j hj => hn j hj
  rcases e with ⟨e1, e2⟩ | ⟨e1, e2, e3⟩
  · have w := nw.1 (by omega)
    refine ⟨sg, ca, tp, G, ?_, ?_⟩
    · rw [nn_f w, e2, h6]
      intro j hj
      obtain ⟨a, b, c, d⟩ := nk j hj
      rw [a, b, c, d]
      exact hv j hj
    · rw [nn_f w, e2, h6]
      intro j hj
      obtain ⟨a, b, c, d⟩ := nk j hj
      rw [a, b, c]
      exact V8 j hj
  · obtain ⟨w0, w7, w8, w9, w10⟩ := nw.2 e3
    rw [h6] at w0 w7 w8 w9 w10 e2
    have nj : ∀ j : Nat, (j : Int) < nz → (nnM M1).1 j = NN.1 j ∧ (nnM M1).2.1 j = NN.2.1 j ∧ (nnM M1).2.2.1 j = NN.2.2.1 j ∧ (nnM M1).2.2.2 j = NN.2.2.2 j := fun j hj => by
      obtain ⟨a, b, c, d⟩ := nk j hj
      exact ⟨(w0 7 j (by decide) (by omega)).trans a, (w0 8 j (by decide) (by omega)).trans b, (w0 9 j (by decide) (by omega)).trans c, (w0 10 j (by decide) (by omega)).trans d⟩
    have nl : (nnM M1).1 nz.toNat = k ∧ (nnM M1).2.1 nz.toNat = f ∧ (nnM M1).2.2.1 nz.toNat = g ∧ (nnM M1).2.2.2 nz.toNat = t := ⟨w7, w8, w9, w10⟩
    obtain ⟨l1, l2, l3, l4⟩ := nl
    refine ⟨sg, ca, tp, G, ?_, ?_⟩
    · rw [e2]
      intro j hj
      by_cases y : (j : Int) < nz
      · obtain ⟨a, b, c, d⟩ := nj j y
        rw [a, b, c, d]
        exact hv j y
      · have ej : j = nz.toNat := by omega
        subst ej
        rw [l1, l2, l3, l4]
        exact v5 e3
    · rw [e2]
      intro j hj
      by_cases y : (j : Int) < nz
      · obtain ⟨a, b, c, d⟩ := nj j y
        rw [a, b, c]
        exact V8 j y
      · have ej : j = nz.toNat := by omega
        subst ej
        rw [l1, l2, l3]
        exact v e3
end G8S
