/-! two plans that one memory holds -/
noncomputable def y_al (M : mm_M) (p : Nat) (s g : x_S) : Prop := PLs2 M p s ∧ PLs2 M p g
section XAL
variable {M : mm_M} {p : Nat} {s g : x_S}
theorem y_al_n (a : PLs2 M p s) (b : PLs2 M p g) : s.1 = g.1 ∧ s.2.1 = g.2.1 ∧ s.2.2.1 = g.2.2.1 := ⟨a.1.2.1.symm.trans b.1.2.1, a.1.2.2.1.symm.trans b.1.2.2.1, a.1.2.2.2.1.symm.trans b.1.2.2.2.1⟩
theorem y_al_r (a : PLs2 M p s) (b : PLs2 M p g) {r : Nat} {k : Int} (h1 : 1 ≤ r) (h5 : r ≤ 5) (k0 : 0 ≤ k) (hk : k < s.2.1) : x_row s r k = x_row g r k :=
  (a.1.2.2.2.2.1 r k.toNat h1 h5 (by omega)).symm.trans (b.1.2.2.2.2.1 r k.toNat h1 h5 (by have := (y_al_n a b).2.1; omega))
theorem y_al_w (a : PLs2 M p s) (b : PLs2 M p g) {r : Nat} {k : Int} (h1 : 6 ≤ r) (h5 : r ≤ 7) (k0 : 0 ≤ k) (hk : k < s.2.2.1) : x_row s r k = x_row g r k :=
  (a.1.2.2.2.2.2 r k.toNat h1 h5 (by omega)).symm.trans (b.1.2.2.2.2.2 r k.toNat h1 h5 (by have := (y_al_n a b).2.2; omega))
end XAL
/-! the question between the law's calls -/
theorem WFP_t {M : mm_M} {p : Nat} {s g : x_S} {P : x_GP} {d : Nat} (a : PLs2 M p s) (b : PLs2 M p g) (H : WFP s P d) : WFP g P d := by
  obtain ⟨n1, n2, n3⟩ := y_al_n a b
  refine ⟨H.1, fun i hi => ?_, H.2.2⟩
  have z := H.2.1 i hi
  unfold GK at z ⊢
  rcases z with ⟨k0, f0, f1, f2, v0, v1⟩ | ⟨k1, w0, w1⟩ | z | z
  · have e2 := y_al_r a b (r := 2) (by decide) (by decide) f0 f1
    have e5 := y_al_r a b (r := 5) (by decide) (by decide) f0 f1
    rw [e2] at f2
    rw [e5] at v1
    exact Or.inl ⟨k0, f0, by omega, f2, v0, v1⟩
  · exact Or.inr (Or.inl ⟨k1, w0, by omega⟩)
  · exact Or.inr (Or.inr (Or.inl z))
  · exact Or.inr (Or.inr (Or.inr z))
noncomputable def x_qnz (M : mm_M) (q : Nat) (P : x_GP) : Prop := 0 ≤ P.2 ∧ P.2 ≤ 40 ∧ (M.2.1 q 4).toInt = P.2 ∧ (M.2.1 77 58).toInt = P.2 ∧ ((M.2.1 77 57).toInt = 0 ∧ P.2 = 0 ∨ (M.2.1 77 57).toInt = 1 ∧ 0 < P.2)
noncomputable def QAL (M : mm_M) : Prop := ∃ (q qz : Nat) (P : x_GP) (s : x_S), M.2.2.2 0 10 = some q ∧ M.2.2.2 0 11 = some qz ∧ q ≠ qz ∧ (q = 67 ∨ q = 72) ∧ (qz = 67 ∨ qz = 72) ∧ x_qnz M q P ∧ (P.2 = 0 ∨ LQc M q P ∧ LQK 0 M P ∧ TPl M s ∧ WFP s P 1)
section QALS
variable {M M1 M2 : mm_M} {p pz q qz : Nat} {P1 P2 : Nat → Nat → Prop}
theorem QAL_ne (hq : g_PQ M p pz q qz) (H : QAL M) : q ≠ qz := by
  obtain ⟨q2, z2, P, s, e1, e2, hne, -⟩ := H
  have eq : q2 = q := Option.some.inj (e1.symm.trans hq.2.2.1)
  have ez : z2 = qz := Option.some.inj (e2.symm.trans hq.2.2.2)
  subst eq
  subst ez
  exact hne
theorem QAL_u {sg : x_S} (hq : g_PQ M p pz q qz) (H : QAL M) (a : PLs2 M p sg) : ∃ P : x_GP, x_qnz M q P ∧ (P.2 = 0 ∨ LQc M q P ∧ WFP sg P 1) ∧ (P.2 = 0 ∨ LQK 0 M P ∧ WFP sg P 1) := by
  obtain ⟨q2, z2, P, s, e1, e2, hne, _, _, hx, hy⟩ := H
  have eq : q2 = q := Option.some.inj (e1.symm.trans hq.2.2.1)
  subst eq
  refine ⟨P, hx, ?_, ?_⟩
  · rcases hy with z | ⟨l1, l2, ⟨p2, hp2, e8, h8⟩, l4⟩
    · exact Or.inl z
    · have ep : p2 = p := Option.some.inj (e8.symm.trans hq.1)
      subst ep
      exact Or.inr ⟨l1, WFP_t h8 a l4⟩
  · rcases hy with z | ⟨l1, l2, ⟨p2, hp2, e8, h8⟩, l4⟩
    · exact Or.inl z
    · have ep : p2 = p := Option.some.inj (e8.symm.trans hq.1)
      subst ep
      exact Or.inr ⟨l2, WFP_t h8 a l4⟩
theorem QAL_g (t : ∀ s : x_S, TPl M s → TPl M1 s) (r10 : M1.2.2.2 0 10 = M.2.2.2 0 10) (r11 : M1.2.2.2 0 11 = M.2.2.2 0 11) (hq : ∀ a i : Nat, (67 ≤ a ∧ a ≤ 70 ∨ 72 ≤ a ∧ a ≤ 75 ∨ 112 ≤ a ∧ a ≤ 114 ∨ a = 77 ∧ 57 ≤ i ∧ i ≤ 58) → M1.2.1 a i = M.2.1 a i) (H : QAL M) : QAL M1 := by
  obtain ⟨q2, z2, P, s, e1, e2, hne, h67, hz67, ⟨x0, x40, x4, x58, x57⟩, hy⟩ := H
  refine ⟨q2, z2, P, s, by rw [r10]; exact e1, by rw [r11]; exact e2, hne, h67, hz67, ⟨x0, x40, ?_, ?_, ?_⟩, ?_⟩
  · rw [hq q2 4 (by omega)]; exact x4
  · rw [hq 77 58 (by omega)]; exact x58
  · rw [hq 77 57 (by omega)]; exact x57
  · rcases hy with z | ⟨l1, l2, l3, l4⟩
    · exact Or.inl z
    · exact Or.inr ⟨LQc_f (fun a i z => hq a i (by omega)) l1, LQK_f (fun r i z _ => hq r i (by omega)) l2, t s l3, l4⟩
theorem QAL_F (F : FR P1 M M1) (h : ∀ a i : Nat, (49 ≤ a ∧ a ≤ 70 ∨ 72 ≤ a ∧ a ≤ 75 ∨ 112 ≤ a ∧ a ≤ 114 ∨ a = 77 ∧ 57 ≤ i ∧ i ≤ 58) → ¬ P1 a i) (H : QAL M) : QAL M1 :=
  QAL_g (fun s h1 => TPl_f (fun a i z => F.2.2 a i (h a i (by omega))) (by rw [F.2.1]) h1) (by rw [F.2.1]) (by rw [F.2.1]) (fun a i z => (F.2.2 a i (h a i (by omega))).1) H
theorem QAL_K (K : M1.2.1 = M.2.1) (kr : M1.2.2.2 = M.2.2.2) (kl : ∀ a i : Nat, a ≠ 125 → M1.2.2.1 a i = M.2.2.1 a i) (H : QAL M) : QAL M1 :=
  QAL_g (fun s h1 => TPl_f (fun a i z => ⟨by rw [K], kl a i (by omega)⟩) (by rw [kr]) h1) (by rw [kr]) (by rw [kr]) (fun a i z => by rw [K]) H
theorem QG_q {G : x_GR} {n h1 h2 r r2 : Int} {A B : x_GP → Prop} (h : h1 = h2) (w1 : n < 0 ∨ h1 < n → r = -2) (w2 : n < 0 ∨ h2 < n → r2 = -2) (a1 : QGN h1 n r G A) (a2 : QGN h2 n r2 G B) : r = r2 ∧ QGR r G A B := by
  subst h
  by_cases g : n < 0 ∨ h1 < n
  · rw [w1 g, w2 g]
    exact ⟨rfl, Or.inl (by decide)⟩
  · have g2 : 0 ≤ n ∧ n ≤ h1 := by omega
    rcases a1 g2 with ⟨f, p, e, er⟩ | ⟨P, e, er, hA⟩
    · rcases a2 g2 with ⟨f2, p9, e2, er2⟩ | ⟨P2, e2, er2, hB⟩
      · exact ⟨by omega, Or.inl (by omega)⟩
      · rw [e] at e2
        cases e2
    · rcases a2 g2 with ⟨f2, p9, e2, er2⟩ | ⟨P2, e2, er2, hB⟩
      · rw [e] at e2
        cases e2
      · have ee : P = P2 := by
          rw [e] at e2
          exact Sum.inr.inj e2
        subst ee
        exact ⟨by omega, Or.inr ⟨P, e, er, hA, hB⟩⟩
/-- a question was read -/
theorem QAL_q {sg : x_S} {t : Nat → Int} {nn : Int} {r r2 : Int} (H : QAL M) (hq : g_PQ M p pz q qz) (h67 : q = 67 ∨ q = 72) (hz67 : qz = 67 ∨ qz = 72) (hp : p = 49 ∨ p = 58) (hs : PLs2 M p sg) (F1 : FRX P1 M M1) (h1 : ∀ a i : Nat, (49 ≤ a ∧ a ≤ 66 ∨ 112 ≤ a ∧ a ≤ 114 ∨ a = 77) → ¬ P1 a i) (r8 : M1.2.2.2 0 8 = M.2.2.2 0 8) (F2 : FR P2 M1 M2) (h2 : ∀ a i : Nat, (49 ≤ a ∧ a ≤ 76) → ¬ P2 a i) (e : r = r2) (an : QGR r (x_gg t nn sg 0 0 0 [] x_P0 (x_sk t nn 0)) (fun P => LQc M1 qz P) (fun P => LQK 0 M2 P)) (n0 : 0 ≤ r → 0 ≤ nn) (kq : (r < 0 → g_PQ M1 p pz q qz ∧ (M1.2.1 q 4).toInt = (M.2.1 q 4).toInt ∧ ∀ Q : x_GP, LQc M q Q → LQc M1 q Q) ∧ (0 ≤ r → g_PQ M1 p pz qz q ∧ (M1.2.1 qz 4).toInt = r)) (kp : ∀ Q : x_GP, r2 < 0 → Q.2 ≤ 40 → LQK 0 M1 Q → LQK 0 M2 Q) (b1 : r2 < 0 → (M2.2.1 77 58).toInt = (M1.2.1 77 58).toInt ∧ (M2.2.1 77 57).toInt = (M1.2.1 77 57).toInt) (b2 : 0 ≤ r2 → (M2.2.1 77 58).toInt = r2 ∧ (M2.2.1 77 57).toInt = 1) (le : r ≤ 40) : QAL M2 := by
  obtain ⟨q2, z2, P, s, e1, e2, hne, _, _, ⟨x0, x40, x4, x58, x57⟩, hx⟩ := H
  have eq : q2 = q := Option.some.inj (e1.symm.trans hq.2.2.1)
  have ez : z2 = qz := Option.some.inj (e2.symm.trans hq.2.2.2)
  subst eq
  subst ez
  have T1 : ∀ s9 : x_S, TPl M s9 → TPl M2 s9 := fun s9 h9 => TPl_f (fun a i z => F2.2.2 a i (h2 a i (by omega))) (by rw [F2.2.1]) (TPl_f (fun a i z => F1.2 a i (h1 a i (by omega))) r8 h9)
  have q58 : M1.2.1 77 58 = M.2.1 77 58 := (F1.2 77 58 (h1 77 58 (by omega))).1
  have q57 : M1.2.1 77 57 = M.2.1 77 57 := (F1.2 77 57 (h1 77 57 (by omega))).1
  by_cases g : r < 0
  · obtain ⟨g1, g2, g3⟩ := kq.1 g
    obtain ⟨b58, b57⟩ := b1 (by omega)
    refine ⟨q2, z2, P, s, by rw [F2.2.1]; exact g1.2.2.1, by rw [F2.2.1]; exact g1.2.2.2, hne, h67, hz67, ⟨x0, x40, ?_, ?_, ?_⟩, ?_⟩
    · rw [(F2.2.2 q2 4 (h2 q2 4 (by omega))).1, g2]
      exact x4
    · rw [b58, q58]
      exact x58
    · rw [b57, q57]
      exact x57
    · rcases hx with z | ⟨l1, l2, l3, l4⟩
      · exact Or.inl z
      · exact Or.inr ⟨LQc_f (fun a i z => (F2.2.2 a i (h2 a i (by omega))).1) (g3 P l1), kp P (by omega) x40 (LQK_f (fun r i z _ => (F1.2 r i (h1 r i (by omega))).1) l2), T1 s l3, l4⟩
  · obtain ⟨P9, ge, re, A, B⟩ := Or.resolve_left an g
    obtain ⟨g1, g2⟩ := kq.2 (by omega)
    obtain ⟨b58, b57⟩ := b2 (by omega)
    have bb : 0 ≤ x_sk t nn 0 ∧ x_sk t nn 0 ≤ nn := x_le (Int.le_refl _) (n0 (by omega))
    have wf : WFP sg P9 1 := g_wf0 hs.1.1 bb.1 bb.2 ge
    have w0 := wf.1
    have pos : 0 < P9.2 := by
      by_cases z : P9.2 = 0
      · have l := wf.2.2
        rw [z] at l
        have l : (0 : Nat) = 1 := l
        omega
      · omega
    refine ⟨z2, q2, P9, sg, by rw [F2.2.1]; exact g1.2.2.1, by rw [F2.2.1]; exact g1.2.2.2, fun z => hne z.symm, hz67, h67, ⟨by omega, by omega, ?_, by omega, Or.inr ⟨b57, pos⟩⟩, Or.inr ⟨LQc_f (fun a i z => (F2.2.2 a i (h2 a i (by omega))).1) A, B, T1 sg ⟨p, hp, hq.1, hs⟩, wf⟩⟩
    rw [(F2.2.2 z2 4 (h2 z2 4 (by omega))).1, g2]
    exact re
/-- a plan was read -/
theorem QAL_n {r r2 : Int} (H : QAL M) (hq : g_PQ M p pz q qz) (h67 : q = 67 ∨ q = 72) (hz67 : qz = 67 ∨ qz = 72) (e : r = r2) (hpp : g_PP M1 p pz q qz) (kq : (r < 0 → (M1.2.1 q 4).toInt = (M.2.1 q 4).toInt ∧ ∀ Q : x_GP, LQc M q Q → LQc M1 q Q) ∧ (0 ≤ r → (M1.2.1 q 4).toInt = 0)) (pf : r < 0 → ∀ s9 : x_S, PLs2 M p s9 → TPl M1 s9) (hk : ∀ a i : Nat, (112 ≤ a ∧ a ≤ 114 ∨ a = 77) → M1.2.1 a i = M.2.1 a i) (F2 : FR P2 M1 M2) (h2 : ∀ a i : Nat, (49 ≤ a ∧ a ≤ 76 ∨ 112 ≤ a ∧ a ≤ 114) → ¬ P2 a i) (b1 : r2 < 0 → (M2.2.1 77 58).toInt = (M1.2.1 77 58).toInt ∧ (M2.2.1 77 57).toInt = (M1.2.1 77 57).toInt) (b2 : 0 ≤ r2 → (M2.2.1 77 58).toInt = 0 ∧ (M2.2.1 77 57).toInt = 0) : QAL M2 := by
  obtain ⟨q2, z2, P, s, e1, e2, hne, _, _, ⟨x0, x40, x4, x58, x57⟩, hx⟩ := H
  have eq : q2 = q := Option.some.inj (e1.symm.trans hq.2.2.1)
  have ez : z2 = qz := Option.some.inj (e2.symm.trans hq.2.2.2)
  subst eq
  subst ez
  have r10 : M1.2.2.2 0 10 = some q2 ∧ M1.2.2.2 0 11 = some z2 := by
    rcases hpp with h | h
    · exact ⟨h.2.2.1, h.2.2.2⟩
    · exact ⟨h.2.2.1, h.2.2.2⟩
  have f4 := (F2.2.2 q2 4 (h2 q2 4 (by omega))).1
  by_cases g : r < 0
  · obtain ⟨g2, g3⟩ := kq.1 g
    obtain ⟨b58, b57⟩ := b1 (by omega)
    refine ⟨q2, z2, P, s, by rw [F2.2.1]; exact r10.1, by rw [F2.2.1]; exact r10.2, hne, h67, hz67, ⟨x0, x40, ?_, ?_, ?_⟩, ?_⟩
    · rw [f4, g2]
      exact x4
    · rw [b58, hk 77 58 (by omega)]
      exact x58
    · rw [b57, hk 77 57 (by omega)]
      exact x57
    · rcases hx with z | ⟨l1, l2, ⟨p2, hp2, e8, h8⟩, l4⟩
      · exact Or.inl z
      · have ep : p2 = p := Option.some.inj (e8.symm.trans hq.1)
        subst ep
        exact Or.inr ⟨LQc_f (fun a i z => (F2.2.2 a i (h2 a i (by omega))).1) (g3 P l1), LQK_f (fun r i z _ => ((F2.2.2 r i (h2 r i (by omega))).1).trans (hk r i (by omega))) l2, TPl_f (fun a i z => F2.2.2 a i (h2 a i (by omega))) (by rw [F2.2.1]) (pf g s h8), l4⟩
  · obtain ⟨b58, b57⟩ := b2 (by omega)
    have k4 := kq.2 (by omega)
    exact ⟨q2, z2, x_P0, s, by rw [F2.2.1]; exact r10.1, by rw [F2.2.1]; exact r10.2, hne, h67, hz67, ⟨Int.le_refl _, (by decide : (0 : Int) ≤ 40), by rw [f4]; exact k4, b58, Or.inl ⟨b57, rfl⟩⟩, Or.inl rfl⟩
end QALS
