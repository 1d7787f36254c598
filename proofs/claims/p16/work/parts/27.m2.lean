/-! ACTS as they are read: what their numbers are, and how the repeated ones are nested -/
abbrev AB_c (w o t h : Int) : Prop := (w = 0 → 0 ≤ o ∧ o ≤ 5 ∧ 0 ≤ t ∧ 0 ≤ h) ∧ (w = 1 → 0 ≤ o ∧ o ≤ 5 ∧ 0 ≤ t ∧ ¬ t = o) ∧ (w = 2 → 0 ≤ o)
noncomputable def AB (M : mm_M) : Prop := ∀ a : Nat, a < 40 → (a : Int) < (M.2.1 77 44).toInt → AB_c (M.2.1 101 a).toInt (M.2.1 102 a).toInt (M.2.1 103 a).toInt (M.2.1 104 a).toInt
abbrev AB_r (a i : Nat) : Prop := a = 77 ∧ i = 44 ∨ 101 ≤ a ∧ a ≤ 104
theorem AB_f {M M1 : mm_M} (h : ∀ a i, AB_r a i → M1.2.1 a i = M.2.1 a i) (H : AB M) : AB M1 := fun a ha hl => by
  rw [h 77 44 (by omega)] at hl
  rw [h 101 a (by omega), h 102 a (by omega), h 103 a (by omega), h 104 a (by omega)]
  exact H a ha hl
theorem AB_0 {M : mm_M} (h : (M.2.1 77 44).toInt = 0) : AB M := fun a _ hl => by omega
theorem AB_k {M M1 : mm_M} {n : Nat} (H : AB M) (hn : (n : Int) = (M.2.1 77 44).toInt) (h44 : (M1.2.1 77 44).toInt = (n : Int) + 1) (hf : ∀ r i : Nat, (101 ≤ r ∧ r ≤ 104) → ¬ i = n → M1.2.1 r i = M.2.1 r i) (hc : AB_c (M1.2.1 101 n).toInt (M1.2.1 102 n).toInt (M1.2.1 103 n).toInt (M1.2.1 104 n).toInt) : AB M1 := fun a ha hl => by
  by_cases e : a = n
  · subst e
    exact hc
  · rw [hf 101 a (by omega) e, hf 102 a (by omega) e, hf 103 a (by omega) e, hf 104 a (by omega) e]
    exact H a ha (by omega)
theorem AB_u {M : mm_M} {A : Int} (H : AB M) (h0 : 0 ≤ A) (h1 : A < (M.2.1 77 44).toInt) (h2 : A < 40) : AB_c (M.2.1 101 A.toNat).toInt (M.2.1 102 A.toNat).toInt (M.2.1 103 A.toNat).toInt (M.2.1 104 A.toNat).toInt := H A.toNat (by omega) (by omega)
/-- a repeated act that is closed -/
noncomputable def cl (M : mm_M) (lev : Nat → Nat) (n : Int) (a : Nat) : Prop := (a : Int) < (M.2.1 105 a).toInt ∧ (M.2.1 105 a).toInt ≤ n ∧ ∀ c : Nat, a < c → (c : Int) < (M.2.1 105 a).toInt → (M.2.1 101 c).toInt = 2 → (M.2.1 105 c).toInt ≤ (M.2.1 105 a).toInt ∧ lev a + 1 ≤ lev c
noncomputable def ST (M : mm_M) : Prop := ∃ lev : Nat → Nat,
  (∀ a : Nat, (a : Int) < (M.2.1 77 44).toInt → (M.2.1 101 a).toInt = 2 → lev a ≤ 4 ∧ ((∃ i : Nat, (i : Int) < (M.2.1 77 52).toInt ∧ (M.2.1 108 i).toInt = a) ∨ (cl M lev (M.2.1 77 44).toInt a ∧ ∀ i : Nat, (i : Int) < (M.2.1 77 52).toInt → (M.2.1 108 i).toInt ≤ a ∨ (M.2.1 105 a).toInt ≤ (M.2.1 108 i).toInt))) ∧
  (∀ i : Nat, (i : Int) < (M.2.1 77 52).toInt → 0 ≤ (M.2.1 108 i).toInt ∧ (M.2.1 108 i).toInt < (M.2.1 77 44).toInt ∧ (M.2.1 101 (M.2.1 108 i).toInt.toNat).toInt = 2 ∧ lev (M.2.1 108 i).toInt.toNat = i ∧ ∀ c : Nat, (M.2.1 108 i).toInt < c → (c : Int) < (M.2.1 77 44).toInt → (M.2.1 101 c).toInt = 2 → i + 1 ≤ lev c) ∧
  (∀ i j : Nat, i < j → (j : Int) < (M.2.1 77 52).toInt → (M.2.1 108 i).toInt < (M.2.1 108 j).toInt)
abbrev ST_r (a i : Nat) : Prop := a = 77 ∧ (i = 44 ∨ i = 52) ∨ a = 101 ∨ a = 105 ∨ a = 108
theorem ST_f {M M1 : mm_M} (h : ∀ a i, ST_r a i → M1.2.1 a i = M.2.1 a i) (H : ST M) : ST M1 := by
  have h1 : ∀ i, M1.2.1 101 i = M.2.1 101 i := fun i => h 101 i (by omega)
  have h5 : ∀ i, M1.2.1 105 i = M.2.1 105 i := fun i => h 105 i (by omega)
  have h8 : ∀ i, M1.2.1 108 i = M.2.1 108 i := fun i => h 108 i (by omega)
  unfold ST cl at H ⊢
  simp only [h1, h5, h8, h 77 44 (by omega), h 77 52 (by omega)]
  exact H
theorem ST_0 {M : mm_M} (h : (M.2.1 77 44).toInt = 0) (h2 : (M.2.1 77 52).toInt = 0) : ST M := ⟨fun _ => 0, fun a hl => absurd hl (by omega), fun i hl => absurd hl (by omega), fun i j _ hl => absurd hl (by omega)⟩
theorem ST_close {M M1 : mm_M} {k : Nat} (H : ST M) (hk : (k : Int) + 1 = (M.2.1 77 52).toInt) (h44 : (M1.2.1 77 44).toInt = (M.2.1 77 44).toInt) (h52 : (M1.2.1 77 52).toInt = (k : Int)) (h101 : ∀ i, M1.2.1 101 i = M.2.1 101 i) (h108 : ∀ i, M1.2.1 108 i = M.2.1 108 i) (h105 : ∀ i, ¬ i = (M.2.1 108 k).toInt.toNat → M1.2.1 105 i = M.2.1 105 i) (h5a : (M1.2.1 105 (M.2.1 108 k).toInt.toNat).toInt = (M.2.1 77 44).toInt) : ST M1 := by
  obtain ⟨lev, H1, H2, H3⟩ := H
  obtain ⟨b1, b2, b3, b4, b5⟩ := H2 k (by omega)
  refine ⟨lev, fun a ha hw => ?_, fun i hi => ?_, fun i j hij hj => ?_⟩
  · rw [h101] at hw
    rw [h44] at ha
    obtain ⟨c1, c2⟩ := H1 a ha hw
    refine ⟨c1, ?_⟩
    by_cases e : a = (M.2.1 108 k).toInt.toNat
    · right
      refine ⟨⟨by rw [e, h5a]; omega, by rw [e, h5a, h44]; omega, fun c hc hce hcw => ?_⟩, fun i hi => ?_⟩
      · rw [e, h5a] at hce ⊢
        rw [h101] at hcw
        have hne : ¬ c = (M.2.1 108 k).toInt.toNat := by omega
        rw [h105 c hne]
        obtain ⟨-, d2⟩ := H1 c hce hcw
        refine ⟨?_, ?_⟩
        · rcases d2 with ⟨i, hi, hie⟩ | ⟨d3, -⟩
          · by_cases z : i = k
            · subst z
              omega
            · have := H3 i k (by omega) (by omega)
              omega
          · exact d3.2.1
        · have := b5 c (by omega) hce hcw
          rw [b4]
          exact this
      · rw [h108]
        left
        have := H3 i k (by omega) (by omega)
        omega
    · rcases c2 with ⟨i, hi, hie⟩ | ⟨d3, d4⟩
      · left
        refine ⟨i, ?_, by rw [h108]; exact hie⟩
        have : ¬ i = k := fun z => e (by rw [← z]; omega)
        omega
      · right
        have d5 := d4 k (by omega)
        refine ⟨⟨by rw [h105 a e]; exact d3.1, by rw [h105 a e, h44]; exact d3.2.1, fun c hc hce hcw => ?_⟩, fun i hi => ?_⟩
        · rw [h105 a e] at hce ⊢
          rw [h101] at hcw
          rw [h105 c (by omega)]
          exact d3.2.2 c hc hce hcw
        · rw [h105 a e, h108]
          exact d4 i (by omega)
  · obtain ⟨g1, g2, g3, g4, g5⟩ := H2 i (by omega)
    rw [h108, h44, h101]
    refine ⟨g1, g2, g3, g4, fun c hc hcn hcw => ?_⟩
    rw [h101] at hcw
    exact g5 c hc hcn hcw
  · rw [h108, h108]
    exact H3 i j hij (by omega)
theorem ST_push {M M1 : mm_M} {n k : Nat} (H : ST M) (hn : (n : Int) = (M.2.1 77 44).toInt) (hk : (k : Int) = (M.2.1 77 52).toInt) (hk4 : k ≤ 4) (h44 : (M1.2.1 77 44).toInt = (n : Int) + 1) (h52 : (M1.2.1 77 52).toInt = (k : Int) + 1) (h101 : ∀ i, ¬ i = n → M1.2.1 101 i = M.2.1 101 i) (h1n : (M1.2.1 101 n).toInt = 2) (h108 : ∀ i, ¬ i = k → M1.2.1 108 i = M.2.1 108 i) (h8k : (M1.2.1 108 k).toInt = (n : Int)) (h105 : ∀ i, M1.2.1 105 i = M.2.1 105 i) : ST M1 := by
  obtain ⟨lev, H1, H2, H3⟩ := H
  refine ⟨fun a => if a = n then k else lev a, fun a ha hw => ?_, fun i hi => ?_, fun i j hij hj => ?_⟩
  · by_cases e : a = n
    · refine ⟨?_, Or.inl ⟨k, by omega, by rw [h8k, e]⟩⟩
      show (if a = n then k else lev a) ≤ 4
      rw [if_pos e]; exact hk4
    · rw [h101 a e] at hw
      obtain ⟨c1, c2⟩ := H1 a (by omega) hw
      refine ⟨?_, ?_⟩
      · show (if a = n then k else lev a) ≤ 4
        rw [if_neg e]; exact c1
      · rcases c2 with ⟨i, hi, hie⟩ | ⟨d3, d4⟩
        · left
          exact ⟨i, by omega, by rw [h108 i (by omega)]; exact hie⟩
        · right
          have d5 := d3.2.1
          refine ⟨⟨by rw [h105]; exact d3.1, by rw [h105]; omega, fun c hc hce hcw => ?_⟩, fun i hi => ?_⟩
          · rw [h105] at hce
            have hcn : ¬ c = n := by omega
            rw [h101 c hcn] at hcw
            rw [h105, h105]
            show _ ∧ (if a = n then k else lev a) + 1 ≤ (if c = n then k else lev c)
            rw [if_neg e, if_neg hcn]
            exact d3.2.2 c hc hce hcw
          · rw [h105]
            by_cases z : i = k
            · subst z
              rw [h8k]
              right; omega
            · rw [h108 i z]
              exact d4 i (by omega)
  · by_cases z : i = k
    · subst z
      rw [h8k, h44]
      refine ⟨by omega, by omega, ?_, ?_, fun c hc hcn _ => absurd hc (by omega)⟩
      · rw [show (n : Int).toNat = n by omega]; exact h1n
      · show (if (n : Int).toNat = n then i else _) = i
        rw [if_pos (by omega)]
    · obtain ⟨g1, g2, g3, g4, g5⟩ := H2 i (by omega)
      rw [h108 i z]
      have hne : ¬ (M.2.1 108 i).toInt.toNat = n := by omega
      refine ⟨g1, by omega, by rw [h101 _ hne]; exact g3, ?_, fun c hc hcn hcw => ?_⟩
      · show (if (M.2.1 108 i).toInt.toNat = n then k else lev (M.2.1 108 i).toInt.toNat) = i
        rw [if_neg hne]; exact g4
      · show i + 1 ≤ (if c = n then k else lev c)
        by_cases ec : c = n
        · rw [if_pos ec]; omega
        · rw [if_neg ec]
          rw [h101 c ec] at hcw
          exact g5 c hc (by omega) hcw
  · by_cases z : j = k
    · subst z
      rw [h8k, h108 i (by omega)]
      have := (H2 i (by omega)).2.1
      omega
    · rw [h108 i (by omega), h108 j z]
      exact H3 i j hij (by omega)
theorem ST_plain {M M1 : mm_M} {n : Nat} (H : ST M) (hn : (n : Int) = (M.2.1 77 44).toInt) (h44 : (M1.2.1 77 44).toInt = (n : Int) + 1) (h52 : (M1.2.1 77 52).toInt = (M.2.1 77 52).toInt) (h101 : ∀ i, ¬ i = n → M1.2.1 101 i = M.2.1 101 i) (h1n : ¬ (M1.2.1 101 n).toInt = 2) (h108 : ∀ i, M1.2.1 108 i = M.2.1 108 i) (h105 : ∀ i, M1.2.1 105 i = M.2.1 105 i) : ST M1 := by
  obtain ⟨lev, H1, H2, H3⟩ := H
  refine ⟨lev, fun a ha hw => ?_, fun i hi => ?_, fun i j hij hj => ?_⟩
  · have e : ¬ a = n := fun z => h1n (by rw [← z]; exact hw)
    rw [h101 a e] at hw
    obtain ⟨c1, c2⟩ := H1 a (by omega) hw
    refine ⟨c1, ?_⟩
    rcases c2 with ⟨i, hi, hie⟩ | ⟨d3, d4⟩
    · left
      exact ⟨i, by omega, by rw [h108]; exact hie⟩
    · right
      have d5 := d3.2.1
      refine ⟨⟨by rw [h105]; exact d3.1, by rw [h105]; omega, fun c hc hce hcw => ?_⟩, fun i hi => ?_⟩
      · rw [h105] at hce
        have hcn : ¬ c = n := by omega
        rw [h101 c hcn] at hcw
        rw [h105, h105]
        exact d3.2.2 c hc hce hcw
      · rw [h105, h108]
        exact d4 i (by omega)
  · obtain ⟨g1, g2, g3, g4, g5⟩ := H2 i (by omega)
    have hne : ¬ (M.2.1 108 i).toInt.toNat = n := by omega
    rw [h108, h101 _ hne]
    refine ⟨g1, by omega, g3, g4, fun c hc hcn hcw => ?_⟩
    have ec : ¬ c = n := fun z => h1n (by rw [← z]; exact hcw)
    rw [h101 c ec] at hcw
    exact g5 c hc (by omega) hcw
  · rw [h108, h108]
    exact H3 i j hij (by omega)
/-! ACTS as they are done: the repetitions begun lie in one another -/
noncomputable def DS (M : mm_M) (lev : Nat → Nat) : Prop := ∀ a : Nat, (a : Int) < (M.2.1 77 44).toInt → (M.2.1 101 a).toInt = 2 → lev a ≤ 4 ∧ cl M lev (M.2.1 77 44).toInt a
noncomputable def LK (M : mm_M) (lev : Nat → Nat) (a : Int) (k : Nat) : Prop := ∀ i : Nat, i < k → (0 ≤ (M.2.1 110 i).toInt ∧ (M.2.1 110 i).toInt < (M.2.1 77 44).toInt) ∧ (M.2.1 101 (M.2.1 110 i).toInt.toNat).toInt = 2 ∧ (M.2.1 110 i).toInt < a ∧ a ≤ (M.2.1 105 (M.2.1 110 i).toInt.toNat).toInt ∧ i ≤ lev (M.2.1 110 i).toInt.toNat ∧ ∀ j : Nat, i < j → j < k → (M.2.1 110 i).toInt < (M.2.1 110 j).toInt ∧ (M.2.1 105 (M.2.1 110 j).toInt.toNat).toInt ≤ (M.2.1 105 (M.2.1 110 i).toInt.toNat).toInt
noncomputable def DK (M : mm_M) (a : Int) (k : Nat) : Prop := ∃ lev : Nat → Nat, DS M lev ∧ LK M lev a k
theorem DK_0 {M : mm_M} {a : Int} (H : ST M) (h : (M.2.1 77 52).toInt ≤ 0) : DK M a 0 := by
  obtain ⟨lev, H1, -, -⟩ := H
  refine ⟨lev, fun b hb hw => ?_, fun i hi => absurd hi (by omega)⟩
  obtain ⟨c1, c2⟩ := H1 b hb hw
  rcases c2 with ⟨i, hi, -⟩ | ⟨c3, -⟩
  · exact absurd hi (by omega)
  · exact ⟨c1, c3⟩
theorem DK_f {M M1 : mm_M} {a : Int} {k : Nat} (h : ∀ r i, (r = 77 ∧ i = 44 ∨ r = 101 ∨ r = 105 ∨ r = 110) → M1.2.1 r i = M.2.1 r i) (H : DK M a k) : DK M1 a k := by
  have h1 : ∀ i, M1.2.1 101 i = M.2.1 101 i := fun i => h 101 i (by omega)
  have h5 : ∀ i, M1.2.1 105 i = M.2.1 105 i := fun i => h 105 i (by omega)
  have h8 : ∀ i, M1.2.1 110 i = M.2.1 110 i := fun i => h 110 i (by omega)
  unfold DK DS LK cl at H ⊢
  simp only [h1, h5, h8, h 77 44 (by omega)]
  exact H
theorem DK_pop {M : mm_M} {a : Int} {k : Nat} (H : DK M a (k + 1)) : DK M a k := by
  obtain ⟨lev, H1, H2⟩ := H
  refine ⟨lev, H1, fun i hi => ?_⟩
  obtain ⟨g1, g2, g3, g4, g5, g6⟩ := H2 i (by omega)
  exact ⟨g1, g2, g3, g4, g5, fun j hij hj => g6 j hij (by omega)⟩
theorem DK_t {M : mm_M} {a : Int} {k : Nat} (H : DK M a (k + 1)) : 0 ≤ (M.2.1 110 k).toInt ∧ (M.2.1 110 k).toInt < (M.2.1 77 44).toInt ∧ (M.2.1 110 k).toInt < a ∧ a ≤ (M.2.1 105 (M.2.1 110 k).toInt.toNat).toInt ∧ (M.2.1 105 (M.2.1 110 k).toInt.toNat).toInt ≤ (M.2.1 77 44).toInt := by
  obtain ⟨lev, H1, H2⟩ := H
  obtain ⟨g1, g2, g3, g4, -, -⟩ := H2 k (by omega)
  obtain ⟨-, c⟩ := H1 _ (by omega) g2
  exact ⟨g1.1, g1.2, g3, g4, c.2.1⟩
theorem DK_dec {M : mm_M} {a b : Int} {k : Nat} (H : DK M a (k + 1)) (hb : b = (M.2.1 110 k).toInt + 1) : DK M b (k + 1) := by
  obtain ⟨lev, H1, H2⟩ := H
  obtain ⟨t1, t2, t3, t4, t5, -⟩ := H2 k (by omega)
  obtain ⟨-, c⟩ := H1 _ (by omega) t2
  have c1 := c.1
  refine ⟨lev, H1, fun i hi => ?_⟩
  obtain ⟨g1, g2, g3, g4, g5, g6⟩ := H2 i hi
  by_cases e : i = k
  · subst e
    exact ⟨g1, g2, by omega, by omega, g5, g6⟩
  · have := g6 k (by omega) (by omega)
    exact ⟨g1, g2, by omega, by omega, g5, g6⟩
theorem DK_in {M : mm_M} {a : Int} {k : Nat} {lev : Nat → Nat} (H2 : LK M lev a k) (hne : k = 0 ∨ a < (M.2.1 105 (M.2.1 110 (k - 1)).toInt.toNat).toInt) (i : Nat) (hi : i < k) : a < (M.2.1 105 (M.2.1 110 i).toInt.toNat).toInt := by
  rcases hne with z | z
  · omega
  · by_cases e : i = k - 1
    · rw [e]; exact z
    · have := (H2 i hi).2.2.2.2.2 (k - 1) (by omega) (by omega)
      omega
theorem DK_next {M : mm_M} {a : Int} {k : Nat} (H : DK M a k) (hne : k = 0 ∨ a < (M.2.1 105 (M.2.1 110 (k - 1)).toInt.toNat).toInt) : DK M (a + 1) k := by
  obtain ⟨lev, H1, H2⟩ := H
  refine ⟨lev, H1, fun i hi => ?_⟩
  have := DK_in H2 hne i hi
  obtain ⟨g1, g2, g3, g4, g5, g6⟩ := H2 i hi
  exact ⟨g1, g2, by omega, by omega, g5, g6⟩
theorem DK_skip {M : mm_M} {a : Int} {k : Nat} (H : DK M a k) (h0 : 0 ≤ a) (hn : a < (M.2.1 77 44).toInt) (hw : (M.2.1 101 a.toNat).toInt = 2) (hne : k = 0 ∨ a < (M.2.1 105 (M.2.1 110 (k - 1)).toInt.toNat).toInt) : DK M (M.2.1 105 a.toNat).toInt k ∧ a < (M.2.1 105 a.toNat).toInt ∧ (M.2.1 105 a.toNat).toInt ≤ (M.2.1 77 44).toInt := by
  obtain ⟨lev, H1, H2⟩ := H
  obtain ⟨-, c⟩ := H1 a.toNat (by omega) hw
  have c1 := c.1
  refine ⟨⟨lev, H1, fun i hi => ?_⟩, by omega, c.2.1⟩
  have z := DK_in H2 hne i hi
  obtain ⟨g1, g2, g3, g4, g5, g6⟩ := H2 i hi
  obtain ⟨-, b⟩ := H1 _ (by omega) g2
  have := b.2.2 a.toNat (by omega) (by omega) hw
  exact ⟨g1, g2, by omega, by omega, g5, g6⟩
theorem DK_lev {M : mm_M} {a : Int} {k : Nat} {lev : Nat → Nat} (H1 : DS M lev) (H2 : LK M lev a k) (h0 : 0 ≤ a) (hw : (M.2.1 101 a.toNat).toInt = 2) (hne : k = 0 ∨ a < (M.2.1 105 (M.2.1 110 (k - 1)).toInt.toNat).toInt) : k ≤ lev a.toNat := by
  by_cases e : k = 0
  · omega
  · have z := DK_in H2 hne (k - 1) (by omega)
    obtain ⟨g1, g2, g3, g4, g5, g6⟩ := H2 (k - 1) (by omega)
    obtain ⟨-, b⟩ := H1 _ (by omega) g2
    have := b.2.2 a.toNat (by omega) (by omega) hw
    omega
theorem DK_le {M : mm_M} {a : Int} {k : Nat} (H : DK M a k) (h0 : 0 ≤ a) (hn : a < (M.2.1 77 44).toInt) (hw : (M.2.1 101 a.toNat).toInt = 2) (hne : k = 0 ∨ a < (M.2.1 105 (M.2.1 110 (k - 1)).toInt.toNat).toInt) : k ≤ 4 := by
  obtain ⟨lev, H1, H2⟩ := H
  have := DK_lev H1 H2 h0 hw hne
  have := (H1 a.toNat (by omega) hw).1
  omega
theorem DK_push {M M1 : mm_M} {a : Int} {k : Nat} (H : DK M a k) (h0 : 0 ≤ a) (hn : a < (M.2.1 77 44).toInt) (hw : (M.2.1 101 a.toNat).toInt = 2) (hne : k = 0 ∨ a < (M.2.1 105 (M.2.1 110 (k - 1)).toInt.toNat).toInt) (hf : ∀ r i, (r = 77 ∧ i = 44 ∨ r = 101 ∨ r = 105 ∨ r = 110 ∧ ¬ i = k) → M1.2.1 r i = M.2.1 r i) (hk : (M1.2.1 110 k).toInt = a) : DK M1 (a + 1) (k + 1) := by
  have h1 : ∀ i, M1.2.1 101 i = M.2.1 101 i := fun i => hf 101 i (by omega)
  have h5 : ∀ i, M1.2.1 105 i = M.2.1 105 i := fun i => hf 105 i (by omega)
  have h44 : M1.2.1 77 44 = M.2.1 77 44 := hf 77 44 (by omega)
  obtain ⟨lev, H1, H2⟩ := H
  have hl := DK_lev H1 H2 h0 hw hne
  obtain ⟨-, c⟩ := H1 a.toNat (by omega) hw
  have c1 := c.1
  refine ⟨lev, ?_, fun i hi => ?_⟩
  · unfold DS cl at H1 ⊢
    simp only [h1, h5, h44]
    exact H1
  · simp only [h1, h5, h44]
    by_cases e : i = k
    · subst e
      rw [hk]
      exact ⟨⟨h0, hn⟩, hw, by omega, by omega, hl, fun j hij hj => absurd hij (by omega)⟩
    · have z := DK_in H2 hne i (by omega)
      obtain ⟨g1, g2, g3, g4, g5, g6⟩ := H2 i (by omega)
      rw [hf 110 i (by omega)]
      obtain ⟨-, b⟩ := H1 _ (by omega) g2
      have hb := b.2.2 a.toNat (by omega) (by omega) hw
      refine ⟨g1, g2, by omega, by omega, g5, fun j hij hj => ?_⟩
      by_cases ej : j = k
      · subst ej
        rw [hk]
        exact ⟨g3, hb.1⟩
      · rw [hf 110 j (by omega)]
        exact g6 j hij (by omega)
/-- how often they are still to be done -/
noncomputable def LSm (M : mm_M) : Nat → Int
  | 0 => 0
  | k + 1 => LSm M k + (M.2.1 111 k).toInt + 1
theorem LSm_nn {M : mm_M} (hG : g_G M) : ∀ k : Nat, 0 ≤ LSm M k ∧ LSm M k ≤ 100 * (k : Int)
  | 0 => ⟨Int.le_refl 0, Int.le_refl 0⟩
  | k + 1 => by
    have h := LSm_nn hG k
    have h2 : 0 ≤ (M.2.1 111 k).toInt ∧ (M.2.1 111 k).toInt ≤ 99 := g_b hG rfl rfl
    show 0 ≤ LSm M k + (M.2.1 111 k).toInt + 1 ∧ LSm M k + (M.2.1 111 k).toInt + 1 ≤ 100 * ((k + 1 : Nat) : Int)
    omega
theorem LSm_f {M M1 : mm_M} : ∀ k : Nat, (∀ i, i < k → M1.2.1 111 i = M.2.1 111 i) → LSm M1 k = LSm M k
  | 0, _ => rfl
  | k + 1, h => by
    show LSm M1 k + (M1.2.1 111 k).toInt + 1 = LSm M k + (M.2.1 111 k).toInt + 1
    rw [LSm_f k (fun i hi => h i (by omega)), h k (by omega)]
theorem LSm_s {M : mm_M} (k : Nat) : LSm M (k + 1) = LSm M k + (M.2.1 111 k).toInt + 1 := rfl
