/-! work: what was wanting -/
theorem x_fn_b6 {s : x_S} {v : Int} (h : x_G s) : -1 ≤ x_fn s 6 v ∧ x_fn s 6 v < 12 ∧ (0 ≤ x_fn s 6 v → x_fn s 6 v < s.2.2.1) := by
  have := x_find_b (g := s.2.2.2.2 6) (v := v) (if 6 ≤ 5 then s.2.1 else s.2.2.1).toNat 0
  rw [if_neg (by decide)] at this
  have h2 := h.2.2.2.2.1
  have h3 := h.2.2.2.2.2.1
  unfold x_fn
  rw [if_neg (by decide)]
  omega
theorem WQ_o {t : Nat → Int} {nn : Int} {s : x_S} {E : x_WR} {M : mm_M} {A : x_A} {n o o2 : Int} {op : List Int} (h : o2 = o) (H : WQ t nn s E M A n op o) : WQ t nn s E M A n op o2 := by rw [h]; exact H
