/-! the class's steps, as far as they are read; op are those still open -/
noncomputable def x_kw (k : Int) : Int := if k = 0 then 538561536 else if k = 1 then 351582208 else 40936896
noncomputable def WKc (M : mm_M) (A : x_A) (n : Int) (op : List Int) : Prop := ∀ i : Nat, (i : Int) < n → (A.1 i = 0 ∨ A.1 i = 1 ∨ A.1 i = 2) ∧ (M.2.1 29 i).toInt = x_kw (A.1 i) ∧ (A.1 i = 2 → (M.2.1 34 i).toInt = A.2.1 i) ∧ (¬ (i : Int) ∈ op → (M.2.1 35 i).toInt = A.2.2 i)
theorem WKc_f {M M1 : mm_M} {A : x_A} {n : Int} {op : List Int} (h : ∀ a i, (a = 29 ∨ a = 34 ∨ a = 35) → M1.2.1 a i = M.2.1 a i) (H : WKc M A n op) : WKc M1 A n op := fun i hi => by
  rw [h 29 i (by omega), h 34 i (by omega), h 35 i (by omega)]
  exact H i hi
noncomputable def AGR (A B : x_A) (n : Int) : Prop := ∀ i : Nat, (i : Int) < n → B.1 i = A.1 i ∧ B.2.1 i = A.2.1 i ∧ B.2.2 i = A.2.2 i
theorem AGR_t {A B C : x_A} {n m : Int} (h : AGR A B n) (h2 : AGR B C m) (hm : n ≤ m) : AGR A C n := fun i hi => by
  have a := h i hi
  have b := h2 i (by omega)
  exact ⟨b.1.trans a.1, b.2.1.trans a.2.1, b.2.2.trans a.2.2⟩
theorem x_up_n {f : Nat → Int} {j i : Nat} {v : Int} (h : ¬ i = j) : x_upZ f j v i = f i := by
  unfold x_upZ
  rw [if_neg h]
theorem x_up_y {f : Nat → Int} {j : Nat} {v : Int} : x_upZ f j v j = v := by
  unfold x_upZ
  rw [if_pos rfl]
theorem AGR_1 {A : x_A} {n k : Int} (h : 0 ≤ n) : AGR A (x_k1 A n k) n := fun i hi => ⟨x_up_n (by omega), rfl, x_up_n (by omega)⟩
theorem AGR_2 {A : x_A} {n tm : Int} (h : 0 ≤ n) : AGR A (x_kt A n tm) n := fun i hi => ⟨x_up_n (by omega), x_up_n (by omega), rfl⟩
section WQS
variable {t : Nat → Int} {nn : Int} {s : x_S} {E : x_WR} {M M1 : mm_M} {A B : x_A} {n n1 n2 o a : Int} {op : List Int}
noncomputable def WQ (t : Nat → Int) (nn : Int) (s : x_S) (E : x_WR) (M : mm_M) (A : x_A) (n : Int) (op : List Int) (o : Int) : Prop := ∃ B : x_A, WKc M B (M.2.1 28 7).toInt op ∧ E = x_ww t nn s 0 (M.2.1 28 7).toInt op B (M.2.1 1 9).toInt ∧ AGR A B n ∧ BLKX B n (M.2.1 28 7).toInt o
noncomputable def WA (t : Nat → Int) (nn : Int) (s : x_S) (E : x_WR) (M : mm_M) (A : x_A) (n : Int) (op : List Int) (o : Int) : Prop := ∃ B : x_A, WKc M B (M.2.1 28 7).toInt (n :: op) ∧ E = x_ww t nn s 0 (M.2.1 28 7).toInt op B (M.2.1 1 9).toInt ∧ AGR A B n ∧ (B.1 n.toNat = 2 ∧ 0 ≤ B.2.1 n.toNat ∧ B.2.1 n.toNat ≤ 99 ∧ B.2.2 n.toNat = (M.2.1 28 7).toInt) ∧ o ≤ 4 ∧ BLKX B (n + 1) (M.2.1 28 7).toInt (o + 1)
/-- nothing read yet -/
theorem WQ_0 (H : WKc M A n op) (hn : (M.2.1 28 7).toInt = n) (ha : (M.2.1 1 9).toInt = a) (hE : E = x_ww t nn s 0 n op A a) : WQ t nn s E M A n op o := by
  subst hn; subst ha
  exact ⟨A, H, hE, fun i _ => ⟨rfl, rfl, rfl⟩, 0, rfl⟩
/-- one more step -/
theorem WQ_s (h0 : 0 ≤ n) (h1 : n ≤ n1) (g : AGR A B n) (b : BLKX B n n1 o) (H : WQ t nn s E M1 B n1 op o) : WQ t nn s E M1 A n op o := by
  obtain ⟨C, c1, c2, c3, f2, c4⟩ := H
  obtain ⟨f, b⟩ := b
  refine ⟨C, c1, c2, AGR_t g c3 h1, f + f2, BLK_a f _ _ _ _ h0 (BLK_q f _ _ _ h0 (fun i _ hi => c3 i hi) b) c4 (BLK_le _ _ _ _ c4)⟩
/-- a pass, a join: the step's row of what comes next is written last -/
theorem WQ_p {v : Int32} {k : Int} (hk : k = 0 ∨ k = 1) (h0 : 0 ≤ n) (H : WKc M A n op) (hm : ∀ m ∈ op, m < n) (e29 : (M.2.1 29 n.toNat).toInt = x_kw k) (e7 : (M.2.1 28 7).toInt = n + 1) (W : M1 = mm_setI M 35 n.toNat v) (hv : v.toInt = n + 1) (hE : E = x_ww t nn s 0 (n + 1) op (x_k1 A n k) (M.2.1 1 9).toInt) : WQ t nn s E M1 A n op o := by
  have f7 : M1.2.1 28 7 = M.2.1 28 7 := W_n W (by omega) rfl
  have f9 : M1.2.1 1 9 = M.2.1 1 9 := W_n W (by omega) rfl
  refine ⟨x_k1 A n k, ?_, ?_, AGR_1 h0, 1, ?_⟩
  · rw [f7, e7]
    intro i hi
    rw [show M1.2.1 29 i = M.2.1 29 i from W_n W (by omega) rfl, show M1.2.1 34 i = M.2.1 34 i from W_n W (by omega) rfl]
    by_cases g : i = n.toNat
    · subst g
      have k1 : (x_k1 A n k).1 n.toNat = k := x_up_y
      have k2 : (x_k1 A n k).2.2 n.toNat = n + 1 := x_up_y
      rw [k1, k2]
      refine ⟨by omega, e29, fun z => by omega, fun _ => ?_⟩
      rw [show M1.2.1 35 n.toNat = v from W_e W]
      exact hv
    · have z := H i (by omega)
      have k1 : (x_k1 A n k).1 i = A.1 i := x_up_n g
      have k2 : (x_k1 A n k).2.2 i = A.2.2 i := x_up_n g
      rw [k1, k2, show M1.2.1 35 i = M.2.1 35 i from W_n W (fun z => g z.2) rfl]
      exact z
  · rw [f7, f9, e7]; exact hE
  · rw [f7, e7]
    have k1 : (x_k1 A n k).1 n.toNat = k := x_up_y
    have k2 : (x_k1 A n k).2.2 n.toNat = n + 1 := x_up_y
    exact Or.inr ⟨by omega, Or.inl ⟨by rw [k1]; exact hk, k2, rfl⟩⟩
/-- an again is open: its times are told -/
theorem WKc_t {tm : Int} (h0 : 0 ≤ n) (H : WKc M A n op) (e29 : (M.2.1 29 n.toNat).toInt = x_kw 2) (e34 : (M.2.1 34 n.toNat).toInt = tm) : WKc M (x_kt A n tm) (n + 1) (n :: op) := fun i hi => by
  by_cases g : i = n.toNat
  · subst g
    have k1 : (x_kt A n tm).1 n.toNat = 2 := x_up_y
    have k2 : (x_kt A n tm).2.1 n.toNat = tm := x_up_y
    rw [k1, k2]
    refine ⟨by omega, e29, fun _ => e34, fun z => absurd (by rw [show ((n.toNat : Nat) : Int) = n by omega]; exact List.mem_cons_self) z⟩
  · have z := H i (by omega)
    have k1 : (x_kt A n tm).1 i = A.1 i := x_up_n g
    have k2 : (x_kt A n tm).2.1 i = A.2.1 i := x_up_n g
    rw [k1, k2]
    exact ⟨z.1, z.2.1, z.2.2.1, fun w => z.2.2.2 (fun y => w (List.mem_cons_of_mem _ y))⟩
/-- its bracket is closed -/
theorem WA_i {tm : Int} (h0 : 0 ≤ n) (ho : o ≤ 4) (ht : 0 ≤ tm) (ht2 : tm ≤ 99) (H : WQ t nn s E M (x_kt A n tm) (n + 1) (n :: op) (o + 1)) (k0 : 0 ≤ (M.2.1 1 9).toInt) (k1 : (M.2.1 1 9).toInt ≤ nn) (hs : x_kind t nn (M.2.1 1 9).toInt = 4 ∧ x_val t nn (M.2.1 1 9).toInt = 41) (f : ∀ a i, (a = 29 ∨ a = 34 ∨ a = 35 ∨ a = 28 ∧ i = 7) → M1.2.1 a i = M.2.1 a i) (h9 : (M1.2.1 1 9).toInt = x_ns t nn (M.2.1 1 9).toInt) : WA t nn s E M1 A n op o := by
  obtain ⟨B, b1, b2, b3, g, b4⟩ := H
  have f7 : M1.2.1 28 7 = M.2.1 28 7 := f 28 7 (by omega)
  have q : ∀ i : Nat, ¬ i = n.toNat → (x_ke B n (M.2.1 28 7).toInt).2.2 i = B.2.2 i := fun i hi => x_up_n hi
  have e := b3 n.toNat (by omega)
  have k1 : (x_kt A n tm).1 n.toNat = 2 := x_up_y
  have k2 : (x_kt A n tm).2.1 n.toNat = tm := x_up_y
  refine ⟨x_ke B n (M.2.1 28 7).toInt, ?_, ?_, ?_, ⟨?_, ?_, ?_, ?_⟩, ho, g, ?_⟩
  · rw [f7]
    refine WKc_f (fun a i z => f a i (by omega)) (fun i hi => ?_)
    have z := b1 i hi
    refine ⟨z.1, z.2.1, z.2.2.1, fun w => ?_⟩
    rw [q i (fun y => w (by rw [y, show ((n.toNat : Nat) : Int) = n by omega]; exact List.mem_cons_self))]
    exact z.2.2.2 w
  · rw [f7, h9, b2]
    exact w_cl k0 (by omega) hs
  · intro i hi
    have z := b3 i (by omega)
    have y := AGR_2 (A := A) (tm := tm) h0 i hi
    exact ⟨z.1.trans y.1, z.2.1.trans y.2.1, (q i (by omega)).trans (z.2.2.trans y.2.2)⟩
  · show B.1 n.toNat = 2
    rw [e.1]; exact k1
  · show 0 ≤ B.2.1 n.toNat
    rw [e.2.1, k2]; exact ht
  · show B.2.1 n.toNat ≤ 99
    rw [e.2.1, k2]; exact ht2
  · rw [f7]; exact x_up_y
  · rw [f7]
    exact BLK_q (A := B) g _ _ _ (by omega) (fun i hi _ => ⟨rfl, rfl, q i (by omega)⟩) b4
/-- an again stands: its row of what comes next is written last -/
theorem WQ_a {v : Int32} (h0 : 0 ≤ n) (hn : n < (M.2.1 28 7).toInt) (H : WA t nn s E M A n op o) (hm : ¬ n ∈ op) (W : M1 = mm_setI M 35 n.toNat v) (hv : v.toInt = (M.2.1 28 7).toInt) : WQ t nn s E M1 A n op o := by
  obtain ⟨B, b1, b2, b3, ⟨c1, c2, c3, c4⟩, ho, g, b4⟩ := H
  have f7 : M1.2.1 28 7 = M.2.1 28 7 := W_n W (by omega) rfl
  have f9 : M1.2.1 1 9 = M.2.1 1 9 := W_n W (by omega) rfl
  refine ⟨B, ?_, ?_, b3, g + 1, ?_⟩
  · rw [f7]
    intro i hi
    have z := b1 i hi
    rw [show M1.2.1 29 i = M.2.1 29 i from W_n W (by omega) rfl, show M1.2.1 34 i = M.2.1 34 i from W_n W (by omega) rfl]
    refine ⟨z.1, z.2.1, z.2.2.1, fun w => ?_⟩
    by_cases e : i = n.toNat
    · subst e
      rw [show M1.2.1 35 n.toNat = v from W_e W, hv, c4]
    · rw [show M1.2.1 35 i = M.2.1 35 i from W_n W (fun z => e z.2) rfl]
      refine z.2.2.2 (fun y => ?_)
      rcases List.mem_cons.mp y with y | y
      · omega
      · exact w y
  · rw [f7, f9]; exact b2
  · rw [f7]
    refine Or.inr ⟨hn, Or.inr ⟨c1, ho, c2, c3, ?_, ?_⟩⟩
    · rw [c4]; exact b4
    · rw [c4]
      cases g with
      | zero => rfl
      | succ g => exact Or.inl rfl
end WQS
theorem WKc_w {M M1 : mm_M} {A : x_A} {n : Int} {op : List Int} {v : Int32} {j : Nat} (H : WKc M A n op) (W : M1 = mm_setI M 29 j v) (hj : n ≤ (j : Int)) : WKc M1 A n op := fun i hi => by
  rw [show M1.2.1 29 i = M.2.1 29 i from W_n W (by omega) rfl, show M1.2.1 34 i = M.2.1 34 i from W_n W (by omega) rfl, show M1.2.1 35 i = M.2.1 35 i from W_n W (by omega) rfl]
  exact H i hi
theorem WKc_w2 {M M1 : mm_M} {A : x_A} {n : Int} {op : List Int} {v : Int32} {j : Nat} (H : WKc M A n op) (W : M1 = mm_setI M 34 j v) (hj : n ≤ (j : Int)) : WKc M1 A n op := fun i hi => by
  rw [show M1.2.1 29 i = M.2.1 29 i from W_n W (by omega) rfl, show M1.2.1 34 i = M.2.1 34 i from W_n W (by omega) rfl, show M1.2.1 35 i = M.2.1 35 i from W_n W (by omega) rfl]
  exact H i hi
theorem WQ_e {t : Nat → Int} {nn : Int} {s : x_S} {E E2 : x_WR} {M : mm_M} {A : x_A} {n o : Int} {op : List Int} (e : E = E2) (H : WQ t nn s E2 M A n op o) : WQ t nn s E M A n op o := by rw [e]; exact H
noncomputable def x_A0 : x_A := (fun _ => 0, fun _ => 0, fun _ => 0)
noncomputable def WR98 (E : x_WR) (M : mm_M) : Prop := ∃ B : x_A, WKc M B (M.2.1 28 7).toInt [] ∧ E = .inr ((M.2.1 28 7).toInt, B) ∧ BLKX B 0 (M.2.1 28 7).toInt 0
theorem WR_i {t : Nat → Int} {nn : Int} {s : x_S} {E : x_WR} {M : mm_M} (H : WQ t nn s E M x_A0 0 [] 0) (k0 : 0 ≤ (M.2.1 1 9).toInt) (k1 : (M.2.1 1 9).toInt ≤ nn) (h : x_kind t nn (M.2.1 1 9).toInt = 0) : WR98 E M := by
  obtain ⟨B, b1, b2, b3, b4⟩ := H
  exact ⟨B, b1, b2.trans (w_end k0 k1 h), b4⟩
theorem WR_x {t : Nat → Int} {nn : Int} {s : x_S} {E : x_WR} {M : mm_M} (H : WQ t nn s E M x_A0 0 [] 0) (k0 : 0 ≤ (M.2.1 1 9).toInt) (k1 : (M.2.1 1 9).toInt ≤ nn) (h : ¬ x_kind t nn (M.2.1 1 9).toInt = 1) (h2 : ¬ x_kind t nn (M.2.1 1 9).toInt = 0) : E = .inl (1, (M.2.1 1 9).toInt) := by
  obtain ⟨B, b1, b2, b3, b4⟩ := H
  exact b2.trans (w_1x k0 k1 h h2)
section WAG
variable {t : Nat → Int} {nn dp a : Int} {k : Int → Int → x_WR}
theorem ag_1 (h : ¬ x_kind t nn a = 3) : x_wag t nn dp a k = .inl (1, a) := by
  unfold x_wag
  exact p_nb1 h
theorem ag_2 (h : x_kind t nn a = 3) (h2 : ¬ x_val t nn a ≤ 99) : x_wag t nn dp a k = .inl (2, a) := by
  unfold x_wag
  exact p_nb2 h h2
theorem ag_3 (h : x_kind t nn a = 3) (h2 : x_val t nn a ≤ 99) (h3 : ¬ (x_kind t nn (x_ns t nn a) = 4 ∧ x_val t nn (x_ns t nn a) = 40)) : x_wag t nn dp a k = .inl (1, x_ns t nn a) := by
  unfold x_wag
  rw [p_nb h h2, if_neg h3]
theorem ag_4 (h : x_kind t nn a = 3) (h2 : x_val t nn a ≤ 99) (h3 : x_kind t nn (x_ns t nn a) = 4 ∧ x_val t nn (x_ns t nn a) = 40) (hd : dp = 5) : x_wag t nn dp a k = .inl (2, x_ns t nn a) := by
  unfold x_wag
  rw [p_nb h h2, if_pos h3, if_pos hd]
theorem ag_y (h : x_kind t nn a = 3) (h2 : x_val t nn a ≤ 99) (h3 : x_kind t nn (x_ns t nn a) = 4 ∧ x_val t nn (x_ns t nn a) = 40) (hd : ¬ dp = 5) : x_wag t nn dp a k = k (x_val t nn a) (x_ns t nn (x_ns t nn a)) := by
  unfold x_wag
  rw [p_nb h h2, if_pos h3, if_neg hd]
end WAG
theorem W9_i {M M1 : mm_M} {j : Nat} {n : Int} {v : Int32} (h : j = n.toNat) (W : M1 = mm_setI M 35 j v) : M1 = mm_setI M 35 n.toNat v := by rw [← h]; exact W
theorem WA_e {t : Nat → Int} {nn : Int} {s : x_S} {E E2 : x_WR} {M : mm_M} {A : x_A} {n o : Int} {op : List Int} (e : E = E2) (H : WA t nn s E2 M A n op o) : WA t nn s E M A n op o := by rw [e]; exact H
theorem WC_x {t : Nat → Int} {nn : Int} {s : x_S} {E : x_WR} {M : mm_M} {A : x_A} {n m o : Int} {op : List Int} (H : WQ t nn s E M A n (m :: op) o) (k0 : 0 ≤ (M.2.1 1 9).toInt) (k1 : (M.2.1 1 9).toInt ≤ nn) (h : ¬ x_kind t nn (M.2.1 1 9).toInt = 1) (h2 : ¬ (x_kind t nn (M.2.1 1 9).toInt = 4 ∧ x_val t nn (M.2.1 1 9).toInt = 41)) : E = .inl (1, (M.2.1 1 9).toInt) := by
  obtain ⟨B, b1, b2, b3, b4⟩ := H
  exact b2.trans (w_clx k0 k1 h h2)
/-! the reference's steps, as far as they are read -/
noncomputable def WKr (M : mm_M) (A : x_A) (n : Int) (op : List Int) : Prop := ∀ i : Nat, (i : Int) < n → (A.1 i = 0 ∨ A.1 i = 1 ∨ A.1 i = 2) ∧ (M.2.1 101 i).toInt = A.1 i ∧ (A.1 i = 2 → (M.2.1 102 i).toInt = A.2.1 i) ∧ (A.1 i = 2 → ¬ (i : Int) ∈ op → (M.2.1 105 i).toInt = A.2.2 i)
noncomputable def OPR (f : Nat → Int) : List Int → Prop
  | [] => True
  | o :: os => f os.length = o ∧ OPR f os
theorem OPR_f {f g : Nat → Int} : ∀ op : List Int, (∀ i : Nat, i < op.length → g i = f i) → OPR f op → OPR g op
  | [], _, _ => trivial
  | o :: os, h, H => ⟨(h os.length (by rw [List.length_cons]; omega)).trans H.1, OPR_f os (fun i hi => h i (by rw [List.length_cons]; omega)) H.2⟩
noncomputable def orow (M : mm_M) (j : Nat) : Int := (M.2.1 108 j).toInt
section WSS
variable {t : Nat → Int} {nn : Int} {s : x_S} {E : x_WR} {M M1 : mm_M} {A B : x_A} {n a : Int} {op : List Int}
noncomputable def WS (t : Nat → Int) (nn : Int) (s : x_S) (E : x_WR) (M : mm_M) : Prop := ∃ (op : List Int) (A : x_A), WKr M A (M.2.1 77 44).toInt op ∧ OPR (orow M) op ∧ (op.length : Int) = (M.2.1 77 52).toInt ∧ (∀ m ∈ op, 0 ≤ m ∧ m < (M.2.1 77 44).toInt) ∧ E = x_ww t nn s 0 (M.2.1 77 44).toInt op A (M.2.1 77 10).toInt
theorem w_nx (h0 : 0 ≤ a) (h1 : a ≤ nn) (h : ¬ x_kind t nn a = 1) (h2 : ¬ (x_kind t nn a = 0 ∧ (op.length : Int) = 0)) (h3 : ¬ ((x_kind t nn a = 4 ∧ x_val t nn a = 41) ∧ 0 < (op.length : Int))) : x_ww t nn s 0 n op A a = .inl (1, a) := by
  cases op with
  | nil => exact w_1x h0 h1 h (fun z => h2 ⟨z, rfl⟩)
  | cons o os => exact w_clx h0 h1 h (fun z => h3 ⟨z, by rw [List.length_cons]; omega⟩)
/-- the text is at its end -/
theorem WS_e (H : WS t nn s E M) (k0 : 0 ≤ (M.2.1 77 10).toInt) (k1 : (M.2.1 77 10).toInt ≤ nn) (h : x_kind t nn (M.2.1 77 10).toInt = 0) (ho : (M.2.1 77 52).toInt ≤ 0) : ∃ B : x_A, WKr M B (M.2.1 77 44).toInt [] ∧ E = .inr ((M.2.1 77 44).toInt, B) := by
  obtain ⟨op, B, b1, b2, b3, b4, b5⟩ := H
  cases op with
  | nil => exact ⟨B, b1, b5.trans (w_end k0 k1 h)⟩
  | cons o os =>
    exfalso
    rw [List.length_cons] at b3
    omega
theorem WS_0 (h44 : (M.2.1 77 44).toInt = 0) (h52 : (M.2.1 77 52).toInt = 0) (ha : (M.2.1 77 10).toInt = a) (hE : E = x_ww t nn s 0 0 [] x_A0 a) : WS t nn s E M := by
  refine ⟨[], x_A0, ?_, trivial, ?_, ?_, ?_⟩
  · rw [h44]; exact fun i hi => by exfalso; omega
  · rw [h52]; rfl
  · exact fun m hm => absurd hm List.not_mem_nil
  · rw [h44, ha]; exact hE
/-- a bracket is closed -/
theorem WS_c {v w : Int32} {k : Nat} (H1 : WKr M A n op) (H2 : OPR (orow M) op) (H3 : (op.length : Int) = (M.2.1 77 52).toInt) (H4 : ∀ m ∈ op, 0 ≤ m ∧ m < n) (hE : E = x_ww t nn s 0 n op A a) (k0 : 0 ≤ a) (k1 : a ≤ nn) (hs : x_kind t nn a = 4 ∧ x_val t nn a = 41) (ho : 0 < (M.2.1 77 52).toInt) (hk : (k : Int) = (M.2.1 77 52).toInt - 1) (hv : M.2.1 108 k = v) (f : ∀ r i : Nat, (101 ≤ r ∧ r ≤ 102 ∨ r = 108) → M1.2.1 r i = M.2.1 r i) (f5 : ∀ i : Nat, ¬ i = v.toInt.toNat → M1.2.1 105 i = M.2.1 105 i) (f5e : (M1.2.1 105 v.toInt.toNat).toInt = n) (e44 : (M1.2.1 77 44).toInt = n) (e52 : (M1.2.1 77 52).toInt = (M.2.1 77 52).toInt - 1) (e10 : (M1.2.1 77 10).toInt = x_ns t nn a) : WS t nn s E M1 := by
  cases op with
  | nil =>
    exfalso
    have : ((0 : Nat) : Int) = (M.2.1 77 52).toInt := H3
    omega
  | cons o os =>
    rw [List.length_cons] at H3
    have ek : k = os.length := by omega
    have eo : v.toInt = o := by
      rw [← hv, ek]
      exact H2.1
    have ob := H4 o List.mem_cons_self
    refine ⟨os, x_ke A o n, ?_, ?_, ?_, ?_, ?_⟩
    · rw [e44]
      intro i hi
      have z := H1 i hi
      rw [f 101 i (by omega), f 102 i (by omega)]
      refine ⟨z.1, z.2.1, z.2.2.1, fun w1 w2 => ?_⟩
      by_cases g : i = o.toNat
      · have k2 : (x_ke A o n).2.2 i = n := by rw [g]; exact x_up_y
        rw [k2, g, ← eo]
        exact f5e
      · have k2 : (x_ke A o n).2.2 i = A.2.2 i := x_up_n g
        rw [k2, f5 i (by rw [eo]; exact g)]
        refine z.2.2.2 w1 (fun y => ?_)
        rcases List.mem_cons.mp y with y | y
        · omega
        · exact w2 y
    · exact OPR_f os (fun i _ => by unfold orow; rw [f 108 i (by omega)]) H2.2
    · omega
    · rw [e44]; exact fun m hm => H4 m (List.mem_cons_of_mem _ hm)
    · rw [e44, e10, hE]
      exact w_cl k0 k1 hs
/-- a pass, a join -/
theorem WS_p {k : Int} (hk : k = 0 ∨ k = 1) (h0 : 0 ≤ n) (H1 : WKr M A n op) (H2 : OPR (orow M) op) (H3 : (op.length : Int) = (M.2.1 77 52).toInt) (H4 : ∀ m ∈ op, 0 ≤ m ∧ m < n) (f : ∀ r i : Nat, (101 ≤ r ∧ r ≤ 102) → ¬ i = n.toNat → M1.2.1 r i = M.2.1 r i) (f1 : (M1.2.1 101 n.toNat).toInt = k) (f2 : ∀ r i : Nat, (r = 105 ∨ r = 108) → M1.2.1 r i = M.2.1 r i) (e44 : (M1.2.1 77 44).toInt = n + 1) (e52 : (M1.2.1 77 52).toInt = (M.2.1 77 52).toInt) (hE : E = x_ww t nn s 0 (n + 1) op (x_k1 A n k) (M1.2.1 77 10).toInt) : WS t nn s E M1 := by
  refine ⟨op, x_k1 A n k, ?_, OPR_f op (fun i _ => by unfold orow; rw [f2 108 i (by omega)]) H2, by omega, ?_, ?_⟩
  · rw [e44]
    intro i hi
    by_cases g : i = n.toNat
    · subst g
      have k1 : (x_k1 A n k).1 n.toNat = k := x_up_y
      rw [k1]
      exact ⟨by omega, f1, fun z => by omega, fun z => by omega⟩
    · have z := H1 i (by omega)
      have k1 : (x_k1 A n k).1 i = A.1 i := x_up_n g
      have k2 : (x_k1 A n k).2.2 i = A.2.2 i := x_up_n g
      rw [k1, k2, f 101 i (by omega) g, f 102 i (by omega) g, f2 105 i (by omega)]
      exact z
  · rw [e44]; exact fun m hm => by have := H4 m hm; omega
  · rw [e44]; exact hE
/-- an again is opened -/
theorem WS_a {tm : Int} (h0 : 0 ≤ n) (H1 : WKr M A n op) (H2 : OPR (orow M) op) (H3 : (op.length : Int) = (M.2.1 77 52).toInt) (H4 : ∀ m ∈ op, 0 ≤ m ∧ m < n) (f : ∀ r i : Nat, (101 ≤ r ∧ r ≤ 102) → ¬ i = n.toNat → M1.2.1 r i = M.2.1 r i) (f1 : (M1.2.1 101 n.toNat).toInt = 2) (f2 : (M1.2.1 102 n.toNat).toInt = tm) (f5 : ∀ i : Nat, M1.2.1 105 i = M.2.1 105 i) (f8 : ∀ i : Nat, ¬ (i : Int) = (M.2.1 77 52).toInt → M1.2.1 108 i = M.2.1 108 i) (f8e : (M1.2.1 108 ((M.2.1 77 52).toInt).toNat).toInt = n) (e44 : (M1.2.1 77 44).toInt = n + 1) (e52 : (M1.2.1 77 52).toInt = (M.2.1 77 52).toInt + 1) (hE : E = x_ww t nn s 0 (n + 1) (n :: op) (x_kt A n tm) (M1.2.1 77 10).toInt) : WS t nn s E M1 := by
  refine ⟨n :: op, x_kt A n tm, ?_, ⟨?_, OPR_f op (fun i hi => by unfold orow; rw [f8 i (by omega)]) H2⟩, by rw [List.length_cons]; omega, ?_, ?_⟩
  · rw [e44]
    intro i hi
    by_cases g : i = n.toNat
    · subst g
      have k1 : (x_kt A n tm).1 n.toNat = 2 := x_up_y
      have k2 : (x_kt A n tm).2.1 n.toNat = tm := x_up_y
      rw [k1, k2]
      exact ⟨by omega, f1, fun _ => f2, fun _ z => absurd (by rw [show ((n.toNat : Nat) : Int) = n by omega]; exact List.mem_cons_self) z⟩
    · have z := H1 i (by omega)
      have k1 : (x_kt A n tm).1 i = A.1 i := x_up_n g
      have k2 : (x_kt A n tm).2.1 i = A.2.1 i := x_up_n g
      rw [k1, k2, f 101 i (by omega) g, f 102 i (by omega) g, f5 i]
      exact ⟨z.1, z.2.1, z.2.2.1, fun w1 w2 => z.2.2.2 w1 (fun y => w2 (List.mem_cons_of_mem _ y))⟩
  · show (M1.2.1 108 op.length).toInt = n
    rw [show op.length = ((M.2.1 77 52).toInt).toNat by omega]
    exact f8e
  · rw [e44]
    intro m hm
    rcases List.mem_cons.mp hm with y | y
    · omega
    · have := H4 m y
      omega
  · rw [e44]; exact hE
end WSS
theorem WS_eq {t : Nat → Int} {nn : Int} {s : x_S} {E E2 : x_WR} {M : mm_M} (e : E = E2) (H : WS t nn s E2 M) : WS t nn s E M := by rw [e]; exact H
/-! the reference does the work -/
theorem WKr_f {M M1 : mm_M} {A : x_A} {n : Int} {op : List Int} (h : ∀ a i, (a = 101 ∨ a = 102 ∨ a = 105) → M1.2.1 a i = M.2.1 a i) (H : WKr M A n op) : WKr M1 A n op := fun i hi => by
  rw [h 101 i (by omega), h 102 i (by omega), h 105 i (by omega)]
  exact H i hi
theorem RUN_v {A : x_A} {n a a2 dn dn2 ps ps2 : Int} {k k2 : List (Int × Int)} {R : x_DR} (h1 : a2 = a) (hk : k2 = k) (h2 : dn2 = dn) (h3 : ps2 = ps) (H : RUN A n (a, k, dn, ps) R) : RUN A n (a2, k2, dn2, ps2) R := by
  rw [h1, hk, h2, h3]; exact H
noncomputable def stkr (M : mm_M) : Nat → List (Int × Int)
  | 0 => []
  | k + 1 => ((M.2.1 110 k).toInt, (M.2.1 111 k).toInt) :: stkr M k
theorem stkr_f {M M1 : mm_M} : ∀ k : Nat, (∀ i : Nat, i < k → M1.2.1 110 i = M.2.1 110 i ∧ M1.2.1 111 i = M.2.1 111 i) → stkr M1 k = stkr M k
  | 0, _ => rfl
  | k + 1, h => by
    have e := h k (by omega)
    show _ :: _ = _ :: _
    rw [e.1, e.2, stkr_f k (fun i hi => h i (by omega))]
noncomputable def LKK (M : mm_M) (A : x_A) (n : Int) (k : Nat) : Prop := ∀ j : Nat, j < k → 0 ≤ (M.2.1 110 j).toInt ∧ (M.2.1 110 j).toInt < n ∧ A.1 ((M.2.1 110 j).toInt).toNat = 2
noncomputable def RNK (A : x_A) (n : Int) (M : mm_M) (a : Int) (k : Nat) : Prop := LKK M A n k ∧ ∀ R : x_DR, RUN A n (a, stkr M k, (M.2.1 77 43).toInt, (M.2.1 77 42).toInt) R → RUN A n (0, [], 0, 0) R
section RNKS
variable {A : x_A} {n a a2 dn ps : Int} {M M1 : mm_M} {k k2 : Nat}
theorem RNK_0 (ha : a = 0) (hk : k = 0) (h1 : (M.2.1 77 43).toInt = 0) (h2 : (M.2.1 77 42).toInt = 0) : RNK A n M a k := by
  subst ha; subst hk
  refine ⟨fun j hj => by omega, fun R h => ?_⟩
  rw [h1, h2] at h
  exact h
theorem x_ds_r (W : WKr M A n []) (L : LKK M A n k) (hne : k = 0 ∨ ¬ a = (M.2.1 105 ((M.2.1 110 (k - 1)).toInt).toNat).toInt) : x_ds A n (a, stkr M k, dn, ps) = x_d1 A n (a, stkr M k, dn, ps) := by
  cases k with
  | zero => rfl
  | succ k =>
    have l := L k (by omega)
    have w := W ((M.2.1 110 k).toInt).toNat (by omega)
    have e := w.2.2.2 l.2.2 List.not_mem_nil
    rcases hne with h | h
    · omega
    · rw [show k + 1 - 1 = k by omega, e] at h
      show (if a = A.2.2 ((M.2.1 110 k).toInt).toNat then _ else _) = _
      rw [if_neg h]
theorem RNK_e0 (H : RNK A n M a k) (W : WKr M A n []) (hne : k = 0 ∨ ¬ a = (M.2.1 105 ((M.2.1 110 (k - 1)).toInt).toNat).toInt) (ha : a = n) {r : Int} (hr : r = 0) : RUN A n (0, [], 0, 0) (r, (M.2.1 77 43).toInt, (M.2.1 77 42).toInt) := by
  rw [hr]
  refine H.2 _ (RUN_e ?_)
  rw [x_ds_r W H.1 hne]
  show (if a = n then _ else _) = _
  rw [if_pos ha]
theorem RNK_e1 (H : RNK A n M a k) (W : WKr M A n []) (hne : k = 0 ∨ ¬ a = (M.2.1 105 ((M.2.1 110 (k - 1)).toInt).toNat).toInt) (ha : ¬ a = n) (hd : (M.2.1 77 43).toInt = 3000) {r : Int} (hr : r = 1) : RUN A n (0, [], 0, 0) (r, (M.2.1 77 43).toInt, (M.2.1 77 42).toInt) := by
  rw [hr]
  refine H.2 _ (RUN_e ?_)
  rw [x_ds_r W H.1 hne]
  show (if a = n then _ else if (M.2.1 77 43).toInt = 3000 then _ else _) = _
  rw [if_neg ha, if_pos hd]
theorem LKK_f (h : ∀ i : Nat, i < k → M1.2.1 110 i = M.2.1 110 i) (L : LKK M A n k) : LKK M1 A n k := fun j hj => by
  rw [h j hj]
  exact L j hj
/-- the top of what is open goes on, or is done -/
theorem RNK_lp (H : RNK A n M a (k + 1)) (W : WKr M A n []) (ha : a = (M.2.1 105 ((M.2.1 110 k).toInt).toNat).toInt) (hl : 0 < (M.2.1 111 k).toInt - 1) (f : ∀ i : Nat, M1.2.1 110 i = M.2.1 110 i) (f1 : ∀ i : Nat, i < k → M1.2.1 111 i = M.2.1 111 i) (e1 : (M1.2.1 111 k).toInt = (M.2.1 111 k).toInt - 1) (h43 : (M1.2.1 77 43).toInt = (M.2.1 77 43).toInt) (h42 : (M1.2.1 77 42).toInt = (M.2.1 77 42).toInt) (h2 : a2 = (M.2.1 110 k).toInt + 1) (hk : k2 = k + 1) : RNK A n M1 a2 k2 := by
  subst hk
  have l := H.1 k (by omega)
  have w := W ((M.2.1 110 k).toInt).toNat (by omega)
  have e := w.2.2.2 l.2.2 List.not_mem_nil
  refine ⟨LKK_f (fun i _ => f i) H.1, fun R h => H.2 R ?_⟩
  rw [h43, h42, h2] at h
  have es : stkr M1 (k + 1) = ((M.2.1 110 k).toInt, (M.2.1 111 k).toInt - 1) :: stkr M k := by
    show (_, _) :: _ = _
    rw [f k, e1, stkr_f k (fun i hi => ⟨f i, f1 i hi⟩)]
  rw [es] at h
  exact r_lp (ha.trans e) hl h
theorem RNK_lx (H : RNK A n M a (k + 1)) (W : WKr M A n []) (ha : a = (M.2.1 105 ((M.2.1 110 k).toInt).toNat).toInt) (hl : ¬ 0 < (M.2.1 111 k).toInt - 1) (f : ∀ i : Nat, M1.2.1 110 i = M.2.1 110 i) (f1 : ∀ i : Nat, i < k → M1.2.1 111 i = M.2.1 111 i) (h43 : (M1.2.1 77 43).toInt = (M.2.1 77 43).toInt) (h42 : (M1.2.1 77 42).toInt = (M.2.1 77 42).toInt) (h2 : a2 = a) (hk : k2 = k) : RNK A n M1 a2 k2 := by
  subst hk
  have l := H.1 k2 (by omega)
  have w := W ((M.2.1 110 k2).toInt).toNat (by omega)
  have e := w.2.2.2 l.2.2 List.not_mem_nil
  refine ⟨LKK_f (fun i _ => f i) (fun j hj => H.1 j (by omega)), fun R h => H.2 R ?_⟩
  rw [h43, h42, h2, stkr_f k2 (fun i hi => ⟨f i, f1 i hi⟩)] at h
  exact r_lx (ha.trans e) hl h
/-- a step is done -/
theorem RNK_1 {dp : Int} (H : RNK A n M a k) (W : WKr M A n []) (hne : k = 0 ∨ ¬ a = (M.2.1 105 ((M.2.1 110 (k - 1)).toInt).toNat).toInt) (h0 : 0 ≤ a) (ha : a < n) (hd : ¬ (M.2.1 77 43).toInt = 3000) (hp : (M.2.1 101 a.toNat).toInt = 0 ∧ dp = 1 ∨ (M.2.1 101 a.toNat).toInt = 1 ∧ dp = 0) (f : ∀ r i : Nat, (r = 110 ∨ r = 111) → M1.2.1 r i = M.2.1 r i) (h43 : (M1.2.1 77 43).toInt = (M.2.1 77 43).toInt + 1) (h42 : (M1.2.1 77 42).toInt = (M.2.1 77 42).toInt + dp) (h2 : a2 = a + 1) (hk : k2 = k) : RNK A n M1 a2 k2 := by
  subst hk
  have w := W a.toNat (by omega)
  refine ⟨LKK_f (fun i _ => f 110 i (by omega)) H.1, fun R h => H.2 R ?_⟩
  rw [h43, h42, h2, stkr_f k2 (fun i hi => ⟨f 110 i (by omega), f 111 i (by omega)⟩)] at h
  refine RUN_s ?_ h
  rw [x_ds_r W H.1 hne]
  show (if a = n then _ else if (M.2.1 77 43).toInt = 3000 then _ else if A.1 a.toNat = 0 then _ else if A.1 a.toNat = 1 then _ else _) = _
  rw [if_neg (by omega), if_neg hd]
  rcases hp with ⟨p1, p2⟩ | ⟨p1, p2⟩
  · rw [if_pos (by omega), p2]
  · rw [if_neg (by omega), if_pos (by omega), p2, show (M.2.1 77 42).toInt + 0 = (M.2.1 77 42).toInt by omega]
theorem RNK_a0 (H : RNK A n M a k) (W : WKr M A n []) (hne : k = 0 ∨ ¬ a = (M.2.1 105 ((M.2.1 110 (k - 1)).toInt).toNat).toInt) (h0 : 0 ≤ a) (ha : a < n) (hd : ¬ (M.2.1 77 43).toInt = 3000) (hp : 2 ≤ (M.2.1 101 a.toNat).toInt) (ht : (M.2.1 102 a.toNat).toInt = 0) (f : ∀ r i : Nat, (r = 110 ∨ r = 111) → M1.2.1 r i = M.2.1 r i) (h43 : (M1.2.1 77 43).toInt = (M.2.1 77 43).toInt + 1) (h42 : (M1.2.1 77 42).toInt = (M.2.1 77 42).toInt) (h2 : a2 = (M.2.1 105 a.toNat).toInt) (hk : k2 = k) : RNK A n M1 a2 k2 := by
  subst hk
  have w := W a.toNat (by omega)
  have k2e : A.1 a.toNat = 2 := by omega
  have e := w.2.2.2 k2e List.not_mem_nil
  have tm := w.2.2.1 k2e
  refine ⟨LKK_f (fun i _ => f 110 i (by omega)) H.1, fun R h => H.2 R ?_⟩
  rw [h43, h42, h2, stkr_f k2 (fun i hi => ⟨f 110 i (by omega), f 111 i (by omega)⟩)] at h
  refine RUN_s ?_ h
  rw [x_ds_r W H.1 hne]
  show (if a = n then _ else if (M.2.1 77 43).toInt = 3000 then _ else if A.1 a.toNat = 0 then _ else if A.1 a.toNat = 1 then _ else if A.2.1 a.toNat = 0 then _ else _) = _
  rw [if_neg (by omega), if_neg hd, if_neg (by omega), if_neg (by omega), if_pos (by omega), e]
theorem RNK_a1 (H : RNK A n M a k) (W : WKr M A n []) (hne : k = 0 ∨ ¬ a = (M.2.1 105 ((M.2.1 110 (k - 1)).toInt).toNat).toInt) (h0 : 0 ≤ a) (ha : a < n) (hd : ¬ (M.2.1 77 43).toInt = 3000) (hp : 2 ≤ (M.2.1 101 a.toNat).toInt) (ht : ¬ (M.2.1 102 a.toNat).toInt = 0) (f : ∀ i : Nat, i < k → M1.2.1 110 i = M.2.1 110 i ∧ M1.2.1 111 i = M.2.1 111 i) (e0 : (M1.2.1 110 k).toInt = a) (e1 : (M1.2.1 111 k).toInt = (M.2.1 102 a.toNat).toInt) (h43 : (M1.2.1 77 43).toInt = (M.2.1 77 43).toInt + 1) (h42 : (M1.2.1 77 42).toInt = (M.2.1 77 42).toInt) (h2 : a2 = a + 1) (hk : k2 = k + 1) : RNK A n M1 a2 k2 := by
  subst hk
  have w := W a.toNat (by omega)
  have k2e : A.1 a.toNat = 2 := by omega
  have tm := w.2.2.1 k2e
  refine ⟨fun j hj => ?_, fun R h => H.2 R ?_⟩
  · by_cases g : j = k
    · subst g
      rw [e0]
      exact ⟨h0, ha, k2e⟩
    · rw [(f j (by omega)).1]
      exact H.1 j (by omega)
  · have es : stkr M1 (k + 1) = (a, A.2.1 a.toNat) :: stkr M k := by
      show (_, _) :: _ = _
      rw [e0, e1, tm, stkr_f k f]
    rw [h43, h42, h2, es] at h
    refine RUN_s ?_ h
    rw [x_ds_r W H.1 hne]
    show (if a = n then _ else if (M.2.1 77 43).toInt = 3000 then _ else if A.1 a.toNat = 0 then _ else if A.1 a.toNat = 1 then _ else if A.2.1 a.toNat = 0 then _ else _) = _
    rw [if_neg (by omega), if_neg hd, if_neg (by omega), if_neg (by omega), if_neg (by omega)]
end RNKS
/-! what work answers, on both sides -/
noncomputable def WAN (R : x_WR) (r dn ps : Int) : Prop := (∃ f p : Int, R = .inl (f, p) ∧ r = -1) ∨ (∃ (n : Int) (A : x_A), R = .inr (n, A) ∧ RUN A n (0, [], 0, 0) (r, dn, ps))
theorem WAN_u {R : x_WR} {r dn ps r2 dn2 ps2 : Int} (h : WAN R r dn ps) (g : WAN R r2 dn2 ps2) : r = r2 ∧ (0 ≤ r → dn = dn2 ∧ ps = ps2) := by
  rcases h with ⟨f, p, h1, h2⟩ | ⟨n, A, h1, h2⟩ <;> rcases g with ⟨f2, p2, g1, g2⟩ | ⟨n2, A2, g1, g2⟩
  · exact ⟨by omega, fun z => by omega⟩
  · rw [h1] at g1; cases g1
  · rw [g1] at h1; cases h1
  · rw [h1] at g1
    injection g1 with e
    injection e with e1 e2
    subst e1; subst e2
    have e := RUN_u h2 g2
    injection e with e3 e4
    injection e4 with e5 e6
    exact ⟨e3, fun _ => ⟨e5, e6⟩⟩
theorem WAN_q {R : x_WR} {n h1 h2 r dn ps r2 dn2 ps2 : Int} (e : h1 = h2) (a : n < 0 ∨ h1 < n → r = -2) (b : n < 0 ∨ h2 < n → r2 = -2) (c : 0 ≤ n ∧ n ≤ h1 → WAN R r dn ps) (d : 0 ≤ n ∧ n ≤ h2 → WAN R r2 dn2 ps2) : r = r2 ∧ (0 ≤ r → dn = dn2 ∧ ps = ps2) := by
  subst e
  by_cases g : 0 ≤ n ∧ n ≤ h1
  · exact WAN_u (c g) (d g)
  · have z1 := a (by omega)
    have z2 := b (by omega)
    exact ⟨by omega, fun z => by omega⟩
/-! the class does the work -/
section BX
variable {A : x_A} {b e o : Int}
theorem BLKX_2 (H : BLKX A b e o) (h : b < e) (k : A.1 b.toNat = 2) : o ≤ 4 ∧ 0 ≤ A.2.1 b.toNat ∧ A.2.1 b.toNat ≤ 99 ∧ BLKX A (b + 1) (A.2.2 b.toNat) (o + 1) := by
  obtain ⟨f, H⟩ := H
  cases f with
  | zero =>
    have H : b = e := H
    omega
  | succ f =>
    rcases H with H | ⟨h1, ⟨h2, h3, h4⟩ | ⟨h2, h3, h4, h5, h6, h7⟩⟩
    · omega
    · omega
    · exact ⟨h3, h4, h5, f, h6⟩
theorem BLKX_1 (H : BLKX A b e o) (h : b < e) (k : A.1 b.toNat = 0 ∨ A.1 b.toNat = 1) : A.2.2 b.toNat = b + 1 := by
  obtain ⟨f, H⟩ := H
  cases f with
  | zero =>
    have H : b = e := H
    omega
  | succ f =>
    rcases H with H | ⟨h1, ⟨h2, h3, h4⟩ | ⟨h2, h3, h4, h5, h6, h7⟩⟩
    · omega
    · exact h3
    · omega
theorem BLKX_n (H : BLKX A b e o) (h : b < e) : BLKX A (A.2.2 b.toNat) e o ∧ b + 1 ≤ A.2.2 b.toNat ∧ A.2.2 b.toNat ≤ e := by
  obtain ⟨f, H⟩ := H
  cases f with
  | zero =>
    have H : b = e := H
    omega
  | succ f =>
    rcases H with H | ⟨h1, ⟨h2, h3, h4⟩ | ⟨h2, h3, h4, h5, h6, h7⟩⟩
    · omega
    · have l := BLK_le _ _ _ _ h4
      rw [h3]
      exact ⟨⟨f, h4⟩, by omega, by omega⟩
    · have l := BLK_le _ _ _ _ h6
      have l2 := BLK_le _ _ _ _ h7
      exact ⟨⟨f, h7⟩, by omega, by omega⟩
theorem BLKX_le (H : BLKX A b e o) : b ≤ e := by
  obtain ⟨f, H⟩ := H
  exact BLK_le _ _ _ _ H
theorem BLKX_v {b2 e2 o2 : Int} (h1 : b2 = b) (h2 : e2 = e) (h3 : o2 = o) (H : BLKX A b e o) : BLKX A b2 e2 o2 := by
  rw [h1, h2, h3]; exact H
end BX
theorem x_kw_0 {k : Int} (h : k = 0 ∨ k = 1 ∨ k = 2) (e : x_kw k = 538561536) : k = 0 := by
  unfold x_kw at e
  rcases h with h | h | h
  · exact h
  · rw [if_neg (by omega), if_pos h] at e; omega
  · rw [if_neg (by omega), if_neg (by omega)] at e; omega
theorem x_kw_1 {k : Int} (h : k = 0 ∨ k = 1 ∨ k = 2) (e : x_kw k = 351582208) : k = 1 := by
  unfold x_kw at e
  rcases h with h | h | h
  · rw [if_pos h] at e; omega
  · exact h
  · rw [if_neg (by omega), if_neg (by omega)] at e; omega
theorem x_kw_2 {k : Int} (h : k = 0 ∨ k = 1 ∨ k = 2) (e : ¬ x_kw k = 538561536) (e2 : ¬ x_kw k = 351582208) : k = 2 := by
  unfold x_kw at e e2
  rcases h with h | h | h
  · rw [if_pos h] at e; omega
  · rw [if_neg (by omega), if_pos h] at e2; omega
  · exact h
theorem WKc_k {M : mm_M} {A : x_A} {n B : Int} {v : Int32} (H : WKc M A n []) (h0 : 0 ≤ B) (h1 : B < n) (W : M.2.1 29 B.toNat = v) : v.toInt = x_kw (A.1 B.toNat) := by
  rw [← W]
  exact (H B.toNat (by omega)).2.1
theorem WKc_e {M : mm_M} {A : x_A} {n B : Int} {v : Int32} (H : WKc M A n []) (h0 : 0 ≤ B) (h1 : B < n) (W : M.2.1 35 B.toNat = v) : v.toInt = A.2.2 B.toNat := by
  rw [← W]
  exact (H B.toNat (by omega)).2.2.2 List.not_mem_nil
theorem WKc_m {M : mm_M} {A : x_A} {n B : Int} {v : Int32} (H : WKc M A n []) (h0 : 0 ≤ B) (h1 : B < n) (k : A.1 B.toNat = 2) (W : M.2.1 34 B.toNat = v) : v.toInt = A.2.1 B.toNat := by
  rw [← W]
  exact (H B.toNat (by omega)).2.2.1 k
/-- where an again stands after j times of its steps -/
noncomputable def x_hs (A : x_A) (s j : Int) (k : List (Int × Int)) (dn ps : Int) : x_DS :=
  if A.2.1 s.toNat = 0 then (A.2.2 s.toNat, k, dn, ps) else if j = 0 then (s + 1, (s, A.2.1 s.toNat) :: k, dn, ps) else (A.2.2 s.toNat, (s, A.2.1 s.toNat - j + 1) :: k, dn, ps)
section HSS
variable {A : x_A} {n s j to dn ps : Int} {k : List (Int × Int)} {R : x_DR}
theorem HS_0 (he : x_ec A n k to) (ha : s < to) (hn : to ≤ n) (hd : ¬ dn = 3000) (hk : A.1 s.toNat = 2) (hj : j = 0) {dn2 : Int} (h2 : dn2 = dn + 1) (H : RUN A n (x_hs A s j k dn2 ps) R) : RUN A n (s, k, dn, ps) R := by
  unfold x_hs at H
  by_cases g : A.2.1 s.toNat = 0
  · rw [if_pos g, h2] at H
    exact r_a0 he ha hn hd hk g H
  · rw [if_neg g, if_pos hj, h2] at H
    exact r_a1 he ha hn hd hk g H
theorem HS_i (h0 : 0 ≤ j) (hj : j < A.2.1 s.toNat) (H : RUN A n (s + 1, (s, A.2.1 s.toNat - j) :: k, dn, ps) R) : RUN A n (x_hs A s j k dn ps) R := by
  unfold x_hs
  rw [if_neg (by omega)]
  by_cases g : j = 0
  · rw [if_pos g]
    rw [g, show A.2.1 s.toNat - 0 = A.2.1 s.toNat by omega] at H
    exact H
  · rw [if_neg g]
    refine r_lp rfl (by omega) ?_
    rw [show A.2.1 s.toNat - j + 1 - 1 = A.2.1 s.toNat - j by omega]
    exact H
theorem HS_n (h0 : 0 ≤ j) (hj : j < A.2.1 s.toNat) {j2 : Int} (h2 : j2 = j + 1) (H : RUN A n (x_hs A s j2 k dn ps) R) : RUN A n (A.2.2 s.toNat, (s, A.2.1 s.toNat - j) :: k, dn, ps) R := by
  unfold x_hs at H
  rw [if_neg (by omega), if_neg (by omega), h2, show A.2.1 s.toNat - (j + 1) + 1 = A.2.1 s.toNat - j by omega] at H
  exact H
theorem HS_x (hj : j = A.2.1 s.toNat) (H : RUN A n (A.2.2 s.toNat, k, dn, ps) R) : RUN A n (x_hs A s j k dn ps) R := by
  unfold x_hs
  by_cases g : A.2.1 s.toNat = 0
  · rw [if_pos g]
    exact H
  · rw [if_neg g, if_neg (by omega)]
    exact r_lx rfl (by omega) H
end HSS
theorem RUN_w {A : x_A} {n s j dn dn2 ps ps2 : Int} {k k2 : List (Int × Int)} {R : x_DR} (hk : k2 = k) (h2 : dn2 = dn) (h3 : ps2 = ps) (H : RUN A n (x_hs A s j k dn ps) R) : RUN A n (x_hs A s j k2 dn2 ps2) R := by
  rw [hk, h2, h3]; exact H
theorem RUN_r {A : x_A} {n dn dn2 ps ps2 : Int} {S : x_DS} (h1 : dn2 = dn) (h2 : ps2 = ps) (H : RUN A n S (1, dn, ps)) : RUN A n S (1, dn2, ps2) := by
  rw [h1, h2]; exact H
theorem RUN_r3 {A : x_A} {n r r2 dn ps : Int} {S : x_DS} (h1 : r2 = r) (h2 : r = 0 ∨ r = 1) (H : RUN A n S (r, dn, ps)) : RUN A n S (r2, dn, ps) := by
  rw [h1]; exact H
theorem RUN_z {A : x_A} {n a dn ps : Int} {k : List (Int × Int)} (hk : k = []) (h : a = n) : RUN A n (a, k, dn, ps) (0, dn, ps) := by
  subst hk
  refine RUN_e ?_
  show (if a = n then _ else _) = _
  rw [if_pos h]
/-! the reference's token, without cases -/
theorem RS_k {M : mm_M} {t : Nat → Int} {nn a : Int} (H : RS M t nn) (e : (M.2.1 77 10).toInt = a) : x_kind t nn a = (M.2.1 77 8).toInt ∧ 0 ≤ a ∧ a ≤ nn := by
  have z := RS_u H e
  have b := RS_b H e
  unfold x_R at z
  omega
theorem RS_1 {M : mm_M} {t : Nat → Int} {nn a : Int} (H : RS M t nn) (e : (M.2.1 77 10).toInt = a) (k : (M.2.1 77 8).toInt = 1) : x_kx (x_val t nn a) = (M.2.1 77 9).toInt := by
  have z := RS_u H e
  unfold x_R at z
  omega
theorem RS_2 {M : mm_M} {t : Nat → Int} {nn a : Int} (H : RS M t nn) (e : (M.2.1 77 10).toInt = a) (k : (M.2.1 77 8).toInt = 2) : x_val t nn a = (M.2.1 77 9).toInt := by
  have z := RS_u H e
  unfold x_R at z
  omega
theorem RS_3 {M : mm_M} {t : Nat → Int} {nn a : Int} (H : RS M t nn) (e : (M.2.1 77 10).toInt = a) (k : (M.2.1 77 8).toInt = 3) (h : (M.2.1 77 9).toInt ≤ 99) : x_val t nn a = (M.2.1 77 9).toInt ∧ 0 ≤ x_val t nn a := by
  have z := RS_u H e
  unfold x_R at z
  omega
theorem RS_3x {M : mm_M} {t : Nat → Int} {nn a m : Int} (H : RS M t nn) (e : (M.2.1 77 10).toInt = a) (k : (M.2.1 77 8).toInt = 3) (hm : m ≤ 99) (h : ¬ ((M.2.1 77 9).toInt ≤ m ∧ 0 ≤ (M.2.1 77 9).toInt)) : ¬ x_val t nn a ≤ m := by
  have z := RS_u H e
  unfold x_R at z
  omega
theorem RS_4 {M : mm_M} {t : Nat → Int} {nn a : Int} (H : RS M t nn) (e : (M.2.1 77 10).toInt = a) (k : (M.2.1 77 8).toInt = 4) : x_val t nn a = (M.2.1 77 9).toInt := by
  have z := RS_u H e
  unfold x_R at z
  omega
