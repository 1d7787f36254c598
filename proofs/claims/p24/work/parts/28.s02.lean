/-! a question's answer, on both sides -/
theorem q_w {t : Nat → Int} {nn : Int} {s : x_S} {tu br cn a tu2 br2 cn2 a2 : Int} (h : tu = tu2) (h0 : br = br2) (h1 : cn = cn2) (h2 : a = a2) : x_qq t nn s tu br cn a = x_qq t nn s tu2 br2 cn2 a2 := by rw [h, h0, h1, h2]
noncomputable def QAN (R : x_QR) (r : Int) : Prop := (∃ f p : Int, R = .inl (f, p) ∧ r = -1) ∨ R = .inr r
theorem QAN_u {R : x_QR} {r s : Int} (h : QAN R r) (g : QAN R s) : r = s := by
  rcases h with ⟨f, p, h1, h2⟩ | h <;> rcases g with ⟨f2, p2, g1, g2⟩ | g
  · rw [h2, g2]
  · rw [h1] at g; cases g
  · rw [g1] at h; cases h
  · rw [h] at g
    injection g
theorem QAN_q {R : x_QR} {n h1 h2 r s : Int} (e : h1 = h2) (a : n < 0 ∨ h1 < n → r = -2) (b : n < 0 ∨ h2 < n → s = -2) (c : 0 ≤ n ∧ n ≤ h1 → QAN R r) (d : 0 ≤ n ∧ n ≤ h2 → QAN R s) : r = s := by
  subst e
  by_cases g : 0 ≤ n ∧ n ≤ h1
  · exact QAN_u (c g) (d g)
  · rw [a (by omega), b (by omega)]
theorem QE_0 {M : mm_M} (h1 : (M.2.1 77 59).toInt = 0) (h2 : (M.2.1 77 65).toInt = 0) (h3 : (M.2.1 77 69).toInt = 0) : (M.2.1 77 59).toInt + Wo M ((M.2.1 77 65).toInt).toNat = (M.2.1 77 69).toInt := by
  rw [h1, h2, h3]
  rfl
theorem QK_z {M : mm_M} (H : QK M) (hb : (M.2.1 77 67).toInt = 0) (h0 : 0 ≤ (M.2.1 77 65).toInt) (ht : (M.2.1 77 65).toInt = 0 ∨ ((M.2.1 115 (((M.2.1 77 65).toInt).toNat - 1)).toInt = 0 ∨ (M.2.1 115 (((M.2.1 77 65).toInt).toNat - 1)).toInt = 1)) : (M.2.1 77 65).toInt = 0 := by
  by_cases g : (M.2.1 77 65).toInt = 0
  · exact g
  · exfalso
    have e : ((M.2.1 77 65).toInt).toNat - 1 + 1 = ((M.2.1 77 65).toInt).toNat := by omega
    have z1 := H.2.1 (((M.2.1 77 65).toInt).toNat - 1) (by omega)
    have z2 := (Wx_s M (((M.2.1 77 65).toInt).toNat - 1)).1
    have z3 := Wx_b M (((M.2.1 77 65).toInt).toNat - 1)
    have z4 := H.1.1
    rw [e] at z2
    rcases ht with h | h | h
    · exact g h
    · have z5 := (z2 h).2.1
      omega
    · exact z1 h
theorem QE_z {M : mm_M} {c : Int} (e : (M.2.1 77 59).toInt + Wo M ((M.2.1 77 65).toInt).toNat = c) (hz : (M.2.1 77 65).toInt = 0) : (M.2.1 77 59).toInt = c := by
  rw [hz] at e
  have e : (M.2.1 77 59).toInt + 0 = c := e
  omega
/-! a question is asked: bits of cards, values of knots -/
noncomputable def x_btq (f : Nat → Bool) : Nat → Int32
  | 0 => 0
  | n + 1 => if f n = true then x_btq f n ||| ((1 : Int32) <<< Int32.ofInt (n : Int)) else x_btq f n
noncomputable def x_ib (x : Int32) (i : Nat) : Bool := x.toBitVec.getLsbD i
section XBT
variable {f g : Nat → Bool}
theorem x_ib_or {x y : Int32} {i : Nat} : x_ib (x ||| y) i = (x_ib x i || x_ib y i) := by
  unfold x_ib
  rw [Int32.toBitVec_or, BitVec.getLsbD_or]
theorem x_ib_and {x y : Int32} {i : Nat} : x_ib (x &&& y) i = (x_ib x i && x_ib y i) := by
  unfold x_ib
  rw [Int32.toBitVec_and, BitVec.getLsbD_and]
theorem x_ib_xor {x y : Int32} {i : Nat} : x_ib (x ^^^ y) i = (x_ib x i ^^ x_ib y i) := by
  unfold x_ib
  rw [Int32.toBitVec_xor, BitVec.getLsbD_xor]
theorem x_ib_0 {i : Nat} : x_ib 0 i = false := by
  show (0#32).getLsbD i = false
  rw [BitVec.getLsbD_zero]
theorem x_ib_m {i : Nat} (h : i < 32) : x_ib (-1) i = true := by
  unfold x_ib
  rw [show (-1 : Int32).toBitVec = BitVec.allOnes 32 by decide, BitVec.getLsbD_allOnes]
  exact decide_eq_true h
theorem x_ib_ext {x y : Int32} (h : ∀ i : Nat, i < 32 → x_ib x i = x_ib y i) : x = y := Int32.toBitVec.inj (BitVec.eq_of_getLsbD_eq h)
theorem x_ib_o : ∀ h : Fin 32, ((1 : Int32) <<< Int32.ofInt (h.val : Int)).toBitVec = 1#32 <<< h.val := by decide +kernel
theorem x_ib_1 {n i : Nat} (h : n < 32) (hi : i < 32) : x_ib ((1 : Int32) <<< Int32.ofInt (n : Int)) i = decide (i = n) := by
  have e := x_ib_o ⟨n, h⟩
  unfold x_ib
  rw [e, BitVec.getLsbD_shiftLeft, BitVec.getLsbD_one, Bool.eq_iff_iff]
  simp only [Bool.and_eq_true, Bool.not_eq_true', decide_eq_true_eq, decide_eq_false_iff_not]
  omega
theorem x_ib_btq : ∀ (n i : Nat), n ≤ 32 → i < 32 → x_ib (x_btq f n) i = (decide (i < n) && f i)
  | 0, i, _, _ => by
    rw [x_btq, x_ib_0, decide_eq_false (by omega)]
    rfl
  | n + 1, i, hn, hi => by
    have ih := x_ib_btq n i (by omega) hi
    rw [x_btq]
    by_cases g : f n = true
    · rw [if_pos g, x_ib_or, ih, x_ib_1 (by omega) hi]
      by_cases e : i = n
      · subst e
        rw [decide_eq_true (show i = i from rfl), g, decide_eq_true (show i < i + 1 by omega), Bool.or_true]
        rfl
      · rw [decide_eq_false e, Bool.or_false]
        congr 1
        exact decide_eq_decide.mpr (by omega)
    · rw [if_neg g, ih]
      by_cases e : i = n
      · subst e
        rw [Bool.not_eq_true] at g
        rw [g, Bool.and_false, Bool.and_false]
      · congr 1
        exact decide_eq_decide.mpr (by omega)
theorem x_btq_c : ∀ n : Nat, (∀ i : Nat, i < n → f i = g i) → x_btq f n = x_btq g n
  | 0, _ => rfl
  | n + 1, h => by rw [x_btq, x_btq, x_btq_c n (fun i hi => h i (by omega)), h n (by omega)]
theorem x_btq_no {n : Nat} (h : n ≤ 32) : x_btq (fun _ => true) n &&& (x_btq f n ^^^ (-1 : Int32)) = x_btq (fun i => !f i) n := x_ib_ext (fun i hi => by
  rw [x_ib_and, x_ib_xor, x_ib_m hi, x_ib_btq n i h hi, x_ib_btq n i h hi, x_ib_btq n i h hi]
  by_cases e : i < n
  · rw [decide_eq_true e]
    cases f i <;> rfl
  · rw [decide_eq_false e]
    rfl)
theorem x_btq_an {n : Nat} (h : n ≤ 32) : x_btq f n &&& x_btq g n = x_btq (fun i => f i && g i) n := x_ib_ext (fun i hi => by
  rw [x_ib_and, x_ib_btq n i h hi, x_ib_btq n i h hi, x_ib_btq n i h hi]
  cases decide (i < n) <;> cases f i <;> rfl)
theorem x_btq_or {n : Nat} (h : n ≤ 32) : x_btq f n ||| x_btq g n = x_btq (fun i => f i || g i) n := x_ib_ext (fun i hi => by
  rw [x_ib_or, x_ib_btq n i h hi, x_ib_btq n i h hi, x_ib_btq n i h hi]
  cases decide (i < n) <;> cases f i <;> rfl)
theorem x_btq_s {n n2 : Int} {b b2 : Int32} (H : b = x_btq f n.toNat) (h0 : 0 ≤ n) (h2 : n2 = n + 1) (e : b2 = if f n.toNat = true then b ||| ((1 : Int32) <<< Int32.ofInt (n.toNat : Int)) else b) : b2 = x_btq f n2.toNat := by
  rw [show n2.toNat = n.toNat + 1 by omega, x_btq, ← H]
  exact e
theorem x_btq_y {n : Int} {w z b b2 : Int32} (h0 : 0 ≤ n) (t : f n.toNat = true) (e1 : (1 : Int32) <<< w = z) (hw : w.toInt = n) (e2 : b ||| z = b2) : b2 = if f n.toNat = true then b ||| ((1 : Int32) <<< Int32.ofInt (n.toNat : Int)) else b := by
  rw [if_pos t, ← e2, ← e1, show ((n.toNat : Nat) : Int) = n by omega, x_i32 hw]
theorem x_btq_n {n : Int} {b b2 : Int32} (t : ¬ f n.toNat = true) (e : b2 = b) : b2 = if f n.toNat = true then b ||| ((1 : Int32) <<< Int32.ofInt (n.toNat : Int)) else b := by
  rw [if_neg t, e]
theorem x_btq_z {n : Int} {z b b2 : Int32} (t : ¬ f n.toNat = true) (hz : z = 0) (e2 : b ||| z = b2) : b2 = if f n.toNat = true then b ||| ((1 : Int32) <<< Int32.ofInt (n.toNat : Int)) else b := by
  rw [if_neg t, ← e2, hz, Int32.or_zero]
theorem x_btq_00 {n : Int} {b : Int32} (h : n = 0) (hb : b = 0) : b = x_btq f n.toNat := by
  rw [h, hb]
  rfl
end XBT
theorem x_bt_all : ∀ n : Fin 31, ((((1 : Int64) <<< ((Int32.ofInt (n.val : Int)).toInt64 &&& 63)) - 1) <<< ((0 : Int32).toInt64 &&& 63)).toInt32 = x_btq (fun _ => true) n.val := by decide +kernel
theorem al_e {ca : Int} {w v : Int32} {l : Int64} (h0 : 0 ≤ ca) (h1 : ca ≤ 30) (hw : w.toInt = ca) (e1 : ((1 : Int64) <<< (w.toInt64 &&& 63)) - 1 = l) (e2 : (l <<< ((0 : Int32).toInt64 &&& 63)).toInt32 = v) : v = x_btq (fun _ => true) ca.toNat := by
  have z := x_bt_all ⟨ca.toNat, by omega⟩
  simp only [show ((ca.toNat : Nat) : Int) = ca by omega] at z
  rw [← e2, ← e1, x_i32 hw]
  exact z
/-! values of knots -/
noncomputable def x_ev (k : Nat → Int) (V : Nat → Bool) : Nat → Nat → Bool
  | 0, _ => false
  | n + 1, j => if j = n then (if k n = 0 ∨ k n = 1 then V n else if k n = 2 then !x_ev k V n (x_h1 (x_hd k n)).toNat else if k n = 3 then x_ev k V n (x_h2 (x_hd k n)).toNat && x_ev k V n (x_h1 (x_hd k n)).toNat else x_ev k V n (x_h2 (x_hd k n)).toNat || x_ev k V n (x_h1 (x_hd k n)).toNat) else x_ev k V n j
/-- a leaf, by holes or truly -/
noncomputable def x_lh (s : x_S) (K : x_Kn) (P : x_GP) (c i : Nat) : Bool := decide (x_eq (K.1 c &&& (if P.1.1 i = 1 then K.2.2.2 (P.1.2.1 i).toNat else x_cd s (P.1.2.1 i) (P.1.2.2 i))) (if P.1.1 i = 1 then K.2.2.2 (P.1.2.1 i).toNat else x_cd s (P.1.2.1 i) (P.1.2.2 i)) = 1)
noncomputable def x_lt9 (K : x_Kn) (P : x_GP) (c i : Nat) : Bool := if P.1.1 i = 1 then decide (x_hw K c (P.1.2.1 i) = 1) else decide ((K.2.2.1 (8 * c + (P.1.2.1 i).toNat)).toInt = P.1.2.2 i)
noncomputable def x_lf9 (s : x_S) (K : x_Kn) (P : x_GP) (tr : Int) (c i : Nat) : Bool := if tr = 1 then x_lt9 K P c i else x_lh s K P c i
/-- the cards for which knot j holds, when n knots are known -/
noncomputable def x_bx (s : x_S) (K : x_Kn) (P : x_GP) (tr : Int) (ca n j : Nat) : Int32 := x_btq (fun c => x_ev P.1.1 (x_lf9 s K P tr c) n j) ca
noncomputable def x_ans (s : x_S) (K : x_Kn) (P : x_GP) (tr ca : Int) : Int32 := x_bx s K P tr ca.toNat P.2.toNat (P.2.toNat - 1)
noncomputable def AST (f : Nat → Int32) (b : Nat → Int32) : List Int → Prop
  | [] => True
  | o :: os => f os.length = b o.toNat ∧ AST f b os
theorem AST_f {f g : Nat → Int32} {b b2 : Nat → Int32} : ∀ l : List Int, (∀ i : Nat, i < l.length → g i = f i) → (∀ o ∈ l, b2 o.toNat = b o.toNat) → AST f b l → AST g b2 l
  | [], _, _, _ => trivial
  | o :: os, h, h2, H => ⟨(h os.length (by rw [List.length_cons]; omega)).trans (H.1.trans (h2 o List.mem_cons_self).symm), AST_f os (fun i hi => h i (by rw [List.length_cons]; omega)) (fun x hx => h2 x (List.mem_cons_of_mem _ hx)) H.2⟩
theorem x_hd_b {k : Nat → Int} : ∀ n : Nat, ∀ o ∈ x_hd k n, 0 ≤ o ∧ o < (n : Int)
  | 0, o, h => absurd h List.not_mem_nil
  | n + 1, o, h => by
    have ih := x_hd_b (k := k) n
    have t : ∀ l : List Int, (∀ x ∈ l, 0 ≤ x ∧ x < (n : Int)) → ∀ x ∈ l.tail, 0 ≤ x ∧ x < (n : Int) := fun l hl x hx => hl x (List.mem_of_mem_tail hx)
    rw [x_hd] at h
    split at h
    · rcases List.mem_cons.mp h with e | e
      · omega
      · have := ih o e
        omega
    · split at h
      · rcases List.mem_cons.mp h with e | e
        · omega
        · have := t _ ih o e
          omega
      · rcases List.mem_cons.mp h with e | e
        · omega
        · have := t _ (t _ ih) o e
          omega
theorem x_h1_b {k : Nat → Int} {n : Nat} (h : 1 ≤ (x_hd k n).length) : 0 ≤ x_h1 (x_hd k n) ∧ x_h1 (x_hd k n) < (n : Int) := by
  have b := x_hd_b (k := k) n
  unfold x_h1
  cases e : x_hd k n with
  | nil => rw [e] at h; exact absurd h (by decide)
  | cons x xs =>
    rw [e] at b
    exact b x List.mem_cons_self
theorem x_h2_b {k : Nat → Int} {n : Nat} (h : 2 ≤ (x_hd k n).length) : 0 ≤ x_h2 (x_hd k n) ∧ x_h2 (x_hd k n) < (n : Int) := by
  have b := x_hd_b (k := k) n
  unfold x_h2
  cases e : x_hd k n with
  | nil => rw [e] at h; exact absurd h (by decide)
  | cons x xs =>
    rw [e] at h b
    cases xs with
    | nil => exact absurd h (fun z => by have z : (2 : Nat) ≤ 0 + 1 := z; omega)
    | cons y ys => exact b y (List.mem_cons_of_mem _ List.mem_cons_self)
section EVS
variable {k : Nat → Int} {V : Nat → Bool} {n : Nat}
theorem x_ev_o {j : Nat} (h : ¬ j = n) : x_ev k V (n + 1) j = x_ev k V n j := by rw [x_ev, if_neg h]
theorem x_ev_l (h : k n = 0 ∨ k n = 1) : x_ev k V (n + 1) n = V n := by rw [x_ev, if_pos rfl, if_pos h]
theorem x_ev_2 (h : k n = 2) : x_ev k V (n + 1) n = !x_ev k V n (x_h1 (x_hd k n)).toNat := by rw [x_ev, if_pos rfl, if_neg (by omega), if_pos h]
theorem x_ev_3 (h : k n = 3) : x_ev k V (n + 1) n = (x_ev k V n (x_h2 (x_hd k n)).toNat && x_ev k V n (x_h1 (x_hd k n)).toNat) := by rw [x_ev, if_pos rfl, if_neg (by omega), if_neg (by omega), if_pos h]
theorem x_ev_4 (h : k n = 4) : x_ev k V (n + 1) n = (x_ev k V n (x_h2 (x_hd k n)).toNat || x_ev k V n (x_h1 (x_hd k n)).toNat) := by rw [x_ev, if_pos rfl, if_neg (by omega), if_neg (by omega), if_neg (by omega)]
end EVS
section ASS
variable {s : x_S} {K : x_Kn} {P : x_GP} {tr : Int} {ca n : Nat} {f g : Nat → Int32}
theorem x_bx_o {j : Nat} (h : ¬ j = n) : x_bx s K P tr ca (n + 1) j = x_bx s K P tr ca n j := x_btq_c ca (fun c _ => x_ev_o h)
theorem AST_o {l : List Int} (b : ∀ o ∈ l, 0 ≤ o ∧ o < (n : Int)) (h : ∀ i : Nat, i < l.length → g i = f i) (H : AST f (x_bx s K P tr ca n) l) : AST g (x_bx s K P tr ca (n + 1)) l := AST_f l h (fun o ho => x_bx_o (by have := b o ho; omega)) H
theorem AST_t {b : Nat → Int32} : ∀ l : List Int, AST f b l → AST f b l.tail
  | [], _ => trivial
  | _ :: _, H => H.2
theorem bt_t {l : List Int} {m : Int} (b : ∀ o ∈ l, 0 ≤ o ∧ o < m) : ∀ o ∈ l.tail, 0 ≤ o ∧ o < m := fun o ho => b o (List.mem_of_mem_tail ho)
/-- a leaf comes onto the stack -/
theorem AST_l {v : Int32} (hk : P.1.1 n = 0 ∨ P.1.1 n = 1) (H : AST f (x_bx s K P tr ca n) (x_hd P.1.1 n)) (h : ∀ i : Nat, i < (x_hd P.1.1 n).length → g i = f i) (e : g (x_hd P.1.1 n).length = v) (hv : v = x_btq (fun c => x_lf9 s K P tr c n) ca) : AST g (x_bx s K P tr ca (n + 1)) (x_hd P.1.1 (n + 1)) := by
  rw [x_hd, if_pos hk]
  refine ⟨?_, AST_o (x_hd_b n) h H⟩
  rw [e, hv]
  exact x_btq_c ca (fun c _ => (x_ev_l hk).symm)
theorem AST_1 {b : Nat → Int32} {l : List Int} (h : 1 ≤ l.length) (H : AST f b l) : f (l.length - 1) = b (x_h1 l).toNat := by
  cases l with
  | nil => exact absurd h (by decide)
  | cons x xs => exact H.1
theorem AST_2 {b : Nat → Int32} {l : List Int} (h : 2 ≤ l.length) (H : AST f b l) : f (l.length - 2) = b (x_h2 l).toNat := by
  cases l with
  | nil => exact absurd h (by decide)
  | cons x xs =>
    cases xs with
    | nil => exact absurd h (fun z => by have z : (2 : Nat) ≤ 0 + 1 := z; omega)
    | cons y ys => exact H.2.1
theorem AST_n {v w all : Int32} (hk : P.1.1 n = 2) (hl : 1 ≤ (x_hd P.1.1 n).length) (hc : ca ≤ 32) (H : AST f (x_bx s K P tr ca n) (x_hd P.1.1 n)) (h : ∀ i : Nat, i < (x_hd P.1.1 n).length - 1 → g i = f i) (e : g ((x_hd P.1.1 n).length - 1) = v) (ha : all = x_btq (fun _ => true) ca) (hw : f ((x_hd P.1.1 n).length - 1) = w) (hv : all &&& (w ^^^ (-1 : Int32)) = v) : AST g (x_bx s K P tr ca (n + 1)) (x_hd P.1.1 (n + 1)) := by
  have l1 : (x_hd P.1.1 n).tail.length = (x_hd P.1.1 n).length - 1 := List.length_tail
  rw [x_hd, if_neg (by omega), if_pos hk]
  refine ⟨?_, AST_o (bt_t (x_hd_b n)) (fun i hi => h i (by omega)) (AST_t _ H)⟩
  rw [l1, e, ← hv, ha, ← hw, AST_1 hl H]
  unfold x_bx
  rw [x_btq_no hc]
  refine x_btq_c ca (fun c _ => ?_)
  rw [show ((n : Int)).toNat = n by omega, x_ev_2 hk]
theorem AST_b {v w u : Int32} {op : Bool → Bool → Bool} (hk : P.1.1 n = 3 ∨ P.1.1 n = 4) (hl : 2 ≤ (x_hd P.1.1 n).length) (H : AST f (x_bx s K P tr ca n) (x_hd P.1.1 n)) (h : ∀ i : Nat, i < (x_hd P.1.1 n).length - 2 → g i = f i) (e : g ((x_hd P.1.1 n).length - 2) = v) (hu : f ((x_hd P.1.1 n).length - 2) = u) (hw : f ((x_hd P.1.1 n).length - 1) = w) (hc : ca ≤ 32) (hv : P.1.1 n = 3 ∧ u &&& w = v ∨ P.1.1 n = 4 ∧ u ||| w = v) : AST g (x_bx s K P tr ca (n + 1)) (x_hd P.1.1 (n + 1)) := by
  have l1 : (x_hd P.1.1 n).tail.length = (x_hd P.1.1 n).length - 1 := List.length_tail
  have l2 : (x_hd P.1.1 n).tail.tail.length = (x_hd P.1.1 n).tail.length - 1 := List.length_tail
  rw [x_hd, if_neg (by omega), if_neg (by omega)]
  refine ⟨?_, AST_o (bt_t (bt_t (x_hd_b n))) (fun i hi => h i (by omega)) (AST_t _ (AST_t _ H))⟩
  rw [show (x_hd P.1.1 n).tail.tail.length = (x_hd P.1.1 n).length - 2 by omega, e]
  rw [AST_2 hl H] at hu
  rw [AST_1 (by omega) H] at hw
  rcases hv with ⟨k3, hv⟩ | ⟨k4, hv⟩
  · rw [← hv, ← hu, ← hw]
    unfold x_bx
    rw [x_btq_an hc]
    refine x_btq_c ca (fun c _ => ?_)
    rw [show ((n : Int)).toNat = n by omega, x_ev_3 k3]
  · rw [← hv, ← hu, ← hw]
    unfold x_bx
    rw [x_btq_or hc]
    refine x_btq_c ca (fun c _ => ?_)
    rw [show ((n : Int)).toNat = n by omega, x_ev_4 k4]
/-- at the end there is one, the last knot -/
theorem AST_e {m : Nat} {v : Int32} (hm : m = n + 1) (hl : (x_hd P.1.1 m).length = 1) (H : AST f (x_bx s K P tr ca m) (x_hd P.1.1 m)) (e : f 0 = v) : v = x_bx s K P tr ca m (m - 1) := by
  subst hm
  have q : ∃ t : List Int, x_hd P.1.1 (n + 1) = (n : Int) :: t := by
    rw [x_hd]
    split
    · exact ⟨_, rfl⟩
    · split
      · exact ⟨_, rfl⟩
      · exact ⟨_, rfl⟩
  obtain ⟨t, ht⟩ := q
  rw [ht] at hl H
  rw [List.length_cons] at hl
  have z := H.1
  rw [show t.length = 0 by omega, e] at z
  rw [z]
  rfl
end ASS
theorem dec_y {a : Int} (h : a = 1) : decide (a = 1) = true := decide_eq_true h
theorem dec_n {a : Int} (h : ¬ a = 1) : ¬ decide (a = 1) = true := by
  rw [decide_eq_true_eq]
  exact h
section LEAVES
variable {s : x_S} {K : x_Kn} {P : x_GP} {c i : Nat} {tr : Int}
theorem lh_y {h : Int64} (hh : h = (if P.1.1 i = 1 then K.2.2.2 (P.1.2.1 i).toNat else x_cd s (P.1.2.1 i) (P.1.2.2 i))) (y : x_eq (K.1 c &&& h) h = 1) : x_lh s K P c i = true := by
  unfold x_lh
  rw [← hh]
  exact dec_y y
theorem lh_n {h : Int64} (hh : h = (if P.1.1 i = 1 then K.2.2.2 (P.1.2.1 i).toNat else x_cd s (P.1.2.1 i) (P.1.2.2 i))) (y : ¬ x_eq (K.1 c &&& h) h = 1) : ¬ x_lh s K P c i = true := by
  unfold x_lh
  rw [← hh]
  exact dec_n y
theorem hh_w {v : Int} {l : Int64} (k : P.1.1 i = 1) (e : v = P.1.2.1 i) (z : l = K.2.2.2 v.toNat) : l = (if P.1.1 i = 1 then K.2.2.2 (P.1.2.1 i).toNat else x_cd s (P.1.2.1 i) (P.1.2.2 i)) := by
  rw [if_pos k, z, e]
theorem hh_v {f v : Int} {l : Int64} (k : P.1.1 i = 0) (e : f = P.1.2.1 i) (e2 : v = P.1.2.2 i) (z : l = x_cd s f v) : l = (if P.1.1 i = 1 then K.2.2.2 (P.1.2.1 i).toNat else x_cd s (P.1.2.1 i) (P.1.2.2 i)) := by
  rw [if_neg (by omega), z, e, e2]
theorem lt_w {w n : Int} (k : P.1.1 i = 1) (e : w = P.1.2.1 i) (z : x_hw K c w = n) : x_lt9 K P c i = true ↔ n = 1 := by
  unfold x_lt9
  rw [if_pos k, ← e, z, decide_eq_true_eq]
theorem lt_v {v : Int32} {f : Int} {u : Int} (k : P.1.1 i = 0) (e : f = P.1.2.1 i) (z : v = K.2.2.1 (8 * c + f.toNat)) (hu : u = P.1.2.2 i) : x_lt9 K P c i = true ↔ v.toInt = u := by
  unfold x_lt9
  rw [if_neg (by omega), decide_eq_true_eq, z, e, hu]
theorem lf_1 (h : tr = 1) : x_lf9 s K P tr c i = x_lt9 K P c i := by
  unfold x_lf9
  rw [if_pos h]
theorem lf_0 (h : ¬ tr = 1) : x_lf9 s K P tr c i = x_lh s K P c i := by
  unfold x_lf9
  rw [if_neg h]
theorem bt_1 {ca : Nat} {v : Int32} (h : tr = 1) (e : v = x_btq (fun c => x_lt9 K P c i) ca) : v = x_btq (fun c => x_lf9 s K P tr c i) ca := by
  rw [e]
  exact x_btq_c ca (fun c _ => (lf_1 h).symm)
theorem bt_0 {ca : Nat} {v : Int32} (h : ¬ tr = 1) (e : v = x_btq (fun c => x_lh s K P c i) ca) : v = x_btq (fun c => x_lf9 s K P tr c i) ca := by
  rw [e]
  exact x_btq_c ca (fun c _ => (lf_0 h).symm)
end LEAVES
noncomputable def x_askv (a b : Int32) (w : Int) : Int32 := if w = 0 then a else if w = 1 then b else if w = 2 then a &&& (b ^^^ (-1 : Int32)) else b &&& (a ^^^ (-1 : Int32))
noncomputable def x_ask (s : x_S) (N : x_N) (sz ca n w : Int) (P : x_GP) : Int32 := if (0 ≤ n ∧ n ≤ sz) ∧ (0 ≤ w ∧ w ≤ 3) ∧ ¬ P.2 = 0 then x_askv (x_ans s (x_kn s N n.toNat) P 0 ca) (x_ans s (x_kn s N n.toNat) P 1 ca) w else -1
section ASKS
variable {s : x_S} {N : x_N} {sz ca n w : Int} {P : x_GP} {r a b : Int32}
theorem x_ask_n (h : ¬ ((0 ≤ n ∧ n ≤ sz) ∧ (0 ≤ w ∧ w ≤ 3) ∧ ¬ P.2 = 0)) (e : r = -1) : r = x_ask s N sz ca n w P := by
  unfold x_ask
  rw [if_neg h]
  exact e
theorem x_ask_y (h : (0 ≤ n ∧ n ≤ sz) ∧ (0 ≤ w ∧ w ≤ 3) ∧ ¬ P.2 = 0) (ha : a = x_ans s (x_kn s N n.toNat) P 0 ca) (hb : b = x_ans s (x_kn s N n.toNat) P 1 ca) (e : r = x_askv a b w) : r = x_ask s N sz ca n w P := by
  unfold x_ask
  rw [if_pos h, ← ha, ← hb]
  exact e
theorem av_0 (h : w = 0) (e : r = a) : r = x_askv a b w := by unfold x_askv; rw [if_pos h]; exact e
theorem av_1 (h : w = 1) (e : r = b) : r = x_askv a b w := by unfold x_askv; rw [if_neg (by omega), if_pos h]; exact e
theorem av_2 (h : w = 2) (e : r = a &&& (b ^^^ (-1 : Int32))) : r = x_askv a b w := by unfold x_askv; rw [if_neg (by omega), if_neg (by omega), if_pos h]; exact e
theorem av_3 (h : ¬ w = 0 ∧ ¬ w = 1 ∧ ¬ w = 2) (e : r = b &&& (a ^^^ (-1 : Int32))) : r = x_askv a b w := by unfold x_askv; rw [if_neg h.1, if_neg h.2.1, if_neg h.2.2]; exact e
end ASKS
theorem x_hd_le {k : Nat → Int} : ∀ n : Nat, (x_hd k n).length ≤ n
  | 0 => Nat.le_refl _
  | n + 1 => by
    have ih := x_hd_le (k := k) n
    rw [x_hd]
    split
    · rw [List.length_cons]; omega
    · split
      · rw [List.length_cons, List.length_tail]; omega
      · rw [List.length_cons, List.length_tail, List.length_tail]; omega
theorem ans_e {s : x_S} {K : x_Kn} {P : x_GP} {tr ca : Int} {m : Nat} {v : Int32} (e : m = P.2.toNat) (h : v = x_bx s K P tr ca.toNat m (m - 1)) : v = x_ans s K P tr ca := by
  subst e
  exact h
theorem lh_i {s : x_S} {K : x_Kn} {P : x_GP} {c i : Nat} {h : Int64} (hh : h = (if P.1.1 i = 1 then K.2.2.2 (P.1.2.1 i).toNat else x_cd s (P.1.2.1 i) (P.1.2.2 i))) : x_lh s K P c i = true ↔ x_eq (K.1 c &&& h) h = 1 := by
  unfold x_lh
  rw [← hh, decide_eq_true_eq]
section HVS
variable {M M1 : mm_M} {k : Nat → Int} {V : Nat → Bool} {i i2 u v w : Int} {n : Nat}
theorem hv_0 (h : i = 0) : ∀ j : Nat, (j : Int) < i → ((M.2.1 117 j).toInt = 1 ↔ x_ev k V i.toNat j = true) := fun j hj => by omega
theorem hv_s {jj : Nat} {x : Int32} (H : ∀ j : Nat, (j : Int) < i → ((M.2.1 117 j).toInt = 1 ↔ x_ev k V i.toNat j = true)) (h0 : 0 ≤ i) (W : M1 = mm_setI M 117 jj x) (hj : jj = i.toNat) (h2 : i2 = i + 1) (e : x.toInt = 1 ↔ x_ev k V (i.toNat + 1) i.toNat = true) : ∀ j : Nat, (j : Int) < i2 → ((M1.2.1 117 j).toInt = 1 ↔ x_ev k V i2.toNat j = true) := fun j hq => by
  rw [show i2.toNat = i.toNat + 1 by omega]
  by_cases g : j = i.toNat
  · rw [g, ← hj, W_e W, hj]
    exact e
  · rw [show M1.2.1 117 j = M.2.1 117 j from W_n W (by omega) rfl, x_ev_o g]
    exact H j (by omega)
theorem ev_l (hk : k n = 0 ∨ k n = 1) (e : v = 1 ↔ V n = true) : v = 1 ↔ x_ev k V (n + 1) n = true := by
  rw [x_ev_l hk]
  exact e
theorem ev_2 (hk : k n = 2) (H : u = 1 ↔ x_ev k V n (x_h1 (x_hd k n)).toNat = true) (e : v = 1 ↔ ¬ u = 1) : v = 1 ↔ x_ev k V (n + 1) n = true := by
  rw [x_ev_2 hk, Bool.not_eq_true', e, H, Bool.not_eq_true]
theorem ev_3 (hk : k n = 3) (H1 : u = 1 ↔ x_ev k V n (x_h2 (x_hd k n)).toNat = true) (H2 : w = 1 ↔ x_ev k V n (x_h1 (x_hd k n)).toNat = true) (e : v = 1 ↔ u = 1 ∧ w = 1) : v = 1 ↔ x_ev k V (n + 1) n = true := by
  rw [x_ev_3 hk, Bool.and_eq_true, e, H1, H2]
theorem ev_4 (hk : k n = 4) (H1 : u = 1 ↔ x_ev k V n (x_h2 (x_hd k n)).toNat = true) (H2 : w = 1 ↔ x_ev k V n (x_h1 (x_hd k n)).toNat = true) (e : v = 1 ↔ u = 1 ∨ w = 1) : v = 1 ↔ x_ev k V (n + 1) n = true := by
  rw [x_ev_4 hk, Bool.or_eq_true, e, H1, H2]
end HVS
theorem ans_b {s : x_S} {K : x_Kn} {P : x_GP} {tr ca n : Int} {v : Int32} (h : v = x_btq (fun c => x_ev P.1.1 (x_lf9 s K P tr c) P.2.toNat (P.2.toNat - 1)) n.toNat) (e : n = ca) : v = x_ans s K P tr ca := by
  subst e
  exact h
/-! a question is asked: the reference's side -/
section QFS
variable {M M1 : mm_M} {P : x_GP} {k : Nat → Int} {V : Nat → Bool} {n : Nat} {i u v w m : Int}
theorem LQK_u {j : Nat} (L : LQK 0 M P) (h : (j : Int) < P.2) : (M.2.1 112 j).toInt = P.1.1 j ∧ x_pt (x_hd P.1.1 j) (P.1.1 j) (M.2.1 113 j).toInt (M.2.1 114 j).toInt (P.1.2.1 j) (P.1.2.2 j) := by
  have z := L.2 j h
  rw [Nat.zero_add] at z
  exact z
theorem hd_u {s : x_S} {j : Nat} (H : GK s P j) : (P.1.1 j = 2 → 0 ≤ x_h1 (x_hd P.1.1 j) ∧ x_h1 (x_hd P.1.1 j) < (j : Int)) ∧ ((P.1.1 j = 3 ∨ P.1.1 j = 4) → (0 ≤ x_h1 (x_hd P.1.1 j) ∧ x_h1 (x_hd P.1.1 j) < (j : Int)) ∧ 0 ≤ x_h2 (x_hd P.1.1 j) ∧ x_h2 (x_hd P.1.1 j) < (j : Int)) := by
  unfold GK at H
  exact ⟨fun z => x_h1_b (by omega), fun z => ⟨x_h1_b (by omega), x_h2_b (by omega)⟩⟩
theorem hv_u {jj : Nat} {x : Int32} {y o : Int} (H : ∀ j : Nat, (j : Int) < i → ((M.2.1 117 j).toInt = 1 ↔ x_ev k V i.toNat j = true)) (W : M.2.1 117 jj = x) (hj : jj = y.toNat) (h0 : 0 ≤ y) (h : y < i) (ho : o = y) : x.toInt = 1 ↔ x_ev k V i.toNat o.toNat = true := by
  subst ho
  rw [← hj, ← W]
  exact H jj (by omega)
theorem hv_e {jj : Nat} {x : Int32} (H : ∀ j : Nat, (j : Int) < i → ((M.2.1 117 j).toInt = 1 ↔ x_ev k V i.toNat j = true)) (W : M.2.1 117 jj = x) (hi : i = m) (hj : (jj : Int) = m - 1) : x.toInt = 1 ↔ x_ev k V m.toNat (m.toNat - 1) = true := by
  subst hi
  rw [show i.toNat - 1 = jj by omega, ← W]
  exact H jj (by omega)
theorem hv_f (h : ∀ j : Nat, M1.2.1 117 j = M.2.1 117 j) (H : ∀ j : Nat, (j : Int) < i → ((M.2.1 117 j).toInt = 1 ↔ x_ev k V i.toNat j = true)) : ∀ j : Nat, (j : Int) < i → ((M1.2.1 117 j).toInt = 1 ↔ x_ev k V i.toNat j = true) := fun j hj => by
  rw [h j]
  exact H j hj
theorem el_y (hk : k n = 0 ∨ k n = 1) (h : V n = true) : (1 : Int32).toInt = 1 ↔ x_ev k V (n + 1) n = true := by
  rw [x_ev_l hk]
  exact iff_of_true rfl h
theorem el_n (hk : k n = 0 ∨ k n = 1) (h : ¬ V n = true) : (0 : Int32).toInt = 1 ↔ x_ev k V (n + 1) n = true := by
  rw [x_ev_l hk]
  exact iff_of_false (by decide) h
theorem e2_y (hk : k n = 2) (H : u = 1 ↔ x_ev k V n (x_h1 (x_hd k n)).toNat = true) (h : ¬ u = 1) : (1 : Int32).toInt = 1 ↔ x_ev k V (n + 1) n = true := iff_of_true rfl ((ev_2 (v := 1) hk H ⟨fun _ => h, fun _ => rfl⟩).mp rfl)
theorem e2_n (hk : k n = 2) (H : u = 1 ↔ x_ev k V n (x_h1 (x_hd k n)).toNat = true) (h : u = 1) : (0 : Int32).toInt = 1 ↔ x_ev k V (n + 1) n = true := iff_of_false (by decide) (fun z => absurd ((ev_2 (v := 0) hk H ⟨fun y => absurd y (by decide), fun y => absurd h y⟩).mpr z) (by decide))
theorem e3_1 (hk : k n = 3) (H1 : u = 1 ↔ x_ev k V n (x_h2 (x_hd k n)).toNat = true) (h : ¬ u = 1) : (0 : Int32).toInt = 1 ↔ x_ev k V (n + 1) n = true := by
  refine iff_of_false (by decide) (fun z => ?_)
  rw [x_ev_3 hk, Bool.and_eq_true] at z
  exact h (H1.mpr z.1)
theorem e3_2 (hk : k n = 3) (H2 : w = 1 ↔ x_ev k V n (x_h1 (x_hd k n)).toNat = true) (h : ¬ w = 1) : (0 : Int32).toInt = 1 ↔ x_ev k V (n + 1) n = true := by
  refine iff_of_false (by decide) (fun z => ?_)
  rw [x_ev_3 hk, Bool.and_eq_true] at z
  exact h (H2.mpr z.2)
theorem e3_y (hk : k n = 3) (H1 : u = 1 ↔ x_ev k V n (x_h2 (x_hd k n)).toNat = true) (H2 : w = 1 ↔ x_ev k V n (x_h1 (x_hd k n)).toNat = true) (h1 : u = 1) (h2 : w = 1) : (1 : Int32).toInt = 1 ↔ x_ev k V (n + 1) n = true := by
  refine iff_of_true rfl ?_
  rw [x_ev_3 hk, Bool.and_eq_true]
  exact ⟨H1.mp h1, H2.mp h2⟩
theorem e4_1 (hk : k n = 4) (H1 : u = 1 ↔ x_ev k V n (x_h2 (x_hd k n)).toNat = true) (h : u = 1) : (1 : Int32).toInt = 1 ↔ x_ev k V (n + 1) n = true := by
  refine iff_of_true rfl ?_
  rw [x_ev_4 hk, Bool.or_eq_true]
  exact Or.inl (H1.mp h)
theorem e4_2 (hk : k n = 4) (H2 : w = 1 ↔ x_ev k V n (x_h1 (x_hd k n)).toNat = true) (h : w = 1) : (1 : Int32).toInt = 1 ↔ x_ev k V (n + 1) n = true := by
  refine iff_of_true rfl ?_
  rw [x_ev_4 hk, Bool.or_eq_true]
  exact Or.inr (H2.mp h)
theorem e4_n (hk : k n = 4) (H1 : u = 1 ↔ x_ev k V n (x_h2 (x_hd k n)).toNat = true) (H2 : w = 1 ↔ x_ev k V n (x_h1 (x_hd k n)).toNat = true) (h1 : ¬ u = 1) (h2 : ¬ w = 1) : (0 : Int32).toInt = 1 ↔ x_ev k V (n + 1) n = true := by
  refine iff_of_false (by decide) (fun z => ?_)
  rw [x_ev_4 hk, Bool.or_eq_true] at z
  rcases z with z | z
  · exact h1 (H1.mpr z)
  · exact h2 (H2.mpr z)
end QFS
/-! two plans that one memory holds -/
noncomputable def y_al (M : mm_M) (p : Nat) (s g : x_S) : Prop := PLs2 M p s ∧ PLs2 M p g
section XAL
variable {M : mm_M} {p : Nat} {s g : x_S}
theorem y_al_n (a : PLs2 M p s) (b : PLs2 M p g) : s.1 = g.1 ∧ s.2.1 = g.2.1 ∧ s.2.2.1 = g.2.2.1 := ⟨a.1.2.1.symm.trans b.1.2.1, a.1.2.2.1.symm.trans b.1.2.2.1, a.1.2.2.2.1.symm.trans b.1.2.2.2.1⟩
theorem y_al_r (a : PLs2 M p s) (b : PLs2 M p g) {r : Nat} {k : Int} (h1 : 1 ≤ r) (h5 : r ≤ 5) (k0 : 0 ≤ k) (hk : k < s.2.1) : x_row s r k = x_row g r k :=
  (a.1.2.2.2.2.1 r k.toNat h1 h5 (by omega)).symm.trans (b.1.2.2.2.2.1 r k.toNat h1 h5 (by have := (y_al_n a b).2.1; omega))
theorem y_al_w (a : PLs2 M p s) (b : PLs2 M p g) {r : Nat} {k : Int} (h1 : 6 ≤ r) (h5 : r ≤ 7) (k0 : 0 ≤ k) (hk : k < s.2.2.1) : x_row s r k = x_row g r k :=
  (a.1.2.2.2.2.2 r k.toNat h1 h5 (by omega)).symm.trans (b.1.2.2.2.2.2 r k.toNat h1 h5 (by have := (y_al_n a b).2.2; omega))
end XAL
/-! the question between the law's calls -/
theorem WFP_t {M : mm_M} {p : Nat} {s g : x_S} {P : x_GP} {d : Nat} (a : PLs2 M p s) (b : PLs2 M p g) (H : WFP s P d) : WFP g P d := by
  obtain ⟨n1, n2, n3⟩ := y_al_n a b
  refine ⟨H.1, fun i hi => ?_, H.2.2⟩
  have z := H.2.1 i hi
  unfold GK at z ⊢
  rcases z with ⟨k0, f0, f1, f2, v0, v1⟩ | ⟨k1, w0, w1⟩ | z | z
  · have e2 := y_al_r a b (r := 2) (by decide) (by decide) f0 f1
    have e5 := y_al_r a b (r := 5) (by decide) (by decide) f0 f1
    rw [e2] at f2
    rw [e5] at v1
    exact Or.inl ⟨k0, f0, by omega, f2, v0, v1⟩
  · exact Or.inr (Or.inl ⟨k1, w0, by omega⟩)
  · exact Or.inr (Or.inr (Or.inl z))
  · exact Or.inr (Or.inr (Or.inr z))
noncomputable def x_qnz (M : mm_M) (q : Nat) (P : x_GP) : Prop := 0 ≤ P.2 ∧ P.2 ≤ 40 ∧ (M.2.1 q 4).toInt = P.2 ∧ (M.2.1 77 58).toInt = P.2 ∧ ((M.2.1 77 57).toInt = 0 ∧ P.2 = 0 ∨ (M.2.1 77 57).toInt = 1 ∧ 0 < P.2)
noncomputable def QAL (M : mm_M) : Prop := ∃ (q qz : Nat) (P : x_GP) (s : x_S), M.2.2.2 0 10 = some q ∧ M.2.2.2 0 11 = some qz ∧ q ≠ qz ∧ (q = 67 ∨ q = 72) ∧ (qz = 67 ∨ qz = 72) ∧ x_qnz M q P ∧ (P.2 = 0 ∨ LQc M q P ∧ LQK 0 M P ∧ TPl M s ∧ WFP s P 1)
section QALS
variable {M M1 M2 : mm_M} {p pz q qz : Nat} {P1 P2 : Nat → Nat → Prop}
theorem QAL_ne (hq : g_PQ M p pz q qz) (H : QAL M) : q ≠ qz := by
  obtain ⟨q2, z2, P, s, e1, e2, hne, -⟩ := H
  have eq : q2 = q := Option.some.inj (e1.symm.trans hq.2.2.1)
  have ez : z2 = qz := Option.some.inj (e2.symm.trans hq.2.2.2)
  subst eq
  subst ez
  exact hne
theorem QAL_u {sg : x_S} (hq : g_PQ M p pz q qz) (H : QAL M) (a : PLs2 M p sg) : ∃ P : x_GP, x_qnz M q P ∧ (P.2 = 0 ∨ LQc M q P ∧ WFP sg P 1) ∧ (P.2 = 0 ∨ LQK 0 M P ∧ WFP sg P 1) := by
  obtain ⟨q2, z2, P, s, e1, e2, hne, _, _, hx, hy⟩ := H
  have eq : q2 = q := Option.some.inj (e1.symm.trans hq.2.2.1)
  subst eq
  refine ⟨P, hx, ?_, ?_⟩
  · rcases hy with z | ⟨l1, l2, ⟨p2, hp2, e8, h8⟩, l4⟩
    · exact Or.inl z
    · have ep : p2 = p := Option.some.inj (e8.symm.trans hq.1)
      subst ep
      exact Or.inr ⟨l1, WFP_t h8 a l4⟩
  · rcases hy with z | ⟨l1, l2, ⟨p2, hp2, e8, h8⟩, l4⟩
    · exact Or.inl z
    · have ep : p2 = p := Option.some.inj (e8.symm.trans hq.1)
      subst ep
      exact Or.inr ⟨l2, WFP_t h8 a l4⟩
theorem QAL_g (t : ∀ s : x_S, TPl M s → TPl M1 s) (r10 : M1.2.2.2 0 10 = M.2.2.2 0 10) (r11 : M1.2.2.2 0 11 = M.2.2.2 0 11) (hq : ∀ a i : Nat, (67 ≤ a ∧ a ≤ 70 ∨ 72 ≤ a ∧ a ≤ 75 ∨ 112 ≤ a ∧ a ≤ 114 ∨ a = 77 ∧ 57 ≤ i ∧ i ≤ 58) → M1.2.1 a i = M.2.1 a i) (H : QAL M) : QAL M1 := by
  obtain ⟨q2, z2, P, s, e1, e2, hne, h67, hz67, ⟨x0, x40, x4, x58, x57⟩, hy⟩ := H
  refine ⟨q2, z2, P, s, by rw [r10]; exact e1, by rw [r11]; exact e2, hne, h67, hz67, ⟨x0, x40, ?_, ?_, ?_⟩, ?_⟩
  · rw [hq q2 4 (by omega)]; exact x4
  · rw [hq 77 58 (by omega)]; exact x58
  · rw [hq 77 57 (by omega)]; exact x57
  · rcases hy with z | ⟨l1, l2, l3, l4⟩
    · exact Or.inl z
    · exact Or.inr ⟨LQc_f (fun a i z => hq a i (by omega)) l1, LQK_f (fun r i z _ => hq r i (by omega)) l2, t s l3, l4⟩
theorem QAL_F (F : FR P1 M M1) (h : ∀ a i : Nat, (49 ≤ a ∧ a ≤ 70 ∨ 72 ≤ a ∧ a ≤ 75 ∨ 112 ≤ a ∧ a ≤ 114 ∨ a = 77 ∧ 57 ≤ i ∧ i ≤ 58) → ¬ P1 a i) (H : QAL M) : QAL M1 :=
  QAL_g (fun s h1 => TPl_f (fun a i z => F.2.2 a i (h a i (by omega))) (by rw [F.2.1]) h1) (by rw [F.2.1]) (by rw [F.2.1]) (fun a i z => (F.2.2 a i (h a i (by omega))).1) H
theorem QAL_K (K : M1.2.1 = M.2.1) (kr : M1.2.2.2 = M.2.2.2) (kl : ∀ a i : Nat, a ≠ 125 → M1.2.2.1 a i = M.2.2.1 a i) (H : QAL M) : QAL M1 :=
  QAL_g (fun s h1 => TPl_f (fun a i z => ⟨by rw [K], kl a i (by omega)⟩) (by rw [kr]) h1) (by rw [kr]) (by rw [kr]) (fun a i z => by rw [K]) H
theorem QG_q {G : x_GR} {n h1 h2 r r2 : Int} {A B : x_GP → Prop} (h : h1 = h2) (w1 : n < 0 ∨ h1 < n → r = -2) (w2 : n < 0 ∨ h2 < n → r2 = -2) (a1 : QGN h1 n r G A) (a2 : QGN h2 n r2 G B) : r = r2 ∧ QGR r G A B := by
  subst h
  by_cases g : n < 0 ∨ h1 < n
  · rw [w1 g, w2 g]
    exact ⟨rfl, Or.inl (by decide)⟩
  · have g2 : 0 ≤ n ∧ n ≤ h1 := by omega
    rcases a1 g2 with ⟨f, p, e, er⟩ | ⟨P, e, er, hA⟩
    · rcases a2 g2 with ⟨f2, p9, e2, er2⟩ | ⟨P2, e2, er2, hB⟩
      · exact ⟨by omega, Or.inl (by omega)⟩
      · rw [e] at e2
        cases e2
    · rcases a2 g2 with ⟨f2, p9, e2, er2⟩ | ⟨P2, e2, er2, hB⟩
      · rw [e] at e2
        cases e2
      · have ee : P = P2 := by
          rw [e] at e2
          exact Sum.inr.inj e2
        subst ee
        exact ⟨by omega, Or.inr ⟨P, e, er, hA, hB⟩⟩
/-- a question was read -/
theorem QAL_q {sg : x_S} {t : Nat → Int} {nn : Int} {r r2 : Int} (H : QAL M) (hq : g_PQ M p pz q qz) (h67 : q = 67 ∨ q = 72) (hz67 : qz = 67 ∨ qz = 72) (hp : p = 49 ∨ p = 58) (hs : PLs2 M p sg) (F1 : FRX P1 M M1) (h1 : ∀ a i : Nat, (49 ≤ a ∧ a ≤ 66 ∨ 112 ≤ a ∧ a ≤ 114 ∨ a = 77) → ¬ P1 a i) (r8 : M1.2.2.2 0 8 = M.2.2.2 0 8) (F2 : FR P2 M1 M2) (h2 : ∀ a i : Nat, (49 ≤ a ∧ a ≤ 76) → ¬ P2 a i) (e : r = r2) (an : QGR r (x_gg t nn sg 0 0 0 [] x_P0 (x_sk t nn 0)) (fun P => LQc M1 qz P) (fun P => LQK 0 M2 P)) (n0 : 0 ≤ r → 0 ≤ nn) (kq : (r < 0 → g_PQ M1 p pz q qz ∧ (M1.2.1 q 4).toInt = (M.2.1 q 4).toInt ∧ ∀ Q : x_GP, LQc M q Q → LQc M1 q Q) ∧ (0 ≤ r → g_PQ M1 p pz qz q ∧ (M1.2.1 qz 4).toInt = r)) (kp : ∀ Q : x_GP, r2 < 0 → Q.2 ≤ 40 → LQK 0 M1 Q → LQK 0 M2 Q) (b1 : r2 < 0 → (M2.2.1 77 58).toInt = (M1.2.1 77 58).toInt ∧ (M2.2.1 77 57).toInt = (M1.2.1 77 57).toInt) (b2 : 0 ≤ r2 → (M2.2.1 77 58).toInt = r2 ∧ (M2.2.1 77 57).toInt = 1) (le : r ≤ 40) : QAL M2 := by
  obtain ⟨q2, z2, P, s, e1, e2, hne, _, _, ⟨x0, x40, x4, x58, x57⟩, hx⟩ := H
  have eq : q2 = q := Option.some.inj (e1.symm.trans hq.2.2.1)
  have ez : z2 = qz := Option.some.inj (e2.symm.trans hq.2.2.2)
  subst eq
  subst ez
  have T1 : ∀ s9 : x_S, TPl M s9 → TPl M2 s9 := fun s9 h9 => TPl_f (fun a i z => F2.2.2 a i (h2 a i (by omega))) (by rw [F2.2.1]) (TPl_f (fun a i z => F1.2 a i (h1 a i (by omega))) r8 h9)
  have q58 : M1.2.1 77 58 = M.2.1 77 58 := (F1.2 77 58 (h1 77 58 (by omega))).1
  have q57 : M1.2.1 77 57 = M.2.1 77 57 := (F1.2 77 57 (h1 77 57 (by omega))).1
  by_cases g : r < 0
  · obtain ⟨g1, g2, g3⟩ := kq.1 g
    obtain ⟨b58, b57⟩ := b1 (by omega)
    refine ⟨q2, z2, P, s, by rw [F2.2.1]; exact g1.2.2.1, by rw [F2.2.1]; exact g1.2.2.2, hne, h67, hz67, ⟨x0, x40, ?_, ?_, ?_⟩, ?_⟩
    · rw [(F2.2.2 q2 4 (h2 q2 4 (by omega))).1, g2]
      exact x4
    · rw [b58, q58]
      exact x58
    · rw [b57, q57]
      exact x57
    · rcases hx with z | ⟨l1, l2, l3, l4⟩
      · exact Or.inl z
      · exact Or.inr ⟨LQc_f (fun a i z => (F2.2.2 a i (h2 a i (by omega))).1) (g3 P l1), kp P (by omega) x40 (LQK_f (fun r i z _ => (F1.2 r i (h1 r i (by omega))).1) l2), T1 s l3, l4⟩
  · obtain ⟨P9, ge, re, A, B⟩ := Or.resolve_left an g
    obtain ⟨g1, g2⟩ := kq.2 (by omega)
    obtain ⟨b58, b57⟩ := b2 (by omega)
    have bb : 0 ≤ x_sk t nn 0 ∧ x_sk t nn 0 ≤ nn := x_le (Int.le_refl _) (n0 (by omega))
    have wf : WFP sg P9 1 := g_wf0 hs.1.1 bb.1 bb.2 ge
    have w0 := wf.1
    have pos : 0 < P9.2 := by
      by_cases z : P9.2 = 0
      · have l := wf.2.2
        rw [z] at l
        have l : (0 : Nat) = 1 := l
        omega
      · omega
    refine ⟨z2, q2, P9, sg, by rw [F2.2.1]; exact g1.2.2.1, by rw [F2.2.1]; exact g1.2.2.2, fun z => hne z.symm, hz67, h67, ⟨by omega, by omega, ?_, by omega, Or.inr ⟨b57, pos⟩⟩, Or.inr ⟨LQc_f (fun a i z => (F2.2.2 a i (h2 a i (by omega))).1) A, B, T1 sg ⟨p, hp, hq.1, hs⟩, wf⟩⟩
    rw [(F2.2.2 z2 4 (h2 z2 4 (by omega))).1, g2]
    exact re
/-- a plan was read -/
theorem QAL_n {r r2 : Int} (H : QAL M) (hq : g_PQ M p pz q qz) (h67 : q = 67 ∨ q = 72) (hz67 : qz = 67 ∨ qz = 72) (e : r = r2) (hpp : g_PP M1 p pz q qz) (kq : (r < 0 → (M1.2.1 q 4).toInt = (M.2.1 q 4).toInt ∧ ∀ Q : x_GP, LQc M q Q → LQc M1 q Q) ∧ (0 ≤ r → (M1.2.1 q 4).toInt = 0)) (pf : r < 0 → ∀ s9 : x_S, PLs2 M p s9 → TPl M1 s9) (hk : ∀ a i : Nat, (112 ≤ a ∧ a ≤ 114 ∨ a = 77) → M1.2.1 a i = M.2.1 a i) (F2 : FR P2 M1 M2) (h2 : ∀ a i : Nat, (49 ≤ a ∧ a ≤ 76 ∨ 112 ≤ a ∧ a ≤ 114) → ¬ P2 a i) (b1 : r2 < 0 → (M2.2.1 77 58).toInt = (M1.2.1 77 58).toInt ∧ (M2.2.1 77 57).toInt = (M1.2.1 77 57).toInt) (b2 : 0 ≤ r2 → (M2.2.1 77 58).toInt = 0 ∧ (M2.2.1 77 57).toInt = 0) : QAL M2 := by
  obtain ⟨q2, z2, P, s, e1, e2, hne, _, _, ⟨x0, x40, x4, x58, x57⟩, hx⟩ := H
  have eq : q2 = q := Option.some.inj (e1.symm.trans hq.2.2.1)
  have ez : z2 = qz := Option.some.inj (e2.symm.trans hq.2.2.2)
  subst eq
  subst ez
  have r10 : M1.2.2.2 0 10 = some q2 ∧ M1.2.2.2 0 11 = some z2 := by
    rcases hpp with h | h
    · exact ⟨h.2.2.1, h.2.2.2⟩
    · exact ⟨h.2.2.1, h.2.2.2⟩
  have f4 := (F2.2.2 q2 4 (h2 q2 4 (by omega))).1
  by_cases g : r < 0
  · obtain ⟨g2, g3⟩ := kq.1 g
    obtain ⟨b58, b57⟩ := b1 (by omega)
    refine ⟨q2, z2, P, s, by rw [F2.2.1]; exact r10.1, by rw [F2.2.1]; exact r10.2, hne, h67, hz67, ⟨x0, x40, ?_, ?_, ?_⟩, ?_⟩
    · rw [f4, g2]
      exact x4
    · rw [b58, hk 77 58 (by omega)]
      exact x58
    · rw [b57, hk 77 57 (by omega)]
      exact x57
    · rcases hx with z | ⟨l1, l2, ⟨p2, hp2, e8, h8⟩, l4⟩
      · exact Or.inl z
      · have ep : p2 = p := Option.some.inj (e8.symm.trans hq.1)
        subst ep
        exact Or.inr ⟨LQc_f (fun a i z => (F2.2.2 a i (h2 a i (by omega))).1) (g3 P l1), LQK_f (fun r i z _ => ((F2.2.2 r i (h2 r i (by omega))).1).trans (hk r i (by omega))) l2, TPl_f (fun a i z => F2.2.2 a i (h2 a i (by omega))) (by rw [F2.2.1]) (pf g s h8), l4⟩
  · obtain ⟨b58, b57⟩ := b2 (by omega)
    have k4 := kq.2 (by omega)
    exact ⟨q2, z2, x_P0, s, by rw [F2.2.1]; exact r10.1, by rw [F2.2.1]; exact r10.2, hne, h67, hz67, ⟨Int.le_refl _, (by decide : (0 : Int) ≤ 40), by rw [f4]; exact k4, b58, Or.inl ⟨b57, rfl⟩⟩, Or.inl rfl⟩
end QALS
