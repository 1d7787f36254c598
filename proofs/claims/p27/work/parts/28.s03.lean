/-! bits of a number below 2^32 -/
theorem n_t4b : ∀ k : Fin 33, k.val &&& 63 = k.val := by decide +kernel
theorem n_y4 (a b c d : Nat) (ha : a ≤ 8) (hb : b ≤ 8) (hc : c ≤ 8) (hd : d ≤ 8) : (n_v [a, b, c, d] + n_v [a, b, c, d] / 256 + (n_v [a, b, c, d] + n_v [a, b, c, d] / 256) / 65536) &&& 63 = a + b + c + d := by
  have t := n_t4b ⟨a + b + c + d, by omega⟩
  simp only at t
  have e : n_v [a, b, c, d] + n_v [a, b, c, d] / 256 + (n_v [a, b, c, d] + n_v [a, b, c, d] / 256) / 65536 = 256 * (256 * (256 * d + (c + d)) + (b + c + d)) + (a + b + c + d) := by
    simp only [n_v]
    omega
  rw [e, show (63 : Nat) = 256 * 0 + 63 from rfl, n_land8 (by omega) (by decide), Nat.and_zero, t]
  omega
theorem n_bc4 {n : Nat} (h : n < 4294967296) : n_bc n = x_ct n 62 := by
  have hv : n_v (n_bs 4 n) = n := n_bs_v 4 n h
  have hb := n_bs_b 4 n
  have s1 := n_s1 (n_bs 4 n) hb
  have s2 := (n_s1s (n_bs 4 n) hb).2
  have s3 := n_s2 (n_bs 4 n) hb
  have s4 := n_s3 (n_bs 4 n) hb
  rw [hv, show n_m 0x55 (n_bs 4 n).length = 0x55555555 from (show n_m 0x55 4 = 0x55555555 by decide +kernel)] at s1
  rw [hv] at s2
  rw [show n_m 0x33 (n_bs 4 n).length = 0x33333333 from (show n_m 0x33 4 = 0x33333333 by decide +kernel)] at s3
  rw [show n_m 0x0f (n_bs 4 n).length = 0x0f0f0f0f from (show n_m 0x0f 4 = 0x0f0f0f0f by decide +kernel)] at s4
  have q : ∀ m : Nat, n_pc (m % 256) = x_ct m 8 ∧ n_pc (m % 256) ≤ 8 := fun m => by
    have p0 := n_pc_8 ⟨m % 256, by omega⟩
    have p1 := x_ct_lo (n := m % 256) (m := m) 8 (fun i hi => by
      rcases (show i = 0 ∨ i = 1 ∨ i = 2 ∨ i = 3 ∨ i = 4 ∨ i = 5 ∨ i = 6 ∨ i = 7 by omega) with rfl | rfl | rfl | rfl | rfl | rfl | rfl | rfl <;> simp only [Nat.reducePow] <;> omega)
    have p2 := (n_t3 ⟨m % 256, by omega⟩ ⟨0, by omega⟩).2.2
    simp only at p0 p2
    exact ⟨p0.trans p1, p2⟩
  have e : n_bc n = (n_v [n_pc (n % 256), n_pc (n / 256 % 256), n_pc (n / 256 / 256 % 256), n_pc (n / 256 / 256 / 256 % 256)] + n_v [n_pc (n % 256), n_pc (n / 256 % 256), n_pc (n / 256 / 256 % 256), n_pc (n / 256 / 256 / 256 % 256)] / 256 + (n_v [n_pc (n % 256), n_pc (n / 256 % 256), n_pc (n / 256 / 256 % 256), n_pc (n / 256 / 256 / 256 % 256)] + n_v [n_pc (n % 256), n_pc (n / 256 % 256), n_pc (n / 256 / 256 % 256), n_pc (n / 256 / 256 / 256 % 256)] / 256) / 65536) &&& 63 := by
    unfold n_bc
    simp only
    rw [s1, s2, s3, s4]
    rfl
  have q0 := q n
  have q1 := q (n / 256)
  have q2 := q (n / 256 / 256)
  have q3 := q (n / 256 / 256 / 256)
  have ct : ∀ m k : Nat, x_ct m (8 + k) = x_ct m 8 + x_ct (m / 256) k := fun m k => x_ct_add 8 k
  rw [e, n_y4 _ _ _ _ q0.2 q1.2 q2.2 q3.2, q0.1, q1.1, q2.1, q3.1, show (62 : Nat) = 8 + (8 + (8 + (8 + 30))) from rfl, ct, ct, ct, ct, x_ct_z 30 (by omega)]
  omega
theorem bc_all4 {x v1 v2 v3 v4 v5 v6 v7 v8 v9 v10 v11 v12 v13 v14 r : Int} (h0 : 0 ≤ x) (h1 : x < 1073741824) (a1 : v1 = x / 2) (a2 : v2 = ((v1.toNat &&& 0x55555555 : Nat) : Int)) (a3 : v3 = x - v2) (a4 : v4 = ((v3.toNat &&& 0x33333333 : Nat) : Int)) (a5 : v5 = v3 / 4) (a6 : v6 = ((v5.toNat &&& 0x33333333 : Nat) : Int)) (a7 : v7 = v4 + v6) (a8 : v8 = v7 / 16) (a9 : v9 = v7 + v8) (a10 : v10 = ((v9.toNat &&& 0x0f0f0f0f : Nat) : Int)) (a11 : v11 = v10 / 256) (a12 : v12 = v10 + v11) (a13 : v13 = v12 / 65536) (a14 : v14 = v12 + v13) (a15 : r = ((v14.toNat &&& 63 : Nat) : Int)) : r = (n_bc x.toNat : Nat) := by
  have b1 : v1.toNat = x.toNat / 2 := by omega
  rw [b1] at a2
  have l2 : (x.toNat / 2 &&& 0x55555555) ≤ x.toNat / 2 := Nat.and_le_left
  have b3 : v3.toNat = x.toNat - (x.toNat / 2 &&& 0x55555555) := by omega
  rw [b3] at a4
  have b5 : v5.toNat = (x.toNat - (x.toNat / 2 &&& 0x55555555)) / 4 := by omega
  rw [b5] at a6
  have b9 : v9.toNat = ((x.toNat - (x.toNat / 2 &&& 0x55555555)) &&& 0x33333333) + ((x.toNat - (x.toNat / 2 &&& 0x55555555)) / 4 &&& 0x33333333) + (((x.toNat - (x.toNat / 2 &&& 0x55555555)) &&& 0x33333333) + ((x.toNat - (x.toNat / 2 &&& 0x55555555)) / 4 &&& 0x33333333)) / 16 := by omega
  rw [b9] at a10
  rw [a15]
  unfold n_bc
  simp only
  generalize hc : (((x.toNat - (x.toNat / 2 &&& 0x55555555)) &&& 0x33333333) + ((x.toNat - (x.toNat / 2 &&& 0x55555555)) / 4 &&& 0x33333333) + (((x.toNat - (x.toNat / 2 &&& 0x55555555)) &&& 0x33333333) + ((x.toNat - (x.toNat / 2 &&& 0x55555555)) / 4 &&& 0x33333333)) / 16 &&& 0x0f0f0f0f) = c at a10 ⊢
  have c11 : v11 = ((c / 256 : Nat) : Int) := by omega
  have c12 : v12 = ((c + c / 256 : Nat) : Int) := by omega
  have c13 : v13 = (((c + c / 256) / 65536 : Nat) : Int) := by omega
  have b14 : v14.toNat = c + c / 256 + (c + c / 256) / 65536 := by omega
  rw [b14]
/-! the class's search -/
noncomputable def x_D5 (wi : Int32) (cu : Nat → Int32) (K : Nat) (y : Nat → Int) : Int := ((x_ct (x_dd wi cu y K K).toInt.toNat 62 : Nat) : Int)
noncomputable def x_S5 (sh : Nat → Int) (K : Nat) (y : Nat → Int) : Int := x_ss sh y K K
noncomputable def x_B5 (K : Nat) (y : Nat → Int) : Int := (x_br y K).toInt
noncomputable def LSM (M : mm_M) (wi : Int32) (cu : Nat → Int32) (sh : Nat → Int) (K : Nat) (V : (Nat → Int) → Prop) : Prop := LSTb (x_D5 wi cu K) (x_S5 sh K) (x_B5 K) V (M.2.1 36 2).toInt (M.2.1 36 3).toInt (M.2.1 36 4).toInt
noncomputable def CU5 (M : mm_M) (cu : Nat → Int32) (sh : Nat → Int) (W : Int) : Prop := ∀ i : Nat, (i : Int) < W → M.2.1 37 i = cu i ∧ (M.2.1 38 i).toInt = sh i ∧ 0 ≤ sh i ∧ sh i ≤ 12
noncomputable def OR5 (K : Nat) (W c w : Int) (y : Nat → Int) (V : (Nat → Int) → Prop) : Prop := ∀ v, V v → x_sb (K : Int) W v ∧ ∀ x, x_Cb (K : Int) W c w y x → x_cx (K : Int) v x
noncomputable def SB5 (K : Nat) (W c w : Int) (y : Nat → Int) : Prop := ∀ m : Nat, c ≤ (m : Int) → (m : Int) < (K : Int) → w ≤ y m ∧ y m < W ∧ ((m : Int) + 1 < (K : Int) → y m < y (m + 1))
section LS5
variable {M M1 : mm_M} {wi : Int32} {cu : Nat → Int32} {sh : Nat → Int} {K : Nat} {W c w p p2 : Int} {y : Nat → Int} {V : (Nat → Int) → Prop}
theorem CU5_f (h1 : ∀ i : Nat, M1.2.1 37 i = M.2.1 37 i) (h2 : ∀ i : Nat, M1.2.1 38 i = M.2.1 38 i) (H : CU5 M cu sh W) : CU5 M1 cu sh W := fun i hi => by
  rw [h1, h2]
  exact H i hi
theorem CU5_0 (h : W = 0) : CU5 M cu sh W := fun i hi => by omega
theorem CU5_s {W2 : Int} {v u : Int32} (H : CU5 M cu sh W) (h0 : 0 ≤ W) (h2 : W2 = W + 1) (f1 : ∀ i : Nat, ¬ i = W.toNat → M1.2.1 37 i = M.2.1 37 i) (f2 : ∀ i : Nat, ¬ i = W.toNat → M1.2.1 38 i = M.2.1 38 i) (e1 : M1.2.1 37 W.toNat = v) (e2 : M1.2.1 38 W.toNat = u) (g1 : v = cu W.toNat) (g2 : u.toInt = sh W.toNat) (b : 0 ≤ sh W.toNat ∧ sh W.toNat ≤ 12) : CU5 M1 cu sh W2 := fun i hi => by
  by_cases e : i = W.toNat
  · rw [e, e1, e2]
    exact ⟨g1, g2, b⟩
  · rw [f1 i e, f2 i e]
    exact H i (by omega)
theorem CU5_1 {A : Int} {v : Int32} (H : CU5 M cu sh W) (h0 : 0 ≤ A) (h1 : A < W) (w : M.2.1 37 A.toNat = v) : v = cu A.toNat := w.symm.trans (H A.toNat (by omega)).1
theorem CU5_2 {A : Int} {v : Int32} (H : CU5 M cu sh W) (h0 : 0 ≤ A) (h1 : A < W) (w : M.2.1 38 A.toNat = v) : v.toInt = sh A.toNat ∧ 0 ≤ sh A.toNat ∧ sh A.toNat ≤ 12 := by
  rw [← w]
  exact (H A.toNat (by omega)).2
theorem SB5_0 (h : (K : Int) ≤ c) : SB5 K W c w y := fun m h1 h2 => by omega
theorem SB5_s (H : SB5 K W c w y) (hp : p < w) (hw : w ≤ W) (hc : 0 < c) (h2 : p2 = c - 1) : SB5 K W p2 p (x_upZ y (c - 1).toNat p) := fun m hm hk => by
  have uu : ∀ m : Nat, x_upZ y (c - 1).toNat p m = if m = (c - 1).toNat then p else y m := fun m => rfl
  by_cases e : m = (c - 1).toNat
  · rw [uu, uu, if_pos e]
    refine ⟨Int.le_refl _, by omega, fun z => ?_⟩
    rw [if_neg (by omega)]
    have := H (m + 1) (by omega) (by omega)
    omega
  · rw [uu, uu, if_neg e, if_neg (by omega)]
    have := H m (by omega) hk
    exact ⟨by omega, this.2.1, this.2.2⟩
theorem SB5_b (H : SB5 K W c w y) (hc : c ≤ 0) (hw : 0 ≤ w) : x_sb (K : Int) W y := fun m hm => by
  have := H m (by omega) hm
  exact ⟨by omega, this.2.1, this.2.2⟩
theorem OR5_0 (h : ∀ x, ¬ V x) : OR5 K W c w y V := fun v hv => absurd hv (h v)
theorem OR5_s (H : OR5 K W c w y V) (hc : 0 < c) (ck : c ≤ (K : Int)) (hp : p < w) (h2 : p2 = c - 1) : OR5 K W p2 p (x_upZ y (c - 1).toNat p) (fun x => V x ∨ x_Cb (K : Int) W c p y x) := by
  subst h2
  intro v hv
  rcases hv with hv | hv
  · exact ⟨(H v hv).1, fun x hx => (H v hv).2 x (Cb_w ((Cb_s hc ck).mpr (Or.inr hx)) (by omega))⟩
  · exact ⟨hv.1, fun x hx => Cb_o hc ck hv hx⟩
theorem LS5_0 (H : LSM M wi cu sh K V) (hc : 0 < c) (ck : c ≤ (K : Int)) (hp : p = c - 1) : LSM M wi cu sh K (fun x => V x ∨ x_Cb (K : Int) W c p y x) := LSTb_c H (fun x => ⟨Or.inl, fun z => z.elim id (fun z => absurd z (Cb_e hc ck (by omega)))⟩)
theorem LS5_s {d : Int} (H : LSM M wi cu sh K (fun x => (V x ∨ x_Cb (K : Int) W c p y x) ∨ x_Cb (K : Int) W d p (x_upZ y (c - 1).toNat p) x)) (hc : 0 < c) (ck : c ≤ (K : Int)) (hd : d = c - 1) (h2 : p2 = p + 1) : LSM M wi cu sh K (fun x => V x ∨ x_Cb (K : Int) W c p2 y x) := by
  subst h2
  subst hd
  exact LSTb_c H (fun x => or_assoc.trans (or_congr Iff.rfl (Cb_s hc ck).symm))
theorem LS5_x (H : LSM M wi cu sh K (fun x => V x ∨ x_Cb (K : Int) W c p y x)) (hc : 0 < c) (ck : c ≤ (K : Int)) (h1 : w ≤ p) (h2 : p ≤ w ∨ p = c - 1) : LSM M wi cu sh K (fun x => V x ∨ x_Cb (K : Int) W c w y x) := by
  by_cases e : p = w
  · rw [← e]
    exact H
  · exact LSTb_c H (fun x => or_congr Iff.rfl ⟨fun z => absurd z (Cb_e hc ck (by omega)), fun z => absurd z (Cb_e hc ck (by omega))⟩)
theorem LS5_f (h1 : M1.2.1 36 2 = M.2.1 36 2) (h2 : M1.2.1 36 3 = M.2.1 36 3) (h3 : M1.2.1 36 4 = M.2.1 36 4) (H : LSM M wi cu sh K V) : LSM M1 wi cu sh K V := by
  unfold LSM
  rw [h1, h2, h3]
  exact H
theorem x_D5_c {v : Nat → Int} (h : x_sm (K : Int) v y) : x_D5 wi cu K v = x_D5 wi cu K y := by
  unfold x_D5
  rw [x_dd_c K (Nat.le_refl K) (fun m _ hm => h m (by omega))]
theorem x_S5_c {v : Nat → Int} (h : x_sm (K : Int) v y) : x_S5 sh K v = x_S5 sh K y := x_ss_c K (Nat.le_refl K) (fun m _ hm => h m (by omega))
theorem x_B5_c {v : Nat → Int} (h : x_sm (K : Int) v y) : x_B5 K v = x_B5 K y := by
  unfold x_B5
  rw [x_br_c K (fun m hm => h m (by omega))]
/-- a set is weighed -/
theorem LS5_l {ch dd : Int32} {dr s b2 d2 s2 : Int} (H : LSM M wi cu sh K V) (O : OR5 K W c w y V) (S : SB5 K W c w y) (hc : c = 0) (hw : 0 ≤ w) (hW : W ≤ 24) (e : ch = x_bo y K (K - c.toNat)) (d : dr = ((x_ct dd.toInt.toNat 62 : Nat) : Int)) (hd : dd = x_dd wi cu y K (K - c.toNat)) (hs : s = x_ss sh y K (K - c.toNat)) (f1 : (M1.2.1 36 2).toInt = b2) (f2 : (M1.2.1 36 3).toInt = d2) (f3 : (M1.2.1 36 4).toInt = s2) (p1 : ((M.2.1 36 2).toInt = -1 ∨ dr < (M.2.1 36 3).toInt ∨ dr = (M.2.1 36 3).toInt ∧ s < (M.2.1 36 4).toInt) → b2 = ch.toInt ∧ d2 = dr ∧ s2 = s) (p2 : ¬ ((M.2.1 36 2).toInt = -1 ∨ dr < (M.2.1 36 3).toInt ∨ dr = (M.2.1 36 3).toInt ∧ s < (M.2.1 36 4).toInt) → b2 = (M.2.1 36 2).toInt ∧ d2 = (M.2.1 36 3).toInt ∧ s2 = (M.2.1 36 4).toInt) : LSM M1 wi cu sh K (fun x => V x ∨ x_Cb (K : Int) W c w y x) := by
  subst hc
  have Hy := SB5_b S (Int.le_refl 0) hw
  rw [show K - (0 : Int).toNat = K from rfl] at e hd hs
  rw [x_bo_K] at e
  have eB : ch.toInt = x_B5 K y := by rw [e]; rfl
  have eD : dr = x_D5 wi cu K y := by rw [d, hd]; rfl
  have eS : s = x_S5 sh K y := hs
  have pos : ∀ v, V v → 0 ≤ x_B5 K v ∧ x_B5 K v < x_B5 K y := fun v hv => by
    have o := O v hv
    have n1 := x_br_n o.1 (by omega : W ≤ 31) K (Nat.le_refl K)
    have n2 := x_br_n Hy (by omega : W ≤ 31) K (Nat.le_refl K)
    have l := bb_cx o.1 Hy (o.2 y ((Cb_0 Hy rfl).mpr (fun m _ => rfl)))
    rw [Int.toNat_natCast] at l
    unfold x_B5
    rw [n1, n2]
    omega
  refine LSTb_c (V := fun v => V v ∨ x_sm (K : Int) v y) ?_ (fun x => or_congr Iff.rfl (Cb_0 Hy rfl).symm)
  rw [f1, f2, f3]
  have H9 : LSTb (x_D5 wi cu K) (x_S5 sh K) (x_B5 K) V (M.2.1 36 2).toInt (M.2.1 36 3).toInt (M.2.1 36 4).toInt := H
  by_cases t : (M.2.1 36 2).toInt = -1 ∨ dr < (M.2.1 36 3).toInt ∨ dr = (M.2.1 36 3).toInt ∧ s < (M.2.1 36 4).toInt
  · obtain ⟨a1, a2, a3⟩ := p1 t
    exact LSTb_y H9 (fun v h => x_D5_c h) (fun v h => x_S5_c h) (fun v h => x_B5_c h) (by rw [← eD, ← eS]; omega) (fun v hv => (pos v hv).1) (a1.trans eB) (a2.trans eD) (a3.trans eS)
  · obtain ⟨a1, a2, a3⟩ := p2 t
    rw [a1, a2, a3]
    have nb : ¬ (M.2.1 36 2).toInt = -1 := fun z => t (Or.inl z)
    have bl : (M.2.1 36 2).toInt ≤ x_B5 K y := by
      rcases H9 with ⟨z, _⟩ | ⟨z, h1, h2, _⟩
      · exact absurd z nb
      · have := (pos z h1).2
        omega
    exact LSTb_n H9 (fun v h => x_D5_c h) (fun v h => x_S5_c h) (fun v h => x_B5_c h) nb (by rw [← eD, ← eS]; omega)
theorem CH5_s {ch ch2 v z : Int32} (e : ch = x_bo y K (K - c.toNat)) (hc : 0 < c) (ck : c ≤ (K : Int)) (h2 : p2 = c - 1) (e1 : (1 : Int32) <<< v = z) (hv : v.toInt = p) (e2 : ch ||| z = ch2) : ch2 = x_bo (x_upZ y (c - 1).toNat p) K (K - p2.toNat) := by
  subst h2
  have u : x_upZ y (c - 1).toNat p (c - 1).toNat = p := if_pos rfl
  rw [show K - (c - 1).toNat = (K - c.toNat) + 1 by omega, x_bo, show K - (K - c.toNat + 1) = (c - 1).toNat by omega, x_bo_c (y := x_upZ y (c - 1).toNat p) (y2 := y) (K - c.toNat) (by omega) (fun m h1 h2 => if_neg (by omega)), ← e2, ← e1, e, x_i32 hv, u]
theorem DD5_s {dr dr2 x : Int32} (e : dr = x_dd wi cu y K (K - c.toNat)) (hc : 0 < c) (ck : c ≤ (K : Int)) (h2 : p2 = c - 1) (hx : x = cu p.toNat) (e2 : dr &&& x = dr2) : dr2 = x_dd wi cu (x_upZ y (c - 1).toNat p) K (K - p2.toNat) := by
  subst h2
  have u : x_upZ y (c - 1).toNat p (c - 1).toNat = p := if_pos rfl
  rw [show K - (c - 1).toNat = (K - c.toNat) + 1 by omega, x_dd, show K - (K - c.toNat + 1) = (c - 1).toNat by omega, x_dd_c (y := x_upZ y (c - 1).toNat p) (y2 := y) (K - c.toNat) (by omega) (fun m h1 h2 => if_neg (by omega)), ← e2, e, hx, u]
theorem SS5_s {s s2 x : Int} (e : s = x_ss sh y K (K - c.toNat)) (hc : 0 < c) (ck : c ≤ (K : Int)) (h2 : p2 = c - 1) (hx : x = sh p.toNat) (e2 : s2 = s + x) : s2 = x_ss sh (x_upZ y (c - 1).toNat p) K (K - p2.toNat) := by
  subst h2
  have u : x_upZ y (c - 1).toNat p (c - 1).toNat = p := if_pos rfl
  rw [show K - (c - 1).toNat = (K - c.toNat) + 1 by omega, x_ss, show K - (K - c.toNat + 1) = (c - 1).toNat by omega, x_ss_c (y := x_upZ y (c - 1).toNat p) (y2 := y) (K - c.toNat) (by omega) (fun m h1 h2 => if_neg (by omega)), e2, e, hx, u]
theorem Cb_all {x : Nat → Int} : x_Cb (K : Int) W (K : Int) W y x ↔ x_sb (K : Int) W x := ⟨fun h => h.1, fun h => ⟨h, fun m h1 h2 => by omega, fun z => (h ((K : Int) - 1).toNat (by omega)).2.1⟩⟩
end LS5
