/-! what is known by the first notes: one function of plan and notes, for both sides -/
abbrev x_N := (Nat → Int32) × (Nat → Int32) × (Nat → Int32) × (Nat → Int32)
abbrev x_Kn := (Nat → Int64) × (Nat → Int32) × (Nat → Int32) × (Nat → Int64)
noncomputable def x_upL (f : Nat → Int64) (i : Nat) (v : Int64) : Nat → Int64 := fun j => if j = i then v else f j
noncomputable def x_upI (f : Nat → Int32) (i : Nat) (v : Int32) : Nat → Int32 := fun j => if j = i then v else f j
noncomputable def x_upZ (f : Nat → Int) (i : Nat) (v : Int) : Nat → Int := fun j => if j = i then v else f j
abbrev x_v5 (s : x_S) (ca : Int) (k f g t : Int32) : Prop := ((k.toInt = 0 → 0 ≤ f.toInt ∧ f.toInt < ca ∧ 0 ≤ g.toInt ∧ g.toInt < s.2.1 ∧ ¬ x_row s 2 g.toInt = 3 ∧ 0 ≤ t.toInt ∧ t.toInt < x_row s 5 g.toInt) ∧ (k.toInt = 1 → 0 ≤ f.toInt ∧ f.toInt < ca ∧ 0 ≤ g.toInt ∧ g.toInt < s.2.2.1) ∧ (k.toInt = 2 → 0 ≤ f.toInt ∧ f.toInt < ca) ∧ (k.toInt = 3 → 0 ≤ f.toInt ∧ f.toInt < ca) ∧ (k.toInt = 4 → 0 ≤ f.toInt ∧ f.toInt < s.2.2.1))
noncomputable def x_vn (s : x_S) (ca : Int) (N : x_N) (n : Int) : Prop := ∀ k : Nat, (k : Int) < n → x_v5 s ca (N.1 k) (N.2.1 k) (N.2.2.1 k) (N.2.2.2 k)
noncomputable def x_ap (s : x_S) (N : x_N) (k : Nat) (K : x_Kn) : x_Kn :=
  if (N.1 k).toInt = 0 then (x_upL K.1 (N.2.1 k).toInt.toNat (K.1 (N.2.1 k).toInt.toNat ||| x_cd s (N.2.2.1 k).toInt (N.2.2.2 k).toInt), K.2.1, x_upI K.2.2.1 (8 * (N.2.1 k).toInt.toNat + (N.2.2.1 k).toInt.toNat) (N.2.2.2 k), K.2.2.2)
  else if (N.1 k).toInt = 1 then (x_upL K.1 (N.2.1 k).toInt.toNat (K.1 (N.2.1 k).toInt.toNat ||| K.2.2.2 (N.2.2.1 k).toInt.toNat), x_upI K.2.1 (N.2.1 k).toInt.toNat (K.2.1 (N.2.1 k).toInt.toNat ||| ((1 : Int32) <<< N.2.2.1 k)), K.2.2.1, K.2.2.2)
  else if (N.1 k).toInt = 2 then (x_upL K.1 (N.2.1 k).toInt.toNat (K.1 (N.2.1 k).toInt.toNat ||| ((1 : Int64) <<< ((N.2.2.1 k).toInt64 &&& 63))), K.2.1, K.2.2.1, K.2.2.2)
  else if (N.1 k).toInt = 3 then (x_upL K.1 (N.2.1 k).toInt.toNat (K.1 (N.2.1 k).toInt.toNat &&& (((1 : Int64) <<< ((N.2.2.1 k).toInt64 &&& 63)) ^^^ (-1 : Int64))), K.2.1, K.2.2.1, K.2.2.2)
  else if (N.1 k).toInt = 4 then (K.1, K.2.1, K.2.2.1, x_upL K.2.2.2 (N.2.1 k).toInt.toNat ((N.2.2.1 k).toInt64 <<< x_sh (x_row s 3 (x_row s 7 (N.2.1 k).toInt))))
  else K
noncomputable def x_mk (N : x_N) : Nat → (Nat → Int) → (Nat → Int)
  | 0, S => S
  | j + 1, S => x_mk N j (if (N.1 j).toInt = 5 ∧ S j = 0 then x_upZ S (N.2.1 j).toInt.toNat 1 else S)
noncomputable def x_st (N : x_N) (n : Nat) : Nat → Int := x_mk N n (fun _ => 0)
noncomputable def x_rp (s : x_S) (N : x_N) (S : Nat → Int) : Nat → Nat → x_Kn → x_Kn
  | 0, _, K => K
  | m + 1, k, K => x_rp s N S m (k + 1) (if S k = 0 then x_ap s N k K else K)
noncomputable def x_k0 (s : x_S) : x_Kn := (fun _ => 0, fun _ => 0, fun _ => -1, fun w => Int64.ofInt (s.2.2.2.2 8 w))
noncomputable def x_kn (s : x_S) (N : x_N) (n : Nat) : x_Kn := x_rp s N (x_st N n) n 0 (x_k0 s)
theorem x_vn_u {s : x_S} {ca : Int} {N : x_N} {n A : Int} (H : x_vn s ca N n) (h0 : 0 ≤ A) (h1 : A < n) : x_v5 s ca (N.1 A.toNat) (N.2.1 A.toNat) (N.2.2.1 A.toNat) (N.2.2.2 A.toNat) := H A.toNat (by omega)
/-! the notes' rows -/
noncomputable def NTc (M : mm_M) (N : x_N) (n : Int) : Prop := ∀ k : Nat, (k : Int) < n → M.2.1 7 k = N.1 k ∧ M.2.1 8 k = N.2.1 k ∧ M.2.1 9 k = N.2.2.1 k ∧ M.2.1 10 k = N.2.2.2 k
noncomputable def NTr (M : mm_M) (N : x_N) (n : Int) : Prop := ∀ k : Nat, (k : Int) < n → M.2.1 90 k = N.1 k ∧ M.2.1 91 k = N.2.1 k ∧ M.2.1 92 k = N.2.2.1 k ∧ M.2.1 93 k = N.2.2.2 k
theorem NTc_f {M M1 : mm_M} {N : x_N} {n : Int} (h : ∀ a i : Nat, (7 ≤ a ∧ a ≤ 10) → M1.2.1 a i = M.2.1 a i) (H : NTc M N n) : NTc M1 N n := fun k hk => by
  rw [h 7 k (by decide), h 8 k (by decide), h 9 k (by decide), h 10 k (by decide)]
  exact H k hk
theorem NTr_f {M M1 : mm_M} {N : x_N} {n : Int} (h : ∀ a i : Nat, (90 ≤ a ∧ a ≤ 93) → M1.2.1 a i = M.2.1 a i) (H : NTr M N n) : NTr M1 N n := fun k hk => by
  rw [h 90 k (by decide), h 91 k (by decide), h 92 k (by decide), h 93 k (by decide)]
  exact H k hk
section NTU
variable {M : mm_M} {N : x_N} {n A : Int} {v : Int32}
theorem NTc_0 (H : NTc M N n) (h0 : 0 ≤ A) (h1 : A < n) (w : M.2.1 7 A.toNat = v) : v = N.1 A.toNat := w.symm.trans (H A.toNat (by omega)).1
theorem NTc_1 (H : NTc M N n) (h0 : 0 ≤ A) (h1 : A < n) (w : M.2.1 8 A.toNat = v) : v = N.2.1 A.toNat := w.symm.trans (H A.toNat (by omega)).2.1
theorem NTc_2 (H : NTc M N n) (h0 : 0 ≤ A) (h1 : A < n) (w : M.2.1 9 A.toNat = v) : v = N.2.2.1 A.toNat := w.symm.trans (H A.toNat (by omega)).2.2.1
theorem NTc_3 (H : NTc M N n) (h0 : 0 ≤ A) (h1 : A < n) (w : M.2.1 10 A.toNat = v) : v = N.2.2.2 A.toNat := w.symm.trans (H A.toNat (by omega)).2.2.2
theorem NTr_0 (H : NTr M N n) (h0 : 0 ≤ A) (h1 : A < n) (w : M.2.1 90 A.toNat = v) : v = N.1 A.toNat := w.symm.trans (H A.toNat (by omega)).1
theorem NTr_1 (H : NTr M N n) (h0 : 0 ≤ A) (h1 : A < n) (w : M.2.1 91 A.toNat = v) : v = N.2.1 A.toNat := w.symm.trans (H A.toNat (by omega)).2.1
theorem NTr_2 (H : NTr M N n) (h0 : 0 ≤ A) (h1 : A < n) (w : M.2.1 92 A.toNat = v) : v = N.2.2.1 A.toNat := w.symm.trans (H A.toNat (by omega)).2.2.1
theorem NTr_3 (H : NTr M N n) (h0 : 0 ≤ A) (h1 : A < n) (w : M.2.1 93 A.toNat = v) : v = N.2.2.2 A.toNat := w.symm.trans (H A.toNat (by omega)).2.2.2
end NTU
/-! the state of what is known: rows a (notches), b (words), v (values), d (codes) -/
noncomputable def KST (M : mm_M) (a b v d : Nat) (ca : Int) (s : x_S) (K : x_Kn) : Prop := (∀ c : Nat, (c : Int) < ca → M.2.2.1 a c = K.1 c ∧ M.2.1 b c = K.2.1 c ∧ ∀ f : Nat, f < 8 → M.2.1 v (8 * c + f) = K.2.2.1 (8 * c + f)) ∧ ∀ w : Nat, (w : Int) < s.2.2.1 → M.2.2.1 d w = K.2.2.2 w
section KSTS
variable {M M1 : mm_M} {a b v d : Nat} {ca : Int} {s : x_S} {K : x_Kn}
theorem KST_f (ha : ∀ i : Nat, M1.2.2.1 a i = M.2.2.1 a i) (hb : ∀ i : Nat, M1.2.1 b i = M.2.1 b i) (hv : ∀ i : Nat, M1.2.1 v i = M.2.1 v i) (hd : ∀ i : Nat, M1.2.2.1 d i = M.2.2.1 d i) (H : KST M a b v d ca s K) : KST M1 a b v d ca s K :=
  ⟨fun c hc => ⟨(ha c).trans (H.1 c hc).1, (hb c).trans (H.1 c hc).2.1, fun f hf => (hv (8 * c + f)).trans ((H.1 c hc).2.2 f hf)⟩, fun w hw => (hd w).trans (H.2 w hw)⟩
theorem KST_c {c : Nat} {x : Int64} (H : KST M a b v d ca s K) (W : M1 = mm_setL M a c x) (hd : ¬ d = a) : KST M1 a b v d ca s (x_upL K.1 c x, K.2.1, K.2.2.1, K.2.2.2) := by
  refine ⟨fun c2 h2 => ⟨?_, W_l W (H.1 c2 h2).2.1, fun f hf => W_l W ((H.1 c2 h2).2.2 f hf)⟩, fun w hw => L_n W (fun z => hd z.1) (H.2 w hw)⟩
  show _ = if c2 = c then x else K.1 c2
  by_cases g : c2 = c
  · rw [if_pos g, g]; exact L_e W
  · rw [if_neg g]; exact L_n W (fun z => g z.2) (H.1 c2 h2).1
theorem KST_w {c : Nat} {x : Int32} (H : KST M a b v d ca s K) (W : M1 = mm_setI M b c x) (hv : ¬ v = b) : KST M1 a b v d ca s (K.1, x_upI K.2.1 c x, K.2.2.1, K.2.2.2) := by
  refine ⟨fun c2 h2 => ⟨W_j W (H.1 c2 h2).1, ?_, fun f hf => W_n W (fun z => hv z.1) ((H.1 c2 h2).2.2 f hf)⟩, fun w hw => W_j W (H.2 w hw)⟩
  show _ = if c2 = c then x else K.2.1 c2
  by_cases g : c2 = c
  · rw [if_pos g, g]; exact W_e W
  · rw [if_neg g]; exact W_n W (fun z => g z.2) (H.1 c2 h2).2.1
theorem KST_v {i : Nat} {x : Int32} (H : KST M a b v d ca s K) (W : M1 = mm_setI M v i x) (hb : ¬ b = v) : KST M1 a b v d ca s (K.1, K.2.1, x_upI K.2.2.1 i x, K.2.2.2) := by
  refine ⟨fun c2 h2 => ⟨W_j W (H.1 c2 h2).1, W_n W (fun z => hb z.1) (H.1 c2 h2).2.1, fun f hf => ?_⟩, fun w hw => W_j W (H.2 w hw)⟩
  show _ = if 8 * c2 + f = i then x else K.2.2.1 (8 * c2 + f)
  by_cases g : 8 * c2 + f = i
  · rw [if_pos g, g]; exact W_e W
  · rw [if_neg g]; exact W_n W (fun z => g z.2) ((H.1 c2 h2).2.2 f hf)
theorem KST_d {w : Nat} {x : Int64} (H : KST M a b v d ca s K) (W : M1 = mm_setL M d w x) (ha : ¬ a = d) : KST M1 a b v d ca s (K.1, K.2.1, K.2.2.1, x_upL K.2.2.2 w x) := by
  refine ⟨fun c2 h2 => ⟨L_n W (fun z => ha z.1) (H.1 c2 h2).1, W_l W (H.1 c2 h2).2.1, fun f hf => W_l W ((H.1 c2 h2).2.2 f hf)⟩, fun w2 h2 => ?_⟩
  show _ = if w2 = w then x else K.2.2.2 w2
  by_cases g : w2 = w
  · rw [if_pos g, g]; exact L_e W
  · rw [if_neg g]; exact L_n W (fun z => g z.2) (H.2 w2 h2)
theorem KST_lc {A : Int} {l : Int64} (H : KST M a b v d ca s K) (h0 : 0 ≤ A) (h1 : A < ca) (w : M.2.2.1 a A.toNat = l) : l = K.1 A.toNat := w.symm.trans (H.1 A.toNat (by omega)).1
theorem KST_lw {A : Int} {l : Int32} (H : KST M a b v d ca s K) (h0 : 0 ≤ A) (h1 : A < ca) (w : M.2.1 b A.toNat = l) : l = K.2.1 A.toNat := w.symm.trans (H.1 A.toNat (by omega)).2.1
theorem KST_ld {A : Int} {l : Int64} (H : KST M a b v d ca s K) (h0 : 0 ≤ A) (h1 : A < s.2.2.1) (w : M.2.2.1 d A.toNat = l) : l = K.2.2.2 A.toNat := w.symm.trans (H.2 A.toNat (by omega))
theorem KST_lv {A c f : Int} {l : Int32} (H : KST M a b v d ca s K) (h0 : 0 ≤ c) (h1 : c < ca) (h2 : 0 ≤ f) (h3 : f < 8) (hA : A = 8 * c + f) (w : M.2.1 v A.toNat = l) : l = K.2.2.1 (8 * c.toNat + f.toNat) := by
  rw [← w, show A.toNat = 8 * c.toNat + f.toNat by omega]
  exact (H.1 c.toNat (by omega)).2.2 f.toNat (by omega)
theorem KST_q {K2 : x_Kn} (e : K = K2) (H : KST M a b v d ca s K) : KST M a b v d ca s K2 := e ▸ H
end KSTS
section XAP
variable {s : x_S} {N : x_N} {k : Nat} {K : x_Kn}
theorem x_ap_0 {c i : Nat} {x : Int64} {v : Int32} (hk : (N.1 k).toInt = 0) (hc : c = (N.2.1 k).toInt.toNat) (hx : x = K.1 (N.2.1 k).toInt.toNat ||| x_cd s (N.2.2.1 k).toInt (N.2.2.2 k).toInt) (hi : i = 8 * (N.2.1 k).toInt.toNat + (N.2.2.1 k).toInt.toNat) (hv : v = N.2.2.2 k) : (x_upL K.1 c x, K.2.1, x_upI K.2.2.1 i v, K.2.2.2) = x_ap s N k K := by
  subst hc; subst hx; subst hi; subst hv
  unfold x_ap
  rw [if_pos hk]
theorem x_ap_1 {c c2 : Nat} {x : Int64} {y : Int32} (hk : (N.1 k).toInt = 1) (hc : c = (N.2.1 k).toInt.toNat) (hc2 : c2 = (N.2.1 k).toInt.toNat) (hx : x = K.1 (N.2.1 k).toInt.toNat ||| K.2.2.2 (N.2.2.1 k).toInt.toNat) (hy : y = K.2.1 (N.2.1 k).toInt.toNat ||| ((1 : Int32) <<< N.2.2.1 k)) : (x_upL K.1 c x, x_upI K.2.1 c2 y, K.2.2.1, K.2.2.2) = x_ap s N k K := by
  subst hc; subst hc2; subst hx; subst hy
  unfold x_ap
  rw [if_neg (by omega), if_pos hk]
theorem x_ap_2 {c : Nat} {x : Int64} (hk : (N.1 k).toInt = 2) (hc : c = (N.2.1 k).toInt.toNat) (hx : x = K.1 (N.2.1 k).toInt.toNat ||| ((1 : Int64) <<< ((N.2.2.1 k).toInt64 &&& 63))) : (x_upL K.1 c x, K.2.1, K.2.2.1, K.2.2.2) = x_ap s N k K := by
  subst hc; subst hx
  unfold x_ap
  rw [if_neg (by omega), if_neg (by omega), if_pos hk]
theorem x_ap_3 {c : Nat} {x : Int64} (hk : (N.1 k).toInt = 3) (hc : c = (N.2.1 k).toInt.toNat) (hx : x = K.1 (N.2.1 k).toInt.toNat &&& (((1 : Int64) <<< ((N.2.2.1 k).toInt64 &&& 63)) ^^^ (-1 : Int64))) : (x_upL K.1 c x, K.2.1, K.2.2.1, K.2.2.2) = x_ap s N k K := by
  subst hc; subst hx
  unfold x_ap
  rw [if_neg (by omega), if_neg (by omega), if_neg (by omega), if_pos hk]
theorem x_ap_4 {c : Nat} {x : Int64} (hk : (N.1 k).toInt = 4) (hc : c = (N.2.1 k).toInt.toNat) (hx : x = (N.2.2.1 k).toInt64 <<< x_sh (x_row s 3 (x_row s 7 (N.2.1 k).toInt))) : (K.1, K.2.1, K.2.2.1, x_upL K.2.2.2 c x) = x_ap s N k K := by
  subst hc; subst hx
  unfold x_ap
  rw [if_neg (by omega), if_neg (by omega), if_neg (by omega), if_neg (by omega), if_pos hk]
theorem x_ap_5 (hk : (N.1 k).toInt < 0 ∨ 4 < (N.1 k).toInt) : K = x_ap s N k K := by
  unfold x_ap
  rw [if_neg (by omega), if_neg (by omega), if_neg (by omega), if_neg (by omega), if_neg (by omega)]
end XAP
/-! which notes are struck -/
noncomputable def SQc (M : mm_M) (N : x_N) (n i : Int) : Prop := ∃ S : Nat → Int, (∀ k : Nat, (k : Int) < n → (M.2.1 16 k).toInt = S k) ∧ x_mk N i.toNat S = x_mk N n.toNat (fun _ => 0)
noncomputable def SQr (M : mm_M) (N : x_N) (n i : Int) : Prop := ∃ S : Nat → Int, (∀ k : Nat, (k : Int) < n → (M.2.1 94 k).toInt = 1 - S k) ∧ x_mk N i.toNat S = x_mk N n.toNat (fun _ => 0)
section SQS
variable {M M1 : mm_M} {N : x_N} {n i i2 j : Int}
theorem SQc_0 (h : ∀ k : Nat, (k : Int) < n → M.2.1 16 k = 0) (hi : i = n) : SQc M N n i := ⟨fun _ => 0, fun k hk => by rw [h k hk]; rfl, by rw [hi]⟩
theorem SQr_0 (h : ∀ k : Nat, (k : Int) < n → M.2.1 94 k = 1) (hi : i = n) : SQr M N n i := ⟨fun _ => 0, fun k hk => by rw [h k hk]; rfl, by rw [hi]⟩
theorem SQc_1 (H : SQc M N n j) (h0 : 0 ≤ i) (hj : j = i + 1) (h2 : i2 = i) (hk : ¬ (N.1 i.toNat).toInt = 5) : SQc M N n i2 := by
  subst h2
  obtain ⟨S, h1, h3⟩ := H
  refine ⟨S, h1, ?_⟩
  rw [← h3, show j.toNat = i2.toNat + 1 by omega, x_mk, if_neg (fun z => hk z.1)]
theorem SQr_1 (H : SQr M N n j) (h0 : 0 ≤ i) (hj : j = i + 1) (h2 : i2 = i) (hk : ¬ (N.1 i.toNat).toInt = 5) : SQr M N n i2 := by
  subst h2
  obtain ⟨S, h1, h3⟩ := H
  refine ⟨S, h1, ?_⟩
  rw [← h3, show j.toNat = i2.toNat + 1 by omega, x_mk, if_neg (fun z => hk z.1)]
theorem SQc_2 {x : Int32} (H : SQc M N n j) (h0 : 0 ≤ i) (hn : i < n) (hj : j = i + 1) (h2 : i2 = i) (w : M.2.1 16 i.toNat = x) (hx : ¬ x.toInt = 0) : SQc M N n i2 := by
  subst h2
  obtain ⟨S, h1, h3⟩ := H
  have e := h1 i2.toNat (by omega)
  rw [w] at e
  refine ⟨S, h1, ?_⟩
  rw [← h3, show j.toNat = i2.toNat + 1 by omega, x_mk, if_neg (fun z => hx (by rw [e]; exact z.2))]
theorem SQr_2 {x : Int32} (H : SQr M N n j) (h0 : 0 ≤ i) (hn : i < n) (hj : j = i + 1) (h2 : i2 = i) (w : M.2.1 94 i.toNat = x) (hx : x.toInt = 0) : SQr M N n i2 := by
  subst h2
  obtain ⟨S, h1, h3⟩ := H
  have e := h1 i2.toNat (by omega)
  rw [w] at e
  refine ⟨S, h1, ?_⟩
  rw [← h3, show j.toNat = i2.toNat + 1 by omega, x_mk, if_neg (fun z => by omega)]
theorem SQc_3 {x : Int32} {f : Nat} (H : SQc M N n j) (h0 : 0 ≤ i) (hn : i < n) (hj : j = i + 1) (h2 : i2 = i) (w : M.2.1 16 i.toNat = x) (hx : x.toInt = 0) (hk : (N.1 i.toNat).toInt = 5) (W : M1 = mm_setI M 16 f (1 : Int32)) (hf : f = (N.2.1 i.toNat).toInt.toNat) : SQc M1 N n i2 := by
  subst h2
  obtain ⟨S, h1, h3⟩ := H
  have e := h1 i2.toNat (by omega)
  rw [w] at e
  refine ⟨x_upZ S f 1, fun k hk9 => ?_, ?_⟩
  · show _ = if k = f then 1 else S k
    by_cases g : k = f
    · rw [if_pos g, g, W_e W]; rfl
    · rw [if_neg g, W_n W (fun z => g z.2) rfl]; exact h1 k hk9
  · rw [← h3, show j.toNat = i2.toNat + 1 by omega, x_mk, if_pos ⟨hk, by omega⟩, hf]
theorem SQr_3 {x : Int32} {f : Nat} (H : SQr M N n j) (h0 : 0 ≤ i) (hn : i < n) (hj : j = i + 1) (h2 : i2 = i) (w : M.2.1 94 i.toNat = x) (hx : x.toInt = 1) (hk : (N.1 i.toNat).toInt = 5) (W : M1 = mm_setI M 94 f (0 : Int32)) (hf : f = (N.2.1 i.toNat).toInt.toNat) : SQr M1 N n i2 := by
  subst h2
  obtain ⟨S, h1, h3⟩ := H
  have e := h1 i2.toNat (by omega)
  rw [w] at e
  refine ⟨x_upZ S f 1, fun k hk9 => ?_, ?_⟩
  · show _ = 1 - (if k = f then 1 else S k)
    by_cases g : k = f
    · rw [if_pos g, g, W_e W]; rfl
    · rw [if_neg g, W_n W (fun z => g z.2) rfl]; exact h1 k hk9
  · rw [← h3, show j.toNat = i2.toNat + 1 by omega, x_mk, if_pos ⟨hk, by omega⟩, hf]
theorem SQc_e (H : SQc M N n i) (hi : i = 0) : ∀ k : Nat, (k : Int) < n → (M.2.1 16 k).toInt = x_st N n.toNat k := by
  obtain ⟨S, h1, h3⟩ := H
  rw [hi] at h3
  have h3 : S = x_st N n.toNat := h3
  rw [← h3]
  exact h1
theorem SQr_e (H : SQr M N n i) (hi : i = 0) : ∀ k : Nat, (k : Int) < n → (M.2.1 94 k).toInt = 1 - x_st N n.toNat k := by
  obtain ⟨S, h1, h3⟩ := H
  rw [hi] at h3
  have h3 : S = x_st N n.toNat := h3
  rw [← h3]
  exact h1
end SQS
/-! a row filled from its front -/
theorem fill_s {M M1 : mm_M} {a : Nat} {c x y : Int} {v : Int32} (H : ∀ k : Nat, (k : Int) < x → M.2.1 a k = v) (W : M1 = mm_setI M a c.toNat v) (h0 : 0 ≤ c) (hc : c = x) (hy : y = x + 1) : ∀ k : Nat, (k : Int) < y → M1.2.1 a k = v := fun k hk => by
  by_cases g : (k : Int) < x
  · exact W_n W (by omega) (H k g)
  · rw [show k = c.toNat by omega]
    exact W_e W
/-! the class forgets -/
noncomputable def FG1 (M : mm_M) (x : Int) : Prop := ∀ c : Nat, (c : Int) < x → M.2.2.1 12 c = 0 ∧ M.2.1 13 c = 0
noncomputable def FG2 (M : mm_M) (x : Int) : Prop := FG1 M 30 ∧ ∀ i : Nat, (i : Int) < x → M.2.1 14 i = -1
noncomputable def FG3 (M : mm_M) (s : x_S) (x : Int) : Prop := FG2 M 240 ∧ ∀ w : Nat, (w : Int) < x → (w : Int) < s.2.2.1 → M.2.2.1 15 w = Int64.ofInt (s.2.2.2.2 8 w)
section FGS
variable {M M1 M2 : mm_M} {s : x_S} {x y c : Int} {p : Nat}
theorem FG1_0 (h : x = 0) : FG1 M x := fun c hc => by omega
theorem FG1_s (H : FG1 M x) (W1 : M1 = mm_setL M 12 c.toNat (0 : Int64)) (W2 : M2 = mm_setI M1 13 c.toNat (0 : Int32)) (h0 : 0 ≤ c) (hc : c = x) (hy : y = x + 1) : FG1 M2 y := fun k hk => by
  by_cases g : (k : Int) < x
  · exact ⟨W_j W2 (L_n W1 (by omega) (H k g).1), W_n W2 (by omega) (W_l W1 (H k g).2)⟩
  · rw [show k = c.toNat by omega]
    exact ⟨W_j W2 (L_e W1), W_e W2⟩
theorem FG2_0 (H : FG1 M c) (hc : c = 30) (h : x = 0) : FG2 M x := ⟨hc ▸ H, fun i hi => by omega⟩
theorem FG2_s (H : FG2 M x) (W : M1 = mm_setI M 14 c.toNat (-1 : Int32)) (h0 : 0 ≤ c) (hc : c = x) (hy : y = x + 1) : FG2 M1 y := ⟨fun k hk => ⟨W_j W (H.1 k hk).1, W_n W (by omega) (H.1 k hk).2⟩, fill_s H.2 W h0 hc hy⟩
theorem FG3_0 (H : FG2 M c) (hc : c = 240) (h : x = 0) : FG3 M s x := ⟨hc ▸ H, fun i hi => by omega⟩
theorem FG3_s {l : Int64} (H : FG3 M s x) (C : CW M p s) (hl : M.2.2.1 (p + 8) c.toNat = l) (W : M1 = mm_setL M 15 c.toNat l) (h0 : 0 ≤ c) (hc : c = x) (hy : y = x + 1) : FG3 M1 s y := by
  refine ⟨⟨fun k hk => ⟨L_n W (by omega) (H.1.1 k hk).1, W_l W (H.1.1 k hk).2⟩, fun i hi => W_l W (H.1.2 i hi)⟩, fun w hw hw2 => ?_⟩
  by_cases g : (w : Int) < x
  · exact L_n W (by omega) (H.2 w g hw2)
  · have e := C w hw2
    rw [show w = c.toNat by omega] at e ⊢
    rw [L_e W, ← e, hl, Int64.ofInt_toInt]
theorem FG3_e {ca : Int} (H : FG3 M s c) (hc : c = 12) (hca : ca ≤ 30) (hG : x_G s) : KST M 12 13 14 15 ca s (x_k0 s) := by
  have w12 := hG.2.2.2.2.2.1
  exact ⟨fun c hc => ⟨(H.1.1 c (by omega)).1, (H.1.1 c (by omega)).2, fun f hf => H.1.2 (8 * c + f) (by omega)⟩, fun w hw => H.2 w (by omega) hw⟩
end FGS
/-! the reference forgets -/
noncomputable def GR0 (M : mm_M) (s : x_S) (x : Int) : Prop := ∀ w : Nat, (w : Int) < x → M.2.2.1 95 w = Int64.ofInt (s.2.2.2.2 8 w)
noncomputable def GR1 (M : mm_M) (s : x_S) (x : Int) : Prop := GR0 M s s.2.2.1 ∧ ∀ c : Nat, (c : Int) < x → M.2.2.1 96 c = 0 ∧ M.2.1 98 c = 0 ∧ ∀ f : Nat, f < 8 → M.2.1 97 (8 * c + f) = -1
noncomputable def GR2 (M : mm_M) (s : x_S) (x y : Int) : Prop := GR1 M s x ∧ M.2.2.1 96 x.toNat = 0 ∧ M.2.1 98 x.toNat = 0 ∧ ∀ f : Nat, (f : Int) < y → M.2.1 97 (8 * x.toNat + f) = -1
section GRS
variable {M M1 M2 : mm_M} {s : x_S} {x y c : Int}
theorem GR0_0 (h : x = 0) : GR0 M s x := fun c hc => by omega
theorem GR0_s {l : Int64} (H : GR0 M s x) (C : CWk M s) (hl : M.2.2.1 87 c.toNat = l) (W : M1 = mm_setL M 95 c.toNat l) (h0 : 0 ≤ c) (hc : c = x) (hs : x < s.2.2.1) (hy : y = x + 1) : GR0 M1 s y := fun w hw => by
  by_cases g : (w : Int) < x
  · exact L_n W (by omega) (H w g)
  · have e := C w (by omega)
    rw [show w = c.toNat by omega] at e ⊢
    rw [L_e W, ← e, hl, Int64.ofInt_toInt]
theorem GR1_0 (H : GR0 M s c) (hc : c = s.2.2.1) (h : x = 0) : GR1 M s x := ⟨hc ▸ H, fun i hi => by omega⟩
theorem GR2_0 (H : GR1 M s x) (W1 : M1 = mm_setL M 96 c.toNat (0 : Int64)) (W2 : M2 = mm_setI M1 98 c.toNat (0 : Int32)) (h0 : 0 ≤ c) (hc : c = x) (hy : y = 0) : GR2 M2 s x y := by
  subst hc
  refine ⟨⟨fun w hw => W_j W2 (L_n W1 (by omega) (H.1 w hw)), fun k hk => ⟨W_j W2 (L_n W1 (by omega) (H.2 k hk).1), W_n W2 (by omega) (W_l W1 (H.2 k hk).2.1), fun f hf => W_n W2 (by omega) (W_l W1 ((H.2 k hk).2.2 f hf))⟩⟩, W_j W2 (L_e W1), W_e W2, fun f hf => by omega⟩
theorem GR2_s {i : Int} (H : GR2 M s x y) (W : M1 = mm_setI M 97 i.toNat (-1 : Int32)) (h0 : 0 ≤ x) (h1 : 0 ≤ y) (h8 : y < 8) (hi : i = 8 * x + y) {z : Int} (hz : z = y + 1) : GR2 M1 s x z := by
  refine ⟨⟨fun w hw => W_j W (H.1.1 w hw), fun k hk => ⟨W_j W (H.1.2 k hk).1, W_n W (by omega) (H.1.2 k hk).2.1, fun f hf => W_n W (by omega) ((H.1.2 k hk).2.2 f hf)⟩⟩, W_j W H.2.1, W_n W (by omega) H.2.2.1, fun f hf => ?_⟩
  by_cases g : (f : Int) < y
  · exact W_n W (by omega) (H.2.2.2 f g)
  · rw [show 8 * x.toNat + f = i.toNat by omega]
    exact W_e W
theorem GR1_s (H : GR2 M s x c) (hc : c = 8) (h0 : 0 ≤ x) (hy : y = x + 1) : GR1 M s y := by
  refine ⟨H.1.1, fun k hk => ?_⟩
  by_cases g : (k : Int) < x
  · exact H.1.2 k g
  · rw [show k = x.toNat by omega]
    exact ⟨H.2.1, H.2.2.1, fun f hf => H.2.2.2 f (by omega)⟩
theorem GR1_e {ca : Int} (H : GR1 M s c) (hc : c = ca) : KST M 96 98 97 95 ca s (x_k0 s) := ⟨fun k hk => H.2 k (by omega), fun w hw => H.1 w hw⟩
theorem GR0_f (h : ∀ i : Nat, M1.2.2.1 95 i = M.2.2.1 95 i) (H : GR0 M s x) : GR0 M1 s x := fun w hw => (h w).trans (H w hw)
end GRS
/-! note by note -/
noncomputable def RPK (M : mm_M) (a b v d : Nat) (ca : Int) (s : x_S) (N : x_N) (n i : Int) : Prop := ∃ K : x_Kn, KST M a b v d ca s K ∧ x_rp s N (x_st N n.toNat) (n - i).toNat i.toNat K = x_kn s N n.toNat
section RPS
variable {M : mm_M} {a b v d : Nat} {ca : Int} {s : x_S} {N : x_N} {n i j : Int} {K : x_Kn}
theorem RPK_0 (H : KST M a b v d ca s (x_k0 s)) (hi : i = 0) : RPK M a b v d ca s N n i := by
  subst hi
  refine ⟨x_k0 s, H, ?_⟩
  rw [show n - 0 = n by omega]
  rfl
theorem RPK_1 (H : KST M a b v d ca s K) (e : x_rp s N (x_st N n.toNat) (n - i).toNat i.toNat K = x_kn s N n.toNat) (h0 : 0 ≤ i) (hn : i < n) (hj : j = i + 1) (hs : ¬ x_st N n.toNat i.toNat = 0) : RPK M a b v d ca s N n j := by
  subst hj
  refine ⟨K, H, ?_⟩
  rw [← e, show (n - i).toNat = (n - (i + 1)).toNat + 1 by omega, x_rp, if_neg hs, show (i + 1).toNat = i.toNat + 1 by omega]
theorem RPK_2 (H : KST M a b v d ca s (x_ap s N i.toNat K)) (e : x_rp s N (x_st N n.toNat) (n - i).toNat i.toNat K = x_kn s N n.toNat) (h0 : 0 ≤ i) (hn : i < n) (hj : j = i + 1) (hs : x_st N n.toNat i.toNat = 0) : RPK M a b v d ca s N n j := by
  subst hj
  refine ⟨x_ap s N i.toNat K, H, ?_⟩
  rw [← e, show (n - i).toNat = (n - (i + 1)).toNat + 1 by omega, x_rp, if_pos hs, show (i + 1).toNat = i.toNat + 1 by omega]
theorem RPK_e (H : KST M a b v d ca s K) (e : x_rp s N (x_st N n.toNat) (n - i).toNat i.toNat K = x_kn s N n.toNat) (hn : n ≤ i) : KST M a b v d ca s (x_kn s N n.toNat) := by
  rw [show (n - i).toNat = 0 by omega] at e
  exact e ▸ H
end RPS
/-! what the calls answer -/
noncomputable def x_coded (s : x_S) (N : x_N) (sz n w : Int) : Int64 := if 0 ≤ n ∧ n ≤ sz ∧ 0 ≤ w ∧ w < s.2.2.1 then (x_kn s N n.toNat).2.2.2 w.toNat else 0
noncomputable def x_notched (s : x_S) (N : x_N) (sz ca n c : Int) : Int64 := if 0 ≤ n ∧ n ≤ sz ∧ 0 ≤ c ∧ c < ca then (x_kn s N n.toNat).1 c.toNat else -1
theorem x_coded_y {s : x_S} {N : x_N} {sz n w : Int} {l : Int64} (h : 0 ≤ n ∧ n ≤ sz ∧ 0 ≤ w ∧ w < s.2.2.1) (e : l = (x_kn s N n.toNat).2.2.2 w.toNat) : l = x_coded s N sz n w := by
  unfold x_coded
  rw [if_pos h]
  exact e
theorem x_coded_n {s : x_S} {N : x_N} {sz n w : Int} (h : ¬ (0 ≤ n ∧ n ≤ sz ∧ 0 ≤ w ∧ w < s.2.2.1)) : (0 : Int64) = x_coded s N sz n w := by
  unfold x_coded
  rw [if_neg h]
theorem x_notched_y {s : x_S} {N : x_N} {sz ca n c : Int} {l : Int64} (h : 0 ≤ n ∧ n ≤ sz ∧ 0 ≤ c ∧ c < ca) (e : l = (x_kn s N n.toNat).1 c.toNat) : l = x_notched s N sz ca n c := by
  unfold x_notched
  rw [if_pos h]
  exact e
theorem x_notched_n {s : x_S} {N : x_N} {sz ca n c : Int} (h : ¬ (0 ≤ n ∧ n ≤ sz ∧ 0 ≤ c ∧ c < ca)) : (-1 : Int64) = x_notched s N sz ca n c := by
  unfold x_notched
  rw [if_neg h]
/-! plan and notes alike on both sides -/
noncomputable def nnM (M : mm_M) : x_N := (M.2.1 7, M.2.1 8, M.2.1 9, M.2.1 10)
noncomputable def AN (M : mm_M) : Prop := ∃ s : x_S, (TPl M s ∧ PLk2 M s) ∧ NTr M (nnM M) (M.2.1 6 0).toInt ∧ x_vn s (M.2.1 0 12).toInt (nnM M) (M.2.1 6 0).toInt
theorem AN_a {M : mm_M} (H : AN M) : AL M := by
  obtain ⟨s, h, -⟩ := H
  exact ⟨s, h⟩
theorem nn_f {M M1 : mm_M} (h : ∀ a i : Nat, 7 ≤ a ∧ a ≤ 10 → M1.2.1 a i = M.2.1 a i) : nnM M1 = nnM M := by
  have e7 : M1.2.1 7 = M.2.1 7 := funext (fun i => h 7 i (by decide))
  have e8 : M1.2.1 8 = M.2.1 8 := funext (fun i => h 8 i (by decide))
  have e9 : M1.2.1 9 = M.2.1 9 := funext (fun i => h 9 i (by decide))
  have e10 : M1.2.1 10 = M.2.1 10 := funext (fun i => h 10 i (by decide))
  unfold nnM
  rw [e7, e8, e9, e10]
theorem x_vn_ca {s : x_S} {ca cb n : Int} {N : x_N} (h : ca ≤ cb) (H : x_vn s ca N n) : x_vn s cb N n := fun k hk => by
  obtain ⟨a0, a1, a2, a3, a4⟩ := H k hk
  exact ⟨fun z => ⟨(a0 z).1, Int.lt_of_lt_of_le (a0 z).2.1 h, (a0 z).2.2⟩, fun z => ⟨(a1 z).1, Int.lt_of_lt_of_le (a1 z).2.1 h, (a1 z).2.2⟩, fun z => ⟨(a2 z).1, Int.lt_of_lt_of_le (a2 z).2 h⟩, fun z => ⟨(a3 z).1, Int.lt_of_lt_of_le (a3 z).2 h⟩, a4⟩
theorem AN_g {M M1 : mm_M} (t : ∀ s : x_S, TPl M s → TPl M1 s) (k : ∀ s : x_S, PLk2 M s → PLk2 M1 s) (hn : ∀ a i : Nat, (7 ≤ a ∧ a ≤ 10 ∨ 90 ≤ a ∧ a ≤ 93) → M1.2.1 a i = M.2.1 a i) (h6 : M1.2.1 6 0 = M.2.1 6 0) (h12 : (M.2.1 0 12).toInt ≤ (M1.2.1 0 12).toInt) (H : AN M) : AN M1 := by
  obtain ⟨s, ⟨a1, a2⟩, a3, a4⟩ := H
  refine ⟨s, ⟨t s a1, k s a2⟩, ?_, ?_⟩
  · rw [nn_f (fun a i z => hn a i (Or.inl z)), h6]
    exact NTr_f (fun a i z => hn a i (Or.inr z)) a3
  · rw [nn_f (fun a i z => hn a i (Or.inl z)), h6]
    exact x_vn_ca h12 a4
theorem AN_C {M M1 : mm_M} {P : Nat → Nat → Prop} (F : FR P M M1) (h : ∀ a i : Nat, (49 ≤ a ∧ a ≤ 66 ∨ a = 77 ∧ 11 ≤ i ∧ i ≤ 13 ∨ 80 ≤ a ∧ a ≤ 87 ∨ 6 ≤ a ∧ a ≤ 10 ∨ 90 ≤ a ∧ a ≤ 93) → ¬ P a i) (h12 : (M.2.1 0 12).toInt ≤ (M1.2.1 0 12).toInt) (H : AN M) : AN M1 :=
  AN_g (fun s h1 => TPl_f (fun a i z => F.2.2 a i (h a i (by omega))) (by rw [F.2.1]) h1) (fun s h2 => PLk2_f (fun a i z => (F.2.2 a i (h a i (by omega))).1) (fun i _ => (F.2.2 87 i (h 87 i (by omega))).2) h2) (fun a i z => (F.2.2 a i (h a i (by omega))).1) (F.2.2 6 0 (h 6 0 (by omega))).1 h12 H
theorem AN_F {M M1 : mm_M} {P : Nat → Nat → Prop} (F : FR P M M1) (h : ∀ a i : Nat, (49 ≤ a ∧ a ≤ 66 ∨ a = 77 ∧ 11 ≤ i ∧ i ≤ 13 ∨ 80 ≤ a ∧ a ≤ 87 ∨ 6 ≤ a ∧ a ≤ 10 ∨ 90 ≤ a ∧ a ≤ 93 ∨ a = 0 ∧ i = 12) → ¬ P a i) (H : AN M) : AN M1 := AN_C F (fun a i z => h a i (by omega)) (by rw [(F.2.2 0 12 (h 0 12 (by omega))).1]; exact Int.le_refl _) H
theorem AN_X {M M1 : mm_M} {P : Nat → Nat → Prop} (F : FRX P M M1) (h : ∀ a i : Nat, (49 ≤ a ∧ a ≤ 66 ∨ a = 77 ∧ 11 ≤ i ∧ i ≤ 13 ∨ 80 ≤ a ∧ a ≤ 87 ∨ 6 ≤ a ∧ a ≤ 10 ∨ 90 ≤ a ∧ a ≤ 93 ∨ a = 0 ∧ i = 12) → ¬ P a i) (hr : M1.2.2.2 0 8 = M.2.2.2 0 8) (H : AN M) : AN M1 :=
  AN_g (fun s h1 => TPl_f (fun a i z => F.2 a i (h a i (by omega))) hr h1) (fun s h2 => PLk2_f (fun a i z => (F.2 a i (h a i (by omega))).1) (fun i _ => (F.2 87 i (h 87 i (by omega))).2) h2) (fun a i z => (F.2 a i (h a i (by omega))).1) (F.2 6 0 (h 6 0 (by omega))).1 (by rw [(F.2 0 12 (h 0 12 (by omega))).1]; exact Int.le_refl _) H
theorem AN_K {M M1 : mm_M} (K : M1.2.1 = M.2.1) (kr : M1.2.2.2 = M.2.2.2) (kl : ∀ a i : Nat, a ≠ 125 → M1.2.2.1 a i = M.2.2.1 a i) (H : AN M) : AN M1 :=
  AN_g (fun s h1 => TPl_f (fun a i z => ⟨by rw [K], kl a i (by omega)⟩) (by rw [kr]) h1) (fun s h2 => PLk2_f (fun a i z => by rw [K]) (fun i _ => kl 87 i (by decide)) h2) (fun a i z => by rw [K]) (by rw [K]) (by rw [K]; exact Int.le_refl _) H
theorem AN_u {M : mm_M} {p pz q qz : Nat} (H : AN M) (hq : g_PQ M p pz q qz) : ∃ (sg : x_S) (N : x_N) (nz ca : Int), PLs2 M p sg ∧ PLk2 M sg ∧ NTc M N nz ∧ NTr M N nz ∧ x_vn sg ca N nz ∧ (M.2.1 6 0).toInt = nz ∧ (M.2.1 0 12).toInt = ca := by
  obtain ⟨s, ⟨⟨p2, hp2, e2, h1⟩, hk1⟩, a3, a4⟩ := H
  have ep : p2 = p := by
    have := hq.1
    rw [e2] at this
    exact Option.some.inj this
  subst ep
  exact ⟨s, nnM M, _, _, h1, hk1, fun k _ => ⟨rfl, rfl, rfl, rfl⟩, a3, a4, rfl, rfl⟩
theorem AN_p {M M1 M2 : mm_M} {p pz q qz : Nat} {R : x_Res} {r r2 : Int} {P1 P2 : Nat → Nat → Prop} (H : AN M) (hq : g_PQ M p pz q qz) (e : r = r2) (pf : r < 0 → ∀ s9 : x_S, PLs2 M p s9 → TPl M1 s9) (ps : 0 ≤ r → ∃ s2 : x_S, R = some (r, s2) ∧ TPl M1 s2) (F1 : FRX P1 M M1) (h1 : ∀ a i : Nat, 77 ≤ a → ¬ P1 a i) (F : FR P2 M1 M2) (h2 : ∀ a i : Nat, (49 ≤ a ∧ a ≤ 66 ∨ a ≤ 10 ∨ 90 ≤ a ∧ a ≤ 93) → ¬ P2 a i) (kf : r2 < 0 → ∀ s9 : x_S, PLk2 M1 s9 → PLk2 M2 s9) (ks : 0 ≤ r2 → ∃ s2 : x_S, R = some (r2, s2) ∧ PLk2 M2 s2) (nf : r < 0 → ∀ a i : Nat, (6 ≤ a ∧ a ≤ 10 ∨ a = 0 ∧ i = 12) → M1.2.1 a i = M.2.1 a i) (z6 : 0 ≤ r → (M1.2.1 6 0).toInt = 0) : AN M2 := by
  have tr : ∀ s, TPl M1 s → TPl M2 s := fun s h => TPl_f (fun a i z => F.2.2 a i (h2 a i (Or.inl z))) (by rw [F.2.1]) h
  by_cases g : r < 0
  · obtain ⟨s, ⟨⟨p2, hp2, e2, h3⟩, hk1⟩, a3, a4⟩ := H
    have ep : p2 = p := by
      have := hq.1
      rw [e2] at this
      exact Option.some.inj this
    subst ep
    have hn : ∀ a i : Nat, (7 ≤ a ∧ a ≤ 10 ∨ 90 ≤ a ∧ a ≤ 93) → M2.2.1 a i = M.2.1 a i := fun a i z => by
      rw [(F.2.2 a i (h2 a i (by omega))).1]
      rcases z with z | z
      · exact nf g a i (by omega)
      · exact (F1.2 a i (h1 a i (by omega))).1
    have h6 : M2.2.1 6 0 = M.2.1 6 0 := (F.2.2 6 0 (h2 6 0 (by omega))).1.trans (nf g 6 0 (by omega))
    have h12 : M2.2.1 0 12 = M.2.1 0 12 := (F.2.2 0 12 (h2 0 12 (by omega))).1.trans (nf g 0 12 (by omega))
    refine ⟨s, ⟨tr s (pf g s h3), kf (by omega) s (PLk2_f (fun a i z => (F1.2 a i (h1 a i (by omega))).1) (fun i _ => (F1.2 87 i (h1 87 i (by omega))).2) hk1)⟩, ?_, ?_⟩
    · rw [nn_f (fun a i z => hn a i (Or.inl z)), h6]
      exact NTr_f (fun a i z => hn a i (Or.inr z)) a3
    · rw [nn_f (fun a i z => hn a i (Or.inl z)), h6, h12]
      exact a4
  · obtain ⟨s2, e1, t1⟩ := ps (by omega)
    obtain ⟨s3, e3, k3⟩ := ks (by omega)
    have es : s2 = s3 := by
      rw [e1] at e3
      exact congrArg Prod.snd (Option.some.inj e3)
    subst es
    have z0 : (M2.2.1 6 0).toInt = 0 := by
      rw [(F.2.2 6 0 (h2 6 0 (by omega))).1]
      exact z6 (by omega)
    refine ⟨s2, ⟨tr s2 t1, k3⟩, ?_, ?_⟩
    · rw [z0]; exact fun k hk => by omega
    · rw [z0]; exact fun k hk => by omega
theorem AN_n {M M1 M2 : mm_M} {p pz q qz : Nat} {sg : x_S} {N : x_N} {nz ca r r2 : Int} {k f s t : Int32} {P1 P2 : Nat → Nat → Prop} (hp : p = 49 ∨ p = 58) (hq : g_PQ M p pz q qz) (h1 : PLs2 M p sg) (h2 : PLk2 M sg) (h3 : NTc M N nz) (h4 : NTr M N nz) (h5 : x_vn sg ca N nz) (e6 : (M.2.1 6 0).toInt = nz) (e12 : (M.2.1 0 12).toInt = ca) (F1 : FR P1 M M1) (p1 : ∀ a i : Nat, ¬ (6 ≤ a ∧ a ≤ 10) → ¬ P1 a i) (F2 : FR P2 M1 M2) (p2 : ∀ a i : Nat, ¬ (a = 77 ∧ (i = 2 ∨ i = 29) ∨ 90 ≤ a ∧ a ≤ 93) → ¬ P2 a i) (w1 : NWc M M1 r k f s t) (w2 : NWr M1 M2 r2 k f s t) (er : r = r2) (e29 : (M1.2.1 77 29).toInt = nz) (z1 : r < 0 → (M1.2.1 6 0).toInt = nz) (z2 : 0 ≤ r → (M1.2.1 6 0).toInt = nz + 1) (hv : 0 ≤ r → x_v5 sg ca k f s t) : AN M2 := by
  rw [← er] at w2
  have m1 : ∀ a i : Nat, ¬ (6 ≤ a ∧ a ≤ 10) → M1.2.1 a i = M.2.1 a i ∧ M1.2.2.1 a i = M.2.2.1 a i := fun a i z => F1.2.2 a i (p1 a i z)
  have m2 : ∀ a i : Nat, ¬ (a = 77 ∧ (i = 2 ∨ i = 29) ∨ 90 ≤ a ∧ a ≤ 93) → M2.2.1 a i = M1.2.1 a i ∧ M2.2.2.1 a i = M1.2.2.1 a i := fun a i z => F2.2.2 a i (p2 a i z)
  have hT : TPl M2 sg := ⟨p, hp, by rw [F2.2.1, F1.2.1]; exact hq.1, PLs2_f (fun a i z => ⟨(m2 a i (by omega)).1.trans (m1 a i (by omega)).1, (m2 a i (by omega)).2.trans (m1 a i (by omega)).2⟩) h1⟩
  have hK : PLk2 M2 sg := PLk2_f (fun a i z => (m2 a i (by omega)).1.trans (m1 a i (by omega)).1) (fun i _ => (m2 87 i (by omega)).2.trans (m1 87 i (by omega)).2) h2
  have c6 : M2.2.1 6 0 = M1.2.1 6 0 := (m2 6 0 (by omega)).1
  have c12 : (M2.2.1 0 12).toInt = ca := by rw [(m2 0 12 (by omega)).1, (m1 0 12 (by omega)).1]; exact e12
  have key : ∀ j : Nat, (j : Int) < (M1.2.1 6 0).toInt → (M2.2.1 90 j = M2.2.1 7 j ∧ M2.2.1 91 j = M2.2.1 8 j ∧ M2.2.1 92 j = M2.2.1 9 j ∧ M2.2.1 93 j = M2.2.1 10 j) ∧ x_v5 sg ca (M2.2.1 7 j) (M2.2.1 8 j) (M2.2.1 9 j) (M2.2.1 10 j) := by
    intro j hj
    have old : (∀ a : Nat, 7 ≤ a ∧ a ≤ 10 → M2.2.1 a j = M.2.1 a j) → (∀ a : Nat, 90 ≤ a ∧ a ≤ 93 → M2.2.1 a j = M.2.1 a j) → (j : Int) < nz → (M2.2.1 90 j = M2.2.1 7 j ∧ M2.2.1 91 j = M2.2.1 8 j ∧ M2.2.1 92 j = M2.2.1 9 j ∧ M2.2.1 93 j = M2.2.1 10 j) ∧ x_v5 sg ca (M2.2.1 7 j) (M2.2.1 8 j) (M2.2.1 9 j) (M2.2.1 10 j) := by
      intro c d hj2
      have a := h3 j hj2
      have b := h4 j hj2
      have v := h5 j hj2
      rw [c 7 (by decide), c 8 (by decide), c 9 (by decide), c 10 (by decide), d 90 (by decide), d 91 (by decide), d 92 (by decide), d 93 (by decide), a.1, a.2.1, a.2.2.1, a.2.2.2]
      exact ⟨b, v⟩
    rcases (show r < 0 ∨ 0 ≤ r by omega) with g | g
    · have := z1 g
      exact old (fun a z => (m2 a j (by omega)).1.trans (w1.1 g a j z)) (fun a z => (w2.1 g a j z).trans (m1 a j (by omega)).1) (by omega)
    · obtain ⟨o1, a0, a1, a2, a3⟩ := w1.2 g
      obtain ⟨o2, b0, b1, b2, b3⟩ := w2.2 g
      have n1 := z2 g
      rw [e6] at o1 a0 a1 a2 a3
      rw [e29] at o2 b0 b1 b2 b3
      by_cases gj : (j : Int) < nz
      · exact old (fun a z => (m2 a j (by omega)).1.trans (o1 a j z (by omega))) (fun a z => (o2 a j z (by omega)).trans (m1 a j (by omega)).1) gj
      · have ej : nz.toNat = j := by omega
        rw [ej] at a0 a1 a2 a3 b0 b1 b2 b3
        rw [(m2 7 j (by omega)).1, (m2 8 j (by omega)).1, (m2 9 j (by omega)).1, (m2 10 j (by omega)).1, a0, a1, a2, a3, b0, b1, b2, b3]
        exact ⟨⟨rfl, rfl, rfl, rfl⟩, hv g⟩
  refine ⟨sg, ⟨hT, hK⟩, fun j hj => ?_, fun j hj => ?_⟩
  · rw [c6] at hj
    exact (key j hj).1
  · rw [c6] at hj
    rw [c12]
    exact (key j hj).2
/-! the words of a field; what a card has truly -/
noncomputable def x_wo (s : x_S) (f : Int) : Nat → Nat → Int32 → Int32
  | 0, _, acc => acc
  | m + 1, k, acc => x_wo s f m (k + 1) (if s.2.2.2.2 7 k = f then acc ||| ((1 : Int32) <<< Int32.ofInt (k : Int)) else acc)
noncomputable def x_wof (s : x_S) (f : Int) : Int32 := x_wo s f s.2.2.1.toNat 0 0
section XWO
variable {s : x_S} {f k k2 : Int} {acc acc2 E v w u : Int32}
theorem x_wo_s (h0 : 0 ≤ k) (hk : k < s.2.2.1) (h2 : k2 = k + 1) (H : x_wo s f (s.2.2.1 - k).toNat k.toNat acc = E) (e : acc2 = if s.2.2.2.2 7 k.toNat = f then acc ||| ((1 : Int32) <<< Int32.ofInt ((k.toNat : Nat) : Int)) else acc) : x_wo s f (s.2.2.1 - k2).toNat k2.toNat acc2 = E := by
  rw [← H, show (s.2.2.1 - k).toNat = (s.2.2.1 - k2).toNat + 1 by omega, x_wo, show k2.toNat = k.toNat + 1 by omega, e]
theorem x_wo_y (h0 : 0 ≤ k) (hv : v.toInt = x_row s 7 k) (hf : v.toInt = f) (hw : w.toInt = k) (e1 : (1 : Int32) <<< w = u) (e2 : acc ||| u = acc2) : acc2 = if s.2.2.2.2 7 k.toNat = f then acc ||| ((1 : Int32) <<< Int32.ofInt ((k.toNat : Nat) : Int)) else acc := by
  rw [if_pos (show s.2.2.2.2 7 k.toNat = f from hv.symm.trans hf), ← e2, ← e1, x_i32 hw, show ((k.toNat : Nat) : Int) = k by omega]
theorem x_wo_n (hv : v.toInt = x_row s 7 k) (hf : ¬ v.toInt = f) : acc = if s.2.2.2.2 7 k.toNat = f then acc ||| ((1 : Int32) <<< Int32.ofInt ((k.toNat : Nat) : Int)) else acc := by
  rw [if_neg (show ¬ s.2.2.2.2 7 k.toNat = f from fun z => hf (hv.trans z))]
theorem x_wo_z (hv : v.toInt = x_row s 7 k) (hf : ¬ v.toInt = f) (e2 : acc ||| (0 : Int32) = acc2) : acc2 = if s.2.2.2.2 7 k.toNat = f then acc ||| ((1 : Int32) <<< Int32.ofInt ((k.toNat : Nat) : Int)) else acc := by
  rw [if_neg (show ¬ s.2.2.2.2 7 k.toNat = f from fun z => hf (hv.trans z)), ← e2, Int32.or_zero]
theorem x_wo_x (h : s.2.2.1 ≤ k) (H : x_wo s f (s.2.2.1 - k).toNat k.toNat acc = x_wof s f) : acc = x_wof s f := by
  rw [← H, show (s.2.2.1 - k).toNat = 0 by omega]
  rfl
end XWO
noncomputable def x_truly (s : x_S) (N : x_N) (sz ca n c f : Int) : Int32 := if 0 ≤ n ∧ n ≤ sz ∧ 0 ≤ c ∧ c < ca ∧ 0 ≤ f ∧ f < s.2.1 then (if x_row s 2 f = 3 then (x_kn s N n.toNat).2.1 c.toNat &&& x_wof s f else (x_kn s N n.toNat).2.2.1 (8 * c.toNat + f.toNat)) else -2
section XTR
variable {s : x_S} {N : x_N} {sz ca n c f : Int} {l : Int32}
theorem x_truly_n (h : ¬ (0 ≤ n ∧ n ≤ sz ∧ 0 ≤ c ∧ c < ca ∧ 0 ≤ f ∧ f < s.2.1)) : (-2 : Int32) = x_truly s N sz ca n c f := by
  unfold x_truly
  rw [if_neg h]
theorem x_truly_w (h : 0 ≤ n ∧ n ≤ sz ∧ 0 ≤ c ∧ c < ca ∧ 0 ≤ f ∧ f < s.2.1) (h3 : x_row s 2 f = 3) (e : l = (x_kn s N n.toNat).2.1 c.toNat &&& x_wof s f) : l = x_truly s N sz ca n c f := by
  unfold x_truly
  rw [if_pos h, if_pos h3]
  exact e
theorem x_truly_v (h : 0 ≤ n ∧ n ≤ sz ∧ 0 ≤ c ∧ c < ca ∧ 0 ≤ f ∧ f < s.2.1) (h3 : ¬ x_row s 2 f = 3) (e : l = (x_kn s N n.toNat).2.2.1 (8 * c.toNat + f.toNat)) : l = x_truly s N sz ca n c f := by
  unfold x_truly
  rw [if_pos h, if_neg h3]
  exact e
end XTR
/-! who drops falsely -/
theorem x_dr_b (a h : Int64) : (h &&& (a ^^^ (-1 : Int64)) = 0) ↔ (a &&& h = h) := by
  have ho : ∀ i : Fin 64, (-1 : Int64).toBitVec.getLsbD i.val = true := by decide +kernel
  have hz : ∀ i : Fin 64, (0 : Int64).toBitVec.getLsbD i.val = false := by decide +kernel
  have key : ∀ i : Nat, i < 64 → (h &&& (a ^^^ (-1 : Int64))).toBitVec.getLsbD i = (h.toBitVec.getLsbD i && !a.toBitVec.getLsbD i) := fun i hi => by
    rw [Int64.toBitVec_and, BitVec.getLsbD_and, Int64.toBitVec_xor, BitVec.getLsbD_xor, ho ⟨i, hi⟩]
    cases a.toBitVec.getLsbD i <;> cases h.toBitVec.getLsbD i <;> rfl
  have key2 : ∀ i : Nat, i < 64 → (a &&& h).toBitVec.getLsbD i = (a.toBitVec.getLsbD i && h.toBitVec.getLsbD i) := fun i hi => by
    rw [Int64.toBitVec_and, BitVec.getLsbD_and]
  constructor
  · intro e
    refine Int64.toBitVec_inj.mp (BitVec.eq_of_getLsbD_eq (fun i hi => ?_))
    have b := key i hi
    rw [e, hz ⟨i, hi⟩] at b
    rw [key2 i hi]
    revert b
    cases a.toBitVec.getLsbD i <;> cases h.toBitVec.getLsbD i <;> intro b <;> first | rfl | exact absurd b (by decide)
  · intro e
    refine Int64.toBitVec_inj.mp (BitVec.eq_of_getLsbD_eq (fun i hi => ?_))
    have b := key2 i hi
    rw [e] at b
    rw [key i hi, hz ⟨i, hi⟩]
    revert b
    cases a.toBitVec.getLsbD i <;> cases h.toBitVec.getLsbD i <;> intro b <;> first | rfl | exact absurd b (by decide)
theorem x_dr_r {a h : Int64} : x_eq (h &&& (a ^^^ (-1 : Int64))) 0 = x_eq (a &&& h) h := by
  unfold x_eq
  by_cases g : a &&& h = h
  · rw [if_pos g, if_pos ((x_dr_b a h).mpr g)]
  · rw [if_neg g, if_neg (fun z => g ((x_dr_b a h).mp z))]
noncomputable def x_hw (K : x_Kn) (c : Nat) (w : Int) : Int := ((K.2.1 c >>> Int32.ofInt w) &&& 1).toInt
theorem x_hw_e {K : x_Kn} {c : Nat} {W : Int} {v w u n : Int32} (z : v = K.2.1 c) (hw : w.toInt = W) (e1 : v >>> w = u) (e2 : u &&& 1 = n) : x_hw K c W = n.toInt := by
  unfold x_hw
  rw [← z, ← x_i32 hw, e1, e2]
noncomputable def x_fl9 (K : x_Kn) (w : Int) (h : Int64) : Nat → Nat → Int → Int
  | 0, _, n => n
  | m + 1, c, n => x_fl9 K w h m (c + 1) (if x_hw K c w = 0 ∧ x_eq (K.1 c &&& h) h = 1 then n + 1 else n)
theorem x_fl_s {K : x_Kn} {w ca c c2 n n2 E : Int} {h : Int64} (h0 : 0 ≤ c) (hc : c < ca) (hc2 : c2 = c + 1) (H : x_fl9 K w h (ca - c).toNat c.toNat n = E) (e : n2 = if x_hw K c.toNat w = 0 ∧ x_eq (K.1 c.toNat &&& h) h = 1 then n + 1 else n) : x_fl9 K w h (ca - c2).toNat c2.toNat n2 = E := by
  rw [← H, show (ca - c).toNat = (ca - c2).toNat + 1 by omega, x_fl9, show c2.toNat = c.toNat + 1 by omega, e]
theorem x_fl_0 {K : x_Kn} {w ca c n : Int} {h : Int64} (hc : c = 0) (hn : n = 0) : x_fl9 K w h (ca - c).toNat c.toNat n = x_fl9 K w h ca.toNat 0 0 := by
  rw [hc, hn, show ca - 0 = ca by omega]
  rfl
theorem x_fl_x {K : x_Kn} {w ca c n : Int} {h : Int64} (hc : ca ≤ c) (H : x_fl9 K w h (ca - c).toNat c.toNat n = x_fl9 K w h ca.toNat 0 0) : n = x_fl9 K w h ca.toNat 0 0 := by
  rw [← H, show (ca - c).toNat = 0 by omega]
  rfl
noncomputable def x_falsely (s : x_S) (N : x_N) (sz ca n w : Int) : Int := if 0 ≤ n ∧ n ≤ sz ∧ 0 ≤ w ∧ w < s.2.2.1 then x_fl9 (x_kn s N n.toNat) w ((x_kn s N n.toNat).2.2.2 w.toNat) ca.toNat 0 0 else -1
theorem x_falsely_y {s : x_S} {N : x_N} {sz ca n w : Int} (h : 0 ≤ n ∧ n ≤ sz ∧ 0 ≤ w ∧ w < s.2.2.1) : x_falsely s N sz ca n w = x_fl9 (x_kn s N n.toNat) w ((x_kn s N n.toNat).2.2.2 w.toNat) ca.toNat 0 0 := by
  unfold x_falsely
  rw [if_pos h]
theorem x_falsely_n {s : x_S} {N : x_N} {sz ca n w : Int} (h : ¬ (0 ≤ n ∧ n ≤ sz ∧ 0 ≤ w ∧ w < s.2.2.1)) : x_falsely s N sz ca n w = -1 := by
  unfold x_falsely
  rw [if_neg h]
/-! look, exact -/
noncomputable def LKV (M1 : mm_M) (s : x_S) (f w : Int32) : Prop := (¬ (f.toInt < 0 ∨ s.2.1 ≤ f.toInt) ∧ 0 ≤ w.toInt ∧ w.toInt ≤ 3) → ∃ v : Int32, M1.2.2.1 125 0 = v.toInt64 ∧ v.toInt = x_row s (2 + w.toInt.toNat) f.toInt
section LKE
variable {X : mm_X} {d mi pc : Nat} {ls st : List Value} {M : mm_M} {Q : Option Value → mm_M → Prop} {len a b : Nat} {ps : List Nat}
theorem s_lkE {k : Nat} {f w : Int32} {rest : List Value} {s : x_S} (hc : mm_code mi pc = some (.invokestatic k, len, 998, 4, ps)) (hd : 1 ≤ d) (h8 : Nat.ble (mm_w8 rest) 8 = true) (hG : g_G M) (hT : TPl M s) (h : ∀ (r : Int32) (M1 : mm_M), g_G M1 → M1.2.1 = M.2.1 → M1.2.2.2 = M.2.2.2 → (∀ a i : Nat, a ≠ 125 → M1.2.2.1 a i = M.2.2.1 a i) → M1.1.2.1 = M.1.2.1 + 1 → M1.1.2.2.1 = M.1.2.2.1 + 6 → (f.toInt < 0 ∨ s.2.1 ≤ f.toInt → r.toInt = 1) → (¬ (f.toInt < 0 ∨ s.2.1 ≤ f.toInt) ∧ 0 ≤ w.toInt ∧ w.toInt ≤ 3 → r.toInt = 0) → LKV M1 s f w → (¬ (f.toInt < 0 ∨ s.2.1 ≤ f.toInt) ∧ ¬ (0 ≤ w.toInt ∧ w.toInt ≤ 3) → r.toInt = 2) → mm_T X d mi (pc + 3) ls (.int r :: rest) M1 Q) : mm_T X d mi pc ls (.ref 125 :: .int w :: .int f :: .ref 0 :: rest) M Q := by
  obtain ⟨e, rfl⟩ : ∃ e, d = e + 1 := ⟨d - 1, by omega⟩
  obtain ⟨p, hp, h5, hP⟩ := hT
  have hP := hP.1
  have h2F : (M.2.1 p 2).toInt = s.2.1 := hP.2.2.1
  have w4 : (w = 0 ∨ w = 1 ∨ w = 2 ∨ w = 3) ↔ (0 ≤ w.toInt ∧ w.toInt ≤ 3) := by
    constructor
    · rintro (rfl | rfl | rfl | rfl) <;> decide
    · intro z
      rcases (show w.toInt = 0 ∨ w.toInt = 1 ∨ w.toInt = 2 ∨ w.toInt = 3 by omega) with z | z | z | z
      · exact Or.inl (Int32.toInt_inj.mp z)
      · exact Or.inr (Or.inl (Int32.toInt_inj.mp z))
      · exact Or.inr (Or.inr (Or.inl (Int32.toInt_inj.mp z)))
      · exact Or.inr (Or.inr (Or.inr (Int32.toInt_inj.mp z)))
  have key : ∃ (r : Int32) (M1 : mm_M), mm_look M [.ref 0, .int f, .int w, .ref 125] = some (some (.int r), M1) ∧ g_G M1 ∧ M1.2.1 = M.2.1 ∧ M1.2.2.2 = M.2.2.2 ∧ (∀ a i : Nat, a ≠ 125 → M1.2.2.1 a i = M.2.2.1 a i) ∧ M1.1.2.1 = M.1.2.1 + 1 ∧ M1.1.2.2.1 = M.1.2.2.1 + 6 ∧ (f.toInt < 0 ∨ s.2.1 ≤ f.toInt → r.toInt = 1) ∧ (¬ (f.toInt < 0 ∨ s.2.1 ≤ f.toInt) ∧ 0 ≤ w.toInt ∧ w.toInt ≤ 3 → r.toInt = 0 ∧ ∃ v : Int32, M1.2.2.1 125 0 = v.toInt64 ∧ v.toInt = x_row s (2 + w.toInt.toNat) f.toInt) ∧ (¬ (f.toInt < 0 ∨ s.2.1 ≤ f.toInt) ∧ ¬ (0 ≤ w.toInt ∧ w.toInt ≤ 3) → r.toInt = 2) := by
    have e9 : (mm_isObj M 0 10 && mm_isObj M 125 101 && Nat.beq (M.1.1.2.2 125) 1) = true := by
      rw [g_o hG rfl, g_o hG rfl, g_l (n := 1) hG rfl rfl]; rfl
    have hp5 : mm_isObj M p 5 = true := g_o hG (by rcases hp with rfl | rfl <;> rfl)
    simp only [mm_look, e9, h5, hp5, cond_true]
    by_cases g1 : f < 0
    · have f0 : f.toInt < 0 := Int32.lt_iff_toInt_lt.mp g1
      rw [if_pos g1]; exact ⟨1, _, rfl, hG, rfl, rfl, fun _ _ _ => rfl, rfl, rfl, fun _ => rfl, fun z => absurd (Or.inl f0) z.1, fun z => absurd (Or.inl f0) z.1⟩
    · rw [if_neg g1]
      have f0 : ¬ f.toInt < 0 := fun z => g1 (Int32.lt_iff_toInt_lt.mpr z)
      by_cases g2 : M.2.1 p 2 ≤ f
      · have f1 : s.2.1 ≤ f.toInt := by rw [← h2F]; exact Int32.le_iff_toInt_le.mp g2
        rw [if_pos g2]; exact ⟨1, _, rfl, hG, rfl, rfl, fun _ _ _ => rfl, rfl, rfl, fun _ => rfl, fun z => absurd (Or.inr f1) z.1, fun z => absurd (Or.inr f1) z.1⟩
      · rw [if_neg g2]
        have f1 : ¬ (M.2.1 p 2).toInt ≤ f.toInt := fun z => g2 (Int32.le_iff_toInt_le.mpr z)
        by_cases g3 : w = 0 ∨ w = 1 ∨ w = 2 ∨ w = 3
        · rw [if_pos g3]
          have hb : (M.2.1 p 2).toInt ≤ 8 := (g_b (lo := 0) (hi := 8) hG (by rcases hp with rfl | rfl <;> rfl) (by rcases hp with rfl | rfl <;> rfl)).2
          obtain ⟨hr, ho, hn⟩ : M.2.2.2 p (6 + w.toNatClampNeg) = some (p + (2 + w.toInt.toNat)) ∧ mm_isObj M (p + (2 + w.toInt.toNat)) 100 = true ∧ M.1.1.2.2 (p + (2 + w.toInt.toNat)) = 8 := by
            rcases g3 with rfl | rfl | rfl | rfl
            all_goals exact ⟨g_r hG (by rcases hp with rfl | rfl <;> rfl), g_o hG (by rcases hp with rfl | rfl <;> rfl), g_l hG (by rcases hp with rfl | rfl <;> rfl) (by rcases hp with rfl | rfl <;> rfl)⟩
          have hlt : Nat.blt f.toNatClampNeg 8 = true := by
            have e2 : f.toNatClampNeg = f.toInt.toNat := rfl
            rw [e2]
            exact Nat.ble_eq_true_of_le (by omega)
          simp only [hr]
          rw [ho, hn, hlt]
          refine ⟨0, _, rfl, hG, rfl, rfl, ?_, rfl, rfl, fun z => by exfalso; omega, fun _ => ⟨rfl, M.2.1 (p + (2 + w.toInt.toNat)) f.toNatClampNeg, ?_, ?_⟩, fun z => absurd (w4.mp g3) z.2⟩
          · exact fun a i z9 => L_n (M := mm_mark M) rfl (by omega) rfl
          · exact L_e (M := mm_mark M) rfl
          · have w3 := w4.mp g3
            exact hP.2.2.2.2.1 (2 + w.toInt.toNat) f.toInt.toNat (by omega) (by omega) (by omega)
        · rw [if_neg g3]; exact ⟨2, _, rfl, hG, rfl, rfl, fun _ _ _ => rfl, rfl, rfl, fun z => by exfalso; omega, fun z => absurd (w4.mpr z.2) g3, fun _ => rfl⟩
  obtain ⟨r, M1, hl, k1, k2, k3, kl, k4, k5, k6, k7, k8⟩ := key
  exact tt_1 hc (tt_look (Nat.le_of_ble_eq_true h8) hl (h r M1 k1 k2 k3 kl k4 k5 k6 (fun z => (k7 z).1) (fun z => (k7 z).2) k8))
end LKE
theorem LK_e {M1 : mm_M} {s : x_S} {f w b : Int32} {l y : Int64} (lk : LKV M1 s f w) (hP : ¬ (f.toInt < 0 ∨ s.2.1 ≤ f.toInt) ∧ 0 ≤ w.toInt ∧ w.toInt ≤ 3) (hl : M1.2.2.1 125 0 = l) (hy : y = b.toInt64) (hb : b.toInt = x_row s (2 + w.toInt.toNat) f.toInt) : x_eq l y = 1 := by
  obtain ⟨v, e1, e2⟩ := lk hP
  have e : b = v := Int32.toInt_inj.mp (hb.trans e2.symm)
  exact x_eq_1.mpr (by rw [← hl, e1, hy, e])
