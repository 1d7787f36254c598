/-! CLASSES: what holds of each class's tables -/
noncomputable def mm_dv (n : Nat) : Value := match n with
  | 0 => .int 0
  | 1 => .int 0
  | 2 => .long 0
  | _ => .null
noncomputable def mm_rf (t : FieldType) : Bool := match t with
  | .object _ => true
  | .array _ => true
  | _ => false
noncomputable def mm_fo : Nat → (Nat → Bool) → Bool
  | 0, _ => true
  | n + 1, f => mm_fo n f && f n
theorem mm_fo_at {f : Nat → Bool} : ∀ {n : Nat}, mm_fo n f = true → ∀ k, k < n → f k = true
  | 0, _, _, h => absurd h (Nat.not_lt_zero _)
  | n + 1, h, k, hk => by
    simp only [mm_fo, Bool.and_eq_true] at h
    rcases Nat.eq_or_lt_of_le (Nat.le_of_lt_succ hk) with e | e
    · subst e; exact h.2
    · exact mm_fo_at h.1 k e
theorem tn_0 (k : Nat) : (TX0 k).1 = RX0 := by
  unfold TX0; split <;> rfl
theorem tn_1 (k : Nat) : (TX1 k).1 = RX1 := by
  unfold TX1; split <;> rfl
theorem tn_2 (k : Nat) : (TX2 k).1 = RX2 := by
  unfold TX2; split <;> rfl
theorem tn_3 (k : Nat) : (TX3 k).1 = RX3 := by
  unfold TX3; split <;> rfl
theorem tn_4 (k : Nat) : (TX4 k).1 = RX4 := by
  unfold TX4; split <;> rfl
theorem tn_5 (k : Nat) : (TX5 k).1 = RX5 := by
  unfold TX5; split <;> rfl
theorem tn_6 (k : Nat) : (TX6 k).1 = RX6 := by
  unfold TX6; split <;> rfl
theorem tn_7 (k : Nat) : (TX7 k).1 = RX7 := by
  unfold TX7; split <;> rfl
theorem tn_8 (k : Nat) : (TX8 k).1 = RX8 := by
  unfold TX8; split <;> rfl
theorem tn_9 (k : Nat) : (TX9 k).1 = RX9 := by
  unfold TX9; split <;> rfl
theorem tn_10 (k : Nat) : (TX10 k).1 = RX10 := by
  unfold TX10; split <;> rfl
theorem tn_11 (k : Nat) : (TX11 k).1 = RX11 := by
  unfold TX11; split <;> rfl
noncomputable def cl_ok (c : Nat) : Prop := (∀ k, k < mm_tn c → parseFieldDescriptor (mm_tf c k).2.2.1 = some (mm_ty c k)) ∧ (∀ a, a < mm_tn c → ∀ b, b < mm_tn c → a ≠ b → (mm_tf c a).2.1 ≠ (mm_tf c b).2.1) ∧ vwCl[c]? = some (mm_on c, mm_tf c, mm_tn c) ∧ (∀ w ∈ u_ws (mm_on c) (mm_tf c) (mm_tn c), w ∈ lw_tbl) ∧ (Cond.instantiable (mm_on c) (mm_tn c) ∈ lw_tbl ∧ Cond.initialized (mm_on c) ∈ lw_tbl) ∧
  mm_fo (mm_tn c) (fun k => decide (defaultValue (mm_ty c k) = mm_dv (mm_fk c k)) && (!Nat.beq (mm_fk c k) 3 || mm_rf (mm_ty c k))) = true ∧ (∀ k, k < mm_tn c → (mm_tf c k).1 = mm_on c)
theorem cl_all : mm_all cl_ok 0 12 := ⟨⟨tyX0_ok, nmX0, rfl, uw_0, ui_0, by decide +kernel, fun k _ => by unfold mm_tf; exact (tn_0 k)⟩, ⟨tyX1_ok, nmX1, rfl, uw_1, ui_1, by decide +kernel, fun k _ => by unfold mm_tf; exact (tn_1 k)⟩, ⟨tyX2_ok, nmX2, rfl, uw_2, ui_2, by decide +kernel, fun k _ => by unfold mm_tf; exact (tn_2 k)⟩, ⟨tyX3_ok, nmX3, rfl, uw_3, ui_3, by decide +kernel, fun k _ => by unfold mm_tf; exact (tn_3 k)⟩, ⟨tyX4_ok, nmX4, rfl, uw_4, ui_4, by decide +kernel, fun k _ => by unfold mm_tf; exact (tn_4 k)⟩, ⟨tyX5_ok, nmX5, rfl, uw_5, ui_5, by decide +kernel, fun k _ => by unfold mm_tf; exact (tn_5 k)⟩, ⟨tyX6_ok, nmX6, rfl, uw_6, ui_6, by decide +kernel, fun k _ => by unfold mm_tf; exact (tn_6 k)⟩, ⟨tyX7_ok, nmX7, rfl, uw_7, ui_7, by decide +kernel, fun k _ => by unfold mm_tf; exact (tn_7 k)⟩, ⟨tyX8_ok, nmX8, rfl, uw_8, ui_8, by decide +kernel, fun k _ => by unfold mm_tf; exact (tn_8 k)⟩, ⟨tyX9_ok, nmX9, rfl, uw_9, ui_9, by decide +kernel, fun k _ => by unfold mm_tf; exact (tn_9 k)⟩, ⟨tyX10_ok, nmX10, rfl, uw_10, ui_10, by decide +kernel, fun k _ => by unfold mm_tf; exact (tn_10 k)⟩, ⟨tyX11_ok, nmX11, rfl, uw_11, ui_11, by decide +kernel, fun k _ => by unfold mm_tf; exact (tn_11 k)⟩, trivial⟩
theorem cl_at {c : Nat} (h : c < mm_ncl) : cl_ok c := mm_all_at cl_all c (Nat.zero_le _) (by simpa [mm_ncl] using h)
theorem u_ws_good (C : String) (T : u_T) (N : Nat) : ∀ w ∈ u_ws C T N, goodWord w = true := by
  intro w hw
  obtain ⟨k, -, rfl⟩ := List.mem_map.mp hw
  unfold u_lay
  split <;> rfl
theorem mm_tk_0 {t : FieldType} (h : mm_tk t = 0) : t = .int := by cases t <;> first | rfl | cases h
theorem mm_tk_1 {t : FieldType} (h : mm_tk t = 1) : t = .boolean := by cases t <;> first | rfl | cases h
theorem mm_tk_2 {t : FieldType} (h : mm_tk t = 2) : t = .long := by cases t <;> first | rfl | cases h
/-! a change of one cell -/
theorem rl.upd {D : va_G} {U : State} {B : Nat} {M M1 : mm_M} {H H1 : Heap} {a : Nat} (h : rl D U B M H) (ha : a < M.1.1.1) (hs : M1.1 = M.1) (hz : H1.size = H.size) (ho : ∀ q : Nat, q ≠ B + a → H1[q]? = H[q]?) (hc : ∀ b, b ≠ a → (∀ j, M1.2.1 b j = M.2.1 b j) ∧ (∀ j, M1.2.2.1 b j = M.2.2.1 b j) ∧ ∀ j, M1.2.2.2 b j = M.2.2.2 b j) (hcl : ∀ b i y, M1.2.2.2 b i = some y → y < M.1.1.1) (hn : rl_at D U B M1 H1 a) : rl D U B M1 H1 := by
  refine ⟨?_, fun b hb => ?_, fun b i hb => ?_, fun b i y hy => ?_⟩
  · rw [hs, hz]; exact h.1
  · by_cases e : b = a
    · subst e; exact hn
    · obtain ⟨h1, h2, h3⟩ := hc b e
      rw [hs] at hb
      exact ((h.2.1 b hb).kept (ho (B + b) (by omega))).to (by rw [hs]) (by rw [hs]) h1 h2 h3
  · rw [hs] at hb
    obtain ⟨h1, h2, h3⟩ := hc b (by omega)
    rw [h1, h2, h3]
    exact h.2.2.1 b i hb
  · rw [hs]; exact hcl b i y hy
theorem mm_setI_o (M : mm_M) (a i : Nat) (x : Int32) {b : Nat} (h : b ≠ a) : (∀ j, (mm_setI M a i x).2.1 b j = M.2.1 b j) ∧ (∀ j, (mm_setI M a i x).2.2.1 b j = M.2.2.1 b j) ∧ ∀ j, (mm_setI M a i x).2.2.2 b j = M.2.2.2 b j := ⟨fun j => if_neg (fun z => h z.1), fun _ => rfl, fun _ => rfl⟩
theorem mm_setL_o (M : mm_M) (a i : Nat) (x : Int64) {b : Nat} (h : b ≠ a) : (∀ j, (mm_setL M a i x).2.1 b j = M.2.1 b j) ∧ (∀ j, (mm_setL M a i x).2.2.1 b j = M.2.2.1 b j) ∧ ∀ j, (mm_setL M a i x).2.2.2 b j = M.2.2.2 b j := ⟨fun _ => rfl, fun j => if_neg (fun z => h z.1), fun _ => rfl⟩
theorem mm_setR_o (M : mm_M) (a i : Nat) (x : Option Nat) {b : Nat} (h : b ≠ a) : (∀ j, (mm_setR M a i x).2.1 b j = M.2.1 b j) ∧ (∀ j, (mm_setR M a i x).2.2.1 b j = M.2.2.1 b j) ∧ ∀ j, (mm_setR M a i x).2.2.2 b j = M.2.2.2 b j := ⟨fun _ => rfl, fun _ => rfl, fun j => if_neg (fun z => h z.1)⟩
theorem mm_setI_at (M : mm_M) (a i : Nat) (x : Int32) (j : Nat) : (mm_setI M a i x).2.1 a j = if j = i then x else M.2.1 a j := by
  show (if a = a ∧ j = i then x else M.2.1 a j) = _
  by_cases h : j = i
  · rw [if_pos ⟨rfl, h⟩, if_pos h]
  · rw [if_neg (fun z => h z.2), if_neg h]
theorem mm_setL_at (M : mm_M) (a i : Nat) (x : Int64) (j : Nat) : (mm_setL M a i x).2.2.1 a j = if j = i then x else M.2.2.1 a j := by
  show (if a = a ∧ j = i then x else M.2.2.1 a j) = _
  by_cases h : j = i
  · rw [if_pos ⟨rfl, h⟩, if_pos h]
  · rw [if_neg (fun z => h z.2), if_neg h]
theorem mm_setR_at (M : mm_M) (a i : Nat) (x : Option Nat) (j : Nat) : (mm_setR M a i x).2.2.2 a j = if j = i then x else M.2.2.2 a j := by
  show (if a = a ∧ j = i then x else M.2.2.2 a j) = _
  by_cases h : j = i
  · rw [if_pos ⟨rfl, h⟩, if_pos h]
  · rw [if_neg (fun z => h z.2), if_neg h]
/-- an object's cell, made out of its fields -/
theorem rl_at.obj {D : va_G} {U : State} {B : Nat} {M : mm_M} {H : Heap} {a c : Nat} (ht : M.1.1.2.1 a = c) (hc : c < mm_ncl) (h : t_OB (B + a) (D.1 c) (mm_tn c) (D.2 c) H (rl_V B M c a)) : rl_at D U B M H a := by
  have hn : mm_ncl = 12 := rfl
  subst ht
  refine ⟨fun q => ?_, fun q => ?_, fun q => ?_, fun q => ?_, fun q => ?_, fun _ => h⟩ <;> omega
theorem rl_at.ints {D : va_G} {U : State} {B : Nat} {M : mm_M} {H : Heap} {a : Nat} (ht : M.1.1.2.1 a = 100) (h : ∃ cA, ArrOfT U cA .int ∧ H[B + a]? = some (arrV cA (M.1.1.2.2 a) (fun j => .int (M.2.1 a j)))) : rl_at D U B M H a := by
  have hn : mm_ncl = 12 := rfl
  exact ⟨fun _ => h, fun q => by omega, fun q => by omega, fun q => by omega, fun q => by omega, fun q => by omega⟩
theorem rl_at.longs {D : va_G} {U : State} {B : Nat} {M : mm_M} {H : Heap} {a : Nat} (ht : M.1.1.2.1 a = 101) (h : ∃ cA, ArrOfT U cA .long ∧ H[B + a]? = some (arrV cA (M.1.1.2.2 a) (fun j => .long (M.2.2.1 a j)))) : rl_at D U B M H a := by
  have hn : mm_ncl = 12 := rfl
  exact ⟨fun q => by omega, fun _ => h, fun q => by omega, fun q => by omega, fun q => by omega, fun q => by omega⟩
theorem rl_at.bools {D : va_G} {U : State} {B : Nat} {M : mm_M} {H : Heap} {a : Nat} (ht : M.1.1.2.1 a = 102) (h : ∃ cA, ArrOfT U cA .boolean ∧ H[B + a]? = some (arrV cA (M.1.1.2.2 a) (fun j => .int (M.2.1 a j)))) : rl_at D U B M H a := by
  have hn : mm_ncl = 12 := rfl
  exact ⟨fun q => by omega, fun q => by omega, fun _ => h, fun q => by omega, fun q => by omega, fun q => by omega⟩
theorem rl_at.bytes {D : va_G} {U : State} {B : Nat} {M : mm_M} {H : Heap} {a : Nat} (ht : M.1.1.2.1 a = 103) (h : ∃ cA, ArrOfT U cA .byte ∧ H[B + a]? = some (arrV cA (M.1.1.2.2 a) (fun j => .int (M.2.1 a j)))) : rl_at D U B M H a := by
  have hn : mm_ncl = 12 := rfl
  exact ⟨fun q => by omega, fun q => by omega, fun q => by omega, fun _ => h, fun q => by omega, fun q => by omega⟩
theorem rl_at.rows {D : va_G} {U : State} {B : Nat} {M : mm_M} {H : Heap} {a : Nat} (ht : M.1.1.2.1 a = 104) (h : ∃ cA, ArrOfT U cA (.array .int) ∧ H[B + a]? = some (arrV cA (M.1.1.2.2 a) (fun j => va_rf ((M.2.2.2 a j).map (B + ·))))) : rl_at D U B M H a := by
  have hn : mm_ncl = 12 := rfl
  exact ⟨fun q => by omega, fun q => by omega, fun q => by omega, fun q => by omega, fun _ => h, fun q => by omega⟩
/-- a new cell behind the others -/
theorem rl.push {D : va_G} {U : State} {B : Nat} {M M1 : mm_M} {H H1 : Heap} (h : rl D U B M H) (hsz : M1.1.1.1 = M.1.1.1 + 1) (hfx : M1.1.2.2.2 = M.1.2.2.2) (hlim : M.1.1.1 < 999000) (hx : M.1.2.2.2 = 0) (hz : H1.size = H.size + 1) (ho : ∀ q : Nat, q < H.size → H1[q]? = H[q]?) (ht : ∀ b, b < M.1.1.1 → M1.1.1.2.1 b = M.1.1.2.1 b ∧ M1.1.1.2.2 b = M.1.1.2.2 b) (hm : M1.2 = M.2) (hn : rl_at D U B M1 H1 M.1.1.1) : rl D U B M1 H1 := by
  obtain ⟨⟨h1, h2, h3⟩, h4, h5, h6⟩ := h
  have hs := h2 hx
  have he : mm_ext = 1000000 := rfl
  refine ⟨⟨by omega, fun _ => by omega, by omega⟩, fun b hb => ?_, fun b i hb => ?_, fun b i y hy => ?_⟩
  · rcases Nat.eq_or_lt_of_le (show b ≤ M.1.1.1 by omega) with e | e
    · rw [e]; exact hn
    · exact ((h4 b e).kept (ho (B + b) (by omega))).to (ht b e).1 (ht b e).2 (fun j => by rw [hm]) (fun j => by rw [hm]) (fun j => by rw [hm])
  · rw [hm]; exact h5 b i (by omega)
  · rw [hm] at hy; have := h6 b i y hy; omega
