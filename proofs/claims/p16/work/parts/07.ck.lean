/-! WHAT THE TABLES MUST SAY OF A ROW OF CODE: decided row by row -/
noncomputable def ws_all : List Cond := lw_tbl.filter goodWord
noncomputable def mm_sn (a : Nat) : String := match a with
  | 1 => "LANGUAGE_WORDS"
  | 2 => "SUMS_CODES"
  | _ => "PAIRS_CODES"
noncomputable def mm_ac (t : ArrayType) : Nat := match t with
  | .int => 100
  | .long => 101
  | .boolean => 102
  | .byte => 103
  | _ => 0
/-- the words behind the numbers of a link -/
noncomputable def mm_lc (o : Nat) (d : Nat × Nat × Nat × Nat) : Cond := match d with
  | (0, i, c, k) => .fieldLink (mm_on o) i (mm_tf c k).1 (mm_tf c k).2.1 (mm_tf c k).2.2.1
  | (1, i, y, _) => .methodLink (mm_on o) i (mm_y y)
  | (2, i, c, _) => .classLink (mm_on o) i (mm_on c)
  | (3, i, a, _) => .constant (mm_on o) i (mm_i a 0)
  | (23, i, a, _) => .constant (mm_on o) i (mm_i a 1)
  | (4, i, a, _) => .constantLong (mm_on o) i (mm_l a 0)
  | (24, i, a, _) => .constantLong (mm_on o) i (mm_l a 1)
  | (5, i, _, _) => .methodLink (mm_on o) i objectInit
  | (7, i, _, _) => .methodLink (mm_on o) i yL_look
  | (10, i, _, _) => .methodLink (mm_on o) i Lib.Math.min.name
  | (11, i, _, _) => .methodLink (mm_on o) i Lib.Math.max.name
  | (_, i, _, _) => .classLink (mm_on o) i "[[I"
theorem mm_lc_good (o : Nat) (d : Nat × Nat × Nat × Nat) : goodWord (mm_lc o d) = true := by
  unfold mm_lc
  split <;> rfl
noncomputable def mm_nc (d : Nat × Nat × Nat × Nat) : Cond := match d with
  | (8, o, i, a) => .fieldLinkNest (mm_on o) i "NotchedCards" (mm_sn a) "[I" "NotchedCards"
  | (_, o, i, y) => .methodLinkNest (mm_on o) i (mm_y y) "NotchedCards"
noncomputable def mm_cF (mi idx a b : Nat) (ps : List Nat) (put : Bool) : Bool := match ps with
  | [kd, pl] => Nat.blt a mm_ncl && Nat.blt b (mm_tn a) && decide ((mm_ln (mm_ow mi))[pl]? = some (0, idx, a, b)) && Nat.beq kd (mm_fk a b) && (!put || !(mm_tf a b).2.2.2 || (mm_ii mi && Nat.beq a (mm_ow mi)))
  | _ => false
noncomputable def mm_cT (pc : Nat) : List Int → List Nat → Bool
  | [], [] => true
  | o :: os, t :: ts => decide ((pc : Int) + o = (t : Int)) && mm_cT pc os ts
  | _, _ => false
noncomputable def mm_cL (mi pl : Nat) (d : Nat × Nat × Nat × Nat) : Bool := decide ((mm_ln (mm_ow mi))[pl]? = some d)
/-- a call's link: by the class's own links, or a nest mate's -/
noncomputable def mm_cM (mi idx a : Nat) (ps : List Nat) : Bool := match ps with
  | [pl, 0] => mm_cL mi pl (1, idx, a, 0)
  | [pl, 1] => decide (nn_0[pl]? = some (9, mm_ow mi, idx, a))
  | _ => false
noncomputable def mm_cx (mi pc : Nat) (q : mm_R) : Bool :=
  let len := q.2.1
  let a := q.2.2.1
  let b := q.2.2.2.1
  let ps := q.2.2.2.2
  match q.1 with
  | .aload _ | .iload _ | .lload _ | .istore _ | .astore _ | .lstore _ => decide (len = 2)
  | .iinc _ n => decide (len = 3) && decide (Int32.ofInt n = mm_i a b)
  | .iconst n => decide (len = 1) && decide (Int32.ofInt n = mm_i a b)
  | .bipush n => decide (len = 2) && decide ((Int8.ofInt n).toInt32 = mm_i a b)
  | .sipush n => decide (len = 3) && decide ((Int16.ofInt n).toInt32 = mm_i a b)
  | .lconst n => decide (len = 1) && decide (Int64.ofNat (n : Nat) = mm_l a b)
  | .ldc idx => decide (len = 2) && (match ps with | [pl] => (Nat.beq b 0 && mm_cL mi pl (3, idx, a, 0)) || (Nat.beq b 1 && mm_cL mi pl (23, idx, a, 0)) | _ => false)
  | .ldc_w idx => decide (len = 3) && (match ps with | [pl] => (Nat.beq b 0 && mm_cL mi pl (3, idx, a, 0)) || (Nat.beq b 1 && mm_cL mi pl (23, idx, a, 0)) | _ => false)
  | .ldc2_w idx => decide (len = 3) && (match ps with | [pl] => (Nat.beq b 0 && mm_cL mi pl (4, idx, a, 0)) || (Nat.beq b 1 && mm_cL mi pl (24, idx, a, 0)) | _ => false)
  | .goto off => decide (len = 3) && decide ((pc : Int) + off = (a : Int))
  | .ifCond _ off => decide (len = 3) && decide ((pc : Int) + off = (a : Int))
  | .if_icmp _ off => decide (len = 3) && decide ((pc : Int) + off = (a : Int))
  | .tableswitch d _ _ os => decide ((pc : Int) + d = (a : Int)) && mm_cT pc os.toList ps
  | .getfield idx => decide (len = 3) && mm_cF mi idx a b ps false
  | .putfield idx => decide (len = 3) && mm_cF mi idx a b ps true
  | .getstatic idx => decide (len = 3) && decide (1 ≤ a) && decide (a ≤ 3) && (match ps with | [pl] => decide (nn_0[pl]? = some (8, mm_ow mi, idx, a)) | _ => false)
  | .new idx => decide (len = 3) && (match ps with | [pl] => Nat.blt a mm_ncl && mm_cL mi pl (2, idx, a, 0) && Nat.beq b (mm_tn a) | _ => false)
  | .newarray t => decide (len = 2) && decide (a = mm_ac t) && decide (a ≠ 0)
  | .multianewarray idx d => decide (len = 4) && decide (d = 2) && (match ps with | [pl] => mm_cL mi pl (6, idx, 0, 0) | _ => false)
  | .invokevirtual idx => decide (len = 3) && Nat.blt a mm_nm && !Nat.beq a 0 && !Nat.beq (mm_kc a) 99 && !mm_ii a && mm_cM mi idx a ps && Nat.beq b (mm_pn a + 1)
  | .invokespecial idx => decide (len = 3) && (bif Nat.beq a 999 then (match ps with | [pl, 0] => mm_cL mi pl (5, idx, 0, 0) | _ => false) else Nat.blt a mm_nm && !Nat.beq a 0 && !Nat.beq (mm_kc a) 99 && mm_ii a && mm_cM mi idx a ps && Nat.beq b (mm_pn a + 1))
  | .invokestatic idx => decide (len = 3) && (bif Nat.beq a 996 then (match ps with | [pl, 0] => mm_cL mi pl (10, idx, 0, 0) | _ => false) else bif Nat.beq a 997 then (match ps with | [pl, 0] => mm_cL mi pl (11, idx, 0, 0) | _ => false) else bif Nat.beq a 998 then (match ps with | [pl, 0] => mm_cL mi pl (7, idx, 0, 0) | _ => false) && Nat.beq b 4 && Nat.beq (mm_ow mi) 12 else Nat.blt a mm_nm && !Nat.beq a 0 && Nat.beq (mm_kc a) 99 && mm_cM mi idx a ps && Nat.beq b (mm_pn a))
  | .ireturn => decide (len = 1) && decide ((a = 0 ∧ mm_rt mi = some .int) ∨ (a = 1 ∧ mm_rt mi = some .boolean))
  | .lreturn => decide (len = 1) && decide (mm_rt mi = some .long)
  | .return_ => decide (len = 1) && decide (mm_rt mi = none)
  | _ => decide (len = 1)
noncomputable def mm_ck (mi pc : Nat) (q : mm_R) : Bool := decide (decode (mm_cc mi) pc = .ok (q.1, q.2.1)) && mm_cx mi pc q
noncomputable def mm_cko (mi : Nat) (f : Nat → Option mm_R) (pc : Nat) : Bool := match f pc with
  | none => true
  | some q => mm_ck mi pc q
/-- a piece of a method, from lo on, n bytes -/
noncomputable def mm_ckp (mi : Nat) (f : Nat → Option mm_R) : Nat → Nat → Bool
  | _, 0 => true
  | lo, n + 1 => mm_cko mi f lo && mm_ckp mi f (lo + 1) n
theorem mm_ckp_at {mi : Nat} {f : Nat → Option mm_R} : ∀ {n lo : Nat}, mm_ckp mi f lo n = true → ∀ pc q, lo ≤ pc → pc < lo + n → f pc = some q → mm_ck mi pc q = true
  | 0, lo, _, pc, q, h1, h2, _ => absurd h2 (by omega)
  | n + 1, lo, h, pc, q, h1, h2, h3 => by
    simp only [mm_ckp, Bool.and_eq_true] at h
    rcases Nat.eq_or_lt_of_le h1 with e | e
    · subst e
      have h4 := h.1
      unfold mm_cko at h4
      rw [h3] at h4
      exact h4
    · exact mm_ckp_at h.2 pc q e (by omega) h3
/-- a method's own words -/
noncomputable def mm_mw (mi : Nat) : List Cond := .code (mm_y mi) (mm_cc mi) (mm_mx mi) (mm_rt mi) :: .initialized (mm_on (mm_ow mi)) :: (bif Nat.beq (mm_kc mi) 99 then [.static (mm_y mi)] else .instanceMethod (mm_y mi) :: (bif mm_ii mi then [] else [.selects (mm_on (mm_ow mi)) (mm_y mi) (mm_y mi)]))
/-- what is decided of a method by numbers -/
noncomputable def mm_m1 (mi : Nat) : Bool := (Nat.beq (mm_kc mi) 99 || (Nat.beq (mm_kc mi) (mm_ow mi) && Nat.blt (mm_ow mi) mm_ncl)) && (!mm_ii mi || decide (mm_rt mi = none)) && Nat.ble (mm_mx mi) 20
noncomputable def mm_all (P : Nat → Prop) : Nat → Nat → Prop
  | _, 0 => True
  | lo, n + 1 => P lo ∧ mm_all P (lo + 1) n
theorem mm_all_at {P : Nat → Prop} : ∀ {n lo : Nat}, mm_all P lo n → ∀ i, lo ≤ i → i < lo + n → P i
  | 0, _, _, _, h1, h2 => absurd h2 (by omega)
  | _ + 1, lo, h, i, h1, h2 => by
    rcases Nat.eq_or_lt_of_le h1 with e | e
    · subst e; exact h.1
    · exact mm_all_at h.2 i e (by omega)
theorem tb_of {a b : List Cond} {w : Cond} (h : w ∈ b) : w ∈ a ++ b := List.mem_append_right _ h
