/-! THE RUN: a method from pc on, d the calls that may still be open above it -/
def mm_sl : List Value → List Value
  | [] => []
  | .long x :: t => .long x :: .null :: mm_sl t
  | v :: t => v :: mm_sl t
def mm_entry (y : Nat) (as : List Value) : List Value := mm_sl as ++ List.replicate (mm_mx y - (mm_sl as).length) .null
def mm_w8 (st : List Value) : Nat := (st.map fun v => v.category).sum
def mm_okv : List Value → Bool
  | [] => true
  | .int _ :: t => mm_okv t
  | .long _ :: t => mm_okv t
  | .ref _ :: t => mm_okv t
  | _ => false
/-- the object that an instance method is called on is of its class -/
def mm_rc (M : mm_M) (y : Nat) (as : List Value) : Bool := mm_okv as && Nat.ble (mm_sl as).length (mm_mx y) && bif Nat.beq (mm_kc y) 99 then true else (match as with
  | .ref a :: _ => mm_isObj M a (mm_kc y)
  | _ => false)
def mm_mark (M : mm_M) : mm_M := ((M.1.1, (M.1.2.1 + 1, M.1.2.2.1 + 6, 1)), M.2)
/-- the law's look: 1 no such FIELD, 2 no such what, else 0, and the answer in the row o -/
def mm_look (M : mm_M) (as : List Value) : Option (Option Value × mm_M) := match as with
  | [.ref x, .int f, .int w, .ref o] => match mm_isObj M x 10 && mm_isObj M o 101 && Nat.beq (M.1.1.2.2 o) 1, M.2.2.2 x 8 with
    | true, some p => match mm_isObj M p 5, M.2.2.2 p 6, M.2.2.2 p 7, M.2.2.2 p 8, M.2.2.2 p 9 with
      | true, some a0, some a1, some a2, some a3 => if f < 0 then some (some (.int 1), mm_mark M) else if M.2.1 p 2 ≤ f then some (some (.int 1), mm_mark M) else
          match mm_isObj M a0 100 && mm_isObj M a1 100 && mm_isObj M a2 100 && mm_isObj M a3 100 && Nat.blt f.toNatClampNeg (M.1.1.2.2 a0) && Nat.blt f.toNatClampNeg (M.1.1.2.2 a1) && Nat.blt f.toNatClampNeg (M.1.1.2.2 a2) && Nat.blt f.toNatClampNeg (M.1.1.2.2 a3) with
          | true => if w = 0 then some (some (.int 0), mm_mark (mm_setL M o 0 (M.2.1 a0 f.toNatClampNeg).toInt64))
            else if w = 1 then some (some (.int 0), mm_mark (mm_setL M o 0 (M.2.1 a1 f.toNatClampNeg).toInt64))
            else if w = 2 then some (some (.int 0), mm_mark (mm_setL M o 0 (M.2.1 a2 f.toNatClampNeg).toInt64))
            else if w = 3 then some (some (.int 0), mm_mark (mm_setL M o 0 (M.2.1 a3 f.toNatClampNeg).toInt64))
            else some (some (.int 2), mm_mark M)
          | false => none
      | _, _, _, _, _ => none
    | _, _ => none
  | _ => none
def mm_run (X : mm_X) : Nat → Nat → Nat → Nat → List Value → List Value → mm_M → Option (Option Value × mm_M)
  | 0, _, _, _, _, _, _ => none
  | n + 1, d, mi, pc, ls, st, M => match mm_code mi pc with
    | none => none
    | some q => mm_stepK X q pc ls st M (fun o => match o with
      | .inl (pc', ls', st', M') => mm_run X n d mi pc' ls' st' M'
      | .inr (.inr r) => some (r, M)
      | .inr (.inl (y, as, rest)) => match d, Nat.ble (mm_w8 rest) 8 with
        | d' + 1, true => match (bif Nat.beq y 998 then mm_look M as else bif mm_rc M y as then mm_run X n d' y 0 (mm_entry y as) [] M else none) with
          | none => none
          | some (r, M') => mm_run X n (d' + 1) mi (pc + 3) ls (r.toList ++ rest) M'
        | _, _ => none) none
/-- TOTAL: it ends, and then Q -/
def mm_T (X : mm_X) (d mi pc : Nat) (ls st : List Value) (M : mm_M) (Q : Option Value → mm_M → Prop) : Prop := ∃ n r M', mm_run X n d mi pc ls st M = some (r, M') ∧ Q r M'
