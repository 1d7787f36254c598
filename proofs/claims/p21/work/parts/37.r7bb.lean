/-! exact steps over longs, behind one name each -/
section SLE
variable {X : mm_X} {d mi pc : Nat} {ls st : List Value} {M : mm_M} {Q : Option Value → mm_M → Prop} {len a b : Nat} {ps : List Nat}
theorem s_opLE {i : Instr} {x y w : Int64} (hc : mm_code mi pc = some (i, len, a, b, ps)) (hw : mm_opL i x y = some w) (h : ∀ v : Int64, w = v → mm_T X d mi (pc + len) ls (.long v :: st) M Q) : mm_T X d mi pc ls (.long y :: .long x :: st) M Q := to_2l hc hw (h w rfl)
theorem s_opSE {i : Instr} {x w : Int64} {y : Int32} (hc : mm_code mi pc = some (i, len, a, b, ps)) (hw : mm_opS i x y = some w) (h : ∀ v : Int64, w = v → mm_T X d mi (pc + len) ls (.long v :: st) M Q) : mm_T X d mi pc ls (.int y :: .long x :: st) M Q := to_2s hc hw (h w rfl)
theorem s_l2iE {x : Int64} (hc : mm_code mi pc = some (.l2i, len, a, b, ps)) (h : ∀ v : Int32, x.toInt32 = v → mm_T X d mi (pc + len) ls (.int v :: st) M Q) : mm_T X d mi pc ls (.long x :: st) M Q := to_l2i hc rfl (h _ rfl)
end SLE
