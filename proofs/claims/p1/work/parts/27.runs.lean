/-! the fresh memory, and those after runs that are the same for every script -/
theorem fr_Ar : (fr_r 600 39 109 [.ref 0] fr_1a).map (fun z => z.1) = some none := by decide +kernel
theorem fr_Br : (fr_r 2000 39 146 [.ref 77] fr_2a).map (fun z => z.1) = some none := by decide +kernel
theorem fr_Ae : fr_m (fr_r 600 39 109 [.ref 0] fr_1a) = fr_A := rfl
theorem fr_Be : fr_m (fr_r 2000 39 146 [.ref 77] fr_2a) = fr_B := rfl
theorem fr_0H : ns_H mm_M0 := fun a i z => nomatch z
theorem ns_new {M : mm_M} {c n k : Nat} (h : ns_H M) : ns_H (mm_new M c n k) := h
theorem fr_AH : ns_H fr_A := fr_H fr_Ar rfl (ns_new fr_0H) rfl
theorem fr_BH : ns_H fr_B := fr_H fr_Br rfl (ns_new fr_AH) rfl
theorem fr_M_H : ns_H fr_M := by rw [← fr_M_e]; exact ns_new fr_BH
theorem fr_1_r : (fr_r 249 39 111 [.ref 0, .int (0 : Int32)] fr_M).map (fun z => z.1) = some (some (.int (0 : Int32))) := by decide +kernel
theorem fr_1_H : ns_H fr_1 := fr_H fr_1_r rfl fr_M_H fr_1_e
theorem fr_1_T {xs : Nat → Int32} {Q : Option Value → mm_M → Prop} (k : Q (some (.int (0 : Int32))) fr_1) : mm_T (fr_X 6 xs) 39 111 0 [.ref 0, .int (0 : Int32), .null] [] fr_M Q := fr_call fr_1_r rfl fr_M_H fr_1_e k
theorem fr_2_r : (fr_r 1043 39 173 [.ref 77, .int (0 : Int32)] fr_1).map (fun z => z.1) = some (some (.int (0 : Int32))) := by decide +kernel
theorem fr_2_H : ns_H fr_2 := fr_H fr_2_r rfl fr_1_H fr_2_e
theorem fr_2_T {xs : Nat → Int32} {Q : Option Value → mm_M → Prop} (k : Q (some (.int (0 : Int32))) fr_2) : mm_T (fr_X 6 xs) 39 173 0 [.ref 77, .int (0 : Int32), .null] [] fr_1 Q := fr_call fr_2_r rfl fr_1_H fr_2_e k
theorem fr_3_r : (fr_r 4478 39 112 [.ref 0, .int (0 : Int32)] fr_M).map (fun z => z.1) = some (some (.int (0 : Int32))) := by decide +kernel
theorem fr_3_H : ns_H fr_3 := fr_H fr_3_r rfl fr_M_H fr_3_e
theorem fr_3_T {xs : Nat → Int32} {Q : Option Value → mm_M → Prop} (k : Q (some (.int (0 : Int32))) fr_3) : mm_T (fr_X 6 xs) 39 112 0 [.ref 0, .int (0 : Int32)] [] fr_M Q := fr_call fr_3_r rfl fr_M_H fr_3_e k
theorem fr_4_r : (fr_r 122 39 219 [.ref 77, .int (0 : Int32)] fr_3).map (fun z => z.1) = some (some (.int (0 : Int32))) := by decide +kernel
theorem fr_4_H : ns_H fr_4 := fr_H fr_4_r rfl fr_3_H fr_4_e
theorem fr_4_T {xs : Nat → Int32} {Q : Option Value → mm_M → Prop} (k : Q (some (.int (0 : Int32))) fr_4) : mm_T (fr_X 6 xs) 39 219 0 [.ref 77, .int (0 : Int32)] [] fr_3 Q := fr_call fr_4_r rfl fr_3_H fr_4_e k
theorem fr_5_r : (fr_r 206 39 113 [.ref 0, .int (0 : Int32)] fr_M).map (fun z => z.1) = some (some (.int (-1 : Int32))) := by decide +kernel
theorem fr_5_H : ns_H fr_5 := fr_H fr_5_r rfl fr_M_H fr_5_e
theorem fr_5_T {xs : Nat → Int32} {Q : Option Value → mm_M → Prop} (k : Q (some (.int (-1 : Int32))) fr_5) : mm_T (fr_X 6 xs) 39 113 0 [.ref 0, .int (0 : Int32), .null] [] fr_M Q := fr_call fr_5_r rfl fr_M_H fr_5_e k
theorem fr_6_r : (fr_r 125 39 227 [.ref 77, .int (0 : Int32)] fr_5).map (fun z => z.1) = some (some (.int (-1 : Int32))) := by decide +kernel
theorem fr_6_H : ns_H fr_6 := fr_H fr_6_r rfl fr_5_H fr_6_e
theorem fr_6_T {xs : Nat → Int32} {Q : Option Value → mm_M → Prop} (k : Q (some (.int (-1 : Int32))) fr_6) : mm_T (fr_X 6 xs) 39 227 0 [.ref 77, .int (0 : Int32), .null] [] fr_5 Q := fr_call fr_6_r rfl fr_5_H fr_6_e k
theorem fr_7_r : (fr_r 51 39 118 [.ref 0] fr_M).map (fun z => z.1) = some (some (.int (0 : Int32))) := by decide +kernel
theorem fr_7_H : ns_H fr_7 := fr_H fr_7_r rfl fr_M_H fr_7_e
theorem fr_7_T {xs : Nat → Int32} {Q : Option Value → mm_M → Prop} (k : Q (some (.int (0 : Int32))) fr_7) : mm_T (fr_X 6 xs) 39 118 0 [.ref 0] [] fr_M Q := fr_call fr_7_r rfl fr_M_H fr_7_e k
theorem fr_8_r : (fr_r 40 39 193 [.ref 77] fr_7).map (fun z => z.1) = some (some (.int (0 : Int32))) := by decide +kernel
theorem fr_8_H : ns_H fr_8 := fr_H fr_8_r rfl fr_7_H fr_8_e
theorem fr_8_T {xs : Nat → Int32} {Q : Option Value → mm_M → Prop} (k : Q (some (.int (0 : Int32))) fr_8) : mm_T (fr_X 6 xs) 39 193 0 [.ref 77] [] fr_7 Q := fr_call fr_8_r rfl fr_7_H fr_8_e k
theorem fr_9_r : (fr_r 3549 38 142 [.ref 0] fr_M).map (fun z => z.1) = some (none) := by decide +kernel
theorem fr_9_H : ns_H fr_9 := fr_H fr_9_r rfl fr_M_H fr_9_e
theorem fr_9_T {xs : Nat → Int32} {Q : Option Value → mm_M → Prop} (k : Q (none) fr_9) : mm_T (fr_X 6 xs) 38 142 0 [.ref 0] [] fr_M Q := fr_call fr_9_r rfl fr_M_H fr_9_e k
theorem fr_10_r : (fr_r 731 38 24 [.ref 17, .ref 11, .int (10 : Int32)] fr_9).map (fun z => z.1) = some (none) := by decide +kernel
theorem fr_10_H : ns_H fr_10 := fr_H fr_10_r rfl fr_9_H fr_10_e
theorem fr_10_T {xs : Nat → Int32} {Q : Option Value → mm_M → Prop} (k : Q (none) fr_10) : mm_T (fr_X 6 xs) 38 24 0 [.ref 17, .ref 11, .int (10 : Int32), .null, .null] [] fr_9 Q := fr_call fr_10_r rfl fr_9_H fr_10_e k
theorem fr_11_r : (fr_r 86 39 130 [.ref 0] fr_M).map (fun z => z.1) = some (some (.int (0 : Int32))) := by decide +kernel
theorem fr_11_H : ns_H fr_11 := fr_H fr_11_r rfl fr_M_H fr_11_e
theorem fr_11_T {xs : Nat → Int32} {Q : Option Value → mm_M → Prop} (k : Q (some (.int (0 : Int32))) fr_11) : mm_T (fr_X 6 xs) 39 130 0 [.ref 0, .null] [] fr_M Q := fr_call fr_11_r rfl fr_M_H fr_11_e k
theorem fr_12_r : (fr_r 91 39 209 [.ref 77] fr_11).map (fun z => z.1) = some (some (.int (0 : Int32))) := by decide +kernel
theorem fr_12_H : ns_H fr_12 := fr_H fr_12_r rfl fr_11_H fr_12_e
theorem fr_12_T {xs : Nat → Int32} {Q : Option Value → mm_M → Prop} (k : Q (some (.int (0 : Int32))) fr_12) : mm_T (fr_X 6 xs) 39 209 0 [.ref 77, .null] [] fr_11 Q := fr_call fr_12_r rfl fr_11_H fr_12_e k

