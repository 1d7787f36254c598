/-! the fresh memory, and those after runs that are the same for every script -/
theorem fr_Ar : (fr_r 600 39 109 [.ref 0] fr_1a).map (fun z => z.1) = some none := by decide +kernel
theorem fr_Br : (fr_r 2000 39 146 [.ref 77] fr_2a).map (fun z => z.1) = some none := by decide +kernel
theorem fr_Ae : fr_m (fr_r 600 39 109 [.ref 0] fr_1a) = fr_A := rfl
theorem fr_Be : fr_m (fr_r 2000 39 146 [.ref 77] fr_2a) = fr_B := rfl
theorem fr_0H : ns_H mm_M0 := fun a i z => nomatch z
theorem ns_new {M : mm_M} {c n k : Nat} (h : ns_H M) : ns_H (mm_new M c n k) := h
theorem fr_AH : ns_H fr_A := fr_H fr_Ar rfl (ns_new fr_0H) rfl
theorem fr_BH : ns_H fr_B := fr_H fr_Br rfl (ns_new fr_AH) rfl
theorem cr_M_H : ns_H cr_M := ns_new fr_BH
theorem cr_1_r : (fr_r 249 39 111 [.ref 0, .int (0 : Int32)] cr_M).map (fun z => z.1) = some (some (.int (0 : Int32))) := by decide +kernel
theorem cr_1_H : ns_H cr_1 := fr_H cr_1_r rfl cr_M_H rfl
theorem fr_1_T {fr_M fr_1 fr_2 fr_3 fr_4 fr_5 fr_6 fr_7 fr_8 fr_9 fr_10 fr_11 fr_12 : mm_M} (HM : fr_Eq fr_M fr_1 fr_2 fr_3 fr_4 fr_5 fr_6 fr_7 fr_8 fr_9 fr_10 fr_11 fr_12) {xs : Nat → Int32} {Q : Option Value → mm_M → Prop} (k : Q (some (.int (0 : Int32))) fr_1) : mm_T (fr_X 6 xs) 39 111 0 [.ref 0, .int (0 : Int32), .null] [] fr_M Q := by
  rw [HM.1]
  rw [HM.2.1] at k
  exact fr_call cr_1_r rfl cr_M_H rfl k
theorem cr_2_r : (fr_r 1043 39 173 [.ref 77, .int (0 : Int32)] cr_1).map (fun z => z.1) = some (some (.int (0 : Int32))) := by decide +kernel
theorem cr_2_H : ns_H cr_2 := fr_H cr_2_r rfl cr_1_H rfl
theorem fr_2_T {fr_M fr_1 fr_2 fr_3 fr_4 fr_5 fr_6 fr_7 fr_8 fr_9 fr_10 fr_11 fr_12 : mm_M} (HM : fr_Eq fr_M fr_1 fr_2 fr_3 fr_4 fr_5 fr_6 fr_7 fr_8 fr_9 fr_10 fr_11 fr_12) {xs : Nat → Int32} {Q : Option Value → mm_M → Prop} (k : Q (some (.int (0 : Int32))) fr_2) : mm_T (fr_X 6 xs) 39 173 0 [.ref 77, .int (0 : Int32), .null] [] fr_1 Q := by
  rw [HM.2.1]
  rw [HM.2.2.1] at k
  exact fr_call cr_2_r rfl cr_1_H rfl k
theorem cr_3_r : (fr_r 4478 39 112 [.ref 0, .int (0 : Int32)] cr_M).map (fun z => z.1) = some (some (.int (0 : Int32))) := by decide +kernel
theorem cr_3_H : ns_H cr_3 := fr_H cr_3_r rfl cr_M_H rfl
theorem fr_3_T {fr_M fr_1 fr_2 fr_3 fr_4 fr_5 fr_6 fr_7 fr_8 fr_9 fr_10 fr_11 fr_12 : mm_M} (HM : fr_Eq fr_M fr_1 fr_2 fr_3 fr_4 fr_5 fr_6 fr_7 fr_8 fr_9 fr_10 fr_11 fr_12) {xs : Nat → Int32} {Q : Option Value → mm_M → Prop} (k : Q (some (.int (0 : Int32))) fr_3) : mm_T (fr_X 6 xs) 39 112 0 [.ref 0, .int (0 : Int32)] [] fr_M Q := by
  rw [HM.1]
  rw [HM.2.2.2.1] at k
  exact fr_call cr_3_r rfl cr_M_H rfl k
theorem cr_4_r : (fr_r 122 39 219 [.ref 77, .int (0 : Int32)] cr_3).map (fun z => z.1) = some (some (.int (0 : Int32))) := by decide +kernel
theorem cr_4_H : ns_H cr_4 := fr_H cr_4_r rfl cr_3_H rfl
theorem fr_4_T {fr_M fr_1 fr_2 fr_3 fr_4 fr_5 fr_6 fr_7 fr_8 fr_9 fr_10 fr_11 fr_12 : mm_M} (HM : fr_Eq fr_M fr_1 fr_2 fr_3 fr_4 fr_5 fr_6 fr_7 fr_8 fr_9 fr_10 fr_11 fr_12) {xs : Nat → Int32} {Q : Option Value → mm_M → Prop} (k : Q (some (.int (0 : Int32))) fr_4) : mm_T (fr_X 6 xs) 39 219 0 [.ref 77, .int (0 : Int32)] [] fr_3 Q := by
  rw [HM.2.2.2.1]
  rw [HM.2.2.2.2.1] at k
  exact fr_call cr_4_r rfl cr_3_H rfl k
theorem cr_5_r : (fr_r 206 39 113 [.ref 0, .int (0 : Int32)] cr_M).map (fun z => z.1) = some (some (.int (-1 : Int32))) := by decide +kernel
theorem cr_5_H : ns_H cr_5 := fr_H cr_5_r rfl cr_M_H rfl
theorem fr_5_T {fr_M fr_1 fr_2 fr_3 fr_4 fr_5 fr_6 fr_7 fr_8 fr_9 fr_10 fr_11 fr_12 : mm_M} (HM : fr_Eq fr_M fr_1 fr_2 fr_3 fr_4 fr_5 fr_6 fr_7 fr_8 fr_9 fr_10 fr_11 fr_12) {xs : Nat → Int32} {Q : Option Value → mm_M → Prop} (k : Q (some (.int (-1 : Int32))) fr_5) : mm_T (fr_X 6 xs) 39 113 0 [.ref 0, .int (0 : Int32), .null] [] fr_M Q := by
  rw [HM.1]
  rw [HM.2.2.2.2.2.1] at k
  exact fr_call cr_5_r rfl cr_M_H rfl k
theorem cr_6_r : (fr_r 125 39 227 [.ref 77, .int (0 : Int32)] cr_5).map (fun z => z.1) = some (some (.int (-1 : Int32))) := by decide +kernel
theorem cr_6_H : ns_H cr_6 := fr_H cr_6_r rfl cr_5_H rfl
theorem fr_6_T {fr_M fr_1 fr_2 fr_3 fr_4 fr_5 fr_6 fr_7 fr_8 fr_9 fr_10 fr_11 fr_12 : mm_M} (HM : fr_Eq fr_M fr_1 fr_2 fr_3 fr_4 fr_5 fr_6 fr_7 fr_8 fr_9 fr_10 fr_11 fr_12) {xs : Nat → Int32} {Q : Option Value → mm_M → Prop} (k : Q (some (.int (-1 : Int32))) fr_6) : mm_T (fr_X 6 xs) 39 227 0 [.ref 77, .int (0 : Int32), .null] [] fr_5 Q := by
  rw [HM.2.2.2.2.2.1]
  rw [HM.2.2.2.2.2.2.1] at k
  exact fr_call cr_6_r rfl cr_5_H rfl k
theorem cr_7_r : (fr_r 51 39 118 [.ref 0] cr_M).map (fun z => z.1) = some (some (.int (0 : Int32))) := by decide +kernel
theorem cr_7_H : ns_H cr_7 := fr_H cr_7_r rfl cr_M_H rfl
theorem fr_7_T {fr_M fr_1 fr_2 fr_3 fr_4 fr_5 fr_6 fr_7 fr_8 fr_9 fr_10 fr_11 fr_12 : mm_M} (HM : fr_Eq fr_M fr_1 fr_2 fr_3 fr_4 fr_5 fr_6 fr_7 fr_8 fr_9 fr_10 fr_11 fr_12) {xs : Nat → Int32} {Q : Option Value → mm_M → Prop} (k : Q (some (.int (0 : Int32))) fr_7) : mm_T (fr_X 6 xs) 39 118 0 [.ref 0] [] fr_M Q := by
  rw [HM.1]
  rw [HM.2.2.2.2.2.2.2.1] at k
  exact fr_call cr_7_r rfl cr_M_H rfl k
theorem cr_8_r : (fr_r 40 39 193 [.ref 77] cr_7).map (fun z => z.1) = some (some (.int (0 : Int32))) := by decide +kernel
theorem cr_8_H : ns_H cr_8 := fr_H cr_8_r rfl cr_7_H rfl
theorem fr_8_T {fr_M fr_1 fr_2 fr_3 fr_4 fr_5 fr_6 fr_7 fr_8 fr_9 fr_10 fr_11 fr_12 : mm_M} (HM : fr_Eq fr_M fr_1 fr_2 fr_3 fr_4 fr_5 fr_6 fr_7 fr_8 fr_9 fr_10 fr_11 fr_12) {xs : Nat → Int32} {Q : Option Value → mm_M → Prop} (k : Q (some (.int (0 : Int32))) fr_8) : mm_T (fr_X 6 xs) 39 193 0 [.ref 77] [] fr_7 Q := by
  rw [HM.2.2.2.2.2.2.2.1]
  rw [HM.2.2.2.2.2.2.2.2.1] at k
  exact fr_call cr_8_r rfl cr_7_H rfl k
theorem cr_9_r : (fr_r 3549 38 142 [.ref 0] cr_M).map (fun z => z.1) = some (none) := by decide +kernel
theorem cr_9_H : ns_H cr_9 := fr_H cr_9_r rfl cr_M_H rfl
theorem fr_9_T {fr_M fr_1 fr_2 fr_3 fr_4 fr_5 fr_6 fr_7 fr_8 fr_9 fr_10 fr_11 fr_12 : mm_M} (HM : fr_Eq fr_M fr_1 fr_2 fr_3 fr_4 fr_5 fr_6 fr_7 fr_8 fr_9 fr_10 fr_11 fr_12) {xs : Nat → Int32} {Q : Option Value → mm_M → Prop} (k : Q (none) fr_9) : mm_T (fr_X 6 xs) 38 142 0 [.ref 0] [] fr_M Q := by
  rw [HM.1]
  rw [HM.2.2.2.2.2.2.2.2.2.1] at k
  exact fr_call cr_9_r rfl cr_M_H rfl k
theorem cr_10_r : (fr_r 731 38 24 [.ref 17, .ref 11, .int (10 : Int32)] cr_9).map (fun z => z.1) = some (none) := by decide +kernel
theorem cr_10_H : ns_H cr_10 := fr_H cr_10_r rfl cr_9_H rfl
theorem fr_10_T {fr_M fr_1 fr_2 fr_3 fr_4 fr_5 fr_6 fr_7 fr_8 fr_9 fr_10 fr_11 fr_12 : mm_M} (HM : fr_Eq fr_M fr_1 fr_2 fr_3 fr_4 fr_5 fr_6 fr_7 fr_8 fr_9 fr_10 fr_11 fr_12) {xs : Nat → Int32} {Q : Option Value → mm_M → Prop} (k : Q (none) fr_10) : mm_T (fr_X 6 xs) 38 24 0 [.ref 17, .ref 11, .int (10 : Int32), .null, .null] [] fr_9 Q := by
  rw [HM.2.2.2.2.2.2.2.2.2.1]
  rw [HM.2.2.2.2.2.2.2.2.2.2.1] at k
  exact fr_call cr_10_r rfl cr_9_H rfl k
theorem cr_11_r : (fr_r 86 39 130 [.ref 0] cr_M).map (fun z => z.1) = some (some (.int (0 : Int32))) := by decide +kernel
theorem cr_11_H : ns_H cr_11 := fr_H cr_11_r rfl cr_M_H rfl
theorem fr_11_T {fr_M fr_1 fr_2 fr_3 fr_4 fr_5 fr_6 fr_7 fr_8 fr_9 fr_10 fr_11 fr_12 : mm_M} (HM : fr_Eq fr_M fr_1 fr_2 fr_3 fr_4 fr_5 fr_6 fr_7 fr_8 fr_9 fr_10 fr_11 fr_12) {xs : Nat → Int32} {Q : Option Value → mm_M → Prop} (k : Q (some (.int (0 : Int32))) fr_11) : mm_T (fr_X 6 xs) 39 130 0 [.ref 0, .null] [] fr_M Q := by
  rw [HM.1]
  rw [HM.2.2.2.2.2.2.2.2.2.2.2.1] at k
  exact fr_call cr_11_r rfl cr_M_H rfl k
theorem cr_12_r : (fr_r 91 39 209 [.ref 77] cr_11).map (fun z => z.1) = some (some (.int (0 : Int32))) := by decide +kernel
theorem cr_12_H : ns_H cr_12 := fr_H cr_12_r rfl cr_11_H rfl
theorem fr_12_T {fr_M fr_1 fr_2 fr_3 fr_4 fr_5 fr_6 fr_7 fr_8 fr_9 fr_10 fr_11 fr_12 : mm_M} (HM : fr_Eq fr_M fr_1 fr_2 fr_3 fr_4 fr_5 fr_6 fr_7 fr_8 fr_9 fr_10 fr_11 fr_12) {xs : Nat → Int32} {Q : Option Value → mm_M → Prop} (k : Q (some (.int (0 : Int32))) fr_12) : mm_T (fr_X 6 xs) 39 209 0 [.ref 77, .null] [] fr_11 Q := by
  rw [HM.2.2.2.2.2.2.2.2.2.2.2.1]
  rw [HM.2.2.2.2.2.2.2.2.2.2.2.2] at k
  exact fr_call cr_12_r rfl cr_11_H rfl k


