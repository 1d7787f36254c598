def fr_1a : mm_M := mm_new mm_M0 10 0 13
def fr_A : mm_M := fr_m (fr_r 600 39 109 [.ref 0] fr_1a)
def fr_2a : mm_M := mm_new fr_A 11 0 78
def fr_B : mm_M := fr_m (fr_r 2000 39 146 [.ref 77] fr_2a)
def cr_M : mm_M := mm_new fr_B 101 1 1
def cr_1 : mm_M := fr_m (fr_r 249 39 111 [.ref 0, .int (0 : Int32)] cr_M)
def cr_2 : mm_M := fr_m (fr_r 1043 39 173 [.ref 77, .int (0 : Int32)] cr_1)
def cr_3 : mm_M := fr_m (fr_r 4478 39 112 [.ref 0, .int (0 : Int32)] cr_M)
def cr_4 : mm_M := fr_m (fr_r 122 39 219 [.ref 77, .int (0 : Int32)] cr_3)
def cr_5 : mm_M := fr_m (fr_r 206 39 113 [.ref 0, .int (0 : Int32)] cr_M)
def cr_6 : mm_M := fr_m (fr_r 125 39 227 [.ref 77, .int (0 : Int32)] cr_5)
def cr_7 : mm_M := fr_m (fr_r 51 39 118 [.ref 0] cr_M)
def cr_8 : mm_M := fr_m (fr_r 40 39 193 [.ref 77] cr_7)
def cr_9 : mm_M := fr_m (fr_r 3549 38 142 [.ref 0] cr_M)
def cr_10 : mm_M := fr_m (fr_r 731 38 24 [.ref 17, .ref 11, .int (10 : Int32)] cr_9)
def cr_11 : mm_M := fr_m (fr_r 86 39 130 [.ref 0] cr_M)
def cr_12 : mm_M := fr_m (fr_r 91 39 209 [.ref 77] cr_11)
def fr_Eq (fr_M fr_1 fr_2 fr_3 fr_4 fr_5 fr_6 fr_7 fr_8 fr_9 fr_10 fr_11 fr_12 : mm_M) : Prop := fr_M = cr_M ∧ fr_1 = cr_1 ∧ fr_2 = cr_2 ∧ fr_3 = cr_3 ∧ fr_4 = cr_4 ∧ fr_5 = cr_5 ∧ fr_6 = cr_6 ∧ fr_7 = cr_7 ∧ fr_8 = cr_8 ∧ fr_9 = cr_9 ∧ fr_10 = cr_10 ∧ fr_11 = cr_11 ∧ fr_12 = cr_12
