def fr_1a : mm_M := mm_new mm_M0 10 0 13
def fr_A : mm_M := fr_m (fr_r 600 39 109 [.ref 0] fr_1a)
def fr_2a : mm_M := mm_new fr_A 11 0 78
def fr_B : mm_M := fr_m (fr_r 2000 39 146 [.ref 77] fr_2a)
def fr_M : mm_M := mm_new fr_B 101 1 1
def fr_1 : mm_M := fr_m (fr_r 249 39 111 [.ref 0, .int (0 : Int32)] fr_M)
def fr_2 : mm_M := fr_m (fr_r 1043 39 173 [.ref 77, .int (0 : Int32)] fr_1)
def fr_3 : mm_M := fr_m (fr_r 4478 39 112 [.ref 0, .int (0 : Int32)] fr_M)
def fr_4 : mm_M := fr_m (fr_r 122 39 219 [.ref 77, .int (0 : Int32)] fr_3)
def fr_5 : mm_M := fr_m (fr_r 206 39 113 [.ref 0, .int (0 : Int32)] fr_M)
def fr_6 : mm_M := fr_m (fr_r 125 39 227 [.ref 77, .int (0 : Int32)] fr_5)
def fr_7 : mm_M := fr_m (fr_r 51 39 118 [.ref 0] fr_M)
def fr_8 : mm_M := fr_m (fr_r 40 39 193 [.ref 77] fr_7)
def fr_9 : mm_M := fr_m (fr_r 3549 38 142 [.ref 0] fr_M)
def fr_10 : mm_M := fr_m (fr_r 731 38 24 [.ref 17, .ref 11, .int (10 : Int32)] fr_9)
def fr_11 : mm_M := fr_m (fr_r 86 39 130 [.ref 0] fr_M)
def fr_12 : mm_M := fr_m (fr_r 91 39 209 [.ref 77] fr_11)
theorem fr_M_e : mm_new fr_B 101 1 1 = fr_M := by unfold fr_M; rfl
theorem fr_1_e : fr_m (fr_r 249 39 111 [.ref 0, .int (0 : Int32)] fr_M) = fr_1 := by unfold fr_1; rfl
theorem fr_2_e : fr_m (fr_r 1043 39 173 [.ref 77, .int (0 : Int32)] fr_1) = fr_2 := by unfold fr_2; rfl
theorem fr_3_e : fr_m (fr_r 4478 39 112 [.ref 0, .int (0 : Int32)] fr_M) = fr_3 := by unfold fr_3; rfl
theorem fr_4_e : fr_m (fr_r 122 39 219 [.ref 77, .int (0 : Int32)] fr_3) = fr_4 := by unfold fr_4; rfl
theorem fr_5_e : fr_m (fr_r 206 39 113 [.ref 0, .int (0 : Int32)] fr_M) = fr_5 := by unfold fr_5; rfl
theorem fr_6_e : fr_m (fr_r 125 39 227 [.ref 77, .int (0 : Int32)] fr_5) = fr_6 := by unfold fr_6; rfl
theorem fr_7_e : fr_m (fr_r 51 39 118 [.ref 0] fr_M) = fr_7 := by unfold fr_7; rfl
theorem fr_8_e : fr_m (fr_r 40 39 193 [.ref 77] fr_7) = fr_8 := by unfold fr_8; rfl
theorem fr_9_e : fr_m (fr_r 3549 38 142 [.ref 0] fr_M) = fr_9 := by unfold fr_9; rfl
theorem fr_10_e : fr_m (fr_r 731 38 24 [.ref 17, .ref 11, .int (10 : Int32)] fr_9) = fr_10 := by unfold fr_10; rfl
theorem fr_11_e : fr_m (fr_r 86 39 130 [.ref 0] fr_M) = fr_11 := by unfold fr_11; rfl
theorem fr_12_e : fr_m (fr_r 91 39 209 [.ref 77] fr_11) = fr_12 := by unfold fr_12; rfl
