/-! how deep a call may go -/
theorem dp0 {n m d : Nat} (h : m ≤ d) (k : n ≤ m) : n ≤ d := Nat.le_trans k h
theorem dp1 {n m d : Nat} (h : m ≤ d) (k : n + 1 ≤ m) : n ≤ d - 1 := by omega
theorem dp2 {n m d : Nat} (h : m ≤ d) (k : n + 2 ≤ m) : n ≤ d - 1 - 1 := by omega
theorem dp3 {n m d : Nat} (h : m ≤ d) (k : n + 3 ≤ m) : n ≤ d - 1 - 1 - 1 := by omega
