/-- the place of a number's first figure -/
def ndg (m : Nat) : Nat := if m < 10 then 0 else if m < 100 then 1 else if m < 1000 then 2 else if m < 10000 then 3 else if m < 100000 then 4 else if m < 1000000 then 5 else if m < 10000000 then 6 else if m < 100000000 then 7 else if m < 1000000000 then 8 else 9
theorem ndg_eq {e m : Nat} (he : e ≤ 9) (h1 : e = 0 ∨ 10 ^ e ≤ m) (h2 : e = 9 ∨ m < 10 ^ (e + 1)) : ndg m = e := by
  rcases (show e = 0 ∨ e = 1 ∨ e = 2 ∨ e = 3 ∨ e = 4 ∨ e = 5 ∨ e = 6 ∨ e = 7 ∨ e = 8 ∨ e = 9 by omega) with rfl | rfl | rfl | rfl | rfl | rfl | rfl | rfl | rfl | rfl <;> simp only [ndg] <;> simp at h1 h2 <;> (repeat' split) <;> omega
theorem ndg_le (m : Nat) : ndg m ≤ 9 := by simp only [ndg]; (repeat' split) <;> omega
theorem ndg_lt {m : Nat} (h : m < 10 ^ 10) : m < 10 ^ (ndg m + 1) := by
  simp only [ndg]; (repeat' split) <;> simp at * <;> omega
/-- c figures of m -/
def digsC : Nat → Nat → List Nat
  | 0, _ => []
  | c + 1, m => (48 + m / 10 ^ c) :: digsC c (m % 10 ^ c)
def pw (c : Nat) : Nat := match c with
  | 0 => 0
  | c + 1 => 10 ^ c
theorem pw_div (c : Nat) : 10 ^ c / 10 = pw c := by
  cases c with
  | zero => rfl
  | succ c => simp only [pw, Nat.pow_succ]; omega
def absN (v : Int32) : Nat := v.toInt.natAbs
def numB (v : Int32) : List Nat := (if v < 0 then [45] else []) ++ digsC (ndg (absN v) + 1) (absN v)
theorem absN_le (v : Int32) : absN v ≤ 2 ^ 31 := by
  have h1 := Int32.le_toInt v
  have h2 := Int32.toInt_lt v
  simp only [absN]; omega
