theorem t1 (x : Int32) (h : 0 ≤ x) (h2 : x ≤ 900) : x + 1 ≤ 901 := by lia
theorem t2 (x y : Int32) (h : 0 ≤ x) (h2 : x < y) (h3 : y ≤ 900) : 0 ≤ x + 20 ∧ x + 20 < 920 := by lia
theorem t3 (x : Int32) (h : 0 ≤ x) (h2 : ¬ 24 < x) : vp_in x 25 := by rw [vp_in_iff]; grind
theorem t4 (x : Int32) (h : 0 ≤ x) (h2 : ¬ 24 < x) : 0 ≤ x.toInt ∧ x.toInt < 25 := by constructor <;> lia
theorem t5 (x : Int32) (h : 0 ≤ x.toInt) (h2 : ¬ 24 < x) : x.toInt + 1 < 26 := by lia
theorem t6 (x y : Int32) (h : 0 ≤ x.toInt) (h2 : x.toInt ≤ 24) (e : y = x + 1): y.toInt ≤ 25 := by lia
theorem t7 (x y : Int32) (h : 0 ≤ x.toInt) (h2 : x.toInt ≤ 24) (e : y = x * 5 + 3): y.toInt ≤ 123 := by lia
theorem t8 (x : Int32) (n : Nat) (hn : n = 12) (h0 : ¬ x < 0) (h2 : ¬ nI n ≤ x): vp_in x n := by subst hn; rw [vp_in_iff]; constructor <;> lia
theorem t9 (x y : Int32) (h : 0 ≤ x.toInt) (h2 : x.toInt ≤ 24) (e : y = x / 5): y.toInt ≤ 4 := by lia
