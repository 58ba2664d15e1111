set_option maxHeartbeats 200000 in
theorem qx0 {z0 : Int32} {z1 : Int32} {z2 : Int32} (h0 : (0 : Int32) ≤ z2 ∧ z2 ≤ (900 : Int32)) (h1 : z1 = z2) (h2 : z0 < 0) : (z0 < 0 ∨ z1 < z0 → z2 = z1) ∧ (0 ≤ z0 ∧ z0 ≤ z1 → z2 = 0) := by lia
set_option maxHeartbeats 200000 in
theorem qx1 {z0 : Int32} {z1 : Int32} {z2 : Int32} {z3 : Int32} (h0 : (0 : Int32) ≤ z1 ∧ z1 ≤ (900 : Int32)) (h1 : z2 = z1) (h2 : ¬ z0 < 0) (h3 : (0 : Int32) ≤ z3 ∧ z3 ≤ (900 : Int32)) (h4 : z3 = z1) (h5 : z0 ≤ z3) : (0 : Int32) ≤ z0 ∧ z0 ≤ (900 : Int32) := by lia
set_option maxHeartbeats 200000 in
theorem qx2 {z0 : Int32} {z1 : Int32} {z2 : Int32} {z3 : Int32} (h0 : (0 : Int32) ≤ z0 ∧ z0 ≤ (900 : Int32)) (h1 : z1 = z0) (h2 : ¬ z2 < 0) (h3 : (0 : Int32) ≤ z3 ∧ z3 ≤ (900 : Int32)) (h4 : z3 = z0) (h5 : z2 ≤ z3) : (0 : Int32) ≤ (0 : Int32) ∧ (0 : Int32) ≤ (900 : Int32) := by first | (clear h0 h1 h2 h3 h4 h5; lia) | lia
set_option maxHeartbeats 200000 in
theorem qx3 {z0 : Int32} {z1 : Int32} {z2 : Int32} {z3 : Int32} {z4 : Int32} {z5 : Int32} (h0 : (0 : Int32) ≤ z2 ∧ z2 ≤ (900 : Int32)) (h1 : z3 = z2) (h2 : ¬ z4 < 0) (h3 : (0 : Int32) ≤ z5 ∧ z5 ≤ (900 : Int32)) (h4 : z5 = z2) (h5 : z4 ≤ z5) (h6 : z1 = (0 : Int32)) (h7 : z0 = (0 : Int32)) : z0 = 5 → 0 < z1 := by first | (clear h0 h1 h2 h3 h4 h5; lia) | lia
set_option maxHeartbeats 200000 in
theorem qx4 {z0 : Int32} {z1 : Int32} {z2 : Int32} {z3 : Int32} {z4 : Int32} {z5 : Int32} {z6 : Int32} {z7 : Int32} (h0 : (0 : Int32) ≤ z2 ∧ z2 ≤ (900 : Int32)) (h1 : z3 = z2) (h2 : ¬ z4 < 0) (h3 : (0 : Int32) ≤ z5 ∧ z5 ≤ (900 : Int32)) (h4 : z5 = z2) (h5 : z4 ≤ z5) (h6 : z1 = (0 : Int32)) (h7 : z6 = (0 : Int32)) (h8 : z7 = z1) (h9 : z0 = 5 → 0 < z1) (h10 : z0 = 5 ∨ ¬ z6 = 5) : z0 = 5 → 0 < z1 := by first | (clear h0 h1 h2 h3 h4 h5; lia) | lia
set_option maxHeartbeats 200000 in
theorem qx5 {z0 : Int32} {z1 : Int32} {z2 : Int32} {z3 : Int32} {z4 : Int32} {z5 : Int32} {z6 : Int32} (h0 : (0 : Int32) ≤ z1 ∧ z1 ≤ (900 : Int32)) (h1 : z2 = z1) (h2 : ¬ z3 < 0) (h3 : (0 : Int32) ≤ z4 ∧ z4 ≤ (900 : Int32)) (h4 : z4 = z1) (h5 : z3 ≤ z4) (h6 : z5 = 5 → 0 < z6) (h7 : z0 = z6) (h8 : z0 ≤ 0) : ¬ 0 < z0 := by first | (clear h0 h1 h2 h3 h4 h5; lia) | lia
set_option maxHeartbeats 200000 in
theorem qx6 {z0 : Int32} {z1 : Int32} {z2 : Int32} {z3 : Int32} (h0 : (0 : Int32) ≤ z0 ∧ z0 ≤ (900 : Int32)) (h1 : z1 = z0) (h2 : ¬ z2 < 0) (h3 : (0 : Int32) ≤ z3 ∧ z3 ≤ (900 : Int32)) (h4 : z3 = z0) (h5 : z2 ≤ z3) : (0 : Int32) ≤ (0 : Int32) ∧ (0 : Int32) ≤ (16 : Int32) := by first | (clear h0 h1 h2 h3 h4 h5; lia) | lia
set_option maxHeartbeats 200000 in
theorem qx7 {z0 : Int32} {z1 : Int32} {z2 : Int32} {z3 : Int32} (h0 : (0 : Int32) ≤ z0 ∧ z0 ≤ (900 : Int32)) (h1 : z1 = z0) (h2 : ¬ z2 < 0) (h3 : (0 : Int32) ≤ z3 ∧ z3 ≤ (900 : Int32)) (h4 : z3 = z0) (h5 : z2 ≤ z3) : (0 : Int32) ≤ (0 : Int32) ∧ (0 : Int32) ≤ (3 : Int32) := by first | (clear h0 h1 h2 h3 h4 h5; lia) | lia
set_option maxHeartbeats 200000 in
theorem qx8 {z0 : Int32} {z1 : Int32} {z2 : Int32} {z3 : Int32} {z4 : Int32} (h0 : (0 : Int32) ≤ z3 ∧ z3 ≤ (900 : Int32)) (h1 : z1 = z3) (h2 : ¬ z0 < 0) (h3 : (0 : Int32) ≤ z4 ∧ z4 ≤ (900 : Int32)) (h4 : z4 = z3) (h5 : z0 ≤ z4) (h6 : z2 = (0 : Int32)) : (z0 < 0 ∨ z1 < z0 → z2 = z1) ∧ (0 ≤ z0 ∧ z0 ≤ z1 → z2 = 0) := by lia
set_option maxHeartbeats 200000 in
theorem qx9 {z0 : Int32} {z1 : Int32} {z2 : Int32} {z3 : Int32} (h0 : (0 : Int32) ≤ z3 ∧ z3 ≤ (900 : Int32)) (h1 : z1 = z3) (h2 : ¬ z0 < 0) (h3 : (0 : Int32) ≤ z2 ∧ z2 ≤ (900 : Int32)) (h4 : z2 = z3) (h5 : ¬ z0 ≤ z2) : (z0 < 0 ∨ z1 < z0 → z2 = z1) ∧ (0 ≤ z0 ∧ z0 ≤ z1 → z2 = 0) := by lia
