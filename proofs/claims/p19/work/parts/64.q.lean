section
set_option maxHeartbeats 1000000 in
theorem qy0 {z0 : Int32} {z1 : Int32} {z2 : Int32} (h0 : (0 : Int32) ≤ z2 ∧ z2 ≤ (900 : Int32)) (h1 : z1 = z2) (h2 : z0 < 0) : (z0 < 0 ∨ z1 < z0 → z2 = z1) ∧ (0 ≤ z0 ∧ z0 ≤ z1 → z2 = 0) := by lia
set_option maxHeartbeats 1000000 in
theorem qy1 {z0 : Int32} {z1 : Int32} {z2 : Int32} {z3 : Int32} (h0 : (0 : Int32) ≤ z1 ∧ z1 ≤ (900 : Int32)) (h1 : z2 = z1) (h2 : ¬ z0 < 0) (h3 : (0 : Int32) ≤ z3 ∧ z3 ≤ (900 : Int32)) (h4 : z3 = z1) (h5 : z0 ≤ z3) : 0 ≤ z0 := by lia
set_option maxHeartbeats 1000000 in
theorem qy2 {z0 : Int32} {z1 : Int32} {z2 : Int32} {z3 : Int32} (h0 : (0 : Int32) ≤ z0 ∧ z0 ≤ (900 : Int32)) (h1 : z1 = z0) (h2 : ¬ z2 < 0) (h3 : (0 : Int32) ≤ z3 ∧ z3 ≤ (900 : Int32)) (h4 : z3 = z0) (h5 : z2 ≤ z3) : (0 : Int32) ≤ (0 : Int32) ∧ (0 : Int32) ≤ (900 : Int32) := by first | (clear h0 h1 h2 h3 h4 h5; lia) | lia
set_option maxHeartbeats 1000000 in
theorem qy3 {z0 : Int32} {z1 : Int32} {z2 : Int32} {z3 : Int32} {z4 : Int32} (h0 : (0 : Int32) ≤ z0 ∧ z0 ≤ (900 : Int32)) (h1 : z1 = z0) (h2 : ¬ z2 < 0) (h3 : (0 : Int32) ≤ z3 ∧ z3 ≤ (900 : Int32)) (h4 : z3 = z0) (h5 : z2 ≤ z3) (h6 : z4 = 0 ∨ z4 = 1) (h7 : ¬ z4 = 0) : (-1 : Int32) ≤ (-1 : Int32) ∧ (-1 : Int32) ≤ (3 : Int32) := by first | (clear h0 h1 h2 h3 h4 h5 h6 h7; lia) | lia
set_option maxHeartbeats 1000000 in
theorem qy4 {z0 : Int32} {z1 : Int32} {z2 : Int32} {z3 : Int32} {z4 : Int32} (h0 : (0 : Int32) ≤ z0 ∧ z0 ≤ (900 : Int32)) (h1 : z1 = z0) (h2 : ¬ z2 < 0) (h3 : (0 : Int32) ≤ z3 ∧ z3 ≤ (900 : Int32)) (h4 : z3 = z0) (h5 : z2 ≤ z3) (h6 : z4 = 0 ∨ z4 = 1) (h7 : ¬ z4 = 0) : (0 : Int32) ≤ (0 : Int32) ∧ (0 : Int32) ≤ (16 : Int32) := by first | (clear h0 h1 h2 h3 h4 h5 h6 h7; lia) | lia
set_option maxHeartbeats 1000000 in
theorem qy5 {z0 : Int32} {z1 : Int32} {z2 : Int32} {z3 : Int32} {z4 : Int32} (h0 : (0 : Int32) ≤ z0 ∧ z0 ≤ (900 : Int32)) (h1 : z1 = z0) (h2 : ¬ z2 < 0) (h3 : (0 : Int32) ≤ z3 ∧ z3 ≤ (900 : Int32)) (h4 : z3 = z0) (h5 : z2 ≤ z3) (h6 : z4 = 0 ∨ z4 = 1) (h7 : ¬ z4 = 0) : (0 : Int32) ≤ (0 : Int32) ∧ (0 : Int32) ≤ (3 : Int32) := by first | (clear h0 h1 h2 h3 h4 h5 h6 h7; lia) | lia
set_option maxHeartbeats 1000000 in
theorem qy6 {z0 : Int32} {z1 : Int32} {z2 : Int32} {z3 : Int32} {z4 : Int32} {z5 : Int32} (h0 : (0 : Int32) ≤ z3 ∧ z3 ≤ (900 : Int32)) (h1 : z1 = z3) (h2 : ¬ z0 < 0) (h3 : (0 : Int32) ≤ z4 ∧ z4 ≤ (900 : Int32)) (h4 : z4 = z3) (h5 : z0 ≤ z4) (h6 : z5 = 0 ∨ z5 = 1) (h7 : z2 = (0 : Int32)) (h8 : ¬ z5 = 0) : (z0 < 0 ∨ z1 < z0 → z2 = z1) ∧ (0 ≤ z0 ∧ z0 ≤ z1 → z2 = 0) := by first | (clear h6 h8; lia) | lia
set_option maxHeartbeats 1000000 in
theorem qy7 {z0 : Int32} {z1 : Int32} {z2 : Int32} {z3 : Int32} {z4 : Int32} {z5 : Int32} (h0 : (0 : Int32) ≤ z3 ∧ z3 ≤ (900 : Int32)) (h1 : z1 = z3) (h2 : ¬ z0 < 0) (h3 : (0 : Int32) ≤ z4 ∧ z4 ≤ (900 : Int32)) (h4 : z4 = z3) (h5 : z0 ≤ z4) (h6 : z5 = 0 ∨ z5 = 1) (h7 : z2 = (0 : Int32)) (h8 : z5 = 0) : (z0 < 0 ∨ z1 < z0 → z2 = z1) ∧ (0 ≤ z0 ∧ z0 ≤ z1 → z2 = 0) := by first | (clear h6 h8; lia) | lia
set_option maxHeartbeats 1000000 in
theorem qy8 {z0 : Int32} {z1 : Int32} {z2 : Int32} {z3 : Int32} (h0 : (0 : Int32) ≤ z3 ∧ z3 ≤ (900 : Int32)) (h1 : z1 = z3) (h2 : ¬ z0 < 0) (h3 : (0 : Int32) ≤ z2 ∧ z2 ≤ (900 : Int32)) (h4 : z2 = z3) (h5 : ¬ z0 ≤ z2) : (z0 < 0 ∨ z1 < z0 → z2 = z1) ∧ (0 ≤ z0 ∧ z0 ≤ z1 → z2 = 0) := by lia
set_option maxHeartbeats 1000000 in
theorem qy9 {z0 : Int32} {z1 : Int32} {z2 : Int32} {z3 : Int32} {z4 : Int32} {z5 : Int32} {z6 : Int32} {z7 : Int32} {z8 : Int32} {z9 : Int32} (h0 : (0 : Int32) ≤ z3 ∧ z3 ≤ (900 : Int32)) (h1 : z0 = z3) (h2 : (0 : Int32) ≤ z4 ∧ z4 ≤ (900 : Int32)) (h3 : z4 = z3) (h4 : (z4 + (20 : Int32)) ≤ (900 : Int32)) (h5 : (0 : Int32) ≤ z5 ∧ z5 ≤ (900 : Int32)) (h6 : z4 ≤ 896 → z5 = z4 + 4) (h7 : (0 : Int32) ≤ z6 ∧ z6 ≤ (900 : Int32)) (h8 : z5 ≤ 896 → z6 = z5 + 4) (h9 : (0 : Int32) ≤ z7 ∧ z7 ≤ (900 : Int32)) (h10 : z6 ≤ 896 → z7 = z6 + 4) (h11 : (0 : Int32) ≤ z8 ∧ z8 ≤ (900 : Int32)) (h12 : z7 ≤ 896 → z8 = z7 + 4) (h13 : (0 : Int32) ≤ z9 ∧ z9 ≤ (900 : Int32)) (h14 : z8 ≤ 896 → z9 = z8 + 4) (h15 : (0 : Int32) ≤ z2 ∧ z2 ≤ (900 : Int32)) (h16 : z2 = z9) (h17 : z1 = z2) : (900 < z0 + 20 → z1 = -1 ∧ z2 = z0) ∧ (z0 + 20 ≤ 900 → z1 = z2 ∧ z2 = z0 + 20) := by have e := feed5 h2 h4 h6 h8 h10 h12 h14; rw [h1, ← h3, h17, h16, e]; exact ⟨fun c => absurd c (Int32.not_lt.mpr h4), fun _ => ⟨rfl, rfl⟩⟩
set_option maxHeartbeats 1000000 in
theorem qy10 {z0 : Int32} {z1 : Int32} {z2 : Int32} (h0 : (0 : Int32) ≤ z2 ∧ z2 ≤ (900 : Int32)) (h1 : z0 = z2) (h2 : (0 : Int32) ≤ z1 ∧ z1 ≤ (900 : Int32)) (h3 : z1 = z2) (h4 : ¬ (z1 + (20 : Int32)) ≤ (900 : Int32)) : (900 < z0 + 20 → (-1 : Int32) = -1 ∧ z1 = z0) ∧ (z0 + 20 ≤ 900 → (-1 : Int32) = z1 ∧ z1 = z0 + 20) := by lia
set_option maxHeartbeats 1000000 in
theorem qy11   : (24 : Int32) ≤ 24 ∧ -8 ≤ (24 : Int32) := by lia
set_option maxHeartbeats 1000000 in
theorem qy12 {z0 : Int32} {z1 : Int32} (h0 : (0 : Int32) ≤ z1 ∧ z1 ≤ (900 : Int32)) (h1 : z0 = z1) : z0 ≤ 896 → ((24 : Int32) = 24 ∧ z1 = z0) ∨ ((24 : Int32) = 16 ∧ z1 = z0 + 1) ∨ ((24 : Int32) = 8 ∧ z1 = z0 + 2) ∨ ((24 : Int32) = 0 ∧ z1 = z0 + 3) ∨ ((24 : Int32) = -8 ∧ z1 = z0 + 4) := by lia
set_option maxHeartbeats 1000000 in
theorem qy13 {z0 : Int32} {z1 : Int32} {z2 : Int32} {z3 : Int32} (h0 : (0 : Int32) ≤ z2 ∧ z2 ≤ (900 : Int32)) (h1 : z0 = z2) (h2 : z3 ≤ 24 ∧ -8 ≤ z3) (h3 : (0 : Int32) ≤ z1 ∧ z1 ≤ (900 : Int32)) (h4 : z0 ≤ 896 → (z3 = 24 ∧ z1 = z0) ∨ (z3 = 16 ∧ z1 = z0 + 1) ∨ (z3 = 8 ∧ z1 = z0 + 2) ∨ (z3 = 0 ∧ z1 = z0 + 3) ∨ (z3 = -8 ∧ z1 = z0 + 4)) (h5 : z3 < 0) : z0 ≤ 896 → z1 = z0 + 4 := by lia
set_option maxHeartbeats 1000000 in
theorem qy14 {z0 : Int32} {z1 : Int32} {z2 : Int32} {z3 : Int32} {z4 : Int32} {z5 : Int32} (h0 : (0 : Int32) ≤ z1 ∧ z1 ≤ (900 : Int32)) (h1 : z2 = z1) (h2 : z3 ≤ 24 ∧ -8 ≤ z3) (h3 : (0 : Int32) ≤ z4 ∧ z4 ≤ (900 : Int32)) (h4 : z2 ≤ 896 → (z3 = 24 ∧ z4 = z2) ∨ (z3 = 16 ∧ z4 = z2 + 1) ∨ (z3 = 8 ∧ z4 = z2 + 2) ∨ (z3 = 0 ∧ z4 = z2 + 3) ∨ (z3 = -8 ∧ z4 = z2 + 4)) (h5 : ¬ z3 < 0) (h6 : (0 : Int32) ≤ z5 ∧ z5 ≤ (900 : Int32)) (h7 : z5 = z4) (h8 : z5 < 0) (h9 : z0 = z3 + (-8 : Int32)) : z0 ≤ 24 ∧ -8 ≤ z0 := by lia
set_option maxHeartbeats 1000000 in
theorem qy15 {z0 : Int32} {z1 : Int32} {z2 : Int32} {z3 : Int32} {z4 : Int32} {z5 : Int32} (h0 : (0 : Int32) ≤ z3 ∧ z3 ≤ (900 : Int32)) (h1 : z0 = z3) (h2 : z4 ≤ 24 ∧ -8 ≤ z4) (h3 : (0 : Int32) ≤ z5 ∧ z5 ≤ (900 : Int32)) (h4 : z0 ≤ 896 → (z4 = 24 ∧ z5 = z0) ∨ (z4 = 16 ∧ z5 = z0 + 1) ∨ (z4 = 8 ∧ z5 = z0 + 2) ∨ (z4 = 0 ∧ z5 = z0 + 3) ∨ (z4 = -8 ∧ z5 = z0 + 4)) (h5 : ¬ z4 < 0) (h6 : (0 : Int32) ≤ z2 ∧ z2 ≤ (900 : Int32)) (h7 : z2 = z5) (h8 : z2 < 0) (h9 : z1 = z4 + (-8 : Int32)) : z0 ≤ 896 → (z1 = 24 ∧ z2 = z0) ∨ (z1 = 16 ∧ z2 = z0 + 1) ∨ (z1 = 8 ∧ z2 = z0 + 2) ∨ (z1 = 0 ∧ z2 = z0 + 3) ∨ (z1 = -8 ∧ z2 = z0 + 4) := by lia
set_option maxHeartbeats 1000000 in
theorem qy16 {z0 : Int32} {z1 : Int32} {z2 : Int32} {z3 : Int32} {z4 : Int32} {z5 : Int32} (h0 : (0 : Int32) ≤ z2 ∧ z2 ≤ (900 : Int32)) (h1 : z3 = z2) (h2 : z1 ≤ 24 ∧ -8 ≤ z1) (h3 : (0 : Int32) ≤ z4 ∧ z4 ≤ (900 : Int32)) (h4 : z3 ≤ 896 → (z1 = 24 ∧ z4 = z3) ∨ (z1 = 16 ∧ z4 = z3 + 1) ∨ (z1 = 8 ∧ z4 = z3 + 2) ∨ (z1 = 0 ∧ z4 = z3 + 3) ∨ (z1 = -8 ∧ z4 = z3 + 4)) (h5 : ¬ z1 < 0) (h6 : (0 : Int32) ≤ z5 ∧ z5 ≤ (900 : Int32)) (h7 : z5 = z4) (h8 : z5 < 0) (h9 : z0 = z1 + (-8 : Int32)) : z0 < z1 := by lia
set_option maxHeartbeats 1000000 in
theorem qy17 {z0 : Int32} {z1 : Int32} {z2 : Int32} {z3 : Int32} {z4 : Int32} {z5 : Int32} (h0 : (0 : Int32) ≤ z1 ∧ z1 ≤ (900 : Int32)) (h1 : z2 = z1) (h2 : z0 ≤ 24 ∧ -8 ≤ z0) (h3 : (0 : Int32) ≤ z3 ∧ z3 ≤ (900 : Int32)) (h4 : z2 ≤ 896 → (z0 = 24 ∧ z3 = z2) ∨ (z0 = 16 ∧ z3 = z2 + 1) ∨ (z0 = 8 ∧ z3 = z2 + 2) ∨ (z0 = 0 ∧ z3 = z2 + 3) ∨ (z0 = -8 ∧ z3 = z2 + 4)) (h5 : ¬ z0 < 0) (h6 : (0 : Int32) ≤ z4 ∧ z4 ≤ (900 : Int32)) (h7 : z4 = z3) (h8 : z4 < 0) (h9 : z5 = z0 + (-8 : Int32)) : (-9 : Int32) < z0 := by lia
set_option maxHeartbeats 1000000 in
theorem qy18 {z0 : Int32} {z1 : Int32} {z2 : Int32} {z3 : Int32} {z4 : Int32} {z5 : Int32} {z6 : Int32} (h0 : (0 : Int32) ≤ z1 ∧ z1 ≤ (900 : Int32)) (h1 : z2 = z1) (h2 : z3 ≤ 24 ∧ -8 ≤ z3) (h3 : (0 : Int32) ≤ z4 ∧ z4 ≤ (900 : Int32)) (h4 : z2 ≤ 896 → (z3 = 24 ∧ z4 = z2) ∨ (z3 = 16 ∧ z4 = z2 + 1) ∨ (z3 = 8 ∧ z4 = z2 + 2) ∨ (z3 = 0 ∧ z4 = z2 + 3) ∨ (z3 = -8 ∧ z4 = z2 + 4)) (h5 : ¬ z3 < 0) (h6 : (0 : Int32) ≤ z5 ∧ z5 ≤ (900 : Int32)) (h7 : z5 = z4) (h8 : ¬ z5 < 0) (h9 : (0 : Int32) ≤ z6 ∧ z6 ≤ (900 : Int32)) (h10 : z6 = z5) (h11 : (900 : Int32) ≤ z6) (h12 : z0 = z3 + (-8 : Int32)) : z0 ≤ 24 ∧ -8 ≤ z0 := by lia
set_option maxHeartbeats 1000000 in
theorem qy19 {z0 : Int32} {z1 : Int32} {z2 : Int32} {z3 : Int32} {z4 : Int32} {z5 : Int32} {z6 : Int32} (h0 : (0 : Int32) ≤ z3 ∧ z3 ≤ (900 : Int32)) (h1 : z0 = z3) (h2 : z4 ≤ 24 ∧ -8 ≤ z4) (h3 : (0 : Int32) ≤ z5 ∧ z5 ≤ (900 : Int32)) (h4 : z0 ≤ 896 → (z4 = 24 ∧ z5 = z0) ∨ (z4 = 16 ∧ z5 = z0 + 1) ∨ (z4 = 8 ∧ z5 = z0 + 2) ∨ (z4 = 0 ∧ z5 = z0 + 3) ∨ (z4 = -8 ∧ z5 = z0 + 4)) (h5 : ¬ z4 < 0) (h6 : (0 : Int32) ≤ z6 ∧ z6 ≤ (900 : Int32)) (h7 : z6 = z5) (h8 : ¬ z6 < 0) (h9 : (0 : Int32) ≤ z2 ∧ z2 ≤ (900 : Int32)) (h10 : z2 = z6) (h11 : (900 : Int32) ≤ z2) (h12 : z1 = z4 + (-8 : Int32)) : z0 ≤ 896 → (z1 = 24 ∧ z2 = z0) ∨ (z1 = 16 ∧ z2 = z0 + 1) ∨ (z1 = 8 ∧ z2 = z0 + 2) ∨ (z1 = 0 ∧ z2 = z0 + 3) ∨ (z1 = -8 ∧ z2 = z0 + 4) := by lia
set_option maxHeartbeats 1000000 in
theorem qy20 {z0 : Int32} {z1 : Int32} {z2 : Int32} {z3 : Int32} {z4 : Int32} {z5 : Int32} {z6 : Int32} (h0 : (0 : Int32) ≤ z2 ∧ z2 ≤ (900 : Int32)) (h1 : z3 = z2) (h2 : z1 ≤ 24 ∧ -8 ≤ z1) (h3 : (0 : Int32) ≤ z4 ∧ z4 ≤ (900 : Int32)) (h4 : z3 ≤ 896 → (z1 = 24 ∧ z4 = z3) ∨ (z1 = 16 ∧ z4 = z3 + 1) ∨ (z1 = 8 ∧ z4 = z3 + 2) ∨ (z1 = 0 ∧ z4 = z3 + 3) ∨ (z1 = -8 ∧ z4 = z3 + 4)) (h5 : ¬ z1 < 0) (h6 : (0 : Int32) ≤ z5 ∧ z5 ≤ (900 : Int32)) (h7 : z5 = z4) (h8 : ¬ z5 < 0) (h9 : (0 : Int32) ≤ z6 ∧ z6 ≤ (900 : Int32)) (h10 : z6 = z5) (h11 : (900 : Int32) ≤ z6) (h12 : z0 = z1 + (-8 : Int32)) : z0 < z1 := by lia
set_option maxHeartbeats 1000000 in
theorem qy21 {z0 : Int32} {z1 : Int32} {z2 : Int32} {z3 : Int32} {z4 : Int32} {z5 : Int32} {z6 : Int32} (h0 : (0 : Int32) ≤ z1 ∧ z1 ≤ (900 : Int32)) (h1 : z2 = z1) (h2 : z0 ≤ 24 ∧ -8 ≤ z0) (h3 : (0 : Int32) ≤ z3 ∧ z3 ≤ (900 : Int32)) (h4 : z2 ≤ 896 → (z0 = 24 ∧ z3 = z2) ∨ (z0 = 16 ∧ z3 = z2 + 1) ∨ (z0 = 8 ∧ z3 = z2 + 2) ∨ (z0 = 0 ∧ z3 = z2 + 3) ∨ (z0 = -8 ∧ z3 = z2 + 4)) (h5 : ¬ z0 < 0) (h6 : (0 : Int32) ≤ z4 ∧ z4 ≤ (900 : Int32)) (h7 : z4 = z3) (h8 : ¬ z4 < 0) (h9 : (0 : Int32) ≤ z5 ∧ z5 ≤ (900 : Int32)) (h10 : z5 = z4) (h11 : (900 : Int32) ≤ z5) (h12 : z6 = z0 + (-8 : Int32)) : (-9 : Int32) < z0 := by lia
set_option maxHeartbeats 1000000 in
theorem qy22 {z0 : Int32} {z1 : Int32} {z2 : Int32} {z3 : Int32} {z4 : Int32} {z5 : Int32} {z6 : Int32} {z7 : Int32} {z8 : Int32} (h0 : (0 : Int32) ≤ z1 ∧ z1 ≤ (900 : Int32)) (h1 : z2 = z1) (h2 : z3 ≤ 24 ∧ -8 ≤ z3) (h3 : (0 : Int32) ≤ z4 ∧ z4 ≤ (900 : Int32)) (h4 : z2 ≤ 896 → (z3 = 24 ∧ z4 = z2) ∨ (z3 = 16 ∧ z4 = z2 + 1) ∨ (z3 = 8 ∧ z4 = z2 + 2) ∨ (z3 = 0 ∧ z4 = z2 + 3) ∨ (z3 = -8 ∧ z4 = z2 + 4)) (h5 : ¬ z3 < 0) (h6 : (0 : Int32) ≤ z5 ∧ z5 ≤ (900 : Int32)) (h7 : z5 = z4) (h8 : ¬ z5 < 0) (h9 : (0 : Int32) ≤ z6 ∧ z6 ≤ (900 : Int32)) (h10 : z6 = z5) (h11 : ¬ (900 : Int32) ≤ z6) (h12 : (0 : Int32) ≤ z0 ∧ z0 ≤ (900 : Int32)) (h13 : z0 = z6) (h14 : z7 = ((z8.toUInt32 >>> (z3.toUInt32 &&& Int32.toUInt32 31)).toInt32).toInt8.toInt32) : 0 ≤ z0 ∧ z0 < (900 : Int32) := by lia
set_option maxHeartbeats 1000000 in
theorem qy23 {z0 : Int32} {z1 : Int32} {z2 : Int32} {z3 : Int32} {z4 : Int32} {z5 : Int32} {z6 : Int32} {z7 : Int32} {z8 : Int32} {z9 : Int32} {z10 : Int32} (h0 : (0 : Int32) ≤ z1 ∧ z1 ≤ (900 : Int32)) (h1 : z2 = z1) (h2 : z3 ≤ 24 ∧ -8 ≤ z3) (h3 : (0 : Int32) ≤ z4 ∧ z4 ≤ (900 : Int32)) (h4 : z2 ≤ 896 → (z3 = 24 ∧ z4 = z2) ∨ (z3 = 16 ∧ z4 = z2 + 1) ∨ (z3 = 8 ∧ z4 = z2 + 2) ∨ (z3 = 0 ∧ z4 = z2 + 3) ∨ (z3 = -8 ∧ z4 = z2 + 4)) (h5 : ¬ z3 < 0) (h6 : (0 : Int32) ≤ z5 ∧ z5 ≤ (900 : Int32)) (h7 : z5 = z4) (h8 : ¬ z5 < 0) (h9 : (0 : Int32) ≤ z6 ∧ z6 ≤ (900 : Int32)) (h10 : z6 = z5) (h11 : ¬ (900 : Int32) ≤ z6) (h12 : (0 : Int32) ≤ z7 ∧ z7 ≤ (900 : Int32)) (h13 : z7 = z6) (h14 : z8 = ((z9.toUInt32 >>> (z3.toUInt32 &&& Int32.toUInt32 31)).toInt32).toInt8.toInt32) (h15 : (0 : Int32) ≤ z10 ∧ z10 ≤ (900 : Int32)) (h16 : z10 = z7) (h17 : z0 = z10 + (1 : Int32)) : (0 : Int32) ≤ z0 ∧ z0 ≤ (900 : Int32) := by lia
set_option maxHeartbeats 1000000 in
theorem qy24 {z0 : Int32} {z1 : Int32} {z2 : Int32} {z3 : Int32} {z4 : Int32} {z5 : Int32} {z6 : Int32} {z7 : Int32} {z8 : Int32} {z9 : Int32} {z10 : Int32} {z11 : Int32} (h0 : (0 : Int32) ≤ z1 ∧ z1 ≤ (900 : Int32)) (h1 : z2 = z1) (h2 : z3 ≤ 24 ∧ -8 ≤ z3) (h3 : (0 : Int32) ≤ z4 ∧ z4 ≤ (900 : Int32)) (h4 : z2 ≤ 896 → (z3 = 24 ∧ z4 = z2) ∨ (z3 = 16 ∧ z4 = z2 + 1) ∨ (z3 = 8 ∧ z4 = z2 + 2) ∨ (z3 = 0 ∧ z4 = z2 + 3) ∨ (z3 = -8 ∧ z4 = z2 + 4)) (h5 : ¬ z3 < 0) (h6 : (0 : Int32) ≤ z5 ∧ z5 ≤ (900 : Int32)) (h7 : z5 = z4) (h8 : ¬ z5 < 0) (h9 : (0 : Int32) ≤ z6 ∧ z6 ≤ (900 : Int32)) (h10 : z6 = z5) (h11 : ¬ (900 : Int32) ≤ z6) (h12 : (0 : Int32) ≤ z7 ∧ z7 ≤ (900 : Int32)) (h13 : z7 = z6) (h14 : z8 = ((z9.toUInt32 >>> (z3.toUInt32 &&& Int32.toUInt32 31)).toInt32).toInt8.toInt32) (h15 : (0 : Int32) ≤ z10 ∧ z10 ≤ (900 : Int32)) (h16 : z10 = z7) (h17 : z11 = z10 + (1 : Int32)) (h18 : z0 = z3 + (-8 : Int32)) : z0 ≤ 24 ∧ -8 ≤ z0 := by lia
set_option maxHeartbeats 1000000 in
theorem qy25 {z0 : Int32} {z1 : Int32} {z2 : Int32} {z3 : Int32} {z4 : Int32} {z5 : Int32} {z6 : Int32} {z7 : Int32} {z8 : Int32} {z9 : Int32} {z10 : Int32} {z11 : Int32} (h0 : (0 : Int32) ≤ z3 ∧ z3 ≤ (900 : Int32)) (h1 : z0 = z3) (h2 : z4 ≤ 24 ∧ -8 ≤ z4) (h3 : (0 : Int32) ≤ z5 ∧ z5 ≤ (900 : Int32)) (h4 : z0 ≤ 896 → (z4 = 24 ∧ z5 = z0) ∨ (z4 = 16 ∧ z5 = z0 + 1) ∨ (z4 = 8 ∧ z5 = z0 + 2) ∨ (z4 = 0 ∧ z5 = z0 + 3) ∨ (z4 = -8 ∧ z5 = z0 + 4)) (h5 : ¬ z4 < 0) (h6 : (0 : Int32) ≤ z6 ∧ z6 ≤ (900 : Int32)) (h7 : z6 = z5) (h8 : ¬ z6 < 0) (h9 : (0 : Int32) ≤ z7 ∧ z7 ≤ (900 : Int32)) (h10 : z7 = z6) (h11 : ¬ (900 : Int32) ≤ z7) (h12 : (0 : Int32) ≤ z8 ∧ z8 ≤ (900 : Int32)) (h13 : z8 = z7) (h14 : z9 = ((z10.toUInt32 >>> (z4.toUInt32 &&& Int32.toUInt32 31)).toInt32).toInt8.toInt32) (h15 : (0 : Int32) ≤ z11 ∧ z11 ≤ (900 : Int32)) (h16 : z11 = z8) (h17 : z2 = z11 + (1 : Int32)) (h18 : z1 = z4 + (-8 : Int32)) : z0 ≤ 896 → (z1 = 24 ∧ z2 = z0) ∨ (z1 = 16 ∧ z2 = z0 + 1) ∨ (z1 = 8 ∧ z2 = z0 + 2) ∨ (z1 = 0 ∧ z2 = z0 + 3) ∨ (z1 = -8 ∧ z2 = z0 + 4) := by exact fun hle => put_q (h4 hle) h5 (by rw [h17, h16, h13, h10, h7]) h18
set_option maxHeartbeats 1000000 in
theorem qy26 {z0 : Int32} {z1 : Int32} {z2 : Int32} {z3 : Int32} {z4 : Int32} {z5 : Int32} {z6 : Int32} {z7 : Int32} {z8 : Int32} {z9 : Int32} {z10 : Int32} {z11 : Int32} (h0 : (0 : Int32) ≤ z2 ∧ z2 ≤ (900 : Int32)) (h1 : z3 = z2) (h2 : z1 ≤ 24 ∧ -8 ≤ z1) (h3 : (0 : Int32) ≤ z4 ∧ z4 ≤ (900 : Int32)) (h4 : z3 ≤ 896 → (z1 = 24 ∧ z4 = z3) ∨ (z1 = 16 ∧ z4 = z3 + 1) ∨ (z1 = 8 ∧ z4 = z3 + 2) ∨ (z1 = 0 ∧ z4 = z3 + 3) ∨ (z1 = -8 ∧ z4 = z3 + 4)) (h5 : ¬ z1 < 0) (h6 : (0 : Int32) ≤ z5 ∧ z5 ≤ (900 : Int32)) (h7 : z5 = z4) (h8 : ¬ z5 < 0) (h9 : (0 : Int32) ≤ z6 ∧ z6 ≤ (900 : Int32)) (h10 : z6 = z5) (h11 : ¬ (900 : Int32) ≤ z6) (h12 : (0 : Int32) ≤ z7 ∧ z7 ≤ (900 : Int32)) (h13 : z7 = z6) (h14 : z8 = ((z9.toUInt32 >>> (z1.toUInt32 &&& Int32.toUInt32 31)).toInt32).toInt8.toInt32) (h15 : (0 : Int32) ≤ z10 ∧ z10 ≤ (900 : Int32)) (h16 : z10 = z7) (h17 : z11 = z10 + (1 : Int32)) (h18 : z0 = z1 + (-8 : Int32)) : z0 < z1 := by lia
set_option maxHeartbeats 1000000 in
theorem qy27 {z0 : Int32} {z1 : Int32} {z2 : Int32} {z3 : Int32} {z4 : Int32} {z5 : Int32} {z6 : Int32} {z7 : Int32} {z8 : Int32} {z9 : Int32} {z10 : Int32} {z11 : Int32} (h0 : (0 : Int32) ≤ z1 ∧ z1 ≤ (900 : Int32)) (h1 : z2 = z1) (h2 : z0 ≤ 24 ∧ -8 ≤ z0) (h3 : (0 : Int32) ≤ z3 ∧ z3 ≤ (900 : Int32)) (h4 : z2 ≤ 896 → (z0 = 24 ∧ z3 = z2) ∨ (z0 = 16 ∧ z3 = z2 + 1) ∨ (z0 = 8 ∧ z3 = z2 + 2) ∨ (z0 = 0 ∧ z3 = z2 + 3) ∨ (z0 = -8 ∧ z3 = z2 + 4)) (h5 : ¬ z0 < 0) (h6 : (0 : Int32) ≤ z4 ∧ z4 ≤ (900 : Int32)) (h7 : z4 = z3) (h8 : ¬ z4 < 0) (h9 : (0 : Int32) ≤ z5 ∧ z5 ≤ (900 : Int32)) (h10 : z5 = z4) (h11 : ¬ (900 : Int32) ≤ z5) (h12 : (0 : Int32) ≤ z6 ∧ z6 ≤ (900 : Int32)) (h13 : z6 = z5) (h14 : z7 = ((z8.toUInt32 >>> (z0.toUInt32 &&& Int32.toUInt32 31)).toInt32).toInt8.toInt32) (h15 : (0 : Int32) ≤ z9 ∧ z9 ≤ (900 : Int32)) (h16 : z9 = z6) (h17 : z10 = z9 + (1 : Int32)) (h18 : z11 = z0 + (-8 : Int32)) : (-9 : Int32) < z0 := by lia
end
section
set_option maxHeartbeats 4000000 in
set_option maxRecDepth 20000 in
theorem m2_X9_putBytes {v0 : Nat} {v1 : Int32} {Q : HS → Prop} {S : HS} (hI : IV S) (o_v0 : ob S v0 9)     (hq : ∀ (T : HS), IV T → Gr S T → FRI [(9, 1)] [] S T → (fI S v0 1 ≤ 896 → fI T v0 1 = fI S v0 1 + 4) → Q T) : P_X9_putBytes v0 v1 Q S := by
  have g0 := gr_rf S
  have f0 := fri_rf [(9, 1)] [] S
  obtain ⟨kv1, d_kv1⟩ : ∃ z : Int32, z = fI S v0 1 := ⟨_, rfl⟩
  have r_kv1 : (0 : Int32) ≤ kv1 ∧ kv1 ≤ (900 : Int32) := by rw [d_kv1]; exact nu 0 rfl hI o_v0
  obtain ⟨iv2, hiv2⟩ : ∃ z : Int32, z = kv1 := ⟨_, rfl⟩
  have di_1 := hiv2.trans d_kv1
  refine u_X9_putBytes ?_
  refine u_X9_putBytes_0 ?_
  refine i_X9_putBytes_3 (fun (y0 : Nat) (y1 : Int32) (y2 : Int32) (Z : HS) => (y2.toInt - (-9 : Int32).toInt).toNat) (fun (y0 : Nat) (y1 : Int32) (y2 : Int32) (Z : HS) => (IV Z) ∧ (Gr S Z) ∧ (FRI [(9, 1)] [] S Z) ∧ (v0 = y0) ∧ (v1 = y1) ∧ (y2 ≤ 24 ∧ -8 ≤ y2) ∧ (iv2 ≤ 896 → (y2 = 24 ∧ fI Z v0 1 = iv2) ∨ (y2 = 16 ∧ fI Z v0 1 = iv2 + 1) ∨ (y2 = 8 ∧ fI Z v0 1 = iv2 + 2) ∨ (y2 = 0 ∧ fI Z v0 1 = iv2 + 3) ∨ (y2 = -8 ∧ fI Z v0 1 = iv2 + 4))) ?_ _ _ _ _ ⟨hI, (gr_rf _), (fri_rf _ _ _), rfl, rfl, (qy11), (by rw [← d_kv1]; exact (qy12 r_kv1 hiv2))⟩
  intro w7 w9 w11 S4 X12 ⟨hI, gL5, fL6, q8, q10, i1u3, k1u3⟩ ih13
  subst q8
  subst q10
  have f0 := fri_tr (S := S) g0 f0 fL6 (by decide) (by decide)
  have o_v0 := gr_ob gL5 o_v0
  have g0 := gr_tr (T := S) g0 gL5
  obtain ⟨kv14, d_kv14⟩ : ∃ z : Int32, z = fI S4 v0 1 := ⟨_, rfl⟩
  have r_kv14 : (0 : Int32) ≤ kv14 ∧ kv14 ≤ (900 : Int32) := by rw [d_kv14]; exact nu 0 rfl hI o_v0
  have p_k1u3 : iv2 ≤ 896 → (w11 = 24 ∧ kv14 = iv2) ∨ (w11 = 16 ∧ kv14 = iv2 + 1) ∨ (w11 = 8 ∧ kv14 = iv2 + 2) ∨ (w11 = 0 ∧ kv14 = iv2 + 3) ∨ (w11 = -8 ∧ kv14 = iv2 + 4) := by rw [d_kv14]; exact k1u3
  refine u_X9_putBytes_3 ?_
  refine ⟨fun c15 => ?_, fun c15 => ?_⟩
  · exact hq _ hI g0 f0 (by have t : iv2 ≤ 896 → kv14 = iv2 + 4 := (qy13 r_kv1 hiv2 i1u3 r_kv14 p_k1u3 c15); rw [di_1, d_kv14] at t; exact t)
  · refine ⟨o_v0, ?_⟩
    intro x16 ex16
    have r_x16 : (0 : Int32) ≤ x16 ∧ x16 ≤ (900 : Int32) := by rw [ex16]; exact nu 0 rfl hI o_v0
    have q_x16 : x16 = kv14 := ex16.trans d_kv14.symm
    have d_x16 := ex16
    refine ⟨fun c17 => ?_, fun c17 => ?_⟩
    · refine u_X9_putBytes_49 ?_
      intro x18 ex18
      exact ih13 _ _ _ _ ⟨hI, gL5, fL6, rfl, rfl, (qy14 r_kv1 hiv2 i1u3 r_kv14 p_k1u3 c15 r_x16 q_x16 c17 ex18), (by rw [← d_x16]; exact (qy15 r_kv1 hiv2 i1u3 r_kv14 p_k1u3 c15 r_x16 q_x16 c17 ex18))⟩ (mu_down (qy16 r_kv1 hiv2 i1u3 r_kv14 p_k1u3 c15 r_x16 q_x16 c17 ex18) (qy17 r_kv1 hiv2 i1u3 r_kv14 p_k1u3 c15 r_x16 q_x16 c17 ex18))
    · intro x19 ex19
      have r_x19 : (0 : Int32) ≤ x19 ∧ x19 ≤ (900 : Int32) := by rw [ex19]; exact nu 0 rfl hI o_v0
      have q_x19 : x19 = x16 := ex19.trans d_x16.symm
      have d_x19 := ex19
      obtain ⟨a20, ea20, o_a20, l_a20⟩ := shl 0 rfl hI o_v0
      refine ⟨a20, ea20, ?_⟩
      refine ⟨o_a20, ?_⟩
      have n_a20 : nI (hN S4 a20) = 900 := by rw [show hN S4 a20 = 900 from l_a20]; decide
      refine ⟨fun c21 => ?_, fun c21 => ?_⟩
      · rw [n_a20] at c21
        refine u_X9_putBytes_49 ?_
        intro x22 ex22
        exact ih13 _ _ _ _ ⟨hI, gL5, fL6, rfl, rfl, (qy18 r_kv1 hiv2 i1u3 r_kv14 p_k1u3 c15 r_x16 q_x16 c17 r_x19 q_x19 c21 ex22), (by rw [← d_x19]; exact (qy19 r_kv1 hiv2 i1u3 r_kv14 p_k1u3 c15 r_x16 q_x16 c17 r_x19 q_x19 c21 ex22))⟩ (mu_down (qy20 r_kv1 hiv2 i1u3 r_kv14 p_k1u3 c15 r_x16 q_x16 c17 r_x19 q_x19 c21 ex22) (qy21 r_kv1 hiv2 i1u3 r_kv14 p_k1u3 c15 r_x16 q_x16 c17 r_x19 q_x19 c21 ex22))
      · rw [n_a20] at c21
        refine ⟨a20, ea20, ?_⟩
        intro x24 ex24
        have r_x24 : (0 : Int32) ≤ x24 ∧ x24 ≤ (900 : Int32) := by rw [ex24]; exact nu 0 rfl hI o_v0
        have q_x24 : x24 = x19 := ex24.trans d_x19.symm
        have d_x24 := ex24
        refine ⟨o_a20, ?_⟩
        intro x25 ex25
        have i26 : vp_in x24 (hN _ a20) := (vin l_a20 (m := 900) (by decide) (qy22 r_kv1 hiv2 i1u3 r_kv14 p_k1u3 c15 r_x16 q_x16 c17 r_x19 q_x19 c21 r_x24 q_x24 ex25))
        refine ⟨i26, ?_⟩
        intro S27 eS27
        have hIn : IV S27 := by rw [eS27]; exact iv_aI hI o_v0 (by decide) ea20 o_a20 (by decide)
        have hI := hIn
        have f0 := fr_A eS27 g0 f0 o_a20 (by decide)
        have fL6 := fr_A eS27 gL5 fL6 o_a20 (by decide)
        have d_x24 := rd_Ik eS27 o_a20 o_v0 (by decide) d_x24
        have ea20 := rf_I eS27 ea20
        have l_a20 := ln_I eS27 l_a20
        have g0 := gr_I eS27 g0
        have gL5 := gr_I eS27 gL5
        have o_a20 := ob_I eS27 o_a20
        have o_v0 := ob_I eS27 o_v0
        intro x28 ex28
        have r_x28 : (0 : Int32) ≤ x28 ∧ x28 ≤ (900 : Int32) := by rw [ex28]; exact nu 0 rfl hI o_v0
        have q_x28 : x28 = x24 := ex28.trans d_x24.symm
        have d_x28 := ex28
        intro x29 ex29
        intro S30 eS30
        have hIn : IV S30 := by rw [eS30]; exact iv_sI hI o_v0 (by decide) (nu_one (lo := (0 : Int32)) (hi := (900 : Int32)) (by decide) (qy23 r_kv1 hiv2 i1u3 r_kv14 p_k1u3 c15 r_x16 q_x16 c17 r_x19 q_x19 c21 r_x24 q_x24 ex25 r_x28 q_x28 ex29))
        have hI := hIn
        have f0 := fr_I eS30 g0 f0 o_v0 (by decide)
        have fL6 := fr_I eS30 gL5 fL6 o_v0 (by decide)
        have d_x29 := rd_Is eS30 (rfl : x29 = x29)
        have ea20 := rf_I eS30 ea20
        have l_a20 := ln_I eS30 l_a20
        have g0 := gr_I eS30 g0
        have gL5 := gr_I eS30 gL5
        have o_a20 := ob_I eS30 o_a20
        have o_v0 := ob_I eS30 o_v0
        refine u_X9_putBytes_49 ?_
        intro x31 ex31
        exact ih13 _ _ _ _ ⟨hI, gL5, fL6, rfl, rfl, (qy24 r_kv1 hiv2 i1u3 r_kv14 p_k1u3 c15 r_x16 q_x16 c17 r_x19 q_x19 c21 r_x24 q_x24 ex25 r_x28 q_x28 ex29 ex31), (by rw [← d_x29]; exact (qy25 r_kv1 hiv2 i1u3 r_kv14 p_k1u3 c15 r_x16 q_x16 c17 r_x19 q_x19 c21 r_x24 q_x24 ex25 r_x28 q_x28 ex29 ex31))⟩ (mu_down (qy26 r_kv1 hiv2 i1u3 r_kv14 p_k1u3 c15 r_x16 q_x16 c17 r_x19 q_x19 c21 r_x24 q_x24 ex25 r_x28 q_x28 ex29 ex31) (qy27 r_kv1 hiv2 i1u3 r_kv14 p_k1u3 c15 r_x16 q_x16 c17 r_x19 q_x19 c21 r_x24 q_x24 ex25 r_x28 q_x28 ex29 ex31))
set_option maxHeartbeats 4000000 in
set_option maxRecDepth 20000 in
theorem m2_X9_feed {v0 : Nat} {v1 : Int32} {v2 : Int32} {v3 : Int32} {v4 : Int32} {v5 : Int32} {Q : Int32 → HS → Prop} {S : HS} (hI : IV S) (o_v0 : ob S v0 9)     (hq : ∀ (r : Int32) (T : HS), IV T → Gr S T → FRI [(9, 1)] [] S T → ((900 < fI S v0 1 + 20 → r = -1 ∧ fI T v0 1 = fI S v0 1) ∧ (fI S v0 1 + 20 ≤ 900 → r = fI T v0 1 ∧ fI T v0 1 = fI S v0 1 + 20)) → Q r T) : P_X9_feed v0 v1 v2 v3 v4 v5 Q S := by
  have g0 := gr_rf S
  have f0 := fri_rf [(9, 1)] [] S
  obtain ⟨kv1, d_kv1⟩ : ∃ z : Int32, z = fI S v0 1 := ⟨_, rfl⟩
  have r_kv1 : (0 : Int32) ≤ kv1 ∧ kv1 ≤ (900 : Int32) := by rw [d_kv1]; exact nu 0 rfl hI o_v0
  obtain ⟨iv2, hiv2⟩ : ∃ z : Int32, z = kv1 := ⟨_, rfl⟩
  have di_1 := hiv2.trans d_kv1
  refine u_X9_feed ?_
  refine u_X9_feed_0 ?_
  refine ⟨o_v0, ?_⟩
  intro x3 ex3
  have r_x3 : (0 : Int32) ≤ x3 ∧ x3 ≤ (900 : Int32) := by rw [ex3]; exact nu 0 rfl hI o_v0
  have q_x3 : x3 = kv1 := ex3.trans d_kv1.symm
  have d_x3 := ex3
  refine ⟨fun c4 => ?_, fun c4 => ?_⟩
  · have do4_x3 := d_x3
    refine m2_X9_putBytes hI o_v0 (fun S6 hJ g7 fc8 p_S6 => ?_)
    have pg0_S6 := p_S6
    have hI := hJ
    have f0 := fri_tr (S := S) g0 f0 fc8 (by decide) (by decide)
    have o_v0 := gr_ob g7 o_v0
    have g0 := gr_tr (T := S) g0 g7
    obtain ⟨kv9, d_kv9⟩ : ∃ z : Int32, z = fI S6 v0 1 := ⟨_, rfl⟩
    have r_kv9 : (0 : Int32) ≤ kv9 ∧ kv9 ≤ (900 : Int32) := by rw [d_kv9]; exact nu 0 rfl hI o_v0
    have ph0_S6 : x3 ≤ 896 → kv9 = x3 + 4 := by rw [do4_x3, d_kv9]; exact pg0_S6
    intro _
    have do9_kv9 := d_kv9
    refine m2_X9_putBytes hI o_v0 (fun S11 hJ g12 fc13 p_S11 => ?_)
    have pg0_S11 := p_S11
    have hI := hJ
    have f0 := fri_tr (S := S6) g0 f0 fc13 (by decide) (by decide)
    have o_v0 := gr_ob g12 o_v0
    have g0 := gr_tr (T := S6) g0 g12
    obtain ⟨kv14, d_kv14⟩ : ∃ z : Int32, z = fI S11 v0 1 := ⟨_, rfl⟩
    have r_kv14 : (0 : Int32) ≤ kv14 ∧ kv14 ≤ (900 : Int32) := by rw [d_kv14]; exact nu 0 rfl hI o_v0
    have ph0_S11 : kv9 ≤ 896 → kv14 = kv9 + 4 := by rw [do9_kv9, d_kv14]; exact pg0_S11
    intro _
    have do14_kv14 := d_kv14
    refine m2_X9_putBytes hI o_v0 (fun S16 hJ g17 fc18 p_S16 => ?_)
    have pg0_S16 := p_S16
    have hI := hJ
    have f0 := fri_tr (S := S11) g0 f0 fc18 (by decide) (by decide)
    have o_v0 := gr_ob g17 o_v0
    have g0 := gr_tr (T := S11) g0 g17
    obtain ⟨kv19, d_kv19⟩ : ∃ z : Int32, z = fI S16 v0 1 := ⟨_, rfl⟩
    have r_kv19 : (0 : Int32) ≤ kv19 ∧ kv19 ≤ (900 : Int32) := by rw [d_kv19]; exact nu 0 rfl hI o_v0
    have ph0_S16 : kv14 ≤ 896 → kv19 = kv14 + 4 := by rw [do14_kv14, d_kv19]; exact pg0_S16
    intro _
    have do19_kv19 := d_kv19
    refine m2_X9_putBytes hI o_v0 (fun S21 hJ g22 fc23 p_S21 => ?_)
    have pg0_S21 := p_S21
    have hI := hJ
    have f0 := fri_tr (S := S16) g0 f0 fc23 (by decide) (by decide)
    have o_v0 := gr_ob g22 o_v0
    have g0 := gr_tr (T := S16) g0 g22
    obtain ⟨kv24, d_kv24⟩ : ∃ z : Int32, z = fI S21 v0 1 := ⟨_, rfl⟩
    have r_kv24 : (0 : Int32) ≤ kv24 ∧ kv24 ≤ (900 : Int32) := by rw [d_kv24]; exact nu 0 rfl hI o_v0
    have ph0_S21 : kv19 ≤ 896 → kv24 = kv19 + 4 := by rw [do19_kv19, d_kv24]; exact pg0_S21
    intro _
    have do24_kv24 := d_kv24
    refine m2_X9_putBytes hI o_v0 (fun S26 hJ g27 fc28 p_S26 => ?_)
    have pg0_S26 := p_S26
    have hI := hJ
    have f0 := fri_tr (S := S21) g0 f0 fc28 (by decide) (by decide)
    have o_v0 := gr_ob g27 o_v0
    have g0 := gr_tr (T := S21) g0 g27
    obtain ⟨kv29, d_kv29⟩ : ∃ z : Int32, z = fI S26 v0 1 := ⟨_, rfl⟩
    have r_kv29 : (0 : Int32) ≤ kv29 ∧ kv29 ≤ (900 : Int32) := by rw [d_kv29]; exact nu 0 rfl hI o_v0
    have ph0_S26 : kv24 ≤ 896 → kv29 = kv24 + 4 := by rw [do24_kv24, d_kv29]; exact pg0_S26
    intro _
    intro x30 ex30
    have r_x30 : (0 : Int32) ≤ x30 ∧ x30 ≤ (900 : Int32) := by rw [ex30]; exact nu 0 rfl hI o_v0
    have q_x30 : x30 = kv29 := ex30.trans d_kv29.symm
    have d_x30 := ex30
    obtain ⟨ra31, hra31⟩ : ∃ z : Int32, z = x30 := ⟨_, rfl⟩
    exact hq _ _ hI g0 f0 (by have t : (900 < iv2 + 20 → ra31 = -1 ∧ x30 = iv2) ∧ (iv2 + 20 ≤ 900 → ra31 = x30 ∧ x30 = iv2 + 20) := (qy9 r_kv1 hiv2 r_x3 q_x3 c4 r_kv9 ph0_S6 r_kv14 ph0_S11 r_kv19 ph0_S16 r_kv24 ph0_S21 r_kv29 ph0_S26 r_x30 q_x30 hra31); rw [di_1, d_x30, hra31] at t; exact t)
  · exact hq _ _ hI g0 f0 (by have t : (900 < iv2 + 20 → (-1 : Int32) = -1 ∧ x3 = iv2) ∧ (iv2 + 20 ≤ 900 → (-1 : Int32) = x3 ∧ x3 = iv2 + 20) := (qy10 r_kv1 hiv2 r_x3 q_x3 c4); rw [di_1, d_x3] at t; exact t)
set_option maxHeartbeats 4000000 in
set_option maxRecDepth 20000 in
theorem m2_X9_world {v0 : Nat} {v1 : Int32} {Q : Int32 → HS → Prop} {S : HS} (hI : IV S) (o_v0 : ob S v0 9)     (hq : ∀ (r : Int32) (T : HS), IV T → Gr S T → FRI [(0, 0), (0, 2), (0, 3), (3, 0), (3, 1), (3, 2), (3, 3), (3, 4), (4, 0), (4, 1), (4, 3), (4, 4), (4, 6), (4, 7), (4, 9), (4, 10), (5, 0), (5, 1), (5, 2), (5, 3), (5, 4), (6, 0), (6, 1), (6, 2), (6, 3), (6, 4), (6, 5), (6, 6), (7, 10), (8, 0), (8, 1), (8, 2), (8, 3), (8, 4), (8, 5), (9, 1), (9, 7), (9, 8), (9, 9)] [(4, 2), (4, 5), (9, 2)] S T → ((v1 < 0 ∨ fI S v0 1 < v1 → fI T v0 1 = fI S v0 1) ∧ (0 ≤ v1 ∧ v1 ≤ fI S v0 1 → fI T v0 1 = 0)) → Q r T) : P_X9_world v0 v1 Q S := by
  have g0 := gr_rf S
  have f0 := fri_rf [(0, 0), (0, 2), (0, 3), (3, 0), (3, 1), (3, 2), (3, 3), (3, 4), (4, 0), (4, 1), (4, 3), (4, 4), (4, 6), (4, 7), (4, 9), (4, 10), (5, 0), (5, 1), (5, 2), (5, 3), (5, 4), (6, 0), (6, 1), (6, 2), (6, 3), (6, 4), (6, 5), (6, 6), (7, 10), (8, 0), (8, 1), (8, 2), (8, 3), (8, 4), (8, 5), (9, 1), (9, 7), (9, 8), (9, 9)] [(4, 2), (4, 5), (9, 2)] S
  obtain ⟨kv1, d_kv1⟩ : ∃ z : Int32, z = fI S v0 1 := ⟨_, rfl⟩
  have r_kv1 : (0 : Int32) ≤ kv1 ∧ kv1 ≤ (900 : Int32) := by rw [d_kv1]; exact nu 0 rfl hI o_v0
  obtain ⟨iv2, hiv2⟩ : ∃ z : Int32, z = kv1 := ⟨_, rfl⟩
  have di_1 := hiv2.trans d_kv1
  refine u_X9_world ?_
  refine u_X9_world_0 ?_
  refine ⟨fun c3 => ?_, fun c3 => ?_⟩
  · refine u_X9_world_12 ?_
    refine ⟨o_v0, ?_⟩
    refine u_X9_refuse ?_
    refine u_X9_refuse_0 ?_
    refine ⟨o_v0, ?_⟩
    intro S4 eS4
    have hIn : IV S4 := by rw [eS4]; exact iv_sI hI o_v0 (by decide) (nu_free (by decide))
    have hI := hIn
    have f0 := fr_I eS4 g0 f0 o_v0 (by decide)
    have d_kv1 := rd_Ij eS4 (by decide) d_kv1
    obtain ⟨kv5, hkv5⟩ : ∃ z : Int32, z = (2 : Int32) := ⟨_, rfl⟩
    have d_kv5 := rd_Is eS4 hkv5
    have g0 := gr_I eS4 g0
    have o_v0 := ob_I eS4 o_v0
    intro _
    exact hq _ _ hI g0 f0 (by have t : (v1 < 0 ∨ iv2 < v1 → kv1 = iv2) ∧ (0 ≤ v1 ∧ v1 ≤ iv2 → kv1 = 0) := (qy0 r_kv1 hiv2 c3); rw [di_1, d_kv1] at t; exact t)
  · refine ⟨o_v0, ?_⟩
    intro x7 ex7
    have r_x7 : (0 : Int32) ≤ x7 ∧ x7 ≤ (900 : Int32) := by rw [ex7]; exact nu 0 rfl hI o_v0
    have q_x7 : x7 = kv1 := ex7.trans d_kv1.symm
    have d_x7 := ex7
    refine ⟨fun c8 => ?_, fun c8 => ?_⟩
    · obtain ⟨a9, ea9, o_a9, -⟩ := sh 2 rfl hI o_v0
      refine ⟨a9, ea9, ?_⟩
      obtain ⟨a10, ea10, o_a10, l_a10⟩ := shl 0 rfl hI o_v0
      refine ⟨a10, ea10, ?_⟩
      refine ⟨o_a9, ?_⟩
      refine m_X4_read hI o_a9 o_a10 l_a10 (qy1 r_kv1 hiv2 c3 r_x7 q_x7 c8) (fun x11 S12 hJ g13 fc14 b_x11 => ?_)
      have hI := hJ
      have l_a10 := (gr_len g13 o_a10).trans l_a10
      have d_x7 := d_x7.trans (fri_at fc14 (by decide) (by decide) o_v0).symm
      have ea9 := (frr_at fc14 (by decide) (by decide) o_v0).trans ea9
      have ea10 := (frr_at fc14 (by decide) (by decide) o_v0).trans ea10
      have f0 := fri_tr (S := S) g0 f0 fc14 (by decide) (by decide)
      have o_a10 := gr_ob g13 o_a10
      have o_a9 := gr_ob g13 o_a9
      have o_v0 := gr_ob g13 o_v0
      have g0 := gr_tr (T := S) g0 g13
      intro _ _
      have bb_x11 : x11 = 0 ∨ x11 = 1 := b_x11
      intro S15 eS15
      have hIn : IV S15 := by rw [eS15]; exact iv_sI hI o_v0 (by decide) (nu_one (lo := (0 : Int32)) (hi := (900 : Int32)) (by decide) (qy2 r_kv1 hiv2 c3 r_x7 q_x7 c8))
      have hI := hIn
      have f0 := fr_I eS15 g0 f0 o_v0 (by decide)
      obtain ⟨kv16, hkv16⟩ : ∃ z : Int32, z = (0 : Int32) := ⟨_, rfl⟩
      have d_kv16 := rd_Is eS15 hkv16
      have ea9 := rf_I eS15 ea9
      have ea10 := rf_I eS15 ea10
      have l_a10 := ln_I eS15 l_a10
      have g0 := gr_I eS15 g0
      have o_a10 := ob_I eS15 o_a10
      have o_a9 := ob_I eS15 o_a9
      have o_v0 := ob_I eS15 o_v0
      refine ⟨a9, ea9, ?_⟩
      refine ⟨o_a9, ?_⟩
      intro x18 ex18
      have d_x18 := ex18
      intro S19 eS19
      have hIn : IV S19 := by rw [eS19]; exact iv_sI hI o_v0 (by decide) (nu_free (by decide))
      have hI := hIn
      have f0 := fr_I eS19 g0 f0 o_v0 (by decide)
      have d_kv16 := rd_Ij eS19 (by decide) d_kv16
      have d_x18 := rd_Ik eS19 o_v0 o_a9 (by decide) d_x18
      obtain ⟨kv20, hkv20⟩ : ∃ z : Int32, z = x18 := ⟨_, rfl⟩
      have d_kv20 := rd_Is eS19 hkv20
      have ea9 := rf_I eS19 ea9
      have ea10 := rf_I eS19 ea10
      have l_a10 := ln_I eS19 l_a10
      have g0 := gr_I eS19 g0
      have o_a10 := ob_I eS19 o_a10
      have o_a9 := ob_I eS19 o_a9
      have o_v0 := ob_I eS19 o_v0
      refine ⟨a9, ea9, ?_⟩
      refine ⟨o_a9, ?_⟩
      intro x22 ex22
      have d_x22 := ex22
      intro S23 eS23
      have hIn : IV S23 := by rw [eS23]; exact iv_sI hI o_v0 (by decide) (nu_free (by decide))
      have hI := hIn
      have f0 := fr_I eS23 g0 f0 o_v0 (by decide)
      have d_kv16 := rd_Ij eS23 (by decide) d_kv16
      have d_x18 := rd_Ik eS23 o_v0 o_a9 (by decide) d_x18
      have d_kv20 := rd_Ij eS23 (by decide) d_kv20
      have d_x22 := rd_Ik eS23 o_v0 o_a9 (by decide) d_x22
      obtain ⟨kv24, hkv24⟩ : ∃ z : Int32, z = x22 := ⟨_, rfl⟩
      have d_kv24 := rd_Is eS23 hkv24
      have ea9 := rf_I eS23 ea9
      have ea10 := rf_I eS23 ea10
      have l_a10 := ln_I eS23 l_a10
      have g0 := gr_I eS23 g0
      have o_a10 := ob_I eS23 o_a10
      have o_a9 := ob_I eS23 o_a9
      have o_v0 := ob_I eS23 o_v0
      refine ⟨fun c25 => ?_, fun c25 => ?_⟩
      · refine ⟨a9, ea9, ?_⟩
        obtain ⟨a27, ea27, o_a27, -⟩ := sh 1 rfl hI o_v0
        refine ⟨a27, ea27, ?_⟩
        refine ⟨o_a9, ?_⟩
        refine u_X4_exchange ?_
        refine u_X4_exchange_0 ?_
        refine ⟨o_a9, ?_⟩
        obtain ⟨a28, ea28, o_a28, -⟩ := sh 12 rfl hI o_a9
        refine ⟨a28, ea28, ?_⟩
        intro S29 eS29
        have hIn : IV S29 := by rw [eS29]; exact iv_sR (j := 5) (v := a27) hI o_a9 (by decide) (by decide) (npr hI.1 o_a27 (by decide)) o_a27.1 (sh_one (by decide) ⟨o_a27, Or.inl rfl⟩)
        have hI := hIn
        have f0 := fr_R eS29 g0 f0 o_a9 (by decide)
        have d_kv16 := rd_R eS29 d_kv16
        have d_x18 := rd_R eS29 d_x18
        have d_kv20 := rd_R eS29 d_kv20
        have d_x22 := rd_R eS29 d_x22
        have d_kv24 := rd_R eS29 d_kv24
        have ea9 := rf_Rk eS29 o_a9 o_v0 (by decide) ea9
        have ea10 := rf_Rk eS29 o_a9 o_v0 (by decide) ea10
        have ea27 := rf_Rk eS29 o_a9 o_v0 (by decide) ea27
        have l_a10 := ln_R eS29 l_a10
        have g0 := gr_R eS29 g0
        have o_a10 := ob_R eS29 o_a10
        have o_a27 := ob_R eS29 o_a27
        have o_a28 := ob_R eS29 o_a28
        have o_a9 := ob_R eS29 o_a9
        have o_v0 := ob_R eS29 o_v0
        intro _
        intro S30 eS30
        have hIn : IV S30 := by rw [eS30]; exact iv_sR (j := 2) (v := a28) hI o_v0 (by decide) (by decide) (npr hI.1 o_a28 (by decide)) o_a28.1 (sh_one (by decide) ⟨o_a28, Or.inl rfl⟩)
        have hI := hIn
        have f0 := fr_R eS30 g0 f0 o_v0 (by decide)
        have d_kv16 := rd_R eS30 d_kv16
        have d_x18 := rd_R eS30 d_x18
        have d_kv20 := rd_R eS30 d_kv20
        have d_x22 := rd_R eS30 d_x22
        have d_kv24 := rd_R eS30 d_kv24
        have ea9 := rf_Rj eS30 (by decide) ea9
        have ea10 := rf_Rj eS30 (by decide) ea10
        have l_a10 := ln_R eS30 l_a10
        have g0 := gr_R eS30 g0
        have o_a10 := ob_R eS30 o_a10
        have o_a27 := ob_R eS30 o_a27
        have o_a28 := ob_R eS30 o_a28
        have o_a9 := ob_R eS30 o_a9
        have o_v0 := ob_R eS30 o_v0
        obtain ⟨a31, ea31, o_a31, -⟩ := sh 4 rfl hI o_v0
        refine ⟨a31, ea31, ?_⟩
        refine ⟨o_a31, ?_⟩
        refine u_X7_forget ?_
        refine u_X7_forget_0 ?_
        refine ⟨o_a31, ?_⟩
        intro S32 eS32
        have hIn : IV S32 := by rw [eS32]; exact iv_sI hI o_a31 (by decide) (nu_free (by decide))
        have hI := hIn
        have f0 := fr_I eS32 g0 f0 o_a31 (by decide)
        have d_kv16 := rd_Ik eS32 o_a31 o_v0 (by decide) d_kv16
        have d_x18 := rd_Ik eS32 o_a31 o_a9 (by decide) d_x18
        have d_kv20 := rd_Ik eS32 o_a31 o_v0 (by decide) d_kv20
        have d_x22 := rd_Ik eS32 o_a31 o_a9 (by decide) d_x22
        have d_kv24 := rd_Ik eS32 o_a31 o_v0 (by decide) d_kv24
        obtain ⟨kv33, hkv33⟩ : ∃ z : Int32, z = (-1 : Int32) := ⟨_, rfl⟩
        have d_kv33 := rd_Is eS32 hkv33
        have ea9 := rf_I eS32 ea9
        have ea10 := rf_I eS32 ea10
        have ea31 := rf_I eS32 ea31
        have l_a10 := ln_I eS32 l_a10
        have g0 := gr_I eS32 g0
        have o_a10 := ob_I eS32 o_a10
        have o_a27 := ob_I eS32 o_a27
        have o_a28 := ob_I eS32 o_a28
        have o_a31 := ob_I eS32 o_a31
        have o_a9 := ob_I eS32 o_a9
        have o_v0 := ob_I eS32 o_v0
        intro _
        obtain ⟨a34, ea34, o_a34, -⟩ := sh 5 rfl hI o_v0
        refine ⟨a34, ea34, ?_⟩
        refine ⟨o_a34, ?_⟩
        refine u_X0_end ?_
        refine u_X0_end_0 ?_
        refine ⟨o_a34, ?_⟩
        intro S35 eS35
        have hIn : IV S35 := by rw [eS35]; exact iv_sI hI o_a34 (by decide) (nu_one (lo := (-1 : Int32)) (hi := (3 : Int32)) (by decide) (qy3 r_kv1 hiv2 c3 r_x7 q_x7 c8 bb_x11 c25))
        have hI := hIn
        have f0 := fr_I eS35 g0 f0 o_a34 (by decide)
        have d_kv16 := rd_Ik eS35 o_a34 o_v0 (by decide) d_kv16
        have d_x18 := rd_Ik eS35 o_a34 o_a9 (by decide) d_x18
        have d_kv20 := rd_Ik eS35 o_a34 o_v0 (by decide) d_kv20
        have d_x22 := rd_Ik eS35 o_a34 o_a9 (by decide) d_x22
        have d_kv24 := rd_Ik eS35 o_a34 o_v0 (by decide) d_kv24
        have d_kv33 := rd_Ik eS35 o_a34 o_a31 (by decide) d_kv33
        obtain ⟨kv36, hkv36⟩ : ∃ z : Int32, z = (-1 : Int32) := ⟨_, rfl⟩
        have d_kv36 := rd_Is eS35 hkv36
        have ea9 := rf_I eS35 ea9
        have ea10 := rf_I eS35 ea10
        have ea31 := rf_I eS35 ea31
        have ea34 := rf_I eS35 ea34
        have l_a10 := ln_I eS35 l_a10
        have g0 := gr_I eS35 g0
        have o_a10 := ob_I eS35 o_a10
        have o_a27 := ob_I eS35 o_a27
        have o_a28 := ob_I eS35 o_a28
        have o_a31 := ob_I eS35 o_a31
        have o_a34 := ob_I eS35 o_a34
        have o_a9 := ob_I eS35 o_a9
        have o_v0 := ob_I eS35 o_v0
        intro S37 eS37
        have hIn : IV S37 := by rw [eS37]; exact iv_sI hI o_a34 (by decide) (nu_one (lo := (0 : Int32)) (hi := (16 : Int32)) (by decide) (qy4 r_kv1 hiv2 c3 r_x7 q_x7 c8 bb_x11 c25))
        have hI := hIn
        have f0 := fr_I eS37 g0 f0 o_a34 (by decide)
        have d_kv16 := rd_Ik eS37 o_a34 o_v0 (by decide) d_kv16
        have d_x18 := rd_Ik eS37 o_a34 o_a9 (by decide) d_x18
        have d_kv20 := rd_Ik eS37 o_a34 o_v0 (by decide) d_kv20
        have d_x22 := rd_Ik eS37 o_a34 o_a9 (by decide) d_x22
        have d_kv24 := rd_Ik eS37 o_a34 o_v0 (by decide) d_kv24
        have d_kv33 := rd_Ik eS37 o_a34 o_a31 (by decide) d_kv33
        have d_kv36 := rd_Ij eS37 (by decide) d_kv36
        obtain ⟨kv38, hkv38⟩ : ∃ z : Int32, z = (0 : Int32) := ⟨_, rfl⟩
        have d_kv38 := rd_Is eS37 hkv38
        have ea9 := rf_I eS37 ea9
        have ea10 := rf_I eS37 ea10
        have ea31 := rf_I eS37 ea31
        have ea34 := rf_I eS37 ea34
        have l_a10 := ln_I eS37 l_a10
        have g0 := gr_I eS37 g0
        have o_a10 := ob_I eS37 o_a10
        have o_a27 := ob_I eS37 o_a27
        have o_a28 := ob_I eS37 o_a28
        have o_a31 := ob_I eS37 o_a31
        have o_a34 := ob_I eS37 o_a34
        have o_a9 := ob_I eS37 o_a9
        have o_v0 := ob_I eS37 o_v0
        intro S39 eS39
        have hIn : IV S39 := by rw [eS39]; exact iv_sI hI o_a34 (by decide) (nu_one (lo := (0 : Int32)) (hi := (3 : Int32)) (by decide) (qy5 r_kv1 hiv2 c3 r_x7 q_x7 c8 bb_x11 c25))
        have hI := hIn
        have f0 := fr_I eS39 g0 f0 o_a34 (by decide)
        have d_kv16 := rd_Ik eS39 o_a34 o_v0 (by decide) d_kv16
        have d_x18 := rd_Ik eS39 o_a34 o_a9 (by decide) d_x18
        have d_kv20 := rd_Ik eS39 o_a34 o_v0 (by decide) d_kv20
        have d_x22 := rd_Ik eS39 o_a34 o_a9 (by decide) d_x22
        have d_kv24 := rd_Ik eS39 o_a34 o_v0 (by decide) d_kv24
        have d_kv33 := rd_Ik eS39 o_a34 o_a31 (by decide) d_kv33
        have d_kv36 := rd_Ij eS39 (by decide) d_kv36
        have d_kv38 := rd_Ij eS39 (by decide) d_kv38
        obtain ⟨kv40, hkv40⟩ : ∃ z : Int32, z = (0 : Int32) := ⟨_, rfl⟩
        have d_kv40 := rd_Is eS39 hkv40
        have ea9 := rf_I eS39 ea9
        have ea10 := rf_I eS39 ea10
        have ea31 := rf_I eS39 ea31
        have ea34 := rf_I eS39 ea34
        have l_a10 := ln_I eS39 l_a10
        have g0 := gr_I eS39 g0
        have o_a10 := ob_I eS39 o_a10
        have o_a27 := ob_I eS39 o_a27
        have o_a28 := ob_I eS39 o_a28
        have o_a31 := ob_I eS39 o_a31
        have o_a34 := ob_I eS39 o_a34
        have o_a9 := ob_I eS39 o_a9
        have o_v0 := ob_I eS39 o_v0
        intro _
        obtain ⟨a41, ea41, o_a41, -⟩ := sh 1 rfl hI o_v0
        refine ⟨a41, ea41, ?_⟩
        refine ⟨o_a41, ?_⟩
        intro x42 ex42
        have r_x42 : (0 : Int32) ≤ x42 ∧ x42 ≤ (4 : Int32) := by rw [ex42]; exact nu 14 rfl hI o_a41
        have d_x42 := ex42
        refine u_X9_grant ?_
        refine u_X9_grant_0 ?_
        refine ⟨o_v0, ?_⟩
        intro S43 eS43
        have hIn : IV S43 := by rw [eS43]; exact iv_sI hI o_v0 (by decide) (nu_free (by decide))
        have hI := hIn
        have f0 := fr_I eS43 g0 f0 o_v0 (by decide)
        have d_kv16 := rd_Ij eS43 (by decide) d_kv16
        have d_x18 := rd_Ik eS43 o_v0 o_a9 (by decide) d_x18
        have d_kv20 := rd_Ij eS43 (by decide) d_kv20
        have d_x22 := rd_Ik eS43 o_v0 o_a9 (by decide) d_x22
        have d_kv24 := rd_Ij eS43 (by decide) d_kv24
        have d_kv33 := rd_Ik eS43 o_v0 o_a31 (by decide) d_kv33
        have d_kv36 := rd_Ik eS43 o_v0 o_a34 (by decide) d_kv36
        have d_kv38 := rd_Ik eS43 o_v0 o_a34 (by decide) d_kv38
        have d_kv40 := rd_Ik eS43 o_v0 o_a34 (by decide) d_kv40
        have d_x42 := rd_Ik eS43 o_v0 o_a41 (by decide) d_x42
        obtain ⟨kv44, hkv44⟩ : ∃ z : Int32, z = (0 : Int32) := ⟨_, rfl⟩
        have d_kv44 := rd_Is eS43 hkv44
        have ea9 := rf_I eS43 ea9
        have ea10 := rf_I eS43 ea10
        have ea31 := rf_I eS43 ea31
        have ea34 := rf_I eS43 ea34
        have ea41 := rf_I eS43 ea41
        have l_a10 := ln_I eS43 l_a10
        have g0 := gr_I eS43 g0
        have o_a10 := ob_I eS43 o_a10
        have o_a27 := ob_I eS43 o_a27
        have o_a28 := ob_I eS43 o_a28
        have o_a31 := ob_I eS43 o_a31
        have o_a34 := ob_I eS43 o_a34
        have o_a41 := ob_I eS43 o_a41
        have o_a9 := ob_I eS43 o_a9
        have o_v0 := ob_I eS43 o_v0
        intro _
        exact hq _ _ hI g0 f0 (by have t : (v1 < 0 ∨ iv2 < v1 → kv16 = iv2) ∧ (0 ≤ v1 ∧ v1 ≤ iv2 → kv16 = 0) := (qy6 r_kv1 hiv2 c3 r_x7 q_x7 c8 bb_x11 hkv16 c25); rw [di_1, d_kv16] at t; exact t)
      · refine u_X9_refuse ?_
        refine u_X9_refuse_0 ?_
        refine ⟨o_v0, ?_⟩
        intro S46 eS46
        have hIn : IV S46 := by rw [eS46]; exact iv_sI hI o_v0 (by decide) (nu_free (by decide))
        have hI := hIn
        have f0 := fr_I eS46 g0 f0 o_v0 (by decide)
        have d_kv16 := rd_Ij eS46 (by decide) d_kv16
        have d_x18 := rd_Ik eS46 o_v0 o_a9 (by decide) d_x18
        have d_kv20 := rd_Ij eS46 (by decide) d_kv20
        have d_x22 := rd_Ik eS46 o_v0 o_a9 (by decide) d_x22
        have d_kv24 := rd_Ij eS46 (by decide) d_kv24
        obtain ⟨kv47, hkv47⟩ : ∃ z : Int32, z = (4 : Int32) := ⟨_, rfl⟩
        have d_kv47 := rd_Is eS46 hkv47
        have ea9 := rf_I eS46 ea9
        have ea10 := rf_I eS46 ea10
        have l_a10 := ln_I eS46 l_a10
        have g0 := gr_I eS46 g0
        have o_a10 := ob_I eS46 o_a10
        have o_a9 := ob_I eS46 o_a9
        have o_v0 := ob_I eS46 o_v0
        intro _
        exact hq _ _ hI g0 f0 (by have t : (v1 < 0 ∨ iv2 < v1 → kv16 = iv2) ∧ (0 ≤ v1 ∧ v1 ≤ iv2 → kv16 = 0) := (qy7 r_kv1 hiv2 c3 r_x7 q_x7 c8 bb_x11 hkv16 c25); rw [di_1, d_kv16] at t; exact t)
    · refine u_X9_world_12 ?_
      refine ⟨o_v0, ?_⟩
      refine u_X9_refuse ?_
      refine u_X9_refuse_0 ?_
      refine ⟨o_v0, ?_⟩
      intro S49 eS49
      have hIn : IV S49 := by rw [eS49]; exact iv_sI hI o_v0 (by decide) (nu_free (by decide))
      have hI := hIn
      have f0 := fr_I eS49 g0 f0 o_v0 (by decide)
      have d_x7 := rd_Ij eS49 (by decide) d_x7
      obtain ⟨kv50, hkv50⟩ : ∃ z : Int32, z = (2 : Int32) := ⟨_, rfl⟩
      have d_kv50 := rd_Is eS49 hkv50
      have g0 := gr_I eS49 g0
      have o_v0 := ob_I eS49 o_v0
      intro _
      exact hq _ _ hI g0 f0 (by have t : (v1 < 0 ∨ iv2 < v1 → x7 = iv2) ∧ (0 ≤ v1 ∧ v1 ≤ iv2 → x7 = 0) := (qy8 r_kv1 hiv2 c3 r_x7 q_x7 c8); rw [di_1, d_x7] at t; exact t)
end
section
/-! constructors of the class: those under construction are masked (kind 99) -/
def ms (E : List Nat) (S : HS) : HS := (hL S, fun a => if a ∈ E then 99 else hK S a, hN S, fI S, fJ S, fR S)
def NO (S : HS) : Prop := ∀ a, a ∈ hL S → hK S a ≠ 10 ∧ hK S a ≠ 11
def XP (S T : HS) (v : Nat) : Prop := ∀ a, a ∈ hL S → a ∈ hL T ∧ hK T a = hK S a ∧ hN T a = hN S a ∧ (a ≠ v → fI T a = fI S a ∧ fJ T a = fJ S a ∧ fR T a = fR S a)
section Con
variable {E M : List Nat} {S S0 T U : HS} {a b v k q n j i : Nat}
theorem ms_in (h : a ∈ E) : hK (ms E S) a = 99 := if_pos h
theorem ms_out (h : a ∉ E) : hK (ms E S) a = hK S a := if_neg h
theorem xp_rf : XP S S v := fun _ h => ⟨h, rfl, rfl, fun _ => ⟨rfl, rfl, rfl⟩⟩
theorem xp_tr (h : XP S T v) (g : XP T U v) : XP S U v := fun a ha => by
  obtain ⟨h1, h2, h3, h4⟩ := h a ha
  obtain ⟨g1, g2, g3, g4⟩ := g a h1
  refine ⟨g1, g2.trans h2, g3.trans h3, fun n => ?_⟩
  obtain ⟨x1, x2, x3⟩ := h4 n
  obtain ⟨y1, y2, y3⟩ := g4 n
  exact ⟨y1.trans x1, y2.trans x2, y3.trans x3⟩
/-- by an object that was not there before -/
theorem xp_by (ha : a ∉ hL S) (h : XP S T v) (g : XP T U a) : XP S U v := fun x hx => by
  obtain ⟨h1, h2, h3, h4⟩ := h x hx
  obtain ⟨g1, g2, g3, g4⟩ := g x h1
  have hn : x ≠ a := fun z => ha (z ▸ hx)
  refine ⟨g1, g2.trans h2, g3.trans h3, fun n => ?_⟩
  obtain ⟨x1, x2, x3⟩ := h4 n
  obtain ⟨y1, y2, y3⟩ := g4 hn
  exact ⟨y1.trans x1, y2.trans x2, y3.trans x3⟩
theorem xp_new (ha : a ∉ hL S) (E1 : T = nW S a k n) : XP S T v := by
  subst E1
  intro x hx
  have hn : x ≠ a := fun z => ha (z ▸ hx)
  exact ⟨List.mem_append_left _ hx, va_up_ne _ _ hn, va_up_ne _ _ hn, fun _ => ⟨va_up_ne _ _ hn, va_up_ne _ _ hn, va_up_ne _ _ hn⟩⟩
theorem xp_R {r : Option Nat} (E1 : T = sR S v j r) : XP S T v := by
  subst E1
  exact fun x hx => ⟨hx, rfl, rfl, fun n => ⟨rfl, rfl, u2_row _ _ n⟩⟩
theorem xp_I {r : Int32} (E1 : T = sI S v j r) : XP S T v := by
  subst E1
  exact fun x hx => ⟨hx, rfl, rfl, fun n => ⟨u2_row _ _ n, rfl, rfl⟩⟩
theorem xp_gr (h : XP S T v) : Gr S T := fun a ha => ⟨(h a ha).1, (h a ha).2.1, (h a ha).2.2.1⟩
theorem x_junk {E2 : List Nat} (hI : IV (ms E S)) (hx : XP S T v) (h1 : ∀ a, a ∈ hL S → a ≠ v → (a ∈ E ↔ a ∈ E2)) (h3 : ∀ a, a ∈ hL T → a ∈ hL S ∨ a = v) (h4 : v ∈ E2 ∨ (v ∉ E2 ∧ 12 ≤ hK T v ∧ hK T v < 16)) (h5 : v ∈ hL S → v ∈ E) : IV (ms E2 T) := by
  refine iv_ext (v := v) hI (fun a ha hn hk => ?_) (fun a ha => (hx a ha).1) (fun a ha => ?_) (Or.inl ⟨fun _ => ?_, fun h => ms_in (h5 h)⟩)
  · have hE : a ∉ E := fun z => hk (ms_in z)
    have hE2 : a ∉ E2 := fun z => hE ((h1 a ha hn).mpr z)
    obtain ⟨g1, g2, g3, g4⟩ := hx a ha
    obtain ⟨y1, y2, y3⟩ := g4 hn
    exact ⟨g1, by rw [ms_out hE2, ms_out hE]; exact g2, g3, y1, y2, y3⟩
  · rcases h3 a ha with g | g
    · by_cases c : a = v
      · exact Or.inr (Or.inl c)
      · by_cases c2 : hK (ms E S) a = 99
        · refine Or.inr (Or.inr (Or.inr ?_))
          by_cases c3 : a ∈ E2
          · exact ms_in c3
          · have : a ∉ E := fun z => c3 ((h1 a g c).mp z)
            rw [ms_out c3, (hx a g).2.1, ← ms_out (S := S) this]; exact c2
        · exact Or.inl ⟨g, c, c2⟩
    · exact Or.inr (Or.inl g)
  · rcases h4 with h | ⟨h, h'⟩
    · exact Or.inr (ms_in h)
    · exact Or.inl (by rw [ms_out h]; exact h')
/-- an object is made and masked -/
theorem x_obj (hI : IV (ms E S)) (ha : a ∉ hL S) (E1 : T = nW S a k n) : IV (ms (a :: E) T) := by
  refine x_junk (v := a) hI (xp_new ha E1) (fun x hx hn => ?_) (fun x hx => ?_) (Or.inl List.mem_cons_self) (fun z => absurd z ha)
  · exact ⟨fun z => List.mem_cons_of_mem _ z, fun z => (List.mem_cons.mp z).resolve_left hn⟩
  · rw [E1] at hx
    exact (List.mem_append.mp hx).imp id (fun z => List.mem_singleton.mp z)
theorem x_arr (hI : IV (ms E S)) (ha : a ∉ hL S) (hE : a ∉ E) (E1 : T = nW S a q n) (hq : 12 ≤ q ∧ q < 16) : IV (ms E T) := by
  refine x_junk (v := a) hI (xp_new ha E1) (fun x hx hn => Iff.rfl) (fun x hx => ?_) (Or.inr ⟨hE, ?_⟩) (fun z => absurd z ha)
  · rw [E1] at hx
    exact (List.mem_append.mp hx).imp id (fun z => List.mem_singleton.mp z)
  · rw [E1, nW_K]; exact hq
theorem x_R {r : Option Nat} (hI : IV (ms E S)) (hv : v ∈ E) (E1 : T = sR S v j r) : IV (ms E T) := x_junk (v := v) hI (xp_R E1) (fun x hx hn => Iff.rfl) (fun x hx => Or.inl (by rw [E1] at hx; exact hx)) (Or.inl hv) (fun _ => hv)
theorem x_I {r : Int32} (hI : IV (ms E S)) (hv : v ∈ E) (E1 : T = sI S v j r) : IV (ms E T) := x_junk (v := v) hI (xp_I E1) (fun x hx hn => Iff.rfl) (fun x hx => Or.inl (by rw [E1] at hx; exact hx)) (Or.inl hv) (fun _ => hv)
/-- an object is done -/
theorem x_fin (hI : IV (ms (v :: E) S)) (hno : NO S) (hv : v ∉ E) (hvl : v ∈ hL S) (hk : hK S v < 10) (hsh : ∀ e ∈ shT, e.1 = hK S v → ∃ b, fR S v e.2.1 = some b ∧ ob (ms E S) b e.2.2.1 ∧ (e.2.2.2 = 0 ∨ hN S b = e.2.2.2)) (hwy : hK S v = 7 → ∀ e ∈ wyT, ∀ b, fR S v e.1 = some b → hN S b = 0) (hnu : ∀ e ∈ nuT, e.1 = hK S v → e.2.2.1 ≤ fI S v e.2.1 ∧ fI S v e.2.1 ≤ e.2.2.2) (hcl : ∀ j b, fR S v j = some b → b ∈ hL S) : IV (ms E S) := by
  have hkv : hK (ms E S) v = hK S v := ms_out hv
  refine iv_ext (v := v) hI (fun a ha hn hk => ?_) (fun a ha => ha) (fun a ha => ?_) (Or.inr ⟨hvl, by rw [hkv]; omega, fun _ => Or.inl (ms_in List.mem_cons_self), ?_, fun z => Or.inl (hwy (hkv.symm.trans z)), ?_, fun j b hb => ⟨hcl j b hb, fun x q j' ox hp => ?_⟩, fun j b hp => ?_, fun z => ?_⟩)
  · have hE : a ∉ v :: E := fun z => hk (ms_in z)
    have hE2 : a ∉ E := fun z => hE (List.mem_cons_of_mem _ z)
    exact ⟨ha, by rw [ms_out hE2, ms_out hE], rfl, rfl, rfl, rfl⟩
  · by_cases c : a = v
    · exact Or.inr (Or.inl c)
    · by_cases c2 : hK (ms (v :: E) S) a = 99
      · refine Or.inr (Or.inr (Or.inr ?_))
        by_cases c3 : a ∈ E
        · exact ms_in c3
        · have : a ∉ v :: E := fun z => (List.mem_cons.mp z).elim c c3
          rw [ms_out c3, ← ms_out (S := S) this]; exact c2
      · exact Or.inl ⟨ha, c, c2⟩
  · rw [hkv]; exact hsh
  · rw [hkv]; exact hnu
  · intro _ _
    have hq := pr_ge _ hp
    have hE : x ∉ v :: E := fun z => by have e := ms_in (S := S) z; have := ox.2; simp only at hq; omega
    have e : hK S x = q := by rw [← ms_out (S := S) hE]; exact ox.2
    have := hno x ox.1
    simp only at hq
    omega
  · rw [hkv] at hp
    exact absurd hp (np10 hk)
  · rw [hkv] at z; omega
/-- an array of objects is full -/
theorem x_full (hI : IV (ms (a :: E) S)) (ha : a ∉ E) (hk : 16 ≤ hK S a ∧ hK S a < 20) (hf : ∀ i, i < hN S a → ∃ b, fR S a i = some b ∧ ob (ms E S) b (aeK (hK S a))) : IV (ms E S) := by
  have hka : hK (ms E S) a = hK S a := ms_out ha
  have dn : ∀ x k, ob (ms E S) x k → x ≠ a → ob (ms (a :: E) S) x k := fun x k o hn => by
    refine ⟨o.1, ?_⟩
    by_cases c : x ∈ E
    · rw [ms_in (List.mem_cons_of_mem _ c), ← ms_in (S := S) c]; exact o.2
    · rw [ms_out (fun z => (List.mem_cons.mp z).elim hn c), ← ms_out (S := S) c]; exact o.2
  have up : ∀ x k, ob (ms (a :: E) S) x k → k ≠ 99 → ob (ms E S) x k := fun x k o hn => by
    have c : x ∉ a :: E := fun z => hn (o.2.symm.trans (ms_in z))
    exact ⟨o.1, by rw [ms_out (fun z => c (List.mem_cons_of_mem _ z)), ← ms_out (S := S) c]; exact o.2⟩
  have ne : ∀ x k, ob (ms E S) x k → k < 12 → x ≠ a := fun x k o hk2 z => by
    have := o.2; rw [z, hka] at this; omega
  have ks : ∀ e ∈ shT, e.1 < 12 ∧ e.2.2.1 < 20 := by decide
  have kn : ∀ e ∈ nuT, e.1 < 12 := by decide
  refine ⟨fun e he x o => ?_, fun r h1 h2 x o i hi => ?_, fun x o => ?_, fun e he x o => ?_, fun x k j x' k' j' b o hk o' hp => ?_, fun x k j b o hk => ?_, fun x o => ?_⟩
  · obtain ⟨b, b1, b2, b3⟩ := hI.1 e he x (dn x _ o (ne x _ o (ks e he).1))
    exact ⟨b, b1, up b _ b2 (by have := (ks e he).2; omega), b3⟩
  · by_cases c : x = a
    · subst c
      have : r = hK S x := o.2.symm.trans hka
      subst this
      exact hf i hi
    · obtain ⟨b, b1, b2⟩ := hI.2.1 r h1 h2 x (dn x _ o c) i hi
      exact ⟨b, b1, up b _ b2 (by unfold aeK; split <;> (try split) <;> (try split) <;> omega)⟩
  · exact hI.2.2.1 x (dn x _ o (ne x _ o (by omega)))
  · exact hI.2.2.2.1 e he x (dn x _ o (ne x _ o (kn e he)))
  · exact hI.2.2.2.2.1 x k j x' k' j' b (dn x _ o (ne x _ o hk)) hk (dn x' _ o' (ne x' _ o' (pr_ge _ hp).2)) hp
  · exact hI.2.2.2.2.2.1 x k j b (dn x _ o (ne x _ o hk)) hk
  · have hm := hI.2.2.2.2.2.2 x (dn x _ o (ne x _ o (by omega)))
    exact ml_same' (S := ms (a :: E) S) (fun w ow => up w 10 ow (by omega)) ⟨rfl, rfl, fun w _ => ⟨rfl, rfl, fun _ _ _ _ => rfl⟩, fun _ _ _ _ => rfl⟩ hm
end Con
end
section
def FLD (E : List Nat) (S : HS) (v : Nat) (F : List (Nat × Nat × Nat)) : Prop := (∀ e ∈ F, ∃ b, fR S v e.1 = some b ∧ ob S b e.2.1 ∧ b ∉ E ∧ b ≠ v ∧ hN S b = e.2.2) ∧ ∀ j b, fR S v j = some b → b ∈ hL S
def CN (k v : Nat) (E : List Nat) (S : HS) : Prop := IV (ms (v :: E) S) ∧ NO S ∧ (∀ x, x ∈ v :: E → x ∈ hL S) ∧ v ∉ E ∧ hK S v = k ∧ (∀ j, fR S v j = none) ∧ fI S v = fun _ => 0
def CR (k v : Nat) (E : List Nat) (S T : HS) : Prop := IV (ms E T) ∧ NO T ∧ XP S T v ∧ hK T v = k
def CS (S0 : HS) (E L : List Nat) (S : HS) (v k : Nat) (F : List (Nat × Nat × Nat)) (f : Nat → Int32) : Prop := IV (ms L S) ∧ NO S ∧ (∀ x, x ∈ L → x ∈ hL S) ∧ v ∈ L ∧ (∀ x, x ∈ E → x ∈ L) ∧ v ∉ E ∧ v ∈ hL S0 ∧ hK S v = k ∧ FLD E S v F ∧ XP S0 S v ∧ fI S v = f
section Con2
variable {E L : List Nat} {S S0 T U : HS} {a b v k q n j i N w : Nat} {F : List (Nat × Nat × Nat)} {f : Nat → Int32}
theorem fld_tr (h : FLD E S v F) (hv : v ∈ hL S) (hx : XP S T w) (hn : v ≠ w) : FLD E T v F := by
  have e := ((hx v hv).2.2.2 hn).2.2
  refine ⟨fun g hg => ?_, fun j b hb => ?_⟩
  · obtain ⟨b, b1, b2, b3, b4, b5⟩ := h.1 g hg
    have y := hx b b2.1
    exact ⟨b, by rw [e]; exact b1, ⟨y.1, y.2.1.trans b2.2⟩, b3, b4, y.2.2.1.trans b5⟩
  · rw [e] at hb
    exact (hx b (h.2 j b hb)).1
theorem fld_set (h : FLD E S v F) (E1 : U = sR S v j (some b)) (o : ob S b q) (hE : b ∉ E) (hn : b ≠ v) (hN' : hN S b = N) (hj : ∀ e ∈ F, e.1 ≠ j) : FLD E U v ((j, q, N) :: F) := by
  subst E1
  have ne : ∀ i, i ≠ j → fR (sR S v j (some b)) v i = fR S v i := fun i hi => u2_ne _ _ (fun z => hi z.2)
  refine ⟨fun g hg => ?_, fun i c hc => ?_⟩
  · rcases List.mem_cons.mp hg with rfl | hg
    · exact ⟨b, u2_self _ _ _ _, o, hE, hn, hN'⟩
    · obtain ⟨c, c1, c2, c3, c4, c5⟩ := h.1 g hg
      exact ⟨c, (ne _ (hj g hg)).trans c1, c2, c3, c4, c5⟩
  · by_cases z : i = j
    · subst z
      obtain rfl : b = c := Option.some.inj ((show fR (sR S v i (some b)) v i = some b from u2_self _ _ _ _).symm.trans hc)
      exact o.1
    · rw [ne i z] at hc
      exact h.2 i c hc
theorem no_new (h : NO S) (E1 : T = nW S a k n) (hk : k ≠ 10 ∧ k ≠ 11) (ha : a ∉ hL S) : NO T := by
  subst E1
  intro x hx
  rcases List.mem_append.mp hx with g | g
  · have hn : x ≠ a := fun z => ha (z ▸ g)
    rw [show hK (nW S a k n) x = hK S x from va_up_ne _ _ hn]
    exact h x g
  · obtain rfl := List.mem_singleton.mp g
    rw [nW_K]; exact hk
theorem cs_0 (h : CN k v E S) : CS S E (v :: E) S v k [] (fun _ => 0) := ⟨h.1, h.2.1, h.2.2.1, List.mem_cons_self, fun x hx => List.mem_cons_of_mem _ hx, h.2.2.2.1, h.2.2.1 v List.mem_cons_self, h.2.2.2.2.1, ⟨fun e he => absurd he (by simp), fun j b hb => by rw [h.2.2.2.2.2.1 j] at hb; exact absurd hb (by simp)⟩, xp_rf, h.2.2.2.2.2.2⟩
theorem cs_I {x : Int32} (h : CS S0 E L S v k F f) (E1 : T = sI S v j x) : CS S0 E L T v k F (upd f j x) := by
  obtain ⟨h1, h2, h3, h4, h5, h6, h7, h8, h9, h10, h11⟩ := h
  refine ⟨x_I h1 h4 E1, ?_, ?_, h4, h5, h6, h7, ?_, ?_, xp_tr h10 (xp_I E1), ?_⟩
  all_goals subst E1
  · exact h2
  · exact h3
  · exact h8
  · exact h9
  · show u2 (fI S) v j x v = _
    rw [u2_upd, h11]
/-- a new array or object, of any kind, is put into a field; what is masked goes by hI -/
theorem cs_put {L2 : List Nat} (h : CS S0 E L S v k F f) (hb : b ∉ hL S) (hx : XP S T b) (hT : IV (ms L2 T)) (hno : NO T) (hL2 : ∀ x, x ∈ L2 → x ∈ hL T) (hsub : ∀ x, x ∈ L → x ∈ L2) (ob' : ob T b q) (hN' : hN T b = N) (E1 : U = sR T v j (some b)) (hj : ∀ e ∈ F, e.1 ≠ j) : CS S0 E L2 U v k ((j, q, N) :: F) f := by
  obtain ⟨h1, h2, h3, h4, h5, h6, h7, h8, h9, h10, h11⟩ := h
  have hvS := h3 v h4
  have hvb : v ≠ b := fun z => hb (z ▸ hvS)
  have y := hx v hvS
  refine ⟨x_R hT (hsub v h4) E1, by rw [E1]; exact hno, by rw [E1]; exact hL2, hsub v h4, fun x hx => hsub x (h5 x hx), h6, h7, by rw [E1]; exact y.2.1.trans h8, fld_set (fld_tr h9 hvS hx hvb) E1 ob' (fun z => hb (h3 b (h5 b z))) (Ne.symm hvb) hN' hj, ?_, ?_⟩
  · have hb0 : b ∉ hL S0 := fun z => hb (h10 b z).1
    exact xp_tr (xp_by hb0 h10 hx) (xp_R E1)
  · rw [E1]
    exact (y.2.2.2 hvb).1.trans h11
theorem cs_arr (h : CS S0 E L S v k F f) (hb : b ∉ hL S) (E1 : T = nW S b q N) (E2 : U = sR T v j (some b)) (hq : 12 ≤ q ∧ q < 16) (hj : ∀ e ∈ F, e.1 ≠ j) : CS S0 E L U v k ((j, q, N) :: F) f := by
  have hbL : b ∉ L := fun z => hb (h.2.2.1 b z)
  refine cs_put h hb (xp_new hb E1) (x_arr h.1 hb hbL E1 hq) (no_new h.2.1 E1 (by omega) hb) (fun x hx => ?_) (fun x hx => hx) (ob_of_new E1) ?_ E2 hj
  · exact (xp_new (v := 0) hb E1 x (h.2.2.1 x hx)).1
  · rw [E1]; exact va_up_self _ _ _
/-- an array of objects: masked until it is full -/
theorem cs_ref (h : CS S0 E L S v k F f) (hb : b ∉ hL S) (E1 : T = nW S b q N) (E2 : U = sR T v j (some b)) (hq : 16 ≤ q ∧ q < 20) (hj : ∀ e ∈ F, e.1 ≠ j) : CS S0 E (b :: L) U v k ((j, q, N) :: F) f ∧ b ∉ L ∧ b ∉ hL S0 ∧ b ≠ v ∧ hK U b = q ∧ hN U b = N ∧ fR U v j = some b := by
  have hbL : b ∉ L := fun z => hb (h.2.2.1 b z)
  have ho := ob_of_new E1
  have hn : hN T b = N := by rw [E1]; exact va_up_self _ _ _
  refine ⟨cs_put h hb (xp_new hb E1) (x_obj h.1 hb E1) (no_new h.2.1 E1 (by omega) hb) (fun x hx => ?_) (fun x hx => List.mem_cons_of_mem _ hx) ho hn E2 hj, hbL, fun z => hb (h.2.2.2.2.2.2.2.2.2.1 b z).1, fun z => hb (z ▸ h.2.2.1 v h.2.2.2.1), by rw [E2]; exact ho.2, by rw [E2]; exact hn, by rw [E2]; exact u2_self _ _ _ _⟩
  rcases List.mem_cons.mp hx with rfl | hx
  · exact ho.1
  · exact (xp_new (v := 0) hb E1 x (h.2.2.1 x hx)).1
/-- an object is made: what its constructor starts from -/
theorem cn_of (hI : IV (ms L S)) (hno : NO S) (hL' : ∀ x, x ∈ L → x ∈ hL S) (hb : b ∉ hL S) (E1 : T = nW S b k 0) (hk : k < 10) : CN k b L T := by
  refine ⟨x_obj hI hb E1, no_new hno E1 (by omega) hb, fun x hx => ?_, fun z => hb (hL' b z), (ob_of_new E1).2, ?_, ?_⟩
  · rcases List.mem_cons.mp hx with rfl | hx
    · exact (ob_of_new E1).1
    · exact (xp_new (v := 0) hb E1 x (hL' x hx)).1
  · rw [E1]; exact zero_new.1
  · rw [E1]; exact zero_new.2
theorem cs_obj (h : CS S0 E L S v k F f) (hb : b ∉ hL S) (E1 : T = nW S b q 0) {T2 : HS} (r : CR q b L T T2) (E2 : U = sR T2 v j (some b)) (hj : ∀ e ∈ F, e.1 ≠ j) : CS S0 E L U v k ((j, q, 0) :: F) f := by
  obtain ⟨r1, r2, r3, r4⟩ := r
  have ho := ob_of_new E1
  have y := r3 b ho.1
  have hx : XP S T2 b := xp_tr (xp_new hb E1) r3
  refine cs_put h hb hx r1 r2 (fun x hx' => (hx x (h.2.2.1 x hx')).1) (fun x hx => hx) ⟨y.1, r4⟩ ?_ E2 hj
  rw [y.2.2.1, E1]; exact va_up_self _ _ _
theorem cs_end (h : CS S0 E (v :: E) S v k F f) (hk : k < 10) (hF : ∀ e ∈ shT, e.1 = k → ∃ g ∈ F, g.1 = e.2.1 ∧ g.2.1 = e.2.2.1 ∧ (e.2.2.2 = 0 ∨ g.2.2 = e.2.2.2)) (hnu : ∀ e ∈ nuT, e.1 = k → e.2.2.1 ≤ f e.2.1 ∧ f e.2.1 ≤ e.2.2.2) (hwy : k = 7 → ∀ e ∈ wyT, ∃ g ∈ F, g.1 = e.1 ∧ g.2.2 = 0) : CR k v E S0 S := by
  obtain ⟨h1, h2, h3, h4, h5, h6, h7, h8, h9, h10, h11⟩ := h
  refine ⟨x_fin h1 h2 h6 (h3 v h4) (by rw [h8]; exact hk) ?_ ?_ ?_ h9.2, h2, h10, h8⟩
  · rw [h8]
    intro e he hek
    obtain ⟨g, hg, g1, g2, g3⟩ := hF e he hek
    obtain ⟨b, b1, b2, b3, b4, b5⟩ := h9.1 g hg
    refine ⟨b, by rw [← g1]; exact b1, ⟨b2.1, by rw [ms_out b3, ← g2]; exact b2.2⟩, ?_⟩
    rcases g3 with g3 | g3
    · exact Or.inl g3
    · exact Or.inr (b5.trans g3)
  · intro hk7 e he b hb
    obtain ⟨g, hg, g1, g2⟩ := hwy (h8.symm.trans hk7) e he
    obtain ⟨c, c1, c2, c3, c4, c5⟩ := h9.1 g hg
    rw [g1] at c1
    obtain rfl : c = b := Option.some.inj (c1.symm.trans hb)
    exact c5.trans g2
  · rw [h8, h11]; exact hnu
/-- an array of objects is being filled: c of them stand -/
def FS (S0 : HS) (E L : List Nat) (S : HS) (v k : Nat) (F : List (Nat × Nat × Nat)) (f : Nat → Int32) (a q j N c : Nat) : Prop := CS S0 E (a :: L) S v k F f ∧ a ∉ L ∧ a ∉ hL S0 ∧ a ≠ v ∧ hK S a = q ∧ hN S a = N ∧ fR S v j = some a ∧ ∀ z, z < c → ∃ b, fR S a z = some b ∧ ob (ms L S) b (aeK q)
theorem fs_0 (h : CS S0 E (a :: L) S v k F f ∧ a ∉ L ∧ a ∉ hL S0 ∧ a ≠ v ∧ hK S a = q ∧ hN S a = N ∧ fR S v j = some a) : FS S0 E L S v k F f a q j N 0 := ⟨h.1, h.2.1, h.2.2.1, h.2.2.2.1, h.2.2.2.2.1, h.2.2.2.2.2.1, h.2.2.2.2.2.2, fun z hz => absurd hz (by omega)⟩
theorem fs_step {c : Nat} {T2 : HS} (h : FS S0 E L S v k F f a q j N c) (hq : 16 ≤ q ∧ q < 20) (hw : w ∉ hL S) (E1 : T = nW S w (aeK q) 0) (r : CR (aeK q) w (a :: L) T T2) (E2 : U = sR T2 a c (some w)) : FS S0 E L U v k F f a q j N (c + 1) := by
  obtain ⟨⟨h1, h2, h3, h4, h5, h6, h7, h8, h9, h10, h11⟩, g1, g2, g3, g4, g5, g6, g7⟩ := h
  obtain ⟨r1, r2, r3, r4⟩ := r
  have ho := ob_of_new E1
  have hx : XP S T2 w := xp_tr (xp_new hw E1) r3
  have haS := h3 a List.mem_cons_self
  have hvS := h3 v h4
  have hwa : a ≠ w := fun z => hw (z ▸ haS)
  have hwv : v ≠ w := fun z => hw (z ▸ hvS)
  have hwL : w ∉ L := fun z => hw (h3 w (List.mem_cons_of_mem _ z))
  have ya := hx a haS
  have yv := hx v hvS
  have xa : XP T2 U a := xp_R E2
  have hUv : fR U v = fR T2 v := ((xa v yv.1).2.2.2 (Ne.symm g3)).2.2
  refine ⟨⟨x_R r1 List.mem_cons_self E2, by rw [E2]; exact r2, fun x hx' => (xa x (hx x (h3 x hx')).1).1, h4, h5, h6, h7, ((xa v yv.1).2.1.trans yv.2.1).trans h8, fld_tr (fld_tr h9 hvS hx hwv) yv.1 xa (Ne.symm g3), ?_, ?_⟩, g1, g2, g3, ((xa a ya.1).2.1.trans ya.2.1).trans g4, ((xa a ya.1).2.2.1.trans ya.2.2.1).trans g5, ?_, fun z hz => ?_⟩
  · have hw0 : w ∉ hL S0 := fun z => hw (h10 w z).1
    exact xp_by g2 (xp_by hw0 h10 hx) xa
  · rw [((xa v yv.1).2.2.2 (Ne.symm g3)).1, (yv.2.2.2 hwv).1]; exact h11
  · rw [hUv, (yv.2.2.2 hwv).2.2]; exact g6
  · by_cases cz : z = c
    · subst cz
      refine ⟨w, by rw [E2]; exact u2_self _ _ _ _, ⟨(xa w (r3 w ho.1).1).1, ?_⟩⟩
      rw [ms_out hwL, (xa w (r3 w ho.1).1).2.1]; exact r4
    · obtain ⟨b, b1, b2⟩ := g7 z (by omega)
      have hbS : b ∈ hL S := b2.1
      refine ⟨b, ?_, ⟨(xa b (hx b hbS).1).1, ?_⟩⟩
      · rw [E2, show fR (sR T2 a c (some w)) a z = fR T2 a z from u2_ne _ _ (fun t => cz t.2), (ya.2.2.2 hwa).2.2]; exact b1
      · by_cases cb : b ∈ L
        · rw [ms_in cb, ← ms_in (S := S) cb]; exact b2.2
        · rw [ms_out cb, (xa b (hx b hbS).1).2.1, (hx b hbS).2.1, ← ms_out (S := S) cb]; exact b2.2
theorem fs_end (h : FS S0 E L S v k F f a q j N N) (hq : 16 ≤ q ∧ q < 20) (hvL : v ∈ L) (hEL : ∀ x, x ∈ E → x ∈ L) : CS S0 E L S v k F f := by
  obtain ⟨⟨h1, h2, h3, h4, h5, h6, h7, h8, h9, h10, h11⟩, g1, g2, g3, g4, g5, g6, g7⟩ := h
  refine ⟨x_full h1 g1 (by rw [g4]; exact hq) (fun i hi => ?_), h2, fun x hx => h3 x (List.mem_cons_of_mem _ hx), hvL, hEL, h6, h7, h8, h9, h10, h11⟩
  rw [g5] at hi
  rw [g4]
  exact g7 i hi
end Con2
end
section
theorem ms_perm {L L2 : List Nat} {S : HS} (hp : ∀ x, x ∈ L ↔ x ∈ L2) : ms L S = ms L2 S := by
  unfold ms
  have : (fun a => if a ∈ L then 99 else hK S a) = fun a => if a ∈ L2 then 99 else hK S a := by
    funext a
    by_cases h : a ∈ L
    · rw [if_pos h, if_pos ((hp a).mp h)]
    · rw [if_neg h, if_neg (fun z => h ((hp a).mpr z))]
  rw [this]
theorem cs_perm {S0 S : HS} {E L L2 : List Nat} {v k : Nat} {F : List (Nat × Nat × Nat)} {f : Nat → Int32} (h : CS S0 E L S v k F f) (hp : ∀ x, x ∈ L ↔ x ∈ L2) : CS S0 E L2 S v k F f := ⟨ms_perm hp ▸ h.1, h.2.1, fun x hx => h.2.2.1 x ((hp x).mpr hx), (hp v).mp h.2.2.2.1, fun x hx => (hp x).mp (h.2.2.2.2.1 x hx), h.2.2.2.2.2⟩
theorem ms_nil (S : HS) : ms [] S = S := by
  unfold ms
  have : (fun a => if a ∈ ([] : List Nat) then 99 else hK S a) = hK S := by
    funext a
    exact if_neg (by simp)
  rw [this]; rfl
theorem cn_ob {S : HS} {E : List Nat} {v k : Nat} (h : CN k v E S) : ob S v k := ⟨h.2.2.1 v List.mem_cons_self, h.2.2.2.2.1⟩
theorem cs_ob {S0 S : HS} {E L : List Nat} {v k : Nat} {F : List (Nat × Nat × Nat)} {f : Nat → Int32} (h : CS S0 E L S v k F f) : ob S v k := ⟨h.2.2.1 v h.2.2.2.1, h.2.2.2.2.2.2.2.1⟩
theorem fs_fr {S0 S T T2 U : HS} {E L : List Nat} {v k a q j N c w q2 : Nat} {F : List (Nat × Nat × Nat)} {f : Nat → Int32} (h : FS S0 E L S v k F f a q j N c) (hw : w ∉ hL S) (E1 : T = nW S w q2 0) (r : CR q2 w (a :: L) T T2) (E2 : U = sR T2 a c (some w)) : fR U v = fR S v := by
  have hvS := h.1.2.2.1 v h.1.2.2.2.1
  have hwv : v ≠ w := fun z => hw (z ▸ hvS)
  have hx : XP S T2 w := xp_tr (xp_new hw E1) r.2.2.1
  have xa : XP T2 U a := xp_R E2
  rw [((xa v (hx v hvS).1).2.2.2 (Ne.symm h.2.2.2.1)).2.2, ((hx v hvS).2.2.2 hwv).2.2]
theorem fs_of {S0 S : HS} {E L : List Nat} {v k a q j N : Nat} {F : List (Nat × Nat × Nat)} {f : Nat → Int32} (h : CS S0 E (a :: L) S v k F f) (he : (j, q, N) ∈ F) (hr : fR S v j = some a) (ha : a ∉ L) (ha0 : a ∉ hL S0) : FS S0 E L S v k F f a q j N 0 := by
  obtain ⟨b, b1, b2, b3, b4, b5⟩ := h.2.2.2.2.2.2.2.2.1.1 _ he
  obtain rfl : b = a := Option.some.inj (b1.symm.trans hr)
  exact fs_0 ⟨h, ha, ha0, b4, b2.2, b5, hr⟩
theorem st_keep {S T U : HS} {v b q N j j' : Nat} (hb : b ∉ hL S) (E1 : T = nW S b q N) (E2 : U = sR T v j' (some b)) (hv : v ∈ hL S) (hj : j ≠ j') {r : Option Nat} (h : fR S v j = r) : fR U v j = r := by
  rw [E2, show fR (sR T v j' (some b)) v j = fR T v j from u2_ne _ _ (fun z => hj z.2), ((xp_new (v := b) hb E1 v hv).2.2.2 (fun z => hb (z ▸ hv))).2.2]
  exact h
theorem m_X3_init {v0 : Nat} {E : List Nat} {Q : HS → Prop} {S : HS} (h : CN 3 v0 E S) (hq : ∀ T, CR 3 v0 E S T → Q T) : P_X3_init v0 Q S := hq S (cs_end (cs_0 h) (by omega) (by decide) (by decide) (fun z => absurd z (by omega)))
theorem m_X5_init {v0 : Nat} {E : List Nat} {Q : HS → Prop} {S : HS} (h : CN 5 v0 E S) (hq : ∀ T, CR 5 v0 E S T → Q T) : P_X5_init v0 Q S := hq S (cs_end (cs_0 h) (by omega) (by decide) (by decide) (fun z => absurd z (by omega)))
theorem m_X6_init {v0 : Nat} {E : List Nat} {Q : HS → Prop} {S : HS} (h : CN 6 v0 E S) (hq : ∀ T, CR 6 v0 E S T → Q T) : P_X6_init v0 Q S := hq S (cs_end (cs_0 h) (by omega) (by decide) (by decide) (fun z => absurd z (by omega)))
set_option maxRecDepth 20000 in
theorem m_X2_init {v0 : Nat} {E : List Nat} {Q : HS → Prop} {S : HS} (h : CN 2 v0 E S) (hq : ∀ T, CR 2 v0 E S T → Q T) : P_X2_init v0 Q S := by
  show P_X2_init_0 Q v0 S
  unfold P_X2_init_0
  have c0 := cs_0 h
  have ov := cn_ob h
  intro a0 q0 T0 e0
  refine ⟨gr_ob (gr_of_new e0 q0) ov, ?_⟩
  intro U0 g0
  have c1 := cs_arr c0 q0 e0 g0 (by omega) (by decide)
  exact hq _ (cs_end c1 (by omega) (by decide) (by decide) (fun z => absurd z (by omega)))
set_option maxRecDepth 20000 in
theorem m_X1_init {v0 : Nat} {E : List Nat} {Q : HS → Prop} {S : HS} (h : CN 1 v0 E S) (hq : ∀ T, CR 1 v0 E S T → Q T) : P_X1_init v0 Q S := by
  show P_X1_init_0 Q v0 S
  unfold P_X1_init_0
  have c0 := cs_0 h
  have ov := cn_ob h
  intro a0 q0 T0 e0
  refine ⟨gr_ob (gr_of_new e0 q0) ov, ?_⟩
  intro U0 g0
  have c1 := cs_arr c0 q0 e0 g0 (by omega) (by decide)
  intro a1 q1 T1 e1
  intro U1 g1
  have c2 := cs_arr c1 q1 e1 g1 (by omega) (by decide)
  exact hq _ (cs_end c2 (by omega) (by decide) (by decide) (fun z => absurd z (by omega)))
set_option maxRecDepth 20000 in
theorem m_X7_init {v0 : Nat} {E : List Nat} {Q : HS → Prop} {S : HS} (h : CN 7 v0 E S) (hq : ∀ T, CR 7 v0 E S T → Q T) : P_X7_init v0 Q S := by
  show P_X7_init_0 Q v0 S
  unfold P_X7_init_0
  have c0 := cs_0 h
  have ov := cn_ob h
  intro a0 q0 T0 e0
  refine ⟨gr_ob (gr_of_new e0 q0) ov, ?_⟩
  intro U0 g0
  have c1 := cs_arr c0 q0 e0 g0 (by omega) (by decide)
  intro a1 q1 T1 e1
  intro U1 g1
  have c2 := cs_arr c1 q1 e1 g1 (by omega) (by decide)
  intro a2 q2 T2 e2
  intro U2 g2
  have c3 := cs_arr c2 q2 e2 g2 (by omega) (by decide)
  intro a3 q3 T3 e3
  intro U3 g3
  have c4 := cs_arr c3 q3 e3 g3 (by omega) (by decide)
  intro a4 q4 T4 e4
  intro U4 g4
  have c5 := cs_arr c4 q4 e4 g4 (by omega) (by decide)
  intro a5 q5 T5 e5
  intro U5 g5
  have c6 := cs_arr c5 q5 e5 g5 (by omega) (by decide)
  intro a6 q6 T6 e6
  intro U6 g6
  have c7 := cs_arr c6 q6 e6 g6 (by omega) (by decide)
  intro a7 q7 T7 e7
  intro U7 g7
  have c8 := cs_arr c7 q7 e7 g7 (by omega) (by decide)
  intro V0 i0
  have c9 := cs_I c8 i0
  intro V1 i1
  have c10 := cs_I c9 i1
  intro V2 i2
  have c11 := cs_I c10 i2
  intro V3 i3
  have c12 := cs_I c11 i3
  exact hq _ (cs_end c12 (by omega) (by decide) (by decide) (fun _ => by decide))
set_option maxRecDepth 20000 in
theorem lp_X8_init_115 {Q : HS → Prop} {E Lm : List Nat} {S0 : HS} {v0 a : Nat} {F : List (Nat × Nat × Nat)} {f : Nat → Int32} (hvL : v0 ∈ Lm) (hEL : ∀ x, x ∈ E → x ∈ Lm) {r : Nat → Option Nat} (hQ : ∀ S, CS S0 E Lm S v0 8 F f → fR S v0 = r → 28 ≤ rm_X8_init.cells ∧ 172 ≤ rm_X8_init.slots ∧ Q S) : ∀ (d c : Nat), c + d = 4 → ∀ (S : HS), FS S0 E Lm S v0 8 F f a 19 9 4 c → fR S v0 = r → ∀ (kk nn : Nat), kk = 24 + 1 * c → nn = 144 + 7 * c → ∀ X : Nat → Int32 → Nat → Nat → HS → Prop, (∀ (v0 : Nat) (v1 : Int32) (kk nn : Nat) (S : HS), B_X8_init_115 Q X v0 v1 kk nn S → X v0 v1 kk nn S) → X v0 (nI c) kk nn S := by
  intro d
  induction d with
  | zero =>
    intro c hc S fs hr kk nn hk hn X hX
    have hc' : c = 4 := by omega
    subst hc'
    subst hk
    subst hn
    refine hX v0 _ _ _ S ⟨cs_ob fs.1, a, fs.2.2.2.2.2.2.1, ⟨fs.1.2.2.1 a List.mem_cons_self, fs.2.2.2.2.1⟩, fun _ => ?_, fun hn => absurd ?_ hn⟩
    · exact hQ S (fs_end fs (by omega) hvL hEL) hr
    · rw [fs.2.2.2.2.2.1]
      exact nI_le (by omega) (by omega)
  | succ d ih =>
    intro c hc S fs hr kk nn hk hn X hX
    refine hX v0 _ _ _ S ⟨cs_ob fs.1, a, fs.2.2.2.2.2.2.1, ⟨fs.1.2.2.1 a List.mem_cons_self, fs.2.2.2.2.1⟩, fun hn => absurd hn ?_, fun _ => ⟨a, fs.2.2.2.2.2.2.1, ?_, ?_, fun w hw T eT => ⟨?_, ?_, m_X6_init (cn_of fs.1.1 fs.1.2.1 fs.1.2.2.1 hw eT (by omega)) (fun T2 r _ => ?_)⟩⟩⟩
    · rw [fs.2.2.2.2.2.1]
      exact nI_ge (by omega) (by omega)
    · show kk + 1 ≤ 28
      omega
    · show nn + 7 ≤ 172
      omega
    · show kk + 1 ≤ 28
      omega
    · show nn + 7 ≤ 172
      omega
    · have ya := r.2.2.1 a ((xp_new (v := 0) hw eT a (fs.1.2.2.1 a List.mem_cons_self)).1)
      have yk := (xp_new (v := 0) hw eT a (fs.1.2.2.1 a List.mem_cons_self))
      refine ⟨⟨ya.1, (ya.2.1.trans yk.2.1).trans fs.2.2.2.2.1⟩, ?_, fun U eU x ex => ?_⟩
      · rw [(ya.2.2.1.trans yk.2.2.1).trans fs.2.2.2.2.2.1]
        exact nI_in (by omega) (by omega)
      · rw [nI_clamp (by omega)] at eU
        have fs2 := fs_step fs (by omega) hw eT r eU
        rw [ex, nI_1 c]
        exact ih (c + 1) (by omega) U fs2 ((fs_fr fs hw eT r eU).trans hr) _ _ (by omega) (by omega) X hX
set_option maxRecDepth 20000 in
theorem lp_X8_init_85 {Q : HS → Prop} {E Lm : List Nat} {S0 : HS} {v0 a : Nat} {F : List (Nat × Nat × Nat)} {f : Nat → Int32} (hvL : v0 ∈ Lm) (hEL : ∀ x, x ∈ E → x ∈ Lm) {r : Nat → Option Nat} (hQ : ∀ S, CS S0 E Lm S v0 8 F f → fR S v0 = r → P_X8_init_115 Q v0 (0 : Int32) 24 144 S) : ∀ (d c : Nat), c + d = 12 → ∀ (S : HS), FS S0 E Lm S v0 8 F f a 18 8 12 c → fR S v0 = r → ∀ (kk nn : Nat), kk = 12 + 1 * c → nn = 84 + 5 * c → ∀ X : Nat → Int32 → Nat → Nat → HS → Prop, (∀ (v0 : Nat) (v1 : Int32) (kk nn : Nat) (S : HS), B_X8_init_85 Q X v0 v1 kk nn S → X v0 v1 kk nn S) → X v0 (nI c) kk nn S := by
  intro d
  induction d with
  | zero =>
    intro c hc S fs hr kk nn hk hn X hX
    have hc' : c = 12 := by omega
    subst hc'
    subst hk
    subst hn
    refine hX v0 _ _ _ S ⟨cs_ob fs.1, a, fs.2.2.2.2.2.2.1, ⟨fs.1.2.2.1 a List.mem_cons_self, fs.2.2.2.2.1⟩, fun _ => ?_, fun hn => absurd ?_ hn⟩
    · exact hQ S (fs_end fs (by omega) hvL hEL) hr
    · rw [fs.2.2.2.2.2.1]
      exact nI_le (by omega) (by omega)
  | succ d ih =>
    intro c hc S fs hr kk nn hk hn X hX
    refine hX v0 _ _ _ S ⟨cs_ob fs.1, a, fs.2.2.2.2.2.2.1, ⟨fs.1.2.2.1 a List.mem_cons_self, fs.2.2.2.2.1⟩, fun hn => absurd hn ?_, fun _ => ⟨a, fs.2.2.2.2.2.2.1, ?_, ?_, fun w hw T eT => ⟨?_, ?_, m_X5_init (cn_of fs.1.1 fs.1.2.1 fs.1.2.2.1 hw eT (by omega)) (fun T2 r _ => ?_)⟩⟩⟩
    · rw [fs.2.2.2.2.2.1]
      exact nI_ge (by omega) (by omega)
    · show kk + 1 ≤ 28
      omega
    · show nn + 5 ≤ 172
      omega
    · show kk + 1 ≤ 28
      omega
    · show nn + 5 ≤ 172
      omega
    · have ya := r.2.2.1 a ((xp_new (v := 0) hw eT a (fs.1.2.2.1 a List.mem_cons_self)).1)
      have yk := (xp_new (v := 0) hw eT a (fs.1.2.2.1 a List.mem_cons_self))
      refine ⟨⟨ya.1, (ya.2.1.trans yk.2.1).trans fs.2.2.2.2.1⟩, ?_, fun U eU x ex => ?_⟩
      · rw [(ya.2.2.1.trans yk.2.2.1).trans fs.2.2.2.2.2.1]
        exact nI_in (by omega) (by omega)
      · rw [nI_clamp (by omega)] at eU
        have fs2 := fs_step fs (by omega) hw eT r eU
        rw [ex, nI_1 c]
        exact ih (c + 1) (by omega) U fs2 ((fs_fr fs hw eT r eU).trans hr) _ _ (by omega) (by omega) X hX
set_option maxRecDepth 20000 in
theorem lp_X8_init_55 {Q : HS → Prop} {E Lm : List Nat} {S0 : HS} {v0 a : Nat} {F : List (Nat × Nat × Nat)} {f : Nat → Int32} (hvL : v0 ∈ Lm) (hEL : ∀ x, x ∈ E → x ∈ Lm) {r : Nat → Option Nat} (hQ : ∀ S, CS S0 E Lm S v0 8 F f → fR S v0 = r → P_X8_init_85 Q v0 (0 : Int32) 12 84 S) : ∀ (d c : Nat), c + d = 6 → ∀ (S : HS), FS S0 E Lm S v0 8 F f a 17 6 6 c → fR S v0 = r → ∀ (kk nn : Nat), kk = 6 + 1 * c → nn = 54 + 5 * c → ∀ X : Nat → Int32 → Nat → Nat → HS → Prop, (∀ (v0 : Nat) (v1 : Int32) (kk nn : Nat) (S : HS), B_X8_init_55 Q X v0 v1 kk nn S → X v0 v1 kk nn S) → X v0 (nI c) kk nn S := by
  intro d
  induction d with
  | zero =>
    intro c hc S fs hr kk nn hk hn X hX
    have hc' : c = 6 := by omega
    subst hc'
    subst hk
    subst hn
    refine hX v0 _ _ _ S ⟨cs_ob fs.1, a, fs.2.2.2.2.2.2.1, ⟨fs.1.2.2.1 a List.mem_cons_self, fs.2.2.2.2.1⟩, fun _ => ?_, fun hn => absurd ?_ hn⟩
    · exact hQ S (fs_end fs (by omega) hvL hEL) hr
    · rw [fs.2.2.2.2.2.1]
      exact nI_le (by omega) (by omega)
  | succ d ih =>
    intro c hc S fs hr kk nn hk hn X hX
    refine hX v0 _ _ _ S ⟨cs_ob fs.1, a, fs.2.2.2.2.2.2.1, ⟨fs.1.2.2.1 a List.mem_cons_self, fs.2.2.2.2.1⟩, fun hn => absurd hn ?_, fun _ => ⟨a, fs.2.2.2.2.2.2.1, ?_, ?_, fun w hw T eT => ⟨?_, ?_, m_X3_init (cn_of fs.1.1 fs.1.2.1 fs.1.2.2.1 hw eT (by omega)) (fun T2 r _ => ?_)⟩⟩⟩
    · rw [fs.2.2.2.2.2.1]
      exact nI_ge (by omega) (by omega)
    · show kk + 1 ≤ 28
      omega
    · show nn + 5 ≤ 172
      omega
    · show kk + 1 ≤ 28
      omega
    · show nn + 5 ≤ 172
      omega
    · have ya := r.2.2.1 a ((xp_new (v := 0) hw eT a (fs.1.2.2.1 a List.mem_cons_self)).1)
      have yk := (xp_new (v := 0) hw eT a (fs.1.2.2.1 a List.mem_cons_self))
      refine ⟨⟨ya.1, (ya.2.1.trans yk.2.1).trans fs.2.2.2.2.1⟩, ?_, fun U eU x ex => ?_⟩
      · rw [(ya.2.2.1.trans yk.2.2.1).trans fs.2.2.2.2.2.1]
        exact nI_in (by omega) (by omega)
      · rw [nI_clamp (by omega)] at eU
        have fs2 := fs_step fs (by omega) hw eT r eU
        rw [ex, nI_1 c]
        exact ih (c + 1) (by omega) U fs2 ((fs_fr fs hw eT r eU).trans hr) _ _ (by omega) (by omega) X hX
set_option maxRecDepth 20000 in
theorem m_X8_init {v0 : Nat} {E : List Nat} {Q : HS → Prop} {S : HS} (h : CN 8 v0 E S) (hq : ∀ T, CR 8 v0 E S T → Q T) : P_X8_init v0 Q S := by
  show P_X8_init_0 Q v0 0 0 S
  unfold P_X8_init_0
  have c0 := cs_0 h
  have ov := cn_ob h
  refine ⟨by decide, by decide, ?_⟩
  intro a0 q0 T0 e0
  refine ⟨gr_ob (gr_of_new e0 q0) ov, ?_⟩
  intro U0 g0
  have r0 := cs_ref c0 q0 e0 g0 (by omega) (by decide)
  have c1 := r0.1
  refine ⟨by decide, by decide, ?_⟩
  intro a1 q1 T1 e1
  intro U1 g1
  have c2 := cs_arr c1 q1 e1 g1 (by omega) (by decide)
  refine ⟨by decide, by decide, ?_⟩
  intro a2 q2 T2 e2
  intro U2 g2
  have r2 := cs_ref c2 q2 e2 g2 (by omega) (by decide)
  have c3 := r2.1
  refine ⟨by decide, by decide, ?_⟩
  intro a3 q3 T3 e3
  intro U3 g3
  have r3 := cs_ref c3 q3 e3 g3 (by omega) (by decide)
  have c4 := r3.1
  refine ⟨by decide, by decide, ?_⟩
  intro a4 q4 T4 e4
  intro U4 g4
  have c5 := cs_arr c4 q4 e4 g4 (by omega) (by decide)
  refine ⟨by decide, by decide, ?_⟩
  intro a5 q5 T5 e5
  intro U5 g5
  have c6 := cs_arr c5 q5 e5 g5 (by omega) (by decide)
  have hq' : ∀ S', CS S E (v0 :: E) S' v0 8 [(11, 13, 20), (10, 13, 4), (9, 19, 4), (8, 18, 12), (7, 13, 8), (6, 17, 6)] (fun _ => 0) → 28 ≤ rm_X8_init.cells ∧ 172 ≤ rm_X8_init.slots ∧ Q S' := fun S' c => ⟨by decide, by decide, hq S' (cs_end c (by omega) (by decide) (by decide) (fun z => absurd z (by omega)))⟩
  have k6 : fR U5 v0 6 = some a0 := (st_keep q5 e5 g5 (c5.2.2.1 v0 c5.2.2.2.1) (by decide : 6 ≠ 11) (st_keep q4 e4 g4 (c4.2.2.1 v0 c4.2.2.2.1) (by decide : 6 ≠ 10) (st_keep q3 e3 g3 (c3.2.2.1 v0 c3.2.2.2.1) (by decide : 6 ≠ 9) (st_keep q2 e2 g2 (c2.2.2.1 v0 c2.2.2.2.1) (by decide : 6 ≠ 8) (st_keep q1 e1 g1 (c1.2.2.1 v0 c1.2.2.2.1) (by decide : 6 ≠ 7) r0.2.2.2.2.2.2)))))
  have k8 : fR U5 v0 8 = some a2 := (st_keep q5 e5 g5 (c5.2.2.1 v0 c5.2.2.2.1) (by decide : 8 ≠ 11) (st_keep q4 e4 g4 (c4.2.2.1 v0 c4.2.2.2.1) (by decide : 8 ≠ 10) (st_keep q3 e3 g3 (c3.2.2.1 v0 c3.2.2.2.1) (by decide : 8 ≠ 9) r2.2.2.2.2.2.2)))
  have k9 : fR U5 v0 9 = some a3 := (st_keep q5 e5 g5 (c5.2.2.1 v0 c5.2.2.2.1) (by decide : 9 ≠ 11) (st_keep q4 e4 g4 (c4.2.2.1 v0 c4.2.2.2.1) (by decide : 9 ≠ 10) r3.2.2.2.2.2.2))
  have x0 := r0.2.1
  have x2 := r2.2.1
  have x3 := r3.2.1
  have hv3 : ∀ x, x ∈ E → x ∈ v0 :: E := fun x hx => List.mem_cons_of_mem _ hx
  have d0 := cs_perm (L2 := a0 :: a3 :: a2 :: v0 :: E) c6 (fun x => by simp only [List.mem_cons]; exact ⟨fun z => by rcases z with z | z | z | z | z <;> simp [z], fun z => by rcases z with z | z | z | z | z <;> simp [z]⟩)
  simp only [List.mem_cons, not_or] at x0 x2 x3
  have n0 : a0 ∉ a3 :: a2 :: v0 :: E := by simp only [List.mem_cons, not_or]; exact ⟨Ne.symm x3.2.1, Ne.symm x2.1, x0.1, x0.2⟩
  have n2 : a2 ∉ a3 :: v0 :: E := by simp only [List.mem_cons, not_or]; exact ⟨Ne.symm x3.1, x2.2.1, x2.2.2⟩
  have n3 : a3 ∉ v0 :: E := by simp only [List.mem_cons, not_or]; exact ⟨x3.2.2.1, x3.2.2.2⟩
  refine lp_X8_init_55 (a := a0) (Lm := a3 :: a2 :: v0 :: E) (r := fR U5 v0) (by simp) (fun x hx => by simp [hx]) (fun S1 s1 t1 => ?_) 6 0 rfl U5 (fs_of d0 (by decide) k6 n0 r0.2.2.1) rfl 6 54 rfl rfl
  have d1 := cs_perm (L2 := a2 :: a3 :: v0 :: E) s1 (fun x => by simp only [List.mem_cons]; exact ⟨fun z => by rcases z with z | z | z | z <;> simp [z], fun z => by rcases z with z | z | z | z <;> simp [z]⟩)
  refine lp_X8_init_85 (a := a2) (Lm := a3 :: v0 :: E) (r := fR U5 v0) (by simp) (fun x hx => by simp [hx]) (fun S2 s2 t2 => ?_) 12 0 rfl S1 (fs_of d1 (by decide) (by rw [t1]; exact k8) n2 r2.2.2.1) t1 12 84 rfl rfl
  exact lp_X8_init_115 (a := a3) (Lm := v0 :: E) (r := fR U5 v0) (by simp) (fun x hx => by simp [hx]) (fun S3 s3 _ => hq' S3 s3) 4 0 rfl S2 (fs_of s2 (by decide) (by rw [t2]; exact k9) n3 r3.2.2.1) t2 24 144 rfl rfl
set_option maxRecDepth 20000 in
theorem lp_X0_init_69 {Q : HS → Prop} {E Lm : List Nat} {S0 : HS} {v0 a : Nat} {F : List (Nat × Nat × Nat)} {f : Nat → Int32} (hvL : v0 ∈ Lm) (hEL : ∀ x, x ∈ E → x ∈ Lm) {r : Nat → Option Nat} (hQ : ∀ S, CS S0 E Lm S v0 0 F f → fR S v0 = r → 42 ≤ rm_X0_init.cells ∧ 179 ≤ rm_X0_init.slots ∧ Q S) : ∀ (d c : Nat), c + d = 3 → ∀ (S : HS), FS S0 E Lm S v0 0 F f a 16 6 3 c → fR S v0 = r → ∀ (kk nn : Nat), kk = 36 + 2 * c → nn = 155 + 8 * c → ∀ X : Nat → Int32 → Nat → Nat → HS → Prop, (∀ (v0 : Nat) (v1 : Int32) (kk nn : Nat) (S : HS), B_X0_init_69 Q X v0 v1 kk nn S → X v0 v1 kk nn S) → X v0 (nI c) kk nn S := by
  intro d
  induction d with
  | zero =>
    intro c hc S fs hr kk nn hk hn X hX
    have hc' : c = 3 := by omega
    subst hc'
    subst hk
    subst hn
    refine hX v0 _ _ _ S ⟨cs_ob fs.1, a, fs.2.2.2.2.2.2.1, ⟨fs.1.2.2.1 a List.mem_cons_self, fs.2.2.2.2.1⟩, fun _ => ?_, fun hn => absurd ?_ hn⟩
    · exact hQ S (fs_end fs (by omega) hvL hEL) hr
    · rw [fs.2.2.2.2.2.1]
      exact nI_le (by omega) (by omega)
  | succ d ih =>
    intro c hc S fs hr kk nn hk hn X hX
    refine hX v0 _ _ _ S ⟨cs_ob fs.1, a, fs.2.2.2.2.2.2.1, ⟨fs.1.2.2.1 a List.mem_cons_self, fs.2.2.2.2.1⟩, fun hn => absurd hn ?_, fun _ => ⟨a, fs.2.2.2.2.2.2.1, ?_, ?_, fun w hw T eT => ⟨?_, ?_, m_X2_init (cn_of fs.1.1 fs.1.2.1 fs.1.2.2.1 hw eT (by omega)) (fun T2 r _ => ?_)⟩⟩⟩
    · rw [fs.2.2.2.2.2.1]
      exact nI_ge (by omega) (by omega)
    · show kk + 1 ≤ 42
      omega
    · show nn + 3 ≤ 179
      omega
    · show kk + 1 + 1 ≤ 42
      omega
    · show nn + 3 + 5 ≤ 179
      omega
    · have ya := r.2.2.1 a ((xp_new (v := 0) hw eT a (fs.1.2.2.1 a List.mem_cons_self)).1)
      have yk := (xp_new (v := 0) hw eT a (fs.1.2.2.1 a List.mem_cons_self))
      refine ⟨⟨ya.1, (ya.2.1.trans yk.2.1).trans fs.2.2.2.2.1⟩, ?_, fun U eU x ex => ?_⟩
      · rw [(ya.2.2.1.trans yk.2.2.1).trans fs.2.2.2.2.2.1]
        exact nI_in (by omega) (by omega)
      · rw [nI_clamp (by omega)] at eU
        have fs2 := fs_step fs (by omega) hw eT r eU
        rw [ex, nI_1 c]
        exact ih (c + 1) (by omega) U fs2 ((fs_fr fs hw eT r eU).trans hr) _ _ (by omega) (by omega) X hX
set_option maxRecDepth 20000 in
theorem lp_X0_init_39 {Q : HS → Prop} {E Lm : List Nat} {S0 : HS} {v0 a : Nat} {F : List (Nat × Nat × Nat)} {f : Nat → Int32} (hvL : v0 ∈ Lm) (hEL : ∀ x, x ∈ E → x ∈ Lm) {r : Nat → Option Nat} (hQ : ∀ S, CS S0 E Lm S v0 0 F f → fR S v0 = r → P_X0_init_69 Q v0 (0 : Int32) 36 155 S) : ∀ (d c : Nat), c + d = 16 → ∀ (S : HS), FS S0 E Lm S v0 0 F f a 16 5 16 c → fR S v0 = r → ∀ (kk nn : Nat), kk = 4 + 2 * c → nn = 27 + 8 * c → ∀ X : Nat → Int32 → Nat → Nat → HS → Prop, (∀ (v0 : Nat) (v1 : Int32) (kk nn : Nat) (S : HS), B_X0_init_39 Q X v0 v1 kk nn S → X v0 v1 kk nn S) → X v0 (nI c) kk nn S := by
  intro d
  induction d with
  | zero =>
    intro c hc S fs hr kk nn hk hn X hX
    have hc' : c = 16 := by omega
    subst hc'
    subst hk
    subst hn
    refine hX v0 _ _ _ S ⟨cs_ob fs.1, a, fs.2.2.2.2.2.2.1, ⟨fs.1.2.2.1 a List.mem_cons_self, fs.2.2.2.2.1⟩, fun _ => ?_, fun hn => absurd ?_ hn⟩
    · exact hQ S (fs_end fs (by omega) hvL hEL) hr
    · rw [fs.2.2.2.2.2.1]
      exact nI_le (by omega) (by omega)
  | succ d ih =>
    intro c hc S fs hr kk nn hk hn X hX
    refine hX v0 _ _ _ S ⟨cs_ob fs.1, a, fs.2.2.2.2.2.2.1, ⟨fs.1.2.2.1 a List.mem_cons_self, fs.2.2.2.2.1⟩, fun hn => absurd hn ?_, fun _ => ⟨a, fs.2.2.2.2.2.2.1, ?_, ?_, fun w hw T eT => ⟨?_, ?_, m_X2_init (cn_of fs.1.1 fs.1.2.1 fs.1.2.2.1 hw eT (by omega)) (fun T2 r _ => ?_)⟩⟩⟩
    · rw [fs.2.2.2.2.2.1]
      exact nI_ge (by omega) (by omega)
    · show kk + 1 ≤ 42
      omega
    · show nn + 3 ≤ 179
      omega
    · show kk + 1 + 1 ≤ 42
      omega
    · show nn + 3 + 5 ≤ 179
      omega
    · have ya := r.2.2.1 a ((xp_new (v := 0) hw eT a (fs.1.2.2.1 a List.mem_cons_self)).1)
      have yk := (xp_new (v := 0) hw eT a (fs.1.2.2.1 a List.mem_cons_self))
      refine ⟨⟨ya.1, (ya.2.1.trans yk.2.1).trans fs.2.2.2.2.1⟩, ?_, fun U eU x ex => ?_⟩
      · rw [(ya.2.2.1.trans yk.2.2.1).trans fs.2.2.2.2.2.1]
        exact nI_in (by omega) (by omega)
      · rw [nI_clamp (by omega)] at eU
        have fs2 := fs_step fs (by omega) hw eT r eU
        rw [ex, nI_1 c]
        exact ih (c + 1) (by omega) U fs2 ((fs_fr fs hw eT r eU).trans hr) _ _ (by omega) (by omega) X hX
set_option maxRecDepth 20000 in
theorem m_X0_init {v0 : Nat} {E : List Nat} {Q : HS → Prop} {S : HS} (h : CN 0 v0 E S) (hq : ∀ T, CR 0 v0 E S T → Q T) : P_X0_init v0 Q S := by
  show P_X0_init_0 Q v0 0 0 S
  unfold P_X0_init_0
  have c0 := cs_0 h
  have ov := cn_ob h
  refine ⟨ov, ?_⟩
  intro V0 i0
  have c0 := cs_I c0 i0
  refine ⟨by decide, by decide, ?_⟩
  intro a0 q0 T0 e0
  refine ⟨by decide, by decide, m_X2_init (cn_of c0.1 c0.2.1 c0.2.2.1 q0 e0 (by omega)) (fun W0 w0 _ => ?_)⟩
  intro U0 g0
  have c1 := cs_obj c0 q0 e0 w0 g0 (by decide)
  refine ⟨by decide, by decide, ?_⟩
  intro a1 q1 T1 e1
  intro U1 g1
  have r1 := cs_ref c1 q1 e1 g1 (by omega) (by decide)
  have c2 := r1.1
  refine ⟨by decide, by decide, ?_⟩
  intro a2 q2 T2 e2
  intro U2 g2
  have r2 := cs_ref c2 q2 e2 g2 (by omega) (by decide)
  have c3 := r2.1
  have hq' : ∀ S', CS S E (v0 :: E) S' v0 0 [(6, 16, 3), (5, 16, 16), (4, 2, 0)] (upd (fun _ => 0) 0 (-1)) → 42 ≤ rm_X0_init.cells ∧ 179 ≤ rm_X0_init.slots ∧ Q S' := fun S' c => ⟨by decide, by decide, hq S' (cs_end c (by omega) (by decide) (by decide) (fun z => absurd z (by omega)))⟩
  have k5 : fR U2 v0 5 = some a1 := (st_keep q2 e2 g2 (c2.2.2.1 v0 c2.2.2.2.1) (by decide : 5 ≠ 6) r1.2.2.2.2.2.2)
  have k6 : fR U2 v0 6 = some a2 := r2.2.2.2.2.2.2
  have x1 := r1.2.1
  have x2 := r2.2.1
  have d0 := cs_perm (L2 := a1 :: a2 :: v0 :: E) c3 (fun x => by simp only [List.mem_cons]; exact ⟨fun z => by rcases z with z | z | z | z <;> simp [z], fun z => by rcases z with z | z | z | z <;> simp [z]⟩)
  simp only [List.mem_cons, not_or] at x1 x2
  have n1 : a1 ∉ a2 :: v0 :: E := by simp only [List.mem_cons, not_or]; exact ⟨Ne.symm x2.1, x1.1, x1.2⟩
  have n2 : a2 ∉ v0 :: E := by simp only [List.mem_cons, not_or]; exact ⟨x2.2.1, x2.2.2⟩
  refine lp_X0_init_39 (a := a1) (Lm := a2 :: v0 :: E) (r := fR U2 v0) (by simp) (fun x hx => by simp [hx]) (fun S1 s1 t1 => ?_) 16 0 rfl U2 (fs_of d0 (by decide) k5 n1 r1.2.2.1) rfl 4 27 rfl rfl
  exact lp_X0_init_69 (a := a2) (Lm := v0 :: E) (r := fR U2 v0) (by simp) (fun x hx => by simp [hx]) (fun S3 s3 _ => hq' S3 s3) 3 0 rfl S1 (fs_of s1 (by decide) (by rw [t1]; exact k6) n2 r2.2.2.1) t1 36 155 rfl rfl
set_option maxRecDepth 20000 in
theorem m_X4_init {v0 : Nat} {E : List Nat} {Q : HS → Prop} {S : HS} (h : CN 4 v0 E S) (hq : ∀ T, CR 4 v0 E S T → Q T) : P_X4_init v0 Q S := by
  show P_X4_init_0 Q v0 S
  unfold P_X4_init_0
  have c0 := cs_0 h
  have ov := cn_ob h
  intro a0 q0 T0 e0
  refine ⟨gr_ob (gr_of_new e0 q0) ov, ?_⟩
  intro U0 g0
  have c1 := cs_arr c0 q0 e0 g0 (by omega) (by decide)
  intro a1 q1 T1 e1
  refine m_X8_init (cn_of c1.1 c1.2.1 c1.2.2.1 q1 e1 (by omega)) (fun W1 w1 _ => ?_)
  intro U1 g1
  have c2 := cs_obj c1 q1 e1 w1 g1 (by decide)
  intro a2 q2 T2 e2
  intro U2 g2
  have c3 := cs_arr c2 q2 e2 g2 (by omega) (by decide)
  intro a3 q3 T3 e3
  intro U3 g3
  have c4 := cs_arr c3 q3 e3 g3 (by omega) (by decide)
  exact hq _ (cs_end c4 (by omega) (by decide) (by decide) (fun z => absurd z (by omega)))
set_option maxRecDepth 20000 in
theorem m_X9_init {v0 : Nat} {E : List Nat} {Q : HS → Prop} {S : HS} (h : CN 9 v0 E S) (hq : ∀ T, CR 9 v0 E S T → (fI T v0 = fun _ => 0) → Q T) : P_X9_init v0 Q S := by
  show P_X9_init_0 Q v0 S
  unfold P_X9_init_0
  have c0 := cs_0 h
  have ov := cn_ob h
  intro a0 q0 T0 e0
  refine ⟨gr_ob (gr_of_new e0 q0) ov, ?_⟩
  intro U0 g0
  have c1 := cs_arr c0 q0 e0 g0 (by omega) (by decide)
  intro a1 q1 T1 e1
  refine m_X8_init (cn_of c1.1 c1.2.1 c1.2.2.1 q1 e1 (by omega)) (fun W1 w1 _ => ?_)
  intro U1 g1
  have c2 := cs_obj c1 q1 e1 w1 g1 (by decide)
  intro a2 q2 T2 e2
  refine m_X4_init (cn_of c2.1 c2.2.1 c2.2.2.1 q2 e2 (by omega)) (fun W2 w2 _ => ?_)
  intro U2 g2
  have c3 := cs_obj c2 q2 e2 w2 g2 (by decide)
  intro a3 q3 T3 e3
  refine m_X1_init (cn_of c3.1 c3.2.1 c3.2.2.1 q3 e3 (by omega)) (fun W3 w3 _ => ?_)
  intro U3 g3
  have c4 := cs_obj c3 q3 e3 w3 g3 (by decide)
  intro a4 q4 T4 e4
  refine m_X7_init (cn_of c4.1 c4.2.1 c4.2.2.1 q4 e4 (by omega)) (fun W4 w4 _ => ?_)
  intro U4 g4
  have c5 := cs_obj c4 q4 e4 w4 g4 (by decide)
  intro a5 q5 T5 e5
  refine m_X0_init (cn_of c5.1 c5.2.1 c5.2.2.1 q5 e5 (by omega)) (fun W5 w5 _ => ?_)
  intro U5 g5
  have c6 := cs_obj c5 q5 e5 w5 g5 (by decide)
  exact hq _ (cs_end c6 (by omega) (by decide) (by decide) (fun z => absurd z (by omega))) c6.2.2.2.2.2.2.2.2.2.2
/-- the first pool -/
def S00 : HS := ([], fun _ => 0, fun _ => 0, fun _ _ => 0, fun _ _ => 0, fun _ _ => none)
theorem iv_00 : IV S00 := ⟨fun _ _ _ o => absurd o.1 (by simp [S00, hL]), fun _ _ _ _ o => absurd o.1 (by simp [S00, hL]), fun _ o => absurd o.1 (by simp [S00, hL]), fun _ _ _ o => absurd o.1 (by simp [S00, hL]), fun _ _ _ _ _ _ _ o => absurd o.1 (by simp [S00, hL]), fun _ _ _ _ o => absurd o.1 (by simp [S00, hL]), fun _ o => absurd o.1 (by simp [S00, hL])⟩
theorem m_X9_new {v0 : Nat} {Q : HS → Prop} {S : HS} (E1 : S = nW S00 v0 9 0) (hq : ∀ T, IV T → ob T v0 9 → Gr S T → fI T v0 1 = 0 → Q T) : P_X9_init v0 Q S := by
  have hb : v0 ∉ hL S00 := by simp [S00, hL]
  refine m_X9_init (E := []) (cn_of (by rw [ms_nil]; exact iv_00) (fun a ha => absurd ha (by simp [S00, hL])) (fun x hx => absurd hx (by simp)) hb E1 (by omega)) (fun T r hf => ?_)
  have h1 := r.1
  rw [ms_nil] at h1
  have o := ob_of_new E1
  exact hq T h1 ⟨(r.2.2.1 v0 o.1).1, r.2.2.2⟩ (xp_gr r.2.2.1) (by rw [hf])
end
section
set_option maxRecDepth 20000 in
set_option maxHeartbeats 1000000 in
theorem cm_X0_end_0 {Q1 Q2 Q3 : HS → Prop} {v0 : Nat} {S : HS} (h1 : P_X0_end_0 Q1 v0 S) (h2 : P_X0_end_0 Q2 v0 S) (hq : ∀ (T : HS), Q1 T → Q2 T → Q3 T) : P_X0_end_0 Q3 v0 S := by
  delta P_X0_end_0 at h1 h2 ⊢
  obtain ⟨c1, h1⟩ := h1
  obtain ⟨_, h2⟩ := h2
  refine ⟨c1, ?_⟩
  intro x3 e2
  have h1 := h1 x3 e2
  have h2 := h2 x3 e2
  intro x5 e4
  have h1 := h1 x5 e4
  have h2 := h2 x5 e4
  intro x7 e6
  have h1 := h1 x7 e6
  have h2 := h2 x7 e6
  exact hq _ h1 h2
theorem cm_X0_end {Q1 Q2 Q3 : HS → Prop} {v0 : Nat} {S : HS} (h1 : P_X0_end v0 Q1 S) (h2 : P_X0_end v0 Q2 S) (hq : ∀ (T : HS), Q1 T → Q2 T → Q3 T) : P_X0_end v0 Q3 S := cm_X0_end_0 h1 h2 hq
set_option maxRecDepth 20000 in
set_option maxHeartbeats 1000000 in
theorem cmB_X0_begin_28 {Q1 Q2 Q3 : HS → Prop} {X28_1 X28_2 X28_3 : Nat → Int32 → HS → Prop} {v0 : Nat} {v4 : Int32} {S : HS} (h1 : B_X0_begin_28 Q1 X28_1 v0 v4 S) (h2 : B_X0_begin_28 Q2 X28_2 v0 v4 S) (hq : ∀ (T : HS), Q1 T → Q2 T → Q3 T) (hX28 : ∀ (u0 : Nat) (u1 : Int32) (u2 : HS), X28_1 u0 u1 u2 → X28_2 u0 u1 u2 → X28_3 u0 u1 u2) : B_X0_begin_28 Q3 X28_3 v0 v4 S := by
  delta B_X0_begin_28 at h1 h2 ⊢
  refine ⟨?_, ?_⟩
  · intro c1
    have h1 := h1.1 c1
    have h2 := h2.1 c1
    exact hq _ h1 h2
  · intro c2
    have h1 := h1.2 c2
    have h2 := h2.2 c2
    obtain ⟨c3, h1⟩ := h1
    obtain ⟨_, h2⟩ := h2
    refine ⟨c3, ?_⟩
    obtain ⟨b4, e5, h1⟩ := h1
    obtain ⟨b6, e7, h2⟩ := h2
    cases e5.symm.trans e7
    refine ⟨b4, e5, ?_⟩
    obtain ⟨c8, h1⟩ := h1
    obtain ⟨_, h2⟩ := h2
    refine ⟨c8, ?_⟩
    obtain ⟨b9, e10, h1⟩ := h1
    obtain ⟨b11, e12, h2⟩ := h2
    cases e10.symm.trans e12
    refine ⟨b9, e10, ?_⟩
    obtain ⟨c13, h1⟩ := h1
    obtain ⟨_, h2⟩ := h2
    refine ⟨c13, ?_⟩
    obtain ⟨c14, h1⟩ := h1
    obtain ⟨_, h2⟩ := h2
    refine ⟨c14, ?_⟩
    intro x16 e15
    have h1 := h1 x16 e15
    have h2 := h2 x16 e15
    intro x18 e17
    have h1 := h1 x18 e17
    have h2 := h2 x18 e17
    exact hX28 _ _ _ h1 h2
theorem fd_X0_begin_28 {Q : HS → Prop} {v0 : Nat} {v4 : Int32} {S : HS} (h : B_X0_begin_28 Q (P_X0_begin_28 Q) v0 v4 S) : P_X0_begin_28 Q v0 v4 S := fun X hX => hX v0 v4 S (cmB_X0_begin_28 h h (fun _ a _ => a) (fun _ _ _ hp _ => hp X hX))
theorem uf_X0_begin_28 {Q : HS → Prop} {v0 : Nat} {v4 : Int32} {S : HS} (h : P_X0_begin_28 Q v0 v4 S) : B_X0_begin_28 Q (P_X0_begin_28 Q) v0 v4 S := h (fun v0 v4 S => B_X0_begin_28 Q (P_X0_begin_28 Q) v0 v4 S) (fun v0 v4 S hB => cmB_X0_begin_28 hB hB (fun _ a _ => a) (fun _ _ _ hb _ => fd_X0_begin_28 hb))
theorem cm_X0_begin_28 {Q1 Q2 Q3 : HS → Prop} {v0 : Nat} {v4 : Int32} {S : HS} (h1 : P_X0_begin_28 Q1 v0 v4 S) (h2 : P_X0_begin_28 Q2 v0 v4 S) (hq : ∀ (T : HS), Q1 T → Q2 T → Q3 T) : P_X0_begin_28 Q3 v0 v4 S := h1 (fun v0 v4 S => P_X0_begin_28 Q2 v0 v4 S → P_X0_begin_28 Q3 v0 v4 S) (fun v0 v4 S hB hp => fd_X0_begin_28 (cmB_X0_begin_28 hB (uf_X0_begin_28 hp) hq (fun _ _ _ hx hp => hx hp))) h2
set_option maxRecDepth 20000 in
set_option maxHeartbeats 1000000 in
theorem cm_X0_begin_0 {Q1 Q2 Q3 : HS → Prop} {v0 : Nat} {v1 : Int32} {v2 : Int32} {v3 : Int32} {S : HS} (h1 : P_X0_begin_0 Q1 v0 v1 v2 v3 S) (h2 : P_X0_begin_0 Q2 v0 v1 v2 v3 S) (hq : ∀ (T : HS), Q1 T → Q2 T → Q3 T) : P_X0_begin_0 Q3 v0 v1 v2 v3 S := by
  delta P_X0_begin_0 at h1 h2 ⊢
  obtain ⟨c1, h1⟩ := h1
  obtain ⟨_, h2⟩ := h2
  refine ⟨c1, ?_⟩
  refine cm_X0_end h1 h2 (fun x2 h1 h2 g3 => ?_)
  have h1 := h1 g3
  have h2 := h2 g3
  intro x5 e4
  have h1 := h1 x5 e4
  have h2 := h2 x5 e4
  obtain ⟨b6, e7, h1⟩ := h1
  obtain ⟨b8, e9, h2⟩ := h2
  cases e7.symm.trans e9
  refine ⟨b6, e7, ?_⟩
  obtain ⟨c10, h1⟩ := h1
  obtain ⟨_, h2⟩ := h2
  refine ⟨c10, ?_⟩
  intro x12 e11
  have h1 := h1 x12 e11
  have h2 := h2 x12 e11
  obtain ⟨b13, e14, h1⟩ := h1
  obtain ⟨b15, e16, h2⟩ := h2
  cases e14.symm.trans e16
  refine ⟨b13, e14, ?_⟩
  obtain ⟨c17, h1⟩ := h1
  obtain ⟨_, h2⟩ := h2
  refine ⟨c17, ?_⟩
  intro x19 e18
  have h1 := h1 x19 e18
  have h2 := h2 x19 e18
  exact cm_X0_begin_28 h1 h2 hq
theorem cm_X0_begin {Q1 Q2 Q3 : HS → Prop} {v0 : Nat} {v1 : Int32} {v2 : Int32} {v3 : Int32} {S : HS} (h1 : P_X0_begin v0 v1 v2 v3 Q1 S) (h2 : P_X0_begin v0 v1 v2 v3 Q2 S) (hq : ∀ (T : HS), Q1 T → Q2 T → Q3 T) : P_X0_begin v0 v1 v2 v3 Q3 S := cm_X0_begin_0 h1 h2 hq
set_option maxRecDepth 20000 in
set_option maxHeartbeats 1000000 in
theorem cm_X0_draw_60 {Q1 Q2 Q3 : HS → Prop} {X10_1 X10_2 X10_3 : Nat → Nat → Int32 → Int32 → HS → Prop} {v0 : Nat} {v1 : Nat} {v3 : Int32} {v4 : Int32} {S : HS} (h1 : P_X0_draw_60 Q1 X10_1 v0 v1 v3 v4 S) (h2 : P_X0_draw_60 Q2 X10_2 v0 v1 v3 v4 S) (hq : ∀ (T : HS), Q1 T → Q2 T → Q3 T) (hX10 : ∀ (u0 : Nat) (u1 : Nat) (u2 : Int32) (u3 : Int32) (u4 : HS), X10_1 u0 u1 u2 u3 u4 → X10_2 u0 u1 u2 u3 u4 → X10_3 u0 u1 u2 u3 u4) : P_X0_draw_60 Q3 X10_3 v0 v1 v3 v4 S := by
  delta P_X0_draw_60 at h1 h2 ⊢
  intro x2 e1
  have h1 := h1 x2 e1
  have h2 := h2 x2 e1
  exact hX10 _ _ _ _ _ h1 h2
set_option maxRecDepth 20000 in
set_option maxHeartbeats 1000000 in
theorem cmB_X0_draw_10 {Q1 Q2 Q3 : HS → Prop} {X10_1 X10_2 X10_3 : Nat → Nat → Int32 → Int32 → HS → Prop} {v0 : Nat} {v1 : Nat} {v3 : Int32} {v4 : Int32} {S : HS} (h1 : B_X0_draw_10 Q1 X10_1 v0 v1 v3 v4 S) (h2 : B_X0_draw_10 Q2 X10_2 v0 v1 v3 v4 S) (hq : ∀ (T : HS), Q1 T → Q2 T → Q3 T) (hX10 : ∀ (u0 : Nat) (u1 : Nat) (u2 : Int32) (u3 : Int32) (u4 : HS), X10_1 u0 u1 u2 u3 u4 → X10_2 u0 u1 u2 u3 u4 → X10_3 u0 u1 u2 u3 u4) : B_X0_draw_10 Q3 X10_3 v0 v1 v3 v4 S := by
  delta B_X0_draw_10 at h1 h2 ⊢
  obtain ⟨c1, h1⟩ := h1
  obtain ⟨_, h2⟩ := h2
  refine ⟨c1, ?_⟩
  intro x3 e2
  have h1 := h1 x3 e2
  have h2 := h2 x3 e2
  refine ⟨?_, ?_⟩
  · intro c4
    have h1 := h1.1 c4
    have h2 := h2.1 c4
    exact hq _ h1 h2
  · intro c5
    have h1 := h1.2 c5
    have h2 := h2.2 c5
    intro x7 e6
    have h1 := h1 x7 e6
    have h2 := h2 x7 e6
    intro x9 e8
    have h1 := h1 x9 e8
    have h2 := h2 x9 e8
    obtain ⟨b10, e11, h1⟩ := h1
    obtain ⟨b12, e13, h2⟩ := h2
    cases e11.symm.trans e13
    refine ⟨b10, e11, ?_⟩
    obtain ⟨c14, h1⟩ := h1
    obtain ⟨_, h2⟩ := h2
    refine ⟨c14, ?_⟩
    obtain ⟨c15, h1⟩ := h1
    obtain ⟨_, h2⟩ := h2
    refine ⟨c15, ?_⟩
    obtain ⟨b16, e17, h1⟩ := h1
    obtain ⟨b18, e19, h2⟩ := h2
    cases e17.symm.trans e19
    refine ⟨b16, e17, ?_⟩
    obtain ⟨c20, h1⟩ := h1
    obtain ⟨_, h2⟩ := h2
    refine ⟨c20, ?_⟩
    intro x22 e21
    have h1 := h1 x22 e21
    have h2 := h2 x22 e21
    refine ⟨?_, ?_⟩
    · intro c23
      have h1 := h1.1 c23
      have h2 := h2.1 c23
      exact cm_X0_draw_60 h1 h2 hq hX10
    · intro c24
      have h1 := h1.2 c24
      have h2 := h2.2 c24
      obtain ⟨c25, h1⟩ := h1
      obtain ⟨_, h2⟩ := h2
      refine ⟨c25, ?_⟩
      intro x27 e26
      have h1 := h1 x27 e26
      have h2 := h2 x27 e26
      intro x29 e28
      have h1 := h1 x29 e28
      have h2 := h2 x29 e28
      intro x31 e30
      have h1 := h1 x31 e30
      have h2 := h2 x31 e30
      exact cm_X0_draw_60 h1 h2 hq hX10
theorem fd_X0_draw_10 {Q : HS → Prop} {v0 : Nat} {v1 : Nat} {v3 : Int32} {v4 : Int32} {S : HS} (h : B_X0_draw_10 Q (P_X0_draw_10 Q) v0 v1 v3 v4 S) : P_X0_draw_10 Q v0 v1 v3 v4 S := fun X hX => hX v0 v1 v3 v4 S (cmB_X0_draw_10 h h (fun _ a _ => a) (fun _ _ _ _ _ hp _ => hp X hX))
theorem uf_X0_draw_10 {Q : HS → Prop} {v0 : Nat} {v1 : Nat} {v3 : Int32} {v4 : Int32} {S : HS} (h : P_X0_draw_10 Q v0 v1 v3 v4 S) : B_X0_draw_10 Q (P_X0_draw_10 Q) v0 v1 v3 v4 S := h (fun v0 v1 v3 v4 S => B_X0_draw_10 Q (P_X0_draw_10 Q) v0 v1 v3 v4 S) (fun v0 v1 v3 v4 S hB => cmB_X0_draw_10 hB hB (fun _ a _ => a) (fun _ _ _ _ _ hb _ => fd_X0_draw_10 hb))
theorem cm_X0_draw_10 {Q1 Q2 Q3 : HS → Prop} {v0 : Nat} {v1 : Nat} {v3 : Int32} {v4 : Int32} {S : HS} (h1 : P_X0_draw_10 Q1 v0 v1 v3 v4 S) (h2 : P_X0_draw_10 Q2 v0 v1 v3 v4 S) (hq : ∀ (T : HS), Q1 T → Q2 T → Q3 T) : P_X0_draw_10 Q3 v0 v1 v3 v4 S := h1 (fun v0 v1 v3 v4 S => P_X0_draw_10 Q2 v0 v1 v3 v4 S → P_X0_draw_10 Q3 v0 v1 v3 v4 S) (fun v0 v1 v3 v4 S hB hp => fd_X0_draw_10 (cmB_X0_draw_10 hB (uf_X0_draw_10 hp) hq (fun _ _ _ _ _ hx hp => hx hp))) h2
set_option maxRecDepth 20000 in
set_option maxHeartbeats 1000000 in
theorem cm_X0_draw_0 {Q1 Q2 Q3 : HS → Prop} {v0 : Nat} {v1 : Nat} {v2 : Int32} {S : HS} (h1 : P_X0_draw_0 Q1 v0 v1 v2 S) (h2 : P_X0_draw_0 Q2 v0 v1 v2 S) (hq : ∀ (T : HS), Q1 T → Q2 T → Q3 T) : P_X0_draw_0 Q3 v0 v1 v2 S := by
  delta P_X0_draw_0 at h1 h2 ⊢
  obtain ⟨c1, h1⟩ := h1
  obtain ⟨_, h2⟩ := h2
  refine ⟨c1, ?_⟩
  intro x3 e2
  have h1 := h1 x3 e2
  have h2 := h2 x3 e2
  exact cm_X0_draw_10 h1 h2 hq
theorem cm_X0_draw {Q1 Q2 Q3 : HS → Prop} {v0 : Nat} {v1 : Nat} {v2 : Int32} {S : HS} (h1 : P_X0_draw v0 v1 v2 Q1 S) (h2 : P_X0_draw v0 v1 v2 Q2 S) (hq : ∀ (T : HS), Q1 T → Q2 T → Q3 T) : P_X0_draw v0 v1 v2 Q3 S := cm_X0_draw_0 h1 h2 hq
set_option maxRecDepth 20000 in
set_option maxHeartbeats 1000000 in
theorem cm_X2_init_0 {Q1 Q2 Q3 : HS → Prop} {v0 : Nat} {S : HS} (h1 : P_X2_init_0 Q1 v0 S) (h2 : P_X2_init_0 Q2 v0 S) (hq : ∀ (T : HS), Q1 T → Q2 T → Q3 T) : P_X2_init_0 Q3 v0 S := by
  delta P_X2_init_0 at h1 h2 ⊢
  intro x2 e1
  have h1 := h1 x2 e1
  have h2 := h2 x2 e1
  intro x4 e3
  have h1 := h1 x4 e3
  have h2 := h2 x4 e3
  obtain ⟨c5, h1⟩ := h1
  obtain ⟨_, h2⟩ := h2
  refine ⟨c5, ?_⟩
  intro x7 e6
  have h1 := h1 x7 e6
  have h2 := h2 x7 e6
  exact hq _ h1 h2
theorem cm_X2_init {Q1 Q2 Q3 : HS → Prop} {v0 : Nat} {S : HS} (h1 : P_X2_init v0 Q1 S) (h2 : P_X2_init v0 Q2 S) (hq : ∀ (T : HS), Q1 T → Q2 T → Q3 T) : P_X2_init v0 Q3 S := cm_X2_init_0 h1 h2 hq
set_option maxRecDepth 20000 in
set_option maxHeartbeats 1000000 in
theorem cmB_X0_init_69 {Q1 Q2 Q3 : HS → Prop} {X69_1 X69_2 X69_3 : Nat → Int32 → Nat → Nat → HS → Prop} {v0 : Nat} {v1 : Int32} {kk : Nat} {nn : Nat} {S : HS} (h1 : B_X0_init_69 Q1 X69_1 v0 v1 kk nn S) (h2 : B_X0_init_69 Q2 X69_2 v0 v1 kk nn S) (hq : ∀ (T : HS), Q1 T → Q2 T → Q3 T) (hX69 : ∀ (u0 : Nat) (u1 : Int32) (u2 : Nat) (u3 : Nat) (u4 : HS), X69_1 u0 u1 u2 u3 u4 → X69_2 u0 u1 u2 u3 u4 → X69_3 u0 u1 u2 u3 u4) : B_X0_init_69 Q3 X69_3 v0 v1 kk nn S := by
  delta B_X0_init_69 at h1 h2 ⊢
  obtain ⟨c1, h1⟩ := h1
  obtain ⟨_, h2⟩ := h2
  refine ⟨c1, ?_⟩
  obtain ⟨b2, e3, h1⟩ := h1
  obtain ⟨b4, e5, h2⟩ := h2
  cases e3.symm.trans e5
  refine ⟨b2, e3, ?_⟩
  obtain ⟨c6, h1⟩ := h1
  obtain ⟨_, h2⟩ := h2
  refine ⟨c6, ?_⟩
  refine ⟨?_, ?_⟩
  · intro c7
    have h1 := h1.1 c7
    have h2 := h2.1 c7
    obtain ⟨c8, h1⟩ := h1
    obtain ⟨_, h2⟩ := h2
    refine ⟨c8, ?_⟩
    obtain ⟨c9, h1⟩ := h1
    obtain ⟨_, h2⟩ := h2
    refine ⟨c9, ?_⟩
    exact hq _ h1 h2
  · intro c10
    have h1 := h1.2 c10
    have h2 := h2.2 c10
    obtain ⟨b11, e12, h1⟩ := h1
    obtain ⟨b13, e14, h2⟩ := h2
    cases e12.symm.trans e14
    refine ⟨b11, e12, ?_⟩
    obtain ⟨c15, h1⟩ := h1
    obtain ⟨_, h2⟩ := h2
    refine ⟨c15, ?_⟩
    obtain ⟨c16, h1⟩ := h1
    obtain ⟨_, h2⟩ := h2
    refine ⟨c16, ?_⟩
    intro x18 e17
    have h1 := h1 x18 e17
    have h2 := h2 x18 e17
    intro x20 e19
    have h1 := h1 x20 e19
    have h2 := h2 x20 e19
    obtain ⟨c21, h1⟩ := h1
    obtain ⟨_, h2⟩ := h2
    refine ⟨c21, ?_⟩
    obtain ⟨c22, h1⟩ := h1
    obtain ⟨_, h2⟩ := h2
    refine ⟨c22, ?_⟩
    refine cm_X2_init h1 h2 (fun x23 h1 h2 g24 => ?_)
    have h1 := h1 g24
    have h2 := h2 g24
    obtain ⟨c25, h1⟩ := h1
    obtain ⟨_, h2⟩ := h2
    refine ⟨c25, ?_⟩
    obtain ⟨c26, h1⟩ := h1
    obtain ⟨_, h2⟩ := h2
    refine ⟨c26, ?_⟩
    intro x28 e27
    have h1 := h1 x28 e27
    have h2 := h2 x28 e27
    intro x30 e29
    have h1 := h1 x30 e29
    have h2 := h2 x30 e29
    exact hX69 _ _ _ _ _ h1 h2
theorem fd_X0_init_69 {Q : HS → Prop} {v0 : Nat} {v1 : Int32} {kk : Nat} {nn : Nat} {S : HS} (h : B_X0_init_69 Q (P_X0_init_69 Q) v0 v1 kk nn S) : P_X0_init_69 Q v0 v1 kk nn S := fun X hX => hX v0 v1 kk nn S (cmB_X0_init_69 h h (fun _ a _ => a) (fun _ _ _ _ _ hp _ => hp X hX))
theorem uf_X0_init_69 {Q : HS → Prop} {v0 : Nat} {v1 : Int32} {kk : Nat} {nn : Nat} {S : HS} (h : P_X0_init_69 Q v0 v1 kk nn S) : B_X0_init_69 Q (P_X0_init_69 Q) v0 v1 kk nn S := h (fun v0 v1 kk nn S => B_X0_init_69 Q (P_X0_init_69 Q) v0 v1 kk nn S) (fun v0 v1 kk nn S hB => cmB_X0_init_69 hB hB (fun _ a _ => a) (fun _ _ _ _ _ hb _ => fd_X0_init_69 hb))
theorem cm_X0_init_69 {Q1 Q2 Q3 : HS → Prop} {v0 : Nat} {v1 : Int32} {kk : Nat} {nn : Nat} {S : HS} (h1 : P_X0_init_69 Q1 v0 v1 kk nn S) (h2 : P_X0_init_69 Q2 v0 v1 kk nn S) (hq : ∀ (T : HS), Q1 T → Q2 T → Q3 T) : P_X0_init_69 Q3 v0 v1 kk nn S := h1 (fun v0 v1 kk nn S => P_X0_init_69 Q2 v0 v1 kk nn S → P_X0_init_69 Q3 v0 v1 kk nn S) (fun v0 v1 kk nn S hB hp => fd_X0_init_69 (cmB_X0_init_69 hB (uf_X0_init_69 hp) hq (fun _ _ _ _ _ hx hp => hx hp))) h2
set_option maxRecDepth 20000 in
set_option maxHeartbeats 1000000 in
theorem cmB_X0_init_39 {Q1 Q2 Q3 : HS → Prop} {X39_1 X39_2 X39_3 : Nat → Int32 → Nat → Nat → HS → Prop} {v0 : Nat} {v1 : Int32} {kk : Nat} {nn : Nat} {S : HS} (h1 : B_X0_init_39 Q1 X39_1 v0 v1 kk nn S) (h2 : B_X0_init_39 Q2 X39_2 v0 v1 kk nn S) (hq : ∀ (T : HS), Q1 T → Q2 T → Q3 T) (hX39 : ∀ (u0 : Nat) (u1 : Int32) (u2 : Nat) (u3 : Nat) (u4 : HS), X39_1 u0 u1 u2 u3 u4 → X39_2 u0 u1 u2 u3 u4 → X39_3 u0 u1 u2 u3 u4) : B_X0_init_39 Q3 X39_3 v0 v1 kk nn S := by
  delta B_X0_init_39 at h1 h2 ⊢
  obtain ⟨c1, h1⟩ := h1
  obtain ⟨_, h2⟩ := h2
  refine ⟨c1, ?_⟩
  obtain ⟨b2, e3, h1⟩ := h1
  obtain ⟨b4, e5, h2⟩ := h2
  cases e3.symm.trans e5
  refine ⟨b2, e3, ?_⟩
  obtain ⟨c6, h1⟩ := h1
  obtain ⟨_, h2⟩ := h2
  refine ⟨c6, ?_⟩
  refine ⟨?_, ?_⟩
  · intro c7
    have h1 := h1.1 c7
    have h2 := h2.1 c7
    exact cm_X0_init_69 h1 h2 hq
  · intro c8
    have h1 := h1.2 c8
    have h2 := h2.2 c8
    obtain ⟨b9, e10, h1⟩ := h1
    obtain ⟨b11, e12, h2⟩ := h2
    cases e10.symm.trans e12
    refine ⟨b9, e10, ?_⟩
    obtain ⟨c13, h1⟩ := h1
    obtain ⟨_, h2⟩ := h2
    refine ⟨c13, ?_⟩
    obtain ⟨c14, h1⟩ := h1
    obtain ⟨_, h2⟩ := h2
    refine ⟨c14, ?_⟩
    intro x16 e15
    have h1 := h1 x16 e15
    have h2 := h2 x16 e15
    intro x18 e17
    have h1 := h1 x18 e17
    have h2 := h2 x18 e17
    obtain ⟨c19, h1⟩ := h1
    obtain ⟨_, h2⟩ := h2
    refine ⟨c19, ?_⟩
    obtain ⟨c20, h1⟩ := h1
    obtain ⟨_, h2⟩ := h2
    refine ⟨c20, ?_⟩
    refine cm_X2_init h1 h2 (fun x21 h1 h2 g22 => ?_)
    have h1 := h1 g22
    have h2 := h2 g22
    obtain ⟨c23, h1⟩ := h1
    obtain ⟨_, h2⟩ := h2
    refine ⟨c23, ?_⟩
    obtain ⟨c24, h1⟩ := h1
    obtain ⟨_, h2⟩ := h2
    refine ⟨c24, ?_⟩
    intro x26 e25
    have h1 := h1 x26 e25
    have h2 := h2 x26 e25
    intro x28 e27
    have h1 := h1 x28 e27
    have h2 := h2 x28 e27
    exact hX39 _ _ _ _ _ h1 h2
theorem fd_X0_init_39 {Q : HS → Prop} {v0 : Nat} {v1 : Int32} {kk : Nat} {nn : Nat} {S : HS} (h : B_X0_init_39 Q (P_X0_init_39 Q) v0 v1 kk nn S) : P_X0_init_39 Q v0 v1 kk nn S := fun X hX => hX v0 v1 kk nn S (cmB_X0_init_39 h h (fun _ a _ => a) (fun _ _ _ _ _ hp _ => hp X hX))
theorem uf_X0_init_39 {Q : HS → Prop} {v0 : Nat} {v1 : Int32} {kk : Nat} {nn : Nat} {S : HS} (h : P_X0_init_39 Q v0 v1 kk nn S) : B_X0_init_39 Q (P_X0_init_39 Q) v0 v1 kk nn S := h (fun v0 v1 kk nn S => B_X0_init_39 Q (P_X0_init_39 Q) v0 v1 kk nn S) (fun v0 v1 kk nn S hB => cmB_X0_init_39 hB hB (fun _ a _ => a) (fun _ _ _ _ _ hb _ => fd_X0_init_39 hb))
theorem cm_X0_init_39 {Q1 Q2 Q3 : HS → Prop} {v0 : Nat} {v1 : Int32} {kk : Nat} {nn : Nat} {S : HS} (h1 : P_X0_init_39 Q1 v0 v1 kk nn S) (h2 : P_X0_init_39 Q2 v0 v1 kk nn S) (hq : ∀ (T : HS), Q1 T → Q2 T → Q3 T) : P_X0_init_39 Q3 v0 v1 kk nn S := h1 (fun v0 v1 kk nn S => P_X0_init_39 Q2 v0 v1 kk nn S → P_X0_init_39 Q3 v0 v1 kk nn S) (fun v0 v1 kk nn S hB hp => fd_X0_init_39 (cmB_X0_init_39 hB (uf_X0_init_39 hp) hq (fun _ _ _ _ _ hx hp => hx hp))) h2
set_option maxRecDepth 20000 in
set_option maxHeartbeats 1000000 in
theorem cm_X0_init_0 {Q1 Q2 Q3 : HS → Prop} {v0 : Nat} {kk : Nat} {nn : Nat} {S : HS} (h1 : P_X0_init_0 Q1 v0 kk nn S) (h2 : P_X0_init_0 Q2 v0 kk nn S) (hq : ∀ (T : HS), Q1 T → Q2 T → Q3 T) : P_X0_init_0 Q3 v0 kk nn S := by
  delta P_X0_init_0 at h1 h2 ⊢
  obtain ⟨c1, h1⟩ := h1
  obtain ⟨_, h2⟩ := h2
  refine ⟨c1, ?_⟩
  intro x3 e2
  have h1 := h1 x3 e2
  have h2 := h2 x3 e2
  obtain ⟨c4, h1⟩ := h1
  obtain ⟨_, h2⟩ := h2
  refine ⟨c4, ?_⟩
  obtain ⟨c5, h1⟩ := h1
  obtain ⟨_, h2⟩ := h2
  refine ⟨c5, ?_⟩
  intro x7 e6
  have h1 := h1 x7 e6
  have h2 := h2 x7 e6
  intro x9 e8
  have h1 := h1 x9 e8
  have h2 := h2 x9 e8
  obtain ⟨c10, h1⟩ := h1
  obtain ⟨_, h2⟩ := h2
  refine ⟨c10, ?_⟩
  obtain ⟨c11, h1⟩ := h1
  obtain ⟨_, h2⟩ := h2
  refine ⟨c11, ?_⟩
  refine cm_X2_init h1 h2 (fun x12 h1 h2 g13 => ?_)
  have h1 := h1 g13
  have h2 := h2 g13
  intro x15 e14
  have h1 := h1 x15 e14
  have h2 := h2 x15 e14
  obtain ⟨c16, h1⟩ := h1
  obtain ⟨_, h2⟩ := h2
  refine ⟨c16, ?_⟩
  obtain ⟨c17, h1⟩ := h1
  obtain ⟨_, h2⟩ := h2
  refine ⟨c17, ?_⟩
  intro x19 e18
  have h1 := h1 x19 e18
  have h2 := h2 x19 e18
  intro x21 e20
  have h1 := h1 x21 e20
  have h2 := h2 x21 e20
  intro x23 e22
  have h1 := h1 x23 e22
  have h2 := h2 x23 e22
  obtain ⟨c24, h1⟩ := h1
  obtain ⟨_, h2⟩ := h2
  refine ⟨c24, ?_⟩
  obtain ⟨c25, h1⟩ := h1
  obtain ⟨_, h2⟩ := h2
  refine ⟨c25, ?_⟩
  intro x27 e26
  have h1 := h1 x27 e26
  have h2 := h2 x27 e26
  intro x29 e28
  have h1 := h1 x29 e28
  have h2 := h2 x29 e28
  intro x31 e30
  have h1 := h1 x31 e30
  have h2 := h2 x31 e30
  exact cm_X0_init_39 h1 h2 hq
theorem cm_X0_init {Q1 Q2 Q3 : HS → Prop} {v0 : Nat} {S : HS} (h1 : P_X0_init v0 Q1 S) (h2 : P_X0_init v0 Q2 S) (hq : ∀ (T : HS), Q1 T → Q2 T → Q3 T) : P_X0_init v0 Q3 S := cm_X0_init_0 h1 h2 hq
set_option maxRecDepth 20000 in
set_option maxHeartbeats 1000000 in
theorem cm_X0_isOn_0 {Q1 Q2 Q3 : Int32 → HS → Prop} {v0 : Nat} {S : HS} (h1 : P_X0_isOn_0 Q1 v0 S) (h2 : P_X0_isOn_0 Q2 v0 S) (hq : ∀ (r : Int32) (T : HS), Q1 r T → Q2 r T → Q3 r T) : P_X0_isOn_0 Q3 v0 S := by
  delta P_X0_isOn_0 at h1 h2 ⊢
  obtain ⟨c1, h1⟩ := h1
  obtain ⟨_, h2⟩ := h2
  refine ⟨c1, ?_⟩
  intro x3 e2
  have h1 := h1 x3 e2
  have h2 := h2 x3 e2
  refine ⟨?_, ?_⟩
  · intro c4
    have h1 := h1.1 c4
    have h2 := h2.1 c4
    exact hq _ _ h1 h2
  · intro c5
    have h1 := h1.2 c5
    have h2 := h2.2 c5
    exact hq _ _ h1 h2
theorem cm_X0_isOn {Q1 Q2 Q3 : Int32 → HS → Prop} {v0 : Nat} {S : HS} (h1 : P_X0_isOn v0 Q1 S) (h2 : P_X0_isOn v0 Q2 S) (hq : ∀ (r : Int32) (T : HS), Q1 r T → Q2 r T → Q3 r T) : P_X0_isOn v0 Q3 S := cm_X0_isOn_0 h1 h2 hq
set_option maxRecDepth 20000 in
set_option maxHeartbeats 1000000 in
theorem cmB_X2_copy_18 {Q1 Q2 Q3 : HS → Prop} {X18_1 X18_2 X18_3 : Nat → Nat → Int32 → HS → Prop} {v0 : Nat} {v1 : Nat} {v2 : Int32} {S : HS} (h1 : B_X2_copy_18 Q1 X18_1 v0 v1 v2 S) (h2 : B_X2_copy_18 Q2 X18_2 v0 v1 v2 S) (hq : ∀ (T : HS), Q1 T → Q2 T → Q3 T) (hX18 : ∀ (u0 : Nat) (u1 : Nat) (u2 : Int32) (u3 : HS), X18_1 u0 u1 u2 u3 → X18_2 u0 u1 u2 u3 → X18_3 u0 u1 u2 u3) : B_X2_copy_18 Q3 X18_3 v0 v1 v2 S := by
  delta B_X2_copy_18 at h1 h2 ⊢
  refine ⟨?_, ?_⟩
  · intro c1
    have h1 := h1.1 c1
    have h2 := h2.1 c1
    exact hq _ h1 h2
  · intro c2
    have h1 := h1.2 c2
    have h2 := h2.2 c2
    obtain ⟨c3, h1⟩ := h1
    obtain ⟨_, h2⟩ := h2
    refine ⟨c3, ?_⟩
    obtain ⟨b4, e5, h1⟩ := h1
    obtain ⟨b6, e7, h2⟩ := h2
    cases e5.symm.trans e7
    refine ⟨b4, e5, ?_⟩
    obtain ⟨c8, h1⟩ := h1
    obtain ⟨_, h2⟩ := h2
    refine ⟨c8, ?_⟩
    obtain ⟨b9, e10, h1⟩ := h1
    obtain ⟨b11, e12, h2⟩ := h2
    cases e10.symm.trans e12
    refine ⟨b9, e10, ?_⟩
    obtain ⟨c13, h1⟩ := h1
    obtain ⟨_, h2⟩ := h2
    refine ⟨c13, ?_⟩
    obtain ⟨c14, h1⟩ := h1
    obtain ⟨_, h2⟩ := h2
    refine ⟨c14, ?_⟩
    intro x16 e15
    have h1 := h1 x16 e15
    have h2 := h2 x16 e15
    obtain ⟨c17, h1⟩ := h1
    obtain ⟨_, h2⟩ := h2
    refine ⟨c17, ?_⟩
    obtain ⟨c18, h1⟩ := h1
    obtain ⟨_, h2⟩ := h2
    refine ⟨c18, ?_⟩
    intro x20 e19
    have h1 := h1 x20 e19
    have h2 := h2 x20 e19
    intro x22 e21
    have h1 := h1 x22 e21
    have h2 := h2 x22 e21
    exact hX18 _ _ _ _ h1 h2
theorem fd_X2_copy_18 {Q : HS → Prop} {v0 : Nat} {v1 : Nat} {v2 : Int32} {S : HS} (h : B_X2_copy_18 Q (P_X2_copy_18 Q) v0 v1 v2 S) : P_X2_copy_18 Q v0 v1 v2 S := fun X hX => hX v0 v1 v2 S (cmB_X2_copy_18 h h (fun _ a _ => a) (fun _ _ _ _ hp _ => hp X hX))
theorem uf_X2_copy_18 {Q : HS → Prop} {v0 : Nat} {v1 : Nat} {v2 : Int32} {S : HS} (h : P_X2_copy_18 Q v0 v1 v2 S) : B_X2_copy_18 Q (P_X2_copy_18 Q) v0 v1 v2 S := h (fun v0 v1 v2 S => B_X2_copy_18 Q (P_X2_copy_18 Q) v0 v1 v2 S) (fun v0 v1 v2 S hB => cmB_X2_copy_18 hB hB (fun _ a _ => a) (fun _ _ _ _ hb _ => fd_X2_copy_18 hb))
theorem cm_X2_copy_18 {Q1 Q2 Q3 : HS → Prop} {v0 : Nat} {v1 : Nat} {v2 : Int32} {S : HS} (h1 : P_X2_copy_18 Q1 v0 v1 v2 S) (h2 : P_X2_copy_18 Q2 v0 v1 v2 S) (hq : ∀ (T : HS), Q1 T → Q2 T → Q3 T) : P_X2_copy_18 Q3 v0 v1 v2 S := h1 (fun v0 v1 v2 S => P_X2_copy_18 Q2 v0 v1 v2 S → P_X2_copy_18 Q3 v0 v1 v2 S) (fun v0 v1 v2 S hB hp => fd_X2_copy_18 (cmB_X2_copy_18 hB (uf_X2_copy_18 hp) hq (fun _ _ _ _ hx hp => hx hp))) h2
set_option maxRecDepth 20000 in
set_option maxHeartbeats 1000000 in
theorem cm_X2_copy_0 {Q1 Q2 Q3 : HS → Prop} {v0 : Nat} {v1 : Nat} {S : HS} (h1 : P_X2_copy_0 Q1 v0 v1 S) (h2 : P_X2_copy_0 Q2 v0 v1 S) (hq : ∀ (T : HS), Q1 T → Q2 T → Q3 T) : P_X2_copy_0 Q3 v0 v1 S := by
  delta P_X2_copy_0 at h1 h2 ⊢
  obtain ⟨c1, h1⟩ := h1
  obtain ⟨_, h2⟩ := h2
  refine ⟨c1, ?_⟩
  intro x3 e2
  have h1 := h1 x3 e2
  have h2 := h2 x3 e2
  obtain ⟨c4, h1⟩ := h1
  obtain ⟨_, h2⟩ := h2
  refine ⟨c4, ?_⟩
  intro x6 e5
  have h1 := h1 x6 e5
  have h2 := h2 x6 e5
  intro x8 e7
  have h1 := h1 x8 e7
  have h2 := h2 x8 e7
  intro x10 e9
  have h1 := h1 x10 e9
  have h2 := h2 x10 e9
  exact cm_X2_copy_18 h1 h2 hq
theorem cm_X2_copy {Q1 Q2 Q3 : HS → Prop} {v0 : Nat} {v1 : Nat} {S : HS} (h1 : P_X2_copy v0 v1 Q1 S) (h2 : P_X2_copy v0 v1 Q2 S) (hq : ∀ (T : HS), Q1 T → Q2 T → Q3 T) : P_X2_copy v0 v1 Q3 S := cm_X2_copy_0 h1 h2 hq
set_option maxRecDepth 20000 in
set_option maxHeartbeats 1000000 in
theorem cm_X0_keepForUndo_58 {Q1 Q2 Q3 : HS → Prop} {v0 : Nat} {S : HS} (h1 : P_X0_keepForUndo_58 Q1 v0 S) (h2 : P_X0_keepForUndo_58 Q2 v0 S) (hq : ∀ (T : HS), Q1 T → Q2 T → Q3 T) : P_X0_keepForUndo_58 Q3 v0 S := by
  delta P_X0_keepForUndo_58 at h1 h2 ⊢
  obtain ⟨c1, h1⟩ := h1
  obtain ⟨_, h2⟩ := h2
  refine ⟨c1, ?_⟩
  obtain ⟨b2, e3, h1⟩ := h1
  obtain ⟨b4, e5, h2⟩ := h2
  cases e3.symm.trans e5
  refine ⟨b2, e3, ?_⟩
  intro x7 e6
  have h1 := h1 x7 e6
  have h2 := h2 x7 e6
  obtain ⟨c8, h1⟩ := h1
  obtain ⟨_, h2⟩ := h2
  refine ⟨c8, ?_⟩
  obtain ⟨c9, h1⟩ := h1
  obtain ⟨_, h2⟩ := h2
  refine ⟨c9, ?_⟩
  obtain ⟨b10, e11, h1⟩ := h1
  obtain ⟨b12, e13, h2⟩ := h2
  cases e11.symm.trans e13
  refine ⟨b10, e11, ?_⟩
  obtain ⟨b14, e15, h1⟩ := h1
  obtain ⟨b16, e17, h2⟩ := h2
  cases e15.symm.trans e17
  refine ⟨b14, e15, ?_⟩
  obtain ⟨c18, h1⟩ := h1
  obtain ⟨_, h2⟩ := h2
  refine ⟨c18, ?_⟩
  refine cm_X2_copy h1 h2 (fun x19 h1 h2 g20 => ?_)
  have h1 := h1 g20
  have h2 := h2 g20
  intro x22 e21
  have h1 := h1 x22 e21
  have h2 := h2 x22 e21
  intro x24 e23
  have h1 := h1 x24 e23
  have h2 := h2 x24 e23
  intro x26 e25
  have h1 := h1 x26 e25
  have h2 := h2 x26 e25
  exact hq _ h1 h2
set_option maxRecDepth 20000 in
set_option maxHeartbeats 1000000 in
theorem cmB_X0_keepForUndo_18 {Q1 Q2 Q3 : HS → Prop} {X18_1 X18_2 X18_3 : Nat → Nat → Int32 → HS → Prop} {v0 : Nat} {v1 : Nat} {v2 : Int32} {S : HS} (h1 : B_X0_keepForUndo_18 Q1 X18_1 v0 v1 v2 S) (h2 : B_X0_keepForUndo_18 Q2 X18_2 v0 v1 v2 S) (hq : ∀ (T : HS), Q1 T → Q2 T → Q3 T) (hX18 : ∀ (u0 : Nat) (u1 : Nat) (u2 : Int32) (u3 : HS), X18_1 u0 u1 u2 u3 → X18_2 u0 u1 u2 u3 → X18_3 u0 u1 u2 u3) : B_X0_keepForUndo_18 Q3 X18_3 v0 v1 v2 S := by
  delta B_X0_keepForUndo_18 at h1 h2 ⊢
  refine ⟨?_, ?_⟩
  · intro c1
    have h1 := h1.1 c1
    have h2 := h2.1 c1
    obtain ⟨c2, h1⟩ := h1
    obtain ⟨_, h2⟩ := h2
    refine ⟨c2, ?_⟩
    obtain ⟨b3, e4, h1⟩ := h1
    obtain ⟨b5, e6, h2⟩ := h2
    cases e4.symm.trans e6
    refine ⟨b3, e4, ?_⟩
    obtain ⟨c7, h1⟩ := h1
    obtain ⟨_, h2⟩ := h2
    refine ⟨c7, ?_⟩
    obtain ⟨c8, h1⟩ := h1
    obtain ⟨_, h2⟩ := h2
    refine ⟨c8, ?_⟩
    obtain ⟨c9, h1⟩ := h1
    obtain ⟨_, h2⟩ := h2
    refine ⟨c9, ?_⟩
    intro x11 e10
    have h1 := h1 x11 e10
    have h2 := h2 x11 e10
    intro x13 e12
    have h1 := h1 x13 e12
    have h2 := h2 x13 e12
    exact cm_X0_keepForUndo_58 h1 h2 hq
  · intro c14
    have h1 := h1.2 c14
    have h2 := h2.2 c14
    obtain ⟨c15, h1⟩ := h1
    obtain ⟨_, h2⟩ := h2
    refine ⟨c15, ?_⟩
    obtain ⟨b16, e17, h1⟩ := h1
    obtain ⟨b18, e19, h2⟩ := h2
    cases e17.symm.trans e19
    refine ⟨b16, e17, ?_⟩
    obtain ⟨b20, e21, h1⟩ := h1
    obtain ⟨b22, e23, h2⟩ := h2
    cases e21.symm.trans e23
    refine ⟨b20, e21, ?_⟩
    obtain ⟨c24, h1⟩ := h1
    obtain ⟨_, h2⟩ := h2
    refine ⟨c24, ?_⟩
    obtain ⟨c25, h1⟩ := h1
    obtain ⟨_, h2⟩ := h2
    refine ⟨c25, ?_⟩
    obtain ⟨b26, e27, h1⟩ := h1
    obtain ⟨b28, e29, h2⟩ := h2
    cases e27.symm.trans e29
    refine ⟨b26, e27, ?_⟩
    obtain ⟨c30, h1⟩ := h1
    obtain ⟨_, h2⟩ := h2
    refine ⟨c30, ?_⟩
    obtain ⟨c31, h1⟩ := h1
    obtain ⟨_, h2⟩ := h2
    refine ⟨c31, ?_⟩
    obtain ⟨c32, h1⟩ := h1
    obtain ⟨_, h2⟩ := h2
    refine ⟨c32, ?_⟩
    intro x34 e33
    have h1 := h1 x34 e33
    have h2 := h2 x34 e33
    intro x36 e35
    have h1 := h1 x36 e35
    have h2 := h2 x36 e35
    exact hX18 _ _ _ _ h1 h2
theorem fd_X0_keepForUndo_18 {Q : HS → Prop} {v0 : Nat} {v1 : Nat} {v2 : Int32} {S : HS} (h : B_X0_keepForUndo_18 Q (P_X0_keepForUndo_18 Q) v0 v1 v2 S) : P_X0_keepForUndo_18 Q v0 v1 v2 S := fun X hX => hX v0 v1 v2 S (cmB_X0_keepForUndo_18 h h (fun _ a _ => a) (fun _ _ _ _ hp _ => hp X hX))
theorem uf_X0_keepForUndo_18 {Q : HS → Prop} {v0 : Nat} {v1 : Nat} {v2 : Int32} {S : HS} (h : P_X0_keepForUndo_18 Q v0 v1 v2 S) : B_X0_keepForUndo_18 Q (P_X0_keepForUndo_18 Q) v0 v1 v2 S := h (fun v0 v1 v2 S => B_X0_keepForUndo_18 Q (P_X0_keepForUndo_18 Q) v0 v1 v2 S) (fun v0 v1 v2 S hB => cmB_X0_keepForUndo_18 hB hB (fun _ a _ => a) (fun _ _ _ _ hb _ => fd_X0_keepForUndo_18 hb))
theorem cm_X0_keepForUndo_18 {Q1 Q2 Q3 : HS → Prop} {v0 : Nat} {v1 : Nat} {v2 : Int32} {S : HS} (h1 : P_X0_keepForUndo_18 Q1 v0 v1 v2 S) (h2 : P_X0_keepForUndo_18 Q2 v0 v1 v2 S) (hq : ∀ (T : HS), Q1 T → Q2 T → Q3 T) : P_X0_keepForUndo_18 Q3 v0 v1 v2 S := h1 (fun v0 v1 v2 S => P_X0_keepForUndo_18 Q2 v0 v1 v2 S → P_X0_keepForUndo_18 Q3 v0 v1 v2 S) (fun v0 v1 v2 S hB hp => fd_X0_keepForUndo_18 (cmB_X0_keepForUndo_18 hB (uf_X0_keepForUndo_18 hp) hq (fun _ _ _ _ hx hp => hx hp))) h2
set_option maxRecDepth 20000 in
set_option maxHeartbeats 1000000 in
theorem cm_X0_keepForUndo_0 {Q1 Q2 Q3 : HS → Prop} {v0 : Nat} {S : HS} (h1 : P_X0_keepForUndo_0 Q1 v0 S) (h2 : P_X0_keepForUndo_0 Q2 v0 S) (hq : ∀ (T : HS), Q1 T → Q2 T → Q3 T) : P_X0_keepForUndo_0 Q3 v0 S := by
  delta P_X0_keepForUndo_0 at h1 h2 ⊢
  obtain ⟨c1, h1⟩ := h1
  obtain ⟨_, h2⟩ := h2
  refine ⟨c1, ?_⟩
  intro x3 e2
  have h1 := h1 x3 e2
  have h2 := h2 x3 e2
  refine ⟨?_, ?_⟩
  · intro c4
    have h1 := h1.1 c4
    have h2 := h2.1 c4
    exact cm_X0_keepForUndo_58 h1 h2 hq
  · intro c5
    have h1 := h1.2 c5
    have h2 := h2.2 c5
    obtain ⟨b6, e7, h1⟩ := h1
    obtain ⟨b8, e9, h2⟩ := h2
    cases e7.symm.trans e9
    refine ⟨b6, e7, ?_⟩
    obtain ⟨c10, h1⟩ := h1
    obtain ⟨_, h2⟩ := h2
    refine ⟨c10, ?_⟩
    obtain ⟨c11, h1⟩ := h1
    obtain ⟨_, h2⟩ := h2
    refine ⟨c11, ?_⟩
    obtain ⟨b12, e13, h1⟩ := h1
    obtain ⟨b14, e15, h2⟩ := h2
    cases e13.symm.trans e15
    refine ⟨b12, e13, ?_⟩
    exact cm_X0_keepForUndo_18 h1 h2 hq
theorem cm_X0_keepForUndo {Q1 Q2 Q3 : HS → Prop} {v0 : Nat} {S : HS} (h1 : P_X0_keepForUndo v0 Q1 S) (h2 : P_X0_keepForUndo v0 Q2 S) (hq : ∀ (T : HS), Q1 T → Q2 T → Q3 T) : P_X0_keepForUndo v0 Q3 S := cm_X0_keepForUndo_0 h1 h2 hq
set_option maxRecDepth 20000 in
set_option maxHeartbeats 1000000 in
theorem cm_X0_rainsIn_0 {Q1 Q2 Q3 : Int32 → HS → Prop} {v0 : Nat} {v1 : Int32} {S : HS} (h1 : P_X0_rainsIn_0 Q1 v0 v1 S) (h2 : P_X0_rainsIn_0 Q2 v0 v1 S) (hq : ∀ (r : Int32) (T : HS), Q1 r T → Q2 r T → Q3 r T) : P_X0_rainsIn_0 Q3 v0 v1 S := by
  delta P_X0_rainsIn_0 at h1 h2 ⊢
  refine ⟨?_, ?_⟩
  · intro c1
    have h1 := h1.1 c1
    have h2 := h2.1 c1
    exact hq _ _ h1 h2
  · intro c2
    have h1 := h1.2 c2
    have h2 := h2.2 c2
    refine ⟨?_, ?_⟩
    · intro c3
      have h1 := h1.1 c3
      have h2 := h2.1 c3
      exact hq _ _ h1 h2
    · intro c4
      have h1 := h1.2 c4
      have h2 := h2.2 c4
      obtain ⟨c5, h1⟩ := h1
      obtain ⟨_, h2⟩ := h2
      refine ⟨c5, ?_⟩
      intro x7 e6
      have h1 := h1 x7 e6
      have h2 := h2 x7 e6
      refine ⟨?_, ?_⟩
      · intro c8
        have h1 := h1.1 c8
        have h2 := h2.1 c8
        exact hq _ _ h1 h2
      · intro c9
        have h1 := h1.2 c9
        have h2 := h2.2 c9
        exact hq _ _ h1 h2
theorem cm_X0_rainsIn {Q1 Q2 Q3 : Int32 → HS → Prop} {v0 : Nat} {v1 : Int32} {S : HS} (h1 : P_X0_rainsIn v0 v1 Q1 S) (h2 : P_X0_rainsIn v0 v1 Q2 S) (hq : ∀ (r : Int32) (T : HS), Q1 r T → Q2 r T → Q3 r T) : P_X0_rainsIn v0 v1 Q3 S := cm_X0_rainsIn_0 h1 h2 hq
set_option maxRecDepth 20000 in
set_option maxHeartbeats 1000000 in
theorem cm_X0_returnTo_0 {Q1 Q2 Q3 : Int32 → HS → Prop} {v0 : Nat} {v1 : Int32} {S : HS} (h1 : P_X0_returnTo_0 Q1 v0 v1 S) (h2 : P_X0_returnTo_0 Q2 v0 v1 S) (hq : ∀ (r : Int32) (T : HS), Q1 r T → Q2 r T → Q3 r T) : P_X0_returnTo_0 Q3 v0 v1 S := by
  delta P_X0_returnTo_0 at h1 h2 ⊢
  refine ⟨?_, ?_⟩
  · intro c1
    have h1 := h1.1 c1
    have h2 := h2.1 c1
    exact hq _ _ h1 h2
  · intro c2
    have h1 := h1.2 c2
    have h2 := h2.2 c2
    obtain ⟨c3, h1⟩ := h1
    obtain ⟨_, h2⟩ := h2
    refine ⟨c3, ?_⟩
    intro x5 e4
    have h1 := h1 x5 e4
    have h2 := h2 x5 e4
    refine ⟨?_, ?_⟩
    · intro c6
      have h1 := h1.1 c6
      have h2 := h2.1 c6
      obtain ⟨b7, e8, h1⟩ := h1
      obtain ⟨b9, e10, h2⟩ := h2
      cases e8.symm.trans e10
      refine ⟨b7, e8, ?_⟩
      obtain ⟨b11, e12, h1⟩ := h1
      obtain ⟨b13, e14, h2⟩ := h2
      cases e12.symm.trans e14
      refine ⟨b11, e12, ?_⟩
      obtain ⟨c15, h1⟩ := h1
      obtain ⟨_, h2⟩ := h2
      refine ⟨c15, ?_⟩
      obtain ⟨c16, h1⟩ := h1
      obtain ⟨_, h2⟩ := h2
      refine ⟨c16, ?_⟩
      obtain ⟨b17, e18, h1⟩ := h1
      obtain ⟨b19, e20, h2⟩ := h2
      cases e18.symm.trans e20
      refine ⟨b17, e18, ?_⟩
      obtain ⟨c21, h1⟩ := h1
      obtain ⟨_, h2⟩ := h2
      refine ⟨c21, ?_⟩
      refine cm_X2_copy h1 h2 (fun x22 h1 h2 g23 => ?_)
      have h1 := h1 g23
      have h2 := h2 g23
      intro x25 e24
      have h1 := h1 x25 e24
      have h2 := h2 x25 e24
      exact hq _ _ h1 h2
    · intro c26
      have h1 := h1.2 c26
      have h2 := h2.2 c26
      exact hq _ _ h1 h2
theorem cm_X0_returnTo {Q1 Q2 Q3 : Int32 → HS → Prop} {v0 : Nat} {v1 : Int32} {S : HS} (h1 : P_X0_returnTo v0 v1 Q1 S) (h2 : P_X0_returnTo v0 v1 Q2 S) (hq : ∀ (r : Int32) (T : HS), Q1 r T → Q2 r T → Q3 r T) : P_X0_returnTo v0 v1 Q3 S := cm_X0_returnTo_0 h1 h2 hq
set_option maxRecDepth 20000 in
set_option maxHeartbeats 1000000 in
theorem cm_X0_setMark_0 {Q1 Q2 Q3 : Int32 → HS → Prop} {v0 : Nat} {S : HS} (h1 : P_X0_setMark_0 Q1 v0 S) (h2 : P_X0_setMark_0 Q2 v0 S) (hq : ∀ (r : Int32) (T : HS), Q1 r T → Q2 r T → Q3 r T) : P_X0_setMark_0 Q3 v0 S := by
  delta P_X0_setMark_0 at h1 h2 ⊢
  obtain ⟨c1, h1⟩ := h1
  obtain ⟨_, h2⟩ := h2
  refine ⟨c1, ?_⟩
  intro x3 e2
  have h1 := h1 x3 e2
  have h2 := h2 x3 e2
  refine ⟨?_, ?_⟩
  · intro c4
    have h1 := h1.1 c4
    have h2 := h2.1 c4
    obtain ⟨b5, e6, h1⟩ := h1
    obtain ⟨b7, e8, h2⟩ := h2
    cases e6.symm.trans e8
    refine ⟨b5, e6, ?_⟩
    intro x10 e9
    have h1 := h1 x10 e9
    have h2 := h2 x10 e9
    obtain ⟨c11, h1⟩ := h1
    obtain ⟨_, h2⟩ := h2
    refine ⟨c11, ?_⟩
    obtain ⟨c12, h1⟩ := h1
    obtain ⟨_, h2⟩ := h2
    refine ⟨c12, ?_⟩
    obtain ⟨b13, e14, h1⟩ := h1
    obtain ⟨b15, e16, h2⟩ := h2
    cases e14.symm.trans e16
    refine ⟨b13, e14, ?_⟩
    obtain ⟨b17, e18, h1⟩ := h1
    obtain ⟨b19, e20, h2⟩ := h2
    cases e18.symm.trans e20
    refine ⟨b17, e18, ?_⟩
    obtain ⟨c21, h1⟩ := h1
    obtain ⟨_, h2⟩ := h2
    refine ⟨c21, ?_⟩
    refine cm_X2_copy h1 h2 (fun x22 h1 h2 g23 => ?_)
    have h1 := h1 g23
    have h2 := h2 g23
    intro x25 e24
    have h1 := h1 x25 e24
    have h2 := h2 x25 e24
    intro x27 e26
    have h1 := h1 x27 e26
    have h2 := h2 x27 e26
    intro x29 e28
    have h1 := h1 x29 e28
    have h2 := h2 x29 e28
    intro x31 e30
    have h1 := h1 x31 e30
    have h2 := h2 x31 e30
    exact hq _ _ h1 h2
  · intro c32
    have h1 := h1.2 c32
    have h2 := h2.2 c32
    exact hq _ _ h1 h2
theorem cm_X0_setMark {Q1 Q2 Q3 : Int32 → HS → Prop} {v0 : Nat} {S : HS} (h1 : P_X0_setMark v0 Q1 S) (h2 : P_X0_setMark v0 Q2 S) (hq : ∀ (r : Int32) (T : HS), Q1 r T → Q2 r T → Q3 r T) : P_X0_setMark v0 Q3 S := cm_X0_setMark_0 h1 h2 hq
set_option maxRecDepth 20000 in
set_option maxHeartbeats 1000000 in
theorem cm_X0_takeBack_0 {Q1 Q2 Q3 : Int32 → HS → Prop} {v0 : Nat} {S : HS} (h1 : P_X0_takeBack_0 Q1 v0 S) (h2 : P_X0_takeBack_0 Q2 v0 S) (hq : ∀ (r : Int32) (T : HS), Q1 r T → Q2 r T → Q3 r T) : P_X0_takeBack_0 Q3 v0 S := by
  delta P_X0_takeBack_0 at h1 h2 ⊢
  obtain ⟨c1, h1⟩ := h1
  obtain ⟨_, h2⟩ := h2
  refine ⟨c1, ?_⟩
  intro x3 e2
  have h1 := h1 x3 e2
  have h2 := h2 x3 e2
  refine ⟨?_, ?_⟩
  · intro c4
    have h1 := h1.1 c4
    have h2 := h2.1 c4
    intro x6 e5
    have h1 := h1 x6 e5
    have h2 := h2 x6 e5
    intro x8 e7
    have h1 := h1 x8 e7
    have h2 := h2 x8 e7
    intro x10 e9
    have h1 := h1 x10 e9
    have h2 := h2 x10 e9
    obtain ⟨b11, e12, h1⟩ := h1
    obtain ⟨b13, e14, h2⟩ := h2
    cases e12.symm.trans e14
    refine ⟨b11, e12, ?_⟩
    obtain ⟨b15, e16, h1⟩ := h1
    obtain ⟨b17, e18, h2⟩ := h2
    cases e16.symm.trans e18
    refine ⟨b15, e16, ?_⟩
    intro x20 e19
    have h1 := h1 x20 e19
    have h2 := h2 x20 e19
    obtain ⟨c21, h1⟩ := h1
    obtain ⟨_, h2⟩ := h2
    refine ⟨c21, ?_⟩
    obtain ⟨c22, h1⟩ := h1
    obtain ⟨_, h2⟩ := h2
    refine ⟨c22, ?_⟩
    obtain ⟨b23, e24, h1⟩ := h1
    obtain ⟨b25, e26, h2⟩ := h2
    cases e24.symm.trans e26
    refine ⟨b23, e24, ?_⟩
    obtain ⟨c27, h1⟩ := h1
    obtain ⟨_, h2⟩ := h2
    refine ⟨c27, ?_⟩
    refine cm_X2_copy h1 h2 (fun x28 h1 h2 g29 => ?_)
    have h1 := h1 g29
    have h2 := h2 g29
    exact hq _ _ h1 h2
  · intro c30
    have h1 := h1.2 c30
    have h2 := h2.2 c30
    exact hq _ _ h1 h2
theorem cm_X0_takeBack {Q1 Q2 Q3 : Int32 → HS → Prop} {v0 : Nat} {S : HS} (h1 : P_X0_takeBack v0 Q1 S) (h2 : P_X0_takeBack v0 Q2 S) (hq : ∀ (r : Int32) (T : HS), Q1 r T → Q2 r T → Q3 r T) : P_X0_takeBack v0 Q3 S := cm_X0_takeBack_0 h1 h2 hq
set_option maxRecDepth 20000 in
set_option maxHeartbeats 1000000 in
theorem cm_X10_facing_0 {Q1 Q2 Q3 : Int32 → HS → Prop} {v0 : Nat} {v1 : Int32} {v2 : Int32} {S : HS} (h1 : P_X10_facing_0 Q1 v0 v1 v2 S) (h2 : P_X10_facing_0 Q2 v0 v1 v2 S) (hq : ∀ (r : Int32) (T : HS), Q1 r T → Q2 r T → Q3 r T) : P_X10_facing_0 Q3 v0 v1 v2 S := by
  delta P_X10_facing_0 at h1 h2 ⊢
  refine ⟨?_, ?_⟩
  · intro c1
    have h1 := h1.1 c1
    have h2 := h2.1 c1
    obtain ⟨c2, h1⟩ := h1
    obtain ⟨_, h2⟩ := h2
    refine ⟨c2, ?_⟩
    obtain ⟨b3, e4, h1⟩ := h1
    obtain ⟨b5, e6, h2⟩ := h2
    cases e4.symm.trans e6
    refine ⟨b3, e4, ?_⟩
    obtain ⟨c7, h1⟩ := h1
    obtain ⟨_, h2⟩ := h2
    refine ⟨c7, ?_⟩
    obtain ⟨c8, h1⟩ := h1
    obtain ⟨_, h2⟩ := h2
    refine ⟨c8, ?_⟩
    intro x10 e9
    have h1 := h1 x10 e9
    have h2 := h2 x10 e9
    exact hq _ _ h1 h2
  · intro c11
    have h1 := h1.2 c11
    have h2 := h2.2 c11
    obtain ⟨c12, h1⟩ := h1
    obtain ⟨_, h2⟩ := h2
    refine ⟨c12, ?_⟩
    obtain ⟨b13, e14, h1⟩ := h1
    obtain ⟨b15, e16, h2⟩ := h2
    cases e14.symm.trans e16
    refine ⟨b13, e14, ?_⟩
    obtain ⟨c17, h1⟩ := h1
    obtain ⟨_, h2⟩ := h2
    refine ⟨c17, ?_⟩
    obtain ⟨c18, h1⟩ := h1
    obtain ⟨_, h2⟩ := h2
    refine ⟨c18, ?_⟩
    intro x20 e19
    have h1 := h1 x20 e19
    have h2 := h2 x20 e19
    exact hq _ _ h1 h2
theorem cm_X10_facing {Q1 Q2 Q3 : Int32 → HS → Prop} {v0 : Nat} {v1 : Int32} {v2 : Int32} {S : HS} (h1 : P_X10_facing v0 v1 v2 Q1 S) (h2 : P_X10_facing v0 v1 v2 Q2 S) (hq : ∀ (r : Int32) (T : HS), Q1 r T → Q2 r T → Q3 r T) : P_X10_facing v0 v1 v2 Q3 S := cm_X10_facing_0 h1 h2 hq
set_option maxRecDepth 20000 in
set_option maxHeartbeats 1000000 in
theorem cm_X10_across_0 {Q1 Q2 Q3 : Int32 → HS → Prop} {v0 : Nat} {v1 : Int32} {v2 : Int32} {v3 : Int32} {S : HS} (h1 : P_X10_across_0 Q1 v0 v1 v2 v3 S) (h2 : P_X10_across_0 Q2 v0 v1 v2 v3 S) (hq : ∀ (r : Int32) (T : HS), Q1 r T → Q2 r T → Q3 r T) : P_X10_across_0 Q3 v0 v1 v2 v3 S := by
  delta P_X10_across_0 at h1 h2 ⊢
  obtain ⟨c1, h1⟩ := h1
  obtain ⟨_, h2⟩ := h2
  refine ⟨c1, ?_⟩
  obtain ⟨b2, e3, h1⟩ := h1
  obtain ⟨b4, e5, h2⟩ := h2
  cases e3.symm.trans e5
  refine ⟨b2, e3, ?_⟩
  obtain ⟨c6, h1⟩ := h1
  obtain ⟨_, h2⟩ := h2
  refine ⟨c6, ?_⟩
  obtain ⟨c7, h1⟩ := h1
  obtain ⟨_, h2⟩ := h2
  refine ⟨c7, ?_⟩
  intro x9 e8
  have h1 := h1 x9 e8
  have h2 := h2 x9 e8
  refine cm_X10_facing h1 h2 (fun x10 x11 h1 h2 g12 => ?_)
  have h1 := h1 g12
  have h2 := h2 g12
  intro x14 e13
  have h1 := h1 x14 e13
  have h2 := h2 x14 e13
  refine ⟨?_, ?_⟩
  · intro c15
    have h1 := h1.1 c15
    have h2 := h2.1 c15
    refine ⟨?_, ?_⟩
    · intro c16
      have h1 := h1.1 c16
      have h2 := h2.1 c16
      exact hq _ _ h1 h2
    · intro c17
      have h1 := h1.2 c17
      have h2 := h2.2 c17
      obtain ⟨b18, e19, h1⟩ := h1
      obtain ⟨b20, e21, h2⟩ := h2
      cases e19.symm.trans e21
      refine ⟨b18, e19, ?_⟩
      obtain ⟨c22, h1⟩ := h1
      obtain ⟨_, h2⟩ := h2
      refine ⟨c22, ?_⟩
      obtain ⟨c23, h1⟩ := h1
      obtain ⟨_, h2⟩ := h2
      refine ⟨c23, ?_⟩
      intro x25 e24
      have h1 := h1 x25 e24
      have h2 := h2 x25 e24
      exact hq _ _ h1 h2
  · intro c26
    have h1 := h1.2 c26
    have h2 := h2.2 c26
    obtain ⟨b27, e28, h1⟩ := h1
    obtain ⟨b29, e30, h2⟩ := h2
    cases e28.symm.trans e30
    refine ⟨b27, e28, ?_⟩
    obtain ⟨c31, h1⟩ := h1
    obtain ⟨_, h2⟩ := h2
    refine ⟨c31, ?_⟩
    obtain ⟨c32, h1⟩ := h1
    obtain ⟨_, h2⟩ := h2
    refine ⟨c32, ?_⟩
    intro x34 e33
    have h1 := h1 x34 e33
    have h2 := h2 x34 e33
    exact hq _ _ h1 h2
theorem cm_X10_across {Q1 Q2 Q3 : Int32 → HS → Prop} {v0 : Nat} {v1 : Int32} {v2 : Int32} {v3 : Int32} {S : HS} (h1 : P_X10_across v0 v1 v2 v3 Q1 S) (h2 : P_X10_across v0 v1 v2 v3 Q2 S) (hq : ∀ (r : Int32) (T : HS), Q1 r T → Q2 r T → Q3 r T) : P_X10_across v0 v1 v2 v3 Q3 S := cm_X10_across_0 h1 h2 hq
set_option maxRecDepth 20000 in
set_option maxHeartbeats 1000000 in
theorem cm_X10_air_0 {Q1 Q2 Q3 : Int32 → HS → Prop} {v0 : Nat} {v1 : Int32} {v2 : Int32} {v3 : Int32} {S : HS} (h1 : P_X10_air_0 Q1 v0 v1 v2 v3 S) (h2 : P_X10_air_0 Q2 v0 v1 v2 v3 S) (hq : ∀ (r : Int32) (T : HS), Q1 r T → Q2 r T → Q3 r T) : P_X10_air_0 Q3 v0 v1 v2 v3 S := by
  delta P_X10_air_0 at h1 h2 ⊢
  obtain ⟨c1, h1⟩ := h1
  obtain ⟨_, h2⟩ := h2
  refine ⟨c1, ?_⟩
  obtain ⟨b2, e3, h1⟩ := h1
  obtain ⟨b4, e5, h2⟩ := h2
  cases e3.symm.trans e5
  refine ⟨b2, e3, ?_⟩
  obtain ⟨c6, h1⟩ := h1
  obtain ⟨_, h2⟩ := h2
  refine ⟨c6, ?_⟩
  obtain ⟨c7, h1⟩ := h1
  obtain ⟨_, h2⟩ := h2
  refine ⟨c7, ?_⟩
  intro x9 e8
  have h1 := h1 x9 e8
  have h2 := h2 x9 e8
  refine cm_X10_facing h1 h2 (fun x10 x11 h1 h2 g12 => ?_)
  have h1 := h1 g12
  have h2 := h2 g12
  intro x14 e13
  have h1 := h1 x14 e13
  have h2 := h2 x14 e13
  refine ⟨?_, ?_⟩
  · intro c15
    have h1 := h1.1 c15
    have h2 := h2.1 c15
    refine ⟨?_, ?_⟩
    · intro c16
      have h1 := h1.1 c16
      have h2 := h2.1 c16
      exact hq _ _ h1 h2
    · intro c17
      have h1 := h1.2 c17
      have h2 := h2.2 c17
      obtain ⟨b18, e19, h1⟩ := h1
      obtain ⟨b20, e21, h2⟩ := h2
      cases e19.symm.trans e21
      refine ⟨b18, e19, ?_⟩
      obtain ⟨c22, h1⟩ := h1
      obtain ⟨_, h2⟩ := h2
      refine ⟨c22, ?_⟩
      obtain ⟨c23, h1⟩ := h1
      obtain ⟨_, h2⟩ := h2
      refine ⟨c23, ?_⟩
      intro x25 e24
      have h1 := h1 x25 e24
      have h2 := h2 x25 e24
      exact hq _ _ h1 h2
  · intro c26
    have h1 := h1.2 c26
    have h2 := h2.2 c26
    obtain ⟨b27, e28, h1⟩ := h1
    obtain ⟨b29, e30, h2⟩ := h2
    cases e28.symm.trans e30
    refine ⟨b27, e28, ?_⟩
    obtain ⟨c31, h1⟩ := h1
    obtain ⟨_, h2⟩ := h2
    refine ⟨c31, ?_⟩
    obtain ⟨c32, h1⟩ := h1
    obtain ⟨_, h2⟩ := h2
    refine ⟨c32, ?_⟩
    intro x34 e33
    have h1 := h1 x34 e33
    have h2 := h2 x34 e33
    exact hq _ _ h1 h2
theorem cm_X10_air {Q1 Q2 Q3 : Int32 → HS → Prop} {v0 : Nat} {v1 : Int32} {v2 : Int32} {v3 : Int32} {S : HS} (h1 : P_X10_air v0 v1 v2 v3 Q1 S) (h2 : P_X10_air v0 v1 v2 v3 Q2 S) (hq : ∀ (r : Int32) (T : HS), Q1 r T → Q2 r T → Q3 r T) : P_X10_air v0 v1 v2 v3 Q3 S := cm_X10_air_0 h1 h2 hq
set_option maxRecDepth 20000 in
set_option maxHeartbeats 1000000 in
theorem cm_X10_begins_0 {Q1 Q2 Q3 : Int32 → HS → Prop} {v0 : Nat} {v1 : Int32} {v2 : Int32} {S : HS} (h1 : P_X10_begins_0 Q1 v0 v1 v2 S) (h2 : P_X10_begins_0 Q2 v0 v1 v2 S) (hq : ∀ (r : Int32) (T : HS), Q1 r T → Q2 r T → Q3 r T) : P_X10_begins_0 Q3 v0 v1 v2 S := by
  delta P_X10_begins_0 at h1 h2 ⊢
  refine ⟨?_, ?_⟩
  · intro c1
    have h1 := h1.1 c1
    have h2 := h2.1 c1
    obtain ⟨c2, h1⟩ := h1
    obtain ⟨_, h2⟩ := h2
    refine ⟨c2, ?_⟩
    obtain ⟨b3, e4, h1⟩ := h1
    obtain ⟨b5, e6, h2⟩ := h2
    cases e4.symm.trans e6
    refine ⟨b3, e4, ?_⟩
    obtain ⟨c7, h1⟩ := h1
    obtain ⟨_, h2⟩ := h2
    refine ⟨c7, ?_⟩
    obtain ⟨c8, h1⟩ := h1
    obtain ⟨_, h2⟩ := h2
    refine ⟨c8, ?_⟩
    intro x10 e9
    have h1 := h1 x10 e9
    have h2 := h2 x10 e9
    exact hq _ _ h1 h2
  · intro c11
    have h1 := h1.2 c11
    have h2 := h2.2 c11
    obtain ⟨c12, h1⟩ := h1
    obtain ⟨_, h2⟩ := h2
    refine ⟨c12, ?_⟩
    obtain ⟨b13, e14, h1⟩ := h1
    obtain ⟨b15, e16, h2⟩ := h2
    cases e14.symm.trans e16
    refine ⟨b13, e14, ?_⟩
    obtain ⟨c17, h1⟩ := h1
    obtain ⟨_, h2⟩ := h2
    refine ⟨c17, ?_⟩
    obtain ⟨c18, h1⟩ := h1
    obtain ⟨_, h2⟩ := h2
    refine ⟨c18, ?_⟩
    intro x20 e19
    have h1 := h1 x20 e19
    have h2 := h2 x20 e19
    exact hq _ _ h1 h2
theorem cm_X10_begins {Q1 Q2 Q3 : Int32 → HS → Prop} {v0 : Nat} {v1 : Int32} {v2 : Int32} {S : HS} (h1 : P_X10_begins v0 v1 v2 Q1 S) (h2 : P_X10_begins v0 v1 v2 Q2 S) (hq : ∀ (r : Int32) (T : HS), Q1 r T → Q2 r T → Q3 r T) : P_X10_begins v0 v1 v2 Q3 S := cm_X10_begins_0 h1 h2 hq
set_option maxRecDepth 20000 in
set_option maxHeartbeats 1000000 in
theorem cm_X10_ends_0 {Q1 Q2 Q3 : Int32 → HS → Prop} {v0 : Nat} {v1 : Int32} {v2 : Int32} {S : HS} (h1 : P_X10_ends_0 Q1 v0 v1 v2 S) (h2 : P_X10_ends_0 Q2 v0 v1 v2 S) (hq : ∀ (r : Int32) (T : HS), Q1 r T → Q2 r T → Q3 r T) : P_X10_ends_0 Q3 v0 v1 v2 S := by
  delta P_X10_ends_0 at h1 h2 ⊢
  refine ⟨?_, ?_⟩
  · intro c1
    have h1 := h1.1 c1
    have h2 := h2.1 c1
    obtain ⟨c2, h1⟩ := h1
    obtain ⟨_, h2⟩ := h2
    refine ⟨c2, ?_⟩
    obtain ⟨b3, e4, h1⟩ := h1
    obtain ⟨b5, e6, h2⟩ := h2
    cases e4.symm.trans e6
    refine ⟨b3, e4, ?_⟩
    obtain ⟨c7, h1⟩ := h1
    obtain ⟨_, h2⟩ := h2
    refine ⟨c7, ?_⟩
    obtain ⟨c8, h1⟩ := h1
    obtain ⟨_, h2⟩ := h2
    refine ⟨c8, ?_⟩
    intro x10 e9
    have h1 := h1 x10 e9
    have h2 := h2 x10 e9
    exact hq _ _ h1 h2
  · intro c11
    have h1 := h1.2 c11
    have h2 := h2.2 c11
    obtain ⟨c12, h1⟩ := h1
    obtain ⟨_, h2⟩ := h2
    refine ⟨c12, ?_⟩
    obtain ⟨b13, e14, h1⟩ := h1
    obtain ⟨b15, e16, h2⟩ := h2
    cases e14.symm.trans e16
    refine ⟨b13, e14, ?_⟩
    obtain ⟨c17, h1⟩ := h1
    obtain ⟨_, h2⟩ := h2
    refine ⟨c17, ?_⟩
    obtain ⟨c18, h1⟩ := h1
    obtain ⟨_, h2⟩ := h2
    refine ⟨c18, ?_⟩
    intro x20 e19
    have h1 := h1 x20 e19
    have h2 := h2 x20 e19
    exact hq _ _ h1 h2
theorem cm_X10_ends {Q1 Q2 Q3 : Int32 → HS → Prop} {v0 : Nat} {v1 : Int32} {v2 : Int32} {S : HS} (h1 : P_X10_ends v0 v1 v2 Q1 S) (h2 : P_X10_ends v0 v1 v2 Q2 S) (hq : ∀ (r : Int32) (T : HS), Q1 r T → Q2 r T → Q3 r T) : P_X10_ends v0 v1 v2 Q3 S := cm_X10_ends_0 h1 h2 hq
set_option maxRecDepth 20000 in
set_option maxHeartbeats 1000000 in
theorem cmB_X10_find_2 {Q1 Q2 Q3 : Int32 → HS → Prop} {X2_1 X2_2 X2_3 : Nat → Int64 → Int32 → HS → Prop} {v0 : Nat} {v1 : Int64} {v3 : Int32} {S : HS} (h1 : B_X10_find_2 Q1 X2_1 v0 v1 v3 S) (h2 : B_X10_find_2 Q2 X2_2 v0 v1 v3 S) (hq : ∀ (r : Int32) (T : HS), Q1 r T → Q2 r T → Q3 r T) (hX2 : ∀ (u0 : Nat) (u1 : Int64) (u2 : Int32) (u3 : HS), X2_1 u0 u1 u2 u3 → X2_2 u0 u1 u2 u3 → X2_3 u0 u1 u2 u3) : B_X10_find_2 Q3 X2_3 v0 v1 v3 S := by
  delta B_X10_find_2 at h1 h2 ⊢
  obtain ⟨c1, h1⟩ := h1
  obtain ⟨_, h2⟩ := h2
  refine ⟨c1, ?_⟩
  intro x3 e2
  have h1 := h1 x3 e2
  have h2 := h2 x3 e2
  refine ⟨?_, ?_⟩
  · intro c4
    have h1 := h1.1 c4
    have h2 := h2.1 c4
    exact hq _ _ h1 h2
  · intro c5
    have h1 := h1.2 c5
    have h2 := h2.2 c5
    obtain ⟨b6, e7, h1⟩ := h1
    obtain ⟨b8, e9, h2⟩ := h2
    cases e7.symm.trans e9
    refine ⟨b6, e7, ?_⟩
    obtain ⟨c10, h1⟩ := h1
    obtain ⟨_, h2⟩ := h2
    refine ⟨c10, ?_⟩
    obtain ⟨c11, h1⟩ := h1
    obtain ⟨_, h2⟩ := h2
    refine ⟨c11, ?_⟩
    intro x13 e12
    have h1 := h1 x13 e12
    have h2 := h2 x13 e12
    refine ⟨?_, ?_⟩
    · intro c14
      have h1 := h1.1 c14
      have h2 := h2.1 c14
      intro x16 e15
      have h1 := h1 x16 e15
      have h2 := h2 x16 e15
      exact hX2 _ _ _ _ h1 h2
    · intro c17
      have h1 := h1.2 c17
      have h2 := h2.2 c17
      exact hq _ _ h1 h2
theorem fd_X10_find_2 {Q : Int32 → HS → Prop} {v0 : Nat} {v1 : Int64} {v3 : Int32} {S : HS} (h : B_X10_find_2 Q (P_X10_find_2 Q) v0 v1 v3 S) : P_X10_find_2 Q v0 v1 v3 S := fun X hX => hX v0 v1 v3 S (cmB_X10_find_2 h h (fun _ _ a _ => a) (fun _ _ _ _ hp _ => hp X hX))
theorem uf_X10_find_2 {Q : Int32 → HS → Prop} {v0 : Nat} {v1 : Int64} {v3 : Int32} {S : HS} (h : P_X10_find_2 Q v0 v1 v3 S) : B_X10_find_2 Q (P_X10_find_2 Q) v0 v1 v3 S := h (fun v0 v1 v3 S => B_X10_find_2 Q (P_X10_find_2 Q) v0 v1 v3 S) (fun v0 v1 v3 S hB => cmB_X10_find_2 hB hB (fun _ _ a _ => a) (fun _ _ _ _ hb _ => fd_X10_find_2 hb))
theorem cm_X10_find_2 {Q1 Q2 Q3 : Int32 → HS → Prop} {v0 : Nat} {v1 : Int64} {v3 : Int32} {S : HS} (h1 : P_X10_find_2 Q1 v0 v1 v3 S) (h2 : P_X10_find_2 Q2 v0 v1 v3 S) (hq : ∀ (r : Int32) (T : HS), Q1 r T → Q2 r T → Q3 r T) : P_X10_find_2 Q3 v0 v1 v3 S := h1 (fun v0 v1 v3 S => P_X10_find_2 Q2 v0 v1 v3 S → P_X10_find_2 Q3 v0 v1 v3 S) (fun v0 v1 v3 S hB hp => fd_X10_find_2 (cmB_X10_find_2 hB (uf_X10_find_2 hp) hq (fun _ _ _ _ hx hp => hx hp))) h2
set_option maxRecDepth 20000 in
set_option maxHeartbeats 1000000 in
theorem cm_X10_find_0 {Q1 Q2 Q3 : Int32 → HS → Prop} {v0 : Nat} {v1 : Int64} {S : HS} (h1 : P_X10_find_0 Q1 v0 v1 S) (h2 : P_X10_find_0 Q2 v0 v1 S) (hq : ∀ (r : Int32) (T : HS), Q1 r T → Q2 r T → Q3 r T) : P_X10_find_0 Q3 v0 v1 S := by
  delta P_X10_find_0 at h1 h2 ⊢
  exact cm_X10_find_2 h1 h2 hq
theorem cm_X10_find {Q1 Q2 Q3 : Int32 → HS → Prop} {v0 : Nat} {v1 : Int64} {S : HS} (h1 : P_X10_find v0 v1 Q1 S) (h2 : P_X10_find v0 v1 Q2 S) (hq : ∀ (r : Int32) (T : HS), Q1 r T → Q2 r T → Q3 r T) : P_X10_find v0 v1 Q3 S := cm_X10_find_0 h1 h2 hq
set_option maxRecDepth 20000 in
set_option maxHeartbeats 1000000 in
theorem cm_X10_init_0 {Q1 Q2 Q3 : HS → Prop} {v0 : Nat} {S : HS} (h1 : P_X10_init_0 Q1 v0 S) (h2 : P_X10_init_0 Q2 v0 S) (hq : ∀ (T : HS), Q1 T → Q2 T → Q3 T) : P_X10_init_0 Q3 v0 S := by
  delta P_X10_init_0 at h1 h2 ⊢
  intro x2 e1
  have h1 := h1 x2 e1
  have h2 := h2 x2 e1
  intro x4 e3
  have h1 := h1 x4 e3
  have h2 := h2 x4 e3
  obtain ⟨c5, h1⟩ := h1
  obtain ⟨_, h2⟩ := h2
  refine ⟨c5, ?_⟩
  intro x7 e6
  have h1 := h1 x7 e6
  have h2 := h2 x7 e6
  intro x9 e8
  have h1 := h1 x9 e8
  have h2 := h2 x9 e8
  intro x11 e10
  have h1 := h1 x11 e10
  have h2 := h2 x11 e10
  intro x13 e12
  have h1 := h1 x13 e12
  have h2 := h2 x13 e12
  intro x15 e14
  have h1 := h1 x15 e14
  have h2 := h2 x15 e14
  intro x17 e16
  have h1 := h1 x17 e16
  have h2 := h2 x17 e16
  intro x19 e18
  have h1 := h1 x19 e18
  have h2 := h2 x19 e18
  intro x21 e20
  have h1 := h1 x21 e20
  have h2 := h2 x21 e20
  intro x23 e22
  have h1 := h1 x23 e22
  have h2 := h2 x23 e22
  intro x25 e24
  have h1 := h1 x25 e24
  have h2 := h2 x25 e24
  intro x27 e26
  have h1 := h1 x27 e26
  have h2 := h2 x27 e26
  intro x29 e28
  have h1 := h1 x29 e28
  have h2 := h2 x29 e28
  intro x31 e30
  have h1 := h1 x31 e30
  have h2 := h2 x31 e30
  intro x33 e32
  have h1 := h1 x33 e32
  have h2 := h2 x33 e32
  intro x35 e34
  have h1 := h1 x35 e34
  have h2 := h2 x35 e34
  intro x37 e36
  have h1 := h1 x37 e36
  have h2 := h2 x37 e36
  intro x39 e38
  have h1 := h1 x39 e38
  have h2 := h2 x39 e38
  intro x41 e40
  have h1 := h1 x41 e40
  have h2 := h2 x41 e40
  intro x43 e42
  have h1 := h1 x43 e42
  have h2 := h2 x43 e42
  intro x45 e44
  have h1 := h1 x45 e44
  have h2 := h2 x45 e44
  intro x47 e46
  have h1 := h1 x47 e46
  have h2 := h2 x47 e46
  intro x49 e48
  have h1 := h1 x49 e48
  have h2 := h2 x49 e48
  intro x51 e50
  have h1 := h1 x51 e50
  have h2 := h2 x51 e50
  intro x53 e52
  have h1 := h1 x53 e52
  have h2 := h2 x53 e52
  intro x55 e54
  have h1 := h1 x55 e54
  have h2 := h2 x55 e54
  intro x57 e56
  have h1 := h1 x57 e56
  have h2 := h2 x57 e56
  intro x59 e58
  have h1 := h1 x59 e58
  have h2 := h2 x59 e58
  intro x61 e60
  have h1 := h1 x61 e60
  have h2 := h2 x61 e60
  intro x63 e62
  have h1 := h1 x63 e62
  have h2 := h2 x63 e62
  intro x65 e64
  have h1 := h1 x65 e64
  have h2 := h2 x65 e64
  intro x67 e66
  have h1 := h1 x67 e66
  have h2 := h2 x67 e66
  intro x69 e68
  have h1 := h1 x69 e68
  have h2 := h2 x69 e68
  intro x71 e70
  have h1 := h1 x71 e70
  have h2 := h2 x71 e70
  intro x73 e72
  have h1 := h1 x73 e72
  have h2 := h2 x73 e72
  intro x75 e74
  have h1 := h1 x75 e74
  have h2 := h2 x75 e74
  intro x77 e76
  have h1 := h1 x77 e76
  have h2 := h2 x77 e76
  intro x79 e78
  have h1 := h1 x79 e78
  have h2 := h2 x79 e78
  intro x81 e80
  have h1 := h1 x81 e80
  have h2 := h2 x81 e80
  intro x83 e82
  have h1 := h1 x83 e82
  have h2 := h2 x83 e82
  intro x85 e84
  have h1 := h1 x85 e84
  have h2 := h2 x85 e84
  intro x87 e86
  have h1 := h1 x87 e86
  have h2 := h2 x87 e86
  intro x89 e88
  have h1 := h1 x89 e88
  have h2 := h2 x89 e88
  intro x91 e90
  have h1 := h1 x91 e90
  have h2 := h2 x91 e90
  intro x93 e92
  have h1 := h1 x93 e92
  have h2 := h2 x93 e92
  intro x95 e94
  have h1 := h1 x95 e94
  have h2 := h2 x95 e94
  intro x97 e96
  have h1 := h1 x97 e96
  have h2 := h2 x97 e96
  intro x99 e98
  have h1 := h1 x99 e98
  have h2 := h2 x99 e98
  intro x101 e100
  have h1 := h1 x101 e100
  have h2 := h2 x101 e100
  intro x103 e102
  have h1 := h1 x103 e102
  have h2 := h2 x103 e102
  intro x105 e104
  have h1 := h1 x105 e104
  have h2 := h2 x105 e104
  intro x107 e106
  have h1 := h1 x107 e106
  have h2 := h2 x107 e106
  intro x109 e108
  have h1 := h1 x109 e108
  have h2 := h2 x109 e108
  intro x111 e110
  have h1 := h1 x111 e110
  have h2 := h2 x111 e110
  intro x113 e112
  have h1 := h1 x113 e112
  have h2 := h2 x113 e112
  intro x115 e114
  have h1 := h1 x115 e114
  have h2 := h2 x115 e114
  intro x117 e116
  have h1 := h1 x117 e116
  have h2 := h2 x117 e116
  intro x119 e118
  have h1 := h1 x119 e118
  have h2 := h2 x119 e118
  intro x121 e120
  have h1 := h1 x121 e120
  have h2 := h2 x121 e120
  intro x123 e122
  have h1 := h1 x123 e122
  have h2 := h2 x123 e122
  intro x125 e124
  have h1 := h1 x125 e124
  have h2 := h2 x125 e124
  intro x127 e126
  have h1 := h1 x127 e126
  have h2 := h2 x127 e126
  intro x129 e128
  have h1 := h1 x129 e128
  have h2 := h2 x129 e128
  intro x131 e130
  have h1 := h1 x131 e130
  have h2 := h2 x131 e130
  intro x133 e132
  have h1 := h1 x133 e132
  have h2 := h2 x133 e132
  intro x135 e134
  have h1 := h1 x135 e134
  have h2 := h2 x135 e134
  intro x137 e136
  have h1 := h1 x137 e136
  have h2 := h2 x137 e136
  intro x139 e138
  have h1 := h1 x139 e138
  have h2 := h2 x139 e138
  intro x141 e140
  have h1 := h1 x141 e140
  have h2 := h2 x141 e140
  intro x143 e142
  have h1 := h1 x143 e142
  have h2 := h2 x143 e142
  intro x145 e144
  have h1 := h1 x145 e144
  have h2 := h2 x145 e144
  exact hq _ h1 h2
theorem cm_X10_init {Q1 Q2 Q3 : HS → Prop} {v0 : Nat} {S : HS} (h1 : P_X10_init v0 Q1 S) (h2 : P_X10_init v0 Q2 S) (hq : ∀ (T : HS), Q1 T → Q2 T → Q3 T) : P_X10_init v0 Q3 S := cm_X10_init_0 h1 h2 hq
set_option maxRecDepth 20000 in
set_option maxHeartbeats 1000000 in
theorem cm_X10_minutes_0 {Q1 Q2 Q3 : Int32 → HS → Prop} {v0 : Nat} {v1 : Int32} {v2 : Int32} {S : HS} (h1 : P_X10_minutes_0 Q1 v0 v1 v2 S) (h2 : P_X10_minutes_0 Q2 v0 v1 v2 S) (hq : ∀ (r : Int32) (T : HS), Q1 r T → Q2 r T → Q3 r T) : P_X10_minutes_0 Q3 v0 v1 v2 S := by
  delta P_X10_minutes_0 at h1 h2 ⊢
  obtain ⟨c1, h1⟩ := h1
  obtain ⟨_, h2⟩ := h2
  refine ⟨c1, ?_⟩
  obtain ⟨b2, e3, h1⟩ := h1
  obtain ⟨b4, e5, h2⟩ := h2
  cases e3.symm.trans e5
  refine ⟨b2, e3, ?_⟩
  obtain ⟨c6, h1⟩ := h1
  obtain ⟨_, h2⟩ := h2
  refine ⟨c6, ?_⟩
  obtain ⟨c7, h1⟩ := h1
  obtain ⟨_, h2⟩ := h2
  refine ⟨c7, ?_⟩
  intro x9 e8
  have h1 := h1 x9 e8
  have h2 := h2 x9 e8
  obtain ⟨c10, h1⟩ := h1
  obtain ⟨_, h2⟩ := h2
  refine ⟨c10, ?_⟩
  intro x12 e11
  have h1 := h1 x12 e11
  have h2 := h2 x12 e11
  exact hq _ _ h1 h2
theorem cm_X10_minutes {Q1 Q2 Q3 : Int32 → HS → Prop} {v0 : Nat} {v1 : Int32} {v2 : Int32} {S : HS} (h1 : P_X10_minutes v0 v1 v2 Q1 S) (h2 : P_X10_minutes v0 v1 v2 Q2 S) (hq : ∀ (r : Int32) (T : HS), Q1 r T → Q2 r T → Q3 r T) : P_X10_minutes v0 v1 v2 Q3 S := cm_X10_minutes_0 h1 h2 hq
set_option maxRecDepth 20000 in
set_option maxHeartbeats 1000000 in
theorem cm_X10_shield_0 {Q1 Q2 Q3 : Int32 → HS → Prop} {v0 : Nat} {v1 : Int32} {S : HS} (h1 : P_X10_shield_0 Q1 v0 v1 S) (h2 : P_X10_shield_0 Q2 v0 v1 S) (hq : ∀ (r : Int32) (T : HS), Q1 r T → Q2 r T → Q3 r T) : P_X10_shield_0 Q3 v0 v1 S := by
  delta P_X10_shield_0 at h1 h2 ⊢
  obtain ⟨c1, h1⟩ := h1
  obtain ⟨_, h2⟩ := h2
  refine ⟨c1, ?_⟩
  obtain ⟨b2, e3, h1⟩ := h1
  obtain ⟨b4, e5, h2⟩ := h2
  cases e3.symm.trans e5
  refine ⟨b2, e3, ?_⟩
  obtain ⟨c6, h1⟩ := h1
  obtain ⟨_, h2⟩ := h2
  refine ⟨c6, ?_⟩
  obtain ⟨c7, h1⟩ := h1
  obtain ⟨_, h2⟩ := h2
  refine ⟨c7, ?_⟩
  intro x9 e8
  have h1 := h1 x9 e8
  have h2 := h2 x9 e8
  refine ⟨?_, ?_⟩
  · intro c10
    have h1 := h1.1 c10
    have h2 := h2.1 c10
    exact hq _ _ h1 h2
  · intro c11
    have h1 := h1.2 c11
    have h2 := h2.2 c11
    obtain ⟨b12, e13, h1⟩ := h1
    obtain ⟨b14, e15, h2⟩ := h2
    cases e13.symm.trans e15
    refine ⟨b12, e13, ?_⟩
    obtain ⟨c16, h1⟩ := h1
    obtain ⟨_, h2⟩ := h2
    refine ⟨c16, ?_⟩
    obtain ⟨c17, h1⟩ := h1
    obtain ⟨_, h2⟩ := h2
    refine ⟨c17, ?_⟩
    intro x19 e18
    have h1 := h1 x19 e18
    have h2 := h2 x19 e18
    exact hq _ _ h1 h2
theorem cm_X10_shield {Q1 Q2 Q3 : Int32 → HS → Prop} {v0 : Nat} {v1 : Int32} {S : HS} (h1 : P_X10_shield v0 v1 Q1 S) (h2 : P_X10_shield v0 v1 Q2 S) (hq : ∀ (r : Int32) (T : HS), Q1 r T → Q2 r T → Q3 r T) : P_X10_shield v0 v1 Q3 S := cm_X10_shield_0 h1 h2 hq
set_option maxRecDepth 20000 in
set_option maxHeartbeats 1000000 in
theorem cm_X11_good_0 {Q1 Q2 Q3 : Int32 → HS → Prop} {v0 : Nat} {v1 : Int32} {S : HS} (h1 : P_X11_good_0 Q1 v0 v1 S) (h2 : P_X11_good_0 Q2 v0 v1 S) (hq : ∀ (r : Int32) (T : HS), Q1 r T → Q2 r T → Q3 r T) : P_X11_good_0 Q3 v0 v1 S := by
  delta P_X11_good_0 at h1 h2 ⊢
  obtain ⟨c1, h1⟩ := h1
  obtain ⟨_, h2⟩ := h2
  refine ⟨c1, ?_⟩
  intro x3 e2
  have h1 := h1 x3 e2
  have h2 := h2 x3 e2
  intro x5 e4
  have h1 := h1 x5 e4
  have h2 := h2 x5 e4
  exact hq _ _ h1 h2
theorem cm_X11_good {Q1 Q2 Q3 : Int32 → HS → Prop} {v0 : Nat} {v1 : Int32} {S : HS} (h1 : P_X11_good v0 v1 Q1 S) (h2 : P_X11_good v0 v1 Q2 S) (hq : ∀ (r : Int32) (T : HS), Q1 r T → Q2 r T → Q3 r T) : P_X11_good v0 v1 Q3 S := cm_X11_good_0 h1 h2 hq
set_option maxRecDepth 20000 in
set_option maxHeartbeats 1000000 in
theorem cm_X11_in_0 {Q1 Q2 Q3 : Int32 → HS → Prop} {v0 : Int32} {v1 : Int32} {v2 : Int32} {S : HS} (h1 : P_X11_in_0 Q1 v0 v1 v2 S) (h2 : P_X11_in_0 Q2 v0 v1 v2 S) (hq : ∀ (r : Int32) (T : HS), Q1 r T → Q2 r T → Q3 r T) : P_X11_in_0 Q3 v0 v1 v2 S := by
  delta P_X11_in_0 at h1 h2 ⊢
  refine ⟨?_, ?_⟩
  · intro c1
    have h1 := h1.1 c1
    have h2 := h2.1 c1
    exact hq _ _ h1 h2
  · intro c2
    have h1 := h1.2 c2
    have h2 := h2.2 c2
    refine ⟨?_, ?_⟩
    · intro c3
      have h1 := h1.1 c3
      have h2 := h2.1 c3
      exact hq _ _ h1 h2
    · intro c4
      have h1 := h1.2 c4
      have h2 := h2.2 c4
      exact hq _ _ h1 h2
theorem cm_X11_in {Q1 Q2 Q3 : Int32 → HS → Prop} {v0 : Int32} {v1 : Int32} {v2 : Int32} {S : HS} (h1 : P_X11_in v0 v1 v2 Q1 S) (h2 : P_X11_in v0 v1 v2 Q2 S) (hq : ∀ (r : Int32) (T : HS), Q1 r T → Q2 r T → Q3 r T) : P_X11_in v0 v1 v2 Q3 S := cm_X11_in_0 h1 h2 hq
set_option maxRecDepth 20000 in
set_option maxHeartbeats 1000000 in
theorem cm_X11_isHour_0 {Q1 Q2 Q3 : Int32 → HS → Prop} {v0 : Nat} {v1 : Int32} {S : HS} (h1 : P_X11_isHour_0 Q1 v0 v1 S) (h2 : P_X11_isHour_0 Q2 v0 v1 S) (hq : ∀ (r : Int32) (T : HS), Q1 r T → Q2 r T → Q3 r T) : P_X11_isHour_0 Q3 v0 v1 S := by
  delta P_X11_isHour_0 at h1 h2 ⊢
  obtain ⟨c1, h1⟩ := h1
  obtain ⟨_, h2⟩ := h2
  refine ⟨c1, ?_⟩
  refine ⟨?_, ?_⟩
  · intro c2
    have h1 := h1.1 c2
    have h2 := h2.1 c2
    exact hq _ _ h1 h2
  · intro x3 c4
    have h1 := h1.2 x3 c4
    have h2 := h2.2 x3 c4
    refine ⟨?_, ?_⟩
    · intro c5
      have h1 := h1.1 c5
      have h2 := h2.1 c5
      exact hq _ _ h1 h2
    · intro c6
      have h1 := h1.2 c6
      have h2 := h2.2 c6
      obtain ⟨b7, e8, h1⟩ := h1
      obtain ⟨b9, e10, h2⟩ := h2
      cases e8.symm.trans e10
      refine ⟨b7, e8, ?_⟩
      obtain ⟨c11, h1⟩ := h1
      obtain ⟨_, h2⟩ := h2
      refine ⟨c11, ?_⟩
      intro x13 e12
      have h1 := h1 x13 e12
      have h2 := h2 x13 e12
      refine ⟨?_, ?_⟩
      · intro c14
        have h1 := h1.1 c14
        have h2 := h2.1 c14
        exact hq _ _ h1 h2
      · intro c15
        have h1 := h1.2 c15
        have h2 := h2.2 c15
        exact hq _ _ h1 h2
theorem cm_X11_isHour {Q1 Q2 Q3 : Int32 → HS → Prop} {v0 : Nat} {v1 : Int32} {S : HS} (h1 : P_X11_isHour v0 v1 Q1 S) (h2 : P_X11_isHour v0 v1 Q2 S) (hq : ∀ (r : Int32) (T : HS), Q1 r T → Q2 r T → Q3 r T) : P_X11_isHour v0 v1 Q3 S := cm_X11_isHour_0 h1 h2 hq
set_option maxRecDepth 20000 in
set_option maxHeartbeats 1000000 in
theorem cm_X11_isRoad_0 {Q1 Q2 Q3 : Int32 → HS → Prop} {v0 : Nat} {v1 : Int32} {S : HS} (h1 : P_X11_isRoad_0 Q1 v0 v1 S) (h2 : P_X11_isRoad_0 Q2 v0 v1 S) (hq : ∀ (r : Int32) (T : HS), Q1 r T → Q2 r T → Q3 r T) : P_X11_isRoad_0 Q3 v0 v1 S := by
  delta P_X11_isRoad_0 at h1 h2 ⊢
  obtain ⟨c1, h1⟩ := h1
  obtain ⟨_, h2⟩ := h2
  refine ⟨c1, ?_⟩
  refine ⟨?_, ?_⟩
  · intro c2
    have h1 := h1.1 c2
    have h2 := h2.1 c2
    exact hq _ _ h1 h2
  · intro x3 c4
    have h1 := h1.2 x3 c4
    have h2 := h2.2 x3 c4
    refine ⟨?_, ?_⟩
    · intro c5
      have h1 := h1.1 c5
      have h2 := h2.1 c5
      exact hq _ _ h1 h2
    · intro c6
      have h1 := h1.2 c6
      have h2 := h2.2 c6
      obtain ⟨b7, e8, h1⟩ := h1
      obtain ⟨b9, e10, h2⟩ := h2
      cases e8.symm.trans e10
      refine ⟨b7, e8, ?_⟩
      obtain ⟨c11, h1⟩ := h1
      obtain ⟨_, h2⟩ := h2
      refine ⟨c11, ?_⟩
      intro x13 e12
      have h1 := h1 x13 e12
      have h2 := h2 x13 e12
      refine ⟨?_, ?_⟩
      · intro c14
        have h1 := h1.1 c14
        have h2 := h2.1 c14
        exact hq _ _ h1 h2
      · intro c15
        have h1 := h1.2 c15
        have h2 := h2.2 c15
        exact hq _ _ h1 h2
theorem cm_X11_isRoad {Q1 Q2 Q3 : Int32 → HS → Prop} {v0 : Nat} {v1 : Int32} {S : HS} (h1 : P_X11_isRoad v0 v1 Q1 S) (h2 : P_X11_isRoad v0 v1 Q2 S) (hq : ∀ (r : Int32) (T : HS), Q1 r T → Q2 r T → Q3 r T) : P_X11_isRoad v0 v1 Q3 S := cm_X11_isRoad_0 h1 h2 hq
set_option maxRecDepth 20000 in
set_option maxHeartbeats 1000000 in
theorem cm_X11_refused_0 {Q1 Q2 Q3 : Int32 → HS → Prop} {v0 : Nat} {v1 : Int32} {S : HS} (h1 : P_X11_refused_0 Q1 v0 v1 S) (h2 : P_X11_refused_0 Q2 v0 v1 S) (hq : ∀ (r : Int32) (T : HS), Q1 r T → Q2 r T → Q3 r T) : P_X11_refused_0 Q3 v0 v1 S := by
  delta P_X11_refused_0 at h1 h2 ⊢
  obtain ⟨c1, h1⟩ := h1
  obtain ⟨_, h2⟩ := h2
  refine ⟨c1, ?_⟩
  intro x3 e2
  have h1 := h1 x3 e2
  have h2 := h2 x3 e2
  intro x5 e4
  have h1 := h1 x5 e4
  have h2 := h2 x5 e4
  exact hq _ _ h1 h2
theorem cm_X11_refused {Q1 Q2 Q3 : Int32 → HS → Prop} {v0 : Nat} {v1 : Int32} {S : HS} (h1 : P_X11_refused v0 v1 Q1 S) (h2 : P_X11_refused v0 v1 Q2 S) (hq : ∀ (r : Int32) (T : HS), Q1 r T → Q2 r T → Q3 r T) : P_X11_refused v0 v1 Q3 S := cm_X11_refused_0 h1 h2 hq
set_option maxRecDepth 20000 in
set_option maxHeartbeats 1000000 in
theorem cm_X11_lost_0 {Q1 Q2 Q3 : Int32 → HS → Prop} {v0 : Nat} {v1 : Int32} {S : HS} (h1 : P_X11_lost_0 Q1 v0 v1 S) (h2 : P_X11_lost_0 Q2 v0 v1 S) (hq : ∀ (r : Int32) (T : HS), Q1 r T → Q2 r T → Q3 r T) : P_X11_lost_0 Q3 v0 v1 S := by
  delta P_X11_lost_0 at h1 h2 ⊢
  obtain ⟨c1, h1⟩ := h1
  obtain ⟨_, h2⟩ := h2
  refine ⟨c1, ?_⟩
  refine cm_X11_refused h1 h2 (fun x2 x3 h1 h2 g4 => ?_)
  have h1 := h1 g4
  have h2 := h2 g4
  exact hq _ _ h1 h2
theorem cm_X11_lost {Q1 Q2 Q3 : Int32 → HS → Prop} {v0 : Nat} {v1 : Int32} {S : HS} (h1 : P_X11_lost v0 v1 Q1 S) (h2 : P_X11_lost v0 v1 Q2 S) (hq : ∀ (r : Int32) (T : HS), Q1 r T → Q2 r T → Q3 r T) : P_X11_lost v0 v1 Q3 S := cm_X11_lost_0 h1 h2 hq
set_option maxRecDepth 20000 in
set_option maxHeartbeats 1000000 in
theorem cm_X11_air_30 {Q1 Q2 Q3 : Int32 → HS → Prop} {v0 : Nat} {S : HS} (h1 : P_X11_air_30 Q1 v0 S) (h2 : P_X11_air_30 Q2 v0 S) (hq : ∀ (r : Int32) (T : HS), Q1 r T → Q2 r T → Q3 r T) : P_X11_air_30 Q3 v0 S := by
  delta P_X11_air_30 at h1 h2 ⊢
  obtain ⟨c1, h1⟩ := h1
  obtain ⟨_, h2⟩ := h2
  refine ⟨c1, ?_⟩
  refine cm_X11_lost h1 h2 (fun x2 x3 h1 h2 g4 => ?_)
  have h1 := h1 g4
  have h2 := h2 g4
  exact hq _ _ h1 h2
set_option maxRecDepth 20000 in
set_option maxHeartbeats 1000000 in
theorem cm_X11_air_0 {Q1 Q2 Q3 : Int32 → HS → Prop} {v0 : Nat} {v1 : Int32} {v2 : Int32} {v3 : Int32} {S : HS} (h1 : P_X11_air_0 Q1 v0 v1 v2 v3 S) (h2 : P_X11_air_0 Q2 v0 v1 v2 v3 S) (hq : ∀ (r : Int32) (T : HS), Q1 r T → Q2 r T → Q3 r T) : P_X11_air_0 Q3 v0 v1 v2 v3 S := by
  delta P_X11_air_0 at h1 h2 ⊢
  obtain ⟨c1, h1⟩ := h1
  obtain ⟨_, h2⟩ := h2
  refine ⟨c1, ?_⟩
  intro x3 e2
  have h1 := h1 x3 e2
  have h2 := h2 x3 e2
  refine cm_X11_isRoad h1 h2 (fun x4 x5 h1 h2 g6 g7 => ?_)
  have h1 := h1 g6 g7
  have h2 := h2 g6 g7
  refine ⟨?_, ?_⟩
  · intro c8
    have h1 := h1.1 c8
    have h2 := h2.1 c8
    exact cm_X11_air_30 h1 h2 hq
  · intro c9
    have h1 := h1.2 c9
    have h2 := h2.2 c9
    refine cm_X11_in h1 h2 (fun x10 x11 h1 h2 g12 g13 => ?_)
    have h1 := h1 g12 g13
    have h2 := h2 g12 g13
    refine ⟨?_, ?_⟩
    · intro c14
      have h1 := h1.1 c14
      have h2 := h2.1 c14
      exact cm_X11_air_30 h1 h2 hq
    · intro c15
      have h1 := h1.2 c15
      have h2 := h2.2 c15
      refine cm_X11_isHour h1 h2 (fun x16 x17 h1 h2 g18 g19 => ?_)
      have h1 := h1 g18 g19
      have h2 := h2 g18 g19
      refine ⟨?_, ?_⟩
      · intro c20
        have h1 := h1.1 c20
        have h2 := h2.1 c20
        obtain ⟨b21, e22, h1⟩ := h1
        obtain ⟨b23, e24, h2⟩ := h2
        cases e22.symm.trans e24
        refine ⟨b21, e22, ?_⟩
        obtain ⟨c25, h1⟩ := h1
        obtain ⟨_, h2⟩ := h2
        refine ⟨c25, ?_⟩
        refine cm_X10_air h1 h2 (fun x26 x27 h1 h2 g28 => ?_)
        have h1 := h1 g28
        have h2 := h2 g28
        refine cm_X11_good h1 h2 (fun x29 x30 h1 h2 g31 => ?_)
        have h1 := h1 g31
        have h2 := h2 g31
        exact hq _ _ h1 h2
      · intro c32
        have h1 := h1.2 c32
        have h2 := h2.2 c32
        exact cm_X11_air_30 h1 h2 hq
theorem cm_X11_air {Q1 Q2 Q3 : Int32 → HS → Prop} {v0 : Nat} {v1 : Int32} {v2 : Int32} {v3 : Int32} {S : HS} (h1 : P_X11_air v0 v1 v2 v3 Q1 S) (h2 : P_X11_air v0 v1 v2 v3 Q2 S) (hq : ∀ (r : Int32) (T : HS), Q1 r T → Q2 r T → Q3 r T) : P_X11_air v0 v1 v2 v3 Q3 S := cm_X11_air_0 h1 h2 hq
set_option maxRecDepth 20000 in
set_option maxHeartbeats 1000000 in
theorem cm_X11_denied_0 {Q1 Q2 Q3 : Int32 → HS → Prop} {v0 : Nat} {v1 : Int32} {S : HS} (h1 : P_X11_denied_0 Q1 v0 v1 S) (h2 : P_X11_denied_0 Q2 v0 v1 S) (hq : ∀ (r : Int32) (T : HS), Q1 r T → Q2 r T → Q3 r T) : P_X11_denied_0 Q3 v0 v1 S := by
  delta P_X11_denied_0 at h1 h2 ⊢
  obtain ⟨c1, h1⟩ := h1
  obtain ⟨_, h2⟩ := h2
  refine ⟨c1, ?_⟩
  refine cm_X11_refused h1 h2 (fun x2 x3 h1 h2 g4 => ?_)
  have h1 := h1 g4
  have h2 := h2 g4
  exact hq _ _ h1 h2
theorem cm_X11_denied {Q1 Q2 Q3 : Int32 → HS → Prop} {v0 : Nat} {v1 : Int32} {S : HS} (h1 : P_X11_denied v0 v1 Q1 S) (h2 : P_X11_denied v0 v1 Q2 S) (hq : ∀ (r : Int32) (T : HS), Q1 r T → Q2 r T → Q3 r T) : P_X11_denied v0 v1 Q3 S := cm_X11_denied_0 h1 h2 hq
set_option maxRecDepth 20000 in
set_option maxHeartbeats 1000000 in
theorem cm_X11_granted_0 {Q1 Q2 Q3 : Int32 → HS → Prop} {v0 : Nat} {S : HS} (h1 : P_X11_granted_0 Q1 v0 S) (h2 : P_X11_granted_0 Q2 v0 S) (hq : ∀ (r : Int32) (T : HS), Q1 r T → Q2 r T → Q3 r T) : P_X11_granted_0 Q3 v0 S := by
  delta P_X11_granted_0 at h1 h2 ⊢
  obtain ⟨c1, h1⟩ := h1
  obtain ⟨_, h2⟩ := h2
  refine ⟨c1, ?_⟩
  refine cm_X11_good h1 h2 (fun x2 x3 h1 h2 g4 => ?_)
  have h1 := h1 g4
  have h2 := h2 g4
  exact hq _ _ h1 h2
theorem cm_X11_granted {Q1 Q2 Q3 : Int32 → HS → Prop} {v0 : Nat} {S : HS} (h1 : P_X11_granted v0 Q1 S) (h2 : P_X11_granted v0 Q2 S) (hq : ∀ (r : Int32) (T : HS), Q1 r T → Q2 r T → Q3 r T) : P_X11_granted v0 Q3 S := cm_X11_granted_0 h1 h2 hq
set_option maxRecDepth 20000 in
set_option maxHeartbeats 1000000 in
theorem cm_X11_isDay_0 {Q1 Q2 Q3 : Int32 → HS → Prop} {v0 : Nat} {S : HS} (h1 : P_X11_isDay_0 Q1 v0 S) (h2 : P_X11_isDay_0 Q2 v0 S) (hq : ∀ (r : Int32) (T : HS), Q1 r T → Q2 r T → Q3 r T) : P_X11_isDay_0 Q3 v0 S := by
  delta P_X11_isDay_0 at h1 h2 ⊢
  obtain ⟨c1, h1⟩ := h1
  obtain ⟨_, h2⟩ := h2
  refine ⟨c1, ?_⟩
  refine ⟨?_, ?_⟩
  · intro c2
    have h1 := h1.1 c2
    have h2 := h2.1 c2
    exact hq _ _ h1 h2
  · intro x3 c4
    have h1 := h1.2 x3 c4
    have h2 := h2.2 x3 c4
    intro x6 e5
    have h1 := h1 x6 e5
    have h2 := h2 x6 e5
    refine ⟨?_, ?_⟩
    · intro c7
      have h1 := h1.1 c7
      have h2 := h2.1 c7
      exact hq _ _ h1 h2
    · intro c8
      have h1 := h1.2 c8
      have h2 := h2.2 c8
      exact hq _ _ h1 h2
theorem cm_X11_isDay {Q1 Q2 Q3 : Int32 → HS → Prop} {v0 : Nat} {S : HS} (h1 : P_X11_isDay v0 Q1 S) (h2 : P_X11_isDay v0 Q2 S) (hq : ∀ (r : Int32) (T : HS), Q1 r T → Q2 r T → Q3 r T) : P_X11_isDay v0 Q3 S := cm_X11_isDay_0 h1 h2 hq
set_option maxRecDepth 20000 in
set_option maxHeartbeats 1000000 in
theorem cm_X11_back_24 {Q1 Q2 Q3 : Int32 → HS → Prop} {v0 : Nat} {S : HS} (h1 : P_X11_back_24 Q1 v0 S) (h2 : P_X11_back_24 Q2 v0 S) (hq : ∀ (r : Int32) (T : HS), Q1 r T → Q2 r T → Q3 r T) : P_X11_back_24 Q3 v0 S := by
  delta P_X11_back_24 at h1 h2 ⊢
  obtain ⟨c1, h1⟩ := h1
  obtain ⟨_, h2⟩ := h2
  refine ⟨c1, ?_⟩
  refine cm_X11_denied h1 h2 (fun x2 x3 h1 h2 g4 g5 => ?_)
  have h1 := h1 g4 g5
  have h2 := h2 g4 g5
  obtain ⟨c6, h1⟩ := h1
  obtain ⟨_, h2⟩ := h2
  refine ⟨c6, ?_⟩
  exact hq _ _ h1 h2
set_option maxRecDepth 20000 in
set_option maxHeartbeats 1000000 in
theorem cmB_X11_back_32 {Q1 Q2 Q3 : Int32 → HS → Prop} {X32_1 X32_2 X32_3 : Nat → Int32 → Int32 → HS → Prop} {v0 : Nat} {v1 : Int32} {v2 : Int32} {S : HS} (h1 : B_X11_back_32 Q1 X32_1 v0 v1 v2 S) (h2 : B_X11_back_32 Q2 X32_2 v0 v1 v2 S) (hq : ∀ (r : Int32) (T : HS), Q1 r T → Q2 r T → Q3 r T) (hX32 : ∀ (u0 : Nat) (u1 : Int32) (u2 : Int32) (u3 : HS), X32_1 u0 u1 u2 u3 → X32_2 u0 u1 u2 u3 → X32_3 u0 u1 u2 u3) : B_X11_back_32 Q3 X32_3 v0 v1 v2 S := by
  delta B_X11_back_32 at h1 h2 ⊢
  refine ⟨?_, ?_⟩
  · intro c1
    have h1 := h1.1 c1
    have h2 := h2.1 c1
    obtain ⟨c2, h1⟩ := h1
    obtain ⟨_, h2⟩ := h2
    refine ⟨c2, ?_⟩
    intro x4 e3
    have h1 := h1 x4 e3
    have h2 := h2 x4 e3
    refine cm_X11_granted h1 h2 (fun x5 x6 h1 h2 g7 g8 => ?_)
    have h1 := h1 g7 g8
    have h2 := h2 g7 g8
    obtain ⟨c9, h1⟩ := h1
    obtain ⟨_, h2⟩ := h2
    refine ⟨c9, ?_⟩
    exact hq _ _ h1 h2
  · intro c10
    have h1 := h1.2 c10
    have h2 := h2.2 c10
    obtain ⟨c11, h1⟩ := h1
    obtain ⟨_, h2⟩ := h2
    refine ⟨c11, ?_⟩
    obtain ⟨b12, e13, h1⟩ := h1
    obtain ⟨b14, e15, h2⟩ := h2
    cases e13.symm.trans e15
    refine ⟨b12, e13, ?_⟩
    obtain ⟨b16, e17, h1⟩ := h1
    obtain ⟨b18, e19, h2⟩ := h2
    cases e17.symm.trans e19
    refine ⟨b16, e17, ?_⟩
    obtain ⟨c20, h1⟩ := h1
    obtain ⟨_, h2⟩ := h2
    refine ⟨c20, ?_⟩
    intro x22 e21
    have h1 := h1 x22 e21
    have h2 := h2 x22 e21
    obtain ⟨c23, h1⟩ := h1
    obtain ⟨_, h2⟩ := h2
    refine ⟨c23, ?_⟩
    intro x25 e24
    have h1 := h1 x25 e24
    have h2 := h2 x25 e24
    obtain ⟨c26, h1⟩ := h1
    obtain ⟨_, h2⟩ := h2
    refine ⟨c26, ?_⟩
    obtain ⟨c27, h1⟩ := h1
    obtain ⟨_, h2⟩ := h2
    refine ⟨c27, ?_⟩
    intro x29 e28
    have h1 := h1 x29 e28
    have h2 := h2 x29 e28
    intro x31 e30
    have h1 := h1 x31 e30
    have h2 := h2 x31 e30
    exact hX32 _ _ _ _ h1 h2
theorem fd_X11_back_32 {Q : Int32 → HS → Prop} {v0 : Nat} {v1 : Int32} {v2 : Int32} {S : HS} (h : B_X11_back_32 Q (P_X11_back_32 Q) v0 v1 v2 S) : P_X11_back_32 Q v0 v1 v2 S := fun X hX => hX v0 v1 v2 S (cmB_X11_back_32 h h (fun _ _ a _ => a) (fun _ _ _ _ hp _ => hp X hX))
theorem uf_X11_back_32 {Q : Int32 → HS → Prop} {v0 : Nat} {v1 : Int32} {v2 : Int32} {S : HS} (h : P_X11_back_32 Q v0 v1 v2 S) : B_X11_back_32 Q (P_X11_back_32 Q) v0 v1 v2 S := h (fun v0 v1 v2 S => B_X11_back_32 Q (P_X11_back_32 Q) v0 v1 v2 S) (fun v0 v1 v2 S hB => cmB_X11_back_32 hB hB (fun _ _ a _ => a) (fun _ _ _ _ hb _ => fd_X11_back_32 hb))
theorem cm_X11_back_32 {Q1 Q2 Q3 : Int32 → HS → Prop} {v0 : Nat} {v1 : Int32} {v2 : Int32} {S : HS} (h1 : P_X11_back_32 Q1 v0 v1 v2 S) (h2 : P_X11_back_32 Q2 v0 v1 v2 S) (hq : ∀ (r : Int32) (T : HS), Q1 r T → Q2 r T → Q3 r T) : P_X11_back_32 Q3 v0 v1 v2 S := h1 (fun v0 v1 v2 S => P_X11_back_32 Q2 v0 v1 v2 S → P_X11_back_32 Q3 v0 v1 v2 S) (fun v0 v1 v2 S hB hp => fd_X11_back_32 (cmB_X11_back_32 hB (uf_X11_back_32 hp) hq (fun _ _ _ _ hx hp => hx hp))) h2
set_option maxRecDepth 20000 in
set_option maxHeartbeats 1000000 in
theorem cm_X11_back_0 {Q1 Q2 Q3 : Int32 → HS → Prop} {v0 : Nat} {v1 : Int32} {S : HS} (h1 : P_X11_back_0 Q1 v0 v1 S) (h2 : P_X11_back_0 Q2 v0 v1 S) (hq : ∀ (r : Int32) (T : HS), Q1 r T → Q2 r T → Q3 r T) : P_X11_back_0 Q3 v0 v1 S := by
  delta P_X11_back_0 at h1 h2 ⊢
  obtain ⟨c1, h1⟩ := h1
  obtain ⟨_, h2⟩ := h2
  refine ⟨c1, ?_⟩
  intro x3 e2
  have h1 := h1 x3 e2
  have h2 := h2 x3 e2
  refine cm_X11_isDay h1 h2 (fun x4 x5 h1 h2 g6 g7 => ?_)
  have h1 := h1 g6 g7
  have h2 := h2 g6 g7
  refine ⟨?_, ?_⟩
  · intro c8
    have h1 := h1.1 c8
    have h2 := h2.1 c8
    exact cm_X11_back_24 h1 h2 hq
  · intro c9
    have h1 := h1.2 c9
    have h2 := h2.2 c9
    refine ⟨?_, ?_⟩
    · intro c10
      have h1 := h1.1 c10
      have h2 := h2.1 c10
      exact cm_X11_back_24 h1 h2 hq
    · intro c11
      have h1 := h1.2 c11
      have h2 := h2.2 c11
      intro x13 e12
      have h1 := h1 x13 e12
      have h2 := h2 x13 e12
      refine ⟨?_, ?_⟩
      · intro c14
        have h1 := h1.1 c14
        have h2 := h2.1 c14
        exact cm_X11_back_32 h1 h2 hq
      · intro c15
        have h1 := h1.2 c15
        have h2 := h2.2 c15
        exact cm_X11_back_24 h1 h2 hq
theorem cm_X11_back {Q1 Q2 Q3 : Int32 → HS → Prop} {v0 : Nat} {v1 : Int32} {S : HS} (h1 : P_X11_back v0 v1 Q1 S) (h2 : P_X11_back v0 v1 Q2 S) (hq : ∀ (r : Int32) (T : HS), Q1 r T → Q2 r T → Q3 r T) : P_X11_back v0 v1 Q3 S := cm_X11_back_0 h1 h2 hq
set_option maxRecDepth 20000 in
set_option maxHeartbeats 1000000 in
theorem cm_X11_flaw_0 {Q1 Q2 Q3 : HS → Prop} {v0 : Nat} {v1 : Int32} {S : HS} (h1 : P_X11_flaw_0 Q1 v0 v1 S) (h2 : P_X11_flaw_0 Q2 v0 v1 S) (hq : ∀ (T : HS), Q1 T → Q2 T → Q3 T) : P_X11_flaw_0 Q3 v0 v1 S := by
  delta P_X11_flaw_0 at h1 h2 ⊢
  obtain ⟨c1, h1⟩ := h1
  obtain ⟨_, h2⟩ := h2
  refine ⟨c1, ?_⟩
  intro x3 e2
  have h1 := h1 x3 e2
  have h2 := h2 x3 e2
  refine ⟨?_, ?_⟩
  · intro c4
    have h1 := h1.1 c4
    have h2 := h2.1 c4
    intro x6 e5
    have h1 := h1 x6 e5
    have h2 := h2 x6 e5
    intro x8 e7
    have h1 := h1 x8 e7
    have h2 := h2 x8 e7
    intro x10 e9
    have h1 := h1 x10 e9
    have h2 := h2 x10 e9
    intro x12 e11
    have h1 := h1 x12 e11
    have h2 := h2 x12 e11
    exact hq _ h1 h2
  · intro c13
    have h1 := h1.2 c13
    have h2 := h2.2 c13
    exact hq _ h1 h2
theorem cm_X11_flaw {Q1 Q2 Q3 : HS → Prop} {v0 : Nat} {v1 : Int32} {S : HS} (h1 : P_X11_flaw v0 v1 Q1 S) (h2 : P_X11_flaw v0 v1 Q2 S) (hq : ∀ (T : HS), Q1 T → Q2 T → Q3 T) : P_X11_flaw v0 v1 Q3 S := cm_X11_flaw_0 h1 h2 hq
set_option maxRecDepth 20000 in
set_option maxHeartbeats 1000000 in
theorem cm_X11_byteAt_0 {Q1 Q2 Q3 : Int32 → HS → Prop} {v0 : Nat} {v1 : Int32} {S : HS} (h1 : P_X11_byteAt_0 Q1 v0 v1 S) (h2 : P_X11_byteAt_0 Q2 v0 v1 S) (hq : ∀ (r : Int32) (T : HS), Q1 r T → Q2 r T → Q3 r T) : P_X11_byteAt_0 Q3 v0 v1 S := by
  delta P_X11_byteAt_0 at h1 h2 ⊢
  obtain ⟨c1, h1⟩ := h1
  obtain ⟨_, h2⟩ := h2
  refine ⟨c1, ?_⟩
  intro x3 e2
  have h1 := h1 x3 e2
  have h2 := h2 x3 e2
  refine ⟨?_, ?_⟩
  · intro c4
    have h1 := h1.1 c4
    have h2 := h2.1 c4
    exact hq _ _ h1 h2
  · intro c5
    have h1 := h1.2 c5
    have h2 := h2.2 c5
    obtain ⟨b6, e7, h1⟩ := h1
    obtain ⟨b8, e9, h2⟩ := h2
    cases e7.symm.trans e9
    refine ⟨b6, e7, ?_⟩
    obtain ⟨c10, h1⟩ := h1
    obtain ⟨_, h2⟩ := h2
    refine ⟨c10, ?_⟩
    obtain ⟨c11, h1⟩ := h1
    obtain ⟨_, h2⟩ := h2
    refine ⟨c11, ?_⟩
    intro x13 e12
    have h1 := h1 x13 e12
    have h2 := h2 x13 e12
    exact hq _ _ h1 h2
theorem cm_X11_byteAt {Q1 Q2 Q3 : Int32 → HS → Prop} {v0 : Nat} {v1 : Int32} {S : HS} (h1 : P_X11_byteAt v0 v1 Q1 S) (h2 : P_X11_byteAt v0 v1 Q2 S) (hq : ∀ (r : Int32) (T : HS), Q1 r T → Q2 r T → Q3 r T) : P_X11_byteAt v0 v1 Q3 S := cm_X11_byteAt_0 h1 h2 hq
set_option maxRecDepth 20000 in
set_option maxHeartbeats 1000000 in
theorem cm_X11_isDigit_0 {Q1 Q2 Q3 : Int32 → HS → Prop} {v0 : Int32} {S : HS} (h1 : P_X11_isDigit_0 Q1 v0 S) (h2 : P_X11_isDigit_0 Q2 v0 S) (hq : ∀ (r : Int32) (T : HS), Q1 r T → Q2 r T → Q3 r T) : P_X11_isDigit_0 Q3 v0 S := by
  delta P_X11_isDigit_0 at h1 h2 ⊢
  refine ⟨?_, ?_⟩
  · intro c1
    have h1 := h1.1 c1
    have h2 := h2.1 c1
    exact hq _ _ h1 h2
  · intro c2
    have h1 := h1.2 c2
    have h2 := h2.2 c2
    refine ⟨?_, ?_⟩
    · intro c3
      have h1 := h1.1 c3
      have h2 := h2.1 c3
      exact hq _ _ h1 h2
    · intro c4
      have h1 := h1.2 c4
      have h2 := h2.2 c4
      exact hq _ _ h1 h2
theorem cm_X11_isDigit {Q1 Q2 Q3 : Int32 → HS → Prop} {v0 : Int32} {S : HS} (h1 : P_X11_isDigit v0 Q1 S) (h2 : P_X11_isDigit v0 Q2 S) (hq : ∀ (r : Int32) (T : HS), Q1 r T → Q2 r T → Q3 r T) : P_X11_isDigit v0 Q3 S := cm_X11_isDigit_0 h1 h2 hq
set_option maxRecDepth 20000 in
set_option maxHeartbeats 1000000 in
theorem cm_X11_isLetter_0 {Q1 Q2 Q3 : Int32 → HS → Prop} {v0 : Int32} {S : HS} (h1 : P_X11_isLetter_0 Q1 v0 S) (h2 : P_X11_isLetter_0 Q2 v0 S) (hq : ∀ (r : Int32) (T : HS), Q1 r T → Q2 r T → Q3 r T) : P_X11_isLetter_0 Q3 v0 S := by
  delta P_X11_isLetter_0 at h1 h2 ⊢
  refine ⟨?_, ?_⟩
  · intro c1
    have h1 := h1.1 c1
    have h2 := h2.1 c1
    exact hq _ _ h1 h2
  · intro c2
    have h1 := h1.2 c2
    have h2 := h2.2 c2
    refine ⟨?_, ?_⟩
    · intro c3
      have h1 := h1.1 c3
      have h2 := h2.1 c3
      exact hq _ _ h1 h2
    · intro c4
      have h1 := h1.2 c4
      have h2 := h2.2 c4
      exact hq _ _ h1 h2
theorem cm_X11_isLetter {Q1 Q2 Q3 : Int32 → HS → Prop} {v0 : Int32} {S : HS} (h1 : P_X11_isLetter v0 Q1 S) (h2 : P_X11_isLetter v0 Q2 S) (hq : ∀ (r : Int32) (T : HS), Q1 r T → Q2 r T → Q3 r T) : P_X11_isLetter v0 Q3 S := cm_X11_isLetter_0 h1 h2 hq
set_option maxRecDepth 20000 in
set_option maxHeartbeats 1000000 in
theorem cm_X11_goesOn_136 {Q1 Q2 Q3 : HS → Prop} {X89_1 X89_2 X89_3 : Nat → Int32 → HS → Prop} {v0 : Nat} {v2 : Int32} {S : HS} (h1 : P_X11_goesOn_136 Q1 X89_1 v0 v2 S) (h2 : P_X11_goesOn_136 Q2 X89_2 v0 v2 S) (hq : ∀ (T : HS), Q1 T → Q2 T → Q3 T) (hX89 : ∀ (u0 : Nat) (u1 : Int32) (u2 : HS), X89_1 u0 u1 u2 → X89_2 u0 u1 u2 → X89_3 u0 u1 u2) : P_X11_goesOn_136 Q3 X89_3 v0 v2 S := by
  delta P_X11_goesOn_136 at h1 h2 ⊢
  intro x2 e1
  have h1 := h1 x2 e1
  have h2 := h2 x2 e1
  obtain ⟨c3, h1⟩ := h1
  obtain ⟨_, h2⟩ := h2
  refine ⟨c3, ?_⟩
  intro x5 e4
  have h1 := h1 x5 e4
  have h2 := h2 x5 e4
  intro x7 e6
  have h1 := h1 x7 e6
  have h2 := h2 x7 e6
  intro x9 e8
  have h1 := h1 x9 e8
  have h2 := h2 x9 e8
  exact hX89 _ _ _ h1 h2
set_option maxRecDepth 20000 in
set_option maxHeartbeats 1000000 in
theorem cmB_X11_goesOn_89 {Q1 Q2 Q3 : HS → Prop} {X89_1 X89_2 X89_3 : Nat → Int32 → HS → Prop} {v0 : Nat} {v2 : Int32} {S : HS} (h1 : B_X11_goesOn_89 Q1 X89_1 v0 v2 S) (h2 : B_X11_goesOn_89 Q2 X89_2 v0 v2 S) (hq : ∀ (T : HS), Q1 T → Q2 T → Q3 T) (hX89 : ∀ (u0 : Nat) (u1 : Int32) (u2 : HS), X89_1 u0 u1 u2 → X89_2 u0 u1 u2 → X89_3 u0 u1 u2) : B_X11_goesOn_89 Q3 X89_3 v0 v2 S := by
  delta B_X11_goesOn_89 at h1 h2 ⊢
  obtain ⟨c1, h1⟩ := h1
  obtain ⟨_, h2⟩ := h2
  refine ⟨c1, ?_⟩
  intro x3 e2
  have h1 := h1 x3 e2
  have h2 := h2 x3 e2
  refine cm_X11_byteAt h1 h2 (fun x4 x5 h1 h2 g6 => ?_)
  have h1 := h1 g6
  have h2 := h2 g6
  refine cm_X11_isLetter h1 h2 (fun x7 x8 h1 h2 g9 g10 => ?_)
  have h1 := h1 g9 g10
  have h2 := h2 g9 g10
  refine ⟨?_, ?_⟩
  · intro c11
    have h1 := h1.1 c11
    have h2 := h2.1 c11
    refine ⟨?_, ?_⟩
    · intro c12
      have h1 := h1.1 c12
      have h2 := h2.1 c12
      exact hq _ h1 h2
    · intro c13
      have h1 := h1.2 c13
      have h2 := h2.2 c13
      intro x15 e14
      have h1 := h1 x15 e14
      have h2 := h2 x15 e14
      exact hq _ h1 h2
  · intro c16
    have h1 := h1.2 c16
    have h2 := h2.2 c16
    refine ⟨?_, ?_⟩
    · intro c17
      have h1 := h1.1 c17
      have h2 := h2.1 c17
      exact cm_X11_goesOn_136 h1 h2 hq hX89
    · intro c18
      have h1 := h1.2 c18
      have h2 := h2.2 c18
      intro x20 e19
      have h1 := h1 x20 e19
      have h2 := h2 x20 e19
      intro x22 e21
      have h1 := h1 x22 e21
      have h2 := h2 x22 e21
      refine cm_X11_byteAt h1 h2 (fun x23 x24 h1 h2 g25 => ?_)
      have h1 := h1 g25
      have h2 := h2 g25
      intro x27 e26
      have h1 := h1 x27 e26
      have h2 := h2 x27 e26
      intro x29 e28
      have h1 := h1 x29 e28
      have h2 := h2 x29 e28
      exact cm_X11_goesOn_136 h1 h2 hq hX89
theorem fd_X11_goesOn_89 {Q : HS → Prop} {v0 : Nat} {v2 : Int32} {S : HS} (h : B_X11_goesOn_89 Q (P_X11_goesOn_89 Q) v0 v2 S) : P_X11_goesOn_89 Q v0 v2 S := fun X hX => hX v0 v2 S (cmB_X11_goesOn_89 h h (fun _ a _ => a) (fun _ _ _ hp _ => hp X hX))
theorem uf_X11_goesOn_89 {Q : HS → Prop} {v0 : Nat} {v2 : Int32} {S : HS} (h : P_X11_goesOn_89 Q v0 v2 S) : B_X11_goesOn_89 Q (P_X11_goesOn_89 Q) v0 v2 S := h (fun v0 v2 S => B_X11_goesOn_89 Q (P_X11_goesOn_89 Q) v0 v2 S) (fun v0 v2 S hB => cmB_X11_goesOn_89 hB hB (fun _ a _ => a) (fun _ _ _ hb _ => fd_X11_goesOn_89 hb))
theorem cm_X11_goesOn_89 {Q1 Q2 Q3 : HS → Prop} {v0 : Nat} {v2 : Int32} {S : HS} (h1 : P_X11_goesOn_89 Q1 v0 v2 S) (h2 : P_X11_goesOn_89 Q2 v0 v2 S) (hq : ∀ (T : HS), Q1 T → Q2 T → Q3 T) : P_X11_goesOn_89 Q3 v0 v2 S := h1 (fun v0 v2 S => P_X11_goesOn_89 Q2 v0 v2 S → P_X11_goesOn_89 Q3 v0 v2 S) (fun v0 v2 S hB hp => fd_X11_goesOn_89 (cmB_X11_goesOn_89 hB (uf_X11_goesOn_89 hp) hq (fun _ _ _ hx hp => hx hp))) h2
set_option maxRecDepth 20000 in
set_option maxHeartbeats 1000000 in
theorem cm_X11_goesOn_220 {Q1 Q2 Q3 : HS → Prop} {X178_1 X178_2 X178_3 : Nat → Int32 → HS → Prop} {v0 : Nat} {v2 : Int32} {S : HS} (h1 : P_X11_goesOn_220 Q1 X178_1 v0 v2 S) (h2 : P_X11_goesOn_220 Q2 X178_2 v0 v2 S) (hq : ∀ (T : HS), Q1 T → Q2 T → Q3 T) (hX178 : ∀ (u0 : Nat) (u1 : Int32) (u2 : HS), X178_1 u0 u1 u2 → X178_2 u0 u1 u2 → X178_3 u0 u1 u2) : P_X11_goesOn_220 Q3 X178_3 v0 v2 S := by
  delta P_X11_goesOn_220 at h1 h2 ⊢
  intro x2 e1
  have h1 := h1 x2 e1
  have h2 := h2 x2 e1
  obtain ⟨c3, h1⟩ := h1
  obtain ⟨_, h2⟩ := h2
  refine ⟨c3, ?_⟩
  intro x5 e4
  have h1 := h1 x5 e4
  have h2 := h2 x5 e4
  intro x7 e6
  have h1 := h1 x7 e6
  have h2 := h2 x7 e6
  intro x9 e8
  have h1 := h1 x9 e8
  have h2 := h2 x9 e8
  exact hX178 _ _ _ h1 h2
set_option maxRecDepth 20000 in
set_option maxHeartbeats 1000000 in
theorem cmB_X11_goesOn_178 {Q1 Q2 Q3 : HS → Prop} {X178_1 X178_2 X178_3 : Nat → Int32 → HS → Prop} {v0 : Nat} {v2 : Int32} {S : HS} (h1 : B_X11_goesOn_178 Q1 X178_1 v0 v2 S) (h2 : B_X11_goesOn_178 Q2 X178_2 v0 v2 S) (hq : ∀ (T : HS), Q1 T → Q2 T → Q3 T) (hX178 : ∀ (u0 : Nat) (u1 : Int32) (u2 : HS), X178_1 u0 u1 u2 → X178_2 u0 u1 u2 → X178_3 u0 u1 u2) : B_X11_goesOn_178 Q3 X178_3 v0 v2 S := by
  delta B_X11_goesOn_178 at h1 h2 ⊢
  obtain ⟨c1, h1⟩ := h1
  obtain ⟨_, h2⟩ := h2
  refine ⟨c1, ?_⟩
  intro x3 e2
  have h1 := h1 x3 e2
  have h2 := h2 x3 e2
  refine cm_X11_byteAt h1 h2 (fun x4 x5 h1 h2 g6 => ?_)
  have h1 := h1 g6
  have h2 := h2 g6
  refine cm_X11_isDigit h1 h2 (fun x7 x8 h1 h2 g9 g10 => ?_)
  have h1 := h1 g9 g10
  have h2 := h2 g9 g10
  refine ⟨?_, ?_⟩
  · intro c11
    have h1 := h1.1 c11
    have h2 := h2.1 c11
    refine ⟨?_, ?_⟩
    · intro c12
      have h1 := h1.1 c12
      have h2 := h2.1 c12
      exact hq _ h1 h2
    · intro c13
      have h1 := h1.2 c13
      have h2 := h2.2 c13
      intro x15 e14
      have h1 := h1 x15 e14
      have h2 := h2 x15 e14
      exact hq _ h1 h2
  · intro c16
    have h1 := h1.2 c16
    have h2 := h2.2 c16
    refine ⟨?_, ?_⟩
    · intro c17
      have h1 := h1.1 c17
      have h2 := h2.1 c17
      exact cm_X11_goesOn_220 h1 h2 hq hX178
    · intro c18
      have h1 := h1.2 c18
      have h2 := h2.2 c18
      intro x20 e19
      have h1 := h1 x20 e19
      have h2 := h2 x20 e19
      intro x22 e21
      have h1 := h1 x22 e21
      have h2 := h2 x22 e21
      refine cm_X11_byteAt h1 h2 (fun x23 x24 h1 h2 g25 => ?_)
      have h1 := h1 g25
      have h2 := h2 g25
      intro x27 e26
      have h1 := h1 x27 e26
      have h2 := h2 x27 e26
      intro x29 e28
      have h1 := h1 x29 e28
      have h2 := h2 x29 e28
      exact cm_X11_goesOn_220 h1 h2 hq hX178
theorem fd_X11_goesOn_178 {Q : HS → Prop} {v0 : Nat} {v2 : Int32} {S : HS} (h : B_X11_goesOn_178 Q (P_X11_goesOn_178 Q) v0 v2 S) : P_X11_goesOn_178 Q v0 v2 S := fun X hX => hX v0 v2 S (cmB_X11_goesOn_178 h h (fun _ a _ => a) (fun _ _ _ hp _ => hp X hX))
theorem uf_X11_goesOn_178 {Q : HS → Prop} {v0 : Nat} {v2 : Int32} {S : HS} (h : P_X11_goesOn_178 Q v0 v2 S) : B_X11_goesOn_178 Q (P_X11_goesOn_178 Q) v0 v2 S := h (fun v0 v2 S => B_X11_goesOn_178 Q (P_X11_goesOn_178 Q) v0 v2 S) (fun v0 v2 S hB => cmB_X11_goesOn_178 hB hB (fun _ a _ => a) (fun _ _ _ hb _ => fd_X11_goesOn_178 hb))
theorem cm_X11_goesOn_178 {Q1 Q2 Q3 : HS → Prop} {v0 : Nat} {v2 : Int32} {S : HS} (h1 : P_X11_goesOn_178 Q1 v0 v2 S) (h2 : P_X11_goesOn_178 Q2 v0 v2 S) (hq : ∀ (T : HS), Q1 T → Q2 T → Q3 T) : P_X11_goesOn_178 Q3 v0 v2 S := h1 (fun v0 v2 S => P_X11_goesOn_178 Q2 v0 v2 S → P_X11_goesOn_178 Q3 v0 v2 S) (fun v0 v2 S hB hp => fd_X11_goesOn_178 (cmB_X11_goesOn_178 hB (uf_X11_goesOn_178 hp) hq (fun _ _ _ hx hp => hx hp))) h2
set_option maxRecDepth 20000 in
set_option maxHeartbeats 1000000 in
theorem cm_X11_goesOn_261 {Q1 Q2 Q3 : HS → Prop} {v0 : Nat} {v1 : Int32} {S : HS} (h1 : P_X11_goesOn_261 Q1 v0 v1 S) (h2 : P_X11_goesOn_261 Q2 v0 v1 S) (hq : ∀ (T : HS), Q1 T → Q2 T → Q3 T) : P_X11_goesOn_261 Q3 v0 v1 S := by
  delta P_X11_goesOn_261 at h1 h2 ⊢
  obtain ⟨c1, h1⟩ := h1
  obtain ⟨_, h2⟩ := h2
  refine ⟨c1, ?_⟩
  intro x3 e2
  have h1 := h1 x3 e2
  have h2 := h2 x3 e2
  intro x5 e4
  have h1 := h1 x5 e4
  have h2 := h2 x5 e4
  intro x7 e6
  have h1 := h1 x7 e6
  have h2 := h2 x7 e6
  intro x9 e8
  have h1 := h1 x9 e8
  have h2 := h2 x9 e8
  intro x11 e10
  have h1 := h1 x11 e10
  have h2 := h2 x11 e10
  exact hq _ h1 h2
set_option maxRecDepth 20000 in
set_option maxHeartbeats 1000000 in
theorem cmB_X11_goesOn_9 {Q1 Q2 Q3 : HS → Prop} {X9_1 X9_2 X9_3 : Nat → HS → Prop} {v0 : Nat} {S : HS} (h1 : B_X11_goesOn_9 Q1 X9_1 v0 S) (h2 : B_X11_goesOn_9 Q2 X9_2 v0 S) (hq : ∀ (T : HS), Q1 T → Q2 T → Q3 T) (hX9 : ∀ (u0 : Nat) (u1 : HS), X9_1 u0 u1 → X9_2 u0 u1 → X9_3 u0 u1) : B_X11_goesOn_9 Q3 X9_3 v0 S := by
  delta B_X11_goesOn_9 at h1 h2 ⊢
  obtain ⟨c1, h1⟩ := h1
  obtain ⟨_, h2⟩ := h2
  refine ⟨c1, ?_⟩
  intro x3 e2
  have h1 := h1 x3 e2
  have h2 := h2 x3 e2
  refine cm_X11_byteAt h1 h2 (fun x4 x5 h1 h2 g6 => ?_)
  have h1 := h1 g6
  have h2 := h2 g6
  refine ⟨?_, ?_⟩
  · intro c7
    have h1 := h1.1 c7
    have h2 := h2.1 c7
    intro x9 e8
    have h1 := h1 x9 e8
    have h2 := h2 x9 e8
    intro x11 e10
    have h1 := h1 x11 e10
    have h2 := h2 x11 e10
    intro x13 e12
    have h1 := h1 x13 e12
    have h2 := h2 x13 e12
    intro x15 e14
    have h1 := h1 x15 e14
    have h2 := h2 x15 e14
    intro x17 e16
    have h1 := h1 x17 e16
    have h2 := h2 x17 e16
    refine cm_X11_byteAt h1 h2 (fun x18 x19 h1 h2 g20 => ?_)
    have h1 := h1 g20
    have h2 := h2 g20
    refine ⟨?_, ?_⟩
    · intro c21
      have h1 := h1.1 c21
      have h2 := h2.1 c21
      refine cm_X11_isLetter h1 h2 (fun x22 x23 h1 h2 g24 g25 => ?_)
      have h1 := h1 g24 g25
      have h2 := h2 g24 g25
      refine ⟨?_, ?_⟩
      · intro c26
        have h1 := h1.1 c26
        have h2 := h2.1 c26
        refine cm_X11_isDigit h1 h2 (fun x27 x28 h1 h2 g29 g30 => ?_)
        have h1 := h1 g29 g30
        have h2 := h2 g29 g30
        refine ⟨?_, ?_⟩
        · intro c31
          have h1 := h1.1 c31
          have h2 := h2.1 c31
          refine ⟨?_, ?_⟩
          · intro c32
            have h1 := h1.1 c32
            have h2 := h2.1 c32
            exact cm_X11_goesOn_261 h1 h2 hq
          · intro c33
            have h1 := h1.2 c33
            have h2 := h2.2 c33
            refine ⟨?_, ?_⟩
            · intro c34
              have h1 := h1.1 c34
              have h2 := h2.1 c34
              exact hq _ h1 h2
            · intro c35
              have h1 := h1.2 c35
              have h2 := h2.2 c35
              exact cm_X11_goesOn_261 h1 h2 hq
        · intro c36
          have h1 := h1.2 c36
          have h2 := h2.2 c36
          intro x38 e37
          have h1 := h1 x38 e37
          have h2 := h2 x38 e37
          exact cm_X11_goesOn_178 h1 h2 hq
      · intro c39
        have h1 := h1.2 c39
        have h2 := h2.2 c39
        intro x41 e40
        have h1 := h1 x41 e40
        have h2 := h2 x41 e40
        exact cm_X11_goesOn_89 h1 h2 hq
    · intro c42
      have h1 := h1.2 c42
      have h2 := h2.2 c42
      intro x44 e43
      have h1 := h1 x44 e43
      have h2 := h2 x44 e43
      exact hq _ h1 h2
  · intro c45
    have h1 := h1.2 c45
    have h2 := h2.2 c45
    intro x47 e46
    have h1 := h1 x47 e46
    have h2 := h2 x47 e46
    intro x49 e48
    have h1 := h1 x49 e48
    have h2 := h2 x49 e48
    intro x51 e50
    have h1 := h1 x51 e50
    have h2 := h2 x51 e50
    exact hX9 _ _ h1 h2
theorem fd_X11_goesOn_9 {Q : HS → Prop} {v0 : Nat} {S : HS} (h : B_X11_goesOn_9 Q (P_X11_goesOn_9 Q) v0 S) : P_X11_goesOn_9 Q v0 S := fun X hX => hX v0 S (cmB_X11_goesOn_9 h h (fun _ a _ => a) (fun _ _ hp _ => hp X hX))
theorem uf_X11_goesOn_9 {Q : HS → Prop} {v0 : Nat} {S : HS} (h : P_X11_goesOn_9 Q v0 S) : B_X11_goesOn_9 Q (P_X11_goesOn_9 Q) v0 S := h (fun v0 S => B_X11_goesOn_9 Q (P_X11_goesOn_9 Q) v0 S) (fun v0 S hB => cmB_X11_goesOn_9 hB hB (fun _ a _ => a) (fun _ _ hb _ => fd_X11_goesOn_9 hb))
theorem cm_X11_goesOn_9 {Q1 Q2 Q3 : HS → Prop} {v0 : Nat} {S : HS} (h1 : P_X11_goesOn_9 Q1 v0 S) (h2 : P_X11_goesOn_9 Q2 v0 S) (hq : ∀ (T : HS), Q1 T → Q2 T → Q3 T) : P_X11_goesOn_9 Q3 v0 S := h1 (fun v0 S => P_X11_goesOn_9 Q2 v0 S → P_X11_goesOn_9 Q3 v0 S) (fun v0 S hB hp => fd_X11_goesOn_9 (cmB_X11_goesOn_9 hB (uf_X11_goesOn_9 hp) hq (fun _ _ hx hp => hx hp))) h2
set_option maxRecDepth 20000 in
set_option maxHeartbeats 1000000 in
theorem cm_X11_goesOn_0 {Q1 Q2 Q3 : HS → Prop} {v0 : Nat} {S : HS} (h1 : P_X11_goesOn_0 Q1 v0 S) (h2 : P_X11_goesOn_0 Q2 v0 S) (hq : ∀ (T : HS), Q1 T → Q2 T → Q3 T) : P_X11_goesOn_0 Q3 v0 S := by
  delta P_X11_goesOn_0 at h1 h2 ⊢
  obtain ⟨c1, h1⟩ := h1
  obtain ⟨_, h2⟩ := h2
  refine ⟨c1, ?_⟩
  intro x3 e2
  have h1 := h1 x3 e2
  have h2 := h2 x3 e2
  refine ⟨?_, ?_⟩
  · intro c4
    have h1 := h1.1 c4
    have h2 := h2.1 c4
    exact cm_X11_goesOn_9 h1 h2 hq
  · intro c5
    have h1 := h1.2 c5
    have h2 := h2.2 c5
    exact hq _ h1 h2
theorem cm_X11_goesOn {Q1 Q2 Q3 : HS → Prop} {v0 : Nat} {S : HS} (h1 : P_X11_goesOn v0 Q1 S) (h2 : P_X11_goesOn v0 Q2 S) (hq : ∀ (T : HS), Q1 T → Q2 T → Q3 T) : P_X11_goesOn v0 Q3 S := cm_X11_goesOn_0 h1 h2 hq
set_option maxRecDepth 20000 in
set_option maxHeartbeats 1000000 in
theorem cm_X11_begins_26 {Q1 Q2 Q3 : HS → Prop} {v0 : Nat} {S : HS} (h1 : P_X11_begins_26 Q1 v0 S) (h2 : P_X11_begins_26 Q2 v0 S) (hq : ∀ (T : HS), Q1 T → Q2 T → Q3 T) : P_X11_begins_26 Q3 v0 S := by
  delta P_X11_begins_26 at h1 h2 ⊢
  obtain ⟨c1, h1⟩ := h1
  obtain ⟨_, h2⟩ := h2
  refine ⟨c1, ?_⟩
  refine cm_X11_goesOn h1 h2 (fun x2 h1 h2 g3 => ?_)
  have h1 := h1 g3
  have h2 := h2 g3
  exact hq _ h1 h2
set_option maxRecDepth 20000 in
set_option maxHeartbeats 1000000 in
theorem cm_X11_begins_10 {Q1 Q2 Q3 : HS → Prop} {v0 : Nat} {S : HS} (h1 : P_X11_begins_10 Q1 v0 S) (h2 : P_X11_begins_10 Q2 v0 S) (hq : ∀ (T : HS), Q1 T → Q2 T → Q3 T) : P_X11_begins_10 Q3 v0 S := by
  delta P_X11_begins_10 at h1 h2 ⊢
  obtain ⟨c1, h1⟩ := h1
  obtain ⟨_, h2⟩ := h2
  refine ⟨c1, ?_⟩
  obtain ⟨b2, e3, h1⟩ := h1
  obtain ⟨b4, e5, h2⟩ := h2
  cases e3.symm.trans e5
  refine ⟨b2, e3, ?_⟩
  obtain ⟨c6, h1⟩ := h1
  obtain ⟨_, h2⟩ := h2
  refine ⟨c6, ?_⟩
  intro x8 e7
  have h1 := h1 x8 e7
  have h2 := h2 x8 e7
  refine ⟨?_, ?_⟩
  · intro c9
    have h1 := h1.1 c9
    have h2 := h2.1 c9
    exact cm_X11_begins_26 h1 h2 hq
  · intro c10
    have h1 := h1.2 c10
    have h2 := h2.2 c10
    refine cm_X11_flaw h1 h2 (fun x11 h1 h2 g12 => ?_)
    have h1 := h1 g12
    have h2 := h2 g12
    exact cm_X11_begins_26 h1 h2 hq
set_option maxRecDepth 20000 in
set_option maxHeartbeats 1000000 in
theorem cm_X11_begins_0 {Q1 Q2 Q3 : HS → Prop} {v0 : Nat} {v1 : Int32} {v2 : Int32} {S : HS} (h1 : P_X11_begins_0 Q1 v0 v1 v2 S) (h2 : P_X11_begins_0 Q2 v0 v1 v2 S) (hq : ∀ (T : HS), Q1 T → Q2 T → Q3 T) : P_X11_begins_0 Q3 v0 v1 v2 S := by
  delta P_X11_begins_0 at h1 h2 ⊢
  refine ⟨?_, ?_⟩
  · intro c1
    have h1 := h1.1 c1
    have h2 := h2.1 c1
    exact cm_X11_begins_10 h1 h2 hq
  · intro c2
    have h1 := h1.2 c2
    have h2 := h2.2 c2
    obtain ⟨c3, h1⟩ := h1
    obtain ⟨_, h2⟩ := h2
    refine ⟨c3, ?_⟩
    refine cm_X11_flaw h1 h2 (fun x4 h1 h2 g5 => ?_)
    have h1 := h1 g5
    have h2 := h2 g5
    exact cm_X11_begins_10 h1 h2 hq
theorem cm_X11_begins {Q1 Q2 Q3 : HS → Prop} {v0 : Nat} {v1 : Int32} {v2 : Int32} {S : HS} (h1 : P_X11_begins v0 v1 v2 Q1 S) (h2 : P_X11_begins v0 v1 v2 Q2 S) (hq : ∀ (T : HS), Q1 T → Q2 T → Q3 T) : P_X11_begins v0 v1 v2 Q3 S := cm_X11_begins_0 h1 h2 hq
set_option maxRecDepth 20000 in
set_option maxHeartbeats 1000000 in
theorem cm_X11_isForward_112 {Q1 Q2 Q3 : Int32 → HS → Prop} {v0 : Nat} {v4 : Int32} {v7 : Int32} {v8 : Int32} {v9 : Int32} {s0 : Int32} {S : HS} (h1 : P_X11_isForward_112 Q1 v0 v4 v7 v8 v9 s0 S) (h2 : P_X11_isForward_112 Q2 v0 v4 v7 v8 v9 s0 S) (hq : ∀ (r : Int32) (T : HS), Q1 r T → Q2 r T → Q3 r T) : P_X11_isForward_112 Q3 v0 v4 v7 v8 v9 s0 S := by
  delta P_X11_isForward_112 at h1 h2 ⊢
  refine ⟨?_, ?_⟩
  · intro c1
    have h1 := h1.1 c1
    have h2 := h2.1 c1
    exact hq _ _ h1 h2
  · intro c2
    have h1 := h1.2 c2
    have h2 := h2.2 c2
    refine ⟨?_, ?_⟩
    · intro c3
      have h1 := h1.1 c3
      have h2 := h2.1 c3
      exact hq _ _ h1 h2
    · intro c4
      have h1 := h1.2 c4
      have h2 := h2.2 c4
      obtain ⟨c5, h1⟩ := h1
      obtain ⟨_, h2⟩ := h2
      refine ⟨c5, ?_⟩
      obtain ⟨b6, e7, h1⟩ := h1
      obtain ⟨b8, e9, h2⟩ := h2
      cases e7.symm.trans e9
      refine ⟨b6, e7, ?_⟩
      obtain ⟨c10, h1⟩ := h1
      obtain ⟨_, h2⟩ := h2
      refine ⟨c10, ?_⟩
      obtain ⟨b11, e12, h1⟩ := h1
      obtain ⟨b13, e14, h2⟩ := h2
      cases e12.symm.trans e14
      refine ⟨b11, e12, ?_⟩
      obtain ⟨c15, h1⟩ := h1
      obtain ⟨_, h2⟩ := h2
      refine ⟨c15, ?_⟩
      obtain ⟨c16, h1⟩ := h1
      obtain ⟨_, h2⟩ := h2
      refine ⟨c16, ?_⟩
      intro x18 e17
      have h1 := h1 x18 e17
      have h2 := h2 x18 e17
      obtain ⟨b19, e20, h1⟩ := h1
      obtain ⟨b21, e22, h2⟩ := h2
      cases e20.symm.trans e22
      refine ⟨b19, e20, ?_⟩
      obtain ⟨c23, h1⟩ := h1
      obtain ⟨_, h2⟩ := h2
      refine ⟨c23, ?_⟩
      obtain ⟨b24, e25, h1⟩ := h1
      obtain ⟨b26, e27, h2⟩ := h2
      cases e25.symm.trans e27
      refine ⟨b24, e25, ?_⟩
      obtain ⟨c28, h1⟩ := h1
      obtain ⟨_, h2⟩ := h2
      refine ⟨c28, ?_⟩
      obtain ⟨c29, h1⟩ := h1
      obtain ⟨_, h2⟩ := h2
      refine ⟨c29, ?_⟩
      intro x31 e30
      have h1 := h1 x31 e30
      have h2 := h2 x31 e30
      obtain ⟨b32, e33, h1⟩ := h1
      obtain ⟨b34, e35, h2⟩ := h2
      cases e33.symm.trans e35
      refine ⟨b32, e33, ?_⟩
      obtain ⟨c36, h1⟩ := h1
      obtain ⟨_, h2⟩ := h2
      refine ⟨c36, ?_⟩
      obtain ⟨b37, e38, h1⟩ := h1
      obtain ⟨b39, e40, h2⟩ := h2
      cases e38.symm.trans e40
      refine ⟨b37, e38, ?_⟩
      obtain ⟨c41, h1⟩ := h1
      obtain ⟨_, h2⟩ := h2
      refine ⟨c41, ?_⟩
      obtain ⟨c42, h1⟩ := h1
      obtain ⟨_, h2⟩ := h2
      refine ⟨c42, ?_⟩
      intro x44 e43
      have h1 := h1 x44 e43
      have h2 := h2 x44 e43
      refine ⟨?_, ?_⟩
      · intro c45
        have h1 := h1.1 c45
        have h2 := h2.1 c45
        exact hq _ _ h1 h2
      · intro c46
        have h1 := h1.2 c46
        have h2 := h2.2 c46
        exact hq _ _ h1 h2
set_option maxRecDepth 20000 in
set_option maxHeartbeats 1000000 in
theorem cm_X11_isForward_84 {Q1 Q2 Q3 : Int32 → HS → Prop} {v0 : Nat} {v2 : Int32} {v4 : Int32} {v7 : Int32} {v8 : Int32} {s0 : Int32} {S : HS} (h1 : P_X11_isForward_84 Q1 v0 v2 v4 v7 v8 s0 S) (h2 : P_X11_isForward_84 Q2 v0 v2 v4 v7 v8 s0 S) (hq : ∀ (r : Int32) (T : HS), Q1 r T → Q2 r T → Q3 r T) : P_X11_isForward_84 Q3 v0 v2 v4 v7 v8 s0 S := by
  delta P_X11_isForward_84 at h1 h2 ⊢
  obtain ⟨c1, h1⟩ := h1
  obtain ⟨_, h2⟩ := h2
  refine ⟨c1, ?_⟩
  obtain ⟨b2, e3, h1⟩ := h1
  obtain ⟨b4, e5, h2⟩ := h2
  cases e3.symm.trans e5
  refine ⟨b2, e3, ?_⟩
  obtain ⟨c6, h1⟩ := h1
  obtain ⟨_, h2⟩ := h2
  refine ⟨c6, ?_⟩
  obtain ⟨b7, e8, h1⟩ := h1
  obtain ⟨b9, e10, h2⟩ := h2
  cases e8.symm.trans e10
  refine ⟨b7, e8, ?_⟩
  obtain ⟨c11, h1⟩ := h1
  obtain ⟨_, h2⟩ := h2
  refine ⟨c11, ?_⟩
  obtain ⟨c12, h1⟩ := h1
  obtain ⟨_, h2⟩ := h2
  refine ⟨c12, ?_⟩
  intro x14 e13
  have h1 := h1 x14 e13
  have h2 := h2 x14 e13
  obtain ⟨b15, e16, h1⟩ := h1
  obtain ⟨b17, e18, h2⟩ := h2
  cases e16.symm.trans e18
  refine ⟨b15, e16, ?_⟩
  obtain ⟨c19, h1⟩ := h1
  obtain ⟨_, h2⟩ := h2
  refine ⟨c19, ?_⟩
  obtain ⟨b20, e21, h1⟩ := h1
  obtain ⟨b22, e23, h2⟩ := h2
  cases e21.symm.trans e23
  refine ⟨b20, e21, ?_⟩
  obtain ⟨c24, h1⟩ := h1
  obtain ⟨_, h2⟩ := h2
  refine ⟨c24, ?_⟩
  obtain ⟨c25, h1⟩ := h1
  obtain ⟨_, h2⟩ := h2
  refine ⟨c25, ?_⟩
  intro x27 e26
  have h1 := h1 x27 e26
  have h2 := h2 x27 e26
  refine ⟨?_, ?_⟩
  · intro c28
    have h1 := h1.1 c28
    have h2 := h2.1 c28
    exact cm_X11_isForward_112 h1 h2 hq
  · intro c29
    have h1 := h1.2 c29
    have h2 := h2.2 c29
    exact cm_X11_isForward_112 h1 h2 hq
set_option maxRecDepth 20000 in
set_option maxHeartbeats 1000000 in
theorem cm_X11_isForward_54 {Q1 Q2 Q3 : Int32 → HS → Prop} {v0 : Nat} {v1 : Int32} {v2 : Int32} {v4 : Int32} {v6 : Int32} {v7 : Int32} {s0 : Int32} {S : HS} (h1 : P_X11_isForward_54 Q1 v0 v1 v2 v4 v6 v7 s0 S) (h2 : P_X11_isForward_54 Q2 v0 v1 v2 v4 v6 v7 s0 S) (hq : ∀ (r : Int32) (T : HS), Q1 r T → Q2 r T → Q3 r T) : P_X11_isForward_54 Q3 v0 v1 v2 v4 v6 v7 s0 S := by
  delta P_X11_isForward_54 at h1 h2 ⊢
  obtain ⟨c1, h1⟩ := h1
  obtain ⟨_, h2⟩ := h2
  refine ⟨c1, ?_⟩
  obtain ⟨b2, e3, h1⟩ := h1
  obtain ⟨b4, e5, h2⟩ := h2
  cases e3.symm.trans e5
  refine ⟨b2, e3, ?_⟩
  obtain ⟨c6, h1⟩ := h1
  obtain ⟨_, h2⟩ := h2
  refine ⟨c6, ?_⟩
  obtain ⟨b7, e8, h1⟩ := h1
  obtain ⟨b9, e10, h2⟩ := h2
  cases e8.symm.trans e10
  refine ⟨b7, e8, ?_⟩
  obtain ⟨c11, h1⟩ := h1
  obtain ⟨_, h2⟩ := h2
  refine ⟨c11, ?_⟩
  obtain ⟨c12, h1⟩ := h1
  obtain ⟨_, h2⟩ := h2
  refine ⟨c12, ?_⟩
  intro x14 e13
  have h1 := h1 x14 e13
  have h2 := h2 x14 e13
  refine ⟨?_, ?_⟩
  · intro c15
    have h1 := h1.1 c15
    have h2 := h2.1 c15
    obtain ⟨b16, e17, h1⟩ := h1
    obtain ⟨b18, e19, h2⟩ := h2
    cases e17.symm.trans e19
    refine ⟨b16, e17, ?_⟩
    obtain ⟨c20, h1⟩ := h1
    obtain ⟨_, h2⟩ := h2
    refine ⟨c20, ?_⟩
    obtain ⟨b21, e22, h1⟩ := h1
    obtain ⟨b23, e24, h2⟩ := h2
    cases e22.symm.trans e24
    refine ⟨b21, e22, ?_⟩
    obtain ⟨c25, h1⟩ := h1
    obtain ⟨_, h2⟩ := h2
    refine ⟨c25, ?_⟩
    obtain ⟨c26, h1⟩ := h1
    obtain ⟨_, h2⟩ := h2
    refine ⟨c26, ?_⟩
    intro x28 e27
    have h1 := h1 x28 e27
    have h2 := h2 x28 e27
    exact cm_X11_isForward_84 h1 h2 hq
  · intro c29
    have h1 := h1.2 c29
    have h2 := h2.2 c29
    exact cm_X11_isForward_84 h1 h2 hq
set_option maxRecDepth 20000 in
set_option maxHeartbeats 1000000 in
theorem cm_X11_isForward_0 {Q1 Q2 Q3 : Int32 → HS → Prop} {v0 : Nat} {v1 : Int32} {v2 : Int32} {v3 : Int32} {v4 : Int32} {v5 : Int32} {S : HS} (h1 : P_X11_isForward_0 Q1 v0 v1 v2 v3 v4 v5 S) (h2 : P_X11_isForward_0 Q2 v0 v1 v2 v3 v4 v5 S) (hq : ∀ (r : Int32) (T : HS), Q1 r T → Q2 r T → Q3 r T) : P_X11_isForward_0 Q3 v0 v1 v2 v3 v4 v5 S := by
  delta P_X11_isForward_0 at h1 h2 ⊢
  obtain ⟨c1, h1⟩ := h1
  obtain ⟨_, h2⟩ := h2
  refine ⟨c1, ?_⟩
  obtain ⟨b2, e3, h1⟩ := h1
  obtain ⟨b4, e5, h2⟩ := h2
  cases e3.symm.trans e5
  refine ⟨b2, e3, ?_⟩
  obtain ⟨c6, h1⟩ := h1
  obtain ⟨_, h2⟩ := h2
  refine ⟨c6, ?_⟩
  refine cm_X10_shield h1 h2 (fun x7 x8 h1 h2 g9 => ?_)
  have h1 := h1 g9
  have h2 := h2 g9
  obtain ⟨b10, e11, h1⟩ := h1
  obtain ⟨b12, e13, h2⟩ := h2
  cases e11.symm.trans e13
  refine ⟨b10, e11, ?_⟩
  obtain ⟨c14, h1⟩ := h1
  obtain ⟨_, h2⟩ := h2
  refine ⟨c14, ?_⟩
  refine cm_X10_air h1 h2 (fun x15 x16 h1 h2 g17 => ?_)
  have h1 := h1 g17
  have h2 := h2 g17
  intro x19 e18
  have h1 := h1 x19 e18
  have h2 := h2 x19 e18
  obtain ⟨b20, e21, h1⟩ := h1
  obtain ⟨b22, e23, h2⟩ := h2
  cases e21.symm.trans e23
  refine ⟨b20, e21, ?_⟩
  obtain ⟨c24, h1⟩ := h1
  obtain ⟨_, h2⟩ := h2
  refine ⟨c24, ?_⟩
  obtain ⟨b25, e26, h1⟩ := h1
  obtain ⟨b27, e28, h2⟩ := h2
  cases e26.symm.trans e28
  refine ⟨b25, e26, ?_⟩
  obtain ⟨c29, h1⟩ := h1
  obtain ⟨_, h2⟩ := h2
  refine ⟨c29, ?_⟩
  obtain ⟨c30, h1⟩ := h1
  obtain ⟨_, h2⟩ := h2
  refine ⟨c30, ?_⟩
  intro x32 e31
  have h1 := h1 x32 e31
  have h2 := h2 x32 e31
  refine ⟨?_, ?_⟩
  · intro c33
    have h1 := h1.1 c33
    have h2 := h2.1 c33
    obtain ⟨b34, e35, h1⟩ := h1
    obtain ⟨b36, e37, h2⟩ := h2
    cases e35.symm.trans e37
    refine ⟨b34, e35, ?_⟩
    obtain ⟨c38, h1⟩ := h1
    obtain ⟨_, h2⟩ := h2
    refine ⟨c38, ?_⟩
    obtain ⟨b39, e40, h1⟩ := h1
    obtain ⟨b41, e42, h2⟩ := h2
    cases e40.symm.trans e42
    refine ⟨b39, e40, ?_⟩
    obtain ⟨c43, h1⟩ := h1
    obtain ⟨_, h2⟩ := h2
    refine ⟨c43, ?_⟩
    obtain ⟨c44, h1⟩ := h1
    obtain ⟨_, h2⟩ := h2
    refine ⟨c44, ?_⟩
    intro x46 e45
    have h1 := h1 x46 e45
    have h2 := h2 x46 e45
    exact cm_X11_isForward_54 h1 h2 hq
  · intro c47
    have h1 := h1.2 c47
    have h2 := h2.2 c47
    exact cm_X11_isForward_54 h1 h2 hq
theorem cm_X11_isForward {Q1 Q2 Q3 : Int32 → HS → Prop} {v0 : Nat} {v1 : Int32} {v2 : Int32} {v3 : Int32} {v4 : Int32} {v5 : Int32} {S : HS} (h1 : P_X11_isForward v0 v1 v2 v3 v4 v5 Q1 S) (h2 : P_X11_isForward v0 v1 v2 v3 v4 v5 Q2 S) (hq : ∀ (r : Int32) (T : HS), Q1 r T → Q2 r T → Q3 r T) : P_X11_isForward v0 v1 v2 v3 v4 v5 Q3 S := cm_X11_isForward_0 h1 h2 hq
set_option maxRecDepth 20000 in
set_option maxHeartbeats 1000000 in
theorem cm_X11_less_0 {Q1 Q2 Q3 : Int32 → HS → Prop} {v0 : Int32} {v1 : Int32} {S : HS} (h1 : P_X11_less_0 Q1 v0 v1 S) (h2 : P_X11_less_0 Q2 v0 v1 S) (hq : ∀ (r : Int32) (T : HS), Q1 r T → Q2 r T → Q3 r T) : P_X11_less_0 Q3 v0 v1 S := by
  delta P_X11_less_0 at h1 h2 ⊢
  refine ⟨?_, ?_⟩
  · intro c1
    have h1 := h1.1 c1
    have h2 := h2.1 c1
    exact hq _ _ h1 h2
  · intro c2
    have h1 := h1.2 c2
    have h2 := h2.2 c2
    exact hq _ _ h1 h2
theorem cm_X11_less {Q1 Q2 Q3 : Int32 → HS → Prop} {v0 : Int32} {v1 : Int32} {S : HS} (h1 : P_X11_less v0 v1 Q1 S) (h2 : P_X11_less v0 v1 Q2 S) (hq : ∀ (r : Int32) (T : HS), Q1 r T → Q2 r T → Q3 r T) : P_X11_less v0 v1 Q3 S := cm_X11_less_0 h1 h2 hq
set_option maxRecDepth 20000 in
set_option maxHeartbeats 1000000 in
theorem cm_X11_inTime_129 {Q1 Q2 Q3 : Int32 → HS → Prop} {s0 : Int32} {s1 : Int32} {s2 : Int32} {S : HS} (h1 : P_X11_inTime_129 Q1 s0 s1 s2 S) (h2 : P_X11_inTime_129 Q2 s0 s1 s2 S) (hq : ∀ (r : Int32) (T : HS), Q1 r T → Q2 r T → Q3 r T) : P_X11_inTime_129 Q3 s0 s1 s2 S := by
  delta P_X11_inTime_129 at h1 h2 ⊢
  refine cm_X11_less h1 h2 (fun x1 x2 h1 h2 g3 => ?_)
  have h1 := h1 g3
  have h2 := h2 g3
  exact hq _ _ h1 h2
set_option maxRecDepth 20000 in
set_option maxHeartbeats 1000000 in
theorem cm_X11_inTime_164 {Q1 Q2 Q3 : Int32 → HS → Prop} {v7 : Int32} {s0 : Int32} {s1 : Int32} {s2 : Int32} {S : HS} (h1 : P_X11_inTime_164 Q1 v7 s0 s1 s2 S) (h2 : P_X11_inTime_164 Q2 v7 s0 s1 s2 S) (hq : ∀ (r : Int32) (T : HS), Q1 r T → Q2 r T → Q3 r T) : P_X11_inTime_164 Q3 v7 s0 s1 s2 S := by
  delta P_X11_inTime_164 at h1 h2 ⊢
  refine cm_X11_less h1 h2 (fun x1 x2 h1 h2 g3 => ?_)
  have h1 := h1 g3
  have h2 := h2 g3
  refine cm_X11_less h1 h2 (fun x4 x5 h1 h2 g6 => ?_)
  have h1 := h1 g6
  have h2 := h2 g6
  exact hq _ _ h1 h2
set_option maxRecDepth 20000 in
set_option maxHeartbeats 1000000 in
theorem cm_X11_inTime_0 {Q1 Q2 Q3 : Int32 → HS → Prop} {v0 : Nat} {v1 : Int32} {v2 : Int32} {v3 : Int32} {v4 : Int32} {v5 : Int32} {v6 : Int32} {v7 : Int32} {v8 : Int32} {S : HS} (h1 : P_X11_inTime_0 Q1 v0 v1 v2 v3 v4 v5 v6 v7 v8 S) (h2 : P_X11_inTime_0 Q2 v0 v1 v2 v3 v4 v5 v6 v7 v8 S) (hq : ∀ (r : Int32) (T : HS), Q1 r T → Q2 r T → Q3 r T) : P_X11_inTime_0 Q3 v0 v1 v2 v3 v4 v5 v6 v7 v8 S := by
  delta P_X11_inTime_0 at h1 h2 ⊢
  obtain ⟨c1, h1⟩ := h1
  obtain ⟨_, h2⟩ := h2
  refine ⟨c1, ?_⟩
  obtain ⟨b2, e3, h1⟩ := h1
  obtain ⟨b4, e5, h2⟩ := h2
  cases e3.symm.trans e5
  refine ⟨b2, e3, ?_⟩
  obtain ⟨c6, h1⟩ := h1
  obtain ⟨_, h2⟩ := h2
  refine ⟨c6, ?_⟩
  obtain ⟨b7, e8, h1⟩ := h1
  obtain ⟨b9, e10, h2⟩ := h2
  cases e8.symm.trans e10
  refine ⟨b7, e8, ?_⟩
  obtain ⟨c11, h1⟩ := h1
  obtain ⟨_, h2⟩ := h2
  refine ⟨c11, ?_⟩
  obtain ⟨c12, h1⟩ := h1
  obtain ⟨_, h2⟩ := h2
  refine ⟨c12, ?_⟩
  intro x14 e13
  have h1 := h1 x14 e13
  have h2 := h2 x14 e13
  obtain ⟨b15, e16, h1⟩ := h1
  obtain ⟨b17, e18, h2⟩ := h2
  cases e16.symm.trans e18
  refine ⟨b15, e16, ?_⟩
  obtain ⟨c19, h1⟩ := h1
  obtain ⟨_, h2⟩ := h2
  refine ⟨c19, ?_⟩
  refine cm_X10_air h1 h2 (fun x20 x21 h1 h2 g22 => ?_)
  have h1 := h1 g22
  have h2 := h2 g22
  intro x24 e23
  have h1 := h1 x24 e23
  have h2 := h2 x24 e23
  obtain ⟨b25, e26, h1⟩ := h1
  obtain ⟨b27, e28, h2⟩ := h2
  cases e26.symm.trans e28
  refine ⟨b25, e26, ?_⟩
  obtain ⟨c29, h1⟩ := h1
  obtain ⟨_, h2⟩ := h2
  refine ⟨c29, ?_⟩
  refine cm_X10_across h1 h2 (fun x30 x31 h1 h2 g32 => ?_)
  have h1 := h1 g32
  have h2 := h2 g32
  refine cm_X11_isForward h1 h2 (fun x33 x34 h1 h2 g35 g36 => ?_)
  have h1 := h1 g35 g36
  have h2 := h2 g35 g36
  obtain ⟨b37, e38, h1⟩ := h1
  obtain ⟨b39, e40, h2⟩ := h2
  cases e38.symm.trans e40
  refine ⟨b37, e38, ?_⟩
  obtain ⟨c41, h1⟩ := h1
  obtain ⟨_, h2⟩ := h2
  refine ⟨c41, ?_⟩
  refine cm_X10_shield h1 h2 (fun x42 x43 h1 h2 g44 => ?_)
  have h1 := h1 g44
  have h2 := h2 g44
  refine ⟨?_, ?_, ?_, ?_, ?_⟩
  · intro c45
    have h1 := h1.1 c45
    have h2 := h2.1 c45
    refine ⟨?_, ?_⟩
    · intro c46
      have h1 := h1.1 c46
      have h2 := h2.1 c46
      exact hq _ _ h1 h2
    · intro c47
      have h1 := h1.2 c47
      have h2 := h2.2 c47
      obtain ⟨b48, e49, h1⟩ := h1
      obtain ⟨b50, e51, h2⟩ := h2
      cases e49.symm.trans e51
      refine ⟨b48, e49, ?_⟩
      obtain ⟨c52, h1⟩ := h1
      obtain ⟨_, h2⟩ := h2
      refine ⟨c52, ?_⟩
      obtain ⟨b53, e54, h1⟩ := h1
      obtain ⟨b55, e56, h2⟩ := h2
      cases e54.symm.trans e56
      refine ⟨b53, e54, ?_⟩
      obtain ⟨c57, h1⟩ := h1
      obtain ⟨_, h2⟩ := h2
      refine ⟨c57, ?_⟩
      obtain ⟨c58, h1⟩ := h1
      obtain ⟨_, h2⟩ := h2
      refine ⟨c58, ?_⟩
      intro x60 e59
      have h1 := h1 x60 e59
      have h2 := h2 x60 e59
      exact hq _ _ h1 h2
  · intro c61
    have h1 := h1.2.1 c61
    have h2 := h2.2.1 c61
    obtain ⟨b62, e63, h1⟩ := h1
    obtain ⟨b64, e65, h2⟩ := h2
    cases e63.symm.trans e65
    refine ⟨b62, e63, ?_⟩
    obtain ⟨c66, h1⟩ := h1
    obtain ⟨_, h2⟩ := h2
    refine ⟨c66, ?_⟩
    obtain ⟨b67, e68, h1⟩ := h1
    obtain ⟨b69, e70, h2⟩ := h2
    cases e68.symm.trans e70
    refine ⟨b67, e68, ?_⟩
    obtain ⟨c71, h1⟩ := h1
    obtain ⟨_, h2⟩ := h2
    refine ⟨c71, ?_⟩
    obtain ⟨c72, h1⟩ := h1
    obtain ⟨_, h2⟩ := h2
    refine ⟨c72, ?_⟩
    intro x74 e73
    have h1 := h1 x74 e73
    have h2 := h2 x74 e73
    obtain ⟨b75, e76, h1⟩ := h1
    obtain ⟨b77, e78, h2⟩ := h2
    cases e76.symm.trans e78
    refine ⟨b75, e76, ?_⟩
    obtain ⟨c79, h1⟩ := h1
    obtain ⟨_, h2⟩ := h2
    refine ⟨c79, ?_⟩
    obtain ⟨b80, e81, h1⟩ := h1
    obtain ⟨b82, e83, h2⟩ := h2
    cases e81.symm.trans e83
    refine ⟨b80, e81, ?_⟩
    obtain ⟨c84, h1⟩ := h1
    obtain ⟨_, h2⟩ := h2
    refine ⟨c84, ?_⟩
    obtain ⟨c85, h1⟩ := h1
    obtain ⟨_, h2⟩ := h2
    refine ⟨c85, ?_⟩
    intro x87 e86
    have h1 := h1 x87 e86
    have h2 := h2 x87 e86
    refine ⟨?_, ?_⟩
    · intro c88
      have h1 := h1.1 c88
      have h2 := h2.1 c88
      exact cm_X11_inTime_129 h1 h2 hq
    · intro c89
      have h1 := h1.2 c89
      have h2 := h2.2 c89
      exact cm_X11_inTime_129 h1 h2 hq
  · intro c90
    have h1 := h1.2.2.1 c90
    have h2 := h2.2.2.1 c90
    refine ⟨?_, ?_⟩
    · intro c91
      have h1 := h1.1 c91
      have h2 := h2.1 c91
      exact hq _ _ h1 h2
    · intro c92
      have h1 := h1.2 c92
      have h2 := h2.2 c92
      obtain ⟨b93, e94, h1⟩ := h1
      obtain ⟨b95, e96, h2⟩ := h2
      cases e94.symm.trans e96
      refine ⟨b93, e94, ?_⟩
      obtain ⟨c97, h1⟩ := h1
      obtain ⟨_, h2⟩ := h2
      refine ⟨c97, ?_⟩
      obtain ⟨b98, e99, h1⟩ := h1
      obtain ⟨b100, e101, h2⟩ := h2
      cases e99.symm.trans e101
      refine ⟨b98, e99, ?_⟩
      obtain ⟨c102, h1⟩ := h1
      obtain ⟨_, h2⟩ := h2
      refine ⟨c102, ?_⟩
      obtain ⟨c103, h1⟩ := h1
      obtain ⟨_, h2⟩ := h2
      refine ⟨c103, ?_⟩
      intro x105 e104
      have h1 := h1 x105 e104
      have h2 := h2 x105 e104
      refine ⟨?_, ?_⟩
      · intro c106
        have h1 := h1.1 c106
        have h2 := h2.1 c106
        exact cm_X11_inTime_164 h1 h2 hq
      · intro c107
        have h1 := h1.2 c107
        have h2 := h2.2 c107
        exact cm_X11_inTime_164 h1 h2 hq
  · intro c108
    have h1 := h1.2.2.2.1 c108
    have h2 := h2.2.2.2.1 c108
    refine ⟨?_, ?_⟩
    · intro c109
      have h1 := h1.1 c109
      have h2 := h2.1 c109
      exact hq _ _ h1 h2
    · intro c110
      have h1 := h1.2 c110
      have h2 := h2.2 c110
      obtain ⟨b111, e112, h1⟩ := h1
      obtain ⟨b113, e114, h2⟩ := h2
      cases e112.symm.trans e114
      refine ⟨b111, e112, ?_⟩
      obtain ⟨c115, h1⟩ := h1
      obtain ⟨_, h2⟩ := h2
      refine ⟨c115, ?_⟩
      obtain ⟨b116, e117, h1⟩ := h1
      obtain ⟨b118, e119, h2⟩ := h2
      cases e117.symm.trans e119
      refine ⟨b116, e117, ?_⟩
      obtain ⟨c120, h1⟩ := h1
      obtain ⟨_, h2⟩ := h2
      refine ⟨c120, ?_⟩
      obtain ⟨c121, h1⟩ := h1
      obtain ⟨_, h2⟩ := h2
      refine ⟨c121, ?_⟩
      intro x123 e122
      have h1 := h1 x123 e122
      have h2 := h2 x123 e122
      refine cm_X11_less h1 h2 (fun x124 x125 h1 h2 g126 => ?_)
      have h1 := h1 g126
      have h2 := h2 g126
      exact hq _ _ h1 h2
  · intro c127
    have h1 := h1.2.2.2.2 c127
    have h2 := h2.2.2.2.2 c127
    refine ⟨?_, ?_⟩
    · intro c128
      have h1 := h1.1 c128
      have h2 := h2.1 c128
      exact hq _ _ h1 h2
    · intro c129
      have h1 := h1.2 c129
      have h2 := h2.2 c129
      obtain ⟨b130, e131, h1⟩ := h1
      obtain ⟨b132, e133, h2⟩ := h2
      cases e131.symm.trans e133
      refine ⟨b130, e131, ?_⟩
      obtain ⟨c134, h1⟩ := h1
      obtain ⟨_, h2⟩ := h2
      refine ⟨c134, ?_⟩
      obtain ⟨b135, e136, h1⟩ := h1
      obtain ⟨b137, e138, h2⟩ := h2
      cases e136.symm.trans e138
      refine ⟨b135, e136, ?_⟩
      obtain ⟨c139, h1⟩ := h1
      obtain ⟨_, h2⟩ := h2
      refine ⟨c139, ?_⟩
      obtain ⟨c140, h1⟩ := h1
      obtain ⟨_, h2⟩ := h2
      refine ⟨c140, ?_⟩
      intro x142 e141
      have h1 := h1 x142 e141
      have h2 := h2 x142 e141
      exact hq _ _ h1 h2
theorem cm_X11_inTime {Q1 Q2 Q3 : Int32 → HS → Prop} {v0 : Nat} {v1 : Int32} {v2 : Int32} {v3 : Int32} {v4 : Int32} {v5 : Int32} {v6 : Int32} {v7 : Int32} {v8 : Int32} {S : HS} (h1 : P_X11_inTime v0 v1 v2 v3 v4 v5 v6 v7 v8 Q1 S) (h2 : P_X11_inTime v0 v1 v2 v3 v4 v5 v6 v7 v8 Q2 S) (hq : ∀ (r : Int32) (T : HS), Q1 r T → Q2 r T → Q3 r T) : P_X11_inTime v0 v1 v2 v3 v4 v5 v6 v7 v8 Q3 S := cm_X11_inTime_0 h1 h2 hq
set_option maxRecDepth 20000 in
set_option maxHeartbeats 1000000 in
theorem cm_X11_partsOf_0 {Q1 Q2 Q3 : Int64 → HS → Prop} {v0 : Nat} {v1 : Int32} {v2 : Int32} {v3 : Int32} {v4 : Int32} {v5 : Int32} {v6 : Int32} {S : HS} (h1 : P_X11_partsOf_0 Q1 v0 v1 v2 v3 v4 v5 v6 S) (h2 : P_X11_partsOf_0 Q2 v0 v1 v2 v3 v4 v5 v6 S) (hq : ∀ (r : Int64) (T : HS), Q1 r T → Q2 r T → Q3 r T) : P_X11_partsOf_0 Q3 v0 v1 v2 v3 v4 v5 v6 S := by
  delta P_X11_partsOf_0 at h1 h2 ⊢
  obtain ⟨c1, h1⟩ := h1
  obtain ⟨_, h2⟩ := h2
  refine ⟨c1, ?_⟩
  refine cm_X11_inTime h1 h2 (fun x2 x3 h1 h2 g4 => ?_)
  have h1 := h1 g4
  have h2 := h2 g4
  obtain ⟨b5, e6, h1⟩ := h1
  obtain ⟨b7, e8, h2⟩ := h2
  cases e6.symm.trans e8
  refine ⟨b5, e6, ?_⟩
  obtain ⟨c9, h1⟩ := h1
  obtain ⟨_, h2⟩ := h2
  refine ⟨c9, ?_⟩
  obtain ⟨b10, e11, h1⟩ := h1
  obtain ⟨b12, e13, h2⟩ := h2
  cases e11.symm.trans e13
  refine ⟨b10, e11, ?_⟩
  obtain ⟨c14, h1⟩ := h1
  obtain ⟨_, h2⟩ := h2
  refine ⟨c14, ?_⟩
  obtain ⟨c15, h1⟩ := h1
  obtain ⟨_, h2⟩ := h2
  refine ⟨c15, ?_⟩
  intro x17 e16
  have h1 := h1 x17 e16
  have h2 := h2 x17 e16
  obtain ⟨b18, e19, h1⟩ := h1
  obtain ⟨b20, e21, h2⟩ := h2
  cases e19.symm.trans e21
  refine ⟨b18, e19, ?_⟩
  obtain ⟨c22, h1⟩ := h1
  obtain ⟨_, h2⟩ := h2
  refine ⟨c22, ?_⟩
  obtain ⟨b23, e24, h1⟩ := h1
  obtain ⟨b25, e26, h2⟩ := h2
  cases e24.symm.trans e26
  refine ⟨b23, e24, ?_⟩
  obtain ⟨c27, h1⟩ := h1
  obtain ⟨_, h2⟩ := h2
  refine ⟨c27, ?_⟩
  obtain ⟨c28, h1⟩ := h1
  obtain ⟨_, h2⟩ := h2
  refine ⟨c28, ?_⟩
  intro x30 e29
  have h1 := h1 x30 e29
  have h2 := h2 x30 e29
  obtain ⟨c31, h1⟩ := h1
  obtain ⟨_, h2⟩ := h2
  refine ⟨c31, ?_⟩
  intro x33 e32
  have h1 := h1 x33 e32
  have h2 := h2 x33 e32
  exact hq _ _ h1 h2
theorem cm_X11_partsOf {Q1 Q2 Q3 : Int64 → HS → Prop} {v0 : Nat} {v1 : Int32} {v2 : Int32} {v3 : Int32} {v4 : Int32} {v5 : Int32} {v6 : Int32} {S : HS} (h1 : P_X11_partsOf v0 v1 v2 v3 v4 v5 v6 Q1 S) (h2 : P_X11_partsOf v0 v1 v2 v3 v4 v5 v6 Q2 S) (hq : ∀ (r : Int64) (T : HS), Q1 r T → Q2 r T → Q3 r T) : P_X11_partsOf v0 v1 v2 v3 v4 v5 v6 Q3 S := cm_X11_partsOf_0 h1 h2 hq
set_option maxRecDepth 20000 in
set_option maxHeartbeats 1000000 in
theorem cmB_X11_wetOf_6 {Q1 Q2 Q3 : Int64 → HS → Prop} {X6_1 X6_2 X6_3 : Nat → Int32 → Int32 → Int32 → Int32 → Int32 → Int64 → Int32 → HS → Prop} {v0 : Nat} {v1 : Int32} {v2 : Int32} {v3 : Int32} {v4 : Int32} {v5 : Int32} {v6 : Int64} {v8 : Int32} {S : HS} (h1 : B_X11_wetOf_6 Q1 X6_1 v0 v1 v2 v3 v4 v5 v6 v8 S) (h2 : B_X11_wetOf_6 Q2 X6_2 v0 v1 v2 v3 v4 v5 v6 v8 S) (hq : ∀ (r : Int64) (T : HS), Q1 r T → Q2 r T → Q3 r T) (hX6 : ∀ (u0 : Nat) (u1 : Int32) (u2 : Int32) (u3 : Int32) (u4 : Int32) (u5 : Int32) (u6 : Int64) (u7 : Int32) (u8 : HS), X6_1 u0 u1 u2 u3 u4 u5 u6 u7 u8 → X6_2 u0 u1 u2 u3 u4 u5 u6 u7 u8 → X6_3 u0 u1 u2 u3 u4 u5 u6 u7 u8) : B_X11_wetOf_6 Q3 X6_3 v0 v1 v2 v3 v4 v5 v6 v8 S := by
  delta B_X11_wetOf_6 at h1 h2 ⊢
  refine ⟨?_, ?_⟩
  · intro c1
    have h1 := h1.1 c1
    have h2 := h2.1 c1
    exact hq _ _ h1 h2
  · intro c2
    have h1 := h1.2 c2
    have h2 := h2.2 c2
    obtain ⟨c3, h1⟩ := h1
    obtain ⟨_, h2⟩ := h2
    refine ⟨c3, ?_⟩
    refine cm_X11_partsOf h1 h2 (fun x4 x5 h1 h2 g6 => ?_)
    have h1 := h1 g6
    have h2 := h2 g6
    intro x8 e7
    have h1 := h1 x8 e7
    have h2 := h2 x8 e7
    intro x10 e9
    have h1 := h1 x10 e9
    have h2 := h2 x10 e9
    exact hX6 _ _ _ _ _ _ _ _ _ h1 h2
theorem fd_X11_wetOf_6 {Q : Int64 → HS → Prop} {v0 : Nat} {v1 : Int32} {v2 : Int32} {v3 : Int32} {v4 : Int32} {v5 : Int32} {v6 : Int64} {v8 : Int32} {S : HS} (h : B_X11_wetOf_6 Q (P_X11_wetOf_6 Q) v0 v1 v2 v3 v4 v5 v6 v8 S) : P_X11_wetOf_6 Q v0 v1 v2 v3 v4 v5 v6 v8 S := fun X hX => hX v0 v1 v2 v3 v4 v5 v6 v8 S (cmB_X11_wetOf_6 h h (fun _ _ a _ => a) (fun _ _ _ _ _ _ _ _ _ hp _ => hp X hX))
theorem uf_X11_wetOf_6 {Q : Int64 → HS → Prop} {v0 : Nat} {v1 : Int32} {v2 : Int32} {v3 : Int32} {v4 : Int32} {v5 : Int32} {v6 : Int64} {v8 : Int32} {S : HS} (h : P_X11_wetOf_6 Q v0 v1 v2 v3 v4 v5 v6 v8 S) : B_X11_wetOf_6 Q (P_X11_wetOf_6 Q) v0 v1 v2 v3 v4 v5 v6 v8 S := h (fun v0 v1 v2 v3 v4 v5 v6 v8 S => B_X11_wetOf_6 Q (P_X11_wetOf_6 Q) v0 v1 v2 v3 v4 v5 v6 v8 S) (fun v0 v1 v2 v3 v4 v5 v6 v8 S hB => cmB_X11_wetOf_6 hB hB (fun _ _ a _ => a) (fun _ _ _ _ _ _ _ _ _ hb _ => fd_X11_wetOf_6 hb))
theorem cm_X11_wetOf_6 {Q1 Q2 Q3 : Int64 → HS → Prop} {v0 : Nat} {v1 : Int32} {v2 : Int32} {v3 : Int32} {v4 : Int32} {v5 : Int32} {v6 : Int64} {v8 : Int32} {S : HS} (h1 : P_X11_wetOf_6 Q1 v0 v1 v2 v3 v4 v5 v6 v8 S) (h2 : P_X11_wetOf_6 Q2 v0 v1 v2 v3 v4 v5 v6 v8 S) (hq : ∀ (r : Int64) (T : HS), Q1 r T → Q2 r T → Q3 r T) : P_X11_wetOf_6 Q3 v0 v1 v2 v3 v4 v5 v6 v8 S := h1 (fun v0 v1 v2 v3 v4 v5 v6 v8 S => P_X11_wetOf_6 Q2 v0 v1 v2 v3 v4 v5 v6 v8 S → P_X11_wetOf_6 Q3 v0 v1 v2 v3 v4 v5 v6 v8 S) (fun v0 v1 v2 v3 v4 v5 v6 v8 S hB hp => fd_X11_wetOf_6 (cmB_X11_wetOf_6 hB (uf_X11_wetOf_6 hp) hq (fun _ _ _ _ _ _ _ _ _ hx hp => hx hp))) h2
set_option maxRecDepth 20000 in
set_option maxHeartbeats 1000000 in
theorem cm_X11_wetOf_0 {Q1 Q2 Q3 : Int64 → HS → Prop} {v0 : Nat} {v1 : Int32} {v2 : Int32} {v3 : Int32} {v4 : Int32} {v5 : Int32} {S : HS} (h1 : P_X11_wetOf_0 Q1 v0 v1 v2 v3 v4 v5 S) (h2 : P_X11_wetOf_0 Q2 v0 v1 v2 v3 v4 v5 S) (hq : ∀ (r : Int64) (T : HS), Q1 r T → Q2 r T → Q3 r T) : P_X11_wetOf_0 Q3 v0 v1 v2 v3 v4 v5 S := by
  delta P_X11_wetOf_0 at h1 h2 ⊢
  exact cm_X11_wetOf_6 h1 h2 hq
theorem cm_X11_wetOf {Q1 Q2 Q3 : Int64 → HS → Prop} {v0 : Nat} {v1 : Int32} {v2 : Int32} {v3 : Int32} {v4 : Int32} {v5 : Int32} {S : HS} (h1 : P_X11_wetOf v0 v1 v2 v3 v4 v5 Q1 S) (h2 : P_X11_wetOf v0 v1 v2 v3 v4 v5 Q2 S) (hq : ∀ (r : Int64) (T : HS), Q1 r T → Q2 r T → Q3 r T) : P_X11_wetOf v0 v1 v2 v3 v4 v5 Q3 S := cm_X11_wetOf_0 h1 h2 hq
set_option maxRecDepth 20000 in
set_option maxHeartbeats 1000000 in
theorem cm_X11_bestOf_61 {Q1 Q2 Q3 : Int32 → HS → Prop} {X17_1 X17_2 X17_3 : Nat → Int32 → Int32 → Int32 → Int32 → Int32 → Int32 → HS → Prop} {v0 : Nat} {v1 : Int32} {v2 : Int32} {v3 : Int32} {v4 : Int32} {v5 : Int32} {v6 : Int32} {S : HS} (h1 : P_X11_bestOf_61 Q1 X17_1 v0 v1 v2 v3 v4 v5 v6 S) (h2 : P_X11_bestOf_61 Q2 X17_2 v0 v1 v2 v3 v4 v5 v6 S) (hq : ∀ (r : Int32) (T : HS), Q1 r T → Q2 r T → Q3 r T) (hX17 : ∀ (u0 : Nat) (u1 : Int32) (u2 : Int32) (u3 : Int32) (u4 : Int32) (u5 : Int32) (u6 : Int32) (u7 : HS), X17_1 u0 u1 u2 u3 u4 u5 u6 u7 → X17_2 u0 u1 u2 u3 u4 u5 u6 u7 → X17_3 u0 u1 u2 u3 u4 u5 u6 u7) : P_X11_bestOf_61 Q3 X17_3 v0 v1 v2 v3 v4 v5 v6 S := by
  delta P_X11_bestOf_61 at h1 h2 ⊢
  intro x2 e1
  have h1 := h1 x2 e1
  have h2 := h2 x2 e1
  exact hX17 _ _ _ _ _ _ _ _ h1 h2
set_option maxRecDepth 20000 in
set_option maxHeartbeats 1000000 in
theorem cmB_X11_bestOf_17 {Q1 Q2 Q3 : Int32 → HS → Prop} {X17_1 X17_2 X17_3 : Nat → Int32 → Int32 → Int32 → Int32 → Int32 → Int32 → HS → Prop} {v0 : Nat} {v1 : Int32} {v2 : Int32} {v3 : Int32} {v4 : Int32} {v5 : Int32} {v6 : Int32} {S : HS} (h1 : B_X11_bestOf_17 Q1 X17_1 v0 v1 v2 v3 v4 v5 v6 S) (h2 : B_X11_bestOf_17 Q2 X17_2 v0 v1 v2 v3 v4 v5 v6 S) (hq : ∀ (r : Int32) (T : HS), Q1 r T → Q2 r T → Q3 r T) (hX17 : ∀ (u0 : Nat) (u1 : Int32) (u2 : Int32) (u3 : Int32) (u4 : Int32) (u5 : Int32) (u6 : Int32) (u7 : HS), X17_1 u0 u1 u2 u3 u4 u5 u6 u7 → X17_2 u0 u1 u2 u3 u4 u5 u6 u7 → X17_3 u0 u1 u2 u3 u4 u5 u6 u7) : B_X11_bestOf_17 Q3 X17_3 v0 v1 v2 v3 v4 v5 v6 S := by
  delta B_X11_bestOf_17 at h1 h2 ⊢
  obtain ⟨c1, h1⟩ := h1
  obtain ⟨_, h2⟩ := h2
  refine ⟨c1, ?_⟩
  obtain ⟨b2, e3, h1⟩ := h1
  obtain ⟨b4, e5, h2⟩ := h2
  cases e3.symm.trans e5
  refine ⟨b2, e3, ?_⟩
  obtain ⟨c6, h1⟩ := h1
  obtain ⟨_, h2⟩ := h2
  refine ⟨c6, ?_⟩
  obtain ⟨b7, e8, h1⟩ := h1
  obtain ⟨b9, e10, h2⟩ := h2
  cases e8.symm.trans e10
  refine ⟨b7, e8, ?_⟩
  obtain ⟨c11, h1⟩ := h1
  obtain ⟨_, h2⟩ := h2
  refine ⟨c11, ?_⟩
  obtain ⟨c12, h1⟩ := h1
  obtain ⟨_, h2⟩ := h2
  refine ⟨c12, ?_⟩
  intro x14 e13
  have h1 := h1 x14 e13
  have h2 := h2 x14 e13
  refine ⟨?_, ?_⟩
  · intro c15
    have h1 := h1.1 c15
    have h2 := h2.1 c15
    exact hq _ _ h1 h2
  · intro c16
    have h1 := h1.2 c16
    have h2 := h2.2 c16
    refine cm_X11_wetOf h1 h2 (fun x17 x18 h1 h2 g19 => ?_)
    have h1 := h1 g19
    have h2 := h2 g19
    refine cm_X11_wetOf h1 h2 (fun x20 x21 h1 h2 g22 => ?_)
    have h1 := h1 g22
    have h2 := h2 g22
    refine ⟨?_, ?_⟩
    · intro c23
      have h1 := h1.1 c23
      have h2 := h2.1 c23
      exact cm_X11_bestOf_61 h1 h2 hq hX17
    · intro c24
      have h1 := h1.2 c24
      have h2 := h2.2 c24
      exact cm_X11_bestOf_61 h1 h2 hq hX17
theorem fd_X11_bestOf_17 {Q : Int32 → HS → Prop} {v0 : Nat} {v1 : Int32} {v2 : Int32} {v3 : Int32} {v4 : Int32} {v5 : Int32} {v6 : Int32} {S : HS} (h : B_X11_bestOf_17 Q (P_X11_bestOf_17 Q) v0 v1 v2 v3 v4 v5 v6 S) : P_X11_bestOf_17 Q v0 v1 v2 v3 v4 v5 v6 S := fun X hX => hX v0 v1 v2 v3 v4 v5 v6 S (cmB_X11_bestOf_17 h h (fun _ _ a _ => a) (fun _ _ _ _ _ _ _ _ hp _ => hp X hX))
theorem uf_X11_bestOf_17 {Q : Int32 → HS → Prop} {v0 : Nat} {v1 : Int32} {v2 : Int32} {v3 : Int32} {v4 : Int32} {v5 : Int32} {v6 : Int32} {S : HS} (h : P_X11_bestOf_17 Q v0 v1 v2 v3 v4 v5 v6 S) : B_X11_bestOf_17 Q (P_X11_bestOf_17 Q) v0 v1 v2 v3 v4 v5 v6 S := h (fun v0 v1 v2 v3 v4 v5 v6 S => B_X11_bestOf_17 Q (P_X11_bestOf_17 Q) v0 v1 v2 v3 v4 v5 v6 S) (fun v0 v1 v2 v3 v4 v5 v6 S hB => cmB_X11_bestOf_17 hB hB (fun _ _ a _ => a) (fun _ _ _ _ _ _ _ _ hb _ => fd_X11_bestOf_17 hb))
theorem cm_X11_bestOf_17 {Q1 Q2 Q3 : Int32 → HS → Prop} {v0 : Nat} {v1 : Int32} {v2 : Int32} {v3 : Int32} {v4 : Int32} {v5 : Int32} {v6 : Int32} {S : HS} (h1 : P_X11_bestOf_17 Q1 v0 v1 v2 v3 v4 v5 v6 S) (h2 : P_X11_bestOf_17 Q2 v0 v1 v2 v3 v4 v5 v6 S) (hq : ∀ (r : Int32) (T : HS), Q1 r T → Q2 r T → Q3 r T) : P_X11_bestOf_17 Q3 v0 v1 v2 v3 v4 v5 v6 S := h1 (fun v0 v1 v2 v3 v4 v5 v6 S => P_X11_bestOf_17 Q2 v0 v1 v2 v3 v4 v5 v6 S → P_X11_bestOf_17 Q3 v0 v1 v2 v3 v4 v5 v6 S) (fun v0 v1 v2 v3 v4 v5 v6 S hB hp => fd_X11_bestOf_17 (cmB_X11_bestOf_17 hB (uf_X11_bestOf_17 hp) hq (fun _ _ _ _ _ _ _ _ hx hp => hx hp))) h2
set_option maxRecDepth 20000 in
set_option maxHeartbeats 1000000 in
theorem cm_X11_bestOf_0 {Q1 Q2 Q3 : Int32 → HS → Prop} {v0 : Nat} {v1 : Int32} {v2 : Int32} {v3 : Int32} {v4 : Int32} {S : HS} (h1 : P_X11_bestOf_0 Q1 v0 v1 v2 v3 v4 S) (h2 : P_X11_bestOf_0 Q2 v0 v1 v2 v3 v4 S) (hq : ∀ (r : Int32) (T : HS), Q1 r T → Q2 r T → Q3 r T) : P_X11_bestOf_0 Q3 v0 v1 v2 v3 v4 S := by
  delta P_X11_bestOf_0 at h1 h2 ⊢
  obtain ⟨c1, h1⟩ := h1
  obtain ⟨_, h2⟩ := h2
  refine ⟨c1, ?_⟩
  obtain ⟨b2, e3, h1⟩ := h1
  obtain ⟨b4, e5, h2⟩ := h2
  cases e3.symm.trans e5
  refine ⟨b2, e3, ?_⟩
  obtain ⟨c6, h1⟩ := h1
  obtain ⟨_, h2⟩ := h2
  refine ⟨c6, ?_⟩
  obtain ⟨b7, e8, h1⟩ := h1
  obtain ⟨b9, e10, h2⟩ := h2
  cases e8.symm.trans e10
  refine ⟨b7, e8, ?_⟩
  obtain ⟨c11, h1⟩ := h1
  obtain ⟨_, h2⟩ := h2
  refine ⟨c11, ?_⟩
  obtain ⟨c12, h1⟩ := h1
  obtain ⟨_, h2⟩ := h2
  refine ⟨c12, ?_⟩
  intro x14 e13
  have h1 := h1 x14 e13
  have h2 := h2 x14 e13
  intro x16 e15
  have h1 := h1 x16 e15
  have h2 := h2 x16 e15
  exact cm_X11_bestOf_17 h1 h2 hq
theorem cm_X11_bestOf {Q1 Q2 Q3 : Int32 → HS → Prop} {v0 : Nat} {v1 : Int32} {v2 : Int32} {v3 : Int32} {v4 : Int32} {S : HS} (h1 : P_X11_bestOf v0 v1 v2 v3 v4 Q1 S) (h2 : P_X11_bestOf v0 v1 v2 v3 v4 Q2 S) (hq : ∀ (r : Int32) (T : HS), Q1 r T → Q2 r T → Q3 r T) : P_X11_bestOf v0 v1 v2 v3 v4 Q3 S := cm_X11_bestOf_0 h1 h2 hq
set_option maxRecDepth 20000 in
set_option maxHeartbeats 1000000 in
theorem cm_X11_isWalker_0 {Q1 Q2 Q3 : Int32 → HS → Prop} {v0 : Nat} {v1 : Int32} {S : HS} (h1 : P_X11_isWalker_0 Q1 v0 v1 S) (h2 : P_X11_isWalker_0 Q2 v0 v1 S) (hq : ∀ (r : Int32) (T : HS), Q1 r T → Q2 r T → Q3 r T) : P_X11_isWalker_0 Q3 v0 v1 S := by
  delta P_X11_isWalker_0 at h1 h2 ⊢
  obtain ⟨c1, h1⟩ := h1
  obtain ⟨_, h2⟩ := h2
  refine ⟨c1, ?_⟩
  refine ⟨?_, ?_⟩
  · intro c2
    have h1 := h1.1 c2
    have h2 := h2.1 c2
    exact hq _ _ h1 h2
  · intro x3 c4
    have h1 := h1.2 x3 c4
    have h2 := h2.2 x3 c4
    refine ⟨?_, ?_⟩
    · intro c5
      have h1 := h1.1 c5
      have h2 := h2.1 c5
      exact hq _ _ h1 h2
    · intro c6
      have h1 := h1.2 c6
      have h2 := h2.2 c6
      obtain ⟨b7, e8, h1⟩ := h1
      obtain ⟨b9, e10, h2⟩ := h2
      cases e8.symm.trans e10
      refine ⟨b7, e8, ?_⟩
      obtain ⟨c11, h1⟩ := h1
      obtain ⟨_, h2⟩ := h2
      refine ⟨c11, ?_⟩
      intro x13 e12
      have h1 := h1 x13 e12
      have h2 := h2 x13 e12
      refine ⟨?_, ?_⟩
      · intro c14
        have h1 := h1.1 c14
        have h2 := h2.1 c14
        exact hq _ _ h1 h2
      · intro c15
        have h1 := h1.2 c15
        have h2 := h2.2 c15
        exact hq _ _ h1 h2
theorem cm_X11_isWalker {Q1 Q2 Q3 : Int32 → HS → Prop} {v0 : Nat} {v1 : Int32} {S : HS} (h1 : P_X11_isWalker v0 v1 Q1 S) (h2 : P_X11_isWalker v0 v1 Q2 S) (hq : ∀ (r : Int32) (T : HS), Q1 r T → Q2 r T → Q3 r T) : P_X11_isWalker v0 v1 Q3 S := cm_X11_isWalker_0 h1 h2 hq
set_option maxRecDepth 20000 in
set_option maxHeartbeats 1000000 in
theorem cm_X11_best_39 {Q1 Q2 Q3 : Int32 → HS → Prop} {v0 : Nat} {S : HS} (h1 : P_X11_best_39 Q1 v0 S) (h2 : P_X11_best_39 Q2 v0 S) (hq : ∀ (r : Int32) (T : HS), Q1 r T → Q2 r T → Q3 r T) : P_X11_best_39 Q3 v0 S := by
  delta P_X11_best_39 at h1 h2 ⊢
  obtain ⟨c1, h1⟩ := h1
  obtain ⟨_, h2⟩ := h2
  refine ⟨c1, ?_⟩
  refine cm_X11_refused h1 h2 (fun x2 x3 h1 h2 g4 => ?_)
  have h1 := h1 g4
  have h2 := h2 g4
  exact hq _ _ h1 h2
set_option maxRecDepth 20000 in
set_option maxHeartbeats 1000000 in
theorem cm_X11_best_0 {Q1 Q2 Q3 : Int32 → HS → Prop} {v0 : Nat} {v1 : Int32} {v2 : Int32} {v3 : Int32} {v4 : Int32} {S : HS} (h1 : P_X11_best_0 Q1 v0 v1 v2 v3 v4 S) (h2 : P_X11_best_0 Q2 v0 v1 v2 v3 v4 S) (hq : ∀ (r : Int32) (T : HS), Q1 r T → Q2 r T → Q3 r T) : P_X11_best_0 Q3 v0 v1 v2 v3 v4 S := by
  delta P_X11_best_0 at h1 h2 ⊢
  obtain ⟨c1, h1⟩ := h1
  obtain ⟨_, h2⟩ := h2
  refine ⟨c1, ?_⟩
  intro x3 e2
  have h1 := h1 x3 e2
  have h2 := h2 x3 e2
  refine cm_X11_isWalker h1 h2 (fun x4 x5 h1 h2 g6 g7 => ?_)
  have h1 := h1 g6 g7
  have h2 := h2 g6 g7
  refine ⟨?_, ?_⟩
  · intro c8
    have h1 := h1.1 c8
    have h2 := h2.1 c8
    exact cm_X11_best_39 h1 h2 hq
  · intro c9
    have h1 := h1.2 c9
    have h2 := h2.2 c9
    refine cm_X11_isRoad h1 h2 (fun x10 x11 h1 h2 g12 g13 => ?_)
    have h1 := h1 g12 g13
    have h2 := h2 g12 g13
    refine ⟨?_, ?_⟩
    · intro c14
      have h1 := h1.1 c14
      have h2 := h2.1 c14
      exact cm_X11_best_39 h1 h2 hq
    · intro c15
      have h1 := h1.2 c15
      have h2 := h2.2 c15
      refine cm_X11_in h1 h2 (fun x16 x17 h1 h2 g18 g19 => ?_)
      have h1 := h1 g18 g19
      have h2 := h2 g18 g19
      refine ⟨?_, ?_⟩
      · intro c20
        have h1 := h1.1 c20
        have h2 := h2.1 c20
        exact cm_X11_best_39 h1 h2 hq
      · intro c21
        have h1 := h1.2 c21
        have h2 := h2.2 c21
        refine cm_X11_isHour h1 h2 (fun x22 x23 h1 h2 g24 g25 => ?_)
        have h1 := h1 g24 g25
        have h2 := h2 g24 g25
        refine ⟨?_, ?_⟩
        · intro c26
          have h1 := h1.1 c26
          have h2 := h2.1 c26
          refine cm_X11_bestOf h1 h2 (fun x27 x28 h1 h2 g29 => ?_)
          have h1 := h1 g29
          have h2 := h2 g29
          refine cm_X11_good h1 h2 (fun x30 x31 h1 h2 g32 => ?_)
          have h1 := h1 g32
          have h2 := h2 g32
          exact hq _ _ h1 h2
        · intro c33
          have h1 := h1.2 c33
          have h2 := h2.2 c33
          exact cm_X11_best_39 h1 h2 hq
theorem cm_X11_best {Q1 Q2 Q3 : Int32 → HS → Prop} {v0 : Nat} {v1 : Int32} {v2 : Int32} {v3 : Int32} {v4 : Int32} {S : HS} (h1 : P_X11_best v0 v1 v2 v3 v4 Q1 S) (h2 : P_X11_best v0 v1 v2 v3 v4 Q2 S) (hq : ∀ (r : Int32) (T : HS), Q1 r T → Q2 r T → Q3 r T) : P_X11_best v0 v1 v2 v3 v4 Q3 S := cm_X11_best_0 h1 h2 hq
set_option maxRecDepth 20000 in
set_option maxHeartbeats 1000000 in
theorem cm_X11_canWait_0 {Q1 Q2 Q3 : Int32 → HS → Prop} {v0 : Nat} {v1 : Int32} {S : HS} (h1 : P_X11_canWait_0 Q1 v0 v1 S) (h2 : P_X11_canWait_0 Q2 v0 v1 S) (hq : ∀ (r : Int32) (T : HS), Q1 r T → Q2 r T → Q3 r T) : P_X11_canWait_0 Q3 v0 v1 S := by
  delta P_X11_canWait_0 at h1 h2 ⊢
  obtain ⟨c1, h1⟩ := h1
  obtain ⟨_, h2⟩ := h2
  refine ⟨c1, ?_⟩
  obtain ⟨b2, e3, h1⟩ := h1
  obtain ⟨b4, e5, h2⟩ := h2
  cases e3.symm.trans e5
  refine ⟨b2, e3, ?_⟩
  obtain ⟨c6, h1⟩ := h1
  obtain ⟨_, h2⟩ := h2
  refine ⟨c6, ?_⟩
  obtain ⟨b7, e8, h1⟩ := h1
  obtain ⟨b9, e10, h2⟩ := h2
  cases e8.symm.trans e10
  refine ⟨b7, e8, ?_⟩
  obtain ⟨c11, h1⟩ := h1
  obtain ⟨_, h2⟩ := h2
  refine ⟨c11, ?_⟩
  obtain ⟨c12, h1⟩ := h1
  obtain ⟨_, h2⟩ := h2
  refine ⟨c12, ?_⟩
  intro x14 e13
  have h1 := h1 x14 e13
  have h2 := h2 x14 e13
  refine ⟨?_, ?_⟩
  · intro c15
    have h1 := h1.1 c15
    have h2 := h2.1 c15
    exact hq _ _ h1 h2
  · intro c16
    have h1 := h1.2 c16
    have h2 := h2.2 c16
    obtain ⟨b17, e18, h1⟩ := h1
    obtain ⟨b19, e20, h2⟩ := h2
    cases e18.symm.trans e20
    refine ⟨b17, e18, ?_⟩
    obtain ⟨c21, h1⟩ := h1
    obtain ⟨_, h2⟩ := h2
    refine ⟨c21, ?_⟩
    obtain ⟨b22, e23, h1⟩ := h1
    obtain ⟨b24, e25, h2⟩ := h2
    cases e23.symm.trans e25
    refine ⟨b22, e23, ?_⟩
    obtain ⟨c26, h1⟩ := h1
    obtain ⟨_, h2⟩ := h2
    refine ⟨c26, ?_⟩
    obtain ⟨c27, h1⟩ := h1
    obtain ⟨_, h2⟩ := h2
    refine ⟨c27, ?_⟩
    intro x29 e28
    have h1 := h1 x29 e28
    have h2 := h2 x29 e28
    refine ⟨?_, ?_⟩
    · intro c30
      have h1 := h1.1 c30
      have h2 := h2.1 c30
      exact hq _ _ h1 h2
    · intro c31
      have h1 := h1.2 c31
      have h2 := h2.2 c31
      exact hq _ _ h1 h2
theorem cm_X11_canWait {Q1 Q2 Q3 : Int32 → HS → Prop} {v0 : Nat} {v1 : Int32} {S : HS} (h1 : P_X11_canWait v0 v1 Q1 S) (h2 : P_X11_canWait v0 v1 Q2 S) (hq : ∀ (r : Int32) (T : HS), Q1 r T → Q2 r T → Q3 r T) : P_X11_canWait v0 v1 Q3 S := cm_X11_canWait_0 h1 h2 hq
set_option maxRecDepth 20000 in
set_option maxHeartbeats 1000000 in
theorem cm_X11_isPlace_0 {Q1 Q2 Q3 : Int32 → HS → Prop} {v0 : Nat} {v1 : Int32} {S : HS} (h1 : P_X11_isPlace_0 Q1 v0 v1 S) (h2 : P_X11_isPlace_0 Q2 v0 v1 S) (hq : ∀ (r : Int32) (T : HS), Q1 r T → Q2 r T → Q3 r T) : P_X11_isPlace_0 Q3 v0 v1 S := by
  delta P_X11_isPlace_0 at h1 h2 ⊢
  obtain ⟨c1, h1⟩ := h1
  obtain ⟨_, h2⟩ := h2
  refine ⟨c1, ?_⟩
  refine ⟨?_, ?_⟩
  · intro c2
    have h1 := h1.1 c2
    have h2 := h2.1 c2
    exact hq _ _ h1 h2
  · intro x3 c4
    have h1 := h1.2 x3 c4
    have h2 := h2.2 x3 c4
    refine ⟨?_, ?_⟩
    · intro c5
      have h1 := h1.1 c5
      have h2 := h2.1 c5
      exact hq _ _ h1 h2
    · intro c6
      have h1 := h1.2 c6
      have h2 := h2.2 c6
      obtain ⟨b7, e8, h1⟩ := h1
      obtain ⟨b9, e10, h2⟩ := h2
      cases e8.symm.trans e10
      refine ⟨b7, e8, ?_⟩
      obtain ⟨c11, h1⟩ := h1
      obtain ⟨_, h2⟩ := h2
      refine ⟨c11, ?_⟩
      intro x13 e12
      have h1 := h1 x13 e12
      have h2 := h2 x13 e12
      refine ⟨?_, ?_⟩
      · intro c14
        have h1 := h1.1 c14
        have h2 := h2.1 c14
        exact hq _ _ h1 h2
      · intro c15
        have h1 := h1.2 c15
        have h2 := h2.2 c15
        exact hq _ _ h1 h2
theorem cm_X11_isPlace {Q1 Q2 Q3 : Int32 → HS → Prop} {v0 : Nat} {v1 : Int32} {S : HS} (h1 : P_X11_isPlace v0 v1 Q1 S) (h2 : P_X11_isPlace v0 v1 Q2 S) (hq : ∀ (r : Int32) (T : HS), Q1 r T → Q2 r T → Q3 r T) : P_X11_isPlace v0 v1 Q3 S := cm_X11_isPlace_0 h1 h2 hq
set_option maxRecDepth 20000 in
set_option maxHeartbeats 1000000 in
theorem cm_X11_day_21 {Q1 Q2 Q3 : Int32 → HS → Prop} {v0 : Nat} {S : HS} (h1 : P_X11_day_21 Q1 v0 S) (h2 : P_X11_day_21 Q2 v0 S) (hq : ∀ (r : Int32) (T : HS), Q1 r T → Q2 r T → Q3 r T) : P_X11_day_21 Q3 v0 S := by
  delta P_X11_day_21 at h1 h2 ⊢
  obtain ⟨c1, h1⟩ := h1
  obtain ⟨_, h2⟩ := h2
  refine ⟨c1, ?_⟩
  refine cm_X11_refused h1 h2 (fun x2 x3 h1 h2 g4 => ?_)
  have h1 := h1 g4
  have h2 := h2 g4
  exact hq _ _ h1 h2
set_option maxRecDepth 20000 in
set_option maxHeartbeats 1000000 in
theorem cm_X11_day_50 {Q1 Q2 Q3 : Int32 → HS → Prop} {v0 : Nat} {S : HS} (h1 : P_X11_day_50 Q1 v0 S) (h2 : P_X11_day_50 Q2 v0 S) (hq : ∀ (r : Int32) (T : HS), Q1 r T → Q2 r T → Q3 r T) : P_X11_day_50 Q3 v0 S := by
  delta P_X11_day_50 at h1 h2 ⊢
  obtain ⟨c1, h1⟩ := h1
  obtain ⟨_, h2⟩ := h2
  refine ⟨c1, ?_⟩
  refine cm_X11_refused h1 h2 (fun x2 x3 h1 h2 g4 => ?_)
  have h1 := h1 g4
  have h2 := h2 g4
  exact hq _ _ h1 h2
set_option maxRecDepth 20000 in
set_option maxHeartbeats 1000000 in
theorem cm_X11_day_134 {Q1 Q2 Q3 : Int32 → HS → Prop} {X73_1 X73_2 X73_3 : Nat → Int32 → Int32 → Int32 → Int32 → HS → Prop} {v0 : Nat} {v2 : Int32} {v3 : Int32} {v5 : Int32} {v6 : Int32} {s0 : Nat} {s1 : Int32} {s2 : Int32} {S : HS} (h1 : P_X11_day_134 Q1 X73_1 v0 v2 v3 v5 v6 s0 s1 s2 S) (h2 : P_X11_day_134 Q2 X73_2 v0 v2 v3 v5 v6 s0 s1 s2 S) (hq : ∀ (r : Int32) (T : HS), Q1 r T → Q2 r T → Q3 r T) (hX73 : ∀ (u0 : Nat) (u1 : Int32) (u2 : Int32) (u3 : Int32) (u4 : Int32) (u5 : HS), X73_1 u0 u1 u2 u3 u4 u5 → X73_2 u0 u1 u2 u3 u4 u5 → X73_3 u0 u1 u2 u3 u4 u5) : P_X11_day_134 Q3 X73_3 v0 v2 v3 v5 v6 s0 s1 s2 S := by
  delta P_X11_day_134 at h1 h2 ⊢
  obtain ⟨c1, h1⟩ := h1
  obtain ⟨_, h2⟩ := h2
  refine ⟨c1, ?_⟩
  intro x3 e2
  have h1 := h1 x3 e2
  have h2 := h2 x3 e2
  intro x5 e4
  have h1 := h1 x5 e4
  have h2 := h2 x5 e4
  intro x7 e6
  have h1 := h1 x7 e6
  have h2 := h2 x7 e6
  exact hX73 _ _ _ _ _ _ h1 h2
set_option maxRecDepth 20000 in
set_option maxHeartbeats 1000000 in
theorem cmB_X11_day_147 {Q1 Q2 Q3 : Int32 → HS → Prop} {X147_1 X147_2 X147_3 : Nat → Int32 → Int32 → Int32 → HS → Prop} {v0 : Nat} {v2 : Int32} {v3 : Int32} {v6 : Int32} {S : HS} (h1 : B_X11_day_147 Q1 X147_1 v0 v2 v3 v6 S) (h2 : B_X11_day_147 Q2 X147_2 v0 v2 v3 v6 S) (hq : ∀ (r : Int32) (T : HS), Q1 r T → Q2 r T → Q3 r T) (hX147 : ∀ (u0 : Nat) (u1 : Int32) (u2 : Int32) (u3 : Int32) (u4 : HS), X147_1 u0 u1 u2 u3 u4 → X147_2 u0 u1 u2 u3 u4 → X147_3 u0 u1 u2 u3 u4) : B_X11_day_147 Q3 X147_3 v0 v2 v3 v6 S := by
  delta B_X11_day_147 at h1 h2 ⊢
  refine ⟨?_, ?_⟩
  · intro c1
    have h1 := h1.1 c1
    have h2 := h2.1 c1
    obtain ⟨c2, h1⟩ := h1
    obtain ⟨_, h2⟩ := h2
    refine ⟨c2, ?_⟩
    obtain ⟨b3, e4, h1⟩ := h1
    obtain ⟨b5, e6, h2⟩ := h2
    cases e4.symm.trans e6
    refine ⟨b3, e4, ?_⟩
    obtain ⟨c7, h1⟩ := h1
    obtain ⟨_, h2⟩ := h2
    refine ⟨c7, ?_⟩
    intro x9 e8
    have h1 := h1 x9 e8
    have h2 := h2 x9 e8
    obtain ⟨c10, h1⟩ := h1
    obtain ⟨_, h2⟩ := h2
    refine ⟨c10, ?_⟩
    intro x12 e11
    have h1 := h1 x12 e11
    have h2 := h2 x12 e11
    obtain ⟨b13, e14, h1⟩ := h1
    obtain ⟨b15, e16, h2⟩ := h2
    cases e14.symm.trans e16
    refine ⟨b13, e14, ?_⟩
    obtain ⟨c17, h1⟩ := h1
    obtain ⟨_, h2⟩ := h2
    refine ⟨c17, ?_⟩
    intro x19 e18
    have h1 := h1 x19 e18
    have h2 := h2 x19 e18
    obtain ⟨c20, h1⟩ := h1
    obtain ⟨_, h2⟩ := h2
    refine ⟨c20, ?_⟩
    intro x22 e21
    have h1 := h1 x22 e21
    have h2 := h2 x22 e21
    intro x24 e23
    have h1 := h1 x24 e23
    have h2 := h2 x24 e23
    intro x26 e25
    have h1 := h1 x26 e25
    have h2 := h2 x26 e25
    intro x28 e27
    have h1 := h1 x28 e27
    have h2 := h2 x28 e27
    refine cm_X11_good h1 h2 (fun x29 x30 h1 h2 g31 => ?_)
    have h1 := h1 g31
    have h2 := h2 g31
    exact hq _ _ h1 h2
  · intro c32
    have h1 := h1.2 c32
    have h2 := h2.2 c32
    obtain ⟨c33, h1⟩ := h1
    obtain ⟨_, h2⟩ := h2
    refine ⟨c33, ?_⟩
    obtain ⟨b34, e35, h1⟩ := h1
    obtain ⟨b36, e37, h2⟩ := h2
    cases e35.symm.trans e37
    refine ⟨b34, e35, ?_⟩
    obtain ⟨c38, h1⟩ := h1
    obtain ⟨_, h2⟩ := h2
    refine ⟨c38, ?_⟩
    obtain ⟨c39, h1⟩ := h1
    obtain ⟨_, h2⟩ := h2
    refine ⟨c39, ?_⟩
    intro x41 e40
    have h1 := h1 x41 e40
    have h2 := h2 x41 e40
    intro x43 e42
    have h1 := h1 x43 e42
    have h2 := h2 x43 e42
    exact hX147 _ _ _ _ _ h1 h2
theorem fd_X11_day_147 {Q : Int32 → HS → Prop} {v0 : Nat} {v2 : Int32} {v3 : Int32} {v6 : Int32} {S : HS} (h : B_X11_day_147 Q (P_X11_day_147 Q) v0 v2 v3 v6 S) : P_X11_day_147 Q v0 v2 v3 v6 S := fun X hX => hX v0 v2 v3 v6 S (cmB_X11_day_147 h h (fun _ _ a _ => a) (fun _ _ _ _ _ hp _ => hp X hX))
theorem uf_X11_day_147 {Q : Int32 → HS → Prop} {v0 : Nat} {v2 : Int32} {v3 : Int32} {v6 : Int32} {S : HS} (h : P_X11_day_147 Q v0 v2 v3 v6 S) : B_X11_day_147 Q (P_X11_day_147 Q) v0 v2 v3 v6 S := h (fun v0 v2 v3 v6 S => B_X11_day_147 Q (P_X11_day_147 Q) v0 v2 v3 v6 S) (fun v0 v2 v3 v6 S hB => cmB_X11_day_147 hB hB (fun _ _ a _ => a) (fun _ _ _ _ _ hb _ => fd_X11_day_147 hb))
theorem cm_X11_day_147 {Q1 Q2 Q3 : Int32 → HS → Prop} {v0 : Nat} {v2 : Int32} {v3 : Int32} {v6 : Int32} {S : HS} (h1 : P_X11_day_147 Q1 v0 v2 v3 v6 S) (h2 : P_X11_day_147 Q2 v0 v2 v3 v6 S) (hq : ∀ (r : Int32) (T : HS), Q1 r T → Q2 r T → Q3 r T) : P_X11_day_147 Q3 v0 v2 v3 v6 S := h1 (fun v0 v2 v3 v6 S => P_X11_day_147 Q2 v0 v2 v3 v6 S → P_X11_day_147 Q3 v0 v2 v3 v6 S) (fun v0 v2 v3 v6 S hB hp => fd_X11_day_147 (cmB_X11_day_147 hB (uf_X11_day_147 hp) hq (fun _ _ _ _ _ hx hp => hx hp))) h2
set_option maxRecDepth 20000 in
set_option maxHeartbeats 1000000 in
theorem cmB_X11_day_73 {Q1 Q2 Q3 : Int32 → HS → Prop} {X73_1 X73_2 X73_3 : Nat → Int32 → Int32 → Int32 → Int32 → HS → Prop} {v0 : Nat} {v2 : Int32} {v3 : Int32} {v5 : Int32} {v6 : Int32} {S : HS} (h1 : B_X11_day_73 Q1 X73_1 v0 v2 v3 v5 v6 S) (h2 : B_X11_day_73 Q2 X73_2 v0 v2 v3 v5 v6 S) (hq : ∀ (r : Int32) (T : HS), Q1 r T → Q2 r T → Q3 r T) (hX73 : ∀ (u0 : Nat) (u1 : Int32) (u2 : Int32) (u3 : Int32) (u4 : Int32) (u5 : HS), X73_1 u0 u1 u2 u3 u4 u5 → X73_2 u0 u1 u2 u3 u4 u5 → X73_3 u0 u1 u2 u3 u4 u5) : B_X11_day_73 Q3 X73_3 v0 v2 v3 v5 v6 S := by
  delta B_X11_day_73 at h1 h2 ⊢
  obtain ⟨c1, h1⟩ := h1
  obtain ⟨_, h2⟩ := h2
  refine ⟨c1, ?_⟩
  obtain ⟨b2, e3, h1⟩ := h1
  obtain ⟨b4, e5, h2⟩ := h2
  cases e3.symm.trans e5
  refine ⟨b2, e3, ?_⟩
  obtain ⟨c6, h1⟩ := h1
  obtain ⟨_, h2⟩ := h2
  refine ⟨c6, ?_⟩
  intro x8 e7
  have h1 := h1 x8 e7
  have h2 := h2 x8 e7
  refine ⟨?_, ?_⟩
  · intro c9
    have h1 := h1.1 c9
    have h2 := h2.1 c9
    exact cm_X11_day_147 h1 h2 hq
  · intro c10
    have h1 := h1.2 c10
    have h2 := h2.2 c10
    intro x12 e11
    have h1 := h1 x12 e11
    have h2 := h2 x12 e11
    intro x14 e13
    have h1 := h1 x14 e13
    have h2 := h2 x14 e13
    intro x16 e15
    have h1 := h1 x16 e15
    have h2 := h2 x16 e15
    intro x18 e17
    have h1 := h1 x18 e17
    have h2 := h2 x18 e17
    obtain ⟨b19, e20, h1⟩ := h1
    obtain ⟨b21, e22, h2⟩ := h2
    cases e20.symm.trans e22
    refine ⟨b19, e20, ?_⟩
    obtain ⟨c23, h1⟩ := h1
    obtain ⟨_, h2⟩ := h2
    refine ⟨c23, ?_⟩
    obtain ⟨b24, e25, h1⟩ := h1
    obtain ⟨b26, e27, h2⟩ := h2
    cases e25.symm.trans e27
    refine ⟨b24, e25, ?_⟩
    obtain ⟨c28, h1⟩ := h1
    obtain ⟨_, h2⟩ := h2
    refine ⟨c28, ?_⟩
    obtain ⟨c29, h1⟩ := h1
    obtain ⟨_, h2⟩ := h2
    refine ⟨c29, ?_⟩
    intro x31 e30
    have h1 := h1 x31 e30
    have h2 := h2 x31 e30
    refine ⟨?_, ?_⟩
    · intro c32
      have h1 := h1.1 c32
      have h2 := h2.1 c32
      exact cm_X11_day_134 h1 h2 hq hX73
    · intro c33
      have h1 := h1.2 c33
      have h2 := h2.2 c33
      exact cm_X11_day_134 h1 h2 hq hX73
theorem fd_X11_day_73 {Q : Int32 → HS → Prop} {v0 : Nat} {v2 : Int32} {v3 : Int32} {v5 : Int32} {v6 : Int32} {S : HS} (h : B_X11_day_73 Q (P_X11_day_73 Q) v0 v2 v3 v5 v6 S) : P_X11_day_73 Q v0 v2 v3 v5 v6 S := fun X hX => hX v0 v2 v3 v5 v6 S (cmB_X11_day_73 h h (fun _ _ a _ => a) (fun _ _ _ _ _ _ hp _ => hp X hX))
theorem uf_X11_day_73 {Q : Int32 → HS → Prop} {v0 : Nat} {v2 : Int32} {v3 : Int32} {v5 : Int32} {v6 : Int32} {S : HS} (h : P_X11_day_73 Q v0 v2 v3 v5 v6 S) : B_X11_day_73 Q (P_X11_day_73 Q) v0 v2 v3 v5 v6 S := h (fun v0 v2 v3 v5 v6 S => B_X11_day_73 Q (P_X11_day_73 Q) v0 v2 v3 v5 v6 S) (fun v0 v2 v3 v5 v6 S hB => cmB_X11_day_73 hB hB (fun _ _ a _ => a) (fun _ _ _ _ _ _ hb _ => fd_X11_day_73 hb))
theorem cm_X11_day_73 {Q1 Q2 Q3 : Int32 → HS → Prop} {v0 : Nat} {v2 : Int32} {v3 : Int32} {v5 : Int32} {v6 : Int32} {S : HS} (h1 : P_X11_day_73 Q1 v0 v2 v3 v5 v6 S) (h2 : P_X11_day_73 Q2 v0 v2 v3 v5 v6 S) (hq : ∀ (r : Int32) (T : HS), Q1 r T → Q2 r T → Q3 r T) : P_X11_day_73 Q3 v0 v2 v3 v5 v6 S := h1 (fun v0 v2 v3 v5 v6 S => P_X11_day_73 Q2 v0 v2 v3 v5 v6 S → P_X11_day_73 Q3 v0 v2 v3 v5 v6 S) (fun v0 v2 v3 v5 v6 S hB hp => fd_X11_day_73 (cmB_X11_day_73 hB (uf_X11_day_73 hp) hq (fun _ _ _ _ _ _ hx hp => hx hp))) h2
set_option maxRecDepth 20000 in
set_option maxHeartbeats 1000000 in
theorem cm_X11_day_0 {Q1 Q2 Q3 : Int32 → HS → Prop} {v0 : Nat} {v1 : Int32} {v2 : Int32} {v3 : Int32} {v4 : Int32} {S : HS} (h1 : P_X11_day_0 Q1 v0 v1 v2 v3 v4 S) (h2 : P_X11_day_0 Q2 v0 v1 v2 v3 v4 S) (hq : ∀ (r : Int32) (T : HS), Q1 r T → Q2 r T → Q3 r T) : P_X11_day_0 Q3 v0 v1 v2 v3 v4 S := by
  delta P_X11_day_0 at h1 h2 ⊢
  obtain ⟨c1, h1⟩ := h1
  obtain ⟨_, h2⟩ := h2
  refine ⟨c1, ?_⟩
  intro x3 e2
  have h1 := h1 x3 e2
  have h2 := h2 x3 e2
  refine cm_X11_isWalker h1 h2 (fun x4 x5 h1 h2 g6 g7 => ?_)
  have h1 := h1 g6 g7
  have h2 := h2 g6 g7
  refine ⟨?_, ?_⟩
  · intro c8
    have h1 := h1.1 c8
    have h2 := h2.1 c8
    exact cm_X11_day_21 h1 h2 hq
  · intro c9
    have h1 := h1.2 c9
    have h2 := h2.2 c9
    refine cm_X11_isPlace h1 h2 (fun x10 x11 h1 h2 g12 g13 => ?_)
    have h1 := h1 g12 g13
    have h2 := h2 g12 g13
    refine ⟨?_, ?_⟩
    · intro c14
      have h1 := h1.1 c14
      have h2 := h2.1 c14
      refine cm_X11_in h1 h2 (fun x15 x16 h1 h2 g17 g18 => ?_)
      have h1 := h1 g17 g18
      have h2 := h2 g17 g18
      refine ⟨?_, ?_⟩
      · intro c19
        have h1 := h1.1 c19
        have h2 := h2.1 c19
        exact cm_X11_day_50 h1 h2 hq
      · intro c20
        have h1 := h1.2 c20
        have h2 := h2.2 c20
        refine cm_X11_in h1 h2 (fun x21 x22 h1 h2 g23 g24 => ?_)
        have h1 := h1 g23 g24
        have h2 := h2 g23 g24
        refine ⟨?_, ?_⟩
        · intro c25
          have h1 := h1.1 c25
          have h2 := h2.1 c25
          intro x27 e26
          have h1 := h1 x27 e26
          have h2 := h2 x27 e26
          intro x29 e28
          have h1 := h1 x29 e28
          have h2 := h2 x29 e28
          exact cm_X11_day_73 h1 h2 hq
        · intro c30
          have h1 := h1.2 c30
          have h2 := h2.2 c30
          exact cm_X11_day_50 h1 h2 hq
    · intro c31
      have h1 := h1.2 c31
      have h2 := h2.2 c31
      exact cm_X11_day_21 h1 h2 hq
theorem cm_X11_day {Q1 Q2 Q3 : Int32 → HS → Prop} {v0 : Nat} {v1 : Int32} {v2 : Int32} {v3 : Int32} {v4 : Int32} {S : HS} (h1 : P_X11_day v0 v1 v2 v3 v4 Q1 S) (h2 : P_X11_day v0 v1 v2 v3 v4 Q2 S) (hq : ∀ (r : Int32) (T : HS), Q1 r T → Q2 r T → Q3 r T) : P_X11_day v0 v1 v2 v3 v4 Q3 S := cm_X11_day_0 h1 h2 hq
set_option maxRecDepth 20000 in
set_option maxHeartbeats 1000000 in
theorem cm_X11_wetAtBest_0 {Q1 Q2 Q3 : Int64 → HS → Prop} {v0 : Nat} {v1 : Int32} {v2 : Int32} {v3 : Int32} {v4 : Int32} {S : HS} (h1 : P_X11_wetAtBest_0 Q1 v0 v1 v2 v3 v4 S) (h2 : P_X11_wetAtBest_0 Q2 v0 v1 v2 v3 v4 S) (hq : ∀ (r : Int64) (T : HS), Q1 r T → Q2 r T → Q3 r T) : P_X11_wetAtBest_0 Q3 v0 v1 v2 v3 v4 S := by
  delta P_X11_wetAtBest_0 at h1 h2 ⊢
  obtain ⟨c1, h1⟩ := h1
  obtain ⟨_, h2⟩ := h2
  refine ⟨c1, ?_⟩
  refine cm_X11_bestOf h1 h2 (fun x2 x3 h1 h2 g4 => ?_)
  have h1 := h1 g4
  have h2 := h2 g4
  refine cm_X11_wetOf h1 h2 (fun x5 x6 h1 h2 g7 => ?_)
  have h1 := h1 g7
  have h2 := h2 g7
  exact hq _ _ h1 h2
theorem cm_X11_wetAtBest {Q1 Q2 Q3 : Int64 → HS → Prop} {v0 : Nat} {v1 : Int32} {v2 : Int32} {v3 : Int32} {v4 : Int32} {S : HS} (h1 : P_X11_wetAtBest v0 v1 v2 v3 v4 Q1 S) (h2 : P_X11_wetAtBest v0 v1 v2 v3 v4 Q2 S) (hq : ∀ (r : Int64) (T : HS), Q1 r T → Q2 r T → Q3 r T) : P_X11_wetAtBest v0 v1 v2 v3 v4 Q3 S := cm_X11_wetAtBest_0 h1 h2 hq
set_option maxRecDepth 20000 in
set_option maxHeartbeats 1000000 in
theorem cm_X11_driest_30 {Q1 Q2 Q3 : Int32 → HS → Prop} {v0 : Nat} {S : HS} (h1 : P_X11_driest_30 Q1 v0 S) (h2 : P_X11_driest_30 Q2 v0 S) (hq : ∀ (r : Int32) (T : HS), Q1 r T → Q2 r T → Q3 r T) : P_X11_driest_30 Q3 v0 S := by
  delta P_X11_driest_30 at h1 h2 ⊢
  obtain ⟨c1, h1⟩ := h1
  obtain ⟨_, h2⟩ := h2
  refine ⟨c1, ?_⟩
  refine cm_X11_refused h1 h2 (fun x2 x3 h1 h2 g4 => ?_)
  have h1 := h1 g4
  have h2 := h2 g4
  exact hq _ _ h1 h2
set_option maxRecDepth 20000 in
set_option maxHeartbeats 1000000 in
theorem cm_X11_driest_105 {Q1 Q2 Q3 : Int32 → HS → Prop} {X45_1 X45_2 X45_3 : Nat → Int32 → Int32 → Int32 → Int32 → Int64 → Int32 → HS → Prop} {v0 : Nat} {v1 : Int32} {v2 : Int32} {v3 : Int32} {v4 : Int32} {v5 : Int64} {v7 : Int32} {S : HS} (h1 : P_X11_driest_105 Q1 X45_1 v0 v1 v2 v3 v4 v5 v7 S) (h2 : P_X11_driest_105 Q2 X45_2 v0 v1 v2 v3 v4 v5 v7 S) (hq : ∀ (r : Int32) (T : HS), Q1 r T → Q2 r T → Q3 r T) (hX45 : ∀ (u0 : Nat) (u1 : Int32) (u2 : Int32) (u3 : Int32) (u4 : Int32) (u5 : Int64) (u6 : Int32) (u7 : HS), X45_1 u0 u1 u2 u3 u4 u5 u6 u7 → X45_2 u0 u1 u2 u3 u4 u5 u6 u7 → X45_3 u0 u1 u2 u3 u4 u5 u6 u7) : P_X11_driest_105 Q3 X45_3 v0 v1 v2 v3 v4 v5 v7 S := by
  delta P_X11_driest_105 at h1 h2 ⊢
  intro x2 e1
  have h1 := h1 x2 e1
  have h2 := h2 x2 e1
  exact hX45 _ _ _ _ _ _ _ _ h1 h2
set_option maxRecDepth 20000 in
set_option maxHeartbeats 1000000 in
theorem cm_X11_driest_97 {Q1 Q2 Q3 : Int32 → HS → Prop} {X45_1 X45_2 X45_3 : Nat → Int32 → Int32 → Int32 → Int32 → Int64 → Int32 → HS → Prop} {v0 : Nat} {v1 : Int32} {v2 : Int32} {v3 : Int32} {v7 : Int32} {v8 : Int64} {S : HS} (h1 : P_X11_driest_97 Q1 X45_1 v0 v1 v2 v3 v7 v8 S) (h2 : P_X11_driest_97 Q2 X45_2 v0 v1 v2 v3 v7 v8 S) (hq : ∀ (r : Int32) (T : HS), Q1 r T → Q2 r T → Q3 r T) (hX45 : ∀ (u0 : Nat) (u1 : Int32) (u2 : Int32) (u3 : Int32) (u4 : Int32) (u5 : Int64) (u6 : Int32) (u7 : HS), X45_1 u0 u1 u2 u3 u4 u5 u6 u7 → X45_2 u0 u1 u2 u3 u4 u5 u6 u7 → X45_3 u0 u1 u2 u3 u4 u5 u6 u7) : P_X11_driest_97 Q3 X45_3 v0 v1 v2 v3 v7 v8 S := by
  delta P_X11_driest_97 at h1 h2 ⊢
  exact cm_X11_driest_105 h1 h2 hq hX45
set_option maxRecDepth 20000 in
set_option maxHeartbeats 1000000 in
theorem cmB_X11_driest_45 {Q1 Q2 Q3 : Int32 → HS → Prop} {X45_1 X45_2 X45_3 : Nat → Int32 → Int32 → Int32 → Int32 → Int64 → Int32 → HS → Prop} {v0 : Nat} {v1 : Int32} {v2 : Int32} {v3 : Int32} {v4 : Int32} {v5 : Int64} {v7 : Int32} {S : HS} (h1 : B_X11_driest_45 Q1 X45_1 v0 v1 v2 v3 v4 v5 v7 S) (h2 : B_X11_driest_45 Q2 X45_2 v0 v1 v2 v3 v4 v5 v7 S) (hq : ∀ (r : Int32) (T : HS), Q1 r T → Q2 r T → Q3 r T) (hX45 : ∀ (u0 : Nat) (u1 : Int32) (u2 : Int32) (u3 : Int32) (u4 : Int32) (u5 : Int64) (u6 : Int32) (u7 : HS), X45_1 u0 u1 u2 u3 u4 u5 u6 u7 → X45_2 u0 u1 u2 u3 u4 u5 u6 u7 → X45_3 u0 u1 u2 u3 u4 u5 u6 u7) : B_X11_driest_45 Q3 X45_3 v0 v1 v2 v3 v4 v5 v7 S := by
  delta B_X11_driest_45 at h1 h2 ⊢
  obtain ⟨c1, h1⟩ := h1
  obtain ⟨_, h2⟩ := h2
  refine ⟨c1, ?_⟩
  obtain ⟨b2, e3, h1⟩ := h1
  obtain ⟨b4, e5, h2⟩ := h2
  cases e3.symm.trans e5
  refine ⟨b2, e3, ?_⟩
  obtain ⟨c6, h1⟩ := h1
  obtain ⟨_, h2⟩ := h2
  refine ⟨c6, ?_⟩
  intro x8 e7
  have h1 := h1 x8 e7
  have h2 := h2 x8 e7
  refine ⟨?_, ?_⟩
  · intro c9
    have h1 := h1.1 c9
    have h2 := h2.1 c9
    refine ⟨?_, ?_⟩
    · intro c10
      have h1 := h1.1 c10
      have h2 := h2.1 c10
      refine cm_X11_good h1 h2 (fun x11 x12 h1 h2 g13 => ?_)
      have h1 := h1 g13
      have h2 := h2 g13
      exact hq _ _ h1 h2
    · intro c14
      have h1 := h1.2 c14
      have h2 := h2.2 c14
      refine cm_X11_refused h1 h2 (fun x15 x16 h1 h2 g17 => ?_)
      have h1 := h1 g17
      have h2 := h2 g17
      exact hq _ _ h1 h2
  · intro c18
    have h1 := h1.2 c18
    have h2 := h2.2 c18
    refine cm_X11_wetAtBest h1 h2 (fun x19 x20 h1 h2 g21 => ?_)
    have h1 := h1 g21
    have h2 := h2 g21
    obtain ⟨b22, e23, h1⟩ := h1
    obtain ⟨b24, e25, h2⟩ := h2
    cases e23.symm.trans e25
    refine ⟨b22, e23, ?_⟩
    obtain ⟨c26, h1⟩ := h1
    obtain ⟨_, h2⟩ := h2
    refine ⟨c26, ?_⟩
    obtain ⟨b27, e28, h1⟩ := h1
    obtain ⟨b29, e30, h2⟩ := h2
    cases e28.symm.trans e30
    refine ⟨b27, e28, ?_⟩
    obtain ⟨c31, h1⟩ := h1
    obtain ⟨_, h2⟩ := h2
    refine ⟨c31, ?_⟩
    obtain ⟨c32, h1⟩ := h1
    obtain ⟨_, h2⟩ := h2
    refine ⟨c32, ?_⟩
    intro x34 e33
    have h1 := h1 x34 e33
    have h2 := h2 x34 e33
    intro x36 e35
    have h1 := h1 x36 e35
    have h2 := h2 x36 e35
    refine ⟨?_, ?_⟩
    · intro c37
      have h1 := h1.1 c37
      have h2 := h2.1 c37
      exact cm_X11_driest_97 h1 h2 hq hX45
    · intro c38
      have h1 := h1.2 c38
      have h2 := h2.2 c38
      refine ⟨?_, ?_⟩
      · intro c39
        have h1 := h1.1 c39
        have h2 := h2.1 c39
        exact cm_X11_driest_97 h1 h2 hq hX45
      · intro c40
        have h1 := h1.2 c40
        have h2 := h2.2 c40
        exact cm_X11_driest_105 h1 h2 hq hX45
theorem fd_X11_driest_45 {Q : Int32 → HS → Prop} {v0 : Nat} {v1 : Int32} {v2 : Int32} {v3 : Int32} {v4 : Int32} {v5 : Int64} {v7 : Int32} {S : HS} (h : B_X11_driest_45 Q (P_X11_driest_45 Q) v0 v1 v2 v3 v4 v5 v7 S) : P_X11_driest_45 Q v0 v1 v2 v3 v4 v5 v7 S := fun X hX => hX v0 v1 v2 v3 v4 v5 v7 S (cmB_X11_driest_45 h h (fun _ _ a _ => a) (fun _ _ _ _ _ _ _ _ hp _ => hp X hX))
theorem uf_X11_driest_45 {Q : Int32 → HS → Prop} {v0 : Nat} {v1 : Int32} {v2 : Int32} {v3 : Int32} {v4 : Int32} {v5 : Int64} {v7 : Int32} {S : HS} (h : P_X11_driest_45 Q v0 v1 v2 v3 v4 v5 v7 S) : B_X11_driest_45 Q (P_X11_driest_45 Q) v0 v1 v2 v3 v4 v5 v7 S := h (fun v0 v1 v2 v3 v4 v5 v7 S => B_X11_driest_45 Q (P_X11_driest_45 Q) v0 v1 v2 v3 v4 v5 v7 S) (fun v0 v1 v2 v3 v4 v5 v7 S hB => cmB_X11_driest_45 hB hB (fun _ _ a _ => a) (fun _ _ _ _ _ _ _ _ hb _ => fd_X11_driest_45 hb))
theorem cm_X11_driest_45 {Q1 Q2 Q3 : Int32 → HS → Prop} {v0 : Nat} {v1 : Int32} {v2 : Int32} {v3 : Int32} {v4 : Int32} {v5 : Int64} {v7 : Int32} {S : HS} (h1 : P_X11_driest_45 Q1 v0 v1 v2 v3 v4 v5 v7 S) (h2 : P_X11_driest_45 Q2 v0 v1 v2 v3 v4 v5 v7 S) (hq : ∀ (r : Int32) (T : HS), Q1 r T → Q2 r T → Q3 r T) : P_X11_driest_45 Q3 v0 v1 v2 v3 v4 v5 v7 S := h1 (fun v0 v1 v2 v3 v4 v5 v7 S => P_X11_driest_45 Q2 v0 v1 v2 v3 v4 v5 v7 S → P_X11_driest_45 Q3 v0 v1 v2 v3 v4 v5 v7 S) (fun v0 v1 v2 v3 v4 v5 v7 S hB hp => fd_X11_driest_45 (cmB_X11_driest_45 hB (uf_X11_driest_45 hp) hq (fun _ _ _ _ _ _ _ _ hx hp => hx hp))) h2
set_option maxRecDepth 20000 in
set_option maxHeartbeats 1000000 in
theorem cm_X11_driest_0 {Q1 Q2 Q3 : Int32 → HS → Prop} {v0 : Nat} {v1 : Int32} {v2 : Int32} {v3 : Int32} {S : HS} (h1 : P_X11_driest_0 Q1 v0 v1 v2 v3 S) (h2 : P_X11_driest_0 Q2 v0 v1 v2 v3 S) (hq : ∀ (r : Int32) (T : HS), Q1 r T → Q2 r T → Q3 r T) : P_X11_driest_0 Q3 v0 v1 v2 v3 S := by
  delta P_X11_driest_0 at h1 h2 ⊢
  obtain ⟨c1, h1⟩ := h1
  obtain ⟨_, h2⟩ := h2
  refine ⟨c1, ?_⟩
  intro x3 e2
  have h1 := h1 x3 e2
  have h2 := h2 x3 e2
  refine cm_X11_isWalker h1 h2 (fun x4 x5 h1 h2 g6 g7 => ?_)
  have h1 := h1 g6 g7
  have h2 := h2 g6 g7
  refine ⟨?_, ?_⟩
  · intro c8
    have h1 := h1.1 c8
    have h2 := h2.1 c8
    exact cm_X11_driest_30 h1 h2 hq
  · intro c9
    have h1 := h1.2 c9
    have h2 := h2.2 c9
    refine cm_X11_isRoad h1 h2 (fun x10 x11 h1 h2 g12 g13 => ?_)
    have h1 := h1 g12 g13
    have h2 := h2 g12 g13
    refine ⟨?_, ?_⟩
    · intro c14
      have h1 := h1.1 c14
      have h2 := h2.1 c14
      exact cm_X11_driest_30 h1 h2 hq
    · intro c15
      have h1 := h1.2 c15
      have h2 := h2.2 c15
      refine cm_X11_in h1 h2 (fun x16 x17 h1 h2 g18 g19 => ?_)
      have h1 := h1 g18 g19
      have h2 := h2 g18 g19
      refine ⟨?_, ?_⟩
      · intro c20
        have h1 := h1.1 c20
        have h2 := h2.1 c20
        exact cm_X11_driest_45 h1 h2 hq
      · intro c21
        have h1 := h1.2 c21
        have h2 := h2.2 c21
        exact cm_X11_driest_30 h1 h2 hq
theorem cm_X11_driest {Q1 Q2 Q3 : Int32 → HS → Prop} {v0 : Nat} {v1 : Int32} {v2 : Int32} {v3 : Int32} {S : HS} (h1 : P_X11_driest v0 v1 v2 v3 Q1 S) (h2 : P_X11_driest v0 v1 v2 v3 Q2 S) (hq : ∀ (r : Int32) (T : HS), Q1 r T → Q2 r T → Q3 r T) : P_X11_driest v0 v1 v2 v3 Q3 S := cm_X11_driest_0 h1 h2 hq
set_option maxRecDepth 20000 in
set_option maxHeartbeats 1000000 in
theorem cm_X11_drips_0 {Q1 Q2 Q3 : Int64 → HS → Prop} {v0 : Nat} {v1 : Int32} {v2 : Int32} {S : HS} (h1 : P_X11_drips_0 Q1 v0 v1 v2 S) (h2 : P_X11_drips_0 Q2 v0 v1 v2 S) (hq : ∀ (r : Int64) (T : HS), Q1 r T → Q2 r T → Q3 r T) : P_X11_drips_0 Q3 v0 v1 v2 S := by
  delta P_X11_drips_0 at h1 h2 ⊢
  obtain ⟨c1, h1⟩ := h1
  obtain ⟨_, h2⟩ := h2
  refine ⟨c1, ?_⟩
  obtain ⟨b2, e3, h1⟩ := h1
  obtain ⟨b4, e5, h2⟩ := h2
  cases e3.symm.trans e5
  refine ⟨b2, e3, ?_⟩
  obtain ⟨c6, h1⟩ := h1
  obtain ⟨_, h2⟩ := h2
  refine ⟨c6, ?_⟩
  obtain ⟨b7, e8, h1⟩ := h1
  obtain ⟨b9, e10, h2⟩ := h2
  cases e8.symm.trans e10
  refine ⟨b7, e8, ?_⟩
  obtain ⟨c11, h1⟩ := h1
  obtain ⟨_, h2⟩ := h2
  refine ⟨c11, ?_⟩
  obtain ⟨c12, h1⟩ := h1
  obtain ⟨_, h2⟩ := h2
  refine ⟨c12, ?_⟩
  intro x14 e13
  have h1 := h1 x14 e13
  have h2 := h2 x14 e13
  obtain ⟨b15, e16, h1⟩ := h1
  obtain ⟨b17, e18, h2⟩ := h2
  cases e16.symm.trans e18
  refine ⟨b15, e16, ?_⟩
  obtain ⟨c19, h1⟩ := h1
  obtain ⟨_, h2⟩ := h2
  refine ⟨c19, ?_⟩
  obtain ⟨b20, e21, h1⟩ := h1
  obtain ⟨b22, e23, h2⟩ := h2
  cases e21.symm.trans e23
  refine ⟨b20, e21, ?_⟩
  obtain ⟨c24, h1⟩ := h1
  obtain ⟨_, h2⟩ := h2
  refine ⟨c24, ?_⟩
  obtain ⟨c25, h1⟩ := h1
  obtain ⟨_, h2⟩ := h2
  refine ⟨c25, ?_⟩
  intro x27 e26
  have h1 := h1 x27 e26
  have h2 := h2 x27 e26
  obtain ⟨b28, e29, h1⟩ := h1
  obtain ⟨b30, e31, h2⟩ := h2
  cases e29.symm.trans e31
  refine ⟨b28, e29, ?_⟩
  obtain ⟨c32, h1⟩ := h1
  obtain ⟨_, h2⟩ := h2
  refine ⟨c32, ?_⟩
  refine cm_X10_shield h1 h2 (fun x33 x34 h1 h2 g35 => ?_)
  have h1 := h1 g35
  have h2 := h2 g35
  refine cm_X11_less h1 h2 (fun x36 x37 h1 h2 g38 => ?_)
  have h1 := h1 g38
  have h2 := h2 g38
  exact hq _ _ h1 h2
theorem cm_X11_drips {Q1 Q2 Q3 : Int64 → HS → Prop} {v0 : Nat} {v1 : Int32} {v2 : Int32} {S : HS} (h1 : P_X11_drips v0 v1 v2 Q1 S) (h2 : P_X11_drips v0 v1 v2 Q2 S) (hq : ∀ (r : Int64) (T : HS), Q1 r T → Q2 r T → Q3 r T) : P_X11_drips v0 v1 v2 Q3 S := cm_X11_drips_0 h1 h2 hq
end
section
set_option maxRecDepth 20000 in
set_option maxHeartbeats 1000000 in
theorem cm_X11_eatsSign_21 {Q1 Q2 Q3 : Int32 → HS → Prop} {v0 : Nat} {s0 : Int32} {S : HS} (h1 : P_X11_eatsSign_21 Q1 v0 s0 S) (h2 : P_X11_eatsSign_21 Q2 v0 s0 S) (hq : ∀ (r : Int32) (T : HS), Q1 r T → Q2 r T → Q3 r T) : P_X11_eatsSign_21 Q3 v0 s0 S := by
  delta P_X11_eatsSign_21 at h1 h2 ⊢
  refine ⟨?_, ?_⟩
  · intro c1
    have h1 := h1.1 c1
    have h2 := h2.1 c1
    obtain ⟨c2, h1⟩ := h1
    obtain ⟨_, h2⟩ := h2
    refine ⟨c2, ?_⟩
    exact hq _ _ h1 h2
  · intro c3
    have h1 := h1.2 c3
    have h2 := h2.2 c3
    obtain ⟨c4, h1⟩ := h1
    obtain ⟨_, h2⟩ := h2
    refine ⟨c4, ?_⟩
    refine cm_X11_goesOn h1 h2 (fun x5 h1 h2 g6 => ?_)
    have h1 := h1 g6
    have h2 := h2 g6
    obtain ⟨c7, h1⟩ := h1
    obtain ⟨_, h2⟩ := h2
    refine ⟨c7, ?_⟩
    exact hq _ _ h1 h2
set_option maxRecDepth 20000 in
set_option maxHeartbeats 1000000 in
theorem cm_X11_eatsSign_20 {Q1 Q2 Q3 : Int32 → HS → Prop} {v0 : Nat} {S : HS} (h1 : P_X11_eatsSign_20 Q1 v0 S) (h2 : P_X11_eatsSign_20 Q2 v0 S) (hq : ∀ (r : Int32) (T : HS), Q1 r T → Q2 r T → Q3 r T) : P_X11_eatsSign_20 Q3 v0 S := by
  delta P_X11_eatsSign_20 at h1 h2 ⊢
  exact cm_X11_eatsSign_21 h1 h2 hq
set_option maxRecDepth 20000 in
set_option maxHeartbeats 1000000 in
theorem cm_X11_eatsSign_0 {Q1 Q2 Q3 : Int32 → HS → Prop} {v0 : Nat} {v1 : Int32} {S : HS} (h1 : P_X11_eatsSign_0 Q1 v0 v1 S) (h2 : P_X11_eatsSign_0 Q2 v0 v1 S) (hq : ∀ (r : Int32) (T : HS), Q1 r T → Q2 r T → Q3 r T) : P_X11_eatsSign_0 Q3 v0 v1 S := by
  delta P_X11_eatsSign_0 at h1 h2 ⊢
  obtain ⟨c1, h1⟩ := h1
  obtain ⟨_, h2⟩ := h2
  refine ⟨c1, ?_⟩
  intro x3 e2
  have h1 := h1 x3 e2
  have h2 := h2 x3 e2
  refine ⟨?_, ?_⟩
  · intro c4
    have h1 := h1.1 c4
    have h2 := h2.1 c4
    exact cm_X11_eatsSign_20 h1 h2 hq
  · intro c5
    have h1 := h1.2 c5
    have h2 := h2.2 c5
    intro x7 e6
    have h1 := h1 x7 e6
    have h2 := h2 x7 e6
    refine ⟨?_, ?_⟩
    · intro c8
      have h1 := h1.1 c8
      have h2 := h2.1 c8
      exact cm_X11_eatsSign_20 h1 h2 hq
    · intro c9
      have h1 := h1.2 c9
      have h2 := h2.2 c9
      exact cm_X11_eatsSign_21 h1 h2 hq
theorem cm_X11_eatsSign {Q1 Q2 Q3 : Int32 → HS → Prop} {v0 : Nat} {v1 : Int32} {S : HS} (h1 : P_X11_eatsSign v0 v1 Q1 S) (h2 : P_X11_eatsSign v0 v1 Q2 S) (hq : ∀ (r : Int32) (T : HS), Q1 r T → Q2 r T → Q3 r T) : P_X11_eatsSign v0 v1 Q3 S := cm_X11_eatsSign_0 h1 h2 hq
set_option maxRecDepth 20000 in
set_option maxHeartbeats 1000000 in
theorem cmB_X11_wordOf_4 {Q1 Q2 Q3 : Int64 → HS → Prop} {X4_1 X4_2 X4_3 : Nat → Int64 → Int32 → HS → Prop} {v0 : Nat} {v1 : Int64} {v3 : Int32} {S : HS} (h1 : B_X11_wordOf_4 Q1 X4_1 v0 v1 v3 S) (h2 : B_X11_wordOf_4 Q2 X4_2 v0 v1 v3 S) (hq : ∀ (r : Int64) (T : HS), Q1 r T → Q2 r T → Q3 r T) (hX4 : ∀ (u0 : Nat) (u1 : Int64) (u2 : Int32) (u3 : HS), X4_1 u0 u1 u2 u3 → X4_2 u0 u1 u2 u3 → X4_3 u0 u1 u2 u3) : B_X11_wordOf_4 Q3 X4_3 v0 v1 v3 S := by
  delta B_X11_wordOf_4 at h1 h2 ⊢
  obtain ⟨c1, h1⟩ := h1
  obtain ⟨_, h2⟩ := h2
  refine ⟨c1, ?_⟩
  intro x3 e2
  have h1 := h1 x3 e2
  have h2 := h2 x3 e2
  refine ⟨?_, ?_⟩
  · intro c4
    have h1 := h1.1 c4
    have h2 := h2.1 c4
    exact hq _ _ h1 h2
  · intro c5
    have h1 := h1.2 c5
    have h2 := h2.2 c5
    obtain ⟨c6, h1⟩ := h1
    obtain ⟨_, h2⟩ := h2
    refine ⟨c6, ?_⟩
    obtain ⟨c7, h1⟩ := h1
    obtain ⟨_, h2⟩ := h2
    refine ⟨c7, ?_⟩
    intro x9 e8
    have h1 := h1 x9 e8
    have h2 := h2 x9 e8
    intro x11 e10
    have h1 := h1 x11 e10
    have h2 := h2 x11 e10
    intro x13 e12
    have h1 := h1 x13 e12
    have h2 := h2 x13 e12
    exact hX4 _ _ _ _ h1 h2
theorem fd_X11_wordOf_4 {Q : Int64 → HS → Prop} {v0 : Nat} {v1 : Int64} {v3 : Int32} {S : HS} (h : B_X11_wordOf_4 Q (P_X11_wordOf_4 Q) v0 v1 v3 S) : P_X11_wordOf_4 Q v0 v1 v3 S := fun X hX => hX v0 v1 v3 S (cmB_X11_wordOf_4 h h (fun _ _ a _ => a) (fun _ _ _ _ hp _ => hp X hX))
theorem uf_X11_wordOf_4 {Q : Int64 → HS → Prop} {v0 : Nat} {v1 : Int64} {v3 : Int32} {S : HS} (h : P_X11_wordOf_4 Q v0 v1 v3 S) : B_X11_wordOf_4 Q (P_X11_wordOf_4 Q) v0 v1 v3 S := h (fun v0 v1 v3 S => B_X11_wordOf_4 Q (P_X11_wordOf_4 Q) v0 v1 v3 S) (fun v0 v1 v3 S hB => cmB_X11_wordOf_4 hB hB (fun _ _ a _ => a) (fun _ _ _ _ hb _ => fd_X11_wordOf_4 hb))
theorem cm_X11_wordOf_4 {Q1 Q2 Q3 : Int64 → HS → Prop} {v0 : Nat} {v1 : Int64} {v3 : Int32} {S : HS} (h1 : P_X11_wordOf_4 Q1 v0 v1 v3 S) (h2 : P_X11_wordOf_4 Q2 v0 v1 v3 S) (hq : ∀ (r : Int64) (T : HS), Q1 r T → Q2 r T → Q3 r T) : P_X11_wordOf_4 Q3 v0 v1 v3 S := h1 (fun v0 v1 v3 S => P_X11_wordOf_4 Q2 v0 v1 v3 S → P_X11_wordOf_4 Q3 v0 v1 v3 S) (fun v0 v1 v3 S hB hp => fd_X11_wordOf_4 (cmB_X11_wordOf_4 hB (uf_X11_wordOf_4 hp) hq (fun _ _ _ _ hx hp => hx hp))) h2
set_option maxRecDepth 20000 in
set_option maxHeartbeats 1000000 in
theorem cm_X11_wordOf_0 {Q1 Q2 Q3 : Int64 → HS → Prop} {v0 : Nat} {S : HS} (h1 : P_X11_wordOf_0 Q1 v0 S) (h2 : P_X11_wordOf_0 Q2 v0 S) (hq : ∀ (r : Int64) (T : HS), Q1 r T → Q2 r T → Q3 r T) : P_X11_wordOf_0 Q3 v0 S := by
  delta P_X11_wordOf_0 at h1 h2 ⊢
  exact cm_X11_wordOf_4 h1 h2 hq
theorem cm_X11_wordOf {Q1 Q2 Q3 : Int64 → HS → Prop} {v0 : Nat} {S : HS} (h1 : P_X11_wordOf v0 Q1 S) (h2 : P_X11_wordOf v0 Q2 S) (hq : ∀ (r : Int64) (T : HS), Q1 r T → Q2 r T → Q3 r T) : P_X11_wordOf v0 Q3 S := cm_X11_wordOf_0 h1 h2 hq
set_option maxRecDepth 20000 in
set_option maxHeartbeats 1000000 in
theorem cm_X11_isWord_0 {Q1 Q2 Q3 : Int32 → HS → Prop} {v0 : Nat} {v1 : Nat} {S : HS} (h1 : P_X11_isWord_0 Q1 v0 v1 S) (h2 : P_X11_isWord_0 Q2 v0 v1 S) (hq : ∀ (r : Int32) (T : HS), Q1 r T → Q2 r T → Q3 r T) : P_X11_isWord_0 Q3 v0 v1 S := by
  delta P_X11_isWord_0 at h1 h2 ⊢
  obtain ⟨c1, h1⟩ := h1
  obtain ⟨_, h2⟩ := h2
  refine ⟨c1, ?_⟩
  intro x3 e2
  have h1 := h1 x3 e2
  have h2 := h2 x3 e2
  refine ⟨?_, ?_⟩
  · intro c4
    have h1 := h1.1 c4
    have h2 := h2.1 c4
    exact hq _ _ h1 h2
  · intro c5
    have h1 := h1.2 c5
    have h2 := h2.2 c5
    intro x7 e6
    have h1 := h1 x7 e6
    have h2 := h2 x7 e6
    refine cm_X11_wordOf h1 h2 (fun x8 x9 h1 h2 g10 => ?_)
    have h1 := h1 g10
    have h2 := h2 g10
    refine ⟨?_, ?_⟩
    · intro c11
      have h1 := h1.1 c11
      have h2 := h2.1 c11
      exact hq _ _ h1 h2
    · intro c12
      have h1 := h1.2 c12
      have h2 := h2.2 c12
      exact hq _ _ h1 h2
theorem cm_X11_isWord {Q1 Q2 Q3 : Int32 → HS → Prop} {v0 : Nat} {v1 : Nat} {S : HS} (h1 : P_X11_isWord v0 v1 Q1 S) (h2 : P_X11_isWord v0 v1 Q2 S) (hq : ∀ (r : Int32) (T : HS), Q1 r T → Q2 r T → Q3 r T) : P_X11_isWord v0 v1 Q3 S := cm_X11_isWord_0 h1 h2 hq
set_option maxRecDepth 20000 in
set_option maxHeartbeats 1000000 in
theorem cm_X11_eatsWord_0 {Q1 Q2 Q3 : Int32 → HS → Prop} {v0 : Nat} {v1 : Nat} {S : HS} (h1 : P_X11_eatsWord_0 Q1 v0 v1 S) (h2 : P_X11_eatsWord_0 Q2 v0 v1 S) (hq : ∀ (r : Int32) (T : HS), Q1 r T → Q2 r T → Q3 r T) : P_X11_eatsWord_0 Q3 v0 v1 S := by
  delta P_X11_eatsWord_0 at h1 h2 ⊢
  obtain ⟨c1, h1⟩ := h1
  obtain ⟨_, h2⟩ := h2
  refine ⟨c1, ?_⟩
  refine cm_X11_isWord h1 h2 (fun x2 x3 h1 h2 g4 g5 => ?_)
  have h1 := h1 g4 g5
  have h2 := h2 g4 g5
  refine ⟨?_, ?_⟩
  · intro c6
    have h1 := h1.1 c6
    have h2 := h2.1 c6
    obtain ⟨c7, h1⟩ := h1
    obtain ⟨_, h2⟩ := h2
    refine ⟨c7, ?_⟩
    exact hq _ _ h1 h2
  · intro c8
    have h1 := h1.2 c8
    have h2 := h2.2 c8
    refine cm_X11_goesOn h1 h2 (fun x9 h1 h2 g10 => ?_)
    have h1 := h1 g10
    have h2 := h2 g10
    obtain ⟨c11, h1⟩ := h1
    obtain ⟨_, h2⟩ := h2
    refine ⟨c11, ?_⟩
    exact hq _ _ h1 h2
theorem cm_X11_eatsWord {Q1 Q2 Q3 : Int32 → HS → Prop} {v0 : Nat} {v1 : Nat} {S : HS} (h1 : P_X11_eatsWord v0 v1 Q1 S) (h2 : P_X11_eatsWord v0 v1 Q2 S) (hq : ∀ (r : Int32) (T : HS), Q1 r T → Q2 r T → Q3 r T) : P_X11_eatsWord v0 v1 Q3 S := cm_X11_eatsWord_0 h1 h2 hq
set_option maxRecDepth 20000 in
set_option maxHeartbeats 1000000 in
theorem cm_X11_even_39 {Q1 Q2 Q3 : Int32 → HS → Prop} {v0 : Nat} {S : HS} (h1 : P_X11_even_39 Q1 v0 S) (h2 : P_X11_even_39 Q2 v0 S) (hq : ∀ (r : Int32) (T : HS), Q1 r T → Q2 r T → Q3 r T) : P_X11_even_39 Q3 v0 S := by
  delta P_X11_even_39 at h1 h2 ⊢
  obtain ⟨c1, h1⟩ := h1
  obtain ⟨_, h2⟩ := h2
  refine ⟨c1, ?_⟩
  refine cm_X11_refused h1 h2 (fun x2 x3 h1 h2 g4 => ?_)
  have h1 := h1 g4
  have h2 := h2 g4
  exact hq _ _ h1 h2
set_option maxRecDepth 20000 in
set_option maxHeartbeats 1000000 in
theorem cm_X11_even_111 {Q1 Q2 Q3 : Int32 → HS → Prop} {X59_1 X59_2 X59_3 : Nat → Int32 → Int32 → Int32 → Int32 → Int32 → Int32 → HS → Prop} {v0 : Nat} {v1 : Int32} {v2 : Int32} {v3 : Int32} {v4 : Int32} {v6 : Int32} {s0 : Int32} {S : HS} (h1 : P_X11_even_111 Q1 X59_1 v0 v1 v2 v3 v4 v6 s0 S) (h2 : P_X11_even_111 Q2 X59_2 v0 v1 v2 v3 v4 v6 s0 S) (hq : ∀ (r : Int32) (T : HS), Q1 r T → Q2 r T → Q3 r T) (hX59 : ∀ (u0 : Nat) (u1 : Int32) (u2 : Int32) (u3 : Int32) (u4 : Int32) (u5 : Int32) (u6 : Int32) (u7 : HS), X59_1 u0 u1 u2 u3 u4 u5 u6 u7 → X59_2 u0 u1 u2 u3 u4 u5 u6 u7 → X59_3 u0 u1 u2 u3 u4 u5 u6 u7) : P_X11_even_111 Q3 X59_3 v0 v1 v2 v3 v4 v6 s0 S := by
  delta P_X11_even_111 at h1 h2 ⊢
  intro x2 e1
  have h1 := h1 x2 e1
  have h2 := h2 x2 e1
  exact hX59 _ _ _ _ _ _ _ _ h1 h2
set_option maxRecDepth 20000 in
set_option maxHeartbeats 1000000 in
theorem cm_X11_even_110 {Q1 Q2 Q3 : Int32 → HS → Prop} {X59_1 X59_2 X59_3 : Nat → Int32 → Int32 → Int32 → Int32 → Int32 → Int32 → HS → Prop} {v0 : Nat} {v1 : Int32} {v2 : Int32} {v3 : Int32} {v4 : Int32} {v6 : Int32} {S : HS} (h1 : P_X11_even_110 Q1 X59_1 v0 v1 v2 v3 v4 v6 S) (h2 : P_X11_even_110 Q2 X59_2 v0 v1 v2 v3 v4 v6 S) (hq : ∀ (r : Int32) (T : HS), Q1 r T → Q2 r T → Q3 r T) (hX59 : ∀ (u0 : Nat) (u1 : Int32) (u2 : Int32) (u3 : Int32) (u4 : Int32) (u5 : Int32) (u6 : Int32) (u7 : HS), X59_1 u0 u1 u2 u3 u4 u5 u6 u7 → X59_2 u0 u1 u2 u3 u4 u5 u6 u7 → X59_3 u0 u1 u2 u3 u4 u5 u6 u7) : P_X11_even_110 Q3 X59_3 v0 v1 v2 v3 v4 v6 S := by
  delta P_X11_even_110 at h1 h2 ⊢
  exact cm_X11_even_111 h1 h2 hq hX59
set_option maxRecDepth 20000 in
set_option maxHeartbeats 1000000 in
theorem cm_X11_even_130 {Q1 Q2 Q3 : Int32 → HS → Prop} {s0 : Nat} {s1 : Int32} {S : HS} (h1 : P_X11_even_130 Q1 s0 s1 S) (h2 : P_X11_even_130 Q2 s0 s1 S) (hq : ∀ (r : Int32) (T : HS), Q1 r T → Q2 r T → Q3 r T) : P_X11_even_130 Q3 s0 s1 S := by
  delta P_X11_even_130 at h1 h2 ⊢
  obtain ⟨c1, h1⟩ := h1
  obtain ⟨_, h2⟩ := h2
  refine ⟨c1, ?_⟩
  refine cm_X11_good h1 h2 (fun x2 x3 h1 h2 g4 => ?_)
  have h1 := h1 g4
  have h2 := h2 g4
  exact hq _ _ h1 h2
set_option maxRecDepth 20000 in
set_option maxHeartbeats 1000000 in
theorem cmB_X11_even_59 {Q1 Q2 Q3 : Int32 → HS → Prop} {X59_1 X59_2 X59_3 : Nat → Int32 → Int32 → Int32 → Int32 → Int32 → Int32 → HS → Prop} {v0 : Nat} {v1 : Int32} {v2 : Int32} {v3 : Int32} {v4 : Int32} {v5 : Int32} {v6 : Int32} {S : HS} (h1 : B_X11_even_59 Q1 X59_1 v0 v1 v2 v3 v4 v5 v6 S) (h2 : B_X11_even_59 Q2 X59_2 v0 v1 v2 v3 v4 v5 v6 S) (hq : ∀ (r : Int32) (T : HS), Q1 r T → Q2 r T → Q3 r T) (hX59 : ∀ (u0 : Nat) (u1 : Int32) (u2 : Int32) (u3 : Int32) (u4 : Int32) (u5 : Int32) (u6 : Int32) (u7 : HS), X59_1 u0 u1 u2 u3 u4 u5 u6 u7 → X59_2 u0 u1 u2 u3 u4 u5 u6 u7 → X59_3 u0 u1 u2 u3 u4 u5 u6 u7) : B_X11_even_59 Q3 X59_3 v0 v1 v2 v3 v4 v5 v6 S := by
  delta B_X11_even_59 at h1 h2 ⊢
  obtain ⟨c1, h1⟩ := h1
  obtain ⟨_, h2⟩ := h2
  refine ⟨c1, ?_⟩
  obtain ⟨b2, e3, h1⟩ := h1
  obtain ⟨b4, e5, h2⟩ := h2
  cases e3.symm.trans e5
  refine ⟨b2, e3, ?_⟩
  obtain ⟨c6, h1⟩ := h1
  obtain ⟨_, h2⟩ := h2
  refine ⟨c6, ?_⟩
  obtain ⟨b7, e8, h1⟩ := h1
  obtain ⟨b9, e10, h2⟩ := h2
  cases e8.symm.trans e10
  refine ⟨b7, e8, ?_⟩
  obtain ⟨c11, h1⟩ := h1
  obtain ⟨_, h2⟩ := h2
  refine ⟨c11, ?_⟩
  obtain ⟨c12, h1⟩ := h1
  obtain ⟨_, h2⟩ := h2
  refine ⟨c12, ?_⟩
  intro x14 e13
  have h1 := h1 x14 e13
  have h2 := h2 x14 e13
  refine ⟨?_, ?_⟩
  · intro c15
    have h1 := h1.1 c15
    have h2 := h2.1 c15
    refine ⟨?_, ?_⟩
    · intro c16
      have h1 := h1.1 c16
      have h2 := h2.1 c16
      exact cm_X11_even_130 h1 h2 hq
    · intro c17
      have h1 := h1.2 c17
      have h2 := h2.2 c17
      exact cm_X11_even_130 h1 h2 hq
  · intro c18
    have h1 := h1.2 c18
    have h2 := h2.2 c18
    refine ⟨?_, ?_⟩
    · intro c19
      have h1 := h1.1 c19
      have h2 := h2.1 c19
      exact cm_X11_even_110 h1 h2 hq hX59
    · intro c20
      have h1 := h1.2 c20
      have h2 := h2.2 c20
      refine cm_X11_wetOf h1 h2 (fun x21 x22 h1 h2 g23 => ?_)
      have h1 := h1 g23
      have h2 := h2 g23
      refine cm_X11_wetOf h1 h2 (fun x24 x25 h1 h2 g26 => ?_)
      have h1 := h1 g26
      have h2 := h2 g26
      refine ⟨?_, ?_⟩
      · intro c27
        have h1 := h1.1 c27
        have h2 := h2.1 c27
        exact cm_X11_even_110 h1 h2 hq hX59
      · intro c28
        have h1 := h1.2 c28
        have h2 := h2.2 c28
        exact cm_X11_even_111 h1 h2 hq hX59
theorem fd_X11_even_59 {Q : Int32 → HS → Prop} {v0 : Nat} {v1 : Int32} {v2 : Int32} {v3 : Int32} {v4 : Int32} {v5 : Int32} {v6 : Int32} {S : HS} (h : B_X11_even_59 Q (P_X11_even_59 Q) v0 v1 v2 v3 v4 v5 v6 S) : P_X11_even_59 Q v0 v1 v2 v3 v4 v5 v6 S := fun X hX => hX v0 v1 v2 v3 v4 v5 v6 S (cmB_X11_even_59 h h (fun _ _ a _ => a) (fun _ _ _ _ _ _ _ _ hp _ => hp X hX))
theorem uf_X11_even_59 {Q : Int32 → HS → Prop} {v0 : Nat} {v1 : Int32} {v2 : Int32} {v3 : Int32} {v4 : Int32} {v5 : Int32} {v6 : Int32} {S : HS} (h : P_X11_even_59 Q v0 v1 v2 v3 v4 v5 v6 S) : B_X11_even_59 Q (P_X11_even_59 Q) v0 v1 v2 v3 v4 v5 v6 S := h (fun v0 v1 v2 v3 v4 v5 v6 S => B_X11_even_59 Q (P_X11_even_59 Q) v0 v1 v2 v3 v4 v5 v6 S) (fun v0 v1 v2 v3 v4 v5 v6 S hB => cmB_X11_even_59 hB hB (fun _ _ a _ => a) (fun _ _ _ _ _ _ _ _ hb _ => fd_X11_even_59 hb))
theorem cm_X11_even_59 {Q1 Q2 Q3 : Int32 → HS → Prop} {v0 : Nat} {v1 : Int32} {v2 : Int32} {v3 : Int32} {v4 : Int32} {v5 : Int32} {v6 : Int32} {S : HS} (h1 : P_X11_even_59 Q1 v0 v1 v2 v3 v4 v5 v6 S) (h2 : P_X11_even_59 Q2 v0 v1 v2 v3 v4 v5 v6 S) (hq : ∀ (r : Int32) (T : HS), Q1 r T → Q2 r T → Q3 r T) : P_X11_even_59 Q3 v0 v1 v2 v3 v4 v5 v6 S := h1 (fun v0 v1 v2 v3 v4 v5 v6 S => P_X11_even_59 Q2 v0 v1 v2 v3 v4 v5 v6 S → P_X11_even_59 Q3 v0 v1 v2 v3 v4 v5 v6 S) (fun v0 v1 v2 v3 v4 v5 v6 S hB hp => fd_X11_even_59 (cmB_X11_even_59 hB (uf_X11_even_59 hp) hq (fun _ _ _ _ _ _ _ _ hx hp => hx hp))) h2
set_option maxRecDepth 20000 in
set_option maxHeartbeats 1000000 in
theorem cm_X11_even_0 {Q1 Q2 Q3 : Int32 → HS → Prop} {v0 : Nat} {v1 : Int32} {v2 : Int32} {v3 : Int32} {v4 : Int32} {S : HS} (h1 : P_X11_even_0 Q1 v0 v1 v2 v3 v4 S) (h2 : P_X11_even_0 Q2 v0 v1 v2 v3 v4 S) (hq : ∀ (r : Int32) (T : HS), Q1 r T → Q2 r T → Q3 r T) : P_X11_even_0 Q3 v0 v1 v2 v3 v4 S := by
  delta P_X11_even_0 at h1 h2 ⊢
  obtain ⟨c1, h1⟩ := h1
  obtain ⟨_, h2⟩ := h2
  refine ⟨c1, ?_⟩
  intro x3 e2
  have h1 := h1 x3 e2
  have h2 := h2 x3 e2
  refine cm_X11_isWalker h1 h2 (fun x4 x5 h1 h2 g6 g7 => ?_)
  have h1 := h1 g6 g7
  have h2 := h2 g6 g7
  refine ⟨?_, ?_⟩
  · intro c8
    have h1 := h1.1 c8
    have h2 := h2.1 c8
    exact cm_X11_even_39 h1 h2 hq
  · intro c9
    have h1 := h1.2 c9
    have h2 := h2.2 c9
    refine cm_X11_isRoad h1 h2 (fun x10 x11 h1 h2 g12 g13 => ?_)
    have h1 := h1 g12 g13
    have h2 := h2 g12 g13
    refine ⟨?_, ?_⟩
    · intro c14
      have h1 := h1.1 c14
      have h2 := h2.1 c14
      exact cm_X11_even_39 h1 h2 hq
    · intro c15
      have h1 := h1.2 c15
      have h2 := h2.2 c15
      refine cm_X11_in h1 h2 (fun x16 x17 h1 h2 g18 g19 => ?_)
      have h1 := h1 g18 g19
      have h2 := h2 g18 g19
      refine ⟨?_, ?_⟩
      · intro c20
        have h1 := h1.1 c20
        have h2 := h2.1 c20
        exact cm_X11_even_39 h1 h2 hq
      · intro c21
        have h1 := h1.2 c21
        have h2 := h2.2 c21
        refine cm_X11_isHour h1 h2 (fun x22 x23 h1 h2 g24 g25 => ?_)
        have h1 := h1 g24 g25
        have h2 := h2 g24 g25
        refine ⟨?_, ?_⟩
        · intro c26
          have h1 := h1.1 c26
          have h2 := h2.1 c26
          obtain ⟨b27, e28, h1⟩ := h1
          obtain ⟨b29, e30, h2⟩ := h2
          cases e28.symm.trans e30
          refine ⟨b27, e28, ?_⟩
          obtain ⟨c31, h1⟩ := h1
          obtain ⟨_, h2⟩ := h2
          refine ⟨c31, ?_⟩
          obtain ⟨b32, e33, h1⟩ := h1
          obtain ⟨b34, e35, h2⟩ := h2
          cases e33.symm.trans e35
          refine ⟨b32, e33, ?_⟩
          obtain ⟨c36, h1⟩ := h1
          obtain ⟨_, h2⟩ := h2
          refine ⟨c36, ?_⟩
          obtain ⟨c37, h1⟩ := h1
          obtain ⟨_, h2⟩ := h2
          refine ⟨c37, ?_⟩
          intro x39 e38
          have h1 := h1 x39 e38
          have h2 := h2 x39 e38
          exact cm_X11_even_59 h1 h2 hq
        · intro c40
          have h1 := h1.2 c40
          have h2 := h2.2 c40
          exact cm_X11_even_39 h1 h2 hq
theorem cm_X11_even {Q1 Q2 Q3 : Int32 → HS → Prop} {v0 : Nat} {v1 : Int32} {v2 : Int32} {v3 : Int32} {v4 : Int32} {S : HS} (h1 : P_X11_even v0 v1 v2 v3 v4 Q1 S) (h2 : P_X11_even v0 v1 v2 v3 v4 Q2 S) (hq : ∀ (r : Int32) (T : HS), Q1 r T → Q2 r T → Q3 r T) : P_X11_even v0 v1 v2 v3 v4 Q3 S := cm_X11_even_0 h1 h2 hq
set_option maxRecDepth 20000 in
set_option maxHeartbeats 1000000 in
theorem cm_X11_isSpeed_0 {Q1 Q2 Q3 : Int32 → HS → Prop} {v0 : Nat} {v1 : Int32} {v2 : Int32} {S : HS} (h1 : P_X11_isSpeed_0 Q1 v0 v1 v2 S) (h2 : P_X11_isSpeed_0 Q2 v0 v1 v2 S) (hq : ∀ (r : Int32) (T : HS), Q1 r T → Q2 r T → Q3 r T) : P_X11_isSpeed_0 Q3 v0 v1 v2 S := by
  delta P_X11_isSpeed_0 at h1 h2 ⊢
  obtain ⟨c1, h1⟩ := h1
  obtain ⟨_, h2⟩ := h2
  refine ⟨c1, ?_⟩
  obtain ⟨b2, e3, h1⟩ := h1
  obtain ⟨b4, e5, h2⟩ := h2
  cases e3.symm.trans e5
  refine ⟨b2, e3, ?_⟩
  obtain ⟨c6, h1⟩ := h1
  obtain ⟨_, h2⟩ := h2
  refine ⟨c6, ?_⟩
  obtain ⟨b7, e8, h1⟩ := h1
  obtain ⟨b9, e10, h2⟩ := h2
  cases e8.symm.trans e10
  refine ⟨b7, e8, ?_⟩
  obtain ⟨c11, h1⟩ := h1
  obtain ⟨_, h2⟩ := h2
  refine ⟨c11, ?_⟩
  obtain ⟨c12, h1⟩ := h1
  obtain ⟨_, h2⟩ := h2
  refine ⟨c12, ?_⟩
  intro x14 e13
  have h1 := h1 x14 e13
  have h2 := h2 x14 e13
  obtain ⟨b15, e16, h1⟩ := h1
  obtain ⟨b17, e18, h2⟩ := h2
  cases e16.symm.trans e18
  refine ⟨b15, e16, ?_⟩
  obtain ⟨c19, h1⟩ := h1
  obtain ⟨_, h2⟩ := h2
  refine ⟨c19, ?_⟩
  obtain ⟨b20, e21, h1⟩ := h1
  obtain ⟨b22, e23, h2⟩ := h2
  cases e21.symm.trans e23
  refine ⟨b20, e21, ?_⟩
  obtain ⟨c24, h1⟩ := h1
  obtain ⟨_, h2⟩ := h2
  refine ⟨c24, ?_⟩
  obtain ⟨c25, h1⟩ := h1
  obtain ⟨_, h2⟩ := h2
  refine ⟨c25, ?_⟩
  intro x27 e26
  have h1 := h1 x27 e26
  have h2 := h2 x27 e26
  refine cm_X11_in h1 h2 (fun x28 x29 h1 h2 g30 g31 => ?_)
  have h1 := h1 g30 g31
  have h2 := h2 g30 g31
  obtain ⟨c32, h1⟩ := h1
  obtain ⟨_, h2⟩ := h2
  refine ⟨c32, ?_⟩
  exact hq _ _ h1 h2
theorem cm_X11_isSpeed {Q1 Q2 Q3 : Int32 → HS → Prop} {v0 : Nat} {v1 : Int32} {v2 : Int32} {S : HS} (h1 : P_X11_isSpeed v0 v1 v2 Q1 S) (h2 : P_X11_isSpeed v0 v1 v2 Q2 S) (hq : ∀ (r : Int32) (T : HS), Q1 r T → Q2 r T → Q3 r T) : P_X11_isSpeed v0 v1 v2 Q3 S := cm_X11_isSpeed_0 h1 h2 hq
set_option maxRecDepth 20000 in
set_option maxHeartbeats 1000000 in
theorem cm_X11_refuses_0 {Q1 Q2 Q3 : Int32 → HS → Prop} {v0 : Nat} {v1 : Int32} {v2 : Int32} {v3 : Int32} {v4 : Int32} {v5 : Int32} {S : HS} (h1 : P_X11_refuses_0 Q1 v0 v1 v2 v3 v4 v5 S) (h2 : P_X11_refuses_0 Q2 v0 v1 v2 v3 v4 v5 S) (hq : ∀ (r : Int32) (T : HS), Q1 r T → Q2 r T → Q3 r T) : P_X11_refuses_0 Q3 v0 v1 v2 v3 v4 v5 S := by
  delta P_X11_refuses_0 at h1 h2 ⊢
  obtain ⟨c1, h1⟩ := h1
  obtain ⟨_, h2⟩ := h2
  refine ⟨c1, ?_⟩
  refine cm_X11_isWalker h1 h2 (fun x2 x3 h1 h2 g4 g5 => ?_)
  have h1 := h1 g4 g5
  have h2 := h2 g4 g5
  refine ⟨?_, ?_⟩
  · intro c6
    have h1 := h1.1 c6
    have h2 := h2.1 c6
    exact hq _ _ h1 h2
  · intro c7
    have h1 := h1.2 c7
    have h2 := h2.2 c7
    refine cm_X11_isRoad h1 h2 (fun x8 x9 h1 h2 g10 g11 => ?_)
    have h1 := h1 g10 g11
    have h2 := h2 g10 g11
    refine ⟨?_, ?_⟩
    · intro c12
      have h1 := h1.1 c12
      have h2 := h2.1 c12
      exact hq _ _ h1 h2
    · intro c13
      have h1 := h1.2 c13
      have h2 := h2.2 c13
      refine cm_X11_in h1 h2 (fun x14 x15 h1 h2 g16 g17 => ?_)
      have h1 := h1 g16 g17
      have h2 := h2 g16 g17
      refine ⟨?_, ?_⟩
      · intro c18
        have h1 := h1.1 c18
        have h2 := h2.1 c18
        exact hq _ _ h1 h2
      · intro c19
        have h1 := h1.2 c19
        have h2 := h2.2 c19
        refine cm_X11_isHour h1 h2 (fun x20 x21 h1 h2 g22 g23 => ?_)
        have h1 := h1 g22 g23
        have h2 := h2 g22 g23
        refine ⟨?_, ?_⟩
        · intro c24
          have h1 := h1.1 c24
          have h2 := h2.1 c24
          refine cm_X11_isSpeed h1 h2 (fun x25 x26 h1 h2 g27 g28 => ?_)
          have h1 := h1 g27 g28
          have h2 := h2 g27 g28
          refine ⟨?_, ?_⟩
          · intro c29
            have h1 := h1.1 c29
            have h2 := h2.1 c29
            exact hq _ _ h1 h2
          · intro c30
            have h1 := h1.2 c30
            have h2 := h2.2 c30
            exact hq _ _ h1 h2
        · intro c31
          have h1 := h1.2 c31
          have h2 := h2.2 c31
          exact hq _ _ h1 h2
theorem cm_X11_refuses {Q1 Q2 Q3 : Int32 → HS → Prop} {v0 : Nat} {v1 : Int32} {v2 : Int32} {v3 : Int32} {v4 : Int32} {v5 : Int32} {S : HS} (h1 : P_X11_refuses v0 v1 v2 v3 v4 v5 Q1 S) (h2 : P_X11_refuses v0 v1 v2 v3 v4 v5 Q2 S) (hq : ∀ (r : Int32) (T : HS), Q1 r T → Q2 r T → Q3 r T) : P_X11_refuses v0 v1 v2 v3 v4 v5 Q3 S := cm_X11_refuses_0 h1 h2 hq
set_option maxRecDepth 20000 in
set_option maxHeartbeats 1000000 in
theorem cmB_X11_told_12 {Q1 Q2 Q3 : Int64 → HS → Prop} {X12_1 X12_2 X12_3 : Int64 → Int64 → Int32 → Int64 → Int64 → HS → Prop} {v1 : Int64} {v3 : Int64} {v5 : Int32} {v6 : Int64} {v8 : Int64} {S : HS} (h1 : B_X11_told_12 Q1 X12_1 v1 v3 v5 v6 v8 S) (h2 : B_X11_told_12 Q2 X12_2 v1 v3 v5 v6 v8 S) (hq : ∀ (r : Int64) (T : HS), Q1 r T → Q2 r T → Q3 r T) (hX12 : ∀ (u0 : Int64) (u1 : Int64) (u2 : Int32) (u3 : Int64) (u4 : Int64) (u5 : HS), X12_1 u0 u1 u2 u3 u4 u5 → X12_2 u0 u1 u2 u3 u4 u5 → X12_3 u0 u1 u2 u3 u4 u5) : B_X11_told_12 Q3 X12_3 v1 v3 v5 v6 v8 S := by
  delta B_X11_told_12 at h1 h2 ⊢
  refine ⟨?_, ?_⟩
  · intro c1
    have h1 := h1.1 c1
    have h2 := h2.1 c1
    refine ⟨?_, ?_⟩
    · intro c2
      have h1 := h1.1 c2
      have h2 := h2.1 c2
      obtain ⟨c3, h1⟩ := h1
      obtain ⟨_, h2⟩ := h2
      refine ⟨c3, ?_⟩
      intro x5 e4
      have h1 := h1 x5 e4
      have h2 := h2 x5 e4
      exact hq _ _ h1 h2
    · intro c6
      have h1 := h1.2 c6
      have h2 := h2.2 c6
      obtain ⟨c7, h1⟩ := h1
      obtain ⟨_, h2⟩ := h2
      refine ⟨c7, ?_⟩
      intro x9 e8
      have h1 := h1 x9 e8
      have h2 := h2 x9 e8
      exact hq _ _ h1 h2
  · intro c10
    have h1 := h1.2 c10
    have h2 := h2.2 c10
    obtain ⟨c11, h1⟩ := h1
    obtain ⟨_, h2⟩ := h2
    refine ⟨c11, ?_⟩
    intro x13 e12
    have h1 := h1 x13 e12
    have h2 := h2 x13 e12
    exact hX12 _ _ _ _ _ _ h1 h2
theorem fd_X11_told_12 {Q : Int64 → HS → Prop} {v1 : Int64} {v3 : Int64} {v5 : Int32} {v6 : Int64} {v8 : Int64} {S : HS} (h : B_X11_told_12 Q (P_X11_told_12 Q) v1 v3 v5 v6 v8 S) : P_X11_told_12 Q v1 v3 v5 v6 v8 S := fun X hX => hX v1 v3 v5 v6 v8 S (cmB_X11_told_12 h h (fun _ _ a _ => a) (fun _ _ _ _ _ _ hp _ => hp X hX))
theorem uf_X11_told_12 {Q : Int64 → HS → Prop} {v1 : Int64} {v3 : Int64} {v5 : Int32} {v6 : Int64} {v8 : Int64} {S : HS} (h : P_X11_told_12 Q v1 v3 v5 v6 v8 S) : B_X11_told_12 Q (P_X11_told_12 Q) v1 v3 v5 v6 v8 S := h (fun v1 v3 v5 v6 v8 S => B_X11_told_12 Q (P_X11_told_12 Q) v1 v3 v5 v6 v8 S) (fun v1 v3 v5 v6 v8 S hB => cmB_X11_told_12 hB hB (fun _ _ a _ => a) (fun _ _ _ _ _ _ hb _ => fd_X11_told_12 hb))
theorem cm_X11_told_12 {Q1 Q2 Q3 : Int64 → HS → Prop} {v1 : Int64} {v3 : Int64} {v5 : Int32} {v6 : Int64} {v8 : Int64} {S : HS} (h1 : P_X11_told_12 Q1 v1 v3 v5 v6 v8 S) (h2 : P_X11_told_12 Q2 v1 v3 v5 v6 v8 S) (hq : ∀ (r : Int64) (T : HS), Q1 r T → Q2 r T → Q3 r T) : P_X11_told_12 Q3 v1 v3 v5 v6 v8 S := h1 (fun v1 v3 v5 v6 v8 S => P_X11_told_12 Q2 v1 v3 v5 v6 v8 S → P_X11_told_12 Q3 v1 v3 v5 v6 v8 S) (fun v1 v3 v5 v6 v8 S hB hp => fd_X11_told_12 (cmB_X11_told_12 hB (uf_X11_told_12 hp) hq (fun _ _ _ _ _ _ hx hp => hx hp))) h2
set_option maxRecDepth 20000 in
set_option maxHeartbeats 1000000 in
theorem cm_X11_told_0 {Q1 Q2 Q3 : Int64 → HS → Prop} {v0 : Nat} {v1 : Int64} {v3 : Int64} {v5 : Int32} {S : HS} (h1 : P_X11_told_0 Q1 v0 v1 v3 v5 S) (h2 : P_X11_told_0 Q2 v0 v1 v3 v5 S) (hq : ∀ (r : Int64) (T : HS), Q1 r T → Q2 r T → Q3 r T) : P_X11_told_0 Q3 v0 v1 v3 v5 S := by
  delta P_X11_told_0 at h1 h2 ⊢
  obtain ⟨c1, h1⟩ := h1
  obtain ⟨_, h2⟩ := h2
  refine ⟨c1, ?_⟩
  refine cm_X11_good h1 h2 (fun x2 x3 h1 h2 g4 => ?_)
  have h1 := h1 g4
  have h2 := h2 g4
  exact cm_X11_told_12 h1 h2 hq
theorem cm_X11_told {Q1 Q2 Q3 : Int64 → HS → Prop} {v0 : Nat} {v1 : Int64} {v3 : Int64} {v5 : Int32} {S : HS} (h1 : P_X11_told v0 v1 v3 v5 Q1 S) (h2 : P_X11_told v0 v1 v3 v5 Q2 S) (hq : ∀ (r : Int64) (T : HS), Q1 r T → Q2 r T → Q3 r T) : P_X11_told v0 v1 v3 v5 Q3 S := cm_X11_told_0 h1 h2 hq
set_option maxRecDepth 20000 in
set_option maxHeartbeats 1000000 in
theorem cm_X11_face_30 {Q1 Q2 Q3 : Int64 → HS → Prop} {v0 : Nat} {v1 : Int32} {v2 : Int32} {v3 : Int32} {v4 : Int32} {v5 : Int32} {v6 : Int32} {v7 : Int32} {s0 : Int32} {S : HS} (h1 : P_X11_face_30 Q1 v0 v1 v2 v3 v4 v5 v6 v7 s0 S) (h2 : P_X11_face_30 Q2 v0 v1 v2 v3 v4 v5 v6 v7 s0 S) (hq : ∀ (r : Int64) (T : HS), Q1 r T → Q2 r T → Q3 r T) : P_X11_face_30 Q3 v0 v1 v2 v3 v4 v5 v6 v7 s0 S := by
  delta P_X11_face_30 at h1 h2 ⊢
  refine ⟨?_, ?_⟩
  · intro c1
    have h1 := h1.1 c1
    have h2 := h2.1 c1
    obtain ⟨c2, h1⟩ := h1
    obtain ⟨_, h2⟩ := h2
    refine ⟨c2, ?_⟩
    refine cm_X11_partsOf h1 h2 (fun x3 x4 h1 h2 g5 => ?_)
    have h1 := h1 g5
    have h2 := h2 g5
    refine cm_X11_told h1 h2 (fun x6 x7 h1 h2 g8 => ?_)
    have h1 := h1 g8
    have h2 := h2 g8
    exact hq _ _ h1 h2
  · intro c9
    have h1 := h1.2 c9
    have h2 := h2.2 c9
    obtain ⟨c10, h1⟩ := h1
    obtain ⟨_, h2⟩ := h2
    refine ⟨c10, ?_⟩
    refine cm_X11_refused h1 h2 (fun x11 x12 h1 h2 g13 => ?_)
    have h1 := h1 g13
    have h2 := h2 g13
    exact hq _ _ h1 h2
set_option maxRecDepth 20000 in
set_option maxHeartbeats 1000000 in
theorem cm_X11_face_0 {Q1 Q2 Q3 : Int64 → HS → Prop} {v0 : Nat} {v1 : Int32} {v2 : Int32} {v3 : Int32} {v4 : Int32} {v5 : Int32} {v6 : Int32} {v7 : Int32} {S : HS} (h1 : P_X11_face_0 Q1 v0 v1 v2 v3 v4 v5 v6 v7 S) (h2 : P_X11_face_0 Q2 v0 v1 v2 v3 v4 v5 v6 v7 S) (hq : ∀ (r : Int64) (T : HS), Q1 r T → Q2 r T → Q3 r T) : P_X11_face_0 Q3 v0 v1 v2 v3 v4 v5 v6 v7 S := by
  delta P_X11_face_0 at h1 h2 ⊢
  obtain ⟨c1, h1⟩ := h1
  obtain ⟨_, h2⟩ := h2
  refine ⟨c1, ?_⟩
  intro x3 e2
  have h1 := h1 x3 e2
  have h2 := h2 x3 e2
  refine cm_X11_in h1 h2 (fun x4 x5 h1 h2 g6 g7 => ?_)
  have h1 := h1 g6 g7
  have h2 := h2 g6 g7
  refine ⟨?_, ?_⟩
  · intro c8
    have h1 := h1.1 c8
    have h2 := h2.1 c8
    exact cm_X11_face_30 h1 h2 hq
  · intro c9
    have h1 := h1.2 c9
    have h2 := h2.2 c9
    refine cm_X11_refuses h1 h2 (fun x10 x11 h1 h2 g12 => ?_)
    have h1 := h1 g12
    have h2 := h2 g12
    exact cm_X11_face_30 h1 h2 hq
theorem cm_X11_face {Q1 Q2 Q3 : Int64 → HS → Prop} {v0 : Nat} {v1 : Int32} {v2 : Int32} {v3 : Int32} {v4 : Int32} {v5 : Int32} {v6 : Int32} {v7 : Int32} {S : HS} (h1 : P_X11_face v0 v1 v2 v3 v4 v5 v6 v7 Q1 S) (h2 : P_X11_face v0 v1 v2 v3 v4 v5 v6 v7 Q2 S) (hq : ∀ (r : Int64) (T : HS), Q1 r T → Q2 r T → Q3 r T) : P_X11_face v0 v1 v2 v3 v4 v5 v6 v7 Q3 S := cm_X11_face_0 h1 h2 hq
set_option maxRecDepth 20000 in
set_option maxHeartbeats 1000000 in
theorem cm_X11_fault_0 {Q1 Q2 Q3 : Int32 → HS → Prop} {v0 : Nat} {S : HS} (h1 : P_X11_fault_0 Q1 v0 S) (h2 : P_X11_fault_0 Q2 v0 S) (hq : ∀ (r : Int32) (T : HS), Q1 r T → Q2 r T → Q3 r T) : P_X11_fault_0 Q3 v0 S := by
  delta P_X11_fault_0 at h1 h2 ⊢
  obtain ⟨c1, h1⟩ := h1
  obtain ⟨_, h2⟩ := h2
  refine ⟨c1, ?_⟩
  intro x3 e2
  have h1 := h1 x3 e2
  have h2 := h2 x3 e2
  intro x5 e4
  have h1 := h1 x5 e4
  have h2 := h2 x5 e4
  exact hq _ _ h1 h2
theorem cm_X11_fault {Q1 Q2 Q3 : Int32 → HS → Prop} {v0 : Nat} {S : HS} (h1 : P_X11_fault v0 Q1 S) (h2 : P_X11_fault v0 Q2 S) (hq : ∀ (r : Int32) (T : HS), Q1 r T → Q2 r T → Q3 r T) : P_X11_fault v0 Q3 S := cm_X11_fault_0 h1 h2 hq
set_option maxRecDepth 20000 in
set_option maxHeartbeats 1000000 in
theorem cm_X11_feed_76 {Q1 Q2 Q3 : Int32 → HS → Prop} {X23_1 X23_2 X23_3 : Nat → Int32 → Int32 → Int32 → Int32 → Int32 → Int32 → HS → Prop} {v0 : Nat} {v1 : Int32} {v2 : Int32} {v3 : Int32} {v4 : Int32} {v5 : Int32} {v6 : Int32} {s0 : Int32} {S : HS} (h1 : P_X11_feed_76 Q1 X23_1 v0 v1 v2 v3 v4 v5 v6 s0 S) (h2 : P_X11_feed_76 Q2 X23_2 v0 v1 v2 v3 v4 v5 v6 s0 S) (hq : ∀ (r : Int32) (T : HS), Q1 r T → Q2 r T → Q3 r T) (hX23 : ∀ (u0 : Nat) (u1 : Int32) (u2 : Int32) (u3 : Int32) (u4 : Int32) (u5 : Int32) (u6 : Int32) (u7 : HS), X23_1 u0 u1 u2 u3 u4 u5 u6 u7 → X23_2 u0 u1 u2 u3 u4 u5 u6 u7 → X23_3 u0 u1 u2 u3 u4 u5 u6 u7) : P_X11_feed_76 Q3 X23_3 v0 v1 v2 v3 v4 v5 v6 s0 S := by
  delta P_X11_feed_76 at h1 h2 ⊢
  obtain ⟨c1, h1⟩ := h1
  obtain ⟨_, h2⟩ := h2
  refine ⟨c1, ?_⟩
  obtain ⟨b2, e3, h1⟩ := h1
  obtain ⟨b4, e5, h2⟩ := h2
  cases e3.symm.trans e5
  refine ⟨b2, e3, ?_⟩
  intro x7 e6
  have h1 := h1 x7 e6
  have h2 := h2 x7 e6
  intro x9 e8
  have h1 := h1 x9 e8
  have h2 := h2 x9 e8
  obtain ⟨c10, h1⟩ := h1
  obtain ⟨_, h2⟩ := h2
  refine ⟨c10, ?_⟩
  intro x12 e11
  have h1 := h1 x12 e11
  have h2 := h2 x12 e11
  obtain ⟨c13, h1⟩ := h1
  obtain ⟨_, h2⟩ := h2
  refine ⟨c13, ?_⟩
  intro x15 e14
  have h1 := h1 x15 e14
  have h2 := h2 x15 e14
  intro x17 e16
  have h1 := h1 x17 e16
  have h2 := h2 x17 e16
  intro x19 e18
  have h1 := h1 x19 e18
  have h2 := h2 x19 e18
  intro x21 e20
  have h1 := h1 x21 e20
  have h2 := h2 x21 e20
  intro x23 e22
  have h1 := h1 x23 e22
  have h2 := h2 x23 e22
  exact hX23 _ _ _ _ _ _ _ _ h1 h2
set_option maxRecDepth 20000 in
set_option maxHeartbeats 1000000 in
theorem cmB_X11_feed_23 {Q1 Q2 Q3 : Int32 → HS → Prop} {X23_1 X23_2 X23_3 : Nat → Int32 → Int32 → Int32 → Int32 → Int32 → Int32 → HS → Prop} {v0 : Nat} {v1 : Int32} {v2 : Int32} {v3 : Int32} {v4 : Int32} {v5 : Int32} {v6 : Int32} {S : HS} (h1 : B_X11_feed_23 Q1 X23_1 v0 v1 v2 v3 v4 v5 v6 S) (h2 : B_X11_feed_23 Q2 X23_2 v0 v1 v2 v3 v4 v5 v6 S) (hq : ∀ (r : Int32) (T : HS), Q1 r T → Q2 r T → Q3 r T) (hX23 : ∀ (u0 : Nat) (u1 : Int32) (u2 : Int32) (u3 : Int32) (u4 : Int32) (u5 : Int32) (u6 : Int32) (u7 : HS), X23_1 u0 u1 u2 u3 u4 u5 u6 u7 → X23_2 u0 u1 u2 u3 u4 u5 u6 u7 → X23_3 u0 u1 u2 u3 u4 u5 u6 u7) : B_X11_feed_23 Q3 X23_3 v0 v1 v2 v3 v4 v5 v6 S := by
  delta B_X11_feed_23 at h1 h2 ⊢
  refine ⟨?_, ?_⟩
  · intro c1
    have h1 := h1.1 c1
    have h2 := h2.1 c1
    obtain ⟨c2, h1⟩ := h1
    obtain ⟨_, h2⟩ := h2
    refine ⟨c2, ?_⟩
    intro x4 e3
    have h1 := h1 x4 e3
    have h2 := h2 x4 e3
    exact hq _ _ h1 h2
  · intro c5
    have h1 := h1.2 c5
    have h2 := h2.2 c5
    refine ⟨?_, ?_⟩
    · intro c6
      have h1 := h1.1 c6
      have h2 := h2.1 c6
      refine ⟨?_, ?_⟩
      · intro c7
        have h1 := h1.1 c7
        have h2 := h2.1 c7
        refine ⟨?_, ?_⟩
        · intro c8
          have h1 := h1.1 c8
          have h2 := h2.1 c8
          refine ⟨?_, ?_⟩
          · intro c9
            have h1 := h1.1 c9
            have h2 := h2.1 c9
            exact cm_X11_feed_76 h1 h2 hq hX23
          · intro c10
            have h1 := h1.2 c10
            have h2 := h2.2 c10
            exact cm_X11_feed_76 h1 h2 hq hX23
        · intro c11
          have h1 := h1.2 c11
          have h2 := h2.2 c11
          exact cm_X11_feed_76 h1 h2 hq hX23
      · intro c12
        have h1 := h1.2 c12
        have h2 := h2.2 c12
        exact cm_X11_feed_76 h1 h2 hq hX23
    · intro c13
      have h1 := h1.2 c13
      have h2 := h2.2 c13
      exact cm_X11_feed_76 h1 h2 hq hX23
theorem fd_X11_feed_23 {Q : Int32 → HS → Prop} {v0 : Nat} {v1 : Int32} {v2 : Int32} {v3 : Int32} {v4 : Int32} {v5 : Int32} {v6 : Int32} {S : HS} (h : B_X11_feed_23 Q (P_X11_feed_23 Q) v0 v1 v2 v3 v4 v5 v6 S) : P_X11_feed_23 Q v0 v1 v2 v3 v4 v5 v6 S := fun X hX => hX v0 v1 v2 v3 v4 v5 v6 S (cmB_X11_feed_23 h h (fun _ _ a _ => a) (fun _ _ _ _ _ _ _ _ hp _ => hp X hX))
theorem uf_X11_feed_23 {Q : Int32 → HS → Prop} {v0 : Nat} {v1 : Int32} {v2 : Int32} {v3 : Int32} {v4 : Int32} {v5 : Int32} {v6 : Int32} {S : HS} (h : P_X11_feed_23 Q v0 v1 v2 v3 v4 v5 v6 S) : B_X11_feed_23 Q (P_X11_feed_23 Q) v0 v1 v2 v3 v4 v5 v6 S := h (fun v0 v1 v2 v3 v4 v5 v6 S => B_X11_feed_23 Q (P_X11_feed_23 Q) v0 v1 v2 v3 v4 v5 v6 S) (fun v0 v1 v2 v3 v4 v5 v6 S hB => cmB_X11_feed_23 hB hB (fun _ _ a _ => a) (fun _ _ _ _ _ _ _ _ hb _ => fd_X11_feed_23 hb))
theorem cm_X11_feed_23 {Q1 Q2 Q3 : Int32 → HS → Prop} {v0 : Nat} {v1 : Int32} {v2 : Int32} {v3 : Int32} {v4 : Int32} {v5 : Int32} {v6 : Int32} {S : HS} (h1 : P_X11_feed_23 Q1 v0 v1 v2 v3 v4 v5 v6 S) (h2 : P_X11_feed_23 Q2 v0 v1 v2 v3 v4 v5 v6 S) (hq : ∀ (r : Int32) (T : HS), Q1 r T → Q2 r T → Q3 r T) : P_X11_feed_23 Q3 v0 v1 v2 v3 v4 v5 v6 S := h1 (fun v0 v1 v2 v3 v4 v5 v6 S => P_X11_feed_23 Q2 v0 v1 v2 v3 v4 v5 v6 S → P_X11_feed_23 Q3 v0 v1 v2 v3 v4 v5 v6 S) (fun v0 v1 v2 v3 v4 v5 v6 S hB hp => fd_X11_feed_23 (cmB_X11_feed_23 hB (uf_X11_feed_23 hp) hq (fun _ _ _ _ _ _ _ _ hx hp => hx hp))) h2
set_option maxRecDepth 20000 in
set_option maxHeartbeats 1000000 in
theorem cm_X11_feed_0 {Q1 Q2 Q3 : Int32 → HS → Prop} {v0 : Nat} {v1 : Int32} {v2 : Int32} {v3 : Int32} {v4 : Int32} {v5 : Int32} {S : HS} (h1 : P_X11_feed_0 Q1 v0 v1 v2 v3 v4 v5 S) (h2 : P_X11_feed_0 Q2 v0 v1 v2 v3 v4 v5 S) (hq : ∀ (r : Int32) (T : HS), Q1 r T → Q2 r T → Q3 r T) : P_X11_feed_0 Q3 v0 v1 v2 v3 v4 v5 S := by
  delta P_X11_feed_0 at h1 h2 ⊢
  obtain ⟨c1, h1⟩ := h1
  obtain ⟨_, h2⟩ := h2
  refine ⟨c1, ?_⟩
  intro x3 e2
  have h1 := h1 x3 e2
  have h2 := h2 x3 e2
  intro x5 e4
  have h1 := h1 x5 e4
  have h2 := h2 x5 e4
  refine ⟨?_, ?_⟩
  · intro c6
    have h1 := h1.1 c6
    have h2 := h2.1 c6
    exact cm_X11_feed_23 h1 h2 hq
  · intro c7
    have h1 := h1.2 c7
    have h2 := h2.2 c7
    exact hq _ _ h1 h2
theorem cm_X11_feed {Q1 Q2 Q3 : Int32 → HS → Prop} {v0 : Nat} {v1 : Int32} {v2 : Int32} {v3 : Int32} {v4 : Int32} {v5 : Int32} {S : HS} (h1 : P_X11_feed v0 v1 v2 v3 v4 v5 Q1 S) (h2 : P_X11_feed v0 v1 v2 v3 v4 v5 Q2 S) (hq : ∀ (r : Int32) (T : HS), Q1 r T → Q2 r T → Q3 r T) : P_X11_feed v0 v1 v2 v3 v4 v5 Q3 S := cm_X11_feed_0 h1 h2 hq
set_option maxRecDepth 20000 in
set_option maxHeartbeats 1000000 in
theorem cm_X11_refusesTwo_0 {Q1 Q2 Q3 : Int32 → HS → Prop} {v0 : Nat} {v1 : Int32} {v2 : Int32} {v3 : Int32} {v4 : Int32} {v5 : Int32} {v6 : Int32} {S : HS} (h1 : P_X11_refusesTwo_0 Q1 v0 v1 v2 v3 v4 v5 v6 S) (h2 : P_X11_refusesTwo_0 Q2 v0 v1 v2 v3 v4 v5 v6 S) (hq : ∀ (r : Int32) (T : HS), Q1 r T → Q2 r T → Q3 r T) : P_X11_refusesTwo_0 Q3 v0 v1 v2 v3 v4 v5 v6 S := by
  delta P_X11_refusesTwo_0 at h1 h2 ⊢
  refine ⟨?_, ?_⟩
  · intro c1
    have h1 := h1.1 c1
    have h2 := h2.1 c1
    exact hq _ _ h1 h2
  · intro c2
    have h1 := h1.2 c2
    have h2 := h2.2 c2
    obtain ⟨c3, h1⟩ := h1
    obtain ⟨_, h2⟩ := h2
    refine ⟨c3, ?_⟩
    refine cm_X11_isWalker h1 h2 (fun x4 x5 h1 h2 g6 g7 => ?_)
    have h1 := h1 g6 g7
    have h2 := h2 g6 g7
    refine ⟨?_, ?_⟩
    · intro c8
      have h1 := h1.1 c8
      have h2 := h2.1 c8
      refine cm_X11_refuses h1 h2 (fun x9 x10 h1 h2 g11 => ?_)
      have h1 := h1 g11
      have h2 := h2 g11
      refine ⟨?_, ?_⟩
      · intro c12
        have h1 := h1.1 c12
        have h2 := h2.1 c12
        refine cm_X11_isSpeed h1 h2 (fun x13 x14 h1 h2 g15 g16 => ?_)
        have h1 := h1 g15 g16
        have h2 := h2 g15 g16
        refine ⟨?_, ?_⟩
        · intro c17
          have h1 := h1.1 c17
          have h2 := h2.1 c17
          exact hq _ _ h1 h2
        · intro c18
          have h1 := h1.2 c18
          have h2 := h2.2 c18
          exact hq _ _ h1 h2
      · intro c19
        have h1 := h1.2 c19
        have h2 := h2.2 c19
        exact hq _ _ h1 h2
    · intro c20
      have h1 := h1.2 c20
      have h2 := h2.2 c20
      exact hq _ _ h1 h2
theorem cm_X11_refusesTwo {Q1 Q2 Q3 : Int32 → HS → Prop} {v0 : Nat} {v1 : Int32} {v2 : Int32} {v3 : Int32} {v4 : Int32} {v5 : Int32} {v6 : Int32} {S : HS} (h1 : P_X11_refusesTwo v0 v1 v2 v3 v4 v5 v6 Q1 S) (h2 : P_X11_refusesTwo v0 v1 v2 v3 v4 v5 v6 Q2 S) (hq : ∀ (r : Int32) (T : HS), Q1 r T → Q2 r T → Q3 r T) : P_X11_refusesTwo v0 v1 v2 v3 v4 v5 v6 Q3 S := cm_X11_refusesTwo_0 h1 h2 hq
set_option maxRecDepth 20000 in
set_option maxHeartbeats 1000000 in
theorem cmB_X11_together_6 {Q1 Q2 Q3 : Int64 → HS → Prop} {X6_1 X6_2 X6_3 : Nat → Int32 → Int32 → Int32 → Int32 → Int32 → Int32 → Int64 → Int32 → HS → Prop} {v0 : Nat} {v1 : Int32} {v2 : Int32} {v3 : Int32} {v4 : Int32} {v5 : Int32} {v6 : Int32} {v7 : Int64} {v9 : Int32} {S : HS} (h1 : B_X11_together_6 Q1 X6_1 v0 v1 v2 v3 v4 v5 v6 v7 v9 S) (h2 : B_X11_together_6 Q2 X6_2 v0 v1 v2 v3 v4 v5 v6 v7 v9 S) (hq : ∀ (r : Int64) (T : HS), Q1 r T → Q2 r T → Q3 r T) (hX6 : ∀ (u0 : Nat) (u1 : Int32) (u2 : Int32) (u3 : Int32) (u4 : Int32) (u5 : Int32) (u6 : Int32) (u7 : Int64) (u8 : Int32) (u9 : HS), X6_1 u0 u1 u2 u3 u4 u5 u6 u7 u8 u9 → X6_2 u0 u1 u2 u3 u4 u5 u6 u7 u8 u9 → X6_3 u0 u1 u2 u3 u4 u5 u6 u7 u8 u9) : B_X11_together_6 Q3 X6_3 v0 v1 v2 v3 v4 v5 v6 v7 v9 S := by
  delta B_X11_together_6 at h1 h2 ⊢
  refine ⟨?_, ?_⟩
  · intro c1
    have h1 := h1.1 c1
    have h2 := h2.1 c1
    obtain ⟨c2, h1⟩ := h1
    obtain ⟨_, h2⟩ := h2
    refine ⟨c2, ?_⟩
    obtain ⟨b3, e4, h1⟩ := h1
    obtain ⟨b5, e6, h2⟩ := h2
    cases e4.symm.trans e6
    refine ⟨b3, e4, ?_⟩
    obtain ⟨c7, h1⟩ := h1
    obtain ⟨_, h2⟩ := h2
    refine ⟨c7, ?_⟩
    obtain ⟨b8, e9, h1⟩ := h1
    obtain ⟨b10, e11, h2⟩ := h2
    cases e9.symm.trans e11
    refine ⟨b8, e9, ?_⟩
    obtain ⟨c12, h1⟩ := h1
    obtain ⟨_, h2⟩ := h2
    refine ⟨c12, ?_⟩
    obtain ⟨c13, h1⟩ := h1
    obtain ⟨_, h2⟩ := h2
    refine ⟨c13, ?_⟩
    intro x15 e14
    have h1 := h1 x15 e14
    have h2 := h2 x15 e14
    obtain ⟨b16, e17, h1⟩ := h1
    obtain ⟨b18, e19, h2⟩ := h2
    cases e17.symm.trans e19
    refine ⟨b16, e17, ?_⟩
    obtain ⟨c20, h1⟩ := h1
    obtain ⟨_, h2⟩ := h2
    refine ⟨c20, ?_⟩
    obtain ⟨b21, e22, h1⟩ := h1
    obtain ⟨b23, e24, h2⟩ := h2
    cases e22.symm.trans e24
    refine ⟨b21, e22, ?_⟩
    obtain ⟨c25, h1⟩ := h1
    obtain ⟨_, h2⟩ := h2
    refine ⟨c25, ?_⟩
    obtain ⟨c26, h1⟩ := h1
    obtain ⟨_, h2⟩ := h2
    refine ⟨c26, ?_⟩
    intro x28 e27
    have h1 := h1 x28 e27
    have h2 := h2 x28 e27
    obtain ⟨c29, h1⟩ := h1
    obtain ⟨_, h2⟩ := h2
    refine ⟨c29, ?_⟩
    intro x31 e30
    have h1 := h1 x31 e30
    have h2 := h2 x31 e30
    exact hq _ _ h1 h2
  · intro c32
    have h1 := h1.2 c32
    have h2 := h2.2 c32
    obtain ⟨c33, h1⟩ := h1
    obtain ⟨_, h2⟩ := h2
    refine ⟨c33, ?_⟩
    obtain ⟨b34, e35, h1⟩ := h1
    obtain ⟨b36, e37, h2⟩ := h2
    cases e35.symm.trans e37
    refine ⟨b34, e35, ?_⟩
    obtain ⟨c38, h1⟩ := h1
    obtain ⟨_, h2⟩ := h2
    refine ⟨c38, ?_⟩
    obtain ⟨b39, e40, h1⟩ := h1
    obtain ⟨b41, e42, h2⟩ := h2
    cases e40.symm.trans e42
    refine ⟨b39, e40, ?_⟩
    obtain ⟨c43, h1⟩ := h1
    obtain ⟨_, h2⟩ := h2
    refine ⟨c43, ?_⟩
    obtain ⟨c44, h1⟩ := h1
    obtain ⟨_, h2⟩ := h2
    refine ⟨c44, ?_⟩
    intro x46 e45
    have h1 := h1 x46 e45
    have h2 := h2 x46 e45
    refine cm_X11_inTime h1 h2 (fun x47 x48 h1 h2 g49 => ?_)
    have h1 := h1 g49
    have h2 := h2 g49
    intro x51 e50
    have h1 := h1 x51 e50
    have h2 := h2 x51 e50
    obtain ⟨b52, e53, h1⟩ := h1
    obtain ⟨b54, e55, h2⟩ := h2
    cases e53.symm.trans e55
    refine ⟨b52, e53, ?_⟩
    obtain ⟨c56, h1⟩ := h1
    obtain ⟨_, h2⟩ := h2
    refine ⟨c56, ?_⟩
    obtain ⟨b57, e58, h1⟩ := h1
    obtain ⟨b59, e60, h2⟩ := h2
    cases e58.symm.trans e60
    refine ⟨b57, e58, ?_⟩
    obtain ⟨c61, h1⟩ := h1
    obtain ⟨_, h2⟩ := h2
    refine ⟨c61, ?_⟩
    obtain ⟨c62, h1⟩ := h1
    obtain ⟨_, h2⟩ := h2
    refine ⟨c62, ?_⟩
    intro x64 e63
    have h1 := h1 x64 e63
    have h2 := h2 x64 e63
    refine cm_X11_inTime h1 h2 (fun x65 x66 h1 h2 g67 => ?_)
    have h1 := h1 g67
    have h2 := h2 g67
    intro x69 e68
    have h1 := h1 x69 e68
    have h2 := h2 x69 e68
    intro x71 e70
    have h1 := h1 x71 e70
    have h2 := h2 x71 e70
    exact hX6 _ _ _ _ _ _ _ _ _ _ h1 h2
theorem fd_X11_together_6 {Q : Int64 → HS → Prop} {v0 : Nat} {v1 : Int32} {v2 : Int32} {v3 : Int32} {v4 : Int32} {v5 : Int32} {v6 : Int32} {v7 : Int64} {v9 : Int32} {S : HS} (h : B_X11_together_6 Q (P_X11_together_6 Q) v0 v1 v2 v3 v4 v5 v6 v7 v9 S) : P_X11_together_6 Q v0 v1 v2 v3 v4 v5 v6 v7 v9 S := fun X hX => hX v0 v1 v2 v3 v4 v5 v6 v7 v9 S (cmB_X11_together_6 h h (fun _ _ a _ => a) (fun _ _ _ _ _ _ _ _ _ _ hp _ => hp X hX))
theorem uf_X11_together_6 {Q : Int64 → HS → Prop} {v0 : Nat} {v1 : Int32} {v2 : Int32} {v3 : Int32} {v4 : Int32} {v5 : Int32} {v6 : Int32} {v7 : Int64} {v9 : Int32} {S : HS} (h : P_X11_together_6 Q v0 v1 v2 v3 v4 v5 v6 v7 v9 S) : B_X11_together_6 Q (P_X11_together_6 Q) v0 v1 v2 v3 v4 v5 v6 v7 v9 S := h (fun v0 v1 v2 v3 v4 v5 v6 v7 v9 S => B_X11_together_6 Q (P_X11_together_6 Q) v0 v1 v2 v3 v4 v5 v6 v7 v9 S) (fun v0 v1 v2 v3 v4 v5 v6 v7 v9 S hB => cmB_X11_together_6 hB hB (fun _ _ a _ => a) (fun _ _ _ _ _ _ _ _ _ _ hb _ => fd_X11_together_6 hb))
theorem cm_X11_together_6 {Q1 Q2 Q3 : Int64 → HS → Prop} {v0 : Nat} {v1 : Int32} {v2 : Int32} {v3 : Int32} {v4 : Int32} {v5 : Int32} {v6 : Int32} {v7 : Int64} {v9 : Int32} {S : HS} (h1 : P_X11_together_6 Q1 v0 v1 v2 v3 v4 v5 v6 v7 v9 S) (h2 : P_X11_together_6 Q2 v0 v1 v2 v3 v4 v5 v6 v7 v9 S) (hq : ∀ (r : Int64) (T : HS), Q1 r T → Q2 r T → Q3 r T) : P_X11_together_6 Q3 v0 v1 v2 v3 v4 v5 v6 v7 v9 S := h1 (fun v0 v1 v2 v3 v4 v5 v6 v7 v9 S => P_X11_together_6 Q2 v0 v1 v2 v3 v4 v5 v6 v7 v9 S → P_X11_together_6 Q3 v0 v1 v2 v3 v4 v5 v6 v7 v9 S) (fun v0 v1 v2 v3 v4 v5 v6 v7 v9 S hB hp => fd_X11_together_6 (cmB_X11_together_6 hB (uf_X11_together_6 hp) hq (fun _ _ _ _ _ _ _ _ _ _ hx hp => hx hp))) h2
set_option maxRecDepth 20000 in
set_option maxHeartbeats 1000000 in
theorem cm_X11_together_0 {Q1 Q2 Q3 : Int64 → HS → Prop} {v0 : Nat} {v1 : Int32} {v2 : Int32} {v3 : Int32} {v4 : Int32} {v5 : Int32} {v6 : Int32} {S : HS} (h1 : P_X11_together_0 Q1 v0 v1 v2 v3 v4 v5 v6 S) (h2 : P_X11_together_0 Q2 v0 v1 v2 v3 v4 v5 v6 S) (hq : ∀ (r : Int64) (T : HS), Q1 r T → Q2 r T → Q3 r T) : P_X11_together_0 Q3 v0 v1 v2 v3 v4 v5 v6 S := by
  delta P_X11_together_0 at h1 h2 ⊢
  exact cm_X11_together_6 h1 h2 hq
theorem cm_X11_together {Q1 Q2 Q3 : Int64 → HS → Prop} {v0 : Nat} {v1 : Int32} {v2 : Int32} {v3 : Int32} {v4 : Int32} {v5 : Int32} {v6 : Int32} {S : HS} (h1 : P_X11_together v0 v1 v2 v3 v4 v5 v6 Q1 S) (h2 : P_X11_together v0 v1 v2 v3 v4 v5 v6 Q2 S) (hq : ∀ (r : Int64) (T : HS), Q1 r T → Q2 r T → Q3 r T) : P_X11_together v0 v1 v2 v3 v4 v5 v6 Q3 S := cm_X11_together_0 h1 h2 hq
set_option maxRecDepth 20000 in
set_option maxHeartbeats 1000000 in
theorem cm_X11_first_89 {Q1 Q2 Q3 : Int32 → HS → Prop} {s0 : Nat} {s1 : Int32} {S : HS} (h1 : P_X11_first_89 Q1 s0 s1 S) (h2 : P_X11_first_89 Q2 s0 s1 S) (hq : ∀ (r : Int32) (T : HS), Q1 r T → Q2 r T → Q3 r T) : P_X11_first_89 Q3 s0 s1 S := by
  delta P_X11_first_89 at h1 h2 ⊢
  obtain ⟨c1, h1⟩ := h1
  obtain ⟨_, h2⟩ := h2
  refine ⟨c1, ?_⟩
  refine cm_X11_good h1 h2 (fun x2 x3 h1 h2 g4 => ?_)
  have h1 := h1 g4
  have h2 := h2 g4
  exact hq _ _ h1 h2
set_option maxRecDepth 20000 in
set_option maxHeartbeats 1000000 in
theorem cm_X11_first_0 {Q1 Q2 Q3 : Int32 → HS → Prop} {v0 : Nat} {v1 : Int32} {v2 : Int32} {v3 : Int32} {v4 : Int32} {v5 : Int32} {v6 : Int32} {S : HS} (h1 : P_X11_first_0 Q1 v0 v1 v2 v3 v4 v5 v6 S) (h2 : P_X11_first_0 Q2 v0 v1 v2 v3 v4 v5 v6 S) (hq : ∀ (r : Int32) (T : HS), Q1 r T → Q2 r T → Q3 r T) : P_X11_first_0 Q3 v0 v1 v2 v3 v4 v5 v6 S := by
  delta P_X11_first_0 at h1 h2 ⊢
  obtain ⟨c1, h1⟩ := h1
  obtain ⟨_, h2⟩ := h2
  refine ⟨c1, ?_⟩
  intro x3 e2
  have h1 := h1 x3 e2
  have h2 := h2 x3 e2
  refine cm_X11_refusesTwo h1 h2 (fun x4 x5 h1 h2 g6 => ?_)
  have h1 := h1 g6
  have h2 := h2 g6
  refine ⟨?_, ?_⟩
  · intro c7
    have h1 := h1.1 c7
    have h2 := h2.1 c7
    refine cm_X11_together h1 h2 (fun x8 x9 h1 h2 g10 => ?_)
    have h1 := h1 g10
    have h2 := h2 g10
    refine cm_X11_together h1 h2 (fun x11 x12 h1 h2 g13 => ?_)
    have h1 := h1 g13
    have h2 := h2 g13
    refine ⟨?_, ?_⟩
    · intro c14
      have h1 := h1.1 c14
      have h2 := h2.1 c14
      refine ⟨?_, ?_⟩
      · intro c15
        have h1 := h1.1 c15
        have h2 := h2.1 c15
        exact cm_X11_first_89 h1 h2 hq
      · intro c16
        have h1 := h1.2 c16
        have h2 := h2.2 c16
        exact cm_X11_first_89 h1 h2 hq
    · intro c17
      have h1 := h1.2 c17
      have h2 := h2.2 c17
      exact cm_X11_first_89 h1 h2 hq
  · intro c18
    have h1 := h1.2 c18
    have h2 := h2.2 c18
    refine cm_X11_refused h1 h2 (fun x19 x20 h1 h2 g21 => ?_)
    have h1 := h1 g21
    have h2 := h2 g21
    exact hq _ _ h1 h2
theorem cm_X11_first {Q1 Q2 Q3 : Int32 → HS → Prop} {v0 : Nat} {v1 : Int32} {v2 : Int32} {v3 : Int32} {v4 : Int32} {v5 : Int32} {v6 : Int32} {S : HS} (h1 : P_X11_first v0 v1 v2 v3 v4 v5 v6 Q1 S) (h2 : P_X11_first v0 v1 v2 v3 v4 v5 v6 Q2 S) (hq : ∀ (r : Int32) (T : HS), Q1 r T → Q2 r T → Q3 r T) : P_X11_first v0 v1 v2 v3 v4 v5 v6 Q3 S := cm_X11_first_0 h1 h2 hq
set_option maxRecDepth 20000 in
set_option maxHeartbeats 1000000 in
theorem cm_X11_fitOf_137 {Q1 Q2 Q3 : Int32 → HS → Prop} {X16_1 X16_2 X16_3 : Nat → Int32 → Int32 → Int32 → Int32 → Int32 → HS → Prop} {X31_1 X31_2 X31_3 : Nat → Int32 → Int32 → Int32 → Int32 → Int32 → Int32 → HS → Prop} {X40_1 X40_2 X40_3 : Nat → Int32 → Int32 → Int32 → Int32 → Int32 → Int32 → Int32 → HS → Prop} {X63_1 X63_2 X63_3 : Nat → Int32 → Int32 → Int32 → Int32 → Int32 → Int32 → Int32 → Int32 → HS → Prop} {X83_1 X83_2 X83_3 : Nat → Int32 → Int32 → Int32 → Int32 → Int32 → Int32 → Int32 → Int32 → Int32 → Int32 → HS → Prop} {v0 : Nat} {v1 : Int32} {v2 : Int32} {v3 : Int32} {v4 : Int32} {v5 : Int32} {v6 : Int32} {v7 : Int32} {v8 : Int32} {v10 : Int32} {s0 : Int32} {S : HS} (h1 : P_X11_fitOf_137 Q1 X16_1 X31_1 X40_1 X63_1 X83_1 v0 v1 v2 v3 v4 v5 v6 v7 v8 v10 s0 S) (h2 : P_X11_fitOf_137 Q2 X16_2 X31_2 X40_2 X63_2 X83_2 v0 v1 v2 v3 v4 v5 v6 v7 v8 v10 s0 S) (hq : ∀ (r : Int32) (T : HS), Q1 r T → Q2 r T → Q3 r T) (hX16 : ∀ (u0 : Nat) (u1 : Int32) (u2 : Int32) (u3 : Int32) (u4 : Int32) (u5 : Int32) (u6 : HS), X16_1 u0 u1 u2 u3 u4 u5 u6 → X16_2 u0 u1 u2 u3 u4 u5 u6 → X16_3 u0 u1 u2 u3 u4 u5 u6) (hX31 : ∀ (u0 : Nat) (u1 : Int32) (u2 : Int32) (u3 : Int32) (u4 : Int32) (u5 : Int32) (u6 : Int32) (u7 : HS), X31_1 u0 u1 u2 u3 u4 u5 u6 u7 → X31_2 u0 u1 u2 u3 u4 u5 u6 u7 → X31_3 u0 u1 u2 u3 u4 u5 u6 u7) (hX40 : ∀ (u0 : Nat) (u1 : Int32) (u2 : Int32) (u3 : Int32) (u4 : Int32) (u5 : Int32) (u6 : Int32) (u7 : Int32) (u8 : HS), X40_1 u0 u1 u2 u3 u4 u5 u6 u7 u8 → X40_2 u0 u1 u2 u3 u4 u5 u6 u7 u8 → X40_3 u0 u1 u2 u3 u4 u5 u6 u7 u8) (hX63 : ∀ (u0 : Nat) (u1 : Int32) (u2 : Int32) (u3 : Int32) (u4 : Int32) (u5 : Int32) (u6 : Int32) (u7 : Int32) (u8 : Int32) (u9 : HS), X63_1 u0 u1 u2 u3 u4 u5 u6 u7 u8 u9 → X63_2 u0 u1 u2 u3 u4 u5 u6 u7 u8 u9 → X63_3 u0 u1 u2 u3 u4 u5 u6 u7 u8 u9) (hX83 : ∀ (u0 : Nat) (u1 : Int32) (u2 : Int32) (u3 : Int32) (u4 : Int32) (u5 : Int32) (u6 : Int32) (u7 : Int32) (u8 : Int32) (u9 : Int32) (u10 : Int32) (u11 : HS), X83_1 u0 u1 u2 u3 u4 u5 u6 u7 u8 u9 u10 u11 → X83_2 u0 u1 u2 u3 u4 u5 u6 u7 u8 u9 u10 u11 → X83_3 u0 u1 u2 u3 u4 u5 u6 u7 u8 u9 u10 u11) : P_X11_fitOf_137 Q3 X16_3 X31_3 X40_3 X63_3 X83_3 v0 v1 v2 v3 v4 v5 v6 v7 v8 v10 s0 S := by
  delta P_X11_fitOf_137 at h1 h2 ⊢
  intro x2 e1
  have h1 := h1 x2 e1
  have h2 := h2 x2 e1
  exact hX83 _ _ _ _ _ _ _ _ _ _ _ _ h1 h2
set_option maxRecDepth 20000 in
set_option maxHeartbeats 1000000 in
theorem cm_X11_fitOf_136 {Q1 Q2 Q3 : Int32 → HS → Prop} {X16_1 X16_2 X16_3 : Nat → Int32 → Int32 → Int32 → Int32 → Int32 → HS → Prop} {X31_1 X31_2 X31_3 : Nat → Int32 → Int32 → Int32 → Int32 → Int32 → Int32 → HS → Prop} {X40_1 X40_2 X40_3 : Nat → Int32 → Int32 → Int32 → Int32 → Int32 → Int32 → Int32 → HS → Prop} {X63_1 X63_2 X63_3 : Nat → Int32 → Int32 → Int32 → Int32 → Int32 → Int32 → Int32 → Int32 → HS → Prop} {X83_1 X83_2 X83_3 : Nat → Int32 → Int32 → Int32 → Int32 → Int32 → Int32 → Int32 → Int32 → Int32 → Int32 → HS → Prop} {v0 : Nat} {v1 : Int32} {v2 : Int32} {v3 : Int32} {v4 : Int32} {v5 : Int32} {v6 : Int32} {v7 : Int32} {v8 : Int32} {v10 : Int32} {S : HS} (h1 : P_X11_fitOf_136 Q1 X16_1 X31_1 X40_1 X63_1 X83_1 v0 v1 v2 v3 v4 v5 v6 v7 v8 v10 S) (h2 : P_X11_fitOf_136 Q2 X16_2 X31_2 X40_2 X63_2 X83_2 v0 v1 v2 v3 v4 v5 v6 v7 v8 v10 S) (hq : ∀ (r : Int32) (T : HS), Q1 r T → Q2 r T → Q3 r T) (hX16 : ∀ (u0 : Nat) (u1 : Int32) (u2 : Int32) (u3 : Int32) (u4 : Int32) (u5 : Int32) (u6 : HS), X16_1 u0 u1 u2 u3 u4 u5 u6 → X16_2 u0 u1 u2 u3 u4 u5 u6 → X16_3 u0 u1 u2 u3 u4 u5 u6) (hX31 : ∀ (u0 : Nat) (u1 : Int32) (u2 : Int32) (u3 : Int32) (u4 : Int32) (u5 : Int32) (u6 : Int32) (u7 : HS), X31_1 u0 u1 u2 u3 u4 u5 u6 u7 → X31_2 u0 u1 u2 u3 u4 u5 u6 u7 → X31_3 u0 u1 u2 u3 u4 u5 u6 u7) (hX40 : ∀ (u0 : Nat) (u1 : Int32) (u2 : Int32) (u3 : Int32) (u4 : Int32) (u5 : Int32) (u6 : Int32) (u7 : Int32) (u8 : HS), X40_1 u0 u1 u2 u3 u4 u5 u6 u7 u8 → X40_2 u0 u1 u2 u3 u4 u5 u6 u7 u8 → X40_3 u0 u1 u2 u3 u4 u5 u6 u7 u8) (hX63 : ∀ (u0 : Nat) (u1 : Int32) (u2 : Int32) (u3 : Int32) (u4 : Int32) (u5 : Int32) (u6 : Int32) (u7 : Int32) (u8 : Int32) (u9 : HS), X63_1 u0 u1 u2 u3 u4 u5 u6 u7 u8 u9 → X63_2 u0 u1 u2 u3 u4 u5 u6 u7 u8 u9 → X63_3 u0 u1 u2 u3 u4 u5 u6 u7 u8 u9) (hX83 : ∀ (u0 : Nat) (u1 : Int32) (u2 : Int32) (u3 : Int32) (u4 : Int32) (u5 : Int32) (u6 : Int32) (u7 : Int32) (u8 : Int32) (u9 : Int32) (u10 : Int32) (u11 : HS), X83_1 u0 u1 u2 u3 u4 u5 u6 u7 u8 u9 u10 u11 → X83_2 u0 u1 u2 u3 u4 u5 u6 u7 u8 u9 u10 u11 → X83_3 u0 u1 u2 u3 u4 u5 u6 u7 u8 u9 u10 u11) : P_X11_fitOf_136 Q3 X16_3 X31_3 X40_3 X63_3 X83_3 v0 v1 v2 v3 v4 v5 v6 v7 v8 v10 S := by
  delta P_X11_fitOf_136 at h1 h2 ⊢
  exact cm_X11_fitOf_137 h1 h2 hq hX16 hX31 hX40 hX63 hX83
set_option maxRecDepth 20000 in
set_option maxHeartbeats 1000000 in
theorem cm_X11_fitOf_184 {Q1 Q2 Q3 : Int32 → HS → Prop} {X16_1 X16_2 X16_3 : Nat → Int32 → Int32 → Int32 → Int32 → Int32 → HS → Prop} {X31_1 X31_2 X31_3 : Nat → Int32 → Int32 → Int32 → Int32 → Int32 → Int32 → HS → Prop} {X40_1 X40_2 X40_3 : Nat → Int32 → Int32 → Int32 → Int32 → Int32 → Int32 → Int32 → HS → Prop} {X63_1 X63_2 X63_3 : Nat → Int32 → Int32 → Int32 → Int32 → Int32 → Int32 → Int32 → Int32 → HS → Prop} {v0 : Nat} {v1 : Int32} {v2 : Int32} {v3 : Int32} {v4 : Int32} {v5 : Int32} {v6 : Int32} {v7 : Int32} {v8 : Int32} {S : HS} (h1 : P_X11_fitOf_184 Q1 X16_1 X31_1 X40_1 X63_1 v0 v1 v2 v3 v4 v5 v6 v7 v8 S) (h2 : P_X11_fitOf_184 Q2 X16_2 X31_2 X40_2 X63_2 v0 v1 v2 v3 v4 v5 v6 v7 v8 S) (hq : ∀ (r : Int32) (T : HS), Q1 r T → Q2 r T → Q3 r T) (hX16 : ∀ (u0 : Nat) (u1 : Int32) (u2 : Int32) (u3 : Int32) (u4 : Int32) (u5 : Int32) (u6 : HS), X16_1 u0 u1 u2 u3 u4 u5 u6 → X16_2 u0 u1 u2 u3 u4 u5 u6 → X16_3 u0 u1 u2 u3 u4 u5 u6) (hX31 : ∀ (u0 : Nat) (u1 : Int32) (u2 : Int32) (u3 : Int32) (u4 : Int32) (u5 : Int32) (u6 : Int32) (u7 : HS), X31_1 u0 u1 u2 u3 u4 u5 u6 u7 → X31_2 u0 u1 u2 u3 u4 u5 u6 u7 → X31_3 u0 u1 u2 u3 u4 u5 u6 u7) (hX40 : ∀ (u0 : Nat) (u1 : Int32) (u2 : Int32) (u3 : Int32) (u4 : Int32) (u5 : Int32) (u6 : Int32) (u7 : Int32) (u8 : HS), X40_1 u0 u1 u2 u3 u4 u5 u6 u7 u8 → X40_2 u0 u1 u2 u3 u4 u5 u6 u7 u8 → X40_3 u0 u1 u2 u3 u4 u5 u6 u7 u8) (hX63 : ∀ (u0 : Nat) (u1 : Int32) (u2 : Int32) (u3 : Int32) (u4 : Int32) (u5 : Int32) (u6 : Int32) (u7 : Int32) (u8 : Int32) (u9 : HS), X63_1 u0 u1 u2 u3 u4 u5 u6 u7 u8 u9 → X63_2 u0 u1 u2 u3 u4 u5 u6 u7 u8 u9 → X63_3 u0 u1 u2 u3 u4 u5 u6 u7 u8 u9) : P_X11_fitOf_184 Q3 X16_3 X31_3 X40_3 X63_3 v0 v1 v2 v3 v4 v5 v6 v7 v8 S := by
  delta P_X11_fitOf_184 at h1 h2 ⊢
  intro x2 e1
  have h1 := h1 x2 e1
  have h2 := h2 x2 e1
  exact hX63 _ _ _ _ _ _ _ _ _ _ h1 h2
set_option maxRecDepth 20000 in
set_option maxHeartbeats 1000000 in
theorem cmB_X11_fitOf_83 {Q1 Q2 Q3 : Int32 → HS → Prop} {X16_1 X16_2 X16_3 : Nat → Int32 → Int32 → Int32 → Int32 → Int32 → HS → Prop} {X31_1 X31_2 X31_3 : Nat → Int32 → Int32 → Int32 → Int32 → Int32 → Int32 → HS → Prop} {X40_1 X40_2 X40_3 : Nat → Int32 → Int32 → Int32 → Int32 → Int32 → Int32 → Int32 → HS → Prop} {X63_1 X63_2 X63_3 : Nat → Int32 → Int32 → Int32 → Int32 → Int32 → Int32 → Int32 → Int32 → HS → Prop} {X83_1 X83_2 X83_3 : Nat → Int32 → Int32 → Int32 → Int32 → Int32 → Int32 → Int32 → Int32 → Int32 → Int32 → HS → Prop} {v0 : Nat} {v1 : Int32} {v2 : Int32} {v3 : Int32} {v4 : Int32} {v5 : Int32} {v6 : Int32} {v7 : Int32} {v8 : Int32} {v9 : Int32} {v10 : Int32} {S : HS} (h1 : B_X11_fitOf_83 Q1 X16_1 X31_1 X40_1 X63_1 X83_1 v0 v1 v2 v3 v4 v5 v6 v7 v8 v9 v10 S) (h2 : B_X11_fitOf_83 Q2 X16_2 X31_2 X40_2 X63_2 X83_2 v0 v1 v2 v3 v4 v5 v6 v7 v8 v9 v10 S) (hq : ∀ (r : Int32) (T : HS), Q1 r T → Q2 r T → Q3 r T) (hX16 : ∀ (u0 : Nat) (u1 : Int32) (u2 : Int32) (u3 : Int32) (u4 : Int32) (u5 : Int32) (u6 : HS), X16_1 u0 u1 u2 u3 u4 u5 u6 → X16_2 u0 u1 u2 u3 u4 u5 u6 → X16_3 u0 u1 u2 u3 u4 u5 u6) (hX31 : ∀ (u0 : Nat) (u1 : Int32) (u2 : Int32) (u3 : Int32) (u4 : Int32) (u5 : Int32) (u6 : Int32) (u7 : HS), X31_1 u0 u1 u2 u3 u4 u5 u6 u7 → X31_2 u0 u1 u2 u3 u4 u5 u6 u7 → X31_3 u0 u1 u2 u3 u4 u5 u6 u7) (hX40 : ∀ (u0 : Nat) (u1 : Int32) (u2 : Int32) (u3 : Int32) (u4 : Int32) (u5 : Int32) (u6 : Int32) (u7 : Int32) (u8 : HS), X40_1 u0 u1 u2 u3 u4 u5 u6 u7 u8 → X40_2 u0 u1 u2 u3 u4 u5 u6 u7 u8 → X40_3 u0 u1 u2 u3 u4 u5 u6 u7 u8) (hX63 : ∀ (u0 : Nat) (u1 : Int32) (u2 : Int32) (u3 : Int32) (u4 : Int32) (u5 : Int32) (u6 : Int32) (u7 : Int32) (u8 : Int32) (u9 : HS), X63_1 u0 u1 u2 u3 u4 u5 u6 u7 u8 u9 → X63_2 u0 u1 u2 u3 u4 u5 u6 u7 u8 u9 → X63_3 u0 u1 u2 u3 u4 u5 u6 u7 u8 u9) (hX83 : ∀ (u0 : Nat) (u1 : Int32) (u2 : Int32) (u3 : Int32) (u4 : Int32) (u5 : Int32) (u6 : Int32) (u7 : Int32) (u8 : Int32) (u9 : Int32) (u10 : Int32) (u11 : HS), X83_1 u0 u1 u2 u3 u4 u5 u6 u7 u8 u9 u10 u11 → X83_2 u0 u1 u2 u3 u4 u5 u6 u7 u8 u9 u10 u11 → X83_3 u0 u1 u2 u3 u4 u5 u6 u7 u8 u9 u10 u11) : B_X11_fitOf_83 Q3 X16_3 X31_3 X40_3 X63_3 X83_3 v0 v1 v2 v3 v4 v5 v6 v7 v8 v9 v10 S := by
  delta B_X11_fitOf_83 at h1 h2 ⊢
  refine ⟨?_, ?_⟩
  · intro c1
    have h1 := h1.1 c1
    have h2 := h2.1 c1
    refine ⟨?_, ?_⟩
    · intro c2
      have h1 := h1.1 c2
      have h2 := h2.1 c2
      refine ⟨?_, ?_⟩
      · intro c3
        have h1 := h1.1 c3
        have h2 := h2.1 c3
        intro x5 e4
        have h1 := h1 x5 e4
        have h2 := h2 x5 e4
        exact cm_X11_fitOf_184 h1 h2 hq hX16 hX31 hX40 hX63
      · intro c6
        have h1 := h1.2 c6
        have h2 := h2.2 c6
        exact hq _ _ h1 h2
    · intro c7
      have h1 := h1.2 c7
      have h2 := h2.2 c7
      exact cm_X11_fitOf_184 h1 h2 hq hX16 hX31 hX40 hX63
  · intro c8
    have h1 := h1.2 c8
    have h2 := h2.2 c8
    refine ⟨?_, ?_⟩
    · intro c9
      have h1 := h1.1 c9
      have h2 := h2.1 c9
      exact cm_X11_fitOf_136 h1 h2 hq hX16 hX31 hX40 hX63 hX83
    · intro c10
      have h1 := h1.2 c10
      have h2 := h2.2 c10
      obtain ⟨c11, h1⟩ := h1
      obtain ⟨_, h2⟩ := h2
      refine ⟨c11, ?_⟩
      refine cm_X11_partsOf h1 h2 (fun x12 x13 h1 h2 g14 => ?_)
      have h1 := h1 g14
      have h2 := h2 g14
      obtain ⟨b15, e16, h1⟩ := h1
      obtain ⟨b17, e18, h2⟩ := h2
      cases e16.symm.trans e18
      refine ⟨b15, e16, ?_⟩
      obtain ⟨c19, h1⟩ := h1
      obtain ⟨_, h2⟩ := h2
      refine ⟨c19, ?_⟩
      obtain ⟨b20, e21, h1⟩ := h1
      obtain ⟨b22, e23, h2⟩ := h2
      cases e21.symm.trans e23
      refine ⟨b20, e21, ?_⟩
      obtain ⟨c24, h1⟩ := h1
      obtain ⟨_, h2⟩ := h2
      refine ⟨c24, ?_⟩
      intro x26 e25
      have h1 := h1 x26 e25
      have h2 := h2 x26 e25
      obtain ⟨c27, h1⟩ := h1
      obtain ⟨_, h2⟩ := h2
      refine ⟨c27, ?_⟩
      intro x29 e28
      have h1 := h1 x29 e28
      have h2 := h2 x29 e28
      refine ⟨?_, ?_⟩
      · intro c30
        have h1 := h1.1 c30
        have h2 := h2.1 c30
        exact cm_X11_fitOf_136 h1 h2 hq hX16 hX31 hX40 hX63 hX83
      · intro c31
        have h1 := h1.2 c31
        have h2 := h2.2 c31
        exact cm_X11_fitOf_137 h1 h2 hq hX16 hX31 hX40 hX63 hX83
theorem fd_X11_fitOf_83 {Q : Int32 → HS → Prop} {X16 : Nat → Int32 → Int32 → Int32 → Int32 → Int32 → HS → Prop} {X31 : Nat → Int32 → Int32 → Int32 → Int32 → Int32 → Int32 → HS → Prop} {X40 : Nat → Int32 → Int32 → Int32 → Int32 → Int32 → Int32 → Int32 → HS → Prop} {X63 : Nat → Int32 → Int32 → Int32 → Int32 → Int32 → Int32 → Int32 → Int32 → HS → Prop} {v0 : Nat} {v1 : Int32} {v2 : Int32} {v3 : Int32} {v4 : Int32} {v5 : Int32} {v6 : Int32} {v7 : Int32} {v8 : Int32} {v9 : Int32} {v10 : Int32} {S : HS} (h : B_X11_fitOf_83 Q X16 X31 X40 X63 (P_X11_fitOf_83 Q X16 X31 X40 X63) v0 v1 v2 v3 v4 v5 v6 v7 v8 v9 v10 S) : P_X11_fitOf_83 Q X16 X31 X40 X63 v0 v1 v2 v3 v4 v5 v6 v7 v8 v9 v10 S := fun X hX => hX v0 v1 v2 v3 v4 v5 v6 v7 v8 v9 v10 S (cmB_X11_fitOf_83 h h (fun _ _ a _ => a) (fun _ _ _ _ _ _ _ a _ => a) (fun _ _ _ _ _ _ _ _ a _ => a) (fun _ _ _ _ _ _ _ _ _ a _ => a) (fun _ _ _ _ _ _ _ _ _ _ a _ => a) (fun _ _ _ _ _ _ _ _ _ _ _ _ hp _ => hp X hX))
theorem uf_X11_fitOf_83 {Q : Int32 → HS → Prop} {X16 : Nat → Int32 → Int32 → Int32 → Int32 → Int32 → HS → Prop} {X31 : Nat → Int32 → Int32 → Int32 → Int32 → Int32 → Int32 → HS → Prop} {X40 : Nat → Int32 → Int32 → Int32 → Int32 → Int32 → Int32 → Int32 → HS → Prop} {X63 : Nat → Int32 → Int32 → Int32 → Int32 → Int32 → Int32 → Int32 → Int32 → HS → Prop} {v0 : Nat} {v1 : Int32} {v2 : Int32} {v3 : Int32} {v4 : Int32} {v5 : Int32} {v6 : Int32} {v7 : Int32} {v8 : Int32} {v9 : Int32} {v10 : Int32} {S : HS} (h : P_X11_fitOf_83 Q X16 X31 X40 X63 v0 v1 v2 v3 v4 v5 v6 v7 v8 v9 v10 S) : B_X11_fitOf_83 Q X16 X31 X40 X63 (P_X11_fitOf_83 Q X16 X31 X40 X63) v0 v1 v2 v3 v4 v5 v6 v7 v8 v9 v10 S := h (fun v0 v1 v2 v3 v4 v5 v6 v7 v8 v9 v10 S => B_X11_fitOf_83 Q X16 X31 X40 X63 (P_X11_fitOf_83 Q X16 X31 X40 X63) v0 v1 v2 v3 v4 v5 v6 v7 v8 v9 v10 S) (fun v0 v1 v2 v3 v4 v5 v6 v7 v8 v9 v10 S hB => cmB_X11_fitOf_83 hB hB (fun _ _ a _ => a) (fun _ _ _ _ _ _ _ a _ => a) (fun _ _ _ _ _ _ _ _ a _ => a) (fun _ _ _ _ _ _ _ _ _ a _ => a) (fun _ _ _ _ _ _ _ _ _ _ a _ => a) (fun _ _ _ _ _ _ _ _ _ _ _ _ hb _ => fd_X11_fitOf_83 hb))
theorem cm_X11_fitOf_83 {Q1 Q2 Q3 : Int32 → HS → Prop} {X16_1 X16_2 X16_3 : Nat → Int32 → Int32 → Int32 → Int32 → Int32 → HS → Prop} {X31_1 X31_2 X31_3 : Nat → Int32 → Int32 → Int32 → Int32 → Int32 → Int32 → HS → Prop} {X40_1 X40_2 X40_3 : Nat → Int32 → Int32 → Int32 → Int32 → Int32 → Int32 → Int32 → HS → Prop} {X63_1 X63_2 X63_3 : Nat → Int32 → Int32 → Int32 → Int32 → Int32 → Int32 → Int32 → Int32 → HS → Prop} {v0 : Nat} {v1 : Int32} {v2 : Int32} {v3 : Int32} {v4 : Int32} {v5 : Int32} {v6 : Int32} {v7 : Int32} {v8 : Int32} {v9 : Int32} {v10 : Int32} {S : HS} (h1 : P_X11_fitOf_83 Q1 X16_1 X31_1 X40_1 X63_1 v0 v1 v2 v3 v4 v5 v6 v7 v8 v9 v10 S) (h2 : P_X11_fitOf_83 Q2 X16_2 X31_2 X40_2 X63_2 v0 v1 v2 v3 v4 v5 v6 v7 v8 v9 v10 S) (hq : ∀ (r : Int32) (T : HS), Q1 r T → Q2 r T → Q3 r T) (hX16 : ∀ (u0 : Nat) (u1 : Int32) (u2 : Int32) (u3 : Int32) (u4 : Int32) (u5 : Int32) (u6 : HS), X16_1 u0 u1 u2 u3 u4 u5 u6 → X16_2 u0 u1 u2 u3 u4 u5 u6 → X16_3 u0 u1 u2 u3 u4 u5 u6) (hX31 : ∀ (u0 : Nat) (u1 : Int32) (u2 : Int32) (u3 : Int32) (u4 : Int32) (u5 : Int32) (u6 : Int32) (u7 : HS), X31_1 u0 u1 u2 u3 u4 u5 u6 u7 → X31_2 u0 u1 u2 u3 u4 u5 u6 u7 → X31_3 u0 u1 u2 u3 u4 u5 u6 u7) (hX40 : ∀ (u0 : Nat) (u1 : Int32) (u2 : Int32) (u3 : Int32) (u4 : Int32) (u5 : Int32) (u6 : Int32) (u7 : Int32) (u8 : HS), X40_1 u0 u1 u2 u3 u4 u5 u6 u7 u8 → X40_2 u0 u1 u2 u3 u4 u5 u6 u7 u8 → X40_3 u0 u1 u2 u3 u4 u5 u6 u7 u8) (hX63 : ∀ (u0 : Nat) (u1 : Int32) (u2 : Int32) (u3 : Int32) (u4 : Int32) (u5 : Int32) (u6 : Int32) (u7 : Int32) (u8 : Int32) (u9 : HS), X63_1 u0 u1 u2 u3 u4 u5 u6 u7 u8 u9 → X63_2 u0 u1 u2 u3 u4 u5 u6 u7 u8 u9 → X63_3 u0 u1 u2 u3 u4 u5 u6 u7 u8 u9) : P_X11_fitOf_83 Q3 X16_3 X31_3 X40_3 X63_3 v0 v1 v2 v3 v4 v5 v6 v7 v8 v9 v10 S := h1 (fun v0 v1 v2 v3 v4 v5 v6 v7 v8 v9 v10 S => P_X11_fitOf_83 Q2 X16_2 X31_2 X40_2 X63_2 v0 v1 v2 v3 v4 v5 v6 v7 v8 v9 v10 S → P_X11_fitOf_83 Q3 X16_3 X31_3 X40_3 X63_3 v0 v1 v2 v3 v4 v5 v6 v7 v8 v9 v10 S) (fun v0 v1 v2 v3 v4 v5 v6 v7 v8 v9 v10 S hB hp => fd_X11_fitOf_83 (cmB_X11_fitOf_83 hB (uf_X11_fitOf_83 hp) hq hX16 hX31 hX40 hX63 (fun _ _ _ _ _ _ _ _ _ _ _ _ hx hp => hx hp))) h2
set_option maxRecDepth 20000 in
set_option maxHeartbeats 1000000 in
theorem cmB_X11_fitOf_63 {Q1 Q2 Q3 : Int32 → HS → Prop} {X16_1 X16_2 X16_3 : Nat → Int32 → Int32 → Int32 → Int32 → Int32 → HS → Prop} {X31_1 X31_2 X31_3 : Nat → Int32 → Int32 → Int32 → Int32 → Int32 → Int32 → HS → Prop} {X40_1 X40_2 X40_3 : Nat → Int32 → Int32 → Int32 → Int32 → Int32 → Int32 → Int32 → HS → Prop} {X63_1 X63_2 X63_3 : Nat → Int32 → Int32 → Int32 → Int32 → Int32 → Int32 → Int32 → Int32 → HS → Prop} {v0 : Nat} {v1 : Int32} {v2 : Int32} {v3 : Int32} {v4 : Int32} {v5 : Int32} {v6 : Int32} {v7 : Int32} {v8 : Int32} {S : HS} (h1 : B_X11_fitOf_63 Q1 X16_1 X31_1 X40_1 X63_1 v0 v1 v2 v3 v4 v5 v6 v7 v8 S) (h2 : B_X11_fitOf_63 Q2 X16_2 X31_2 X40_2 X63_2 v0 v1 v2 v3 v4 v5 v6 v7 v8 S) (hq : ∀ (r : Int32) (T : HS), Q1 r T → Q2 r T → Q3 r T) (hX16 : ∀ (u0 : Nat) (u1 : Int32) (u2 : Int32) (u3 : Int32) (u4 : Int32) (u5 : Int32) (u6 : HS), X16_1 u0 u1 u2 u3 u4 u5 u6 → X16_2 u0 u1 u2 u3 u4 u5 u6 → X16_3 u0 u1 u2 u3 u4 u5 u6) (hX31 : ∀ (u0 : Nat) (u1 : Int32) (u2 : Int32) (u3 : Int32) (u4 : Int32) (u5 : Int32) (u6 : Int32) (u7 : HS), X31_1 u0 u1 u2 u3 u4 u5 u6 u7 → X31_2 u0 u1 u2 u3 u4 u5 u6 u7 → X31_3 u0 u1 u2 u3 u4 u5 u6 u7) (hX40 : ∀ (u0 : Nat) (u1 : Int32) (u2 : Int32) (u3 : Int32) (u4 : Int32) (u5 : Int32) (u6 : Int32) (u7 : Int32) (u8 : HS), X40_1 u0 u1 u2 u3 u4 u5 u6 u7 u8 → X40_2 u0 u1 u2 u3 u4 u5 u6 u7 u8 → X40_3 u0 u1 u2 u3 u4 u5 u6 u7 u8) (hX63 : ∀ (u0 : Nat) (u1 : Int32) (u2 : Int32) (u3 : Int32) (u4 : Int32) (u5 : Int32) (u6 : Int32) (u7 : Int32) (u8 : Int32) (u9 : HS), X63_1 u0 u1 u2 u3 u4 u5 u6 u7 u8 u9 → X63_2 u0 u1 u2 u3 u4 u5 u6 u7 u8 u9 → X63_3 u0 u1 u2 u3 u4 u5 u6 u7 u8 u9) : B_X11_fitOf_63 Q3 X16_3 X31_3 X40_3 X63_3 v0 v1 v2 v3 v4 v5 v6 v7 v8 S := by
  delta B_X11_fitOf_63 at h1 h2 ⊢
  obtain ⟨c1, h1⟩ := h1
  obtain ⟨_, h2⟩ := h2
  refine ⟨c1, ?_⟩
  obtain ⟨b2, e3, h1⟩ := h1
  obtain ⟨b4, e5, h2⟩ := h2
  cases e3.symm.trans e5
  refine ⟨b2, e3, ?_⟩
  obtain ⟨c6, h1⟩ := h1
  obtain ⟨_, h2⟩ := h2
  refine ⟨c6, ?_⟩
  obtain ⟨b7, e8, h1⟩ := h1
  obtain ⟨b9, e10, h2⟩ := h2
  cases e8.symm.trans e10
  refine ⟨b7, e8, ?_⟩
  obtain ⟨c11, h1⟩ := h1
  obtain ⟨_, h2⟩ := h2
  refine ⟨c11, ?_⟩
  obtain ⟨c12, h1⟩ := h1
  obtain ⟨_, h2⟩ := h2
  refine ⟨c12, ?_⟩
  intro x14 e13
  have h1 := h1 x14 e13
  have h2 := h2 x14 e13
  refine ⟨?_, ?_⟩
  · intro c15
    have h1 := h1.1 c15
    have h2 := h2.1 c15
    intro x17 e16
    have h1 := h1 x17 e16
    have h2 := h2 x17 e16
    exact hX40 _ _ _ _ _ _ _ _ _ h1 h2
  · intro c18
    have h1 := h1.2 c18
    have h2 := h2.2 c18
    exact cm_X11_fitOf_83 h1 h2 hq hX16 hX31 hX40 hX63
theorem fd_X11_fitOf_63 {Q : Int32 → HS → Prop} {X16 : Nat → Int32 → Int32 → Int32 → Int32 → Int32 → HS → Prop} {X31 : Nat → Int32 → Int32 → Int32 → Int32 → Int32 → Int32 → HS → Prop} {X40 : Nat → Int32 → Int32 → Int32 → Int32 → Int32 → Int32 → Int32 → HS → Prop} {v0 : Nat} {v1 : Int32} {v2 : Int32} {v3 : Int32} {v4 : Int32} {v5 : Int32} {v6 : Int32} {v7 : Int32} {v8 : Int32} {S : HS} (h : B_X11_fitOf_63 Q X16 X31 X40 (P_X11_fitOf_63 Q X16 X31 X40) v0 v1 v2 v3 v4 v5 v6 v7 v8 S) : P_X11_fitOf_63 Q X16 X31 X40 v0 v1 v2 v3 v4 v5 v6 v7 v8 S := fun X hX => hX v0 v1 v2 v3 v4 v5 v6 v7 v8 S (cmB_X11_fitOf_63 h h (fun _ _ a _ => a) (fun _ _ _ _ _ _ _ a _ => a) (fun _ _ _ _ _ _ _ _ a _ => a) (fun _ _ _ _ _ _ _ _ _ a _ => a) (fun _ _ _ _ _ _ _ _ _ _ hp _ => hp X hX))
theorem uf_X11_fitOf_63 {Q : Int32 → HS → Prop} {X16 : Nat → Int32 → Int32 → Int32 → Int32 → Int32 → HS → Prop} {X31 : Nat → Int32 → Int32 → Int32 → Int32 → Int32 → Int32 → HS → Prop} {X40 : Nat → Int32 → Int32 → Int32 → Int32 → Int32 → Int32 → Int32 → HS → Prop} {v0 : Nat} {v1 : Int32} {v2 : Int32} {v3 : Int32} {v4 : Int32} {v5 : Int32} {v6 : Int32} {v7 : Int32} {v8 : Int32} {S : HS} (h : P_X11_fitOf_63 Q X16 X31 X40 v0 v1 v2 v3 v4 v5 v6 v7 v8 S) : B_X11_fitOf_63 Q X16 X31 X40 (P_X11_fitOf_63 Q X16 X31 X40) v0 v1 v2 v3 v4 v5 v6 v7 v8 S := h (fun v0 v1 v2 v3 v4 v5 v6 v7 v8 S => B_X11_fitOf_63 Q X16 X31 X40 (P_X11_fitOf_63 Q X16 X31 X40) v0 v1 v2 v3 v4 v5 v6 v7 v8 S) (fun v0 v1 v2 v3 v4 v5 v6 v7 v8 S hB => cmB_X11_fitOf_63 hB hB (fun _ _ a _ => a) (fun _ _ _ _ _ _ _ a _ => a) (fun _ _ _ _ _ _ _ _ a _ => a) (fun _ _ _ _ _ _ _ _ _ a _ => a) (fun _ _ _ _ _ _ _ _ _ _ hb _ => fd_X11_fitOf_63 hb))
theorem cm_X11_fitOf_63 {Q1 Q2 Q3 : Int32 → HS → Prop} {X16_1 X16_2 X16_3 : Nat → Int32 → Int32 → Int32 → Int32 → Int32 → HS → Prop} {X31_1 X31_2 X31_3 : Nat → Int32 → Int32 → Int32 → Int32 → Int32 → Int32 → HS → Prop} {X40_1 X40_2 X40_3 : Nat → Int32 → Int32 → Int32 → Int32 → Int32 → Int32 → Int32 → HS → Prop} {v0 : Nat} {v1 : Int32} {v2 : Int32} {v3 : Int32} {v4 : Int32} {v5 : Int32} {v6 : Int32} {v7 : Int32} {v8 : Int32} {S : HS} (h1 : P_X11_fitOf_63 Q1 X16_1 X31_1 X40_1 v0 v1 v2 v3 v4 v5 v6 v7 v8 S) (h2 : P_X11_fitOf_63 Q2 X16_2 X31_2 X40_2 v0 v1 v2 v3 v4 v5 v6 v7 v8 S) (hq : ∀ (r : Int32) (T : HS), Q1 r T → Q2 r T → Q3 r T) (hX16 : ∀ (u0 : Nat) (u1 : Int32) (u2 : Int32) (u3 : Int32) (u4 : Int32) (u5 : Int32) (u6 : HS), X16_1 u0 u1 u2 u3 u4 u5 u6 → X16_2 u0 u1 u2 u3 u4 u5 u6 → X16_3 u0 u1 u2 u3 u4 u5 u6) (hX31 : ∀ (u0 : Nat) (u1 : Int32) (u2 : Int32) (u3 : Int32) (u4 : Int32) (u5 : Int32) (u6 : Int32) (u7 : HS), X31_1 u0 u1 u2 u3 u4 u5 u6 u7 → X31_2 u0 u1 u2 u3 u4 u5 u6 u7 → X31_3 u0 u1 u2 u3 u4 u5 u6 u7) (hX40 : ∀ (u0 : Nat) (u1 : Int32) (u2 : Int32) (u3 : Int32) (u4 : Int32) (u5 : Int32) (u6 : Int32) (u7 : Int32) (u8 : HS), X40_1 u0 u1 u2 u3 u4 u5 u6 u7 u8 → X40_2 u0 u1 u2 u3 u4 u5 u6 u7 u8 → X40_3 u0 u1 u2 u3 u4 u5 u6 u7 u8) : P_X11_fitOf_63 Q3 X16_3 X31_3 X40_3 v0 v1 v2 v3 v4 v5 v6 v7 v8 S := h1 (fun v0 v1 v2 v3 v4 v5 v6 v7 v8 S => P_X11_fitOf_63 Q2 X16_2 X31_2 X40_2 v0 v1 v2 v3 v4 v5 v6 v7 v8 S → P_X11_fitOf_63 Q3 X16_3 X31_3 X40_3 v0 v1 v2 v3 v4 v5 v6 v7 v8 S) (fun v0 v1 v2 v3 v4 v5 v6 v7 v8 S hB hp => fd_X11_fitOf_63 (cmB_X11_fitOf_63 hB (uf_X11_fitOf_63 hp) hq hX16 hX31 hX40 (fun _ _ _ _ _ _ _ _ _ _ hx hp => hx hp))) h2
set_option maxRecDepth 20000 in
set_option maxHeartbeats 1000000 in
theorem cmB_X11_fitOf_40 {Q1 Q2 Q3 : Int32 → HS → Prop} {X16_1 X16_2 X16_3 : Nat → Int32 → Int32 → Int32 → Int32 → Int32 → HS → Prop} {X31_1 X31_2 X31_3 : Nat → Int32 → Int32 → Int32 → Int32 → Int32 → Int32 → HS → Prop} {X40_1 X40_2 X40_3 : Nat → Int32 → Int32 → Int32 → Int32 → Int32 → Int32 → Int32 → HS → Prop} {v0 : Nat} {v1 : Int32} {v2 : Int32} {v3 : Int32} {v4 : Int32} {v5 : Int32} {v6 : Int32} {v7 : Int32} {S : HS} (h1 : B_X11_fitOf_40 Q1 X16_1 X31_1 X40_1 v0 v1 v2 v3 v4 v5 v6 v7 S) (h2 : B_X11_fitOf_40 Q2 X16_2 X31_2 X40_2 v0 v1 v2 v3 v4 v5 v6 v7 S) (hq : ∀ (r : Int32) (T : HS), Q1 r T → Q2 r T → Q3 r T) (hX16 : ∀ (u0 : Nat) (u1 : Int32) (u2 : Int32) (u3 : Int32) (u4 : Int32) (u5 : Int32) (u6 : HS), X16_1 u0 u1 u2 u3 u4 u5 u6 → X16_2 u0 u1 u2 u3 u4 u5 u6 → X16_3 u0 u1 u2 u3 u4 u5 u6) (hX31 : ∀ (u0 : Nat) (u1 : Int32) (u2 : Int32) (u3 : Int32) (u4 : Int32) (u5 : Int32) (u6 : Int32) (u7 : HS), X31_1 u0 u1 u2 u3 u4 u5 u6 u7 → X31_2 u0 u1 u2 u3 u4 u5 u6 u7 → X31_3 u0 u1 u2 u3 u4 u5 u6 u7) (hX40 : ∀ (u0 : Nat) (u1 : Int32) (u2 : Int32) (u3 : Int32) (u4 : Int32) (u5 : Int32) (u6 : Int32) (u7 : Int32) (u8 : HS), X40_1 u0 u1 u2 u3 u4 u5 u6 u7 u8 → X40_2 u0 u1 u2 u3 u4 u5 u6 u7 u8 → X40_3 u0 u1 u2 u3 u4 u5 u6 u7 u8) : B_X11_fitOf_40 Q3 X16_3 X31_3 X40_3 v0 v1 v2 v3 v4 v5 v6 v7 S := by
  delta B_X11_fitOf_40 at h1 h2 ⊢
  obtain ⟨c1, h1⟩ := h1
  obtain ⟨_, h2⟩ := h2
  refine ⟨c1, ?_⟩
  obtain ⟨b2, e3, h1⟩ := h1
  obtain ⟨b4, e5, h2⟩ := h2
  cases e3.symm.trans e5
  refine ⟨b2, e3, ?_⟩
  obtain ⟨c6, h1⟩ := h1
  obtain ⟨_, h2⟩ := h2
  refine ⟨c6, ?_⟩
  intro x8 e7
  have h1 := h1 x8 e7
  have h2 := h2 x8 e7
  refine ⟨?_, ?_⟩
  · intro c9
    have h1 := h1.1 c9
    have h2 := h2.1 c9
    intro x11 e10
    have h1 := h1 x11 e10
    have h2 := h2 x11 e10
    exact hX31 _ _ _ _ _ _ _ _ h1 h2
  · intro c12
    have h1 := h1.2 c12
    have h2 := h2.2 c12
    obtain ⟨b13, e14, h1⟩ := h1
    obtain ⟨b15, e16, h2⟩ := h2
    cases e14.symm.trans e16
    refine ⟨b13, e14, ?_⟩
    obtain ⟨c17, h1⟩ := h1
    obtain ⟨_, h2⟩ := h2
    refine ⟨c17, ?_⟩
    obtain ⟨b18, e19, h1⟩ := h1
    obtain ⟨b20, e21, h2⟩ := h2
    cases e19.symm.trans e21
    refine ⟨b18, e19, ?_⟩
    obtain ⟨c22, h1⟩ := h1
    obtain ⟨_, h2⟩ := h2
    refine ⟨c22, ?_⟩
    obtain ⟨c23, h1⟩ := h1
    obtain ⟨_, h2⟩ := h2
    refine ⟨c23, ?_⟩
    intro x25 e24
    have h1 := h1 x25 e24
    have h2 := h2 x25 e24
    exact cm_X11_fitOf_63 h1 h2 hq hX16 hX31 hX40
theorem fd_X11_fitOf_40 {Q : Int32 → HS → Prop} {X16 : Nat → Int32 → Int32 → Int32 → Int32 → Int32 → HS → Prop} {X31 : Nat → Int32 → Int32 → Int32 → Int32 → Int32 → Int32 → HS → Prop} {v0 : Nat} {v1 : Int32} {v2 : Int32} {v3 : Int32} {v4 : Int32} {v5 : Int32} {v6 : Int32} {v7 : Int32} {S : HS} (h : B_X11_fitOf_40 Q X16 X31 (P_X11_fitOf_40 Q X16 X31) v0 v1 v2 v3 v4 v5 v6 v7 S) : P_X11_fitOf_40 Q X16 X31 v0 v1 v2 v3 v4 v5 v6 v7 S := fun X hX => hX v0 v1 v2 v3 v4 v5 v6 v7 S (cmB_X11_fitOf_40 h h (fun _ _ a _ => a) (fun _ _ _ _ _ _ _ a _ => a) (fun _ _ _ _ _ _ _ _ a _ => a) (fun _ _ _ _ _ _ _ _ _ hp _ => hp X hX))
theorem uf_X11_fitOf_40 {Q : Int32 → HS → Prop} {X16 : Nat → Int32 → Int32 → Int32 → Int32 → Int32 → HS → Prop} {X31 : Nat → Int32 → Int32 → Int32 → Int32 → Int32 → Int32 → HS → Prop} {v0 : Nat} {v1 : Int32} {v2 : Int32} {v3 : Int32} {v4 : Int32} {v5 : Int32} {v6 : Int32} {v7 : Int32} {S : HS} (h : P_X11_fitOf_40 Q X16 X31 v0 v1 v2 v3 v4 v5 v6 v7 S) : B_X11_fitOf_40 Q X16 X31 (P_X11_fitOf_40 Q X16 X31) v0 v1 v2 v3 v4 v5 v6 v7 S := h (fun v0 v1 v2 v3 v4 v5 v6 v7 S => B_X11_fitOf_40 Q X16 X31 (P_X11_fitOf_40 Q X16 X31) v0 v1 v2 v3 v4 v5 v6 v7 S) (fun v0 v1 v2 v3 v4 v5 v6 v7 S hB => cmB_X11_fitOf_40 hB hB (fun _ _ a _ => a) (fun _ _ _ _ _ _ _ a _ => a) (fun _ _ _ _ _ _ _ _ a _ => a) (fun _ _ _ _ _ _ _ _ _ hb _ => fd_X11_fitOf_40 hb))
theorem cm_X11_fitOf_40 {Q1 Q2 Q3 : Int32 → HS → Prop} {X16_1 X16_2 X16_3 : Nat → Int32 → Int32 → Int32 → Int32 → Int32 → HS → Prop} {X31_1 X31_2 X31_3 : Nat → Int32 → Int32 → Int32 → Int32 → Int32 → Int32 → HS → Prop} {v0 : Nat} {v1 : Int32} {v2 : Int32} {v3 : Int32} {v4 : Int32} {v5 : Int32} {v6 : Int32} {v7 : Int32} {S : HS} (h1 : P_X11_fitOf_40 Q1 X16_1 X31_1 v0 v1 v2 v3 v4 v5 v6 v7 S) (h2 : P_X11_fitOf_40 Q2 X16_2 X31_2 v0 v1 v2 v3 v4 v5 v6 v7 S) (hq : ∀ (r : Int32) (T : HS), Q1 r T → Q2 r T → Q3 r T) (hX16 : ∀ (u0 : Nat) (u1 : Int32) (u2 : Int32) (u3 : Int32) (u4 : Int32) (u5 : Int32) (u6 : HS), X16_1 u0 u1 u2 u3 u4 u5 u6 → X16_2 u0 u1 u2 u3 u4 u5 u6 → X16_3 u0 u1 u2 u3 u4 u5 u6) (hX31 : ∀ (u0 : Nat) (u1 : Int32) (u2 : Int32) (u3 : Int32) (u4 : Int32) (u5 : Int32) (u6 : Int32) (u7 : HS), X31_1 u0 u1 u2 u3 u4 u5 u6 u7 → X31_2 u0 u1 u2 u3 u4 u5 u6 u7 → X31_3 u0 u1 u2 u3 u4 u5 u6 u7) : P_X11_fitOf_40 Q3 X16_3 X31_3 v0 v1 v2 v3 v4 v5 v6 v7 S := h1 (fun v0 v1 v2 v3 v4 v5 v6 v7 S => P_X11_fitOf_40 Q2 X16_2 X31_2 v0 v1 v2 v3 v4 v5 v6 v7 S → P_X11_fitOf_40 Q3 X16_3 X31_3 v0 v1 v2 v3 v4 v5 v6 v7 S) (fun v0 v1 v2 v3 v4 v5 v6 v7 S hB hp => fd_X11_fitOf_40 (cmB_X11_fitOf_40 hB (uf_X11_fitOf_40 hp) hq hX16 hX31 (fun _ _ _ _ _ _ _ _ _ hx hp => hx hp))) h2
set_option maxRecDepth 20000 in
set_option maxHeartbeats 1000000 in
theorem cmB_X11_fitOf_31 {Q1 Q2 Q3 : Int32 → HS → Prop} {X16_1 X16_2 X16_3 : Nat → Int32 → Int32 → Int32 → Int32 → Int32 → HS → Prop} {X31_1 X31_2 X31_3 : Nat → Int32 → Int32 → Int32 → Int32 → Int32 → Int32 → HS → Prop} {v0 : Nat} {v1 : Int32} {v2 : Int32} {v3 : Int32} {v4 : Int32} {v5 : Int32} {v6 : Int32} {S : HS} (h1 : B_X11_fitOf_31 Q1 X16_1 X31_1 v0 v1 v2 v3 v4 v5 v6 S) (h2 : B_X11_fitOf_31 Q2 X16_2 X31_2 v0 v1 v2 v3 v4 v5 v6 S) (hq : ∀ (r : Int32) (T : HS), Q1 r T → Q2 r T → Q3 r T) (hX16 : ∀ (u0 : Nat) (u1 : Int32) (u2 : Int32) (u3 : Int32) (u4 : Int32) (u5 : Int32) (u6 : HS), X16_1 u0 u1 u2 u3 u4 u5 u6 → X16_2 u0 u1 u2 u3 u4 u5 u6 → X16_3 u0 u1 u2 u3 u4 u5 u6) (hX31 : ∀ (u0 : Nat) (u1 : Int32) (u2 : Int32) (u3 : Int32) (u4 : Int32) (u5 : Int32) (u6 : Int32) (u7 : HS), X31_1 u0 u1 u2 u3 u4 u5 u6 u7 → X31_2 u0 u1 u2 u3 u4 u5 u6 u7 → X31_3 u0 u1 u2 u3 u4 u5 u6 u7) : B_X11_fitOf_31 Q3 X16_3 X31_3 v0 v1 v2 v3 v4 v5 v6 S := by
  delta B_X11_fitOf_31 at h1 h2 ⊢
  refine ⟨?_, ?_⟩
  · intro c1
    have h1 := h1.1 c1
    have h2 := h2.1 c1
    intro x3 e2
    have h1 := h1 x3 e2
    have h2 := h2 x3 e2
    exact hX16 _ _ _ _ _ _ _ h1 h2
  · intro c4
    have h1 := h1.2 c4
    have h2 := h2.2 c4
    exact cm_X11_fitOf_40 h1 h2 hq hX16 hX31
theorem fd_X11_fitOf_31 {Q : Int32 → HS → Prop} {X16 : Nat → Int32 → Int32 → Int32 → Int32 → Int32 → HS → Prop} {v0 : Nat} {v1 : Int32} {v2 : Int32} {v3 : Int32} {v4 : Int32} {v5 : Int32} {v6 : Int32} {S : HS} (h : B_X11_fitOf_31 Q X16 (P_X11_fitOf_31 Q X16) v0 v1 v2 v3 v4 v5 v6 S) : P_X11_fitOf_31 Q X16 v0 v1 v2 v3 v4 v5 v6 S := fun X hX => hX v0 v1 v2 v3 v4 v5 v6 S (cmB_X11_fitOf_31 h h (fun _ _ a _ => a) (fun _ _ _ _ _ _ _ a _ => a) (fun _ _ _ _ _ _ _ _ hp _ => hp X hX))
theorem uf_X11_fitOf_31 {Q : Int32 → HS → Prop} {X16 : Nat → Int32 → Int32 → Int32 → Int32 → Int32 → HS → Prop} {v0 : Nat} {v1 : Int32} {v2 : Int32} {v3 : Int32} {v4 : Int32} {v5 : Int32} {v6 : Int32} {S : HS} (h : P_X11_fitOf_31 Q X16 v0 v1 v2 v3 v4 v5 v6 S) : B_X11_fitOf_31 Q X16 (P_X11_fitOf_31 Q X16) v0 v1 v2 v3 v4 v5 v6 S := h (fun v0 v1 v2 v3 v4 v5 v6 S => B_X11_fitOf_31 Q X16 (P_X11_fitOf_31 Q X16) v0 v1 v2 v3 v4 v5 v6 S) (fun v0 v1 v2 v3 v4 v5 v6 S hB => cmB_X11_fitOf_31 hB hB (fun _ _ a _ => a) (fun _ _ _ _ _ _ _ a _ => a) (fun _ _ _ _ _ _ _ _ hb _ => fd_X11_fitOf_31 hb))
theorem cm_X11_fitOf_31 {Q1 Q2 Q3 : Int32 → HS → Prop} {X16_1 X16_2 X16_3 : Nat → Int32 → Int32 → Int32 → Int32 → Int32 → HS → Prop} {v0 : Nat} {v1 : Int32} {v2 : Int32} {v3 : Int32} {v4 : Int32} {v5 : Int32} {v6 : Int32} {S : HS} (h1 : P_X11_fitOf_31 Q1 X16_1 v0 v1 v2 v3 v4 v5 v6 S) (h2 : P_X11_fitOf_31 Q2 X16_2 v0 v1 v2 v3 v4 v5 v6 S) (hq : ∀ (r : Int32) (T : HS), Q1 r T → Q2 r T → Q3 r T) (hX16 : ∀ (u0 : Nat) (u1 : Int32) (u2 : Int32) (u3 : Int32) (u4 : Int32) (u5 : Int32) (u6 : HS), X16_1 u0 u1 u2 u3 u4 u5 u6 → X16_2 u0 u1 u2 u3 u4 u5 u6 → X16_3 u0 u1 u2 u3 u4 u5 u6) : P_X11_fitOf_31 Q3 X16_3 v0 v1 v2 v3 v4 v5 v6 S := h1 (fun v0 v1 v2 v3 v4 v5 v6 S => P_X11_fitOf_31 Q2 X16_2 v0 v1 v2 v3 v4 v5 v6 S → P_X11_fitOf_31 Q3 X16_3 v0 v1 v2 v3 v4 v5 v6 S) (fun v0 v1 v2 v3 v4 v5 v6 S hB hp => fd_X11_fitOf_31 (cmB_X11_fitOf_31 hB (uf_X11_fitOf_31 hp) hq hX16 (fun _ _ _ _ _ _ _ _ hx hp => hx hp))) h2
set_option maxRecDepth 20000 in
set_option maxHeartbeats 1000000 in
theorem cmB_X11_fitOf_16 {Q1 Q2 Q3 : Int32 → HS → Prop} {X16_1 X16_2 X16_3 : Nat → Int32 → Int32 → Int32 → Int32 → Int32 → HS → Prop} {v0 : Nat} {v1 : Int32} {v2 : Int32} {v3 : Int32} {v4 : Int32} {v5 : Int32} {S : HS} (h1 : B_X11_fitOf_16 Q1 X16_1 v0 v1 v2 v3 v4 v5 S) (h2 : B_X11_fitOf_16 Q2 X16_2 v0 v1 v2 v3 v4 v5 S) (hq : ∀ (r : Int32) (T : HS), Q1 r T → Q2 r T → Q3 r T) (hX16 : ∀ (u0 : Nat) (u1 : Int32) (u2 : Int32) (u3 : Int32) (u4 : Int32) (u5 : Int32) (u6 : HS), X16_1 u0 u1 u2 u3 u4 u5 u6 → X16_2 u0 u1 u2 u3 u4 u5 u6 → X16_3 u0 u1 u2 u3 u4 u5 u6) : B_X11_fitOf_16 Q3 X16_3 v0 v1 v2 v3 v4 v5 S := by
  delta B_X11_fitOf_16 at h1 h2 ⊢
  obtain ⟨c1, h1⟩ := h1
  obtain ⟨_, h2⟩ := h2
  refine ⟨c1, ?_⟩
  obtain ⟨b2, e3, h1⟩ := h1
  obtain ⟨b4, e5, h2⟩ := h2
  cases e3.symm.trans e5
  refine ⟨b2, e3, ?_⟩
  obtain ⟨c6, h1⟩ := h1
  obtain ⟨_, h2⟩ := h2
  refine ⟨c6, ?_⟩
  intro x8 e7
  have h1 := h1 x8 e7
  have h2 := h2 x8 e7
  refine ⟨?_, ?_⟩
  · intro c9
    have h1 := h1.1 c9
    have h2 := h2.1 c9
    refine ⟨?_, ?_⟩
    · intro c10
      have h1 := h1.1 c10
      have h2 := h2.1 c10
      exact hq _ _ h1 h2
    · intro c11
      have h1 := h1.2 c11
      have h2 := h2.2 c11
      exact hq _ _ h1 h2
  · intro c12
    have h1 := h1.2 c12
    have h2 := h2.2 c12
    exact cm_X11_fitOf_31 h1 h2 hq hX16
theorem fd_X11_fitOf_16 {Q : Int32 → HS → Prop} {v0 : Nat} {v1 : Int32} {v2 : Int32} {v3 : Int32} {v4 : Int32} {v5 : Int32} {S : HS} (h : B_X11_fitOf_16 Q (P_X11_fitOf_16 Q) v0 v1 v2 v3 v4 v5 S) : P_X11_fitOf_16 Q v0 v1 v2 v3 v4 v5 S := fun X hX => hX v0 v1 v2 v3 v4 v5 S (cmB_X11_fitOf_16 h h (fun _ _ a _ => a) (fun _ _ _ _ _ _ _ hp _ => hp X hX))
theorem uf_X11_fitOf_16 {Q : Int32 → HS → Prop} {v0 : Nat} {v1 : Int32} {v2 : Int32} {v3 : Int32} {v4 : Int32} {v5 : Int32} {S : HS} (h : P_X11_fitOf_16 Q v0 v1 v2 v3 v4 v5 S) : B_X11_fitOf_16 Q (P_X11_fitOf_16 Q) v0 v1 v2 v3 v4 v5 S := h (fun v0 v1 v2 v3 v4 v5 S => B_X11_fitOf_16 Q (P_X11_fitOf_16 Q) v0 v1 v2 v3 v4 v5 S) (fun v0 v1 v2 v3 v4 v5 S hB => cmB_X11_fitOf_16 hB hB (fun _ _ a _ => a) (fun _ _ _ _ _ _ _ hb _ => fd_X11_fitOf_16 hb))
theorem cm_X11_fitOf_16 {Q1 Q2 Q3 : Int32 → HS → Prop} {v0 : Nat} {v1 : Int32} {v2 : Int32} {v3 : Int32} {v4 : Int32} {v5 : Int32} {S : HS} (h1 : P_X11_fitOf_16 Q1 v0 v1 v2 v3 v4 v5 S) (h2 : P_X11_fitOf_16 Q2 v0 v1 v2 v3 v4 v5 S) (hq : ∀ (r : Int32) (T : HS), Q1 r T → Q2 r T → Q3 r T) : P_X11_fitOf_16 Q3 v0 v1 v2 v3 v4 v5 S := h1 (fun v0 v1 v2 v3 v4 v5 S => P_X11_fitOf_16 Q2 v0 v1 v2 v3 v4 v5 S → P_X11_fitOf_16 Q3 v0 v1 v2 v3 v4 v5 S) (fun v0 v1 v2 v3 v4 v5 S hB hp => fd_X11_fitOf_16 (cmB_X11_fitOf_16 hB (uf_X11_fitOf_16 hp) hq (fun _ _ _ _ _ _ _ hx hp => hx hp))) h2
set_option maxRecDepth 20000 in
set_option maxHeartbeats 1000000 in
theorem cm_X11_fitOf_0 {Q1 Q2 Q3 : Int32 → HS → Prop} {v0 : Nat} {v1 : Int32} {v2 : Int32} {S : HS} (h1 : P_X11_fitOf_0 Q1 v0 v1 v2 S) (h2 : P_X11_fitOf_0 Q2 v0 v1 v2 S) (hq : ∀ (r : Int32) (T : HS), Q1 r T → Q2 r T → Q3 r T) : P_X11_fitOf_0 Q3 v0 v1 v2 S := by
  delta P_X11_fitOf_0 at h1 h2 ⊢
  obtain ⟨c1, h1⟩ := h1
  obtain ⟨_, h2⟩ := h2
  refine ⟨c1, ?_⟩
  obtain ⟨b2, e3, h1⟩ := h1
  obtain ⟨b4, e5, h2⟩ := h2
  cases e3.symm.trans e5
  refine ⟨b2, e3, ?_⟩
  obtain ⟨c6, h1⟩ := h1
  obtain ⟨_, h2⟩ := h2
  refine ⟨c6, ?_⟩
  obtain ⟨b7, e8, h1⟩ := h1
  obtain ⟨b9, e10, h2⟩ := h2
  cases e8.symm.trans e10
  refine ⟨b7, e8, ?_⟩
  obtain ⟨c11, h1⟩ := h1
  obtain ⟨_, h2⟩ := h2
  refine ⟨c11, ?_⟩
  obtain ⟨c12, h1⟩ := h1
  obtain ⟨_, h2⟩ := h2
  refine ⟨c12, ?_⟩
  intro x14 e13
  have h1 := h1 x14 e13
  have h2 := h2 x14 e13
  exact cm_X11_fitOf_16 h1 h2 hq
theorem cm_X11_fitOf {Q1 Q2 Q3 : Int32 → HS → Prop} {v0 : Nat} {v1 : Int32} {v2 : Int32} {S : HS} (h1 : P_X11_fitOf v0 v1 v2 Q1 S) (h2 : P_X11_fitOf v0 v1 v2 Q2 S) (hq : ∀ (r : Int32) (T : HS), Q1 r T → Q2 r T → Q3 r T) : P_X11_fitOf v0 v1 v2 Q3 S := cm_X11_fitOf_0 h1 h2 hq
set_option maxRecDepth 20000 in
set_option maxHeartbeats 1000000 in
theorem cm_X11_isSeen_0 {Q1 Q2 Q3 : Int32 → HS → Prop} {v0 : Nat} {v1 : Int32} {S : HS} (h1 : P_X11_isSeen_0 Q1 v0 v1 S) (h2 : P_X11_isSeen_0 Q2 v0 v1 S) (hq : ∀ (r : Int32) (T : HS), Q1 r T → Q2 r T → Q3 r T) : P_X11_isSeen_0 Q3 v0 v1 S := by
  delta P_X11_isSeen_0 at h1 h2 ⊢
  obtain ⟨c1, h1⟩ := h1
  obtain ⟨_, h2⟩ := h2
  refine ⟨c1, ?_⟩
  refine ⟨?_, ?_⟩
  · intro c2
    have h1 := h1.1 c2
    have h2 := h2.1 c2
    exact hq _ _ h1 h2
  · intro x3 c4
    have h1 := h1.2 x3 c4
    have h2 := h2.2 x3 c4
    refine ⟨?_, ?_⟩
    · intro c5
      have h1 := h1.1 c5
      have h2 := h2.1 c5
      exact hq _ _ h1 h2
    · intro c6
      have h1 := h1.2 c6
      have h2 := h2.2 c6
      obtain ⟨b7, e8, h1⟩ := h1
      obtain ⟨b9, e10, h2⟩ := h2
      cases e8.symm.trans e10
      refine ⟨b7, e8, ?_⟩
      obtain ⟨c11, h1⟩ := h1
      obtain ⟨_, h2⟩ := h2
      refine ⟨c11, ?_⟩
      intro x13 e12
      have h1 := h1 x13 e12
      have h2 := h2 x13 e12
      refine ⟨?_, ?_⟩
      · intro c14
        have h1 := h1.1 c14
        have h2 := h2.1 c14
        exact hq _ _ h1 h2
      · intro c15
        have h1 := h1.2 c15
        have h2 := h2.2 c15
        exact hq _ _ h1 h2
theorem cm_X11_isSeen {Q1 Q2 Q3 : Int32 → HS → Prop} {v0 : Nat} {v1 : Int32} {S : HS} (h1 : P_X11_isSeen v0 v1 Q1 S) (h2 : P_X11_isSeen v0 v1 Q2 S) (hq : ∀ (r : Int32) (T : HS), Q1 r T → Q2 r T → Q3 r T) : P_X11_isSeen v0 v1 Q3 S := cm_X11_isSeen_0 h1 h2 hq
set_option maxRecDepth 20000 in
set_option maxHeartbeats 1000000 in
theorem cm_X11_fit_27 {Q1 Q2 Q3 : Int32 → HS → Prop} {v0 : Nat} {s0 : Int32} {S : HS} (h1 : P_X11_fit_27 Q1 v0 s0 S) (h2 : P_X11_fit_27 Q2 v0 s0 S) (hq : ∀ (r : Int32) (T : HS), Q1 r T → Q2 r T → Q3 r T) : P_X11_fit_27 Q3 v0 s0 S := by
  delta P_X11_fit_27 at h1 h2 ⊢
  refine ⟨?_, ?_⟩
  · intro c1
    have h1 := h1.1 c1
    have h2 := h2.1 c1
    obtain ⟨c2, h1⟩ := h1
    obtain ⟨_, h2⟩ := h2
    refine ⟨c2, ?_⟩
    refine cm_X11_good h1 h2 (fun x3 x4 h1 h2 g5 => ?_)
    have h1 := h1 g5
    have h2 := h2 g5
    exact hq _ _ h1 h2
  · intro c6
    have h1 := h1.2 c6
    have h2 := h2.2 c6
    obtain ⟨c7, h1⟩ := h1
    obtain ⟨_, h2⟩ := h2
    refine ⟨c7, ?_⟩
    refine cm_X11_refused h1 h2 (fun x8 x9 h1 h2 g10 => ?_)
    have h1 := h1 g10
    have h2 := h2 g10
    exact hq _ _ h1 h2
set_option maxRecDepth 20000 in
set_option maxHeartbeats 1000000 in
theorem cm_X11_fit_26 {Q1 Q2 Q3 : Int32 → HS → Prop} {v0 : Nat} {S : HS} (h1 : P_X11_fit_26 Q1 v0 S) (h2 : P_X11_fit_26 Q2 v0 S) (hq : ∀ (r : Int32) (T : HS), Q1 r T → Q2 r T → Q3 r T) : P_X11_fit_26 Q3 v0 S := by
  delta P_X11_fit_26 at h1 h2 ⊢
  exact cm_X11_fit_27 h1 h2 hq
set_option maxRecDepth 20000 in
set_option maxHeartbeats 1000000 in
theorem cm_X11_fit_0 {Q1 Q2 Q3 : Int32 → HS → Prop} {v0 : Nat} {v1 : Int32} {v2 : Int32} {S : HS} (h1 : P_X11_fit_0 Q1 v0 v1 v2 S) (h2 : P_X11_fit_0 Q2 v0 v1 v2 S) (hq : ∀ (r : Int32) (T : HS), Q1 r T → Q2 r T → Q3 r T) : P_X11_fit_0 Q3 v0 v1 v2 S := by
  delta P_X11_fit_0 at h1 h2 ⊢
  obtain ⟨c1, h1⟩ := h1
  obtain ⟨_, h2⟩ := h2
  refine ⟨c1, ?_⟩
  intro x3 e2
  have h1 := h1 x3 e2
  have h2 := h2 x3 e2
  refine cm_X11_isSeen h1 h2 (fun x4 x5 h1 h2 g6 g7 => ?_)
  have h1 := h1 g6 g7
  have h2 := h2 g6 g7
  refine ⟨?_, ?_⟩
  · intro c8
    have h1 := h1.1 c8
    have h2 := h2.1 c8
    exact cm_X11_fit_26 h1 h2 hq
  · intro c9
    have h1 := h1.2 c9
    have h2 := h2.2 c9
    refine ⟨?_, ?_⟩
    · intro c10
      have h1 := h1.1 c10
      have h2 := h2.1 c10
      exact cm_X11_fit_26 h1 h2 hq
    · intro c11
      have h1 := h1.2 c11
      have h2 := h2.2 c11
      refine cm_X11_fitOf h1 h2 (fun x12 x13 h1 h2 g14 => ?_)
      have h1 := h1 g14
      have h2 := h2 g14
      exact cm_X11_fit_27 h1 h2 hq
theorem cm_X11_fit {Q1 Q2 Q3 : Int32 → HS → Prop} {v0 : Nat} {v1 : Int32} {v2 : Int32} {S : HS} (h1 : P_X11_fit v0 v1 v2 Q1 S) (h2 : P_X11_fit v0 v1 v2 Q2 S) (hq : ∀ (r : Int32) (T : HS), Q1 r T → Q2 r T → Q3 r T) : P_X11_fit v0 v1 v2 Q3 S := cm_X11_fit_0 h1 h2 hq
set_option maxRecDepth 20000 in
set_option maxHeartbeats 1000000 in
theorem cm_X11_fits_0 {Q1 Q2 Q3 : Int32 → HS → Prop} {v0 : Nat} {v1 : Int32} {S : HS} (h1 : P_X11_fits_0 Q1 v0 v1 S) (h2 : P_X11_fits_0 Q2 v0 v1 S) (hq : ∀ (r : Int32) (T : HS), Q1 r T → Q2 r T → Q3 r T) : P_X11_fits_0 Q3 v0 v1 S := by
  delta P_X11_fits_0 at h1 h2 ⊢
  obtain ⟨c1, h1⟩ := h1
  obtain ⟨_, h2⟩ := h2
  refine ⟨c1, ?_⟩
  intro x3 e2
  have h1 := h1 x3 e2
  have h2 := h2 x3 e2
  refine cm_X11_isSeen h1 h2 (fun x4 x5 h1 h2 g6 g7 => ?_)
  have h1 := h1 g6 g7
  have h2 := h2 g6 g7
  refine ⟨?_, ?_⟩
  · intro c8
    have h1 := h1.1 c8
    have h2 := h2.1 c8
    refine cm_X11_refused h1 h2 (fun x9 x10 h1 h2 g11 => ?_)
    have h1 := h1 g11
    have h2 := h2 g11
    exact hq _ _ h1 h2
  · intro c12
    have h1 := h1.2 c12
    have h2 := h2.2 c12
    refine cm_X11_fitOf h1 h2 (fun x13 x14 h1 h2 g15 => ?_)
    have h1 := h1 g15
    have h2 := h2 g15
    refine cm_X11_good h1 h2 (fun x16 x17 h1 h2 g18 => ?_)
    have h1 := h1 g18
    have h2 := h2 g18
    exact hq _ _ h1 h2
theorem cm_X11_fits {Q1 Q2 Q3 : Int32 → HS → Prop} {v0 : Nat} {v1 : Int32} {S : HS} (h1 : P_X11_fits v0 v1 Q1 S) (h2 : P_X11_fits v0 v1 Q2 S) (hq : ∀ (r : Int32) (T : HS), Q1 r T → Q2 r T → Q3 r T) : P_X11_fits v0 v1 Q3 S := cm_X11_fits_0 h1 h2 hq
set_option maxRecDepth 20000 in
set_option maxHeartbeats 1000000 in
theorem cm_X11_hourOf_0 {Q1 Q2 Q3 : Int32 → HS → Prop} {v0 : Nat} {v1 : Int32} {S : HS} (h1 : P_X11_hourOf_0 Q1 v0 v1 S) (h2 : P_X11_hourOf_0 Q2 v0 v1 S) (hq : ∀ (r : Int32) (T : HS), Q1 r T → Q2 r T → Q3 r T) : P_X11_hourOf_0 Q3 v0 v1 S := by
  delta P_X11_hourOf_0 at h1 h2 ⊢
  obtain ⟨c1, h1⟩ := h1
  obtain ⟨_, h2⟩ := h2
  refine ⟨c1, ?_⟩
  obtain ⟨b2, e3, h1⟩ := h1
  obtain ⟨b4, e5, h2⟩ := h2
  cases e3.symm.trans e5
  refine ⟨b2, e3, ?_⟩
  obtain ⟨c6, h1⟩ := h1
  obtain ⟨_, h2⟩ := h2
  refine ⟨c6, ?_⟩
  intro x8 e7
  have h1 := h1 x8 e7
  have h2 := h2 x8 e7
  obtain ⟨c9, h1⟩ := h1
  obtain ⟨_, h2⟩ := h2
  refine ⟨c9, ?_⟩
  intro x11 e10
  have h1 := h1 x11 e10
  have h2 := h2 x11 e10
  exact hq _ _ h1 h2
theorem cm_X11_hourOf {Q1 Q2 Q3 : Int32 → HS → Prop} {v0 : Nat} {v1 : Int32} {S : HS} (h1 : P_X11_hourOf v0 v1 Q1 S) (h2 : P_X11_hourOf v0 v1 Q2 S) (hq : ∀ (r : Int32) (T : HS), Q1 r T → Q2 r T → Q3 r T) : P_X11_hourOf v0 v1 Q3 S := cm_X11_hourOf_0 h1 h2 hq
set_option maxRecDepth 20000 in
set_option maxHeartbeats 1000000 in
theorem cmB_X11_keeps_50 {Q1 Q2 Q3 : HS → Prop} {X50_1 X50_2 X50_3 : Nat → Int32 → HS → Prop} {v0 : Nat} {v1 : Int32} {S : HS} (h1 : B_X11_keeps_50 Q1 X50_1 v0 v1 S) (h2 : B_X11_keeps_50 Q2 X50_2 v0 v1 S) (hq : ∀ (T : HS), Q1 T → Q2 T → Q3 T) (hX50 : ∀ (u0 : Nat) (u1 : Int32) (u2 : HS), X50_1 u0 u1 u2 → X50_2 u0 u1 u2 → X50_3 u0 u1 u2) : B_X11_keeps_50 Q3 X50_3 v0 v1 S := by
  delta B_X11_keeps_50 at h1 h2 ⊢
  refine ⟨?_, ?_⟩
  · intro c1
    have h1 := h1.1 c1
    have h2 := h2.1 c1
    obtain ⟨c2, h1⟩ := h1
    obtain ⟨_, h2⟩ := h2
    refine ⟨c2, ?_⟩
    intro x4 e3
    have h1 := h1 x4 e3
    have h2 := h2 x4 e3
    intro x6 e5
    have h1 := h1 x6 e5
    have h2 := h2 x6 e5
    intro x8 e7
    have h1 := h1 x8 e7
    have h2 := h2 x8 e7
    exact hq _ h1 h2
  · intro c9
    have h1 := h1.2 c9
    have h2 := h2.2 c9
    obtain ⟨c10, h1⟩ := h1
    obtain ⟨_, h2⟩ := h2
    refine ⟨c10, ?_⟩
    obtain ⟨b11, e12, h1⟩ := h1
    obtain ⟨b13, e14, h2⟩ := h2
    cases e12.symm.trans e14
    refine ⟨b11, e12, ?_⟩
    intro x16 e15
    have h1 := h1 x16 e15
    have h2 := h2 x16 e15
    obtain ⟨b17, e18, h1⟩ := h1
    obtain ⟨b19, e20, h2⟩ := h2
    cases e18.symm.trans e20
    refine ⟨b17, e18, ?_⟩
    obtain ⟨c21, h1⟩ := h1
    obtain ⟨_, h2⟩ := h2
    refine ⟨c21, ?_⟩
    obtain ⟨c22, h1⟩ := h1
    obtain ⟨_, h2⟩ := h2
    refine ⟨c22, ?_⟩
    intro x24 e23
    have h1 := h1 x24 e23
    have h2 := h2 x24 e23
    obtain ⟨c25, h1⟩ := h1
    obtain ⟨_, h2⟩ := h2
    refine ⟨c25, ?_⟩
    obtain ⟨c26, h1⟩ := h1
    obtain ⟨_, h2⟩ := h2
    refine ⟨c26, ?_⟩
    intro x28 e27
    have h1 := h1 x28 e27
    have h2 := h2 x28 e27
    intro x30 e29
    have h1 := h1 x30 e29
    have h2 := h2 x30 e29
    exact hX50 _ _ _ h1 h2
theorem fd_X11_keeps_50 {Q : HS → Prop} {v0 : Nat} {v1 : Int32} {S : HS} (h : B_X11_keeps_50 Q (P_X11_keeps_50 Q) v0 v1 S) : P_X11_keeps_50 Q v0 v1 S := fun X hX => hX v0 v1 S (cmB_X11_keeps_50 h h (fun _ a _ => a) (fun _ _ _ hp _ => hp X hX))
theorem uf_X11_keeps_50 {Q : HS → Prop} {v0 : Nat} {v1 : Int32} {S : HS} (h : P_X11_keeps_50 Q v0 v1 S) : B_X11_keeps_50 Q (P_X11_keeps_50 Q) v0 v1 S := h (fun v0 v1 S => B_X11_keeps_50 Q (P_X11_keeps_50 Q) v0 v1 S) (fun v0 v1 S hB => cmB_X11_keeps_50 hB hB (fun _ a _ => a) (fun _ _ _ hb _ => fd_X11_keeps_50 hb))
theorem cm_X11_keeps_50 {Q1 Q2 Q3 : HS → Prop} {v0 : Nat} {v1 : Int32} {S : HS} (h1 : P_X11_keeps_50 Q1 v0 v1 S) (h2 : P_X11_keeps_50 Q2 v0 v1 S) (hq : ∀ (T : HS), Q1 T → Q2 T → Q3 T) : P_X11_keeps_50 Q3 v0 v1 S := h1 (fun v0 v1 S => P_X11_keeps_50 Q2 v0 v1 S → P_X11_keeps_50 Q3 v0 v1 S) (fun v0 v1 S hB hp => fd_X11_keeps_50 (cmB_X11_keeps_50 hB (uf_X11_keeps_50 hp) hq (fun _ _ _ hx hp => hx hp))) h2
set_option maxRecDepth 20000 in
set_option maxHeartbeats 1000000 in
theorem cm_X11_keeps_48 {Q1 Q2 Q3 : HS → Prop} {v0 : Nat} {S : HS} (h1 : P_X11_keeps_48 Q1 v0 S) (h2 : P_X11_keeps_48 Q2 v0 S) (hq : ∀ (T : HS), Q1 T → Q2 T → Q3 T) : P_X11_keeps_48 Q3 v0 S := by
  delta P_X11_keeps_48 at h1 h2 ⊢
  exact cm_X11_keeps_50 h1 h2 hq
set_option maxRecDepth 20000 in
set_option maxHeartbeats 1000000 in
theorem cmB_X11_keeps_11 {Q1 Q2 Q3 : HS → Prop} {X11_1 X11_2 X11_3 : Nat → Int32 → HS → Prop} {v0 : Nat} {v1 : Int32} {S : HS} (h1 : B_X11_keeps_11 Q1 X11_1 v0 v1 S) (h2 : B_X11_keeps_11 Q2 X11_2 v0 v1 S) (hq : ∀ (T : HS), Q1 T → Q2 T → Q3 T) (hX11 : ∀ (u0 : Nat) (u1 : Int32) (u2 : HS), X11_1 u0 u1 u2 → X11_2 u0 u1 u2 → X11_3 u0 u1 u2) : B_X11_keeps_11 Q3 X11_3 v0 v1 S := by
  delta B_X11_keeps_11 at h1 h2 ⊢
  refine ⟨?_, ?_⟩
  · intro c1
    have h1 := h1.1 c1
    have h2 := h2.1 c1
    obtain ⟨c2, h1⟩ := h1
    obtain ⟨_, h2⟩ := h2
    refine ⟨c2, ?_⟩
    intro x4 e3
    have h1 := h1 x4 e3
    have h2 := h2 x4 e3
    intro x6 e5
    have h1 := h1 x6 e5
    have h2 := h2 x6 e5
    intro x8 e7
    have h1 := h1 x8 e7
    have h2 := h2 x8 e7
    exact cm_X11_keeps_48 h1 h2 hq
  · intro c9
    have h1 := h1.2 c9
    have h2 := h2.2 c9
    obtain ⟨c10, h1⟩ := h1
    obtain ⟨_, h2⟩ := h2
    refine ⟨c10, ?_⟩
    obtain ⟨b11, e12, h1⟩ := h1
    obtain ⟨b13, e14, h2⟩ := h2
    cases e12.symm.trans e14
    refine ⟨b11, e12, ?_⟩
    obtain ⟨b15, e16, h1⟩ := h1
    obtain ⟨b17, e18, h2⟩ := h2
    cases e16.symm.trans e18
    refine ⟨b15, e16, ?_⟩
    obtain ⟨c19, h1⟩ := h1
    obtain ⟨_, h2⟩ := h2
    refine ⟨c19, ?_⟩
    intro x21 e20
    have h1 := h1 x21 e20
    have h2 := h2 x21 e20
    obtain ⟨c22, h1⟩ := h1
    obtain ⟨_, h2⟩ := h2
    refine ⟨c22, ?_⟩
    intro x24 e23
    have h1 := h1 x24 e23
    have h2 := h2 x24 e23
    obtain ⟨c25, h1⟩ := h1
    obtain ⟨_, h2⟩ := h2
    refine ⟨c25, ?_⟩
    obtain ⟨c26, h1⟩ := h1
    obtain ⟨_, h2⟩ := h2
    refine ⟨c26, ?_⟩
    intro x28 e27
    have h1 := h1 x28 e27
    have h2 := h2 x28 e27
    intro x30 e29
    have h1 := h1 x30 e29
    have h2 := h2 x30 e29
    exact hX11 _ _ _ h1 h2
theorem fd_X11_keeps_11 {Q : HS → Prop} {v0 : Nat} {v1 : Int32} {S : HS} (h : B_X11_keeps_11 Q (P_X11_keeps_11 Q) v0 v1 S) : P_X11_keeps_11 Q v0 v1 S := fun X hX => hX v0 v1 S (cmB_X11_keeps_11 h h (fun _ a _ => a) (fun _ _ _ hp _ => hp X hX))
theorem uf_X11_keeps_11 {Q : HS → Prop} {v0 : Nat} {v1 : Int32} {S : HS} (h : P_X11_keeps_11 Q v0 v1 S) : B_X11_keeps_11 Q (P_X11_keeps_11 Q) v0 v1 S := h (fun v0 v1 S => B_X11_keeps_11 Q (P_X11_keeps_11 Q) v0 v1 S) (fun v0 v1 S hB => cmB_X11_keeps_11 hB hB (fun _ a _ => a) (fun _ _ _ hb _ => fd_X11_keeps_11 hb))
theorem cm_X11_keeps_11 {Q1 Q2 Q3 : HS → Prop} {v0 : Nat} {v1 : Int32} {S : HS} (h1 : P_X11_keeps_11 Q1 v0 v1 S) (h2 : P_X11_keeps_11 Q2 v0 v1 S) (hq : ∀ (T : HS), Q1 T → Q2 T → Q3 T) : P_X11_keeps_11 Q3 v0 v1 S := h1 (fun v0 v1 S => P_X11_keeps_11 Q2 v0 v1 S → P_X11_keeps_11 Q3 v0 v1 S) (fun v0 v1 S hB hp => fd_X11_keeps_11 (cmB_X11_keeps_11 hB (uf_X11_keeps_11 hp) hq (fun _ _ _ hx hp => hx hp))) h2
set_option maxRecDepth 20000 in
set_option maxHeartbeats 1000000 in
theorem cm_X11_keeps_0 {Q1 Q2 Q3 : HS → Prop} {v0 : Nat} {S : HS} (h1 : P_X11_keeps_0 Q1 v0 S) (h2 : P_X11_keeps_0 Q2 v0 S) (hq : ∀ (T : HS), Q1 T → Q2 T → Q3 T) : P_X11_keeps_0 Q3 v0 S := by
  delta P_X11_keeps_0 at h1 h2 ⊢
  obtain ⟨c1, h1⟩ := h1
  obtain ⟨_, h2⟩ := h2
  refine ⟨c1, ?_⟩
  intro x3 e2
  have h1 := h1 x3 e2
  have h2 := h2 x3 e2
  refine ⟨?_, ?_⟩
  · intro c4
    have h1 := h1.1 c4
    have h2 := h2.1 c4
    exact cm_X11_keeps_48 h1 h2 hq
  · intro c5
    have h1 := h1.2 c5
    have h2 := h2.2 c5
    exact cm_X11_keeps_11 h1 h2 hq
theorem cm_X11_keeps {Q1 Q2 Q3 : HS → Prop} {v0 : Nat} {S : HS} (h1 : P_X11_keeps v0 Q1 S) (h2 : P_X11_keeps v0 Q2 S) (hq : ∀ (T : HS), Q1 T → Q2 T → Q3 T) : P_X11_keeps v0 Q3 S := cm_X11_keeps_0 h1 h2 hq
set_option maxRecDepth 20000 in
set_option maxHeartbeats 1000000 in
theorem cm_X11_rainsIn_0 {Q1 Q2 Q3 : Int32 → HS → Prop} {v0 : Nat} {v1 : Int32} {S : HS} (h1 : P_X11_rainsIn_0 Q1 v0 v1 S) (h2 : P_X11_rainsIn_0 Q2 v0 v1 S) (hq : ∀ (r : Int32) (T : HS), Q1 r T → Q2 r T → Q3 r T) : P_X11_rainsIn_0 Q3 v0 v1 S := by
  delta P_X11_rainsIn_0 at h1 h2 ⊢
  obtain ⟨c1, h1⟩ := h1
  obtain ⟨_, h2⟩ := h2
  refine ⟨c1, ?_⟩
  refine cm_X11_hourOf h1 h2 (fun x2 x3 h1 h2 g4 => ?_)
  have h1 := h1 g4
  have h2 := h2 g4
  obtain ⟨b5, e6, h1⟩ := h1
  obtain ⟨b7, e8, h2⟩ := h2
  cases e6.symm.trans e8
  refine ⟨b5, e6, ?_⟩
  obtain ⟨c9, h1⟩ := h1
  obtain ⟨_, h2⟩ := h2
  refine ⟨c9, ?_⟩
  intro x11 e10
  have h1 := h1 x11 e10
  have h2 := h2 x11 e10
  refine ⟨?_, ?_⟩
  · intro c12
    have h1 := h1.1 c12
    have h2 := h2.1 c12
    exact hq _ _ h1 h2
  · intro c13
    have h1 := h1.2 c13
    have h2 := h2.2 c13
    intro x15 e14
    have h1 := h1 x15 e14
    have h2 := h2 x15 e14
    refine ⟨?_, ?_⟩
    · intro c16
      have h1 := h1.1 c16
      have h2 := h2.1 c16
      exact hq _ _ h1 h2
    · intro c17
      have h1 := h1.2 c17
      have h2 := h2.2 c17
      exact hq _ _ h1 h2
theorem cm_X11_rainsIn {Q1 Q2 Q3 : Int32 → HS → Prop} {v0 : Nat} {v1 : Int32} {S : HS} (h1 : P_X11_rainsIn v0 v1 Q1 S) (h2 : P_X11_rainsIn v0 v1 Q2 S) (hq : ∀ (r : Int32) (T : HS), Q1 r T → Q2 r T → Q3 r T) : P_X11_rainsIn v0 v1 Q3 S := cm_X11_rainsIn_0 h1 h2 hq
set_option maxRecDepth 20000 in
set_option maxHeartbeats 1000000 in
theorem cm_X11_go_29 {Q1 Q2 Q3 : Int32 → HS → Prop} {v0 : Nat} {S : HS} (h1 : P_X11_go_29 Q1 v0 S) (h2 : P_X11_go_29 Q2 v0 S) (hq : ∀ (r : Int32) (T : HS), Q1 r T → Q2 r T → Q3 r T) : P_X11_go_29 Q3 v0 S := by
  delta P_X11_go_29 at h1 h2 ⊢
  obtain ⟨c1, h1⟩ := h1
  obtain ⟨_, h2⟩ := h2
  refine ⟨c1, ?_⟩
  refine cm_X11_refused h1 h2 (fun x2 x3 h1 h2 g4 => ?_)
  have h1 := h1 g4
  have h2 := h2 g4
  exact hq _ _ h1 h2
set_option maxRecDepth 20000 in
set_option maxHeartbeats 1000000 in
theorem cm_X11_go_171 {Q1 Q2 Q3 : Int32 → HS → Prop} {v0 : Nat} {v1 : Int32} {v2 : Int32} {v3 : Int32} {v4 : Int32} {S : HS} (h1 : P_X11_go_171 Q1 v0 v1 v2 v3 v4 S) (h2 : P_X11_go_171 Q2 v0 v1 v2 v3 v4 S) (hq : ∀ (r : Int32) (T : HS), Q1 r T → Q2 r T → Q3 r T) : P_X11_go_171 Q3 v0 v1 v2 v3 v4 S := by
  delta P_X11_go_171 at h1 h2 ⊢
  obtain ⟨c1, h1⟩ := h1
  obtain ⟨_, h2⟩ := h2
  refine ⟨c1, ?_⟩
  obtain ⟨b2, e3, h1⟩ := h1
  obtain ⟨b4, e5, h2⟩ := h2
  cases e3.symm.trans e5
  refine ⟨b2, e3, ?_⟩
  obtain ⟨b6, e7, h1⟩ := h1
  obtain ⟨b8, e9, h2⟩ := h2
  cases e7.symm.trans e9
  refine ⟨b6, e7, ?_⟩
  obtain ⟨c10, h1⟩ := h1
  obtain ⟨_, h2⟩ := h2
  refine ⟨c10, ?_⟩
  refine cm_X10_ends h1 h2 (fun x11 x12 h1 h2 g13 => ?_)
  have h1 := h1 g13
  have h2 := h2 g13
  obtain ⟨c14, h1⟩ := h1
  obtain ⟨_, h2⟩ := h2
  refine ⟨c14, ?_⟩
  intro x16 e15
  have h1 := h1 x16 e15
  have h2 := h2 x16 e15
  obtain ⟨c17, h1⟩ := h1
  obtain ⟨_, h2⟩ := h2
  refine ⟨c17, ?_⟩
  intro x19 e18
  have h1 := h1 x19 e18
  have h2 := h2 x19 e18
  obtain ⟨b20, e21, h1⟩ := h1
  obtain ⟨b22, e23, h2⟩ := h2
  cases e21.symm.trans e23
  refine ⟨b20, e21, ?_⟩
  obtain ⟨b24, e25, h1⟩ := h1
  obtain ⟨b26, e27, h2⟩ := h2
  cases e25.symm.trans e27
  refine ⟨b24, e25, ?_⟩
  obtain ⟨c28, h1⟩ := h1
  obtain ⟨_, h2⟩ := h2
  refine ⟨c28, ?_⟩
  refine cm_X10_minutes h1 h2 (fun x29 x30 h1 h2 g31 => ?_)
  have h1 := h1 g31
  have h2 := h2 g31
  obtain ⟨c32, h1⟩ := h1
  obtain ⟨_, h2⟩ := h2
  refine ⟨c32, ?_⟩
  intro x34 e33
  have h1 := h1 x34 e33
  have h2 := h2 x34 e33
  obtain ⟨c35, h1⟩ := h1
  obtain ⟨_, h2⟩ := h2
  refine ⟨c35, ?_⟩
  intro x37 e36
  have h1 := h1 x37 e36
  have h2 := h2 x37 e36
  obtain ⟨b38, e39, h1⟩ := h1
  obtain ⟨b40, e41, h2⟩ := h2
  cases e39.symm.trans e41
  refine ⟨b38, e39, ?_⟩
  obtain ⟨c42, h1⟩ := h1
  obtain ⟨_, h2⟩ := h2
  refine ⟨c42, ?_⟩
  obtain ⟨c43, h1⟩ := h1
  obtain ⟨_, h2⟩ := h2
  refine ⟨c43, ?_⟩
  intro x45 e44
  have h1 := h1 x45 e44
  have h2 := h2 x45 e44
  refine cm_X11_good h1 h2 (fun x46 x47 h1 h2 g48 => ?_)
  have h1 := h1 g48
  have h2 := h2 g48
  exact hq _ _ h1 h2
set_option maxRecDepth 20000 in
set_option maxHeartbeats 1000000 in
theorem cmB_X11_go_119 {Q1 Q2 Q3 : Int32 → HS → Prop} {X119_1 X119_2 X119_3 : Nat → Int32 → Int32 → Int32 → Int32 → Int32 → HS → Prop} {v0 : Nat} {v1 : Int32} {v2 : Int32} {v3 : Int32} {v4 : Int32} {v5 : Int32} {S : HS} (h1 : B_X11_go_119 Q1 X119_1 v0 v1 v2 v3 v4 v5 S) (h2 : B_X11_go_119 Q2 X119_2 v0 v1 v2 v3 v4 v5 S) (hq : ∀ (r : Int32) (T : HS), Q1 r T → Q2 r T → Q3 r T) (hX119 : ∀ (u0 : Nat) (u1 : Int32) (u2 : Int32) (u3 : Int32) (u4 : Int32) (u5 : Int32) (u6 : HS), X119_1 u0 u1 u2 u3 u4 u5 u6 → X119_2 u0 u1 u2 u3 u4 u5 u6 → X119_3 u0 u1 u2 u3 u4 u5 u6) : B_X11_go_119 Q3 X119_3 v0 v1 v2 v3 v4 v5 S := by
  delta B_X11_go_119 at h1 h2 ⊢
  refine ⟨?_, ?_⟩
  · intro c1
    have h1 := h1.1 c1
    have h2 := h2.1 c1
    exact cm_X11_go_171 h1 h2 hq
  · intro c2
    have h1 := h1.2 c2
    have h2 := h2.2 c2
    obtain ⟨c3, h1⟩ := h1
    obtain ⟨_, h2⟩ := h2
    refine ⟨c3, ?_⟩
    refine cm_X11_rainsIn h1 h2 (fun x4 x5 h1 h2 g6 g7 => ?_)
    have h1 := h1 g6 g7
    have h2 := h2 g6 g7
    refine ⟨?_, ?_⟩
    · intro c8
      have h1 := h1.1 c8
      have h2 := h2.1 c8
      exact cm_X11_go_171 h1 h2 hq
    · intro c9
      have h1 := h1.2 c9
      have h2 := h2.2 c9
      obtain ⟨b10, e11, h1⟩ := h1
      obtain ⟨b12, e13, h2⟩ := h2
      cases e11.symm.trans e13
      refine ⟨b10, e11, ?_⟩
      obtain ⟨c14, h1⟩ := h1
      obtain ⟨_, h2⟩ := h2
      refine ⟨c14, ?_⟩
      intro x16 e15
      have h1 := h1 x16 e15
      have h2 := h2 x16 e15
      obtain ⟨c17, h1⟩ := h1
      obtain ⟨_, h2⟩ := h2
      refine ⟨c17, ?_⟩
      intro x19 e18
      have h1 := h1 x19 e18
      have h2 := h2 x19 e18
      intro x21 e20
      have h1 := h1 x21 e20
      have h2 := h2 x21 e20
      refine cm_X11_hourOf h1 h2 (fun x22 x23 h1 h2 g24 => ?_)
      have h1 := h1 g24
      have h2 := h2 g24
      refine cm_X11_partsOf h1 h2 (fun x25 x26 h1 h2 g27 => ?_)
      have h1 := h1 g27
      have h2 := h2 g27
      intro x29 e28
      have h1 := h1 x29 e28
      have h2 := h2 x29 e28
      obtain ⟨c30, h1⟩ := h1
      obtain ⟨_, h2⟩ := h2
      refine ⟨c30, ?_⟩
      intro x32 e31
      have h1 := h1 x32 e31
      have h2 := h2 x32 e31
      intro x34 e33
      have h1 := h1 x34 e33
      have h2 := h2 x34 e33
      exact hX119 _ _ _ _ _ _ _ h1 h2
theorem fd_X11_go_119 {Q : Int32 → HS → Prop} {v0 : Nat} {v1 : Int32} {v2 : Int32} {v3 : Int32} {v4 : Int32} {v5 : Int32} {S : HS} (h : B_X11_go_119 Q (P_X11_go_119 Q) v0 v1 v2 v3 v4 v5 S) : P_X11_go_119 Q v0 v1 v2 v3 v4 v5 S := fun X hX => hX v0 v1 v2 v3 v4 v5 S (cmB_X11_go_119 h h (fun _ _ a _ => a) (fun _ _ _ _ _ _ _ hp _ => hp X hX))
theorem uf_X11_go_119 {Q : Int32 → HS → Prop} {v0 : Nat} {v1 : Int32} {v2 : Int32} {v3 : Int32} {v4 : Int32} {v5 : Int32} {S : HS} (h : P_X11_go_119 Q v0 v1 v2 v3 v4 v5 S) : B_X11_go_119 Q (P_X11_go_119 Q) v0 v1 v2 v3 v4 v5 S := h (fun v0 v1 v2 v3 v4 v5 S => B_X11_go_119 Q (P_X11_go_119 Q) v0 v1 v2 v3 v4 v5 S) (fun v0 v1 v2 v3 v4 v5 S hB => cmB_X11_go_119 hB hB (fun _ _ a _ => a) (fun _ _ _ _ _ _ _ hb _ => fd_X11_go_119 hb))
theorem cm_X11_go_119 {Q1 Q2 Q3 : Int32 → HS → Prop} {v0 : Nat} {v1 : Int32} {v2 : Int32} {v3 : Int32} {v4 : Int32} {v5 : Int32} {S : HS} (h1 : P_X11_go_119 Q1 v0 v1 v2 v3 v4 v5 S) (h2 : P_X11_go_119 Q2 v0 v1 v2 v3 v4 v5 S) (hq : ∀ (r : Int32) (T : HS), Q1 r T → Q2 r T → Q3 r T) : P_X11_go_119 Q3 v0 v1 v2 v3 v4 v5 S := h1 (fun v0 v1 v2 v3 v4 v5 S => P_X11_go_119 Q2 v0 v1 v2 v3 v4 v5 S → P_X11_go_119 Q3 v0 v1 v2 v3 v4 v5 S) (fun v0 v1 v2 v3 v4 v5 S hB hp => fd_X11_go_119 (cmB_X11_go_119 hB (uf_X11_go_119 hp) hq (fun _ _ _ _ _ _ _ hx hp => hx hp))) h2
set_option maxRecDepth 20000 in
set_option maxHeartbeats 1000000 in
theorem cm_X11_go_0 {Q1 Q2 Q3 : Int32 → HS → Prop} {v0 : Nat} {v1 : Int32} {v2 : Int32} {v3 : Int32} {S : HS} (h1 : P_X11_go_0 Q1 v0 v1 v2 v3 S) (h2 : P_X11_go_0 Q2 v0 v1 v2 v3 S) (hq : ∀ (r : Int32) (T : HS), Q1 r T → Q2 r T → Q3 r T) : P_X11_go_0 Q3 v0 v1 v2 v3 S := by
  delta P_X11_go_0 at h1 h2 ⊢
  obtain ⟨c1, h1⟩ := h1
  obtain ⟨_, h2⟩ := h2
  refine ⟨c1, ?_⟩
  intro x3 e2
  have h1 := h1 x3 e2
  have h2 := h2 x3 e2
  refine cm_X11_isDay h1 h2 (fun x4 x5 h1 h2 g6 g7 => ?_)
  have h1 := h1 g6 g7
  have h2 := h2 g6 g7
  refine ⟨?_, ?_⟩
  · intro c8
    have h1 := h1.1 c8
    have h2 := h2.1 c8
    exact cm_X11_go_29 h1 h2 hq
  · intro c9
    have h1 := h1.2 c9
    have h2 := h2.2 c9
    refine cm_X11_isRoad h1 h2 (fun x10 x11 h1 h2 g12 g13 => ?_)
    have h1 := h1 g12 g13
    have h2 := h2 g12 g13
    refine ⟨?_, ?_⟩
    · intro c14
      have h1 := h1.1 c14
      have h2 := h2.1 c14
      exact cm_X11_go_29 h1 h2 hq
    · intro c15
      have h1 := h1.2 c15
      have h2 := h2.2 c15
      refine cm_X11_in h1 h2 (fun x16 x17 h1 h2 g18 g19 => ?_)
      have h1 := h1 g18 g19
      have h2 := h2 g18 g19
      refine ⟨?_, ?_⟩
      · intro c20
        have h1 := h1.1 c20
        have h2 := h2.1 c20
        intro x22 e21
        have h1 := h1 x22 e21
        have h2 := h2 x22 e21
        refine cm_X11_isSpeed h1 h2 (fun x23 x24 h1 h2 g25 g26 => ?_)
        have h1 := h1 g25 g26
        have h2 := h2 g25 g26
        refine ⟨?_, ?_⟩
        · intro c27
          have h1 := h1.1 c27
          have h2 := h2.1 c27
          obtain ⟨b28, e29, h1⟩ := h1
          obtain ⟨b30, e31, h2⟩ := h2
          cases e29.symm.trans e31
          refine ⟨b28, e29, ?_⟩
          obtain ⟨c32, h1⟩ := h1
          obtain ⟨_, h2⟩ := h2
          refine ⟨c32, ?_⟩
          refine cm_X10_begins h1 h2 (fun x33 x34 h1 h2 g35 => ?_)
          have h1 := h1 g35
          have h2 := h2 g35
          obtain ⟨b36, e37, h1⟩ := h1
          obtain ⟨b38, e39, h2⟩ := h2
          cases e37.symm.trans e39
          refine ⟨b36, e37, ?_⟩
          obtain ⟨c40, h1⟩ := h1
          obtain ⟨_, h2⟩ := h2
          refine ⟨c40, ?_⟩
          obtain ⟨c41, h1⟩ := h1
          obtain ⟨_, h2⟩ := h2
          refine ⟨c41, ?_⟩
          intro x43 e42
          have h1 := h1 x43 e42
          have h2 := h2 x43 e42
          refine ⟨?_, ?_⟩
          · intro c44
            have h1 := h1.1 c44
            have h2 := h2.1 c44
            obtain ⟨b45, e46, h1⟩ := h1
            obtain ⟨b47, e48, h2⟩ := h2
            cases e46.symm.trans e48
            refine ⟨b45, e46, ?_⟩
            obtain ⟨c49, h1⟩ := h1
            obtain ⟨_, h2⟩ := h2
            refine ⟨c49, ?_⟩
            obtain ⟨c50, h1⟩ := h1
            obtain ⟨_, h2⟩ := h2
            refine ⟨c50, ?_⟩
            intro x52 e51
            have h1 := h1 x52 e51
            have h2 := h2 x52 e51
            intro x54 e53
            have h1 := h1 x54 e53
            have h2 := h2 x54 e53
            obtain ⟨b55, e56, h1⟩ := h1
            obtain ⟨b57, e58, h2⟩ := h2
            cases e56.symm.trans e58
            refine ⟨b55, e56, ?_⟩
            obtain ⟨c59, h1⟩ := h1
            obtain ⟨_, h2⟩ := h2
            refine ⟨c59, ?_⟩
            refine cm_X10_minutes h1 h2 (fun x60 x61 h1 h2 g62 => ?_)
            have h1 := h1 g62
            have h2 := h2 g62
            refine ⟨?_, ?_⟩
            · intro c63
              have h1 := h1.1 c63
              have h2 := h2.1 c63
              refine cm_X11_keeps h1 h2 (fun x64 h1 h2 g65 => ?_)
              have h1 := h1 g65
              have h2 := h2 g65
              exact cm_X11_go_119 h1 h2 hq
            · intro c66
              have h1 := h1.2 c66
              have h2 := h2.2 c66
              refine cm_X11_refused h1 h2 (fun x67 x68 h1 h2 g69 => ?_)
              have h1 := h1 g69
              have h2 := h2 g69
              exact hq _ _ h1 h2
          · intro c70
            have h1 := h1.2 c70
            have h2 := h2.2 c70
            refine cm_X11_refused h1 h2 (fun x71 x72 h1 h2 g73 => ?_)
            have h1 := h1 g73
            have h2 := h2 g73
            exact hq _ _ h1 h2
        · intro c74
          have h1 := h1.2 c74
          have h2 := h2.2 c74
          refine cm_X11_refused h1 h2 (fun x75 x76 h1 h2 g77 => ?_)
          have h1 := h1 g77
          have h2 := h2 g77
          exact hq _ _ h1 h2
      · intro c78
        have h1 := h1.2 c78
        have h2 := h2.2 c78
        exact cm_X11_go_29 h1 h2 hq
theorem cm_X11_go {Q1 Q2 Q3 : Int32 → HS → Prop} {v0 : Nat} {v1 : Int32} {v2 : Int32} {v3 : Int32} {S : HS} (h1 : P_X11_go v0 v1 v2 v3 Q1 S) (h2 : P_X11_go v0 v1 v2 v3 Q2 S) (hq : ∀ (r : Int32) (T : HS), Q1 r T → Q2 r T → Q3 r T) : P_X11_go v0 v1 v2 v3 Q3 S := cm_X11_go_0 h1 h2 hq
set_option maxRecDepth 20000 in
set_option maxHeartbeats 1000000 in
theorem cm_X11_got_40 {Q1 Q2 Q3 : Int64 → HS → Prop} {v0 : Nat} {S : HS} (h1 : P_X11_got_40 Q1 v0 S) (h2 : P_X11_got_40 Q2 v0 S) (hq : ∀ (r : Int64) (T : HS), Q1 r T → Q2 r T → Q3 r T) : P_X11_got_40 Q3 v0 S := by
  delta P_X11_got_40 at h1 h2 ⊢
  obtain ⟨c1, h1⟩ := h1
  obtain ⟨_, h2⟩ := h2
  refine ⟨c1, ?_⟩
  refine cm_X11_refused h1 h2 (fun x2 x3 h1 h2 g4 => ?_)
  have h1 := h1 g4
  have h2 := h2 g4
  exact hq _ _ h1 h2
set_option maxRecDepth 20000 in
set_option maxHeartbeats 1000000 in
theorem cm_X11_got_0 {Q1 Q2 Q3 : Int64 → HS → Prop} {v0 : Nat} {v1 : Int32} {v2 : Int32} {S : HS} (h1 : P_X11_got_0 Q1 v0 v1 v2 S) (h2 : P_X11_got_0 Q2 v0 v1 v2 S) (hq : ∀ (r : Int64) (T : HS), Q1 r T → Q2 r T → Q3 r T) : P_X11_got_0 Q3 v0 v1 v2 S := by
  delta P_X11_got_0 at h1 h2 ⊢
  obtain ⟨c1, h1⟩ := h1
  obtain ⟨_, h2⟩ := h2
  refine ⟨c1, ?_⟩
  intro x3 e2
  have h1 := h1 x3 e2
  have h2 := h2 x3 e2
  refine cm_X11_isDay h1 h2 (fun x4 x5 h1 h2 g6 g7 => ?_)
  have h1 := h1 g6 g7
  have h2 := h2 g6 g7
  refine ⟨?_, ?_⟩
  · intro c8
    have h1 := h1.1 c8
    have h2 := h2.1 c8
    exact cm_X11_got_40 h1 h2 hq
  · intro c9
    have h1 := h1.2 c9
    have h2 := h2.2 c9
    refine cm_X11_in h1 h2 (fun x10 x11 h1 h2 g12 g13 => ?_)
    have h1 := h1 g12 g13
    have h2 := h2 g12 g13
    refine ⟨?_, ?_⟩
    · intro c14
      have h1 := h1.1 c14
      have h2 := h2.1 c14
      exact cm_X11_got_40 h1 h2 hq
    · intro c15
      have h1 := h1.2 c15
      have h2 := h2.2 c15
      obtain ⟨b16, e17, h1⟩ := h1
      obtain ⟨b18, e19, h2⟩ := h2
      cases e17.symm.trans e19
      refine ⟨b16, e17, ?_⟩
      obtain ⟨c20, h1⟩ := h1
      obtain ⟨_, h2⟩ := h2
      refine ⟨c20, ?_⟩
      intro x22 e21
      have h1 := h1 x22 e21
      have h2 := h2 x22 e21
      obtain ⟨c23, h1⟩ := h1
      obtain ⟨_, h2⟩ := h2
      refine ⟨c23, ?_⟩
      intro x25 e24
      have h1 := h1 x25 e24
      have h2 := h2 x25 e24
      refine cm_X11_told h1 h2 (fun x26 x27 h1 h2 g28 => ?_)
      have h1 := h1 g28
      have h2 := h2 g28
      exact hq _ _ h1 h2
theorem cm_X11_got {Q1 Q2 Q3 : Int64 → HS → Prop} {v0 : Nat} {v1 : Int32} {v2 : Int32} {S : HS} (h1 : P_X11_got v0 v1 v2 Q1 S) (h2 : P_X11_got v0 v1 v2 Q2 S) (hq : ∀ (r : Int64) (T : HS), Q1 r T → Q2 r T → Q3 r T) : P_X11_got v0 v1 v2 Q3 S := cm_X11_got_0 h1 h2 hq
set_option maxRecDepth 20000 in
set_option maxHeartbeats 1000000 in
theorem cmB_X11_gotInAll_4 {Q1 Q2 Q3 : Int64 → HS → Prop} {X4_1 X4_2 X4_3 : Nat → Int64 → Int32 → HS → Prop} {v0 : Nat} {v1 : Int64} {v3 : Int32} {S : HS} (h1 : B_X11_gotInAll_4 Q1 X4_1 v0 v1 v3 S) (h2 : B_X11_gotInAll_4 Q2 X4_2 v0 v1 v3 S) (hq : ∀ (r : Int64) (T : HS), Q1 r T → Q2 r T → Q3 r T) (hX4 : ∀ (u0 : Nat) (u1 : Int64) (u2 : Int32) (u3 : HS), X4_1 u0 u1 u2 u3 → X4_2 u0 u1 u2 u3 → X4_3 u0 u1 u2 u3) : B_X11_gotInAll_4 Q3 X4_3 v0 v1 v3 S := by
  delta B_X11_gotInAll_4 at h1 h2 ⊢
  refine ⟨?_, ?_⟩
  · intro c1
    have h1 := h1.1 c1
    have h2 := h2.1 c1
    exact hq _ _ h1 h2
  · intro c2
    have h1 := h1.2 c2
    have h2 := h2.2 c2
    obtain ⟨c3, h1⟩ := h1
    obtain ⟨_, h2⟩ := h2
    refine ⟨c3, ?_⟩
    obtain ⟨b4, e5, h1⟩ := h1
    obtain ⟨b6, e7, h2⟩ := h2
    cases e5.symm.trans e7
    refine ⟨b4, e5, ?_⟩
    obtain ⟨c8, h1⟩ := h1
    obtain ⟨_, h2⟩ := h2
    refine ⟨c8, ?_⟩
    intro x10 e9
    have h1 := h1 x10 e9
    have h2 := h2 x10 e9
    obtain ⟨c11, h1⟩ := h1
    obtain ⟨_, h2⟩ := h2
    refine ⟨c11, ?_⟩
    intro x13 e12
    have h1 := h1 x13 e12
    have h2 := h2 x13 e12
    intro x15 e14
    have h1 := h1 x15 e14
    have h2 := h2 x15 e14
    intro x17 e16
    have h1 := h1 x17 e16
    have h2 := h2 x17 e16
    exact hX4 _ _ _ _ h1 h2
theorem fd_X11_gotInAll_4 {Q : Int64 → HS → Prop} {v0 : Nat} {v1 : Int64} {v3 : Int32} {S : HS} (h : B_X11_gotInAll_4 Q (P_X11_gotInAll_4 Q) v0 v1 v3 S) : P_X11_gotInAll_4 Q v0 v1 v3 S := fun X hX => hX v0 v1 v3 S (cmB_X11_gotInAll_4 h h (fun _ _ a _ => a) (fun _ _ _ _ hp _ => hp X hX))
theorem uf_X11_gotInAll_4 {Q : Int64 → HS → Prop} {v0 : Nat} {v1 : Int64} {v3 : Int32} {S : HS} (h : P_X11_gotInAll_4 Q v0 v1 v3 S) : B_X11_gotInAll_4 Q (P_X11_gotInAll_4 Q) v0 v1 v3 S := h (fun v0 v1 v3 S => B_X11_gotInAll_4 Q (P_X11_gotInAll_4 Q) v0 v1 v3 S) (fun v0 v1 v3 S hB => cmB_X11_gotInAll_4 hB hB (fun _ _ a _ => a) (fun _ _ _ _ hb _ => fd_X11_gotInAll_4 hb))
theorem cm_X11_gotInAll_4 {Q1 Q2 Q3 : Int64 → HS → Prop} {v0 : Nat} {v1 : Int64} {v3 : Int32} {S : HS} (h1 : P_X11_gotInAll_4 Q1 v0 v1 v3 S) (h2 : P_X11_gotInAll_4 Q2 v0 v1 v3 S) (hq : ∀ (r : Int64) (T : HS), Q1 r T → Q2 r T → Q3 r T) : P_X11_gotInAll_4 Q3 v0 v1 v3 S := h1 (fun v0 v1 v3 S => P_X11_gotInAll_4 Q2 v0 v1 v3 S → P_X11_gotInAll_4 Q3 v0 v1 v3 S) (fun v0 v1 v3 S hB hp => fd_X11_gotInAll_4 (cmB_X11_gotInAll_4 hB (uf_X11_gotInAll_4 hp) hq (fun _ _ _ _ hx hp => hx hp))) h2
set_option maxRecDepth 20000 in
set_option maxHeartbeats 1000000 in
theorem cm_X11_gotInAll_0 {Q1 Q2 Q3 : Int64 → HS → Prop} {v0 : Nat} {S : HS} (h1 : P_X11_gotInAll_0 Q1 v0 S) (h2 : P_X11_gotInAll_0 Q2 v0 S) (hq : ∀ (r : Int64) (T : HS), Q1 r T → Q2 r T → Q3 r T) : P_X11_gotInAll_0 Q3 v0 S := by
  delta P_X11_gotInAll_0 at h1 h2 ⊢
  exact cm_X11_gotInAll_4 h1 h2 hq
theorem cm_X11_gotInAll {Q1 Q2 Q3 : Int64 → HS → Prop} {v0 : Nat} {S : HS} (h1 : P_X11_gotInAll v0 Q1 S) (h2 : P_X11_gotInAll v0 Q2 S) (hq : ∀ (r : Int64) (T : HS), Q1 r T → Q2 r T → Q3 r T) : P_X11_gotInAll v0 Q3 S := cm_X11_gotInAll_0 h1 h2 hq
set_option maxRecDepth 20000 in
set_option maxHeartbeats 1000000 in
theorem cm_X11_held_68 {Q1 Q2 Q3 : Int32 → HS → Prop} {s0 : Nat} {s1 : Int32} {S : HS} (h1 : P_X11_held_68 Q1 s0 s1 S) (h2 : P_X11_held_68 Q2 s0 s1 S) (hq : ∀ (r : Int32) (T : HS), Q1 r T → Q2 r T → Q3 r T) : P_X11_held_68 Q3 s0 s1 S := by
  delta P_X11_held_68 at h1 h2 ⊢
  obtain ⟨c1, h1⟩ := h1
  obtain ⟨_, h2⟩ := h2
  refine ⟨c1, ?_⟩
  refine cm_X11_good h1 h2 (fun x2 x3 h1 h2 g4 => ?_)
  have h1 := h1 g4
  have h2 := h2 g4
  exact hq _ _ h1 h2
set_option maxRecDepth 20000 in
set_option maxHeartbeats 1000000 in
theorem cm_X11_held_0 {Q1 Q2 Q3 : Int32 → HS → Prop} {v0 : Nat} {v1 : Int32} {v2 : Int32} {v3 : Int32} {v4 : Int32} {v5 : Int32} {S : HS} (h1 : P_X11_held_0 Q1 v0 v1 v2 v3 v4 v5 S) (h2 : P_X11_held_0 Q2 v0 v1 v2 v3 v4 v5 S) (hq : ∀ (r : Int32) (T : HS), Q1 r T → Q2 r T → Q3 r T) : P_X11_held_0 Q3 v0 v1 v2 v3 v4 v5 S := by
  delta P_X11_held_0 at h1 h2 ⊢
  obtain ⟨c1, h1⟩ := h1
  obtain ⟨_, h2⟩ := h2
  refine ⟨c1, ?_⟩
  intro x3 e2
  have h1 := h1 x3 e2
  have h2 := h2 x3 e2
  refine cm_X11_refuses h1 h2 (fun x4 x5 h1 h2 g6 => ?_)
  have h1 := h1 g6
  have h2 := h2 g6
  refine ⟨?_, ?_⟩
  · intro c7
    have h1 := h1.1 c7
    have h2 := h2.1 c7
    obtain ⟨b8, e9, h1⟩ := h1
    obtain ⟨b10, e11, h2⟩ := h2
    cases e9.symm.trans e11
    refine ⟨b8, e9, ?_⟩
    obtain ⟨c12, h1⟩ := h1
    obtain ⟨_, h2⟩ := h2
    refine ⟨c12, ?_⟩
    obtain ⟨b13, e14, h1⟩ := h1
    obtain ⟨b15, e16, h2⟩ := h2
    cases e14.symm.trans e16
    refine ⟨b13, e14, ?_⟩
    obtain ⟨c17, h1⟩ := h1
    obtain ⟨_, h2⟩ := h2
    refine ⟨c17, ?_⟩
    obtain ⟨c18, h1⟩ := h1
    obtain ⟨_, h2⟩ := h2
    refine ⟨c18, ?_⟩
    intro x20 e19
    have h1 := h1 x20 e19
    have h2 := h2 x20 e19
    refine ⟨?_, ?_⟩
    · intro c21
      have h1 := h1.1 c21
      have h2 := h2.1 c21
      refine cm_X11_isForward h1 h2 (fun x22 x23 h1 h2 g24 g25 => ?_)
      have h1 := h1 g24 g25
      have h2 := h2 g24 g25
      refine ⟨?_, ?_⟩
      · intro c26
        have h1 := h1.1 c26
        have h2 := h2.1 c26
        exact cm_X11_held_68 h1 h2 hq
      · intro c27
        have h1 := h1.2 c27
        have h2 := h2.2 c27
        exact cm_X11_held_68 h1 h2 hq
    · intro c28
      have h1 := h1.2 c28
      have h2 := h2.2 c28
      exact cm_X11_held_68 h1 h2 hq
  · intro c29
    have h1 := h1.2 c29
    have h2 := h2.2 c29
    refine cm_X11_refused h1 h2 (fun x30 x31 h1 h2 g32 => ?_)
    have h1 := h1 g32
    have h2 := h2 g32
    exact hq _ _ h1 h2
theorem cm_X11_held {Q1 Q2 Q3 : Int32 → HS → Prop} {v0 : Nat} {v1 : Int32} {v2 : Int32} {v3 : Int32} {v4 : Int32} {v5 : Int32} {S : HS} (h1 : P_X11_held v0 v1 v2 v3 v4 v5 Q1 S) (h2 : P_X11_held v0 v1 v2 v3 v4 v5 Q2 S) (hq : ∀ (r : Int32) (T : HS), Q1 r T → Q2 r T → Q3 r T) : P_X11_held v0 v1 v2 v3 v4 v5 Q3 S := cm_X11_held_0 h1 h2 hq
set_option maxRecDepth 20000 in
set_option maxHeartbeats 1000000 in
theorem cm_X11_holds_0 {Q1 Q2 Q3 : Int64 → HS → Prop} {v0 : Nat} {S : HS} (h1 : P_X11_holds_0 Q1 v0 S) (h2 : P_X11_holds_0 Q2 v0 S) (hq : ∀ (r : Int64) (T : HS), Q1 r T → Q2 r T → Q3 r T) : P_X11_holds_0 Q3 v0 S := by
  delta P_X11_holds_0 at h1 h2 ⊢
  obtain ⟨c1, h1⟩ := h1
  obtain ⟨_, h2⟩ := h2
  refine ⟨c1, ?_⟩
  obtain ⟨b2, e3, h1⟩ := h1
  obtain ⟨b4, e5, h2⟩ := h2
  cases e3.symm.trans e5
  refine ⟨b2, e3, ?_⟩
  obtain ⟨c6, h1⟩ := h1
  obtain ⟨_, h2⟩ := h2
  refine ⟨c6, ?_⟩
  obtain ⟨b7, e8, h1⟩ := h1
  obtain ⟨b9, e10, h2⟩ := h2
  cases e8.symm.trans e10
  refine ⟨b7, e8, ?_⟩
  intro x12 e11
  have h1 := h1 x12 e11
  have h2 := h2 x12 e11
  obtain ⟨c13, h1⟩ := h1
  obtain ⟨_, h2⟩ := h2
  refine ⟨c13, ?_⟩
  obtain ⟨c14, h1⟩ := h1
  obtain ⟨_, h2⟩ := h2
  refine ⟨c14, ?_⟩
  intro x16 e15
  have h1 := h1 x16 e15
  have h2 := h2 x16 e15
  refine ⟨?_, ?_⟩
  · intro c17
    have h1 := h1.1 c17
    have h2 := h2.1 c17
    exact hq _ _ h1 h2
  · intro c18
    have h1 := h1.2 c18
    have h2 := h2.2 c18
    obtain ⟨b19, e20, h1⟩ := h1
    obtain ⟨b21, e22, h2⟩ := h2
    cases e20.symm.trans e22
    refine ⟨b19, e20, ?_⟩
    obtain ⟨c23, h1⟩ := h1
    obtain ⟨_, h2⟩ := h2
    refine ⟨c23, ?_⟩
    obtain ⟨b24, e25, h1⟩ := h1
    obtain ⟨b26, e27, h2⟩ := h2
    cases e25.symm.trans e27
    refine ⟨b24, e25, ?_⟩
    intro x29 e28
    have h1 := h1 x29 e28
    have h2 := h2 x29 e28
    obtain ⟨c30, h1⟩ := h1
    obtain ⟨_, h2⟩ := h2
    refine ⟨c30, ?_⟩
    obtain ⟨c31, h1⟩ := h1
    obtain ⟨_, h2⟩ := h2
    refine ⟨c31, ?_⟩
    intro x33 e32
    have h1 := h1 x33 e32
    have h2 := h2 x33 e32
    exact hq _ _ h1 h2
theorem cm_X11_holds {Q1 Q2 Q3 : Int64 → HS → Prop} {v0 : Nat} {S : HS} (h1 : P_X11_holds v0 Q1 S) (h2 : P_X11_holds v0 Q2 S) (hq : ∀ (r : Int64) (T : HS), Q1 r T → Q2 r T → Q3 r T) : P_X11_holds v0 Q3 S := cm_X11_holds_0 h1 h2 hq
set_option maxRecDepth 20000 in
set_option maxHeartbeats 1000000 in
theorem cm_X11_init_0 {Q1 Q2 Q3 : HS → Prop} {v0 : Nat} {S : HS} (h1 : P_X11_init_0 Q1 v0 S) (h2 : P_X11_init_0 Q2 v0 S) (hq : ∀ (T : HS), Q1 T → Q2 T → Q3 T) : P_X11_init_0 Q3 v0 S := by
  delta P_X11_init_0 at h1 h2 ⊢
  obtain ⟨c1, h1⟩ := h1
  obtain ⟨_, h2⟩ := h2
  refine ⟨c1, ?_⟩
  intro x3 e2
  have h1 := h1 x3 e2
  have h2 := h2 x3 e2
  intro x5 e4
  have h1 := h1 x5 e4
  have h2 := h2 x5 e4
  intro x7 e6
  have h1 := h1 x7 e6
  have h2 := h2 x7 e6
  intro x9 e8
  have h1 := h1 x9 e8
  have h2 := h2 x9 e8
  intro x11 e10
  have h1 := h1 x11 e10
  have h2 := h2 x11 e10
  intro x13 e12
  have h1 := h1 x13 e12
  have h2 := h2 x13 e12
  intro x15 e14
  have h1 := h1 x15 e14
  have h2 := h2 x15 e14
  intro x17 e16
  have h1 := h1 x17 e16
  have h2 := h2 x17 e16
  intro x19 e18
  have h1 := h1 x19 e18
  have h2 := h2 x19 e18
  intro x21 e20
  have h1 := h1 x21 e20
  have h2 := h2 x21 e20
  intro x23 e22
  have h1 := h1 x23 e22
  have h2 := h2 x23 e22
  intro x25 e24
  have h1 := h1 x25 e24
  have h2 := h2 x25 e24
  intro x27 e26
  have h1 := h1 x27 e26
  have h2 := h2 x27 e26
  intro x29 e28
  have h1 := h1 x29 e28
  have h2 := h2 x29 e28
  intro x31 e30
  have h1 := h1 x31 e30
  have h2 := h2 x31 e30
  intro x33 e32
  have h1 := h1 x33 e32
  have h2 := h2 x33 e32
  intro x35 e34
  have h1 := h1 x35 e34
  have h2 := h2 x35 e34
  intro x37 e36
  have h1 := h1 x37 e36
  have h2 := h2 x37 e36
  intro x39 e38
  have h1 := h1 x39 e38
  have h2 := h2 x39 e38
  intro x41 e40
  have h1 := h1 x41 e40
  have h2 := h2 x41 e40
  intro x43 e42
  have h1 := h1 x43 e42
  have h2 := h2 x43 e42
  intro x45 e44
  have h1 := h1 x45 e44
  have h2 := h2 x45 e44
  intro x47 e46
  have h1 := h1 x47 e46
  have h2 := h2 x47 e46
  exact hq _ h1 h2
theorem cm_X11_init {Q1 Q2 Q3 : HS → Prop} {v0 : Nat} {S : HS} (h1 : P_X11_init v0 Q1 S) (h2 : P_X11_init v0 Q2 S) (hq : ∀ (T : HS), Q1 T → Q2 T → Q3 T) : P_X11_init v0 Q3 S := cm_X11_init_0 h1 h2 hq
set_option maxRecDepth 20000 in
set_option maxHeartbeats 1000000 in
theorem cm_X11_isName_0 {Q1 Q2 Q3 : Int32 → HS → Prop} {v0 : Nat} {S : HS} (h1 : P_X11_isName_0 Q1 v0 S) (h2 : P_X11_isName_0 Q2 v0 S) (hq : ∀ (r : Int32) (T : HS), Q1 r T → Q2 r T → Q3 r T) : P_X11_isName_0 Q3 v0 S := by
  delta P_X11_isName_0 at h1 h2 ⊢
  obtain ⟨c1, h1⟩ := h1
  obtain ⟨_, h2⟩ := h2
  refine ⟨c1, ?_⟩
  intro x3 e2
  have h1 := h1 x3 e2
  have h2 := h2 x3 e2
  refine ⟨?_, ?_⟩
  · intro c4
    have h1 := h1.1 c4
    have h2 := h2.1 c4
    exact hq _ _ h1 h2
  · intro c5
    have h1 := h1.2 c5
    have h2 := h2.2 c5
    refine cm_X11_isWord h1 h2 (fun x6 x7 h1 h2 g8 g9 => ?_)
    have h1 := h1 g8 g9
    have h2 := h2 g8 g9
    refine ⟨?_, ?_⟩
    · intro c10
      have h1 := h1.1 c10
      have h2 := h2.1 c10
      exact hq _ _ h1 h2
    · intro c11
      have h1 := h1.2 c11
      have h2 := h2.2 c11
      refine cm_X11_isWord h1 h2 (fun x12 x13 h1 h2 g14 g15 => ?_)
      have h1 := h1 g14 g15
      have h2 := h2 g14 g15
      refine ⟨?_, ?_⟩
      · intro c16
        have h1 := h1.1 c16
        have h2 := h2.1 c16
        exact hq _ _ h1 h2
      · intro c17
        have h1 := h1.2 c17
        have h2 := h2.2 c17
        refine cm_X11_isWord h1 h2 (fun x18 x19 h1 h2 g20 g21 => ?_)
        have h1 := h1 g20 g21
        have h2 := h2 g20 g21
        refine ⟨?_, ?_⟩
        · intro c22
          have h1 := h1.1 c22
          have h2 := h2.1 c22
          exact hq _ _ h1 h2
        · intro c23
          have h1 := h1.2 c23
          have h2 := h2.2 c23
          refine cm_X11_isWord h1 h2 (fun x24 x25 h1 h2 g26 g27 => ?_)
          have h1 := h1 g26 g27
          have h2 := h2 g26 g27
          refine ⟨?_, ?_⟩
          · intro c28
            have h1 := h1.1 c28
            have h2 := h2.1 c28
            refine cm_X11_isWord h1 h2 (fun x29 x30 h1 h2 g31 g32 => ?_)
            have h1 := h1 g31 g32
            have h2 := h2 g31 g32
            refine ⟨?_, ?_⟩
            · intro c33
              have h1 := h1.1 c33
              have h2 := h2.1 c33
              exact hq _ _ h1 h2
            · intro c34
              have h1 := h1.2 c34
              have h2 := h2.2 c34
              refine cm_X11_isWord h1 h2 (fun x35 x36 h1 h2 g37 g38 => ?_)
              have h1 := h1 g37 g38
              have h2 := h2 g37 g38
              refine ⟨?_, ?_⟩
              · intro c39
                have h1 := h1.1 c39
                have h2 := h2.1 c39
                exact hq _ _ h1 h2
              · intro c40
                have h1 := h1.2 c40
                have h2 := h2.2 c40
                refine cm_X11_isWord h1 h2 (fun x41 x42 h1 h2 g43 g44 => ?_)
                have h1 := h1 g43 g44
                have h2 := h2 g43 g44
                refine ⟨?_, ?_⟩
                · intro c45
                  have h1 := h1.1 c45
                  have h2 := h2.1 c45
                  exact hq _ _ h1 h2
                · intro c46
                  have h1 := h1.2 c46
                  have h2 := h2.2 c46
                  refine cm_X11_isWord h1 h2 (fun x47 x48 h1 h2 g49 g50 => ?_)
                  have h1 := h1 g49 g50
                  have h2 := h2 g49 g50
                  refine ⟨?_, ?_⟩
                  · intro c51
                    have h1 := h1.1 c51
                    have h2 := h2.1 c51
                    exact hq _ _ h1 h2
                  · intro c52
                    have h1 := h1.2 c52
                    have h2 := h2.2 c52
                    refine cm_X11_isWord h1 h2 (fun x53 x54 h1 h2 g55 g56 => ?_)
                    have h1 := h1 g55 g56
                    have h2 := h2 g55 g56
                    refine ⟨?_, ?_⟩
                    · intro c57
                      have h1 := h1.1 c57
                      have h2 := h2.1 c57
                      exact hq _ _ h1 h2
                    · intro c58
                      have h1 := h1.2 c58
                      have h2 := h2.2 c58
                      exact hq _ _ h1 h2
          · intro c59
            have h1 := h1.2 c59
            have h2 := h2.2 c59
            exact hq _ _ h1 h2
theorem cm_X11_isName {Q1 Q2 Q3 : Int32 → HS → Prop} {v0 : Nat} {S : HS} (h1 : P_X11_isName v0 Q1 S) (h2 : P_X11_isName v0 Q2 S) (hq : ∀ (r : Int32) (T : HS), Q1 r T → Q2 r T → Q3 r T) : P_X11_isName v0 Q3 S := cm_X11_isName_0 h1 h2 hq
set_option maxRecDepth 20000 in
set_option maxHeartbeats 1000000 in
theorem cm_X11_known_47 {Q1 Q2 Q3 : Int32 → HS → Prop} {v0 : Nat} {v2 : Int32} {S : HS} (h1 : P_X11_known_47 Q1 v0 v2 S) (h2 : P_X11_known_47 Q2 v0 v2 S) (hq : ∀ (r : Int32) (T : HS), Q1 r T → Q2 r T → Q3 r T) : P_X11_known_47 Q3 v0 v2 S := by
  delta P_X11_known_47 at h1 h2 ⊢
  obtain ⟨c1, h1⟩ := h1
  obtain ⟨_, h2⟩ := h2
  refine ⟨c1, ?_⟩
  intro x3 e2
  have h1 := h1 x3 e2
  have h2 := h2 x3 e2
  refine ⟨?_, ?_⟩
  · intro c4
    have h1 := h1.1 c4
    have h2 := h2.1 c4
    obtain ⟨b5, e6, h1⟩ := h1
    obtain ⟨b7, e8, h2⟩ := h2
    cases e6.symm.trans e8
    refine ⟨b5, e6, ?_⟩
    obtain ⟨c9, h1⟩ := h1
    obtain ⟨_, h2⟩ := h2
    refine ⟨c9, ?_⟩
    obtain ⟨b10, e11, h1⟩ := h1
    obtain ⟨b12, e13, h2⟩ := h2
    cases e11.symm.trans e13
    refine ⟨b10, e11, ?_⟩
    obtain ⟨c14, h1⟩ := h1
    obtain ⟨_, h2⟩ := h2
    refine ⟨c14, ?_⟩
    obtain ⟨c15, h1⟩ := h1
    obtain ⟨_, h2⟩ := h2
    refine ⟨c15, ?_⟩
    intro x17 e16
    have h1 := h1 x17 e16
    have h2 := h2 x17 e16
    exact hq _ _ h1 h2
  · intro c18
    have h1 := h1.2 c18
    have h2 := h2.2 c18
    exact hq _ _ h1 h2
set_option maxRecDepth 20000 in
set_option maxHeartbeats 1000000 in
theorem cm_X11_known_42 {Q1 Q2 Q3 : Int32 → HS → Prop} {v0 : Nat} {v2 : Int32} {S : HS} (h1 : P_X11_known_42 Q1 v0 v2 S) (h2 : P_X11_known_42 Q2 v0 v2 S) (hq : ∀ (r : Int32) (T : HS), Q1 r T → Q2 r T → Q3 r T) : P_X11_known_42 Q3 v0 v2 S := by
  delta P_X11_known_42 at h1 h2 ⊢
  obtain ⟨c1, h1⟩ := h1
  obtain ⟨_, h2⟩ := h2
  refine ⟨c1, ?_⟩
  refine cm_X11_flaw h1 h2 (fun x2 h1 h2 g3 => ?_)
  have h1 := h1 g3
  have h2 := h2 g3
  exact cm_X11_known_47 h1 h2 hq
set_option maxRecDepth 20000 in
set_option maxHeartbeats 1000000 in
theorem cm_X11_known_12 {Q1 Q2 Q3 : Int32 → HS → Prop} {v0 : Nat} {v1 : Int32} {S : HS} (h1 : P_X11_known_12 Q1 v0 v1 S) (h2 : P_X11_known_12 Q2 v0 v1 S) (hq : ∀ (r : Int32) (T : HS), Q1 r T → Q2 r T → Q3 r T) : P_X11_known_12 Q3 v0 v1 S := by
  delta P_X11_known_12 at h1 h2 ⊢
  obtain ⟨c1, h1⟩ := h1
  obtain ⟨_, h2⟩ := h2
  refine ⟨c1, ?_⟩
  obtain ⟨b2, e3, h1⟩ := h1
  obtain ⟨b4, e5, h2⟩ := h2
  cases e3.symm.trans e5
  refine ⟨b2, e3, ?_⟩
  intro x7 e6
  have h1 := h1 x7 e6
  have h2 := h2 x7 e6
  obtain ⟨c8, h1⟩ := h1
  obtain ⟨_, h2⟩ := h2
  refine ⟨c8, ?_⟩
  refine cm_X10_find h1 h2 (fun x9 x10 h1 h2 g11 => ?_)
  have h1 := h1 g11
  have h2 := h2 g11
  refine ⟨?_, ?_⟩
  · intro c12
    have h1 := h1.1 c12
    have h2 := h2.1 c12
    exact cm_X11_known_42 h1 h2 hq
  · intro c13
    have h1 := h1.2 c13
    have h2 := h2.2 c13
    obtain ⟨b14, e15, h1⟩ := h1
    obtain ⟨b16, e17, h2⟩ := h2
    cases e15.symm.trans e17
    refine ⟨b14, e15, ?_⟩
    obtain ⟨c18, h1⟩ := h1
    obtain ⟨_, h2⟩ := h2
    refine ⟨c18, ?_⟩
    obtain ⟨b19, e20, h1⟩ := h1
    obtain ⟨b21, e22, h2⟩ := h2
    cases e20.symm.trans e22
    refine ⟨b19, e20, ?_⟩
    obtain ⟨c23, h1⟩ := h1
    obtain ⟨_, h2⟩ := h2
    refine ⟨c23, ?_⟩
    obtain ⟨c24, h1⟩ := h1
    obtain ⟨_, h2⟩ := h2
    refine ⟨c24, ?_⟩
    intro x26 e25
    have h1 := h1 x26 e25
    have h2 := h2 x26 e25
    refine ⟨?_, ?_⟩
    · intro c27
      have h1 := h1.1 c27
      have h2 := h2.1 c27
      exact cm_X11_known_47 h1 h2 hq
    · intro c28
      have h1 := h1.2 c28
      have h2 := h2.2 c28
      exact cm_X11_known_42 h1 h2 hq
set_option maxRecDepth 20000 in
set_option maxHeartbeats 1000000 in
theorem cm_X11_known_0 {Q1 Q2 Q3 : Int32 → HS → Prop} {v0 : Nat} {v1 : Int32} {S : HS} (h1 : P_X11_known_0 Q1 v0 v1 S) (h2 : P_X11_known_0 Q2 v0 v1 S) (hq : ∀ (r : Int32) (T : HS), Q1 r T → Q2 r T → Q3 r T) : P_X11_known_0 Q3 v0 v1 S := by
  delta P_X11_known_0 at h1 h2 ⊢
  obtain ⟨c1, h1⟩ := h1
  obtain ⟨_, h2⟩ := h2
  refine ⟨c1, ?_⟩
  refine cm_X11_isName h1 h2 (fun x2 x3 h1 h2 g4 g5 => ?_)
  have h1 := h1 g4 g5
  have h2 := h2 g4 g5
  refine ⟨?_, ?_⟩
  · intro c6
    have h1 := h1.1 c6
    have h2 := h2.1 c6
    exact cm_X11_known_12 h1 h2 hq
  · intro c7
    have h1 := h1.2 c7
    have h2 := h2.2 c7
    refine cm_X11_flaw h1 h2 (fun x8 h1 h2 g9 => ?_)
    have h1 := h1 g9
    have h2 := h2 g9
    exact cm_X11_known_12 h1 h2 hq
theorem cm_X11_known {Q1 Q2 Q3 : Int32 → HS → Prop} {v0 : Nat} {v1 : Int32} {S : HS} (h1 : P_X11_known v0 v1 Q1 S) (h2 : P_X11_known v0 v1 Q2 S) (hq : ∀ (r : Int32) (T : HS), Q1 r T → Q2 r T → Q3 r T) : P_X11_known v0 v1 Q3 S := cm_X11_known_0 h1 h2 hq
set_option maxRecDepth 20000 in
set_option maxHeartbeats 1000000 in
theorem cm_X11_spotOf_0 {Q1 Q2 Q3 : Int32 → HS → Prop} {v0 : Int32} {v1 : Int32} {S : HS} (h1 : P_X11_spotOf_0 Q1 v0 v1 S) (h2 : P_X11_spotOf_0 Q2 v0 v1 S) (hq : ∀ (r : Int32) (T : HS), Q1 r T → Q2 r T → Q3 r T) : P_X11_spotOf_0 Q3 v0 v1 S := by
  delta P_X11_spotOf_0 at h1 h2 ⊢
  exact hq _ _ h1 h2
theorem cm_X11_spotOf {Q1 Q2 Q3 : Int32 → HS → Prop} {v0 : Int32} {v1 : Int32} {S : HS} (h1 : P_X11_spotOf v0 v1 Q1 S) (h2 : P_X11_spotOf v0 v1 Q2 S) (hq : ∀ (r : Int32) (T : HS), Q1 r T → Q2 r T → Q3 r T) : P_X11_spotOf v0 v1 Q3 S := cm_X11_spotOf_0 h1 h2 hq
set_option maxRecDepth 20000 in
set_option maxHeartbeats 1000000 in
theorem cm_X11_meanOf_0 {Q1 Q2 Q3 : Int64 → HS → Prop} {v0 : Nat} {v1 : Int32} {v2 : Int32} {v3 : Int32} {v4 : Int32} {v5 : Int32} {S : HS} (h1 : P_X11_meanOf_0 Q1 v0 v1 v2 v3 v4 v5 S) (h2 : P_X11_meanOf_0 Q2 v0 v1 v2 v3 v4 v5 S) (hq : ∀ (r : Int64) (T : HS), Q1 r T → Q2 r T → Q3 r T) : P_X11_meanOf_0 Q3 v0 v1 v2 v3 v4 v5 S := by
  delta P_X11_meanOf_0 at h1 h2 ⊢
  obtain ⟨c1, h1⟩ := h1
  obtain ⟨_, h2⟩ := h2
  refine ⟨c1, ?_⟩
  refine cm_X11_hourOf h1 h2 (fun x2 x3 h1 h2 g4 => ?_)
  have h1 := h1 g4
  have h2 := h2 g4
  obtain ⟨b5, e6, h1⟩ := h1
  obtain ⟨b7, e8, h2⟩ := h2
  cases e6.symm.trans e8
  refine ⟨b5, e6, ?_⟩
  obtain ⟨c9, h1⟩ := h1
  obtain ⟨_, h2⟩ := h2
  refine ⟨c9, ?_⟩
  intro x11 e10
  have h1 := h1 x11 e10
  have h2 := h2 x11 e10
  refine ⟨?_, ?_⟩
  · intro c12
    have h1 := h1.1 c12
    have h2 := h2.1 c12
    exact hq _ _ h1 h2
  · intro c13
    have h1 := h1.2 c13
    have h2 := h2.2 c13
    refine cm_X11_wetOf h1 h2 (fun x14 x15 h1 h2 g16 => ?_)
    have h1 := h1 g16
    have h2 := h2 g16
    obtain ⟨b17, e18, h1⟩ := h1
    obtain ⟨b19, e20, h2⟩ := h2
    cases e18.symm.trans e20
    refine ⟨b17, e18, ?_⟩
    obtain ⟨c21, h1⟩ := h1
    obtain ⟨_, h2⟩ := h2
    refine ⟨c21, ?_⟩
    obtain ⟨b22, e23, h1⟩ := h1
    obtain ⟨b24, e25, h2⟩ := h2
    cases e23.symm.trans e25
    refine ⟨b22, e23, ?_⟩
    obtain ⟨c26, h1⟩ := h1
    obtain ⟨_, h2⟩ := h2
    refine ⟨c26, ?_⟩
    obtain ⟨c27, h1⟩ := h1
    obtain ⟨_, h2⟩ := h2
    refine ⟨c27, ?_⟩
    intro x29 e28
    have h1 := h1 x29 e28
    have h2 := h2 x29 e28
    exact hq _ _ h1 h2
theorem cm_X11_meanOf {Q1 Q2 Q3 : Int64 → HS → Prop} {v0 : Nat} {v1 : Int32} {v2 : Int32} {v3 : Int32} {v4 : Int32} {v5 : Int32} {S : HS} (h1 : P_X11_meanOf v0 v1 v2 v3 v4 v5 Q1 S) (h2 : P_X11_meanOf v0 v1 v2 v3 v4 v5 Q2 S) (hq : ∀ (r : Int64) (T : HS), Q1 r T → Q2 r T → Q3 r T) : P_X11_meanOf v0 v1 v2 v3 v4 v5 Q3 S := cm_X11_meanOf_0 h1 h2 hq
set_option maxRecDepth 20000 in
set_option maxHeartbeats 1000000 in
theorem cm_X11_takes_77 {Q1 Q2 Q3 : HS → Prop} {v0 : Nat} {v1 : Int32} {v2 : Int32} {v5 : Int32} {v6 : Int64} {S : HS} (h1 : P_X11_takes_77 Q1 v0 v1 v2 v5 v6 S) (h2 : P_X11_takes_77 Q2 v0 v1 v2 v5 v6 S) (hq : ∀ (T : HS), Q1 T → Q2 T → Q3 T) : P_X11_takes_77 Q3 v0 v1 v2 v5 v6 S := by
  delta P_X11_takes_77 at h1 h2 ⊢
  obtain ⟨c1, h1⟩ := h1
  obtain ⟨_, h2⟩ := h2
  refine ⟨c1, ?_⟩
  obtain ⟨b2, e3, h1⟩ := h1
  obtain ⟨b4, e5, h2⟩ := h2
  cases e3.symm.trans e5
  refine ⟨b2, e3, ?_⟩
  obtain ⟨c6, h1⟩ := h1
  obtain ⟨_, h2⟩ := h2
  refine ⟨c6, ?_⟩
  obtain ⟨c7, h1⟩ := h1
  obtain ⟨_, h2⟩ := h2
  refine ⟨c7, ?_⟩
  intro x9 e8
  have h1 := h1 x9 e8
  have h2 := h2 x9 e8
  obtain ⟨b10, e11, h1⟩ := h1
  obtain ⟨b12, e13, h2⟩ := h2
  cases e11.symm.trans e13
  refine ⟨b10, e11, ?_⟩
  obtain ⟨b14, e15, h1⟩ := h1
  obtain ⟨b16, e17, h2⟩ := h2
  cases e15.symm.trans e17
  refine ⟨b14, e15, ?_⟩
  obtain ⟨c18, h1⟩ := h1
  obtain ⟨_, h2⟩ := h2
  refine ⟨c18, ?_⟩
  obtain ⟨c19, h1⟩ := h1
  obtain ⟨_, h2⟩ := h2
  refine ⟨c19, ?_⟩
  intro x21 e20
  have h1 := h1 x21 e20
  have h2 := h2 x21 e20
  obtain ⟨c22, h1⟩ := h1
  obtain ⟨_, h2⟩ := h2
  refine ⟨c22, ?_⟩
  obtain ⟨c23, h1⟩ := h1
  obtain ⟨_, h2⟩ := h2
  refine ⟨c23, ?_⟩
  intro x25 e24
  have h1 := h1 x25 e24
  have h2 := h2 x25 e24
  obtain ⟨b26, e27, h1⟩ := h1
  obtain ⟨b28, e29, h2⟩ := h2
  cases e27.symm.trans e29
  refine ⟨b26, e27, ?_⟩
  obtain ⟨c30, h1⟩ := h1
  obtain ⟨_, h2⟩ := h2
  refine ⟨c30, ?_⟩
  obtain ⟨c31, h1⟩ := h1
  obtain ⟨_, h2⟩ := h2
  refine ⟨c31, ?_⟩
  intro x33 e32
  have h1 := h1 x33 e32
  have h2 := h2 x33 e32
  exact hq _ h1 h2
set_option maxRecDepth 20000 in
set_option maxHeartbeats 1000000 in
theorem cm_X11_takes_0 {Q1 Q2 Q3 : HS → Prop} {v0 : Nat} {v1 : Int32} {v2 : Int32} {v3 : Int64} {v5 : Int32} {S : HS} (h1 : P_X11_takes_0 Q1 v0 v1 v2 v3 v5 S) (h2 : P_X11_takes_0 Q2 v0 v1 v2 v3 v5 S) (hq : ∀ (T : HS), Q1 T → Q2 T → Q3 T) : P_X11_takes_0 Q3 v0 v1 v2 v3 v5 S := by
  delta P_X11_takes_0 at h1 h2 ⊢
  obtain ⟨c1, h1⟩ := h1
  obtain ⟨_, h2⟩ := h2
  refine ⟨c1, ?_⟩
  obtain ⟨b2, e3, h1⟩ := h1
  obtain ⟨b4, e5, h2⟩ := h2
  cases e3.symm.trans e5
  refine ⟨b2, e3, ?_⟩
  obtain ⟨c6, h1⟩ := h1
  obtain ⟨_, h2⟩ := h2
  refine ⟨c6, ?_⟩
  obtain ⟨c7, h1⟩ := h1
  obtain ⟨_, h2⟩ := h2
  refine ⟨c7, ?_⟩
  intro x9 e8
  have h1 := h1 x9 e8
  have h2 := h2 x9 e8
  refine ⟨?_, ?_⟩
  · intro c10
    have h1 := h1.1 c10
    have h2 := h2.1 c10
    obtain ⟨b11, e12, h1⟩ := h1
    obtain ⟨b13, e14, h2⟩ := h2
    cases e12.symm.trans e14
    refine ⟨b11, e12, ?_⟩
    obtain ⟨c15, h1⟩ := h1
    obtain ⟨_, h2⟩ := h2
    refine ⟨c15, ?_⟩
    obtain ⟨c16, h1⟩ := h1
    obtain ⟨_, h2⟩ := h2
    refine ⟨c16, ?_⟩
    intro x18 e17
    have h1 := h1 x18 e17
    have h2 := h2 x18 e17
    intro x20 e19
    have h1 := h1 x20 e19
    have h2 := h2 x20 e19
    obtain ⟨b21, e22, h1⟩ := h1
    obtain ⟨b23, e24, h2⟩ := h2
    cases e22.symm.trans e24
    refine ⟨b21, e22, ?_⟩
    obtain ⟨c25, h1⟩ := h1
    obtain ⟨_, h2⟩ := h2
    refine ⟨c25, ?_⟩
    obtain ⟨c26, h1⟩ := h1
    obtain ⟨_, h2⟩ := h2
    refine ⟨c26, ?_⟩
    intro x28 e27
    have h1 := h1 x28 e27
    have h2 := h2 x28 e27
    refine ⟨?_, ?_⟩
    · intro c29
      have h1 := h1.1 c29
      have h2 := h2.1 c29
      exact cm_X11_takes_77 h1 h2 hq
    · intro c30
      have h1 := h1.2 c30
      have h2 := h2.2 c30
      obtain ⟨b31, e32, h1⟩ := h1
      obtain ⟨b33, e34, h2⟩ := h2
      cases e32.symm.trans e34
      refine ⟨b31, e32, ?_⟩
      obtain ⟨c35, h1⟩ := h1
      obtain ⟨_, h2⟩ := h2
      refine ⟨c35, ?_⟩
      obtain ⟨c36, h1⟩ := h1
      obtain ⟨_, h2⟩ := h2
      refine ⟨c36, ?_⟩
      intro x38 e37
      have h1 := h1 x38 e37
      have h2 := h2 x38 e37
      refine ⟨?_, ?_⟩
      · intro c39
        have h1 := h1.1 c39
        have h2 := h2.1 c39
        exact hq _ h1 h2
      · intro c40
        have h1 := h1.2 c40
        have h2 := h2.2 c40
        obtain ⟨b41, e42, h1⟩ := h1
        obtain ⟨b43, e44, h2⟩ := h2
        cases e42.symm.trans e44
        refine ⟨b41, e42, ?_⟩
        obtain ⟨c45, h1⟩ := h1
        obtain ⟨_, h2⟩ := h2
        refine ⟨c45, ?_⟩
        obtain ⟨c46, h1⟩ := h1
        obtain ⟨_, h2⟩ := h2
        refine ⟨c46, ?_⟩
        intro x48 e47
        have h1 := h1 x48 e47
        have h2 := h2 x48 e47
        refine ⟨?_, ?_⟩
        · intro c49
          have h1 := h1.1 c49
          have h2 := h2.1 c49
          exact cm_X11_takes_77 h1 h2 hq
        · intro c50
          have h1 := h1.2 c50
          have h2 := h2.2 c50
          obtain ⟨b51, e52, h1⟩ := h1
          obtain ⟨b53, e54, h2⟩ := h2
          cases e52.symm.trans e54
          refine ⟨b51, e52, ?_⟩
          obtain ⟨c55, h1⟩ := h1
          obtain ⟨_, h2⟩ := h2
          refine ⟨c55, ?_⟩
          obtain ⟨c56, h1⟩ := h1
          obtain ⟨_, h2⟩ := h2
          refine ⟨c56, ?_⟩
          intro x58 e57
          have h1 := h1 x58 e57
          have h2 := h2 x58 e57
          obtain ⟨b59, e60, h1⟩ := h1
          obtain ⟨b61, e62, h2⟩ := h2
          cases e60.symm.trans e62
          refine ⟨b59, e60, ?_⟩
          obtain ⟨c63, h1⟩ := h1
          obtain ⟨_, h2⟩ := h2
          refine ⟨c63, ?_⟩
          obtain ⟨c64, h1⟩ := h1
          obtain ⟨_, h2⟩ := h2
          refine ⟨c64, ?_⟩
          intro x66 e65
          have h1 := h1 x66 e65
          have h2 := h2 x66 e65
          refine ⟨?_, ?_⟩
          · intro c67
            have h1 := h1.1 c67
            have h2 := h2.1 c67
            exact cm_X11_takes_77 h1 h2 hq
          · intro c68
            have h1 := h1.2 c68
            have h2 := h2.2 c68
            exact hq _ h1 h2
  · intro c69
    have h1 := h1.2 c69
    have h2 := h2.2 c69
    exact hq _ h1 h2
theorem cm_X11_takes {Q1 Q2 Q3 : HS → Prop} {v0 : Nat} {v1 : Int32} {v2 : Int32} {v3 : Int64} {v5 : Int32} {S : HS} (h1 : P_X11_takes v0 v1 v2 v3 v5 Q1 S) (h2 : P_X11_takes v0 v1 v2 v3 v5 Q2 S) (hq : ∀ (T : HS), Q1 T → Q2 T → Q3 T) : P_X11_takes v0 v1 v2 v3 v5 Q3 S := cm_X11_takes_0 h1 h2 hq
set_option maxRecDepth 20000 in
set_option maxHeartbeats 1000000 in
theorem cm_X11_waitsOf_0 {Q1 Q2 Q3 : Int64 → HS → Prop} {v0 : Nat} {v1 : Int32} {v2 : Int32} {v3 : Int32} {S : HS} (h1 : P_X11_waitsOf_0 Q1 v0 v1 v2 v3 S) (h2 : P_X11_waitsOf_0 Q2 v0 v1 v2 v3 S) (hq : ∀ (r : Int64) (T : HS), Q1 r T → Q2 r T → Q3 r T) : P_X11_waitsOf_0 Q3 v0 v1 v2 v3 S := by
  delta P_X11_waitsOf_0 at h1 h2 ⊢
  obtain ⟨c1, h1⟩ := h1
  obtain ⟨_, h2⟩ := h2
  refine ⟨c1, ?_⟩
  refine cm_X11_hourOf h1 h2 (fun x2 x3 h1 h2 g4 => ?_)
  have h1 := h1 g4
  have h2 := h2 g4
  obtain ⟨b5, e6, h1⟩ := h1
  obtain ⟨b7, e8, h2⟩ := h2
  cases e6.symm.trans e8
  refine ⟨b5, e6, ?_⟩
  obtain ⟨c9, h1⟩ := h1
  obtain ⟨_, h2⟩ := h2
  refine ⟨c9, ?_⟩
  obtain ⟨b10, e11, h1⟩ := h1
  obtain ⟨b12, e13, h2⟩ := h2
  cases e11.symm.trans e13
  refine ⟨b10, e11, ?_⟩
  obtain ⟨c14, h1⟩ := h1
  obtain ⟨_, h2⟩ := h2
  refine ⟨c14, ?_⟩
  obtain ⟨c15, h1⟩ := h1
  obtain ⟨_, h2⟩ := h2
  refine ⟨c15, ?_⟩
  intro x17 e16
  have h1 := h1 x17 e16
  have h2 := h2 x17 e16
  refine ⟨?_, ?_⟩
  · intro c18
    have h1 := h1.1 c18
    have h2 := h2.1 c18
    exact hq _ _ h1 h2
  · intro c19
    have h1 := h1.2 c19
    have h2 := h2.2 c19
    obtain ⟨b20, e21, h1⟩ := h1
    obtain ⟨b22, e23, h2⟩ := h2
    cases e21.symm.trans e23
    refine ⟨b20, e21, ?_⟩
    obtain ⟨c24, h1⟩ := h1
    obtain ⟨_, h2⟩ := h2
    refine ⟨c24, ?_⟩
    intro x26 e25
    have h1 := h1 x26 e25
    have h2 := h2 x26 e25
    refine ⟨?_, ?_⟩
    · intro c27
      have h1 := h1.1 c27
      have h2 := h2.1 c27
      refine cm_X11_drips h1 h2 (fun x28 x29 h1 h2 g30 => ?_)
      have h1 := h1 g30
      have h2 := h2 g30
      obtain ⟨b31, e32, h1⟩ := h1
      obtain ⟨b33, e34, h2⟩ := h2
      cases e32.symm.trans e34
      refine ⟨b31, e32, ?_⟩
      obtain ⟨c35, h1⟩ := h1
      obtain ⟨_, h2⟩ := h2
      refine ⟨c35, ?_⟩
      obtain ⟨b36, e37, h1⟩ := h1
      obtain ⟨b38, e39, h2⟩ := h2
      cases e37.symm.trans e39
      refine ⟨b36, e37, ?_⟩
      obtain ⟨c40, h1⟩ := h1
      obtain ⟨_, h2⟩ := h2
      refine ⟨c40, ?_⟩
      obtain ⟨c41, h1⟩ := h1
      obtain ⟨_, h2⟩ := h2
      refine ⟨c41, ?_⟩
      intro x43 e42
      have h1 := h1 x43 e42
      have h2 := h2 x43 e42
      exact hq _ _ h1 h2
    · intro c44
      have h1 := h1.2 c44
      have h2 := h2.2 c44
      exact hq _ _ h1 h2
theorem cm_X11_waitsOf {Q1 Q2 Q3 : Int64 → HS → Prop} {v0 : Nat} {v1 : Int32} {v2 : Int32} {v3 : Int32} {S : HS} (h1 : P_X11_waitsOf v0 v1 v2 v3 Q1 S) (h2 : P_X11_waitsOf v0 v1 v2 v3 Q2 S) (hq : ∀ (r : Int64) (T : HS), Q1 r T → Q2 r T → Q3 r T) : P_X11_waitsOf v0 v1 v2 v3 Q3 S := cm_X11_waitsOf_0 h1 h2 hq
set_option maxRecDepth 20000 in
set_option maxHeartbeats 1000000 in
theorem cm_X11_tries_140 {Q1 Q2 Q3 : HS → Prop} {X3_1 X3_2 X3_3 : Nat → Int32 → Int32 → Int32 → Int32 → Int32 → HS → Prop} {X18_1 X18_2 X18_3 : Nat → Int32 → Int32 → Int32 → Int32 → Int32 → Int32 → HS → Prop} {X53_1 X53_2 X53_3 : Nat → Int32 → Int32 → Int32 → Int32 → Int32 → Int32 → Int32 → HS → Prop} {v0 : Nat} {v1 : Int32} {v2 : Int32} {v3 : Int32} {v4 : Int32} {v5 : Int32} {v6 : Int32} {v7 : Int32} {S : HS} (h1 : P_X11_tries_140 Q1 X3_1 X18_1 X53_1 v0 v1 v2 v3 v4 v5 v6 v7 S) (h2 : P_X11_tries_140 Q2 X3_2 X18_2 X53_2 v0 v1 v2 v3 v4 v5 v6 v7 S) (hq : ∀ (T : HS), Q1 T → Q2 T → Q3 T) (hX3 : ∀ (u0 : Nat) (u1 : Int32) (u2 : Int32) (u3 : Int32) (u4 : Int32) (u5 : Int32) (u6 : HS), X3_1 u0 u1 u2 u3 u4 u5 u6 → X3_2 u0 u1 u2 u3 u4 u5 u6 → X3_3 u0 u1 u2 u3 u4 u5 u6) (hX18 : ∀ (u0 : Nat) (u1 : Int32) (u2 : Int32) (u3 : Int32) (u4 : Int32) (u5 : Int32) (u6 : Int32) (u7 : HS), X18_1 u0 u1 u2 u3 u4 u5 u6 u7 → X18_2 u0 u1 u2 u3 u4 u5 u6 u7 → X18_3 u0 u1 u2 u3 u4 u5 u6 u7) (hX53 : ∀ (u0 : Nat) (u1 : Int32) (u2 : Int32) (u3 : Int32) (u4 : Int32) (u5 : Int32) (u6 : Int32) (u7 : Int32) (u8 : HS), X53_1 u0 u1 u2 u3 u4 u5 u6 u7 u8 → X53_2 u0 u1 u2 u3 u4 u5 u6 u7 u8 → X53_3 u0 u1 u2 u3 u4 u5 u6 u7 u8) : P_X11_tries_140 Q3 X3_3 X18_3 X53_3 v0 v1 v2 v3 v4 v5 v6 v7 S := by
  delta P_X11_tries_140 at h1 h2 ⊢
  intro x2 e1
  have h1 := h1 x2 e1
  have h2 := h2 x2 e1
  exact hX53 _ _ _ _ _ _ _ _ _ h1 h2
set_option maxRecDepth 20000 in
set_option maxHeartbeats 1000000 in
theorem cm_X11_tries_146 {Q1 Q2 Q3 : HS → Prop} {X3_1 X3_2 X3_3 : Nat → Int32 → Int32 → Int32 → Int32 → Int32 → HS → Prop} {X18_1 X18_2 X18_3 : Nat → Int32 → Int32 → Int32 → Int32 → Int32 → Int32 → HS → Prop} {v0 : Nat} {v1 : Int32} {v2 : Int32} {v3 : Int32} {v4 : Int32} {v5 : Int32} {v6 : Int32} {S : HS} (h1 : P_X11_tries_146 Q1 X3_1 X18_1 v0 v1 v2 v3 v4 v5 v6 S) (h2 : P_X11_tries_146 Q2 X3_2 X18_2 v0 v1 v2 v3 v4 v5 v6 S) (hq : ∀ (T : HS), Q1 T → Q2 T → Q3 T) (hX3 : ∀ (u0 : Nat) (u1 : Int32) (u2 : Int32) (u3 : Int32) (u4 : Int32) (u5 : Int32) (u6 : HS), X3_1 u0 u1 u2 u3 u4 u5 u6 → X3_2 u0 u1 u2 u3 u4 u5 u6 → X3_3 u0 u1 u2 u3 u4 u5 u6) (hX18 : ∀ (u0 : Nat) (u1 : Int32) (u2 : Int32) (u3 : Int32) (u4 : Int32) (u5 : Int32) (u6 : Int32) (u7 : HS), X18_1 u0 u1 u2 u3 u4 u5 u6 u7 → X18_2 u0 u1 u2 u3 u4 u5 u6 u7 → X18_3 u0 u1 u2 u3 u4 u5 u6 u7) : P_X11_tries_146 Q3 X3_3 X18_3 v0 v1 v2 v3 v4 v5 v6 S := by
  delta P_X11_tries_146 at h1 h2 ⊢
  intro x2 e1
  have h1 := h1 x2 e1
  have h2 := h2 x2 e1
  exact hX18 _ _ _ _ _ _ _ _ h1 h2
set_option maxRecDepth 20000 in
set_option maxHeartbeats 1000000 in
theorem cmB_X11_tries_53 {Q1 Q2 Q3 : HS → Prop} {X3_1 X3_2 X3_3 : Nat → Int32 → Int32 → Int32 → Int32 → Int32 → HS → Prop} {X18_1 X18_2 X18_3 : Nat → Int32 → Int32 → Int32 → Int32 → Int32 → Int32 → HS → Prop} {X53_1 X53_2 X53_3 : Nat → Int32 → Int32 → Int32 → Int32 → Int32 → Int32 → Int32 → HS → Prop} {v0 : Nat} {v1 : Int32} {v2 : Int32} {v3 : Int32} {v4 : Int32} {v5 : Int32} {v6 : Int32} {v7 : Int32} {S : HS} (h1 : B_X11_tries_53 Q1 X3_1 X18_1 X53_1 v0 v1 v2 v3 v4 v5 v6 v7 S) (h2 : B_X11_tries_53 Q2 X3_2 X18_2 X53_2 v0 v1 v2 v3 v4 v5 v6 v7 S) (hq : ∀ (T : HS), Q1 T → Q2 T → Q3 T) (hX3 : ∀ (u0 : Nat) (u1 : Int32) (u2 : Int32) (u3 : Int32) (u4 : Int32) (u5 : Int32) (u6 : HS), X3_1 u0 u1 u2 u3 u4 u5 u6 → X3_2 u0 u1 u2 u3 u4 u5 u6 → X3_3 u0 u1 u2 u3 u4 u5 u6) (hX18 : ∀ (u0 : Nat) (u1 : Int32) (u2 : Int32) (u3 : Int32) (u4 : Int32) (u5 : Int32) (u6 : Int32) (u7 : HS), X18_1 u0 u1 u2 u3 u4 u5 u6 u7 → X18_2 u0 u1 u2 u3 u4 u5 u6 u7 → X18_3 u0 u1 u2 u3 u4 u5 u6 u7) (hX53 : ∀ (u0 : Nat) (u1 : Int32) (u2 : Int32) (u3 : Int32) (u4 : Int32) (u5 : Int32) (u6 : Int32) (u7 : Int32) (u8 : HS), X53_1 u0 u1 u2 u3 u4 u5 u6 u7 u8 → X53_2 u0 u1 u2 u3 u4 u5 u6 u7 u8 → X53_3 u0 u1 u2 u3 u4 u5 u6 u7 u8) : B_X11_tries_53 Q3 X3_3 X18_3 X53_3 v0 v1 v2 v3 v4 v5 v6 v7 S := by
  delta B_X11_tries_53 at h1 h2 ⊢
  obtain ⟨c1, h1⟩ := h1
  obtain ⟨_, h2⟩ := h2
  refine ⟨c1, ?_⟩
  obtain ⟨b2, e3, h1⟩ := h1
  obtain ⟨b4, e5, h2⟩ := h2
  cases e3.symm.trans e5
  refine ⟨b2, e3, ?_⟩
  obtain ⟨c6, h1⟩ := h1
  obtain ⟨_, h2⟩ := h2
  refine ⟨c6, ?_⟩
  obtain ⟨b7, e8, h1⟩ := h1
  obtain ⟨b9, e10, h2⟩ := h2
  cases e8.symm.trans e10
  refine ⟨b7, e8, ?_⟩
  obtain ⟨c11, h1⟩ := h1
  obtain ⟨_, h2⟩ := h2
  refine ⟨c11, ?_⟩
  obtain ⟨c12, h1⟩ := h1
  obtain ⟨_, h2⟩ := h2
  refine ⟨c12, ?_⟩
  intro x14 e13
  have h1 := h1 x14 e13
  have h2 := h2 x14 e13
  refine ⟨?_, ?_⟩
  · intro c15
    have h1 := h1.1 c15
    have h2 := h2.1 c15
    exact cm_X11_tries_146 h1 h2 hq hX3 hX18
  · intro c16
    have h1 := h1.2 c16
    have h2 := h2.2 c16
    obtain ⟨b17, e18, h1⟩ := h1
    obtain ⟨b19, e20, h2⟩ := h2
    cases e18.symm.trans e20
    refine ⟨b17, e18, ?_⟩
    obtain ⟨c21, h1⟩ := h1
    obtain ⟨_, h2⟩ := h2
    refine ⟨c21, ?_⟩
    refine cm_X10_minutes h1 h2 (fun x22 x23 h1 h2 g24 => ?_)
    have h1 := h1 g24
    have h2 := h2 g24
    intro x26 e25
    have h1 := h1 x26 e25
    have h2 := h2 x26 e25
    refine ⟨?_, ?_⟩
    · intro c27
      have h1 := h1.1 c27
      have h2 := h2.1 c27
      exact cm_X11_tries_140 h1 h2 hq hX3 hX18 hX53
    · intro c28
      have h1 := h1.2 c28
      have h2 := h2.2 c28
      refine cm_X11_spotOf h1 h2 (fun x29 x30 h1 h2 g31 => ?_)
      have h1 := h1 g31
      have h2 := h2 g31
      obtain ⟨b32, e33, h1⟩ := h1
      obtain ⟨b34, e35, h2⟩ := h2
      cases e33.symm.trans e35
      refine ⟨b32, e33, ?_⟩
      obtain ⟨c36, h1⟩ := h1
      obtain ⟨_, h2⟩ := h2
      refine ⟨c36, ?_⟩
      refine cm_X10_ends h1 h2 (fun x37 x38 h1 h2 g39 => ?_)
      have h1 := h1 g39
      have h2 := h2 g39
      refine cm_X11_spotOf h1 h2 (fun x40 x41 h1 h2 g42 => ?_)
      have h1 := h1 g42
      have h2 := h2 g42
      refine cm_X11_meanOf h1 h2 (fun x43 x44 h1 h2 g45 => ?_)
      have h1 := h1 g45
      have h2 := h2 g45
      refine cm_X11_takes h1 h2 (fun x46 h1 h2 g47 => ?_)
      have h1 := h1 g47
      have h2 := h2 g47
      exact cm_X11_tries_140 h1 h2 hq hX3 hX18 hX53
theorem fd_X11_tries_53 {Q : HS → Prop} {X3 : Nat → Int32 → Int32 → Int32 → Int32 → Int32 → HS → Prop} {X18 : Nat → Int32 → Int32 → Int32 → Int32 → Int32 → Int32 → HS → Prop} {v0 : Nat} {v1 : Int32} {v2 : Int32} {v3 : Int32} {v4 : Int32} {v5 : Int32} {v6 : Int32} {v7 : Int32} {S : HS} (h : B_X11_tries_53 Q X3 X18 (P_X11_tries_53 Q X3 X18) v0 v1 v2 v3 v4 v5 v6 v7 S) : P_X11_tries_53 Q X3 X18 v0 v1 v2 v3 v4 v5 v6 v7 S := fun X hX => hX v0 v1 v2 v3 v4 v5 v6 v7 S (cmB_X11_tries_53 h h (fun _ a _ => a) (fun _ _ _ _ _ _ _ a _ => a) (fun _ _ _ _ _ _ _ _ a _ => a) (fun _ _ _ _ _ _ _ _ _ hp _ => hp X hX))
theorem uf_X11_tries_53 {Q : HS → Prop} {X3 : Nat → Int32 → Int32 → Int32 → Int32 → Int32 → HS → Prop} {X18 : Nat → Int32 → Int32 → Int32 → Int32 → Int32 → Int32 → HS → Prop} {v0 : Nat} {v1 : Int32} {v2 : Int32} {v3 : Int32} {v4 : Int32} {v5 : Int32} {v6 : Int32} {v7 : Int32} {S : HS} (h : P_X11_tries_53 Q X3 X18 v0 v1 v2 v3 v4 v5 v6 v7 S) : B_X11_tries_53 Q X3 X18 (P_X11_tries_53 Q X3 X18) v0 v1 v2 v3 v4 v5 v6 v7 S := h (fun v0 v1 v2 v3 v4 v5 v6 v7 S => B_X11_tries_53 Q X3 X18 (P_X11_tries_53 Q X3 X18) v0 v1 v2 v3 v4 v5 v6 v7 S) (fun v0 v1 v2 v3 v4 v5 v6 v7 S hB => cmB_X11_tries_53 hB hB (fun _ a _ => a) (fun _ _ _ _ _ _ _ a _ => a) (fun _ _ _ _ _ _ _ _ a _ => a) (fun _ _ _ _ _ _ _ _ _ hb _ => fd_X11_tries_53 hb))
theorem cm_X11_tries_53 {Q1 Q2 Q3 : HS → Prop} {X3_1 X3_2 X3_3 : Nat → Int32 → Int32 → Int32 → Int32 → Int32 → HS → Prop} {X18_1 X18_2 X18_3 : Nat → Int32 → Int32 → Int32 → Int32 → Int32 → Int32 → HS → Prop} {v0 : Nat} {v1 : Int32} {v2 : Int32} {v3 : Int32} {v4 : Int32} {v5 : Int32} {v6 : Int32} {v7 : Int32} {S : HS} (h1 : P_X11_tries_53 Q1 X3_1 X18_1 v0 v1 v2 v3 v4 v5 v6 v7 S) (h2 : P_X11_tries_53 Q2 X3_2 X18_2 v0 v1 v2 v3 v4 v5 v6 v7 S) (hq : ∀ (T : HS), Q1 T → Q2 T → Q3 T) (hX3 : ∀ (u0 : Nat) (u1 : Int32) (u2 : Int32) (u3 : Int32) (u4 : Int32) (u5 : Int32) (u6 : HS), X3_1 u0 u1 u2 u3 u4 u5 u6 → X3_2 u0 u1 u2 u3 u4 u5 u6 → X3_3 u0 u1 u2 u3 u4 u5 u6) (hX18 : ∀ (u0 : Nat) (u1 : Int32) (u2 : Int32) (u3 : Int32) (u4 : Int32) (u5 : Int32) (u6 : Int32) (u7 : HS), X18_1 u0 u1 u2 u3 u4 u5 u6 u7 → X18_2 u0 u1 u2 u3 u4 u5 u6 u7 → X18_3 u0 u1 u2 u3 u4 u5 u6 u7) : P_X11_tries_53 Q3 X3_3 X18_3 v0 v1 v2 v3 v4 v5 v6 v7 S := h1 (fun v0 v1 v2 v3 v4 v5 v6 v7 S => P_X11_tries_53 Q2 X3_2 X18_2 v0 v1 v2 v3 v4 v5 v6 v7 S → P_X11_tries_53 Q3 X3_3 X18_3 v0 v1 v2 v3 v4 v5 v6 v7 S) (fun v0 v1 v2 v3 v4 v5 v6 v7 S hB hp => fd_X11_tries_53 (cmB_X11_tries_53 hB (uf_X11_tries_53 hp) hq hX3 hX18 (fun _ _ _ _ _ _ _ _ _ hx hp => hx hp))) h2
set_option maxRecDepth 20000 in
set_option maxHeartbeats 1000000 in
theorem cmB_X11_tries_18 {Q1 Q2 Q3 : HS → Prop} {X3_1 X3_2 X3_3 : Nat → Int32 → Int32 → Int32 → Int32 → Int32 → HS → Prop} {X18_1 X18_2 X18_3 : Nat → Int32 → Int32 → Int32 → Int32 → Int32 → Int32 → HS → Prop} {v0 : Nat} {v1 : Int32} {v2 : Int32} {v3 : Int32} {v4 : Int32} {v5 : Int32} {v6 : Int32} {S : HS} (h1 : B_X11_tries_18 Q1 X3_1 X18_1 v0 v1 v2 v3 v4 v5 v6 S) (h2 : B_X11_tries_18 Q2 X3_2 X18_2 v0 v1 v2 v3 v4 v5 v6 S) (hq : ∀ (T : HS), Q1 T → Q2 T → Q3 T) (hX3 : ∀ (u0 : Nat) (u1 : Int32) (u2 : Int32) (u3 : Int32) (u4 : Int32) (u5 : Int32) (u6 : HS), X3_1 u0 u1 u2 u3 u4 u5 u6 → X3_2 u0 u1 u2 u3 u4 u5 u6 → X3_3 u0 u1 u2 u3 u4 u5 u6) (hX18 : ∀ (u0 : Nat) (u1 : Int32) (u2 : Int32) (u3 : Int32) (u4 : Int32) (u5 : Int32) (u6 : Int32) (u7 : HS), X18_1 u0 u1 u2 u3 u4 u5 u6 u7 → X18_2 u0 u1 u2 u3 u4 u5 u6 u7 → X18_3 u0 u1 u2 u3 u4 u5 u6 u7) : B_X11_tries_18 Q3 X3_3 X18_3 v0 v1 v2 v3 v4 v5 v6 S := by
  delta B_X11_tries_18 at h1 h2 ⊢
  refine ⟨?_, ?_⟩
  · intro c1
    have h1 := h1.1 c1
    have h2 := h2.1 c1
    intro x3 e2
    have h1 := h1 x3 e2
    have h2 := h2 x3 e2
    exact hX3 _ _ _ _ _ _ _ h1 h2
  · intro c4
    have h1 := h1.2 c4
    have h2 := h2.2 c4
    obtain ⟨c5, h1⟩ := h1
    obtain ⟨_, h2⟩ := h2
    refine ⟨c5, ?_⟩
    obtain ⟨b6, e7, h1⟩ := h1
    obtain ⟨b8, e9, h2⟩ := h2
    cases e7.symm.trans e9
    refine ⟨b6, e7, ?_⟩
    obtain ⟨c10, h1⟩ := h1
    obtain ⟨_, h2⟩ := h2
    refine ⟨c10, ?_⟩
    refine cm_X10_begins h1 h2 (fun x11 x12 h1 h2 g13 => ?_)
    have h1 := h1 g13
    have h2 := h2 g13
    refine ⟨?_, ?_⟩
    · intro c14
      have h1 := h1.1 c14
      have h2 := h2.1 c14
      obtain ⟨b15, e16, h1⟩ := h1
      obtain ⟨b17, e18, h2⟩ := h2
      cases e16.symm.trans e18
      refine ⟨b15, e16, ?_⟩
      obtain ⟨c19, h1⟩ := h1
      obtain ⟨_, h2⟩ := h2
      refine ⟨c19, ?_⟩
      obtain ⟨b20, e21, h1⟩ := h1
      obtain ⟨b22, e23, h2⟩ := h2
      cases e21.symm.trans e23
      refine ⟨b20, e21, ?_⟩
      obtain ⟨c24, h1⟩ := h1
      obtain ⟨_, h2⟩ := h2
      refine ⟨c24, ?_⟩
      obtain ⟨c25, h1⟩ := h1
      obtain ⟨_, h2⟩ := h2
      refine ⟨c25, ?_⟩
      intro x27 e26
      have h1 := h1 x27 e26
      have h2 := h2 x27 e26
      exact cm_X11_tries_53 h1 h2 hq hX3 hX18
    · intro c28
      have h1 := h1.2 c28
      have h2 := h2.2 c28
      exact cm_X11_tries_146 h1 h2 hq hX3 hX18
theorem fd_X11_tries_18 {Q : HS → Prop} {X3 : Nat → Int32 → Int32 → Int32 → Int32 → Int32 → HS → Prop} {v0 : Nat} {v1 : Int32} {v2 : Int32} {v3 : Int32} {v4 : Int32} {v5 : Int32} {v6 : Int32} {S : HS} (h : B_X11_tries_18 Q X3 (P_X11_tries_18 Q X3) v0 v1 v2 v3 v4 v5 v6 S) : P_X11_tries_18 Q X3 v0 v1 v2 v3 v4 v5 v6 S := fun X hX => hX v0 v1 v2 v3 v4 v5 v6 S (cmB_X11_tries_18 h h (fun _ a _ => a) (fun _ _ _ _ _ _ _ a _ => a) (fun _ _ _ _ _ _ _ _ hp _ => hp X hX))
theorem uf_X11_tries_18 {Q : HS → Prop} {X3 : Nat → Int32 → Int32 → Int32 → Int32 → Int32 → HS → Prop} {v0 : Nat} {v1 : Int32} {v2 : Int32} {v3 : Int32} {v4 : Int32} {v5 : Int32} {v6 : Int32} {S : HS} (h : P_X11_tries_18 Q X3 v0 v1 v2 v3 v4 v5 v6 S) : B_X11_tries_18 Q X3 (P_X11_tries_18 Q X3) v0 v1 v2 v3 v4 v5 v6 S := h (fun v0 v1 v2 v3 v4 v5 v6 S => B_X11_tries_18 Q X3 (P_X11_tries_18 Q X3) v0 v1 v2 v3 v4 v5 v6 S) (fun v0 v1 v2 v3 v4 v5 v6 S hB => cmB_X11_tries_18 hB hB (fun _ a _ => a) (fun _ _ _ _ _ _ _ a _ => a) (fun _ _ _ _ _ _ _ _ hb _ => fd_X11_tries_18 hb))
theorem cm_X11_tries_18 {Q1 Q2 Q3 : HS → Prop} {X3_1 X3_2 X3_3 : Nat → Int32 → Int32 → Int32 → Int32 → Int32 → HS → Prop} {v0 : Nat} {v1 : Int32} {v2 : Int32} {v3 : Int32} {v4 : Int32} {v5 : Int32} {v6 : Int32} {S : HS} (h1 : P_X11_tries_18 Q1 X3_1 v0 v1 v2 v3 v4 v5 v6 S) (h2 : P_X11_tries_18 Q2 X3_2 v0 v1 v2 v3 v4 v5 v6 S) (hq : ∀ (T : HS), Q1 T → Q2 T → Q3 T) (hX3 : ∀ (u0 : Nat) (u1 : Int32) (u2 : Int32) (u3 : Int32) (u4 : Int32) (u5 : Int32) (u6 : HS), X3_1 u0 u1 u2 u3 u4 u5 u6 → X3_2 u0 u1 u2 u3 u4 u5 u6 → X3_3 u0 u1 u2 u3 u4 u5 u6) : P_X11_tries_18 Q3 X3_3 v0 v1 v2 v3 v4 v5 v6 S := h1 (fun v0 v1 v2 v3 v4 v5 v6 S => P_X11_tries_18 Q2 X3_2 v0 v1 v2 v3 v4 v5 v6 S → P_X11_tries_18 Q3 X3_3 v0 v1 v2 v3 v4 v5 v6 S) (fun v0 v1 v2 v3 v4 v5 v6 S hB hp => fd_X11_tries_18 (cmB_X11_tries_18 hB (uf_X11_tries_18 hp) hq hX3 (fun _ _ _ _ _ _ _ _ hx hp => hx hp))) h2
set_option maxRecDepth 20000 in
set_option maxHeartbeats 1000000 in
theorem cmB_X11_tries_3 {Q1 Q2 Q3 : HS → Prop} {X3_1 X3_2 X3_3 : Nat → Int32 → Int32 → Int32 → Int32 → Int32 → HS → Prop} {v0 : Nat} {v1 : Int32} {v2 : Int32} {v3 : Int32} {v4 : Int32} {v5 : Int32} {S : HS} (h1 : B_X11_tries_3 Q1 X3_1 v0 v1 v2 v3 v4 v5 S) (h2 : B_X11_tries_3 Q2 X3_2 v0 v1 v2 v3 v4 v5 S) (hq : ∀ (T : HS), Q1 T → Q2 T → Q3 T) (hX3 : ∀ (u0 : Nat) (u1 : Int32) (u2 : Int32) (u3 : Int32) (u4 : Int32) (u5 : Int32) (u6 : HS), X3_1 u0 u1 u2 u3 u4 u5 u6 → X3_2 u0 u1 u2 u3 u4 u5 u6 → X3_3 u0 u1 u2 u3 u4 u5 u6) : B_X11_tries_3 Q3 X3_3 v0 v1 v2 v3 v4 v5 S := by
  delta B_X11_tries_3 at h1 h2 ⊢
  obtain ⟨c1, h1⟩ := h1
  obtain ⟨_, h2⟩ := h2
  refine ⟨c1, ?_⟩
  obtain ⟨b2, e3, h1⟩ := h1
  obtain ⟨b4, e5, h2⟩ := h2
  cases e3.symm.trans e5
  refine ⟨b2, e3, ?_⟩
  obtain ⟨c6, h1⟩ := h1
  obtain ⟨_, h2⟩ := h2
  refine ⟨c6, ?_⟩
  intro x8 e7
  have h1 := h1 x8 e7
  have h2 := h2 x8 e7
  refine ⟨?_, ?_⟩
  · intro c9
    have h1 := h1.1 c9
    have h2 := h2.1 c9
    refine cm_X11_canWait h1 h2 (fun x10 x11 h1 h2 g12 g13 => ?_)
    have h1 := h1 g12 g13
    have h2 := h2 g12 g13
    refine ⟨?_, ?_⟩
    · intro c14
      have h1 := h1.1 c14
      have h2 := h2.1 c14
      exact hq _ h1 h2
    · intro c15
      have h1 := h1.2 c15
      have h2 := h2.2 c15
      refine ⟨?_, ?_⟩
      · intro c16
        have h1 := h1.1 c16
        have h2 := h2.1 c16
        exact hq _ h1 h2
      · intro c17
        have h1 := h1.2 c17
        have h2 := h2.2 c17
        refine cm_X11_spotOf h1 h2 (fun x18 x19 h1 h2 g20 => ?_)
        have h1 := h1 g20
        have h2 := h2 g20
        refine cm_X11_spotOf h1 h2 (fun x21 x22 h1 h2 g23 => ?_)
        have h1 := h1 g23
        have h2 := h2 g23
        refine cm_X11_waitsOf h1 h2 (fun x24 x25 h1 h2 g26 => ?_)
        have h1 := h1 g26
        have h2 := h2 g26
        refine cm_X11_takes h1 h2 (fun x27 h1 h2 g28 => ?_)
        have h1 := h1 g28
        have h2 := h2 g28
        exact hq _ h1 h2
  · intro c29
    have h1 := h1.2 c29
    have h2 := h2.2 c29
    exact cm_X11_tries_18 h1 h2 hq hX3
theorem fd_X11_tries_3 {Q : HS → Prop} {v0 : Nat} {v1 : Int32} {v2 : Int32} {v3 : Int32} {v4 : Int32} {v5 : Int32} {S : HS} (h : B_X11_tries_3 Q (P_X11_tries_3 Q) v0 v1 v2 v3 v4 v5 S) : P_X11_tries_3 Q v0 v1 v2 v3 v4 v5 S := fun X hX => hX v0 v1 v2 v3 v4 v5 S (cmB_X11_tries_3 h h (fun _ a _ => a) (fun _ _ _ _ _ _ _ hp _ => hp X hX))
theorem uf_X11_tries_3 {Q : HS → Prop} {v0 : Nat} {v1 : Int32} {v2 : Int32} {v3 : Int32} {v4 : Int32} {v5 : Int32} {S : HS} (h : P_X11_tries_3 Q v0 v1 v2 v3 v4 v5 S) : B_X11_tries_3 Q (P_X11_tries_3 Q) v0 v1 v2 v3 v4 v5 S := h (fun v0 v1 v2 v3 v4 v5 S => B_X11_tries_3 Q (P_X11_tries_3 Q) v0 v1 v2 v3 v4 v5 S) (fun v0 v1 v2 v3 v4 v5 S hB => cmB_X11_tries_3 hB hB (fun _ a _ => a) (fun _ _ _ _ _ _ _ hb _ => fd_X11_tries_3 hb))
theorem cm_X11_tries_3 {Q1 Q2 Q3 : HS → Prop} {v0 : Nat} {v1 : Int32} {v2 : Int32} {v3 : Int32} {v4 : Int32} {v5 : Int32} {S : HS} (h1 : P_X11_tries_3 Q1 v0 v1 v2 v3 v4 v5 S) (h2 : P_X11_tries_3 Q2 v0 v1 v2 v3 v4 v5 S) (hq : ∀ (T : HS), Q1 T → Q2 T → Q3 T) : P_X11_tries_3 Q3 v0 v1 v2 v3 v4 v5 S := h1 (fun v0 v1 v2 v3 v4 v5 S => P_X11_tries_3 Q2 v0 v1 v2 v3 v4 v5 S → P_X11_tries_3 Q3 v0 v1 v2 v3 v4 v5 S) (fun v0 v1 v2 v3 v4 v5 S hB hp => fd_X11_tries_3 (cmB_X11_tries_3 hB (uf_X11_tries_3 hp) hq (fun _ _ _ _ _ _ _ hx hp => hx hp))) h2
set_option maxRecDepth 20000 in
set_option maxHeartbeats 1000000 in
theorem cm_X11_tries_0 {Q1 Q2 Q3 : HS → Prop} {v0 : Nat} {v1 : Int32} {v2 : Int32} {v3 : Int32} {v4 : Int32} {S : HS} (h1 : P_X11_tries_0 Q1 v0 v1 v2 v3 v4 S) (h2 : P_X11_tries_0 Q2 v0 v1 v2 v3 v4 S) (hq : ∀ (T : HS), Q1 T → Q2 T → Q3 T) : P_X11_tries_0 Q3 v0 v1 v2 v3 v4 S := by
  delta P_X11_tries_0 at h1 h2 ⊢
  exact cm_X11_tries_3 h1 h2 hq
theorem cm_X11_tries {Q1 Q2 Q3 : HS → Prop} {v0 : Nat} {v1 : Int32} {v2 : Int32} {v3 : Int32} {v4 : Int32} {S : HS} (h1 : P_X11_tries v0 v1 v2 v3 v4 Q1 S) (h2 : P_X11_tries v0 v1 v2 v3 v4 Q2 S) (hq : ∀ (T : HS), Q1 T → Q2 T → Q3 T) : P_X11_tries v0 v1 v2 v3 v4 Q3 S := cm_X11_tries_0 h1 h2 hq
end
