section
set_option maxHeartbeats 200000 in
theorem qw0 {z0 : Int32} {z1 : Int32} {z2 : Int32} {z3 : Int32} {z4 : Int32} {z5 : Int32} {z6 : Int32} (h0 : ¬ z1 < 0) (h1 : (0 : Int32) ≤ z2 ∧ z2 ≤ (4 : Int32)) (h2 : ¬ z2 ≤ z1) (h3 : ¬ z3 < 0) (h4 : (0 : Int32) ≤ z4 ∧ z4 ≤ (8 : Int32)) (h5 : ¬ z4 ≤ z3) (h6 : ¬ z5 < 0) (h7 : (0 : Int32) ≤ z6 ∧ z6 ≤ (8 : Int32)) (h8 : z6 = z4) (h9 : ¬ z6 ≤ z5) (h10 : ¬ z0 < (0 : Int32)) (h11 : ¬ (400 : Int32) < z0) : 0 ≤ z0 ∧ z0 ≤ 400 := by first | (clear h0 h1 h2 h3 h4 h5 h6 h7 h8 h9; lia) | lia
set_option maxHeartbeats 200000 in
theorem qw1 {z0 : Int32} {z1 : Int32} {z2 : Int32} {z3 : Int32} {z4 : Int32} {z5 : Int32} {z6 : Int32} (h0 : ¬ z0 < 0) (h1 : (0 : Int32) ≤ z1 ∧ z1 ≤ (4 : Int32)) (h2 : ¬ z1 ≤ z0) (h3 : ¬ z2 < 0) (h4 : (0 : Int32) ≤ z3 ∧ z3 ≤ (8 : Int32)) (h5 : ¬ z3 ≤ z2) (h6 : ¬ z4 < 0) (h7 : (0 : Int32) ≤ z5 ∧ z5 ≤ (8 : Int32)) (h8 : z5 = z3) (h9 : ¬ z5 ≤ z4) (h10 : ¬ z6 < (0 : Int32)) (h11 : ¬ (400 : Int32) < z6) : 0 ≤ z0 := by first | (clear h3 h4 h5 h6 h7 h8 h9 h10 h11; lia) | lia
set_option maxHeartbeats 200000 in
theorem qw2 {z0 : Int32} {z1 : Int32} {z2 : Int32} {z3 : Int32} {z4 : Int32} {z5 : Int32} {z6 : Int32} (h0 : ¬ z0 < 0) (h1 : (0 : Int32) ≤ z1 ∧ z1 ≤ (4 : Int32)) (h2 : ¬ z1 ≤ z0) (h3 : ¬ z2 < 0) (h4 : (0 : Int32) ≤ z3 ∧ z3 ≤ (8 : Int32)) (h5 : ¬ z3 ≤ z2) (h6 : ¬ z4 < 0) (h7 : (0 : Int32) ≤ z5 ∧ z5 ≤ (8 : Int32)) (h8 : z5 = z3) (h9 : ¬ z5 ≤ z4) (h10 : ¬ z6 < (0 : Int32)) (h11 : ¬ (400 : Int32) < z6) : z0 < z1 := by first | (clear h3 h4 h5 h6 h7 h8 h9 h10 h11; lia) | lia
set_option maxHeartbeats 200000 in
theorem qw3 {z0 : Int32} {z1 : Int32} {z2 : Int32} {z3 : Int32} {z4 : Int32} {z5 : Int32} {z6 : Int32} (h0 : ¬ z0 < 0) (h1 : (0 : Int32) ≤ z1 ∧ z1 ≤ (4 : Int32)) (h2 : ¬ z1 ≤ z0) (h3 : ¬ z2 < 0) (h4 : (0 : Int32) ≤ z3 ∧ z3 ≤ (8 : Int32)) (h5 : ¬ z3 ≤ z2) (h6 : ¬ z4 < 0) (h7 : (0 : Int32) ≤ z5 ∧ z5 ≤ (8 : Int32)) (h8 : z5 = z3) (h9 : ¬ z5 ≤ z4) (h10 : ¬ z6 < (0 : Int32)) (h11 : ¬ (400 : Int32) < z6) : -1 ≤ (-1 : Int32) ∧ (-1 : Int32) ≤ 400 ∧ 0 ≤ (0 : Int32) := by first | (clear h0 h1 h2 h3 h4 h5 h6 h7 h8 h9 h10 h11; lia) | lia
set_option maxHeartbeats 200000 in
theorem qw4 {z0 : Int32} {z1 : Int32} {z2 : Int32} {z3 : Int32} {z4 : Int32} {z5 : Int32} {z6 : Int32} {z7 : Int32} {z8 : Int32} (h0 : ¬ z1 < 0) (h1 : (0 : Int32) ≤ z2 ∧ z2 ≤ (4 : Int32)) (h2 : ¬ z2 ≤ z1) (h3 : ¬ z3 < 0) (h4 : (0 : Int32) ≤ z4 ∧ z4 ≤ (8 : Int32)) (h5 : ¬ z4 ≤ z3) (h6 : ¬ z5 < 0) (h7 : (0 : Int32) ≤ z6 ∧ z6 ≤ (8 : Int32)) (h8 : z6 = z4) (h9 : ¬ z6 ≤ z5) (h10 : ¬ z7 < (0 : Int32)) (h11 : ¬ (400 : Int32) < z7) (h12 : -1 ≤ z8 ∧ z8 ≤ 400 ∧ 0 ≤ z0) (h13 : ¬ z7 < z0) : 0 ≤ z0 ∧ z0 ≤ (400 : Int32) := by first | (clear h0 h1 h2 h3 h4 h5 h6 h7 h8 h9; lia) | lia
set_option maxHeartbeats 200000 in
theorem qw5 {z0 : Int32} {z1 : Int32} {z2 : Int32} {z3 : Int32} {z4 : Int32} {z5 : Int32} {z6 : Int32} {z7 : Int32} {z8 : Int32} (h0 : ¬ z1 < 0) (h1 : (0 : Int32) ≤ z2 ∧ z2 ≤ (4 : Int32)) (h2 : ¬ z2 ≤ z1) (h3 : ¬ z0 < 0) (h4 : (0 : Int32) ≤ z3 ∧ z3 ≤ (8 : Int32)) (h5 : ¬ z3 ≤ z0) (h6 : ¬ z4 < 0) (h7 : (0 : Int32) ≤ z5 ∧ z5 ≤ (8 : Int32)) (h8 : z5 = z3) (h9 : ¬ z5 ≤ z4) (h10 : ¬ z6 < (0 : Int32)) (h11 : ¬ (400 : Int32) < z6) (h12 : -1 ≤ z7 ∧ z7 ≤ 400 ∧ 0 ≤ z8) (h13 : ¬ z6 < z8) : 0 ≤ z0 ∧ z0 < (8 : Int32) := by first | (clear h0 h1 h2 h10 h11 h12 h13; lia) | lia
set_option maxHeartbeats 200000 in
theorem qw6 {z0 : Int32} {z1 : Int32} {z2 : Int32} {z3 : Int32} {z4 : Int32} {z5 : Int32} {z6 : Int32} {z7 : Int32} {z8 : Int32} {z9 : Int32} {z10 : Int64} (h0 : ¬ z2 < 0) (h1 : (0 : Int32) ≤ z3 ∧ z3 ≤ (4 : Int32)) (h2 : ¬ z3 ≤ z2) (h3 : ¬ z4 < 0) (h4 : (0 : Int32) ≤ z5 ∧ z5 ≤ (8 : Int32)) (h5 : ¬ z5 ≤ z4) (h6 : ¬ z6 < 0) (h7 : (0 : Int32) ≤ z7 ∧ z7 ≤ (8 : Int32)) (h8 : z7 = z5) (h9 : ¬ z7 ≤ z6) (h10 : ¬ z8 < (0 : Int32)) (h11 : ¬ (400 : Int32) < z8) (h12 : -1 ≤ z0 ∧ z0 ≤ 400 ∧ 0 ≤ z9) (h13 : ¬ z8 < z9) (h14 : (lg_cmp z10 (-1 : Int64)) = 0) (h15 : z1 = z9 + (1 : Int32)) : -1 ≤ z0 ∧ z0 ≤ 400 ∧ 0 ≤ z1 := by first | (clear h0 h1 h2 h3 h4 h5 h6 h7 h8 h9 h14; lia) | lia
set_option maxHeartbeats 200000 in
theorem qw7 {z0 : Int32} {z1 : Int32} {z2 : Int32} {z3 : Int32} {z4 : Int32} {z5 : Int32} {z6 : Int32} {z7 : Int32} {z8 : Int32} {z9 : Int32} {z10 : Int64} (h0 : ¬ z2 < 0) (h1 : (0 : Int32) ≤ z3 ∧ z3 ≤ (4 : Int32)) (h2 : ¬ z3 ≤ z2) (h3 : ¬ z4 < 0) (h4 : (0 : Int32) ≤ z5 ∧ z5 ≤ (8 : Int32)) (h5 : ¬ z5 ≤ z4) (h6 : ¬ z6 < 0) (h7 : (0 : Int32) ≤ z7 ∧ z7 ≤ (8 : Int32)) (h8 : z7 = z5) (h9 : ¬ z7 ≤ z6) (h10 : ¬ z8 < (0 : Int32)) (h11 : ¬ (400 : Int32) < z8) (h12 : -1 ≤ z9 ∧ z9 ≤ 400 ∧ 0 ≤ z0) (h13 : ¬ z8 < z0) (h14 : (lg_cmp z10 (-1 : Int64)) = 0) (h15 : z1 = z0 + (1 : Int32)) : z0 < z1 := by first | (clear h0 h1 h2 h3 h4 h5 h6 h7 h8 h9 h14; lia) | lia
set_option maxHeartbeats 200000 in
theorem qw8 {z0 : Int32} {z1 : Int32} {z2 : Int32} {z3 : Int32} {z4 : Int32} {z5 : Int32} {z6 : Int32} {z7 : Int32} {z8 : Int32} {z9 : Int64} {z10 : Int32} (h0 : ¬ z1 < 0) (h1 : (0 : Int32) ≤ z2 ∧ z2 ≤ (4 : Int32)) (h2 : ¬ z2 ≤ z1) (h3 : ¬ z3 < 0) (h4 : (0 : Int32) ≤ z4 ∧ z4 ≤ (8 : Int32)) (h5 : ¬ z4 ≤ z3) (h6 : ¬ z5 < 0) (h7 : (0 : Int32) ≤ z6 ∧ z6 ≤ (8 : Int32)) (h8 : z6 = z4) (h9 : ¬ z6 ≤ z5) (h10 : ¬ z7 < (0 : Int32)) (h11 : ¬ (400 : Int32) < z7) (h12 : -1 ≤ z8 ∧ z8 ≤ 400 ∧ 0 ≤ z0) (h13 : ¬ z7 < z0) (h14 : (lg_cmp z9 (-1 : Int64)) = 0) (h15 : z10 = z0 + (1 : Int32)) : z0 < (2147483647 : Int32) := by first | (clear h0 h1 h2 h3 h4 h5 h6 h7 h8 h9 h14; lia) | lia
set_option maxHeartbeats 200000 in
theorem qw9 {z0 : Int32} {z1 : Int32} {z2 : Int32} {z3 : Int32} {z4 : Int32} {z5 : Int32} {z6 : Int32} {z7 : Int32} {z8 : Int32} {z9 : Int32} {z10 : Int64} (h0 : ¬ z2 < 0) (h1 : (0 : Int32) ≤ z3 ∧ z3 ≤ (4 : Int32)) (h2 : ¬ z3 ≤ z2) (h3 : ¬ z4 < 0) (h4 : (0 : Int32) ≤ z5 ∧ z5 ≤ (8 : Int32)) (h5 : ¬ z5 ≤ z4) (h6 : ¬ z6 < 0) (h7 : (0 : Int32) ≤ z7 ∧ z7 ≤ (8 : Int32)) (h8 : z7 = z5) (h9 : ¬ z7 ≤ z6) (h10 : ¬ z8 < (0 : Int32)) (h11 : ¬ (400 : Int32) < z8) (h12 : -1 ≤ z9 ∧ z9 ≤ 400 ∧ 0 ≤ z0) (h13 : ¬ z8 < z0) (h14 : ¬ (lg_cmp z10 (-1 : Int64)) = 0) (h15 : z9 = (-1 : Int32)) (h16 : z1 = z0 + (1 : Int32)) : -1 ≤ z0 ∧ z0 ≤ 400 ∧ 0 ≤ z1 := by first | (clear h0 h1 h2 h3 h4 h5 h6 h7 h8 h9 h14; lia) | lia
set_option maxHeartbeats 200000 in
theorem qw10 {z0 : Int32} {z1 : Int32} {z2 : Int32} {z3 : Int32} {z4 : Int32} {z5 : Int32} {z6 : Int32} {z7 : Int32} {z8 : Int32} {z9 : Int32} {z10 : Int64} (h0 : ¬ z2 < 0) (h1 : (0 : Int32) ≤ z3 ∧ z3 ≤ (4 : Int32)) (h2 : ¬ z3 ≤ z2) (h3 : ¬ z4 < 0) (h4 : (0 : Int32) ≤ z5 ∧ z5 ≤ (8 : Int32)) (h5 : ¬ z5 ≤ z4) (h6 : ¬ z6 < 0) (h7 : (0 : Int32) ≤ z7 ∧ z7 ≤ (8 : Int32)) (h8 : z7 = z5) (h9 : ¬ z7 ≤ z6) (h10 : ¬ z8 < (0 : Int32)) (h11 : ¬ (400 : Int32) < z8) (h12 : -1 ≤ z9 ∧ z9 ≤ 400 ∧ 0 ≤ z0) (h13 : ¬ z8 < z0) (h14 : ¬ (lg_cmp z10 (-1 : Int64)) = 0) (h15 : z9 = (-1 : Int32)) (h16 : z1 = z0 + (1 : Int32)) : z0 < z1 := by first | (clear h0 h1 h2 h3 h4 h5 h6 h7 h8 h9 h14; lia) | lia
set_option maxHeartbeats 200000 in
theorem qw11 {z0 : Int32} {z1 : Int32} {z2 : Int32} {z3 : Int32} {z4 : Int32} {z5 : Int32} {z6 : Int32} {z7 : Int32} {z8 : Int32} {z9 : Int64} {z10 : Int32} (h0 : ¬ z1 < 0) (h1 : (0 : Int32) ≤ z2 ∧ z2 ≤ (4 : Int32)) (h2 : ¬ z2 ≤ z1) (h3 : ¬ z3 < 0) (h4 : (0 : Int32) ≤ z4 ∧ z4 ≤ (8 : Int32)) (h5 : ¬ z4 ≤ z3) (h6 : ¬ z5 < 0) (h7 : (0 : Int32) ≤ z6 ∧ z6 ≤ (8 : Int32)) (h8 : z6 = z4) (h9 : ¬ z6 ≤ z5) (h10 : ¬ z7 < (0 : Int32)) (h11 : ¬ (400 : Int32) < z7) (h12 : -1 ≤ z8 ∧ z8 ≤ 400 ∧ 0 ≤ z0) (h13 : ¬ z7 < z0) (h14 : ¬ (lg_cmp z9 (-1 : Int64)) = 0) (h15 : z8 = (-1 : Int32)) (h16 : z10 = z0 + (1 : Int32)) : z0 < (2147483647 : Int32) := by first | (clear h0 h1 h2 h3 h4 h5 h6 h7 h8 h9 h14; lia) | lia
set_option maxHeartbeats 200000 in
theorem qw12 {z0 : Int32} {z1 : Int32} {z2 : Int32} {z3 : Int32} {z4 : Int32} {z5 : Int32} {z6 : Int32} {z7 : Int32} {z8 : Int32} {z9 : Int64} (h0 : ¬ z1 < 0) (h1 : (0 : Int32) ≤ z2 ∧ z2 ≤ (4 : Int32)) (h2 : ¬ z2 ≤ z1) (h3 : ¬ z3 < 0) (h4 : (0 : Int32) ≤ z4 ∧ z4 ≤ (8 : Int32)) (h5 : ¬ z4 ≤ z3) (h6 : ¬ z5 < 0) (h7 : (0 : Int32) ≤ z6 ∧ z6 ≤ (8 : Int32)) (h8 : z6 = z4) (h9 : ¬ z6 ≤ z5) (h10 : ¬ z7 < (0 : Int32)) (h11 : ¬ (400 : Int32) < z7) (h12 : -1 ≤ z8 ∧ z8 ≤ 400 ∧ 0 ≤ z0) (h13 : ¬ z7 < z0) (h14 : ¬ (lg_cmp z9 (-1 : Int64)) = 0) (h15 : ¬ z8 = (-1 : Int32)) : 0 ≤ z0 ∧ z0 ≤ (400 : Int32) := by first | (clear h0 h1 h2 h3 h4 h5 h6 h7 h8 h9 h14; lia) | lia
set_option maxHeartbeats 200000 in
theorem qw13 {z0 : Int32} {z1 : Int32} {z2 : Int32} {z3 : Int32} {z4 : Int32} {z5 : Int32} {z6 : Int32} {z7 : Int32} {z8 : Int32} {z9 : Int64} (h0 : ¬ z1 < 0) (h1 : (0 : Int32) ≤ z2 ∧ z2 ≤ (4 : Int32)) (h2 : ¬ z2 ≤ z1) (h3 : ¬ z0 < 0) (h4 : (0 : Int32) ≤ z3 ∧ z3 ≤ (8 : Int32)) (h5 : ¬ z3 ≤ z0) (h6 : ¬ z4 < 0) (h7 : (0 : Int32) ≤ z5 ∧ z5 ≤ (8 : Int32)) (h8 : z5 = z3) (h9 : ¬ z5 ≤ z4) (h10 : ¬ z6 < (0 : Int32)) (h11 : ¬ (400 : Int32) < z6) (h12 : -1 ≤ z7 ∧ z7 ≤ 400 ∧ 0 ≤ z8) (h13 : ¬ z6 < z8) (h14 : ¬ (lg_cmp z9 (-1 : Int64)) = 0) (h15 : ¬ z7 = (-1 : Int32)) : 0 ≤ z0 ∧ z0 < (8 : Int32) := by first | (clear h0 h1 h2 h10 h11 h12 h13 h14 h15; lia) | lia
set_option maxHeartbeats 200000 in
theorem qw14 {z0 : Int32} {z1 : Int32} {z2 : Int32} {z3 : Int32} {z4 : Int32} {z5 : Int32} {z6 : Int32} {z7 : Int32} {z8 : Int32} {z9 : Int64} (h0 : ¬ z1 < 0) (h1 : (0 : Int32) ≤ z2 ∧ z2 ≤ (4 : Int32)) (h2 : ¬ z2 ≤ z1) (h3 : ¬ z3 < 0) (h4 : (0 : Int32) ≤ z4 ∧ z4 ≤ (8 : Int32)) (h5 : ¬ z4 ≤ z3) (h6 : ¬ z5 < 0) (h7 : (0 : Int32) ≤ z6 ∧ z6 ≤ (8 : Int32)) (h8 : z6 = z4) (h9 : ¬ z6 ≤ z5) (h10 : ¬ z7 < (0 : Int32)) (h11 : ¬ (400 : Int32) < z7) (h12 : -1 ≤ z0 ∧ z0 ≤ 400 ∧ 0 ≤ z8) (h13 : ¬ z7 < z8) (h14 : ¬ (lg_cmp z9 (-1 : Int64)) = 0) (h15 : ¬ z0 = (-1 : Int32)) : 0 ≤ z0 ∧ z0 ≤ (400 : Int32) := by first | (clear h0 h1 h2 h3 h4 h5 h6 h7 h8 h9 h14; lia) | lia
set_option maxHeartbeats 200000 in
theorem qw15 {z0 : Int32} {z1 : Int32} {z2 : Int32} {z3 : Int32} {z4 : Int32} {z5 : Int32} {z6 : Int32} {z7 : Int32} {z8 : Int32} {z9 : Int32} {z10 : Int64} {z11 : Int64} {z12 : Int64} (h0 : ¬ z2 < 0) (h1 : (0 : Int32) ≤ z3 ∧ z3 ≤ (4 : Int32)) (h2 : ¬ z3 ≤ z2) (h3 : ¬ z4 < 0) (h4 : (0 : Int32) ≤ z5 ∧ z5 ≤ (8 : Int32)) (h5 : ¬ z5 ≤ z4) (h6 : ¬ z6 < 0) (h7 : (0 : Int32) ≤ z7 ∧ z7 ≤ (8 : Int32)) (h8 : z7 = z5) (h9 : ¬ z7 ≤ z6) (h10 : ¬ z8 < (0 : Int32)) (h11 : ¬ (400 : Int32) < z8) (h12 : -1 ≤ z0 ∧ z0 ≤ 400 ∧ 0 ≤ z9) (h13 : ¬ z8 < z9) (h14 : ¬ (lg_cmp z10 (-1 : Int64)) = 0) (h15 : ¬ z0 = (-1 : Int32)) (h16 : 0 ≤ (lg_cmp z11 z12)) (h17 : z1 = z9 + (1 : Int32)) : -1 ≤ z0 ∧ z0 ≤ 400 ∧ 0 ≤ z1 := by first | (clear h0 h1 h2 h3 h4 h5 h6 h7 h8 h9 h14 h16; lia) | lia
set_option maxHeartbeats 200000 in
theorem qw16 {z0 : Int32} {z1 : Int32} {z2 : Int32} {z3 : Int32} {z4 : Int32} {z5 : Int32} {z6 : Int32} {z7 : Int32} {z8 : Int32} {z9 : Int32} {z10 : Int64} {z11 : Int64} {z12 : Int64} (h0 : ¬ z2 < 0) (h1 : (0 : Int32) ≤ z3 ∧ z3 ≤ (4 : Int32)) (h2 : ¬ z3 ≤ z2) (h3 : ¬ z4 < 0) (h4 : (0 : Int32) ≤ z5 ∧ z5 ≤ (8 : Int32)) (h5 : ¬ z5 ≤ z4) (h6 : ¬ z6 < 0) (h7 : (0 : Int32) ≤ z7 ∧ z7 ≤ (8 : Int32)) (h8 : z7 = z5) (h9 : ¬ z7 ≤ z6) (h10 : ¬ z8 < (0 : Int32)) (h11 : ¬ (400 : Int32) < z8) (h12 : -1 ≤ z9 ∧ z9 ≤ 400 ∧ 0 ≤ z0) (h13 : ¬ z8 < z0) (h14 : ¬ (lg_cmp z10 (-1 : Int64)) = 0) (h15 : ¬ z9 = (-1 : Int32)) (h16 : 0 ≤ (lg_cmp z11 z12)) (h17 : z1 = z0 + (1 : Int32)) : z0 < z1 := by first | (clear h0 h1 h2 h3 h4 h5 h6 h7 h8 h9 h14 h16; lia) | lia
set_option maxHeartbeats 200000 in
theorem qw17 {z0 : Int32} {z1 : Int32} {z2 : Int32} {z3 : Int32} {z4 : Int32} {z5 : Int32} {z6 : Int32} {z7 : Int32} {z8 : Int32} {z9 : Int64} {z10 : Int64} {z11 : Int64} {z12 : Int32} (h0 : ¬ z1 < 0) (h1 : (0 : Int32) ≤ z2 ∧ z2 ≤ (4 : Int32)) (h2 : ¬ z2 ≤ z1) (h3 : ¬ z3 < 0) (h4 : (0 : Int32) ≤ z4 ∧ z4 ≤ (8 : Int32)) (h5 : ¬ z4 ≤ z3) (h6 : ¬ z5 < 0) (h7 : (0 : Int32) ≤ z6 ∧ z6 ≤ (8 : Int32)) (h8 : z6 = z4) (h9 : ¬ z6 ≤ z5) (h10 : ¬ z7 < (0 : Int32)) (h11 : ¬ (400 : Int32) < z7) (h12 : -1 ≤ z8 ∧ z8 ≤ 400 ∧ 0 ≤ z0) (h13 : ¬ z7 < z0) (h14 : ¬ (lg_cmp z9 (-1 : Int64)) = 0) (h15 : ¬ z8 = (-1 : Int32)) (h16 : 0 ≤ (lg_cmp z10 z11)) (h17 : z12 = z0 + (1 : Int32)) : z0 < (2147483647 : Int32) := by first | (clear h0 h1 h2 h3 h4 h5 h6 h7 h8 h9 h14 h16; lia) | lia
set_option maxHeartbeats 200000 in
theorem qw18 {z0 : Int32} {z1 : Int32} {z2 : Int32} {z3 : Int32} {z4 : Int32} {z5 : Int32} {z6 : Int32} {z7 : Int32} {z8 : Int32} {z9 : Int32} {z10 : Int64} {z11 : Int64} {z12 : Int64} (h0 : ¬ z2 < 0) (h1 : (0 : Int32) ≤ z3 ∧ z3 ≤ (4 : Int32)) (h2 : ¬ z3 ≤ z2) (h3 : ¬ z4 < 0) (h4 : (0 : Int32) ≤ z5 ∧ z5 ≤ (8 : Int32)) (h5 : ¬ z5 ≤ z4) (h6 : ¬ z6 < 0) (h7 : (0 : Int32) ≤ z7 ∧ z7 ≤ (8 : Int32)) (h8 : z7 = z5) (h9 : ¬ z7 ≤ z6) (h10 : ¬ z8 < (0 : Int32)) (h11 : ¬ (400 : Int32) < z8) (h12 : -1 ≤ z9 ∧ z9 ≤ 400 ∧ 0 ≤ z0) (h13 : ¬ z8 < z0) (h14 : ¬ (lg_cmp z10 (-1 : Int64)) = 0) (h15 : ¬ z9 = (-1 : Int32)) (h16 : ¬ 0 ≤ (lg_cmp z11 z12)) (h17 : z1 = z0 + (1 : Int32)) : -1 ≤ z0 ∧ z0 ≤ 400 ∧ 0 ≤ z1 := by first | (clear h0 h1 h2 h3 h4 h5 h6 h7 h8 h9 h14 h16; lia) | lia
set_option maxHeartbeats 200000 in
theorem qw19 {z0 : Int32} {z1 : Int32} {z2 : Int32} {z3 : Int32} {z4 : Int32} {z5 : Int32} {z6 : Int32} {z7 : Int32} {z8 : Int32} {z9 : Int32} {z10 : Int64} {z11 : Int64} {z12 : Int64} (h0 : ¬ z2 < 0) (h1 : (0 : Int32) ≤ z3 ∧ z3 ≤ (4 : Int32)) (h2 : ¬ z3 ≤ z2) (h3 : ¬ z4 < 0) (h4 : (0 : Int32) ≤ z5 ∧ z5 ≤ (8 : Int32)) (h5 : ¬ z5 ≤ z4) (h6 : ¬ z6 < 0) (h7 : (0 : Int32) ≤ z7 ∧ z7 ≤ (8 : Int32)) (h8 : z7 = z5) (h9 : ¬ z7 ≤ z6) (h10 : ¬ z8 < (0 : Int32)) (h11 : ¬ (400 : Int32) < z8) (h12 : -1 ≤ z9 ∧ z9 ≤ 400 ∧ 0 ≤ z0) (h13 : ¬ z8 < z0) (h14 : ¬ (lg_cmp z10 (-1 : Int64)) = 0) (h15 : ¬ z9 = (-1 : Int32)) (h16 : ¬ 0 ≤ (lg_cmp z11 z12)) (h17 : z1 = z0 + (1 : Int32)) : z0 < z1 := by first | (clear h0 h1 h2 h3 h4 h5 h6 h7 h8 h9 h14 h16; lia) | lia
set_option maxHeartbeats 200000 in
theorem qw20 {z0 : Int32} {z1 : Int32} {z2 : Int32} {z3 : Int32} {z4 : Int32} {z5 : Int32} {z6 : Int32} {z7 : Int32} {z8 : Int32} {z9 : Int64} {z10 : Int64} {z11 : Int64} {z12 : Int32} (h0 : ¬ z1 < 0) (h1 : (0 : Int32) ≤ z2 ∧ z2 ≤ (4 : Int32)) (h2 : ¬ z2 ≤ z1) (h3 : ¬ z3 < 0) (h4 : (0 : Int32) ≤ z4 ∧ z4 ≤ (8 : Int32)) (h5 : ¬ z4 ≤ z3) (h6 : ¬ z5 < 0) (h7 : (0 : Int32) ≤ z6 ∧ z6 ≤ (8 : Int32)) (h8 : z6 = z4) (h9 : ¬ z6 ≤ z5) (h10 : ¬ z7 < (0 : Int32)) (h11 : ¬ (400 : Int32) < z7) (h12 : -1 ≤ z8 ∧ z8 ≤ 400 ∧ 0 ≤ z0) (h13 : ¬ z7 < z0) (h14 : ¬ (lg_cmp z9 (-1 : Int64)) = 0) (h15 : ¬ z8 = (-1 : Int32)) (h16 : ¬ 0 ≤ (lg_cmp z10 z11)) (h17 : z12 = z0 + (1 : Int32)) : z0 < (2147483647 : Int32) := by first | (clear h0 h1 h2 h3 h4 h5 h6 h7 h8 h9 h14 h16; lia) | lia
set_option maxHeartbeats 200000 in
theorem qw21 {z0 : Int32} (h0 : 0 ≤ z0 ∧ z0 ≤ 400) : -1 ≤ z0 ∧ z0 ≤ z0 := by lia
set_option maxHeartbeats 200000 in
theorem qw22 {z0 : Int32} {z1 : Int32} (h0 : 0 ≤ z1 ∧ z1 ≤ 400) (h1 : -1 ≤ z0 ∧ z0 ≤ z1) (h2 : z0 < 0) : z0 = -1 := by lia
set_option maxHeartbeats 200000 in
theorem qw23 {z0 : Int32} {z1 : Int32} (h0 : 0 ≤ z0 ∧ z0 ≤ 400) (h1 : -1 ≤ z1 ∧ z1 ≤ z0) (h2 : ¬ z1 < 0) : 0 ≤ (0 : Int32) ∧ (0 : Int32) ≤ 8 := by first | (clear h0 h1 h2; lia) | lia
set_option maxHeartbeats 200000 in
theorem qw24 {z0 : Int32} {z1 : Int32} {z2 : Int32} {z3 : Int32} {z4 : Int32} (h0 : 0 ≤ z1 ∧ z1 ≤ 400) (h1 : -1 ≤ z2 ∧ z2 ≤ z1) (h2 : ¬ z2 < 0) (h3 : 0 ≤ z3 ∧ z3 ≤ 8) (h4 : (0 : Int32) ≤ z4 ∧ z4 ≤ (8 : Int32)) (h5 : z4 ≤ z3) (h6 : z0 = z2 + (-1 : Int32)) : -1 ≤ z0 ∧ z0 ≤ z1 := by first | (clear h3 h4 h5; lia) | lia
set_option maxHeartbeats 200000 in
theorem qw25 {z0 : Int32} {z1 : Int32} {z2 : Int32} {z3 : Int32} {z4 : Int32} (h0 : 0 ≤ z2 ∧ z2 ≤ 400) (h1 : -1 ≤ z3 ∧ z3 ≤ z2) (h2 : ¬ z3 < 0) (h3 : 0 ≤ z1 ∧ z1 ≤ 8) (h4 : (0 : Int32) ≤ z0 ∧ z0 ≤ (8 : Int32)) (h5 : z0 ≤ z1) (h6 : z4 = z3 + (-1 : Int32)) : z0 ≤ z1 := by first | (clear h0 h1 h2 h6; lia) | lia
set_option maxHeartbeats 200000 in
theorem qw26 {z0 : Int32} {z1 : Int32} {z2 : Int32} {z3 : Int32} {z4 : Int32} (h0 : 0 ≤ z1 ∧ z1 ≤ 400) (h1 : -1 ≤ z2 ∧ z2 ≤ z1) (h2 : ¬ z2 < 0) (h3 : 0 ≤ z0 ∧ z0 ≤ 8) (h4 : (0 : Int32) ≤ z3 ∧ z3 ≤ (8 : Int32)) (h5 : z3 ≤ z0) (h6 : z4 = z2 + (-1 : Int32)) : 0 ≤ z0 ∧ z0 ≤ (8 : Int32) := by first | (clear h0 h1 h2 h6; lia) | lia
set_option maxHeartbeats 200000 in
theorem qw27 {z0 : Int32} {z1 : Int32} {z2 : Int32} {z3 : Int32} {z4 : Int32} (h0 : 0 ≤ z1 ∧ z1 ≤ 400) (h1 : -1 ≤ z0 ∧ z0 ≤ z1) (h2 : ¬ z0 < 0) (h3 : 0 ≤ z2 ∧ z2 ≤ 8) (h4 : (0 : Int32) ≤ z3 ∧ z3 ≤ (8 : Int32)) (h5 : z3 ≤ z2) (h6 : z4 = z0 + (-1 : Int32)) : 0 ≤ z0 ∧ z0 ≤ (400 : Int32) := by first | (clear h3 h4 h5; lia) | lia
set_option maxHeartbeats 200000 in
theorem qw28 {z0 : Int32} {z1 : Int32} {z2 : Int32} {z3 : Int32} {z4 : Int32} (h0 : 0 ≤ z2 ∧ z2 ≤ 400) (h1 : -1 ≤ z1 ∧ z1 ≤ z2) (h2 : ¬ z1 < 0) (h3 : 0 ≤ z3 ∧ z3 ≤ 8) (h4 : (0 : Int32) ≤ z4 ∧ z4 ≤ (8 : Int32)) (h5 : z4 ≤ z3) (h6 : z0 = z1 + (-1 : Int32)) : z0 = z1 - (1 : Int32) := by first | (clear h3 h4 h5; lia) | lia
set_option maxHeartbeats 200000 in
theorem qw29 {z0 : Int32} {z1 : Int32} {z2 : Int32} {z3 : Int32} {z4 : Int32} (h0 : 0 ≤ z2 ∧ z2 ≤ 400) (h1 : -1 ≤ z1 ∧ z1 ≤ z2) (h2 : ¬ z1 < 0) (h3 : 0 ≤ z3 ∧ z3 ≤ 8) (h4 : (0 : Int32) ≤ z4 ∧ z4 ≤ (8 : Int32)) (h5 : z4 ≤ z3) (h6 : z0 = z1 + (-1 : Int32)) : z0 < z1 := by first | (clear h3 h4 h5; lia) | lia
set_option maxHeartbeats 200000 in
theorem qw30 {z0 : Int32} {z1 : Int32} {z2 : Int32} {z3 : Int32} {z4 : Int32} (h0 : 0 ≤ z1 ∧ z1 ≤ 400) (h1 : -1 ≤ z0 ∧ z0 ≤ z1) (h2 : ¬ z0 < 0) (h3 : 0 ≤ z2 ∧ z2 ≤ 8) (h4 : (0 : Int32) ≤ z3 ∧ z3 ≤ (8 : Int32)) (h5 : z3 ≤ z2) (h6 : z4 = z0 + (-1 : Int32)) : (-1 : Int32) < z0 := by first | (clear h3 h4 h5; lia) | lia
set_option maxHeartbeats 200000 in
theorem qw31 {z0 : Int32} {z1 : Int32} {z2 : Int32} {z3 : Int32} {z4 : Int32} (h0 : 0 ≤ z1 ∧ z1 ≤ 400) (h1 : -1 ≤ z0 ∧ z0 ≤ z1) (h2 : ¬ z0 < 0) (h3 : 0 ≤ z2 ∧ z2 ≤ 8) (h4 : (0 : Int32) ≤ z3 ∧ z3 ≤ (8 : Int32)) (h5 : ¬ z3 ≤ z2) (h6 : ¬ z2 = z4) : 0 ≤ z0 ∧ z0 ≤ (400 : Int32) := by first | (clear h3 h4 h5 h6; lia) | lia
set_option maxHeartbeats 200000 in
theorem qw32 {z0 : Int32} {z1 : Int32} {z2 : Int32} {z3 : Int32} {z4 : Int32} (h0 : 0 ≤ z1 ∧ z1 ≤ 400) (h1 : -1 ≤ z2 ∧ z2 ≤ z1) (h2 : ¬ z2 < 0) (h3 : 0 ≤ z0 ∧ z0 ≤ 8) (h4 : (0 : Int32) ≤ z3 ∧ z3 ≤ (8 : Int32)) (h5 : ¬ z3 ≤ z0) (h6 : ¬ z0 = z4) : 0 ≤ z0 ∧ z0 < (8 : Int32) := by first | (clear h0 h1 h2; lia) | lia
set_option maxHeartbeats 200000 in
theorem qw33 {z0 : Int32} {z1 : Int32} {z2 : Int32} {z3 : Int32} {z4 : Int32} (h0 : 0 ≤ z2 ∧ z2 ≤ 400) (h1 : -1 ≤ z0 ∧ z0 ≤ z2) (h2 : ¬ z0 < 0) (h3 : 0 ≤ z1 ∧ z1 ≤ 8) (h4 : (0 : Int32) ≤ z3 ∧ z3 ≤ (8 : Int32)) (h5 : ¬ z3 ≤ z1) (h6 : ¬ z1 = z4) : ((8 : Int32) * z0) + z1 = (8 : Int32) * z0 + z1 := by lia
set_option maxHeartbeats 200000 in
theorem qw34 {z0 : Int32} {z1 : Int32} {z2 : Int32} {z3 : Int32} {z4 : Int32} (h0 : 0 ≤ z0 ∧ z0 ≤ 400) (h1 : -1 ≤ z1 ∧ z1 ≤ z0) (h2 : ¬ z1 < 0) (h3 : 0 ≤ z2 ∧ z2 ≤ 8) (h4 : (0 : Int32) ≤ z3 ∧ z3 ≤ (8 : Int32)) (h5 : ¬ z3 ≤ z2) (h6 : ¬ z2 = z4) : z0 ≤ (400 : Int32) := by first | (clear h3 h4 h5 h6; lia) | lia
set_option maxHeartbeats 200000 in
theorem qw35 {z0 : Int32} {z1 : Int32} {z2 : Int32} {z3 : Int32} {z4 : Int32} {z5 : Int32} (h0 : 0 ≤ z1 ∧ z1 ≤ 400) (h1 : -1 ≤ z2 ∧ z2 ≤ z1) (h2 : ¬ z2 < 0) (h3 : 0 ≤ z3 ∧ z3 ≤ 8) (h4 : (0 : Int32) ≤ z4 ∧ z4 ≤ (8 : Int32)) (h5 : ¬ z4 ≤ z3) (h6 : ¬ z3 = z5) (h7 : z3 = z5) (h8 : z0 = z3 + (1 : Int32)) : 0 ≤ z0 ∧ z0 ≤ 8 := by first | (clear h0 h1 h2; lia) | lia
set_option maxHeartbeats 200000 in
theorem qw36 {z0 : Int32} {z1 : Int32} {z2 : Int32} {z3 : Int32} {z4 : Int32} {z5 : Int32} (h0 : 0 ≤ z2 ∧ z2 ≤ 400) (h1 : -1 ≤ z3 ∧ z3 ≤ z2) (h2 : ¬ z3 < 0) (h3 : 0 ≤ z1 ∧ z1 ≤ 8) (h4 : (0 : Int32) ≤ z4 ∧ z4 ≤ (8 : Int32)) (h5 : ¬ z4 ≤ z1) (h6 : ¬ z1 = z5) (h7 : z1 = z5) (h8 : z0 = z1 + (1 : Int32)) : z0 - (1 : Int32) = z1 := by first | (clear h0 h1 h2; lia) | lia
set_option maxHeartbeats 200000 in
theorem qw37 {z0 : Int32} {z1 : Int32} {z2 : Int32} {z3 : Int32} {z4 : Int32} {z5 : Int32} (h0 : 0 ≤ z2 ∧ z2 ≤ 400) (h1 : -1 ≤ z3 ∧ z3 ≤ z2) (h2 : ¬ z3 < 0) (h3 : 0 ≤ z0 ∧ z0 ≤ 8) (h4 : (0 : Int32) ≤ z4 ∧ z4 ≤ (8 : Int32)) (h5 : ¬ z4 ≤ z0) (h6 : ¬ z0 = z5) (h7 : z0 = z5) (h8 : z1 = z0 + (1 : Int32)) : z0 < z1 := by first | (clear h0 h1 h2; lia) | lia
set_option maxHeartbeats 200000 in
theorem qw38 {z0 : Int32} {z1 : Int32} {z2 : Int32} {z3 : Int32} {z4 : Int32} {z5 : Int32} (h0 : 0 ≤ z1 ∧ z1 ≤ 400) (h1 : -1 ≤ z2 ∧ z2 ≤ z1) (h2 : ¬ z2 < 0) (h3 : 0 ≤ z0 ∧ z0 ≤ 8) (h4 : (0 : Int32) ≤ z3 ∧ z3 ≤ (8 : Int32)) (h5 : ¬ z3 ≤ z0) (h6 : ¬ z0 = z4) (h7 : z0 = z4) (h8 : z5 = z0 + (1 : Int32)) : z0 < (8 : Int32) := by first | (clear h0 h1 h2; lia) | lia
set_option maxHeartbeats 200000 in
theorem qw39 {z0 : Int32} {z1 : Int32} {z2 : Int32} {z3 : Int32} {z4 : Int32} (h0 : 0 ≤ z1 ∧ z1 ≤ 400) (h1 : -1 ≤ z2 ∧ z2 ≤ z1) (h2 : ¬ z2 < 0) (h3 : 0 ≤ z0 ∧ z0 ≤ 8) (h4 : (0 : Int32) ≤ z3 ∧ z3 ≤ (8 : Int32)) (h5 : ¬ z3 ≤ z0) (h6 : ¬ z0 = z4) (h7 : ¬ z0 = z4) : 0 ≤ z0 ∧ z0 < 8 := by first | (clear h0 h1 h2; lia) | lia
set_option maxHeartbeats 200000 in
theorem qw40 {z0 : Int32} {z1 : Int32} {z2 : Int32} {z3 : Int32} {z4 : Int32} (h0 : 0 ≤ z1 ∧ z1 ≤ 400) (h1 : -1 ≤ z0 ∧ z0 ≤ z1) (h2 : ¬ z0 < 0) (h3 : 0 ≤ z2 ∧ z2 ≤ 8) (h4 : (0 : Int32) ≤ z3 ∧ z3 ≤ (8 : Int32)) (h5 : ¬ z3 ≤ z2) (h6 : ¬ z2 = z4) (h7 : ¬ z2 = z4) : 0 ≤ z0 := by first | (clear h3 h4 h5 h6 h7; lia) | lia
set_option maxHeartbeats 200000 in
theorem qw41 {z0 : Int32} {z1 : Int32} {z2 : Int32} {z3 : Int32} {z4 : Int32} (h0 : 0 ≤ z0 ∧ z0 ≤ 400) (h1 : -1 ≤ z1 ∧ z1 ≤ z0) (h2 : ¬ z1 < 0) (h3 : 0 ≤ z2 ∧ z2 ≤ 8) (h4 : (0 : Int32) ≤ z3 ∧ z3 ≤ (8 : Int32)) (h5 : ¬ z3 ≤ z2) (h6 : ¬ z2 = z4) (h7 : ¬ z2 = z4) : z0 ≤ 400 := by first | (clear h3 h4 h5 h6 h7; lia) | lia
set_option maxHeartbeats 200000 in
theorem qw42 {z0 : Int32} {z1 : Int32} {z2 : Int32} {z3 : Int32} {z4 : Int32} (h0 : 0 ≤ z1 ∧ z1 ≤ 400) (h1 : -1 ≤ z0 ∧ z0 ≤ z1) (h2 : ¬ z0 < 0) (h3 : 0 ≤ z2 ∧ z2 ≤ 8) (h4 : (0 : Int32) ≤ z3 ∧ z3 ≤ (8 : Int32)) (h5 : ¬ z3 ≤ z2) (h6 : ¬ z2 = z4) (h7 : ¬ z2 = z4) : z0 ≤ z1 := by first | (clear h3 h4 h5 h6 h7; lia) | lia
set_option maxHeartbeats 200000 in
theorem qw43 {z0 : Int32} {z1 : Int32} {z2 : Int32} {z3 : Int32} {z4 : Int32} {z5 : Int32} {z6 : Int32} (h0 : 0 ≤ z1 ∧ z1 ≤ 400) (h1 : (0 : Int32) ≤ z2 ∧ z2 ≤ (4 : Int32)) (h2 : 0 ≤ z0 ∧ z0 < z2) (h3 : -1 ≤ z3 ∧ z3 ≤ z1) (h4 : ¬ z3 < 0) (h5 : 0 ≤ z4 ∧ z4 ≤ 8) (h6 : (0 : Int32) ≤ z5 ∧ z5 ≤ (8 : Int32)) (h7 : ¬ z5 ≤ z4) (h8 : ¬ z4 = z6) (h9 : ¬ z4 = z6) : 0 ≤ z0 := by first | (clear h0 h3 h4 h5 h6 h7 h8 h9; lia) | lia
set_option maxHeartbeats 200000 in
theorem qw44 {z0 : Int32} {z1 : Int32} {z2 : Int32} {z3 : Int32} {z4 : Int32} {z5 : Int32} {z6 : Int32} (h0 : 0 ≤ z2 ∧ z2 ≤ 400) (h1 : (0 : Int32) ≤ z1 ∧ z1 ≤ (4 : Int32)) (h2 : 0 ≤ z0 ∧ z0 < z1) (h3 : -1 ≤ z3 ∧ z3 ≤ z2) (h4 : ¬ z3 < 0) (h5 : 0 ≤ z4 ∧ z4 ≤ 8) (h6 : (0 : Int32) ≤ z5 ∧ z5 ≤ (8 : Int32)) (h7 : ¬ z5 ≤ z4) (h8 : ¬ z4 = z6) (h9 : ¬ z4 = z6) : z0 < z1 := by first | (clear h0 h3 h4 h5 h6 h7 h8 h9; lia) | lia
set_option maxHeartbeats 200000 in
theorem qw45 {z0 : Int32} {z1 : Int32} {z2 : Int32} {z3 : Int32} {z4 : Int32} {z5 : Int32} (h0 : 0 ≤ z1 ∧ z1 ≤ 400) (h1 : -1 ≤ z2 ∧ z2 ≤ z1) (h2 : ¬ z2 < 0) (h3 : 0 ≤ z3 ∧ z3 ≤ 8) (h4 : (0 : Int32) ≤ z4 ∧ z4 ≤ (8 : Int32)) (h5 : ¬ z4 ≤ z3) (h6 : ¬ z3 = z5) (h7 : ¬ z3 = z5) (h8 : z0 = z3 + (1 : Int32)) : 0 ≤ z0 ∧ z0 ≤ 8 := by first | (clear h0 h1 h2; lia) | lia
set_option maxHeartbeats 200000 in
theorem qw46 {z0 : Int32} {z1 : Int32} {z2 : Int32} {z3 : Int32} {z4 : Int32} {z5 : Int32} (h0 : 0 ≤ z2 ∧ z2 ≤ 400) (h1 : -1 ≤ z3 ∧ z3 ≤ z2) (h2 : ¬ z3 < 0) (h3 : 0 ≤ z1 ∧ z1 ≤ 8) (h4 : (0 : Int32) ≤ z4 ∧ z4 ≤ (8 : Int32)) (h5 : ¬ z4 ≤ z1) (h6 : ¬ z1 = z5) (h7 : ¬ z1 = z5) (h8 : z0 = z1 + (1 : Int32)) : z0 - (1 : Int32) = z1 := by first | (clear h0 h1 h2; lia) | lia
set_option maxHeartbeats 200000 in
theorem qw47 {z0 : Int32} {z1 : Int32} {z2 : Int32} {z3 : Int32} {z4 : Int32} {z5 : Int32} (h0 : 0 ≤ z2 ∧ z2 ≤ 400) (h1 : -1 ≤ z3 ∧ z3 ≤ z2) (h2 : ¬ z3 < 0) (h3 : 0 ≤ z0 ∧ z0 ≤ 8) (h4 : (0 : Int32) ≤ z4 ∧ z4 ≤ (8 : Int32)) (h5 : ¬ z4 ≤ z0) (h6 : ¬ z0 = z5) (h7 : ¬ z0 = z5) (h8 : z1 = z0 + (1 : Int32)) : z0 < z1 := by first | (clear h0 h1 h2; lia) | lia
set_option maxHeartbeats 200000 in
theorem qw48 {z0 : Int32} {z1 : Int32} {z2 : Int32} {z3 : Int32} {z4 : Int32} {z5 : Int32} (h0 : 0 ≤ z1 ∧ z1 ≤ 400) (h1 : -1 ≤ z2 ∧ z2 ≤ z1) (h2 : ¬ z2 < 0) (h3 : 0 ≤ z0 ∧ z0 ≤ 8) (h4 : (0 : Int32) ≤ z3 ∧ z3 ≤ (8 : Int32)) (h5 : ¬ z3 ≤ z0) (h6 : ¬ z0 = z4) (h7 : ¬ z0 = z4) (h8 : z5 = z0 + (1 : Int32)) : z0 < (8 : Int32) := by first | (clear h0 h1 h2; lia) | lia
set_option maxHeartbeats 200000 in
theorem qw49 {z0 : Int32} {z1 : Int32} {z2 : Int32} {z3 : Int32} {z4 : Int32} (h0 : 0 ≤ z1 ∧ z1 ≤ 400) (h1 : -1 ≤ z0 ∧ z0 ≤ z1) (h2 : ¬ z0 < 0) (h3 : 0 ≤ z2 ∧ z2 ≤ 8) (h4 : (0 : Int32) ≤ z3 ∧ z3 ≤ (8 : Int32)) (h5 : ¬ z3 ≤ z2) (h6 : z2 = z4) : 0 ≤ z0 ∧ z0 ≤ (400 : Int32) := by first | (clear h3 h4 h5 h6; lia) | lia
set_option maxHeartbeats 200000 in
theorem qw50 {z0 : Int32} {z1 : Int32} {z2 : Int32} {z3 : Int32} {z4 : Int32} (h0 : 0 ≤ z1 ∧ z1 ≤ 400) (h1 : -1 ≤ z2 ∧ z2 ≤ z1) (h2 : ¬ z2 < 0) (h3 : 0 ≤ z0 ∧ z0 ≤ 8) (h4 : (0 : Int32) ≤ z3 ∧ z3 ≤ (8 : Int32)) (h5 : ¬ z3 ≤ z0) (h6 : z0 = z4) : 0 ≤ z0 ∧ z0 < (8 : Int32) := by first | (clear h0 h1 h2; lia) | lia
set_option maxHeartbeats 200000 in
theorem qw51 {z0 : Int32} {z1 : Int32} {z2 : Int32} {z3 : Int32} {z4 : Int32} (h0 : 0 ≤ z2 ∧ z2 ≤ 400) (h1 : -1 ≤ z0 ∧ z0 ≤ z2) (h2 : ¬ z0 < 0) (h3 : 0 ≤ z1 ∧ z1 ≤ 8) (h4 : (0 : Int32) ≤ z3 ∧ z3 ≤ (8 : Int32)) (h5 : ¬ z3 ≤ z1) (h6 : z1 = z4) : ((8 : Int32) * z0) + z1 = (8 : Int32) * z0 + z1 := by lia
set_option maxHeartbeats 200000 in
theorem qw52 {z0 : Int32} {z1 : Int32} {z2 : Int32} {z3 : Int32} {z4 : Int32} (h0 : 0 ≤ z0 ∧ z0 ≤ 400) (h1 : -1 ≤ z1 ∧ z1 ≤ z0) (h2 : ¬ z1 < 0) (h3 : 0 ≤ z2 ∧ z2 ≤ 8) (h4 : (0 : Int32) ≤ z3 ∧ z3 ≤ (8 : Int32)) (h5 : ¬ z3 ≤ z2) (h6 : z2 = z4) : z0 ≤ (400 : Int32) := by first | (clear h3 h4 h5 h6; lia) | lia
set_option maxHeartbeats 200000 in
theorem qw53 {z0 : Int32} {z1 : Int32} {z2 : Int32} {z3 : Int32} {z4 : Int32} {z5 : Int32} (h0 : 0 ≤ z1 ∧ z1 ≤ 400) (h1 : -1 ≤ z2 ∧ z2 ≤ z1) (h2 : ¬ z2 < 0) (h3 : 0 ≤ z3 ∧ z3 ≤ 8) (h4 : (0 : Int32) ≤ z4 ∧ z4 ≤ (8 : Int32)) (h5 : ¬ z4 ≤ z3) (h6 : z3 = z5) (h7 : z3 = z5) (h8 : z0 = z3 + (1 : Int32)) : 0 ≤ z0 ∧ z0 ≤ 8 := by first | (clear h0 h1 h2; lia) | lia
set_option maxHeartbeats 200000 in
theorem qw54 {z0 : Int32} {z1 : Int32} {z2 : Int32} {z3 : Int32} {z4 : Int32} {z5 : Int32} (h0 : 0 ≤ z2 ∧ z2 ≤ 400) (h1 : -1 ≤ z3 ∧ z3 ≤ z2) (h2 : ¬ z3 < 0) (h3 : 0 ≤ z1 ∧ z1 ≤ 8) (h4 : (0 : Int32) ≤ z4 ∧ z4 ≤ (8 : Int32)) (h5 : ¬ z4 ≤ z1) (h6 : z1 = z5) (h7 : z1 = z5) (h8 : z0 = z1 + (1 : Int32)) : z0 - (1 : Int32) = z1 := by first | (clear h0 h1 h2; lia) | lia
set_option maxHeartbeats 200000 in
theorem qw55 {z0 : Int32} {z1 : Int32} {z2 : Int32} {z3 : Int32} {z4 : Int32} {z5 : Int32} (h0 : 0 ≤ z2 ∧ z2 ≤ 400) (h1 : -1 ≤ z3 ∧ z3 ≤ z2) (h2 : ¬ z3 < 0) (h3 : 0 ≤ z0 ∧ z0 ≤ 8) (h4 : (0 : Int32) ≤ z4 ∧ z4 ≤ (8 : Int32)) (h5 : ¬ z4 ≤ z0) (h6 : z0 = z5) (h7 : z0 = z5) (h8 : z1 = z0 + (1 : Int32)) : z0 < z1 := by first | (clear h0 h1 h2; lia) | lia
set_option maxHeartbeats 200000 in
theorem qw56 {z0 : Int32} {z1 : Int32} {z2 : Int32} {z3 : Int32} {z4 : Int32} {z5 : Int32} (h0 : 0 ≤ z1 ∧ z1 ≤ 400) (h1 : -1 ≤ z2 ∧ z2 ≤ z1) (h2 : ¬ z2 < 0) (h3 : 0 ≤ z0 ∧ z0 ≤ 8) (h4 : (0 : Int32) ≤ z3 ∧ z3 ≤ (8 : Int32)) (h5 : ¬ z3 ≤ z0) (h6 : z0 = z4) (h7 : z0 = z4) (h8 : z5 = z0 + (1 : Int32)) : z0 < (8 : Int32) := by first | (clear h0 h1 h2; lia) | lia
set_option maxHeartbeats 200000 in
theorem qw57 {z0 : Int32} {z1 : Int32} {z2 : Int32} {z3 : Int32} {z4 : Int32} (h0 : 0 ≤ z1 ∧ z1 ≤ 400) (h1 : -1 ≤ z2 ∧ z2 ≤ z1) (h2 : ¬ z2 < 0) (h3 : 0 ≤ z0 ∧ z0 ≤ 8) (h4 : (0 : Int32) ≤ z3 ∧ z3 ≤ (8 : Int32)) (h5 : ¬ z3 ≤ z0) (h6 : z0 = z4) (h7 : ¬ z0 = z4) : 0 ≤ z0 ∧ z0 < 8 := by first | (clear h0 h1 h2; lia) | lia
set_option maxHeartbeats 200000 in
theorem qw58 {z0 : Int32} {z1 : Int32} {z2 : Int32} {z3 : Int32} {z4 : Int32} (h0 : 0 ≤ z1 ∧ z1 ≤ 400) (h1 : -1 ≤ z0 ∧ z0 ≤ z1) (h2 : ¬ z0 < 0) (h3 : 0 ≤ z2 ∧ z2 ≤ 8) (h4 : (0 : Int32) ≤ z3 ∧ z3 ≤ (8 : Int32)) (h5 : ¬ z3 ≤ z2) (h6 : z2 = z4) (h7 : ¬ z2 = z4) : 0 ≤ z0 := by first | (clear h3 h4 h5 h6 h7; lia) | lia
set_option maxHeartbeats 200000 in
theorem qw59 {z0 : Int32} {z1 : Int32} {z2 : Int32} {z3 : Int32} {z4 : Int32} (h0 : 0 ≤ z0 ∧ z0 ≤ 400) (h1 : -1 ≤ z1 ∧ z1 ≤ z0) (h2 : ¬ z1 < 0) (h3 : 0 ≤ z2 ∧ z2 ≤ 8) (h4 : (0 : Int32) ≤ z3 ∧ z3 ≤ (8 : Int32)) (h5 : ¬ z3 ≤ z2) (h6 : z2 = z4) (h7 : ¬ z2 = z4) : z0 ≤ 400 := by first | (clear h3 h4 h5 h6 h7; lia) | lia
set_option maxHeartbeats 200000 in
theorem qw60 {z0 : Int32} {z1 : Int32} {z2 : Int32} {z3 : Int32} {z4 : Int32} (h0 : 0 ≤ z1 ∧ z1 ≤ 400) (h1 : -1 ≤ z0 ∧ z0 ≤ z1) (h2 : ¬ z0 < 0) (h3 : 0 ≤ z2 ∧ z2 ≤ 8) (h4 : (0 : Int32) ≤ z3 ∧ z3 ≤ (8 : Int32)) (h5 : ¬ z3 ≤ z2) (h6 : z2 = z4) (h7 : ¬ z2 = z4) : z0 ≤ z1 := by first | (clear h3 h4 h5 h6 h7; lia) | lia
set_option maxHeartbeats 200000 in
theorem qw61 {z0 : Int32} {z1 : Int32} {z2 : Int32} {z3 : Int32} {z4 : Int32} {z5 : Int32} {z6 : Int32} (h0 : 0 ≤ z1 ∧ z1 ≤ 400) (h1 : (0 : Int32) ≤ z2 ∧ z2 ≤ (4 : Int32)) (h2 : 0 ≤ z0 ∧ z0 < z2) (h3 : -1 ≤ z3 ∧ z3 ≤ z1) (h4 : ¬ z3 < 0) (h5 : 0 ≤ z4 ∧ z4 ≤ 8) (h6 : (0 : Int32) ≤ z5 ∧ z5 ≤ (8 : Int32)) (h7 : ¬ z5 ≤ z4) (h8 : z4 = z6) (h9 : ¬ z4 = z6) : 0 ≤ z0 := by first | (clear h0 h3 h4 h5 h6 h7 h8 h9; lia) | lia
set_option maxHeartbeats 200000 in
theorem qw62 {z0 : Int32} {z1 : Int32} {z2 : Int32} {z3 : Int32} {z4 : Int32} {z5 : Int32} {z6 : Int32} (h0 : 0 ≤ z2 ∧ z2 ≤ 400) (h1 : (0 : Int32) ≤ z1 ∧ z1 ≤ (4 : Int32)) (h2 : 0 ≤ z0 ∧ z0 < z1) (h3 : -1 ≤ z3 ∧ z3 ≤ z2) (h4 : ¬ z3 < 0) (h5 : 0 ≤ z4 ∧ z4 ≤ 8) (h6 : (0 : Int32) ≤ z5 ∧ z5 ≤ (8 : Int32)) (h7 : ¬ z5 ≤ z4) (h8 : z4 = z6) (h9 : ¬ z4 = z6) : z0 < z1 := by first | (clear h0 h3 h4 h5 h6 h7 h8 h9; lia) | lia
set_option maxHeartbeats 200000 in
theorem qw63 {z0 : Int32} {z1 : Int32} {z2 : Int32} {z3 : Int32} {z4 : Int32} {z5 : Int32} (h0 : 0 ≤ z1 ∧ z1 ≤ 400) (h1 : -1 ≤ z2 ∧ z2 ≤ z1) (h2 : ¬ z2 < 0) (h3 : 0 ≤ z3 ∧ z3 ≤ 8) (h4 : (0 : Int32) ≤ z4 ∧ z4 ≤ (8 : Int32)) (h5 : ¬ z4 ≤ z3) (h6 : z3 = z5) (h7 : ¬ z3 = z5) (h8 : z0 = z3 + (1 : Int32)) : 0 ≤ z0 ∧ z0 ≤ 8 := by first | (clear h0 h1 h2; lia) | lia
set_option maxHeartbeats 200000 in
theorem qw64 {z0 : Int32} {z1 : Int32} {z2 : Int32} {z3 : Int32} {z4 : Int32} {z5 : Int32} (h0 : 0 ≤ z2 ∧ z2 ≤ 400) (h1 : -1 ≤ z3 ∧ z3 ≤ z2) (h2 : ¬ z3 < 0) (h3 : 0 ≤ z1 ∧ z1 ≤ 8) (h4 : (0 : Int32) ≤ z4 ∧ z4 ≤ (8 : Int32)) (h5 : ¬ z4 ≤ z1) (h6 : z1 = z5) (h7 : ¬ z1 = z5) (h8 : z0 = z1 + (1 : Int32)) : z0 - (1 : Int32) = z1 := by first | (clear h0 h1 h2; lia) | lia
set_option maxHeartbeats 200000 in
theorem qw65 {z0 : Int32} {z1 : Int32} {z2 : Int32} {z3 : Int32} {z4 : Int32} {z5 : Int32} (h0 : 0 ≤ z2 ∧ z2 ≤ 400) (h1 : -1 ≤ z3 ∧ z3 ≤ z2) (h2 : ¬ z3 < 0) (h3 : 0 ≤ z0 ∧ z0 ≤ 8) (h4 : (0 : Int32) ≤ z4 ∧ z4 ≤ (8 : Int32)) (h5 : ¬ z4 ≤ z0) (h6 : z0 = z5) (h7 : ¬ z0 = z5) (h8 : z1 = z0 + (1 : Int32)) : z0 < z1 := by first | (clear h0 h1 h2; lia) | lia
set_option maxHeartbeats 200000 in
theorem qw66 {z0 : Int32} {z1 : Int32} {z2 : Int32} {z3 : Int32} {z4 : Int32} {z5 : Int32} (h0 : 0 ≤ z1 ∧ z1 ≤ 400) (h1 : -1 ≤ z2 ∧ z2 ≤ z1) (h2 : ¬ z2 < 0) (h3 : 0 ≤ z0 ∧ z0 ≤ 8) (h4 : (0 : Int32) ≤ z3 ∧ z3 ≤ (8 : Int32)) (h5 : ¬ z3 ≤ z0) (h6 : z0 = z4) (h7 : ¬ z0 = z4) (h8 : z5 = z0 + (1 : Int32)) : z0 < (8 : Int32) := by first | (clear h0 h1 h2; lia) | lia
set_option maxHeartbeats 200000 in
theorem qw67   : 0 ≤ (0 : Int32) := by lia
set_option maxHeartbeats 200000 in
theorem qw68 {z0 : Int32} {z1 : Int32} {z2 : Int32} (h0 : 0 ≤ z0 ∧ z0 < 8) (h1 : 0 ≤ z1) (h2 : (0 : Int32) ≤ z2 ∧ z2 ≤ (12 : Int32)) (h3 : z2 ≤ z1) : 0 ≤ z0 ∧ z0 < (8 : Int32) := by first | (clear h1 h2 h3; lia) | lia
set_option maxHeartbeats 200000 in
theorem qw69 {z0 : Int32} {z1 : Int32} {z2 : Int32} {z3 : Int32} {z4 : Int32} {z5 : Int32} (h0 : 0 ≤ z1) (h1 : z2 ≤ 400) (h2 : z1 ≤ z2) (h3 : 0 ≤ z3) (h4 : (0 : Int32) ≤ z4 ∧ z4 ≤ (12 : Int32)) (h5 : z4 ≤ z3) (h6 : ¬ z5 = 0) (h7 : ¬ z2 ≤ z1) (h8 : (0 : Int32) ≤ z0 ∧ z0 ≤ (60 : Int32)) (h9 : 1 ≤ z0) : ¬ z0 = 0 := by first | (clear h0 h1 h2 h3 h4 h5 h6 h7; lia) | lia
set_option maxHeartbeats 200000 in
theorem qw70 {z0 : Int32} {z1 : Int32} {z2 : Int32} {z3 : Int32} {z4 : Int32} (h0 : 0 ≤ z0) (h1 : z1 ≤ 400) (h2 : z0 ≤ z1) (h3 : 0 ≤ z2) (h4 : (0 : Int32) ≤ z3 ∧ z3 ≤ (12 : Int32)) (h5 : z3 ≤ z2) (h6 : ¬ z4 = 0) (h7 : ¬ z1 ≤ z0) : 0 ≤ z0 := by first | (clear h3 h4 h5 h6; lia) | lia
set_option maxHeartbeats 200000 in
theorem qw71 {z0 : Int32} {z1 : Int32} {z2 : Int32} {z3 : Int32} {z4 : Int32} {z5 : Int32} (h0 : 0 ≤ z1) (h1 : z2 ≤ 400) (h2 : z1 ≤ z2) (h3 : 0 ≤ z3) (h4 : (0 : Int32) ≤ z4 ∧ z4 ≤ (12 : Int32)) (h5 : z4 ≤ z3) (h6 : ¬ z5 = 0) (h7 : ¬ z2 ≤ z1) (h8 : (0 : Int32) ≤ z0 ∧ z0 ≤ (60 : Int32)) (h9 : 1 ≤ z0) : (1 : Int32) ≤ z0 := by first | (clear h0 h1 h2 h3 h4 h5 h6 h7; lia) | lia
set_option maxHeartbeats 200000 in
theorem qw72 {z0 : Int32} {z1 : Int32} {z2 : Int32} {z3 : Int32} {z4 : Int32} {z5 : Int32} {z6 : Int32} (h0 : 0 ≤ z0 ∧ z0 < 8) (h1 : 0 ≤ z1) (h2 : z2 ≤ 400) (h3 : z1 ≤ z2) (h4 : 0 ≤ z3) (h5 : (0 : Int32) ≤ z4 ∧ z4 ≤ (12 : Int32)) (h6 : z4 ≤ z3) (h7 : ¬ z5 = 0) (h8 : ¬ z2 ≤ z1) (h9 : 0 ≤ z6 ∧ z6 ≤ z1) : 0 ≤ z0 ∧ z0 < (8 : Int32) := by first | (clear h1 h2 h3 h4 h5 h6 h7 h8 h9; lia) | lia
set_option maxHeartbeats 200000 in
theorem qw73 {z0 : Int32} {z1 : Int32} {z2 : Int32} {z3 : Int32} {z4 : Int32} {z5 : Int32} {z6 : Int32} (h0 : 0 ≤ z0) (h1 : z1 ≤ 400) (h2 : z0 ≤ z1) (h3 : 0 ≤ z2) (h4 : (0 : Int32) ≤ z3 ∧ z3 ≤ (12 : Int32)) (h5 : z3 ≤ z2) (h6 : ¬ z4 = 0) (h7 : ¬ z1 ≤ z0) (h8 : 0 ≤ z5 ∧ z5 ≤ z0) (h9 : ¬ z6 = 0) : z0 < z1 := by first | (clear h3 h4 h5 h6 h9; lia) | lia
set_option maxHeartbeats 200000 in
theorem qw74 {z0 : Int32} {z1 : Int32} {z2 : Int32} {z3 : Int32} {z4 : Int32} {z5 : Int32} {z6 : Int32} (h0 : 0 ≤ z0) (h1 : z1 ≤ 400) (h2 : z0 ≤ z1) (h3 : 0 ≤ z2) (h4 : (0 : Int32) ≤ z3 ∧ z3 ≤ (12 : Int32)) (h5 : z3 ≤ z2) (h6 : ¬ z4 = 0) (h7 : ¬ z1 ≤ z0) (h8 : 0 ≤ z5 ∧ z5 ≤ z0) (h9 : ¬ z6 = 0) : 0 ≤ z0 ∧ z0 ≤ (400 : Int32) := by first | (clear h3 h4 h5 h6 h9; lia) | lia
set_option maxHeartbeats 200000 in
theorem qw75 {z0 : Int32} {z1 : Int32} {z2 : Int32} {z3 : Int32} {z4 : Int32} {z5 : Int32} {z6 : Int32} {z7 : Int32} (h0 : 0 ≤ z0 ∧ z0 < 8) (h1 : 0 ≤ z1) (h2 : z2 ≤ 400) (h3 : z1 ≤ z2) (h4 : 0 ≤ z3) (h5 : (0 : Int32) ≤ z4 ∧ z4 ≤ (12 : Int32)) (h6 : z4 ≤ z3) (h7 : ¬ z5 = 0) (h8 : ¬ z2 ≤ z1) (h9 : 0 ≤ z6 ∧ z6 ≤ z1) (h10 : ¬ z7 = 0) : 0 ≤ z0 ∧ z0 < (8 : Int32) := by first | (clear h1 h2 h3 h4 h5 h6 h7 h8 h9 h10; lia) | lia
set_option maxHeartbeats 200000 in
theorem qw76 {z0 : Int32} {z1 : Int32} {z2 : Int32} {z3 : Int32} {z4 : Int32} {z5 : Int32} {z6 : Int32} (h0 : 0 ≤ z1) (h1 : z0 ≤ 400) (h2 : z1 ≤ z0) (h3 : 0 ≤ z2) (h4 : (0 : Int32) ≤ z3 ∧ z3 ≤ (12 : Int32)) (h5 : z3 ≤ z2) (h6 : ¬ z4 = 0) (h7 : ¬ z0 ≤ z1) (h8 : 0 ≤ z5 ∧ z5 ≤ z1) (h9 : ¬ z6 = 0) : z0 ≤ (400 : Int32) := by first | (clear h3 h4 h5 h6 h9; lia) | lia
set_option maxHeartbeats 200000 in
theorem qw77 {z0 : Int32} {z1 : Int32} {z2 : Int32} {z3 : Int32} {z4 : Int32} {z5 : Int32} {z6 : Int32} (h0 : 0 ≤ z0) (h1 : z1 ≤ 400) (h2 : z0 ≤ z1) (h3 : 0 ≤ z2) (h4 : (0 : Int32) ≤ z3 ∧ z3 ≤ (12 : Int32)) (h5 : z3 ≤ z2) (h6 : ¬ z4 = 0) (h7 : ¬ z1 ≤ z0) (h8 : 0 ≤ z5 ∧ z5 ≤ z0) (h9 : ¬ z6 = 0) : 0 ≤ (z0 + (1 : Int32)) ∧ (z0 + (1 : Int32)) ≤ (400 : Int32) := by first | (clear h3 h4 h5 h6 h9; lia) | lia
set_option maxHeartbeats 200000 in
theorem qw78 {z0 : Int32} {z1 : Int32} {z2 : Int32} {z3 : Int32} {z4 : Int32} {z5 : Int32} {z6 : Int32} {z7 : Int32} {z8 : Int32} (h0 : 0 ≤ z0 ∧ z0 < 8) (h1 : 0 ≤ z1) (h2 : z2 ≤ 400) (h3 : z1 ≤ z2) (h4 : 0 ≤ z3) (h5 : (0 : Int32) ≤ z4 ∧ z4 ≤ (12 : Int32)) (h6 : z4 ≤ z3) (h7 : ¬ z5 = 0) (h8 : ¬ z2 ≤ z1) (h9 : 0 ≤ z6 ∧ z6 ≤ z1) (h10 : z7 = 0) (h11 : (0 : Int32) ≤ z8 ∧ z8 ≤ (6 : Int32)) (h12 : z6 < z8) : 0 ≤ z0 ∧ z0 < (8 : Int32) := by first | (clear h1 h2 h3 h4 h5 h6 h7 h8 h9 h10 h11 h12; lia) | lia
set_option maxHeartbeats 200000 in
theorem qw79 {z0 : Int32} {z1 : Int32} {z2 : Int32} {z3 : Int32} {z4 : Int32} {z5 : Int32} {z6 : Int32} {z7 : Int32} {z8 : Int32} {z9 : Int32} (h0 : 0 ≤ z1) (h1 : z2 ≤ 400) (h2 : z1 ≤ z2) (h3 : (0 : Int32) ≤ z3 ∧ z3 ≤ (4 : Int32)) (h4 : 0 ≤ z0 ∧ z0 < z3) (h5 : 0 ≤ z4) (h6 : (0 : Int32) ≤ z5 ∧ z5 ≤ (12 : Int32)) (h7 : z5 ≤ z4) (h8 : ¬ z6 = 0) (h9 : ¬ z2 ≤ z1) (h10 : 0 ≤ z7 ∧ z7 ≤ z1) (h11 : z8 = 0) (h12 : (0 : Int32) ≤ z9 ∧ z9 ≤ (6 : Int32)) (h13 : z7 < z9) : 0 ≤ z0 ∧ z0 < (4 : Int32) := by first | (clear h0 h1 h2 h5 h6 h7 h8 h9 h10 h11 h12 h13; lia) | lia
set_option maxHeartbeats 200000 in
theorem qw80 {z0 : Int32} {z1 : Int32} {z2 : Int32} {z3 : Int32} {z4 : Int32} {z5 : Int32} {z6 : Int32} {z7 : Int32} {z8 : Int32} {z9 : Int32} (h0 : 0 ≤ z1) (h1 : z2 ≤ 400) (h2 : z1 ≤ z2) (h3 : 0 ≤ z3) (h4 : (0 : Int32) ≤ z4 ∧ z4 ≤ (12 : Int32)) (h5 : z4 ≤ z3) (h6 : ¬ z5 = 0) (h7 : ¬ z2 ≤ z1) (h8 : 0 ≤ z0 ∧ z0 ≤ z1) (h9 : z6 = 0) (h10 : (0 : Int32) ≤ z7 ∧ z7 ≤ (6 : Int32)) (h11 : z0 < z7) (h12 : ¬ z8 = (3 : Int32)) (h13 : z9 ≤ (0 : Int32)) : 0 ≤ z0 ∧ z0 < (6 : Int32) := by first | (clear h3 h4 h5 h6 h9 h12 h13; lia) | lia
set_option maxHeartbeats 200000 in
theorem qw81 {z0 : Int32} {z1 : Int32} {z2 : Int32} {z3 : Int32} {z4 : Int32} {z5 : Int32} {z6 : Int32} {z7 : Int32} {z8 : Int32} {z9 : Int32} (h0 : 0 ≤ z0) (h1 : z1 ≤ 400) (h2 : z0 ≤ z1) (h3 : 0 ≤ z2) (h4 : (0 : Int32) ≤ z3 ∧ z3 ≤ (12 : Int32)) (h5 : z3 ≤ z2) (h6 : ¬ z4 = 0) (h7 : ¬ z1 ≤ z0) (h8 : 0 ≤ z5 ∧ z5 ≤ z0) (h9 : z6 = 0) (h10 : (0 : Int32) ≤ z7 ∧ z7 ≤ (6 : Int32)) (h11 : z5 < z7) (h12 : ¬ z8 = (3 : Int32)) (h13 : z9 ≤ (0 : Int32)) : z0 < z1 := by first | (clear h3 h4 h5 h6 h9 h12 h13; lia) | lia
set_option maxHeartbeats 200000 in
theorem qw82 {z0 : Int32} {z1 : Int32} {z2 : Int32} {z3 : Int32} {z4 : Int32} {z5 : Int32} {z6 : Int32} {z7 : Int32} {z8 : Int32} {z9 : Int32} (h0 : 0 ≤ z0) (h1 : z1 ≤ 400) (h2 : z0 ≤ z1) (h3 : 0 ≤ z2) (h4 : (0 : Int32) ≤ z3 ∧ z3 ≤ (12 : Int32)) (h5 : z3 ≤ z2) (h6 : ¬ z4 = 0) (h7 : ¬ z1 ≤ z0) (h8 : 0 ≤ z5 ∧ z5 ≤ z0) (h9 : z6 = 0) (h10 : (0 : Int32) ≤ z7 ∧ z7 ≤ (6 : Int32)) (h11 : z5 < z7) (h12 : ¬ z8 = (3 : Int32)) (h13 : z9 ≤ (0 : Int32)) : 0 ≤ z0 ∧ z0 ≤ (400 : Int32) := by first | (clear h3 h4 h5 h6 h9 h12 h13; lia) | lia
set_option maxHeartbeats 200000 in
theorem qw83 {z0 : Int32} {z1 : Int32} {z2 : Int32} {z3 : Int32} {z4 : Int32} {z5 : Int32} {z6 : Int32} {z7 : Int32} {z8 : Int32} {z9 : Int32} {z10 : Int32} (h0 : 0 ≤ z0 ∧ z0 < 8) (h1 : 0 ≤ z1) (h2 : z2 ≤ 400) (h3 : z1 ≤ z2) (h4 : 0 ≤ z3) (h5 : (0 : Int32) ≤ z4 ∧ z4 ≤ (12 : Int32)) (h6 : z4 ≤ z3) (h7 : ¬ z5 = 0) (h8 : ¬ z2 ≤ z1) (h9 : 0 ≤ z6 ∧ z6 ≤ z1) (h10 : z7 = 0) (h11 : (0 : Int32) ≤ z8 ∧ z8 ≤ (6 : Int32)) (h12 : z6 < z8) (h13 : ¬ z9 = (3 : Int32)) (h14 : z10 ≤ (0 : Int32)) : 0 ≤ z0 ∧ z0 < (8 : Int32) := by first | (clear h1 h2 h3 h4 h5 h6 h7 h8 h9 h10 h11 h12 h13 h14; lia) | lia
set_option maxHeartbeats 200000 in
theorem qw84 {z0 : Int32} {z1 : Int32} {z2 : Int32} {z3 : Int32} {z4 : Int32} {z5 : Int32} {z6 : Int32} {z7 : Int32} {z8 : Int32} {z9 : Int32} (h0 : 0 ≤ z1) (h1 : z0 ≤ 400) (h2 : z1 ≤ z0) (h3 : 0 ≤ z2) (h4 : (0 : Int32) ≤ z3 ∧ z3 ≤ (12 : Int32)) (h5 : z3 ≤ z2) (h6 : ¬ z4 = 0) (h7 : ¬ z0 ≤ z1) (h8 : 0 ≤ z5 ∧ z5 ≤ z1) (h9 : z6 = 0) (h10 : (0 : Int32) ≤ z7 ∧ z7 ≤ (6 : Int32)) (h11 : z5 < z7) (h12 : ¬ z8 = (3 : Int32)) (h13 : z9 ≤ (0 : Int32)) : z0 ≤ (400 : Int32) := by first | (clear h3 h4 h5 h6 h9 h12 h13; lia) | lia
set_option maxHeartbeats 200000 in
theorem qw85 {z0 : Int32} {z1 : Int32} {z2 : Int32} {z3 : Int32} {z4 : Int32} {z5 : Int32} {z6 : Int32} {z7 : Int32} {z8 : Int32} {z9 : Int32} (h0 : 0 ≤ z0) (h1 : z1 ≤ 400) (h2 : z0 ≤ z1) (h3 : 0 ≤ z2) (h4 : (0 : Int32) ≤ z3 ∧ z3 ≤ (12 : Int32)) (h5 : z3 ≤ z2) (h6 : ¬ z4 = 0) (h7 : ¬ z1 ≤ z0) (h8 : 0 ≤ z5 ∧ z5 ≤ z0) (h9 : z6 = 0) (h10 : (0 : Int32) ≤ z7 ∧ z7 ≤ (6 : Int32)) (h11 : z5 < z7) (h12 : ¬ z8 = (3 : Int32)) (h13 : z9 ≤ (0 : Int32)) : 0 ≤ (z0 + (1 : Int32)) ∧ (z0 + (1 : Int32)) ≤ (400 : Int32) := by first | (clear h3 h4 h5 h6 h9 h12 h13; lia) | lia
set_option maxHeartbeats 200000 in
theorem qw86 {z0 : Int32} {z1 : Int32} {z2 : Int32} {z3 : Int32} {z4 : Int32} {z5 : Int32} {z6 : Int32} {z7 : Int32} {z8 : Int32} {z9 : Int32} (h0 : 0 ≤ z1) (h1 : z2 ≤ 400) (h2 : z1 ≤ z2) (h3 : 0 ≤ z3) (h4 : (0 : Int32) ≤ z4 ∧ z4 ≤ (12 : Int32)) (h5 : z4 ≤ z3) (h6 : ¬ z5 = 0) (h7 : ¬ z2 ≤ z1) (h8 : 0 ≤ z0 ∧ z0 ≤ z1) (h9 : z6 = 0) (h10 : (0 : Int32) ≤ z7 ∧ z7 ≤ (6 : Int32)) (h11 : z0 < z7) (h12 : ¬ z8 = (3 : Int32)) (h13 : ¬ z9 ≤ (0 : Int32)) : 0 ≤ z0 ∧ z0 < (6 : Int32) := by first | (clear h3 h4 h5 h6 h9 h12 h13; lia) | lia
set_option maxHeartbeats 200000 in
theorem qw87 {z0 : Int32} {z1 : Int32} {z2 : Int32} {z3 : Int32} {z4 : Int32} {z5 : Int32} {z6 : Int32} {z7 : Int32} {z8 : Int32} {z9 : Int32} (h0 : 0 ≤ z0) (h1 : z1 ≤ 400) (h2 : z0 ≤ z1) (h3 : 0 ≤ z2) (h4 : (0 : Int32) ≤ z3 ∧ z3 ≤ (12 : Int32)) (h5 : z3 ≤ z2) (h6 : ¬ z4 = 0) (h7 : ¬ z1 ≤ z0) (h8 : 0 ≤ z5 ∧ z5 ≤ z0) (h9 : z6 = 0) (h10 : (0 : Int32) ≤ z7 ∧ z7 ≤ (6 : Int32)) (h11 : z5 < z7) (h12 : ¬ z8 = (3 : Int32)) (h13 : ¬ z9 ≤ (0 : Int32)) : z0 < z1 := by first | (clear h3 h4 h5 h6 h9 h12 h13; lia) | lia
set_option maxHeartbeats 200000 in
theorem qw88 {z0 : Int32} {z1 : Int32} {z2 : Int32} {z3 : Int32} {z4 : Int32} {z5 : Int32} {z6 : Int32} {z7 : Int32} {z8 : Int32} {z9 : Int32} (h0 : 0 ≤ z0) (h1 : z1 ≤ 400) (h2 : z0 ≤ z1) (h3 : 0 ≤ z2) (h4 : (0 : Int32) ≤ z3 ∧ z3 ≤ (12 : Int32)) (h5 : z3 ≤ z2) (h6 : ¬ z4 = 0) (h7 : ¬ z1 ≤ z0) (h8 : 0 ≤ z5 ∧ z5 ≤ z0) (h9 : z6 = 0) (h10 : (0 : Int32) ≤ z7 ∧ z7 ≤ (6 : Int32)) (h11 : z5 < z7) (h12 : ¬ z8 = (3 : Int32)) (h13 : ¬ z9 ≤ (0 : Int32)) : 0 ≤ z0 ∧ z0 ≤ (400 : Int32) := by first | (clear h3 h4 h5 h6 h9 h12 h13; lia) | lia
set_option maxHeartbeats 200000 in
theorem qw89 {z0 : Int32} {z1 : Int32} {z2 : Int32} {z3 : Int32} {z4 : Int32} {z5 : Int32} {z6 : Int32} {z7 : Int32} {z8 : Int32} {z9 : Int32} {z10 : Int32} (h0 : 0 ≤ z0 ∧ z0 < 8) (h1 : 0 ≤ z1) (h2 : z2 ≤ 400) (h3 : z1 ≤ z2) (h4 : 0 ≤ z3) (h5 : (0 : Int32) ≤ z4 ∧ z4 ≤ (12 : Int32)) (h6 : z4 ≤ z3) (h7 : ¬ z5 = 0) (h8 : ¬ z2 ≤ z1) (h9 : 0 ≤ z6 ∧ z6 ≤ z1) (h10 : z7 = 0) (h11 : (0 : Int32) ≤ z8 ∧ z8 ≤ (6 : Int32)) (h12 : z6 < z8) (h13 : ¬ z9 = (3 : Int32)) (h14 : ¬ z10 ≤ (0 : Int32)) : 0 ≤ z0 ∧ z0 < (8 : Int32) := by first | (clear h1 h2 h3 h4 h5 h6 h7 h8 h9 h10 h11 h12 h13 h14; lia) | lia
set_option maxHeartbeats 200000 in
theorem qw90 {z0 : Int32} {z1 : Int32} {z2 : Int32} {z3 : Int32} {z4 : Int32} {z5 : Int32} {z6 : Int32} {z7 : Int32} {z8 : Int32} {z9 : Int32} (h0 : 0 ≤ z1) (h1 : z0 ≤ 400) (h2 : z1 ≤ z0) (h3 : 0 ≤ z2) (h4 : (0 : Int32) ≤ z3 ∧ z3 ≤ (12 : Int32)) (h5 : z3 ≤ z2) (h6 : ¬ z4 = 0) (h7 : ¬ z0 ≤ z1) (h8 : 0 ≤ z5 ∧ z5 ≤ z1) (h9 : z6 = 0) (h10 : (0 : Int32) ≤ z7 ∧ z7 ≤ (6 : Int32)) (h11 : z5 < z7) (h12 : ¬ z8 = (3 : Int32)) (h13 : ¬ z9 ≤ (0 : Int32)) : z0 ≤ (400 : Int32) := by first | (clear h3 h4 h5 h6 h9 h12 h13; lia) | lia
set_option maxHeartbeats 200000 in
theorem qw91 {z0 : Int32} {z1 : Int32} {z2 : Int32} {z3 : Int32} {z4 : Int32} {z5 : Int32} {z6 : Int32} {z7 : Int32} {z8 : Int32} {z9 : Int32} (h0 : 0 ≤ z0) (h1 : z1 ≤ 400) (h2 : z0 ≤ z1) (h3 : 0 ≤ z2) (h4 : (0 : Int32) ≤ z3 ∧ z3 ≤ (12 : Int32)) (h5 : z3 ≤ z2) (h6 : ¬ z4 = 0) (h7 : ¬ z1 ≤ z0) (h8 : 0 ≤ z5 ∧ z5 ≤ z0) (h9 : z6 = 0) (h10 : (0 : Int32) ≤ z7 ∧ z7 ≤ (6 : Int32)) (h11 : z5 < z7) (h12 : ¬ z8 = (3 : Int32)) (h13 : ¬ z9 ≤ (0 : Int32)) : 0 ≤ (z0 + (1 : Int32)) ∧ (z0 + (1 : Int32)) ≤ (400 : Int32) := by first | (clear h3 h4 h5 h6 h9 h12 h13; lia) | lia
set_option maxHeartbeats 200000 in
theorem qw92 {z0 : Int32} {z1 : Int32} {z2 : Int32} {z3 : Int32} {z4 : Int32} {z5 : Int32} {z6 : Int32} {z7 : Int32} {z8 : Int32} {z9 : Int32} {z10 : Int32} (h0 : 0 ≤ z1) (h1 : z2 ≤ 400) (h2 : z1 ≤ z2) (h3 : (0 : Int32) ≤ z3 ∧ z3 ≤ (4 : Int32)) (h4 : 0 ≤ z0 ∧ z0 < z3) (h5 : 0 ≤ z4) (h6 : (0 : Int32) ≤ z5 ∧ z5 ≤ (12 : Int32)) (h7 : z5 ≤ z4) (h8 : ¬ z6 = 0) (h9 : ¬ z2 ≤ z1) (h10 : 0 ≤ z7 ∧ z7 ≤ z1) (h11 : z8 = 0) (h12 : (0 : Int32) ≤ z9 ∧ z9 ≤ (6 : Int32)) (h13 : z7 < z9) (h14 : z10 = (3 : Int32)) : 0 ≤ z0 ∧ z0 < (4 : Int32) := by first | (clear h0 h1 h2 h5 h6 h7 h8 h9 h10 h11 h12 h13 h14; lia) | lia
set_option maxHeartbeats 200000 in
theorem qw93 {z0 : Int32} {z1 : Int32} {z2 : Int32} {z3 : Int32} {z4 : Int32} {z5 : Int32} {z6 : Int32} {z7 : Int32} {z8 : Int32} {z9 : Int32} {z10 : Int32} (h0 : 0 ≤ z1) (h1 : z2 ≤ 400) (h2 : z1 ≤ z2) (h3 : 0 ≤ z3) (h4 : (0 : Int32) ≤ z4 ∧ z4 ≤ (12 : Int32)) (h5 : z4 ≤ z3) (h6 : ¬ z5 = 0) (h7 : ¬ z2 ≤ z1) (h8 : 0 ≤ z0 ∧ z0 ≤ z1) (h9 : z6 = 0) (h10 : (0 : Int32) ≤ z7 ∧ z7 ≤ (6 : Int32)) (h11 : z0 < z7) (h12 : z8 = (3 : Int32)) (h13 : z9 ≤ z10) : 0 ≤ z0 ∧ z0 < (6 : Int32) := by first | (clear h3 h4 h5 h6 h9 h12 h13; lia) | lia
set_option maxHeartbeats 200000 in
theorem qw94 {z0 : Int32} {z1 : Int32} {z2 : Int32} {z3 : Int32} {z4 : Int32} {z5 : Int32} {z6 : Int32} {z7 : Int32} {z8 : Int32} {z9 : Int32} {z10 : Int32} (h0 : 0 ≤ z0) (h1 : z1 ≤ 400) (h2 : z0 ≤ z1) (h3 : 0 ≤ z2) (h4 : (0 : Int32) ≤ z3 ∧ z3 ≤ (12 : Int32)) (h5 : z3 ≤ z2) (h6 : ¬ z4 = 0) (h7 : ¬ z1 ≤ z0) (h8 : 0 ≤ z5 ∧ z5 ≤ z0) (h9 : z6 = 0) (h10 : (0 : Int32) ≤ z7 ∧ z7 ≤ (6 : Int32)) (h11 : z5 < z7) (h12 : z8 = (3 : Int32)) (h13 : z9 ≤ z10) : z0 < z1 := by first | (clear h3 h4 h5 h6 h9 h12 h13; lia) | lia
set_option maxHeartbeats 200000 in
theorem qw95 {z0 : Int32} {z1 : Int32} {z2 : Int32} {z3 : Int32} {z4 : Int32} {z5 : Int32} {z6 : Int32} {z7 : Int32} {z8 : Int32} {z9 : Int32} {z10 : Int32} (h0 : 0 ≤ z0) (h1 : z1 ≤ 400) (h2 : z0 ≤ z1) (h3 : 0 ≤ z2) (h4 : (0 : Int32) ≤ z3 ∧ z3 ≤ (12 : Int32)) (h5 : z3 ≤ z2) (h6 : ¬ z4 = 0) (h7 : ¬ z1 ≤ z0) (h8 : 0 ≤ z5 ∧ z5 ≤ z0) (h9 : z6 = 0) (h10 : (0 : Int32) ≤ z7 ∧ z7 ≤ (6 : Int32)) (h11 : z5 < z7) (h12 : z8 = (3 : Int32)) (h13 : z9 ≤ z10) : 0 ≤ z0 ∧ z0 ≤ (400 : Int32) := by first | (clear h3 h4 h5 h6 h9 h12 h13; lia) | lia
set_option maxHeartbeats 200000 in
theorem qw96 {z0 : Int32} {z1 : Int32} {z2 : Int32} {z3 : Int32} {z4 : Int32} {z5 : Int32} {z6 : Int32} {z7 : Int32} {z8 : Int32} {z9 : Int32} {z10 : Int32} {z11 : Int32} (h0 : 0 ≤ z0 ∧ z0 < 8) (h1 : 0 ≤ z1) (h2 : z2 ≤ 400) (h3 : z1 ≤ z2) (h4 : 0 ≤ z3) (h5 : (0 : Int32) ≤ z4 ∧ z4 ≤ (12 : Int32)) (h6 : z4 ≤ z3) (h7 : ¬ z5 = 0) (h8 : ¬ z2 ≤ z1) (h9 : 0 ≤ z6 ∧ z6 ≤ z1) (h10 : z7 = 0) (h11 : (0 : Int32) ≤ z8 ∧ z8 ≤ (6 : Int32)) (h12 : z6 < z8) (h13 : z9 = (3 : Int32)) (h14 : z10 ≤ z11) : 0 ≤ z0 ∧ z0 < (8 : Int32) := by first | (clear h1 h2 h3 h4 h5 h6 h7 h8 h9 h10 h11 h12 h13 h14; lia) | lia
set_option maxHeartbeats 200000 in
theorem qw97 {z0 : Int32} {z1 : Int32} {z2 : Int32} {z3 : Int32} {z4 : Int32} {z5 : Int32} {z6 : Int32} {z7 : Int32} {z8 : Int32} {z9 : Int32} {z10 : Int32} (h0 : 0 ≤ z1) (h1 : z0 ≤ 400) (h2 : z1 ≤ z0) (h3 : 0 ≤ z2) (h4 : (0 : Int32) ≤ z3 ∧ z3 ≤ (12 : Int32)) (h5 : z3 ≤ z2) (h6 : ¬ z4 = 0) (h7 : ¬ z0 ≤ z1) (h8 : 0 ≤ z5 ∧ z5 ≤ z1) (h9 : z6 = 0) (h10 : (0 : Int32) ≤ z7 ∧ z7 ≤ (6 : Int32)) (h11 : z5 < z7) (h12 : z8 = (3 : Int32)) (h13 : z9 ≤ z10) : z0 ≤ (400 : Int32) := by first | (clear h3 h4 h5 h6 h9 h12 h13; lia) | lia
set_option maxHeartbeats 200000 in
theorem qw98 {z0 : Int32} {z1 : Int32} {z2 : Int32} {z3 : Int32} {z4 : Int32} {z5 : Int32} {z6 : Int32} {z7 : Int32} {z8 : Int32} {z9 : Int32} {z10 : Int32} (h0 : 0 ≤ z0) (h1 : z1 ≤ 400) (h2 : z0 ≤ z1) (h3 : 0 ≤ z2) (h4 : (0 : Int32) ≤ z3 ∧ z3 ≤ (12 : Int32)) (h5 : z3 ≤ z2) (h6 : ¬ z4 = 0) (h7 : ¬ z1 ≤ z0) (h8 : 0 ≤ z5 ∧ z5 ≤ z0) (h9 : z6 = 0) (h10 : (0 : Int32) ≤ z7 ∧ z7 ≤ (6 : Int32)) (h11 : z5 < z7) (h12 : z8 = (3 : Int32)) (h13 : z9 ≤ z10) : 0 ≤ (z0 + (1 : Int32)) ∧ (z0 + (1 : Int32)) ≤ (400 : Int32) := by first | (clear h3 h4 h5 h6 h9 h12 h13; lia) | lia
set_option maxHeartbeats 200000 in
theorem qw99 {z0 : Int32} {z1 : Int32} {z2 : Int32} {z3 : Int32} {z4 : Int32} {z5 : Int32} {z6 : Int32} {z7 : Int32} {z8 : Int32} {z9 : Int32} {z10 : Int32} (h0 : 0 ≤ z1) (h1 : z2 ≤ 400) (h2 : z1 ≤ z2) (h3 : 0 ≤ z3) (h4 : (0 : Int32) ≤ z4 ∧ z4 ≤ (12 : Int32)) (h5 : z4 ≤ z3) (h6 : ¬ z5 = 0) (h7 : ¬ z2 ≤ z1) (h8 : 0 ≤ z0 ∧ z0 ≤ z1) (h9 : z6 = 0) (h10 : (0 : Int32) ≤ z7 ∧ z7 ≤ (6 : Int32)) (h11 : z0 < z7) (h12 : z8 = (3 : Int32)) (h13 : ¬ z9 ≤ z10) : 0 ≤ z0 ∧ z0 < (6 : Int32) := by first | (clear h3 h4 h5 h6 h9 h12 h13; lia) | lia
set_option maxHeartbeats 200000 in
theorem qw100 {z0 : Int32} {z1 : Int32} {z2 : Int32} {z3 : Int32} {z4 : Int32} {z5 : Int32} {z6 : Int32} {z7 : Int32} {z8 : Int32} {z9 : Int32} {z10 : Int32} (h0 : 0 ≤ z0) (h1 : z1 ≤ 400) (h2 : z0 ≤ z1) (h3 : 0 ≤ z2) (h4 : (0 : Int32) ≤ z3 ∧ z3 ≤ (12 : Int32)) (h5 : z3 ≤ z2) (h6 : ¬ z4 = 0) (h7 : ¬ z1 ≤ z0) (h8 : 0 ≤ z5 ∧ z5 ≤ z0) (h9 : z6 = 0) (h10 : (0 : Int32) ≤ z7 ∧ z7 ≤ (6 : Int32)) (h11 : z5 < z7) (h12 : z8 = (3 : Int32)) (h13 : ¬ z9 ≤ z10) : z0 < z1 := by first | (clear h3 h4 h5 h6 h9 h12 h13; lia) | lia
set_option maxHeartbeats 200000 in
theorem qw101 {z0 : Int32} {z1 : Int32} {z2 : Int32} {z3 : Int32} {z4 : Int32} {z5 : Int32} {z6 : Int32} {z7 : Int32} {z8 : Int32} {z9 : Int32} {z10 : Int32} (h0 : 0 ≤ z0) (h1 : z1 ≤ 400) (h2 : z0 ≤ z1) (h3 : 0 ≤ z2) (h4 : (0 : Int32) ≤ z3 ∧ z3 ≤ (12 : Int32)) (h5 : z3 ≤ z2) (h6 : ¬ z4 = 0) (h7 : ¬ z1 ≤ z0) (h8 : 0 ≤ z5 ∧ z5 ≤ z0) (h9 : z6 = 0) (h10 : (0 : Int32) ≤ z7 ∧ z7 ≤ (6 : Int32)) (h11 : z5 < z7) (h12 : z8 = (3 : Int32)) (h13 : ¬ z9 ≤ z10) : 0 ≤ z0 ∧ z0 ≤ (400 : Int32) := by first | (clear h3 h4 h5 h6 h9 h12 h13; lia) | lia
set_option maxHeartbeats 200000 in
theorem qw102 {z0 : Int32} {z1 : Int32} {z2 : Int32} {z3 : Int32} {z4 : Int32} {z5 : Int32} {z6 : Int32} {z7 : Int32} {z8 : Int32} {z9 : Int32} {z10 : Int32} {z11 : Int32} (h0 : 0 ≤ z0 ∧ z0 < 8) (h1 : 0 ≤ z1) (h2 : z2 ≤ 400) (h3 : z1 ≤ z2) (h4 : 0 ≤ z3) (h5 : (0 : Int32) ≤ z4 ∧ z4 ≤ (12 : Int32)) (h6 : z4 ≤ z3) (h7 : ¬ z5 = 0) (h8 : ¬ z2 ≤ z1) (h9 : 0 ≤ z6 ∧ z6 ≤ z1) (h10 : z7 = 0) (h11 : (0 : Int32) ≤ z8 ∧ z8 ≤ (6 : Int32)) (h12 : z6 < z8) (h13 : z9 = (3 : Int32)) (h14 : ¬ z10 ≤ z11) : 0 ≤ z0 ∧ z0 < (8 : Int32) := by first | (clear h1 h2 h3 h4 h5 h6 h7 h8 h9 h10 h11 h12 h13 h14; lia) | lia
set_option maxHeartbeats 200000 in
theorem qw103 {z0 : Int32} {z1 : Int32} {z2 : Int32} {z3 : Int32} {z4 : Int32} {z5 : Int32} {z6 : Int32} {z7 : Int32} {z8 : Int32} {z9 : Int32} {z10 : Int32} (h0 : 0 ≤ z1) (h1 : z0 ≤ 400) (h2 : z1 ≤ z0) (h3 : 0 ≤ z2) (h4 : (0 : Int32) ≤ z3 ∧ z3 ≤ (12 : Int32)) (h5 : z3 ≤ z2) (h6 : ¬ z4 = 0) (h7 : ¬ z0 ≤ z1) (h8 : 0 ≤ z5 ∧ z5 ≤ z1) (h9 : z6 = 0) (h10 : (0 : Int32) ≤ z7 ∧ z7 ≤ (6 : Int32)) (h11 : z5 < z7) (h12 : z8 = (3 : Int32)) (h13 : ¬ z9 ≤ z10) : z0 ≤ (400 : Int32) := by first | (clear h3 h4 h5 h6 h9 h12 h13; lia) | lia
set_option maxHeartbeats 200000 in
theorem qw104 {z0 : Int32} {z1 : Int32} {z2 : Int32} {z3 : Int32} {z4 : Int32} {z5 : Int32} {z6 : Int32} {z7 : Int32} {z8 : Int32} {z9 : Int32} {z10 : Int32} (h0 : 0 ≤ z0) (h1 : z1 ≤ 400) (h2 : z0 ≤ z1) (h3 : 0 ≤ z2) (h4 : (0 : Int32) ≤ z3 ∧ z3 ≤ (12 : Int32)) (h5 : z3 ≤ z2) (h6 : ¬ z4 = 0) (h7 : ¬ z1 ≤ z0) (h8 : 0 ≤ z5 ∧ z5 ≤ z0) (h9 : z6 = 0) (h10 : (0 : Int32) ≤ z7 ∧ z7 ≤ (6 : Int32)) (h11 : z5 < z7) (h12 : z8 = (3 : Int32)) (h13 : ¬ z9 ≤ z10) : 0 ≤ (z0 + (1 : Int32)) ∧ (z0 + (1 : Int32)) ≤ (400 : Int32) := by first | (clear h3 h4 h5 h6 h9 h12 h13; lia) | lia
set_option maxHeartbeats 200000 in
theorem qw105 {z0 : Int32} {z1 : Int32} {z2 : Int32} {z3 : Int32} {z4 : Int32} {z5 : Int32} {z6 : Int32} {z7 : Int32} (h0 : 0 ≤ z0) (h1 : z1 ≤ 400) (h2 : z0 ≤ z1) (h3 : 0 ≤ z2) (h4 : (0 : Int32) ≤ z3 ∧ z3 ≤ (12 : Int32)) (h5 : z3 ≤ z2) (h6 : ¬ z4 = 0) (h7 : ¬ z1 ≤ z0) (h8 : 0 ≤ z5 ∧ z5 ≤ z0) (h9 : z6 = 0) (h10 : (0 : Int32) ≤ z7 ∧ z7 ≤ (6 : Int32)) (h11 : ¬ z5 < z7) : z0 < z1 := by first | (clear h3 h4 h5 h6 h9; lia) | lia
set_option maxHeartbeats 200000 in
theorem qw106 {z0 : Int32} {z1 : Int32} {z2 : Int32} {z3 : Int32} {z4 : Int32} {z5 : Int32} {z6 : Int32} {z7 : Int32} (h0 : 0 ≤ z0) (h1 : z1 ≤ 400) (h2 : z0 ≤ z1) (h3 : 0 ≤ z2) (h4 : (0 : Int32) ≤ z3 ∧ z3 ≤ (12 : Int32)) (h5 : z3 ≤ z2) (h6 : ¬ z4 = 0) (h7 : ¬ z1 ≤ z0) (h8 : 0 ≤ z5 ∧ z5 ≤ z0) (h9 : z6 = 0) (h10 : (0 : Int32) ≤ z7 ∧ z7 ≤ (6 : Int32)) (h11 : ¬ z5 < z7) : 0 ≤ z0 ∧ z0 ≤ (400 : Int32) := by first | (clear h3 h4 h5 h6 h9; lia) | lia
set_option maxHeartbeats 200000 in
theorem qw107 {z0 : Int32} {z1 : Int32} {z2 : Int32} {z3 : Int32} {z4 : Int32} {z5 : Int32} {z6 : Int32} {z7 : Int32} {z8 : Int32} (h0 : 0 ≤ z0 ∧ z0 < 8) (h1 : 0 ≤ z1) (h2 : z2 ≤ 400) (h3 : z1 ≤ z2) (h4 : 0 ≤ z3) (h5 : (0 : Int32) ≤ z4 ∧ z4 ≤ (12 : Int32)) (h6 : z4 ≤ z3) (h7 : ¬ z5 = 0) (h8 : ¬ z2 ≤ z1) (h9 : 0 ≤ z6 ∧ z6 ≤ z1) (h10 : z7 = 0) (h11 : (0 : Int32) ≤ z8 ∧ z8 ≤ (6 : Int32)) (h12 : ¬ z6 < z8) : 0 ≤ z0 ∧ z0 < (8 : Int32) := by first | (clear h1 h2 h3 h4 h5 h6 h7 h8 h9 h10 h11 h12; lia) | lia
set_option maxHeartbeats 200000 in
theorem qw108 {z0 : Int32} {z1 : Int32} {z2 : Int32} {z3 : Int32} {z4 : Int32} {z5 : Int32} {z6 : Int32} {z7 : Int32} (h0 : 0 ≤ z1) (h1 : z0 ≤ 400) (h2 : z1 ≤ z0) (h3 : 0 ≤ z2) (h4 : (0 : Int32) ≤ z3 ∧ z3 ≤ (12 : Int32)) (h5 : z3 ≤ z2) (h6 : ¬ z4 = 0) (h7 : ¬ z0 ≤ z1) (h8 : 0 ≤ z5 ∧ z5 ≤ z1) (h9 : z6 = 0) (h10 : (0 : Int32) ≤ z7 ∧ z7 ≤ (6 : Int32)) (h11 : ¬ z5 < z7) : z0 ≤ (400 : Int32) := by first | (clear h3 h4 h5 h6 h9; lia) | lia
set_option maxHeartbeats 200000 in
theorem qw109 {z0 : Int32} {z1 : Int32} {z2 : Int32} {z3 : Int32} {z4 : Int32} {z5 : Int32} {z6 : Int32} {z7 : Int32} (h0 : 0 ≤ z0) (h1 : z1 ≤ 400) (h2 : z0 ≤ z1) (h3 : 0 ≤ z2) (h4 : (0 : Int32) ≤ z3 ∧ z3 ≤ (12 : Int32)) (h5 : z3 ≤ z2) (h6 : ¬ z4 = 0) (h7 : ¬ z1 ≤ z0) (h8 : 0 ≤ z5 ∧ z5 ≤ z0) (h9 : z6 = 0) (h10 : (0 : Int32) ≤ z7 ∧ z7 ≤ (6 : Int32)) (h11 : ¬ z5 < z7) : 0 ≤ (z0 + (1 : Int32)) ∧ (z0 + (1 : Int32)) ≤ (400 : Int32) := by first | (clear h3 h4 h5 h6 h9; lia) | lia
set_option maxHeartbeats 200000 in
theorem qw110 {z0 : Int32} {z1 : Int32} {z2 : Int32} {z3 : Int32} (h0 : 0 ≤ z0 ∧ z0 < 8) (h1 : 0 ≤ z1) (h2 : (0 : Int32) ≤ z2 ∧ z2 ≤ (12 : Int32)) (h3 : z2 ≤ z1) (h4 : z3 = 0) : 0 ≤ z0 ∧ z0 < (8 : Int32) := by first | (clear h1 h2 h3 h4; lia) | lia
set_option maxHeartbeats 200000 in
theorem qw111 {z0 : Int32} {z1 : Int32} {z2 : Int32} {z3 : Int32} {z4 : Int32} {z5 : Int32} {z6 : Int32} (h0 : 0 ≤ z1) (h1 : z2 ≤ 400) (h2 : z1 ≤ z2) (h3 : 0 ≤ z3) (h4 : (0 : Int32) ≤ z4 ∧ z4 ≤ (12 : Int32)) (h5 : z4 ≤ z3) (h6 : z5 = 0) (h7 : ¬ z6 = (-2 : Int32)) (h8 : ¬ z2 ≤ z1) (h9 : (0 : Int32) ≤ z0 ∧ z0 ≤ (60 : Int32)) (h10 : 1 ≤ z0) : ¬ z0 = 0 := by first | (clear h0 h1 h2 h3 h4 h5 h6 h7 h8; lia) | lia
set_option maxHeartbeats 200000 in
theorem qw112 {z0 : Int32} {z1 : Int32} {z2 : Int32} {z3 : Int32} {z4 : Int32} {z5 : Int32} (h0 : 0 ≤ z0) (h1 : z1 ≤ 400) (h2 : z0 ≤ z1) (h3 : 0 ≤ z2) (h4 : (0 : Int32) ≤ z3 ∧ z3 ≤ (12 : Int32)) (h5 : z3 ≤ z2) (h6 : z4 = 0) (h7 : ¬ z5 = (-2 : Int32)) (h8 : ¬ z1 ≤ z0) : 0 ≤ z0 := by first | (clear h3 h4 h5 h6 h7; lia) | lia
set_option maxHeartbeats 200000 in
theorem qw113 {z0 : Int32} {z1 : Int32} {z2 : Int32} {z3 : Int32} {z4 : Int32} {z5 : Int32} {z6 : Int32} (h0 : 0 ≤ z1) (h1 : z2 ≤ 400) (h2 : z1 ≤ z2) (h3 : 0 ≤ z3) (h4 : (0 : Int32) ≤ z4 ∧ z4 ≤ (12 : Int32)) (h5 : z4 ≤ z3) (h6 : z5 = 0) (h7 : ¬ z6 = (-2 : Int32)) (h8 : ¬ z2 ≤ z1) (h9 : (0 : Int32) ≤ z0 ∧ z0 ≤ (60 : Int32)) (h10 : 1 ≤ z0) : (1 : Int32) ≤ z0 := by first | (clear h0 h1 h2 h3 h4 h5 h6 h7 h8; lia) | lia
set_option maxHeartbeats 200000 in
theorem qw114 {z0 : Int32} {z1 : Int32} {z2 : Int32} {z3 : Int32} {z4 : Int32} {z5 : Int32} {z6 : Int32} {z7 : Int32} (h0 : 0 ≤ z0 ∧ z0 < 8) (h1 : 0 ≤ z1) (h2 : z2 ≤ 400) (h3 : z1 ≤ z2) (h4 : 0 ≤ z3) (h5 : (0 : Int32) ≤ z4 ∧ z4 ≤ (12 : Int32)) (h6 : z4 ≤ z3) (h7 : z5 = 0) (h8 : ¬ z6 = (-2 : Int32)) (h9 : ¬ z2 ≤ z1) (h10 : 0 ≤ z7 ∧ z7 ≤ z1) : 0 ≤ z0 ∧ z0 < (8 : Int32) := by first | (clear h1 h2 h3 h4 h5 h6 h7 h8 h9 h10; lia) | lia
set_option maxHeartbeats 200000 in
theorem qw115 {z0 : Int32} {z1 : Int32} {z2 : Int32} {z3 : Int32} {z4 : Int32} {z5 : Int32} {z6 : Int32} {z7 : Int32} (h0 : 0 ≤ z0) (h1 : z1 ≤ 400) (h2 : z0 ≤ z1) (h3 : 0 ≤ z2) (h4 : (0 : Int32) ≤ z3 ∧ z3 ≤ (12 : Int32)) (h5 : z3 ≤ z2) (h6 : z4 = 0) (h7 : ¬ z5 = (-2 : Int32)) (h8 : ¬ z1 ≤ z0) (h9 : 0 ≤ z6 ∧ z6 ≤ z0) (h10 : ¬ z7 = 0) : z0 < z1 := by first | (clear h3 h4 h5 h6 h7 h10; lia) | lia
set_option maxHeartbeats 200000 in
theorem qw116 {z0 : Int32} {z1 : Int32} {z2 : Int32} {z3 : Int32} {z4 : Int32} {z5 : Int32} {z6 : Int32} {z7 : Int32} (h0 : 0 ≤ z0) (h1 : z1 ≤ 400) (h2 : z0 ≤ z1) (h3 : 0 ≤ z2) (h4 : (0 : Int32) ≤ z3 ∧ z3 ≤ (12 : Int32)) (h5 : z3 ≤ z2) (h6 : z4 = 0) (h7 : ¬ z5 = (-2 : Int32)) (h8 : ¬ z1 ≤ z0) (h9 : 0 ≤ z6 ∧ z6 ≤ z0) (h10 : ¬ z7 = 0) : 0 ≤ z0 ∧ z0 ≤ (400 : Int32) := by first | (clear h3 h4 h5 h6 h7 h10; lia) | lia
set_option maxHeartbeats 200000 in
theorem qw117 {z0 : Int32} {z1 : Int32} {z2 : Int32} {z3 : Int32} {z4 : Int32} {z5 : Int32} {z6 : Int32} {z7 : Int32} {z8 : Int32} (h0 : 0 ≤ z0 ∧ z0 < 8) (h1 : 0 ≤ z1) (h2 : z2 ≤ 400) (h3 : z1 ≤ z2) (h4 : 0 ≤ z3) (h5 : (0 : Int32) ≤ z4 ∧ z4 ≤ (12 : Int32)) (h6 : z4 ≤ z3) (h7 : z5 = 0) (h8 : ¬ z6 = (-2 : Int32)) (h9 : ¬ z2 ≤ z1) (h10 : 0 ≤ z7 ∧ z7 ≤ z1) (h11 : ¬ z8 = 0) : 0 ≤ z0 ∧ z0 < (8 : Int32) := by first | (clear h1 h2 h3 h4 h5 h6 h7 h8 h9 h10 h11; lia) | lia
set_option maxHeartbeats 200000 in
theorem qw118 {z0 : Int32} {z1 : Int32} {z2 : Int32} {z3 : Int32} {z4 : Int32} {z5 : Int32} {z6 : Int32} {z7 : Int32} (h0 : 0 ≤ z1) (h1 : z0 ≤ 400) (h2 : z1 ≤ z0) (h3 : 0 ≤ z2) (h4 : (0 : Int32) ≤ z3 ∧ z3 ≤ (12 : Int32)) (h5 : z3 ≤ z2) (h6 : z4 = 0) (h7 : ¬ z5 = (-2 : Int32)) (h8 : ¬ z0 ≤ z1) (h9 : 0 ≤ z6 ∧ z6 ≤ z1) (h10 : ¬ z7 = 0) : z0 ≤ (400 : Int32) := by first | (clear h3 h4 h5 h6 h7 h10; lia) | lia
set_option maxHeartbeats 200000 in
theorem qw119 {z0 : Int32} {z1 : Int32} {z2 : Int32} {z3 : Int32} {z4 : Int32} {z5 : Int32} {z6 : Int32} {z7 : Int32} (h0 : 0 ≤ z0) (h1 : z1 ≤ 400) (h2 : z0 ≤ z1) (h3 : 0 ≤ z2) (h4 : (0 : Int32) ≤ z3 ∧ z3 ≤ (12 : Int32)) (h5 : z3 ≤ z2) (h6 : z4 = 0) (h7 : ¬ z5 = (-2 : Int32)) (h8 : ¬ z1 ≤ z0) (h9 : 0 ≤ z6 ∧ z6 ≤ z0) (h10 : ¬ z7 = 0) : 0 ≤ (z0 + (1 : Int32)) ∧ (z0 + (1 : Int32)) ≤ (400 : Int32) := by first | (clear h3 h4 h5 h6 h7 h10; lia) | lia
set_option maxHeartbeats 200000 in
theorem qw120 {z0 : Int32} {z1 : Int32} {z2 : Int32} {z3 : Int32} {z4 : Int32} {z5 : Int32} {z6 : Int32} {z7 : Int32} {z8 : Int32} {z9 : Int32} (h0 : 0 ≤ z0 ∧ z0 < 8) (h1 : 0 ≤ z1) (h2 : z2 ≤ 400) (h3 : z1 ≤ z2) (h4 : 0 ≤ z3) (h5 : (0 : Int32) ≤ z4 ∧ z4 ≤ (12 : Int32)) (h6 : z4 ≤ z3) (h7 : z5 = 0) (h8 : ¬ z6 = (-2 : Int32)) (h9 : ¬ z2 ≤ z1) (h10 : 0 ≤ z7 ∧ z7 ≤ z1) (h11 : z8 = 0) (h12 : (0 : Int32) ≤ z9 ∧ z9 ≤ (6 : Int32)) (h13 : z7 < z9) : 0 ≤ z0 ∧ z0 < (8 : Int32) := by first | (clear h1 h2 h3 h4 h5 h6 h7 h8 h9 h10 h11 h12 h13; lia) | lia
set_option maxHeartbeats 200000 in
theorem qw121 {z0 : Int32} {z1 : Int32} {z2 : Int32} {z3 : Int32} {z4 : Int32} {z5 : Int32} {z6 : Int32} {z7 : Int32} {z8 : Int32} {z9 : Int32} {z10 : Int32} (h0 : 0 ≤ z1) (h1 : z2 ≤ 400) (h2 : z1 ≤ z2) (h3 : (0 : Int32) ≤ z3 ∧ z3 ≤ (4 : Int32)) (h4 : 0 ≤ z0 ∧ z0 < z3) (h5 : 0 ≤ z4) (h6 : (0 : Int32) ≤ z5 ∧ z5 ≤ (12 : Int32)) (h7 : z5 ≤ z4) (h8 : z6 = 0) (h9 : ¬ z7 = (-2 : Int32)) (h10 : ¬ z2 ≤ z1) (h11 : 0 ≤ z8 ∧ z8 ≤ z1) (h12 : z9 = 0) (h13 : (0 : Int32) ≤ z10 ∧ z10 ≤ (6 : Int32)) (h14 : z8 < z10) : 0 ≤ z0 ∧ z0 < (4 : Int32) := by first | (clear h0 h1 h2 h5 h6 h7 h8 h9 h10 h11 h12 h13 h14; lia) | lia
set_option maxHeartbeats 200000 in
theorem qw122 {z0 : Int32} {z1 : Int32} {z2 : Int32} {z3 : Int32} {z4 : Int32} {z5 : Int32} {z6 : Int32} {z7 : Int32} {z8 : Int32} {z9 : Int32} {z10 : Int32} (h0 : 0 ≤ z1) (h1 : z2 ≤ 400) (h2 : z1 ≤ z2) (h3 : 0 ≤ z3) (h4 : (0 : Int32) ≤ z4 ∧ z4 ≤ (12 : Int32)) (h5 : z4 ≤ z3) (h6 : z5 = 0) (h7 : ¬ z6 = (-2 : Int32)) (h8 : ¬ z2 ≤ z1) (h9 : 0 ≤ z0 ∧ z0 ≤ z1) (h10 : z7 = 0) (h11 : (0 : Int32) ≤ z8 ∧ z8 ≤ (6 : Int32)) (h12 : z0 < z8) (h13 : ¬ z9 = (3 : Int32)) (h14 : z10 ≤ (0 : Int32)) : 0 ≤ z0 ∧ z0 < (6 : Int32) := by first | (clear h3 h4 h5 h6 h7 h10 h13 h14; lia) | lia
set_option maxHeartbeats 200000 in
theorem qw123 {z0 : Int32} {z1 : Int32} {z2 : Int32} {z3 : Int32} {z4 : Int32} {z5 : Int32} {z6 : Int32} {z7 : Int32} {z8 : Int32} {z9 : Int32} {z10 : Int32} (h0 : 0 ≤ z0) (h1 : z1 ≤ 400) (h2 : z0 ≤ z1) (h3 : 0 ≤ z2) (h4 : (0 : Int32) ≤ z3 ∧ z3 ≤ (12 : Int32)) (h5 : z3 ≤ z2) (h6 : z4 = 0) (h7 : ¬ z5 = (-2 : Int32)) (h8 : ¬ z1 ≤ z0) (h9 : 0 ≤ z6 ∧ z6 ≤ z0) (h10 : z7 = 0) (h11 : (0 : Int32) ≤ z8 ∧ z8 ≤ (6 : Int32)) (h12 : z6 < z8) (h13 : ¬ z9 = (3 : Int32)) (h14 : z10 ≤ (0 : Int32)) : z0 < z1 := by first | (clear h3 h4 h5 h6 h7 h10 h13 h14; lia) | lia
set_option maxHeartbeats 200000 in
theorem qw124 {z0 : Int32} {z1 : Int32} {z2 : Int32} {z3 : Int32} {z4 : Int32} {z5 : Int32} {z6 : Int32} {z7 : Int32} {z8 : Int32} {z9 : Int32} {z10 : Int32} (h0 : 0 ≤ z0) (h1 : z1 ≤ 400) (h2 : z0 ≤ z1) (h3 : 0 ≤ z2) (h4 : (0 : Int32) ≤ z3 ∧ z3 ≤ (12 : Int32)) (h5 : z3 ≤ z2) (h6 : z4 = 0) (h7 : ¬ z5 = (-2 : Int32)) (h8 : ¬ z1 ≤ z0) (h9 : 0 ≤ z6 ∧ z6 ≤ z0) (h10 : z7 = 0) (h11 : (0 : Int32) ≤ z8 ∧ z8 ≤ (6 : Int32)) (h12 : z6 < z8) (h13 : ¬ z9 = (3 : Int32)) (h14 : z10 ≤ (0 : Int32)) : 0 ≤ z0 ∧ z0 ≤ (400 : Int32) := by first | (clear h3 h4 h5 h6 h7 h10 h13 h14; lia) | lia
set_option maxHeartbeats 200000 in
theorem qw125 {z0 : Int32} {z1 : Int32} {z2 : Int32} {z3 : Int32} {z4 : Int32} {z5 : Int32} {z6 : Int32} {z7 : Int32} {z8 : Int32} {z9 : Int32} {z10 : Int32} {z11 : Int32} (h0 : 0 ≤ z0 ∧ z0 < 8) (h1 : 0 ≤ z1) (h2 : z2 ≤ 400) (h3 : z1 ≤ z2) (h4 : 0 ≤ z3) (h5 : (0 : Int32) ≤ z4 ∧ z4 ≤ (12 : Int32)) (h6 : z4 ≤ z3) (h7 : z5 = 0) (h8 : ¬ z6 = (-2 : Int32)) (h9 : ¬ z2 ≤ z1) (h10 : 0 ≤ z7 ∧ z7 ≤ z1) (h11 : z8 = 0) (h12 : (0 : Int32) ≤ z9 ∧ z9 ≤ (6 : Int32)) (h13 : z7 < z9) (h14 : ¬ z10 = (3 : Int32)) (h15 : z11 ≤ (0 : Int32)) : 0 ≤ z0 ∧ z0 < (8 : Int32) := by first | (clear h1 h2 h3 h4 h5 h6 h7 h8 h9 h10 h11 h12 h13 h14 h15; lia) | lia
set_option maxHeartbeats 200000 in
theorem qw126 {z0 : Int32} {z1 : Int32} {z2 : Int32} {z3 : Int32} {z4 : Int32} {z5 : Int32} {z6 : Int32} {z7 : Int32} {z8 : Int32} {z9 : Int32} {z10 : Int32} (h0 : 0 ≤ z1) (h1 : z0 ≤ 400) (h2 : z1 ≤ z0) (h3 : 0 ≤ z2) (h4 : (0 : Int32) ≤ z3 ∧ z3 ≤ (12 : Int32)) (h5 : z3 ≤ z2) (h6 : z4 = 0) (h7 : ¬ z5 = (-2 : Int32)) (h8 : ¬ z0 ≤ z1) (h9 : 0 ≤ z6 ∧ z6 ≤ z1) (h10 : z7 = 0) (h11 : (0 : Int32) ≤ z8 ∧ z8 ≤ (6 : Int32)) (h12 : z6 < z8) (h13 : ¬ z9 = (3 : Int32)) (h14 : z10 ≤ (0 : Int32)) : z0 ≤ (400 : Int32) := by first | (clear h3 h4 h5 h6 h7 h10 h13 h14; lia) | lia
set_option maxHeartbeats 200000 in
theorem qw127 {z0 : Int32} {z1 : Int32} {z2 : Int32} {z3 : Int32} {z4 : Int32} {z5 : Int32} {z6 : Int32} {z7 : Int32} {z8 : Int32} {z9 : Int32} {z10 : Int32} (h0 : 0 ≤ z0) (h1 : z1 ≤ 400) (h2 : z0 ≤ z1) (h3 : 0 ≤ z2) (h4 : (0 : Int32) ≤ z3 ∧ z3 ≤ (12 : Int32)) (h5 : z3 ≤ z2) (h6 : z4 = 0) (h7 : ¬ z5 = (-2 : Int32)) (h8 : ¬ z1 ≤ z0) (h9 : 0 ≤ z6 ∧ z6 ≤ z0) (h10 : z7 = 0) (h11 : (0 : Int32) ≤ z8 ∧ z8 ≤ (6 : Int32)) (h12 : z6 < z8) (h13 : ¬ z9 = (3 : Int32)) (h14 : z10 ≤ (0 : Int32)) : 0 ≤ (z0 + (1 : Int32)) ∧ (z0 + (1 : Int32)) ≤ (400 : Int32) := by first | (clear h3 h4 h5 h6 h7 h10 h13 h14; lia) | lia
set_option maxHeartbeats 200000 in
theorem qw128 {z0 : Int32} {z1 : Int32} {z2 : Int32} {z3 : Int32} {z4 : Int32} {z5 : Int32} {z6 : Int32} {z7 : Int32} {z8 : Int32} {z9 : Int32} {z10 : Int32} (h0 : 0 ≤ z1) (h1 : z2 ≤ 400) (h2 : z1 ≤ z2) (h3 : 0 ≤ z3) (h4 : (0 : Int32) ≤ z4 ∧ z4 ≤ (12 : Int32)) (h5 : z4 ≤ z3) (h6 : z5 = 0) (h7 : ¬ z6 = (-2 : Int32)) (h8 : ¬ z2 ≤ z1) (h9 : 0 ≤ z0 ∧ z0 ≤ z1) (h10 : z7 = 0) (h11 : (0 : Int32) ≤ z8 ∧ z8 ≤ (6 : Int32)) (h12 : z0 < z8) (h13 : ¬ z9 = (3 : Int32)) (h14 : ¬ z10 ≤ (0 : Int32)) : 0 ≤ z0 ∧ z0 < (6 : Int32) := by first | (clear h3 h4 h5 h6 h7 h10 h13 h14; lia) | lia
set_option maxHeartbeats 200000 in
theorem qw129 {z0 : Int32} {z1 : Int32} {z2 : Int32} {z3 : Int32} {z4 : Int32} {z5 : Int32} {z6 : Int32} {z7 : Int32} {z8 : Int32} {z9 : Int32} {z10 : Int32} (h0 : 0 ≤ z0) (h1 : z1 ≤ 400) (h2 : z0 ≤ z1) (h3 : 0 ≤ z2) (h4 : (0 : Int32) ≤ z3 ∧ z3 ≤ (12 : Int32)) (h5 : z3 ≤ z2) (h6 : z4 = 0) (h7 : ¬ z5 = (-2 : Int32)) (h8 : ¬ z1 ≤ z0) (h9 : 0 ≤ z6 ∧ z6 ≤ z0) (h10 : z7 = 0) (h11 : (0 : Int32) ≤ z8 ∧ z8 ≤ (6 : Int32)) (h12 : z6 < z8) (h13 : ¬ z9 = (3 : Int32)) (h14 : ¬ z10 ≤ (0 : Int32)) : z0 < z1 := by first | (clear h3 h4 h5 h6 h7 h10 h13 h14; lia) | lia
set_option maxHeartbeats 200000 in
theorem qw130 {z0 : Int32} {z1 : Int32} {z2 : Int32} {z3 : Int32} {z4 : Int32} {z5 : Int32} {z6 : Int32} {z7 : Int32} {z8 : Int32} {z9 : Int32} {z10 : Int32} (h0 : 0 ≤ z0) (h1 : z1 ≤ 400) (h2 : z0 ≤ z1) (h3 : 0 ≤ z2) (h4 : (0 : Int32) ≤ z3 ∧ z3 ≤ (12 : Int32)) (h5 : z3 ≤ z2) (h6 : z4 = 0) (h7 : ¬ z5 = (-2 : Int32)) (h8 : ¬ z1 ≤ z0) (h9 : 0 ≤ z6 ∧ z6 ≤ z0) (h10 : z7 = 0) (h11 : (0 : Int32) ≤ z8 ∧ z8 ≤ (6 : Int32)) (h12 : z6 < z8) (h13 : ¬ z9 = (3 : Int32)) (h14 : ¬ z10 ≤ (0 : Int32)) : 0 ≤ z0 ∧ z0 ≤ (400 : Int32) := by first | (clear h3 h4 h5 h6 h7 h10 h13 h14; lia) | lia
set_option maxHeartbeats 200000 in
theorem qw131 {z0 : Int32} {z1 : Int32} {z2 : Int32} {z3 : Int32} {z4 : Int32} {z5 : Int32} {z6 : Int32} {z7 : Int32} {z8 : Int32} {z9 : Int32} {z10 : Int32} {z11 : Int32} (h0 : 0 ≤ z0 ∧ z0 < 8) (h1 : 0 ≤ z1) (h2 : z2 ≤ 400) (h3 : z1 ≤ z2) (h4 : 0 ≤ z3) (h5 : (0 : Int32) ≤ z4 ∧ z4 ≤ (12 : Int32)) (h6 : z4 ≤ z3) (h7 : z5 = 0) (h8 : ¬ z6 = (-2 : Int32)) (h9 : ¬ z2 ≤ z1) (h10 : 0 ≤ z7 ∧ z7 ≤ z1) (h11 : z8 = 0) (h12 : (0 : Int32) ≤ z9 ∧ z9 ≤ (6 : Int32)) (h13 : z7 < z9) (h14 : ¬ z10 = (3 : Int32)) (h15 : ¬ z11 ≤ (0 : Int32)) : 0 ≤ z0 ∧ z0 < (8 : Int32) := by first | (clear h1 h2 h3 h4 h5 h6 h7 h8 h9 h10 h11 h12 h13 h14 h15; lia) | lia
set_option maxHeartbeats 200000 in
theorem qw132 {z0 : Int32} {z1 : Int32} {z2 : Int32} {z3 : Int32} {z4 : Int32} {z5 : Int32} {z6 : Int32} {z7 : Int32} {z8 : Int32} {z9 : Int32} {z10 : Int32} (h0 : 0 ≤ z1) (h1 : z0 ≤ 400) (h2 : z1 ≤ z0) (h3 : 0 ≤ z2) (h4 : (0 : Int32) ≤ z3 ∧ z3 ≤ (12 : Int32)) (h5 : z3 ≤ z2) (h6 : z4 = 0) (h7 : ¬ z5 = (-2 : Int32)) (h8 : ¬ z0 ≤ z1) (h9 : 0 ≤ z6 ∧ z6 ≤ z1) (h10 : z7 = 0) (h11 : (0 : Int32) ≤ z8 ∧ z8 ≤ (6 : Int32)) (h12 : z6 < z8) (h13 : ¬ z9 = (3 : Int32)) (h14 : ¬ z10 ≤ (0 : Int32)) : z0 ≤ (400 : Int32) := by first | (clear h3 h4 h5 h6 h7 h10 h13 h14; lia) | lia
set_option maxHeartbeats 200000 in
theorem qw133 {z0 : Int32} {z1 : Int32} {z2 : Int32} {z3 : Int32} {z4 : Int32} {z5 : Int32} {z6 : Int32} {z7 : Int32} {z8 : Int32} {z9 : Int32} {z10 : Int32} (h0 : 0 ≤ z0) (h1 : z1 ≤ 400) (h2 : z0 ≤ z1) (h3 : 0 ≤ z2) (h4 : (0 : Int32) ≤ z3 ∧ z3 ≤ (12 : Int32)) (h5 : z3 ≤ z2) (h6 : z4 = 0) (h7 : ¬ z5 = (-2 : Int32)) (h8 : ¬ z1 ≤ z0) (h9 : 0 ≤ z6 ∧ z6 ≤ z0) (h10 : z7 = 0) (h11 : (0 : Int32) ≤ z8 ∧ z8 ≤ (6 : Int32)) (h12 : z6 < z8) (h13 : ¬ z9 = (3 : Int32)) (h14 : ¬ z10 ≤ (0 : Int32)) : 0 ≤ (z0 + (1 : Int32)) ∧ (z0 + (1 : Int32)) ≤ (400 : Int32) := by first | (clear h3 h4 h5 h6 h7 h10 h13 h14; lia) | lia
set_option maxHeartbeats 200000 in
theorem qw134 {z0 : Int32} {z1 : Int32} {z2 : Int32} {z3 : Int32} {z4 : Int32} {z5 : Int32} {z6 : Int32} {z7 : Int32} {z8 : Int32} {z9 : Int32} {z10 : Int32} {z11 : Int32} (h0 : 0 ≤ z1) (h1 : z2 ≤ 400) (h2 : z1 ≤ z2) (h3 : (0 : Int32) ≤ z3 ∧ z3 ≤ (4 : Int32)) (h4 : 0 ≤ z0 ∧ z0 < z3) (h5 : 0 ≤ z4) (h6 : (0 : Int32) ≤ z5 ∧ z5 ≤ (12 : Int32)) (h7 : z5 ≤ z4) (h8 : z6 = 0) (h9 : ¬ z7 = (-2 : Int32)) (h10 : ¬ z2 ≤ z1) (h11 : 0 ≤ z8 ∧ z8 ≤ z1) (h12 : z9 = 0) (h13 : (0 : Int32) ≤ z10 ∧ z10 ≤ (6 : Int32)) (h14 : z8 < z10) (h15 : z11 = (3 : Int32)) : 0 ≤ z0 ∧ z0 < (4 : Int32) := by first | (clear h0 h1 h2 h5 h6 h7 h8 h9 h10 h11 h12 h13 h14 h15; lia) | lia
set_option maxHeartbeats 200000 in
theorem qw135 {z0 : Int32} {z1 : Int32} {z2 : Int32} {z3 : Int32} {z4 : Int32} {z5 : Int32} {z6 : Int32} {z7 : Int32} {z8 : Int32} {z9 : Int32} {z10 : Int32} {z11 : Int32} (h0 : 0 ≤ z1) (h1 : z2 ≤ 400) (h2 : z1 ≤ z2) (h3 : 0 ≤ z3) (h4 : (0 : Int32) ≤ z4 ∧ z4 ≤ (12 : Int32)) (h5 : z4 ≤ z3) (h6 : z5 = 0) (h7 : ¬ z6 = (-2 : Int32)) (h8 : ¬ z2 ≤ z1) (h9 : 0 ≤ z0 ∧ z0 ≤ z1) (h10 : z7 = 0) (h11 : (0 : Int32) ≤ z8 ∧ z8 ≤ (6 : Int32)) (h12 : z0 < z8) (h13 : z9 = (3 : Int32)) (h14 : z10 ≤ z11) : 0 ≤ z0 ∧ z0 < (6 : Int32) := by first | (clear h3 h4 h5 h6 h7 h10 h13 h14; lia) | lia
set_option maxHeartbeats 200000 in
theorem qw136 {z0 : Int32} {z1 : Int32} {z2 : Int32} {z3 : Int32} {z4 : Int32} {z5 : Int32} {z6 : Int32} {z7 : Int32} {z8 : Int32} {z9 : Int32} {z10 : Int32} {z11 : Int32} (h0 : 0 ≤ z0) (h1 : z1 ≤ 400) (h2 : z0 ≤ z1) (h3 : 0 ≤ z2) (h4 : (0 : Int32) ≤ z3 ∧ z3 ≤ (12 : Int32)) (h5 : z3 ≤ z2) (h6 : z4 = 0) (h7 : ¬ z5 = (-2 : Int32)) (h8 : ¬ z1 ≤ z0) (h9 : 0 ≤ z6 ∧ z6 ≤ z0) (h10 : z7 = 0) (h11 : (0 : Int32) ≤ z8 ∧ z8 ≤ (6 : Int32)) (h12 : z6 < z8) (h13 : z9 = (3 : Int32)) (h14 : z10 ≤ z11) : z0 < z1 := by first | (clear h3 h4 h5 h6 h7 h10 h13 h14; lia) | lia
set_option maxHeartbeats 200000 in
theorem qw137 {z0 : Int32} {z1 : Int32} {z2 : Int32} {z3 : Int32} {z4 : Int32} {z5 : Int32} {z6 : Int32} {z7 : Int32} {z8 : Int32} {z9 : Int32} {z10 : Int32} {z11 : Int32} (h0 : 0 ≤ z0) (h1 : z1 ≤ 400) (h2 : z0 ≤ z1) (h3 : 0 ≤ z2) (h4 : (0 : Int32) ≤ z3 ∧ z3 ≤ (12 : Int32)) (h5 : z3 ≤ z2) (h6 : z4 = 0) (h7 : ¬ z5 = (-2 : Int32)) (h8 : ¬ z1 ≤ z0) (h9 : 0 ≤ z6 ∧ z6 ≤ z0) (h10 : z7 = 0) (h11 : (0 : Int32) ≤ z8 ∧ z8 ≤ (6 : Int32)) (h12 : z6 < z8) (h13 : z9 = (3 : Int32)) (h14 : z10 ≤ z11) : 0 ≤ z0 ∧ z0 ≤ (400 : Int32) := by first | (clear h3 h4 h5 h6 h7 h10 h13 h14; lia) | lia
set_option maxHeartbeats 200000 in
theorem qw138 {z0 : Int32} {z1 : Int32} {z2 : Int32} {z3 : Int32} {z4 : Int32} {z5 : Int32} {z6 : Int32} {z7 : Int32} {z8 : Int32} {z9 : Int32} {z10 : Int32} {z11 : Int32} {z12 : Int32} (h0 : 0 ≤ z0 ∧ z0 < 8) (h1 : 0 ≤ z1) (h2 : z2 ≤ 400) (h3 : z1 ≤ z2) (h4 : 0 ≤ z3) (h5 : (0 : Int32) ≤ z4 ∧ z4 ≤ (12 : Int32)) (h6 : z4 ≤ z3) (h7 : z5 = 0) (h8 : ¬ z6 = (-2 : Int32)) (h9 : ¬ z2 ≤ z1) (h10 : 0 ≤ z7 ∧ z7 ≤ z1) (h11 : z8 = 0) (h12 : (0 : Int32) ≤ z9 ∧ z9 ≤ (6 : Int32)) (h13 : z7 < z9) (h14 : z10 = (3 : Int32)) (h15 : z11 ≤ z12) : 0 ≤ z0 ∧ z0 < (8 : Int32) := by first | (clear h1 h2 h3 h4 h5 h6 h7 h8 h9 h10 h11 h12 h13 h14 h15; lia) | lia
set_option maxHeartbeats 200000 in
theorem qw139 {z0 : Int32} {z1 : Int32} {z2 : Int32} {z3 : Int32} {z4 : Int32} {z5 : Int32} {z6 : Int32} {z7 : Int32} {z8 : Int32} {z9 : Int32} {z10 : Int32} {z11 : Int32} (h0 : 0 ≤ z1) (h1 : z0 ≤ 400) (h2 : z1 ≤ z0) (h3 : 0 ≤ z2) (h4 : (0 : Int32) ≤ z3 ∧ z3 ≤ (12 : Int32)) (h5 : z3 ≤ z2) (h6 : z4 = 0) (h7 : ¬ z5 = (-2 : Int32)) (h8 : ¬ z0 ≤ z1) (h9 : 0 ≤ z6 ∧ z6 ≤ z1) (h10 : z7 = 0) (h11 : (0 : Int32) ≤ z8 ∧ z8 ≤ (6 : Int32)) (h12 : z6 < z8) (h13 : z9 = (3 : Int32)) (h14 : z10 ≤ z11) : z0 ≤ (400 : Int32) := by first | (clear h3 h4 h5 h6 h7 h10 h13 h14; lia) | lia
set_option maxHeartbeats 200000 in
theorem qw140 {z0 : Int32} {z1 : Int32} {z2 : Int32} {z3 : Int32} {z4 : Int32} {z5 : Int32} {z6 : Int32} {z7 : Int32} {z8 : Int32} {z9 : Int32} {z10 : Int32} {z11 : Int32} (h0 : 0 ≤ z0) (h1 : z1 ≤ 400) (h2 : z0 ≤ z1) (h3 : 0 ≤ z2) (h4 : (0 : Int32) ≤ z3 ∧ z3 ≤ (12 : Int32)) (h5 : z3 ≤ z2) (h6 : z4 = 0) (h7 : ¬ z5 = (-2 : Int32)) (h8 : ¬ z1 ≤ z0) (h9 : 0 ≤ z6 ∧ z6 ≤ z0) (h10 : z7 = 0) (h11 : (0 : Int32) ≤ z8 ∧ z8 ≤ (6 : Int32)) (h12 : z6 < z8) (h13 : z9 = (3 : Int32)) (h14 : z10 ≤ z11) : 0 ≤ (z0 + (1 : Int32)) ∧ (z0 + (1 : Int32)) ≤ (400 : Int32) := by first | (clear h3 h4 h5 h6 h7 h10 h13 h14; lia) | lia
set_option maxHeartbeats 200000 in
theorem qw141 {z0 : Int32} {z1 : Int32} {z2 : Int32} {z3 : Int32} {z4 : Int32} {z5 : Int32} {z6 : Int32} {z7 : Int32} {z8 : Int32} {z9 : Int32} {z10 : Int32} {z11 : Int32} (h0 : 0 ≤ z1) (h1 : z2 ≤ 400) (h2 : z1 ≤ z2) (h3 : 0 ≤ z3) (h4 : (0 : Int32) ≤ z4 ∧ z4 ≤ (12 : Int32)) (h5 : z4 ≤ z3) (h6 : z5 = 0) (h7 : ¬ z6 = (-2 : Int32)) (h8 : ¬ z2 ≤ z1) (h9 : 0 ≤ z0 ∧ z0 ≤ z1) (h10 : z7 = 0) (h11 : (0 : Int32) ≤ z8 ∧ z8 ≤ (6 : Int32)) (h12 : z0 < z8) (h13 : z9 = (3 : Int32)) (h14 : ¬ z10 ≤ z11) : 0 ≤ z0 ∧ z0 < (6 : Int32) := by first | (clear h3 h4 h5 h6 h7 h10 h13 h14; lia) | lia
set_option maxHeartbeats 200000 in
theorem qw142 {z0 : Int32} {z1 : Int32} {z2 : Int32} {z3 : Int32} {z4 : Int32} {z5 : Int32} {z6 : Int32} {z7 : Int32} {z8 : Int32} {z9 : Int32} {z10 : Int32} {z11 : Int32} (h0 : 0 ≤ z0) (h1 : z1 ≤ 400) (h2 : z0 ≤ z1) (h3 : 0 ≤ z2) (h4 : (0 : Int32) ≤ z3 ∧ z3 ≤ (12 : Int32)) (h5 : z3 ≤ z2) (h6 : z4 = 0) (h7 : ¬ z5 = (-2 : Int32)) (h8 : ¬ z1 ≤ z0) (h9 : 0 ≤ z6 ∧ z6 ≤ z0) (h10 : z7 = 0) (h11 : (0 : Int32) ≤ z8 ∧ z8 ≤ (6 : Int32)) (h12 : z6 < z8) (h13 : z9 = (3 : Int32)) (h14 : ¬ z10 ≤ z11) : z0 < z1 := by first | (clear h3 h4 h5 h6 h7 h10 h13 h14; lia) | lia
set_option maxHeartbeats 200000 in
theorem qw143 {z0 : Int32} {z1 : Int32} {z2 : Int32} {z3 : Int32} {z4 : Int32} {z5 : Int32} {z6 : Int32} {z7 : Int32} {z8 : Int32} {z9 : Int32} {z10 : Int32} {z11 : Int32} (h0 : 0 ≤ z0) (h1 : z1 ≤ 400) (h2 : z0 ≤ z1) (h3 : 0 ≤ z2) (h4 : (0 : Int32) ≤ z3 ∧ z3 ≤ (12 : Int32)) (h5 : z3 ≤ z2) (h6 : z4 = 0) (h7 : ¬ z5 = (-2 : Int32)) (h8 : ¬ z1 ≤ z0) (h9 : 0 ≤ z6 ∧ z6 ≤ z0) (h10 : z7 = 0) (h11 : (0 : Int32) ≤ z8 ∧ z8 ≤ (6 : Int32)) (h12 : z6 < z8) (h13 : z9 = (3 : Int32)) (h14 : ¬ z10 ≤ z11) : 0 ≤ z0 ∧ z0 ≤ (400 : Int32) := by first | (clear h3 h4 h5 h6 h7 h10 h13 h14; lia) | lia
set_option maxHeartbeats 200000 in
theorem qw144 {z0 : Int32} {z1 : Int32} {z2 : Int32} {z3 : Int32} {z4 : Int32} {z5 : Int32} {z6 : Int32} {z7 : Int32} {z8 : Int32} {z9 : Int32} {z10 : Int32} {z11 : Int32} {z12 : Int32} (h0 : 0 ≤ z0 ∧ z0 < 8) (h1 : 0 ≤ z1) (h2 : z2 ≤ 400) (h3 : z1 ≤ z2) (h4 : 0 ≤ z3) (h5 : (0 : Int32) ≤ z4 ∧ z4 ≤ (12 : Int32)) (h6 : z4 ≤ z3) (h7 : z5 = 0) (h8 : ¬ z6 = (-2 : Int32)) (h9 : ¬ z2 ≤ z1) (h10 : 0 ≤ z7 ∧ z7 ≤ z1) (h11 : z8 = 0) (h12 : (0 : Int32) ≤ z9 ∧ z9 ≤ (6 : Int32)) (h13 : z7 < z9) (h14 : z10 = (3 : Int32)) (h15 : ¬ z11 ≤ z12) : 0 ≤ z0 ∧ z0 < (8 : Int32) := by first | (clear h1 h2 h3 h4 h5 h6 h7 h8 h9 h10 h11 h12 h13 h14 h15; lia) | lia
set_option maxHeartbeats 200000 in
theorem qw145 {z0 : Int32} {z1 : Int32} {z2 : Int32} {z3 : Int32} {z4 : Int32} {z5 : Int32} {z6 : Int32} {z7 : Int32} {z8 : Int32} {z9 : Int32} {z10 : Int32} {z11 : Int32} (h0 : 0 ≤ z1) (h1 : z0 ≤ 400) (h2 : z1 ≤ z0) (h3 : 0 ≤ z2) (h4 : (0 : Int32) ≤ z3 ∧ z3 ≤ (12 : Int32)) (h5 : z3 ≤ z2) (h6 : z4 = 0) (h7 : ¬ z5 = (-2 : Int32)) (h8 : ¬ z0 ≤ z1) (h9 : 0 ≤ z6 ∧ z6 ≤ z1) (h10 : z7 = 0) (h11 : (0 : Int32) ≤ z8 ∧ z8 ≤ (6 : Int32)) (h12 : z6 < z8) (h13 : z9 = (3 : Int32)) (h14 : ¬ z10 ≤ z11) : z0 ≤ (400 : Int32) := by first | (clear h3 h4 h5 h6 h7 h10 h13 h14; lia) | lia
set_option maxHeartbeats 200000 in
theorem qw146 {z0 : Int32} {z1 : Int32} {z2 : Int32} {z3 : Int32} {z4 : Int32} {z5 : Int32} {z6 : Int32} {z7 : Int32} {z8 : Int32} {z9 : Int32} {z10 : Int32} {z11 : Int32} (h0 : 0 ≤ z0) (h1 : z1 ≤ 400) (h2 : z0 ≤ z1) (h3 : 0 ≤ z2) (h4 : (0 : Int32) ≤ z3 ∧ z3 ≤ (12 : Int32)) (h5 : z3 ≤ z2) (h6 : z4 = 0) (h7 : ¬ z5 = (-2 : Int32)) (h8 : ¬ z1 ≤ z0) (h9 : 0 ≤ z6 ∧ z6 ≤ z0) (h10 : z7 = 0) (h11 : (0 : Int32) ≤ z8 ∧ z8 ≤ (6 : Int32)) (h12 : z6 < z8) (h13 : z9 = (3 : Int32)) (h14 : ¬ z10 ≤ z11) : 0 ≤ (z0 + (1 : Int32)) ∧ (z0 + (1 : Int32)) ≤ (400 : Int32) := by first | (clear h3 h4 h5 h6 h7 h10 h13 h14; lia) | lia
set_option maxHeartbeats 200000 in
theorem qw147 {z0 : Int32} {z1 : Int32} {z2 : Int32} {z3 : Int32} {z4 : Int32} {z5 : Int32} {z6 : Int32} {z7 : Int32} {z8 : Int32} (h0 : 0 ≤ z0) (h1 : z1 ≤ 400) (h2 : z0 ≤ z1) (h3 : 0 ≤ z2) (h4 : (0 : Int32) ≤ z3 ∧ z3 ≤ (12 : Int32)) (h5 : z3 ≤ z2) (h6 : z4 = 0) (h7 : ¬ z5 = (-2 : Int32)) (h8 : ¬ z1 ≤ z0) (h9 : 0 ≤ z6 ∧ z6 ≤ z0) (h10 : z7 = 0) (h11 : (0 : Int32) ≤ z8 ∧ z8 ≤ (6 : Int32)) (h12 : ¬ z6 < z8) : z0 < z1 := by first | (clear h3 h4 h5 h6 h7 h10; lia) | lia
set_option maxHeartbeats 200000 in
theorem qw148 {z0 : Int32} {z1 : Int32} {z2 : Int32} {z3 : Int32} {z4 : Int32} {z5 : Int32} {z6 : Int32} {z7 : Int32} {z8 : Int32} (h0 : 0 ≤ z0) (h1 : z1 ≤ 400) (h2 : z0 ≤ z1) (h3 : 0 ≤ z2) (h4 : (0 : Int32) ≤ z3 ∧ z3 ≤ (12 : Int32)) (h5 : z3 ≤ z2) (h6 : z4 = 0) (h7 : ¬ z5 = (-2 : Int32)) (h8 : ¬ z1 ≤ z0) (h9 : 0 ≤ z6 ∧ z6 ≤ z0) (h10 : z7 = 0) (h11 : (0 : Int32) ≤ z8 ∧ z8 ≤ (6 : Int32)) (h12 : ¬ z6 < z8) : 0 ≤ z0 ∧ z0 ≤ (400 : Int32) := by first | (clear h3 h4 h5 h6 h7 h10; lia) | lia
set_option maxHeartbeats 200000 in
theorem qw149 {z0 : Int32} {z1 : Int32} {z2 : Int32} {z3 : Int32} {z4 : Int32} {z5 : Int32} {z6 : Int32} {z7 : Int32} {z8 : Int32} {z9 : Int32} (h0 : 0 ≤ z0 ∧ z0 < 8) (h1 : 0 ≤ z1) (h2 : z2 ≤ 400) (h3 : z1 ≤ z2) (h4 : 0 ≤ z3) (h5 : (0 : Int32) ≤ z4 ∧ z4 ≤ (12 : Int32)) (h6 : z4 ≤ z3) (h7 : z5 = 0) (h8 : ¬ z6 = (-2 : Int32)) (h9 : ¬ z2 ≤ z1) (h10 : 0 ≤ z7 ∧ z7 ≤ z1) (h11 : z8 = 0) (h12 : (0 : Int32) ≤ z9 ∧ z9 ≤ (6 : Int32)) (h13 : ¬ z7 < z9) : 0 ≤ z0 ∧ z0 < (8 : Int32) := by first | (clear h1 h2 h3 h4 h5 h6 h7 h8 h9 h10 h11 h12 h13; lia) | lia
set_option maxHeartbeats 200000 in
theorem qw150 {z0 : Int32} {z1 : Int32} {z2 : Int32} {z3 : Int32} {z4 : Int32} {z5 : Int32} {z6 : Int32} {z7 : Int32} {z8 : Int32} (h0 : 0 ≤ z1) (h1 : z0 ≤ 400) (h2 : z1 ≤ z0) (h3 : 0 ≤ z2) (h4 : (0 : Int32) ≤ z3 ∧ z3 ≤ (12 : Int32)) (h5 : z3 ≤ z2) (h6 : z4 = 0) (h7 : ¬ z5 = (-2 : Int32)) (h8 : ¬ z0 ≤ z1) (h9 : 0 ≤ z6 ∧ z6 ≤ z1) (h10 : z7 = 0) (h11 : (0 : Int32) ≤ z8 ∧ z8 ≤ (6 : Int32)) (h12 : ¬ z6 < z8) : z0 ≤ (400 : Int32) := by first | (clear h3 h4 h5 h6 h7 h10; lia) | lia
set_option maxHeartbeats 200000 in
theorem qw151 {z0 : Int32} {z1 : Int32} {z2 : Int32} {z3 : Int32} {z4 : Int32} {z5 : Int32} {z6 : Int32} {z7 : Int32} {z8 : Int32} (h0 : 0 ≤ z0) (h1 : z1 ≤ 400) (h2 : z0 ≤ z1) (h3 : 0 ≤ z2) (h4 : (0 : Int32) ≤ z3 ∧ z3 ≤ (12 : Int32)) (h5 : z3 ≤ z2) (h6 : z4 = 0) (h7 : ¬ z5 = (-2 : Int32)) (h8 : ¬ z1 ≤ z0) (h9 : 0 ≤ z6 ∧ z6 ≤ z0) (h10 : z7 = 0) (h11 : (0 : Int32) ≤ z8 ∧ z8 ≤ (6 : Int32)) (h12 : ¬ z6 < z8) : 0 ≤ (z0 + (1 : Int32)) ∧ (z0 + (1 : Int32)) ≤ (400 : Int32) := by first | (clear h3 h4 h5 h6 h7 h10; lia) | lia
set_option maxHeartbeats 200000 in
theorem qw152 {z0 : Int32} {z1 : Int32} (h0 : 0 ≤ z0) (h1 : (0 : Int32) ≤ z1 ∧ z1 ≤ (12 : Int32)) (h2 : ¬ z1 ≤ z0) : 0 ≤ (0 : Int32) := by first | (clear h0 h1 h2; lia) | lia
set_option maxHeartbeats 200000 in
theorem qw153 {z0 : Int32} {z1 : Int32} {z2 : Int32} {z3 : Int32} (h0 : 0 ≤ z1) (h1 : (0 : Int32) ≤ z2 ∧ z2 ≤ (12 : Int32)) (h2 : ¬ z2 ≤ z1) (h3 : 0 ≤ z3) (h4 : (2 : Int32) ≤ z3) (h5 : z0 = z1 + (1 : Int32)) : 0 ≤ z0 := by first | (clear h3 h4; lia) | lia
set_option maxHeartbeats 200000 in
theorem qw154 {z0 : Int32} {z1 : Int32} {z2 : Int32} {z3 : Int32} (h0 : 0 ≤ z0) (h1 : (0 : Int32) ≤ z2 ∧ z2 ≤ (12 : Int32)) (h2 : ¬ z2 ≤ z0) (h3 : 0 ≤ z3) (h4 : (2 : Int32) ≤ z3) (h5 : z1 = z0 + (1 : Int32)) : z0 < z1 := by first | (clear h3 h4; lia) | lia
set_option maxHeartbeats 200000 in
theorem qw155 {z0 : Int32} {z1 : Int32} {z2 : Int32} {z3 : Int32} (h0 : 0 ≤ z0) (h1 : (0 : Int32) ≤ z1 ∧ z1 ≤ (12 : Int32)) (h2 : ¬ z1 ≤ z0) (h3 : 0 ≤ z2) (h4 : (2 : Int32) ≤ z2) (h5 : z3 = z0 + (1 : Int32)) : z0 < (2147483647 : Int32) := by first | (clear h3 h4; lia) | lia
set_option maxHeartbeats 200000 in
theorem qw156 {z0 : Int32} {z1 : Int32} {z2 : Int32} (h0 : 0 ≤ z0) (h1 : (0 : Int32) ≤ z1 ∧ z1 ≤ (12 : Int32)) (h2 : ¬ z1 ≤ z0) (h3 : 0 ≤ z2) (h4 : ¬ (2 : Int32) ≤ z2) (h5 : ¬ z2 = 0) : 0 ≤ z0 ∧ z0 < (12 : Int32) := by first | (clear h3 h4 h5; lia) | lia
set_option maxHeartbeats 200000 in
theorem qw157 {z0 : Int32} {z1 : Int32} {z2 : Int32} (h0 : 0 ≤ z0) (h1 : (0 : Int32) ≤ z1 ∧ z1 ≤ (12 : Int32)) (h2 : ¬ z1 ≤ z0) (h3 : 0 ≤ z2) (h4 : ¬ (2 : Int32) ≤ z2) (h5 : ¬ z2 = 0) : 0 ≤ z0 ∧ z0 < z1 := by first | (clear h3 h4 h5; lia) | lia
set_option maxHeartbeats 200000 in
theorem qw158 {z0 : Int32} {z1 : Int32} {z2 : Int32} {z3 : Int32} {z4 : Int32} {z5 : Int32} {z6 : Int32} {z7 : Int32} (h0 : 0 ≤ z1 ∧ z1 < 8) (h1 : (0 : Int32) ≤ z2 ∧ z2 ≤ (4 : Int32)) (h2 : 0 ≤ z0 ∧ z0 < z2) (h3 : 0 ≤ z3) (h4 : (0 : Int32) ≤ z4 ∧ z4 ≤ (12 : Int32)) (h5 : ¬ z4 ≤ z3) (h6 : 0 ≤ z5) (h7 : ¬ (2 : Int32) ≤ z5) (h8 : ¬ z5 = 0) (h9 : (0 : Int32) ≤ z6 ∧ z6 ≤ (7 : Int32)) (h10 : (0 : Int32) ≤ z7 ∧ z7 ≤ (8 : Int32)) (h11 : z6 < z7) (h12 : z6 = z1) : 0 ≤ z0 ∧ z0 < (4 : Int32) := by first | (clear h0 h3 h4 h5 h6 h7 h8 h9 h10 h11 h12; lia) | lia
set_option maxHeartbeats 200000 in
theorem qw159 {z0 : Int32} {z1 : Int32} {z2 : Int32} {z3 : Int32} {z4 : Int32} {z5 : Int32} {z6 : Int32} {z7 : Int32} (h0 : 0 ≤ z2 ∧ z2 < 8) (h1 : (0 : Int32) ≤ z1 ∧ z1 ≤ (4 : Int32)) (h2 : 0 ≤ z0 ∧ z0 < z1) (h3 : 0 ≤ z3) (h4 : (0 : Int32) ≤ z4 ∧ z4 ≤ (12 : Int32)) (h5 : ¬ z4 ≤ z3) (h6 : 0 ≤ z5) (h7 : ¬ (2 : Int32) ≤ z5) (h8 : ¬ z5 = 0) (h9 : (0 : Int32) ≤ z6 ∧ z6 ≤ (7 : Int32)) (h10 : (0 : Int32) ≤ z7 ∧ z7 ≤ (8 : Int32)) (h11 : z6 < z7) (h12 : z6 = z2) : 0 ≤ z0 ∧ z0 < z1 := by first | (clear h0 h3 h4 h5 h6 h7 h8 h9 h10 h11 h12; lia) | lia
set_option maxHeartbeats 200000 in
theorem qw160 {z0 : Int32} {z1 : Int32} {z2 : Int32} {z3 : Int32} {z4 : Int32} {z5 : Int32} {z6 : Int32} (h0 : 0 ≤ z1 ∧ z1 < 8) (h1 : 0 ≤ z2) (h2 : (0 : Int32) ≤ z3 ∧ z3 ≤ (12 : Int32)) (h3 : ¬ z3 ≤ z2) (h4 : 0 ≤ z4) (h5 : ¬ (2 : Int32) ≤ z4) (h6 : ¬ z4 = 0) (h7 : (0 : Int32) ≤ z5 ∧ z5 ≤ (7 : Int32)) (h8 : (0 : Int32) ≤ z6 ∧ z6 ≤ (8 : Int32)) (h9 : z5 < z6) (h10 : z5 = z1) (h11 : (1 : Int32) ≤ z0 ∧ z0 ≤ (9 : Int32)) : 1 ≤ z0 := by first | (clear h0 h1 h2 h3 h4 h5 h6 h7 h8 h9 h10; lia) | lia
set_option maxHeartbeats 200000 in
theorem qw161 {z0 : Int32} {z1 : Int32} {z2 : Int32} {z3 : Int32} {z4 : Int32} {z5 : Int32} {z6 : Int32} {z7 : Int32} {z8 : Int32} (h0 : 0 ≤ z1 ∧ z1 < 8) (h1 : 0 ≤ z2) (h2 : (0 : Int32) ≤ z3 ∧ z3 ≤ (12 : Int32)) (h3 : ¬ z3 ≤ z2) (h4 : 0 ≤ z4) (h5 : ¬ (2 : Int32) ≤ z4) (h6 : ¬ z4 = 0) (h7 : (0 : Int32) ≤ z5 ∧ z5 ≤ (7 : Int32)) (h8 : (0 : Int32) ≤ z6 ∧ z6 ≤ (8 : Int32)) (h9 : z5 < z6) (h10 : z5 = z1) (h11 : 1 ≤ z7) (h12 : (0 : Int32) ≤ z8 ∧ z8 ≤ (9 : Int32)) (h13 : z8 < z7) (h14 : z0 = z4 + (1 : Int32)) : 0 ≤ z0 := by first | (clear h0 h1 h2 h3 h7 h8 h9 h10 h11 h12 h13; lia) | lia
set_option maxHeartbeats 200000 in
theorem qw162 {z0 : Int32} {z1 : Int32} {z2 : Int32} {z3 : Int32} {z4 : Int32} {z5 : Int32} {z6 : Int32} {z7 : Int32} {z8 : Int32} (h0 : 0 ≤ z2 ∧ z2 < 8) (h1 : 0 ≤ z3) (h2 : (0 : Int32) ≤ z4 ∧ z4 ≤ (12 : Int32)) (h3 : ¬ z4 ≤ z3) (h4 : 0 ≤ z0) (h5 : ¬ (2 : Int32) ≤ z0) (h6 : ¬ z0 = 0) (h7 : (0 : Int32) ≤ z5 ∧ z5 ≤ (7 : Int32)) (h8 : (0 : Int32) ≤ z6 ∧ z6 ≤ (8 : Int32)) (h9 : z5 < z6) (h10 : z5 = z2) (h11 : 1 ≤ z7) (h12 : (0 : Int32) ≤ z8 ∧ z8 ≤ (9 : Int32)) (h13 : z8 < z7) (h14 : z1 = z0 + (1 : Int32)) : z0 < z1 := by first | (clear h0 h1 h2 h3 h7 h8 h9 h10 h11 h12 h13; lia) | lia
set_option maxHeartbeats 200000 in
theorem qw163 {z0 : Int32} {z1 : Int32} {z2 : Int32} {z3 : Int32} {z4 : Int32} {z5 : Int32} {z6 : Int32} {z7 : Int32} {z8 : Int32} (h0 : 0 ≤ z1 ∧ z1 < 8) (h1 : 0 ≤ z2) (h2 : (0 : Int32) ≤ z3 ∧ z3 ≤ (12 : Int32)) (h3 : ¬ z3 ≤ z2) (h4 : 0 ≤ z0) (h5 : ¬ (2 : Int32) ≤ z0) (h6 : ¬ z0 = 0) (h7 : (0 : Int32) ≤ z4 ∧ z4 ≤ (7 : Int32)) (h8 : (0 : Int32) ≤ z5 ∧ z5 ≤ (8 : Int32)) (h9 : z4 < z5) (h10 : z4 = z1) (h11 : 1 ≤ z6) (h12 : (0 : Int32) ≤ z7 ∧ z7 ≤ (9 : Int32)) (h13 : z7 < z6) (h14 : z8 = z0 + (1 : Int32)) : z0 < (2147483647 : Int32) := by first | (clear h0 h1 h2 h3 h7 h8 h9 h10 h11 h12 h13; lia) | lia
set_option maxHeartbeats 200000 in
theorem qw164 {z0 : Int32} {z1 : Int32} {z2 : Int32} {z3 : Int32} {z4 : Int32} {z5 : Int32} {z6 : Int32} {z7 : Int32} (h0 : 0 ≤ z1 ∧ z1 < 8) (h1 : 0 ≤ z0) (h2 : (0 : Int32) ≤ z2 ∧ z2 ≤ (12 : Int32)) (h3 : ¬ z2 ≤ z0) (h4 : 0 ≤ z3) (h5 : ¬ (2 : Int32) ≤ z3) (h6 : ¬ z3 = 0) (h7 : (0 : Int32) ≤ z4 ∧ z4 ≤ (7 : Int32)) (h8 : (0 : Int32) ≤ z5 ∧ z5 ≤ (8 : Int32)) (h9 : z4 < z5) (h10 : z4 = z1) (h11 : 1 ≤ z6) (h12 : (0 : Int32) ≤ z7 ∧ z7 ≤ (9 : Int32)) (h13 : ¬ z7 < z6) : 0 ≤ z0 ∧ z0 < (12 : Int32) := by first | (clear h0 h4 h5 h6 h7 h8 h9 h10 h11 h12 h13; lia) | lia
set_option maxHeartbeats 200000 in
theorem qw165 {z0 : Int32} {z1 : Int32} {z2 : Int32} {z3 : Int32} {z4 : Int32} {z5 : Int32} {z6 : Int32} {z7 : Int32} (h0 : 0 ≤ z2 ∧ z2 < 8) (h1 : 0 ≤ z0) (h2 : (0 : Int32) ≤ z1 ∧ z1 ≤ (12 : Int32)) (h3 : ¬ z1 ≤ z0) (h4 : 0 ≤ z3) (h5 : ¬ (2 : Int32) ≤ z3) (h6 : ¬ z3 = 0) (h7 : (0 : Int32) ≤ z4 ∧ z4 ≤ (7 : Int32)) (h8 : (0 : Int32) ≤ z5 ∧ z5 ≤ (8 : Int32)) (h9 : z4 < z5) (h10 : z4 = z2) (h11 : 1 ≤ z6) (h12 : (0 : Int32) ≤ z7 ∧ z7 ≤ (9 : Int32)) (h13 : ¬ z7 < z6) : 0 ≤ z0 ∧ z0 < z1 := by first | (clear h0 h4 h5 h6 h7 h8 h9 h10 h11 h12 h13; lia) | lia
set_option maxHeartbeats 200000 in
theorem qw166 {z0 : Int32} {z1 : Int32} {z2 : Int32} {z3 : Int32} {z4 : Int32} {z5 : Int32} {z6 : Int32} {z7 : Int32} (h0 : 0 ≤ z1 ∧ z1 < 8) (h1 : 0 ≤ z2) (h2 : (0 : Int32) ≤ z3 ∧ z3 ≤ (12 : Int32)) (h3 : ¬ z3 ≤ z2) (h4 : 0 ≤ z4) (h5 : ¬ (2 : Int32) ≤ z4) (h6 : ¬ z4 = 0) (h7 : (0 : Int32) ≤ z5 ∧ z5 ≤ (7 : Int32)) (h8 : (0 : Int32) ≤ z6 ∧ z6 ≤ (8 : Int32)) (h9 : z5 < z6) (h10 : z5 = z1) (h11 : 1 ≤ z0) (h12 : (0 : Int32) ≤ z7 ∧ z7 ≤ (9 : Int32)) (h13 : ¬ z7 < z0) : ¬ z0 = 0 := by first | (clear h0 h1 h2 h3 h4 h5 h6 h7 h8 h9 h10; lia) | lia
set_option maxHeartbeats 200000 in
theorem qw167 {z0 : Int32} {z1 : Int32} {z2 : Int32} {z3 : Int32} {z4 : Int32} {z5 : Int32} {z6 : Int32} {z7 : Int32} {z8 : Int32} (h0 : 0 ≤ z2 ∧ z2 < 8) (h1 : 0 ≤ z3) (h2 : (0 : Int32) ≤ z4 ∧ z4 ≤ (12 : Int32)) (h3 : ¬ z4 ≤ z3) (h4 : 0 ≤ z5) (h5 : ¬ (2 : Int32) ≤ z5) (h6 : ¬ z5 = 0) (h7 : (0 : Int32) ≤ z6 ∧ z6 ≤ (7 : Int32)) (h8 : (0 : Int32) ≤ z7 ∧ z7 ≤ (8 : Int32)) (h9 : z6 < z7) (h10 : z6 = z2) (h11 : 1 ≤ z1) (h12 : (0 : Int32) ≤ z8 ∧ z8 ≤ (9 : Int32)) (h13 : ¬ z8 < z1) (h14 : (1 : Int32) ≤ z0 ∧ z0 ≤ (60 : Int32)) : 0 ≤ ((z0 + z1) - (1 : Int32)) := by first | (clear h0 h1 h2 h3 h4 h5 h6 h7 h8 h9 h10; lia) | lia
set_option maxHeartbeats 200000 in
theorem qw168 {z0 : Int32} {z1 : Int32} {z2 : Int32} {z3 : Int32} {z4 : Int32} {z5 : Int32} {z6 : Int32} {z7 : Int32} (h0 : 0 ≤ z1 ∧ z1 < 8) (h1 : 0 ≤ z2) (h2 : (0 : Int32) ≤ z3 ∧ z3 ≤ (12 : Int32)) (h3 : ¬ z3 ≤ z2) (h4 : 0 ≤ z4) (h5 : ¬ (2 : Int32) ≤ z4) (h6 : ¬ z4 = 0) (h7 : (0 : Int32) ≤ z5 ∧ z5 ≤ (7 : Int32)) (h8 : (0 : Int32) ≤ z6 ∧ z6 ≤ (8 : Int32)) (h9 : z5 < z6) (h10 : z5 = z1) (h11 : 1 ≤ z0) (h12 : (0 : Int32) ≤ z7 ∧ z7 ≤ (9 : Int32)) (h13 : ¬ z7 < z0) : (1 : Int32) ≤ z0 := by first | (clear h0 h1 h2 h3 h4 h5 h6 h7 h8 h9 h10; lia) | lia
set_option maxHeartbeats 200000 in
theorem qw169 {z0 : Int32} {z1 : Int32} {z2 : Int32} {z3 : Int32} {z4 : Int32} {z5 : Int32} {z6 : Int32} {z7 : Int32} (h0 : 0 ≤ z1 ∧ z1 < 8) (h1 : 0 ≤ z2) (h2 : (0 : Int32) ≤ z3 ∧ z3 ≤ (12 : Int32)) (h3 : ¬ z3 ≤ z2) (h4 : 0 ≤ z4) (h5 : ¬ (2 : Int32) ≤ z4) (h6 : ¬ z4 = 0) (h7 : (0 : Int32) ≤ z5 ∧ z5 ≤ (7 : Int32)) (h8 : (0 : Int32) ≤ z6 ∧ z6 ≤ (8 : Int32)) (h9 : z5 < z6) (h10 : z5 = z1) (h11 : 1 ≤ z0) (h12 : (0 : Int32) ≤ z7 ∧ z7 ≤ (9 : Int32)) (h13 : ¬ z7 < z0) : 0 < z0 := by first | (clear h0 h1 h2 h3 h4 h5 h6 h7 h8 h9 h10; lia) | lia
set_option maxHeartbeats 200000 in
theorem qw170 {z0 : Int32} {z1 : Int32} {z2 : Int32} {z3 : Int32} {z4 : Int32} {z5 : Int32} {z6 : Int32} {z7 : Int32} {z8 : Int32} (h0 : 0 ≤ z2 ∧ z2 < 8) (h1 : 0 ≤ z3) (h2 : (0 : Int32) ≤ z4 ∧ z4 ≤ (12 : Int32)) (h3 : ¬ z4 ≤ z3) (h4 : 0 ≤ z5) (h5 : ¬ (2 : Int32) ≤ z5) (h6 : ¬ z5 = 0) (h7 : (0 : Int32) ≤ z6 ∧ z6 ≤ (7 : Int32)) (h8 : (0 : Int32) ≤ z7 ∧ z7 ≤ (8 : Int32)) (h9 : z6 < z7) (h10 : z6 = z2) (h11 : 1 ≤ z0) (h12 : (0 : Int32) ≤ z8 ∧ z8 ≤ (9 : Int32)) (h13 : ¬ z8 < z0) (h14 : (1 : Int32) ≤ z1 ∧ z1 ≤ (60 : Int32)) : z0 ≤ ((z1 + z0) - (1 : Int32)) := by first | (clear h0 h1 h2 h3 h4 h5 h6 h7 h8 h9 h10; lia) | lia
set_option maxHeartbeats 200000 in
theorem qw171 {z0 : Int32} {z1 : Int32} {z2 : Int32} {z3 : Int32} {z4 : Int32} {z5 : Int32} {z6 : Int32} {z7 : Int32} {z8 : Int32} {z9 : Int32} {z10 : Int32} {z11 : Int32} {z12 : Int32} {z13 : Int32} (h0 : 0 ≤ z1 ∧ z1 < 8) (h1 : 0 ≤ z2) (h2 : z3 ≤ 400) (h3 : z2 ≤ z3) (h4 : 0 ≤ z4) (h5 : (0 : Int32) ≤ z5 ∧ z5 ≤ (12 : Int32)) (h6 : ¬ z5 ≤ z4) (h7 : 0 ≤ z6) (h8 : ¬ (2 : Int32) ≤ z6) (h9 : ¬ z6 = 0) (h10 : (0 : Int32) ≤ z7 ∧ z7 ≤ (7 : Int32)) (h11 : (0 : Int32) ≤ z8 ∧ z8 ≤ (8 : Int32)) (h12 : z7 < z8) (h13 : z7 = z1) (h14 : 1 ≤ z9) (h15 : (0 : Int32) ≤ z10 ∧ z10 ≤ (9 : Int32)) (h16 : ¬ z10 < z9) (h17 : (1 : Int32) ≤ z11 ∧ z11 ≤ (60 : Int32)) (h18 : 0 ≤ z12 ∧ z12 ≤ ((z11 + z9) - (1 : Int32))) (h19 : (1 : Int32) ≤ z12) (h20 : z13 = z2 + z12) (h21 : z3 < z13) (h22 : z0 = z9 + (1 : Int32)) : 1 ≤ z0 := by first | (clear h0 h4 h5 h6 h7 h8 h9 h10 h11 h12 h13; lia) | lia
set_option maxHeartbeats 200000 in
theorem qw172 {z0 : Int32} {z1 : Int32} {z2 : Int32} {z3 : Int32} {z4 : Int32} {z5 : Int32} {z6 : Int32} {z7 : Int32} {z8 : Int32} {z9 : Int32} {z10 : Int32} {z11 : Int32} {z12 : Int32} {z13 : Int32} (h0 : 0 ≤ z2 ∧ z2 < 8) (h1 : 0 ≤ z3) (h2 : z4 ≤ 400) (h3 : z3 ≤ z4) (h4 : 0 ≤ z5) (h5 : (0 : Int32) ≤ z6 ∧ z6 ≤ (12 : Int32)) (h6 : ¬ z6 ≤ z5) (h7 : 0 ≤ z7) (h8 : ¬ (2 : Int32) ≤ z7) (h9 : ¬ z7 = 0) (h10 : (0 : Int32) ≤ z8 ∧ z8 ≤ (7 : Int32)) (h11 : (0 : Int32) ≤ z9 ∧ z9 ≤ (8 : Int32)) (h12 : z8 < z9) (h13 : z8 = z2) (h14 : 1 ≤ z0) (h15 : (0 : Int32) ≤ z10 ∧ z10 ≤ (9 : Int32)) (h16 : ¬ z10 < z0) (h17 : (1 : Int32) ≤ z11 ∧ z11 ≤ (60 : Int32)) (h18 : 0 ≤ z12 ∧ z12 ≤ ((z11 + z0) - (1 : Int32))) (h19 : (1 : Int32) ≤ z12) (h20 : z13 = z3 + z12) (h21 : z4 < z13) (h22 : z1 = z0 + (1 : Int32)) : z0 < z1 := by first | (clear h0 h4 h5 h6 h7 h8 h9 h10 h11 h12 h13; lia) | lia
set_option maxHeartbeats 200000 in
theorem qw173 {z0 : Int32} {z1 : Int32} {z2 : Int32} {z3 : Int32} {z4 : Int32} {z5 : Int32} {z6 : Int32} {z7 : Int32} {z8 : Int32} {z9 : Int32} {z10 : Int32} {z11 : Int32} {z12 : Int32} {z13 : Int32} (h0 : 0 ≤ z1 ∧ z1 < 8) (h1 : 0 ≤ z2) (h2 : z3 ≤ 400) (h3 : z2 ≤ z3) (h4 : 0 ≤ z4) (h5 : (0 : Int32) ≤ z5 ∧ z5 ≤ (12 : Int32)) (h6 : ¬ z5 ≤ z4) (h7 : 0 ≤ z6) (h8 : ¬ (2 : Int32) ≤ z6) (h9 : ¬ z6 = 0) (h10 : (0 : Int32) ≤ z7 ∧ z7 ≤ (7 : Int32)) (h11 : (0 : Int32) ≤ z8 ∧ z8 ≤ (8 : Int32)) (h12 : z7 < z8) (h13 : z7 = z1) (h14 : 1 ≤ z0) (h15 : (0 : Int32) ≤ z9 ∧ z9 ≤ (9 : Int32)) (h16 : ¬ z9 < z0) (h17 : (1 : Int32) ≤ z10 ∧ z10 ≤ (60 : Int32)) (h18 : 0 ≤ z11 ∧ z11 ≤ ((z10 + z0) - (1 : Int32))) (h19 : (1 : Int32) ≤ z11) (h20 : z12 = z2 + z11) (h21 : z3 < z12) (h22 : z13 = z0 + (1 : Int32)) : z0 < (2147483647 : Int32) := by first | (clear h0 h4 h5 h6 h7 h8 h9 h10 h11 h12 h13; lia) | lia
set_option maxHeartbeats 200000 in
theorem qw174 {z0 : Int32} {z1 : Int32} {z2 : Int32} {z3 : Int32} {z4 : Int32} {z5 : Int32} {z6 : Int32} {z7 : Int32} {z8 : Int32} {z9 : Int32} {z10 : Int32} {z11 : Int32} {z12 : Int32} (h0 : 0 ≤ z1 ∧ z1 < 8) (h1 : 0 ≤ z2) (h2 : z3 ≤ 400) (h3 : z2 ≤ z3) (h4 : 0 ≤ z0) (h5 : (0 : Int32) ≤ z4 ∧ z4 ≤ (12 : Int32)) (h6 : ¬ z4 ≤ z0) (h7 : 0 ≤ z5) (h8 : ¬ (2 : Int32) ≤ z5) (h9 : ¬ z5 = 0) (h10 : (0 : Int32) ≤ z6 ∧ z6 ≤ (7 : Int32)) (h11 : (0 : Int32) ≤ z7 ∧ z7 ≤ (8 : Int32)) (h12 : z6 < z7) (h13 : z6 = z1) (h14 : 1 ≤ z8) (h15 : (0 : Int32) ≤ z9 ∧ z9 ≤ (9 : Int32)) (h16 : ¬ z9 < z8) (h17 : (1 : Int32) ≤ z10 ∧ z10 ≤ (60 : Int32)) (h18 : 0 ≤ z11 ∧ z11 ≤ ((z10 + z8) - (1 : Int32))) (h19 : (1 : Int32) ≤ z11) (h20 : z12 = z2 + z11) (h21 : ¬ z3 < z12) (h22 : ¬ z5 = 0) : 0 ≤ z0 ∧ z0 < (12 : Int32) := by first | (clear h0 h1 h2 h3 h7 h8 h9 h10 h11 h12 h13 h14 h15 h16 h17 h18 h19 h20 h21 h22; lia) | lia
set_option maxHeartbeats 200000 in
theorem qw175 {z0 : Int32} {z1 : Int32} {z2 : Int32} {z3 : Int32} {z4 : Int32} {z5 : Int32} {z6 : Int32} {z7 : Int32} {z8 : Int32} {z9 : Int32} {z10 : Int32} {z11 : Int32} {z12 : Int32} (h0 : 0 ≤ z2 ∧ z2 < 8) (h1 : 0 ≤ z3) (h2 : z4 ≤ 400) (h3 : z3 ≤ z4) (h4 : 0 ≤ z0) (h5 : (0 : Int32) ≤ z1 ∧ z1 ≤ (12 : Int32)) (h6 : ¬ z1 ≤ z0) (h7 : 0 ≤ z5) (h8 : ¬ (2 : Int32) ≤ z5) (h9 : ¬ z5 = 0) (h10 : (0 : Int32) ≤ z6 ∧ z6 ≤ (7 : Int32)) (h11 : (0 : Int32) ≤ z7 ∧ z7 ≤ (8 : Int32)) (h12 : z6 < z7) (h13 : z6 = z2) (h14 : 1 ≤ z8) (h15 : (0 : Int32) ≤ z9 ∧ z9 ≤ (9 : Int32)) (h16 : ¬ z9 < z8) (h17 : (1 : Int32) ≤ z10 ∧ z10 ≤ (60 : Int32)) (h18 : 0 ≤ z11 ∧ z11 ≤ ((z10 + z8) - (1 : Int32))) (h19 : (1 : Int32) ≤ z11) (h20 : z12 = z3 + z11) (h21 : ¬ z4 < z12) (h22 : ¬ z5 = 0) : 0 ≤ z0 ∧ z0 < z1 := by first | (clear h0 h1 h2 h3 h7 h8 h9 h10 h11 h12 h13 h14 h15 h16 h17 h18 h19 h20 h21 h22; lia) | lia
set_option maxHeartbeats 200000 in
theorem qw176 {z0 : Int32} {z1 : Int32} {z2 : Int32} {z3 : Int32} {z4 : Int32} {z5 : Int32} {z6 : Int32} {z7 : Int32} {z8 : Int32} {z9 : Int32} {z10 : Int32} {z11 : Int32} {z12 : Int32} {z13 : Int32} {z14 : Int32} {z15 : Int32} (h0 : 0 ≤ z1 ∧ z1 < 8) (h1 : 0 ≤ z2) (h2 : z3 ≤ 400) (h3 : z2 ≤ z3) (h4 : (0 : Int32) ≤ z4 ∧ z4 ≤ (4 : Int32)) (h5 : 0 ≤ z0 ∧ z0 < z4) (h6 : 0 ≤ z5) (h7 : (0 : Int32) ≤ z6 ∧ z6 ≤ (12 : Int32)) (h8 : ¬ z6 ≤ z5) (h9 : 0 ≤ z7) (h10 : ¬ (2 : Int32) ≤ z7) (h11 : ¬ z7 = 0) (h12 : (0 : Int32) ≤ z8 ∧ z8 ≤ (7 : Int32)) (h13 : (0 : Int32) ≤ z9 ∧ z9 ≤ (8 : Int32)) (h14 : z8 < z9) (h15 : z8 = z1) (h16 : 1 ≤ z10) (h17 : (0 : Int32) ≤ z11 ∧ z11 ≤ (9 : Int32)) (h18 : ¬ z11 < z10) (h19 : (1 : Int32) ≤ z12 ∧ z12 ≤ (60 : Int32)) (h20 : 0 ≤ z13 ∧ z13 ≤ ((z12 + z10) - (1 : Int32))) (h21 : (1 : Int32) ≤ z13) (h22 : z14 = z2 + z13) (h23 : ¬ z3 < z14) (h24 : ¬ z7 = 0) (h25 : (0 : Int32) ≤ z15 ∧ z15 ≤ (7 : Int32)) (h26 : z15 < z9) : 0 ≤ z0 ∧ z0 < 4 := by first | (clear h0 h1 h2 h3 h6 h7 h8 h9 h10 h11 h12 h13 h14 h15 h16 h17 h18 h19 h20 h21 h22 h23 h24 h25 h26; lia) | lia
set_option maxHeartbeats 200000 in
theorem qw177 {z0 : Int32} {z1 : Int32} {z2 : Int32} {z3 : Int32} {z4 : Int32} {z5 : Int32} {z6 : Int32} {z7 : Int32} {z8 : Int32} {z9 : Int32} {z10 : Int32} {z11 : Int32} {z12 : Int32} {z13 : Int32} (h0 : 0 ≤ z1 ∧ z1 < 8) (h1 : 0 ≤ z2) (h2 : z3 ≤ 400) (h3 : z2 ≤ z3) (h4 : 0 ≤ z0) (h5 : (0 : Int32) ≤ z4 ∧ z4 ≤ (12 : Int32)) (h6 : ¬ z4 ≤ z0) (h7 : 0 ≤ z5) (h8 : ¬ (2 : Int32) ≤ z5) (h9 : ¬ z5 = 0) (h10 : (0 : Int32) ≤ z6 ∧ z6 ≤ (7 : Int32)) (h11 : (0 : Int32) ≤ z7 ∧ z7 ≤ (8 : Int32)) (h12 : z6 < z7) (h13 : z6 = z1) (h14 : 1 ≤ z8) (h15 : (0 : Int32) ≤ z9 ∧ z9 ≤ (9 : Int32)) (h16 : ¬ z9 < z8) (h17 : (1 : Int32) ≤ z10 ∧ z10 ≤ (60 : Int32)) (h18 : 0 ≤ z11 ∧ z11 ≤ ((z10 + z8) - (1 : Int32))) (h19 : (1 : Int32) ≤ z11) (h20 : z12 = z2 + z11) (h21 : ¬ z3 < z12) (h22 : ¬ z5 = 0) (h23 : (0 : Int32) ≤ z13 ∧ z13 ≤ (7 : Int32)) (h24 : z13 < z7) : 0 ≤ z0 ∧ z0 < 12 := by first | (clear h0 h1 h2 h3 h7 h8 h9 h10 h11 h12 h13 h14 h15 h16 h17 h18 h19 h20 h21 h22 h23 h24; lia) | lia
set_option maxHeartbeats 200000 in
theorem qw178 {z0 : Int32} {z1 : Int32} {z2 : Int32} {z3 : Int32} {z4 : Int32} {z5 : Int32} {z6 : Int32} {z7 : Int32} {z8 : Int32} {z9 : Int32} {z10 : Int32} {z11 : Int32} {z12 : Int32} {z13 : Int32} (h0 : 0 ≤ z1 ∧ z1 < 8) (h1 : 0 ≤ z0) (h2 : z2 ≤ 400) (h3 : z0 ≤ z2) (h4 : 0 ≤ z3) (h5 : (0 : Int32) ≤ z4 ∧ z4 ≤ (12 : Int32)) (h6 : ¬ z4 ≤ z3) (h7 : 0 ≤ z5) (h8 : ¬ (2 : Int32) ≤ z5) (h9 : ¬ z5 = 0) (h10 : (0 : Int32) ≤ z6 ∧ z6 ≤ (7 : Int32)) (h11 : (0 : Int32) ≤ z7 ∧ z7 ≤ (8 : Int32)) (h12 : z6 < z7) (h13 : z6 = z1) (h14 : 1 ≤ z8) (h15 : (0 : Int32) ≤ z9 ∧ z9 ≤ (9 : Int32)) (h16 : ¬ z9 < z8) (h17 : (1 : Int32) ≤ z10 ∧ z10 ≤ (60 : Int32)) (h18 : 0 ≤ z11 ∧ z11 ≤ ((z10 + z8) - (1 : Int32))) (h19 : (1 : Int32) ≤ z11) (h20 : z12 = z0 + z11) (h21 : ¬ z2 < z12) (h22 : ¬ z5 = 0) (h23 : (0 : Int32) ≤ z13 ∧ z13 ≤ (7 : Int32)) (h24 : z13 < z7) : 0 ≤ z0 := by first | (clear h0 h4 h5 h6 h7 h8 h9 h10 h11 h12 h13 h22 h23 h24; lia) | lia
set_option maxHeartbeats 200000 in
theorem qw179 {z0 : Int32} {z1 : Int32} {z2 : Int32} {z3 : Int32} {z4 : Int32} {z5 : Int32} {z6 : Int32} {z7 : Int32} {z8 : Int32} {z9 : Int32} {z10 : Int32} {z11 : Int32} {z12 : Int32} {z13 : Int32} (h0 : 0 ≤ z1 ∧ z1 < 8) (h1 : 0 ≤ z2) (h2 : z3 ≤ 400) (h3 : z2 ≤ z3) (h4 : 0 ≤ z4) (h5 : (0 : Int32) ≤ z5 ∧ z5 ≤ (12 : Int32)) (h6 : ¬ z5 ≤ z4) (h7 : 0 ≤ z6) (h8 : ¬ (2 : Int32) ≤ z6) (h9 : ¬ z6 = 0) (h10 : (0 : Int32) ≤ z7 ∧ z7 ≤ (7 : Int32)) (h11 : (0 : Int32) ≤ z8 ∧ z8 ≤ (8 : Int32)) (h12 : z7 < z8) (h13 : z7 = z1) (h14 : 1 ≤ z0) (h15 : (0 : Int32) ≤ z9 ∧ z9 ≤ (9 : Int32)) (h16 : ¬ z9 < z0) (h17 : (1 : Int32) ≤ z10 ∧ z10 ≤ (60 : Int32)) (h18 : 0 ≤ z11 ∧ z11 ≤ ((z10 + z0) - (1 : Int32))) (h19 : (1 : Int32) ≤ z11) (h20 : z12 = z2 + z11) (h21 : ¬ z3 < z12) (h22 : ¬ z6 = 0) (h23 : (0 : Int32) ≤ z13 ∧ z13 ≤ (7 : Int32)) (h24 : z13 < z8) : 1 ≤ z0 := by first | (clear h0 h4 h5 h6 h7 h8 h9 h10 h11 h12 h13 h22 h23 h24; lia) | lia
set_option maxHeartbeats 200000 in
theorem qw180 {z0 : Int32} {z1 : Int32} {z2 : Int32} {z3 : Int32} {z4 : Int32} {z5 : Int32} {z6 : Int32} {z7 : Int32} {z8 : Int32} {z9 : Int32} {z10 : Int32} {z11 : Int32} {z12 : Int32} {z13 : Int32} (h0 : 0 ≤ z2 ∧ z2 < 8) (h1 : 0 ≤ z3) (h2 : z4 ≤ 400) (h3 : z3 ≤ z4) (h4 : 0 ≤ z0) (h5 : (0 : Int32) ≤ z1 ∧ z1 ≤ (12 : Int32)) (h6 : ¬ z1 ≤ z0) (h7 : 0 ≤ z5) (h8 : ¬ (2 : Int32) ≤ z5) (h9 : ¬ z5 = 0) (h10 : (0 : Int32) ≤ z6 ∧ z6 ≤ (7 : Int32)) (h11 : (0 : Int32) ≤ z7 ∧ z7 ≤ (8 : Int32)) (h12 : z6 < z7) (h13 : z6 = z2) (h14 : 1 ≤ z8) (h15 : (0 : Int32) ≤ z9 ∧ z9 ≤ (9 : Int32)) (h16 : ¬ z9 < z8) (h17 : (1 : Int32) ≤ z10 ∧ z10 ≤ (60 : Int32)) (h18 : 0 ≤ z11 ∧ z11 ≤ ((z10 + z8) - (1 : Int32))) (h19 : (1 : Int32) ≤ z11) (h20 : z12 = z3 + z11) (h21 : ¬ z4 < z12) (h22 : ¬ z5 = 0) (h23 : (0 : Int32) ≤ z13 ∧ z13 ≤ (7 : Int32)) (h24 : z13 < z7) : 0 ≤ z0 ∧ z0 < z1 := by first | (clear h0 h1 h2 h3 h7 h8 h9 h10 h11 h12 h13 h14 h15 h16 h17 h18 h19 h20 h21 h22 h23 h24; lia) | lia
set_option maxHeartbeats 200000 in
theorem qw181 {z0 : Int32} {z1 : Int32} {z2 : Int32} {z3 : Int32} {z4 : Int32} {z5 : Int32} {z6 : Int32} {z7 : Int32} {z8 : Int32} {z9 : Int32} {z10 : Int32} {z11 : Int32} {z12 : Int32} {z13 : Int32} (h0 : 0 ≤ z1 ∧ z1 < 8) (h1 : 0 ≤ z2) (h2 : z3 ≤ 400) (h3 : z2 ≤ z3) (h4 : 0 ≤ z4) (h5 : (0 : Int32) ≤ z5 ∧ z5 ≤ (12 : Int32)) (h6 : ¬ z5 ≤ z4) (h7 : 0 ≤ z0) (h8 : ¬ (2 : Int32) ≤ z0) (h9 : ¬ z0 = 0) (h10 : (0 : Int32) ≤ z6 ∧ z6 ≤ (7 : Int32)) (h11 : (0 : Int32) ≤ z7 ∧ z7 ≤ (8 : Int32)) (h12 : z6 < z7) (h13 : z6 = z1) (h14 : 1 ≤ z8) (h15 : (0 : Int32) ≤ z9 ∧ z9 ≤ (9 : Int32)) (h16 : ¬ z9 < z8) (h17 : (1 : Int32) ≤ z10 ∧ z10 ≤ (60 : Int32)) (h18 : 0 ≤ z11 ∧ z11 ≤ ((z10 + z8) - (1 : Int32))) (h19 : (1 : Int32) ≤ z11) (h20 : z12 = z2 + z11) (h21 : ¬ z3 < z12) (h22 : ¬ z0 = 0) (h23 : (0 : Int32) ≤ z13 ∧ z13 ≤ (7 : Int32)) (h24 : z13 < z7) : 0 ≤ z0 ∧ z0 ≤ (1 : Int32) := by first | (clear h0 h1 h2 h3 h4 h5 h6 h10 h11 h12 h13 h14 h15 h16 h17 h18 h19 h20 h21 h23 h24; lia) | lia
set_option maxHeartbeats 200000 in
theorem qw182 {z0 : Int32} {z1 : Int32} {z2 : Int32} {z3 : Int32} {z4 : Int32} {z5 : Int32} {z6 : Int32} {z7 : Int32} {z8 : Int32} {z9 : Int32} {z10 : Int32} {z11 : Int32} {z12 : Int32} {z13 : Int32} (h0 : 0 ≤ z1 ∧ z1 < 8) (h1 : 0 ≤ z2) (h2 : z3 ≤ 400) (h3 : z2 ≤ z3) (h4 : 0 ≤ z4) (h5 : (0 : Int32) ≤ z5 ∧ z5 ≤ (12 : Int32)) (h6 : ¬ z5 ≤ z4) (h7 : 0 ≤ z6) (h8 : ¬ (2 : Int32) ≤ z6) (h9 : ¬ z6 = 0) (h10 : (0 : Int32) ≤ z7 ∧ z7 ≤ (7 : Int32)) (h11 : (0 : Int32) ≤ z8 ∧ z8 ≤ (8 : Int32)) (h12 : z7 < z8) (h13 : z7 = z1) (h14 : 1 ≤ z0) (h15 : (0 : Int32) ≤ z9 ∧ z9 ≤ (9 : Int32)) (h16 : ¬ z9 < z0) (h17 : (1 : Int32) ≤ z10 ∧ z10 ≤ (60 : Int32)) (h18 : 0 ≤ z11 ∧ z11 ≤ ((z10 + z0) - (1 : Int32))) (h19 : (1 : Int32) ≤ z11) (h20 : z12 = z2 + z11) (h21 : ¬ z3 < z12) (h22 : ¬ z6 = 0) (h23 : (0 : Int32) ≤ z13 ∧ z13 ≤ (7 : Int32)) (h24 : z13 < z8) : (1 : Int32) ≤ z0 ∧ z0 ≤ (9 : Int32) := by first | (clear h0 h4 h5 h6 h7 h8 h9 h10 h11 h12 h13 h22 h23 h24; lia) | lia
set_option maxHeartbeats 200000 in
theorem qw183 {z0 : Int32} {z1 : Int32} {z2 : Int32} {z3 : Int32} {z4 : Int32} {z5 : Int32} {z6 : Int32} {z7 : Int32} {z8 : Int32} {z9 : Int32} {z10 : Int32} {z11 : Int32} {z12 : Int32} {z13 : Int32} (h0 : 0 ≤ z3 ∧ z3 < 8) (h1 : 0 ≤ z0) (h2 : z2 ≤ 400) (h3 : z0 ≤ z2) (h4 : 0 ≤ z4) (h5 : (0 : Int32) ≤ z5 ∧ z5 ≤ (12 : Int32)) (h6 : ¬ z5 ≤ z4) (h7 : 0 ≤ z6) (h8 : ¬ (2 : Int32) ≤ z6) (h9 : ¬ z6 = 0) (h10 : (0 : Int32) ≤ z7 ∧ z7 ≤ (7 : Int32)) (h11 : (0 : Int32) ≤ z8 ∧ z8 ≤ (8 : Int32)) (h12 : z7 < z8) (h13 : z7 = z3) (h14 : 1 ≤ z9) (h15 : (0 : Int32) ≤ z10 ∧ z10 ≤ (9 : Int32)) (h16 : ¬ z10 < z9) (h17 : (1 : Int32) ≤ z11 ∧ z11 ≤ (60 : Int32)) (h18 : 0 ≤ z1 ∧ z1 ≤ ((z11 + z9) - (1 : Int32))) (h19 : (1 : Int32) ≤ z1) (h20 : z12 = z0 + z1) (h21 : ¬ z2 < z12) (h22 : ¬ z6 = 0) (h23 : (0 : Int32) ≤ z13 ∧ z13 ≤ (7 : Int32)) (h24 : z13 < z8) : z0 + z1 ≤ z2 := by first | (clear h0 h4 h5 h6 h7 h8 h9 h10 h11 h12 h13 h22 h23 h24; lia) | lia
set_option maxHeartbeats 200000 in
theorem qw184 {z0 : Int32} {z1 : Int32} {z2 : Int32} {z3 : Int32} {z4 : Int32} {z5 : Int32} {z6 : Int32} {z7 : Int32} {z8 : Int32} {z9 : Int32} {z10 : Int32} {z11 : Int32} {z12 : Int32} {z13 : Int32} (h0 : 0 ≤ z1 ∧ z1 < 8) (h1 : 0 ≤ z0) (h2 : z2 ≤ 400) (h3 : z0 ≤ z2) (h4 : 0 ≤ z3) (h5 : (0 : Int32) ≤ z4 ∧ z4 ≤ (12 : Int32)) (h6 : ¬ z4 ≤ z3) (h7 : 0 ≤ z5) (h8 : ¬ (2 : Int32) ≤ z5) (h9 : ¬ z5 = 0) (h10 : (0 : Int32) ≤ z6 ∧ z6 ≤ (7 : Int32)) (h11 : (0 : Int32) ≤ z7 ∧ z7 ≤ (8 : Int32)) (h12 : z6 < z7) (h13 : z6 = z1) (h14 : 1 ≤ z8) (h15 : (0 : Int32) ≤ z9 ∧ z9 ≤ (9 : Int32)) (h16 : ¬ z9 < z8) (h17 : (1 : Int32) ≤ z10 ∧ z10 ≤ (60 : Int32)) (h18 : 0 ≤ z11 ∧ z11 ≤ ((z10 + z8) - (1 : Int32))) (h19 : (1 : Int32) ≤ z11) (h20 : z12 = z0 + z11) (h21 : ¬ z2 < z12) (h22 : ¬ z5 = 0) (h23 : (0 : Int32) ≤ z13 ∧ z13 ≤ (7 : Int32)) (h24 : z13 < z7) : 0 ≤ z0 ∧ z0 ≤ (400 : Int32) := by first | (clear h0 h4 h5 h6 h7 h8 h9 h10 h11 h12 h13 h22 h23 h24; lia) | lia
set_option maxHeartbeats 200000 in
theorem qw185 {z0 : Int32} {z1 : Int32} {z2 : Int32} {z3 : Int32} {z4 : Int32} {z5 : Int32} {z6 : Int32} {z7 : Int32} {z8 : Int32} {z9 : Int32} {z10 : Int32} {z11 : Int32} {z12 : Int32} {z13 : Int32} (h0 : 0 ≤ z0 ∧ z0 < 8) (h1 : 0 ≤ z1) (h2 : z2 ≤ 400) (h3 : z1 ≤ z2) (h4 : 0 ≤ z3) (h5 : (0 : Int32) ≤ z4 ∧ z4 ≤ (12 : Int32)) (h6 : ¬ z4 ≤ z3) (h7 : 0 ≤ z5) (h8 : ¬ (2 : Int32) ≤ z5) (h9 : ¬ z5 = 0) (h10 : (0 : Int32) ≤ z6 ∧ z6 ≤ (7 : Int32)) (h11 : (0 : Int32) ≤ z7 ∧ z7 ≤ (8 : Int32)) (h12 : z6 < z7) (h13 : z6 = z0) (h14 : 1 ≤ z8) (h15 : (0 : Int32) ≤ z9 ∧ z9 ≤ (9 : Int32)) (h16 : ¬ z9 < z8) (h17 : (1 : Int32) ≤ z10 ∧ z10 ≤ (60 : Int32)) (h18 : 0 ≤ z11 ∧ z11 ≤ ((z10 + z8) - (1 : Int32))) (h19 : (1 : Int32) ≤ z11) (h20 : z12 = z1 + z11) (h21 : ¬ z2 < z12) (h22 : ¬ z5 = 0) (h23 : (0 : Int32) ≤ z13 ∧ z13 ≤ (7 : Int32)) (h24 : z13 < z7) : 0 ≤ z0 ∧ z0 < (8 : Int32) := by first | (clear h1 h2 h3 h4 h5 h6 h7 h8 h9 h14 h15 h16 h17 h18 h19 h20 h21 h22; lia) | lia
set_option maxHeartbeats 200000 in
theorem qw186 {z0 : Int32} {z1 : Int32} {z2 : Int32} {z3 : Int32} {z4 : Int32} {z5 : Int32} {z6 : Int32} {z7 : Int32} {z8 : Int32} {z9 : Int32} {z10 : Int32} {z11 : Int32} {z12 : Int32} {z13 : Int32} (h0 : 0 ≤ z1 ∧ z1 < 8) (h1 : 0 ≤ z2) (h2 : z0 ≤ 400) (h3 : z2 ≤ z0) (h4 : 0 ≤ z3) (h5 : (0 : Int32) ≤ z4 ∧ z4 ≤ (12 : Int32)) (h6 : ¬ z4 ≤ z3) (h7 : 0 ≤ z5) (h8 : ¬ (2 : Int32) ≤ z5) (h9 : ¬ z5 = 0) (h10 : (0 : Int32) ≤ z6 ∧ z6 ≤ (7 : Int32)) (h11 : (0 : Int32) ≤ z7 ∧ z7 ≤ (8 : Int32)) (h12 : z6 < z7) (h13 : z6 = z1) (h14 : 1 ≤ z8) (h15 : (0 : Int32) ≤ z9 ∧ z9 ≤ (9 : Int32)) (h16 : ¬ z9 < z8) (h17 : (1 : Int32) ≤ z10 ∧ z10 ≤ (60 : Int32)) (h18 : 0 ≤ z11 ∧ z11 ≤ ((z10 + z8) - (1 : Int32))) (h19 : (1 : Int32) ≤ z11) (h20 : z12 = z2 + z11) (h21 : ¬ z0 < z12) (h22 : ¬ z5 = 0) (h23 : (0 : Int32) ≤ z13 ∧ z13 ≤ (7 : Int32)) (h24 : z13 < z7) : z0 ≤ (400 : Int32) := by first | (clear h0 h4 h5 h6 h7 h8 h9 h10 h11 h12 h13 h22 h23 h24; lia) | lia
set_option maxHeartbeats 200000 in
theorem qw187 {z0 : Int32} {z1 : Int32} {z2 : Int32} {z3 : Int32} {z4 : Int32} {z5 : Int32} {z6 : Int32} {z7 : Int32} {z8 : Int32} {z9 : Int32} {z10 : Int32} {z11 : Int32} {z12 : Int32} {z13 : Int32} (h0 : 0 ≤ z1 ∧ z1 < 8) (h1 : 0 ≤ z2) (h2 : z3 ≤ 400) (h3 : z2 ≤ z3) (h4 : 0 ≤ z4) (h5 : (0 : Int32) ≤ z5 ∧ z5 ≤ (12 : Int32)) (h6 : ¬ z5 ≤ z4) (h7 : 0 ≤ z6) (h8 : ¬ (2 : Int32) ≤ z6) (h9 : ¬ z6 = 0) (h10 : (0 : Int32) ≤ z7 ∧ z7 ≤ (7 : Int32)) (h11 : (0 : Int32) ≤ z8 ∧ z8 ≤ (8 : Int32)) (h12 : z7 < z8) (h13 : z7 = z1) (h14 : 1 ≤ z9) (h15 : (0 : Int32) ≤ z10 ∧ z10 ≤ (9 : Int32)) (h16 : ¬ z10 < z9) (h17 : (1 : Int32) ≤ z11 ∧ z11 ≤ (60 : Int32)) (h18 : 0 ≤ z12 ∧ z12 ≤ ((z11 + z9) - (1 : Int32))) (h19 : (1 : Int32) ≤ z12) (h20 : z0 = z2 + z12) (h21 : ¬ z3 < z0) (h22 : ¬ z6 = 0) (h23 : (0 : Int32) ≤ z13 ∧ z13 ≤ (7 : Int32)) (h24 : z13 < z8) : 0 ≤ z0 ∧ z0 ≤ (400 : Int32) := by first | (clear h0 h4 h5 h6 h7 h8 h9 h10 h11 h12 h13 h22 h23 h24; lia) | lia
set_option maxHeartbeats 200000 in
theorem qw188 {z0 : Int32} {z1 : Int32} {z2 : Int32} {z3 : Int32} {z4 : Int32} {z5 : Int32} {z6 : Int32} {z7 : Int32} {z8 : Int32} {z9 : Int32} {z10 : Int32} {z11 : Int32} {z12 : Int32} {z13 : Int32} (h0 : 0 ≤ z1 ∧ z1 < 8) (h1 : 0 ≤ z2) (h2 : z3 ≤ 400) (h3 : z2 ≤ z3) (h4 : 0 ≤ z4) (h5 : (0 : Int32) ≤ z5 ∧ z5 ≤ (12 : Int32)) (h6 : ¬ z5 ≤ z4) (h7 : 0 ≤ z6) (h8 : ¬ (2 : Int32) ≤ z6) (h9 : ¬ z6 = 0) (h10 : (0 : Int32) ≤ z7 ∧ z7 ≤ (7 : Int32)) (h11 : (0 : Int32) ≤ z8 ∧ z8 ≤ (8 : Int32)) (h12 : z7 < z8) (h13 : z7 = z1) (h14 : 1 ≤ z9) (h15 : (0 : Int32) ≤ z10 ∧ z10 ≤ (9 : Int32)) (h16 : ¬ z10 < z9) (h17 : (1 : Int32) ≤ z11 ∧ z11 ≤ (60 : Int32)) (h18 : 0 ≤ z12 ∧ z12 ≤ ((z11 + z9) - (1 : Int32))) (h19 : (1 : Int32) ≤ z12) (h20 : z13 = z2 + z12) (h21 : ¬ z3 < z13) (h22 : ¬ z6 = 0) (h23 : (0 : Int32) ≤ z0 ∧ z0 ≤ (7 : Int32)) (h24 : z0 < z8) : 0 ≤ z0 ∧ z0 < (8 : Int32) := by first | (clear h1 h2 h3 h4 h5 h6 h7 h8 h9 h14 h15 h16 h17 h18 h19 h20 h21 h22; lia) | lia
set_option maxHeartbeats 200000 in
theorem qw189 {z0 : Int32} {z1 : Int32} {z2 : Int32} {z3 : Int32} {z4 : Int32} {z5 : Int32} {z6 : Int32} {z7 : Int32} {z8 : Int32} {z9 : Int32} {z10 : Int32} {z11 : Int32} {z12 : Int32} {z13 : Int32} {z14 : Int32} (h0 : 0 ≤ z1 ∧ z1 < 8) (h1 : 0 ≤ z2) (h2 : z3 ≤ 400) (h3 : z2 ≤ z3) (h4 : 0 ≤ z4) (h5 : (0 : Int32) ≤ z5 ∧ z5 ≤ (12 : Int32)) (h6 : ¬ z5 ≤ z4) (h7 : 0 ≤ z6) (h8 : ¬ (2 : Int32) ≤ z6) (h9 : ¬ z6 = 0) (h10 : (0 : Int32) ≤ z7 ∧ z7 ≤ (7 : Int32)) (h11 : (0 : Int32) ≤ z8 ∧ z8 ≤ (8 : Int32)) (h12 : z7 < z8) (h13 : z7 = z1) (h14 : 1 ≤ z9) (h15 : (0 : Int32) ≤ z10 ∧ z10 ≤ (9 : Int32)) (h16 : ¬ z10 < z9) (h17 : (1 : Int32) ≤ z11 ∧ z11 ≤ (60 : Int32)) (h18 : 0 ≤ z12 ∧ z12 ≤ ((z11 + z9) - (1 : Int32))) (h19 : (1 : Int32) ≤ z12) (h20 : z13 = z2 + z12) (h21 : ¬ z3 < z13) (h22 : ¬ z6 = 0) (h23 : (0 : Int32) ≤ z14 ∧ z14 ≤ (7 : Int32)) (h24 : z14 < z8) (h25 : z0 = z9 + (1 : Int32)) : 1 ≤ z0 := by first | (clear h0 h4 h5 h6 h7 h8 h9 h10 h11 h12 h13 h22 h23 h24; lia) | lia
set_option maxHeartbeats 200000 in
theorem qw190 {z0 : Int32} {z1 : Int32} {z2 : Int32} {z3 : Int32} {z4 : Int32} {z5 : Int32} {z6 : Int32} {z7 : Int32} {z8 : Int32} {z9 : Int32} {z10 : Int32} {z11 : Int32} {z12 : Int32} {z13 : Int32} {z14 : Int32} (h0 : 0 ≤ z2 ∧ z2 < 8) (h1 : 0 ≤ z3) (h2 : z4 ≤ 400) (h3 : z3 ≤ z4) (h4 : 0 ≤ z5) (h5 : (0 : Int32) ≤ z6 ∧ z6 ≤ (12 : Int32)) (h6 : ¬ z6 ≤ z5) (h7 : 0 ≤ z7) (h8 : ¬ (2 : Int32) ≤ z7) (h9 : ¬ z7 = 0) (h10 : (0 : Int32) ≤ z8 ∧ z8 ≤ (7 : Int32)) (h11 : (0 : Int32) ≤ z9 ∧ z9 ≤ (8 : Int32)) (h12 : z8 < z9) (h13 : z8 = z2) (h14 : 1 ≤ z0) (h15 : (0 : Int32) ≤ z10 ∧ z10 ≤ (9 : Int32)) (h16 : ¬ z10 < z0) (h17 : (1 : Int32) ≤ z11 ∧ z11 ≤ (60 : Int32)) (h18 : 0 ≤ z12 ∧ z12 ≤ ((z11 + z0) - (1 : Int32))) (h19 : (1 : Int32) ≤ z12) (h20 : z13 = z3 + z12) (h21 : ¬ z4 < z13) (h22 : ¬ z7 = 0) (h23 : (0 : Int32) ≤ z14 ∧ z14 ≤ (7 : Int32)) (h24 : z14 < z9) (h25 : z1 = z0 + (1 : Int32)) : z0 < z1 := by first | (clear h0 h4 h5 h6 h7 h8 h9 h10 h11 h12 h13 h22 h23 h24; lia) | lia
set_option maxHeartbeats 200000 in
theorem qw191 {z0 : Int32} {z1 : Int32} {z2 : Int32} {z3 : Int32} {z4 : Int32} {z5 : Int32} {z6 : Int32} {z7 : Int32} {z8 : Int32} {z9 : Int32} {z10 : Int32} {z11 : Int32} {z12 : Int32} {z13 : Int32} {z14 : Int32} (h0 : 0 ≤ z1 ∧ z1 < 8) (h1 : 0 ≤ z2) (h2 : z3 ≤ 400) (h3 : z2 ≤ z3) (h4 : 0 ≤ z4) (h5 : (0 : Int32) ≤ z5 ∧ z5 ≤ (12 : Int32)) (h6 : ¬ z5 ≤ z4) (h7 : 0 ≤ z6) (h8 : ¬ (2 : Int32) ≤ z6) (h9 : ¬ z6 = 0) (h10 : (0 : Int32) ≤ z7 ∧ z7 ≤ (7 : Int32)) (h11 : (0 : Int32) ≤ z8 ∧ z8 ≤ (8 : Int32)) (h12 : z7 < z8) (h13 : z7 = z1) (h14 : 1 ≤ z0) (h15 : (0 : Int32) ≤ z9 ∧ z9 ≤ (9 : Int32)) (h16 : ¬ z9 < z0) (h17 : (1 : Int32) ≤ z10 ∧ z10 ≤ (60 : Int32)) (h18 : 0 ≤ z11 ∧ z11 ≤ ((z10 + z0) - (1 : Int32))) (h19 : (1 : Int32) ≤ z11) (h20 : z12 = z2 + z11) (h21 : ¬ z3 < z12) (h22 : ¬ z6 = 0) (h23 : (0 : Int32) ≤ z13 ∧ z13 ≤ (7 : Int32)) (h24 : z13 < z8) (h25 : z14 = z0 + (1 : Int32)) : z0 < (2147483647 : Int32) := by first | (clear h0 h4 h5 h6 h7 h8 h9 h10 h11 h12 h13 h22 h23 h24; lia) | lia
set_option maxHeartbeats 200000 in
theorem qw192 {z0 : Int32} {z1 : Int32} {z2 : Int32} {z3 : Int32} {z4 : Int32} {z5 : Int32} {z6 : Int32} {z7 : Int32} {z8 : Int32} {z9 : Int32} {z10 : Int32} {z11 : Int32} {z12 : Int32} (h0 : 0 ≤ z1 ∧ z1 < 8) (h1 : 0 ≤ z2) (h2 : z3 ≤ 400) (h3 : z2 ≤ z3) (h4 : 0 ≤ z0) (h5 : (0 : Int32) ≤ z4 ∧ z4 ≤ (12 : Int32)) (h6 : ¬ z4 ≤ z0) (h7 : 0 ≤ z5) (h8 : ¬ (2 : Int32) ≤ z5) (h9 : ¬ z5 = 0) (h10 : (0 : Int32) ≤ z6 ∧ z6 ≤ (7 : Int32)) (h11 : (0 : Int32) ≤ z7 ∧ z7 ≤ (8 : Int32)) (h12 : z6 < z7) (h13 : z6 = z1) (h14 : 1 ≤ z8) (h15 : (0 : Int32) ≤ z9 ∧ z9 ≤ (9 : Int32)) (h16 : ¬ z9 < z8) (h17 : (1 : Int32) ≤ z10 ∧ z10 ≤ (60 : Int32)) (h18 : 0 ≤ z11 ∧ z11 ≤ ((z10 + z8) - (1 : Int32))) (h19 : (1 : Int32) ≤ z11) (h20 : z12 = z2 + z11) (h21 : ¬ z3 < z12) (h22 : z5 = 0) : 0 ≤ z0 ∧ z0 < (12 : Int32) := by first | (clear h0 h1 h2 h3 h7 h8 h9 h10 h11 h12 h13 h14 h15 h16 h17 h18 h19 h20 h21 h22; lia) | lia
set_option maxHeartbeats 200000 in
theorem qw193 {z0 : Int32} {z1 : Int32} {z2 : Int32} {z3 : Int32} {z4 : Int32} {z5 : Int32} {z6 : Int32} {z7 : Int32} {z8 : Int32} {z9 : Int32} {z10 : Int32} {z11 : Int32} {z12 : Int32} (h0 : 0 ≤ z2 ∧ z2 < 8) (h1 : 0 ≤ z3) (h2 : z4 ≤ 400) (h3 : z3 ≤ z4) (h4 : 0 ≤ z0) (h5 : (0 : Int32) ≤ z1 ∧ z1 ≤ (12 : Int32)) (h6 : ¬ z1 ≤ z0) (h7 : 0 ≤ z5) (h8 : ¬ (2 : Int32) ≤ z5) (h9 : ¬ z5 = 0) (h10 : (0 : Int32) ≤ z6 ∧ z6 ≤ (7 : Int32)) (h11 : (0 : Int32) ≤ z7 ∧ z7 ≤ (8 : Int32)) (h12 : z6 < z7) (h13 : z6 = z2) (h14 : 1 ≤ z8) (h15 : (0 : Int32) ≤ z9 ∧ z9 ≤ (9 : Int32)) (h16 : ¬ z9 < z8) (h17 : (1 : Int32) ≤ z10 ∧ z10 ≤ (60 : Int32)) (h18 : 0 ≤ z11 ∧ z11 ≤ ((z10 + z8) - (1 : Int32))) (h19 : (1 : Int32) ≤ z11) (h20 : z12 = z3 + z11) (h21 : ¬ z4 < z12) (h22 : z5 = 0) : 0 ≤ z0 ∧ z0 < z1 := by first | (clear h0 h1 h2 h3 h7 h8 h9 h10 h11 h12 h13 h14 h15 h16 h17 h18 h19 h20 h21 h22; lia) | lia
set_option maxHeartbeats 200000 in
theorem qw194 {z0 : Int32} {z1 : Int32} {z2 : Int32} {z3 : Int32} {z4 : Int32} {z5 : Int32} {z6 : Int32} {z7 : Int32} {z8 : Int32} {z9 : Int32} {z10 : Int32} {z11 : Int32} {z12 : Int32} {z13 : Int32} {z14 : Int32} {z15 : Int32} (h0 : 0 ≤ z1 ∧ z1 < 8) (h1 : 0 ≤ z2) (h2 : z3 ≤ 400) (h3 : z2 ≤ z3) (h4 : (0 : Int32) ≤ z4 ∧ z4 ≤ (4 : Int32)) (h5 : 0 ≤ z0 ∧ z0 < z4) (h6 : 0 ≤ z5) (h7 : (0 : Int32) ≤ z6 ∧ z6 ≤ (12 : Int32)) (h8 : ¬ z6 ≤ z5) (h9 : 0 ≤ z7) (h10 : ¬ (2 : Int32) ≤ z7) (h11 : ¬ z7 = 0) (h12 : (0 : Int32) ≤ z8 ∧ z8 ≤ (7 : Int32)) (h13 : (0 : Int32) ≤ z9 ∧ z9 ≤ (8 : Int32)) (h14 : z8 < z9) (h15 : z8 = z1) (h16 : 1 ≤ z10) (h17 : (0 : Int32) ≤ z11 ∧ z11 ≤ (9 : Int32)) (h18 : ¬ z11 < z10) (h19 : (1 : Int32) ≤ z12 ∧ z12 ≤ (60 : Int32)) (h20 : 0 ≤ z13 ∧ z13 ≤ ((z12 + z10) - (1 : Int32))) (h21 : (1 : Int32) ≤ z13) (h22 : z14 = z2 + z13) (h23 : ¬ z3 < z14) (h24 : z7 = 0) (h25 : (0 : Int32) ≤ z15 ∧ z15 ≤ (7 : Int32)) (h26 : z15 < z9) : 0 ≤ z0 ∧ z0 < 4 := by first | (clear h0 h1 h2 h3 h6 h7 h8 h9 h10 h11 h12 h13 h14 h15 h16 h17 h18 h19 h20 h21 h22 h23 h24 h25 h26; lia) | lia
set_option maxHeartbeats 200000 in
theorem qw195 {z0 : Int32} {z1 : Int32} {z2 : Int32} {z3 : Int32} {z4 : Int32} {z5 : Int32} {z6 : Int32} {z7 : Int32} {z8 : Int32} {z9 : Int32} {z10 : Int32} {z11 : Int32} {z12 : Int32} {z13 : Int32} (h0 : 0 ≤ z1 ∧ z1 < 8) (h1 : 0 ≤ z2) (h2 : z3 ≤ 400) (h3 : z2 ≤ z3) (h4 : 0 ≤ z0) (h5 : (0 : Int32) ≤ z4 ∧ z4 ≤ (12 : Int32)) (h6 : ¬ z4 ≤ z0) (h7 : 0 ≤ z5) (h8 : ¬ (2 : Int32) ≤ z5) (h9 : ¬ z5 = 0) (h10 : (0 : Int32) ≤ z6 ∧ z6 ≤ (7 : Int32)) (h11 : (0 : Int32) ≤ z7 ∧ z7 ≤ (8 : Int32)) (h12 : z6 < z7) (h13 : z6 = z1) (h14 : 1 ≤ z8) (h15 : (0 : Int32) ≤ z9 ∧ z9 ≤ (9 : Int32)) (h16 : ¬ z9 < z8) (h17 : (1 : Int32) ≤ z10 ∧ z10 ≤ (60 : Int32)) (h18 : 0 ≤ z11 ∧ z11 ≤ ((z10 + z8) - (1 : Int32))) (h19 : (1 : Int32) ≤ z11) (h20 : z12 = z2 + z11) (h21 : ¬ z3 < z12) (h22 : z5 = 0) (h23 : (0 : Int32) ≤ z13 ∧ z13 ≤ (7 : Int32)) (h24 : z13 < z7) : 0 ≤ z0 ∧ z0 < 12 := by first | (clear h0 h1 h2 h3 h7 h8 h9 h10 h11 h12 h13 h14 h15 h16 h17 h18 h19 h20 h21 h22 h23 h24; lia) | lia
set_option maxHeartbeats 200000 in
theorem qw196 {z0 : Int32} {z1 : Int32} {z2 : Int32} {z3 : Int32} {z4 : Int32} {z5 : Int32} {z6 : Int32} {z7 : Int32} {z8 : Int32} {z9 : Int32} {z10 : Int32} {z11 : Int32} {z12 : Int32} {z13 : Int32} (h0 : 0 ≤ z1 ∧ z1 < 8) (h1 : 0 ≤ z0) (h2 : z2 ≤ 400) (h3 : z0 ≤ z2) (h4 : 0 ≤ z3) (h5 : (0 : Int32) ≤ z4 ∧ z4 ≤ (12 : Int32)) (h6 : ¬ z4 ≤ z3) (h7 : 0 ≤ z5) (h8 : ¬ (2 : Int32) ≤ z5) (h9 : ¬ z5 = 0) (h10 : (0 : Int32) ≤ z6 ∧ z6 ≤ (7 : Int32)) (h11 : (0 : Int32) ≤ z7 ∧ z7 ≤ (8 : Int32)) (h12 : z6 < z7) (h13 : z6 = z1) (h14 : 1 ≤ z8) (h15 : (0 : Int32) ≤ z9 ∧ z9 ≤ (9 : Int32)) (h16 : ¬ z9 < z8) (h17 : (1 : Int32) ≤ z10 ∧ z10 ≤ (60 : Int32)) (h18 : 0 ≤ z11 ∧ z11 ≤ ((z10 + z8) - (1 : Int32))) (h19 : (1 : Int32) ≤ z11) (h20 : z12 = z0 + z11) (h21 : ¬ z2 < z12) (h22 : z5 = 0) (h23 : (0 : Int32) ≤ z13 ∧ z13 ≤ (7 : Int32)) (h24 : z13 < z7) : 0 ≤ z0 := by first | (clear h0 h4 h5 h6 h7 h8 h9 h10 h11 h12 h13 h22 h23 h24; lia) | lia
set_option maxHeartbeats 200000 in
theorem qw197 {z0 : Int32} {z1 : Int32} {z2 : Int32} {z3 : Int32} {z4 : Int32} {z5 : Int32} {z6 : Int32} {z7 : Int32} {z8 : Int32} {z9 : Int32} {z10 : Int32} {z11 : Int32} {z12 : Int32} {z13 : Int32} (h0 : 0 ≤ z1 ∧ z1 < 8) (h1 : 0 ≤ z2) (h2 : z3 ≤ 400) (h3 : z2 ≤ z3) (h4 : 0 ≤ z4) (h5 : (0 : Int32) ≤ z5 ∧ z5 ≤ (12 : Int32)) (h6 : ¬ z5 ≤ z4) (h7 : 0 ≤ z6) (h8 : ¬ (2 : Int32) ≤ z6) (h9 : ¬ z6 = 0) (h10 : (0 : Int32) ≤ z7 ∧ z7 ≤ (7 : Int32)) (h11 : (0 : Int32) ≤ z8 ∧ z8 ≤ (8 : Int32)) (h12 : z7 < z8) (h13 : z7 = z1) (h14 : 1 ≤ z0) (h15 : (0 : Int32) ≤ z9 ∧ z9 ≤ (9 : Int32)) (h16 : ¬ z9 < z0) (h17 : (1 : Int32) ≤ z10 ∧ z10 ≤ (60 : Int32)) (h18 : 0 ≤ z11 ∧ z11 ≤ ((z10 + z0) - (1 : Int32))) (h19 : (1 : Int32) ≤ z11) (h20 : z12 = z2 + z11) (h21 : ¬ z3 < z12) (h22 : z6 = 0) (h23 : (0 : Int32) ≤ z13 ∧ z13 ≤ (7 : Int32)) (h24 : z13 < z8) : 1 ≤ z0 := by first | (clear h0 h4 h5 h6 h7 h8 h9 h10 h11 h12 h13 h22 h23 h24; lia) | lia
set_option maxHeartbeats 200000 in
theorem qw198 {z0 : Int32} {z1 : Int32} {z2 : Int32} {z3 : Int32} {z4 : Int32} {z5 : Int32} {z6 : Int32} {z7 : Int32} {z8 : Int32} {z9 : Int32} {z10 : Int32} {z11 : Int32} {z12 : Int32} {z13 : Int32} (h0 : 0 ≤ z2 ∧ z2 < 8) (h1 : 0 ≤ z3) (h2 : z4 ≤ 400) (h3 : z3 ≤ z4) (h4 : 0 ≤ z0) (h5 : (0 : Int32) ≤ z1 ∧ z1 ≤ (12 : Int32)) (h6 : ¬ z1 ≤ z0) (h7 : 0 ≤ z5) (h8 : ¬ (2 : Int32) ≤ z5) (h9 : ¬ z5 = 0) (h10 : (0 : Int32) ≤ z6 ∧ z6 ≤ (7 : Int32)) (h11 : (0 : Int32) ≤ z7 ∧ z7 ≤ (8 : Int32)) (h12 : z6 < z7) (h13 : z6 = z2) (h14 : 1 ≤ z8) (h15 : (0 : Int32) ≤ z9 ∧ z9 ≤ (9 : Int32)) (h16 : ¬ z9 < z8) (h17 : (1 : Int32) ≤ z10 ∧ z10 ≤ (60 : Int32)) (h18 : 0 ≤ z11 ∧ z11 ≤ ((z10 + z8) - (1 : Int32))) (h19 : (1 : Int32) ≤ z11) (h20 : z12 = z3 + z11) (h21 : ¬ z4 < z12) (h22 : z5 = 0) (h23 : (0 : Int32) ≤ z13 ∧ z13 ≤ (7 : Int32)) (h24 : z13 < z7) : 0 ≤ z0 ∧ z0 < z1 := by first | (clear h0 h1 h2 h3 h7 h8 h9 h10 h11 h12 h13 h14 h15 h16 h17 h18 h19 h20 h21 h22 h23 h24; lia) | lia
set_option maxHeartbeats 200000 in
theorem qw199 {z0 : Int32} {z1 : Int32} {z2 : Int32} {z3 : Int32} {z4 : Int32} {z5 : Int32} {z6 : Int32} {z7 : Int32} {z8 : Int32} {z9 : Int32} {z10 : Int32} {z11 : Int32} {z12 : Int32} {z13 : Int32} (h0 : 0 ≤ z1 ∧ z1 < 8) (h1 : 0 ≤ z2) (h2 : z3 ≤ 400) (h3 : z2 ≤ z3) (h4 : 0 ≤ z4) (h5 : (0 : Int32) ≤ z5 ∧ z5 ≤ (12 : Int32)) (h6 : ¬ z5 ≤ z4) (h7 : 0 ≤ z0) (h8 : ¬ (2 : Int32) ≤ z0) (h9 : ¬ z0 = 0) (h10 : (0 : Int32) ≤ z6 ∧ z6 ≤ (7 : Int32)) (h11 : (0 : Int32) ≤ z7 ∧ z7 ≤ (8 : Int32)) (h12 : z6 < z7) (h13 : z6 = z1) (h14 : 1 ≤ z8) (h15 : (0 : Int32) ≤ z9 ∧ z9 ≤ (9 : Int32)) (h16 : ¬ z9 < z8) (h17 : (1 : Int32) ≤ z10 ∧ z10 ≤ (60 : Int32)) (h18 : 0 ≤ z11 ∧ z11 ≤ ((z10 + z8) - (1 : Int32))) (h19 : (1 : Int32) ≤ z11) (h20 : z12 = z2 + z11) (h21 : ¬ z3 < z12) (h22 : z0 = 0) (h23 : (0 : Int32) ≤ z13 ∧ z13 ≤ (7 : Int32)) (h24 : z13 < z7) : 0 ≤ z0 ∧ z0 ≤ (1 : Int32) := by first | (clear h0 h1 h2 h3 h4 h5 h6 h10 h11 h12 h13 h14 h15 h16 h17 h18 h19 h20 h21 h23 h24; lia) | lia
set_option maxHeartbeats 200000 in
theorem qw200 {z0 : Int32} {z1 : Int32} {z2 : Int32} {z3 : Int32} {z4 : Int32} {z5 : Int32} {z6 : Int32} {z7 : Int32} {z8 : Int32} {z9 : Int32} {z10 : Int32} {z11 : Int32} {z12 : Int32} {z13 : Int32} (h0 : 0 ≤ z1 ∧ z1 < 8) (h1 : 0 ≤ z2) (h2 : z3 ≤ 400) (h3 : z2 ≤ z3) (h4 : 0 ≤ z4) (h5 : (0 : Int32) ≤ z5 ∧ z5 ≤ (12 : Int32)) (h6 : ¬ z5 ≤ z4) (h7 : 0 ≤ z6) (h8 : ¬ (2 : Int32) ≤ z6) (h9 : ¬ z6 = 0) (h10 : (0 : Int32) ≤ z7 ∧ z7 ≤ (7 : Int32)) (h11 : (0 : Int32) ≤ z8 ∧ z8 ≤ (8 : Int32)) (h12 : z7 < z8) (h13 : z7 = z1) (h14 : 1 ≤ z0) (h15 : (0 : Int32) ≤ z9 ∧ z9 ≤ (9 : Int32)) (h16 : ¬ z9 < z0) (h17 : (1 : Int32) ≤ z10 ∧ z10 ≤ (60 : Int32)) (h18 : 0 ≤ z11 ∧ z11 ≤ ((z10 + z0) - (1 : Int32))) (h19 : (1 : Int32) ≤ z11) (h20 : z12 = z2 + z11) (h21 : ¬ z3 < z12) (h22 : z6 = 0) (h23 : (0 : Int32) ≤ z13 ∧ z13 ≤ (7 : Int32)) (h24 : z13 < z8) : (1 : Int32) ≤ z0 ∧ z0 ≤ (9 : Int32) := by first | (clear h0 h4 h5 h6 h7 h8 h9 h10 h11 h12 h13 h22 h23 h24; lia) | lia
set_option maxHeartbeats 200000 in
theorem qw201 {z0 : Int32} {z1 : Int32} {z2 : Int32} {z3 : Int32} {z4 : Int32} {z5 : Int32} {z6 : Int32} {z7 : Int32} {z8 : Int32} {z9 : Int32} {z10 : Int32} {z11 : Int32} {z12 : Int32} {z13 : Int32} (h0 : 0 ≤ z3 ∧ z3 < 8) (h1 : 0 ≤ z0) (h2 : z2 ≤ 400) (h3 : z0 ≤ z2) (h4 : 0 ≤ z4) (h5 : (0 : Int32) ≤ z5 ∧ z5 ≤ (12 : Int32)) (h6 : ¬ z5 ≤ z4) (h7 : 0 ≤ z6) (h8 : ¬ (2 : Int32) ≤ z6) (h9 : ¬ z6 = 0) (h10 : (0 : Int32) ≤ z7 ∧ z7 ≤ (7 : Int32)) (h11 : (0 : Int32) ≤ z8 ∧ z8 ≤ (8 : Int32)) (h12 : z7 < z8) (h13 : z7 = z3) (h14 : 1 ≤ z9) (h15 : (0 : Int32) ≤ z10 ∧ z10 ≤ (9 : Int32)) (h16 : ¬ z10 < z9) (h17 : (1 : Int32) ≤ z11 ∧ z11 ≤ (60 : Int32)) (h18 : 0 ≤ z1 ∧ z1 ≤ ((z11 + z9) - (1 : Int32))) (h19 : (1 : Int32) ≤ z1) (h20 : z12 = z0 + z1) (h21 : ¬ z2 < z12) (h22 : z6 = 0) (h23 : (0 : Int32) ≤ z13 ∧ z13 ≤ (7 : Int32)) (h24 : z13 < z8) : z0 + z1 ≤ z2 := by first | (clear h0 h4 h5 h6 h7 h8 h9 h10 h11 h12 h13 h22 h23 h24; lia) | lia
set_option maxHeartbeats 200000 in
theorem qw202 {z0 : Int32} {z1 : Int32} {z2 : Int32} {z3 : Int32} {z4 : Int32} {z5 : Int32} {z6 : Int32} {z7 : Int32} {z8 : Int32} {z9 : Int32} {z10 : Int32} {z11 : Int32} {z12 : Int32} {z13 : Int32} (h0 : 0 ≤ z1 ∧ z1 < 8) (h1 : 0 ≤ z0) (h2 : z2 ≤ 400) (h3 : z0 ≤ z2) (h4 : 0 ≤ z3) (h5 : (0 : Int32) ≤ z4 ∧ z4 ≤ (12 : Int32)) (h6 : ¬ z4 ≤ z3) (h7 : 0 ≤ z5) (h8 : ¬ (2 : Int32) ≤ z5) (h9 : ¬ z5 = 0) (h10 : (0 : Int32) ≤ z6 ∧ z6 ≤ (7 : Int32)) (h11 : (0 : Int32) ≤ z7 ∧ z7 ≤ (8 : Int32)) (h12 : z6 < z7) (h13 : z6 = z1) (h14 : 1 ≤ z8) (h15 : (0 : Int32) ≤ z9 ∧ z9 ≤ (9 : Int32)) (h16 : ¬ z9 < z8) (h17 : (1 : Int32) ≤ z10 ∧ z10 ≤ (60 : Int32)) (h18 : 0 ≤ z11 ∧ z11 ≤ ((z10 + z8) - (1 : Int32))) (h19 : (1 : Int32) ≤ z11) (h20 : z12 = z0 + z11) (h21 : ¬ z2 < z12) (h22 : z5 = 0) (h23 : (0 : Int32) ≤ z13 ∧ z13 ≤ (7 : Int32)) (h24 : z13 < z7) : 0 ≤ z0 ∧ z0 ≤ (400 : Int32) := by first | (clear h0 h4 h5 h6 h7 h8 h9 h10 h11 h12 h13 h22 h23 h24; lia) | lia
set_option maxHeartbeats 200000 in
theorem qw203 {z0 : Int32} {z1 : Int32} {z2 : Int32} {z3 : Int32} {z4 : Int32} {z5 : Int32} {z6 : Int32} {z7 : Int32} {z8 : Int32} {z9 : Int32} {z10 : Int32} {z11 : Int32} {z12 : Int32} {z13 : Int32} (h0 : 0 ≤ z0 ∧ z0 < 8) (h1 : 0 ≤ z1) (h2 : z2 ≤ 400) (h3 : z1 ≤ z2) (h4 : 0 ≤ z3) (h5 : (0 : Int32) ≤ z4 ∧ z4 ≤ (12 : Int32)) (h6 : ¬ z4 ≤ z3) (h7 : 0 ≤ z5) (h8 : ¬ (2 : Int32) ≤ z5) (h9 : ¬ z5 = 0) (h10 : (0 : Int32) ≤ z6 ∧ z6 ≤ (7 : Int32)) (h11 : (0 : Int32) ≤ z7 ∧ z7 ≤ (8 : Int32)) (h12 : z6 < z7) (h13 : z6 = z0) (h14 : 1 ≤ z8) (h15 : (0 : Int32) ≤ z9 ∧ z9 ≤ (9 : Int32)) (h16 : ¬ z9 < z8) (h17 : (1 : Int32) ≤ z10 ∧ z10 ≤ (60 : Int32)) (h18 : 0 ≤ z11 ∧ z11 ≤ ((z10 + z8) - (1 : Int32))) (h19 : (1 : Int32) ≤ z11) (h20 : z12 = z1 + z11) (h21 : ¬ z2 < z12) (h22 : z5 = 0) (h23 : (0 : Int32) ≤ z13 ∧ z13 ≤ (7 : Int32)) (h24 : z13 < z7) : 0 ≤ z0 ∧ z0 < (8 : Int32) := by first | (clear h1 h2 h3 h4 h5 h6 h7 h8 h9 h14 h15 h16 h17 h18 h19 h20 h21 h22; lia) | lia
set_option maxHeartbeats 200000 in
theorem qw204 {z0 : Int32} {z1 : Int32} {z2 : Int32} {z3 : Int32} {z4 : Int32} {z5 : Int32} {z6 : Int32} {z7 : Int32} {z8 : Int32} {z9 : Int32} {z10 : Int32} {z11 : Int32} {z12 : Int32} {z13 : Int32} (h0 : 0 ≤ z1 ∧ z1 < 8) (h1 : 0 ≤ z2) (h2 : z0 ≤ 400) (h3 : z2 ≤ z0) (h4 : 0 ≤ z3) (h5 : (0 : Int32) ≤ z4 ∧ z4 ≤ (12 : Int32)) (h6 : ¬ z4 ≤ z3) (h7 : 0 ≤ z5) (h8 : ¬ (2 : Int32) ≤ z5) (h9 : ¬ z5 = 0) (h10 : (0 : Int32) ≤ z6 ∧ z6 ≤ (7 : Int32)) (h11 : (0 : Int32) ≤ z7 ∧ z7 ≤ (8 : Int32)) (h12 : z6 < z7) (h13 : z6 = z1) (h14 : 1 ≤ z8) (h15 : (0 : Int32) ≤ z9 ∧ z9 ≤ (9 : Int32)) (h16 : ¬ z9 < z8) (h17 : (1 : Int32) ≤ z10 ∧ z10 ≤ (60 : Int32)) (h18 : 0 ≤ z11 ∧ z11 ≤ ((z10 + z8) - (1 : Int32))) (h19 : (1 : Int32) ≤ z11) (h20 : z12 = z2 + z11) (h21 : ¬ z0 < z12) (h22 : z5 = 0) (h23 : (0 : Int32) ≤ z13 ∧ z13 ≤ (7 : Int32)) (h24 : z13 < z7) : z0 ≤ (400 : Int32) := by first | (clear h0 h4 h5 h6 h7 h8 h9 h10 h11 h12 h13 h22 h23 h24; lia) | lia
set_option maxHeartbeats 200000 in
theorem qw205 {z0 : Int32} {z1 : Int32} {z2 : Int32} {z3 : Int32} {z4 : Int32} {z5 : Int32} {z6 : Int32} {z7 : Int32} {z8 : Int32} {z9 : Int32} {z10 : Int32} {z11 : Int32} {z12 : Int32} {z13 : Int32} (h0 : 0 ≤ z1 ∧ z1 < 8) (h1 : 0 ≤ z2) (h2 : z3 ≤ 400) (h3 : z2 ≤ z3) (h4 : 0 ≤ z4) (h5 : (0 : Int32) ≤ z5 ∧ z5 ≤ (12 : Int32)) (h6 : ¬ z5 ≤ z4) (h7 : 0 ≤ z6) (h8 : ¬ (2 : Int32) ≤ z6) (h9 : ¬ z6 = 0) (h10 : (0 : Int32) ≤ z7 ∧ z7 ≤ (7 : Int32)) (h11 : (0 : Int32) ≤ z8 ∧ z8 ≤ (8 : Int32)) (h12 : z7 < z8) (h13 : z7 = z1) (h14 : 1 ≤ z9) (h15 : (0 : Int32) ≤ z10 ∧ z10 ≤ (9 : Int32)) (h16 : ¬ z10 < z9) (h17 : (1 : Int32) ≤ z11 ∧ z11 ≤ (60 : Int32)) (h18 : 0 ≤ z12 ∧ z12 ≤ ((z11 + z9) - (1 : Int32))) (h19 : (1 : Int32) ≤ z12) (h20 : z0 = z2 + z12) (h21 : ¬ z3 < z0) (h22 : z6 = 0) (h23 : (0 : Int32) ≤ z13 ∧ z13 ≤ (7 : Int32)) (h24 : z13 < z8) : 0 ≤ z0 ∧ z0 ≤ (400 : Int32) := by first | (clear h0 h4 h5 h6 h7 h8 h9 h10 h11 h12 h13 h22 h23 h24; lia) | lia
set_option maxHeartbeats 200000 in
theorem qw206 {z0 : Int32} {z1 : Int32} {z2 : Int32} {z3 : Int32} {z4 : Int32} {z5 : Int32} {z6 : Int32} {z7 : Int32} {z8 : Int32} {z9 : Int32} {z10 : Int32} {z11 : Int32} {z12 : Int32} {z13 : Int32} (h0 : 0 ≤ z1 ∧ z1 < 8) (h1 : 0 ≤ z2) (h2 : z3 ≤ 400) (h3 : z2 ≤ z3) (h4 : 0 ≤ z4) (h5 : (0 : Int32) ≤ z5 ∧ z5 ≤ (12 : Int32)) (h6 : ¬ z5 ≤ z4) (h7 : 0 ≤ z6) (h8 : ¬ (2 : Int32) ≤ z6) (h9 : ¬ z6 = 0) (h10 : (0 : Int32) ≤ z7 ∧ z7 ≤ (7 : Int32)) (h11 : (0 : Int32) ≤ z8 ∧ z8 ≤ (8 : Int32)) (h12 : z7 < z8) (h13 : z7 = z1) (h14 : 1 ≤ z9) (h15 : (0 : Int32) ≤ z10 ∧ z10 ≤ (9 : Int32)) (h16 : ¬ z10 < z9) (h17 : (1 : Int32) ≤ z11 ∧ z11 ≤ (60 : Int32)) (h18 : 0 ≤ z12 ∧ z12 ≤ ((z11 + z9) - (1 : Int32))) (h19 : (1 : Int32) ≤ z12) (h20 : z13 = z2 + z12) (h21 : ¬ z3 < z13) (h22 : z6 = 0) (h23 : (0 : Int32) ≤ z0 ∧ z0 ≤ (7 : Int32)) (h24 : z0 < z8) : 0 ≤ z0 ∧ z0 < (8 : Int32) := by first | (clear h1 h2 h3 h4 h5 h6 h7 h8 h9 h14 h15 h16 h17 h18 h19 h20 h21 h22; lia) | lia
set_option maxHeartbeats 200000 in
theorem qw207 {z0 : Int32} {z1 : Int32} {z2 : Int32} {z3 : Int32} {z4 : Int32} {z5 : Int32} {z6 : Int32} {z7 : Int32} {z8 : Int32} {z9 : Int32} {z10 : Int32} {z11 : Int32} {z12 : Int32} {z13 : Int32} {z14 : Int32} (h0 : 0 ≤ z1 ∧ z1 < 8) (h1 : 0 ≤ z2) (h2 : z3 ≤ 400) (h3 : z2 ≤ z3) (h4 : 0 ≤ z4) (h5 : (0 : Int32) ≤ z5 ∧ z5 ≤ (12 : Int32)) (h6 : ¬ z5 ≤ z4) (h7 : 0 ≤ z6) (h8 : ¬ (2 : Int32) ≤ z6) (h9 : ¬ z6 = 0) (h10 : (0 : Int32) ≤ z7 ∧ z7 ≤ (7 : Int32)) (h11 : (0 : Int32) ≤ z8 ∧ z8 ≤ (8 : Int32)) (h12 : z7 < z8) (h13 : z7 = z1) (h14 : 1 ≤ z9) (h15 : (0 : Int32) ≤ z10 ∧ z10 ≤ (9 : Int32)) (h16 : ¬ z10 < z9) (h17 : (1 : Int32) ≤ z11 ∧ z11 ≤ (60 : Int32)) (h18 : 0 ≤ z12 ∧ z12 ≤ ((z11 + z9) - (1 : Int32))) (h19 : (1 : Int32) ≤ z12) (h20 : z13 = z2 + z12) (h21 : ¬ z3 < z13) (h22 : z6 = 0) (h23 : (0 : Int32) ≤ z14 ∧ z14 ≤ (7 : Int32)) (h24 : z14 < z8) (h25 : z0 = z9 + (1 : Int32)) : 1 ≤ z0 := by first | (clear h0 h4 h5 h6 h7 h8 h9 h10 h11 h12 h13 h22 h23 h24; lia) | lia
set_option maxHeartbeats 200000 in
theorem qw208 {z0 : Int32} {z1 : Int32} {z2 : Int32} {z3 : Int32} {z4 : Int32} {z5 : Int32} {z6 : Int32} {z7 : Int32} {z8 : Int32} {z9 : Int32} {z10 : Int32} {z11 : Int32} {z12 : Int32} {z13 : Int32} {z14 : Int32} (h0 : 0 ≤ z2 ∧ z2 < 8) (h1 : 0 ≤ z3) (h2 : z4 ≤ 400) (h3 : z3 ≤ z4) (h4 : 0 ≤ z5) (h5 : (0 : Int32) ≤ z6 ∧ z6 ≤ (12 : Int32)) (h6 : ¬ z6 ≤ z5) (h7 : 0 ≤ z7) (h8 : ¬ (2 : Int32) ≤ z7) (h9 : ¬ z7 = 0) (h10 : (0 : Int32) ≤ z8 ∧ z8 ≤ (7 : Int32)) (h11 : (0 : Int32) ≤ z9 ∧ z9 ≤ (8 : Int32)) (h12 : z8 < z9) (h13 : z8 = z2) (h14 : 1 ≤ z0) (h15 : (0 : Int32) ≤ z10 ∧ z10 ≤ (9 : Int32)) (h16 : ¬ z10 < z0) (h17 : (1 : Int32) ≤ z11 ∧ z11 ≤ (60 : Int32)) (h18 : 0 ≤ z12 ∧ z12 ≤ ((z11 + z0) - (1 : Int32))) (h19 : (1 : Int32) ≤ z12) (h20 : z13 = z3 + z12) (h21 : ¬ z4 < z13) (h22 : z7 = 0) (h23 : (0 : Int32) ≤ z14 ∧ z14 ≤ (7 : Int32)) (h24 : z14 < z9) (h25 : z1 = z0 + (1 : Int32)) : z0 < z1 := by first | (clear h0 h4 h5 h6 h7 h8 h9 h10 h11 h12 h13 h22 h23 h24; lia) | lia
set_option maxHeartbeats 200000 in
theorem qw209 {z0 : Int32} {z1 : Int32} {z2 : Int32} {z3 : Int32} {z4 : Int32} {z5 : Int32} {z6 : Int32} {z7 : Int32} {z8 : Int32} {z9 : Int32} {z10 : Int32} {z11 : Int32} {z12 : Int32} {z13 : Int32} {z14 : Int32} (h0 : 0 ≤ z1 ∧ z1 < 8) (h1 : 0 ≤ z2) (h2 : z3 ≤ 400) (h3 : z2 ≤ z3) (h4 : 0 ≤ z4) (h5 : (0 : Int32) ≤ z5 ∧ z5 ≤ (12 : Int32)) (h6 : ¬ z5 ≤ z4) (h7 : 0 ≤ z6) (h8 : ¬ (2 : Int32) ≤ z6) (h9 : ¬ z6 = 0) (h10 : (0 : Int32) ≤ z7 ∧ z7 ≤ (7 : Int32)) (h11 : (0 : Int32) ≤ z8 ∧ z8 ≤ (8 : Int32)) (h12 : z7 < z8) (h13 : z7 = z1) (h14 : 1 ≤ z0) (h15 : (0 : Int32) ≤ z9 ∧ z9 ≤ (9 : Int32)) (h16 : ¬ z9 < z0) (h17 : (1 : Int32) ≤ z10 ∧ z10 ≤ (60 : Int32)) (h18 : 0 ≤ z11 ∧ z11 ≤ ((z10 + z0) - (1 : Int32))) (h19 : (1 : Int32) ≤ z11) (h20 : z12 = z2 + z11) (h21 : ¬ z3 < z12) (h22 : z6 = 0) (h23 : (0 : Int32) ≤ z13 ∧ z13 ≤ (7 : Int32)) (h24 : z13 < z8) (h25 : z14 = z0 + (1 : Int32)) : z0 < (2147483647 : Int32) := by first | (clear h0 h4 h5 h6 h7 h8 h9 h10 h11 h12 h13 h22 h23 h24; lia) | lia
set_option maxHeartbeats 200000 in
theorem qw210 {z0 : Int32} {z1 : Int32} {z2 : Int32} {z3 : Int32} {z4 : Int32} {z5 : Int32} {z6 : Int32} (h0 : 0 ≤ z1 ∧ z1 < 8) (h1 : 0 ≤ z2) (h2 : (0 : Int32) ≤ z3 ∧ z3 ≤ (12 : Int32)) (h3 : ¬ z3 ≤ z2) (h4 : 0 ≤ z4) (h5 : ¬ (2 : Int32) ≤ z4) (h6 : ¬ z4 = 0) (h7 : (0 : Int32) ≤ z5 ∧ z5 ≤ (7 : Int32)) (h8 : (0 : Int32) ≤ z6 ∧ z6 ≤ (8 : Int32)) (h9 : z5 < z6) (h10 : ¬ z5 = z1) (h11 : z0 = z4 + (1 : Int32)) : 0 ≤ z0 := by first | (clear h0 h1 h2 h3 h7 h8 h9 h10; lia) | lia
set_option maxHeartbeats 200000 in
theorem qw211 {z0 : Int32} {z1 : Int32} {z2 : Int32} {z3 : Int32} {z4 : Int32} {z5 : Int32} {z6 : Int32} (h0 : 0 ≤ z2 ∧ z2 < 8) (h1 : 0 ≤ z3) (h2 : (0 : Int32) ≤ z4 ∧ z4 ≤ (12 : Int32)) (h3 : ¬ z4 ≤ z3) (h4 : 0 ≤ z0) (h5 : ¬ (2 : Int32) ≤ z0) (h6 : ¬ z0 = 0) (h7 : (0 : Int32) ≤ z5 ∧ z5 ≤ (7 : Int32)) (h8 : (0 : Int32) ≤ z6 ∧ z6 ≤ (8 : Int32)) (h9 : z5 < z6) (h10 : ¬ z5 = z2) (h11 : z1 = z0 + (1 : Int32)) : z0 < z1 := by first | (clear h0 h1 h2 h3 h7 h8 h9 h10; lia) | lia
set_option maxHeartbeats 200000 in
theorem qw212 {z0 : Int32} {z1 : Int32} {z2 : Int32} {z3 : Int32} {z4 : Int32} {z5 : Int32} {z6 : Int32} (h0 : 0 ≤ z1 ∧ z1 < 8) (h1 : 0 ≤ z2) (h2 : (0 : Int32) ≤ z3 ∧ z3 ≤ (12 : Int32)) (h3 : ¬ z3 ≤ z2) (h4 : 0 ≤ z0) (h5 : ¬ (2 : Int32) ≤ z0) (h6 : ¬ z0 = 0) (h7 : (0 : Int32) ≤ z4 ∧ z4 ≤ (7 : Int32)) (h8 : (0 : Int32) ≤ z5 ∧ z5 ≤ (8 : Int32)) (h9 : z4 < z5) (h10 : ¬ z4 = z1) (h11 : z6 = z0 + (1 : Int32)) : z0 < (2147483647 : Int32) := by first | (clear h0 h1 h2 h3 h7 h8 h9 h10; lia) | lia
set_option maxHeartbeats 200000 in
theorem qw213 {z0 : Int32} {z1 : Int32} {z2 : Int32} (h0 : 0 ≤ z0) (h1 : (0 : Int32) ≤ z1 ∧ z1 ≤ (12 : Int32)) (h2 : ¬ z1 ≤ z0) (h3 : 0 ≤ z2) (h4 : ¬ (2 : Int32) ≤ z2) (h5 : z2 = 0) : 0 ≤ z0 ∧ z0 < (12 : Int32) := by first | (clear h3 h4 h5; lia) | lia
set_option maxHeartbeats 200000 in
theorem qw214 {z0 : Int32} {z1 : Int32} {z2 : Int32} (h0 : 0 ≤ z0) (h1 : (0 : Int32) ≤ z1 ∧ z1 ≤ (12 : Int32)) (h2 : ¬ z1 ≤ z0) (h3 : 0 ≤ z2) (h4 : ¬ (2 : Int32) ≤ z2) (h5 : z2 = 0) : 0 ≤ z0 ∧ z0 < z1 := by first | (clear h3 h4 h5; lia) | lia
set_option maxHeartbeats 200000 in
theorem qw215 {z0 : Int32} {z1 : Int32} {z2 : Int32} {z3 : Int32} {z4 : Int32} {z5 : Int32} {z6 : Int32} {z7 : Int32} (h0 : 0 ≤ z1 ∧ z1 < 8) (h1 : (0 : Int32) ≤ z2 ∧ z2 ≤ (4 : Int32)) (h2 : 0 ≤ z0 ∧ z0 < z2) (h3 : 0 ≤ z3) (h4 : (0 : Int32) ≤ z4 ∧ z4 ≤ (12 : Int32)) (h5 : ¬ z4 ≤ z3) (h6 : 0 ≤ z5) (h7 : ¬ (2 : Int32) ≤ z5) (h8 : z5 = 0) (h9 : (0 : Int32) ≤ z6 ∧ z6 ≤ (7 : Int32)) (h10 : (0 : Int32) ≤ z7 ∧ z7 ≤ (8 : Int32)) (h11 : z6 < z7) (h12 : z6 = z1) : 0 ≤ z0 ∧ z0 < (4 : Int32) := by first | (clear h0 h3 h4 h5 h6 h7 h8 h9 h10 h11 h12; lia) | lia
set_option maxHeartbeats 200000 in
theorem qw216 {z0 : Int32} {z1 : Int32} {z2 : Int32} {z3 : Int32} {z4 : Int32} {z5 : Int32} {z6 : Int32} {z7 : Int32} (h0 : 0 ≤ z2 ∧ z2 < 8) (h1 : (0 : Int32) ≤ z1 ∧ z1 ≤ (4 : Int32)) (h2 : 0 ≤ z0 ∧ z0 < z1) (h3 : 0 ≤ z3) (h4 : (0 : Int32) ≤ z4 ∧ z4 ≤ (12 : Int32)) (h5 : ¬ z4 ≤ z3) (h6 : 0 ≤ z5) (h7 : ¬ (2 : Int32) ≤ z5) (h8 : z5 = 0) (h9 : (0 : Int32) ≤ z6 ∧ z6 ≤ (7 : Int32)) (h10 : (0 : Int32) ≤ z7 ∧ z7 ≤ (8 : Int32)) (h11 : z6 < z7) (h12 : z6 = z2) : 0 ≤ z0 ∧ z0 < z1 := by first | (clear h0 h3 h4 h5 h6 h7 h8 h9 h10 h11 h12; lia) | lia
set_option maxHeartbeats 200000 in
theorem qw217 {z0 : Int32} {z1 : Int32} {z2 : Int32} {z3 : Int32} {z4 : Int32} {z5 : Int32} {z6 : Int32} (h0 : 0 ≤ z1 ∧ z1 < 8) (h1 : 0 ≤ z2) (h2 : (0 : Int32) ≤ z3 ∧ z3 ≤ (12 : Int32)) (h3 : ¬ z3 ≤ z2) (h4 : 0 ≤ z4) (h5 : ¬ (2 : Int32) ≤ z4) (h6 : z4 = 0) (h7 : (0 : Int32) ≤ z5 ∧ z5 ≤ (7 : Int32)) (h8 : (0 : Int32) ≤ z6 ∧ z6 ≤ (8 : Int32)) (h9 : z5 < z6) (h10 : z5 = z1) (h11 : (1 : Int32) ≤ z0 ∧ z0 ≤ (9 : Int32)) : 1 ≤ z0 := by first | (clear h0 h1 h2 h3 h4 h5 h6 h7 h8 h9 h10; lia) | lia
set_option maxHeartbeats 200000 in
theorem qw218 {z0 : Int32} {z1 : Int32} {z2 : Int32} {z3 : Int32} {z4 : Int32} {z5 : Int32} {z6 : Int32} {z7 : Int32} {z8 : Int32} (h0 : 0 ≤ z1 ∧ z1 < 8) (h1 : 0 ≤ z2) (h2 : (0 : Int32) ≤ z3 ∧ z3 ≤ (12 : Int32)) (h3 : ¬ z3 ≤ z2) (h4 : 0 ≤ z4) (h5 : ¬ (2 : Int32) ≤ z4) (h6 : z4 = 0) (h7 : (0 : Int32) ≤ z5 ∧ z5 ≤ (7 : Int32)) (h8 : (0 : Int32) ≤ z6 ∧ z6 ≤ (8 : Int32)) (h9 : z5 < z6) (h10 : z5 = z1) (h11 : 1 ≤ z7) (h12 : (0 : Int32) ≤ z8 ∧ z8 ≤ (9 : Int32)) (h13 : z8 < z7) (h14 : z0 = z4 + (1 : Int32)) : 0 ≤ z0 := by first | (clear h0 h1 h2 h3 h7 h8 h9 h10 h11 h12 h13; lia) | lia
set_option maxHeartbeats 200000 in
theorem qw219 {z0 : Int32} {z1 : Int32} {z2 : Int32} {z3 : Int32} {z4 : Int32} {z5 : Int32} {z6 : Int32} {z7 : Int32} {z8 : Int32} (h0 : 0 ≤ z2 ∧ z2 < 8) (h1 : 0 ≤ z3) (h2 : (0 : Int32) ≤ z4 ∧ z4 ≤ (12 : Int32)) (h3 : ¬ z4 ≤ z3) (h4 : 0 ≤ z0) (h5 : ¬ (2 : Int32) ≤ z0) (h6 : z0 = 0) (h7 : (0 : Int32) ≤ z5 ∧ z5 ≤ (7 : Int32)) (h8 : (0 : Int32) ≤ z6 ∧ z6 ≤ (8 : Int32)) (h9 : z5 < z6) (h10 : z5 = z2) (h11 : 1 ≤ z7) (h12 : (0 : Int32) ≤ z8 ∧ z8 ≤ (9 : Int32)) (h13 : z8 < z7) (h14 : z1 = z0 + (1 : Int32)) : z0 < z1 := by first | (clear h0 h1 h2 h3 h7 h8 h9 h10 h11 h12 h13; lia) | lia
set_option maxHeartbeats 200000 in
theorem qw220 {z0 : Int32} {z1 : Int32} {z2 : Int32} {z3 : Int32} {z4 : Int32} {z5 : Int32} {z6 : Int32} {z7 : Int32} {z8 : Int32} (h0 : 0 ≤ z1 ∧ z1 < 8) (h1 : 0 ≤ z2) (h2 : (0 : Int32) ≤ z3 ∧ z3 ≤ (12 : Int32)) (h3 : ¬ z3 ≤ z2) (h4 : 0 ≤ z0) (h5 : ¬ (2 : Int32) ≤ z0) (h6 : z0 = 0) (h7 : (0 : Int32) ≤ z4 ∧ z4 ≤ (7 : Int32)) (h8 : (0 : Int32) ≤ z5 ∧ z5 ≤ (8 : Int32)) (h9 : z4 < z5) (h10 : z4 = z1) (h11 : 1 ≤ z6) (h12 : (0 : Int32) ≤ z7 ∧ z7 ≤ (9 : Int32)) (h13 : z7 < z6) (h14 : z8 = z0 + (1 : Int32)) : z0 < (2147483647 : Int32) := by first | (clear h0 h1 h2 h3 h7 h8 h9 h10 h11 h12 h13; lia) | lia
set_option maxHeartbeats 200000 in
theorem qw221 {z0 : Int32} {z1 : Int32} {z2 : Int32} {z3 : Int32} {z4 : Int32} {z5 : Int32} {z6 : Int32} {z7 : Int32} (h0 : 0 ≤ z1 ∧ z1 < 8) (h1 : 0 ≤ z0) (h2 : (0 : Int32) ≤ z2 ∧ z2 ≤ (12 : Int32)) (h3 : ¬ z2 ≤ z0) (h4 : 0 ≤ z3) (h5 : ¬ (2 : Int32) ≤ z3) (h6 : z3 = 0) (h7 : (0 : Int32) ≤ z4 ∧ z4 ≤ (7 : Int32)) (h8 : (0 : Int32) ≤ z5 ∧ z5 ≤ (8 : Int32)) (h9 : z4 < z5) (h10 : z4 = z1) (h11 : 1 ≤ z6) (h12 : (0 : Int32) ≤ z7 ∧ z7 ≤ (9 : Int32)) (h13 : ¬ z7 < z6) : 0 ≤ z0 ∧ z0 < (12 : Int32) := by first | (clear h0 h4 h5 h6 h7 h8 h9 h10 h11 h12 h13; lia) | lia
set_option maxHeartbeats 200000 in
theorem qw222 {z0 : Int32} {z1 : Int32} {z2 : Int32} {z3 : Int32} {z4 : Int32} {z5 : Int32} {z6 : Int32} {z7 : Int32} (h0 : 0 ≤ z2 ∧ z2 < 8) (h1 : 0 ≤ z0) (h2 : (0 : Int32) ≤ z1 ∧ z1 ≤ (12 : Int32)) (h3 : ¬ z1 ≤ z0) (h4 : 0 ≤ z3) (h5 : ¬ (2 : Int32) ≤ z3) (h6 : z3 = 0) (h7 : (0 : Int32) ≤ z4 ∧ z4 ≤ (7 : Int32)) (h8 : (0 : Int32) ≤ z5 ∧ z5 ≤ (8 : Int32)) (h9 : z4 < z5) (h10 : z4 = z2) (h11 : 1 ≤ z6) (h12 : (0 : Int32) ≤ z7 ∧ z7 ≤ (9 : Int32)) (h13 : ¬ z7 < z6) : 0 ≤ z0 ∧ z0 < z1 := by first | (clear h0 h4 h5 h6 h7 h8 h9 h10 h11 h12 h13; lia) | lia
set_option maxHeartbeats 200000 in
theorem qw223 {z0 : Int32} {z1 : Int32} {z2 : Int32} {z3 : Int32} {z4 : Int32} {z5 : Int32} {z6 : Int32} {z7 : Int32} (h0 : 0 ≤ z1 ∧ z1 < 8) (h1 : 0 ≤ z2) (h2 : (0 : Int32) ≤ z3 ∧ z3 ≤ (12 : Int32)) (h3 : ¬ z3 ≤ z2) (h4 : 0 ≤ z4) (h5 : ¬ (2 : Int32) ≤ z4) (h6 : z4 = 0) (h7 : (0 : Int32) ≤ z5 ∧ z5 ≤ (7 : Int32)) (h8 : (0 : Int32) ≤ z6 ∧ z6 ≤ (8 : Int32)) (h9 : z5 < z6) (h10 : z5 = z1) (h11 : 1 ≤ z0) (h12 : (0 : Int32) ≤ z7 ∧ z7 ≤ (9 : Int32)) (h13 : ¬ z7 < z0) : ¬ z0 = 0 := by first | (clear h0 h1 h2 h3 h4 h5 h6 h7 h8 h9 h10; lia) | lia
set_option maxHeartbeats 200000 in
theorem qw224 {z0 : Int32} {z1 : Int32} {z2 : Int32} {z3 : Int32} {z4 : Int32} {z5 : Int32} {z6 : Int32} {z7 : Int32} {z8 : Int32} (h0 : 0 ≤ z2 ∧ z2 < 8) (h1 : 0 ≤ z3) (h2 : (0 : Int32) ≤ z4 ∧ z4 ≤ (12 : Int32)) (h3 : ¬ z4 ≤ z3) (h4 : 0 ≤ z5) (h5 : ¬ (2 : Int32) ≤ z5) (h6 : z5 = 0) (h7 : (0 : Int32) ≤ z6 ∧ z6 ≤ (7 : Int32)) (h8 : (0 : Int32) ≤ z7 ∧ z7 ≤ (8 : Int32)) (h9 : z6 < z7) (h10 : z6 = z2) (h11 : 1 ≤ z1) (h12 : (0 : Int32) ≤ z8 ∧ z8 ≤ (9 : Int32)) (h13 : ¬ z8 < z1) (h14 : (1 : Int32) ≤ z0 ∧ z0 ≤ (60 : Int32)) : 0 ≤ ((z0 + z1) - (1 : Int32)) := by first | (clear h0 h1 h2 h3 h4 h5 h6 h7 h8 h9 h10; lia) | lia
set_option maxHeartbeats 200000 in
theorem qw225 {z0 : Int32} {z1 : Int32} {z2 : Int32} {z3 : Int32} {z4 : Int32} {z5 : Int32} {z6 : Int32} {z7 : Int32} (h0 : 0 ≤ z1 ∧ z1 < 8) (h1 : 0 ≤ z2) (h2 : (0 : Int32) ≤ z3 ∧ z3 ≤ (12 : Int32)) (h3 : ¬ z3 ≤ z2) (h4 : 0 ≤ z4) (h5 : ¬ (2 : Int32) ≤ z4) (h6 : z4 = 0) (h7 : (0 : Int32) ≤ z5 ∧ z5 ≤ (7 : Int32)) (h8 : (0 : Int32) ≤ z6 ∧ z6 ≤ (8 : Int32)) (h9 : z5 < z6) (h10 : z5 = z1) (h11 : 1 ≤ z0) (h12 : (0 : Int32) ≤ z7 ∧ z7 ≤ (9 : Int32)) (h13 : ¬ z7 < z0) : (1 : Int32) ≤ z0 := by first | (clear h0 h1 h2 h3 h4 h5 h6 h7 h8 h9 h10; lia) | lia
set_option maxHeartbeats 200000 in
theorem qw226 {z0 : Int32} {z1 : Int32} {z2 : Int32} {z3 : Int32} {z4 : Int32} {z5 : Int32} {z6 : Int32} {z7 : Int32} (h0 : 0 ≤ z1 ∧ z1 < 8) (h1 : 0 ≤ z2) (h2 : (0 : Int32) ≤ z3 ∧ z3 ≤ (12 : Int32)) (h3 : ¬ z3 ≤ z2) (h4 : 0 ≤ z4) (h5 : ¬ (2 : Int32) ≤ z4) (h6 : z4 = 0) (h7 : (0 : Int32) ≤ z5 ∧ z5 ≤ (7 : Int32)) (h8 : (0 : Int32) ≤ z6 ∧ z6 ≤ (8 : Int32)) (h9 : z5 < z6) (h10 : z5 = z1) (h11 : 1 ≤ z0) (h12 : (0 : Int32) ≤ z7 ∧ z7 ≤ (9 : Int32)) (h13 : ¬ z7 < z0) : 0 < z0 := by first | (clear h0 h1 h2 h3 h4 h5 h6 h7 h8 h9 h10; lia) | lia
set_option maxHeartbeats 200000 in
theorem qw227 {z0 : Int32} {z1 : Int32} {z2 : Int32} {z3 : Int32} {z4 : Int32} {z5 : Int32} {z6 : Int32} {z7 : Int32} {z8 : Int32} (h0 : 0 ≤ z2 ∧ z2 < 8) (h1 : 0 ≤ z3) (h2 : (0 : Int32) ≤ z4 ∧ z4 ≤ (12 : Int32)) (h3 : ¬ z4 ≤ z3) (h4 : 0 ≤ z5) (h5 : ¬ (2 : Int32) ≤ z5) (h6 : z5 = 0) (h7 : (0 : Int32) ≤ z6 ∧ z6 ≤ (7 : Int32)) (h8 : (0 : Int32) ≤ z7 ∧ z7 ≤ (8 : Int32)) (h9 : z6 < z7) (h10 : z6 = z2) (h11 : 1 ≤ z0) (h12 : (0 : Int32) ≤ z8 ∧ z8 ≤ (9 : Int32)) (h13 : ¬ z8 < z0) (h14 : (1 : Int32) ≤ z1 ∧ z1 ≤ (60 : Int32)) : z0 ≤ ((z1 + z0) - (1 : Int32)) := by first | (clear h0 h1 h2 h3 h4 h5 h6 h7 h8 h9 h10; lia) | lia
set_option maxHeartbeats 200000 in
theorem qw228 {z0 : Int32} {z1 : Int32} {z2 : Int32} {z3 : Int32} {z4 : Int32} {z5 : Int32} {z6 : Int32} {z7 : Int32} {z8 : Int32} {z9 : Int32} {z10 : Int32} {z11 : Int32} {z12 : Int32} {z13 : Int32} (h0 : 0 ≤ z1 ∧ z1 < 8) (h1 : 0 ≤ z2) (h2 : z3 ≤ 400) (h3 : z2 ≤ z3) (h4 : 0 ≤ z4) (h5 : (0 : Int32) ≤ z5 ∧ z5 ≤ (12 : Int32)) (h6 : ¬ z5 ≤ z4) (h7 : 0 ≤ z6) (h8 : ¬ (2 : Int32) ≤ z6) (h9 : z6 = 0) (h10 : (0 : Int32) ≤ z7 ∧ z7 ≤ (7 : Int32)) (h11 : (0 : Int32) ≤ z8 ∧ z8 ≤ (8 : Int32)) (h12 : z7 < z8) (h13 : z7 = z1) (h14 : 1 ≤ z9) (h15 : (0 : Int32) ≤ z10 ∧ z10 ≤ (9 : Int32)) (h16 : ¬ z10 < z9) (h17 : (1 : Int32) ≤ z11 ∧ z11 ≤ (60 : Int32)) (h18 : 0 ≤ z12 ∧ z12 ≤ ((z11 + z9) - (1 : Int32))) (h19 : (1 : Int32) ≤ z12) (h20 : z13 = z2 + z12) (h21 : z3 < z13) (h22 : z0 = z9 + (1 : Int32)) : 1 ≤ z0 := by first | (clear h0 h4 h5 h6 h7 h8 h9 h10 h11 h12 h13; lia) | lia
set_option maxHeartbeats 200000 in
theorem qw229 {z0 : Int32} {z1 : Int32} {z2 : Int32} {z3 : Int32} {z4 : Int32} {z5 : Int32} {z6 : Int32} {z7 : Int32} {z8 : Int32} {z9 : Int32} {z10 : Int32} {z11 : Int32} {z12 : Int32} {z13 : Int32} (h0 : 0 ≤ z2 ∧ z2 < 8) (h1 : 0 ≤ z3) (h2 : z4 ≤ 400) (h3 : z3 ≤ z4) (h4 : 0 ≤ z5) (h5 : (0 : Int32) ≤ z6 ∧ z6 ≤ (12 : Int32)) (h6 : ¬ z6 ≤ z5) (h7 : 0 ≤ z7) (h8 : ¬ (2 : Int32) ≤ z7) (h9 : z7 = 0) (h10 : (0 : Int32) ≤ z8 ∧ z8 ≤ (7 : Int32)) (h11 : (0 : Int32) ≤ z9 ∧ z9 ≤ (8 : Int32)) (h12 : z8 < z9) (h13 : z8 = z2) (h14 : 1 ≤ z0) (h15 : (0 : Int32) ≤ z10 ∧ z10 ≤ (9 : Int32)) (h16 : ¬ z10 < z0) (h17 : (1 : Int32) ≤ z11 ∧ z11 ≤ (60 : Int32)) (h18 : 0 ≤ z12 ∧ z12 ≤ ((z11 + z0) - (1 : Int32))) (h19 : (1 : Int32) ≤ z12) (h20 : z13 = z3 + z12) (h21 : z4 < z13) (h22 : z1 = z0 + (1 : Int32)) : z0 < z1 := by first | (clear h0 h4 h5 h6 h7 h8 h9 h10 h11 h12 h13; lia) | lia
set_option maxHeartbeats 200000 in
theorem qw230 {z0 : Int32} {z1 : Int32} {z2 : Int32} {z3 : Int32} {z4 : Int32} {z5 : Int32} {z6 : Int32} {z7 : Int32} {z8 : Int32} {z9 : Int32} {z10 : Int32} {z11 : Int32} {z12 : Int32} {z13 : Int32} (h0 : 0 ≤ z1 ∧ z1 < 8) (h1 : 0 ≤ z2) (h2 : z3 ≤ 400) (h3 : z2 ≤ z3) (h4 : 0 ≤ z4) (h5 : (0 : Int32) ≤ z5 ∧ z5 ≤ (12 : Int32)) (h6 : ¬ z5 ≤ z4) (h7 : 0 ≤ z6) (h8 : ¬ (2 : Int32) ≤ z6) (h9 : z6 = 0) (h10 : (0 : Int32) ≤ z7 ∧ z7 ≤ (7 : Int32)) (h11 : (0 : Int32) ≤ z8 ∧ z8 ≤ (8 : Int32)) (h12 : z7 < z8) (h13 : z7 = z1) (h14 : 1 ≤ z0) (h15 : (0 : Int32) ≤ z9 ∧ z9 ≤ (9 : Int32)) (h16 : ¬ z9 < z0) (h17 : (1 : Int32) ≤ z10 ∧ z10 ≤ (60 : Int32)) (h18 : 0 ≤ z11 ∧ z11 ≤ ((z10 + z0) - (1 : Int32))) (h19 : (1 : Int32) ≤ z11) (h20 : z12 = z2 + z11) (h21 : z3 < z12) (h22 : z13 = z0 + (1 : Int32)) : z0 < (2147483647 : Int32) := by first | (clear h0 h4 h5 h6 h7 h8 h9 h10 h11 h12 h13; lia) | lia
set_option maxHeartbeats 200000 in
theorem qw231 {z0 : Int32} {z1 : Int32} {z2 : Int32} {z3 : Int32} {z4 : Int32} {z5 : Int32} {z6 : Int32} {z7 : Int32} {z8 : Int32} {z9 : Int32} {z10 : Int32} {z11 : Int32} {z12 : Int32} (h0 : 0 ≤ z1 ∧ z1 < 8) (h1 : 0 ≤ z2) (h2 : z3 ≤ 400) (h3 : z2 ≤ z3) (h4 : 0 ≤ z0) (h5 : (0 : Int32) ≤ z4 ∧ z4 ≤ (12 : Int32)) (h6 : ¬ z4 ≤ z0) (h7 : 0 ≤ z5) (h8 : ¬ (2 : Int32) ≤ z5) (h9 : z5 = 0) (h10 : (0 : Int32) ≤ z6 ∧ z6 ≤ (7 : Int32)) (h11 : (0 : Int32) ≤ z7 ∧ z7 ≤ (8 : Int32)) (h12 : z6 < z7) (h13 : z6 = z1) (h14 : 1 ≤ z8) (h15 : (0 : Int32) ≤ z9 ∧ z9 ≤ (9 : Int32)) (h16 : ¬ z9 < z8) (h17 : (1 : Int32) ≤ z10 ∧ z10 ≤ (60 : Int32)) (h18 : 0 ≤ z11 ∧ z11 ≤ ((z10 + z8) - (1 : Int32))) (h19 : (1 : Int32) ≤ z11) (h20 : z12 = z2 + z11) (h21 : ¬ z3 < z12) (h22 : ¬ z5 = 0) : 0 ≤ z0 ∧ z0 < (12 : Int32) := by first | (clear h0 h1 h2 h3 h7 h8 h9 h10 h11 h12 h13 h14 h15 h16 h17 h18 h19 h20 h21 h22; lia) | lia
set_option maxHeartbeats 200000 in
theorem qw232 {z0 : Int32} {z1 : Int32} {z2 : Int32} {z3 : Int32} {z4 : Int32} {z5 : Int32} {z6 : Int32} {z7 : Int32} {z8 : Int32} {z9 : Int32} {z10 : Int32} {z11 : Int32} {z12 : Int32} (h0 : 0 ≤ z2 ∧ z2 < 8) (h1 : 0 ≤ z3) (h2 : z4 ≤ 400) (h3 : z3 ≤ z4) (h4 : 0 ≤ z0) (h5 : (0 : Int32) ≤ z1 ∧ z1 ≤ (12 : Int32)) (h6 : ¬ z1 ≤ z0) (h7 : 0 ≤ z5) (h8 : ¬ (2 : Int32) ≤ z5) (h9 : z5 = 0) (h10 : (0 : Int32) ≤ z6 ∧ z6 ≤ (7 : Int32)) (h11 : (0 : Int32) ≤ z7 ∧ z7 ≤ (8 : Int32)) (h12 : z6 < z7) (h13 : z6 = z2) (h14 : 1 ≤ z8) (h15 : (0 : Int32) ≤ z9 ∧ z9 ≤ (9 : Int32)) (h16 : ¬ z9 < z8) (h17 : (1 : Int32) ≤ z10 ∧ z10 ≤ (60 : Int32)) (h18 : 0 ≤ z11 ∧ z11 ≤ ((z10 + z8) - (1 : Int32))) (h19 : (1 : Int32) ≤ z11) (h20 : z12 = z3 + z11) (h21 : ¬ z4 < z12) (h22 : ¬ z5 = 0) : 0 ≤ z0 ∧ z0 < z1 := by first | (clear h0 h1 h2 h3 h7 h8 h9 h10 h11 h12 h13 h14 h15 h16 h17 h18 h19 h20 h21 h22; lia) | lia
set_option maxHeartbeats 200000 in
theorem qw233 {z0 : Int32} {z1 : Int32} {z2 : Int32} {z3 : Int32} {z4 : Int32} {z5 : Int32} {z6 : Int32} {z7 : Int32} {z8 : Int32} {z9 : Int32} {z10 : Int32} {z11 : Int32} {z12 : Int32} {z13 : Int32} {z14 : Int32} {z15 : Int32} (h0 : 0 ≤ z1 ∧ z1 < 8) (h1 : 0 ≤ z2) (h2 : z3 ≤ 400) (h3 : z2 ≤ z3) (h4 : (0 : Int32) ≤ z4 ∧ z4 ≤ (4 : Int32)) (h5 : 0 ≤ z0 ∧ z0 < z4) (h6 : 0 ≤ z5) (h7 : (0 : Int32) ≤ z6 ∧ z6 ≤ (12 : Int32)) (h8 : ¬ z6 ≤ z5) (h9 : 0 ≤ z7) (h10 : ¬ (2 : Int32) ≤ z7) (h11 : z7 = 0) (h12 : (0 : Int32) ≤ z8 ∧ z8 ≤ (7 : Int32)) (h13 : (0 : Int32) ≤ z9 ∧ z9 ≤ (8 : Int32)) (h14 : z8 < z9) (h15 : z8 = z1) (h16 : 1 ≤ z10) (h17 : (0 : Int32) ≤ z11 ∧ z11 ≤ (9 : Int32)) (h18 : ¬ z11 < z10) (h19 : (1 : Int32) ≤ z12 ∧ z12 ≤ (60 : Int32)) (h20 : 0 ≤ z13 ∧ z13 ≤ ((z12 + z10) - (1 : Int32))) (h21 : (1 : Int32) ≤ z13) (h22 : z14 = z2 + z13) (h23 : ¬ z3 < z14) (h24 : ¬ z7 = 0) (h25 : (0 : Int32) ≤ z15 ∧ z15 ≤ (7 : Int32)) (h26 : z15 < z9) : 0 ≤ z0 ∧ z0 < 4 := by first | (clear h0 h1 h2 h3 h6 h7 h8 h9 h10 h11 h12 h13 h14 h15 h16 h17 h18 h19 h20 h21 h22 h23 h24 h25 h26; lia) | lia
set_option maxHeartbeats 200000 in
theorem qw234 {z0 : Int32} {z1 : Int32} {z2 : Int32} {z3 : Int32} {z4 : Int32} {z5 : Int32} {z6 : Int32} {z7 : Int32} {z8 : Int32} {z9 : Int32} {z10 : Int32} {z11 : Int32} {z12 : Int32} {z13 : Int32} (h0 : 0 ≤ z1 ∧ z1 < 8) (h1 : 0 ≤ z2) (h2 : z3 ≤ 400) (h3 : z2 ≤ z3) (h4 : 0 ≤ z0) (h5 : (0 : Int32) ≤ z4 ∧ z4 ≤ (12 : Int32)) (h6 : ¬ z4 ≤ z0) (h7 : 0 ≤ z5) (h8 : ¬ (2 : Int32) ≤ z5) (h9 : z5 = 0) (h10 : (0 : Int32) ≤ z6 ∧ z6 ≤ (7 : Int32)) (h11 : (0 : Int32) ≤ z7 ∧ z7 ≤ (8 : Int32)) (h12 : z6 < z7) (h13 : z6 = z1) (h14 : 1 ≤ z8) (h15 : (0 : Int32) ≤ z9 ∧ z9 ≤ (9 : Int32)) (h16 : ¬ z9 < z8) (h17 : (1 : Int32) ≤ z10 ∧ z10 ≤ (60 : Int32)) (h18 : 0 ≤ z11 ∧ z11 ≤ ((z10 + z8) - (1 : Int32))) (h19 : (1 : Int32) ≤ z11) (h20 : z12 = z2 + z11) (h21 : ¬ z3 < z12) (h22 : ¬ z5 = 0) (h23 : (0 : Int32) ≤ z13 ∧ z13 ≤ (7 : Int32)) (h24 : z13 < z7) : 0 ≤ z0 ∧ z0 < 12 := by first | (clear h0 h1 h2 h3 h7 h8 h9 h10 h11 h12 h13 h14 h15 h16 h17 h18 h19 h20 h21 h22 h23 h24; lia) | lia
set_option maxHeartbeats 200000 in
theorem qw235 {z0 : Int32} {z1 : Int32} {z2 : Int32} {z3 : Int32} {z4 : Int32} {z5 : Int32} {z6 : Int32} {z7 : Int32} {z8 : Int32} {z9 : Int32} {z10 : Int32} {z11 : Int32} {z12 : Int32} {z13 : Int32} (h0 : 0 ≤ z1 ∧ z1 < 8) (h1 : 0 ≤ z0) (h2 : z2 ≤ 400) (h3 : z0 ≤ z2) (h4 : 0 ≤ z3) (h5 : (0 : Int32) ≤ z4 ∧ z4 ≤ (12 : Int32)) (h6 : ¬ z4 ≤ z3) (h7 : 0 ≤ z5) (h8 : ¬ (2 : Int32) ≤ z5) (h9 : z5 = 0) (h10 : (0 : Int32) ≤ z6 ∧ z6 ≤ (7 : Int32)) (h11 : (0 : Int32) ≤ z7 ∧ z7 ≤ (8 : Int32)) (h12 : z6 < z7) (h13 : z6 = z1) (h14 : 1 ≤ z8) (h15 : (0 : Int32) ≤ z9 ∧ z9 ≤ (9 : Int32)) (h16 : ¬ z9 < z8) (h17 : (1 : Int32) ≤ z10 ∧ z10 ≤ (60 : Int32)) (h18 : 0 ≤ z11 ∧ z11 ≤ ((z10 + z8) - (1 : Int32))) (h19 : (1 : Int32) ≤ z11) (h20 : z12 = z0 + z11) (h21 : ¬ z2 < z12) (h22 : ¬ z5 = 0) (h23 : (0 : Int32) ≤ z13 ∧ z13 ≤ (7 : Int32)) (h24 : z13 < z7) : 0 ≤ z0 := by first | (clear h0 h4 h5 h6 h7 h8 h9 h10 h11 h12 h13 h22 h23 h24; lia) | lia
set_option maxHeartbeats 200000 in
theorem qw236 {z0 : Int32} {z1 : Int32} {z2 : Int32} {z3 : Int32} {z4 : Int32} {z5 : Int32} {z6 : Int32} {z7 : Int32} {z8 : Int32} {z9 : Int32} {z10 : Int32} {z11 : Int32} {z12 : Int32} {z13 : Int32} (h0 : 0 ≤ z1 ∧ z1 < 8) (h1 : 0 ≤ z2) (h2 : z3 ≤ 400) (h3 : z2 ≤ z3) (h4 : 0 ≤ z4) (h5 : (0 : Int32) ≤ z5 ∧ z5 ≤ (12 : Int32)) (h6 : ¬ z5 ≤ z4) (h7 : 0 ≤ z6) (h8 : ¬ (2 : Int32) ≤ z6) (h9 : z6 = 0) (h10 : (0 : Int32) ≤ z7 ∧ z7 ≤ (7 : Int32)) (h11 : (0 : Int32) ≤ z8 ∧ z8 ≤ (8 : Int32)) (h12 : z7 < z8) (h13 : z7 = z1) (h14 : 1 ≤ z0) (h15 : (0 : Int32) ≤ z9 ∧ z9 ≤ (9 : Int32)) (h16 : ¬ z9 < z0) (h17 : (1 : Int32) ≤ z10 ∧ z10 ≤ (60 : Int32)) (h18 : 0 ≤ z11 ∧ z11 ≤ ((z10 + z0) - (1 : Int32))) (h19 : (1 : Int32) ≤ z11) (h20 : z12 = z2 + z11) (h21 : ¬ z3 < z12) (h22 : ¬ z6 = 0) (h23 : (0 : Int32) ≤ z13 ∧ z13 ≤ (7 : Int32)) (h24 : z13 < z8) : 1 ≤ z0 := by first | (clear h0 h4 h5 h6 h7 h8 h9 h10 h11 h12 h13 h22 h23 h24; lia) | lia
set_option maxHeartbeats 200000 in
theorem qw237 {z0 : Int32} {z1 : Int32} {z2 : Int32} {z3 : Int32} {z4 : Int32} {z5 : Int32} {z6 : Int32} {z7 : Int32} {z8 : Int32} {z9 : Int32} {z10 : Int32} {z11 : Int32} {z12 : Int32} {z13 : Int32} (h0 : 0 ≤ z2 ∧ z2 < 8) (h1 : 0 ≤ z3) (h2 : z4 ≤ 400) (h3 : z3 ≤ z4) (h4 : 0 ≤ z0) (h5 : (0 : Int32) ≤ z1 ∧ z1 ≤ (12 : Int32)) (h6 : ¬ z1 ≤ z0) (h7 : 0 ≤ z5) (h8 : ¬ (2 : Int32) ≤ z5) (h9 : z5 = 0) (h10 : (0 : Int32) ≤ z6 ∧ z6 ≤ (7 : Int32)) (h11 : (0 : Int32) ≤ z7 ∧ z7 ≤ (8 : Int32)) (h12 : z6 < z7) (h13 : z6 = z2) (h14 : 1 ≤ z8) (h15 : (0 : Int32) ≤ z9 ∧ z9 ≤ (9 : Int32)) (h16 : ¬ z9 < z8) (h17 : (1 : Int32) ≤ z10 ∧ z10 ≤ (60 : Int32)) (h18 : 0 ≤ z11 ∧ z11 ≤ ((z10 + z8) - (1 : Int32))) (h19 : (1 : Int32) ≤ z11) (h20 : z12 = z3 + z11) (h21 : ¬ z4 < z12) (h22 : ¬ z5 = 0) (h23 : (0 : Int32) ≤ z13 ∧ z13 ≤ (7 : Int32)) (h24 : z13 < z7) : 0 ≤ z0 ∧ z0 < z1 := by first | (clear h0 h1 h2 h3 h7 h8 h9 h10 h11 h12 h13 h14 h15 h16 h17 h18 h19 h20 h21 h22 h23 h24; lia) | lia
set_option maxHeartbeats 200000 in
theorem qw238 {z0 : Int32} {z1 : Int32} {z2 : Int32} {z3 : Int32} {z4 : Int32} {z5 : Int32} {z6 : Int32} {z7 : Int32} {z8 : Int32} {z9 : Int32} {z10 : Int32} {z11 : Int32} {z12 : Int32} {z13 : Int32} (h0 : 0 ≤ z1 ∧ z1 < 8) (h1 : 0 ≤ z2) (h2 : z3 ≤ 400) (h3 : z2 ≤ z3) (h4 : 0 ≤ z4) (h5 : (0 : Int32) ≤ z5 ∧ z5 ≤ (12 : Int32)) (h6 : ¬ z5 ≤ z4) (h7 : 0 ≤ z0) (h8 : ¬ (2 : Int32) ≤ z0) (h9 : z0 = 0) (h10 : (0 : Int32) ≤ z6 ∧ z6 ≤ (7 : Int32)) (h11 : (0 : Int32) ≤ z7 ∧ z7 ≤ (8 : Int32)) (h12 : z6 < z7) (h13 : z6 = z1) (h14 : 1 ≤ z8) (h15 : (0 : Int32) ≤ z9 ∧ z9 ≤ (9 : Int32)) (h16 : ¬ z9 < z8) (h17 : (1 : Int32) ≤ z10 ∧ z10 ≤ (60 : Int32)) (h18 : 0 ≤ z11 ∧ z11 ≤ ((z10 + z8) - (1 : Int32))) (h19 : (1 : Int32) ≤ z11) (h20 : z12 = z2 + z11) (h21 : ¬ z3 < z12) (h22 : ¬ z0 = 0) (h23 : (0 : Int32) ≤ z13 ∧ z13 ≤ (7 : Int32)) (h24 : z13 < z7) : 0 ≤ z0 ∧ z0 ≤ (1 : Int32) := by first | (clear h0 h1 h2 h3 h4 h5 h6 h10 h11 h12 h13 h14 h15 h16 h17 h18 h19 h20 h21 h23 h24; lia) | lia
set_option maxHeartbeats 200000 in
theorem qw239 {z0 : Int32} {z1 : Int32} {z2 : Int32} {z3 : Int32} {z4 : Int32} {z5 : Int32} {z6 : Int32} {z7 : Int32} {z8 : Int32} {z9 : Int32} {z10 : Int32} {z11 : Int32} {z12 : Int32} {z13 : Int32} (h0 : 0 ≤ z1 ∧ z1 < 8) (h1 : 0 ≤ z2) (h2 : z3 ≤ 400) (h3 : z2 ≤ z3) (h4 : 0 ≤ z4) (h5 : (0 : Int32) ≤ z5 ∧ z5 ≤ (12 : Int32)) (h6 : ¬ z5 ≤ z4) (h7 : 0 ≤ z6) (h8 : ¬ (2 : Int32) ≤ z6) (h9 : z6 = 0) (h10 : (0 : Int32) ≤ z7 ∧ z7 ≤ (7 : Int32)) (h11 : (0 : Int32) ≤ z8 ∧ z8 ≤ (8 : Int32)) (h12 : z7 < z8) (h13 : z7 = z1) (h14 : 1 ≤ z0) (h15 : (0 : Int32) ≤ z9 ∧ z9 ≤ (9 : Int32)) (h16 : ¬ z9 < z0) (h17 : (1 : Int32) ≤ z10 ∧ z10 ≤ (60 : Int32)) (h18 : 0 ≤ z11 ∧ z11 ≤ ((z10 + z0) - (1 : Int32))) (h19 : (1 : Int32) ≤ z11) (h20 : z12 = z2 + z11) (h21 : ¬ z3 < z12) (h22 : ¬ z6 = 0) (h23 : (0 : Int32) ≤ z13 ∧ z13 ≤ (7 : Int32)) (h24 : z13 < z8) : (1 : Int32) ≤ z0 ∧ z0 ≤ (9 : Int32) := by first | (clear h0 h4 h5 h6 h7 h8 h9 h10 h11 h12 h13 h22 h23 h24; lia) | lia
set_option maxHeartbeats 200000 in
theorem qw240 {z0 : Int32} {z1 : Int32} {z2 : Int32} {z3 : Int32} {z4 : Int32} {z5 : Int32} {z6 : Int32} {z7 : Int32} {z8 : Int32} {z9 : Int32} {z10 : Int32} {z11 : Int32} {z12 : Int32} {z13 : Int32} (h0 : 0 ≤ z3 ∧ z3 < 8) (h1 : 0 ≤ z0) (h2 : z2 ≤ 400) (h3 : z0 ≤ z2) (h4 : 0 ≤ z4) (h5 : (0 : Int32) ≤ z5 ∧ z5 ≤ (12 : Int32)) (h6 : ¬ z5 ≤ z4) (h7 : 0 ≤ z6) (h8 : ¬ (2 : Int32) ≤ z6) (h9 : z6 = 0) (h10 : (0 : Int32) ≤ z7 ∧ z7 ≤ (7 : Int32)) (h11 : (0 : Int32) ≤ z8 ∧ z8 ≤ (8 : Int32)) (h12 : z7 < z8) (h13 : z7 = z3) (h14 : 1 ≤ z9) (h15 : (0 : Int32) ≤ z10 ∧ z10 ≤ (9 : Int32)) (h16 : ¬ z10 < z9) (h17 : (1 : Int32) ≤ z11 ∧ z11 ≤ (60 : Int32)) (h18 : 0 ≤ z1 ∧ z1 ≤ ((z11 + z9) - (1 : Int32))) (h19 : (1 : Int32) ≤ z1) (h20 : z12 = z0 + z1) (h21 : ¬ z2 < z12) (h22 : ¬ z6 = 0) (h23 : (0 : Int32) ≤ z13 ∧ z13 ≤ (7 : Int32)) (h24 : z13 < z8) : z0 + z1 ≤ z2 := by first | (clear h0 h4 h5 h6 h7 h8 h9 h10 h11 h12 h13 h22 h23 h24; lia) | lia
set_option maxHeartbeats 200000 in
theorem qw241 {z0 : Int32} {z1 : Int32} {z2 : Int32} {z3 : Int32} {z4 : Int32} {z5 : Int32} {z6 : Int32} {z7 : Int32} {z8 : Int32} {z9 : Int32} {z10 : Int32} {z11 : Int32} {z12 : Int32} {z13 : Int32} (h0 : 0 ≤ z1 ∧ z1 < 8) (h1 : 0 ≤ z0) (h2 : z2 ≤ 400) (h3 : z0 ≤ z2) (h4 : 0 ≤ z3) (h5 : (0 : Int32) ≤ z4 ∧ z4 ≤ (12 : Int32)) (h6 : ¬ z4 ≤ z3) (h7 : 0 ≤ z5) (h8 : ¬ (2 : Int32) ≤ z5) (h9 : z5 = 0) (h10 : (0 : Int32) ≤ z6 ∧ z6 ≤ (7 : Int32)) (h11 : (0 : Int32) ≤ z7 ∧ z7 ≤ (8 : Int32)) (h12 : z6 < z7) (h13 : z6 = z1) (h14 : 1 ≤ z8) (h15 : (0 : Int32) ≤ z9 ∧ z9 ≤ (9 : Int32)) (h16 : ¬ z9 < z8) (h17 : (1 : Int32) ≤ z10 ∧ z10 ≤ (60 : Int32)) (h18 : 0 ≤ z11 ∧ z11 ≤ ((z10 + z8) - (1 : Int32))) (h19 : (1 : Int32) ≤ z11) (h20 : z12 = z0 + z11) (h21 : ¬ z2 < z12) (h22 : ¬ z5 = 0) (h23 : (0 : Int32) ≤ z13 ∧ z13 ≤ (7 : Int32)) (h24 : z13 < z7) : 0 ≤ z0 ∧ z0 ≤ (400 : Int32) := by first | (clear h0 h4 h5 h6 h7 h8 h9 h10 h11 h12 h13 h22 h23 h24; lia) | lia
set_option maxHeartbeats 200000 in
theorem qw242 {z0 : Int32} {z1 : Int32} {z2 : Int32} {z3 : Int32} {z4 : Int32} {z5 : Int32} {z6 : Int32} {z7 : Int32} {z8 : Int32} {z9 : Int32} {z10 : Int32} {z11 : Int32} {z12 : Int32} {z13 : Int32} (h0 : 0 ≤ z0 ∧ z0 < 8) (h1 : 0 ≤ z1) (h2 : z2 ≤ 400) (h3 : z1 ≤ z2) (h4 : 0 ≤ z3) (h5 : (0 : Int32) ≤ z4 ∧ z4 ≤ (12 : Int32)) (h6 : ¬ z4 ≤ z3) (h7 : 0 ≤ z5) (h8 : ¬ (2 : Int32) ≤ z5) (h9 : z5 = 0) (h10 : (0 : Int32) ≤ z6 ∧ z6 ≤ (7 : Int32)) (h11 : (0 : Int32) ≤ z7 ∧ z7 ≤ (8 : Int32)) (h12 : z6 < z7) (h13 : z6 = z0) (h14 : 1 ≤ z8) (h15 : (0 : Int32) ≤ z9 ∧ z9 ≤ (9 : Int32)) (h16 : ¬ z9 < z8) (h17 : (1 : Int32) ≤ z10 ∧ z10 ≤ (60 : Int32)) (h18 : 0 ≤ z11 ∧ z11 ≤ ((z10 + z8) - (1 : Int32))) (h19 : (1 : Int32) ≤ z11) (h20 : z12 = z1 + z11) (h21 : ¬ z2 < z12) (h22 : ¬ z5 = 0) (h23 : (0 : Int32) ≤ z13 ∧ z13 ≤ (7 : Int32)) (h24 : z13 < z7) : 0 ≤ z0 ∧ z0 < (8 : Int32) := by first | (clear h1 h2 h3 h4 h5 h6 h7 h8 h9 h14 h15 h16 h17 h18 h19 h20 h21 h22; lia) | lia
set_option maxHeartbeats 200000 in
theorem qw243 {z0 : Int32} {z1 : Int32} {z2 : Int32} {z3 : Int32} {z4 : Int32} {z5 : Int32} {z6 : Int32} {z7 : Int32} {z8 : Int32} {z9 : Int32} {z10 : Int32} {z11 : Int32} {z12 : Int32} {z13 : Int32} (h0 : 0 ≤ z1 ∧ z1 < 8) (h1 : 0 ≤ z2) (h2 : z0 ≤ 400) (h3 : z2 ≤ z0) (h4 : 0 ≤ z3) (h5 : (0 : Int32) ≤ z4 ∧ z4 ≤ (12 : Int32)) (h6 : ¬ z4 ≤ z3) (h7 : 0 ≤ z5) (h8 : ¬ (2 : Int32) ≤ z5) (h9 : z5 = 0) (h10 : (0 : Int32) ≤ z6 ∧ z6 ≤ (7 : Int32)) (h11 : (0 : Int32) ≤ z7 ∧ z7 ≤ (8 : Int32)) (h12 : z6 < z7) (h13 : z6 = z1) (h14 : 1 ≤ z8) (h15 : (0 : Int32) ≤ z9 ∧ z9 ≤ (9 : Int32)) (h16 : ¬ z9 < z8) (h17 : (1 : Int32) ≤ z10 ∧ z10 ≤ (60 : Int32)) (h18 : 0 ≤ z11 ∧ z11 ≤ ((z10 + z8) - (1 : Int32))) (h19 : (1 : Int32) ≤ z11) (h20 : z12 = z2 + z11) (h21 : ¬ z0 < z12) (h22 : ¬ z5 = 0) (h23 : (0 : Int32) ≤ z13 ∧ z13 ≤ (7 : Int32)) (h24 : z13 < z7) : z0 ≤ (400 : Int32) := by first | (clear h0 h4 h5 h6 h7 h8 h9 h10 h11 h12 h13 h22 h23 h24; lia) | lia
set_option maxHeartbeats 200000 in
theorem qw244 {z0 : Int32} {z1 : Int32} {z2 : Int32} {z3 : Int32} {z4 : Int32} {z5 : Int32} {z6 : Int32} {z7 : Int32} {z8 : Int32} {z9 : Int32} {z10 : Int32} {z11 : Int32} {z12 : Int32} {z13 : Int32} (h0 : 0 ≤ z1 ∧ z1 < 8) (h1 : 0 ≤ z2) (h2 : z3 ≤ 400) (h3 : z2 ≤ z3) (h4 : 0 ≤ z4) (h5 : (0 : Int32) ≤ z5 ∧ z5 ≤ (12 : Int32)) (h6 : ¬ z5 ≤ z4) (h7 : 0 ≤ z6) (h8 : ¬ (2 : Int32) ≤ z6) (h9 : z6 = 0) (h10 : (0 : Int32) ≤ z7 ∧ z7 ≤ (7 : Int32)) (h11 : (0 : Int32) ≤ z8 ∧ z8 ≤ (8 : Int32)) (h12 : z7 < z8) (h13 : z7 = z1) (h14 : 1 ≤ z9) (h15 : (0 : Int32) ≤ z10 ∧ z10 ≤ (9 : Int32)) (h16 : ¬ z10 < z9) (h17 : (1 : Int32) ≤ z11 ∧ z11 ≤ (60 : Int32)) (h18 : 0 ≤ z12 ∧ z12 ≤ ((z11 + z9) - (1 : Int32))) (h19 : (1 : Int32) ≤ z12) (h20 : z0 = z2 + z12) (h21 : ¬ z3 < z0) (h22 : ¬ z6 = 0) (h23 : (0 : Int32) ≤ z13 ∧ z13 ≤ (7 : Int32)) (h24 : z13 < z8) : 0 ≤ z0 ∧ z0 ≤ (400 : Int32) := by first | (clear h0 h4 h5 h6 h7 h8 h9 h10 h11 h12 h13 h22 h23 h24; lia) | lia
set_option maxHeartbeats 200000 in
theorem qw245 {z0 : Int32} {z1 : Int32} {z2 : Int32} {z3 : Int32} {z4 : Int32} {z5 : Int32} {z6 : Int32} {z7 : Int32} {z8 : Int32} {z9 : Int32} {z10 : Int32} {z11 : Int32} {z12 : Int32} {z13 : Int32} (h0 : 0 ≤ z1 ∧ z1 < 8) (h1 : 0 ≤ z2) (h2 : z3 ≤ 400) (h3 : z2 ≤ z3) (h4 : 0 ≤ z4) (h5 : (0 : Int32) ≤ z5 ∧ z5 ≤ (12 : Int32)) (h6 : ¬ z5 ≤ z4) (h7 : 0 ≤ z6) (h8 : ¬ (2 : Int32) ≤ z6) (h9 : z6 = 0) (h10 : (0 : Int32) ≤ z7 ∧ z7 ≤ (7 : Int32)) (h11 : (0 : Int32) ≤ z8 ∧ z8 ≤ (8 : Int32)) (h12 : z7 < z8) (h13 : z7 = z1) (h14 : 1 ≤ z9) (h15 : (0 : Int32) ≤ z10 ∧ z10 ≤ (9 : Int32)) (h16 : ¬ z10 < z9) (h17 : (1 : Int32) ≤ z11 ∧ z11 ≤ (60 : Int32)) (h18 : 0 ≤ z12 ∧ z12 ≤ ((z11 + z9) - (1 : Int32))) (h19 : (1 : Int32) ≤ z12) (h20 : z13 = z2 + z12) (h21 : ¬ z3 < z13) (h22 : ¬ z6 = 0) (h23 : (0 : Int32) ≤ z0 ∧ z0 ≤ (7 : Int32)) (h24 : z0 < z8) : 0 ≤ z0 ∧ z0 < (8 : Int32) := by first | (clear h1 h2 h3 h4 h5 h6 h7 h8 h9 h14 h15 h16 h17 h18 h19 h20 h21 h22; lia) | lia
set_option maxHeartbeats 200000 in
theorem qw246 {z0 : Int32} {z1 : Int32} {z2 : Int32} {z3 : Int32} {z4 : Int32} {z5 : Int32} {z6 : Int32} {z7 : Int32} {z8 : Int32} {z9 : Int32} {z10 : Int32} {z11 : Int32} {z12 : Int32} {z13 : Int32} {z14 : Int32} (h0 : 0 ≤ z1 ∧ z1 < 8) (h1 : 0 ≤ z2) (h2 : z3 ≤ 400) (h3 : z2 ≤ z3) (h4 : 0 ≤ z4) (h5 : (0 : Int32) ≤ z5 ∧ z5 ≤ (12 : Int32)) (h6 : ¬ z5 ≤ z4) (h7 : 0 ≤ z6) (h8 : ¬ (2 : Int32) ≤ z6) (h9 : z6 = 0) (h10 : (0 : Int32) ≤ z7 ∧ z7 ≤ (7 : Int32)) (h11 : (0 : Int32) ≤ z8 ∧ z8 ≤ (8 : Int32)) (h12 : z7 < z8) (h13 : z7 = z1) (h14 : 1 ≤ z9) (h15 : (0 : Int32) ≤ z10 ∧ z10 ≤ (9 : Int32)) (h16 : ¬ z10 < z9) (h17 : (1 : Int32) ≤ z11 ∧ z11 ≤ (60 : Int32)) (h18 : 0 ≤ z12 ∧ z12 ≤ ((z11 + z9) - (1 : Int32))) (h19 : (1 : Int32) ≤ z12) (h20 : z13 = z2 + z12) (h21 : ¬ z3 < z13) (h22 : ¬ z6 = 0) (h23 : (0 : Int32) ≤ z14 ∧ z14 ≤ (7 : Int32)) (h24 : z14 < z8) (h25 : z0 = z9 + (1 : Int32)) : 1 ≤ z0 := by first | (clear h0 h4 h5 h6 h7 h8 h9 h10 h11 h12 h13 h22 h23 h24; lia) | lia
set_option maxHeartbeats 200000 in
theorem qw247 {z0 : Int32} {z1 : Int32} {z2 : Int32} {z3 : Int32} {z4 : Int32} {z5 : Int32} {z6 : Int32} {z7 : Int32} {z8 : Int32} {z9 : Int32} {z10 : Int32} {z11 : Int32} {z12 : Int32} {z13 : Int32} {z14 : Int32} (h0 : 0 ≤ z2 ∧ z2 < 8) (h1 : 0 ≤ z3) (h2 : z4 ≤ 400) (h3 : z3 ≤ z4) (h4 : 0 ≤ z5) (h5 : (0 : Int32) ≤ z6 ∧ z6 ≤ (12 : Int32)) (h6 : ¬ z6 ≤ z5) (h7 : 0 ≤ z7) (h8 : ¬ (2 : Int32) ≤ z7) (h9 : z7 = 0) (h10 : (0 : Int32) ≤ z8 ∧ z8 ≤ (7 : Int32)) (h11 : (0 : Int32) ≤ z9 ∧ z9 ≤ (8 : Int32)) (h12 : z8 < z9) (h13 : z8 = z2) (h14 : 1 ≤ z0) (h15 : (0 : Int32) ≤ z10 ∧ z10 ≤ (9 : Int32)) (h16 : ¬ z10 < z0) (h17 : (1 : Int32) ≤ z11 ∧ z11 ≤ (60 : Int32)) (h18 : 0 ≤ z12 ∧ z12 ≤ ((z11 + z0) - (1 : Int32))) (h19 : (1 : Int32) ≤ z12) (h20 : z13 = z3 + z12) (h21 : ¬ z4 < z13) (h22 : ¬ z7 = 0) (h23 : (0 : Int32) ≤ z14 ∧ z14 ≤ (7 : Int32)) (h24 : z14 < z9) (h25 : z1 = z0 + (1 : Int32)) : z0 < z1 := by first | (clear h0 h4 h5 h6 h7 h8 h9 h10 h11 h12 h13 h22 h23 h24; lia) | lia
set_option maxHeartbeats 200000 in
theorem qw248 {z0 : Int32} {z1 : Int32} {z2 : Int32} {z3 : Int32} {z4 : Int32} {z5 : Int32} {z6 : Int32} {z7 : Int32} {z8 : Int32} {z9 : Int32} {z10 : Int32} {z11 : Int32} {z12 : Int32} {z13 : Int32} {z14 : Int32} (h0 : 0 ≤ z1 ∧ z1 < 8) (h1 : 0 ≤ z2) (h2 : z3 ≤ 400) (h3 : z2 ≤ z3) (h4 : 0 ≤ z4) (h5 : (0 : Int32) ≤ z5 ∧ z5 ≤ (12 : Int32)) (h6 : ¬ z5 ≤ z4) (h7 : 0 ≤ z6) (h8 : ¬ (2 : Int32) ≤ z6) (h9 : z6 = 0) (h10 : (0 : Int32) ≤ z7 ∧ z7 ≤ (7 : Int32)) (h11 : (0 : Int32) ≤ z8 ∧ z8 ≤ (8 : Int32)) (h12 : z7 < z8) (h13 : z7 = z1) (h14 : 1 ≤ z0) (h15 : (0 : Int32) ≤ z9 ∧ z9 ≤ (9 : Int32)) (h16 : ¬ z9 < z0) (h17 : (1 : Int32) ≤ z10 ∧ z10 ≤ (60 : Int32)) (h18 : 0 ≤ z11 ∧ z11 ≤ ((z10 + z0) - (1 : Int32))) (h19 : (1 : Int32) ≤ z11) (h20 : z12 = z2 + z11) (h21 : ¬ z3 < z12) (h22 : ¬ z6 = 0) (h23 : (0 : Int32) ≤ z13 ∧ z13 ≤ (7 : Int32)) (h24 : z13 < z8) (h25 : z14 = z0 + (1 : Int32)) : z0 < (2147483647 : Int32) := by first | (clear h0 h4 h5 h6 h7 h8 h9 h10 h11 h12 h13 h22 h23 h24; lia) | lia
set_option maxHeartbeats 200000 in
theorem qw249 {z0 : Int32} {z1 : Int32} {z2 : Int32} {z3 : Int32} {z4 : Int32} {z5 : Int32} {z6 : Int32} {z7 : Int32} {z8 : Int32} {z9 : Int32} {z10 : Int32} {z11 : Int32} {z12 : Int32} (h0 : 0 ≤ z1 ∧ z1 < 8) (h1 : 0 ≤ z2) (h2 : z3 ≤ 400) (h3 : z2 ≤ z3) (h4 : 0 ≤ z0) (h5 : (0 : Int32) ≤ z4 ∧ z4 ≤ (12 : Int32)) (h6 : ¬ z4 ≤ z0) (h7 : 0 ≤ z5) (h8 : ¬ (2 : Int32) ≤ z5) (h9 : z5 = 0) (h10 : (0 : Int32) ≤ z6 ∧ z6 ≤ (7 : Int32)) (h11 : (0 : Int32) ≤ z7 ∧ z7 ≤ (8 : Int32)) (h12 : z6 < z7) (h13 : z6 = z1) (h14 : 1 ≤ z8) (h15 : (0 : Int32) ≤ z9 ∧ z9 ≤ (9 : Int32)) (h16 : ¬ z9 < z8) (h17 : (1 : Int32) ≤ z10 ∧ z10 ≤ (60 : Int32)) (h18 : 0 ≤ z11 ∧ z11 ≤ ((z10 + z8) - (1 : Int32))) (h19 : (1 : Int32) ≤ z11) (h20 : z12 = z2 + z11) (h21 : ¬ z3 < z12) (h22 : z5 = 0) : 0 ≤ z0 ∧ z0 < (12 : Int32) := by first | (clear h0 h1 h2 h3 h7 h8 h9 h10 h11 h12 h13 h14 h15 h16 h17 h18 h19 h20 h21 h22; lia) | lia
set_option maxHeartbeats 200000 in
theorem qw250 {z0 : Int32} {z1 : Int32} {z2 : Int32} {z3 : Int32} {z4 : Int32} {z5 : Int32} {z6 : Int32} {z7 : Int32} {z8 : Int32} {z9 : Int32} {z10 : Int32} {z11 : Int32} {z12 : Int32} (h0 : 0 ≤ z2 ∧ z2 < 8) (h1 : 0 ≤ z3) (h2 : z4 ≤ 400) (h3 : z3 ≤ z4) (h4 : 0 ≤ z0) (h5 : (0 : Int32) ≤ z1 ∧ z1 ≤ (12 : Int32)) (h6 : ¬ z1 ≤ z0) (h7 : 0 ≤ z5) (h8 : ¬ (2 : Int32) ≤ z5) (h9 : z5 = 0) (h10 : (0 : Int32) ≤ z6 ∧ z6 ≤ (7 : Int32)) (h11 : (0 : Int32) ≤ z7 ∧ z7 ≤ (8 : Int32)) (h12 : z6 < z7) (h13 : z6 = z2) (h14 : 1 ≤ z8) (h15 : (0 : Int32) ≤ z9 ∧ z9 ≤ (9 : Int32)) (h16 : ¬ z9 < z8) (h17 : (1 : Int32) ≤ z10 ∧ z10 ≤ (60 : Int32)) (h18 : 0 ≤ z11 ∧ z11 ≤ ((z10 + z8) - (1 : Int32))) (h19 : (1 : Int32) ≤ z11) (h20 : z12 = z3 + z11) (h21 : ¬ z4 < z12) (h22 : z5 = 0) : 0 ≤ z0 ∧ z0 < z1 := by first | (clear h0 h1 h2 h3 h7 h8 h9 h10 h11 h12 h13 h14 h15 h16 h17 h18 h19 h20 h21 h22; lia) | lia
set_option maxHeartbeats 200000 in
theorem qw251 {z0 : Int32} {z1 : Int32} {z2 : Int32} {z3 : Int32} {z4 : Int32} {z5 : Int32} {z6 : Int32} {z7 : Int32} {z8 : Int32} {z9 : Int32} {z10 : Int32} {z11 : Int32} {z12 : Int32} {z13 : Int32} {z14 : Int32} {z15 : Int32} (h0 : 0 ≤ z1 ∧ z1 < 8) (h1 : 0 ≤ z2) (h2 : z3 ≤ 400) (h3 : z2 ≤ z3) (h4 : (0 : Int32) ≤ z4 ∧ z4 ≤ (4 : Int32)) (h5 : 0 ≤ z0 ∧ z0 < z4) (h6 : 0 ≤ z5) (h7 : (0 : Int32) ≤ z6 ∧ z6 ≤ (12 : Int32)) (h8 : ¬ z6 ≤ z5) (h9 : 0 ≤ z7) (h10 : ¬ (2 : Int32) ≤ z7) (h11 : z7 = 0) (h12 : (0 : Int32) ≤ z8 ∧ z8 ≤ (7 : Int32)) (h13 : (0 : Int32) ≤ z9 ∧ z9 ≤ (8 : Int32)) (h14 : z8 < z9) (h15 : z8 = z1) (h16 : 1 ≤ z10) (h17 : (0 : Int32) ≤ z11 ∧ z11 ≤ (9 : Int32)) (h18 : ¬ z11 < z10) (h19 : (1 : Int32) ≤ z12 ∧ z12 ≤ (60 : Int32)) (h20 : 0 ≤ z13 ∧ z13 ≤ ((z12 + z10) - (1 : Int32))) (h21 : (1 : Int32) ≤ z13) (h22 : z14 = z2 + z13) (h23 : ¬ z3 < z14) (h24 : z7 = 0) (h25 : (0 : Int32) ≤ z15 ∧ z15 ≤ (7 : Int32)) (h26 : z15 < z9) : 0 ≤ z0 ∧ z0 < 4 := by first | (clear h0 h1 h2 h3 h6 h7 h8 h9 h10 h11 h12 h13 h14 h15 h16 h17 h18 h19 h20 h21 h22 h23 h24 h25 h26; lia) | lia
set_option maxHeartbeats 200000 in
theorem qw252 {z0 : Int32} {z1 : Int32} {z2 : Int32} {z3 : Int32} {z4 : Int32} {z5 : Int32} {z6 : Int32} {z7 : Int32} {z8 : Int32} {z9 : Int32} {z10 : Int32} {z11 : Int32} {z12 : Int32} {z13 : Int32} (h0 : 0 ≤ z1 ∧ z1 < 8) (h1 : 0 ≤ z2) (h2 : z3 ≤ 400) (h3 : z2 ≤ z3) (h4 : 0 ≤ z0) (h5 : (0 : Int32) ≤ z4 ∧ z4 ≤ (12 : Int32)) (h6 : ¬ z4 ≤ z0) (h7 : 0 ≤ z5) (h8 : ¬ (2 : Int32) ≤ z5) (h9 : z5 = 0) (h10 : (0 : Int32) ≤ z6 ∧ z6 ≤ (7 : Int32)) (h11 : (0 : Int32) ≤ z7 ∧ z7 ≤ (8 : Int32)) (h12 : z6 < z7) (h13 : z6 = z1) (h14 : 1 ≤ z8) (h15 : (0 : Int32) ≤ z9 ∧ z9 ≤ (9 : Int32)) (h16 : ¬ z9 < z8) (h17 : (1 : Int32) ≤ z10 ∧ z10 ≤ (60 : Int32)) (h18 : 0 ≤ z11 ∧ z11 ≤ ((z10 + z8) - (1 : Int32))) (h19 : (1 : Int32) ≤ z11) (h20 : z12 = z2 + z11) (h21 : ¬ z3 < z12) (h22 : z5 = 0) (h23 : (0 : Int32) ≤ z13 ∧ z13 ≤ (7 : Int32)) (h24 : z13 < z7) : 0 ≤ z0 ∧ z0 < 12 := by first | (clear h0 h1 h2 h3 h7 h8 h9 h10 h11 h12 h13 h14 h15 h16 h17 h18 h19 h20 h21 h22 h23 h24; lia) | lia
set_option maxHeartbeats 200000 in
theorem qw253 {z0 : Int32} {z1 : Int32} {z2 : Int32} {z3 : Int32} {z4 : Int32} {z5 : Int32} {z6 : Int32} {z7 : Int32} {z8 : Int32} {z9 : Int32} {z10 : Int32} {z11 : Int32} {z12 : Int32} {z13 : Int32} (h0 : 0 ≤ z1 ∧ z1 < 8) (h1 : 0 ≤ z0) (h2 : z2 ≤ 400) (h3 : z0 ≤ z2) (h4 : 0 ≤ z3) (h5 : (0 : Int32) ≤ z4 ∧ z4 ≤ (12 : Int32)) (h6 : ¬ z4 ≤ z3) (h7 : 0 ≤ z5) (h8 : ¬ (2 : Int32) ≤ z5) (h9 : z5 = 0) (h10 : (0 : Int32) ≤ z6 ∧ z6 ≤ (7 : Int32)) (h11 : (0 : Int32) ≤ z7 ∧ z7 ≤ (8 : Int32)) (h12 : z6 < z7) (h13 : z6 = z1) (h14 : 1 ≤ z8) (h15 : (0 : Int32) ≤ z9 ∧ z9 ≤ (9 : Int32)) (h16 : ¬ z9 < z8) (h17 : (1 : Int32) ≤ z10 ∧ z10 ≤ (60 : Int32)) (h18 : 0 ≤ z11 ∧ z11 ≤ ((z10 + z8) - (1 : Int32))) (h19 : (1 : Int32) ≤ z11) (h20 : z12 = z0 + z11) (h21 : ¬ z2 < z12) (h22 : z5 = 0) (h23 : (0 : Int32) ≤ z13 ∧ z13 ≤ (7 : Int32)) (h24 : z13 < z7) : 0 ≤ z0 := by first | (clear h0 h4 h5 h6 h7 h8 h9 h10 h11 h12 h13 h22 h23 h24; lia) | lia
set_option maxHeartbeats 200000 in
theorem qw254 {z0 : Int32} {z1 : Int32} {z2 : Int32} {z3 : Int32} {z4 : Int32} {z5 : Int32} {z6 : Int32} {z7 : Int32} {z8 : Int32} {z9 : Int32} {z10 : Int32} {z11 : Int32} {z12 : Int32} {z13 : Int32} (h0 : 0 ≤ z1 ∧ z1 < 8) (h1 : 0 ≤ z2) (h2 : z3 ≤ 400) (h3 : z2 ≤ z3) (h4 : 0 ≤ z4) (h5 : (0 : Int32) ≤ z5 ∧ z5 ≤ (12 : Int32)) (h6 : ¬ z5 ≤ z4) (h7 : 0 ≤ z6) (h8 : ¬ (2 : Int32) ≤ z6) (h9 : z6 = 0) (h10 : (0 : Int32) ≤ z7 ∧ z7 ≤ (7 : Int32)) (h11 : (0 : Int32) ≤ z8 ∧ z8 ≤ (8 : Int32)) (h12 : z7 < z8) (h13 : z7 = z1) (h14 : 1 ≤ z0) (h15 : (0 : Int32) ≤ z9 ∧ z9 ≤ (9 : Int32)) (h16 : ¬ z9 < z0) (h17 : (1 : Int32) ≤ z10 ∧ z10 ≤ (60 : Int32)) (h18 : 0 ≤ z11 ∧ z11 ≤ ((z10 + z0) - (1 : Int32))) (h19 : (1 : Int32) ≤ z11) (h20 : z12 = z2 + z11) (h21 : ¬ z3 < z12) (h22 : z6 = 0) (h23 : (0 : Int32) ≤ z13 ∧ z13 ≤ (7 : Int32)) (h24 : z13 < z8) : 1 ≤ z0 := by first | (clear h0 h4 h5 h6 h7 h8 h9 h10 h11 h12 h13 h22 h23 h24; lia) | lia
set_option maxHeartbeats 200000 in
theorem qw255 {z0 : Int32} {z1 : Int32} {z2 : Int32} {z3 : Int32} {z4 : Int32} {z5 : Int32} {z6 : Int32} {z7 : Int32} {z8 : Int32} {z9 : Int32} {z10 : Int32} {z11 : Int32} {z12 : Int32} {z13 : Int32} (h0 : 0 ≤ z2 ∧ z2 < 8) (h1 : 0 ≤ z3) (h2 : z4 ≤ 400) (h3 : z3 ≤ z4) (h4 : 0 ≤ z0) (h5 : (0 : Int32) ≤ z1 ∧ z1 ≤ (12 : Int32)) (h6 : ¬ z1 ≤ z0) (h7 : 0 ≤ z5) (h8 : ¬ (2 : Int32) ≤ z5) (h9 : z5 = 0) (h10 : (0 : Int32) ≤ z6 ∧ z6 ≤ (7 : Int32)) (h11 : (0 : Int32) ≤ z7 ∧ z7 ≤ (8 : Int32)) (h12 : z6 < z7) (h13 : z6 = z2) (h14 : 1 ≤ z8) (h15 : (0 : Int32) ≤ z9 ∧ z9 ≤ (9 : Int32)) (h16 : ¬ z9 < z8) (h17 : (1 : Int32) ≤ z10 ∧ z10 ≤ (60 : Int32)) (h18 : 0 ≤ z11 ∧ z11 ≤ ((z10 + z8) - (1 : Int32))) (h19 : (1 : Int32) ≤ z11) (h20 : z12 = z3 + z11) (h21 : ¬ z4 < z12) (h22 : z5 = 0) (h23 : (0 : Int32) ≤ z13 ∧ z13 ≤ (7 : Int32)) (h24 : z13 < z7) : 0 ≤ z0 ∧ z0 < z1 := by first | (clear h0 h1 h2 h3 h7 h8 h9 h10 h11 h12 h13 h14 h15 h16 h17 h18 h19 h20 h21 h22 h23 h24; lia) | lia
set_option maxHeartbeats 200000 in
theorem qw256 {z0 : Int32} {z1 : Int32} {z2 : Int32} {z3 : Int32} {z4 : Int32} {z5 : Int32} {z6 : Int32} {z7 : Int32} {z8 : Int32} {z9 : Int32} {z10 : Int32} {z11 : Int32} {z12 : Int32} {z13 : Int32} (h0 : 0 ≤ z1 ∧ z1 < 8) (h1 : 0 ≤ z2) (h2 : z3 ≤ 400) (h3 : z2 ≤ z3) (h4 : 0 ≤ z4) (h5 : (0 : Int32) ≤ z5 ∧ z5 ≤ (12 : Int32)) (h6 : ¬ z5 ≤ z4) (h7 : 0 ≤ z0) (h8 : ¬ (2 : Int32) ≤ z0) (h9 : z0 = 0) (h10 : (0 : Int32) ≤ z6 ∧ z6 ≤ (7 : Int32)) (h11 : (0 : Int32) ≤ z7 ∧ z7 ≤ (8 : Int32)) (h12 : z6 < z7) (h13 : z6 = z1) (h14 : 1 ≤ z8) (h15 : (0 : Int32) ≤ z9 ∧ z9 ≤ (9 : Int32)) (h16 : ¬ z9 < z8) (h17 : (1 : Int32) ≤ z10 ∧ z10 ≤ (60 : Int32)) (h18 : 0 ≤ z11 ∧ z11 ≤ ((z10 + z8) - (1 : Int32))) (h19 : (1 : Int32) ≤ z11) (h20 : z12 = z2 + z11) (h21 : ¬ z3 < z12) (h22 : z0 = 0) (h23 : (0 : Int32) ≤ z13 ∧ z13 ≤ (7 : Int32)) (h24 : z13 < z7) : 0 ≤ z0 ∧ z0 ≤ (1 : Int32) := by first | (clear h0 h1 h2 h3 h4 h5 h6 h10 h11 h12 h13 h14 h15 h16 h17 h18 h19 h20 h21 h23 h24; lia) | lia
set_option maxHeartbeats 200000 in
theorem qw257 {z0 : Int32} {z1 : Int32} {z2 : Int32} {z3 : Int32} {z4 : Int32} {z5 : Int32} {z6 : Int32} {z7 : Int32} {z8 : Int32} {z9 : Int32} {z10 : Int32} {z11 : Int32} {z12 : Int32} {z13 : Int32} (h0 : 0 ≤ z1 ∧ z1 < 8) (h1 : 0 ≤ z2) (h2 : z3 ≤ 400) (h3 : z2 ≤ z3) (h4 : 0 ≤ z4) (h5 : (0 : Int32) ≤ z5 ∧ z5 ≤ (12 : Int32)) (h6 : ¬ z5 ≤ z4) (h7 : 0 ≤ z6) (h8 : ¬ (2 : Int32) ≤ z6) (h9 : z6 = 0) (h10 : (0 : Int32) ≤ z7 ∧ z7 ≤ (7 : Int32)) (h11 : (0 : Int32) ≤ z8 ∧ z8 ≤ (8 : Int32)) (h12 : z7 < z8) (h13 : z7 = z1) (h14 : 1 ≤ z0) (h15 : (0 : Int32) ≤ z9 ∧ z9 ≤ (9 : Int32)) (h16 : ¬ z9 < z0) (h17 : (1 : Int32) ≤ z10 ∧ z10 ≤ (60 : Int32)) (h18 : 0 ≤ z11 ∧ z11 ≤ ((z10 + z0) - (1 : Int32))) (h19 : (1 : Int32) ≤ z11) (h20 : z12 = z2 + z11) (h21 : ¬ z3 < z12) (h22 : z6 = 0) (h23 : (0 : Int32) ≤ z13 ∧ z13 ≤ (7 : Int32)) (h24 : z13 < z8) : (1 : Int32) ≤ z0 ∧ z0 ≤ (9 : Int32) := by first | (clear h0 h4 h5 h6 h7 h8 h9 h10 h11 h12 h13 h22 h23 h24; lia) | lia
set_option maxHeartbeats 200000 in
theorem qw258 {z0 : Int32} {z1 : Int32} {z2 : Int32} {z3 : Int32} {z4 : Int32} {z5 : Int32} {z6 : Int32} {z7 : Int32} {z8 : Int32} {z9 : Int32} {z10 : Int32} {z11 : Int32} {z12 : Int32} {z13 : Int32} (h0 : 0 ≤ z3 ∧ z3 < 8) (h1 : 0 ≤ z0) (h2 : z2 ≤ 400) (h3 : z0 ≤ z2) (h4 : 0 ≤ z4) (h5 : (0 : Int32) ≤ z5 ∧ z5 ≤ (12 : Int32)) (h6 : ¬ z5 ≤ z4) (h7 : 0 ≤ z6) (h8 : ¬ (2 : Int32) ≤ z6) (h9 : z6 = 0) (h10 : (0 : Int32) ≤ z7 ∧ z7 ≤ (7 : Int32)) (h11 : (0 : Int32) ≤ z8 ∧ z8 ≤ (8 : Int32)) (h12 : z7 < z8) (h13 : z7 = z3) (h14 : 1 ≤ z9) (h15 : (0 : Int32) ≤ z10 ∧ z10 ≤ (9 : Int32)) (h16 : ¬ z10 < z9) (h17 : (1 : Int32) ≤ z11 ∧ z11 ≤ (60 : Int32)) (h18 : 0 ≤ z1 ∧ z1 ≤ ((z11 + z9) - (1 : Int32))) (h19 : (1 : Int32) ≤ z1) (h20 : z12 = z0 + z1) (h21 : ¬ z2 < z12) (h22 : z6 = 0) (h23 : (0 : Int32) ≤ z13 ∧ z13 ≤ (7 : Int32)) (h24 : z13 < z8) : z0 + z1 ≤ z2 := by first | (clear h0 h4 h5 h6 h7 h8 h9 h10 h11 h12 h13 h22 h23 h24; lia) | lia
set_option maxHeartbeats 200000 in
theorem qw259 {z0 : Int32} {z1 : Int32} {z2 : Int32} {z3 : Int32} {z4 : Int32} {z5 : Int32} {z6 : Int32} {z7 : Int32} {z8 : Int32} {z9 : Int32} {z10 : Int32} {z11 : Int32} {z12 : Int32} {z13 : Int32} (h0 : 0 ≤ z1 ∧ z1 < 8) (h1 : 0 ≤ z0) (h2 : z2 ≤ 400) (h3 : z0 ≤ z2) (h4 : 0 ≤ z3) (h5 : (0 : Int32) ≤ z4 ∧ z4 ≤ (12 : Int32)) (h6 : ¬ z4 ≤ z3) (h7 : 0 ≤ z5) (h8 : ¬ (2 : Int32) ≤ z5) (h9 : z5 = 0) (h10 : (0 : Int32) ≤ z6 ∧ z6 ≤ (7 : Int32)) (h11 : (0 : Int32) ≤ z7 ∧ z7 ≤ (8 : Int32)) (h12 : z6 < z7) (h13 : z6 = z1) (h14 : 1 ≤ z8) (h15 : (0 : Int32) ≤ z9 ∧ z9 ≤ (9 : Int32)) (h16 : ¬ z9 < z8) (h17 : (1 : Int32) ≤ z10 ∧ z10 ≤ (60 : Int32)) (h18 : 0 ≤ z11 ∧ z11 ≤ ((z10 + z8) - (1 : Int32))) (h19 : (1 : Int32) ≤ z11) (h20 : z12 = z0 + z11) (h21 : ¬ z2 < z12) (h22 : z5 = 0) (h23 : (0 : Int32) ≤ z13 ∧ z13 ≤ (7 : Int32)) (h24 : z13 < z7) : 0 ≤ z0 ∧ z0 ≤ (400 : Int32) := by first | (clear h0 h4 h5 h6 h7 h8 h9 h10 h11 h12 h13 h22 h23 h24; lia) | lia
set_option maxHeartbeats 200000 in
theorem qw260 {z0 : Int32} {z1 : Int32} {z2 : Int32} {z3 : Int32} {z4 : Int32} {z5 : Int32} {z6 : Int32} {z7 : Int32} {z8 : Int32} {z9 : Int32} {z10 : Int32} {z11 : Int32} {z12 : Int32} {z13 : Int32} (h0 : 0 ≤ z0 ∧ z0 < 8) (h1 : 0 ≤ z1) (h2 : z2 ≤ 400) (h3 : z1 ≤ z2) (h4 : 0 ≤ z3) (h5 : (0 : Int32) ≤ z4 ∧ z4 ≤ (12 : Int32)) (h6 : ¬ z4 ≤ z3) (h7 : 0 ≤ z5) (h8 : ¬ (2 : Int32) ≤ z5) (h9 : z5 = 0) (h10 : (0 : Int32) ≤ z6 ∧ z6 ≤ (7 : Int32)) (h11 : (0 : Int32) ≤ z7 ∧ z7 ≤ (8 : Int32)) (h12 : z6 < z7) (h13 : z6 = z0) (h14 : 1 ≤ z8) (h15 : (0 : Int32) ≤ z9 ∧ z9 ≤ (9 : Int32)) (h16 : ¬ z9 < z8) (h17 : (1 : Int32) ≤ z10 ∧ z10 ≤ (60 : Int32)) (h18 : 0 ≤ z11 ∧ z11 ≤ ((z10 + z8) - (1 : Int32))) (h19 : (1 : Int32) ≤ z11) (h20 : z12 = z1 + z11) (h21 : ¬ z2 < z12) (h22 : z5 = 0) (h23 : (0 : Int32) ≤ z13 ∧ z13 ≤ (7 : Int32)) (h24 : z13 < z7) : 0 ≤ z0 ∧ z0 < (8 : Int32) := by first | (clear h1 h2 h3 h4 h5 h6 h7 h8 h9 h14 h15 h16 h17 h18 h19 h20 h21 h22; lia) | lia
set_option maxHeartbeats 200000 in
theorem qw261 {z0 : Int32} {z1 : Int32} {z2 : Int32} {z3 : Int32} {z4 : Int32} {z5 : Int32} {z6 : Int32} {z7 : Int32} {z8 : Int32} {z9 : Int32} {z10 : Int32} {z11 : Int32} {z12 : Int32} {z13 : Int32} (h0 : 0 ≤ z1 ∧ z1 < 8) (h1 : 0 ≤ z2) (h2 : z0 ≤ 400) (h3 : z2 ≤ z0) (h4 : 0 ≤ z3) (h5 : (0 : Int32) ≤ z4 ∧ z4 ≤ (12 : Int32)) (h6 : ¬ z4 ≤ z3) (h7 : 0 ≤ z5) (h8 : ¬ (2 : Int32) ≤ z5) (h9 : z5 = 0) (h10 : (0 : Int32) ≤ z6 ∧ z6 ≤ (7 : Int32)) (h11 : (0 : Int32) ≤ z7 ∧ z7 ≤ (8 : Int32)) (h12 : z6 < z7) (h13 : z6 = z1) (h14 : 1 ≤ z8) (h15 : (0 : Int32) ≤ z9 ∧ z9 ≤ (9 : Int32)) (h16 : ¬ z9 < z8) (h17 : (1 : Int32) ≤ z10 ∧ z10 ≤ (60 : Int32)) (h18 : 0 ≤ z11 ∧ z11 ≤ ((z10 + z8) - (1 : Int32))) (h19 : (1 : Int32) ≤ z11) (h20 : z12 = z2 + z11) (h21 : ¬ z0 < z12) (h22 : z5 = 0) (h23 : (0 : Int32) ≤ z13 ∧ z13 ≤ (7 : Int32)) (h24 : z13 < z7) : z0 ≤ (400 : Int32) := by first | (clear h0 h4 h5 h6 h7 h8 h9 h10 h11 h12 h13 h22 h23 h24; lia) | lia
set_option maxHeartbeats 200000 in
theorem qw262 {z0 : Int32} {z1 : Int32} {z2 : Int32} {z3 : Int32} {z4 : Int32} {z5 : Int32} {z6 : Int32} {z7 : Int32} {z8 : Int32} {z9 : Int32} {z10 : Int32} {z11 : Int32} {z12 : Int32} {z13 : Int32} (h0 : 0 ≤ z1 ∧ z1 < 8) (h1 : 0 ≤ z2) (h2 : z3 ≤ 400) (h3 : z2 ≤ z3) (h4 : 0 ≤ z4) (h5 : (0 : Int32) ≤ z5 ∧ z5 ≤ (12 : Int32)) (h6 : ¬ z5 ≤ z4) (h7 : 0 ≤ z6) (h8 : ¬ (2 : Int32) ≤ z6) (h9 : z6 = 0) (h10 : (0 : Int32) ≤ z7 ∧ z7 ≤ (7 : Int32)) (h11 : (0 : Int32) ≤ z8 ∧ z8 ≤ (8 : Int32)) (h12 : z7 < z8) (h13 : z7 = z1) (h14 : 1 ≤ z9) (h15 : (0 : Int32) ≤ z10 ∧ z10 ≤ (9 : Int32)) (h16 : ¬ z10 < z9) (h17 : (1 : Int32) ≤ z11 ∧ z11 ≤ (60 : Int32)) (h18 : 0 ≤ z12 ∧ z12 ≤ ((z11 + z9) - (1 : Int32))) (h19 : (1 : Int32) ≤ z12) (h20 : z0 = z2 + z12) (h21 : ¬ z3 < z0) (h22 : z6 = 0) (h23 : (0 : Int32) ≤ z13 ∧ z13 ≤ (7 : Int32)) (h24 : z13 < z8) : 0 ≤ z0 ∧ z0 ≤ (400 : Int32) := by first | (clear h0 h4 h5 h6 h7 h8 h9 h10 h11 h12 h13 h22 h23 h24; lia) | lia
set_option maxHeartbeats 200000 in
theorem qw263 {z0 : Int32} {z1 : Int32} {z2 : Int32} {z3 : Int32} {z4 : Int32} {z5 : Int32} {z6 : Int32} {z7 : Int32} {z8 : Int32} {z9 : Int32} {z10 : Int32} {z11 : Int32} {z12 : Int32} {z13 : Int32} (h0 : 0 ≤ z1 ∧ z1 < 8) (h1 : 0 ≤ z2) (h2 : z3 ≤ 400) (h3 : z2 ≤ z3) (h4 : 0 ≤ z4) (h5 : (0 : Int32) ≤ z5 ∧ z5 ≤ (12 : Int32)) (h6 : ¬ z5 ≤ z4) (h7 : 0 ≤ z6) (h8 : ¬ (2 : Int32) ≤ z6) (h9 : z6 = 0) (h10 : (0 : Int32) ≤ z7 ∧ z7 ≤ (7 : Int32)) (h11 : (0 : Int32) ≤ z8 ∧ z8 ≤ (8 : Int32)) (h12 : z7 < z8) (h13 : z7 = z1) (h14 : 1 ≤ z9) (h15 : (0 : Int32) ≤ z10 ∧ z10 ≤ (9 : Int32)) (h16 : ¬ z10 < z9) (h17 : (1 : Int32) ≤ z11 ∧ z11 ≤ (60 : Int32)) (h18 : 0 ≤ z12 ∧ z12 ≤ ((z11 + z9) - (1 : Int32))) (h19 : (1 : Int32) ≤ z12) (h20 : z13 = z2 + z12) (h21 : ¬ z3 < z13) (h22 : z6 = 0) (h23 : (0 : Int32) ≤ z0 ∧ z0 ≤ (7 : Int32)) (h24 : z0 < z8) : 0 ≤ z0 ∧ z0 < (8 : Int32) := by first | (clear h1 h2 h3 h4 h5 h6 h7 h8 h9 h14 h15 h16 h17 h18 h19 h20 h21 h22; lia) | lia
set_option maxHeartbeats 200000 in
theorem qw264 {z0 : Int32} {z1 : Int32} {z2 : Int32} {z3 : Int32} {z4 : Int32} {z5 : Int32} {z6 : Int32} {z7 : Int32} {z8 : Int32} {z9 : Int32} {z10 : Int32} {z11 : Int32} {z12 : Int32} {z13 : Int32} {z14 : Int32} (h0 : 0 ≤ z1 ∧ z1 < 8) (h1 : 0 ≤ z2) (h2 : z3 ≤ 400) (h3 : z2 ≤ z3) (h4 : 0 ≤ z4) (h5 : (0 : Int32) ≤ z5 ∧ z5 ≤ (12 : Int32)) (h6 : ¬ z5 ≤ z4) (h7 : 0 ≤ z6) (h8 : ¬ (2 : Int32) ≤ z6) (h9 : z6 = 0) (h10 : (0 : Int32) ≤ z7 ∧ z7 ≤ (7 : Int32)) (h11 : (0 : Int32) ≤ z8 ∧ z8 ≤ (8 : Int32)) (h12 : z7 < z8) (h13 : z7 = z1) (h14 : 1 ≤ z9) (h15 : (0 : Int32) ≤ z10 ∧ z10 ≤ (9 : Int32)) (h16 : ¬ z10 < z9) (h17 : (1 : Int32) ≤ z11 ∧ z11 ≤ (60 : Int32)) (h18 : 0 ≤ z12 ∧ z12 ≤ ((z11 + z9) - (1 : Int32))) (h19 : (1 : Int32) ≤ z12) (h20 : z13 = z2 + z12) (h21 : ¬ z3 < z13) (h22 : z6 = 0) (h23 : (0 : Int32) ≤ z14 ∧ z14 ≤ (7 : Int32)) (h24 : z14 < z8) (h25 : z0 = z9 + (1 : Int32)) : 1 ≤ z0 := by first | (clear h0 h4 h5 h6 h7 h8 h9 h10 h11 h12 h13 h22 h23 h24; lia) | lia
set_option maxHeartbeats 200000 in
theorem qw265 {z0 : Int32} {z1 : Int32} {z2 : Int32} {z3 : Int32} {z4 : Int32} {z5 : Int32} {z6 : Int32} {z7 : Int32} {z8 : Int32} {z9 : Int32} {z10 : Int32} {z11 : Int32} {z12 : Int32} {z13 : Int32} {z14 : Int32} (h0 : 0 ≤ z2 ∧ z2 < 8) (h1 : 0 ≤ z3) (h2 : z4 ≤ 400) (h3 : z3 ≤ z4) (h4 : 0 ≤ z5) (h5 : (0 : Int32) ≤ z6 ∧ z6 ≤ (12 : Int32)) (h6 : ¬ z6 ≤ z5) (h7 : 0 ≤ z7) (h8 : ¬ (2 : Int32) ≤ z7) (h9 : z7 = 0) (h10 : (0 : Int32) ≤ z8 ∧ z8 ≤ (7 : Int32)) (h11 : (0 : Int32) ≤ z9 ∧ z9 ≤ (8 : Int32)) (h12 : z8 < z9) (h13 : z8 = z2) (h14 : 1 ≤ z0) (h15 : (0 : Int32) ≤ z10 ∧ z10 ≤ (9 : Int32)) (h16 : ¬ z10 < z0) (h17 : (1 : Int32) ≤ z11 ∧ z11 ≤ (60 : Int32)) (h18 : 0 ≤ z12 ∧ z12 ≤ ((z11 + z0) - (1 : Int32))) (h19 : (1 : Int32) ≤ z12) (h20 : z13 = z3 + z12) (h21 : ¬ z4 < z13) (h22 : z7 = 0) (h23 : (0 : Int32) ≤ z14 ∧ z14 ≤ (7 : Int32)) (h24 : z14 < z9) (h25 : z1 = z0 + (1 : Int32)) : z0 < z1 := by first | (clear h0 h4 h5 h6 h7 h8 h9 h10 h11 h12 h13 h22 h23 h24; lia) | lia
set_option maxHeartbeats 200000 in
theorem qw266 {z0 : Int32} {z1 : Int32} {z2 : Int32} {z3 : Int32} {z4 : Int32} {z5 : Int32} {z6 : Int32} {z7 : Int32} {z8 : Int32} {z9 : Int32} {z10 : Int32} {z11 : Int32} {z12 : Int32} {z13 : Int32} {z14 : Int32} (h0 : 0 ≤ z1 ∧ z1 < 8) (h1 : 0 ≤ z2) (h2 : z3 ≤ 400) (h3 : z2 ≤ z3) (h4 : 0 ≤ z4) (h5 : (0 : Int32) ≤ z5 ∧ z5 ≤ (12 : Int32)) (h6 : ¬ z5 ≤ z4) (h7 : 0 ≤ z6) (h8 : ¬ (2 : Int32) ≤ z6) (h9 : z6 = 0) (h10 : (0 : Int32) ≤ z7 ∧ z7 ≤ (7 : Int32)) (h11 : (0 : Int32) ≤ z8 ∧ z8 ≤ (8 : Int32)) (h12 : z7 < z8) (h13 : z7 = z1) (h14 : 1 ≤ z0) (h15 : (0 : Int32) ≤ z9 ∧ z9 ≤ (9 : Int32)) (h16 : ¬ z9 < z0) (h17 : (1 : Int32) ≤ z10 ∧ z10 ≤ (60 : Int32)) (h18 : 0 ≤ z11 ∧ z11 ≤ ((z10 + z0) - (1 : Int32))) (h19 : (1 : Int32) ≤ z11) (h20 : z12 = z2 + z11) (h21 : ¬ z3 < z12) (h22 : z6 = 0) (h23 : (0 : Int32) ≤ z13 ∧ z13 ≤ (7 : Int32)) (h24 : z13 < z8) (h25 : z14 = z0 + (1 : Int32)) : z0 < (2147483647 : Int32) := by first | (clear h0 h4 h5 h6 h7 h8 h9 h10 h11 h12 h13 h22 h23 h24; lia) | lia
set_option maxHeartbeats 200000 in
theorem qw267 {z0 : Int32} {z1 : Int32} {z2 : Int32} {z3 : Int32} {z4 : Int32} {z5 : Int32} {z6 : Int32} (h0 : 0 ≤ z1 ∧ z1 < 8) (h1 : 0 ≤ z2) (h2 : (0 : Int32) ≤ z3 ∧ z3 ≤ (12 : Int32)) (h3 : ¬ z3 ≤ z2) (h4 : 0 ≤ z4) (h5 : ¬ (2 : Int32) ≤ z4) (h6 : z4 = 0) (h7 : (0 : Int32) ≤ z5 ∧ z5 ≤ (7 : Int32)) (h8 : (0 : Int32) ≤ z6 ∧ z6 ≤ (8 : Int32)) (h9 : z5 < z6) (h10 : ¬ z5 = z1) (h11 : z0 = z4 + (1 : Int32)) : 0 ≤ z0 := by first | (clear h0 h1 h2 h3 h7 h8 h9 h10; lia) | lia
set_option maxHeartbeats 200000 in
theorem qw268 {z0 : Int32} {z1 : Int32} {z2 : Int32} {z3 : Int32} {z4 : Int32} {z5 : Int32} {z6 : Int32} (h0 : 0 ≤ z2 ∧ z2 < 8) (h1 : 0 ≤ z3) (h2 : (0 : Int32) ≤ z4 ∧ z4 ≤ (12 : Int32)) (h3 : ¬ z4 ≤ z3) (h4 : 0 ≤ z0) (h5 : ¬ (2 : Int32) ≤ z0) (h6 : z0 = 0) (h7 : (0 : Int32) ≤ z5 ∧ z5 ≤ (7 : Int32)) (h8 : (0 : Int32) ≤ z6 ∧ z6 ≤ (8 : Int32)) (h9 : z5 < z6) (h10 : ¬ z5 = z2) (h11 : z1 = z0 + (1 : Int32)) : z0 < z1 := by first | (clear h0 h1 h2 h3 h7 h8 h9 h10; lia) | lia
set_option maxHeartbeats 200000 in
theorem qw269 {z0 : Int32} {z1 : Int32} {z2 : Int32} {z3 : Int32} {z4 : Int32} {z5 : Int32} {z6 : Int32} (h0 : 0 ≤ z1 ∧ z1 < 8) (h1 : 0 ≤ z2) (h2 : (0 : Int32) ≤ z3 ∧ z3 ≤ (12 : Int32)) (h3 : ¬ z3 ≤ z2) (h4 : 0 ≤ z0) (h5 : ¬ (2 : Int32) ≤ z0) (h6 : z0 = 0) (h7 : (0 : Int32) ≤ z4 ∧ z4 ≤ (7 : Int32)) (h8 : (0 : Int32) ≤ z5 ∧ z5 ≤ (8 : Int32)) (h9 : z4 < z5) (h10 : ¬ z4 = z1) (h11 : z6 = z0 + (1 : Int32)) : z0 < (2147483647 : Int32) := by first | (clear h0 h1 h2 h3 h7 h8 h9 h10; lia) | lia
set_option maxHeartbeats 200000 in
theorem qw270 {z0 : Int32} (h0 : 0 ≤ z0 ∧ z0 < 3208) : 0 ≤ z0 ∧ z0 < (3208 : Int32) := by lia
set_option maxHeartbeats 200000 in
theorem qw271 {z0 : Int32} {z1 : Int64} (h0 : 0 ≤ z0 ∧ z0 < 3208) (h1 : ¬ (lg_cmp z1 (-1 : Int64)) = 0) : 0 ≤ z0 ∧ z0 < (3208 : Int32) := by first | (clear h1; lia) | lia
set_option maxHeartbeats 200000 in
theorem qw272 {z0 : Int32} {z1 : Int64} {z2 : Int64} (h0 : 0 ≤ z0 ∧ z0 < 3208) (h1 : ¬ (lg_cmp z1 (-1 : Int64)) = 0) (h2 : (lg_cmp z2 (-1 : Int64)) = 0) : 0 ≤ z0 ∧ z0 < (3208 : Int32) := by first | (clear h1 h2; lia) | lia
set_option maxHeartbeats 200000 in
theorem qw273 {z0 : Int32} {z1 : Int64} {z2 : Int64} (h0 : 0 ≤ z0 ∧ z0 < 3208) (h1 : ¬ (lg_cmp z1 (-1 : Int64)) = 0) (h2 : ¬ (lg_cmp z2 (-1 : Int64)) = 0) : 0 ≤ z0 ∧ z0 < (3208 : Int32) := by first | (clear h1 h2; lia) | lia
set_option maxHeartbeats 200000 in
theorem qw274 {z0 : Int32} {z1 : Int64} {z2 : Int64} {z3 : Int64} {z4 : Int64} {z5 : Int64} {z6 : Int64} (h0 : 0 ≤ z0 ∧ z0 < 3208) (h1 : ¬ (lg_cmp z1 (-1 : Int64)) = 0) (h2 : z2 = z3 + z4) (h3 : ¬ (lg_cmp z5 (-1 : Int64)) = 0) (h4 : ¬ 0 < (lg_cmp z2 z6)) : 0 ≤ z0 ∧ z0 < (3208 : Int32) := by first | (clear h1 h2 h3 h4; lia) | lia
set_option maxHeartbeats 200000 in
theorem qw275 {z0 : Int32} {z1 : Int64} {z2 : Int64} {z3 : Int64} {z4 : Int64} {z5 : Int64} {z6 : Int64} {z7 : Int64} (h0 : 0 ≤ z0 ∧ z0 < 3208) (h1 : ¬ (lg_cmp z1 (-1 : Int64)) = 0) (h2 : z2 = z3 + z4) (h3 : ¬ (lg_cmp z5 (-1 : Int64)) = 0) (h4 : ¬ 0 < (lg_cmp z2 z6)) (h5 : ¬ (lg_cmp z2 z7) = 0) : 0 ≤ z0 ∧ z0 < (3208 : Int32) := by first | (clear h1 h2 h3 h4 h5; lia) | lia
set_option maxHeartbeats 200000 in
theorem qw276 {z0 : Int32} {z1 : Int64} {z2 : Int64} {z3 : Int64} {z4 : Int64} {z5 : Int64} {z6 : Int64} {z7 : Int64} (h0 : 0 ≤ z0 ∧ z0 < 3208) (h1 : ¬ (lg_cmp z1 (-1 : Int64)) = 0) (h2 : z2 = z3 + z4) (h3 : ¬ (lg_cmp z5 (-1 : Int64)) = 0) (h4 : ¬ 0 < (lg_cmp z2 z6)) (h5 : (lg_cmp z2 z7) = 0) : 0 ≤ z0 ∧ z0 < (3208 : Int32) := by first | (clear h1 h2 h3 h4 h5; lia) | lia
set_option maxHeartbeats 200000 in
theorem qw277 {z0 : Int32} {z1 : Int64} {z2 : Int64} {z3 : Int64} {z4 : Int64} {z5 : Int64} {z6 : Int64} {z7 : Int64} {z8 : Int32} {z9 : Int32} (h0 : 0 ≤ z0 ∧ z0 < 3208) (h1 : ¬ (lg_cmp z1 (-1 : Int64)) = 0) (h2 : z2 = z3 + z4) (h3 : ¬ (lg_cmp z5 (-1 : Int64)) = 0) (h4 : ¬ 0 < (lg_cmp z2 z6)) (h5 : (lg_cmp z2 z7) = 0) (h6 : z8 < z9) : 0 ≤ z0 ∧ z0 < (3208 : Int32) := by first | (clear h1 h2 h3 h4 h5 h6; lia) | lia
set_option maxHeartbeats 200000 in
theorem qw278 {z0 : Int32} {z1 : Int32} {z2 : Int32} {z3 : Int32} (h0 : z0 = 0 ∨ z0 = 1 ∨ z0 = 2 ∨ z0 = 6) (h1 : z0 = 0 → 0 ≤ z1 ∧ z1 < 8 ∧ 0 ≤ z2 ∧ z2 ≤ 400) (h2 : z0 ≤ 0) (h3 : 0 ≤ z3) : z0 = 0 := by first | (clear h3; lia) | lia
set_option maxHeartbeats 200000 in
theorem qw279 {z0 : Int32} {z1 : Int32} (h0 : (0 : Int32) ≤ z1 ∧ z1 ≤ (8 : Int32)) (h1 : 0 ≤ z0) (h2 : z0 < z1) : 0 ≤ z0 ∧ z0 < z1 := by lia
set_option maxHeartbeats 200000 in
theorem qw280 {z0 : Int32} {z1 : Int32} (h0 : 0 ≤ z0) (h1 : z0 ≤ z1) (h2 : z1 ≤ 400) : 0 ≤ z0 ∧ z0 ≤ z1 := by lia
set_option maxHeartbeats 200000 in
theorem qw281 {z0 : Int32} {z1 : Int32} {z2 : Int32} (h0 : 0 ≤ z1) (h1 : z1 ≤ z2) (h2 : z2 ≤ 400) (h3 : 0 ≤ z0 ∧ z0 ≤ z2) : 0 ≤ z0 ∧ z0 ≤ (400 : Int32) := by lia
set_option maxHeartbeats 200000 in
theorem qw282 {z0 : Int32} {z1 : Int32} {z2 : Int32} (h0 : (0 : Int32) ≤ z1 ∧ z1 ≤ (8 : Int32)) (h1 : 0 ≤ z2) (h2 : z2 < z1) (h3 : 0 ≤ z0 ∧ z0 < z1) : 0 ≤ z0 ∧ z0 < (8 : Int32) := by lia
set_option maxHeartbeats 200000 in
theorem qw283 {z0 : Int32} {z1 : Int32} {z2 : Int32} {z3 : Int32} (h0 : 0 ≤ z1) (h1 : z1 ≤ z2) (h2 : z2 ≤ 400) (h3 : 0 ≤ z0 ∧ z0 ≤ z2) (h4 : ¬ z3 = (-1 : Int32)) : 0 ≤ z0 ∧ z0 ≤ (400 : Int32) := by first | (clear h4; lia) | lia
set_option maxHeartbeats 200000 in
theorem qw284 {z0 : Int32} {z1 : Int32} {z2 : Int32} {z3 : Int32} (h0 : (0 : Int32) ≤ z1 ∧ z1 ≤ (8 : Int32)) (h1 : 0 ≤ z2) (h2 : z2 < z1) (h3 : 0 ≤ z0 ∧ z0 < z1) (h4 : ¬ z3 = (-1 : Int32)) : 0 ≤ z0 ∧ z0 < (8 : Int32) := by first | (clear h4; lia) | lia
set_option maxHeartbeats 200000 in
theorem qw285 {z0 : Int32} {z1 : Int32} {z2 : Int32} {z3 : Int32} {z4 : Int32} (h0 : (0 : Int32) ≤ z1 ∧ z1 ≤ (8 : Int32)) (h1 : 0 ≤ z2) (h2 : z2 < z1) (h3 : 0 ≤ z0 ∧ z0 < z1) (h4 : ¬ z3 = (-1 : Int32)) (h5 : z4 = z3) : 0 ≤ z0 ∧ z0 < (8 : Int32) := by first | (clear h4 h5; lia) | lia
set_option maxHeartbeats 200000 in
theorem qw286 {z0 : Int32} {z1 : Int32} {z2 : Int32} {z3 : Int32} {z4 : Int32} (h0 : (0 : Int32) ≤ z1 ∧ z1 ≤ (8 : Int32)) (h1 : 0 ≤ z2) (h2 : z2 < z1) (h3 : 0 ≤ z0 ∧ z0 < z1) (h4 : ¬ z3 = (-1 : Int32)) (h5 : z4 = z3) : z0 < z1 := by first | (clear h4 h5; lia) | lia
set_option maxHeartbeats 200000 in
theorem qw287 {z0 : Int32} {z1 : Int32} {z2 : Int32} {z3 : Int32} {z4 : Int32} (h0 : 0 ≤ z2) (h1 : z2 ≤ z1) (h2 : z1 ≤ 400) (h3 : 0 ≤ z0 ∧ z0 ≤ z1) (h4 : ¬ z3 = (-1 : Int32)) (h5 : z4 = z3) : 0 ≤ z0 ∧ z0 ≤ z1 := by first | (clear h4 h5; lia) | lia
set_option maxHeartbeats 200000 in
theorem qw288 {z0 : Int32} {z1 : Int32} {z2 : Int32} {z3 : Int32} {z4 : Int32} (h0 : 0 ≤ z1) (h1 : z1 ≤ z2) (h2 : z2 ≤ 400) (h3 : 0 ≤ z0 ∧ z0 ≤ z2) (h4 : ¬ z3 = (-1 : Int32)) (h5 : z4 = z3) : (-1 : Int32) < z0 := by first | (clear h4 h5; lia) | lia
set_option maxHeartbeats 200000 in
theorem qw289 {z0 : Int32} {z1 : Int32} {z2 : Int32} (h0 : (0 : Int32) ≤ z0 ∧ z0 ≤ (12 : Int32)) (h1 : ¬ z1 = (-1 : Int32)) (h2 : z2 = z1) : z0 ≤ (12 : Int32) := by first | (clear h1 h2; lia) | lia
set_option maxHeartbeats 200000 in
theorem qw290 {z0 : Int32} {z1 : Int32} {z2 : Int32} {z3 : Int32} {z4 : Int32} {z5 : Int32} {z6 : Int32} {z7 : Int32} {z8 : Int32} {z9 : Int32} {z10 : Int32} {z11 : Int32} {z12 : Int32} (h0 : (0 : Int32) ≤ z1 ∧ z1 ≤ (12 : Int32)) (h1 : 0 ≤ z2) (h2 : z2 ≤ z3) (h3 : z3 ≤ 400) (h4 : 0 ≤ z4 ∧ z4 ≤ z3) (h5 : ¬ z5 = (-1 : Int32)) (h6 : z0 = z5) (h7 : z0 = -1 ∨ (z0 = -2 ∧ z4 < z3) ∨ (0 ≤ z6 ∧ z6 < z1 ∧ 0 ≤ z7 ∧ z7 ≤ 1 ∧ 1 ≤ z8 ∧ z8 ≤ 9 ∧ z4 + z9 ≤ z3 ∧ 1 ≤ z0)) (h8 : ¬ z10 = z11) (h9 : z12 = z10 + (1 : Int32)) (h10 : ¬ z0 = (-2 : Int32)) : ¬ z0 = -1 := by first | (clear h8 h9; lia) | lia
set_option maxHeartbeats 200000 in
theorem qw291 {z0 : Int32} {z1 : Int32} {z2 : Int32} {z3 : Int32} {z4 : Int32} {z5 : Int32} {z6 : Int32} {z7 : Int32} {z8 : Int32} {z9 : Int32} {z10 : Int32} {z11 : Int32} {z12 : Int32} (h0 : (0 : Int32) ≤ z1 ∧ z1 ≤ (12 : Int32)) (h1 : 0 ≤ z2) (h2 : z2 ≤ z3) (h3 : z3 ≤ 400) (h4 : 0 ≤ z4 ∧ z4 ≤ z3) (h5 : ¬ z5 = (-1 : Int32)) (h6 : z0 = z5) (h7 : z0 = -1 ∨ (z0 = -2 ∧ z4 < z3) ∨ (0 ≤ z6 ∧ z6 < z1 ∧ 0 ≤ z7 ∧ z7 ≤ 1 ∧ 1 ≤ z8 ∧ z8 ≤ 9 ∧ z4 + z9 ≤ z3 ∧ 1 ≤ z0)) (h8 : ¬ z10 = z11) (h9 : z12 = z10 + (1 : Int32)) (h10 : ¬ z0 = (-2 : Int32)) : ¬ z0 = -2 := by first | (clear h8 h9; lia) | lia
set_option maxHeartbeats 200000 in
theorem qw292 {z0 : Int32} {z1 : Int32} {z2 : Int32} {z3 : Int32} {z4 : Int32} {z5 : Int32} {z6 : Int32} {z7 : Int32} {z8 : Int32} {z9 : Int32} {z10 : Int32} {z11 : Int32} {z12 : Int32} (h0 : (0 : Int32) ≤ z1 ∧ z1 ≤ (12 : Int32)) (h1 : 0 ≤ z2) (h2 : z2 ≤ z3) (h3 : z3 ≤ 400) (h4 : 0 ≤ z4 ∧ z4 ≤ z3) (h5 : ¬ z5 = (-1 : Int32)) (h6 : z6 = z5) (h7 : z6 = -1 ∨ (z6 = -2 ∧ z4 < z3) ∨ (0 ≤ z0 ∧ z0 < z1 ∧ 0 ≤ z7 ∧ z7 ≤ 1 ∧ 1 ≤ z8 ∧ z8 ≤ 9 ∧ z4 + z9 ≤ z3 ∧ 1 ≤ z6)) (h8 : ¬ z10 = z11) (h9 : z12 = z10 + (1 : Int32)) (h10 : ¬ z6 = (-2 : Int32)) : 0 ≤ z0 ∧ z0 ≤ (11 : Int32) := by first | (clear h8 h9; lia) | lia
set_option maxHeartbeats 200000 in
theorem qw293 {z0 : Int32} {z1 : Int32} {z2 : Int32} {z3 : Int32} {z4 : Int32} {z5 : Int32} {z6 : Int32} {z7 : Int32} {z8 : Int32} {z9 : Int32} {z10 : Int32} {z11 : Int32} {z12 : Int32} (h0 : (0 : Int32) ≤ z1 ∧ z1 ≤ (12 : Int32)) (h1 : 0 ≤ z2) (h2 : z2 ≤ z3) (h3 : z3 ≤ 400) (h4 : 0 ≤ z4 ∧ z4 ≤ z3) (h5 : ¬ z5 = (-1 : Int32)) (h6 : z6 = z5) (h7 : z6 = -1 ∨ (z6 = -2 ∧ z4 < z3) ∨ (0 ≤ z7 ∧ z7 < z1 ∧ 0 ≤ z0 ∧ z0 ≤ 1 ∧ 1 ≤ z8 ∧ z8 ≤ 9 ∧ z4 + z9 ≤ z3 ∧ 1 ≤ z6)) (h8 : ¬ z10 = z11) (h9 : z12 = z10 + (1 : Int32)) (h10 : ¬ z6 = (-2 : Int32)) : 0 ≤ z0 ∧ z0 ≤ (1 : Int32) := by first | (clear h8 h9; lia) | lia
set_option maxHeartbeats 200000 in
theorem qw294 {z0 : Int32} {z1 : Int32} {z2 : Int32} {z3 : Int32} {z4 : Int32} {z5 : Int32} {z6 : Int32} {z7 : Int32} {z8 : Int32} {z9 : Int32} {z10 : Int32} {z11 : Int32} {z12 : Int32} (h0 : (0 : Int32) ≤ z1 ∧ z1 ≤ (12 : Int32)) (h1 : 0 ≤ z2) (h2 : z2 ≤ z3) (h3 : z3 ≤ 400) (h4 : 0 ≤ z4 ∧ z4 ≤ z3) (h5 : ¬ z5 = (-1 : Int32)) (h6 : z6 = z5) (h7 : z6 = -1 ∨ (z6 = -2 ∧ z4 < z3) ∨ (0 ≤ z7 ∧ z7 < z1 ∧ 0 ≤ z8 ∧ z8 ≤ 1 ∧ 1 ≤ z0 ∧ z0 ≤ 9 ∧ z4 + z9 ≤ z3 ∧ 1 ≤ z6)) (h8 : ¬ z10 = z11) (h9 : z12 = z10 + (1 : Int32)) (h10 : ¬ z6 = (-2 : Int32)) : (1 : Int32) ≤ z0 ∧ z0 ≤ (9 : Int32) := by first | (clear h8 h9; lia) | lia
set_option maxHeartbeats 200000 in
theorem qw295 {z0 : Int32} {z1 : Int32} {z2 : Int32} {z3 : Int32} {z4 : Int32} {z5 : Int32} {z6 : Int32} {z7 : Int32} {z8 : Int32} {z9 : Int32} {z10 : Int32} {z11 : Int32} {z12 : Int32} {z13 : Int32} (h0 : (0 : Int32) ≤ z1 ∧ z1 ≤ (12 : Int32)) (h1 : 0 ≤ z2) (h2 : z2 ≤ z3) (h3 : z3 ≤ 400) (h4 : 0 ≤ z4 ∧ z4 ≤ z3) (h5 : ¬ z5 = (-1 : Int32)) (h6 : z0 = z5) (h7 : z0 = -1 ∨ (z0 = -2 ∧ z4 < z3) ∨ (0 ≤ z6 ∧ z6 < z1 ∧ 0 ≤ z7 ∧ z7 ≤ 1 ∧ 1 ≤ z8 ∧ z8 ≤ 9 ∧ z4 + z9 ≤ z3 ∧ 1 ≤ z0)) (h8 : ¬ z10 = z11) (h9 : z12 = z10 + (1 : Int32)) (h10 : ¬ z0 = (-2 : Int32)) (h11 : z13 = z6) : ¬ z0 = -1 := by first | (clear h8 h9; lia) | lia
set_option maxHeartbeats 200000 in
theorem qw296 {z0 : Int32} {z1 : Int32} {z2 : Int32} {z3 : Int32} {z4 : Int32} {z5 : Int32} {z6 : Int32} {z7 : Int32} {z8 : Int32} {z9 : Int32} {z10 : Int32} {z11 : Int32} {z12 : Int32} {z13 : Int32} (h0 : (0 : Int32) ≤ z1 ∧ z1 ≤ (12 : Int32)) (h1 : 0 ≤ z2) (h2 : z2 ≤ z3) (h3 : z3 ≤ 400) (h4 : 0 ≤ z4 ∧ z4 ≤ z3) (h5 : ¬ z5 = (-1 : Int32)) (h6 : z0 = z5) (h7 : z0 = -1 ∨ (z0 = -2 ∧ z4 < z3) ∨ (0 ≤ z6 ∧ z6 < z1 ∧ 0 ≤ z7 ∧ z7 ≤ 1 ∧ 1 ≤ z8 ∧ z8 ≤ 9 ∧ z4 + z9 ≤ z3 ∧ 1 ≤ z0)) (h8 : ¬ z10 = z11) (h9 : z12 = z10 + (1 : Int32)) (h10 : ¬ z0 = (-2 : Int32)) (h11 : z13 = z6) : ¬ z0 = -2 := by first | (clear h8 h9; lia) | lia
set_option maxHeartbeats 200000 in
theorem qw297 {z0 : Int32} {z1 : Int32} {z2 : Int32} {z3 : Int32} {z4 : Int32} {z5 : Int32} {z6 : Int32} {z7 : Int32} {z8 : Int32} {z9 : Int32} {z10 : Int32} {z11 : Int32} {z12 : Int32} {z13 : Int32} (h0 : (0 : Int32) ≤ z1 ∧ z1 ≤ (12 : Int32)) (h1 : 0 ≤ z2) (h2 : z2 ≤ z3) (h3 : z3 ≤ 400) (h4 : 0 ≤ z4 ∧ z4 ≤ z3) (h5 : ¬ z5 = (-1 : Int32)) (h6 : z6 = z5) (h7 : z6 = -1 ∨ (z6 = -2 ∧ z4 < z3) ∨ (0 ≤ z0 ∧ z0 < z1 ∧ 0 ≤ z7 ∧ z7 ≤ 1 ∧ 1 ≤ z8 ∧ z8 ≤ 9 ∧ z4 + z9 ≤ z3 ∧ 1 ≤ z6)) (h8 : ¬ z10 = z11) (h9 : z12 = z10 + (1 : Int32)) (h10 : ¬ z6 = (-2 : Int32)) (h11 : z13 = z0) : 0 ≤ z0 ∧ z0 ≤ (11 : Int32) := by first | (clear h8 h9; lia) | lia
set_option maxHeartbeats 200000 in
theorem qw298 {z0 : Int32} {z1 : Int32} {z2 : Int32} {z3 : Int32} {z4 : Int32} {z5 : Int32} {z6 : Int32} {z7 : Int32} {z8 : Int32} {z9 : Int32} {z10 : Int32} {z11 : Int32} {z12 : Int32} {z13 : Int32} (h0 : (0 : Int32) ≤ z1 ∧ z1 ≤ (12 : Int32)) (h1 : 0 ≤ z2) (h2 : z2 ≤ z3) (h3 : z3 ≤ 400) (h4 : 0 ≤ z4 ∧ z4 ≤ z3) (h5 : ¬ z5 = (-1 : Int32)) (h6 : z6 = z5) (h7 : z6 = -1 ∨ (z6 = -2 ∧ z4 < z3) ∨ (0 ≤ z7 ∧ z7 < z1 ∧ 0 ≤ z0 ∧ z0 ≤ 1 ∧ 1 ≤ z8 ∧ z8 ≤ 9 ∧ z4 + z9 ≤ z3 ∧ 1 ≤ z6)) (h8 : ¬ z10 = z11) (h9 : z12 = z10 + (1 : Int32)) (h10 : ¬ z6 = (-2 : Int32)) (h11 : z13 = z7) : 0 ≤ z0 ∧ z0 ≤ (1 : Int32) := by first | (clear h8 h9; lia) | lia
set_option maxHeartbeats 200000 in
theorem qw299 {z0 : Int32} {z1 : Int32} {z2 : Int32} {z3 : Int32} {z4 : Int32} {z5 : Int32} {z6 : Int32} {z7 : Int32} {z8 : Int32} {z9 : Int32} {z10 : Int32} {z11 : Int32} {z12 : Int32} {z13 : Int32} (h0 : (0 : Int32) ≤ z1 ∧ z1 ≤ (12 : Int32)) (h1 : 0 ≤ z2) (h2 : z2 ≤ z3) (h3 : z3 ≤ 400) (h4 : 0 ≤ z4 ∧ z4 ≤ z3) (h5 : ¬ z5 = (-1 : Int32)) (h6 : z6 = z5) (h7 : z6 = -1 ∨ (z6 = -2 ∧ z4 < z3) ∨ (0 ≤ z7 ∧ z7 < z1 ∧ 0 ≤ z8 ∧ z8 ≤ 1 ∧ 1 ≤ z0 ∧ z0 ≤ 9 ∧ z4 + z9 ≤ z3 ∧ 1 ≤ z6)) (h8 : ¬ z10 = z11) (h9 : z12 = z10 + (1 : Int32)) (h10 : ¬ z6 = (-2 : Int32)) (h11 : z13 = z7) : (1 : Int32) ≤ z0 ∧ z0 ≤ (9 : Int32) := by first | (clear h8 h9; lia) | lia
set_option maxHeartbeats 200000 in
theorem qw300 {z0 : Int32} {z1 : Int32} {z2 : Int32} {z3 : Int32} {z4 : Int32} {z5 : Int32} {z6 : Int32} {z7 : Int32} {z8 : Int32} {z9 : Int32} {z10 : Int32} {z11 : Int32} {z12 : Int32} {z13 : Int32} {z14 : Int32} (h0 : (0 : Int32) ≤ z1 ∧ z1 ≤ (12 : Int32)) (h1 : 0 ≤ z2) (h2 : z2 ≤ z3) (h3 : z3 ≤ 400) (h4 : 0 ≤ z4 ∧ z4 ≤ z3) (h5 : ¬ z5 = (-1 : Int32)) (h6 : z6 = z5) (h7 : z6 = -1 ∨ (z6 = -2 ∧ z4 < z3) ∨ (0 ≤ z7 ∧ z7 < z1 ∧ 0 ≤ z8 ∧ z8 ≤ 1 ∧ 1 ≤ z9 ∧ z9 ≤ 9 ∧ z4 + z10 ≤ z3 ∧ 1 ≤ z6)) (h8 : ¬ z11 = z12) (h9 : z13 = z11 + (1 : Int32)) (h10 : ¬ z6 = (-2 : Int32)) (h11 : z0 = z7) (h12 : z14 = z9) : 0 ≤ z0 ∧ z0 < (12 : Int32) := by first | (clear h8 h9; lia) | lia
set_option maxHeartbeats 200000 in
theorem qw301 {z0 : Int32} {z1 : Int32} {z2 : Int32} {z3 : Int32} {z4 : Int32} {z5 : Int32} {z6 : Int32} {z7 : Int32} {z8 : Int32} {z9 : Int32} {z10 : Int32} {z11 : Int32} {z12 : Int32} {z13 : Int32} {z14 : Int32} (h0 : (0 : Int32) ≤ z1 ∧ z1 ≤ (12 : Int32)) (h1 : 0 ≤ z2) (h2 : z2 ≤ z3) (h3 : z3 ≤ 400) (h4 : 0 ≤ z4 ∧ z4 ≤ z3) (h5 : ¬ z5 = (-1 : Int32)) (h6 : z6 = z5) (h7 : z6 = -1 ∨ (z6 = -2 ∧ z4 < z3) ∨ (0 ≤ z7 ∧ z7 < z1 ∧ 0 ≤ z8 ∧ z8 ≤ 1 ∧ 1 ≤ z9 ∧ z9 ≤ 9 ∧ z4 + z10 ≤ z3 ∧ 1 ≤ z6)) (h8 : ¬ z11 = z12) (h9 : z13 = z11 + (1 : Int32)) (h10 : ¬ z6 = (-2 : Int32)) (h11 : z0 = z7) (h12 : z14 = z9) : 0 ≤ z0 ∧ z0 < z1 := by first | (clear h8 h9; lia) | lia
set_option maxHeartbeats 200000 in
theorem qw302 {z0 : Int32} {z1 : Int32} {z2 : Int32} {z3 : Int32} {z4 : Int32} {z5 : Int32} {z6 : Int32} {z7 : Int32} {z8 : Int32} {z9 : Int32} {z10 : Int32} {z11 : Int32} {z12 : Int32} {z13 : Int32} {z14 : Int32} (h0 : (0 : Int32) ≤ z1 ∧ z1 ≤ (12 : Int32)) (h1 : 0 ≤ z2) (h2 : z2 ≤ z3) (h3 : z3 ≤ 400) (h4 : 0 ≤ z4 ∧ z4 ≤ z3) (h5 : ¬ z5 = (-1 : Int32)) (h6 : z6 = z5) (h7 : z6 = -1 ∨ (z6 = -2 ∧ z4 < z3) ∨ (0 ≤ z7 ∧ z7 < z1 ∧ 0 ≤ z8 ∧ z8 ≤ 1 ∧ 1 ≤ z9 ∧ z9 ≤ 9 ∧ z4 + z10 ≤ z3 ∧ 1 ≤ z6)) (h8 : ¬ z11 = z12) (h9 : z13 = z11 + (1 : Int32)) (h10 : ¬ z6 = (-2 : Int32)) (h11 : z14 = z7) (h12 : z0 = z9) : ¬ z0 = 0 := by first | (clear h8 h9; lia) | lia
set_option maxHeartbeats 200000 in
theorem qw303 {z0 : Int32} {z1 : Int32} {z2 : Int32} {z3 : Int32} {z4 : Int32} {z5 : Int32} {z6 : Int32} {z7 : Int32} {z8 : Int32} {z9 : Int32} {z10 : Int32} {z11 : Int32} {z12 : Int32} {z13 : Int32} {z14 : Int32} {z15 : Int32} (h0 : (0 : Int32) ≤ z2 ∧ z2 ≤ (12 : Int32)) (h1 : 0 ≤ z3) (h2 : z3 ≤ z4) (h3 : z4 ≤ 400) (h4 : 0 ≤ z5 ∧ z5 ≤ z4) (h5 : ¬ z6 = (-1 : Int32)) (h6 : z7 = z6) (h7 : z7 = -1 ∨ (z7 = -2 ∧ z5 < z4) ∨ (0 ≤ z8 ∧ z8 < z2 ∧ 0 ≤ z9 ∧ z9 ≤ 1 ∧ 1 ≤ z10 ∧ z10 ≤ 9 ∧ z5 + z11 ≤ z4 ∧ 1 ≤ z7)) (h8 : ¬ z12 = z13) (h9 : z14 = z12 + (1 : Int32)) (h10 : ¬ z7 = (-2 : Int32)) (h11 : z15 = z8) (h12 : z1 = z10) (h13 : (1 : Int32) ≤ z0 ∧ z0 ≤ (60 : Int32)) : 0 ≤ ((z0 + z1) - (1 : Int32)) := by first | (clear h8 h9; lia) | lia
set_option maxHeartbeats 200000 in
theorem qw304 {z0 : Int32} {z1 : Int32} {z2 : Int32} {z3 : Int32} {z4 : Int32} {z5 : Int32} {z6 : Int32} {z7 : Int32} {z8 : Int32} {z9 : Int32} {z10 : Int32} {z11 : Int32} {z12 : Int32} {z13 : Int32} {z14 : Int32} (h0 : (0 : Int32) ≤ z1 ∧ z1 ≤ (12 : Int32)) (h1 : 0 ≤ z2) (h2 : z2 ≤ z3) (h3 : z3 ≤ 400) (h4 : 0 ≤ z4 ∧ z4 ≤ z3) (h5 : ¬ z5 = (-1 : Int32)) (h6 : z6 = z5) (h7 : z6 = -1 ∨ (z6 = -2 ∧ z4 < z3) ∨ (0 ≤ z7 ∧ z7 < z1 ∧ 0 ≤ z8 ∧ z8 ≤ 1 ∧ 1 ≤ z9 ∧ z9 ≤ 9 ∧ z4 + z10 ≤ z3 ∧ 1 ≤ z6)) (h8 : ¬ z11 = z12) (h9 : z13 = z11 + (1 : Int32)) (h10 : ¬ z6 = (-2 : Int32)) (h11 : z14 = z7) (h12 : z0 = z9) : (1 : Int32) ≤ z0 := by first | (clear h8 h9; lia) | lia
set_option maxHeartbeats 200000 in
theorem qw305 {z0 : Int32} {z1 : Int32} {z2 : Int32} {z3 : Int32} {z4 : Int32} {z5 : Int32} {z6 : Int32} {z7 : Int32} {z8 : Int32} {z9 : Int32} {z10 : Int32} {z11 : Int32} {z12 : Int32} {z13 : Int32} {z14 : Int32} (h0 : (0 : Int32) ≤ z1 ∧ z1 ≤ (12 : Int32)) (h1 : 0 ≤ z2) (h2 : z2 ≤ z3) (h3 : z3 ≤ 400) (h4 : 0 ≤ z4 ∧ z4 ≤ z3) (h5 : ¬ z5 = (-1 : Int32)) (h6 : z6 = z5) (h7 : z6 = -1 ∨ (z6 = -2 ∧ z4 < z3) ∨ (0 ≤ z7 ∧ z7 < z1 ∧ 0 ≤ z8 ∧ z8 ≤ 1 ∧ 1 ≤ z9 ∧ z9 ≤ 9 ∧ z4 + z10 ≤ z3 ∧ 1 ≤ z6)) (h8 : ¬ z11 = z12) (h9 : z13 = z11 + (1 : Int32)) (h10 : ¬ z6 = (-2 : Int32)) (h11 : z14 = z7) (h12 : z0 = z9) : 0 < z0 := by first | (clear h8 h9; lia) | lia
set_option maxHeartbeats 200000 in
theorem qw306 {z0 : Int32} {z1 : Int32} {z2 : Int32} {z3 : Int32} {z4 : Int32} {z5 : Int32} {z6 : Int32} {z7 : Int32} {z8 : Int32} {z9 : Int32} {z10 : Int32} {z11 : Int32} {z12 : Int32} {z13 : Int32} {z14 : Int32} {z15 : Int32} (h0 : (0 : Int32) ≤ z2 ∧ z2 ≤ (12 : Int32)) (h1 : 0 ≤ z3) (h2 : z3 ≤ z4) (h3 : z4 ≤ 400) (h4 : 0 ≤ z5 ∧ z5 ≤ z4) (h5 : ¬ z6 = (-1 : Int32)) (h6 : z7 = z6) (h7 : z7 = -1 ∨ (z7 = -2 ∧ z5 < z4) ∨ (0 ≤ z8 ∧ z8 < z2 ∧ 0 ≤ z9 ∧ z9 ≤ 1 ∧ 1 ≤ z10 ∧ z10 ≤ 9 ∧ z5 + z11 ≤ z4 ∧ 1 ≤ z7)) (h8 : ¬ z12 = z13) (h9 : z14 = z12 + (1 : Int32)) (h10 : ¬ z7 = (-2 : Int32)) (h11 : z15 = z8) (h12 : z0 = z10) (h13 : (1 : Int32) ≤ z1 ∧ z1 ≤ (60 : Int32)) : z0 ≤ ((z1 + z0) - (1 : Int32)) := by first | (clear h8 h9; lia) | lia
set_option maxHeartbeats 200000 in
theorem qw307 {z0 : Int32} {z1 : Int32} {z2 : Int32} {z3 : Int32} {z4 : Int32} {z5 : Int32} {z6 : Int32} {z7 : Int32} {z8 : Int32} {z9 : Int32} {z10 : Int32} {z11 : Int32} {z12 : Int32} {z13 : Int32} {z14 : Int32} {z15 : Int32} {z16 : Int32} (h0 : (0 : Int32) ≤ z1 ∧ z1 ≤ (12 : Int32)) (h1 : 0 ≤ z2) (h2 : z2 ≤ z3) (h3 : z3 ≤ 400) (h4 : 0 ≤ z4 ∧ z4 ≤ z3) (h5 : ¬ z5 = (-1 : Int32)) (h6 : z0 = z5) (h7 : z0 = -1 ∨ (z0 = -2 ∧ z4 < z3) ∨ (0 ≤ z6 ∧ z6 < z1 ∧ 0 ≤ z7 ∧ z7 ≤ 1 ∧ 1 ≤ z8 ∧ z8 ≤ 9 ∧ z4 + z9 ≤ z3 ∧ 1 ≤ z0)) (h8 : ¬ z10 = z11) (h9 : z12 = z10 + (1 : Int32)) (h10 : ¬ z0 = (-2 : Int32)) (h11 : z13 = z6) (h12 : z14 = z8) (h13 : (1 : Int32) ≤ z15 ∧ z15 ≤ (60 : Int32)) (h14 : 0 ≤ z16 ∧ z16 ≤ ((z15 + z14) - (1 : Int32))) (h15 : (1 : Int32) ≤ z16) : ¬ z0 = -1 := by first | (clear h8 h9; lia) | lia
set_option maxHeartbeats 200000 in
theorem qw308 {z0 : Int32} {z1 : Int32} {z2 : Int32} {z3 : Int32} {z4 : Int32} {z5 : Int32} {z6 : Int32} {z7 : Int32} {z8 : Int32} {z9 : Int32} {z10 : Int32} {z11 : Int32} {z12 : Int32} {z13 : Int32} {z14 : Int32} {z15 : Int32} {z16 : Int32} (h0 : (0 : Int32) ≤ z1 ∧ z1 ≤ (12 : Int32)) (h1 : 0 ≤ z2) (h2 : z2 ≤ z3) (h3 : z3 ≤ 400) (h4 : 0 ≤ z4 ∧ z4 ≤ z3) (h5 : ¬ z5 = (-1 : Int32)) (h6 : z0 = z5) (h7 : z0 = -1 ∨ (z0 = -2 ∧ z4 < z3) ∨ (0 ≤ z6 ∧ z6 < z1 ∧ 0 ≤ z7 ∧ z7 ≤ 1 ∧ 1 ≤ z8 ∧ z8 ≤ 9 ∧ z4 + z9 ≤ z3 ∧ 1 ≤ z0)) (h8 : ¬ z10 = z11) (h9 : z12 = z10 + (1 : Int32)) (h10 : ¬ z0 = (-2 : Int32)) (h11 : z13 = z6) (h12 : z14 = z8) (h13 : (1 : Int32) ≤ z15 ∧ z15 ≤ (60 : Int32)) (h14 : 0 ≤ z16 ∧ z16 ≤ ((z15 + z14) - (1 : Int32))) (h15 : (1 : Int32) ≤ z16) : ¬ z0 = -2 := by first | (clear h8 h9; lia) | lia
set_option maxHeartbeats 200000 in
theorem qw309 {z0 : Int32} {z1 : Int32} {z2 : Int32} {z3 : Int32} {z4 : Int32} {z5 : Int32} {z6 : Int32} {z7 : Int32} {z8 : Int32} {z9 : Int32} {z10 : Int32} {z11 : Int32} {z12 : Int32} {z13 : Int32} {z14 : Int32} {z15 : Int32} {z16 : Int32} {z17 : Int32} (h0 : (0 : Int32) ≤ z1 ∧ z1 ≤ (12 : Int32)) (h1 : 0 ≤ z2) (h2 : z2 ≤ z3) (h3 : z3 ≤ 400) (h4 : 0 ≤ z4 ∧ z4 ≤ z3) (h5 : ¬ z5 = (-1 : Int32)) (h6 : z0 = z5) (h7 : z0 = -1 ∨ (z0 = -2 ∧ z4 < z3) ∨ (0 ≤ z6 ∧ z6 < z1 ∧ 0 ≤ z7 ∧ z7 ≤ 1 ∧ 1 ≤ z8 ∧ z8 ≤ 9 ∧ z4 + z9 ≤ z3 ∧ 1 ≤ z0)) (h8 : ¬ z10 = z11) (h9 : z12 = z10 + (1 : Int32)) (h10 : ¬ z0 = (-2 : Int32)) (h11 : z13 = z6) (h12 : z14 = z8) (h13 : (1 : Int32) ≤ z15 ∧ z15 ≤ (60 : Int32)) (h14 : 0 ≤ z16 ∧ z16 ≤ ((z15 + z14) - (1 : Int32))) (h15 : (1 : Int32) ≤ z16) (h16 : z16 = z9) (h17 : z17 = z4 + z16) (h18 : ¬ z0 = (-2 : Int32)) : ¬ z0 = -1 := by first | (clear h8 h9; lia) | lia
set_option maxHeartbeats 200000 in
theorem qw310 {z0 : Int32} {z1 : Int32} {z2 : Int32} {z3 : Int32} {z4 : Int32} {z5 : Int32} {z6 : Int32} {z7 : Int32} {z8 : Int32} {z9 : Int32} {z10 : Int32} {z11 : Int32} {z12 : Int32} {z13 : Int32} {z14 : Int32} {z15 : Int32} {z16 : Int32} {z17 : Int32} (h0 : (0 : Int32) ≤ z1 ∧ z1 ≤ (12 : Int32)) (h1 : 0 ≤ z2) (h2 : z2 ≤ z3) (h3 : z3 ≤ 400) (h4 : 0 ≤ z4 ∧ z4 ≤ z3) (h5 : ¬ z5 = (-1 : Int32)) (h6 : z0 = z5) (h7 : z0 = -1 ∨ (z0 = -2 ∧ z4 < z3) ∨ (0 ≤ z6 ∧ z6 < z1 ∧ 0 ≤ z7 ∧ z7 ≤ 1 ∧ 1 ≤ z8 ∧ z8 ≤ 9 ∧ z4 + z9 ≤ z3 ∧ 1 ≤ z0)) (h8 : ¬ z10 = z11) (h9 : z12 = z10 + (1 : Int32)) (h10 : ¬ z0 = (-2 : Int32)) (h11 : z13 = z6) (h12 : z14 = z8) (h13 : (1 : Int32) ≤ z15 ∧ z15 ≤ (60 : Int32)) (h14 : 0 ≤ z16 ∧ z16 ≤ ((z15 + z14) - (1 : Int32))) (h15 : (1 : Int32) ≤ z16) (h16 : z16 = z9) (h17 : z17 = z4 + z16) (h18 : ¬ z0 = (-2 : Int32)) : ¬ z0 = -2 := by first | (clear h8 h9; lia) | lia
set_option maxHeartbeats 200000 in
theorem qw311 {z0 : Int32} {z1 : Int32} {z2 : Int32} {z3 : Int32} {z4 : Int32} {z5 : Int32} {z6 : Int32} {z7 : Int32} {z8 : Int32} {z9 : Int32} {z10 : Int32} {z11 : Int32} {z12 : Int32} {z13 : Int32} {z14 : Int32} {z15 : Int32} {z16 : Int32} {z17 : Int32} (h0 : (0 : Int32) ≤ z1 ∧ z1 ≤ (12 : Int32)) (h1 : 0 ≤ z2) (h2 : z2 ≤ z3) (h3 : z3 ≤ 400) (h4 : 0 ≤ z4 ∧ z4 ≤ z3) (h5 : ¬ z5 = (-1 : Int32)) (h6 : z6 = z5) (h7 : z6 = -1 ∨ (z6 = -2 ∧ z4 < z3) ∨ (0 ≤ z0 ∧ z0 < z1 ∧ 0 ≤ z7 ∧ z7 ≤ 1 ∧ 1 ≤ z8 ∧ z8 ≤ 9 ∧ z4 + z9 ≤ z3 ∧ 1 ≤ z6)) (h8 : ¬ z10 = z11) (h9 : z12 = z10 + (1 : Int32)) (h10 : ¬ z6 = (-2 : Int32)) (h11 : z13 = z0) (h12 : z14 = z8) (h13 : (1 : Int32) ≤ z15 ∧ z15 ≤ (60 : Int32)) (h14 : 0 ≤ z16 ∧ z16 ≤ ((z15 + z14) - (1 : Int32))) (h15 : (1 : Int32) ≤ z16) (h16 : z16 = z9) (h17 : z17 = z4 + z16) (h18 : ¬ z6 = (-2 : Int32)) : 0 ≤ z0 ∧ z0 ≤ (11 : Int32) := by first | (clear h8 h9; lia) | lia
set_option maxHeartbeats 200000 in
theorem qw312 {z0 : Int32} {z1 : Int32} {z2 : Int32} {z3 : Int32} {z4 : Int32} {z5 : Int32} {z6 : Int32} {z7 : Int32} {z8 : Int32} {z9 : Int32} {z10 : Int32} {z11 : Int32} {z12 : Int32} {z13 : Int32} {z14 : Int32} {z15 : Int32} {z16 : Int32} {z17 : Int32} (h0 : (0 : Int32) ≤ z1 ∧ z1 ≤ (12 : Int32)) (h1 : 0 ≤ z2) (h2 : z2 ≤ z3) (h3 : z3 ≤ 400) (h4 : 0 ≤ z4 ∧ z4 ≤ z3) (h5 : ¬ z5 = (-1 : Int32)) (h6 : z6 = z5) (h7 : z6 = -1 ∨ (z6 = -2 ∧ z4 < z3) ∨ (0 ≤ z7 ∧ z7 < z1 ∧ 0 ≤ z0 ∧ z0 ≤ 1 ∧ 1 ≤ z8 ∧ z8 ≤ 9 ∧ z4 + z9 ≤ z3 ∧ 1 ≤ z6)) (h8 : ¬ z10 = z11) (h9 : z12 = z10 + (1 : Int32)) (h10 : ¬ z6 = (-2 : Int32)) (h11 : z13 = z7) (h12 : z14 = z8) (h13 : (1 : Int32) ≤ z15 ∧ z15 ≤ (60 : Int32)) (h14 : 0 ≤ z16 ∧ z16 ≤ ((z15 + z14) - (1 : Int32))) (h15 : (1 : Int32) ≤ z16) (h16 : z16 = z9) (h17 : z17 = z4 + z16) (h18 : ¬ z6 = (-2 : Int32)) : 0 ≤ z0 ∧ z0 ≤ (1 : Int32) := by first | (clear h8 h9; lia) | lia
set_option maxHeartbeats 200000 in
theorem qw313 {z0 : Int32} {z1 : Int32} {z2 : Int32} {z3 : Int32} {z4 : Int32} {z5 : Int32} {z6 : Int32} {z7 : Int32} {z8 : Int32} {z9 : Int32} {z10 : Int32} {z11 : Int32} {z12 : Int32} {z13 : Int32} {z14 : Int32} {z15 : Int32} {z16 : Int32} {z17 : Int32} (h0 : (0 : Int32) ≤ z1 ∧ z1 ≤ (12 : Int32)) (h1 : 0 ≤ z2) (h2 : z2 ≤ z3) (h3 : z3 ≤ 400) (h4 : 0 ≤ z4 ∧ z4 ≤ z3) (h5 : ¬ z5 = (-1 : Int32)) (h6 : z6 = z5) (h7 : z6 = -1 ∨ (z6 = -2 ∧ z4 < z3) ∨ (0 ≤ z7 ∧ z7 < z1 ∧ 0 ≤ z8 ∧ z8 ≤ 1 ∧ 1 ≤ z0 ∧ z0 ≤ 9 ∧ z4 + z9 ≤ z3 ∧ 1 ≤ z6)) (h8 : ¬ z10 = z11) (h9 : z12 = z10 + (1 : Int32)) (h10 : ¬ z6 = (-2 : Int32)) (h11 : z13 = z7) (h12 : z14 = z0) (h13 : (1 : Int32) ≤ z15 ∧ z15 ≤ (60 : Int32)) (h14 : 0 ≤ z16 ∧ z16 ≤ ((z15 + z14) - (1 : Int32))) (h15 : (1 : Int32) ≤ z16) (h16 : z16 = z9) (h17 : z17 = z4 + z16) (h18 : ¬ z6 = (-2 : Int32)) : (1 : Int32) ≤ z0 ∧ z0 ≤ (9 : Int32) := by first | (clear h8 h9; lia) | lia
set_option maxHeartbeats 200000 in
theorem qw314 {z0 : Int32} {z1 : Int32} {z2 : Int32} {z3 : Int32} {z4 : Int32} {z5 : Int32} {z6 : Int32} {z7 : Int32} {z8 : Int32} {z9 : Int32} {z10 : Int32} {z11 : Int32} {z12 : Int32} {z13 : Int32} {z14 : Int32} {z15 : Int32} {z16 : Int32} {z17 : Int32} {z18 : Int32} (h0 : (0 : Int32) ≤ z1 ∧ z1 ≤ (12 : Int32)) (h1 : 0 ≤ z2) (h2 : z2 ≤ z3) (h3 : z3 ≤ 400) (h4 : 0 ≤ z4 ∧ z4 ≤ z3) (h5 : ¬ z5 = (-1 : Int32)) (h6 : z0 = z5) (h7 : z0 = -1 ∨ (z0 = -2 ∧ z4 < z3) ∨ (0 ≤ z6 ∧ z6 < z1 ∧ 0 ≤ z7 ∧ z7 ≤ 1 ∧ 1 ≤ z8 ∧ z8 ≤ 9 ∧ z4 + z9 ≤ z3 ∧ 1 ≤ z0)) (h8 : ¬ z10 = z11) (h9 : z12 = z10 + (1 : Int32)) (h10 : ¬ z0 = (-2 : Int32)) (h11 : z13 = z6) (h12 : z14 = z8) (h13 : (1 : Int32) ≤ z15 ∧ z15 ≤ (60 : Int32)) (h14 : 0 ≤ z16 ∧ z16 ≤ ((z15 + z14) - (1 : Int32))) (h15 : (1 : Int32) ≤ z16) (h16 : z16 = z9) (h17 : z17 = z4 + z16) (h18 : ¬ z0 = (-2 : Int32)) (h19 : z18 = z6) : ¬ z0 = -1 := by first | (clear h8 h9; lia) | lia
set_option maxHeartbeats 200000 in
theorem qw315 {z0 : Int32} {z1 : Int32} {z2 : Int32} {z3 : Int32} {z4 : Int32} {z5 : Int32} {z6 : Int32} {z7 : Int32} {z8 : Int32} {z9 : Int32} {z10 : Int32} {z11 : Int32} {z12 : Int32} {z13 : Int32} {z14 : Int32} {z15 : Int32} {z16 : Int32} {z17 : Int32} {z18 : Int32} (h0 : (0 : Int32) ≤ z1 ∧ z1 ≤ (12 : Int32)) (h1 : 0 ≤ z2) (h2 : z2 ≤ z3) (h3 : z3 ≤ 400) (h4 : 0 ≤ z4 ∧ z4 ≤ z3) (h5 : ¬ z5 = (-1 : Int32)) (h6 : z0 = z5) (h7 : z0 = -1 ∨ (z0 = -2 ∧ z4 < z3) ∨ (0 ≤ z6 ∧ z6 < z1 ∧ 0 ≤ z7 ∧ z7 ≤ 1 ∧ 1 ≤ z8 ∧ z8 ≤ 9 ∧ z4 + z9 ≤ z3 ∧ 1 ≤ z0)) (h8 : ¬ z10 = z11) (h9 : z12 = z10 + (1 : Int32)) (h10 : ¬ z0 = (-2 : Int32)) (h11 : z13 = z6) (h12 : z14 = z8) (h13 : (1 : Int32) ≤ z15 ∧ z15 ≤ (60 : Int32)) (h14 : 0 ≤ z16 ∧ z16 ≤ ((z15 + z14) - (1 : Int32))) (h15 : (1 : Int32) ≤ z16) (h16 : z16 = z9) (h17 : z17 = z4 + z16) (h18 : ¬ z0 = (-2 : Int32)) (h19 : z18 = z6) : ¬ z0 = -2 := by first | (clear h8 h9; lia) | lia
set_option maxHeartbeats 200000 in
theorem qw316 {z0 : Int32} {z1 : Int32} {z2 : Int32} {z3 : Int32} {z4 : Int32} {z5 : Int32} {z6 : Int32} {z7 : Int32} {z8 : Int32} {z9 : Int32} {z10 : Int32} {z11 : Int32} {z12 : Int32} {z13 : Int32} {z14 : Int32} {z15 : Int32} {z16 : Int32} {z17 : Int32} {z18 : Int32} (h0 : (0 : Int32) ≤ z1 ∧ z1 ≤ (12 : Int32)) (h1 : 0 ≤ z2) (h2 : z2 ≤ z3) (h3 : z3 ≤ 400) (h4 : 0 ≤ z4 ∧ z4 ≤ z3) (h5 : ¬ z5 = (-1 : Int32)) (h6 : z6 = z5) (h7 : z6 = -1 ∨ (z6 = -2 ∧ z4 < z3) ∨ (0 ≤ z0 ∧ z0 < z1 ∧ 0 ≤ z7 ∧ z7 ≤ 1 ∧ 1 ≤ z8 ∧ z8 ≤ 9 ∧ z4 + z9 ≤ z3 ∧ 1 ≤ z6)) (h8 : ¬ z10 = z11) (h9 : z12 = z10 + (1 : Int32)) (h10 : ¬ z6 = (-2 : Int32)) (h11 : z13 = z0) (h12 : z14 = z8) (h13 : (1 : Int32) ≤ z15 ∧ z15 ≤ (60 : Int32)) (h14 : 0 ≤ z16 ∧ z16 ≤ ((z15 + z14) - (1 : Int32))) (h15 : (1 : Int32) ≤ z16) (h16 : z16 = z9) (h17 : z17 = z4 + z16) (h18 : ¬ z6 = (-2 : Int32)) (h19 : z18 = z0) : 0 ≤ z0 ∧ z0 ≤ (11 : Int32) := by first | (clear h8 h9; lia) | lia
set_option maxHeartbeats 200000 in
theorem qw317 {z0 : Int32} {z1 : Int32} {z2 : Int32} {z3 : Int32} {z4 : Int32} {z5 : Int32} {z6 : Int32} {z7 : Int32} {z8 : Int32} {z9 : Int32} {z10 : Int32} {z11 : Int32} {z12 : Int32} {z13 : Int32} {z14 : Int32} {z15 : Int32} {z16 : Int32} {z17 : Int32} {z18 : Int32} (h0 : (0 : Int32) ≤ z1 ∧ z1 ≤ (12 : Int32)) (h1 : 0 ≤ z2) (h2 : z2 ≤ z3) (h3 : z3 ≤ 400) (h4 : 0 ≤ z4 ∧ z4 ≤ z3) (h5 : ¬ z5 = (-1 : Int32)) (h6 : z6 = z5) (h7 : z6 = -1 ∨ (z6 = -2 ∧ z4 < z3) ∨ (0 ≤ z7 ∧ z7 < z1 ∧ 0 ≤ z0 ∧ z0 ≤ 1 ∧ 1 ≤ z8 ∧ z8 ≤ 9 ∧ z4 + z9 ≤ z3 ∧ 1 ≤ z6)) (h8 : ¬ z10 = z11) (h9 : z12 = z10 + (1 : Int32)) (h10 : ¬ z6 = (-2 : Int32)) (h11 : z13 = z7) (h12 : z14 = z8) (h13 : (1 : Int32) ≤ z15 ∧ z15 ≤ (60 : Int32)) (h14 : 0 ≤ z16 ∧ z16 ≤ ((z15 + z14) - (1 : Int32))) (h15 : (1 : Int32) ≤ z16) (h16 : z16 = z9) (h17 : z17 = z4 + z16) (h18 : ¬ z6 = (-2 : Int32)) (h19 : z18 = z7) : 0 ≤ z0 ∧ z0 ≤ (1 : Int32) := by first | (clear h8 h9; lia) | lia
set_option maxHeartbeats 200000 in
theorem qw318 {z0 : Int32} {z1 : Int32} {z2 : Int32} {z3 : Int32} {z4 : Int32} {z5 : Int32} {z6 : Int32} {z7 : Int32} {z8 : Int32} {z9 : Int32} {z10 : Int32} {z11 : Int32} {z12 : Int32} {z13 : Int32} {z14 : Int32} {z15 : Int32} {z16 : Int32} {z17 : Int32} {z18 : Int32} (h0 : (0 : Int32) ≤ z1 ∧ z1 ≤ (12 : Int32)) (h1 : 0 ≤ z2) (h2 : z2 ≤ z3) (h3 : z3 ≤ 400) (h4 : 0 ≤ z4 ∧ z4 ≤ z3) (h5 : ¬ z5 = (-1 : Int32)) (h6 : z6 = z5) (h7 : z6 = -1 ∨ (z6 = -2 ∧ z4 < z3) ∨ (0 ≤ z7 ∧ z7 < z1 ∧ 0 ≤ z8 ∧ z8 ≤ 1 ∧ 1 ≤ z0 ∧ z0 ≤ 9 ∧ z4 + z9 ≤ z3 ∧ 1 ≤ z6)) (h8 : ¬ z10 = z11) (h9 : z12 = z10 + (1 : Int32)) (h10 : ¬ z6 = (-2 : Int32)) (h11 : z13 = z7) (h12 : z14 = z0) (h13 : (1 : Int32) ≤ z15 ∧ z15 ≤ (60 : Int32)) (h14 : 0 ≤ z16 ∧ z16 ≤ ((z15 + z14) - (1 : Int32))) (h15 : (1 : Int32) ≤ z16) (h16 : z16 = z9) (h17 : z17 = z4 + z16) (h18 : ¬ z6 = (-2 : Int32)) (h19 : z18 = z7) : (1 : Int32) ≤ z0 ∧ z0 ≤ (9 : Int32) := by first | (clear h8 h9; lia) | lia
set_option maxHeartbeats 200000 in
theorem qw319 {z0 : Int32} {z1 : Int32} {z2 : Int32} {z3 : Int32} {z4 : Int32} {z5 : Int32} {z6 : Int32} {z7 : Int32} {z8 : Int32} {z9 : Int32} {z10 : Int32} {z11 : Int32} {z12 : Int32} {z13 : Int32} {z14 : Int32} {z15 : Int32} {z16 : Int32} {z17 : Int32} {z18 : Int32} {z19 : Int32} (h0 : (0 : Int32) ≤ z1 ∧ z1 ≤ (12 : Int32)) (h1 : 0 ≤ z2) (h2 : z2 ≤ z3) (h3 : z3 ≤ 400) (h4 : 0 ≤ z4 ∧ z4 ≤ z3) (h5 : ¬ z5 = (-1 : Int32)) (h6 : z6 = z5) (h7 : z6 = -1 ∨ (z6 = -2 ∧ z4 < z3) ∨ (0 ≤ z7 ∧ z7 < z1 ∧ 0 ≤ z8 ∧ z8 ≤ 1 ∧ 1 ≤ z9 ∧ z9 ≤ 9 ∧ z4 + z10 ≤ z3 ∧ 1 ≤ z6)) (h8 : ¬ z11 = z12) (h9 : z13 = z11 + (1 : Int32)) (h10 : ¬ z6 = (-2 : Int32)) (h11 : z14 = z7) (h12 : z15 = z9) (h13 : (1 : Int32) ≤ z16 ∧ z16 ≤ (60 : Int32)) (h14 : 0 ≤ z17 ∧ z17 ≤ ((z16 + z15) - (1 : Int32))) (h15 : (1 : Int32) ≤ z17) (h16 : z17 = z10) (h17 : z18 = z4 + z17) (h18 : ¬ z6 = (-2 : Int32)) (h19 : z0 = z7) (h20 : z19 = z8) (h21 : ¬ z19 = 0) : 0 ≤ z0 ∧ z0 < (12 : Int32) := by first | (clear h8 h9; lia) | lia
set_option maxHeartbeats 200000 in
theorem qw320 {z0 : Int32} {z1 : Int32} {z2 : Int32} {z3 : Int32} {z4 : Int32} {z5 : Int32} {z6 : Int32} {z7 : Int32} {z8 : Int32} {z9 : Int32} {z10 : Int32} {z11 : Int32} {z12 : Int32} {z13 : Int32} {z14 : Int32} {z15 : Int32} {z16 : Int32} {z17 : Int32} {z18 : Int32} {z19 : Int32} (h0 : (0 : Int32) ≤ z1 ∧ z1 ≤ (12 : Int32)) (h1 : 0 ≤ z2) (h2 : z2 ≤ z3) (h3 : z3 ≤ 400) (h4 : 0 ≤ z4 ∧ z4 ≤ z3) (h5 : ¬ z5 = (-1 : Int32)) (h6 : z6 = z5) (h7 : z6 = -1 ∨ (z6 = -2 ∧ z4 < z3) ∨ (0 ≤ z7 ∧ z7 < z1 ∧ 0 ≤ z8 ∧ z8 ≤ 1 ∧ 1 ≤ z9 ∧ z9 ≤ 9 ∧ z4 + z10 ≤ z3 ∧ 1 ≤ z6)) (h8 : ¬ z11 = z12) (h9 : z13 = z11 + (1 : Int32)) (h10 : ¬ z6 = (-2 : Int32)) (h11 : z14 = z7) (h12 : z15 = z9) (h13 : (1 : Int32) ≤ z16 ∧ z16 ≤ (60 : Int32)) (h14 : 0 ≤ z17 ∧ z17 ≤ ((z16 + z15) - (1 : Int32))) (h15 : (1 : Int32) ≤ z17) (h16 : z17 = z10) (h17 : z18 = z4 + z17) (h18 : ¬ z6 = (-2 : Int32)) (h19 : z0 = z7) (h20 : z19 = z8) (h21 : ¬ z19 = 0) : 0 ≤ z0 ∧ z0 < z1 := by first | (clear h8 h9; lia) | lia
set_option maxHeartbeats 200000 in
theorem qw321 {z0 : Int32} {z1 : Int32} {z2 : Int32} {z3 : Int32} {z4 : Int32} {z5 : Int32} {z6 : Int32} {z7 : Int32} {z8 : Int32} {z9 : Int32} {z10 : Int32} {z11 : Int32} {z12 : Int32} {z13 : Int32} {z14 : Int32} {z15 : Int32} {z16 : Int32} {z17 : Int32} {z18 : Int32} {z19 : Int32} {z20 : Int32} {z21 : Int32} {z22 : Int32} {z23 : Int32} (h0 : (0 : Int32) ≤ z1 ∧ z1 ≤ (8 : Int32)) (h1 : (0 : Int32) ≤ z2 ∧ z2 ≤ (12 : Int32)) (h2 : 0 ≤ z3) (h3 : z3 ≤ z4) (h4 : z4 ≤ 400) (h5 : 0 ≤ z5) (h6 : z5 < z1) (h7 : 0 ≤ z6 ∧ z6 < z1) (h8 : 0 ≤ z7 ∧ z7 ≤ z4) (h9 : ¬ z8 = (-1 : Int32)) (h10 : z9 = z8) (h11 : z9 = -1 ∨ (z9 = -2 ∧ z7 < z4) ∨ (0 ≤ z10 ∧ z10 < z2 ∧ 0 ≤ z11 ∧ z11 ≤ 1 ∧ 1 ≤ z12 ∧ z12 ≤ 9 ∧ z7 + z13 ≤ z4 ∧ 1 ≤ z9)) (h12 : ¬ z14 = z15) (h13 : z16 = z14 + (1 : Int32)) (h14 : ¬ z9 = (-2 : Int32)) (h15 : z17 = z10) (h16 : z18 = z12) (h17 : (1 : Int32) ≤ z19 ∧ z19 ≤ (60 : Int32)) (h18 : 0 ≤ z20 ∧ z20 ≤ ((z19 + z18) - (1 : Int32))) (h19 : (1 : Int32) ≤ z20) (h20 : z20 = z13) (h21 : z21 = z7 + z20) (h22 : ¬ z9 = (-2 : Int32)) (h23 : z22 = z10) (h24 : z23 = z11) (h25 : ¬ z23 = 0) (h26 : (0 : Int32) ≤ z0 ∧ z0 ≤ (7 : Int32)) (h27 : z0 < z1) : 0 ≤ z0 ∧ z0 < z1 := by first | (clear h1 h2 h3 h4 h8 h9 h10 h11 h12 h13 h14 h15 h16 h17 h18 h19 h20 h21 h22 h23 h24 h25; lia) | lia
set_option maxHeartbeats 200000 in
theorem qw322 {z0 : Int32} {z1 : Int32} {z2 : Int32} {z3 : Int32} {z4 : Int32} {z5 : Int32} {z6 : Int32} {z7 : Int32} {z8 : Int32} {z9 : Int32} {z10 : Int32} {z11 : Int32} {z12 : Int32} {z13 : Int32} {z14 : Int32} {z15 : Int32} {z16 : Int32} {z17 : Int32} {z18 : Int32} {z19 : Int32} (h0 : (0 : Int32) ≤ z2 ∧ z2 ≤ (12 : Int32)) (h1 : 0 ≤ z3) (h2 : z3 ≤ z1) (h3 : z1 ≤ 400) (h4 : 0 ≤ z4 ∧ z4 ≤ z1) (h5 : ¬ z5 = (-1 : Int32)) (h6 : z6 = z5) (h7 : z6 = -1 ∨ (z6 = -2 ∧ z4 < z1) ∨ (0 ≤ z7 ∧ z7 < z2 ∧ 0 ≤ z8 ∧ z8 ≤ 1 ∧ 1 ≤ z9 ∧ z9 ≤ 9 ∧ z4 + z10 ≤ z1 ∧ 1 ≤ z6)) (h8 : ¬ z11 = z12) (h9 : z13 = z11 + (1 : Int32)) (h10 : ¬ z6 = (-2 : Int32)) (h11 : z14 = z7) (h12 : z15 = z9) (h13 : (1 : Int32) ≤ z16 ∧ z16 ≤ (60 : Int32)) (h14 : 0 ≤ z17 ∧ z17 ≤ ((z16 + z15) - (1 : Int32))) (h15 : (1 : Int32) ≤ z17) (h16 : z17 = z10) (h17 : z0 = z4 + z17) (h18 : ¬ z6 = (-2 : Int32)) (h19 : z18 = z7) (h20 : z19 = z8) (h21 : ¬ z19 = 0) : 0 ≤ z0 ∧ z0 ≤ z1 := by first | (clear h8 h9; lia) | lia
set_option maxHeartbeats 200000 in
theorem qw323 {z0 : Int32} {z1 : Int32} {z2 : Int32} {z3 : Int32} {z4 : Int32} {z5 : Int32} {z6 : Int32} {z7 : Int32} {z8 : Int32} {z9 : Int32} {z10 : Int32} {z11 : Int32} {z12 : Int32} {z13 : Int32} {z14 : Int32} {z15 : Int32} {z16 : Int32} {z17 : Int32} {z18 : Int32} {z19 : Int32} (h0 : (0 : Int32) ≤ z2 ∧ z2 ≤ (12 : Int32)) (h1 : 0 ≤ z3) (h2 : z3 ≤ z4) (h3 : z4 ≤ 400) (h4 : 0 ≤ z0 ∧ z0 ≤ z4) (h5 : ¬ z5 = (-1 : Int32)) (h6 : z6 = z5) (h7 : z6 = -1 ∨ (z6 = -2 ∧ z0 < z4) ∨ (0 ≤ z7 ∧ z7 < z2 ∧ 0 ≤ z8 ∧ z8 ≤ 1 ∧ 1 ≤ z9 ∧ z9 ≤ 9 ∧ z0 + z10 ≤ z4 ∧ 1 ≤ z6)) (h8 : ¬ z11 = z12) (h9 : z13 = z11 + (1 : Int32)) (h10 : ¬ z6 = (-2 : Int32)) (h11 : z14 = z7) (h12 : z15 = z9) (h13 : (1 : Int32) ≤ z16 ∧ z16 ≤ (60 : Int32)) (h14 : 0 ≤ z17 ∧ z17 ≤ ((z16 + z15) - (1 : Int32))) (h15 : (1 : Int32) ≤ z17) (h16 : z17 = z10) (h17 : z1 = z0 + z17) (h18 : ¬ z6 = (-2 : Int32)) (h19 : z18 = z7) (h20 : z19 = z8) (h21 : ¬ z19 = 0) : z0 < z1 := by first | (clear h8 h9; lia) | lia
set_option maxHeartbeats 200000 in
theorem qw324 {z0 : Int32} {z1 : Int32} {z2 : Int32} {z3 : Int32} {z4 : Int32} {z5 : Int32} {z6 : Int32} {z7 : Int32} {z8 : Int32} {z9 : Int32} {z10 : Int32} {z11 : Int32} {z12 : Int32} {z13 : Int32} {z14 : Int32} {z15 : Int32} {z16 : Int32} {z17 : Int32} {z18 : Int32} {z19 : Int32} (h0 : (0 : Int32) ≤ z1 ∧ z1 ≤ (12 : Int32)) (h1 : 0 ≤ z2) (h2 : z2 ≤ z3) (h3 : z3 ≤ 400) (h4 : 0 ≤ z0 ∧ z0 ≤ z3) (h5 : ¬ z4 = (-1 : Int32)) (h6 : z5 = z4) (h7 : z5 = -1 ∨ (z5 = -2 ∧ z0 < z3) ∨ (0 ≤ z6 ∧ z6 < z1 ∧ 0 ≤ z7 ∧ z7 ≤ 1 ∧ 1 ≤ z8 ∧ z8 ≤ 9 ∧ z0 + z9 ≤ z3 ∧ 1 ≤ z5)) (h8 : ¬ z10 = z11) (h9 : z12 = z10 + (1 : Int32)) (h10 : ¬ z5 = (-2 : Int32)) (h11 : z13 = z6) (h12 : z14 = z8) (h13 : (1 : Int32) ≤ z15 ∧ z15 ≤ (60 : Int32)) (h14 : 0 ≤ z16 ∧ z16 ≤ ((z15 + z14) - (1 : Int32))) (h15 : (1 : Int32) ≤ z16) (h16 : z16 = z9) (h17 : z17 = z0 + z16) (h18 : ¬ z5 = (-2 : Int32)) (h19 : z18 = z6) (h20 : z19 = z7) (h21 : ¬ z19 = 0) : z0 < (401 : Int32) := by first | (clear h8 h9; lia) | lia
set_option maxHeartbeats 200000 in
theorem qw325 {z0 : Int32} {z1 : Int32} {z2 : Int32} {z3 : Int32} {z4 : Int32} {z5 : Int32} {z6 : Int32} {z7 : Int32} {z8 : Int32} {z9 : Int32} {z10 : Int32} {z11 : Int32} {z12 : Int32} {z13 : Int32} {z14 : Int32} {z15 : Int32} {z16 : Int32} {z17 : Int32} {z18 : Int32} {z19 : Int32} (h0 : (0 : Int32) ≤ z1 ∧ z1 ≤ (12 : Int32)) (h1 : 0 ≤ z2) (h2 : z2 ≤ z3) (h3 : z3 ≤ 400) (h4 : 0 ≤ z4 ∧ z4 ≤ z3) (h5 : ¬ z5 = (-1 : Int32)) (h6 : z6 = z5) (h7 : z6 = -1 ∨ (z6 = -2 ∧ z4 < z3) ∨ (0 ≤ z7 ∧ z7 < z1 ∧ 0 ≤ z8 ∧ z8 ≤ 1 ∧ 1 ≤ z9 ∧ z9 ≤ 9 ∧ z4 + z10 ≤ z3 ∧ 1 ≤ z6)) (h8 : ¬ z11 = z12) (h9 : z13 = z11 + (1 : Int32)) (h10 : ¬ z6 = (-2 : Int32)) (h11 : z14 = z7) (h12 : z15 = z9) (h13 : (1 : Int32) ≤ z16 ∧ z16 ≤ (60 : Int32)) (h14 : 0 ≤ z17 ∧ z17 ≤ ((z16 + z15) - (1 : Int32))) (h15 : (1 : Int32) ≤ z17) (h16 : z17 = z10) (h17 : z18 = z4 + z17) (h18 : ¬ z6 = (-2 : Int32)) (h19 : z0 = z7) (h20 : z19 = z8) (h21 : z19 = 0) : 0 ≤ z0 ∧ z0 < (12 : Int32) := by first | (clear h8 h9; lia) | lia
set_option maxHeartbeats 200000 in
theorem qw326 {z0 : Int32} {z1 : Int32} {z2 : Int32} {z3 : Int32} {z4 : Int32} {z5 : Int32} {z6 : Int32} {z7 : Int32} {z8 : Int32} {z9 : Int32} {z10 : Int32} {z11 : Int32} {z12 : Int32} {z13 : Int32} {z14 : Int32} {z15 : Int32} {z16 : Int32} {z17 : Int32} {z18 : Int32} {z19 : Int32} (h0 : (0 : Int32) ≤ z1 ∧ z1 ≤ (12 : Int32)) (h1 : 0 ≤ z2) (h2 : z2 ≤ z3) (h3 : z3 ≤ 400) (h4 : 0 ≤ z4 ∧ z4 ≤ z3) (h5 : ¬ z5 = (-1 : Int32)) (h6 : z6 = z5) (h7 : z6 = -1 ∨ (z6 = -2 ∧ z4 < z3) ∨ (0 ≤ z7 ∧ z7 < z1 ∧ 0 ≤ z8 ∧ z8 ≤ 1 ∧ 1 ≤ z9 ∧ z9 ≤ 9 ∧ z4 + z10 ≤ z3 ∧ 1 ≤ z6)) (h8 : ¬ z11 = z12) (h9 : z13 = z11 + (1 : Int32)) (h10 : ¬ z6 = (-2 : Int32)) (h11 : z14 = z7) (h12 : z15 = z9) (h13 : (1 : Int32) ≤ z16 ∧ z16 ≤ (60 : Int32)) (h14 : 0 ≤ z17 ∧ z17 ≤ ((z16 + z15) - (1 : Int32))) (h15 : (1 : Int32) ≤ z17) (h16 : z17 = z10) (h17 : z18 = z4 + z17) (h18 : ¬ z6 = (-2 : Int32)) (h19 : z0 = z7) (h20 : z19 = z8) (h21 : z19 = 0) : 0 ≤ z0 ∧ z0 < z1 := by first | (clear h8 h9; lia) | lia
set_option maxHeartbeats 200000 in
theorem qw327 {z0 : Int32} {z1 : Int32} {z2 : Int32} {z3 : Int32} {z4 : Int32} {z5 : Int32} {z6 : Int32} {z7 : Int32} {z8 : Int32} {z9 : Int32} {z10 : Int32} {z11 : Int32} {z12 : Int32} {z13 : Int32} {z14 : Int32} {z15 : Int32} {z16 : Int32} {z17 : Int32} {z18 : Int32} {z19 : Int32} {z20 : Int32} {z21 : Int32} {z22 : Int32} {z23 : Int32} (h0 : (0 : Int32) ≤ z1 ∧ z1 ≤ (8 : Int32)) (h1 : (0 : Int32) ≤ z2 ∧ z2 ≤ (12 : Int32)) (h2 : 0 ≤ z3) (h3 : z3 ≤ z4) (h4 : z4 ≤ 400) (h5 : 0 ≤ z5) (h6 : z5 < z1) (h7 : 0 ≤ z6 ∧ z6 < z1) (h8 : 0 ≤ z7 ∧ z7 ≤ z4) (h9 : ¬ z8 = (-1 : Int32)) (h10 : z9 = z8) (h11 : z9 = -1 ∨ (z9 = -2 ∧ z7 < z4) ∨ (0 ≤ z10 ∧ z10 < z2 ∧ 0 ≤ z11 ∧ z11 ≤ 1 ∧ 1 ≤ z12 ∧ z12 ≤ 9 ∧ z7 + z13 ≤ z4 ∧ 1 ≤ z9)) (h12 : ¬ z14 = z15) (h13 : z16 = z14 + (1 : Int32)) (h14 : ¬ z9 = (-2 : Int32)) (h15 : z17 = z10) (h16 : z18 = z12) (h17 : (1 : Int32) ≤ z19 ∧ z19 ≤ (60 : Int32)) (h18 : 0 ≤ z20 ∧ z20 ≤ ((z19 + z18) - (1 : Int32))) (h19 : (1 : Int32) ≤ z20) (h20 : z20 = z13) (h21 : z21 = z7 + z20) (h22 : ¬ z9 = (-2 : Int32)) (h23 : z22 = z10) (h24 : z23 = z11) (h25 : z23 = 0) (h26 : (0 : Int32) ≤ z0 ∧ z0 ≤ (7 : Int32)) (h27 : z0 < z1) : 0 ≤ z0 ∧ z0 < z1 := by first | (clear h1 h2 h3 h4 h8 h9 h10 h11 h12 h13 h14 h15 h16 h17 h18 h19 h20 h21 h22 h23 h24 h25; lia) | lia
set_option maxHeartbeats 200000 in
theorem qw328 {z0 : Int32} {z1 : Int32} {z2 : Int32} {z3 : Int32} {z4 : Int32} {z5 : Int32} {z6 : Int32} {z7 : Int32} {z8 : Int32} {z9 : Int32} {z10 : Int32} {z11 : Int32} {z12 : Int32} {z13 : Int32} {z14 : Int32} {z15 : Int32} {z16 : Int32} {z17 : Int32} {z18 : Int32} {z19 : Int32} (h0 : (0 : Int32) ≤ z2 ∧ z2 ≤ (12 : Int32)) (h1 : 0 ≤ z3) (h2 : z3 ≤ z1) (h3 : z1 ≤ 400) (h4 : 0 ≤ z4 ∧ z4 ≤ z1) (h5 : ¬ z5 = (-1 : Int32)) (h6 : z6 = z5) (h7 : z6 = -1 ∨ (z6 = -2 ∧ z4 < z1) ∨ (0 ≤ z7 ∧ z7 < z2 ∧ 0 ≤ z8 ∧ z8 ≤ 1 ∧ 1 ≤ z9 ∧ z9 ≤ 9 ∧ z4 + z10 ≤ z1 ∧ 1 ≤ z6)) (h8 : ¬ z11 = z12) (h9 : z13 = z11 + (1 : Int32)) (h10 : ¬ z6 = (-2 : Int32)) (h11 : z14 = z7) (h12 : z15 = z9) (h13 : (1 : Int32) ≤ z16 ∧ z16 ≤ (60 : Int32)) (h14 : 0 ≤ z17 ∧ z17 ≤ ((z16 + z15) - (1 : Int32))) (h15 : (1 : Int32) ≤ z17) (h16 : z17 = z10) (h17 : z0 = z4 + z17) (h18 : ¬ z6 = (-2 : Int32)) (h19 : z18 = z7) (h20 : z19 = z8) (h21 : z19 = 0) : 0 ≤ z0 ∧ z0 ≤ z1 := by first | (clear h8 h9; lia) | lia
set_option maxHeartbeats 200000 in
theorem qw329 {z0 : Int32} {z1 : Int32} {z2 : Int32} {z3 : Int32} {z4 : Int32} {z5 : Int32} {z6 : Int32} {z7 : Int32} {z8 : Int32} {z9 : Int32} {z10 : Int32} {z11 : Int32} {z12 : Int32} {z13 : Int32} {z14 : Int32} {z15 : Int32} {z16 : Int32} {z17 : Int32} {z18 : Int32} {z19 : Int32} (h0 : (0 : Int32) ≤ z2 ∧ z2 ≤ (12 : Int32)) (h1 : 0 ≤ z3) (h2 : z3 ≤ z4) (h3 : z4 ≤ 400) (h4 : 0 ≤ z0 ∧ z0 ≤ z4) (h5 : ¬ z5 = (-1 : Int32)) (h6 : z6 = z5) (h7 : z6 = -1 ∨ (z6 = -2 ∧ z0 < z4) ∨ (0 ≤ z7 ∧ z7 < z2 ∧ 0 ≤ z8 ∧ z8 ≤ 1 ∧ 1 ≤ z9 ∧ z9 ≤ 9 ∧ z0 + z10 ≤ z4 ∧ 1 ≤ z6)) (h8 : ¬ z11 = z12) (h9 : z13 = z11 + (1 : Int32)) (h10 : ¬ z6 = (-2 : Int32)) (h11 : z14 = z7) (h12 : z15 = z9) (h13 : (1 : Int32) ≤ z16 ∧ z16 ≤ (60 : Int32)) (h14 : 0 ≤ z17 ∧ z17 ≤ ((z16 + z15) - (1 : Int32))) (h15 : (1 : Int32) ≤ z17) (h16 : z17 = z10) (h17 : z1 = z0 + z17) (h18 : ¬ z6 = (-2 : Int32)) (h19 : z18 = z7) (h20 : z19 = z8) (h21 : z19 = 0) : z0 < z1 := by first | (clear h8 h9; lia) | lia
set_option maxHeartbeats 200000 in
theorem qw330 {z0 : Int32} {z1 : Int32} {z2 : Int32} {z3 : Int32} {z4 : Int32} {z5 : Int32} {z6 : Int32} {z7 : Int32} {z8 : Int32} {z9 : Int32} {z10 : Int32} {z11 : Int32} {z12 : Int32} {z13 : Int32} {z14 : Int32} {z15 : Int32} {z16 : Int32} {z17 : Int32} {z18 : Int32} {z19 : Int32} (h0 : (0 : Int32) ≤ z1 ∧ z1 ≤ (12 : Int32)) (h1 : 0 ≤ z2) (h2 : z2 ≤ z3) (h3 : z3 ≤ 400) (h4 : 0 ≤ z0 ∧ z0 ≤ z3) (h5 : ¬ z4 = (-1 : Int32)) (h6 : z5 = z4) (h7 : z5 = -1 ∨ (z5 = -2 ∧ z0 < z3) ∨ (0 ≤ z6 ∧ z6 < z1 ∧ 0 ≤ z7 ∧ z7 ≤ 1 ∧ 1 ≤ z8 ∧ z8 ≤ 9 ∧ z0 + z9 ≤ z3 ∧ 1 ≤ z5)) (h8 : ¬ z10 = z11) (h9 : z12 = z10 + (1 : Int32)) (h10 : ¬ z5 = (-2 : Int32)) (h11 : z13 = z6) (h12 : z14 = z8) (h13 : (1 : Int32) ≤ z15 ∧ z15 ≤ (60 : Int32)) (h14 : 0 ≤ z16 ∧ z16 ≤ ((z15 + z14) - (1 : Int32))) (h15 : (1 : Int32) ≤ z16) (h16 : z16 = z9) (h17 : z17 = z0 + z16) (h18 : ¬ z5 = (-2 : Int32)) (h19 : z18 = z6) (h20 : z19 = z7) (h21 : z19 = 0) : z0 < (401 : Int32) := by first | (clear h8 h9; lia) | lia
set_option maxHeartbeats 200000 in
theorem qw331 {z0 : Int32} {z1 : Int32} {z2 : Int32} {z3 : Int32} {z4 : Int32} {z5 : Int32} {z6 : Int32} {z7 : Int32} {z8 : Int32} {z9 : Int32} {z10 : Int32} {z11 : Int32} {z12 : Int32} {z13 : Int32} {z14 : Int32} {z15 : Int32} {z16 : Int32} {z17 : Int32} {z18 : Int32} {z19 : Int32} {z20 : Int32} (h0 : (0 : Int32) ≤ z1 ∧ z1 ≤ (8 : Int32)) (h1 : (0 : Int32) ≤ z2 ∧ z2 ≤ (12 : Int32)) (h2 : 0 ≤ z3) (h3 : z3 ≤ z4) (h4 : z4 ≤ 400) (h5 : 0 ≤ z5) (h6 : z5 < z1) (h7 : 0 ≤ z0 ∧ z0 < z1) (h8 : 0 ≤ z6 ∧ z6 ≤ z4) (h9 : ¬ z7 = (-1 : Int32)) (h10 : z8 = z7) (h11 : z8 = -1 ∨ (z8 = -2 ∧ z6 < z4) ∨ (0 ≤ z9 ∧ z9 < z2 ∧ 0 ≤ z10 ∧ z10 ≤ 1 ∧ 1 ≤ z11 ∧ z11 ≤ 9 ∧ z6 + z12 ≤ z4 ∧ 1 ≤ z8)) (h12 : ¬ z13 = z14) (h13 : z15 = z13 + (1 : Int32)) (h14 : ¬ z8 = (-2 : Int32)) (h15 : z16 = z9) (h16 : z17 = z11) (h17 : (1 : Int32) ≤ z18 ∧ z18 ≤ (60 : Int32)) (h18 : 0 ≤ z19 ∧ z19 ≤ ((z18 + z17) - (1 : Int32))) (h19 : (1 : Int32) ≤ z19) (h20 : z19 = z12) (h21 : z20 = z6 + z19) (h22 : z8 = (-2 : Int32)) : 0 ≤ z0 ∧ z0 < z1 := by first | (clear h1 h2 h3 h4 h8 h9 h10 h11 h12 h13 h14 h15 h16 h17 h18 h19 h20 h21 h22; lia) | lia
set_option maxHeartbeats 200000 in
theorem qw332 {z0 : Int32} {z1 : Int32} {z2 : Int32} {z3 : Int32} {z4 : Int32} {z5 : Int32} {z6 : Int32} {z7 : Int32} {z8 : Int32} {z9 : Int32} {z10 : Int32} {z11 : Int32} {z12 : Int32} {z13 : Int32} {z14 : Int32} {z15 : Int32} {z16 : Int32} {z17 : Int32} (h0 : (0 : Int32) ≤ z2 ∧ z2 ≤ (12 : Int32)) (h1 : 0 ≤ z3) (h2 : z3 ≤ z1) (h3 : z1 ≤ 400) (h4 : 0 ≤ z4 ∧ z4 ≤ z1) (h5 : ¬ z5 = (-1 : Int32)) (h6 : z6 = z5) (h7 : z6 = -1 ∨ (z6 = -2 ∧ z4 < z1) ∨ (0 ≤ z7 ∧ z7 < z2 ∧ 0 ≤ z8 ∧ z8 ≤ 1 ∧ 1 ≤ z9 ∧ z9 ≤ 9 ∧ z4 + z10 ≤ z1 ∧ 1 ≤ z6)) (h8 : ¬ z11 = z12) (h9 : z13 = z11 + (1 : Int32)) (h10 : ¬ z6 = (-2 : Int32)) (h11 : z14 = z7) (h12 : z15 = z9) (h13 : (1 : Int32) ≤ z16 ∧ z16 ≤ (60 : Int32)) (h14 : 0 ≤ z17 ∧ z17 ≤ ((z16 + z15) - (1 : Int32))) (h15 : (1 : Int32) ≤ z17) (h16 : z17 = z10) (h17 : z0 = z4 + z17) (h18 : z6 = (-2 : Int32)) : 0 ≤ z0 ∧ z0 ≤ z1 := by first | (clear h8 h9; lia) | lia
set_option maxHeartbeats 200000 in
theorem qw333 {z0 : Int32} {z1 : Int32} {z2 : Int32} {z3 : Int32} {z4 : Int32} {z5 : Int32} {z6 : Int32} {z7 : Int32} {z8 : Int32} {z9 : Int32} {z10 : Int32} {z11 : Int32} {z12 : Int32} {z13 : Int32} {z14 : Int32} {z15 : Int32} {z16 : Int32} {z17 : Int32} (h0 : (0 : Int32) ≤ z2 ∧ z2 ≤ (12 : Int32)) (h1 : 0 ≤ z3) (h2 : z3 ≤ z4) (h3 : z4 ≤ 400) (h4 : 0 ≤ z0 ∧ z0 ≤ z4) (h5 : ¬ z5 = (-1 : Int32)) (h6 : z6 = z5) (h7 : z6 = -1 ∨ (z6 = -2 ∧ z0 < z4) ∨ (0 ≤ z7 ∧ z7 < z2 ∧ 0 ≤ z8 ∧ z8 ≤ 1 ∧ 1 ≤ z9 ∧ z9 ≤ 9 ∧ z0 + z10 ≤ z4 ∧ 1 ≤ z6)) (h8 : ¬ z11 = z12) (h9 : z13 = z11 + (1 : Int32)) (h10 : ¬ z6 = (-2 : Int32)) (h11 : z14 = z7) (h12 : z15 = z9) (h13 : (1 : Int32) ≤ z16 ∧ z16 ≤ (60 : Int32)) (h14 : 0 ≤ z17 ∧ z17 ≤ ((z16 + z15) - (1 : Int32))) (h15 : (1 : Int32) ≤ z17) (h16 : z17 = z10) (h17 : z1 = z0 + z17) (h18 : z6 = (-2 : Int32)) : z0 < z1 := by first | (clear h8 h9; lia) | lia
set_option maxHeartbeats 200000 in
theorem qw334 {z0 : Int32} {z1 : Int32} {z2 : Int32} {z3 : Int32} {z4 : Int32} {z5 : Int32} {z6 : Int32} {z7 : Int32} {z8 : Int32} {z9 : Int32} {z10 : Int32} {z11 : Int32} {z12 : Int32} {z13 : Int32} {z14 : Int32} {z15 : Int32} {z16 : Int32} {z17 : Int32} (h0 : (0 : Int32) ≤ z1 ∧ z1 ≤ (12 : Int32)) (h1 : 0 ≤ z2) (h2 : z2 ≤ z3) (h3 : z3 ≤ 400) (h4 : 0 ≤ z0 ∧ z0 ≤ z3) (h5 : ¬ z4 = (-1 : Int32)) (h6 : z5 = z4) (h7 : z5 = -1 ∨ (z5 = -2 ∧ z0 < z3) ∨ (0 ≤ z6 ∧ z6 < z1 ∧ 0 ≤ z7 ∧ z7 ≤ 1 ∧ 1 ≤ z8 ∧ z8 ≤ 9 ∧ z0 + z9 ≤ z3 ∧ 1 ≤ z5)) (h8 : ¬ z10 = z11) (h9 : z12 = z10 + (1 : Int32)) (h10 : ¬ z5 = (-2 : Int32)) (h11 : z13 = z6) (h12 : z14 = z8) (h13 : (1 : Int32) ≤ z15 ∧ z15 ≤ (60 : Int32)) (h14 : 0 ≤ z16 ∧ z16 ≤ ((z15 + z14) - (1 : Int32))) (h15 : (1 : Int32) ≤ z16) (h16 : z16 = z9) (h17 : z17 = z0 + z16) (h18 : z5 = (-2 : Int32)) : z0 < (401 : Int32) := by first | (clear h8 h9; lia) | lia
set_option maxHeartbeats 200000 in
theorem qw335 {z0 : Int32} {z1 : Int32} {z2 : Int32} {z3 : Int32} {z4 : Int32} {z5 : Int32} {z6 : Int32} {z7 : Int32} {z8 : Int32} {z9 : Int32} {z10 : Int32} {z11 : Int32} {z12 : Int32} {z13 : Int32} (h0 : (0 : Int32) ≤ z1 ∧ z1 ≤ (12 : Int32)) (h1 : 0 ≤ z2) (h2 : z2 ≤ z3) (h3 : z3 ≤ 400) (h4 : 0 ≤ z4 ∧ z4 ≤ z3) (h5 : ¬ z5 = (-1 : Int32)) (h6 : z0 = z5) (h7 : z0 = -1 ∨ (z0 = -2 ∧ z4 < z3) ∨ (0 ≤ z6 ∧ z6 < z1 ∧ 0 ≤ z7 ∧ z7 ≤ 1 ∧ 1 ≤ z8 ∧ z8 ≤ 9 ∧ z4 + z9 ≤ z3 ∧ 1 ≤ z0)) (h8 : ¬ z10 = z11) (h9 : z12 = z10 + (1 : Int32)) (h10 : z0 = (-2 : Int32)) (h11 : z13 = z4 + (1 : Int32)) (h12 : ¬ z0 = (-2 : Int32)) : ¬ z0 = -1 := by first | (clear h8 h9; lia) | lia
set_option maxHeartbeats 200000 in
theorem qw336 {z0 : Int32} {z1 : Int32} {z2 : Int32} {z3 : Int32} {z4 : Int32} {z5 : Int32} {z6 : Int32} {z7 : Int32} {z8 : Int32} {z9 : Int32} {z10 : Int32} {z11 : Int32} {z12 : Int32} {z13 : Int32} (h0 : (0 : Int32) ≤ z1 ∧ z1 ≤ (12 : Int32)) (h1 : 0 ≤ z2) (h2 : z2 ≤ z3) (h3 : z3 ≤ 400) (h4 : 0 ≤ z4 ∧ z4 ≤ z3) (h5 : ¬ z5 = (-1 : Int32)) (h6 : z0 = z5) (h7 : z0 = -1 ∨ (z0 = -2 ∧ z4 < z3) ∨ (0 ≤ z6 ∧ z6 < z1 ∧ 0 ≤ z7 ∧ z7 ≤ 1 ∧ 1 ≤ z8 ∧ z8 ≤ 9 ∧ z4 + z9 ≤ z3 ∧ 1 ≤ z0)) (h8 : ¬ z10 = z11) (h9 : z12 = z10 + (1 : Int32)) (h10 : z0 = (-2 : Int32)) (h11 : z13 = z4 + (1 : Int32)) (h12 : ¬ z0 = (-2 : Int32)) : ¬ z0 = -2 := by first | (clear h8 h9; lia) | lia
set_option maxHeartbeats 200000 in
theorem qw337 {z0 : Int32} {z1 : Int32} {z2 : Int32} {z3 : Int32} {z4 : Int32} {z5 : Int32} {z6 : Int32} {z7 : Int32} {z8 : Int32} {z9 : Int32} {z10 : Int32} {z11 : Int32} {z12 : Int32} {z13 : Int32} (h0 : (0 : Int32) ≤ z1 ∧ z1 ≤ (12 : Int32)) (h1 : 0 ≤ z2) (h2 : z2 ≤ z3) (h3 : z3 ≤ 400) (h4 : 0 ≤ z4 ∧ z4 ≤ z3) (h5 : ¬ z5 = (-1 : Int32)) (h6 : z6 = z5) (h7 : z6 = -1 ∨ (z6 = -2 ∧ z4 < z3) ∨ (0 ≤ z0 ∧ z0 < z1 ∧ 0 ≤ z7 ∧ z7 ≤ 1 ∧ 1 ≤ z8 ∧ z8 ≤ 9 ∧ z4 + z9 ≤ z3 ∧ 1 ≤ z6)) (h8 : ¬ z10 = z11) (h9 : z12 = z10 + (1 : Int32)) (h10 : z6 = (-2 : Int32)) (h11 : z13 = z4 + (1 : Int32)) (h12 : ¬ z6 = (-2 : Int32)) : 0 ≤ z0 ∧ z0 ≤ (11 : Int32) := by first | (clear h8 h9; lia) | lia
set_option maxHeartbeats 200000 in
theorem qw338 {z0 : Int32} {z1 : Int32} {z2 : Int32} {z3 : Int32} {z4 : Int32} {z5 : Int32} {z6 : Int32} {z7 : Int32} {z8 : Int32} {z9 : Int32} {z10 : Int32} {z11 : Int32} {z12 : Int32} {z13 : Int32} (h0 : (0 : Int32) ≤ z1 ∧ z1 ≤ (12 : Int32)) (h1 : 0 ≤ z2) (h2 : z2 ≤ z3) (h3 : z3 ≤ 400) (h4 : 0 ≤ z4 ∧ z4 ≤ z3) (h5 : ¬ z5 = (-1 : Int32)) (h6 : z6 = z5) (h7 : z6 = -1 ∨ (z6 = -2 ∧ z4 < z3) ∨ (0 ≤ z7 ∧ z7 < z1 ∧ 0 ≤ z0 ∧ z0 ≤ 1 ∧ 1 ≤ z8 ∧ z8 ≤ 9 ∧ z4 + z9 ≤ z3 ∧ 1 ≤ z6)) (h8 : ¬ z10 = z11) (h9 : z12 = z10 + (1 : Int32)) (h10 : z6 = (-2 : Int32)) (h11 : z13 = z4 + (1 : Int32)) (h12 : ¬ z6 = (-2 : Int32)) : 0 ≤ z0 ∧ z0 ≤ (1 : Int32) := by first | (clear h8 h9; lia) | lia
set_option maxHeartbeats 200000 in
theorem qw339 {z0 : Int32} {z1 : Int32} {z2 : Int32} {z3 : Int32} {z4 : Int32} {z5 : Int32} {z6 : Int32} {z7 : Int32} {z8 : Int32} {z9 : Int32} {z10 : Int32} {z11 : Int32} {z12 : Int32} {z13 : Int32} (h0 : (0 : Int32) ≤ z1 ∧ z1 ≤ (12 : Int32)) (h1 : 0 ≤ z2) (h2 : z2 ≤ z3) (h3 : z3 ≤ 400) (h4 : 0 ≤ z4 ∧ z4 ≤ z3) (h5 : ¬ z5 = (-1 : Int32)) (h6 : z6 = z5) (h7 : z6 = -1 ∨ (z6 = -2 ∧ z4 < z3) ∨ (0 ≤ z7 ∧ z7 < z1 ∧ 0 ≤ z8 ∧ z8 ≤ 1 ∧ 1 ≤ z0 ∧ z0 ≤ 9 ∧ z4 + z9 ≤ z3 ∧ 1 ≤ z6)) (h8 : ¬ z10 = z11) (h9 : z12 = z10 + (1 : Int32)) (h10 : z6 = (-2 : Int32)) (h11 : z13 = z4 + (1 : Int32)) (h12 : ¬ z6 = (-2 : Int32)) : (1 : Int32) ≤ z0 ∧ z0 ≤ (9 : Int32) := by first | (clear h8 h9; lia) | lia
set_option maxHeartbeats 200000 in
theorem qw340 {z0 : Int32} {z1 : Int32} {z2 : Int32} {z3 : Int32} {z4 : Int32} {z5 : Int32} {z6 : Int32} {z7 : Int32} {z8 : Int32} {z9 : Int32} {z10 : Int32} {z11 : Int32} {z12 : Int32} {z13 : Int32} {z14 : Int32} (h0 : (0 : Int32) ≤ z1 ∧ z1 ≤ (12 : Int32)) (h1 : 0 ≤ z2) (h2 : z2 ≤ z3) (h3 : z3 ≤ 400) (h4 : 0 ≤ z4 ∧ z4 ≤ z3) (h5 : ¬ z5 = (-1 : Int32)) (h6 : z0 = z5) (h7 : z0 = -1 ∨ (z0 = -2 ∧ z4 < z3) ∨ (0 ≤ z6 ∧ z6 < z1 ∧ 0 ≤ z7 ∧ z7 ≤ 1 ∧ 1 ≤ z8 ∧ z8 ≤ 9 ∧ z4 + z9 ≤ z3 ∧ 1 ≤ z0)) (h8 : ¬ z10 = z11) (h9 : z12 = z10 + (1 : Int32)) (h10 : z0 = (-2 : Int32)) (h11 : z13 = z4 + (1 : Int32)) (h12 : ¬ z0 = (-2 : Int32)) (h13 : z14 = z6) : ¬ z0 = -1 := by first | (clear h8 h9; lia) | lia
set_option maxHeartbeats 200000 in
theorem qw341 {z0 : Int32} {z1 : Int32} {z2 : Int32} {z3 : Int32} {z4 : Int32} {z5 : Int32} {z6 : Int32} {z7 : Int32} {z8 : Int32} {z9 : Int32} {z10 : Int32} {z11 : Int32} {z12 : Int32} {z13 : Int32} {z14 : Int32} (h0 : (0 : Int32) ≤ z1 ∧ z1 ≤ (12 : Int32)) (h1 : 0 ≤ z2) (h2 : z2 ≤ z3) (h3 : z3 ≤ 400) (h4 : 0 ≤ z4 ∧ z4 ≤ z3) (h5 : ¬ z5 = (-1 : Int32)) (h6 : z0 = z5) (h7 : z0 = -1 ∨ (z0 = -2 ∧ z4 < z3) ∨ (0 ≤ z6 ∧ z6 < z1 ∧ 0 ≤ z7 ∧ z7 ≤ 1 ∧ 1 ≤ z8 ∧ z8 ≤ 9 ∧ z4 + z9 ≤ z3 ∧ 1 ≤ z0)) (h8 : ¬ z10 = z11) (h9 : z12 = z10 + (1 : Int32)) (h10 : z0 = (-2 : Int32)) (h11 : z13 = z4 + (1 : Int32)) (h12 : ¬ z0 = (-2 : Int32)) (h13 : z14 = z6) : ¬ z0 = -2 := by first | (clear h8 h9; lia) | lia
set_option maxHeartbeats 200000 in
theorem qw342 {z0 : Int32} {z1 : Int32} {z2 : Int32} {z3 : Int32} {z4 : Int32} {z5 : Int32} {z6 : Int32} {z7 : Int32} {z8 : Int32} {z9 : Int32} {z10 : Int32} {z11 : Int32} {z12 : Int32} {z13 : Int32} {z14 : Int32} (h0 : (0 : Int32) ≤ z1 ∧ z1 ≤ (12 : Int32)) (h1 : 0 ≤ z2) (h2 : z2 ≤ z3) (h3 : z3 ≤ 400) (h4 : 0 ≤ z4 ∧ z4 ≤ z3) (h5 : ¬ z5 = (-1 : Int32)) (h6 : z6 = z5) (h7 : z6 = -1 ∨ (z6 = -2 ∧ z4 < z3) ∨ (0 ≤ z0 ∧ z0 < z1 ∧ 0 ≤ z7 ∧ z7 ≤ 1 ∧ 1 ≤ z8 ∧ z8 ≤ 9 ∧ z4 + z9 ≤ z3 ∧ 1 ≤ z6)) (h8 : ¬ z10 = z11) (h9 : z12 = z10 + (1 : Int32)) (h10 : z6 = (-2 : Int32)) (h11 : z13 = z4 + (1 : Int32)) (h12 : ¬ z6 = (-2 : Int32)) (h13 : z14 = z0) : 0 ≤ z0 ∧ z0 ≤ (11 : Int32) := by first | (clear h8 h9; lia) | lia
set_option maxHeartbeats 200000 in
theorem qw343 {z0 : Int32} {z1 : Int32} {z2 : Int32} {z3 : Int32} {z4 : Int32} {z5 : Int32} {z6 : Int32} {z7 : Int32} {z8 : Int32} {z9 : Int32} {z10 : Int32} {z11 : Int32} {z12 : Int32} {z13 : Int32} {z14 : Int32} (h0 : (0 : Int32) ≤ z1 ∧ z1 ≤ (12 : Int32)) (h1 : 0 ≤ z2) (h2 : z2 ≤ z3) (h3 : z3 ≤ 400) (h4 : 0 ≤ z4 ∧ z4 ≤ z3) (h5 : ¬ z5 = (-1 : Int32)) (h6 : z6 = z5) (h7 : z6 = -1 ∨ (z6 = -2 ∧ z4 < z3) ∨ (0 ≤ z7 ∧ z7 < z1 ∧ 0 ≤ z0 ∧ z0 ≤ 1 ∧ 1 ≤ z8 ∧ z8 ≤ 9 ∧ z4 + z9 ≤ z3 ∧ 1 ≤ z6)) (h8 : ¬ z10 = z11) (h9 : z12 = z10 + (1 : Int32)) (h10 : z6 = (-2 : Int32)) (h11 : z13 = z4 + (1 : Int32)) (h12 : ¬ z6 = (-2 : Int32)) (h13 : z14 = z7) : 0 ≤ z0 ∧ z0 ≤ (1 : Int32) := by first | (clear h8 h9; lia) | lia
set_option maxHeartbeats 200000 in
theorem qw344 {z0 : Int32} {z1 : Int32} {z2 : Int32} {z3 : Int32} {z4 : Int32} {z5 : Int32} {z6 : Int32} {z7 : Int32} {z8 : Int32} {z9 : Int32} {z10 : Int32} {z11 : Int32} {z12 : Int32} {z13 : Int32} {z14 : Int32} (h0 : (0 : Int32) ≤ z1 ∧ z1 ≤ (12 : Int32)) (h1 : 0 ≤ z2) (h2 : z2 ≤ z3) (h3 : z3 ≤ 400) (h4 : 0 ≤ z4 ∧ z4 ≤ z3) (h5 : ¬ z5 = (-1 : Int32)) (h6 : z6 = z5) (h7 : z6 = -1 ∨ (z6 = -2 ∧ z4 < z3) ∨ (0 ≤ z7 ∧ z7 < z1 ∧ 0 ≤ z8 ∧ z8 ≤ 1 ∧ 1 ≤ z0 ∧ z0 ≤ 9 ∧ z4 + z9 ≤ z3 ∧ 1 ≤ z6)) (h8 : ¬ z10 = z11) (h9 : z12 = z10 + (1 : Int32)) (h10 : z6 = (-2 : Int32)) (h11 : z13 = z4 + (1 : Int32)) (h12 : ¬ z6 = (-2 : Int32)) (h13 : z14 = z7) : (1 : Int32) ≤ z0 ∧ z0 ≤ (9 : Int32) := by first | (clear h8 h9; lia) | lia
set_option maxHeartbeats 200000 in
theorem qw345 {z0 : Int32} {z1 : Int32} {z2 : Int32} {z3 : Int32} {z4 : Int32} {z5 : Int32} {z6 : Int32} {z7 : Int32} {z8 : Int32} {z9 : Int32} {z10 : Int32} {z11 : Int32} {z12 : Int32} {z13 : Int32} {z14 : Int32} {z15 : Int32} (h0 : (0 : Int32) ≤ z1 ∧ z1 ≤ (12 : Int32)) (h1 : 0 ≤ z2) (h2 : z2 ≤ z3) (h3 : z3 ≤ 400) (h4 : 0 ≤ z4 ∧ z4 ≤ z3) (h5 : ¬ z5 = (-1 : Int32)) (h6 : z6 = z5) (h7 : z6 = -1 ∨ (z6 = -2 ∧ z4 < z3) ∨ (0 ≤ z7 ∧ z7 < z1 ∧ 0 ≤ z8 ∧ z8 ≤ 1 ∧ 1 ≤ z9 ∧ z9 ≤ 9 ∧ z4 + z10 ≤ z3 ∧ 1 ≤ z6)) (h8 : ¬ z11 = z12) (h9 : z13 = z11 + (1 : Int32)) (h10 : z6 = (-2 : Int32)) (h11 : z14 = z4 + (1 : Int32)) (h12 : ¬ z6 = (-2 : Int32)) (h13 : z0 = z7) (h14 : z15 = z8) (h15 : ¬ z15 = 0) : 0 ≤ z0 ∧ z0 < (12 : Int32) := by first | (clear h8 h9; lia) | lia
set_option maxHeartbeats 200000 in
theorem qw346 {z0 : Int32} {z1 : Int32} {z2 : Int32} {z3 : Int32} {z4 : Int32} {z5 : Int32} {z6 : Int32} {z7 : Int32} {z8 : Int32} {z9 : Int32} {z10 : Int32} {z11 : Int32} {z12 : Int32} {z13 : Int32} {z14 : Int32} {z15 : Int32} (h0 : (0 : Int32) ≤ z1 ∧ z1 ≤ (12 : Int32)) (h1 : 0 ≤ z2) (h2 : z2 ≤ z3) (h3 : z3 ≤ 400) (h4 : 0 ≤ z4 ∧ z4 ≤ z3) (h5 : ¬ z5 = (-1 : Int32)) (h6 : z6 = z5) (h7 : z6 = -1 ∨ (z6 = -2 ∧ z4 < z3) ∨ (0 ≤ z7 ∧ z7 < z1 ∧ 0 ≤ z8 ∧ z8 ≤ 1 ∧ 1 ≤ z9 ∧ z9 ≤ 9 ∧ z4 + z10 ≤ z3 ∧ 1 ≤ z6)) (h8 : ¬ z11 = z12) (h9 : z13 = z11 + (1 : Int32)) (h10 : z6 = (-2 : Int32)) (h11 : z14 = z4 + (1 : Int32)) (h12 : ¬ z6 = (-2 : Int32)) (h13 : z0 = z7) (h14 : z15 = z8) (h15 : ¬ z15 = 0) : 0 ≤ z0 ∧ z0 < z1 := by first | (clear h8 h9; lia) | lia
set_option maxHeartbeats 200000 in
theorem qw347 {z0 : Int32} {z1 : Int32} {z2 : Int32} {z3 : Int32} {z4 : Int32} {z5 : Int32} {z6 : Int32} {z7 : Int32} {z8 : Int32} {z9 : Int32} {z10 : Int32} {z11 : Int32} {z12 : Int32} {z13 : Int32} {z14 : Int32} {z15 : Int32} {z16 : Int32} {z17 : Int32} {z18 : Int32} {z19 : Int32} (h0 : (0 : Int32) ≤ z1 ∧ z1 ≤ (8 : Int32)) (h1 : (0 : Int32) ≤ z2 ∧ z2 ≤ (12 : Int32)) (h2 : 0 ≤ z3) (h3 : z3 ≤ z4) (h4 : z4 ≤ 400) (h5 : 0 ≤ z5) (h6 : z5 < z1) (h7 : 0 ≤ z6 ∧ z6 < z1) (h8 : 0 ≤ z7 ∧ z7 ≤ z4) (h9 : ¬ z8 = (-1 : Int32)) (h10 : z9 = z8) (h11 : z9 = -1 ∨ (z9 = -2 ∧ z7 < z4) ∨ (0 ≤ z10 ∧ z10 < z2 ∧ 0 ≤ z11 ∧ z11 ≤ 1 ∧ 1 ≤ z12 ∧ z12 ≤ 9 ∧ z7 + z13 ≤ z4 ∧ 1 ≤ z9)) (h12 : ¬ z14 = z15) (h13 : z16 = z14 + (1 : Int32)) (h14 : z9 = (-2 : Int32)) (h15 : z17 = z7 + (1 : Int32)) (h16 : ¬ z9 = (-2 : Int32)) (h17 : z18 = z10) (h18 : z19 = z11) (h19 : ¬ z19 = 0) (h20 : (0 : Int32) ≤ z0 ∧ z0 ≤ (7 : Int32)) (h21 : z0 < z1) : 0 ≤ z0 ∧ z0 < z1 := by first | (clear h1 h2 h3 h4 h8 h9 h10 h11 h12 h13 h14 h15 h16 h17 h18 h19; lia) | lia
set_option maxHeartbeats 200000 in
theorem qw348 {z0 : Int32} {z1 : Int32} {z2 : Int32} {z3 : Int32} {z4 : Int32} {z5 : Int32} {z6 : Int32} {z7 : Int32} {z8 : Int32} {z9 : Int32} {z10 : Int32} {z11 : Int32} {z12 : Int32} {z13 : Int32} {z14 : Int32} {z15 : Int32} (h0 : (0 : Int32) ≤ z2 ∧ z2 ≤ (12 : Int32)) (h1 : 0 ≤ z3) (h2 : z3 ≤ z1) (h3 : z1 ≤ 400) (h4 : 0 ≤ z4 ∧ z4 ≤ z1) (h5 : ¬ z5 = (-1 : Int32)) (h6 : z6 = z5) (h7 : z6 = -1 ∨ (z6 = -2 ∧ z4 < z1) ∨ (0 ≤ z7 ∧ z7 < z2 ∧ 0 ≤ z8 ∧ z8 ≤ 1 ∧ 1 ≤ z9 ∧ z9 ≤ 9 ∧ z4 + z10 ≤ z1 ∧ 1 ≤ z6)) (h8 : ¬ z11 = z12) (h9 : z13 = z11 + (1 : Int32)) (h10 : z6 = (-2 : Int32)) (h11 : z0 = z4 + (1 : Int32)) (h12 : ¬ z6 = (-2 : Int32)) (h13 : z14 = z7) (h14 : z15 = z8) (h15 : ¬ z15 = 0) : 0 ≤ z0 ∧ z0 ≤ z1 := by first | (clear h8 h9; lia) | lia
set_option maxHeartbeats 200000 in
theorem qw349 {z0 : Int32} {z1 : Int32} {z2 : Int32} {z3 : Int32} {z4 : Int32} {z5 : Int32} {z6 : Int32} {z7 : Int32} {z8 : Int32} {z9 : Int32} {z10 : Int32} {z11 : Int32} {z12 : Int32} {z13 : Int32} {z14 : Int32} {z15 : Int32} (h0 : (0 : Int32) ≤ z2 ∧ z2 ≤ (12 : Int32)) (h1 : 0 ≤ z3) (h2 : z3 ≤ z4) (h3 : z4 ≤ 400) (h4 : 0 ≤ z0 ∧ z0 ≤ z4) (h5 : ¬ z5 = (-1 : Int32)) (h6 : z6 = z5) (h7 : z6 = -1 ∨ (z6 = -2 ∧ z0 < z4) ∨ (0 ≤ z7 ∧ z7 < z2 ∧ 0 ≤ z8 ∧ z8 ≤ 1 ∧ 1 ≤ z9 ∧ z9 ≤ 9 ∧ z0 + z10 ≤ z4 ∧ 1 ≤ z6)) (h8 : ¬ z11 = z12) (h9 : z13 = z11 + (1 : Int32)) (h10 : z6 = (-2 : Int32)) (h11 : z1 = z0 + (1 : Int32)) (h12 : ¬ z6 = (-2 : Int32)) (h13 : z14 = z7) (h14 : z15 = z8) (h15 : ¬ z15 = 0) : z0 < z1 := by first | (clear h8 h9; lia) | lia
set_option maxHeartbeats 200000 in
theorem qw350 {z0 : Int32} {z1 : Int32} {z2 : Int32} {z3 : Int32} {z4 : Int32} {z5 : Int32} {z6 : Int32} {z7 : Int32} {z8 : Int32} {z9 : Int32} {z10 : Int32} {z11 : Int32} {z12 : Int32} {z13 : Int32} {z14 : Int32} {z15 : Int32} (h0 : (0 : Int32) ≤ z1 ∧ z1 ≤ (12 : Int32)) (h1 : 0 ≤ z2) (h2 : z2 ≤ z3) (h3 : z3 ≤ 400) (h4 : 0 ≤ z0 ∧ z0 ≤ z3) (h5 : ¬ z4 = (-1 : Int32)) (h6 : z5 = z4) (h7 : z5 = -1 ∨ (z5 = -2 ∧ z0 < z3) ∨ (0 ≤ z6 ∧ z6 < z1 ∧ 0 ≤ z7 ∧ z7 ≤ 1 ∧ 1 ≤ z8 ∧ z8 ≤ 9 ∧ z0 + z9 ≤ z3 ∧ 1 ≤ z5)) (h8 : ¬ z10 = z11) (h9 : z12 = z10 + (1 : Int32)) (h10 : z5 = (-2 : Int32)) (h11 : z13 = z0 + (1 : Int32)) (h12 : ¬ z5 = (-2 : Int32)) (h13 : z14 = z6) (h14 : z15 = z7) (h15 : ¬ z15 = 0) : z0 < (401 : Int32) := by first | (clear h8 h9; lia) | lia
set_option maxHeartbeats 200000 in
theorem qw351 {z0 : Int32} {z1 : Int32} {z2 : Int32} {z3 : Int32} {z4 : Int32} {z5 : Int32} {z6 : Int32} {z7 : Int32} {z8 : Int32} {z9 : Int32} {z10 : Int32} {z11 : Int32} {z12 : Int32} {z13 : Int32} {z14 : Int32} {z15 : Int32} (h0 : (0 : Int32) ≤ z1 ∧ z1 ≤ (12 : Int32)) (h1 : 0 ≤ z2) (h2 : z2 ≤ z3) (h3 : z3 ≤ 400) (h4 : 0 ≤ z4 ∧ z4 ≤ z3) (h5 : ¬ z5 = (-1 : Int32)) (h6 : z6 = z5) (h7 : z6 = -1 ∨ (z6 = -2 ∧ z4 < z3) ∨ (0 ≤ z7 ∧ z7 < z1 ∧ 0 ≤ z8 ∧ z8 ≤ 1 ∧ 1 ≤ z9 ∧ z9 ≤ 9 ∧ z4 + z10 ≤ z3 ∧ 1 ≤ z6)) (h8 : ¬ z11 = z12) (h9 : z13 = z11 + (1 : Int32)) (h10 : z6 = (-2 : Int32)) (h11 : z14 = z4 + (1 : Int32)) (h12 : ¬ z6 = (-2 : Int32)) (h13 : z0 = z7) (h14 : z15 = z8) (h15 : z15 = 0) : 0 ≤ z0 ∧ z0 < (12 : Int32) := by first | (clear h8 h9; lia) | lia
set_option maxHeartbeats 200000 in
theorem qw352 {z0 : Int32} {z1 : Int32} {z2 : Int32} {z3 : Int32} {z4 : Int32} {z5 : Int32} {z6 : Int32} {z7 : Int32} {z8 : Int32} {z9 : Int32} {z10 : Int32} {z11 : Int32} {z12 : Int32} {z13 : Int32} {z14 : Int32} {z15 : Int32} (h0 : (0 : Int32) ≤ z1 ∧ z1 ≤ (12 : Int32)) (h1 : 0 ≤ z2) (h2 : z2 ≤ z3) (h3 : z3 ≤ 400) (h4 : 0 ≤ z4 ∧ z4 ≤ z3) (h5 : ¬ z5 = (-1 : Int32)) (h6 : z6 = z5) (h7 : z6 = -1 ∨ (z6 = -2 ∧ z4 < z3) ∨ (0 ≤ z7 ∧ z7 < z1 ∧ 0 ≤ z8 ∧ z8 ≤ 1 ∧ 1 ≤ z9 ∧ z9 ≤ 9 ∧ z4 + z10 ≤ z3 ∧ 1 ≤ z6)) (h8 : ¬ z11 = z12) (h9 : z13 = z11 + (1 : Int32)) (h10 : z6 = (-2 : Int32)) (h11 : z14 = z4 + (1 : Int32)) (h12 : ¬ z6 = (-2 : Int32)) (h13 : z0 = z7) (h14 : z15 = z8) (h15 : z15 = 0) : 0 ≤ z0 ∧ z0 < z1 := by first | (clear h8 h9; lia) | lia
set_option maxHeartbeats 200000 in
theorem qw353 {z0 : Int32} {z1 : Int32} {z2 : Int32} {z3 : Int32} {z4 : Int32} {z5 : Int32} {z6 : Int32} {z7 : Int32} {z8 : Int32} {z9 : Int32} {z10 : Int32} {z11 : Int32} {z12 : Int32} {z13 : Int32} {z14 : Int32} {z15 : Int32} {z16 : Int32} {z17 : Int32} {z18 : Int32} {z19 : Int32} (h0 : (0 : Int32) ≤ z1 ∧ z1 ≤ (8 : Int32)) (h1 : (0 : Int32) ≤ z2 ∧ z2 ≤ (12 : Int32)) (h2 : 0 ≤ z3) (h3 : z3 ≤ z4) (h4 : z4 ≤ 400) (h5 : 0 ≤ z5) (h6 : z5 < z1) (h7 : 0 ≤ z6 ∧ z6 < z1) (h8 : 0 ≤ z7 ∧ z7 ≤ z4) (h9 : ¬ z8 = (-1 : Int32)) (h10 : z9 = z8) (h11 : z9 = -1 ∨ (z9 = -2 ∧ z7 < z4) ∨ (0 ≤ z10 ∧ z10 < z2 ∧ 0 ≤ z11 ∧ z11 ≤ 1 ∧ 1 ≤ z12 ∧ z12 ≤ 9 ∧ z7 + z13 ≤ z4 ∧ 1 ≤ z9)) (h12 : ¬ z14 = z15) (h13 : z16 = z14 + (1 : Int32)) (h14 : z9 = (-2 : Int32)) (h15 : z17 = z7 + (1 : Int32)) (h16 : ¬ z9 = (-2 : Int32)) (h17 : z18 = z10) (h18 : z19 = z11) (h19 : z19 = 0) (h20 : (0 : Int32) ≤ z0 ∧ z0 ≤ (7 : Int32)) (h21 : z0 < z1) : 0 ≤ z0 ∧ z0 < z1 := by first | (clear h1 h2 h3 h4 h8 h9 h10 h11 h12 h13 h14 h15 h16 h17 h18 h19; lia) | lia
set_option maxHeartbeats 200000 in
theorem qw354 {z0 : Int32} {z1 : Int32} {z2 : Int32} {z3 : Int32} {z4 : Int32} {z5 : Int32} {z6 : Int32} {z7 : Int32} {z8 : Int32} {z9 : Int32} {z10 : Int32} {z11 : Int32} {z12 : Int32} {z13 : Int32} {z14 : Int32} {z15 : Int32} (h0 : (0 : Int32) ≤ z2 ∧ z2 ≤ (12 : Int32)) (h1 : 0 ≤ z3) (h2 : z3 ≤ z1) (h3 : z1 ≤ 400) (h4 : 0 ≤ z4 ∧ z4 ≤ z1) (h5 : ¬ z5 = (-1 : Int32)) (h6 : z6 = z5) (h7 : z6 = -1 ∨ (z6 = -2 ∧ z4 < z1) ∨ (0 ≤ z7 ∧ z7 < z2 ∧ 0 ≤ z8 ∧ z8 ≤ 1 ∧ 1 ≤ z9 ∧ z9 ≤ 9 ∧ z4 + z10 ≤ z1 ∧ 1 ≤ z6)) (h8 : ¬ z11 = z12) (h9 : z13 = z11 + (1 : Int32)) (h10 : z6 = (-2 : Int32)) (h11 : z0 = z4 + (1 : Int32)) (h12 : ¬ z6 = (-2 : Int32)) (h13 : z14 = z7) (h14 : z15 = z8) (h15 : z15 = 0) : 0 ≤ z0 ∧ z0 ≤ z1 := by first | (clear h8 h9; lia) | lia
set_option maxHeartbeats 200000 in
theorem qw355 {z0 : Int32} {z1 : Int32} {z2 : Int32} {z3 : Int32} {z4 : Int32} {z5 : Int32} {z6 : Int32} {z7 : Int32} {z8 : Int32} {z9 : Int32} {z10 : Int32} {z11 : Int32} {z12 : Int32} {z13 : Int32} {z14 : Int32} {z15 : Int32} (h0 : (0 : Int32) ≤ z2 ∧ z2 ≤ (12 : Int32)) (h1 : 0 ≤ z3) (h2 : z3 ≤ z4) (h3 : z4 ≤ 400) (h4 : 0 ≤ z0 ∧ z0 ≤ z4) (h5 : ¬ z5 = (-1 : Int32)) (h6 : z6 = z5) (h7 : z6 = -1 ∨ (z6 = -2 ∧ z0 < z4) ∨ (0 ≤ z7 ∧ z7 < z2 ∧ 0 ≤ z8 ∧ z8 ≤ 1 ∧ 1 ≤ z9 ∧ z9 ≤ 9 ∧ z0 + z10 ≤ z4 ∧ 1 ≤ z6)) (h8 : ¬ z11 = z12) (h9 : z13 = z11 + (1 : Int32)) (h10 : z6 = (-2 : Int32)) (h11 : z1 = z0 + (1 : Int32)) (h12 : ¬ z6 = (-2 : Int32)) (h13 : z14 = z7) (h14 : z15 = z8) (h15 : z15 = 0) : z0 < z1 := by first | (clear h8 h9; lia) | lia
set_option maxHeartbeats 200000 in
theorem qw356 {z0 : Int32} {z1 : Int32} {z2 : Int32} {z3 : Int32} {z4 : Int32} {z5 : Int32} {z6 : Int32} {z7 : Int32} {z8 : Int32} {z9 : Int32} {z10 : Int32} {z11 : Int32} {z12 : Int32} {z13 : Int32} {z14 : Int32} {z15 : Int32} (h0 : (0 : Int32) ≤ z1 ∧ z1 ≤ (12 : Int32)) (h1 : 0 ≤ z2) (h2 : z2 ≤ z3) (h3 : z3 ≤ 400) (h4 : 0 ≤ z0 ∧ z0 ≤ z3) (h5 : ¬ z4 = (-1 : Int32)) (h6 : z5 = z4) (h7 : z5 = -1 ∨ (z5 = -2 ∧ z0 < z3) ∨ (0 ≤ z6 ∧ z6 < z1 ∧ 0 ≤ z7 ∧ z7 ≤ 1 ∧ 1 ≤ z8 ∧ z8 ≤ 9 ∧ z0 + z9 ≤ z3 ∧ 1 ≤ z5)) (h8 : ¬ z10 = z11) (h9 : z12 = z10 + (1 : Int32)) (h10 : z5 = (-2 : Int32)) (h11 : z13 = z0 + (1 : Int32)) (h12 : ¬ z5 = (-2 : Int32)) (h13 : z14 = z6) (h14 : z15 = z7) (h15 : z15 = 0) : z0 < (401 : Int32) := by first | (clear h8 h9; lia) | lia
set_option maxHeartbeats 200000 in
theorem qw357 {z0 : Int32} {z1 : Int32} {z2 : Int32} {z3 : Int32} {z4 : Int32} {z5 : Int32} {z6 : Int32} {z7 : Int32} {z8 : Int32} {z9 : Int32} {z10 : Int32} {z11 : Int32} {z12 : Int32} {z13 : Int32} {z14 : Int32} {z15 : Int32} {z16 : Int32} (h0 : (0 : Int32) ≤ z1 ∧ z1 ≤ (8 : Int32)) (h1 : (0 : Int32) ≤ z2 ∧ z2 ≤ (12 : Int32)) (h2 : 0 ≤ z3) (h3 : z3 ≤ z4) (h4 : z4 ≤ 400) (h5 : 0 ≤ z5) (h6 : z5 < z1) (h7 : 0 ≤ z0 ∧ z0 < z1) (h8 : 0 ≤ z6 ∧ z6 ≤ z4) (h9 : ¬ z7 = (-1 : Int32)) (h10 : z8 = z7) (h11 : z8 = -1 ∨ (z8 = -2 ∧ z6 < z4) ∨ (0 ≤ z9 ∧ z9 < z2 ∧ 0 ≤ z10 ∧ z10 ≤ 1 ∧ 1 ≤ z11 ∧ z11 ≤ 9 ∧ z6 + z12 ≤ z4 ∧ 1 ≤ z8)) (h12 : ¬ z13 = z14) (h13 : z15 = z13 + (1 : Int32)) (h14 : z8 = (-2 : Int32)) (h15 : z16 = z6 + (1 : Int32)) (h16 : z8 = (-2 : Int32)) : 0 ≤ z0 ∧ z0 < z1 := by first | (clear h1 h2 h3 h4 h8 h9 h10 h11 h12 h13 h14 h15 h16; lia) | lia
set_option maxHeartbeats 200000 in
theorem qw358 {z0 : Int32} {z1 : Int32} {z2 : Int32} {z3 : Int32} {z4 : Int32} {z5 : Int32} {z6 : Int32} {z7 : Int32} {z8 : Int32} {z9 : Int32} {z10 : Int32} {z11 : Int32} {z12 : Int32} {z13 : Int32} (h0 : (0 : Int32) ≤ z2 ∧ z2 ≤ (12 : Int32)) (h1 : 0 ≤ z3) (h2 : z3 ≤ z1) (h3 : z1 ≤ 400) (h4 : 0 ≤ z4 ∧ z4 ≤ z1) (h5 : ¬ z5 = (-1 : Int32)) (h6 : z6 = z5) (h7 : z6 = -1 ∨ (z6 = -2 ∧ z4 < z1) ∨ (0 ≤ z7 ∧ z7 < z2 ∧ 0 ≤ z8 ∧ z8 ≤ 1 ∧ 1 ≤ z9 ∧ z9 ≤ 9 ∧ z4 + z10 ≤ z1 ∧ 1 ≤ z6)) (h8 : ¬ z11 = z12) (h9 : z13 = z11 + (1 : Int32)) (h10 : z6 = (-2 : Int32)) (h11 : z0 = z4 + (1 : Int32)) (h12 : z6 = (-2 : Int32)) : 0 ≤ z0 ∧ z0 ≤ z1 := by first | (clear h8 h9; lia) | lia
set_option maxHeartbeats 200000 in
theorem qw359 {z0 : Int32} {z1 : Int32} {z2 : Int32} {z3 : Int32} {z4 : Int32} {z5 : Int32} {z6 : Int32} {z7 : Int32} {z8 : Int32} {z9 : Int32} {z10 : Int32} {z11 : Int32} {z12 : Int32} {z13 : Int32} (h0 : (0 : Int32) ≤ z2 ∧ z2 ≤ (12 : Int32)) (h1 : 0 ≤ z3) (h2 : z3 ≤ z4) (h3 : z4 ≤ 400) (h4 : 0 ≤ z0 ∧ z0 ≤ z4) (h5 : ¬ z5 = (-1 : Int32)) (h6 : z6 = z5) (h7 : z6 = -1 ∨ (z6 = -2 ∧ z0 < z4) ∨ (0 ≤ z7 ∧ z7 < z2 ∧ 0 ≤ z8 ∧ z8 ≤ 1 ∧ 1 ≤ z9 ∧ z9 ≤ 9 ∧ z0 + z10 ≤ z4 ∧ 1 ≤ z6)) (h8 : ¬ z11 = z12) (h9 : z13 = z11 + (1 : Int32)) (h10 : z6 = (-2 : Int32)) (h11 : z1 = z0 + (1 : Int32)) (h12 : z6 = (-2 : Int32)) : z0 < z1 := by first | (clear h8 h9; lia) | lia
set_option maxHeartbeats 200000 in
theorem qw360 {z0 : Int32} {z1 : Int32} {z2 : Int32} {z3 : Int32} {z4 : Int32} {z5 : Int32} {z6 : Int32} {z7 : Int32} {z8 : Int32} {z9 : Int32} {z10 : Int32} {z11 : Int32} {z12 : Int32} {z13 : Int32} (h0 : (0 : Int32) ≤ z1 ∧ z1 ≤ (12 : Int32)) (h1 : 0 ≤ z2) (h2 : z2 ≤ z3) (h3 : z3 ≤ 400) (h4 : 0 ≤ z0 ∧ z0 ≤ z3) (h5 : ¬ z4 = (-1 : Int32)) (h6 : z5 = z4) (h7 : z5 = -1 ∨ (z5 = -2 ∧ z0 < z3) ∨ (0 ≤ z6 ∧ z6 < z1 ∧ 0 ≤ z7 ∧ z7 ≤ 1 ∧ 1 ≤ z8 ∧ z8 ≤ 9 ∧ z0 + z9 ≤ z3 ∧ 1 ≤ z5)) (h8 : ¬ z10 = z11) (h9 : z12 = z10 + (1 : Int32)) (h10 : z5 = (-2 : Int32)) (h11 : z13 = z0 + (1 : Int32)) (h12 : z5 = (-2 : Int32)) : z0 < (401 : Int32) := by first | (clear h8 h9; lia) | lia
set_option maxHeartbeats 200000 in
theorem qw361   : (1 : Int32) = 0 ∨ (1 : Int32) = 1 ∨ (1 : Int32) = 2 ∨ (1 : Int32) = 6 := by lia
set_option maxHeartbeats 200000 in
theorem qw362 {z0 : Int32} (h0 : z0 < 0) : (1 : Int32) = 0 ∨ (1 : Int32) = 1 ∨ (1 : Int32) = 2 ∨ (1 : Int32) = 6 := by first | (clear h0; lia) | lia
set_option maxHeartbeats 200000 in
theorem qw363 {z0 : Int32} {z1 : Int32} (h0 : ¬ z0 < 0) (h1 : (0 : Int32) ≤ z1 ∧ z1 ≤ (4 : Int32)) (h2 : z1 ≤ z0) : (1 : Int32) = 0 ∨ (1 : Int32) = 1 ∨ (1 : Int32) = 2 ∨ (1 : Int32) = 6 := by first | (clear h0 h1 h2; lia) | lia
set_option maxHeartbeats 200000 in
theorem qw364 {z0 : Int32} {z1 : Int32} {z2 : Int32} (h0 : ¬ z0 < 0) (h1 : (0 : Int32) ≤ z1 ∧ z1 ≤ (4 : Int32)) (h2 : ¬ z1 ≤ z0) (h3 : z2 < 0) : (1 : Int32) = 0 ∨ (1 : Int32) = 1 ∨ (1 : Int32) = 2 ∨ (1 : Int32) = 6 := by first | (clear h0 h1 h2 h3; lia) | lia
set_option maxHeartbeats 200000 in
theorem qw365 {z0 : Int32} {z1 : Int32} {z2 : Int32} {z3 : Int32} (h0 : ¬ z0 < 0) (h1 : (0 : Int32) ≤ z1 ∧ z1 ≤ (4 : Int32)) (h2 : ¬ z1 ≤ z0) (h3 : ¬ z2 < 0) (h4 : (0 : Int32) ≤ z3 ∧ z3 ≤ (8 : Int32)) (h5 : z3 ≤ z2) : (1 : Int32) = 0 ∨ (1 : Int32) = 1 ∨ (1 : Int32) = 2 ∨ (1 : Int32) = 6 := by first | (clear h0 h1 h2 h3 h4 h5; lia) | lia
set_option maxHeartbeats 200000 in
theorem qw366 {z0 : Int32} {z1 : Int32} {z2 : Int32} {z3 : Int32} {z4 : Int32} (h0 : ¬ z0 < 0) (h1 : (0 : Int32) ≤ z1 ∧ z1 ≤ (4 : Int32)) (h2 : ¬ z1 ≤ z0) (h3 : ¬ z2 < 0) (h4 : (0 : Int32) ≤ z3 ∧ z3 ≤ (8 : Int32)) (h5 : ¬ z3 ≤ z2) (h6 : z4 < 0) : (1 : Int32) = 0 ∨ (1 : Int32) = 1 ∨ (1 : Int32) = 2 ∨ (1 : Int32) = 6 := by first | (clear h0 h1 h2 h3 h4 h5 h6; lia) | lia
set_option maxHeartbeats 200000 in
theorem qw367 {z0 : Int32} {z1 : Int32} {z2 : Int32} {z3 : Int32} {z4 : Int32} {z5 : Int32} (h0 : ¬ z0 < 0) (h1 : (0 : Int32) ≤ z1 ∧ z1 ≤ (4 : Int32)) (h2 : ¬ z1 ≤ z0) (h3 : ¬ z2 < 0) (h4 : (0 : Int32) ≤ z3 ∧ z3 ≤ (8 : Int32)) (h5 : ¬ z3 ≤ z2) (h6 : ¬ z4 < 0) (h7 : (0 : Int32) ≤ z5 ∧ z5 ≤ (8 : Int32)) (h8 : z5 = z3) (h9 : z5 ≤ z4) : (1 : Int32) = 0 ∨ (1 : Int32) = 1 ∨ (1 : Int32) = 2 ∨ (1 : Int32) = 6 := by first | (clear h0 h1 h2 h3 h4 h5 h6 h7 h8 h9; lia) | lia
set_option maxHeartbeats 200000 in
theorem qw368 {z0 : Int32} {z1 : Int32} {z2 : Int32} {z3 : Int32} {z4 : Int32} {z5 : Int32} {z6 : Int32} (h0 : ¬ z0 < 0) (h1 : (0 : Int32) ≤ z1 ∧ z1 ≤ (4 : Int32)) (h2 : ¬ z1 ≤ z0) (h3 : ¬ z2 < 0) (h4 : (0 : Int32) ≤ z3 ∧ z3 ≤ (8 : Int32)) (h5 : ¬ z3 ≤ z2) (h6 : ¬ z4 < 0) (h7 : (0 : Int32) ≤ z5 ∧ z5 ≤ (8 : Int32)) (h8 : z5 = z3) (h9 : ¬ z5 ≤ z4) (h10 : z6 < (0 : Int32)) : (2 : Int32) = 0 ∨ (2 : Int32) = 1 ∨ (2 : Int32) = 2 ∨ (2 : Int32) = 6 := by first | (clear h0 h1 h2 h3 h4 h5 h6 h7 h8 h9 h10; lia) | lia
set_option maxHeartbeats 200000 in
theorem qw369 {z0 : Int32} {z1 : Int32} {z2 : Int32} {z3 : Int32} {z4 : Int32} {z5 : Int32} {z6 : Int32} (h0 : ¬ z0 < 0) (h1 : (0 : Int32) ≤ z1 ∧ z1 ≤ (4 : Int32)) (h2 : ¬ z1 ≤ z0) (h3 : ¬ z2 < 0) (h4 : (0 : Int32) ≤ z3 ∧ z3 ≤ (8 : Int32)) (h5 : ¬ z3 ≤ z2) (h6 : ¬ z4 < 0) (h7 : (0 : Int32) ≤ z5 ∧ z5 ≤ (8 : Int32)) (h8 : z5 = z3) (h9 : ¬ z5 ≤ z4) (h10 : ¬ z6 < (0 : Int32)) (h11 : (400 : Int32) < z6) : (2 : Int32) = 0 ∨ (2 : Int32) = 1 ∨ (2 : Int32) = 2 ∨ (2 : Int32) = 6 := by first | (clear h0 h1 h2 h3 h4 h5 h6 h7 h8 h9 h10 h11; lia) | lia
set_option maxHeartbeats 200000 in
theorem qw370 {z0 : Int32} {z1 : Int32} {z2 : Int32} {z3 : Int32} {z4 : Int32} {z5 : Int32} {z6 : Int32} {z7 : Int32} (h0 : ¬ z0 < 0) (h1 : (0 : Int32) ≤ z1 ∧ z1 ≤ (4 : Int32)) (h2 : ¬ z1 ≤ z0) (h3 : ¬ z2 < 0) (h4 : (0 : Int32) ≤ z3 ∧ z3 ≤ (8 : Int32)) (h5 : ¬ z3 ≤ z2) (h6 : ¬ z4 < 0) (h7 : (0 : Int32) ≤ z5 ∧ z5 ≤ (8 : Int32)) (h8 : z5 = z3) (h9 : ¬ z5 ≤ z4) (h10 : ¬ z6 < (0 : Int32)) (h11 : ¬ (400 : Int32) < z6) (h12 : z7 < (0 : Int32)) : (2 : Int32) = 0 ∨ (2 : Int32) = 1 ∨ (2 : Int32) = 2 ∨ (2 : Int32) = 6 := by first | (clear h0 h1 h2 h3 h4 h5 h6 h7 h8 h9 h10 h11 h12; lia) | lia
set_option maxHeartbeats 200000 in
theorem qw371 {z0 : Int32} {z1 : Int32} {z2 : Int32} {z3 : Int32} {z4 : Int32} {z5 : Int32} {z6 : Int32} {z7 : Int32} (h0 : ¬ z0 < 0) (h1 : (0 : Int32) ≤ z1 ∧ z1 ≤ (4 : Int32)) (h2 : ¬ z1 ≤ z0) (h3 : ¬ z2 < 0) (h4 : (0 : Int32) ≤ z3 ∧ z3 ≤ (8 : Int32)) (h5 : ¬ z3 ≤ z2) (h6 : ¬ z4 < 0) (h7 : (0 : Int32) ≤ z5 ∧ z5 ≤ (8 : Int32)) (h8 : z5 = z3) (h9 : ¬ z5 ≤ z4) (h10 : ¬ z6 < (0 : Int32)) (h11 : ¬ (400 : Int32) < z6) (h12 : ¬ z7 < (0 : Int32)) (h13 : z6 < z7) : (2 : Int32) = 0 ∨ (2 : Int32) = 1 ∨ (2 : Int32) = 2 ∨ (2 : Int32) = 6 := by first | (clear h0 h1 h2 h3 h4 h5 h6 h7 h8 h9 h10 h11 h12 h13; lia) | lia
set_option maxHeartbeats 200000 in
theorem qw372 {z0 : Int32} {z1 : Int32} {z2 : Int32} {z3 : Int32} {z4 : Int32} {z5 : Int32} {z6 : Int32} {z7 : Int32} (h0 : ¬ z1 < 0) (h1 : (0 : Int32) ≤ z2 ∧ z2 ≤ (4 : Int32)) (h2 : ¬ z2 ≤ z1) (h3 : ¬ z3 < 0) (h4 : (0 : Int32) ≤ z4 ∧ z4 ≤ (8 : Int32)) (h5 : ¬ z4 ≤ z3) (h6 : ¬ z5 < 0) (h7 : (0 : Int32) ≤ z6 ∧ z6 ≤ (8 : Int32)) (h8 : z6 = z4) (h9 : ¬ z6 ≤ z5) (h10 : ¬ z0 < (0 : Int32)) (h11 : ¬ (400 : Int32) < z0) (h12 : ¬ z7 < (0 : Int32)) (h13 : ¬ z0 < z7) : 0 ≤ z0 ∧ z0 ≤ 400 := by first | (clear h0 h1 h2 h3 h4 h5 h6 h7 h8 h9; lia) | lia
set_option maxHeartbeats 200000 in
theorem qw373 {z0 : Int32} {z1 : Int32} {z2 : Int32} {z3 : Int32} {z4 : Int32} {z5 : Int32} {z6 : Int32} {z7 : Int32} (h0 : ¬ z0 < 0) (h1 : (0 : Int32) ≤ z1 ∧ z1 ≤ (4 : Int32)) (h2 : ¬ z1 ≤ z0) (h3 : ¬ z2 < 0) (h4 : (0 : Int32) ≤ z3 ∧ z3 ≤ (8 : Int32)) (h5 : ¬ z3 ≤ z2) (h6 : ¬ z4 < 0) (h7 : (0 : Int32) ≤ z5 ∧ z5 ≤ (8 : Int32)) (h8 : z5 = z3) (h9 : ¬ z5 ≤ z4) (h10 : ¬ z6 < (0 : Int32)) (h11 : ¬ (400 : Int32) < z6) (h12 : ¬ z7 < (0 : Int32)) (h13 : ¬ z6 < z7) : 0 ≤ z0 := by first | (clear h3 h4 h5 h6 h7 h8 h9 h10 h11 h12 h13; lia) | lia
set_option maxHeartbeats 200000 in
theorem qw374 {z0 : Int32} {z1 : Int32} {z2 : Int32} {z3 : Int32} {z4 : Int32} {z5 : Int32} {z6 : Int32} {z7 : Int32} (h0 : ¬ z0 < 0) (h1 : (0 : Int32) ≤ z1 ∧ z1 ≤ (4 : Int32)) (h2 : ¬ z1 ≤ z0) (h3 : ¬ z2 < 0) (h4 : (0 : Int32) ≤ z3 ∧ z3 ≤ (8 : Int32)) (h5 : ¬ z3 ≤ z2) (h6 : ¬ z4 < 0) (h7 : (0 : Int32) ≤ z5 ∧ z5 ≤ (8 : Int32)) (h8 : z5 = z3) (h9 : ¬ z5 ≤ z4) (h10 : ¬ z6 < (0 : Int32)) (h11 : ¬ (400 : Int32) < z6) (h12 : ¬ z7 < (0 : Int32)) (h13 : ¬ z6 < z7) : z0 < z1 := by first | (clear h3 h4 h5 h6 h7 h8 h9 h10 h11 h12 h13; lia) | lia
set_option maxHeartbeats 200000 in
theorem qw375 {z0 : Int32} {z1 : Int32} {z2 : Int32} {z3 : Int32} {z4 : Int32} {z5 : Int32} {z6 : Int32} {z7 : Int32} (h0 : ¬ z1 < 0) (h1 : (0 : Int32) ≤ z2 ∧ z2 ≤ (4 : Int32)) (h2 : ¬ z2 ≤ z1) (h3 : ¬ z3 < 0) (h4 : (0 : Int32) ≤ z4 ∧ z4 ≤ (8 : Int32)) (h5 : ¬ z4 ≤ z3) (h6 : ¬ z5 < 0) (h7 : (0 : Int32) ≤ z6 ∧ z6 ≤ (8 : Int32)) (h8 : z6 = z4) (h9 : ¬ z6 ≤ z5) (h10 : ¬ z7 < (0 : Int32)) (h11 : ¬ (400 : Int32) < z7) (h12 : ¬ z0 < (0 : Int32)) (h13 : ¬ z7 < z0) : 0 ≤ z0 ∧ z0 ≤ (400 : Int32) := by first | (clear h0 h1 h2 h3 h4 h5 h6 h7 h8 h9; lia) | lia
set_option maxHeartbeats 200000 in
theorem qw376 {z0 : Int32} {z1 : Int32} {z2 : Int32} {z3 : Int32} {z4 : Int32} {z5 : Int32} {z6 : Int32} {z7 : Int32} (h0 : ¬ z1 < 0) (h1 : (0 : Int32) ≤ z2 ∧ z2 ≤ (4 : Int32)) (h2 : ¬ z2 ≤ z1) (h3 : ¬ z0 < 0) (h4 : (0 : Int32) ≤ z3 ∧ z3 ≤ (8 : Int32)) (h5 : ¬ z3 ≤ z0) (h6 : ¬ z4 < 0) (h7 : (0 : Int32) ≤ z5 ∧ z5 ≤ (8 : Int32)) (h8 : z5 = z3) (h9 : ¬ z5 ≤ z4) (h10 : ¬ z6 < (0 : Int32)) (h11 : ¬ (400 : Int32) < z6) (h12 : ¬ z7 < (0 : Int32)) (h13 : ¬ z6 < z7) : 0 ≤ z0 ∧ z0 < (8 : Int32) := by first | (clear h0 h1 h2 h10 h11 h12 h13; lia) | lia
set_option maxHeartbeats 200000 in
theorem qw377 {z0 : Int32} {z1 : Int32} {z2 : Int32} {z3 : Int32} {z4 : Int32} {z5 : Int32} {z6 : Int32} {z7 : Int32} {z8 : Int64} (h0 : ¬ z1 < 0) (h1 : (0 : Int32) ≤ z2 ∧ z2 ≤ (4 : Int32)) (h2 : ¬ z2 ≤ z1) (h3 : ¬ z3 < 0) (h4 : (0 : Int32) ≤ z4 ∧ z4 ≤ (8 : Int32)) (h5 : ¬ z4 ≤ z3) (h6 : ¬ z5 < 0) (h7 : (0 : Int32) ≤ z6 ∧ z6 ≤ (8 : Int32)) (h8 : z6 = z4) (h9 : ¬ z6 ≤ z5) (h10 : ¬ z7 < (0 : Int32)) (h11 : ¬ (400 : Int32) < z7) (h12 : ¬ z0 < (0 : Int32)) (h13 : ¬ z7 < z0) (h14 : ¬ (lg_cmp z8 (-1 : Int64)) = 0) : 0 ≤ z0 := by first | (clear h0 h1 h2 h3 h4 h5 h6 h7 h8 h9 h14; lia) | lia
set_option maxHeartbeats 200000 in
theorem qw378 {z0 : Int32} {z1 : Int32} {z2 : Int32} {z3 : Int32} {z4 : Int32} {z5 : Int32} {z6 : Int32} {z7 : Int32} {z8 : Int64} (h0 : ¬ z2 < 0) (h1 : (0 : Int32) ≤ z3 ∧ z3 ≤ (4 : Int32)) (h2 : ¬ z3 ≤ z2) (h3 : ¬ z4 < 0) (h4 : (0 : Int32) ≤ z5 ∧ z5 ≤ (8 : Int32)) (h5 : ¬ z5 ≤ z4) (h6 : ¬ z6 < 0) (h7 : (0 : Int32) ≤ z7 ∧ z7 ≤ (8 : Int32)) (h8 : z7 = z5) (h9 : ¬ z7 ≤ z6) (h10 : ¬ z1 < (0 : Int32)) (h11 : ¬ (400 : Int32) < z1) (h12 : ¬ z0 < (0 : Int32)) (h13 : ¬ z1 < z0) (h14 : ¬ (lg_cmp z8 (-1 : Int64)) = 0) : z0 ≤ z1 := by first | (clear h0 h1 h2 h3 h4 h5 h6 h7 h8 h9 h14; lia) | lia
set_option maxHeartbeats 200000 in
theorem qw379 {z0 : Int32} {z1 : Int32} {z2 : Int32} {z3 : Int32} {z4 : Int32} {z5 : Int32} {z6 : Int32} {z7 : Int32} {z8 : Int64} (h0 : ¬ z1 < 0) (h1 : (0 : Int32) ≤ z2 ∧ z2 ≤ (4 : Int32)) (h2 : ¬ z2 ≤ z1) (h3 : ¬ z3 < 0) (h4 : (0 : Int32) ≤ z4 ∧ z4 ≤ (8 : Int32)) (h5 : ¬ z4 ≤ z3) (h6 : ¬ z5 < 0) (h7 : (0 : Int32) ≤ z6 ∧ z6 ≤ (8 : Int32)) (h8 : z6 = z4) (h9 : ¬ z6 ≤ z5) (h10 : ¬ z0 < (0 : Int32)) (h11 : ¬ (400 : Int32) < z0) (h12 : ¬ z7 < (0 : Int32)) (h13 : ¬ z0 < z7) (h14 : ¬ (lg_cmp z8 (-1 : Int64)) = 0) : z0 ≤ (400 : Int32) := by first | (clear h0 h1 h2 h3 h4 h5 h6 h7 h8 h9 h14; lia) | lia
set_option maxHeartbeats 200000 in
theorem qw380 {z0 : Int32} {z1 : Int32} {z2 : Int32} {z3 : Int32} {z4 : Int32} {z5 : Int32} {z6 : Int32} {z7 : Int32} {z8 : Int64} (h0 : ¬ z1 < 0) (h1 : (0 : Int32) ≤ z2 ∧ z2 ≤ (4 : Int32)) (h2 : ¬ z2 ≤ z1) (h3 : ¬ z0 < 0) (h4 : (0 : Int32) ≤ z3 ∧ z3 ≤ (8 : Int32)) (h5 : ¬ z3 ≤ z0) (h6 : ¬ z4 < 0) (h7 : (0 : Int32) ≤ z5 ∧ z5 ≤ (8 : Int32)) (h8 : z5 = z3) (h9 : ¬ z5 ≤ z4) (h10 : ¬ z6 < (0 : Int32)) (h11 : ¬ (400 : Int32) < z6) (h12 : ¬ z7 < (0 : Int32)) (h13 : ¬ z6 < z7) (h14 : ¬ (lg_cmp z8 (-1 : Int64)) = 0) : 0 ≤ z0 := by first | (clear h0 h1 h2 h10 h11 h12 h13 h14; lia) | lia
set_option maxHeartbeats 200000 in
theorem qw381 {z0 : Int32} {z1 : Int32} {z2 : Int32} {z3 : Int32} {z4 : Int32} {z5 : Int32} {z6 : Int32} {z7 : Int32} {z8 : Int64} (h0 : ¬ z2 < 0) (h1 : (0 : Int32) ≤ z3 ∧ z3 ≤ (4 : Int32)) (h2 : ¬ z3 ≤ z2) (h3 : ¬ z0 < 0) (h4 : (0 : Int32) ≤ z4 ∧ z4 ≤ (8 : Int32)) (h5 : ¬ z4 ≤ z0) (h6 : ¬ z5 < 0) (h7 : (0 : Int32) ≤ z1 ∧ z1 ≤ (8 : Int32)) (h8 : z1 = z4) (h9 : ¬ z1 ≤ z5) (h10 : ¬ z6 < (0 : Int32)) (h11 : ¬ (400 : Int32) < z6) (h12 : ¬ z7 < (0 : Int32)) (h13 : ¬ z6 < z7) (h14 : ¬ (lg_cmp z8 (-1 : Int64)) = 0) : z0 < z1 := by first | (clear h0 h1 h2 h10 h11 h12 h13 h14; lia) | lia
set_option maxHeartbeats 200000 in
theorem qw382 {z0 : Int32} {z1 : Int32} {z2 : Int32} {z3 : Int32} {z4 : Int32} {z5 : Int32} {z6 : Int32} {z7 : Int32} {z8 : Int64} (h0 : ¬ z0 < 0) (h1 : (0 : Int32) ≤ z1 ∧ z1 ≤ (4 : Int32)) (h2 : ¬ z1 ≤ z0) (h3 : ¬ z2 < 0) (h4 : (0 : Int32) ≤ z3 ∧ z3 ≤ (8 : Int32)) (h5 : ¬ z3 ≤ z2) (h6 : ¬ z4 < 0) (h7 : (0 : Int32) ≤ z5 ∧ z5 ≤ (8 : Int32)) (h8 : z5 = z3) (h9 : ¬ z5 ≤ z4) (h10 : ¬ z6 < (0 : Int32)) (h11 : ¬ (400 : Int32) < z6) (h12 : ¬ z7 < (0 : Int32)) (h13 : ¬ z6 < z7) (h14 : ¬ (lg_cmp z8 (-1 : Int64)) = 0) : (0 : Int32) = 0 ∨ (0 : Int32) = 1 ∨ (0 : Int32) = 2 ∨ (0 : Int32) = 6 := by first | (clear h0 h1 h2 h3 h4 h5 h6 h7 h8 h9 h10 h11 h12 h13 h14; lia) | lia
set_option maxHeartbeats 200000 in
theorem qw383 {z0 : Int32} {z1 : Int32} {z2 : Int32} {z3 : Int32} {z4 : Int32} {z5 : Int32} {z6 : Int32} {z7 : Int32} {z8 : Int64} (h0 : ¬ z0 < 0) (h1 : (0 : Int32) ≤ z1 ∧ z1 ≤ (4 : Int32)) (h2 : ¬ z1 ≤ z0) (h3 : ¬ z2 < 0) (h4 : (0 : Int32) ≤ z3 ∧ z3 ≤ (8 : Int32)) (h5 : ¬ z3 ≤ z2) (h6 : ¬ z4 < 0) (h7 : (0 : Int32) ≤ z5 ∧ z5 ≤ (8 : Int32)) (h8 : z5 = z3) (h9 : ¬ z5 ≤ z4) (h10 : ¬ z6 < (0 : Int32)) (h11 : ¬ (400 : Int32) < z6) (h12 : ¬ z7 < (0 : Int32)) (h13 : ¬ z6 < z7) (h14 : (lg_cmp z8 (-1 : Int64)) = 0) : (6 : Int32) = 0 ∨ (6 : Int32) = 1 ∨ (6 : Int32) = 2 ∨ (6 : Int32) = 6 := by first | (clear h0 h1 h2 h3 h4 h5 h6 h7 h8 h9 h10 h11 h12 h13 h14; lia) | lia
set_option maxHeartbeats 200000 in
theorem qw384 {z0 : Int32} {z1 : Int32} {z2 : Int32} (h0 : z0 = 0 ∨ z0 = 1 ∨ z0 = 2 ∨ z0 = 6) (h1 : z0 = 0 → 0 ≤ z1 ∧ z1 < 8 ∧ 0 ≤ z2 ∧ z2 ≤ 400) (h2 : z0 ≤ 0) : z0 = 0 := by lia
set_option maxHeartbeats 200000 in
theorem qw385 {z0 : Int32} {z1 : Int32} {z2 : Int32} (h0 : z1 = 0 ∨ z1 = 1 ∨ z1 = 2 ∨ z1 = 6) (h1 : z1 = 0 → 0 ≤ z2 ∧ z2 < 8 ∧ 0 ≤ z0 ∧ z0 ≤ 400) (h2 : z1 ≤ 0) : 0 ≤ z0 ∧ z0 ≤ (400 : Int32) := by lia
set_option maxHeartbeats 200000 in
theorem qw386 {z0 : Int32} {z1 : Int32} {z2 : Int32} (h0 : z1 = 0 ∨ z1 = 1 ∨ z1 = 2 ∨ z1 = 6) (h1 : z1 = 0 → 0 ≤ z0 ∧ z0 < 8 ∧ 0 ≤ z2 ∧ z2 ≤ 400) (h2 : z1 ≤ 0) : 0 ≤ z0 ∧ z0 < (8 : Int32) := by lia
set_option maxHeartbeats 200000 in
theorem qw387 {z0 : Int32} {z1 : Int32} {z2 : Int32} (h0 : z0 = 0 ∨ z0 = 1 ∨ z0 = 2 ∨ z0 = 6) (h1 : z0 = 0 → 0 ≤ z1 ∧ z1 < 8 ∧ 0 ≤ z2 ∧ z2 ≤ 400) (h2 : z0 ≤ 0) : ¬ (252000 : Int64) = 0 := by first | (clear h0 h1 h2; lia) | lia
end
section
theorem u_X11_laysWays {v0 : Nat} {v1 : Int32} {v2 : Int32} {v3 : Int32} {Q : HS → Prop} {S : HS} (h : P_X11_laysWays_0 Q v0 v1 v2 v3 S) : P_X11_laysWays v0 v1 v2 v3 Q S := h
theorem u_X11_laysWays_0 {Q : HS → Prop} {v0 : Nat} {v1 : Int32} {v2 : Int32} {v3 : Int32} {S : HS} (h : P_X11_laysWays_3 Q v0 v1 v2 v3 v3 S) : P_X11_laysWays_0 Q v0 v1 v2 v3 S := h
theorem u_X11_laysWays_3 {Q : HS → Prop} {X3 : Nat → Int32 → Int32 → Int32 → Int32 → HS → Prop} {v0 : Nat} {v1 : Int32} {v2 : Int32} {v3 : Int32} {v4 : Int32} {S : HS} (h : ((v4 < 0) → (Q S)) ∧ ((¬ v4 < 0) → (P_X11_laysWays_11 Q X3 v0 v1 v2 v3 v4 (0 : Int32) S))) : B_X11_laysWays_3 Q X3 v0 v1 v2 v3 v4 S := h
theorem i_X11_laysWays_3 {Q : HS → Prop} (μ : Nat → Int32 → Int32 → Int32 → Int32 → HS → Nat) (I : Nat → Int32 → Int32 → Int32 → Int32 → HS → Prop) (hs : ∀ (v0 : Nat) (v1 : Int32) (v2 : Int32) (v3 : Int32) (v4 : Int32) (S : HS) (X : Nat → Int32 → Int32 → Int32 → Int32 → HS → Prop), I v0 v1 v2 v3 v4 S → (∀ (w0 : Nat) (w1 : Int32) (w2 : Int32) (w3 : Int32) (w4 : Int32) (T : HS), I w0 w1 w2 w3 w4 T → μ w0 w1 w2 w3 w4 T < μ v0 v1 v2 v3 v4 S → X w0 w1 w2 w3 w4 T) → B_X11_laysWays_3 Q X v0 v1 v2 v3 v4 S) : ∀ (v0 : Nat) (v1 : Int32) (v2 : Int32) (v3 : Int32) (v4 : Int32) (S : HS), I v0 v1 v2 v3 v4 S → P_X11_laysWays_3 Q v0 v1 v2 v3 v4 S := by
  intro v0 v1 v2 v3 v4 S h X hX
  have key : ∀ (z : Nat) (v0 : Nat) (v1 : Int32) (v2 : Int32) (v3 : Int32) (v4 : Int32) (S : HS), μ v0 v1 v2 v3 v4 S < z → I v0 v1 v2 v3 v4 S → X v0 v1 v2 v3 v4 S := by
    intro z
    induction z with
    | zero => intro v0 v1 v2 v3 v4 S hz; exact absurd hz (Nat.not_lt_zero _)
    | succ z ih => intro v0 v1 v2 v3 v4 S hz hI; exact hX _ _ _ _ _ _ (hs _ _ _ _ _ _ _ hI (fun w0 w1 w2 w3 w4 T hT hl => ih _ _ _ _ _ _ (by omega) hT))
  exact key _ _ _ _ _ _ _ (Nat.lt_succ_self _) h
theorem u_X11_laysWays_11 {Q : HS → Prop} {X3 : Nat → Int32 → Int32 → Int32 → Int32 → HS → Prop} {X11 : Nat → Int32 → Int32 → Int32 → Int32 → Int32 → HS → Prop} {v0 : Nat} {v1 : Int32} {v2 : Int32} {v3 : Int32} {v4 : Int32} {v5 : Int32} {S : HS} (h : ob S v0 11 ∧ (∃ a1 : Nat, fR S v0 3 = some a1 ∧ (ob S a1 10 ∧ (∀ x2 : Int32, x2 = fI S a1 2 → (((x2 ≤ v5) → (∀ x4 : Int32, x4 = v4 + (-1 : Int32) → (X3 v0 v1 v2 v3 x4 S))) ∧ ((¬ x2 ≤ v5) → (P_X11_spotOf v5 v4 (fun x7 S5 => Gr S S5 → (∃ a8 : Nat, fR S5 v0 16 = some a8 ∧ (((¬ v5 = v2) → (P_X11_laysWays_51 Q X3 X11 v0 v1 v2 v3 v4 v5 x7 a8 x7 (-1 : Int64) S5)) ∧ ((v5 = v2) → (P_X11_laysWays_51 Q X3 X11 v0 v1 v2 v3 v4 v5 x7 a8 x7 (0 : Int64) S5))))) S))))))) : B_X11_laysWays_11 Q X3 X11 v0 v1 v2 v3 v4 v5 S := h
theorem i_X11_laysWays_11 {Q : HS → Prop} {X3 : Nat → Int32 → Int32 → Int32 → Int32 → HS → Prop} (μ : Nat → Int32 → Int32 → Int32 → Int32 → Int32 → HS → Nat) (I : Nat → Int32 → Int32 → Int32 → Int32 → Int32 → HS → Prop) (hs : ∀ (v0 : Nat) (v1 : Int32) (v2 : Int32) (v3 : Int32) (v4 : Int32) (v5 : Int32) (S : HS) (X : Nat → Int32 → Int32 → Int32 → Int32 → Int32 → HS → Prop), I v0 v1 v2 v3 v4 v5 S → (∀ (w0 : Nat) (w1 : Int32) (w2 : Int32) (w3 : Int32) (w4 : Int32) (w5 : Int32) (T : HS), I w0 w1 w2 w3 w4 w5 T → μ w0 w1 w2 w3 w4 w5 T < μ v0 v1 v2 v3 v4 v5 S → X w0 w1 w2 w3 w4 w5 T) → B_X11_laysWays_11 Q X3 X v0 v1 v2 v3 v4 v5 S) : ∀ (v0 : Nat) (v1 : Int32) (v2 : Int32) (v3 : Int32) (v4 : Int32) (v5 : Int32) (S : HS), I v0 v1 v2 v3 v4 v5 S → P_X11_laysWays_11 Q X3 v0 v1 v2 v3 v4 v5 S := by
  intro v0 v1 v2 v3 v4 v5 S h X hX
  have key : ∀ (z : Nat) (v0 : Nat) (v1 : Int32) (v2 : Int32) (v3 : Int32) (v4 : Int32) (v5 : Int32) (S : HS), μ v0 v1 v2 v3 v4 v5 S < z → I v0 v1 v2 v3 v4 v5 S → X v0 v1 v2 v3 v4 v5 S := by
    intro z
    induction z with
    | zero => intro v0 v1 v2 v3 v4 v5 S hz; exact absurd hz (Nat.not_lt_zero _)
    | succ z ih => intro v0 v1 v2 v3 v4 v5 S hz hI; exact hX _ _ _ _ _ _ _ (hs _ _ _ _ _ _ _ _ hI (fun w0 w1 w2 w3 w4 w5 T hT hl => ih _ _ _ _ _ _ _ (by omega) hT))
  exact key _ _ _ _ _ _ _ _ (Nat.lt_succ_self _) h
theorem u_X11_laysWays_51 {Q : HS → Prop} {X3 : Nat → Int32 → Int32 → Int32 → Int32 → HS → Prop} {X11 : Nat → Int32 → Int32 → Int32 → Int32 → Int32 → HS → Prop} {v0 : Nat} {v1 : Int32} {v2 : Int32} {v3 : Int32} {v4 : Int32} {v5 : Int32} {v6 : Int32} {s0 : Nat} {s1 : Int32} {s2 : Int64} {S : HS} (h : ob S s0 14 ∧ (vp_in s1 (hN S s0) ∧ (∀ S2 : HS, S2 = sJ S s0 s1.toNatClampNeg s2 → (ob S2 v0 11 ∧ (∃ a3 : Nat, fR S2 v0 17 = some a3 ∧ (ob S2 a3 13 ∧ (vp_in v6 (hN S2 a3) ∧ (∀ S5 : HS, S5 = sI S2 a3 v6.toNatClampNeg v4 → (∃ a6 : Nat, fR S5 v0 18 = some a6 ∧ (ob S5 a6 13 ∧ (vp_in v6 (hN S5 a6) ∧ (∀ S8 : HS, S8 = sI S5 a6 v6.toNatClampNeg (-1 : Int32) → (((v5 = v2) → (P_X11_laysWays_85 Q X3 X11 v0 v1 v2 v3 v4 v5 S8)) ∧ ((¬ v5 = v2) → (P_X11_tries v0 v1 v5 v4 v3 (fun S10 => Gr S8 S10 → (P_X11_laysWays_85 Q X3 X11 v0 v1 v2 v3 v4 v5 S10)) S8))))))))))))))) : P_X11_laysWays_51 Q X3 X11 v0 v1 v2 v3 v4 v5 v6 s0 s1 s2 S := h
theorem u_X11_laysWays_85 {Q : HS → Prop} {X3 : Nat → Int32 → Int32 → Int32 → Int32 → HS → Prop} {X11 : Nat → Int32 → Int32 → Int32 → Int32 → Int32 → HS → Prop} {v0 : Nat} {v1 : Int32} {v2 : Int32} {v3 : Int32} {v4 : Int32} {v5 : Int32} {S : HS} (h : ∀ x1 : Int32, x1 = v5 + (1 : Int32) → (X11 v0 v1 v2 v3 v4 x1 S)) : P_X11_laysWays_85 Q X3 X11 v0 v1 v2 v3 v4 v5 S := h
theorem u_X11_least {v0 : Nat} {v1 : Int32} {v2 : Int32} {v3 : Int32} {v4 : Int32} {v5 : Int32} {v6 : Int32} {Q : Int64 → HS → Prop} {S : HS} (h : P_X11_least_0 Q v0 v1 v2 v3 v4 v5 v6 S) : P_X11_least v0 v1 v2 v3 v4 v5 v6 Q S := h
theorem u_X11_least_0 {Q : Int64 → HS → Prop} {v0 : Nat} {v1 : Int32} {v2 : Int32} {v3 : Int32} {v4 : Int32} {v5 : Int32} {v6 : Int32} {S : HS} (h : ob S v0 11 ∧ (∀ S1 : HS, S1 = sI S v0 0 (0 : Int32) → (P_X11_refusesWay v0 v1 v2 v3 v4 v5 (fun x4 S2 => Gr S1 S2 → (((x4 ≤ 0) → (∃ a6 : Nat, fR S2 v0 16 = some a6 ∧ (P_X11_spotOf v2 v4 (fun x9 S7 => Gr S2 S7 → (ob S7 a6 14 ∧ (vp_in x9 (hN S7 a6) ∧ ∀ x11 : Int64, x11 = fJ S7 a6 x9.toNatClampNeg → (P_X11_told v0 x11 (252000 : Int64) v6 (fun x14 S12 => Gr S7 S12 → (Q x14 S12)) S7)))) S2))) ∧ ((¬ x4 ≤ 0) → (P_X11_refused v0 x4 (fun x17 S15 => Gr S2 S15 → (Q x17.toInt64 S15)) S2)))) S1))) : P_X11_least_0 Q v0 v1 v2 v3 v4 v5 v6 S := h
theorem u_X11_off {v0 : Nat} {v1 : Int32} {v2 : Int32} {v3 : Int32} {v4 : Int32} {Q : Int32 → HS → Prop} {S : HS} (h : P_X11_off_0 Q v0 v1 v2 v3 v4 S) : P_X11_off v0 v1 v2 v3 v4 Q S := h
theorem u_X11_off_0 {Q : Int32 → HS → Prop} {v0 : Nat} {v1 : Int32} {v2 : Int32} {v3 : Int32} {v4 : Int32} {S : HS} (h : ob S v0 11 ∧ (∀ S1 : HS, S1 = sI S v0 0 (0 : Int32) → (P_X11_isWalker v0 v1 (fun x4 S2 => Gr S1 S2 → bl x4 → (((x4 = 0) → (P_X11_off_29 Q v0 S2)) ∧ ((¬ x4 = 0) → (P_X11_isPlace v0 v2 (fun x8 S6 => Gr S2 S6 → bl x8 → (((x8 = 0) → (P_X11_off_29 Q v0 S6)) ∧ ((¬ x8 = 0) → (P_X11_isPlace v0 v3 (fun x12 S10 => Gr S6 S10 → bl x12 → (((¬ x12 = 0) → (P_X11_in v4 (0 : Int32) (400 : Int32) (fun x16 S14 => Gr S10 S14 → bl x16 → (((¬ x16 = 0) → (P_X11_laysWays v0 v1 v3 v4 (fun S18 => Gr S14 S18 → (P_X11_off_67 Q v0 v2 v4 (-1 : Int32) (0 : Int32) S18)) S14)) ∧ ((x16 = 0) → (P_X11_refused v0 (2 : Int32) (fun x23 S21 => Gr S14 S21 → (Q x23 S21)) S14)))) S10)) ∧ ((x12 = 0) → (P_X11_off_29 Q v0 S10)))) S6)))) S2)))) S1))) : P_X11_off_0 Q v0 v1 v2 v3 v4 S := h
theorem u_X11_off_29 {Q : Int32 → HS → Prop} {v0 : Nat} {S : HS} (h : ob S v0 11 ∧ (P_X11_refused v0 (1 : Int32) (fun x3 S1 => Gr S S1 → (Q x3 S1)) S)) : P_X11_off_29 Q v0 S := h
theorem u_X11_off_67 {Q : Int32 → HS → Prop} {X67 : Nat → Int32 → Int32 → Int32 → Int32 → HS → Prop} {v0 : Nat} {v2 : Int32} {v4 : Int32} {v5 : Int32} {v6 : Int32} {S : HS} (h : ((v4 < v6) → (((¬ v5 = (-1 : Int32)) → (ob S v0 11 ∧ (P_X11_good v0 v5 (fun x5 S3 => Gr S S3 → (Q x5 S3)) S))) ∧ ((v5 = (-1 : Int32)) → (ob S v0 11 ∧ (P_X11_refused v0 (6 : Int32) (fun x8 S6 => Gr S S6 → (Q x8 S6)) S))))) ∧ ((¬ v4 < v6) → (ob S v0 11 ∧ (∃ a9 : Nat, fR S v0 16 = some a9 ∧ (P_X11_spotOf v2 v6 (fun x12 S10 => Gr S S10 → (ob S10 a9 14 ∧ (vp_in x12 (hN S10 a9) ∧ ∀ x14 : Int64, x14 = fJ S10 a9 x12.toNatClampNeg → ((((lg_cmp x14 (-1 : Int64)) = 0) → (P_X11_off_128 Q X67 v0 v2 v4 v5 v6 S10)) ∧ ((¬ (lg_cmp x14 (-1 : Int64)) = 0) → (((v5 = (-1 : Int32)) → (P_X11_off_124 Q X67 v0 v2 v4 v6 S10)) ∧ ((¬ v5 = (-1 : Int32)) → (∃ a17 : Nat, fR S10 v0 16 = some a17 ∧ (P_X11_spotOf v2 v6 (fun x20 S18 => Gr S10 S18 → (ob S18 a17 14 ∧ (vp_in x20 (hN S18 a17) ∧ ∀ x22 : Int64, x22 = fJ S18 a17 x20.toNatClampNeg → (∃ a23 : Nat, fR S18 v0 16 = some a23 ∧ (P_X11_spotOf v2 v5 (fun x26 S24 => Gr S18 S24 → (ob S24 a23 14 ∧ (vp_in x26 (hN S24 a23) ∧ ∀ x28 : Int64, x28 = fJ S24 a23 x26.toNatClampNeg → (((0 ≤ (lg_cmp x22 x28)) → (P_X11_off_128 Q X67 v0 v2 v4 v5 v6 S24)) ∧ ((¬ 0 ≤ (lg_cmp x22 x28)) → (P_X11_off_124 Q X67 v0 v2 v4 v6 S24)))))) S18))))) S10))))))))) S))))) : B_X11_off_67 Q X67 v0 v2 v4 v5 v6 S := h
theorem i_X11_off_67 {Q : Int32 → HS → Prop} (μ : Nat → Int32 → Int32 → Int32 → Int32 → HS → Nat) (I : Nat → Int32 → Int32 → Int32 → Int32 → HS → Prop) (hs : ∀ (v0 : Nat) (v2 : Int32) (v4 : Int32) (v5 : Int32) (v6 : Int32) (S : HS) (X : Nat → Int32 → Int32 → Int32 → Int32 → HS → Prop), I v0 v2 v4 v5 v6 S → (∀ (w0 : Nat) (w2 : Int32) (w4 : Int32) (w5 : Int32) (w6 : Int32) (T : HS), I w0 w2 w4 w5 w6 T → μ w0 w2 w4 w5 w6 T < μ v0 v2 v4 v5 v6 S → X w0 w2 w4 w5 w6 T) → B_X11_off_67 Q X v0 v2 v4 v5 v6 S) : ∀ (v0 : Nat) (v2 : Int32) (v4 : Int32) (v5 : Int32) (v6 : Int32) (S : HS), I v0 v2 v4 v5 v6 S → P_X11_off_67 Q v0 v2 v4 v5 v6 S := by
  intro v0 v2 v4 v5 v6 S h X hX
  have key : ∀ (z : Nat) (v0 : Nat) (v2 : Int32) (v4 : Int32) (v5 : Int32) (v6 : Int32) (S : HS), μ v0 v2 v4 v5 v6 S < z → I v0 v2 v4 v5 v6 S → X v0 v2 v4 v5 v6 S := by
    intro z
    induction z with
    | zero => intro v0 v2 v4 v5 v6 S hz; exact absurd hz (Nat.not_lt_zero _)
    | succ z ih => intro v0 v2 v4 v5 v6 S hz hI; exact hX _ _ _ _ _ _ (hs _ _ _ _ _ _ _ hI (fun w0 w2 w4 w5 w6 T hT hl => ih _ _ _ _ _ _ (by omega) hT))
  exact key _ _ _ _ _ _ _ (Nat.lt_succ_self _) h
theorem u_X11_off_124 {Q : Int32 → HS → Prop} {X67 : Nat → Int32 → Int32 → Int32 → Int32 → HS → Prop} {v0 : Nat} {v2 : Int32} {v4 : Int32} {v6 : Int32} {S : HS} (h : P_X11_off_128 Q X67 v0 v2 v4 v6 v6 S) : P_X11_off_124 Q X67 v0 v2 v4 v6 S := h
theorem u_X11_off_128 {Q : Int32 → HS → Prop} {X67 : Nat → Int32 → Int32 → Int32 → Int32 → HS → Prop} {v0 : Nat} {v2 : Int32} {v4 : Int32} {v5 : Int32} {v6 : Int32} {S : HS} (h : ∀ x1 : Int32, x1 = v6 + (1 : Int32) → (X67 v0 v2 v4 v5 x1 S)) : P_X11_off_128 Q X67 v0 v2 v4 v5 v6 S := h
theorem u_X11_refusesWay {v0 : Nat} {v1 : Int32} {v2 : Int32} {v3 : Int32} {v4 : Int32} {v5 : Int32} {Q : Int32 → HS → Prop} {S : HS} (h : P_X11_refusesWay_0 Q v0 v1 v2 v3 v4 v5 S) : P_X11_refusesWay v0 v1 v2 v3 v4 v5 Q S := h
theorem u_X11_refusesWay_0 {Q : Int32 → HS → Prop} {v0 : Nat} {v1 : Int32} {v2 : Int32} {v3 : Int32} {v4 : Int32} {v5 : Int32} {S : HS} (h : ob S v0 11 ∧ (P_X11_isWalker v0 v1 (fun x3 S1 => Gr S S1 → bl x3 → (((x3 = 0) → (Q (1 : Int32) S1)) ∧ ((¬ x3 = 0) → (P_X11_isPlace v0 v2 (fun x7 S5 => Gr S1 S5 → bl x7 → (((x7 = 0) → (Q (1 : Int32) S5)) ∧ ((¬ x7 = 0) → (P_X11_isPlace v0 v3 (fun x11 S9 => Gr S5 S9 → bl x11 → (((¬ x11 = 0) → (P_X11_in v5 (0 : Int32) (400 : Int32) (fun x15 S13 => Gr S9 S13 → bl x15 → (((x15 = 0) → (Q (2 : Int32) S13)) ∧ ((¬ x15 = 0) → (P_X11_in v4 (0 : Int32) v5 (fun x19 S17 => Gr S13 S17 → bl x19 → (((¬ x19 = 0) → (P_X11_laysWays v0 v1 v3 v5 (fun S21 => Gr S17 S21 → (∃ a24 : Nat, fR S21 v0 16 = some a24 ∧ (P_X11_spotOf v2 v4 (fun x27 S25 => Gr S21 S25 → (ob S25 a24 14 ∧ (vp_in x27 (hN S25 a24) ∧ ∀ x29 : Int64, x29 = fJ S25 a24 x27.toNatClampNeg → (((¬ (lg_cmp x29 (-1 : Int64)) = 0) → (Q (0 : Int32) S25)) ∧ (((lg_cmp x29 (-1 : Int64)) = 0) → (Q (6 : Int32) S25)))))) S21))) S17)) ∧ ((x19 = 0) → (Q (2 : Int32) S17)))) S13)))) S9)) ∧ ((x11 = 0) → (Q (1 : Int32) S9)))) S5)))) S1)))) S)) : P_X11_refusesWay_0 Q v0 v1 v2 v3 v4 v5 S := h
theorem u_X11_spotOf {v0 : Int32} {v1 : Int32} {Q : Int32 → HS → Prop} {S : HS} (h : P_X11_spotOf_0 Q v0 v1 S) : P_X11_spotOf v0 v1 Q S := h
theorem u_X11_spotOf_0 {Q : Int32 → HS → Prop} {v0 : Int32} {v1 : Int32} {S : HS} (h : Q (((8 : Int32) * v1) + v0) S) : P_X11_spotOf_0 Q v0 v1 S := h
theorem u_X11_step {v0 : Nat} {v1 : Int32} {v2 : Int32} {v3 : Int32} {v4 : Int32} {v5 : Int32} {v6 : Int32} {Q : Int32 → HS → Prop} {S : HS} (h : P_X11_step_0 Q v0 v1 v2 v3 v4 v5 v6 S) : P_X11_step v0 v1 v2 v3 v4 v5 v6 Q S := h
theorem u_X11_step_0 {Q : Int32 → HS → Prop} {v0 : Nat} {v1 : Int32} {v2 : Int32} {v3 : Int32} {v4 : Int32} {v5 : Int32} {v6 : Int32} {S : HS} (h : ob S v0 11 ∧ (∀ S1 : HS, S1 = sI S v0 0 (0 : Int32) → (P_X11_refusesWay v0 v1 v2 v3 v4 v5 (fun x4 S2 => Gr S1 S2 → (((x4 ≤ 0) → (((0 ≤ v6) → (P_X11_stepOf v0 v1 v2 v4 v6 (fun x9 S7 => Gr S2 S7 → (P_X11_step_49 Q v0 x9 S7)) S2)) ∧ ((¬ 0 ≤ v6) → (P_X11_step_49 Q v0 (-1 : Int32) S2)))) ∧ ((¬ x4 ≤ 0) → (P_X11_refused v0 x4 (fun x12 S10 => Gr S2 S10 → (Q x12 S10)) S2)))) S1))) : P_X11_step_0 Q v0 v1 v2 v3 v4 v5 v6 S := h
theorem u_X11_step_49 {Q : Int32 → HS → Prop} {v0 : Nat} {s0 : Int32} {S : HS} (h : ((¬ s0 = (-1 : Int32)) → (ob S v0 11 ∧ (P_X11_good v0 s0 (fun x4 S2 => Gr S S2 → (Q x4 S2)) S))) ∧ ((s0 = (-1 : Int32)) → (ob S v0 11 ∧ (P_X11_refused v0 (1 : Int32) (fun x7 S5 => Gr S S5 → (Q x7 S5)) S)))) : P_X11_step_49 Q v0 s0 S := h
theorem u_X11_stepOf {v0 : Nat} {v1 : Int32} {v2 : Int32} {v3 : Int32} {v4 : Int32} {Q : Int32 → HS → Prop} {S : HS} (h : P_X11_stepOf_0 Q v0 v2 v3 v4 S) : P_X11_stepOf v0 v1 v2 v3 v4 Q S := h
theorem u_X11_stepOf_0 {Q : Int32 → HS → Prop} {v0 : Nat} {v2 : Int32} {v3 : Int32} {v4 : Int32} {S : HS} (h : P_X11_stepOf_9 Q v0 v4 v2 v3 (0 : Int32) S) : P_X11_stepOf_0 Q v0 v2 v3 v4 S := h
theorem u_X11_stepOf_9 {Q : Int32 → HS → Prop} {X9 : Nat → Int32 → Int32 → Int32 → Int32 → HS → Prop} {v0 : Nat} {v4 : Int32} {v5 : Int32} {v6 : Int32} {v7 : Int32} {S : HS} (h : ob S v0 11 ∧ (∃ a1 : Nat, fR S v0 18 = some a1 ∧ (P_X11_spotOf v5 v6 (fun x4 S2 => Gr S S2 → (ob S2 a1 13 ∧ (vp_in x4 (hN S2 a1) ∧ ∀ x6 : Int32, x6 = fI S2 a1 x4.toNatClampNeg → (((x6 = (-1 : Int32)) → (((0 ≤ v4) → (Q (-1 : Int32) S2)) ∧ ((¬ 0 ≤ v4) → (Q v7 S2)))) ∧ ((¬ x6 = (-1 : Int32)) → (∃ a9 : Nat, fR S2 v0 18 = some a9 ∧ (P_X11_spotOf v5 v6 (fun x12 S10 => Gr S2 S10 → (ob S10 a9 13 ∧ (vp_in x12 (hN S10 a9) ∧ ∀ x14 : Int32, x14 = fI S10 a9 x12.toNatClampNeg → (((¬ v7 = v4) → (∀ x16 : Int32, x16 = v7 + (1 : Int32) → (((¬ x14 = (-2 : Int32)) → (∃ a18 : Nat, fR S10 v0 3 = some a18 ∧ (∀ x19 : Int32, x19 = x14 / (100 : Int32) → (∀ x20 : Int32, x20 = x14 - x14 / (10 : Int32) * (10 : Int32) → (ob S10 a18 10 ∧ (P_X10_minutes a18 x19 x20 (fun x23 S21 => Gr S10 S21 → (P_X11_stepOf_82 Q X9 v0 v4 v5 x16 x14 v6 x23 S21)) S10)))))) ∧ ((x14 = (-2 : Int32)) → (P_X11_stepOf_82 Q X9 v0 v4 v5 x16 x14 v6 (1 : Int32) S10))))) ∧ ((v7 = v4) → (Q x14 S10)))))) S2))))))) S))) : B_X11_stepOf_9 Q X9 v0 v4 v5 v6 v7 S := h
theorem i_X11_stepOf_9 {Q : Int32 → HS → Prop} (μ : Nat → Int32 → Int32 → Int32 → Int32 → HS → Nat) (I : Nat → Int32 → Int32 → Int32 → Int32 → HS → Prop) (hs : ∀ (v0 : Nat) (v4 : Int32) (v5 : Int32) (v6 : Int32) (v7 : Int32) (S : HS) (X : Nat → Int32 → Int32 → Int32 → Int32 → HS → Prop), I v0 v4 v5 v6 v7 S → (∀ (w0 : Nat) (w4 : Int32) (w5 : Int32) (w6 : Int32) (w7 : Int32) (T : HS), I w0 w4 w5 w6 w7 T → μ w0 w4 w5 w6 w7 T < μ v0 v4 v5 v6 v7 S → X w0 w4 w5 w6 w7 T) → B_X11_stepOf_9 Q X v0 v4 v5 v6 v7 S) : ∀ (v0 : Nat) (v4 : Int32) (v5 : Int32) (v6 : Int32) (v7 : Int32) (S : HS), I v0 v4 v5 v6 v7 S → P_X11_stepOf_9 Q v0 v4 v5 v6 v7 S := by
  intro v0 v4 v5 v6 v7 S h X hX
  have key : ∀ (z : Nat) (v0 : Nat) (v4 : Int32) (v5 : Int32) (v6 : Int32) (v7 : Int32) (S : HS), μ v0 v4 v5 v6 v7 S < z → I v0 v4 v5 v6 v7 S → X v0 v4 v5 v6 v7 S := by
    intro z
    induction z with
    | zero => intro v0 v4 v5 v6 v7 S hz; exact absurd hz (Nat.not_lt_zero _)
    | succ z ih => intro v0 v4 v5 v6 v7 S hz hI; exact hX _ _ _ _ _ _ (hs _ _ _ _ _ _ _ hI (fun w0 w4 w5 w6 w7 T hT hl => ih _ _ _ _ _ _ (by omega) hT))
  exact key _ _ _ _ _ _ _ (Nat.lt_succ_self _) h
theorem u_X11_stepOf_82 {Q : Int32 → HS → Prop} {X9 : Nat → Int32 → Int32 → Int32 → Int32 → HS → Prop} {v0 : Nat} {v4 : Int32} {v5 : Int32} {v7 : Int32} {v8 : Int32} {s0 : Int32} {s1 : Int32} {S : HS} (h : ∀ x1 : Int32, x1 = s0 + s1 → (((¬ v8 = (-2 : Int32)) → (ob S v0 11 ∧ (∃ a3 : Nat, fR S v0 3 = some a3 ∧ (∀ x4 : Int32, x4 = v8 / (100 : Int32) → (∀ x5 : Int32, x5 = v8 / (10 : Int32) → (∀ x6 : Int32, x6 = x5 - x5 / (10 : Int32) * (10 : Int32) → (ob S a3 10 ∧ (P_X10_ends a3 x4 x6 (fun x9 S7 => Gr S S7 → (P_X11_stepOf_117 Q X9 v0 v4 x1 v7 x9 S7)) S)))))))) ∧ ((v8 = (-2 : Int32)) → (P_X11_stepOf_117 Q X9 v0 v4 x1 v7 v5 S)))) : P_X11_stepOf_82 Q X9 v0 v4 v5 v7 v8 s0 s1 S := h
theorem u_X11_stepOf_117 {Q : Int32 → HS → Prop} {X9 : Nat → Int32 → Int32 → Int32 → Int32 → HS → Prop} {v0 : Nat} {v4 : Int32} {v6 : Int32} {v7 : Int32} {s0 : Int32} {S : HS} (h : X9 v0 v4 s0 v6 v7 S) : P_X11_stepOf_117 Q X9 v0 v4 v6 v7 s0 S := h
theorem u_X11_steps {v0 : Nat} {v1 : Int32} {v2 : Int32} {v3 : Int32} {v4 : Int32} {v5 : Int32} {Q : Int32 → HS → Prop} {S : HS} (h : P_X11_steps_0 Q v0 v1 v2 v3 v4 v5 S) : P_X11_steps v0 v1 v2 v3 v4 v5 Q S := h
theorem u_X11_steps_0 {Q : Int32 → HS → Prop} {v0 : Nat} {v1 : Int32} {v2 : Int32} {v3 : Int32} {v4 : Int32} {v5 : Int32} {S : HS} (h : ob S v0 11 ∧ (∀ S1 : HS, S1 = sI S v0 0 (0 : Int32) → (P_X11_refusesWay v0 v1 v2 v3 v4 v5 (fun x4 S2 => Gr S1 S2 → (((x4 ≤ 0) → (P_X11_stepOf v0 v1 v2 v4 (-1 : Int32) (fun x8 S6 => Gr S2 S6 → (P_X11_good v0 x8 (fun x11 S9 => Gr S6 S9 → (Q x11 S9)) S6)) S2)) ∧ ((¬ x4 ≤ 0) → (P_X11_refused v0 x4 (fun x14 S12 => Gr S2 S12 → (Q x14 S12)) S2)))) S1))) : P_X11_steps_0 Q v0 v1 v2 v3 v4 v5 S := h
theorem u_X11_takes {v0 : Nat} {v1 : Int32} {v2 : Int32} {v3 : Int64} {v5 : Int32} {Q : HS → Prop} {S : HS} (h : P_X11_takes_0 Q v0 v1 v2 v3 v5 S) : P_X11_takes v0 v1 v2 v3 v5 Q S := h
theorem u_X11_takes_0 {Q : HS → Prop} {v0 : Nat} {v1 : Int32} {v2 : Int32} {v3 : Int64} {v5 : Int32} {S : HS} (h : ob S v0 11 ∧ (∃ a1 : Nat, fR S v0 16 = some a1 ∧ (ob S a1 14 ∧ (vp_in v2 (hN S a1) ∧ ∀ x3 : Int64, x3 = fJ S a1 v2.toNatClampNeg → (((¬ (lg_cmp x3 (-1 : Int64)) = 0) → (∃ a5 : Nat, fR S v0 16 = some a5 ∧ (ob S a5 14 ∧ (vp_in v2 (hN S a5) ∧ ∀ x7 : Int64, x7 = fJ S a5 v2.toNatClampNeg → (∀ x8 : Int64, x8 = v3 + x7 → (∃ a9 : Nat, fR S v0 16 = some a9 ∧ (ob S a9 14 ∧ (vp_in v1 (hN S a9) ∧ ∀ x11 : Int64, x11 = fJ S a9 v1.toNatClampNeg → ((((lg_cmp x11 (-1 : Int64)) = 0) → (P_X11_takes_77 Q v0 v1 v2 v5 x8 S)) ∧ ((¬ (lg_cmp x11 (-1 : Int64)) = 0) → (∃ a13 : Nat, fR S v0 16 = some a13 ∧ (ob S a13 14 ∧ (vp_in v1 (hN S a13) ∧ ∀ x15 : Int64, x15 = fJ S a13 v1.toNatClampNeg → (((0 < (lg_cmp x8 x15)) → (Q S)) ∧ ((¬ 0 < (lg_cmp x8 x15)) → (∃ a17 : Nat, fR S v0 16 = some a17 ∧ (ob S a17 14 ∧ (vp_in v1 (hN S a17) ∧ ∀ x19 : Int64, x19 = fJ S a17 v1.toNatClampNeg → (((¬ (lg_cmp x8 x19) = 0) → (P_X11_takes_77 Q v0 v1 v2 v5 x8 S)) ∧ (((lg_cmp x8 x19) = 0) → (∃ a21 : Nat, fR S v0 17 = some a21 ∧ (ob S a21 13 ∧ (vp_in v2 (hN S a21) ∧ ∀ x23 : Int32, x23 = fI S a21 v2.toNatClampNeg → (∃ a24 : Nat, fR S v0 17 = some a24 ∧ (ob S a24 13 ∧ (vp_in v1 (hN S a24) ∧ ∀ x26 : Int32, x26 = fI S a24 v1.toNatClampNeg → (((x23 < x26) → (P_X11_takes_77 Q v0 v1 v2 v5 x8 S)) ∧ ((¬ x23 < x26) → (Q S))))))))))))))))))))))))))))) ∧ (((lg_cmp x3 (-1 : Int64)) = 0) → (Q S))))))) : P_X11_takes_0 Q v0 v1 v2 v3 v5 S := h
theorem u_X11_takes_77 {Q : HS → Prop} {v0 : Nat} {v1 : Int32} {v2 : Int32} {v5 : Int32} {v6 : Int64} {S : HS} (h : ob S v0 11 ∧ (∃ a1 : Nat, fR S v0 16 = some a1 ∧ (ob S a1 14 ∧ (vp_in v1 (hN S a1) ∧ (∀ S3 : HS, S3 = sJ S a1 v1.toNatClampNeg v6 → (∃ a4 : Nat, fR S3 v0 17 = some a4 ∧ (∃ a5 : Nat, fR S3 v0 17 = some a5 ∧ (ob S3 a5 13 ∧ (vp_in v2 (hN S3 a5) ∧ ∀ x7 : Int32, x7 = fI S3 a5 v2.toNatClampNeg → (ob S3 a4 13 ∧ (vp_in v1 (hN S3 a4) ∧ (∀ S9 : HS, S9 = sI S3 a4 v1.toNatClampNeg x7 → (∃ a10 : Nat, fR S9 v0 18 = some a10 ∧ (ob S9 a10 13 ∧ (vp_in v1 (hN S9 a10) ∧ (∀ S12 : HS, S12 = sI S9 a10 v1.toNatClampNeg v5 → (Q S12))))))))))))))))) : P_X11_takes_77 Q v0 v1 v2 v5 v6 S := h
theorem u_X11_there {v0 : Nat} {v1 : Int32} {v2 : Int32} {v3 : Int32} {v4 : Int32} {v5 : Int32} {Q : Int32 → HS → Prop} {S : HS} (h : P_X11_there_0 Q v0 v1 v2 v3 v4 v5 S) : P_X11_there v0 v1 v2 v3 v4 v5 Q S := h
theorem u_X11_there_0 {Q : Int32 → HS → Prop} {v0 : Nat} {v1 : Int32} {v2 : Int32} {v3 : Int32} {v4 : Int32} {v5 : Int32} {S : HS} (h : ob S v0 11 ∧ (∀ S1 : HS, S1 = sI S v0 0 (0 : Int32) → (P_X11_refusesWay v0 v1 v2 v3 v4 v5 (fun x4 S2 => Gr S1 S2 → (((x4 ≤ 0) → (∃ a6 : Nat, fR S2 v0 17 = some a6 ∧ (P_X11_spotOf v2 v4 (fun x9 S7 => Gr S2 S7 → (ob S7 a6 13 ∧ (vp_in x9 (hN S7 a6) ∧ ∀ x11 : Int32, x11 = fI S7 a6 x9.toNatClampNeg → (P_X11_good v0 x11 (fun x14 S12 => Gr S7 S12 → (Q x14 S12)) S7)))) S2))) ∧ ((¬ x4 ≤ 0) → (P_X11_refused v0 x4 (fun x17 S15 => Gr S2 S15 → (Q x17 S15)) S2)))) S1))) : P_X11_there_0 Q v0 v1 v2 v3 v4 v5 S := h
theorem u_X11_tries {v0 : Nat} {v1 : Int32} {v2 : Int32} {v3 : Int32} {v4 : Int32} {Q : HS → Prop} {S : HS} (h : P_X11_tries_0 Q v0 v1 v2 v3 v4 S) : P_X11_tries v0 v1 v2 v3 v4 Q S := h
theorem u_X11_tries_0 {Q : HS → Prop} {v0 : Nat} {v1 : Int32} {v2 : Int32} {v3 : Int32} {v4 : Int32} {S : HS} (h : P_X11_tries_3 Q v0 v1 v2 v3 v4 (0 : Int32) S) : P_X11_tries_0 Q v0 v1 v2 v3 v4 S := h
theorem u_X11_tries_3 {Q : HS → Prop} {X3 : Nat → Int32 → Int32 → Int32 → Int32 → Int32 → HS → Prop} {v0 : Nat} {v1 : Int32} {v2 : Int32} {v3 : Int32} {v4 : Int32} {v5 : Int32} {S : HS} (h : ob S v0 11 ∧ (∃ a1 : Nat, fR S v0 3 = some a1 ∧ (ob S a1 10 ∧ (∀ x2 : Int32, x2 = fI S a1 3 → (((x2 ≤ v5) → (P_X11_canWait v0 v2 (fun x6 S4 => Gr S S4 → bl x6 → (((x6 = 0) → (Q S4)) ∧ ((¬ x6 = 0) → (((v4 ≤ v3) → (Q S4)) ∧ ((¬ v4 ≤ v3) → (P_X11_spotOf v2 v3 (fun x11 S9 => Gr S4 S9 → (P_X11_spotOf v2 (v3 + (1 : Int32)) (fun x14 S12 => Gr S9 S12 → (P_X11_waitsOf v0 v1 v2 v3 (fun x17 S15 => Gr S12 S15 → (P_X11_takes v0 x11 x14 x17 (-2 : Int32) (fun S18 => Gr S15 S18 → (Q S18)) S15)) S12)) S9)) S4)))))) S)) ∧ ((¬ x2 ≤ v5) → (P_X11_tries_18 Q X3 v0 v1 v2 v3 v4 v5 (0 : Int32) S))))))) : B_X11_tries_3 Q X3 v0 v1 v2 v3 v4 v5 S := h
theorem i_X11_tries_3 {Q : HS → Prop} (μ : Nat → Int32 → Int32 → Int32 → Int32 → Int32 → HS → Nat) (I : Nat → Int32 → Int32 → Int32 → Int32 → Int32 → HS → Prop) (hs : ∀ (v0 : Nat) (v1 : Int32) (v2 : Int32) (v3 : Int32) (v4 : Int32) (v5 : Int32) (S : HS) (X : Nat → Int32 → Int32 → Int32 → Int32 → Int32 → HS → Prop), I v0 v1 v2 v3 v4 v5 S → (∀ (w0 : Nat) (w1 : Int32) (w2 : Int32) (w3 : Int32) (w4 : Int32) (w5 : Int32) (T : HS), I w0 w1 w2 w3 w4 w5 T → μ w0 w1 w2 w3 w4 w5 T < μ v0 v1 v2 v3 v4 v5 S → X w0 w1 w2 w3 w4 w5 T) → B_X11_tries_3 Q X v0 v1 v2 v3 v4 v5 S) : ∀ (v0 : Nat) (v1 : Int32) (v2 : Int32) (v3 : Int32) (v4 : Int32) (v5 : Int32) (S : HS), I v0 v1 v2 v3 v4 v5 S → P_X11_tries_3 Q v0 v1 v2 v3 v4 v5 S := by
  intro v0 v1 v2 v3 v4 v5 S h X hX
  have key : ∀ (z : Nat) (v0 : Nat) (v1 : Int32) (v2 : Int32) (v3 : Int32) (v4 : Int32) (v5 : Int32) (S : HS), μ v0 v1 v2 v3 v4 v5 S < z → I v0 v1 v2 v3 v4 v5 S → X v0 v1 v2 v3 v4 v5 S := by
    intro z
    induction z with
    | zero => intro v0 v1 v2 v3 v4 v5 S hz; exact absurd hz (Nat.not_lt_zero _)
    | succ z ih => intro v0 v1 v2 v3 v4 v5 S hz hI; exact hX _ _ _ _ _ _ _ (hs _ _ _ _ _ _ _ _ hI (fun w0 w1 w2 w3 w4 w5 T hT hl => ih _ _ _ _ _ _ _ (by omega) hT))
  exact key _ _ _ _ _ _ _ _ (Nat.lt_succ_self _) h
theorem u_X11_tries_18 {Q : HS → Prop} {X3 : Nat → Int32 → Int32 → Int32 → Int32 → Int32 → HS → Prop} {X18 : Nat → Int32 → Int32 → Int32 → Int32 → Int32 → Int32 → HS → Prop} {v0 : Nat} {v1 : Int32} {v2 : Int32} {v3 : Int32} {v4 : Int32} {v5 : Int32} {v6 : Int32} {S : HS} (h : (((2 : Int32) ≤ v6) → (∀ x2 : Int32, x2 = v5 + (1 : Int32) → (X3 v0 v1 v2 v3 v4 x2 S))) ∧ ((¬ (2 : Int32) ≤ v6) → (ob S v0 11 ∧ (∃ a3 : Nat, fR S v0 3 = some a3 ∧ (ob S a3 10 ∧ (P_X10_begins a3 v5 v6 (fun x6 S4 => Gr S S4 → (((x6 = v2) → (∃ a8 : Nat, fR S4 v0 3 = some a8 ∧ (ob S4 a8 10 ∧ (∃ a9 : Nat, fR S4 a8 24 = some a9 ∧ (ob S4 a9 13 ∧ (vp_in v1 (hN S4 a9) ∧ ∀ x11 : Int32, x11 = fI S4 a9 v1.toNatClampNeg → (P_X11_tries_53 Q X3 X18 v0 v1 v2 v3 v4 v5 v6 x11 S4))))))) ∧ ((¬ x6 = v2) → (P_X11_tries_146 Q X3 X18 v0 v1 v2 v3 v4 v5 v6 S4)))) S)))))) : B_X11_tries_18 Q X3 X18 v0 v1 v2 v3 v4 v5 v6 S := h
theorem i_X11_tries_18 {Q : HS → Prop} {X3 : Nat → Int32 → Int32 → Int32 → Int32 → Int32 → HS → Prop} (μ : Nat → Int32 → Int32 → Int32 → Int32 → Int32 → Int32 → HS → Nat) (I : Nat → Int32 → Int32 → Int32 → Int32 → Int32 → Int32 → HS → Prop) (hs : ∀ (v0 : Nat) (v1 : Int32) (v2 : Int32) (v3 : Int32) (v4 : Int32) (v5 : Int32) (v6 : Int32) (S : HS) (X : Nat → Int32 → Int32 → Int32 → Int32 → Int32 → Int32 → HS → Prop), I v0 v1 v2 v3 v4 v5 v6 S → (∀ (w0 : Nat) (w1 : Int32) (w2 : Int32) (w3 : Int32) (w4 : Int32) (w5 : Int32) (w6 : Int32) (T : HS), I w0 w1 w2 w3 w4 w5 w6 T → μ w0 w1 w2 w3 w4 w5 w6 T < μ v0 v1 v2 v3 v4 v5 v6 S → X w0 w1 w2 w3 w4 w5 w6 T) → B_X11_tries_18 Q X3 X v0 v1 v2 v3 v4 v5 v6 S) : ∀ (v0 : Nat) (v1 : Int32) (v2 : Int32) (v3 : Int32) (v4 : Int32) (v5 : Int32) (v6 : Int32) (S : HS), I v0 v1 v2 v3 v4 v5 v6 S → P_X11_tries_18 Q X3 v0 v1 v2 v3 v4 v5 v6 S := by
  intro v0 v1 v2 v3 v4 v5 v6 S h X hX
  have key : ∀ (z : Nat) (v0 : Nat) (v1 : Int32) (v2 : Int32) (v3 : Int32) (v4 : Int32) (v5 : Int32) (v6 : Int32) (S : HS), μ v0 v1 v2 v3 v4 v5 v6 S < z → I v0 v1 v2 v3 v4 v5 v6 S → X v0 v1 v2 v3 v4 v5 v6 S := by
    intro z
    induction z with
    | zero => intro v0 v1 v2 v3 v4 v5 v6 S hz; exact absurd hz (Nat.not_lt_zero _)
    | succ z ih => intro v0 v1 v2 v3 v4 v5 v6 S hz hI; exact hX _ _ _ _ _ _ _ _ (hs _ _ _ _ _ _ _ _ _ hI (fun w0 w1 w2 w3 w4 w5 w6 T hT hl => ih _ _ _ _ _ _ _ _ (by omega) hT))
  exact key _ _ _ _ _ _ _ _ _ (Nat.lt_succ_self _) h
theorem u_X11_tries_53 {Q : HS → Prop} {X3 : Nat → Int32 → Int32 → Int32 → Int32 → Int32 → HS → Prop} {X18 : Nat → Int32 → Int32 → Int32 → Int32 → Int32 → Int32 → HS → Prop} {X53 : Nat → Int32 → Int32 → Int32 → Int32 → Int32 → Int32 → Int32 → HS → Prop} {v0 : Nat} {v1 : Int32} {v2 : Int32} {v3 : Int32} {v4 : Int32} {v5 : Int32} {v6 : Int32} {v7 : Int32} {S : HS} (h : ob S v0 11 ∧ (∃ a1 : Nat, fR S v0 3 = some a1 ∧ (ob S a1 10 ∧ (∃ a2 : Nat, fR S a1 25 = some a2 ∧ (ob S a2 13 ∧ (vp_in v1 (hN S a2) ∧ ∀ x4 : Int32, x4 = fI S a2 v1.toNatClampNeg → (((x4 < v7) → (P_X11_tries_146 Q X3 X18 v0 v1 v2 v3 v4 v5 v6 S)) ∧ ((¬ x4 < v7) → (∃ a6 : Nat, fR S v0 3 = some a6 ∧ (ob S a6 10 ∧ (P_X10_minutes a6 v5 v7 (fun x9 S7 => Gr S S7 → (∀ x10 : Int32, x10 = v3 + x9 → (((v4 < x10) → (P_X11_tries_140 Q X3 X18 X53 v0 v1 v2 v3 v4 v5 v6 v7 S7)) ∧ ((¬ v4 < x10) → (P_X11_spotOf v2 v3 (fun x14 S12 => Gr S7 S12 → (∃ a15 : Nat, fR S12 v0 3 = some a15 ∧ (ob S12 a15 10 ∧ (P_X10_ends a15 v5 v6 (fun x18 S16 => Gr S12 S16 → (P_X11_spotOf x18 x10 (fun x21 S19 => Gr S16 S19 → (P_X11_meanOf v0 v1 v5 v6 v3 v7 (fun x24 S22 => Gr S19 S22 → (P_X11_takes v0 x14 x21 x24 ((((100 : Int32) * v5) + ((10 : Int32) * v6)) + v7) (fun S25 => Gr S22 S25 → (P_X11_tries_140 Q X3 X18 X53 v0 v1 v2 v3 v4 v5 v6 v7 S25)) S22)) S19)) S16)) S12)))) S7))))) S))))))))))) : B_X11_tries_53 Q X3 X18 X53 v0 v1 v2 v3 v4 v5 v6 v7 S := h
theorem i_X11_tries_53 {Q : HS → Prop} {X3 : Nat → Int32 → Int32 → Int32 → Int32 → Int32 → HS → Prop} {X18 : Nat → Int32 → Int32 → Int32 → Int32 → Int32 → Int32 → HS → Prop} (μ : Nat → Int32 → Int32 → Int32 → Int32 → Int32 → Int32 → Int32 → HS → Nat) (I : Nat → Int32 → Int32 → Int32 → Int32 → Int32 → Int32 → Int32 → HS → Prop) (hs : ∀ (v0 : Nat) (v1 : Int32) (v2 : Int32) (v3 : Int32) (v4 : Int32) (v5 : Int32) (v6 : Int32) (v7 : Int32) (S : HS) (X : Nat → Int32 → Int32 → Int32 → Int32 → Int32 → Int32 → Int32 → HS → Prop), I v0 v1 v2 v3 v4 v5 v6 v7 S → (∀ (w0 : Nat) (w1 : Int32) (w2 : Int32) (w3 : Int32) (w4 : Int32) (w5 : Int32) (w6 : Int32) (w7 : Int32) (T : HS), I w0 w1 w2 w3 w4 w5 w6 w7 T → μ w0 w1 w2 w3 w4 w5 w6 w7 T < μ v0 v1 v2 v3 v4 v5 v6 v7 S → X w0 w1 w2 w3 w4 w5 w6 w7 T) → B_X11_tries_53 Q X3 X18 X v0 v1 v2 v3 v4 v5 v6 v7 S) : ∀ (v0 : Nat) (v1 : Int32) (v2 : Int32) (v3 : Int32) (v4 : Int32) (v5 : Int32) (v6 : Int32) (v7 : Int32) (S : HS), I v0 v1 v2 v3 v4 v5 v6 v7 S → P_X11_tries_53 Q X3 X18 v0 v1 v2 v3 v4 v5 v6 v7 S := by
  intro v0 v1 v2 v3 v4 v5 v6 v7 S h X hX
  have key : ∀ (z : Nat) (v0 : Nat) (v1 : Int32) (v2 : Int32) (v3 : Int32) (v4 : Int32) (v5 : Int32) (v6 : Int32) (v7 : Int32) (S : HS), μ v0 v1 v2 v3 v4 v5 v6 v7 S < z → I v0 v1 v2 v3 v4 v5 v6 v7 S → X v0 v1 v2 v3 v4 v5 v6 v7 S := by
    intro z
    induction z with
    | zero => intro v0 v1 v2 v3 v4 v5 v6 v7 S hz; exact absurd hz (Nat.not_lt_zero _)
    | succ z ih => intro v0 v1 v2 v3 v4 v5 v6 v7 S hz hI; exact hX _ _ _ _ _ _ _ _ _ (hs _ _ _ _ _ _ _ _ _ _ hI (fun w0 w1 w2 w3 w4 w5 w6 w7 T hT hl => ih _ _ _ _ _ _ _ _ _ (by omega) hT))
  exact key _ _ _ _ _ _ _ _ _ _ (Nat.lt_succ_self _) h
theorem u_X11_tries_140 {Q : HS → Prop} {X3 : Nat → Int32 → Int32 → Int32 → Int32 → Int32 → HS → Prop} {X18 : Nat → Int32 → Int32 → Int32 → Int32 → Int32 → Int32 → HS → Prop} {X53 : Nat → Int32 → Int32 → Int32 → Int32 → Int32 → Int32 → Int32 → HS → Prop} {v0 : Nat} {v1 : Int32} {v2 : Int32} {v3 : Int32} {v4 : Int32} {v5 : Int32} {v6 : Int32} {v7 : Int32} {S : HS} (h : ∀ x1 : Int32, x1 = v7 + (1 : Int32) → (X53 v0 v1 v2 v3 v4 v5 v6 x1 S)) : P_X11_tries_140 Q X3 X18 X53 v0 v1 v2 v3 v4 v5 v6 v7 S := h
theorem u_X11_tries_146 {Q : HS → Prop} {X3 : Nat → Int32 → Int32 → Int32 → Int32 → Int32 → HS → Prop} {X18 : Nat → Int32 → Int32 → Int32 → Int32 → Int32 → Int32 → HS → Prop} {v0 : Nat} {v1 : Int32} {v2 : Int32} {v3 : Int32} {v4 : Int32} {v5 : Int32} {v6 : Int32} {S : HS} (h : ∀ x1 : Int32, x1 = v6 + (1 : Int32) → (X18 v0 v1 v2 v3 v4 v5 x1 S)) : P_X11_tries_146 Q X3 X18 v0 v1 v2 v3 v4 v5 v6 S := h
theorem u_X11_waitsOf {v0 : Nat} {v1 : Int32} {v2 : Int32} {v3 : Int32} {Q : Int64 → HS → Prop} {S : HS} (h : P_X11_waitsOf_0 Q v0 v1 v2 v3 S) : P_X11_waitsOf v0 v1 v2 v3 Q S := h
theorem u_X11_waitsOf_0 {Q : Int64 → HS → Prop} {v0 : Nat} {v1 : Int32} {v2 : Int32} {v3 : Int32} {S : HS} (h : ob S v0 11 ∧ (P_X11_hourOf v0 v3 (fun x3 S1 => Gr S S1 → (∃ a4 : Nat, fR S1 v0 3 = some a4 ∧ (ob S1 a4 10 ∧ (∃ a5 : Nat, fR S1 a4 18 = some a5 ∧ (ob S1 a5 15 ∧ (vp_in v2 (hN S1 a5) ∧ ∀ x7 : Int32, x7 = fI S1 a5 v2.toNatClampNeg → (((¬ x7 = 0) → (Q (0 : Int64) S1)) ∧ ((x7 = 0) → (∃ a9 : Nat, fR S1 v0 3 = some a9 ∧ (ob S1 a9 10 ∧ (∀ x10 : Int32, x10 = fI S1 a9 1 → (((x3 < x10) → (P_X11_drips v0 v1 v2 (fun x14 S12 => Gr S1 S12 → (∃ a15 : Nat, fR S12 v0 3 = some a15 ∧ (ob S12 a15 10 ∧ (∃ a16 : Nat, fR S12 a15 11 = some a16 ∧ (ob S12 a16 13 ∧ (vp_in x3 (hN S12 a16) ∧ ∀ x18 : Int32, x18 = fI S12 a16 x3.toNatClampNeg → (Q (x14 * x18.toInt64) S12))))))) S1)) ∧ ((¬ x3 < x10) → (Q (0 : Int64) S1)))))))))))))) S)) : P_X11_waitsOf_0 Q v0 v1 v2 v3 S := h
end
section
set_option maxHeartbeats 4000000 in
set_option maxRecDepth 20000 in
theorem m_X11_takes {v0 : Nat} {v1 : Int32} {v2 : Int32} {v3 : Int64} {v5 : Int32} {Q : HS → Prop} {S : HS} (hI : IV S) (o_v0 : ob S v0 11)   (h0 : 0 ≤ v1 ∧ v1 < 3208) (h1 : 0 ≤ v2 ∧ v2 < 3208)  (hq : ∀ (T : HS), IV T → Gr S T → FRI [] [] S T → (TK S T v0 v1 v5) → Q T) : P_X11_takes v0 v1 v2 v3 v5 Q S := by
  have g0 := gr_rf S
  have f0 := fri_rf [] [] S
  have hK : TK S S v0 v1 v5 := tk_rf S v0 v1 v5
  refine u_X11_takes ?_
  refine u_X11_takes_0 ?_
  refine ⟨o_v0, ?_⟩
  obtain ⟨a1, ea1, o_a1, l_a1⟩ := shl 54 rfl hI o_v0
  refine ⟨a1, ea1, ?_⟩
  refine ⟨o_a1, ?_⟩
  refine ⟨(vin l_a1 (m := 3208) (by decide) (qw270 h1)), ?_⟩
  intro x2 ex2
  refine ⟨fun c3 => ?_, fun c3 => ?_⟩
  · refine ⟨a1, ea1, ?_⟩
    refine ⟨o_a1, ?_⟩
    refine ⟨(vin l_a1 (m := 3208) (by decide) (qw271 h1 c3)), ?_⟩
    intro x5 ex5
    intro x6 ex6
    refine ⟨a1, ea1, ?_⟩
    refine ⟨o_a1, ?_⟩
    refine ⟨(vin l_a1 (m := 3208) (by decide) (qw271 h0 c3)), ?_⟩
    intro x8 ex8
    refine ⟨fun c9 => ?_, fun c9 => ?_⟩
    · refine u_X11_takes_77 ?_
      refine ⟨o_v0, ?_⟩
      refine ⟨a1, ea1, ?_⟩
      refine ⟨o_a1, ?_⟩
      have i11 : vp_in v1 (hN _ a1) := (vin l_a1 (m := 3208) (by decide) (qw272 h0 c3 c9))
      refine ⟨i11, ?_⟩
      intro S12 eS12
      have hIn : IV S12 := by rw [eS12]; exact iv11_aJ hI o_v0 (by decide) ea1
      have hK := tk_J eS12 hK
      have hI := hIn
      have f0 := fr_J eS12 f0
      have ea1 := rf_J eS12 ea1
      have l_a1 := ln_J eS12 l_a1
      have g0 := gr_J eS12 g0
      have o_a1 := ob_J eS12 o_a1
      have o_v0 := ob_J eS12 o_v0
      obtain ⟨a13, ea13, o_a13, l_a13⟩ := shl 55 rfl hI o_v0
      refine ⟨a13, ea13, ?_⟩
      refine ⟨a13, ea13, ?_⟩
      refine ⟨o_a13, ?_⟩
      refine ⟨(vin l_a13 (m := 3208) (by decide) (qw272 h1 c3 c9)), ?_⟩
      intro x15 ex15
      refine ⟨o_a13, ?_⟩
      have i16 : vp_in v1 (hN _ a13) := (vin l_a13 (m := 3208) (by decide) (qw272 h0 c3 c9))
      refine ⟨i16, ?_⟩
      intro S17 eS17
      have hIn : IV S17 := by rw [eS17]; exact iv11_aI hI o_v0 ea13 o_a13 (by decide)
      have hK := tk_17 eS17 hI o_v0 ea13 hK
      have hI := hIn
      have f0 := fr_A eS17 g0 f0 o_a13 (by decide)
      have ea1 := rf_I eS17 ea1
      have ea13 := rf_I eS17 ea13
      have l_a1 := ln_I eS17 l_a1
      have l_a13 := ln_I eS17 l_a13
      have g0 := gr_I eS17 g0
      have o_a1 := ob_I eS17 o_a1
      have o_a13 := ob_I eS17 o_a13
      have o_v0 := ob_I eS17 o_v0
      obtain ⟨a18, ea18, o_a18, l_a18⟩ := shl 56 rfl hI o_v0
      refine ⟨a18, ea18, ?_⟩
      refine ⟨o_a18, ?_⟩
      have i19 : vp_in v1 (hN _ a18) := (vin l_a18 (m := 3208) (by decide) (qw272 h0 c3 c9))
      refine ⟨i19, ?_⟩
      intro S20 eS20
      have hIn : IV S20 := by rw [eS20]; exact iv11_aI hI o_v0 ea18 o_a18 (by decide)
      have hK := tk_18 eS20 hI o_v0 ea18 hK
      have hI := hIn
      have f0 := fr_A eS20 g0 f0 o_a18 (by decide)
      have ea1 := rf_I eS20 ea1
      have ea13 := rf_I eS20 ea13
      have ea18 := rf_I eS20 ea18
      have l_a1 := ln_I eS20 l_a1
      have l_a13 := ln_I eS20 l_a13
      have l_a18 := ln_I eS20 l_a18
      have g0 := gr_I eS20 g0
      have o_a1 := ob_I eS20 o_a1
      have o_a13 := ob_I eS20 o_a13
      have o_a18 := ob_I eS20 o_a18
      have o_v0 := ob_I eS20 o_v0
      exact hq _ hI g0 f0 hK
    · refine ⟨a1, ea1, ?_⟩
      refine ⟨o_a1, ?_⟩
      refine ⟨(vin l_a1 (m := 3208) (by decide) (qw273 h0 c3 c9)), ?_⟩
      intro x22 ex22
      refine ⟨fun c23 => ?_, fun c23 => ?_⟩
      · exact hq _ hI g0 f0 hK
      · refine ⟨a1, ea1, ?_⟩
        refine ⟨o_a1, ?_⟩
        refine ⟨(vin l_a1 (m := 3208) (by decide) (qw274 h0 c3 ex6 c9 c23)), ?_⟩
        intro x25 ex25
        refine ⟨fun c26 => ?_, fun c26 => ?_⟩
        · refine u_X11_takes_77 ?_
          refine ⟨o_v0, ?_⟩
          refine ⟨a1, ea1, ?_⟩
          refine ⟨o_a1, ?_⟩
          have i28 : vp_in v1 (hN _ a1) := (vin l_a1 (m := 3208) (by decide) (qw275 h0 c3 ex6 c9 c23 c26))
          refine ⟨i28, ?_⟩
          intro S29 eS29
          have hIn : IV S29 := by rw [eS29]; exact iv11_aJ hI o_v0 (by decide) ea1
          have hK := tk_J eS29 hK
          have hI := hIn
          have f0 := fr_J eS29 f0
          have ea1 := rf_J eS29 ea1
          have l_a1 := ln_J eS29 l_a1
          have g0 := gr_J eS29 g0
          have o_a1 := ob_J eS29 o_a1
          have o_v0 := ob_J eS29 o_v0
          obtain ⟨a30, ea30, o_a30, l_a30⟩ := shl 55 rfl hI o_v0
          refine ⟨a30, ea30, ?_⟩
          refine ⟨a30, ea30, ?_⟩
          refine ⟨o_a30, ?_⟩
          refine ⟨(vin l_a30 (m := 3208) (by decide) (qw275 h1 c3 ex6 c9 c23 c26)), ?_⟩
          intro x32 ex32
          refine ⟨o_a30, ?_⟩
          have i33 : vp_in v1 (hN _ a30) := (vin l_a30 (m := 3208) (by decide) (qw275 h0 c3 ex6 c9 c23 c26))
          refine ⟨i33, ?_⟩
          intro S34 eS34
          have hIn : IV S34 := by rw [eS34]; exact iv11_aI hI o_v0 ea30 o_a30 (by decide)
          have hK := tk_17 eS34 hI o_v0 ea30 hK
          have hI := hIn
          have f0 := fr_A eS34 g0 f0 o_a30 (by decide)
          have ea1 := rf_I eS34 ea1
          have ea30 := rf_I eS34 ea30
          have l_a1 := ln_I eS34 l_a1
          have l_a30 := ln_I eS34 l_a30
          have g0 := gr_I eS34 g0
          have o_a1 := ob_I eS34 o_a1
          have o_a30 := ob_I eS34 o_a30
          have o_v0 := ob_I eS34 o_v0
          obtain ⟨a35, ea35, o_a35, l_a35⟩ := shl 56 rfl hI o_v0
          refine ⟨a35, ea35, ?_⟩
          refine ⟨o_a35, ?_⟩
          have i36 : vp_in v1 (hN _ a35) := (vin l_a35 (m := 3208) (by decide) (qw275 h0 c3 ex6 c9 c23 c26))
          refine ⟨i36, ?_⟩
          intro S37 eS37
          have hIn : IV S37 := by rw [eS37]; exact iv11_aI hI o_v0 ea35 o_a35 (by decide)
          have hK := tk_18 eS37 hI o_v0 ea35 hK
          have hI := hIn
          have f0 := fr_A eS37 g0 f0 o_a35 (by decide)
          have ea1 := rf_I eS37 ea1
          have ea30 := rf_I eS37 ea30
          have ea35 := rf_I eS37 ea35
          have l_a1 := ln_I eS37 l_a1
          have l_a30 := ln_I eS37 l_a30
          have l_a35 := ln_I eS37 l_a35
          have g0 := gr_I eS37 g0
          have o_a1 := ob_I eS37 o_a1
          have o_a30 := ob_I eS37 o_a30
          have o_a35 := ob_I eS37 o_a35
          have o_v0 := ob_I eS37 o_v0
          exact hq _ hI g0 f0 hK
        · obtain ⟨a38, ea38, o_a38, l_a38⟩ := shl 55 rfl hI o_v0
          refine ⟨a38, ea38, ?_⟩
          refine ⟨o_a38, ?_⟩
          refine ⟨(vin l_a38 (m := 3208) (by decide) (qw276 h1 c3 ex6 c9 c23 c26)), ?_⟩
          intro x39 ex39
          refine ⟨a38, ea38, ?_⟩
          refine ⟨o_a38, ?_⟩
          refine ⟨(vin l_a38 (m := 3208) (by decide) (qw276 h0 c3 ex6 c9 c23 c26)), ?_⟩
          intro x41 ex41
          refine ⟨fun c42 => ?_, fun c42 => ?_⟩
          · refine u_X11_takes_77 ?_
            refine ⟨o_v0, ?_⟩
            refine ⟨a1, ea1, ?_⟩
            refine ⟨o_a1, ?_⟩
            have i44 : vp_in v1 (hN _ a1) := (vin l_a1 (m := 3208) (by decide) (qw277 h0 c3 ex6 c9 c23 c26 c42))
            refine ⟨i44, ?_⟩
            intro S45 eS45
            have hIn : IV S45 := by rw [eS45]; exact iv11_aJ hI o_v0 (by decide) ea1
            have hK := tk_J eS45 hK
            have hI := hIn
            have f0 := fr_J eS45 f0
            have ea1 := rf_J eS45 ea1
            have ea38 := rf_J eS45 ea38
            have l_a1 := ln_J eS45 l_a1
            have l_a38 := ln_J eS45 l_a38
            have g0 := gr_J eS45 g0
            have o_a1 := ob_J eS45 o_a1
            have o_a38 := ob_J eS45 o_a38
            have o_v0 := ob_J eS45 o_v0
            refine ⟨a38, ea38, ?_⟩
            refine ⟨a38, ea38, ?_⟩
            refine ⟨o_a38, ?_⟩
            refine ⟨(vin l_a38 (m := 3208) (by decide) (qw277 h1 c3 ex6 c9 c23 c26 c42)), ?_⟩
            intro x48 ex48
            refine ⟨o_a38, ?_⟩
            have i49 : vp_in v1 (hN _ a38) := (vin l_a38 (m := 3208) (by decide) (qw277 h0 c3 ex6 c9 c23 c26 c42))
            refine ⟨i49, ?_⟩
            intro S50 eS50
            have hIn : IV S50 := by rw [eS50]; exact iv11_aI hI o_v0 ea38 o_a38 (by decide)
            have hK := tk_17 eS50 hI o_v0 ea38 hK
            have hI := hIn
            have f0 := fr_A eS50 g0 f0 o_a38 (by decide)
            have ea1 := rf_I eS50 ea1
            have ea38 := rf_I eS50 ea38
            have l_a1 := ln_I eS50 l_a1
            have l_a38 := ln_I eS50 l_a38
            have g0 := gr_I eS50 g0
            have o_a1 := ob_I eS50 o_a1
            have o_a38 := ob_I eS50 o_a38
            have o_v0 := ob_I eS50 o_v0
            obtain ⟨a51, ea51, o_a51, l_a51⟩ := shl 56 rfl hI o_v0
            refine ⟨a51, ea51, ?_⟩
            refine ⟨o_a51, ?_⟩
            have i52 : vp_in v1 (hN _ a51) := (vin l_a51 (m := 3208) (by decide) (qw277 h0 c3 ex6 c9 c23 c26 c42))
            refine ⟨i52, ?_⟩
            intro S53 eS53
            have hIn : IV S53 := by rw [eS53]; exact iv11_aI hI o_v0 ea51 o_a51 (by decide)
            have hK := tk_18 eS53 hI o_v0 ea51 hK
            have hI := hIn
            have f0 := fr_A eS53 g0 f0 o_a51 (by decide)
            have ea1 := rf_I eS53 ea1
            have ea38 := rf_I eS53 ea38
            have ea51 := rf_I eS53 ea51
            have l_a1 := ln_I eS53 l_a1
            have l_a38 := ln_I eS53 l_a38
            have l_a51 := ln_I eS53 l_a51
            have g0 := gr_I eS53 g0
            have o_a1 := ob_I eS53 o_a1
            have o_a38 := ob_I eS53 o_a38
            have o_a51 := ob_I eS53 o_a51
            have o_v0 := ob_I eS53 o_v0
            exact hq _ hI g0 f0 hK
          · exact hq _ hI g0 f0 hK
  · exact hq _ hI g0 f0 hK
set_option maxHeartbeats 4000000 in
set_option maxRecDepth 20000 in
theorem m_X11_tries {v0 : Nat} {v1 : Int32} {v2 : Int32} {v3 : Int32} {v4 : Int32} {Q : HS → Prop} {S : HS} (hI : IV S) (o_v0 : ob S v0 11)   (h0 : 0 ≤ v2 ∧ v2 < 8) (h1 : 0 ≤ v3) (h2 : v4 ≤ 400) (h3 : v3 ≤ v4) (hS : SBD S v0 v4 v3 v2) (hwi1 : WI S v0 4 v1) (hq : ∀ (T : HS), IV T → Gr S T → FRI [] [] S T → (SBD T v0 v4 v3 v2) → Q T) : P_X11_tries v0 v1 v2 v3 v4 Q S := by
  have g0 := gr_rf S
  have f0 := fri_rf [] [] S
  obtain ⟨a1, ea1, hx1⟩ := hwi1
  have o_a1 := ml_ob hI o_v0 ea1
  obtain ⟨kv2, d_kv2⟩ : ∃ z : Int32, z = fI S a1 4 := ⟨_, rfl⟩
  have r_kv2 : (0 : Int32) ≤ kv2 ∧ kv2 ≤ (4 : Int32) := by rw [d_kv2]; exact nu 20 rfl hI o_a1
  have hwi1 : 0 ≤ v1 ∧ v1 < kv2 := by rw [d_kv2]; exact hx1
  refine u_X11_tries ?_
  refine u_X11_tries_0 ?_
  refine i_X11_tries_3 (fun (y0 : Nat) (y1 : Int32) (y2 : Int32) (y3 : Int32) (y4 : Int32) (y5 : Int32) (Z : HS) => ((2147483647 : Int32).toInt - y5.toInt).toNat) (fun (y0 : Nat) (y1 : Int32) (y2 : Int32) (y3 : Int32) (y4 : Int32) (y5 : Int32) (Z : HS) => (IV Z) ∧ (Gr S Z) ∧ (FRI [] [] S Z) ∧ (v0 = y0) ∧ (v1 = y1) ∧ (v2 = y2) ∧ (v3 = y3) ∧ (v4 = y4) ∧ (SBD Z v0 v4 v3 v2) ∧ (0 ≤ y5)) ?_ _ _ _ _ _ _ _ ⟨hI, (gr_rf _), (fri_rf _ _ _), rfl, rfl, rfl, rfl, rfl, hS, (qw67)⟩
  intro w7 w9 w11 w13 w15 w17 S4 X18 ⟨hI, gL5, fL6, q8, q10, q12, q14, q16, hS, i1u3⟩ ih19
  subst q8
  subst q10
  subst q12
  subst q14
  subst q16
  have d_kv2 := d_kv2.trans (fri_at fL6 (by decide) (by decide) o_a1).symm
  have ea1 := (frr_at fL6 (by decide) (by decide) o_v0).trans ea1
  have f0 := fri_tr (S := S) g0 f0 fL6 (by decide) (by decide)
  have o_a1 := gr_ob gL5 o_a1
  have o_v0 := gr_ob gL5 o_v0
  have g0 := gr_tr (T := S) g0 gL5
  refine u_X11_tries_3 ?_
  refine ⟨o_v0, ?_⟩
  refine ⟨a1, ea1, ?_⟩
  refine ⟨o_a1, ?_⟩
  intro x21 ex21
  have r_x21 : (0 : Int32) ≤ x21 ∧ x21 ≤ (12 : Int32) := by rw [ex21]; exact nu 19 rfl hI o_a1
  have d_x21 := ex21
  refine ⟨fun c22 => ?_, fun c22 => ?_⟩
  · refine u_X11_canWait ?_
    refine u_X11_canWait_0 ?_
    refine ⟨o_v0, ?_⟩
    refine ⟨a1, ea1, ?_⟩
    refine ⟨o_a1, ?_⟩
    obtain ⟨a24, ea24, o_a24, l_a24⟩ := shl 40 rfl hI o_a1
    refine ⟨a24, ea24, ?_⟩
    refine ⟨o_a24, ?_⟩
    refine ⟨(vin l_a24 (m := 8) (by decide) (qw68 h0 i1u3 r_x21 c22)), ?_⟩
    intro x25 ex25
    refine ⟨fun c26 => ?_, fun c26 => ?_⟩
    · intro _ _
      refine ⟨fun c28 => absurd (show (1 : Int32) = 0 from c28) (by decide), fun c28 => ?_⟩
      refine ⟨fun c29 => ?_, fun c29 => ?_⟩
      · exact hq _ hI g0 f0 hS
      · refine u_X11_spotOf ?_
        refine u_X11_spotOf_0 ?_
        intro _
        refine u_X11_spotOf ?_
        refine u_X11_spotOf_0 ?_
        intro _
        refine u_X11_waitsOf ?_
        refine u_X11_waitsOf_0 ?_
        refine ⟨o_v0, ?_⟩
        refine u_X11_hourOf ?_
        refine u_X11_hourOf_0 ?_
        refine ⟨o_v0, ?_⟩
        refine ⟨a1, ea1, ?_⟩
        refine ⟨o_a1, ?_⟩
        intro x33 ex33
        have r_x33 : (0 : Int32) ≤ x33 ∧ x33 ≤ (60 : Int32) := by rw [ex33]; exact nu 16 rfl hI o_a1
        have d_x33 := ex33
        have hh_x33 : 1 ≤ x33 := by rw [ex33]; exact ml_hour hI o_v0 ea1
        refine ⟨(qw69 h1 h2 h3 i1u3 r_x21 c22 c26 c29 r_x33 hh_x33), ?_⟩
        intro x34 ex34
        have dv_x34 : 0 ≤ x34 ∧ x34 ≤ v3 := by rw [ex34]; exact dv0 (qw70 h1 h2 h3 i1u3 r_x21 c22 c26 c29) (i32pos (qw71 h1 h2 h3 i1u3 r_x21 c22 c26 c29 r_x33 hh_x33))
        intro _
        refine ⟨a1, ea1, ?_⟩
        refine ⟨o_a1, ?_⟩
        refine ⟨a24, ea24, ?_⟩
        refine ⟨o_a24, ?_⟩
        refine ⟨(vin l_a24 (m := 8) (by decide) (qw72 h0 h1 h2 h3 i1u3 r_x21 c22 c26 c29 dv_x34)), ?_⟩
        intro x38 ex38
        refine ⟨fun c39 => ?_, fun c39 => ?_⟩
        · intro _
          obtain ⟨a41, ea41, o_a41, -⟩ := sh 38 rfl hI o_a1
          have gp42 : gs (fI S4 a1 3) (fI S4 a41) v4 v3 ((-2 : Int32)) := gs_wait (roads := fI S4 a1 3) (L := fI S4 a41) (t := v4) (m := v3) (qw73 h1 h2 h3 i1u3 r_x21 c22 c26 c29 dv_x34 c39)
          have hIo := hI
          have o0_v0 := o_v0
          have ew0 := ea1
          have ec0 := ea41
          refine m_X11_takes hI o_v0 (sp_rng (qw74 h1 h2 h3 i1u3 r_x21 c22 c26 c29 dv_x34 c39) (qw75 h0 h1 h2 h3 i1u3 r_x21 c22 c26 c29 dv_x34 c39)) (sp_rng (qw77 h1 h2 h3 i1u3 r_x21 c22 c26 c29 dv_x34 c39) (qw75 h0 h1 h2 h3 i1u3 r_x21 c22 c26 c29 dv_x34 c39)) (fun S44 hJ g45 fc46 p_S44 => ?_)
          have hI := hJ
          have l_a24 := (gr_len g45 o_a24).trans l_a24
          have d_kv2 := d_kv2.trans (fri_at fc46 (by decide) (by decide) o_a1).symm
          have d_x21 := d_x21.trans (fri_at fc46 (by decide) (by decide) o_a1).symm
          have d_x33 := d_x33.trans (fri_at fc46 (by decide) (by decide) o_a1).symm
          have ea1 := (frr_at fc46 (by decide) (by decide) o_v0).trans ea1
          have ea24 := (frr_at fc46 (by decide) (by decide) o_a1).trans ea24
          have ea41 := (frr_at fc46 (by decide) (by decide) o_a1).trans ea41
          have f0 := fri_tr (S := S4) g0 f0 fc46 (by decide) (by decide)
          have o_a1 := gr_ob g45 o_a1
          have o_a24 := gr_ob g45 o_a24
          have o_a41 := gr_ob g45 o_a41
          have o_v0 := gr_ob g45 o_v0
          have g0 := gr_tr (T := S4) g0 g45
          intro _
          have hS := sb_tk hIo o0_v0 fc46 g45 (by decide) p_S44 rfl (qw74 h1 h2 h3 i1u3 r_x21 c22 c26 c29 dv_x34 c39) (qw75 h0 h1 h2 h3 i1u3 r_x21 c22 c26 c29 dv_x34 c39) (qw76 h1 h2 h3 i1u3 r_x21 c22 c26 c29 dv_x34 c39) ew0 ec0 gp42 hS
          exact hq _ hI g0 f0 hS
        · refine ⟨a1, ea1, ?_⟩
          refine ⟨o_a1, ?_⟩
          intro x48 ex48
          have r_x48 : (0 : Int32) ≤ x48 ∧ x48 ≤ (6 : Int32) := by rw [ex48]; exact nu 17 rfl hI o_a1
          have d_x48 := ex48
          refine ⟨fun c49 => ?_, fun c49 => ?_⟩
          · refine u_X11_drips ?_
            refine u_X11_drips_0 ?_
            refine ⟨o_v0, ?_⟩
            refine ⟨a1, ea1, ?_⟩
            refine ⟨o_a1, ?_⟩
            obtain ⟨a51, ea51, o_a51, l_a51⟩ := shl 34 rfl hI o_a1
            refine ⟨a51, ea51, ?_⟩
            refine ⟨o_a51, ?_⟩
            refine ⟨(vin l_a51 (m := 8) (by decide) (qw78 h0 h1 h2 h3 i1u3 r_x21 c22 c26 c29 dv_x34 c39 r_x48 c49)), ?_⟩
            intro x52 ex52
            refine ⟨a1, ea1, ?_⟩
            refine ⟨o_a1, ?_⟩
            obtain ⟨a54, ea54, o_a54, l_a54⟩ := shl 43 rfl hI o_a1
            refine ⟨a54, ea54, ?_⟩
            refine ⟨o_a54, ?_⟩
            refine ⟨(vin l_a54 (m := 4) (by decide) (qw79 h1 h2 h3 r_kv2 hwi1 i1u3 r_x21 c22 c26 c29 dv_x34 c39 r_x48 c49)), ?_⟩
            intro x55 ex55
            refine ⟨a1, ea1, ?_⟩
            refine ⟨o_a1, ?_⟩
            refine u_X10_shield ?_
            refine u_X10_shield_0 ?_
            refine ⟨o_a1, ?_⟩
            obtain ⟨a57, ea57, o_a57, l_a57⟩ := shl 41 rfl hI o_a1
            refine ⟨a57, ea57, ?_⟩
            refine ⟨o_a57, ?_⟩
            refine ⟨(vin l_a57 (m := 4) (by decide) (qw79 h1 h2 h3 r_kv2 hwi1 i1u3 r_x21 c22 c26 c29 dv_x34 c39 r_x48 c49)), ?_⟩
            intro x58 ex58
            refine ⟨fun c59 => ?_, fun c59 => ?_⟩
            · intro _
              refine u_X11_less ?_
              refine u_X11_less_0 ?_
              refine ⟨fun c61 => ?_, fun c61 => ?_⟩
              · intro _
                intro _
                refine ⟨a1, ea1, ?_⟩
                refine ⟨o_a1, ?_⟩
                obtain ⟨a65, ea65, o_a65, l_a65⟩ := shl 33 rfl hI o_a1
                refine ⟨a65, ea65, ?_⟩
                refine ⟨o_a65, ?_⟩
                refine ⟨(vin l_a65 (m := 6) (by decide) (qw80 h1 h2 h3 i1u3 r_x21 c22 c26 c29 dv_x34 c39 r_x48 c49 c59 c61)), ?_⟩
                intro x66 ex66
                intro _
                obtain ⟨a68, ea68, o_a68, -⟩ := sh 38 rfl hI o_a1
                have gp69 : gs (fI S4 a1 3) (fI S4 a68) v4 v3 ((-2 : Int32)) := gs_wait (roads := fI S4 a1 3) (L := fI S4 a68) (t := v4) (m := v3) (qw81 h1 h2 h3 i1u3 r_x21 c22 c26 c29 dv_x34 c39 r_x48 c49 c59 c61)
                have hIo := hI
                have o0_v0 := o_v0
                have ew0 := ea1
                have ec0 := ea68
                refine m_X11_takes hI o_v0 (sp_rng (qw82 h1 h2 h3 i1u3 r_x21 c22 c26 c29 dv_x34 c39 r_x48 c49 c59 c61) (qw83 h0 h1 h2 h3 i1u3 r_x21 c22 c26 c29 dv_x34 c39 r_x48 c49 c59 c61)) (sp_rng (qw85 h1 h2 h3 i1u3 r_x21 c22 c26 c29 dv_x34 c39 r_x48 c49 c59 c61) (qw83 h0 h1 h2 h3 i1u3 r_x21 c22 c26 c29 dv_x34 c39 r_x48 c49 c59 c61)) (fun S71 hJ g72 fc73 p_S71 => ?_)
                have hI := hJ
                have l_a24 := (gr_len g72 o_a24).trans l_a24
                have l_a51 := (gr_len g72 o_a51).trans l_a51
                have l_a54 := (gr_len g72 o_a54).trans l_a54
                have l_a57 := (gr_len g72 o_a57).trans l_a57
                have l_a65 := (gr_len g72 o_a65).trans l_a65
                have d_kv2 := d_kv2.trans (fri_at fc73 (by decide) (by decide) o_a1).symm
                have d_x21 := d_x21.trans (fri_at fc73 (by decide) (by decide) o_a1).symm
                have d_x33 := d_x33.trans (fri_at fc73 (by decide) (by decide) o_a1).symm
                have d_x48 := d_x48.trans (fri_at fc73 (by decide) (by decide) o_a1).symm
                have ea1 := (frr_at fc73 (by decide) (by decide) o_v0).trans ea1
                have ea24 := (frr_at fc73 (by decide) (by decide) o_a1).trans ea24
                have ea51 := (frr_at fc73 (by decide) (by decide) o_a1).trans ea51
                have ea54 := (frr_at fc73 (by decide) (by decide) o_a1).trans ea54
                have ea57 := (frr_at fc73 (by decide) (by decide) o_a1).trans ea57
                have ea65 := (frr_at fc73 (by decide) (by decide) o_a1).trans ea65
                have ea68 := (frr_at fc73 (by decide) (by decide) o_a1).trans ea68
                have f0 := fri_tr (S := S4) g0 f0 fc73 (by decide) (by decide)
                have o_a1 := gr_ob g72 o_a1
                have o_a24 := gr_ob g72 o_a24
                have o_a51 := gr_ob g72 o_a51
                have o_a54 := gr_ob g72 o_a54
                have o_a57 := gr_ob g72 o_a57
                have o_a65 := gr_ob g72 o_a65
                have o_a68 := gr_ob g72 o_a68
                have o_v0 := gr_ob g72 o_v0
                have g0 := gr_tr (T := S4) g0 g72
                intro _
                have hS := sb_tk hIo o0_v0 fc73 g72 (by decide) p_S71 rfl (qw82 h1 h2 h3 i1u3 r_x21 c22 c26 c29 dv_x34 c39 r_x48 c49 c59 c61) (qw83 h0 h1 h2 h3 i1u3 r_x21 c22 c26 c29 dv_x34 c39 r_x48 c49 c59 c61) (qw84 h1 h2 h3 i1u3 r_x21 c22 c26 c29 dv_x34 c39 r_x48 c49 c59 c61) ew0 ec0 gp69 hS
                exact hq _ hI g0 f0 hS
              · intro _
                intro _
                refine ⟨a1, ea1, ?_⟩
                refine ⟨o_a1, ?_⟩
                obtain ⟨a77, ea77, o_a77, l_a77⟩ := shl 33 rfl hI o_a1
                refine ⟨a77, ea77, ?_⟩
                refine ⟨o_a77, ?_⟩
                refine ⟨(vin l_a77 (m := 6) (by decide) (qw86 h1 h2 h3 i1u3 r_x21 c22 c26 c29 dv_x34 c39 r_x48 c49 c59 c61)), ?_⟩
                intro x78 ex78
                intro _
                obtain ⟨a80, ea80, o_a80, -⟩ := sh 38 rfl hI o_a1
                have gp81 : gs (fI S4 a1 3) (fI S4 a80) v4 v3 ((-2 : Int32)) := gs_wait (roads := fI S4 a1 3) (L := fI S4 a80) (t := v4) (m := v3) (qw87 h1 h2 h3 i1u3 r_x21 c22 c26 c29 dv_x34 c39 r_x48 c49 c59 c61)
                have hIo := hI
                have o0_v0 := o_v0
                have ew0 := ea1
                have ec0 := ea80
                refine m_X11_takes hI o_v0 (sp_rng (qw88 h1 h2 h3 i1u3 r_x21 c22 c26 c29 dv_x34 c39 r_x48 c49 c59 c61) (qw89 h0 h1 h2 h3 i1u3 r_x21 c22 c26 c29 dv_x34 c39 r_x48 c49 c59 c61)) (sp_rng (qw91 h1 h2 h3 i1u3 r_x21 c22 c26 c29 dv_x34 c39 r_x48 c49 c59 c61) (qw89 h0 h1 h2 h3 i1u3 r_x21 c22 c26 c29 dv_x34 c39 r_x48 c49 c59 c61)) (fun S83 hJ g84 fc85 p_S83 => ?_)
                have hI := hJ
                have l_a24 := (gr_len g84 o_a24).trans l_a24
                have l_a51 := (gr_len g84 o_a51).trans l_a51
                have l_a54 := (gr_len g84 o_a54).trans l_a54
                have l_a57 := (gr_len g84 o_a57).trans l_a57
                have l_a77 := (gr_len g84 o_a77).trans l_a77
                have d_kv2 := d_kv2.trans (fri_at fc85 (by decide) (by decide) o_a1).symm
                have d_x21 := d_x21.trans (fri_at fc85 (by decide) (by decide) o_a1).symm
                have d_x33 := d_x33.trans (fri_at fc85 (by decide) (by decide) o_a1).symm
                have d_x48 := d_x48.trans (fri_at fc85 (by decide) (by decide) o_a1).symm
                have ea1 := (frr_at fc85 (by decide) (by decide) o_v0).trans ea1
                have ea24 := (frr_at fc85 (by decide) (by decide) o_a1).trans ea24
                have ea51 := (frr_at fc85 (by decide) (by decide) o_a1).trans ea51
                have ea54 := (frr_at fc85 (by decide) (by decide) o_a1).trans ea54
                have ea57 := (frr_at fc85 (by decide) (by decide) o_a1).trans ea57
                have ea77 := (frr_at fc85 (by decide) (by decide) o_a1).trans ea77
                have ea80 := (frr_at fc85 (by decide) (by decide) o_a1).trans ea80
                have f0 := fri_tr (S := S4) g0 f0 fc85 (by decide) (by decide)
                have o_a1 := gr_ob g84 o_a1
                have o_a24 := gr_ob g84 o_a24
                have o_a51 := gr_ob g84 o_a51
                have o_a54 := gr_ob g84 o_a54
                have o_a57 := gr_ob g84 o_a57
                have o_a77 := gr_ob g84 o_a77
                have o_a80 := gr_ob g84 o_a80
                have o_v0 := gr_ob g84 o_v0
                have g0 := gr_tr (T := S4) g0 g84
                intro _
                have hS := sb_tk hIo o0_v0 fc85 g84 (by decide) p_S83 rfl (qw88 h1 h2 h3 i1u3 r_x21 c22 c26 c29 dv_x34 c39 r_x48 c49 c59 c61) (qw89 h0 h1 h2 h3 i1u3 r_x21 c22 c26 c29 dv_x34 c39 r_x48 c49 c59 c61) (qw90 h1 h2 h3 i1u3 r_x21 c22 c26 c29 dv_x34 c39 r_x48 c49 c59 c61) ew0 ec0 gp81 hS
                exact hq _ hI g0 f0 hS
            · obtain ⟨a86, ea86, o_a86, l_a86⟩ := shl 42 rfl hI o_a1
              refine ⟨a86, ea86, ?_⟩
              refine ⟨o_a86, ?_⟩
              refine ⟨(vin l_a86 (m := 4) (by decide) (qw92 h1 h2 h3 r_kv2 hwi1 i1u3 r_x21 c22 c26 c29 dv_x34 c39 r_x48 c49 c59)), ?_⟩
              intro x87 ex87
              intro _
              refine u_X11_less ?_
              refine u_X11_less_0 ?_
              refine ⟨fun c89 => ?_, fun c89 => ?_⟩
              · intro _
                intro _
                refine ⟨a1, ea1, ?_⟩
                refine ⟨o_a1, ?_⟩
                obtain ⟨a93, ea93, o_a93, l_a93⟩ := shl 33 rfl hI o_a1
                refine ⟨a93, ea93, ?_⟩
                refine ⟨o_a93, ?_⟩
                refine ⟨(vin l_a93 (m := 6) (by decide) (qw93 h1 h2 h3 i1u3 r_x21 c22 c26 c29 dv_x34 c39 r_x48 c49 c59 c89)), ?_⟩
                intro x94 ex94
                intro _
                obtain ⟨a96, ea96, o_a96, -⟩ := sh 38 rfl hI o_a1
                have gp97 : gs (fI S4 a1 3) (fI S4 a96) v4 v3 ((-2 : Int32)) := gs_wait (roads := fI S4 a1 3) (L := fI S4 a96) (t := v4) (m := v3) (qw94 h1 h2 h3 i1u3 r_x21 c22 c26 c29 dv_x34 c39 r_x48 c49 c59 c89)
                have hIo := hI
                have o0_v0 := o_v0
                have ew0 := ea1
                have ec0 := ea96
                refine m_X11_takes hI o_v0 (sp_rng (qw95 h1 h2 h3 i1u3 r_x21 c22 c26 c29 dv_x34 c39 r_x48 c49 c59 c89) (qw96 h0 h1 h2 h3 i1u3 r_x21 c22 c26 c29 dv_x34 c39 r_x48 c49 c59 c89)) (sp_rng (qw98 h1 h2 h3 i1u3 r_x21 c22 c26 c29 dv_x34 c39 r_x48 c49 c59 c89) (qw96 h0 h1 h2 h3 i1u3 r_x21 c22 c26 c29 dv_x34 c39 r_x48 c49 c59 c89)) (fun S99 hJ g100 fc101 p_S99 => ?_)
                have hI := hJ
                have l_a24 := (gr_len g100 o_a24).trans l_a24
                have l_a51 := (gr_len g100 o_a51).trans l_a51
                have l_a54 := (gr_len g100 o_a54).trans l_a54
                have l_a57 := (gr_len g100 o_a57).trans l_a57
                have l_a86 := (gr_len g100 o_a86).trans l_a86
                have l_a93 := (gr_len g100 o_a93).trans l_a93
                have d_kv2 := d_kv2.trans (fri_at fc101 (by decide) (by decide) o_a1).symm
                have d_x21 := d_x21.trans (fri_at fc101 (by decide) (by decide) o_a1).symm
                have d_x33 := d_x33.trans (fri_at fc101 (by decide) (by decide) o_a1).symm
                have d_x48 := d_x48.trans (fri_at fc101 (by decide) (by decide) o_a1).symm
                have ea1 := (frr_at fc101 (by decide) (by decide) o_v0).trans ea1
                have ea24 := (frr_at fc101 (by decide) (by decide) o_a1).trans ea24
                have ea51 := (frr_at fc101 (by decide) (by decide) o_a1).trans ea51
                have ea54 := (frr_at fc101 (by decide) (by decide) o_a1).trans ea54
                have ea57 := (frr_at fc101 (by decide) (by decide) o_a1).trans ea57
                have ea86 := (frr_at fc101 (by decide) (by decide) o_a1).trans ea86
                have ea93 := (frr_at fc101 (by decide) (by decide) o_a1).trans ea93
                have ea96 := (frr_at fc101 (by decide) (by decide) o_a1).trans ea96
                have f0 := fri_tr (S := S4) g0 f0 fc101 (by decide) (by decide)
                have o_a1 := gr_ob g100 o_a1
                have o_a24 := gr_ob g100 o_a24
                have o_a51 := gr_ob g100 o_a51
                have o_a54 := gr_ob g100 o_a54
                have o_a57 := gr_ob g100 o_a57
                have o_a86 := gr_ob g100 o_a86
                have o_a93 := gr_ob g100 o_a93
                have o_a96 := gr_ob g100 o_a96
                have o_v0 := gr_ob g100 o_v0
                have g0 := gr_tr (T := S4) g0 g100
                intro _
                have hS := sb_tk hIo o0_v0 fc101 g100 (by decide) p_S99 rfl (qw95 h1 h2 h3 i1u3 r_x21 c22 c26 c29 dv_x34 c39 r_x48 c49 c59 c89) (qw96 h0 h1 h2 h3 i1u3 r_x21 c22 c26 c29 dv_x34 c39 r_x48 c49 c59 c89) (qw97 h1 h2 h3 i1u3 r_x21 c22 c26 c29 dv_x34 c39 r_x48 c49 c59 c89) ew0 ec0 gp97 hS
                exact hq _ hI g0 f0 hS
              · intro _
                intro _
                refine ⟨a1, ea1, ?_⟩
                refine ⟨o_a1, ?_⟩
                obtain ⟨a105, ea105, o_a105, l_a105⟩ := shl 33 rfl hI o_a1
                refine ⟨a105, ea105, ?_⟩
                refine ⟨o_a105, ?_⟩
                refine ⟨(vin l_a105 (m := 6) (by decide) (qw99 h1 h2 h3 i1u3 r_x21 c22 c26 c29 dv_x34 c39 r_x48 c49 c59 c89)), ?_⟩
                intro x106 ex106
                intro _
                obtain ⟨a108, ea108, o_a108, -⟩ := sh 38 rfl hI o_a1
                have gp109 : gs (fI S4 a1 3) (fI S4 a108) v4 v3 ((-2 : Int32)) := gs_wait (roads := fI S4 a1 3) (L := fI S4 a108) (t := v4) (m := v3) (qw100 h1 h2 h3 i1u3 r_x21 c22 c26 c29 dv_x34 c39 r_x48 c49 c59 c89)
                have hIo := hI
                have o0_v0 := o_v0
                have ew0 := ea1
                have ec0 := ea108
                refine m_X11_takes hI o_v0 (sp_rng (qw101 h1 h2 h3 i1u3 r_x21 c22 c26 c29 dv_x34 c39 r_x48 c49 c59 c89) (qw102 h0 h1 h2 h3 i1u3 r_x21 c22 c26 c29 dv_x34 c39 r_x48 c49 c59 c89)) (sp_rng (qw104 h1 h2 h3 i1u3 r_x21 c22 c26 c29 dv_x34 c39 r_x48 c49 c59 c89) (qw102 h0 h1 h2 h3 i1u3 r_x21 c22 c26 c29 dv_x34 c39 r_x48 c49 c59 c89)) (fun S111 hJ g112 fc113 p_S111 => ?_)
                have hI := hJ
                have l_a105 := (gr_len g112 o_a105).trans l_a105
                have l_a24 := (gr_len g112 o_a24).trans l_a24
                have l_a51 := (gr_len g112 o_a51).trans l_a51
                have l_a54 := (gr_len g112 o_a54).trans l_a54
                have l_a57 := (gr_len g112 o_a57).trans l_a57
                have l_a86 := (gr_len g112 o_a86).trans l_a86
                have d_kv2 := d_kv2.trans (fri_at fc113 (by decide) (by decide) o_a1).symm
                have d_x21 := d_x21.trans (fri_at fc113 (by decide) (by decide) o_a1).symm
                have d_x33 := d_x33.trans (fri_at fc113 (by decide) (by decide) o_a1).symm
                have d_x48 := d_x48.trans (fri_at fc113 (by decide) (by decide) o_a1).symm
                have ea1 := (frr_at fc113 (by decide) (by decide) o_v0).trans ea1
                have ea24 := (frr_at fc113 (by decide) (by decide) o_a1).trans ea24
                have ea51 := (frr_at fc113 (by decide) (by decide) o_a1).trans ea51
                have ea54 := (frr_at fc113 (by decide) (by decide) o_a1).trans ea54
                have ea57 := (frr_at fc113 (by decide) (by decide) o_a1).trans ea57
                have ea86 := (frr_at fc113 (by decide) (by decide) o_a1).trans ea86
                have ea105 := (frr_at fc113 (by decide) (by decide) o_a1).trans ea105
                have ea108 := (frr_at fc113 (by decide) (by decide) o_a1).trans ea108
                have f0 := fri_tr (S := S4) g0 f0 fc113 (by decide) (by decide)
                have o_a1 := gr_ob g112 o_a1
                have o_a105 := gr_ob g112 o_a105
                have o_a108 := gr_ob g112 o_a108
                have o_a24 := gr_ob g112 o_a24
                have o_a51 := gr_ob g112 o_a51
                have o_a54 := gr_ob g112 o_a54
                have o_a57 := gr_ob g112 o_a57
                have o_a86 := gr_ob g112 o_a86
                have o_v0 := gr_ob g112 o_v0
                have g0 := gr_tr (T := S4) g0 g112
                intro _
                have hS := sb_tk hIo o0_v0 fc113 g112 (by decide) p_S111 rfl (qw101 h1 h2 h3 i1u3 r_x21 c22 c26 c29 dv_x34 c39 r_x48 c49 c59 c89) (qw102 h0 h1 h2 h3 i1u3 r_x21 c22 c26 c29 dv_x34 c39 r_x48 c49 c59 c89) (qw103 h1 h2 h3 i1u3 r_x21 c22 c26 c29 dv_x34 c39 r_x48 c49 c59 c89) ew0 ec0 gp109 hS
                exact hq _ hI g0 f0 hS
          · intro _
            obtain ⟨a115, ea115, o_a115, -⟩ := sh 38 rfl hI o_a1
            have gp116 : gs (fI S4 a1 3) (fI S4 a115) v4 v3 ((-2 : Int32)) := gs_wait (roads := fI S4 a1 3) (L := fI S4 a115) (t := v4) (m := v3) (qw105 h1 h2 h3 i1u3 r_x21 c22 c26 c29 dv_x34 c39 r_x48 c49)
            have hIo := hI
            have o0_v0 := o_v0
            have ew0 := ea1
            have ec0 := ea115
            refine m_X11_takes hI o_v0 (sp_rng (qw106 h1 h2 h3 i1u3 r_x21 c22 c26 c29 dv_x34 c39 r_x48 c49) (qw107 h0 h1 h2 h3 i1u3 r_x21 c22 c26 c29 dv_x34 c39 r_x48 c49)) (sp_rng (qw109 h1 h2 h3 i1u3 r_x21 c22 c26 c29 dv_x34 c39 r_x48 c49) (qw107 h0 h1 h2 h3 i1u3 r_x21 c22 c26 c29 dv_x34 c39 r_x48 c49)) (fun S118 hJ g119 fc120 p_S118 => ?_)
            have hI := hJ
            have l_a24 := (gr_len g119 o_a24).trans l_a24
            have d_kv2 := d_kv2.trans (fri_at fc120 (by decide) (by decide) o_a1).symm
            have d_x21 := d_x21.trans (fri_at fc120 (by decide) (by decide) o_a1).symm
            have d_x33 := d_x33.trans (fri_at fc120 (by decide) (by decide) o_a1).symm
            have d_x48 := d_x48.trans (fri_at fc120 (by decide) (by decide) o_a1).symm
            have ea1 := (frr_at fc120 (by decide) (by decide) o_v0).trans ea1
            have ea24 := (frr_at fc120 (by decide) (by decide) o_a1).trans ea24
            have ea115 := (frr_at fc120 (by decide) (by decide) o_a1).trans ea115
            have f0 := fri_tr (S := S4) g0 f0 fc120 (by decide) (by decide)
            have o_a1 := gr_ob g119 o_a1
            have o_a115 := gr_ob g119 o_a115
            have o_a24 := gr_ob g119 o_a24
            have o_v0 := gr_ob g119 o_v0
            have g0 := gr_tr (T := S4) g0 g119
            intro _
            have hS := sb_tk hIo o0_v0 fc120 g119 (by decide) p_S118 rfl (qw106 h1 h2 h3 i1u3 r_x21 c22 c26 c29 dv_x34 c39 r_x48 c49) (qw107 h0 h1 h2 h3 i1u3 r_x21 c22 c26 c29 dv_x34 c39 r_x48 c49) (qw108 h1 h2 h3 i1u3 r_x21 c22 c26 c29 dv_x34 c39 r_x48 c49) ew0 ec0 gp116 hS
            exact hq _ hI g0 f0 hS
    · refine ⟨a1, ea1, ?_⟩
      refine ⟨o_a1, ?_⟩
      obtain ⟨a122, ea122, o_a122, l_a122⟩ := shl 34 rfl hI o_a1
      refine ⟨a122, ea122, ?_⟩
      refine ⟨o_a122, ?_⟩
      refine ⟨(vin l_a122 (m := 8) (by decide) (qw110 h0 i1u3 r_x21 c22 c26)), ?_⟩
      intro x123 ex123
      refine ⟨fun c124 => ?_, fun c124 => ?_⟩
      · intro _ _
        refine ⟨fun c126 => ?_, fun c126 => absurd (show ¬ (0 : Int32) = 0 from c126) (by decide)⟩
        exact hq _ hI g0 f0 hS
      · intro _ _
        refine ⟨fun c128 => absurd (show (1 : Int32) = 0 from c128) (by decide), fun c128 => ?_⟩
        refine ⟨fun c129 => ?_, fun c129 => ?_⟩
        · exact hq _ hI g0 f0 hS
        · refine u_X11_spotOf ?_
          refine u_X11_spotOf_0 ?_
          intro _
          refine u_X11_spotOf ?_
          refine u_X11_spotOf_0 ?_
          intro _
          refine u_X11_waitsOf ?_
          refine u_X11_waitsOf_0 ?_
          refine ⟨o_v0, ?_⟩
          refine u_X11_hourOf ?_
          refine u_X11_hourOf_0 ?_
          refine ⟨o_v0, ?_⟩
          refine ⟨a1, ea1, ?_⟩
          refine ⟨o_a1, ?_⟩
          intro x133 ex133
          have r_x133 : (0 : Int32) ≤ x133 ∧ x133 ≤ (60 : Int32) := by rw [ex133]; exact nu 16 rfl hI o_a1
          have d_x133 := ex133
          have hh_x133 : 1 ≤ x133 := by rw [ex133]; exact ml_hour hI o_v0 ea1
          refine ⟨(qw111 h1 h2 h3 i1u3 r_x21 c22 c26 c124 c129 r_x133 hh_x133), ?_⟩
          intro x134 ex134
          have dv_x134 : 0 ≤ x134 ∧ x134 ≤ v3 := by rw [ex134]; exact dv0 (qw112 h1 h2 h3 i1u3 r_x21 c22 c26 c124 c129) (i32pos (qw113 h1 h2 h3 i1u3 r_x21 c22 c26 c124 c129 r_x133 hh_x133))
          intro _
          refine ⟨a1, ea1, ?_⟩
          refine ⟨o_a1, ?_⟩
          refine ⟨a24, ea24, ?_⟩
          refine ⟨o_a24, ?_⟩
          refine ⟨(vin l_a24 (m := 8) (by decide) (qw114 h0 h1 h2 h3 i1u3 r_x21 c22 c26 c124 c129 dv_x134)), ?_⟩
          intro x138 ex138
          refine ⟨fun c139 => ?_, fun c139 => ?_⟩
          · intro _
            obtain ⟨a141, ea141, o_a141, -⟩ := sh 38 rfl hI o_a1
            have gp142 : gs (fI S4 a1 3) (fI S4 a141) v4 v3 ((-2 : Int32)) := gs_wait (roads := fI S4 a1 3) (L := fI S4 a141) (t := v4) (m := v3) (qw115 h1 h2 h3 i1u3 r_x21 c22 c26 c124 c129 dv_x134 c139)
            have hIo := hI
            have o0_v0 := o_v0
            have ew0 := ea1
            have ec0 := ea141
            refine m_X11_takes hI o_v0 (sp_rng (qw116 h1 h2 h3 i1u3 r_x21 c22 c26 c124 c129 dv_x134 c139) (qw117 h0 h1 h2 h3 i1u3 r_x21 c22 c26 c124 c129 dv_x134 c139)) (sp_rng (qw119 h1 h2 h3 i1u3 r_x21 c22 c26 c124 c129 dv_x134 c139) (qw117 h0 h1 h2 h3 i1u3 r_x21 c22 c26 c124 c129 dv_x134 c139)) (fun S144 hJ g145 fc146 p_S144 => ?_)
            have hI := hJ
            have l_a122 := (gr_len g145 o_a122).trans l_a122
            have l_a24 := (gr_len g145 o_a24).trans l_a24
            have d_kv2 := d_kv2.trans (fri_at fc146 (by decide) (by decide) o_a1).symm
            have d_x21 := d_x21.trans (fri_at fc146 (by decide) (by decide) o_a1).symm
            have d_x133 := d_x133.trans (fri_at fc146 (by decide) (by decide) o_a1).symm
            have ea1 := (frr_at fc146 (by decide) (by decide) o_v0).trans ea1
            have ea24 := (frr_at fc146 (by decide) (by decide) o_a1).trans ea24
            have ea122 := (frr_at fc146 (by decide) (by decide) o_a1).trans ea122
            have ea141 := (frr_at fc146 (by decide) (by decide) o_a1).trans ea141
            have f0 := fri_tr (S := S4) g0 f0 fc146 (by decide) (by decide)
            have o_a1 := gr_ob g145 o_a1
            have o_a122 := gr_ob g145 o_a122
            have o_a141 := gr_ob g145 o_a141
            have o_a24 := gr_ob g145 o_a24
            have o_v0 := gr_ob g145 o_v0
            have g0 := gr_tr (T := S4) g0 g145
            intro _
            have hS := sb_tk hIo o0_v0 fc146 g145 (by decide) p_S144 rfl (qw116 h1 h2 h3 i1u3 r_x21 c22 c26 c124 c129 dv_x134 c139) (qw117 h0 h1 h2 h3 i1u3 r_x21 c22 c26 c124 c129 dv_x134 c139) (qw118 h1 h2 h3 i1u3 r_x21 c22 c26 c124 c129 dv_x134 c139) ew0 ec0 gp142 hS
            exact hq _ hI g0 f0 hS
          · refine ⟨a1, ea1, ?_⟩
            refine ⟨o_a1, ?_⟩
            intro x148 ex148
            have r_x148 : (0 : Int32) ≤ x148 ∧ x148 ≤ (6 : Int32) := by rw [ex148]; exact nu 17 rfl hI o_a1
            have d_x148 := ex148
            refine ⟨fun c149 => ?_, fun c149 => ?_⟩
            · refine u_X11_drips ?_
              refine u_X11_drips_0 ?_
              refine ⟨o_v0, ?_⟩
              refine ⟨a1, ea1, ?_⟩
              refine ⟨o_a1, ?_⟩
              refine ⟨a122, ea122, ?_⟩
              refine ⟨o_a122, ?_⟩
              refine ⟨(vin l_a122 (m := 8) (by decide) (qw120 h0 h1 h2 h3 i1u3 r_x21 c22 c26 c124 c129 dv_x134 c139 r_x148 c149)), ?_⟩
              intro x152 ex152
              refine ⟨a1, ea1, ?_⟩
              refine ⟨o_a1, ?_⟩
              obtain ⟨a154, ea154, o_a154, l_a154⟩ := shl 43 rfl hI o_a1
              refine ⟨a154, ea154, ?_⟩
              refine ⟨o_a154, ?_⟩
              refine ⟨(vin l_a154 (m := 4) (by decide) (qw121 h1 h2 h3 r_kv2 hwi1 i1u3 r_x21 c22 c26 c124 c129 dv_x134 c139 r_x148 c149)), ?_⟩
              intro x155 ex155
              refine ⟨a1, ea1, ?_⟩
              refine ⟨o_a1, ?_⟩
              refine u_X10_shield ?_
              refine u_X10_shield_0 ?_
              refine ⟨o_a1, ?_⟩
              obtain ⟨a157, ea157, o_a157, l_a157⟩ := shl 41 rfl hI o_a1
              refine ⟨a157, ea157, ?_⟩
              refine ⟨o_a157, ?_⟩
              refine ⟨(vin l_a157 (m := 4) (by decide) (qw121 h1 h2 h3 r_kv2 hwi1 i1u3 r_x21 c22 c26 c124 c129 dv_x134 c139 r_x148 c149)), ?_⟩
              intro x158 ex158
              refine ⟨fun c159 => ?_, fun c159 => ?_⟩
              · intro _
                refine u_X11_less ?_
                refine u_X11_less_0 ?_
                refine ⟨fun c161 => ?_, fun c161 => ?_⟩
                · intro _
                  intro _
                  refine ⟨a1, ea1, ?_⟩
                  refine ⟨o_a1, ?_⟩
                  obtain ⟨a165, ea165, o_a165, l_a165⟩ := shl 33 rfl hI o_a1
                  refine ⟨a165, ea165, ?_⟩
                  refine ⟨o_a165, ?_⟩
                  refine ⟨(vin l_a165 (m := 6) (by decide) (qw122 h1 h2 h3 i1u3 r_x21 c22 c26 c124 c129 dv_x134 c139 r_x148 c149 c159 c161)), ?_⟩
                  intro x166 ex166
                  intro _
                  obtain ⟨a168, ea168, o_a168, -⟩ := sh 38 rfl hI o_a1
                  have gp169 : gs (fI S4 a1 3) (fI S4 a168) v4 v3 ((-2 : Int32)) := gs_wait (roads := fI S4 a1 3) (L := fI S4 a168) (t := v4) (m := v3) (qw123 h1 h2 h3 i1u3 r_x21 c22 c26 c124 c129 dv_x134 c139 r_x148 c149 c159 c161)
                  have hIo := hI
                  have o0_v0 := o_v0
                  have ew0 := ea1
                  have ec0 := ea168
                  refine m_X11_takes hI o_v0 (sp_rng (qw124 h1 h2 h3 i1u3 r_x21 c22 c26 c124 c129 dv_x134 c139 r_x148 c149 c159 c161) (qw125 h0 h1 h2 h3 i1u3 r_x21 c22 c26 c124 c129 dv_x134 c139 r_x148 c149 c159 c161)) (sp_rng (qw127 h1 h2 h3 i1u3 r_x21 c22 c26 c124 c129 dv_x134 c139 r_x148 c149 c159 c161) (qw125 h0 h1 h2 h3 i1u3 r_x21 c22 c26 c124 c129 dv_x134 c139 r_x148 c149 c159 c161)) (fun S171 hJ g172 fc173 p_S171 => ?_)
                  have hI := hJ
                  have l_a122 := (gr_len g172 o_a122).trans l_a122
                  have l_a154 := (gr_len g172 o_a154).trans l_a154
                  have l_a157 := (gr_len g172 o_a157).trans l_a157
                  have l_a165 := (gr_len g172 o_a165).trans l_a165
                  have l_a24 := (gr_len g172 o_a24).trans l_a24
                  have d_kv2 := d_kv2.trans (fri_at fc173 (by decide) (by decide) o_a1).symm
                  have d_x21 := d_x21.trans (fri_at fc173 (by decide) (by decide) o_a1).symm
                  have d_x133 := d_x133.trans (fri_at fc173 (by decide) (by decide) o_a1).symm
                  have d_x148 := d_x148.trans (fri_at fc173 (by decide) (by decide) o_a1).symm
                  have ea1 := (frr_at fc173 (by decide) (by decide) o_v0).trans ea1
                  have ea24 := (frr_at fc173 (by decide) (by decide) o_a1).trans ea24
                  have ea122 := (frr_at fc173 (by decide) (by decide) o_a1).trans ea122
                  have ea154 := (frr_at fc173 (by decide) (by decide) o_a1).trans ea154
                  have ea157 := (frr_at fc173 (by decide) (by decide) o_a1).trans ea157
                  have ea165 := (frr_at fc173 (by decide) (by decide) o_a1).trans ea165
                  have ea168 := (frr_at fc173 (by decide) (by decide) o_a1).trans ea168
                  have f0 := fri_tr (S := S4) g0 f0 fc173 (by decide) (by decide)
                  have o_a1 := gr_ob g172 o_a1
                  have o_a122 := gr_ob g172 o_a122
                  have o_a154 := gr_ob g172 o_a154
                  have o_a157 := gr_ob g172 o_a157
                  have o_a165 := gr_ob g172 o_a165
                  have o_a168 := gr_ob g172 o_a168
                  have o_a24 := gr_ob g172 o_a24
                  have o_v0 := gr_ob g172 o_v0
                  have g0 := gr_tr (T := S4) g0 g172
                  intro _
                  have hS := sb_tk hIo o0_v0 fc173 g172 (by decide) p_S171 rfl (qw124 h1 h2 h3 i1u3 r_x21 c22 c26 c124 c129 dv_x134 c139 r_x148 c149 c159 c161) (qw125 h0 h1 h2 h3 i1u3 r_x21 c22 c26 c124 c129 dv_x134 c139 r_x148 c149 c159 c161) (qw126 h1 h2 h3 i1u3 r_x21 c22 c26 c124 c129 dv_x134 c139 r_x148 c149 c159 c161) ew0 ec0 gp169 hS
                  exact hq _ hI g0 f0 hS
                · intro _
                  intro _
                  refine ⟨a1, ea1, ?_⟩
                  refine ⟨o_a1, ?_⟩
                  obtain ⟨a177, ea177, o_a177, l_a177⟩ := shl 33 rfl hI o_a1
                  refine ⟨a177, ea177, ?_⟩
                  refine ⟨o_a177, ?_⟩
                  refine ⟨(vin l_a177 (m := 6) (by decide) (qw128 h1 h2 h3 i1u3 r_x21 c22 c26 c124 c129 dv_x134 c139 r_x148 c149 c159 c161)), ?_⟩
                  intro x178 ex178
                  intro _
                  obtain ⟨a180, ea180, o_a180, -⟩ := sh 38 rfl hI o_a1
                  have gp181 : gs (fI S4 a1 3) (fI S4 a180) v4 v3 ((-2 : Int32)) := gs_wait (roads := fI S4 a1 3) (L := fI S4 a180) (t := v4) (m := v3) (qw129 h1 h2 h3 i1u3 r_x21 c22 c26 c124 c129 dv_x134 c139 r_x148 c149 c159 c161)
                  have hIo := hI
                  have o0_v0 := o_v0
                  have ew0 := ea1
                  have ec0 := ea180
                  refine m_X11_takes hI o_v0 (sp_rng (qw130 h1 h2 h3 i1u3 r_x21 c22 c26 c124 c129 dv_x134 c139 r_x148 c149 c159 c161) (qw131 h0 h1 h2 h3 i1u3 r_x21 c22 c26 c124 c129 dv_x134 c139 r_x148 c149 c159 c161)) (sp_rng (qw133 h1 h2 h3 i1u3 r_x21 c22 c26 c124 c129 dv_x134 c139 r_x148 c149 c159 c161) (qw131 h0 h1 h2 h3 i1u3 r_x21 c22 c26 c124 c129 dv_x134 c139 r_x148 c149 c159 c161)) (fun S183 hJ g184 fc185 p_S183 => ?_)
                  have hI := hJ
                  have l_a122 := (gr_len g184 o_a122).trans l_a122
                  have l_a154 := (gr_len g184 o_a154).trans l_a154
                  have l_a157 := (gr_len g184 o_a157).trans l_a157
                  have l_a177 := (gr_len g184 o_a177).trans l_a177
                  have l_a24 := (gr_len g184 o_a24).trans l_a24
                  have d_kv2 := d_kv2.trans (fri_at fc185 (by decide) (by decide) o_a1).symm
                  have d_x21 := d_x21.trans (fri_at fc185 (by decide) (by decide) o_a1).symm
                  have d_x133 := d_x133.trans (fri_at fc185 (by decide) (by decide) o_a1).symm
                  have d_x148 := d_x148.trans (fri_at fc185 (by decide) (by decide) o_a1).symm
                  have ea1 := (frr_at fc185 (by decide) (by decide) o_v0).trans ea1
                  have ea24 := (frr_at fc185 (by decide) (by decide) o_a1).trans ea24
                  have ea122 := (frr_at fc185 (by decide) (by decide) o_a1).trans ea122
                  have ea154 := (frr_at fc185 (by decide) (by decide) o_a1).trans ea154
                  have ea157 := (frr_at fc185 (by decide) (by decide) o_a1).trans ea157
                  have ea177 := (frr_at fc185 (by decide) (by decide) o_a1).trans ea177
                  have ea180 := (frr_at fc185 (by decide) (by decide) o_a1).trans ea180
                  have f0 := fri_tr (S := S4) g0 f0 fc185 (by decide) (by decide)
                  have o_a1 := gr_ob g184 o_a1
                  have o_a122 := gr_ob g184 o_a122
                  have o_a154 := gr_ob g184 o_a154
                  have o_a157 := gr_ob g184 o_a157
                  have o_a177 := gr_ob g184 o_a177
                  have o_a180 := gr_ob g184 o_a180
                  have o_a24 := gr_ob g184 o_a24
                  have o_v0 := gr_ob g184 o_v0
                  have g0 := gr_tr (T := S4) g0 g184
                  intro _
                  have hS := sb_tk hIo o0_v0 fc185 g184 (by decide) p_S183 rfl (qw130 h1 h2 h3 i1u3 r_x21 c22 c26 c124 c129 dv_x134 c139 r_x148 c149 c159 c161) (qw131 h0 h1 h2 h3 i1u3 r_x21 c22 c26 c124 c129 dv_x134 c139 r_x148 c149 c159 c161) (qw132 h1 h2 h3 i1u3 r_x21 c22 c26 c124 c129 dv_x134 c139 r_x148 c149 c159 c161) ew0 ec0 gp181 hS
                  exact hq _ hI g0 f0 hS
              · obtain ⟨a186, ea186, o_a186, l_a186⟩ := shl 42 rfl hI o_a1
                refine ⟨a186, ea186, ?_⟩
                refine ⟨o_a186, ?_⟩
                refine ⟨(vin l_a186 (m := 4) (by decide) (qw134 h1 h2 h3 r_kv2 hwi1 i1u3 r_x21 c22 c26 c124 c129 dv_x134 c139 r_x148 c149 c159)), ?_⟩
                intro x187 ex187
                intro _
                refine u_X11_less ?_
                refine u_X11_less_0 ?_
                refine ⟨fun c189 => ?_, fun c189 => ?_⟩
                · intro _
                  intro _
                  refine ⟨a1, ea1, ?_⟩
                  refine ⟨o_a1, ?_⟩
                  obtain ⟨a193, ea193, o_a193, l_a193⟩ := shl 33 rfl hI o_a1
                  refine ⟨a193, ea193, ?_⟩
                  refine ⟨o_a193, ?_⟩
                  refine ⟨(vin l_a193 (m := 6) (by decide) (qw135 h1 h2 h3 i1u3 r_x21 c22 c26 c124 c129 dv_x134 c139 r_x148 c149 c159 c189)), ?_⟩
                  intro x194 ex194
                  intro _
                  obtain ⟨a196, ea196, o_a196, -⟩ := sh 38 rfl hI o_a1
                  have gp197 : gs (fI S4 a1 3) (fI S4 a196) v4 v3 ((-2 : Int32)) := gs_wait (roads := fI S4 a1 3) (L := fI S4 a196) (t := v4) (m := v3) (qw136 h1 h2 h3 i1u3 r_x21 c22 c26 c124 c129 dv_x134 c139 r_x148 c149 c159 c189)
                  have hIo := hI
                  have o0_v0 := o_v0
                  have ew0 := ea1
                  have ec0 := ea196
                  refine m_X11_takes hI o_v0 (sp_rng (qw137 h1 h2 h3 i1u3 r_x21 c22 c26 c124 c129 dv_x134 c139 r_x148 c149 c159 c189) (qw138 h0 h1 h2 h3 i1u3 r_x21 c22 c26 c124 c129 dv_x134 c139 r_x148 c149 c159 c189)) (sp_rng (qw140 h1 h2 h3 i1u3 r_x21 c22 c26 c124 c129 dv_x134 c139 r_x148 c149 c159 c189) (qw138 h0 h1 h2 h3 i1u3 r_x21 c22 c26 c124 c129 dv_x134 c139 r_x148 c149 c159 c189)) (fun S199 hJ g200 fc201 p_S199 => ?_)
                  have hI := hJ
                  have l_a122 := (gr_len g200 o_a122).trans l_a122
                  have l_a154 := (gr_len g200 o_a154).trans l_a154
                  have l_a157 := (gr_len g200 o_a157).trans l_a157
                  have l_a186 := (gr_len g200 o_a186).trans l_a186
                  have l_a193 := (gr_len g200 o_a193).trans l_a193
                  have l_a24 := (gr_len g200 o_a24).trans l_a24
                  have d_kv2 := d_kv2.trans (fri_at fc201 (by decide) (by decide) o_a1).symm
                  have d_x21 := d_x21.trans (fri_at fc201 (by decide) (by decide) o_a1).symm
                  have d_x133 := d_x133.trans (fri_at fc201 (by decide) (by decide) o_a1).symm
                  have d_x148 := d_x148.trans (fri_at fc201 (by decide) (by decide) o_a1).symm
                  have ea1 := (frr_at fc201 (by decide) (by decide) o_v0).trans ea1
                  have ea24 := (frr_at fc201 (by decide) (by decide) o_a1).trans ea24
                  have ea122 := (frr_at fc201 (by decide) (by decide) o_a1).trans ea122
                  have ea154 := (frr_at fc201 (by decide) (by decide) o_a1).trans ea154
                  have ea157 := (frr_at fc201 (by decide) (by decide) o_a1).trans ea157
                  have ea186 := (frr_at fc201 (by decide) (by decide) o_a1).trans ea186
                  have ea193 := (frr_at fc201 (by decide) (by decide) o_a1).trans ea193
                  have ea196 := (frr_at fc201 (by decide) (by decide) o_a1).trans ea196
                  have f0 := fri_tr (S := S4) g0 f0 fc201 (by decide) (by decide)
                  have o_a1 := gr_ob g200 o_a1
                  have o_a122 := gr_ob g200 o_a122
                  have o_a154 := gr_ob g200 o_a154
                  have o_a157 := gr_ob g200 o_a157
                  have o_a186 := gr_ob g200 o_a186
                  have o_a193 := gr_ob g200 o_a193
                  have o_a196 := gr_ob g200 o_a196
                  have o_a24 := gr_ob g200 o_a24
                  have o_v0 := gr_ob g200 o_v0
                  have g0 := gr_tr (T := S4) g0 g200
                  intro _
                  have hS := sb_tk hIo o0_v0 fc201 g200 (by decide) p_S199 rfl (qw137 h1 h2 h3 i1u3 r_x21 c22 c26 c124 c129 dv_x134 c139 r_x148 c149 c159 c189) (qw138 h0 h1 h2 h3 i1u3 r_x21 c22 c26 c124 c129 dv_x134 c139 r_x148 c149 c159 c189) (qw139 h1 h2 h3 i1u3 r_x21 c22 c26 c124 c129 dv_x134 c139 r_x148 c149 c159 c189) ew0 ec0 gp197 hS
                  exact hq _ hI g0 f0 hS
                · intro _
                  intro _
                  refine ⟨a1, ea1, ?_⟩
                  refine ⟨o_a1, ?_⟩
                  obtain ⟨a205, ea205, o_a205, l_a205⟩ := shl 33 rfl hI o_a1
                  refine ⟨a205, ea205, ?_⟩
                  refine ⟨o_a205, ?_⟩
                  refine ⟨(vin l_a205 (m := 6) (by decide) (qw141 h1 h2 h3 i1u3 r_x21 c22 c26 c124 c129 dv_x134 c139 r_x148 c149 c159 c189)), ?_⟩
                  intro x206 ex206
                  intro _
                  obtain ⟨a208, ea208, o_a208, -⟩ := sh 38 rfl hI o_a1
                  have gp209 : gs (fI S4 a1 3) (fI S4 a208) v4 v3 ((-2 : Int32)) := gs_wait (roads := fI S4 a1 3) (L := fI S4 a208) (t := v4) (m := v3) (qw142 h1 h2 h3 i1u3 r_x21 c22 c26 c124 c129 dv_x134 c139 r_x148 c149 c159 c189)
                  have hIo := hI
                  have o0_v0 := o_v0
                  have ew0 := ea1
                  have ec0 := ea208
                  refine m_X11_takes hI o_v0 (sp_rng (qw143 h1 h2 h3 i1u3 r_x21 c22 c26 c124 c129 dv_x134 c139 r_x148 c149 c159 c189) (qw144 h0 h1 h2 h3 i1u3 r_x21 c22 c26 c124 c129 dv_x134 c139 r_x148 c149 c159 c189)) (sp_rng (qw146 h1 h2 h3 i1u3 r_x21 c22 c26 c124 c129 dv_x134 c139 r_x148 c149 c159 c189) (qw144 h0 h1 h2 h3 i1u3 r_x21 c22 c26 c124 c129 dv_x134 c139 r_x148 c149 c159 c189)) (fun S211 hJ g212 fc213 p_S211 => ?_)
                  have hI := hJ
                  have l_a122 := (gr_len g212 o_a122).trans l_a122
                  have l_a154 := (gr_len g212 o_a154).trans l_a154
                  have l_a157 := (gr_len g212 o_a157).trans l_a157
                  have l_a186 := (gr_len g212 o_a186).trans l_a186
                  have l_a205 := (gr_len g212 o_a205).trans l_a205
                  have l_a24 := (gr_len g212 o_a24).trans l_a24
                  have d_kv2 := d_kv2.trans (fri_at fc213 (by decide) (by decide) o_a1).symm
                  have d_x21 := d_x21.trans (fri_at fc213 (by decide) (by decide) o_a1).symm
                  have d_x133 := d_x133.trans (fri_at fc213 (by decide) (by decide) o_a1).symm
                  have d_x148 := d_x148.trans (fri_at fc213 (by decide) (by decide) o_a1).symm
                  have ea1 := (frr_at fc213 (by decide) (by decide) o_v0).trans ea1
                  have ea24 := (frr_at fc213 (by decide) (by decide) o_a1).trans ea24
                  have ea122 := (frr_at fc213 (by decide) (by decide) o_a1).trans ea122
                  have ea154 := (frr_at fc213 (by decide) (by decide) o_a1).trans ea154
                  have ea157 := (frr_at fc213 (by decide) (by decide) o_a1).trans ea157
                  have ea186 := (frr_at fc213 (by decide) (by decide) o_a1).trans ea186
                  have ea205 := (frr_at fc213 (by decide) (by decide) o_a1).trans ea205
                  have ea208 := (frr_at fc213 (by decide) (by decide) o_a1).trans ea208
                  have f0 := fri_tr (S := S4) g0 f0 fc213 (by decide) (by decide)
                  have o_a1 := gr_ob g212 o_a1
                  have o_a122 := gr_ob g212 o_a122
                  have o_a154 := gr_ob g212 o_a154
                  have o_a157 := gr_ob g212 o_a157
                  have o_a186 := gr_ob g212 o_a186
                  have o_a205 := gr_ob g212 o_a205
                  have o_a208 := gr_ob g212 o_a208
                  have o_a24 := gr_ob g212 o_a24
                  have o_v0 := gr_ob g212 o_v0
                  have g0 := gr_tr (T := S4) g0 g212
                  intro _
                  have hS := sb_tk hIo o0_v0 fc213 g212 (by decide) p_S211 rfl (qw143 h1 h2 h3 i1u3 r_x21 c22 c26 c124 c129 dv_x134 c139 r_x148 c149 c159 c189) (qw144 h0 h1 h2 h3 i1u3 r_x21 c22 c26 c124 c129 dv_x134 c139 r_x148 c149 c159 c189) (qw145 h1 h2 h3 i1u3 r_x21 c22 c26 c124 c129 dv_x134 c139 r_x148 c149 c159 c189) ew0 ec0 gp209 hS
                  exact hq _ hI g0 f0 hS
            · intro _
              obtain ⟨a215, ea215, o_a215, -⟩ := sh 38 rfl hI o_a1
              have gp216 : gs (fI S4 a1 3) (fI S4 a215) v4 v3 ((-2 : Int32)) := gs_wait (roads := fI S4 a1 3) (L := fI S4 a215) (t := v4) (m := v3) (qw147 h1 h2 h3 i1u3 r_x21 c22 c26 c124 c129 dv_x134 c139 r_x148 c149)
              have hIo := hI
              have o0_v0 := o_v0
              have ew0 := ea1
              have ec0 := ea215
              refine m_X11_takes hI o_v0 (sp_rng (qw148 h1 h2 h3 i1u3 r_x21 c22 c26 c124 c129 dv_x134 c139 r_x148 c149) (qw149 h0 h1 h2 h3 i1u3 r_x21 c22 c26 c124 c129 dv_x134 c139 r_x148 c149)) (sp_rng (qw151 h1 h2 h3 i1u3 r_x21 c22 c26 c124 c129 dv_x134 c139 r_x148 c149) (qw149 h0 h1 h2 h3 i1u3 r_x21 c22 c26 c124 c129 dv_x134 c139 r_x148 c149)) (fun S218 hJ g219 fc220 p_S218 => ?_)
              have hI := hJ
              have l_a122 := (gr_len g219 o_a122).trans l_a122
              have l_a24 := (gr_len g219 o_a24).trans l_a24
              have d_kv2 := d_kv2.trans (fri_at fc220 (by decide) (by decide) o_a1).symm
              have d_x21 := d_x21.trans (fri_at fc220 (by decide) (by decide) o_a1).symm
              have d_x133 := d_x133.trans (fri_at fc220 (by decide) (by decide) o_a1).symm
              have d_x148 := d_x148.trans (fri_at fc220 (by decide) (by decide) o_a1).symm
              have ea1 := (frr_at fc220 (by decide) (by decide) o_v0).trans ea1
              have ea24 := (frr_at fc220 (by decide) (by decide) o_a1).trans ea24
              have ea122 := (frr_at fc220 (by decide) (by decide) o_a1).trans ea122
              have ea215 := (frr_at fc220 (by decide) (by decide) o_a1).trans ea215
              have f0 := fri_tr (S := S4) g0 f0 fc220 (by decide) (by decide)
              have o_a1 := gr_ob g219 o_a1
              have o_a122 := gr_ob g219 o_a122
              have o_a215 := gr_ob g219 o_a215
              have o_a24 := gr_ob g219 o_a24
              have o_v0 := gr_ob g219 o_v0
              have g0 := gr_tr (T := S4) g0 g219
              intro _
              have hS := sb_tk hIo o0_v0 fc220 g219 (by decide) p_S218 rfl (qw148 h1 h2 h3 i1u3 r_x21 c22 c26 c124 c129 dv_x134 c139 r_x148 c149) (qw149 h0 h1 h2 h3 i1u3 r_x21 c22 c26 c124 c129 dv_x134 c139 r_x148 c149) (qw150 h1 h2 h3 i1u3 r_x21 c22 c26 c124 c129 dv_x134 c139 r_x148 c149) ew0 ec0 gp216 hS
              exact hq _ hI g0 f0 hS
  · refine i_X11_tries_18 (fun (y0 : Nat) (y1 : Int32) (y2 : Int32) (y3 : Int32) (y4 : Int32) (y5 : Int32) (y6 : Int32) (Z : HS) => ((2147483647 : Int32).toInt - y6.toInt).toNat) (fun (y0 : Nat) (y1 : Int32) (y2 : Int32) (y3 : Int32) (y4 : Int32) (y5 : Int32) (y6 : Int32) (Z : HS) => (IV Z) ∧ (Gr S4 Z) ∧ (FRI [] [] S4 Z) ∧ (v0 = y0) ∧ (v1 = y1) ∧ (v2 = y2) ∧ (v3 = y3) ∧ (v4 = y4) ∧ (w17 = y5) ∧ (SBD Z v0 v4 v3 v2) ∧ (0 ≤ y6)) ?_ _ _ _ _ _ _ _ _ ⟨hI, (gr_rf _), (fri_rf _ _ _), rfl, rfl, rfl, rfl, rfl, rfl, hS, (qw152 i1u3 r_x21 c22)⟩
    intro w225 w227 w229 w231 w233 w235 w237 S222 X238 ⟨hI, gL223, fL224, q226, q228, q230, q232, q234, q236, hS, i1u221⟩ ih239
    subst q226
    subst q228
    subst q230
    subst q232
    subst q234
    subst q236
    have d_kv2 := d_kv2.trans (fri_at fL224 (by decide) (by decide) o_a1).symm
    have d_x21 := d_x21.trans (fri_at fL224 (by decide) (by decide) o_a1).symm
    have ea1 := (frr_at fL224 (by decide) (by decide) o_v0).trans ea1
    have f0 := fri_tr (S := S4) g0 f0 fL224 (by decide) (by decide)
    have fL6 := fri_tr (S := S4) gL5 fL6 fL224 (by decide) (by decide)
    have o_a1 := gr_ob gL223 o_a1
    have o_v0 := gr_ob gL223 o_v0
    have g0 := gr_tr (T := S4) g0 gL223
    have gL5 := gr_tr (T := S4) gL5 gL223
    refine u_X11_tries_18 ?_
    refine ⟨fun c240 => ?_, fun c240 => ?_⟩
    · intro x241 ex241
      exact ih19 _ _ _ _ _ _ _ ⟨hI, gL5, fL6, rfl, rfl, rfl, rfl, rfl, hS, (qw153 i1u3 r_x21 c22 i1u221 c240 ex241)⟩ (mu_up (qw154 i1u3 r_x21 c22 i1u221 c240 ex241) (qw155 i1u3 r_x21 c22 i1u221 c240 ex241))
    · refine ⟨o_v0, ?_⟩
      refine ⟨a1, ea1, ?_⟩
      refine ⟨o_a1, ?_⟩
      refine u_X10_begins ?_
      refine u_X10_begins_0 ?_
      refine ⟨fun c243 => ?_, fun c243 => ?_⟩
      · refine ⟨o_a1, ?_⟩
        obtain ⟨a244, ea244, o_a244, l_a244⟩ := shl 36 rfl hI o_a1
        refine ⟨a244, ea244, ?_⟩
        refine ⟨o_a244, ?_⟩
        refine ⟨(vin l_a244 (m := 12) (by decide) (qw156 i1u3 r_x21 c22 i1u221 c240 c243)), ?_⟩
        intro x245 ex245
        have gy_x245 : 0 ≤ w17 ∧ w17 < fI S222 a1 3 := by rw [← d_x21]; exact (qw157 i1u3 r_x21 c22 i1u221 c240 c243)
        have g_x245 : (0 : Int32) ≤ x245 ∧ x245 ≤ (7 : Int32) := by rw [ex245]; exact wg_at (ml_wg hI o_v0 ea1) 1 rfl gy_x245 ea244
        obtain ⟨kv246, d_kv246⟩ : ∃ z : Int32, z = fI S222 a1 2 := ⟨_, rfl⟩
        have r_kv246 : (0 : Int32) ≤ kv246 ∧ kv246 ≤ (8 : Int32) := by rw [d_kv246]; exact nu 18 rfl hI o_a1
        have gl_x245 : x245 < kv246 := by rw [ex245, d_kv246]; exact wg_lt (ml_wg hI o_v0 ea1) 1 rfl (by decide) gy_x245 ea244
        intro _
        refine ⟨fun c248 => ?_, fun c248 => ?_⟩
        · refine ⟨a1, ea1, ?_⟩
          refine ⟨o_a1, ?_⟩
          obtain ⟨a250, ea250, o_a250, l_a250⟩ := shl 46 rfl hI o_a1
          refine ⟨a250, ea250, ?_⟩
          refine ⟨o_a250, ?_⟩
          refine ⟨(vin l_a250 (m := 4) (by decide) (qw158 h0 r_kv2 hwi1 i1u3 r_x21 c22 i1u221 c240 c243 g_x245 r_kv246 gl_x245 c248)), ?_⟩
          intro x251 ex251
          have gy_x251 : 0 ≤ v1 ∧ v1 < fI S222 a1 4 := by rw [← d_kv2]; exact (qw159 h0 r_kv2 hwi1 i1u3 r_x21 c22 i1u221 c240 c243 g_x245 r_kv246 gl_x245 c248)
          have g_x251 : (1 : Int32) ≤ x251 ∧ x251 ≤ (9 : Int32) := by rw [ex251]; exact wg_at (ml_wg hI o_v0 ea1) 3 rfl gy_x251 ea250
          refine i_X11_tries_53 (fun (y0 : Nat) (y1 : Int32) (y2 : Int32) (y3 : Int32) (y4 : Int32) (y5 : Int32) (y6 : Int32) (y7 : Int32) (Z : HS) => ((2147483647 : Int32).toInt - y7.toInt).toNat) (fun (y0 : Nat) (y1 : Int32) (y2 : Int32) (y3 : Int32) (y4 : Int32) (y5 : Int32) (y6 : Int32) (y7 : Int32) (Z : HS) => (IV Z) ∧ (Gr S222 Z) ∧ (FRI [] [] S222 Z) ∧ (v0 = y0) ∧ (v1 = y1) ∧ (v2 = y2) ∧ (v3 = y3) ∧ (v4 = y4) ∧ (w17 = y5) ∧ (w237 = y6) ∧ (SBD Z v0 v4 v3 v2) ∧ (1 ≤ y7)) ?_ _ _ _ _ _ _ _ _ _ ⟨hI, (gr_rf _), (fri_rf _ _ _), rfl, rfl, rfl, rfl, rfl, rfl, rfl, hS, (qw160 h0 i1u3 r_x21 c22 i1u221 c240 c243 g_x245 r_kv246 gl_x245 c248 g_x251)⟩
          intro w256 w258 w260 w262 w264 w266 w268 w270 S253 X271 ⟨hI, gL254, fL255, q257, q259, q261, q263, q265, q267, q269, hS, i1u252⟩ ih272
          subst q257
          subst q259
          subst q261
          subst q263
          subst q265
          subst q267
          subst q269
          have l_a244 := (gr_len gL254 o_a244).trans l_a244
          have l_a250 := (gr_len gL254 o_a250).trans l_a250
          have d_kv2 := d_kv2.trans (fri_at fL255 (by decide) (by decide) o_a1).symm
          have d_x21 := d_x21.trans (fri_at fL255 (by decide) (by decide) o_a1).symm
          have d_kv246 := d_kv246.trans (fri_at fL255 (by decide) (by decide) o_a1).symm
          have ea1 := (frr_at fL255 (by decide) (by decide) o_v0).trans ea1
          have ea244 := (frr_at fL255 (by decide) (by decide) o_a1).trans ea244
          have ea250 := (frr_at fL255 (by decide) (by decide) o_a1).trans ea250
          have f0 := fri_tr (S := S222) g0 f0 fL255 (by decide) (by decide)
          have fL6 := fri_tr (S := S222) gL5 fL6 fL255 (by decide) (by decide)
          have fL224 := fri_tr (S := S222) gL223 fL224 fL255 (by decide) (by decide)
          have o_a1 := gr_ob gL254 o_a1
          have o_a244 := gr_ob gL254 o_a244
          have o_a250 := gr_ob gL254 o_a250
          have o_v0 := gr_ob gL254 o_v0
          have g0 := gr_tr (T := S222) g0 gL254
          have gL5 := gr_tr (T := S222) gL5 gL254
          have gL223 := gr_tr (T := S222) gL223 gL254
          refine u_X11_tries_53 ?_
          refine ⟨o_v0, ?_⟩
          refine ⟨a1, ea1, ?_⟩
          refine ⟨o_a1, ?_⟩
          obtain ⟨a274, ea274, o_a274, l_a274⟩ := shl 47 rfl hI o_a1
          refine ⟨a274, ea274, ?_⟩
          refine ⟨o_a274, ?_⟩
          refine ⟨(vin l_a274 (m := 4) (by decide) (qw158 h0 r_kv2 hwi1 i1u3 r_x21 c22 i1u221 c240 c243 g_x245 r_kv246 gl_x245 c248)), ?_⟩
          intro x275 ex275
          have gy_x275 : 0 ≤ v1 ∧ v1 < fI S253 a1 4 := by rw [← d_kv2]; exact (qw159 h0 r_kv2 hwi1 i1u3 r_x21 c22 i1u221 c240 c243 g_x245 r_kv246 gl_x245 c248)
          have g_x275 : (0 : Int32) ≤ x275 ∧ x275 ≤ (9 : Int32) := by rw [ex275]; exact wg_at (ml_wg hI o_v0 ea1) 4 rfl gy_x275 ea274
          refine ⟨fun c276 => ?_, fun c276 => ?_⟩
          · refine u_X11_tries_146 ?_
            intro x277 ex277
            exact ih239 _ _ _ _ _ _ _ _ ⟨hI, gL223, fL224, rfl, rfl, rfl, rfl, rfl, rfl, hS, (qw161 h0 i1u3 r_x21 c22 i1u221 c240 c243 g_x245 r_kv246 gl_x245 c248 i1u252 g_x275 c276 ex277)⟩ (mu_up (qw162 h0 i1u3 r_x21 c22 i1u221 c240 c243 g_x245 r_kv246 gl_x245 c248 i1u252 g_x275 c276 ex277) (qw163 h0 i1u3 r_x21 c22 i1u221 c240 c243 g_x245 r_kv246 gl_x245 c248 i1u252 g_x275 c276 ex277))
          · refine ⟨a1, ea1, ?_⟩
            refine ⟨o_a1, ?_⟩
            refine u_X10_minutes ?_
            refine u_X10_minutes_0 ?_
            refine ⟨o_a1, ?_⟩
            obtain ⟨a279, ea279, o_a279, l_a279⟩ := shl 38 rfl hI o_a1
            refine ⟨a279, ea279, ?_⟩
            refine ⟨o_a279, ?_⟩
            refine ⟨(vin l_a279 (m := 12) (by decide) (qw164 h0 i1u3 r_x21 c22 i1u221 c240 c243 g_x245 r_kv246 gl_x245 c248 i1u252 g_x275 c276)), ?_⟩
            intro x280 ex280
            have gy_x280 : 0 ≤ w17 ∧ w17 < fI S253 a1 3 := by rw [← d_x21]; exact (qw165 h0 i1u3 r_x21 c22 i1u221 c240 c243 g_x245 r_kv246 gl_x245 c248 i1u252 g_x275 c276)
            have g_x280 : (1 : Int32) ≤ x280 ∧ x280 ≤ (60 : Int32) := by rw [ex280]; exact wg_at (ml_wg hI o_v0 ea1) 2 rfl gy_x280 ea279
            refine ⟨(qw166 h0 i1u3 r_x21 c22 i1u221 c240 c243 g_x245 r_kv246 gl_x245 c248 i1u252 g_x275 c276), ?_⟩
            intro x281 ex281
            have dv_x281 : 0 ≤ x281 ∧ x281 ≤ ((x280 + w270) - (1 : Int32)) := by rw [ex281]; exact dv0 (qw167 h0 i1u3 r_x21 c22 i1u221 c240 c243 g_x245 r_kv246 gl_x245 c248 i1u252 g_x275 c276 g_x280) (i32pos (qw168 h0 i1u3 r_x21 c22 i1u221 c240 c243 g_x245 r_kv246 gl_x245 c248 i1u252 g_x275 c276))
            have dw_x281 : (1 : Int32) ≤ x281 := by rw [ex281]; exact dv1 (qw169 h0 i1u3 r_x21 c22 i1u221 c240 c243 g_x245 r_kv246 gl_x245 c248 i1u252 g_x275 c276) (qw170 h0 i1u3 r_x21 c22 i1u221 c240 c243 g_x245 r_kv246 gl_x245 c248 i1u252 g_x275 c276 g_x280)
            intro _
            intro x283 ex283
            refine ⟨fun c284 => ?_, fun c284 => ?_⟩
            · refine u_X11_tries_140 ?_
              intro x285 ex285
              exact ih272 _ _ _ _ _ _ _ _ _ ⟨hI, gL254, fL255, rfl, rfl, rfl, rfl, rfl, rfl, rfl, hS, (qw171 h0 h1 h2 h3 i1u3 r_x21 c22 i1u221 c240 c243 g_x245 r_kv246 gl_x245 c248 i1u252 g_x275 c276 g_x280 dv_x281 dw_x281 ex283 c284 ex285)⟩ (mu_up (qw172 h0 h1 h2 h3 i1u3 r_x21 c22 i1u221 c240 c243 g_x245 r_kv246 gl_x245 c248 i1u252 g_x275 c276 g_x280 dv_x281 dw_x281 ex283 c284 ex285) (qw173 h0 h1 h2 h3 i1u3 r_x21 c22 i1u221 c240 c243 g_x245 r_kv246 gl_x245 c248 i1u252 g_x275 c276 g_x280 dv_x281 dw_x281 ex283 c284 ex285))
            · refine u_X11_spotOf ?_
              refine u_X11_spotOf_0 ?_
              intro _
              refine ⟨a1, ea1, ?_⟩
              refine ⟨o_a1, ?_⟩
              refine u_X10_ends ?_
              refine u_X10_ends_0 ?_
              refine ⟨fun c288 => ?_, fun c288 => ?_⟩
              · refine ⟨o_a1, ?_⟩
                obtain ⟨a289, ea289, o_a289, l_a289⟩ := shl 35 rfl hI o_a1
                refine ⟨a289, ea289, ?_⟩
                refine ⟨o_a289, ?_⟩
                refine ⟨(vin l_a289 (m := 12) (by decide) (qw174 h0 h1 h2 h3 i1u3 r_x21 c22 i1u221 c240 c243 g_x245 r_kv246 gl_x245 c248 i1u252 g_x275 c276 g_x280 dv_x281 dw_x281 ex283 c284 c288)), ?_⟩
                intro x290 ex290
                have gy_x290 : 0 ≤ w17 ∧ w17 < fI S253 a1 3 := by rw [← d_x21]; exact (qw175 h0 h1 h2 h3 i1u3 r_x21 c22 i1u221 c240 c243 g_x245 r_kv246 gl_x245 c248 i1u252 g_x275 c276 g_x280 dv_x281 dw_x281 ex283 c284 c288)
                have g_x290 : (0 : Int32) ≤ x290 ∧ x290 ≤ (7 : Int32) := by rw [ex290]; exact wg_at (ml_wg hI o_v0 ea1) 0 rfl gy_x290 ea289
                have gl_x290 : x290 < kv246 := by rw [ex290, d_kv246]; exact wg_lt (ml_wg hI o_v0 ea1) 0 rfl (by decide) gy_x290 ea289
                intro _
                refine u_X11_spotOf ?_
                refine u_X11_spotOf_0 ?_
                intro _
                refine m_X11_meanOf hI o_v0 (qw176 h0 h1 h2 h3 r_kv2 hwi1 i1u3 r_x21 c22 i1u221 c240 c243 g_x245 r_kv246 gl_x245 c248 i1u252 g_x275 c276 g_x280 dv_x281 dw_x281 ex283 c284 c288 g_x290 gl_x290) (qw177 h0 h1 h2 h3 i1u3 r_x21 c22 i1u221 c240 c243 g_x245 r_kv246 gl_x245 c248 i1u252 g_x275 c276 g_x280 dv_x281 dw_x281 ex283 c284 c288 g_x290 gl_x290) (qw178 h0 h1 h2 h3 i1u3 r_x21 c22 i1u221 c240 c243 g_x245 r_kv246 gl_x245 c248 i1u252 g_x275 c276 g_x280 dv_x281 dw_x281 ex283 c284 c288 g_x290 gl_x290) (qw179 h0 h1 h2 h3 i1u3 r_x21 c22 i1u221 c240 c243 g_x245 r_kv246 gl_x245 c248 i1u252 g_x275 c276 g_x280 dv_x281 dw_x281 ex283 c284 c288 g_x290 gl_x290) ⟨_, ea1⟩ (fun x293 S294 hI2 g295 p_x293 => ?_)
                subst p_x293
                intro _
                have gp297 : gs (fI S253 a1 3) (fI S253 a279) v4 v3 ((((100 : Int32) * w17) + ((10 : Int32) * w237)) + w270) := gs_go (roads := fI S253 a1 3) (L := fI S253 a279) (r := w17) (d := w237) (v := w270) (u := x281) (by rw [← d_x21]; exact (qw180 h0 h1 h2 h3 i1u3 r_x21 c22 i1u221 c240 c243 g_x245 r_kv246 gl_x245 c248 i1u252 g_x275 c276 g_x280 dv_x281 dw_x281 ex283 c284 c288 g_x290 gl_x290)) (qw181 h0 h1 h2 h3 i1u3 r_x21 c22 i1u221 c240 c243 g_x245 r_kv246 gl_x245 c248 i1u252 g_x275 c276 g_x280 dv_x281 dw_x281 ex283 c284 c288 g_x290 gl_x290) (qw182 h0 h1 h2 h3 i1u3 r_x21 c22 i1u221 c240 c243 g_x245 r_kv246 gl_x245 c248 i1u252 g_x275 c276 g_x280 dv_x281 dw_x281 ex283 c284 c288 g_x290 gl_x290) rfl (by rw [ex281, ex280]) (qw183 h0 h1 h2 h3 i1u3 r_x21 c22 i1u221 c240 c243 g_x245 r_kv246 gl_x245 c248 i1u252 g_x275 c276 g_x280 dv_x281 dw_x281 ex283 c284 c288 g_x290 gl_x290)
                have hIo := hI
                have o0_v0 := o_v0
                have ew0 := ea1
                have ec0 := ea279
                refine m_X11_takes hI o_v0 (sp_rng (qw184 h0 h1 h2 h3 i1u3 r_x21 c22 i1u221 c240 c243 g_x245 r_kv246 gl_x245 c248 i1u252 g_x275 c276 g_x280 dv_x281 dw_x281 ex283 c284 c288 g_x290 gl_x290) (qw185 h0 h1 h2 h3 i1u3 r_x21 c22 i1u221 c240 c243 g_x245 r_kv246 gl_x245 c248 i1u252 g_x275 c276 g_x280 dv_x281 dw_x281 ex283 c284 c288 g_x290 gl_x290)) (sp_rng (qw187 h0 h1 h2 h3 i1u3 r_x21 c22 i1u221 c240 c243 g_x245 r_kv246 gl_x245 c248 i1u252 g_x275 c276 g_x280 dv_x281 dw_x281 ex283 c284 c288 g_x290 gl_x290) (qw188 h0 h1 h2 h3 i1u3 r_x21 c22 i1u221 c240 c243 g_x245 r_kv246 gl_x245 c248 i1u252 g_x275 c276 g_x280 dv_x281 dw_x281 ex283 c284 c288 g_x290 gl_x290)) (fun S299 hJ g300 fc301 p_S299 => ?_)
                have hI := hJ
                have l_a244 := (gr_len g300 o_a244).trans l_a244
                have l_a250 := (gr_len g300 o_a250).trans l_a250
                have l_a274 := (gr_len g300 o_a274).trans l_a274
                have l_a279 := (gr_len g300 o_a279).trans l_a279
                have l_a289 := (gr_len g300 o_a289).trans l_a289
                have d_kv2 := d_kv2.trans (fri_at fc301 (by decide) (by decide) o_a1).symm
                have d_x21 := d_x21.trans (fri_at fc301 (by decide) (by decide) o_a1).symm
                have d_kv246 := d_kv246.trans (fri_at fc301 (by decide) (by decide) o_a1).symm
                have ea1 := (frr_at fc301 (by decide) (by decide) o_v0).trans ea1
                have ea244 := (frr_at fc301 (by decide) (by decide) o_a1).trans ea244
                have ea250 := (frr_at fc301 (by decide) (by decide) o_a1).trans ea250
                have ea274 := (frr_at fc301 (by decide) (by decide) o_a1).trans ea274
                have ea279 := (frr_at fc301 (by decide) (by decide) o_a1).trans ea279
                have ea289 := (frr_at fc301 (by decide) (by decide) o_a1).trans ea289
                have f0 := fri_tr (S := S253) g0 f0 fc301 (by decide) (by decide)
                have fL6 := fri_tr (S := S253) gL5 fL6 fc301 (by decide) (by decide)
                have fL224 := fri_tr (S := S253) gL223 fL224 fc301 (by decide) (by decide)
                have fL255 := fri_tr (S := S253) gL254 fL255 fc301 (by decide) (by decide)
                have o_a1 := gr_ob g300 o_a1
                have o_a244 := gr_ob g300 o_a244
                have o_a250 := gr_ob g300 o_a250
                have o_a274 := gr_ob g300 o_a274
                have o_a279 := gr_ob g300 o_a279
                have o_a289 := gr_ob g300 o_a289
                have o_v0 := gr_ob g300 o_v0
                have g0 := gr_tr (T := S253) g0 g300
                have gL5 := gr_tr (T := S253) gL5 g300
                have gL223 := gr_tr (T := S253) gL223 g300
                have gL254 := gr_tr (T := S253) gL254 g300
                intro _
                have hS := sb_tk hIo o0_v0 fc301 g300 (by decide) p_S299 rfl (qw184 h0 h1 h2 h3 i1u3 r_x21 c22 i1u221 c240 c243 g_x245 r_kv246 gl_x245 c248 i1u252 g_x275 c276 g_x280 dv_x281 dw_x281 ex283 c284 c288 g_x290 gl_x290) (qw185 h0 h1 h2 h3 i1u3 r_x21 c22 i1u221 c240 c243 g_x245 r_kv246 gl_x245 c248 i1u252 g_x275 c276 g_x280 dv_x281 dw_x281 ex283 c284 c288 g_x290 gl_x290) (qw186 h0 h1 h2 h3 i1u3 r_x21 c22 i1u221 c240 c243 g_x245 r_kv246 gl_x245 c248 i1u252 g_x275 c276 g_x280 dv_x281 dw_x281 ex283 c284 c288 g_x290 gl_x290) ew0 ec0 gp297 hS
                refine u_X11_tries_140 ?_
                intro x302 ex302
                exact ih272 _ _ _ _ _ _ _ _ _ ⟨hI, gL254, fL255, rfl, rfl, rfl, rfl, rfl, rfl, rfl, hS, (qw189 h0 h1 h2 h3 i1u3 r_x21 c22 i1u221 c240 c243 g_x245 r_kv246 gl_x245 c248 i1u252 g_x275 c276 g_x280 dv_x281 dw_x281 ex283 c284 c288 g_x290 gl_x290 ex302)⟩ (mu_up (qw190 h0 h1 h2 h3 i1u3 r_x21 c22 i1u221 c240 c243 g_x245 r_kv246 gl_x245 c248 i1u252 g_x275 c276 g_x280 dv_x281 dw_x281 ex283 c284 c288 g_x290 gl_x290 ex302) (qw191 h0 h1 h2 h3 i1u3 r_x21 c22 i1u221 c240 c243 g_x245 r_kv246 gl_x245 c248 i1u252 g_x275 c276 g_x280 dv_x281 dw_x281 ex283 c284 c288 g_x290 gl_x290 ex302))
              · refine ⟨o_a1, ?_⟩
                refine ⟨a244, ea244, ?_⟩
                refine ⟨o_a244, ?_⟩
                refine ⟨(vin l_a244 (m := 12) (by decide) (qw192 h0 h1 h2 h3 i1u3 r_x21 c22 i1u221 c240 c243 g_x245 r_kv246 gl_x245 c248 i1u252 g_x275 c276 g_x280 dv_x281 dw_x281 ex283 c284 c288)), ?_⟩
                intro x304 ex304
                have gy_x304 : 0 ≤ w17 ∧ w17 < fI S253 a1 3 := by rw [← d_x21]; exact (qw193 h0 h1 h2 h3 i1u3 r_x21 c22 i1u221 c240 c243 g_x245 r_kv246 gl_x245 c248 i1u252 g_x275 c276 g_x280 dv_x281 dw_x281 ex283 c284 c288)
                have g_x304 : (0 : Int32) ≤ x304 ∧ x304 ≤ (7 : Int32) := by rw [ex304]; exact wg_at (ml_wg hI o_v0 ea1) 1 rfl gy_x304 ea244
                have gl_x304 : x304 < kv246 := by rw [ex304, d_kv246]; exact wg_lt (ml_wg hI o_v0 ea1) 1 rfl (by decide) gy_x304 ea244
                intro _
                refine u_X11_spotOf ?_
                refine u_X11_spotOf_0 ?_
                intro _
                refine m_X11_meanOf hI o_v0 (qw194 h0 h1 h2 h3 r_kv2 hwi1 i1u3 r_x21 c22 i1u221 c240 c243 g_x245 r_kv246 gl_x245 c248 i1u252 g_x275 c276 g_x280 dv_x281 dw_x281 ex283 c284 c288 g_x304 gl_x304) (qw195 h0 h1 h2 h3 i1u3 r_x21 c22 i1u221 c240 c243 g_x245 r_kv246 gl_x245 c248 i1u252 g_x275 c276 g_x280 dv_x281 dw_x281 ex283 c284 c288 g_x304 gl_x304) (qw196 h0 h1 h2 h3 i1u3 r_x21 c22 i1u221 c240 c243 g_x245 r_kv246 gl_x245 c248 i1u252 g_x275 c276 g_x280 dv_x281 dw_x281 ex283 c284 c288 g_x304 gl_x304) (qw197 h0 h1 h2 h3 i1u3 r_x21 c22 i1u221 c240 c243 g_x245 r_kv246 gl_x245 c248 i1u252 g_x275 c276 g_x280 dv_x281 dw_x281 ex283 c284 c288 g_x304 gl_x304) ⟨_, ea1⟩ (fun x307 S308 hI2 g309 p_x307 => ?_)
                subst p_x307
                intro _
                have gp311 : gs (fI S253 a1 3) (fI S253 a279) v4 v3 ((((100 : Int32) * w17) + ((10 : Int32) * w237)) + w270) := gs_go (roads := fI S253 a1 3) (L := fI S253 a279) (r := w17) (d := w237) (v := w270) (u := x281) (by rw [← d_x21]; exact (qw198 h0 h1 h2 h3 i1u3 r_x21 c22 i1u221 c240 c243 g_x245 r_kv246 gl_x245 c248 i1u252 g_x275 c276 g_x280 dv_x281 dw_x281 ex283 c284 c288 g_x304 gl_x304)) (qw199 h0 h1 h2 h3 i1u3 r_x21 c22 i1u221 c240 c243 g_x245 r_kv246 gl_x245 c248 i1u252 g_x275 c276 g_x280 dv_x281 dw_x281 ex283 c284 c288 g_x304 gl_x304) (qw200 h0 h1 h2 h3 i1u3 r_x21 c22 i1u221 c240 c243 g_x245 r_kv246 gl_x245 c248 i1u252 g_x275 c276 g_x280 dv_x281 dw_x281 ex283 c284 c288 g_x304 gl_x304) rfl (by rw [ex281, ex280]) (qw201 h0 h1 h2 h3 i1u3 r_x21 c22 i1u221 c240 c243 g_x245 r_kv246 gl_x245 c248 i1u252 g_x275 c276 g_x280 dv_x281 dw_x281 ex283 c284 c288 g_x304 gl_x304)
                have hIo := hI
                have o0_v0 := o_v0
                have ew0 := ea1
                have ec0 := ea279
                refine m_X11_takes hI o_v0 (sp_rng (qw202 h0 h1 h2 h3 i1u3 r_x21 c22 i1u221 c240 c243 g_x245 r_kv246 gl_x245 c248 i1u252 g_x275 c276 g_x280 dv_x281 dw_x281 ex283 c284 c288 g_x304 gl_x304) (qw203 h0 h1 h2 h3 i1u3 r_x21 c22 i1u221 c240 c243 g_x245 r_kv246 gl_x245 c248 i1u252 g_x275 c276 g_x280 dv_x281 dw_x281 ex283 c284 c288 g_x304 gl_x304)) (sp_rng (qw205 h0 h1 h2 h3 i1u3 r_x21 c22 i1u221 c240 c243 g_x245 r_kv246 gl_x245 c248 i1u252 g_x275 c276 g_x280 dv_x281 dw_x281 ex283 c284 c288 g_x304 gl_x304) (qw206 h0 h1 h2 h3 i1u3 r_x21 c22 i1u221 c240 c243 g_x245 r_kv246 gl_x245 c248 i1u252 g_x275 c276 g_x280 dv_x281 dw_x281 ex283 c284 c288 g_x304 gl_x304)) (fun S313 hJ g314 fc315 p_S313 => ?_)
                have hI := hJ
                have l_a244 := (gr_len g314 o_a244).trans l_a244
                have l_a250 := (gr_len g314 o_a250).trans l_a250
                have l_a274 := (gr_len g314 o_a274).trans l_a274
                have l_a279 := (gr_len g314 o_a279).trans l_a279
                have d_kv2 := d_kv2.trans (fri_at fc315 (by decide) (by decide) o_a1).symm
                have d_x21 := d_x21.trans (fri_at fc315 (by decide) (by decide) o_a1).symm
                have d_kv246 := d_kv246.trans (fri_at fc315 (by decide) (by decide) o_a1).symm
                have ea1 := (frr_at fc315 (by decide) (by decide) o_v0).trans ea1
                have ea244 := (frr_at fc315 (by decide) (by decide) o_a1).trans ea244
                have ea250 := (frr_at fc315 (by decide) (by decide) o_a1).trans ea250
                have ea274 := (frr_at fc315 (by decide) (by decide) o_a1).trans ea274
                have ea279 := (frr_at fc315 (by decide) (by decide) o_a1).trans ea279
                have f0 := fri_tr (S := S253) g0 f0 fc315 (by decide) (by decide)
                have fL6 := fri_tr (S := S253) gL5 fL6 fc315 (by decide) (by decide)
                have fL224 := fri_tr (S := S253) gL223 fL224 fc315 (by decide) (by decide)
                have fL255 := fri_tr (S := S253) gL254 fL255 fc315 (by decide) (by decide)
                have o_a1 := gr_ob g314 o_a1
                have o_a244 := gr_ob g314 o_a244
                have o_a250 := gr_ob g314 o_a250
                have o_a274 := gr_ob g314 o_a274
                have o_a279 := gr_ob g314 o_a279
                have o_v0 := gr_ob g314 o_v0
                have g0 := gr_tr (T := S253) g0 g314
                have gL5 := gr_tr (T := S253) gL5 g314
                have gL223 := gr_tr (T := S253) gL223 g314
                have gL254 := gr_tr (T := S253) gL254 g314
                intro _
                have hS := sb_tk hIo o0_v0 fc315 g314 (by decide) p_S313 rfl (qw202 h0 h1 h2 h3 i1u3 r_x21 c22 i1u221 c240 c243 g_x245 r_kv246 gl_x245 c248 i1u252 g_x275 c276 g_x280 dv_x281 dw_x281 ex283 c284 c288 g_x304 gl_x304) (qw203 h0 h1 h2 h3 i1u3 r_x21 c22 i1u221 c240 c243 g_x245 r_kv246 gl_x245 c248 i1u252 g_x275 c276 g_x280 dv_x281 dw_x281 ex283 c284 c288 g_x304 gl_x304) (qw204 h0 h1 h2 h3 i1u3 r_x21 c22 i1u221 c240 c243 g_x245 r_kv246 gl_x245 c248 i1u252 g_x275 c276 g_x280 dv_x281 dw_x281 ex283 c284 c288 g_x304 gl_x304) ew0 ec0 gp311 hS
                refine u_X11_tries_140 ?_
                intro x316 ex316
                exact ih272 _ _ _ _ _ _ _ _ _ ⟨hI, gL254, fL255, rfl, rfl, rfl, rfl, rfl, rfl, rfl, hS, (qw207 h0 h1 h2 h3 i1u3 r_x21 c22 i1u221 c240 c243 g_x245 r_kv246 gl_x245 c248 i1u252 g_x275 c276 g_x280 dv_x281 dw_x281 ex283 c284 c288 g_x304 gl_x304 ex316)⟩ (mu_up (qw208 h0 h1 h2 h3 i1u3 r_x21 c22 i1u221 c240 c243 g_x245 r_kv246 gl_x245 c248 i1u252 g_x275 c276 g_x280 dv_x281 dw_x281 ex283 c284 c288 g_x304 gl_x304 ex316) (qw209 h0 h1 h2 h3 i1u3 r_x21 c22 i1u221 c240 c243 g_x245 r_kv246 gl_x245 c248 i1u252 g_x275 c276 g_x280 dv_x281 dw_x281 ex283 c284 c288 g_x304 gl_x304 ex316))
        · refine u_X11_tries_146 ?_
          intro x317 ex317
          exact ih239 _ _ _ _ _ _ _ _ ⟨hI, gL223, fL224, rfl, rfl, rfl, rfl, rfl, rfl, hS, (qw210 h0 i1u3 r_x21 c22 i1u221 c240 c243 g_x245 r_kv246 gl_x245 c248 ex317)⟩ (mu_up (qw211 h0 i1u3 r_x21 c22 i1u221 c240 c243 g_x245 r_kv246 gl_x245 c248 ex317) (qw212 h0 i1u3 r_x21 c22 i1u221 c240 c243 g_x245 r_kv246 gl_x245 c248 ex317))
      · refine ⟨o_a1, ?_⟩
        obtain ⟨a318, ea318, o_a318, l_a318⟩ := shl 35 rfl hI o_a1
        refine ⟨a318, ea318, ?_⟩
        refine ⟨o_a318, ?_⟩
        refine ⟨(vin l_a318 (m := 12) (by decide) (qw213 i1u3 r_x21 c22 i1u221 c240 c243)), ?_⟩
        intro x319 ex319
        have gy_x319 : 0 ≤ w17 ∧ w17 < fI S222 a1 3 := by rw [← d_x21]; exact (qw214 i1u3 r_x21 c22 i1u221 c240 c243)
        have g_x319 : (0 : Int32) ≤ x319 ∧ x319 ≤ (7 : Int32) := by rw [ex319]; exact wg_at (ml_wg hI o_v0 ea1) 0 rfl gy_x319 ea318
        obtain ⟨kv320, d_kv320⟩ : ∃ z : Int32, z = fI S222 a1 2 := ⟨_, rfl⟩
        have r_kv320 : (0 : Int32) ≤ kv320 ∧ kv320 ≤ (8 : Int32) := by rw [d_kv320]; exact nu 18 rfl hI o_a1
        have gl_x319 : x319 < kv320 := by rw [ex319, d_kv320]; exact wg_lt (ml_wg hI o_v0 ea1) 0 rfl (by decide) gy_x319 ea318
        intro _
        refine ⟨fun c322 => ?_, fun c322 => ?_⟩
        · refine ⟨a1, ea1, ?_⟩
          refine ⟨o_a1, ?_⟩
          obtain ⟨a324, ea324, o_a324, l_a324⟩ := shl 46 rfl hI o_a1
          refine ⟨a324, ea324, ?_⟩
          refine ⟨o_a324, ?_⟩
          refine ⟨(vin l_a324 (m := 4) (by decide) (qw215 h0 r_kv2 hwi1 i1u3 r_x21 c22 i1u221 c240 c243 g_x319 r_kv320 gl_x319 c322)), ?_⟩
          intro x325 ex325
          have gy_x325 : 0 ≤ v1 ∧ v1 < fI S222 a1 4 := by rw [← d_kv2]; exact (qw216 h0 r_kv2 hwi1 i1u3 r_x21 c22 i1u221 c240 c243 g_x319 r_kv320 gl_x319 c322)
          have g_x325 : (1 : Int32) ≤ x325 ∧ x325 ≤ (9 : Int32) := by rw [ex325]; exact wg_at (ml_wg hI o_v0 ea1) 3 rfl gy_x325 ea324
          refine i_X11_tries_53 (fun (y0 : Nat) (y1 : Int32) (y2 : Int32) (y3 : Int32) (y4 : Int32) (y5 : Int32) (y6 : Int32) (y7 : Int32) (Z : HS) => ((2147483647 : Int32).toInt - y7.toInt).toNat) (fun (y0 : Nat) (y1 : Int32) (y2 : Int32) (y3 : Int32) (y4 : Int32) (y5 : Int32) (y6 : Int32) (y7 : Int32) (Z : HS) => (IV Z) ∧ (Gr S222 Z) ∧ (FRI [] [] S222 Z) ∧ (v0 = y0) ∧ (v1 = y1) ∧ (v2 = y2) ∧ (v3 = y3) ∧ (v4 = y4) ∧ (w17 = y5) ∧ (w237 = y6) ∧ (SBD Z v0 v4 v3 v2) ∧ (1 ≤ y7)) ?_ _ _ _ _ _ _ _ _ _ ⟨hI, (gr_rf _), (fri_rf _ _ _), rfl, rfl, rfl, rfl, rfl, rfl, rfl, hS, (qw217 h0 i1u3 r_x21 c22 i1u221 c240 c243 g_x319 r_kv320 gl_x319 c322 g_x325)⟩
          intro w330 w332 w334 w336 w338 w340 w342 w344 S327 X345 ⟨hI, gL328, fL329, q331, q333, q335, q337, q339, q341, q343, hS, i1u326⟩ ih346
          subst q331
          subst q333
          subst q335
          subst q337
          subst q339
          subst q341
          subst q343
          have l_a318 := (gr_len gL328 o_a318).trans l_a318
          have l_a324 := (gr_len gL328 o_a324).trans l_a324
          have d_kv2 := d_kv2.trans (fri_at fL329 (by decide) (by decide) o_a1).symm
          have d_x21 := d_x21.trans (fri_at fL329 (by decide) (by decide) o_a1).symm
          have d_kv320 := d_kv320.trans (fri_at fL329 (by decide) (by decide) o_a1).symm
          have ea1 := (frr_at fL329 (by decide) (by decide) o_v0).trans ea1
          have ea318 := (frr_at fL329 (by decide) (by decide) o_a1).trans ea318
          have ea324 := (frr_at fL329 (by decide) (by decide) o_a1).trans ea324
          have f0 := fri_tr (S := S222) g0 f0 fL329 (by decide) (by decide)
          have fL6 := fri_tr (S := S222) gL5 fL6 fL329 (by decide) (by decide)
          have fL224 := fri_tr (S := S222) gL223 fL224 fL329 (by decide) (by decide)
          have o_a1 := gr_ob gL328 o_a1
          have o_a318 := gr_ob gL328 o_a318
          have o_a324 := gr_ob gL328 o_a324
          have o_v0 := gr_ob gL328 o_v0
          have g0 := gr_tr (T := S222) g0 gL328
          have gL5 := gr_tr (T := S222) gL5 gL328
          have gL223 := gr_tr (T := S222) gL223 gL328
          refine u_X11_tries_53 ?_
          refine ⟨o_v0, ?_⟩
          refine ⟨a1, ea1, ?_⟩
          refine ⟨o_a1, ?_⟩
          obtain ⟨a348, ea348, o_a348, l_a348⟩ := shl 47 rfl hI o_a1
          refine ⟨a348, ea348, ?_⟩
          refine ⟨o_a348, ?_⟩
          refine ⟨(vin l_a348 (m := 4) (by decide) (qw215 h0 r_kv2 hwi1 i1u3 r_x21 c22 i1u221 c240 c243 g_x319 r_kv320 gl_x319 c322)), ?_⟩
          intro x349 ex349
          have gy_x349 : 0 ≤ v1 ∧ v1 < fI S327 a1 4 := by rw [← d_kv2]; exact (qw216 h0 r_kv2 hwi1 i1u3 r_x21 c22 i1u221 c240 c243 g_x319 r_kv320 gl_x319 c322)
          have g_x349 : (0 : Int32) ≤ x349 ∧ x349 ≤ (9 : Int32) := by rw [ex349]; exact wg_at (ml_wg hI o_v0 ea1) 4 rfl gy_x349 ea348
          refine ⟨fun c350 => ?_, fun c350 => ?_⟩
          · refine u_X11_tries_146 ?_
            intro x351 ex351
            exact ih239 _ _ _ _ _ _ _ _ ⟨hI, gL223, fL224, rfl, rfl, rfl, rfl, rfl, rfl, hS, (qw218 h0 i1u3 r_x21 c22 i1u221 c240 c243 g_x319 r_kv320 gl_x319 c322 i1u326 g_x349 c350 ex351)⟩ (mu_up (qw219 h0 i1u3 r_x21 c22 i1u221 c240 c243 g_x319 r_kv320 gl_x319 c322 i1u326 g_x349 c350 ex351) (qw220 h0 i1u3 r_x21 c22 i1u221 c240 c243 g_x319 r_kv320 gl_x319 c322 i1u326 g_x349 c350 ex351))
          · refine ⟨a1, ea1, ?_⟩
            refine ⟨o_a1, ?_⟩
            refine u_X10_minutes ?_
            refine u_X10_minutes_0 ?_
            refine ⟨o_a1, ?_⟩
            obtain ⟨a353, ea353, o_a353, l_a353⟩ := shl 38 rfl hI o_a1
            refine ⟨a353, ea353, ?_⟩
            refine ⟨o_a353, ?_⟩
            refine ⟨(vin l_a353 (m := 12) (by decide) (qw221 h0 i1u3 r_x21 c22 i1u221 c240 c243 g_x319 r_kv320 gl_x319 c322 i1u326 g_x349 c350)), ?_⟩
            intro x354 ex354
            have gy_x354 : 0 ≤ w17 ∧ w17 < fI S327 a1 3 := by rw [← d_x21]; exact (qw222 h0 i1u3 r_x21 c22 i1u221 c240 c243 g_x319 r_kv320 gl_x319 c322 i1u326 g_x349 c350)
            have g_x354 : (1 : Int32) ≤ x354 ∧ x354 ≤ (60 : Int32) := by rw [ex354]; exact wg_at (ml_wg hI o_v0 ea1) 2 rfl gy_x354 ea353
            refine ⟨(qw223 h0 i1u3 r_x21 c22 i1u221 c240 c243 g_x319 r_kv320 gl_x319 c322 i1u326 g_x349 c350), ?_⟩
            intro x355 ex355
            have dv_x355 : 0 ≤ x355 ∧ x355 ≤ ((x354 + w344) - (1 : Int32)) := by rw [ex355]; exact dv0 (qw224 h0 i1u3 r_x21 c22 i1u221 c240 c243 g_x319 r_kv320 gl_x319 c322 i1u326 g_x349 c350 g_x354) (i32pos (qw225 h0 i1u3 r_x21 c22 i1u221 c240 c243 g_x319 r_kv320 gl_x319 c322 i1u326 g_x349 c350))
            have dw_x355 : (1 : Int32) ≤ x355 := by rw [ex355]; exact dv1 (qw226 h0 i1u3 r_x21 c22 i1u221 c240 c243 g_x319 r_kv320 gl_x319 c322 i1u326 g_x349 c350) (qw227 h0 i1u3 r_x21 c22 i1u221 c240 c243 g_x319 r_kv320 gl_x319 c322 i1u326 g_x349 c350 g_x354)
            intro _
            intro x357 ex357
            refine ⟨fun c358 => ?_, fun c358 => ?_⟩
            · refine u_X11_tries_140 ?_
              intro x359 ex359
              exact ih346 _ _ _ _ _ _ _ _ _ ⟨hI, gL328, fL329, rfl, rfl, rfl, rfl, rfl, rfl, rfl, hS, (qw228 h0 h1 h2 h3 i1u3 r_x21 c22 i1u221 c240 c243 g_x319 r_kv320 gl_x319 c322 i1u326 g_x349 c350 g_x354 dv_x355 dw_x355 ex357 c358 ex359)⟩ (mu_up (qw229 h0 h1 h2 h3 i1u3 r_x21 c22 i1u221 c240 c243 g_x319 r_kv320 gl_x319 c322 i1u326 g_x349 c350 g_x354 dv_x355 dw_x355 ex357 c358 ex359) (qw230 h0 h1 h2 h3 i1u3 r_x21 c22 i1u221 c240 c243 g_x319 r_kv320 gl_x319 c322 i1u326 g_x349 c350 g_x354 dv_x355 dw_x355 ex357 c358 ex359))
            · refine u_X11_spotOf ?_
              refine u_X11_spotOf_0 ?_
              intro _
              refine ⟨a1, ea1, ?_⟩
              refine ⟨o_a1, ?_⟩
              refine u_X10_ends ?_
              refine u_X10_ends_0 ?_
              refine ⟨fun c362 => ?_, fun c362 => ?_⟩
              · refine ⟨o_a1, ?_⟩
                refine ⟨a318, ea318, ?_⟩
                refine ⟨o_a318, ?_⟩
                refine ⟨(vin l_a318 (m := 12) (by decide) (qw231 h0 h1 h2 h3 i1u3 r_x21 c22 i1u221 c240 c243 g_x319 r_kv320 gl_x319 c322 i1u326 g_x349 c350 g_x354 dv_x355 dw_x355 ex357 c358 c362)), ?_⟩
                intro x364 ex364
                have gy_x364 : 0 ≤ w17 ∧ w17 < fI S327 a1 3 := by rw [← d_x21]; exact (qw232 h0 h1 h2 h3 i1u3 r_x21 c22 i1u221 c240 c243 g_x319 r_kv320 gl_x319 c322 i1u326 g_x349 c350 g_x354 dv_x355 dw_x355 ex357 c358 c362)
                have g_x364 : (0 : Int32) ≤ x364 ∧ x364 ≤ (7 : Int32) := by rw [ex364]; exact wg_at (ml_wg hI o_v0 ea1) 0 rfl gy_x364 ea318
                have gl_x364 : x364 < kv320 := by rw [ex364, d_kv320]; exact wg_lt (ml_wg hI o_v0 ea1) 0 rfl (by decide) gy_x364 ea318
                intro _
                refine u_X11_spotOf ?_
                refine u_X11_spotOf_0 ?_
                intro _
                refine m_X11_meanOf hI o_v0 (qw233 h0 h1 h2 h3 r_kv2 hwi1 i1u3 r_x21 c22 i1u221 c240 c243 g_x319 r_kv320 gl_x319 c322 i1u326 g_x349 c350 g_x354 dv_x355 dw_x355 ex357 c358 c362 g_x364 gl_x364) (qw234 h0 h1 h2 h3 i1u3 r_x21 c22 i1u221 c240 c243 g_x319 r_kv320 gl_x319 c322 i1u326 g_x349 c350 g_x354 dv_x355 dw_x355 ex357 c358 c362 g_x364 gl_x364) (qw235 h0 h1 h2 h3 i1u3 r_x21 c22 i1u221 c240 c243 g_x319 r_kv320 gl_x319 c322 i1u326 g_x349 c350 g_x354 dv_x355 dw_x355 ex357 c358 c362 g_x364 gl_x364) (qw236 h0 h1 h2 h3 i1u3 r_x21 c22 i1u221 c240 c243 g_x319 r_kv320 gl_x319 c322 i1u326 g_x349 c350 g_x354 dv_x355 dw_x355 ex357 c358 c362 g_x364 gl_x364) ⟨_, ea1⟩ (fun x367 S368 hI2 g369 p_x367 => ?_)
                subst p_x367
                intro _
                have gp371 : gs (fI S327 a1 3) (fI S327 a353) v4 v3 ((((100 : Int32) * w17) + ((10 : Int32) * w237)) + w344) := gs_go (roads := fI S327 a1 3) (L := fI S327 a353) (r := w17) (d := w237) (v := w344) (u := x355) (by rw [← d_x21]; exact (qw237 h0 h1 h2 h3 i1u3 r_x21 c22 i1u221 c240 c243 g_x319 r_kv320 gl_x319 c322 i1u326 g_x349 c350 g_x354 dv_x355 dw_x355 ex357 c358 c362 g_x364 gl_x364)) (qw238 h0 h1 h2 h3 i1u3 r_x21 c22 i1u221 c240 c243 g_x319 r_kv320 gl_x319 c322 i1u326 g_x349 c350 g_x354 dv_x355 dw_x355 ex357 c358 c362 g_x364 gl_x364) (qw239 h0 h1 h2 h3 i1u3 r_x21 c22 i1u221 c240 c243 g_x319 r_kv320 gl_x319 c322 i1u326 g_x349 c350 g_x354 dv_x355 dw_x355 ex357 c358 c362 g_x364 gl_x364) rfl (by rw [ex355, ex354]) (qw240 h0 h1 h2 h3 i1u3 r_x21 c22 i1u221 c240 c243 g_x319 r_kv320 gl_x319 c322 i1u326 g_x349 c350 g_x354 dv_x355 dw_x355 ex357 c358 c362 g_x364 gl_x364)
                have hIo := hI
                have o0_v0 := o_v0
                have ew0 := ea1
                have ec0 := ea353
                refine m_X11_takes hI o_v0 (sp_rng (qw241 h0 h1 h2 h3 i1u3 r_x21 c22 i1u221 c240 c243 g_x319 r_kv320 gl_x319 c322 i1u326 g_x349 c350 g_x354 dv_x355 dw_x355 ex357 c358 c362 g_x364 gl_x364) (qw242 h0 h1 h2 h3 i1u3 r_x21 c22 i1u221 c240 c243 g_x319 r_kv320 gl_x319 c322 i1u326 g_x349 c350 g_x354 dv_x355 dw_x355 ex357 c358 c362 g_x364 gl_x364)) (sp_rng (qw244 h0 h1 h2 h3 i1u3 r_x21 c22 i1u221 c240 c243 g_x319 r_kv320 gl_x319 c322 i1u326 g_x349 c350 g_x354 dv_x355 dw_x355 ex357 c358 c362 g_x364 gl_x364) (qw245 h0 h1 h2 h3 i1u3 r_x21 c22 i1u221 c240 c243 g_x319 r_kv320 gl_x319 c322 i1u326 g_x349 c350 g_x354 dv_x355 dw_x355 ex357 c358 c362 g_x364 gl_x364)) (fun S373 hJ g374 fc375 p_S373 => ?_)
                have hI := hJ
                have l_a318 := (gr_len g374 o_a318).trans l_a318
                have l_a324 := (gr_len g374 o_a324).trans l_a324
                have l_a348 := (gr_len g374 o_a348).trans l_a348
                have l_a353 := (gr_len g374 o_a353).trans l_a353
                have d_kv2 := d_kv2.trans (fri_at fc375 (by decide) (by decide) o_a1).symm
                have d_x21 := d_x21.trans (fri_at fc375 (by decide) (by decide) o_a1).symm
                have d_kv320 := d_kv320.trans (fri_at fc375 (by decide) (by decide) o_a1).symm
                have ea1 := (frr_at fc375 (by decide) (by decide) o_v0).trans ea1
                have ea318 := (frr_at fc375 (by decide) (by decide) o_a1).trans ea318
                have ea324 := (frr_at fc375 (by decide) (by decide) o_a1).trans ea324
                have ea348 := (frr_at fc375 (by decide) (by decide) o_a1).trans ea348
                have ea353 := (frr_at fc375 (by decide) (by decide) o_a1).trans ea353
                have f0 := fri_tr (S := S327) g0 f0 fc375 (by decide) (by decide)
                have fL6 := fri_tr (S := S327) gL5 fL6 fc375 (by decide) (by decide)
                have fL224 := fri_tr (S := S327) gL223 fL224 fc375 (by decide) (by decide)
                have fL329 := fri_tr (S := S327) gL328 fL329 fc375 (by decide) (by decide)
                have o_a1 := gr_ob g374 o_a1
                have o_a318 := gr_ob g374 o_a318
                have o_a324 := gr_ob g374 o_a324
                have o_a348 := gr_ob g374 o_a348
                have o_a353 := gr_ob g374 o_a353
                have o_v0 := gr_ob g374 o_v0
                have g0 := gr_tr (T := S327) g0 g374
                have gL5 := gr_tr (T := S327) gL5 g374
                have gL223 := gr_tr (T := S327) gL223 g374
                have gL328 := gr_tr (T := S327) gL328 g374
                intro _
                have hS := sb_tk hIo o0_v0 fc375 g374 (by decide) p_S373 rfl (qw241 h0 h1 h2 h3 i1u3 r_x21 c22 i1u221 c240 c243 g_x319 r_kv320 gl_x319 c322 i1u326 g_x349 c350 g_x354 dv_x355 dw_x355 ex357 c358 c362 g_x364 gl_x364) (qw242 h0 h1 h2 h3 i1u3 r_x21 c22 i1u221 c240 c243 g_x319 r_kv320 gl_x319 c322 i1u326 g_x349 c350 g_x354 dv_x355 dw_x355 ex357 c358 c362 g_x364 gl_x364) (qw243 h0 h1 h2 h3 i1u3 r_x21 c22 i1u221 c240 c243 g_x319 r_kv320 gl_x319 c322 i1u326 g_x349 c350 g_x354 dv_x355 dw_x355 ex357 c358 c362 g_x364 gl_x364) ew0 ec0 gp371 hS
                refine u_X11_tries_140 ?_
                intro x376 ex376
                exact ih346 _ _ _ _ _ _ _ _ _ ⟨hI, gL328, fL329, rfl, rfl, rfl, rfl, rfl, rfl, rfl, hS, (qw246 h0 h1 h2 h3 i1u3 r_x21 c22 i1u221 c240 c243 g_x319 r_kv320 gl_x319 c322 i1u326 g_x349 c350 g_x354 dv_x355 dw_x355 ex357 c358 c362 g_x364 gl_x364 ex376)⟩ (mu_up (qw247 h0 h1 h2 h3 i1u3 r_x21 c22 i1u221 c240 c243 g_x319 r_kv320 gl_x319 c322 i1u326 g_x349 c350 g_x354 dv_x355 dw_x355 ex357 c358 c362 g_x364 gl_x364 ex376) (qw248 h0 h1 h2 h3 i1u3 r_x21 c22 i1u221 c240 c243 g_x319 r_kv320 gl_x319 c322 i1u326 g_x349 c350 g_x354 dv_x355 dw_x355 ex357 c358 c362 g_x364 gl_x364 ex376))
              · refine ⟨o_a1, ?_⟩
                obtain ⟨a377, ea377, o_a377, l_a377⟩ := shl 36 rfl hI o_a1
                refine ⟨a377, ea377, ?_⟩
                refine ⟨o_a377, ?_⟩
                refine ⟨(vin l_a377 (m := 12) (by decide) (qw249 h0 h1 h2 h3 i1u3 r_x21 c22 i1u221 c240 c243 g_x319 r_kv320 gl_x319 c322 i1u326 g_x349 c350 g_x354 dv_x355 dw_x355 ex357 c358 c362)), ?_⟩
                intro x378 ex378
                have gy_x378 : 0 ≤ w17 ∧ w17 < fI S327 a1 3 := by rw [← d_x21]; exact (qw250 h0 h1 h2 h3 i1u3 r_x21 c22 i1u221 c240 c243 g_x319 r_kv320 gl_x319 c322 i1u326 g_x349 c350 g_x354 dv_x355 dw_x355 ex357 c358 c362)
                have g_x378 : (0 : Int32) ≤ x378 ∧ x378 ≤ (7 : Int32) := by rw [ex378]; exact wg_at (ml_wg hI o_v0 ea1) 1 rfl gy_x378 ea377
                have gl_x378 : x378 < kv320 := by rw [ex378, d_kv320]; exact wg_lt (ml_wg hI o_v0 ea1) 1 rfl (by decide) gy_x378 ea377
                intro _
                refine u_X11_spotOf ?_
                refine u_X11_spotOf_0 ?_
                intro _
                refine m_X11_meanOf hI o_v0 (qw251 h0 h1 h2 h3 r_kv2 hwi1 i1u3 r_x21 c22 i1u221 c240 c243 g_x319 r_kv320 gl_x319 c322 i1u326 g_x349 c350 g_x354 dv_x355 dw_x355 ex357 c358 c362 g_x378 gl_x378) (qw252 h0 h1 h2 h3 i1u3 r_x21 c22 i1u221 c240 c243 g_x319 r_kv320 gl_x319 c322 i1u326 g_x349 c350 g_x354 dv_x355 dw_x355 ex357 c358 c362 g_x378 gl_x378) (qw253 h0 h1 h2 h3 i1u3 r_x21 c22 i1u221 c240 c243 g_x319 r_kv320 gl_x319 c322 i1u326 g_x349 c350 g_x354 dv_x355 dw_x355 ex357 c358 c362 g_x378 gl_x378) (qw254 h0 h1 h2 h3 i1u3 r_x21 c22 i1u221 c240 c243 g_x319 r_kv320 gl_x319 c322 i1u326 g_x349 c350 g_x354 dv_x355 dw_x355 ex357 c358 c362 g_x378 gl_x378) ⟨_, ea1⟩ (fun x381 S382 hI2 g383 p_x381 => ?_)
                subst p_x381
                intro _
                have gp385 : gs (fI S327 a1 3) (fI S327 a353) v4 v3 ((((100 : Int32) * w17) + ((10 : Int32) * w237)) + w344) := gs_go (roads := fI S327 a1 3) (L := fI S327 a353) (r := w17) (d := w237) (v := w344) (u := x355) (by rw [← d_x21]; exact (qw255 h0 h1 h2 h3 i1u3 r_x21 c22 i1u221 c240 c243 g_x319 r_kv320 gl_x319 c322 i1u326 g_x349 c350 g_x354 dv_x355 dw_x355 ex357 c358 c362 g_x378 gl_x378)) (qw256 h0 h1 h2 h3 i1u3 r_x21 c22 i1u221 c240 c243 g_x319 r_kv320 gl_x319 c322 i1u326 g_x349 c350 g_x354 dv_x355 dw_x355 ex357 c358 c362 g_x378 gl_x378) (qw257 h0 h1 h2 h3 i1u3 r_x21 c22 i1u221 c240 c243 g_x319 r_kv320 gl_x319 c322 i1u326 g_x349 c350 g_x354 dv_x355 dw_x355 ex357 c358 c362 g_x378 gl_x378) rfl (by rw [ex355, ex354]) (qw258 h0 h1 h2 h3 i1u3 r_x21 c22 i1u221 c240 c243 g_x319 r_kv320 gl_x319 c322 i1u326 g_x349 c350 g_x354 dv_x355 dw_x355 ex357 c358 c362 g_x378 gl_x378)
                have hIo := hI
                have o0_v0 := o_v0
                have ew0 := ea1
                have ec0 := ea353
                refine m_X11_takes hI o_v0 (sp_rng (qw259 h0 h1 h2 h3 i1u3 r_x21 c22 i1u221 c240 c243 g_x319 r_kv320 gl_x319 c322 i1u326 g_x349 c350 g_x354 dv_x355 dw_x355 ex357 c358 c362 g_x378 gl_x378) (qw260 h0 h1 h2 h3 i1u3 r_x21 c22 i1u221 c240 c243 g_x319 r_kv320 gl_x319 c322 i1u326 g_x349 c350 g_x354 dv_x355 dw_x355 ex357 c358 c362 g_x378 gl_x378)) (sp_rng (qw262 h0 h1 h2 h3 i1u3 r_x21 c22 i1u221 c240 c243 g_x319 r_kv320 gl_x319 c322 i1u326 g_x349 c350 g_x354 dv_x355 dw_x355 ex357 c358 c362 g_x378 gl_x378) (qw263 h0 h1 h2 h3 i1u3 r_x21 c22 i1u221 c240 c243 g_x319 r_kv320 gl_x319 c322 i1u326 g_x349 c350 g_x354 dv_x355 dw_x355 ex357 c358 c362 g_x378 gl_x378)) (fun S387 hJ g388 fc389 p_S387 => ?_)
                have hI := hJ
                have l_a318 := (gr_len g388 o_a318).trans l_a318
                have l_a324 := (gr_len g388 o_a324).trans l_a324
                have l_a348 := (gr_len g388 o_a348).trans l_a348
                have l_a353 := (gr_len g388 o_a353).trans l_a353
                have l_a377 := (gr_len g388 o_a377).trans l_a377
                have d_kv2 := d_kv2.trans (fri_at fc389 (by decide) (by decide) o_a1).symm
                have d_x21 := d_x21.trans (fri_at fc389 (by decide) (by decide) o_a1).symm
                have d_kv320 := d_kv320.trans (fri_at fc389 (by decide) (by decide) o_a1).symm
                have ea1 := (frr_at fc389 (by decide) (by decide) o_v0).trans ea1
                have ea318 := (frr_at fc389 (by decide) (by decide) o_a1).trans ea318
                have ea324 := (frr_at fc389 (by decide) (by decide) o_a1).trans ea324
                have ea348 := (frr_at fc389 (by decide) (by decide) o_a1).trans ea348
                have ea353 := (frr_at fc389 (by decide) (by decide) o_a1).trans ea353
                have ea377 := (frr_at fc389 (by decide) (by decide) o_a1).trans ea377
                have f0 := fri_tr (S := S327) g0 f0 fc389 (by decide) (by decide)
                have fL6 := fri_tr (S := S327) gL5 fL6 fc389 (by decide) (by decide)
                have fL224 := fri_tr (S := S327) gL223 fL224 fc389 (by decide) (by decide)
                have fL329 := fri_tr (S := S327) gL328 fL329 fc389 (by decide) (by decide)
                have o_a1 := gr_ob g388 o_a1
                have o_a318 := gr_ob g388 o_a318
                have o_a324 := gr_ob g388 o_a324
                have o_a348 := gr_ob g388 o_a348
                have o_a353 := gr_ob g388 o_a353
                have o_a377 := gr_ob g388 o_a377
                have o_v0 := gr_ob g388 o_v0
                have g0 := gr_tr (T := S327) g0 g388
                have gL5 := gr_tr (T := S327) gL5 g388
                have gL223 := gr_tr (T := S327) gL223 g388
                have gL328 := gr_tr (T := S327) gL328 g388
                intro _
                have hS := sb_tk hIo o0_v0 fc389 g388 (by decide) p_S387 rfl (qw259 h0 h1 h2 h3 i1u3 r_x21 c22 i1u221 c240 c243 g_x319 r_kv320 gl_x319 c322 i1u326 g_x349 c350 g_x354 dv_x355 dw_x355 ex357 c358 c362 g_x378 gl_x378) (qw260 h0 h1 h2 h3 i1u3 r_x21 c22 i1u221 c240 c243 g_x319 r_kv320 gl_x319 c322 i1u326 g_x349 c350 g_x354 dv_x355 dw_x355 ex357 c358 c362 g_x378 gl_x378) (qw261 h0 h1 h2 h3 i1u3 r_x21 c22 i1u221 c240 c243 g_x319 r_kv320 gl_x319 c322 i1u326 g_x349 c350 g_x354 dv_x355 dw_x355 ex357 c358 c362 g_x378 gl_x378) ew0 ec0 gp385 hS
                refine u_X11_tries_140 ?_
                intro x390 ex390
                exact ih346 _ _ _ _ _ _ _ _ _ ⟨hI, gL328, fL329, rfl, rfl, rfl, rfl, rfl, rfl, rfl, hS, (qw264 h0 h1 h2 h3 i1u3 r_x21 c22 i1u221 c240 c243 g_x319 r_kv320 gl_x319 c322 i1u326 g_x349 c350 g_x354 dv_x355 dw_x355 ex357 c358 c362 g_x378 gl_x378 ex390)⟩ (mu_up (qw265 h0 h1 h2 h3 i1u3 r_x21 c22 i1u221 c240 c243 g_x319 r_kv320 gl_x319 c322 i1u326 g_x349 c350 g_x354 dv_x355 dw_x355 ex357 c358 c362 g_x378 gl_x378 ex390) (qw266 h0 h1 h2 h3 i1u3 r_x21 c22 i1u221 c240 c243 g_x319 r_kv320 gl_x319 c322 i1u326 g_x349 c350 g_x354 dv_x355 dw_x355 ex357 c358 c362 g_x378 gl_x378 ex390))
        · refine u_X11_tries_146 ?_
          intro x391 ex391
          exact ih239 _ _ _ _ _ _ _ _ ⟨hI, gL223, fL224, rfl, rfl, rfl, rfl, rfl, rfl, hS, (qw267 h0 i1u3 r_x21 c22 i1u221 c240 c243 g_x319 r_kv320 gl_x319 c322 ex391)⟩ (mu_up (qw268 h0 i1u3 r_x21 c22 i1u221 c240 c243 g_x319 r_kv320 gl_x319 c322 ex391) (qw269 h0 i1u3 r_x21 c22 i1u221 c240 c243 g_x319 r_kv320 gl_x319 c322 ex391))
end
section
set_option maxHeartbeats 4000000 in
set_option maxRecDepth 20000 in
theorem m_X11_laysWays {v0 : Nat} {v1 : Int32} {v2 : Int32} {v3 : Int32} {Q : HS → Prop} {S : HS} (hI : IV S) (o_v0 : ob S v0 11)   (h3 : 0 ≤ v3 ∧ v3 ≤ 400)  (hwi1 : WI S v0 4 v1) (hq : ∀ (T : HS), IV T → Gr S T → FRI [] [] S T → (SBD T v0 v3 (-1) (-1)) → Q T) : P_X11_laysWays v0 v1 v2 v3 Q S := by
  have g0 := gr_rf S
  have f0 := fri_rf [] [] S
  obtain ⟨a1, ea1, hx1⟩ := hwi1
  have o_a1 := ml_ob hI o_v0 ea1
  obtain ⟨kv2, d_kv2⟩ : ∃ z : Int32, z = fI S a1 4 := ⟨_, rfl⟩
  have r_kv2 : (0 : Int32) ≤ kv2 ∧ kv2 ≤ (4 : Int32) := by rw [d_kv2]; exact nu 20 rfl hI o_a1
  have hwi1 : 0 ≤ v1 ∧ v1 < kv2 := by rw [d_kv2]; exact hx1
  refine u_X11_laysWays ?_
  refine u_X11_laysWays_0 ?_
  refine i_X11_laysWays_3 (fun (y0 : Nat) (y1 : Int32) (y2 : Int32) (y3 : Int32) (y4 : Int32) (Z : HS) => (y4.toInt - (-1 : Int32).toInt).toNat) (fun (y0 : Nat) (y1 : Int32) (y2 : Int32) (y3 : Int32) (y4 : Int32) (Z : HS) => (IV Z) ∧ (Gr S Z) ∧ (FRI [] [] S Z) ∧ (v0 = y0) ∧ (v1 = y1) ∧ (v2 = y2) ∧ (v3 = y3) ∧ (-1 ≤ y4 ∧ y4 ≤ y3) ∧ (SBD Z v0 y3 y4 (-1))) ?_ _ _ _ _ _ _ ⟨hI, (gr_rf _), (fri_rf _ _ _), rfl, rfl, rfl, rfl, (qw21 h3), sb_init⟩
  intro w7 w9 w11 w13 w15 S4 X16 ⟨hI, gL5, fL6, q8, q10, q12, q14, i1u3, hS⟩ ih17
  subst q8
  subst q10
  subst q12
  subst q14
  have d_kv2 := d_kv2.trans (fri_at fL6 (by decide) (by decide) o_a1).symm
  have ea1 := (frr_at fL6 (by decide) (by decide) o_v0).trans ea1
  have f0 := fri_tr (S := S) g0 f0 fL6 (by decide) (by decide)
  have o_a1 := gr_ob gL5 o_a1
  have o_v0 := gr_ob gL5 o_v0
  have g0 := gr_tr (T := S) g0 gL5
  refine u_X11_laysWays_3 ?_
  refine ⟨fun c18 => ?_, fun c18 => ?_⟩
  · exact hq _ hI g0 f0 (by rw [show w15 = -1 from (qw22 h3 i1u3 c18)] at hS; exact hS)
  · refine i_X11_laysWays_11 (fun (y0 : Nat) (y1 : Int32) (y2 : Int32) (y3 : Int32) (y4 : Int32) (y5 : Int32) (Z : HS) => ((8 : Int32).toInt - y5.toInt).toNat) (fun (y0 : Nat) (y1 : Int32) (y2 : Int32) (y3 : Int32) (y4 : Int32) (y5 : Int32) (Z : HS) => (IV Z) ∧ (Gr S4 Z) ∧ (FRI [] [] S4 Z) ∧ (v0 = y0) ∧ (v1 = y1) ∧ (v2 = y2) ∧ (v3 = y3) ∧ (w15 = y4) ∧ (0 ≤ y5 ∧ y5 ≤ 8) ∧ (SBD Z v0 y3 y4 (y5 - 1))) ?_ _ _ _ _ _ _ _ ⟨hI, (gr_rf _), (fri_rf _ _ _), rfl, rfl, rfl, rfl, rfl, (qw23 h3 i1u3 c18), (sb_0 hS)⟩
    intro w23 w25 w27 w29 w31 w33 S20 X34 ⟨hI, gL21, fL22, q24, q26, q28, q30, q32, i1u19, hS⟩ ih35
    subst q24
    subst q26
    subst q28
    subst q30
    subst q32
    have d_kv2 := d_kv2.trans (fri_at fL22 (by decide) (by decide) o_a1).symm
    have ea1 := (frr_at fL22 (by decide) (by decide) o_v0).trans ea1
    have f0 := fri_tr (S := S4) g0 f0 fL22 (by decide) (by decide)
    have fL6 := fri_tr (S := S4) gL5 fL6 fL22 (by decide) (by decide)
    have o_a1 := gr_ob gL21 o_a1
    have o_v0 := gr_ob gL21 o_v0
    have g0 := gr_tr (T := S4) g0 gL21
    have gL5 := gr_tr (T := S4) gL5 gL21
    refine u_X11_laysWays_11 ?_
    refine ⟨o_v0, ?_⟩
    refine ⟨a1, ea1, ?_⟩
    refine ⟨o_a1, ?_⟩
    intro x37 ex37
    have r_x37 : (0 : Int32) ≤ x37 ∧ x37 ≤ (8 : Int32) := by rw [ex37]; exact nu 18 rfl hI o_a1
    have d_x37 := ex37
    refine ⟨fun c38 => ?_, fun c38 => ?_⟩
    · intro x39 ex39
      exact ih17 _ _ _ _ _ _ ⟨hI, gL5, fL6, rfl, rfl, rfl, rfl, (qw24 h3 i1u3 c18 i1u19 r_x37 c38 ex39), (sb_next hS ea1 (by rw [← d_x37]; exact (qw25 h3 i1u3 c18 i1u19 r_x37 c38 ex39)) (qw26 h3 i1u3 c18 i1u19 r_x37 c38 ex39) (qw27 h3 i1u3 c18 i1u19 r_x37 c38 ex39) (qw28 h3 i1u3 c18 i1u19 r_x37 c38 ex39))⟩ (mu_down (qw29 h3 i1u3 c18 i1u19 r_x37 c38 ex39) (qw30 h3 i1u3 c18 i1u19 r_x37 c38 ex39))
    · refine u_X11_spotOf ?_
      refine u_X11_spotOf_0 ?_
      intro _
      obtain ⟨a41, ea41, o_a41, l_a41⟩ := shl 54 rfl hI o_v0
      refine ⟨a41, ea41, ?_⟩
      refine ⟨fun c42 => ?_, fun c42 => ?_⟩
      · refine u_X11_laysWays_51 ?_
        refine ⟨o_a41, ?_⟩
        have i43 : vp_in (((8 : Int32) * w15) + w33) (hN _ a41) := (vin l_a41 (m := 3208) (by decide) (sp_rng (qw31 h3 i1u3 c18 i1u19 r_x37 c38 c42) (qw32 h3 i1u3 c18 i1u19 r_x37 c38 c42)))
        refine ⟨i43, ?_⟩
        intro S44 eS44
        have hIn : IV S44 := by rw [eS44]; exact iv11_aJ hI o_v0 (by decide) ea41
        have hS := sb_J eS44 hS
        have hI := hIn
        have f0 := fr_J eS44 f0
        have fL6 := fr_J eS44 fL6
        have fL22 := fr_J eS44 fL22
        have d_kv2 := rd_J eS44 d_kv2
        have d_x37 := rd_J eS44 d_x37
        have ea1 := rf_J eS44 ea1
        have ea41 := rf_J eS44 ea41
        have l_a41 := ln_J eS44 l_a41
        have g0 := gr_J eS44 g0
        have gL5 := gr_J eS44 gL5
        have gL21 := gr_J eS44 gL21
        have o_a1 := ob_J eS44 o_a1
        have o_a41 := ob_J eS44 o_a41
        have o_v0 := ob_J eS44 o_v0
        refine ⟨o_v0, ?_⟩
        obtain ⟨a45, ea45, o_a45, l_a45⟩ := shl 55 rfl hI o_v0
        refine ⟨a45, ea45, ?_⟩
        refine ⟨o_a45, ?_⟩
        have i46 : vp_in (((8 : Int32) * w15) + w33) (hN _ a45) := (vin l_a45 (m := 3208) (by decide) (sp_rng (qw31 h3 i1u3 c18 i1u19 r_x37 c38 c42) (qw32 h3 i1u3 c18 i1u19 r_x37 c38 c42)))
        refine ⟨i46, ?_⟩
        intro S47 eS47
        have hIn : IV S47 := by rw [eS47]; exact iv11_aI hI o_v0 ea45 o_a45 (by decide)
        have hS := sb_17 eS47 hI o_v0 ea45 hS
        have hI := hIn
        have f0 := fr_A eS47 g0 f0 o_a45 (by decide)
        have fL6 := fr_A eS47 gL5 fL6 o_a45 (by decide)
        have fL22 := fr_A eS47 gL21 fL22 o_a45 (by decide)
        have d_kv2 := rd_Ik eS47 o_a45 o_a1 (by decide) d_kv2
        have d_x37 := rd_Ik eS47 o_a45 o_a1 (by decide) d_x37
        have ea1 := rf_I eS47 ea1
        have ea41 := rf_I eS47 ea41
        have ea45 := rf_I eS47 ea45
        have l_a41 := ln_I eS47 l_a41
        have l_a45 := ln_I eS47 l_a45
        have g0 := gr_I eS47 g0
        have gL5 := gr_I eS47 gL5
        have gL21 := gr_I eS47 gL21
        have o_a1 := ob_I eS47 o_a1
        have o_a41 := ob_I eS47 o_a41
        have o_a45 := ob_I eS47 o_a45
        have o_v0 := ob_I eS47 o_v0
        obtain ⟨a48, ea48, o_a48, l_a48⟩ := shl 56 rfl hI o_v0
        refine ⟨a48, ea48, ?_⟩
        refine ⟨o_a48, ?_⟩
        have i49 : vp_in (((8 : Int32) * w15) + w33) (hN _ a48) := (vin l_a48 (m := 3208) (by decide) (sp_rng (qw31 h3 i1u3 c18 i1u19 r_x37 c38 c42) (qw32 h3 i1u3 c18 i1u19 r_x37 c38 c42)))
        refine ⟨i49, ?_⟩
        intro S50 eS50
        have hIn : IV S50 := by rw [eS50]; exact iv11_aI hI o_v0 ea48 o_a48 (by decide)
        have hS := sb_18 (p := w33) (m := w15) eS50 hI o_v0 ea48 (qw33 h3 i1u3 c18 i1u19 r_x37 c38 c42) (qw31 h3 i1u3 c18 i1u19 r_x37 c38 c42) (qw32 h3 i1u3 c18 i1u19 r_x37 c38 c42) (qw34 h3 i1u3 c18 i1u19 r_x37 c38 c42) rfl hS
        have hI := hIn
        have f0 := fr_A eS50 g0 f0 o_a48 (by decide)
        have fL6 := fr_A eS50 gL5 fL6 o_a48 (by decide)
        have fL22 := fr_A eS50 gL21 fL22 o_a48 (by decide)
        have d_kv2 := rd_Ik eS50 o_a48 o_a1 (by decide) d_kv2
        have d_x37 := rd_Ik eS50 o_a48 o_a1 (by decide) d_x37
        have ea1 := rf_I eS50 ea1
        have ea41 := rf_I eS50 ea41
        have ea45 := rf_I eS50 ea45
        have ea48 := rf_I eS50 ea48
        have l_a41 := ln_I eS50 l_a41
        have l_a45 := ln_I eS50 l_a45
        have l_a48 := ln_I eS50 l_a48
        have g0 := gr_I eS50 g0
        have gL5 := gr_I eS50 gL5
        have gL21 := gr_I eS50 gL21
        have o_a1 := ob_I eS50 o_a1
        have o_a41 := ob_I eS50 o_a41
        have o_a45 := ob_I eS50 o_a45
        have o_a48 := ob_I eS50 o_a48
        have o_v0 := ob_I eS50 o_v0
        refine ⟨fun c51 => ?_, fun c51 => ?_⟩
        · refine u_X11_laysWays_85 ?_
          intro x52 ex52
          exact ih35 _ _ _ _ _ _ _ ⟨hI, gL21, fL22, rfl, rfl, rfl, rfl, rfl, (qw35 h3 i1u3 c18 i1u19 r_x37 c38 c42 c51 ex52), (by rw [show x52 - 1 = w33 from (qw36 h3 i1u3 c18 i1u19 r_x37 c38 c42 c51 ex52)]; exact hS)⟩ (mu_up (qw37 h3 i1u3 c18 i1u19 r_x37 c38 c42 c51 ex52) (qw38 h3 i1u3 c18 i1u19 r_x37 c38 c42 c51 ex52))
        · refine m_X11_tries hI o_v0 (qw39 h3 i1u3 c18 i1u19 r_x37 c38 c42 c51) (qw40 h3 i1u3 c18 i1u19 r_x37 c38 c42 c51) (qw41 h3 i1u3 c18 i1u19 r_x37 c38 c42 c51) (qw42 h3 i1u3 c18 i1u19 r_x37 c38 c42 c51) hS ⟨_, ea1, (qw43 h3 r_kv2 hwi1 i1u3 c18 i1u19 r_x37 c38 c42 c51), (by rw [← d_kv2]; exact (qw44 h3 r_kv2 hwi1 i1u3 c18 i1u19 r_x37 c38 c42 c51))⟩ (fun S54 hJ g55 fc56 p_S54 => ?_)
          have hS := p_S54
          have hI := hJ
          have l_a41 := (gr_len g55 o_a41).trans l_a41
          have l_a45 := (gr_len g55 o_a45).trans l_a45
          have l_a48 := (gr_len g55 o_a48).trans l_a48
          have d_kv2 := d_kv2.trans (fri_at fc56 (by decide) (by decide) o_a1).symm
          have d_x37 := d_x37.trans (fri_at fc56 (by decide) (by decide) o_a1).symm
          have ea1 := (frr_at fc56 (by decide) (by decide) o_v0).trans ea1
          have ea41 := (frr_at fc56 (by decide) (by decide) o_v0).trans ea41
          have ea45 := (frr_at fc56 (by decide) (by decide) o_v0).trans ea45
          have ea48 := (frr_at fc56 (by decide) (by decide) o_v0).trans ea48
          have f0 := fri_tr (S := S50) g0 f0 fc56 (by decide) (by decide)
          have fL6 := fri_tr (S := S50) gL5 fL6 fc56 (by decide) (by decide)
          have fL22 := fri_tr (S := S50) gL21 fL22 fc56 (by decide) (by decide)
          have o_a1 := gr_ob g55 o_a1
          have o_a41 := gr_ob g55 o_a41
          have o_a45 := gr_ob g55 o_a45
          have o_a48 := gr_ob g55 o_a48
          have o_v0 := gr_ob g55 o_v0
          have g0 := gr_tr (T := S50) g0 g55
          have gL5 := gr_tr (T := S50) gL5 g55
          have gL21 := gr_tr (T := S50) gL21 g55
          intro _
          refine u_X11_laysWays_85 ?_
          intro x57 ex57
          exact ih35 _ _ _ _ _ _ _ ⟨hI, gL21, fL22, rfl, rfl, rfl, rfl, rfl, (qw45 h3 i1u3 c18 i1u19 r_x37 c38 c42 c51 ex57), (by rw [show x57 - 1 = w33 from (qw46 h3 i1u3 c18 i1u19 r_x37 c38 c42 c51 ex57)]; exact hS)⟩ (mu_up (qw47 h3 i1u3 c18 i1u19 r_x37 c38 c42 c51 ex57) (qw48 h3 i1u3 c18 i1u19 r_x37 c38 c42 c51 ex57))
      · refine u_X11_laysWays_51 ?_
        refine ⟨o_a41, ?_⟩
        have i58 : vp_in (((8 : Int32) * w15) + w33) (hN _ a41) := (vin l_a41 (m := 3208) (by decide) (sp_rng (qw49 h3 i1u3 c18 i1u19 r_x37 c38 c42) (qw50 h3 i1u3 c18 i1u19 r_x37 c38 c42)))
        refine ⟨i58, ?_⟩
        intro S59 eS59
        have hIn : IV S59 := by rw [eS59]; exact iv11_aJ hI o_v0 (by decide) ea41
        have hS := sb_J eS59 hS
        have hI := hIn
        have f0 := fr_J eS59 f0
        have fL6 := fr_J eS59 fL6
        have fL22 := fr_J eS59 fL22
        have d_kv2 := rd_J eS59 d_kv2
        have d_x37 := rd_J eS59 d_x37
        have ea1 := rf_J eS59 ea1
        have ea41 := rf_J eS59 ea41
        have l_a41 := ln_J eS59 l_a41
        have g0 := gr_J eS59 g0
        have gL5 := gr_J eS59 gL5
        have gL21 := gr_J eS59 gL21
        have o_a1 := ob_J eS59 o_a1
        have o_a41 := ob_J eS59 o_a41
        have o_v0 := ob_J eS59 o_v0
        refine ⟨o_v0, ?_⟩
        obtain ⟨a60, ea60, o_a60, l_a60⟩ := shl 55 rfl hI o_v0
        refine ⟨a60, ea60, ?_⟩
        refine ⟨o_a60, ?_⟩
        have i61 : vp_in (((8 : Int32) * w15) + w33) (hN _ a60) := (vin l_a60 (m := 3208) (by decide) (sp_rng (qw49 h3 i1u3 c18 i1u19 r_x37 c38 c42) (qw50 h3 i1u3 c18 i1u19 r_x37 c38 c42)))
        refine ⟨i61, ?_⟩
        intro S62 eS62
        have hIn : IV S62 := by rw [eS62]; exact iv11_aI hI o_v0 ea60 o_a60 (by decide)
        have hS := sb_17 eS62 hI o_v0 ea60 hS
        have hI := hIn
        have f0 := fr_A eS62 g0 f0 o_a60 (by decide)
        have fL6 := fr_A eS62 gL5 fL6 o_a60 (by decide)
        have fL22 := fr_A eS62 gL21 fL22 o_a60 (by decide)
        have d_kv2 := rd_Ik eS62 o_a60 o_a1 (by decide) d_kv2
        have d_x37 := rd_Ik eS62 o_a60 o_a1 (by decide) d_x37
        have ea1 := rf_I eS62 ea1
        have ea41 := rf_I eS62 ea41
        have ea60 := rf_I eS62 ea60
        have l_a41 := ln_I eS62 l_a41
        have l_a60 := ln_I eS62 l_a60
        have g0 := gr_I eS62 g0
        have gL5 := gr_I eS62 gL5
        have gL21 := gr_I eS62 gL21
        have o_a1 := ob_I eS62 o_a1
        have o_a41 := ob_I eS62 o_a41
        have o_a60 := ob_I eS62 o_a60
        have o_v0 := ob_I eS62 o_v0
        obtain ⟨a63, ea63, o_a63, l_a63⟩ := shl 56 rfl hI o_v0
        refine ⟨a63, ea63, ?_⟩
        refine ⟨o_a63, ?_⟩
        have i64 : vp_in (((8 : Int32) * w15) + w33) (hN _ a63) := (vin l_a63 (m := 3208) (by decide) (sp_rng (qw49 h3 i1u3 c18 i1u19 r_x37 c38 c42) (qw50 h3 i1u3 c18 i1u19 r_x37 c38 c42)))
        refine ⟨i64, ?_⟩
        intro S65 eS65
        have hIn : IV S65 := by rw [eS65]; exact iv11_aI hI o_v0 ea63 o_a63 (by decide)
        have hS := sb_18 (p := w33) (m := w15) eS65 hI o_v0 ea63 (qw51 h3 i1u3 c18 i1u19 r_x37 c38 c42) (qw49 h3 i1u3 c18 i1u19 r_x37 c38 c42) (qw50 h3 i1u3 c18 i1u19 r_x37 c38 c42) (qw52 h3 i1u3 c18 i1u19 r_x37 c38 c42) rfl hS
        have hI := hIn
        have f0 := fr_A eS65 g0 f0 o_a63 (by decide)
        have fL6 := fr_A eS65 gL5 fL6 o_a63 (by decide)
        have fL22 := fr_A eS65 gL21 fL22 o_a63 (by decide)
        have d_kv2 := rd_Ik eS65 o_a63 o_a1 (by decide) d_kv2
        have d_x37 := rd_Ik eS65 o_a63 o_a1 (by decide) d_x37
        have ea1 := rf_I eS65 ea1
        have ea41 := rf_I eS65 ea41
        have ea60 := rf_I eS65 ea60
        have ea63 := rf_I eS65 ea63
        have l_a41 := ln_I eS65 l_a41
        have l_a60 := ln_I eS65 l_a60
        have l_a63 := ln_I eS65 l_a63
        have g0 := gr_I eS65 g0
        have gL5 := gr_I eS65 gL5
        have gL21 := gr_I eS65 gL21
        have o_a1 := ob_I eS65 o_a1
        have o_a41 := ob_I eS65 o_a41
        have o_a60 := ob_I eS65 o_a60
        have o_a63 := ob_I eS65 o_a63
        have o_v0 := ob_I eS65 o_v0
        refine ⟨fun c66 => ?_, fun c66 => ?_⟩
        · refine u_X11_laysWays_85 ?_
          intro x67 ex67
          exact ih35 _ _ _ _ _ _ _ ⟨hI, gL21, fL22, rfl, rfl, rfl, rfl, rfl, (qw53 h3 i1u3 c18 i1u19 r_x37 c38 c42 c66 ex67), (by rw [show x67 - 1 = w33 from (qw54 h3 i1u3 c18 i1u19 r_x37 c38 c42 c66 ex67)]; exact hS)⟩ (mu_up (qw55 h3 i1u3 c18 i1u19 r_x37 c38 c42 c66 ex67) (qw56 h3 i1u3 c18 i1u19 r_x37 c38 c42 c66 ex67))
        · refine m_X11_tries hI o_v0 (qw57 h3 i1u3 c18 i1u19 r_x37 c38 c42 c66) (qw58 h3 i1u3 c18 i1u19 r_x37 c38 c42 c66) (qw59 h3 i1u3 c18 i1u19 r_x37 c38 c42 c66) (qw60 h3 i1u3 c18 i1u19 r_x37 c38 c42 c66) hS ⟨_, ea1, (qw61 h3 r_kv2 hwi1 i1u3 c18 i1u19 r_x37 c38 c42 c66), (by rw [← d_kv2]; exact (qw62 h3 r_kv2 hwi1 i1u3 c18 i1u19 r_x37 c38 c42 c66))⟩ (fun S69 hJ g70 fc71 p_S69 => ?_)
          have hS := p_S69
          have hI := hJ
          have l_a41 := (gr_len g70 o_a41).trans l_a41
          have l_a60 := (gr_len g70 o_a60).trans l_a60
          have l_a63 := (gr_len g70 o_a63).trans l_a63
          have d_kv2 := d_kv2.trans (fri_at fc71 (by decide) (by decide) o_a1).symm
          have d_x37 := d_x37.trans (fri_at fc71 (by decide) (by decide) o_a1).symm
          have ea1 := (frr_at fc71 (by decide) (by decide) o_v0).trans ea1
          have ea41 := (frr_at fc71 (by decide) (by decide) o_v0).trans ea41
          have ea60 := (frr_at fc71 (by decide) (by decide) o_v0).trans ea60
          have ea63 := (frr_at fc71 (by decide) (by decide) o_v0).trans ea63
          have f0 := fri_tr (S := S65) g0 f0 fc71 (by decide) (by decide)
          have fL6 := fri_tr (S := S65) gL5 fL6 fc71 (by decide) (by decide)
          have fL22 := fri_tr (S := S65) gL21 fL22 fc71 (by decide) (by decide)
          have o_a1 := gr_ob g70 o_a1
          have o_a41 := gr_ob g70 o_a41
          have o_a60 := gr_ob g70 o_a60
          have o_a63 := gr_ob g70 o_a63
          have o_v0 := gr_ob g70 o_v0
          have g0 := gr_tr (T := S65) g0 g70
          have gL5 := gr_tr (T := S65) gL5 g70
          have gL21 := gr_tr (T := S65) gL21 g70
          intro _
          refine u_X11_laysWays_85 ?_
          intro x72 ex72
          exact ih35 _ _ _ _ _ _ _ ⟨hI, gL21, fL22, rfl, rfl, rfl, rfl, rfl, (qw63 h3 i1u3 c18 i1u19 r_x37 c38 c42 c66 ex72), (by rw [show x72 - 1 = w33 from (qw64 h3 i1u3 c18 i1u19 r_x37 c38 c42 c66 ex72)]; exact hS)⟩ (mu_up (qw65 h3 i1u3 c18 i1u19 r_x37 c38 c42 c66 ex72) (qw66 h3 i1u3 c18 i1u19 r_x37 c38 c42 c66 ex72))
set_option maxHeartbeats 4000000 in
set_option maxRecDepth 20000 in
theorem m_X11_refusesWay {v0 : Nat} {v1 : Int32} {v2 : Int32} {v3 : Int32} {v4 : Int32} {v5 : Int32} {Q : Int32 → HS → Prop} {S : HS} (hI : IV S) (o_v0 : ob S v0 11)     (hq : ∀ (r : Int32) (T : HS), IV T → Gr S T → FRI [] [] S T → (r = 0 → WYQ T v0 v2 v4) ∧ (r = 0 ∨ r = 1 ∨ r = 2 ∨ r = 6) → Q r T) : P_X11_refusesWay v0 v1 v2 v3 v4 v5 Q S := by
  have g0 := gr_rf S
  have f0 := fri_rf [] [] S
  refine u_X11_refusesWay ?_
  refine u_X11_refusesWay_0 ?_
  refine ⟨o_v0, ?_⟩
  refine u_X11_isWalker ?_
  refine u_X11_isWalker_0 ?_
  refine ⟨o_v0, ?_⟩
  refine ⟨fun e2 => ?_, fun a1 ea1 => ?_⟩
  · intro _ _
    refine ⟨fun c4 => ?_, fun c4 => absurd (show ¬ (0 : Int32) = 0 from c4) (by decide)⟩
    exact hq _ _ hI g0 f0 ⟨(fun z => absurd z (by decide)), (by have t : (1 : Int32) = 0 ∨ (1 : Int32) = 1 ∨ (1 : Int32) = 2 ∨ (1 : Int32) = 6 := (qw361); rw [] at t; exact t)⟩
  · have o_a1 := ml_ob hI o_v0 ea1
    refine ⟨fun c5 => ?_, fun c5 => ?_⟩
    · intro _ _
      refine ⟨fun c7 => ?_, fun c7 => absurd (show ¬ (0 : Int32) = 0 from c7) (by decide)⟩
      exact hq _ _ hI g0 f0 ⟨(fun z => absurd z (by decide)), (by have t : (1 : Int32) = 0 ∨ (1 : Int32) = 1 ∨ (1 : Int32) = 2 ∨ (1 : Int32) = 6 := (qw362 c5); rw [] at t; exact t)⟩
    · refine ⟨a1, ea1, ?_⟩
      refine ⟨o_a1, ?_⟩
      intro x9 ex9
      have r_x9 : (0 : Int32) ≤ x9 ∧ x9 ≤ (4 : Int32) := by rw [ex9]; exact nu 20 rfl hI o_a1
      have d_x9 := ex9
      refine ⟨fun c10 => ?_, fun c10 => ?_⟩
      · intro _ _
        refine ⟨fun c12 => ?_, fun c12 => absurd (show ¬ (0 : Int32) = 0 from c12) (by decide)⟩
        exact hq _ _ hI g0 f0 ⟨(fun z => absurd z (by decide)), (by have t : (1 : Int32) = 0 ∨ (1 : Int32) = 1 ∨ (1 : Int32) = 2 ∨ (1 : Int32) = 6 := (qw363 c5 r_x9 c10); rw [] at t; exact t)⟩
      · intro _ _
        refine ⟨fun c14 => absurd (show (1 : Int32) = 0 from c14) (by decide), fun c14 => ?_⟩
        refine u_X11_isPlace ?_
        refine u_X11_isPlace_0 ?_
        refine ⟨o_v0, ?_⟩
        refine ⟨fun e16 => (nomatch (e16.symm.trans ea1)), fun a15 ea15 => ?_⟩
        obtain rfl : a1 = a15 := Option.some.inj (ea1.symm.trans ea15)
        refine ⟨fun c17 => ?_, fun c17 => ?_⟩
        · intro _ _
          refine ⟨fun c19 => ?_, fun c19 => absurd (show ¬ (0 : Int32) = 0 from c19) (by decide)⟩
          exact hq _ _ hI g0 f0 ⟨(fun z => absurd z (by decide)), (by have t : (1 : Int32) = 0 ∨ (1 : Int32) = 1 ∨ (1 : Int32) = 2 ∨ (1 : Int32) = 6 := (qw364 c5 r_x9 c10 c17); rw [] at t; exact t)⟩
        · refine ⟨a1, ea1, ?_⟩
          refine ⟨o_a1, ?_⟩
          intro x21 ex21
          have r_x21 : (0 : Int32) ≤ x21 ∧ x21 ≤ (8 : Int32) := by rw [ex21]; exact nu 18 rfl hI o_a1
          have d_x21 := ex21
          refine ⟨fun c22 => ?_, fun c22 => ?_⟩
          · intro _ _
            refine ⟨fun c24 => ?_, fun c24 => absurd (show ¬ (0 : Int32) = 0 from c24) (by decide)⟩
            exact hq _ _ hI g0 f0 ⟨(fun z => absurd z (by decide)), (by have t : (1 : Int32) = 0 ∨ (1 : Int32) = 1 ∨ (1 : Int32) = 2 ∨ (1 : Int32) = 6 := (qw365 c5 r_x9 c10 c17 r_x21 c22); rw [] at t; exact t)⟩
          · intro _ _
            refine ⟨fun c26 => absurd (show (1 : Int32) = 0 from c26) (by decide), fun c26 => ?_⟩
            refine u_X11_isPlace ?_
            refine u_X11_isPlace_0 ?_
            refine ⟨o_v0, ?_⟩
            refine ⟨fun e28 => (nomatch (e28.symm.trans ea1)), fun a27 ea27 => ?_⟩
            obtain rfl : a1 = a27 := Option.some.inj (ea1.symm.trans ea27)
            refine ⟨fun c29 => ?_, fun c29 => ?_⟩
            · intro _ _
              refine ⟨fun c31 => absurd (show ¬ (0 : Int32) = 0 from c31) (by decide), fun c31 => ?_⟩
              exact hq _ _ hI g0 f0 ⟨(fun z => absurd z (by decide)), (by have t : (1 : Int32) = 0 ∨ (1 : Int32) = 1 ∨ (1 : Int32) = 2 ∨ (1 : Int32) = 6 := (qw366 c5 r_x9 c10 c17 r_x21 c22 c29); rw [] at t; exact t)⟩
            · refine ⟨a1, ea1, ?_⟩
              refine ⟨o_a1, ?_⟩
              intro x33 ex33
              have r_x33 : (0 : Int32) ≤ x33 ∧ x33 ≤ (8 : Int32) := by rw [ex33]; exact nu 18 rfl hI o_a1
              have q_x33 : x33 = x21 := ex33.trans d_x21.symm
              have d_x33 := ex33
              refine ⟨fun c34 => ?_, fun c34 => ?_⟩
              · intro _ _
                refine ⟨fun c36 => absurd (show ¬ (0 : Int32) = 0 from c36) (by decide), fun c36 => ?_⟩
                exact hq _ _ hI g0 f0 ⟨(fun z => absurd z (by decide)), (by have t : (1 : Int32) = 0 ∨ (1 : Int32) = 1 ∨ (1 : Int32) = 2 ∨ (1 : Int32) = 6 := (qw367 c5 r_x9 c10 c17 r_x21 c22 c29 r_x33 q_x33 c34); rw [] at t; exact t)⟩
              · intro _ _
                refine ⟨fun c38 => ?_, fun c38 => absurd (show (1 : Int32) = 0 from c38) (by decide)⟩
                refine u_X11_in ?_
                refine u_X11_in_0 ?_
                refine ⟨fun c39 => ?_, fun c39 => ?_⟩
                · intro _ _
                  refine ⟨fun c41 => ?_, fun c41 => absurd (show ¬ (0 : Int32) = 0 from c41) (by decide)⟩
                  exact hq _ _ hI g0 f0 ⟨(fun z => absurd z (by decide)), (by have t : (2 : Int32) = 0 ∨ (2 : Int32) = 1 ∨ (2 : Int32) = 2 ∨ (2 : Int32) = 6 := (qw368 c5 r_x9 c10 c17 r_x21 c22 c29 r_x33 q_x33 c34 c39); rw [] at t; exact t)⟩
                · refine ⟨fun c42 => ?_, fun c42 => ?_⟩
                  · intro _ _
                    refine ⟨fun c44 => ?_, fun c44 => absurd (show ¬ (0 : Int32) = 0 from c44) (by decide)⟩
                    exact hq _ _ hI g0 f0 ⟨(fun z => absurd z (by decide)), (by have t : (2 : Int32) = 0 ∨ (2 : Int32) = 1 ∨ (2 : Int32) = 2 ∨ (2 : Int32) = 6 := (qw369 c5 r_x9 c10 c17 r_x21 c22 c29 r_x33 q_x33 c34 c39 c42); rw [] at t; exact t)⟩
                  · intro _ _
                    refine ⟨fun c46 => absurd (show (1 : Int32) = 0 from c46) (by decide), fun c46 => ?_⟩
                    refine u_X11_in ?_
                    refine u_X11_in_0 ?_
                    refine ⟨fun c47 => ?_, fun c47 => ?_⟩
                    · intro _ _
                      refine ⟨fun c49 => absurd (show ¬ (0 : Int32) = 0 from c49) (by decide), fun c49 => ?_⟩
                      exact hq _ _ hI g0 f0 ⟨(fun z => absurd z (by decide)), (by have t : (2 : Int32) = 0 ∨ (2 : Int32) = 1 ∨ (2 : Int32) = 2 ∨ (2 : Int32) = 6 := (qw370 c5 r_x9 c10 c17 r_x21 c22 c29 r_x33 q_x33 c34 c39 c42 c47); rw [] at t; exact t)⟩
                    · refine ⟨fun c50 => ?_, fun c50 => ?_⟩
                      · intro _ _
                        refine ⟨fun c52 => absurd (show ¬ (0 : Int32) = 0 from c52) (by decide), fun c52 => ?_⟩
                        exact hq _ _ hI g0 f0 ⟨(fun z => absurd z (by decide)), (by have t : (2 : Int32) = 0 ∨ (2 : Int32) = 1 ∨ (2 : Int32) = 2 ∨ (2 : Int32) = 6 := (qw371 c5 r_x9 c10 c17 r_x21 c22 c29 r_x33 q_x33 c34 c39 c42 c47 c50); rw [] at t; exact t)⟩
                      · intro _ _
                        refine ⟨fun c54 => ?_, fun c54 => absurd (show (1 : Int32) = 0 from c54) (by decide)⟩
                        refine m_X11_laysWays hI o_v0 (qw372 c5 r_x9 c10 c17 r_x21 c22 c29 r_x33 q_x33 c34 c39 c42 c47 c50) ⟨_, ea1, (qw373 c5 r_x9 c10 c17 r_x21 c22 c29 r_x33 q_x33 c34 c39 c42 c47 c50), (by rw [← d_x9]; exact (qw374 c5 r_x9 c10 c17 r_x21 c22 c29 r_x33 q_x33 c34 c39 c42 c47 c50))⟩ (fun S56 hJ g57 fc58 p_S56 => ?_)
                        have hI := hJ
                        have d_x9 := d_x9.trans (fri_at fc58 (by decide) (by decide) o_a1).symm
                        have d_x33 := d_x33.trans (fri_at fc58 (by decide) (by decide) o_a1).symm
                        have ea1 := (frr_at fc58 (by decide) (by decide) o_v0).trans ea1
                        have f0 := fri_tr (S := S) g0 f0 fc58 (by decide) (by decide)
                        have o_a1 := gr_ob g57 o_a1
                        have o_v0 := gr_ob g57 o_v0
                        have g0 := gr_tr (T := S) g0 g57
                        intro _
                        obtain ⟨a59, ea59, o_a59, l_a59⟩ := shl 54 rfl hI o_v0
                        refine ⟨a59, ea59, ?_⟩
                        refine u_X11_spotOf ?_
                        refine u_X11_spotOf_0 ?_
                        intro _
                        refine ⟨o_a59, ?_⟩
                        refine ⟨(vin l_a59 (m := 3208) (by decide) (sp_rng (qw375 c5 r_x9 c10 c17 r_x21 c22 c29 r_x33 q_x33 c34 c39 c42 c47 c50) (qw376 c5 r_x9 c10 c17 r_x21 c22 c29 r_x33 q_x33 c34 c39 c42 c47 c50))), ?_⟩
                        intro x61 ex61
                        refine ⟨fun c62 => ?_, fun c62 => ?_⟩
                        · exact hq _ _ hI g0 f0 ⟨(fun _ => ⟨v5, a1, p_S56, (qw377 c5 r_x9 c10 c17 r_x21 c22 c29 r_x33 q_x33 c34 c39 c42 c47 c50 c62), (qw378 c5 r_x9 c10 c17 r_x21 c22 c29 r_x33 q_x33 c34 c39 c42 c47 c50 c62), (qw379 c5 r_x9 c10 c17 r_x21 c22 c29 r_x33 q_x33 c34 c39 c42 c47 c50 c62), ea1, (qw380 c5 r_x9 c10 c17 r_x21 c22 c29 r_x33 q_x33 c34 c39 c42 c47 c50 c62), by rw [← d_x33]; exact (qw381 c5 r_x9 c10 c17 r_x21 c22 c29 r_x33 q_x33 c34 c39 c42 c47 c50 c62)⟩), (by have t : (0 : Int32) = 0 ∨ (0 : Int32) = 1 ∨ (0 : Int32) = 2 ∨ (0 : Int32) = 6 := (qw382 c5 r_x9 c10 c17 r_x21 c22 c29 r_x33 q_x33 c34 c39 c42 c47 c50 c62); rw [] at t; exact t)⟩
                        · exact hq _ _ hI g0 f0 ⟨(fun z => absurd z (by decide)), (by have t : (6 : Int32) = 0 ∨ (6 : Int32) = 1 ∨ (6 : Int32) = 2 ∨ (6 : Int32) = 6 := (qw383 c5 r_x9 c10 c17 r_x21 c22 c29 r_x33 q_x33 c34 c39 c42 c47 c50 c62); rw [] at t; exact t)⟩
set_option maxHeartbeats 4000000 in
set_option maxRecDepth 20000 in
theorem m_X11_least {v0 : Nat} {v1 : Int32} {v2 : Int32} {v3 : Int32} {v4 : Int32} {v5 : Int32} {v6 : Int32} {Q : Int64 → HS → Prop} {S : HS} (hI : IV S) (o_v0 : ob S v0 11)     (hq : ∀ (r : Int64) (T : HS), IV T → Gr S T → FRI [(11, 0), (11, 1), (11, 2)] [] S T → Q r T) : P_X11_least v0 v1 v2 v3 v4 v5 v6 Q S := by
  have g0 := gr_rf S
  have f0 := fri_rf [(11, 0), (11, 1), (11, 2)] [] S
  refine u_X11_least ?_
  refine u_X11_least_0 ?_
  refine ⟨o_v0, ?_⟩
  intro S1 eS1
  have hIn : IV S1 := by rw [eS1]; exact iv11_sI hI o_v0 (by decide) (nu_free (by decide))
  have hI := hIn
  have f0 := fr_I eS1 g0 f0 o_v0 (by decide)
  obtain ⟨kv2, hkv2⟩ : ∃ z : Int32, z = (0 : Int32) := ⟨_, rfl⟩
  have d_kv2 := rd_Is eS1 hkv2
  have g0 := gr_I eS1 g0
  have o_v0 := ob_I eS1 o_v0
  refine m_X11_refusesWay hI o_v0 (fun x3 S4 hJ g5 fc6 p_x3 => ?_)
  obtain ⟨p_x3, pg0_S4⟩ := p_x3
  have hI := hJ
  have d_kv2 := d_kv2.trans (fri_at fc6 (by decide) (by decide) o_v0).symm
  have f0 := fri_tr (S := S1) g0 f0 fc6 (by decide) (by decide)
  have o_v0 := gr_ob g5 o_v0
  have g0 := gr_tr (T := S1) g0 g5
  have ph0_S4 : x3 = 0 ∨ x3 = 1 ∨ x3 = 2 ∨ x3 = 6 := by rw []; exact pg0_S4
  intro _
  have wn_x3 : x3 = 0 → 0 ≤ v2 ∧ v2 < 8 ∧ 0 ≤ v4 ∧ v4 ≤ 400 := fun z => wyq_num hI o_v0 (p_x3 z)
  refine ⟨fun c7 => ?_, fun c7 => ?_⟩
  · obtain ⟨a8, ea8, o_a8, l_a8⟩ := shl 54 rfl hI o_v0
    refine ⟨a8, ea8, ?_⟩
    refine u_X11_spotOf ?_
    refine u_X11_spotOf_0 ?_
    intro _
    refine ⟨o_a8, ?_⟩
    refine ⟨(vin l_a8 (m := 3208) (by decide) (sp_rng (qw385 ph0_S4 wn_x3 c7) (qw386 ph0_S4 wn_x3 c7))), ?_⟩
    intro x10 ex10
    refine m_X11_told hI o_v0 (qw387 ph0_S4 wn_x3 c7) (fun x11 S12 hJ g13 fc14 => ?_)
    have hI := hJ
    have l_a8 := (gr_len g13 o_a8).trans l_a8
    have d_kv2 := d_kv2.trans (fri_at fc14 (by decide) (by decide) o_v0).symm
    have ea8 := (frr_at fc14 (by decide) (by decide) o_v0).trans ea8
    have f0 := fri_tr (S := S4) g0 f0 fc14 (by decide) (by decide)
    have o_a8 := gr_ob g13 o_a8
    have o_v0 := gr_ob g13 o_v0
    have g0 := gr_tr (T := S4) g0 g13
    intro _
    exact hq _ _ hI g0 f0
  · refine u_X11_refused ?_
    refine u_X11_refused_0 ?_
    refine ⟨o_v0, ?_⟩
    intro S15 eS15
    have hIn : IV S15 := by rw [eS15]; exact iv11_sI hI o_v0 (by decide) (nu_free (by decide))
    have hI := hIn
    have f0 := fr_I eS15 g0 f0 o_v0 (by decide)
    have d_kv2 := rd_Ij eS15 (by decide) d_kv2
    have d_x3 := rd_Is eS15 (rfl : x3 = x3)
    have g0 := gr_I eS15 g0
    have o_v0 := ob_I eS15 o_v0
    intro S16 eS16
    have hIn : IV S16 := by rw [eS16]; exact iv11_sI hI o_v0 (by decide) (nu_free (by decide))
    have hI := hIn
    have f0 := fr_I eS16 g0 f0 o_v0 (by decide)
    have d_kv2 := rd_Ij eS16 (by decide) d_kv2
    have d_x3 := rd_Ij eS16 (by decide) d_x3
    obtain ⟨kv17, hkv17⟩ : ∃ z : Int32, z = (-1 : Int32) := ⟨_, rfl⟩
    have d_kv17 := rd_Is eS16 hkv17
    have g0 := gr_I eS16 g0
    have o_v0 := ob_I eS16 o_v0
    intro _
    exact hq _ _ hI g0 f0
set_option maxHeartbeats 4000000 in
set_option maxRecDepth 20000 in
theorem m_X11_off {v0 : Nat} {v1 : Int32} {v2 : Int32} {v3 : Int32} {v4 : Int32} {Q : Int32 → HS → Prop} {S : HS} (hI : IV S) (o_v0 : ob S v0 11)     (hq : ∀ (r : Int32) (T : HS), IV T → Gr S T → FRI [(11, 0), (11, 1), (11, 2)] [] S T → Q r T) : P_X11_off v0 v1 v2 v3 v4 Q S := by
  have g0 := gr_rf S
  have f0 := fri_rf [(11, 0), (11, 1), (11, 2)] [] S
  refine u_X11_off ?_
  refine u_X11_off_0 ?_
  refine ⟨o_v0, ?_⟩
  intro S1 eS1
  have hIn : IV S1 := by rw [eS1]; exact iv11_sI hI o_v0 (by decide) (nu_free (by decide))
  have hI := hIn
  have f0 := fr_I eS1 g0 f0 o_v0 (by decide)
  obtain ⟨kv2, hkv2⟩ : ∃ z : Int32, z = (0 : Int32) := ⟨_, rfl⟩
  have d_kv2 := rd_Is eS1 hkv2
  have g0 := gr_I eS1 g0
  have o_v0 := ob_I eS1 o_v0
  refine u_X11_isWalker ?_
  refine u_X11_isWalker_0 ?_
  refine ⟨o_v0, ?_⟩
  refine ⟨fun e4 => ?_, fun a3 ea3 => ?_⟩
  · intro _ _
    refine ⟨fun c6 => ?_, fun c6 => absurd (show ¬ (0 : Int32) = 0 from c6) (by decide)⟩
    refine u_X11_off_29 ?_
    refine ⟨o_v0, ?_⟩
    refine u_X11_refused ?_
    refine u_X11_refused_0 ?_
    refine ⟨o_v0, ?_⟩
    intro S7 eS7
    have hIn : IV S7 := by rw [eS7]; exact iv11_sI hI o_v0 (by decide) (nu_free (by decide))
    have hI := hIn
    have f0 := fr_I eS7 g0 f0 o_v0 (by decide)
    have d_kv2 := rd_Ij eS7 (by decide) d_kv2
    obtain ⟨kv8, hkv8⟩ : ∃ z : Int32, z = (1 : Int32) := ⟨_, rfl⟩
    have d_kv8 := rd_Is eS7 hkv8
    have g0 := gr_I eS7 g0
    have o_v0 := ob_I eS7 o_v0
    intro S9 eS9
    have hIn : IV S9 := by rw [eS9]; exact iv11_sI hI o_v0 (by decide) (nu_free (by decide))
    have hI := hIn
    have f0 := fr_I eS9 g0 f0 o_v0 (by decide)
    have d_kv2 := rd_Ij eS9 (by decide) d_kv2
    have d_kv8 := rd_Ij eS9 (by decide) d_kv8
    obtain ⟨kv10, hkv10⟩ : ∃ z : Int32, z = (-1 : Int32) := ⟨_, rfl⟩
    have d_kv10 := rd_Is eS9 hkv10
    have g0 := gr_I eS9 g0
    have o_v0 := ob_I eS9 o_v0
    intro _
    exact hq _ _ hI g0 f0
  · have o_a3 := ml_ob hI o_v0 ea3
    refine ⟨fun c12 => ?_, fun c12 => ?_⟩
    · intro _ _
      refine ⟨fun c14 => ?_, fun c14 => absurd (show ¬ (0 : Int32) = 0 from c14) (by decide)⟩
      refine u_X11_off_29 ?_
      refine ⟨o_v0, ?_⟩
      refine u_X11_refused ?_
      refine u_X11_refused_0 ?_
      refine ⟨o_v0, ?_⟩
      intro S15 eS15
      have hIn : IV S15 := by rw [eS15]; exact iv11_sI hI o_v0 (by decide) (nu_free (by decide))
      have hI := hIn
      have f0 := fr_I eS15 g0 f0 o_v0 (by decide)
      have d_kv2 := rd_Ij eS15 (by decide) d_kv2
      obtain ⟨kv16, hkv16⟩ : ∃ z : Int32, z = (1 : Int32) := ⟨_, rfl⟩
      have d_kv16 := rd_Is eS15 hkv16
      have ea3 := rf_I eS15 ea3
      have g0 := gr_I eS15 g0
      have o_a3 := ob_I eS15 o_a3
      have o_v0 := ob_I eS15 o_v0
      intro S17 eS17
      have hIn : IV S17 := by rw [eS17]; exact iv11_sI hI o_v0 (by decide) (nu_free (by decide))
      have hI := hIn
      have f0 := fr_I eS17 g0 f0 o_v0 (by decide)
      have d_kv2 := rd_Ij eS17 (by decide) d_kv2
      have d_kv16 := rd_Ij eS17 (by decide) d_kv16
      obtain ⟨kv18, hkv18⟩ : ∃ z : Int32, z = (-1 : Int32) := ⟨_, rfl⟩
      have d_kv18 := rd_Is eS17 hkv18
      have ea3 := rf_I eS17 ea3
      have g0 := gr_I eS17 g0
      have o_a3 := ob_I eS17 o_a3
      have o_v0 := ob_I eS17 o_v0
      intro _
      exact hq _ _ hI g0 f0
    · refine ⟨a3, ea3, ?_⟩
      refine ⟨o_a3, ?_⟩
      intro x21 ex21
      have r_x21 : (0 : Int32) ≤ x21 ∧ x21 ≤ (4 : Int32) := by rw [ex21]; exact nu 20 rfl hI o_a3
      have d_x21 := ex21
      refine ⟨fun c22 => ?_, fun c22 => ?_⟩
      · intro _ _
        refine ⟨fun c24 => ?_, fun c24 => absurd (show ¬ (0 : Int32) = 0 from c24) (by decide)⟩
        refine u_X11_off_29 ?_
        refine ⟨o_v0, ?_⟩
        refine u_X11_refused ?_
        refine u_X11_refused_0 ?_
        refine ⟨o_v0, ?_⟩
        intro S25 eS25
        have hIn : IV S25 := by rw [eS25]; exact iv11_sI hI o_v0 (by decide) (nu_free (by decide))
        have hI := hIn
        have f0 := fr_I eS25 g0 f0 o_v0 (by decide)
        have d_kv2 := rd_Ij eS25 (by decide) d_kv2
        have d_x21 := rd_Ik eS25 o_v0 o_a3 (by decide) d_x21
        obtain ⟨kv26, hkv26⟩ : ∃ z : Int32, z = (1 : Int32) := ⟨_, rfl⟩
        have d_kv26 := rd_Is eS25 hkv26
        have ea3 := rf_I eS25 ea3
        have g0 := gr_I eS25 g0
        have o_a3 := ob_I eS25 o_a3
        have o_v0 := ob_I eS25 o_v0
        intro S27 eS27
        have hIn : IV S27 := by rw [eS27]; exact iv11_sI hI o_v0 (by decide) (nu_free (by decide))
        have hI := hIn
        have f0 := fr_I eS27 g0 f0 o_v0 (by decide)
        have d_kv2 := rd_Ij eS27 (by decide) d_kv2
        have d_x21 := rd_Ik eS27 o_v0 o_a3 (by decide) d_x21
        have d_kv26 := rd_Ij eS27 (by decide) d_kv26
        obtain ⟨kv28, hkv28⟩ : ∃ z : Int32, z = (-1 : Int32) := ⟨_, rfl⟩
        have d_kv28 := rd_Is eS27 hkv28
        have ea3 := rf_I eS27 ea3
        have g0 := gr_I eS27 g0
        have o_a3 := ob_I eS27 o_a3
        have o_v0 := ob_I eS27 o_v0
        intro _
        exact hq _ _ hI g0 f0
      · intro _ _
        refine ⟨fun c31 => absurd (show (1 : Int32) = 0 from c31) (by decide), fun c31 => ?_⟩
        refine u_X11_isPlace ?_
        refine u_X11_isPlace_0 ?_
        refine ⟨o_v0, ?_⟩
        refine ⟨fun e33 => (nomatch (e33.symm.trans ea3)), fun a32 ea32 => ?_⟩
        obtain rfl : a3 = a32 := Option.some.inj (ea3.symm.trans ea32)
        refine ⟨fun c34 => ?_, fun c34 => ?_⟩
        · intro _ _
          refine ⟨fun c36 => ?_, fun c36 => absurd (show ¬ (0 : Int32) = 0 from c36) (by decide)⟩
          refine u_X11_off_29 ?_
          refine ⟨o_v0, ?_⟩
          refine u_X11_refused ?_
          refine u_X11_refused_0 ?_
          refine ⟨o_v0, ?_⟩
          intro S37 eS37
          have hIn : IV S37 := by rw [eS37]; exact iv11_sI hI o_v0 (by decide) (nu_free (by decide))
          have hI := hIn
          have f0 := fr_I eS37 g0 f0 o_v0 (by decide)
          have d_kv2 := rd_Ij eS37 (by decide) d_kv2
          have d_x21 := rd_Ik eS37 o_v0 o_a3 (by decide) d_x21
          obtain ⟨kv38, hkv38⟩ : ∃ z : Int32, z = (1 : Int32) := ⟨_, rfl⟩
          have d_kv38 := rd_Is eS37 hkv38
          have ea3 := rf_I eS37 ea3
          have g0 := gr_I eS37 g0
          have o_a3 := ob_I eS37 o_a3
          have o_v0 := ob_I eS37 o_v0
          intro S39 eS39
          have hIn : IV S39 := by rw [eS39]; exact iv11_sI hI o_v0 (by decide) (nu_free (by decide))
          have hI := hIn
          have f0 := fr_I eS39 g0 f0 o_v0 (by decide)
          have d_kv2 := rd_Ij eS39 (by decide) d_kv2
          have d_x21 := rd_Ik eS39 o_v0 o_a3 (by decide) d_x21
          have d_kv38 := rd_Ij eS39 (by decide) d_kv38
          obtain ⟨kv40, hkv40⟩ : ∃ z : Int32, z = (-1 : Int32) := ⟨_, rfl⟩
          have d_kv40 := rd_Is eS39 hkv40
          have ea3 := rf_I eS39 ea3
          have g0 := gr_I eS39 g0
          have o_a3 := ob_I eS39 o_a3
          have o_v0 := ob_I eS39 o_v0
          intro _
          exact hq _ _ hI g0 f0
        · refine ⟨a3, ea3, ?_⟩
          refine ⟨o_a3, ?_⟩
          intro x43 ex43
          have r_x43 : (0 : Int32) ≤ x43 ∧ x43 ≤ (8 : Int32) := by rw [ex43]; exact nu 18 rfl hI o_a3
          have d_x43 := ex43
          refine ⟨fun c44 => ?_, fun c44 => ?_⟩
          · intro _ _
            refine ⟨fun c46 => ?_, fun c46 => absurd (show ¬ (0 : Int32) = 0 from c46) (by decide)⟩
            refine u_X11_off_29 ?_
            refine ⟨o_v0, ?_⟩
            refine u_X11_refused ?_
            refine u_X11_refused_0 ?_
            refine ⟨o_v0, ?_⟩
            intro S47 eS47
            have hIn : IV S47 := by rw [eS47]; exact iv11_sI hI o_v0 (by decide) (nu_free (by decide))
            have hI := hIn
            have f0 := fr_I eS47 g0 f0 o_v0 (by decide)
            have d_kv2 := rd_Ij eS47 (by decide) d_kv2
            have d_x21 := rd_Ik eS47 o_v0 o_a3 (by decide) d_x21
            have d_x43 := rd_Ik eS47 o_v0 o_a3 (by decide) d_x43
            obtain ⟨kv48, hkv48⟩ : ∃ z : Int32, z = (1 : Int32) := ⟨_, rfl⟩
            have d_kv48 := rd_Is eS47 hkv48
            have ea3 := rf_I eS47 ea3
            have g0 := gr_I eS47 g0
            have o_a3 := ob_I eS47 o_a3
            have o_v0 := ob_I eS47 o_v0
            intro S49 eS49
            have hIn : IV S49 := by rw [eS49]; exact iv11_sI hI o_v0 (by decide) (nu_free (by decide))
            have hI := hIn
            have f0 := fr_I eS49 g0 f0 o_v0 (by decide)
            have d_kv2 := rd_Ij eS49 (by decide) d_kv2
            have d_x21 := rd_Ik eS49 o_v0 o_a3 (by decide) d_x21
            have d_x43 := rd_Ik eS49 o_v0 o_a3 (by decide) d_x43
            have d_kv48 := rd_Ij eS49 (by decide) d_kv48
            obtain ⟨kv50, hkv50⟩ : ∃ z : Int32, z = (-1 : Int32) := ⟨_, rfl⟩
            have d_kv50 := rd_Is eS49 hkv50
            have ea3 := rf_I eS49 ea3
            have g0 := gr_I eS49 g0
            have o_a3 := ob_I eS49 o_a3
            have o_v0 := ob_I eS49 o_v0
            intro _
            exact hq _ _ hI g0 f0
          · intro _ _
            refine ⟨fun c53 => absurd (show (1 : Int32) = 0 from c53) (by decide), fun c53 => ?_⟩
            refine u_X11_isPlace ?_
            refine u_X11_isPlace_0 ?_
            refine ⟨o_v0, ?_⟩
            refine ⟨fun e55 => (nomatch (e55.symm.trans ea3)), fun a54 ea54 => ?_⟩
            obtain rfl : a3 = a54 := Option.some.inj (ea3.symm.trans ea54)
            refine ⟨fun c56 => ?_, fun c56 => ?_⟩
            · intro _ _
              refine ⟨fun c58 => absurd (show ¬ (0 : Int32) = 0 from c58) (by decide), fun c58 => ?_⟩
              refine u_X11_off_29 ?_
              refine ⟨o_v0, ?_⟩
              refine u_X11_refused ?_
              refine u_X11_refused_0 ?_
              refine ⟨o_v0, ?_⟩
              intro S59 eS59
              have hIn : IV S59 := by rw [eS59]; exact iv11_sI hI o_v0 (by decide) (nu_free (by decide))
              have hI := hIn
              have f0 := fr_I eS59 g0 f0 o_v0 (by decide)
              have d_kv2 := rd_Ij eS59 (by decide) d_kv2
              have d_x21 := rd_Ik eS59 o_v0 o_a3 (by decide) d_x21
              have d_x43 := rd_Ik eS59 o_v0 o_a3 (by decide) d_x43
              obtain ⟨kv60, hkv60⟩ : ∃ z : Int32, z = (1 : Int32) := ⟨_, rfl⟩
              have d_kv60 := rd_Is eS59 hkv60
              have ea3 := rf_I eS59 ea3
              have g0 := gr_I eS59 g0
              have o_a3 := ob_I eS59 o_a3
              have o_v0 := ob_I eS59 o_v0
              intro S61 eS61
              have hIn : IV S61 := by rw [eS61]; exact iv11_sI hI o_v0 (by decide) (nu_free (by decide))
              have hI := hIn
              have f0 := fr_I eS61 g0 f0 o_v0 (by decide)
              have d_kv2 := rd_Ij eS61 (by decide) d_kv2
              have d_x21 := rd_Ik eS61 o_v0 o_a3 (by decide) d_x21
              have d_x43 := rd_Ik eS61 o_v0 o_a3 (by decide) d_x43
              have d_kv60 := rd_Ij eS61 (by decide) d_kv60
              obtain ⟨kv62, hkv62⟩ : ∃ z : Int32, z = (-1 : Int32) := ⟨_, rfl⟩
              have d_kv62 := rd_Is eS61 hkv62
              have ea3 := rf_I eS61 ea3
              have g0 := gr_I eS61 g0
              have o_a3 := ob_I eS61 o_a3
              have o_v0 := ob_I eS61 o_v0
              intro _
              exact hq _ _ hI g0 f0
            · refine ⟨a3, ea3, ?_⟩
              refine ⟨o_a3, ?_⟩
              intro x65 ex65
              have r_x65 : (0 : Int32) ≤ x65 ∧ x65 ≤ (8 : Int32) := by rw [ex65]; exact nu 18 rfl hI o_a3
              have q_x65 : x65 = x43 := ex65.trans d_x43.symm
              have d_x65 := ex65
              refine ⟨fun c66 => ?_, fun c66 => ?_⟩
              · intro _ _
                refine ⟨fun c68 => absurd (show ¬ (0 : Int32) = 0 from c68) (by decide), fun c68 => ?_⟩
                refine u_X11_off_29 ?_
                refine ⟨o_v0, ?_⟩
                refine u_X11_refused ?_
                refine u_X11_refused_0 ?_
                refine ⟨o_v0, ?_⟩
                intro S69 eS69
                have hIn : IV S69 := by rw [eS69]; exact iv11_sI hI o_v0 (by decide) (nu_free (by decide))
                have hI := hIn
                have f0 := fr_I eS69 g0 f0 o_v0 (by decide)
                have d_kv2 := rd_Ij eS69 (by decide) d_kv2
                have d_x21 := rd_Ik eS69 o_v0 o_a3 (by decide) d_x21
                have d_x65 := rd_Ik eS69 o_v0 o_a3 (by decide) d_x65
                obtain ⟨kv70, hkv70⟩ : ∃ z : Int32, z = (1 : Int32) := ⟨_, rfl⟩
                have d_kv70 := rd_Is eS69 hkv70
                have ea3 := rf_I eS69 ea3
                have g0 := gr_I eS69 g0
                have o_a3 := ob_I eS69 o_a3
                have o_v0 := ob_I eS69 o_v0
                intro S71 eS71
                have hIn : IV S71 := by rw [eS71]; exact iv11_sI hI o_v0 (by decide) (nu_free (by decide))
                have hI := hIn
                have f0 := fr_I eS71 g0 f0 o_v0 (by decide)
                have d_kv2 := rd_Ij eS71 (by decide) d_kv2
                have d_x21 := rd_Ik eS71 o_v0 o_a3 (by decide) d_x21
                have d_x65 := rd_Ik eS71 o_v0 o_a3 (by decide) d_x65
                have d_kv70 := rd_Ij eS71 (by decide) d_kv70
                obtain ⟨kv72, hkv72⟩ : ∃ z : Int32, z = (-1 : Int32) := ⟨_, rfl⟩
                have d_kv72 := rd_Is eS71 hkv72
                have ea3 := rf_I eS71 ea3
                have g0 := gr_I eS71 g0
                have o_a3 := ob_I eS71 o_a3
                have o_v0 := ob_I eS71 o_v0
                intro _
                exact hq _ _ hI g0 f0
              · intro _ _
                refine ⟨fun c75 => ?_, fun c75 => absurd (show (1 : Int32) = 0 from c75) (by decide)⟩
                refine u_X11_in ?_
                refine u_X11_in_0 ?_
                refine ⟨fun c76 => ?_, fun c76 => ?_⟩
                · intro _ _
                  refine ⟨fun c78 => absurd (show ¬ (0 : Int32) = 0 from c78) (by decide), fun c78 => ?_⟩
                  refine u_X11_refused ?_
                  refine u_X11_refused_0 ?_
                  refine ⟨o_v0, ?_⟩
                  intro S79 eS79
                  have hIn : IV S79 := by rw [eS79]; exact iv11_sI hI o_v0 (by decide) (nu_free (by decide))
                  have hI := hIn
                  have f0 := fr_I eS79 g0 f0 o_v0 (by decide)
                  have d_kv2 := rd_Ij eS79 (by decide) d_kv2
                  have d_x21 := rd_Ik eS79 o_v0 o_a3 (by decide) d_x21
                  have d_x65 := rd_Ik eS79 o_v0 o_a3 (by decide) d_x65
                  obtain ⟨kv80, hkv80⟩ : ∃ z : Int32, z = (2 : Int32) := ⟨_, rfl⟩
                  have d_kv80 := rd_Is eS79 hkv80
                  have ea3 := rf_I eS79 ea3
                  have g0 := gr_I eS79 g0
                  have o_a3 := ob_I eS79 o_a3
                  have o_v0 := ob_I eS79 o_v0
                  intro S81 eS81
                  have hIn : IV S81 := by rw [eS81]; exact iv11_sI hI o_v0 (by decide) (nu_free (by decide))
                  have hI := hIn
                  have f0 := fr_I eS81 g0 f0 o_v0 (by decide)
                  have d_kv2 := rd_Ij eS81 (by decide) d_kv2
                  have d_x21 := rd_Ik eS81 o_v0 o_a3 (by decide) d_x21
                  have d_x65 := rd_Ik eS81 o_v0 o_a3 (by decide) d_x65
                  have d_kv80 := rd_Ij eS81 (by decide) d_kv80
                  obtain ⟨kv82, hkv82⟩ : ∃ z : Int32, z = (-1 : Int32) := ⟨_, rfl⟩
                  have d_kv82 := rd_Is eS81 hkv82
                  have ea3 := rf_I eS81 ea3
                  have g0 := gr_I eS81 g0
                  have o_a3 := ob_I eS81 o_a3
                  have o_v0 := ob_I eS81 o_v0
                  intro _
                  exact hq _ _ hI g0 f0
                · refine ⟨fun c84 => ?_, fun c84 => ?_⟩
                  · intro _ _
                    refine ⟨fun c86 => absurd (show ¬ (0 : Int32) = 0 from c86) (by decide), fun c86 => ?_⟩
                    refine u_X11_refused ?_
                    refine u_X11_refused_0 ?_
                    refine ⟨o_v0, ?_⟩
                    intro S87 eS87
                    have hIn : IV S87 := by rw [eS87]; exact iv11_sI hI o_v0 (by decide) (nu_free (by decide))
                    have hI := hIn
                    have f0 := fr_I eS87 g0 f0 o_v0 (by decide)
                    have d_kv2 := rd_Ij eS87 (by decide) d_kv2
                    have d_x21 := rd_Ik eS87 o_v0 o_a3 (by decide) d_x21
                    have d_x65 := rd_Ik eS87 o_v0 o_a3 (by decide) d_x65
                    obtain ⟨kv88, hkv88⟩ : ∃ z : Int32, z = (2 : Int32) := ⟨_, rfl⟩
                    have d_kv88 := rd_Is eS87 hkv88
                    have ea3 := rf_I eS87 ea3
                    have g0 := gr_I eS87 g0
                    have o_a3 := ob_I eS87 o_a3
                    have o_v0 := ob_I eS87 o_v0
                    intro S89 eS89
                    have hIn : IV S89 := by rw [eS89]; exact iv11_sI hI o_v0 (by decide) (nu_free (by decide))
                    have hI := hIn
                    have f0 := fr_I eS89 g0 f0 o_v0 (by decide)
                    have d_kv2 := rd_Ij eS89 (by decide) d_kv2
                    have d_x21 := rd_Ik eS89 o_v0 o_a3 (by decide) d_x21
                    have d_x65 := rd_Ik eS89 o_v0 o_a3 (by decide) d_x65
                    have d_kv88 := rd_Ij eS89 (by decide) d_kv88
                    obtain ⟨kv90, hkv90⟩ : ∃ z : Int32, z = (-1 : Int32) := ⟨_, rfl⟩
                    have d_kv90 := rd_Is eS89 hkv90
                    have ea3 := rf_I eS89 ea3
                    have g0 := gr_I eS89 g0
                    have o_a3 := ob_I eS89 o_a3
                    have o_v0 := ob_I eS89 o_v0
                    intro _
                    exact hq _ _ hI g0 f0
                  · intro _ _
                    refine ⟨fun c93 => ?_, fun c93 => absurd (show (1 : Int32) = 0 from c93) (by decide)⟩
                    refine m_X11_laysWays hI o_v0 (qw0 c12 r_x21 c22 c34 r_x43 c44 c56 r_x65 q_x65 c66 c76 c84) ⟨_, ea3, (qw1 c12 r_x21 c22 c34 r_x43 c44 c56 r_x65 q_x65 c66 c76 c84), (by rw [← d_x21]; exact (qw2 c12 r_x21 c22 c34 r_x43 c44 c56 r_x65 q_x65 c66 c76 c84))⟩ (fun S95 hJ g96 fc97 p_S95 => ?_)
                    have hI := hJ
                    have d_kv2 := d_kv2.trans (fri_at fc97 (by decide) (by decide) o_v0).symm
                    have d_x21 := d_x21.trans (fri_at fc97 (by decide) (by decide) o_a3).symm
                    have d_x65 := d_x65.trans (fri_at fc97 (by decide) (by decide) o_a3).symm
                    have ea3 := (frr_at fc97 (by decide) (by decide) o_v0).trans ea3
                    have f0 := fri_tr (S := S1) g0 f0 fc97 (by decide) (by decide)
                    have o_a3 := gr_ob g96 o_a3
                    have o_v0 := gr_ob g96 o_v0
                    have g0 := gr_tr (T := S1) g0 g96
                    intro _
                    refine i_X11_off_67 (fun (y0 : Nat) (y2 : Int32) (y4 : Int32) (y5 : Int32) (y6 : Int32) (Z : HS) => ((2147483647 : Int32).toInt - y6.toInt).toNat) (fun (y0 : Nat) (y2 : Int32) (y4 : Int32) (y5 : Int32) (y6 : Int32) (Z : HS) => (S95 = Z) ∧ (v0 = y0) ∧ (v2 = y2) ∧ (v4 = y4) ∧ (-1 ≤ y5 ∧ y5 ≤ 400 ∧ 0 ≤ y6)) ?_ _ _ _ _ _ _ ⟨rfl, rfl, rfl, rfl, (qw3 c12 r_x21 c22 c34 r_x43 c44 c56 r_x65 q_x65 c66 c76 c84)⟩
                    intro w102 w104 w106 w108 w109 S99 X110 ⟨eS99, q103, q105, q107, i1u98⟩ ih111
                    subst q103
                    subst q105
                    subst q107
                    subst eS99
                    refine u_X11_off_67 ?_
                    refine ⟨fun c112 => ?_, fun c112 => ?_⟩
                    · refine ⟨fun c113 => ?_, fun c113 => ?_⟩
                      · refine ⟨o_v0, ?_⟩
                        refine u_X11_good ?_
                        refine u_X11_good_0 ?_
                        refine ⟨o_v0, ?_⟩
                        intro S114 eS114
                        have hIn : IV S114 := by rw [eS114]; exact iv11_sI hI o_v0 (by decide) (nu_free (by decide))
                        have hI := hIn
                        have f0 := fr_I eS114 g0 f0 o_v0 (by decide)
                        have d_kv2 := rd_Ij eS114 (by decide) d_kv2
                        have d_x21 := rd_Ik eS114 o_v0 o_a3 (by decide) d_x21
                        have d_x65 := rd_Ik eS114 o_v0 o_a3 (by decide) d_x65
                        obtain ⟨kv115, hkv115⟩ : ∃ z : Int32, z = (0 : Int32) := ⟨_, rfl⟩
                        have d_kv115 := rd_Is eS114 hkv115
                        have ea3 := rf_I eS114 ea3
                        have g0 := gr_I eS114 g0
                        have o_a3 := ob_I eS114 o_a3
                        have o_v0 := ob_I eS114 o_v0
                        intro S116 eS116
                        have hIn : IV S116 := by rw [eS116]; exact iv11_sI hI o_v0 (by decide) (nu_free (by decide))
                        have hI := hIn
                        have f0 := fr_I eS116 g0 f0 o_v0 (by decide)
                        have d_kv2 := rd_Ij eS116 (by decide) d_kv2
                        have d_x21 := rd_Ik eS116 o_v0 o_a3 (by decide) d_x21
                        have d_x65 := rd_Ik eS116 o_v0 o_a3 (by decide) d_x65
                        have d_kv115 := rd_Ij eS116 (by decide) d_kv115
                        obtain ⟨kv117, hkv117⟩ : ∃ z : Int32, z = (-1 : Int32) := ⟨_, rfl⟩
                        have d_kv117 := rd_Is eS116 hkv117
                        have ea3 := rf_I eS116 ea3
                        have g0 := gr_I eS116 g0
                        have o_a3 := ob_I eS116 o_a3
                        have o_v0 := ob_I eS116 o_v0
                        intro _
                        exact hq _ _ hI g0 f0
                      · refine ⟨o_v0, ?_⟩
                        refine u_X11_refused ?_
                        refine u_X11_refused_0 ?_
                        refine ⟨o_v0, ?_⟩
                        intro S119 eS119
                        have hIn : IV S119 := by rw [eS119]; exact iv11_sI hI o_v0 (by decide) (nu_free (by decide))
                        have hI := hIn
                        have f0 := fr_I eS119 g0 f0 o_v0 (by decide)
                        have d_kv2 := rd_Ij eS119 (by decide) d_kv2
                        have d_x21 := rd_Ik eS119 o_v0 o_a3 (by decide) d_x21
                        have d_x65 := rd_Ik eS119 o_v0 o_a3 (by decide) d_x65
                        obtain ⟨kv120, hkv120⟩ : ∃ z : Int32, z = (6 : Int32) := ⟨_, rfl⟩
                        have d_kv120 := rd_Is eS119 hkv120
                        have ea3 := rf_I eS119 ea3
                        have g0 := gr_I eS119 g0
                        have o_a3 := ob_I eS119 o_a3
                        have o_v0 := ob_I eS119 o_v0
                        intro S121 eS121
                        have hIn : IV S121 := by rw [eS121]; exact iv11_sI hI o_v0 (by decide) (nu_free (by decide))
                        have hI := hIn
                        have f0 := fr_I eS121 g0 f0 o_v0 (by decide)
                        have d_kv2 := rd_Ij eS121 (by decide) d_kv2
                        have d_x21 := rd_Ik eS121 o_v0 o_a3 (by decide) d_x21
                        have d_x65 := rd_Ik eS121 o_v0 o_a3 (by decide) d_x65
                        have d_kv120 := rd_Ij eS121 (by decide) d_kv120
                        obtain ⟨kv122, hkv122⟩ : ∃ z : Int32, z = (-1 : Int32) := ⟨_, rfl⟩
                        have d_kv122 := rd_Is eS121 hkv122
                        have ea3 := rf_I eS121 ea3
                        have g0 := gr_I eS121 g0
                        have o_a3 := ob_I eS121 o_a3
                        have o_v0 := ob_I eS121 o_v0
                        intro _
                        exact hq _ _ hI g0 f0
                    · refine ⟨o_v0, ?_⟩
                      obtain ⟨a124, ea124, o_a124, l_a124⟩ := shl 54 rfl hI o_v0
                      refine ⟨a124, ea124, ?_⟩
                      refine u_X11_spotOf ?_
                      refine u_X11_spotOf_0 ?_
                      intro _
                      refine ⟨o_a124, ?_⟩
                      refine ⟨(vin l_a124 (m := 3208) (by decide) (sp_rng (qw4 c12 r_x21 c22 c34 r_x43 c44 c56 r_x65 q_x65 c66 c76 c84 i1u98 c112) (qw5 c12 r_x21 c22 c34 r_x43 c44 c56 r_x65 q_x65 c66 c76 c84 i1u98 c112))), ?_⟩
                      intro x126 ex126
                      refine ⟨fun c127 => ?_, fun c127 => ?_⟩
                      · refine u_X11_off_128 ?_
                        intro x128 ex128
                        exact ih111 _ _ _ _ _ _ ⟨rfl, rfl, rfl, rfl, (qw6 c12 r_x21 c22 c34 r_x43 c44 c56 r_x65 q_x65 c66 c76 c84 i1u98 c112 c127 ex128)⟩ (mu_up (qw7 c12 r_x21 c22 c34 r_x43 c44 c56 r_x65 q_x65 c66 c76 c84 i1u98 c112 c127 ex128) (qw8 c12 r_x21 c22 c34 r_x43 c44 c56 r_x65 q_x65 c66 c76 c84 i1u98 c112 c127 ex128))
                      · refine ⟨fun c129 => ?_, fun c129 => ?_⟩
                        · refine u_X11_off_124 ?_
                          refine u_X11_off_128 ?_
                          intro x130 ex130
                          exact ih111 _ _ _ _ _ _ ⟨rfl, rfl, rfl, rfl, (qw9 c12 r_x21 c22 c34 r_x43 c44 c56 r_x65 q_x65 c66 c76 c84 i1u98 c112 c127 c129 ex130)⟩ (mu_up (qw10 c12 r_x21 c22 c34 r_x43 c44 c56 r_x65 q_x65 c66 c76 c84 i1u98 c112 c127 c129 ex130) (qw11 c12 r_x21 c22 c34 r_x43 c44 c56 r_x65 q_x65 c66 c76 c84 i1u98 c112 c127 c129 ex130))
                        · refine ⟨a124, ea124, ?_⟩
                          refine u_X11_spotOf ?_
                          refine u_X11_spotOf_0 ?_
                          intro _
                          refine ⟨o_a124, ?_⟩
                          refine ⟨(vin l_a124 (m := 3208) (by decide) (sp_rng (qw12 c12 r_x21 c22 c34 r_x43 c44 c56 r_x65 q_x65 c66 c76 c84 i1u98 c112 c127 c129) (qw13 c12 r_x21 c22 c34 r_x43 c44 c56 r_x65 q_x65 c66 c76 c84 i1u98 c112 c127 c129))), ?_⟩
                          intro x133 ex133
                          refine ⟨a124, ea124, ?_⟩
                          refine u_X11_spotOf ?_
                          refine u_X11_spotOf_0 ?_
                          intro _
                          refine ⟨o_a124, ?_⟩
                          refine ⟨(vin l_a124 (m := 3208) (by decide) (sp_rng (qw14 c12 r_x21 c22 c34 r_x43 c44 c56 r_x65 q_x65 c66 c76 c84 i1u98 c112 c127 c129) (qw13 c12 r_x21 c22 c34 r_x43 c44 c56 r_x65 q_x65 c66 c76 c84 i1u98 c112 c127 c129))), ?_⟩
                          intro x136 ex136
                          refine ⟨fun c137 => ?_, fun c137 => ?_⟩
                          · refine u_X11_off_128 ?_
                            intro x138 ex138
                            exact ih111 _ _ _ _ _ _ ⟨rfl, rfl, rfl, rfl, (qw15 c12 r_x21 c22 c34 r_x43 c44 c56 r_x65 q_x65 c66 c76 c84 i1u98 c112 c127 c129 c137 ex138)⟩ (mu_up (qw16 c12 r_x21 c22 c34 r_x43 c44 c56 r_x65 q_x65 c66 c76 c84 i1u98 c112 c127 c129 c137 ex138) (qw17 c12 r_x21 c22 c34 r_x43 c44 c56 r_x65 q_x65 c66 c76 c84 i1u98 c112 c127 c129 c137 ex138))
                          · refine u_X11_off_124 ?_
                            refine u_X11_off_128 ?_
                            intro x139 ex139
                            exact ih111 _ _ _ _ _ _ ⟨rfl, rfl, rfl, rfl, (qw18 c12 r_x21 c22 c34 r_x43 c44 c56 r_x65 q_x65 c66 c76 c84 i1u98 c112 c127 c129 c137 ex139)⟩ (mu_up (qw19 c12 r_x21 c22 c34 r_x43 c44 c56 r_x65 q_x65 c66 c76 c84 i1u98 c112 c127 c129 c137 ex139) (qw20 c12 r_x21 c22 c34 r_x43 c44 c56 r_x65 q_x65 c66 c76 c84 i1u98 c112 c127 c129 c137 ex139))
end
section
set_option maxHeartbeats 4000000 in
set_option maxRecDepth 20000 in
theorem m_X11_stepOf {v0 : Nat} {v1 : Int32} {v2 : Int32} {v3 : Int32} {v4 : Int32} {Q : Int32 → HS → Prop} {S : HS} (hI : IV S) (o_v0 : ob S v0 11)   (hY : WYQ S v0 v2 v3)  (hq : ∀ (r : Int32) (T : HS), IV T → Gr S T → (S = T) → Q r T) : P_X11_stepOf v0 v1 v2 v3 v4 Q S := by
  have g0 := gr_rf S
  obtain ⟨tt, wo, hSB, ht1, ht2, ht3, ewo, hp1, hp2⟩ := hY
  have o_wo := ml_ob hI o_v0 ewo
  obtain ⟨kv1, d_kv1⟩ : ∃ z : Int32, z = fI S wo 2 := ⟨_, rfl⟩
  have r_kv1 : (0 : Int32) ≤ kv1 ∧ kv1 ≤ (8 : Int32) := by rw [d_kv1]; exact nu 18 rfl hI o_wo
  obtain ⟨kv2, d_kv2⟩ : ∃ z : Int32, z = fI S wo 3 := ⟨_, rfl⟩
  have r_kv2 : (0 : Int32) ≤ kv2 ∧ kv2 ≤ (12 : Int32) := by rw [d_kv2]; exact nu 19 rfl hI o_wo
  have hp2 : v2 < kv1 := by rw [d_kv1]; exact hp2
  refine u_X11_stepOf ?_
  refine u_X11_stepOf_0 ?_
  refine i_X11_stepOf_9 (fun (y0 : Nat) (y4 : Int32) (y5 : Int32) (y6 : Int32) (y7 : Int32) (Z : HS) => ((401 : Int32).toInt - y6.toInt).toNat) (fun (y0 : Nat) (y4 : Int32) (y5 : Int32) (y6 : Int32) (y7 : Int32) (Z : HS) => (S = Z) ∧ (v0 = y0) ∧ (v4 = y4) ∧ (0 ≤ y5 ∧ y5 < kv1) ∧ (0 ≤ y6 ∧ y6 ≤ tt)) ?_ _ _ _ _ _ _ ⟨rfl, rfl, rfl, (qw279 r_kv1 hp1 hp2), (qw280 ht1 ht2 ht3)⟩
  intro w7 w9 w11 w12 w13 S4 X14 ⟨eS4, q8, q10, i1u3, i2u3⟩ ih15
  subst q8
  subst q10
  subst eS4
  refine u_X11_stepOf_9 ?_
  refine ⟨o_v0, ?_⟩
  obtain ⟨a16, ea16, o_a16, l_a16⟩ := shl 56 rfl hI o_v0
  refine ⟨a16, ea16, ?_⟩
  refine u_X11_spotOf ?_
  refine u_X11_spotOf_0 ?_
  intro _
  refine ⟨o_a16, ?_⟩
  refine ⟨(vin l_a16 (m := 3208) (by decide) (sp_rng (qw281 ht1 ht2 ht3 i2u3) (qw282 r_kv1 hp1 hp2 i1u3))), ?_⟩
  intro x18 ex18
  refine ⟨fun c19 => ?_, fun c19 => ?_⟩
  · refine ⟨fun c20 => ?_, fun c20 => ?_⟩
    · exact hq _ _ hI g0 rfl
    · exact hq _ _ hI g0 rfl
  · refine ⟨a16, ea16, ?_⟩
    refine u_X11_spotOf ?_
    refine u_X11_spotOf_0 ?_
    intro _
    refine ⟨o_a16, ?_⟩
    refine ⟨(vin l_a16 (m := 3208) (by decide) (sp_rng (qw283 ht1 ht2 ht3 i2u3 c19) (qw284 r_kv1 hp1 hp2 i1u3 c19))), ?_⟩
    intro x23 ex23
    obtain ⟨a24, ea24, o_a24, l_a24⟩ := shl 38 rfl hI o_wo
    have qe_x23 : x23 = x18 := by rw [ex23, ex18]
    obtain ⟨rr25, dd26, vv27, uu28, hA_x23, hC_x23, hU_x23⟩ := gs_at hSB ewo ea16 ea24 (qw285 r_kv1 hp1 hp2 i1u3 c19 qe_x23) (by rw [← d_kv1]; exact (qw286 r_kv1 hp1 hp2 i1u3 c19 qe_x23)) (qw287 ht1 ht2 ht3 i2u3 c19 qe_x23) (qw288 ht1 ht2 ht3 i2u3 c19 qe_x23) rfl ex23 d_kv2 (qw289 r_kv2 c19 qe_x23)
    refine ⟨fun c29 => ?_, fun c29 => ?_⟩
    · intro x30 ex30
      refine ⟨fun c31 => ?_, fun c31 => ?_⟩
      · refine ⟨wo, ewo, ?_⟩
        intro x33 ex33
        have dv_x33 : x33 = rr25 := by rw [ex33]; exact (dec100 ((hC_x23.resolve_left (qw290 r_kv2 ht1 ht2 ht3 i2u3 c19 qe_x23 hA_x23 c29 ex30 c31)).resolve_left (qw291 r_kv2 ht1 ht2 ht3 i2u3 c19 qe_x23 hA_x23 c29 ex30 c31)) (qw292 r_kv2 ht1 ht2 ht3 i2u3 c19 qe_x23 hA_x23 c29 ex30 c31) (qw293 r_kv2 ht1 ht2 ht3 i2u3 c19 qe_x23 hA_x23 c29 ex30 c31) (qw294 r_kv2 ht1 ht2 ht3 i2u3 c19 qe_x23 hA_x23 c29 ex30 c31))
        intro x34 ex34
        have dv_x34 : x34 = vv27 := by rw [ex34]; exact (decV ((hC_x23.resolve_left (qw295 r_kv2 ht1 ht2 ht3 i2u3 c19 qe_x23 hA_x23 c29 ex30 c31 dv_x33)).resolve_left (qw296 r_kv2 ht1 ht2 ht3 i2u3 c19 qe_x23 hA_x23 c29 ex30 c31 dv_x33)) (qw297 r_kv2 ht1 ht2 ht3 i2u3 c19 qe_x23 hA_x23 c29 ex30 c31 dv_x33) (qw298 r_kv2 ht1 ht2 ht3 i2u3 c19 qe_x23 hA_x23 c29 ex30 c31 dv_x33) (qw299 r_kv2 ht1 ht2 ht3 i2u3 c19 qe_x23 hA_x23 c29 ex30 c31 dv_x33))
        refine ⟨o_wo, ?_⟩
        refine u_X10_minutes ?_
        refine u_X10_minutes_0 ?_
        refine ⟨o_wo, ?_⟩
        refine ⟨a24, ea24, ?_⟩
        refine ⟨o_a24, ?_⟩
        refine ⟨(vin l_a24 (m := 12) (by decide) (qw300 r_kv2 ht1 ht2 ht3 i2u3 c19 qe_x23 hA_x23 c29 ex30 c31 dv_x33 dv_x34)), ?_⟩
        intro x36 ex36
        have gy_x36 : 0 ≤ x33 ∧ x33 < fI S wo 3 := by rw [← d_kv2]; exact (qw301 r_kv2 ht1 ht2 ht3 i2u3 c19 qe_x23 hA_x23 c29 ex30 c31 dv_x33 dv_x34)
        have g_x36 : (1 : Int32) ≤ x36 ∧ x36 ≤ (60 : Int32) := by rw [ex36]; exact wg_at (ml_wg hI o_v0 ewo) 2 rfl gy_x36 ea24
        refine ⟨(qw302 r_kv2 ht1 ht2 ht3 i2u3 c19 qe_x23 hA_x23 c29 ex30 c31 dv_x33 dv_x34), ?_⟩
        intro x37 ex37
        have dv_x37 : 0 ≤ x37 ∧ x37 ≤ ((x36 + x34) - (1 : Int32)) := by rw [ex37]; exact dv0 (qw303 r_kv2 ht1 ht2 ht3 i2u3 c19 qe_x23 hA_x23 c29 ex30 c31 dv_x33 dv_x34 g_x36) (i32pos (qw304 r_kv2 ht1 ht2 ht3 i2u3 c19 qe_x23 hA_x23 c29 ex30 c31 dv_x33 dv_x34))
        have dw_x37 : (1 : Int32) ≤ x37 := by rw [ex37]; exact dv1 (qw305 r_kv2 ht1 ht2 ht3 i2u3 c19 qe_x23 hA_x23 c29 ex30 c31 dv_x33 dv_x34) (qw306 r_kv2 ht1 ht2 ht3 i2u3 c19 qe_x23 hA_x23 c29 ex30 c31 dv_x33 dv_x34 g_x36)
        have du_x37 : x37 = uu28 := by rw [ex37, ex36, dv_x33, dv_x34, ((hU_x23.resolve_left (qw307 r_kv2 ht1 ht2 ht3 i2u3 c19 qe_x23 hA_x23 c29 ex30 c31 dv_x33 dv_x34 g_x36 dv_x37 dw_x37)).resolve_left (qw308 r_kv2 ht1 ht2 ht3 i2u3 c19 qe_x23 hA_x23 c29 ex30 c31 dv_x33 dv_x34 g_x36 dv_x37 dw_x37))]
        intro _
        refine u_X11_stepOf_82 ?_
        intro x39 ex39
        refine ⟨fun c40 => ?_, fun c40 => ?_⟩
        · refine ⟨o_v0, ?_⟩
          refine ⟨wo, ewo, ?_⟩
          intro x42 ex42
          have dv_x42 : x42 = rr25 := by rw [ex42]; exact (dec100 ((hC_x23.resolve_left (qw309 r_kv2 ht1 ht2 ht3 i2u3 c19 qe_x23 hA_x23 c29 ex30 c31 dv_x33 dv_x34 g_x36 dv_x37 dw_x37 du_x37 ex39 c40)).resolve_left (qw310 r_kv2 ht1 ht2 ht3 i2u3 c19 qe_x23 hA_x23 c29 ex30 c31 dv_x33 dv_x34 g_x36 dv_x37 dw_x37 du_x37 ex39 c40)) (qw311 r_kv2 ht1 ht2 ht3 i2u3 c19 qe_x23 hA_x23 c29 ex30 c31 dv_x33 dv_x34 g_x36 dv_x37 dw_x37 du_x37 ex39 c40) (qw312 r_kv2 ht1 ht2 ht3 i2u3 c19 qe_x23 hA_x23 c29 ex30 c31 dv_x33 dv_x34 g_x36 dv_x37 dw_x37 du_x37 ex39 c40) (qw313 r_kv2 ht1 ht2 ht3 i2u3 c19 qe_x23 hA_x23 c29 ex30 c31 dv_x33 dv_x34 g_x36 dv_x37 dw_x37 du_x37 ex39 c40))
          intro x43 ex43
          intro x44 ex44
          have dv_x44 : x44 = dd26 := by rw [ex44]; exact (decD ex43 ((hC_x23.resolve_left (qw314 r_kv2 ht1 ht2 ht3 i2u3 c19 qe_x23 hA_x23 c29 ex30 c31 dv_x33 dv_x34 g_x36 dv_x37 dw_x37 du_x37 ex39 c40 dv_x42)).resolve_left (qw315 r_kv2 ht1 ht2 ht3 i2u3 c19 qe_x23 hA_x23 c29 ex30 c31 dv_x33 dv_x34 g_x36 dv_x37 dw_x37 du_x37 ex39 c40 dv_x42)) (qw316 r_kv2 ht1 ht2 ht3 i2u3 c19 qe_x23 hA_x23 c29 ex30 c31 dv_x33 dv_x34 g_x36 dv_x37 dw_x37 du_x37 ex39 c40 dv_x42) (qw317 r_kv2 ht1 ht2 ht3 i2u3 c19 qe_x23 hA_x23 c29 ex30 c31 dv_x33 dv_x34 g_x36 dv_x37 dw_x37 du_x37 ex39 c40 dv_x42) (qw318 r_kv2 ht1 ht2 ht3 i2u3 c19 qe_x23 hA_x23 c29 ex30 c31 dv_x33 dv_x34 g_x36 dv_x37 dw_x37 du_x37 ex39 c40 dv_x42))
          refine ⟨o_wo, ?_⟩
          refine u_X10_ends ?_
          refine u_X10_ends_0 ?_
          refine ⟨fun c45 => ?_, fun c45 => ?_⟩
          · refine ⟨o_wo, ?_⟩
            obtain ⟨a46, ea46, o_a46, l_a46⟩ := shl 35 rfl hI o_wo
            refine ⟨a46, ea46, ?_⟩
            refine ⟨o_a46, ?_⟩
            refine ⟨(vin l_a46 (m := 12) (by decide) (qw319 r_kv2 ht1 ht2 ht3 i2u3 c19 qe_x23 hA_x23 c29 ex30 c31 dv_x33 dv_x34 g_x36 dv_x37 dw_x37 du_x37 ex39 c40 dv_x42 dv_x44 c45)), ?_⟩
            intro x47 ex47
            have gy_x47 : 0 ≤ x42 ∧ x42 < fI S wo 3 := by rw [← d_kv2]; exact (qw320 r_kv2 ht1 ht2 ht3 i2u3 c19 qe_x23 hA_x23 c29 ex30 c31 dv_x33 dv_x34 g_x36 dv_x37 dw_x37 du_x37 ex39 c40 dv_x42 dv_x44 c45)
            have g_x47 : (0 : Int32) ≤ x47 ∧ x47 ≤ (7 : Int32) := by rw [ex47]; exact wg_at (ml_wg hI o_v0 ewo) 0 rfl gy_x47 ea46
            have gl_x47 : x47 < kv1 := by rw [ex47, d_kv1]; exact wg_lt (ml_wg hI o_v0 ewo) 0 rfl (by decide) gy_x47 ea46
            intro _
            refine u_X11_stepOf_117 ?_
            exact ih15 _ _ _ _ _ _ ⟨rfl, rfl, rfl, (qw321 r_kv1 r_kv2 ht1 ht2 ht3 hp1 hp2 i1u3 i2u3 c19 qe_x23 hA_x23 c29 ex30 c31 dv_x33 dv_x34 g_x36 dv_x37 dw_x37 du_x37 ex39 c40 dv_x42 dv_x44 c45 g_x47 gl_x47), (qw322 r_kv2 ht1 ht2 ht3 i2u3 c19 qe_x23 hA_x23 c29 ex30 c31 dv_x33 dv_x34 g_x36 dv_x37 dw_x37 du_x37 ex39 c40 dv_x42 dv_x44 c45)⟩ (mu_up (qw323 r_kv2 ht1 ht2 ht3 i2u3 c19 qe_x23 hA_x23 c29 ex30 c31 dv_x33 dv_x34 g_x36 dv_x37 dw_x37 du_x37 ex39 c40 dv_x42 dv_x44 c45) (qw324 r_kv2 ht1 ht2 ht3 i2u3 c19 qe_x23 hA_x23 c29 ex30 c31 dv_x33 dv_x34 g_x36 dv_x37 dw_x37 du_x37 ex39 c40 dv_x42 dv_x44 c45))
          · refine ⟨o_wo, ?_⟩
            obtain ⟨a49, ea49, o_a49, l_a49⟩ := shl 36 rfl hI o_wo
            refine ⟨a49, ea49, ?_⟩
            refine ⟨o_a49, ?_⟩
            refine ⟨(vin l_a49 (m := 12) (by decide) (qw325 r_kv2 ht1 ht2 ht3 i2u3 c19 qe_x23 hA_x23 c29 ex30 c31 dv_x33 dv_x34 g_x36 dv_x37 dw_x37 du_x37 ex39 c40 dv_x42 dv_x44 c45)), ?_⟩
            intro x50 ex50
            have gy_x50 : 0 ≤ x42 ∧ x42 < fI S wo 3 := by rw [← d_kv2]; exact (qw326 r_kv2 ht1 ht2 ht3 i2u3 c19 qe_x23 hA_x23 c29 ex30 c31 dv_x33 dv_x34 g_x36 dv_x37 dw_x37 du_x37 ex39 c40 dv_x42 dv_x44 c45)
            have g_x50 : (0 : Int32) ≤ x50 ∧ x50 ≤ (7 : Int32) := by rw [ex50]; exact wg_at (ml_wg hI o_v0 ewo) 1 rfl gy_x50 ea49
            have gl_x50 : x50 < kv1 := by rw [ex50, d_kv1]; exact wg_lt (ml_wg hI o_v0 ewo) 1 rfl (by decide) gy_x50 ea49
            intro _
            refine u_X11_stepOf_117 ?_
            exact ih15 _ _ _ _ _ _ ⟨rfl, rfl, rfl, (qw327 r_kv1 r_kv2 ht1 ht2 ht3 hp1 hp2 i1u3 i2u3 c19 qe_x23 hA_x23 c29 ex30 c31 dv_x33 dv_x34 g_x36 dv_x37 dw_x37 du_x37 ex39 c40 dv_x42 dv_x44 c45 g_x50 gl_x50), (qw328 r_kv2 ht1 ht2 ht3 i2u3 c19 qe_x23 hA_x23 c29 ex30 c31 dv_x33 dv_x34 g_x36 dv_x37 dw_x37 du_x37 ex39 c40 dv_x42 dv_x44 c45)⟩ (mu_up (qw329 r_kv2 ht1 ht2 ht3 i2u3 c19 qe_x23 hA_x23 c29 ex30 c31 dv_x33 dv_x34 g_x36 dv_x37 dw_x37 du_x37 ex39 c40 dv_x42 dv_x44 c45) (qw330 r_kv2 ht1 ht2 ht3 i2u3 c19 qe_x23 hA_x23 c29 ex30 c31 dv_x33 dv_x34 g_x36 dv_x37 dw_x37 du_x37 ex39 c40 dv_x42 dv_x44 c45))
        · refine u_X11_stepOf_117 ?_
          exact ih15 _ _ _ _ _ _ ⟨rfl, rfl, rfl, (qw331 r_kv1 r_kv2 ht1 ht2 ht3 hp1 hp2 i1u3 i2u3 c19 qe_x23 hA_x23 c29 ex30 c31 dv_x33 dv_x34 g_x36 dv_x37 dw_x37 du_x37 ex39 c40), (qw332 r_kv2 ht1 ht2 ht3 i2u3 c19 qe_x23 hA_x23 c29 ex30 c31 dv_x33 dv_x34 g_x36 dv_x37 dw_x37 du_x37 ex39 c40)⟩ (mu_up (qw333 r_kv2 ht1 ht2 ht3 i2u3 c19 qe_x23 hA_x23 c29 ex30 c31 dv_x33 dv_x34 g_x36 dv_x37 dw_x37 du_x37 ex39 c40) (qw334 r_kv2 ht1 ht2 ht3 i2u3 c19 qe_x23 hA_x23 c29 ex30 c31 dv_x33 dv_x34 g_x36 dv_x37 dw_x37 du_x37 ex39 c40))
      · refine u_X11_stepOf_82 ?_
        intro x52 ex52
        refine ⟨fun c53 => ?_, fun c53 => ?_⟩
        · refine ⟨o_v0, ?_⟩
          refine ⟨wo, ewo, ?_⟩
          intro x55 ex55
          have dv_x55 : x55 = rr25 := by rw [ex55]; exact (dec100 ((hC_x23.resolve_left (qw335 r_kv2 ht1 ht2 ht3 i2u3 c19 qe_x23 hA_x23 c29 ex30 c31 ex52 c53)).resolve_left (qw336 r_kv2 ht1 ht2 ht3 i2u3 c19 qe_x23 hA_x23 c29 ex30 c31 ex52 c53)) (qw337 r_kv2 ht1 ht2 ht3 i2u3 c19 qe_x23 hA_x23 c29 ex30 c31 ex52 c53) (qw338 r_kv2 ht1 ht2 ht3 i2u3 c19 qe_x23 hA_x23 c29 ex30 c31 ex52 c53) (qw339 r_kv2 ht1 ht2 ht3 i2u3 c19 qe_x23 hA_x23 c29 ex30 c31 ex52 c53))
          intro x56 ex56
          intro x57 ex57
          have dv_x57 : x57 = dd26 := by rw [ex57]; exact (decD ex56 ((hC_x23.resolve_left (qw340 r_kv2 ht1 ht2 ht3 i2u3 c19 qe_x23 hA_x23 c29 ex30 c31 ex52 c53 dv_x55)).resolve_left (qw341 r_kv2 ht1 ht2 ht3 i2u3 c19 qe_x23 hA_x23 c29 ex30 c31 ex52 c53 dv_x55)) (qw342 r_kv2 ht1 ht2 ht3 i2u3 c19 qe_x23 hA_x23 c29 ex30 c31 ex52 c53 dv_x55) (qw343 r_kv2 ht1 ht2 ht3 i2u3 c19 qe_x23 hA_x23 c29 ex30 c31 ex52 c53 dv_x55) (qw344 r_kv2 ht1 ht2 ht3 i2u3 c19 qe_x23 hA_x23 c29 ex30 c31 ex52 c53 dv_x55))
          refine ⟨o_wo, ?_⟩
          refine u_X10_ends ?_
          refine u_X10_ends_0 ?_
          refine ⟨fun c58 => ?_, fun c58 => ?_⟩
          · refine ⟨o_wo, ?_⟩
            obtain ⟨a59, ea59, o_a59, l_a59⟩ := shl 35 rfl hI o_wo
            refine ⟨a59, ea59, ?_⟩
            refine ⟨o_a59, ?_⟩
            refine ⟨(vin l_a59 (m := 12) (by decide) (qw345 r_kv2 ht1 ht2 ht3 i2u3 c19 qe_x23 hA_x23 c29 ex30 c31 ex52 c53 dv_x55 dv_x57 c58)), ?_⟩
            intro x60 ex60
            have gy_x60 : 0 ≤ x55 ∧ x55 < fI S wo 3 := by rw [← d_kv2]; exact (qw346 r_kv2 ht1 ht2 ht3 i2u3 c19 qe_x23 hA_x23 c29 ex30 c31 ex52 c53 dv_x55 dv_x57 c58)
            have g_x60 : (0 : Int32) ≤ x60 ∧ x60 ≤ (7 : Int32) := by rw [ex60]; exact wg_at (ml_wg hI o_v0 ewo) 0 rfl gy_x60 ea59
            have gl_x60 : x60 < kv1 := by rw [ex60, d_kv1]; exact wg_lt (ml_wg hI o_v0 ewo) 0 rfl (by decide) gy_x60 ea59
            intro _
            refine u_X11_stepOf_117 ?_
            exact ih15 _ _ _ _ _ _ ⟨rfl, rfl, rfl, (qw347 r_kv1 r_kv2 ht1 ht2 ht3 hp1 hp2 i1u3 i2u3 c19 qe_x23 hA_x23 c29 ex30 c31 ex52 c53 dv_x55 dv_x57 c58 g_x60 gl_x60), (qw348 r_kv2 ht1 ht2 ht3 i2u3 c19 qe_x23 hA_x23 c29 ex30 c31 ex52 c53 dv_x55 dv_x57 c58)⟩ (mu_up (qw349 r_kv2 ht1 ht2 ht3 i2u3 c19 qe_x23 hA_x23 c29 ex30 c31 ex52 c53 dv_x55 dv_x57 c58) (qw350 r_kv2 ht1 ht2 ht3 i2u3 c19 qe_x23 hA_x23 c29 ex30 c31 ex52 c53 dv_x55 dv_x57 c58))
          · refine ⟨o_wo, ?_⟩
            obtain ⟨a62, ea62, o_a62, l_a62⟩ := shl 36 rfl hI o_wo
            refine ⟨a62, ea62, ?_⟩
            refine ⟨o_a62, ?_⟩
            refine ⟨(vin l_a62 (m := 12) (by decide) (qw351 r_kv2 ht1 ht2 ht3 i2u3 c19 qe_x23 hA_x23 c29 ex30 c31 ex52 c53 dv_x55 dv_x57 c58)), ?_⟩
            intro x63 ex63
            have gy_x63 : 0 ≤ x55 ∧ x55 < fI S wo 3 := by rw [← d_kv2]; exact (qw352 r_kv2 ht1 ht2 ht3 i2u3 c19 qe_x23 hA_x23 c29 ex30 c31 ex52 c53 dv_x55 dv_x57 c58)
            have g_x63 : (0 : Int32) ≤ x63 ∧ x63 ≤ (7 : Int32) := by rw [ex63]; exact wg_at (ml_wg hI o_v0 ewo) 1 rfl gy_x63 ea62
            have gl_x63 : x63 < kv1 := by rw [ex63, d_kv1]; exact wg_lt (ml_wg hI o_v0 ewo) 1 rfl (by decide) gy_x63 ea62
            intro _
            refine u_X11_stepOf_117 ?_
            exact ih15 _ _ _ _ _ _ ⟨rfl, rfl, rfl, (qw353 r_kv1 r_kv2 ht1 ht2 ht3 hp1 hp2 i1u3 i2u3 c19 qe_x23 hA_x23 c29 ex30 c31 ex52 c53 dv_x55 dv_x57 c58 g_x63 gl_x63), (qw354 r_kv2 ht1 ht2 ht3 i2u3 c19 qe_x23 hA_x23 c29 ex30 c31 ex52 c53 dv_x55 dv_x57 c58)⟩ (mu_up (qw355 r_kv2 ht1 ht2 ht3 i2u3 c19 qe_x23 hA_x23 c29 ex30 c31 ex52 c53 dv_x55 dv_x57 c58) (qw356 r_kv2 ht1 ht2 ht3 i2u3 c19 qe_x23 hA_x23 c29 ex30 c31 ex52 c53 dv_x55 dv_x57 c58))
        · refine u_X11_stepOf_117 ?_
          exact ih15 _ _ _ _ _ _ ⟨rfl, rfl, rfl, (qw357 r_kv1 r_kv2 ht1 ht2 ht3 hp1 hp2 i1u3 i2u3 c19 qe_x23 hA_x23 c29 ex30 c31 ex52 c53), (qw358 r_kv2 ht1 ht2 ht3 i2u3 c19 qe_x23 hA_x23 c29 ex30 c31 ex52 c53)⟩ (mu_up (qw359 r_kv2 ht1 ht2 ht3 i2u3 c19 qe_x23 hA_x23 c29 ex30 c31 ex52 c53) (qw360 r_kv2 ht1 ht2 ht3 i2u3 c19 qe_x23 hA_x23 c29 ex30 c31 ex52 c53))
    · exact hq _ _ hI g0 rfl
set_option maxHeartbeats 4000000 in
set_option maxRecDepth 20000 in
theorem m_X11_step {v0 : Nat} {v1 : Int32} {v2 : Int32} {v3 : Int32} {v4 : Int32} {v5 : Int32} {v6 : Int32} {Q : Int32 → HS → Prop} {S : HS} (hI : IV S) (o_v0 : ob S v0 11)     (hq : ∀ (r : Int32) (T : HS), IV T → Gr S T → FRI [(11, 0), (11, 1), (11, 2)] [] S T → Q r T) : P_X11_step v0 v1 v2 v3 v4 v5 v6 Q S := by
  have g0 := gr_rf S
  have f0 := fri_rf [(11, 0), (11, 1), (11, 2)] [] S
  refine u_X11_step ?_
  refine u_X11_step_0 ?_
  refine ⟨o_v0, ?_⟩
  intro S1 eS1
  have hIn : IV S1 := by rw [eS1]; exact iv11_sI hI o_v0 (by decide) (nu_free (by decide))
  have hI := hIn
  have f0 := fr_I eS1 g0 f0 o_v0 (by decide)
  obtain ⟨kv2, hkv2⟩ : ∃ z : Int32, z = (0 : Int32) := ⟨_, rfl⟩
  have d_kv2 := rd_Is eS1 hkv2
  have g0 := gr_I eS1 g0
  have o_v0 := ob_I eS1 o_v0
  refine m_X11_refusesWay hI o_v0 (fun x3 S4 hJ g5 fc6 p_x3 => ?_)
  obtain ⟨p_x3, pg0_S4⟩ := p_x3
  have hI := hJ
  have d_kv2 := d_kv2.trans (fri_at fc6 (by decide) (by decide) o_v0).symm
  have f0 := fri_tr (S := S1) g0 f0 fc6 (by decide) (by decide)
  have o_v0 := gr_ob g5 o_v0
  have g0 := gr_tr (T := S1) g0 g5
  have ph0_S4 : x3 = 0 ∨ x3 = 1 ∨ x3 = 2 ∨ x3 = 6 := by rw []; exact pg0_S4
  intro _
  have wn_x3 : x3 = 0 → 0 ≤ v2 ∧ v2 < 8 ∧ 0 ≤ v4 ∧ v4 ≤ 400 := fun z => wyq_num hI o_v0 (p_x3 z)
  refine ⟨fun c7 => ?_, fun c7 => ?_⟩
  · refine ⟨fun c8 => ?_, fun c8 => ?_⟩
    · refine m_X11_stepOf hI o_v0 (p_x3 (qw278 ph0_S4 wn_x3 c7 c8)) (fun x9 S10 hI2 g11 p_x9 => ?_)
      subst p_x9
      intro _
      refine u_X11_step_49 ?_
      refine ⟨fun c13 => ?_, fun c13 => ?_⟩
      · refine ⟨o_v0, ?_⟩
        refine u_X11_good ?_
        refine u_X11_good_0 ?_
        refine ⟨o_v0, ?_⟩
        intro S14 eS14
        have hIn : IV S14 := by rw [eS14]; exact iv11_sI hI o_v0 (by decide) (nu_free (by decide))
        have hI := hIn
        have f0 := fr_I eS14 g0 f0 o_v0 (by decide)
        have d_kv2 := rd_Ij eS14 (by decide) d_kv2
        obtain ⟨kv15, hkv15⟩ : ∃ z : Int32, z = (0 : Int32) := ⟨_, rfl⟩
        have d_kv15 := rd_Is eS14 hkv15
        have g0 := gr_I eS14 g0
        have o_v0 := ob_I eS14 o_v0
        intro S16 eS16
        have hIn : IV S16 := by rw [eS16]; exact iv11_sI hI o_v0 (by decide) (nu_free (by decide))
        have hI := hIn
        have f0 := fr_I eS16 g0 f0 o_v0 (by decide)
        have d_kv2 := rd_Ij eS16 (by decide) d_kv2
        have d_kv15 := rd_Ij eS16 (by decide) d_kv15
        obtain ⟨kv17, hkv17⟩ : ∃ z : Int32, z = (-1 : Int32) := ⟨_, rfl⟩
        have d_kv17 := rd_Is eS16 hkv17
        have g0 := gr_I eS16 g0
        have o_v0 := ob_I eS16 o_v0
        intro _
        exact hq _ _ hI g0 f0
      · refine ⟨o_v0, ?_⟩
        refine u_X11_refused ?_
        refine u_X11_refused_0 ?_
        refine ⟨o_v0, ?_⟩
        intro S19 eS19
        have hIn : IV S19 := by rw [eS19]; exact iv11_sI hI o_v0 (by decide) (nu_free (by decide))
        have hI := hIn
        have f0 := fr_I eS19 g0 f0 o_v0 (by decide)
        have d_kv2 := rd_Ij eS19 (by decide) d_kv2
        obtain ⟨kv20, hkv20⟩ : ∃ z : Int32, z = (1 : Int32) := ⟨_, rfl⟩
        have d_kv20 := rd_Is eS19 hkv20
        have g0 := gr_I eS19 g0
        have o_v0 := ob_I eS19 o_v0
        intro S21 eS21
        have hIn : IV S21 := by rw [eS21]; exact iv11_sI hI o_v0 (by decide) (nu_free (by decide))
        have hI := hIn
        have f0 := fr_I eS21 g0 f0 o_v0 (by decide)
        have d_kv2 := rd_Ij eS21 (by decide) d_kv2
        have d_kv20 := rd_Ij eS21 (by decide) d_kv20
        obtain ⟨kv22, hkv22⟩ : ∃ z : Int32, z = (-1 : Int32) := ⟨_, rfl⟩
        have d_kv22 := rd_Is eS21 hkv22
        have g0 := gr_I eS21 g0
        have o_v0 := ob_I eS21 o_v0
        intro _
        exact hq _ _ hI g0 f0
    · refine u_X11_step_49 ?_
      refine ⟨fun c24 => absurd (show ¬ (-1 : Int32) = (-1 : Int32) from c24) (by decide), fun c24 => ?_⟩
      refine ⟨o_v0, ?_⟩
      refine u_X11_refused ?_
      refine u_X11_refused_0 ?_
      refine ⟨o_v0, ?_⟩
      intro S25 eS25
      have hIn : IV S25 := by rw [eS25]; exact iv11_sI hI o_v0 (by decide) (nu_free (by decide))
      have hI := hIn
      have f0 := fr_I eS25 g0 f0 o_v0 (by decide)
      have d_kv2 := rd_Ij eS25 (by decide) d_kv2
      obtain ⟨kv26, hkv26⟩ : ∃ z : Int32, z = (1 : Int32) := ⟨_, rfl⟩
      have d_kv26 := rd_Is eS25 hkv26
      have g0 := gr_I eS25 g0
      have o_v0 := ob_I eS25 o_v0
      intro S27 eS27
      have hIn : IV S27 := by rw [eS27]; exact iv11_sI hI o_v0 (by decide) (nu_free (by decide))
      have hI := hIn
      have f0 := fr_I eS27 g0 f0 o_v0 (by decide)
      have d_kv2 := rd_Ij eS27 (by decide) d_kv2
      have d_kv26 := rd_Ij eS27 (by decide) d_kv26
      obtain ⟨kv28, hkv28⟩ : ∃ z : Int32, z = (-1 : Int32) := ⟨_, rfl⟩
      have d_kv28 := rd_Is eS27 hkv28
      have g0 := gr_I eS27 g0
      have o_v0 := ob_I eS27 o_v0
      intro _
      exact hq _ _ hI g0 f0
  · refine u_X11_refused ?_
    refine u_X11_refused_0 ?_
    refine ⟨o_v0, ?_⟩
    intro S30 eS30
    have hIn : IV S30 := by rw [eS30]; exact iv11_sI hI o_v0 (by decide) (nu_free (by decide))
    have hI := hIn
    have f0 := fr_I eS30 g0 f0 o_v0 (by decide)
    have d_kv2 := rd_Ij eS30 (by decide) d_kv2
    have d_x3 := rd_Is eS30 (rfl : x3 = x3)
    have g0 := gr_I eS30 g0
    have o_v0 := ob_I eS30 o_v0
    intro S31 eS31
    have hIn : IV S31 := by rw [eS31]; exact iv11_sI hI o_v0 (by decide) (nu_free (by decide))
    have hI := hIn
    have f0 := fr_I eS31 g0 f0 o_v0 (by decide)
    have d_kv2 := rd_Ij eS31 (by decide) d_kv2
    have d_x3 := rd_Ij eS31 (by decide) d_x3
    obtain ⟨kv32, hkv32⟩ : ∃ z : Int32, z = (-1 : Int32) := ⟨_, rfl⟩
    have d_kv32 := rd_Is eS31 hkv32
    have g0 := gr_I eS31 g0
    have o_v0 := ob_I eS31 o_v0
    intro _
    exact hq _ _ hI g0 f0
set_option maxHeartbeats 4000000 in
set_option maxRecDepth 20000 in
theorem m_X11_steps {v0 : Nat} {v1 : Int32} {v2 : Int32} {v3 : Int32} {v4 : Int32} {v5 : Int32} {Q : Int32 → HS → Prop} {S : HS} (hI : IV S) (o_v0 : ob S v0 11)     (hq : ∀ (r : Int32) (T : HS), IV T → Gr S T → FRI [(11, 0), (11, 1), (11, 2)] [] S T → Q r T) : P_X11_steps v0 v1 v2 v3 v4 v5 Q S := by
  have g0 := gr_rf S
  have f0 := fri_rf [(11, 0), (11, 1), (11, 2)] [] S
  refine u_X11_steps ?_
  refine u_X11_steps_0 ?_
  refine ⟨o_v0, ?_⟩
  intro S1 eS1
  have hIn : IV S1 := by rw [eS1]; exact iv11_sI hI o_v0 (by decide) (nu_free (by decide))
  have hI := hIn
  have f0 := fr_I eS1 g0 f0 o_v0 (by decide)
  obtain ⟨kv2, hkv2⟩ : ∃ z : Int32, z = (0 : Int32) := ⟨_, rfl⟩
  have d_kv2 := rd_Is eS1 hkv2
  have g0 := gr_I eS1 g0
  have o_v0 := ob_I eS1 o_v0
  refine m_X11_refusesWay hI o_v0 (fun x3 S4 hJ g5 fc6 p_x3 => ?_)
  obtain ⟨p_x3, pg0_S4⟩ := p_x3
  have hI := hJ
  have d_kv2 := d_kv2.trans (fri_at fc6 (by decide) (by decide) o_v0).symm
  have f0 := fri_tr (S := S1) g0 f0 fc6 (by decide) (by decide)
  have o_v0 := gr_ob g5 o_v0
  have g0 := gr_tr (T := S1) g0 g5
  have ph0_S4 : x3 = 0 ∨ x3 = 1 ∨ x3 = 2 ∨ x3 = 6 := by rw []; exact pg0_S4
  intro _
  have wn_x3 : x3 = 0 → 0 ≤ v2 ∧ v2 < 8 ∧ 0 ≤ v4 ∧ v4 ≤ 400 := fun z => wyq_num hI o_v0 (p_x3 z)
  refine ⟨fun c7 => ?_, fun c7 => ?_⟩
  · refine m_X11_stepOf hI o_v0 (p_x3 (qw384 ph0_S4 wn_x3 c7)) (fun x8 S9 hI2 g10 p_x8 => ?_)
    subst p_x8
    intro _
    refine u_X11_good ?_
    refine u_X11_good_0 ?_
    refine ⟨o_v0, ?_⟩
    intro S12 eS12
    have hIn : IV S12 := by rw [eS12]; exact iv11_sI hI o_v0 (by decide) (nu_free (by decide))
    have hI := hIn
    have f0 := fr_I eS12 g0 f0 o_v0 (by decide)
    have d_kv2 := rd_Ij eS12 (by decide) d_kv2
    obtain ⟨kv13, hkv13⟩ : ∃ z : Int32, z = (0 : Int32) := ⟨_, rfl⟩
    have d_kv13 := rd_Is eS12 hkv13
    have g0 := gr_I eS12 g0
    have o_v0 := ob_I eS12 o_v0
    intro S14 eS14
    have hIn : IV S14 := by rw [eS14]; exact iv11_sI hI o_v0 (by decide) (nu_free (by decide))
    have hI := hIn
    have f0 := fr_I eS14 g0 f0 o_v0 (by decide)
    have d_kv2 := rd_Ij eS14 (by decide) d_kv2
    have d_kv13 := rd_Ij eS14 (by decide) d_kv13
    obtain ⟨kv15, hkv15⟩ : ∃ z : Int32, z = (-1 : Int32) := ⟨_, rfl⟩
    have d_kv15 := rd_Is eS14 hkv15
    have g0 := gr_I eS14 g0
    have o_v0 := ob_I eS14 o_v0
    intro _
    exact hq _ _ hI g0 f0
  · refine u_X11_refused ?_
    refine u_X11_refused_0 ?_
    refine ⟨o_v0, ?_⟩
    intro S17 eS17
    have hIn : IV S17 := by rw [eS17]; exact iv11_sI hI o_v0 (by decide) (nu_free (by decide))
    have hI := hIn
    have f0 := fr_I eS17 g0 f0 o_v0 (by decide)
    have d_kv2 := rd_Ij eS17 (by decide) d_kv2
    have d_x3 := rd_Is eS17 (rfl : x3 = x3)
    have g0 := gr_I eS17 g0
    have o_v0 := ob_I eS17 o_v0
    intro S18 eS18
    have hIn : IV S18 := by rw [eS18]; exact iv11_sI hI o_v0 (by decide) (nu_free (by decide))
    have hI := hIn
    have f0 := fr_I eS18 g0 f0 o_v0 (by decide)
    have d_kv2 := rd_Ij eS18 (by decide) d_kv2
    have d_x3 := rd_Ij eS18 (by decide) d_x3
    obtain ⟨kv19, hkv19⟩ : ∃ z : Int32, z = (-1 : Int32) := ⟨_, rfl⟩
    have d_kv19 := rd_Is eS18 hkv19
    have g0 := gr_I eS18 g0
    have o_v0 := ob_I eS18 o_v0
    intro _
    exact hq _ _ hI g0 f0
set_option maxHeartbeats 4000000 in
set_option maxRecDepth 20000 in
theorem m_X11_there {v0 : Nat} {v1 : Int32} {v2 : Int32} {v3 : Int32} {v4 : Int32} {v5 : Int32} {Q : Int32 → HS → Prop} {S : HS} (hI : IV S) (o_v0 : ob S v0 11)     (hq : ∀ (r : Int32) (T : HS), IV T → Gr S T → FRI [(11, 0), (11, 1), (11, 2)] [] S T → Q r T) : P_X11_there v0 v1 v2 v3 v4 v5 Q S := by
  have g0 := gr_rf S
  have f0 := fri_rf [(11, 0), (11, 1), (11, 2)] [] S
  refine u_X11_there ?_
  refine u_X11_there_0 ?_
  refine ⟨o_v0, ?_⟩
  intro S1 eS1
  have hIn : IV S1 := by rw [eS1]; exact iv11_sI hI o_v0 (by decide) (nu_free (by decide))
  have hI := hIn
  have f0 := fr_I eS1 g0 f0 o_v0 (by decide)
  obtain ⟨kv2, hkv2⟩ : ∃ z : Int32, z = (0 : Int32) := ⟨_, rfl⟩
  have d_kv2 := rd_Is eS1 hkv2
  have g0 := gr_I eS1 g0
  have o_v0 := ob_I eS1 o_v0
  refine m_X11_refusesWay hI o_v0 (fun x3 S4 hJ g5 fc6 p_x3 => ?_)
  obtain ⟨p_x3, pg0_S4⟩ := p_x3
  have hI := hJ
  have d_kv2 := d_kv2.trans (fri_at fc6 (by decide) (by decide) o_v0).symm
  have f0 := fri_tr (S := S1) g0 f0 fc6 (by decide) (by decide)
  have o_v0 := gr_ob g5 o_v0
  have g0 := gr_tr (T := S1) g0 g5
  have ph0_S4 : x3 = 0 ∨ x3 = 1 ∨ x3 = 2 ∨ x3 = 6 := by rw []; exact pg0_S4
  intro _
  have wn_x3 : x3 = 0 → 0 ≤ v2 ∧ v2 < 8 ∧ 0 ≤ v4 ∧ v4 ≤ 400 := fun z => wyq_num hI o_v0 (p_x3 z)
  refine ⟨fun c7 => ?_, fun c7 => ?_⟩
  · obtain ⟨a8, ea8, o_a8, l_a8⟩ := shl 55 rfl hI o_v0
    refine ⟨a8, ea8, ?_⟩
    refine u_X11_spotOf ?_
    refine u_X11_spotOf_0 ?_
    intro _
    refine ⟨o_a8, ?_⟩
    refine ⟨(vin l_a8 (m := 3208) (by decide) (sp_rng (qw385 ph0_S4 wn_x3 c7) (qw386 ph0_S4 wn_x3 c7))), ?_⟩
    intro x10 ex10
    refine u_X11_good ?_
    refine u_X11_good_0 ?_
    refine ⟨o_v0, ?_⟩
    intro S11 eS11
    have hIn : IV S11 := by rw [eS11]; exact iv11_sI hI o_v0 (by decide) (nu_free (by decide))
    have hI := hIn
    have f0 := fr_I eS11 g0 f0 o_v0 (by decide)
    have d_kv2 := rd_Ij eS11 (by decide) d_kv2
    obtain ⟨kv12, hkv12⟩ : ∃ z : Int32, z = (0 : Int32) := ⟨_, rfl⟩
    have d_kv12 := rd_Is eS11 hkv12
    have ea8 := rf_I eS11 ea8
    have l_a8 := ln_I eS11 l_a8
    have g0 := gr_I eS11 g0
    have o_a8 := ob_I eS11 o_a8
    have o_v0 := ob_I eS11 o_v0
    intro S13 eS13
    have hIn : IV S13 := by rw [eS13]; exact iv11_sI hI o_v0 (by decide) (nu_free (by decide))
    have hI := hIn
    have f0 := fr_I eS13 g0 f0 o_v0 (by decide)
    have d_kv2 := rd_Ij eS13 (by decide) d_kv2
    have d_kv12 := rd_Ij eS13 (by decide) d_kv12
    obtain ⟨kv14, hkv14⟩ : ∃ z : Int32, z = (-1 : Int32) := ⟨_, rfl⟩
    have d_kv14 := rd_Is eS13 hkv14
    have ea8 := rf_I eS13 ea8
    have l_a8 := ln_I eS13 l_a8
    have g0 := gr_I eS13 g0
    have o_a8 := ob_I eS13 o_a8
    have o_v0 := ob_I eS13 o_v0
    intro _
    exact hq _ _ hI g0 f0
  · refine u_X11_refused ?_
    refine u_X11_refused_0 ?_
    refine ⟨o_v0, ?_⟩
    intro S16 eS16
    have hIn : IV S16 := by rw [eS16]; exact iv11_sI hI o_v0 (by decide) (nu_free (by decide))
    have hI := hIn
    have f0 := fr_I eS16 g0 f0 o_v0 (by decide)
    have d_kv2 := rd_Ij eS16 (by decide) d_kv2
    have d_x3 := rd_Is eS16 (rfl : x3 = x3)
    have g0 := gr_I eS16 g0
    have o_v0 := ob_I eS16 o_v0
    intro S17 eS17
    have hIn : IV S17 := by rw [eS17]; exact iv11_sI hI o_v0 (by decide) (nu_free (by decide))
    have hI := hIn
    have f0 := fr_I eS17 g0 f0 o_v0 (by decide)
    have d_kv2 := rd_Ij eS17 (by decide) d_kv2
    have d_x3 := rd_Ij eS17 (by decide) d_x3
    obtain ⟨kv18, hkv18⟩ : ∃ z : Int32, z = (-1 : Int32) := ⟨_, rfl⟩
    have d_kv18 := rd_Is eS17 hkv18
    have g0 := gr_I eS17 g0
    have o_v0 := ob_I eS17 o_v0
    intro _
    exact hq _ _ hI g0 f0
end
section
set_option maxHeartbeats 200000 in
theorem qx0 {z0 : Int32} {z1 : Int32} {z2 : Int32} (h0 : (0 : Int32) ≤ z2 ∧ z2 ≤ (900 : Int32)) (h1 : z1 = z2) (h2 : z0 < 0) : (z0 < 0 ∨ z1 < z0 → z2 = z1) ∧ (0 ≤ z0 ∧ z0 ≤ z1 → z2 = 0) := by lia
set_option maxHeartbeats 200000 in
theorem qx1 {z0 : Int32} {z1 : Int32} {z2 : Int32} {z3 : Int32} (h0 : (0 : Int32) ≤ z1 ∧ z1 ≤ (900 : Int32)) (h1 : z2 = z1) (h2 : ¬ z0 < 0) (h3 : (0 : Int32) ≤ z3 ∧ z3 ≤ (900 : Int32)) (h4 : z3 = z1) (h5 : z0 ≤ z3) : (0 : Int32) ≤ z0 ∧ z0 ≤ (900 : Int32) := by lia
set_option maxHeartbeats 200000 in
theorem qx2 {z0 : Int32} {z1 : Int32} {z2 : Int32} {z3 : Int32} (h0 : (0 : Int32) ≤ z0 ∧ z0 ≤ (900 : Int32)) (h1 : z1 = z0) (h2 : ¬ z2 < 0) (h3 : (0 : Int32) ≤ z3 ∧ z3 ≤ (900 : Int32)) (h4 : z3 = z0) (h5 : z2 ≤ z3) : (0 : Int32) ≤ (0 : Int32) ∧ (0 : Int32) ≤ (900 : Int32) := by first | (clear h0 h1 h2 h3 h4 h5; lia) | lia
set_option maxHeartbeats 200000 in
theorem qx3 {z0 : Int32} {z1 : Int32} {z2 : Int32} {z3 : Int32} {z4 : Int32} {z5 : Int32} (h0 : (0 : Int32) ≤ z2 ∧ z2 ≤ (900 : Int32)) (h1 : z3 = z2) (h2 : ¬ z4 < 0) (h3 : (0 : Int32) ≤ z5 ∧ z5 ≤ (900 : Int32)) (h4 : z5 = z2) (h5 : z4 ≤ z5) (h6 : z1 = (0 : Int32)) (h7 : z0 = (0 : Int32)) : z0 = 5 → 0 < z1 := by first | (clear h0 h1 h2 h3 h4 h5; lia) | lia
set_option maxHeartbeats 200000 in
theorem qx4 {z0 : Int32} {z1 : Int32} {z2 : Int32} {z3 : Int32} {z4 : Int32} {z5 : Int32} {z6 : Int32} {z7 : Int32} (h0 : (0 : Int32) ≤ z2 ∧ z2 ≤ (900 : Int32)) (h1 : z3 = z2) (h2 : ¬ z4 < 0) (h3 : (0 : Int32) ≤ z5 ∧ z5 ≤ (900 : Int32)) (h4 : z5 = z2) (h5 : z4 ≤ z5) (h6 : z1 = (0 : Int32)) (h7 : z6 = (0 : Int32)) (h8 : z7 = z1) (h9 : z0 = 5 → 0 < z1) (h10 : z0 = 5 ∨ ¬ z6 = 5) : z0 = 5 → 0 < z1 := by first | (clear h0 h1 h2 h3 h4 h5; lia) | lia
set_option maxHeartbeats 200000 in
theorem qx5 {z0 : Int32} {z1 : Int32} {z2 : Int32} {z3 : Int32} {z4 : Int32} {z5 : Int32} {z6 : Int32} (h0 : (0 : Int32) ≤ z1 ∧ z1 ≤ (900 : Int32)) (h1 : z2 = z1) (h2 : ¬ z3 < 0) (h3 : (0 : Int32) ≤ z4 ∧ z4 ≤ (900 : Int32)) (h4 : z4 = z1) (h5 : z3 ≤ z4) (h6 : z5 = 5 → 0 < z6) (h7 : z0 = z6) (h8 : z0 ≤ 0) : ¬ 0 < z0 := by first | (clear h0 h1 h2 h3 h4 h5; lia) | lia
set_option maxHeartbeats 200000 in
theorem qx6 {z0 : Int32} {z1 : Int32} {z2 : Int32} {z3 : Int32} (h0 : (0 : Int32) ≤ z0 ∧ z0 ≤ (900 : Int32)) (h1 : z1 = z0) (h2 : ¬ z2 < 0) (h3 : (0 : Int32) ≤ z3 ∧ z3 ≤ (900 : Int32)) (h4 : z3 = z0) (h5 : z2 ≤ z3) : (0 : Int32) ≤ (0 : Int32) ∧ (0 : Int32) ≤ (16 : Int32) := by first | (clear h0 h1 h2 h3 h4 h5; lia) | lia
set_option maxHeartbeats 200000 in
theorem qx7 {z0 : Int32} {z1 : Int32} {z2 : Int32} {z3 : Int32} (h0 : (0 : Int32) ≤ z0 ∧ z0 ≤ (900 : Int32)) (h1 : z1 = z0) (h2 : ¬ z2 < 0) (h3 : (0 : Int32) ≤ z3 ∧ z3 ≤ (900 : Int32)) (h4 : z3 = z0) (h5 : z2 ≤ z3) : (0 : Int32) ≤ (0 : Int32) ∧ (0 : Int32) ≤ (3 : Int32) := by first | (clear h0 h1 h2 h3 h4 h5; lia) | lia
set_option maxHeartbeats 200000 in
theorem qx8 {z0 : Int32} {z1 : Int32} {z2 : Int32} {z3 : Int32} {z4 : Int32} (h0 : (0 : Int32) ≤ z3 ∧ z3 ≤ (900 : Int32)) (h1 : z1 = z3) (h2 : ¬ z0 < 0) (h3 : (0 : Int32) ≤ z4 ∧ z4 ≤ (900 : Int32)) (h4 : z4 = z3) (h5 : z0 ≤ z4) (h6 : z2 = (0 : Int32)) : (z0 < 0 ∨ z1 < z0 → z2 = z1) ∧ (0 ≤ z0 ∧ z0 ≤ z1 → z2 = 0) := by lia
set_option maxHeartbeats 200000 in
theorem qx9 {z0 : Int32} {z1 : Int32} {z2 : Int32} {z3 : Int32} (h0 : (0 : Int32) ≤ z3 ∧ z3 ≤ (900 : Int32)) (h1 : z1 = z3) (h2 : ¬ z0 < 0) (h3 : (0 : Int32) ≤ z2 ∧ z2 ≤ (900 : Int32)) (h4 : z2 = z3) (h5 : ¬ z0 ≤ z2) : (z0 < 0 ∨ z1 < z0 → z2 = z1) ∧ (0 ≤ z0 ∧ z0 ≤ z1 → z2 = 0) := by lia
end
section
theorem u_X11_world {v0 : Nat} {v1 : Int32} {Q : Int32 → HS → Prop} {S : HS} (h : P_X11_world_0 Q v0 v1 S) : P_X11_world v0 v1 Q S := h
theorem u_X11_world_0 {Q : Int32 → HS → Prop} {v0 : Nat} {v1 : Int32} {S : HS} (h : ob S v0 11 ∧ (∀ S1 : HS, S1 = sI S v0 0 (0 : Int32) → (((v1 < 0) → (P_X11_world_17 Q v0 S1)) ∧ ((¬ v1 < 0) → (∀ x3 : Int32, x3 = fI S1 v0 6 → (((v1 ≤ x3) → (∀ S5 : HS, S5 = sI S1 v0 7 v1 → (∀ S6 : HS, S6 = sI S5 v0 6 (0 : Int32) → (∀ S7 : HS, S7 = sI S6 v0 8 (0 : Int32) → (∀ S8 : HS, S8 = sI S7 v0 13 (0 : Int32) → (∀ a9 : Nat, a9 ∉ hL S8 → ∀ S10 : HS, S10 = nW S8 a9 10 0 → (P_X10_init a9 (fun S11 => Gr S10 S11 → (∀ S14 : HS, S14 = sR S11 v0 4 (some a9) → (∀ S15 : HS, S15 = sI S14 v0 9 (0 : Int32) → (P_X11_goesOn v0 (fun S16 => Gr S15 S16 → (P_X11_readAll v0 (fun S19 => Gr S16 S19 → (∀ x22 : Int32, x22 = fI S19 v0 13 → (((x22 ≤ 0) → (∃ a24 : Nat, fR S19 v0 4 = some a24 ∧ (∀ S25 : HS, S25 = sR S19 v0 3 (some a24) → (∀ S26 : HS, S26 = sI S25 v0 19 (-2 : Int32) → (∀ S27 : HS, S27 = sI S26 v0 24 (0 : Int32) → (∀ S28 : HS, S28 = sI S27 v0 25 (0 : Int32) → (∃ a29 : Nat, fR S28 v0 3 = some a29 ∧ (ob S28 a29 10 ∧ (∀ x30 : Int32, x30 = fI S28 a29 4 → (P_X11_good v0 x30 (fun x33 S31 => Gr S28 S31 → (Q x33 S31)) S28)))))))))) ∧ ((¬ x22 ≤ 0) → (∀ S34 : HS, S34 = sI S19 v0 1 (4 : Int32) → (∀ x35 : Int32, x35 = fI S34 v0 14 → (∀ S36 : HS, S36 = sI S34 v0 2 x35 → (Q (-1 : Int32) S36)))))))) S16)) S15)))) S10))))))) ∧ ((¬ v1 ≤ x3) → (P_X11_world_17 Q v0 S1)))))))) : P_X11_world_0 Q v0 v1 S := h
theorem u_X11_world_17 {Q : Int32 → HS → Prop} {v0 : Nat} {S : HS} (h : ob S v0 11 ∧ (P_X11_refused v0 (2 : Int32) (fun x3 S1 => Gr S S1 → (Q x3 S1)) S)) : P_X11_world_17 Q v0 S := h
theorem ra_hour {S : HS} {o w : Nat} {x : Int32} (h : RA S o) (d : x = fI S o 13) (hx : ¬ 0 < x) (e : fR S o 4 = some w) : 1 ≤ fI S w 0 := by
  rcases h with g | g
  · rw [← d] at g; exact absurd g hx
  · exact g w e
end
section
set_option maxHeartbeats 4000000 in
set_option maxRecDepth 20000 in
theorem m_X11_world {v0 : Nat} {v1 : Int32} {Q : Int32 → HS → Prop} {S : HS} (hI : IV S) (o_v0 : ob S v0 11)     (hq : ∀ (r : Int32) (T : HS), IV T → Gr S T → FRI [(10, 0), (10, 1), (10, 2), (10, 3), (10, 4), (10, 5), (10, 6), (11, 0), (11, 1), (11, 2), (11, 6), (11, 7), (11, 8), (11, 9), (11, 10), (11, 11), (11, 12), (11, 13), (11, 14), (11, 19), (11, 24), (11, 25)] [(10, 7), (10, 8), (10, 9), (10, 10), (10, 11), (10, 12), (10, 13), (10, 14), (10, 15), (10, 16), (10, 17), (10, 18), (10, 19), (10, 20), (10, 21), (10, 22), (10, 23), (10, 24), (10, 25), (10, 26), (10, 27), (10, 28), (10, 29), (10, 30), (11, 3), (11, 4)] S T → ((v1 < 0 ∨ fI S v0 6 < v1 → fI T v0 6 = fI S v0 6) ∧ (0 ≤ v1 ∧ v1 ≤ fI S v0 6 → fI T v0 6 = 0)) → Q r T) : P_X11_world v0 v1 Q S := by
  have g0 := gr_rf S
  have f0 := fri_rf [(10, 0), (10, 1), (10, 2), (10, 3), (10, 4), (10, 5), (10, 6), (11, 0), (11, 1), (11, 2), (11, 6), (11, 7), (11, 8), (11, 9), (11, 10), (11, 11), (11, 12), (11, 13), (11, 14), (11, 19), (11, 24), (11, 25)] [(10, 7), (10, 8), (10, 9), (10, 10), (10, 11), (10, 12), (10, 13), (10, 14), (10, 15), (10, 16), (10, 17), (10, 18), (10, 19), (10, 20), (10, 21), (10, 22), (10, 23), (10, 24), (10, 25), (10, 26), (10, 27), (10, 28), (10, 29), (10, 30), (11, 3), (11, 4)] S
  obtain ⟨kv1, d_kv1⟩ : ∃ z : Int32, z = fI S v0 6 := ⟨_, rfl⟩
  have r_kv1 : (0 : Int32) ≤ kv1 ∧ kv1 ≤ (900 : Int32) := by rw [d_kv1]; exact nu 23 rfl hI o_v0
  obtain ⟨iv2, hiv2⟩ : ∃ z : Int32, z = kv1 := ⟨_, rfl⟩
  have di_6 := hiv2.trans d_kv1
  refine u_X11_world ?_
  refine u_X11_world_0 ?_
  refine ⟨o_v0, ?_⟩
  intro S3 eS3
  have hIn : IV S3 := by rw [eS3]; exact iv11_sI hI o_v0 (by decide) (nu_free (by decide))
  have hI := hIn
  have f0 := fr_I eS3 g0 f0 o_v0 (by decide)
  have d_kv1 := rd_Ij eS3 (by decide) d_kv1
  obtain ⟨kv4, hkv4⟩ : ∃ z : Int32, z = (0 : Int32) := ⟨_, rfl⟩
  have d_kv4 := rd_Is eS3 hkv4
  have g0 := gr_I eS3 g0
  have o_v0 := ob_I eS3 o_v0
  refine ⟨fun c5 => ?_, fun c5 => ?_⟩
  · refine u_X11_world_17 ?_
    refine ⟨o_v0, ?_⟩
    refine u_X11_refused ?_
    refine u_X11_refused_0 ?_
    refine ⟨o_v0, ?_⟩
    intro S6 eS6
    have hIn : IV S6 := by rw [eS6]; exact iv11_sI hI o_v0 (by decide) (nu_free (by decide))
    have hI := hIn
    have f0 := fr_I eS6 g0 f0 o_v0 (by decide)
    have d_kv1 := rd_Ij eS6 (by decide) d_kv1
    have d_kv4 := rd_Ij eS6 (by decide) d_kv4
    obtain ⟨kv7, hkv7⟩ : ∃ z : Int32, z = (2 : Int32) := ⟨_, rfl⟩
    have d_kv7 := rd_Is eS6 hkv7
    have g0 := gr_I eS6 g0
    have o_v0 := ob_I eS6 o_v0
    intro S8 eS8
    have hIn : IV S8 := by rw [eS8]; exact iv11_sI hI o_v0 (by decide) (nu_free (by decide))
    have hI := hIn
    have f0 := fr_I eS8 g0 f0 o_v0 (by decide)
    have d_kv1 := rd_Ij eS8 (by decide) d_kv1
    have d_kv4 := rd_Ij eS8 (by decide) d_kv4
    have d_kv7 := rd_Ij eS8 (by decide) d_kv7
    obtain ⟨kv9, hkv9⟩ : ∃ z : Int32, z = (-1 : Int32) := ⟨_, rfl⟩
    have d_kv9 := rd_Is eS8 hkv9
    have g0 := gr_I eS8 g0
    have o_v0 := ob_I eS8 o_v0
    intro _
    exact hq _ _ hI g0 f0 (by have t : (v1 < 0 ∨ iv2 < v1 → kv1 = iv2) ∧ (0 ≤ v1 ∧ v1 ≤ iv2 → kv1 = 0) := (qx0 r_kv1 hiv2 c5); rw [di_6, d_kv1] at t; exact t)
  · intro x11 ex11
    have r_x11 : (0 : Int32) ≤ x11 ∧ x11 ≤ (900 : Int32) := by rw [ex11]; exact nu 23 rfl hI o_v0
    have q_x11 : x11 = kv1 := ex11.trans d_kv1.symm
    have d_x11 := ex11
    refine ⟨fun c12 => ?_, fun c12 => ?_⟩
    · intro S13 eS13
      have hIn : IV S13 := by rw [eS13]; exact iv11_sI hI o_v0 (by decide) (nu_one (lo := (0 : Int32)) (hi := (900 : Int32)) (by decide) (qx1 r_kv1 hiv2 c5 r_x11 q_x11 c12))
      have hI := hIn
      have f0 := fr_I eS13 g0 f0 o_v0 (by decide)
      have d_x11 := rd_Ij eS13 (by decide) d_x11
      have d_kv4 := rd_Ij eS13 (by decide) d_kv4
      have d_v1 := rd_Is eS13 (rfl : v1 = v1)
      have g0 := gr_I eS13 g0
      have o_v0 := ob_I eS13 o_v0
      intro S14 eS14
      have hIn : IV S14 := by rw [eS14]; exact iv11_sI hI o_v0 (by decide) (nu_one (lo := (0 : Int32)) (hi := (900 : Int32)) (by decide) (qx2 r_kv1 hiv2 c5 r_x11 q_x11 c12))
      have hI := hIn
      have f0 := fr_I eS14 g0 f0 o_v0 (by decide)
      have d_kv4 := rd_Ij eS14 (by decide) d_kv4
      have d_v1 := rd_Ij eS14 (by decide) d_v1
      obtain ⟨kv15, hkv15⟩ : ∃ z : Int32, z = (0 : Int32) := ⟨_, rfl⟩
      have d_kv15 := rd_Is eS14 hkv15
      have g0 := gr_I eS14 g0
      have o_v0 := ob_I eS14 o_v0
      intro S16 eS16
      have hIn : IV S16 := by rw [eS16]; exact iv11_sI hI o_v0 (by decide) (nu_one (lo := (0 : Int32)) (hi := (900 : Int32)) (by decide) (qx2 r_kv1 hiv2 c5 r_x11 q_x11 c12))
      have hI := hIn
      have f0 := fr_I eS16 g0 f0 o_v0 (by decide)
      have d_kv4 := rd_Ij eS16 (by decide) d_kv4
      have d_v1 := rd_Ij eS16 (by decide) d_v1
      have d_kv15 := rd_Ij eS16 (by decide) d_kv15
      obtain ⟨kv17, hkv17⟩ : ∃ z : Int32, z = (0 : Int32) := ⟨_, rfl⟩
      have d_kv17 := rd_Is eS16 hkv17
      have g0 := gr_I eS16 g0
      have o_v0 := ob_I eS16 o_v0
      intro S18 eS18
      have hIn : IV S18 := by rw [eS18]; exact iv11_sI hI o_v0 (by decide) (nu_free (by decide))
      have hI := hIn
      have f0 := fr_I eS18 g0 f0 o_v0 (by decide)
      have d_kv4 := rd_Ij eS18 (by decide) d_kv4
      have d_v1 := rd_Ij eS18 (by decide) d_v1
      have d_kv15 := rd_Ij eS18 (by decide) d_kv15
      have d_kv17 := rd_Ij eS18 (by decide) d_kv17
      obtain ⟨kv19, hkv19⟩ : ∃ z : Int32, z = (0 : Int32) := ⟨_, rfl⟩
      have d_kv19 := rd_Is eS18 hkv19
      have g0 := gr_I eS18 g0
      have o_v0 := ob_I eS18 o_v0
      intro a20 q21 S22 eS22
      refine m_X10_init hI q21 eS22 (fun S23 hJ g24 _ fc25 o_a20 hz_a20 hg_a20 hnw_a20 => ?_)
      intro _
      have d_kv4 := d_kv4.trans (fri_at fc25 (by decide) (by decide) o_v0).symm
      have d_v1 := d_v1.trans (fri_at fc25 (by decide) (by decide) o_v0).symm
      have d_kv15 := d_kv15.trans (fri_at fc25 (by decide) (by decide) o_v0).symm
      have d_kv17 := d_kv17.trans (fri_at fc25 (by decide) (by decide) o_v0).symm
      have d_kv19 := d_kv19.trans (fri_at fc25 (by decide) (by decide) o_v0).symm
      have f0 := fri_tr (S := S18) g0 f0 fc25 (by decide) (by decide)
      have o_v0 := gr_ob g24 o_v0
      have g0 := gr_tr (T := S18) g0 g24
      have hI := hJ
      have oS_v0 := o_v0
      have oS_a20 := o_a20
      intro S26 eS26
      have hIn : IV S26 := by rw [eS26]; exact iv11_read hI o_v0 o_a20
      have hI := hIn
      have f0 := fr_R eS26 g0 f0 o_v0 (by decide)
      have d_kv4 := rd_R eS26 d_kv4
      have d_v1 := rd_R eS26 d_v1
      have d_kv15 := rd_R eS26 d_kv15
      have d_kv17 := rd_R eS26 d_kv17
      have d_kv19 := rd_R eS26 d_kv19
      have g0 := gr_R eS26 g0
      have o_a20 := ob_R eS26 o_a20
      have o_v0 := ob_R eS26 o_v0
      have hG : RG S26 v0 := rg_new eS26 oS_v0 oS_a20 hnw_a20 hg_a20
      have hn : RN S26 v0 := rn_new eS26 hz_a20
      intro S27 eS27
      have hIn : IV S27 := by rw [eS27]; exact iv11_sI hI o_v0 (by decide) (nu_free (by decide))
      have hG := rg_11 eS27 hI o_v0 hG
      have hn := rn_11 eS27 hI o_v0 o_v0 (by decide) hn
      have hI := hIn
      have f0 := fr_I eS27 g0 f0 o_v0 (by decide)
      have d_kv4 := rd_Ij eS27 (by decide) d_kv4
      have d_v1 := rd_Ij eS27 (by decide) d_v1
      have d_kv15 := rd_Ij eS27 (by decide) d_kv15
      have d_kv17 := rd_Ij eS27 (by decide) d_kv17
      have d_kv19 := rd_Ij eS27 (by decide) d_kv19
      obtain ⟨kv28, hkv28⟩ : ∃ z : Int32, z = (0 : Int32) := ⟨_, rfl⟩
      have d_kv28 := rd_Is eS27 hkv28
      have g0 := gr_I eS27 g0
      have o_a20 := ob_I eS27 o_a20
      have o_v0 := ob_I eS27 o_v0
      obtain ⟨iv29, hiv29⟩ : ∃ z : Int32, z = kv19 := ⟨_, rfl⟩
      have d_iv29 := hiv29.trans d_kv19
      have do29_kv17 := d_kv17
      have do29_kv28 := d_kv28
      have do29_iv29 := d_iv29
      refine m_X11_goesOn hI o_v0 hG (by have t : kv28 = 5 → 0 < kv19 := (qx3 r_kv1 hiv2 c5 r_x11 q_x11 c12 hkv19 hkv28); rw [d_kv28, d_kv19] at t; exact t) (fun S31 hJ g32 fc33 p_S31 => ?_)
      obtain ⟨hG, pg0_S31, pg1_S31, pg2_S31⟩ := p_S31
      have hn := rn_fr fc33 g32 hI o_v0 (by decide) hn
      have hI := hJ
      have d_kv4 := d_kv4.trans (fri_at fc33 (by decide) (by decide) o_v0).symm
      have d_v1 := d_v1.trans (fri_at fc33 (by decide) (by decide) o_v0).symm
      have d_kv15 := d_kv15.trans (fri_at fc33 (by decide) (by decide) o_v0).symm
      have d_kv19 := d_kv19.trans (fri_at fc33 (by decide) (by decide) o_v0).symm
      have f0 := fri_tr (S := S27) g0 f0 fc33 (by decide) (by decide)
      have o_a20 := gr_ob g32 o_a20
      have o_v0 := gr_ob g32 o_v0
      have g0 := gr_tr (T := S27) g0 g32
      obtain ⟨kv34, d_kv34⟩ : ∃ z : Int32, z = fI S31 v0 9 := ⟨_, rfl⟩
      have ph0_S31 : kv34 = 5 → 0 < kv19 := by rw [d_kv34, d_kv19]; exact pg0_S31
      have ph1_S31 : kv34 = 5 ∨ ¬ kv28 = 5 := by rw [do29_kv28, d_kv34]; exact pg1_S31
      obtain ⟨kv35, d_kv35⟩ : ∃ z : Int32, z = fI S31 v0 8 := ⟨_, rfl⟩
      have r_kv35 : (0 : Int32) ≤ kv35 ∧ kv35 ≤ (900 : Int32) := by rw [d_kv35]; exact nu 25 rfl hI o_v0
      have ph2_S31 : kv17 ≤ kv35 ∧ (kv34 = 4 → kv17 < kv35 ∨ kv28 = 4) := by rw [do29_kv17, do29_kv28, d_kv35, d_kv34]; exact pg2_S31
      intro _
      have do35_kv34 := d_kv34
      have do35_kv19 := d_kv19
      refine m_X11_readAll hI o_v0 hG hn (by have t : kv34 = 5 → 0 < kv19 := (qx4 r_kv1 hiv2 c5 r_x11 q_x11 c12 hkv19 hkv28 hiv29 ph0_S31 ph1_S31); rw [d_kv34, d_kv19] at t; exact t) (fun S37 hJ g38 fc39 p_S37 => ?_)
      obtain ⟨hG, hn, p_S37, pg0_S37⟩ := p_S37
      have hI := hJ
      have d_kv4 := d_kv4.trans (fri_at fc39 (by decide) (by decide) o_v0).symm
      have d_v1 := d_v1.trans (fri_at fc39 (by decide) (by decide) o_v0).symm
      have d_kv15 := d_kv15.trans (fri_at fc39 (by decide) (by decide) o_v0).symm
      have f0 := fri_tr (S := S31) g0 f0 fc39 (by decide) (by decide)
      have o_a20 := gr_ob g38 o_a20
      have o_v0 := gr_ob g38 o_v0
      have g0 := gr_tr (T := S31) g0 g38
      obtain ⟨kv40, d_kv40⟩ : ∃ z : Int32, z = fI S37 v0 9 := ⟨_, rfl⟩
      obtain ⟨kv41, d_kv41⟩ : ∃ z : Int32, z = fI S37 v0 13 := ⟨_, rfl⟩
      have ph0_S37 : kv40 = 5 → 0 < kv41 := by rw [d_kv40, d_kv41]; exact pg0_S37
      intro _
      have ra_kept := p_S37
      intro x42 ex42
      have q_x42 : x42 = kv41 := ex42.trans d_kv41.symm
      have d_x42 := ex42
      refine ⟨fun c43 => ?_, fun c43 => ?_⟩
      · obtain ⟨a44, ea44, o_a44, -⟩ := id hG
        refine ⟨a44, ea44, ?_⟩
        have hIw := iv11_world hI o_v0 o_a44 (rg_wg hG ea44) (ra_hour ra_kept d_x42 (qx5 r_kv1 hiv2 c5 r_x11 q_x11 c12 ph0_S37 q_x42 c43) ea44)
        intro S45 eS45
        have f0 := fr_R eS45 g0 f0 o_v0 (by decide)
        have d_kv4 := rd_R eS45 d_kv4
        have d_v1 := rd_R eS45 d_v1
        have d_kv15 := rd_R eS45 d_kv15
        have d_kv40 := rd_R eS45 d_kv40
        have d_x42 := rd_R eS45 d_x42
        have ea44 := rf_Rj eS45 (by decide) ea44
        have g0 := gr_R eS45 g0
        have o_a20 := ob_R eS45 o_a20
        have o_a44 := ob_R eS45 o_a44
        have o_v0 := ob_R eS45 o_v0
        have ea44 : fR S45 v0 3 = some a44 := by rw [eS45]; exact u2_self _ _ _ _
        intro S46 eS46
        have hIn : IV S46 := by rw [eS46]; exact (by rw [eS45]; exact hIw)
        have hI := hIn
        have f0 := fr_I eS46 g0 f0 o_v0 (by decide)
        have d_kv4 := rd_Ij eS46 (by decide) d_kv4
        have d_v1 := rd_Ij eS46 (by decide) d_v1
        have d_kv15 := rd_Ij eS46 (by decide) d_kv15
        have d_kv40 := rd_Ij eS46 (by decide) d_kv40
        have d_x42 := rd_Ij eS46 (by decide) d_x42
        obtain ⟨kv47, hkv47⟩ : ∃ z : Int32, z = (-2 : Int32) := ⟨_, rfl⟩
        have d_kv47 := rd_Is eS46 hkv47
        have ea44 := rf_I eS46 ea44
        have g0 := gr_I eS46 g0
        have o_a20 := ob_I eS46 o_a20
        have o_a44 := ob_I eS46 o_a44
        have o_v0 := ob_I eS46 o_v0
        intro S48 eS48
        have hIn : IV S48 := by rw [eS48]; exact iv11_sI hI o_v0 (by decide) (nu_one (lo := (0 : Int32)) (hi := (16 : Int32)) (by decide) (qx6 r_kv1 hiv2 c5 r_x11 q_x11 c12))
        have hI := hIn
        have f0 := fr_I eS48 g0 f0 o_v0 (by decide)
        have d_kv4 := rd_Ij eS48 (by decide) d_kv4
        have d_v1 := rd_Ij eS48 (by decide) d_v1
        have d_kv15 := rd_Ij eS48 (by decide) d_kv15
        have d_kv40 := rd_Ij eS48 (by decide) d_kv40
        have d_x42 := rd_Ij eS48 (by decide) d_x42
        have d_kv47 := rd_Ij eS48 (by decide) d_kv47
        obtain ⟨kv49, hkv49⟩ : ∃ z : Int32, z = (0 : Int32) := ⟨_, rfl⟩
        have d_kv49 := rd_Is eS48 hkv49
        have ea44 := rf_I eS48 ea44
        have g0 := gr_I eS48 g0
        have o_a20 := ob_I eS48 o_a20
        have o_a44 := ob_I eS48 o_a44
        have o_v0 := ob_I eS48 o_v0
        intro S50 eS50
        have hIn : IV S50 := by rw [eS50]; exact iv11_sI hI o_v0 (by decide) (nu_one (lo := (0 : Int32)) (hi := (3 : Int32)) (by decide) (qx7 r_kv1 hiv2 c5 r_x11 q_x11 c12))
        have hI := hIn
        have f0 := fr_I eS50 g0 f0 o_v0 (by decide)
        have d_kv4 := rd_Ij eS50 (by decide) d_kv4
        have d_v1 := rd_Ij eS50 (by decide) d_v1
        have d_kv15 := rd_Ij eS50 (by decide) d_kv15
        have d_kv40 := rd_Ij eS50 (by decide) d_kv40
        have d_x42 := rd_Ij eS50 (by decide) d_x42
        have d_kv47 := rd_Ij eS50 (by decide) d_kv47
        have d_kv49 := rd_Ij eS50 (by decide) d_kv49
        obtain ⟨kv51, hkv51⟩ : ∃ z : Int32, z = (0 : Int32) := ⟨_, rfl⟩
        have d_kv51 := rd_Is eS50 hkv51
        have ea44 := rf_I eS50 ea44
        have g0 := gr_I eS50 g0
        have o_a20 := ob_I eS50 o_a20
        have o_a44 := ob_I eS50 o_a44
        have o_v0 := ob_I eS50 o_v0
        refine ⟨a44, ea44, ?_⟩
        refine ⟨o_a44, ?_⟩
        intro x53 ex53
        have r_x53 : (0 : Int32) ≤ x53 ∧ x53 ≤ (4 : Int32) := by rw [ex53]; exact nu 20 rfl hI o_a44
        have d_x53 := ex53
        refine u_X11_good ?_
        refine u_X11_good_0 ?_
        refine ⟨o_v0, ?_⟩
        intro S54 eS54
        have hIn : IV S54 := by rw [eS54]; exact iv11_sI hI o_v0 (by decide) (nu_free (by decide))
        have hI := hIn
        have f0 := fr_I eS54 g0 f0 o_v0 (by decide)
        have d_kv4 := rd_Ij eS54 (by decide) d_kv4
        have d_v1 := rd_Ij eS54 (by decide) d_v1
        have d_kv15 := rd_Ij eS54 (by decide) d_kv15
        have d_kv40 := rd_Ij eS54 (by decide) d_kv40
        have d_x42 := rd_Ij eS54 (by decide) d_x42
        have d_kv47 := rd_Ij eS54 (by decide) d_kv47
        have d_kv49 := rd_Ij eS54 (by decide) d_kv49
        have d_kv51 := rd_Ij eS54 (by decide) d_kv51
        have d_x53 := rd_Ik eS54 o_v0 o_a44 (by decide) d_x53
        obtain ⟨kv55, hkv55⟩ : ∃ z : Int32, z = (0 : Int32) := ⟨_, rfl⟩
        have d_kv55 := rd_Is eS54 hkv55
        have ea44 := rf_I eS54 ea44
        have g0 := gr_I eS54 g0
        have o_a20 := ob_I eS54 o_a20
        have o_a44 := ob_I eS54 o_a44
        have o_v0 := ob_I eS54 o_v0
        intro S56 eS56
        have hIn : IV S56 := by rw [eS56]; exact iv11_sI hI o_v0 (by decide) (nu_free (by decide))
        have hI := hIn
        have f0 := fr_I eS56 g0 f0 o_v0 (by decide)
        have d_kv4 := rd_Ij eS56 (by decide) d_kv4
        have d_v1 := rd_Ij eS56 (by decide) d_v1
        have d_kv15 := rd_Ij eS56 (by decide) d_kv15
        have d_kv40 := rd_Ij eS56 (by decide) d_kv40
        have d_x42 := rd_Ij eS56 (by decide) d_x42
        have d_kv47 := rd_Ij eS56 (by decide) d_kv47
        have d_kv49 := rd_Ij eS56 (by decide) d_kv49
        have d_kv51 := rd_Ij eS56 (by decide) d_kv51
        have d_x53 := rd_Ik eS56 o_v0 o_a44 (by decide) d_x53
        have d_kv55 := rd_Ij eS56 (by decide) d_kv55
        obtain ⟨kv57, hkv57⟩ : ∃ z : Int32, z = (-1 : Int32) := ⟨_, rfl⟩
        have d_kv57 := rd_Is eS56 hkv57
        have ea44 := rf_I eS56 ea44
        have g0 := gr_I eS56 g0
        have o_a20 := ob_I eS56 o_a20
        have o_a44 := ob_I eS56 o_a44
        have o_v0 := ob_I eS56 o_v0
        intro _
        exact hq _ _ hI g0 f0 (by have t : (v1 < 0 ∨ iv2 < v1 → kv15 = iv2) ∧ (0 ≤ v1 ∧ v1 ≤ iv2 → kv15 = 0) := (qx8 r_kv1 hiv2 c5 r_x11 q_x11 c12 hkv15); rw [di_6, d_kv15] at t; exact t)
      · intro S59 eS59
        have hIn : IV S59 := by rw [eS59]; exact iv11_sI hI o_v0 (by decide) (nu_free (by decide))
        have hG := rg_11 eS59 hI o_v0 hG
        have hn := rn_11 eS59 hI o_v0 o_v0 (by decide) hn
        have hI := hIn
        have f0 := fr_I eS59 g0 f0 o_v0 (by decide)
        have d_kv4 := rd_Ij eS59 (by decide) d_kv4
        have d_v1 := rd_Ij eS59 (by decide) d_v1
        have d_kv15 := rd_Ij eS59 (by decide) d_kv15
        have d_kv40 := rd_Ij eS59 (by decide) d_kv40
        have d_x42 := rd_Ij eS59 (by decide) d_x42
        obtain ⟨kv60, hkv60⟩ : ∃ z : Int32, z = (4 : Int32) := ⟨_, rfl⟩
        have d_kv60 := rd_Is eS59 hkv60
        have g0 := gr_I eS59 g0
        have o_a20 := ob_I eS59 o_a20
        have o_v0 := ob_I eS59 o_v0
        intro x61 ex61
        have d_x61 := ex61
        intro S62 eS62
        have hIn : IV S62 := by rw [eS62]; exact iv11_sI hI o_v0 (by decide) (nu_free (by decide))
        have hG := rg_11 eS62 hI o_v0 hG
        have hn := rn_11 eS62 hI o_v0 o_v0 (by decide) hn
        have hI := hIn
        have f0 := fr_I eS62 g0 f0 o_v0 (by decide)
        have d_kv4 := rd_Ij eS62 (by decide) d_kv4
        have d_v1 := rd_Ij eS62 (by decide) d_v1
        have d_kv15 := rd_Ij eS62 (by decide) d_kv15
        have d_kv40 := rd_Ij eS62 (by decide) d_kv40
        have d_x42 := rd_Ij eS62 (by decide) d_x42
        have d_kv60 := rd_Ij eS62 (by decide) d_kv60
        have d_x61 := rd_Ij eS62 (by decide) d_x61
        obtain ⟨kv63, hkv63⟩ : ∃ z : Int32, z = x61 := ⟨_, rfl⟩
        have d_kv63 := rd_Is eS62 hkv63
        have g0 := gr_I eS62 g0
        have o_a20 := ob_I eS62 o_a20
        have o_v0 := ob_I eS62 o_v0
        exact hq _ _ hI g0 f0 (by have t : (v1 < 0 ∨ iv2 < v1 → kv15 = iv2) ∧ (0 ≤ v1 ∧ v1 ≤ iv2 → kv15 = 0) := (qx8 r_kv1 hiv2 c5 r_x11 q_x11 c12 hkv15); rw [di_6, d_kv15] at t; exact t)
    · refine u_X11_world_17 ?_
      refine ⟨o_v0, ?_⟩
      refine u_X11_refused ?_
      refine u_X11_refused_0 ?_
      refine ⟨o_v0, ?_⟩
      intro S64 eS64
      have hIn : IV S64 := by rw [eS64]; exact iv11_sI hI o_v0 (by decide) (nu_free (by decide))
      have hI := hIn
      have f0 := fr_I eS64 g0 f0 o_v0 (by decide)
      have d_x11 := rd_Ij eS64 (by decide) d_x11
      have d_kv4 := rd_Ij eS64 (by decide) d_kv4
      obtain ⟨kv65, hkv65⟩ : ∃ z : Int32, z = (2 : Int32) := ⟨_, rfl⟩
      have d_kv65 := rd_Is eS64 hkv65
      have g0 := gr_I eS64 g0
      have o_v0 := ob_I eS64 o_v0
      intro S66 eS66
      have hIn : IV S66 := by rw [eS66]; exact iv11_sI hI o_v0 (by decide) (nu_free (by decide))
      have hI := hIn
      have f0 := fr_I eS66 g0 f0 o_v0 (by decide)
      have d_x11 := rd_Ij eS66 (by decide) d_x11
      have d_kv4 := rd_Ij eS66 (by decide) d_kv4
      have d_kv65 := rd_Ij eS66 (by decide) d_kv65
      obtain ⟨kv67, hkv67⟩ : ∃ z : Int32, z = (-1 : Int32) := ⟨_, rfl⟩
      have d_kv67 := rd_Is eS66 hkv67
      have g0 := gr_I eS66 g0
      have o_v0 := ob_I eS66 o_v0
      intro _
      exact hq _ _ hI g0 f0 (by have t : (v1 < 0 ∨ iv2 < v1 → x11 = iv2) ∧ (0 ≤ v1 ∧ v1 ≤ iv2 → x11 = 0) := (qx9 r_kv1 hiv2 c5 r_x11 q_x11 c12); rw [di_6, d_x11] at t; exact t)
end
section
theorem i32p {x c : Int32} {n k : Int} (h : 0 ≤ x.toInt ∧ x.toInt ≤ n) (hn : n ≤ 1000) (ec : c.toInt = k) (hk : 0 ≤ k ∧ k ≤ 100) : (x + c).toInt = x.toInt + k := by
  rw [Int32.toInt_add, ec]
  exact Int.bmod_eq_of_le (by omega) (by omega)
theorem feed5 {a b c d e f : Int32} (ha : 0 ≤ a ∧ a ≤ 900) (h : a + 20 ≤ 900) (h1 : a ≤ 896 → b = a + 4) (h2 : b ≤ 896 → c = b + 4) (h3 : c ≤ 896 → d = c + 4) (h4 : d ≤ 896 → e = d + 4) (h5 : e ≤ 896 → f = e + 4) : f = a + 20 := by
  have e0 : (0 : Int32).toInt = 0 := by decide
  have e9 : (900 : Int32).toInt = 900 := by decide
  have e8 : (896 : Int32).toInt = 896 := by decide
  have e4 : (4 : Int32).toInt = 4 := by decide
  have e20 : (20 : Int32).toInt = 20 := by decide
  have a0 := Int32.le_iff_toInt_le.mp ha.1
  have a1 := Int32.le_iff_toInt_le.mp ha.2
  have s20 : (a + 20).toInt = a.toInt + 20 := i32p (n := 900) ⟨by omega, by omega⟩ (by omega) e20 ⟨by omega, by omega⟩
  have hh := Int32.le_iff_toInt_le.mp h
  have b1 := h1 (Int32.le_iff_toInt_le.mpr (by omega))
  have tb : b.toInt = a.toInt + 4 := by rw [b1]; exact i32p (n := 900) ⟨by omega, by omega⟩ (by omega) e4 ⟨by omega, by omega⟩
  have c1 := h2 (Int32.le_iff_toInt_le.mpr (by omega))
  have tc : c.toInt = b.toInt + 4 := by rw [c1]; exact i32p (n := 900) ⟨by omega, by omega⟩ (by omega) e4 ⟨by omega, by omega⟩
  have d1 := h3 (Int32.le_iff_toInt_le.mpr (by omega))
  have td : d.toInt = c.toInt + 4 := by rw [d1]; exact i32p (n := 900) ⟨by omega, by omega⟩ (by omega) e4 ⟨by omega, by omega⟩
  have f1 := h4 (Int32.le_iff_toInt_le.mpr (by omega))
  have te : e.toInt = d.toInt + 4 := by rw [f1]; exact i32p (n := 900) ⟨by omega, by omega⟩ (by omega) e4 ⟨by omega, by omega⟩
  have g1 := h5 (Int32.le_iff_toInt_le.mpr (by omega))
  have tf : f.toInt = e.toInt + 4 := by rw [g1]; exact i32p (n := 900) ⟨by omega, by omega⟩ (by omega) e4 ⟨by omega, by omega⟩
  exact Int32.toInt_inj.mp (by rw [s20]; omega)
theorem put_q {z0 z1 z2 z4 z5 : Int32} (h4 : (z4 = 24 ∧ z5 = z0) ∨ (z4 = 16 ∧ z5 = z0 + 1) ∨ (z4 = 8 ∧ z5 = z0 + 2) ∨ (z4 = 0 ∧ z5 = z0 + 3) ∨ (z4 = -8 ∧ z5 = z0 + 4)) (h5 : ¬ z4 < 0) (e5 : z2 = z5 + 1) (h18 : z1 = z4 + (-8 : Int32)) : (z1 = 24 ∧ z2 = z0) ∨ (z1 = 16 ∧ z2 = z0 + 1) ∨ (z1 = 8 ∧ z2 = z0 + 2) ∨ (z1 = 0 ∧ z2 = z0 + 3) ∨ (z1 = -8 ∧ z2 = z0 + 4) := by
  rcases h4 with ⟨a, b⟩ | ⟨a, b⟩ | ⟨a, b⟩ | ⟨a, b⟩ | ⟨a, b⟩
  · exact Or.inr (Or.inl ⟨by rw [h18, a]; decide, by rw [e5, b]⟩)
  · exact Or.inr (Or.inr (Or.inl ⟨by rw [h18, a]; decide, by rw [e5, b, Int32.add_assoc]; rfl⟩))
  · exact Or.inr (Or.inr (Or.inr (Or.inl ⟨by rw [h18, a]; decide, by rw [e5, b, Int32.add_assoc]; rfl⟩)))
  · exact Or.inr (Or.inr (Or.inr (Or.inr ⟨by rw [h18, a]; decide, by rw [e5, b, Int32.add_assoc]; rfl⟩)))
  · exact absurd (by rw [a]; decide) h5
end
