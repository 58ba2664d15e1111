theorem i32p {x c : Int32} {n k : Int} (h : 0 ≤ x.toInt ∧ x.toInt ≤ n) (hn : n ≤ 1000) (ec : c.toInt = k) (hk : 0 ≤ k ∧ k ≤ 100) : (x + c).toInt = x.toInt + k := by
  rw [Int32.toInt_add, ec]
  exact Int.bmod_eq_of_le (by omega) (by omega)
theorem feed5 {a b c d e f : Int32} (ha : 0 ≤ a ∧ a ≤ 900) (h : a + 20 ≤ 900) (h1 : a ≤ 896 → b = a + 4) (h2 : b ≤ 896 → c = b + 4) (h3 : c ≤ 896 → d = c + 4) (h4 : d ≤ 896 → e = d + 4) (h5 : e ≤ 896 → f = e + 4) : f = a + 20 := by
  have e0 : (0 : Int32).toInt = 0 := by decide
  have e9 : (900 : Int32).toInt = 900 := by decide
  have e8 : (896 : Int32).toInt = 896 := by decide
  have e4 : (4 : Int32).toInt = 4 := by decide
  have e20 : (20 : Int32).toInt = 20 := by decide
  have a0 := Int32.le_iff_toInt_le.mp ha.1
  have a1 := Int32.le_iff_toInt_le.mp ha.2
  have s20 : (a + 20).toInt = a.toInt + 20 := i32p (n := 900) ⟨by omega, by omega⟩ (by omega) e20 ⟨by omega, by omega⟩
  have hh := Int32.le_iff_toInt_le.mp h
  have b1 := h1 (Int32.le_iff_toInt_le.mpr (by omega))
  have tb : b.toInt = a.toInt + 4 := by rw [b1]; exact i32p (n := 900) ⟨by omega, by omega⟩ (by omega) e4 ⟨by omega, by omega⟩
  have c1 := h2 (Int32.le_iff_toInt_le.mpr (by omega))
  have tc : c.toInt = b.toInt + 4 := by rw [c1]; exact i32p (n := 900) ⟨by omega, by omega⟩ (by omega) e4 ⟨by omega, by omega⟩
  have d1 := h3 (Int32.le_iff_toInt_le.mpr (by omega))
  have td : d.toInt = c.toInt + 4 := by rw [d1]; exact i32p (n := 900) ⟨by omega, by omega⟩ (by omega) e4 ⟨by omega, by omega⟩
  have f1 := h4 (Int32.le_iff_toInt_le.mpr (by omega))
  have te : e.toInt = d.toInt + 4 := by rw [f1]; exact i32p (n := 900) ⟨by omega, by omega⟩ (by omega) e4 ⟨by omega, by omega⟩
  have g1 := h5 (Int32.le_iff_toInt_le.mpr (by omega))
  have tf : f.toInt = e.toInt + 4 := by rw [g1]; exact i32p (n := 900) ⟨by omega, by omega⟩ (by omega) e4 ⟨by omega, by omega⟩
  exact Int32.toInt_inj.mp (by rw [s20]; omega)
theorem put_q {z0 z1 z2 z4 z5 : Int32} (h4 : (z4 = 24 ∧ z5 = z0) ∨ (z4 = 16 ∧ z5 = z0 + 1) ∨ (z4 = 8 ∧ z5 = z0 + 2) ∨ (z4 = 0 ∧ z5 = z0 + 3) ∨ (z4 = -8 ∧ z5 = z0 + 4)) (h5 : ¬ z4 < 0) (e5 : z2 = z5 + 1) (h18 : z1 = z4 + (-8 : Int32)) : (z1 = 24 ∧ z2 = z0) ∨ (z1 = 16 ∧ z2 = z0 + 1) ∨ (z1 = 8 ∧ z2 = z0 + 2) ∨ (z1 = 0 ∧ z2 = z0 + 3) ∨ (z1 = -8 ∧ z2 = z0 + 4) := by
  rcases h4 with ⟨a, b⟩ | ⟨a, b⟩ | ⟨a, b⟩ | ⟨a, b⟩ | ⟨a, b⟩
  · exact Or.inr (Or.inl ⟨by rw [h18, a]; decide, by rw [e5, b]⟩)
  · exact Or.inr (Or.inr (Or.inl ⟨by rw [h18, a]; decide, by rw [e5, b, Int32.add_assoc]; rfl⟩))
  · exact Or.inr (Or.inr (Or.inr (Or.inl ⟨by rw [h18, a]; decide, by rw [e5, b, Int32.add_assoc]; rfl⟩)))
  · exact Or.inr (Or.inr (Or.inr (Or.inr ⟨by rw [h18, a]; decide, by rw [e5, b, Int32.add_assoc]; rfl⟩)))
  · exact absurd (by rw [a]; decide) h5
