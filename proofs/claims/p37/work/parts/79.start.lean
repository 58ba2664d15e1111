/-! THE START: the strings' cells, out of what the Statement gives -/
theorem bA {a b : Cond} {args : Array Value} {s : State} (h : (Cond.and a b).before args s = true) : a.before args s = true := by
  rw [Cond.before_and, Bool.and_eq_true] at h
  exact h.1
theorem bB {a b : Cond} {args : Array Value} {s : State} (h : (Cond.and a b).before args s = true) : b.before args s = true := by
  rw [Cond.before_and, Bool.and_eq_true] at h
  exact h.2
/-- a string's cell and its bytes' -/
def SC (tm : Term) (N : Nat) (bs : List Int32) (args : Array Value) (A : Nat → Prop) (s : State) (q : Nat × Nat) : Prop := tm.eval args s none [] s = some (.ref q.1) ∧ va_O "java/lang/String" q.1 A s s.heap ∧ va_OF "java/lang/String" "coder" "B" (.int 0) q.1 A s s.heap ∧ va_OF "java/lang/String" "value" "[B" (.ref q.2) q.1 A s s.heap ∧ va_T .byte q.2 N (fun j => .int (bs.getD j 0)) A s s.heap
theorem sof {args : Array Value} {s : State} {tm : Term} {N : Nat} {bs : List Int32} {A : Nat → Prop} (hA : ∀ a : Nat, a < s.heap.size → ¬ A a) (hN : N < 2 ^ 31) (hex : (Cond.exactly tm "java/lang/String").before args s = true) (hco : (Cond.eq (.field tm "java/lang/String" "coder" "B") (.int 0)).before args s = true) (har : (Cond.arrayOf (.field tm "java/lang/String" "value" "[B") .byte).before args s = true) (hle : (Cond.eq (.length (.field tm "java/lang/String" "value" "[B")) (.int (Int32.ofNat N))).before args s = true) (hel : ∀ j : Nat, j < N → (Cond.eq (.elem (.field tm "java/lang/String" "value" "[B") (.int (Int32.ofNat j))) (.int (bs.getD j 0))).before args s = true) : ∃ q : Nat × Nat, SC tm N bs args A s q := by
  obtain ⟨a, c, cA, kA, q1, q2, q3, q4, q5, q6, -⟩ := Cond.exactly_spec (args := args) (first := s) (o := none) (s := s) (idx := []) (t := tm) (cls := "java/lang/String") hex
  obtain ⟨t, ht, hT⟩ := va_Tof (f := fun j => .int (bs.getD j 0)) (A := A) hN har (va_eqt hle) (fun j hj => va_eqt (hel j hj)) hA
  exact ⟨(a, t), q1, va_Oof hex q1 hA, vk_OFof q1 (va_eqt hco) hA, vk_OFof q1 ht hA, hT⟩
theorem st_0 {args : Array Value} {s : State} {A : Nat → Prop} (hn : narrow_1.before args s = true) (hA : ∀ a : Nat, a < s.heap.size → ¬ A a) : ∃ q : Nat × Nat, SC (.string "RainWalk$Reader" 34) 5 [119, 111, 114, 108, 100] args A s q := by
  refine sof hA (by decide) (bA (bB (bB (bA (bB (bA (bA (bA (bA hn))))))))) (bB (bB (bB (bA (bB (bA (bA (bA (bA hn))))))))) (bA (bA (bA (bB (bB (bA (bA (bA (bA hn))))))))) (bB (bA (bA (bB (bB (bA (bA (bA (bA hn))))))))) ?_
  intro j hj
  match j, hj with
  | 0, _ => exact bA (bB (bA (bB (bB (bA (bA (bA (bA hn))))))))
  | 1, _ => exact bB (bB (bA (bB (bB (bA (bA (bA (bA hn))))))))
  | 2, _ => exact bA (bA (bB (bB (bB (bA (bA (bA (bA hn))))))))
  | 3, _ => exact bB (bA (bB (bB (bB (bA (bA (bA (bA hn))))))))
  | 4, _ => exact bA (bB (bB (bB (bB (bA (bA (bA (bA hn))))))))
  | j + 5, hj => exact absurd hj (by omega)
theorem st_1 {args : Array Value} {s : State} {A : Nat → Prop} (hn : narrow_1.before args s = true) (hA : ∀ a : Nat, a < s.heap.size → ¬ A a) : ∃ q : Nat × Nat, SC (.string "RainWalk$Reader" 179) 4 [104, 111, 117, 114] args A s q := by
  refine sof hA (by decide) (bB (bB (bB (bB (bB (bA (bA (bA (bA hn))))))))) (bA (bA (bA (bA (bA (bB (bA (bA (bA hn))))))))) (bB (bA (bA (bA (bA (bB (bA (bA (bA hn))))))))) (bA (bB (bA (bA (bA (bB (bA (bA (bA hn))))))))) ?_
  intro j hj
  match j, hj with
  | 0, _ => exact bB (bB (bA (bA (bA (bB (bA (bA (bA hn))))))))
  | 1, _ => exact bA (bA (bB (bA (bA (bB (bA (bA (bA hn))))))))
  | 2, _ => exact bB (bA (bB (bA (bA (bB (bA (bA (bA hn))))))))
  | 3, _ => exact bA (bB (bB (bA (bA (bB (bA (bA (bA hn))))))))
  | j + 4, hj => exact absurd hj (by omega)
theorem st_2 {args : Array Value} {s : State} {A : Nat → Prop} (hn : narrow_1.before args s = true) (hA : ∀ a : Nat, a < s.heap.size → ¬ A a) : ∃ q : Nat × Nat, SC (.string "RainWalk$Reader" 43) 4 [114, 97, 105, 110] args A s q := by
  refine sof hA (by decide) (bB (bB (bB (bA (bA (bB (bA (bA (bA hn))))))))) (bA (bA (bA (bB (bA (bB (bA (bA (bA hn))))))))) (bB (bA (bA (bB (bA (bB (bA (bA (bA hn))))))))) (bA (bB (bA (bB (bA (bB (bA (bA (bA hn))))))))) ?_
  intro j hj
  match j, hj with
  | 0, _ => exact bB (bB (bA (bB (bA (bB (bA (bA (bA hn))))))))
  | 1, _ => exact bA (bA (bB (bB (bA (bB (bA (bA (bA hn))))))))
  | 2, _ => exact bB (bA (bB (bB (bA (bB (bA (bA (bA hn))))))))
  | 3, _ => exact bA (bB (bB (bB (bA (bB (bA (bA (bA hn))))))))
  | j + 4, hj => exact absurd hj (by omega)
theorem st_3 {args : Array Value} {s : State} {A : Nat → Prop} (hn : narrow_1.before args s = true) (hA : ∀ a : Nat, a < s.heap.size → ¬ A a) : ∃ q : Nat × Nat, SC (.string "RainWalk$Reader" 191) 5 [100, 114, 111, 112, 115] args A s q := by
  refine sof hA (by decide) (bB (bB (bB (bB (bA (bB (bA (bA (bA hn))))))))) (bA (bA (bA (bA (bB (bB (bA (bA (bA hn))))))))) (bB (bA (bA (bA (bB (bB (bA (bA (bA hn))))))))) (bA (bB (bA (bA (bB (bB (bA (bA (bA hn))))))))) ?_
  intro j hj
  match j, hj with
  | 0, _ => exact bB (bB (bA (bA (bB (bB (bA (bA (bA hn))))))))
  | 1, _ => exact bA (bA (bB (bA (bB (bB (bA (bA (bA hn))))))))
  | 2, _ => exact bB (bA (bB (bA (bB (bB (bA (bA (bA hn))))))))
  | 3, _ => exact bA (bB (bB (bA (bB (bB (bA (bA (bA hn))))))))
  | 4, _ => exact bB (bB (bB (bA (bB (bB (bA (bA (bA hn))))))))
  | j + 5, hj => exact absurd hj (by omega)
theorem st_4 {args : Array Value} {s : State} {A : Nat → Prop} (hn : narrow_1.before args s = true) (hA : ∀ a : Nat, a < s.heap.size → ¬ A a) : ∃ q : Nat × Nat, SC (.string "RainWalk$Reader" 197) 4 [100, 111, 119, 110] args A s q := by
  refine sof hA (by decide) (bA (bA (bA (bB (bB (bB (bA (bA (bA hn))))))))) (bB (bA (bA (bB (bB (bB (bA (bA (bA hn))))))))) (bA (bB (bA (bB (bB (bB (bA (bA (bA hn))))))))) (bB (bB (bA (bB (bB (bB (bA (bA (bA hn))))))))) ?_
  intro j hj
  match j, hj with
  | 0, _ => exact bA (bA (bB (bB (bB (bB (bA (bA (bA hn))))))))
  | 1, _ => exact bB (bA (bB (bB (bB (bB (bA (bA (bA hn))))))))
  | 2, _ => exact bA (bB (bB (bB (bB (bB (bA (bA (bA hn))))))))
  | 3, _ => exact bB (bB (bB (bB (bB (bB (bA (bA (bA hn))))))))
  | j + 4, hj => exact absurd hj (by omega)
theorem st_5 {args : Array Value} {s : State} {A : Nat → Prop} (hn : narrow_1.before args s = true) (hA : ∀ a : Nat, a < s.heap.size → ¬ A a) : ∃ q : Nat × Nat, SC (.string "RainWalk$Reader" 201) 4 [119, 105, 110, 100] args A s q := by
  refine sof hA (by decide) (bA (bA (bA (bA (bA (bB (bA (bA hn)))))))) (bA (bB (bA (bA (bA (bA (bB (bA (bA hn))))))))) (bB (bB (bA (bA (bA (bA (bB (bA (bA hn))))))))) (bA (bA (bB (bA (bA (bA (bB (bA (bA hn))))))))) ?_
  intro j hj
  match j, hj with
  | 0, _ => exact bB (bA (bB (bA (bA (bA (bB (bA (bA hn))))))))
  | 1, _ => exact bA (bB (bB (bA (bA (bA (bB (bA (bA hn))))))))
  | 2, _ => exact bB (bB (bB (bA (bA (bA (bB (bA (bA hn))))))))
  | 3, _ => exact bA (bA (bA (bB (bA (bA (bB (bA (bA hn))))))))
  | j + 4, hj => exact absurd hj (by omega)
theorem st_6 {args : Array Value} {s : State} {A : Nat → Prop} (hn : narrow_1.before args s = true) (hA : ∀ a : Nat, a < s.heap.size → ¬ A a) : ∃ q : Nat × Nat, SC (.string "RainWalk$Reader" 156) 5 [110, 111, 114, 116, 104] args A s q := by
  refine sof hA (by decide) (bB (bA (bA (bB (bA (bA (bB (bA (bA hn))))))))) (bA (bB (bA (bB (bA (bA (bB (bA (bA hn))))))))) (bB (bB (bA (bB (bA (bA (bB (bA (bA hn))))))))) (bA (bA (bB (bB (bA (bA (bB (bA (bA hn))))))))) ?_
  intro j hj
  match j, hj with
  | 0, _ => exact bB (bA (bB (bB (bA (bA (bB (bA (bA hn))))))))
  | 1, _ => exact bA (bB (bB (bB (bA (bA (bB (bA (bA hn))))))))
  | 2, _ => exact bB (bB (bB (bB (bA (bA (bB (bA (bA hn))))))))
  | 3, _ => exact bA (bA (bA (bA (bB (bA (bB (bA (bA hn))))))))
  | 4, _ => exact bB (bA (bA (bA (bB (bA (bB (bA (bA hn))))))))
  | j + 5, hj => exact absurd hj (by omega)
theorem st_7 {args : Array Value} {s : State} {A : Nat → Prop} (hn : narrow_1.before args s = true) (hA : ∀ a : Nat, a < s.heap.size → ¬ A a) : ∃ q : Nat × Nat, SC (.string "RainWalk$Reader" 158) 4 [101, 97, 115, 116] args A s q := by
  refine sof hA (by decide) (bA (bB (bA (bA (bB (bA (bB (bA (bA hn))))))))) (bB (bB (bA (bA (bB (bA (bB (bA (bA hn))))))))) (bA (bA (bB (bA (bB (bA (bB (bA (bA hn))))))))) (bB (bA (bB (bA (bB (bA (bB (bA (bA hn))))))))) ?_
  intro j hj
  match j, hj with
  | 0, _ => exact bA (bB (bB (bA (bB (bA (bB (bA (bA hn))))))))
  | 1, _ => exact bB (bB (bB (bA (bB (bA (bB (bA (bA hn))))))))
  | 2, _ => exact bA (bA (bA (bB (bB (bA (bB (bA (bA hn))))))))
  | 3, _ => exact bB (bA (bA (bB (bB (bA (bB (bA (bA hn))))))))
  | j + 4, hj => exact absurd hj (by omega)
theorem st_8 {args : Array Value} {s : State} {A : Nat → Prop} (hn : narrow_1.before args s = true) (hA : ∀ a : Nat, a < s.heap.size → ¬ A a) : ∃ q : Nat × Nat, SC (.string "RainWalk$Reader" 160) 5 [115, 111, 117, 116, 104] args A s q := by
  refine sof hA (by decide) (bA (bB (bA (bB (bB (bA (bB (bA (bA hn))))))))) (bB (bB (bA (bB (bB (bA (bB (bA (bA hn))))))))) (bA (bA (bB (bB (bB (bA (bB (bA (bA hn))))))))) (bB (bA (bB (bB (bB (bA (bB (bA (bA hn))))))))) ?_
  intro j hj
  match j, hj with
  | 0, _ => exact bA (bB (bB (bB (bB (bA (bB (bA (bA hn))))))))
  | 1, _ => exact bB (bB (bB (bB (bB (bA (bB (bA (bA hn))))))))
  | 2, _ => exact bA (bA (bA (bA (bA (bB (bB (bA (bA hn))))))))
  | 3, _ => exact bB (bA (bA (bA (bA (bB (bB (bA (bA hn))))))))
  | 4, _ => exact bA (bB (bA (bA (bA (bB (bB (bA (bA hn))))))))
  | j + 5, hj => exact absurd hj (by omega)
theorem st_9 {args : Array Value} {s : State} {A : Nat → Prop} (hn : narrow_1.before args s = true) (hA : ∀ a : Nat, a < s.heap.size → ¬ A a) : ∃ q : Nat × Nat, SC (.string "RainWalk$Reader" 162) 4 [119, 101, 115, 116] args A s q := by
  refine sof hA (by decide) (bB (bB (bA (bA (bA (bB (bB (bA (bA hn))))))))) (bA (bA (bB (bA (bA (bB (bB (bA (bA hn))))))))) (bB (bA (bB (bA (bA (bB (bB (bA (bA hn))))))))) (bA (bB (bB (bA (bA (bB (bB (bA (bA hn))))))))) ?_
  intro j hj
  match j, hj with
  | 0, _ => exact bB (bB (bB (bA (bA (bB (bB (bA (bA hn))))))))
  | 1, _ => exact bA (bA (bA (bB (bA (bB (bB (bA (bA hn))))))))
  | 2, _ => exact bB (bA (bA (bB (bA (bB (bB (bA (bA hn))))))))
  | 3, _ => exact bA (bB (bA (bB (bA (bB (bB (bA (bA hn))))))))
  | j + 4, hj => exact absurd hj (by omega)
theorem st_10 {args : Array Value} {s : State} {A : Nat → Prop} (hn : narrow_1.before args s = true) (hA : ∀ a : Nat, a < s.heap.size → ¬ A a) : ∃ q : Nat × Nat, SC (.string "RainWalk$Reader" 211) 6 [99, 104, 97, 110, 99, 101] args A s q := by
  refine sof hA (by decide) (bB (bB (bA (bB (bA (bB (bB (bA (bA hn))))))))) (bA (bA (bB (bB (bA (bB (bB (bA (bA hn))))))))) (bB (bA (bB (bB (bA (bB (bB (bA (bA hn))))))))) (bA (bB (bB (bB (bA (bB (bB (bA (bA hn))))))))) ?_
  intro j hj
  match j, hj with
  | 0, _ => exact bB (bB (bB (bB (bA (bB (bB (bA (bA hn))))))))
  | 1, _ => exact bA (bA (bA (bA (bB (bB (bB (bA (bA hn))))))))
  | 2, _ => exact bB (bA (bA (bA (bB (bB (bB (bA (bA hn))))))))
  | 3, _ => exact bA (bB (bA (bA (bB (bB (bB (bA (bA hn))))))))
  | 4, _ => exact bB (bB (bA (bA (bB (bB (bB (bA (bA hn))))))))
  | 5, _ => exact bA (bA (bB (bA (bB (bB (bB (bA (bA hn))))))))
  | j + 6, hj => exact absurd hj (by omega)
theorem st_11 {args : Array Value} {s : State} {A : Nat → Prop} (hn : narrow_1.before args s = true) (hA : ∀ a : Nat, a < s.heap.size → ¬ A a) : ∃ q : Nat × Nat, SC (.string "RainWalk$Reader" 56) 5 [112, 108, 97, 99, 101] args A s q := by
  refine sof hA (by decide) (bB (bA (bB (bA (bB (bB (bB (bA (bA hn))))))))) (bA (bB (bB (bA (bB (bB (bB (bA (bA hn))))))))) (bB (bB (bB (bA (bB (bB (bB (bA (bA hn))))))))) (bA (bA (bA (bB (bB (bB (bB (bA (bA hn))))))))) ?_
  intro j hj
  match j, hj with
  | 0, _ => exact bB (bA (bA (bB (bB (bB (bB (bA (bA hn))))))))
  | 1, _ => exact bA (bB (bA (bB (bB (bB (bB (bA (bA hn))))))))
  | 2, _ => exact bB (bB (bA (bB (bB (bB (bB (bA (bA hn))))))))
  | 3, _ => exact bA (bA (bB (bB (bB (bB (bB (bA (bA hn))))))))
  | 4, _ => exact bB (bA (bB (bB (bB (bB (bB (bA (bA hn))))))))
  | j + 5, hj => exact absurd hj (by omega)
theorem st_12 {args : Array Value} {s : State} {A : Nat → Prop} (hn : narrow_1.before args s = true) (hA : ∀ a : Nat, a < s.heap.size → ¬ A a) : ∃ q : Nat × Nat, SC (.string "RainWalk$Reader" 64) 4 [114, 111, 97, 100] args A s q := by
  refine sof hA (by decide) (bA (bB (bB (bB (bB (bB (bB (bA (bA hn))))))))) (bB (bB (bB (bB (bB (bB (bB (bA (bA hn))))))))) (bA (bA (bA (bA (bA (bA (bB (bA hn)))))))) (bA (bB (bA (bA (bA (bA (bA (bB (bA hn))))))))) ?_
  intro j hj
  match j, hj with
  | 0, _ => exact bB (bB (bA (bA (bA (bA (bA (bB (bA hn))))))))
  | 1, _ => exact bA (bA (bB (bA (bA (bA (bA (bB (bA hn))))))))
  | 2, _ => exact bB (bA (bB (bA (bA (bA (bA (bB (bA hn))))))))
  | 3, _ => exact bA (bB (bB (bA (bA (bA (bA (bB (bA hn))))))))
  | j + 4, hj => exact absurd hj (by omega)
theorem st_13 {args : Array Value} {s : State} {A : Nat → Prop} (hn : narrow_1.before args s = true) (hA : ∀ a : Nat, a < s.heap.size → ¬ A a) : ∃ q : Nat × Nat, SC (.string "RainWalk$Reader" 72) 6 [119, 97, 108, 107, 101, 114] args A s q := by
  refine sof hA (by decide) (bB (bB (bB (bA (bA (bA (bA (bB (bA hn))))))))) (bA (bA (bA (bB (bA (bA (bA (bB (bA hn))))))))) (bB (bA (bA (bB (bA (bA (bA (bB (bA hn))))))))) (bA (bB (bA (bB (bA (bA (bA (bB (bA hn))))))))) ?_
  intro j hj
  match j, hj with
  | 0, _ => exact bB (bB (bA (bB (bA (bA (bA (bB (bA hn))))))))
  | 1, _ => exact bA (bA (bB (bB (bA (bA (bA (bB (bA hn))))))))
  | 2, _ => exact bB (bA (bB (bB (bA (bA (bA (bB (bA hn))))))))
  | 3, _ => exact bA (bB (bB (bB (bA (bA (bA (bB (bA hn))))))))
  | 4, _ => exact bB (bB (bB (bB (bA (bA (bA (bB (bA hn))))))))
  | 5, _ => exact bA (bA (bA (bA (bB (bA (bA (bB (bA hn))))))))
  | j + 6, hj => exact absurd hj (by omega)
theorem st_14 {args : Array Value} {s : State} {A : Nat → Prop} (hn : narrow_1.before args s = true) (hA : ∀ a : Nat, a < s.heap.size → ¬ A a) : ∃ q : Nat × Nat, SC (.string "RainWalk$Reader" 80) 4 [115, 101, 101, 110] args A s q := by
  refine sof hA (by decide) (bB (bA (bA (bA (bB (bA (bA (bB (bA hn))))))))) (bA (bB (bA (bA (bB (bA (bA (bB (bA hn))))))))) (bB (bB (bA (bA (bB (bA (bA (bB (bA hn))))))))) (bA (bA (bB (bA (bB (bA (bA (bB (bA hn))))))))) ?_
  intro j hj
  match j, hj with
  | 0, _ => exact bB (bA (bB (bA (bB (bA (bA (bB (bA hn))))))))
  | 1, _ => exact bA (bB (bB (bA (bB (bA (bA (bB (bA hn))))))))
  | 2, _ => exact bB (bB (bB (bA (bB (bA (bA (bB (bA hn))))))))
  | 3, _ => exact bA (bA (bA (bB (bB (bA (bA (bB (bA hn))))))))
  | j + 4, hj => exact absurd hj (by omega)
theorem st_15 {args : Array Value} {s : State} {A : Nat → Prop} (hn : narrow_1.before args s = true) (hA : ∀ a : Nat, a < s.heap.size → ¬ A a) : ∃ q : Nat × Nat, SC (.string "RainWalk$Reader" 164) 3 [105, 110, 110] args A s q := by
  refine sof hA (by decide) (bB (bA (bA (bB (bB (bA (bA (bB (bA hn))))))))) (bA (bB (bA (bB (bB (bA (bA (bB (bA hn))))))))) (bB (bB (bA (bB (bB (bA (bA (bB (bA hn))))))))) (bA (bA (bB (bB (bB (bA (bA (bB (bA hn))))))))) ?_
  intro j hj
  match j, hj with
  | 0, _ => exact bB (bA (bB (bB (bB (bA (bA (bB (bA hn))))))))
  | 1, _ => exact bA (bB (bB (bB (bB (bA (bA (bB (bA hn))))))))
  | 2, _ => exact bB (bB (bB (bB (bB (bA (bA (bB (bA hn))))))))
  | j + 3, hj => exact absurd hj (by omega)
theorem st_16 {args : Array Value} {s : State} {A : Nat → Prop} (hn : narrow_1.before args s = true) (hA : ∀ a : Nat, a < s.heap.size → ¬ A a) : ∃ q : Nat × Nat, SC (.string "RainWalk$Reader" 166) 4 [116, 114, 101, 101] args A s q := by
  refine sof hA (by decide) (bA (bA (bA (bA (bA (bB (bA (bB (bA hn))))))))) (bB (bA (bA (bA (bA (bB (bA (bB (bA hn))))))))) (bA (bB (bA (bA (bA (bB (bA (bB (bA hn))))))))) (bB (bB (bA (bA (bA (bB (bA (bB (bA hn))))))))) ?_
  intro j hj
  match j, hj with
  | 0, _ => exact bA (bA (bB (bA (bA (bB (bA (bB (bA hn))))))))
  | 1, _ => exact bB (bA (bB (bA (bA (bB (bA (bB (bA hn))))))))
  | 2, _ => exact bA (bB (bB (bA (bA (bB (bA (bB (bA hn))))))))
  | 3, _ => exact bB (bB (bB (bA (bA (bB (bA (bB (bA hn))))))))
  | j + 4, hj => exact absurd hj (by omega)
theorem st_17 {args : Array Value} {s : State} {A : Nat → Prop} (hn : narrow_1.before args s = true) (hA : ∀ a : Nat, a < s.heap.size → ¬ A a) : ∃ q : Nat × Nat, SC (.string "RainWalk$Reader" 168) 6 [97, 119, 110, 105, 110, 103] args A s q := by
  refine sof hA (by decide) (bA (bA (bA (bB (bA (bB (bA (bB (bA hn))))))))) (bB (bA (bA (bB (bA (bB (bA (bB (bA hn))))))))) (bA (bB (bA (bB (bA (bB (bA (bB (bA hn))))))))) (bB (bB (bA (bB (bA (bB (bA (bB (bA hn))))))))) ?_
  intro j hj
  match j, hj with
  | 0, _ => exact bA (bA (bB (bB (bA (bB (bA (bB (bA hn))))))))
  | 1, _ => exact bB (bA (bB (bB (bA (bB (bA (bB (bA hn))))))))
  | 2, _ => exact bA (bB (bB (bB (bA (bB (bA (bB (bA hn))))))))
  | 3, _ => exact bB (bB (bB (bB (bA (bB (bA (bB (bA hn))))))))
  | 4, _ => exact bA (bA (bA (bA (bB (bB (bA (bB (bA hn))))))))
  | 5, _ => exact bB (bA (bA (bA (bB (bB (bA (bB (bA hn))))))))
  | j + 6, hj => exact absurd hj (by omega)
theorem st_18 {args : Array Value} {s : State} {A : Nat → Prop} (hn : narrow_1.before args s = true) (hA : ∀ a : Nat, a < s.heap.size → ¬ A a) : ∃ q : Nat × Nat, SC (.string "RainWalk$Reader" 262) 4 [98, 101, 110, 116] args A s q := by
  refine sof hA (by decide) (bA (bB (bA (bA (bB (bB (bA (bB (bA hn))))))))) (bB (bB (bA (bA (bB (bB (bA (bB (bA hn))))))))) (bA (bA (bB (bA (bB (bB (bA (bB (bA hn))))))))) (bB (bA (bB (bA (bB (bB (bA (bB (bA hn))))))))) ?_
  intro j hj
  match j, hj with
  | 0, _ => exact bA (bB (bB (bA (bB (bB (bA (bB (bA hn))))))))
  | 1, _ => exact bB (bB (bB (bA (bB (bB (bA (bB (bA hn))))))))
  | 2, _ => exact bA (bA (bA (bB (bB (bB (bA (bB (bA hn))))))))
  | 3, _ => exact bB (bA (bA (bB (bB (bB (bA (bB (bA hn))))))))
  | j + 4, hj => exact absurd hj (by omega)
theorem st_19 {args : Array Value} {s : State} {A : Nat → Prop} (hn : narrow_1.before args s = true) (hA : ∀ a : Nat, a < s.heap.size → ¬ A a) : ∃ q : Nat × Nat, SC (.string "RainWalk$Reader" 267) 4 [99, 111, 97, 116] args A s q := by
  refine sof hA (by decide) (bA (bB (bA (bB (bB (bB (bA (bB (bA hn))))))))) (bB (bB (bA (bB (bB (bB (bA (bB (bA hn))))))))) (bA (bA (bB (bB (bB (bB (bA (bB (bA hn))))))))) (bB (bA (bB (bB (bB (bB (bA (bB (bA hn))))))))) ?_
  intro j hj
  match j, hj with
  | 0, _ => exact bA (bB (bB (bB (bB (bB (bA (bB (bA hn))))))))
  | 1, _ => exact bB (bB (bB (bB (bB (bB (bA (bB (bA hn))))))))
  | 2, _ => exact bA (bA (bA (bA (bA (bB (bB (bA hn)))))))
  | 3, _ => exact bA (bB (bA (bA (bA (bA (bB (bB (bA hn))))))))
  | j + 4, hj => exact absurd hj (by omega)
theorem st_20 {args : Array Value} {s : State} {A : Nat → Prop} (hn : narrow_1.before args s = true) (hA : ∀ a : Nat, a < s.heap.size → ¬ A a) : ∃ q : Nat × Nat, SC (.string "RainWalk$Reader" 269) 6 [115, 104, 105, 101, 108, 100] args A s q := by
  refine sof hA (by decide) (bB (bB (bA (bA (bA (bA (bB (bB (bA hn))))))))) (bA (bA (bB (bA (bA (bA (bB (bB (bA hn))))))))) (bB (bA (bB (bA (bA (bA (bB (bB (bA hn))))))))) (bA (bB (bB (bA (bA (bA (bB (bB (bA hn))))))))) ?_
  intro j hj
  match j, hj with
  | 0, _ => exact bB (bB (bB (bA (bA (bA (bB (bB (bA hn))))))))
  | 1, _ => exact bA (bA (bA (bB (bA (bA (bB (bB (bA hn))))))))
  | 2, _ => exact bB (bA (bA (bB (bA (bA (bB (bB (bA hn))))))))
  | 3, _ => exact bA (bB (bA (bB (bA (bA (bB (bB (bA hn))))))))
  | 4, _ => exact bB (bB (bA (bB (bA (bA (bB (bB (bA hn))))))))
  | 5, _ => exact bA (bA (bB (bB (bA (bA (bB (bB (bA hn))))))))
  | j + 6, hj => exact absurd hj (by omega)
theorem st_21 {args : Array Value} {s : State} {A : Nat → Prop} (hn : narrow_1.before args s = true) (hA : ∀ a : Nat, a < s.heap.size → ¬ A a) : ∃ q : Nat × Nat, SC (.string "RainWalk$Reader" 271) 5 [112, 108, 97, 105, 110] args A s q := by
  refine sof hA (by decide) (bB (bA (bB (bB (bA (bA (bB (bB (bA hn))))))))) (bA (bB (bB (bB (bA (bA (bB (bB (bA hn))))))))) (bB (bB (bB (bB (bA (bA (bB (bB (bA hn))))))))) (bA (bA (bA (bA (bB (bA (bB (bB (bA hn))))))))) ?_
  intro j hj
  match j, hj with
  | 0, _ => exact bB (bA (bA (bA (bB (bA (bB (bB (bA hn))))))))
  | 1, _ => exact bA (bB (bA (bA (bB (bA (bB (bB (bA hn))))))))
  | 2, _ => exact bB (bB (bA (bA (bB (bA (bB (bB (bA hn))))))))
  | 3, _ => exact bA (bA (bB (bA (bB (bA (bB (bB (bA hn))))))))
  | 4, _ => exact bB (bA (bB (bA (bB (bA (bB (bB (bA hn))))))))
  | j + 5, hj => exact absurd hj (by omega)
theorem st_22 {args : Array Value} {s : State} {A : Nat → Prop} (hn : narrow_1.before args s = true) (hA : ∀ a : Nat, a < s.heap.size → ¬ A a) : ∃ q : Nat × Nat, SC (.string "RainWalk$Reader" 276) 5 [98, 114, 111, 97, 100] args A s q := by
  refine sof hA (by decide) (bA (bB (bB (bA (bB (bA (bB (bB (bA hn))))))))) (bB (bB (bB (bA (bB (bA (bB (bB (bA hn))))))))) (bA (bA (bA (bB (bB (bA (bB (bB (bA hn))))))))) (bB (bA (bA (bB (bB (bA (bB (bB (bA hn))))))))) ?_
  intro j hj
  match j, hj with
  | 0, _ => exact bA (bB (bA (bB (bB (bA (bB (bB (bA hn))))))))
  | 1, _ => exact bB (bB (bA (bB (bB (bA (bB (bB (bA hn))))))))
  | 2, _ => exact bA (bA (bB (bB (bB (bA (bB (bB (bA hn))))))))
  | 3, _ => exact bB (bA (bB (bB (bB (bA (bB (bB (bA hn))))))))
  | 4, _ => exact bA (bB (bB (bB (bB (bA (bB (bB (bA hn))))))))
  | j + 5, hj => exact absurd hj (by omega)
theorem st_23 {args : Array Value} {s : State} {A : Nat → Prop} (hn : narrow_1.before args s = true) (hA : ∀ a : Nat, a < s.heap.size → ¬ A a) : ∃ q : Nat × Nat, SC (.string "RainWalk$Reader" 278) 4 [100, 101, 101, 112] args A s q := by
  refine sof hA (by decide) (bB (bB (bB (bB (bB (bA (bB (bB (bA hn))))))))) (bA (bA (bA (bA (bA (bB (bB (bB (bA hn))))))))) (bB (bA (bA (bA (bA (bB (bB (bB (bA hn))))))))) (bA (bB (bA (bA (bA (bB (bB (bB (bA hn))))))))) ?_
  intro j hj
  match j, hj with
  | 0, _ => exact bB (bB (bA (bA (bA (bB (bB (bB (bA hn))))))))
  | 1, _ => exact bA (bA (bB (bA (bA (bB (bB (bB (bA hn))))))))
  | 2, _ => exact bB (bA (bB (bA (bA (bB (bB (bB (bA hn))))))))
  | 3, _ => exact bA (bB (bB (bA (bA (bB (bB (bB (bA hn))))))))
  | j + 4, hj => exact absurd hj (by omega)
theorem st_24 {args : Array Value} {s : State} {A : Nat → Prop} (hn : narrow_1.before args s = true) (hA : ∀ a : Nat, a < s.heap.size → ¬ A a) : ∃ q : Nat × Nat, SC (.string "RainWalk$Reader" 280) 4 [104, 105, 103, 104] args A s q := by
  refine sof hA (by decide) (bB (bB (bB (bA (bA (bB (bB (bB (bA hn))))))))) (bA (bA (bA (bB (bA (bB (bB (bB (bA hn))))))))) (bB (bA (bA (bB (bA (bB (bB (bB (bA hn))))))))) (bA (bB (bA (bB (bA (bB (bB (bB (bA hn))))))))) ?_
  intro j hj
  match j, hj with
  | 0, _ => exact bB (bB (bA (bB (bA (bB (bB (bB (bA hn))))))))
  | 1, _ => exact bA (bA (bB (bB (bA (bB (bB (bB (bA hn))))))))
  | 2, _ => exact bB (bA (bB (bB (bA (bB (bB (bB (bA hn))))))))
  | 3, _ => exact bA (bB (bB (bB (bA (bB (bB (bB (bA hn))))))))
  | j + 4, hj => exact absurd hj (by omega)
theorem st_25 {args : Array Value} {s : State} {A : Nat → Prop} (hn : narrow_1.before args s = true) (hA : ∀ a : Nat, a < s.heap.size → ¬ A a) : ∃ q : Nat × Nat, SC (.string "RainWalk$Reader" 250) 4 [102, 114, 111, 109] args A s q := by
  refine sof hA (by decide) (bB (bB (bB (bB (bA (bB (bB (bB (bA hn))))))))) (bA (bA (bA (bA (bB (bB (bB (bB (bA hn))))))))) (bB (bA (bA (bA (bB (bB (bB (bB (bA hn))))))))) (bA (bB (bA (bA (bB (bB (bB (bB (bA hn))))))))) ?_
  intro j hj
  match j, hj with
  | 0, _ => exact bB (bB (bA (bA (bB (bB (bB (bB (bA hn))))))))
  | 1, _ => exact bA (bA (bB (bA (bB (bB (bB (bB (bA hn))))))))
  | 2, _ => exact bB (bA (bB (bA (bB (bB (bB (bB (bA hn))))))))
  | 3, _ => exact bA (bB (bB (bA (bB (bB (bB (bB (bA hn))))))))
  | j + 4, hj => exact absurd hj (by omega)
theorem st_26 {args : Array Value} {s : State} {A : Nat → Prop} (hn : narrow_1.before args s = true) (hA : ∀ a : Nat, a < s.heap.size → ¬ A a) : ∃ q : Nat × Nat, SC (.string "RainWalk$Reader" 257) 2 [116, 111] args A s q := by
  refine sof hA (by decide) (bB (bB (bB (bA (bB (bB (bB (bB (bA hn))))))))) (bA (bA (bA (bB (bB (bB (bB (bB (bA hn))))))))) (bB (bA (bA (bB (bB (bB (bB (bB (bA hn))))))))) (bA (bB (bA (bB (bB (bB (bB (bB (bA hn))))))))) ?_
  intro j hj
  match j, hj with
  | 0, _ => exact bB (bB (bA (bB (bB (bB (bB (bB (bA hn))))))))
  | 1, _ => exact bA (bA (bB (bB (bB (bB (bB (bB (bA hn))))))))
  | j + 2, hj => exact absurd hj (by omega)
theorem st_27 {args : Array Value} {s : State} {A : Nat → Prop} (hn : narrow_1.before args s = true) (hA : ∀ a : Nat, a < s.heap.size → ¬ A a) : ∃ q : Nat × Nat, SC (.string "RainWalkModel" 130) 5 [119, 111, 114, 108, 100] args A s q := by
  refine sof hA (by decide) (bB (bA (bB (bB (bB (bB (bB (bB (bA hn))))))))) (bA (bB (bB (bB (bB (bB (bB (bB (bA hn))))))))) (bB (bB (bB (bB (bB (bB (bB (bB (bA hn))))))))) (bA (bA (bA (bA (bA (bA (bA (bB hn)))))))) ?_
  intro j hj
  match j, hj with
  | 0, _ => exact bA (bB (bA (bA (bA (bA (bA (bA (bB hn))))))))
  | 1, _ => exact bB (bB (bA (bA (bA (bA (bA (bA (bB hn))))))))
  | 2, _ => exact bA (bA (bB (bA (bA (bA (bA (bA (bB hn))))))))
  | 3, _ => exact bB (bA (bB (bA (bA (bA (bA (bA (bB hn))))))))
  | 4, _ => exact bA (bB (bB (bA (bA (bA (bA (bA (bB hn))))))))
  | j + 5, hj => exact absurd hj (by omega)
theorem st_28 {args : Array Value} {s : State} {A : Nat → Prop} (hn : narrow_1.before args s = true) (hA : ∀ a : Nat, a < s.heap.size → ¬ A a) : ∃ q : Nat × Nat, SC (.string "RainWalkModel" 214) 4 [104, 111, 117, 114] args A s q := by
  refine sof hA (by decide) (bA (bA (bA (bB (bA (bA (bA (bA (bB hn))))))))) (bB (bA (bA (bB (bA (bA (bA (bA (bB hn))))))))) (bA (bB (bA (bB (bA (bA (bA (bA (bB hn))))))))) (bB (bB (bA (bB (bA (bA (bA (bA (bB hn))))))))) ?_
  intro j hj
  match j, hj with
  | 0, _ => exact bA (bA (bB (bB (bA (bA (bA (bA (bB hn))))))))
  | 1, _ => exact bB (bA (bB (bB (bA (bA (bA (bA (bB hn))))))))
  | 2, _ => exact bA (bB (bB (bB (bA (bA (bA (bA (bB hn))))))))
  | 3, _ => exact bB (bB (bB (bB (bA (bA (bA (bA (bB hn))))))))
  | j + 4, hj => exact absurd hj (by omega)
theorem st_29 {args : Array Value} {s : State} {A : Nat → Prop} (hn : narrow_1.before args s = true) (hA : ∀ a : Nat, a < s.heap.size → ¬ A a) : ∃ q : Nat × Nat, SC (.string "RainWalkModel" 132) 4 [114, 97, 105, 110] args A s q := by
  refine sof hA (by decide) (bB (bA (bA (bA (bB (bA (bA (bA (bB hn))))))))) (bA (bB (bA (bA (bB (bA (bA (bA (bB hn))))))))) (bB (bB (bA (bA (bB (bA (bA (bA (bB hn))))))))) (bA (bA (bB (bA (bB (bA (bA (bA (bB hn))))))))) ?_
  intro j hj
  match j, hj with
  | 0, _ => exact bB (bA (bB (bA (bB (bA (bA (bA (bB hn))))))))
  | 1, _ => exact bA (bB (bB (bA (bB (bA (bA (bA (bB hn))))))))
  | 2, _ => exact bB (bB (bB (bA (bB (bA (bA (bA (bB hn))))))))
  | 3, _ => exact bA (bA (bA (bB (bB (bA (bA (bA (bB hn))))))))
  | j + 4, hj => exact absurd hj (by omega)
theorem st_30 {args : Array Value} {s : State} {A : Nat → Prop} (hn : narrow_1.before args s = true) (hA : ∀ a : Nat, a < s.heap.size → ¬ A a) : ∃ q : Nat × Nat, SC (.string "RainWalkModel" 226) 5 [100, 114, 111, 112, 115] args A s q := by
  refine sof hA (by decide) (bA (bB (bA (bB (bB (bA (bA (bA (bB hn))))))))) (bB (bB (bA (bB (bB (bA (bA (bA (bB hn))))))))) (bA (bA (bB (bB (bB (bA (bA (bA (bB hn))))))))) (bB (bA (bB (bB (bB (bA (bA (bA (bB hn))))))))) ?_
  intro j hj
  match j, hj with
  | 0, _ => exact bA (bB (bB (bB (bB (bA (bA (bA (bB hn))))))))
  | 1, _ => exact bB (bB (bB (bB (bB (bA (bA (bA (bB hn))))))))
  | 2, _ => exact bA (bA (bA (bA (bA (bB (bA (bA (bB hn))))))))
  | 3, _ => exact bB (bA (bA (bA (bA (bB (bA (bA (bB hn))))))))
  | 4, _ => exact bA (bB (bA (bA (bA (bB (bA (bA (bB hn))))))))
  | j + 5, hj => exact absurd hj (by omega)
theorem st_31 {args : Array Value} {s : State} {A : Nat → Prop} (hn : narrow_1.before args s = true) (hA : ∀ a : Nat, a < s.heap.size → ¬ A a) : ∃ q : Nat × Nat, SC (.string "RainWalkModel" 228) 4 [100, 111, 119, 110] args A s q := by
  refine sof hA (by decide) (bA (bA (bB (bA (bA (bB (bA (bA (bB hn))))))))) (bB (bA (bB (bA (bA (bB (bA (bA (bB hn))))))))) (bA (bB (bB (bA (bA (bB (bA (bA (bB hn))))))))) (bB (bB (bB (bA (bA (bB (bA (bA (bB hn))))))))) ?_
  intro j hj
  match j, hj with
  | 0, _ => exact bA (bA (bA (bB (bA (bB (bA (bA (bB hn))))))))
  | 1, _ => exact bB (bA (bA (bB (bA (bB (bA (bA (bB hn))))))))
  | 2, _ => exact bA (bB (bA (bB (bA (bB (bA (bA (bB hn))))))))
  | 3, _ => exact bB (bB (bA (bB (bA (bB (bA (bA (bB hn))))))))
  | j + 4, hj => exact absurd hj (by omega)
theorem st_32 {args : Array Value} {s : State} {A : Nat → Prop} (hn : narrow_1.before args s = true) (hA : ∀ a : Nat, a < s.heap.size → ¬ A a) : ∃ q : Nat × Nat, SC (.string "RainWalkModel" 230) 4 [119, 105, 110, 100] args A s q := by
  refine sof hA (by decide) (bB (bA (bB (bB (bA (bB (bA (bA (bB hn))))))))) (bA (bB (bB (bB (bA (bB (bA (bA (bB hn))))))))) (bB (bB (bB (bB (bA (bB (bA (bA (bB hn))))))))) (bA (bA (bA (bA (bB (bB (bA (bA (bB hn))))))))) ?_
  intro j hj
  match j, hj with
  | 0, _ => exact bB (bA (bA (bA (bB (bB (bA (bA (bB hn))))))))
  | 1, _ => exact bA (bB (bA (bA (bB (bB (bA (bA (bB hn))))))))
  | 2, _ => exact bB (bB (bA (bA (bB (bB (bA (bA (bB hn))))))))
  | 3, _ => exact bA (bA (bB (bA (bB (bB (bA (bA (bB hn))))))))
  | j + 4, hj => exact absurd hj (by omega)
theorem st_33 {args : Array Value} {s : State} {A : Nat → Prop} (hn : narrow_1.before args s = true) (hA : ∀ a : Nat, a < s.heap.size → ¬ A a) : ∃ q : Nat × Nat, SC (.string "RainWalkModel" 176) 5 [110, 111, 114, 116, 104] args A s q := by
  refine sof hA (by decide) (bA (bB (bB (bA (bB (bB (bA (bA (bB hn))))))))) (bB (bB (bB (bA (bB (bB (bA (bA (bB hn))))))))) (bA (bA (bA (bB (bB (bB (bA (bA (bB hn))))))))) (bB (bA (bA (bB (bB (bB (bA (bA (bB hn))))))))) ?_
  intro j hj
  match j, hj with
  | 0, _ => exact bA (bB (bA (bB (bB (bB (bA (bA (bB hn))))))))
  | 1, _ => exact bB (bB (bA (bB (bB (bB (bA (bA (bB hn))))))))
  | 2, _ => exact bA (bA (bB (bB (bB (bB (bA (bA (bB hn))))))))
  | 3, _ => exact bB (bA (bB (bB (bB (bB (bA (bA (bB hn))))))))
  | 4, _ => exact bA (bB (bB (bB (bB (bB (bA (bA (bB hn))))))))
  | j + 5, hj => exact absurd hj (by omega)
theorem st_34 {args : Array Value} {s : State} {A : Nat → Prop} (hn : narrow_1.before args s = true) (hA : ∀ a : Nat, a < s.heap.size → ¬ A a) : ∃ q : Nat × Nat, SC (.string "RainWalkModel" 178) 4 [101, 97, 115, 116] args A s q := by
  refine sof hA (by decide) (bA (bA (bA (bA (bA (bB (bA (bB hn)))))))) (bA (bB (bA (bA (bA (bA (bB (bA (bB hn))))))))) (bB (bB (bA (bA (bA (bA (bB (bA (bB hn))))))))) (bA (bA (bB (bA (bA (bA (bB (bA (bB hn))))))))) ?_
  intro j hj
  match j, hj with
  | 0, _ => exact bB (bA (bB (bA (bA (bA (bB (bA (bB hn))))))))
  | 1, _ => exact bA (bB (bB (bA (bA (bA (bB (bA (bB hn))))))))
  | 2, _ => exact bB (bB (bB (bA (bA (bA (bB (bA (bB hn))))))))
  | 3, _ => exact bA (bA (bA (bB (bA (bA (bB (bA (bB hn))))))))
  | j + 4, hj => exact absurd hj (by omega)
theorem st_35 {args : Array Value} {s : State} {A : Nat → Prop} (hn : narrow_1.before args s = true) (hA : ∀ a : Nat, a < s.heap.size → ¬ A a) : ∃ q : Nat × Nat, SC (.string "RainWalkModel" 180) 5 [115, 111, 117, 116, 104] args A s q := by
  refine sof hA (by decide) (bA (bB (bA (bB (bA (bA (bB (bA (bB hn))))))))) (bB (bB (bA (bB (bA (bA (bB (bA (bB hn))))))))) (bA (bA (bB (bB (bA (bA (bB (bA (bB hn))))))))) (bB (bA (bB (bB (bA (bA (bB (bA (bB hn))))))))) ?_
  intro j hj
  match j, hj with
  | 0, _ => exact bA (bB (bB (bB (bA (bA (bB (bA (bB hn))))))))
  | 1, _ => exact bB (bB (bB (bB (bA (bA (bB (bA (bB hn))))))))
  | 2, _ => exact bA (bA (bA (bA (bB (bA (bB (bA (bB hn))))))))
  | 3, _ => exact bB (bA (bA (bA (bB (bA (bB (bA (bB hn))))))))
  | 4, _ => exact bA (bB (bA (bA (bB (bA (bB (bA (bB hn))))))))
  | j + 5, hj => exact absurd hj (by omega)
theorem st_36 {args : Array Value} {s : State} {A : Nat → Prop} (hn : narrow_1.before args s = true) (hA : ∀ a : Nat, a < s.heap.size → ¬ A a) : ∃ q : Nat × Nat, SC (.string "RainWalkModel" 182) 4 [119, 101, 115, 116] args A s q := by
  refine sof hA (by decide) (bA (bA (bB (bA (bB (bA (bB (bA (bB hn))))))))) (bB (bA (bB (bA (bB (bA (bB (bA (bB hn))))))))) (bA (bB (bB (bA (bB (bA (bB (bA (bB hn))))))))) (bB (bB (bB (bA (bB (bA (bB (bA (bB hn))))))))) ?_
  intro j hj
  match j, hj with
  | 0, _ => exact bA (bA (bA (bB (bB (bA (bB (bA (bB hn))))))))
  | 1, _ => exact bB (bA (bA (bB (bB (bA (bB (bA (bB hn))))))))
  | 2, _ => exact bA (bB (bA (bB (bB (bA (bB (bA (bB hn))))))))
  | 3, _ => exact bB (bB (bA (bB (bB (bA (bB (bA (bB hn))))))))
  | j + 4, hj => exact absurd hj (by omega)
theorem st_37 {args : Array Value} {s : State} {A : Nat → Prop} (hn : narrow_1.before args s = true) (hA : ∀ a : Nat, a < s.heap.size → ¬ A a) : ∃ q : Nat × Nat, SC (.string "RainWalkModel" 235) 6 [99, 104, 97, 110, 99, 101] args A s q := by
  refine sof hA (by decide) (bB (bA (bB (bB (bB (bA (bB (bA (bB hn))))))))) (bA (bB (bB (bB (bB (bA (bB (bA (bB hn))))))))) (bB (bB (bB (bB (bB (bA (bB (bA (bB hn))))))))) (bA (bA (bA (bA (bA (bB (bB (bA (bB hn))))))))) ?_
  intro j hj
  match j, hj with
  | 0, _ => exact bB (bA (bA (bA (bA (bB (bB (bA (bB hn))))))))
  | 1, _ => exact bA (bB (bA (bA (bA (bB (bB (bA (bB hn))))))))
  | 2, _ => exact bB (bB (bA (bA (bA (bB (bB (bA (bB hn))))))))
  | 3, _ => exact bA (bA (bB (bA (bA (bB (bB (bA (bB hn))))))))
  | 4, _ => exact bB (bA (bB (bA (bA (bB (bB (bA (bB hn))))))))
  | 5, _ => exact bA (bB (bB (bA (bA (bB (bB (bA (bB hn))))))))
  | j + 6, hj => exact absurd hj (by omega)
theorem st_38 {args : Array Value} {s : State} {A : Nat → Prop} (hn : narrow_1.before args s = true) (hA : ∀ a : Nat, a < s.heap.size → ¬ A a) : ∃ q : Nat × Nat, SC (.string "RainWalkModel" 134) 5 [112, 108, 97, 99, 101] args A s q := by
  refine sof hA (by decide) (bA (bA (bA (bB (bA (bB (bB (bA (bB hn))))))))) (bB (bA (bA (bB (bA (bB (bB (bA (bB hn))))))))) (bA (bB (bA (bB (bA (bB (bB (bA (bB hn))))))))) (bB (bB (bA (bB (bA (bB (bB (bA (bB hn))))))))) ?_
  intro j hj
  match j, hj with
  | 0, _ => exact bA (bA (bB (bB (bA (bB (bB (bA (bB hn))))))))
  | 1, _ => exact bB (bA (bB (bB (bA (bB (bB (bA (bB hn))))))))
  | 2, _ => exact bA (bB (bB (bB (bA (bB (bB (bA (bB hn))))))))
  | 3, _ => exact bB (bB (bB (bB (bA (bB (bB (bA (bB hn))))))))
  | 4, _ => exact bA (bA (bA (bA (bB (bB (bB (bA (bB hn))))))))
  | j + 5, hj => exact absurd hj (by omega)
theorem st_39 {args : Array Value} {s : State} {A : Nat → Prop} (hn : narrow_1.before args s = true) (hA : ∀ a : Nat, a < s.heap.size → ¬ A a) : ∃ q : Nat × Nat, SC (.string "RainWalkModel" 135) 4 [114, 111, 97, 100] args A s q := by
  refine sof hA (by decide) (bA (bB (bA (bA (bB (bB (bB (bA (bB hn))))))))) (bB (bB (bA (bA (bB (bB (bB (bA (bB hn))))))))) (bA (bA (bB (bA (bB (bB (bB (bA (bB hn))))))))) (bB (bA (bB (bA (bB (bB (bB (bA (bB hn))))))))) ?_
  intro j hj
  match j, hj with
  | 0, _ => exact bA (bB (bB (bA (bB (bB (bB (bA (bB hn))))))))
  | 1, _ => exact bB (bB (bB (bA (bB (bB (bB (bA (bB hn))))))))
  | 2, _ => exact bA (bA (bA (bB (bB (bB (bB (bA (bB hn))))))))
  | 3, _ => exact bB (bA (bA (bB (bB (bB (bB (bA (bB hn))))))))
  | j + 4, hj => exact absurd hj (by omega)
theorem st_40 {args : Array Value} {s : State} {A : Nat → Prop} (hn : narrow_1.before args s = true) (hA : ∀ a : Nat, a < s.heap.size → ¬ A a) : ∃ q : Nat × Nat, SC (.string "RainWalkModel" 137) 6 [119, 97, 108, 107, 101, 114] args A s q := by
  refine sof hA (by decide) (bB (bB (bA (bB (bB (bB (bB (bA (bB hn))))))))) (bA (bA (bB (bB (bB (bB (bB (bA (bB hn))))))))) (bB (bA (bB (bB (bB (bB (bB (bA (bB hn))))))))) (bA (bB (bB (bB (bB (bB (bB (bA (bB hn))))))))) ?_
  intro j hj
  match j, hj with
  | 0, _ => exact bB (bB (bB (bB (bB (bB (bB (bA (bB hn))))))))
  | 1, _ => exact bA (bA (bA (bA (bA (bA (bB (bB hn)))))))
  | 2, _ => exact bA (bB (bA (bA (bA (bA (bA (bB (bB hn))))))))
  | 3, _ => exact bB (bB (bA (bA (bA (bA (bA (bB (bB hn))))))))
  | 4, _ => exact bA (bA (bB (bA (bA (bA (bA (bB (bB hn))))))))
  | 5, _ => exact bB (bA (bB (bA (bA (bA (bA (bB (bB hn))))))))
  | j + 6, hj => exact absurd hj (by omega)
theorem st_41 {args : Array Value} {s : State} {A : Nat → Prop} (hn : narrow_1.before args s = true) (hA : ∀ a : Nat, a < s.heap.size → ¬ A a) : ∃ q : Nat × Nat, SC (.string "RainWalkModel" 139) 4 [115, 101, 101, 110] args A s q := by
  refine sof hA (by decide) (bB (bB (bB (bA (bA (bA (bA (bB (bB hn))))))))) (bA (bA (bA (bB (bA (bA (bA (bB (bB hn))))))))) (bB (bA (bA (bB (bA (bA (bA (bB (bB hn))))))))) (bA (bB (bA (bB (bA (bA (bA (bB (bB hn))))))))) ?_
  intro j hj
  match j, hj with
  | 0, _ => exact bB (bB (bA (bB (bA (bA (bA (bB (bB hn))))))))
  | 1, _ => exact bA (bA (bB (bB (bA (bA (bA (bB (bB hn))))))))
  | 2, _ => exact bB (bA (bB (bB (bA (bA (bA (bB (bB hn))))))))
  | 3, _ => exact bA (bB (bB (bB (bA (bA (bA (bB (bB hn))))))))
  | j + 4, hj => exact absurd hj (by omega)
theorem st_42 {args : Array Value} {s : State} {A : Nat → Prop} (hn : narrow_1.before args s = true) (hA : ∀ a : Nat, a < s.heap.size → ¬ A a) : ∃ q : Nat × Nat, SC (.string "RainWalkModel" 141) 3 [105, 110, 110] args A s q := by
  refine sof hA (by decide) (bA (bA (bA (bA (bB (bA (bA (bB (bB hn))))))))) (bB (bA (bA (bA (bB (bA (bA (bB (bB hn))))))))) (bA (bB (bA (bA (bB (bA (bA (bB (bB hn))))))))) (bB (bB (bA (bA (bB (bA (bA (bB (bB hn))))))))) ?_
  intro j hj
  match j, hj with
  | 0, _ => exact bA (bA (bB (bA (bB (bA (bA (bB (bB hn))))))))
  | 1, _ => exact bB (bA (bB (bA (bB (bA (bA (bB (bB hn))))))))
  | 2, _ => exact bA (bB (bB (bA (bB (bA (bA (bB (bB hn))))))))
  | j + 3, hj => exact absurd hj (by omega)
theorem st_43 {args : Array Value} {s : State} {A : Nat → Prop} (hn : narrow_1.before args s = true) (hA : ∀ a : Nat, a < s.heap.size → ¬ A a) : ∃ q : Nat × Nat, SC (.string "RainWalkModel" 143) 4 [116, 114, 101, 101] args A s q := by
  refine sof hA (by decide) (bA (bA (bA (bB (bB (bA (bA (bB (bB hn))))))))) (bB (bA (bA (bB (bB (bA (bA (bB (bB hn))))))))) (bA (bB (bA (bB (bB (bA (bA (bB (bB hn))))))))) (bB (bB (bA (bB (bB (bA (bA (bB (bB hn))))))))) ?_
  intro j hj
  match j, hj with
  | 0, _ => exact bA (bA (bB (bB (bB (bA (bA (bB (bB hn))))))))
  | 1, _ => exact bB (bA (bB (bB (bB (bA (bA (bB (bB hn))))))))
  | 2, _ => exact bA (bB (bB (bB (bB (bA (bA (bB (bB hn))))))))
  | 3, _ => exact bB (bB (bB (bB (bB (bA (bA (bB (bB hn))))))))
  | j + 4, hj => exact absurd hj (by omega)
theorem st_44 {args : Array Value} {s : State} {A : Nat → Prop} (hn : narrow_1.before args s = true) (hA : ∀ a : Nat, a < s.heap.size → ¬ A a) : ∃ q : Nat × Nat, SC (.string "RainWalkModel" 145) 6 [97, 119, 110, 105, 110, 103] args A s q := by
  refine sof hA (by decide) (bB (bA (bA (bA (bA (bB (bA (bB (bB hn))))))))) (bA (bB (bA (bA (bA (bB (bA (bB (bB hn))))))))) (bB (bB (bA (bA (bA (bB (bA (bB (bB hn))))))))) (bA (bA (bB (bA (bA (bB (bA (bB (bB hn))))))))) ?_
  intro j hj
  match j, hj with
  | 0, _ => exact bB (bA (bB (bA (bA (bB (bA (bB (bB hn))))))))
  | 1, _ => exact bA (bB (bB (bA (bA (bB (bA (bB (bB hn))))))))
  | 2, _ => exact bB (bB (bB (bA (bA (bB (bA (bB (bB hn))))))))
  | 3, _ => exact bA (bA (bA (bB (bA (bB (bA (bB (bB hn))))))))
  | 4, _ => exact bB (bA (bA (bB (bA (bB (bA (bB (bB hn))))))))
  | 5, _ => exact bA (bB (bA (bB (bA (bB (bA (bB (bB hn))))))))
  | j + 6, hj => exact absurd hj (by omega)
theorem st_45 {args : Array Value} {s : State} {A : Nat → Prop} (hn : narrow_1.before args s = true) (hA : ∀ a : Nat, a < s.heap.size → ¬ A a) : ∃ q : Nat × Nat, SC (.string "RainWalkModel" 284) 5 [112, 108, 97, 105, 110] args A s q := by
  refine sof hA (by decide) (bA (bA (bB (bB (bA (bB (bA (bB (bB hn))))))))) (bB (bA (bB (bB (bA (bB (bA (bB (bB hn))))))))) (bA (bB (bB (bB (bA (bB (bA (bB (bB hn))))))))) (bB (bB (bB (bB (bA (bB (bA (bB (bB hn))))))))) ?_
  intro j hj
  match j, hj with
  | 0, _ => exact bA (bA (bA (bA (bB (bB (bA (bB (bB hn))))))))
  | 1, _ => exact bB (bA (bA (bA (bB (bB (bA (bB (bB hn))))))))
  | 2, _ => exact bA (bB (bA (bA (bB (bB (bA (bB (bB hn))))))))
  | 3, _ => exact bB (bB (bA (bA (bB (bB (bA (bB (bB hn))))))))
  | 4, _ => exact bA (bA (bB (bA (bB (bB (bA (bB (bB hn))))))))
  | j + 5, hj => exact absurd hj (by omega)
theorem st_46 {args : Array Value} {s : State} {A : Nat → Prop} (hn : narrow_1.before args s = true) (hA : ∀ a : Nat, a < s.heap.size → ¬ A a) : ∃ q : Nat × Nat, SC (.string "RainWalkModel" 286) 4 [98, 101, 110, 116] args A s q := by
  refine sof hA (by decide) (bA (bB (bB (bA (bB (bB (bA (bB (bB hn))))))))) (bB (bB (bB (bA (bB (bB (bA (bB (bB hn))))))))) (bA (bA (bA (bB (bB (bB (bA (bB (bB hn))))))))) (bB (bA (bA (bB (bB (bB (bA (bB (bB hn))))))))) ?_
  intro j hj
  match j, hj with
  | 0, _ => exact bA (bB (bA (bB (bB (bB (bA (bB (bB hn))))))))
  | 1, _ => exact bB (bB (bA (bB (bB (bB (bA (bB (bB hn))))))))
  | 2, _ => exact bA (bA (bB (bB (bB (bB (bA (bB (bB hn))))))))
  | 3, _ => exact bB (bA (bB (bB (bB (bB (bA (bB (bB hn))))))))
  | j + 4, hj => exact absurd hj (by omega)
theorem st_47 {args : Array Value} {s : State} {A : Nat → Prop} (hn : narrow_1.before args s = true) (hA : ∀ a : Nat, a < s.heap.size → ¬ A a) : ∃ q : Nat × Nat, SC (.string "RainWalkModel" 288) 4 [99, 111, 97, 116] args A s q := by
  refine sof hA (by decide) (bB (bB (bB (bB (bB (bB (bA (bB (bB hn))))))))) (bA (bA (bA (bA (bA (bB (bB (bB hn)))))))) (bA (bB (bA (bA (bA (bA (bB (bB (bB hn))))))))) (bB (bB (bA (bA (bA (bA (bB (bB (bB hn))))))))) ?_
  intro j hj
  match j, hj with
  | 0, _ => exact bA (bA (bB (bA (bA (bA (bB (bB (bB hn))))))))
  | 1, _ => exact bB (bA (bB (bA (bA (bA (bB (bB (bB hn))))))))
  | 2, _ => exact bA (bB (bB (bA (bA (bA (bB (bB (bB hn))))))))
  | 3, _ => exact bB (bB (bB (bA (bA (bA (bB (bB (bB hn))))))))
  | j + 4, hj => exact absurd hj (by omega)
theorem st_48 {args : Array Value} {s : State} {A : Nat → Prop} (hn : narrow_1.before args s = true) (hA : ∀ a : Nat, a < s.heap.size → ¬ A a) : ∃ q : Nat × Nat, SC (.string "RainWalkModel" 290) 6 [115, 104, 105, 101, 108, 100] args A s q := by
  refine sof hA (by decide) (bB (bA (bA (bB (bA (bA (bB (bB (bB hn))))))))) (bA (bB (bA (bB (bA (bA (bB (bB (bB hn))))))))) (bB (bB (bA (bB (bA (bA (bB (bB (bB hn))))))))) (bA (bA (bB (bB (bA (bA (bB (bB (bB hn))))))))) ?_
  intro j hj
  match j, hj with
  | 0, _ => exact bB (bA (bB (bB (bA (bA (bB (bB (bB hn))))))))
  | 1, _ => exact bA (bB (bB (bB (bA (bA (bB (bB (bB hn))))))))
  | 2, _ => exact bB (bB (bB (bB (bA (bA (bB (bB (bB hn))))))))
  | 3, _ => exact bA (bA (bA (bA (bB (bA (bB (bB (bB hn))))))))
  | 4, _ => exact bB (bA (bA (bA (bB (bA (bB (bB (bB hn))))))))
  | 5, _ => exact bA (bB (bA (bA (bB (bA (bB (bB (bB hn))))))))
  | j + 6, hj => exact absurd hj (by omega)
theorem st_49 {args : Array Value} {s : State} {A : Nat → Prop} (hn : narrow_1.before args s = true) (hA : ∀ a : Nat, a < s.heap.size → ¬ A a) : ∃ q : Nat × Nat, SC (.string "RainWalkModel" 292) 5 [98, 114, 111, 97, 100] args A s q := by
  refine sof hA (by decide) (bA (bA (bB (bA (bB (bA (bB (bB (bB hn))))))))) (bB (bA (bB (bA (bB (bA (bB (bB (bB hn))))))))) (bA (bB (bB (bA (bB (bA (bB (bB (bB hn))))))))) (bB (bB (bB (bA (bB (bA (bB (bB (bB hn))))))))) ?_
  intro j hj
  match j, hj with
  | 0, _ => exact bA (bA (bA (bB (bB (bA (bB (bB (bB hn))))))))
  | 1, _ => exact bB (bA (bA (bB (bB (bA (bB (bB (bB hn))))))))
  | 2, _ => exact bA (bB (bA (bB (bB (bA (bB (bB (bB hn))))))))
  | 3, _ => exact bB (bB (bA (bB (bB (bA (bB (bB (bB hn))))))))
  | 4, _ => exact bA (bA (bB (bB (bB (bA (bB (bB (bB hn))))))))
  | j + 5, hj => exact absurd hj (by omega)
theorem st_50 {args : Array Value} {s : State} {A : Nat → Prop} (hn : narrow_1.before args s = true) (hA : ∀ a : Nat, a < s.heap.size → ¬ A a) : ∃ q : Nat × Nat, SC (.string "RainWalkModel" 294) 4 [100, 101, 101, 112] args A s q := by
  refine sof hA (by decide) (bA (bB (bB (bB (bB (bA (bB (bB (bB hn))))))))) (bB (bB (bB (bB (bB (bA (bB (bB (bB hn))))))))) (bA (bA (bA (bA (bA (bB (bB (bB (bB hn))))))))) (bB (bA (bA (bA (bA (bB (bB (bB (bB hn))))))))) ?_
  intro j hj
  match j, hj with
  | 0, _ => exact bA (bB (bA (bA (bA (bB (bB (bB (bB hn))))))))
  | 1, _ => exact bB (bB (bA (bA (bA (bB (bB (bB (bB hn))))))))
  | 2, _ => exact bA (bA (bB (bA (bA (bB (bB (bB (bB hn))))))))
  | 3, _ => exact bB (bA (bB (bA (bA (bB (bB (bB (bB hn))))))))
  | j + 4, hj => exact absurd hj (by omega)
theorem st_51 {args : Array Value} {s : State} {A : Nat → Prop} (hn : narrow_1.before args s = true) (hA : ∀ a : Nat, a < s.heap.size → ¬ A a) : ∃ q : Nat × Nat, SC (.string "RainWalkModel" 296) 4 [104, 105, 103, 104] args A s q := by
  refine sof hA (by decide) (bB (bB (bB (bA (bA (bB (bB (bB (bB hn))))))))) (bA (bA (bA (bB (bA (bB (bB (bB (bB hn))))))))) (bB (bA (bA (bB (bA (bB (bB (bB (bB hn))))))))) (bA (bB (bA (bB (bA (bB (bB (bB (bB hn))))))))) ?_
  intro j hj
  match j, hj with
  | 0, _ => exact bB (bB (bA (bB (bA (bB (bB (bB (bB hn))))))))
  | 1, _ => exact bA (bA (bB (bB (bA (bB (bB (bB (bB hn))))))))
  | 2, _ => exact bB (bA (bB (bB (bA (bB (bB (bB (bB hn))))))))
  | 3, _ => exact bA (bB (bB (bB (bA (bB (bB (bB (bB hn))))))))
  | j + 4, hj => exact absurd hj (by omega)
theorem st_52 {args : Array Value} {s : State} {A : Nat → Prop} (hn : narrow_1.before args s = true) (hA : ∀ a : Nat, a < s.heap.size → ¬ A a) : ∃ q : Nat × Nat, SC (.string "RainWalkModel" 298) 4 [102, 114, 111, 109] args A s q := by
  refine sof hA (by decide) (bA (bA (bA (bA (bB (bB (bB (bB (bB hn))))))))) (bB (bA (bA (bA (bB (bB (bB (bB (bB hn))))))))) (bA (bB (bA (bA (bB (bB (bB (bB (bB hn))))))))) (bB (bB (bA (bA (bB (bB (bB (bB (bB hn))))))))) ?_
  intro j hj
  match j, hj with
  | 0, _ => exact bA (bA (bB (bA (bB (bB (bB (bB (bB hn))))))))
  | 1, _ => exact bB (bA (bB (bA (bB (bB (bB (bB (bB hn))))))))
  | 2, _ => exact bA (bB (bB (bA (bB (bB (bB (bB (bB hn))))))))
  | 3, _ => exact bB (bB (bB (bA (bB (bB (bB (bB (bB hn))))))))
  | j + 4, hj => exact absurd hj (by omega)
theorem st_53 {args : Array Value} {s : State} {A : Nat → Prop} (hn : narrow_1.before args s = true) (hA : ∀ a : Nat, a < s.heap.size → ¬ A a) : ∃ q : Nat × Nat, SC (.string "RainWalkModel" 300) 2 [116, 111] args A s q := by
  refine sof hA (by decide) (bB (bA (bA (bB (bB (bB (bB (bB (bB hn))))))))) (bA (bB (bA (bB (bB (bB (bB (bB (bB hn))))))))) (bB (bB (bA (bB (bB (bB (bB (bB (bB hn))))))))) (bA (bA (bB (bB (bB (bB (bB (bB (bB hn))))))))) ?_
  intro j hj
  match j, hj with
  | 0, _ => exact bB (bA (bB (bB (bB (bB (bB (bB (bB hn))))))))
  | 1, _ => exact bA (bB (bB (bB (bB (bB (bB (bB (bB hn))))))))
  | j + 2, hj => exact absurd hj (by omega)
def sTm (i : Nat) : Term := .string (SR.getD i ("", 0, "")).1 (SR.getD i ("", 0, "")).2.1
theorem st_all {args : Array Value} {s : State} {A : Nat → Prop} (hn : narrow_1.before args s = true) (hA : ∀ a : Nat, a < s.heap.size → ¬ A a) : ∀ i : Nat, ∃ q : Nat × Nat, i < 54 → SC (sTm i) (sLen.getD i 0) (sByt.getD i []) args A s q := by
  intro i
  by_cases hi : i < 54
  · suffices h : ∃ q : Nat × Nat, SC (sTm i) (sLen.getD i 0) (sByt.getD i []) args A s q from h.elim fun q hq => ⟨q, fun _ => hq⟩
    match i, hi with
    | 0, _ => exact st_0 hn hA
    | 1, _ => exact st_1 hn hA
    | 2, _ => exact st_2 hn hA
    | 3, _ => exact st_3 hn hA
    | 4, _ => exact st_4 hn hA
    | 5, _ => exact st_5 hn hA
    | 6, _ => exact st_6 hn hA
    | 7, _ => exact st_7 hn hA
    | 8, _ => exact st_8 hn hA
    | 9, _ => exact st_9 hn hA
    | 10, _ => exact st_10 hn hA
    | 11, _ => exact st_11 hn hA
    | 12, _ => exact st_12 hn hA
    | 13, _ => exact st_13 hn hA
    | 14, _ => exact st_14 hn hA
    | 15, _ => exact st_15 hn hA
    | 16, _ => exact st_16 hn hA
    | 17, _ => exact st_17 hn hA
    | 18, _ => exact st_18 hn hA
    | 19, _ => exact st_19 hn hA
    | 20, _ => exact st_20 hn hA
    | 21, _ => exact st_21 hn hA
    | 22, _ => exact st_22 hn hA
    | 23, _ => exact st_23 hn hA
    | 24, _ => exact st_24 hn hA
    | 25, _ => exact st_25 hn hA
    | 26, _ => exact st_26 hn hA
    | 27, _ => exact st_27 hn hA
    | 28, _ => exact st_28 hn hA
    | 29, _ => exact st_29 hn hA
    | 30, _ => exact st_30 hn hA
    | 31, _ => exact st_31 hn hA
    | 32, _ => exact st_32 hn hA
    | 33, _ => exact st_33 hn hA
    | 34, _ => exact st_34 hn hA
    | 35, _ => exact st_35 hn hA
    | 36, _ => exact st_36 hn hA
    | 37, _ => exact st_37 hn hA
    | 38, _ => exact st_38 hn hA
    | 39, _ => exact st_39 hn hA
    | 40, _ => exact st_40 hn hA
    | 41, _ => exact st_41 hn hA
    | 42, _ => exact st_42 hn hA
    | 43, _ => exact st_43 hn hA
    | 44, _ => exact st_44 hn hA
    | 45, _ => exact st_45 hn hA
    | 46, _ => exact st_46 hn hA
    | 47, _ => exact st_47 hn hA
    | 48, _ => exact st_48 hn hA
    | 49, _ => exact st_49 hn hA
    | 50, _ => exact st_50 hn hA
    | 51, _ => exact st_51 hn hA
    | 52, _ => exact st_52 hn hA
    | 53, _ => exact st_53 hn hA
    | i + 54, hi => exact absurd hi (by omega)
  · exact ⟨(0, 0), fun h => absurd h hi⟩
