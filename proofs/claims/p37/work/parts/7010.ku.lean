/-! the start: every joint is the only one to what it joins -/
def UV (S : HS) : Prop := (∀ x j b, fR S x j = some b → b ∈ hL S) ∧ ∀ x j x' j' b, fR S x j = some b → fR S x' j' = some b → x = x' ∧ j = j'
def ZW8 (S : HS) : Prop := ∀ x, ob S x 8 → fI S x = fun _ => 0
def UZ (S : HS) : Prop := UV S ∧ ZW8 S
def NRa (S : HS) (b : Nat) : Prop := ∀ x j, fR S x j ≠ some b
def KU (S T : HS) : Prop := UZ T ∧ Gr S T ∧ ∀ b, b ∈ hL S → NRa S b → NRa T b
section KUs
variable {S T U : HS} {a b k j x n : Nat}
theorem ku_rf (u : UZ S) : KU S S := ⟨u, gr_rf S, fun _ _ h => h⟩
theorem ku_tr (h : KU S T) (g : KU T U) : KU S U := ⟨g.1, gr_tr h.2.1 g.2.1, fun b hb hn => g.2.2 b (h.2.1 b hb).1 (h.2.2 b hb hn)⟩
theorem ku_I {v : Int32} (h : KU S T) (e : U = sI T x j v) (o : ob T x k) (hk : k ≠ 8) : KU S U := by
  have z : ZW8 U := fun y oy => by
    have oy : ob T y 8 := by rw [e] at oy; exact oy
    have hne : y ≠ x := fun q => hk (ob_inj o (q ▸ oy))
    rw [e]
    exact (u2_row _ _ hne).trans (h.1.2 y oy)
  rw [e] at z ⊢
  exact ⟨⟨h.1.1, z⟩, h.2⟩
theorem ku_J {v : Int64} (h : KU S T) (e : U = sJ T x j v) : KU S U := by
  rw [e]
  exact h
theorem nr_I {v : Int32} (h : NRa T b) (e : U = sI T x j v) : NRa U b := by
  rw [e]
  exact h
theorem nr_J {v : Int64} (h : NRa T b) (e : U = sJ T x j v) : NRa U b := by
  rw [e]
  exact h
theorem l_I {v : Int32} (h : b ∈ hL T) (e : U = sI T x j v) : b ∈ hL U := by
  rw [e]
  exact h
theorem l_J {v : Int64} (h : b ∈ hL T) (e : U = sJ T x j v) : b ∈ hL U := by
  rw [e]
  exact h
theorem ku_R (h : KU S T) (e : U = sR T x j (some b)) (hn : NRa T b) (hl : b ∈ hL T) (h0 : b ∉ hL S) : KU S U := by
  have r : ∀ y i c, fR U y i = some c → (y = x ∧ i = j ∧ c = b) ∨ fR T y i = some c := fun y i c z => by
    rw [e] at z
    by_cases q : y = x ∧ i = j
    · left
      rw [q.1, q.2] at z
      have z : u2 (fR T) x j (some b) x j = some c := z
      rw [u2_self] at z
      cases z
      exact ⟨q.1, q.2, rfl⟩
    · right
      have z : u2 (fR T) x j (some b) y i = some c := z
      rw [u2_ne _ _ q] at z
      exact z
  have l : hL U = hL T := by rw [e]; rfl
  refine ⟨⟨⟨fun y i c z => ?_, fun y i y' i' c z z' => ?_⟩, by rw [e]; exact h.1.2⟩, by rw [e]; exact h.2.1, fun c hc hcn y i z => ?_⟩
  · rw [l]
    rcases r y i c z with q | q
    · rw [q.2.2]; exact hl
    · exact h.1.1.1 y i c q
  · rcases r y i c z with q | q
    · rcases r y' i' c z' with q' | q'
      · exact ⟨q.1.trans q'.1.symm, q.2.1.trans q'.2.1.symm⟩
      · exact absurd (q.2.2 ▸ q') (hn y' i')
    · rcases r y' i' c z' with q' | q'
      · exact absurd (q'.2.2 ▸ q) (hn y i)
      · exact h.1.1.2 y i y' i' c q q'
  · rcases r y i c z with q | q
    · exact h0 (q.2.2 ▸ hc)
    · exact h.2.2 c hc hcn y i q
theorem ku_W (h : KU S T) (ha : a ∉ hL T) (e : U = nW T a k n) : KU S U := by
  have r : ∀ y i c, fR U y i = some c → fR T y i = some c := fun y i c z => by
    rw [e] at z
    by_cases q : y = a
    · rw [q] at z
      have z : va_up (fR T) a (fun _ => none) a i = some c := z
      rw [va_up_self] at z
      cases z
    · have z : va_up (fR T) a (fun _ => none) y i = some c := z
      rw [va_up_ne _ _ q] at z
      exact z
  have g := gr_of_new e ha
  have z8 : ZW8 U := fun y oy => by
    by_cases q : y = a
    · rw [q, e]
      exact va_up_self _ _ _
    · have oT : ob T y 8 := by
        rw [e] at oy
        obtain ⟨o1, o2⟩ := oy
        refine ⟨?_, ?_⟩
        · have o1 : y ∈ hL T ++ [a] := o1
          rcases List.mem_append.mp o1 with z | z
          · exact z
          · exact absurd (List.mem_singleton.mp z) q
        · have o2 : va_up (hK T) a k y = 8 := o2
          rw [va_up_ne _ _ q] at o2
          exact o2
      rw [e]
      exact (va_up_ne _ _ q).trans (h.1.2 y oT)
  exact ⟨⟨⟨fun y i c z => (g c (h.1.1.1 y i c (r y i c z))).1, fun y i y' i' c z z' => h.1.1.2 y i y' i' c (r y i c z) (r y' i' c z')⟩, z8⟩, gr_tr h.2.1 g, fun c hc hn y i z => h.2.2 c hc hn y i (r y i c z)⟩
theorem ku_nf (h : KU S T) (ha : a ∉ hL T) : a ∉ hL S := fun z => ha (h.2.1 a z).1
theorem ku_ff (h : KU S T) (ha : a ∉ hL T) (e : U = nW T a k n) : NRa U a := fun y i z => by
  rw [e] at z
  by_cases q : y = a
  · rw [q] at z
    have z : va_up (fR T) a (fun _ => none) a i = some a := z
    rw [va_up_self] at z
    cases z
  · have z : va_up (fR T) a (fun _ => none) y i = some a := z
    rw [va_up_ne _ _ q] at z
    exact ha (h.1.1.1 y i a z)
theorem ku_fl (e : U = nW T a k n) : a ∈ hL U := by
  rw [e]
  show a ∈ hL T ++ [a]
  simp
end KUs
set_option maxRecDepth 20000 in
set_option maxHeartbeats 1000000 in
theorem ku_X0_end_0 {Q : HS → Prop} {v0 : Nat} {S0 S : HS} (h : P_X0_end_0 Q v0 S) (K : KU S0 S) : P_X0_end_0 (fun T => Q T ∧ KU S0 T) v0 S := by
  delta P_X0_end_0 at h ⊢
  obtain ⟨c1, h⟩ := h
  refine ⟨c1, ?_⟩
  have o2 := c1
  intro x4 e3
  have h := h x4 e3
  have K := ku_I K e3 o2 (by decide)
  have o2 := ob_wI o2 e3
  intro x6 e5
  have h := h x6 e5
  have K := ku_I K e5 o2 (by decide)
  have o2 := ob_wI o2 e5
  intro x8 e7
  have h := h x8 e7
  have K := ku_I K e7 o2 (by decide)
  have o2 := ob_wI o2 e7
  exact ⟨h, K⟩
theorem ku_X0_end {Q : HS → Prop} {v0 : Nat} {S : HS} (h : P_X0_end v0 Q S) (u : UZ S) : P_X0_end v0 (fun T => Q T ∧ KU S T) S := ku_X0_end_0 h (ku_rf u)
set_option maxRecDepth 20000 in
set_option maxHeartbeats 1000000 in
theorem ku_X2_init_0 {Q : HS → Prop} {v0 : Nat} {S0 S : HS} (h : P_X2_init_0 Q v0 S) (K : KU S0 S) : P_X2_init_0 (fun T => Q T ∧ KU S0 T) v0 S := by
  delta P_X2_init_0 at h ⊢
  intro x2 e1
  have h := h x2 e1
  intro x4 e3
  have h := h x4 e3
  have n5 := ku_nf K e1
  have f6 := ku_ff K e1 e3
  have l7 := ku_fl e3
  have K := ku_W K e1 e3
  obtain ⟨c8, h⟩ := h
  refine ⟨c8, ?_⟩
  have o9 := c8
  intro x11 e10
  have h := h x11 e10
  have K := ku_R K e10 f6 l7 n5
  have o9 := ob_wR o9 e10
  exact ⟨h, K⟩
theorem ku_X2_init {Q : HS → Prop} {v0 : Nat} {S : HS} (h : P_X2_init v0 Q S) (u : UZ S) : P_X2_init v0 (fun T => Q T ∧ KU S T) S := ku_X2_init_0 h (ku_rf u)
set_option maxRecDepth 20000 in
set_option maxHeartbeats 1000000 in
theorem kuB_X0_init_69 {Q : HS → Prop} {X69 X69_2 : Nat → Int32 → Nat → Nat → HS → Prop} {v0 : Nat} {v1 : Int32} {kk : Nat} {nn : Nat} {S0 S : HS} (h : B_X0_init_69 Q X69 v0 v1 kk nn S) (K : KU S0 S) (hX69 : ∀ (u0 : Nat) (u1 : Int32) (u2 : Nat) (u3 : Nat) (u4 : HS), X69 u0 u1 u2 u3 u4 → KU S0 u4 → X69_2 u0 u1 u2 u3 u4) : B_X0_init_69 (fun T => Q T ∧ KU S0 T) X69_2 v0 v1 kk nn S := by
  delta B_X0_init_69 at h ⊢
  obtain ⟨c1, h⟩ := h
  refine ⟨c1, ?_⟩
  have o2 := c1
  obtain ⟨b3, e4, h⟩ := h
  refine ⟨b3, e4, ?_⟩
  obtain ⟨c5, h⟩ := h
  refine ⟨c5, ?_⟩
  have o6 := c5
  refine ⟨?_, ?_⟩
  · intro c7
    have h := h.1 c7
    obtain ⟨c8, h⟩ := h
    refine ⟨c8, ?_⟩
    obtain ⟨c9, h⟩ := h
    refine ⟨c9, ?_⟩
    exact ⟨h, K⟩
  · intro c10
    have h := h.2 c10
    obtain ⟨b11, e12, h⟩ := h
    refine ⟨b11, e12, ?_⟩
    obtain ⟨c13, h⟩ := h
    refine ⟨c13, ?_⟩
    obtain ⟨c14, h⟩ := h
    refine ⟨c14, ?_⟩
    intro x16 e15
    have h := h x16 e15
    intro x18 e17
    have h := h x18 e17
    have n19 := ku_nf K e15
    have f20 := ku_ff K e15 e17
    have l21 := ku_fl e17
    have K := ku_W K e15 e17
    have o2 := gr_ob (gr_of_new e17 e15) o2
    have o6 := gr_ob (gr_of_new e17 e15) o6
    obtain ⟨c22, h⟩ := h
    refine ⟨c22, ?_⟩
    obtain ⟨c23, h⟩ := h
    refine ⟨c23, ?_⟩
    refine cm_X2_init (ku_X2_init h K.1) h (fun x24 p26 h g25 => ?_)
    have h := h g25
    have K := ku_tr K p26.2
    have o2 := gr_ob p26.2.2.1 o2
    have o6 := gr_ob p26.2.2.1 o6
    have f20 := p26.2.2.2 _ l21 f20
    have l21 := (p26.2.2.1 _ l21).1
    obtain ⟨c27, h⟩ := h
    refine ⟨c27, ?_⟩
    have o28 := c27
    obtain ⟨c29, h⟩ := h
    refine ⟨c29, ?_⟩
    intro x31 e30
    have h := h x31 e30
    have K := ku_R K e30 f20 l21 n19
    have o2 := ob_wR o2 e30
    have o6 := ob_wR o6 e30
    have o28 := ob_wR o28 e30
    intro x33 e32
    have h := h x33 e32
    exact hX69 _ _ _ _ _ h K
theorem ku_X0_init_69 {Q : HS → Prop} {v0 : Nat} {v1 : Int32} {kk : Nat} {nn : Nat} {S0 S : HS} (h : P_X0_init_69 Q v0 v1 kk nn S) (K : KU S0 S) : P_X0_init_69 (fun T => Q T ∧ KU S0 T) v0 v1 kk nn S := h (fun v0 v1 kk nn S => KU S0 S → P_X0_init_69 (fun T => Q T ∧ KU S0 T) v0 v1 kk nn S) (fun v0 v1 kk nn S hB K => fd_X0_init_69 (kuB_X0_init_69 hB K (fun _ _ _ _ _ hx K => hx K))) K
set_option maxRecDepth 20000 in
set_option maxHeartbeats 1000000 in
theorem kuB_X0_init_39 {Q : HS → Prop} {X39 X39_2 : Nat → Int32 → Nat → Nat → HS → Prop} {v0 : Nat} {v1 : Int32} {kk : Nat} {nn : Nat} {S0 S : HS} (h : B_X0_init_39 Q X39 v0 v1 kk nn S) (K : KU S0 S) (hX39 : ∀ (u0 : Nat) (u1 : Int32) (u2 : Nat) (u3 : Nat) (u4 : HS), X39 u0 u1 u2 u3 u4 → KU S0 u4 → X39_2 u0 u1 u2 u3 u4) : B_X0_init_39 (fun T => Q T ∧ KU S0 T) X39_2 v0 v1 kk nn S := by
  delta B_X0_init_39 at h ⊢
  obtain ⟨c1, h⟩ := h
  refine ⟨c1, ?_⟩
  have o2 := c1
  obtain ⟨b3, e4, h⟩ := h
  refine ⟨b3, e4, ?_⟩
  obtain ⟨c5, h⟩ := h
  refine ⟨c5, ?_⟩
  have o6 := c5
  refine ⟨?_, ?_⟩
  · intro c7
    have h := h.1 c7
    exact ku_X0_init_69 h K
  · intro c8
    have h := h.2 c8
    obtain ⟨b9, e10, h⟩ := h
    refine ⟨b9, e10, ?_⟩
    obtain ⟨c11, h⟩ := h
    refine ⟨c11, ?_⟩
    obtain ⟨c12, h⟩ := h
    refine ⟨c12, ?_⟩
    intro x14 e13
    have h := h x14 e13
    intro x16 e15
    have h := h x16 e15
    have n17 := ku_nf K e13
    have f18 := ku_ff K e13 e15
    have l19 := ku_fl e15
    have K := ku_W K e13 e15
    have o2 := gr_ob (gr_of_new e15 e13) o2
    have o6 := gr_ob (gr_of_new e15 e13) o6
    obtain ⟨c20, h⟩ := h
    refine ⟨c20, ?_⟩
    obtain ⟨c21, h⟩ := h
    refine ⟨c21, ?_⟩
    refine cm_X2_init (ku_X2_init h K.1) h (fun x22 p24 h g23 => ?_)
    have h := h g23
    have K := ku_tr K p24.2
    have o2 := gr_ob p24.2.2.1 o2
    have o6 := gr_ob p24.2.2.1 o6
    have f18 := p24.2.2.2 _ l19 f18
    have l19 := (p24.2.2.1 _ l19).1
    obtain ⟨c25, h⟩ := h
    refine ⟨c25, ?_⟩
    have o26 := c25
    obtain ⟨c27, h⟩ := h
    refine ⟨c27, ?_⟩
    intro x29 e28
    have h := h x29 e28
    have K := ku_R K e28 f18 l19 n17
    have o2 := ob_wR o2 e28
    have o6 := ob_wR o6 e28
    have o26 := ob_wR o26 e28
    intro x31 e30
    have h := h x31 e30
    exact hX39 _ _ _ _ _ h K
theorem ku_X0_init_39 {Q : HS → Prop} {v0 : Nat} {v1 : Int32} {kk : Nat} {nn : Nat} {S0 S : HS} (h : P_X0_init_39 Q v0 v1 kk nn S) (K : KU S0 S) : P_X0_init_39 (fun T => Q T ∧ KU S0 T) v0 v1 kk nn S := h (fun v0 v1 kk nn S => KU S0 S → P_X0_init_39 (fun T => Q T ∧ KU S0 T) v0 v1 kk nn S) (fun v0 v1 kk nn S hB K => fd_X0_init_39 (kuB_X0_init_39 hB K (fun _ _ _ _ _ hx K => hx K))) K
set_option maxRecDepth 20000 in
set_option maxHeartbeats 1000000 in
theorem ku_X0_init_0 {Q : HS → Prop} {v0 : Nat} {kk : Nat} {nn : Nat} {S0 S : HS} (h : P_X0_init_0 Q v0 kk nn S) (K : KU S0 S) : P_X0_init_0 (fun T => Q T ∧ KU S0 T) v0 kk nn S := by
  delta P_X0_init_0 at h ⊢
  obtain ⟨c1, h⟩ := h
  refine ⟨c1, ?_⟩
  have o2 := c1
  intro x4 e3
  have h := h x4 e3
  have K := ku_I K e3 o2 (by decide)
  have o2 := ob_wI o2 e3
  obtain ⟨c5, h⟩ := h
  refine ⟨c5, ?_⟩
  obtain ⟨c6, h⟩ := h
  refine ⟨c6, ?_⟩
  intro x8 e7
  have h := h x8 e7
  intro x10 e9
  have h := h x10 e9
  have n11 := ku_nf K e7
  have f12 := ku_ff K e7 e9
  have l13 := ku_fl e9
  have K := ku_W K e7 e9
  have o2 := gr_ob (gr_of_new e9 e7) o2
  obtain ⟨c14, h⟩ := h
  refine ⟨c14, ?_⟩
  obtain ⟨c15, h⟩ := h
  refine ⟨c15, ?_⟩
  refine cm_X2_init (ku_X2_init h K.1) h (fun x16 p18 h g17 => ?_)
  have h := h g17
  have K := ku_tr K p18.2
  have o2 := gr_ob p18.2.2.1 o2
  have f12 := p18.2.2.2 _ l13 f12
  have l13 := (p18.2.2.1 _ l13).1
  intro x20 e19
  have h := h x20 e19
  have K := ku_R K e19 f12 l13 n11
  have o2 := ob_wR o2 e19
  obtain ⟨c21, h⟩ := h
  refine ⟨c21, ?_⟩
  obtain ⟨c22, h⟩ := h
  refine ⟨c22, ?_⟩
  intro x24 e23
  have h := h x24 e23
  intro x26 e25
  have h := h x26 e25
  have n27 := ku_nf K e23
  have f28 := ku_ff K e23 e25
  have l29 := ku_fl e25
  have K := ku_W K e23 e25
  have o2 := gr_ob (gr_of_new e25 e23) o2
  intro x31 e30
  have h := h x31 e30
  have K := ku_R K e30 f28 l29 n27
  have o2 := ob_wR o2 e30
  obtain ⟨c32, h⟩ := h
  refine ⟨c32, ?_⟩
  obtain ⟨c33, h⟩ := h
  refine ⟨c33, ?_⟩
  intro x35 e34
  have h := h x35 e34
  intro x37 e36
  have h := h x37 e36
  have n38 := ku_nf K e34
  have f39 := ku_ff K e34 e36
  have l40 := ku_fl e36
  have K := ku_W K e34 e36
  have o2 := gr_ob (gr_of_new e36 e34) o2
  intro x42 e41
  have h := h x42 e41
  have K := ku_R K e41 f39 l40 n38
  have o2 := ob_wR o2 e41
  exact ku_X0_init_39 h K
theorem ku_X0_init {Q : HS → Prop} {v0 : Nat} {S : HS} (h : P_X0_init v0 Q S) (u : UZ S) : P_X0_init v0 (fun T => Q T ∧ KU S T) S := ku_X0_init_0 h (ku_rf u)
set_option maxRecDepth 20000 in
set_option maxHeartbeats 1000000 in
theorem ku_X1_init_0 {Q : HS → Prop} {v0 : Nat} {S0 S : HS} (h : P_X1_init_0 Q v0 S) (K : KU S0 S) : P_X1_init_0 (fun T => Q T ∧ KU S0 T) v0 S := by
  delta P_X1_init_0 at h ⊢
  intro x2 e1
  have h := h x2 e1
  intro x4 e3
  have h := h x4 e3
  have n5 := ku_nf K e1
  have f6 := ku_ff K e1 e3
  have l7 := ku_fl e3
  have K := ku_W K e1 e3
  obtain ⟨c8, h⟩ := h
  refine ⟨c8, ?_⟩
  have o9 := c8
  intro x11 e10
  have h := h x11 e10
  have K := ku_R K e10 f6 l7 n5
  have o9 := ob_wR o9 e10
  intro x13 e12
  have h := h x13 e12
  intro x15 e14
  have h := h x15 e14
  have n16 := ku_nf K e12
  have f17 := ku_ff K e12 e14
  have l18 := ku_fl e14
  have K := ku_W K e12 e14
  have o9 := gr_ob (gr_of_new e14 e12) o9
  intro x20 e19
  have h := h x20 e19
  have K := ku_R K e19 f17 l18 n16
  have o9 := ob_wR o9 e19
  exact ⟨h, K⟩
theorem ku_X1_init {Q : HS → Prop} {v0 : Nat} {S : HS} (h : P_X1_init v0 Q S) (u : UZ S) : P_X1_init v0 (fun T => Q T ∧ KU S T) S := ku_X1_init_0 h (ku_rf u)
set_option maxRecDepth 20000 in
set_option maxHeartbeats 1000000 in
theorem ku_X3_init_0 {Q : HS → Prop} {v0 : Nat} {S0 S : HS} (h : P_X3_init_0 Q v0 S) (K : KU S0 S) : P_X3_init_0 (fun T => Q T ∧ KU S0 T) v0 S := by
  delta P_X3_init_0 at h ⊢
  exact ⟨h, K⟩
theorem ku_X3_init {Q : HS → Prop} {v0 : Nat} {S : HS} (h : P_X3_init v0 Q S) (u : UZ S) : P_X3_init v0 (fun T => Q T ∧ KU S T) S := ku_X3_init_0 h (ku_rf u)
set_option maxRecDepth 20000 in
set_option maxHeartbeats 1000000 in
theorem ku_X5_init_0 {Q : HS → Prop} {v0 : Nat} {S0 S : HS} (h : P_X5_init_0 Q v0 S) (K : KU S0 S) : P_X5_init_0 (fun T => Q T ∧ KU S0 T) v0 S := by
  delta P_X5_init_0 at h ⊢
  exact ⟨h, K⟩
theorem ku_X5_init {Q : HS → Prop} {v0 : Nat} {S : HS} (h : P_X5_init v0 Q S) (u : UZ S) : P_X5_init v0 (fun T => Q T ∧ KU S T) S := ku_X5_init_0 h (ku_rf u)
set_option maxRecDepth 20000 in
set_option maxHeartbeats 1000000 in
theorem ku_X6_init_0 {Q : HS → Prop} {v0 : Nat} {S0 S : HS} (h : P_X6_init_0 Q v0 S) (K : KU S0 S) : P_X6_init_0 (fun T => Q T ∧ KU S0 T) v0 S := by
  delta P_X6_init_0 at h ⊢
  exact ⟨h, K⟩
theorem ku_X6_init {Q : HS → Prop} {v0 : Nat} {S : HS} (h : P_X6_init v0 Q S) (u : UZ S) : P_X6_init v0 (fun T => Q T ∧ KU S T) S := ku_X6_init_0 h (ku_rf u)
set_option maxRecDepth 20000 in
set_option maxHeartbeats 1000000 in
theorem kuB_X8_init_115 {Q : HS → Prop} {X115 X115_2 : Nat → Int32 → Nat → Nat → HS → Prop} {v0 : Nat} {v1 : Int32} {kk : Nat} {nn : Nat} {S0 S : HS} (h : B_X8_init_115 Q X115 v0 v1 kk nn S) (K : KU S0 S) (hX115 : ∀ (u0 : Nat) (u1 : Int32) (u2 : Nat) (u3 : Nat) (u4 : HS), X115 u0 u1 u2 u3 u4 → KU S0 u4 → X115_2 u0 u1 u2 u3 u4) : B_X8_init_115 (fun T => Q T ∧ KU S0 T) X115_2 v0 v1 kk nn S := by
  delta B_X8_init_115 at h ⊢
  obtain ⟨c1, h⟩ := h
  refine ⟨c1, ?_⟩
  have o2 := c1
  obtain ⟨b3, e4, h⟩ := h
  refine ⟨b3, e4, ?_⟩
  obtain ⟨c5, h⟩ := h
  refine ⟨c5, ?_⟩
  have o6 := c5
  refine ⟨?_, ?_⟩
  · intro c7
    have h := h.1 c7
    obtain ⟨c8, h⟩ := h
    refine ⟨c8, ?_⟩
    obtain ⟨c9, h⟩ := h
    refine ⟨c9, ?_⟩
    exact ⟨h, K⟩
  · intro c10
    have h := h.2 c10
    obtain ⟨b11, e12, h⟩ := h
    refine ⟨b11, e12, ?_⟩
    obtain ⟨c13, h⟩ := h
    refine ⟨c13, ?_⟩
    obtain ⟨c14, h⟩ := h
    refine ⟨c14, ?_⟩
    intro x16 e15
    have h := h x16 e15
    intro x18 e17
    have h := h x18 e17
    have n19 := ku_nf K e15
    have f20 := ku_ff K e15 e17
    have l21 := ku_fl e17
    have K := ku_W K e15 e17
    have o2 := gr_ob (gr_of_new e17 e15) o2
    have o6 := gr_ob (gr_of_new e17 e15) o6
    obtain ⟨c22, h⟩ := h
    refine ⟨c22, ?_⟩
    obtain ⟨c23, h⟩ := h
    refine ⟨c23, ?_⟩
    refine cm_X6_init (ku_X6_init h K.1) h (fun x24 p26 h g25 => ?_)
    have h := h g25
    have K := ku_tr K p26.2
    have o2 := gr_ob p26.2.2.1 o2
    have o6 := gr_ob p26.2.2.1 o6
    have f20 := p26.2.2.2 _ l21 f20
    have l21 := (p26.2.2.1 _ l21).1
    obtain ⟨c27, h⟩ := h
    refine ⟨c27, ?_⟩
    have o28 := c27
    obtain ⟨c29, h⟩ := h
    refine ⟨c29, ?_⟩
    intro x31 e30
    have h := h x31 e30
    have K := ku_R K e30 f20 l21 n19
    have o2 := ob_wR o2 e30
    have o6 := ob_wR o6 e30
    have o28 := ob_wR o28 e30
    intro x33 e32
    have h := h x33 e32
    exact hX115 _ _ _ _ _ h K
theorem ku_X8_init_115 {Q : HS → Prop} {v0 : Nat} {v1 : Int32} {kk : Nat} {nn : Nat} {S0 S : HS} (h : P_X8_init_115 Q v0 v1 kk nn S) (K : KU S0 S) : P_X8_init_115 (fun T => Q T ∧ KU S0 T) v0 v1 kk nn S := h (fun v0 v1 kk nn S => KU S0 S → P_X8_init_115 (fun T => Q T ∧ KU S0 T) v0 v1 kk nn S) (fun v0 v1 kk nn S hB K => fd_X8_init_115 (kuB_X8_init_115 hB K (fun _ _ _ _ _ hx K => hx K))) K
set_option maxRecDepth 20000 in
set_option maxHeartbeats 1000000 in
theorem kuB_X8_init_85 {Q : HS → Prop} {X85 X85_2 : Nat → Int32 → Nat → Nat → HS → Prop} {v0 : Nat} {v1 : Int32} {kk : Nat} {nn : Nat} {S0 S : HS} (h : B_X8_init_85 Q X85 v0 v1 kk nn S) (K : KU S0 S) (hX85 : ∀ (u0 : Nat) (u1 : Int32) (u2 : Nat) (u3 : Nat) (u4 : HS), X85 u0 u1 u2 u3 u4 → KU S0 u4 → X85_2 u0 u1 u2 u3 u4) : B_X8_init_85 (fun T => Q T ∧ KU S0 T) X85_2 v0 v1 kk nn S := by
  delta B_X8_init_85 at h ⊢
  obtain ⟨c1, h⟩ := h
  refine ⟨c1, ?_⟩
  have o2 := c1
  obtain ⟨b3, e4, h⟩ := h
  refine ⟨b3, e4, ?_⟩
  obtain ⟨c5, h⟩ := h
  refine ⟨c5, ?_⟩
  have o6 := c5
  refine ⟨?_, ?_⟩
  · intro c7
    have h := h.1 c7
    exact ku_X8_init_115 h K
  · intro c8
    have h := h.2 c8
    obtain ⟨b9, e10, h⟩ := h
    refine ⟨b9, e10, ?_⟩
    obtain ⟨c11, h⟩ := h
    refine ⟨c11, ?_⟩
    obtain ⟨c12, h⟩ := h
    refine ⟨c12, ?_⟩
    intro x14 e13
    have h := h x14 e13
    intro x16 e15
    have h := h x16 e15
    have n17 := ku_nf K e13
    have f18 := ku_ff K e13 e15
    have l19 := ku_fl e15
    have K := ku_W K e13 e15
    have o2 := gr_ob (gr_of_new e15 e13) o2
    have o6 := gr_ob (gr_of_new e15 e13) o6
    obtain ⟨c20, h⟩ := h
    refine ⟨c20, ?_⟩
    obtain ⟨c21, h⟩ := h
    refine ⟨c21, ?_⟩
    refine cm_X5_init (ku_X5_init h K.1) h (fun x22 p24 h g23 => ?_)
    have h := h g23
    have K := ku_tr K p24.2
    have o2 := gr_ob p24.2.2.1 o2
    have o6 := gr_ob p24.2.2.1 o6
    have f18 := p24.2.2.2 _ l19 f18
    have l19 := (p24.2.2.1 _ l19).1
    obtain ⟨c25, h⟩ := h
    refine ⟨c25, ?_⟩
    have o26 := c25
    obtain ⟨c27, h⟩ := h
    refine ⟨c27, ?_⟩
    intro x29 e28
    have h := h x29 e28
    have K := ku_R K e28 f18 l19 n17
    have o2 := ob_wR o2 e28
    have o6 := ob_wR o6 e28
    have o26 := ob_wR o26 e28
    intro x31 e30
    have h := h x31 e30
    exact hX85 _ _ _ _ _ h K
theorem ku_X8_init_85 {Q : HS → Prop} {v0 : Nat} {v1 : Int32} {kk : Nat} {nn : Nat} {S0 S : HS} (h : P_X8_init_85 Q v0 v1 kk nn S) (K : KU S0 S) : P_X8_init_85 (fun T => Q T ∧ KU S0 T) v0 v1 kk nn S := h (fun v0 v1 kk nn S => KU S0 S → P_X8_init_85 (fun T => Q T ∧ KU S0 T) v0 v1 kk nn S) (fun v0 v1 kk nn S hB K => fd_X8_init_85 (kuB_X8_init_85 hB K (fun _ _ _ _ _ hx K => hx K))) K
set_option maxRecDepth 20000 in
set_option maxHeartbeats 1000000 in
theorem kuB_X8_init_55 {Q : HS → Prop} {X55 X55_2 : Nat → Int32 → Nat → Nat → HS → Prop} {v0 : Nat} {v1 : Int32} {kk : Nat} {nn : Nat} {S0 S : HS} (h : B_X8_init_55 Q X55 v0 v1 kk nn S) (K : KU S0 S) (hX55 : ∀ (u0 : Nat) (u1 : Int32) (u2 : Nat) (u3 : Nat) (u4 : HS), X55 u0 u1 u2 u3 u4 → KU S0 u4 → X55_2 u0 u1 u2 u3 u4) : B_X8_init_55 (fun T => Q T ∧ KU S0 T) X55_2 v0 v1 kk nn S := by
  delta B_X8_init_55 at h ⊢
  obtain ⟨c1, h⟩ := h
  refine ⟨c1, ?_⟩
  have o2 := c1
  obtain ⟨b3, e4, h⟩ := h
  refine ⟨b3, e4, ?_⟩
  obtain ⟨c5, h⟩ := h
  refine ⟨c5, ?_⟩
  have o6 := c5
  refine ⟨?_, ?_⟩
  · intro c7
    have h := h.1 c7
    exact ku_X8_init_85 h K
  · intro c8
    have h := h.2 c8
    obtain ⟨b9, e10, h⟩ := h
    refine ⟨b9, e10, ?_⟩
    obtain ⟨c11, h⟩ := h
    refine ⟨c11, ?_⟩
    obtain ⟨c12, h⟩ := h
    refine ⟨c12, ?_⟩
    intro x14 e13
    have h := h x14 e13
    intro x16 e15
    have h := h x16 e15
    have n17 := ku_nf K e13
    have f18 := ku_ff K e13 e15
    have l19 := ku_fl e15
    have K := ku_W K e13 e15
    have o2 := gr_ob (gr_of_new e15 e13) o2
    have o6 := gr_ob (gr_of_new e15 e13) o6
    obtain ⟨c20, h⟩ := h
    refine ⟨c20, ?_⟩
    obtain ⟨c21, h⟩ := h
    refine ⟨c21, ?_⟩
    refine cm_X3_init (ku_X3_init h K.1) h (fun x22 p24 h g23 => ?_)
    have h := h g23
    have K := ku_tr K p24.2
    have o2 := gr_ob p24.2.2.1 o2
    have o6 := gr_ob p24.2.2.1 o6
    have f18 := p24.2.2.2 _ l19 f18
    have l19 := (p24.2.2.1 _ l19).1
    obtain ⟨c25, h⟩ := h
    refine ⟨c25, ?_⟩
    have o26 := c25
    obtain ⟨c27, h⟩ := h
    refine ⟨c27, ?_⟩
    intro x29 e28
    have h := h x29 e28
    have K := ku_R K e28 f18 l19 n17
    have o2 := ob_wR o2 e28
    have o6 := ob_wR o6 e28
    have o26 := ob_wR o26 e28
    intro x31 e30
    have h := h x31 e30
    exact hX55 _ _ _ _ _ h K
theorem ku_X8_init_55 {Q : HS → Prop} {v0 : Nat} {v1 : Int32} {kk : Nat} {nn : Nat} {S0 S : HS} (h : P_X8_init_55 Q v0 v1 kk nn S) (K : KU S0 S) : P_X8_init_55 (fun T => Q T ∧ KU S0 T) v0 v1 kk nn S := h (fun v0 v1 kk nn S => KU S0 S → P_X8_init_55 (fun T => Q T ∧ KU S0 T) v0 v1 kk nn S) (fun v0 v1 kk nn S hB K => fd_X8_init_55 (kuB_X8_init_55 hB K (fun _ _ _ _ _ hx K => hx K))) K
set_option maxRecDepth 20000 in
set_option maxHeartbeats 1000000 in
theorem ku_X8_init_0 {Q : HS → Prop} {v0 : Nat} {kk : Nat} {nn : Nat} {S0 S : HS} (h : P_X8_init_0 Q v0 kk nn S) (K : KU S0 S) : P_X8_init_0 (fun T => Q T ∧ KU S0 T) v0 kk nn S := by
  delta P_X8_init_0 at h ⊢
  obtain ⟨c1, h⟩ := h
  refine ⟨c1, ?_⟩
  obtain ⟨c2, h⟩ := h
  refine ⟨c2, ?_⟩
  intro x4 e3
  have h := h x4 e3
  intro x6 e5
  have h := h x6 e5
  have n7 := ku_nf K e3
  have f8 := ku_ff K e3 e5
  have l9 := ku_fl e5
  have K := ku_W K e3 e5
  obtain ⟨c10, h⟩ := h
  refine ⟨c10, ?_⟩
  have o11 := c10
  intro x13 e12
  have h := h x13 e12
  have K := ku_R K e12 f8 l9 n7
  have o11 := ob_wR o11 e12
  obtain ⟨c14, h⟩ := h
  refine ⟨c14, ?_⟩
  obtain ⟨c15, h⟩ := h
  refine ⟨c15, ?_⟩
  intro x17 e16
  have h := h x17 e16
  intro x19 e18
  have h := h x19 e18
  have n20 := ku_nf K e16
  have f21 := ku_ff K e16 e18
  have l22 := ku_fl e18
  have K := ku_W K e16 e18
  have o11 := gr_ob (gr_of_new e18 e16) o11
  intro x24 e23
  have h := h x24 e23
  have K := ku_R K e23 f21 l22 n20
  have o11 := ob_wR o11 e23
  obtain ⟨c25, h⟩ := h
  refine ⟨c25, ?_⟩
  obtain ⟨c26, h⟩ := h
  refine ⟨c26, ?_⟩
  intro x28 e27
  have h := h x28 e27
  intro x30 e29
  have h := h x30 e29
  have n31 := ku_nf K e27
  have f32 := ku_ff K e27 e29
  have l33 := ku_fl e29
  have K := ku_W K e27 e29
  have o11 := gr_ob (gr_of_new e29 e27) o11
  intro x35 e34
  have h := h x35 e34
  have K := ku_R K e34 f32 l33 n31
  have o11 := ob_wR o11 e34
  obtain ⟨c36, h⟩ := h
  refine ⟨c36, ?_⟩
  obtain ⟨c37, h⟩ := h
  refine ⟨c37, ?_⟩
  intro x39 e38
  have h := h x39 e38
  intro x41 e40
  have h := h x41 e40
  have n42 := ku_nf K e38
  have f43 := ku_ff K e38 e40
  have l44 := ku_fl e40
  have K := ku_W K e38 e40
  have o11 := gr_ob (gr_of_new e40 e38) o11
  intro x46 e45
  have h := h x46 e45
  have K := ku_R K e45 f43 l44 n42
  have o11 := ob_wR o11 e45
  obtain ⟨c47, h⟩ := h
  refine ⟨c47, ?_⟩
  obtain ⟨c48, h⟩ := h
  refine ⟨c48, ?_⟩
  intro x50 e49
  have h := h x50 e49
  intro x52 e51
  have h := h x52 e51
  have n53 := ku_nf K e49
  have f54 := ku_ff K e49 e51
  have l55 := ku_fl e51
  have K := ku_W K e49 e51
  have o11 := gr_ob (gr_of_new e51 e49) o11
  intro x57 e56
  have h := h x57 e56
  have K := ku_R K e56 f54 l55 n53
  have o11 := ob_wR o11 e56
  obtain ⟨c58, h⟩ := h
  refine ⟨c58, ?_⟩
  obtain ⟨c59, h⟩ := h
  refine ⟨c59, ?_⟩
  intro x61 e60
  have h := h x61 e60
  intro x63 e62
  have h := h x63 e62
  have n64 := ku_nf K e60
  have f65 := ku_ff K e60 e62
  have l66 := ku_fl e62
  have K := ku_W K e60 e62
  have o11 := gr_ob (gr_of_new e62 e60) o11
  intro x68 e67
  have h := h x68 e67
  have K := ku_R K e67 f65 l66 n64
  have o11 := ob_wR o11 e67
  exact ku_X8_init_55 h K
theorem ku_X8_init {Q : HS → Prop} {v0 : Nat} {S : HS} (h : P_X8_init v0 Q S) (u : UZ S) : P_X8_init v0 (fun T => Q T ∧ KU S T) S := ku_X8_init_0 h (ku_rf u)
set_option maxRecDepth 20000 in
set_option maxHeartbeats 1000000 in
theorem ku_X4_init_0 {Q : HS → Prop} {v0 : Nat} {S0 S : HS} (h : P_X4_init_0 Q v0 S) (K : KU S0 S) : P_X4_init_0 (fun T => Q T ∧ KU S0 T) v0 S := by
  delta P_X4_init_0 at h ⊢
  intro x2 e1
  have h := h x2 e1
  intro x4 e3
  have h := h x4 e3
  have n5 := ku_nf K e1
  have f6 := ku_ff K e1 e3
  have l7 := ku_fl e3
  have K := ku_W K e1 e3
  obtain ⟨c8, h⟩ := h
  refine ⟨c8, ?_⟩
  have o9 := c8
  intro x11 e10
  have h := h x11 e10
  have K := ku_R K e10 f6 l7 n5
  have o9 := ob_wR o9 e10
  intro x13 e12
  have h := h x13 e12
  intro x15 e14
  have h := h x15 e14
  have n16 := ku_nf K e12
  have f17 := ku_ff K e12 e14
  have l18 := ku_fl e14
  have K := ku_W K e12 e14
  have o9 := gr_ob (gr_of_new e14 e12) o9
  refine cm_X8_init (ku_X8_init h K.1) h (fun x19 p21 h g20 => ?_)
  have h := h g20
  have K := ku_tr K p21.2
  have o9 := gr_ob p21.2.2.1 o9
  have f17 := p21.2.2.2 _ l18 f17
  have l18 := (p21.2.2.1 _ l18).1
  intro x23 e22
  have h := h x23 e22
  have K := ku_R K e22 f17 l18 n16
  have o9 := ob_wR o9 e22
  intro x25 e24
  have h := h x25 e24
  intro x27 e26
  have h := h x27 e26
  have n28 := ku_nf K e24
  have f29 := ku_ff K e24 e26
  have l30 := ku_fl e26
  have K := ku_W K e24 e26
  have o9 := gr_ob (gr_of_new e26 e24) o9
  intro x32 e31
  have h := h x32 e31
  have K := ku_R K e31 f29 l30 n28
  have o9 := ob_wR o9 e31
  intro x34 e33
  have h := h x34 e33
  intro x36 e35
  have h := h x36 e35
  have n37 := ku_nf K e33
  have f38 := ku_ff K e33 e35
  have l39 := ku_fl e35
  have K := ku_W K e33 e35
  have o9 := gr_ob (gr_of_new e35 e33) o9
  intro x41 e40
  have h := h x41 e40
  have K := ku_R K e40 f38 l39 n37
  have o9 := ob_wR o9 e40
  exact ⟨h, K⟩
theorem ku_X4_init {Q : HS → Prop} {v0 : Nat} {S : HS} (h : P_X4_init v0 Q S) (u : UZ S) : P_X4_init v0 (fun T => Q T ∧ KU S T) S := ku_X4_init_0 h (ku_rf u)
set_option maxRecDepth 20000 in
set_option maxHeartbeats 1000000 in
theorem ku_X7_forget_0 {Q : HS → Prop} {v0 : Nat} {S0 S : HS} (h : P_X7_forget_0 Q v0 S) (K : KU S0 S) : P_X7_forget_0 (fun T => Q T ∧ KU S0 T) v0 S := by
  delta P_X7_forget_0 at h ⊢
  obtain ⟨c1, h⟩ := h
  refine ⟨c1, ?_⟩
  have o2 := c1
  intro x4 e3
  have h := h x4 e3
  have K := ku_I K e3 o2 (by decide)
  have o2 := ob_wI o2 e3
  exact ⟨h, K⟩
theorem ku_X7_forget {Q : HS → Prop} {v0 : Nat} {S : HS} (h : P_X7_forget v0 Q S) (u : UZ S) : P_X7_forget v0 (fun T => Q T ∧ KU S T) S := ku_X7_forget_0 h (ku_rf u)
set_option maxRecDepth 20000 in
set_option maxHeartbeats 1000000 in
theorem ku_X7_init_0 {Q : HS → Prop} {v0 : Nat} {S0 S : HS} (h : P_X7_init_0 Q v0 S) (K : KU S0 S) : P_X7_init_0 (fun T => Q T ∧ KU S0 T) v0 S := by
  delta P_X7_init_0 at h ⊢
  intro x2 e1
  have h := h x2 e1
  intro x4 e3
  have h := h x4 e3
  have n5 := ku_nf K e1
  have f6 := ku_ff K e1 e3
  have l7 := ku_fl e3
  have K := ku_W K e1 e3
  obtain ⟨c8, h⟩ := h
  refine ⟨c8, ?_⟩
  have o9 := c8
  intro x11 e10
  have h := h x11 e10
  have K := ku_R K e10 f6 l7 n5
  have o9 := ob_wR o9 e10
  intro x13 e12
  have h := h x13 e12
  intro x15 e14
  have h := h x15 e14
  have n16 := ku_nf K e12
  have f17 := ku_ff K e12 e14
  have l18 := ku_fl e14
  have K := ku_W K e12 e14
  have o9 := gr_ob (gr_of_new e14 e12) o9
  intro x20 e19
  have h := h x20 e19
  have K := ku_R K e19 f17 l18 n16
  have o9 := ob_wR o9 e19
  intro x22 e21
  have h := h x22 e21
  intro x24 e23
  have h := h x24 e23
  have n25 := ku_nf K e21
  have f26 := ku_ff K e21 e23
  have l27 := ku_fl e23
  have K := ku_W K e21 e23
  have o9 := gr_ob (gr_of_new e23 e21) o9
  intro x29 e28
  have h := h x29 e28
  have K := ku_R K e28 f26 l27 n25
  have o9 := ob_wR o9 e28
  intro x31 e30
  have h := h x31 e30
  intro x33 e32
  have h := h x33 e32
  have n34 := ku_nf K e30
  have f35 := ku_ff K e30 e32
  have l36 := ku_fl e32
  have K := ku_W K e30 e32
  have o9 := gr_ob (gr_of_new e32 e30) o9
  intro x38 e37
  have h := h x38 e37
  have K := ku_R K e37 f35 l36 n34
  have o9 := ob_wR o9 e37
  intro x40 e39
  have h := h x40 e39
  intro x42 e41
  have h := h x42 e41
  have n43 := ku_nf K e39
  have f44 := ku_ff K e39 e41
  have l45 := ku_fl e41
  have K := ku_W K e39 e41
  have o9 := gr_ob (gr_of_new e41 e39) o9
  intro x47 e46
  have h := h x47 e46
  have K := ku_R K e46 f44 l45 n43
  have o9 := ob_wR o9 e46
  intro x49 e48
  have h := h x49 e48
  intro x51 e50
  have h := h x51 e50
  have n52 := ku_nf K e48
  have f53 := ku_ff K e48 e50
  have l54 := ku_fl e50
  have K := ku_W K e48 e50
  have o9 := gr_ob (gr_of_new e50 e48) o9
  intro x56 e55
  have h := h x56 e55
  have K := ku_R K e55 f53 l54 n52
  have o9 := ob_wR o9 e55
  intro x58 e57
  have h := h x58 e57
  intro x60 e59
  have h := h x60 e59
  have n61 := ku_nf K e57
  have f62 := ku_ff K e57 e59
  have l63 := ku_fl e59
  have K := ku_W K e57 e59
  have o9 := gr_ob (gr_of_new e59 e57) o9
  intro x65 e64
  have h := h x65 e64
  have K := ku_R K e64 f62 l63 n61
  have o9 := ob_wR o9 e64
  intro x67 e66
  have h := h x67 e66
  intro x69 e68
  have h := h x69 e68
  have n70 := ku_nf K e66
  have f71 := ku_ff K e66 e68
  have l72 := ku_fl e68
  have K := ku_W K e66 e68
  have o9 := gr_ob (gr_of_new e68 e66) o9
  intro x74 e73
  have h := h x74 e73
  have K := ku_R K e73 f71 l72 n70
  have o9 := ob_wR o9 e73
  intro x76 e75
  have h := h x76 e75
  have K := ku_I K e75 o9 (by decide)
  have o9 := ob_wI o9 e75
  intro x78 e77
  have h := h x78 e77
  have K := ku_I K e77 o9 (by decide)
  have o9 := ob_wI o9 e77
  intro x80 e79
  have h := h x80 e79
  have K := ku_I K e79 o9 (by decide)
  have o9 := ob_wI o9 e79
  intro x82 e81
  have h := h x82 e81
  have K := ku_I K e81 o9 (by decide)
  have o9 := ob_wI o9 e81
  exact ⟨h, K⟩
theorem ku_X7_init {Q : HS → Prop} {v0 : Nat} {S : HS} (h : P_X7_init v0 Q S) (u : UZ S) : P_X7_init v0 (fun T => Q T ∧ KU S T) S := ku_X7_init_0 h (ku_rf u)
set_option maxRecDepth 20000 in
set_option maxHeartbeats 1000000 in
theorem ku_X7_makeRows_0 {Q : HS → Prop} {v0 : Nat} {S0 S : HS} (h : P_X7_makeRows_0 Q v0 S) (K : KU S0 S) : P_X7_makeRows_0 (fun T => Q T ∧ KU S0 T) v0 S := by
  delta P_X7_makeRows_0 at h ⊢
  intro x2 e1
  have h := h x2 e1
  intro x4 e3
  have h := h x4 e3
  have n5 := ku_nf K e1
  have f6 := ku_ff K e1 e3
  have l7 := ku_fl e3
  have K := ku_W K e1 e3
  obtain ⟨c8, h⟩ := h
  refine ⟨c8, ?_⟩
  have o9 := c8
  intro x11 e10
  have h := h x11 e10
  have K := ku_R K e10 f6 l7 n5
  have o9 := ob_wR o9 e10
  intro x13 e12
  have h := h x13 e12
  intro x15 e14
  have h := h x15 e14
  have n16 := ku_nf K e12
  have f17 := ku_ff K e12 e14
  have l18 := ku_fl e14
  have K := ku_W K e12 e14
  have o9 := gr_ob (gr_of_new e14 e12) o9
  intro x20 e19
  have h := h x20 e19
  have K := ku_R K e19 f17 l18 n16
  have o9 := ob_wR o9 e19
  intro x22 e21
  have h := h x22 e21
  intro x24 e23
  have h := h x24 e23
  have n25 := ku_nf K e21
  have f26 := ku_ff K e21 e23
  have l27 := ku_fl e23
  have K := ku_W K e21 e23
  have o9 := gr_ob (gr_of_new e23 e21) o9
  intro x29 e28
  have h := h x29 e28
  have K := ku_R K e28 f26 l27 n25
  have o9 := ob_wR o9 e28
  intro x31 e30
  have h := h x31 e30
  intro x33 e32
  have h := h x33 e32
  have n34 := ku_nf K e30
  have f35 := ku_ff K e30 e32
  have l36 := ku_fl e32
  have K := ku_W K e30 e32
  have o9 := gr_ob (gr_of_new e32 e30) o9
  intro x38 e37
  have h := h x38 e37
  have K := ku_R K e37 f35 l36 n34
  have o9 := ob_wR o9 e37
  intro x40 e39
  have h := h x40 e39
  intro x42 e41
  have h := h x42 e41
  have n43 := ku_nf K e39
  have f44 := ku_ff K e39 e41
  have l45 := ku_fl e41
  have K := ku_W K e39 e41
  have o9 := gr_ob (gr_of_new e41 e39) o9
  intro x47 e46
  have h := h x47 e46
  have K := ku_R K e46 f44 l45 n43
  have o9 := ob_wR o9 e46
  intro x49 e48
  have h := h x49 e48
  intro x51 e50
  have h := h x51 e50
  have n52 := ku_nf K e48
  have f53 := ku_ff K e48 e50
  have l54 := ku_fl e50
  have K := ku_W K e48 e50
  have o9 := gr_ob (gr_of_new e50 e48) o9
  intro x56 e55
  have h := h x56 e55
  have K := ku_R K e55 f53 l54 n52
  have o9 := ob_wR o9 e55
  intro x58 e57
  have h := h x58 e57
  intro x60 e59
  have h := h x60 e59
  have n61 := ku_nf K e57
  have f62 := ku_ff K e57 e59
  have l63 := ku_fl e59
  have K := ku_W K e57 e59
  have o9 := gr_ob (gr_of_new e59 e57) o9
  intro x65 e64
  have h := h x65 e64
  have K := ku_R K e64 f62 l63 n61
  have o9 := ob_wR o9 e64
  intro x67 e66
  have h := h x67 e66
  intro x69 e68
  have h := h x69 e68
  have n70 := ku_nf K e66
  have f71 := ku_ff K e66 e68
  have l72 := ku_fl e68
  have K := ku_W K e66 e68
  have o9 := gr_ob (gr_of_new e68 e66) o9
  intro x74 e73
  have h := h x74 e73
  have K := ku_R K e73 f71 l72 n70
  have o9 := ob_wR o9 e73
  exact ⟨h, K⟩
theorem ku_X7_makeRows {Q : HS → Prop} {v0 : Nat} {S : HS} (h : P_X7_makeRows v0 Q S) (u : UZ S) : P_X7_makeRows v0 (fun T => Q T ∧ KU S T) S := ku_X7_makeRows_0 h (ku_rf u)
set_option maxRecDepth 20000 in
set_option maxHeartbeats 1000000 in
theorem ku_X9_init_0 {Q : HS → Prop} {v0 : Nat} {S0 S : HS} (h : P_X9_init_0 Q v0 S) (K : KU S0 S) : P_X9_init_0 (fun T => Q T ∧ KU S0 T) v0 S := by
  delta P_X9_init_0 at h ⊢
  intro x2 e1
  have h := h x2 e1
  intro x4 e3
  have h := h x4 e3
  have n5 := ku_nf K e1
  have f6 := ku_ff K e1 e3
  have l7 := ku_fl e3
  have K := ku_W K e1 e3
  obtain ⟨c8, h⟩ := h
  refine ⟨c8, ?_⟩
  have o9 := c8
  intro x11 e10
  have h := h x11 e10
  have K := ku_R K e10 f6 l7 n5
  have o9 := ob_wR o9 e10
  intro x13 e12
  have h := h x13 e12
  intro x15 e14
  have h := h x15 e14
  have n16 := ku_nf K e12
  have f17 := ku_ff K e12 e14
  have l18 := ku_fl e14
  have K := ku_W K e12 e14
  have o9 := gr_ob (gr_of_new e14 e12) o9
  refine cm_X8_init (ku_X8_init h K.1) h (fun x19 p21 h g20 => ?_)
  have h := h g20
  have K := ku_tr K p21.2
  have o9 := gr_ob p21.2.2.1 o9
  have f17 := p21.2.2.2 _ l18 f17
  have l18 := (p21.2.2.1 _ l18).1
  intro x23 e22
  have h := h x23 e22
  have K := ku_R K e22 f17 l18 n16
  have o9 := ob_wR o9 e22
  intro x25 e24
  have h := h x25 e24
  intro x27 e26
  have h := h x27 e26
  have n28 := ku_nf K e24
  have f29 := ku_ff K e24 e26
  have l30 := ku_fl e26
  have K := ku_W K e24 e26
  have o9 := gr_ob (gr_of_new e26 e24) o9
  refine cm_X4_init (ku_X4_init h K.1) h (fun x31 p33 h g32 => ?_)
  have h := h g32
  have K := ku_tr K p33.2
  have o9 := gr_ob p33.2.2.1 o9
  have f29 := p33.2.2.2 _ l30 f29
  have l30 := (p33.2.2.1 _ l30).1
  intro x35 e34
  have h := h x35 e34
  have K := ku_R K e34 f29 l30 n28
  have o9 := ob_wR o9 e34
  intro x37 e36
  have h := h x37 e36
  intro x39 e38
  have h := h x39 e38
  have n40 := ku_nf K e36
  have f41 := ku_ff K e36 e38
  have l42 := ku_fl e38
  have K := ku_W K e36 e38
  have o9 := gr_ob (gr_of_new e38 e36) o9
  refine cm_X1_init (ku_X1_init h K.1) h (fun x43 p45 h g44 => ?_)
  have h := h g44
  have K := ku_tr K p45.2
  have o9 := gr_ob p45.2.2.1 o9
  have f41 := p45.2.2.2 _ l42 f41
  have l42 := (p45.2.2.1 _ l42).1
  intro x47 e46
  have h := h x47 e46
  have K := ku_R K e46 f41 l42 n40
  have o9 := ob_wR o9 e46
  intro x49 e48
  have h := h x49 e48
  intro x51 e50
  have h := h x51 e50
  have n52 := ku_nf K e48
  have f53 := ku_ff K e48 e50
  have l54 := ku_fl e50
  have K := ku_W K e48 e50
  have o9 := gr_ob (gr_of_new e50 e48) o9
  refine cm_X7_init (ku_X7_init h K.1) h (fun x55 p57 h g56 => ?_)
  have h := h g56
  have K := ku_tr K p57.2
  have o9 := gr_ob p57.2.2.1 o9
  have f53 := p57.2.2.2 _ l54 f53
  have l54 := (p57.2.2.1 _ l54).1
  intro x59 e58
  have h := h x59 e58
  have K := ku_R K e58 f53 l54 n52
  have o9 := ob_wR o9 e58
  intro x61 e60
  have h := h x61 e60
  intro x63 e62
  have h := h x63 e62
  have n64 := ku_nf K e60
  have f65 := ku_ff K e60 e62
  have l66 := ku_fl e62
  have K := ku_W K e60 e62
  have o9 := gr_ob (gr_of_new e62 e60) o9
  refine cm_X0_init (ku_X0_init h K.1) h (fun x67 p69 h g68 => ?_)
  have h := h g68
  have K := ku_tr K p69.2
  have o9 := gr_ob p69.2.2.1 o9
  have f65 := p69.2.2.2 _ l66 f65
  have l66 := (p69.2.2.1 _ l66).1
  intro x71 e70
  have h := h x71 e70
  have K := ku_R K e70 f65 l66 n64
  have o9 := ob_wR o9 e70
  exact ⟨h, K⟩
theorem ku_X9_init {Q : HS → Prop} {v0 : Nat} {S : HS} (h : P_X9_init v0 Q S) (u : UZ S) : P_X9_init v0 (fun T => Q T ∧ KU S T) S := ku_X9_init_0 h (ku_rf u)
