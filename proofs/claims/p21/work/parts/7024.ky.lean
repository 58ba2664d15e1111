section
/-! which rows of longs a run leaves as they were: those that no joint in L holds; and the rows of Moments, unless b is false -/
abbrev nyT : List (Nat × Nat) := [(1, 0), (1, 1), (2, 2), (4, 11), (7, 1), (7, 7), (10, 28), (11, 16), (11, 21), (11, 22), (11, 23)]
def NW9 (L : List (Nat × Nat)) (S : HS) (a : Nat) : Prop := ∀ q ∈ L, ∀ x, ob S x q.1 → fR S x q.2 ≠ some a
def PR9 (L : List (Nat × Nat)) (S : HS) (a : Nat) : Prop := ob S a 14 ∧ NW9 L S a
def K9 (b : Bool) (L : List (Nat × Nat)) (S T : HS) : Prop := Gr S T ∧ (b = true → ∀ a, ob S a 16 → fR T a = fR S a) ∧ ∀ a, PR9 L S a → fJ T a = fJ S a ∧ NW9 L T a
def KN9 (L : List (Nat × Nat)) (S : HS) (x : Nat) : Prop := ∀ a, PR9 L S a → a ≠ x
section K9s
variable {b : Bool} {L : List (Nat × Nat)} {S T U : HS} {a k j x y : Nat}
theorem ny_k (hU : ∀ q ∈ L, q ∈ nyT) {q : Nat × Nat} (h : q ∈ L) : q.1 < 12 := by
  have h := hU q h
  simp only [List.mem_cons, List.not_mem_nil, or_false] at h
  rcases h with rfl | rfl | rfl | rfl | rfl | rfl | rfl | rfl | rfl | rfl | rfl <;> decide
theorem k9_rf (b : Bool) (L : List (Nat × Nat)) (S : HS) : K9 b L S S := ⟨gr_rf S, fun _ _ _ => rfl, fun _ h => ⟨rfl, h.2⟩⟩
theorem k9_tr (h : K9 b L S T) (g : K9 b L T U) : K9 b L S U := ⟨gr_tr h.1 g.1, fun z a o => (g.2.1 z a (gr_ob h.1 o)).trans (h.2.1 z a o), fun a p => by
  have q := h.2.2 a p
  have r := g.2.2 a ⟨gr_ob h.1 p.1, q.2⟩
  exact ⟨r.1.trans q.1, r.2⟩⟩
theorem k9_I {v : Int32} (h : K9 b L S T) (e : U = sI T x j v) : K9 b L S U := by
  rw [e]
  exact h
theorem k9_J {v : Int64} (h : K9 b L S T) (e : U = sJ T x j v) (hx : KN9 L S x) : K9 b L S U := by
  rw [e]
  exact ⟨h.1, h.2.1, fun a p => ⟨(u2_row _ _ (hx a p)).trans (h.2.2 a p).1, (h.2.2 a p).2⟩⟩
theorem k9_rr {v : Option Nat} (e : U = sR T x j v) : (∀ y i, ¬ (y = x ∧ i = j) → fR U y i = fR T y i) ∧ fJ U = fJ T := by
  rw [e]
  exact ⟨fun y i hy => u2_ne _ _ hy, rfl⟩
theorem k9_16 {v : Option Nat} (h : K9 b L S T) (e : U = sR T x j v) (o : ob T x k) (hk : k ≠ 16) : b = true → ∀ a, ob S a 16 → fR U a = fR S a := fun z a oa => by
  have hne : a ≠ x := fun z => hk (ob_inj o (z ▸ gr_ob h.1 oa))
  exact (funext fun i => (k9_rr e).1 a i (fun z => hne z.1)).trans (h.2.1 z a oa)
theorem k9_R {v : Option Nat} (h : K9 b L S T) (hU : ∀ q ∈ L, q ∈ nyT) (e : U = sR T x j v) (o : ob T x k) (hn : (k, j) ∉ nyT) (hk : k ≠ 16) : K9 b L S U := by
  refine ⟨by rw [e]; exact h.1, k9_16 h e o hk, fun a p => ⟨by rw [(k9_rr e).2]; exact (h.2.2 a p).1, fun q hq y oy z => ?_⟩⟩
  have oy : ob T y q.1 := by rw [e] at oy; exact oy
  by_cases c : y = x ∧ q.2 = j
  · have : q.1 = k := ob_inj oy (c.1 ▸ o)
    exact hn (by rw [← this, ← c.2]; exact hU q hq)
  · rw [(k9_rr e).1 y q.2 c] at z
    exact (h.2.2 a p).2 q hq y oy z
theorem k9_A {v : Option Nat} (h : K9 b L S T) (hU : ∀ q ∈ L, q ∈ nyT) (e : U = sR T x j v) (o : ob T x k) (hk : 12 ≤ k) : ∀ a, PR9 L S a → fJ U a = fJ S a ∧ NW9 L U a := fun a p => ⟨by rw [(k9_rr e).2]; exact (h.2.2 a p).1, fun q hq y oy z => by
  have oy : ob T y q.1 := by rw [e] at oy; exact oy
  by_cases c : y = x ∧ q.2 = j
  · have e1 : q.1 = k := ob_inj oy (c.1 ▸ o)
    have := ny_k hU hq
    omega
  · rw [(k9_rr e).1 y q.2 c] at z
    exact (h.2.2 a p).2 q hq y oy z⟩
theorem k9_RA {v : Option Nat} (h : K9 b L S T) (hU : ∀ q ∈ L, q ∈ nyT) (e : U = sR T x j v) (o : ob T x k) (hk : 12 ≤ k ∧ k ≠ 16) : K9 b L S U := ⟨by rw [e]; exact h.1, k9_16 h e o hk.2, k9_A h hU e o hk.1⟩
theorem k9_RB {v : Option Nat} (h : K9 b L S T) (hU : ∀ q ∈ L, q ∈ nyT) (e : U = sR T x j v) (o : ob T x 16) (hb : b = false) : K9 b L S U := ⟨by rw [e]; exact h.1, fun z => absurd (hb.symm.trans z) (by decide), k9_A h hU e o (by decide)⟩
theorem k9_S (h : K9 b L S T) (e : U = sR T x j (some y)) (o : ob T x k) (hy : KN9 L S y) (hk : k ≠ 16) : K9 b L S U := by
  refine ⟨by rw [e]; exact h.1, k9_16 h e o hk, fun a p => ⟨by rw [(k9_rr e).2]; exact (h.2.2 a p).1, fun q hq w ow z => ?_⟩⟩
  have ow : ob T w q.1 := by rw [e] at ow; exact ow
  by_cases c : w = x ∧ q.2 = j
  · rw [c.1, c.2, e] at z
    have z : u2 (fR T) x j (some y) x j = some a := z
    rw [u2_self] at z
    cases z
    exact hy y p rfl
  · rw [(k9_rr e).1 w q.2 c] at z
    exact (h.2.2 a p).2 q hq w ow z
theorem k9_W {n : Nat} (h : K9 b L S T) (ha : x ∉ hL T) (e : U = nW T x k n) : K9 b L S U := by
  have r : ∀ y, y ≠ x → fR U y = fR T y ∧ fJ U y = fJ T y := fun y hy => by rw [e]; exact ⟨va_up_ne _ _ hy, va_up_ne _ _ hy⟩
  have g := gr_of_new e ha
  refine ⟨gr_tr h.1 g, fun z a oa => ?_, fun a p => ?_⟩
  · have : a ≠ x := fun z => ha (z ▸ (gr_ob h.1 oa).1)
    exact (r a this).1.trans (h.2.1 z a oa)
  · have hne : a ≠ x := fun z => ha (z ▸ (gr_ob h.1 p.1).1)
    refine ⟨(r a hne).2.trans (h.2.2 a p).1, fun q hq y oy z => ?_⟩
    by_cases c : y = x
    · rw [c, e] at z
      have z : va_up (fR T) x (fun _ => none) x q.2 = some a := z
      rw [va_up_self] at z
      cases z
    · rw [(r y c).1] at z
      have oy : ob T y q.1 := by
        rw [e] at oy
        obtain ⟨o1, o2⟩ := oy
        refine ⟨?_, ?_⟩
        · have o1 : y ∈ hL T ++ [x] := o1
          rcases List.mem_append.mp o1 with q | q
          · exact q
          · exact absurd (List.mem_singleton.mp q) c
        · have o2 : va_up (hK T) x k y = q.1 := o2
          rw [va_up_ne _ _ c] at o2
          exact o2
      exact (h.2.2 a p).2 q hq y oy z
theorem k9_nf (h : K9 b L S T) (ha : x ∉ hL T) : KN9 L S x := fun a p z => ha (z ▸ (gr_ob h.1 p.1).1)
theorem k9_nk (h : K9 b L S T) (o : ob T x k) (hk : k ≠ 14) : KN9 L S x := fun a p z => hk (ob_inj o (z ▸ gr_ob h.1 p.1))
theorem k9_nr (h : K9 b L S T) (e : fR T x j = some y) (o : ob T x k) (hk : (k, j) ∈ L) : KN9 L S y := fun a p z => (h.2.2 a p).2 (k, j) hk x o (z ▸ e)
end K9s

abbrev kyL_X0_end : List (Nat × Nat) := []
set_option maxRecDepth 20000 in
set_option maxHeartbeats 1000000 in
theorem ky_X0_end_0 {b : Bool} {L : List (Nat × Nat)} (hU : ∀ q ∈ L, q ∈ nyT) (hL : ∀ q ∈ kyL_X0_end, q ∈ L) (hb : False → b = false) {Q : HS → Prop} {v0 : Nat} {S0 S : HS} (h : P_X0_end_0 Q v0 S) (K : K9 b L S0 S) : P_X0_end_0 (fun T => Q T ∧ K9 b L S0 T) v0 S := by
  delta P_X0_end_0 at h ⊢
  obtain ⟨c1, h⟩ := h
  refine ⟨c1, ?_⟩
  intro x3 e2
  have h := h x3 e2
  have K := k9_I K e2
  intro x5 e4
  have h := h x5 e4
  have K := k9_I K e4
  intro x7 e6
  have h := h x7 e6
  have K := k9_I K e6
  exact ⟨h, K⟩
theorem ky_X0_end {b : Bool} {L : List (Nat × Nat)} (hU : ∀ q ∈ L, q ∈ nyT) (hL : ∀ q ∈ kyL_X0_end, q ∈ L) (hb : False → b = false) {Q : HS → Prop} {v0 : Nat} {S : HS} (h : P_X0_end v0 Q S) : P_X0_end v0 (fun T => Q T ∧ K9 b L S T) S := ky_X0_end_0 hU hL hb h (k9_rf b L S)
abbrev kyL_X0_begin : List (Nat × Nat) := [(2, 2)]
set_option maxRecDepth 20000 in
set_option maxHeartbeats 1000000 in
theorem kyB_X0_begin_28 {b : Bool} {L : List (Nat × Nat)} (hU : ∀ q ∈ L, q ∈ nyT) (hL : ∀ q ∈ kyL_X0_begin, q ∈ L) (hb : False → b = false) {Q : HS → Prop} {X28 X28_2 : Nat → Int32 → HS → Prop} {v0 : Nat} {v4 : Int32} {S0 S : HS} (h : B_X0_begin_28 Q X28 v0 v4 S) (K : K9 b L S0 S) (hX28 : ∀ (u0 : Nat) (u1 : Int32) (u2 : HS), X28 u0 u1 u2 → K9 b L S0 u2 → X28_2 u0 u1 u2) : B_X0_begin_28 (fun T => Q T ∧ K9 b L S0 T) X28_2 v0 v4 S := by
  delta B_X0_begin_28 at h ⊢
  refine ⟨?_, ?_⟩
  · intro c1
    have h := h.1 c1
    exact ⟨h, K⟩
  · intro c2
    have h := h.2 c2
    obtain ⟨c3, h⟩ := h
    refine ⟨c3, ?_⟩
    obtain ⟨b4, e5, h⟩ := h
    refine ⟨b4, e5, ?_⟩
    obtain ⟨c6, h⟩ := h
    refine ⟨c6, ?_⟩
    have o7 := c6
    obtain ⟨b8, e9, h⟩ := h
    refine ⟨b8, e9, ?_⟩
    have n10 := k9_nr K e9 o7 (hL _ (by decide))
    obtain ⟨c11, h⟩ := h
    refine ⟨c11, ?_⟩
    obtain ⟨c12, h⟩ := h
    refine ⟨c12, ?_⟩
    intro x14 e13
    have h := h x14 e13
    have K := k9_J K e13 n10
    have o7 := ob_wJ o7 e13
    intro x16 e15
    have h := h x16 e15
    exact hX28 _ _ _ h K
theorem ky_X0_begin_28 {b : Bool} {L : List (Nat × Nat)} (hU : ∀ q ∈ L, q ∈ nyT) (hL : ∀ q ∈ kyL_X0_begin, q ∈ L) (hb : False → b = false) {Q : HS → Prop} {v0 : Nat} {v4 : Int32} {S0 S : HS} (h : P_X0_begin_28 Q v0 v4 S) (K : K9 b L S0 S) : P_X0_begin_28 (fun T => Q T ∧ K9 b L S0 T) v0 v4 S := h (fun v0 v4 S => K9 b L S0 S → P_X0_begin_28 (fun T => Q T ∧ K9 b L S0 T) v0 v4 S) (fun v0 v4 S hB K => fd_X0_begin_28 (kyB_X0_begin_28 hU hL hb hB K (fun _ _ _ hx K => hx K))) K
set_option maxRecDepth 20000 in
set_option maxHeartbeats 1000000 in
theorem ky_X0_begin_0 {b : Bool} {L : List (Nat × Nat)} (hU : ∀ q ∈ L, q ∈ nyT) (hL : ∀ q ∈ kyL_X0_begin, q ∈ L) (hb : False → b = false) {Q : HS → Prop} {v0 : Nat} {v1 : Int32} {v2 : Int32} {v3 : Int32} {S0 S : HS} (h : P_X0_begin_0 Q v0 v1 v2 v3 S) (K : K9 b L S0 S) : P_X0_begin_0 (fun T => Q T ∧ K9 b L S0 T) v0 v1 v2 v3 S := by
  delta P_X0_begin_0 at h ⊢
  obtain ⟨c1, h⟩ := h
  refine ⟨c1, ?_⟩
  refine cm_X0_end (ky_X0_end (b := b) hU (fun q hq => hL q ((by decide : ∀ q ∈ kyL_X0_end, q ∈ kyL_X0_begin) q hq)) (fun z => z.elim) h) h (fun x2 p4 h g3 => ?_)
  have h := h g3
  have K := k9_tr K p4.2
  intro x6 e5
  have h := h x6 e5
  have K := k9_I K e5
  obtain ⟨b7, e8, h⟩ := h
  refine ⟨b7, e8, ?_⟩
  obtain ⟨c9, h⟩ := h
  refine ⟨c9, ?_⟩
  intro x11 e10
  have h := h x11 e10
  have K := k9_I K e10
  obtain ⟨b12, e13, h⟩ := h
  refine ⟨b12, e13, ?_⟩
  obtain ⟨c14, h⟩ := h
  refine ⟨c14, ?_⟩
  intro x16 e15
  have h := h x16 e15
  have K := k9_I K e15
  exact ky_X0_begin_28 hU hL hb h K
theorem ky_X0_begin {b : Bool} {L : List (Nat × Nat)} (hU : ∀ q ∈ L, q ∈ nyT) (hL : ∀ q ∈ kyL_X0_begin, q ∈ L) (hb : False → b = false) {Q : HS → Prop} {v0 : Nat} {v1 : Int32} {v2 : Int32} {v3 : Int32} {S : HS} (h : P_X0_begin v0 v1 v2 v3 Q S) : P_X0_begin v0 v1 v2 v3 (fun T => Q T ∧ K9 b L S T) S := ky_X0_begin_0 hU hL hb h (k9_rf b L S)
abbrev kyL_X0_draw : List (Nat × Nat) := []
set_option maxRecDepth 20000 in
set_option maxHeartbeats 1000000 in
theorem ky_X0_draw_60 {b : Bool} {L : List (Nat × Nat)} (hU : ∀ q ∈ L, q ∈ nyT) (hL : ∀ q ∈ kyL_X0_draw, q ∈ L) (hb : False → b = false) {Q : HS → Prop} {X10 X10_2 : Nat → Nat → Int32 → Int32 → HS → Prop} {v0 : Nat} {v1 : Nat} {v3 : Int32} {v4 : Int32} {S0 S : HS} (h : P_X0_draw_60 Q X10 v0 v1 v3 v4 S) (K : K9 b L S0 S) (hX10 : ∀ (u0 : Nat) (u1 : Nat) (u2 : Int32) (u3 : Int32) (u4 : HS), X10 u0 u1 u2 u3 u4 → K9 b L S0 u4 → X10_2 u0 u1 u2 u3 u4) : P_X0_draw_60 (fun T => Q T ∧ K9 b L S0 T) X10_2 v0 v1 v3 v4 S := by
  delta P_X0_draw_60 at h ⊢
  intro x2 e1
  have h := h x2 e1
  exact hX10 _ _ _ _ _ h K
set_option maxRecDepth 20000 in
set_option maxHeartbeats 1000000 in
theorem kyB_X0_draw_10 {b : Bool} {L : List (Nat × Nat)} (hU : ∀ q ∈ L, q ∈ nyT) (hL : ∀ q ∈ kyL_X0_draw, q ∈ L) (hb : False → b = false) {Q : HS → Prop} {X10 X10_2 : Nat → Nat → Int32 → Int32 → HS → Prop} {v0 : Nat} {v1 : Nat} {v3 : Int32} {v4 : Int32} {S0 S : HS} (h : B_X0_draw_10 Q X10 v0 v1 v3 v4 S) (K : K9 b L S0 S) (hX10 : ∀ (u0 : Nat) (u1 : Nat) (u2 : Int32) (u3 : Int32) (u4 : HS), X10 u0 u1 u2 u3 u4 → K9 b L S0 u4 → X10_2 u0 u1 u2 u3 u4) : B_X0_draw_10 (fun T => Q T ∧ K9 b L S0 T) X10_2 v0 v1 v3 v4 S := by
  delta B_X0_draw_10 at h ⊢
  obtain ⟨c1, h⟩ := h
  refine ⟨c1, ?_⟩
  intro x3 e2
  have h := h x3 e2
  refine ⟨?_, ?_⟩
  · intro c4
    have h := h.1 c4
    exact ⟨h, K⟩
  · intro c5
    have h := h.2 c5
    intro x7 e6
    have h := h x7 e6
    intro x9 e8
    have h := h x9 e8
    obtain ⟨b10, e11, h⟩ := h
    refine ⟨b10, e11, ?_⟩
    obtain ⟨c12, h⟩ := h
    refine ⟨c12, ?_⟩
    obtain ⟨c13, h⟩ := h
    refine ⟨c13, ?_⟩
    obtain ⟨b14, e15, h⟩ := h
    refine ⟨b14, e15, ?_⟩
    obtain ⟨c16, h⟩ := h
    refine ⟨c16, ?_⟩
    intro x18 e17
    have h := h x18 e17
    refine ⟨?_, ?_⟩
    · intro c19
      have h := h.1 c19
      exact ky_X0_draw_60 hU hL hb h K hX10
    · intro c20
      have h := h.2 c20
      obtain ⟨c21, h⟩ := h
      refine ⟨c21, ?_⟩
      intro x23 e22
      have h := h x23 e22
      intro x25 e24
      have h := h x25 e24
      intro x27 e26
      have h := h x27 e26
      have K := k9_I K e26
      exact ky_X0_draw_60 hU hL hb h K hX10
theorem ky_X0_draw_10 {b : Bool} {L : List (Nat × Nat)} (hU : ∀ q ∈ L, q ∈ nyT) (hL : ∀ q ∈ kyL_X0_draw, q ∈ L) (hb : False → b = false) {Q : HS → Prop} {v0 : Nat} {v1 : Nat} {v3 : Int32} {v4 : Int32} {S0 S : HS} (h : P_X0_draw_10 Q v0 v1 v3 v4 S) (K : K9 b L S0 S) : P_X0_draw_10 (fun T => Q T ∧ K9 b L S0 T) v0 v1 v3 v4 S := h (fun v0 v1 v3 v4 S => K9 b L S0 S → P_X0_draw_10 (fun T => Q T ∧ K9 b L S0 T) v0 v1 v3 v4 S) (fun v0 v1 v3 v4 S hB K => fd_X0_draw_10 (kyB_X0_draw_10 hU hL hb hB K (fun _ _ _ _ _ hx K => hx K))) K
set_option maxRecDepth 20000 in
set_option maxHeartbeats 1000000 in
theorem ky_X0_draw_0 {b : Bool} {L : List (Nat × Nat)} (hU : ∀ q ∈ L, q ∈ nyT) (hL : ∀ q ∈ kyL_X0_draw, q ∈ L) (hb : False → b = false) {Q : HS → Prop} {v0 : Nat} {v1 : Nat} {v2 : Int32} {S0 S : HS} (h : P_X0_draw_0 Q v0 v1 v2 S) (K : K9 b L S0 S) : P_X0_draw_0 (fun T => Q T ∧ K9 b L S0 T) v0 v1 v2 S := by
  delta P_X0_draw_0 at h ⊢
  obtain ⟨c1, h⟩ := h
  refine ⟨c1, ?_⟩
  intro x3 e2
  have h := h x3 e2
  have K := k9_I K e2
  exact ky_X0_draw_10 hU hL hb h K
theorem ky_X0_draw {b : Bool} {L : List (Nat × Nat)} (hU : ∀ q ∈ L, q ∈ nyT) (hL : ∀ q ∈ kyL_X0_draw, q ∈ L) (hb : False → b = false) {Q : HS → Prop} {v0 : Nat} {v1 : Nat} {v2 : Int32} {S : HS} (h : P_X0_draw v0 v1 v2 Q S) : P_X0_draw v0 v1 v2 (fun T => Q T ∧ K9 b L S T) S := ky_X0_draw_0 hU hL hb h (k9_rf b L S)
abbrev kyL_X2_init : List (Nat × Nat) := []
set_option maxRecDepth 20000 in
set_option maxHeartbeats 1000000 in
theorem ky_X2_init_0 {b : Bool} {L : List (Nat × Nat)} (hU : ∀ q ∈ L, q ∈ nyT) (hL : ∀ q ∈ kyL_X2_init, q ∈ L) (hb : False → b = false) {Q : HS → Prop} {v0 : Nat} {S0 S : HS} (h : P_X2_init_0 Q v0 S) (K : K9 b L S0 S) : P_X2_init_0 (fun T => Q T ∧ K9 b L S0 T) v0 S := by
  delta P_X2_init_0 at h ⊢
  intro x2 e1
  have h := h x2 e1
  intro x4 e3
  have h := h x4 e3
  have n5 := k9_nf K e1
  have K := k9_W K e1 e3
  have o6 := ob_of_new e3
  obtain ⟨c7, h⟩ := h
  refine ⟨c7, ?_⟩
  have o8 := c7
  intro x10 e9
  have h := h x10 e9
  have K := k9_S K e9 o8 n5 (by decide)
  have o6 := ob_wR o6 e9
  have o8 := ob_wR o8 e9
  exact ⟨h, K⟩
theorem ky_X2_init {b : Bool} {L : List (Nat × Nat)} (hU : ∀ q ∈ L, q ∈ nyT) (hL : ∀ q ∈ kyL_X2_init, q ∈ L) (hb : False → b = false) {Q : HS → Prop} {v0 : Nat} {S : HS} (h : P_X2_init v0 Q S) : P_X2_init v0 (fun T => Q T ∧ K9 b L S T) S := ky_X2_init_0 hU hL hb h (k9_rf b L S)
abbrev kyL_X0_init : List (Nat × Nat) := []
set_option maxRecDepth 20000 in
set_option maxHeartbeats 1000000 in
theorem kyB_X0_init_69 {b : Bool} {L : List (Nat × Nat)} (hU : ∀ q ∈ L, q ∈ nyT) (hL : ∀ q ∈ kyL_X0_init, q ∈ L) (hb : True → b = false) {Q : HS → Prop} {X69 X69_2 : Nat → Int32 → Nat → Nat → HS → Prop} {v0 : Nat} {v1 : Int32} {kk : Nat} {nn : Nat} {S0 S : HS} (h : B_X0_init_69 Q X69 v0 v1 kk nn S) (K : K9 b L S0 S) (hX69 : ∀ (u0 : Nat) (u1 : Int32) (u2 : Nat) (u3 : Nat) (u4 : HS), X69 u0 u1 u2 u3 u4 → K9 b L S0 u4 → X69_2 u0 u1 u2 u3 u4) : B_X0_init_69 (fun T => Q T ∧ K9 b L S0 T) X69_2 v0 v1 kk nn S := by
  delta B_X0_init_69 at h ⊢
  obtain ⟨c1, h⟩ := h
  refine ⟨c1, ?_⟩
  obtain ⟨b2, e3, h⟩ := h
  refine ⟨b2, e3, ?_⟩
  obtain ⟨c4, h⟩ := h
  refine ⟨c4, ?_⟩
  refine ⟨?_, ?_⟩
  · intro c5
    have h := h.1 c5
    obtain ⟨c6, h⟩ := h
    refine ⟨c6, ?_⟩
    obtain ⟨c7, h⟩ := h
    refine ⟨c7, ?_⟩
    exact ⟨h, K⟩
  · intro c8
    have h := h.2 c8
    obtain ⟨b9, e10, h⟩ := h
    refine ⟨b9, e10, ?_⟩
    obtain ⟨c11, h⟩ := h
    refine ⟨c11, ?_⟩
    obtain ⟨c12, h⟩ := h
    refine ⟨c12, ?_⟩
    intro x14 e13
    have h := h x14 e13
    intro x16 e15
    have h := h x16 e15
    have n17 := k9_nf K e13
    have K := k9_W K e13 e15
    have o18 := ob_of_new e15
    obtain ⟨c19, h⟩ := h
    refine ⟨c19, ?_⟩
    obtain ⟨c20, h⟩ := h
    refine ⟨c20, ?_⟩
    refine cm_X2_init (ky_X2_init (b := b) hU (fun q hq => hL q ((by decide : ∀ q ∈ kyL_X2_init, q ∈ kyL_X0_init) q hq)) (fun z => z.elim) h) h (fun x21 p23 h g22 => ?_)
    have h := h g22
    have K := k9_tr K p23.2
    have o18 := gr_ob p23.2.1 o18
    obtain ⟨c24, h⟩ := h
    refine ⟨c24, ?_⟩
    have o25 := c24
    obtain ⟨c26, h⟩ := h
    refine ⟨c26, ?_⟩
    intro x28 e27
    have h := h x28 e27
    have K := k9_RB K hU e27 o25 (hb trivial)
    have o18 := ob_wR o18 e27
    have o25 := ob_wR o25 e27
    intro x30 e29
    have h := h x30 e29
    exact hX69 _ _ _ _ _ h K
theorem ky_X0_init_69 {b : Bool} {L : List (Nat × Nat)} (hU : ∀ q ∈ L, q ∈ nyT) (hL : ∀ q ∈ kyL_X0_init, q ∈ L) (hb : True → b = false) {Q : HS → Prop} {v0 : Nat} {v1 : Int32} {kk : Nat} {nn : Nat} {S0 S : HS} (h : P_X0_init_69 Q v0 v1 kk nn S) (K : K9 b L S0 S) : P_X0_init_69 (fun T => Q T ∧ K9 b L S0 T) v0 v1 kk nn S := h (fun v0 v1 kk nn S => K9 b L S0 S → P_X0_init_69 (fun T => Q T ∧ K9 b L S0 T) v0 v1 kk nn S) (fun v0 v1 kk nn S hB K => fd_X0_init_69 (kyB_X0_init_69 hU hL hb hB K (fun _ _ _ _ _ hx K => hx K))) K
set_option maxRecDepth 20000 in
set_option maxHeartbeats 1000000 in
theorem kyB_X0_init_39 {b : Bool} {L : List (Nat × Nat)} (hU : ∀ q ∈ L, q ∈ nyT) (hL : ∀ q ∈ kyL_X0_init, q ∈ L) (hb : True → b = false) {Q : HS → Prop} {X39 X39_2 : Nat → Int32 → Nat → Nat → HS → Prop} {v0 : Nat} {v1 : Int32} {kk : Nat} {nn : Nat} {S0 S : HS} (h : B_X0_init_39 Q X39 v0 v1 kk nn S) (K : K9 b L S0 S) (hX39 : ∀ (u0 : Nat) (u1 : Int32) (u2 : Nat) (u3 : Nat) (u4 : HS), X39 u0 u1 u2 u3 u4 → K9 b L S0 u4 → X39_2 u0 u1 u2 u3 u4) : B_X0_init_39 (fun T => Q T ∧ K9 b L S0 T) X39_2 v0 v1 kk nn S := by
  delta B_X0_init_39 at h ⊢
  obtain ⟨c1, h⟩ := h
  refine ⟨c1, ?_⟩
  obtain ⟨b2, e3, h⟩ := h
  refine ⟨b2, e3, ?_⟩
  obtain ⟨c4, h⟩ := h
  refine ⟨c4, ?_⟩
  refine ⟨?_, ?_⟩
  · intro c5
    have h := h.1 c5
    exact ky_X0_init_69 hU hL hb h K
  · intro c6
    have h := h.2 c6
    obtain ⟨b7, e8, h⟩ := h
    refine ⟨b7, e8, ?_⟩
    obtain ⟨c9, h⟩ := h
    refine ⟨c9, ?_⟩
    obtain ⟨c10, h⟩ := h
    refine ⟨c10, ?_⟩
    intro x12 e11
    have h := h x12 e11
    intro x14 e13
    have h := h x14 e13
    have n15 := k9_nf K e11
    have K := k9_W K e11 e13
    have o16 := ob_of_new e13
    obtain ⟨c17, h⟩ := h
    refine ⟨c17, ?_⟩
    obtain ⟨c18, h⟩ := h
    refine ⟨c18, ?_⟩
    refine cm_X2_init (ky_X2_init (b := b) hU (fun q hq => hL q ((by decide : ∀ q ∈ kyL_X2_init, q ∈ kyL_X0_init) q hq)) (fun z => z.elim) h) h (fun x19 p21 h g20 => ?_)
    have h := h g20
    have K := k9_tr K p21.2
    have o16 := gr_ob p21.2.1 o16
    obtain ⟨c22, h⟩ := h
    refine ⟨c22, ?_⟩
    have o23 := c22
    obtain ⟨c24, h⟩ := h
    refine ⟨c24, ?_⟩
    intro x26 e25
    have h := h x26 e25
    have K := k9_RB K hU e25 o23 (hb trivial)
    have o16 := ob_wR o16 e25
    have o23 := ob_wR o23 e25
    intro x28 e27
    have h := h x28 e27
    exact hX39 _ _ _ _ _ h K
theorem ky_X0_init_39 {b : Bool} {L : List (Nat × Nat)} (hU : ∀ q ∈ L, q ∈ nyT) (hL : ∀ q ∈ kyL_X0_init, q ∈ L) (hb : True → b = false) {Q : HS → Prop} {v0 : Nat} {v1 : Int32} {kk : Nat} {nn : Nat} {S0 S : HS} (h : P_X0_init_39 Q v0 v1 kk nn S) (K : K9 b L S0 S) : P_X0_init_39 (fun T => Q T ∧ K9 b L S0 T) v0 v1 kk nn S := h (fun v0 v1 kk nn S => K9 b L S0 S → P_X0_init_39 (fun T => Q T ∧ K9 b L S0 T) v0 v1 kk nn S) (fun v0 v1 kk nn S hB K => fd_X0_init_39 (kyB_X0_init_39 hU hL hb hB K (fun _ _ _ _ _ hx K => hx K))) K
set_option maxRecDepth 20000 in
set_option maxHeartbeats 1000000 in
theorem ky_X0_init_0 {b : Bool} {L : List (Nat × Nat)} (hU : ∀ q ∈ L, q ∈ nyT) (hL : ∀ q ∈ kyL_X0_init, q ∈ L) (hb : True → b = false) {Q : HS → Prop} {v0 : Nat} {kk : Nat} {nn : Nat} {S0 S : HS} (h : P_X0_init_0 Q v0 kk nn S) (K : K9 b L S0 S) : P_X0_init_0 (fun T => Q T ∧ K9 b L S0 T) v0 kk nn S := by
  delta P_X0_init_0 at h ⊢
  obtain ⟨c1, h⟩ := h
  refine ⟨c1, ?_⟩
  have o2 := c1
  intro x4 e3
  have h := h x4 e3
  have K := k9_I K e3
  have o2 := ob_wI o2 e3
  obtain ⟨c5, h⟩ := h
  refine ⟨c5, ?_⟩
  obtain ⟨c6, h⟩ := h
  refine ⟨c6, ?_⟩
  intro x8 e7
  have h := h x8 e7
  intro x10 e9
  have h := h x10 e9
  have n11 := k9_nf K e7
  have K := k9_W K e7 e9
  have o2 := gr_ob (gr_of_new e9 e7) o2
  have o12 := ob_of_new e9
  obtain ⟨c13, h⟩ := h
  refine ⟨c13, ?_⟩
  obtain ⟨c14, h⟩ := h
  refine ⟨c14, ?_⟩
  refine cm_X2_init (ky_X2_init (b := b) hU (fun q hq => hL q ((by decide : ∀ q ∈ kyL_X2_init, q ∈ kyL_X0_init) q hq)) (fun z => z.elim) h) h (fun x15 p17 h g16 => ?_)
  have h := h g16
  have K := k9_tr K p17.2
  have o2 := gr_ob p17.2.1 o2
  have o12 := gr_ob p17.2.1 o12
  intro x19 e18
  have h := h x19 e18
  have K := k9_R K hU e18 o2 (by decide) (by decide)
  have o2 := ob_wR o2 e18
  have o12 := ob_wR o12 e18
  obtain ⟨c20, h⟩ := h
  refine ⟨c20, ?_⟩
  obtain ⟨c21, h⟩ := h
  refine ⟨c21, ?_⟩
  intro x23 e22
  have h := h x23 e22
  intro x25 e24
  have h := h x25 e24
  have n26 := k9_nf K e22
  have K := k9_W K e22 e24
  have o2 := gr_ob (gr_of_new e24 e22) o2
  have o12 := gr_ob (gr_of_new e24 e22) o12
  have o27 := ob_of_new e24
  intro x29 e28
  have h := h x29 e28
  have K := k9_R K hU e28 o2 (by decide) (by decide)
  have o2 := ob_wR o2 e28
  have o12 := ob_wR o12 e28
  have o27 := ob_wR o27 e28
  obtain ⟨c30, h⟩ := h
  refine ⟨c30, ?_⟩
  obtain ⟨c31, h⟩ := h
  refine ⟨c31, ?_⟩
  intro x33 e32
  have h := h x33 e32
  intro x35 e34
  have h := h x35 e34
  have n36 := k9_nf K e32
  have K := k9_W K e32 e34
  have o2 := gr_ob (gr_of_new e34 e32) o2
  have o12 := gr_ob (gr_of_new e34 e32) o12
  have o27 := gr_ob (gr_of_new e34 e32) o27
  have o37 := ob_of_new e34
  intro x39 e38
  have h := h x39 e38
  have K := k9_R K hU e38 o2 (by decide) (by decide)
  have o2 := ob_wR o2 e38
  have o12 := ob_wR o12 e38
  have o27 := ob_wR o27 e38
  have o37 := ob_wR o37 e38
  exact ky_X0_init_39 hU hL hb h K
theorem ky_X0_init {b : Bool} {L : List (Nat × Nat)} (hU : ∀ q ∈ L, q ∈ nyT) (hL : ∀ q ∈ kyL_X0_init, q ∈ L) (hb : True → b = false) {Q : HS → Prop} {v0 : Nat} {S : HS} (h : P_X0_init v0 Q S) : P_X0_init v0 (fun T => Q T ∧ K9 b L S T) S := ky_X0_init_0 hU hL hb h (k9_rf b L S)
abbrev kyL_X0_isOn : List (Nat × Nat) := []
set_option maxRecDepth 20000 in
set_option maxHeartbeats 1000000 in
theorem ky_X0_isOn_0 {b : Bool} {L : List (Nat × Nat)} (hU : ∀ q ∈ L, q ∈ nyT) (hL : ∀ q ∈ kyL_X0_isOn, q ∈ L) (hb : False → b = false) {Q : Int32 → HS → Prop} {v0 : Nat} {S0 S : HS} (h : P_X0_isOn_0 Q v0 S) (K : K9 b L S0 S) : P_X0_isOn_0 (fun r T => Q r T ∧ K9 b L S0 T) v0 S := by
  delta P_X0_isOn_0 at h ⊢
  obtain ⟨c1, h⟩ := h
  refine ⟨c1, ?_⟩
  intro x3 e2
  have h := h x3 e2
  refine ⟨?_, ?_⟩
  · intro c4
    have h := h.1 c4
    exact ⟨h, K⟩
  · intro c5
    have h := h.2 c5
    exact ⟨h, K⟩
theorem ky_X0_isOn {b : Bool} {L : List (Nat × Nat)} (hU : ∀ q ∈ L, q ∈ nyT) (hL : ∀ q ∈ kyL_X0_isOn, q ∈ L) (hb : False → b = false) {Q : Int32 → HS → Prop} {v0 : Nat} {S : HS} (h : P_X0_isOn v0 Q S) : P_X0_isOn v0 (fun r T => Q r T ∧ K9 b L S T) S := ky_X0_isOn_0 hU hL hb h (k9_rf b L S)
abbrev kyL_X2_copy : List (Nat × Nat) := [(2, 2)]
set_option maxRecDepth 20000 in
set_option maxHeartbeats 1000000 in
theorem kyB_X2_copy_18 {b : Bool} {L : List (Nat × Nat)} (hU : ∀ q ∈ L, q ∈ nyT) (hL : ∀ q ∈ kyL_X2_copy, q ∈ L) (hb : False → b = false) {Q : HS → Prop} {X18 X18_2 : Nat → Nat → Int32 → HS → Prop} {v0 : Nat} {v1 : Nat} {v2 : Int32} {S0 S : HS} (h : B_X2_copy_18 Q X18 v0 v1 v2 S) (K : K9 b L S0 S) (hX18 : ∀ (u0 : Nat) (u1 : Nat) (u2 : Int32) (u3 : HS), X18 u0 u1 u2 u3 → K9 b L S0 u3 → X18_2 u0 u1 u2 u3) : B_X2_copy_18 (fun T => Q T ∧ K9 b L S0 T) X18_2 v0 v1 v2 S := by
  delta B_X2_copy_18 at h ⊢
  refine ⟨?_, ?_⟩
  · intro c1
    have h := h.1 c1
    exact ⟨h, K⟩
  · intro c2
    have h := h.2 c2
    obtain ⟨c3, h⟩ := h
    refine ⟨c3, ?_⟩
    have o4 := c3
    obtain ⟨b5, e6, h⟩ := h
    refine ⟨b5, e6, ?_⟩
    have n7 := k9_nr K e6 o4 (hL _ (by decide))
    obtain ⟨c8, h⟩ := h
    refine ⟨c8, ?_⟩
    have o9 := c8
    obtain ⟨b10, e11, h⟩ := h
    refine ⟨b10, e11, ?_⟩
    obtain ⟨c12, h⟩ := h
    refine ⟨c12, ?_⟩
    obtain ⟨c13, h⟩ := h
    refine ⟨c13, ?_⟩
    intro x15 e14
    have h := h x15 e14
    obtain ⟨c16, h⟩ := h
    refine ⟨c16, ?_⟩
    obtain ⟨c17, h⟩ := h
    refine ⟨c17, ?_⟩
    intro x19 e18
    have h := h x19 e18
    have K := k9_J K e18 n7
    have o4 := ob_wJ o4 e18
    have o9 := ob_wJ o9 e18
    intro x21 e20
    have h := h x21 e20
    exact hX18 _ _ _ _ h K
theorem ky_X2_copy_18 {b : Bool} {L : List (Nat × Nat)} (hU : ∀ q ∈ L, q ∈ nyT) (hL : ∀ q ∈ kyL_X2_copy, q ∈ L) (hb : False → b = false) {Q : HS → Prop} {v0 : Nat} {v1 : Nat} {v2 : Int32} {S0 S : HS} (h : P_X2_copy_18 Q v0 v1 v2 S) (K : K9 b L S0 S) : P_X2_copy_18 (fun T => Q T ∧ K9 b L S0 T) v0 v1 v2 S := h (fun v0 v1 v2 S => K9 b L S0 S → P_X2_copy_18 (fun T => Q T ∧ K9 b L S0 T) v0 v1 v2 S) (fun v0 v1 v2 S hB K => fd_X2_copy_18 (kyB_X2_copy_18 hU hL hb hB K (fun _ _ _ _ hx K => hx K))) K
set_option maxRecDepth 20000 in
set_option maxHeartbeats 1000000 in
theorem ky_X2_copy_0 {b : Bool} {L : List (Nat × Nat)} (hU : ∀ q ∈ L, q ∈ nyT) (hL : ∀ q ∈ kyL_X2_copy, q ∈ L) (hb : False → b = false) {Q : HS → Prop} {v0 : Nat} {v1 : Nat} {S0 S : HS} (h : P_X2_copy_0 Q v0 v1 S) (K : K9 b L S0 S) : P_X2_copy_0 (fun T => Q T ∧ K9 b L S0 T) v0 v1 S := by
  delta P_X2_copy_0 at h ⊢
  obtain ⟨c1, h⟩ := h
  refine ⟨c1, ?_⟩
  intro x3 e2
  have h := h x3 e2
  obtain ⟨c4, h⟩ := h
  refine ⟨c4, ?_⟩
  intro x6 e5
  have h := h x6 e5
  have K := k9_I K e5
  intro x8 e7
  have h := h x8 e7
  intro x10 e9
  have h := h x10 e9
  have K := k9_I K e9
  exact ky_X2_copy_18 hU hL hb h K
theorem ky_X2_copy {b : Bool} {L : List (Nat × Nat)} (hU : ∀ q ∈ L, q ∈ nyT) (hL : ∀ q ∈ kyL_X2_copy, q ∈ L) (hb : False → b = false) {Q : HS → Prop} {v0 : Nat} {v1 : Nat} {S : HS} (h : P_X2_copy v0 v1 Q S) : P_X2_copy v0 v1 (fun T => Q T ∧ K9 b L S T) S := ky_X2_copy_0 hU hL hb h (k9_rf b L S)
abbrev kyL_X0_keepForUndo : List (Nat × Nat) := [(2, 2)]
set_option maxRecDepth 20000 in
set_option maxHeartbeats 1000000 in
theorem ky_X0_keepForUndo_58 {b : Bool} {L : List (Nat × Nat)} (hU : ∀ q ∈ L, q ∈ nyT) (hL : ∀ q ∈ kyL_X0_keepForUndo, q ∈ L) (hb : True → b = false) {Q : HS → Prop} {v0 : Nat} {S0 S : HS} (h : P_X0_keepForUndo_58 Q v0 S) (K : K9 b L S0 S) : P_X0_keepForUndo_58 (fun T => Q T ∧ K9 b L S0 T) v0 S := by
  delta P_X0_keepForUndo_58 at h ⊢
  obtain ⟨c1, h⟩ := h
  refine ⟨c1, ?_⟩
  obtain ⟨b2, e3, h⟩ := h
  refine ⟨b2, e3, ?_⟩
  intro x5 e4
  have h := h x5 e4
  obtain ⟨c6, h⟩ := h
  refine ⟨c6, ?_⟩
  obtain ⟨c7, h⟩ := h
  refine ⟨c7, ?_⟩
  obtain ⟨b8, e9, h⟩ := h
  refine ⟨b8, e9, ?_⟩
  obtain ⟨b10, e11, h⟩ := h
  refine ⟨b10, e11, ?_⟩
  obtain ⟨c12, h⟩ := h
  refine ⟨c12, ?_⟩
  refine cm_X2_copy (ky_X2_copy (b := b) hU (fun q hq => hL q ((by decide : ∀ q ∈ kyL_X2_copy, q ∈ kyL_X0_keepForUndo) q hq)) (fun z => z.elim) h) h (fun x13 p15 h g14 => ?_)
  have h := h g14
  have K := k9_tr K p15.2
  intro x17 e16
  have h := h x17 e16
  intro x19 e18
  have h := h x19 e18
  intro x21 e20
  have h := h x21 e20
  have K := k9_I K e20
  exact ⟨h, K⟩
set_option maxRecDepth 20000 in
set_option maxHeartbeats 1000000 in
theorem kyB_X0_keepForUndo_18 {b : Bool} {L : List (Nat × Nat)} (hU : ∀ q ∈ L, q ∈ nyT) (hL : ∀ q ∈ kyL_X0_keepForUndo, q ∈ L) (hb : True → b = false) {Q : HS → Prop} {X18 X18_2 : Nat → Nat → Int32 → HS → Prop} {v0 : Nat} {v1 : Nat} {v2 : Int32} {S0 S : HS} (h : B_X0_keepForUndo_18 Q X18 v0 v1 v2 S) (K : K9 b L S0 S) (hX18 : ∀ (u0 : Nat) (u1 : Nat) (u2 : Int32) (u3 : HS), X18 u0 u1 u2 u3 → K9 b L S0 u3 → X18_2 u0 u1 u2 u3) : B_X0_keepForUndo_18 (fun T => Q T ∧ K9 b L S0 T) X18_2 v0 v1 v2 S := by
  delta B_X0_keepForUndo_18 at h ⊢
  refine ⟨?_, ?_⟩
  · intro c1
    have h := h.1 c1
    obtain ⟨c2, h⟩ := h
    refine ⟨c2, ?_⟩
    obtain ⟨b3, e4, h⟩ := h
    refine ⟨b3, e4, ?_⟩
    obtain ⟨c5, h⟩ := h
    refine ⟨c5, ?_⟩
    have o6 := c5
    obtain ⟨c7, h⟩ := h
    refine ⟨c7, ?_⟩
    obtain ⟨c8, h⟩ := h
    refine ⟨c8, ?_⟩
    intro x10 e9
    have h := h x10 e9
    have K := k9_RB K hU e9 o6 (hb trivial)
    have o6 := ob_wR o6 e9
    intro x12 e11
    have h := h x12 e11
    have K := k9_I K e11
    have o6 := ob_wI o6 e11
    exact ky_X0_keepForUndo_58 hU hL hb h K
  · intro c13
    have h := h.2 c13
    obtain ⟨c14, h⟩ := h
    refine ⟨c14, ?_⟩
    obtain ⟨b15, e16, h⟩ := h
    refine ⟨b15, e16, ?_⟩
    obtain ⟨b17, e18, h⟩ := h
    refine ⟨b17, e18, ?_⟩
    obtain ⟨c19, h⟩ := h
    refine ⟨c19, ?_⟩
    obtain ⟨c20, h⟩ := h
    refine ⟨c20, ?_⟩
    obtain ⟨b21, e22, h⟩ := h
    refine ⟨b21, e22, ?_⟩
    obtain ⟨c23, h⟩ := h
    refine ⟨c23, ?_⟩
    have o24 := c23
    obtain ⟨c25, h⟩ := h
    refine ⟨c25, ?_⟩
    obtain ⟨c26, h⟩ := h
    refine ⟨c26, ?_⟩
    intro x28 e27
    have h := h x28 e27
    have K := k9_RB K hU e27 o24 (hb trivial)
    have o24 := ob_wR o24 e27
    intro x30 e29
    have h := h x30 e29
    exact hX18 _ _ _ _ h K
theorem ky_X0_keepForUndo_18 {b : Bool} {L : List (Nat × Nat)} (hU : ∀ q ∈ L, q ∈ nyT) (hL : ∀ q ∈ kyL_X0_keepForUndo, q ∈ L) (hb : True → b = false) {Q : HS → Prop} {v0 : Nat} {v1 : Nat} {v2 : Int32} {S0 S : HS} (h : P_X0_keepForUndo_18 Q v0 v1 v2 S) (K : K9 b L S0 S) : P_X0_keepForUndo_18 (fun T => Q T ∧ K9 b L S0 T) v0 v1 v2 S := h (fun v0 v1 v2 S => K9 b L S0 S → P_X0_keepForUndo_18 (fun T => Q T ∧ K9 b L S0 T) v0 v1 v2 S) (fun v0 v1 v2 S hB K => fd_X0_keepForUndo_18 (kyB_X0_keepForUndo_18 hU hL hb hB K (fun _ _ _ _ hx K => hx K))) K
set_option maxRecDepth 20000 in
set_option maxHeartbeats 1000000 in
theorem ky_X0_keepForUndo_0 {b : Bool} {L : List (Nat × Nat)} (hU : ∀ q ∈ L, q ∈ nyT) (hL : ∀ q ∈ kyL_X0_keepForUndo, q ∈ L) (hb : True → b = false) {Q : HS → Prop} {v0 : Nat} {S0 S : HS} (h : P_X0_keepForUndo_0 Q v0 S) (K : K9 b L S0 S) : P_X0_keepForUndo_0 (fun T => Q T ∧ K9 b L S0 T) v0 S := by
  delta P_X0_keepForUndo_0 at h ⊢
  obtain ⟨c1, h⟩ := h
  refine ⟨c1, ?_⟩
  intro x3 e2
  have h := h x3 e2
  refine ⟨?_, ?_⟩
  · intro c4
    have h := h.1 c4
    exact ky_X0_keepForUndo_58 hU hL hb h K
  · intro c5
    have h := h.2 c5
    obtain ⟨b6, e7, h⟩ := h
    refine ⟨b6, e7, ?_⟩
    obtain ⟨c8, h⟩ := h
    refine ⟨c8, ?_⟩
    obtain ⟨c9, h⟩ := h
    refine ⟨c9, ?_⟩
    obtain ⟨b10, e11, h⟩ := h
    refine ⟨b10, e11, ?_⟩
    exact ky_X0_keepForUndo_18 hU hL hb h K
theorem ky_X0_keepForUndo {b : Bool} {L : List (Nat × Nat)} (hU : ∀ q ∈ L, q ∈ nyT) (hL : ∀ q ∈ kyL_X0_keepForUndo, q ∈ L) (hb : True → b = false) {Q : HS → Prop} {v0 : Nat} {S : HS} (h : P_X0_keepForUndo v0 Q S) : P_X0_keepForUndo v0 (fun T => Q T ∧ K9 b L S T) S := ky_X0_keepForUndo_0 hU hL hb h (k9_rf b L S)
abbrev kyL_X0_rainsIn : List (Nat × Nat) := []
set_option maxRecDepth 20000 in
set_option maxHeartbeats 1000000 in
theorem ky_X0_rainsIn_0 {b : Bool} {L : List (Nat × Nat)} (hU : ∀ q ∈ L, q ∈ nyT) (hL : ∀ q ∈ kyL_X0_rainsIn, q ∈ L) (hb : False → b = false) {Q : Int32 → HS → Prop} {v0 : Nat} {v1 : Int32} {S0 S : HS} (h : P_X0_rainsIn_0 Q v0 v1 S) (K : K9 b L S0 S) : P_X0_rainsIn_0 (fun r T => Q r T ∧ K9 b L S0 T) v0 v1 S := by
  delta P_X0_rainsIn_0 at h ⊢
  refine ⟨?_, ?_⟩
  · intro c1
    have h := h.1 c1
    exact ⟨h, K⟩
  · intro c2
    have h := h.2 c2
    refine ⟨?_, ?_⟩
    · intro c3
      have h := h.1 c3
      exact ⟨h, K⟩
    · intro c4
      have h := h.2 c4
      obtain ⟨c5, h⟩ := h
      refine ⟨c5, ?_⟩
      intro x7 e6
      have h := h x7 e6
      refine ⟨?_, ?_⟩
      · intro c8
        have h := h.1 c8
        exact ⟨h, K⟩
      · intro c9
        have h := h.2 c9
        exact ⟨h, K⟩
theorem ky_X0_rainsIn {b : Bool} {L : List (Nat × Nat)} (hU : ∀ q ∈ L, q ∈ nyT) (hL : ∀ q ∈ kyL_X0_rainsIn, q ∈ L) (hb : False → b = false) {Q : Int32 → HS → Prop} {v0 : Nat} {v1 : Int32} {S : HS} (h : P_X0_rainsIn v0 v1 Q S) : P_X0_rainsIn v0 v1 (fun r T => Q r T ∧ K9 b L S T) S := ky_X0_rainsIn_0 hU hL hb h (k9_rf b L S)
abbrev kyL_X0_returnTo : List (Nat × Nat) := [(2, 2)]
set_option maxRecDepth 20000 in
set_option maxHeartbeats 1000000 in
theorem ky_X0_returnTo_0 {b : Bool} {L : List (Nat × Nat)} (hU : ∀ q ∈ L, q ∈ nyT) (hL : ∀ q ∈ kyL_X0_returnTo, q ∈ L) (hb : False → b = false) {Q : Int32 → HS → Prop} {v0 : Nat} {v1 : Int32} {S0 S : HS} (h : P_X0_returnTo_0 Q v0 v1 S) (K : K9 b L S0 S) : P_X0_returnTo_0 (fun r T => Q r T ∧ K9 b L S0 T) v0 v1 S := by
  delta P_X0_returnTo_0 at h ⊢
  refine ⟨?_, ?_⟩
  · intro c1
    have h := h.1 c1
    exact ⟨h, K⟩
  · intro c2
    have h := h.2 c2
    obtain ⟨c3, h⟩ := h
    refine ⟨c3, ?_⟩
    intro x5 e4
    have h := h x5 e4
    refine ⟨?_, ?_⟩
    · intro c6
      have h := h.1 c6
      obtain ⟨b7, e8, h⟩ := h
      refine ⟨b7, e8, ?_⟩
      obtain ⟨b9, e10, h⟩ := h
      refine ⟨b9, e10, ?_⟩
      obtain ⟨c11, h⟩ := h
      refine ⟨c11, ?_⟩
      obtain ⟨c12, h⟩ := h
      refine ⟨c12, ?_⟩
      obtain ⟨b13, e14, h⟩ := h
      refine ⟨b13, e14, ?_⟩
      obtain ⟨c15, h⟩ := h
      refine ⟨c15, ?_⟩
      refine cm_X2_copy (ky_X2_copy (b := b) hU (fun q hq => hL q ((by decide : ∀ q ∈ kyL_X2_copy, q ∈ kyL_X0_returnTo) q hq)) (fun z => z.elim) h) h (fun x16 p18 h g17 => ?_)
      have h := h g17
      have K := k9_tr K p18.2
      intro x20 e19
      have h := h x20 e19
      have K := k9_I K e19
      exact ⟨h, K⟩
    · intro c21
      have h := h.2 c21
      exact ⟨h, K⟩
theorem ky_X0_returnTo {b : Bool} {L : List (Nat × Nat)} (hU : ∀ q ∈ L, q ∈ nyT) (hL : ∀ q ∈ kyL_X0_returnTo, q ∈ L) (hb : False → b = false) {Q : Int32 → HS → Prop} {v0 : Nat} {v1 : Int32} {S : HS} (h : P_X0_returnTo v0 v1 Q S) : P_X0_returnTo v0 v1 (fun r T => Q r T ∧ K9 b L S T) S := ky_X0_returnTo_0 hU hL hb h (k9_rf b L S)
abbrev kyL_X0_setMark : List (Nat × Nat) := [(2, 2)]
set_option maxRecDepth 20000 in
set_option maxHeartbeats 1000000 in
theorem ky_X0_setMark_0 {b : Bool} {L : List (Nat × Nat)} (hU : ∀ q ∈ L, q ∈ nyT) (hL : ∀ q ∈ kyL_X0_setMark, q ∈ L) (hb : False → b = false) {Q : Int32 → HS → Prop} {v0 : Nat} {S0 S : HS} (h : P_X0_setMark_0 Q v0 S) (K : K9 b L S0 S) : P_X0_setMark_0 (fun r T => Q r T ∧ K9 b L S0 T) v0 S := by
  delta P_X0_setMark_0 at h ⊢
  obtain ⟨c1, h⟩ := h
  refine ⟨c1, ?_⟩
  intro x3 e2
  have h := h x3 e2
  refine ⟨?_, ?_⟩
  · intro c4
    have h := h.1 c4
    obtain ⟨b5, e6, h⟩ := h
    refine ⟨b5, e6, ?_⟩
    intro x8 e7
    have h := h x8 e7
    obtain ⟨c9, h⟩ := h
    refine ⟨c9, ?_⟩
    obtain ⟨c10, h⟩ := h
    refine ⟨c10, ?_⟩
    obtain ⟨b11, e12, h⟩ := h
    refine ⟨b11, e12, ?_⟩
    obtain ⟨b13, e14, h⟩ := h
    refine ⟨b13, e14, ?_⟩
    obtain ⟨c15, h⟩ := h
    refine ⟨c15, ?_⟩
    refine cm_X2_copy (ky_X2_copy (b := b) hU (fun q hq => hL q ((by decide : ∀ q ∈ kyL_X2_copy, q ∈ kyL_X0_setMark) q hq)) (fun z => z.elim) h) h (fun x16 p18 h g17 => ?_)
    have h := h g17
    have K := k9_tr K p18.2
    intro x20 e19
    have h := h x20 e19
    intro x22 e21
    have h := h x22 e21
    intro x24 e23
    have h := h x24 e23
    have K := k9_I K e23
    intro x26 e25
    have h := h x26 e25
    exact ⟨h, K⟩
  · intro c27
    have h := h.2 c27
    exact ⟨h, K⟩
theorem ky_X0_setMark {b : Bool} {L : List (Nat × Nat)} (hU : ∀ q ∈ L, q ∈ nyT) (hL : ∀ q ∈ kyL_X0_setMark, q ∈ L) (hb : False → b = false) {Q : Int32 → HS → Prop} {v0 : Nat} {S : HS} (h : P_X0_setMark v0 Q S) : P_X0_setMark v0 (fun r T => Q r T ∧ K9 b L S T) S := ky_X0_setMark_0 hU hL hb h (k9_rf b L S)
abbrev kyL_X0_takeBack : List (Nat × Nat) := [(2, 2)]
set_option maxRecDepth 20000 in
set_option maxHeartbeats 1000000 in
theorem ky_X0_takeBack_0 {b : Bool} {L : List (Nat × Nat)} (hU : ∀ q ∈ L, q ∈ nyT) (hL : ∀ q ∈ kyL_X0_takeBack, q ∈ L) (hb : False → b = false) {Q : Int32 → HS → Prop} {v0 : Nat} {S0 S : HS} (h : P_X0_takeBack_0 Q v0 S) (K : K9 b L S0 S) : P_X0_takeBack_0 (fun r T => Q r T ∧ K9 b L S0 T) v0 S := by
  delta P_X0_takeBack_0 at h ⊢
  obtain ⟨c1, h⟩ := h
  refine ⟨c1, ?_⟩
  intro x3 e2
  have h := h x3 e2
  refine ⟨?_, ?_⟩
  · intro c4
    have h := h.1 c4
    intro x6 e5
    have h := h x6 e5
    intro x8 e7
    have h := h x8 e7
    intro x10 e9
    have h := h x10 e9
    have K := k9_I K e9
    obtain ⟨b11, e12, h⟩ := h
    refine ⟨b11, e12, ?_⟩
    obtain ⟨b13, e14, h⟩ := h
    refine ⟨b13, e14, ?_⟩
    intro x16 e15
    have h := h x16 e15
    obtain ⟨c17, h⟩ := h
    refine ⟨c17, ?_⟩
    obtain ⟨c18, h⟩ := h
    refine ⟨c18, ?_⟩
    obtain ⟨b19, e20, h⟩ := h
    refine ⟨b19, e20, ?_⟩
    obtain ⟨c21, h⟩ := h
    refine ⟨c21, ?_⟩
    refine cm_X2_copy (ky_X2_copy (b := b) hU (fun q hq => hL q ((by decide : ∀ q ∈ kyL_X2_copy, q ∈ kyL_X0_takeBack) q hq)) (fun z => z.elim) h) h (fun x22 p24 h g23 => ?_)
    have h := h g23
    have K := k9_tr K p24.2
    exact ⟨h, K⟩
  · intro c25
    have h := h.2 c25
    exact ⟨h, K⟩
theorem ky_X0_takeBack {b : Bool} {L : List (Nat × Nat)} (hU : ∀ q ∈ L, q ∈ nyT) (hL : ∀ q ∈ kyL_X0_takeBack, q ∈ L) (hb : False → b = false) {Q : Int32 → HS → Prop} {v0 : Nat} {S : HS} (h : P_X0_takeBack v0 Q S) : P_X0_takeBack v0 (fun r T => Q r T ∧ K9 b L S T) S := ky_X0_takeBack_0 hU hL hb h (k9_rf b L S)
abbrev kyL_X10_facing : List (Nat × Nat) := []
set_option maxRecDepth 20000 in
set_option maxHeartbeats 1000000 in
theorem ky_X10_facing_0 {b : Bool} {L : List (Nat × Nat)} (hU : ∀ q ∈ L, q ∈ nyT) (hL : ∀ q ∈ kyL_X10_facing, q ∈ L) (hb : False → b = false) {Q : Int32 → HS → Prop} {v0 : Nat} {v1 : Int32} {v2 : Int32} {S0 S : HS} (h : P_X10_facing_0 Q v0 v1 v2 S) (K : K9 b L S0 S) : P_X10_facing_0 (fun r T => Q r T ∧ K9 b L S0 T) v0 v1 v2 S := by
  delta P_X10_facing_0 at h ⊢
  refine ⟨?_, ?_⟩
  · intro c1
    have h := h.1 c1
    obtain ⟨c2, h⟩ := h
    refine ⟨c2, ?_⟩
    have o3 := c2
    obtain ⟨b4, e5, h⟩ := h
    refine ⟨b4, e5, ?_⟩
    obtain ⟨c6, h⟩ := h
    refine ⟨c6, ?_⟩
    obtain ⟨c7, h⟩ := h
    refine ⟨c7, ?_⟩
    intro x9 e8
    have h := h x9 e8
    exact ⟨h, K⟩
  · intro c10
    have h := h.2 c10
    obtain ⟨c11, h⟩ := h
    refine ⟨c11, ?_⟩
    have o12 := c11
    obtain ⟨b13, e14, h⟩ := h
    refine ⟨b13, e14, ?_⟩
    obtain ⟨c15, h⟩ := h
    refine ⟨c15, ?_⟩
    obtain ⟨c16, h⟩ := h
    refine ⟨c16, ?_⟩
    intro x18 e17
    have h := h x18 e17
    exact ⟨h, K⟩
theorem ky_X10_facing {b : Bool} {L : List (Nat × Nat)} (hU : ∀ q ∈ L, q ∈ nyT) (hL : ∀ q ∈ kyL_X10_facing, q ∈ L) (hb : False → b = false) {Q : Int32 → HS → Prop} {v0 : Nat} {v1 : Int32} {v2 : Int32} {S : HS} (h : P_X10_facing v0 v1 v2 Q S) : P_X10_facing v0 v1 v2 (fun r T => Q r T ∧ K9 b L S T) S := ky_X10_facing_0 hU hL hb h (k9_rf b L S)
abbrev kyL_X10_across : List (Nat × Nat) := []
set_option maxRecDepth 20000 in
set_option maxHeartbeats 1000000 in
theorem ky_X10_across_0 {b : Bool} {L : List (Nat × Nat)} (hU : ∀ q ∈ L, q ∈ nyT) (hL : ∀ q ∈ kyL_X10_across, q ∈ L) (hb : False → b = false) {Q : Int32 → HS → Prop} {v0 : Nat} {v1 : Int32} {v2 : Int32} {v3 : Int32} {S0 S : HS} (h : P_X10_across_0 Q v0 v1 v2 v3 S) (K : K9 b L S0 S) : P_X10_across_0 (fun r T => Q r T ∧ K9 b L S0 T) v0 v1 v2 v3 S := by
  delta P_X10_across_0 at h ⊢
  obtain ⟨c1, h⟩ := h
  refine ⟨c1, ?_⟩
  have o2 := c1
  obtain ⟨b3, e4, h⟩ := h
  refine ⟨b3, e4, ?_⟩
  obtain ⟨c5, h⟩ := h
  refine ⟨c5, ?_⟩
  obtain ⟨c6, h⟩ := h
  refine ⟨c6, ?_⟩
  intro x8 e7
  have h := h x8 e7
  refine cm_X10_facing (ky_X10_facing (b := b) hU (fun q hq => hL q ((by decide : ∀ q ∈ kyL_X10_facing, q ∈ kyL_X10_across) q hq)) (fun z => z.elim) h) h (fun x9 x10 p12 h g11 => ?_)
  have h := h g11
  have K := k9_tr K p12.2
  have o2 := gr_ob p12.2.1 o2
  intro x14 e13
  have h := h x14 e13
  refine ⟨?_, ?_⟩
  · intro c15
    have h := h.1 c15
    refine ⟨?_, ?_⟩
    · intro c16
      have h := h.1 c16
      exact ⟨h, K⟩
    · intro c17
      have h := h.2 c17
      obtain ⟨b18, e19, h⟩ := h
      refine ⟨b18, e19, ?_⟩
      obtain ⟨c20, h⟩ := h
      refine ⟨c20, ?_⟩
      obtain ⟨c21, h⟩ := h
      refine ⟨c21, ?_⟩
      intro x23 e22
      have h := h x23 e22
      exact ⟨h, K⟩
  · intro c24
    have h := h.2 c24
    obtain ⟨b25, e26, h⟩ := h
    refine ⟨b25, e26, ?_⟩
    obtain ⟨c27, h⟩ := h
    refine ⟨c27, ?_⟩
    obtain ⟨c28, h⟩ := h
    refine ⟨c28, ?_⟩
    intro x30 e29
    have h := h x30 e29
    exact ⟨h, K⟩
theorem ky_X10_across {b : Bool} {L : List (Nat × Nat)} (hU : ∀ q ∈ L, q ∈ nyT) (hL : ∀ q ∈ kyL_X10_across, q ∈ L) (hb : False → b = false) {Q : Int32 → HS → Prop} {v0 : Nat} {v1 : Int32} {v2 : Int32} {v3 : Int32} {S : HS} (h : P_X10_across v0 v1 v2 v3 Q S) : P_X10_across v0 v1 v2 v3 (fun r T => Q r T ∧ K9 b L S T) S := ky_X10_across_0 hU hL hb h (k9_rf b L S)
abbrev kyL_X10_air : List (Nat × Nat) := []
set_option maxRecDepth 20000 in
set_option maxHeartbeats 1000000 in
theorem ky_X10_air_0 {b : Bool} {L : List (Nat × Nat)} (hU : ∀ q ∈ L, q ∈ nyT) (hL : ∀ q ∈ kyL_X10_air, q ∈ L) (hb : False → b = false) {Q : Int32 → HS → Prop} {v0 : Nat} {v1 : Int32} {v2 : Int32} {v3 : Int32} {S0 S : HS} (h : P_X10_air_0 Q v0 v1 v2 v3 S) (K : K9 b L S0 S) : P_X10_air_0 (fun r T => Q r T ∧ K9 b L S0 T) v0 v1 v2 v3 S := by
  delta P_X10_air_0 at h ⊢
  obtain ⟨c1, h⟩ := h
  refine ⟨c1, ?_⟩
  have o2 := c1
  obtain ⟨b3, e4, h⟩ := h
  refine ⟨b3, e4, ?_⟩
  obtain ⟨c5, h⟩ := h
  refine ⟨c5, ?_⟩
  obtain ⟨c6, h⟩ := h
  refine ⟨c6, ?_⟩
  intro x8 e7
  have h := h x8 e7
  refine cm_X10_facing (ky_X10_facing (b := b) hU (fun q hq => hL q ((by decide : ∀ q ∈ kyL_X10_facing, q ∈ kyL_X10_air) q hq)) (fun z => z.elim) h) h (fun x9 x10 p12 h g11 => ?_)
  have h := h g11
  have K := k9_tr K p12.2
  have o2 := gr_ob p12.2.1 o2
  intro x14 e13
  have h := h x14 e13
  refine ⟨?_, ?_⟩
  · intro c15
    have h := h.1 c15
    refine ⟨?_, ?_⟩
    · intro c16
      have h := h.1 c16
      exact ⟨h, K⟩
    · intro c17
      have h := h.2 c17
      obtain ⟨b18, e19, h⟩ := h
      refine ⟨b18, e19, ?_⟩
      obtain ⟨c20, h⟩ := h
      refine ⟨c20, ?_⟩
      obtain ⟨c21, h⟩ := h
      refine ⟨c21, ?_⟩
      intro x23 e22
      have h := h x23 e22
      exact ⟨h, K⟩
  · intro c24
    have h := h.2 c24
    obtain ⟨b25, e26, h⟩ := h
    refine ⟨b25, e26, ?_⟩
    obtain ⟨c27, h⟩ := h
    refine ⟨c27, ?_⟩
    obtain ⟨c28, h⟩ := h
    refine ⟨c28, ?_⟩
    intro x30 e29
    have h := h x30 e29
    exact ⟨h, K⟩
theorem ky_X10_air {b : Bool} {L : List (Nat × Nat)} (hU : ∀ q ∈ L, q ∈ nyT) (hL : ∀ q ∈ kyL_X10_air, q ∈ L) (hb : False → b = false) {Q : Int32 → HS → Prop} {v0 : Nat} {v1 : Int32} {v2 : Int32} {v3 : Int32} {S : HS} (h : P_X10_air v0 v1 v2 v3 Q S) : P_X10_air v0 v1 v2 v3 (fun r T => Q r T ∧ K9 b L S T) S := ky_X10_air_0 hU hL hb h (k9_rf b L S)
abbrev kyL_X10_begins : List (Nat × Nat) := []
set_option maxRecDepth 20000 in
set_option maxHeartbeats 1000000 in
theorem ky_X10_begins_0 {b : Bool} {L : List (Nat × Nat)} (hU : ∀ q ∈ L, q ∈ nyT) (hL : ∀ q ∈ kyL_X10_begins, q ∈ L) (hb : False → b = false) {Q : Int32 → HS → Prop} {v0 : Nat} {v1 : Int32} {v2 : Int32} {S0 S : HS} (h : P_X10_begins_0 Q v0 v1 v2 S) (K : K9 b L S0 S) : P_X10_begins_0 (fun r T => Q r T ∧ K9 b L S0 T) v0 v1 v2 S := by
  delta P_X10_begins_0 at h ⊢
  refine ⟨?_, ?_⟩
  · intro c1
    have h := h.1 c1
    obtain ⟨c2, h⟩ := h
    refine ⟨c2, ?_⟩
    have o3 := c2
    obtain ⟨b4, e5, h⟩ := h
    refine ⟨b4, e5, ?_⟩
    obtain ⟨c6, h⟩ := h
    refine ⟨c6, ?_⟩
    obtain ⟨c7, h⟩ := h
    refine ⟨c7, ?_⟩
    intro x9 e8
    have h := h x9 e8
    exact ⟨h, K⟩
  · intro c10
    have h := h.2 c10
    obtain ⟨c11, h⟩ := h
    refine ⟨c11, ?_⟩
    have o12 := c11
    obtain ⟨b13, e14, h⟩ := h
    refine ⟨b13, e14, ?_⟩
    obtain ⟨c15, h⟩ := h
    refine ⟨c15, ?_⟩
    obtain ⟨c16, h⟩ := h
    refine ⟨c16, ?_⟩
    intro x18 e17
    have h := h x18 e17
    exact ⟨h, K⟩
theorem ky_X10_begins {b : Bool} {L : List (Nat × Nat)} (hU : ∀ q ∈ L, q ∈ nyT) (hL : ∀ q ∈ kyL_X10_begins, q ∈ L) (hb : False → b = false) {Q : Int32 → HS → Prop} {v0 : Nat} {v1 : Int32} {v2 : Int32} {S : HS} (h : P_X10_begins v0 v1 v2 Q S) : P_X10_begins v0 v1 v2 (fun r T => Q r T ∧ K9 b L S T) S := ky_X10_begins_0 hU hL hb h (k9_rf b L S)
abbrev kyL_X10_ends : List (Nat × Nat) := []
set_option maxRecDepth 20000 in
set_option maxHeartbeats 1000000 in
theorem ky_X10_ends_0 {b : Bool} {L : List (Nat × Nat)} (hU : ∀ q ∈ L, q ∈ nyT) (hL : ∀ q ∈ kyL_X10_ends, q ∈ L) (hb : False → b = false) {Q : Int32 → HS → Prop} {v0 : Nat} {v1 : Int32} {v2 : Int32} {S0 S : HS} (h : P_X10_ends_0 Q v0 v1 v2 S) (K : K9 b L S0 S) : P_X10_ends_0 (fun r T => Q r T ∧ K9 b L S0 T) v0 v1 v2 S := by
  delta P_X10_ends_0 at h ⊢
  refine ⟨?_, ?_⟩
  · intro c1
    have h := h.1 c1
    obtain ⟨c2, h⟩ := h
    refine ⟨c2, ?_⟩
    have o3 := c2
    obtain ⟨b4, e5, h⟩ := h
    refine ⟨b4, e5, ?_⟩
    obtain ⟨c6, h⟩ := h
    refine ⟨c6, ?_⟩
    obtain ⟨c7, h⟩ := h
    refine ⟨c7, ?_⟩
    intro x9 e8
    have h := h x9 e8
    exact ⟨h, K⟩
  · intro c10
    have h := h.2 c10
    obtain ⟨c11, h⟩ := h
    refine ⟨c11, ?_⟩
    have o12 := c11
    obtain ⟨b13, e14, h⟩ := h
    refine ⟨b13, e14, ?_⟩
    obtain ⟨c15, h⟩ := h
    refine ⟨c15, ?_⟩
    obtain ⟨c16, h⟩ := h
    refine ⟨c16, ?_⟩
    intro x18 e17
    have h := h x18 e17
    exact ⟨h, K⟩
theorem ky_X10_ends {b : Bool} {L : List (Nat × Nat)} (hU : ∀ q ∈ L, q ∈ nyT) (hL : ∀ q ∈ kyL_X10_ends, q ∈ L) (hb : False → b = false) {Q : Int32 → HS → Prop} {v0 : Nat} {v1 : Int32} {v2 : Int32} {S : HS} (h : P_X10_ends v0 v1 v2 Q S) : P_X10_ends v0 v1 v2 (fun r T => Q r T ∧ K9 b L S T) S := ky_X10_ends_0 hU hL hb h (k9_rf b L S)
abbrev kyL_X10_find : List (Nat × Nat) := []
set_option maxRecDepth 20000 in
set_option maxHeartbeats 1000000 in
theorem kyB_X10_find_2 {b : Bool} {L : List (Nat × Nat)} (hU : ∀ q ∈ L, q ∈ nyT) (hL : ∀ q ∈ kyL_X10_find, q ∈ L) (hb : False → b = false) {Q : Int32 → HS → Prop} {X2 X2_2 : Nat → Int64 → Int32 → HS → Prop} {v0 : Nat} {v1 : Int64} {v3 : Int32} {S0 S : HS} (h : B_X10_find_2 Q X2 v0 v1 v3 S) (K : K9 b L S0 S) (hX2 : ∀ (u0 : Nat) (u1 : Int64) (u2 : Int32) (u3 : HS), X2 u0 u1 u2 u3 → K9 b L S0 u3 → X2_2 u0 u1 u2 u3) : B_X10_find_2 (fun r T => Q r T ∧ K9 b L S0 T) X2_2 v0 v1 v3 S := by
  delta B_X10_find_2 at h ⊢
  obtain ⟨c1, h⟩ := h
  refine ⟨c1, ?_⟩
  have o2 := c1
  intro x4 e3
  have h := h x4 e3
  refine ⟨?_, ?_⟩
  · intro c5
    have h := h.1 c5
    exact ⟨h, K⟩
  · intro c6
    have h := h.2 c6
    obtain ⟨b7, e8, h⟩ := h
    refine ⟨b7, e8, ?_⟩
    obtain ⟨c9, h⟩ := h
    refine ⟨c9, ?_⟩
    obtain ⟨c10, h⟩ := h
    refine ⟨c10, ?_⟩
    intro x12 e11
    have h := h x12 e11
    refine ⟨?_, ?_⟩
    · intro c13
      have h := h.1 c13
      intro x15 e14
      have h := h x15 e14
      exact hX2 _ _ _ _ h K
    · intro c16
      have h := h.2 c16
      exact ⟨h, K⟩
theorem ky_X10_find_2 {b : Bool} {L : List (Nat × Nat)} (hU : ∀ q ∈ L, q ∈ nyT) (hL : ∀ q ∈ kyL_X10_find, q ∈ L) (hb : False → b = false) {Q : Int32 → HS → Prop} {v0 : Nat} {v1 : Int64} {v3 : Int32} {S0 S : HS} (h : P_X10_find_2 Q v0 v1 v3 S) (K : K9 b L S0 S) : P_X10_find_2 (fun r T => Q r T ∧ K9 b L S0 T) v0 v1 v3 S := h (fun v0 v1 v3 S => K9 b L S0 S → P_X10_find_2 (fun r T => Q r T ∧ K9 b L S0 T) v0 v1 v3 S) (fun v0 v1 v3 S hB K => fd_X10_find_2 (kyB_X10_find_2 hU hL hb hB K (fun _ _ _ _ hx K => hx K))) K
set_option maxRecDepth 20000 in
set_option maxHeartbeats 1000000 in
theorem ky_X10_find_0 {b : Bool} {L : List (Nat × Nat)} (hU : ∀ q ∈ L, q ∈ nyT) (hL : ∀ q ∈ kyL_X10_find, q ∈ L) (hb : False → b = false) {Q : Int32 → HS → Prop} {v0 : Nat} {v1 : Int64} {S0 S : HS} (h : P_X10_find_0 Q v0 v1 S) (K : K9 b L S0 S) : P_X10_find_0 (fun r T => Q r T ∧ K9 b L S0 T) v0 v1 S := by
  delta P_X10_find_0 at h ⊢
  exact ky_X10_find_2 hU hL hb h K
theorem ky_X10_find {b : Bool} {L : List (Nat × Nat)} (hU : ∀ q ∈ L, q ∈ nyT) (hL : ∀ q ∈ kyL_X10_find, q ∈ L) (hb : False → b = false) {Q : Int32 → HS → Prop} {v0 : Nat} {v1 : Int64} {S : HS} (h : P_X10_find v0 v1 Q S) : P_X10_find v0 v1 (fun r T => Q r T ∧ K9 b L S T) S := ky_X10_find_0 hU hL hb h (k9_rf b L S)
abbrev kyL_X10_init : List (Nat × Nat) := []
set_option maxRecDepth 20000 in
set_option maxHeartbeats 1000000 in
theorem ky_X10_init_0 {b : Bool} {L : List (Nat × Nat)} (hU : ∀ q ∈ L, q ∈ nyT) (hL : ∀ q ∈ kyL_X10_init, q ∈ L) (hb : False → b = false) {Q : HS → Prop} {v0 : Nat} {S0 S : HS} (h : P_X10_init_0 Q v0 S) (K : K9 b L S0 S) : P_X10_init_0 (fun T => Q T ∧ K9 b L S0 T) v0 S := by
  delta P_X10_init_0 at h ⊢
  intro x2 e1
  have h := h x2 e1
  intro x4 e3
  have h := h x4 e3
  have n5 := k9_nf K e1
  have K := k9_W K e1 e3
  have o6 := ob_of_new e3
  obtain ⟨c7, h⟩ := h
  refine ⟨c7, ?_⟩
  have o8 := c7
  intro x10 e9
  have h := h x10 e9
  have K := k9_R K hU e9 o8 (by decide) (by decide)
  have o6 := ob_wR o6 e9
  have o8 := ob_wR o8 e9
  intro x12 e11
  have h := h x12 e11
  intro x14 e13
  have h := h x14 e13
  have n15 := k9_nf K e11
  have K := k9_W K e11 e13
  have o6 := gr_ob (gr_of_new e13 e11) o6
  have o8 := gr_ob (gr_of_new e13 e11) o8
  have o16 := ob_of_new e13
  intro x18 e17
  have h := h x18 e17
  have K := k9_R K hU e17 o8 (by decide) (by decide)
  have o6 := ob_wR o6 e17
  have o8 := ob_wR o8 e17
  have o16 := ob_wR o16 e17
  intro x20 e19
  have h := h x20 e19
  intro x22 e21
  have h := h x22 e21
  have n23 := k9_nf K e19
  have K := k9_W K e19 e21
  have o6 := gr_ob (gr_of_new e21 e19) o6
  have o8 := gr_ob (gr_of_new e21 e19) o8
  have o16 := gr_ob (gr_of_new e21 e19) o16
  have o24 := ob_of_new e21
  intro x26 e25
  have h := h x26 e25
  have K := k9_R K hU e25 o8 (by decide) (by decide)
  have o6 := ob_wR o6 e25
  have o8 := ob_wR o8 e25
  have o16 := ob_wR o16 e25
  have o24 := ob_wR o24 e25
  intro x28 e27
  have h := h x28 e27
  intro x30 e29
  have h := h x30 e29
  have n31 := k9_nf K e27
  have K := k9_W K e27 e29
  have o6 := gr_ob (gr_of_new e29 e27) o6
  have o8 := gr_ob (gr_of_new e29 e27) o8
  have o16 := gr_ob (gr_of_new e29 e27) o16
  have o24 := gr_ob (gr_of_new e29 e27) o24
  have o32 := ob_of_new e29
  intro x34 e33
  have h := h x34 e33
  have K := k9_R K hU e33 o8 (by decide) (by decide)
  have o6 := ob_wR o6 e33
  have o8 := ob_wR o8 e33
  have o16 := ob_wR o16 e33
  have o24 := ob_wR o24 e33
  have o32 := ob_wR o32 e33
  intro x36 e35
  have h := h x36 e35
  intro x38 e37
  have h := h x38 e37
  have n39 := k9_nf K e35
  have K := k9_W K e35 e37
  have o6 := gr_ob (gr_of_new e37 e35) o6
  have o8 := gr_ob (gr_of_new e37 e35) o8
  have o16 := gr_ob (gr_of_new e37 e35) o16
  have o24 := gr_ob (gr_of_new e37 e35) o24
  have o32 := gr_ob (gr_of_new e37 e35) o32
  have o40 := ob_of_new e37
  intro x42 e41
  have h := h x42 e41
  have K := k9_R K hU e41 o8 (by decide) (by decide)
  have o6 := ob_wR o6 e41
  have o8 := ob_wR o8 e41
  have o16 := ob_wR o16 e41
  have o24 := ob_wR o24 e41
  have o32 := ob_wR o32 e41
  have o40 := ob_wR o40 e41
  intro x44 e43
  have h := h x44 e43
  intro x46 e45
  have h := h x46 e45
  have n47 := k9_nf K e43
  have K := k9_W K e43 e45
  have o6 := gr_ob (gr_of_new e45 e43) o6
  have o8 := gr_ob (gr_of_new e45 e43) o8
  have o16 := gr_ob (gr_of_new e45 e43) o16
  have o24 := gr_ob (gr_of_new e45 e43) o24
  have o32 := gr_ob (gr_of_new e45 e43) o32
  have o40 := gr_ob (gr_of_new e45 e43) o40
  have o48 := ob_of_new e45
  intro x50 e49
  have h := h x50 e49
  have K := k9_R K hU e49 o8 (by decide) (by decide)
  have o6 := ob_wR o6 e49
  have o8 := ob_wR o8 e49
  have o16 := ob_wR o16 e49
  have o24 := ob_wR o24 e49
  have o32 := ob_wR o32 e49
  have o40 := ob_wR o40 e49
  have o48 := ob_wR o48 e49
  intro x52 e51
  have h := h x52 e51
  intro x54 e53
  have h := h x54 e53
  have n55 := k9_nf K e51
  have K := k9_W K e51 e53
  have o6 := gr_ob (gr_of_new e53 e51) o6
  have o8 := gr_ob (gr_of_new e53 e51) o8
  have o16 := gr_ob (gr_of_new e53 e51) o16
  have o24 := gr_ob (gr_of_new e53 e51) o24
  have o32 := gr_ob (gr_of_new e53 e51) o32
  have o40 := gr_ob (gr_of_new e53 e51) o40
  have o48 := gr_ob (gr_of_new e53 e51) o48
  have o56 := ob_of_new e53
  intro x58 e57
  have h := h x58 e57
  have K := k9_R K hU e57 o8 (by decide) (by decide)
  have o6 := ob_wR o6 e57
  have o8 := ob_wR o8 e57
  have o16 := ob_wR o16 e57
  have o24 := ob_wR o24 e57
  have o32 := ob_wR o32 e57
  have o40 := ob_wR o40 e57
  have o48 := ob_wR o48 e57
  have o56 := ob_wR o56 e57
  intro x60 e59
  have h := h x60 e59
  intro x62 e61
  have h := h x62 e61
  have n63 := k9_nf K e59
  have K := k9_W K e59 e61
  have o6 := gr_ob (gr_of_new e61 e59) o6
  have o8 := gr_ob (gr_of_new e61 e59) o8
  have o16 := gr_ob (gr_of_new e61 e59) o16
  have o24 := gr_ob (gr_of_new e61 e59) o24
  have o32 := gr_ob (gr_of_new e61 e59) o32
  have o40 := gr_ob (gr_of_new e61 e59) o40
  have o48 := gr_ob (gr_of_new e61 e59) o48
  have o56 := gr_ob (gr_of_new e61 e59) o56
  have o64 := ob_of_new e61
  intro x66 e65
  have h := h x66 e65
  have K := k9_R K hU e65 o8 (by decide) (by decide)
  have o6 := ob_wR o6 e65
  have o8 := ob_wR o8 e65
  have o16 := ob_wR o16 e65
  have o24 := ob_wR o24 e65
  have o32 := ob_wR o32 e65
  have o40 := ob_wR o40 e65
  have o48 := ob_wR o48 e65
  have o56 := ob_wR o56 e65
  have o64 := ob_wR o64 e65
  intro x68 e67
  have h := h x68 e67
  intro x70 e69
  have h := h x70 e69
  have n71 := k9_nf K e67
  have K := k9_W K e67 e69
  have o6 := gr_ob (gr_of_new e69 e67) o6
  have o8 := gr_ob (gr_of_new e69 e67) o8
  have o16 := gr_ob (gr_of_new e69 e67) o16
  have o24 := gr_ob (gr_of_new e69 e67) o24
  have o32 := gr_ob (gr_of_new e69 e67) o32
  have o40 := gr_ob (gr_of_new e69 e67) o40
  have o48 := gr_ob (gr_of_new e69 e67) o48
  have o56 := gr_ob (gr_of_new e69 e67) o56
  have o64 := gr_ob (gr_of_new e69 e67) o64
  have o72 := ob_of_new e69
  intro x74 e73
  have h := h x74 e73
  have K := k9_R K hU e73 o8 (by decide) (by decide)
  have o6 := ob_wR o6 e73
  have o8 := ob_wR o8 e73
  have o16 := ob_wR o16 e73
  have o24 := ob_wR o24 e73
  have o32 := ob_wR o32 e73
  have o40 := ob_wR o40 e73
  have o48 := ob_wR o48 e73
  have o56 := ob_wR o56 e73
  have o64 := ob_wR o64 e73
  have o72 := ob_wR o72 e73
  intro x76 e75
  have h := h x76 e75
  intro x78 e77
  have h := h x78 e77
  have n79 := k9_nf K e75
  have K := k9_W K e75 e77
  have o6 := gr_ob (gr_of_new e77 e75) o6
  have o8 := gr_ob (gr_of_new e77 e75) o8
  have o16 := gr_ob (gr_of_new e77 e75) o16
  have o24 := gr_ob (gr_of_new e77 e75) o24
  have o32 := gr_ob (gr_of_new e77 e75) o32
  have o40 := gr_ob (gr_of_new e77 e75) o40
  have o48 := gr_ob (gr_of_new e77 e75) o48
  have o56 := gr_ob (gr_of_new e77 e75) o56
  have o64 := gr_ob (gr_of_new e77 e75) o64
  have o72 := gr_ob (gr_of_new e77 e75) o72
  have o80 := ob_of_new e77
  intro x82 e81
  have h := h x82 e81
  have K := k9_R K hU e81 o8 (by decide) (by decide)
  have o6 := ob_wR o6 e81
  have o8 := ob_wR o8 e81
  have o16 := ob_wR o16 e81
  have o24 := ob_wR o24 e81
  have o32 := ob_wR o32 e81
  have o40 := ob_wR o40 e81
  have o48 := ob_wR o48 e81
  have o56 := ob_wR o56 e81
  have o64 := ob_wR o64 e81
  have o72 := ob_wR o72 e81
  have o80 := ob_wR o80 e81
  intro x84 e83
  have h := h x84 e83
  intro x86 e85
  have h := h x86 e85
  have n87 := k9_nf K e83
  have K := k9_W K e83 e85
  have o6 := gr_ob (gr_of_new e85 e83) o6
  have o8 := gr_ob (gr_of_new e85 e83) o8
  have o16 := gr_ob (gr_of_new e85 e83) o16
  have o24 := gr_ob (gr_of_new e85 e83) o24
  have o32 := gr_ob (gr_of_new e85 e83) o32
  have o40 := gr_ob (gr_of_new e85 e83) o40
  have o48 := gr_ob (gr_of_new e85 e83) o48
  have o56 := gr_ob (gr_of_new e85 e83) o56
  have o64 := gr_ob (gr_of_new e85 e83) o64
  have o72 := gr_ob (gr_of_new e85 e83) o72
  have o80 := gr_ob (gr_of_new e85 e83) o80
  have o88 := ob_of_new e85
  intro x90 e89
  have h := h x90 e89
  have K := k9_R K hU e89 o8 (by decide) (by decide)
  have o6 := ob_wR o6 e89
  have o8 := ob_wR o8 e89
  have o16 := ob_wR o16 e89
  have o24 := ob_wR o24 e89
  have o32 := ob_wR o32 e89
  have o40 := ob_wR o40 e89
  have o48 := ob_wR o48 e89
  have o56 := ob_wR o56 e89
  have o64 := ob_wR o64 e89
  have o72 := ob_wR o72 e89
  have o80 := ob_wR o80 e89
  have o88 := ob_wR o88 e89
  intro x92 e91
  have h := h x92 e91
  intro x94 e93
  have h := h x94 e93
  have n95 := k9_nf K e91
  have K := k9_W K e91 e93
  have o6 := gr_ob (gr_of_new e93 e91) o6
  have o8 := gr_ob (gr_of_new e93 e91) o8
  have o16 := gr_ob (gr_of_new e93 e91) o16
  have o24 := gr_ob (gr_of_new e93 e91) o24
  have o32 := gr_ob (gr_of_new e93 e91) o32
  have o40 := gr_ob (gr_of_new e93 e91) o40
  have o48 := gr_ob (gr_of_new e93 e91) o48
  have o56 := gr_ob (gr_of_new e93 e91) o56
  have o64 := gr_ob (gr_of_new e93 e91) o64
  have o72 := gr_ob (gr_of_new e93 e91) o72
  have o80 := gr_ob (gr_of_new e93 e91) o80
  have o88 := gr_ob (gr_of_new e93 e91) o88
  have o96 := ob_of_new e93
  intro x98 e97
  have h := h x98 e97
  have K := k9_R K hU e97 o8 (by decide) (by decide)
  have o6 := ob_wR o6 e97
  have o8 := ob_wR o8 e97
  have o16 := ob_wR o16 e97
  have o24 := ob_wR o24 e97
  have o32 := ob_wR o32 e97
  have o40 := ob_wR o40 e97
  have o48 := ob_wR o48 e97
  have o56 := ob_wR o56 e97
  have o64 := ob_wR o64 e97
  have o72 := ob_wR o72 e97
  have o80 := ob_wR o80 e97
  have o88 := ob_wR o88 e97
  have o96 := ob_wR o96 e97
  intro x100 e99
  have h := h x100 e99
  intro x102 e101
  have h := h x102 e101
  have n103 := k9_nf K e99
  have K := k9_W K e99 e101
  have o6 := gr_ob (gr_of_new e101 e99) o6
  have o8 := gr_ob (gr_of_new e101 e99) o8
  have o16 := gr_ob (gr_of_new e101 e99) o16
  have o24 := gr_ob (gr_of_new e101 e99) o24
  have o32 := gr_ob (gr_of_new e101 e99) o32
  have o40 := gr_ob (gr_of_new e101 e99) o40
  have o48 := gr_ob (gr_of_new e101 e99) o48
  have o56 := gr_ob (gr_of_new e101 e99) o56
  have o64 := gr_ob (gr_of_new e101 e99) o64
  have o72 := gr_ob (gr_of_new e101 e99) o72
  have o80 := gr_ob (gr_of_new e101 e99) o80
  have o88 := gr_ob (gr_of_new e101 e99) o88
  have o96 := gr_ob (gr_of_new e101 e99) o96
  have o104 := ob_of_new e101
  intro x106 e105
  have h := h x106 e105
  have K := k9_R K hU e105 o8 (by decide) (by decide)
  have o6 := ob_wR o6 e105
  have o8 := ob_wR o8 e105
  have o16 := ob_wR o16 e105
  have o24 := ob_wR o24 e105
  have o32 := ob_wR o32 e105
  have o40 := ob_wR o40 e105
  have o48 := ob_wR o48 e105
  have o56 := ob_wR o56 e105
  have o64 := ob_wR o64 e105
  have o72 := ob_wR o72 e105
  have o80 := ob_wR o80 e105
  have o88 := ob_wR o88 e105
  have o96 := ob_wR o96 e105
  have o104 := ob_wR o104 e105
  intro x108 e107
  have h := h x108 e107
  intro x110 e109
  have h := h x110 e109
  have n111 := k9_nf K e107
  have K := k9_W K e107 e109
  have o6 := gr_ob (gr_of_new e109 e107) o6
  have o8 := gr_ob (gr_of_new e109 e107) o8
  have o16 := gr_ob (gr_of_new e109 e107) o16
  have o24 := gr_ob (gr_of_new e109 e107) o24
  have o32 := gr_ob (gr_of_new e109 e107) o32
  have o40 := gr_ob (gr_of_new e109 e107) o40
  have o48 := gr_ob (gr_of_new e109 e107) o48
  have o56 := gr_ob (gr_of_new e109 e107) o56
  have o64 := gr_ob (gr_of_new e109 e107) o64
  have o72 := gr_ob (gr_of_new e109 e107) o72
  have o80 := gr_ob (gr_of_new e109 e107) o80
  have o88 := gr_ob (gr_of_new e109 e107) o88
  have o96 := gr_ob (gr_of_new e109 e107) o96
  have o104 := gr_ob (gr_of_new e109 e107) o104
  have o112 := ob_of_new e109
  intro x114 e113
  have h := h x114 e113
  have K := k9_R K hU e113 o8 (by decide) (by decide)
  have o6 := ob_wR o6 e113
  have o8 := ob_wR o8 e113
  have o16 := ob_wR o16 e113
  have o24 := ob_wR o24 e113
  have o32 := ob_wR o32 e113
  have o40 := ob_wR o40 e113
  have o48 := ob_wR o48 e113
  have o56 := ob_wR o56 e113
  have o64 := ob_wR o64 e113
  have o72 := ob_wR o72 e113
  have o80 := ob_wR o80 e113
  have o88 := ob_wR o88 e113
  have o96 := ob_wR o96 e113
  have o104 := ob_wR o104 e113
  have o112 := ob_wR o112 e113
  intro x116 e115
  have h := h x116 e115
  intro x118 e117
  have h := h x118 e117
  have n119 := k9_nf K e115
  have K := k9_W K e115 e117
  have o6 := gr_ob (gr_of_new e117 e115) o6
  have o8 := gr_ob (gr_of_new e117 e115) o8
  have o16 := gr_ob (gr_of_new e117 e115) o16
  have o24 := gr_ob (gr_of_new e117 e115) o24
  have o32 := gr_ob (gr_of_new e117 e115) o32
  have o40 := gr_ob (gr_of_new e117 e115) o40
  have o48 := gr_ob (gr_of_new e117 e115) o48
  have o56 := gr_ob (gr_of_new e117 e115) o56
  have o64 := gr_ob (gr_of_new e117 e115) o64
  have o72 := gr_ob (gr_of_new e117 e115) o72
  have o80 := gr_ob (gr_of_new e117 e115) o80
  have o88 := gr_ob (gr_of_new e117 e115) o88
  have o96 := gr_ob (gr_of_new e117 e115) o96
  have o104 := gr_ob (gr_of_new e117 e115) o104
  have o112 := gr_ob (gr_of_new e117 e115) o112
  have o120 := ob_of_new e117
  intro x122 e121
  have h := h x122 e121
  have K := k9_R K hU e121 o8 (by decide) (by decide)
  have o6 := ob_wR o6 e121
  have o8 := ob_wR o8 e121
  have o16 := ob_wR o16 e121
  have o24 := ob_wR o24 e121
  have o32 := ob_wR o32 e121
  have o40 := ob_wR o40 e121
  have o48 := ob_wR o48 e121
  have o56 := ob_wR o56 e121
  have o64 := ob_wR o64 e121
  have o72 := ob_wR o72 e121
  have o80 := ob_wR o80 e121
  have o88 := ob_wR o88 e121
  have o96 := ob_wR o96 e121
  have o104 := ob_wR o104 e121
  have o112 := ob_wR o112 e121
  have o120 := ob_wR o120 e121
  intro x124 e123
  have h := h x124 e123
  intro x126 e125
  have h := h x126 e125
  have n127 := k9_nf K e123
  have K := k9_W K e123 e125
  have o6 := gr_ob (gr_of_new e125 e123) o6
  have o8 := gr_ob (gr_of_new e125 e123) o8
  have o16 := gr_ob (gr_of_new e125 e123) o16
  have o24 := gr_ob (gr_of_new e125 e123) o24
  have o32 := gr_ob (gr_of_new e125 e123) o32
  have o40 := gr_ob (gr_of_new e125 e123) o40
  have o48 := gr_ob (gr_of_new e125 e123) o48
  have o56 := gr_ob (gr_of_new e125 e123) o56
  have o64 := gr_ob (gr_of_new e125 e123) o64
  have o72 := gr_ob (gr_of_new e125 e123) o72
  have o80 := gr_ob (gr_of_new e125 e123) o80
  have o88 := gr_ob (gr_of_new e125 e123) o88
  have o96 := gr_ob (gr_of_new e125 e123) o96
  have o104 := gr_ob (gr_of_new e125 e123) o104
  have o112 := gr_ob (gr_of_new e125 e123) o112
  have o120 := gr_ob (gr_of_new e125 e123) o120
  have o128 := ob_of_new e125
  intro x130 e129
  have h := h x130 e129
  have K := k9_R K hU e129 o8 (by decide) (by decide)
  have o6 := ob_wR o6 e129
  have o8 := ob_wR o8 e129
  have o16 := ob_wR o16 e129
  have o24 := ob_wR o24 e129
  have o32 := ob_wR o32 e129
  have o40 := ob_wR o40 e129
  have o48 := ob_wR o48 e129
  have o56 := ob_wR o56 e129
  have o64 := ob_wR o64 e129
  have o72 := ob_wR o72 e129
  have o80 := ob_wR o80 e129
  have o88 := ob_wR o88 e129
  have o96 := ob_wR o96 e129
  have o104 := ob_wR o104 e129
  have o112 := ob_wR o112 e129
  have o120 := ob_wR o120 e129
  have o128 := ob_wR o128 e129
  intro x132 e131
  have h := h x132 e131
  intro x134 e133
  have h := h x134 e133
  have n135 := k9_nf K e131
  have K := k9_W K e131 e133
  have o6 := gr_ob (gr_of_new e133 e131) o6
  have o8 := gr_ob (gr_of_new e133 e131) o8
  have o16 := gr_ob (gr_of_new e133 e131) o16
  have o24 := gr_ob (gr_of_new e133 e131) o24
  have o32 := gr_ob (gr_of_new e133 e131) o32
  have o40 := gr_ob (gr_of_new e133 e131) o40
  have o48 := gr_ob (gr_of_new e133 e131) o48
  have o56 := gr_ob (gr_of_new e133 e131) o56
  have o64 := gr_ob (gr_of_new e133 e131) o64
  have o72 := gr_ob (gr_of_new e133 e131) o72
  have o80 := gr_ob (gr_of_new e133 e131) o80
  have o88 := gr_ob (gr_of_new e133 e131) o88
  have o96 := gr_ob (gr_of_new e133 e131) o96
  have o104 := gr_ob (gr_of_new e133 e131) o104
  have o112 := gr_ob (gr_of_new e133 e131) o112
  have o120 := gr_ob (gr_of_new e133 e131) o120
  have o128 := gr_ob (gr_of_new e133 e131) o128
  have o136 := ob_of_new e133
  intro x138 e137
  have h := h x138 e137
  have K := k9_R K hU e137 o8 (by decide) (by decide)
  have o6 := ob_wR o6 e137
  have o8 := ob_wR o8 e137
  have o16 := ob_wR o16 e137
  have o24 := ob_wR o24 e137
  have o32 := ob_wR o32 e137
  have o40 := ob_wR o40 e137
  have o48 := ob_wR o48 e137
  have o56 := ob_wR o56 e137
  have o64 := ob_wR o64 e137
  have o72 := ob_wR o72 e137
  have o80 := ob_wR o80 e137
  have o88 := ob_wR o88 e137
  have o96 := ob_wR o96 e137
  have o104 := ob_wR o104 e137
  have o112 := ob_wR o112 e137
  have o120 := ob_wR o120 e137
  have o128 := ob_wR o128 e137
  have o136 := ob_wR o136 e137
  intro x140 e139
  have h := h x140 e139
  intro x142 e141
  have h := h x142 e141
  have n143 := k9_nf K e139
  have K := k9_W K e139 e141
  have o6 := gr_ob (gr_of_new e141 e139) o6
  have o8 := gr_ob (gr_of_new e141 e139) o8
  have o16 := gr_ob (gr_of_new e141 e139) o16
  have o24 := gr_ob (gr_of_new e141 e139) o24
  have o32 := gr_ob (gr_of_new e141 e139) o32
  have o40 := gr_ob (gr_of_new e141 e139) o40
  have o48 := gr_ob (gr_of_new e141 e139) o48
  have o56 := gr_ob (gr_of_new e141 e139) o56
  have o64 := gr_ob (gr_of_new e141 e139) o64
  have o72 := gr_ob (gr_of_new e141 e139) o72
  have o80 := gr_ob (gr_of_new e141 e139) o80
  have o88 := gr_ob (gr_of_new e141 e139) o88
  have o96 := gr_ob (gr_of_new e141 e139) o96
  have o104 := gr_ob (gr_of_new e141 e139) o104
  have o112 := gr_ob (gr_of_new e141 e139) o112
  have o120 := gr_ob (gr_of_new e141 e139) o120
  have o128 := gr_ob (gr_of_new e141 e139) o128
  have o136 := gr_ob (gr_of_new e141 e139) o136
  have o144 := ob_of_new e141
  intro x146 e145
  have h := h x146 e145
  have K := k9_R K hU e145 o8 (by decide) (by decide)
  have o6 := ob_wR o6 e145
  have o8 := ob_wR o8 e145
  have o16 := ob_wR o16 e145
  have o24 := ob_wR o24 e145
  have o32 := ob_wR o32 e145
  have o40 := ob_wR o40 e145
  have o48 := ob_wR o48 e145
  have o56 := ob_wR o56 e145
  have o64 := ob_wR o64 e145
  have o72 := ob_wR o72 e145
  have o80 := ob_wR o80 e145
  have o88 := ob_wR o88 e145
  have o96 := ob_wR o96 e145
  have o104 := ob_wR o104 e145
  have o112 := ob_wR o112 e145
  have o120 := ob_wR o120 e145
  have o128 := ob_wR o128 e145
  have o136 := ob_wR o136 e145
  have o144 := ob_wR o144 e145
  intro x148 e147
  have h := h x148 e147
  intro x150 e149
  have h := h x150 e149
  have n151 := k9_nf K e147
  have K := k9_W K e147 e149
  have o6 := gr_ob (gr_of_new e149 e147) o6
  have o8 := gr_ob (gr_of_new e149 e147) o8
  have o16 := gr_ob (gr_of_new e149 e147) o16
  have o24 := gr_ob (gr_of_new e149 e147) o24
  have o32 := gr_ob (gr_of_new e149 e147) o32
  have o40 := gr_ob (gr_of_new e149 e147) o40
  have o48 := gr_ob (gr_of_new e149 e147) o48
  have o56 := gr_ob (gr_of_new e149 e147) o56
  have o64 := gr_ob (gr_of_new e149 e147) o64
  have o72 := gr_ob (gr_of_new e149 e147) o72
  have o80 := gr_ob (gr_of_new e149 e147) o80
  have o88 := gr_ob (gr_of_new e149 e147) o88
  have o96 := gr_ob (gr_of_new e149 e147) o96
  have o104 := gr_ob (gr_of_new e149 e147) o104
  have o112 := gr_ob (gr_of_new e149 e147) o112
  have o120 := gr_ob (gr_of_new e149 e147) o120
  have o128 := gr_ob (gr_of_new e149 e147) o128
  have o136 := gr_ob (gr_of_new e149 e147) o136
  have o144 := gr_ob (gr_of_new e149 e147) o144
  have o152 := ob_of_new e149
  intro x154 e153
  have h := h x154 e153
  have K := k9_R K hU e153 o8 (by decide) (by decide)
  have o6 := ob_wR o6 e153
  have o8 := ob_wR o8 e153
  have o16 := ob_wR o16 e153
  have o24 := ob_wR o24 e153
  have o32 := ob_wR o32 e153
  have o40 := ob_wR o40 e153
  have o48 := ob_wR o48 e153
  have o56 := ob_wR o56 e153
  have o64 := ob_wR o64 e153
  have o72 := ob_wR o72 e153
  have o80 := ob_wR o80 e153
  have o88 := ob_wR o88 e153
  have o96 := ob_wR o96 e153
  have o104 := ob_wR o104 e153
  have o112 := ob_wR o112 e153
  have o120 := ob_wR o120 e153
  have o128 := ob_wR o128 e153
  have o136 := ob_wR o136 e153
  have o144 := ob_wR o144 e153
  have o152 := ob_wR o152 e153
  intro x156 e155
  have h := h x156 e155
  intro x158 e157
  have h := h x158 e157
  have n159 := k9_nf K e155
  have K := k9_W K e155 e157
  have o6 := gr_ob (gr_of_new e157 e155) o6
  have o8 := gr_ob (gr_of_new e157 e155) o8
  have o16 := gr_ob (gr_of_new e157 e155) o16
  have o24 := gr_ob (gr_of_new e157 e155) o24
  have o32 := gr_ob (gr_of_new e157 e155) o32
  have o40 := gr_ob (gr_of_new e157 e155) o40
  have o48 := gr_ob (gr_of_new e157 e155) o48
  have o56 := gr_ob (gr_of_new e157 e155) o56
  have o64 := gr_ob (gr_of_new e157 e155) o64
  have o72 := gr_ob (gr_of_new e157 e155) o72
  have o80 := gr_ob (gr_of_new e157 e155) o80
  have o88 := gr_ob (gr_of_new e157 e155) o88
  have o96 := gr_ob (gr_of_new e157 e155) o96
  have o104 := gr_ob (gr_of_new e157 e155) o104
  have o112 := gr_ob (gr_of_new e157 e155) o112
  have o120 := gr_ob (gr_of_new e157 e155) o120
  have o128 := gr_ob (gr_of_new e157 e155) o128
  have o136 := gr_ob (gr_of_new e157 e155) o136
  have o144 := gr_ob (gr_of_new e157 e155) o144
  have o152 := gr_ob (gr_of_new e157 e155) o152
  have o160 := ob_of_new e157
  intro x162 e161
  have h := h x162 e161
  have K := k9_R K hU e161 o8 (by decide) (by decide)
  have o6 := ob_wR o6 e161
  have o8 := ob_wR o8 e161
  have o16 := ob_wR o16 e161
  have o24 := ob_wR o24 e161
  have o32 := ob_wR o32 e161
  have o40 := ob_wR o40 e161
  have o48 := ob_wR o48 e161
  have o56 := ob_wR o56 e161
  have o64 := ob_wR o64 e161
  have o72 := ob_wR o72 e161
  have o80 := ob_wR o80 e161
  have o88 := ob_wR o88 e161
  have o96 := ob_wR o96 e161
  have o104 := ob_wR o104 e161
  have o112 := ob_wR o112 e161
  have o120 := ob_wR o120 e161
  have o128 := ob_wR o128 e161
  have o136 := ob_wR o136 e161
  have o144 := ob_wR o144 e161
  have o152 := ob_wR o152 e161
  have o160 := ob_wR o160 e161
  intro x164 e163
  have h := h x164 e163
  intro x166 e165
  have h := h x166 e165
  have n167 := k9_nf K e163
  have K := k9_W K e163 e165
  have o6 := gr_ob (gr_of_new e165 e163) o6
  have o8 := gr_ob (gr_of_new e165 e163) o8
  have o16 := gr_ob (gr_of_new e165 e163) o16
  have o24 := gr_ob (gr_of_new e165 e163) o24
  have o32 := gr_ob (gr_of_new e165 e163) o32
  have o40 := gr_ob (gr_of_new e165 e163) o40
  have o48 := gr_ob (gr_of_new e165 e163) o48
  have o56 := gr_ob (gr_of_new e165 e163) o56
  have o64 := gr_ob (gr_of_new e165 e163) o64
  have o72 := gr_ob (gr_of_new e165 e163) o72
  have o80 := gr_ob (gr_of_new e165 e163) o80
  have o88 := gr_ob (gr_of_new e165 e163) o88
  have o96 := gr_ob (gr_of_new e165 e163) o96
  have o104 := gr_ob (gr_of_new e165 e163) o104
  have o112 := gr_ob (gr_of_new e165 e163) o112
  have o120 := gr_ob (gr_of_new e165 e163) o120
  have o128 := gr_ob (gr_of_new e165 e163) o128
  have o136 := gr_ob (gr_of_new e165 e163) o136
  have o144 := gr_ob (gr_of_new e165 e163) o144
  have o152 := gr_ob (gr_of_new e165 e163) o152
  have o160 := gr_ob (gr_of_new e165 e163) o160
  have o168 := ob_of_new e165
  intro x170 e169
  have h := h x170 e169
  have K := k9_R K hU e169 o8 (by decide) (by decide)
  have o6 := ob_wR o6 e169
  have o8 := ob_wR o8 e169
  have o16 := ob_wR o16 e169
  have o24 := ob_wR o24 e169
  have o32 := ob_wR o32 e169
  have o40 := ob_wR o40 e169
  have o48 := ob_wR o48 e169
  have o56 := ob_wR o56 e169
  have o64 := ob_wR o64 e169
  have o72 := ob_wR o72 e169
  have o80 := ob_wR o80 e169
  have o88 := ob_wR o88 e169
  have o96 := ob_wR o96 e169
  have o104 := ob_wR o104 e169
  have o112 := ob_wR o112 e169
  have o120 := ob_wR o120 e169
  have o128 := ob_wR o128 e169
  have o136 := ob_wR o136 e169
  have o144 := ob_wR o144 e169
  have o152 := ob_wR o152 e169
  have o160 := ob_wR o160 e169
  have o168 := ob_wR o168 e169
  intro x172 e171
  have h := h x172 e171
  intro x174 e173
  have h := h x174 e173
  have n175 := k9_nf K e171
  have K := k9_W K e171 e173
  have o6 := gr_ob (gr_of_new e173 e171) o6
  have o8 := gr_ob (gr_of_new e173 e171) o8
  have o16 := gr_ob (gr_of_new e173 e171) o16
  have o24 := gr_ob (gr_of_new e173 e171) o24
  have o32 := gr_ob (gr_of_new e173 e171) o32
  have o40 := gr_ob (gr_of_new e173 e171) o40
  have o48 := gr_ob (gr_of_new e173 e171) o48
  have o56 := gr_ob (gr_of_new e173 e171) o56
  have o64 := gr_ob (gr_of_new e173 e171) o64
  have o72 := gr_ob (gr_of_new e173 e171) o72
  have o80 := gr_ob (gr_of_new e173 e171) o80
  have o88 := gr_ob (gr_of_new e173 e171) o88
  have o96 := gr_ob (gr_of_new e173 e171) o96
  have o104 := gr_ob (gr_of_new e173 e171) o104
  have o112 := gr_ob (gr_of_new e173 e171) o112
  have o120 := gr_ob (gr_of_new e173 e171) o120
  have o128 := gr_ob (gr_of_new e173 e171) o128
  have o136 := gr_ob (gr_of_new e173 e171) o136
  have o144 := gr_ob (gr_of_new e173 e171) o144
  have o152 := gr_ob (gr_of_new e173 e171) o152
  have o160 := gr_ob (gr_of_new e173 e171) o160
  have o168 := gr_ob (gr_of_new e173 e171) o168
  have o176 := ob_of_new e173
  intro x178 e177
  have h := h x178 e177
  have K := k9_S K e177 o8 n175 (by decide)
  have o6 := ob_wR o6 e177
  have o8 := ob_wR o8 e177
  have o16 := ob_wR o16 e177
  have o24 := ob_wR o24 e177
  have o32 := ob_wR o32 e177
  have o40 := ob_wR o40 e177
  have o48 := ob_wR o48 e177
  have o56 := ob_wR o56 e177
  have o64 := ob_wR o64 e177
  have o72 := ob_wR o72 e177
  have o80 := ob_wR o80 e177
  have o88 := ob_wR o88 e177
  have o96 := ob_wR o96 e177
  have o104 := ob_wR o104 e177
  have o112 := ob_wR o112 e177
  have o120 := ob_wR o120 e177
  have o128 := ob_wR o128 e177
  have o136 := ob_wR o136 e177
  have o144 := ob_wR o144 e177
  have o152 := ob_wR o152 e177
  have o160 := ob_wR o160 e177
  have o168 := ob_wR o168 e177
  have o176 := ob_wR o176 e177
  intro x180 e179
  have h := h x180 e179
  intro x182 e181
  have h := h x182 e181
  have n183 := k9_nf K e179
  have K := k9_W K e179 e181
  have o6 := gr_ob (gr_of_new e181 e179) o6
  have o8 := gr_ob (gr_of_new e181 e179) o8
  have o16 := gr_ob (gr_of_new e181 e179) o16
  have o24 := gr_ob (gr_of_new e181 e179) o24
  have o32 := gr_ob (gr_of_new e181 e179) o32
  have o40 := gr_ob (gr_of_new e181 e179) o40
  have o48 := gr_ob (gr_of_new e181 e179) o48
  have o56 := gr_ob (gr_of_new e181 e179) o56
  have o64 := gr_ob (gr_of_new e181 e179) o64
  have o72 := gr_ob (gr_of_new e181 e179) o72
  have o80 := gr_ob (gr_of_new e181 e179) o80
  have o88 := gr_ob (gr_of_new e181 e179) o88
  have o96 := gr_ob (gr_of_new e181 e179) o96
  have o104 := gr_ob (gr_of_new e181 e179) o104
  have o112 := gr_ob (gr_of_new e181 e179) o112
  have o120 := gr_ob (gr_of_new e181 e179) o120
  have o128 := gr_ob (gr_of_new e181 e179) o128
  have o136 := gr_ob (gr_of_new e181 e179) o136
  have o144 := gr_ob (gr_of_new e181 e179) o144
  have o152 := gr_ob (gr_of_new e181 e179) o152
  have o160 := gr_ob (gr_of_new e181 e179) o160
  have o168 := gr_ob (gr_of_new e181 e179) o168
  have o176 := gr_ob (gr_of_new e181 e179) o176
  have o184 := ob_of_new e181
  intro x186 e185
  have h := h x186 e185
  have K := k9_R K hU e185 o8 (by decide) (by decide)
  have o6 := ob_wR o6 e185
  have o8 := ob_wR o8 e185
  have o16 := ob_wR o16 e185
  have o24 := ob_wR o24 e185
  have o32 := ob_wR o32 e185
  have o40 := ob_wR o40 e185
  have o48 := ob_wR o48 e185
  have o56 := ob_wR o56 e185
  have o64 := ob_wR o64 e185
  have o72 := ob_wR o72 e185
  have o80 := ob_wR o80 e185
  have o88 := ob_wR o88 e185
  have o96 := ob_wR o96 e185
  have o104 := ob_wR o104 e185
  have o112 := ob_wR o112 e185
  have o120 := ob_wR o120 e185
  have o128 := ob_wR o128 e185
  have o136 := ob_wR o136 e185
  have o144 := ob_wR o144 e185
  have o152 := ob_wR o152 e185
  have o160 := ob_wR o160 e185
  have o168 := ob_wR o168 e185
  have o176 := ob_wR o176 e185
  have o184 := ob_wR o184 e185
  intro x188 e187
  have h := h x188 e187
  intro x190 e189
  have h := h x190 e189
  have n191 := k9_nf K e187
  have K := k9_W K e187 e189
  have o6 := gr_ob (gr_of_new e189 e187) o6
  have o8 := gr_ob (gr_of_new e189 e187) o8
  have o16 := gr_ob (gr_of_new e189 e187) o16
  have o24 := gr_ob (gr_of_new e189 e187) o24
  have o32 := gr_ob (gr_of_new e189 e187) o32
  have o40 := gr_ob (gr_of_new e189 e187) o40
  have o48 := gr_ob (gr_of_new e189 e187) o48
  have o56 := gr_ob (gr_of_new e189 e187) o56
  have o64 := gr_ob (gr_of_new e189 e187) o64
  have o72 := gr_ob (gr_of_new e189 e187) o72
  have o80 := gr_ob (gr_of_new e189 e187) o80
  have o88 := gr_ob (gr_of_new e189 e187) o88
  have o96 := gr_ob (gr_of_new e189 e187) o96
  have o104 := gr_ob (gr_of_new e189 e187) o104
  have o112 := gr_ob (gr_of_new e189 e187) o112
  have o120 := gr_ob (gr_of_new e189 e187) o120
  have o128 := gr_ob (gr_of_new e189 e187) o128
  have o136 := gr_ob (gr_of_new e189 e187) o136
  have o144 := gr_ob (gr_of_new e189 e187) o144
  have o152 := gr_ob (gr_of_new e189 e187) o152
  have o160 := gr_ob (gr_of_new e189 e187) o160
  have o168 := gr_ob (gr_of_new e189 e187) o168
  have o176 := gr_ob (gr_of_new e189 e187) o176
  have o184 := gr_ob (gr_of_new e189 e187) o184
  have o192 := ob_of_new e189
  intro x194 e193
  have h := h x194 e193
  have K := k9_R K hU e193 o8 (by decide) (by decide)
  have o6 := ob_wR o6 e193
  have o8 := ob_wR o8 e193
  have o16 := ob_wR o16 e193
  have o24 := ob_wR o24 e193
  have o32 := ob_wR o32 e193
  have o40 := ob_wR o40 e193
  have o48 := ob_wR o48 e193
  have o56 := ob_wR o56 e193
  have o64 := ob_wR o64 e193
  have o72 := ob_wR o72 e193
  have o80 := ob_wR o80 e193
  have o88 := ob_wR o88 e193
  have o96 := ob_wR o96 e193
  have o104 := ob_wR o104 e193
  have o112 := ob_wR o112 e193
  have o120 := ob_wR o120 e193
  have o128 := ob_wR o128 e193
  have o136 := ob_wR o136 e193
  have o144 := ob_wR o144 e193
  have o152 := ob_wR o152 e193
  have o160 := ob_wR o160 e193
  have o168 := ob_wR o168 e193
  have o176 := ob_wR o176 e193
  have o184 := ob_wR o184 e193
  have o192 := ob_wR o192 e193
  exact ⟨h, K⟩
theorem ky_X10_init {b : Bool} {L : List (Nat × Nat)} (hU : ∀ q ∈ L, q ∈ nyT) (hL : ∀ q ∈ kyL_X10_init, q ∈ L) (hb : False → b = false) {Q : HS → Prop} {v0 : Nat} {S : HS} (h : P_X10_init v0 Q S) : P_X10_init v0 (fun T => Q T ∧ K9 b L S T) S := ky_X10_init_0 hU hL hb h (k9_rf b L S)
abbrev kyL_X10_minutes : List (Nat × Nat) := []
set_option maxRecDepth 20000 in
set_option maxHeartbeats 1000000 in
theorem ky_X10_minutes_0 {b : Bool} {L : List (Nat × Nat)} (hU : ∀ q ∈ L, q ∈ nyT) (hL : ∀ q ∈ kyL_X10_minutes, q ∈ L) (hb : False → b = false) {Q : Int32 → HS → Prop} {v0 : Nat} {v1 : Int32} {v2 : Int32} {S0 S : HS} (h : P_X10_minutes_0 Q v0 v1 v2 S) (K : K9 b L S0 S) : P_X10_minutes_0 (fun r T => Q r T ∧ K9 b L S0 T) v0 v1 v2 S := by
  delta P_X10_minutes_0 at h ⊢
  obtain ⟨c1, h⟩ := h
  refine ⟨c1, ?_⟩
  have o2 := c1
  obtain ⟨b3, e4, h⟩ := h
  refine ⟨b3, e4, ?_⟩
  obtain ⟨c5, h⟩ := h
  refine ⟨c5, ?_⟩
  obtain ⟨c6, h⟩ := h
  refine ⟨c6, ?_⟩
  intro x8 e7
  have h := h x8 e7
  obtain ⟨c9, h⟩ := h
  refine ⟨c9, ?_⟩
  intro x11 e10
  have h := h x11 e10
  exact ⟨h, K⟩
theorem ky_X10_minutes {b : Bool} {L : List (Nat × Nat)} (hU : ∀ q ∈ L, q ∈ nyT) (hL : ∀ q ∈ kyL_X10_minutes, q ∈ L) (hb : False → b = false) {Q : Int32 → HS → Prop} {v0 : Nat} {v1 : Int32} {v2 : Int32} {S : HS} (h : P_X10_minutes v0 v1 v2 Q S) : P_X10_minutes v0 v1 v2 (fun r T => Q r T ∧ K9 b L S T) S := ky_X10_minutes_0 hU hL hb h (k9_rf b L S)
abbrev kyL_X10_shield : List (Nat × Nat) := []
set_option maxRecDepth 20000 in
set_option maxHeartbeats 1000000 in
theorem ky_X10_shield_0 {b : Bool} {L : List (Nat × Nat)} (hU : ∀ q ∈ L, q ∈ nyT) (hL : ∀ q ∈ kyL_X10_shield, q ∈ L) (hb : False → b = false) {Q : Int32 → HS → Prop} {v0 : Nat} {v1 : Int32} {S0 S : HS} (h : P_X10_shield_0 Q v0 v1 S) (K : K9 b L S0 S) : P_X10_shield_0 (fun r T => Q r T ∧ K9 b L S0 T) v0 v1 S := by
  delta P_X10_shield_0 at h ⊢
  obtain ⟨c1, h⟩ := h
  refine ⟨c1, ?_⟩
  have o2 := c1
  obtain ⟨b3, e4, h⟩ := h
  refine ⟨b3, e4, ?_⟩
  obtain ⟨c5, h⟩ := h
  refine ⟨c5, ?_⟩
  obtain ⟨c6, h⟩ := h
  refine ⟨c6, ?_⟩
  intro x8 e7
  have h := h x8 e7
  refine ⟨?_, ?_⟩
  · intro c9
    have h := h.1 c9
    exact ⟨h, K⟩
  · intro c10
    have h := h.2 c10
    obtain ⟨b11, e12, h⟩ := h
    refine ⟨b11, e12, ?_⟩
    obtain ⟨c13, h⟩ := h
    refine ⟨c13, ?_⟩
    obtain ⟨c14, h⟩ := h
    refine ⟨c14, ?_⟩
    intro x16 e15
    have h := h x16 e15
    exact ⟨h, K⟩
theorem ky_X10_shield {b : Bool} {L : List (Nat × Nat)} (hU : ∀ q ∈ L, q ∈ nyT) (hL : ∀ q ∈ kyL_X10_shield, q ∈ L) (hb : False → b = false) {Q : Int32 → HS → Prop} {v0 : Nat} {v1 : Int32} {S : HS} (h : P_X10_shield v0 v1 Q S) : P_X10_shield v0 v1 (fun r T => Q r T ∧ K9 b L S T) S := ky_X10_shield_0 hU hL hb h (k9_rf b L S)
abbrev kyL_X11_good : List (Nat × Nat) := []
set_option maxRecDepth 20000 in
set_option maxHeartbeats 1000000 in
theorem ky_X11_good_0 {b : Bool} {L : List (Nat × Nat)} (hU : ∀ q ∈ L, q ∈ nyT) (hL : ∀ q ∈ kyL_X11_good, q ∈ L) (hb : False → b = false) {Q : Int32 → HS → Prop} {v0 : Nat} {v1 : Int32} {S0 S : HS} (h : P_X11_good_0 Q v0 v1 S) (K : K9 b L S0 S) : P_X11_good_0 (fun r T => Q r T ∧ K9 b L S0 T) v0 v1 S := by
  delta P_X11_good_0 at h ⊢
  obtain ⟨c1, h⟩ := h
  refine ⟨c1, ?_⟩
  intro x3 e2
  have h := h x3 e2
  have K := k9_I K e2
  intro x5 e4
  have h := h x5 e4
  have K := k9_I K e4
  exact ⟨h, K⟩
theorem ky_X11_good {b : Bool} {L : List (Nat × Nat)} (hU : ∀ q ∈ L, q ∈ nyT) (hL : ∀ q ∈ kyL_X11_good, q ∈ L) (hb : False → b = false) {Q : Int32 → HS → Prop} {v0 : Nat} {v1 : Int32} {S : HS} (h : P_X11_good v0 v1 Q S) : P_X11_good v0 v1 (fun r T => Q r T ∧ K9 b L S T) S := ky_X11_good_0 hU hL hb h (k9_rf b L S)
abbrev kyL_X11_in : List (Nat × Nat) := []
set_option maxRecDepth 20000 in
set_option maxHeartbeats 1000000 in
theorem ky_X11_in_0 {b : Bool} {L : List (Nat × Nat)} (hU : ∀ q ∈ L, q ∈ nyT) (hL : ∀ q ∈ kyL_X11_in, q ∈ L) (hb : False → b = false) {Q : Int32 → HS → Prop} {v0 : Int32} {v1 : Int32} {v2 : Int32} {S0 S : HS} (h : P_X11_in_0 Q v0 v1 v2 S) (K : K9 b L S0 S) : P_X11_in_0 (fun r T => Q r T ∧ K9 b L S0 T) v0 v1 v2 S := by
  delta P_X11_in_0 at h ⊢
  refine ⟨?_, ?_⟩
  · intro c1
    have h := h.1 c1
    exact ⟨h, K⟩
  · intro c2
    have h := h.2 c2
    refine ⟨?_, ?_⟩
    · intro c3
      have h := h.1 c3
      exact ⟨h, K⟩
    · intro c4
      have h := h.2 c4
      exact ⟨h, K⟩
theorem ky_X11_in {b : Bool} {L : List (Nat × Nat)} (hU : ∀ q ∈ L, q ∈ nyT) (hL : ∀ q ∈ kyL_X11_in, q ∈ L) (hb : False → b = false) {Q : Int32 → HS → Prop} {v0 : Int32} {v1 : Int32} {v2 : Int32} {S : HS} (h : P_X11_in v0 v1 v2 Q S) : P_X11_in v0 v1 v2 (fun r T => Q r T ∧ K9 b L S T) S := ky_X11_in_0 hU hL hb h (k9_rf b L S)
abbrev kyL_X11_isHour : List (Nat × Nat) := []
set_option maxRecDepth 20000 in
set_option maxHeartbeats 1000000 in
theorem ky_X11_isHour_0 {b : Bool} {L : List (Nat × Nat)} (hU : ∀ q ∈ L, q ∈ nyT) (hL : ∀ q ∈ kyL_X11_isHour, q ∈ L) (hb : False → b = false) {Q : Int32 → HS → Prop} {v0 : Nat} {v1 : Int32} {S0 S : HS} (h : P_X11_isHour_0 Q v0 v1 S) (K : K9 b L S0 S) : P_X11_isHour_0 (fun r T => Q r T ∧ K9 b L S0 T) v0 v1 S := by
  delta P_X11_isHour_0 at h ⊢
  obtain ⟨c1, h⟩ := h
  refine ⟨c1, ?_⟩
  have o2 := c1
  refine ⟨?_, ?_⟩
  · intro c3
    have h := h.1 c3
    exact ⟨h, K⟩
  · intro x4 c5
    have h := h.2 x4 c5
    refine ⟨?_, ?_⟩
    · intro c6
      have h := h.1 c6
      exact ⟨h, K⟩
    · intro c7
      have h := h.2 c7
      obtain ⟨b8, e9, h⟩ := h
      refine ⟨b8, e9, ?_⟩
      obtain ⟨c10, h⟩ := h
      refine ⟨c10, ?_⟩
      intro x12 e11
      have h := h x12 e11
      refine ⟨?_, ?_⟩
      · intro c13
        have h := h.1 c13
        exact ⟨h, K⟩
      · intro c14
        have h := h.2 c14
        exact ⟨h, K⟩
theorem ky_X11_isHour {b : Bool} {L : List (Nat × Nat)} (hU : ∀ q ∈ L, q ∈ nyT) (hL : ∀ q ∈ kyL_X11_isHour, q ∈ L) (hb : False → b = false) {Q : Int32 → HS → Prop} {v0 : Nat} {v1 : Int32} {S : HS} (h : P_X11_isHour v0 v1 Q S) : P_X11_isHour v0 v1 (fun r T => Q r T ∧ K9 b L S T) S := ky_X11_isHour_0 hU hL hb h (k9_rf b L S)
abbrev kyL_X11_isRoad : List (Nat × Nat) := []
set_option maxRecDepth 20000 in
set_option maxHeartbeats 1000000 in
theorem ky_X11_isRoad_0 {b : Bool} {L : List (Nat × Nat)} (hU : ∀ q ∈ L, q ∈ nyT) (hL : ∀ q ∈ kyL_X11_isRoad, q ∈ L) (hb : False → b = false) {Q : Int32 → HS → Prop} {v0 : Nat} {v1 : Int32} {S0 S : HS} (h : P_X11_isRoad_0 Q v0 v1 S) (K : K9 b L S0 S) : P_X11_isRoad_0 (fun r T => Q r T ∧ K9 b L S0 T) v0 v1 S := by
  delta P_X11_isRoad_0 at h ⊢
  obtain ⟨c1, h⟩ := h
  refine ⟨c1, ?_⟩
  have o2 := c1
  refine ⟨?_, ?_⟩
  · intro c3
    have h := h.1 c3
    exact ⟨h, K⟩
  · intro x4 c5
    have h := h.2 x4 c5
    refine ⟨?_, ?_⟩
    · intro c6
      have h := h.1 c6
      exact ⟨h, K⟩
    · intro c7
      have h := h.2 c7
      obtain ⟨b8, e9, h⟩ := h
      refine ⟨b8, e9, ?_⟩
      obtain ⟨c10, h⟩ := h
      refine ⟨c10, ?_⟩
      intro x12 e11
      have h := h x12 e11
      refine ⟨?_, ?_⟩
      · intro c13
        have h := h.1 c13
        exact ⟨h, K⟩
      · intro c14
        have h := h.2 c14
        exact ⟨h, K⟩
theorem ky_X11_isRoad {b : Bool} {L : List (Nat × Nat)} (hU : ∀ q ∈ L, q ∈ nyT) (hL : ∀ q ∈ kyL_X11_isRoad, q ∈ L) (hb : False → b = false) {Q : Int32 → HS → Prop} {v0 : Nat} {v1 : Int32} {S : HS} (h : P_X11_isRoad v0 v1 Q S) : P_X11_isRoad v0 v1 (fun r T => Q r T ∧ K9 b L S T) S := ky_X11_isRoad_0 hU hL hb h (k9_rf b L S)
abbrev kyL_X11_refused : List (Nat × Nat) := []
set_option maxRecDepth 20000 in
set_option maxHeartbeats 1000000 in
theorem ky_X11_refused_0 {b : Bool} {L : List (Nat × Nat)} (hU : ∀ q ∈ L, q ∈ nyT) (hL : ∀ q ∈ kyL_X11_refused, q ∈ L) (hb : False → b = false) {Q : Int32 → HS → Prop} {v0 : Nat} {v1 : Int32} {S0 S : HS} (h : P_X11_refused_0 Q v0 v1 S) (K : K9 b L S0 S) : P_X11_refused_0 (fun r T => Q r T ∧ K9 b L S0 T) v0 v1 S := by
  delta P_X11_refused_0 at h ⊢
  obtain ⟨c1, h⟩ := h
  refine ⟨c1, ?_⟩
  intro x3 e2
  have h := h x3 e2
  have K := k9_I K e2
  intro x5 e4
  have h := h x5 e4
  have K := k9_I K e4
  exact ⟨h, K⟩
theorem ky_X11_refused {b : Bool} {L : List (Nat × Nat)} (hU : ∀ q ∈ L, q ∈ nyT) (hL : ∀ q ∈ kyL_X11_refused, q ∈ L) (hb : False → b = false) {Q : Int32 → HS → Prop} {v0 : Nat} {v1 : Int32} {S : HS} (h : P_X11_refused v0 v1 Q S) : P_X11_refused v0 v1 (fun r T => Q r T ∧ K9 b L S T) S := ky_X11_refused_0 hU hL hb h (k9_rf b L S)
abbrev kyL_X11_lost : List (Nat × Nat) := []
set_option maxRecDepth 20000 in
set_option maxHeartbeats 1000000 in
theorem ky_X11_lost_0 {b : Bool} {L : List (Nat × Nat)} (hU : ∀ q ∈ L, q ∈ nyT) (hL : ∀ q ∈ kyL_X11_lost, q ∈ L) (hb : False → b = false) {Q : Int32 → HS → Prop} {v0 : Nat} {v1 : Int32} {S0 S : HS} (h : P_X11_lost_0 Q v0 v1 S) (K : K9 b L S0 S) : P_X11_lost_0 (fun r T => Q r T ∧ K9 b L S0 T) v0 v1 S := by
  delta P_X11_lost_0 at h ⊢
  obtain ⟨c1, h⟩ := h
  refine ⟨c1, ?_⟩
  refine cm_X11_refused (ky_X11_refused (b := b) hU (fun q hq => hL q ((by decide : ∀ q ∈ kyL_X11_refused, q ∈ kyL_X11_lost) q hq)) (fun z => z.elim) h) h (fun x2 x3 p5 h g4 => ?_)
  have h := h g4
  have K := k9_tr K p5.2
  exact ⟨h, K⟩
theorem ky_X11_lost {b : Bool} {L : List (Nat × Nat)} (hU : ∀ q ∈ L, q ∈ nyT) (hL : ∀ q ∈ kyL_X11_lost, q ∈ L) (hb : False → b = false) {Q : Int32 → HS → Prop} {v0 : Nat} {v1 : Int32} {S : HS} (h : P_X11_lost v0 v1 Q S) : P_X11_lost v0 v1 (fun r T => Q r T ∧ K9 b L S T) S := ky_X11_lost_0 hU hL hb h (k9_rf b L S)
abbrev kyL_X11_air : List (Nat × Nat) := []
set_option maxRecDepth 20000 in
set_option maxHeartbeats 1000000 in
theorem ky_X11_air_30 {b : Bool} {L : List (Nat × Nat)} (hU : ∀ q ∈ L, q ∈ nyT) (hL : ∀ q ∈ kyL_X11_air, q ∈ L) (hb : False → b = false) {Q : Int32 → HS → Prop} {v0 : Nat} {S0 S : HS} (h : P_X11_air_30 Q v0 S) (K : K9 b L S0 S) : P_X11_air_30 (fun r T => Q r T ∧ K9 b L S0 T) v0 S := by
  delta P_X11_air_30 at h ⊢
  obtain ⟨c1, h⟩ := h
  refine ⟨c1, ?_⟩
  refine cm_X11_lost (ky_X11_lost (b := b) hU (fun q hq => hL q ((by decide : ∀ q ∈ kyL_X11_lost, q ∈ kyL_X11_air) q hq)) (fun z => z.elim) h) h (fun x2 x3 p5 h g4 => ?_)
  have h := h g4
  have K := k9_tr K p5.2
  exact ⟨h, K⟩
set_option maxRecDepth 20000 in
set_option maxHeartbeats 1000000 in
theorem ky_X11_air_0 {b : Bool} {L : List (Nat × Nat)} (hU : ∀ q ∈ L, q ∈ nyT) (hL : ∀ q ∈ kyL_X11_air, q ∈ L) (hb : False → b = false) {Q : Int32 → HS → Prop} {v0 : Nat} {v1 : Int32} {v2 : Int32} {v3 : Int32} {S0 S : HS} (h : P_X11_air_0 Q v0 v1 v2 v3 S) (K : K9 b L S0 S) : P_X11_air_0 (fun r T => Q r T ∧ K9 b L S0 T) v0 v1 v2 v3 S := by
  delta P_X11_air_0 at h ⊢
  obtain ⟨c1, h⟩ := h
  refine ⟨c1, ?_⟩
  have o2 := c1
  intro x4 e3
  have h := h x4 e3
  have K := k9_I K e3
  have o2 := ob_wI o2 e3
  refine cm_X11_isRoad (ky_X11_isRoad (b := b) hU (fun q hq => hL q ((by decide : ∀ q ∈ kyL_X11_isRoad, q ∈ kyL_X11_air) q hq)) (fun z => z.elim) h) h (fun x5 x6 p9 h g7 g8 => ?_)
  have h := h g7 g8
  have K := k9_tr K p9.2
  have o2 := gr_ob p9.2.1 o2
  refine ⟨?_, ?_⟩
  · intro c10
    have h := h.1 c10
    exact ky_X11_air_30 hU hL hb h K
  · intro c11
    have h := h.2 c11
    refine cm_X11_in (ky_X11_in (b := b) hU (fun q hq => hL q ((by decide : ∀ q ∈ kyL_X11_in, q ∈ kyL_X11_air) q hq)) (fun z => z.elim) h) h (fun x12 x13 p16 h g14 g15 => ?_)
    have h := h g14 g15
    have K := k9_tr K p16.2
    have o2 := gr_ob p16.2.1 o2
    refine ⟨?_, ?_⟩
    · intro c17
      have h := h.1 c17
      exact ky_X11_air_30 hU hL hb h K
    · intro c18
      have h := h.2 c18
      refine cm_X11_isHour (ky_X11_isHour (b := b) hU (fun q hq => hL q ((by decide : ∀ q ∈ kyL_X11_isHour, q ∈ kyL_X11_air) q hq)) (fun z => z.elim) h) h (fun x19 x20 p23 h g21 g22 => ?_)
      have h := h g21 g22
      have K := k9_tr K p23.2
      have o2 := gr_ob p23.2.1 o2
      refine ⟨?_, ?_⟩
      · intro c24
        have h := h.1 c24
        obtain ⟨b25, e26, h⟩ := h
        refine ⟨b25, e26, ?_⟩
        obtain ⟨c27, h⟩ := h
        refine ⟨c27, ?_⟩
        refine cm_X10_air (ky_X10_air (b := b) hU (fun q hq => hL q ((by decide : ∀ q ∈ kyL_X10_air, q ∈ kyL_X11_air) q hq)) (fun z => z.elim) h) h (fun x28 x29 p31 h g30 => ?_)
        have h := h g30
        have K := k9_tr K p31.2
        have o2 := gr_ob p31.2.1 o2
        refine cm_X11_good (ky_X11_good (b := b) hU (fun q hq => hL q ((by decide : ∀ q ∈ kyL_X11_good, q ∈ kyL_X11_air) q hq)) (fun z => z.elim) h) h (fun x32 x33 p35 h g34 => ?_)
        have h := h g34
        have K := k9_tr K p35.2
        have o2 := gr_ob p35.2.1 o2
        exact ⟨h, K⟩
      · intro c36
        have h := h.2 c36
        exact ky_X11_air_30 hU hL hb h K
theorem ky_X11_air {b : Bool} {L : List (Nat × Nat)} (hU : ∀ q ∈ L, q ∈ nyT) (hL : ∀ q ∈ kyL_X11_air, q ∈ L) (hb : False → b = false) {Q : Int32 → HS → Prop} {v0 : Nat} {v1 : Int32} {v2 : Int32} {v3 : Int32} {S : HS} (h : P_X11_air v0 v1 v2 v3 Q S) : P_X11_air v0 v1 v2 v3 (fun r T => Q r T ∧ K9 b L S T) S := ky_X11_air_0 hU hL hb h (k9_rf b L S)
abbrev kyL_X11_denied : List (Nat × Nat) := []
set_option maxRecDepth 20000 in
set_option maxHeartbeats 1000000 in
theorem ky_X11_denied_0 {b : Bool} {L : List (Nat × Nat)} (hU : ∀ q ∈ L, q ∈ nyT) (hL : ∀ q ∈ kyL_X11_denied, q ∈ L) (hb : False → b = false) {Q : Int32 → HS → Prop} {v0 : Nat} {v1 : Int32} {S0 S : HS} (h : P_X11_denied_0 Q v0 v1 S) (K : K9 b L S0 S) : P_X11_denied_0 (fun r T => Q r T ∧ K9 b L S0 T) v0 v1 S := by
  delta P_X11_denied_0 at h ⊢
  obtain ⟨c1, h⟩ := h
  refine ⟨c1, ?_⟩
  refine cm_X11_refused (ky_X11_refused (b := b) hU (fun q hq => hL q ((by decide : ∀ q ∈ kyL_X11_refused, q ∈ kyL_X11_denied) q hq)) (fun z => z.elim) h) h (fun x2 x3 p5 h g4 => ?_)
  have h := h g4
  have K := k9_tr K p5.2
  exact ⟨h, K⟩
theorem ky_X11_denied {b : Bool} {L : List (Nat × Nat)} (hU : ∀ q ∈ L, q ∈ nyT) (hL : ∀ q ∈ kyL_X11_denied, q ∈ L) (hb : False → b = false) {Q : Int32 → HS → Prop} {v0 : Nat} {v1 : Int32} {S : HS} (h : P_X11_denied v0 v1 Q S) : P_X11_denied v0 v1 (fun r T => Q r T ∧ K9 b L S T) S := ky_X11_denied_0 hU hL hb h (k9_rf b L S)
abbrev kyL_X11_granted : List (Nat × Nat) := []
set_option maxRecDepth 20000 in
set_option maxHeartbeats 1000000 in
theorem ky_X11_granted_0 {b : Bool} {L : List (Nat × Nat)} (hU : ∀ q ∈ L, q ∈ nyT) (hL : ∀ q ∈ kyL_X11_granted, q ∈ L) (hb : False → b = false) {Q : Int32 → HS → Prop} {v0 : Nat} {S0 S : HS} (h : P_X11_granted_0 Q v0 S) (K : K9 b L S0 S) : P_X11_granted_0 (fun r T => Q r T ∧ K9 b L S0 T) v0 S := by
  delta P_X11_granted_0 at h ⊢
  obtain ⟨c1, h⟩ := h
  refine ⟨c1, ?_⟩
  refine cm_X11_good (ky_X11_good (b := b) hU (fun q hq => hL q ((by decide : ∀ q ∈ kyL_X11_good, q ∈ kyL_X11_granted) q hq)) (fun z => z.elim) h) h (fun x2 x3 p5 h g4 => ?_)
  have h := h g4
  have K := k9_tr K p5.2
  exact ⟨h, K⟩
theorem ky_X11_granted {b : Bool} {L : List (Nat × Nat)} (hU : ∀ q ∈ L, q ∈ nyT) (hL : ∀ q ∈ kyL_X11_granted, q ∈ L) (hb : False → b = false) {Q : Int32 → HS → Prop} {v0 : Nat} {S : HS} (h : P_X11_granted v0 Q S) : P_X11_granted v0 (fun r T => Q r T ∧ K9 b L S T) S := ky_X11_granted_0 hU hL hb h (k9_rf b L S)
abbrev kyL_X11_isDay : List (Nat × Nat) := []
set_option maxRecDepth 20000 in
set_option maxHeartbeats 1000000 in
theorem ky_X11_isDay_0 {b : Bool} {L : List (Nat × Nat)} (hU : ∀ q ∈ L, q ∈ nyT) (hL : ∀ q ∈ kyL_X11_isDay, q ∈ L) (hb : False → b = false) {Q : Int32 → HS → Prop} {v0 : Nat} {S0 S : HS} (h : P_X11_isDay_0 Q v0 S) (K : K9 b L S0 S) : P_X11_isDay_0 (fun r T => Q r T ∧ K9 b L S0 T) v0 S := by
  delta P_X11_isDay_0 at h ⊢
  obtain ⟨c1, h⟩ := h
  refine ⟨c1, ?_⟩
  have o2 := c1
  refine ⟨?_, ?_⟩
  · intro c3
    have h := h.1 c3
    exact ⟨h, K⟩
  · intro x4 c5
    have h := h.2 x4 c5
    intro x7 e6
    have h := h x7 e6
    refine ⟨?_, ?_⟩
    · intro c8
      have h := h.1 c8
      exact ⟨h, K⟩
    · intro c9
      have h := h.2 c9
      exact ⟨h, K⟩
theorem ky_X11_isDay {b : Bool} {L : List (Nat × Nat)} (hU : ∀ q ∈ L, q ∈ nyT) (hL : ∀ q ∈ kyL_X11_isDay, q ∈ L) (hb : False → b = false) {Q : Int32 → HS → Prop} {v0 : Nat} {S : HS} (h : P_X11_isDay v0 Q S) : P_X11_isDay v0 (fun r T => Q r T ∧ K9 b L S T) S := ky_X11_isDay_0 hU hL hb h (k9_rf b L S)
abbrev kyL_X11_back : List (Nat × Nat) := [(11, 21)]
set_option maxRecDepth 20000 in
set_option maxHeartbeats 1000000 in
theorem ky_X11_back_24 {b : Bool} {L : List (Nat × Nat)} (hU : ∀ q ∈ L, q ∈ nyT) (hL : ∀ q ∈ kyL_X11_back, q ∈ L) (hb : False → b = false) {Q : Int32 → HS → Prop} {v0 : Nat} {S0 S : HS} (h : P_X11_back_24 Q v0 S) (K : K9 b L S0 S) : P_X11_back_24 (fun r T => Q r T ∧ K9 b L S0 T) v0 S := by
  delta P_X11_back_24 at h ⊢
  obtain ⟨c1, h⟩ := h
  refine ⟨c1, ?_⟩
  refine cm_X11_denied (ky_X11_denied (b := b) hU (fun q hq => hL q ((by decide : ∀ q ∈ kyL_X11_denied, q ∈ kyL_X11_back) q hq)) (fun z => z.elim) h) h (fun x2 x3 p6 h g4 g5 => ?_)
  have h := h g4 g5
  have K := k9_tr K p6.2
  obtain ⟨c7, h⟩ := h
  refine ⟨c7, ?_⟩
  exact ⟨h, K⟩
set_option maxRecDepth 20000 in
set_option maxHeartbeats 1000000 in
theorem kyB_X11_back_32 {b : Bool} {L : List (Nat × Nat)} (hU : ∀ q ∈ L, q ∈ nyT) (hL : ∀ q ∈ kyL_X11_back, q ∈ L) (hb : False → b = false) {Q : Int32 → HS → Prop} {X32 X32_2 : Nat → Int32 → Int32 → HS → Prop} {v0 : Nat} {v1 : Int32} {v2 : Int32} {S0 S : HS} (h : B_X11_back_32 Q X32 v0 v1 v2 S) (K : K9 b L S0 S) (hX32 : ∀ (u0 : Nat) (u1 : Int32) (u2 : Int32) (u3 : HS), X32 u0 u1 u2 u3 → K9 b L S0 u3 → X32_2 u0 u1 u2 u3) : B_X11_back_32 (fun r T => Q r T ∧ K9 b L S0 T) X32_2 v0 v1 v2 S := by
  delta B_X11_back_32 at h ⊢
  refine ⟨?_, ?_⟩
  · intro c1
    have h := h.1 c1
    obtain ⟨c2, h⟩ := h
    refine ⟨c2, ?_⟩
    have o3 := c2
    intro x5 e4
    have h := h x5 e4
    have K := k9_I K e4
    have o3 := ob_wI o3 e4
    refine cm_X11_granted (ky_X11_granted (b := b) hU (fun q hq => hL q ((by decide : ∀ q ∈ kyL_X11_granted, q ∈ kyL_X11_back) q hq)) (fun z => z.elim) h) h (fun x6 x7 p10 h g8 g9 => ?_)
    have h := h g8 g9
    have K := k9_tr K p10.2
    have o3 := gr_ob p10.2.1 o3
    obtain ⟨c11, h⟩ := h
    refine ⟨c11, ?_⟩
    exact ⟨h, K⟩
  · intro c12
    have h := h.2 c12
    obtain ⟨c13, h⟩ := h
    refine ⟨c13, ?_⟩
    have o14 := c13
    obtain ⟨b15, e16, h⟩ := h
    refine ⟨b15, e16, ?_⟩
    have n17 := k9_nr K e16 o14 (hL _ (by decide))
    obtain ⟨b18, e19, h⟩ := h
    refine ⟨b18, e19, ?_⟩
    obtain ⟨c20, h⟩ := h
    refine ⟨c20, ?_⟩
    intro x22 e21
    have h := h x22 e21
    obtain ⟨c23, h⟩ := h
    refine ⟨c23, ?_⟩
    intro x25 e24
    have h := h x25 e24
    obtain ⟨c26, h⟩ := h
    refine ⟨c26, ?_⟩
    obtain ⟨c27, h⟩ := h
    refine ⟨c27, ?_⟩
    intro x29 e28
    have h := h x29 e28
    have K := k9_J K e28 n17
    have o14 := ob_wJ o14 e28
    intro x31 e30
    have h := h x31 e30
    exact hX32 _ _ _ _ h K
theorem ky_X11_back_32 {b : Bool} {L : List (Nat × Nat)} (hU : ∀ q ∈ L, q ∈ nyT) (hL : ∀ q ∈ kyL_X11_back, q ∈ L) (hb : False → b = false) {Q : Int32 → HS → Prop} {v0 : Nat} {v1 : Int32} {v2 : Int32} {S0 S : HS} (h : P_X11_back_32 Q v0 v1 v2 S) (K : K9 b L S0 S) : P_X11_back_32 (fun r T => Q r T ∧ K9 b L S0 T) v0 v1 v2 S := h (fun v0 v1 v2 S => K9 b L S0 S → P_X11_back_32 (fun r T => Q r T ∧ K9 b L S0 T) v0 v1 v2 S) (fun v0 v1 v2 S hB K => fd_X11_back_32 (kyB_X11_back_32 hU hL hb hB K (fun _ _ _ _ hx K => hx K))) K
set_option maxRecDepth 20000 in
set_option maxHeartbeats 1000000 in
theorem ky_X11_back_0 {b : Bool} {L : List (Nat × Nat)} (hU : ∀ q ∈ L, q ∈ nyT) (hL : ∀ q ∈ kyL_X11_back, q ∈ L) (hb : False → b = false) {Q : Int32 → HS → Prop} {v0 : Nat} {v1 : Int32} {S0 S : HS} (h : P_X11_back_0 Q v0 v1 S) (K : K9 b L S0 S) : P_X11_back_0 (fun r T => Q r T ∧ K9 b L S0 T) v0 v1 S := by
  delta P_X11_back_0 at h ⊢
  obtain ⟨c1, h⟩ := h
  refine ⟨c1, ?_⟩
  intro x3 e2
  have h := h x3 e2
  have K := k9_I K e2
  refine cm_X11_isDay (ky_X11_isDay (b := b) hU (fun q hq => hL q ((by decide : ∀ q ∈ kyL_X11_isDay, q ∈ kyL_X11_back) q hq)) (fun z => z.elim) h) h (fun x4 x5 p8 h g6 g7 => ?_)
  have h := h g6 g7
  have K := k9_tr K p8.2
  refine ⟨?_, ?_⟩
  · intro c9
    have h := h.1 c9
    exact ky_X11_back_24 hU hL hb h K
  · intro c10
    have h := h.2 c10
    refine ⟨?_, ?_⟩
    · intro c11
      have h := h.1 c11
      exact ky_X11_back_24 hU hL hb h K
    · intro c12
      have h := h.2 c12
      intro x14 e13
      have h := h x14 e13
      refine ⟨?_, ?_⟩
      · intro c15
        have h := h.1 c15
        exact ky_X11_back_32 hU hL hb h K
      · intro c16
        have h := h.2 c16
        exact ky_X11_back_24 hU hL hb h K
theorem ky_X11_back {b : Bool} {L : List (Nat × Nat)} (hU : ∀ q ∈ L, q ∈ nyT) (hL : ∀ q ∈ kyL_X11_back, q ∈ L) (hb : False → b = false) {Q : Int32 → HS → Prop} {v0 : Nat} {v1 : Int32} {S : HS} (h : P_X11_back v0 v1 Q S) : P_X11_back v0 v1 (fun r T => Q r T ∧ K9 b L S T) S := ky_X11_back_0 hU hL hb h (k9_rf b L S)
abbrev kyL_X11_flaw : List (Nat × Nat) := []
set_option maxRecDepth 20000 in
set_option maxHeartbeats 1000000 in
theorem ky_X11_flaw_0 {b : Bool} {L : List (Nat × Nat)} (hU : ∀ q ∈ L, q ∈ nyT) (hL : ∀ q ∈ kyL_X11_flaw, q ∈ L) (hb : False → b = false) {Q : HS → Prop} {v0 : Nat} {v1 : Int32} {S0 S : HS} (h : P_X11_flaw_0 Q v0 v1 S) (K : K9 b L S0 S) : P_X11_flaw_0 (fun T => Q T ∧ K9 b L S0 T) v0 v1 S := by
  delta P_X11_flaw_0 at h ⊢
  obtain ⟨c1, h⟩ := h
  refine ⟨c1, ?_⟩
  intro x3 e2
  have h := h x3 e2
  refine ⟨?_, ?_⟩
  · intro c4
    have h := h.1 c4
    intro x6 e5
    have h := h x6 e5
    have K := k9_I K e5
    intro x8 e7
    have h := h x8 e7
    intro x10 e9
    have h := h x10 e9
    have K := k9_I K e9
    intro x12 e11
    have h := h x12 e11
    have K := k9_I K e11
    exact ⟨h, K⟩
  · intro c13
    have h := h.2 c13
    exact ⟨h, K⟩
theorem ky_X11_flaw {b : Bool} {L : List (Nat × Nat)} (hU : ∀ q ∈ L, q ∈ nyT) (hL : ∀ q ∈ kyL_X11_flaw, q ∈ L) (hb : False → b = false) {Q : HS → Prop} {v0 : Nat} {v1 : Int32} {S : HS} (h : P_X11_flaw v0 v1 Q S) : P_X11_flaw v0 v1 (fun T => Q T ∧ K9 b L S T) S := ky_X11_flaw_0 hU hL hb h (k9_rf b L S)
abbrev kyL_X11_byteAt : List (Nat × Nat) := []
set_option maxRecDepth 20000 in
set_option maxHeartbeats 1000000 in
theorem ky_X11_byteAt_0 {b : Bool} {L : List (Nat × Nat)} (hU : ∀ q ∈ L, q ∈ nyT) (hL : ∀ q ∈ kyL_X11_byteAt, q ∈ L) (hb : False → b = false) {Q : Int32 → HS → Prop} {v0 : Nat} {v1 : Int32} {S0 S : HS} (h : P_X11_byteAt_0 Q v0 v1 S) (K : K9 b L S0 S) : P_X11_byteAt_0 (fun r T => Q r T ∧ K9 b L S0 T) v0 v1 S := by
  delta P_X11_byteAt_0 at h ⊢
  obtain ⟨c1, h⟩ := h
  refine ⟨c1, ?_⟩
  have o2 := c1
  intro x4 e3
  have h := h x4 e3
  refine ⟨?_, ?_⟩
  · intro c5
    have h := h.1 c5
    exact ⟨h, K⟩
  · intro c6
    have h := h.2 c6
    obtain ⟨b7, e8, h⟩ := h
    refine ⟨b7, e8, ?_⟩
    obtain ⟨c9, h⟩ := h
    refine ⟨c9, ?_⟩
    obtain ⟨c10, h⟩ := h
    refine ⟨c10, ?_⟩
    intro x12 e11
    have h := h x12 e11
    exact ⟨h, K⟩
theorem ky_X11_byteAt {b : Bool} {L : List (Nat × Nat)} (hU : ∀ q ∈ L, q ∈ nyT) (hL : ∀ q ∈ kyL_X11_byteAt, q ∈ L) (hb : False → b = false) {Q : Int32 → HS → Prop} {v0 : Nat} {v1 : Int32} {S : HS} (h : P_X11_byteAt v0 v1 Q S) : P_X11_byteAt v0 v1 (fun r T => Q r T ∧ K9 b L S T) S := ky_X11_byteAt_0 hU hL hb h (k9_rf b L S)
abbrev kyL_X11_isDigit : List (Nat × Nat) := []
set_option maxRecDepth 20000 in
set_option maxHeartbeats 1000000 in
theorem ky_X11_isDigit_0 {b : Bool} {L : List (Nat × Nat)} (hU : ∀ q ∈ L, q ∈ nyT) (hL : ∀ q ∈ kyL_X11_isDigit, q ∈ L) (hb : False → b = false) {Q : Int32 → HS → Prop} {v0 : Int32} {S0 S : HS} (h : P_X11_isDigit_0 Q v0 S) (K : K9 b L S0 S) : P_X11_isDigit_0 (fun r T => Q r T ∧ K9 b L S0 T) v0 S := by
  delta P_X11_isDigit_0 at h ⊢
  refine ⟨?_, ?_⟩
  · intro c1
    have h := h.1 c1
    exact ⟨h, K⟩
  · intro c2
    have h := h.2 c2
    refine ⟨?_, ?_⟩
    · intro c3
      have h := h.1 c3
      exact ⟨h, K⟩
    · intro c4
      have h := h.2 c4
      exact ⟨h, K⟩
theorem ky_X11_isDigit {b : Bool} {L : List (Nat × Nat)} (hU : ∀ q ∈ L, q ∈ nyT) (hL : ∀ q ∈ kyL_X11_isDigit, q ∈ L) (hb : False → b = false) {Q : Int32 → HS → Prop} {v0 : Int32} {S : HS} (h : P_X11_isDigit v0 Q S) : P_X11_isDigit v0 (fun r T => Q r T ∧ K9 b L S T) S := ky_X11_isDigit_0 hU hL hb h (k9_rf b L S)
abbrev kyL_X11_isLetter : List (Nat × Nat) := []
set_option maxRecDepth 20000 in
set_option maxHeartbeats 1000000 in
theorem ky_X11_isLetter_0 {b : Bool} {L : List (Nat × Nat)} (hU : ∀ q ∈ L, q ∈ nyT) (hL : ∀ q ∈ kyL_X11_isLetter, q ∈ L) (hb : False → b = false) {Q : Int32 → HS → Prop} {v0 : Int32} {S0 S : HS} (h : P_X11_isLetter_0 Q v0 S) (K : K9 b L S0 S) : P_X11_isLetter_0 (fun r T => Q r T ∧ K9 b L S0 T) v0 S := by
  delta P_X11_isLetter_0 at h ⊢
  refine ⟨?_, ?_⟩
  · intro c1
    have h := h.1 c1
    exact ⟨h, K⟩
  · intro c2
    have h := h.2 c2
    refine ⟨?_, ?_⟩
    · intro c3
      have h := h.1 c3
      exact ⟨h, K⟩
    · intro c4
      have h := h.2 c4
      exact ⟨h, K⟩
theorem ky_X11_isLetter {b : Bool} {L : List (Nat × Nat)} (hU : ∀ q ∈ L, q ∈ nyT) (hL : ∀ q ∈ kyL_X11_isLetter, q ∈ L) (hb : False → b = false) {Q : Int32 → HS → Prop} {v0 : Int32} {S : HS} (h : P_X11_isLetter v0 Q S) : P_X11_isLetter v0 (fun r T => Q r T ∧ K9 b L S T) S := ky_X11_isLetter_0 hU hL hb h (k9_rf b L S)
abbrev kyL_X11_goesOn : List (Nat × Nat) := []
set_option maxRecDepth 20000 in
set_option maxHeartbeats 1000000 in
theorem ky_X11_goesOn_136 {b : Bool} {L : List (Nat × Nat)} (hU : ∀ q ∈ L, q ∈ nyT) (hL : ∀ q ∈ kyL_X11_goesOn, q ∈ L) (hb : False → b = false) {Q : HS → Prop} {X89 X89_2 : Nat → Int32 → HS → Prop} {v0 : Nat} {v2 : Int32} {S0 S : HS} (h : P_X11_goesOn_136 Q X89 v0 v2 S) (K : K9 b L S0 S) (hX89 : ∀ (u0 : Nat) (u1 : Int32) (u2 : HS), X89 u0 u1 u2 → K9 b L S0 u2 → X89_2 u0 u1 u2) : P_X11_goesOn_136 (fun T => Q T ∧ K9 b L S0 T) X89_2 v0 v2 S := by
  delta P_X11_goesOn_136 at h ⊢
  intro x2 e1
  have h := h x2 e1
  obtain ⟨c3, h⟩ := h
  refine ⟨c3, ?_⟩
  intro x5 e4
  have h := h x5 e4
  intro x7 e6
  have h := h x7 e6
  intro x9 e8
  have h := h x9 e8
  have K := k9_I K e8
  exact hX89 _ _ _ h K
set_option maxRecDepth 20000 in
set_option maxHeartbeats 1000000 in
theorem kyB_X11_goesOn_89 {b : Bool} {L : List (Nat × Nat)} (hU : ∀ q ∈ L, q ∈ nyT) (hL : ∀ q ∈ kyL_X11_goesOn, q ∈ L) (hb : False → b = false) {Q : HS → Prop} {X89 X89_2 : Nat → Int32 → HS → Prop} {v0 : Nat} {v2 : Int32} {S0 S : HS} (h : B_X11_goesOn_89 Q X89 v0 v2 S) (K : K9 b L S0 S) (hX89 : ∀ (u0 : Nat) (u1 : Int32) (u2 : HS), X89 u0 u1 u2 → K9 b L S0 u2 → X89_2 u0 u1 u2) : B_X11_goesOn_89 (fun T => Q T ∧ K9 b L S0 T) X89_2 v0 v2 S := by
  delta B_X11_goesOn_89 at h ⊢
  obtain ⟨c1, h⟩ := h
  refine ⟨c1, ?_⟩
  have n2 := k9_nk K c1 (by decide)
  intro x4 e3
  have h := h x4 e3
  refine cm_X11_byteAt (ky_X11_byteAt (b := b) hU (fun q hq => hL q ((by decide : ∀ q ∈ kyL_X11_byteAt, q ∈ kyL_X11_goesOn) q hq)) (fun z => z.elim) h) h (fun x5 x6 p8 h g7 => ?_)
  have h := h g7
  have K := k9_tr K p8.2
  refine cm_X11_isLetter (ky_X11_isLetter (b := b) hU (fun q hq => hL q ((by decide : ∀ q ∈ kyL_X11_isLetter, q ∈ kyL_X11_goesOn) q hq)) (fun z => z.elim) h) h (fun x9 x10 p13 h g11 g12 => ?_)
  have h := h g11 g12
  have K := k9_tr K p13.2
  refine ⟨?_, ?_⟩
  · intro c14
    have h := h.1 c14
    refine ⟨?_, ?_⟩
    · intro c15
      have h := h.1 c15
      exact ⟨h, K⟩
    · intro c16
      have h := h.2 c16
      intro x18 e17
      have h := h x18 e17
      have K := k9_I K e17
      exact ⟨h, K⟩
  · intro c19
    have h := h.2 c19
    refine ⟨?_, ?_⟩
    · intro c20
      have h := h.1 c20
      exact ky_X11_goesOn_136 hU hL hb h K hX89
    · intro c21
      have h := h.2 c21
      intro x23 e22
      have h := h x23 e22
      intro x25 e24
      have h := h x25 e24
      refine cm_X11_byteAt (ky_X11_byteAt (b := b) hU (fun q hq => hL q ((by decide : ∀ q ∈ kyL_X11_byteAt, q ∈ kyL_X11_goesOn) q hq)) (fun z => z.elim) h) h (fun x26 x27 p29 h g28 => ?_)
      have h := h g28
      have K := k9_tr K p29.2
      intro x31 e30
      have h := h x31 e30
      intro x33 e32
      have h := h x33 e32
      have K := k9_J K e32 n2
      exact ky_X11_goesOn_136 hU hL hb h K hX89
theorem ky_X11_goesOn_89 {b : Bool} {L : List (Nat × Nat)} (hU : ∀ q ∈ L, q ∈ nyT) (hL : ∀ q ∈ kyL_X11_goesOn, q ∈ L) (hb : False → b = false) {Q : HS → Prop} {v0 : Nat} {v2 : Int32} {S0 S : HS} (h : P_X11_goesOn_89 Q v0 v2 S) (K : K9 b L S0 S) : P_X11_goesOn_89 (fun T => Q T ∧ K9 b L S0 T) v0 v2 S := h (fun v0 v2 S => K9 b L S0 S → P_X11_goesOn_89 (fun T => Q T ∧ K9 b L S0 T) v0 v2 S) (fun v0 v2 S hB K => fd_X11_goesOn_89 (kyB_X11_goesOn_89 hU hL hb hB K (fun _ _ _ hx K => hx K))) K
set_option maxRecDepth 20000 in
set_option maxHeartbeats 1000000 in
theorem ky_X11_goesOn_220 {b : Bool} {L : List (Nat × Nat)} (hU : ∀ q ∈ L, q ∈ nyT) (hL : ∀ q ∈ kyL_X11_goesOn, q ∈ L) (hb : False → b = false) {Q : HS → Prop} {X178 X178_2 : Nat → Int32 → HS → Prop} {v0 : Nat} {v2 : Int32} {S0 S : HS} (h : P_X11_goesOn_220 Q X178 v0 v2 S) (K : K9 b L S0 S) (hX178 : ∀ (u0 : Nat) (u1 : Int32) (u2 : HS), X178 u0 u1 u2 → K9 b L S0 u2 → X178_2 u0 u1 u2) : P_X11_goesOn_220 (fun T => Q T ∧ K9 b L S0 T) X178_2 v0 v2 S := by
  delta P_X11_goesOn_220 at h ⊢
  intro x2 e1
  have h := h x2 e1
  obtain ⟨c3, h⟩ := h
  refine ⟨c3, ?_⟩
  intro x5 e4
  have h := h x5 e4
  intro x7 e6
  have h := h x7 e6
  intro x9 e8
  have h := h x9 e8
  have K := k9_I K e8
  exact hX178 _ _ _ h K
set_option maxRecDepth 20000 in
set_option maxHeartbeats 1000000 in
theorem kyB_X11_goesOn_178 {b : Bool} {L : List (Nat × Nat)} (hU : ∀ q ∈ L, q ∈ nyT) (hL : ∀ q ∈ kyL_X11_goesOn, q ∈ L) (hb : False → b = false) {Q : HS → Prop} {X178 X178_2 : Nat → Int32 → HS → Prop} {v0 : Nat} {v2 : Int32} {S0 S : HS} (h : B_X11_goesOn_178 Q X178 v0 v2 S) (K : K9 b L S0 S) (hX178 : ∀ (u0 : Nat) (u1 : Int32) (u2 : HS), X178 u0 u1 u2 → K9 b L S0 u2 → X178_2 u0 u1 u2) : B_X11_goesOn_178 (fun T => Q T ∧ K9 b L S0 T) X178_2 v0 v2 S := by
  delta B_X11_goesOn_178 at h ⊢
  obtain ⟨c1, h⟩ := h
  refine ⟨c1, ?_⟩
  intro x3 e2
  have h := h x3 e2
  refine cm_X11_byteAt (ky_X11_byteAt (b := b) hU (fun q hq => hL q ((by decide : ∀ q ∈ kyL_X11_byteAt, q ∈ kyL_X11_goesOn) q hq)) (fun z => z.elim) h) h (fun x4 x5 p7 h g6 => ?_)
  have h := h g6
  have K := k9_tr K p7.2
  refine cm_X11_isDigit (ky_X11_isDigit (b := b) hU (fun q hq => hL q ((by decide : ∀ q ∈ kyL_X11_isDigit, q ∈ kyL_X11_goesOn) q hq)) (fun z => z.elim) h) h (fun x8 x9 p12 h g10 g11 => ?_)
  have h := h g10 g11
  have K := k9_tr K p12.2
  refine ⟨?_, ?_⟩
  · intro c13
    have h := h.1 c13
    refine ⟨?_, ?_⟩
    · intro c14
      have h := h.1 c14
      exact ⟨h, K⟩
    · intro c15
      have h := h.2 c15
      intro x17 e16
      have h := h x17 e16
      have K := k9_I K e16
      exact ⟨h, K⟩
  · intro c18
    have h := h.2 c18
    refine ⟨?_, ?_⟩
    · intro c19
      have h := h.1 c19
      exact ky_X11_goesOn_220 hU hL hb h K hX178
    · intro c20
      have h := h.2 c20
      intro x22 e21
      have h := h x22 e21
      intro x24 e23
      have h := h x24 e23
      refine cm_X11_byteAt (ky_X11_byteAt (b := b) hU (fun q hq => hL q ((by decide : ∀ q ∈ kyL_X11_byteAt, q ∈ kyL_X11_goesOn) q hq)) (fun z => z.elim) h) h (fun x25 x26 p28 h g27 => ?_)
      have h := h g27
      have K := k9_tr K p28.2
      intro x30 e29
      have h := h x30 e29
      intro x32 e31
      have h := h x32 e31
      have K := k9_I K e31
      exact ky_X11_goesOn_220 hU hL hb h K hX178
theorem ky_X11_goesOn_178 {b : Bool} {L : List (Nat × Nat)} (hU : ∀ q ∈ L, q ∈ nyT) (hL : ∀ q ∈ kyL_X11_goesOn, q ∈ L) (hb : False → b = false) {Q : HS → Prop} {v0 : Nat} {v2 : Int32} {S0 S : HS} (h : P_X11_goesOn_178 Q v0 v2 S) (K : K9 b L S0 S) : P_X11_goesOn_178 (fun T => Q T ∧ K9 b L S0 T) v0 v2 S := h (fun v0 v2 S => K9 b L S0 S → P_X11_goesOn_178 (fun T => Q T ∧ K9 b L S0 T) v0 v2 S) (fun v0 v2 S hB K => fd_X11_goesOn_178 (kyB_X11_goesOn_178 hU hL hb hB K (fun _ _ _ hx K => hx K))) K
set_option maxRecDepth 20000 in
set_option maxHeartbeats 1000000 in
theorem ky_X11_goesOn_261 {b : Bool} {L : List (Nat × Nat)} (hU : ∀ q ∈ L, q ∈ nyT) (hL : ∀ q ∈ kyL_X11_goesOn, q ∈ L) (hb : False → b = false) {Q : HS → Prop} {v0 : Nat} {v1 : Int32} {S0 S : HS} (h : P_X11_goesOn_261 Q v0 v1 S) (K : K9 b L S0 S) : P_X11_goesOn_261 (fun T => Q T ∧ K9 b L S0 T) v0 v1 S := by
  delta P_X11_goesOn_261 at h ⊢
  obtain ⟨c1, h⟩ := h
  refine ⟨c1, ?_⟩
  intro x3 e2
  have h := h x3 e2
  have K := k9_I K e2
  intro x5 e4
  have h := h x5 e4
  have K := k9_I K e4
  intro x7 e6
  have h := h x7 e6
  intro x9 e8
  have h := h x9 e8
  intro x11 e10
  have h := h x11 e10
  have K := k9_I K e10
  exact ⟨h, K⟩
set_option maxRecDepth 20000 in
set_option maxHeartbeats 1000000 in
theorem kyB_X11_goesOn_9 {b : Bool} {L : List (Nat × Nat)} (hU : ∀ q ∈ L, q ∈ nyT) (hL : ∀ q ∈ kyL_X11_goesOn, q ∈ L) (hb : False → b = false) {Q : HS → Prop} {X9 X9_2 : Nat → HS → Prop} {v0 : Nat} {S0 S : HS} (h : B_X11_goesOn_9 Q X9 v0 S) (K : K9 b L S0 S) (hX9 : ∀ (u0 : Nat) (u1 : HS), X9 u0 u1 → K9 b L S0 u1 → X9_2 u0 u1) : B_X11_goesOn_9 (fun T => Q T ∧ K9 b L S0 T) X9_2 v0 S := by
  delta B_X11_goesOn_9 at h ⊢
  obtain ⟨c1, h⟩ := h
  refine ⟨c1, ?_⟩
  have n2 := k9_nk K c1 (by decide)
  intro x4 e3
  have h := h x4 e3
  refine cm_X11_byteAt (ky_X11_byteAt (b := b) hU (fun q hq => hL q ((by decide : ∀ q ∈ kyL_X11_byteAt, q ∈ kyL_X11_goesOn) q hq)) (fun z => z.elim) h) h (fun x5 x6 p8 h g7 => ?_)
  have h := h g7
  have K := k9_tr K p8.2
  refine ⟨?_, ?_⟩
  · intro c9
    have h := h.1 c9
    intro x11 e10
    have h := h x11 e10
    intro x13 e12
    have h := h x13 e12
    have K := k9_I K e12
    intro x15 e14
    have h := h x15 e14
    have K := k9_I K e14
    intro x17 e16
    have h := h x17 e16
    have K := k9_I K e16
    intro x19 e18
    have h := h x19 e18
    refine cm_X11_byteAt (ky_X11_byteAt (b := b) hU (fun q hq => hL q ((by decide : ∀ q ∈ kyL_X11_byteAt, q ∈ kyL_X11_goesOn) q hq)) (fun z => z.elim) h) h (fun x20 x21 p23 h g22 => ?_)
    have h := h g22
    have K := k9_tr K p23.2
    refine ⟨?_, ?_⟩
    · intro c24
      have h := h.1 c24
      refine cm_X11_isLetter (ky_X11_isLetter (b := b) hU (fun q hq => hL q ((by decide : ∀ q ∈ kyL_X11_isLetter, q ∈ kyL_X11_goesOn) q hq)) (fun z => z.elim) h) h (fun x25 x26 p29 h g27 g28 => ?_)
      have h := h g27 g28
      have K := k9_tr K p29.2
      refine ⟨?_, ?_⟩
      · intro c30
        have h := h.1 c30
        refine cm_X11_isDigit (ky_X11_isDigit (b := b) hU (fun q hq => hL q ((by decide : ∀ q ∈ kyL_X11_isDigit, q ∈ kyL_X11_goesOn) q hq)) (fun z => z.elim) h) h (fun x31 x32 p35 h g33 g34 => ?_)
        have h := h g33 g34
        have K := k9_tr K p35.2
        refine ⟨?_, ?_⟩
        · intro c36
          have h := h.1 c36
          refine ⟨?_, ?_⟩
          · intro c37
            have h := h.1 c37
            exact ky_X11_goesOn_261 hU hL hb h K
          · intro c38
            have h := h.2 c38
            refine ⟨?_, ?_⟩
            · intro c39
              have h := h.1 c39
              exact ⟨h, K⟩
            · intro c40
              have h := h.2 c40
              exact ky_X11_goesOn_261 hU hL hb h K
        · intro c41
          have h := h.2 c41
          intro x43 e42
          have h := h x43 e42
          have K := k9_I K e42
          exact ky_X11_goesOn_178 hU hL hb h K
      · intro c44
        have h := h.2 c44
        intro x46 e45
        have h := h x46 e45
        have K := k9_J K e45 n2
        exact ky_X11_goesOn_89 hU hL hb h K
    · intro c47
      have h := h.2 c47
      intro x49 e48
      have h := h x49 e48
      have K := k9_I K e48
      exact ⟨h, K⟩
  · intro c50
    have h := h.2 c50
    intro x52 e51
    have h := h x52 e51
    intro x54 e53
    have h := h x54 e53
    intro x56 e55
    have h := h x56 e55
    have K := k9_I K e55
    exact hX9 _ _ h K
theorem ky_X11_goesOn_9 {b : Bool} {L : List (Nat × Nat)} (hU : ∀ q ∈ L, q ∈ nyT) (hL : ∀ q ∈ kyL_X11_goesOn, q ∈ L) (hb : False → b = false) {Q : HS → Prop} {v0 : Nat} {S0 S : HS} (h : P_X11_goesOn_9 Q v0 S) (K : K9 b L S0 S) : P_X11_goesOn_9 (fun T => Q T ∧ K9 b L S0 T) v0 S := h (fun v0 S => K9 b L S0 S → P_X11_goesOn_9 (fun T => Q T ∧ K9 b L S0 T) v0 S) (fun v0 S hB K => fd_X11_goesOn_9 (kyB_X11_goesOn_9 hU hL hb hB K (fun _ _ hx K => hx K))) K
set_option maxRecDepth 20000 in
set_option maxHeartbeats 1000000 in
theorem ky_X11_goesOn_0 {b : Bool} {L : List (Nat × Nat)} (hU : ∀ q ∈ L, q ∈ nyT) (hL : ∀ q ∈ kyL_X11_goesOn, q ∈ L) (hb : False → b = false) {Q : HS → Prop} {v0 : Nat} {S0 S : HS} (h : P_X11_goesOn_0 Q v0 S) (K : K9 b L S0 S) : P_X11_goesOn_0 (fun T => Q T ∧ K9 b L S0 T) v0 S := by
  delta P_X11_goesOn_0 at h ⊢
  obtain ⟨c1, h⟩ := h
  refine ⟨c1, ?_⟩
  intro x3 e2
  have h := h x3 e2
  refine ⟨?_, ?_⟩
  · intro c4
    have h := h.1 c4
    exact ky_X11_goesOn_9 hU hL hb h K
  · intro c5
    have h := h.2 c5
    exact ⟨h, K⟩
theorem ky_X11_goesOn {b : Bool} {L : List (Nat × Nat)} (hU : ∀ q ∈ L, q ∈ nyT) (hL : ∀ q ∈ kyL_X11_goesOn, q ∈ L) (hb : False → b = false) {Q : HS → Prop} {v0 : Nat} {S : HS} (h : P_X11_goesOn v0 Q S) : P_X11_goesOn v0 (fun T => Q T ∧ K9 b L S T) S := ky_X11_goesOn_0 hU hL hb h (k9_rf b L S)
abbrev kyL_X11_begins : List (Nat × Nat) := []
set_option maxRecDepth 20000 in
set_option maxHeartbeats 1000000 in
theorem ky_X11_begins_26 {b : Bool} {L : List (Nat × Nat)} (hU : ∀ q ∈ L, q ∈ nyT) (hL : ∀ q ∈ kyL_X11_begins, q ∈ L) (hb : False → b = false) {Q : HS → Prop} {v0 : Nat} {S0 S : HS} (h : P_X11_begins_26 Q v0 S) (K : K9 b L S0 S) : P_X11_begins_26 (fun T => Q T ∧ K9 b L S0 T) v0 S := by
  delta P_X11_begins_26 at h ⊢
  obtain ⟨c1, h⟩ := h
  refine ⟨c1, ?_⟩
  refine cm_X11_goesOn (ky_X11_goesOn (b := b) hU (fun q hq => hL q ((by decide : ∀ q ∈ kyL_X11_goesOn, q ∈ kyL_X11_begins) q hq)) (fun z => z.elim) h) h (fun x2 p4 h g3 => ?_)
  have h := h g3
  have K := k9_tr K p4.2
  exact ⟨h, K⟩
set_option maxRecDepth 20000 in
set_option maxHeartbeats 1000000 in
theorem ky_X11_begins_10 {b : Bool} {L : List (Nat × Nat)} (hU : ∀ q ∈ L, q ∈ nyT) (hL : ∀ q ∈ kyL_X11_begins, q ∈ L) (hb : False → b = false) {Q : HS → Prop} {v0 : Nat} {S0 S : HS} (h : P_X11_begins_10 Q v0 S) (K : K9 b L S0 S) : P_X11_begins_10 (fun T => Q T ∧ K9 b L S0 T) v0 S := by
  delta P_X11_begins_10 at h ⊢
  obtain ⟨c1, h⟩ := h
  refine ⟨c1, ?_⟩
  have o2 := c1
  obtain ⟨b3, e4, h⟩ := h
  refine ⟨b3, e4, ?_⟩
  obtain ⟨c5, h⟩ := h
  refine ⟨c5, ?_⟩
  intro x7 e6
  have h := h x7 e6
  refine ⟨?_, ?_⟩
  · intro c8
    have h := h.1 c8
    exact ky_X11_begins_26 hU hL hb h K
  · intro c9
    have h := h.2 c9
    refine cm_X11_flaw (ky_X11_flaw (b := b) hU (fun q hq => hL q ((by decide : ∀ q ∈ kyL_X11_flaw, q ∈ kyL_X11_begins) q hq)) (fun z => z.elim) h) h (fun x10 p12 h g11 => ?_)
    have h := h g11
    have K := k9_tr K p12.2
    have o2 := gr_ob p12.2.1 o2
    exact ky_X11_begins_26 hU hL hb h K
set_option maxRecDepth 20000 in
set_option maxHeartbeats 1000000 in
theorem ky_X11_begins_0 {b : Bool} {L : List (Nat × Nat)} (hU : ∀ q ∈ L, q ∈ nyT) (hL : ∀ q ∈ kyL_X11_begins, q ∈ L) (hb : False → b = false) {Q : HS → Prop} {v0 : Nat} {v1 : Int32} {v2 : Int32} {S0 S : HS} (h : P_X11_begins_0 Q v0 v1 v2 S) (K : K9 b L S0 S) : P_X11_begins_0 (fun T => Q T ∧ K9 b L S0 T) v0 v1 v2 S := by
  delta P_X11_begins_0 at h ⊢
  refine ⟨?_, ?_⟩
  · intro c1
    have h := h.1 c1
    exact ky_X11_begins_10 hU hL hb h K
  · intro c2
    have h := h.2 c2
    obtain ⟨c3, h⟩ := h
    refine ⟨c3, ?_⟩
    refine cm_X11_flaw (ky_X11_flaw (b := b) hU (fun q hq => hL q ((by decide : ∀ q ∈ kyL_X11_flaw, q ∈ kyL_X11_begins) q hq)) (fun z => z.elim) h) h (fun x4 p6 h g5 => ?_)
    have h := h g5
    have K := k9_tr K p6.2
    exact ky_X11_begins_10 hU hL hb h K
theorem ky_X11_begins {b : Bool} {L : List (Nat × Nat)} (hU : ∀ q ∈ L, q ∈ nyT) (hL : ∀ q ∈ kyL_X11_begins, q ∈ L) (hb : False → b = false) {Q : HS → Prop} {v0 : Nat} {v1 : Int32} {v2 : Int32} {S : HS} (h : P_X11_begins v0 v1 v2 Q S) : P_X11_begins v0 v1 v2 (fun T => Q T ∧ K9 b L S T) S := ky_X11_begins_0 hU hL hb h (k9_rf b L S)
abbrev kyL_X11_isForward : List (Nat × Nat) := []
set_option maxRecDepth 20000 in
set_option maxHeartbeats 1000000 in
theorem ky_X11_isForward_112 {b : Bool} {L : List (Nat × Nat)} (hU : ∀ q ∈ L, q ∈ nyT) (hL : ∀ q ∈ kyL_X11_isForward, q ∈ L) (hb : False → b = false) {Q : Int32 → HS → Prop} {v0 : Nat} {v4 : Int32} {v7 : Int32} {v8 : Int32} {v9 : Int32} {s0 : Int32} {S0 S : HS} (h : P_X11_isForward_112 Q v0 v4 v7 v8 v9 s0 S) (K : K9 b L S0 S) : P_X11_isForward_112 (fun r T => Q r T ∧ K9 b L S0 T) v0 v4 v7 v8 v9 s0 S := by
  delta P_X11_isForward_112 at h ⊢
  refine ⟨?_, ?_⟩
  · intro c1
    have h := h.1 c1
    exact ⟨h, K⟩
  · intro c2
    have h := h.2 c2
    refine ⟨?_, ?_⟩
    · intro c3
      have h := h.1 c3
      exact ⟨h, K⟩
    · intro c4
      have h := h.2 c4
      obtain ⟨c5, h⟩ := h
      refine ⟨c5, ?_⟩
      have o6 := c5
      obtain ⟨b7, e8, h⟩ := h
      refine ⟨b7, e8, ?_⟩
      obtain ⟨c9, h⟩ := h
      refine ⟨c9, ?_⟩
      have o10 := c9
      obtain ⟨b11, e12, h⟩ := h
      refine ⟨b11, e12, ?_⟩
      obtain ⟨c13, h⟩ := h
      refine ⟨c13, ?_⟩
      obtain ⟨c14, h⟩ := h
      refine ⟨c14, ?_⟩
      intro x16 e15
      have h := h x16 e15
      obtain ⟨b17, e18, h⟩ := h
      refine ⟨b17, e18, ?_⟩
      obtain ⟨c19, h⟩ := h
      refine ⟨c19, ?_⟩
      have o20 := c19
      obtain ⟨b21, e22, h⟩ := h
      refine ⟨b21, e22, ?_⟩
      obtain ⟨c23, h⟩ := h
      refine ⟨c23, ?_⟩
      obtain ⟨c24, h⟩ := h
      refine ⟨c24, ?_⟩
      intro x26 e25
      have h := h x26 e25
      obtain ⟨b27, e28, h⟩ := h
      refine ⟨b27, e28, ?_⟩
      obtain ⟨c29, h⟩ := h
      refine ⟨c29, ?_⟩
      have o30 := c29
      obtain ⟨b31, e32, h⟩ := h
      refine ⟨b31, e32, ?_⟩
      obtain ⟨c33, h⟩ := h
      refine ⟨c33, ?_⟩
      obtain ⟨c34, h⟩ := h
      refine ⟨c34, ?_⟩
      intro x36 e35
      have h := h x36 e35
      refine ⟨?_, ?_⟩
      · intro c37
        have h := h.1 c37
        exact ⟨h, K⟩
      · intro c38
        have h := h.2 c38
        exact ⟨h, K⟩
set_option maxRecDepth 20000 in
set_option maxHeartbeats 1000000 in
theorem ky_X11_isForward_84 {b : Bool} {L : List (Nat × Nat)} (hU : ∀ q ∈ L, q ∈ nyT) (hL : ∀ q ∈ kyL_X11_isForward, q ∈ L) (hb : False → b = false) {Q : Int32 → HS → Prop} {v0 : Nat} {v2 : Int32} {v4 : Int32} {v7 : Int32} {v8 : Int32} {s0 : Int32} {S0 S : HS} (h : P_X11_isForward_84 Q v0 v2 v4 v7 v8 s0 S) (K : K9 b L S0 S) : P_X11_isForward_84 (fun r T => Q r T ∧ K9 b L S0 T) v0 v2 v4 v7 v8 s0 S := by
  delta P_X11_isForward_84 at h ⊢
  obtain ⟨c1, h⟩ := h
  refine ⟨c1, ?_⟩
  have o2 := c1
  obtain ⟨b3, e4, h⟩ := h
  refine ⟨b3, e4, ?_⟩
  obtain ⟨c5, h⟩ := h
  refine ⟨c5, ?_⟩
  have o6 := c5
  obtain ⟨b7, e8, h⟩ := h
  refine ⟨b7, e8, ?_⟩
  obtain ⟨c9, h⟩ := h
  refine ⟨c9, ?_⟩
  obtain ⟨c10, h⟩ := h
  refine ⟨c10, ?_⟩
  intro x12 e11
  have h := h x12 e11
  obtain ⟨b13, e14, h⟩ := h
  refine ⟨b13, e14, ?_⟩
  obtain ⟨c15, h⟩ := h
  refine ⟨c15, ?_⟩
  have o16 := c15
  obtain ⟨b17, e18, h⟩ := h
  refine ⟨b17, e18, ?_⟩
  obtain ⟨c19, h⟩ := h
  refine ⟨c19, ?_⟩
  obtain ⟨c20, h⟩ := h
  refine ⟨c20, ?_⟩
  intro x22 e21
  have h := h x22 e21
  refine ⟨?_, ?_⟩
  · intro c23
    have h := h.1 c23
    exact ky_X11_isForward_112 hU hL hb h K
  · intro c24
    have h := h.2 c24
    exact ky_X11_isForward_112 hU hL hb h K
set_option maxRecDepth 20000 in
set_option maxHeartbeats 1000000 in
theorem ky_X11_isForward_54 {b : Bool} {L : List (Nat × Nat)} (hU : ∀ q ∈ L, q ∈ nyT) (hL : ∀ q ∈ kyL_X11_isForward, q ∈ L) (hb : False → b = false) {Q : Int32 → HS → Prop} {v0 : Nat} {v1 : Int32} {v2 : Int32} {v4 : Int32} {v6 : Int32} {v7 : Int32} {s0 : Int32} {S0 S : HS} (h : P_X11_isForward_54 Q v0 v1 v2 v4 v6 v7 s0 S) (K : K9 b L S0 S) : P_X11_isForward_54 (fun r T => Q r T ∧ K9 b L S0 T) v0 v1 v2 v4 v6 v7 s0 S := by
  delta P_X11_isForward_54 at h ⊢
  obtain ⟨c1, h⟩ := h
  refine ⟨c1, ?_⟩
  have o2 := c1
  obtain ⟨b3, e4, h⟩ := h
  refine ⟨b3, e4, ?_⟩
  obtain ⟨c5, h⟩ := h
  refine ⟨c5, ?_⟩
  have o6 := c5
  obtain ⟨b7, e8, h⟩ := h
  refine ⟨b7, e8, ?_⟩
  obtain ⟨c9, h⟩ := h
  refine ⟨c9, ?_⟩
  obtain ⟨c10, h⟩ := h
  refine ⟨c10, ?_⟩
  intro x12 e11
  have h := h x12 e11
  refine ⟨?_, ?_⟩
  · intro c13
    have h := h.1 c13
    obtain ⟨b14, e15, h⟩ := h
    refine ⟨b14, e15, ?_⟩
    obtain ⟨c16, h⟩ := h
    refine ⟨c16, ?_⟩
    have o17 := c16
    obtain ⟨b18, e19, h⟩ := h
    refine ⟨b18, e19, ?_⟩
    obtain ⟨c20, h⟩ := h
    refine ⟨c20, ?_⟩
    obtain ⟨c21, h⟩ := h
    refine ⟨c21, ?_⟩
    intro x23 e22
    have h := h x23 e22
    exact ky_X11_isForward_84 hU hL hb h K
  · intro c24
    have h := h.2 c24
    exact ky_X11_isForward_84 hU hL hb h K
set_option maxRecDepth 20000 in
set_option maxHeartbeats 1000000 in
theorem ky_X11_isForward_0 {b : Bool} {L : List (Nat × Nat)} (hU : ∀ q ∈ L, q ∈ nyT) (hL : ∀ q ∈ kyL_X11_isForward, q ∈ L) (hb : False → b = false) {Q : Int32 → HS → Prop} {v0 : Nat} {v1 : Int32} {v2 : Int32} {v3 : Int32} {v4 : Int32} {v5 : Int32} {S0 S : HS} (h : P_X11_isForward_0 Q v0 v1 v2 v3 v4 v5 S) (K : K9 b L S0 S) : P_X11_isForward_0 (fun r T => Q r T ∧ K9 b L S0 T) v0 v1 v2 v3 v4 v5 S := by
  delta P_X11_isForward_0 at h ⊢
  obtain ⟨c1, h⟩ := h
  refine ⟨c1, ?_⟩
  have o2 := c1
  obtain ⟨b3, e4, h⟩ := h
  refine ⟨b3, e4, ?_⟩
  obtain ⟨c5, h⟩ := h
  refine ⟨c5, ?_⟩
  refine cm_X10_shield (ky_X10_shield (b := b) hU (fun q hq => hL q ((by decide : ∀ q ∈ kyL_X10_shield, q ∈ kyL_X11_isForward) q hq)) (fun z => z.elim) h) h (fun x6 x7 p9 h g8 => ?_)
  have h := h g8
  have K := k9_tr K p9.2
  have o2 := gr_ob p9.2.1 o2
  obtain ⟨b10, e11, h⟩ := h
  refine ⟨b10, e11, ?_⟩
  obtain ⟨c12, h⟩ := h
  refine ⟨c12, ?_⟩
  refine cm_X10_air (ky_X10_air (b := b) hU (fun q hq => hL q ((by decide : ∀ q ∈ kyL_X10_air, q ∈ kyL_X11_isForward) q hq)) (fun z => z.elim) h) h (fun x13 x14 p16 h g15 => ?_)
  have h := h g15
  have K := k9_tr K p16.2
  have o2 := gr_ob p16.2.1 o2
  intro x18 e17
  have h := h x18 e17
  obtain ⟨b19, e20, h⟩ := h
  refine ⟨b19, e20, ?_⟩
  obtain ⟨c21, h⟩ := h
  refine ⟨c21, ?_⟩
  have o22 := c21
  obtain ⟨b23, e24, h⟩ := h
  refine ⟨b23, e24, ?_⟩
  obtain ⟨c25, h⟩ := h
  refine ⟨c25, ?_⟩
  obtain ⟨c26, h⟩ := h
  refine ⟨c26, ?_⟩
  intro x28 e27
  have h := h x28 e27
  refine ⟨?_, ?_⟩
  · intro c29
    have h := h.1 c29
    obtain ⟨b30, e31, h⟩ := h
    refine ⟨b30, e31, ?_⟩
    obtain ⟨c32, h⟩ := h
    refine ⟨c32, ?_⟩
    have o33 := c32
    obtain ⟨b34, e35, h⟩ := h
    refine ⟨b34, e35, ?_⟩
    obtain ⟨c36, h⟩ := h
    refine ⟨c36, ?_⟩
    obtain ⟨c37, h⟩ := h
    refine ⟨c37, ?_⟩
    intro x39 e38
    have h := h x39 e38
    exact ky_X11_isForward_54 hU hL hb h K
  · intro c40
    have h := h.2 c40
    exact ky_X11_isForward_54 hU hL hb h K
theorem ky_X11_isForward {b : Bool} {L : List (Nat × Nat)} (hU : ∀ q ∈ L, q ∈ nyT) (hL : ∀ q ∈ kyL_X11_isForward, q ∈ L) (hb : False → b = false) {Q : Int32 → HS → Prop} {v0 : Nat} {v1 : Int32} {v2 : Int32} {v3 : Int32} {v4 : Int32} {v5 : Int32} {S : HS} (h : P_X11_isForward v0 v1 v2 v3 v4 v5 Q S) : P_X11_isForward v0 v1 v2 v3 v4 v5 (fun r T => Q r T ∧ K9 b L S T) S := ky_X11_isForward_0 hU hL hb h (k9_rf b L S)
abbrev kyL_X11_less : List (Nat × Nat) := []
set_option maxRecDepth 20000 in
set_option maxHeartbeats 1000000 in
theorem ky_X11_less_0 {b : Bool} {L : List (Nat × Nat)} (hU : ∀ q ∈ L, q ∈ nyT) (hL : ∀ q ∈ kyL_X11_less, q ∈ L) (hb : False → b = false) {Q : Int32 → HS → Prop} {v0 : Int32} {v1 : Int32} {S0 S : HS} (h : P_X11_less_0 Q v0 v1 S) (K : K9 b L S0 S) : P_X11_less_0 (fun r T => Q r T ∧ K9 b L S0 T) v0 v1 S := by
  delta P_X11_less_0 at h ⊢
  refine ⟨?_, ?_⟩
  · intro c1
    have h := h.1 c1
    exact ⟨h, K⟩
  · intro c2
    have h := h.2 c2
    exact ⟨h, K⟩
theorem ky_X11_less {b : Bool} {L : List (Nat × Nat)} (hU : ∀ q ∈ L, q ∈ nyT) (hL : ∀ q ∈ kyL_X11_less, q ∈ L) (hb : False → b = false) {Q : Int32 → HS → Prop} {v0 : Int32} {v1 : Int32} {S : HS} (h : P_X11_less v0 v1 Q S) : P_X11_less v0 v1 (fun r T => Q r T ∧ K9 b L S T) S := ky_X11_less_0 hU hL hb h (k9_rf b L S)
abbrev kyL_X11_inTime : List (Nat × Nat) := []
set_option maxRecDepth 20000 in
set_option maxHeartbeats 1000000 in
theorem ky_X11_inTime_129 {b : Bool} {L : List (Nat × Nat)} (hU : ∀ q ∈ L, q ∈ nyT) (hL : ∀ q ∈ kyL_X11_inTime, q ∈ L) (hb : False → b = false) {Q : Int32 → HS → Prop} {s0 : Int32} {s1 : Int32} {s2 : Int32} {S0 S : HS} (h : P_X11_inTime_129 Q s0 s1 s2 S) (K : K9 b L S0 S) : P_X11_inTime_129 (fun r T => Q r T ∧ K9 b L S0 T) s0 s1 s2 S := by
  delta P_X11_inTime_129 at h ⊢
  refine cm_X11_less (ky_X11_less (b := b) hU (fun q hq => hL q ((by decide : ∀ q ∈ kyL_X11_less, q ∈ kyL_X11_inTime) q hq)) (fun z => z.elim) h) h (fun x1 x2 p4 h g3 => ?_)
  have h := h g3
  have K := k9_tr K p4.2
  exact ⟨h, K⟩
set_option maxRecDepth 20000 in
set_option maxHeartbeats 1000000 in
theorem ky_X11_inTime_164 {b : Bool} {L : List (Nat × Nat)} (hU : ∀ q ∈ L, q ∈ nyT) (hL : ∀ q ∈ kyL_X11_inTime, q ∈ L) (hb : False → b = false) {Q : Int32 → HS → Prop} {v7 : Int32} {s0 : Int32} {s1 : Int32} {s2 : Int32} {S0 S : HS} (h : P_X11_inTime_164 Q v7 s0 s1 s2 S) (K : K9 b L S0 S) : P_X11_inTime_164 (fun r T => Q r T ∧ K9 b L S0 T) v7 s0 s1 s2 S := by
  delta P_X11_inTime_164 at h ⊢
  refine cm_X11_less (ky_X11_less (b := b) hU (fun q hq => hL q ((by decide : ∀ q ∈ kyL_X11_less, q ∈ kyL_X11_inTime) q hq)) (fun z => z.elim) h) h (fun x1 x2 p4 h g3 => ?_)
  have h := h g3
  have K := k9_tr K p4.2
  refine cm_X11_less (ky_X11_less (b := b) hU (fun q hq => hL q ((by decide : ∀ q ∈ kyL_X11_less, q ∈ kyL_X11_inTime) q hq)) (fun z => z.elim) h) h (fun x5 x6 p8 h g7 => ?_)
  have h := h g7
  have K := k9_tr K p8.2
  exact ⟨h, K⟩
set_option maxRecDepth 20000 in
set_option maxHeartbeats 1000000 in
theorem ky_X11_inTime_0 {b : Bool} {L : List (Nat × Nat)} (hU : ∀ q ∈ L, q ∈ nyT) (hL : ∀ q ∈ kyL_X11_inTime, q ∈ L) (hb : False → b = false) {Q : Int32 → HS → Prop} {v0 : Nat} {v1 : Int32} {v2 : Int32} {v3 : Int32} {v4 : Int32} {v5 : Int32} {v6 : Int32} {v7 : Int32} {v8 : Int32} {S0 S : HS} (h : P_X11_inTime_0 Q v0 v1 v2 v3 v4 v5 v6 v7 v8 S) (K : K9 b L S0 S) : P_X11_inTime_0 (fun r T => Q r T ∧ K9 b L S0 T) v0 v1 v2 v3 v4 v5 v6 v7 v8 S := by
  delta P_X11_inTime_0 at h ⊢
  obtain ⟨c1, h⟩ := h
  refine ⟨c1, ?_⟩
  have o2 := c1
  obtain ⟨b3, e4, h⟩ := h
  refine ⟨b3, e4, ?_⟩
  obtain ⟨c5, h⟩ := h
  refine ⟨c5, ?_⟩
  have o6 := c5
  obtain ⟨b7, e8, h⟩ := h
  refine ⟨b7, e8, ?_⟩
  obtain ⟨c9, h⟩ := h
  refine ⟨c9, ?_⟩
  obtain ⟨c10, h⟩ := h
  refine ⟨c10, ?_⟩
  intro x12 e11
  have h := h x12 e11
  obtain ⟨b13, e14, h⟩ := h
  refine ⟨b13, e14, ?_⟩
  obtain ⟨c15, h⟩ := h
  refine ⟨c15, ?_⟩
  refine cm_X10_air (ky_X10_air (b := b) hU (fun q hq => hL q ((by decide : ∀ q ∈ kyL_X10_air, q ∈ kyL_X11_inTime) q hq)) (fun z => z.elim) h) h (fun x16 x17 p19 h g18 => ?_)
  have h := h g18
  have K := k9_tr K p19.2
  have o2 := gr_ob p19.2.1 o2
  have o6 := gr_ob p19.2.1 o6
  intro x21 e20
  have h := h x21 e20
  obtain ⟨b22, e23, h⟩ := h
  refine ⟨b22, e23, ?_⟩
  obtain ⟨c24, h⟩ := h
  refine ⟨c24, ?_⟩
  refine cm_X10_across (ky_X10_across (b := b) hU (fun q hq => hL q ((by decide : ∀ q ∈ kyL_X10_across, q ∈ kyL_X11_inTime) q hq)) (fun z => z.elim) h) h (fun x25 x26 p28 h g27 => ?_)
  have h := h g27
  have K := k9_tr K p28.2
  have o2 := gr_ob p28.2.1 o2
  have o6 := gr_ob p28.2.1 o6
  refine cm_X11_isForward (ky_X11_isForward (b := b) hU (fun q hq => hL q ((by decide : ∀ q ∈ kyL_X11_isForward, q ∈ kyL_X11_inTime) q hq)) (fun z => z.elim) h) h (fun x29 x30 p33 h g31 g32 => ?_)
  have h := h g31 g32
  have K := k9_tr K p33.2
  have o2 := gr_ob p33.2.1 o2
  have o6 := gr_ob p33.2.1 o6
  obtain ⟨b34, e35, h⟩ := h
  refine ⟨b34, e35, ?_⟩
  obtain ⟨c36, h⟩ := h
  refine ⟨c36, ?_⟩
  refine cm_X10_shield (ky_X10_shield (b := b) hU (fun q hq => hL q ((by decide : ∀ q ∈ kyL_X10_shield, q ∈ kyL_X11_inTime) q hq)) (fun z => z.elim) h) h (fun x37 x38 p40 h g39 => ?_)
  have h := h g39
  have K := k9_tr K p40.2
  have o2 := gr_ob p40.2.1 o2
  have o6 := gr_ob p40.2.1 o6
  refine ⟨?_, ?_, ?_, ?_, ?_⟩
  · intro c41
    have h := h.1 c41
    refine ⟨?_, ?_⟩
    · intro c42
      have h := h.1 c42
      exact ⟨h, K⟩
    · intro c43
      have h := h.2 c43
      obtain ⟨b44, e45, h⟩ := h
      refine ⟨b44, e45, ?_⟩
      obtain ⟨c46, h⟩ := h
      refine ⟨c46, ?_⟩
      have o47 := c46
      obtain ⟨b48, e49, h⟩ := h
      refine ⟨b48, e49, ?_⟩
      obtain ⟨c50, h⟩ := h
      refine ⟨c50, ?_⟩
      obtain ⟨c51, h⟩ := h
      refine ⟨c51, ?_⟩
      intro x53 e52
      have h := h x53 e52
      exact ⟨h, K⟩
  · intro c54
    have h := h.2.1 c54
    obtain ⟨b55, e56, h⟩ := h
    refine ⟨b55, e56, ?_⟩
    obtain ⟨c57, h⟩ := h
    refine ⟨c57, ?_⟩
    have o58 := c57
    obtain ⟨b59, e60, h⟩ := h
    refine ⟨b59, e60, ?_⟩
    obtain ⟨c61, h⟩ := h
    refine ⟨c61, ?_⟩
    obtain ⟨c62, h⟩ := h
    refine ⟨c62, ?_⟩
    intro x64 e63
    have h := h x64 e63
    obtain ⟨b65, e66, h⟩ := h
    refine ⟨b65, e66, ?_⟩
    obtain ⟨c67, h⟩ := h
    refine ⟨c67, ?_⟩
    have o68 := c67
    obtain ⟨b69, e70, h⟩ := h
    refine ⟨b69, e70, ?_⟩
    obtain ⟨c71, h⟩ := h
    refine ⟨c71, ?_⟩
    obtain ⟨c72, h⟩ := h
    refine ⟨c72, ?_⟩
    intro x74 e73
    have h := h x74 e73
    refine ⟨?_, ?_⟩
    · intro c75
      have h := h.1 c75
      exact ky_X11_inTime_129 hU hL hb h K
    · intro c76
      have h := h.2 c76
      exact ky_X11_inTime_129 hU hL hb h K
  · intro c77
    have h := h.2.2.1 c77
    refine ⟨?_, ?_⟩
    · intro c78
      have h := h.1 c78
      exact ⟨h, K⟩
    · intro c79
      have h := h.2 c79
      obtain ⟨b80, e81, h⟩ := h
      refine ⟨b80, e81, ?_⟩
      obtain ⟨c82, h⟩ := h
      refine ⟨c82, ?_⟩
      have o83 := c82
      obtain ⟨b84, e85, h⟩ := h
      refine ⟨b84, e85, ?_⟩
      obtain ⟨c86, h⟩ := h
      refine ⟨c86, ?_⟩
      obtain ⟨c87, h⟩ := h
      refine ⟨c87, ?_⟩
      intro x89 e88
      have h := h x89 e88
      refine ⟨?_, ?_⟩
      · intro c90
        have h := h.1 c90
        exact ky_X11_inTime_164 hU hL hb h K
      · intro c91
        have h := h.2 c91
        exact ky_X11_inTime_164 hU hL hb h K
  · intro c92
    have h := h.2.2.2.1 c92
    refine ⟨?_, ?_⟩
    · intro c93
      have h := h.1 c93
      exact ⟨h, K⟩
    · intro c94
      have h := h.2 c94
      obtain ⟨b95, e96, h⟩ := h
      refine ⟨b95, e96, ?_⟩
      obtain ⟨c97, h⟩ := h
      refine ⟨c97, ?_⟩
      have o98 := c97
      obtain ⟨b99, e100, h⟩ := h
      refine ⟨b99, e100, ?_⟩
      obtain ⟨c101, h⟩ := h
      refine ⟨c101, ?_⟩
      obtain ⟨c102, h⟩ := h
      refine ⟨c102, ?_⟩
      intro x104 e103
      have h := h x104 e103
      refine cm_X11_less (ky_X11_less (b := b) hU (fun q hq => hL q ((by decide : ∀ q ∈ kyL_X11_less, q ∈ kyL_X11_inTime) q hq)) (fun z => z.elim) h) h (fun x105 x106 p108 h g107 => ?_)
      have h := h g107
      have K := k9_tr K p108.2
      have o2 := gr_ob p108.2.1 o2
      have o6 := gr_ob p108.2.1 o6
      have o98 := gr_ob p108.2.1 o98
      exact ⟨h, K⟩
  · intro c109
    have h := h.2.2.2.2 c109
    refine ⟨?_, ?_⟩
    · intro c110
      have h := h.1 c110
      exact ⟨h, K⟩
    · intro c111
      have h := h.2 c111
      obtain ⟨b112, e113, h⟩ := h
      refine ⟨b112, e113, ?_⟩
      obtain ⟨c114, h⟩ := h
      refine ⟨c114, ?_⟩
      have o115 := c114
      obtain ⟨b116, e117, h⟩ := h
      refine ⟨b116, e117, ?_⟩
      obtain ⟨c118, h⟩ := h
      refine ⟨c118, ?_⟩
      obtain ⟨c119, h⟩ := h
      refine ⟨c119, ?_⟩
      intro x121 e120
      have h := h x121 e120
      exact ⟨h, K⟩
theorem ky_X11_inTime {b : Bool} {L : List (Nat × Nat)} (hU : ∀ q ∈ L, q ∈ nyT) (hL : ∀ q ∈ kyL_X11_inTime, q ∈ L) (hb : False → b = false) {Q : Int32 → HS → Prop} {v0 : Nat} {v1 : Int32} {v2 : Int32} {v3 : Int32} {v4 : Int32} {v5 : Int32} {v6 : Int32} {v7 : Int32} {v8 : Int32} {S : HS} (h : P_X11_inTime v0 v1 v2 v3 v4 v5 v6 v7 v8 Q S) : P_X11_inTime v0 v1 v2 v3 v4 v5 v6 v7 v8 (fun r T => Q r T ∧ K9 b L S T) S := ky_X11_inTime_0 hU hL hb h (k9_rf b L S)
abbrev kyL_X11_partsOf : List (Nat × Nat) := []
set_option maxRecDepth 20000 in
set_option maxHeartbeats 1000000 in
theorem ky_X11_partsOf_0 {b : Bool} {L : List (Nat × Nat)} (hU : ∀ q ∈ L, q ∈ nyT) (hL : ∀ q ∈ kyL_X11_partsOf, q ∈ L) (hb : False → b = false) {Q : Int64 → HS → Prop} {v0 : Nat} {v1 : Int32} {v2 : Int32} {v3 : Int32} {v4 : Int32} {v5 : Int32} {v6 : Int32} {S0 S : HS} (h : P_X11_partsOf_0 Q v0 v1 v2 v3 v4 v5 v6 S) (K : K9 b L S0 S) : P_X11_partsOf_0 (fun r T => Q r T ∧ K9 b L S0 T) v0 v1 v2 v3 v4 v5 v6 S := by
  delta P_X11_partsOf_0 at h ⊢
  obtain ⟨c1, h⟩ := h
  refine ⟨c1, ?_⟩
  have o2 := c1
  refine cm_X11_inTime (ky_X11_inTime (b := b) hU (fun q hq => hL q ((by decide : ∀ q ∈ kyL_X11_inTime, q ∈ kyL_X11_partsOf) q hq)) (fun z => z.elim) h) h (fun x3 x4 p6 h g5 => ?_)
  have h := h g5
  have K := k9_tr K p6.2
  have o2 := gr_ob p6.2.1 o2
  obtain ⟨b7, e8, h⟩ := h
  refine ⟨b7, e8, ?_⟩
  obtain ⟨c9, h⟩ := h
  refine ⟨c9, ?_⟩
  have o10 := c9
  obtain ⟨b11, e12, h⟩ := h
  refine ⟨b11, e12, ?_⟩
  obtain ⟨c13, h⟩ := h
  refine ⟨c13, ?_⟩
  obtain ⟨c14, h⟩ := h
  refine ⟨c14, ?_⟩
  intro x16 e15
  have h := h x16 e15
  obtain ⟨b17, e18, h⟩ := h
  refine ⟨b17, e18, ?_⟩
  obtain ⟨c19, h⟩ := h
  refine ⟨c19, ?_⟩
  have o20 := c19
  obtain ⟨b21, e22, h⟩ := h
  refine ⟨b21, e22, ?_⟩
  obtain ⟨c23, h⟩ := h
  refine ⟨c23, ?_⟩
  obtain ⟨c24, h⟩ := h
  refine ⟨c24, ?_⟩
  intro x26 e25
  have h := h x26 e25
  obtain ⟨c27, h⟩ := h
  refine ⟨c27, ?_⟩
  intro x29 e28
  have h := h x29 e28
  exact ⟨h, K⟩
theorem ky_X11_partsOf {b : Bool} {L : List (Nat × Nat)} (hU : ∀ q ∈ L, q ∈ nyT) (hL : ∀ q ∈ kyL_X11_partsOf, q ∈ L) (hb : False → b = false) {Q : Int64 → HS → Prop} {v0 : Nat} {v1 : Int32} {v2 : Int32} {v3 : Int32} {v4 : Int32} {v5 : Int32} {v6 : Int32} {S : HS} (h : P_X11_partsOf v0 v1 v2 v3 v4 v5 v6 Q S) : P_X11_partsOf v0 v1 v2 v3 v4 v5 v6 (fun r T => Q r T ∧ K9 b L S T) S := ky_X11_partsOf_0 hU hL hb h (k9_rf b L S)
abbrev kyL_X11_wetOf : List (Nat × Nat) := []
set_option maxRecDepth 20000 in
set_option maxHeartbeats 1000000 in
theorem kyB_X11_wetOf_6 {b : Bool} {L : List (Nat × Nat)} (hU : ∀ q ∈ L, q ∈ nyT) (hL : ∀ q ∈ kyL_X11_wetOf, q ∈ L) (hb : False → b = false) {Q : Int64 → HS → Prop} {X6 X6_2 : Nat → Int32 → Int32 → Int32 → Int32 → Int32 → Int64 → Int32 → HS → Prop} {v0 : Nat} {v1 : Int32} {v2 : Int32} {v3 : Int32} {v4 : Int32} {v5 : Int32} {v6 : Int64} {v8 : Int32} {S0 S : HS} (h : B_X11_wetOf_6 Q X6 v0 v1 v2 v3 v4 v5 v6 v8 S) (K : K9 b L S0 S) (hX6 : ∀ (u0 : Nat) (u1 : Int32) (u2 : Int32) (u3 : Int32) (u4 : Int32) (u5 : Int32) (u6 : Int64) (u7 : Int32) (u8 : HS), X6 u0 u1 u2 u3 u4 u5 u6 u7 u8 → K9 b L S0 u8 → X6_2 u0 u1 u2 u3 u4 u5 u6 u7 u8) : B_X11_wetOf_6 (fun r T => Q r T ∧ K9 b L S0 T) X6_2 v0 v1 v2 v3 v4 v5 v6 v8 S := by
  delta B_X11_wetOf_6 at h ⊢
  refine ⟨?_, ?_⟩
  · intro c1
    have h := h.1 c1
    exact ⟨h, K⟩
  · intro c2
    have h := h.2 c2
    obtain ⟨c3, h⟩ := h
    refine ⟨c3, ?_⟩
    refine cm_X11_partsOf (ky_X11_partsOf (b := b) hU (fun q hq => hL q ((by decide : ∀ q ∈ kyL_X11_partsOf, q ∈ kyL_X11_wetOf) q hq)) (fun z => z.elim) h) h (fun x4 x5 p7 h g6 => ?_)
    have h := h g6
    have K := k9_tr K p7.2
    intro x9 e8
    have h := h x9 e8
    intro x11 e10
    have h := h x11 e10
    exact hX6 _ _ _ _ _ _ _ _ _ h K
theorem ky_X11_wetOf_6 {b : Bool} {L : List (Nat × Nat)} (hU : ∀ q ∈ L, q ∈ nyT) (hL : ∀ q ∈ kyL_X11_wetOf, q ∈ L) (hb : False → b = false) {Q : Int64 → HS → Prop} {v0 : Nat} {v1 : Int32} {v2 : Int32} {v3 : Int32} {v4 : Int32} {v5 : Int32} {v6 : Int64} {v8 : Int32} {S0 S : HS} (h : P_X11_wetOf_6 Q v0 v1 v2 v3 v4 v5 v6 v8 S) (K : K9 b L S0 S) : P_X11_wetOf_6 (fun r T => Q r T ∧ K9 b L S0 T) v0 v1 v2 v3 v4 v5 v6 v8 S := h (fun v0 v1 v2 v3 v4 v5 v6 v8 S => K9 b L S0 S → P_X11_wetOf_6 (fun r T => Q r T ∧ K9 b L S0 T) v0 v1 v2 v3 v4 v5 v6 v8 S) (fun v0 v1 v2 v3 v4 v5 v6 v8 S hB K => fd_X11_wetOf_6 (kyB_X11_wetOf_6 hU hL hb hB K (fun _ _ _ _ _ _ _ _ _ hx K => hx K))) K
set_option maxRecDepth 20000 in
set_option maxHeartbeats 1000000 in
theorem ky_X11_wetOf_0 {b : Bool} {L : List (Nat × Nat)} (hU : ∀ q ∈ L, q ∈ nyT) (hL : ∀ q ∈ kyL_X11_wetOf, q ∈ L) (hb : False → b = false) {Q : Int64 → HS → Prop} {v0 : Nat} {v1 : Int32} {v2 : Int32} {v3 : Int32} {v4 : Int32} {v5 : Int32} {S0 S : HS} (h : P_X11_wetOf_0 Q v0 v1 v2 v3 v4 v5 S) (K : K9 b L S0 S) : P_X11_wetOf_0 (fun r T => Q r T ∧ K9 b L S0 T) v0 v1 v2 v3 v4 v5 S := by
  delta P_X11_wetOf_0 at h ⊢
  exact ky_X11_wetOf_6 hU hL hb h K
theorem ky_X11_wetOf {b : Bool} {L : List (Nat × Nat)} (hU : ∀ q ∈ L, q ∈ nyT) (hL : ∀ q ∈ kyL_X11_wetOf, q ∈ L) (hb : False → b = false) {Q : Int64 → HS → Prop} {v0 : Nat} {v1 : Int32} {v2 : Int32} {v3 : Int32} {v4 : Int32} {v5 : Int32} {S : HS} (h : P_X11_wetOf v0 v1 v2 v3 v4 v5 Q S) : P_X11_wetOf v0 v1 v2 v3 v4 v5 (fun r T => Q r T ∧ K9 b L S T) S := ky_X11_wetOf_0 hU hL hb h (k9_rf b L S)
abbrev kyL_X11_bestOf : List (Nat × Nat) := []
set_option maxRecDepth 20000 in
set_option maxHeartbeats 1000000 in
theorem ky_X11_bestOf_61 {b : Bool} {L : List (Nat × Nat)} (hU : ∀ q ∈ L, q ∈ nyT) (hL : ∀ q ∈ kyL_X11_bestOf, q ∈ L) (hb : False → b = false) {Q : Int32 → HS → Prop} {X17 X17_2 : Nat → Int32 → Int32 → Int32 → Int32 → Int32 → Int32 → HS → Prop} {v0 : Nat} {v1 : Int32} {v2 : Int32} {v3 : Int32} {v4 : Int32} {v5 : Int32} {v6 : Int32} {S0 S : HS} (h : P_X11_bestOf_61 Q X17 v0 v1 v2 v3 v4 v5 v6 S) (K : K9 b L S0 S) (hX17 : ∀ (u0 : Nat) (u1 : Int32) (u2 : Int32) (u3 : Int32) (u4 : Int32) (u5 : Int32) (u6 : Int32) (u7 : HS), X17 u0 u1 u2 u3 u4 u5 u6 u7 → K9 b L S0 u7 → X17_2 u0 u1 u2 u3 u4 u5 u6 u7) : P_X11_bestOf_61 (fun r T => Q r T ∧ K9 b L S0 T) X17_2 v0 v1 v2 v3 v4 v5 v6 S := by
  delta P_X11_bestOf_61 at h ⊢
  intro x2 e1
  have h := h x2 e1
  exact hX17 _ _ _ _ _ _ _ _ h K
set_option maxRecDepth 20000 in
set_option maxHeartbeats 1000000 in
theorem kyB_X11_bestOf_17 {b : Bool} {L : List (Nat × Nat)} (hU : ∀ q ∈ L, q ∈ nyT) (hL : ∀ q ∈ kyL_X11_bestOf, q ∈ L) (hb : False → b = false) {Q : Int32 → HS → Prop} {X17 X17_2 : Nat → Int32 → Int32 → Int32 → Int32 → Int32 → Int32 → HS → Prop} {v0 : Nat} {v1 : Int32} {v2 : Int32} {v3 : Int32} {v4 : Int32} {v5 : Int32} {v6 : Int32} {S0 S : HS} (h : B_X11_bestOf_17 Q X17 v0 v1 v2 v3 v4 v5 v6 S) (K : K9 b L S0 S) (hX17 : ∀ (u0 : Nat) (u1 : Int32) (u2 : Int32) (u3 : Int32) (u4 : Int32) (u5 : Int32) (u6 : Int32) (u7 : HS), X17 u0 u1 u2 u3 u4 u5 u6 u7 → K9 b L S0 u7 → X17_2 u0 u1 u2 u3 u4 u5 u6 u7) : B_X11_bestOf_17 (fun r T => Q r T ∧ K9 b L S0 T) X17_2 v0 v1 v2 v3 v4 v5 v6 S := by
  delta B_X11_bestOf_17 at h ⊢
  obtain ⟨c1, h⟩ := h
  refine ⟨c1, ?_⟩
  have o2 := c1
  obtain ⟨b3, e4, h⟩ := h
  refine ⟨b3, e4, ?_⟩
  obtain ⟨c5, h⟩ := h
  refine ⟨c5, ?_⟩
  have o6 := c5
  obtain ⟨b7, e8, h⟩ := h
  refine ⟨b7, e8, ?_⟩
  obtain ⟨c9, h⟩ := h
  refine ⟨c9, ?_⟩
  obtain ⟨c10, h⟩ := h
  refine ⟨c10, ?_⟩
  intro x12 e11
  have h := h x12 e11
  refine ⟨?_, ?_⟩
  · intro c13
    have h := h.1 c13
    exact ⟨h, K⟩
  · intro c14
    have h := h.2 c14
    refine cm_X11_wetOf (ky_X11_wetOf (b := b) hU (fun q hq => hL q ((by decide : ∀ q ∈ kyL_X11_wetOf, q ∈ kyL_X11_bestOf) q hq)) (fun z => z.elim) h) h (fun x15 x16 p18 h g17 => ?_)
    have h := h g17
    have K := k9_tr K p18.2
    have o2 := gr_ob p18.2.1 o2
    have o6 := gr_ob p18.2.1 o6
    refine cm_X11_wetOf (ky_X11_wetOf (b := b) hU (fun q hq => hL q ((by decide : ∀ q ∈ kyL_X11_wetOf, q ∈ kyL_X11_bestOf) q hq)) (fun z => z.elim) h) h (fun x19 x20 p22 h g21 => ?_)
    have h := h g21
    have K := k9_tr K p22.2
    have o2 := gr_ob p22.2.1 o2
    have o6 := gr_ob p22.2.1 o6
    refine ⟨?_, ?_⟩
    · intro c23
      have h := h.1 c23
      exact ky_X11_bestOf_61 hU hL hb h K hX17
    · intro c24
      have h := h.2 c24
      exact ky_X11_bestOf_61 hU hL hb h K hX17
theorem ky_X11_bestOf_17 {b : Bool} {L : List (Nat × Nat)} (hU : ∀ q ∈ L, q ∈ nyT) (hL : ∀ q ∈ kyL_X11_bestOf, q ∈ L) (hb : False → b = false) {Q : Int32 → HS → Prop} {v0 : Nat} {v1 : Int32} {v2 : Int32} {v3 : Int32} {v4 : Int32} {v5 : Int32} {v6 : Int32} {S0 S : HS} (h : P_X11_bestOf_17 Q v0 v1 v2 v3 v4 v5 v6 S) (K : K9 b L S0 S) : P_X11_bestOf_17 (fun r T => Q r T ∧ K9 b L S0 T) v0 v1 v2 v3 v4 v5 v6 S := h (fun v0 v1 v2 v3 v4 v5 v6 S => K9 b L S0 S → P_X11_bestOf_17 (fun r T => Q r T ∧ K9 b L S0 T) v0 v1 v2 v3 v4 v5 v6 S) (fun v0 v1 v2 v3 v4 v5 v6 S hB K => fd_X11_bestOf_17 (kyB_X11_bestOf_17 hU hL hb hB K (fun _ _ _ _ _ _ _ _ hx K => hx K))) K
set_option maxRecDepth 20000 in
set_option maxHeartbeats 1000000 in
theorem ky_X11_bestOf_0 {b : Bool} {L : List (Nat × Nat)} (hU : ∀ q ∈ L, q ∈ nyT) (hL : ∀ q ∈ kyL_X11_bestOf, q ∈ L) (hb : False → b = false) {Q : Int32 → HS → Prop} {v0 : Nat} {v1 : Int32} {v2 : Int32} {v3 : Int32} {v4 : Int32} {S0 S : HS} (h : P_X11_bestOf_0 Q v0 v1 v2 v3 v4 S) (K : K9 b L S0 S) : P_X11_bestOf_0 (fun r T => Q r T ∧ K9 b L S0 T) v0 v1 v2 v3 v4 S := by
  delta P_X11_bestOf_0 at h ⊢
  obtain ⟨c1, h⟩ := h
  refine ⟨c1, ?_⟩
  have o2 := c1
  obtain ⟨b3, e4, h⟩ := h
  refine ⟨b3, e4, ?_⟩
  obtain ⟨c5, h⟩ := h
  refine ⟨c5, ?_⟩
  have o6 := c5
  obtain ⟨b7, e8, h⟩ := h
  refine ⟨b7, e8, ?_⟩
  obtain ⟨c9, h⟩ := h
  refine ⟨c9, ?_⟩
  obtain ⟨c10, h⟩ := h
  refine ⟨c10, ?_⟩
  intro x12 e11
  have h := h x12 e11
  intro x14 e13
  have h := h x14 e13
  exact ky_X11_bestOf_17 hU hL hb h K
theorem ky_X11_bestOf {b : Bool} {L : List (Nat × Nat)} (hU : ∀ q ∈ L, q ∈ nyT) (hL : ∀ q ∈ kyL_X11_bestOf, q ∈ L) (hb : False → b = false) {Q : Int32 → HS → Prop} {v0 : Nat} {v1 : Int32} {v2 : Int32} {v3 : Int32} {v4 : Int32} {S : HS} (h : P_X11_bestOf v0 v1 v2 v3 v4 Q S) : P_X11_bestOf v0 v1 v2 v3 v4 (fun r T => Q r T ∧ K9 b L S T) S := ky_X11_bestOf_0 hU hL hb h (k9_rf b L S)
abbrev kyL_X11_isWalker : List (Nat × Nat) := []
set_option maxRecDepth 20000 in
set_option maxHeartbeats 1000000 in
theorem ky_X11_isWalker_0 {b : Bool} {L : List (Nat × Nat)} (hU : ∀ q ∈ L, q ∈ nyT) (hL : ∀ q ∈ kyL_X11_isWalker, q ∈ L) (hb : False → b = false) {Q : Int32 → HS → Prop} {v0 : Nat} {v1 : Int32} {S0 S : HS} (h : P_X11_isWalker_0 Q v0 v1 S) (K : K9 b L S0 S) : P_X11_isWalker_0 (fun r T => Q r T ∧ K9 b L S0 T) v0 v1 S := by
  delta P_X11_isWalker_0 at h ⊢
  obtain ⟨c1, h⟩ := h
  refine ⟨c1, ?_⟩
  have o2 := c1
  refine ⟨?_, ?_⟩
  · intro c3
    have h := h.1 c3
    exact ⟨h, K⟩
  · intro x4 c5
    have h := h.2 x4 c5
    refine ⟨?_, ?_⟩
    · intro c6
      have h := h.1 c6
      exact ⟨h, K⟩
    · intro c7
      have h := h.2 c7
      obtain ⟨b8, e9, h⟩ := h
      refine ⟨b8, e9, ?_⟩
      obtain ⟨c10, h⟩ := h
      refine ⟨c10, ?_⟩
      intro x12 e11
      have h := h x12 e11
      refine ⟨?_, ?_⟩
      · intro c13
        have h := h.1 c13
        exact ⟨h, K⟩
      · intro c14
        have h := h.2 c14
        exact ⟨h, K⟩
theorem ky_X11_isWalker {b : Bool} {L : List (Nat × Nat)} (hU : ∀ q ∈ L, q ∈ nyT) (hL : ∀ q ∈ kyL_X11_isWalker, q ∈ L) (hb : False → b = false) {Q : Int32 → HS → Prop} {v0 : Nat} {v1 : Int32} {S : HS} (h : P_X11_isWalker v0 v1 Q S) : P_X11_isWalker v0 v1 (fun r T => Q r T ∧ K9 b L S T) S := ky_X11_isWalker_0 hU hL hb h (k9_rf b L S)
abbrev kyL_X11_best : List (Nat × Nat) := []
set_option maxRecDepth 20000 in
set_option maxHeartbeats 1000000 in
theorem ky_X11_best_39 {b : Bool} {L : List (Nat × Nat)} (hU : ∀ q ∈ L, q ∈ nyT) (hL : ∀ q ∈ kyL_X11_best, q ∈ L) (hb : False → b = false) {Q : Int32 → HS → Prop} {v0 : Nat} {S0 S : HS} (h : P_X11_best_39 Q v0 S) (K : K9 b L S0 S) : P_X11_best_39 (fun r T => Q r T ∧ K9 b L S0 T) v0 S := by
  delta P_X11_best_39 at h ⊢
  obtain ⟨c1, h⟩ := h
  refine ⟨c1, ?_⟩
  refine cm_X11_refused (ky_X11_refused (b := b) hU (fun q hq => hL q ((by decide : ∀ q ∈ kyL_X11_refused, q ∈ kyL_X11_best) q hq)) (fun z => z.elim) h) h (fun x2 x3 p5 h g4 => ?_)
  have h := h g4
  have K := k9_tr K p5.2
  exact ⟨h, K⟩
set_option maxRecDepth 20000 in
set_option maxHeartbeats 1000000 in
theorem ky_X11_best_0 {b : Bool} {L : List (Nat × Nat)} (hU : ∀ q ∈ L, q ∈ nyT) (hL : ∀ q ∈ kyL_X11_best, q ∈ L) (hb : False → b = false) {Q : Int32 → HS → Prop} {v0 : Nat} {v1 : Int32} {v2 : Int32} {v3 : Int32} {v4 : Int32} {S0 S : HS} (h : P_X11_best_0 Q v0 v1 v2 v3 v4 S) (K : K9 b L S0 S) : P_X11_best_0 (fun r T => Q r T ∧ K9 b L S0 T) v0 v1 v2 v3 v4 S := by
  delta P_X11_best_0 at h ⊢
  obtain ⟨c1, h⟩ := h
  refine ⟨c1, ?_⟩
  intro x3 e2
  have h := h x3 e2
  have K := k9_I K e2
  refine cm_X11_isWalker (ky_X11_isWalker (b := b) hU (fun q hq => hL q ((by decide : ∀ q ∈ kyL_X11_isWalker, q ∈ kyL_X11_best) q hq)) (fun z => z.elim) h) h (fun x4 x5 p8 h g6 g7 => ?_)
  have h := h g6 g7
  have K := k9_tr K p8.2
  refine ⟨?_, ?_⟩
  · intro c9
    have h := h.1 c9
    exact ky_X11_best_39 hU hL hb h K
  · intro c10
    have h := h.2 c10
    refine cm_X11_isRoad (ky_X11_isRoad (b := b) hU (fun q hq => hL q ((by decide : ∀ q ∈ kyL_X11_isRoad, q ∈ kyL_X11_best) q hq)) (fun z => z.elim) h) h (fun x11 x12 p15 h g13 g14 => ?_)
    have h := h g13 g14
    have K := k9_tr K p15.2
    refine ⟨?_, ?_⟩
    · intro c16
      have h := h.1 c16
      exact ky_X11_best_39 hU hL hb h K
    · intro c17
      have h := h.2 c17
      refine cm_X11_in (ky_X11_in (b := b) hU (fun q hq => hL q ((by decide : ∀ q ∈ kyL_X11_in, q ∈ kyL_X11_best) q hq)) (fun z => z.elim) h) h (fun x18 x19 p22 h g20 g21 => ?_)
      have h := h g20 g21
      have K := k9_tr K p22.2
      refine ⟨?_, ?_⟩
      · intro c23
        have h := h.1 c23
        exact ky_X11_best_39 hU hL hb h K
      · intro c24
        have h := h.2 c24
        refine cm_X11_isHour (ky_X11_isHour (b := b) hU (fun q hq => hL q ((by decide : ∀ q ∈ kyL_X11_isHour, q ∈ kyL_X11_best) q hq)) (fun z => z.elim) h) h (fun x25 x26 p29 h g27 g28 => ?_)
        have h := h g27 g28
        have K := k9_tr K p29.2
        refine ⟨?_, ?_⟩
        · intro c30
          have h := h.1 c30
          refine cm_X11_bestOf (ky_X11_bestOf (b := b) hU (fun q hq => hL q ((by decide : ∀ q ∈ kyL_X11_bestOf, q ∈ kyL_X11_best) q hq)) (fun z => z.elim) h) h (fun x31 x32 p34 h g33 => ?_)
          have h := h g33
          have K := k9_tr K p34.2
          refine cm_X11_good (ky_X11_good (b := b) hU (fun q hq => hL q ((by decide : ∀ q ∈ kyL_X11_good, q ∈ kyL_X11_best) q hq)) (fun z => z.elim) h) h (fun x35 x36 p38 h g37 => ?_)
          have h := h g37
          have K := k9_tr K p38.2
          exact ⟨h, K⟩
        · intro c39
          have h := h.2 c39
          exact ky_X11_best_39 hU hL hb h K
theorem ky_X11_best {b : Bool} {L : List (Nat × Nat)} (hU : ∀ q ∈ L, q ∈ nyT) (hL : ∀ q ∈ kyL_X11_best, q ∈ L) (hb : False → b = false) {Q : Int32 → HS → Prop} {v0 : Nat} {v1 : Int32} {v2 : Int32} {v3 : Int32} {v4 : Int32} {S : HS} (h : P_X11_best v0 v1 v2 v3 v4 Q S) : P_X11_best v0 v1 v2 v3 v4 (fun r T => Q r T ∧ K9 b L S T) S := ky_X11_best_0 hU hL hb h (k9_rf b L S)
abbrev kyL_X11_canWait : List (Nat × Nat) := []
set_option maxRecDepth 20000 in
set_option maxHeartbeats 1000000 in
theorem ky_X11_canWait_0 {b : Bool} {L : List (Nat × Nat)} (hU : ∀ q ∈ L, q ∈ nyT) (hL : ∀ q ∈ kyL_X11_canWait, q ∈ L) (hb : False → b = false) {Q : Int32 → HS → Prop} {v0 : Nat} {v1 : Int32} {S0 S : HS} (h : P_X11_canWait_0 Q v0 v1 S) (K : K9 b L S0 S) : P_X11_canWait_0 (fun r T => Q r T ∧ K9 b L S0 T) v0 v1 S := by
  delta P_X11_canWait_0 at h ⊢
  obtain ⟨c1, h⟩ := h
  refine ⟨c1, ?_⟩
  have o2 := c1
  obtain ⟨b3, e4, h⟩ := h
  refine ⟨b3, e4, ?_⟩
  obtain ⟨c5, h⟩ := h
  refine ⟨c5, ?_⟩
  have o6 := c5
  obtain ⟨b7, e8, h⟩ := h
  refine ⟨b7, e8, ?_⟩
  obtain ⟨c9, h⟩ := h
  refine ⟨c9, ?_⟩
  obtain ⟨c10, h⟩ := h
  refine ⟨c10, ?_⟩
  intro x12 e11
  have h := h x12 e11
  refine ⟨?_, ?_⟩
  · intro c13
    have h := h.1 c13
    exact ⟨h, K⟩
  · intro c14
    have h := h.2 c14
    obtain ⟨b15, e16, h⟩ := h
    refine ⟨b15, e16, ?_⟩
    obtain ⟨c17, h⟩ := h
    refine ⟨c17, ?_⟩
    have o18 := c17
    obtain ⟨b19, e20, h⟩ := h
    refine ⟨b19, e20, ?_⟩
    obtain ⟨c21, h⟩ := h
    refine ⟨c21, ?_⟩
    obtain ⟨c22, h⟩ := h
    refine ⟨c22, ?_⟩
    intro x24 e23
    have h := h x24 e23
    refine ⟨?_, ?_⟩
    · intro c25
      have h := h.1 c25
      exact ⟨h, K⟩
    · intro c26
      have h := h.2 c26
      exact ⟨h, K⟩
theorem ky_X11_canWait {b : Bool} {L : List (Nat × Nat)} (hU : ∀ q ∈ L, q ∈ nyT) (hL : ∀ q ∈ kyL_X11_canWait, q ∈ L) (hb : False → b = false) {Q : Int32 → HS → Prop} {v0 : Nat} {v1 : Int32} {S : HS} (h : P_X11_canWait v0 v1 Q S) : P_X11_canWait v0 v1 (fun r T => Q r T ∧ K9 b L S T) S := ky_X11_canWait_0 hU hL hb h (k9_rf b L S)
abbrev kyL_X11_isPlace : List (Nat × Nat) := []
set_option maxRecDepth 20000 in
set_option maxHeartbeats 1000000 in
theorem ky_X11_isPlace_0 {b : Bool} {L : List (Nat × Nat)} (hU : ∀ q ∈ L, q ∈ nyT) (hL : ∀ q ∈ kyL_X11_isPlace, q ∈ L) (hb : False → b = false) {Q : Int32 → HS → Prop} {v0 : Nat} {v1 : Int32} {S0 S : HS} (h : P_X11_isPlace_0 Q v0 v1 S) (K : K9 b L S0 S) : P_X11_isPlace_0 (fun r T => Q r T ∧ K9 b L S0 T) v0 v1 S := by
  delta P_X11_isPlace_0 at h ⊢
  obtain ⟨c1, h⟩ := h
  refine ⟨c1, ?_⟩
  have o2 := c1
  refine ⟨?_, ?_⟩
  · intro c3
    have h := h.1 c3
    exact ⟨h, K⟩
  · intro x4 c5
    have h := h.2 x4 c5
    refine ⟨?_, ?_⟩
    · intro c6
      have h := h.1 c6
      exact ⟨h, K⟩
    · intro c7
      have h := h.2 c7
      obtain ⟨b8, e9, h⟩ := h
      refine ⟨b8, e9, ?_⟩
      obtain ⟨c10, h⟩ := h
      refine ⟨c10, ?_⟩
      intro x12 e11
      have h := h x12 e11
      refine ⟨?_, ?_⟩
      · intro c13
        have h := h.1 c13
        exact ⟨h, K⟩
      · intro c14
        have h := h.2 c14
        exact ⟨h, K⟩
theorem ky_X11_isPlace {b : Bool} {L : List (Nat × Nat)} (hU : ∀ q ∈ L, q ∈ nyT) (hL : ∀ q ∈ kyL_X11_isPlace, q ∈ L) (hb : False → b = false) {Q : Int32 → HS → Prop} {v0 : Nat} {v1 : Int32} {S : HS} (h : P_X11_isPlace v0 v1 Q S) : P_X11_isPlace v0 v1 (fun r T => Q r T ∧ K9 b L S T) S := ky_X11_isPlace_0 hU hL hb h (k9_rf b L S)
abbrev kyL_X11_day : List (Nat × Nat) := [(11, 21)]
set_option maxRecDepth 20000 in
set_option maxHeartbeats 1000000 in
theorem ky_X11_day_21 {b : Bool} {L : List (Nat × Nat)} (hU : ∀ q ∈ L, q ∈ nyT) (hL : ∀ q ∈ kyL_X11_day, q ∈ L) (hb : False → b = false) {Q : Int32 → HS → Prop} {v0 : Nat} {S0 S : HS} (h : P_X11_day_21 Q v0 S) (K : K9 b L S0 S) : P_X11_day_21 (fun r T => Q r T ∧ K9 b L S0 T) v0 S := by
  delta P_X11_day_21 at h ⊢
  obtain ⟨c1, h⟩ := h
  refine ⟨c1, ?_⟩
  refine cm_X11_refused (ky_X11_refused (b := b) hU (fun q hq => hL q ((by decide : ∀ q ∈ kyL_X11_refused, q ∈ kyL_X11_day) q hq)) (fun z => z.elim) h) h (fun x2 x3 p5 h g4 => ?_)
  have h := h g4
  have K := k9_tr K p5.2
  exact ⟨h, K⟩
set_option maxRecDepth 20000 in
set_option maxHeartbeats 1000000 in
theorem ky_X11_day_50 {b : Bool} {L : List (Nat × Nat)} (hU : ∀ q ∈ L, q ∈ nyT) (hL : ∀ q ∈ kyL_X11_day, q ∈ L) (hb : False → b = false) {Q : Int32 → HS → Prop} {v0 : Nat} {S0 S : HS} (h : P_X11_day_50 Q v0 S) (K : K9 b L S0 S) : P_X11_day_50 (fun r T => Q r T ∧ K9 b L S0 T) v0 S := by
  delta P_X11_day_50 at h ⊢
  obtain ⟨c1, h⟩ := h
  refine ⟨c1, ?_⟩
  refine cm_X11_refused (ky_X11_refused (b := b) hU (fun q hq => hL q ((by decide : ∀ q ∈ kyL_X11_refused, q ∈ kyL_X11_day) q hq)) (fun z => z.elim) h) h (fun x2 x3 p5 h g4 => ?_)
  have h := h g4
  have K := k9_tr K p5.2
  exact ⟨h, K⟩
set_option maxRecDepth 20000 in
set_option maxHeartbeats 1000000 in
theorem ky_X11_day_134 {b : Bool} {L : List (Nat × Nat)} (hU : ∀ q ∈ L, q ∈ nyT) (hL : ∀ q ∈ kyL_X11_day, q ∈ L) (hb : False → b = false) {Q : Int32 → HS → Prop} {X73 X73_2 : Nat → Int32 → Int32 → Int32 → Int32 → HS → Prop} {v0 : Nat} {v2 : Int32} {v3 : Int32} {v5 : Int32} {v6 : Int32} {s0 : Nat} {s1 : Int32} {s2 : Int32} {S0 S : HS} (h : P_X11_day_134 Q X73 v0 v2 v3 v5 v6 s0 s1 s2 S) (K : K9 b L S0 S) (hX73 : ∀ (u0 : Nat) (u1 : Int32) (u2 : Int32) (u3 : Int32) (u4 : Int32) (u5 : HS), X73 u0 u1 u2 u3 u4 u5 → K9 b L S0 u5 → X73_2 u0 u1 u2 u3 u4 u5) : P_X11_day_134 (fun r T => Q r T ∧ K9 b L S0 T) X73_2 v0 v2 v3 v5 v6 s0 s1 s2 S := by
  delta P_X11_day_134 at h ⊢
  obtain ⟨c1, h⟩ := h
  refine ⟨c1, ?_⟩
  intro x3 e2
  have h := h x3 e2
  intro x5 e4
  have h := h x5 e4
  have K := k9_I K e4
  intro x7 e6
  have h := h x7 e6
  exact hX73 _ _ _ _ _ _ h K
set_option maxRecDepth 20000 in
set_option maxHeartbeats 1000000 in
theorem kyB_X11_day_147 {b : Bool} {L : List (Nat × Nat)} (hU : ∀ q ∈ L, q ∈ nyT) (hL : ∀ q ∈ kyL_X11_day, q ∈ L) (hb : False → b = false) {Q : Int32 → HS → Prop} {X147 X147_2 : Nat → Int32 → Int32 → Int32 → HS → Prop} {v0 : Nat} {v2 : Int32} {v3 : Int32} {v6 : Int32} {S0 S : HS} (h : B_X11_day_147 Q X147 v0 v2 v3 v6 S) (K : K9 b L S0 S) (hX147 : ∀ (u0 : Nat) (u1 : Int32) (u2 : Int32) (u3 : Int32) (u4 : HS), X147 u0 u1 u2 u3 u4 → K9 b L S0 u4 → X147_2 u0 u1 u2 u3 u4) : B_X11_day_147 (fun r T => Q r T ∧ K9 b L S0 T) X147_2 v0 v2 v3 v6 S := by
  delta B_X11_day_147 at h ⊢
  refine ⟨?_, ?_⟩
  · intro c1
    have h := h.1 c1
    obtain ⟨c2, h⟩ := h
    refine ⟨c2, ?_⟩
    have o3 := c2
    obtain ⟨b4, e5, h⟩ := h
    refine ⟨b4, e5, ?_⟩
    have n6 := k9_nr K e5 o3 (hL _ (by decide))
    obtain ⟨c7, h⟩ := h
    refine ⟨c7, ?_⟩
    intro x9 e8
    have h := h x9 e8
    obtain ⟨c10, h⟩ := h
    refine ⟨c10, ?_⟩
    intro x12 e11
    have h := h x12 e11
    have K := k9_J K e11 n6
    have o3 := ob_wJ o3 e11
    obtain ⟨b13, e14, h⟩ := h
    refine ⟨b13, e14, ?_⟩
    have n15 := k9_nr K e14 o3 (hL _ (by decide))
    obtain ⟨c16, h⟩ := h
    refine ⟨c16, ?_⟩
    intro x18 e17
    have h := h x18 e17
    obtain ⟨c19, h⟩ := h
    refine ⟨c19, ?_⟩
    intro x21 e20
    have h := h x21 e20
    have K := k9_J K e20 n15
    have o3 := ob_wJ o3 e20
    intro x23 e22
    have h := h x23 e22
    have K := k9_I K e22
    have o3 := ob_wI o3 e22
    intro x25 e24
    have h := h x25 e24
    have K := k9_I K e24
    have o3 := ob_wI o3 e24
    intro x27 e26
    have h := h x27 e26
    refine cm_X11_good (ky_X11_good (b := b) hU (fun q hq => hL q ((by decide : ∀ q ∈ kyL_X11_good, q ∈ kyL_X11_day) q hq)) (fun z => z.elim) h) h (fun x28 x29 p31 h g30 => ?_)
    have h := h g30
    have K := k9_tr K p31.2
    have o3 := gr_ob p31.2.1 o3
    exact ⟨h, K⟩
  · intro c32
    have h := h.2 c32
    obtain ⟨c33, h⟩ := h
    refine ⟨c33, ?_⟩
    have o34 := c33
    obtain ⟨b35, e36, h⟩ := h
    refine ⟨b35, e36, ?_⟩
    have n37 := k9_nr K e36 o34 (hL _ (by decide))
    obtain ⟨c38, h⟩ := h
    refine ⟨c38, ?_⟩
    obtain ⟨c39, h⟩ := h
    refine ⟨c39, ?_⟩
    intro x41 e40
    have h := h x41 e40
    have K := k9_J K e40 n37
    have o34 := ob_wJ o34 e40
    intro x43 e42
    have h := h x43 e42
    exact hX147 _ _ _ _ _ h K
theorem ky_X11_day_147 {b : Bool} {L : List (Nat × Nat)} (hU : ∀ q ∈ L, q ∈ nyT) (hL : ∀ q ∈ kyL_X11_day, q ∈ L) (hb : False → b = false) {Q : Int32 → HS → Prop} {v0 : Nat} {v2 : Int32} {v3 : Int32} {v6 : Int32} {S0 S : HS} (h : P_X11_day_147 Q v0 v2 v3 v6 S) (K : K9 b L S0 S) : P_X11_day_147 (fun r T => Q r T ∧ K9 b L S0 T) v0 v2 v3 v6 S := h (fun v0 v2 v3 v6 S => K9 b L S0 S → P_X11_day_147 (fun r T => Q r T ∧ K9 b L S0 T) v0 v2 v3 v6 S) (fun v0 v2 v3 v6 S hB K => fd_X11_day_147 (kyB_X11_day_147 hU hL hb hB K (fun _ _ _ _ _ hx K => hx K))) K
set_option maxRecDepth 20000 in
set_option maxHeartbeats 1000000 in
theorem kyB_X11_day_73 {b : Bool} {L : List (Nat × Nat)} (hU : ∀ q ∈ L, q ∈ nyT) (hL : ∀ q ∈ kyL_X11_day, q ∈ L) (hb : False → b = false) {Q : Int32 → HS → Prop} {X73 X73_2 : Nat → Int32 → Int32 → Int32 → Int32 → HS → Prop} {v0 : Nat} {v2 : Int32} {v3 : Int32} {v5 : Int32} {v6 : Int32} {S0 S : HS} (h : B_X11_day_73 Q X73 v0 v2 v3 v5 v6 S) (K : K9 b L S0 S) (hX73 : ∀ (u0 : Nat) (u1 : Int32) (u2 : Int32) (u3 : Int32) (u4 : Int32) (u5 : HS), X73 u0 u1 u2 u3 u4 u5 → K9 b L S0 u5 → X73_2 u0 u1 u2 u3 u4 u5) : B_X11_day_73 (fun r T => Q r T ∧ K9 b L S0 T) X73_2 v0 v2 v3 v5 v6 S := by
  delta B_X11_day_73 at h ⊢
  obtain ⟨c1, h⟩ := h
  refine ⟨c1, ?_⟩
  have o2 := c1
  obtain ⟨b3, e4, h⟩ := h
  refine ⟨b3, e4, ?_⟩
  obtain ⟨c5, h⟩ := h
  refine ⟨c5, ?_⟩
  intro x7 e6
  have h := h x7 e6
  refine ⟨?_, ?_⟩
  · intro c8
    have h := h.1 c8
    exact ky_X11_day_147 hU hL hb h K
  · intro c9
    have h := h.2 c9
    intro x11 e10
    have h := h x11 e10
    intro x13 e12
    have h := h x13 e12
    intro x15 e14
    have h := h x15 e14
    intro x17 e16
    have h := h x17 e16
    obtain ⟨b18, e19, h⟩ := h
    refine ⟨b18, e19, ?_⟩
    obtain ⟨c20, h⟩ := h
    refine ⟨c20, ?_⟩
    have o21 := c20
    obtain ⟨b22, e23, h⟩ := h
    refine ⟨b22, e23, ?_⟩
    obtain ⟨c24, h⟩ := h
    refine ⟨c24, ?_⟩
    obtain ⟨c25, h⟩ := h
    refine ⟨c25, ?_⟩
    intro x27 e26
    have h := h x27 e26
    refine ⟨?_, ?_⟩
    · intro c28
      have h := h.1 c28
      exact ky_X11_day_134 hU hL hb h K hX73
    · intro c29
      have h := h.2 c29
      exact ky_X11_day_134 hU hL hb h K hX73
theorem ky_X11_day_73 {b : Bool} {L : List (Nat × Nat)} (hU : ∀ q ∈ L, q ∈ nyT) (hL : ∀ q ∈ kyL_X11_day, q ∈ L) (hb : False → b = false) {Q : Int32 → HS → Prop} {v0 : Nat} {v2 : Int32} {v3 : Int32} {v5 : Int32} {v6 : Int32} {S0 S : HS} (h : P_X11_day_73 Q v0 v2 v3 v5 v6 S) (K : K9 b L S0 S) : P_X11_day_73 (fun r T => Q r T ∧ K9 b L S0 T) v0 v2 v3 v5 v6 S := h (fun v0 v2 v3 v5 v6 S => K9 b L S0 S → P_X11_day_73 (fun r T => Q r T ∧ K9 b L S0 T) v0 v2 v3 v5 v6 S) (fun v0 v2 v3 v5 v6 S hB K => fd_X11_day_73 (kyB_X11_day_73 hU hL hb hB K (fun _ _ _ _ _ _ hx K => hx K))) K
set_option maxRecDepth 20000 in
set_option maxHeartbeats 1000000 in
theorem ky_X11_day_0 {b : Bool} {L : List (Nat × Nat)} (hU : ∀ q ∈ L, q ∈ nyT) (hL : ∀ q ∈ kyL_X11_day, q ∈ L) (hb : False → b = false) {Q : Int32 → HS → Prop} {v0 : Nat} {v1 : Int32} {v2 : Int32} {v3 : Int32} {v4 : Int32} {S0 S : HS} (h : P_X11_day_0 Q v0 v1 v2 v3 v4 S) (K : K9 b L S0 S) : P_X11_day_0 (fun r T => Q r T ∧ K9 b L S0 T) v0 v1 v2 v3 v4 S := by
  delta P_X11_day_0 at h ⊢
  obtain ⟨c1, h⟩ := h
  refine ⟨c1, ?_⟩
  intro x3 e2
  have h := h x3 e2
  have K := k9_I K e2
  refine cm_X11_isWalker (ky_X11_isWalker (b := b) hU (fun q hq => hL q ((by decide : ∀ q ∈ kyL_X11_isWalker, q ∈ kyL_X11_day) q hq)) (fun z => z.elim) h) h (fun x4 x5 p8 h g6 g7 => ?_)
  have h := h g6 g7
  have K := k9_tr K p8.2
  refine ⟨?_, ?_⟩
  · intro c9
    have h := h.1 c9
    exact ky_X11_day_21 hU hL hb h K
  · intro c10
    have h := h.2 c10
    refine cm_X11_isPlace (ky_X11_isPlace (b := b) hU (fun q hq => hL q ((by decide : ∀ q ∈ kyL_X11_isPlace, q ∈ kyL_X11_day) q hq)) (fun z => z.elim) h) h (fun x11 x12 p15 h g13 g14 => ?_)
    have h := h g13 g14
    have K := k9_tr K p15.2
    refine ⟨?_, ?_⟩
    · intro c16
      have h := h.1 c16
      refine cm_X11_in (ky_X11_in (b := b) hU (fun q hq => hL q ((by decide : ∀ q ∈ kyL_X11_in, q ∈ kyL_X11_day) q hq)) (fun z => z.elim) h) h (fun x17 x18 p21 h g19 g20 => ?_)
      have h := h g19 g20
      have K := k9_tr K p21.2
      refine ⟨?_, ?_⟩
      · intro c22
        have h := h.1 c22
        exact ky_X11_day_50 hU hL hb h K
      · intro c23
        have h := h.2 c23
        refine cm_X11_in (ky_X11_in (b := b) hU (fun q hq => hL q ((by decide : ∀ q ∈ kyL_X11_in, q ∈ kyL_X11_day) q hq)) (fun z => z.elim) h) h (fun x24 x25 p28 h g26 g27 => ?_)
        have h := h g26 g27
        have K := k9_tr K p28.2
        refine ⟨?_, ?_⟩
        · intro c29
          have h := h.1 c29
          intro x31 e30
          have h := h x31 e30
          have K := k9_I K e30
          intro x33 e32
          have h := h x33 e32
          have K := k9_I K e32
          exact ky_X11_day_73 hU hL hb h K
        · intro c34
          have h := h.2 c34
          exact ky_X11_day_50 hU hL hb h K
    · intro c35
      have h := h.2 c35
      exact ky_X11_day_21 hU hL hb h K
theorem ky_X11_day {b : Bool} {L : List (Nat × Nat)} (hU : ∀ q ∈ L, q ∈ nyT) (hL : ∀ q ∈ kyL_X11_day, q ∈ L) (hb : False → b = false) {Q : Int32 → HS → Prop} {v0 : Nat} {v1 : Int32} {v2 : Int32} {v3 : Int32} {v4 : Int32} {S : HS} (h : P_X11_day v0 v1 v2 v3 v4 Q S) : P_X11_day v0 v1 v2 v3 v4 (fun r T => Q r T ∧ K9 b L S T) S := ky_X11_day_0 hU hL hb h (k9_rf b L S)
end
section
abbrev kyL_X11_wetAtBest : List (Nat × Nat) := []
set_option maxRecDepth 20000 in
set_option maxHeartbeats 1000000 in
theorem ky_X11_wetAtBest_0 {b : Bool} {L : List (Nat × Nat)} (hU : ∀ q ∈ L, q ∈ nyT) (hL : ∀ q ∈ kyL_X11_wetAtBest, q ∈ L) (hb : False → b = false) {Q : Int64 → HS → Prop} {v0 : Nat} {v1 : Int32} {v2 : Int32} {v3 : Int32} {v4 : Int32} {S0 S : HS} (h : P_X11_wetAtBest_0 Q v0 v1 v2 v3 v4 S) (K : K9 b L S0 S) : P_X11_wetAtBest_0 (fun r T => Q r T ∧ K9 b L S0 T) v0 v1 v2 v3 v4 S := by
  delta P_X11_wetAtBest_0 at h ⊢
  obtain ⟨c1, h⟩ := h
  refine ⟨c1, ?_⟩
  refine cm_X11_bestOf (ky_X11_bestOf (b := b) hU (fun q hq => hL q ((by decide : ∀ q ∈ kyL_X11_bestOf, q ∈ kyL_X11_wetAtBest) q hq)) (fun z => z.elim) h) h (fun x2 x3 p5 h g4 => ?_)
  have h := h g4
  have K := k9_tr K p5.2
  refine cm_X11_wetOf (ky_X11_wetOf (b := b) hU (fun q hq => hL q ((by decide : ∀ q ∈ kyL_X11_wetOf, q ∈ kyL_X11_wetAtBest) q hq)) (fun z => z.elim) h) h (fun x6 x7 p9 h g8 => ?_)
  have h := h g8
  have K := k9_tr K p9.2
  exact ⟨h, K⟩
theorem ky_X11_wetAtBest {b : Bool} {L : List (Nat × Nat)} (hU : ∀ q ∈ L, q ∈ nyT) (hL : ∀ q ∈ kyL_X11_wetAtBest, q ∈ L) (hb : False → b = false) {Q : Int64 → HS → Prop} {v0 : Nat} {v1 : Int32} {v2 : Int32} {v3 : Int32} {v4 : Int32} {S : HS} (h : P_X11_wetAtBest v0 v1 v2 v3 v4 Q S) : P_X11_wetAtBest v0 v1 v2 v3 v4 (fun r T => Q r T ∧ K9 b L S T) S := ky_X11_wetAtBest_0 hU hL hb h (k9_rf b L S)
abbrev kyL_X11_driest : List (Nat × Nat) := []
set_option maxRecDepth 20000 in
set_option maxHeartbeats 1000000 in
theorem ky_X11_driest_30 {b : Bool} {L : List (Nat × Nat)} (hU : ∀ q ∈ L, q ∈ nyT) (hL : ∀ q ∈ kyL_X11_driest, q ∈ L) (hb : False → b = false) {Q : Int32 → HS → Prop} {v0 : Nat} {S0 S : HS} (h : P_X11_driest_30 Q v0 S) (K : K9 b L S0 S) : P_X11_driest_30 (fun r T => Q r T ∧ K9 b L S0 T) v0 S := by
  delta P_X11_driest_30 at h ⊢
  obtain ⟨c1, h⟩ := h
  refine ⟨c1, ?_⟩
  refine cm_X11_refused (ky_X11_refused (b := b) hU (fun q hq => hL q ((by decide : ∀ q ∈ kyL_X11_refused, q ∈ kyL_X11_driest) q hq)) (fun z => z.elim) h) h (fun x2 x3 p5 h g4 => ?_)
  have h := h g4
  have K := k9_tr K p5.2
  exact ⟨h, K⟩
set_option maxRecDepth 20000 in
set_option maxHeartbeats 1000000 in
theorem ky_X11_driest_105 {b : Bool} {L : List (Nat × Nat)} (hU : ∀ q ∈ L, q ∈ nyT) (hL : ∀ q ∈ kyL_X11_driest, q ∈ L) (hb : False → b = false) {Q : Int32 → HS → Prop} {X45 X45_2 : Nat → Int32 → Int32 → Int32 → Int32 → Int64 → Int32 → HS → Prop} {v0 : Nat} {v1 : Int32} {v2 : Int32} {v3 : Int32} {v4 : Int32} {v5 : Int64} {v7 : Int32} {S0 S : HS} (h : P_X11_driest_105 Q X45 v0 v1 v2 v3 v4 v5 v7 S) (K : K9 b L S0 S) (hX45 : ∀ (u0 : Nat) (u1 : Int32) (u2 : Int32) (u3 : Int32) (u4 : Int32) (u5 : Int64) (u6 : Int32) (u7 : HS), X45 u0 u1 u2 u3 u4 u5 u6 u7 → K9 b L S0 u7 → X45_2 u0 u1 u2 u3 u4 u5 u6 u7) : P_X11_driest_105 (fun r T => Q r T ∧ K9 b L S0 T) X45_2 v0 v1 v2 v3 v4 v5 v7 S := by
  delta P_X11_driest_105 at h ⊢
  intro x2 e1
  have h := h x2 e1
  exact hX45 _ _ _ _ _ _ _ _ h K
set_option maxRecDepth 20000 in
set_option maxHeartbeats 1000000 in
theorem ky_X11_driest_97 {b : Bool} {L : List (Nat × Nat)} (hU : ∀ q ∈ L, q ∈ nyT) (hL : ∀ q ∈ kyL_X11_driest, q ∈ L) (hb : False → b = false) {Q : Int32 → HS → Prop} {X45 X45_2 : Nat → Int32 → Int32 → Int32 → Int32 → Int64 → Int32 → HS → Prop} {v0 : Nat} {v1 : Int32} {v2 : Int32} {v3 : Int32} {v7 : Int32} {v8 : Int64} {S0 S : HS} (h : P_X11_driest_97 Q X45 v0 v1 v2 v3 v7 v8 S) (K : K9 b L S0 S) (hX45 : ∀ (u0 : Nat) (u1 : Int32) (u2 : Int32) (u3 : Int32) (u4 : Int32) (u5 : Int64) (u6 : Int32) (u7 : HS), X45 u0 u1 u2 u3 u4 u5 u6 u7 → K9 b L S0 u7 → X45_2 u0 u1 u2 u3 u4 u5 u6 u7) : P_X11_driest_97 (fun r T => Q r T ∧ K9 b L S0 T) X45_2 v0 v1 v2 v3 v7 v8 S := by
  delta P_X11_driest_97 at h ⊢
  exact ky_X11_driest_105 hU hL hb h K hX45
set_option maxRecDepth 20000 in
set_option maxHeartbeats 1000000 in
theorem kyB_X11_driest_45 {b : Bool} {L : List (Nat × Nat)} (hU : ∀ q ∈ L, q ∈ nyT) (hL : ∀ q ∈ kyL_X11_driest, q ∈ L) (hb : False → b = false) {Q : Int32 → HS → Prop} {X45 X45_2 : Nat → Int32 → Int32 → Int32 → Int32 → Int64 → Int32 → HS → Prop} {v0 : Nat} {v1 : Int32} {v2 : Int32} {v3 : Int32} {v4 : Int32} {v5 : Int64} {v7 : Int32} {S0 S : HS} (h : B_X11_driest_45 Q X45 v0 v1 v2 v3 v4 v5 v7 S) (K : K9 b L S0 S) (hX45 : ∀ (u0 : Nat) (u1 : Int32) (u2 : Int32) (u3 : Int32) (u4 : Int32) (u5 : Int64) (u6 : Int32) (u7 : HS), X45 u0 u1 u2 u3 u4 u5 u6 u7 → K9 b L S0 u7 → X45_2 u0 u1 u2 u3 u4 u5 u6 u7) : B_X11_driest_45 (fun r T => Q r T ∧ K9 b L S0 T) X45_2 v0 v1 v2 v3 v4 v5 v7 S := by
  delta B_X11_driest_45 at h ⊢
  obtain ⟨c1, h⟩ := h
  refine ⟨c1, ?_⟩
  have o2 := c1
  obtain ⟨b3, e4, h⟩ := h
  refine ⟨b3, e4, ?_⟩
  obtain ⟨c5, h⟩ := h
  refine ⟨c5, ?_⟩
  intro x7 e6
  have h := h x7 e6
  refine ⟨?_, ?_⟩
  · intro c8
    have h := h.1 c8
    refine ⟨?_, ?_⟩
    · intro c9
      have h := h.1 c9
      refine cm_X11_good (ky_X11_good (b := b) hU (fun q hq => hL q ((by decide : ∀ q ∈ kyL_X11_good, q ∈ kyL_X11_driest) q hq)) (fun z => z.elim) h) h (fun x10 x11 p13 h g12 => ?_)
      have h := h g12
      have K := k9_tr K p13.2
      have o2 := gr_ob p13.2.1 o2
      exact ⟨h, K⟩
    · intro c14
      have h := h.2 c14
      refine cm_X11_refused (ky_X11_refused (b := b) hU (fun q hq => hL q ((by decide : ∀ q ∈ kyL_X11_refused, q ∈ kyL_X11_driest) q hq)) (fun z => z.elim) h) h (fun x15 x16 p18 h g17 => ?_)
      have h := h g17
      have K := k9_tr K p18.2
      have o2 := gr_ob p18.2.1 o2
      exact ⟨h, K⟩
  · intro c19
    have h := h.2 c19
    refine cm_X11_wetAtBest (ky_X11_wetAtBest (b := b) hU (fun q hq => hL q ((by decide : ∀ q ∈ kyL_X11_wetAtBest, q ∈ kyL_X11_driest) q hq)) (fun z => z.elim) h) h (fun x20 x21 p23 h g22 => ?_)
    have h := h g22
    have K := k9_tr K p23.2
    have o2 := gr_ob p23.2.1 o2
    obtain ⟨b24, e25, h⟩ := h
    refine ⟨b24, e25, ?_⟩
    obtain ⟨c26, h⟩ := h
    refine ⟨c26, ?_⟩
    have o27 := c26
    obtain ⟨b28, e29, h⟩ := h
    refine ⟨b28, e29, ?_⟩
    obtain ⟨c30, h⟩ := h
    refine ⟨c30, ?_⟩
    obtain ⟨c31, h⟩ := h
    refine ⟨c31, ?_⟩
    intro x33 e32
    have h := h x33 e32
    intro x35 e34
    have h := h x35 e34
    refine ⟨?_, ?_⟩
    · intro c36
      have h := h.1 c36
      exact ky_X11_driest_97 hU hL hb h K hX45
    · intro c37
      have h := h.2 c37
      refine ⟨?_, ?_⟩
      · intro c38
        have h := h.1 c38
        exact ky_X11_driest_97 hU hL hb h K hX45
      · intro c39
        have h := h.2 c39
        exact ky_X11_driest_105 hU hL hb h K hX45
theorem ky_X11_driest_45 {b : Bool} {L : List (Nat × Nat)} (hU : ∀ q ∈ L, q ∈ nyT) (hL : ∀ q ∈ kyL_X11_driest, q ∈ L) (hb : False → b = false) {Q : Int32 → HS → Prop} {v0 : Nat} {v1 : Int32} {v2 : Int32} {v3 : Int32} {v4 : Int32} {v5 : Int64} {v7 : Int32} {S0 S : HS} (h : P_X11_driest_45 Q v0 v1 v2 v3 v4 v5 v7 S) (K : K9 b L S0 S) : P_X11_driest_45 (fun r T => Q r T ∧ K9 b L S0 T) v0 v1 v2 v3 v4 v5 v7 S := h (fun v0 v1 v2 v3 v4 v5 v7 S => K9 b L S0 S → P_X11_driest_45 (fun r T => Q r T ∧ K9 b L S0 T) v0 v1 v2 v3 v4 v5 v7 S) (fun v0 v1 v2 v3 v4 v5 v7 S hB K => fd_X11_driest_45 (kyB_X11_driest_45 hU hL hb hB K (fun _ _ _ _ _ _ _ _ hx K => hx K))) K
set_option maxRecDepth 20000 in
set_option maxHeartbeats 1000000 in
theorem ky_X11_driest_0 {b : Bool} {L : List (Nat × Nat)} (hU : ∀ q ∈ L, q ∈ nyT) (hL : ∀ q ∈ kyL_X11_driest, q ∈ L) (hb : False → b = false) {Q : Int32 → HS → Prop} {v0 : Nat} {v1 : Int32} {v2 : Int32} {v3 : Int32} {S0 S : HS} (h : P_X11_driest_0 Q v0 v1 v2 v3 S) (K : K9 b L S0 S) : P_X11_driest_0 (fun r T => Q r T ∧ K9 b L S0 T) v0 v1 v2 v3 S := by
  delta P_X11_driest_0 at h ⊢
  obtain ⟨c1, h⟩ := h
  refine ⟨c1, ?_⟩
  intro x3 e2
  have h := h x3 e2
  have K := k9_I K e2
  refine cm_X11_isWalker (ky_X11_isWalker (b := b) hU (fun q hq => hL q ((by decide : ∀ q ∈ kyL_X11_isWalker, q ∈ kyL_X11_driest) q hq)) (fun z => z.elim) h) h (fun x4 x5 p8 h g6 g7 => ?_)
  have h := h g6 g7
  have K := k9_tr K p8.2
  refine ⟨?_, ?_⟩
  · intro c9
    have h := h.1 c9
    exact ky_X11_driest_30 hU hL hb h K
  · intro c10
    have h := h.2 c10
    refine cm_X11_isRoad (ky_X11_isRoad (b := b) hU (fun q hq => hL q ((by decide : ∀ q ∈ kyL_X11_isRoad, q ∈ kyL_X11_driest) q hq)) (fun z => z.elim) h) h (fun x11 x12 p15 h g13 g14 => ?_)
    have h := h g13 g14
    have K := k9_tr K p15.2
    refine ⟨?_, ?_⟩
    · intro c16
      have h := h.1 c16
      exact ky_X11_driest_30 hU hL hb h K
    · intro c17
      have h := h.2 c17
      refine cm_X11_in (ky_X11_in (b := b) hU (fun q hq => hL q ((by decide : ∀ q ∈ kyL_X11_in, q ∈ kyL_X11_driest) q hq)) (fun z => z.elim) h) h (fun x18 x19 p22 h g20 g21 => ?_)
      have h := h g20 g21
      have K := k9_tr K p22.2
      refine ⟨?_, ?_⟩
      · intro c23
        have h := h.1 c23
        exact ky_X11_driest_45 hU hL hb h K
      · intro c24
        have h := h.2 c24
        exact ky_X11_driest_30 hU hL hb h K
theorem ky_X11_driest {b : Bool} {L : List (Nat × Nat)} (hU : ∀ q ∈ L, q ∈ nyT) (hL : ∀ q ∈ kyL_X11_driest, q ∈ L) (hb : False → b = false) {Q : Int32 → HS → Prop} {v0 : Nat} {v1 : Int32} {v2 : Int32} {v3 : Int32} {S : HS} (h : P_X11_driest v0 v1 v2 v3 Q S) : P_X11_driest v0 v1 v2 v3 (fun r T => Q r T ∧ K9 b L S T) S := ky_X11_driest_0 hU hL hb h (k9_rf b L S)
abbrev kyL_X11_drips : List (Nat × Nat) := []
set_option maxRecDepth 20000 in
set_option maxHeartbeats 1000000 in
theorem ky_X11_drips_0 {b : Bool} {L : List (Nat × Nat)} (hU : ∀ q ∈ L, q ∈ nyT) (hL : ∀ q ∈ kyL_X11_drips, q ∈ L) (hb : False → b = false) {Q : Int64 → HS → Prop} {v0 : Nat} {v1 : Int32} {v2 : Int32} {S0 S : HS} (h : P_X11_drips_0 Q v0 v1 v2 S) (K : K9 b L S0 S) : P_X11_drips_0 (fun r T => Q r T ∧ K9 b L S0 T) v0 v1 v2 S := by
  delta P_X11_drips_0 at h ⊢
  obtain ⟨c1, h⟩ := h
  refine ⟨c1, ?_⟩
  have o2 := c1
  obtain ⟨b3, e4, h⟩ := h
  refine ⟨b3, e4, ?_⟩
  obtain ⟨c5, h⟩ := h
  refine ⟨c5, ?_⟩
  have o6 := c5
  obtain ⟨b7, e8, h⟩ := h
  refine ⟨b7, e8, ?_⟩
  obtain ⟨c9, h⟩ := h
  refine ⟨c9, ?_⟩
  obtain ⟨c10, h⟩ := h
  refine ⟨c10, ?_⟩
  intro x12 e11
  have h := h x12 e11
  obtain ⟨b13, e14, h⟩ := h
  refine ⟨b13, e14, ?_⟩
  obtain ⟨c15, h⟩ := h
  refine ⟨c15, ?_⟩
  have o16 := c15
  obtain ⟨b17, e18, h⟩ := h
  refine ⟨b17, e18, ?_⟩
  obtain ⟨c19, h⟩ := h
  refine ⟨c19, ?_⟩
  obtain ⟨c20, h⟩ := h
  refine ⟨c20, ?_⟩
  intro x22 e21
  have h := h x22 e21
  obtain ⟨b23, e24, h⟩ := h
  refine ⟨b23, e24, ?_⟩
  obtain ⟨c25, h⟩ := h
  refine ⟨c25, ?_⟩
  refine cm_X10_shield (ky_X10_shield (b := b) hU (fun q hq => hL q ((by decide : ∀ q ∈ kyL_X10_shield, q ∈ kyL_X11_drips) q hq)) (fun z => z.elim) h) h (fun x26 x27 p29 h g28 => ?_)
  have h := h g28
  have K := k9_tr K p29.2
  have o2 := gr_ob p29.2.1 o2
  have o6 := gr_ob p29.2.1 o6
  have o16 := gr_ob p29.2.1 o16
  refine cm_X11_less (ky_X11_less (b := b) hU (fun q hq => hL q ((by decide : ∀ q ∈ kyL_X11_less, q ∈ kyL_X11_drips) q hq)) (fun z => z.elim) h) h (fun x30 x31 p33 h g32 => ?_)
  have h := h g32
  have K := k9_tr K p33.2
  have o2 := gr_ob p33.2.1 o2
  have o6 := gr_ob p33.2.1 o6
  have o16 := gr_ob p33.2.1 o16
  exact ⟨h, K⟩
theorem ky_X11_drips {b : Bool} {L : List (Nat × Nat)} (hU : ∀ q ∈ L, q ∈ nyT) (hL : ∀ q ∈ kyL_X11_drips, q ∈ L) (hb : False → b = false) {Q : Int64 → HS → Prop} {v0 : Nat} {v1 : Int32} {v2 : Int32} {S : HS} (h : P_X11_drips v0 v1 v2 Q S) : P_X11_drips v0 v1 v2 (fun r T => Q r T ∧ K9 b L S T) S := ky_X11_drips_0 hU hL hb h (k9_rf b L S)
abbrev kyL_X11_eatsSign : List (Nat × Nat) := []
set_option maxRecDepth 20000 in
set_option maxHeartbeats 1000000 in
theorem ky_X11_eatsSign_21 {b : Bool} {L : List (Nat × Nat)} (hU : ∀ q ∈ L, q ∈ nyT) (hL : ∀ q ∈ kyL_X11_eatsSign, q ∈ L) (hb : False → b = false) {Q : Int32 → HS → Prop} {v0 : Nat} {s0 : Int32} {S0 S : HS} (h : P_X11_eatsSign_21 Q v0 s0 S) (K : K9 b L S0 S) : P_X11_eatsSign_21 (fun r T => Q r T ∧ K9 b L S0 T) v0 s0 S := by
  delta P_X11_eatsSign_21 at h ⊢
  refine ⟨?_, ?_⟩
  · intro c1
    have h := h.1 c1
    obtain ⟨c2, h⟩ := h
    refine ⟨c2, ?_⟩
    exact ⟨h, K⟩
  · intro c3
    have h := h.2 c3
    obtain ⟨c4, h⟩ := h
    refine ⟨c4, ?_⟩
    refine cm_X11_goesOn (ky_X11_goesOn (b := b) hU (fun q hq => hL q ((by decide : ∀ q ∈ kyL_X11_goesOn, q ∈ kyL_X11_eatsSign) q hq)) (fun z => z.elim) h) h (fun x5 p7 h g6 => ?_)
    have h := h g6
    have K := k9_tr K p7.2
    obtain ⟨c8, h⟩ := h
    refine ⟨c8, ?_⟩
    exact ⟨h, K⟩
set_option maxRecDepth 20000 in
set_option maxHeartbeats 1000000 in
theorem ky_X11_eatsSign_20 {b : Bool} {L : List (Nat × Nat)} (hU : ∀ q ∈ L, q ∈ nyT) (hL : ∀ q ∈ kyL_X11_eatsSign, q ∈ L) (hb : False → b = false) {Q : Int32 → HS → Prop} {v0 : Nat} {S0 S : HS} (h : P_X11_eatsSign_20 Q v0 S) (K : K9 b L S0 S) : P_X11_eatsSign_20 (fun r T => Q r T ∧ K9 b L S0 T) v0 S := by
  delta P_X11_eatsSign_20 at h ⊢
  exact ky_X11_eatsSign_21 hU hL hb h K
set_option maxRecDepth 20000 in
set_option maxHeartbeats 1000000 in
theorem ky_X11_eatsSign_0 {b : Bool} {L : List (Nat × Nat)} (hU : ∀ q ∈ L, q ∈ nyT) (hL : ∀ q ∈ kyL_X11_eatsSign, q ∈ L) (hb : False → b = false) {Q : Int32 → HS → Prop} {v0 : Nat} {v1 : Int32} {S0 S : HS} (h : P_X11_eatsSign_0 Q v0 v1 S) (K : K9 b L S0 S) : P_X11_eatsSign_0 (fun r T => Q r T ∧ K9 b L S0 T) v0 v1 S := by
  delta P_X11_eatsSign_0 at h ⊢
  obtain ⟨c1, h⟩ := h
  refine ⟨c1, ?_⟩
  intro x3 e2
  have h := h x3 e2
  refine ⟨?_, ?_⟩
  · intro c4
    have h := h.1 c4
    exact ky_X11_eatsSign_20 hU hL hb h K
  · intro c5
    have h := h.2 c5
    intro x7 e6
    have h := h x7 e6
    refine ⟨?_, ?_⟩
    · intro c8
      have h := h.1 c8
      exact ky_X11_eatsSign_20 hU hL hb h K
    · intro c9
      have h := h.2 c9
      exact ky_X11_eatsSign_21 hU hL hb h K
theorem ky_X11_eatsSign {b : Bool} {L : List (Nat × Nat)} (hU : ∀ q ∈ L, q ∈ nyT) (hL : ∀ q ∈ kyL_X11_eatsSign, q ∈ L) (hb : False → b = false) {Q : Int32 → HS → Prop} {v0 : Nat} {v1 : Int32} {S : HS} (h : P_X11_eatsSign v0 v1 Q S) : P_X11_eatsSign v0 v1 (fun r T => Q r T ∧ K9 b L S T) S := ky_X11_eatsSign_0 hU hL hb h (k9_rf b L S)
abbrev kyL_X11_wordOf : List (Nat × Nat) := []
set_option maxRecDepth 20000 in
set_option maxHeartbeats 1000000 in
theorem kyB_X11_wordOf_4 {b : Bool} {L : List (Nat × Nat)} (hU : ∀ q ∈ L, q ∈ nyT) (hL : ∀ q ∈ kyL_X11_wordOf, q ∈ L) (hb : False → b = false) {Q : Int64 → HS → Prop} {X4 X4_2 : Nat → Int64 → Int32 → HS → Prop} {v0 : Nat} {v1 : Int64} {v3 : Int32} {S0 S : HS} (h : B_X11_wordOf_4 Q X4 v0 v1 v3 S) (K : K9 b L S0 S) (hX4 : ∀ (u0 : Nat) (u1 : Int64) (u2 : Int32) (u3 : HS), X4 u0 u1 u2 u3 → K9 b L S0 u3 → X4_2 u0 u1 u2 u3) : B_X11_wordOf_4 (fun r T => Q r T ∧ K9 b L S0 T) X4_2 v0 v1 v3 S := by
  delta B_X11_wordOf_4 at h ⊢
  obtain ⟨c1, h⟩ := h
  refine ⟨c1, ?_⟩
  intro x3 e2
  have h := h x3 e2
  refine ⟨?_, ?_⟩
  · intro c4
    have h := h.1 c4
    exact ⟨h, K⟩
  · intro c5
    have h := h.2 c5
    obtain ⟨c6, h⟩ := h
    refine ⟨c6, ?_⟩
    obtain ⟨c7, h⟩ := h
    refine ⟨c7, ?_⟩
    intro x9 e8
    have h := h x9 e8
    intro x11 e10
    have h := h x11 e10
    intro x13 e12
    have h := h x13 e12
    exact hX4 _ _ _ _ h K
theorem ky_X11_wordOf_4 {b : Bool} {L : List (Nat × Nat)} (hU : ∀ q ∈ L, q ∈ nyT) (hL : ∀ q ∈ kyL_X11_wordOf, q ∈ L) (hb : False → b = false) {Q : Int64 → HS → Prop} {v0 : Nat} {v1 : Int64} {v3 : Int32} {S0 S : HS} (h : P_X11_wordOf_4 Q v0 v1 v3 S) (K : K9 b L S0 S) : P_X11_wordOf_4 (fun r T => Q r T ∧ K9 b L S0 T) v0 v1 v3 S := h (fun v0 v1 v3 S => K9 b L S0 S → P_X11_wordOf_4 (fun r T => Q r T ∧ K9 b L S0 T) v0 v1 v3 S) (fun v0 v1 v3 S hB K => fd_X11_wordOf_4 (kyB_X11_wordOf_4 hU hL hb hB K (fun _ _ _ _ hx K => hx K))) K
set_option maxRecDepth 20000 in
set_option maxHeartbeats 1000000 in
theorem ky_X11_wordOf_0 {b : Bool} {L : List (Nat × Nat)} (hU : ∀ q ∈ L, q ∈ nyT) (hL : ∀ q ∈ kyL_X11_wordOf, q ∈ L) (hb : False → b = false) {Q : Int64 → HS → Prop} {v0 : Nat} {S0 S : HS} (h : P_X11_wordOf_0 Q v0 S) (K : K9 b L S0 S) : P_X11_wordOf_0 (fun r T => Q r T ∧ K9 b L S0 T) v0 S := by
  delta P_X11_wordOf_0 at h ⊢
  exact ky_X11_wordOf_4 hU hL hb h K
theorem ky_X11_wordOf {b : Bool} {L : List (Nat × Nat)} (hU : ∀ q ∈ L, q ∈ nyT) (hL : ∀ q ∈ kyL_X11_wordOf, q ∈ L) (hb : False → b = false) {Q : Int64 → HS → Prop} {v0 : Nat} {S : HS} (h : P_X11_wordOf v0 Q S) : P_X11_wordOf v0 (fun r T => Q r T ∧ K9 b L S T) S := ky_X11_wordOf_0 hU hL hb h (k9_rf b L S)
abbrev kyL_X11_isWord : List (Nat × Nat) := []
set_option maxRecDepth 20000 in
set_option maxHeartbeats 1000000 in
theorem ky_X11_isWord_0 {b : Bool} {L : List (Nat × Nat)} (hU : ∀ q ∈ L, q ∈ nyT) (hL : ∀ q ∈ kyL_X11_isWord, q ∈ L) (hb : False → b = false) {Q : Int32 → HS → Prop} {v0 : Nat} {v1 : Nat} {S0 S : HS} (h : P_X11_isWord_0 Q v0 v1 S) (K : K9 b L S0 S) : P_X11_isWord_0 (fun r T => Q r T ∧ K9 b L S0 T) v0 v1 S := by
  delta P_X11_isWord_0 at h ⊢
  obtain ⟨c1, h⟩ := h
  refine ⟨c1, ?_⟩
  intro x3 e2
  have h := h x3 e2
  refine ⟨?_, ?_⟩
  · intro c4
    have h := h.1 c4
    exact ⟨h, K⟩
  · intro c5
    have h := h.2 c5
    intro x7 e6
    have h := h x7 e6
    refine cm_X11_wordOf (ky_X11_wordOf (b := b) hU (fun q hq => hL q ((by decide : ∀ q ∈ kyL_X11_wordOf, q ∈ kyL_X11_isWord) q hq)) (fun z => z.elim) h) h (fun x8 x9 p11 h g10 => ?_)
    have h := h g10
    have K := k9_tr K p11.2
    refine ⟨?_, ?_⟩
    · intro c12
      have h := h.1 c12
      exact ⟨h, K⟩
    · intro c13
      have h := h.2 c13
      exact ⟨h, K⟩
theorem ky_X11_isWord {b : Bool} {L : List (Nat × Nat)} (hU : ∀ q ∈ L, q ∈ nyT) (hL : ∀ q ∈ kyL_X11_isWord, q ∈ L) (hb : False → b = false) {Q : Int32 → HS → Prop} {v0 : Nat} {v1 : Nat} {S : HS} (h : P_X11_isWord v0 v1 Q S) : P_X11_isWord v0 v1 (fun r T => Q r T ∧ K9 b L S T) S := ky_X11_isWord_0 hU hL hb h (k9_rf b L S)
abbrev kyL_X11_eatsWord : List (Nat × Nat) := []
set_option maxRecDepth 20000 in
set_option maxHeartbeats 1000000 in
theorem ky_X11_eatsWord_0 {b : Bool} {L : List (Nat × Nat)} (hU : ∀ q ∈ L, q ∈ nyT) (hL : ∀ q ∈ kyL_X11_eatsWord, q ∈ L) (hb : False → b = false) {Q : Int32 → HS → Prop} {v0 : Nat} {v1 : Nat} {S0 S : HS} (h : P_X11_eatsWord_0 Q v0 v1 S) (K : K9 b L S0 S) : P_X11_eatsWord_0 (fun r T => Q r T ∧ K9 b L S0 T) v0 v1 S := by
  delta P_X11_eatsWord_0 at h ⊢
  obtain ⟨c1, h⟩ := h
  refine ⟨c1, ?_⟩
  refine cm_X11_isWord (ky_X11_isWord (b := b) hU (fun q hq => hL q ((by decide : ∀ q ∈ kyL_X11_isWord, q ∈ kyL_X11_eatsWord) q hq)) (fun z => z.elim) h) h (fun x2 x3 p6 h g4 g5 => ?_)
  have h := h g4 g5
  have K := k9_tr K p6.2
  refine ⟨?_, ?_⟩
  · intro c7
    have h := h.1 c7
    obtain ⟨c8, h⟩ := h
    refine ⟨c8, ?_⟩
    exact ⟨h, K⟩
  · intro c9
    have h := h.2 c9
    refine cm_X11_goesOn (ky_X11_goesOn (b := b) hU (fun q hq => hL q ((by decide : ∀ q ∈ kyL_X11_goesOn, q ∈ kyL_X11_eatsWord) q hq)) (fun z => z.elim) h) h (fun x10 p12 h g11 => ?_)
    have h := h g11
    have K := k9_tr K p12.2
    obtain ⟨c13, h⟩ := h
    refine ⟨c13, ?_⟩
    exact ⟨h, K⟩
theorem ky_X11_eatsWord {b : Bool} {L : List (Nat × Nat)} (hU : ∀ q ∈ L, q ∈ nyT) (hL : ∀ q ∈ kyL_X11_eatsWord, q ∈ L) (hb : False → b = false) {Q : Int32 → HS → Prop} {v0 : Nat} {v1 : Nat} {S : HS} (h : P_X11_eatsWord v0 v1 Q S) : P_X11_eatsWord v0 v1 (fun r T => Q r T ∧ K9 b L S T) S := ky_X11_eatsWord_0 hU hL hb h (k9_rf b L S)
abbrev kyL_X11_even : List (Nat × Nat) := []
set_option maxRecDepth 20000 in
set_option maxHeartbeats 1000000 in
theorem ky_X11_even_39 {b : Bool} {L : List (Nat × Nat)} (hU : ∀ q ∈ L, q ∈ nyT) (hL : ∀ q ∈ kyL_X11_even, q ∈ L) (hb : False → b = false) {Q : Int32 → HS → Prop} {v0 : Nat} {S0 S : HS} (h : P_X11_even_39 Q v0 S) (K : K9 b L S0 S) : P_X11_even_39 (fun r T => Q r T ∧ K9 b L S0 T) v0 S := by
  delta P_X11_even_39 at h ⊢
  obtain ⟨c1, h⟩ := h
  refine ⟨c1, ?_⟩
  refine cm_X11_refused (ky_X11_refused (b := b) hU (fun q hq => hL q ((by decide : ∀ q ∈ kyL_X11_refused, q ∈ kyL_X11_even) q hq)) (fun z => z.elim) h) h (fun x2 x3 p5 h g4 => ?_)
  have h := h g4
  have K := k9_tr K p5.2
  exact ⟨h, K⟩
set_option maxRecDepth 20000 in
set_option maxHeartbeats 1000000 in
theorem ky_X11_even_111 {b : Bool} {L : List (Nat × Nat)} (hU : ∀ q ∈ L, q ∈ nyT) (hL : ∀ q ∈ kyL_X11_even, q ∈ L) (hb : False → b = false) {Q : Int32 → HS → Prop} {X59 X59_2 : Nat → Int32 → Int32 → Int32 → Int32 → Int32 → Int32 → HS → Prop} {v0 : Nat} {v1 : Int32} {v2 : Int32} {v3 : Int32} {v4 : Int32} {v6 : Int32} {s0 : Int32} {S0 S : HS} (h : P_X11_even_111 Q X59 v0 v1 v2 v3 v4 v6 s0 S) (K : K9 b L S0 S) (hX59 : ∀ (u0 : Nat) (u1 : Int32) (u2 : Int32) (u3 : Int32) (u4 : Int32) (u5 : Int32) (u6 : Int32) (u7 : HS), X59 u0 u1 u2 u3 u4 u5 u6 u7 → K9 b L S0 u7 → X59_2 u0 u1 u2 u3 u4 u5 u6 u7) : P_X11_even_111 (fun r T => Q r T ∧ K9 b L S0 T) X59_2 v0 v1 v2 v3 v4 v6 s0 S := by
  delta P_X11_even_111 at h ⊢
  intro x2 e1
  have h := h x2 e1
  exact hX59 _ _ _ _ _ _ _ _ h K
set_option maxRecDepth 20000 in
set_option maxHeartbeats 1000000 in
theorem ky_X11_even_110 {b : Bool} {L : List (Nat × Nat)} (hU : ∀ q ∈ L, q ∈ nyT) (hL : ∀ q ∈ kyL_X11_even, q ∈ L) (hb : False → b = false) {Q : Int32 → HS → Prop} {X59 X59_2 : Nat → Int32 → Int32 → Int32 → Int32 → Int32 → Int32 → HS → Prop} {v0 : Nat} {v1 : Int32} {v2 : Int32} {v3 : Int32} {v4 : Int32} {v6 : Int32} {S0 S : HS} (h : P_X11_even_110 Q X59 v0 v1 v2 v3 v4 v6 S) (K : K9 b L S0 S) (hX59 : ∀ (u0 : Nat) (u1 : Int32) (u2 : Int32) (u3 : Int32) (u4 : Int32) (u5 : Int32) (u6 : Int32) (u7 : HS), X59 u0 u1 u2 u3 u4 u5 u6 u7 → K9 b L S0 u7 → X59_2 u0 u1 u2 u3 u4 u5 u6 u7) : P_X11_even_110 (fun r T => Q r T ∧ K9 b L S0 T) X59_2 v0 v1 v2 v3 v4 v6 S := by
  delta P_X11_even_110 at h ⊢
  exact ky_X11_even_111 hU hL hb h K hX59
set_option maxRecDepth 20000 in
set_option maxHeartbeats 1000000 in
theorem ky_X11_even_130 {b : Bool} {L : List (Nat × Nat)} (hU : ∀ q ∈ L, q ∈ nyT) (hL : ∀ q ∈ kyL_X11_even, q ∈ L) (hb : False → b = false) {Q : Int32 → HS → Prop} {s0 : Nat} {s1 : Int32} {S0 S : HS} (h : P_X11_even_130 Q s0 s1 S) (K : K9 b L S0 S) : P_X11_even_130 (fun r T => Q r T ∧ K9 b L S0 T) s0 s1 S := by
  delta P_X11_even_130 at h ⊢
  obtain ⟨c1, h⟩ := h
  refine ⟨c1, ?_⟩
  refine cm_X11_good (ky_X11_good (b := b) hU (fun q hq => hL q ((by decide : ∀ q ∈ kyL_X11_good, q ∈ kyL_X11_even) q hq)) (fun z => z.elim) h) h (fun x2 x3 p5 h g4 => ?_)
  have h := h g4
  have K := k9_tr K p5.2
  exact ⟨h, K⟩
set_option maxRecDepth 20000 in
set_option maxHeartbeats 1000000 in
theorem kyB_X11_even_59 {b : Bool} {L : List (Nat × Nat)} (hU : ∀ q ∈ L, q ∈ nyT) (hL : ∀ q ∈ kyL_X11_even, q ∈ L) (hb : False → b = false) {Q : Int32 → HS → Prop} {X59 X59_2 : Nat → Int32 → Int32 → Int32 → Int32 → Int32 → Int32 → HS → Prop} {v0 : Nat} {v1 : Int32} {v2 : Int32} {v3 : Int32} {v4 : Int32} {v5 : Int32} {v6 : Int32} {S0 S : HS} (h : B_X11_even_59 Q X59 v0 v1 v2 v3 v4 v5 v6 S) (K : K9 b L S0 S) (hX59 : ∀ (u0 : Nat) (u1 : Int32) (u2 : Int32) (u3 : Int32) (u4 : Int32) (u5 : Int32) (u6 : Int32) (u7 : HS), X59 u0 u1 u2 u3 u4 u5 u6 u7 → K9 b L S0 u7 → X59_2 u0 u1 u2 u3 u4 u5 u6 u7) : B_X11_even_59 (fun r T => Q r T ∧ K9 b L S0 T) X59_2 v0 v1 v2 v3 v4 v5 v6 S := by
  delta B_X11_even_59 at h ⊢
  obtain ⟨c1, h⟩ := h
  refine ⟨c1, ?_⟩
  have o2 := c1
  obtain ⟨b3, e4, h⟩ := h
  refine ⟨b3, e4, ?_⟩
  obtain ⟨c5, h⟩ := h
  refine ⟨c5, ?_⟩
  have o6 := c5
  obtain ⟨b7, e8, h⟩ := h
  refine ⟨b7, e8, ?_⟩
  obtain ⟨c9, h⟩ := h
  refine ⟨c9, ?_⟩
  obtain ⟨c10, h⟩ := h
  refine ⟨c10, ?_⟩
  intro x12 e11
  have h := h x12 e11
  refine ⟨?_, ?_⟩
  · intro c13
    have h := h.1 c13
    refine ⟨?_, ?_⟩
    · intro c14
      have h := h.1 c14
      exact ky_X11_even_130 hU hL hb h K
    · intro c15
      have h := h.2 c15
      exact ky_X11_even_130 hU hL hb h K
  · intro c16
    have h := h.2 c16
    refine ⟨?_, ?_⟩
    · intro c17
      have h := h.1 c17
      exact ky_X11_even_110 hU hL hb h K hX59
    · intro c18
      have h := h.2 c18
      refine cm_X11_wetOf (ky_X11_wetOf (b := b) hU (fun q hq => hL q ((by decide : ∀ q ∈ kyL_X11_wetOf, q ∈ kyL_X11_even) q hq)) (fun z => z.elim) h) h (fun x19 x20 p22 h g21 => ?_)
      have h := h g21
      have K := k9_tr K p22.2
      have o2 := gr_ob p22.2.1 o2
      have o6 := gr_ob p22.2.1 o6
      refine cm_X11_wetOf (ky_X11_wetOf (b := b) hU (fun q hq => hL q ((by decide : ∀ q ∈ kyL_X11_wetOf, q ∈ kyL_X11_even) q hq)) (fun z => z.elim) h) h (fun x23 x24 p26 h g25 => ?_)
      have h := h g25
      have K := k9_tr K p26.2
      have o2 := gr_ob p26.2.1 o2
      have o6 := gr_ob p26.2.1 o6
      refine ⟨?_, ?_⟩
      · intro c27
        have h := h.1 c27
        exact ky_X11_even_110 hU hL hb h K hX59
      · intro c28
        have h := h.2 c28
        exact ky_X11_even_111 hU hL hb h K hX59
theorem ky_X11_even_59 {b : Bool} {L : List (Nat × Nat)} (hU : ∀ q ∈ L, q ∈ nyT) (hL : ∀ q ∈ kyL_X11_even, q ∈ L) (hb : False → b = false) {Q : Int32 → HS → Prop} {v0 : Nat} {v1 : Int32} {v2 : Int32} {v3 : Int32} {v4 : Int32} {v5 : Int32} {v6 : Int32} {S0 S : HS} (h : P_X11_even_59 Q v0 v1 v2 v3 v4 v5 v6 S) (K : K9 b L S0 S) : P_X11_even_59 (fun r T => Q r T ∧ K9 b L S0 T) v0 v1 v2 v3 v4 v5 v6 S := h (fun v0 v1 v2 v3 v4 v5 v6 S => K9 b L S0 S → P_X11_even_59 (fun r T => Q r T ∧ K9 b L S0 T) v0 v1 v2 v3 v4 v5 v6 S) (fun v0 v1 v2 v3 v4 v5 v6 S hB K => fd_X11_even_59 (kyB_X11_even_59 hU hL hb hB K (fun _ _ _ _ _ _ _ _ hx K => hx K))) K
set_option maxRecDepth 20000 in
set_option maxHeartbeats 1000000 in
theorem ky_X11_even_0 {b : Bool} {L : List (Nat × Nat)} (hU : ∀ q ∈ L, q ∈ nyT) (hL : ∀ q ∈ kyL_X11_even, q ∈ L) (hb : False → b = false) {Q : Int32 → HS → Prop} {v0 : Nat} {v1 : Int32} {v2 : Int32} {v3 : Int32} {v4 : Int32} {S0 S : HS} (h : P_X11_even_0 Q v0 v1 v2 v3 v4 S) (K : K9 b L S0 S) : P_X11_even_0 (fun r T => Q r T ∧ K9 b L S0 T) v0 v1 v2 v3 v4 S := by
  delta P_X11_even_0 at h ⊢
  obtain ⟨c1, h⟩ := h
  refine ⟨c1, ?_⟩
  have o2 := c1
  intro x4 e3
  have h := h x4 e3
  have K := k9_I K e3
  have o2 := ob_wI o2 e3
  refine cm_X11_isWalker (ky_X11_isWalker (b := b) hU (fun q hq => hL q ((by decide : ∀ q ∈ kyL_X11_isWalker, q ∈ kyL_X11_even) q hq)) (fun z => z.elim) h) h (fun x5 x6 p9 h g7 g8 => ?_)
  have h := h g7 g8
  have K := k9_tr K p9.2
  have o2 := gr_ob p9.2.1 o2
  refine ⟨?_, ?_⟩
  · intro c10
    have h := h.1 c10
    exact ky_X11_even_39 hU hL hb h K
  · intro c11
    have h := h.2 c11
    refine cm_X11_isRoad (ky_X11_isRoad (b := b) hU (fun q hq => hL q ((by decide : ∀ q ∈ kyL_X11_isRoad, q ∈ kyL_X11_even) q hq)) (fun z => z.elim) h) h (fun x12 x13 p16 h g14 g15 => ?_)
    have h := h g14 g15
    have K := k9_tr K p16.2
    have o2 := gr_ob p16.2.1 o2
    refine ⟨?_, ?_⟩
    · intro c17
      have h := h.1 c17
      exact ky_X11_even_39 hU hL hb h K
    · intro c18
      have h := h.2 c18
      refine cm_X11_in (ky_X11_in (b := b) hU (fun q hq => hL q ((by decide : ∀ q ∈ kyL_X11_in, q ∈ kyL_X11_even) q hq)) (fun z => z.elim) h) h (fun x19 x20 p23 h g21 g22 => ?_)
      have h := h g21 g22
      have K := k9_tr K p23.2
      have o2 := gr_ob p23.2.1 o2
      refine ⟨?_, ?_⟩
      · intro c24
        have h := h.1 c24
        exact ky_X11_even_39 hU hL hb h K
      · intro c25
        have h := h.2 c25
        refine cm_X11_isHour (ky_X11_isHour (b := b) hU (fun q hq => hL q ((by decide : ∀ q ∈ kyL_X11_isHour, q ∈ kyL_X11_even) q hq)) (fun z => z.elim) h) h (fun x26 x27 p30 h g28 g29 => ?_)
        have h := h g28 g29
        have K := k9_tr K p30.2
        have o2 := gr_ob p30.2.1 o2
        refine ⟨?_, ?_⟩
        · intro c31
          have h := h.1 c31
          obtain ⟨b32, e33, h⟩ := h
          refine ⟨b32, e33, ?_⟩
          obtain ⟨c34, h⟩ := h
          refine ⟨c34, ?_⟩
          have o35 := c34
          obtain ⟨b36, e37, h⟩ := h
          refine ⟨b36, e37, ?_⟩
          obtain ⟨c38, h⟩ := h
          refine ⟨c38, ?_⟩
          obtain ⟨c39, h⟩ := h
          refine ⟨c39, ?_⟩
          intro x41 e40
          have h := h x41 e40
          exact ky_X11_even_59 hU hL hb h K
        · intro c42
          have h := h.2 c42
          exact ky_X11_even_39 hU hL hb h K
theorem ky_X11_even {b : Bool} {L : List (Nat × Nat)} (hU : ∀ q ∈ L, q ∈ nyT) (hL : ∀ q ∈ kyL_X11_even, q ∈ L) (hb : False → b = false) {Q : Int32 → HS → Prop} {v0 : Nat} {v1 : Int32} {v2 : Int32} {v3 : Int32} {v4 : Int32} {S : HS} (h : P_X11_even v0 v1 v2 v3 v4 Q S) : P_X11_even v0 v1 v2 v3 v4 (fun r T => Q r T ∧ K9 b L S T) S := ky_X11_even_0 hU hL hb h (k9_rf b L S)
abbrev kyL_X11_isSpeed : List (Nat × Nat) := []
set_option maxRecDepth 20000 in
set_option maxHeartbeats 1000000 in
theorem ky_X11_isSpeed_0 {b : Bool} {L : List (Nat × Nat)} (hU : ∀ q ∈ L, q ∈ nyT) (hL : ∀ q ∈ kyL_X11_isSpeed, q ∈ L) (hb : False → b = false) {Q : Int32 → HS → Prop} {v0 : Nat} {v1 : Int32} {v2 : Int32} {S0 S : HS} (h : P_X11_isSpeed_0 Q v0 v1 v2 S) (K : K9 b L S0 S) : P_X11_isSpeed_0 (fun r T => Q r T ∧ K9 b L S0 T) v0 v1 v2 S := by
  delta P_X11_isSpeed_0 at h ⊢
  obtain ⟨c1, h⟩ := h
  refine ⟨c1, ?_⟩
  have o2 := c1
  obtain ⟨b3, e4, h⟩ := h
  refine ⟨b3, e4, ?_⟩
  obtain ⟨c5, h⟩ := h
  refine ⟨c5, ?_⟩
  have o6 := c5
  obtain ⟨b7, e8, h⟩ := h
  refine ⟨b7, e8, ?_⟩
  obtain ⟨c9, h⟩ := h
  refine ⟨c9, ?_⟩
  obtain ⟨c10, h⟩ := h
  refine ⟨c10, ?_⟩
  intro x12 e11
  have h := h x12 e11
  obtain ⟨b13, e14, h⟩ := h
  refine ⟨b13, e14, ?_⟩
  obtain ⟨c15, h⟩ := h
  refine ⟨c15, ?_⟩
  have o16 := c15
  obtain ⟨b17, e18, h⟩ := h
  refine ⟨b17, e18, ?_⟩
  obtain ⟨c19, h⟩ := h
  refine ⟨c19, ?_⟩
  obtain ⟨c20, h⟩ := h
  refine ⟨c20, ?_⟩
  intro x22 e21
  have h := h x22 e21
  refine cm_X11_in (ky_X11_in (b := b) hU (fun q hq => hL q ((by decide : ∀ q ∈ kyL_X11_in, q ∈ kyL_X11_isSpeed) q hq)) (fun z => z.elim) h) h (fun x23 x24 p27 h g25 g26 => ?_)
  have h := h g25 g26
  have K := k9_tr K p27.2
  have o2 := gr_ob p27.2.1 o2
  have o6 := gr_ob p27.2.1 o6
  have o16 := gr_ob p27.2.1 o16
  obtain ⟨c28, h⟩ := h
  refine ⟨c28, ?_⟩
  exact ⟨h, K⟩
theorem ky_X11_isSpeed {b : Bool} {L : List (Nat × Nat)} (hU : ∀ q ∈ L, q ∈ nyT) (hL : ∀ q ∈ kyL_X11_isSpeed, q ∈ L) (hb : False → b = false) {Q : Int32 → HS → Prop} {v0 : Nat} {v1 : Int32} {v2 : Int32} {S : HS} (h : P_X11_isSpeed v0 v1 v2 Q S) : P_X11_isSpeed v0 v1 v2 (fun r T => Q r T ∧ K9 b L S T) S := ky_X11_isSpeed_0 hU hL hb h (k9_rf b L S)
abbrev kyL_X11_refuses : List (Nat × Nat) := []
set_option maxRecDepth 20000 in
set_option maxHeartbeats 1000000 in
theorem ky_X11_refuses_0 {b : Bool} {L : List (Nat × Nat)} (hU : ∀ q ∈ L, q ∈ nyT) (hL : ∀ q ∈ kyL_X11_refuses, q ∈ L) (hb : False → b = false) {Q : Int32 → HS → Prop} {v0 : Nat} {v1 : Int32} {v2 : Int32} {v3 : Int32} {v4 : Int32} {v5 : Int32} {S0 S : HS} (h : P_X11_refuses_0 Q v0 v1 v2 v3 v4 v5 S) (K : K9 b L S0 S) : P_X11_refuses_0 (fun r T => Q r T ∧ K9 b L S0 T) v0 v1 v2 v3 v4 v5 S := by
  delta P_X11_refuses_0 at h ⊢
  obtain ⟨c1, h⟩ := h
  refine ⟨c1, ?_⟩
  refine cm_X11_isWalker (ky_X11_isWalker (b := b) hU (fun q hq => hL q ((by decide : ∀ q ∈ kyL_X11_isWalker, q ∈ kyL_X11_refuses) q hq)) (fun z => z.elim) h) h (fun x2 x3 p6 h g4 g5 => ?_)
  have h := h g4 g5
  have K := k9_tr K p6.2
  refine ⟨?_, ?_⟩
  · intro c7
    have h := h.1 c7
    exact ⟨h, K⟩
  · intro c8
    have h := h.2 c8
    refine cm_X11_isRoad (ky_X11_isRoad (b := b) hU (fun q hq => hL q ((by decide : ∀ q ∈ kyL_X11_isRoad, q ∈ kyL_X11_refuses) q hq)) (fun z => z.elim) h) h (fun x9 x10 p13 h g11 g12 => ?_)
    have h := h g11 g12
    have K := k9_tr K p13.2
    refine ⟨?_, ?_⟩
    · intro c14
      have h := h.1 c14
      exact ⟨h, K⟩
    · intro c15
      have h := h.2 c15
      refine cm_X11_in (ky_X11_in (b := b) hU (fun q hq => hL q ((by decide : ∀ q ∈ kyL_X11_in, q ∈ kyL_X11_refuses) q hq)) (fun z => z.elim) h) h (fun x16 x17 p20 h g18 g19 => ?_)
      have h := h g18 g19
      have K := k9_tr K p20.2
      refine ⟨?_, ?_⟩
      · intro c21
        have h := h.1 c21
        exact ⟨h, K⟩
      · intro c22
        have h := h.2 c22
        refine cm_X11_isHour (ky_X11_isHour (b := b) hU (fun q hq => hL q ((by decide : ∀ q ∈ kyL_X11_isHour, q ∈ kyL_X11_refuses) q hq)) (fun z => z.elim) h) h (fun x23 x24 p27 h g25 g26 => ?_)
        have h := h g25 g26
        have K := k9_tr K p27.2
        refine ⟨?_, ?_⟩
        · intro c28
          have h := h.1 c28
          refine cm_X11_isSpeed (ky_X11_isSpeed (b := b) hU (fun q hq => hL q ((by decide : ∀ q ∈ kyL_X11_isSpeed, q ∈ kyL_X11_refuses) q hq)) (fun z => z.elim) h) h (fun x29 x30 p33 h g31 g32 => ?_)
          have h := h g31 g32
          have K := k9_tr K p33.2
          refine ⟨?_, ?_⟩
          · intro c34
            have h := h.1 c34
            exact ⟨h, K⟩
          · intro c35
            have h := h.2 c35
            exact ⟨h, K⟩
        · intro c36
          have h := h.2 c36
          exact ⟨h, K⟩
theorem ky_X11_refuses {b : Bool} {L : List (Nat × Nat)} (hU : ∀ q ∈ L, q ∈ nyT) (hL : ∀ q ∈ kyL_X11_refuses, q ∈ L) (hb : False → b = false) {Q : Int32 → HS → Prop} {v0 : Nat} {v1 : Int32} {v2 : Int32} {v3 : Int32} {v4 : Int32} {v5 : Int32} {S : HS} (h : P_X11_refuses v0 v1 v2 v3 v4 v5 Q S) : P_X11_refuses v0 v1 v2 v3 v4 v5 (fun r T => Q r T ∧ K9 b L S T) S := ky_X11_refuses_0 hU hL hb h (k9_rf b L S)
abbrev kyL_X11_told : List (Nat × Nat) := []
set_option maxRecDepth 20000 in
set_option maxHeartbeats 1000000 in
theorem kyB_X11_told_12 {b : Bool} {L : List (Nat × Nat)} (hU : ∀ q ∈ L, q ∈ nyT) (hL : ∀ q ∈ kyL_X11_told, q ∈ L) (hb : False → b = false) {Q : Int64 → HS → Prop} {X12 X12_2 : Int64 → Int64 → Int32 → Int64 → Int64 → HS → Prop} {v1 : Int64} {v3 : Int64} {v5 : Int32} {v6 : Int64} {v8 : Int64} {S0 S : HS} (h : B_X11_told_12 Q X12 v1 v3 v5 v6 v8 S) (K : K9 b L S0 S) (hX12 : ∀ (u0 : Int64) (u1 : Int64) (u2 : Int32) (u3 : Int64) (u4 : Int64) (u5 : HS), X12 u0 u1 u2 u3 u4 u5 → K9 b L S0 u5 → X12_2 u0 u1 u2 u3 u4 u5) : B_X11_told_12 (fun r T => Q r T ∧ K9 b L S0 T) X12_2 v1 v3 v5 v6 v8 S := by
  delta B_X11_told_12 at h ⊢
  refine ⟨?_, ?_⟩
  · intro c1
    have h := h.1 c1
    refine ⟨?_, ?_⟩
    · intro c2
      have h := h.1 c2
      obtain ⟨c3, h⟩ := h
      refine ⟨c3, ?_⟩
      intro x5 e4
      have h := h x5 e4
      exact ⟨h, K⟩
    · intro c6
      have h := h.2 c6
      obtain ⟨c7, h⟩ := h
      refine ⟨c7, ?_⟩
      intro x9 e8
      have h := h x9 e8
      exact ⟨h, K⟩
  · intro c10
    have h := h.2 c10
    obtain ⟨c11, h⟩ := h
    refine ⟨c11, ?_⟩
    intro x13 e12
    have h := h x13 e12
    exact hX12 _ _ _ _ _ _ h K
theorem ky_X11_told_12 {b : Bool} {L : List (Nat × Nat)} (hU : ∀ q ∈ L, q ∈ nyT) (hL : ∀ q ∈ kyL_X11_told, q ∈ L) (hb : False → b = false) {Q : Int64 → HS → Prop} {v1 : Int64} {v3 : Int64} {v5 : Int32} {v6 : Int64} {v8 : Int64} {S0 S : HS} (h : P_X11_told_12 Q v1 v3 v5 v6 v8 S) (K : K9 b L S0 S) : P_X11_told_12 (fun r T => Q r T ∧ K9 b L S0 T) v1 v3 v5 v6 v8 S := h (fun v1 v3 v5 v6 v8 S => K9 b L S0 S → P_X11_told_12 (fun r T => Q r T ∧ K9 b L S0 T) v1 v3 v5 v6 v8 S) (fun v1 v3 v5 v6 v8 S hB K => fd_X11_told_12 (kyB_X11_told_12 hU hL hb hB K (fun _ _ _ _ _ _ hx K => hx K))) K
set_option maxRecDepth 20000 in
set_option maxHeartbeats 1000000 in
theorem ky_X11_told_0 {b : Bool} {L : List (Nat × Nat)} (hU : ∀ q ∈ L, q ∈ nyT) (hL : ∀ q ∈ kyL_X11_told, q ∈ L) (hb : False → b = false) {Q : Int64 → HS → Prop} {v0 : Nat} {v1 : Int64} {v3 : Int64} {v5 : Int32} {S0 S : HS} (h : P_X11_told_0 Q v0 v1 v3 v5 S) (K : K9 b L S0 S) : P_X11_told_0 (fun r T => Q r T ∧ K9 b L S0 T) v0 v1 v3 v5 S := by
  delta P_X11_told_0 at h ⊢
  obtain ⟨c1, h⟩ := h
  refine ⟨c1, ?_⟩
  refine cm_X11_good (ky_X11_good (b := b) hU (fun q hq => hL q ((by decide : ∀ q ∈ kyL_X11_good, q ∈ kyL_X11_told) q hq)) (fun z => z.elim) h) h (fun x2 x3 p5 h g4 => ?_)
  have h := h g4
  have K := k9_tr K p5.2
  exact ky_X11_told_12 hU hL hb h K
theorem ky_X11_told {b : Bool} {L : List (Nat × Nat)} (hU : ∀ q ∈ L, q ∈ nyT) (hL : ∀ q ∈ kyL_X11_told, q ∈ L) (hb : False → b = false) {Q : Int64 → HS → Prop} {v0 : Nat} {v1 : Int64} {v3 : Int64} {v5 : Int32} {S : HS} (h : P_X11_told v0 v1 v3 v5 Q S) : P_X11_told v0 v1 v3 v5 (fun r T => Q r T ∧ K9 b L S T) S := ky_X11_told_0 hU hL hb h (k9_rf b L S)
abbrev kyL_X11_face : List (Nat × Nat) := []
set_option maxRecDepth 20000 in
set_option maxHeartbeats 1000000 in
theorem ky_X11_face_30 {b : Bool} {L : List (Nat × Nat)} (hU : ∀ q ∈ L, q ∈ nyT) (hL : ∀ q ∈ kyL_X11_face, q ∈ L) (hb : False → b = false) {Q : Int64 → HS → Prop} {v0 : Nat} {v1 : Int32} {v2 : Int32} {v3 : Int32} {v4 : Int32} {v5 : Int32} {v6 : Int32} {v7 : Int32} {s0 : Int32} {S0 S : HS} (h : P_X11_face_30 Q v0 v1 v2 v3 v4 v5 v6 v7 s0 S) (K : K9 b L S0 S) : P_X11_face_30 (fun r T => Q r T ∧ K9 b L S0 T) v0 v1 v2 v3 v4 v5 v6 v7 s0 S := by
  delta P_X11_face_30 at h ⊢
  refine ⟨?_, ?_⟩
  · intro c1
    have h := h.1 c1
    obtain ⟨c2, h⟩ := h
    refine ⟨c2, ?_⟩
    refine cm_X11_partsOf (ky_X11_partsOf (b := b) hU (fun q hq => hL q ((by decide : ∀ q ∈ kyL_X11_partsOf, q ∈ kyL_X11_face) q hq)) (fun z => z.elim) h) h (fun x3 x4 p6 h g5 => ?_)
    have h := h g5
    have K := k9_tr K p6.2
    refine cm_X11_told (ky_X11_told (b := b) hU (fun q hq => hL q ((by decide : ∀ q ∈ kyL_X11_told, q ∈ kyL_X11_face) q hq)) (fun z => z.elim) h) h (fun x7 x8 p10 h g9 => ?_)
    have h := h g9
    have K := k9_tr K p10.2
    exact ⟨h, K⟩
  · intro c11
    have h := h.2 c11
    obtain ⟨c12, h⟩ := h
    refine ⟨c12, ?_⟩
    refine cm_X11_refused (ky_X11_refused (b := b) hU (fun q hq => hL q ((by decide : ∀ q ∈ kyL_X11_refused, q ∈ kyL_X11_face) q hq)) (fun z => z.elim) h) h (fun x13 x14 p16 h g15 => ?_)
    have h := h g15
    have K := k9_tr K p16.2
    exact ⟨h, K⟩
set_option maxRecDepth 20000 in
set_option maxHeartbeats 1000000 in
theorem ky_X11_face_0 {b : Bool} {L : List (Nat × Nat)} (hU : ∀ q ∈ L, q ∈ nyT) (hL : ∀ q ∈ kyL_X11_face, q ∈ L) (hb : False → b = false) {Q : Int64 → HS → Prop} {v0 : Nat} {v1 : Int32} {v2 : Int32} {v3 : Int32} {v4 : Int32} {v5 : Int32} {v6 : Int32} {v7 : Int32} {S0 S : HS} (h : P_X11_face_0 Q v0 v1 v2 v3 v4 v5 v6 v7 S) (K : K9 b L S0 S) : P_X11_face_0 (fun r T => Q r T ∧ K9 b L S0 T) v0 v1 v2 v3 v4 v5 v6 v7 S := by
  delta P_X11_face_0 at h ⊢
  obtain ⟨c1, h⟩ := h
  refine ⟨c1, ?_⟩
  intro x3 e2
  have h := h x3 e2
  have K := k9_I K e2
  refine cm_X11_in (ky_X11_in (b := b) hU (fun q hq => hL q ((by decide : ∀ q ∈ kyL_X11_in, q ∈ kyL_X11_face) q hq)) (fun z => z.elim) h) h (fun x4 x5 p8 h g6 g7 => ?_)
  have h := h g6 g7
  have K := k9_tr K p8.2
  refine ⟨?_, ?_⟩
  · intro c9
    have h := h.1 c9
    exact ky_X11_face_30 hU hL hb h K
  · intro c10
    have h := h.2 c10
    refine cm_X11_refuses (ky_X11_refuses (b := b) hU (fun q hq => hL q ((by decide : ∀ q ∈ kyL_X11_refuses, q ∈ kyL_X11_face) q hq)) (fun z => z.elim) h) h (fun x11 x12 p14 h g13 => ?_)
    have h := h g13
    have K := k9_tr K p14.2
    exact ky_X11_face_30 hU hL hb h K
theorem ky_X11_face {b : Bool} {L : List (Nat × Nat)} (hU : ∀ q ∈ L, q ∈ nyT) (hL : ∀ q ∈ kyL_X11_face, q ∈ L) (hb : False → b = false) {Q : Int64 → HS → Prop} {v0 : Nat} {v1 : Int32} {v2 : Int32} {v3 : Int32} {v4 : Int32} {v5 : Int32} {v6 : Int32} {v7 : Int32} {S : HS} (h : P_X11_face v0 v1 v2 v3 v4 v5 v6 v7 Q S) : P_X11_face v0 v1 v2 v3 v4 v5 v6 v7 (fun r T => Q r T ∧ K9 b L S T) S := ky_X11_face_0 hU hL hb h (k9_rf b L S)
abbrev kyL_X11_fault : List (Nat × Nat) := []
set_option maxRecDepth 20000 in
set_option maxHeartbeats 1000000 in
theorem ky_X11_fault_0 {b : Bool} {L : List (Nat × Nat)} (hU : ∀ q ∈ L, q ∈ nyT) (hL : ∀ q ∈ kyL_X11_fault, q ∈ L) (hb : False → b = false) {Q : Int32 → HS → Prop} {v0 : Nat} {S0 S : HS} (h : P_X11_fault_0 Q v0 S) (K : K9 b L S0 S) : P_X11_fault_0 (fun r T => Q r T ∧ K9 b L S0 T) v0 S := by
  delta P_X11_fault_0 at h ⊢
  obtain ⟨c1, h⟩ := h
  refine ⟨c1, ?_⟩
  intro x3 e2
  have h := h x3 e2
  have K := k9_I K e2
  intro x5 e4
  have h := h x5 e4
  exact ⟨h, K⟩
theorem ky_X11_fault {b : Bool} {L : List (Nat × Nat)} (hU : ∀ q ∈ L, q ∈ nyT) (hL : ∀ q ∈ kyL_X11_fault, q ∈ L) (hb : False → b = false) {Q : Int32 → HS → Prop} {v0 : Nat} {S : HS} (h : P_X11_fault v0 Q S) : P_X11_fault v0 (fun r T => Q r T ∧ K9 b L S T) S := ky_X11_fault_0 hU hL hb h (k9_rf b L S)
abbrev kyL_X11_feed : List (Nat × Nat) := []
set_option maxRecDepth 20000 in
set_option maxHeartbeats 1000000 in
theorem ky_X11_feed_76 {b : Bool} {L : List (Nat × Nat)} (hU : ∀ q ∈ L, q ∈ nyT) (hL : ∀ q ∈ kyL_X11_feed, q ∈ L) (hb : False → b = false) {Q : Int32 → HS → Prop} {X23 X23_2 : Nat → Int32 → Int32 → Int32 → Int32 → Int32 → Int32 → HS → Prop} {v0 : Nat} {v1 : Int32} {v2 : Int32} {v3 : Int32} {v4 : Int32} {v5 : Int32} {v6 : Int32} {s0 : Int32} {S0 S : HS} (h : P_X11_feed_76 Q X23 v0 v1 v2 v3 v4 v5 v6 s0 S) (K : K9 b L S0 S) (hX23 : ∀ (u0 : Nat) (u1 : Int32) (u2 : Int32) (u3 : Int32) (u4 : Int32) (u5 : Int32) (u6 : Int32) (u7 : HS), X23 u0 u1 u2 u3 u4 u5 u6 u7 → K9 b L S0 u7 → X23_2 u0 u1 u2 u3 u4 u5 u6 u7) : P_X11_feed_76 (fun r T => Q r T ∧ K9 b L S0 T) X23_2 v0 v1 v2 v3 v4 v5 v6 s0 S := by
  delta P_X11_feed_76 at h ⊢
  obtain ⟨c1, h⟩ := h
  refine ⟨c1, ?_⟩
  have o2 := c1
  obtain ⟨b3, e4, h⟩ := h
  refine ⟨b3, e4, ?_⟩
  intro x6 e5
  have h := h x6 e5
  intro x8 e7
  have h := h x8 e7
  obtain ⟨c9, h⟩ := h
  refine ⟨c9, ?_⟩
  intro x11 e10
  have h := h x11 e10
  obtain ⟨c12, h⟩ := h
  refine ⟨c12, ?_⟩
  intro x14 e13
  have h := h x14 e13
  have K := k9_I K e13
  have o2 := ob_wI o2 e13
  intro x16 e15
  have h := h x16 e15
  intro x18 e17
  have h := h x18 e17
  intro x20 e19
  have h := h x20 e19
  have K := k9_I K e19
  have o2 := ob_wI o2 e19
  intro x22 e21
  have h := h x22 e21
  exact hX23 _ _ _ _ _ _ _ _ h K
set_option maxRecDepth 20000 in
set_option maxHeartbeats 1000000 in
theorem kyB_X11_feed_23 {b : Bool} {L : List (Nat × Nat)} (hU : ∀ q ∈ L, q ∈ nyT) (hL : ∀ q ∈ kyL_X11_feed, q ∈ L) (hb : False → b = false) {Q : Int32 → HS → Prop} {X23 X23_2 : Nat → Int32 → Int32 → Int32 → Int32 → Int32 → Int32 → HS → Prop} {v0 : Nat} {v1 : Int32} {v2 : Int32} {v3 : Int32} {v4 : Int32} {v5 : Int32} {v6 : Int32} {S0 S : HS} (h : B_X11_feed_23 Q X23 v0 v1 v2 v3 v4 v5 v6 S) (K : K9 b L S0 S) (hX23 : ∀ (u0 : Nat) (u1 : Int32) (u2 : Int32) (u3 : Int32) (u4 : Int32) (u5 : Int32) (u6 : Int32) (u7 : HS), X23 u0 u1 u2 u3 u4 u5 u6 u7 → K9 b L S0 u7 → X23_2 u0 u1 u2 u3 u4 u5 u6 u7) : B_X11_feed_23 (fun r T => Q r T ∧ K9 b L S0 T) X23_2 v0 v1 v2 v3 v4 v5 v6 S := by
  delta B_X11_feed_23 at h ⊢
  refine ⟨?_, ?_⟩
  · intro c1
    have h := h.1 c1
    obtain ⟨c2, h⟩ := h
    refine ⟨c2, ?_⟩
    intro x4 e3
    have h := h x4 e3
    exact ⟨h, K⟩
  · intro c5
    have h := h.2 c5
    refine ⟨?_, ?_⟩
    · intro c6
      have h := h.1 c6
      refine ⟨?_, ?_⟩
      · intro c7
        have h := h.1 c7
        refine ⟨?_, ?_⟩
        · intro c8
          have h := h.1 c8
          refine ⟨?_, ?_⟩
          · intro c9
            have h := h.1 c9
            exact ky_X11_feed_76 hU hL hb h K hX23
          · intro c10
            have h := h.2 c10
            exact ky_X11_feed_76 hU hL hb h K hX23
        · intro c11
          have h := h.2 c11
          exact ky_X11_feed_76 hU hL hb h K hX23
      · intro c12
        have h := h.2 c12
        exact ky_X11_feed_76 hU hL hb h K hX23
    · intro c13
      have h := h.2 c13
      exact ky_X11_feed_76 hU hL hb h K hX23
theorem ky_X11_feed_23 {b : Bool} {L : List (Nat × Nat)} (hU : ∀ q ∈ L, q ∈ nyT) (hL : ∀ q ∈ kyL_X11_feed, q ∈ L) (hb : False → b = false) {Q : Int32 → HS → Prop} {v0 : Nat} {v1 : Int32} {v2 : Int32} {v3 : Int32} {v4 : Int32} {v5 : Int32} {v6 : Int32} {S0 S : HS} (h : P_X11_feed_23 Q v0 v1 v2 v3 v4 v5 v6 S) (K : K9 b L S0 S) : P_X11_feed_23 (fun r T => Q r T ∧ K9 b L S0 T) v0 v1 v2 v3 v4 v5 v6 S := h (fun v0 v1 v2 v3 v4 v5 v6 S => K9 b L S0 S → P_X11_feed_23 (fun r T => Q r T ∧ K9 b L S0 T) v0 v1 v2 v3 v4 v5 v6 S) (fun v0 v1 v2 v3 v4 v5 v6 S hB K => fd_X11_feed_23 (kyB_X11_feed_23 hU hL hb hB K (fun _ _ _ _ _ _ _ _ hx K => hx K))) K
set_option maxRecDepth 20000 in
set_option maxHeartbeats 1000000 in
theorem ky_X11_feed_0 {b : Bool} {L : List (Nat × Nat)} (hU : ∀ q ∈ L, q ∈ nyT) (hL : ∀ q ∈ kyL_X11_feed, q ∈ L) (hb : False → b = false) {Q : Int32 → HS → Prop} {v0 : Nat} {v1 : Int32} {v2 : Int32} {v3 : Int32} {v4 : Int32} {v5 : Int32} {S0 S : HS} (h : P_X11_feed_0 Q v0 v1 v2 v3 v4 v5 S) (K : K9 b L S0 S) : P_X11_feed_0 (fun r T => Q r T ∧ K9 b L S0 T) v0 v1 v2 v3 v4 v5 S := by
  delta P_X11_feed_0 at h ⊢
  obtain ⟨c1, h⟩ := h
  refine ⟨c1, ?_⟩
  intro x3 e2
  have h := h x3 e2
  have K := k9_I K e2
  intro x5 e4
  have h := h x5 e4
  refine ⟨?_, ?_⟩
  · intro c6
    have h := h.1 c6
    exact ky_X11_feed_23 hU hL hb h K
  · intro c7
    have h := h.2 c7
    exact ⟨h, K⟩
theorem ky_X11_feed {b : Bool} {L : List (Nat × Nat)} (hU : ∀ q ∈ L, q ∈ nyT) (hL : ∀ q ∈ kyL_X11_feed, q ∈ L) (hb : False → b = false) {Q : Int32 → HS → Prop} {v0 : Nat} {v1 : Int32} {v2 : Int32} {v3 : Int32} {v4 : Int32} {v5 : Int32} {S : HS} (h : P_X11_feed v0 v1 v2 v3 v4 v5 Q S) : P_X11_feed v0 v1 v2 v3 v4 v5 (fun r T => Q r T ∧ K9 b L S T) S := ky_X11_feed_0 hU hL hb h (k9_rf b L S)
abbrev kyL_X11_refusesTwo : List (Nat × Nat) := []
set_option maxRecDepth 20000 in
set_option maxHeartbeats 1000000 in
theorem ky_X11_refusesTwo_0 {b : Bool} {L : List (Nat × Nat)} (hU : ∀ q ∈ L, q ∈ nyT) (hL : ∀ q ∈ kyL_X11_refusesTwo, q ∈ L) (hb : False → b = false) {Q : Int32 → HS → Prop} {v0 : Nat} {v1 : Int32} {v2 : Int32} {v3 : Int32} {v4 : Int32} {v5 : Int32} {v6 : Int32} {S0 S : HS} (h : P_X11_refusesTwo_0 Q v0 v1 v2 v3 v4 v5 v6 S) (K : K9 b L S0 S) : P_X11_refusesTwo_0 (fun r T => Q r T ∧ K9 b L S0 T) v0 v1 v2 v3 v4 v5 v6 S := by
  delta P_X11_refusesTwo_0 at h ⊢
  refine ⟨?_, ?_⟩
  · intro c1
    have h := h.1 c1
    exact ⟨h, K⟩
  · intro c2
    have h := h.2 c2
    obtain ⟨c3, h⟩ := h
    refine ⟨c3, ?_⟩
    refine cm_X11_isWalker (ky_X11_isWalker (b := b) hU (fun q hq => hL q ((by decide : ∀ q ∈ kyL_X11_isWalker, q ∈ kyL_X11_refusesTwo) q hq)) (fun z => z.elim) h) h (fun x4 x5 p8 h g6 g7 => ?_)
    have h := h g6 g7
    have K := k9_tr K p8.2
    refine ⟨?_, ?_⟩
    · intro c9
      have h := h.1 c9
      refine cm_X11_refuses (ky_X11_refuses (b := b) hU (fun q hq => hL q ((by decide : ∀ q ∈ kyL_X11_refuses, q ∈ kyL_X11_refusesTwo) q hq)) (fun z => z.elim) h) h (fun x10 x11 p13 h g12 => ?_)
      have h := h g12
      have K := k9_tr K p13.2
      refine ⟨?_, ?_⟩
      · intro c14
        have h := h.1 c14
        refine cm_X11_isSpeed (ky_X11_isSpeed (b := b) hU (fun q hq => hL q ((by decide : ∀ q ∈ kyL_X11_isSpeed, q ∈ kyL_X11_refusesTwo) q hq)) (fun z => z.elim) h) h (fun x15 x16 p19 h g17 g18 => ?_)
        have h := h g17 g18
        have K := k9_tr K p19.2
        refine ⟨?_, ?_⟩
        · intro c20
          have h := h.1 c20
          exact ⟨h, K⟩
        · intro c21
          have h := h.2 c21
          exact ⟨h, K⟩
      · intro c22
        have h := h.2 c22
        exact ⟨h, K⟩
    · intro c23
      have h := h.2 c23
      exact ⟨h, K⟩
theorem ky_X11_refusesTwo {b : Bool} {L : List (Nat × Nat)} (hU : ∀ q ∈ L, q ∈ nyT) (hL : ∀ q ∈ kyL_X11_refusesTwo, q ∈ L) (hb : False → b = false) {Q : Int32 → HS → Prop} {v0 : Nat} {v1 : Int32} {v2 : Int32} {v3 : Int32} {v4 : Int32} {v5 : Int32} {v6 : Int32} {S : HS} (h : P_X11_refusesTwo v0 v1 v2 v3 v4 v5 v6 Q S) : P_X11_refusesTwo v0 v1 v2 v3 v4 v5 v6 (fun r T => Q r T ∧ K9 b L S T) S := ky_X11_refusesTwo_0 hU hL hb h (k9_rf b L S)
abbrev kyL_X11_together : List (Nat × Nat) := []
set_option maxRecDepth 20000 in
set_option maxHeartbeats 1000000 in
theorem kyB_X11_together_6 {b : Bool} {L : List (Nat × Nat)} (hU : ∀ q ∈ L, q ∈ nyT) (hL : ∀ q ∈ kyL_X11_together, q ∈ L) (hb : False → b = false) {Q : Int64 → HS → Prop} {X6 X6_2 : Nat → Int32 → Int32 → Int32 → Int32 → Int32 → Int32 → Int64 → Int32 → HS → Prop} {v0 : Nat} {v1 : Int32} {v2 : Int32} {v3 : Int32} {v4 : Int32} {v5 : Int32} {v6 : Int32} {v7 : Int64} {v9 : Int32} {S0 S : HS} (h : B_X11_together_6 Q X6 v0 v1 v2 v3 v4 v5 v6 v7 v9 S) (K : K9 b L S0 S) (hX6 : ∀ (u0 : Nat) (u1 : Int32) (u2 : Int32) (u3 : Int32) (u4 : Int32) (u5 : Int32) (u6 : Int32) (u7 : Int64) (u8 : Int32) (u9 : HS), X6 u0 u1 u2 u3 u4 u5 u6 u7 u8 u9 → K9 b L S0 u9 → X6_2 u0 u1 u2 u3 u4 u5 u6 u7 u8 u9) : B_X11_together_6 (fun r T => Q r T ∧ K9 b L S0 T) X6_2 v0 v1 v2 v3 v4 v5 v6 v7 v9 S := by
  delta B_X11_together_6 at h ⊢
  refine ⟨?_, ?_⟩
  · intro c1
    have h := h.1 c1
    obtain ⟨c2, h⟩ := h
    refine ⟨c2, ?_⟩
    have o3 := c2
    obtain ⟨b4, e5, h⟩ := h
    refine ⟨b4, e5, ?_⟩
    obtain ⟨c6, h⟩ := h
    refine ⟨c6, ?_⟩
    have o7 := c6
    obtain ⟨b8, e9, h⟩ := h
    refine ⟨b8, e9, ?_⟩
    obtain ⟨c10, h⟩ := h
    refine ⟨c10, ?_⟩
    obtain ⟨c11, h⟩ := h
    refine ⟨c11, ?_⟩
    intro x13 e12
    have h := h x13 e12
    obtain ⟨b14, e15, h⟩ := h
    refine ⟨b14, e15, ?_⟩
    obtain ⟨c16, h⟩ := h
    refine ⟨c16, ?_⟩
    have o17 := c16
    obtain ⟨b18, e19, h⟩ := h
    refine ⟨b18, e19, ?_⟩
    obtain ⟨c20, h⟩ := h
    refine ⟨c20, ?_⟩
    obtain ⟨c21, h⟩ := h
    refine ⟨c21, ?_⟩
    intro x23 e22
    have h := h x23 e22
    obtain ⟨c24, h⟩ := h
    refine ⟨c24, ?_⟩
    intro x26 e25
    have h := h x26 e25
    exact ⟨h, K⟩
  · intro c27
    have h := h.2 c27
    obtain ⟨c28, h⟩ := h
    refine ⟨c28, ?_⟩
    have o29 := c28
    obtain ⟨b30, e31, h⟩ := h
    refine ⟨b30, e31, ?_⟩
    obtain ⟨c32, h⟩ := h
    refine ⟨c32, ?_⟩
    have o33 := c32
    obtain ⟨b34, e35, h⟩ := h
    refine ⟨b34, e35, ?_⟩
    obtain ⟨c36, h⟩ := h
    refine ⟨c36, ?_⟩
    obtain ⟨c37, h⟩ := h
    refine ⟨c37, ?_⟩
    intro x39 e38
    have h := h x39 e38
    refine cm_X11_inTime (ky_X11_inTime (b := b) hU (fun q hq => hL q ((by decide : ∀ q ∈ kyL_X11_inTime, q ∈ kyL_X11_together) q hq)) (fun z => z.elim) h) h (fun x40 x41 p43 h g42 => ?_)
    have h := h g42
    have K := k9_tr K p43.2
    have o29 := gr_ob p43.2.1 o29
    have o33 := gr_ob p43.2.1 o33
    intro x45 e44
    have h := h x45 e44
    obtain ⟨b46, e47, h⟩ := h
    refine ⟨b46, e47, ?_⟩
    obtain ⟨c48, h⟩ := h
    refine ⟨c48, ?_⟩
    have o49 := c48
    obtain ⟨b50, e51, h⟩ := h
    refine ⟨b50, e51, ?_⟩
    obtain ⟨c52, h⟩ := h
    refine ⟨c52, ?_⟩
    obtain ⟨c53, h⟩ := h
    refine ⟨c53, ?_⟩
    intro x55 e54
    have h := h x55 e54
    refine cm_X11_inTime (ky_X11_inTime (b := b) hU (fun q hq => hL q ((by decide : ∀ q ∈ kyL_X11_inTime, q ∈ kyL_X11_together) q hq)) (fun z => z.elim) h) h (fun x56 x57 p59 h g58 => ?_)
    have h := h g58
    have K := k9_tr K p59.2
    have o29 := gr_ob p59.2.1 o29
    have o33 := gr_ob p59.2.1 o33
    have o49 := gr_ob p59.2.1 o49
    intro x61 e60
    have h := h x61 e60
    intro x63 e62
    have h := h x63 e62
    exact hX6 _ _ _ _ _ _ _ _ _ _ h K
theorem ky_X11_together_6 {b : Bool} {L : List (Nat × Nat)} (hU : ∀ q ∈ L, q ∈ nyT) (hL : ∀ q ∈ kyL_X11_together, q ∈ L) (hb : False → b = false) {Q : Int64 → HS → Prop} {v0 : Nat} {v1 : Int32} {v2 : Int32} {v3 : Int32} {v4 : Int32} {v5 : Int32} {v6 : Int32} {v7 : Int64} {v9 : Int32} {S0 S : HS} (h : P_X11_together_6 Q v0 v1 v2 v3 v4 v5 v6 v7 v9 S) (K : K9 b L S0 S) : P_X11_together_6 (fun r T => Q r T ∧ K9 b L S0 T) v0 v1 v2 v3 v4 v5 v6 v7 v9 S := h (fun v0 v1 v2 v3 v4 v5 v6 v7 v9 S => K9 b L S0 S → P_X11_together_6 (fun r T => Q r T ∧ K9 b L S0 T) v0 v1 v2 v3 v4 v5 v6 v7 v9 S) (fun v0 v1 v2 v3 v4 v5 v6 v7 v9 S hB K => fd_X11_together_6 (kyB_X11_together_6 hU hL hb hB K (fun _ _ _ _ _ _ _ _ _ _ hx K => hx K))) K
set_option maxRecDepth 20000 in
set_option maxHeartbeats 1000000 in
theorem ky_X11_together_0 {b : Bool} {L : List (Nat × Nat)} (hU : ∀ q ∈ L, q ∈ nyT) (hL : ∀ q ∈ kyL_X11_together, q ∈ L) (hb : False → b = false) {Q : Int64 → HS → Prop} {v0 : Nat} {v1 : Int32} {v2 : Int32} {v3 : Int32} {v4 : Int32} {v5 : Int32} {v6 : Int32} {S0 S : HS} (h : P_X11_together_0 Q v0 v1 v2 v3 v4 v5 v6 S) (K : K9 b L S0 S) : P_X11_together_0 (fun r T => Q r T ∧ K9 b L S0 T) v0 v1 v2 v3 v4 v5 v6 S := by
  delta P_X11_together_0 at h ⊢
  exact ky_X11_together_6 hU hL hb h K
theorem ky_X11_together {b : Bool} {L : List (Nat × Nat)} (hU : ∀ q ∈ L, q ∈ nyT) (hL : ∀ q ∈ kyL_X11_together, q ∈ L) (hb : False → b = false) {Q : Int64 → HS → Prop} {v0 : Nat} {v1 : Int32} {v2 : Int32} {v3 : Int32} {v4 : Int32} {v5 : Int32} {v6 : Int32} {S : HS} (h : P_X11_together v0 v1 v2 v3 v4 v5 v6 Q S) : P_X11_together v0 v1 v2 v3 v4 v5 v6 (fun r T => Q r T ∧ K9 b L S T) S := ky_X11_together_0 hU hL hb h (k9_rf b L S)
abbrev kyL_X11_first : List (Nat × Nat) := []
set_option maxRecDepth 20000 in
set_option maxHeartbeats 1000000 in
theorem ky_X11_first_89 {b : Bool} {L : List (Nat × Nat)} (hU : ∀ q ∈ L, q ∈ nyT) (hL : ∀ q ∈ kyL_X11_first, q ∈ L) (hb : False → b = false) {Q : Int32 → HS → Prop} {s0 : Nat} {s1 : Int32} {S0 S : HS} (h : P_X11_first_89 Q s0 s1 S) (K : K9 b L S0 S) : P_X11_first_89 (fun r T => Q r T ∧ K9 b L S0 T) s0 s1 S := by
  delta P_X11_first_89 at h ⊢
  obtain ⟨c1, h⟩ := h
  refine ⟨c1, ?_⟩
  refine cm_X11_good (ky_X11_good (b := b) hU (fun q hq => hL q ((by decide : ∀ q ∈ kyL_X11_good, q ∈ kyL_X11_first) q hq)) (fun z => z.elim) h) h (fun x2 x3 p5 h g4 => ?_)
  have h := h g4
  have K := k9_tr K p5.2
  exact ⟨h, K⟩
set_option maxRecDepth 20000 in
set_option maxHeartbeats 1000000 in
theorem ky_X11_first_0 {b : Bool} {L : List (Nat × Nat)} (hU : ∀ q ∈ L, q ∈ nyT) (hL : ∀ q ∈ kyL_X11_first, q ∈ L) (hb : False → b = false) {Q : Int32 → HS → Prop} {v0 : Nat} {v1 : Int32} {v2 : Int32} {v3 : Int32} {v4 : Int32} {v5 : Int32} {v6 : Int32} {S0 S : HS} (h : P_X11_first_0 Q v0 v1 v2 v3 v4 v5 v6 S) (K : K9 b L S0 S) : P_X11_first_0 (fun r T => Q r T ∧ K9 b L S0 T) v0 v1 v2 v3 v4 v5 v6 S := by
  delta P_X11_first_0 at h ⊢
  obtain ⟨c1, h⟩ := h
  refine ⟨c1, ?_⟩
  intro x3 e2
  have h := h x3 e2
  have K := k9_I K e2
  refine cm_X11_refusesTwo (ky_X11_refusesTwo (b := b) hU (fun q hq => hL q ((by decide : ∀ q ∈ kyL_X11_refusesTwo, q ∈ kyL_X11_first) q hq)) (fun z => z.elim) h) h (fun x4 x5 p7 h g6 => ?_)
  have h := h g6
  have K := k9_tr K p7.2
  refine ⟨?_, ?_⟩
  · intro c8
    have h := h.1 c8
    refine cm_X11_together (ky_X11_together (b := b) hU (fun q hq => hL q ((by decide : ∀ q ∈ kyL_X11_together, q ∈ kyL_X11_first) q hq)) (fun z => z.elim) h) h (fun x9 x10 p12 h g11 => ?_)
    have h := h g11
    have K := k9_tr K p12.2
    refine cm_X11_together (ky_X11_together (b := b) hU (fun q hq => hL q ((by decide : ∀ q ∈ kyL_X11_together, q ∈ kyL_X11_first) q hq)) (fun z => z.elim) h) h (fun x13 x14 p16 h g15 => ?_)
    have h := h g15
    have K := k9_tr K p16.2
    refine ⟨?_, ?_⟩
    · intro c17
      have h := h.1 c17
      refine ⟨?_, ?_⟩
      · intro c18
        have h := h.1 c18
        exact ky_X11_first_89 hU hL hb h K
      · intro c19
        have h := h.2 c19
        exact ky_X11_first_89 hU hL hb h K
    · intro c20
      have h := h.2 c20
      exact ky_X11_first_89 hU hL hb h K
  · intro c21
    have h := h.2 c21
    refine cm_X11_refused (ky_X11_refused (b := b) hU (fun q hq => hL q ((by decide : ∀ q ∈ kyL_X11_refused, q ∈ kyL_X11_first) q hq)) (fun z => z.elim) h) h (fun x22 x23 p25 h g24 => ?_)
    have h := h g24
    have K := k9_tr K p25.2
    exact ⟨h, K⟩
theorem ky_X11_first {b : Bool} {L : List (Nat × Nat)} (hU : ∀ q ∈ L, q ∈ nyT) (hL : ∀ q ∈ kyL_X11_first, q ∈ L) (hb : False → b = false) {Q : Int32 → HS → Prop} {v0 : Nat} {v1 : Int32} {v2 : Int32} {v3 : Int32} {v4 : Int32} {v5 : Int32} {v6 : Int32} {S : HS} (h : P_X11_first v0 v1 v2 v3 v4 v5 v6 Q S) : P_X11_first v0 v1 v2 v3 v4 v5 v6 (fun r T => Q r T ∧ K9 b L S T) S := ky_X11_first_0 hU hL hb h (k9_rf b L S)
abbrev kyL_X11_fitOf : List (Nat × Nat) := []
set_option maxRecDepth 20000 in
set_option maxHeartbeats 1000000 in
theorem ky_X11_fitOf_137 {b : Bool} {L : List (Nat × Nat)} (hU : ∀ q ∈ L, q ∈ nyT) (hL : ∀ q ∈ kyL_X11_fitOf, q ∈ L) (hb : False → b = false) {Q : Int32 → HS → Prop} {X16 X16_2 : Nat → Int32 → Int32 → Int32 → Int32 → Int32 → HS → Prop} {X31 X31_2 : Nat → Int32 → Int32 → Int32 → Int32 → Int32 → Int32 → HS → Prop} {X40 X40_2 : Nat → Int32 → Int32 → Int32 → Int32 → Int32 → Int32 → Int32 → HS → Prop} {X63 X63_2 : Nat → Int32 → Int32 → Int32 → Int32 → Int32 → Int32 → Int32 → Int32 → HS → Prop} {X83 X83_2 : Nat → Int32 → Int32 → Int32 → Int32 → Int32 → Int32 → Int32 → Int32 → Int32 → Int32 → HS → Prop} {v0 : Nat} {v1 : Int32} {v2 : Int32} {v3 : Int32} {v4 : Int32} {v5 : Int32} {v6 : Int32} {v7 : Int32} {v8 : Int32} {v10 : Int32} {s0 : Int32} {S0 S : HS} (h : P_X11_fitOf_137 Q X16 X31 X40 X63 X83 v0 v1 v2 v3 v4 v5 v6 v7 v8 v10 s0 S) (K : K9 b L S0 S) (hX16 : ∀ (u0 : Nat) (u1 : Int32) (u2 : Int32) (u3 : Int32) (u4 : Int32) (u5 : Int32) (u6 : HS), X16 u0 u1 u2 u3 u4 u5 u6 → K9 b L S0 u6 → X16_2 u0 u1 u2 u3 u4 u5 u6) (hX31 : ∀ (u0 : Nat) (u1 : Int32) (u2 : Int32) (u3 : Int32) (u4 : Int32) (u5 : Int32) (u6 : Int32) (u7 : HS), X31 u0 u1 u2 u3 u4 u5 u6 u7 → K9 b L S0 u7 → X31_2 u0 u1 u2 u3 u4 u5 u6 u7) (hX40 : ∀ (u0 : Nat) (u1 : Int32) (u2 : Int32) (u3 : Int32) (u4 : Int32) (u5 : Int32) (u6 : Int32) (u7 : Int32) (u8 : HS), X40 u0 u1 u2 u3 u4 u5 u6 u7 u8 → K9 b L S0 u8 → X40_2 u0 u1 u2 u3 u4 u5 u6 u7 u8) (hX63 : ∀ (u0 : Nat) (u1 : Int32) (u2 : Int32) (u3 : Int32) (u4 : Int32) (u5 : Int32) (u6 : Int32) (u7 : Int32) (u8 : Int32) (u9 : HS), X63 u0 u1 u2 u3 u4 u5 u6 u7 u8 u9 → K9 b L S0 u9 → X63_2 u0 u1 u2 u3 u4 u5 u6 u7 u8 u9) (hX83 : ∀ (u0 : Nat) (u1 : Int32) (u2 : Int32) (u3 : Int32) (u4 : Int32) (u5 : Int32) (u6 : Int32) (u7 : Int32) (u8 : Int32) (u9 : Int32) (u10 : Int32) (u11 : HS), X83 u0 u1 u2 u3 u4 u5 u6 u7 u8 u9 u10 u11 → K9 b L S0 u11 → X83_2 u0 u1 u2 u3 u4 u5 u6 u7 u8 u9 u10 u11) : P_X11_fitOf_137 (fun r T => Q r T ∧ K9 b L S0 T) X16_2 X31_2 X40_2 X63_2 X83_2 v0 v1 v2 v3 v4 v5 v6 v7 v8 v10 s0 S := by
  delta P_X11_fitOf_137 at h ⊢
  intro x2 e1
  have h := h x2 e1
  exact hX83 _ _ _ _ _ _ _ _ _ _ _ _ h K
set_option maxRecDepth 20000 in
set_option maxHeartbeats 1000000 in
theorem ky_X11_fitOf_136 {b : Bool} {L : List (Nat × Nat)} (hU : ∀ q ∈ L, q ∈ nyT) (hL : ∀ q ∈ kyL_X11_fitOf, q ∈ L) (hb : False → b = false) {Q : Int32 → HS → Prop} {X16 X16_2 : Nat → Int32 → Int32 → Int32 → Int32 → Int32 → HS → Prop} {X31 X31_2 : Nat → Int32 → Int32 → Int32 → Int32 → Int32 → Int32 → HS → Prop} {X40 X40_2 : Nat → Int32 → Int32 → Int32 → Int32 → Int32 → Int32 → Int32 → HS → Prop} {X63 X63_2 : Nat → Int32 → Int32 → Int32 → Int32 → Int32 → Int32 → Int32 → Int32 → HS → Prop} {X83 X83_2 : Nat → Int32 → Int32 → Int32 → Int32 → Int32 → Int32 → Int32 → Int32 → Int32 → Int32 → HS → Prop} {v0 : Nat} {v1 : Int32} {v2 : Int32} {v3 : Int32} {v4 : Int32} {v5 : Int32} {v6 : Int32} {v7 : Int32} {v8 : Int32} {v10 : Int32} {S0 S : HS} (h : P_X11_fitOf_136 Q X16 X31 X40 X63 X83 v0 v1 v2 v3 v4 v5 v6 v7 v8 v10 S) (K : K9 b L S0 S) (hX16 : ∀ (u0 : Nat) (u1 : Int32) (u2 : Int32) (u3 : Int32) (u4 : Int32) (u5 : Int32) (u6 : HS), X16 u0 u1 u2 u3 u4 u5 u6 → K9 b L S0 u6 → X16_2 u0 u1 u2 u3 u4 u5 u6) (hX31 : ∀ (u0 : Nat) (u1 : Int32) (u2 : Int32) (u3 : Int32) (u4 : Int32) (u5 : Int32) (u6 : Int32) (u7 : HS), X31 u0 u1 u2 u3 u4 u5 u6 u7 → K9 b L S0 u7 → X31_2 u0 u1 u2 u3 u4 u5 u6 u7) (hX40 : ∀ (u0 : Nat) (u1 : Int32) (u2 : Int32) (u3 : Int32) (u4 : Int32) (u5 : Int32) (u6 : Int32) (u7 : Int32) (u8 : HS), X40 u0 u1 u2 u3 u4 u5 u6 u7 u8 → K9 b L S0 u8 → X40_2 u0 u1 u2 u3 u4 u5 u6 u7 u8) (hX63 : ∀ (u0 : Nat) (u1 : Int32) (u2 : Int32) (u3 : Int32) (u4 : Int32) (u5 : Int32) (u6 : Int32) (u7 : Int32) (u8 : Int32) (u9 : HS), X63 u0 u1 u2 u3 u4 u5 u6 u7 u8 u9 → K9 b L S0 u9 → X63_2 u0 u1 u2 u3 u4 u5 u6 u7 u8 u9) (hX83 : ∀ (u0 : Nat) (u1 : Int32) (u2 : Int32) (u3 : Int32) (u4 : Int32) (u5 : Int32) (u6 : Int32) (u7 : Int32) (u8 : Int32) (u9 : Int32) (u10 : Int32) (u11 : HS), X83 u0 u1 u2 u3 u4 u5 u6 u7 u8 u9 u10 u11 → K9 b L S0 u11 → X83_2 u0 u1 u2 u3 u4 u5 u6 u7 u8 u9 u10 u11) : P_X11_fitOf_136 (fun r T => Q r T ∧ K9 b L S0 T) X16_2 X31_2 X40_2 X63_2 X83_2 v0 v1 v2 v3 v4 v5 v6 v7 v8 v10 S := by
  delta P_X11_fitOf_136 at h ⊢
  exact ky_X11_fitOf_137 hU hL hb h K hX16 hX31 hX40 hX63 hX83
set_option maxRecDepth 20000 in
set_option maxHeartbeats 1000000 in
theorem ky_X11_fitOf_184 {b : Bool} {L : List (Nat × Nat)} (hU : ∀ q ∈ L, q ∈ nyT) (hL : ∀ q ∈ kyL_X11_fitOf, q ∈ L) (hb : False → b = false) {Q : Int32 → HS → Prop} {X16 X16_2 : Nat → Int32 → Int32 → Int32 → Int32 → Int32 → HS → Prop} {X31 X31_2 : Nat → Int32 → Int32 → Int32 → Int32 → Int32 → Int32 → HS → Prop} {X40 X40_2 : Nat → Int32 → Int32 → Int32 → Int32 → Int32 → Int32 → Int32 → HS → Prop} {X63 X63_2 : Nat → Int32 → Int32 → Int32 → Int32 → Int32 → Int32 → Int32 → Int32 → HS → Prop} {v0 : Nat} {v1 : Int32} {v2 : Int32} {v3 : Int32} {v4 : Int32} {v5 : Int32} {v6 : Int32} {v7 : Int32} {v8 : Int32} {S0 S : HS} (h : P_X11_fitOf_184 Q X16 X31 X40 X63 v0 v1 v2 v3 v4 v5 v6 v7 v8 S) (K : K9 b L S0 S) (hX16 : ∀ (u0 : Nat) (u1 : Int32) (u2 : Int32) (u3 : Int32) (u4 : Int32) (u5 : Int32) (u6 : HS), X16 u0 u1 u2 u3 u4 u5 u6 → K9 b L S0 u6 → X16_2 u0 u1 u2 u3 u4 u5 u6) (hX31 : ∀ (u0 : Nat) (u1 : Int32) (u2 : Int32) (u3 : Int32) (u4 : Int32) (u5 : Int32) (u6 : Int32) (u7 : HS), X31 u0 u1 u2 u3 u4 u5 u6 u7 → K9 b L S0 u7 → X31_2 u0 u1 u2 u3 u4 u5 u6 u7) (hX40 : ∀ (u0 : Nat) (u1 : Int32) (u2 : Int32) (u3 : Int32) (u4 : Int32) (u5 : Int32) (u6 : Int32) (u7 : Int32) (u8 : HS), X40 u0 u1 u2 u3 u4 u5 u6 u7 u8 → K9 b L S0 u8 → X40_2 u0 u1 u2 u3 u4 u5 u6 u7 u8) (hX63 : ∀ (u0 : Nat) (u1 : Int32) (u2 : Int32) (u3 : Int32) (u4 : Int32) (u5 : Int32) (u6 : Int32) (u7 : Int32) (u8 : Int32) (u9 : HS), X63 u0 u1 u2 u3 u4 u5 u6 u7 u8 u9 → K9 b L S0 u9 → X63_2 u0 u1 u2 u3 u4 u5 u6 u7 u8 u9) : P_X11_fitOf_184 (fun r T => Q r T ∧ K9 b L S0 T) X16_2 X31_2 X40_2 X63_2 v0 v1 v2 v3 v4 v5 v6 v7 v8 S := by
  delta P_X11_fitOf_184 at h ⊢
  intro x2 e1
  have h := h x2 e1
  exact hX63 _ _ _ _ _ _ _ _ _ _ h K
set_option maxRecDepth 20000 in
set_option maxHeartbeats 1000000 in
theorem kyB_X11_fitOf_83 {b : Bool} {L : List (Nat × Nat)} (hU : ∀ q ∈ L, q ∈ nyT) (hL : ∀ q ∈ kyL_X11_fitOf, q ∈ L) (hb : False → b = false) {Q : Int32 → HS → Prop} {X16 X16_2 : Nat → Int32 → Int32 → Int32 → Int32 → Int32 → HS → Prop} {X31 X31_2 : Nat → Int32 → Int32 → Int32 → Int32 → Int32 → Int32 → HS → Prop} {X40 X40_2 : Nat → Int32 → Int32 → Int32 → Int32 → Int32 → Int32 → Int32 → HS → Prop} {X63 X63_2 : Nat → Int32 → Int32 → Int32 → Int32 → Int32 → Int32 → Int32 → Int32 → HS → Prop} {X83 X83_2 : Nat → Int32 → Int32 → Int32 → Int32 → Int32 → Int32 → Int32 → Int32 → Int32 → Int32 → HS → Prop} {v0 : Nat} {v1 : Int32} {v2 : Int32} {v3 : Int32} {v4 : Int32} {v5 : Int32} {v6 : Int32} {v7 : Int32} {v8 : Int32} {v9 : Int32} {v10 : Int32} {S0 S : HS} (h : B_X11_fitOf_83 Q X16 X31 X40 X63 X83 v0 v1 v2 v3 v4 v5 v6 v7 v8 v9 v10 S) (K : K9 b L S0 S) (hX16 : ∀ (u0 : Nat) (u1 : Int32) (u2 : Int32) (u3 : Int32) (u4 : Int32) (u5 : Int32) (u6 : HS), X16 u0 u1 u2 u3 u4 u5 u6 → K9 b L S0 u6 → X16_2 u0 u1 u2 u3 u4 u5 u6) (hX31 : ∀ (u0 : Nat) (u1 : Int32) (u2 : Int32) (u3 : Int32) (u4 : Int32) (u5 : Int32) (u6 : Int32) (u7 : HS), X31 u0 u1 u2 u3 u4 u5 u6 u7 → K9 b L S0 u7 → X31_2 u0 u1 u2 u3 u4 u5 u6 u7) (hX40 : ∀ (u0 : Nat) (u1 : Int32) (u2 : Int32) (u3 : Int32) (u4 : Int32) (u5 : Int32) (u6 : Int32) (u7 : Int32) (u8 : HS), X40 u0 u1 u2 u3 u4 u5 u6 u7 u8 → K9 b L S0 u8 → X40_2 u0 u1 u2 u3 u4 u5 u6 u7 u8) (hX63 : ∀ (u0 : Nat) (u1 : Int32) (u2 : Int32) (u3 : Int32) (u4 : Int32) (u5 : Int32) (u6 : Int32) (u7 : Int32) (u8 : Int32) (u9 : HS), X63 u0 u1 u2 u3 u4 u5 u6 u7 u8 u9 → K9 b L S0 u9 → X63_2 u0 u1 u2 u3 u4 u5 u6 u7 u8 u9) (hX83 : ∀ (u0 : Nat) (u1 : Int32) (u2 : Int32) (u3 : Int32) (u4 : Int32) (u5 : Int32) (u6 : Int32) (u7 : Int32) (u8 : Int32) (u9 : Int32) (u10 : Int32) (u11 : HS), X83 u0 u1 u2 u3 u4 u5 u6 u7 u8 u9 u10 u11 → K9 b L S0 u11 → X83_2 u0 u1 u2 u3 u4 u5 u6 u7 u8 u9 u10 u11) : B_X11_fitOf_83 (fun r T => Q r T ∧ K9 b L S0 T) X16_2 X31_2 X40_2 X63_2 X83_2 v0 v1 v2 v3 v4 v5 v6 v7 v8 v9 v10 S := by
  delta B_X11_fitOf_83 at h ⊢
  refine ⟨?_, ?_⟩
  · intro c1
    have h := h.1 c1
    refine ⟨?_, ?_⟩
    · intro c2
      have h := h.1 c2
      refine ⟨?_, ?_⟩
      · intro c3
        have h := h.1 c3
        intro x5 e4
        have h := h x5 e4
        exact ky_X11_fitOf_184 hU hL hb h K hX16 hX31 hX40 hX63
      · intro c6
        have h := h.2 c6
        exact ⟨h, K⟩
    · intro c7
      have h := h.2 c7
      exact ky_X11_fitOf_184 hU hL hb h K hX16 hX31 hX40 hX63
  · intro c8
    have h := h.2 c8
    refine ⟨?_, ?_⟩
    · intro c9
      have h := h.1 c9
      exact ky_X11_fitOf_136 hU hL hb h K hX16 hX31 hX40 hX63 hX83
    · intro c10
      have h := h.2 c10
      obtain ⟨c11, h⟩ := h
      refine ⟨c11, ?_⟩
      have o12 := c11
      refine cm_X11_partsOf (ky_X11_partsOf (b := b) hU (fun q hq => hL q ((by decide : ∀ q ∈ kyL_X11_partsOf, q ∈ kyL_X11_fitOf) q hq)) (fun z => z.elim) h) h (fun x13 x14 p16 h g15 => ?_)
      have h := h g15
      have K := k9_tr K p16.2
      have o12 := gr_ob p16.2.1 o12
      obtain ⟨b17, e18, h⟩ := h
      refine ⟨b17, e18, ?_⟩
      obtain ⟨c19, h⟩ := h
      refine ⟨c19, ?_⟩
      have o20 := c19
      obtain ⟨b21, e22, h⟩ := h
      refine ⟨b21, e22, ?_⟩
      obtain ⟨c23, h⟩ := h
      refine ⟨c23, ?_⟩
      intro x25 e24
      have h := h x25 e24
      obtain ⟨c26, h⟩ := h
      refine ⟨c26, ?_⟩
      intro x28 e27
      have h := h x28 e27
      refine ⟨?_, ?_⟩
      · intro c29
        have h := h.1 c29
        exact ky_X11_fitOf_136 hU hL hb h K hX16 hX31 hX40 hX63 hX83
      · intro c30
        have h := h.2 c30
        exact ky_X11_fitOf_137 hU hL hb h K hX16 hX31 hX40 hX63 hX83
theorem ky_X11_fitOf_83 {b : Bool} {L : List (Nat × Nat)} (hU : ∀ q ∈ L, q ∈ nyT) (hL : ∀ q ∈ kyL_X11_fitOf, q ∈ L) (hb : False → b = false) {Q : Int32 → HS → Prop} {X16 X16_2 : Nat → Int32 → Int32 → Int32 → Int32 → Int32 → HS → Prop} {X31 X31_2 : Nat → Int32 → Int32 → Int32 → Int32 → Int32 → Int32 → HS → Prop} {X40 X40_2 : Nat → Int32 → Int32 → Int32 → Int32 → Int32 → Int32 → Int32 → HS → Prop} {X63 X63_2 : Nat → Int32 → Int32 → Int32 → Int32 → Int32 → Int32 → Int32 → Int32 → HS → Prop} {v0 : Nat} {v1 : Int32} {v2 : Int32} {v3 : Int32} {v4 : Int32} {v5 : Int32} {v6 : Int32} {v7 : Int32} {v8 : Int32} {v9 : Int32} {v10 : Int32} {S0 S : HS} (h : P_X11_fitOf_83 Q X16 X31 X40 X63 v0 v1 v2 v3 v4 v5 v6 v7 v8 v9 v10 S) (K : K9 b L S0 S) (hX16 : ∀ (u0 : Nat) (u1 : Int32) (u2 : Int32) (u3 : Int32) (u4 : Int32) (u5 : Int32) (u6 : HS), X16 u0 u1 u2 u3 u4 u5 u6 → K9 b L S0 u6 → X16_2 u0 u1 u2 u3 u4 u5 u6) (hX31 : ∀ (u0 : Nat) (u1 : Int32) (u2 : Int32) (u3 : Int32) (u4 : Int32) (u5 : Int32) (u6 : Int32) (u7 : HS), X31 u0 u1 u2 u3 u4 u5 u6 u7 → K9 b L S0 u7 → X31_2 u0 u1 u2 u3 u4 u5 u6 u7) (hX40 : ∀ (u0 : Nat) (u1 : Int32) (u2 : Int32) (u3 : Int32) (u4 : Int32) (u5 : Int32) (u6 : Int32) (u7 : Int32) (u8 : HS), X40 u0 u1 u2 u3 u4 u5 u6 u7 u8 → K9 b L S0 u8 → X40_2 u0 u1 u2 u3 u4 u5 u6 u7 u8) (hX63 : ∀ (u0 : Nat) (u1 : Int32) (u2 : Int32) (u3 : Int32) (u4 : Int32) (u5 : Int32) (u6 : Int32) (u7 : Int32) (u8 : Int32) (u9 : HS), X63 u0 u1 u2 u3 u4 u5 u6 u7 u8 u9 → K9 b L S0 u9 → X63_2 u0 u1 u2 u3 u4 u5 u6 u7 u8 u9) : P_X11_fitOf_83 (fun r T => Q r T ∧ K9 b L S0 T) X16_2 X31_2 X40_2 X63_2 v0 v1 v2 v3 v4 v5 v6 v7 v8 v9 v10 S := h (fun v0 v1 v2 v3 v4 v5 v6 v7 v8 v9 v10 S => K9 b L S0 S → P_X11_fitOf_83 (fun r T => Q r T ∧ K9 b L S0 T) X16_2 X31_2 X40_2 X63_2 v0 v1 v2 v3 v4 v5 v6 v7 v8 v9 v10 S) (fun v0 v1 v2 v3 v4 v5 v6 v7 v8 v9 v10 S hB K => fd_X11_fitOf_83 (kyB_X11_fitOf_83 hU hL hb hB K hX16 hX31 hX40 hX63 (fun _ _ _ _ _ _ _ _ _ _ _ _ hx K => hx K))) K
set_option maxRecDepth 20000 in
set_option maxHeartbeats 1000000 in
theorem kyB_X11_fitOf_63 {b : Bool} {L : List (Nat × Nat)} (hU : ∀ q ∈ L, q ∈ nyT) (hL : ∀ q ∈ kyL_X11_fitOf, q ∈ L) (hb : False → b = false) {Q : Int32 → HS → Prop} {X16 X16_2 : Nat → Int32 → Int32 → Int32 → Int32 → Int32 → HS → Prop} {X31 X31_2 : Nat → Int32 → Int32 → Int32 → Int32 → Int32 → Int32 → HS → Prop} {X40 X40_2 : Nat → Int32 → Int32 → Int32 → Int32 → Int32 → Int32 → Int32 → HS → Prop} {X63 X63_2 : Nat → Int32 → Int32 → Int32 → Int32 → Int32 → Int32 → Int32 → Int32 → HS → Prop} {v0 : Nat} {v1 : Int32} {v2 : Int32} {v3 : Int32} {v4 : Int32} {v5 : Int32} {v6 : Int32} {v7 : Int32} {v8 : Int32} {S0 S : HS} (h : B_X11_fitOf_63 Q X16 X31 X40 X63 v0 v1 v2 v3 v4 v5 v6 v7 v8 S) (K : K9 b L S0 S) (hX16 : ∀ (u0 : Nat) (u1 : Int32) (u2 : Int32) (u3 : Int32) (u4 : Int32) (u5 : Int32) (u6 : HS), X16 u0 u1 u2 u3 u4 u5 u6 → K9 b L S0 u6 → X16_2 u0 u1 u2 u3 u4 u5 u6) (hX31 : ∀ (u0 : Nat) (u1 : Int32) (u2 : Int32) (u3 : Int32) (u4 : Int32) (u5 : Int32) (u6 : Int32) (u7 : HS), X31 u0 u1 u2 u3 u4 u5 u6 u7 → K9 b L S0 u7 → X31_2 u0 u1 u2 u3 u4 u5 u6 u7) (hX40 : ∀ (u0 : Nat) (u1 : Int32) (u2 : Int32) (u3 : Int32) (u4 : Int32) (u5 : Int32) (u6 : Int32) (u7 : Int32) (u8 : HS), X40 u0 u1 u2 u3 u4 u5 u6 u7 u8 → K9 b L S0 u8 → X40_2 u0 u1 u2 u3 u4 u5 u6 u7 u8) (hX63 : ∀ (u0 : Nat) (u1 : Int32) (u2 : Int32) (u3 : Int32) (u4 : Int32) (u5 : Int32) (u6 : Int32) (u7 : Int32) (u8 : Int32) (u9 : HS), X63 u0 u1 u2 u3 u4 u5 u6 u7 u8 u9 → K9 b L S0 u9 → X63_2 u0 u1 u2 u3 u4 u5 u6 u7 u8 u9) : B_X11_fitOf_63 (fun r T => Q r T ∧ K9 b L S0 T) X16_2 X31_2 X40_2 X63_2 v0 v1 v2 v3 v4 v5 v6 v7 v8 S := by
  delta B_X11_fitOf_63 at h ⊢
  obtain ⟨c1, h⟩ := h
  refine ⟨c1, ?_⟩
  have o2 := c1
  obtain ⟨b3, e4, h⟩ := h
  refine ⟨b3, e4, ?_⟩
  obtain ⟨c5, h⟩ := h
  refine ⟨c5, ?_⟩
  have o6 := c5
  obtain ⟨b7, e8, h⟩ := h
  refine ⟨b7, e8, ?_⟩
  obtain ⟨c9, h⟩ := h
  refine ⟨c9, ?_⟩
  obtain ⟨c10, h⟩ := h
  refine ⟨c10, ?_⟩
  intro x12 e11
  have h := h x12 e11
  refine ⟨?_, ?_⟩
  · intro c13
    have h := h.1 c13
    intro x15 e14
    have h := h x15 e14
    exact hX40 _ _ _ _ _ _ _ _ _ h K
  · intro c16
    have h := h.2 c16
    exact ky_X11_fitOf_83 hU hL hb h K hX16 hX31 hX40 hX63
theorem ky_X11_fitOf_63 {b : Bool} {L : List (Nat × Nat)} (hU : ∀ q ∈ L, q ∈ nyT) (hL : ∀ q ∈ kyL_X11_fitOf, q ∈ L) (hb : False → b = false) {Q : Int32 → HS → Prop} {X16 X16_2 : Nat → Int32 → Int32 → Int32 → Int32 → Int32 → HS → Prop} {X31 X31_2 : Nat → Int32 → Int32 → Int32 → Int32 → Int32 → Int32 → HS → Prop} {X40 X40_2 : Nat → Int32 → Int32 → Int32 → Int32 → Int32 → Int32 → Int32 → HS → Prop} {v0 : Nat} {v1 : Int32} {v2 : Int32} {v3 : Int32} {v4 : Int32} {v5 : Int32} {v6 : Int32} {v7 : Int32} {v8 : Int32} {S0 S : HS} (h : P_X11_fitOf_63 Q X16 X31 X40 v0 v1 v2 v3 v4 v5 v6 v7 v8 S) (K : K9 b L S0 S) (hX16 : ∀ (u0 : Nat) (u1 : Int32) (u2 : Int32) (u3 : Int32) (u4 : Int32) (u5 : Int32) (u6 : HS), X16 u0 u1 u2 u3 u4 u5 u6 → K9 b L S0 u6 → X16_2 u0 u1 u2 u3 u4 u5 u6) (hX31 : ∀ (u0 : Nat) (u1 : Int32) (u2 : Int32) (u3 : Int32) (u4 : Int32) (u5 : Int32) (u6 : Int32) (u7 : HS), X31 u0 u1 u2 u3 u4 u5 u6 u7 → K9 b L S0 u7 → X31_2 u0 u1 u2 u3 u4 u5 u6 u7) (hX40 : ∀ (u0 : Nat) (u1 : Int32) (u2 : Int32) (u3 : Int32) (u4 : Int32) (u5 : Int32) (u6 : Int32) (u7 : Int32) (u8 : HS), X40 u0 u1 u2 u3 u4 u5 u6 u7 u8 → K9 b L S0 u8 → X40_2 u0 u1 u2 u3 u4 u5 u6 u7 u8) : P_X11_fitOf_63 (fun r T => Q r T ∧ K9 b L S0 T) X16_2 X31_2 X40_2 v0 v1 v2 v3 v4 v5 v6 v7 v8 S := h (fun v0 v1 v2 v3 v4 v5 v6 v7 v8 S => K9 b L S0 S → P_X11_fitOf_63 (fun r T => Q r T ∧ K9 b L S0 T) X16_2 X31_2 X40_2 v0 v1 v2 v3 v4 v5 v6 v7 v8 S) (fun v0 v1 v2 v3 v4 v5 v6 v7 v8 S hB K => fd_X11_fitOf_63 (kyB_X11_fitOf_63 hU hL hb hB K hX16 hX31 hX40 (fun _ _ _ _ _ _ _ _ _ _ hx K => hx K))) K
set_option maxRecDepth 20000 in
set_option maxHeartbeats 1000000 in
theorem kyB_X11_fitOf_40 {b : Bool} {L : List (Nat × Nat)} (hU : ∀ q ∈ L, q ∈ nyT) (hL : ∀ q ∈ kyL_X11_fitOf, q ∈ L) (hb : False → b = false) {Q : Int32 → HS → Prop} {X16 X16_2 : Nat → Int32 → Int32 → Int32 → Int32 → Int32 → HS → Prop} {X31 X31_2 : Nat → Int32 → Int32 → Int32 → Int32 → Int32 → Int32 → HS → Prop} {X40 X40_2 : Nat → Int32 → Int32 → Int32 → Int32 → Int32 → Int32 → Int32 → HS → Prop} {v0 : Nat} {v1 : Int32} {v2 : Int32} {v3 : Int32} {v4 : Int32} {v5 : Int32} {v6 : Int32} {v7 : Int32} {S0 S : HS} (h : B_X11_fitOf_40 Q X16 X31 X40 v0 v1 v2 v3 v4 v5 v6 v7 S) (K : K9 b L S0 S) (hX16 : ∀ (u0 : Nat) (u1 : Int32) (u2 : Int32) (u3 : Int32) (u4 : Int32) (u5 : Int32) (u6 : HS), X16 u0 u1 u2 u3 u4 u5 u6 → K9 b L S0 u6 → X16_2 u0 u1 u2 u3 u4 u5 u6) (hX31 : ∀ (u0 : Nat) (u1 : Int32) (u2 : Int32) (u3 : Int32) (u4 : Int32) (u5 : Int32) (u6 : Int32) (u7 : HS), X31 u0 u1 u2 u3 u4 u5 u6 u7 → K9 b L S0 u7 → X31_2 u0 u1 u2 u3 u4 u5 u6 u7) (hX40 : ∀ (u0 : Nat) (u1 : Int32) (u2 : Int32) (u3 : Int32) (u4 : Int32) (u5 : Int32) (u6 : Int32) (u7 : Int32) (u8 : HS), X40 u0 u1 u2 u3 u4 u5 u6 u7 u8 → K9 b L S0 u8 → X40_2 u0 u1 u2 u3 u4 u5 u6 u7 u8) : B_X11_fitOf_40 (fun r T => Q r T ∧ K9 b L S0 T) X16_2 X31_2 X40_2 v0 v1 v2 v3 v4 v5 v6 v7 S := by
  delta B_X11_fitOf_40 at h ⊢
  obtain ⟨c1, h⟩ := h
  refine ⟨c1, ?_⟩
  have o2 := c1
  obtain ⟨b3, e4, h⟩ := h
  refine ⟨b3, e4, ?_⟩
  obtain ⟨c5, h⟩ := h
  refine ⟨c5, ?_⟩
  intro x7 e6
  have h := h x7 e6
  refine ⟨?_, ?_⟩
  · intro c8
    have h := h.1 c8
    intro x10 e9
    have h := h x10 e9
    exact hX31 _ _ _ _ _ _ _ _ h K
  · intro c11
    have h := h.2 c11
    obtain ⟨b12, e13, h⟩ := h
    refine ⟨b12, e13, ?_⟩
    obtain ⟨c14, h⟩ := h
    refine ⟨c14, ?_⟩
    have o15 := c14
    obtain ⟨b16, e17, h⟩ := h
    refine ⟨b16, e17, ?_⟩
    obtain ⟨c18, h⟩ := h
    refine ⟨c18, ?_⟩
    obtain ⟨c19, h⟩ := h
    refine ⟨c19, ?_⟩
    intro x21 e20
    have h := h x21 e20
    exact ky_X11_fitOf_63 hU hL hb h K hX16 hX31 hX40
theorem ky_X11_fitOf_40 {b : Bool} {L : List (Nat × Nat)} (hU : ∀ q ∈ L, q ∈ nyT) (hL : ∀ q ∈ kyL_X11_fitOf, q ∈ L) (hb : False → b = false) {Q : Int32 → HS → Prop} {X16 X16_2 : Nat → Int32 → Int32 → Int32 → Int32 → Int32 → HS → Prop} {X31 X31_2 : Nat → Int32 → Int32 → Int32 → Int32 → Int32 → Int32 → HS → Prop} {v0 : Nat} {v1 : Int32} {v2 : Int32} {v3 : Int32} {v4 : Int32} {v5 : Int32} {v6 : Int32} {v7 : Int32} {S0 S : HS} (h : P_X11_fitOf_40 Q X16 X31 v0 v1 v2 v3 v4 v5 v6 v7 S) (K : K9 b L S0 S) (hX16 : ∀ (u0 : Nat) (u1 : Int32) (u2 : Int32) (u3 : Int32) (u4 : Int32) (u5 : Int32) (u6 : HS), X16 u0 u1 u2 u3 u4 u5 u6 → K9 b L S0 u6 → X16_2 u0 u1 u2 u3 u4 u5 u6) (hX31 : ∀ (u0 : Nat) (u1 : Int32) (u2 : Int32) (u3 : Int32) (u4 : Int32) (u5 : Int32) (u6 : Int32) (u7 : HS), X31 u0 u1 u2 u3 u4 u5 u6 u7 → K9 b L S0 u7 → X31_2 u0 u1 u2 u3 u4 u5 u6 u7) : P_X11_fitOf_40 (fun r T => Q r T ∧ K9 b L S0 T) X16_2 X31_2 v0 v1 v2 v3 v4 v5 v6 v7 S := h (fun v0 v1 v2 v3 v4 v5 v6 v7 S => K9 b L S0 S → P_X11_fitOf_40 (fun r T => Q r T ∧ K9 b L S0 T) X16_2 X31_2 v0 v1 v2 v3 v4 v5 v6 v7 S) (fun v0 v1 v2 v3 v4 v5 v6 v7 S hB K => fd_X11_fitOf_40 (kyB_X11_fitOf_40 hU hL hb hB K hX16 hX31 (fun _ _ _ _ _ _ _ _ _ hx K => hx K))) K
set_option maxRecDepth 20000 in
set_option maxHeartbeats 1000000 in
theorem kyB_X11_fitOf_31 {b : Bool} {L : List (Nat × Nat)} (hU : ∀ q ∈ L, q ∈ nyT) (hL : ∀ q ∈ kyL_X11_fitOf, q ∈ L) (hb : False → b = false) {Q : Int32 → HS → Prop} {X16 X16_2 : Nat → Int32 → Int32 → Int32 → Int32 → Int32 → HS → Prop} {X31 X31_2 : Nat → Int32 → Int32 → Int32 → Int32 → Int32 → Int32 → HS → Prop} {v0 : Nat} {v1 : Int32} {v2 : Int32} {v3 : Int32} {v4 : Int32} {v5 : Int32} {v6 : Int32} {S0 S : HS} (h : B_X11_fitOf_31 Q X16 X31 v0 v1 v2 v3 v4 v5 v6 S) (K : K9 b L S0 S) (hX16 : ∀ (u0 : Nat) (u1 : Int32) (u2 : Int32) (u3 : Int32) (u4 : Int32) (u5 : Int32) (u6 : HS), X16 u0 u1 u2 u3 u4 u5 u6 → K9 b L S0 u6 → X16_2 u0 u1 u2 u3 u4 u5 u6) (hX31 : ∀ (u0 : Nat) (u1 : Int32) (u2 : Int32) (u3 : Int32) (u4 : Int32) (u5 : Int32) (u6 : Int32) (u7 : HS), X31 u0 u1 u2 u3 u4 u5 u6 u7 → K9 b L S0 u7 → X31_2 u0 u1 u2 u3 u4 u5 u6 u7) : B_X11_fitOf_31 (fun r T => Q r T ∧ K9 b L S0 T) X16_2 X31_2 v0 v1 v2 v3 v4 v5 v6 S := by
  delta B_X11_fitOf_31 at h ⊢
  refine ⟨?_, ?_⟩
  · intro c1
    have h := h.1 c1
    intro x3 e2
    have h := h x3 e2
    exact hX16 _ _ _ _ _ _ _ h K
  · intro c4
    have h := h.2 c4
    exact ky_X11_fitOf_40 hU hL hb h K hX16 hX31
theorem ky_X11_fitOf_31 {b : Bool} {L : List (Nat × Nat)} (hU : ∀ q ∈ L, q ∈ nyT) (hL : ∀ q ∈ kyL_X11_fitOf, q ∈ L) (hb : False → b = false) {Q : Int32 → HS → Prop} {X16 X16_2 : Nat → Int32 → Int32 → Int32 → Int32 → Int32 → HS → Prop} {v0 : Nat} {v1 : Int32} {v2 : Int32} {v3 : Int32} {v4 : Int32} {v5 : Int32} {v6 : Int32} {S0 S : HS} (h : P_X11_fitOf_31 Q X16 v0 v1 v2 v3 v4 v5 v6 S) (K : K9 b L S0 S) (hX16 : ∀ (u0 : Nat) (u1 : Int32) (u2 : Int32) (u3 : Int32) (u4 : Int32) (u5 : Int32) (u6 : HS), X16 u0 u1 u2 u3 u4 u5 u6 → K9 b L S0 u6 → X16_2 u0 u1 u2 u3 u4 u5 u6) : P_X11_fitOf_31 (fun r T => Q r T ∧ K9 b L S0 T) X16_2 v0 v1 v2 v3 v4 v5 v6 S := h (fun v0 v1 v2 v3 v4 v5 v6 S => K9 b L S0 S → P_X11_fitOf_31 (fun r T => Q r T ∧ K9 b L S0 T) X16_2 v0 v1 v2 v3 v4 v5 v6 S) (fun v0 v1 v2 v3 v4 v5 v6 S hB K => fd_X11_fitOf_31 (kyB_X11_fitOf_31 hU hL hb hB K hX16 (fun _ _ _ _ _ _ _ _ hx K => hx K))) K
set_option maxRecDepth 20000 in
set_option maxHeartbeats 1000000 in
theorem kyB_X11_fitOf_16 {b : Bool} {L : List (Nat × Nat)} (hU : ∀ q ∈ L, q ∈ nyT) (hL : ∀ q ∈ kyL_X11_fitOf, q ∈ L) (hb : False → b = false) {Q : Int32 → HS → Prop} {X16 X16_2 : Nat → Int32 → Int32 → Int32 → Int32 → Int32 → HS → Prop} {v0 : Nat} {v1 : Int32} {v2 : Int32} {v3 : Int32} {v4 : Int32} {v5 : Int32} {S0 S : HS} (h : B_X11_fitOf_16 Q X16 v0 v1 v2 v3 v4 v5 S) (K : K9 b L S0 S) (hX16 : ∀ (u0 : Nat) (u1 : Int32) (u2 : Int32) (u3 : Int32) (u4 : Int32) (u5 : Int32) (u6 : HS), X16 u0 u1 u2 u3 u4 u5 u6 → K9 b L S0 u6 → X16_2 u0 u1 u2 u3 u4 u5 u6) : B_X11_fitOf_16 (fun r T => Q r T ∧ K9 b L S0 T) X16_2 v0 v1 v2 v3 v4 v5 S := by
  delta B_X11_fitOf_16 at h ⊢
  obtain ⟨c1, h⟩ := h
  refine ⟨c1, ?_⟩
  have o2 := c1
  obtain ⟨b3, e4, h⟩ := h
  refine ⟨b3, e4, ?_⟩
  obtain ⟨c5, h⟩ := h
  refine ⟨c5, ?_⟩
  intro x7 e6
  have h := h x7 e6
  refine ⟨?_, ?_⟩
  · intro c8
    have h := h.1 c8
    refine ⟨?_, ?_⟩
    · intro c9
      have h := h.1 c9
      exact ⟨h, K⟩
    · intro c10
      have h := h.2 c10
      exact ⟨h, K⟩
  · intro c11
    have h := h.2 c11
    exact ky_X11_fitOf_31 hU hL hb h K hX16
theorem ky_X11_fitOf_16 {b : Bool} {L : List (Nat × Nat)} (hU : ∀ q ∈ L, q ∈ nyT) (hL : ∀ q ∈ kyL_X11_fitOf, q ∈ L) (hb : False → b = false) {Q : Int32 → HS → Prop} {v0 : Nat} {v1 : Int32} {v2 : Int32} {v3 : Int32} {v4 : Int32} {v5 : Int32} {S0 S : HS} (h : P_X11_fitOf_16 Q v0 v1 v2 v3 v4 v5 S) (K : K9 b L S0 S) : P_X11_fitOf_16 (fun r T => Q r T ∧ K9 b L S0 T) v0 v1 v2 v3 v4 v5 S := h (fun v0 v1 v2 v3 v4 v5 S => K9 b L S0 S → P_X11_fitOf_16 (fun r T => Q r T ∧ K9 b L S0 T) v0 v1 v2 v3 v4 v5 S) (fun v0 v1 v2 v3 v4 v5 S hB K => fd_X11_fitOf_16 (kyB_X11_fitOf_16 hU hL hb hB K (fun _ _ _ _ _ _ _ hx K => hx K))) K
set_option maxRecDepth 20000 in
set_option maxHeartbeats 1000000 in
theorem ky_X11_fitOf_0 {b : Bool} {L : List (Nat × Nat)} (hU : ∀ q ∈ L, q ∈ nyT) (hL : ∀ q ∈ kyL_X11_fitOf, q ∈ L) (hb : False → b = false) {Q : Int32 → HS → Prop} {v0 : Nat} {v1 : Int32} {v2 : Int32} {S0 S : HS} (h : P_X11_fitOf_0 Q v0 v1 v2 S) (K : K9 b L S0 S) : P_X11_fitOf_0 (fun r T => Q r T ∧ K9 b L S0 T) v0 v1 v2 S := by
  delta P_X11_fitOf_0 at h ⊢
  obtain ⟨c1, h⟩ := h
  refine ⟨c1, ?_⟩
  have o2 := c1
  obtain ⟨b3, e4, h⟩ := h
  refine ⟨b3, e4, ?_⟩
  obtain ⟨c5, h⟩ := h
  refine ⟨c5, ?_⟩
  have o6 := c5
  obtain ⟨b7, e8, h⟩ := h
  refine ⟨b7, e8, ?_⟩
  obtain ⟨c9, h⟩ := h
  refine ⟨c9, ?_⟩
  obtain ⟨c10, h⟩ := h
  refine ⟨c10, ?_⟩
  intro x12 e11
  have h := h x12 e11
  exact ky_X11_fitOf_16 hU hL hb h K
theorem ky_X11_fitOf {b : Bool} {L : List (Nat × Nat)} (hU : ∀ q ∈ L, q ∈ nyT) (hL : ∀ q ∈ kyL_X11_fitOf, q ∈ L) (hb : False → b = false) {Q : Int32 → HS → Prop} {v0 : Nat} {v1 : Int32} {v2 : Int32} {S : HS} (h : P_X11_fitOf v0 v1 v2 Q S) : P_X11_fitOf v0 v1 v2 (fun r T => Q r T ∧ K9 b L S T) S := ky_X11_fitOf_0 hU hL hb h (k9_rf b L S)
abbrev kyL_X11_isSeen : List (Nat × Nat) := []
set_option maxRecDepth 20000 in
set_option maxHeartbeats 1000000 in
theorem ky_X11_isSeen_0 {b : Bool} {L : List (Nat × Nat)} (hU : ∀ q ∈ L, q ∈ nyT) (hL : ∀ q ∈ kyL_X11_isSeen, q ∈ L) (hb : False → b = false) {Q : Int32 → HS → Prop} {v0 : Nat} {v1 : Int32} {S0 S : HS} (h : P_X11_isSeen_0 Q v0 v1 S) (K : K9 b L S0 S) : P_X11_isSeen_0 (fun r T => Q r T ∧ K9 b L S0 T) v0 v1 S := by
  delta P_X11_isSeen_0 at h ⊢
  obtain ⟨c1, h⟩ := h
  refine ⟨c1, ?_⟩
  have o2 := c1
  refine ⟨?_, ?_⟩
  · intro c3
    have h := h.1 c3
    exact ⟨h, K⟩
  · intro x4 c5
    have h := h.2 x4 c5
    refine ⟨?_, ?_⟩
    · intro c6
      have h := h.1 c6
      exact ⟨h, K⟩
    · intro c7
      have h := h.2 c7
      obtain ⟨b8, e9, h⟩ := h
      refine ⟨b8, e9, ?_⟩
      obtain ⟨c10, h⟩ := h
      refine ⟨c10, ?_⟩
      intro x12 e11
      have h := h x12 e11
      refine ⟨?_, ?_⟩
      · intro c13
        have h := h.1 c13
        exact ⟨h, K⟩
      · intro c14
        have h := h.2 c14
        exact ⟨h, K⟩
theorem ky_X11_isSeen {b : Bool} {L : List (Nat × Nat)} (hU : ∀ q ∈ L, q ∈ nyT) (hL : ∀ q ∈ kyL_X11_isSeen, q ∈ L) (hb : False → b = false) {Q : Int32 → HS → Prop} {v0 : Nat} {v1 : Int32} {S : HS} (h : P_X11_isSeen v0 v1 Q S) : P_X11_isSeen v0 v1 (fun r T => Q r T ∧ K9 b L S T) S := ky_X11_isSeen_0 hU hL hb h (k9_rf b L S)
abbrev kyL_X11_fit : List (Nat × Nat) := []
set_option maxRecDepth 20000 in
set_option maxHeartbeats 1000000 in
theorem ky_X11_fit_27 {b : Bool} {L : List (Nat × Nat)} (hU : ∀ q ∈ L, q ∈ nyT) (hL : ∀ q ∈ kyL_X11_fit, q ∈ L) (hb : False → b = false) {Q : Int32 → HS → Prop} {v0 : Nat} {s0 : Int32} {S0 S : HS} (h : P_X11_fit_27 Q v0 s0 S) (K : K9 b L S0 S) : P_X11_fit_27 (fun r T => Q r T ∧ K9 b L S0 T) v0 s0 S := by
  delta P_X11_fit_27 at h ⊢
  refine ⟨?_, ?_⟩
  · intro c1
    have h := h.1 c1
    obtain ⟨c2, h⟩ := h
    refine ⟨c2, ?_⟩
    refine cm_X11_good (ky_X11_good (b := b) hU (fun q hq => hL q ((by decide : ∀ q ∈ kyL_X11_good, q ∈ kyL_X11_fit) q hq)) (fun z => z.elim) h) h (fun x3 x4 p6 h g5 => ?_)
    have h := h g5
    have K := k9_tr K p6.2
    exact ⟨h, K⟩
  · intro c7
    have h := h.2 c7
    obtain ⟨c8, h⟩ := h
    refine ⟨c8, ?_⟩
    refine cm_X11_refused (ky_X11_refused (b := b) hU (fun q hq => hL q ((by decide : ∀ q ∈ kyL_X11_refused, q ∈ kyL_X11_fit) q hq)) (fun z => z.elim) h) h (fun x9 x10 p12 h g11 => ?_)
    have h := h g11
    have K := k9_tr K p12.2
    exact ⟨h, K⟩
set_option maxRecDepth 20000 in
set_option maxHeartbeats 1000000 in
theorem ky_X11_fit_26 {b : Bool} {L : List (Nat × Nat)} (hU : ∀ q ∈ L, q ∈ nyT) (hL : ∀ q ∈ kyL_X11_fit, q ∈ L) (hb : False → b = false) {Q : Int32 → HS → Prop} {v0 : Nat} {S0 S : HS} (h : P_X11_fit_26 Q v0 S) (K : K9 b L S0 S) : P_X11_fit_26 (fun r T => Q r T ∧ K9 b L S0 T) v0 S := by
  delta P_X11_fit_26 at h ⊢
  exact ky_X11_fit_27 hU hL hb h K
set_option maxRecDepth 20000 in
set_option maxHeartbeats 1000000 in
theorem ky_X11_fit_0 {b : Bool} {L : List (Nat × Nat)} (hU : ∀ q ∈ L, q ∈ nyT) (hL : ∀ q ∈ kyL_X11_fit, q ∈ L) (hb : False → b = false) {Q : Int32 → HS → Prop} {v0 : Nat} {v1 : Int32} {v2 : Int32} {S0 S : HS} (h : P_X11_fit_0 Q v0 v1 v2 S) (K : K9 b L S0 S) : P_X11_fit_0 (fun r T => Q r T ∧ K9 b L S0 T) v0 v1 v2 S := by
  delta P_X11_fit_0 at h ⊢
  obtain ⟨c1, h⟩ := h
  refine ⟨c1, ?_⟩
  intro x3 e2
  have h := h x3 e2
  have K := k9_I K e2
  refine cm_X11_isSeen (ky_X11_isSeen (b := b) hU (fun q hq => hL q ((by decide : ∀ q ∈ kyL_X11_isSeen, q ∈ kyL_X11_fit) q hq)) (fun z => z.elim) h) h (fun x4 x5 p8 h g6 g7 => ?_)
  have h := h g6 g7
  have K := k9_tr K p8.2
  refine ⟨?_, ?_⟩
  · intro c9
    have h := h.1 c9
    exact ky_X11_fit_26 hU hL hb h K
  · intro c10
    have h := h.2 c10
    refine ⟨?_, ?_⟩
    · intro c11
      have h := h.1 c11
      exact ky_X11_fit_26 hU hL hb h K
    · intro c12
      have h := h.2 c12
      refine cm_X11_fitOf (ky_X11_fitOf (b := b) hU (fun q hq => hL q ((by decide : ∀ q ∈ kyL_X11_fitOf, q ∈ kyL_X11_fit) q hq)) (fun z => z.elim) h) h (fun x13 x14 p16 h g15 => ?_)
      have h := h g15
      have K := k9_tr K p16.2
      exact ky_X11_fit_27 hU hL hb h K
theorem ky_X11_fit {b : Bool} {L : List (Nat × Nat)} (hU : ∀ q ∈ L, q ∈ nyT) (hL : ∀ q ∈ kyL_X11_fit, q ∈ L) (hb : False → b = false) {Q : Int32 → HS → Prop} {v0 : Nat} {v1 : Int32} {v2 : Int32} {S : HS} (h : P_X11_fit v0 v1 v2 Q S) : P_X11_fit v0 v1 v2 (fun r T => Q r T ∧ K9 b L S T) S := ky_X11_fit_0 hU hL hb h (k9_rf b L S)
abbrev kyL_X11_fits : List (Nat × Nat) := []
set_option maxRecDepth 20000 in
set_option maxHeartbeats 1000000 in
theorem ky_X11_fits_0 {b : Bool} {L : List (Nat × Nat)} (hU : ∀ q ∈ L, q ∈ nyT) (hL : ∀ q ∈ kyL_X11_fits, q ∈ L) (hb : False → b = false) {Q : Int32 → HS → Prop} {v0 : Nat} {v1 : Int32} {S0 S : HS} (h : P_X11_fits_0 Q v0 v1 S) (K : K9 b L S0 S) : P_X11_fits_0 (fun r T => Q r T ∧ K9 b L S0 T) v0 v1 S := by
  delta P_X11_fits_0 at h ⊢
  obtain ⟨c1, h⟩ := h
  refine ⟨c1, ?_⟩
  intro x3 e2
  have h := h x3 e2
  have K := k9_I K e2
  refine cm_X11_isSeen (ky_X11_isSeen (b := b) hU (fun q hq => hL q ((by decide : ∀ q ∈ kyL_X11_isSeen, q ∈ kyL_X11_fits) q hq)) (fun z => z.elim) h) h (fun x4 x5 p8 h g6 g7 => ?_)
  have h := h g6 g7
  have K := k9_tr K p8.2
  refine ⟨?_, ?_⟩
  · intro c9
    have h := h.1 c9
    refine cm_X11_refused (ky_X11_refused (b := b) hU (fun q hq => hL q ((by decide : ∀ q ∈ kyL_X11_refused, q ∈ kyL_X11_fits) q hq)) (fun z => z.elim) h) h (fun x10 x11 p13 h g12 => ?_)
    have h := h g12
    have K := k9_tr K p13.2
    exact ⟨h, K⟩
  · intro c14
    have h := h.2 c14
    refine cm_X11_fitOf (ky_X11_fitOf (b := b) hU (fun q hq => hL q ((by decide : ∀ q ∈ kyL_X11_fitOf, q ∈ kyL_X11_fits) q hq)) (fun z => z.elim) h) h (fun x15 x16 p18 h g17 => ?_)
    have h := h g17
    have K := k9_tr K p18.2
    refine cm_X11_good (ky_X11_good (b := b) hU (fun q hq => hL q ((by decide : ∀ q ∈ kyL_X11_good, q ∈ kyL_X11_fits) q hq)) (fun z => z.elim) h) h (fun x19 x20 p22 h g21 => ?_)
    have h := h g21
    have K := k9_tr K p22.2
    exact ⟨h, K⟩
theorem ky_X11_fits {b : Bool} {L : List (Nat × Nat)} (hU : ∀ q ∈ L, q ∈ nyT) (hL : ∀ q ∈ kyL_X11_fits, q ∈ L) (hb : False → b = false) {Q : Int32 → HS → Prop} {v0 : Nat} {v1 : Int32} {S : HS} (h : P_X11_fits v0 v1 Q S) : P_X11_fits v0 v1 (fun r T => Q r T ∧ K9 b L S T) S := ky_X11_fits_0 hU hL hb h (k9_rf b L S)
abbrev kyL_X11_hourOf : List (Nat × Nat) := []
set_option maxRecDepth 20000 in
set_option maxHeartbeats 1000000 in
theorem ky_X11_hourOf_0 {b : Bool} {L : List (Nat × Nat)} (hU : ∀ q ∈ L, q ∈ nyT) (hL : ∀ q ∈ kyL_X11_hourOf, q ∈ L) (hb : False → b = false) {Q : Int32 → HS → Prop} {v0 : Nat} {v1 : Int32} {S0 S : HS} (h : P_X11_hourOf_0 Q v0 v1 S) (K : K9 b L S0 S) : P_X11_hourOf_0 (fun r T => Q r T ∧ K9 b L S0 T) v0 v1 S := by
  delta P_X11_hourOf_0 at h ⊢
  obtain ⟨c1, h⟩ := h
  refine ⟨c1, ?_⟩
  have o2 := c1
  obtain ⟨b3, e4, h⟩ := h
  refine ⟨b3, e4, ?_⟩
  obtain ⟨c5, h⟩ := h
  refine ⟨c5, ?_⟩
  intro x7 e6
  have h := h x7 e6
  obtain ⟨c8, h⟩ := h
  refine ⟨c8, ?_⟩
  intro x10 e9
  have h := h x10 e9
  exact ⟨h, K⟩
theorem ky_X11_hourOf {b : Bool} {L : List (Nat × Nat)} (hU : ∀ q ∈ L, q ∈ nyT) (hL : ∀ q ∈ kyL_X11_hourOf, q ∈ L) (hb : False → b = false) {Q : Int32 → HS → Prop} {v0 : Nat} {v1 : Int32} {S : HS} (h : P_X11_hourOf v0 v1 Q S) : P_X11_hourOf v0 v1 (fun r T => Q r T ∧ K9 b L S T) S := ky_X11_hourOf_0 hU hL hb h (k9_rf b L S)
abbrev kyL_X11_keeps : List (Nat × Nat) := [(11, 22)]
set_option maxRecDepth 20000 in
set_option maxHeartbeats 1000000 in
theorem kyB_X11_keeps_50 {b : Bool} {L : List (Nat × Nat)} (hU : ∀ q ∈ L, q ∈ nyT) (hL : ∀ q ∈ kyL_X11_keeps, q ∈ L) (hb : False → b = false) {Q : HS → Prop} {X50 X50_2 : Nat → Int32 → HS → Prop} {v0 : Nat} {v1 : Int32} {S0 S : HS} (h : B_X11_keeps_50 Q X50 v0 v1 S) (K : K9 b L S0 S) (hX50 : ∀ (u0 : Nat) (u1 : Int32) (u2 : HS), X50 u0 u1 u2 → K9 b L S0 u2 → X50_2 u0 u1 u2) : B_X11_keeps_50 (fun T => Q T ∧ K9 b L S0 T) X50_2 v0 v1 S := by
  delta B_X11_keeps_50 at h ⊢
  refine ⟨?_, ?_⟩
  · intro c1
    have h := h.1 c1
    obtain ⟨c2, h⟩ := h
    refine ⟨c2, ?_⟩
    have o3 := c2
    intro x5 e4
    have h := h x5 e4
    intro x7 e6
    have h := h x7 e6
    intro x9 e8
    have h := h x9 e8
    have K := k9_I K e8
    have o3 := ob_wI o3 e8
    exact ⟨h, K⟩
  · intro c10
    have h := h.2 c10
    obtain ⟨c11, h⟩ := h
    refine ⟨c11, ?_⟩
    have o12 := c11
    obtain ⟨b13, e14, h⟩ := h
    refine ⟨b13, e14, ?_⟩
    have n15 := k9_nr K e14 o12 (hL _ (by decide))
    intro x17 e16
    have h := h x17 e16
    obtain ⟨b18, e19, h⟩ := h
    refine ⟨b18, e19, ?_⟩
    obtain ⟨c20, h⟩ := h
    refine ⟨c20, ?_⟩
    obtain ⟨c21, h⟩ := h
    refine ⟨c21, ?_⟩
    intro x23 e22
    have h := h x23 e22
    obtain ⟨c24, h⟩ := h
    refine ⟨c24, ?_⟩
    obtain ⟨c25, h⟩ := h
    refine ⟨c25, ?_⟩
    intro x27 e26
    have h := h x27 e26
    have K := k9_J K e26 n15
    have o12 := ob_wJ o12 e26
    intro x29 e28
    have h := h x29 e28
    exact hX50 _ _ _ h K
theorem ky_X11_keeps_50 {b : Bool} {L : List (Nat × Nat)} (hU : ∀ q ∈ L, q ∈ nyT) (hL : ∀ q ∈ kyL_X11_keeps, q ∈ L) (hb : False → b = false) {Q : HS → Prop} {v0 : Nat} {v1 : Int32} {S0 S : HS} (h : P_X11_keeps_50 Q v0 v1 S) (K : K9 b L S0 S) : P_X11_keeps_50 (fun T => Q T ∧ K9 b L S0 T) v0 v1 S := h (fun v0 v1 S => K9 b L S0 S → P_X11_keeps_50 (fun T => Q T ∧ K9 b L S0 T) v0 v1 S) (fun v0 v1 S hB K => fd_X11_keeps_50 (kyB_X11_keeps_50 hU hL hb hB K (fun _ _ _ hx K => hx K))) K
set_option maxRecDepth 20000 in
set_option maxHeartbeats 1000000 in
theorem ky_X11_keeps_48 {b : Bool} {L : List (Nat × Nat)} (hU : ∀ q ∈ L, q ∈ nyT) (hL : ∀ q ∈ kyL_X11_keeps, q ∈ L) (hb : False → b = false) {Q : HS → Prop} {v0 : Nat} {S0 S : HS} (h : P_X11_keeps_48 Q v0 S) (K : K9 b L S0 S) : P_X11_keeps_48 (fun T => Q T ∧ K9 b L S0 T) v0 S := by
  delta P_X11_keeps_48 at h ⊢
  exact ky_X11_keeps_50 hU hL hb h K
set_option maxRecDepth 20000 in
set_option maxHeartbeats 1000000 in
theorem kyB_X11_keeps_11 {b : Bool} {L : List (Nat × Nat)} (hU : ∀ q ∈ L, q ∈ nyT) (hL : ∀ q ∈ kyL_X11_keeps, q ∈ L) (hb : False → b = false) {Q : HS → Prop} {X11 X11_2 : Nat → Int32 → HS → Prop} {v0 : Nat} {v1 : Int32} {S0 S : HS} (h : B_X11_keeps_11 Q X11 v0 v1 S) (K : K9 b L S0 S) (hX11 : ∀ (u0 : Nat) (u1 : Int32) (u2 : HS), X11 u0 u1 u2 → K9 b L S0 u2 → X11_2 u0 u1 u2) : B_X11_keeps_11 (fun T => Q T ∧ K9 b L S0 T) X11_2 v0 v1 S := by
  delta B_X11_keeps_11 at h ⊢
  refine ⟨?_, ?_⟩
  · intro c1
    have h := h.1 c1
    obtain ⟨c2, h⟩ := h
    refine ⟨c2, ?_⟩
    have o3 := c2
    intro x5 e4
    have h := h x5 e4
    intro x7 e6
    have h := h x7 e6
    intro x9 e8
    have h := h x9 e8
    have K := k9_I K e8
    have o3 := ob_wI o3 e8
    exact ky_X11_keeps_48 hU hL hb h K
  · intro c10
    have h := h.2 c10
    obtain ⟨c11, h⟩ := h
    refine ⟨c11, ?_⟩
    have o12 := c11
    obtain ⟨b13, e14, h⟩ := h
    refine ⟨b13, e14, ?_⟩
    have n15 := k9_nr K e14 o12 (hL _ (by decide))
    obtain ⟨b16, e17, h⟩ := h
    refine ⟨b16, e17, ?_⟩
    obtain ⟨c18, h⟩ := h
    refine ⟨c18, ?_⟩
    intro x20 e19
    have h := h x20 e19
    obtain ⟨c21, h⟩ := h
    refine ⟨c21, ?_⟩
    intro x23 e22
    have h := h x23 e22
    obtain ⟨c24, h⟩ := h
    refine ⟨c24, ?_⟩
    obtain ⟨c25, h⟩ := h
    refine ⟨c25, ?_⟩
    intro x27 e26
    have h := h x27 e26
    have K := k9_J K e26 n15
    have o12 := ob_wJ o12 e26
    intro x29 e28
    have h := h x29 e28
    exact hX11 _ _ _ h K
theorem ky_X11_keeps_11 {b : Bool} {L : List (Nat × Nat)} (hU : ∀ q ∈ L, q ∈ nyT) (hL : ∀ q ∈ kyL_X11_keeps, q ∈ L) (hb : False → b = false) {Q : HS → Prop} {v0 : Nat} {v1 : Int32} {S0 S : HS} (h : P_X11_keeps_11 Q v0 v1 S) (K : K9 b L S0 S) : P_X11_keeps_11 (fun T => Q T ∧ K9 b L S0 T) v0 v1 S := h (fun v0 v1 S => K9 b L S0 S → P_X11_keeps_11 (fun T => Q T ∧ K9 b L S0 T) v0 v1 S) (fun v0 v1 S hB K => fd_X11_keeps_11 (kyB_X11_keeps_11 hU hL hb hB K (fun _ _ _ hx K => hx K))) K
set_option maxRecDepth 20000 in
set_option maxHeartbeats 1000000 in
theorem ky_X11_keeps_0 {b : Bool} {L : List (Nat × Nat)} (hU : ∀ q ∈ L, q ∈ nyT) (hL : ∀ q ∈ kyL_X11_keeps, q ∈ L) (hb : False → b = false) {Q : HS → Prop} {v0 : Nat} {S0 S : HS} (h : P_X11_keeps_0 Q v0 S) (K : K9 b L S0 S) : P_X11_keeps_0 (fun T => Q T ∧ K9 b L S0 T) v0 S := by
  delta P_X11_keeps_0 at h ⊢
  obtain ⟨c1, h⟩ := h
  refine ⟨c1, ?_⟩
  intro x3 e2
  have h := h x3 e2
  refine ⟨?_, ?_⟩
  · intro c4
    have h := h.1 c4
    exact ky_X11_keeps_48 hU hL hb h K
  · intro c5
    have h := h.2 c5
    exact ky_X11_keeps_11 hU hL hb h K
theorem ky_X11_keeps {b : Bool} {L : List (Nat × Nat)} (hU : ∀ q ∈ L, q ∈ nyT) (hL : ∀ q ∈ kyL_X11_keeps, q ∈ L) (hb : False → b = false) {Q : HS → Prop} {v0 : Nat} {S : HS} (h : P_X11_keeps v0 Q S) : P_X11_keeps v0 (fun T => Q T ∧ K9 b L S T) S := ky_X11_keeps_0 hU hL hb h (k9_rf b L S)
abbrev kyL_X11_rainsIn : List (Nat × Nat) := []
set_option maxRecDepth 20000 in
set_option maxHeartbeats 1000000 in
theorem ky_X11_rainsIn_0 {b : Bool} {L : List (Nat × Nat)} (hU : ∀ q ∈ L, q ∈ nyT) (hL : ∀ q ∈ kyL_X11_rainsIn, q ∈ L) (hb : False → b = false) {Q : Int32 → HS → Prop} {v0 : Nat} {v1 : Int32} {S0 S : HS} (h : P_X11_rainsIn_0 Q v0 v1 S) (K : K9 b L S0 S) : P_X11_rainsIn_0 (fun r T => Q r T ∧ K9 b L S0 T) v0 v1 S := by
  delta P_X11_rainsIn_0 at h ⊢
  obtain ⟨c1, h⟩ := h
  refine ⟨c1, ?_⟩
  have o2 := c1
  refine cm_X11_hourOf (ky_X11_hourOf (b := b) hU (fun q hq => hL q ((by decide : ∀ q ∈ kyL_X11_hourOf, q ∈ kyL_X11_rainsIn) q hq)) (fun z => z.elim) h) h (fun x3 x4 p6 h g5 => ?_)
  have h := h g5
  have K := k9_tr K p6.2
  have o2 := gr_ob p6.2.1 o2
  obtain ⟨b7, e8, h⟩ := h
  refine ⟨b7, e8, ?_⟩
  obtain ⟨c9, h⟩ := h
  refine ⟨c9, ?_⟩
  intro x11 e10
  have h := h x11 e10
  refine ⟨?_, ?_⟩
  · intro c12
    have h := h.1 c12
    exact ⟨h, K⟩
  · intro c13
    have h := h.2 c13
    intro x15 e14
    have h := h x15 e14
    refine ⟨?_, ?_⟩
    · intro c16
      have h := h.1 c16
      exact ⟨h, K⟩
    · intro c17
      have h := h.2 c17
      exact ⟨h, K⟩
theorem ky_X11_rainsIn {b : Bool} {L : List (Nat × Nat)} (hU : ∀ q ∈ L, q ∈ nyT) (hL : ∀ q ∈ kyL_X11_rainsIn, q ∈ L) (hb : False → b = false) {Q : Int32 → HS → Prop} {v0 : Nat} {v1 : Int32} {S : HS} (h : P_X11_rainsIn v0 v1 Q S) : P_X11_rainsIn v0 v1 (fun r T => Q r T ∧ K9 b L S T) S := ky_X11_rainsIn_0 hU hL hb h (k9_rf b L S)
abbrev kyL_X11_go : List (Nat × Nat) := [(11, 21), (11, 22)]
set_option maxRecDepth 20000 in
set_option maxHeartbeats 1000000 in
theorem ky_X11_go_29 {b : Bool} {L : List (Nat × Nat)} (hU : ∀ q ∈ L, q ∈ nyT) (hL : ∀ q ∈ kyL_X11_go, q ∈ L) (hb : False → b = false) {Q : Int32 → HS → Prop} {v0 : Nat} {S0 S : HS} (h : P_X11_go_29 Q v0 S) (K : K9 b L S0 S) : P_X11_go_29 (fun r T => Q r T ∧ K9 b L S0 T) v0 S := by
  delta P_X11_go_29 at h ⊢
  obtain ⟨c1, h⟩ := h
  refine ⟨c1, ?_⟩
  refine cm_X11_refused (ky_X11_refused (b := b) hU (fun q hq => hL q ((by decide : ∀ q ∈ kyL_X11_refused, q ∈ kyL_X11_go) q hq)) (fun z => z.elim) h) h (fun x2 x3 p5 h g4 => ?_)
  have h := h g4
  have K := k9_tr K p5.2
  exact ⟨h, K⟩
set_option maxRecDepth 20000 in
set_option maxHeartbeats 1000000 in
theorem ky_X11_go_171 {b : Bool} {L : List (Nat × Nat)} (hU : ∀ q ∈ L, q ∈ nyT) (hL : ∀ q ∈ kyL_X11_go, q ∈ L) (hb : False → b = false) {Q : Int32 → HS → Prop} {v0 : Nat} {v1 : Int32} {v2 : Int32} {v3 : Int32} {v4 : Int32} {S0 S : HS} (h : P_X11_go_171 Q v0 v1 v2 v3 v4 S) (K : K9 b L S0 S) : P_X11_go_171 (fun r T => Q r T ∧ K9 b L S0 T) v0 v1 v2 v3 v4 S := by
  delta P_X11_go_171 at h ⊢
  obtain ⟨c1, h⟩ := h
  refine ⟨c1, ?_⟩
  have o2 := c1
  obtain ⟨b3, e4, h⟩ := h
  refine ⟨b3, e4, ?_⟩
  have n5 := k9_nr K e4 o2 (hL _ (by decide))
  obtain ⟨b6, e7, h⟩ := h
  refine ⟨b6, e7, ?_⟩
  obtain ⟨c8, h⟩ := h
  refine ⟨c8, ?_⟩
  refine cm_X10_ends (ky_X10_ends (b := b) hU (fun q hq => hL q ((by decide : ∀ q ∈ kyL_X10_ends, q ∈ kyL_X11_go) q hq)) (fun z => z.elim) h) h (fun x9 x10 p12 h g11 => ?_)
  have h := h g11
  have K := k9_tr K p12.2
  have o2 := gr_ob p12.2.1 o2
  obtain ⟨c13, h⟩ := h
  refine ⟨c13, ?_⟩
  intro x15 e14
  have h := h x15 e14
  obtain ⟨c16, h⟩ := h
  refine ⟨c16, ?_⟩
  intro x18 e17
  have h := h x18 e17
  have K := k9_J K e17 n5
  have o2 := ob_wJ o2 e17
  obtain ⟨b19, e20, h⟩ := h
  refine ⟨b19, e20, ?_⟩
  have n21 := k9_nr K e20 o2 (hL _ (by decide))
  obtain ⟨b22, e23, h⟩ := h
  refine ⟨b22, e23, ?_⟩
  obtain ⟨c24, h⟩ := h
  refine ⟨c24, ?_⟩
  refine cm_X10_minutes (ky_X10_minutes (b := b) hU (fun q hq => hL q ((by decide : ∀ q ∈ kyL_X10_minutes, q ∈ kyL_X11_go) q hq)) (fun z => z.elim) h) h (fun x25 x26 p28 h g27 => ?_)
  have h := h g27
  have K := k9_tr K p28.2
  have o2 := gr_ob p28.2.1 o2
  obtain ⟨c29, h⟩ := h
  refine ⟨c29, ?_⟩
  intro x31 e30
  have h := h x31 e30
  obtain ⟨c32, h⟩ := h
  refine ⟨c32, ?_⟩
  intro x34 e33
  have h := h x34 e33
  have K := k9_J K e33 n21
  have o2 := ob_wJ o2 e33
  obtain ⟨b35, e36, h⟩ := h
  refine ⟨b35, e36, ?_⟩
  obtain ⟨c37, h⟩ := h
  refine ⟨c37, ?_⟩
  obtain ⟨c38, h⟩ := h
  refine ⟨c38, ?_⟩
  intro x40 e39
  have h := h x40 e39
  refine cm_X11_good (ky_X11_good (b := b) hU (fun q hq => hL q ((by decide : ∀ q ∈ kyL_X11_good, q ∈ kyL_X11_go) q hq)) (fun z => z.elim) h) h (fun x41 x42 p44 h g43 => ?_)
  have h := h g43
  have K := k9_tr K p44.2
  have o2 := gr_ob p44.2.1 o2
  exact ⟨h, K⟩
set_option maxRecDepth 20000 in
set_option maxHeartbeats 1000000 in
theorem kyB_X11_go_119 {b : Bool} {L : List (Nat × Nat)} (hU : ∀ q ∈ L, q ∈ nyT) (hL : ∀ q ∈ kyL_X11_go, q ∈ L) (hb : False → b = false) {Q : Int32 → HS → Prop} {X119 X119_2 : Nat → Int32 → Int32 → Int32 → Int32 → Int32 → HS → Prop} {v0 : Nat} {v1 : Int32} {v2 : Int32} {v3 : Int32} {v4 : Int32} {v5 : Int32} {S0 S : HS} (h : B_X11_go_119 Q X119 v0 v1 v2 v3 v4 v5 S) (K : K9 b L S0 S) (hX119 : ∀ (u0 : Nat) (u1 : Int32) (u2 : Int32) (u3 : Int32) (u4 : Int32) (u5 : Int32) (u6 : HS), X119 u0 u1 u2 u3 u4 u5 u6 → K9 b L S0 u6 → X119_2 u0 u1 u2 u3 u4 u5 u6) : B_X11_go_119 (fun r T => Q r T ∧ K9 b L S0 T) X119_2 v0 v1 v2 v3 v4 v5 S := by
  delta B_X11_go_119 at h ⊢
  refine ⟨?_, ?_⟩
  · intro c1
    have h := h.1 c1
    exact ky_X11_go_171 hU hL hb h K
  · intro c2
    have h := h.2 c2
    obtain ⟨c3, h⟩ := h
    refine ⟨c3, ?_⟩
    have o4 := c3
    refine cm_X11_rainsIn (ky_X11_rainsIn (b := b) hU (fun q hq => hL q ((by decide : ∀ q ∈ kyL_X11_rainsIn, q ∈ kyL_X11_go) q hq)) (fun z => z.elim) h) h (fun x5 x6 p9 h g7 g8 => ?_)
    have h := h g7 g8
    have K := k9_tr K p9.2
    have o4 := gr_ob p9.2.1 o4
    refine ⟨?_, ?_⟩
    · intro c10
      have h := h.1 c10
      exact ky_X11_go_171 hU hL hb h K
    · intro c11
      have h := h.2 c11
      obtain ⟨b12, e13, h⟩ := h
      refine ⟨b12, e13, ?_⟩
      have n14 := k9_nr K e13 o4 (hL _ (by decide))
      obtain ⟨c15, h⟩ := h
      refine ⟨c15, ?_⟩
      intro x17 e16
      have h := h x17 e16
      obtain ⟨c18, h⟩ := h
      refine ⟨c18, ?_⟩
      intro x20 e19
      have h := h x20 e19
      intro x22 e21
      have h := h x22 e21
      refine cm_X11_hourOf (ky_X11_hourOf (b := b) hU (fun q hq => hL q ((by decide : ∀ q ∈ kyL_X11_hourOf, q ∈ kyL_X11_go) q hq)) (fun z => z.elim) h) h (fun x23 x24 p26 h g25 => ?_)
      have h := h g25
      have K := k9_tr K p26.2
      have o4 := gr_ob p26.2.1 o4
      refine cm_X11_partsOf (ky_X11_partsOf (b := b) hU (fun q hq => hL q ((by decide : ∀ q ∈ kyL_X11_partsOf, q ∈ kyL_X11_go) q hq)) (fun z => z.elim) h) h (fun x27 x28 p30 h g29 => ?_)
      have h := h g29
      have K := k9_tr K p30.2
      have o4 := gr_ob p30.2.1 o4
      intro x32 e31
      have h := h x32 e31
      obtain ⟨c33, h⟩ := h
      refine ⟨c33, ?_⟩
      intro x35 e34
      have h := h x35 e34
      have K := k9_J K e34 n14
      have o4 := ob_wJ o4 e34
      intro x37 e36
      have h := h x37 e36
      exact hX119 _ _ _ _ _ _ _ h K
theorem ky_X11_go_119 {b : Bool} {L : List (Nat × Nat)} (hU : ∀ q ∈ L, q ∈ nyT) (hL : ∀ q ∈ kyL_X11_go, q ∈ L) (hb : False → b = false) {Q : Int32 → HS → Prop} {v0 : Nat} {v1 : Int32} {v2 : Int32} {v3 : Int32} {v4 : Int32} {v5 : Int32} {S0 S : HS} (h : P_X11_go_119 Q v0 v1 v2 v3 v4 v5 S) (K : K9 b L S0 S) : P_X11_go_119 (fun r T => Q r T ∧ K9 b L S0 T) v0 v1 v2 v3 v4 v5 S := h (fun v0 v1 v2 v3 v4 v5 S => K9 b L S0 S → P_X11_go_119 (fun r T => Q r T ∧ K9 b L S0 T) v0 v1 v2 v3 v4 v5 S) (fun v0 v1 v2 v3 v4 v5 S hB K => fd_X11_go_119 (kyB_X11_go_119 hU hL hb hB K (fun _ _ _ _ _ _ _ hx K => hx K))) K
set_option maxRecDepth 20000 in
set_option maxHeartbeats 1000000 in
theorem ky_X11_go_0 {b : Bool} {L : List (Nat × Nat)} (hU : ∀ q ∈ L, q ∈ nyT) (hL : ∀ q ∈ kyL_X11_go, q ∈ L) (hb : False → b = false) {Q : Int32 → HS → Prop} {v0 : Nat} {v1 : Int32} {v2 : Int32} {v3 : Int32} {S0 S : HS} (h : P_X11_go_0 Q v0 v1 v2 v3 S) (K : K9 b L S0 S) : P_X11_go_0 (fun r T => Q r T ∧ K9 b L S0 T) v0 v1 v2 v3 S := by
  delta P_X11_go_0 at h ⊢
  obtain ⟨c1, h⟩ := h
  refine ⟨c1, ?_⟩
  have o2 := c1
  intro x4 e3
  have h := h x4 e3
  have K := k9_I K e3
  have o2 := ob_wI o2 e3
  refine cm_X11_isDay (ky_X11_isDay (b := b) hU (fun q hq => hL q ((by decide : ∀ q ∈ kyL_X11_isDay, q ∈ kyL_X11_go) q hq)) (fun z => z.elim) h) h (fun x5 x6 p9 h g7 g8 => ?_)
  have h := h g7 g8
  have K := k9_tr K p9.2
  have o2 := gr_ob p9.2.1 o2
  refine ⟨?_, ?_⟩
  · intro c10
    have h := h.1 c10
    exact ky_X11_go_29 hU hL hb h K
  · intro c11
    have h := h.2 c11
    refine cm_X11_isRoad (ky_X11_isRoad (b := b) hU (fun q hq => hL q ((by decide : ∀ q ∈ kyL_X11_isRoad, q ∈ kyL_X11_go) q hq)) (fun z => z.elim) h) h (fun x12 x13 p16 h g14 g15 => ?_)
    have h := h g14 g15
    have K := k9_tr K p16.2
    have o2 := gr_ob p16.2.1 o2
    refine ⟨?_, ?_⟩
    · intro c17
      have h := h.1 c17
      exact ky_X11_go_29 hU hL hb h K
    · intro c18
      have h := h.2 c18
      refine cm_X11_in (ky_X11_in (b := b) hU (fun q hq => hL q ((by decide : ∀ q ∈ kyL_X11_in, q ∈ kyL_X11_go) q hq)) (fun z => z.elim) h) h (fun x19 x20 p23 h g21 g22 => ?_)
      have h := h g21 g22
      have K := k9_tr K p23.2
      have o2 := gr_ob p23.2.1 o2
      refine ⟨?_, ?_⟩
      · intro c24
        have h := h.1 c24
        intro x26 e25
        have h := h x26 e25
        refine cm_X11_isSpeed (ky_X11_isSpeed (b := b) hU (fun q hq => hL q ((by decide : ∀ q ∈ kyL_X11_isSpeed, q ∈ kyL_X11_go) q hq)) (fun z => z.elim) h) h (fun x27 x28 p31 h g29 g30 => ?_)
        have h := h g29 g30
        have K := k9_tr K p31.2
        have o2 := gr_ob p31.2.1 o2
        refine ⟨?_, ?_⟩
        · intro c32
          have h := h.1 c32
          obtain ⟨b33, e34, h⟩ := h
          refine ⟨b33, e34, ?_⟩
          obtain ⟨c35, h⟩ := h
          refine ⟨c35, ?_⟩
          refine cm_X10_begins (ky_X10_begins (b := b) hU (fun q hq => hL q ((by decide : ∀ q ∈ kyL_X10_begins, q ∈ kyL_X11_go) q hq)) (fun z => z.elim) h) h (fun x36 x37 p39 h g38 => ?_)
          have h := h g38
          have K := k9_tr K p39.2
          have o2 := gr_ob p39.2.1 o2
          obtain ⟨b40, e41, h⟩ := h
          refine ⟨b40, e41, ?_⟩
          obtain ⟨c42, h⟩ := h
          refine ⟨c42, ?_⟩
          obtain ⟨c43, h⟩ := h
          refine ⟨c43, ?_⟩
          intro x45 e44
          have h := h x45 e44
          refine ⟨?_, ?_⟩
          · intro c46
            have h := h.1 c46
            obtain ⟨b47, e48, h⟩ := h
            refine ⟨b47, e48, ?_⟩
            obtain ⟨c49, h⟩ := h
            refine ⟨c49, ?_⟩
            obtain ⟨c50, h⟩ := h
            refine ⟨c50, ?_⟩
            intro x52 e51
            have h := h x52 e51
            intro x54 e53
            have h := h x54 e53
            obtain ⟨b55, e56, h⟩ := h
            refine ⟨b55, e56, ?_⟩
            obtain ⟨c57, h⟩ := h
            refine ⟨c57, ?_⟩
            refine cm_X10_minutes (ky_X10_minutes (b := b) hU (fun q hq => hL q ((by decide : ∀ q ∈ kyL_X10_minutes, q ∈ kyL_X11_go) q hq)) (fun z => z.elim) h) h (fun x58 x59 p61 h g60 => ?_)
            have h := h g60
            have K := k9_tr K p61.2
            have o2 := gr_ob p61.2.1 o2
            refine ⟨?_, ?_⟩
            · intro c62
              have h := h.1 c62
              refine cm_X11_keeps (ky_X11_keeps (b := b) hU (fun q hq => hL q ((by decide : ∀ q ∈ kyL_X11_keeps, q ∈ kyL_X11_go) q hq)) (fun z => z.elim) h) h (fun x63 p65 h g64 => ?_)
              have h := h g64
              have K := k9_tr K p65.2
              have o2 := gr_ob p65.2.1 o2
              exact ky_X11_go_119 hU hL hb h K
            · intro c66
              have h := h.2 c66
              refine cm_X11_refused (ky_X11_refused (b := b) hU (fun q hq => hL q ((by decide : ∀ q ∈ kyL_X11_refused, q ∈ kyL_X11_go) q hq)) (fun z => z.elim) h) h (fun x67 x68 p70 h g69 => ?_)
              have h := h g69
              have K := k9_tr K p70.2
              have o2 := gr_ob p70.2.1 o2
              exact ⟨h, K⟩
          · intro c71
            have h := h.2 c71
            refine cm_X11_refused (ky_X11_refused (b := b) hU (fun q hq => hL q ((by decide : ∀ q ∈ kyL_X11_refused, q ∈ kyL_X11_go) q hq)) (fun z => z.elim) h) h (fun x72 x73 p75 h g74 => ?_)
            have h := h g74
            have K := k9_tr K p75.2
            have o2 := gr_ob p75.2.1 o2
            exact ⟨h, K⟩
        · intro c76
          have h := h.2 c76
          refine cm_X11_refused (ky_X11_refused (b := b) hU (fun q hq => hL q ((by decide : ∀ q ∈ kyL_X11_refused, q ∈ kyL_X11_go) q hq)) (fun z => z.elim) h) h (fun x77 x78 p80 h g79 => ?_)
          have h := h g79
          have K := k9_tr K p80.2
          have o2 := gr_ob p80.2.1 o2
          exact ⟨h, K⟩
      · intro c81
        have h := h.2 c81
        exact ky_X11_go_29 hU hL hb h K
theorem ky_X11_go {b : Bool} {L : List (Nat × Nat)} (hU : ∀ q ∈ L, q ∈ nyT) (hL : ∀ q ∈ kyL_X11_go, q ∈ L) (hb : False → b = false) {Q : Int32 → HS → Prop} {v0 : Nat} {v1 : Int32} {v2 : Int32} {v3 : Int32} {S : HS} (h : P_X11_go v0 v1 v2 v3 Q S) : P_X11_go v0 v1 v2 v3 (fun r T => Q r T ∧ K9 b L S T) S := ky_X11_go_0 hU hL hb h (k9_rf b L S)
abbrev kyL_X11_got : List (Nat × Nat) := []
set_option maxRecDepth 20000 in
set_option maxHeartbeats 1000000 in
theorem ky_X11_got_40 {b : Bool} {L : List (Nat × Nat)} (hU : ∀ q ∈ L, q ∈ nyT) (hL : ∀ q ∈ kyL_X11_got, q ∈ L) (hb : False → b = false) {Q : Int64 → HS → Prop} {v0 : Nat} {S0 S : HS} (h : P_X11_got_40 Q v0 S) (K : K9 b L S0 S) : P_X11_got_40 (fun r T => Q r T ∧ K9 b L S0 T) v0 S := by
  delta P_X11_got_40 at h ⊢
  obtain ⟨c1, h⟩ := h
  refine ⟨c1, ?_⟩
  refine cm_X11_refused (ky_X11_refused (b := b) hU (fun q hq => hL q ((by decide : ∀ q ∈ kyL_X11_refused, q ∈ kyL_X11_got) q hq)) (fun z => z.elim) h) h (fun x2 x3 p5 h g4 => ?_)
  have h := h g4
  have K := k9_tr K p5.2
  exact ⟨h, K⟩
set_option maxRecDepth 20000 in
set_option maxHeartbeats 1000000 in
theorem ky_X11_got_0 {b : Bool} {L : List (Nat × Nat)} (hU : ∀ q ∈ L, q ∈ nyT) (hL : ∀ q ∈ kyL_X11_got, q ∈ L) (hb : False → b = false) {Q : Int64 → HS → Prop} {v0 : Nat} {v1 : Int32} {v2 : Int32} {S0 S : HS} (h : P_X11_got_0 Q v0 v1 v2 S) (K : K9 b L S0 S) : P_X11_got_0 (fun r T => Q r T ∧ K9 b L S0 T) v0 v1 v2 S := by
  delta P_X11_got_0 at h ⊢
  obtain ⟨c1, h⟩ := h
  refine ⟨c1, ?_⟩
  have o2 := c1
  intro x4 e3
  have h := h x4 e3
  have K := k9_I K e3
  have o2 := ob_wI o2 e3
  refine cm_X11_isDay (ky_X11_isDay (b := b) hU (fun q hq => hL q ((by decide : ∀ q ∈ kyL_X11_isDay, q ∈ kyL_X11_got) q hq)) (fun z => z.elim) h) h (fun x5 x6 p9 h g7 g8 => ?_)
  have h := h g7 g8
  have K := k9_tr K p9.2
  have o2 := gr_ob p9.2.1 o2
  refine ⟨?_, ?_⟩
  · intro c10
    have h := h.1 c10
    exact ky_X11_got_40 hU hL hb h K
  · intro c11
    have h := h.2 c11
    refine cm_X11_in (ky_X11_in (b := b) hU (fun q hq => hL q ((by decide : ∀ q ∈ kyL_X11_in, q ∈ kyL_X11_got) q hq)) (fun z => z.elim) h) h (fun x12 x13 p16 h g14 g15 => ?_)
    have h := h g14 g15
    have K := k9_tr K p16.2
    have o2 := gr_ob p16.2.1 o2
    refine ⟨?_, ?_⟩
    · intro c17
      have h := h.1 c17
      exact ky_X11_got_40 hU hL hb h K
    · intro c18
      have h := h.2 c18
      obtain ⟨b19, e20, h⟩ := h
      refine ⟨b19, e20, ?_⟩
      obtain ⟨c21, h⟩ := h
      refine ⟨c21, ?_⟩
      intro x23 e22
      have h := h x23 e22
      obtain ⟨c24, h⟩ := h
      refine ⟨c24, ?_⟩
      intro x26 e25
      have h := h x26 e25
      refine cm_X11_told (ky_X11_told (b := b) hU (fun q hq => hL q ((by decide : ∀ q ∈ kyL_X11_told, q ∈ kyL_X11_got) q hq)) (fun z => z.elim) h) h (fun x27 x28 p30 h g29 => ?_)
      have h := h g29
      have K := k9_tr K p30.2
      have o2 := gr_ob p30.2.1 o2
      exact ⟨h, K⟩
theorem ky_X11_got {b : Bool} {L : List (Nat × Nat)} (hU : ∀ q ∈ L, q ∈ nyT) (hL : ∀ q ∈ kyL_X11_got, q ∈ L) (hb : False → b = false) {Q : Int64 → HS → Prop} {v0 : Nat} {v1 : Int32} {v2 : Int32} {S : HS} (h : P_X11_got v0 v1 v2 Q S) : P_X11_got v0 v1 v2 (fun r T => Q r T ∧ K9 b L S T) S := ky_X11_got_0 hU hL hb h (k9_rf b L S)
abbrev kyL_X11_gotInAll : List (Nat × Nat) := []
set_option maxRecDepth 20000 in
set_option maxHeartbeats 1000000 in
theorem kyB_X11_gotInAll_4 {b : Bool} {L : List (Nat × Nat)} (hU : ∀ q ∈ L, q ∈ nyT) (hL : ∀ q ∈ kyL_X11_gotInAll, q ∈ L) (hb : False → b = false) {Q : Int64 → HS → Prop} {X4 X4_2 : Nat → Int64 → Int32 → HS → Prop} {v0 : Nat} {v1 : Int64} {v3 : Int32} {S0 S : HS} (h : B_X11_gotInAll_4 Q X4 v0 v1 v3 S) (K : K9 b L S0 S) (hX4 : ∀ (u0 : Nat) (u1 : Int64) (u2 : Int32) (u3 : HS), X4 u0 u1 u2 u3 → K9 b L S0 u3 → X4_2 u0 u1 u2 u3) : B_X11_gotInAll_4 (fun r T => Q r T ∧ K9 b L S0 T) X4_2 v0 v1 v3 S := by
  delta B_X11_gotInAll_4 at h ⊢
  refine ⟨?_, ?_⟩
  · intro c1
    have h := h.1 c1
    exact ⟨h, K⟩
  · intro c2
    have h := h.2 c2
    obtain ⟨c3, h⟩ := h
    refine ⟨c3, ?_⟩
    have o4 := c3
    obtain ⟨b5, e6, h⟩ := h
    refine ⟨b5, e6, ?_⟩
    obtain ⟨c7, h⟩ := h
    refine ⟨c7, ?_⟩
    intro x9 e8
    have h := h x9 e8
    obtain ⟨c10, h⟩ := h
    refine ⟨c10, ?_⟩
    intro x12 e11
    have h := h x12 e11
    intro x14 e13
    have h := h x14 e13
    intro x16 e15
    have h := h x16 e15
    exact hX4 _ _ _ _ h K
theorem ky_X11_gotInAll_4 {b : Bool} {L : List (Nat × Nat)} (hU : ∀ q ∈ L, q ∈ nyT) (hL : ∀ q ∈ kyL_X11_gotInAll, q ∈ L) (hb : False → b = false) {Q : Int64 → HS → Prop} {v0 : Nat} {v1 : Int64} {v3 : Int32} {S0 S : HS} (h : P_X11_gotInAll_4 Q v0 v1 v3 S) (K : K9 b L S0 S) : P_X11_gotInAll_4 (fun r T => Q r T ∧ K9 b L S0 T) v0 v1 v3 S := h (fun v0 v1 v3 S => K9 b L S0 S → P_X11_gotInAll_4 (fun r T => Q r T ∧ K9 b L S0 T) v0 v1 v3 S) (fun v0 v1 v3 S hB K => fd_X11_gotInAll_4 (kyB_X11_gotInAll_4 hU hL hb hB K (fun _ _ _ _ hx K => hx K))) K
set_option maxRecDepth 20000 in
set_option maxHeartbeats 1000000 in
theorem ky_X11_gotInAll_0 {b : Bool} {L : List (Nat × Nat)} (hU : ∀ q ∈ L, q ∈ nyT) (hL : ∀ q ∈ kyL_X11_gotInAll, q ∈ L) (hb : False → b = false) {Q : Int64 → HS → Prop} {v0 : Nat} {S0 S : HS} (h : P_X11_gotInAll_0 Q v0 S) (K : K9 b L S0 S) : P_X11_gotInAll_0 (fun r T => Q r T ∧ K9 b L S0 T) v0 S := by
  delta P_X11_gotInAll_0 at h ⊢
  exact ky_X11_gotInAll_4 hU hL hb h K
theorem ky_X11_gotInAll {b : Bool} {L : List (Nat × Nat)} (hU : ∀ q ∈ L, q ∈ nyT) (hL : ∀ q ∈ kyL_X11_gotInAll, q ∈ L) (hb : False → b = false) {Q : Int64 → HS → Prop} {v0 : Nat} {S : HS} (h : P_X11_gotInAll v0 Q S) : P_X11_gotInAll v0 (fun r T => Q r T ∧ K9 b L S T) S := ky_X11_gotInAll_0 hU hL hb h (k9_rf b L S)
abbrev kyL_X11_held : List (Nat × Nat) := []
set_option maxRecDepth 20000 in
set_option maxHeartbeats 1000000 in
theorem ky_X11_held_68 {b : Bool} {L : List (Nat × Nat)} (hU : ∀ q ∈ L, q ∈ nyT) (hL : ∀ q ∈ kyL_X11_held, q ∈ L) (hb : False → b = false) {Q : Int32 → HS → Prop} {s0 : Nat} {s1 : Int32} {S0 S : HS} (h : P_X11_held_68 Q s0 s1 S) (K : K9 b L S0 S) : P_X11_held_68 (fun r T => Q r T ∧ K9 b L S0 T) s0 s1 S := by
  delta P_X11_held_68 at h ⊢
  obtain ⟨c1, h⟩ := h
  refine ⟨c1, ?_⟩
  refine cm_X11_good (ky_X11_good (b := b) hU (fun q hq => hL q ((by decide : ∀ q ∈ kyL_X11_good, q ∈ kyL_X11_held) q hq)) (fun z => z.elim) h) h (fun x2 x3 p5 h g4 => ?_)
  have h := h g4
  have K := k9_tr K p5.2
  exact ⟨h, K⟩
set_option maxRecDepth 20000 in
set_option maxHeartbeats 1000000 in
theorem ky_X11_held_0 {b : Bool} {L : List (Nat × Nat)} (hU : ∀ q ∈ L, q ∈ nyT) (hL : ∀ q ∈ kyL_X11_held, q ∈ L) (hb : False → b = false) {Q : Int32 → HS → Prop} {v0 : Nat} {v1 : Int32} {v2 : Int32} {v3 : Int32} {v4 : Int32} {v5 : Int32} {S0 S : HS} (h : P_X11_held_0 Q v0 v1 v2 v3 v4 v5 S) (K : K9 b L S0 S) : P_X11_held_0 (fun r T => Q r T ∧ K9 b L S0 T) v0 v1 v2 v3 v4 v5 S := by
  delta P_X11_held_0 at h ⊢
  obtain ⟨c1, h⟩ := h
  refine ⟨c1, ?_⟩
  have o2 := c1
  intro x4 e3
  have h := h x4 e3
  have K := k9_I K e3
  have o2 := ob_wI o2 e3
  refine cm_X11_refuses (ky_X11_refuses (b := b) hU (fun q hq => hL q ((by decide : ∀ q ∈ kyL_X11_refuses, q ∈ kyL_X11_held) q hq)) (fun z => z.elim) h) h (fun x5 x6 p8 h g7 => ?_)
  have h := h g7
  have K := k9_tr K p8.2
  have o2 := gr_ob p8.2.1 o2
  refine ⟨?_, ?_⟩
  · intro c9
    have h := h.1 c9
    obtain ⟨b10, e11, h⟩ := h
    refine ⟨b10, e11, ?_⟩
    obtain ⟨c12, h⟩ := h
    refine ⟨c12, ?_⟩
    have o13 := c12
    obtain ⟨b14, e15, h⟩ := h
    refine ⟨b14, e15, ?_⟩
    obtain ⟨c16, h⟩ := h
    refine ⟨c16, ?_⟩
    obtain ⟨c17, h⟩ := h
    refine ⟨c17, ?_⟩
    intro x19 e18
    have h := h x19 e18
    refine ⟨?_, ?_⟩
    · intro c20
      have h := h.1 c20
      refine cm_X11_isForward (ky_X11_isForward (b := b) hU (fun q hq => hL q ((by decide : ∀ q ∈ kyL_X11_isForward, q ∈ kyL_X11_held) q hq)) (fun z => z.elim) h) h (fun x21 x22 p25 h g23 g24 => ?_)
      have h := h g23 g24
      have K := k9_tr K p25.2
      have o2 := gr_ob p25.2.1 o2
      have o13 := gr_ob p25.2.1 o13
      refine ⟨?_, ?_⟩
      · intro c26
        have h := h.1 c26
        exact ky_X11_held_68 hU hL hb h K
      · intro c27
        have h := h.2 c27
        exact ky_X11_held_68 hU hL hb h K
    · intro c28
      have h := h.2 c28
      exact ky_X11_held_68 hU hL hb h K
  · intro c29
    have h := h.2 c29
    refine cm_X11_refused (ky_X11_refused (b := b) hU (fun q hq => hL q ((by decide : ∀ q ∈ kyL_X11_refused, q ∈ kyL_X11_held) q hq)) (fun z => z.elim) h) h (fun x30 x31 p33 h g32 => ?_)
    have h := h g32
    have K := k9_tr K p33.2
    have o2 := gr_ob p33.2.1 o2
    exact ⟨h, K⟩
theorem ky_X11_held {b : Bool} {L : List (Nat × Nat)} (hU : ∀ q ∈ L, q ∈ nyT) (hL : ∀ q ∈ kyL_X11_held, q ∈ L) (hb : False → b = false) {Q : Int32 → HS → Prop} {v0 : Nat} {v1 : Int32} {v2 : Int32} {v3 : Int32} {v4 : Int32} {v5 : Int32} {S : HS} (h : P_X11_held v0 v1 v2 v3 v4 v5 Q S) : P_X11_held v0 v1 v2 v3 v4 v5 (fun r T => Q r T ∧ K9 b L S T) S := ky_X11_held_0 hU hL hb h (k9_rf b L S)
abbrev kyL_X11_holds : List (Nat × Nat) := []
set_option maxRecDepth 20000 in
set_option maxHeartbeats 1000000 in
theorem ky_X11_holds_0 {b : Bool} {L : List (Nat × Nat)} (hU : ∀ q ∈ L, q ∈ nyT) (hL : ∀ q ∈ kyL_X11_holds, q ∈ L) (hb : False → b = false) {Q : Int64 → HS → Prop} {v0 : Nat} {S0 S : HS} (h : P_X11_holds_0 Q v0 S) (K : K9 b L S0 S) : P_X11_holds_0 (fun r T => Q r T ∧ K9 b L S0 T) v0 S := by
  delta P_X11_holds_0 at h ⊢
  obtain ⟨c1, h⟩ := h
  refine ⟨c1, ?_⟩
  have o2 := c1
  obtain ⟨b3, e4, h⟩ := h
  refine ⟨b3, e4, ?_⟩
  obtain ⟨c5, h⟩ := h
  refine ⟨c5, ?_⟩
  have o6 := c5
  obtain ⟨b7, e8, h⟩ := h
  refine ⟨b7, e8, ?_⟩
  intro x10 e9
  have h := h x10 e9
  obtain ⟨c11, h⟩ := h
  refine ⟨c11, ?_⟩
  obtain ⟨c12, h⟩ := h
  refine ⟨c12, ?_⟩
  intro x14 e13
  have h := h x14 e13
  refine ⟨?_, ?_⟩
  · intro c15
    have h := h.1 c15
    exact ⟨h, K⟩
  · intro c16
    have h := h.2 c16
    obtain ⟨b17, e18, h⟩ := h
    refine ⟨b17, e18, ?_⟩
    obtain ⟨c19, h⟩ := h
    refine ⟨c19, ?_⟩
    have o20 := c19
    obtain ⟨b21, e22, h⟩ := h
    refine ⟨b21, e22, ?_⟩
    intro x24 e23
    have h := h x24 e23
    obtain ⟨c25, h⟩ := h
    refine ⟨c25, ?_⟩
    obtain ⟨c26, h⟩ := h
    refine ⟨c26, ?_⟩
    intro x28 e27
    have h := h x28 e27
    exact ⟨h, K⟩
theorem ky_X11_holds {b : Bool} {L : List (Nat × Nat)} (hU : ∀ q ∈ L, q ∈ nyT) (hL : ∀ q ∈ kyL_X11_holds, q ∈ L) (hb : False → b = false) {Q : Int64 → HS → Prop} {v0 : Nat} {S : HS} (h : P_X11_holds v0 Q S) : P_X11_holds v0 (fun r T => Q r T ∧ K9 b L S T) S := ky_X11_holds_0 hU hL hb h (k9_rf b L S)
abbrev kyL_X11_init : List (Nat × Nat) := []
set_option maxRecDepth 20000 in
set_option maxHeartbeats 1000000 in
theorem ky_X11_init_0 {b : Bool} {L : List (Nat × Nat)} (hU : ∀ q ∈ L, q ∈ nyT) (hL : ∀ q ∈ kyL_X11_init, q ∈ L) (hb : False → b = false) {Q : HS → Prop} {v0 : Nat} {S0 S : HS} (h : P_X11_init_0 Q v0 S) (K : K9 b L S0 S) : P_X11_init_0 (fun T => Q T ∧ K9 b L S0 T) v0 S := by
  delta P_X11_init_0 at h ⊢
  obtain ⟨c1, h⟩ := h
  refine ⟨c1, ?_⟩
  have o2 := c1
  intro x4 e3
  have h := h x4 e3
  have K := k9_I K e3
  have o2 := ob_wI o2 e3
  intro x6 e5
  have h := h x6 e5
  intro x8 e7
  have h := h x8 e7
  have n9 := k9_nf K e5
  have K := k9_W K e5 e7
  have o2 := gr_ob (gr_of_new e7 e5) o2
  have o10 := ob_of_new e7
  intro x12 e11
  have h := h x12 e11
  have K := k9_R K hU e11 o2 (by decide) (by decide)
  have o2 := ob_wR o2 e11
  have o10 := ob_wR o10 e11
  intro x14 e13
  have h := h x14 e13
  intro x16 e15
  have h := h x16 e15
  have n17 := k9_nf K e13
  have K := k9_W K e13 e15
  have o2 := gr_ob (gr_of_new e15 e13) o2
  have o10 := gr_ob (gr_of_new e15 e13) o10
  have o18 := ob_of_new e15
  intro x20 e19
  have h := h x20 e19
  have K := k9_S K e19 o2 n17 (by decide)
  have o2 := ob_wR o2 e19
  have o10 := ob_wR o10 e19
  have o18 := ob_wR o18 e19
  intro x22 e21
  have h := h x22 e21
  intro x24 e23
  have h := h x24 e23
  have n25 := k9_nf K e21
  have K := k9_W K e21 e23
  have o2 := gr_ob (gr_of_new e23 e21) o2
  have o10 := gr_ob (gr_of_new e23 e21) o10
  have o18 := gr_ob (gr_of_new e23 e21) o18
  have o26 := ob_of_new e23
  intro x28 e27
  have h := h x28 e27
  have K := k9_R K hU e27 o2 (by decide) (by decide)
  have o2 := ob_wR o2 e27
  have o10 := ob_wR o10 e27
  have o18 := ob_wR o18 e27
  have o26 := ob_wR o26 e27
  intro x30 e29
  have h := h x30 e29
  intro x32 e31
  have h := h x32 e31
  have n33 := k9_nf K e29
  have K := k9_W K e29 e31
  have o2 := gr_ob (gr_of_new e31 e29) o2
  have o10 := gr_ob (gr_of_new e31 e29) o10
  have o18 := gr_ob (gr_of_new e31 e29) o18
  have o26 := gr_ob (gr_of_new e31 e29) o26
  have o34 := ob_of_new e31
  intro x36 e35
  have h := h x36 e35
  have K := k9_R K hU e35 o2 (by decide) (by decide)
  have o2 := ob_wR o2 e35
  have o10 := ob_wR o10 e35
  have o18 := ob_wR o18 e35
  have o26 := ob_wR o26 e35
  have o34 := ob_wR o34 e35
  intro x38 e37
  have h := h x38 e37
  have K := k9_I K e37
  have o2 := ob_wI o2 e37
  have o10 := ob_wI o10 e37
  have o18 := ob_wI o18 e37
  have o26 := ob_wI o26 e37
  have o34 := ob_wI o34 e37
  intro x40 e39
  have h := h x40 e39
  intro x42 e41
  have h := h x42 e41
  have n43 := k9_nf K e39
  have K := k9_W K e39 e41
  have o2 := gr_ob (gr_of_new e41 e39) o2
  have o10 := gr_ob (gr_of_new e41 e39) o10
  have o18 := gr_ob (gr_of_new e41 e39) o18
  have o26 := gr_ob (gr_of_new e41 e39) o26
  have o34 := gr_ob (gr_of_new e41 e39) o34
  have o44 := ob_of_new e41
  intro x46 e45
  have h := h x46 e45
  have K := k9_S K e45 o2 n43 (by decide)
  have o2 := ob_wR o2 e45
  have o10 := ob_wR o10 e45
  have o18 := ob_wR o18 e45
  have o26 := ob_wR o26 e45
  have o34 := ob_wR o34 e45
  have o44 := ob_wR o44 e45
  intro x48 e47
  have h := h x48 e47
  intro x50 e49
  have h := h x50 e49
  have n51 := k9_nf K e47
  have K := k9_W K e47 e49
  have o2 := gr_ob (gr_of_new e49 e47) o2
  have o10 := gr_ob (gr_of_new e49 e47) o10
  have o18 := gr_ob (gr_of_new e49 e47) o18
  have o26 := gr_ob (gr_of_new e49 e47) o26
  have o34 := gr_ob (gr_of_new e49 e47) o34
  have o44 := gr_ob (gr_of_new e49 e47) o44
  have o52 := ob_of_new e49
  intro x54 e53
  have h := h x54 e53
  have K := k9_S K e53 o2 n51 (by decide)
  have o2 := ob_wR o2 e53
  have o10 := ob_wR o10 e53
  have o18 := ob_wR o18 e53
  have o26 := ob_wR o26 e53
  have o34 := ob_wR o34 e53
  have o44 := ob_wR o44 e53
  have o52 := ob_wR o52 e53
  intro x56 e55
  have h := h x56 e55
  intro x58 e57
  have h := h x58 e57
  have n59 := k9_nf K e55
  have K := k9_W K e55 e57
  have o2 := gr_ob (gr_of_new e57 e55) o2
  have o10 := gr_ob (gr_of_new e57 e55) o10
  have o18 := gr_ob (gr_of_new e57 e55) o18
  have o26 := gr_ob (gr_of_new e57 e55) o26
  have o34 := gr_ob (gr_of_new e57 e55) o34
  have o44 := gr_ob (gr_of_new e57 e55) o44
  have o52 := gr_ob (gr_of_new e57 e55) o52
  have o60 := ob_of_new e57
  intro x62 e61
  have h := h x62 e61
  have K := k9_S K e61 o2 n59 (by decide)
  have o2 := ob_wR o2 e61
  have o10 := ob_wR o10 e61
  have o18 := ob_wR o18 e61
  have o26 := ob_wR o26 e61
  have o34 := ob_wR o34 e61
  have o44 := ob_wR o44 e61
  have o52 := ob_wR o52 e61
  have o60 := ob_wR o60 e61
  exact ⟨h, K⟩
theorem ky_X11_init {b : Bool} {L : List (Nat × Nat)} (hU : ∀ q ∈ L, q ∈ nyT) (hL : ∀ q ∈ kyL_X11_init, q ∈ L) (hb : False → b = false) {Q : HS → Prop} {v0 : Nat} {S : HS} (h : P_X11_init v0 Q S) : P_X11_init v0 (fun T => Q T ∧ K9 b L S T) S := ky_X11_init_0 hU hL hb h (k9_rf b L S)
abbrev kyL_X11_isName : List (Nat × Nat) := []
set_option maxRecDepth 20000 in
set_option maxHeartbeats 1000000 in
theorem ky_X11_isName_0 {b : Bool} {L : List (Nat × Nat)} (hU : ∀ q ∈ L, q ∈ nyT) (hL : ∀ q ∈ kyL_X11_isName, q ∈ L) (hb : False → b = false) {Q : Int32 → HS → Prop} {v0 : Nat} {S0 S : HS} (h : P_X11_isName_0 Q v0 S) (K : K9 b L S0 S) : P_X11_isName_0 (fun r T => Q r T ∧ K9 b L S0 T) v0 S := by
  delta P_X11_isName_0 at h ⊢
  obtain ⟨c1, h⟩ := h
  refine ⟨c1, ?_⟩
  intro x3 e2
  have h := h x3 e2
  refine ⟨?_, ?_⟩
  · intro c4
    have h := h.1 c4
    exact ⟨h, K⟩
  · intro c5
    have h := h.2 c5
    refine cm_X11_isWord (ky_X11_isWord (b := b) hU (fun q hq => hL q ((by decide : ∀ q ∈ kyL_X11_isWord, q ∈ kyL_X11_isName) q hq)) (fun z => z.elim) h) h (fun x6 x7 p10 h g8 g9 => ?_)
    have h := h g8 g9
    have K := k9_tr K p10.2
    refine ⟨?_, ?_⟩
    · intro c11
      have h := h.1 c11
      exact ⟨h, K⟩
    · intro c12
      have h := h.2 c12
      refine cm_X11_isWord (ky_X11_isWord (b := b) hU (fun q hq => hL q ((by decide : ∀ q ∈ kyL_X11_isWord, q ∈ kyL_X11_isName) q hq)) (fun z => z.elim) h) h (fun x13 x14 p17 h g15 g16 => ?_)
      have h := h g15 g16
      have K := k9_tr K p17.2
      refine ⟨?_, ?_⟩
      · intro c18
        have h := h.1 c18
        exact ⟨h, K⟩
      · intro c19
        have h := h.2 c19
        refine cm_X11_isWord (ky_X11_isWord (b := b) hU (fun q hq => hL q ((by decide : ∀ q ∈ kyL_X11_isWord, q ∈ kyL_X11_isName) q hq)) (fun z => z.elim) h) h (fun x20 x21 p24 h g22 g23 => ?_)
        have h := h g22 g23
        have K := k9_tr K p24.2
        refine ⟨?_, ?_⟩
        · intro c25
          have h := h.1 c25
          exact ⟨h, K⟩
        · intro c26
          have h := h.2 c26
          refine cm_X11_isWord (ky_X11_isWord (b := b) hU (fun q hq => hL q ((by decide : ∀ q ∈ kyL_X11_isWord, q ∈ kyL_X11_isName) q hq)) (fun z => z.elim) h) h (fun x27 x28 p31 h g29 g30 => ?_)
          have h := h g29 g30
          have K := k9_tr K p31.2
          refine ⟨?_, ?_⟩
          · intro c32
            have h := h.1 c32
            refine cm_X11_isWord (ky_X11_isWord (b := b) hU (fun q hq => hL q ((by decide : ∀ q ∈ kyL_X11_isWord, q ∈ kyL_X11_isName) q hq)) (fun z => z.elim) h) h (fun x33 x34 p37 h g35 g36 => ?_)
            have h := h g35 g36
            have K := k9_tr K p37.2
            refine ⟨?_, ?_⟩
            · intro c38
              have h := h.1 c38
              exact ⟨h, K⟩
            · intro c39
              have h := h.2 c39
              refine cm_X11_isWord (ky_X11_isWord (b := b) hU (fun q hq => hL q ((by decide : ∀ q ∈ kyL_X11_isWord, q ∈ kyL_X11_isName) q hq)) (fun z => z.elim) h) h (fun x40 x41 p44 h g42 g43 => ?_)
              have h := h g42 g43
              have K := k9_tr K p44.2
              refine ⟨?_, ?_⟩
              · intro c45
                have h := h.1 c45
                exact ⟨h, K⟩
              · intro c46
                have h := h.2 c46
                refine cm_X11_isWord (ky_X11_isWord (b := b) hU (fun q hq => hL q ((by decide : ∀ q ∈ kyL_X11_isWord, q ∈ kyL_X11_isName) q hq)) (fun z => z.elim) h) h (fun x47 x48 p51 h g49 g50 => ?_)
                have h := h g49 g50
                have K := k9_tr K p51.2
                refine ⟨?_, ?_⟩
                · intro c52
                  have h := h.1 c52
                  exact ⟨h, K⟩
                · intro c53
                  have h := h.2 c53
                  refine cm_X11_isWord (ky_X11_isWord (b := b) hU (fun q hq => hL q ((by decide : ∀ q ∈ kyL_X11_isWord, q ∈ kyL_X11_isName) q hq)) (fun z => z.elim) h) h (fun x54 x55 p58 h g56 g57 => ?_)
                  have h := h g56 g57
                  have K := k9_tr K p58.2
                  refine ⟨?_, ?_⟩
                  · intro c59
                    have h := h.1 c59
                    exact ⟨h, K⟩
                  · intro c60
                    have h := h.2 c60
                    refine cm_X11_isWord (ky_X11_isWord (b := b) hU (fun q hq => hL q ((by decide : ∀ q ∈ kyL_X11_isWord, q ∈ kyL_X11_isName) q hq)) (fun z => z.elim) h) h (fun x61 x62 p65 h g63 g64 => ?_)
                    have h := h g63 g64
                    have K := k9_tr K p65.2
                    refine ⟨?_, ?_⟩
                    · intro c66
                      have h := h.1 c66
                      exact ⟨h, K⟩
                    · intro c67
                      have h := h.2 c67
                      exact ⟨h, K⟩
          · intro c68
            have h := h.2 c68
            exact ⟨h, K⟩
theorem ky_X11_isName {b : Bool} {L : List (Nat × Nat)} (hU : ∀ q ∈ L, q ∈ nyT) (hL : ∀ q ∈ kyL_X11_isName, q ∈ L) (hb : False → b = false) {Q : Int32 → HS → Prop} {v0 : Nat} {S : HS} (h : P_X11_isName v0 Q S) : P_X11_isName v0 (fun r T => Q r T ∧ K9 b L S T) S := ky_X11_isName_0 hU hL hb h (k9_rf b L S)
abbrev kyL_X11_known : List (Nat × Nat) := []
set_option maxRecDepth 20000 in
set_option maxHeartbeats 1000000 in
theorem ky_X11_known_47 {b : Bool} {L : List (Nat × Nat)} (hU : ∀ q ∈ L, q ∈ nyT) (hL : ∀ q ∈ kyL_X11_known, q ∈ L) (hb : False → b = false) {Q : Int32 → HS → Prop} {v0 : Nat} {v2 : Int32} {S0 S : HS} (h : P_X11_known_47 Q v0 v2 S) (K : K9 b L S0 S) : P_X11_known_47 (fun r T => Q r T ∧ K9 b L S0 T) v0 v2 S := by
  delta P_X11_known_47 at h ⊢
  obtain ⟨c1, h⟩ := h
  refine ⟨c1, ?_⟩
  have o2 := c1
  intro x4 e3
  have h := h x4 e3
  refine ⟨?_, ?_⟩
  · intro c5
    have h := h.1 c5
    obtain ⟨b6, e7, h⟩ := h
    refine ⟨b6, e7, ?_⟩
    obtain ⟨c8, h⟩ := h
    refine ⟨c8, ?_⟩
    have o9 := c8
    obtain ⟨b10, e11, h⟩ := h
    refine ⟨b10, e11, ?_⟩
    obtain ⟨c12, h⟩ := h
    refine ⟨c12, ?_⟩
    obtain ⟨c13, h⟩ := h
    refine ⟨c13, ?_⟩
    intro x15 e14
    have h := h x15 e14
    exact ⟨h, K⟩
  · intro c16
    have h := h.2 c16
    exact ⟨h, K⟩
set_option maxRecDepth 20000 in
set_option maxHeartbeats 1000000 in
theorem ky_X11_known_42 {b : Bool} {L : List (Nat × Nat)} (hU : ∀ q ∈ L, q ∈ nyT) (hL : ∀ q ∈ kyL_X11_known, q ∈ L) (hb : False → b = false) {Q : Int32 → HS → Prop} {v0 : Nat} {v2 : Int32} {S0 S : HS} (h : P_X11_known_42 Q v0 v2 S) (K : K9 b L S0 S) : P_X11_known_42 (fun r T => Q r T ∧ K9 b L S0 T) v0 v2 S := by
  delta P_X11_known_42 at h ⊢
  obtain ⟨c1, h⟩ := h
  refine ⟨c1, ?_⟩
  refine cm_X11_flaw (ky_X11_flaw (b := b) hU (fun q hq => hL q ((by decide : ∀ q ∈ kyL_X11_flaw, q ∈ kyL_X11_known) q hq)) (fun z => z.elim) h) h (fun x2 p4 h g3 => ?_)
  have h := h g3
  have K := k9_tr K p4.2
  exact ky_X11_known_47 hU hL hb h K
set_option maxRecDepth 20000 in
set_option maxHeartbeats 1000000 in
theorem ky_X11_known_12 {b : Bool} {L : List (Nat × Nat)} (hU : ∀ q ∈ L, q ∈ nyT) (hL : ∀ q ∈ kyL_X11_known, q ∈ L) (hb : False → b = false) {Q : Int32 → HS → Prop} {v0 : Nat} {v1 : Int32} {S0 S : HS} (h : P_X11_known_12 Q v0 v1 S) (K : K9 b L S0 S) : P_X11_known_12 (fun r T => Q r T ∧ K9 b L S0 T) v0 v1 S := by
  delta P_X11_known_12 at h ⊢
  obtain ⟨c1, h⟩ := h
  refine ⟨c1, ?_⟩
  have o2 := c1
  obtain ⟨b3, e4, h⟩ := h
  refine ⟨b3, e4, ?_⟩
  intro x6 e5
  have h := h x6 e5
  obtain ⟨c7, h⟩ := h
  refine ⟨c7, ?_⟩
  refine cm_X10_find (ky_X10_find (b := b) hU (fun q hq => hL q ((by decide : ∀ q ∈ kyL_X10_find, q ∈ kyL_X11_known) q hq)) (fun z => z.elim) h) h (fun x8 x9 p11 h g10 => ?_)
  have h := h g10
  have K := k9_tr K p11.2
  have o2 := gr_ob p11.2.1 o2
  refine ⟨?_, ?_⟩
  · intro c12
    have h := h.1 c12
    exact ky_X11_known_42 hU hL hb h K
  · intro c13
    have h := h.2 c13
    obtain ⟨b14, e15, h⟩ := h
    refine ⟨b14, e15, ?_⟩
    obtain ⟨c16, h⟩ := h
    refine ⟨c16, ?_⟩
    have o17 := c16
    obtain ⟨b18, e19, h⟩ := h
    refine ⟨b18, e19, ?_⟩
    obtain ⟨c20, h⟩ := h
    refine ⟨c20, ?_⟩
    obtain ⟨c21, h⟩ := h
    refine ⟨c21, ?_⟩
    intro x23 e22
    have h := h x23 e22
    refine ⟨?_, ?_⟩
    · intro c24
      have h := h.1 c24
      exact ky_X11_known_47 hU hL hb h K
    · intro c25
      have h := h.2 c25
      exact ky_X11_known_42 hU hL hb h K
set_option maxRecDepth 20000 in
set_option maxHeartbeats 1000000 in
theorem ky_X11_known_0 {b : Bool} {L : List (Nat × Nat)} (hU : ∀ q ∈ L, q ∈ nyT) (hL : ∀ q ∈ kyL_X11_known, q ∈ L) (hb : False → b = false) {Q : Int32 → HS → Prop} {v0 : Nat} {v1 : Int32} {S0 S : HS} (h : P_X11_known_0 Q v0 v1 S) (K : K9 b L S0 S) : P_X11_known_0 (fun r T => Q r T ∧ K9 b L S0 T) v0 v1 S := by
  delta P_X11_known_0 at h ⊢
  obtain ⟨c1, h⟩ := h
  refine ⟨c1, ?_⟩
  refine cm_X11_isName (ky_X11_isName (b := b) hU (fun q hq => hL q ((by decide : ∀ q ∈ kyL_X11_isName, q ∈ kyL_X11_known) q hq)) (fun z => z.elim) h) h (fun x2 x3 p6 h g4 g5 => ?_)
  have h := h g4 g5
  have K := k9_tr K p6.2
  refine ⟨?_, ?_⟩
  · intro c7
    have h := h.1 c7
    exact ky_X11_known_12 hU hL hb h K
  · intro c8
    have h := h.2 c8
    refine cm_X11_flaw (ky_X11_flaw (b := b) hU (fun q hq => hL q ((by decide : ∀ q ∈ kyL_X11_flaw, q ∈ kyL_X11_known) q hq)) (fun z => z.elim) h) h (fun x9 p11 h g10 => ?_)
    have h := h g10
    have K := k9_tr K p11.2
    exact ky_X11_known_12 hU hL hb h K
theorem ky_X11_known {b : Bool} {L : List (Nat × Nat)} (hU : ∀ q ∈ L, q ∈ nyT) (hL : ∀ q ∈ kyL_X11_known, q ∈ L) (hb : False → b = false) {Q : Int32 → HS → Prop} {v0 : Nat} {v1 : Int32} {S : HS} (h : P_X11_known v0 v1 Q S) : P_X11_known v0 v1 (fun r T => Q r T ∧ K9 b L S T) S := ky_X11_known_0 hU hL hb h (k9_rf b L S)
abbrev kyL_X11_spotOf : List (Nat × Nat) := []
set_option maxRecDepth 20000 in
set_option maxHeartbeats 1000000 in
theorem ky_X11_spotOf_0 {b : Bool} {L : List (Nat × Nat)} (hU : ∀ q ∈ L, q ∈ nyT) (hL : ∀ q ∈ kyL_X11_spotOf, q ∈ L) (hb : False → b = false) {Q : Int32 → HS → Prop} {v0 : Int32} {v1 : Int32} {S0 S : HS} (h : P_X11_spotOf_0 Q v0 v1 S) (K : K9 b L S0 S) : P_X11_spotOf_0 (fun r T => Q r T ∧ K9 b L S0 T) v0 v1 S := by
  delta P_X11_spotOf_0 at h ⊢
  exact ⟨h, K⟩
theorem ky_X11_spotOf {b : Bool} {L : List (Nat × Nat)} (hU : ∀ q ∈ L, q ∈ nyT) (hL : ∀ q ∈ kyL_X11_spotOf, q ∈ L) (hb : False → b = false) {Q : Int32 → HS → Prop} {v0 : Int32} {v1 : Int32} {S : HS} (h : P_X11_spotOf v0 v1 Q S) : P_X11_spotOf v0 v1 (fun r T => Q r T ∧ K9 b L S T) S := ky_X11_spotOf_0 hU hL hb h (k9_rf b L S)
abbrev kyL_X11_meanOf : List (Nat × Nat) := []
set_option maxRecDepth 20000 in
set_option maxHeartbeats 1000000 in
theorem ky_X11_meanOf_0 {b : Bool} {L : List (Nat × Nat)} (hU : ∀ q ∈ L, q ∈ nyT) (hL : ∀ q ∈ kyL_X11_meanOf, q ∈ L) (hb : False → b = false) {Q : Int64 → HS → Prop} {v0 : Nat} {v1 : Int32} {v2 : Int32} {v3 : Int32} {v4 : Int32} {v5 : Int32} {S0 S : HS} (h : P_X11_meanOf_0 Q v0 v1 v2 v3 v4 v5 S) (K : K9 b L S0 S) : P_X11_meanOf_0 (fun r T => Q r T ∧ K9 b L S0 T) v0 v1 v2 v3 v4 v5 S := by
  delta P_X11_meanOf_0 at h ⊢
  obtain ⟨c1, h⟩ := h
  refine ⟨c1, ?_⟩
  have o2 := c1
  refine cm_X11_hourOf (ky_X11_hourOf (b := b) hU (fun q hq => hL q ((by decide : ∀ q ∈ kyL_X11_hourOf, q ∈ kyL_X11_meanOf) q hq)) (fun z => z.elim) h) h (fun x3 x4 p6 h g5 => ?_)
  have h := h g5
  have K := k9_tr K p6.2
  have o2 := gr_ob p6.2.1 o2
  obtain ⟨b7, e8, h⟩ := h
  refine ⟨b7, e8, ?_⟩
  obtain ⟨c9, h⟩ := h
  refine ⟨c9, ?_⟩
  intro x11 e10
  have h := h x11 e10
  refine ⟨?_, ?_⟩
  · intro c12
    have h := h.1 c12
    exact ⟨h, K⟩
  · intro c13
    have h := h.2 c13
    refine cm_X11_wetOf (ky_X11_wetOf (b := b) hU (fun q hq => hL q ((by decide : ∀ q ∈ kyL_X11_wetOf, q ∈ kyL_X11_meanOf) q hq)) (fun z => z.elim) h) h (fun x14 x15 p17 h g16 => ?_)
    have h := h g16
    have K := k9_tr K p17.2
    have o2 := gr_ob p17.2.1 o2
    obtain ⟨b18, e19, h⟩ := h
    refine ⟨b18, e19, ?_⟩
    obtain ⟨c20, h⟩ := h
    refine ⟨c20, ?_⟩
    have o21 := c20
    obtain ⟨b22, e23, h⟩ := h
    refine ⟨b22, e23, ?_⟩
    obtain ⟨c24, h⟩ := h
    refine ⟨c24, ?_⟩
    obtain ⟨c25, h⟩ := h
    refine ⟨c25, ?_⟩
    intro x27 e26
    have h := h x27 e26
    exact ⟨h, K⟩
theorem ky_X11_meanOf {b : Bool} {L : List (Nat × Nat)} (hU : ∀ q ∈ L, q ∈ nyT) (hL : ∀ q ∈ kyL_X11_meanOf, q ∈ L) (hb : False → b = false) {Q : Int64 → HS → Prop} {v0 : Nat} {v1 : Int32} {v2 : Int32} {v3 : Int32} {v4 : Int32} {v5 : Int32} {S : HS} (h : P_X11_meanOf v0 v1 v2 v3 v4 v5 Q S) : P_X11_meanOf v0 v1 v2 v3 v4 v5 (fun r T => Q r T ∧ K9 b L S T) S := ky_X11_meanOf_0 hU hL hb h (k9_rf b L S)
abbrev kyL_X11_takes : List (Nat × Nat) := [(11, 16)]
set_option maxRecDepth 20000 in
set_option maxHeartbeats 1000000 in
theorem ky_X11_takes_77 {b : Bool} {L : List (Nat × Nat)} (hU : ∀ q ∈ L, q ∈ nyT) (hL : ∀ q ∈ kyL_X11_takes, q ∈ L) (hb : False → b = false) {Q : HS → Prop} {v0 : Nat} {v1 : Int32} {v2 : Int32} {v5 : Int32} {v6 : Int64} {S0 S : HS} (h : P_X11_takes_77 Q v0 v1 v2 v5 v6 S) (K : K9 b L S0 S) : P_X11_takes_77 (fun T => Q T ∧ K9 b L S0 T) v0 v1 v2 v5 v6 S := by
  delta P_X11_takes_77 at h ⊢
  obtain ⟨c1, h⟩ := h
  refine ⟨c1, ?_⟩
  have o2 := c1
  obtain ⟨b3, e4, h⟩ := h
  refine ⟨b3, e4, ?_⟩
  have n5 := k9_nr K e4 o2 (hL _ (by decide))
  obtain ⟨c6, h⟩ := h
  refine ⟨c6, ?_⟩
  obtain ⟨c7, h⟩ := h
  refine ⟨c7, ?_⟩
  intro x9 e8
  have h := h x9 e8
  have K := k9_J K e8 n5
  have o2 := ob_wJ o2 e8
  obtain ⟨b10, e11, h⟩ := h
  refine ⟨b10, e11, ?_⟩
  obtain ⟨b12, e13, h⟩ := h
  refine ⟨b12, e13, ?_⟩
  obtain ⟨c14, h⟩ := h
  refine ⟨c14, ?_⟩
  obtain ⟨c15, h⟩ := h
  refine ⟨c15, ?_⟩
  intro x17 e16
  have h := h x17 e16
  obtain ⟨c18, h⟩ := h
  refine ⟨c18, ?_⟩
  obtain ⟨c19, h⟩ := h
  refine ⟨c19, ?_⟩
  intro x21 e20
  have h := h x21 e20
  have K := k9_I K e20
  have o2 := ob_wI o2 e20
  obtain ⟨b22, e23, h⟩ := h
  refine ⟨b22, e23, ?_⟩
  obtain ⟨c24, h⟩ := h
  refine ⟨c24, ?_⟩
  obtain ⟨c25, h⟩ := h
  refine ⟨c25, ?_⟩
  intro x27 e26
  have h := h x27 e26
  have K := k9_I K e26
  have o2 := ob_wI o2 e26
  exact ⟨h, K⟩
set_option maxRecDepth 20000 in
set_option maxHeartbeats 1000000 in
theorem ky_X11_takes_0 {b : Bool} {L : List (Nat × Nat)} (hU : ∀ q ∈ L, q ∈ nyT) (hL : ∀ q ∈ kyL_X11_takes, q ∈ L) (hb : False → b = false) {Q : HS → Prop} {v0 : Nat} {v1 : Int32} {v2 : Int32} {v3 : Int64} {v5 : Int32} {S0 S : HS} (h : P_X11_takes_0 Q v0 v1 v2 v3 v5 S) (K : K9 b L S0 S) : P_X11_takes_0 (fun T => Q T ∧ K9 b L S0 T) v0 v1 v2 v3 v5 S := by
  delta P_X11_takes_0 at h ⊢
  obtain ⟨c1, h⟩ := h
  refine ⟨c1, ?_⟩
  have o2 := c1
  obtain ⟨b3, e4, h⟩ := h
  refine ⟨b3, e4, ?_⟩
  obtain ⟨c5, h⟩ := h
  refine ⟨c5, ?_⟩
  obtain ⟨c6, h⟩ := h
  refine ⟨c6, ?_⟩
  intro x8 e7
  have h := h x8 e7
  refine ⟨?_, ?_⟩
  · intro c9
    have h := h.1 c9
    obtain ⟨b10, e11, h⟩ := h
    refine ⟨b10, e11, ?_⟩
    obtain ⟨c12, h⟩ := h
    refine ⟨c12, ?_⟩
    obtain ⟨c13, h⟩ := h
    refine ⟨c13, ?_⟩
    intro x15 e14
    have h := h x15 e14
    intro x17 e16
    have h := h x17 e16
    obtain ⟨b18, e19, h⟩ := h
    refine ⟨b18, e19, ?_⟩
    obtain ⟨c20, h⟩ := h
    refine ⟨c20, ?_⟩
    obtain ⟨c21, h⟩ := h
    refine ⟨c21, ?_⟩
    intro x23 e22
    have h := h x23 e22
    refine ⟨?_, ?_⟩
    · intro c24
      have h := h.1 c24
      exact ky_X11_takes_77 hU hL hb h K
    · intro c25
      have h := h.2 c25
      obtain ⟨b26, e27, h⟩ := h
      refine ⟨b26, e27, ?_⟩
      obtain ⟨c28, h⟩ := h
      refine ⟨c28, ?_⟩
      obtain ⟨c29, h⟩ := h
      refine ⟨c29, ?_⟩
      intro x31 e30
      have h := h x31 e30
      refine ⟨?_, ?_⟩
      · intro c32
        have h := h.1 c32
        exact ⟨h, K⟩
      · intro c33
        have h := h.2 c33
        obtain ⟨b34, e35, h⟩ := h
        refine ⟨b34, e35, ?_⟩
        obtain ⟨c36, h⟩ := h
        refine ⟨c36, ?_⟩
        obtain ⟨c37, h⟩ := h
        refine ⟨c37, ?_⟩
        intro x39 e38
        have h := h x39 e38
        refine ⟨?_, ?_⟩
        · intro c40
          have h := h.1 c40
          exact ky_X11_takes_77 hU hL hb h K
        · intro c41
          have h := h.2 c41
          obtain ⟨b42, e43, h⟩ := h
          refine ⟨b42, e43, ?_⟩
          obtain ⟨c44, h⟩ := h
          refine ⟨c44, ?_⟩
          obtain ⟨c45, h⟩ := h
          refine ⟨c45, ?_⟩
          intro x47 e46
          have h := h x47 e46
          obtain ⟨b48, e49, h⟩ := h
          refine ⟨b48, e49, ?_⟩
          obtain ⟨c50, h⟩ := h
          refine ⟨c50, ?_⟩
          obtain ⟨c51, h⟩ := h
          refine ⟨c51, ?_⟩
          intro x53 e52
          have h := h x53 e52
          refine ⟨?_, ?_⟩
          · intro c54
            have h := h.1 c54
            exact ky_X11_takes_77 hU hL hb h K
          · intro c55
            have h := h.2 c55
            exact ⟨h, K⟩
  · intro c56
    have h := h.2 c56
    exact ⟨h, K⟩
theorem ky_X11_takes {b : Bool} {L : List (Nat × Nat)} (hU : ∀ q ∈ L, q ∈ nyT) (hL : ∀ q ∈ kyL_X11_takes, q ∈ L) (hb : False → b = false) {Q : HS → Prop} {v0 : Nat} {v1 : Int32} {v2 : Int32} {v3 : Int64} {v5 : Int32} {S : HS} (h : P_X11_takes v0 v1 v2 v3 v5 Q S) : P_X11_takes v0 v1 v2 v3 v5 (fun T => Q T ∧ K9 b L S T) S := ky_X11_takes_0 hU hL hb h (k9_rf b L S)
abbrev kyL_X11_waitsOf : List (Nat × Nat) := []
set_option maxRecDepth 20000 in
set_option maxHeartbeats 1000000 in
theorem ky_X11_waitsOf_0 {b : Bool} {L : List (Nat × Nat)} (hU : ∀ q ∈ L, q ∈ nyT) (hL : ∀ q ∈ kyL_X11_waitsOf, q ∈ L) (hb : False → b = false) {Q : Int64 → HS → Prop} {v0 : Nat} {v1 : Int32} {v2 : Int32} {v3 : Int32} {S0 S : HS} (h : P_X11_waitsOf_0 Q v0 v1 v2 v3 S) (K : K9 b L S0 S) : P_X11_waitsOf_0 (fun r T => Q r T ∧ K9 b L S0 T) v0 v1 v2 v3 S := by
  delta P_X11_waitsOf_0 at h ⊢
  obtain ⟨c1, h⟩ := h
  refine ⟨c1, ?_⟩
  have o2 := c1
  refine cm_X11_hourOf (ky_X11_hourOf (b := b) hU (fun q hq => hL q ((by decide : ∀ q ∈ kyL_X11_hourOf, q ∈ kyL_X11_waitsOf) q hq)) (fun z => z.elim) h) h (fun x3 x4 p6 h g5 => ?_)
  have h := h g5
  have K := k9_tr K p6.2
  have o2 := gr_ob p6.2.1 o2
  obtain ⟨b7, e8, h⟩ := h
  refine ⟨b7, e8, ?_⟩
  obtain ⟨c9, h⟩ := h
  refine ⟨c9, ?_⟩
  have o10 := c9
  obtain ⟨b11, e12, h⟩ := h
  refine ⟨b11, e12, ?_⟩
  obtain ⟨c13, h⟩ := h
  refine ⟨c13, ?_⟩
  obtain ⟨c14, h⟩ := h
  refine ⟨c14, ?_⟩
  intro x16 e15
  have h := h x16 e15
  refine ⟨?_, ?_⟩
  · intro c17
    have h := h.1 c17
    exact ⟨h, K⟩
  · intro c18
    have h := h.2 c18
    obtain ⟨b19, e20, h⟩ := h
    refine ⟨b19, e20, ?_⟩
    obtain ⟨c21, h⟩ := h
    refine ⟨c21, ?_⟩
    intro x23 e22
    have h := h x23 e22
    refine ⟨?_, ?_⟩
    · intro c24
      have h := h.1 c24
      refine cm_X11_drips (ky_X11_drips (b := b) hU (fun q hq => hL q ((by decide : ∀ q ∈ kyL_X11_drips, q ∈ kyL_X11_waitsOf) q hq)) (fun z => z.elim) h) h (fun x25 x26 p28 h g27 => ?_)
      have h := h g27
      have K := k9_tr K p28.2
      have o2 := gr_ob p28.2.1 o2
      have o10 := gr_ob p28.2.1 o10
      obtain ⟨b29, e30, h⟩ := h
      refine ⟨b29, e30, ?_⟩
      obtain ⟨c31, h⟩ := h
      refine ⟨c31, ?_⟩
      have o32 := c31
      obtain ⟨b33, e34, h⟩ := h
      refine ⟨b33, e34, ?_⟩
      obtain ⟨c35, h⟩ := h
      refine ⟨c35, ?_⟩
      obtain ⟨c36, h⟩ := h
      refine ⟨c36, ?_⟩
      intro x38 e37
      have h := h x38 e37
      exact ⟨h, K⟩
    · intro c39
      have h := h.2 c39
      exact ⟨h, K⟩
theorem ky_X11_waitsOf {b : Bool} {L : List (Nat × Nat)} (hU : ∀ q ∈ L, q ∈ nyT) (hL : ∀ q ∈ kyL_X11_waitsOf, q ∈ L) (hb : False → b = false) {Q : Int64 → HS → Prop} {v0 : Nat} {v1 : Int32} {v2 : Int32} {v3 : Int32} {S : HS} (h : P_X11_waitsOf v0 v1 v2 v3 Q S) : P_X11_waitsOf v0 v1 v2 v3 (fun r T => Q r T ∧ K9 b L S T) S := ky_X11_waitsOf_0 hU hL hb h (k9_rf b L S)
abbrev kyL_X11_tries : List (Nat × Nat) := [(11, 16)]
set_option maxRecDepth 20000 in
set_option maxHeartbeats 1000000 in
theorem ky_X11_tries_140 {b : Bool} {L : List (Nat × Nat)} (hU : ∀ q ∈ L, q ∈ nyT) (hL : ∀ q ∈ kyL_X11_tries, q ∈ L) (hb : False → b = false) {Q : HS → Prop} {X3 X3_2 : Nat → Int32 → Int32 → Int32 → Int32 → Int32 → HS → Prop} {X18 X18_2 : Nat → Int32 → Int32 → Int32 → Int32 → Int32 → Int32 → HS → Prop} {X53 X53_2 : Nat → Int32 → Int32 → Int32 → Int32 → Int32 → Int32 → Int32 → HS → Prop} {v0 : Nat} {v1 : Int32} {v2 : Int32} {v3 : Int32} {v4 : Int32} {v5 : Int32} {v6 : Int32} {v7 : Int32} {S0 S : HS} (h : P_X11_tries_140 Q X3 X18 X53 v0 v1 v2 v3 v4 v5 v6 v7 S) (K : K9 b L S0 S) (hX3 : ∀ (u0 : Nat) (u1 : Int32) (u2 : Int32) (u3 : Int32) (u4 : Int32) (u5 : Int32) (u6 : HS), X3 u0 u1 u2 u3 u4 u5 u6 → K9 b L S0 u6 → X3_2 u0 u1 u2 u3 u4 u5 u6) (hX18 : ∀ (u0 : Nat) (u1 : Int32) (u2 : Int32) (u3 : Int32) (u4 : Int32) (u5 : Int32) (u6 : Int32) (u7 : HS), X18 u0 u1 u2 u3 u4 u5 u6 u7 → K9 b L S0 u7 → X18_2 u0 u1 u2 u3 u4 u5 u6 u7) (hX53 : ∀ (u0 : Nat) (u1 : Int32) (u2 : Int32) (u3 : Int32) (u4 : Int32) (u5 : Int32) (u6 : Int32) (u7 : Int32) (u8 : HS), X53 u0 u1 u2 u3 u4 u5 u6 u7 u8 → K9 b L S0 u8 → X53_2 u0 u1 u2 u3 u4 u5 u6 u7 u8) : P_X11_tries_140 (fun T => Q T ∧ K9 b L S0 T) X3_2 X18_2 X53_2 v0 v1 v2 v3 v4 v5 v6 v7 S := by
  delta P_X11_tries_140 at h ⊢
  intro x2 e1
  have h := h x2 e1
  exact hX53 _ _ _ _ _ _ _ _ _ h K
set_option maxRecDepth 20000 in
set_option maxHeartbeats 1000000 in
theorem ky_X11_tries_146 {b : Bool} {L : List (Nat × Nat)} (hU : ∀ q ∈ L, q ∈ nyT) (hL : ∀ q ∈ kyL_X11_tries, q ∈ L) (hb : False → b = false) {Q : HS → Prop} {X3 X3_2 : Nat → Int32 → Int32 → Int32 → Int32 → Int32 → HS → Prop} {X18 X18_2 : Nat → Int32 → Int32 → Int32 → Int32 → Int32 → Int32 → HS → Prop} {v0 : Nat} {v1 : Int32} {v2 : Int32} {v3 : Int32} {v4 : Int32} {v5 : Int32} {v6 : Int32} {S0 S : HS} (h : P_X11_tries_146 Q X3 X18 v0 v1 v2 v3 v4 v5 v6 S) (K : K9 b L S0 S) (hX3 : ∀ (u0 : Nat) (u1 : Int32) (u2 : Int32) (u3 : Int32) (u4 : Int32) (u5 : Int32) (u6 : HS), X3 u0 u1 u2 u3 u4 u5 u6 → K9 b L S0 u6 → X3_2 u0 u1 u2 u3 u4 u5 u6) (hX18 : ∀ (u0 : Nat) (u1 : Int32) (u2 : Int32) (u3 : Int32) (u4 : Int32) (u5 : Int32) (u6 : Int32) (u7 : HS), X18 u0 u1 u2 u3 u4 u5 u6 u7 → K9 b L S0 u7 → X18_2 u0 u1 u2 u3 u4 u5 u6 u7) : P_X11_tries_146 (fun T => Q T ∧ K9 b L S0 T) X3_2 X18_2 v0 v1 v2 v3 v4 v5 v6 S := by
  delta P_X11_tries_146 at h ⊢
  intro x2 e1
  have h := h x2 e1
  exact hX18 _ _ _ _ _ _ _ _ h K
set_option maxRecDepth 20000 in
set_option maxHeartbeats 1000000 in
theorem kyB_X11_tries_53 {b : Bool} {L : List (Nat × Nat)} (hU : ∀ q ∈ L, q ∈ nyT) (hL : ∀ q ∈ kyL_X11_tries, q ∈ L) (hb : False → b = false) {Q : HS → Prop} {X3 X3_2 : Nat → Int32 → Int32 → Int32 → Int32 → Int32 → HS → Prop} {X18 X18_2 : Nat → Int32 → Int32 → Int32 → Int32 → Int32 → Int32 → HS → Prop} {X53 X53_2 : Nat → Int32 → Int32 → Int32 → Int32 → Int32 → Int32 → Int32 → HS → Prop} {v0 : Nat} {v1 : Int32} {v2 : Int32} {v3 : Int32} {v4 : Int32} {v5 : Int32} {v6 : Int32} {v7 : Int32} {S0 S : HS} (h : B_X11_tries_53 Q X3 X18 X53 v0 v1 v2 v3 v4 v5 v6 v7 S) (K : K9 b L S0 S) (hX3 : ∀ (u0 : Nat) (u1 : Int32) (u2 : Int32) (u3 : Int32) (u4 : Int32) (u5 : Int32) (u6 : HS), X3 u0 u1 u2 u3 u4 u5 u6 → K9 b L S0 u6 → X3_2 u0 u1 u2 u3 u4 u5 u6) (hX18 : ∀ (u0 : Nat) (u1 : Int32) (u2 : Int32) (u3 : Int32) (u4 : Int32) (u5 : Int32) (u6 : Int32) (u7 : HS), X18 u0 u1 u2 u3 u4 u5 u6 u7 → K9 b L S0 u7 → X18_2 u0 u1 u2 u3 u4 u5 u6 u7) (hX53 : ∀ (u0 : Nat) (u1 : Int32) (u2 : Int32) (u3 : Int32) (u4 : Int32) (u5 : Int32) (u6 : Int32) (u7 : Int32) (u8 : HS), X53 u0 u1 u2 u3 u4 u5 u6 u7 u8 → K9 b L S0 u8 → X53_2 u0 u1 u2 u3 u4 u5 u6 u7 u8) : B_X11_tries_53 (fun T => Q T ∧ K9 b L S0 T) X3_2 X18_2 X53_2 v0 v1 v2 v3 v4 v5 v6 v7 S := by
  delta B_X11_tries_53 at h ⊢
  obtain ⟨c1, h⟩ := h
  refine ⟨c1, ?_⟩
  have o2 := c1
  obtain ⟨b3, e4, h⟩ := h
  refine ⟨b3, e4, ?_⟩
  obtain ⟨c5, h⟩ := h
  refine ⟨c5, ?_⟩
  have o6 := c5
  obtain ⟨b7, e8, h⟩ := h
  refine ⟨b7, e8, ?_⟩
  obtain ⟨c9, h⟩ := h
  refine ⟨c9, ?_⟩
  obtain ⟨c10, h⟩ := h
  refine ⟨c10, ?_⟩
  intro x12 e11
  have h := h x12 e11
  refine ⟨?_, ?_⟩
  · intro c13
    have h := h.1 c13
    exact ky_X11_tries_146 hU hL hb h K hX3 hX18
  · intro c14
    have h := h.2 c14
    obtain ⟨b15, e16, h⟩ := h
    refine ⟨b15, e16, ?_⟩
    obtain ⟨c17, h⟩ := h
    refine ⟨c17, ?_⟩
    refine cm_X10_minutes (ky_X10_minutes (b := b) hU (fun q hq => hL q ((by decide : ∀ q ∈ kyL_X10_minutes, q ∈ kyL_X11_tries) q hq)) (fun z => z.elim) h) h (fun x18 x19 p21 h g20 => ?_)
    have h := h g20
    have K := k9_tr K p21.2
    have o2 := gr_ob p21.2.1 o2
    have o6 := gr_ob p21.2.1 o6
    intro x23 e22
    have h := h x23 e22
    refine ⟨?_, ?_⟩
    · intro c24
      have h := h.1 c24
      exact ky_X11_tries_140 hU hL hb h K hX3 hX18 hX53
    · intro c25
      have h := h.2 c25
      refine cm_X11_spotOf (ky_X11_spotOf (b := b) hU (fun q hq => hL q ((by decide : ∀ q ∈ kyL_X11_spotOf, q ∈ kyL_X11_tries) q hq)) (fun z => z.elim) h) h (fun x26 x27 p29 h g28 => ?_)
      have h := h g28
      have K := k9_tr K p29.2
      have o2 := gr_ob p29.2.1 o2
      have o6 := gr_ob p29.2.1 o6
      obtain ⟨b30, e31, h⟩ := h
      refine ⟨b30, e31, ?_⟩
      obtain ⟨c32, h⟩ := h
      refine ⟨c32, ?_⟩
      refine cm_X10_ends (ky_X10_ends (b := b) hU (fun q hq => hL q ((by decide : ∀ q ∈ kyL_X10_ends, q ∈ kyL_X11_tries) q hq)) (fun z => z.elim) h) h (fun x33 x34 p36 h g35 => ?_)
      have h := h g35
      have K := k9_tr K p36.2
      have o2 := gr_ob p36.2.1 o2
      have o6 := gr_ob p36.2.1 o6
      refine cm_X11_spotOf (ky_X11_spotOf (b := b) hU (fun q hq => hL q ((by decide : ∀ q ∈ kyL_X11_spotOf, q ∈ kyL_X11_tries) q hq)) (fun z => z.elim) h) h (fun x37 x38 p40 h g39 => ?_)
      have h := h g39
      have K := k9_tr K p40.2
      have o2 := gr_ob p40.2.1 o2
      have o6 := gr_ob p40.2.1 o6
      refine cm_X11_meanOf (ky_X11_meanOf (b := b) hU (fun q hq => hL q ((by decide : ∀ q ∈ kyL_X11_meanOf, q ∈ kyL_X11_tries) q hq)) (fun z => z.elim) h) h (fun x41 x42 p44 h g43 => ?_)
      have h := h g43
      have K := k9_tr K p44.2
      have o2 := gr_ob p44.2.1 o2
      have o6 := gr_ob p44.2.1 o6
      refine cm_X11_takes (ky_X11_takes (b := b) hU (fun q hq => hL q ((by decide : ∀ q ∈ kyL_X11_takes, q ∈ kyL_X11_tries) q hq)) (fun z => z.elim) h) h (fun x45 p47 h g46 => ?_)
      have h := h g46
      have K := k9_tr K p47.2
      have o2 := gr_ob p47.2.1 o2
      have o6 := gr_ob p47.2.1 o6
      exact ky_X11_tries_140 hU hL hb h K hX3 hX18 hX53
theorem ky_X11_tries_53 {b : Bool} {L : List (Nat × Nat)} (hU : ∀ q ∈ L, q ∈ nyT) (hL : ∀ q ∈ kyL_X11_tries, q ∈ L) (hb : False → b = false) {Q : HS → Prop} {X3 X3_2 : Nat → Int32 → Int32 → Int32 → Int32 → Int32 → HS → Prop} {X18 X18_2 : Nat → Int32 → Int32 → Int32 → Int32 → Int32 → Int32 → HS → Prop} {v0 : Nat} {v1 : Int32} {v2 : Int32} {v3 : Int32} {v4 : Int32} {v5 : Int32} {v6 : Int32} {v7 : Int32} {S0 S : HS} (h : P_X11_tries_53 Q X3 X18 v0 v1 v2 v3 v4 v5 v6 v7 S) (K : K9 b L S0 S) (hX3 : ∀ (u0 : Nat) (u1 : Int32) (u2 : Int32) (u3 : Int32) (u4 : Int32) (u5 : Int32) (u6 : HS), X3 u0 u1 u2 u3 u4 u5 u6 → K9 b L S0 u6 → X3_2 u0 u1 u2 u3 u4 u5 u6) (hX18 : ∀ (u0 : Nat) (u1 : Int32) (u2 : Int32) (u3 : Int32) (u4 : Int32) (u5 : Int32) (u6 : Int32) (u7 : HS), X18 u0 u1 u2 u3 u4 u5 u6 u7 → K9 b L S0 u7 → X18_2 u0 u1 u2 u3 u4 u5 u6 u7) : P_X11_tries_53 (fun T => Q T ∧ K9 b L S0 T) X3_2 X18_2 v0 v1 v2 v3 v4 v5 v6 v7 S := h (fun v0 v1 v2 v3 v4 v5 v6 v7 S => K9 b L S0 S → P_X11_tries_53 (fun T => Q T ∧ K9 b L S0 T) X3_2 X18_2 v0 v1 v2 v3 v4 v5 v6 v7 S) (fun v0 v1 v2 v3 v4 v5 v6 v7 S hB K => fd_X11_tries_53 (kyB_X11_tries_53 hU hL hb hB K hX3 hX18 (fun _ _ _ _ _ _ _ _ _ hx K => hx K))) K
set_option maxRecDepth 20000 in
set_option maxHeartbeats 1000000 in
theorem kyB_X11_tries_18 {b : Bool} {L : List (Nat × Nat)} (hU : ∀ q ∈ L, q ∈ nyT) (hL : ∀ q ∈ kyL_X11_tries, q ∈ L) (hb : False → b = false) {Q : HS → Prop} {X3 X3_2 : Nat → Int32 → Int32 → Int32 → Int32 → Int32 → HS → Prop} {X18 X18_2 : Nat → Int32 → Int32 → Int32 → Int32 → Int32 → Int32 → HS → Prop} {v0 : Nat} {v1 : Int32} {v2 : Int32} {v3 : Int32} {v4 : Int32} {v5 : Int32} {v6 : Int32} {S0 S : HS} (h : B_X11_tries_18 Q X3 X18 v0 v1 v2 v3 v4 v5 v6 S) (K : K9 b L S0 S) (hX3 : ∀ (u0 : Nat) (u1 : Int32) (u2 : Int32) (u3 : Int32) (u4 : Int32) (u5 : Int32) (u6 : HS), X3 u0 u1 u2 u3 u4 u5 u6 → K9 b L S0 u6 → X3_2 u0 u1 u2 u3 u4 u5 u6) (hX18 : ∀ (u0 : Nat) (u1 : Int32) (u2 : Int32) (u3 : Int32) (u4 : Int32) (u5 : Int32) (u6 : Int32) (u7 : HS), X18 u0 u1 u2 u3 u4 u5 u6 u7 → K9 b L S0 u7 → X18_2 u0 u1 u2 u3 u4 u5 u6 u7) : B_X11_tries_18 (fun T => Q T ∧ K9 b L S0 T) X3_2 X18_2 v0 v1 v2 v3 v4 v5 v6 S := by
  delta B_X11_tries_18 at h ⊢
  refine ⟨?_, ?_⟩
  · intro c1
    have h := h.1 c1
    intro x3 e2
    have h := h x3 e2
    exact hX3 _ _ _ _ _ _ _ h K
  · intro c4
    have h := h.2 c4
    obtain ⟨c5, h⟩ := h
    refine ⟨c5, ?_⟩
    have o6 := c5
    obtain ⟨b7, e8, h⟩ := h
    refine ⟨b7, e8, ?_⟩
    obtain ⟨c9, h⟩ := h
    refine ⟨c9, ?_⟩
    refine cm_X10_begins (ky_X10_begins (b := b) hU (fun q hq => hL q ((by decide : ∀ q ∈ kyL_X10_begins, q ∈ kyL_X11_tries) q hq)) (fun z => z.elim) h) h (fun x10 x11 p13 h g12 => ?_)
    have h := h g12
    have K := k9_tr K p13.2
    have o6 := gr_ob p13.2.1 o6
    refine ⟨?_, ?_⟩
    · intro c14
      have h := h.1 c14
      obtain ⟨b15, e16, h⟩ := h
      refine ⟨b15, e16, ?_⟩
      obtain ⟨c17, h⟩ := h
      refine ⟨c17, ?_⟩
      have o18 := c17
      obtain ⟨b19, e20, h⟩ := h
      refine ⟨b19, e20, ?_⟩
      obtain ⟨c21, h⟩ := h
      refine ⟨c21, ?_⟩
      obtain ⟨c22, h⟩ := h
      refine ⟨c22, ?_⟩
      intro x24 e23
      have h := h x24 e23
      exact ky_X11_tries_53 hU hL hb h K hX3 hX18
    · intro c25
      have h := h.2 c25
      exact ky_X11_tries_146 hU hL hb h K hX3 hX18
theorem ky_X11_tries_18 {b : Bool} {L : List (Nat × Nat)} (hU : ∀ q ∈ L, q ∈ nyT) (hL : ∀ q ∈ kyL_X11_tries, q ∈ L) (hb : False → b = false) {Q : HS → Prop} {X3 X3_2 : Nat → Int32 → Int32 → Int32 → Int32 → Int32 → HS → Prop} {v0 : Nat} {v1 : Int32} {v2 : Int32} {v3 : Int32} {v4 : Int32} {v5 : Int32} {v6 : Int32} {S0 S : HS} (h : P_X11_tries_18 Q X3 v0 v1 v2 v3 v4 v5 v6 S) (K : K9 b L S0 S) (hX3 : ∀ (u0 : Nat) (u1 : Int32) (u2 : Int32) (u3 : Int32) (u4 : Int32) (u5 : Int32) (u6 : HS), X3 u0 u1 u2 u3 u4 u5 u6 → K9 b L S0 u6 → X3_2 u0 u1 u2 u3 u4 u5 u6) : P_X11_tries_18 (fun T => Q T ∧ K9 b L S0 T) X3_2 v0 v1 v2 v3 v4 v5 v6 S := h (fun v0 v1 v2 v3 v4 v5 v6 S => K9 b L S0 S → P_X11_tries_18 (fun T => Q T ∧ K9 b L S0 T) X3_2 v0 v1 v2 v3 v4 v5 v6 S) (fun v0 v1 v2 v3 v4 v5 v6 S hB K => fd_X11_tries_18 (kyB_X11_tries_18 hU hL hb hB K hX3 (fun _ _ _ _ _ _ _ _ hx K => hx K))) K
set_option maxRecDepth 20000 in
set_option maxHeartbeats 1000000 in
theorem kyB_X11_tries_3 {b : Bool} {L : List (Nat × Nat)} (hU : ∀ q ∈ L, q ∈ nyT) (hL : ∀ q ∈ kyL_X11_tries, q ∈ L) (hb : False → b = false) {Q : HS → Prop} {X3 X3_2 : Nat → Int32 → Int32 → Int32 → Int32 → Int32 → HS → Prop} {v0 : Nat} {v1 : Int32} {v2 : Int32} {v3 : Int32} {v4 : Int32} {v5 : Int32} {S0 S : HS} (h : B_X11_tries_3 Q X3 v0 v1 v2 v3 v4 v5 S) (K : K9 b L S0 S) (hX3 : ∀ (u0 : Nat) (u1 : Int32) (u2 : Int32) (u3 : Int32) (u4 : Int32) (u5 : Int32) (u6 : HS), X3 u0 u1 u2 u3 u4 u5 u6 → K9 b L S0 u6 → X3_2 u0 u1 u2 u3 u4 u5 u6) : B_X11_tries_3 (fun T => Q T ∧ K9 b L S0 T) X3_2 v0 v1 v2 v3 v4 v5 S := by
  delta B_X11_tries_3 at h ⊢
  obtain ⟨c1, h⟩ := h
  refine ⟨c1, ?_⟩
  have o2 := c1
  obtain ⟨b3, e4, h⟩ := h
  refine ⟨b3, e4, ?_⟩
  obtain ⟨c5, h⟩ := h
  refine ⟨c5, ?_⟩
  intro x7 e6
  have h := h x7 e6
  refine ⟨?_, ?_⟩
  · intro c8
    have h := h.1 c8
    refine cm_X11_canWait (ky_X11_canWait (b := b) hU (fun q hq => hL q ((by decide : ∀ q ∈ kyL_X11_canWait, q ∈ kyL_X11_tries) q hq)) (fun z => z.elim) h) h (fun x9 x10 p13 h g11 g12 => ?_)
    have h := h g11 g12
    have K := k9_tr K p13.2
    have o2 := gr_ob p13.2.1 o2
    refine ⟨?_, ?_⟩
    · intro c14
      have h := h.1 c14
      exact ⟨h, K⟩
    · intro c15
      have h := h.2 c15
      refine ⟨?_, ?_⟩
      · intro c16
        have h := h.1 c16
        exact ⟨h, K⟩
      · intro c17
        have h := h.2 c17
        refine cm_X11_spotOf (ky_X11_spotOf (b := b) hU (fun q hq => hL q ((by decide : ∀ q ∈ kyL_X11_spotOf, q ∈ kyL_X11_tries) q hq)) (fun z => z.elim) h) h (fun x18 x19 p21 h g20 => ?_)
        have h := h g20
        have K := k9_tr K p21.2
        have o2 := gr_ob p21.2.1 o2
        refine cm_X11_spotOf (ky_X11_spotOf (b := b) hU (fun q hq => hL q ((by decide : ∀ q ∈ kyL_X11_spotOf, q ∈ kyL_X11_tries) q hq)) (fun z => z.elim) h) h (fun x22 x23 p25 h g24 => ?_)
        have h := h g24
        have K := k9_tr K p25.2
        have o2 := gr_ob p25.2.1 o2
        refine cm_X11_waitsOf (ky_X11_waitsOf (b := b) hU (fun q hq => hL q ((by decide : ∀ q ∈ kyL_X11_waitsOf, q ∈ kyL_X11_tries) q hq)) (fun z => z.elim) h) h (fun x26 x27 p29 h g28 => ?_)
        have h := h g28
        have K := k9_tr K p29.2
        have o2 := gr_ob p29.2.1 o2
        refine cm_X11_takes (ky_X11_takes (b := b) hU (fun q hq => hL q ((by decide : ∀ q ∈ kyL_X11_takes, q ∈ kyL_X11_tries) q hq)) (fun z => z.elim) h) h (fun x30 p32 h g31 => ?_)
        have h := h g31
        have K := k9_tr K p32.2
        have o2 := gr_ob p32.2.1 o2
        exact ⟨h, K⟩
  · intro c33
    have h := h.2 c33
    exact ky_X11_tries_18 hU hL hb h K hX3
theorem ky_X11_tries_3 {b : Bool} {L : List (Nat × Nat)} (hU : ∀ q ∈ L, q ∈ nyT) (hL : ∀ q ∈ kyL_X11_tries, q ∈ L) (hb : False → b = false) {Q : HS → Prop} {v0 : Nat} {v1 : Int32} {v2 : Int32} {v3 : Int32} {v4 : Int32} {v5 : Int32} {S0 S : HS} (h : P_X11_tries_3 Q v0 v1 v2 v3 v4 v5 S) (K : K9 b L S0 S) : P_X11_tries_3 (fun T => Q T ∧ K9 b L S0 T) v0 v1 v2 v3 v4 v5 S := h (fun v0 v1 v2 v3 v4 v5 S => K9 b L S0 S → P_X11_tries_3 (fun T => Q T ∧ K9 b L S0 T) v0 v1 v2 v3 v4 v5 S) (fun v0 v1 v2 v3 v4 v5 S hB K => fd_X11_tries_3 (kyB_X11_tries_3 hU hL hb hB K (fun _ _ _ _ _ _ _ hx K => hx K))) K
set_option maxRecDepth 20000 in
set_option maxHeartbeats 1000000 in
theorem ky_X11_tries_0 {b : Bool} {L : List (Nat × Nat)} (hU : ∀ q ∈ L, q ∈ nyT) (hL : ∀ q ∈ kyL_X11_tries, q ∈ L) (hb : False → b = false) {Q : HS → Prop} {v0 : Nat} {v1 : Int32} {v2 : Int32} {v3 : Int32} {v4 : Int32} {S0 S : HS} (h : P_X11_tries_0 Q v0 v1 v2 v3 v4 S) (K : K9 b L S0 S) : P_X11_tries_0 (fun T => Q T ∧ K9 b L S0 T) v0 v1 v2 v3 v4 S := by
  delta P_X11_tries_0 at h ⊢
  exact ky_X11_tries_3 hU hL hb h K
theorem ky_X11_tries {b : Bool} {L : List (Nat × Nat)} (hU : ∀ q ∈ L, q ∈ nyT) (hL : ∀ q ∈ kyL_X11_tries, q ∈ L) (hb : False → b = false) {Q : HS → Prop} {v0 : Nat} {v1 : Int32} {v2 : Int32} {v3 : Int32} {v4 : Int32} {S : HS} (h : P_X11_tries v0 v1 v2 v3 v4 Q S) : P_X11_tries v0 v1 v2 v3 v4 (fun T => Q T ∧ K9 b L S T) S := ky_X11_tries_0 hU hL hb h (k9_rf b L S)
end
section
abbrev kyL_X11_laysWays : List (Nat × Nat) := [(11, 16)]
set_option maxRecDepth 20000 in
set_option maxHeartbeats 1000000 in
theorem ky_X11_laysWays_85 {b : Bool} {L : List (Nat × Nat)} (hU : ∀ q ∈ L, q ∈ nyT) (hL : ∀ q ∈ kyL_X11_laysWays, q ∈ L) (hb : False → b = false) {Q : HS → Prop} {X3 X3_2 : Nat → Int32 → Int32 → Int32 → Int32 → HS → Prop} {X11 X11_2 : Nat → Int32 → Int32 → Int32 → Int32 → Int32 → HS → Prop} {v0 : Nat} {v1 : Int32} {v2 : Int32} {v3 : Int32} {v4 : Int32} {v5 : Int32} {S0 S : HS} (h : P_X11_laysWays_85 Q X3 X11 v0 v1 v2 v3 v4 v5 S) (K : K9 b L S0 S) (hX3 : ∀ (u0 : Nat) (u1 : Int32) (u2 : Int32) (u3 : Int32) (u4 : Int32) (u5 : HS), X3 u0 u1 u2 u3 u4 u5 → K9 b L S0 u5 → X3_2 u0 u1 u2 u3 u4 u5) (hX11 : ∀ (u0 : Nat) (u1 : Int32) (u2 : Int32) (u3 : Int32) (u4 : Int32) (u5 : Int32) (u6 : HS), X11 u0 u1 u2 u3 u4 u5 u6 → K9 b L S0 u6 → X11_2 u0 u1 u2 u3 u4 u5 u6) : P_X11_laysWays_85 (fun T => Q T ∧ K9 b L S0 T) X3_2 X11_2 v0 v1 v2 v3 v4 v5 S := by
  delta P_X11_laysWays_85 at h ⊢
  intro x2 e1
  have h := h x2 e1
  exact hX11 _ _ _ _ _ _ _ h K
set_option maxRecDepth 20000 in
set_option maxHeartbeats 1000000 in
theorem ky_X11_laysWays_51 {b : Bool} {L : List (Nat × Nat)} (hU : ∀ q ∈ L, q ∈ nyT) (hL : ∀ q ∈ kyL_X11_laysWays, q ∈ L) (hb : False → b = false) {Q : HS → Prop} {X3 X3_2 : Nat → Int32 → Int32 → Int32 → Int32 → HS → Prop} {X11 X11_2 : Nat → Int32 → Int32 → Int32 → Int32 → Int32 → HS → Prop} {v0 : Nat} {v1 : Int32} {v2 : Int32} {v3 : Int32} {v4 : Int32} {v5 : Int32} {v6 : Int32} {s0 : Nat} {s1 : Int32} {s2 : Int64} {S0 S : HS} (h : P_X11_laysWays_51 Q X3 X11 v0 v1 v2 v3 v4 v5 v6 s0 s1 s2 S) (K : K9 b L S0 S) (o_s0 : KN9 L S0 s0) (hX3 : ∀ (u0 : Nat) (u1 : Int32) (u2 : Int32) (u3 : Int32) (u4 : Int32) (u5 : HS), X3 u0 u1 u2 u3 u4 u5 → K9 b L S0 u5 → X3_2 u0 u1 u2 u3 u4 u5) (hX11 : ∀ (u0 : Nat) (u1 : Int32) (u2 : Int32) (u3 : Int32) (u4 : Int32) (u5 : Int32) (u6 : HS), X11 u0 u1 u2 u3 u4 u5 u6 → K9 b L S0 u6 → X11_2 u0 u1 u2 u3 u4 u5 u6) : P_X11_laysWays_51 (fun T => Q T ∧ K9 b L S0 T) X3_2 X11_2 v0 v1 v2 v3 v4 v5 v6 s0 s1 s2 S := by
  delta P_X11_laysWays_51 at h ⊢
  obtain ⟨c1, h⟩ := h
  refine ⟨c1, ?_⟩
  obtain ⟨c2, h⟩ := h
  refine ⟨c2, ?_⟩
  intro x4 e3
  have h := h x4 e3
  have K := k9_J K e3 o_s0
  obtain ⟨c5, h⟩ := h
  refine ⟨c5, ?_⟩
  have o6 := c5
  obtain ⟨b7, e8, h⟩ := h
  refine ⟨b7, e8, ?_⟩
  obtain ⟨c9, h⟩ := h
  refine ⟨c9, ?_⟩
  obtain ⟨c10, h⟩ := h
  refine ⟨c10, ?_⟩
  intro x12 e11
  have h := h x12 e11
  have K := k9_I K e11
  have o6 := ob_wI o6 e11
  obtain ⟨b13, e14, h⟩ := h
  refine ⟨b13, e14, ?_⟩
  obtain ⟨c15, h⟩ := h
  refine ⟨c15, ?_⟩
  obtain ⟨c16, h⟩ := h
  refine ⟨c16, ?_⟩
  intro x18 e17
  have h := h x18 e17
  have K := k9_I K e17
  have o6 := ob_wI o6 e17
  refine ⟨?_, ?_⟩
  · intro c19
    have h := h.1 c19
    exact ky_X11_laysWays_85 hU hL hb h K hX3 hX11
  · intro c20
    have h := h.2 c20
    refine cm_X11_tries (ky_X11_tries (b := b) hU (fun q hq => hL q ((by decide : ∀ q ∈ kyL_X11_tries, q ∈ kyL_X11_laysWays) q hq)) (fun z => z.elim) h) h (fun x21 p23 h g22 => ?_)
    have h := h g22
    have K := k9_tr K p23.2
    have o6 := gr_ob p23.2.1 o6
    exact ky_X11_laysWays_85 hU hL hb h K hX3 hX11
set_option maxRecDepth 20000 in
set_option maxHeartbeats 1000000 in
theorem kyB_X11_laysWays_11 {b : Bool} {L : List (Nat × Nat)} (hU : ∀ q ∈ L, q ∈ nyT) (hL : ∀ q ∈ kyL_X11_laysWays, q ∈ L) (hb : False → b = false) {Q : HS → Prop} {X3 X3_2 : Nat → Int32 → Int32 → Int32 → Int32 → HS → Prop} {X11 X11_2 : Nat → Int32 → Int32 → Int32 → Int32 → Int32 → HS → Prop} {v0 : Nat} {v1 : Int32} {v2 : Int32} {v3 : Int32} {v4 : Int32} {v5 : Int32} {S0 S : HS} (h : B_X11_laysWays_11 Q X3 X11 v0 v1 v2 v3 v4 v5 S) (K : K9 b L S0 S) (hX3 : ∀ (u0 : Nat) (u1 : Int32) (u2 : Int32) (u3 : Int32) (u4 : Int32) (u5 : HS), X3 u0 u1 u2 u3 u4 u5 → K9 b L S0 u5 → X3_2 u0 u1 u2 u3 u4 u5) (hX11 : ∀ (u0 : Nat) (u1 : Int32) (u2 : Int32) (u3 : Int32) (u4 : Int32) (u5 : Int32) (u6 : HS), X11 u0 u1 u2 u3 u4 u5 u6 → K9 b L S0 u6 → X11_2 u0 u1 u2 u3 u4 u5 u6) : B_X11_laysWays_11 (fun T => Q T ∧ K9 b L S0 T) X3_2 X11_2 v0 v1 v2 v3 v4 v5 S := by
  delta B_X11_laysWays_11 at h ⊢
  obtain ⟨c1, h⟩ := h
  refine ⟨c1, ?_⟩
  have o2 := c1
  obtain ⟨b3, e4, h⟩ := h
  refine ⟨b3, e4, ?_⟩
  obtain ⟨c5, h⟩ := h
  refine ⟨c5, ?_⟩
  intro x7 e6
  have h := h x7 e6
  refine ⟨?_, ?_⟩
  · intro c8
    have h := h.1 c8
    intro x10 e9
    have h := h x10 e9
    exact hX3 _ _ _ _ _ _ h K
  · intro c11
    have h := h.2 c11
    refine cm_X11_spotOf (ky_X11_spotOf (b := b) hU (fun q hq => hL q ((by decide : ∀ q ∈ kyL_X11_spotOf, q ∈ kyL_X11_laysWays) q hq)) (fun z => z.elim) h) h (fun x12 x13 p15 h g14 => ?_)
    have h := h g14
    have K := k9_tr K p15.2
    have o2 := gr_ob p15.2.1 o2
    obtain ⟨b16, e17, h⟩ := h
    refine ⟨b16, e17, ?_⟩
    have n18 := k9_nr K e17 o2 (hL _ (by decide))
    refine ⟨?_, ?_⟩
    · intro c19
      have h := h.1 c19
      exact ky_X11_laysWays_51 hU hL hb h K n18 hX3 hX11
    · intro c20
      have h := h.2 c20
      exact ky_X11_laysWays_51 hU hL hb h K n18 hX3 hX11
theorem ky_X11_laysWays_11 {b : Bool} {L : List (Nat × Nat)} (hU : ∀ q ∈ L, q ∈ nyT) (hL : ∀ q ∈ kyL_X11_laysWays, q ∈ L) (hb : False → b = false) {Q : HS → Prop} {X3 X3_2 : Nat → Int32 → Int32 → Int32 → Int32 → HS → Prop} {v0 : Nat} {v1 : Int32} {v2 : Int32} {v3 : Int32} {v4 : Int32} {v5 : Int32} {S0 S : HS} (h : P_X11_laysWays_11 Q X3 v0 v1 v2 v3 v4 v5 S) (K : K9 b L S0 S) (hX3 : ∀ (u0 : Nat) (u1 : Int32) (u2 : Int32) (u3 : Int32) (u4 : Int32) (u5 : HS), X3 u0 u1 u2 u3 u4 u5 → K9 b L S0 u5 → X3_2 u0 u1 u2 u3 u4 u5) : P_X11_laysWays_11 (fun T => Q T ∧ K9 b L S0 T) X3_2 v0 v1 v2 v3 v4 v5 S := h (fun v0 v1 v2 v3 v4 v5 S => K9 b L S0 S → P_X11_laysWays_11 (fun T => Q T ∧ K9 b L S0 T) X3_2 v0 v1 v2 v3 v4 v5 S) (fun v0 v1 v2 v3 v4 v5 S hB K => fd_X11_laysWays_11 (kyB_X11_laysWays_11 hU hL hb hB K hX3 (fun _ _ _ _ _ _ _ hx K => hx K))) K
set_option maxRecDepth 20000 in
set_option maxHeartbeats 1000000 in
theorem kyB_X11_laysWays_3 {b : Bool} {L : List (Nat × Nat)} (hU : ∀ q ∈ L, q ∈ nyT) (hL : ∀ q ∈ kyL_X11_laysWays, q ∈ L) (hb : False → b = false) {Q : HS → Prop} {X3 X3_2 : Nat → Int32 → Int32 → Int32 → Int32 → HS → Prop} {v0 : Nat} {v1 : Int32} {v2 : Int32} {v3 : Int32} {v4 : Int32} {S0 S : HS} (h : B_X11_laysWays_3 Q X3 v0 v1 v2 v3 v4 S) (K : K9 b L S0 S) (hX3 : ∀ (u0 : Nat) (u1 : Int32) (u2 : Int32) (u3 : Int32) (u4 : Int32) (u5 : HS), X3 u0 u1 u2 u3 u4 u5 → K9 b L S0 u5 → X3_2 u0 u1 u2 u3 u4 u5) : B_X11_laysWays_3 (fun T => Q T ∧ K9 b L S0 T) X3_2 v0 v1 v2 v3 v4 S := by
  delta B_X11_laysWays_3 at h ⊢
  refine ⟨?_, ?_⟩
  · intro c1
    have h := h.1 c1
    exact ⟨h, K⟩
  · intro c2
    have h := h.2 c2
    exact ky_X11_laysWays_11 hU hL hb h K hX3
theorem ky_X11_laysWays_3 {b : Bool} {L : List (Nat × Nat)} (hU : ∀ q ∈ L, q ∈ nyT) (hL : ∀ q ∈ kyL_X11_laysWays, q ∈ L) (hb : False → b = false) {Q : HS → Prop} {v0 : Nat} {v1 : Int32} {v2 : Int32} {v3 : Int32} {v4 : Int32} {S0 S : HS} (h : P_X11_laysWays_3 Q v0 v1 v2 v3 v4 S) (K : K9 b L S0 S) : P_X11_laysWays_3 (fun T => Q T ∧ K9 b L S0 T) v0 v1 v2 v3 v4 S := h (fun v0 v1 v2 v3 v4 S => K9 b L S0 S → P_X11_laysWays_3 (fun T => Q T ∧ K9 b L S0 T) v0 v1 v2 v3 v4 S) (fun v0 v1 v2 v3 v4 S hB K => fd_X11_laysWays_3 (kyB_X11_laysWays_3 hU hL hb hB K (fun _ _ _ _ _ _ hx K => hx K))) K
set_option maxRecDepth 20000 in
set_option maxHeartbeats 1000000 in
theorem ky_X11_laysWays_0 {b : Bool} {L : List (Nat × Nat)} (hU : ∀ q ∈ L, q ∈ nyT) (hL : ∀ q ∈ kyL_X11_laysWays, q ∈ L) (hb : False → b = false) {Q : HS → Prop} {v0 : Nat} {v1 : Int32} {v2 : Int32} {v3 : Int32} {S0 S : HS} (h : P_X11_laysWays_0 Q v0 v1 v2 v3 S) (K : K9 b L S0 S) : P_X11_laysWays_0 (fun T => Q T ∧ K9 b L S0 T) v0 v1 v2 v3 S := by
  delta P_X11_laysWays_0 at h ⊢
  exact ky_X11_laysWays_3 hU hL hb h K
theorem ky_X11_laysWays {b : Bool} {L : List (Nat × Nat)} (hU : ∀ q ∈ L, q ∈ nyT) (hL : ∀ q ∈ kyL_X11_laysWays, q ∈ L) (hb : False → b = false) {Q : HS → Prop} {v0 : Nat} {v1 : Int32} {v2 : Int32} {v3 : Int32} {S : HS} (h : P_X11_laysWays v0 v1 v2 v3 Q S) : P_X11_laysWays v0 v1 v2 v3 (fun T => Q T ∧ K9 b L S T) S := ky_X11_laysWays_0 hU hL hb h (k9_rf b L S)
abbrev kyL_X11_refusesWay : List (Nat × Nat) := [(11, 16)]
set_option maxRecDepth 20000 in
set_option maxHeartbeats 1000000 in
theorem ky_X11_refusesWay_0 {b : Bool} {L : List (Nat × Nat)} (hU : ∀ q ∈ L, q ∈ nyT) (hL : ∀ q ∈ kyL_X11_refusesWay, q ∈ L) (hb : False → b = false) {Q : Int32 → HS → Prop} {v0 : Nat} {v1 : Int32} {v2 : Int32} {v3 : Int32} {v4 : Int32} {v5 : Int32} {S0 S : HS} (h : P_X11_refusesWay_0 Q v0 v1 v2 v3 v4 v5 S) (K : K9 b L S0 S) : P_X11_refusesWay_0 (fun r T => Q r T ∧ K9 b L S0 T) v0 v1 v2 v3 v4 v5 S := by
  delta P_X11_refusesWay_0 at h ⊢
  obtain ⟨c1, h⟩ := h
  refine ⟨c1, ?_⟩
  have o2 := c1
  refine cm_X11_isWalker (ky_X11_isWalker (b := b) hU (fun q hq => hL q ((by decide : ∀ q ∈ kyL_X11_isWalker, q ∈ kyL_X11_refusesWay) q hq)) (fun z => z.elim) h) h (fun x3 x4 p7 h g5 g6 => ?_)
  have h := h g5 g6
  have K := k9_tr K p7.2
  have o2 := gr_ob p7.2.1 o2
  refine ⟨?_, ?_⟩
  · intro c8
    have h := h.1 c8
    exact ⟨h, K⟩
  · intro c9
    have h := h.2 c9
    refine cm_X11_isPlace (ky_X11_isPlace (b := b) hU (fun q hq => hL q ((by decide : ∀ q ∈ kyL_X11_isPlace, q ∈ kyL_X11_refusesWay) q hq)) (fun z => z.elim) h) h (fun x10 x11 p14 h g12 g13 => ?_)
    have h := h g12 g13
    have K := k9_tr K p14.2
    have o2 := gr_ob p14.2.1 o2
    refine ⟨?_, ?_⟩
    · intro c15
      have h := h.1 c15
      exact ⟨h, K⟩
    · intro c16
      have h := h.2 c16
      refine cm_X11_isPlace (ky_X11_isPlace (b := b) hU (fun q hq => hL q ((by decide : ∀ q ∈ kyL_X11_isPlace, q ∈ kyL_X11_refusesWay) q hq)) (fun z => z.elim) h) h (fun x17 x18 p21 h g19 g20 => ?_)
      have h := h g19 g20
      have K := k9_tr K p21.2
      have o2 := gr_ob p21.2.1 o2
      refine ⟨?_, ?_⟩
      · intro c22
        have h := h.1 c22
        refine cm_X11_in (ky_X11_in (b := b) hU (fun q hq => hL q ((by decide : ∀ q ∈ kyL_X11_in, q ∈ kyL_X11_refusesWay) q hq)) (fun z => z.elim) h) h (fun x23 x24 p27 h g25 g26 => ?_)
        have h := h g25 g26
        have K := k9_tr K p27.2
        have o2 := gr_ob p27.2.1 o2
        refine ⟨?_, ?_⟩
        · intro c28
          have h := h.1 c28
          exact ⟨h, K⟩
        · intro c29
          have h := h.2 c29
          refine cm_X11_in (ky_X11_in (b := b) hU (fun q hq => hL q ((by decide : ∀ q ∈ kyL_X11_in, q ∈ kyL_X11_refusesWay) q hq)) (fun z => z.elim) h) h (fun x30 x31 p34 h g32 g33 => ?_)
          have h := h g32 g33
          have K := k9_tr K p34.2
          have o2 := gr_ob p34.2.1 o2
          refine ⟨?_, ?_⟩
          · intro c35
            have h := h.1 c35
            refine cm_X11_laysWays (ky_X11_laysWays (b := b) hU (fun q hq => hL q ((by decide : ∀ q ∈ kyL_X11_laysWays, q ∈ kyL_X11_refusesWay) q hq)) (fun z => z.elim) h) h (fun x36 p38 h g37 => ?_)
            have h := h g37
            have K := k9_tr K p38.2
            have o2 := gr_ob p38.2.1 o2
            obtain ⟨b39, e40, h⟩ := h
            refine ⟨b39, e40, ?_⟩
            refine cm_X11_spotOf (ky_X11_spotOf (b := b) hU (fun q hq => hL q ((by decide : ∀ q ∈ kyL_X11_spotOf, q ∈ kyL_X11_refusesWay) q hq)) (fun z => z.elim) h) h (fun x41 x42 p44 h g43 => ?_)
            have h := h g43
            have K := k9_tr K p44.2
            have o2 := gr_ob p44.2.1 o2
            obtain ⟨c45, h⟩ := h
            refine ⟨c45, ?_⟩
            obtain ⟨c46, h⟩ := h
            refine ⟨c46, ?_⟩
            intro x48 e47
            have h := h x48 e47
            refine ⟨?_, ?_⟩
            · intro c49
              have h := h.1 c49
              exact ⟨h, K⟩
            · intro c50
              have h := h.2 c50
              exact ⟨h, K⟩
          · intro c51
            have h := h.2 c51
            exact ⟨h, K⟩
      · intro c52
        have h := h.2 c52
        exact ⟨h, K⟩
theorem ky_X11_refusesWay {b : Bool} {L : List (Nat × Nat)} (hU : ∀ q ∈ L, q ∈ nyT) (hL : ∀ q ∈ kyL_X11_refusesWay, q ∈ L) (hb : False → b = false) {Q : Int32 → HS → Prop} {v0 : Nat} {v1 : Int32} {v2 : Int32} {v3 : Int32} {v4 : Int32} {v5 : Int32} {S : HS} (h : P_X11_refusesWay v0 v1 v2 v3 v4 v5 Q S) : P_X11_refusesWay v0 v1 v2 v3 v4 v5 (fun r T => Q r T ∧ K9 b L S T) S := ky_X11_refusesWay_0 hU hL hb h (k9_rf b L S)
abbrev kyL_X11_least : List (Nat × Nat) := [(11, 16)]
set_option maxRecDepth 20000 in
set_option maxHeartbeats 1000000 in
theorem ky_X11_least_0 {b : Bool} {L : List (Nat × Nat)} (hU : ∀ q ∈ L, q ∈ nyT) (hL : ∀ q ∈ kyL_X11_least, q ∈ L) (hb : False → b = false) {Q : Int64 → HS → Prop} {v0 : Nat} {v1 : Int32} {v2 : Int32} {v3 : Int32} {v4 : Int32} {v5 : Int32} {v6 : Int32} {S0 S : HS} (h : P_X11_least_0 Q v0 v1 v2 v3 v4 v5 v6 S) (K : K9 b L S0 S) : P_X11_least_0 (fun r T => Q r T ∧ K9 b L S0 T) v0 v1 v2 v3 v4 v5 v6 S := by
  delta P_X11_least_0 at h ⊢
  obtain ⟨c1, h⟩ := h
  refine ⟨c1, ?_⟩
  have o2 := c1
  intro x4 e3
  have h := h x4 e3
  have K := k9_I K e3
  have o2 := ob_wI o2 e3
  refine cm_X11_refusesWay (ky_X11_refusesWay (b := b) hU (fun q hq => hL q ((by decide : ∀ q ∈ kyL_X11_refusesWay, q ∈ kyL_X11_least) q hq)) (fun z => z.elim) h) h (fun x5 x6 p8 h g7 => ?_)
  have h := h g7
  have K := k9_tr K p8.2
  have o2 := gr_ob p8.2.1 o2
  refine ⟨?_, ?_⟩
  · intro c9
    have h := h.1 c9
    obtain ⟨b10, e11, h⟩ := h
    refine ⟨b10, e11, ?_⟩
    refine cm_X11_spotOf (ky_X11_spotOf (b := b) hU (fun q hq => hL q ((by decide : ∀ q ∈ kyL_X11_spotOf, q ∈ kyL_X11_least) q hq)) (fun z => z.elim) h) h (fun x12 x13 p15 h g14 => ?_)
    have h := h g14
    have K := k9_tr K p15.2
    have o2 := gr_ob p15.2.1 o2
    obtain ⟨c16, h⟩ := h
    refine ⟨c16, ?_⟩
    obtain ⟨c17, h⟩ := h
    refine ⟨c17, ?_⟩
    intro x19 e18
    have h := h x19 e18
    refine cm_X11_told (ky_X11_told (b := b) hU (fun q hq => hL q ((by decide : ∀ q ∈ kyL_X11_told, q ∈ kyL_X11_least) q hq)) (fun z => z.elim) h) h (fun x20 x21 p23 h g22 => ?_)
    have h := h g22
    have K := k9_tr K p23.2
    have o2 := gr_ob p23.2.1 o2
    exact ⟨h, K⟩
  · intro c24
    have h := h.2 c24
    refine cm_X11_refused (ky_X11_refused (b := b) hU (fun q hq => hL q ((by decide : ∀ q ∈ kyL_X11_refused, q ∈ kyL_X11_least) q hq)) (fun z => z.elim) h) h (fun x25 x26 p28 h g27 => ?_)
    have h := h g27
    have K := k9_tr K p28.2
    have o2 := gr_ob p28.2.1 o2
    exact ⟨h, K⟩
theorem ky_X11_least {b : Bool} {L : List (Nat × Nat)} (hU : ∀ q ∈ L, q ∈ nyT) (hL : ∀ q ∈ kyL_X11_least, q ∈ L) (hb : False → b = false) {Q : Int64 → HS → Prop} {v0 : Nat} {v1 : Int32} {v2 : Int32} {v3 : Int32} {v4 : Int32} {v5 : Int32} {v6 : Int32} {S : HS} (h : P_X11_least v0 v1 v2 v3 v4 v5 v6 Q S) : P_X11_least v0 v1 v2 v3 v4 v5 v6 (fun r T => Q r T ∧ K9 b L S T) S := ky_X11_least_0 hU hL hb h (k9_rf b L S)
abbrev kyL_X11_led : List (Nat × Nat) := []
set_option maxRecDepth 20000 in
set_option maxHeartbeats 1000000 in
theorem ky_X11_led_80 {b : Bool} {L : List (Nat × Nat)} (hU : ∀ q ∈ L, q ∈ nyT) (hL : ∀ q ∈ kyL_X11_led, q ∈ L) (hb : False → b = false) {Q : Int32 → HS → Prop} {X9 X9_2 : Nat → Int32 → Int32 → Int32 → HS → Prop} {v0 : Nat} {v1 : Int32} {v2 : Int32} {v3 : Int32} {S0 S : HS} (h : P_X11_led_80 Q X9 v0 v1 v2 v3 S) (K : K9 b L S0 S) (hX9 : ∀ (u0 : Nat) (u1 : Int32) (u2 : Int32) (u3 : Int32) (u4 : HS), X9 u0 u1 u2 u3 u4 → K9 b L S0 u4 → X9_2 u0 u1 u2 u3 u4) : P_X11_led_80 (fun r T => Q r T ∧ K9 b L S0 T) X9_2 v0 v1 v2 v3 S := by
  delta P_X11_led_80 at h ⊢
  intro x2 e1
  have h := h x2 e1
  exact hX9 _ _ _ _ _ h K
set_option maxRecDepth 20000 in
set_option maxHeartbeats 1000000 in
theorem ky_X11_led_70 {b : Bool} {L : List (Nat × Nat)} (hU : ∀ q ∈ L, q ∈ nyT) (hL : ∀ q ∈ kyL_X11_led, q ∈ L) (hb : False → b = false) {Q : Int32 → HS → Prop} {X9 X9_2 : Nat → Int32 → Int32 → Int32 → HS → Prop} {v0 : Nat} {v1 : Int32} {v2 : Int32} {v3 : Int32} {S0 S : HS} (h : P_X11_led_70 Q X9 v0 v1 v2 v3 S) (K : K9 b L S0 S) (hX9 : ∀ (u0 : Nat) (u1 : Int32) (u2 : Int32) (u3 : Int32) (u4 : HS), X9 u0 u1 u2 u3 u4 → K9 b L S0 u4 → X9_2 u0 u1 u2 u3 u4) : P_X11_led_70 (fun r T => Q r T ∧ K9 b L S0 T) X9_2 v0 v1 v2 v3 S := by
  delta P_X11_led_70 at h ⊢
  refine ⟨?_, ?_⟩
  · intro c1
    have h := h.1 c1
    intro x3 e2
    have h := h x3 e2
    exact ky_X11_led_80 hU hL hb h K hX9
  · intro c4
    have h := h.2 c4
    exact ⟨h, K⟩
set_option maxRecDepth 20000 in
set_option maxHeartbeats 1000000 in
theorem kyB_X11_led_9 {b : Bool} {L : List (Nat × Nat)} (hU : ∀ q ∈ L, q ∈ nyT) (hL : ∀ q ∈ kyL_X11_led, q ∈ L) (hb : False → b = false) {Q : Int32 → HS → Prop} {X9 X9_2 : Nat → Int32 → Int32 → Int32 → HS → Prop} {v0 : Nat} {v1 : Int32} {v2 : Int32} {v3 : Int32} {S0 S : HS} (h : B_X11_led_9 Q X9 v0 v1 v2 v3 S) (K : K9 b L S0 S) (hX9 : ∀ (u0 : Nat) (u1 : Int32) (u2 : Int32) (u3 : Int32) (u4 : HS), X9 u0 u1 u2 u3 u4 → K9 b L S0 u4 → X9_2 u0 u1 u2 u3 u4) : B_X11_led_9 (fun r T => Q r T ∧ K9 b L S0 T) X9_2 v0 v1 v2 v3 S := by
  delta B_X11_led_9 at h ⊢
  obtain ⟨c1, h⟩ := h
  refine ⟨c1, ?_⟩
  have o2 := c1
  refine cm_X11_isDay (ky_X11_isDay (b := b) hU (fun q hq => hL q ((by decide : ∀ q ∈ kyL_X11_isDay, q ∈ kyL_X11_led) q hq)) (fun z => z.elim) h) h (fun x3 x4 p7 h g5 g6 => ?_)
  have h := h g5 g6
  have K := k9_tr K p7.2
  have o2 := gr_ob p7.2.1 o2
  refine ⟨?_, ?_⟩
  · intro c8
    have h := h.1 c8
    intro x10 e9
    have h := h x10 e9
    have K := k9_I K e9
    have o2 := ob_wI o2 e9
    exact ⟨h, K⟩
  · intro c11
    have h := h.2 c11
    obtain ⟨b12, e13, h⟩ := h
    refine ⟨b12, e13, ?_⟩
    obtain ⟨c14, h⟩ := h
    refine ⟨c14, ?_⟩
    intro x16 e15
    have h := h x16 e15
    refine ⟨?_, ?_⟩
    · intro c17
      have h := h.1 c17
      intro x19 e18
      have h := h x19 e18
      have K := k9_I K e18
      have o2 := ob_wI o2 e18
      exact ⟨h, K⟩
    · intro c20
      have h := h.2 c20
      obtain ⟨b21, e22, h⟩ := h
      refine ⟨b21, e22, ?_⟩
      obtain ⟨c23, h⟩ := h
      refine ⟨c23, ?_⟩
      have o24 := c23
      obtain ⟨b25, e26, h⟩ := h
      refine ⟨b25, e26, ?_⟩
      obtain ⟨c27, h⟩ := h
      refine ⟨c27, ?_⟩
      obtain ⟨c28, h⟩ := h
      refine ⟨c28, ?_⟩
      intro x30 e29
      have h := h x30 e29
      obtain ⟨b31, e32, h⟩ := h
      refine ⟨b31, e32, ?_⟩
      obtain ⟨c33, h⟩ := h
      refine ⟨c33, ?_⟩
      obtain ⟨c34, h⟩ := h
      refine ⟨c34, ?_⟩
      intro x36 e35
      have h := h x36 e35
      refine ⟨?_, ?_⟩
      · intro c37
        have h := h.1 c37
        exact ky_X11_led_70 hU hL hb h K hX9
      · intro c38
        have h := h.2 c38
        obtain ⟨b39, e40, h⟩ := h
        refine ⟨b39, e40, ?_⟩
        obtain ⟨c41, h⟩ := h
        refine ⟨c41, ?_⟩
        have o42 := c41
        obtain ⟨b43, e44, h⟩ := h
        refine ⟨b43, e44, ?_⟩
        obtain ⟨c45, h⟩ := h
        refine ⟨c45, ?_⟩
        obtain ⟨c46, h⟩ := h
        refine ⟨c46, ?_⟩
        intro x48 e47
        have h := h x48 e47
        obtain ⟨b49, e50, h⟩ := h
        refine ⟨b49, e50, ?_⟩
        obtain ⟨c51, h⟩ := h
        refine ⟨c51, ?_⟩
        obtain ⟨c52, h⟩ := h
        refine ⟨c52, ?_⟩
        intro x54 e53
        have h := h x54 e53
        refine ⟨?_, ?_⟩
        · intro c55
          have h := h.1 c55
          exact ky_X11_led_70 hU hL hb h K hX9
        · intro c56
          have h := h.2 c56
          exact ky_X11_led_80 hU hL hb h K hX9
theorem ky_X11_led_9 {b : Bool} {L : List (Nat × Nat)} (hU : ∀ q ∈ L, q ∈ nyT) (hL : ∀ q ∈ kyL_X11_led, q ∈ L) (hb : False → b = false) {Q : Int32 → HS → Prop} {v0 : Nat} {v1 : Int32} {v2 : Int32} {v3 : Int32} {S0 S : HS} (h : P_X11_led_9 Q v0 v1 v2 v3 S) (K : K9 b L S0 S) : P_X11_led_9 (fun r T => Q r T ∧ K9 b L S0 T) v0 v1 v2 v3 S := h (fun v0 v1 v2 v3 S => K9 b L S0 S → P_X11_led_9 (fun r T => Q r T ∧ K9 b L S0 T) v0 v1 v2 v3 S) (fun v0 v1 v2 v3 S hB K => fd_X11_led_9 (kyB_X11_led_9 hU hL hb hB K (fun _ _ _ _ _ hx K => hx K))) K
set_option maxRecDepth 20000 in
set_option maxHeartbeats 1000000 in
theorem ky_X11_led_0 {b : Bool} {L : List (Nat × Nat)} (hU : ∀ q ∈ L, q ∈ nyT) (hL : ∀ q ∈ kyL_X11_led, q ∈ L) (hb : False → b = false) {Q : Int32 → HS → Prop} {v0 : Nat} {v1 : Int32} {S0 S : HS} (h : P_X11_led_0 Q v0 v1 S) (K : K9 b L S0 S) : P_X11_led_0 (fun r T => Q r T ∧ K9 b L S0 T) v0 v1 S := by
  delta P_X11_led_0 at h ⊢
  obtain ⟨c1, h⟩ := h
  refine ⟨c1, ?_⟩
  intro x3 e2
  have h := h x3 e2
  have K := k9_I K e2
  exact ky_X11_led_9 hU hL hb h K
theorem ky_X11_led {b : Bool} {L : List (Nat × Nat)} (hU : ∀ q ∈ L, q ∈ nyT) (hL : ∀ q ∈ kyL_X11_led, q ∈ L) (hb : False → b = false) {Q : Int32 → HS → Prop} {v0 : Nat} {v1 : Int32} {S : HS} (h : P_X11_led v0 v1 Q S) : P_X11_led v0 v1 (fun r T => Q r T ∧ K9 b L S T) S := ky_X11_led_0 hU hL hb h (k9_rf b L S)
abbrev kyL_X11_lee : List (Nat × Nat) := []
set_option maxRecDepth 20000 in
set_option maxHeartbeats 1000000 in
theorem ky_X11_lee_0 {b : Bool} {L : List (Nat × Nat)} (hU : ∀ q ∈ L, q ∈ nyT) (hL : ∀ q ∈ kyL_X11_lee, q ∈ L) (hb : False → b = false) {Q : Int64 → HS → Prop} {v0 : Nat} {v1 : Int32} {v2 : Int32} {v3 : Int32} {v4 : Int32} {v5 : Int32} {v6 : Int32} {v7 : Int32} {S0 S : HS} (h : P_X11_lee_0 Q v0 v1 v2 v3 v4 v5 v6 v7 S) (K : K9 b L S0 S) : P_X11_lee_0 (fun r T => Q r T ∧ K9 b L S0 T) v0 v1 v2 v3 v4 v5 v6 v7 S := by
  delta P_X11_lee_0 at h ⊢
  obtain ⟨c1, h⟩ := h
  refine ⟨c1, ?_⟩
  intro x3 e2
  have h := h x3 e2
  have K := k9_I K e2
  refine cm_X11_refusesTwo (ky_X11_refusesTwo (b := b) hU (fun q hq => hL q ((by decide : ∀ q ∈ kyL_X11_refusesTwo, q ∈ kyL_X11_lee) q hq)) (fun z => z.elim) h) h (fun x4 x5 p7 h g6 => ?_)
  have h := h g6
  have K := k9_tr K p7.2
  refine ⟨?_, ?_⟩
  · intro c8
    have h := h.1 c8
    refine cm_X11_together (ky_X11_together (b := b) hU (fun q hq => hL q ((by decide : ∀ q ∈ kyL_X11_together, q ∈ kyL_X11_lee) q hq)) (fun z => z.elim) h) h (fun x9 x10 p12 h g11 => ?_)
    have h := h g11
    have K := k9_tr K p12.2
    refine cm_X11_told (ky_X11_told (b := b) hU (fun q hq => hL q ((by decide : ∀ q ∈ kyL_X11_told, q ∈ kyL_X11_lee) q hq)) (fun z => z.elim) h) h (fun x13 x14 p16 h g15 => ?_)
    have h := h g15
    have K := k9_tr K p16.2
    exact ⟨h, K⟩
  · intro c17
    have h := h.2 c17
    refine cm_X11_refused (ky_X11_refused (b := b) hU (fun q hq => hL q ((by decide : ∀ q ∈ kyL_X11_refused, q ∈ kyL_X11_lee) q hq)) (fun z => z.elim) h) h (fun x18 x19 p21 h g20 => ?_)
    have h := h g20
    have K := k9_tr K p21.2
    exact ⟨h, K⟩
theorem ky_X11_lee {b : Bool} {L : List (Nat × Nat)} (hU : ∀ q ∈ L, q ∈ nyT) (hL : ∀ q ∈ kyL_X11_lee, q ∈ L) (hb : False → b = false) {Q : Int64 → HS → Prop} {v0 : Nat} {v1 : Int32} {v2 : Int32} {v3 : Int32} {v4 : Int32} {v5 : Int32} {v6 : Int32} {v7 : Int32} {S : HS} (h : P_X11_lee v0 v1 v2 v3 v4 v5 v6 v7 Q S) : P_X11_lee v0 v1 v2 v3 v4 v5 v6 v7 (fun r T => Q r T ∧ K9 b L S T) S := ky_X11_lee_0 hU hL hb h (k9_rf b L S)
abbrev kyL_X11_lies : List (Nat × Nat) := []
set_option maxRecDepth 20000 in
set_option maxHeartbeats 1000000 in
theorem ky_X11_lies_50 {b : Bool} {L : List (Nat × Nat)} (hU : ∀ q ∈ L, q ∈ nyT) (hL : ∀ q ∈ kyL_X11_lies, q ∈ L) (hb : False → b = false) {Q : Int32 → HS → Prop} {X22 X22_2 : Nat → Int32 → Int32 → HS → Prop} {v0 : Nat} {v2 : Int32} {s0 : Int32} {s1 : Int32} {S0 S : HS} (h : P_X11_lies_50 Q X22 v0 v2 s0 s1 S) (K : K9 b L S0 S) (hX22 : ∀ (u0 : Nat) (u1 : Int32) (u2 : Int32) (u3 : HS), X22 u0 u1 u2 u3 → K9 b L S0 u3 → X22_2 u0 u1 u2 u3) : P_X11_lies_50 (fun r T => Q r T ∧ K9 b L S0 T) X22_2 v0 v2 s0 s1 S := by
  delta P_X11_lies_50 at h ⊢
  intro x2 e1
  have h := h x2 e1
  intro x4 e3
  have h := h x4 e3
  exact hX22 _ _ _ _ h K
set_option maxRecDepth 20000 in
set_option maxHeartbeats 1000000 in
theorem kyB_X11_lies_22 {b : Bool} {L : List (Nat × Nat)} (hU : ∀ q ∈ L, q ∈ nyT) (hL : ∀ q ∈ kyL_X11_lies, q ∈ L) (hb : False → b = false) {Q : Int32 → HS → Prop} {X22 X22_2 : Nat → Int32 → Int32 → HS → Prop} {v0 : Nat} {v1 : Int32} {v2 : Int32} {S0 S : HS} (h : B_X11_lies_22 Q X22 v0 v1 v2 S) (K : K9 b L S0 S) (hX22 : ∀ (u0 : Nat) (u1 : Int32) (u2 : Int32) (u3 : HS), X22 u0 u1 u2 u3 → K9 b L S0 u3 → X22_2 u0 u1 u2 u3) : B_X11_lies_22 (fun r T => Q r T ∧ K9 b L S0 T) X22_2 v0 v1 v2 S := by
  delta B_X11_lies_22 at h ⊢
  obtain ⟨c1, h⟩ := h
  refine ⟨c1, ?_⟩
  have o2 := c1
  obtain ⟨b3, e4, h⟩ := h
  refine ⟨b3, e4, ?_⟩
  obtain ⟨c5, h⟩ := h
  refine ⟨c5, ?_⟩
  intro x7 e6
  have h := h x7 e6
  refine ⟨?_, ?_⟩
  · intro c8
    have h := h.1 c8
    refine cm_X11_good (ky_X11_good (b := b) hU (fun q hq => hL q ((by decide : ∀ q ∈ kyL_X11_good, q ∈ kyL_X11_lies) q hq)) (fun z => z.elim) h) h (fun x9 x10 p12 h g11 => ?_)
    have h := h g11
    have K := k9_tr K p12.2
    have o2 := gr_ob p12.2.1 o2
    exact ⟨h, K⟩
  · intro c13
    have h := h.2 c13
    refine cm_X11_fitOf (ky_X11_fitOf (b := b) hU (fun q hq => hL q ((by decide : ∀ q ∈ kyL_X11_fitOf, q ∈ kyL_X11_lies) q hq)) (fun z => z.elim) h) h (fun x14 x15 p17 h g16 => ?_)
    have h := h g16
    have K := k9_tr K p17.2
    have o2 := gr_ob p17.2.1 o2
    refine ⟨?_, ?_⟩
    · intro c18
      have h := h.1 c18
      exact ky_X11_lies_50 hU hL hb h K hX22
    · intro c19
      have h := h.2 c19
      exact ky_X11_lies_50 hU hL hb h K hX22
theorem ky_X11_lies_22 {b : Bool} {L : List (Nat × Nat)} (hU : ∀ q ∈ L, q ∈ nyT) (hL : ∀ q ∈ kyL_X11_lies, q ∈ L) (hb : False → b = false) {Q : Int32 → HS → Prop} {v0 : Nat} {v1 : Int32} {v2 : Int32} {S0 S : HS} (h : P_X11_lies_22 Q v0 v1 v2 S) (K : K9 b L S0 S) : P_X11_lies_22 (fun r T => Q r T ∧ K9 b L S0 T) v0 v1 v2 S := h (fun v0 v1 v2 S => K9 b L S0 S → P_X11_lies_22 (fun r T => Q r T ∧ K9 b L S0 T) v0 v1 v2 S) (fun v0 v1 v2 S hB K => fd_X11_lies_22 (kyB_X11_lies_22 hU hL hb hB K (fun _ _ _ _ hx K => hx K))) K
set_option maxRecDepth 20000 in
set_option maxHeartbeats 1000000 in
theorem ky_X11_lies_0 {b : Bool} {L : List (Nat × Nat)} (hU : ∀ q ∈ L, q ∈ nyT) (hL : ∀ q ∈ kyL_X11_lies, q ∈ L) (hb : False → b = false) {Q : Int32 → HS → Prop} {v0 : Nat} {S0 S : HS} (h : P_X11_lies_0 Q v0 S) (K : K9 b L S0 S) : P_X11_lies_0 (fun r T => Q r T ∧ K9 b L S0 T) v0 S := by
  delta P_X11_lies_0 at h ⊢
  obtain ⟨c1, h⟩ := h
  refine ⟨c1, ?_⟩
  have o2 := c1
  intro x4 e3
  have h := h x4 e3
  have K := k9_I K e3
  have o2 := ob_wI o2 e3
  refine ⟨?_, ?_⟩
  · intro c5
    have h := h.1 c5
    refine cm_X11_refused (ky_X11_refused (b := b) hU (fun q hq => hL q ((by decide : ∀ q ∈ kyL_X11_refused, q ∈ kyL_X11_lies) q hq)) (fun z => z.elim) h) h (fun x6 x7 p9 h g8 => ?_)
    have h := h g8
    have K := k9_tr K p9.2
    have o2 := gr_ob p9.2.1 o2
    exact ⟨h, K⟩
  · intro x10 c11
    have h := h.2 x10 c11
    exact ky_X11_lies_22 hU hL hb h K
theorem ky_X11_lies {b : Bool} {L : List (Nat × Nat)} (hU : ∀ q ∈ L, q ∈ nyT) (hL : ∀ q ∈ kyL_X11_lies, q ∈ L) (hb : False → b = false) {Q : Int32 → HS → Prop} {v0 : Nat} {S : HS} (h : P_X11_lies v0 Q S) : P_X11_lies v0 (fun r T => Q r T ∧ K9 b L S T) S := ky_X11_lies_0 hU hL hb h (k9_rf b L S)
abbrev kyL_X11_mark : List (Nat × Nat) := [(11, 23)]
set_option maxRecDepth 20000 in
set_option maxHeartbeats 1000000 in
theorem kyB_X11_mark_34 {b : Bool} {L : List (Nat × Nat)} (hU : ∀ q ∈ L, q ∈ nyT) (hL : ∀ q ∈ kyL_X11_mark, q ∈ L) (hb : False → b = false) {Q : Int32 → HS → Prop} {X34 X34_2 : Nat → Int32 → HS → Prop} {v0 : Nat} {v1 : Int32} {S0 S : HS} (h : B_X11_mark_34 Q X34 v0 v1 S) (K : K9 b L S0 S) (hX34 : ∀ (u0 : Nat) (u1 : Int32) (u2 : HS), X34 u0 u1 u2 → K9 b L S0 u2 → X34_2 u0 u1 u2) : B_X11_mark_34 (fun r T => Q r T ∧ K9 b L S0 T) X34_2 v0 v1 S := by
  delta B_X11_mark_34 at h ⊢
  refine ⟨?_, ?_⟩
  · intro c1
    have h := h.1 c1
    obtain ⟨c2, h⟩ := h
    refine ⟨c2, ?_⟩
    have o3 := c2
    intro x5 e4
    have h := h x5 e4
    intro x7 e6
    have h := h x7 e6
    intro x9 e8
    have h := h x9 e8
    have K := k9_I K e8
    have o3 := ob_wI o3 e8
    intro x11 e10
    have h := h x11 e10
    refine cm_X11_good (ky_X11_good (b := b) hU (fun q hq => hL q ((by decide : ∀ q ∈ kyL_X11_good, q ∈ kyL_X11_mark) q hq)) (fun z => z.elim) h) h (fun x12 x13 p15 h g14 => ?_)
    have h := h g14
    have K := k9_tr K p15.2
    have o3 := gr_ob p15.2.1 o3
    exact ⟨h, K⟩
  · intro c16
    have h := h.2 c16
    obtain ⟨c17, h⟩ := h
    refine ⟨c17, ?_⟩
    have o18 := c17
    obtain ⟨b19, e20, h⟩ := h
    refine ⟨b19, e20, ?_⟩
    have n21 := k9_nr K e20 o18 (hL _ (by decide))
    intro x23 e22
    have h := h x23 e22
    obtain ⟨b24, e25, h⟩ := h
    refine ⟨b24, e25, ?_⟩
    obtain ⟨c26, h⟩ := h
    refine ⟨c26, ?_⟩
    obtain ⟨c27, h⟩ := h
    refine ⟨c27, ?_⟩
    intro x29 e28
    have h := h x29 e28
    obtain ⟨c30, h⟩ := h
    refine ⟨c30, ?_⟩
    obtain ⟨c31, h⟩ := h
    refine ⟨c31, ?_⟩
    intro x33 e32
    have h := h x33 e32
    have K := k9_J K e32 n21
    have o18 := ob_wJ o18 e32
    intro x35 e34
    have h := h x35 e34
    exact hX34 _ _ _ h K
theorem ky_X11_mark_34 {b : Bool} {L : List (Nat × Nat)} (hU : ∀ q ∈ L, q ∈ nyT) (hL : ∀ q ∈ kyL_X11_mark, q ∈ L) (hb : False → b = false) {Q : Int32 → HS → Prop} {v0 : Nat} {v1 : Int32} {S0 S : HS} (h : P_X11_mark_34 Q v0 v1 S) (K : K9 b L S0 S) : P_X11_mark_34 (fun r T => Q r T ∧ K9 b L S0 T) v0 v1 S := h (fun v0 v1 S => K9 b L S0 S → P_X11_mark_34 (fun r T => Q r T ∧ K9 b L S0 T) v0 v1 S) (fun v0 v1 S hB K => fd_X11_mark_34 (kyB_X11_mark_34 hU hL hb hB K (fun _ _ _ hx K => hx K))) K
set_option maxRecDepth 20000 in
set_option maxHeartbeats 1000000 in
theorem ky_X11_mark_0 {b : Bool} {L : List (Nat × Nat)} (hU : ∀ q ∈ L, q ∈ nyT) (hL : ∀ q ∈ kyL_X11_mark, q ∈ L) (hb : False → b = false) {Q : Int32 → HS → Prop} {v0 : Nat} {S0 S : HS} (h : P_X11_mark_0 Q v0 S) (K : K9 b L S0 S) : P_X11_mark_0 (fun r T => Q r T ∧ K9 b L S0 T) v0 S := by
  delta P_X11_mark_0 at h ⊢
  obtain ⟨c1, h⟩ := h
  refine ⟨c1, ?_⟩
  intro x3 e2
  have h := h x3 e2
  have K := k9_I K e2
  refine cm_X11_isDay (ky_X11_isDay (b := b) hU (fun q hq => hL q ((by decide : ∀ q ∈ kyL_X11_isDay, q ∈ kyL_X11_mark) q hq)) (fun z => z.elim) h) h (fun x4 x5 p8 h g6 g7 => ?_)
  have h := h g6 g7
  have K := k9_tr K p8.2
  refine ⟨?_, ?_⟩
  · intro c9
    have h := h.1 c9
    intro x11 e10
    have h := h x11 e10
    refine ⟨?_, ?_⟩
    · intro c12
      have h := h.1 c12
      exact ky_X11_mark_34 hU hL hb h K
    · intro c13
      have h := h.2 c13
      refine cm_X11_refused (ky_X11_refused (b := b) hU (fun q hq => hL q ((by decide : ∀ q ∈ kyL_X11_refused, q ∈ kyL_X11_mark) q hq)) (fun z => z.elim) h) h (fun x14 x15 p17 h g16 => ?_)
      have h := h g16
      have K := k9_tr K p17.2
      exact ⟨h, K⟩
  · intro c18
    have h := h.2 c18
    refine cm_X11_refused (ky_X11_refused (b := b) hU (fun q hq => hL q ((by decide : ∀ q ∈ kyL_X11_refused, q ∈ kyL_X11_mark) q hq)) (fun z => z.elim) h) h (fun x19 x20 p22 h g21 => ?_)
    have h := h g21
    have K := k9_tr K p22.2
    exact ⟨h, K⟩
theorem ky_X11_mark {b : Bool} {L : List (Nat × Nat)} (hU : ∀ q ∈ L, q ∈ nyT) (hL : ∀ q ∈ kyL_X11_mark, q ∈ L) (hb : False → b = false) {Q : Int32 → HS → Prop} {v0 : Nat} {S : HS} (h : P_X11_mark v0 Q S) : P_X11_mark v0 (fun r T => Q r T ∧ K9 b L S T) S := ky_X11_mark_0 hU hL hb h (k9_rf b L S)
abbrev kyL_X11_mean : List (Nat × Nat) := []
set_option maxRecDepth 20000 in
set_option maxHeartbeats 1000000 in
theorem ky_X11_mean_0 {b : Bool} {L : List (Nat × Nat)} (hU : ∀ q ∈ L, q ∈ nyT) (hL : ∀ q ∈ kyL_X11_mean, q ∈ L) (hb : False → b = false) {Q : Int64 → HS → Prop} {v0 : Nat} {v1 : Int32} {v2 : Int32} {v3 : Int32} {v4 : Int32} {v5 : Int32} {v6 : Int32} {S0 S : HS} (h : P_X11_mean_0 Q v0 v1 v2 v3 v4 v5 v6 S) (K : K9 b L S0 S) : P_X11_mean_0 (fun r T => Q r T ∧ K9 b L S0 T) v0 v1 v2 v3 v4 v5 v6 S := by
  delta P_X11_mean_0 at h ⊢
  obtain ⟨c1, h⟩ := h
  refine ⟨c1, ?_⟩
  have o2 := c1
  intro x4 e3
  have h := h x4 e3
  have K := k9_I K e3
  have o2 := ob_wI o2 e3
  refine cm_X11_refuses (ky_X11_refuses (b := b) hU (fun q hq => hL q ((by decide : ∀ q ∈ kyL_X11_refuses, q ∈ kyL_X11_mean) q hq)) (fun z => z.elim) h) h (fun x5 x6 p8 h g7 => ?_)
  have h := h g7
  have K := k9_tr K p8.2
  have o2 := gr_ob p8.2.1 o2
  refine ⟨?_, ?_⟩
  · intro c9
    have h := h.1 c9
    refine cm_X11_wetOf (ky_X11_wetOf (b := b) hU (fun q hq => hL q ((by decide : ∀ q ∈ kyL_X11_wetOf, q ∈ kyL_X11_mean) q hq)) (fun z => z.elim) h) h (fun x10 x11 p13 h g12 => ?_)
    have h := h g12
    have K := k9_tr K p13.2
    have o2 := gr_ob p13.2.1 o2
    obtain ⟨b14, e15, h⟩ := h
    refine ⟨b14, e15, ?_⟩
    obtain ⟨c16, h⟩ := h
    refine ⟨c16, ?_⟩
    have o17 := c16
    obtain ⟨b18, e19, h⟩ := h
    refine ⟨b18, e19, ?_⟩
    obtain ⟨c20, h⟩ := h
    refine ⟨c20, ?_⟩
    obtain ⟨c21, h⟩ := h
    refine ⟨c21, ?_⟩
    intro x23 e22
    have h := h x23 e22
    refine cm_X11_told (ky_X11_told (b := b) hU (fun q hq => hL q ((by decide : ∀ q ∈ kyL_X11_told, q ∈ kyL_X11_mean) q hq)) (fun z => z.elim) h) h (fun x24 x25 p27 h g26 => ?_)
    have h := h g26
    have K := k9_tr K p27.2
    have o2 := gr_ob p27.2.1 o2
    have o17 := gr_ob p27.2.1 o17
    exact ⟨h, K⟩
  · intro c28
    have h := h.2 c28
    refine cm_X11_refused (ky_X11_refused (b := b) hU (fun q hq => hL q ((by decide : ∀ q ∈ kyL_X11_refused, q ∈ kyL_X11_mean) q hq)) (fun z => z.elim) h) h (fun x29 x30 p32 h g31 => ?_)
    have h := h g31
    have K := k9_tr K p32.2
    have o2 := gr_ob p32.2.1 o2
    exact ⟨h, K⟩
theorem ky_X11_mean {b : Bool} {L : List (Nat × Nat)} (hU : ∀ q ∈ L, q ∈ nyT) (hL : ∀ q ∈ kyL_X11_mean, q ∈ L) (hb : False → b = false) {Q : Int64 → HS → Prop} {v0 : Nat} {v1 : Int32} {v2 : Int32} {v3 : Int32} {v4 : Int32} {v5 : Int32} {v6 : Int32} {S : HS} (h : P_X11_mean v0 v1 v2 v3 v4 v5 v6 Q S) : P_X11_mean v0 v1 v2 v3 v4 v5 v6 (fun r T => Q r T ∧ K9 b L S T) S := ky_X11_mean_0 hU hL hb h (k9_rf b L S)
abbrev kyL_X11_minutes : List (Nat × Nat) := []
set_option maxRecDepth 20000 in
set_option maxHeartbeats 1000000 in
theorem ky_X11_minutes_21 {b : Bool} {L : List (Nat × Nat)} (hU : ∀ q ∈ L, q ∈ nyT) (hL : ∀ q ∈ kyL_X11_minutes, q ∈ L) (hb : False → b = false) {Q : Int32 → HS → Prop} {v0 : Nat} {S0 S : HS} (h : P_X11_minutes_21 Q v0 S) (K : K9 b L S0 S) : P_X11_minutes_21 (fun r T => Q r T ∧ K9 b L S0 T) v0 S := by
  delta P_X11_minutes_21 at h ⊢
  obtain ⟨c1, h⟩ := h
  refine ⟨c1, ?_⟩
  refine cm_X11_refused (ky_X11_refused (b := b) hU (fun q hq => hL q ((by decide : ∀ q ∈ kyL_X11_refused, q ∈ kyL_X11_minutes) q hq)) (fun z => z.elim) h) h (fun x2 x3 p5 h g4 => ?_)
  have h := h g4
  have K := k9_tr K p5.2
  exact ⟨h, K⟩
set_option maxRecDepth 20000 in
set_option maxHeartbeats 1000000 in
theorem ky_X11_minutes_0 {b : Bool} {L : List (Nat × Nat)} (hU : ∀ q ∈ L, q ∈ nyT) (hL : ∀ q ∈ kyL_X11_minutes, q ∈ L) (hb : False → b = false) {Q : Int32 → HS → Prop} {v0 : Nat} {v1 : Int32} {v2 : Int32} {v3 : Int32} {S0 S : HS} (h : P_X11_minutes_0 Q v0 v1 v2 v3 S) (K : K9 b L S0 S) : P_X11_minutes_0 (fun r T => Q r T ∧ K9 b L S0 T) v0 v1 v2 v3 S := by
  delta P_X11_minutes_0 at h ⊢
  obtain ⟨c1, h⟩ := h
  refine ⟨c1, ?_⟩
  have o2 := c1
  intro x4 e3
  have h := h x4 e3
  have K := k9_I K e3
  have o2 := ob_wI o2 e3
  refine cm_X11_isWalker (ky_X11_isWalker (b := b) hU (fun q hq => hL q ((by decide : ∀ q ∈ kyL_X11_isWalker, q ∈ kyL_X11_minutes) q hq)) (fun z => z.elim) h) h (fun x5 x6 p9 h g7 g8 => ?_)
  have h := h g7 g8
  have K := k9_tr K p9.2
  have o2 := gr_ob p9.2.1 o2
  refine ⟨?_, ?_⟩
  · intro c10
    have h := h.1 c10
    exact ky_X11_minutes_21 hU hL hb h K
  · intro c11
    have h := h.2 c11
    refine cm_X11_isRoad (ky_X11_isRoad (b := b) hU (fun q hq => hL q ((by decide : ∀ q ∈ kyL_X11_isRoad, q ∈ kyL_X11_minutes) q hq)) (fun z => z.elim) h) h (fun x12 x13 p16 h g14 g15 => ?_)
    have h := h g14 g15
    have K := k9_tr K p16.2
    have o2 := gr_ob p16.2.1 o2
    refine ⟨?_, ?_⟩
    · intro c17
      have h := h.1 c17
      refine cm_X11_isSpeed (ky_X11_isSpeed (b := b) hU (fun q hq => hL q ((by decide : ∀ q ∈ kyL_X11_isSpeed, q ∈ kyL_X11_minutes) q hq)) (fun z => z.elim) h) h (fun x18 x19 p22 h g20 g21 => ?_)
      have h := h g20 g21
      have K := k9_tr K p22.2
      have o2 := gr_ob p22.2.1 o2
      refine ⟨?_, ?_⟩
      · intro c23
        have h := h.1 c23
        refine cm_X11_refused (ky_X11_refused (b := b) hU (fun q hq => hL q ((by decide : ∀ q ∈ kyL_X11_refused, q ∈ kyL_X11_minutes) q hq)) (fun z => z.elim) h) h (fun x24 x25 p27 h g26 => ?_)
        have h := h g26
        have K := k9_tr K p27.2
        have o2 := gr_ob p27.2.1 o2
        exact ⟨h, K⟩
      · intro c28
        have h := h.2 c28
        obtain ⟨b29, e30, h⟩ := h
        refine ⟨b29, e30, ?_⟩
        obtain ⟨c31, h⟩ := h
        refine ⟨c31, ?_⟩
        refine cm_X10_minutes (ky_X10_minutes (b := b) hU (fun q hq => hL q ((by decide : ∀ q ∈ kyL_X10_minutes, q ∈ kyL_X11_minutes) q hq)) (fun z => z.elim) h) h (fun x32 x33 p35 h g34 => ?_)
        have h := h g34
        have K := k9_tr K p35.2
        have o2 := gr_ob p35.2.1 o2
        refine cm_X11_good (ky_X11_good (b := b) hU (fun q hq => hL q ((by decide : ∀ q ∈ kyL_X11_good, q ∈ kyL_X11_minutes) q hq)) (fun z => z.elim) h) h (fun x36 x37 p39 h g38 => ?_)
        have h := h g38
        have K := k9_tr K p39.2
        have o2 := gr_ob p39.2.1 o2
        exact ⟨h, K⟩
    · intro c40
      have h := h.2 c40
      exact ky_X11_minutes_21 hU hL hb h K
theorem ky_X11_minutes {b : Bool} {L : List (Nat × Nat)} (hU : ∀ q ∈ L, q ∈ nyT) (hL : ∀ q ∈ kyL_X11_minutes, q ∈ L) (hb : False → b = false) {Q : Int32 → HS → Prop} {v0 : Nat} {v1 : Int32} {v2 : Int32} {v3 : Int32} {S : HS} (h : P_X11_minutes v0 v1 v2 v3 Q S) : P_X11_minutes v0 v1 v2 v3 (fun r T => Q r T ∧ K9 b L S T) S := ky_X11_minutes_0 hU hL hb h (k9_rf b L S)
abbrev kyL_X11_names : List (Nat × Nat) := [(10, 28)]
set_option maxRecDepth 20000 in
set_option maxHeartbeats 1000000 in
theorem ky_X11_names_0 {b : Bool} {L : List (Nat × Nat)} (hU : ∀ q ∈ L, q ∈ nyT) (hL : ∀ q ∈ kyL_X11_names, q ∈ L) (hb : False → b = false) {Q : HS → Prop} {v0 : Nat} {v1 : Int64} {v3 : Int32} {v4 : Int32} {S0 S : HS} (h : P_X11_names_0 Q v0 v1 v3 v4 S) (K : K9 b L S0 S) : P_X11_names_0 (fun T => Q T ∧ K9 b L S0 T) v0 v1 v3 v4 S := by
  delta P_X11_names_0 at h ⊢
  obtain ⟨c1, h⟩ := h
  refine ⟨c1, ?_⟩
  have o2 := c1
  obtain ⟨b3, e4, h⟩ := h
  refine ⟨b3, e4, ?_⟩
  obtain ⟨c5, h⟩ := h
  refine ⟨c5, ?_⟩
  have o6 := c5
  obtain ⟨b7, e8, h⟩ := h
  refine ⟨b7, e8, ?_⟩
  have n9 := k9_nr K e8 o6 (hL _ (by decide))
  obtain ⟨b10, e11, h⟩ := h
  refine ⟨b10, e11, ?_⟩
  obtain ⟨c12, h⟩ := h
  refine ⟨c12, ?_⟩
  intro x14 e13
  have h := h x14 e13
  obtain ⟨c15, h⟩ := h
  refine ⟨c15, ?_⟩
  obtain ⟨c16, h⟩ := h
  refine ⟨c16, ?_⟩
  intro x18 e17
  have h := h x18 e17
  have K := k9_J K e17 n9
  have o2 := ob_wJ o2 e17
  have o6 := ob_wJ o6 e17
  obtain ⟨b19, e20, h⟩ := h
  refine ⟨b19, e20, ?_⟩
  obtain ⟨c21, h⟩ := h
  refine ⟨c21, ?_⟩
  have o22 := c21
  obtain ⟨b23, e24, h⟩ := h
  refine ⟨b23, e24, ?_⟩
  obtain ⟨b25, e26, h⟩ := h
  refine ⟨b25, e26, ?_⟩
  obtain ⟨c27, h⟩ := h
  refine ⟨c27, ?_⟩
  intro x29 e28
  have h := h x29 e28
  obtain ⟨c30, h⟩ := h
  refine ⟨c30, ?_⟩
  obtain ⟨c31, h⟩ := h
  refine ⟨c31, ?_⟩
  intro x33 e32
  have h := h x33 e32
  have K := k9_I K e32
  have o2 := ob_wI o2 e32
  have o6 := ob_wI o6 e32
  have o22 := ob_wI o22 e32
  obtain ⟨b34, e35, h⟩ := h
  refine ⟨b34, e35, ?_⟩
  obtain ⟨c36, h⟩ := h
  refine ⟨c36, ?_⟩
  have o37 := c36
  obtain ⟨b38, e39, h⟩ := h
  refine ⟨b38, e39, ?_⟩
  obtain ⟨b40, e41, h⟩ := h
  refine ⟨b40, e41, ?_⟩
  obtain ⟨c42, h⟩ := h
  refine ⟨c42, ?_⟩
  intro x44 e43
  have h := h x44 e43
  obtain ⟨c45, h⟩ := h
  refine ⟨c45, ?_⟩
  obtain ⟨c46, h⟩ := h
  refine ⟨c46, ?_⟩
  intro x48 e47
  have h := h x48 e47
  have K := k9_I K e47
  have o2 := ob_wI o2 e47
  have o6 := ob_wI o6 e47
  have o22 := ob_wI o22 e47
  have o37 := ob_wI o37 e47
  obtain ⟨b49, e50, h⟩ := h
  refine ⟨b49, e50, ?_⟩
  obtain ⟨c51, h⟩ := h
  refine ⟨c51, ?_⟩
  intro x53 e52
  have h := h x53 e52
  intro x55 e54
  have h := h x55 e54
  intro x57 e56
  have h := h x57 e56
  have K := k9_I K e56
  have o2 := ob_wI o2 e56
  have o6 := ob_wI o6 e56
  have o22 := ob_wI o22 e56
  have o37 := ob_wI o37 e56
  exact ⟨h, K⟩
theorem ky_X11_names {b : Bool} {L : List (Nat × Nat)} (hU : ∀ q ∈ L, q ∈ nyT) (hL : ∀ q ∈ kyL_X11_names, q ∈ L) (hb : False → b = false) {Q : HS → Prop} {v0 : Nat} {v1 : Int64} {v3 : Int32} {v4 : Int32} {S : HS} (h : P_X11_names v0 v1 v3 v4 Q S) : P_X11_names v0 v1 v3 v4 (fun T => Q T ∧ K9 b L S T) S := ky_X11_names_0 hU hL hb h (k9_rf b L S)
abbrev kyL_X11_needs : List (Nat × Nat) := []
set_option maxRecDepth 20000 in
set_option maxHeartbeats 1000000 in
theorem ky_X11_needs_13 {b : Bool} {L : List (Nat × Nat)} (hU : ∀ q ∈ L, q ∈ nyT) (hL : ∀ q ∈ kyL_X11_needs, q ∈ L) (hb : False → b = false) {Q : HS → Prop} {v0 : Nat} {S0 S : HS} (h : P_X11_needs_13 Q v0 S) (K : K9 b L S0 S) : P_X11_needs_13 (fun T => Q T ∧ K9 b L S0 T) v0 S := by
  delta P_X11_needs_13 at h ⊢
  obtain ⟨c1, h⟩ := h
  refine ⟨c1, ?_⟩
  refine cm_X11_goesOn (ky_X11_goesOn (b := b) hU (fun q hq => hL q ((by decide : ∀ q ∈ kyL_X11_goesOn, q ∈ kyL_X11_needs) q hq)) (fun z => z.elim) h) h (fun x2 p4 h g3 => ?_)
  have h := h g3
  have K := k9_tr K p4.2
  exact ⟨h, K⟩
set_option maxRecDepth 20000 in
set_option maxHeartbeats 1000000 in
theorem ky_X11_needs_0 {b : Bool} {L : List (Nat × Nat)} (hU : ∀ q ∈ L, q ∈ nyT) (hL : ∀ q ∈ kyL_X11_needs, q ∈ L) (hb : False → b = false) {Q : HS → Prop} {v0 : Nat} {v1 : Nat} {S0 S : HS} (h : P_X11_needs_0 Q v0 v1 S) (K : K9 b L S0 S) : P_X11_needs_0 (fun T => Q T ∧ K9 b L S0 T) v0 v1 S := by
  delta P_X11_needs_0 at h ⊢
  obtain ⟨c1, h⟩ := h
  refine ⟨c1, ?_⟩
  refine cm_X11_isWord (ky_X11_isWord (b := b) hU (fun q hq => hL q ((by decide : ∀ q ∈ kyL_X11_isWord, q ∈ kyL_X11_needs) q hq)) (fun z => z.elim) h) h (fun x2 x3 p6 h g4 g5 => ?_)
  have h := h g4 g5
  have K := k9_tr K p6.2
  refine ⟨?_, ?_⟩
  · intro c7
    have h := h.1 c7
    exact ky_X11_needs_13 hU hL hb h K
  · intro c8
    have h := h.2 c8
    refine cm_X11_flaw (ky_X11_flaw (b := b) hU (fun q hq => hL q ((by decide : ∀ q ∈ kyL_X11_flaw, q ∈ kyL_X11_needs) q hq)) (fun z => z.elim) h) h (fun x9 p11 h g10 => ?_)
    have h := h g10
    have K := k9_tr K p11.2
    exact ky_X11_needs_13 hU hL hb h K
theorem ky_X11_needs {b : Bool} {L : List (Nat × Nat)} (hU : ∀ q ∈ L, q ∈ nyT) (hL : ∀ q ∈ kyL_X11_needs, q ∈ L) (hb : False → b = false) {Q : HS → Prop} {v0 : Nat} {v1 : Nat} {S : HS} (h : P_X11_needs v0 v1 Q S) : P_X11_needs v0 v1 (fun T => Q T ∧ K9 b L S T) S := ky_X11_needs_0 hU hL hb h (k9_rf b L S)
abbrev kyL_X11_off : List (Nat × Nat) := [(11, 16)]
set_option maxRecDepth 20000 in
set_option maxHeartbeats 1000000 in
theorem ky_X11_off_29 {b : Bool} {L : List (Nat × Nat)} (hU : ∀ q ∈ L, q ∈ nyT) (hL : ∀ q ∈ kyL_X11_off, q ∈ L) (hb : False → b = false) {Q : Int32 → HS → Prop} {v0 : Nat} {S0 S : HS} (h : P_X11_off_29 Q v0 S) (K : K9 b L S0 S) : P_X11_off_29 (fun r T => Q r T ∧ K9 b L S0 T) v0 S := by
  delta P_X11_off_29 at h ⊢
  obtain ⟨c1, h⟩ := h
  refine ⟨c1, ?_⟩
  refine cm_X11_refused (ky_X11_refused (b := b) hU (fun q hq => hL q ((by decide : ∀ q ∈ kyL_X11_refused, q ∈ kyL_X11_off) q hq)) (fun z => z.elim) h) h (fun x2 x3 p5 h g4 => ?_)
  have h := h g4
  have K := k9_tr K p5.2
  exact ⟨h, K⟩
set_option maxRecDepth 20000 in
set_option maxHeartbeats 1000000 in
theorem ky_X11_off_128 {b : Bool} {L : List (Nat × Nat)} (hU : ∀ q ∈ L, q ∈ nyT) (hL : ∀ q ∈ kyL_X11_off, q ∈ L) (hb : False → b = false) {Q : Int32 → HS → Prop} {X67 X67_2 : Nat → Int32 → Int32 → Int32 → Int32 → HS → Prop} {v0 : Nat} {v2 : Int32} {v4 : Int32} {v5 : Int32} {v6 : Int32} {S0 S : HS} (h : P_X11_off_128 Q X67 v0 v2 v4 v5 v6 S) (K : K9 b L S0 S) (hX67 : ∀ (u0 : Nat) (u1 : Int32) (u2 : Int32) (u3 : Int32) (u4 : Int32) (u5 : HS), X67 u0 u1 u2 u3 u4 u5 → K9 b L S0 u5 → X67_2 u0 u1 u2 u3 u4 u5) : P_X11_off_128 (fun r T => Q r T ∧ K9 b L S0 T) X67_2 v0 v2 v4 v5 v6 S := by
  delta P_X11_off_128 at h ⊢
  intro x2 e1
  have h := h x2 e1
  exact hX67 _ _ _ _ _ _ h K
set_option maxRecDepth 20000 in
set_option maxHeartbeats 1000000 in
theorem ky_X11_off_124 {b : Bool} {L : List (Nat × Nat)} (hU : ∀ q ∈ L, q ∈ nyT) (hL : ∀ q ∈ kyL_X11_off, q ∈ L) (hb : False → b = false) {Q : Int32 → HS → Prop} {X67 X67_2 : Nat → Int32 → Int32 → Int32 → Int32 → HS → Prop} {v0 : Nat} {v2 : Int32} {v4 : Int32} {v6 : Int32} {S0 S : HS} (h : P_X11_off_124 Q X67 v0 v2 v4 v6 S) (K : K9 b L S0 S) (hX67 : ∀ (u0 : Nat) (u1 : Int32) (u2 : Int32) (u3 : Int32) (u4 : Int32) (u5 : HS), X67 u0 u1 u2 u3 u4 u5 → K9 b L S0 u5 → X67_2 u0 u1 u2 u3 u4 u5) : P_X11_off_124 (fun r T => Q r T ∧ K9 b L S0 T) X67_2 v0 v2 v4 v6 S := by
  delta P_X11_off_124 at h ⊢
  exact ky_X11_off_128 hU hL hb h K hX67
set_option maxRecDepth 20000 in
set_option maxHeartbeats 1000000 in
theorem kyB_X11_off_67 {b : Bool} {L : List (Nat × Nat)} (hU : ∀ q ∈ L, q ∈ nyT) (hL : ∀ q ∈ kyL_X11_off, q ∈ L) (hb : False → b = false) {Q : Int32 → HS → Prop} {X67 X67_2 : Nat → Int32 → Int32 → Int32 → Int32 → HS → Prop} {v0 : Nat} {v2 : Int32} {v4 : Int32} {v5 : Int32} {v6 : Int32} {S0 S : HS} (h : B_X11_off_67 Q X67 v0 v2 v4 v5 v6 S) (K : K9 b L S0 S) (hX67 : ∀ (u0 : Nat) (u1 : Int32) (u2 : Int32) (u3 : Int32) (u4 : Int32) (u5 : HS), X67 u0 u1 u2 u3 u4 u5 → K9 b L S0 u5 → X67_2 u0 u1 u2 u3 u4 u5) : B_X11_off_67 (fun r T => Q r T ∧ K9 b L S0 T) X67_2 v0 v2 v4 v5 v6 S := by
  delta B_X11_off_67 at h ⊢
  refine ⟨?_, ?_⟩
  · intro c1
    have h := h.1 c1
    refine ⟨?_, ?_⟩
    · intro c2
      have h := h.1 c2
      obtain ⟨c3, h⟩ := h
      refine ⟨c3, ?_⟩
      have o4 := c3
      refine cm_X11_good (ky_X11_good (b := b) hU (fun q hq => hL q ((by decide : ∀ q ∈ kyL_X11_good, q ∈ kyL_X11_off) q hq)) (fun z => z.elim) h) h (fun x5 x6 p8 h g7 => ?_)
      have h := h g7
      have K := k9_tr K p8.2
      have o4 := gr_ob p8.2.1 o4
      exact ⟨h, K⟩
    · intro c9
      have h := h.2 c9
      obtain ⟨c10, h⟩ := h
      refine ⟨c10, ?_⟩
      have o11 := c10
      refine cm_X11_refused (ky_X11_refused (b := b) hU (fun q hq => hL q ((by decide : ∀ q ∈ kyL_X11_refused, q ∈ kyL_X11_off) q hq)) (fun z => z.elim) h) h (fun x12 x13 p15 h g14 => ?_)
      have h := h g14
      have K := k9_tr K p15.2
      have o11 := gr_ob p15.2.1 o11
      exact ⟨h, K⟩
  · intro c16
    have h := h.2 c16
    obtain ⟨c17, h⟩ := h
    refine ⟨c17, ?_⟩
    have o18 := c17
    obtain ⟨b19, e20, h⟩ := h
    refine ⟨b19, e20, ?_⟩
    refine cm_X11_spotOf (ky_X11_spotOf (b := b) hU (fun q hq => hL q ((by decide : ∀ q ∈ kyL_X11_spotOf, q ∈ kyL_X11_off) q hq)) (fun z => z.elim) h) h (fun x21 x22 p24 h g23 => ?_)
    have h := h g23
    have K := k9_tr K p24.2
    have o18 := gr_ob p24.2.1 o18
    obtain ⟨c25, h⟩ := h
    refine ⟨c25, ?_⟩
    obtain ⟨c26, h⟩ := h
    refine ⟨c26, ?_⟩
    intro x28 e27
    have h := h x28 e27
    refine ⟨?_, ?_⟩
    · intro c29
      have h := h.1 c29
      exact ky_X11_off_128 hU hL hb h K hX67
    · intro c30
      have h := h.2 c30
      refine ⟨?_, ?_⟩
      · intro c31
        have h := h.1 c31
        exact ky_X11_off_124 hU hL hb h K hX67
      · intro c32
        have h := h.2 c32
        obtain ⟨b33, e34, h⟩ := h
        refine ⟨b33, e34, ?_⟩
        refine cm_X11_spotOf (ky_X11_spotOf (b := b) hU (fun q hq => hL q ((by decide : ∀ q ∈ kyL_X11_spotOf, q ∈ kyL_X11_off) q hq)) (fun z => z.elim) h) h (fun x35 x36 p38 h g37 => ?_)
        have h := h g37
        have K := k9_tr K p38.2
        have o18 := gr_ob p38.2.1 o18
        obtain ⟨c39, h⟩ := h
        refine ⟨c39, ?_⟩
        obtain ⟨c40, h⟩ := h
        refine ⟨c40, ?_⟩
        intro x42 e41
        have h := h x42 e41
        obtain ⟨b43, e44, h⟩ := h
        refine ⟨b43, e44, ?_⟩
        refine cm_X11_spotOf (ky_X11_spotOf (b := b) hU (fun q hq => hL q ((by decide : ∀ q ∈ kyL_X11_spotOf, q ∈ kyL_X11_off) q hq)) (fun z => z.elim) h) h (fun x45 x46 p48 h g47 => ?_)
        have h := h g47
        have K := k9_tr K p48.2
        have o18 := gr_ob p48.2.1 o18
        obtain ⟨c49, h⟩ := h
        refine ⟨c49, ?_⟩
        obtain ⟨c50, h⟩ := h
        refine ⟨c50, ?_⟩
        intro x52 e51
        have h := h x52 e51
        refine ⟨?_, ?_⟩
        · intro c53
          have h := h.1 c53
          exact ky_X11_off_128 hU hL hb h K hX67
        · intro c54
          have h := h.2 c54
          exact ky_X11_off_124 hU hL hb h K hX67
theorem ky_X11_off_67 {b : Bool} {L : List (Nat × Nat)} (hU : ∀ q ∈ L, q ∈ nyT) (hL : ∀ q ∈ kyL_X11_off, q ∈ L) (hb : False → b = false) {Q : Int32 → HS → Prop} {v0 : Nat} {v2 : Int32} {v4 : Int32} {v5 : Int32} {v6 : Int32} {S0 S : HS} (h : P_X11_off_67 Q v0 v2 v4 v5 v6 S) (K : K9 b L S0 S) : P_X11_off_67 (fun r T => Q r T ∧ K9 b L S0 T) v0 v2 v4 v5 v6 S := h (fun v0 v2 v4 v5 v6 S => K9 b L S0 S → P_X11_off_67 (fun r T => Q r T ∧ K9 b L S0 T) v0 v2 v4 v5 v6 S) (fun v0 v2 v4 v5 v6 S hB K => fd_X11_off_67 (kyB_X11_off_67 hU hL hb hB K (fun _ _ _ _ _ _ hx K => hx K))) K
set_option maxRecDepth 20000 in
set_option maxHeartbeats 1000000 in
theorem ky_X11_off_0 {b : Bool} {L : List (Nat × Nat)} (hU : ∀ q ∈ L, q ∈ nyT) (hL : ∀ q ∈ kyL_X11_off, q ∈ L) (hb : False → b = false) {Q : Int32 → HS → Prop} {v0 : Nat} {v1 : Int32} {v2 : Int32} {v3 : Int32} {v4 : Int32} {S0 S : HS} (h : P_X11_off_0 Q v0 v1 v2 v3 v4 S) (K : K9 b L S0 S) : P_X11_off_0 (fun r T => Q r T ∧ K9 b L S0 T) v0 v1 v2 v3 v4 S := by
  delta P_X11_off_0 at h ⊢
  obtain ⟨c1, h⟩ := h
  refine ⟨c1, ?_⟩
  intro x3 e2
  have h := h x3 e2
  have K := k9_I K e2
  refine cm_X11_isWalker (ky_X11_isWalker (b := b) hU (fun q hq => hL q ((by decide : ∀ q ∈ kyL_X11_isWalker, q ∈ kyL_X11_off) q hq)) (fun z => z.elim) h) h (fun x4 x5 p8 h g6 g7 => ?_)
  have h := h g6 g7
  have K := k9_tr K p8.2
  refine ⟨?_, ?_⟩
  · intro c9
    have h := h.1 c9
    exact ky_X11_off_29 hU hL hb h K
  · intro c10
    have h := h.2 c10
    refine cm_X11_isPlace (ky_X11_isPlace (b := b) hU (fun q hq => hL q ((by decide : ∀ q ∈ kyL_X11_isPlace, q ∈ kyL_X11_off) q hq)) (fun z => z.elim) h) h (fun x11 x12 p15 h g13 g14 => ?_)
    have h := h g13 g14
    have K := k9_tr K p15.2
    refine ⟨?_, ?_⟩
    · intro c16
      have h := h.1 c16
      exact ky_X11_off_29 hU hL hb h K
    · intro c17
      have h := h.2 c17
      refine cm_X11_isPlace (ky_X11_isPlace (b := b) hU (fun q hq => hL q ((by decide : ∀ q ∈ kyL_X11_isPlace, q ∈ kyL_X11_off) q hq)) (fun z => z.elim) h) h (fun x18 x19 p22 h g20 g21 => ?_)
      have h := h g20 g21
      have K := k9_tr K p22.2
      refine ⟨?_, ?_⟩
      · intro c23
        have h := h.1 c23
        refine cm_X11_in (ky_X11_in (b := b) hU (fun q hq => hL q ((by decide : ∀ q ∈ kyL_X11_in, q ∈ kyL_X11_off) q hq)) (fun z => z.elim) h) h (fun x24 x25 p28 h g26 g27 => ?_)
        have h := h g26 g27
        have K := k9_tr K p28.2
        refine ⟨?_, ?_⟩
        · intro c29
          have h := h.1 c29
          refine cm_X11_laysWays (ky_X11_laysWays (b := b) hU (fun q hq => hL q ((by decide : ∀ q ∈ kyL_X11_laysWays, q ∈ kyL_X11_off) q hq)) (fun z => z.elim) h) h (fun x30 p32 h g31 => ?_)
          have h := h g31
          have K := k9_tr K p32.2
          exact ky_X11_off_67 hU hL hb h K
        · intro c33
          have h := h.2 c33
          refine cm_X11_refused (ky_X11_refused (b := b) hU (fun q hq => hL q ((by decide : ∀ q ∈ kyL_X11_refused, q ∈ kyL_X11_off) q hq)) (fun z => z.elim) h) h (fun x34 x35 p37 h g36 => ?_)
          have h := h g36
          have K := k9_tr K p37.2
          exact ⟨h, K⟩
      · intro c38
        have h := h.2 c38
        exact ky_X11_off_29 hU hL hb h K
theorem ky_X11_off {b : Bool} {L : List (Nat × Nat)} (hU : ∀ q ∈ L, q ∈ nyT) (hL : ∀ q ∈ kyL_X11_off, q ∈ L) (hb : False → b = false) {Q : Int32 → HS → Prop} {v0 : Nat} {v1 : Int32} {v2 : Int32} {v3 : Int32} {v4 : Int32} {S : HS} (h : P_X11_off v0 v1 v2 v3 v4 Q S) : P_X11_off v0 v1 v2 v3 v4 (fun r T => Q r T ∧ K9 b L S T) S := ky_X11_off_0 hU hL hb h (k9_rf b L S)
abbrev kyL_X11_readFresh : List (Nat × Nat) := []
set_option maxRecDepth 20000 in
set_option maxHeartbeats 1000000 in
theorem ky_X11_readFresh_32 {b : Bool} {L : List (Nat × Nat)} (hU : ∀ q ∈ L, q ∈ nyT) (hL : ∀ q ∈ kyL_X11_readFresh, q ∈ L) (hb : False → b = false) {Q : Int64 → HS → Prop} {v0 : Nat} {S0 S : HS} (h : P_X11_readFresh_32 Q v0 S) (K : K9 b L S0 S) : P_X11_readFresh_32 (fun r T => Q r T ∧ K9 b L S0 T) v0 S := by
  delta P_X11_readFresh_32 at h ⊢
  obtain ⟨c1, h⟩ := h
  refine ⟨c1, ?_⟩
  intro x3 e2
  have h := h x3 e2
  refine cm_X11_goesOn (ky_X11_goesOn (b := b) hU (fun q hq => hL q ((by decide : ∀ q ∈ kyL_X11_goesOn, q ∈ kyL_X11_readFresh) q hq)) (fun z => z.elim) h) h (fun x4 p6 h g5 => ?_)
  have h := h g5
  have K := k9_tr K p6.2
  exact ⟨h, K⟩
set_option maxRecDepth 20000 in
set_option maxHeartbeats 1000000 in
theorem ky_X11_readFresh_12 {b : Bool} {L : List (Nat × Nat)} (hU : ∀ q ∈ L, q ∈ nyT) (hL : ∀ q ∈ kyL_X11_readFresh, q ∈ L) (hb : False → b = false) {Q : Int64 → HS → Prop} {v0 : Nat} {S0 S : HS} (h : P_X11_readFresh_12 Q v0 S) (K : K9 b L S0 S) : P_X11_readFresh_12 (fun r T => Q r T ∧ K9 b L S0 T) v0 S := by
  delta P_X11_readFresh_12 at h ⊢
  obtain ⟨c1, h⟩ := h
  refine ⟨c1, ?_⟩
  have o2 := c1
  obtain ⟨b3, e4, h⟩ := h
  refine ⟨b3, e4, ?_⟩
  intro x6 e5
  have h := h x6 e5
  obtain ⟨c7, h⟩ := h
  refine ⟨c7, ?_⟩
  refine cm_X10_find (ky_X10_find (b := b) hU (fun q hq => hL q ((by decide : ∀ q ∈ kyL_X10_find, q ∈ kyL_X11_readFresh) q hq)) (fun z => z.elim) h) h (fun x8 x9 p11 h g10 => ?_)
  have h := h g10
  have K := k9_tr K p11.2
  have o2 := gr_ob p11.2.1 o2
  refine ⟨?_, ?_⟩
  · intro c12
    have h := h.1 c12
    exact ky_X11_readFresh_32 hU hL hb h K
  · intro c13
    have h := h.2 c13
    refine cm_X11_flaw (ky_X11_flaw (b := b) hU (fun q hq => hL q ((by decide : ∀ q ∈ kyL_X11_flaw, q ∈ kyL_X11_readFresh) q hq)) (fun z => z.elim) h) h (fun x14 p16 h g15 => ?_)
    have h := h g15
    have K := k9_tr K p16.2
    have o2 := gr_ob p16.2.1 o2
    exact ky_X11_readFresh_32 hU hL hb h K
set_option maxRecDepth 20000 in
set_option maxHeartbeats 1000000 in
theorem ky_X11_readFresh_0 {b : Bool} {L : List (Nat × Nat)} (hU : ∀ q ∈ L, q ∈ nyT) (hL : ∀ q ∈ kyL_X11_readFresh, q ∈ L) (hb : False → b = false) {Q : Int64 → HS → Prop} {v0 : Nat} {S0 S : HS} (h : P_X11_readFresh_0 Q v0 S) (K : K9 b L S0 S) : P_X11_readFresh_0 (fun r T => Q r T ∧ K9 b L S0 T) v0 S := by
  delta P_X11_readFresh_0 at h ⊢
  obtain ⟨c1, h⟩ := h
  refine ⟨c1, ?_⟩
  refine cm_X11_isName (ky_X11_isName (b := b) hU (fun q hq => hL q ((by decide : ∀ q ∈ kyL_X11_isName, q ∈ kyL_X11_readFresh) q hq)) (fun z => z.elim) h) h (fun x2 x3 p6 h g4 g5 => ?_)
  have h := h g4 g5
  have K := k9_tr K p6.2
  refine ⟨?_, ?_⟩
  · intro c7
    have h := h.1 c7
    exact ky_X11_readFresh_12 hU hL hb h K
  · intro c8
    have h := h.2 c8
    refine cm_X11_flaw (ky_X11_flaw (b := b) hU (fun q hq => hL q ((by decide : ∀ q ∈ kyL_X11_flaw, q ∈ kyL_X11_readFresh) q hq)) (fun z => z.elim) h) h (fun x9 p11 h g10 => ?_)
    have h := h g10
    have K := k9_tr K p11.2
    exact ky_X11_readFresh_12 hU hL hb h K
theorem ky_X11_readFresh {b : Bool} {L : List (Nat × Nat)} (hU : ∀ q ∈ L, q ∈ nyT) (hL : ∀ q ∈ kyL_X11_readFresh, q ∈ L) (hb : False → b = false) {Q : Int64 → HS → Prop} {v0 : Nat} {S : HS} (h : P_X11_readFresh v0 Q S) : P_X11_readFresh v0 (fun r T => Q r T ∧ K9 b L S T) S := ky_X11_readFresh_0 hU hL hb h (k9_rf b L S)
abbrev kyL_X11_readWhole : List (Nat × Nat) := []
set_option maxRecDepth 20000 in
set_option maxHeartbeats 1000000 in
theorem ky_X11_readWhole_49 {b : Bool} {L : List (Nat × Nat)} (hU : ∀ q ∈ L, q ∈ nyT) (hL : ∀ q ∈ kyL_X11_readWhole, q ∈ L) (hb : False → b = false) {Q : Int32 → HS → Prop} {v0 : Nat} {s0 : Int32} {S0 S : HS} (h : P_X11_readWhole_49 Q v0 s0 S) (K : K9 b L S0 S) : P_X11_readWhole_49 (fun r T => Q r T ∧ K9 b L S0 T) v0 s0 S := by
  delta P_X11_readWhole_49 at h ⊢
  obtain ⟨c1, h⟩ := h
  refine ⟨c1, ?_⟩
  refine cm_X11_goesOn (ky_X11_goesOn (b := b) hU (fun q hq => hL q ((by decide : ∀ q ∈ kyL_X11_goesOn, q ∈ kyL_X11_readWhole) q hq)) (fun z => z.elim) h) h (fun x2 p4 h g3 => ?_)
  have h := h g3
  have K := k9_tr K p4.2
  exact ⟨h, K⟩
set_option maxRecDepth 20000 in
set_option maxHeartbeats 1000000 in
theorem ky_X11_readWhole_33 {b : Bool} {L : List (Nat × Nat)} (hU : ∀ q ∈ L, q ∈ nyT) (hL : ∀ q ∈ kyL_X11_readWhole, q ∈ L) (hb : False → b = false) {Q : Int32 → HS → Prop} {v0 : Nat} {v1 : Int32} {S0 S : HS} (h : P_X11_readWhole_33 Q v0 v1 S) (K : K9 b L S0 S) : P_X11_readWhole_33 (fun r T => Q r T ∧ K9 b L S0 T) v0 v1 S := by
  delta P_X11_readWhole_33 at h ⊢
  obtain ⟨c1, h⟩ := h
  refine ⟨c1, ?_⟩
  intro x3 e2
  have h := h x3 e2
  refine ⟨?_, ?_⟩
  · intro c4
    have h := h.1 c4
    intro x6 e5
    have h := h x6 e5
    exact ky_X11_readWhole_49 hU hL hb h K
  · intro c7
    have h := h.2 c7
    exact ky_X11_readWhole_49 hU hL hb h K
set_option maxRecDepth 20000 in
set_option maxHeartbeats 1000000 in
theorem ky_X11_readWhole_0 {b : Bool} {L : List (Nat × Nat)} (hU : ∀ q ∈ L, q ∈ nyT) (hL : ∀ q ∈ kyL_X11_readWhole, q ∈ L) (hb : False → b = false) {Q : Int32 → HS → Prop} {v0 : Nat} {v1 : Int32} {v2 : Int32} {S0 S : HS} (h : P_X11_readWhole_0 Q v0 v1 v2 S) (K : K9 b L S0 S) : P_X11_readWhole_0 (fun r T => Q r T ∧ K9 b L S0 T) v0 v1 v2 S := by
  delta P_X11_readWhole_0 at h ⊢
  obtain ⟨c1, h⟩ := h
  refine ⟨c1, ?_⟩
  intro x3 e2
  have h := h x3 e2
  refine ⟨?_, ?_⟩
  · intro c4
    have h := h.1 c4
    intro x6 e5
    have h := h x6 e5
    refine cm_X11_in (ky_X11_in (b := b) hU (fun q hq => hL q ((by decide : ∀ q ∈ kyL_X11_in, q ∈ kyL_X11_readWhole) q hq)) (fun z => z.elim) h) h (fun x7 x8 p11 h g9 g10 => ?_)
    have h := h g9 g10
    have K := k9_tr K p11.2
    refine ⟨?_, ?_⟩
    · intro c12
      have h := h.1 c12
      exact ky_X11_readWhole_33 hU hL hb h K
    · intro c13
      have h := h.2 c13
      refine cm_X11_flaw (ky_X11_flaw (b := b) hU (fun q hq => hL q ((by decide : ∀ q ∈ kyL_X11_flaw, q ∈ kyL_X11_readWhole) q hq)) (fun z => z.elim) h) h (fun x14 p16 h g15 => ?_)
      have h := h g15
      have K := k9_tr K p16.2
      exact ky_X11_readWhole_33 hU hL hb h K
  · intro c17
    have h := h.2 c17
    refine cm_X11_flaw (ky_X11_flaw (b := b) hU (fun q hq => hL q ((by decide : ∀ q ∈ kyL_X11_flaw, q ∈ kyL_X11_readWhole) q hq)) (fun z => z.elim) h) h (fun x18 p20 h g19 => ?_)
    have h := h g19
    have K := k9_tr K p20.2
    exact ky_X11_readWhole_33 hU hL hb h K
theorem ky_X11_readWhole {b : Bool} {L : List (Nat × Nat)} (hU : ∀ q ∈ L, q ∈ nyT) (hL : ∀ q ∈ kyL_X11_readWhole, q ∈ L) (hb : False → b = false) {Q : Int32 → HS → Prop} {v0 : Nat} {v1 : Int32} {v2 : Int32} {S : HS} (h : P_X11_readWhole v0 v1 v2 Q S) : P_X11_readWhole v0 v1 v2 (fun r T => Q r T ∧ K9 b L S T) S := ky_X11_readWhole_0 hU hL hb h (k9_rf b L S)
abbrev kyL_X11_readPlace : List (Nat × Nat) := [(10, 28)]
set_option maxRecDepth 20000 in
set_option maxHeartbeats 1000000 in
theorem ky_X11_readPlace_50 {b : Bool} {L : List (Nat × Nat)} (hU : ∀ q ∈ L, q ∈ nyT) (hL : ∀ q ∈ kyL_X11_readPlace, q ∈ L) (hb : False → b = false) {Q : HS → Prop} {v0 : Nat} {v1 : Int64} {v3 : Int32} {s0 : Int32} {S0 S : HS} (h : P_X11_readPlace_50 Q v0 v1 v3 s0 S) (K : K9 b L S0 S) : P_X11_readPlace_50 (fun T => Q T ∧ K9 b L S0 T) v0 v1 v3 s0 S := by
  delta P_X11_readPlace_50 at h ⊢
  obtain ⟨c1, h⟩ := h
  refine ⟨c1, ?_⟩
  have o2 := c1
  intro x4 e3
  have h := h x4 e3
  refine ⟨?_, ?_⟩
  · intro c5
    have h := h.1 c5
    obtain ⟨b6, e7, h⟩ := h
    refine ⟨b6, e7, ?_⟩
    obtain ⟨c8, h⟩ := h
    refine ⟨c8, ?_⟩
    intro x10 e9
    have h := h x10 e9
    refine cm_X11_names (ky_X11_names (b := b) hU (fun q hq => hL q ((by decide : ∀ q ∈ kyL_X11_names, q ∈ kyL_X11_readPlace) q hq)) (fun z => z.elim) h) h (fun x11 p13 h g12 => ?_)
    have h := h g12
    have K := k9_tr K p13.2
    have o2 := gr_ob p13.2.1 o2
    obtain ⟨b14, e15, h⟩ := h
    refine ⟨b14, e15, ?_⟩
    obtain ⟨c16, h⟩ := h
    refine ⟨c16, ?_⟩
    have o17 := c16
    obtain ⟨b18, e19, h⟩ := h
    refine ⟨b18, e19, ?_⟩
    obtain ⟨b20, e21, h⟩ := h
    refine ⟨b20, e21, ?_⟩
    obtain ⟨c22, h⟩ := h
    refine ⟨c22, ?_⟩
    intro x24 e23
    have h := h x24 e23
    obtain ⟨c25, h⟩ := h
    refine ⟨c25, ?_⟩
    obtain ⟨c26, h⟩ := h
    refine ⟨c26, ?_⟩
    intro x28 e27
    have h := h x28 e27
    have K := k9_I K e27
    have o2 := ob_wI o2 e27
    have o17 := ob_wI o17 e27
    obtain ⟨b29, e30, h⟩ := h
    refine ⟨b29, e30, ?_⟩
    obtain ⟨c31, h⟩ := h
    refine ⟨c31, ?_⟩
    have o32 := c31
    obtain ⟨b33, e34, h⟩ := h
    refine ⟨b33, e34, ?_⟩
    obtain ⟨b35, e36, h⟩ := h
    refine ⟨b35, e36, ?_⟩
    obtain ⟨c37, h⟩ := h
    refine ⟨c37, ?_⟩
    intro x39 e38
    have h := h x39 e38
    obtain ⟨c40, h⟩ := h
    refine ⟨c40, ?_⟩
    obtain ⟨c41, h⟩ := h
    refine ⟨c41, ?_⟩
    intro x43 e42
    have h := h x43 e42
    have K := k9_I K e42
    have o2 := ob_wI o2 e42
    have o17 := ob_wI o17 e42
    have o32 := ob_wI o32 e42
    obtain ⟨b44, e45, h⟩ := h
    refine ⟨b44, e45, ?_⟩
    obtain ⟨c46, h⟩ := h
    refine ⟨c46, ?_⟩
    intro x48 e47
    have h := h x48 e47
    intro x50 e49
    have h := h x50 e49
    intro x52 e51
    have h := h x52 e51
    have K := k9_I K e51
    have o2 := ob_wI o2 e51
    have o17 := ob_wI o17 e51
    have o32 := ob_wI o32 e51
    exact ⟨h, K⟩
  · intro c53
    have h := h.2 c53
    exact ⟨h, K⟩
set_option maxRecDepth 20000 in
set_option maxHeartbeats 1000000 in
theorem ky_X11_readPlace_48 {b : Bool} {L : List (Nat × Nat)} (hU : ∀ q ∈ L, q ∈ nyT) (hL : ∀ q ∈ kyL_X11_readPlace, q ∈ L) (hb : False → b = false) {Q : HS → Prop} {v0 : Nat} {v1 : Int64} {v3 : Int32} {S0 S : HS} (h : P_X11_readPlace_48 Q v0 v1 v3 S) (K : K9 b L S0 S) : P_X11_readPlace_48 (fun T => Q T ∧ K9 b L S0 T) v0 v1 v3 S := by
  delta P_X11_readPlace_48 at h ⊢
  exact ky_X11_readPlace_50 hU hL hb h K
set_option maxRecDepth 20000 in
set_option maxHeartbeats 1000000 in
theorem ky_X11_readPlace_0 {b : Bool} {L : List (Nat × Nat)} (hU : ∀ q ∈ L, q ∈ nyT) (hL : ∀ q ∈ kyL_X11_readPlace, q ∈ L) (hb : False → b = false) {Q : HS → Prop} {v0 : Nat} {S0 S : HS} (h : P_X11_readPlace_0 Q v0 S) (K : K9 b L S0 S) : P_X11_readPlace_0 (fun T => Q T ∧ K9 b L S0 T) v0 S := by
  delta P_X11_readPlace_0 at h ⊢
  obtain ⟨c1, h⟩ := h
  refine ⟨c1, ?_⟩
  have o2 := c1
  obtain ⟨b3, e4, h⟩ := h
  refine ⟨b3, e4, ?_⟩
  obtain ⟨c5, h⟩ := h
  refine ⟨c5, ?_⟩
  intro x7 e6
  have h := h x7 e6
  refine cm_X11_begins (ky_X11_begins (b := b) hU (fun q hq => hL q ((by decide : ∀ q ∈ kyL_X11_begins, q ∈ kyL_X11_readPlace) q hq)) (fun z => z.elim) h) h (fun x8 p10 h g9 => ?_)
  have h := h g9
  have K := k9_tr K p10.2
  have o2 := gr_ob p10.2.1 o2
  refine cm_X11_readFresh (ky_X11_readFresh (b := b) hU (fun q hq => hL q ((by decide : ∀ q ∈ kyL_X11_readFresh, q ∈ kyL_X11_readPlace) q hq)) (fun z => z.elim) h) h (fun x11 x12 p14 h g13 => ?_)
  have h := h g13
  have K := k9_tr K p14.2
  have o2 := gr_ob p14.2.1 o2
  refine cm_X11_eatsWord (ky_X11_eatsWord (b := b) hU (fun q hq => hL q ((by decide : ∀ q ∈ kyL_X11_eatsWord, q ∈ kyL_X11_readPlace) q hq)) (fun z => z.elim) h) h (fun x15 x16 p19 h g17 g18 => ?_)
  have h := h g17 g18
  have K := k9_tr K p19.2
  have o2 := gr_ob p19.2.1 o2
  refine ⟨?_, ?_⟩
  · intro c20
    have h := h.1 c20
    exact ky_X11_readPlace_48 hU hL hb h K
  · intro c21
    have h := h.2 c21
    refine cm_X11_eatsWord (ky_X11_eatsWord (b := b) hU (fun q hq => hL q ((by decide : ∀ q ∈ kyL_X11_eatsWord, q ∈ kyL_X11_readPlace) q hq)) (fun z => z.elim) h) h (fun x22 x23 p26 h g24 g25 => ?_)
    have h := h g24 g25
    have K := k9_tr K p26.2
    have o2 := gr_ob p26.2.1 o2
    refine ⟨?_, ?_⟩
    · intro c27
      have h := h.1 c27
      exact ky_X11_readPlace_48 hU hL hb h K
    · intro c28
      have h := h.2 c28
      refine cm_X11_readWhole (ky_X11_readWhole (b := b) hU (fun q hq => hL q ((by decide : ∀ q ∈ kyL_X11_readWhole, q ∈ kyL_X11_readPlace) q hq)) (fun z => z.elim) h) h (fun x29 x30 p32 h g31 => ?_)
      have h := h g31
      have K := k9_tr K p32.2
      have o2 := gr_ob p32.2.1 o2
      exact ky_X11_readPlace_50 hU hL hb h K
theorem ky_X11_readPlace {b : Bool} {L : List (Nat × Nat)} (hU : ∀ q ∈ L, q ∈ nyT) (hL : ∀ q ∈ kyL_X11_readPlace, q ∈ L) (hb : False → b = false) {Q : HS → Prop} {v0 : Nat} {S : HS} (h : P_X11_readPlace v0 Q S) : P_X11_readPlace v0 (fun T => Q T ∧ K9 b L S T) S := ky_X11_readPlace_0 hU hL hb h (k9_rf b L S)
abbrev kyL_X11_readPart : List (Nat × Nat) := []
set_option maxRecDepth 20000 in
set_option maxHeartbeats 1000000 in
theorem ky_X11_readPart_0 {b : Bool} {L : List (Nat × Nat)} (hU : ∀ q ∈ L, q ∈ nyT) (hL : ∀ q ∈ kyL_X11_readPart, q ∈ L) (hb : False → b = false) {Q : Int32 → HS → Prop} {v0 : Nat} {v1 : Nat} {v2 : Int32} {v3 : Int32} {S0 S : HS} (h : P_X11_readPart_0 Q v0 v1 v2 v3 S) (K : K9 b L S0 S) : P_X11_readPart_0 (fun r T => Q r T ∧ K9 b L S0 T) v0 v1 v2 v3 S := by
  delta P_X11_readPart_0 at h ⊢
  obtain ⟨c1, h⟩ := h
  refine ⟨c1, ?_⟩
  refine cm_X11_needs (ky_X11_needs (b := b) hU (fun q hq => hL q ((by decide : ∀ q ∈ kyL_X11_needs, q ∈ kyL_X11_readPart) q hq)) (fun z => z.elim) h) h (fun x2 p4 h g3 => ?_)
  have h := h g3
  have K := k9_tr K p4.2
  refine cm_X11_readWhole (ky_X11_readWhole (b := b) hU (fun q hq => hL q ((by decide : ∀ q ∈ kyL_X11_readWhole, q ∈ kyL_X11_readPart) q hq)) (fun z => z.elim) h) h (fun x5 x6 p8 h g7 => ?_)
  have h := h g7
  have K := k9_tr K p8.2
  exact ⟨h, K⟩
theorem ky_X11_readPart {b : Bool} {L : List (Nat × Nat)} (hU : ∀ q ∈ L, q ∈ nyT) (hL : ∀ q ∈ kyL_X11_readPart, q ∈ L) (hb : False → b = false) {Q : Int32 → HS → Prop} {v0 : Nat} {v1 : Nat} {v2 : Int32} {v3 : Int32} {S : HS} (h : P_X11_readPart v0 v1 v2 v3 Q S) : P_X11_readPart v0 v1 v2 v3 (fun r T => Q r T ∧ K9 b L S T) S := ky_X11_readPart_0 hU hL hb h (k9_rf b L S)
abbrev kyL_X11_readSide : List (Nat × Nat) := []
set_option maxRecDepth 20000 in
set_option maxHeartbeats 1000000 in
theorem ky_X11_readSide_64 {b : Bool} {L : List (Nat × Nat)} (hU : ∀ q ∈ L, q ∈ nyT) (hL : ∀ q ∈ kyL_X11_readSide, q ∈ L) (hb : False → b = false) {Q : Int32 → HS → Prop} {v0 : Nat} {v1 : Int32} {S0 S : HS} (h : P_X11_readSide_64 Q v0 v1 S) (K : K9 b L S0 S) : P_X11_readSide_64 (fun r T => Q r T ∧ K9 b L S0 T) v0 v1 S := by
  delta P_X11_readSide_64 at h ⊢
  obtain ⟨c1, h⟩ := h
  refine ⟨c1, ?_⟩
  refine cm_X11_goesOn (ky_X11_goesOn (b := b) hU (fun q hq => hL q ((by decide : ∀ q ∈ kyL_X11_goesOn, q ∈ kyL_X11_readSide) q hq)) (fun z => z.elim) h) h (fun x2 p4 h g3 => ?_)
  have h := h g3
  have K := k9_tr K p4.2
  exact ⟨h, K⟩
set_option maxRecDepth 20000 in
set_option maxHeartbeats 1000000 in
theorem ky_X11_readSide_53 {b : Bool} {L : List (Nat × Nat)} (hU : ∀ q ∈ L, q ∈ nyT) (hL : ∀ q ∈ kyL_X11_readSide, q ∈ L) (hb : False → b = false) {Q : Int32 → HS → Prop} {v0 : Nat} {s0 : Int32} {S0 S : HS} (h : P_X11_readSide_53 Q v0 s0 S) (K : K9 b L S0 S) : P_X11_readSide_53 (fun r T => Q r T ∧ K9 b L S0 T) v0 s0 S := by
  delta P_X11_readSide_53 at h ⊢
  refine ⟨?_, ?_⟩
  · intro c1
    have h := h.1 c1
    exact ky_X11_readSide_64 hU hL hb h K
  · intro c2
    have h := h.2 c2
    obtain ⟨c3, h⟩ := h
    refine ⟨c3, ?_⟩
    refine cm_X11_flaw (ky_X11_flaw (b := b) hU (fun q hq => hL q ((by decide : ∀ q ∈ kyL_X11_flaw, q ∈ kyL_X11_readSide) q hq)) (fun z => z.elim) h) h (fun x4 p6 h g5 => ?_)
    have h := h g5
    have K := k9_tr K p6.2
    exact ky_X11_readSide_64 hU hL hb h K
set_option maxRecDepth 20000 in
set_option maxHeartbeats 1000000 in
theorem ky_X11_readSide_0 {b : Bool} {L : List (Nat × Nat)} (hU : ∀ q ∈ L, q ∈ nyT) (hL : ∀ q ∈ kyL_X11_readSide, q ∈ L) (hb : False → b = false) {Q : Int32 → HS → Prop} {v0 : Nat} {S0 S : HS} (h : P_X11_readSide_0 Q v0 S) (K : K9 b L S0 S) : P_X11_readSide_0 (fun r T => Q r T ∧ K9 b L S0 T) v0 S := by
  delta P_X11_readSide_0 at h ⊢
  obtain ⟨c1, h⟩ := h
  refine ⟨c1, ?_⟩
  refine cm_X11_isWord (ky_X11_isWord (b := b) hU (fun q hq => hL q ((by decide : ∀ q ∈ kyL_X11_isWord, q ∈ kyL_X11_readSide) q hq)) (fun z => z.elim) h) h (fun x2 x3 p6 h g4 g5 => ?_)
  have h := h g4 g5
  have K := k9_tr K p6.2
  refine ⟨?_, ?_⟩
  · intro c7
    have h := h.1 c7
    refine cm_X11_isWord (ky_X11_isWord (b := b) hU (fun q hq => hL q ((by decide : ∀ q ∈ kyL_X11_isWord, q ∈ kyL_X11_readSide) q hq)) (fun z => z.elim) h) h (fun x8 x9 p12 h g10 g11 => ?_)
    have h := h g10 g11
    have K := k9_tr K p12.2
    refine ⟨?_, ?_⟩
    · intro c13
      have h := h.1 c13
      refine cm_X11_isWord (ky_X11_isWord (b := b) hU (fun q hq => hL q ((by decide : ∀ q ∈ kyL_X11_isWord, q ∈ kyL_X11_readSide) q hq)) (fun z => z.elim) h) h (fun x14 x15 p18 h g16 g17 => ?_)
      have h := h g16 g17
      have K := k9_tr K p18.2
      refine ⟨?_, ?_⟩
      · intro c19
        have h := h.1 c19
        refine cm_X11_isWord (ky_X11_isWord (b := b) hU (fun q hq => hL q ((by decide : ∀ q ∈ kyL_X11_isWord, q ∈ kyL_X11_readSide) q hq)) (fun z => z.elim) h) h (fun x20 x21 p24 h g22 g23 => ?_)
        have h := h g22 g23
        have K := k9_tr K p24.2
        refine ⟨?_, ?_⟩
        · intro c25
          have h := h.1 c25
          exact ky_X11_readSide_53 hU hL hb h K
        · intro c26
          have h := h.2 c26
          exact ky_X11_readSide_53 hU hL hb h K
      · intro c27
        have h := h.2 c27
        exact ky_X11_readSide_53 hU hL hb h K
    · intro c28
      have h := h.2 c28
      exact ky_X11_readSide_53 hU hL hb h K
  · intro c29
    have h := h.2 c29
    exact ky_X11_readSide_53 hU hL hb h K
theorem ky_X11_readSide {b : Bool} {L : List (Nat × Nat)} (hU : ∀ q ∈ L, q ∈ nyT) (hL : ∀ q ∈ kyL_X11_readSide, q ∈ L) (hb : False → b = false) {Q : Int32 → HS → Prop} {v0 : Nat} {S : HS} (h : P_X11_readSide v0 Q S) : P_X11_readSide v0 (fun r T => Q r T ∧ K9 b L S T) S := ky_X11_readSide_0 hU hL hb h (k9_rf b L S)
abbrev kyL_X11_readRain : List (Nat × Nat) := []
set_option maxRecDepth 20000 in
set_option maxHeartbeats 1000000 in
theorem ky_X11_readRain_0 {b : Bool} {L : List (Nat × Nat)} (hU : ∀ q ∈ L, q ∈ nyT) (hL : ∀ q ∈ kyL_X11_readRain, q ∈ L) (hb : False → b = false) {Q : HS → Prop} {v0 : Nat} {S0 S : HS} (h : P_X11_readRain_0 Q v0 S) (K : K9 b L S0 S) : P_X11_readRain_0 (fun T => Q T ∧ K9 b L S0 T) v0 S := by
  delta P_X11_readRain_0 at h ⊢
  obtain ⟨c1, h⟩ := h
  refine ⟨c1, ?_⟩
  have o2 := c1
  obtain ⟨b3, e4, h⟩ := h
  refine ⟨b3, e4, ?_⟩
  obtain ⟨c5, h⟩ := h
  refine ⟨c5, ?_⟩
  intro x7 e6
  have h := h x7 e6
  refine cm_X11_begins (ky_X11_begins (b := b) hU (fun q hq => hL q ((by decide : ∀ q ∈ kyL_X11_begins, q ∈ kyL_X11_readRain) q hq)) (fun z => z.elim) h) h (fun x8 p10 h g9 => ?_)
  have h := h g9
  have K := k9_tr K p10.2
  have o2 := gr_ob p10.2.1 o2
  refine cm_X11_readPart (ky_X11_readPart (b := b) hU (fun q hq => hL q ((by decide : ∀ q ∈ kyL_X11_readPart, q ∈ kyL_X11_readRain) q hq)) (fun z => z.elim) h) h (fun x11 x12 p14 h g13 => ?_)
  have h := h g13
  have K := k9_tr K p14.2
  have o2 := gr_ob p14.2.1 o2
  refine cm_X11_readPart (ky_X11_readPart (b := b) hU (fun q hq => hL q ((by decide : ∀ q ∈ kyL_X11_readPart, q ∈ kyL_X11_readRain) q hq)) (fun z => z.elim) h) h (fun x15 x16 p18 h g17 => ?_)
  have h := h g17
  have K := k9_tr K p18.2
  have o2 := gr_ob p18.2.1 o2
  refine cm_X11_needs (ky_X11_needs (b := b) hU (fun q hq => hL q ((by decide : ∀ q ∈ kyL_X11_needs, q ∈ kyL_X11_readRain) q hq)) (fun z => z.elim) h) h (fun x19 p21 h g20 => ?_)
  have h := h g20
  have K := k9_tr K p21.2
  have o2 := gr_ob p21.2.1 o2
  refine cm_X11_readSide (ky_X11_readSide (b := b) hU (fun q hq => hL q ((by decide : ∀ q ∈ kyL_X11_readSide, q ∈ kyL_X11_readRain) q hq)) (fun z => z.elim) h) h (fun x22 x23 p25 h g24 => ?_)
  have h := h g24
  have K := k9_tr K p25.2
  have o2 := gr_ob p25.2.1 o2
  refine cm_X11_readWhole (ky_X11_readWhole (b := b) hU (fun q hq => hL q ((by decide : ∀ q ∈ kyL_X11_readWhole, q ∈ kyL_X11_readRain) q hq)) (fun z => z.elim) h) h (fun x26 x27 p29 h g28 => ?_)
  have h := h g28
  have K := k9_tr K p29.2
  have o2 := gr_ob p29.2.1 o2
  refine cm_X11_readPart (ky_X11_readPart (b := b) hU (fun q hq => hL q ((by decide : ∀ q ∈ kyL_X11_readPart, q ∈ kyL_X11_readRain) q hq)) (fun z => z.elim) h) h (fun x30 x31 p33 h g32 => ?_)
  have h := h g32
  have K := k9_tr K p33.2
  have o2 := gr_ob p33.2.1 o2
  intro x35 e34
  have h := h x35 e34
  refine ⟨?_, ?_⟩
  · intro c36
    have h := h.1 c36
    obtain ⟨b37, e38, h⟩ := h
    refine ⟨b37, e38, ?_⟩
    obtain ⟨c39, h⟩ := h
    refine ⟨c39, ?_⟩
    have o40 := c39
    obtain ⟨b41, e42, h⟩ := h
    refine ⟨b41, e42, ?_⟩
    obtain ⟨b43, e44, h⟩ := h
    refine ⟨b43, e44, ?_⟩
    obtain ⟨c45, h⟩ := h
    refine ⟨c45, ?_⟩
    intro x47 e46
    have h := h x47 e46
    obtain ⟨c48, h⟩ := h
    refine ⟨c48, ?_⟩
    obtain ⟨c49, h⟩ := h
    refine ⟨c49, ?_⟩
    intro x51 e50
    have h := h x51 e50
    have K := k9_I K e50
    have o2 := ob_wI o2 e50
    have o40 := ob_wI o40 e50
    obtain ⟨b52, e53, h⟩ := h
    refine ⟨b52, e53, ?_⟩
    obtain ⟨c54, h⟩ := h
    refine ⟨c54, ?_⟩
    have o55 := c54
    obtain ⟨b56, e57, h⟩ := h
    refine ⟨b56, e57, ?_⟩
    obtain ⟨b58, e59, h⟩ := h
    refine ⟨b58, e59, ?_⟩
    obtain ⟨c60, h⟩ := h
    refine ⟨c60, ?_⟩
    intro x62 e61
    have h := h x62 e61
    obtain ⟨c63, h⟩ := h
    refine ⟨c63, ?_⟩
    obtain ⟨c64, h⟩ := h
    refine ⟨c64, ?_⟩
    intro x66 e65
    have h := h x66 e65
    have K := k9_I K e65
    have o2 := ob_wI o2 e65
    have o40 := ob_wI o40 e65
    have o55 := ob_wI o55 e65
    obtain ⟨b67, e68, h⟩ := h
    refine ⟨b67, e68, ?_⟩
    obtain ⟨c69, h⟩ := h
    refine ⟨c69, ?_⟩
    have o70 := c69
    obtain ⟨b71, e72, h⟩ := h
    refine ⟨b71, e72, ?_⟩
    obtain ⟨b73, e74, h⟩ := h
    refine ⟨b73, e74, ?_⟩
    obtain ⟨c75, h⟩ := h
    refine ⟨c75, ?_⟩
    intro x77 e76
    have h := h x77 e76
    obtain ⟨c78, h⟩ := h
    refine ⟨c78, ?_⟩
    obtain ⟨c79, h⟩ := h
    refine ⟨c79, ?_⟩
    intro x81 e80
    have h := h x81 e80
    have K := k9_I K e80
    have o2 := ob_wI o2 e80
    have o40 := ob_wI o40 e80
    have o55 := ob_wI o55 e80
    have o70 := ob_wI o70 e80
    obtain ⟨b82, e83, h⟩ := h
    refine ⟨b82, e83, ?_⟩
    obtain ⟨c84, h⟩ := h
    refine ⟨c84, ?_⟩
    have o85 := c84
    obtain ⟨b86, e87, h⟩ := h
    refine ⟨b86, e87, ?_⟩
    obtain ⟨b88, e89, h⟩ := h
    refine ⟨b88, e89, ?_⟩
    obtain ⟨c90, h⟩ := h
    refine ⟨c90, ?_⟩
    intro x92 e91
    have h := h x92 e91
    obtain ⟨c93, h⟩ := h
    refine ⟨c93, ?_⟩
    obtain ⟨c94, h⟩ := h
    refine ⟨c94, ?_⟩
    intro x96 e95
    have h := h x96 e95
    have K := k9_I K e95
    have o2 := ob_wI o2 e95
    have o40 := ob_wI o40 e95
    have o55 := ob_wI o55 e95
    have o70 := ob_wI o70 e95
    have o85 := ob_wI o85 e95
    obtain ⟨b97, e98, h⟩ := h
    refine ⟨b97, e98, ?_⟩
    obtain ⟨c99, h⟩ := h
    refine ⟨c99, ?_⟩
    have o100 := c99
    obtain ⟨b101, e102, h⟩ := h
    refine ⟨b101, e102, ?_⟩
    obtain ⟨b103, e104, h⟩ := h
    refine ⟨b103, e104, ?_⟩
    obtain ⟨c105, h⟩ := h
    refine ⟨c105, ?_⟩
    intro x107 e106
    have h := h x107 e106
    obtain ⟨c108, h⟩ := h
    refine ⟨c108, ?_⟩
    obtain ⟨c109, h⟩ := h
    refine ⟨c109, ?_⟩
    intro x111 e110
    have h := h x111 e110
    have K := k9_I K e110
    have o2 := ob_wI o2 e110
    have o40 := ob_wI o40 e110
    have o55 := ob_wI o55 e110
    have o70 := ob_wI o70 e110
    have o85 := ob_wI o85 e110
    have o100 := ob_wI o100 e110
    obtain ⟨b112, e113, h⟩ := h
    refine ⟨b112, e113, ?_⟩
    obtain ⟨c114, h⟩ := h
    refine ⟨c114, ?_⟩
    intro x116 e115
    have h := h x116 e115
    intro x118 e117
    have h := h x118 e117
    intro x120 e119
    have h := h x120 e119
    have K := k9_I K e119
    have o2 := ob_wI o2 e119
    have o40 := ob_wI o40 e119
    have o55 := ob_wI o55 e119
    have o70 := ob_wI o70 e119
    have o85 := ob_wI o85 e119
    have o100 := ob_wI o100 e119
    exact ⟨h, K⟩
  · intro c121
    have h := h.2 c121
    exact ⟨h, K⟩
theorem ky_X11_readRain {b : Bool} {L : List (Nat × Nat)} (hU : ∀ q ∈ L, q ∈ nyT) (hL : ∀ q ∈ kyL_X11_readRain, q ∈ L) (hb : False → b = false) {Q : HS → Prop} {v0 : Nat} {S : HS} (h : P_X11_readRain v0 Q S) : P_X11_readRain v0 (fun T => Q T ∧ K9 b L S T) S := ky_X11_readRain_0 hU hL hb h (k9_rf b L S)
abbrev kyL_X11_readRoad : List (Nat × Nat) := []
set_option maxRecDepth 20000 in
set_option maxHeartbeats 1000000 in
theorem ky_X11_readRoad_85 {b : Bool} {L : List (Nat × Nat)} (hU : ∀ q ∈ L, q ∈ nyT) (hL : ∀ q ∈ kyL_X11_readRoad, q ∈ L) (hb : False → b = false) {Q : HS → Prop} {v0 : Nat} {v1 : Int32} {v2 : Int32} {v3 : Int32} {v4 : Int32} {s0 : Int32} {S0 S : HS} (h : P_X11_readRoad_85 Q v0 v1 v2 v3 v4 s0 S) (K : K9 b L S0 S) : P_X11_readRoad_85 (fun T => Q T ∧ K9 b L S0 T) v0 v1 v2 v3 v4 s0 S := by
  delta P_X11_readRoad_85 at h ⊢
  obtain ⟨c1, h⟩ := h
  refine ⟨c1, ?_⟩
  have o2 := c1
  intro x4 e3
  have h := h x4 e3
  refine ⟨?_, ?_⟩
  · intro c5
    have h := h.1 c5
    obtain ⟨b6, e7, h⟩ := h
    refine ⟨b6, e7, ?_⟩
    obtain ⟨c8, h⟩ := h
    refine ⟨c8, ?_⟩
    intro x10 e9
    have h := h x10 e9
    obtain ⟨b11, e12, h⟩ := h
    refine ⟨b11, e12, ?_⟩
    obtain ⟨c13, h⟩ := h
    refine ⟨c13, ?_⟩
    have o14 := c13
    obtain ⟨b15, e16, h⟩ := h
    refine ⟨b15, e16, ?_⟩
    obtain ⟨c17, h⟩ := h
    refine ⟨c17, ?_⟩
    obtain ⟨c18, h⟩ := h
    refine ⟨c18, ?_⟩
    intro x20 e19
    have h := h x20 e19
    have K := k9_I K e19
    have o2 := ob_wI o2 e19
    have o14 := ob_wI o14 e19
    obtain ⟨b21, e22, h⟩ := h
    refine ⟨b21, e22, ?_⟩
    obtain ⟨c23, h⟩ := h
    refine ⟨c23, ?_⟩
    have o24 := c23
    obtain ⟨b25, e26, h⟩ := h
    refine ⟨b25, e26, ?_⟩
    obtain ⟨c27, h⟩ := h
    refine ⟨c27, ?_⟩
    obtain ⟨c28, h⟩ := h
    refine ⟨c28, ?_⟩
    intro x30 e29
    have h := h x30 e29
    have K := k9_I K e29
    have o2 := ob_wI o2 e29
    have o14 := ob_wI o14 e29
    have o24 := ob_wI o24 e29
    obtain ⟨b31, e32, h⟩ := h
    refine ⟨b31, e32, ?_⟩
    obtain ⟨c33, h⟩ := h
    refine ⟨c33, ?_⟩
    have o34 := c33
    obtain ⟨b35, e36, h⟩ := h
    refine ⟨b35, e36, ?_⟩
    obtain ⟨c37, h⟩ := h
    refine ⟨c37, ?_⟩
    obtain ⟨c38, h⟩ := h
    refine ⟨c38, ?_⟩
    intro x40 e39
    have h := h x40 e39
    have K := k9_I K e39
    have o2 := ob_wI o2 e39
    have o14 := ob_wI o14 e39
    have o24 := ob_wI o24 e39
    have o34 := ob_wI o34 e39
    obtain ⟨b41, e42, h⟩ := h
    refine ⟨b41, e42, ?_⟩
    obtain ⟨c43, h⟩ := h
    refine ⟨c43, ?_⟩
    have o44 := c43
    obtain ⟨b45, e46, h⟩ := h
    refine ⟨b45, e46, ?_⟩
    obtain ⟨c47, h⟩ := h
    refine ⟨c47, ?_⟩
    obtain ⟨c48, h⟩ := h
    refine ⟨c48, ?_⟩
    intro x50 e49
    have h := h x50 e49
    have K := k9_I K e49
    have o2 := ob_wI o2 e49
    have o14 := ob_wI o14 e49
    have o24 := ob_wI o24 e49
    have o34 := ob_wI o34 e49
    have o44 := ob_wI o44 e49
    obtain ⟨b51, e52, h⟩ := h
    refine ⟨b51, e52, ?_⟩
    obtain ⟨c53, h⟩ := h
    refine ⟨c53, ?_⟩
    have o54 := c53
    obtain ⟨b55, e56, h⟩ := h
    refine ⟨b55, e56, ?_⟩
    obtain ⟨c57, h⟩ := h
    refine ⟨c57, ?_⟩
    obtain ⟨c58, h⟩ := h
    refine ⟨c58, ?_⟩
    intro x60 e59
    have h := h x60 e59
    have K := k9_I K e59
    have o2 := ob_wI o2 e59
    have o14 := ob_wI o14 e59
    have o24 := ob_wI o24 e59
    have o34 := ob_wI o34 e59
    have o44 := ob_wI o44 e59
    have o54 := ob_wI o54 e59
    obtain ⟨b61, e62, h⟩ := h
    refine ⟨b61, e62, ?_⟩
    obtain ⟨c63, h⟩ := h
    refine ⟨c63, ?_⟩
    intro x65 e64
    have h := h x65 e64
    intro x67 e66
    have h := h x67 e66
    intro x69 e68
    have h := h x69 e68
    have K := k9_I K e68
    have o2 := ob_wI o2 e68
    have o14 := ob_wI o14 e68
    have o24 := ob_wI o24 e68
    have o34 := ob_wI o34 e68
    have o44 := ob_wI o44 e68
    have o54 := ob_wI o54 e68
    exact ⟨h, K⟩
  · intro c70
    have h := h.2 c70
    exact ⟨h, K⟩
set_option maxRecDepth 20000 in
set_option maxHeartbeats 1000000 in
theorem ky_X11_readRoad_62 {b : Bool} {L : List (Nat × Nat)} (hU : ∀ q ∈ L, q ∈ nyT) (hL : ∀ q ∈ kyL_X11_readRoad, q ∈ L) (hb : False → b = false) {Q : HS → Prop} {v0 : Nat} {v1 : Int32} {v2 : Int32} {v3 : Int32} {v4 : Int32} {S0 S : HS} (h : P_X11_readRoad_62 Q v0 v1 v2 v3 v4 S) (K : K9 b L S0 S) : P_X11_readRoad_62 (fun T => Q T ∧ K9 b L S0 T) v0 v1 v2 v3 v4 S := by
  delta P_X11_readRoad_62 at h ⊢
  obtain ⟨c1, h⟩ := h
  refine ⟨c1, ?_⟩
  refine cm_X11_goesOn (ky_X11_goesOn (b := b) hU (fun q hq => hL q ((by decide : ∀ q ∈ kyL_X11_goesOn, q ∈ kyL_X11_readRoad) q hq)) (fun z => z.elim) h) h (fun x2 p4 h g3 => ?_)
  have h := h g3
  have K := k9_tr K p4.2
  refine cm_X11_eatsWord (ky_X11_eatsWord (b := b) hU (fun q hq => hL q ((by decide : ∀ q ∈ kyL_X11_eatsWord, q ∈ kyL_X11_readRoad) q hq)) (fun z => z.elim) h) h (fun x5 x6 p9 h g7 g8 => ?_)
  have h := h g7 g8
  have K := k9_tr K p9.2
  refine ⟨?_, ?_⟩
  · intro c10
    have h := h.1 c10
    exact ky_X11_readRoad_85 hU hL hb h K
  · intro c11
    have h := h.2 c11
    refine cm_X11_readWhole (ky_X11_readWhole (b := b) hU (fun q hq => hL q ((by decide : ∀ q ∈ kyL_X11_readWhole, q ∈ kyL_X11_readRoad) q hq)) (fun z => z.elim) h) h (fun x12 x13 p15 h g14 => ?_)
    have h := h g14
    have K := k9_tr K p15.2
    exact ky_X11_readRoad_85 hU hL hb h K
set_option maxRecDepth 20000 in
set_option maxHeartbeats 1000000 in
theorem ky_X11_readRoad_0 {b : Bool} {L : List (Nat × Nat)} (hU : ∀ q ∈ L, q ∈ nyT) (hL : ∀ q ∈ kyL_X11_readRoad, q ∈ L) (hb : False → b = false) {Q : HS → Prop} {v0 : Nat} {S0 S : HS} (h : P_X11_readRoad_0 Q v0 S) (K : K9 b L S0 S) : P_X11_readRoad_0 (fun T => Q T ∧ K9 b L S0 T) v0 S := by
  delta P_X11_readRoad_0 at h ⊢
  obtain ⟨c1, h⟩ := h
  refine ⟨c1, ?_⟩
  have o2 := c1
  obtain ⟨b3, e4, h⟩ := h
  refine ⟨b3, e4, ?_⟩
  obtain ⟨c5, h⟩ := h
  refine ⟨c5, ?_⟩
  intro x7 e6
  have h := h x7 e6
  refine cm_X11_begins (ky_X11_begins (b := b) hU (fun q hq => hL q ((by decide : ∀ q ∈ kyL_X11_begins, q ∈ kyL_X11_readRoad) q hq)) (fun z => z.elim) h) h (fun x8 p10 h g9 => ?_)
  have h := h g9
  have K := k9_tr K p10.2
  have o2 := gr_ob p10.2.1 o2
  refine cm_X11_known (ky_X11_known (b := b) hU (fun q hq => hL q ((by decide : ∀ q ∈ kyL_X11_known, q ∈ kyL_X11_readRoad) q hq)) (fun z => z.elim) h) h (fun x11 x12 p14 h g13 => ?_)
  have h := h g13
  have K := k9_tr K p14.2
  have o2 := gr_ob p14.2.1 o2
  refine cm_X11_goesOn (ky_X11_goesOn (b := b) hU (fun q hq => hL q ((by decide : ∀ q ∈ kyL_X11_goesOn, q ∈ kyL_X11_readRoad) q hq)) (fun z => z.elim) h) h (fun x15 p17 h g16 => ?_)
  have h := h g16
  have K := k9_tr K p17.2
  have o2 := gr_ob p17.2.1 o2
  refine cm_X11_readSide (ky_X11_readSide (b := b) hU (fun q hq => hL q ((by decide : ∀ q ∈ kyL_X11_readSide, q ∈ kyL_X11_readRoad) q hq)) (fun z => z.elim) h) h (fun x18 x19 p21 h g20 => ?_)
  have h := h g20
  have K := k9_tr K p21.2
  have o2 := gr_ob p21.2.1 o2
  refine cm_X11_readWhole (ky_X11_readWhole (b := b) hU (fun q hq => hL q ((by decide : ∀ q ∈ kyL_X11_readWhole, q ∈ kyL_X11_readRoad) q hq)) (fun z => z.elim) h) h (fun x22 x23 p25 h g24 => ?_)
  have h := h g24
  have K := k9_tr K p25.2
  have o2 := gr_ob p25.2.1 o2
  refine cm_X11_known (ky_X11_known (b := b) hU (fun q hq => hL q ((by decide : ∀ q ∈ kyL_X11_known, q ∈ kyL_X11_readRoad) q hq)) (fun z => z.elim) h) h (fun x26 x27 p29 h g28 => ?_)
  have h := h g28
  have K := k9_tr K p29.2
  have o2 := gr_ob p29.2.1 o2
  intro x31 e30
  have h := h x31 e30
  refine ⟨?_, ?_⟩
  · intro c32
    have h := h.1 c32
    exact ky_X11_readRoad_62 hU hL hb h K
  · intro c33
    have h := h.2 c33
    refine ⟨?_, ?_⟩
    · intro c34
      have h := h.1 c34
      exact ky_X11_readRoad_62 hU hL hb h K
    · intro c35
      have h := h.2 c35
      refine cm_X11_flaw (ky_X11_flaw (b := b) hU (fun q hq => hL q ((by decide : ∀ q ∈ kyL_X11_flaw, q ∈ kyL_X11_readRoad) q hq)) (fun z => z.elim) h) h (fun x36 p38 h g37 => ?_)
      have h := h g37
      have K := k9_tr K p38.2
      have o2 := gr_ob p38.2.1 o2
      exact ky_X11_readRoad_62 hU hL hb h K
theorem ky_X11_readRoad {b : Bool} {L : List (Nat × Nat)} (hU : ∀ q ∈ L, q ∈ nyT) (hL : ∀ q ∈ kyL_X11_readRoad, q ∈ L) (hb : False → b = false) {Q : HS → Prop} {v0 : Nat} {S : HS} (h : P_X11_readRoad v0 Q S) : P_X11_readRoad v0 (fun T => Q T ∧ K9 b L S T) S := ky_X11_readRoad_0 hU hL hb h (k9_rf b L S)
abbrev kyL_X11_readSeen : List (Nat × Nat) := []
set_option maxRecDepth 20000 in
set_option maxHeartbeats 1000000 in
theorem ky_X11_readSeen_47 {b : Bool} {L : List (Nat × Nat)} (hU : ∀ q ∈ L, q ∈ nyT) (hL : ∀ q ∈ kyL_X11_readSeen, q ∈ L) (hb : False → b = false) {Q : HS → Prop} {X24 X24_2 : Nat → Int32 → Int32 → HS → Prop} {v0 : Nat} {v1 : Int32} {v2 : Int32} {S0 S : HS} (h : P_X11_readSeen_47 Q X24 v0 v1 v2 S) (K : K9 b L S0 S) (hX24 : ∀ (u0 : Nat) (u1 : Int32) (u2 : Int32) (u3 : HS), X24 u0 u1 u2 u3 → K9 b L S0 u3 → X24_2 u0 u1 u2 u3) : P_X11_readSeen_47 (fun T => Q T ∧ K9 b L S0 T) X24_2 v0 v1 v2 S := by
  delta P_X11_readSeen_47 at h ⊢
  obtain ⟨c1, h⟩ := h
  refine ⟨c1, ?_⟩
  have o2 := c1
  refine cm_X11_readWhole (ky_X11_readWhole (b := b) hU (fun q hq => hL q ((by decide : ∀ q ∈ kyL_X11_readWhole, q ∈ kyL_X11_readSeen) q hq)) (fun z => z.elim) h) h (fun x3 x4 p6 h g5 => ?_)
  have h := h g5
  have K := k9_tr K p6.2
  have o2 := gr_ob p6.2.1 o2
  intro x8 e7
  have h := h x8 e7
  refine ⟨?_, ?_⟩
  · intro c9
    have h := h.1 c9
    obtain ⟨b10, e11, h⟩ := h
    refine ⟨b10, e11, ?_⟩
    obtain ⟨c12, h⟩ := h
    refine ⟨c12, ?_⟩
    have o13 := c12
    obtain ⟨b14, e15, h⟩ := h
    refine ⟨b14, e15, ?_⟩
    obtain ⟨b16, e17, h⟩ := h
    refine ⟨b16, e17, ?_⟩
    obtain ⟨c18, h⟩ := h
    refine ⟨c18, ?_⟩
    intro x20 e19
    have h := h x20 e19
    obtain ⟨c21, h⟩ := h
    refine ⟨c21, ?_⟩
    obtain ⟨c22, h⟩ := h
    refine ⟨c22, ?_⟩
    intro x24 e23
    have h := h x24 e23
    have K := k9_I K e23
    have o2 := ob_wI o2 e23
    have o13 := ob_wI o13 e23
    intro x26 e25
    have h := h x26 e25
    exact hX24 _ _ _ _ h K
  · intro c27
    have h := h.2 c27
    exact ⟨h, K⟩
set_option maxRecDepth 20000 in
set_option maxHeartbeats 1000000 in
theorem kyB_X11_readSeen_24 {b : Bool} {L : List (Nat × Nat)} (hU : ∀ q ∈ L, q ∈ nyT) (hL : ∀ q ∈ kyL_X11_readSeen, q ∈ L) (hb : False → b = false) {Q : HS → Prop} {X24 X24_2 : Nat → Int32 → Int32 → HS → Prop} {v0 : Nat} {v1 : Int32} {v2 : Int32} {S0 S : HS} (h : B_X11_readSeen_24 Q X24 v0 v1 v2 S) (K : K9 b L S0 S) (hX24 : ∀ (u0 : Nat) (u1 : Int32) (u2 : Int32) (u3 : HS), X24 u0 u1 u2 u3 → K9 b L S0 u3 → X24_2 u0 u1 u2 u3) : B_X11_readSeen_24 (fun T => Q T ∧ K9 b L S0 T) X24_2 v0 v1 v2 S := by
  delta B_X11_readSeen_24 at h ⊢
  refine ⟨?_, ?_⟩
  · intro c1
    have h := h.1 c1
    obtain ⟨c2, h⟩ := h
    refine ⟨c2, ?_⟩
    have o3 := c2
    obtain ⟨b4, e5, h⟩ := h
    refine ⟨b4, e5, ?_⟩
    obtain ⟨c6, h⟩ := h
    refine ⟨c6, ?_⟩
    have o7 := c6
    obtain ⟨b8, e9, h⟩ := h
    refine ⟨b8, e9, ?_⟩
    obtain ⟨b10, e11, h⟩ := h
    refine ⟨b10, e11, ?_⟩
    obtain ⟨c12, h⟩ := h
    refine ⟨c12, ?_⟩
    intro x14 e13
    have h := h x14 e13
    obtain ⟨c15, h⟩ := h
    refine ⟨c15, ?_⟩
    obtain ⟨c16, h⟩ := h
    refine ⟨c16, ?_⟩
    intro x18 e17
    have h := h x18 e17
    have K := k9_I K e17
    have o3 := ob_wI o3 e17
    have o7 := ob_wI o7 e17
    obtain ⟨b19, e20, h⟩ := h
    refine ⟨b19, e20, ?_⟩
    obtain ⟨c21, h⟩ := h
    refine ⟨c21, ?_⟩
    intro x23 e22
    have h := h x23 e22
    intro x25 e24
    have h := h x25 e24
    intro x27 e26
    have h := h x27 e26
    have K := k9_I K e26
    have o3 := ob_wI o3 e26
    have o7 := ob_wI o7 e26
    exact ⟨h, K⟩
  · intro c28
    have h := h.2 c28
    refine ⟨?_, ?_⟩
    · intro c29
      have h := h.1 c29
      exact ky_X11_readSeen_47 hU hL hb h K hX24
    · intro c30
      have h := h.2 c30
      obtain ⟨c31, h⟩ := h
      refine ⟨c31, ?_⟩
      have o32 := c31
      refine cm_X11_eatsSign (ky_X11_eatsSign (b := b) hU (fun q hq => hL q ((by decide : ∀ q ∈ kyL_X11_eatsSign, q ∈ kyL_X11_readSeen) q hq)) (fun z => z.elim) h) h (fun x33 x34 p37 h g35 g36 => ?_)
      have h := h g35 g36
      have K := k9_tr K p37.2
      have o32 := gr_ob p37.2.1 o32
      refine ⟨?_, ?_⟩
      · intro c38
        have h := h.1 c38
        exact ky_X11_readSeen_47 hU hL hb h K hX24
      · intro c39
        have h := h.2 c39
        refine cm_X11_flaw (ky_X11_flaw (b := b) hU (fun q hq => hL q ((by decide : ∀ q ∈ kyL_X11_flaw, q ∈ kyL_X11_readSeen) q hq)) (fun z => z.elim) h) h (fun x40 p42 h g41 => ?_)
        have h := h g41
        have K := k9_tr K p42.2
        have o32 := gr_ob p42.2.1 o32
        exact ky_X11_readSeen_47 hU hL hb h K hX24
theorem ky_X11_readSeen_24 {b : Bool} {L : List (Nat × Nat)} (hU : ∀ q ∈ L, q ∈ nyT) (hL : ∀ q ∈ kyL_X11_readSeen, q ∈ L) (hb : False → b = false) {Q : HS → Prop} {v0 : Nat} {v1 : Int32} {v2 : Int32} {S0 S : HS} (h : P_X11_readSeen_24 Q v0 v1 v2 S) (K : K9 b L S0 S) : P_X11_readSeen_24 (fun T => Q T ∧ K9 b L S0 T) v0 v1 v2 S := h (fun v0 v1 v2 S => K9 b L S0 S → P_X11_readSeen_24 (fun T => Q T ∧ K9 b L S0 T) v0 v1 v2 S) (fun v0 v1 v2 S hB K => fd_X11_readSeen_24 (kyB_X11_readSeen_24 hU hL hb hB K (fun _ _ _ _ hx K => hx K))) K
set_option maxRecDepth 20000 in
set_option maxHeartbeats 1000000 in
theorem ky_X11_readSeen_0 {b : Bool} {L : List (Nat × Nat)} (hU : ∀ q ∈ L, q ∈ nyT) (hL : ∀ q ∈ kyL_X11_readSeen, q ∈ L) (hb : False → b = false) {Q : HS → Prop} {v0 : Nat} {S0 S : HS} (h : P_X11_readSeen_0 Q v0 S) (K : K9 b L S0 S) : P_X11_readSeen_0 (fun T => Q T ∧ K9 b L S0 T) v0 S := by
  delta P_X11_readSeen_0 at h ⊢
  obtain ⟨c1, h⟩ := h
  refine ⟨c1, ?_⟩
  have o2 := c1
  obtain ⟨b3, e4, h⟩ := h
  refine ⟨b3, e4, ?_⟩
  obtain ⟨c5, h⟩ := h
  refine ⟨c5, ?_⟩
  intro x7 e6
  have h := h x7 e6
  refine cm_X11_begins (ky_X11_begins (b := b) hU (fun q hq => hL q ((by decide : ∀ q ∈ kyL_X11_begins, q ∈ kyL_X11_readSeen) q hq)) (fun z => z.elim) h) h (fun x8 p10 h g9 => ?_)
  have h := h g9
  have K := k9_tr K p10.2
  have o2 := gr_ob p10.2.1 o2
  refine cm_X11_known (ky_X11_known (b := b) hU (fun q hq => hL q ((by decide : ∀ q ∈ kyL_X11_known, q ∈ kyL_X11_readSeen) q hq)) (fun z => z.elim) h) h (fun x11 x12 p14 h g13 => ?_)
  have h := h g13
  have K := k9_tr K p14.2
  have o2 := gr_ob p14.2.1 o2
  refine cm_X11_goesOn (ky_X11_goesOn (b := b) hU (fun q hq => hL q ((by decide : ∀ q ∈ kyL_X11_goesOn, q ∈ kyL_X11_readSeen) q hq)) (fun z => z.elim) h) h (fun x15 p17 h g16 => ?_)
  have h := h g16
  have K := k9_tr K p17.2
  have o2 := gr_ob p17.2.1 o2
  exact ky_X11_readSeen_24 hU hL hb h K
theorem ky_X11_readSeen {b : Bool} {L : List (Nat × Nat)} (hU : ∀ q ∈ L, q ∈ nyT) (hL : ∀ q ∈ kyL_X11_readSeen, q ∈ L) (hb : False → b = false) {Q : HS → Prop} {v0 : Nat} {S : HS} (h : P_X11_readSeen v0 Q S) : P_X11_readSeen v0 (fun T => Q T ∧ K9 b L S T) S := ky_X11_readSeen_0 hU hL hb h (k9_rf b L S)
abbrev kyL_X11_readWalker : List (Nat × Nat) := [(10, 28)]
set_option maxRecDepth 20000 in
set_option maxHeartbeats 1000000 in
theorem ky_X11_readWalker_149 {b : Bool} {L : List (Nat × Nat)} (hU : ∀ q ∈ L, q ∈ nyT) (hL : ∀ q ∈ kyL_X11_readWalker, q ∈ L) (hb : False → b = false) {Q : HS → Prop} {v0 : Nat} {v1 : Int64} {v3 : Int32} {v4 : Int32} {s0 : Int32} {S0 S : HS} (h : P_X11_readWalker_149 Q v0 v1 v3 v4 s0 S) (K : K9 b L S0 S) : P_X11_readWalker_149 (fun T => Q T ∧ K9 b L S0 T) v0 v1 v3 v4 s0 S := by
  delta P_X11_readWalker_149 at h ⊢
  obtain ⟨c1, h⟩ := h
  refine ⟨c1, ?_⟩
  have o2 := c1
  refine cm_X11_readPart (ky_X11_readPart (b := b) hU (fun q hq => hL q ((by decide : ∀ q ∈ kyL_X11_readPart, q ∈ kyL_X11_readWalker) q hq)) (fun z => z.elim) h) h (fun x3 x4 p6 h g5 => ?_)
  have h := h g5
  have K := k9_tr K p6.2
  have o2 := gr_ob p6.2.1 o2
  refine cm_X11_readPart (ky_X11_readPart (b := b) hU (fun q hq => hL q ((by decide : ∀ q ∈ kyL_X11_readPart, q ∈ kyL_X11_readWalker) q hq)) (fun z => z.elim) h) h (fun x7 x8 p10 h g9 => ?_)
  have h := h g9
  have K := k9_tr K p10.2
  have o2 := gr_ob p10.2.1 o2
  refine cm_X11_readPart (ky_X11_readPart (b := b) hU (fun q hq => hL q ((by decide : ∀ q ∈ kyL_X11_readPart, q ∈ kyL_X11_readWalker) q hq)) (fun z => z.elim) h) h (fun x11 x12 p14 h g13 => ?_)
  have h := h g13
  have K := k9_tr K p14.2
  have o2 := gr_ob p14.2.1 o2
  refine cm_X11_readPart (ky_X11_readPart (b := b) hU (fun q hq => hL q ((by decide : ∀ q ∈ kyL_X11_readPart, q ∈ kyL_X11_readWalker) q hq)) (fun z => z.elim) h) h (fun x15 x16 p18 h g17 => ?_)
  have h := h g17
  have K := k9_tr K p18.2
  have o2 := gr_ob p18.2.1 o2
  refine cm_X11_readPart (ky_X11_readPart (b := b) hU (fun q hq => hL q ((by decide : ∀ q ∈ kyL_X11_readPart, q ∈ kyL_X11_readWalker) q hq)) (fun z => z.elim) h) h (fun x19 x20 p22 h g21 => ?_)
  have h := h g21
  have K := k9_tr K p22.2
  have o2 := gr_ob p22.2.1 o2
  intro x24 e23
  have h := h x24 e23
  refine ⟨?_, ?_⟩
  · intro c25
    have h := h.1 c25
    obtain ⟨b26, e27, h⟩ := h
    refine ⟨b26, e27, ?_⟩
    obtain ⟨c28, h⟩ := h
    refine ⟨c28, ?_⟩
    intro x30 e29
    have h := h x30 e29
    refine cm_X11_names (ky_X11_names (b := b) hU (fun q hq => hL q ((by decide : ∀ q ∈ kyL_X11_names, q ∈ kyL_X11_readWalker) q hq)) (fun z => z.elim) h) h (fun x31 p33 h g32 => ?_)
    have h := h g32
    have K := k9_tr K p33.2
    have o2 := gr_ob p33.2.1 o2
    obtain ⟨b34, e35, h⟩ := h
    refine ⟨b34, e35, ?_⟩
    obtain ⟨c36, h⟩ := h
    refine ⟨c36, ?_⟩
    have o37 := c36
    obtain ⟨b38, e39, h⟩ := h
    refine ⟨b38, e39, ?_⟩
    obtain ⟨c40, h⟩ := h
    refine ⟨c40, ?_⟩
    obtain ⟨c41, h⟩ := h
    refine ⟨c41, ?_⟩
    intro x43 e42
    have h := h x43 e42
    have K := k9_I K e42
    have o2 := ob_wI o2 e42
    have o37 := ob_wI o37 e42
    obtain ⟨b44, e45, h⟩ := h
    refine ⟨b44, e45, ?_⟩
    obtain ⟨c46, h⟩ := h
    refine ⟨c46, ?_⟩
    have o47 := c46
    obtain ⟨b48, e49, h⟩ := h
    refine ⟨b48, e49, ?_⟩
    obtain ⟨c50, h⟩ := h
    refine ⟨c50, ?_⟩
    obtain ⟨c51, h⟩ := h
    refine ⟨c51, ?_⟩
    intro x53 e52
    have h := h x53 e52
    have K := k9_I K e52
    have o2 := ob_wI o2 e52
    have o37 := ob_wI o37 e52
    have o47 := ob_wI o47 e52
    obtain ⟨b54, e55, h⟩ := h
    refine ⟨b54, e55, ?_⟩
    obtain ⟨c56, h⟩ := h
    refine ⟨c56, ?_⟩
    have o57 := c56
    obtain ⟨b58, e59, h⟩ := h
    refine ⟨b58, e59, ?_⟩
    obtain ⟨c60, h⟩ := h
    refine ⟨c60, ?_⟩
    intro x62 e61
    have h := h x62 e61
    obtain ⟨c63, h⟩ := h
    refine ⟨c63, ?_⟩
    intro x65 e64
    have h := h x65 e64
    have K := k9_I K e64
    have o2 := ob_wI o2 e64
    have o37 := ob_wI o37 e64
    have o47 := ob_wI o47 e64
    have o57 := ob_wI o57 e64
    obtain ⟨b66, e67, h⟩ := h
    refine ⟨b66, e67, ?_⟩
    obtain ⟨c68, h⟩ := h
    refine ⟨c68, ?_⟩
    have o69 := c68
    obtain ⟨b70, e71, h⟩ := h
    refine ⟨b70, e71, ?_⟩
    obtain ⟨c72, h⟩ := h
    refine ⟨c72, ?_⟩
    intro x74 e73
    have h := h x74 e73
    obtain ⟨c75, h⟩ := h
    refine ⟨c75, ?_⟩
    intro x77 e76
    have h := h x77 e76
    have K := k9_I K e76
    have o2 := ob_wI o2 e76
    have o37 := ob_wI o37 e76
    have o47 := ob_wI o47 e76
    have o57 := ob_wI o57 e76
    have o69 := ob_wI o69 e76
    obtain ⟨b78, e79, h⟩ := h
    refine ⟨b78, e79, ?_⟩
    obtain ⟨c80, h⟩ := h
    refine ⟨c80, ?_⟩
    have o81 := c80
    obtain ⟨b82, e83, h⟩ := h
    refine ⟨b82, e83, ?_⟩
    obtain ⟨c84, h⟩ := h
    refine ⟨c84, ?_⟩
    intro x86 e85
    have h := h x86 e85
    obtain ⟨c87, h⟩ := h
    refine ⟨c87, ?_⟩
    intro x89 e88
    have h := h x89 e88
    have K := k9_I K e88
    have o2 := ob_wI o2 e88
    have o37 := ob_wI o37 e88
    have o47 := ob_wI o47 e88
    have o57 := ob_wI o57 e88
    have o69 := ob_wI o69 e88
    have o81 := ob_wI o81 e88
    obtain ⟨b90, e91, h⟩ := h
    refine ⟨b90, e91, ?_⟩
    obtain ⟨c92, h⟩ := h
    refine ⟨c92, ?_⟩
    have o93 := c92
    obtain ⟨b94, e95, h⟩ := h
    refine ⟨b94, e95, ?_⟩
    obtain ⟨c96, h⟩ := h
    refine ⟨c96, ?_⟩
    obtain ⟨c97, h⟩ := h
    refine ⟨c97, ?_⟩
    intro x99 e98
    have h := h x99 e98
    have K := k9_I K e98
    have o2 := ob_wI o2 e98
    have o37 := ob_wI o37 e98
    have o47 := ob_wI o47 e98
    have o57 := ob_wI o57 e98
    have o69 := ob_wI o69 e98
    have o81 := ob_wI o81 e98
    have o93 := ob_wI o93 e98
    obtain ⟨b100, e101, h⟩ := h
    refine ⟨b100, e101, ?_⟩
    obtain ⟨c102, h⟩ := h
    refine ⟨c102, ?_⟩
    have o103 := c102
    obtain ⟨b104, e105, h⟩ := h
    refine ⟨b104, e105, ?_⟩
    obtain ⟨c106, h⟩ := h
    refine ⟨c106, ?_⟩
    obtain ⟨c107, h⟩ := h
    refine ⟨c107, ?_⟩
    intro x109 e108
    have h := h x109 e108
    have K := k9_I K e108
    have o2 := ob_wI o2 e108
    have o37 := ob_wI o37 e108
    have o47 := ob_wI o47 e108
    have o57 := ob_wI o57 e108
    have o69 := ob_wI o69 e108
    have o81 := ob_wI o81 e108
    have o93 := ob_wI o93 e108
    have o103 := ob_wI o103 e108
    obtain ⟨b110, e111, h⟩ := h
    refine ⟨b110, e111, ?_⟩
    obtain ⟨c112, h⟩ := h
    refine ⟨c112, ?_⟩
    intro x114 e113
    have h := h x114 e113
    intro x116 e115
    have h := h x116 e115
    intro x118 e117
    have h := h x118 e117
    have K := k9_I K e117
    have o2 := ob_wI o2 e117
    have o37 := ob_wI o37 e117
    have o47 := ob_wI o47 e117
    have o57 := ob_wI o57 e117
    have o69 := ob_wI o69 e117
    have o81 := ob_wI o81 e117
    have o93 := ob_wI o93 e117
    have o103 := ob_wI o103 e117
    exact ⟨h, K⟩
  · intro c119
    have h := h.2 c119
    exact ⟨h, K⟩
set_option maxRecDepth 20000 in
set_option maxHeartbeats 1000000 in
theorem ky_X11_readWalker_136 {b : Bool} {L : List (Nat × Nat)} (hU : ∀ q ∈ L, q ∈ nyT) (hL : ∀ q ∈ kyL_X11_readWalker, q ∈ L) (hb : False → b = false) {Q : HS → Prop} {v0 : Nat} {v1 : Int64} {v3 : Int32} {s0 : Int32} {S0 S : HS} (h : P_X11_readWalker_136 Q v0 v1 v3 s0 S) (K : K9 b L S0 S) : P_X11_readWalker_136 (fun T => Q T ∧ K9 b L S0 T) v0 v1 v3 s0 S := by
  delta P_X11_readWalker_136 at h ⊢
  refine ⟨?_, ?_⟩
  · intro c1
    have h := h.1 c1
    exact ky_X11_readWalker_149 hU hL hb h K
  · intro c2
    have h := h.2 c2
    exact ky_X11_readWalker_149 hU hL hb h K
set_option maxRecDepth 20000 in
set_option maxHeartbeats 1000000 in
theorem ky_X11_readWalker_85 {b : Bool} {L : List (Nat × Nat)} (hU : ∀ q ∈ L, q ∈ nyT) (hL : ∀ q ∈ kyL_X11_readWalker, q ∈ L) (hb : False → b = false) {Q : HS → Prop} {v0 : Nat} {v1 : Int64} {v3 : Int32} {S0 S : HS} (h : P_X11_readWalker_85 Q v0 v1 v3 S) (K : K9 b L S0 S) : P_X11_readWalker_85 (fun T => Q T ∧ K9 b L S0 T) v0 v1 v3 S := by
  delta P_X11_readWalker_85 at h ⊢
  obtain ⟨c1, h⟩ := h
  refine ⟨c1, ?_⟩
  refine cm_X11_goesOn (ky_X11_goesOn (b := b) hU (fun q hq => hL q ((by decide : ∀ q ∈ kyL_X11_goesOn, q ∈ kyL_X11_readWalker) q hq)) (fun z => z.elim) h) h (fun x2 p4 h g3 => ?_)
  have h := h g3
  have K := k9_tr K p4.2
  refine ⟨?_, ?_⟩
  · intro c5
    have h := h.1 c5
    refine ⟨?_, ?_⟩
    · intro c6
      have h := h.1 c6
      refine ⟨?_, ?_⟩
      · intro c7
        have h := h.1 c7
        exact ky_X11_readWalker_136 hU hL hb h K
      · intro c8
        have h := h.2 c8
        refine cm_X11_readWhole (ky_X11_readWhole (b := b) hU (fun q hq => hL q ((by decide : ∀ q ∈ kyL_X11_readWhole, q ∈ kyL_X11_readWalker) q hq)) (fun z => z.elim) h) h (fun x9 x10 p12 h g11 => ?_)
        have h := h g11
        have K := k9_tr K p12.2
        exact ky_X11_readWalker_136 hU hL hb h K
    · intro c13
      have h := h.2 c13
      refine cm_X11_readWhole (ky_X11_readWhole (b := b) hU (fun q hq => hL q ((by decide : ∀ q ∈ kyL_X11_readWhole, q ∈ kyL_X11_readWalker) q hq)) (fun z => z.elim) h) h (fun x14 x15 p17 h g16 => ?_)
      have h := h g16
      have K := k9_tr K p17.2
      exact ky_X11_readWalker_136 hU hL hb h K
  · intro c18
    have h := h.2 c18
    refine cm_X11_readWhole (ky_X11_readWhole (b := b) hU (fun q hq => hL q ((by decide : ∀ q ∈ kyL_X11_readWhole, q ∈ kyL_X11_readWalker) q hq)) (fun z => z.elim) h) h (fun x19 x20 p22 h g21 => ?_)
    have h := h g21
    have K := k9_tr K p22.2
    exact ky_X11_readWalker_136 hU hL hb h K
set_option maxRecDepth 20000 in
set_option maxHeartbeats 1000000 in
theorem ky_X11_readWalker_74 {b : Bool} {L : List (Nat × Nat)} (hU : ∀ q ∈ L, q ∈ nyT) (hL : ∀ q ∈ kyL_X11_readWalker, q ∈ L) (hb : False → b = false) {Q : HS → Prop} {v0 : Nat} {v1 : Int64} {s0 : Int32} {S0 S : HS} (h : P_X11_readWalker_74 Q v0 v1 s0 S) (K : K9 b L S0 S) : P_X11_readWalker_74 (fun T => Q T ∧ K9 b L S0 T) v0 v1 s0 S := by
  delta P_X11_readWalker_74 at h ⊢
  refine ⟨?_, ?_⟩
  · intro c1
    have h := h.1 c1
    exact ky_X11_readWalker_85 hU hL hb h K
  · intro c2
    have h := h.2 c2
    obtain ⟨c3, h⟩ := h
    refine ⟨c3, ?_⟩
    refine cm_X11_flaw (ky_X11_flaw (b := b) hU (fun q hq => hL q ((by decide : ∀ q ∈ kyL_X11_flaw, q ∈ kyL_X11_readWalker) q hq)) (fun z => z.elim) h) h (fun x4 p6 h g5 => ?_)
    have h := h g5
    have K := k9_tr K p6.2
    exact ky_X11_readWalker_85 hU hL hb h K
set_option maxRecDepth 20000 in
set_option maxHeartbeats 1000000 in
theorem ky_X11_readWalker_0 {b : Bool} {L : List (Nat × Nat)} (hU : ∀ q ∈ L, q ∈ nyT) (hL : ∀ q ∈ kyL_X11_readWalker, q ∈ L) (hb : False → b = false) {Q : HS → Prop} {v0 : Nat} {S0 S : HS} (h : P_X11_readWalker_0 Q v0 S) (K : K9 b L S0 S) : P_X11_readWalker_0 (fun T => Q T ∧ K9 b L S0 T) v0 S := by
  delta P_X11_readWalker_0 at h ⊢
  obtain ⟨c1, h⟩ := h
  refine ⟨c1, ?_⟩
  have o2 := c1
  obtain ⟨b3, e4, h⟩ := h
  refine ⟨b3, e4, ?_⟩
  obtain ⟨c5, h⟩ := h
  refine ⟨c5, ?_⟩
  intro x7 e6
  have h := h x7 e6
  refine cm_X11_begins (ky_X11_begins (b := b) hU (fun q hq => hL q ((by decide : ∀ q ∈ kyL_X11_begins, q ∈ kyL_X11_readWalker) q hq)) (fun z => z.elim) h) h (fun x8 p10 h g9 => ?_)
  have h := h g9
  have K := k9_tr K p10.2
  have o2 := gr_ob p10.2.1 o2
  refine cm_X11_readFresh (ky_X11_readFresh (b := b) hU (fun q hq => hL q ((by decide : ∀ q ∈ kyL_X11_readFresh, q ∈ kyL_X11_readWalker) q hq)) (fun z => z.elim) h) h (fun x11 x12 p14 h g13 => ?_)
  have h := h g13
  have K := k9_tr K p14.2
  have o2 := gr_ob p14.2.1 o2
  refine cm_X11_isWord (ky_X11_isWord (b := b) hU (fun q hq => hL q ((by decide : ∀ q ∈ kyL_X11_isWord, q ∈ kyL_X11_readWalker) q hq)) (fun z => z.elim) h) h (fun x15 x16 p19 h g17 g18 => ?_)
  have h := h g17 g18
  have K := k9_tr K p19.2
  have o2 := gr_ob p19.2.1 o2
  refine ⟨?_, ?_⟩
  · intro c20
    have h := h.1 c20
    refine cm_X11_isWord (ky_X11_isWord (b := b) hU (fun q hq => hL q ((by decide : ∀ q ∈ kyL_X11_isWord, q ∈ kyL_X11_readWalker) q hq)) (fun z => z.elim) h) h (fun x21 x22 p25 h g23 g24 => ?_)
    have h := h g23 g24
    have K := k9_tr K p25.2
    have o2 := gr_ob p25.2.1 o2
    refine ⟨?_, ?_⟩
    · intro c26
      have h := h.1 c26
      refine cm_X11_isWord (ky_X11_isWord (b := b) hU (fun q hq => hL q ((by decide : ∀ q ∈ kyL_X11_isWord, q ∈ kyL_X11_readWalker) q hq)) (fun z => z.elim) h) h (fun x27 x28 p31 h g29 g30 => ?_)
      have h := h g29 g30
      have K := k9_tr K p31.2
      have o2 := gr_ob p31.2.1 o2
      refine ⟨?_, ?_⟩
      · intro c32
        have h := h.1 c32
        refine cm_X11_isWord (ky_X11_isWord (b := b) hU (fun q hq => hL q ((by decide : ∀ q ∈ kyL_X11_isWord, q ∈ kyL_X11_readWalker) q hq)) (fun z => z.elim) h) h (fun x33 x34 p37 h g35 g36 => ?_)
        have h := h g35 g36
        have K := k9_tr K p37.2
        have o2 := gr_ob p37.2.1 o2
        refine ⟨?_, ?_⟩
        · intro c38
          have h := h.1 c38
          exact ky_X11_readWalker_74 hU hL hb h K
        · intro c39
          have h := h.2 c39
          exact ky_X11_readWalker_74 hU hL hb h K
      · intro c40
        have h := h.2 c40
        exact ky_X11_readWalker_74 hU hL hb h K
    · intro c41
      have h := h.2 c41
      exact ky_X11_readWalker_74 hU hL hb h K
  · intro c42
    have h := h.2 c42
    exact ky_X11_readWalker_74 hU hL hb h K
theorem ky_X11_readWalker {b : Bool} {L : List (Nat × Nat)} (hU : ∀ q ∈ L, q ∈ nyT) (hL : ∀ q ∈ kyL_X11_readWalker, q ∈ L) (hb : False → b = false) {Q : HS → Prop} {v0 : Nat} {S : HS} (h : P_X11_readWalker v0 Q S) : P_X11_readWalker v0 (fun T => Q T ∧ K9 b L S T) S := ky_X11_readWalker_0 hU hL hb h (k9_rf b L S)
abbrev kyL_X11_readWorld : List (Nat × Nat) := []
set_option maxRecDepth 20000 in
set_option maxHeartbeats 1000000 in
theorem ky_X11_readWorld_15 {b : Bool} {L : List (Nat × Nat)} (hU : ∀ q ∈ L, q ∈ nyT) (hL : ∀ q ∈ kyL_X11_readWorld, q ∈ L) (hb : False → b = false) {Q : HS → Prop} {v0 : Nat} {S0 S : HS} (h : P_X11_readWorld_15 Q v0 S) (K : K9 b L S0 S) : P_X11_readWorld_15 (fun T => Q T ∧ K9 b L S0 T) v0 S := by
  delta P_X11_readWorld_15 at h ⊢
  obtain ⟨c1, h⟩ := h
  refine ⟨c1, ?_⟩
  have o2 := c1
  refine cm_X11_goesOn (ky_X11_goesOn (b := b) hU (fun q hq => hL q ((by decide : ∀ q ∈ kyL_X11_goesOn, q ∈ kyL_X11_readWorld) q hq)) (fun z => z.elim) h) h (fun x3 p5 h g4 => ?_)
  have h := h g4
  have K := k9_tr K p5.2
  have o2 := gr_ob p5.2.1 o2
  refine cm_X11_readPart (ky_X11_readPart (b := b) hU (fun q hq => hL q ((by decide : ∀ q ∈ kyL_X11_readPart, q ∈ kyL_X11_readWorld) q hq)) (fun z => z.elim) h) h (fun x6 x7 p9 h g8 => ?_)
  have h := h g8
  have K := k9_tr K p9.2
  have o2 := gr_ob p9.2.1 o2
  intro x11 e10
  have h := h x11 e10
  refine ⟨?_, ?_⟩
  · intro c12
    have h := h.1 c12
    exact ⟨h, K⟩
  · intro c13
    have h := h.2 c13
    obtain ⟨b14, e15, h⟩ := h
    refine ⟨b14, e15, ?_⟩
    obtain ⟨c16, h⟩ := h
    refine ⟨c16, ?_⟩
    intro x18 e17
    have h := h x18 e17
    have K := k9_I K e17
    have o2 := ob_wI o2 e17
    exact ⟨h, K⟩
set_option maxRecDepth 20000 in
set_option maxHeartbeats 1000000 in
theorem ky_X11_readWorld_0 {b : Bool} {L : List (Nat × Nat)} (hU : ∀ q ∈ L, q ∈ nyT) (hL : ∀ q ∈ kyL_X11_readWorld, q ∈ L) (hb : False → b = false) {Q : HS → Prop} {v0 : Nat} {S0 S : HS} (h : P_X11_readWorld_0 Q v0 S) (K : K9 b L S0 S) : P_X11_readWorld_0 (fun T => Q T ∧ K9 b L S0 T) v0 S := by
  delta P_X11_readWorld_0 at h ⊢
  obtain ⟨c1, h⟩ := h
  refine ⟨c1, ?_⟩
  have o2 := c1
  obtain ⟨b3, e4, h⟩ := h
  refine ⟨b3, e4, ?_⟩
  obtain ⟨c5, h⟩ := h
  refine ⟨c5, ?_⟩
  intro x7 e6
  have h := h x7 e6
  refine ⟨?_, ?_⟩
  · intro c8
    have h := h.1 c8
    exact ky_X11_readWorld_15 hU hL hb h K
  · intro c9
    have h := h.2 c9
    refine cm_X11_flaw (ky_X11_flaw (b := b) hU (fun q hq => hL q ((by decide : ∀ q ∈ kyL_X11_flaw, q ∈ kyL_X11_readWorld) q hq)) (fun z => z.elim) h) h (fun x10 p12 h g11 => ?_)
    have h := h g11
    have K := k9_tr K p12.2
    have o2 := gr_ob p12.2.1 o2
    exact ky_X11_readWorld_15 hU hL hb h K
theorem ky_X11_readWorld {b : Bool} {L : List (Nat × Nat)} (hU : ∀ q ∈ L, q ∈ nyT) (hL : ∀ q ∈ kyL_X11_readWorld, q ∈ L) (hb : False → b = false) {Q : HS → Prop} {v0 : Nat} {S : HS} (h : P_X11_readWorld v0 Q S) : P_X11_readWorld v0 (fun T => Q T ∧ K9 b L S T) S := ky_X11_readWorld_0 hU hL hb h (k9_rf b L S)
abbrev kyL_X11_readLine : List (Nat × Nat) := [(10, 28)]
set_option maxRecDepth 20000 in
set_option maxHeartbeats 1000000 in
theorem ky_X11_readLine_0 {b : Bool} {L : List (Nat × Nat)} (hU : ∀ q ∈ L, q ∈ nyT) (hL : ∀ q ∈ kyL_X11_readLine, q ∈ L) (hb : False → b = false) {Q : HS → Prop} {v0 : Nat} {S0 S : HS} (h : P_X11_readLine_0 Q v0 S) (K : K9 b L S0 S) : P_X11_readLine_0 (fun T => Q T ∧ K9 b L S0 T) v0 S := by
  delta P_X11_readLine_0 at h ⊢
  obtain ⟨c1, h⟩ := h
  refine ⟨c1, ?_⟩
  refine cm_X11_isWord (ky_X11_isWord (b := b) hU (fun q hq => hL q ((by decide : ∀ q ∈ kyL_X11_isWord, q ∈ kyL_X11_readLine) q hq)) (fun z => z.elim) h) h (fun x2 x3 p6 h g4 g5 => ?_)
  have h := h g4 g5
  have K := k9_tr K p6.2
  refine ⟨?_, ?_⟩
  · intro c7
    have h := h.1 c7
    refine cm_X11_isWord (ky_X11_isWord (b := b) hU (fun q hq => hL q ((by decide : ∀ q ∈ kyL_X11_isWord, q ∈ kyL_X11_readLine) q hq)) (fun z => z.elim) h) h (fun x8 x9 p12 h g10 g11 => ?_)
    have h := h g10 g11
    have K := k9_tr K p12.2
    refine ⟨?_, ?_⟩
    · intro c13
      have h := h.1 c13
      refine cm_X11_isWord (ky_X11_isWord (b := b) hU (fun q hq => hL q ((by decide : ∀ q ∈ kyL_X11_isWord, q ∈ kyL_X11_readLine) q hq)) (fun z => z.elim) h) h (fun x14 x15 p18 h g16 g17 => ?_)
      have h := h g16 g17
      have K := k9_tr K p18.2
      refine ⟨?_, ?_⟩
      · intro c19
        have h := h.1 c19
        refine cm_X11_isWord (ky_X11_isWord (b := b) hU (fun q hq => hL q ((by decide : ∀ q ∈ kyL_X11_isWord, q ∈ kyL_X11_readLine) q hq)) (fun z => z.elim) h) h (fun x20 x21 p24 h g22 g23 => ?_)
        have h := h g22 g23
        have K := k9_tr K p24.2
        refine ⟨?_, ?_⟩
        · intro c25
          have h := h.1 c25
          refine cm_X11_isWord (ky_X11_isWord (b := b) hU (fun q hq => hL q ((by decide : ∀ q ∈ kyL_X11_isWord, q ∈ kyL_X11_readLine) q hq)) (fun z => z.elim) h) h (fun x26 x27 p30 h g28 g29 => ?_)
          have h := h g28 g29
          have K := k9_tr K p30.2
          refine ⟨?_, ?_⟩
          · intro c31
            have h := h.1 c31
            refine cm_X11_isWord (ky_X11_isWord (b := b) hU (fun q hq => hL q ((by decide : ∀ q ∈ kyL_X11_isWord, q ∈ kyL_X11_readLine) q hq)) (fun z => z.elim) h) h (fun x32 x33 p36 h g34 g35 => ?_)
            have h := h g34 g35
            have K := k9_tr K p36.2
            refine ⟨?_, ?_⟩
            · intro c37
              have h := h.1 c37
              refine cm_X11_flaw (ky_X11_flaw (b := b) hU (fun q hq => hL q ((by decide : ∀ q ∈ kyL_X11_flaw, q ∈ kyL_X11_readLine) q hq)) (fun z => z.elim) h) h (fun x38 p40 h g39 => ?_)
              have h := h g39
              have K := k9_tr K p40.2
              exact ⟨h, K⟩
            · intro c41
              have h := h.2 c41
              refine cm_X11_readSeen (ky_X11_readSeen (b := b) hU (fun q hq => hL q ((by decide : ∀ q ∈ kyL_X11_readSeen, q ∈ kyL_X11_readLine) q hq)) (fun z => z.elim) h) h (fun x42 p44 h g43 => ?_)
              have h := h g43
              have K := k9_tr K p44.2
              exact ⟨h, K⟩
          · intro c45
            have h := h.2 c45
            refine cm_X11_readWalker (ky_X11_readWalker (b := b) hU (fun q hq => hL q ((by decide : ∀ q ∈ kyL_X11_readWalker, q ∈ kyL_X11_readLine) q hq)) (fun z => z.elim) h) h (fun x46 p48 h g47 => ?_)
            have h := h g47
            have K := k9_tr K p48.2
            exact ⟨h, K⟩
        · intro c49
          have h := h.2 c49
          refine cm_X11_readRoad (ky_X11_readRoad (b := b) hU (fun q hq => hL q ((by decide : ∀ q ∈ kyL_X11_readRoad, q ∈ kyL_X11_readLine) q hq)) (fun z => z.elim) h) h (fun x50 p52 h g51 => ?_)
          have h := h g51
          have K := k9_tr K p52.2
          exact ⟨h, K⟩
      · intro c53
        have h := h.2 c53
        refine cm_X11_readPlace (ky_X11_readPlace (b := b) hU (fun q hq => hL q ((by decide : ∀ q ∈ kyL_X11_readPlace, q ∈ kyL_X11_readLine) q hq)) (fun z => z.elim) h) h (fun x54 p56 h g55 => ?_)
        have h := h g55
        have K := k9_tr K p56.2
        exact ⟨h, K⟩
    · intro c57
      have h := h.2 c57
      refine cm_X11_readRain (ky_X11_readRain (b := b) hU (fun q hq => hL q ((by decide : ∀ q ∈ kyL_X11_readRain, q ∈ kyL_X11_readLine) q hq)) (fun z => z.elim) h) h (fun x58 p60 h g59 => ?_)
      have h := h g59
      have K := k9_tr K p60.2
      exact ⟨h, K⟩
  · intro c61
    have h := h.2 c61
    refine cm_X11_readWorld (ky_X11_readWorld (b := b) hU (fun q hq => hL q ((by decide : ∀ q ∈ kyL_X11_readWorld, q ∈ kyL_X11_readLine) q hq)) (fun z => z.elim) h) h (fun x62 p64 h g63 => ?_)
    have h := h g63
    have K := k9_tr K p64.2
    exact ⟨h, K⟩
theorem ky_X11_readLine {b : Bool} {L : List (Nat × Nat)} (hU : ∀ q ∈ L, q ∈ nyT) (hL : ∀ q ∈ kyL_X11_readLine, q ∈ L) (hb : False → b = false) {Q : HS → Prop} {v0 : Nat} {S : HS} (h : P_X11_readLine v0 Q S) : P_X11_readLine v0 (fun T => Q T ∧ K9 b L S T) S := ky_X11_readLine_0 hU hL hb h (k9_rf b L S)
abbrev kyL_X11_readAll : List (Nat × Nat) := [(10, 28)]
set_option maxRecDepth 20000 in
set_option maxHeartbeats 1000000 in
theorem ky_X11_readAll_63 {b : Bool} {L : List (Nat × Nat)} (hU : ∀ q ∈ L, q ∈ nyT) (hL : ∀ q ∈ kyL_X11_readAll, q ∈ L) (hb : False → b = false) {Q : HS → Prop} {v0 : Nat} {S0 S : HS} (h : P_X11_readAll_63 Q v0 S) (K : K9 b L S0 S) : P_X11_readAll_63 (fun T => Q T ∧ K9 b L S0 T) v0 S := by
  delta P_X11_readAll_63 at h ⊢
  obtain ⟨c1, h⟩ := h
  refine ⟨c1, ?_⟩
  refine cm_X11_flaw (ky_X11_flaw (b := b) hU (fun q hq => hL q ((by decide : ∀ q ∈ kyL_X11_flaw, q ∈ kyL_X11_readAll) q hq)) (fun z => z.elim) h) h (fun x2 p4 h g3 => ?_)
  have h := h g3
  have K := k9_tr K p4.2
  exact ⟨h, K⟩
set_option maxRecDepth 20000 in
set_option maxHeartbeats 1000000 in
theorem ky_X11_readAll_33 {b : Bool} {L : List (Nat × Nat)} (hU : ∀ q ∈ L, q ∈ nyT) (hL : ∀ q ∈ kyL_X11_readAll, q ∈ L) (hb : False → b = false) {Q : HS → Prop} {v0 : Nat} {S0 S : HS} (h : P_X11_readAll_33 Q v0 S) (K : K9 b L S0 S) : P_X11_readAll_33 (fun T => Q T ∧ K9 b L S0 T) v0 S := by
  delta P_X11_readAll_33 at h ⊢
  obtain ⟨c1, h⟩ := h
  refine ⟨c1, ?_⟩
  have o2 := c1
  obtain ⟨b3, e4, h⟩ := h
  refine ⟨b3, e4, ?_⟩
  obtain ⟨c5, h⟩ := h
  refine ⟨c5, ?_⟩
  intro x7 e6
  have h := h x7 e6
  refine ⟨?_, ?_⟩
  · intro c8
    have h := h.1 c8
    exact ky_X11_readAll_63 hU hL hb h K
  · intro c9
    have h := h.2 c9
    obtain ⟨b10, e11, h⟩ := h
    refine ⟨b10, e11, ?_⟩
    obtain ⟨c12, h⟩ := h
    refine ⟨c12, ?_⟩
    intro x14 e13
    have h := h x14 e13
    refine ⟨?_, ?_⟩
    · intro c15
      have h := h.1 c15
      exact ky_X11_readAll_63 hU hL hb h K
    · intro c16
      have h := h.2 c16
      obtain ⟨b17, e18, h⟩ := h
      refine ⟨b17, e18, ?_⟩
      obtain ⟨c19, h⟩ := h
      refine ⟨c19, ?_⟩
      intro x21 e20
      have h := h x21 e20
      refine ⟨?_, ?_⟩
      · intro c22
        have h := h.1 c22
        exact ⟨h, K⟩
      · intro c23
        have h := h.2 c23
        exact ky_X11_readAll_63 hU hL hb h K
set_option maxRecDepth 20000 in
set_option maxHeartbeats 1000000 in
theorem kyB_X11_readAll_2 {b : Bool} {L : List (Nat × Nat)} (hU : ∀ q ∈ L, q ∈ nyT) (hL : ∀ q ∈ kyL_X11_readAll, q ∈ L) (hb : False → b = false) {Q : HS → Prop} {X2 X2_2 : Nat → Int32 → HS → Prop} {v0 : Nat} {v1 : Int32} {S0 S : HS} (h : B_X11_readAll_2 Q X2 v0 v1 S) (K : K9 b L S0 S) (hX2 : ∀ (u0 : Nat) (u1 : Int32) (u2 : HS), X2 u0 u1 u2 → K9 b L S0 u2 → X2_2 u0 u1 u2) : B_X11_readAll_2 (fun T => Q T ∧ K9 b L S0 T) X2_2 v0 v1 S := by
  delta B_X11_readAll_2 at h ⊢
  refine ⟨?_, ?_⟩
  · intro c1
    have h := h.1 c1
    obtain ⟨c2, h⟩ := h
    refine ⟨c2, ?_⟩
    intro x4 e3
    have h := h x4 e3
    refine ⟨?_, ?_⟩
    · intro c5
      have h := h.1 c5
      exact ky_X11_readAll_33 hU hL hb h K
    · intro c6
      have h := h.2 c6
      refine cm_X11_flaw (ky_X11_flaw (b := b) hU (fun q hq => hL q ((by decide : ∀ q ∈ kyL_X11_flaw, q ∈ kyL_X11_readAll) q hq)) (fun z => z.elim) h) h (fun x7 p9 h g8 => ?_)
      have h := h g8
      have K := k9_tr K p9.2
      exact ky_X11_readAll_33 hU hL hb h K
  · intro c10
    have h := h.2 c10
    obtain ⟨c11, h⟩ := h
    refine ⟨c11, ?_⟩
    refine cm_X11_readLine (ky_X11_readLine (b := b) hU (fun q hq => hL q ((by decide : ∀ q ∈ kyL_X11_readLine, q ∈ kyL_X11_readAll) q hq)) (fun z => z.elim) h) h (fun x12 p14 h g13 => ?_)
    have h := h g13
    have K := k9_tr K p14.2
    refine cm_X11_eatsSign (ky_X11_eatsSign (b := b) hU (fun q hq => hL q ((by decide : ∀ q ∈ kyL_X11_eatsSign, q ∈ kyL_X11_readAll) q hq)) (fun z => z.elim) h) h (fun x15 x16 p19 h g17 g18 => ?_)
    have h := h g17 g18
    have K := k9_tr K p19.2
    exact hX2 _ _ _ h K
theorem ky_X11_readAll_2 {b : Bool} {L : List (Nat × Nat)} (hU : ∀ q ∈ L, q ∈ nyT) (hL : ∀ q ∈ kyL_X11_readAll, q ∈ L) (hb : False → b = false) {Q : HS → Prop} {v0 : Nat} {v1 : Int32} {S0 S : HS} (h : P_X11_readAll_2 Q v0 v1 S) (K : K9 b L S0 S) : P_X11_readAll_2 (fun T => Q T ∧ K9 b L S0 T) v0 v1 S := h (fun v0 v1 S => K9 b L S0 S → P_X11_readAll_2 (fun T => Q T ∧ K9 b L S0 T) v0 v1 S) (fun v0 v1 S hB K => fd_X11_readAll_2 (kyB_X11_readAll_2 hU hL hb hB K (fun _ _ _ hx K => hx K))) K
set_option maxRecDepth 20000 in
set_option maxHeartbeats 1000000 in
theorem ky_X11_readAll_0 {b : Bool} {L : List (Nat × Nat)} (hU : ∀ q ∈ L, q ∈ nyT) (hL : ∀ q ∈ kyL_X11_readAll, q ∈ L) (hb : False → b = false) {Q : HS → Prop} {v0 : Nat} {S0 S : HS} (h : P_X11_readAll_0 Q v0 S) (K : K9 b L S0 S) : P_X11_readAll_0 (fun T => Q T ∧ K9 b L S0 T) v0 S := by
  delta P_X11_readAll_0 at h ⊢
  exact ky_X11_readAll_2 hU hL hb h K
theorem ky_X11_readAll {b : Bool} {L : List (Nat × Nat)} (hU : ∀ q ∈ L, q ∈ nyT) (hL : ∀ q ∈ kyL_X11_readAll, q ∈ L) (hb : False → b = false) {Q : HS → Prop} {v0 : Nat} {S : HS} (h : P_X11_readAll v0 Q S) : P_X11_readAll v0 (fun T => Q T ∧ K9 b L S T) S := ky_X11_readAll_0 hU hL hb h (k9_rf b L S)
abbrev kyL_X11_road : List (Nat × Nat) := []
set_option maxRecDepth 20000 in
set_option maxHeartbeats 1000000 in
theorem ky_X11_road_22 {b : Bool} {L : List (Nat × Nat)} (hU : ∀ q ∈ L, q ∈ nyT) (hL : ∀ q ∈ kyL_X11_road, q ∈ L) (hb : False → b = false) {Q : Int32 → HS → Prop} {v0 : Nat} {S0 S : HS} (h : P_X11_road_22 Q v0 S) (K : K9 b L S0 S) : P_X11_road_22 (fun r T => Q r T ∧ K9 b L S0 T) v0 S := by
  delta P_X11_road_22 at h ⊢
  obtain ⟨c1, h⟩ := h
  refine ⟨c1, ?_⟩
  refine cm_X11_refused (ky_X11_refused (b := b) hU (fun q hq => hL q ((by decide : ∀ q ∈ kyL_X11_refused, q ∈ kyL_X11_road) q hq)) (fun z => z.elim) h) h (fun x2 x3 p5 h g4 => ?_)
  have h := h g4
  have K := k9_tr K p5.2
  exact ⟨h, K⟩
set_option maxRecDepth 20000 in
set_option maxHeartbeats 1000000 in
theorem ky_X11_road_0 {b : Bool} {L : List (Nat × Nat)} (hU : ∀ q ∈ L, q ∈ nyT) (hL : ∀ q ∈ kyL_X11_road, q ∈ L) (hb : False → b = false) {Q : Int32 → HS → Prop} {v0 : Nat} {v1 : Int32} {v2 : Int32} {S0 S : HS} (h : P_X11_road_0 Q v0 v1 v2 S) (K : K9 b L S0 S) : P_X11_road_0 (fun r T => Q r T ∧ K9 b L S0 T) v0 v1 v2 S := by
  delta P_X11_road_0 at h ⊢
  obtain ⟨c1, h⟩ := h
  refine ⟨c1, ?_⟩
  have o2 := c1
  intro x4 e3
  have h := h x4 e3
  have K := k9_I K e3
  have o2 := ob_wI o2 e3
  refine cm_X11_isRoad (ky_X11_isRoad (b := b) hU (fun q hq => hL q ((by decide : ∀ q ∈ kyL_X11_isRoad, q ∈ kyL_X11_road) q hq)) (fun z => z.elim) h) h (fun x5 x6 p9 h g7 g8 => ?_)
  have h := h g7 g8
  have K := k9_tr K p9.2
  have o2 := gr_ob p9.2.1 o2
  refine ⟨?_, ?_⟩
  · intro c10
    have h := h.1 c10
    exact ky_X11_road_22 hU hL hb h K
  · intro c11
    have h := h.2 c11
    refine cm_X11_in (ky_X11_in (b := b) hU (fun q hq => hL q ((by decide : ∀ q ∈ kyL_X11_in, q ∈ kyL_X11_road) q hq)) (fun z => z.elim) h) h (fun x12 x13 p16 h g14 g15 => ?_)
    have h := h g14 g15
    have K := k9_tr K p16.2
    have o2 := gr_ob p16.2.1 o2
    refine ⟨?_, ?_⟩
    · intro c17
      have h := h.1 c17
      refine ⟨?_, ?_, ?_, ?_, ?_⟩
      · intro c18
        have h := h.1 c18
        obtain ⟨b19, e20, h⟩ := h
        refine ⟨b19, e20, ?_⟩
        obtain ⟨c21, h⟩ := h
        refine ⟨c21, ?_⟩
        have o22 := c21
        obtain ⟨b23, e24, h⟩ := h
        refine ⟨b23, e24, ?_⟩
        obtain ⟨c25, h⟩ := h
        refine ⟨c25, ?_⟩
        obtain ⟨c26, h⟩ := h
        refine ⟨c26, ?_⟩
        intro x28 e27
        have h := h x28 e27
        refine cm_X11_good (ky_X11_good (b := b) hU (fun q hq => hL q ((by decide : ∀ q ∈ kyL_X11_good, q ∈ kyL_X11_road) q hq)) (fun z => z.elim) h) h (fun x29 x30 p32 h g31 => ?_)
        have h := h g31
        have K := k9_tr K p32.2
        have o2 := gr_ob p32.2.1 o2
        have o22 := gr_ob p32.2.1 o22
        exact ⟨h, K⟩
      · intro c33
        have h := h.2.1 c33
        obtain ⟨b34, e35, h⟩ := h
        refine ⟨b34, e35, ?_⟩
        obtain ⟨c36, h⟩ := h
        refine ⟨c36, ?_⟩
        have o37 := c36
        obtain ⟨b38, e39, h⟩ := h
        refine ⟨b38, e39, ?_⟩
        obtain ⟨c40, h⟩ := h
        refine ⟨c40, ?_⟩
        obtain ⟨c41, h⟩ := h
        refine ⟨c41, ?_⟩
        intro x43 e42
        have h := h x43 e42
        refine cm_X11_good (ky_X11_good (b := b) hU (fun q hq => hL q ((by decide : ∀ q ∈ kyL_X11_good, q ∈ kyL_X11_road) q hq)) (fun z => z.elim) h) h (fun x44 x45 p47 h g46 => ?_)
        have h := h g46
        have K := k9_tr K p47.2
        have o2 := gr_ob p47.2.1 o2
        have o37 := gr_ob p47.2.1 o37
        exact ⟨h, K⟩
      · intro c48
        have h := h.2.2.1 c48
        obtain ⟨b49, e50, h⟩ := h
        refine ⟨b49, e50, ?_⟩
        obtain ⟨c51, h⟩ := h
        refine ⟨c51, ?_⟩
        have o52 := c51
        obtain ⟨b53, e54, h⟩ := h
        refine ⟨b53, e54, ?_⟩
        obtain ⟨c55, h⟩ := h
        refine ⟨c55, ?_⟩
        obtain ⟨c56, h⟩ := h
        refine ⟨c56, ?_⟩
        intro x58 e57
        have h := h x58 e57
        refine cm_X11_good (ky_X11_good (b := b) hU (fun q hq => hL q ((by decide : ∀ q ∈ kyL_X11_good, q ∈ kyL_X11_road) q hq)) (fun z => z.elim) h) h (fun x59 x60 p62 h g61 => ?_)
        have h := h g61
        have K := k9_tr K p62.2
        have o2 := gr_ob p62.2.1 o2
        have o52 := gr_ob p62.2.1 o52
        exact ⟨h, K⟩
      · intro c63
        have h := h.2.2.2.1 c63
        obtain ⟨b64, e65, h⟩ := h
        refine ⟨b64, e65, ?_⟩
        obtain ⟨c66, h⟩ := h
        refine ⟨c66, ?_⟩
        have o67 := c66
        obtain ⟨b68, e69, h⟩ := h
        refine ⟨b68, e69, ?_⟩
        obtain ⟨c70, h⟩ := h
        refine ⟨c70, ?_⟩
        obtain ⟨c71, h⟩ := h
        refine ⟨c71, ?_⟩
        intro x73 e72
        have h := h x73 e72
        refine cm_X11_good (ky_X11_good (b := b) hU (fun q hq => hL q ((by decide : ∀ q ∈ kyL_X11_good, q ∈ kyL_X11_road) q hq)) (fun z => z.elim) h) h (fun x74 x75 p77 h g76 => ?_)
        have h := h g76
        have K := k9_tr K p77.2
        have o2 := gr_ob p77.2.1 o2
        have o67 := gr_ob p77.2.1 o67
        exact ⟨h, K⟩
      · intro c78
        have h := h.2.2.2.2 c78
        obtain ⟨b79, e80, h⟩ := h
        refine ⟨b79, e80, ?_⟩
        obtain ⟨c81, h⟩ := h
        refine ⟨c81, ?_⟩
        have o82 := c81
        obtain ⟨b83, e84, h⟩ := h
        refine ⟨b83, e84, ?_⟩
        obtain ⟨c85, h⟩ := h
        refine ⟨c85, ?_⟩
        obtain ⟨c86, h⟩ := h
        refine ⟨c86, ?_⟩
        intro x88 e87
        have h := h x88 e87
        refine cm_X11_good (ky_X11_good (b := b) hU (fun q hq => hL q ((by decide : ∀ q ∈ kyL_X11_good, q ∈ kyL_X11_road) q hq)) (fun z => z.elim) h) h (fun x89 x90 p92 h g91 => ?_)
        have h := h g91
        have K := k9_tr K p92.2
        have o2 := gr_ob p92.2.1 o2
        have o82 := gr_ob p92.2.1 o82
        exact ⟨h, K⟩
    · intro c93
      have h := h.2 c93
      exact ky_X11_road_22 hU hL hb h K
theorem ky_X11_road {b : Bool} {L : List (Nat × Nat)} (hU : ∀ q ∈ L, q ∈ nyT) (hL : ∀ q ∈ kyL_X11_road, q ∈ L) (hb : False → b = false) {Q : Int32 → HS → Prop} {v0 : Nat} {v1 : Int32} {v2 : Int32} {S : HS} (h : P_X11_road v0 v1 v2 Q S) : P_X11_road v0 v1 v2 (fun r T => Q r T ∧ K9 b L S T) S := ky_X11_road_0 hU hL hb h (k9_rf b L S)
abbrev kyL_X11_round : List (Nat × Nat) := []
set_option maxRecDepth 20000 in
set_option maxHeartbeats 1000000 in
theorem ky_X11_round_29 {b : Bool} {L : List (Nat × Nat)} (hU : ∀ q ∈ L, q ∈ nyT) (hL : ∀ q ∈ kyL_X11_round, q ∈ L) (hb : False → b = false) {Q : Int64 → HS → Prop} {v0 : Nat} {S0 S : HS} (h : P_X11_round_29 Q v0 S) (K : K9 b L S0 S) : P_X11_round_29 (fun r T => Q r T ∧ K9 b L S0 T) v0 S := by
  delta P_X11_round_29 at h ⊢
  obtain ⟨c1, h⟩ := h
  refine ⟨c1, ?_⟩
  refine cm_X11_refused (ky_X11_refused (b := b) hU (fun q hq => hL q ((by decide : ∀ q ∈ kyL_X11_refused, q ∈ kyL_X11_round) q hq)) (fun z => z.elim) h) h (fun x2 x3 p5 h g4 => ?_)
  have h := h g4
  have K := k9_tr K p5.2
  exact ⟨h, K⟩
set_option maxRecDepth 20000 in
set_option maxHeartbeats 1000000 in
theorem ky_X11_round_0 {b : Bool} {L : List (Nat × Nat)} (hU : ∀ q ∈ L, q ∈ nyT) (hL : ∀ q ∈ kyL_X11_round, q ∈ L) (hb : False → b = false) {Q : Int64 → HS → Prop} {v0 : Nat} {v1 : Int32} {v2 : Int32} {v3 : Int32} {v4 : Int32} {S0 S : HS} (h : P_X11_round_0 Q v0 v1 v2 v3 v4 S) (K : K9 b L S0 S) : P_X11_round_0 (fun r T => Q r T ∧ K9 b L S0 T) v0 v1 v2 v3 v4 S := by
  delta P_X11_round_0 at h ⊢
  obtain ⟨c1, h⟩ := h
  refine ⟨c1, ?_⟩
  intro x3 e2
  have h := h x3 e2
  have K := k9_I K e2
  refine cm_X11_isWalker (ky_X11_isWalker (b := b) hU (fun q hq => hL q ((by decide : ∀ q ∈ kyL_X11_isWalker, q ∈ kyL_X11_round) q hq)) (fun z => z.elim) h) h (fun x4 x5 p8 h g6 g7 => ?_)
  have h := h g6 g7
  have K := k9_tr K p8.2
  refine ⟨?_, ?_⟩
  · intro c9
    have h := h.1 c9
    exact ky_X11_round_29 hU hL hb h K
  · intro c10
    have h := h.2 c10
    refine cm_X11_isRoad (ky_X11_isRoad (b := b) hU (fun q hq => hL q ((by decide : ∀ q ∈ kyL_X11_isRoad, q ∈ kyL_X11_round) q hq)) (fun z => z.elim) h) h (fun x11 x12 p15 h g13 g14 => ?_)
    have h := h g13 g14
    have K := k9_tr K p15.2
    refine ⟨?_, ?_⟩
    · intro c16
      have h := h.1 c16
      exact ky_X11_round_29 hU hL hb h K
    · intro c17
      have h := h.2 c17
      refine cm_X11_isHour (ky_X11_isHour (b := b) hU (fun q hq => hL q ((by decide : ∀ q ∈ kyL_X11_isHour, q ∈ kyL_X11_round) q hq)) (fun z => z.elim) h) h (fun x18 x19 p22 h g20 g21 => ?_)
      have h := h g20 g21
      have K := k9_tr K p22.2
      refine ⟨?_, ?_⟩
      · intro c23
        have h := h.1 c23
        refine cm_X11_wetAtBest (ky_X11_wetAtBest (b := b) hU (fun q hq => hL q ((by decide : ∀ q ∈ kyL_X11_wetAtBest, q ∈ kyL_X11_round) q hq)) (fun z => z.elim) h) h (fun x24 x25 p27 h g26 => ?_)
        have h := h g26
        have K := k9_tr K p27.2
        refine cm_X11_wetAtBest (ky_X11_wetAtBest (b := b) hU (fun q hq => hL q ((by decide : ∀ q ∈ kyL_X11_wetAtBest, q ∈ kyL_X11_round) q hq)) (fun z => z.elim) h) h (fun x28 x29 p31 h g30 => ?_)
        have h := h g30
        have K := k9_tr K p31.2
        refine cm_X11_told (ky_X11_told (b := b) hU (fun q hq => hL q ((by decide : ∀ q ∈ kyL_X11_told, q ∈ kyL_X11_round) q hq)) (fun z => z.elim) h) h (fun x32 x33 p35 h g34 => ?_)
        have h := h g34
        have K := k9_tr K p35.2
        exact ⟨h, K⟩
      · intro c36
        have h := h.2 c36
        exact ky_X11_round_29 hU hL hb h K
theorem ky_X11_round {b : Bool} {L : List (Nat × Nat)} (hU : ∀ q ∈ L, q ∈ nyT) (hL : ∀ q ∈ kyL_X11_round, q ∈ L) (hb : False → b = false) {Q : Int64 → HS → Prop} {v0 : Nat} {v1 : Int32} {v2 : Int32} {v3 : Int32} {v4 : Int32} {S : HS} (h : P_X11_round v0 v1 v2 v3 v4 Q S) : P_X11_round v0 v1 v2 v3 v4 (fun r T => Q r T ∧ K9 b L S T) S := ky_X11_round_0 hU hL hb h (k9_rf b L S)
abbrev kyL_X11_saves : List (Nat × Nat) := []
set_option maxRecDepth 20000 in
set_option maxHeartbeats 1000000 in
theorem ky_X11_saves_39 {b : Bool} {L : List (Nat × Nat)} (hU : ∀ q ∈ L, q ∈ nyT) (hL : ∀ q ∈ kyL_X11_saves, q ∈ L) (hb : False → b = false) {Q : Int64 → HS → Prop} {v0 : Nat} {S0 S : HS} (h : P_X11_saves_39 Q v0 S) (K : K9 b L S0 S) : P_X11_saves_39 (fun r T => Q r T ∧ K9 b L S0 T) v0 S := by
  delta P_X11_saves_39 at h ⊢
  obtain ⟨c1, h⟩ := h
  refine ⟨c1, ?_⟩
  refine cm_X11_refused (ky_X11_refused (b := b) hU (fun q hq => hL q ((by decide : ∀ q ∈ kyL_X11_refused, q ∈ kyL_X11_saves) q hq)) (fun z => z.elim) h) h (fun x2 x3 p5 h g4 => ?_)
  have h := h g4
  have K := k9_tr K p5.2
  exact ⟨h, K⟩
set_option maxRecDepth 20000 in
set_option maxHeartbeats 1000000 in
theorem ky_X11_saves_0 {b : Bool} {L : List (Nat × Nat)} (hU : ∀ q ∈ L, q ∈ nyT) (hL : ∀ q ∈ kyL_X11_saves, q ∈ L) (hb : False → b = false) {Q : Int64 → HS → Prop} {v0 : Nat} {v1 : Int32} {v2 : Int32} {v3 : Int32} {v4 : Int32} {v5 : Int32} {S0 S : HS} (h : P_X11_saves_0 Q v0 v1 v2 v3 v4 v5 S) (K : K9 b L S0 S) : P_X11_saves_0 (fun r T => Q r T ∧ K9 b L S0 T) v0 v1 v2 v3 v4 v5 S := by
  delta P_X11_saves_0 at h ⊢
  obtain ⟨c1, h⟩ := h
  refine ⟨c1, ?_⟩
  have o2 := c1
  intro x4 e3
  have h := h x4 e3
  have K := k9_I K e3
  have o2 := ob_wI o2 e3
  refine cm_X11_isWalker (ky_X11_isWalker (b := b) hU (fun q hq => hL q ((by decide : ∀ q ∈ kyL_X11_isWalker, q ∈ kyL_X11_saves) q hq)) (fun z => z.elim) h) h (fun x5 x6 p9 h g7 g8 => ?_)
  have h := h g7 g8
  have K := k9_tr K p9.2
  have o2 := gr_ob p9.2.1 o2
  refine ⟨?_, ?_⟩
  · intro c10
    have h := h.1 c10
    exact ky_X11_saves_39 hU hL hb h K
  · intro c11
    have h := h.2 c11
    refine cm_X11_isRoad (ky_X11_isRoad (b := b) hU (fun q hq => hL q ((by decide : ∀ q ∈ kyL_X11_isRoad, q ∈ kyL_X11_saves) q hq)) (fun z => z.elim) h) h (fun x12 x13 p16 h g14 g15 => ?_)
    have h := h g14 g15
    have K := k9_tr K p16.2
    have o2 := gr_ob p16.2.1 o2
    refine ⟨?_, ?_⟩
    · intro c17
      have h := h.1 c17
      exact ky_X11_saves_39 hU hL hb h K
    · intro c18
      have h := h.2 c18
      refine cm_X11_in (ky_X11_in (b := b) hU (fun q hq => hL q ((by decide : ∀ q ∈ kyL_X11_in, q ∈ kyL_X11_saves) q hq)) (fun z => z.elim) h) h (fun x19 x20 p23 h g21 g22 => ?_)
      have h := h g21 g22
      have K := k9_tr K p23.2
      have o2 := gr_ob p23.2.1 o2
      refine ⟨?_, ?_⟩
      · intro c24
        have h := h.1 c24
        exact ky_X11_saves_39 hU hL hb h K
      · intro c25
        have h := h.2 c25
        refine cm_X11_isHour (ky_X11_isHour (b := b) hU (fun q hq => hL q ((by decide : ∀ q ∈ kyL_X11_isHour, q ∈ kyL_X11_saves) q hq)) (fun z => z.elim) h) h (fun x26 x27 p30 h g28 g29 => ?_)
        have h := h g28 g29
        have K := k9_tr K p30.2
        have o2 := gr_ob p30.2.1 o2
        refine ⟨?_, ?_⟩
        · intro c31
          have h := h.1 c31
          obtain ⟨b32, e33, h⟩ := h
          refine ⟨b32, e33, ?_⟩
          obtain ⟨c34, h⟩ := h
          refine ⟨c34, ?_⟩
          have o35 := c34
          obtain ⟨b36, e37, h⟩ := h
          refine ⟨b36, e37, ?_⟩
          obtain ⟨c38, h⟩ := h
          refine ⟨c38, ?_⟩
          obtain ⟨c39, h⟩ := h
          refine ⟨c39, ?_⟩
          intro x41 e40
          have h := h x41 e40
          refine cm_X11_wetOf (ky_X11_wetOf (b := b) hU (fun q hq => hL q ((by decide : ∀ q ∈ kyL_X11_wetOf, q ∈ kyL_X11_saves) q hq)) (fun z => z.elim) h) h (fun x42 x43 p45 h g44 => ?_)
          have h := h g44
          have K := k9_tr K p45.2
          have o2 := gr_ob p45.2.1 o2
          have o35 := gr_ob p45.2.1 o35
          refine cm_X11_bestOf (ky_X11_bestOf (b := b) hU (fun q hq => hL q ((by decide : ∀ q ∈ kyL_X11_bestOf, q ∈ kyL_X11_saves) q hq)) (fun z => z.elim) h) h (fun x46 x47 p49 h g48 => ?_)
          have h := h g48
          have K := k9_tr K p49.2
          have o2 := gr_ob p49.2.1 o2
          have o35 := gr_ob p49.2.1 o35
          refine cm_X11_wetOf (ky_X11_wetOf (b := b) hU (fun q hq => hL q ((by decide : ∀ q ∈ kyL_X11_wetOf, q ∈ kyL_X11_saves) q hq)) (fun z => z.elim) h) h (fun x50 x51 p53 h g52 => ?_)
          have h := h g52
          have K := k9_tr K p53.2
          have o2 := gr_ob p53.2.1 o2
          have o35 := gr_ob p53.2.1 o35
          refine cm_X11_told (ky_X11_told (b := b) hU (fun q hq => hL q ((by decide : ∀ q ∈ kyL_X11_told, q ∈ kyL_X11_saves) q hq)) (fun z => z.elim) h) h (fun x54 x55 p57 h g56 => ?_)
          have h := h g56
          have K := k9_tr K p57.2
          have o2 := gr_ob p57.2.1 o2
          have o35 := gr_ob p57.2.1 o35
          exact ⟨h, K⟩
        · intro c58
          have h := h.2 c58
          exact ky_X11_saves_39 hU hL hb h K
theorem ky_X11_saves {b : Bool} {L : List (Nat × Nat)} (hU : ∀ q ∈ L, q ∈ nyT) (hL : ∀ q ∈ kyL_X11_saves, q ∈ L) (hb : False → b = false) {Q : Int64 → HS → Prop} {v0 : Nat} {v1 : Int32} {v2 : Int32} {v3 : Int32} {v4 : Int32} {v5 : Int32} {S : HS} (h : P_X11_saves v0 v1 v2 v3 v4 v5 Q S) : P_X11_saves v0 v1 v2 v3 v4 v5 (fun r T => Q r T ∧ K9 b L S T) S := ky_X11_saves_0 hU hL hb h (k9_rf b L S)
abbrev kyL_X11_size : List (Nat × Nat) := []
set_option maxRecDepth 20000 in
set_option maxHeartbeats 1000000 in
theorem ky_X11_size_0 {b : Bool} {L : List (Nat × Nat)} (hU : ∀ q ∈ L, q ∈ nyT) (hL : ∀ q ∈ kyL_X11_size, q ∈ L) (hb : False → b = false) {Q : Int32 → HS → Prop} {v0 : Nat} {v1 : Int32} {S0 S : HS} (h : P_X11_size_0 Q v0 v1 S) (K : K9 b L S0 S) : P_X11_size_0 (fun r T => Q r T ∧ K9 b L S0 T) v0 v1 S := by
  delta P_X11_size_0 at h ⊢
  obtain ⟨c1, h⟩ := h
  refine ⟨c1, ?_⟩
  have o2 := c1
  intro x4 e3
  have h := h x4 e3
  have K := k9_I K e3
  have o2 := ob_wI o2 e3
  refine ⟨?_, ?_⟩
  · intro c5
    have h := h.1 c5
    refine cm_X11_in (ky_X11_in (b := b) hU (fun q hq => hL q ((by decide : ∀ q ∈ kyL_X11_in, q ∈ kyL_X11_size) q hq)) (fun z => z.elim) h) h (fun x6 x7 p10 h g8 g9 => ?_)
    have h := h g8 g9
    have K := k9_tr K p10.2
    have o2 := gr_ob p10.2.1 o2
    refine ⟨?_, ?_⟩
    · intro c11
      have h := h.1 c11
      refine ⟨?_, ?_⟩
      · intro c12
        have h := h.1 c12
        exact ⟨h, K⟩
      · intro x13 c14
        have h := h.2 x13 c14
        refine ⟨?_, ?_, ?_, ?_, ?_, ?_, ?_, ?_, ?_, ?_, ?_⟩
        · intro c15
          have h := h.1 c15
          intro x17 e16
          have h := h x17 e16
          exact ⟨h, K⟩
        · intro c18
          have h := h.2.1 c18
          obtain ⟨b19, e20, h⟩ := h
          refine ⟨b19, e20, ?_⟩
          obtain ⟨c21, h⟩ := h
          refine ⟨c21, ?_⟩
          intro x23 e22
          have h := h x23 e22
          exact ⟨h, K⟩
        · intro c24
          have h := h.2.2.1 c24
          obtain ⟨b25, e26, h⟩ := h
          refine ⟨b25, e26, ?_⟩
          obtain ⟨c27, h⟩ := h
          refine ⟨c27, ?_⟩
          intro x29 e28
          have h := h x29 e28
          exact ⟨h, K⟩
        · intro c30
          have h := h.2.2.2.1 c30
          obtain ⟨b31, e32, h⟩ := h
          refine ⟨b31, e32, ?_⟩
          obtain ⟨c33, h⟩ := h
          refine ⟨c33, ?_⟩
          intro x35 e34
          have h := h x35 e34
          exact ⟨h, K⟩
        · intro c36
          have h := h.2.2.2.2.1 c36
          obtain ⟨b37, e38, h⟩ := h
          refine ⟨b37, e38, ?_⟩
          obtain ⟨c39, h⟩ := h
          refine ⟨c39, ?_⟩
          intro x41 e40
          have h := h x41 e40
          exact ⟨h, K⟩
        · intro c42
          have h := h.2.2.2.2.2.1 c42
          obtain ⟨b43, e44, h⟩ := h
          refine ⟨b43, e44, ?_⟩
          obtain ⟨c45, h⟩ := h
          refine ⟨c45, ?_⟩
          intro x47 e46
          have h := h x47 e46
          exact ⟨h, K⟩
        · intro c48
          have h := h.2.2.2.2.2.2.1 c48
          obtain ⟨b49, e50, h⟩ := h
          refine ⟨b49, e50, ?_⟩
          obtain ⟨c51, h⟩ := h
          refine ⟨c51, ?_⟩
          intro x53 e52
          have h := h x53 e52
          exact ⟨h, K⟩
        · intro c54
          have h := h.2.2.2.2.2.2.2.1 c54
          intro x56 e55
          have h := h x56 e55
          exact ⟨h, K⟩
        · intro c57
          have h := h.2.2.2.2.2.2.2.2.1 c57
          refine cm_X11_isDay (ky_X11_isDay (b := b) hU (fun q hq => hL q ((by decide : ∀ q ∈ kyL_X11_isDay, q ∈ kyL_X11_size) q hq)) (fun z => z.elim) h) h (fun x58 x59 p62 h g60 g61 => ?_)
          have h := h g60 g61
          have K := k9_tr K p62.2
          have o2 := gr_ob p62.2.1 o2
          refine ⟨?_, ?_⟩
          · intro c63
            have h := h.1 c63
            exact ⟨h, K⟩
          · intro c64
            have h := h.2 c64
            obtain ⟨b65, e66, h⟩ := h
            refine ⟨b65, e66, ?_⟩
            obtain ⟨c67, h⟩ := h
            refine ⟨c67, ?_⟩
            obtain ⟨c68, h⟩ := h
            refine ⟨c68, ?_⟩
            intro x70 e69
            have h := h x70 e69
            exact ⟨h, K⟩
        · intro c71
          have h := h.2.2.2.2.2.2.2.2.2.1 c71
          refine cm_X11_isDay (ky_X11_isDay (b := b) hU (fun q hq => hL q ((by decide : ∀ q ∈ kyL_X11_isDay, q ∈ kyL_X11_size) q hq)) (fun z => z.elim) h) h (fun x72 x73 p76 h g74 g75 => ?_)
          have h := h g74 g75
          have K := k9_tr K p76.2
          have o2 := gr_ob p76.2.1 o2
          refine ⟨?_, ?_⟩
          · intro c77
            have h := h.1 c77
            exact ⟨h, K⟩
          · intro c78
            have h := h.2 c78
            obtain ⟨b79, e80, h⟩ := h
            refine ⟨b79, e80, ?_⟩
            obtain ⟨c81, h⟩ := h
            refine ⟨c81, ?_⟩
            obtain ⟨c82, h⟩ := h
            refine ⟨c82, ?_⟩
            intro x84 e83
            have h := h x84 e83
            exact ⟨h, K⟩
        · intro c85
          have h := h.2.2.2.2.2.2.2.2.2.2 c85
          intro x87 e86
          have h := h x87 e86
          exact ⟨h, K⟩
    · intro c88
      have h := h.2 c88
      exact ⟨h, K⟩
  · intro c89
    have h := h.2 c89
    intro x91 e90
    have h := h x91 e90
    exact ⟨h, K⟩
theorem ky_X11_size {b : Bool} {L : List (Nat × Nat)} (hU : ∀ q ∈ L, q ∈ nyT) (hL : ∀ q ∈ kyL_X11_size, q ∈ L) (hb : False → b = false) {Q : Int32 → HS → Prop} {v0 : Nat} {v1 : Int32} {S : HS} (h : P_X11_size v0 v1 Q S) : P_X11_size v0 v1 (fun r T => Q r T ∧ K9 b L S T) S := ky_X11_size_0 hU hL hb h (k9_rf b L S)
abbrev kyL_X11_soaked : List (Nat × Nat) := []
set_option maxRecDepth 20000 in
set_option maxHeartbeats 1000000 in
theorem ky_X11_soaked_57 {b : Bool} {L : List (Nat × Nat)} (hU : ∀ q ∈ L, q ∈ nyT) (hL : ∀ q ∈ kyL_X11_soaked, q ∈ L) (hb : False → b = false) {Q : Int32 → HS → Prop} {s0 : Nat} {s1 : Int32} {S0 S : HS} (h : P_X11_soaked_57 Q s0 s1 S) (K : K9 b L S0 S) : P_X11_soaked_57 (fun r T => Q r T ∧ K9 b L S0 T) s0 s1 S := by
  delta P_X11_soaked_57 at h ⊢
  obtain ⟨c1, h⟩ := h
  refine ⟨c1, ?_⟩
  refine cm_X11_good (ky_X11_good (b := b) hU (fun q hq => hL q ((by decide : ∀ q ∈ kyL_X11_good, q ∈ kyL_X11_soaked) q hq)) (fun z => z.elim) h) h (fun x2 x3 p5 h g4 => ?_)
  have h := h g4
  have K := k9_tr K p5.2
  exact ⟨h, K⟩
set_option maxRecDepth 20000 in
set_option maxHeartbeats 1000000 in
theorem ky_X11_soaked_0 {b : Bool} {L : List (Nat × Nat)} (hU : ∀ q ∈ L, q ∈ nyT) (hL : ∀ q ∈ kyL_X11_soaked, q ∈ L) (hb : False → b = false) {Q : Int32 → HS → Prop} {v0 : Nat} {S0 S : HS} (h : P_X11_soaked_0 Q v0 S) (K : K9 b L S0 S) : P_X11_soaked_0 (fun r T => Q r T ∧ K9 b L S0 T) v0 S := by
  delta P_X11_soaked_0 at h ⊢
  obtain ⟨c1, h⟩ := h
  refine ⟨c1, ?_⟩
  have o2 := c1
  intro x4 e3
  have h := h x4 e3
  have K := k9_I K e3
  have o2 := ob_wI o2 e3
  refine cm_X11_isDay (ky_X11_isDay (b := b) hU (fun q hq => hL q ((by decide : ∀ q ∈ kyL_X11_isDay, q ∈ kyL_X11_soaked) q hq)) (fun z => z.elim) h) h (fun x5 x6 p9 h g7 g8 => ?_)
  have h := h g7 g8
  have K := k9_tr K p9.2
  have o2 := gr_ob p9.2.1 o2
  refine ⟨?_, ?_⟩
  · intro c10
    have h := h.1 c10
    obtain ⟨b11, e12, h⟩ := h
    refine ⟨b11, e12, ?_⟩
    obtain ⟨c13, h⟩ := h
    refine ⟨c13, ?_⟩
    have o14 := c13
    obtain ⟨b15, e16, h⟩ := h
    refine ⟨b15, e16, ?_⟩
    intro x18 e17
    have h := h x18 e17
    obtain ⟨c19, h⟩ := h
    refine ⟨c19, ?_⟩
    obtain ⟨c20, h⟩ := h
    refine ⟨c20, ?_⟩
    intro x22 e21
    have h := h x22 e21
    refine ⟨?_, ?_⟩
    · intro c23
      have h := h.1 c23
      refine cm_X11_gotInAll (ky_X11_gotInAll (b := b) hU (fun q hq => hL q ((by decide : ∀ q ∈ kyL_X11_gotInAll, q ∈ kyL_X11_soaked) q hq)) (fun z => z.elim) h) h (fun x24 x25 p27 h g26 => ?_)
      have h := h g26
      have K := k9_tr K p27.2
      have o2 := gr_ob p27.2.1 o2
      have o14 := gr_ob p27.2.1 o14
      refine cm_X11_holds (ky_X11_holds (b := b) hU (fun q hq => hL q ((by decide : ∀ q ∈ kyL_X11_holds, q ∈ kyL_X11_soaked) q hq)) (fun z => z.elim) h) h (fun x28 x29 p31 h g30 => ?_)
      have h := h g30
      have K := k9_tr K p31.2
      have o2 := gr_ob p31.2.1 o2
      have o14 := gr_ob p31.2.1 o14
      refine ⟨?_, ?_⟩
      · intro c32
        have h := h.1 c32
        exact ky_X11_soaked_57 hU hL hb h K
      · intro c33
        have h := h.2 c33
        exact ky_X11_soaked_57 hU hL hb h K
    · intro c34
      have h := h.2 c34
      exact ky_X11_soaked_57 hU hL hb h K
  · intro c35
    have h := h.2 c35
    refine cm_X11_refused (ky_X11_refused (b := b) hU (fun q hq => hL q ((by decide : ∀ q ∈ kyL_X11_refused, q ∈ kyL_X11_soaked) q hq)) (fun z => z.elim) h) h (fun x36 x37 p39 h g38 => ?_)
    have h := h g38
    have K := k9_tr K p39.2
    have o2 := gr_ob p39.2.1 o2
    exact ⟨h, K⟩
theorem ky_X11_soaked {b : Bool} {L : List (Nat × Nat)} (hU : ∀ q ∈ L, q ∈ nyT) (hL : ∀ q ∈ kyL_X11_soaked, q ∈ L) (hb : False → b = false) {Q : Int32 → HS → Prop} {v0 : Nat} {S : HS} (h : P_X11_soaked v0 Q S) : P_X11_soaked v0 (fun r T => Q r T ∧ K9 b L S T) S := ky_X11_soaked_0 hU hL hb h (k9_rf b L S)
abbrev kyL_X11_stay : List (Nat × Nat) := [(11, 21), (11, 22)]
set_option maxRecDepth 20000 in
set_option maxHeartbeats 1000000 in
theorem ky_X11_stay_133 {b : Bool} {L : List (Nat × Nat)} (hU : ∀ q ∈ L, q ∈ nyT) (hL : ∀ q ∈ kyL_X11_stay, q ∈ L) (hb : False → b = false) {Q : Int32 → HS → Prop} {X84 X84_2 : Nat → Int32 → Int32 → Int32 → HS → Prop} {v0 : Nat} {v1 : Int32} {v2 : Int32} {v3 : Int32} {S0 S : HS} (h : P_X11_stay_133 Q X84 v0 v1 v2 v3 S) (K : K9 b L S0 S) (hX84 : ∀ (u0 : Nat) (u1 : Int32) (u2 : Int32) (u3 : Int32) (u4 : HS), X84 u0 u1 u2 u3 u4 → K9 b L S0 u4 → X84_2 u0 u1 u2 u3 u4) : P_X11_stay_133 (fun r T => Q r T ∧ K9 b L S0 T) X84_2 v0 v1 v2 v3 S := by
  delta P_X11_stay_133 at h ⊢
  obtain ⟨c1, h⟩ := h
  refine ⟨c1, ?_⟩
  have o2 := c1
  obtain ⟨b3, e4, h⟩ := h
  refine ⟨b3, e4, ?_⟩
  have n5 := k9_nr K e4 o2 (hL _ (by decide))
  obtain ⟨c6, h⟩ := h
  refine ⟨c6, ?_⟩
  obtain ⟨c7, h⟩ := h
  refine ⟨c7, ?_⟩
  intro x9 e8
  have h := h x9 e8
  intro x11 e10
  have h := h x11 e10
  obtain ⟨c12, h⟩ := h
  refine ⟨c12, ?_⟩
  intro x14 e13
  have h := h x14 e13
  have K := k9_J K e13 n5
  have o2 := ob_wJ o2 e13
  intro x16 e15
  have h := h x16 e15
  exact hX84 _ _ _ _ _ h K
set_option maxRecDepth 20000 in
set_option maxHeartbeats 1000000 in
theorem kyB_X11_stay_84 {b : Bool} {L : List (Nat × Nat)} (hU : ∀ q ∈ L, q ∈ nyT) (hL : ∀ q ∈ kyL_X11_stay, q ∈ L) (hb : False → b = false) {Q : Int32 → HS → Prop} {X84 X84_2 : Nat → Int32 → Int32 → Int32 → HS → Prop} {v0 : Nat} {v1 : Int32} {v2 : Int32} {v3 : Int32} {S0 S : HS} (h : B_X11_stay_84 Q X84 v0 v1 v2 v3 S) (K : K9 b L S0 S) (hX84 : ∀ (u0 : Nat) (u1 : Int32) (u2 : Int32) (u3 : Int32) (u4 : HS), X84 u0 u1 u2 u3 u4 → K9 b L S0 u4 → X84_2 u0 u1 u2 u3 u4) : B_X11_stay_84 (fun r T => Q r T ∧ K9 b L S0 T) X84_2 v0 v1 v2 v3 S := by
  delta B_X11_stay_84 at h ⊢
  refine ⟨?_, ?_⟩
  · intro c1
    have h := h.1 c1
    obtain ⟨c2, h⟩ := h
    refine ⟨c2, ?_⟩
    have o3 := c2
    refine cm_X11_granted (ky_X11_granted (b := b) hU (fun q hq => hL q ((by decide : ∀ q ∈ kyL_X11_granted, q ∈ kyL_X11_stay) q hq)) (fun z => z.elim) h) h (fun x4 x5 p8 h g6 g7 => ?_)
    have h := h g6 g7
    have K := k9_tr K p8.2
    have o3 := gr_ob p8.2.1 o3
    obtain ⟨c9, h⟩ := h
    refine ⟨c9, ?_⟩
    exact ⟨h, K⟩
  · intro c10
    have h := h.2 c10
    obtain ⟨c11, h⟩ := h
    refine ⟨c11, ?_⟩
    have o12 := c11
    obtain ⟨b13, e14, h⟩ := h
    refine ⟨b13, e14, ?_⟩
    obtain ⟨c15, h⟩ := h
    refine ⟨c15, ?_⟩
    have o16 := c15
    obtain ⟨b17, e18, h⟩ := h
    refine ⟨b17, e18, ?_⟩
    obtain ⟨c19, h⟩ := h
    refine ⟨c19, ?_⟩
    obtain ⟨c20, h⟩ := h
    refine ⟨c20, ?_⟩
    intro x22 e21
    have h := h x22 e21
    refine ⟨?_, ?_⟩
    · intro c23
      have h := h.1 c23
      exact ky_X11_stay_133 hU hL hb h K hX84
    · intro c24
      have h := h.2 c24
      obtain ⟨b25, e26, h⟩ := h
      refine ⟨b25, e26, ?_⟩
      obtain ⟨c27, h⟩ := h
      refine ⟨c27, ?_⟩
      obtain ⟨c28, h⟩ := h
      refine ⟨c28, ?_⟩
      intro x30 e29
      have h := h x30 e29
      refine cm_X11_rainsIn (ky_X11_rainsIn (b := b) hU (fun q hq => hL q ((by decide : ∀ q ∈ kyL_X11_rainsIn, q ∈ kyL_X11_stay) q hq)) (fun z => z.elim) h) h (fun x31 x32 p35 h g33 g34 => ?_)
      have h := h g33 g34
      have K := k9_tr K p35.2
      have o12 := gr_ob p35.2.1 o12
      have o16 := gr_ob p35.2.1 o16
      refine ⟨?_, ?_⟩
      · intro c36
        have h := h.1 c36
        exact ky_X11_stay_133 hU hL hb h K hX84
      · intro c37
        have h := h.2 c37
        obtain ⟨b38, e39, h⟩ := h
        refine ⟨b38, e39, ?_⟩
        have n40 := k9_nr K e39 o12 (hL _ (by decide))
        obtain ⟨c41, h⟩ := h
        refine ⟨c41, ?_⟩
        obtain ⟨c42, h⟩ := h
        refine ⟨c42, ?_⟩
        intro x44 e43
        have h := h x44 e43
        intro x46 e45
        have h := h x46 e45
        refine cm_X11_drips (ky_X11_drips (b := b) hU (fun q hq => hL q ((by decide : ∀ q ∈ kyL_X11_drips, q ∈ kyL_X11_stay) q hq)) (fun z => z.elim) h) h (fun x47 x48 p50 h g49 => ?_)
        have h := h g49
        have K := k9_tr K p50.2
        have o12 := gr_ob p50.2.1 o12
        have o16 := gr_ob p50.2.1 o16
        intro x52 e51
        have h := h x52 e51
        obtain ⟨c53, h⟩ := h
        refine ⟨c53, ?_⟩
        intro x55 e54
        have h := h x55 e54
        have K := k9_J K e54 n40
        have o12 := ob_wJ o12 e54
        have o16 := ob_wJ o16 e54
        exact ky_X11_stay_133 hU hL hb h K hX84
theorem ky_X11_stay_84 {b : Bool} {L : List (Nat × Nat)} (hU : ∀ q ∈ L, q ∈ nyT) (hL : ∀ q ∈ kyL_X11_stay, q ∈ L) (hb : False → b = false) {Q : Int32 → HS → Prop} {v0 : Nat} {v1 : Int32} {v2 : Int32} {v3 : Int32} {S0 S : HS} (h : P_X11_stay_84 Q v0 v1 v2 v3 S) (K : K9 b L S0 S) : P_X11_stay_84 (fun r T => Q r T ∧ K9 b L S0 T) v0 v1 v2 v3 S := h (fun v0 v1 v2 v3 S => K9 b L S0 S → P_X11_stay_84 (fun r T => Q r T ∧ K9 b L S0 T) v0 v1 v2 v3 S) (fun v0 v1 v2 v3 S hB K => fd_X11_stay_84 (kyB_X11_stay_84 hU hL hb hB K (fun _ _ _ _ _ hx K => hx K))) K
set_option maxRecDepth 20000 in
set_option maxHeartbeats 1000000 in
theorem ky_X11_stay_0 {b : Bool} {L : List (Nat × Nat)} (hU : ∀ q ∈ L, q ∈ nyT) (hL : ∀ q ∈ kyL_X11_stay, q ∈ L) (hb : False → b = false) {Q : Int32 → HS → Prop} {v0 : Nat} {v1 : Int32} {S0 S : HS} (h : P_X11_stay_0 Q v0 v1 S) (K : K9 b L S0 S) : P_X11_stay_0 (fun r T => Q r T ∧ K9 b L S0 T) v0 v1 S := by
  delta P_X11_stay_0 at h ⊢
  obtain ⟨c1, h⟩ := h
  refine ⟨c1, ?_⟩
  have o2 := c1
  intro x4 e3
  have h := h x4 e3
  have K := k9_I K e3
  have o2 := ob_wI o2 e3
  refine cm_X11_isDay (ky_X11_isDay (b := b) hU (fun q hq => hL q ((by decide : ∀ q ∈ kyL_X11_isDay, q ∈ kyL_X11_stay) q hq)) (fun z => z.elim) h) h (fun x5 x6 p9 h g7 g8 => ?_)
  have h := h g7 g8
  have K := k9_tr K p9.2
  have o2 := gr_ob p9.2.1 o2
  refine ⟨?_, ?_⟩
  · intro c10
    have h := h.1 c10
    refine cm_X11_in (ky_X11_in (b := b) hU (fun q hq => hL q ((by decide : ∀ q ∈ kyL_X11_in, q ∈ kyL_X11_stay) q hq)) (fun z => z.elim) h) h (fun x11 x12 p15 h g13 g14 => ?_)
    have h := h g13 g14
    have K := k9_tr K p15.2
    have o2 := gr_ob p15.2.1 o2
    refine ⟨?_, ?_⟩
    · intro c16
      have h := h.1 c16
      obtain ⟨b17, e18, h⟩ := h
      refine ⟨b17, e18, ?_⟩
      obtain ⟨c19, h⟩ := h
      refine ⟨c19, ?_⟩
      obtain ⟨c20, h⟩ := h
      refine ⟨c20, ?_⟩
      intro x22 e21
      have h := h x22 e21
      intro x24 e23
      have h := h x24 e23
      refine cm_X11_canWait (ky_X11_canWait (b := b) hU (fun q hq => hL q ((by decide : ∀ q ∈ kyL_X11_canWait, q ∈ kyL_X11_stay) q hq)) (fun z => z.elim) h) h (fun x25 x26 p29 h g27 g28 => ?_)
      have h := h g27 g28
      have K := k9_tr K p29.2
      have o2 := gr_ob p29.2.1 o2
      refine ⟨?_, ?_⟩
      · intro c30
        have h := h.1 c30
        obtain ⟨b31, e32, h⟩ := h
        refine ⟨b31, e32, ?_⟩
        obtain ⟨c33, h⟩ := h
        refine ⟨c33, ?_⟩
        obtain ⟨c34, h⟩ := h
        refine ⟨c34, ?_⟩
        intro x36 e35
        have h := h x36 e35
        refine ⟨?_, ?_⟩
        · intro c37
          have h := h.1 c37
          refine cm_X11_keeps (ky_X11_keeps (b := b) hU (fun q hq => hL q ((by decide : ∀ q ∈ kyL_X11_keeps, q ∈ kyL_X11_stay) q hq)) (fun z => z.elim) h) h (fun x38 p40 h g39 => ?_)
          have h := h g39
          have K := k9_tr K p40.2
          have o2 := gr_ob p40.2.1 o2
          exact ky_X11_stay_84 hU hL hb h K
        · intro c41
          have h := h.2 c41
          refine cm_X11_denied (ky_X11_denied (b := b) hU (fun q hq => hL q ((by decide : ∀ q ∈ kyL_X11_denied, q ∈ kyL_X11_stay) q hq)) (fun z => z.elim) h) h (fun x42 x43 p46 h g44 g45 => ?_)
          have h := h g44 g45
          have K := k9_tr K p46.2
          have o2 := gr_ob p46.2.1 o2
          obtain ⟨c47, h⟩ := h
          refine ⟨c47, ?_⟩
          exact ⟨h, K⟩
      · intro c48
        have h := h.2 c48
        refine cm_X11_denied (ky_X11_denied (b := b) hU (fun q hq => hL q ((by decide : ∀ q ∈ kyL_X11_denied, q ∈ kyL_X11_stay) q hq)) (fun z => z.elim) h) h (fun x49 x50 p53 h g51 g52 => ?_)
        have h := h g51 g52
        have K := k9_tr K p53.2
        have o2 := gr_ob p53.2.1 o2
        obtain ⟨c54, h⟩ := h
        refine ⟨c54, ?_⟩
        exact ⟨h, K⟩
    · intro c55
      have h := h.2 c55
      refine cm_X11_denied (ky_X11_denied (b := b) hU (fun q hq => hL q ((by decide : ∀ q ∈ kyL_X11_denied, q ∈ kyL_X11_stay) q hq)) (fun z => z.elim) h) h (fun x56 x57 p60 h g58 g59 => ?_)
      have h := h g58 g59
      have K := k9_tr K p60.2
      have o2 := gr_ob p60.2.1 o2
      obtain ⟨c61, h⟩ := h
      refine ⟨c61, ?_⟩
      exact ⟨h, K⟩
  · intro c62
    have h := h.2 c62
    refine cm_X11_denied (ky_X11_denied (b := b) hU (fun q hq => hL q ((by decide : ∀ q ∈ kyL_X11_denied, q ∈ kyL_X11_stay) q hq)) (fun z => z.elim) h) h (fun x63 x64 p67 h g65 g66 => ?_)
    have h := h g65 g66
    have K := k9_tr K p67.2
    have o2 := gr_ob p67.2.1 o2
    obtain ⟨c68, h⟩ := h
    refine ⟨c68, ?_⟩
    exact ⟨h, K⟩
theorem ky_X11_stay {b : Bool} {L : List (Nat × Nat)} (hU : ∀ q ∈ L, q ∈ nyT) (hL : ∀ q ∈ kyL_X11_stay, q ∈ L) (hb : False → b = false) {Q : Int32 → HS → Prop} {v0 : Nat} {v1 : Int32} {S : HS} (h : P_X11_stay v0 v1 Q S) : P_X11_stay v0 v1 (fun r T => Q r T ∧ K9 b L S T) S := ky_X11_stay_0 hU hL hb h (k9_rf b L S)
abbrev kyL_X11_stepOf : List (Nat × Nat) := []
set_option maxRecDepth 20000 in
set_option maxHeartbeats 1000000 in
theorem ky_X11_stepOf_117 {b : Bool} {L : List (Nat × Nat)} (hU : ∀ q ∈ L, q ∈ nyT) (hL : ∀ q ∈ kyL_X11_stepOf, q ∈ L) (hb : False → b = false) {Q : Int32 → HS → Prop} {X9 X9_2 : Nat → Int32 → Int32 → Int32 → Int32 → HS → Prop} {v0 : Nat} {v4 : Int32} {v6 : Int32} {v7 : Int32} {s0 : Int32} {S0 S : HS} (h : P_X11_stepOf_117 Q X9 v0 v4 v6 v7 s0 S) (K : K9 b L S0 S) (hX9 : ∀ (u0 : Nat) (u1 : Int32) (u2 : Int32) (u3 : Int32) (u4 : Int32) (u5 : HS), X9 u0 u1 u2 u3 u4 u5 → K9 b L S0 u5 → X9_2 u0 u1 u2 u3 u4 u5) : P_X11_stepOf_117 (fun r T => Q r T ∧ K9 b L S0 T) X9_2 v0 v4 v6 v7 s0 S := by
  delta P_X11_stepOf_117 at h ⊢
  exact hX9 _ _ _ _ _ _ h K
set_option maxRecDepth 20000 in
set_option maxHeartbeats 1000000 in
theorem ky_X11_stepOf_82 {b : Bool} {L : List (Nat × Nat)} (hU : ∀ q ∈ L, q ∈ nyT) (hL : ∀ q ∈ kyL_X11_stepOf, q ∈ L) (hb : False → b = false) {Q : Int32 → HS → Prop} {X9 X9_2 : Nat → Int32 → Int32 → Int32 → Int32 → HS → Prop} {v0 : Nat} {v4 : Int32} {v5 : Int32} {v7 : Int32} {v8 : Int32} {s0 : Int32} {s1 : Int32} {S0 S : HS} (h : P_X11_stepOf_82 Q X9 v0 v4 v5 v7 v8 s0 s1 S) (K : K9 b L S0 S) (hX9 : ∀ (u0 : Nat) (u1 : Int32) (u2 : Int32) (u3 : Int32) (u4 : Int32) (u5 : HS), X9 u0 u1 u2 u3 u4 u5 → K9 b L S0 u5 → X9_2 u0 u1 u2 u3 u4 u5) : P_X11_stepOf_82 (fun r T => Q r T ∧ K9 b L S0 T) X9_2 v0 v4 v5 v7 v8 s0 s1 S := by
  delta P_X11_stepOf_82 at h ⊢
  intro x2 e1
  have h := h x2 e1
  refine ⟨?_, ?_⟩
  · intro c3
    have h := h.1 c3
    obtain ⟨c4, h⟩ := h
    refine ⟨c4, ?_⟩
    have o5 := c4
    obtain ⟨b6, e7, h⟩ := h
    refine ⟨b6, e7, ?_⟩
    intro x9 e8
    have h := h x9 e8
    intro x11 e10
    have h := h x11 e10
    intro x13 e12
    have h := h x13 e12
    obtain ⟨c14, h⟩ := h
    refine ⟨c14, ?_⟩
    refine cm_X10_ends (ky_X10_ends (b := b) hU (fun q hq => hL q ((by decide : ∀ q ∈ kyL_X10_ends, q ∈ kyL_X11_stepOf) q hq)) (fun z => z.elim) h) h (fun x15 x16 p18 h g17 => ?_)
    have h := h g17
    have K := k9_tr K p18.2
    have o5 := gr_ob p18.2.1 o5
    exact ky_X11_stepOf_117 hU hL hb h K hX9
  · intro c19
    have h := h.2 c19
    exact ky_X11_stepOf_117 hU hL hb h K hX9
set_option maxRecDepth 20000 in
set_option maxHeartbeats 1000000 in
theorem kyB_X11_stepOf_9 {b : Bool} {L : List (Nat × Nat)} (hU : ∀ q ∈ L, q ∈ nyT) (hL : ∀ q ∈ kyL_X11_stepOf, q ∈ L) (hb : False → b = false) {Q : Int32 → HS → Prop} {X9 X9_2 : Nat → Int32 → Int32 → Int32 → Int32 → HS → Prop} {v0 : Nat} {v4 : Int32} {v5 : Int32} {v6 : Int32} {v7 : Int32} {S0 S : HS} (h : B_X11_stepOf_9 Q X9 v0 v4 v5 v6 v7 S) (K : K9 b L S0 S) (hX9 : ∀ (u0 : Nat) (u1 : Int32) (u2 : Int32) (u3 : Int32) (u4 : Int32) (u5 : HS), X9 u0 u1 u2 u3 u4 u5 → K9 b L S0 u5 → X9_2 u0 u1 u2 u3 u4 u5) : B_X11_stepOf_9 (fun r T => Q r T ∧ K9 b L S0 T) X9_2 v0 v4 v5 v6 v7 S := by
  delta B_X11_stepOf_9 at h ⊢
  obtain ⟨c1, h⟩ := h
  refine ⟨c1, ?_⟩
  have o2 := c1
  obtain ⟨b3, e4, h⟩ := h
  refine ⟨b3, e4, ?_⟩
  refine cm_X11_spotOf (ky_X11_spotOf (b := b) hU (fun q hq => hL q ((by decide : ∀ q ∈ kyL_X11_spotOf, q ∈ kyL_X11_stepOf) q hq)) (fun z => z.elim) h) h (fun x5 x6 p8 h g7 => ?_)
  have h := h g7
  have K := k9_tr K p8.2
  have o2 := gr_ob p8.2.1 o2
  obtain ⟨c9, h⟩ := h
  refine ⟨c9, ?_⟩
  obtain ⟨c10, h⟩ := h
  refine ⟨c10, ?_⟩
  intro x12 e11
  have h := h x12 e11
  refine ⟨?_, ?_⟩
  · intro c13
    have h := h.1 c13
    refine ⟨?_, ?_⟩
    · intro c14
      have h := h.1 c14
      exact ⟨h, K⟩
    · intro c15
      have h := h.2 c15
      exact ⟨h, K⟩
  · intro c16
    have h := h.2 c16
    obtain ⟨b17, e18, h⟩ := h
    refine ⟨b17, e18, ?_⟩
    refine cm_X11_spotOf (ky_X11_spotOf (b := b) hU (fun q hq => hL q ((by decide : ∀ q ∈ kyL_X11_spotOf, q ∈ kyL_X11_stepOf) q hq)) (fun z => z.elim) h) h (fun x19 x20 p22 h g21 => ?_)
    have h := h g21
    have K := k9_tr K p22.2
    have o2 := gr_ob p22.2.1 o2
    obtain ⟨c23, h⟩ := h
    refine ⟨c23, ?_⟩
    obtain ⟨c24, h⟩ := h
    refine ⟨c24, ?_⟩
    intro x26 e25
    have h := h x26 e25
    refine ⟨?_, ?_⟩
    · intro c27
      have h := h.1 c27
      intro x29 e28
      have h := h x29 e28
      refine ⟨?_, ?_⟩
      · intro c30
        have h := h.1 c30
        obtain ⟨b31, e32, h⟩ := h
        refine ⟨b31, e32, ?_⟩
        intro x34 e33
        have h := h x34 e33
        intro x36 e35
        have h := h x36 e35
        obtain ⟨c37, h⟩ := h
        refine ⟨c37, ?_⟩
        refine cm_X10_minutes (ky_X10_minutes (b := b) hU (fun q hq => hL q ((by decide : ∀ q ∈ kyL_X10_minutes, q ∈ kyL_X11_stepOf) q hq)) (fun z => z.elim) h) h (fun x38 x39 p41 h g40 => ?_)
        have h := h g40
        have K := k9_tr K p41.2
        have o2 := gr_ob p41.2.1 o2
        exact ky_X11_stepOf_82 hU hL hb h K hX9
      · intro c42
        have h := h.2 c42
        exact ky_X11_stepOf_82 hU hL hb h K hX9
    · intro c43
      have h := h.2 c43
      exact ⟨h, K⟩
theorem ky_X11_stepOf_9 {b : Bool} {L : List (Nat × Nat)} (hU : ∀ q ∈ L, q ∈ nyT) (hL : ∀ q ∈ kyL_X11_stepOf, q ∈ L) (hb : False → b = false) {Q : Int32 → HS → Prop} {v0 : Nat} {v4 : Int32} {v5 : Int32} {v6 : Int32} {v7 : Int32} {S0 S : HS} (h : P_X11_stepOf_9 Q v0 v4 v5 v6 v7 S) (K : K9 b L S0 S) : P_X11_stepOf_9 (fun r T => Q r T ∧ K9 b L S0 T) v0 v4 v5 v6 v7 S := h (fun v0 v4 v5 v6 v7 S => K9 b L S0 S → P_X11_stepOf_9 (fun r T => Q r T ∧ K9 b L S0 T) v0 v4 v5 v6 v7 S) (fun v0 v4 v5 v6 v7 S hB K => fd_X11_stepOf_9 (kyB_X11_stepOf_9 hU hL hb hB K (fun _ _ _ _ _ _ hx K => hx K))) K
set_option maxRecDepth 20000 in
set_option maxHeartbeats 1000000 in
theorem ky_X11_stepOf_0 {b : Bool} {L : List (Nat × Nat)} (hU : ∀ q ∈ L, q ∈ nyT) (hL : ∀ q ∈ kyL_X11_stepOf, q ∈ L) (hb : False → b = false) {Q : Int32 → HS → Prop} {v0 : Nat} {v2 : Int32} {v3 : Int32} {v4 : Int32} {S0 S : HS} (h : P_X11_stepOf_0 Q v0 v2 v3 v4 S) (K : K9 b L S0 S) : P_X11_stepOf_0 (fun r T => Q r T ∧ K9 b L S0 T) v0 v2 v3 v4 S := by
  delta P_X11_stepOf_0 at h ⊢
  exact ky_X11_stepOf_9 hU hL hb h K
theorem ky_X11_stepOf {b : Bool} {L : List (Nat × Nat)} (hU : ∀ q ∈ L, q ∈ nyT) (hL : ∀ q ∈ kyL_X11_stepOf, q ∈ L) (hb : False → b = false) {Q : Int32 → HS → Prop} {v0 : Nat} {v1 : Int32} {v2 : Int32} {v3 : Int32} {v4 : Int32} {S : HS} (h : P_X11_stepOf v0 v1 v2 v3 v4 Q S) : P_X11_stepOf v0 v1 v2 v3 v4 (fun r T => Q r T ∧ K9 b L S T) S := ky_X11_stepOf_0 hU hL hb h (k9_rf b L S)
end
