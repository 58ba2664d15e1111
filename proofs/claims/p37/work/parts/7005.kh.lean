/-! which runs make nothing new -/
def KH (S T : HS) : Prop := hL T = hL S ∧ hK T = hK S
section KHs
variable {S T U : HS} {a j : Nat}
theorem kh_rf (S : HS) : KH S S := ⟨rfl, rfl⟩
theorem kh_tr (h : KH S T) (g : KH T U) : KH S U := ⟨g.1.trans h.1, g.2.trans h.2⟩
theorem kh_I {v : Int32} (h : KH S T) (e : U = sI T a j v) : KH S U := by
  rw [e]
  exact h
theorem kh_J {v : Int64} (h : KH S T) (e : U = sJ T a j v) : KH S U := by
  rw [e]
  exact h
theorem kh_R {v : Option Nat} (h : KH S T) (e : U = sR T a j v) : KH S U := by
  rw [e]
  exact h
end KHs
set_option maxRecDepth 20000 in
set_option maxHeartbeats 1000000 in
theorem kh_X0_end_0 {Q : HS → Prop} {v0 : Nat} {S0 S : HS} (h : P_X0_end_0 Q v0 S) (K : KH S0 S) : P_X0_end_0 (fun T => Q T ∧ KH S0 T) v0 S := by
  delta P_X0_end_0 at h ⊢
  obtain ⟨c1, h⟩ := h
  refine ⟨c1, ?_⟩
  intro x3 e2
  have h := h x3 e2
  have K := kh_I K e2
  intro x5 e4
  have h := h x5 e4
  have K := kh_I K e4
  intro x7 e6
  have h := h x7 e6
  have K := kh_I K e6
  exact ⟨h, K⟩
theorem kh_X0_end {Q : HS → Prop} {v0 : Nat} {S : HS} (h : P_X0_end v0 Q S) : P_X0_end v0 (fun T => Q T ∧ KH S T) S := kh_X0_end_0 h (kh_rf S)
set_option maxRecDepth 20000 in
set_option maxHeartbeats 1000000 in
theorem khB_X0_begin_28 {Q : HS → Prop} {X28 X28_2 : Nat → Int32 → HS → Prop} {v0 : Nat} {v4 : Int32} {S0 S : HS} (h : B_X0_begin_28 Q X28 v0 v4 S) (K : KH S0 S) (hX28 : ∀ (u0 : Nat) (u1 : Int32) (u2 : HS), X28 u0 u1 u2 → KH S0 u2 → X28_2 u0 u1 u2) : B_X0_begin_28 (fun T => Q T ∧ KH S0 T) X28_2 v0 v4 S := by
  delta B_X0_begin_28 at h ⊢
  refine ⟨?_, ?_⟩
  · intro c1
    have h := h.1 c1
    exact ⟨h, K⟩
  · intro c2
    have h := h.2 c2
    obtain ⟨c3, h⟩ := h
    refine ⟨c3, ?_⟩
    obtain ⟨b4, e5, h⟩ := h
    refine ⟨b4, e5, ?_⟩
    obtain ⟨c6, h⟩ := h
    refine ⟨c6, ?_⟩
    obtain ⟨b7, e8, h⟩ := h
    refine ⟨b7, e8, ?_⟩
    obtain ⟨c9, h⟩ := h
    refine ⟨c9, ?_⟩
    obtain ⟨c10, h⟩ := h
    refine ⟨c10, ?_⟩
    intro x12 e11
    have h := h x12 e11
    have K := kh_J K e11
    intro x14 e13
    have h := h x14 e13
    exact hX28 _ _ _ h K
theorem kh_X0_begin_28 {Q : HS → Prop} {v0 : Nat} {v4 : Int32} {S0 S : HS} (h : P_X0_begin_28 Q v0 v4 S) (K : KH S0 S) : P_X0_begin_28 (fun T => Q T ∧ KH S0 T) v0 v4 S := h (fun v0 v4 S => KH S0 S → P_X0_begin_28 (fun T => Q T ∧ KH S0 T) v0 v4 S) (fun v0 v4 S hB K => fd_X0_begin_28 (khB_X0_begin_28 hB K (fun _ _ _ hx K => hx K))) K
set_option maxRecDepth 20000 in
set_option maxHeartbeats 1000000 in
theorem kh_X0_begin_0 {Q : HS → Prop} {v0 : Nat} {v1 : Int32} {v2 : Int32} {v3 : Int32} {S0 S : HS} (h : P_X0_begin_0 Q v0 v1 v2 v3 S) (K : KH S0 S) : P_X0_begin_0 (fun T => Q T ∧ KH S0 T) v0 v1 v2 v3 S := by
  delta P_X0_begin_0 at h ⊢
  obtain ⟨c1, h⟩ := h
  refine ⟨c1, ?_⟩
  refine cm_X0_end (kh_X0_end h) h (fun x2 hp h g3 => ?_)
  have h := h g3
  have K := kh_tr K hp.2
  intro x5 e4
  have h := h x5 e4
  have K := kh_I K e4
  obtain ⟨b6, e7, h⟩ := h
  refine ⟨b6, e7, ?_⟩
  obtain ⟨c8, h⟩ := h
  refine ⟨c8, ?_⟩
  intro x10 e9
  have h := h x10 e9
  have K := kh_I K e9
  obtain ⟨b11, e12, h⟩ := h
  refine ⟨b11, e12, ?_⟩
  obtain ⟨c13, h⟩ := h
  refine ⟨c13, ?_⟩
  intro x15 e14
  have h := h x15 e14
  have K := kh_I K e14
  exact kh_X0_begin_28 h K
theorem kh_X0_begin {Q : HS → Prop} {v0 : Nat} {v1 : Int32} {v2 : Int32} {v3 : Int32} {S : HS} (h : P_X0_begin v0 v1 v2 v3 Q S) : P_X0_begin v0 v1 v2 v3 (fun T => Q T ∧ KH S T) S := kh_X0_begin_0 h (kh_rf S)
set_option maxRecDepth 20000 in
set_option maxHeartbeats 1000000 in
theorem kh_X0_draw_60 {Q : HS → Prop} {X10 X10_2 : Nat → Nat → Int32 → Int32 → HS → Prop} {v0 : Nat} {v1 : Nat} {v3 : Int32} {v4 : Int32} {S0 S : HS} (h : P_X0_draw_60 Q X10 v0 v1 v3 v4 S) (K : KH S0 S) (hX10 : ∀ (u0 : Nat) (u1 : Nat) (u2 : Int32) (u3 : Int32) (u4 : HS), X10 u0 u1 u2 u3 u4 → KH S0 u4 → X10_2 u0 u1 u2 u3 u4) : P_X0_draw_60 (fun T => Q T ∧ KH S0 T) X10_2 v0 v1 v3 v4 S := by
  delta P_X0_draw_60 at h ⊢
  intro x2 e1
  have h := h x2 e1
  exact hX10 _ _ _ _ _ h K
set_option maxRecDepth 20000 in
set_option maxHeartbeats 1000000 in
theorem khB_X0_draw_10 {Q : HS → Prop} {X10 X10_2 : Nat → Nat → Int32 → Int32 → HS → Prop} {v0 : Nat} {v1 : Nat} {v3 : Int32} {v4 : Int32} {S0 S : HS} (h : B_X0_draw_10 Q X10 v0 v1 v3 v4 S) (K : KH S0 S) (hX10 : ∀ (u0 : Nat) (u1 : Nat) (u2 : Int32) (u3 : Int32) (u4 : HS), X10 u0 u1 u2 u3 u4 → KH S0 u4 → X10_2 u0 u1 u2 u3 u4) : B_X0_draw_10 (fun T => Q T ∧ KH S0 T) X10_2 v0 v1 v3 v4 S := by
  delta B_X0_draw_10 at h ⊢
  obtain ⟨c1, h⟩ := h
  refine ⟨c1, ?_⟩
  intro x3 e2
  have h := h x3 e2
  refine ⟨?_, ?_⟩
  · intro c4
    have h := h.1 c4
    exact ⟨h, K⟩
  · intro c5
    have h := h.2 c5
    intro x7 e6
    have h := h x7 e6
    intro x9 e8
    have h := h x9 e8
    obtain ⟨b10, e11, h⟩ := h
    refine ⟨b10, e11, ?_⟩
    obtain ⟨c12, h⟩ := h
    refine ⟨c12, ?_⟩
    obtain ⟨c13, h⟩ := h
    refine ⟨c13, ?_⟩
    obtain ⟨b14, e15, h⟩ := h
    refine ⟨b14, e15, ?_⟩
    obtain ⟨c16, h⟩ := h
    refine ⟨c16, ?_⟩
    intro x18 e17
    have h := h x18 e17
    refine ⟨?_, ?_⟩
    · intro c19
      have h := h.1 c19
      exact kh_X0_draw_60 h K hX10
    · intro c20
      have h := h.2 c20
      obtain ⟨c21, h⟩ := h
      refine ⟨c21, ?_⟩
      intro x23 e22
      have h := h x23 e22
      intro x25 e24
      have h := h x25 e24
      intro x27 e26
      have h := h x27 e26
      have K := kh_I K e26
      exact kh_X0_draw_60 h K hX10
theorem kh_X0_draw_10 {Q : HS → Prop} {v0 : Nat} {v1 : Nat} {v3 : Int32} {v4 : Int32} {S0 S : HS} (h : P_X0_draw_10 Q v0 v1 v3 v4 S) (K : KH S0 S) : P_X0_draw_10 (fun T => Q T ∧ KH S0 T) v0 v1 v3 v4 S := h (fun v0 v1 v3 v4 S => KH S0 S → P_X0_draw_10 (fun T => Q T ∧ KH S0 T) v0 v1 v3 v4 S) (fun v0 v1 v3 v4 S hB K => fd_X0_draw_10 (khB_X0_draw_10 hB K (fun _ _ _ _ _ hx K => hx K))) K
set_option maxRecDepth 20000 in
set_option maxHeartbeats 1000000 in
theorem kh_X0_draw_0 {Q : HS → Prop} {v0 : Nat} {v1 : Nat} {v2 : Int32} {S0 S : HS} (h : P_X0_draw_0 Q v0 v1 v2 S) (K : KH S0 S) : P_X0_draw_0 (fun T => Q T ∧ KH S0 T) v0 v1 v2 S := by
  delta P_X0_draw_0 at h ⊢
  obtain ⟨c1, h⟩ := h
  refine ⟨c1, ?_⟩
  intro x3 e2
  have h := h x3 e2
  have K := kh_I K e2
  exact kh_X0_draw_10 h K
theorem kh_X0_draw {Q : HS → Prop} {v0 : Nat} {v1 : Nat} {v2 : Int32} {S : HS} (h : P_X0_draw v0 v1 v2 Q S) : P_X0_draw v0 v1 v2 (fun T => Q T ∧ KH S T) S := kh_X0_draw_0 h (kh_rf S)
set_option maxRecDepth 20000 in
set_option maxHeartbeats 1000000 in
theorem kh_X0_isOn_0 {Q : Int32 → HS → Prop} {v0 : Nat} {S0 S : HS} (h : P_X0_isOn_0 Q v0 S) (K : KH S0 S) : P_X0_isOn_0 (fun r T => Q r T ∧ KH S0 T) v0 S := by
  delta P_X0_isOn_0 at h ⊢
  obtain ⟨c1, h⟩ := h
  refine ⟨c1, ?_⟩
  intro x3 e2
  have h := h x3 e2
  refine ⟨?_, ?_⟩
  · intro c4
    have h := h.1 c4
    exact ⟨h, K⟩
  · intro c5
    have h := h.2 c5
    exact ⟨h, K⟩
theorem kh_X0_isOn {Q : Int32 → HS → Prop} {v0 : Nat} {S : HS} (h : P_X0_isOn v0 Q S) : P_X0_isOn v0 (fun r T => Q r T ∧ KH S T) S := kh_X0_isOn_0 h (kh_rf S)
set_option maxRecDepth 20000 in
set_option maxHeartbeats 1000000 in
theorem khB_X2_copy_18 {Q : HS → Prop} {X18 X18_2 : Nat → Nat → Int32 → HS → Prop} {v0 : Nat} {v1 : Nat} {v2 : Int32} {S0 S : HS} (h : B_X2_copy_18 Q X18 v0 v1 v2 S) (K : KH S0 S) (hX18 : ∀ (u0 : Nat) (u1 : Nat) (u2 : Int32) (u3 : HS), X18 u0 u1 u2 u3 → KH S0 u3 → X18_2 u0 u1 u2 u3) : B_X2_copy_18 (fun T => Q T ∧ KH S0 T) X18_2 v0 v1 v2 S := by
  delta B_X2_copy_18 at h ⊢
  refine ⟨?_, ?_⟩
  · intro c1
    have h := h.1 c1
    exact ⟨h, K⟩
  · intro c2
    have h := h.2 c2
    obtain ⟨c3, h⟩ := h
    refine ⟨c3, ?_⟩
    obtain ⟨b4, e5, h⟩ := h
    refine ⟨b4, e5, ?_⟩
    obtain ⟨c6, h⟩ := h
    refine ⟨c6, ?_⟩
    obtain ⟨b7, e8, h⟩ := h
    refine ⟨b7, e8, ?_⟩
    obtain ⟨c9, h⟩ := h
    refine ⟨c9, ?_⟩
    obtain ⟨c10, h⟩ := h
    refine ⟨c10, ?_⟩
    intro x12 e11
    have h := h x12 e11
    obtain ⟨c13, h⟩ := h
    refine ⟨c13, ?_⟩
    obtain ⟨c14, h⟩ := h
    refine ⟨c14, ?_⟩
    intro x16 e15
    have h := h x16 e15
    have K := kh_J K e15
    intro x18 e17
    have h := h x18 e17
    exact hX18 _ _ _ _ h K
theorem kh_X2_copy_18 {Q : HS → Prop} {v0 : Nat} {v1 : Nat} {v2 : Int32} {S0 S : HS} (h : P_X2_copy_18 Q v0 v1 v2 S) (K : KH S0 S) : P_X2_copy_18 (fun T => Q T ∧ KH S0 T) v0 v1 v2 S := h (fun v0 v1 v2 S => KH S0 S → P_X2_copy_18 (fun T => Q T ∧ KH S0 T) v0 v1 v2 S) (fun v0 v1 v2 S hB K => fd_X2_copy_18 (khB_X2_copy_18 hB K (fun _ _ _ _ hx K => hx K))) K
set_option maxRecDepth 20000 in
set_option maxHeartbeats 1000000 in
theorem kh_X2_copy_0 {Q : HS → Prop} {v0 : Nat} {v1 : Nat} {S0 S : HS} (h : P_X2_copy_0 Q v0 v1 S) (K : KH S0 S) : P_X2_copy_0 (fun T => Q T ∧ KH S0 T) v0 v1 S := by
  delta P_X2_copy_0 at h ⊢
  obtain ⟨c1, h⟩ := h
  refine ⟨c1, ?_⟩
  intro x3 e2
  have h := h x3 e2
  obtain ⟨c4, h⟩ := h
  refine ⟨c4, ?_⟩
  intro x6 e5
  have h := h x6 e5
  have K := kh_I K e5
  intro x8 e7
  have h := h x8 e7
  intro x10 e9
  have h := h x10 e9
  have K := kh_I K e9
  exact kh_X2_copy_18 h K
theorem kh_X2_copy {Q : HS → Prop} {v0 : Nat} {v1 : Nat} {S : HS} (h : P_X2_copy v0 v1 Q S) : P_X2_copy v0 v1 (fun T => Q T ∧ KH S T) S := kh_X2_copy_0 h (kh_rf S)
set_option maxRecDepth 20000 in
set_option maxHeartbeats 1000000 in
theorem kh_X0_keepForUndo_58 {Q : HS → Prop} {v0 : Nat} {S0 S : HS} (h : P_X0_keepForUndo_58 Q v0 S) (K : KH S0 S) : P_X0_keepForUndo_58 (fun T => Q T ∧ KH S0 T) v0 S := by
  delta P_X0_keepForUndo_58 at h ⊢
  obtain ⟨c1, h⟩ := h
  refine ⟨c1, ?_⟩
  obtain ⟨b2, e3, h⟩ := h
  refine ⟨b2, e3, ?_⟩
  intro x5 e4
  have h := h x5 e4
  obtain ⟨c6, h⟩ := h
  refine ⟨c6, ?_⟩
  obtain ⟨c7, h⟩ := h
  refine ⟨c7, ?_⟩
  obtain ⟨b8, e9, h⟩ := h
  refine ⟨b8, e9, ?_⟩
  obtain ⟨b10, e11, h⟩ := h
  refine ⟨b10, e11, ?_⟩
  obtain ⟨c12, h⟩ := h
  refine ⟨c12, ?_⟩
  refine cm_X2_copy (kh_X2_copy h) h (fun x13 hp h g14 => ?_)
  have h := h g14
  have K := kh_tr K hp.2
  intro x16 e15
  have h := h x16 e15
  intro x18 e17
  have h := h x18 e17
  intro x20 e19
  have h := h x20 e19
  have K := kh_I K e19
  exact ⟨h, K⟩
set_option maxRecDepth 20000 in
set_option maxHeartbeats 1000000 in
theorem khB_X0_keepForUndo_18 {Q : HS → Prop} {X18 X18_2 : Nat → Nat → Int32 → HS → Prop} {v0 : Nat} {v1 : Nat} {v2 : Int32} {S0 S : HS} (h : B_X0_keepForUndo_18 Q X18 v0 v1 v2 S) (K : KH S0 S) (hX18 : ∀ (u0 : Nat) (u1 : Nat) (u2 : Int32) (u3 : HS), X18 u0 u1 u2 u3 → KH S0 u3 → X18_2 u0 u1 u2 u3) : B_X0_keepForUndo_18 (fun T => Q T ∧ KH S0 T) X18_2 v0 v1 v2 S := by
  delta B_X0_keepForUndo_18 at h ⊢
  refine ⟨?_, ?_⟩
  · intro c1
    have h := h.1 c1
    obtain ⟨c2, h⟩ := h
    refine ⟨c2, ?_⟩
    obtain ⟨b3, e4, h⟩ := h
    refine ⟨b3, e4, ?_⟩
    obtain ⟨c5, h⟩ := h
    refine ⟨c5, ?_⟩
    obtain ⟨c6, h⟩ := h
    refine ⟨c6, ?_⟩
    obtain ⟨c7, h⟩ := h
    refine ⟨c7, ?_⟩
    intro x9 e8
    have h := h x9 e8
    have K := kh_R K e8
    intro x11 e10
    have h := h x11 e10
    have K := kh_I K e10
    exact kh_X0_keepForUndo_58 h K
  · intro c12
    have h := h.2 c12
    obtain ⟨c13, h⟩ := h
    refine ⟨c13, ?_⟩
    obtain ⟨b14, e15, h⟩ := h
    refine ⟨b14, e15, ?_⟩
    obtain ⟨b16, e17, h⟩ := h
    refine ⟨b16, e17, ?_⟩
    obtain ⟨c18, h⟩ := h
    refine ⟨c18, ?_⟩
    obtain ⟨c19, h⟩ := h
    refine ⟨c19, ?_⟩
    obtain ⟨b20, e21, h⟩ := h
    refine ⟨b20, e21, ?_⟩
    obtain ⟨c22, h⟩ := h
    refine ⟨c22, ?_⟩
    obtain ⟨c23, h⟩ := h
    refine ⟨c23, ?_⟩
    obtain ⟨c24, h⟩ := h
    refine ⟨c24, ?_⟩
    intro x26 e25
    have h := h x26 e25
    have K := kh_R K e25
    intro x28 e27
    have h := h x28 e27
    exact hX18 _ _ _ _ h K
theorem kh_X0_keepForUndo_18 {Q : HS → Prop} {v0 : Nat} {v1 : Nat} {v2 : Int32} {S0 S : HS} (h : P_X0_keepForUndo_18 Q v0 v1 v2 S) (K : KH S0 S) : P_X0_keepForUndo_18 (fun T => Q T ∧ KH S0 T) v0 v1 v2 S := h (fun v0 v1 v2 S => KH S0 S → P_X0_keepForUndo_18 (fun T => Q T ∧ KH S0 T) v0 v1 v2 S) (fun v0 v1 v2 S hB K => fd_X0_keepForUndo_18 (khB_X0_keepForUndo_18 hB K (fun _ _ _ _ hx K => hx K))) K
set_option maxRecDepth 20000 in
set_option maxHeartbeats 1000000 in
theorem kh_X0_keepForUndo_0 {Q : HS → Prop} {v0 : Nat} {S0 S : HS} (h : P_X0_keepForUndo_0 Q v0 S) (K : KH S0 S) : P_X0_keepForUndo_0 (fun T => Q T ∧ KH S0 T) v0 S := by
  delta P_X0_keepForUndo_0 at h ⊢
  obtain ⟨c1, h⟩ := h
  refine ⟨c1, ?_⟩
  intro x3 e2
  have h := h x3 e2
  refine ⟨?_, ?_⟩
  · intro c4
    have h := h.1 c4
    exact kh_X0_keepForUndo_58 h K
  · intro c5
    have h := h.2 c5
    obtain ⟨b6, e7, h⟩ := h
    refine ⟨b6, e7, ?_⟩
    obtain ⟨c8, h⟩ := h
    refine ⟨c8, ?_⟩
    obtain ⟨c9, h⟩ := h
    refine ⟨c9, ?_⟩
    obtain ⟨b10, e11, h⟩ := h
    refine ⟨b10, e11, ?_⟩
    exact kh_X0_keepForUndo_18 h K
theorem kh_X0_keepForUndo {Q : HS → Prop} {v0 : Nat} {S : HS} (h : P_X0_keepForUndo v0 Q S) : P_X0_keepForUndo v0 (fun T => Q T ∧ KH S T) S := kh_X0_keepForUndo_0 h (kh_rf S)
set_option maxRecDepth 20000 in
set_option maxHeartbeats 1000000 in
theorem kh_X0_rainsIn_0 {Q : Int32 → HS → Prop} {v0 : Nat} {v1 : Int32} {S0 S : HS} (h : P_X0_rainsIn_0 Q v0 v1 S) (K : KH S0 S) : P_X0_rainsIn_0 (fun r T => Q r T ∧ KH S0 T) v0 v1 S := by
  delta P_X0_rainsIn_0 at h ⊢
  refine ⟨?_, ?_⟩
  · intro c1
    have h := h.1 c1
    exact ⟨h, K⟩
  · intro c2
    have h := h.2 c2
    refine ⟨?_, ?_⟩
    · intro c3
      have h := h.1 c3
      exact ⟨h, K⟩
    · intro c4
      have h := h.2 c4
      obtain ⟨c5, h⟩ := h
      refine ⟨c5, ?_⟩
      intro x7 e6
      have h := h x7 e6
      refine ⟨?_, ?_⟩
      · intro c8
        have h := h.1 c8
        exact ⟨h, K⟩
      · intro c9
        have h := h.2 c9
        exact ⟨h, K⟩
theorem kh_X0_rainsIn {Q : Int32 → HS → Prop} {v0 : Nat} {v1 : Int32} {S : HS} (h : P_X0_rainsIn v0 v1 Q S) : P_X0_rainsIn v0 v1 (fun r T => Q r T ∧ KH S T) S := kh_X0_rainsIn_0 h (kh_rf S)
set_option maxRecDepth 20000 in
set_option maxHeartbeats 1000000 in
theorem kh_X0_returnTo_0 {Q : Int32 → HS → Prop} {v0 : Nat} {v1 : Int32} {S0 S : HS} (h : P_X0_returnTo_0 Q v0 v1 S) (K : KH S0 S) : P_X0_returnTo_0 (fun r T => Q r T ∧ KH S0 T) v0 v1 S := by
  delta P_X0_returnTo_0 at h ⊢
  refine ⟨?_, ?_⟩
  · intro c1
    have h := h.1 c1
    exact ⟨h, K⟩
  · intro c2
    have h := h.2 c2
    obtain ⟨c3, h⟩ := h
    refine ⟨c3, ?_⟩
    intro x5 e4
    have h := h x5 e4
    refine ⟨?_, ?_⟩
    · intro c6
      have h := h.1 c6
      obtain ⟨b7, e8, h⟩ := h
      refine ⟨b7, e8, ?_⟩
      obtain ⟨b9, e10, h⟩ := h
      refine ⟨b9, e10, ?_⟩
      obtain ⟨c11, h⟩ := h
      refine ⟨c11, ?_⟩
      obtain ⟨c12, h⟩ := h
      refine ⟨c12, ?_⟩
      obtain ⟨b13, e14, h⟩ := h
      refine ⟨b13, e14, ?_⟩
      obtain ⟨c15, h⟩ := h
      refine ⟨c15, ?_⟩
      refine cm_X2_copy (kh_X2_copy h) h (fun x16 hp h g17 => ?_)
      have h := h g17
      have K := kh_tr K hp.2
      intro x19 e18
      have h := h x19 e18
      have K := kh_I K e18
      exact ⟨h, K⟩
    · intro c20
      have h := h.2 c20
      exact ⟨h, K⟩
theorem kh_X0_returnTo {Q : Int32 → HS → Prop} {v0 : Nat} {v1 : Int32} {S : HS} (h : P_X0_returnTo v0 v1 Q S) : P_X0_returnTo v0 v1 (fun r T => Q r T ∧ KH S T) S := kh_X0_returnTo_0 h (kh_rf S)
set_option maxRecDepth 20000 in
set_option maxHeartbeats 1000000 in
theorem kh_X0_setMark_0 {Q : Int32 → HS → Prop} {v0 : Nat} {S0 S : HS} (h : P_X0_setMark_0 Q v0 S) (K : KH S0 S) : P_X0_setMark_0 (fun r T => Q r T ∧ KH S0 T) v0 S := by
  delta P_X0_setMark_0 at h ⊢
  obtain ⟨c1, h⟩ := h
  refine ⟨c1, ?_⟩
  intro x3 e2
  have h := h x3 e2
  refine ⟨?_, ?_⟩
  · intro c4
    have h := h.1 c4
    obtain ⟨b5, e6, h⟩ := h
    refine ⟨b5, e6, ?_⟩
    intro x8 e7
    have h := h x8 e7
    obtain ⟨c9, h⟩ := h
    refine ⟨c9, ?_⟩
    obtain ⟨c10, h⟩ := h
    refine ⟨c10, ?_⟩
    obtain ⟨b11, e12, h⟩ := h
    refine ⟨b11, e12, ?_⟩
    obtain ⟨b13, e14, h⟩ := h
    refine ⟨b13, e14, ?_⟩
    obtain ⟨c15, h⟩ := h
    refine ⟨c15, ?_⟩
    refine cm_X2_copy (kh_X2_copy h) h (fun x16 hp h g17 => ?_)
    have h := h g17
    have K := kh_tr K hp.2
    intro x19 e18
    have h := h x19 e18
    intro x21 e20
    have h := h x21 e20
    intro x23 e22
    have h := h x23 e22
    have K := kh_I K e22
    intro x25 e24
    have h := h x25 e24
    exact ⟨h, K⟩
  · intro c26
    have h := h.2 c26
    exact ⟨h, K⟩
theorem kh_X0_setMark {Q : Int32 → HS → Prop} {v0 : Nat} {S : HS} (h : P_X0_setMark v0 Q S) : P_X0_setMark v0 (fun r T => Q r T ∧ KH S T) S := kh_X0_setMark_0 h (kh_rf S)
set_option maxRecDepth 20000 in
set_option maxHeartbeats 1000000 in
theorem kh_X0_takeBack_0 {Q : Int32 → HS → Prop} {v0 : Nat} {S0 S : HS} (h : P_X0_takeBack_0 Q v0 S) (K : KH S0 S) : P_X0_takeBack_0 (fun r T => Q r T ∧ KH S0 T) v0 S := by
  delta P_X0_takeBack_0 at h ⊢
  obtain ⟨c1, h⟩ := h
  refine ⟨c1, ?_⟩
  intro x3 e2
  have h := h x3 e2
  refine ⟨?_, ?_⟩
  · intro c4
    have h := h.1 c4
    intro x6 e5
    have h := h x6 e5
    intro x8 e7
    have h := h x8 e7
    intro x10 e9
    have h := h x10 e9
    have K := kh_I K e9
    obtain ⟨b11, e12, h⟩ := h
    refine ⟨b11, e12, ?_⟩
    obtain ⟨b13, e14, h⟩ := h
    refine ⟨b13, e14, ?_⟩
    intro x16 e15
    have h := h x16 e15
    obtain ⟨c17, h⟩ := h
    refine ⟨c17, ?_⟩
    obtain ⟨c18, h⟩ := h
    refine ⟨c18, ?_⟩
    obtain ⟨b19, e20, h⟩ := h
    refine ⟨b19, e20, ?_⟩
    obtain ⟨c21, h⟩ := h
    refine ⟨c21, ?_⟩
    refine cm_X2_copy (kh_X2_copy h) h (fun x22 hp h g23 => ?_)
    have h := h g23
    have K := kh_tr K hp.2
    exact ⟨h, K⟩
  · intro c24
    have h := h.2 c24
    exact ⟨h, K⟩
theorem kh_X0_takeBack {Q : Int32 → HS → Prop} {v0 : Nat} {S : HS} (h : P_X0_takeBack v0 Q S) : P_X0_takeBack v0 (fun r T => Q r T ∧ KH S T) S := kh_X0_takeBack_0 h (kh_rf S)
set_option maxRecDepth 20000 in
set_option maxHeartbeats 1000000 in
theorem kh_X10_facing_0 {Q : Int32 → HS → Prop} {v0 : Nat} {v1 : Int32} {v2 : Int32} {S0 S : HS} (h : P_X10_facing_0 Q v0 v1 v2 S) (K : KH S0 S) : P_X10_facing_0 (fun r T => Q r T ∧ KH S0 T) v0 v1 v2 S := by
  delta P_X10_facing_0 at h ⊢
  refine ⟨?_, ?_⟩
  · intro c1
    have h := h.1 c1
    obtain ⟨c2, h⟩ := h
    refine ⟨c2, ?_⟩
    obtain ⟨b3, e4, h⟩ := h
    refine ⟨b3, e4, ?_⟩
    obtain ⟨c5, h⟩ := h
    refine ⟨c5, ?_⟩
    obtain ⟨c6, h⟩ := h
    refine ⟨c6, ?_⟩
    intro x8 e7
    have h := h x8 e7
    exact ⟨h, K⟩
  · intro c9
    have h := h.2 c9
    obtain ⟨c10, h⟩ := h
    refine ⟨c10, ?_⟩
    obtain ⟨b11, e12, h⟩ := h
    refine ⟨b11, e12, ?_⟩
    obtain ⟨c13, h⟩ := h
    refine ⟨c13, ?_⟩
    obtain ⟨c14, h⟩ := h
    refine ⟨c14, ?_⟩
    intro x16 e15
    have h := h x16 e15
    exact ⟨h, K⟩
theorem kh_X10_facing {Q : Int32 → HS → Prop} {v0 : Nat} {v1 : Int32} {v2 : Int32} {S : HS} (h : P_X10_facing v0 v1 v2 Q S) : P_X10_facing v0 v1 v2 (fun r T => Q r T ∧ KH S T) S := kh_X10_facing_0 h (kh_rf S)
set_option maxRecDepth 20000 in
set_option maxHeartbeats 1000000 in
theorem kh_X10_across_0 {Q : Int32 → HS → Prop} {v0 : Nat} {v1 : Int32} {v2 : Int32} {v3 : Int32} {S0 S : HS} (h : P_X10_across_0 Q v0 v1 v2 v3 S) (K : KH S0 S) : P_X10_across_0 (fun r T => Q r T ∧ KH S0 T) v0 v1 v2 v3 S := by
  delta P_X10_across_0 at h ⊢
  obtain ⟨c1, h⟩ := h
  refine ⟨c1, ?_⟩
  obtain ⟨b2, e3, h⟩ := h
  refine ⟨b2, e3, ?_⟩
  obtain ⟨c4, h⟩ := h
  refine ⟨c4, ?_⟩
  obtain ⟨c5, h⟩ := h
  refine ⟨c5, ?_⟩
  intro x7 e6
  have h := h x7 e6
  refine cm_X10_facing (kh_X10_facing h) h (fun x8 x9 hp h g10 => ?_)
  have h := h g10
  have K := kh_tr K hp.2
  intro x12 e11
  have h := h x12 e11
  refine ⟨?_, ?_⟩
  · intro c13
    have h := h.1 c13
    refine ⟨?_, ?_⟩
    · intro c14
      have h := h.1 c14
      exact ⟨h, K⟩
    · intro c15
      have h := h.2 c15
      obtain ⟨b16, e17, h⟩ := h
      refine ⟨b16, e17, ?_⟩
      obtain ⟨c18, h⟩ := h
      refine ⟨c18, ?_⟩
      obtain ⟨c19, h⟩ := h
      refine ⟨c19, ?_⟩
      intro x21 e20
      have h := h x21 e20
      exact ⟨h, K⟩
  · intro c22
    have h := h.2 c22
    obtain ⟨b23, e24, h⟩ := h
    refine ⟨b23, e24, ?_⟩
    obtain ⟨c25, h⟩ := h
    refine ⟨c25, ?_⟩
    obtain ⟨c26, h⟩ := h
    refine ⟨c26, ?_⟩
    intro x28 e27
    have h := h x28 e27
    exact ⟨h, K⟩
theorem kh_X10_across {Q : Int32 → HS → Prop} {v0 : Nat} {v1 : Int32} {v2 : Int32} {v3 : Int32} {S : HS} (h : P_X10_across v0 v1 v2 v3 Q S) : P_X10_across v0 v1 v2 v3 (fun r T => Q r T ∧ KH S T) S := kh_X10_across_0 h (kh_rf S)
set_option maxRecDepth 20000 in
set_option maxHeartbeats 1000000 in
theorem kh_X10_air_0 {Q : Int32 → HS → Prop} {v0 : Nat} {v1 : Int32} {v2 : Int32} {v3 : Int32} {S0 S : HS} (h : P_X10_air_0 Q v0 v1 v2 v3 S) (K : KH S0 S) : P_X10_air_0 (fun r T => Q r T ∧ KH S0 T) v0 v1 v2 v3 S := by
  delta P_X10_air_0 at h ⊢
  obtain ⟨c1, h⟩ := h
  refine ⟨c1, ?_⟩
  obtain ⟨b2, e3, h⟩ := h
  refine ⟨b2, e3, ?_⟩
  obtain ⟨c4, h⟩ := h
  refine ⟨c4, ?_⟩
  obtain ⟨c5, h⟩ := h
  refine ⟨c5, ?_⟩
  intro x7 e6
  have h := h x7 e6
  refine cm_X10_facing (kh_X10_facing h) h (fun x8 x9 hp h g10 => ?_)
  have h := h g10
  have K := kh_tr K hp.2
  intro x12 e11
  have h := h x12 e11
  refine ⟨?_, ?_⟩
  · intro c13
    have h := h.1 c13
    refine ⟨?_, ?_⟩
    · intro c14
      have h := h.1 c14
      exact ⟨h, K⟩
    · intro c15
      have h := h.2 c15
      obtain ⟨b16, e17, h⟩ := h
      refine ⟨b16, e17, ?_⟩
      obtain ⟨c18, h⟩ := h
      refine ⟨c18, ?_⟩
      obtain ⟨c19, h⟩ := h
      refine ⟨c19, ?_⟩
      intro x21 e20
      have h := h x21 e20
      exact ⟨h, K⟩
  · intro c22
    have h := h.2 c22
    obtain ⟨b23, e24, h⟩ := h
    refine ⟨b23, e24, ?_⟩
    obtain ⟨c25, h⟩ := h
    refine ⟨c25, ?_⟩
    obtain ⟨c26, h⟩ := h
    refine ⟨c26, ?_⟩
    intro x28 e27
    have h := h x28 e27
    exact ⟨h, K⟩
theorem kh_X10_air {Q : Int32 → HS → Prop} {v0 : Nat} {v1 : Int32} {v2 : Int32} {v3 : Int32} {S : HS} (h : P_X10_air v0 v1 v2 v3 Q S) : P_X10_air v0 v1 v2 v3 (fun r T => Q r T ∧ KH S T) S := kh_X10_air_0 h (kh_rf S)
set_option maxRecDepth 20000 in
set_option maxHeartbeats 1000000 in
theorem kh_X10_begins_0 {Q : Int32 → HS → Prop} {v0 : Nat} {v1 : Int32} {v2 : Int32} {S0 S : HS} (h : P_X10_begins_0 Q v0 v1 v2 S) (K : KH S0 S) : P_X10_begins_0 (fun r T => Q r T ∧ KH S0 T) v0 v1 v2 S := by
  delta P_X10_begins_0 at h ⊢
  refine ⟨?_, ?_⟩
  · intro c1
    have h := h.1 c1
    obtain ⟨c2, h⟩ := h
    refine ⟨c2, ?_⟩
    obtain ⟨b3, e4, h⟩ := h
    refine ⟨b3, e4, ?_⟩
    obtain ⟨c5, h⟩ := h
    refine ⟨c5, ?_⟩
    obtain ⟨c6, h⟩ := h
    refine ⟨c6, ?_⟩
    intro x8 e7
    have h := h x8 e7
    exact ⟨h, K⟩
  · intro c9
    have h := h.2 c9
    obtain ⟨c10, h⟩ := h
    refine ⟨c10, ?_⟩
    obtain ⟨b11, e12, h⟩ := h
    refine ⟨b11, e12, ?_⟩
    obtain ⟨c13, h⟩ := h
    refine ⟨c13, ?_⟩
    obtain ⟨c14, h⟩ := h
    refine ⟨c14, ?_⟩
    intro x16 e15
    have h := h x16 e15
    exact ⟨h, K⟩
theorem kh_X10_begins {Q : Int32 → HS → Prop} {v0 : Nat} {v1 : Int32} {v2 : Int32} {S : HS} (h : P_X10_begins v0 v1 v2 Q S) : P_X10_begins v0 v1 v2 (fun r T => Q r T ∧ KH S T) S := kh_X10_begins_0 h (kh_rf S)
set_option maxRecDepth 20000 in
set_option maxHeartbeats 1000000 in
theorem kh_X10_ends_0 {Q : Int32 → HS → Prop} {v0 : Nat} {v1 : Int32} {v2 : Int32} {S0 S : HS} (h : P_X10_ends_0 Q v0 v1 v2 S) (K : KH S0 S) : P_X10_ends_0 (fun r T => Q r T ∧ KH S0 T) v0 v1 v2 S := by
  delta P_X10_ends_0 at h ⊢
  refine ⟨?_, ?_⟩
  · intro c1
    have h := h.1 c1
    obtain ⟨c2, h⟩ := h
    refine ⟨c2, ?_⟩
    obtain ⟨b3, e4, h⟩ := h
    refine ⟨b3, e4, ?_⟩
    obtain ⟨c5, h⟩ := h
    refine ⟨c5, ?_⟩
    obtain ⟨c6, h⟩ := h
    refine ⟨c6, ?_⟩
    intro x8 e7
    have h := h x8 e7
    exact ⟨h, K⟩
  · intro c9
    have h := h.2 c9
    obtain ⟨c10, h⟩ := h
    refine ⟨c10, ?_⟩
    obtain ⟨b11, e12, h⟩ := h
    refine ⟨b11, e12, ?_⟩
    obtain ⟨c13, h⟩ := h
    refine ⟨c13, ?_⟩
    obtain ⟨c14, h⟩ := h
    refine ⟨c14, ?_⟩
    intro x16 e15
    have h := h x16 e15
    exact ⟨h, K⟩
theorem kh_X10_ends {Q : Int32 → HS → Prop} {v0 : Nat} {v1 : Int32} {v2 : Int32} {S : HS} (h : P_X10_ends v0 v1 v2 Q S) : P_X10_ends v0 v1 v2 (fun r T => Q r T ∧ KH S T) S := kh_X10_ends_0 h (kh_rf S)
set_option maxRecDepth 20000 in
set_option maxHeartbeats 1000000 in
theorem khB_X10_find_2 {Q : Int32 → HS → Prop} {X2 X2_2 : Nat → Int64 → Int32 → HS → Prop} {v0 : Nat} {v1 : Int64} {v3 : Int32} {S0 S : HS} (h : B_X10_find_2 Q X2 v0 v1 v3 S) (K : KH S0 S) (hX2 : ∀ (u0 : Nat) (u1 : Int64) (u2 : Int32) (u3 : HS), X2 u0 u1 u2 u3 → KH S0 u3 → X2_2 u0 u1 u2 u3) : B_X10_find_2 (fun r T => Q r T ∧ KH S0 T) X2_2 v0 v1 v3 S := by
  delta B_X10_find_2 at h ⊢
  obtain ⟨c1, h⟩ := h
  refine ⟨c1, ?_⟩
  intro x3 e2
  have h := h x3 e2
  refine ⟨?_, ?_⟩
  · intro c4
    have h := h.1 c4
    exact ⟨h, K⟩
  · intro c5
    have h := h.2 c5
    obtain ⟨b6, e7, h⟩ := h
    refine ⟨b6, e7, ?_⟩
    obtain ⟨c8, h⟩ := h
    refine ⟨c8, ?_⟩
    obtain ⟨c9, h⟩ := h
    refine ⟨c9, ?_⟩
    intro x11 e10
    have h := h x11 e10
    refine ⟨?_, ?_⟩
    · intro c12
      have h := h.1 c12
      intro x14 e13
      have h := h x14 e13
      exact hX2 _ _ _ _ h K
    · intro c15
      have h := h.2 c15
      exact ⟨h, K⟩
theorem kh_X10_find_2 {Q : Int32 → HS → Prop} {v0 : Nat} {v1 : Int64} {v3 : Int32} {S0 S : HS} (h : P_X10_find_2 Q v0 v1 v3 S) (K : KH S0 S) : P_X10_find_2 (fun r T => Q r T ∧ KH S0 T) v0 v1 v3 S := h (fun v0 v1 v3 S => KH S0 S → P_X10_find_2 (fun r T => Q r T ∧ KH S0 T) v0 v1 v3 S) (fun v0 v1 v3 S hB K => fd_X10_find_2 (khB_X10_find_2 hB K (fun _ _ _ _ hx K => hx K))) K
set_option maxRecDepth 20000 in
set_option maxHeartbeats 1000000 in
theorem kh_X10_find_0 {Q : Int32 → HS → Prop} {v0 : Nat} {v1 : Int64} {S0 S : HS} (h : P_X10_find_0 Q v0 v1 S) (K : KH S0 S) : P_X10_find_0 (fun r T => Q r T ∧ KH S0 T) v0 v1 S := by
  delta P_X10_find_0 at h ⊢
  exact kh_X10_find_2 h K
theorem kh_X10_find {Q : Int32 → HS → Prop} {v0 : Nat} {v1 : Int64} {S : HS} (h : P_X10_find v0 v1 Q S) : P_X10_find v0 v1 (fun r T => Q r T ∧ KH S T) S := kh_X10_find_0 h (kh_rf S)
set_option maxRecDepth 20000 in
set_option maxHeartbeats 1000000 in
theorem kh_X10_minutes_0 {Q : Int32 → HS → Prop} {v0 : Nat} {v1 : Int32} {v2 : Int32} {S0 S : HS} (h : P_X10_minutes_0 Q v0 v1 v2 S) (K : KH S0 S) : P_X10_minutes_0 (fun r T => Q r T ∧ KH S0 T) v0 v1 v2 S := by
  delta P_X10_minutes_0 at h ⊢
  obtain ⟨c1, h⟩ := h
  refine ⟨c1, ?_⟩
  obtain ⟨b2, e3, h⟩ := h
  refine ⟨b2, e3, ?_⟩
  obtain ⟨c4, h⟩ := h
  refine ⟨c4, ?_⟩
  obtain ⟨c5, h⟩ := h
  refine ⟨c5, ?_⟩
  intro x7 e6
  have h := h x7 e6
  obtain ⟨c8, h⟩ := h
  refine ⟨c8, ?_⟩
  intro x10 e9
  have h := h x10 e9
  exact ⟨h, K⟩
theorem kh_X10_minutes {Q : Int32 → HS → Prop} {v0 : Nat} {v1 : Int32} {v2 : Int32} {S : HS} (h : P_X10_minutes v0 v1 v2 Q S) : P_X10_minutes v0 v1 v2 (fun r T => Q r T ∧ KH S T) S := kh_X10_minutes_0 h (kh_rf S)
set_option maxRecDepth 20000 in
set_option maxHeartbeats 1000000 in
theorem kh_X10_shield_0 {Q : Int32 → HS → Prop} {v0 : Nat} {v1 : Int32} {S0 S : HS} (h : P_X10_shield_0 Q v0 v1 S) (K : KH S0 S) : P_X10_shield_0 (fun r T => Q r T ∧ KH S0 T) v0 v1 S := by
  delta P_X10_shield_0 at h ⊢
  obtain ⟨c1, h⟩ := h
  refine ⟨c1, ?_⟩
  obtain ⟨b2, e3, h⟩ := h
  refine ⟨b2, e3, ?_⟩
  obtain ⟨c4, h⟩ := h
  refine ⟨c4, ?_⟩
  obtain ⟨c5, h⟩ := h
  refine ⟨c5, ?_⟩
  intro x7 e6
  have h := h x7 e6
  refine ⟨?_, ?_⟩
  · intro c8
    have h := h.1 c8
    exact ⟨h, K⟩
  · intro c9
    have h := h.2 c9
    obtain ⟨b10, e11, h⟩ := h
    refine ⟨b10, e11, ?_⟩
    obtain ⟨c12, h⟩ := h
    refine ⟨c12, ?_⟩
    obtain ⟨c13, h⟩ := h
    refine ⟨c13, ?_⟩
    intro x15 e14
    have h := h x15 e14
    exact ⟨h, K⟩
theorem kh_X10_shield {Q : Int32 → HS → Prop} {v0 : Nat} {v1 : Int32} {S : HS} (h : P_X10_shield v0 v1 Q S) : P_X10_shield v0 v1 (fun r T => Q r T ∧ KH S T) S := kh_X10_shield_0 h (kh_rf S)
set_option maxRecDepth 20000 in
set_option maxHeartbeats 1000000 in
theorem kh_X11_good_0 {Q : Int32 → HS → Prop} {v0 : Nat} {v1 : Int32} {S0 S : HS} (h : P_X11_good_0 Q v0 v1 S) (K : KH S0 S) : P_X11_good_0 (fun r T => Q r T ∧ KH S0 T) v0 v1 S := by
  delta P_X11_good_0 at h ⊢
  obtain ⟨c1, h⟩ := h
  refine ⟨c1, ?_⟩
  intro x3 e2
  have h := h x3 e2
  have K := kh_I K e2
  intro x5 e4
  have h := h x5 e4
  have K := kh_I K e4
  exact ⟨h, K⟩
theorem kh_X11_good {Q : Int32 → HS → Prop} {v0 : Nat} {v1 : Int32} {S : HS} (h : P_X11_good v0 v1 Q S) : P_X11_good v0 v1 (fun r T => Q r T ∧ KH S T) S := kh_X11_good_0 h (kh_rf S)
set_option maxRecDepth 20000 in
set_option maxHeartbeats 1000000 in
theorem kh_X11_in_0 {Q : Int32 → HS → Prop} {v0 : Int32} {v1 : Int32} {v2 : Int32} {S0 S : HS} (h : P_X11_in_0 Q v0 v1 v2 S) (K : KH S0 S) : P_X11_in_0 (fun r T => Q r T ∧ KH S0 T) v0 v1 v2 S := by
  delta P_X11_in_0 at h ⊢
  refine ⟨?_, ?_⟩
  · intro c1
    have h := h.1 c1
    exact ⟨h, K⟩
  · intro c2
    have h := h.2 c2
    refine ⟨?_, ?_⟩
    · intro c3
      have h := h.1 c3
      exact ⟨h, K⟩
    · intro c4
      have h := h.2 c4
      exact ⟨h, K⟩
theorem kh_X11_in {Q : Int32 → HS → Prop} {v0 : Int32} {v1 : Int32} {v2 : Int32} {S : HS} (h : P_X11_in v0 v1 v2 Q S) : P_X11_in v0 v1 v2 (fun r T => Q r T ∧ KH S T) S := kh_X11_in_0 h (kh_rf S)
set_option maxRecDepth 20000 in
set_option maxHeartbeats 1000000 in
theorem kh_X11_isHour_0 {Q : Int32 → HS → Prop} {v0 : Nat} {v1 : Int32} {S0 S : HS} (h : P_X11_isHour_0 Q v0 v1 S) (K : KH S0 S) : P_X11_isHour_0 (fun r T => Q r T ∧ KH S0 T) v0 v1 S := by
  delta P_X11_isHour_0 at h ⊢
  obtain ⟨c1, h⟩ := h
  refine ⟨c1, ?_⟩
  refine ⟨?_, ?_⟩
  · intro c2
    have h := h.1 c2
    exact ⟨h, K⟩
  · intro x3 c4
    have h := h.2 x3 c4
    refine ⟨?_, ?_⟩
    · intro c5
      have h := h.1 c5
      exact ⟨h, K⟩
    · intro c6
      have h := h.2 c6
      obtain ⟨b7, e8, h⟩ := h
      refine ⟨b7, e8, ?_⟩
      obtain ⟨c9, h⟩ := h
      refine ⟨c9, ?_⟩
      intro x11 e10
      have h := h x11 e10
      refine ⟨?_, ?_⟩
      · intro c12
        have h := h.1 c12
        exact ⟨h, K⟩
      · intro c13
        have h := h.2 c13
        exact ⟨h, K⟩
theorem kh_X11_isHour {Q : Int32 → HS → Prop} {v0 : Nat} {v1 : Int32} {S : HS} (h : P_X11_isHour v0 v1 Q S) : P_X11_isHour v0 v1 (fun r T => Q r T ∧ KH S T) S := kh_X11_isHour_0 h (kh_rf S)
set_option maxRecDepth 20000 in
set_option maxHeartbeats 1000000 in
theorem kh_X11_isRoad_0 {Q : Int32 → HS → Prop} {v0 : Nat} {v1 : Int32} {S0 S : HS} (h : P_X11_isRoad_0 Q v0 v1 S) (K : KH S0 S) : P_X11_isRoad_0 (fun r T => Q r T ∧ KH S0 T) v0 v1 S := by
  delta P_X11_isRoad_0 at h ⊢
  obtain ⟨c1, h⟩ := h
  refine ⟨c1, ?_⟩
  refine ⟨?_, ?_⟩
  · intro c2
    have h := h.1 c2
    exact ⟨h, K⟩
  · intro x3 c4
    have h := h.2 x3 c4
    refine ⟨?_, ?_⟩
    · intro c5
      have h := h.1 c5
      exact ⟨h, K⟩
    · intro c6
      have h := h.2 c6
      obtain ⟨b7, e8, h⟩ := h
      refine ⟨b7, e8, ?_⟩
      obtain ⟨c9, h⟩ := h
      refine ⟨c9, ?_⟩
      intro x11 e10
      have h := h x11 e10
      refine ⟨?_, ?_⟩
      · intro c12
        have h := h.1 c12
        exact ⟨h, K⟩
      · intro c13
        have h := h.2 c13
        exact ⟨h, K⟩
theorem kh_X11_isRoad {Q : Int32 → HS → Prop} {v0 : Nat} {v1 : Int32} {S : HS} (h : P_X11_isRoad v0 v1 Q S) : P_X11_isRoad v0 v1 (fun r T => Q r T ∧ KH S T) S := kh_X11_isRoad_0 h (kh_rf S)
set_option maxRecDepth 20000 in
set_option maxHeartbeats 1000000 in
theorem kh_X11_refused_0 {Q : Int32 → HS → Prop} {v0 : Nat} {v1 : Int32} {S0 S : HS} (h : P_X11_refused_0 Q v0 v1 S) (K : KH S0 S) : P_X11_refused_0 (fun r T => Q r T ∧ KH S0 T) v0 v1 S := by
  delta P_X11_refused_0 at h ⊢
  obtain ⟨c1, h⟩ := h
  refine ⟨c1, ?_⟩
  intro x3 e2
  have h := h x3 e2
  have K := kh_I K e2
  intro x5 e4
  have h := h x5 e4
  have K := kh_I K e4
  exact ⟨h, K⟩
theorem kh_X11_refused {Q : Int32 → HS → Prop} {v0 : Nat} {v1 : Int32} {S : HS} (h : P_X11_refused v0 v1 Q S) : P_X11_refused v0 v1 (fun r T => Q r T ∧ KH S T) S := kh_X11_refused_0 h (kh_rf S)
set_option maxRecDepth 20000 in
set_option maxHeartbeats 1000000 in
theorem kh_X11_lost_0 {Q : Int32 → HS → Prop} {v0 : Nat} {v1 : Int32} {S0 S : HS} (h : P_X11_lost_0 Q v0 v1 S) (K : KH S0 S) : P_X11_lost_0 (fun r T => Q r T ∧ KH S0 T) v0 v1 S := by
  delta P_X11_lost_0 at h ⊢
  obtain ⟨c1, h⟩ := h
  refine ⟨c1, ?_⟩
  refine cm_X11_refused (kh_X11_refused h) h (fun x2 x3 hp h g4 => ?_)
  have h := h g4
  have K := kh_tr K hp.2
  exact ⟨h, K⟩
theorem kh_X11_lost {Q : Int32 → HS → Prop} {v0 : Nat} {v1 : Int32} {S : HS} (h : P_X11_lost v0 v1 Q S) : P_X11_lost v0 v1 (fun r T => Q r T ∧ KH S T) S := kh_X11_lost_0 h (kh_rf S)
set_option maxRecDepth 20000 in
set_option maxHeartbeats 1000000 in
theorem kh_X11_air_30 {Q : Int32 → HS → Prop} {v0 : Nat} {S0 S : HS} (h : P_X11_air_30 Q v0 S) (K : KH S0 S) : P_X11_air_30 (fun r T => Q r T ∧ KH S0 T) v0 S := by
  delta P_X11_air_30 at h ⊢
  obtain ⟨c1, h⟩ := h
  refine ⟨c1, ?_⟩
  refine cm_X11_lost (kh_X11_lost h) h (fun x2 x3 hp h g4 => ?_)
  have h := h g4
  have K := kh_tr K hp.2
  exact ⟨h, K⟩
set_option maxRecDepth 20000 in
set_option maxHeartbeats 1000000 in
theorem kh_X11_air_0 {Q : Int32 → HS → Prop} {v0 : Nat} {v1 : Int32} {v2 : Int32} {v3 : Int32} {S0 S : HS} (h : P_X11_air_0 Q v0 v1 v2 v3 S) (K : KH S0 S) : P_X11_air_0 (fun r T => Q r T ∧ KH S0 T) v0 v1 v2 v3 S := by
  delta P_X11_air_0 at h ⊢
  obtain ⟨c1, h⟩ := h
  refine ⟨c1, ?_⟩
  intro x3 e2
  have h := h x3 e2
  have K := kh_I K e2
  refine cm_X11_isRoad (kh_X11_isRoad h) h (fun x4 x5 hp h g6 g7 => ?_)
  have h := h g6 g7
  have K := kh_tr K hp.2
  refine ⟨?_, ?_⟩
  · intro c8
    have h := h.1 c8
    exact kh_X11_air_30 h K
  · intro c9
    have h := h.2 c9
    refine cm_X11_in (kh_X11_in h) h (fun x10 x11 hp h g12 g13 => ?_)
    have h := h g12 g13
    have K := kh_tr K hp.2
    refine ⟨?_, ?_⟩
    · intro c14
      have h := h.1 c14
      exact kh_X11_air_30 h K
    · intro c15
      have h := h.2 c15
      refine cm_X11_isHour (kh_X11_isHour h) h (fun x16 x17 hp h g18 g19 => ?_)
      have h := h g18 g19
      have K := kh_tr K hp.2
      refine ⟨?_, ?_⟩
      · intro c20
        have h := h.1 c20
        obtain ⟨b21, e22, h⟩ := h
        refine ⟨b21, e22, ?_⟩
        obtain ⟨c23, h⟩ := h
        refine ⟨c23, ?_⟩
        refine cm_X10_air (kh_X10_air h) h (fun x24 x25 hp h g26 => ?_)
        have h := h g26
        have K := kh_tr K hp.2
        refine cm_X11_good (kh_X11_good h) h (fun x27 x28 hp h g29 => ?_)
        have h := h g29
        have K := kh_tr K hp.2
        exact ⟨h, K⟩
      · intro c30
        have h := h.2 c30
        exact kh_X11_air_30 h K
theorem kh_X11_air {Q : Int32 → HS → Prop} {v0 : Nat} {v1 : Int32} {v2 : Int32} {v3 : Int32} {S : HS} (h : P_X11_air v0 v1 v2 v3 Q S) : P_X11_air v0 v1 v2 v3 (fun r T => Q r T ∧ KH S T) S := kh_X11_air_0 h (kh_rf S)
set_option maxRecDepth 20000 in
set_option maxHeartbeats 1000000 in
theorem kh_X11_denied_0 {Q : Int32 → HS → Prop} {v0 : Nat} {v1 : Int32} {S0 S : HS} (h : P_X11_denied_0 Q v0 v1 S) (K : KH S0 S) : P_X11_denied_0 (fun r T => Q r T ∧ KH S0 T) v0 v1 S := by
  delta P_X11_denied_0 at h ⊢
  obtain ⟨c1, h⟩ := h
  refine ⟨c1, ?_⟩
  refine cm_X11_refused (kh_X11_refused h) h (fun x2 x3 hp h g4 => ?_)
  have h := h g4
  have K := kh_tr K hp.2
  exact ⟨h, K⟩
theorem kh_X11_denied {Q : Int32 → HS → Prop} {v0 : Nat} {v1 : Int32} {S : HS} (h : P_X11_denied v0 v1 Q S) : P_X11_denied v0 v1 (fun r T => Q r T ∧ KH S T) S := kh_X11_denied_0 h (kh_rf S)
set_option maxRecDepth 20000 in
set_option maxHeartbeats 1000000 in
theorem kh_X11_granted_0 {Q : Int32 → HS → Prop} {v0 : Nat} {S0 S : HS} (h : P_X11_granted_0 Q v0 S) (K : KH S0 S) : P_X11_granted_0 (fun r T => Q r T ∧ KH S0 T) v0 S := by
  delta P_X11_granted_0 at h ⊢
  obtain ⟨c1, h⟩ := h
  refine ⟨c1, ?_⟩
  refine cm_X11_good (kh_X11_good h) h (fun x2 x3 hp h g4 => ?_)
  have h := h g4
  have K := kh_tr K hp.2
  exact ⟨h, K⟩
theorem kh_X11_granted {Q : Int32 → HS → Prop} {v0 : Nat} {S : HS} (h : P_X11_granted v0 Q S) : P_X11_granted v0 (fun r T => Q r T ∧ KH S T) S := kh_X11_granted_0 h (kh_rf S)
set_option maxRecDepth 20000 in
set_option maxHeartbeats 1000000 in
theorem kh_X11_isDay_0 {Q : Int32 → HS → Prop} {v0 : Nat} {S0 S : HS} (h : P_X11_isDay_0 Q v0 S) (K : KH S0 S) : P_X11_isDay_0 (fun r T => Q r T ∧ KH S0 T) v0 S := by
  delta P_X11_isDay_0 at h ⊢
  obtain ⟨c1, h⟩ := h
  refine ⟨c1, ?_⟩
  refine ⟨?_, ?_⟩
  · intro c2
    have h := h.1 c2
    exact ⟨h, K⟩
  · intro x3 c4
    have h := h.2 x3 c4
    intro x6 e5
    have h := h x6 e5
    refine ⟨?_, ?_⟩
    · intro c7
      have h := h.1 c7
      exact ⟨h, K⟩
    · intro c8
      have h := h.2 c8
      exact ⟨h, K⟩
theorem kh_X11_isDay {Q : Int32 → HS → Prop} {v0 : Nat} {S : HS} (h : P_X11_isDay v0 Q S) : P_X11_isDay v0 (fun r T => Q r T ∧ KH S T) S := kh_X11_isDay_0 h (kh_rf S)
set_option maxRecDepth 20000 in
set_option maxHeartbeats 1000000 in
theorem kh_X11_back_24 {Q : Int32 → HS → Prop} {v0 : Nat} {S0 S : HS} (h : P_X11_back_24 Q v0 S) (K : KH S0 S) : P_X11_back_24 (fun r T => Q r T ∧ KH S0 T) v0 S := by
  delta P_X11_back_24 at h ⊢
  obtain ⟨c1, h⟩ := h
  refine ⟨c1, ?_⟩
  refine cm_X11_denied (kh_X11_denied h) h (fun x2 x3 hp h g4 g5 => ?_)
  have h := h g4 g5
  have K := kh_tr K hp.2
  obtain ⟨c6, h⟩ := h
  refine ⟨c6, ?_⟩
  exact ⟨h, K⟩
set_option maxRecDepth 20000 in
set_option maxHeartbeats 1000000 in
theorem khB_X11_back_32 {Q : Int32 → HS → Prop} {X32 X32_2 : Nat → Int32 → Int32 → HS → Prop} {v0 : Nat} {v1 : Int32} {v2 : Int32} {S0 S : HS} (h : B_X11_back_32 Q X32 v0 v1 v2 S) (K : KH S0 S) (hX32 : ∀ (u0 : Nat) (u1 : Int32) (u2 : Int32) (u3 : HS), X32 u0 u1 u2 u3 → KH S0 u3 → X32_2 u0 u1 u2 u3) : B_X11_back_32 (fun r T => Q r T ∧ KH S0 T) X32_2 v0 v1 v2 S := by
  delta B_X11_back_32 at h ⊢
  refine ⟨?_, ?_⟩
  · intro c1
    have h := h.1 c1
    obtain ⟨c2, h⟩ := h
    refine ⟨c2, ?_⟩
    intro x4 e3
    have h := h x4 e3
    have K := kh_I K e3
    refine cm_X11_granted (kh_X11_granted h) h (fun x5 x6 hp h g7 g8 => ?_)
    have h := h g7 g8
    have K := kh_tr K hp.2
    obtain ⟨c9, h⟩ := h
    refine ⟨c9, ?_⟩
    exact ⟨h, K⟩
  · intro c10
    have h := h.2 c10
    obtain ⟨c11, h⟩ := h
    refine ⟨c11, ?_⟩
    obtain ⟨b12, e13, h⟩ := h
    refine ⟨b12, e13, ?_⟩
    obtain ⟨b14, e15, h⟩ := h
    refine ⟨b14, e15, ?_⟩
    obtain ⟨c16, h⟩ := h
    refine ⟨c16, ?_⟩
    intro x18 e17
    have h := h x18 e17
    obtain ⟨c19, h⟩ := h
    refine ⟨c19, ?_⟩
    intro x21 e20
    have h := h x21 e20
    obtain ⟨c22, h⟩ := h
    refine ⟨c22, ?_⟩
    obtain ⟨c23, h⟩ := h
    refine ⟨c23, ?_⟩
    intro x25 e24
    have h := h x25 e24
    have K := kh_J K e24
    intro x27 e26
    have h := h x27 e26
    exact hX32 _ _ _ _ h K
theorem kh_X11_back_32 {Q : Int32 → HS → Prop} {v0 : Nat} {v1 : Int32} {v2 : Int32} {S0 S : HS} (h : P_X11_back_32 Q v0 v1 v2 S) (K : KH S0 S) : P_X11_back_32 (fun r T => Q r T ∧ KH S0 T) v0 v1 v2 S := h (fun v0 v1 v2 S => KH S0 S → P_X11_back_32 (fun r T => Q r T ∧ KH S0 T) v0 v1 v2 S) (fun v0 v1 v2 S hB K => fd_X11_back_32 (khB_X11_back_32 hB K (fun _ _ _ _ hx K => hx K))) K
set_option maxRecDepth 20000 in
set_option maxHeartbeats 1000000 in
theorem kh_X11_back_0 {Q : Int32 → HS → Prop} {v0 : Nat} {v1 : Int32} {S0 S : HS} (h : P_X11_back_0 Q v0 v1 S) (K : KH S0 S) : P_X11_back_0 (fun r T => Q r T ∧ KH S0 T) v0 v1 S := by
  delta P_X11_back_0 at h ⊢
  obtain ⟨c1, h⟩ := h
  refine ⟨c1, ?_⟩
  intro x3 e2
  have h := h x3 e2
  have K := kh_I K e2
  refine cm_X11_isDay (kh_X11_isDay h) h (fun x4 x5 hp h g6 g7 => ?_)
  have h := h g6 g7
  have K := kh_tr K hp.2
  refine ⟨?_, ?_⟩
  · intro c8
    have h := h.1 c8
    exact kh_X11_back_24 h K
  · intro c9
    have h := h.2 c9
    refine ⟨?_, ?_⟩
    · intro c10
      have h := h.1 c10
      exact kh_X11_back_24 h K
    · intro c11
      have h := h.2 c11
      intro x13 e12
      have h := h x13 e12
      refine ⟨?_, ?_⟩
      · intro c14
        have h := h.1 c14
        exact kh_X11_back_32 h K
      · intro c15
        have h := h.2 c15
        exact kh_X11_back_24 h K
theorem kh_X11_back {Q : Int32 → HS → Prop} {v0 : Nat} {v1 : Int32} {S : HS} (h : P_X11_back v0 v1 Q S) : P_X11_back v0 v1 (fun r T => Q r T ∧ KH S T) S := kh_X11_back_0 h (kh_rf S)
set_option maxRecDepth 20000 in
set_option maxHeartbeats 1000000 in
theorem kh_X11_flaw_0 {Q : HS → Prop} {v0 : Nat} {v1 : Int32} {S0 S : HS} (h : P_X11_flaw_0 Q v0 v1 S) (K : KH S0 S) : P_X11_flaw_0 (fun T => Q T ∧ KH S0 T) v0 v1 S := by
  delta P_X11_flaw_0 at h ⊢
  obtain ⟨c1, h⟩ := h
  refine ⟨c1, ?_⟩
  intro x3 e2
  have h := h x3 e2
  refine ⟨?_, ?_⟩
  · intro c4
    have h := h.1 c4
    intro x6 e5
    have h := h x6 e5
    have K := kh_I K e5
    intro x8 e7
    have h := h x8 e7
    intro x10 e9
    have h := h x10 e9
    have K := kh_I K e9
    intro x12 e11
    have h := h x12 e11
    have K := kh_I K e11
    exact ⟨h, K⟩
  · intro c13
    have h := h.2 c13
    exact ⟨h, K⟩
theorem kh_X11_flaw {Q : HS → Prop} {v0 : Nat} {v1 : Int32} {S : HS} (h : P_X11_flaw v0 v1 Q S) : P_X11_flaw v0 v1 (fun T => Q T ∧ KH S T) S := kh_X11_flaw_0 h (kh_rf S)
set_option maxRecDepth 20000 in
set_option maxHeartbeats 1000000 in
theorem kh_X11_byteAt_0 {Q : Int32 → HS → Prop} {v0 : Nat} {v1 : Int32} {S0 S : HS} (h : P_X11_byteAt_0 Q v0 v1 S) (K : KH S0 S) : P_X11_byteAt_0 (fun r T => Q r T ∧ KH S0 T) v0 v1 S := by
  delta P_X11_byteAt_0 at h ⊢
  obtain ⟨c1, h⟩ := h
  refine ⟨c1, ?_⟩
  intro x3 e2
  have h := h x3 e2
  refine ⟨?_, ?_⟩
  · intro c4
    have h := h.1 c4
    exact ⟨h, K⟩
  · intro c5
    have h := h.2 c5
    obtain ⟨b6, e7, h⟩ := h
    refine ⟨b6, e7, ?_⟩
    obtain ⟨c8, h⟩ := h
    refine ⟨c8, ?_⟩
    obtain ⟨c9, h⟩ := h
    refine ⟨c9, ?_⟩
    intro x11 e10
    have h := h x11 e10
    exact ⟨h, K⟩
theorem kh_X11_byteAt {Q : Int32 → HS → Prop} {v0 : Nat} {v1 : Int32} {S : HS} (h : P_X11_byteAt v0 v1 Q S) : P_X11_byteAt v0 v1 (fun r T => Q r T ∧ KH S T) S := kh_X11_byteAt_0 h (kh_rf S)
set_option maxRecDepth 20000 in
set_option maxHeartbeats 1000000 in
theorem kh_X11_isDigit_0 {Q : Int32 → HS → Prop} {v0 : Int32} {S0 S : HS} (h : P_X11_isDigit_0 Q v0 S) (K : KH S0 S) : P_X11_isDigit_0 (fun r T => Q r T ∧ KH S0 T) v0 S := by
  delta P_X11_isDigit_0 at h ⊢
  refine ⟨?_, ?_⟩
  · intro c1
    have h := h.1 c1
    exact ⟨h, K⟩
  · intro c2
    have h := h.2 c2
    refine ⟨?_, ?_⟩
    · intro c3
      have h := h.1 c3
      exact ⟨h, K⟩
    · intro c4
      have h := h.2 c4
      exact ⟨h, K⟩
theorem kh_X11_isDigit {Q : Int32 → HS → Prop} {v0 : Int32} {S : HS} (h : P_X11_isDigit v0 Q S) : P_X11_isDigit v0 (fun r T => Q r T ∧ KH S T) S := kh_X11_isDigit_0 h (kh_rf S)
set_option maxRecDepth 20000 in
set_option maxHeartbeats 1000000 in
theorem kh_X11_isLetter_0 {Q : Int32 → HS → Prop} {v0 : Int32} {S0 S : HS} (h : P_X11_isLetter_0 Q v0 S) (K : KH S0 S) : P_X11_isLetter_0 (fun r T => Q r T ∧ KH S0 T) v0 S := by
  delta P_X11_isLetter_0 at h ⊢
  refine ⟨?_, ?_⟩
  · intro c1
    have h := h.1 c1
    exact ⟨h, K⟩
  · intro c2
    have h := h.2 c2
    refine ⟨?_, ?_⟩
    · intro c3
      have h := h.1 c3
      exact ⟨h, K⟩
    · intro c4
      have h := h.2 c4
      exact ⟨h, K⟩
theorem kh_X11_isLetter {Q : Int32 → HS → Prop} {v0 : Int32} {S : HS} (h : P_X11_isLetter v0 Q S) : P_X11_isLetter v0 (fun r T => Q r T ∧ KH S T) S := kh_X11_isLetter_0 h (kh_rf S)
set_option maxRecDepth 20000 in
set_option maxHeartbeats 1000000 in
theorem kh_X11_goesOn_136 {Q : HS → Prop} {X89 X89_2 : Nat → Int32 → HS → Prop} {v0 : Nat} {v2 : Int32} {S0 S : HS} (h : P_X11_goesOn_136 Q X89 v0 v2 S) (K : KH S0 S) (hX89 : ∀ (u0 : Nat) (u1 : Int32) (u2 : HS), X89 u0 u1 u2 → KH S0 u2 → X89_2 u0 u1 u2) : P_X11_goesOn_136 (fun T => Q T ∧ KH S0 T) X89_2 v0 v2 S := by
  delta P_X11_goesOn_136 at h ⊢
  intro x2 e1
  have h := h x2 e1
  obtain ⟨c3, h⟩ := h
  refine ⟨c3, ?_⟩
  intro x5 e4
  have h := h x5 e4
  intro x7 e6
  have h := h x7 e6
  intro x9 e8
  have h := h x9 e8
  have K := kh_I K e8
  exact hX89 _ _ _ h K
set_option maxRecDepth 20000 in
set_option maxHeartbeats 1000000 in
theorem khB_X11_goesOn_89 {Q : HS → Prop} {X89 X89_2 : Nat → Int32 → HS → Prop} {v0 : Nat} {v2 : Int32} {S0 S : HS} (h : B_X11_goesOn_89 Q X89 v0 v2 S) (K : KH S0 S) (hX89 : ∀ (u0 : Nat) (u1 : Int32) (u2 : HS), X89 u0 u1 u2 → KH S0 u2 → X89_2 u0 u1 u2) : B_X11_goesOn_89 (fun T => Q T ∧ KH S0 T) X89_2 v0 v2 S := by
  delta B_X11_goesOn_89 at h ⊢
  obtain ⟨c1, h⟩ := h
  refine ⟨c1, ?_⟩
  intro x3 e2
  have h := h x3 e2
  refine cm_X11_byteAt (kh_X11_byteAt h) h (fun x4 x5 hp h g6 => ?_)
  have h := h g6
  have K := kh_tr K hp.2
  refine cm_X11_isLetter (kh_X11_isLetter h) h (fun x7 x8 hp h g9 g10 => ?_)
  have h := h g9 g10
  have K := kh_tr K hp.2
  refine ⟨?_, ?_⟩
  · intro c11
    have h := h.1 c11
    refine ⟨?_, ?_⟩
    · intro c12
      have h := h.1 c12
      exact ⟨h, K⟩
    · intro c13
      have h := h.2 c13
      intro x15 e14
      have h := h x15 e14
      have K := kh_I K e14
      exact ⟨h, K⟩
  · intro c16
    have h := h.2 c16
    refine ⟨?_, ?_⟩
    · intro c17
      have h := h.1 c17
      exact kh_X11_goesOn_136 h K hX89
    · intro c18
      have h := h.2 c18
      intro x20 e19
      have h := h x20 e19
      intro x22 e21
      have h := h x22 e21
      refine cm_X11_byteAt (kh_X11_byteAt h) h (fun x23 x24 hp h g25 => ?_)
      have h := h g25
      have K := kh_tr K hp.2
      intro x27 e26
      have h := h x27 e26
      intro x29 e28
      have h := h x29 e28
      have K := kh_J K e28
      exact kh_X11_goesOn_136 h K hX89
theorem kh_X11_goesOn_89 {Q : HS → Prop} {v0 : Nat} {v2 : Int32} {S0 S : HS} (h : P_X11_goesOn_89 Q v0 v2 S) (K : KH S0 S) : P_X11_goesOn_89 (fun T => Q T ∧ KH S0 T) v0 v2 S := h (fun v0 v2 S => KH S0 S → P_X11_goesOn_89 (fun T => Q T ∧ KH S0 T) v0 v2 S) (fun v0 v2 S hB K => fd_X11_goesOn_89 (khB_X11_goesOn_89 hB K (fun _ _ _ hx K => hx K))) K
set_option maxRecDepth 20000 in
set_option maxHeartbeats 1000000 in
theorem kh_X11_goesOn_220 {Q : HS → Prop} {X178 X178_2 : Nat → Int32 → HS → Prop} {v0 : Nat} {v2 : Int32} {S0 S : HS} (h : P_X11_goesOn_220 Q X178 v0 v2 S) (K : KH S0 S) (hX178 : ∀ (u0 : Nat) (u1 : Int32) (u2 : HS), X178 u0 u1 u2 → KH S0 u2 → X178_2 u0 u1 u2) : P_X11_goesOn_220 (fun T => Q T ∧ KH S0 T) X178_2 v0 v2 S := by
  delta P_X11_goesOn_220 at h ⊢
  intro x2 e1
  have h := h x2 e1
  obtain ⟨c3, h⟩ := h
  refine ⟨c3, ?_⟩
  intro x5 e4
  have h := h x5 e4
  intro x7 e6
  have h := h x7 e6
  intro x9 e8
  have h := h x9 e8
  have K := kh_I K e8
  exact hX178 _ _ _ h K
set_option maxRecDepth 20000 in
set_option maxHeartbeats 1000000 in
theorem khB_X11_goesOn_178 {Q : HS → Prop} {X178 X178_2 : Nat → Int32 → HS → Prop} {v0 : Nat} {v2 : Int32} {S0 S : HS} (h : B_X11_goesOn_178 Q X178 v0 v2 S) (K : KH S0 S) (hX178 : ∀ (u0 : Nat) (u1 : Int32) (u2 : HS), X178 u0 u1 u2 → KH S0 u2 → X178_2 u0 u1 u2) : B_X11_goesOn_178 (fun T => Q T ∧ KH S0 T) X178_2 v0 v2 S := by
  delta B_X11_goesOn_178 at h ⊢
  obtain ⟨c1, h⟩ := h
  refine ⟨c1, ?_⟩
  intro x3 e2
  have h := h x3 e2
  refine cm_X11_byteAt (kh_X11_byteAt h) h (fun x4 x5 hp h g6 => ?_)
  have h := h g6
  have K := kh_tr K hp.2
  refine cm_X11_isDigit (kh_X11_isDigit h) h (fun x7 x8 hp h g9 g10 => ?_)
  have h := h g9 g10
  have K := kh_tr K hp.2
  refine ⟨?_, ?_⟩
  · intro c11
    have h := h.1 c11
    refine ⟨?_, ?_⟩
    · intro c12
      have h := h.1 c12
      exact ⟨h, K⟩
    · intro c13
      have h := h.2 c13
      intro x15 e14
      have h := h x15 e14
      have K := kh_I K e14
      exact ⟨h, K⟩
  · intro c16
    have h := h.2 c16
    refine ⟨?_, ?_⟩
    · intro c17
      have h := h.1 c17
      exact kh_X11_goesOn_220 h K hX178
    · intro c18
      have h := h.2 c18
      intro x20 e19
      have h := h x20 e19
      intro x22 e21
      have h := h x22 e21
      refine cm_X11_byteAt (kh_X11_byteAt h) h (fun x23 x24 hp h g25 => ?_)
      have h := h g25
      have K := kh_tr K hp.2
      intro x27 e26
      have h := h x27 e26
      intro x29 e28
      have h := h x29 e28
      have K := kh_I K e28
      exact kh_X11_goesOn_220 h K hX178
theorem kh_X11_goesOn_178 {Q : HS → Prop} {v0 : Nat} {v2 : Int32} {S0 S : HS} (h : P_X11_goesOn_178 Q v0 v2 S) (K : KH S0 S) : P_X11_goesOn_178 (fun T => Q T ∧ KH S0 T) v0 v2 S := h (fun v0 v2 S => KH S0 S → P_X11_goesOn_178 (fun T => Q T ∧ KH S0 T) v0 v2 S) (fun v0 v2 S hB K => fd_X11_goesOn_178 (khB_X11_goesOn_178 hB K (fun _ _ _ hx K => hx K))) K
set_option maxRecDepth 20000 in
set_option maxHeartbeats 1000000 in
theorem kh_X11_goesOn_261 {Q : HS → Prop} {v0 : Nat} {v1 : Int32} {S0 S : HS} (h : P_X11_goesOn_261 Q v0 v1 S) (K : KH S0 S) : P_X11_goesOn_261 (fun T => Q T ∧ KH S0 T) v0 v1 S := by
  delta P_X11_goesOn_261 at h ⊢
  obtain ⟨c1, h⟩ := h
  refine ⟨c1, ?_⟩
  intro x3 e2
  have h := h x3 e2
  have K := kh_I K e2
  intro x5 e4
  have h := h x5 e4
  have K := kh_I K e4
  intro x7 e6
  have h := h x7 e6
  intro x9 e8
  have h := h x9 e8
  intro x11 e10
  have h := h x11 e10
  have K := kh_I K e10
  exact ⟨h, K⟩
set_option maxRecDepth 20000 in
set_option maxHeartbeats 1000000 in
theorem khB_X11_goesOn_9 {Q : HS → Prop} {X9 X9_2 : Nat → HS → Prop} {v0 : Nat} {S0 S : HS} (h : B_X11_goesOn_9 Q X9 v0 S) (K : KH S0 S) (hX9 : ∀ (u0 : Nat) (u1 : HS), X9 u0 u1 → KH S0 u1 → X9_2 u0 u1) : B_X11_goesOn_9 (fun T => Q T ∧ KH S0 T) X9_2 v0 S := by
  delta B_X11_goesOn_9 at h ⊢
  obtain ⟨c1, h⟩ := h
  refine ⟨c1, ?_⟩
  intro x3 e2
  have h := h x3 e2
  refine cm_X11_byteAt (kh_X11_byteAt h) h (fun x4 x5 hp h g6 => ?_)
  have h := h g6
  have K := kh_tr K hp.2
  refine ⟨?_, ?_⟩
  · intro c7
    have h := h.1 c7
    intro x9 e8
    have h := h x9 e8
    intro x11 e10
    have h := h x11 e10
    have K := kh_I K e10
    intro x13 e12
    have h := h x13 e12
    have K := kh_I K e12
    intro x15 e14
    have h := h x15 e14
    have K := kh_I K e14
    intro x17 e16
    have h := h x17 e16
    refine cm_X11_byteAt (kh_X11_byteAt h) h (fun x18 x19 hp h g20 => ?_)
    have h := h g20
    have K := kh_tr K hp.2
    refine ⟨?_, ?_⟩
    · intro c21
      have h := h.1 c21
      refine cm_X11_isLetter (kh_X11_isLetter h) h (fun x22 x23 hp h g24 g25 => ?_)
      have h := h g24 g25
      have K := kh_tr K hp.2
      refine ⟨?_, ?_⟩
      · intro c26
        have h := h.1 c26
        refine cm_X11_isDigit (kh_X11_isDigit h) h (fun x27 x28 hp h g29 g30 => ?_)
        have h := h g29 g30
        have K := kh_tr K hp.2
        refine ⟨?_, ?_⟩
        · intro c31
          have h := h.1 c31
          refine ⟨?_, ?_⟩
          · intro c32
            have h := h.1 c32
            exact kh_X11_goesOn_261 h K
          · intro c33
            have h := h.2 c33
            refine ⟨?_, ?_⟩
            · intro c34
              have h := h.1 c34
              exact ⟨h, K⟩
            · intro c35
              have h := h.2 c35
              exact kh_X11_goesOn_261 h K
        · intro c36
          have h := h.2 c36
          intro x38 e37
          have h := h x38 e37
          have K := kh_I K e37
          exact kh_X11_goesOn_178 h K
      · intro c39
        have h := h.2 c39
        intro x41 e40
        have h := h x41 e40
        have K := kh_J K e40
        exact kh_X11_goesOn_89 h K
    · intro c42
      have h := h.2 c42
      intro x44 e43
      have h := h x44 e43
      have K := kh_I K e43
      exact ⟨h, K⟩
  · intro c45
    have h := h.2 c45
    intro x47 e46
    have h := h x47 e46
    intro x49 e48
    have h := h x49 e48
    intro x51 e50
    have h := h x51 e50
    have K := kh_I K e50
    exact hX9 _ _ h K
theorem kh_X11_goesOn_9 {Q : HS → Prop} {v0 : Nat} {S0 S : HS} (h : P_X11_goesOn_9 Q v0 S) (K : KH S0 S) : P_X11_goesOn_9 (fun T => Q T ∧ KH S0 T) v0 S := h (fun v0 S => KH S0 S → P_X11_goesOn_9 (fun T => Q T ∧ KH S0 T) v0 S) (fun v0 S hB K => fd_X11_goesOn_9 (khB_X11_goesOn_9 hB K (fun _ _ hx K => hx K))) K
set_option maxRecDepth 20000 in
set_option maxHeartbeats 1000000 in
theorem kh_X11_goesOn_0 {Q : HS → Prop} {v0 : Nat} {S0 S : HS} (h : P_X11_goesOn_0 Q v0 S) (K : KH S0 S) : P_X11_goesOn_0 (fun T => Q T ∧ KH S0 T) v0 S := by
  delta P_X11_goesOn_0 at h ⊢
  obtain ⟨c1, h⟩ := h
  refine ⟨c1, ?_⟩
  intro x3 e2
  have h := h x3 e2
  refine ⟨?_, ?_⟩
  · intro c4
    have h := h.1 c4
    exact kh_X11_goesOn_9 h K
  · intro c5
    have h := h.2 c5
    exact ⟨h, K⟩
theorem kh_X11_goesOn {Q : HS → Prop} {v0 : Nat} {S : HS} (h : P_X11_goesOn v0 Q S) : P_X11_goesOn v0 (fun T => Q T ∧ KH S T) S := kh_X11_goesOn_0 h (kh_rf S)
set_option maxRecDepth 20000 in
set_option maxHeartbeats 1000000 in
theorem kh_X11_begins_26 {Q : HS → Prop} {v0 : Nat} {S0 S : HS} (h : P_X11_begins_26 Q v0 S) (K : KH S0 S) : P_X11_begins_26 (fun T => Q T ∧ KH S0 T) v0 S := by
  delta P_X11_begins_26 at h ⊢
  obtain ⟨c1, h⟩ := h
  refine ⟨c1, ?_⟩
  refine cm_X11_goesOn (kh_X11_goesOn h) h (fun x2 hp h g3 => ?_)
  have h := h g3
  have K := kh_tr K hp.2
  exact ⟨h, K⟩
set_option maxRecDepth 20000 in
set_option maxHeartbeats 1000000 in
theorem kh_X11_begins_10 {Q : HS → Prop} {v0 : Nat} {S0 S : HS} (h : P_X11_begins_10 Q v0 S) (K : KH S0 S) : P_X11_begins_10 (fun T => Q T ∧ KH S0 T) v0 S := by
  delta P_X11_begins_10 at h ⊢
  obtain ⟨c1, h⟩ := h
  refine ⟨c1, ?_⟩
  obtain ⟨b2, e3, h⟩ := h
  refine ⟨b2, e3, ?_⟩
  obtain ⟨c4, h⟩ := h
  refine ⟨c4, ?_⟩
  intro x6 e5
  have h := h x6 e5
  refine ⟨?_, ?_⟩
  · intro c7
    have h := h.1 c7
    exact kh_X11_begins_26 h K
  · intro c8
    have h := h.2 c8
    refine cm_X11_flaw (kh_X11_flaw h) h (fun x9 hp h g10 => ?_)
    have h := h g10
    have K := kh_tr K hp.2
    exact kh_X11_begins_26 h K
set_option maxRecDepth 20000 in
set_option maxHeartbeats 1000000 in
theorem kh_X11_begins_0 {Q : HS → Prop} {v0 : Nat} {v1 : Int32} {v2 : Int32} {S0 S : HS} (h : P_X11_begins_0 Q v0 v1 v2 S) (K : KH S0 S) : P_X11_begins_0 (fun T => Q T ∧ KH S0 T) v0 v1 v2 S := by
  delta P_X11_begins_0 at h ⊢
  refine ⟨?_, ?_⟩
  · intro c1
    have h := h.1 c1
    exact kh_X11_begins_10 h K
  · intro c2
    have h := h.2 c2
    obtain ⟨c3, h⟩ := h
    refine ⟨c3, ?_⟩
    refine cm_X11_flaw (kh_X11_flaw h) h (fun x4 hp h g5 => ?_)
    have h := h g5
    have K := kh_tr K hp.2
    exact kh_X11_begins_10 h K
theorem kh_X11_begins {Q : HS → Prop} {v0 : Nat} {v1 : Int32} {v2 : Int32} {S : HS} (h : P_X11_begins v0 v1 v2 Q S) : P_X11_begins v0 v1 v2 (fun T => Q T ∧ KH S T) S := kh_X11_begins_0 h (kh_rf S)
set_option maxRecDepth 20000 in
set_option maxHeartbeats 1000000 in
theorem kh_X11_isForward_112 {Q : Int32 → HS → Prop} {v0 : Nat} {v4 : Int32} {v7 : Int32} {v8 : Int32} {v9 : Int32} {s0 : Int32} {S0 S : HS} (h : P_X11_isForward_112 Q v0 v4 v7 v8 v9 s0 S) (K : KH S0 S) : P_X11_isForward_112 (fun r T => Q r T ∧ KH S0 T) v0 v4 v7 v8 v9 s0 S := by
  delta P_X11_isForward_112 at h ⊢
  refine ⟨?_, ?_⟩
  · intro c1
    have h := h.1 c1
    exact ⟨h, K⟩
  · intro c2
    have h := h.2 c2
    refine ⟨?_, ?_⟩
    · intro c3
      have h := h.1 c3
      exact ⟨h, K⟩
    · intro c4
      have h := h.2 c4
      obtain ⟨c5, h⟩ := h
      refine ⟨c5, ?_⟩
      obtain ⟨b6, e7, h⟩ := h
      refine ⟨b6, e7, ?_⟩
      obtain ⟨c8, h⟩ := h
      refine ⟨c8, ?_⟩
      obtain ⟨b9, e10, h⟩ := h
      refine ⟨b9, e10, ?_⟩
      obtain ⟨c11, h⟩ := h
      refine ⟨c11, ?_⟩
      obtain ⟨c12, h⟩ := h
      refine ⟨c12, ?_⟩
      intro x14 e13
      have h := h x14 e13
      obtain ⟨b15, e16, h⟩ := h
      refine ⟨b15, e16, ?_⟩
      obtain ⟨c17, h⟩ := h
      refine ⟨c17, ?_⟩
      obtain ⟨b18, e19, h⟩ := h
      refine ⟨b18, e19, ?_⟩
      obtain ⟨c20, h⟩ := h
      refine ⟨c20, ?_⟩
      obtain ⟨c21, h⟩ := h
      refine ⟨c21, ?_⟩
      intro x23 e22
      have h := h x23 e22
      obtain ⟨b24, e25, h⟩ := h
      refine ⟨b24, e25, ?_⟩
      obtain ⟨c26, h⟩ := h
      refine ⟨c26, ?_⟩
      obtain ⟨b27, e28, h⟩ := h
      refine ⟨b27, e28, ?_⟩
      obtain ⟨c29, h⟩ := h
      refine ⟨c29, ?_⟩
      obtain ⟨c30, h⟩ := h
      refine ⟨c30, ?_⟩
      intro x32 e31
      have h := h x32 e31
      refine ⟨?_, ?_⟩
      · intro c33
        have h := h.1 c33
        exact ⟨h, K⟩
      · intro c34
        have h := h.2 c34
        exact ⟨h, K⟩
set_option maxRecDepth 20000 in
set_option maxHeartbeats 1000000 in
theorem kh_X11_isForward_84 {Q : Int32 → HS → Prop} {v0 : Nat} {v2 : Int32} {v4 : Int32} {v7 : Int32} {v8 : Int32} {s0 : Int32} {S0 S : HS} (h : P_X11_isForward_84 Q v0 v2 v4 v7 v8 s0 S) (K : KH S0 S) : P_X11_isForward_84 (fun r T => Q r T ∧ KH S0 T) v0 v2 v4 v7 v8 s0 S := by
  delta P_X11_isForward_84 at h ⊢
  obtain ⟨c1, h⟩ := h
  refine ⟨c1, ?_⟩
  obtain ⟨b2, e3, h⟩ := h
  refine ⟨b2, e3, ?_⟩
  obtain ⟨c4, h⟩ := h
  refine ⟨c4, ?_⟩
  obtain ⟨b5, e6, h⟩ := h
  refine ⟨b5, e6, ?_⟩
  obtain ⟨c7, h⟩ := h
  refine ⟨c7, ?_⟩
  obtain ⟨c8, h⟩ := h
  refine ⟨c8, ?_⟩
  intro x10 e9
  have h := h x10 e9
  obtain ⟨b11, e12, h⟩ := h
  refine ⟨b11, e12, ?_⟩
  obtain ⟨c13, h⟩ := h
  refine ⟨c13, ?_⟩
  obtain ⟨b14, e15, h⟩ := h
  refine ⟨b14, e15, ?_⟩
  obtain ⟨c16, h⟩ := h
  refine ⟨c16, ?_⟩
  obtain ⟨c17, h⟩ := h
  refine ⟨c17, ?_⟩
  intro x19 e18
  have h := h x19 e18
  refine ⟨?_, ?_⟩
  · intro c20
    have h := h.1 c20
    exact kh_X11_isForward_112 h K
  · intro c21
    have h := h.2 c21
    exact kh_X11_isForward_112 h K
set_option maxRecDepth 20000 in
set_option maxHeartbeats 1000000 in
theorem kh_X11_isForward_54 {Q : Int32 → HS → Prop} {v0 : Nat} {v1 : Int32} {v2 : Int32} {v4 : Int32} {v6 : Int32} {v7 : Int32} {s0 : Int32} {S0 S : HS} (h : P_X11_isForward_54 Q v0 v1 v2 v4 v6 v7 s0 S) (K : KH S0 S) : P_X11_isForward_54 (fun r T => Q r T ∧ KH S0 T) v0 v1 v2 v4 v6 v7 s0 S := by
  delta P_X11_isForward_54 at h ⊢
  obtain ⟨c1, h⟩ := h
  refine ⟨c1, ?_⟩
  obtain ⟨b2, e3, h⟩ := h
  refine ⟨b2, e3, ?_⟩
  obtain ⟨c4, h⟩ := h
  refine ⟨c4, ?_⟩
  obtain ⟨b5, e6, h⟩ := h
  refine ⟨b5, e6, ?_⟩
  obtain ⟨c7, h⟩ := h
  refine ⟨c7, ?_⟩
  obtain ⟨c8, h⟩ := h
  refine ⟨c8, ?_⟩
  intro x10 e9
  have h := h x10 e9
  refine ⟨?_, ?_⟩
  · intro c11
    have h := h.1 c11
    obtain ⟨b12, e13, h⟩ := h
    refine ⟨b12, e13, ?_⟩
    obtain ⟨c14, h⟩ := h
    refine ⟨c14, ?_⟩
    obtain ⟨b15, e16, h⟩ := h
    refine ⟨b15, e16, ?_⟩
    obtain ⟨c17, h⟩ := h
    refine ⟨c17, ?_⟩
    obtain ⟨c18, h⟩ := h
    refine ⟨c18, ?_⟩
    intro x20 e19
    have h := h x20 e19
    exact kh_X11_isForward_84 h K
  · intro c21
    have h := h.2 c21
    exact kh_X11_isForward_84 h K
set_option maxRecDepth 20000 in
set_option maxHeartbeats 1000000 in
theorem kh_X11_isForward_0 {Q : Int32 → HS → Prop} {v0 : Nat} {v1 : Int32} {v2 : Int32} {v3 : Int32} {v4 : Int32} {v5 : Int32} {S0 S : HS} (h : P_X11_isForward_0 Q v0 v1 v2 v3 v4 v5 S) (K : KH S0 S) : P_X11_isForward_0 (fun r T => Q r T ∧ KH S0 T) v0 v1 v2 v3 v4 v5 S := by
  delta P_X11_isForward_0 at h ⊢
  obtain ⟨c1, h⟩ := h
  refine ⟨c1, ?_⟩
  obtain ⟨b2, e3, h⟩ := h
  refine ⟨b2, e3, ?_⟩
  obtain ⟨c4, h⟩ := h
  refine ⟨c4, ?_⟩
  refine cm_X10_shield (kh_X10_shield h) h (fun x5 x6 hp h g7 => ?_)
  have h := h g7
  have K := kh_tr K hp.2
  obtain ⟨b8, e9, h⟩ := h
  refine ⟨b8, e9, ?_⟩
  obtain ⟨c10, h⟩ := h
  refine ⟨c10, ?_⟩
  refine cm_X10_air (kh_X10_air h) h (fun x11 x12 hp h g13 => ?_)
  have h := h g13
  have K := kh_tr K hp.2
  intro x15 e14
  have h := h x15 e14
  obtain ⟨b16, e17, h⟩ := h
  refine ⟨b16, e17, ?_⟩
  obtain ⟨c18, h⟩ := h
  refine ⟨c18, ?_⟩
  obtain ⟨b19, e20, h⟩ := h
  refine ⟨b19, e20, ?_⟩
  obtain ⟨c21, h⟩ := h
  refine ⟨c21, ?_⟩
  obtain ⟨c22, h⟩ := h
  refine ⟨c22, ?_⟩
  intro x24 e23
  have h := h x24 e23
  refine ⟨?_, ?_⟩
  · intro c25
    have h := h.1 c25
    obtain ⟨b26, e27, h⟩ := h
    refine ⟨b26, e27, ?_⟩
    obtain ⟨c28, h⟩ := h
    refine ⟨c28, ?_⟩
    obtain ⟨b29, e30, h⟩ := h
    refine ⟨b29, e30, ?_⟩
    obtain ⟨c31, h⟩ := h
    refine ⟨c31, ?_⟩
    obtain ⟨c32, h⟩ := h
    refine ⟨c32, ?_⟩
    intro x34 e33
    have h := h x34 e33
    exact kh_X11_isForward_54 h K
  · intro c35
    have h := h.2 c35
    exact kh_X11_isForward_54 h K
theorem kh_X11_isForward {Q : Int32 → HS → Prop} {v0 : Nat} {v1 : Int32} {v2 : Int32} {v3 : Int32} {v4 : Int32} {v5 : Int32} {S : HS} (h : P_X11_isForward v0 v1 v2 v3 v4 v5 Q S) : P_X11_isForward v0 v1 v2 v3 v4 v5 (fun r T => Q r T ∧ KH S T) S := kh_X11_isForward_0 h (kh_rf S)
set_option maxRecDepth 20000 in
set_option maxHeartbeats 1000000 in
theorem kh_X11_less_0 {Q : Int32 → HS → Prop} {v0 : Int32} {v1 : Int32} {S0 S : HS} (h : P_X11_less_0 Q v0 v1 S) (K : KH S0 S) : P_X11_less_0 (fun r T => Q r T ∧ KH S0 T) v0 v1 S := by
  delta P_X11_less_0 at h ⊢
  refine ⟨?_, ?_⟩
  · intro c1
    have h := h.1 c1
    exact ⟨h, K⟩
  · intro c2
    have h := h.2 c2
    exact ⟨h, K⟩
theorem kh_X11_less {Q : Int32 → HS → Prop} {v0 : Int32} {v1 : Int32} {S : HS} (h : P_X11_less v0 v1 Q S) : P_X11_less v0 v1 (fun r T => Q r T ∧ KH S T) S := kh_X11_less_0 h (kh_rf S)
set_option maxRecDepth 20000 in
set_option maxHeartbeats 1000000 in
theorem kh_X11_inTime_129 {Q : Int32 → HS → Prop} {s0 : Int32} {s1 : Int32} {s2 : Int32} {S0 S : HS} (h : P_X11_inTime_129 Q s0 s1 s2 S) (K : KH S0 S) : P_X11_inTime_129 (fun r T => Q r T ∧ KH S0 T) s0 s1 s2 S := by
  delta P_X11_inTime_129 at h ⊢
  refine cm_X11_less (kh_X11_less h) h (fun x1 x2 hp h g3 => ?_)
  have h := h g3
  have K := kh_tr K hp.2
  exact ⟨h, K⟩
set_option maxRecDepth 20000 in
set_option maxHeartbeats 1000000 in
theorem kh_X11_inTime_164 {Q : Int32 → HS → Prop} {v7 : Int32} {s0 : Int32} {s1 : Int32} {s2 : Int32} {S0 S : HS} (h : P_X11_inTime_164 Q v7 s0 s1 s2 S) (K : KH S0 S) : P_X11_inTime_164 (fun r T => Q r T ∧ KH S0 T) v7 s0 s1 s2 S := by
  delta P_X11_inTime_164 at h ⊢
  refine cm_X11_less (kh_X11_less h) h (fun x1 x2 hp h g3 => ?_)
  have h := h g3
  have K := kh_tr K hp.2
  refine cm_X11_less (kh_X11_less h) h (fun x4 x5 hp h g6 => ?_)
  have h := h g6
  have K := kh_tr K hp.2
  exact ⟨h, K⟩
set_option maxRecDepth 20000 in
set_option maxHeartbeats 1000000 in
theorem kh_X11_inTime_0 {Q : Int32 → HS → Prop} {v0 : Nat} {v1 : Int32} {v2 : Int32} {v3 : Int32} {v4 : Int32} {v5 : Int32} {v6 : Int32} {v7 : Int32} {v8 : Int32} {S0 S : HS} (h : P_X11_inTime_0 Q v0 v1 v2 v3 v4 v5 v6 v7 v8 S) (K : KH S0 S) : P_X11_inTime_0 (fun r T => Q r T ∧ KH S0 T) v0 v1 v2 v3 v4 v5 v6 v7 v8 S := by
  delta P_X11_inTime_0 at h ⊢
  obtain ⟨c1, h⟩ := h
  refine ⟨c1, ?_⟩
  obtain ⟨b2, e3, h⟩ := h
  refine ⟨b2, e3, ?_⟩
  obtain ⟨c4, h⟩ := h
  refine ⟨c4, ?_⟩
  obtain ⟨b5, e6, h⟩ := h
  refine ⟨b5, e6, ?_⟩
  obtain ⟨c7, h⟩ := h
  refine ⟨c7, ?_⟩
  obtain ⟨c8, h⟩ := h
  refine ⟨c8, ?_⟩
  intro x10 e9
  have h := h x10 e9
  obtain ⟨b11, e12, h⟩ := h
  refine ⟨b11, e12, ?_⟩
  obtain ⟨c13, h⟩ := h
  refine ⟨c13, ?_⟩
  refine cm_X10_air (kh_X10_air h) h (fun x14 x15 hp h g16 => ?_)
  have h := h g16
  have K := kh_tr K hp.2
  intro x18 e17
  have h := h x18 e17
  obtain ⟨b19, e20, h⟩ := h
  refine ⟨b19, e20, ?_⟩
  obtain ⟨c21, h⟩ := h
  refine ⟨c21, ?_⟩
  refine cm_X10_across (kh_X10_across h) h (fun x22 x23 hp h g24 => ?_)
  have h := h g24
  have K := kh_tr K hp.2
  refine cm_X11_isForward (kh_X11_isForward h) h (fun x25 x26 hp h g27 g28 => ?_)
  have h := h g27 g28
  have K := kh_tr K hp.2
  obtain ⟨b29, e30, h⟩ := h
  refine ⟨b29, e30, ?_⟩
  obtain ⟨c31, h⟩ := h
  refine ⟨c31, ?_⟩
  refine cm_X10_shield (kh_X10_shield h) h (fun x32 x33 hp h g34 => ?_)
  have h := h g34
  have K := kh_tr K hp.2
  refine ⟨?_, ?_, ?_, ?_, ?_⟩
  · intro c35
    have h := h.1 c35
    refine ⟨?_, ?_⟩
    · intro c36
      have h := h.1 c36
      exact ⟨h, K⟩
    · intro c37
      have h := h.2 c37
      obtain ⟨b38, e39, h⟩ := h
      refine ⟨b38, e39, ?_⟩
      obtain ⟨c40, h⟩ := h
      refine ⟨c40, ?_⟩
      obtain ⟨b41, e42, h⟩ := h
      refine ⟨b41, e42, ?_⟩
      obtain ⟨c43, h⟩ := h
      refine ⟨c43, ?_⟩
      obtain ⟨c44, h⟩ := h
      refine ⟨c44, ?_⟩
      intro x46 e45
      have h := h x46 e45
      exact ⟨h, K⟩
  · intro c47
    have h := h.2.1 c47
    obtain ⟨b48, e49, h⟩ := h
    refine ⟨b48, e49, ?_⟩
    obtain ⟨c50, h⟩ := h
    refine ⟨c50, ?_⟩
    obtain ⟨b51, e52, h⟩ := h
    refine ⟨b51, e52, ?_⟩
    obtain ⟨c53, h⟩ := h
    refine ⟨c53, ?_⟩
    obtain ⟨c54, h⟩ := h
    refine ⟨c54, ?_⟩
    intro x56 e55
    have h := h x56 e55
    obtain ⟨b57, e58, h⟩ := h
    refine ⟨b57, e58, ?_⟩
    obtain ⟨c59, h⟩ := h
    refine ⟨c59, ?_⟩
    obtain ⟨b60, e61, h⟩ := h
    refine ⟨b60, e61, ?_⟩
    obtain ⟨c62, h⟩ := h
    refine ⟨c62, ?_⟩
    obtain ⟨c63, h⟩ := h
    refine ⟨c63, ?_⟩
    intro x65 e64
    have h := h x65 e64
    refine ⟨?_, ?_⟩
    · intro c66
      have h := h.1 c66
      exact kh_X11_inTime_129 h K
    · intro c67
      have h := h.2 c67
      exact kh_X11_inTime_129 h K
  · intro c68
    have h := h.2.2.1 c68
    refine ⟨?_, ?_⟩
    · intro c69
      have h := h.1 c69
      exact ⟨h, K⟩
    · intro c70
      have h := h.2 c70
      obtain ⟨b71, e72, h⟩ := h
      refine ⟨b71, e72, ?_⟩
      obtain ⟨c73, h⟩ := h
      refine ⟨c73, ?_⟩
      obtain ⟨b74, e75, h⟩ := h
      refine ⟨b74, e75, ?_⟩
      obtain ⟨c76, h⟩ := h
      refine ⟨c76, ?_⟩
      obtain ⟨c77, h⟩ := h
      refine ⟨c77, ?_⟩
      intro x79 e78
      have h := h x79 e78
      refine ⟨?_, ?_⟩
      · intro c80
        have h := h.1 c80
        exact kh_X11_inTime_164 h K
      · intro c81
        have h := h.2 c81
        exact kh_X11_inTime_164 h K
  · intro c82
    have h := h.2.2.2.1 c82
    refine ⟨?_, ?_⟩
    · intro c83
      have h := h.1 c83
      exact ⟨h, K⟩
    · intro c84
      have h := h.2 c84
      obtain ⟨b85, e86, h⟩ := h
      refine ⟨b85, e86, ?_⟩
      obtain ⟨c87, h⟩ := h
      refine ⟨c87, ?_⟩
      obtain ⟨b88, e89, h⟩ := h
      refine ⟨b88, e89, ?_⟩
      obtain ⟨c90, h⟩ := h
      refine ⟨c90, ?_⟩
      obtain ⟨c91, h⟩ := h
      refine ⟨c91, ?_⟩
      intro x93 e92
      have h := h x93 e92
      refine cm_X11_less (kh_X11_less h) h (fun x94 x95 hp h g96 => ?_)
      have h := h g96
      have K := kh_tr K hp.2
      exact ⟨h, K⟩
  · intro c97
    have h := h.2.2.2.2 c97
    refine ⟨?_, ?_⟩
    · intro c98
      have h := h.1 c98
      exact ⟨h, K⟩
    · intro c99
      have h := h.2 c99
      obtain ⟨b100, e101, h⟩ := h
      refine ⟨b100, e101, ?_⟩
      obtain ⟨c102, h⟩ := h
      refine ⟨c102, ?_⟩
      obtain ⟨b103, e104, h⟩ := h
      refine ⟨b103, e104, ?_⟩
      obtain ⟨c105, h⟩ := h
      refine ⟨c105, ?_⟩
      obtain ⟨c106, h⟩ := h
      refine ⟨c106, ?_⟩
      intro x108 e107
      have h := h x108 e107
      exact ⟨h, K⟩
theorem kh_X11_inTime {Q : Int32 → HS → Prop} {v0 : Nat} {v1 : Int32} {v2 : Int32} {v3 : Int32} {v4 : Int32} {v5 : Int32} {v6 : Int32} {v7 : Int32} {v8 : Int32} {S : HS} (h : P_X11_inTime v0 v1 v2 v3 v4 v5 v6 v7 v8 Q S) : P_X11_inTime v0 v1 v2 v3 v4 v5 v6 v7 v8 (fun r T => Q r T ∧ KH S T) S := kh_X11_inTime_0 h (kh_rf S)
set_option maxRecDepth 20000 in
set_option maxHeartbeats 1000000 in
theorem kh_X11_partsOf_0 {Q : Int64 → HS → Prop} {v0 : Nat} {v1 : Int32} {v2 : Int32} {v3 : Int32} {v4 : Int32} {v5 : Int32} {v6 : Int32} {S0 S : HS} (h : P_X11_partsOf_0 Q v0 v1 v2 v3 v4 v5 v6 S) (K : KH S0 S) : P_X11_partsOf_0 (fun r T => Q r T ∧ KH S0 T) v0 v1 v2 v3 v4 v5 v6 S := by
  delta P_X11_partsOf_0 at h ⊢
  obtain ⟨c1, h⟩ := h
  refine ⟨c1, ?_⟩
  refine cm_X11_inTime (kh_X11_inTime h) h (fun x2 x3 hp h g4 => ?_)
  have h := h g4
  have K := kh_tr K hp.2
  obtain ⟨b5, e6, h⟩ := h
  refine ⟨b5, e6, ?_⟩
  obtain ⟨c7, h⟩ := h
  refine ⟨c7, ?_⟩
  obtain ⟨b8, e9, h⟩ := h
  refine ⟨b8, e9, ?_⟩
  obtain ⟨c10, h⟩ := h
  refine ⟨c10, ?_⟩
  obtain ⟨c11, h⟩ := h
  refine ⟨c11, ?_⟩
  intro x13 e12
  have h := h x13 e12
  obtain ⟨b14, e15, h⟩ := h
  refine ⟨b14, e15, ?_⟩
  obtain ⟨c16, h⟩ := h
  refine ⟨c16, ?_⟩
  obtain ⟨b17, e18, h⟩ := h
  refine ⟨b17, e18, ?_⟩
  obtain ⟨c19, h⟩ := h
  refine ⟨c19, ?_⟩
  obtain ⟨c20, h⟩ := h
  refine ⟨c20, ?_⟩
  intro x22 e21
  have h := h x22 e21
  obtain ⟨c23, h⟩ := h
  refine ⟨c23, ?_⟩
  intro x25 e24
  have h := h x25 e24
  exact ⟨h, K⟩
theorem kh_X11_partsOf {Q : Int64 → HS → Prop} {v0 : Nat} {v1 : Int32} {v2 : Int32} {v3 : Int32} {v4 : Int32} {v5 : Int32} {v6 : Int32} {S : HS} (h : P_X11_partsOf v0 v1 v2 v3 v4 v5 v6 Q S) : P_X11_partsOf v0 v1 v2 v3 v4 v5 v6 (fun r T => Q r T ∧ KH S T) S := kh_X11_partsOf_0 h (kh_rf S)
set_option maxRecDepth 20000 in
set_option maxHeartbeats 1000000 in
theorem khB_X11_wetOf_6 {Q : Int64 → HS → Prop} {X6 X6_2 : Nat → Int32 → Int32 → Int32 → Int32 → Int32 → Int64 → Int32 → HS → Prop} {v0 : Nat} {v1 : Int32} {v2 : Int32} {v3 : Int32} {v4 : Int32} {v5 : Int32} {v6 : Int64} {v8 : Int32} {S0 S : HS} (h : B_X11_wetOf_6 Q X6 v0 v1 v2 v3 v4 v5 v6 v8 S) (K : KH S0 S) (hX6 : ∀ (u0 : Nat) (u1 : Int32) (u2 : Int32) (u3 : Int32) (u4 : Int32) (u5 : Int32) (u6 : Int64) (u7 : Int32) (u8 : HS), X6 u0 u1 u2 u3 u4 u5 u6 u7 u8 → KH S0 u8 → X6_2 u0 u1 u2 u3 u4 u5 u6 u7 u8) : B_X11_wetOf_6 (fun r T => Q r T ∧ KH S0 T) X6_2 v0 v1 v2 v3 v4 v5 v6 v8 S := by
  delta B_X11_wetOf_6 at h ⊢
  refine ⟨?_, ?_⟩
  · intro c1
    have h := h.1 c1
    exact ⟨h, K⟩
  · intro c2
    have h := h.2 c2
    obtain ⟨c3, h⟩ := h
    refine ⟨c3, ?_⟩
    refine cm_X11_partsOf (kh_X11_partsOf h) h (fun x4 x5 hp h g6 => ?_)
    have h := h g6
    have K := kh_tr K hp.2
    intro x8 e7
    have h := h x8 e7
    intro x10 e9
    have h := h x10 e9
    exact hX6 _ _ _ _ _ _ _ _ _ h K
theorem kh_X11_wetOf_6 {Q : Int64 → HS → Prop} {v0 : Nat} {v1 : Int32} {v2 : Int32} {v3 : Int32} {v4 : Int32} {v5 : Int32} {v6 : Int64} {v8 : Int32} {S0 S : HS} (h : P_X11_wetOf_6 Q v0 v1 v2 v3 v4 v5 v6 v8 S) (K : KH S0 S) : P_X11_wetOf_6 (fun r T => Q r T ∧ KH S0 T) v0 v1 v2 v3 v4 v5 v6 v8 S := h (fun v0 v1 v2 v3 v4 v5 v6 v8 S => KH S0 S → P_X11_wetOf_6 (fun r T => Q r T ∧ KH S0 T) v0 v1 v2 v3 v4 v5 v6 v8 S) (fun v0 v1 v2 v3 v4 v5 v6 v8 S hB K => fd_X11_wetOf_6 (khB_X11_wetOf_6 hB K (fun _ _ _ _ _ _ _ _ _ hx K => hx K))) K
set_option maxRecDepth 20000 in
set_option maxHeartbeats 1000000 in
theorem kh_X11_wetOf_0 {Q : Int64 → HS → Prop} {v0 : Nat} {v1 : Int32} {v2 : Int32} {v3 : Int32} {v4 : Int32} {v5 : Int32} {S0 S : HS} (h : P_X11_wetOf_0 Q v0 v1 v2 v3 v4 v5 S) (K : KH S0 S) : P_X11_wetOf_0 (fun r T => Q r T ∧ KH S0 T) v0 v1 v2 v3 v4 v5 S := by
  delta P_X11_wetOf_0 at h ⊢
  exact kh_X11_wetOf_6 h K
theorem kh_X11_wetOf {Q : Int64 → HS → Prop} {v0 : Nat} {v1 : Int32} {v2 : Int32} {v3 : Int32} {v4 : Int32} {v5 : Int32} {S : HS} (h : P_X11_wetOf v0 v1 v2 v3 v4 v5 Q S) : P_X11_wetOf v0 v1 v2 v3 v4 v5 (fun r T => Q r T ∧ KH S T) S := kh_X11_wetOf_0 h (kh_rf S)
set_option maxRecDepth 20000 in
set_option maxHeartbeats 1000000 in
theorem kh_X11_bestOf_61 {Q : Int32 → HS → Prop} {X17 X17_2 : Nat → Int32 → Int32 → Int32 → Int32 → Int32 → Int32 → HS → Prop} {v0 : Nat} {v1 : Int32} {v2 : Int32} {v3 : Int32} {v4 : Int32} {v5 : Int32} {v6 : Int32} {S0 S : HS} (h : P_X11_bestOf_61 Q X17 v0 v1 v2 v3 v4 v5 v6 S) (K : KH S0 S) (hX17 : ∀ (u0 : Nat) (u1 : Int32) (u2 : Int32) (u3 : Int32) (u4 : Int32) (u5 : Int32) (u6 : Int32) (u7 : HS), X17 u0 u1 u2 u3 u4 u5 u6 u7 → KH S0 u7 → X17_2 u0 u1 u2 u3 u4 u5 u6 u7) : P_X11_bestOf_61 (fun r T => Q r T ∧ KH S0 T) X17_2 v0 v1 v2 v3 v4 v5 v6 S := by
  delta P_X11_bestOf_61 at h ⊢
  intro x2 e1
  have h := h x2 e1
  exact hX17 _ _ _ _ _ _ _ _ h K
set_option maxRecDepth 20000 in
set_option maxHeartbeats 1000000 in
theorem khB_X11_bestOf_17 {Q : Int32 → HS → Prop} {X17 X17_2 : Nat → Int32 → Int32 → Int32 → Int32 → Int32 → Int32 → HS → Prop} {v0 : Nat} {v1 : Int32} {v2 : Int32} {v3 : Int32} {v4 : Int32} {v5 : Int32} {v6 : Int32} {S0 S : HS} (h : B_X11_bestOf_17 Q X17 v0 v1 v2 v3 v4 v5 v6 S) (K : KH S0 S) (hX17 : ∀ (u0 : Nat) (u1 : Int32) (u2 : Int32) (u3 : Int32) (u4 : Int32) (u5 : Int32) (u6 : Int32) (u7 : HS), X17 u0 u1 u2 u3 u4 u5 u6 u7 → KH S0 u7 → X17_2 u0 u1 u2 u3 u4 u5 u6 u7) : B_X11_bestOf_17 (fun r T => Q r T ∧ KH S0 T) X17_2 v0 v1 v2 v3 v4 v5 v6 S := by
  delta B_X11_bestOf_17 at h ⊢
  obtain ⟨c1, h⟩ := h
  refine ⟨c1, ?_⟩
  obtain ⟨b2, e3, h⟩ := h
  refine ⟨b2, e3, ?_⟩
  obtain ⟨c4, h⟩ := h
  refine ⟨c4, ?_⟩
  obtain ⟨b5, e6, h⟩ := h
  refine ⟨b5, e6, ?_⟩
  obtain ⟨c7, h⟩ := h
  refine ⟨c7, ?_⟩
  obtain ⟨c8, h⟩ := h
  refine ⟨c8, ?_⟩
  intro x10 e9
  have h := h x10 e9
  refine ⟨?_, ?_⟩
  · intro c11
    have h := h.1 c11
    exact ⟨h, K⟩
  · intro c12
    have h := h.2 c12
    refine cm_X11_wetOf (kh_X11_wetOf h) h (fun x13 x14 hp h g15 => ?_)
    have h := h g15
    have K := kh_tr K hp.2
    refine cm_X11_wetOf (kh_X11_wetOf h) h (fun x16 x17 hp h g18 => ?_)
    have h := h g18
    have K := kh_tr K hp.2
    refine ⟨?_, ?_⟩
    · intro c19
      have h := h.1 c19
      exact kh_X11_bestOf_61 h K hX17
    · intro c20
      have h := h.2 c20
      exact kh_X11_bestOf_61 h K hX17
theorem kh_X11_bestOf_17 {Q : Int32 → HS → Prop} {v0 : Nat} {v1 : Int32} {v2 : Int32} {v3 : Int32} {v4 : Int32} {v5 : Int32} {v6 : Int32} {S0 S : HS} (h : P_X11_bestOf_17 Q v0 v1 v2 v3 v4 v5 v6 S) (K : KH S0 S) : P_X11_bestOf_17 (fun r T => Q r T ∧ KH S0 T) v0 v1 v2 v3 v4 v5 v6 S := h (fun v0 v1 v2 v3 v4 v5 v6 S => KH S0 S → P_X11_bestOf_17 (fun r T => Q r T ∧ KH S0 T) v0 v1 v2 v3 v4 v5 v6 S) (fun v0 v1 v2 v3 v4 v5 v6 S hB K => fd_X11_bestOf_17 (khB_X11_bestOf_17 hB K (fun _ _ _ _ _ _ _ _ hx K => hx K))) K
set_option maxRecDepth 20000 in
set_option maxHeartbeats 1000000 in
theorem kh_X11_bestOf_0 {Q : Int32 → HS → Prop} {v0 : Nat} {v1 : Int32} {v2 : Int32} {v3 : Int32} {v4 : Int32} {S0 S : HS} (h : P_X11_bestOf_0 Q v0 v1 v2 v3 v4 S) (K : KH S0 S) : P_X11_bestOf_0 (fun r T => Q r T ∧ KH S0 T) v0 v1 v2 v3 v4 S := by
  delta P_X11_bestOf_0 at h ⊢
  obtain ⟨c1, h⟩ := h
  refine ⟨c1, ?_⟩
  obtain ⟨b2, e3, h⟩ := h
  refine ⟨b2, e3, ?_⟩
  obtain ⟨c4, h⟩ := h
  refine ⟨c4, ?_⟩
  obtain ⟨b5, e6, h⟩ := h
  refine ⟨b5, e6, ?_⟩
  obtain ⟨c7, h⟩ := h
  refine ⟨c7, ?_⟩
  obtain ⟨c8, h⟩ := h
  refine ⟨c8, ?_⟩
  intro x10 e9
  have h := h x10 e9
  intro x12 e11
  have h := h x12 e11
  exact kh_X11_bestOf_17 h K
theorem kh_X11_bestOf {Q : Int32 → HS → Prop} {v0 : Nat} {v1 : Int32} {v2 : Int32} {v3 : Int32} {v4 : Int32} {S : HS} (h : P_X11_bestOf v0 v1 v2 v3 v4 Q S) : P_X11_bestOf v0 v1 v2 v3 v4 (fun r T => Q r T ∧ KH S T) S := kh_X11_bestOf_0 h (kh_rf S)
set_option maxRecDepth 20000 in
set_option maxHeartbeats 1000000 in
theorem kh_X11_isWalker_0 {Q : Int32 → HS → Prop} {v0 : Nat} {v1 : Int32} {S0 S : HS} (h : P_X11_isWalker_0 Q v0 v1 S) (K : KH S0 S) : P_X11_isWalker_0 (fun r T => Q r T ∧ KH S0 T) v0 v1 S := by
  delta P_X11_isWalker_0 at h ⊢
  obtain ⟨c1, h⟩ := h
  refine ⟨c1, ?_⟩
  refine ⟨?_, ?_⟩
  · intro c2
    have h := h.1 c2
    exact ⟨h, K⟩
  · intro x3 c4
    have h := h.2 x3 c4
    refine ⟨?_, ?_⟩
    · intro c5
      have h := h.1 c5
      exact ⟨h, K⟩
    · intro c6
      have h := h.2 c6
      obtain ⟨b7, e8, h⟩ := h
      refine ⟨b7, e8, ?_⟩
      obtain ⟨c9, h⟩ := h
      refine ⟨c9, ?_⟩
      intro x11 e10
      have h := h x11 e10
      refine ⟨?_, ?_⟩
      · intro c12
        have h := h.1 c12
        exact ⟨h, K⟩
      · intro c13
        have h := h.2 c13
        exact ⟨h, K⟩
theorem kh_X11_isWalker {Q : Int32 → HS → Prop} {v0 : Nat} {v1 : Int32} {S : HS} (h : P_X11_isWalker v0 v1 Q S) : P_X11_isWalker v0 v1 (fun r T => Q r T ∧ KH S T) S := kh_X11_isWalker_0 h (kh_rf S)
set_option maxRecDepth 20000 in
set_option maxHeartbeats 1000000 in
theorem kh_X11_best_39 {Q : Int32 → HS → Prop} {v0 : Nat} {S0 S : HS} (h : P_X11_best_39 Q v0 S) (K : KH S0 S) : P_X11_best_39 (fun r T => Q r T ∧ KH S0 T) v0 S := by
  delta P_X11_best_39 at h ⊢
  obtain ⟨c1, h⟩ := h
  refine ⟨c1, ?_⟩
  refine cm_X11_refused (kh_X11_refused h) h (fun x2 x3 hp h g4 => ?_)
  have h := h g4
  have K := kh_tr K hp.2
  exact ⟨h, K⟩
set_option maxRecDepth 20000 in
set_option maxHeartbeats 1000000 in
theorem kh_X11_best_0 {Q : Int32 → HS → Prop} {v0 : Nat} {v1 : Int32} {v2 : Int32} {v3 : Int32} {v4 : Int32} {S0 S : HS} (h : P_X11_best_0 Q v0 v1 v2 v3 v4 S) (K : KH S0 S) : P_X11_best_0 (fun r T => Q r T ∧ KH S0 T) v0 v1 v2 v3 v4 S := by
  delta P_X11_best_0 at h ⊢
  obtain ⟨c1, h⟩ := h
  refine ⟨c1, ?_⟩
  intro x3 e2
  have h := h x3 e2
  have K := kh_I K e2
  refine cm_X11_isWalker (kh_X11_isWalker h) h (fun x4 x5 hp h g6 g7 => ?_)
  have h := h g6 g7
  have K := kh_tr K hp.2
  refine ⟨?_, ?_⟩
  · intro c8
    have h := h.1 c8
    exact kh_X11_best_39 h K
  · intro c9
    have h := h.2 c9
    refine cm_X11_isRoad (kh_X11_isRoad h) h (fun x10 x11 hp h g12 g13 => ?_)
    have h := h g12 g13
    have K := kh_tr K hp.2
    refine ⟨?_, ?_⟩
    · intro c14
      have h := h.1 c14
      exact kh_X11_best_39 h K
    · intro c15
      have h := h.2 c15
      refine cm_X11_in (kh_X11_in h) h (fun x16 x17 hp h g18 g19 => ?_)
      have h := h g18 g19
      have K := kh_tr K hp.2
      refine ⟨?_, ?_⟩
      · intro c20
        have h := h.1 c20
        exact kh_X11_best_39 h K
      · intro c21
        have h := h.2 c21
        refine cm_X11_isHour (kh_X11_isHour h) h (fun x22 x23 hp h g24 g25 => ?_)
        have h := h g24 g25
        have K := kh_tr K hp.2
        refine ⟨?_, ?_⟩
        · intro c26
          have h := h.1 c26
          refine cm_X11_bestOf (kh_X11_bestOf h) h (fun x27 x28 hp h g29 => ?_)
          have h := h g29
          have K := kh_tr K hp.2
          refine cm_X11_good (kh_X11_good h) h (fun x30 x31 hp h g32 => ?_)
          have h := h g32
          have K := kh_tr K hp.2
          exact ⟨h, K⟩
        · intro c33
          have h := h.2 c33
          exact kh_X11_best_39 h K
theorem kh_X11_best {Q : Int32 → HS → Prop} {v0 : Nat} {v1 : Int32} {v2 : Int32} {v3 : Int32} {v4 : Int32} {S : HS} (h : P_X11_best v0 v1 v2 v3 v4 Q S) : P_X11_best v0 v1 v2 v3 v4 (fun r T => Q r T ∧ KH S T) S := kh_X11_best_0 h (kh_rf S)
set_option maxRecDepth 20000 in
set_option maxHeartbeats 1000000 in
theorem kh_X11_canWait_0 {Q : Int32 → HS → Prop} {v0 : Nat} {v1 : Int32} {S0 S : HS} (h : P_X11_canWait_0 Q v0 v1 S) (K : KH S0 S) : P_X11_canWait_0 (fun r T => Q r T ∧ KH S0 T) v0 v1 S := by
  delta P_X11_canWait_0 at h ⊢
  obtain ⟨c1, h⟩ := h
  refine ⟨c1, ?_⟩
  obtain ⟨b2, e3, h⟩ := h
  refine ⟨b2, e3, ?_⟩
  obtain ⟨c4, h⟩ := h
  refine ⟨c4, ?_⟩
  obtain ⟨b5, e6, h⟩ := h
  refine ⟨b5, e6, ?_⟩
  obtain ⟨c7, h⟩ := h
  refine ⟨c7, ?_⟩
  obtain ⟨c8, h⟩ := h
  refine ⟨c8, ?_⟩
  intro x10 e9
  have h := h x10 e9
  refine ⟨?_, ?_⟩
  · intro c11
    have h := h.1 c11
    exact ⟨h, K⟩
  · intro c12
    have h := h.2 c12
    obtain ⟨b13, e14, h⟩ := h
    refine ⟨b13, e14, ?_⟩
    obtain ⟨c15, h⟩ := h
    refine ⟨c15, ?_⟩
    obtain ⟨b16, e17, h⟩ := h
    refine ⟨b16, e17, ?_⟩
    obtain ⟨c18, h⟩ := h
    refine ⟨c18, ?_⟩
    obtain ⟨c19, h⟩ := h
    refine ⟨c19, ?_⟩
    intro x21 e20
    have h := h x21 e20
    refine ⟨?_, ?_⟩
    · intro c22
      have h := h.1 c22
      exact ⟨h, K⟩
    · intro c23
      have h := h.2 c23
      exact ⟨h, K⟩
theorem kh_X11_canWait {Q : Int32 → HS → Prop} {v0 : Nat} {v1 : Int32} {S : HS} (h : P_X11_canWait v0 v1 Q S) : P_X11_canWait v0 v1 (fun r T => Q r T ∧ KH S T) S := kh_X11_canWait_0 h (kh_rf S)
set_option maxRecDepth 20000 in
set_option maxHeartbeats 1000000 in
theorem kh_X11_isPlace_0 {Q : Int32 → HS → Prop} {v0 : Nat} {v1 : Int32} {S0 S : HS} (h : P_X11_isPlace_0 Q v0 v1 S) (K : KH S0 S) : P_X11_isPlace_0 (fun r T => Q r T ∧ KH S0 T) v0 v1 S := by
  delta P_X11_isPlace_0 at h ⊢
  obtain ⟨c1, h⟩ := h
  refine ⟨c1, ?_⟩
  refine ⟨?_, ?_⟩
  · intro c2
    have h := h.1 c2
    exact ⟨h, K⟩
  · intro x3 c4
    have h := h.2 x3 c4
    refine ⟨?_, ?_⟩
    · intro c5
      have h := h.1 c5
      exact ⟨h, K⟩
    · intro c6
      have h := h.2 c6
      obtain ⟨b7, e8, h⟩ := h
      refine ⟨b7, e8, ?_⟩
      obtain ⟨c9, h⟩ := h
      refine ⟨c9, ?_⟩
      intro x11 e10
      have h := h x11 e10
      refine ⟨?_, ?_⟩
      · intro c12
        have h := h.1 c12
        exact ⟨h, K⟩
      · intro c13
        have h := h.2 c13
        exact ⟨h, K⟩
theorem kh_X11_isPlace {Q : Int32 → HS → Prop} {v0 : Nat} {v1 : Int32} {S : HS} (h : P_X11_isPlace v0 v1 Q S) : P_X11_isPlace v0 v1 (fun r T => Q r T ∧ KH S T) S := kh_X11_isPlace_0 h (kh_rf S)
set_option maxRecDepth 20000 in
set_option maxHeartbeats 1000000 in
theorem kh_X11_day_21 {Q : Int32 → HS → Prop} {v0 : Nat} {S0 S : HS} (h : P_X11_day_21 Q v0 S) (K : KH S0 S) : P_X11_day_21 (fun r T => Q r T ∧ KH S0 T) v0 S := by
  delta P_X11_day_21 at h ⊢
  obtain ⟨c1, h⟩ := h
  refine ⟨c1, ?_⟩
  refine cm_X11_refused (kh_X11_refused h) h (fun x2 x3 hp h g4 => ?_)
  have h := h g4
  have K := kh_tr K hp.2
  exact ⟨h, K⟩
set_option maxRecDepth 20000 in
set_option maxHeartbeats 1000000 in
theorem kh_X11_day_50 {Q : Int32 → HS → Prop} {v0 : Nat} {S0 S : HS} (h : P_X11_day_50 Q v0 S) (K : KH S0 S) : P_X11_day_50 (fun r T => Q r T ∧ KH S0 T) v0 S := by
  delta P_X11_day_50 at h ⊢
  obtain ⟨c1, h⟩ := h
  refine ⟨c1, ?_⟩
  refine cm_X11_refused (kh_X11_refused h) h (fun x2 x3 hp h g4 => ?_)
  have h := h g4
  have K := kh_tr K hp.2
  exact ⟨h, K⟩
set_option maxRecDepth 20000 in
set_option maxHeartbeats 1000000 in
theorem kh_X11_day_134 {Q : Int32 → HS → Prop} {X73 X73_2 : Nat → Int32 → Int32 → Int32 → Int32 → HS → Prop} {v0 : Nat} {v2 : Int32} {v3 : Int32} {v5 : Int32} {v6 : Int32} {s0 : Nat} {s1 : Int32} {s2 : Int32} {S0 S : HS} (h : P_X11_day_134 Q X73 v0 v2 v3 v5 v6 s0 s1 s2 S) (K : KH S0 S) (hX73 : ∀ (u0 : Nat) (u1 : Int32) (u2 : Int32) (u3 : Int32) (u4 : Int32) (u5 : HS), X73 u0 u1 u2 u3 u4 u5 → KH S0 u5 → X73_2 u0 u1 u2 u3 u4 u5) : P_X11_day_134 (fun r T => Q r T ∧ KH S0 T) X73_2 v0 v2 v3 v5 v6 s0 s1 s2 S := by
  delta P_X11_day_134 at h ⊢
  obtain ⟨c1, h⟩ := h
  refine ⟨c1, ?_⟩
  intro x3 e2
  have h := h x3 e2
  intro x5 e4
  have h := h x5 e4
  have K := kh_I K e4
  intro x7 e6
  have h := h x7 e6
  exact hX73 _ _ _ _ _ _ h K
set_option maxRecDepth 20000 in
set_option maxHeartbeats 1000000 in
theorem khB_X11_day_147 {Q : Int32 → HS → Prop} {X147 X147_2 : Nat → Int32 → Int32 → Int32 → HS → Prop} {v0 : Nat} {v2 : Int32} {v3 : Int32} {v6 : Int32} {S0 S : HS} (h : B_X11_day_147 Q X147 v0 v2 v3 v6 S) (K : KH S0 S) (hX147 : ∀ (u0 : Nat) (u1 : Int32) (u2 : Int32) (u3 : Int32) (u4 : HS), X147 u0 u1 u2 u3 u4 → KH S0 u4 → X147_2 u0 u1 u2 u3 u4) : B_X11_day_147 (fun r T => Q r T ∧ KH S0 T) X147_2 v0 v2 v3 v6 S := by
  delta B_X11_day_147 at h ⊢
  refine ⟨?_, ?_⟩
  · intro c1
    have h := h.1 c1
    obtain ⟨c2, h⟩ := h
    refine ⟨c2, ?_⟩
    obtain ⟨b3, e4, h⟩ := h
    refine ⟨b3, e4, ?_⟩
    obtain ⟨c5, h⟩ := h
    refine ⟨c5, ?_⟩
    intro x7 e6
    have h := h x7 e6
    obtain ⟨c8, h⟩ := h
    refine ⟨c8, ?_⟩
    intro x10 e9
    have h := h x10 e9
    have K := kh_J K e9
    obtain ⟨b11, e12, h⟩ := h
    refine ⟨b11, e12, ?_⟩
    obtain ⟨c13, h⟩ := h
    refine ⟨c13, ?_⟩
    intro x15 e14
    have h := h x15 e14
    obtain ⟨c16, h⟩ := h
    refine ⟨c16, ?_⟩
    intro x18 e17
    have h := h x18 e17
    have K := kh_J K e17
    intro x20 e19
    have h := h x20 e19
    have K := kh_I K e19
    intro x22 e21
    have h := h x22 e21
    have K := kh_I K e21
    intro x24 e23
    have h := h x24 e23
    refine cm_X11_good (kh_X11_good h) h (fun x25 x26 hp h g27 => ?_)
    have h := h g27
    have K := kh_tr K hp.2
    exact ⟨h, K⟩
  · intro c28
    have h := h.2 c28
    obtain ⟨c29, h⟩ := h
    refine ⟨c29, ?_⟩
    obtain ⟨b30, e31, h⟩ := h
    refine ⟨b30, e31, ?_⟩
    obtain ⟨c32, h⟩ := h
    refine ⟨c32, ?_⟩
    obtain ⟨c33, h⟩ := h
    refine ⟨c33, ?_⟩
    intro x35 e34
    have h := h x35 e34
    have K := kh_J K e34
    intro x37 e36
    have h := h x37 e36
    exact hX147 _ _ _ _ _ h K
theorem kh_X11_day_147 {Q : Int32 → HS → Prop} {v0 : Nat} {v2 : Int32} {v3 : Int32} {v6 : Int32} {S0 S : HS} (h : P_X11_day_147 Q v0 v2 v3 v6 S) (K : KH S0 S) : P_X11_day_147 (fun r T => Q r T ∧ KH S0 T) v0 v2 v3 v6 S := h (fun v0 v2 v3 v6 S => KH S0 S → P_X11_day_147 (fun r T => Q r T ∧ KH S0 T) v0 v2 v3 v6 S) (fun v0 v2 v3 v6 S hB K => fd_X11_day_147 (khB_X11_day_147 hB K (fun _ _ _ _ _ hx K => hx K))) K
set_option maxRecDepth 20000 in
set_option maxHeartbeats 1000000 in
theorem khB_X11_day_73 {Q : Int32 → HS → Prop} {X73 X73_2 : Nat → Int32 → Int32 → Int32 → Int32 → HS → Prop} {v0 : Nat} {v2 : Int32} {v3 : Int32} {v5 : Int32} {v6 : Int32} {S0 S : HS} (h : B_X11_day_73 Q X73 v0 v2 v3 v5 v6 S) (K : KH S0 S) (hX73 : ∀ (u0 : Nat) (u1 : Int32) (u2 : Int32) (u3 : Int32) (u4 : Int32) (u5 : HS), X73 u0 u1 u2 u3 u4 u5 → KH S0 u5 → X73_2 u0 u1 u2 u3 u4 u5) : B_X11_day_73 (fun r T => Q r T ∧ KH S0 T) X73_2 v0 v2 v3 v5 v6 S := by
  delta B_X11_day_73 at h ⊢
  obtain ⟨c1, h⟩ := h
  refine ⟨c1, ?_⟩
  obtain ⟨b2, e3, h⟩ := h
  refine ⟨b2, e3, ?_⟩
  obtain ⟨c4, h⟩ := h
  refine ⟨c4, ?_⟩
  intro x6 e5
  have h := h x6 e5
  refine ⟨?_, ?_⟩
  · intro c7
    have h := h.1 c7
    exact kh_X11_day_147 h K
  · intro c8
    have h := h.2 c8
    intro x10 e9
    have h := h x10 e9
    intro x12 e11
    have h := h x12 e11
    intro x14 e13
    have h := h x14 e13
    intro x16 e15
    have h := h x16 e15
    obtain ⟨b17, e18, h⟩ := h
    refine ⟨b17, e18, ?_⟩
    obtain ⟨c19, h⟩ := h
    refine ⟨c19, ?_⟩
    obtain ⟨b20, e21, h⟩ := h
    refine ⟨b20, e21, ?_⟩
    obtain ⟨c22, h⟩ := h
    refine ⟨c22, ?_⟩
    obtain ⟨c23, h⟩ := h
    refine ⟨c23, ?_⟩
    intro x25 e24
    have h := h x25 e24
    refine ⟨?_, ?_⟩
    · intro c26
      have h := h.1 c26
      exact kh_X11_day_134 h K hX73
    · intro c27
      have h := h.2 c27
      exact kh_X11_day_134 h K hX73
theorem kh_X11_day_73 {Q : Int32 → HS → Prop} {v0 : Nat} {v2 : Int32} {v3 : Int32} {v5 : Int32} {v6 : Int32} {S0 S : HS} (h : P_X11_day_73 Q v0 v2 v3 v5 v6 S) (K : KH S0 S) : P_X11_day_73 (fun r T => Q r T ∧ KH S0 T) v0 v2 v3 v5 v6 S := h (fun v0 v2 v3 v5 v6 S => KH S0 S → P_X11_day_73 (fun r T => Q r T ∧ KH S0 T) v0 v2 v3 v5 v6 S) (fun v0 v2 v3 v5 v6 S hB K => fd_X11_day_73 (khB_X11_day_73 hB K (fun _ _ _ _ _ _ hx K => hx K))) K
set_option maxRecDepth 20000 in
set_option maxHeartbeats 1000000 in
theorem kh_X11_day_0 {Q : Int32 → HS → Prop} {v0 : Nat} {v1 : Int32} {v2 : Int32} {v3 : Int32} {v4 : Int32} {S0 S : HS} (h : P_X11_day_0 Q v0 v1 v2 v3 v4 S) (K : KH S0 S) : P_X11_day_0 (fun r T => Q r T ∧ KH S0 T) v0 v1 v2 v3 v4 S := by
  delta P_X11_day_0 at h ⊢
  obtain ⟨c1, h⟩ := h
  refine ⟨c1, ?_⟩
  intro x3 e2
  have h := h x3 e2
  have K := kh_I K e2
  refine cm_X11_isWalker (kh_X11_isWalker h) h (fun x4 x5 hp h g6 g7 => ?_)
  have h := h g6 g7
  have K := kh_tr K hp.2
  refine ⟨?_, ?_⟩
  · intro c8
    have h := h.1 c8
    exact kh_X11_day_21 h K
  · intro c9
    have h := h.2 c9
    refine cm_X11_isPlace (kh_X11_isPlace h) h (fun x10 x11 hp h g12 g13 => ?_)
    have h := h g12 g13
    have K := kh_tr K hp.2
    refine ⟨?_, ?_⟩
    · intro c14
      have h := h.1 c14
      refine cm_X11_in (kh_X11_in h) h (fun x15 x16 hp h g17 g18 => ?_)
      have h := h g17 g18
      have K := kh_tr K hp.2
      refine ⟨?_, ?_⟩
      · intro c19
        have h := h.1 c19
        exact kh_X11_day_50 h K
      · intro c20
        have h := h.2 c20
        refine cm_X11_in (kh_X11_in h) h (fun x21 x22 hp h g23 g24 => ?_)
        have h := h g23 g24
        have K := kh_tr K hp.2
        refine ⟨?_, ?_⟩
        · intro c25
          have h := h.1 c25
          intro x27 e26
          have h := h x27 e26
          have K := kh_I K e26
          intro x29 e28
          have h := h x29 e28
          have K := kh_I K e28
          exact kh_X11_day_73 h K
        · intro c30
          have h := h.2 c30
          exact kh_X11_day_50 h K
    · intro c31
      have h := h.2 c31
      exact kh_X11_day_21 h K
theorem kh_X11_day {Q : Int32 → HS → Prop} {v0 : Nat} {v1 : Int32} {v2 : Int32} {v3 : Int32} {v4 : Int32} {S : HS} (h : P_X11_day v0 v1 v2 v3 v4 Q S) : P_X11_day v0 v1 v2 v3 v4 (fun r T => Q r T ∧ KH S T) S := kh_X11_day_0 h (kh_rf S)
set_option maxRecDepth 20000 in
set_option maxHeartbeats 1000000 in
theorem kh_X11_wetAtBest_0 {Q : Int64 → HS → Prop} {v0 : Nat} {v1 : Int32} {v2 : Int32} {v3 : Int32} {v4 : Int32} {S0 S : HS} (h : P_X11_wetAtBest_0 Q v0 v1 v2 v3 v4 S) (K : KH S0 S) : P_X11_wetAtBest_0 (fun r T => Q r T ∧ KH S0 T) v0 v1 v2 v3 v4 S := by
  delta P_X11_wetAtBest_0 at h ⊢
  obtain ⟨c1, h⟩ := h
  refine ⟨c1, ?_⟩
  refine cm_X11_bestOf (kh_X11_bestOf h) h (fun x2 x3 hp h g4 => ?_)
  have h := h g4
  have K := kh_tr K hp.2
  refine cm_X11_wetOf (kh_X11_wetOf h) h (fun x5 x6 hp h g7 => ?_)
  have h := h g7
  have K := kh_tr K hp.2
  exact ⟨h, K⟩
theorem kh_X11_wetAtBest {Q : Int64 → HS → Prop} {v0 : Nat} {v1 : Int32} {v2 : Int32} {v3 : Int32} {v4 : Int32} {S : HS} (h : P_X11_wetAtBest v0 v1 v2 v3 v4 Q S) : P_X11_wetAtBest v0 v1 v2 v3 v4 (fun r T => Q r T ∧ KH S T) S := kh_X11_wetAtBest_0 h (kh_rf S)
set_option maxRecDepth 20000 in
set_option maxHeartbeats 1000000 in
theorem kh_X11_driest_30 {Q : Int32 → HS → Prop} {v0 : Nat} {S0 S : HS} (h : P_X11_driest_30 Q v0 S) (K : KH S0 S) : P_X11_driest_30 (fun r T => Q r T ∧ KH S0 T) v0 S := by
  delta P_X11_driest_30 at h ⊢
  obtain ⟨c1, h⟩ := h
  refine ⟨c1, ?_⟩
  refine cm_X11_refused (kh_X11_refused h) h (fun x2 x3 hp h g4 => ?_)
  have h := h g4
  have K := kh_tr K hp.2
  exact ⟨h, K⟩
set_option maxRecDepth 20000 in
set_option maxHeartbeats 1000000 in
theorem kh_X11_driest_105 {Q : Int32 → HS → Prop} {X45 X45_2 : Nat → Int32 → Int32 → Int32 → Int32 → Int64 → Int32 → HS → Prop} {v0 : Nat} {v1 : Int32} {v2 : Int32} {v3 : Int32} {v4 : Int32} {v5 : Int64} {v7 : Int32} {S0 S : HS} (h : P_X11_driest_105 Q X45 v0 v1 v2 v3 v4 v5 v7 S) (K : KH S0 S) (hX45 : ∀ (u0 : Nat) (u1 : Int32) (u2 : Int32) (u3 : Int32) (u4 : Int32) (u5 : Int64) (u6 : Int32) (u7 : HS), X45 u0 u1 u2 u3 u4 u5 u6 u7 → KH S0 u7 → X45_2 u0 u1 u2 u3 u4 u5 u6 u7) : P_X11_driest_105 (fun r T => Q r T ∧ KH S0 T) X45_2 v0 v1 v2 v3 v4 v5 v7 S := by
  delta P_X11_driest_105 at h ⊢
  intro x2 e1
  have h := h x2 e1
  exact hX45 _ _ _ _ _ _ _ _ h K
set_option maxRecDepth 20000 in
set_option maxHeartbeats 1000000 in
theorem kh_X11_driest_97 {Q : Int32 → HS → Prop} {X45 X45_2 : Nat → Int32 → Int32 → Int32 → Int32 → Int64 → Int32 → HS → Prop} {v0 : Nat} {v1 : Int32} {v2 : Int32} {v3 : Int32} {v7 : Int32} {v8 : Int64} {S0 S : HS} (h : P_X11_driest_97 Q X45 v0 v1 v2 v3 v7 v8 S) (K : KH S0 S) (hX45 : ∀ (u0 : Nat) (u1 : Int32) (u2 : Int32) (u3 : Int32) (u4 : Int32) (u5 : Int64) (u6 : Int32) (u7 : HS), X45 u0 u1 u2 u3 u4 u5 u6 u7 → KH S0 u7 → X45_2 u0 u1 u2 u3 u4 u5 u6 u7) : P_X11_driest_97 (fun r T => Q r T ∧ KH S0 T) X45_2 v0 v1 v2 v3 v7 v8 S := by
  delta P_X11_driest_97 at h ⊢
  exact kh_X11_driest_105 h K hX45
set_option maxRecDepth 20000 in
set_option maxHeartbeats 1000000 in
theorem khB_X11_driest_45 {Q : Int32 → HS → Prop} {X45 X45_2 : Nat → Int32 → Int32 → Int32 → Int32 → Int64 → Int32 → HS → Prop} {v0 : Nat} {v1 : Int32} {v2 : Int32} {v3 : Int32} {v4 : Int32} {v5 : Int64} {v7 : Int32} {S0 S : HS} (h : B_X11_driest_45 Q X45 v0 v1 v2 v3 v4 v5 v7 S) (K : KH S0 S) (hX45 : ∀ (u0 : Nat) (u1 : Int32) (u2 : Int32) (u3 : Int32) (u4 : Int32) (u5 : Int64) (u6 : Int32) (u7 : HS), X45 u0 u1 u2 u3 u4 u5 u6 u7 → KH S0 u7 → X45_2 u0 u1 u2 u3 u4 u5 u6 u7) : B_X11_driest_45 (fun r T => Q r T ∧ KH S0 T) X45_2 v0 v1 v2 v3 v4 v5 v7 S := by
  delta B_X11_driest_45 at h ⊢
  obtain ⟨c1, h⟩ := h
  refine ⟨c1, ?_⟩
  obtain ⟨b2, e3, h⟩ := h
  refine ⟨b2, e3, ?_⟩
  obtain ⟨c4, h⟩ := h
  refine ⟨c4, ?_⟩
  intro x6 e5
  have h := h x6 e5
  refine ⟨?_, ?_⟩
  · intro c7
    have h := h.1 c7
    refine ⟨?_, ?_⟩
    · intro c8
      have h := h.1 c8
      refine cm_X11_good (kh_X11_good h) h (fun x9 x10 hp h g11 => ?_)
      have h := h g11
      have K := kh_tr K hp.2
      exact ⟨h, K⟩
    · intro c12
      have h := h.2 c12
      refine cm_X11_refused (kh_X11_refused h) h (fun x13 x14 hp h g15 => ?_)
      have h := h g15
      have K := kh_tr K hp.2
      exact ⟨h, K⟩
  · intro c16
    have h := h.2 c16
    refine cm_X11_wetAtBest (kh_X11_wetAtBest h) h (fun x17 x18 hp h g19 => ?_)
    have h := h g19
    have K := kh_tr K hp.2
    obtain ⟨b20, e21, h⟩ := h
    refine ⟨b20, e21, ?_⟩
    obtain ⟨c22, h⟩ := h
    refine ⟨c22, ?_⟩
    obtain ⟨b23, e24, h⟩ := h
    refine ⟨b23, e24, ?_⟩
    obtain ⟨c25, h⟩ := h
    refine ⟨c25, ?_⟩
    obtain ⟨c26, h⟩ := h
    refine ⟨c26, ?_⟩
    intro x28 e27
    have h := h x28 e27
    intro x30 e29
    have h := h x30 e29
    refine ⟨?_, ?_⟩
    · intro c31
      have h := h.1 c31
      exact kh_X11_driest_97 h K hX45
    · intro c32
      have h := h.2 c32
      refine ⟨?_, ?_⟩
      · intro c33
        have h := h.1 c33
        exact kh_X11_driest_97 h K hX45
      · intro c34
        have h := h.2 c34
        exact kh_X11_driest_105 h K hX45
theorem kh_X11_driest_45 {Q : Int32 → HS → Prop} {v0 : Nat} {v1 : Int32} {v2 : Int32} {v3 : Int32} {v4 : Int32} {v5 : Int64} {v7 : Int32} {S0 S : HS} (h : P_X11_driest_45 Q v0 v1 v2 v3 v4 v5 v7 S) (K : KH S0 S) : P_X11_driest_45 (fun r T => Q r T ∧ KH S0 T) v0 v1 v2 v3 v4 v5 v7 S := h (fun v0 v1 v2 v3 v4 v5 v7 S => KH S0 S → P_X11_driest_45 (fun r T => Q r T ∧ KH S0 T) v0 v1 v2 v3 v4 v5 v7 S) (fun v0 v1 v2 v3 v4 v5 v7 S hB K => fd_X11_driest_45 (khB_X11_driest_45 hB K (fun _ _ _ _ _ _ _ _ hx K => hx K))) K
set_option maxRecDepth 20000 in
set_option maxHeartbeats 1000000 in
theorem kh_X11_driest_0 {Q : Int32 → HS → Prop} {v0 : Nat} {v1 : Int32} {v2 : Int32} {v3 : Int32} {S0 S : HS} (h : P_X11_driest_0 Q v0 v1 v2 v3 S) (K : KH S0 S) : P_X11_driest_0 (fun r T => Q r T ∧ KH S0 T) v0 v1 v2 v3 S := by
  delta P_X11_driest_0 at h ⊢
  obtain ⟨c1, h⟩ := h
  refine ⟨c1, ?_⟩
  intro x3 e2
  have h := h x3 e2
  have K := kh_I K e2
  refine cm_X11_isWalker (kh_X11_isWalker h) h (fun x4 x5 hp h g6 g7 => ?_)
  have h := h g6 g7
  have K := kh_tr K hp.2
  refine ⟨?_, ?_⟩
  · intro c8
    have h := h.1 c8
    exact kh_X11_driest_30 h K
  · intro c9
    have h := h.2 c9
    refine cm_X11_isRoad (kh_X11_isRoad h) h (fun x10 x11 hp h g12 g13 => ?_)
    have h := h g12 g13
    have K := kh_tr K hp.2
    refine ⟨?_, ?_⟩
    · intro c14
      have h := h.1 c14
      exact kh_X11_driest_30 h K
    · intro c15
      have h := h.2 c15
      refine cm_X11_in (kh_X11_in h) h (fun x16 x17 hp h g18 g19 => ?_)
      have h := h g18 g19
      have K := kh_tr K hp.2
      refine ⟨?_, ?_⟩
      · intro c20
        have h := h.1 c20
        exact kh_X11_driest_45 h K
      · intro c21
        have h := h.2 c21
        exact kh_X11_driest_30 h K
theorem kh_X11_driest {Q : Int32 → HS → Prop} {v0 : Nat} {v1 : Int32} {v2 : Int32} {v3 : Int32} {S : HS} (h : P_X11_driest v0 v1 v2 v3 Q S) : P_X11_driest v0 v1 v2 v3 (fun r T => Q r T ∧ KH S T) S := kh_X11_driest_0 h (kh_rf S)
set_option maxRecDepth 20000 in
set_option maxHeartbeats 1000000 in
theorem kh_X11_drips_0 {Q : Int64 → HS → Prop} {v0 : Nat} {v1 : Int32} {v2 : Int32} {S0 S : HS} (h : P_X11_drips_0 Q v0 v1 v2 S) (K : KH S0 S) : P_X11_drips_0 (fun r T => Q r T ∧ KH S0 T) v0 v1 v2 S := by
  delta P_X11_drips_0 at h ⊢
  obtain ⟨c1, h⟩ := h
  refine ⟨c1, ?_⟩
  obtain ⟨b2, e3, h⟩ := h
  refine ⟨b2, e3, ?_⟩
  obtain ⟨c4, h⟩ := h
  refine ⟨c4, ?_⟩
  obtain ⟨b5, e6, h⟩ := h
  refine ⟨b5, e6, ?_⟩
  obtain ⟨c7, h⟩ := h
  refine ⟨c7, ?_⟩
  obtain ⟨c8, h⟩ := h
  refine ⟨c8, ?_⟩
  intro x10 e9
  have h := h x10 e9
  obtain ⟨b11, e12, h⟩ := h
  refine ⟨b11, e12, ?_⟩
  obtain ⟨c13, h⟩ := h
  refine ⟨c13, ?_⟩
  obtain ⟨b14, e15, h⟩ := h
  refine ⟨b14, e15, ?_⟩
  obtain ⟨c16, h⟩ := h
  refine ⟨c16, ?_⟩
  obtain ⟨c17, h⟩ := h
  refine ⟨c17, ?_⟩
  intro x19 e18
  have h := h x19 e18
  obtain ⟨b20, e21, h⟩ := h
  refine ⟨b20, e21, ?_⟩
  obtain ⟨c22, h⟩ := h
  refine ⟨c22, ?_⟩
  refine cm_X10_shield (kh_X10_shield h) h (fun x23 x24 hp h g25 => ?_)
  have h := h g25
  have K := kh_tr K hp.2
  refine cm_X11_less (kh_X11_less h) h (fun x26 x27 hp h g28 => ?_)
  have h := h g28
  have K := kh_tr K hp.2
  exact ⟨h, K⟩
theorem kh_X11_drips {Q : Int64 → HS → Prop} {v0 : Nat} {v1 : Int32} {v2 : Int32} {S : HS} (h : P_X11_drips v0 v1 v2 Q S) : P_X11_drips v0 v1 v2 (fun r T => Q r T ∧ KH S T) S := kh_X11_drips_0 h (kh_rf S)
set_option maxRecDepth 20000 in
set_option maxHeartbeats 1000000 in
theorem kh_X11_eatsSign_21 {Q : Int32 → HS → Prop} {v0 : Nat} {s0 : Int32} {S0 S : HS} (h : P_X11_eatsSign_21 Q v0 s0 S) (K : KH S0 S) : P_X11_eatsSign_21 (fun r T => Q r T ∧ KH S0 T) v0 s0 S := by
  delta P_X11_eatsSign_21 at h ⊢
  refine ⟨?_, ?_⟩
  · intro c1
    have h := h.1 c1
    obtain ⟨c2, h⟩ := h
    refine ⟨c2, ?_⟩
    exact ⟨h, K⟩
  · intro c3
    have h := h.2 c3
    obtain ⟨c4, h⟩ := h
    refine ⟨c4, ?_⟩
    refine cm_X11_goesOn (kh_X11_goesOn h) h (fun x5 hp h g6 => ?_)
    have h := h g6
    have K := kh_tr K hp.2
    obtain ⟨c7, h⟩ := h
    refine ⟨c7, ?_⟩
    exact ⟨h, K⟩
set_option maxRecDepth 20000 in
set_option maxHeartbeats 1000000 in
theorem kh_X11_eatsSign_20 {Q : Int32 → HS → Prop} {v0 : Nat} {S0 S : HS} (h : P_X11_eatsSign_20 Q v0 S) (K : KH S0 S) : P_X11_eatsSign_20 (fun r T => Q r T ∧ KH S0 T) v0 S := by
  delta P_X11_eatsSign_20 at h ⊢
  exact kh_X11_eatsSign_21 h K
set_option maxRecDepth 20000 in
set_option maxHeartbeats 1000000 in
theorem kh_X11_eatsSign_0 {Q : Int32 → HS → Prop} {v0 : Nat} {v1 : Int32} {S0 S : HS} (h : P_X11_eatsSign_0 Q v0 v1 S) (K : KH S0 S) : P_X11_eatsSign_0 (fun r T => Q r T ∧ KH S0 T) v0 v1 S := by
  delta P_X11_eatsSign_0 at h ⊢
  obtain ⟨c1, h⟩ := h
  refine ⟨c1, ?_⟩
  intro x3 e2
  have h := h x3 e2
  refine ⟨?_, ?_⟩
  · intro c4
    have h := h.1 c4
    exact kh_X11_eatsSign_20 h K
  · intro c5
    have h := h.2 c5
    intro x7 e6
    have h := h x7 e6
    refine ⟨?_, ?_⟩
    · intro c8
      have h := h.1 c8
      exact kh_X11_eatsSign_20 h K
    · intro c9
      have h := h.2 c9
      exact kh_X11_eatsSign_21 h K
theorem kh_X11_eatsSign {Q : Int32 → HS → Prop} {v0 : Nat} {v1 : Int32} {S : HS} (h : P_X11_eatsSign v0 v1 Q S) : P_X11_eatsSign v0 v1 (fun r T => Q r T ∧ KH S T) S := kh_X11_eatsSign_0 h (kh_rf S)
set_option maxRecDepth 20000 in
set_option maxHeartbeats 1000000 in
theorem khB_X11_wordOf_4 {Q : Int64 → HS → Prop} {X4 X4_2 : Nat → Int64 → Int32 → HS → Prop} {v0 : Nat} {v1 : Int64} {v3 : Int32} {S0 S : HS} (h : B_X11_wordOf_4 Q X4 v0 v1 v3 S) (K : KH S0 S) (hX4 : ∀ (u0 : Nat) (u1 : Int64) (u2 : Int32) (u3 : HS), X4 u0 u1 u2 u3 → KH S0 u3 → X4_2 u0 u1 u2 u3) : B_X11_wordOf_4 (fun r T => Q r T ∧ KH S0 T) X4_2 v0 v1 v3 S := by
  delta B_X11_wordOf_4 at h ⊢
  obtain ⟨c1, h⟩ := h
  refine ⟨c1, ?_⟩
  intro x3 e2
  have h := h x3 e2
  refine ⟨?_, ?_⟩
  · intro c4
    have h := h.1 c4
    exact ⟨h, K⟩
  · intro c5
    have h := h.2 c5
    obtain ⟨c6, h⟩ := h
    refine ⟨c6, ?_⟩
    obtain ⟨c7, h⟩ := h
    refine ⟨c7, ?_⟩
    intro x9 e8
    have h := h x9 e8
    intro x11 e10
    have h := h x11 e10
    intro x13 e12
    have h := h x13 e12
    exact hX4 _ _ _ _ h K
theorem kh_X11_wordOf_4 {Q : Int64 → HS → Prop} {v0 : Nat} {v1 : Int64} {v3 : Int32} {S0 S : HS} (h : P_X11_wordOf_4 Q v0 v1 v3 S) (K : KH S0 S) : P_X11_wordOf_4 (fun r T => Q r T ∧ KH S0 T) v0 v1 v3 S := h (fun v0 v1 v3 S => KH S0 S → P_X11_wordOf_4 (fun r T => Q r T ∧ KH S0 T) v0 v1 v3 S) (fun v0 v1 v3 S hB K => fd_X11_wordOf_4 (khB_X11_wordOf_4 hB K (fun _ _ _ _ hx K => hx K))) K
set_option maxRecDepth 20000 in
set_option maxHeartbeats 1000000 in
theorem kh_X11_wordOf_0 {Q : Int64 → HS → Prop} {v0 : Nat} {S0 S : HS} (h : P_X11_wordOf_0 Q v0 S) (K : KH S0 S) : P_X11_wordOf_0 (fun r T => Q r T ∧ KH S0 T) v0 S := by
  delta P_X11_wordOf_0 at h ⊢
  exact kh_X11_wordOf_4 h K
theorem kh_X11_wordOf {Q : Int64 → HS → Prop} {v0 : Nat} {S : HS} (h : P_X11_wordOf v0 Q S) : P_X11_wordOf v0 (fun r T => Q r T ∧ KH S T) S := kh_X11_wordOf_0 h (kh_rf S)
set_option maxRecDepth 20000 in
set_option maxHeartbeats 1000000 in
theorem kh_X11_isWord_0 {Q : Int32 → HS → Prop} {v0 : Nat} {v1 : Nat} {S0 S : HS} (h : P_X11_isWord_0 Q v0 v1 S) (K : KH S0 S) : P_X11_isWord_0 (fun r T => Q r T ∧ KH S0 T) v0 v1 S := by
  delta P_X11_isWord_0 at h ⊢
  obtain ⟨c1, h⟩ := h
  refine ⟨c1, ?_⟩
  intro x3 e2
  have h := h x3 e2
  refine ⟨?_, ?_⟩
  · intro c4
    have h := h.1 c4
    exact ⟨h, K⟩
  · intro c5
    have h := h.2 c5
    intro x7 e6
    have h := h x7 e6
    refine cm_X11_wordOf (kh_X11_wordOf h) h (fun x8 x9 hp h g10 => ?_)
    have h := h g10
    have K := kh_tr K hp.2
    refine ⟨?_, ?_⟩
    · intro c11
      have h := h.1 c11
      exact ⟨h, K⟩
    · intro c12
      have h := h.2 c12
      exact ⟨h, K⟩
theorem kh_X11_isWord {Q : Int32 → HS → Prop} {v0 : Nat} {v1 : Nat} {S : HS} (h : P_X11_isWord v0 v1 Q S) : P_X11_isWord v0 v1 (fun r T => Q r T ∧ KH S T) S := kh_X11_isWord_0 h (kh_rf S)
set_option maxRecDepth 20000 in
set_option maxHeartbeats 1000000 in
theorem kh_X11_eatsWord_0 {Q : Int32 → HS → Prop} {v0 : Nat} {v1 : Nat} {S0 S : HS} (h : P_X11_eatsWord_0 Q v0 v1 S) (K : KH S0 S) : P_X11_eatsWord_0 (fun r T => Q r T ∧ KH S0 T) v0 v1 S := by
  delta P_X11_eatsWord_0 at h ⊢
  obtain ⟨c1, h⟩ := h
  refine ⟨c1, ?_⟩
  refine cm_X11_isWord (kh_X11_isWord h) h (fun x2 x3 hp h g4 g5 => ?_)
  have h := h g4 g5
  have K := kh_tr K hp.2
  refine ⟨?_, ?_⟩
  · intro c6
    have h := h.1 c6
    obtain ⟨c7, h⟩ := h
    refine ⟨c7, ?_⟩
    exact ⟨h, K⟩
  · intro c8
    have h := h.2 c8
    refine cm_X11_goesOn (kh_X11_goesOn h) h (fun x9 hp h g10 => ?_)
    have h := h g10
    have K := kh_tr K hp.2
    obtain ⟨c11, h⟩ := h
    refine ⟨c11, ?_⟩
    exact ⟨h, K⟩
theorem kh_X11_eatsWord {Q : Int32 → HS → Prop} {v0 : Nat} {v1 : Nat} {S : HS} (h : P_X11_eatsWord v0 v1 Q S) : P_X11_eatsWord v0 v1 (fun r T => Q r T ∧ KH S T) S := kh_X11_eatsWord_0 h (kh_rf S)
set_option maxRecDepth 20000 in
set_option maxHeartbeats 1000000 in
theorem kh_X11_even_39 {Q : Int32 → HS → Prop} {v0 : Nat} {S0 S : HS} (h : P_X11_even_39 Q v0 S) (K : KH S0 S) : P_X11_even_39 (fun r T => Q r T ∧ KH S0 T) v0 S := by
  delta P_X11_even_39 at h ⊢
  obtain ⟨c1, h⟩ := h
  refine ⟨c1, ?_⟩
  refine cm_X11_refused (kh_X11_refused h) h (fun x2 x3 hp h g4 => ?_)
  have h := h g4
  have K := kh_tr K hp.2
  exact ⟨h, K⟩
set_option maxRecDepth 20000 in
set_option maxHeartbeats 1000000 in
theorem kh_X11_even_111 {Q : Int32 → HS → Prop} {X59 X59_2 : Nat → Int32 → Int32 → Int32 → Int32 → Int32 → Int32 → HS → Prop} {v0 : Nat} {v1 : Int32} {v2 : Int32} {v3 : Int32} {v4 : Int32} {v6 : Int32} {s0 : Int32} {S0 S : HS} (h : P_X11_even_111 Q X59 v0 v1 v2 v3 v4 v6 s0 S) (K : KH S0 S) (hX59 : ∀ (u0 : Nat) (u1 : Int32) (u2 : Int32) (u3 : Int32) (u4 : Int32) (u5 : Int32) (u6 : Int32) (u7 : HS), X59 u0 u1 u2 u3 u4 u5 u6 u7 → KH S0 u7 → X59_2 u0 u1 u2 u3 u4 u5 u6 u7) : P_X11_even_111 (fun r T => Q r T ∧ KH S0 T) X59_2 v0 v1 v2 v3 v4 v6 s0 S := by
  delta P_X11_even_111 at h ⊢
  intro x2 e1
  have h := h x2 e1
  exact hX59 _ _ _ _ _ _ _ _ h K
set_option maxRecDepth 20000 in
set_option maxHeartbeats 1000000 in
theorem kh_X11_even_110 {Q : Int32 → HS → Prop} {X59 X59_2 : Nat → Int32 → Int32 → Int32 → Int32 → Int32 → Int32 → HS → Prop} {v0 : Nat} {v1 : Int32} {v2 : Int32} {v3 : Int32} {v4 : Int32} {v6 : Int32} {S0 S : HS} (h : P_X11_even_110 Q X59 v0 v1 v2 v3 v4 v6 S) (K : KH S0 S) (hX59 : ∀ (u0 : Nat) (u1 : Int32) (u2 : Int32) (u3 : Int32) (u4 : Int32) (u5 : Int32) (u6 : Int32) (u7 : HS), X59 u0 u1 u2 u3 u4 u5 u6 u7 → KH S0 u7 → X59_2 u0 u1 u2 u3 u4 u5 u6 u7) : P_X11_even_110 (fun r T => Q r T ∧ KH S0 T) X59_2 v0 v1 v2 v3 v4 v6 S := by
  delta P_X11_even_110 at h ⊢
  exact kh_X11_even_111 h K hX59
set_option maxRecDepth 20000 in
set_option maxHeartbeats 1000000 in
theorem kh_X11_even_130 {Q : Int32 → HS → Prop} {s0 : Nat} {s1 : Int32} {S0 S : HS} (h : P_X11_even_130 Q s0 s1 S) (K : KH S0 S) : P_X11_even_130 (fun r T => Q r T ∧ KH S0 T) s0 s1 S := by
  delta P_X11_even_130 at h ⊢
  obtain ⟨c1, h⟩ := h
  refine ⟨c1, ?_⟩
  refine cm_X11_good (kh_X11_good h) h (fun x2 x3 hp h g4 => ?_)
  have h := h g4
  have K := kh_tr K hp.2
  exact ⟨h, K⟩
set_option maxRecDepth 20000 in
set_option maxHeartbeats 1000000 in
theorem khB_X11_even_59 {Q : Int32 → HS → Prop} {X59 X59_2 : Nat → Int32 → Int32 → Int32 → Int32 → Int32 → Int32 → HS → Prop} {v0 : Nat} {v1 : Int32} {v2 : Int32} {v3 : Int32} {v4 : Int32} {v5 : Int32} {v6 : Int32} {S0 S : HS} (h : B_X11_even_59 Q X59 v0 v1 v2 v3 v4 v5 v6 S) (K : KH S0 S) (hX59 : ∀ (u0 : Nat) (u1 : Int32) (u2 : Int32) (u3 : Int32) (u4 : Int32) (u5 : Int32) (u6 : Int32) (u7 : HS), X59 u0 u1 u2 u3 u4 u5 u6 u7 → KH S0 u7 → X59_2 u0 u1 u2 u3 u4 u5 u6 u7) : B_X11_even_59 (fun r T => Q r T ∧ KH S0 T) X59_2 v0 v1 v2 v3 v4 v5 v6 S := by
  delta B_X11_even_59 at h ⊢
  obtain ⟨c1, h⟩ := h
  refine ⟨c1, ?_⟩
  obtain ⟨b2, e3, h⟩ := h
  refine ⟨b2, e3, ?_⟩
  obtain ⟨c4, h⟩ := h
  refine ⟨c4, ?_⟩
  obtain ⟨b5, e6, h⟩ := h
  refine ⟨b5, e6, ?_⟩
  obtain ⟨c7, h⟩ := h
  refine ⟨c7, ?_⟩
  obtain ⟨c8, h⟩ := h
  refine ⟨c8, ?_⟩
  intro x10 e9
  have h := h x10 e9
  refine ⟨?_, ?_⟩
  · intro c11
    have h := h.1 c11
    refine ⟨?_, ?_⟩
    · intro c12
      have h := h.1 c12
      exact kh_X11_even_130 h K
    · intro c13
      have h := h.2 c13
      exact kh_X11_even_130 h K
  · intro c14
    have h := h.2 c14
    refine ⟨?_, ?_⟩
    · intro c15
      have h := h.1 c15
      exact kh_X11_even_110 h K hX59
    · intro c16
      have h := h.2 c16
      refine cm_X11_wetOf (kh_X11_wetOf h) h (fun x17 x18 hp h g19 => ?_)
      have h := h g19
      have K := kh_tr K hp.2
      refine cm_X11_wetOf (kh_X11_wetOf h) h (fun x20 x21 hp h g22 => ?_)
      have h := h g22
      have K := kh_tr K hp.2
      refine ⟨?_, ?_⟩
      · intro c23
        have h := h.1 c23
        exact kh_X11_even_110 h K hX59
      · intro c24
        have h := h.2 c24
        exact kh_X11_even_111 h K hX59
theorem kh_X11_even_59 {Q : Int32 → HS → Prop} {v0 : Nat} {v1 : Int32} {v2 : Int32} {v3 : Int32} {v4 : Int32} {v5 : Int32} {v6 : Int32} {S0 S : HS} (h : P_X11_even_59 Q v0 v1 v2 v3 v4 v5 v6 S) (K : KH S0 S) : P_X11_even_59 (fun r T => Q r T ∧ KH S0 T) v0 v1 v2 v3 v4 v5 v6 S := h (fun v0 v1 v2 v3 v4 v5 v6 S => KH S0 S → P_X11_even_59 (fun r T => Q r T ∧ KH S0 T) v0 v1 v2 v3 v4 v5 v6 S) (fun v0 v1 v2 v3 v4 v5 v6 S hB K => fd_X11_even_59 (khB_X11_even_59 hB K (fun _ _ _ _ _ _ _ _ hx K => hx K))) K
set_option maxRecDepth 20000 in
set_option maxHeartbeats 1000000 in
theorem kh_X11_even_0 {Q : Int32 → HS → Prop} {v0 : Nat} {v1 : Int32} {v2 : Int32} {v3 : Int32} {v4 : Int32} {S0 S : HS} (h : P_X11_even_0 Q v0 v1 v2 v3 v4 S) (K : KH S0 S) : P_X11_even_0 (fun r T => Q r T ∧ KH S0 T) v0 v1 v2 v3 v4 S := by
  delta P_X11_even_0 at h ⊢
  obtain ⟨c1, h⟩ := h
  refine ⟨c1, ?_⟩
  intro x3 e2
  have h := h x3 e2
  have K := kh_I K e2
  refine cm_X11_isWalker (kh_X11_isWalker h) h (fun x4 x5 hp h g6 g7 => ?_)
  have h := h g6 g7
  have K := kh_tr K hp.2
  refine ⟨?_, ?_⟩
  · intro c8
    have h := h.1 c8
    exact kh_X11_even_39 h K
  · intro c9
    have h := h.2 c9
    refine cm_X11_isRoad (kh_X11_isRoad h) h (fun x10 x11 hp h g12 g13 => ?_)
    have h := h g12 g13
    have K := kh_tr K hp.2
    refine ⟨?_, ?_⟩
    · intro c14
      have h := h.1 c14
      exact kh_X11_even_39 h K
    · intro c15
      have h := h.2 c15
      refine cm_X11_in (kh_X11_in h) h (fun x16 x17 hp h g18 g19 => ?_)
      have h := h g18 g19
      have K := kh_tr K hp.2
      refine ⟨?_, ?_⟩
      · intro c20
        have h := h.1 c20
        exact kh_X11_even_39 h K
      · intro c21
        have h := h.2 c21
        refine cm_X11_isHour (kh_X11_isHour h) h (fun x22 x23 hp h g24 g25 => ?_)
        have h := h g24 g25
        have K := kh_tr K hp.2
        refine ⟨?_, ?_⟩
        · intro c26
          have h := h.1 c26
          obtain ⟨b27, e28, h⟩ := h
          refine ⟨b27, e28, ?_⟩
          obtain ⟨c29, h⟩ := h
          refine ⟨c29, ?_⟩
          obtain ⟨b30, e31, h⟩ := h
          refine ⟨b30, e31, ?_⟩
          obtain ⟨c32, h⟩ := h
          refine ⟨c32, ?_⟩
          obtain ⟨c33, h⟩ := h
          refine ⟨c33, ?_⟩
          intro x35 e34
          have h := h x35 e34
          exact kh_X11_even_59 h K
        · intro c36
          have h := h.2 c36
          exact kh_X11_even_39 h K
theorem kh_X11_even {Q : Int32 → HS → Prop} {v0 : Nat} {v1 : Int32} {v2 : Int32} {v3 : Int32} {v4 : Int32} {S : HS} (h : P_X11_even v0 v1 v2 v3 v4 Q S) : P_X11_even v0 v1 v2 v3 v4 (fun r T => Q r T ∧ KH S T) S := kh_X11_even_0 h (kh_rf S)
set_option maxRecDepth 20000 in
set_option maxHeartbeats 1000000 in
theorem kh_X11_isSpeed_0 {Q : Int32 → HS → Prop} {v0 : Nat} {v1 : Int32} {v2 : Int32} {S0 S : HS} (h : P_X11_isSpeed_0 Q v0 v1 v2 S) (K : KH S0 S) : P_X11_isSpeed_0 (fun r T => Q r T ∧ KH S0 T) v0 v1 v2 S := by
  delta P_X11_isSpeed_0 at h ⊢
  obtain ⟨c1, h⟩ := h
  refine ⟨c1, ?_⟩
  obtain ⟨b2, e3, h⟩ := h
  refine ⟨b2, e3, ?_⟩
  obtain ⟨c4, h⟩ := h
  refine ⟨c4, ?_⟩
  obtain ⟨b5, e6, h⟩ := h
  refine ⟨b5, e6, ?_⟩
  obtain ⟨c7, h⟩ := h
  refine ⟨c7, ?_⟩
  obtain ⟨c8, h⟩ := h
  refine ⟨c8, ?_⟩
  intro x10 e9
  have h := h x10 e9
  obtain ⟨b11, e12, h⟩ := h
  refine ⟨b11, e12, ?_⟩
  obtain ⟨c13, h⟩ := h
  refine ⟨c13, ?_⟩
  obtain ⟨b14, e15, h⟩ := h
  refine ⟨b14, e15, ?_⟩
  obtain ⟨c16, h⟩ := h
  refine ⟨c16, ?_⟩
  obtain ⟨c17, h⟩ := h
  refine ⟨c17, ?_⟩
  intro x19 e18
  have h := h x19 e18
  refine cm_X11_in (kh_X11_in h) h (fun x20 x21 hp h g22 g23 => ?_)
  have h := h g22 g23
  have K := kh_tr K hp.2
  obtain ⟨c24, h⟩ := h
  refine ⟨c24, ?_⟩
  exact ⟨h, K⟩
theorem kh_X11_isSpeed {Q : Int32 → HS → Prop} {v0 : Nat} {v1 : Int32} {v2 : Int32} {S : HS} (h : P_X11_isSpeed v0 v1 v2 Q S) : P_X11_isSpeed v0 v1 v2 (fun r T => Q r T ∧ KH S T) S := kh_X11_isSpeed_0 h (kh_rf S)
set_option maxRecDepth 20000 in
set_option maxHeartbeats 1000000 in
theorem kh_X11_refuses_0 {Q : Int32 → HS → Prop} {v0 : Nat} {v1 : Int32} {v2 : Int32} {v3 : Int32} {v4 : Int32} {v5 : Int32} {S0 S : HS} (h : P_X11_refuses_0 Q v0 v1 v2 v3 v4 v5 S) (K : KH S0 S) : P_X11_refuses_0 (fun r T => Q r T ∧ KH S0 T) v0 v1 v2 v3 v4 v5 S := by
  delta P_X11_refuses_0 at h ⊢
  obtain ⟨c1, h⟩ := h
  refine ⟨c1, ?_⟩
  refine cm_X11_isWalker (kh_X11_isWalker h) h (fun x2 x3 hp h g4 g5 => ?_)
  have h := h g4 g5
  have K := kh_tr K hp.2
  refine ⟨?_, ?_⟩
  · intro c6
    have h := h.1 c6
    exact ⟨h, K⟩
  · intro c7
    have h := h.2 c7
    refine cm_X11_isRoad (kh_X11_isRoad h) h (fun x8 x9 hp h g10 g11 => ?_)
    have h := h g10 g11
    have K := kh_tr K hp.2
    refine ⟨?_, ?_⟩
    · intro c12
      have h := h.1 c12
      exact ⟨h, K⟩
    · intro c13
      have h := h.2 c13
      refine cm_X11_in (kh_X11_in h) h (fun x14 x15 hp h g16 g17 => ?_)
      have h := h g16 g17
      have K := kh_tr K hp.2
      refine ⟨?_, ?_⟩
      · intro c18
        have h := h.1 c18
        exact ⟨h, K⟩
      · intro c19
        have h := h.2 c19
        refine cm_X11_isHour (kh_X11_isHour h) h (fun x20 x21 hp h g22 g23 => ?_)
        have h := h g22 g23
        have K := kh_tr K hp.2
        refine ⟨?_, ?_⟩
        · intro c24
          have h := h.1 c24
          refine cm_X11_isSpeed (kh_X11_isSpeed h) h (fun x25 x26 hp h g27 g28 => ?_)
          have h := h g27 g28
          have K := kh_tr K hp.2
          refine ⟨?_, ?_⟩
          · intro c29
            have h := h.1 c29
            exact ⟨h, K⟩
          · intro c30
            have h := h.2 c30
            exact ⟨h, K⟩
        · intro c31
          have h := h.2 c31
          exact ⟨h, K⟩
theorem kh_X11_refuses {Q : Int32 → HS → Prop} {v0 : Nat} {v1 : Int32} {v2 : Int32} {v3 : Int32} {v4 : Int32} {v5 : Int32} {S : HS} (h : P_X11_refuses v0 v1 v2 v3 v4 v5 Q S) : P_X11_refuses v0 v1 v2 v3 v4 v5 (fun r T => Q r T ∧ KH S T) S := kh_X11_refuses_0 h (kh_rf S)
set_option maxRecDepth 20000 in
set_option maxHeartbeats 1000000 in
theorem khB_X11_told_12 {Q : Int64 → HS → Prop} {X12 X12_2 : Int64 → Int64 → Int32 → Int64 → Int64 → HS → Prop} {v1 : Int64} {v3 : Int64} {v5 : Int32} {v6 : Int64} {v8 : Int64} {S0 S : HS} (h : B_X11_told_12 Q X12 v1 v3 v5 v6 v8 S) (K : KH S0 S) (hX12 : ∀ (u0 : Int64) (u1 : Int64) (u2 : Int32) (u3 : Int64) (u4 : Int64) (u5 : HS), X12 u0 u1 u2 u3 u4 u5 → KH S0 u5 → X12_2 u0 u1 u2 u3 u4 u5) : B_X11_told_12 (fun r T => Q r T ∧ KH S0 T) X12_2 v1 v3 v5 v6 v8 S := by
  delta B_X11_told_12 at h ⊢
  refine ⟨?_, ?_⟩
  · intro c1
    have h := h.1 c1
    refine ⟨?_, ?_⟩
    · intro c2
      have h := h.1 c2
      obtain ⟨c3, h⟩ := h
      refine ⟨c3, ?_⟩
      intro x5 e4
      have h := h x5 e4
      exact ⟨h, K⟩
    · intro c6
      have h := h.2 c6
      obtain ⟨c7, h⟩ := h
      refine ⟨c7, ?_⟩
      intro x9 e8
      have h := h x9 e8
      exact ⟨h, K⟩
  · intro c10
    have h := h.2 c10
    obtain ⟨c11, h⟩ := h
    refine ⟨c11, ?_⟩
    intro x13 e12
    have h := h x13 e12
    exact hX12 _ _ _ _ _ _ h K
theorem kh_X11_told_12 {Q : Int64 → HS → Prop} {v1 : Int64} {v3 : Int64} {v5 : Int32} {v6 : Int64} {v8 : Int64} {S0 S : HS} (h : P_X11_told_12 Q v1 v3 v5 v6 v8 S) (K : KH S0 S) : P_X11_told_12 (fun r T => Q r T ∧ KH S0 T) v1 v3 v5 v6 v8 S := h (fun v1 v3 v5 v6 v8 S => KH S0 S → P_X11_told_12 (fun r T => Q r T ∧ KH S0 T) v1 v3 v5 v6 v8 S) (fun v1 v3 v5 v6 v8 S hB K => fd_X11_told_12 (khB_X11_told_12 hB K (fun _ _ _ _ _ _ hx K => hx K))) K
set_option maxRecDepth 20000 in
set_option maxHeartbeats 1000000 in
theorem kh_X11_told_0 {Q : Int64 → HS → Prop} {v0 : Nat} {v1 : Int64} {v3 : Int64} {v5 : Int32} {S0 S : HS} (h : P_X11_told_0 Q v0 v1 v3 v5 S) (K : KH S0 S) : P_X11_told_0 (fun r T => Q r T ∧ KH S0 T) v0 v1 v3 v5 S := by
  delta P_X11_told_0 at h ⊢
  obtain ⟨c1, h⟩ := h
  refine ⟨c1, ?_⟩
  refine cm_X11_good (kh_X11_good h) h (fun x2 x3 hp h g4 => ?_)
  have h := h g4
  have K := kh_tr K hp.2
  exact kh_X11_told_12 h K
theorem kh_X11_told {Q : Int64 → HS → Prop} {v0 : Nat} {v1 : Int64} {v3 : Int64} {v5 : Int32} {S : HS} (h : P_X11_told v0 v1 v3 v5 Q S) : P_X11_told v0 v1 v3 v5 (fun r T => Q r T ∧ KH S T) S := kh_X11_told_0 h (kh_rf S)
set_option maxRecDepth 20000 in
set_option maxHeartbeats 1000000 in
theorem kh_X11_face_30 {Q : Int64 → HS → Prop} {v0 : Nat} {v1 : Int32} {v2 : Int32} {v3 : Int32} {v4 : Int32} {v5 : Int32} {v6 : Int32} {v7 : Int32} {s0 : Int32} {S0 S : HS} (h : P_X11_face_30 Q v0 v1 v2 v3 v4 v5 v6 v7 s0 S) (K : KH S0 S) : P_X11_face_30 (fun r T => Q r T ∧ KH S0 T) v0 v1 v2 v3 v4 v5 v6 v7 s0 S := by
  delta P_X11_face_30 at h ⊢
  refine ⟨?_, ?_⟩
  · intro c1
    have h := h.1 c1
    obtain ⟨c2, h⟩ := h
    refine ⟨c2, ?_⟩
    refine cm_X11_partsOf (kh_X11_partsOf h) h (fun x3 x4 hp h g5 => ?_)
    have h := h g5
    have K := kh_tr K hp.2
    refine cm_X11_told (kh_X11_told h) h (fun x6 x7 hp h g8 => ?_)
    have h := h g8
    have K := kh_tr K hp.2
    exact ⟨h, K⟩
  · intro c9
    have h := h.2 c9
    obtain ⟨c10, h⟩ := h
    refine ⟨c10, ?_⟩
    refine cm_X11_refused (kh_X11_refused h) h (fun x11 x12 hp h g13 => ?_)
    have h := h g13
    have K := kh_tr K hp.2
    exact ⟨h, K⟩
set_option maxRecDepth 20000 in
set_option maxHeartbeats 1000000 in
theorem kh_X11_face_0 {Q : Int64 → HS → Prop} {v0 : Nat} {v1 : Int32} {v2 : Int32} {v3 : Int32} {v4 : Int32} {v5 : Int32} {v6 : Int32} {v7 : Int32} {S0 S : HS} (h : P_X11_face_0 Q v0 v1 v2 v3 v4 v5 v6 v7 S) (K : KH S0 S) : P_X11_face_0 (fun r T => Q r T ∧ KH S0 T) v0 v1 v2 v3 v4 v5 v6 v7 S := by
  delta P_X11_face_0 at h ⊢
  obtain ⟨c1, h⟩ := h
  refine ⟨c1, ?_⟩
  intro x3 e2
  have h := h x3 e2
  have K := kh_I K e2
  refine cm_X11_in (kh_X11_in h) h (fun x4 x5 hp h g6 g7 => ?_)
  have h := h g6 g7
  have K := kh_tr K hp.2
  refine ⟨?_, ?_⟩
  · intro c8
    have h := h.1 c8
    exact kh_X11_face_30 h K
  · intro c9
    have h := h.2 c9
    refine cm_X11_refuses (kh_X11_refuses h) h (fun x10 x11 hp h g12 => ?_)
    have h := h g12
    have K := kh_tr K hp.2
    exact kh_X11_face_30 h K
theorem kh_X11_face {Q : Int64 → HS → Prop} {v0 : Nat} {v1 : Int32} {v2 : Int32} {v3 : Int32} {v4 : Int32} {v5 : Int32} {v6 : Int32} {v7 : Int32} {S : HS} (h : P_X11_face v0 v1 v2 v3 v4 v5 v6 v7 Q S) : P_X11_face v0 v1 v2 v3 v4 v5 v6 v7 (fun r T => Q r T ∧ KH S T) S := kh_X11_face_0 h (kh_rf S)
set_option maxRecDepth 20000 in
set_option maxHeartbeats 1000000 in
theorem kh_X11_fault_0 {Q : Int32 → HS → Prop} {v0 : Nat} {S0 S : HS} (h : P_X11_fault_0 Q v0 S) (K : KH S0 S) : P_X11_fault_0 (fun r T => Q r T ∧ KH S0 T) v0 S := by
  delta P_X11_fault_0 at h ⊢
  obtain ⟨c1, h⟩ := h
  refine ⟨c1, ?_⟩
  intro x3 e2
  have h := h x3 e2
  have K := kh_I K e2
  intro x5 e4
  have h := h x5 e4
  exact ⟨h, K⟩
theorem kh_X11_fault {Q : Int32 → HS → Prop} {v0 : Nat} {S : HS} (h : P_X11_fault v0 Q S) : P_X11_fault v0 (fun r T => Q r T ∧ KH S T) S := kh_X11_fault_0 h (kh_rf S)
set_option maxRecDepth 20000 in
set_option maxHeartbeats 1000000 in
theorem kh_X11_feed_76 {Q : Int32 → HS → Prop} {X23 X23_2 : Nat → Int32 → Int32 → Int32 → Int32 → Int32 → Int32 → HS → Prop} {v0 : Nat} {v1 : Int32} {v2 : Int32} {v3 : Int32} {v4 : Int32} {v5 : Int32} {v6 : Int32} {s0 : Int32} {S0 S : HS} (h : P_X11_feed_76 Q X23 v0 v1 v2 v3 v4 v5 v6 s0 S) (K : KH S0 S) (hX23 : ∀ (u0 : Nat) (u1 : Int32) (u2 : Int32) (u3 : Int32) (u4 : Int32) (u5 : Int32) (u6 : Int32) (u7 : HS), X23 u0 u1 u2 u3 u4 u5 u6 u7 → KH S0 u7 → X23_2 u0 u1 u2 u3 u4 u5 u6 u7) : P_X11_feed_76 (fun r T => Q r T ∧ KH S0 T) X23_2 v0 v1 v2 v3 v4 v5 v6 s0 S := by
  delta P_X11_feed_76 at h ⊢
  obtain ⟨c1, h⟩ := h
  refine ⟨c1, ?_⟩
  obtain ⟨b2, e3, h⟩ := h
  refine ⟨b2, e3, ?_⟩
  intro x5 e4
  have h := h x5 e4
  intro x7 e6
  have h := h x7 e6
  obtain ⟨c8, h⟩ := h
  refine ⟨c8, ?_⟩
  intro x10 e9
  have h := h x10 e9
  obtain ⟨c11, h⟩ := h
  refine ⟨c11, ?_⟩
  intro x13 e12
  have h := h x13 e12
  have K := kh_I K e12
  intro x15 e14
  have h := h x15 e14
  intro x17 e16
  have h := h x17 e16
  intro x19 e18
  have h := h x19 e18
  have K := kh_I K e18
  intro x21 e20
  have h := h x21 e20
  exact hX23 _ _ _ _ _ _ _ _ h K
set_option maxRecDepth 20000 in
set_option maxHeartbeats 1000000 in
theorem khB_X11_feed_23 {Q : Int32 → HS → Prop} {X23 X23_2 : Nat → Int32 → Int32 → Int32 → Int32 → Int32 → Int32 → HS → Prop} {v0 : Nat} {v1 : Int32} {v2 : Int32} {v3 : Int32} {v4 : Int32} {v5 : Int32} {v6 : Int32} {S0 S : HS} (h : B_X11_feed_23 Q X23 v0 v1 v2 v3 v4 v5 v6 S) (K : KH S0 S) (hX23 : ∀ (u0 : Nat) (u1 : Int32) (u2 : Int32) (u3 : Int32) (u4 : Int32) (u5 : Int32) (u6 : Int32) (u7 : HS), X23 u0 u1 u2 u3 u4 u5 u6 u7 → KH S0 u7 → X23_2 u0 u1 u2 u3 u4 u5 u6 u7) : B_X11_feed_23 (fun r T => Q r T ∧ KH S0 T) X23_2 v0 v1 v2 v3 v4 v5 v6 S := by
  delta B_X11_feed_23 at h ⊢
  refine ⟨?_, ?_⟩
  · intro c1
    have h := h.1 c1
    obtain ⟨c2, h⟩ := h
    refine ⟨c2, ?_⟩
    intro x4 e3
    have h := h x4 e3
    exact ⟨h, K⟩
  · intro c5
    have h := h.2 c5
    refine ⟨?_, ?_⟩
    · intro c6
      have h := h.1 c6
      refine ⟨?_, ?_⟩
      · intro c7
        have h := h.1 c7
        refine ⟨?_, ?_⟩
        · intro c8
          have h := h.1 c8
          refine ⟨?_, ?_⟩
          · intro c9
            have h := h.1 c9
            exact kh_X11_feed_76 h K hX23
          · intro c10
            have h := h.2 c10
            exact kh_X11_feed_76 h K hX23
        · intro c11
          have h := h.2 c11
          exact kh_X11_feed_76 h K hX23
      · intro c12
        have h := h.2 c12
        exact kh_X11_feed_76 h K hX23
    · intro c13
      have h := h.2 c13
      exact kh_X11_feed_76 h K hX23
theorem kh_X11_feed_23 {Q : Int32 → HS → Prop} {v0 : Nat} {v1 : Int32} {v2 : Int32} {v3 : Int32} {v4 : Int32} {v5 : Int32} {v6 : Int32} {S0 S : HS} (h : P_X11_feed_23 Q v0 v1 v2 v3 v4 v5 v6 S) (K : KH S0 S) : P_X11_feed_23 (fun r T => Q r T ∧ KH S0 T) v0 v1 v2 v3 v4 v5 v6 S := h (fun v0 v1 v2 v3 v4 v5 v6 S => KH S0 S → P_X11_feed_23 (fun r T => Q r T ∧ KH S0 T) v0 v1 v2 v3 v4 v5 v6 S) (fun v0 v1 v2 v3 v4 v5 v6 S hB K => fd_X11_feed_23 (khB_X11_feed_23 hB K (fun _ _ _ _ _ _ _ _ hx K => hx K))) K
set_option maxRecDepth 20000 in
set_option maxHeartbeats 1000000 in
theorem kh_X11_feed_0 {Q : Int32 → HS → Prop} {v0 : Nat} {v1 : Int32} {v2 : Int32} {v3 : Int32} {v4 : Int32} {v5 : Int32} {S0 S : HS} (h : P_X11_feed_0 Q v0 v1 v2 v3 v4 v5 S) (K : KH S0 S) : P_X11_feed_0 (fun r T => Q r T ∧ KH S0 T) v0 v1 v2 v3 v4 v5 S := by
  delta P_X11_feed_0 at h ⊢
  obtain ⟨c1, h⟩ := h
  refine ⟨c1, ?_⟩
  intro x3 e2
  have h := h x3 e2
  have K := kh_I K e2
  intro x5 e4
  have h := h x5 e4
  refine ⟨?_, ?_⟩
  · intro c6
    have h := h.1 c6
    exact kh_X11_feed_23 h K
  · intro c7
    have h := h.2 c7
    exact ⟨h, K⟩
theorem kh_X11_feed {Q : Int32 → HS → Prop} {v0 : Nat} {v1 : Int32} {v2 : Int32} {v3 : Int32} {v4 : Int32} {v5 : Int32} {S : HS} (h : P_X11_feed v0 v1 v2 v3 v4 v5 Q S) : P_X11_feed v0 v1 v2 v3 v4 v5 (fun r T => Q r T ∧ KH S T) S := kh_X11_feed_0 h (kh_rf S)
set_option maxRecDepth 20000 in
set_option maxHeartbeats 1000000 in
theorem kh_X11_refusesTwo_0 {Q : Int32 → HS → Prop} {v0 : Nat} {v1 : Int32} {v2 : Int32} {v3 : Int32} {v4 : Int32} {v5 : Int32} {v6 : Int32} {S0 S : HS} (h : P_X11_refusesTwo_0 Q v0 v1 v2 v3 v4 v5 v6 S) (K : KH S0 S) : P_X11_refusesTwo_0 (fun r T => Q r T ∧ KH S0 T) v0 v1 v2 v3 v4 v5 v6 S := by
  delta P_X11_refusesTwo_0 at h ⊢
  refine ⟨?_, ?_⟩
  · intro c1
    have h := h.1 c1
    exact ⟨h, K⟩
  · intro c2
    have h := h.2 c2
    obtain ⟨c3, h⟩ := h
    refine ⟨c3, ?_⟩
    refine cm_X11_isWalker (kh_X11_isWalker h) h (fun x4 x5 hp h g6 g7 => ?_)
    have h := h g6 g7
    have K := kh_tr K hp.2
    refine ⟨?_, ?_⟩
    · intro c8
      have h := h.1 c8
      refine cm_X11_refuses (kh_X11_refuses h) h (fun x9 x10 hp h g11 => ?_)
      have h := h g11
      have K := kh_tr K hp.2
      refine ⟨?_, ?_⟩
      · intro c12
        have h := h.1 c12
        refine cm_X11_isSpeed (kh_X11_isSpeed h) h (fun x13 x14 hp h g15 g16 => ?_)
        have h := h g15 g16
        have K := kh_tr K hp.2
        refine ⟨?_, ?_⟩
        · intro c17
          have h := h.1 c17
          exact ⟨h, K⟩
        · intro c18
          have h := h.2 c18
          exact ⟨h, K⟩
      · intro c19
        have h := h.2 c19
        exact ⟨h, K⟩
    · intro c20
      have h := h.2 c20
      exact ⟨h, K⟩
theorem kh_X11_refusesTwo {Q : Int32 → HS → Prop} {v0 : Nat} {v1 : Int32} {v2 : Int32} {v3 : Int32} {v4 : Int32} {v5 : Int32} {v6 : Int32} {S : HS} (h : P_X11_refusesTwo v0 v1 v2 v3 v4 v5 v6 Q S) : P_X11_refusesTwo v0 v1 v2 v3 v4 v5 v6 (fun r T => Q r T ∧ KH S T) S := kh_X11_refusesTwo_0 h (kh_rf S)
set_option maxRecDepth 20000 in
set_option maxHeartbeats 1000000 in
theorem khB_X11_together_6 {Q : Int64 → HS → Prop} {X6 X6_2 : Nat → Int32 → Int32 → Int32 → Int32 → Int32 → Int32 → Int64 → Int32 → HS → Prop} {v0 : Nat} {v1 : Int32} {v2 : Int32} {v3 : Int32} {v4 : Int32} {v5 : Int32} {v6 : Int32} {v7 : Int64} {v9 : Int32} {S0 S : HS} (h : B_X11_together_6 Q X6 v0 v1 v2 v3 v4 v5 v6 v7 v9 S) (K : KH S0 S) (hX6 : ∀ (u0 : Nat) (u1 : Int32) (u2 : Int32) (u3 : Int32) (u4 : Int32) (u5 : Int32) (u6 : Int32) (u7 : Int64) (u8 : Int32) (u9 : HS), X6 u0 u1 u2 u3 u4 u5 u6 u7 u8 u9 → KH S0 u9 → X6_2 u0 u1 u2 u3 u4 u5 u6 u7 u8 u9) : B_X11_together_6 (fun r T => Q r T ∧ KH S0 T) X6_2 v0 v1 v2 v3 v4 v5 v6 v7 v9 S := by
  delta B_X11_together_6 at h ⊢
  refine ⟨?_, ?_⟩
  · intro c1
    have h := h.1 c1
    obtain ⟨c2, h⟩ := h
    refine ⟨c2, ?_⟩
    obtain ⟨b3, e4, h⟩ := h
    refine ⟨b3, e4, ?_⟩
    obtain ⟨c5, h⟩ := h
    refine ⟨c5, ?_⟩
    obtain ⟨b6, e7, h⟩ := h
    refine ⟨b6, e7, ?_⟩
    obtain ⟨c8, h⟩ := h
    refine ⟨c8, ?_⟩
    obtain ⟨c9, h⟩ := h
    refine ⟨c9, ?_⟩
    intro x11 e10
    have h := h x11 e10
    obtain ⟨b12, e13, h⟩ := h
    refine ⟨b12, e13, ?_⟩
    obtain ⟨c14, h⟩ := h
    refine ⟨c14, ?_⟩
    obtain ⟨b15, e16, h⟩ := h
    refine ⟨b15, e16, ?_⟩
    obtain ⟨c17, h⟩ := h
    refine ⟨c17, ?_⟩
    obtain ⟨c18, h⟩ := h
    refine ⟨c18, ?_⟩
    intro x20 e19
    have h := h x20 e19
    obtain ⟨c21, h⟩ := h
    refine ⟨c21, ?_⟩
    intro x23 e22
    have h := h x23 e22
    exact ⟨h, K⟩
  · intro c24
    have h := h.2 c24
    obtain ⟨c25, h⟩ := h
    refine ⟨c25, ?_⟩
    obtain ⟨b26, e27, h⟩ := h
    refine ⟨b26, e27, ?_⟩
    obtain ⟨c28, h⟩ := h
    refine ⟨c28, ?_⟩
    obtain ⟨b29, e30, h⟩ := h
    refine ⟨b29, e30, ?_⟩
    obtain ⟨c31, h⟩ := h
    refine ⟨c31, ?_⟩
    obtain ⟨c32, h⟩ := h
    refine ⟨c32, ?_⟩
    intro x34 e33
    have h := h x34 e33
    refine cm_X11_inTime (kh_X11_inTime h) h (fun x35 x36 hp h g37 => ?_)
    have h := h g37
    have K := kh_tr K hp.2
    intro x39 e38
    have h := h x39 e38
    obtain ⟨b40, e41, h⟩ := h
    refine ⟨b40, e41, ?_⟩
    obtain ⟨c42, h⟩ := h
    refine ⟨c42, ?_⟩
    obtain ⟨b43, e44, h⟩ := h
    refine ⟨b43, e44, ?_⟩
    obtain ⟨c45, h⟩ := h
    refine ⟨c45, ?_⟩
    obtain ⟨c46, h⟩ := h
    refine ⟨c46, ?_⟩
    intro x48 e47
    have h := h x48 e47
    refine cm_X11_inTime (kh_X11_inTime h) h (fun x49 x50 hp h g51 => ?_)
    have h := h g51
    have K := kh_tr K hp.2
    intro x53 e52
    have h := h x53 e52
    intro x55 e54
    have h := h x55 e54
    exact hX6 _ _ _ _ _ _ _ _ _ _ h K
theorem kh_X11_together_6 {Q : Int64 → HS → Prop} {v0 : Nat} {v1 : Int32} {v2 : Int32} {v3 : Int32} {v4 : Int32} {v5 : Int32} {v6 : Int32} {v7 : Int64} {v9 : Int32} {S0 S : HS} (h : P_X11_together_6 Q v0 v1 v2 v3 v4 v5 v6 v7 v9 S) (K : KH S0 S) : P_X11_together_6 (fun r T => Q r T ∧ KH S0 T) v0 v1 v2 v3 v4 v5 v6 v7 v9 S := h (fun v0 v1 v2 v3 v4 v5 v6 v7 v9 S => KH S0 S → P_X11_together_6 (fun r T => Q r T ∧ KH S0 T) v0 v1 v2 v3 v4 v5 v6 v7 v9 S) (fun v0 v1 v2 v3 v4 v5 v6 v7 v9 S hB K => fd_X11_together_6 (khB_X11_together_6 hB K (fun _ _ _ _ _ _ _ _ _ _ hx K => hx K))) K
set_option maxRecDepth 20000 in
set_option maxHeartbeats 1000000 in
theorem kh_X11_together_0 {Q : Int64 → HS → Prop} {v0 : Nat} {v1 : Int32} {v2 : Int32} {v3 : Int32} {v4 : Int32} {v5 : Int32} {v6 : Int32} {S0 S : HS} (h : P_X11_together_0 Q v0 v1 v2 v3 v4 v5 v6 S) (K : KH S0 S) : P_X11_together_0 (fun r T => Q r T ∧ KH S0 T) v0 v1 v2 v3 v4 v5 v6 S := by
  delta P_X11_together_0 at h ⊢
  exact kh_X11_together_6 h K
theorem kh_X11_together {Q : Int64 → HS → Prop} {v0 : Nat} {v1 : Int32} {v2 : Int32} {v3 : Int32} {v4 : Int32} {v5 : Int32} {v6 : Int32} {S : HS} (h : P_X11_together v0 v1 v2 v3 v4 v5 v6 Q S) : P_X11_together v0 v1 v2 v3 v4 v5 v6 (fun r T => Q r T ∧ KH S T) S := kh_X11_together_0 h (kh_rf S)
set_option maxRecDepth 20000 in
set_option maxHeartbeats 1000000 in
theorem kh_X11_first_89 {Q : Int32 → HS → Prop} {s0 : Nat} {s1 : Int32} {S0 S : HS} (h : P_X11_first_89 Q s0 s1 S) (K : KH S0 S) : P_X11_first_89 (fun r T => Q r T ∧ KH S0 T) s0 s1 S := by
  delta P_X11_first_89 at h ⊢
  obtain ⟨c1, h⟩ := h
  refine ⟨c1, ?_⟩
  refine cm_X11_good (kh_X11_good h) h (fun x2 x3 hp h g4 => ?_)
  have h := h g4
  have K := kh_tr K hp.2
  exact ⟨h, K⟩
set_option maxRecDepth 20000 in
set_option maxHeartbeats 1000000 in
theorem kh_X11_first_0 {Q : Int32 → HS → Prop} {v0 : Nat} {v1 : Int32} {v2 : Int32} {v3 : Int32} {v4 : Int32} {v5 : Int32} {v6 : Int32} {S0 S : HS} (h : P_X11_first_0 Q v0 v1 v2 v3 v4 v5 v6 S) (K : KH S0 S) : P_X11_first_0 (fun r T => Q r T ∧ KH S0 T) v0 v1 v2 v3 v4 v5 v6 S := by
  delta P_X11_first_0 at h ⊢
  obtain ⟨c1, h⟩ := h
  refine ⟨c1, ?_⟩
  intro x3 e2
  have h := h x3 e2
  have K := kh_I K e2
  refine cm_X11_refusesTwo (kh_X11_refusesTwo h) h (fun x4 x5 hp h g6 => ?_)
  have h := h g6
  have K := kh_tr K hp.2
  refine ⟨?_, ?_⟩
  · intro c7
    have h := h.1 c7
    refine cm_X11_together (kh_X11_together h) h (fun x8 x9 hp h g10 => ?_)
    have h := h g10
    have K := kh_tr K hp.2
    refine cm_X11_together (kh_X11_together h) h (fun x11 x12 hp h g13 => ?_)
    have h := h g13
    have K := kh_tr K hp.2
    refine ⟨?_, ?_⟩
    · intro c14
      have h := h.1 c14
      refine ⟨?_, ?_⟩
      · intro c15
        have h := h.1 c15
        exact kh_X11_first_89 h K
      · intro c16
        have h := h.2 c16
        exact kh_X11_first_89 h K
    · intro c17
      have h := h.2 c17
      exact kh_X11_first_89 h K
  · intro c18
    have h := h.2 c18
    refine cm_X11_refused (kh_X11_refused h) h (fun x19 x20 hp h g21 => ?_)
    have h := h g21
    have K := kh_tr K hp.2
    exact ⟨h, K⟩
theorem kh_X11_first {Q : Int32 → HS → Prop} {v0 : Nat} {v1 : Int32} {v2 : Int32} {v3 : Int32} {v4 : Int32} {v5 : Int32} {v6 : Int32} {S : HS} (h : P_X11_first v0 v1 v2 v3 v4 v5 v6 Q S) : P_X11_first v0 v1 v2 v3 v4 v5 v6 (fun r T => Q r T ∧ KH S T) S := kh_X11_first_0 h (kh_rf S)
set_option maxRecDepth 20000 in
set_option maxHeartbeats 1000000 in
theorem kh_X11_fitOf_137 {Q : Int32 → HS → Prop} {X16 X16_2 : Nat → Int32 → Int32 → Int32 → Int32 → Int32 → HS → Prop} {X31 X31_2 : Nat → Int32 → Int32 → Int32 → Int32 → Int32 → Int32 → HS → Prop} {X40 X40_2 : Nat → Int32 → Int32 → Int32 → Int32 → Int32 → Int32 → Int32 → HS → Prop} {X63 X63_2 : Nat → Int32 → Int32 → Int32 → Int32 → Int32 → Int32 → Int32 → Int32 → HS → Prop} {X83 X83_2 : Nat → Int32 → Int32 → Int32 → Int32 → Int32 → Int32 → Int32 → Int32 → Int32 → Int32 → HS → Prop} {v0 : Nat} {v1 : Int32} {v2 : Int32} {v3 : Int32} {v4 : Int32} {v5 : Int32} {v6 : Int32} {v7 : Int32} {v8 : Int32} {v10 : Int32} {s0 : Int32} {S0 S : HS} (h : P_X11_fitOf_137 Q X16 X31 X40 X63 X83 v0 v1 v2 v3 v4 v5 v6 v7 v8 v10 s0 S) (K : KH S0 S) (hX16 : ∀ (u0 : Nat) (u1 : Int32) (u2 : Int32) (u3 : Int32) (u4 : Int32) (u5 : Int32) (u6 : HS), X16 u0 u1 u2 u3 u4 u5 u6 → KH S0 u6 → X16_2 u0 u1 u2 u3 u4 u5 u6) (hX31 : ∀ (u0 : Nat) (u1 : Int32) (u2 : Int32) (u3 : Int32) (u4 : Int32) (u5 : Int32) (u6 : Int32) (u7 : HS), X31 u0 u1 u2 u3 u4 u5 u6 u7 → KH S0 u7 → X31_2 u0 u1 u2 u3 u4 u5 u6 u7) (hX40 : ∀ (u0 : Nat) (u1 : Int32) (u2 : Int32) (u3 : Int32) (u4 : Int32) (u5 : Int32) (u6 : Int32) (u7 : Int32) (u8 : HS), X40 u0 u1 u2 u3 u4 u5 u6 u7 u8 → KH S0 u8 → X40_2 u0 u1 u2 u3 u4 u5 u6 u7 u8) (hX63 : ∀ (u0 : Nat) (u1 : Int32) (u2 : Int32) (u3 : Int32) (u4 : Int32) (u5 : Int32) (u6 : Int32) (u7 : Int32) (u8 : Int32) (u9 : HS), X63 u0 u1 u2 u3 u4 u5 u6 u7 u8 u9 → KH S0 u9 → X63_2 u0 u1 u2 u3 u4 u5 u6 u7 u8 u9) (hX83 : ∀ (u0 : Nat) (u1 : Int32) (u2 : Int32) (u3 : Int32) (u4 : Int32) (u5 : Int32) (u6 : Int32) (u7 : Int32) (u8 : Int32) (u9 : Int32) (u10 : Int32) (u11 : HS), X83 u0 u1 u2 u3 u4 u5 u6 u7 u8 u9 u10 u11 → KH S0 u11 → X83_2 u0 u1 u2 u3 u4 u5 u6 u7 u8 u9 u10 u11) : P_X11_fitOf_137 (fun r T => Q r T ∧ KH S0 T) X16_2 X31_2 X40_2 X63_2 X83_2 v0 v1 v2 v3 v4 v5 v6 v7 v8 v10 s0 S := by
  delta P_X11_fitOf_137 at h ⊢
  intro x2 e1
  have h := h x2 e1
  exact hX83 _ _ _ _ _ _ _ _ _ _ _ _ h K
set_option maxRecDepth 20000 in
set_option maxHeartbeats 1000000 in
theorem kh_X11_fitOf_136 {Q : Int32 → HS → Prop} {X16 X16_2 : Nat → Int32 → Int32 → Int32 → Int32 → Int32 → HS → Prop} {X31 X31_2 : Nat → Int32 → Int32 → Int32 → Int32 → Int32 → Int32 → HS → Prop} {X40 X40_2 : Nat → Int32 → Int32 → Int32 → Int32 → Int32 → Int32 → Int32 → HS → Prop} {X63 X63_2 : Nat → Int32 → Int32 → Int32 → Int32 → Int32 → Int32 → Int32 → Int32 → HS → Prop} {X83 X83_2 : Nat → Int32 → Int32 → Int32 → Int32 → Int32 → Int32 → Int32 → Int32 → Int32 → Int32 → HS → Prop} {v0 : Nat} {v1 : Int32} {v2 : Int32} {v3 : Int32} {v4 : Int32} {v5 : Int32} {v6 : Int32} {v7 : Int32} {v8 : Int32} {v10 : Int32} {S0 S : HS} (h : P_X11_fitOf_136 Q X16 X31 X40 X63 X83 v0 v1 v2 v3 v4 v5 v6 v7 v8 v10 S) (K : KH S0 S) (hX16 : ∀ (u0 : Nat) (u1 : Int32) (u2 : Int32) (u3 : Int32) (u4 : Int32) (u5 : Int32) (u6 : HS), X16 u0 u1 u2 u3 u4 u5 u6 → KH S0 u6 → X16_2 u0 u1 u2 u3 u4 u5 u6) (hX31 : ∀ (u0 : Nat) (u1 : Int32) (u2 : Int32) (u3 : Int32) (u4 : Int32) (u5 : Int32) (u6 : Int32) (u7 : HS), X31 u0 u1 u2 u3 u4 u5 u6 u7 → KH S0 u7 → X31_2 u0 u1 u2 u3 u4 u5 u6 u7) (hX40 : ∀ (u0 : Nat) (u1 : Int32) (u2 : Int32) (u3 : Int32) (u4 : Int32) (u5 : Int32) (u6 : Int32) (u7 : Int32) (u8 : HS), X40 u0 u1 u2 u3 u4 u5 u6 u7 u8 → KH S0 u8 → X40_2 u0 u1 u2 u3 u4 u5 u6 u7 u8) (hX63 : ∀ (u0 : Nat) (u1 : Int32) (u2 : Int32) (u3 : Int32) (u4 : Int32) (u5 : Int32) (u6 : Int32) (u7 : Int32) (u8 : Int32) (u9 : HS), X63 u0 u1 u2 u3 u4 u5 u6 u7 u8 u9 → KH S0 u9 → X63_2 u0 u1 u2 u3 u4 u5 u6 u7 u8 u9) (hX83 : ∀ (u0 : Nat) (u1 : Int32) (u2 : Int32) (u3 : Int32) (u4 : Int32) (u5 : Int32) (u6 : Int32) (u7 : Int32) (u8 : Int32) (u9 : Int32) (u10 : Int32) (u11 : HS), X83 u0 u1 u2 u3 u4 u5 u6 u7 u8 u9 u10 u11 → KH S0 u11 → X83_2 u0 u1 u2 u3 u4 u5 u6 u7 u8 u9 u10 u11) : P_X11_fitOf_136 (fun r T => Q r T ∧ KH S0 T) X16_2 X31_2 X40_2 X63_2 X83_2 v0 v1 v2 v3 v4 v5 v6 v7 v8 v10 S := by
  delta P_X11_fitOf_136 at h ⊢
  exact kh_X11_fitOf_137 h K hX16 hX31 hX40 hX63 hX83
set_option maxRecDepth 20000 in
set_option maxHeartbeats 1000000 in
theorem kh_X11_fitOf_184 {Q : Int32 → HS → Prop} {X16 X16_2 : Nat → Int32 → Int32 → Int32 → Int32 → Int32 → HS → Prop} {X31 X31_2 : Nat → Int32 → Int32 → Int32 → Int32 → Int32 → Int32 → HS → Prop} {X40 X40_2 : Nat → Int32 → Int32 → Int32 → Int32 → Int32 → Int32 → Int32 → HS → Prop} {X63 X63_2 : Nat → Int32 → Int32 → Int32 → Int32 → Int32 → Int32 → Int32 → Int32 → HS → Prop} {v0 : Nat} {v1 : Int32} {v2 : Int32} {v3 : Int32} {v4 : Int32} {v5 : Int32} {v6 : Int32} {v7 : Int32} {v8 : Int32} {S0 S : HS} (h : P_X11_fitOf_184 Q X16 X31 X40 X63 v0 v1 v2 v3 v4 v5 v6 v7 v8 S) (K : KH S0 S) (hX16 : ∀ (u0 : Nat) (u1 : Int32) (u2 : Int32) (u3 : Int32) (u4 : Int32) (u5 : Int32) (u6 : HS), X16 u0 u1 u2 u3 u4 u5 u6 → KH S0 u6 → X16_2 u0 u1 u2 u3 u4 u5 u6) (hX31 : ∀ (u0 : Nat) (u1 : Int32) (u2 : Int32) (u3 : Int32) (u4 : Int32) (u5 : Int32) (u6 : Int32) (u7 : HS), X31 u0 u1 u2 u3 u4 u5 u6 u7 → KH S0 u7 → X31_2 u0 u1 u2 u3 u4 u5 u6 u7) (hX40 : ∀ (u0 : Nat) (u1 : Int32) (u2 : Int32) (u3 : Int32) (u4 : Int32) (u5 : Int32) (u6 : Int32) (u7 : Int32) (u8 : HS), X40 u0 u1 u2 u3 u4 u5 u6 u7 u8 → KH S0 u8 → X40_2 u0 u1 u2 u3 u4 u5 u6 u7 u8) (hX63 : ∀ (u0 : Nat) (u1 : Int32) (u2 : Int32) (u3 : Int32) (u4 : Int32) (u5 : Int32) (u6 : Int32) (u7 : Int32) (u8 : Int32) (u9 : HS), X63 u0 u1 u2 u3 u4 u5 u6 u7 u8 u9 → KH S0 u9 → X63_2 u0 u1 u2 u3 u4 u5 u6 u7 u8 u9) : P_X11_fitOf_184 (fun r T => Q r T ∧ KH S0 T) X16_2 X31_2 X40_2 X63_2 v0 v1 v2 v3 v4 v5 v6 v7 v8 S := by
  delta P_X11_fitOf_184 at h ⊢
  intro x2 e1
  have h := h x2 e1
  exact hX63 _ _ _ _ _ _ _ _ _ _ h K
set_option maxRecDepth 20000 in
set_option maxHeartbeats 1000000 in
theorem khB_X11_fitOf_83 {Q : Int32 → HS → Prop} {X16 X16_2 : Nat → Int32 → Int32 → Int32 → Int32 → Int32 → HS → Prop} {X31 X31_2 : Nat → Int32 → Int32 → Int32 → Int32 → Int32 → Int32 → HS → Prop} {X40 X40_2 : Nat → Int32 → Int32 → Int32 → Int32 → Int32 → Int32 → Int32 → HS → Prop} {X63 X63_2 : Nat → Int32 → Int32 → Int32 → Int32 → Int32 → Int32 → Int32 → Int32 → HS → Prop} {X83 X83_2 : Nat → Int32 → Int32 → Int32 → Int32 → Int32 → Int32 → Int32 → Int32 → Int32 → Int32 → HS → Prop} {v0 : Nat} {v1 : Int32} {v2 : Int32} {v3 : Int32} {v4 : Int32} {v5 : Int32} {v6 : Int32} {v7 : Int32} {v8 : Int32} {v9 : Int32} {v10 : Int32} {S0 S : HS} (h : B_X11_fitOf_83 Q X16 X31 X40 X63 X83 v0 v1 v2 v3 v4 v5 v6 v7 v8 v9 v10 S) (K : KH S0 S) (hX16 : ∀ (u0 : Nat) (u1 : Int32) (u2 : Int32) (u3 : Int32) (u4 : Int32) (u5 : Int32) (u6 : HS), X16 u0 u1 u2 u3 u4 u5 u6 → KH S0 u6 → X16_2 u0 u1 u2 u3 u4 u5 u6) (hX31 : ∀ (u0 : Nat) (u1 : Int32) (u2 : Int32) (u3 : Int32) (u4 : Int32) (u5 : Int32) (u6 : Int32) (u7 : HS), X31 u0 u1 u2 u3 u4 u5 u6 u7 → KH S0 u7 → X31_2 u0 u1 u2 u3 u4 u5 u6 u7) (hX40 : ∀ (u0 : Nat) (u1 : Int32) (u2 : Int32) (u3 : Int32) (u4 : Int32) (u5 : Int32) (u6 : Int32) (u7 : Int32) (u8 : HS), X40 u0 u1 u2 u3 u4 u5 u6 u7 u8 → KH S0 u8 → X40_2 u0 u1 u2 u3 u4 u5 u6 u7 u8) (hX63 : ∀ (u0 : Nat) (u1 : Int32) (u2 : Int32) (u3 : Int32) (u4 : Int32) (u5 : Int32) (u6 : Int32) (u7 : Int32) (u8 : Int32) (u9 : HS), X63 u0 u1 u2 u3 u4 u5 u6 u7 u8 u9 → KH S0 u9 → X63_2 u0 u1 u2 u3 u4 u5 u6 u7 u8 u9) (hX83 : ∀ (u0 : Nat) (u1 : Int32) (u2 : Int32) (u3 : Int32) (u4 : Int32) (u5 : Int32) (u6 : Int32) (u7 : Int32) (u8 : Int32) (u9 : Int32) (u10 : Int32) (u11 : HS), X83 u0 u1 u2 u3 u4 u5 u6 u7 u8 u9 u10 u11 → KH S0 u11 → X83_2 u0 u1 u2 u3 u4 u5 u6 u7 u8 u9 u10 u11) : B_X11_fitOf_83 (fun r T => Q r T ∧ KH S0 T) X16_2 X31_2 X40_2 X63_2 X83_2 v0 v1 v2 v3 v4 v5 v6 v7 v8 v9 v10 S := by
  delta B_X11_fitOf_83 at h ⊢
  refine ⟨?_, ?_⟩
  · intro c1
    have h := h.1 c1
    refine ⟨?_, ?_⟩
    · intro c2
      have h := h.1 c2
      refine ⟨?_, ?_⟩
      · intro c3
        have h := h.1 c3
        intro x5 e4
        have h := h x5 e4
        exact kh_X11_fitOf_184 h K hX16 hX31 hX40 hX63
      · intro c6
        have h := h.2 c6
        exact ⟨h, K⟩
    · intro c7
      have h := h.2 c7
      exact kh_X11_fitOf_184 h K hX16 hX31 hX40 hX63
  · intro c8
    have h := h.2 c8
    refine ⟨?_, ?_⟩
    · intro c9
      have h := h.1 c9
      exact kh_X11_fitOf_136 h K hX16 hX31 hX40 hX63 hX83
    · intro c10
      have h := h.2 c10
      obtain ⟨c11, h⟩ := h
      refine ⟨c11, ?_⟩
      refine cm_X11_partsOf (kh_X11_partsOf h) h (fun x12 x13 hp h g14 => ?_)
      have h := h g14
      have K := kh_tr K hp.2
      obtain ⟨b15, e16, h⟩ := h
      refine ⟨b15, e16, ?_⟩
      obtain ⟨c17, h⟩ := h
      refine ⟨c17, ?_⟩
      obtain ⟨b18, e19, h⟩ := h
      refine ⟨b18, e19, ?_⟩
      obtain ⟨c20, h⟩ := h
      refine ⟨c20, ?_⟩
      intro x22 e21
      have h := h x22 e21
      obtain ⟨c23, h⟩ := h
      refine ⟨c23, ?_⟩
      intro x25 e24
      have h := h x25 e24
      refine ⟨?_, ?_⟩
      · intro c26
        have h := h.1 c26
        exact kh_X11_fitOf_136 h K hX16 hX31 hX40 hX63 hX83
      · intro c27
        have h := h.2 c27
        exact kh_X11_fitOf_137 h K hX16 hX31 hX40 hX63 hX83
theorem kh_X11_fitOf_83 {Q : Int32 → HS → Prop} {X16 X16_2 : Nat → Int32 → Int32 → Int32 → Int32 → Int32 → HS → Prop} {X31 X31_2 : Nat → Int32 → Int32 → Int32 → Int32 → Int32 → Int32 → HS → Prop} {X40 X40_2 : Nat → Int32 → Int32 → Int32 → Int32 → Int32 → Int32 → Int32 → HS → Prop} {X63 X63_2 : Nat → Int32 → Int32 → Int32 → Int32 → Int32 → Int32 → Int32 → Int32 → HS → Prop} {v0 : Nat} {v1 : Int32} {v2 : Int32} {v3 : Int32} {v4 : Int32} {v5 : Int32} {v6 : Int32} {v7 : Int32} {v8 : Int32} {v9 : Int32} {v10 : Int32} {S0 S : HS} (h : P_X11_fitOf_83 Q X16 X31 X40 X63 v0 v1 v2 v3 v4 v5 v6 v7 v8 v9 v10 S) (K : KH S0 S) (hX16 : ∀ (u0 : Nat) (u1 : Int32) (u2 : Int32) (u3 : Int32) (u4 : Int32) (u5 : Int32) (u6 : HS), X16 u0 u1 u2 u3 u4 u5 u6 → KH S0 u6 → X16_2 u0 u1 u2 u3 u4 u5 u6) (hX31 : ∀ (u0 : Nat) (u1 : Int32) (u2 : Int32) (u3 : Int32) (u4 : Int32) (u5 : Int32) (u6 : Int32) (u7 : HS), X31 u0 u1 u2 u3 u4 u5 u6 u7 → KH S0 u7 → X31_2 u0 u1 u2 u3 u4 u5 u6 u7) (hX40 : ∀ (u0 : Nat) (u1 : Int32) (u2 : Int32) (u3 : Int32) (u4 : Int32) (u5 : Int32) (u6 : Int32) (u7 : Int32) (u8 : HS), X40 u0 u1 u2 u3 u4 u5 u6 u7 u8 → KH S0 u8 → X40_2 u0 u1 u2 u3 u4 u5 u6 u7 u8) (hX63 : ∀ (u0 : Nat) (u1 : Int32) (u2 : Int32) (u3 : Int32) (u4 : Int32) (u5 : Int32) (u6 : Int32) (u7 : Int32) (u8 : Int32) (u9 : HS), X63 u0 u1 u2 u3 u4 u5 u6 u7 u8 u9 → KH S0 u9 → X63_2 u0 u1 u2 u3 u4 u5 u6 u7 u8 u9) : P_X11_fitOf_83 (fun r T => Q r T ∧ KH S0 T) X16_2 X31_2 X40_2 X63_2 v0 v1 v2 v3 v4 v5 v6 v7 v8 v9 v10 S := h (fun v0 v1 v2 v3 v4 v5 v6 v7 v8 v9 v10 S => KH S0 S → P_X11_fitOf_83 (fun r T => Q r T ∧ KH S0 T) X16_2 X31_2 X40_2 X63_2 v0 v1 v2 v3 v4 v5 v6 v7 v8 v9 v10 S) (fun v0 v1 v2 v3 v4 v5 v6 v7 v8 v9 v10 S hB K => fd_X11_fitOf_83 (khB_X11_fitOf_83 hB K hX16 hX31 hX40 hX63 (fun _ _ _ _ _ _ _ _ _ _ _ _ hx K => hx K))) K
set_option maxRecDepth 20000 in
set_option maxHeartbeats 1000000 in
theorem khB_X11_fitOf_63 {Q : Int32 → HS → Prop} {X16 X16_2 : Nat → Int32 → Int32 → Int32 → Int32 → Int32 → HS → Prop} {X31 X31_2 : Nat → Int32 → Int32 → Int32 → Int32 → Int32 → Int32 → HS → Prop} {X40 X40_2 : Nat → Int32 → Int32 → Int32 → Int32 → Int32 → Int32 → Int32 → HS → Prop} {X63 X63_2 : Nat → Int32 → Int32 → Int32 → Int32 → Int32 → Int32 → Int32 → Int32 → HS → Prop} {v0 : Nat} {v1 : Int32} {v2 : Int32} {v3 : Int32} {v4 : Int32} {v5 : Int32} {v6 : Int32} {v7 : Int32} {v8 : Int32} {S0 S : HS} (h : B_X11_fitOf_63 Q X16 X31 X40 X63 v0 v1 v2 v3 v4 v5 v6 v7 v8 S) (K : KH S0 S) (hX16 : ∀ (u0 : Nat) (u1 : Int32) (u2 : Int32) (u3 : Int32) (u4 : Int32) (u5 : Int32) (u6 : HS), X16 u0 u1 u2 u3 u4 u5 u6 → KH S0 u6 → X16_2 u0 u1 u2 u3 u4 u5 u6) (hX31 : ∀ (u0 : Nat) (u1 : Int32) (u2 : Int32) (u3 : Int32) (u4 : Int32) (u5 : Int32) (u6 : Int32) (u7 : HS), X31 u0 u1 u2 u3 u4 u5 u6 u7 → KH S0 u7 → X31_2 u0 u1 u2 u3 u4 u5 u6 u7) (hX40 : ∀ (u0 : Nat) (u1 : Int32) (u2 : Int32) (u3 : Int32) (u4 : Int32) (u5 : Int32) (u6 : Int32) (u7 : Int32) (u8 : HS), X40 u0 u1 u2 u3 u4 u5 u6 u7 u8 → KH S0 u8 → X40_2 u0 u1 u2 u3 u4 u5 u6 u7 u8) (hX63 : ∀ (u0 : Nat) (u1 : Int32) (u2 : Int32) (u3 : Int32) (u4 : Int32) (u5 : Int32) (u6 : Int32) (u7 : Int32) (u8 : Int32) (u9 : HS), X63 u0 u1 u2 u3 u4 u5 u6 u7 u8 u9 → KH S0 u9 → X63_2 u0 u1 u2 u3 u4 u5 u6 u7 u8 u9) : B_X11_fitOf_63 (fun r T => Q r T ∧ KH S0 T) X16_2 X31_2 X40_2 X63_2 v0 v1 v2 v3 v4 v5 v6 v7 v8 S := by
  delta B_X11_fitOf_63 at h ⊢
  obtain ⟨c1, h⟩ := h
  refine ⟨c1, ?_⟩
  obtain ⟨b2, e3, h⟩ := h
  refine ⟨b2, e3, ?_⟩
  obtain ⟨c4, h⟩ := h
  refine ⟨c4, ?_⟩
  obtain ⟨b5, e6, h⟩ := h
  refine ⟨b5, e6, ?_⟩
  obtain ⟨c7, h⟩ := h
  refine ⟨c7, ?_⟩
  obtain ⟨c8, h⟩ := h
  refine ⟨c8, ?_⟩
  intro x10 e9
  have h := h x10 e9
  refine ⟨?_, ?_⟩
  · intro c11
    have h := h.1 c11
    intro x13 e12
    have h := h x13 e12
    exact hX40 _ _ _ _ _ _ _ _ _ h K
  · intro c14
    have h := h.2 c14
    exact kh_X11_fitOf_83 h K hX16 hX31 hX40 hX63
theorem kh_X11_fitOf_63 {Q : Int32 → HS → Prop} {X16 X16_2 : Nat → Int32 → Int32 → Int32 → Int32 → Int32 → HS → Prop} {X31 X31_2 : Nat → Int32 → Int32 → Int32 → Int32 → Int32 → Int32 → HS → Prop} {X40 X40_2 : Nat → Int32 → Int32 → Int32 → Int32 → Int32 → Int32 → Int32 → HS → Prop} {v0 : Nat} {v1 : Int32} {v2 : Int32} {v3 : Int32} {v4 : Int32} {v5 : Int32} {v6 : Int32} {v7 : Int32} {v8 : Int32} {S0 S : HS} (h : P_X11_fitOf_63 Q X16 X31 X40 v0 v1 v2 v3 v4 v5 v6 v7 v8 S) (K : KH S0 S) (hX16 : ∀ (u0 : Nat) (u1 : Int32) (u2 : Int32) (u3 : Int32) (u4 : Int32) (u5 : Int32) (u6 : HS), X16 u0 u1 u2 u3 u4 u5 u6 → KH S0 u6 → X16_2 u0 u1 u2 u3 u4 u5 u6) (hX31 : ∀ (u0 : Nat) (u1 : Int32) (u2 : Int32) (u3 : Int32) (u4 : Int32) (u5 : Int32) (u6 : Int32) (u7 : HS), X31 u0 u1 u2 u3 u4 u5 u6 u7 → KH S0 u7 → X31_2 u0 u1 u2 u3 u4 u5 u6 u7) (hX40 : ∀ (u0 : Nat) (u1 : Int32) (u2 : Int32) (u3 : Int32) (u4 : Int32) (u5 : Int32) (u6 : Int32) (u7 : Int32) (u8 : HS), X40 u0 u1 u2 u3 u4 u5 u6 u7 u8 → KH S0 u8 → X40_2 u0 u1 u2 u3 u4 u5 u6 u7 u8) : P_X11_fitOf_63 (fun r T => Q r T ∧ KH S0 T) X16_2 X31_2 X40_2 v0 v1 v2 v3 v4 v5 v6 v7 v8 S := h (fun v0 v1 v2 v3 v4 v5 v6 v7 v8 S => KH S0 S → P_X11_fitOf_63 (fun r T => Q r T ∧ KH S0 T) X16_2 X31_2 X40_2 v0 v1 v2 v3 v4 v5 v6 v7 v8 S) (fun v0 v1 v2 v3 v4 v5 v6 v7 v8 S hB K => fd_X11_fitOf_63 (khB_X11_fitOf_63 hB K hX16 hX31 hX40 (fun _ _ _ _ _ _ _ _ _ _ hx K => hx K))) K
set_option maxRecDepth 20000 in
set_option maxHeartbeats 1000000 in
theorem khB_X11_fitOf_40 {Q : Int32 → HS → Prop} {X16 X16_2 : Nat → Int32 → Int32 → Int32 → Int32 → Int32 → HS → Prop} {X31 X31_2 : Nat → Int32 → Int32 → Int32 → Int32 → Int32 → Int32 → HS → Prop} {X40 X40_2 : Nat → Int32 → Int32 → Int32 → Int32 → Int32 → Int32 → Int32 → HS → Prop} {v0 : Nat} {v1 : Int32} {v2 : Int32} {v3 : Int32} {v4 : Int32} {v5 : Int32} {v6 : Int32} {v7 : Int32} {S0 S : HS} (h : B_X11_fitOf_40 Q X16 X31 X40 v0 v1 v2 v3 v4 v5 v6 v7 S) (K : KH S0 S) (hX16 : ∀ (u0 : Nat) (u1 : Int32) (u2 : Int32) (u3 : Int32) (u4 : Int32) (u5 : Int32) (u6 : HS), X16 u0 u1 u2 u3 u4 u5 u6 → KH S0 u6 → X16_2 u0 u1 u2 u3 u4 u5 u6) (hX31 : ∀ (u0 : Nat) (u1 : Int32) (u2 : Int32) (u3 : Int32) (u4 : Int32) (u5 : Int32) (u6 : Int32) (u7 : HS), X31 u0 u1 u2 u3 u4 u5 u6 u7 → KH S0 u7 → X31_2 u0 u1 u2 u3 u4 u5 u6 u7) (hX40 : ∀ (u0 : Nat) (u1 : Int32) (u2 : Int32) (u3 : Int32) (u4 : Int32) (u5 : Int32) (u6 : Int32) (u7 : Int32) (u8 : HS), X40 u0 u1 u2 u3 u4 u5 u6 u7 u8 → KH S0 u8 → X40_2 u0 u1 u2 u3 u4 u5 u6 u7 u8) : B_X11_fitOf_40 (fun r T => Q r T ∧ KH S0 T) X16_2 X31_2 X40_2 v0 v1 v2 v3 v4 v5 v6 v7 S := by
  delta B_X11_fitOf_40 at h ⊢
  obtain ⟨c1, h⟩ := h
  refine ⟨c1, ?_⟩
  obtain ⟨b2, e3, h⟩ := h
  refine ⟨b2, e3, ?_⟩
  obtain ⟨c4, h⟩ := h
  refine ⟨c4, ?_⟩
  intro x6 e5
  have h := h x6 e5
  refine ⟨?_, ?_⟩
  · intro c7
    have h := h.1 c7
    intro x9 e8
    have h := h x9 e8
    exact hX31 _ _ _ _ _ _ _ _ h K
  · intro c10
    have h := h.2 c10
    obtain ⟨b11, e12, h⟩ := h
    refine ⟨b11, e12, ?_⟩
    obtain ⟨c13, h⟩ := h
    refine ⟨c13, ?_⟩
    obtain ⟨b14, e15, h⟩ := h
    refine ⟨b14, e15, ?_⟩
    obtain ⟨c16, h⟩ := h
    refine ⟨c16, ?_⟩
    obtain ⟨c17, h⟩ := h
    refine ⟨c17, ?_⟩
    intro x19 e18
    have h := h x19 e18
    exact kh_X11_fitOf_63 h K hX16 hX31 hX40
theorem kh_X11_fitOf_40 {Q : Int32 → HS → Prop} {X16 X16_2 : Nat → Int32 → Int32 → Int32 → Int32 → Int32 → HS → Prop} {X31 X31_2 : Nat → Int32 → Int32 → Int32 → Int32 → Int32 → Int32 → HS → Prop} {v0 : Nat} {v1 : Int32} {v2 : Int32} {v3 : Int32} {v4 : Int32} {v5 : Int32} {v6 : Int32} {v7 : Int32} {S0 S : HS} (h : P_X11_fitOf_40 Q X16 X31 v0 v1 v2 v3 v4 v5 v6 v7 S) (K : KH S0 S) (hX16 : ∀ (u0 : Nat) (u1 : Int32) (u2 : Int32) (u3 : Int32) (u4 : Int32) (u5 : Int32) (u6 : HS), X16 u0 u1 u2 u3 u4 u5 u6 → KH S0 u6 → X16_2 u0 u1 u2 u3 u4 u5 u6) (hX31 : ∀ (u0 : Nat) (u1 : Int32) (u2 : Int32) (u3 : Int32) (u4 : Int32) (u5 : Int32) (u6 : Int32) (u7 : HS), X31 u0 u1 u2 u3 u4 u5 u6 u7 → KH S0 u7 → X31_2 u0 u1 u2 u3 u4 u5 u6 u7) : P_X11_fitOf_40 (fun r T => Q r T ∧ KH S0 T) X16_2 X31_2 v0 v1 v2 v3 v4 v5 v6 v7 S := h (fun v0 v1 v2 v3 v4 v5 v6 v7 S => KH S0 S → P_X11_fitOf_40 (fun r T => Q r T ∧ KH S0 T) X16_2 X31_2 v0 v1 v2 v3 v4 v5 v6 v7 S) (fun v0 v1 v2 v3 v4 v5 v6 v7 S hB K => fd_X11_fitOf_40 (khB_X11_fitOf_40 hB K hX16 hX31 (fun _ _ _ _ _ _ _ _ _ hx K => hx K))) K
set_option maxRecDepth 20000 in
set_option maxHeartbeats 1000000 in
theorem khB_X11_fitOf_31 {Q : Int32 → HS → Prop} {X16 X16_2 : Nat → Int32 → Int32 → Int32 → Int32 → Int32 → HS → Prop} {X31 X31_2 : Nat → Int32 → Int32 → Int32 → Int32 → Int32 → Int32 → HS → Prop} {v0 : Nat} {v1 : Int32} {v2 : Int32} {v3 : Int32} {v4 : Int32} {v5 : Int32} {v6 : Int32} {S0 S : HS} (h : B_X11_fitOf_31 Q X16 X31 v0 v1 v2 v3 v4 v5 v6 S) (K : KH S0 S) (hX16 : ∀ (u0 : Nat) (u1 : Int32) (u2 : Int32) (u3 : Int32) (u4 : Int32) (u5 : Int32) (u6 : HS), X16 u0 u1 u2 u3 u4 u5 u6 → KH S0 u6 → X16_2 u0 u1 u2 u3 u4 u5 u6) (hX31 : ∀ (u0 : Nat) (u1 : Int32) (u2 : Int32) (u3 : Int32) (u4 : Int32) (u5 : Int32) (u6 : Int32) (u7 : HS), X31 u0 u1 u2 u3 u4 u5 u6 u7 → KH S0 u7 → X31_2 u0 u1 u2 u3 u4 u5 u6 u7) : B_X11_fitOf_31 (fun r T => Q r T ∧ KH S0 T) X16_2 X31_2 v0 v1 v2 v3 v4 v5 v6 S := by
  delta B_X11_fitOf_31 at h ⊢
  refine ⟨?_, ?_⟩
  · intro c1
    have h := h.1 c1
    intro x3 e2
    have h := h x3 e2
    exact hX16 _ _ _ _ _ _ _ h K
  · intro c4
    have h := h.2 c4
    exact kh_X11_fitOf_40 h K hX16 hX31
theorem kh_X11_fitOf_31 {Q : Int32 → HS → Prop} {X16 X16_2 : Nat → Int32 → Int32 → Int32 → Int32 → Int32 → HS → Prop} {v0 : Nat} {v1 : Int32} {v2 : Int32} {v3 : Int32} {v4 : Int32} {v5 : Int32} {v6 : Int32} {S0 S : HS} (h : P_X11_fitOf_31 Q X16 v0 v1 v2 v3 v4 v5 v6 S) (K : KH S0 S) (hX16 : ∀ (u0 : Nat) (u1 : Int32) (u2 : Int32) (u3 : Int32) (u4 : Int32) (u5 : Int32) (u6 : HS), X16 u0 u1 u2 u3 u4 u5 u6 → KH S0 u6 → X16_2 u0 u1 u2 u3 u4 u5 u6) : P_X11_fitOf_31 (fun r T => Q r T ∧ KH S0 T) X16_2 v0 v1 v2 v3 v4 v5 v6 S := h (fun v0 v1 v2 v3 v4 v5 v6 S => KH S0 S → P_X11_fitOf_31 (fun r T => Q r T ∧ KH S0 T) X16_2 v0 v1 v2 v3 v4 v5 v6 S) (fun v0 v1 v2 v3 v4 v5 v6 S hB K => fd_X11_fitOf_31 (khB_X11_fitOf_31 hB K hX16 (fun _ _ _ _ _ _ _ _ hx K => hx K))) K
set_option maxRecDepth 20000 in
set_option maxHeartbeats 1000000 in
theorem khB_X11_fitOf_16 {Q : Int32 → HS → Prop} {X16 X16_2 : Nat → Int32 → Int32 → Int32 → Int32 → Int32 → HS → Prop} {v0 : Nat} {v1 : Int32} {v2 : Int32} {v3 : Int32} {v4 : Int32} {v5 : Int32} {S0 S : HS} (h : B_X11_fitOf_16 Q X16 v0 v1 v2 v3 v4 v5 S) (K : KH S0 S) (hX16 : ∀ (u0 : Nat) (u1 : Int32) (u2 : Int32) (u3 : Int32) (u4 : Int32) (u5 : Int32) (u6 : HS), X16 u0 u1 u2 u3 u4 u5 u6 → KH S0 u6 → X16_2 u0 u1 u2 u3 u4 u5 u6) : B_X11_fitOf_16 (fun r T => Q r T ∧ KH S0 T) X16_2 v0 v1 v2 v3 v4 v5 S := by
  delta B_X11_fitOf_16 at h ⊢
  obtain ⟨c1, h⟩ := h
  refine ⟨c1, ?_⟩
  obtain ⟨b2, e3, h⟩ := h
  refine ⟨b2, e3, ?_⟩
  obtain ⟨c4, h⟩ := h
  refine ⟨c4, ?_⟩
  intro x6 e5
  have h := h x6 e5
  refine ⟨?_, ?_⟩
  · intro c7
    have h := h.1 c7
    refine ⟨?_, ?_⟩
    · intro c8
      have h := h.1 c8
      exact ⟨h, K⟩
    · intro c9
      have h := h.2 c9
      exact ⟨h, K⟩
  · intro c10
    have h := h.2 c10
    exact kh_X11_fitOf_31 h K hX16
theorem kh_X11_fitOf_16 {Q : Int32 → HS → Prop} {v0 : Nat} {v1 : Int32} {v2 : Int32} {v3 : Int32} {v4 : Int32} {v5 : Int32} {S0 S : HS} (h : P_X11_fitOf_16 Q v0 v1 v2 v3 v4 v5 S) (K : KH S0 S) : P_X11_fitOf_16 (fun r T => Q r T ∧ KH S0 T) v0 v1 v2 v3 v4 v5 S := h (fun v0 v1 v2 v3 v4 v5 S => KH S0 S → P_X11_fitOf_16 (fun r T => Q r T ∧ KH S0 T) v0 v1 v2 v3 v4 v5 S) (fun v0 v1 v2 v3 v4 v5 S hB K => fd_X11_fitOf_16 (khB_X11_fitOf_16 hB K (fun _ _ _ _ _ _ _ hx K => hx K))) K
set_option maxRecDepth 20000 in
set_option maxHeartbeats 1000000 in
theorem kh_X11_fitOf_0 {Q : Int32 → HS → Prop} {v0 : Nat} {v1 : Int32} {v2 : Int32} {S0 S : HS} (h : P_X11_fitOf_0 Q v0 v1 v2 S) (K : KH S0 S) : P_X11_fitOf_0 (fun r T => Q r T ∧ KH S0 T) v0 v1 v2 S := by
  delta P_X11_fitOf_0 at h ⊢
  obtain ⟨c1, h⟩ := h
  refine ⟨c1, ?_⟩
  obtain ⟨b2, e3, h⟩ := h
  refine ⟨b2, e3, ?_⟩
  obtain ⟨c4, h⟩ := h
  refine ⟨c4, ?_⟩
  obtain ⟨b5, e6, h⟩ := h
  refine ⟨b5, e6, ?_⟩
  obtain ⟨c7, h⟩ := h
  refine ⟨c7, ?_⟩
  obtain ⟨c8, h⟩ := h
  refine ⟨c8, ?_⟩
  intro x10 e9
  have h := h x10 e9
  exact kh_X11_fitOf_16 h K
theorem kh_X11_fitOf {Q : Int32 → HS → Prop} {v0 : Nat} {v1 : Int32} {v2 : Int32} {S : HS} (h : P_X11_fitOf v0 v1 v2 Q S) : P_X11_fitOf v0 v1 v2 (fun r T => Q r T ∧ KH S T) S := kh_X11_fitOf_0 h (kh_rf S)
set_option maxRecDepth 20000 in
set_option maxHeartbeats 1000000 in
theorem kh_X11_isSeen_0 {Q : Int32 → HS → Prop} {v0 : Nat} {v1 : Int32} {S0 S : HS} (h : P_X11_isSeen_0 Q v0 v1 S) (K : KH S0 S) : P_X11_isSeen_0 (fun r T => Q r T ∧ KH S0 T) v0 v1 S := by
  delta P_X11_isSeen_0 at h ⊢
  obtain ⟨c1, h⟩ := h
  refine ⟨c1, ?_⟩
  refine ⟨?_, ?_⟩
  · intro c2
    have h := h.1 c2
    exact ⟨h, K⟩
  · intro x3 c4
    have h := h.2 x3 c4
    refine ⟨?_, ?_⟩
    · intro c5
      have h := h.1 c5
      exact ⟨h, K⟩
    · intro c6
      have h := h.2 c6
      obtain ⟨b7, e8, h⟩ := h
      refine ⟨b7, e8, ?_⟩
      obtain ⟨c9, h⟩ := h
      refine ⟨c9, ?_⟩
      intro x11 e10
      have h := h x11 e10
      refine ⟨?_, ?_⟩
      · intro c12
        have h := h.1 c12
        exact ⟨h, K⟩
      · intro c13
        have h := h.2 c13
        exact ⟨h, K⟩
theorem kh_X11_isSeen {Q : Int32 → HS → Prop} {v0 : Nat} {v1 : Int32} {S : HS} (h : P_X11_isSeen v0 v1 Q S) : P_X11_isSeen v0 v1 (fun r T => Q r T ∧ KH S T) S := kh_X11_isSeen_0 h (kh_rf S)
set_option maxRecDepth 20000 in
set_option maxHeartbeats 1000000 in
theorem kh_X11_fit_27 {Q : Int32 → HS → Prop} {v0 : Nat} {s0 : Int32} {S0 S : HS} (h : P_X11_fit_27 Q v0 s0 S) (K : KH S0 S) : P_X11_fit_27 (fun r T => Q r T ∧ KH S0 T) v0 s0 S := by
  delta P_X11_fit_27 at h ⊢
  refine ⟨?_, ?_⟩
  · intro c1
    have h := h.1 c1
    obtain ⟨c2, h⟩ := h
    refine ⟨c2, ?_⟩
    refine cm_X11_good (kh_X11_good h) h (fun x3 x4 hp h g5 => ?_)
    have h := h g5
    have K := kh_tr K hp.2
    exact ⟨h, K⟩
  · intro c6
    have h := h.2 c6
    obtain ⟨c7, h⟩ := h
    refine ⟨c7, ?_⟩
    refine cm_X11_refused (kh_X11_refused h) h (fun x8 x9 hp h g10 => ?_)
    have h := h g10
    have K := kh_tr K hp.2
    exact ⟨h, K⟩
set_option maxRecDepth 20000 in
set_option maxHeartbeats 1000000 in
theorem kh_X11_fit_26 {Q : Int32 → HS → Prop} {v0 : Nat} {S0 S : HS} (h : P_X11_fit_26 Q v0 S) (K : KH S0 S) : P_X11_fit_26 (fun r T => Q r T ∧ KH S0 T) v0 S := by
  delta P_X11_fit_26 at h ⊢
  exact kh_X11_fit_27 h K
set_option maxRecDepth 20000 in
set_option maxHeartbeats 1000000 in
theorem kh_X11_fit_0 {Q : Int32 → HS → Prop} {v0 : Nat} {v1 : Int32} {v2 : Int32} {S0 S : HS} (h : P_X11_fit_0 Q v0 v1 v2 S) (K : KH S0 S) : P_X11_fit_0 (fun r T => Q r T ∧ KH S0 T) v0 v1 v2 S := by
  delta P_X11_fit_0 at h ⊢
  obtain ⟨c1, h⟩ := h
  refine ⟨c1, ?_⟩
  intro x3 e2
  have h := h x3 e2
  have K := kh_I K e2
  refine cm_X11_isSeen (kh_X11_isSeen h) h (fun x4 x5 hp h g6 g7 => ?_)
  have h := h g6 g7
  have K := kh_tr K hp.2
  refine ⟨?_, ?_⟩
  · intro c8
    have h := h.1 c8
    exact kh_X11_fit_26 h K
  · intro c9
    have h := h.2 c9
    refine ⟨?_, ?_⟩
    · intro c10
      have h := h.1 c10
      exact kh_X11_fit_26 h K
    · intro c11
      have h := h.2 c11
      refine cm_X11_fitOf (kh_X11_fitOf h) h (fun x12 x13 hp h g14 => ?_)
      have h := h g14
      have K := kh_tr K hp.2
      exact kh_X11_fit_27 h K
theorem kh_X11_fit {Q : Int32 → HS → Prop} {v0 : Nat} {v1 : Int32} {v2 : Int32} {S : HS} (h : P_X11_fit v0 v1 v2 Q S) : P_X11_fit v0 v1 v2 (fun r T => Q r T ∧ KH S T) S := kh_X11_fit_0 h (kh_rf S)
set_option maxRecDepth 20000 in
set_option maxHeartbeats 1000000 in
theorem kh_X11_fits_0 {Q : Int32 → HS → Prop} {v0 : Nat} {v1 : Int32} {S0 S : HS} (h : P_X11_fits_0 Q v0 v1 S) (K : KH S0 S) : P_X11_fits_0 (fun r T => Q r T ∧ KH S0 T) v0 v1 S := by
  delta P_X11_fits_0 at h ⊢
  obtain ⟨c1, h⟩ := h
  refine ⟨c1, ?_⟩
  intro x3 e2
  have h := h x3 e2
  have K := kh_I K e2
  refine cm_X11_isSeen (kh_X11_isSeen h) h (fun x4 x5 hp h g6 g7 => ?_)
  have h := h g6 g7
  have K := kh_tr K hp.2
  refine ⟨?_, ?_⟩
  · intro c8
    have h := h.1 c8
    refine cm_X11_refused (kh_X11_refused h) h (fun x9 x10 hp h g11 => ?_)
    have h := h g11
    have K := kh_tr K hp.2
    exact ⟨h, K⟩
  · intro c12
    have h := h.2 c12
    refine cm_X11_fitOf (kh_X11_fitOf h) h (fun x13 x14 hp h g15 => ?_)
    have h := h g15
    have K := kh_tr K hp.2
    refine cm_X11_good (kh_X11_good h) h (fun x16 x17 hp h g18 => ?_)
    have h := h g18
    have K := kh_tr K hp.2
    exact ⟨h, K⟩
theorem kh_X11_fits {Q : Int32 → HS → Prop} {v0 : Nat} {v1 : Int32} {S : HS} (h : P_X11_fits v0 v1 Q S) : P_X11_fits v0 v1 (fun r T => Q r T ∧ KH S T) S := kh_X11_fits_0 h (kh_rf S)
set_option maxRecDepth 20000 in
set_option maxHeartbeats 1000000 in
theorem kh_X11_hourOf_0 {Q : Int32 → HS → Prop} {v0 : Nat} {v1 : Int32} {S0 S : HS} (h : P_X11_hourOf_0 Q v0 v1 S) (K : KH S0 S) : P_X11_hourOf_0 (fun r T => Q r T ∧ KH S0 T) v0 v1 S := by
  delta P_X11_hourOf_0 at h ⊢
  obtain ⟨c1, h⟩ := h
  refine ⟨c1, ?_⟩
  obtain ⟨b2, e3, h⟩ := h
  refine ⟨b2, e3, ?_⟩
  obtain ⟨c4, h⟩ := h
  refine ⟨c4, ?_⟩
  intro x6 e5
  have h := h x6 e5
  obtain ⟨c7, h⟩ := h
  refine ⟨c7, ?_⟩
  intro x9 e8
  have h := h x9 e8
  exact ⟨h, K⟩
theorem kh_X11_hourOf {Q : Int32 → HS → Prop} {v0 : Nat} {v1 : Int32} {S : HS} (h : P_X11_hourOf v0 v1 Q S) : P_X11_hourOf v0 v1 (fun r T => Q r T ∧ KH S T) S := kh_X11_hourOf_0 h (kh_rf S)
set_option maxRecDepth 20000 in
set_option maxHeartbeats 1000000 in
theorem khB_X11_keeps_50 {Q : HS → Prop} {X50 X50_2 : Nat → Int32 → HS → Prop} {v0 : Nat} {v1 : Int32} {S0 S : HS} (h : B_X11_keeps_50 Q X50 v0 v1 S) (K : KH S0 S) (hX50 : ∀ (u0 : Nat) (u1 : Int32) (u2 : HS), X50 u0 u1 u2 → KH S0 u2 → X50_2 u0 u1 u2) : B_X11_keeps_50 (fun T => Q T ∧ KH S0 T) X50_2 v0 v1 S := by
  delta B_X11_keeps_50 at h ⊢
  refine ⟨?_, ?_⟩
  · intro c1
    have h := h.1 c1
    obtain ⟨c2, h⟩ := h
    refine ⟨c2, ?_⟩
    intro x4 e3
    have h := h x4 e3
    intro x6 e5
    have h := h x6 e5
    intro x8 e7
    have h := h x8 e7
    have K := kh_I K e7
    exact ⟨h, K⟩
  · intro c9
    have h := h.2 c9
    obtain ⟨c10, h⟩ := h
    refine ⟨c10, ?_⟩
    obtain ⟨b11, e12, h⟩ := h
    refine ⟨b11, e12, ?_⟩
    intro x14 e13
    have h := h x14 e13
    obtain ⟨b15, e16, h⟩ := h
    refine ⟨b15, e16, ?_⟩
    obtain ⟨c17, h⟩ := h
    refine ⟨c17, ?_⟩
    obtain ⟨c18, h⟩ := h
    refine ⟨c18, ?_⟩
    intro x20 e19
    have h := h x20 e19
    obtain ⟨c21, h⟩ := h
    refine ⟨c21, ?_⟩
    obtain ⟨c22, h⟩ := h
    refine ⟨c22, ?_⟩
    intro x24 e23
    have h := h x24 e23
    have K := kh_J K e23
    intro x26 e25
    have h := h x26 e25
    exact hX50 _ _ _ h K
theorem kh_X11_keeps_50 {Q : HS → Prop} {v0 : Nat} {v1 : Int32} {S0 S : HS} (h : P_X11_keeps_50 Q v0 v1 S) (K : KH S0 S) : P_X11_keeps_50 (fun T => Q T ∧ KH S0 T) v0 v1 S := h (fun v0 v1 S => KH S0 S → P_X11_keeps_50 (fun T => Q T ∧ KH S0 T) v0 v1 S) (fun v0 v1 S hB K => fd_X11_keeps_50 (khB_X11_keeps_50 hB K (fun _ _ _ hx K => hx K))) K
set_option maxRecDepth 20000 in
set_option maxHeartbeats 1000000 in
theorem kh_X11_keeps_48 {Q : HS → Prop} {v0 : Nat} {S0 S : HS} (h : P_X11_keeps_48 Q v0 S) (K : KH S0 S) : P_X11_keeps_48 (fun T => Q T ∧ KH S0 T) v0 S := by
  delta P_X11_keeps_48 at h ⊢
  exact kh_X11_keeps_50 h K
set_option maxRecDepth 20000 in
set_option maxHeartbeats 1000000 in
theorem khB_X11_keeps_11 {Q : HS → Prop} {X11 X11_2 : Nat → Int32 → HS → Prop} {v0 : Nat} {v1 : Int32} {S0 S : HS} (h : B_X11_keeps_11 Q X11 v0 v1 S) (K : KH S0 S) (hX11 : ∀ (u0 : Nat) (u1 : Int32) (u2 : HS), X11 u0 u1 u2 → KH S0 u2 → X11_2 u0 u1 u2) : B_X11_keeps_11 (fun T => Q T ∧ KH S0 T) X11_2 v0 v1 S := by
  delta B_X11_keeps_11 at h ⊢
  refine ⟨?_, ?_⟩
  · intro c1
    have h := h.1 c1
    obtain ⟨c2, h⟩ := h
    refine ⟨c2, ?_⟩
    intro x4 e3
    have h := h x4 e3
    intro x6 e5
    have h := h x6 e5
    intro x8 e7
    have h := h x8 e7
    have K := kh_I K e7
    exact kh_X11_keeps_48 h K
  · intro c9
    have h := h.2 c9
    obtain ⟨c10, h⟩ := h
    refine ⟨c10, ?_⟩
    obtain ⟨b11, e12, h⟩ := h
    refine ⟨b11, e12, ?_⟩
    obtain ⟨b13, e14, h⟩ := h
    refine ⟨b13, e14, ?_⟩
    obtain ⟨c15, h⟩ := h
    refine ⟨c15, ?_⟩
    intro x17 e16
    have h := h x17 e16
    obtain ⟨c18, h⟩ := h
    refine ⟨c18, ?_⟩
    intro x20 e19
    have h := h x20 e19
    obtain ⟨c21, h⟩ := h
    refine ⟨c21, ?_⟩
    obtain ⟨c22, h⟩ := h
    refine ⟨c22, ?_⟩
    intro x24 e23
    have h := h x24 e23
    have K := kh_J K e23
    intro x26 e25
    have h := h x26 e25
    exact hX11 _ _ _ h K
theorem kh_X11_keeps_11 {Q : HS → Prop} {v0 : Nat} {v1 : Int32} {S0 S : HS} (h : P_X11_keeps_11 Q v0 v1 S) (K : KH S0 S) : P_X11_keeps_11 (fun T => Q T ∧ KH S0 T) v0 v1 S := h (fun v0 v1 S => KH S0 S → P_X11_keeps_11 (fun T => Q T ∧ KH S0 T) v0 v1 S) (fun v0 v1 S hB K => fd_X11_keeps_11 (khB_X11_keeps_11 hB K (fun _ _ _ hx K => hx K))) K
set_option maxRecDepth 20000 in
set_option maxHeartbeats 1000000 in
theorem kh_X11_keeps_0 {Q : HS → Prop} {v0 : Nat} {S0 S : HS} (h : P_X11_keeps_0 Q v0 S) (K : KH S0 S) : P_X11_keeps_0 (fun T => Q T ∧ KH S0 T) v0 S := by
  delta P_X11_keeps_0 at h ⊢
  obtain ⟨c1, h⟩ := h
  refine ⟨c1, ?_⟩
  intro x3 e2
  have h := h x3 e2
  refine ⟨?_, ?_⟩
  · intro c4
    have h := h.1 c4
    exact kh_X11_keeps_48 h K
  · intro c5
    have h := h.2 c5
    exact kh_X11_keeps_11 h K
theorem kh_X11_keeps {Q : HS → Prop} {v0 : Nat} {S : HS} (h : P_X11_keeps v0 Q S) : P_X11_keeps v0 (fun T => Q T ∧ KH S T) S := kh_X11_keeps_0 h (kh_rf S)
set_option maxRecDepth 20000 in
set_option maxHeartbeats 1000000 in
theorem kh_X11_rainsIn_0 {Q : Int32 → HS → Prop} {v0 : Nat} {v1 : Int32} {S0 S : HS} (h : P_X11_rainsIn_0 Q v0 v1 S) (K : KH S0 S) : P_X11_rainsIn_0 (fun r T => Q r T ∧ KH S0 T) v0 v1 S := by
  delta P_X11_rainsIn_0 at h ⊢
  obtain ⟨c1, h⟩ := h
  refine ⟨c1, ?_⟩
  refine cm_X11_hourOf (kh_X11_hourOf h) h (fun x2 x3 hp h g4 => ?_)
  have h := h g4
  have K := kh_tr K hp.2
  obtain ⟨b5, e6, h⟩ := h
  refine ⟨b5, e6, ?_⟩
  obtain ⟨c7, h⟩ := h
  refine ⟨c7, ?_⟩
  intro x9 e8
  have h := h x9 e8
  refine ⟨?_, ?_⟩
  · intro c10
    have h := h.1 c10
    exact ⟨h, K⟩
  · intro c11
    have h := h.2 c11
    intro x13 e12
    have h := h x13 e12
    refine ⟨?_, ?_⟩
    · intro c14
      have h := h.1 c14
      exact ⟨h, K⟩
    · intro c15
      have h := h.2 c15
      exact ⟨h, K⟩
theorem kh_X11_rainsIn {Q : Int32 → HS → Prop} {v0 : Nat} {v1 : Int32} {S : HS} (h : P_X11_rainsIn v0 v1 Q S) : P_X11_rainsIn v0 v1 (fun r T => Q r T ∧ KH S T) S := kh_X11_rainsIn_0 h (kh_rf S)
set_option maxRecDepth 20000 in
set_option maxHeartbeats 1000000 in
theorem kh_X11_go_29 {Q : Int32 → HS → Prop} {v0 : Nat} {S0 S : HS} (h : P_X11_go_29 Q v0 S) (K : KH S0 S) : P_X11_go_29 (fun r T => Q r T ∧ KH S0 T) v0 S := by
  delta P_X11_go_29 at h ⊢
  obtain ⟨c1, h⟩ := h
  refine ⟨c1, ?_⟩
  refine cm_X11_refused (kh_X11_refused h) h (fun x2 x3 hp h g4 => ?_)
  have h := h g4
  have K := kh_tr K hp.2
  exact ⟨h, K⟩
set_option maxRecDepth 20000 in
set_option maxHeartbeats 1000000 in
theorem kh_X11_go_171 {Q : Int32 → HS → Prop} {v0 : Nat} {v1 : Int32} {v2 : Int32} {v3 : Int32} {v4 : Int32} {S0 S : HS} (h : P_X11_go_171 Q v0 v1 v2 v3 v4 S) (K : KH S0 S) : P_X11_go_171 (fun r T => Q r T ∧ KH S0 T) v0 v1 v2 v3 v4 S := by
  delta P_X11_go_171 at h ⊢
  obtain ⟨c1, h⟩ := h
  refine ⟨c1, ?_⟩
  obtain ⟨b2, e3, h⟩ := h
  refine ⟨b2, e3, ?_⟩
  obtain ⟨b4, e5, h⟩ := h
  refine ⟨b4, e5, ?_⟩
  obtain ⟨c6, h⟩ := h
  refine ⟨c6, ?_⟩
  refine cm_X10_ends (kh_X10_ends h) h (fun x7 x8 hp h g9 => ?_)
  have h := h g9
  have K := kh_tr K hp.2
  obtain ⟨c10, h⟩ := h
  refine ⟨c10, ?_⟩
  intro x12 e11
  have h := h x12 e11
  obtain ⟨c13, h⟩ := h
  refine ⟨c13, ?_⟩
  intro x15 e14
  have h := h x15 e14
  have K := kh_J K e14
  obtain ⟨b16, e17, h⟩ := h
  refine ⟨b16, e17, ?_⟩
  obtain ⟨b18, e19, h⟩ := h
  refine ⟨b18, e19, ?_⟩
  obtain ⟨c20, h⟩ := h
  refine ⟨c20, ?_⟩
  refine cm_X10_minutes (kh_X10_minutes h) h (fun x21 x22 hp h g23 => ?_)
  have h := h g23
  have K := kh_tr K hp.2
  obtain ⟨c24, h⟩ := h
  refine ⟨c24, ?_⟩
  intro x26 e25
  have h := h x26 e25
  obtain ⟨c27, h⟩ := h
  refine ⟨c27, ?_⟩
  intro x29 e28
  have h := h x29 e28
  have K := kh_J K e28
  obtain ⟨b30, e31, h⟩ := h
  refine ⟨b30, e31, ?_⟩
  obtain ⟨c32, h⟩ := h
  refine ⟨c32, ?_⟩
  obtain ⟨c33, h⟩ := h
  refine ⟨c33, ?_⟩
  intro x35 e34
  have h := h x35 e34
  refine cm_X11_good (kh_X11_good h) h (fun x36 x37 hp h g38 => ?_)
  have h := h g38
  have K := kh_tr K hp.2
  exact ⟨h, K⟩
set_option maxRecDepth 20000 in
set_option maxHeartbeats 1000000 in
theorem khB_X11_go_119 {Q : Int32 → HS → Prop} {X119 X119_2 : Nat → Int32 → Int32 → Int32 → Int32 → Int32 → HS → Prop} {v0 : Nat} {v1 : Int32} {v2 : Int32} {v3 : Int32} {v4 : Int32} {v5 : Int32} {S0 S : HS} (h : B_X11_go_119 Q X119 v0 v1 v2 v3 v4 v5 S) (K : KH S0 S) (hX119 : ∀ (u0 : Nat) (u1 : Int32) (u2 : Int32) (u3 : Int32) (u4 : Int32) (u5 : Int32) (u6 : HS), X119 u0 u1 u2 u3 u4 u5 u6 → KH S0 u6 → X119_2 u0 u1 u2 u3 u4 u5 u6) : B_X11_go_119 (fun r T => Q r T ∧ KH S0 T) X119_2 v0 v1 v2 v3 v4 v5 S := by
  delta B_X11_go_119 at h ⊢
  refine ⟨?_, ?_⟩
  · intro c1
    have h := h.1 c1
    exact kh_X11_go_171 h K
  · intro c2
    have h := h.2 c2
    obtain ⟨c3, h⟩ := h
    refine ⟨c3, ?_⟩
    refine cm_X11_rainsIn (kh_X11_rainsIn h) h (fun x4 x5 hp h g6 g7 => ?_)
    have h := h g6 g7
    have K := kh_tr K hp.2
    refine ⟨?_, ?_⟩
    · intro c8
      have h := h.1 c8
      exact kh_X11_go_171 h K
    · intro c9
      have h := h.2 c9
      obtain ⟨b10, e11, h⟩ := h
      refine ⟨b10, e11, ?_⟩
      obtain ⟨c12, h⟩ := h
      refine ⟨c12, ?_⟩
      intro x14 e13
      have h := h x14 e13
      obtain ⟨c15, h⟩ := h
      refine ⟨c15, ?_⟩
      intro x17 e16
      have h := h x17 e16
      intro x19 e18
      have h := h x19 e18
      refine cm_X11_hourOf (kh_X11_hourOf h) h (fun x20 x21 hp h g22 => ?_)
      have h := h g22
      have K := kh_tr K hp.2
      refine cm_X11_partsOf (kh_X11_partsOf h) h (fun x23 x24 hp h g25 => ?_)
      have h := h g25
      have K := kh_tr K hp.2
      intro x27 e26
      have h := h x27 e26
      obtain ⟨c28, h⟩ := h
      refine ⟨c28, ?_⟩
      intro x30 e29
      have h := h x30 e29
      have K := kh_J K e29
      intro x32 e31
      have h := h x32 e31
      exact hX119 _ _ _ _ _ _ _ h K
theorem kh_X11_go_119 {Q : Int32 → HS → Prop} {v0 : Nat} {v1 : Int32} {v2 : Int32} {v3 : Int32} {v4 : Int32} {v5 : Int32} {S0 S : HS} (h : P_X11_go_119 Q v0 v1 v2 v3 v4 v5 S) (K : KH S0 S) : P_X11_go_119 (fun r T => Q r T ∧ KH S0 T) v0 v1 v2 v3 v4 v5 S := h (fun v0 v1 v2 v3 v4 v5 S => KH S0 S → P_X11_go_119 (fun r T => Q r T ∧ KH S0 T) v0 v1 v2 v3 v4 v5 S) (fun v0 v1 v2 v3 v4 v5 S hB K => fd_X11_go_119 (khB_X11_go_119 hB K (fun _ _ _ _ _ _ _ hx K => hx K))) K
set_option maxRecDepth 20000 in
set_option maxHeartbeats 1000000 in
theorem kh_X11_go_0 {Q : Int32 → HS → Prop} {v0 : Nat} {v1 : Int32} {v2 : Int32} {v3 : Int32} {S0 S : HS} (h : P_X11_go_0 Q v0 v1 v2 v3 S) (K : KH S0 S) : P_X11_go_0 (fun r T => Q r T ∧ KH S0 T) v0 v1 v2 v3 S := by
  delta P_X11_go_0 at h ⊢
  obtain ⟨c1, h⟩ := h
  refine ⟨c1, ?_⟩
  intro x3 e2
  have h := h x3 e2
  have K := kh_I K e2
  refine cm_X11_isDay (kh_X11_isDay h) h (fun x4 x5 hp h g6 g7 => ?_)
  have h := h g6 g7
  have K := kh_tr K hp.2
  refine ⟨?_, ?_⟩
  · intro c8
    have h := h.1 c8
    exact kh_X11_go_29 h K
  · intro c9
    have h := h.2 c9
    refine cm_X11_isRoad (kh_X11_isRoad h) h (fun x10 x11 hp h g12 g13 => ?_)
    have h := h g12 g13
    have K := kh_tr K hp.2
    refine ⟨?_, ?_⟩
    · intro c14
      have h := h.1 c14
      exact kh_X11_go_29 h K
    · intro c15
      have h := h.2 c15
      refine cm_X11_in (kh_X11_in h) h (fun x16 x17 hp h g18 g19 => ?_)
      have h := h g18 g19
      have K := kh_tr K hp.2
      refine ⟨?_, ?_⟩
      · intro c20
        have h := h.1 c20
        intro x22 e21
        have h := h x22 e21
        refine cm_X11_isSpeed (kh_X11_isSpeed h) h (fun x23 x24 hp h g25 g26 => ?_)
        have h := h g25 g26
        have K := kh_tr K hp.2
        refine ⟨?_, ?_⟩
        · intro c27
          have h := h.1 c27
          obtain ⟨b28, e29, h⟩ := h
          refine ⟨b28, e29, ?_⟩
          obtain ⟨c30, h⟩ := h
          refine ⟨c30, ?_⟩
          refine cm_X10_begins (kh_X10_begins h) h (fun x31 x32 hp h g33 => ?_)
          have h := h g33
          have K := kh_tr K hp.2
          obtain ⟨b34, e35, h⟩ := h
          refine ⟨b34, e35, ?_⟩
          obtain ⟨c36, h⟩ := h
          refine ⟨c36, ?_⟩
          obtain ⟨c37, h⟩ := h
          refine ⟨c37, ?_⟩
          intro x39 e38
          have h := h x39 e38
          refine ⟨?_, ?_⟩
          · intro c40
            have h := h.1 c40
            obtain ⟨b41, e42, h⟩ := h
            refine ⟨b41, e42, ?_⟩
            obtain ⟨c43, h⟩ := h
            refine ⟨c43, ?_⟩
            obtain ⟨c44, h⟩ := h
            refine ⟨c44, ?_⟩
            intro x46 e45
            have h := h x46 e45
            intro x48 e47
            have h := h x48 e47
            obtain ⟨b49, e50, h⟩ := h
            refine ⟨b49, e50, ?_⟩
            obtain ⟨c51, h⟩ := h
            refine ⟨c51, ?_⟩
            refine cm_X10_minutes (kh_X10_minutes h) h (fun x52 x53 hp h g54 => ?_)
            have h := h g54
            have K := kh_tr K hp.2
            refine ⟨?_, ?_⟩
            · intro c55
              have h := h.1 c55
              refine cm_X11_keeps (kh_X11_keeps h) h (fun x56 hp h g57 => ?_)
              have h := h g57
              have K := kh_tr K hp.2
              exact kh_X11_go_119 h K
            · intro c58
              have h := h.2 c58
              refine cm_X11_refused (kh_X11_refused h) h (fun x59 x60 hp h g61 => ?_)
              have h := h g61
              have K := kh_tr K hp.2
              exact ⟨h, K⟩
          · intro c62
            have h := h.2 c62
            refine cm_X11_refused (kh_X11_refused h) h (fun x63 x64 hp h g65 => ?_)
            have h := h g65
            have K := kh_tr K hp.2
            exact ⟨h, K⟩
        · intro c66
          have h := h.2 c66
          refine cm_X11_refused (kh_X11_refused h) h (fun x67 x68 hp h g69 => ?_)
          have h := h g69
          have K := kh_tr K hp.2
          exact ⟨h, K⟩
      · intro c70
        have h := h.2 c70
        exact kh_X11_go_29 h K
theorem kh_X11_go {Q : Int32 → HS → Prop} {v0 : Nat} {v1 : Int32} {v2 : Int32} {v3 : Int32} {S : HS} (h : P_X11_go v0 v1 v2 v3 Q S) : P_X11_go v0 v1 v2 v3 (fun r T => Q r T ∧ KH S T) S := kh_X11_go_0 h (kh_rf S)
set_option maxRecDepth 20000 in
set_option maxHeartbeats 1000000 in
theorem kh_X11_got_40 {Q : Int64 → HS → Prop} {v0 : Nat} {S0 S : HS} (h : P_X11_got_40 Q v0 S) (K : KH S0 S) : P_X11_got_40 (fun r T => Q r T ∧ KH S0 T) v0 S := by
  delta P_X11_got_40 at h ⊢
  obtain ⟨c1, h⟩ := h
  refine ⟨c1, ?_⟩
  refine cm_X11_refused (kh_X11_refused h) h (fun x2 x3 hp h g4 => ?_)
  have h := h g4
  have K := kh_tr K hp.2
  exact ⟨h, K⟩
set_option maxRecDepth 20000 in
set_option maxHeartbeats 1000000 in
theorem kh_X11_got_0 {Q : Int64 → HS → Prop} {v0 : Nat} {v1 : Int32} {v2 : Int32} {S0 S : HS} (h : P_X11_got_0 Q v0 v1 v2 S) (K : KH S0 S) : P_X11_got_0 (fun r T => Q r T ∧ KH S0 T) v0 v1 v2 S := by
  delta P_X11_got_0 at h ⊢
  obtain ⟨c1, h⟩ := h
  refine ⟨c1, ?_⟩
  intro x3 e2
  have h := h x3 e2
  have K := kh_I K e2
  refine cm_X11_isDay (kh_X11_isDay h) h (fun x4 x5 hp h g6 g7 => ?_)
  have h := h g6 g7
  have K := kh_tr K hp.2
  refine ⟨?_, ?_⟩
  · intro c8
    have h := h.1 c8
    exact kh_X11_got_40 h K
  · intro c9
    have h := h.2 c9
    refine cm_X11_in (kh_X11_in h) h (fun x10 x11 hp h g12 g13 => ?_)
    have h := h g12 g13
    have K := kh_tr K hp.2
    refine ⟨?_, ?_⟩
    · intro c14
      have h := h.1 c14
      exact kh_X11_got_40 h K
    · intro c15
      have h := h.2 c15
      obtain ⟨b16, e17, h⟩ := h
      refine ⟨b16, e17, ?_⟩
      obtain ⟨c18, h⟩ := h
      refine ⟨c18, ?_⟩
      intro x20 e19
      have h := h x20 e19
      obtain ⟨c21, h⟩ := h
      refine ⟨c21, ?_⟩
      intro x23 e22
      have h := h x23 e22
      refine cm_X11_told (kh_X11_told h) h (fun x24 x25 hp h g26 => ?_)
      have h := h g26
      have K := kh_tr K hp.2
      exact ⟨h, K⟩
theorem kh_X11_got {Q : Int64 → HS → Prop} {v0 : Nat} {v1 : Int32} {v2 : Int32} {S : HS} (h : P_X11_got v0 v1 v2 Q S) : P_X11_got v0 v1 v2 (fun r T => Q r T ∧ KH S T) S := kh_X11_got_0 h (kh_rf S)
set_option maxRecDepth 20000 in
set_option maxHeartbeats 1000000 in
theorem khB_X11_gotInAll_4 {Q : Int64 → HS → Prop} {X4 X4_2 : Nat → Int64 → Int32 → HS → Prop} {v0 : Nat} {v1 : Int64} {v3 : Int32} {S0 S : HS} (h : B_X11_gotInAll_4 Q X4 v0 v1 v3 S) (K : KH S0 S) (hX4 : ∀ (u0 : Nat) (u1 : Int64) (u2 : Int32) (u3 : HS), X4 u0 u1 u2 u3 → KH S0 u3 → X4_2 u0 u1 u2 u3) : B_X11_gotInAll_4 (fun r T => Q r T ∧ KH S0 T) X4_2 v0 v1 v3 S := by
  delta B_X11_gotInAll_4 at h ⊢
  refine ⟨?_, ?_⟩
  · intro c1
    have h := h.1 c1
    exact ⟨h, K⟩
  · intro c2
    have h := h.2 c2
    obtain ⟨c3, h⟩ := h
    refine ⟨c3, ?_⟩
    obtain ⟨b4, e5, h⟩ := h
    refine ⟨b4, e5, ?_⟩
    obtain ⟨c6, h⟩ := h
    refine ⟨c6, ?_⟩
    intro x8 e7
    have h := h x8 e7
    obtain ⟨c9, h⟩ := h
    refine ⟨c9, ?_⟩
    intro x11 e10
    have h := h x11 e10
    intro x13 e12
    have h := h x13 e12
    intro x15 e14
    have h := h x15 e14
    exact hX4 _ _ _ _ h K
theorem kh_X11_gotInAll_4 {Q : Int64 → HS → Prop} {v0 : Nat} {v1 : Int64} {v3 : Int32} {S0 S : HS} (h : P_X11_gotInAll_4 Q v0 v1 v3 S) (K : KH S0 S) : P_X11_gotInAll_4 (fun r T => Q r T ∧ KH S0 T) v0 v1 v3 S := h (fun v0 v1 v3 S => KH S0 S → P_X11_gotInAll_4 (fun r T => Q r T ∧ KH S0 T) v0 v1 v3 S) (fun v0 v1 v3 S hB K => fd_X11_gotInAll_4 (khB_X11_gotInAll_4 hB K (fun _ _ _ _ hx K => hx K))) K
set_option maxRecDepth 20000 in
set_option maxHeartbeats 1000000 in
theorem kh_X11_gotInAll_0 {Q : Int64 → HS → Prop} {v0 : Nat} {S0 S : HS} (h : P_X11_gotInAll_0 Q v0 S) (K : KH S0 S) : P_X11_gotInAll_0 (fun r T => Q r T ∧ KH S0 T) v0 S := by
  delta P_X11_gotInAll_0 at h ⊢
  exact kh_X11_gotInAll_4 h K
theorem kh_X11_gotInAll {Q : Int64 → HS → Prop} {v0 : Nat} {S : HS} (h : P_X11_gotInAll v0 Q S) : P_X11_gotInAll v0 (fun r T => Q r T ∧ KH S T) S := kh_X11_gotInAll_0 h (kh_rf S)
set_option maxRecDepth 20000 in
set_option maxHeartbeats 1000000 in
theorem kh_X11_held_68 {Q : Int32 → HS → Prop} {s0 : Nat} {s1 : Int32} {S0 S : HS} (h : P_X11_held_68 Q s0 s1 S) (K : KH S0 S) : P_X11_held_68 (fun r T => Q r T ∧ KH S0 T) s0 s1 S := by
  delta P_X11_held_68 at h ⊢
  obtain ⟨c1, h⟩ := h
  refine ⟨c1, ?_⟩
  refine cm_X11_good (kh_X11_good h) h (fun x2 x3 hp h g4 => ?_)
  have h := h g4
  have K := kh_tr K hp.2
  exact ⟨h, K⟩
set_option maxRecDepth 20000 in
set_option maxHeartbeats 1000000 in
theorem kh_X11_held_0 {Q : Int32 → HS → Prop} {v0 : Nat} {v1 : Int32} {v2 : Int32} {v3 : Int32} {v4 : Int32} {v5 : Int32} {S0 S : HS} (h : P_X11_held_0 Q v0 v1 v2 v3 v4 v5 S) (K : KH S0 S) : P_X11_held_0 (fun r T => Q r T ∧ KH S0 T) v0 v1 v2 v3 v4 v5 S := by
  delta P_X11_held_0 at h ⊢
  obtain ⟨c1, h⟩ := h
  refine ⟨c1, ?_⟩
  intro x3 e2
  have h := h x3 e2
  have K := kh_I K e2
  refine cm_X11_refuses (kh_X11_refuses h) h (fun x4 x5 hp h g6 => ?_)
  have h := h g6
  have K := kh_tr K hp.2
  refine ⟨?_, ?_⟩
  · intro c7
    have h := h.1 c7
    obtain ⟨b8, e9, h⟩ := h
    refine ⟨b8, e9, ?_⟩
    obtain ⟨c10, h⟩ := h
    refine ⟨c10, ?_⟩
    obtain ⟨b11, e12, h⟩ := h
    refine ⟨b11, e12, ?_⟩
    obtain ⟨c13, h⟩ := h
    refine ⟨c13, ?_⟩
    obtain ⟨c14, h⟩ := h
    refine ⟨c14, ?_⟩
    intro x16 e15
    have h := h x16 e15
    refine ⟨?_, ?_⟩
    · intro c17
      have h := h.1 c17
      refine cm_X11_isForward (kh_X11_isForward h) h (fun x18 x19 hp h g20 g21 => ?_)
      have h := h g20 g21
      have K := kh_tr K hp.2
      refine ⟨?_, ?_⟩
      · intro c22
        have h := h.1 c22
        exact kh_X11_held_68 h K
      · intro c23
        have h := h.2 c23
        exact kh_X11_held_68 h K
    · intro c24
      have h := h.2 c24
      exact kh_X11_held_68 h K
  · intro c25
    have h := h.2 c25
    refine cm_X11_refused (kh_X11_refused h) h (fun x26 x27 hp h g28 => ?_)
    have h := h g28
    have K := kh_tr K hp.2
    exact ⟨h, K⟩
theorem kh_X11_held {Q : Int32 → HS → Prop} {v0 : Nat} {v1 : Int32} {v2 : Int32} {v3 : Int32} {v4 : Int32} {v5 : Int32} {S : HS} (h : P_X11_held v0 v1 v2 v3 v4 v5 Q S) : P_X11_held v0 v1 v2 v3 v4 v5 (fun r T => Q r T ∧ KH S T) S := kh_X11_held_0 h (kh_rf S)
set_option maxRecDepth 20000 in
set_option maxHeartbeats 1000000 in
theorem kh_X11_holds_0 {Q : Int64 → HS → Prop} {v0 : Nat} {S0 S : HS} (h : P_X11_holds_0 Q v0 S) (K : KH S0 S) : P_X11_holds_0 (fun r T => Q r T ∧ KH S0 T) v0 S := by
  delta P_X11_holds_0 at h ⊢
  obtain ⟨c1, h⟩ := h
  refine ⟨c1, ?_⟩
  obtain ⟨b2, e3, h⟩ := h
  refine ⟨b2, e3, ?_⟩
  obtain ⟨c4, h⟩ := h
  refine ⟨c4, ?_⟩
  obtain ⟨b5, e6, h⟩ := h
  refine ⟨b5, e6, ?_⟩
  intro x8 e7
  have h := h x8 e7
  obtain ⟨c9, h⟩ := h
  refine ⟨c9, ?_⟩
  obtain ⟨c10, h⟩ := h
  refine ⟨c10, ?_⟩
  intro x12 e11
  have h := h x12 e11
  refine ⟨?_, ?_⟩
  · intro c13
    have h := h.1 c13
    exact ⟨h, K⟩
  · intro c14
    have h := h.2 c14
    obtain ⟨b15, e16, h⟩ := h
    refine ⟨b15, e16, ?_⟩
    obtain ⟨c17, h⟩ := h
    refine ⟨c17, ?_⟩
    obtain ⟨b18, e19, h⟩ := h
    refine ⟨b18, e19, ?_⟩
    intro x21 e20
    have h := h x21 e20
    obtain ⟨c22, h⟩ := h
    refine ⟨c22, ?_⟩
    obtain ⟨c23, h⟩ := h
    refine ⟨c23, ?_⟩
    intro x25 e24
    have h := h x25 e24
    exact ⟨h, K⟩
theorem kh_X11_holds {Q : Int64 → HS → Prop} {v0 : Nat} {S : HS} (h : P_X11_holds v0 Q S) : P_X11_holds v0 (fun r T => Q r T ∧ KH S T) S := kh_X11_holds_0 h (kh_rf S)
set_option maxRecDepth 20000 in
set_option maxHeartbeats 1000000 in
theorem kh_X11_isName_0 {Q : Int32 → HS → Prop} {v0 : Nat} {S0 S : HS} (h : P_X11_isName_0 Q v0 S) (K : KH S0 S) : P_X11_isName_0 (fun r T => Q r T ∧ KH S0 T) v0 S := by
  delta P_X11_isName_0 at h ⊢
  obtain ⟨c1, h⟩ := h
  refine ⟨c1, ?_⟩
  intro x3 e2
  have h := h x3 e2
  refine ⟨?_, ?_⟩
  · intro c4
    have h := h.1 c4
    exact ⟨h, K⟩
  · intro c5
    have h := h.2 c5
    refine cm_X11_isWord (kh_X11_isWord h) h (fun x6 x7 hp h g8 g9 => ?_)
    have h := h g8 g9
    have K := kh_tr K hp.2
    refine ⟨?_, ?_⟩
    · intro c10
      have h := h.1 c10
      exact ⟨h, K⟩
    · intro c11
      have h := h.2 c11
      refine cm_X11_isWord (kh_X11_isWord h) h (fun x12 x13 hp h g14 g15 => ?_)
      have h := h g14 g15
      have K := kh_tr K hp.2
      refine ⟨?_, ?_⟩
      · intro c16
        have h := h.1 c16
        exact ⟨h, K⟩
      · intro c17
        have h := h.2 c17
        refine cm_X11_isWord (kh_X11_isWord h) h (fun x18 x19 hp h g20 g21 => ?_)
        have h := h g20 g21
        have K := kh_tr K hp.2
        refine ⟨?_, ?_⟩
        · intro c22
          have h := h.1 c22
          exact ⟨h, K⟩
        · intro c23
          have h := h.2 c23
          refine cm_X11_isWord (kh_X11_isWord h) h (fun x24 x25 hp h g26 g27 => ?_)
          have h := h g26 g27
          have K := kh_tr K hp.2
          refine ⟨?_, ?_⟩
          · intro c28
            have h := h.1 c28
            refine cm_X11_isWord (kh_X11_isWord h) h (fun x29 x30 hp h g31 g32 => ?_)
            have h := h g31 g32
            have K := kh_tr K hp.2
            refine ⟨?_, ?_⟩
            · intro c33
              have h := h.1 c33
              exact ⟨h, K⟩
            · intro c34
              have h := h.2 c34
              refine cm_X11_isWord (kh_X11_isWord h) h (fun x35 x36 hp h g37 g38 => ?_)
              have h := h g37 g38
              have K := kh_tr K hp.2
              refine ⟨?_, ?_⟩
              · intro c39
                have h := h.1 c39
                exact ⟨h, K⟩
              · intro c40
                have h := h.2 c40
                refine cm_X11_isWord (kh_X11_isWord h) h (fun x41 x42 hp h g43 g44 => ?_)
                have h := h g43 g44
                have K := kh_tr K hp.2
                refine ⟨?_, ?_⟩
                · intro c45
                  have h := h.1 c45
                  exact ⟨h, K⟩
                · intro c46
                  have h := h.2 c46
                  refine cm_X11_isWord (kh_X11_isWord h) h (fun x47 x48 hp h g49 g50 => ?_)
                  have h := h g49 g50
                  have K := kh_tr K hp.2
                  refine ⟨?_, ?_⟩
                  · intro c51
                    have h := h.1 c51
                    exact ⟨h, K⟩
                  · intro c52
                    have h := h.2 c52
                    refine cm_X11_isWord (kh_X11_isWord h) h (fun x53 x54 hp h g55 g56 => ?_)
                    have h := h g55 g56
                    have K := kh_tr K hp.2
                    refine ⟨?_, ?_⟩
                    · intro c57
                      have h := h.1 c57
                      exact ⟨h, K⟩
                    · intro c58
                      have h := h.2 c58
                      exact ⟨h, K⟩
          · intro c59
            have h := h.2 c59
            exact ⟨h, K⟩
theorem kh_X11_isName {Q : Int32 → HS → Prop} {v0 : Nat} {S : HS} (h : P_X11_isName v0 Q S) : P_X11_isName v0 (fun r T => Q r T ∧ KH S T) S := kh_X11_isName_0 h (kh_rf S)
set_option maxRecDepth 20000 in
set_option maxHeartbeats 1000000 in
theorem kh_X11_known_47 {Q : Int32 → HS → Prop} {v0 : Nat} {v2 : Int32} {S0 S : HS} (h : P_X11_known_47 Q v0 v2 S) (K : KH S0 S) : P_X11_known_47 (fun r T => Q r T ∧ KH S0 T) v0 v2 S := by
  delta P_X11_known_47 at h ⊢
  obtain ⟨c1, h⟩ := h
  refine ⟨c1, ?_⟩
  intro x3 e2
  have h := h x3 e2
  refine ⟨?_, ?_⟩
  · intro c4
    have h := h.1 c4
    obtain ⟨b5, e6, h⟩ := h
    refine ⟨b5, e6, ?_⟩
    obtain ⟨c7, h⟩ := h
    refine ⟨c7, ?_⟩
    obtain ⟨b8, e9, h⟩ := h
    refine ⟨b8, e9, ?_⟩
    obtain ⟨c10, h⟩ := h
    refine ⟨c10, ?_⟩
    obtain ⟨c11, h⟩ := h
    refine ⟨c11, ?_⟩
    intro x13 e12
    have h := h x13 e12
    exact ⟨h, K⟩
  · intro c14
    have h := h.2 c14
    exact ⟨h, K⟩
set_option maxRecDepth 20000 in
set_option maxHeartbeats 1000000 in
theorem kh_X11_known_42 {Q : Int32 → HS → Prop} {v0 : Nat} {v2 : Int32} {S0 S : HS} (h : P_X11_known_42 Q v0 v2 S) (K : KH S0 S) : P_X11_known_42 (fun r T => Q r T ∧ KH S0 T) v0 v2 S := by
  delta P_X11_known_42 at h ⊢
  obtain ⟨c1, h⟩ := h
  refine ⟨c1, ?_⟩
  refine cm_X11_flaw (kh_X11_flaw h) h (fun x2 hp h g3 => ?_)
  have h := h g3
  have K := kh_tr K hp.2
  exact kh_X11_known_47 h K
set_option maxRecDepth 20000 in
set_option maxHeartbeats 1000000 in
theorem kh_X11_known_12 {Q : Int32 → HS → Prop} {v0 : Nat} {v1 : Int32} {S0 S : HS} (h : P_X11_known_12 Q v0 v1 S) (K : KH S0 S) : P_X11_known_12 (fun r T => Q r T ∧ KH S0 T) v0 v1 S := by
  delta P_X11_known_12 at h ⊢
  obtain ⟨c1, h⟩ := h
  refine ⟨c1, ?_⟩
  obtain ⟨b2, e3, h⟩ := h
  refine ⟨b2, e3, ?_⟩
  intro x5 e4
  have h := h x5 e4
  obtain ⟨c6, h⟩ := h
  refine ⟨c6, ?_⟩
  refine cm_X10_find (kh_X10_find h) h (fun x7 x8 hp h g9 => ?_)
  have h := h g9
  have K := kh_tr K hp.2
  refine ⟨?_, ?_⟩
  · intro c10
    have h := h.1 c10
    exact kh_X11_known_42 h K
  · intro c11
    have h := h.2 c11
    obtain ⟨b12, e13, h⟩ := h
    refine ⟨b12, e13, ?_⟩
    obtain ⟨c14, h⟩ := h
    refine ⟨c14, ?_⟩
    obtain ⟨b15, e16, h⟩ := h
    refine ⟨b15, e16, ?_⟩
    obtain ⟨c17, h⟩ := h
    refine ⟨c17, ?_⟩
    obtain ⟨c18, h⟩ := h
    refine ⟨c18, ?_⟩
    intro x20 e19
    have h := h x20 e19
    refine ⟨?_, ?_⟩
    · intro c21
      have h := h.1 c21
      exact kh_X11_known_47 h K
    · intro c22
      have h := h.2 c22
      exact kh_X11_known_42 h K
set_option maxRecDepth 20000 in
set_option maxHeartbeats 1000000 in
theorem kh_X11_known_0 {Q : Int32 → HS → Prop} {v0 : Nat} {v1 : Int32} {S0 S : HS} (h : P_X11_known_0 Q v0 v1 S) (K : KH S0 S) : P_X11_known_0 (fun r T => Q r T ∧ KH S0 T) v0 v1 S := by
  delta P_X11_known_0 at h ⊢
  obtain ⟨c1, h⟩ := h
  refine ⟨c1, ?_⟩
  refine cm_X11_isName (kh_X11_isName h) h (fun x2 x3 hp h g4 g5 => ?_)
  have h := h g4 g5
  have K := kh_tr K hp.2
  refine ⟨?_, ?_⟩
  · intro c6
    have h := h.1 c6
    exact kh_X11_known_12 h K
  · intro c7
    have h := h.2 c7
    refine cm_X11_flaw (kh_X11_flaw h) h (fun x8 hp h g9 => ?_)
    have h := h g9
    have K := kh_tr K hp.2
    exact kh_X11_known_12 h K
theorem kh_X11_known {Q : Int32 → HS → Prop} {v0 : Nat} {v1 : Int32} {S : HS} (h : P_X11_known v0 v1 Q S) : P_X11_known v0 v1 (fun r T => Q r T ∧ KH S T) S := kh_X11_known_0 h (kh_rf S)
set_option maxRecDepth 20000 in
set_option maxHeartbeats 1000000 in
theorem kh_X11_spotOf_0 {Q : Int32 → HS → Prop} {v0 : Int32} {v1 : Int32} {S0 S : HS} (h : P_X11_spotOf_0 Q v0 v1 S) (K : KH S0 S) : P_X11_spotOf_0 (fun r T => Q r T ∧ KH S0 T) v0 v1 S := by
  delta P_X11_spotOf_0 at h ⊢
  exact ⟨h, K⟩
theorem kh_X11_spotOf {Q : Int32 → HS → Prop} {v0 : Int32} {v1 : Int32} {S : HS} (h : P_X11_spotOf v0 v1 Q S) : P_X11_spotOf v0 v1 (fun r T => Q r T ∧ KH S T) S := kh_X11_spotOf_0 h (kh_rf S)
set_option maxRecDepth 20000 in
set_option maxHeartbeats 1000000 in
theorem kh_X11_meanOf_0 {Q : Int64 → HS → Prop} {v0 : Nat} {v1 : Int32} {v2 : Int32} {v3 : Int32} {v4 : Int32} {v5 : Int32} {S0 S : HS} (h : P_X11_meanOf_0 Q v0 v1 v2 v3 v4 v5 S) (K : KH S0 S) : P_X11_meanOf_0 (fun r T => Q r T ∧ KH S0 T) v0 v1 v2 v3 v4 v5 S := by
  delta P_X11_meanOf_0 at h ⊢
  obtain ⟨c1, h⟩ := h
  refine ⟨c1, ?_⟩
  refine cm_X11_hourOf (kh_X11_hourOf h) h (fun x2 x3 hp h g4 => ?_)
  have h := h g4
  have K := kh_tr K hp.2
  obtain ⟨b5, e6, h⟩ := h
  refine ⟨b5, e6, ?_⟩
  obtain ⟨c7, h⟩ := h
  refine ⟨c7, ?_⟩
  intro x9 e8
  have h := h x9 e8
  refine ⟨?_, ?_⟩
  · intro c10
    have h := h.1 c10
    exact ⟨h, K⟩
  · intro c11
    have h := h.2 c11
    refine cm_X11_wetOf (kh_X11_wetOf h) h (fun x12 x13 hp h g14 => ?_)
    have h := h g14
    have K := kh_tr K hp.2
    obtain ⟨b15, e16, h⟩ := h
    refine ⟨b15, e16, ?_⟩
    obtain ⟨c17, h⟩ := h
    refine ⟨c17, ?_⟩
    obtain ⟨b18, e19, h⟩ := h
    refine ⟨b18, e19, ?_⟩
    obtain ⟨c20, h⟩ := h
    refine ⟨c20, ?_⟩
    obtain ⟨c21, h⟩ := h
    refine ⟨c21, ?_⟩
    intro x23 e22
    have h := h x23 e22
    exact ⟨h, K⟩
theorem kh_X11_meanOf {Q : Int64 → HS → Prop} {v0 : Nat} {v1 : Int32} {v2 : Int32} {v3 : Int32} {v4 : Int32} {v5 : Int32} {S : HS} (h : P_X11_meanOf v0 v1 v2 v3 v4 v5 Q S) : P_X11_meanOf v0 v1 v2 v3 v4 v5 (fun r T => Q r T ∧ KH S T) S := kh_X11_meanOf_0 h (kh_rf S)
set_option maxRecDepth 20000 in
set_option maxHeartbeats 1000000 in
theorem kh_X11_takes_77 {Q : HS → Prop} {v0 : Nat} {v1 : Int32} {v2 : Int32} {v5 : Int32} {v6 : Int64} {S0 S : HS} (h : P_X11_takes_77 Q v0 v1 v2 v5 v6 S) (K : KH S0 S) : P_X11_takes_77 (fun T => Q T ∧ KH S0 T) v0 v1 v2 v5 v6 S := by
  delta P_X11_takes_77 at h ⊢
  obtain ⟨c1, h⟩ := h
  refine ⟨c1, ?_⟩
  obtain ⟨b2, e3, h⟩ := h
  refine ⟨b2, e3, ?_⟩
  obtain ⟨c4, h⟩ := h
  refine ⟨c4, ?_⟩
  obtain ⟨c5, h⟩ := h
  refine ⟨c5, ?_⟩
  intro x7 e6
  have h := h x7 e6
  have K := kh_J K e6
  obtain ⟨b8, e9, h⟩ := h
  refine ⟨b8, e9, ?_⟩
  obtain ⟨b10, e11, h⟩ := h
  refine ⟨b10, e11, ?_⟩
  obtain ⟨c12, h⟩ := h
  refine ⟨c12, ?_⟩
  obtain ⟨c13, h⟩ := h
  refine ⟨c13, ?_⟩
  intro x15 e14
  have h := h x15 e14
  obtain ⟨c16, h⟩ := h
  refine ⟨c16, ?_⟩
  obtain ⟨c17, h⟩ := h
  refine ⟨c17, ?_⟩
  intro x19 e18
  have h := h x19 e18
  have K := kh_I K e18
  obtain ⟨b20, e21, h⟩ := h
  refine ⟨b20, e21, ?_⟩
  obtain ⟨c22, h⟩ := h
  refine ⟨c22, ?_⟩
  obtain ⟨c23, h⟩ := h
  refine ⟨c23, ?_⟩
  intro x25 e24
  have h := h x25 e24
  have K := kh_I K e24
  exact ⟨h, K⟩
set_option maxRecDepth 20000 in
set_option maxHeartbeats 1000000 in
theorem kh_X11_takes_0 {Q : HS → Prop} {v0 : Nat} {v1 : Int32} {v2 : Int32} {v3 : Int64} {v5 : Int32} {S0 S : HS} (h : P_X11_takes_0 Q v0 v1 v2 v3 v5 S) (K : KH S0 S) : P_X11_takes_0 (fun T => Q T ∧ KH S0 T) v0 v1 v2 v3 v5 S := by
  delta P_X11_takes_0 at h ⊢
  obtain ⟨c1, h⟩ := h
  refine ⟨c1, ?_⟩
  obtain ⟨b2, e3, h⟩ := h
  refine ⟨b2, e3, ?_⟩
  obtain ⟨c4, h⟩ := h
  refine ⟨c4, ?_⟩
  obtain ⟨c5, h⟩ := h
  refine ⟨c5, ?_⟩
  intro x7 e6
  have h := h x7 e6
  refine ⟨?_, ?_⟩
  · intro c8
    have h := h.1 c8
    obtain ⟨b9, e10, h⟩ := h
    refine ⟨b9, e10, ?_⟩
    obtain ⟨c11, h⟩ := h
    refine ⟨c11, ?_⟩
    obtain ⟨c12, h⟩ := h
    refine ⟨c12, ?_⟩
    intro x14 e13
    have h := h x14 e13
    intro x16 e15
    have h := h x16 e15
    obtain ⟨b17, e18, h⟩ := h
    refine ⟨b17, e18, ?_⟩
    obtain ⟨c19, h⟩ := h
    refine ⟨c19, ?_⟩
    obtain ⟨c20, h⟩ := h
    refine ⟨c20, ?_⟩
    intro x22 e21
    have h := h x22 e21
    refine ⟨?_, ?_⟩
    · intro c23
      have h := h.1 c23
      exact kh_X11_takes_77 h K
    · intro c24
      have h := h.2 c24
      obtain ⟨b25, e26, h⟩ := h
      refine ⟨b25, e26, ?_⟩
      obtain ⟨c27, h⟩ := h
      refine ⟨c27, ?_⟩
      obtain ⟨c28, h⟩ := h
      refine ⟨c28, ?_⟩
      intro x30 e29
      have h := h x30 e29
      refine ⟨?_, ?_⟩
      · intro c31
        have h := h.1 c31
        exact ⟨h, K⟩
      · intro c32
        have h := h.2 c32
        obtain ⟨b33, e34, h⟩ := h
        refine ⟨b33, e34, ?_⟩
        obtain ⟨c35, h⟩ := h
        refine ⟨c35, ?_⟩
        obtain ⟨c36, h⟩ := h
        refine ⟨c36, ?_⟩
        intro x38 e37
        have h := h x38 e37
        refine ⟨?_, ?_⟩
        · intro c39
          have h := h.1 c39
          exact kh_X11_takes_77 h K
        · intro c40
          have h := h.2 c40
          obtain ⟨b41, e42, h⟩ := h
          refine ⟨b41, e42, ?_⟩
          obtain ⟨c43, h⟩ := h
          refine ⟨c43, ?_⟩
          obtain ⟨c44, h⟩ := h
          refine ⟨c44, ?_⟩
          intro x46 e45
          have h := h x46 e45
          obtain ⟨b47, e48, h⟩ := h
          refine ⟨b47, e48, ?_⟩
          obtain ⟨c49, h⟩ := h
          refine ⟨c49, ?_⟩
          obtain ⟨c50, h⟩ := h
          refine ⟨c50, ?_⟩
          intro x52 e51
          have h := h x52 e51
          refine ⟨?_, ?_⟩
          · intro c53
            have h := h.1 c53
            exact kh_X11_takes_77 h K
          · intro c54
            have h := h.2 c54
            exact ⟨h, K⟩
  · intro c55
    have h := h.2 c55
    exact ⟨h, K⟩
theorem kh_X11_takes {Q : HS → Prop} {v0 : Nat} {v1 : Int32} {v2 : Int32} {v3 : Int64} {v5 : Int32} {S : HS} (h : P_X11_takes v0 v1 v2 v3 v5 Q S) : P_X11_takes v0 v1 v2 v3 v5 (fun T => Q T ∧ KH S T) S := kh_X11_takes_0 h (kh_rf S)
set_option maxRecDepth 20000 in
set_option maxHeartbeats 1000000 in
theorem kh_X11_waitsOf_0 {Q : Int64 → HS → Prop} {v0 : Nat} {v1 : Int32} {v2 : Int32} {v3 : Int32} {S0 S : HS} (h : P_X11_waitsOf_0 Q v0 v1 v2 v3 S) (K : KH S0 S) : P_X11_waitsOf_0 (fun r T => Q r T ∧ KH S0 T) v0 v1 v2 v3 S := by
  delta P_X11_waitsOf_0 at h ⊢
  obtain ⟨c1, h⟩ := h
  refine ⟨c1, ?_⟩
  refine cm_X11_hourOf (kh_X11_hourOf h) h (fun x2 x3 hp h g4 => ?_)
  have h := h g4
  have K := kh_tr K hp.2
  obtain ⟨b5, e6, h⟩ := h
  refine ⟨b5, e6, ?_⟩
  obtain ⟨c7, h⟩ := h
  refine ⟨c7, ?_⟩
  obtain ⟨b8, e9, h⟩ := h
  refine ⟨b8, e9, ?_⟩
  obtain ⟨c10, h⟩ := h
  refine ⟨c10, ?_⟩
  obtain ⟨c11, h⟩ := h
  refine ⟨c11, ?_⟩
  intro x13 e12
  have h := h x13 e12
  refine ⟨?_, ?_⟩
  · intro c14
    have h := h.1 c14
    exact ⟨h, K⟩
  · intro c15
    have h := h.2 c15
    obtain ⟨b16, e17, h⟩ := h
    refine ⟨b16, e17, ?_⟩
    obtain ⟨c18, h⟩ := h
    refine ⟨c18, ?_⟩
    intro x20 e19
    have h := h x20 e19
    refine ⟨?_, ?_⟩
    · intro c21
      have h := h.1 c21
      refine cm_X11_drips (kh_X11_drips h) h (fun x22 x23 hp h g24 => ?_)
      have h := h g24
      have K := kh_tr K hp.2
      obtain ⟨b25, e26, h⟩ := h
      refine ⟨b25, e26, ?_⟩
      obtain ⟨c27, h⟩ := h
      refine ⟨c27, ?_⟩
      obtain ⟨b28, e29, h⟩ := h
      refine ⟨b28, e29, ?_⟩
      obtain ⟨c30, h⟩ := h
      refine ⟨c30, ?_⟩
      obtain ⟨c31, h⟩ := h
      refine ⟨c31, ?_⟩
      intro x33 e32
      have h := h x33 e32
      exact ⟨h, K⟩
    · intro c34
      have h := h.2 c34
      exact ⟨h, K⟩
theorem kh_X11_waitsOf {Q : Int64 → HS → Prop} {v0 : Nat} {v1 : Int32} {v2 : Int32} {v3 : Int32} {S : HS} (h : P_X11_waitsOf v0 v1 v2 v3 Q S) : P_X11_waitsOf v0 v1 v2 v3 (fun r T => Q r T ∧ KH S T) S := kh_X11_waitsOf_0 h (kh_rf S)
set_option maxRecDepth 20000 in
set_option maxHeartbeats 1000000 in
theorem kh_X11_tries_140 {Q : HS → Prop} {X3 X3_2 : Nat → Int32 → Int32 → Int32 → Int32 → Int32 → HS → Prop} {X18 X18_2 : Nat → Int32 → Int32 → Int32 → Int32 → Int32 → Int32 → HS → Prop} {X53 X53_2 : Nat → Int32 → Int32 → Int32 → Int32 → Int32 → Int32 → Int32 → HS → Prop} {v0 : Nat} {v1 : Int32} {v2 : Int32} {v3 : Int32} {v4 : Int32} {v5 : Int32} {v6 : Int32} {v7 : Int32} {S0 S : HS} (h : P_X11_tries_140 Q X3 X18 X53 v0 v1 v2 v3 v4 v5 v6 v7 S) (K : KH S0 S) (hX3 : ∀ (u0 : Nat) (u1 : Int32) (u2 : Int32) (u3 : Int32) (u4 : Int32) (u5 : Int32) (u6 : HS), X3 u0 u1 u2 u3 u4 u5 u6 → KH S0 u6 → X3_2 u0 u1 u2 u3 u4 u5 u6) (hX18 : ∀ (u0 : Nat) (u1 : Int32) (u2 : Int32) (u3 : Int32) (u4 : Int32) (u5 : Int32) (u6 : Int32) (u7 : HS), X18 u0 u1 u2 u3 u4 u5 u6 u7 → KH S0 u7 → X18_2 u0 u1 u2 u3 u4 u5 u6 u7) (hX53 : ∀ (u0 : Nat) (u1 : Int32) (u2 : Int32) (u3 : Int32) (u4 : Int32) (u5 : Int32) (u6 : Int32) (u7 : Int32) (u8 : HS), X53 u0 u1 u2 u3 u4 u5 u6 u7 u8 → KH S0 u8 → X53_2 u0 u1 u2 u3 u4 u5 u6 u7 u8) : P_X11_tries_140 (fun T => Q T ∧ KH S0 T) X3_2 X18_2 X53_2 v0 v1 v2 v3 v4 v5 v6 v7 S := by
  delta P_X11_tries_140 at h ⊢
  intro x2 e1
  have h := h x2 e1
  exact hX53 _ _ _ _ _ _ _ _ _ h K
set_option maxRecDepth 20000 in
set_option maxHeartbeats 1000000 in
theorem kh_X11_tries_146 {Q : HS → Prop} {X3 X3_2 : Nat → Int32 → Int32 → Int32 → Int32 → Int32 → HS → Prop} {X18 X18_2 : Nat → Int32 → Int32 → Int32 → Int32 → Int32 → Int32 → HS → Prop} {v0 : Nat} {v1 : Int32} {v2 : Int32} {v3 : Int32} {v4 : Int32} {v5 : Int32} {v6 : Int32} {S0 S : HS} (h : P_X11_tries_146 Q X3 X18 v0 v1 v2 v3 v4 v5 v6 S) (K : KH S0 S) (hX3 : ∀ (u0 : Nat) (u1 : Int32) (u2 : Int32) (u3 : Int32) (u4 : Int32) (u5 : Int32) (u6 : HS), X3 u0 u1 u2 u3 u4 u5 u6 → KH S0 u6 → X3_2 u0 u1 u2 u3 u4 u5 u6) (hX18 : ∀ (u0 : Nat) (u1 : Int32) (u2 : Int32) (u3 : Int32) (u4 : Int32) (u5 : Int32) (u6 : Int32) (u7 : HS), X18 u0 u1 u2 u3 u4 u5 u6 u7 → KH S0 u7 → X18_2 u0 u1 u2 u3 u4 u5 u6 u7) : P_X11_tries_146 (fun T => Q T ∧ KH S0 T) X3_2 X18_2 v0 v1 v2 v3 v4 v5 v6 S := by
  delta P_X11_tries_146 at h ⊢
  intro x2 e1
  have h := h x2 e1
  exact hX18 _ _ _ _ _ _ _ _ h K
set_option maxRecDepth 20000 in
set_option maxHeartbeats 1000000 in
theorem khB_X11_tries_53 {Q : HS → Prop} {X3 X3_2 : Nat → Int32 → Int32 → Int32 → Int32 → Int32 → HS → Prop} {X18 X18_2 : Nat → Int32 → Int32 → Int32 → Int32 → Int32 → Int32 → HS → Prop} {X53 X53_2 : Nat → Int32 → Int32 → Int32 → Int32 → Int32 → Int32 → Int32 → HS → Prop} {v0 : Nat} {v1 : Int32} {v2 : Int32} {v3 : Int32} {v4 : Int32} {v5 : Int32} {v6 : Int32} {v7 : Int32} {S0 S : HS} (h : B_X11_tries_53 Q X3 X18 X53 v0 v1 v2 v3 v4 v5 v6 v7 S) (K : KH S0 S) (hX3 : ∀ (u0 : Nat) (u1 : Int32) (u2 : Int32) (u3 : Int32) (u4 : Int32) (u5 : Int32) (u6 : HS), X3 u0 u1 u2 u3 u4 u5 u6 → KH S0 u6 → X3_2 u0 u1 u2 u3 u4 u5 u6) (hX18 : ∀ (u0 : Nat) (u1 : Int32) (u2 : Int32) (u3 : Int32) (u4 : Int32) (u5 : Int32) (u6 : Int32) (u7 : HS), X18 u0 u1 u2 u3 u4 u5 u6 u7 → KH S0 u7 → X18_2 u0 u1 u2 u3 u4 u5 u6 u7) (hX53 : ∀ (u0 : Nat) (u1 : Int32) (u2 : Int32) (u3 : Int32) (u4 : Int32) (u5 : Int32) (u6 : Int32) (u7 : Int32) (u8 : HS), X53 u0 u1 u2 u3 u4 u5 u6 u7 u8 → KH S0 u8 → X53_2 u0 u1 u2 u3 u4 u5 u6 u7 u8) : B_X11_tries_53 (fun T => Q T ∧ KH S0 T) X3_2 X18_2 X53_2 v0 v1 v2 v3 v4 v5 v6 v7 S := by
  delta B_X11_tries_53 at h ⊢
  obtain ⟨c1, h⟩ := h
  refine ⟨c1, ?_⟩
  obtain ⟨b2, e3, h⟩ := h
  refine ⟨b2, e3, ?_⟩
  obtain ⟨c4, h⟩ := h
  refine ⟨c4, ?_⟩
  obtain ⟨b5, e6, h⟩ := h
  refine ⟨b5, e6, ?_⟩
  obtain ⟨c7, h⟩ := h
  refine ⟨c7, ?_⟩
  obtain ⟨c8, h⟩ := h
  refine ⟨c8, ?_⟩
  intro x10 e9
  have h := h x10 e9
  refine ⟨?_, ?_⟩
  · intro c11
    have h := h.1 c11
    exact kh_X11_tries_146 h K hX3 hX18
  · intro c12
    have h := h.2 c12
    obtain ⟨b13, e14, h⟩ := h
    refine ⟨b13, e14, ?_⟩
    obtain ⟨c15, h⟩ := h
    refine ⟨c15, ?_⟩
    refine cm_X10_minutes (kh_X10_minutes h) h (fun x16 x17 hp h g18 => ?_)
    have h := h g18
    have K := kh_tr K hp.2
    intro x20 e19
    have h := h x20 e19
    refine ⟨?_, ?_⟩
    · intro c21
      have h := h.1 c21
      exact kh_X11_tries_140 h K hX3 hX18 hX53
    · intro c22
      have h := h.2 c22
      refine cm_X11_spotOf (kh_X11_spotOf h) h (fun x23 x24 hp h g25 => ?_)
      have h := h g25
      have K := kh_tr K hp.2
      obtain ⟨b26, e27, h⟩ := h
      refine ⟨b26, e27, ?_⟩
      obtain ⟨c28, h⟩ := h
      refine ⟨c28, ?_⟩
      refine cm_X10_ends (kh_X10_ends h) h (fun x29 x30 hp h g31 => ?_)
      have h := h g31
      have K := kh_tr K hp.2
      refine cm_X11_spotOf (kh_X11_spotOf h) h (fun x32 x33 hp h g34 => ?_)
      have h := h g34
      have K := kh_tr K hp.2
      refine cm_X11_meanOf (kh_X11_meanOf h) h (fun x35 x36 hp h g37 => ?_)
      have h := h g37
      have K := kh_tr K hp.2
      refine cm_X11_takes (kh_X11_takes h) h (fun x38 hp h g39 => ?_)
      have h := h g39
      have K := kh_tr K hp.2
      exact kh_X11_tries_140 h K hX3 hX18 hX53
theorem kh_X11_tries_53 {Q : HS → Prop} {X3 X3_2 : Nat → Int32 → Int32 → Int32 → Int32 → Int32 → HS → Prop} {X18 X18_2 : Nat → Int32 → Int32 → Int32 → Int32 → Int32 → Int32 → HS → Prop} {v0 : Nat} {v1 : Int32} {v2 : Int32} {v3 : Int32} {v4 : Int32} {v5 : Int32} {v6 : Int32} {v7 : Int32} {S0 S : HS} (h : P_X11_tries_53 Q X3 X18 v0 v1 v2 v3 v4 v5 v6 v7 S) (K : KH S0 S) (hX3 : ∀ (u0 : Nat) (u1 : Int32) (u2 : Int32) (u3 : Int32) (u4 : Int32) (u5 : Int32) (u6 : HS), X3 u0 u1 u2 u3 u4 u5 u6 → KH S0 u6 → X3_2 u0 u1 u2 u3 u4 u5 u6) (hX18 : ∀ (u0 : Nat) (u1 : Int32) (u2 : Int32) (u3 : Int32) (u4 : Int32) (u5 : Int32) (u6 : Int32) (u7 : HS), X18 u0 u1 u2 u3 u4 u5 u6 u7 → KH S0 u7 → X18_2 u0 u1 u2 u3 u4 u5 u6 u7) : P_X11_tries_53 (fun T => Q T ∧ KH S0 T) X3_2 X18_2 v0 v1 v2 v3 v4 v5 v6 v7 S := h (fun v0 v1 v2 v3 v4 v5 v6 v7 S => KH S0 S → P_X11_tries_53 (fun T => Q T ∧ KH S0 T) X3_2 X18_2 v0 v1 v2 v3 v4 v5 v6 v7 S) (fun v0 v1 v2 v3 v4 v5 v6 v7 S hB K => fd_X11_tries_53 (khB_X11_tries_53 hB K hX3 hX18 (fun _ _ _ _ _ _ _ _ _ hx K => hx K))) K
set_option maxRecDepth 20000 in
set_option maxHeartbeats 1000000 in
theorem khB_X11_tries_18 {Q : HS → Prop} {X3 X3_2 : Nat → Int32 → Int32 → Int32 → Int32 → Int32 → HS → Prop} {X18 X18_2 : Nat → Int32 → Int32 → Int32 → Int32 → Int32 → Int32 → HS → Prop} {v0 : Nat} {v1 : Int32} {v2 : Int32} {v3 : Int32} {v4 : Int32} {v5 : Int32} {v6 : Int32} {S0 S : HS} (h : B_X11_tries_18 Q X3 X18 v0 v1 v2 v3 v4 v5 v6 S) (K : KH S0 S) (hX3 : ∀ (u0 : Nat) (u1 : Int32) (u2 : Int32) (u3 : Int32) (u4 : Int32) (u5 : Int32) (u6 : HS), X3 u0 u1 u2 u3 u4 u5 u6 → KH S0 u6 → X3_2 u0 u1 u2 u3 u4 u5 u6) (hX18 : ∀ (u0 : Nat) (u1 : Int32) (u2 : Int32) (u3 : Int32) (u4 : Int32) (u5 : Int32) (u6 : Int32) (u7 : HS), X18 u0 u1 u2 u3 u4 u5 u6 u7 → KH S0 u7 → X18_2 u0 u1 u2 u3 u4 u5 u6 u7) : B_X11_tries_18 (fun T => Q T ∧ KH S0 T) X3_2 X18_2 v0 v1 v2 v3 v4 v5 v6 S := by
  delta B_X11_tries_18 at h ⊢
  refine ⟨?_, ?_⟩
  · intro c1
    have h := h.1 c1
    intro x3 e2
    have h := h x3 e2
    exact hX3 _ _ _ _ _ _ _ h K
  · intro c4
    have h := h.2 c4
    obtain ⟨c5, h⟩ := h
    refine ⟨c5, ?_⟩
    obtain ⟨b6, e7, h⟩ := h
    refine ⟨b6, e7, ?_⟩
    obtain ⟨c8, h⟩ := h
    refine ⟨c8, ?_⟩
    refine cm_X10_begins (kh_X10_begins h) h (fun x9 x10 hp h g11 => ?_)
    have h := h g11
    have K := kh_tr K hp.2
    refine ⟨?_, ?_⟩
    · intro c12
      have h := h.1 c12
      obtain ⟨b13, e14, h⟩ := h
      refine ⟨b13, e14, ?_⟩
      obtain ⟨c15, h⟩ := h
      refine ⟨c15, ?_⟩
      obtain ⟨b16, e17, h⟩ := h
      refine ⟨b16, e17, ?_⟩
      obtain ⟨c18, h⟩ := h
      refine ⟨c18, ?_⟩
      obtain ⟨c19, h⟩ := h
      refine ⟨c19, ?_⟩
      intro x21 e20
      have h := h x21 e20
      exact kh_X11_tries_53 h K hX3 hX18
    · intro c22
      have h := h.2 c22
      exact kh_X11_tries_146 h K hX3 hX18
theorem kh_X11_tries_18 {Q : HS → Prop} {X3 X3_2 : Nat → Int32 → Int32 → Int32 → Int32 → Int32 → HS → Prop} {v0 : Nat} {v1 : Int32} {v2 : Int32} {v3 : Int32} {v4 : Int32} {v5 : Int32} {v6 : Int32} {S0 S : HS} (h : P_X11_tries_18 Q X3 v0 v1 v2 v3 v4 v5 v6 S) (K : KH S0 S) (hX3 : ∀ (u0 : Nat) (u1 : Int32) (u2 : Int32) (u3 : Int32) (u4 : Int32) (u5 : Int32) (u6 : HS), X3 u0 u1 u2 u3 u4 u5 u6 → KH S0 u6 → X3_2 u0 u1 u2 u3 u4 u5 u6) : P_X11_tries_18 (fun T => Q T ∧ KH S0 T) X3_2 v0 v1 v2 v3 v4 v5 v6 S := h (fun v0 v1 v2 v3 v4 v5 v6 S => KH S0 S → P_X11_tries_18 (fun T => Q T ∧ KH S0 T) X3_2 v0 v1 v2 v3 v4 v5 v6 S) (fun v0 v1 v2 v3 v4 v5 v6 S hB K => fd_X11_tries_18 (khB_X11_tries_18 hB K hX3 (fun _ _ _ _ _ _ _ _ hx K => hx K))) K
set_option maxRecDepth 20000 in
set_option maxHeartbeats 1000000 in
theorem khB_X11_tries_3 {Q : HS → Prop} {X3 X3_2 : Nat → Int32 → Int32 → Int32 → Int32 → Int32 → HS → Prop} {v0 : Nat} {v1 : Int32} {v2 : Int32} {v3 : Int32} {v4 : Int32} {v5 : Int32} {S0 S : HS} (h : B_X11_tries_3 Q X3 v0 v1 v2 v3 v4 v5 S) (K : KH S0 S) (hX3 : ∀ (u0 : Nat) (u1 : Int32) (u2 : Int32) (u3 : Int32) (u4 : Int32) (u5 : Int32) (u6 : HS), X3 u0 u1 u2 u3 u4 u5 u6 → KH S0 u6 → X3_2 u0 u1 u2 u3 u4 u5 u6) : B_X11_tries_3 (fun T => Q T ∧ KH S0 T) X3_2 v0 v1 v2 v3 v4 v5 S := by
  delta B_X11_tries_3 at h ⊢
  obtain ⟨c1, h⟩ := h
  refine ⟨c1, ?_⟩
  obtain ⟨b2, e3, h⟩ := h
  refine ⟨b2, e3, ?_⟩
  obtain ⟨c4, h⟩ := h
  refine ⟨c4, ?_⟩
  intro x6 e5
  have h := h x6 e5
  refine ⟨?_, ?_⟩
  · intro c7
    have h := h.1 c7
    refine cm_X11_canWait (kh_X11_canWait h) h (fun x8 x9 hp h g10 g11 => ?_)
    have h := h g10 g11
    have K := kh_tr K hp.2
    refine ⟨?_, ?_⟩
    · intro c12
      have h := h.1 c12
      exact ⟨h, K⟩
    · intro c13
      have h := h.2 c13
      refine ⟨?_, ?_⟩
      · intro c14
        have h := h.1 c14
        exact ⟨h, K⟩
      · intro c15
        have h := h.2 c15
        refine cm_X11_spotOf (kh_X11_spotOf h) h (fun x16 x17 hp h g18 => ?_)
        have h := h g18
        have K := kh_tr K hp.2
        refine cm_X11_spotOf (kh_X11_spotOf h) h (fun x19 x20 hp h g21 => ?_)
        have h := h g21
        have K := kh_tr K hp.2
        refine cm_X11_waitsOf (kh_X11_waitsOf h) h (fun x22 x23 hp h g24 => ?_)
        have h := h g24
        have K := kh_tr K hp.2
        refine cm_X11_takes (kh_X11_takes h) h (fun x25 hp h g26 => ?_)
        have h := h g26
        have K := kh_tr K hp.2
        exact ⟨h, K⟩
  · intro c27
    have h := h.2 c27
    exact kh_X11_tries_18 h K hX3
theorem kh_X11_tries_3 {Q : HS → Prop} {v0 : Nat} {v1 : Int32} {v2 : Int32} {v3 : Int32} {v4 : Int32} {v5 : Int32} {S0 S : HS} (h : P_X11_tries_3 Q v0 v1 v2 v3 v4 v5 S) (K : KH S0 S) : P_X11_tries_3 (fun T => Q T ∧ KH S0 T) v0 v1 v2 v3 v4 v5 S := h (fun v0 v1 v2 v3 v4 v5 S => KH S0 S → P_X11_tries_3 (fun T => Q T ∧ KH S0 T) v0 v1 v2 v3 v4 v5 S) (fun v0 v1 v2 v3 v4 v5 S hB K => fd_X11_tries_3 (khB_X11_tries_3 hB K (fun _ _ _ _ _ _ _ hx K => hx K))) K
set_option maxRecDepth 20000 in
set_option maxHeartbeats 1000000 in
theorem kh_X11_tries_0 {Q : HS → Prop} {v0 : Nat} {v1 : Int32} {v2 : Int32} {v3 : Int32} {v4 : Int32} {S0 S : HS} (h : P_X11_tries_0 Q v0 v1 v2 v3 v4 S) (K : KH S0 S) : P_X11_tries_0 (fun T => Q T ∧ KH S0 T) v0 v1 v2 v3 v4 S := by
  delta P_X11_tries_0 at h ⊢
  exact kh_X11_tries_3 h K
theorem kh_X11_tries {Q : HS → Prop} {v0 : Nat} {v1 : Int32} {v2 : Int32} {v3 : Int32} {v4 : Int32} {S : HS} (h : P_X11_tries v0 v1 v2 v3 v4 Q S) : P_X11_tries v0 v1 v2 v3 v4 (fun T => Q T ∧ KH S T) S := kh_X11_tries_0 h (kh_rf S)
set_option maxRecDepth 20000 in
set_option maxHeartbeats 1000000 in
theorem kh_X11_laysWays_85 {Q : HS → Prop} {X3 X3_2 : Nat → Int32 → Int32 → Int32 → Int32 → HS → Prop} {X11 X11_2 : Nat → Int32 → Int32 → Int32 → Int32 → Int32 → HS → Prop} {v0 : Nat} {v1 : Int32} {v2 : Int32} {v3 : Int32} {v4 : Int32} {v5 : Int32} {S0 S : HS} (h : P_X11_laysWays_85 Q X3 X11 v0 v1 v2 v3 v4 v5 S) (K : KH S0 S) (hX3 : ∀ (u0 : Nat) (u1 : Int32) (u2 : Int32) (u3 : Int32) (u4 : Int32) (u5 : HS), X3 u0 u1 u2 u3 u4 u5 → KH S0 u5 → X3_2 u0 u1 u2 u3 u4 u5) (hX11 : ∀ (u0 : Nat) (u1 : Int32) (u2 : Int32) (u3 : Int32) (u4 : Int32) (u5 : Int32) (u6 : HS), X11 u0 u1 u2 u3 u4 u5 u6 → KH S0 u6 → X11_2 u0 u1 u2 u3 u4 u5 u6) : P_X11_laysWays_85 (fun T => Q T ∧ KH S0 T) X3_2 X11_2 v0 v1 v2 v3 v4 v5 S := by
  delta P_X11_laysWays_85 at h ⊢
  intro x2 e1
  have h := h x2 e1
  exact hX11 _ _ _ _ _ _ _ h K
set_option maxRecDepth 20000 in
set_option maxHeartbeats 1000000 in
theorem kh_X11_laysWays_51 {Q : HS → Prop} {X3 X3_2 : Nat → Int32 → Int32 → Int32 → Int32 → HS → Prop} {X11 X11_2 : Nat → Int32 → Int32 → Int32 → Int32 → Int32 → HS → Prop} {v0 : Nat} {v1 : Int32} {v2 : Int32} {v3 : Int32} {v4 : Int32} {v5 : Int32} {v6 : Int32} {s0 : Nat} {s1 : Int32} {s2 : Int64} {S0 S : HS} (h : P_X11_laysWays_51 Q X3 X11 v0 v1 v2 v3 v4 v5 v6 s0 s1 s2 S) (K : KH S0 S) (hX3 : ∀ (u0 : Nat) (u1 : Int32) (u2 : Int32) (u3 : Int32) (u4 : Int32) (u5 : HS), X3 u0 u1 u2 u3 u4 u5 → KH S0 u5 → X3_2 u0 u1 u2 u3 u4 u5) (hX11 : ∀ (u0 : Nat) (u1 : Int32) (u2 : Int32) (u3 : Int32) (u4 : Int32) (u5 : Int32) (u6 : HS), X11 u0 u1 u2 u3 u4 u5 u6 → KH S0 u6 → X11_2 u0 u1 u2 u3 u4 u5 u6) : P_X11_laysWays_51 (fun T => Q T ∧ KH S0 T) X3_2 X11_2 v0 v1 v2 v3 v4 v5 v6 s0 s1 s2 S := by
  delta P_X11_laysWays_51 at h ⊢
  obtain ⟨c1, h⟩ := h
  refine ⟨c1, ?_⟩
  obtain ⟨c2, h⟩ := h
  refine ⟨c2, ?_⟩
  intro x4 e3
  have h := h x4 e3
  have K := kh_J K e3
  obtain ⟨c5, h⟩ := h
  refine ⟨c5, ?_⟩
  obtain ⟨b6, e7, h⟩ := h
  refine ⟨b6, e7, ?_⟩
  obtain ⟨c8, h⟩ := h
  refine ⟨c8, ?_⟩
  obtain ⟨c9, h⟩ := h
  refine ⟨c9, ?_⟩
  intro x11 e10
  have h := h x11 e10
  have K := kh_I K e10
  obtain ⟨b12, e13, h⟩ := h
  refine ⟨b12, e13, ?_⟩
  obtain ⟨c14, h⟩ := h
  refine ⟨c14, ?_⟩
  obtain ⟨c15, h⟩ := h
  refine ⟨c15, ?_⟩
  intro x17 e16
  have h := h x17 e16
  have K := kh_I K e16
  refine ⟨?_, ?_⟩
  · intro c18
    have h := h.1 c18
    exact kh_X11_laysWays_85 h K hX3 hX11
  · intro c19
    have h := h.2 c19
    refine cm_X11_tries (kh_X11_tries h) h (fun x20 hp h g21 => ?_)
    have h := h g21
    have K := kh_tr K hp.2
    exact kh_X11_laysWays_85 h K hX3 hX11
set_option maxRecDepth 20000 in
set_option maxHeartbeats 1000000 in
theorem khB_X11_laysWays_11 {Q : HS → Prop} {X3 X3_2 : Nat → Int32 → Int32 → Int32 → Int32 → HS → Prop} {X11 X11_2 : Nat → Int32 → Int32 → Int32 → Int32 → Int32 → HS → Prop} {v0 : Nat} {v1 : Int32} {v2 : Int32} {v3 : Int32} {v4 : Int32} {v5 : Int32} {S0 S : HS} (h : B_X11_laysWays_11 Q X3 X11 v0 v1 v2 v3 v4 v5 S) (K : KH S0 S) (hX3 : ∀ (u0 : Nat) (u1 : Int32) (u2 : Int32) (u3 : Int32) (u4 : Int32) (u5 : HS), X3 u0 u1 u2 u3 u4 u5 → KH S0 u5 → X3_2 u0 u1 u2 u3 u4 u5) (hX11 : ∀ (u0 : Nat) (u1 : Int32) (u2 : Int32) (u3 : Int32) (u4 : Int32) (u5 : Int32) (u6 : HS), X11 u0 u1 u2 u3 u4 u5 u6 → KH S0 u6 → X11_2 u0 u1 u2 u3 u4 u5 u6) : B_X11_laysWays_11 (fun T => Q T ∧ KH S0 T) X3_2 X11_2 v0 v1 v2 v3 v4 v5 S := by
  delta B_X11_laysWays_11 at h ⊢
  obtain ⟨c1, h⟩ := h
  refine ⟨c1, ?_⟩
  obtain ⟨b2, e3, h⟩ := h
  refine ⟨b2, e3, ?_⟩
  obtain ⟨c4, h⟩ := h
  refine ⟨c4, ?_⟩
  intro x6 e5
  have h := h x6 e5
  refine ⟨?_, ?_⟩
  · intro c7
    have h := h.1 c7
    intro x9 e8
    have h := h x9 e8
    exact hX3 _ _ _ _ _ _ h K
  · intro c10
    have h := h.2 c10
    refine cm_X11_spotOf (kh_X11_spotOf h) h (fun x11 x12 hp h g13 => ?_)
    have h := h g13
    have K := kh_tr K hp.2
    obtain ⟨b14, e15, h⟩ := h
    refine ⟨b14, e15, ?_⟩
    refine ⟨?_, ?_⟩
    · intro c16
      have h := h.1 c16
      exact kh_X11_laysWays_51 h K hX3 hX11
    · intro c17
      have h := h.2 c17
      exact kh_X11_laysWays_51 h K hX3 hX11
theorem kh_X11_laysWays_11 {Q : HS → Prop} {X3 X3_2 : Nat → Int32 → Int32 → Int32 → Int32 → HS → Prop} {v0 : Nat} {v1 : Int32} {v2 : Int32} {v3 : Int32} {v4 : Int32} {v5 : Int32} {S0 S : HS} (h : P_X11_laysWays_11 Q X3 v0 v1 v2 v3 v4 v5 S) (K : KH S0 S) (hX3 : ∀ (u0 : Nat) (u1 : Int32) (u2 : Int32) (u3 : Int32) (u4 : Int32) (u5 : HS), X3 u0 u1 u2 u3 u4 u5 → KH S0 u5 → X3_2 u0 u1 u2 u3 u4 u5) : P_X11_laysWays_11 (fun T => Q T ∧ KH S0 T) X3_2 v0 v1 v2 v3 v4 v5 S := h (fun v0 v1 v2 v3 v4 v5 S => KH S0 S → P_X11_laysWays_11 (fun T => Q T ∧ KH S0 T) X3_2 v0 v1 v2 v3 v4 v5 S) (fun v0 v1 v2 v3 v4 v5 S hB K => fd_X11_laysWays_11 (khB_X11_laysWays_11 hB K hX3 (fun _ _ _ _ _ _ _ hx K => hx K))) K
set_option maxRecDepth 20000 in
set_option maxHeartbeats 1000000 in
theorem khB_X11_laysWays_3 {Q : HS → Prop} {X3 X3_2 : Nat → Int32 → Int32 → Int32 → Int32 → HS → Prop} {v0 : Nat} {v1 : Int32} {v2 : Int32} {v3 : Int32} {v4 : Int32} {S0 S : HS} (h : B_X11_laysWays_3 Q X3 v0 v1 v2 v3 v4 S) (K : KH S0 S) (hX3 : ∀ (u0 : Nat) (u1 : Int32) (u2 : Int32) (u3 : Int32) (u4 : Int32) (u5 : HS), X3 u0 u1 u2 u3 u4 u5 → KH S0 u5 → X3_2 u0 u1 u2 u3 u4 u5) : B_X11_laysWays_3 (fun T => Q T ∧ KH S0 T) X3_2 v0 v1 v2 v3 v4 S := by
  delta B_X11_laysWays_3 at h ⊢
  refine ⟨?_, ?_⟩
  · intro c1
    have h := h.1 c1
    exact ⟨h, K⟩
  · intro c2
    have h := h.2 c2
    exact kh_X11_laysWays_11 h K hX3
theorem kh_X11_laysWays_3 {Q : HS → Prop} {v0 : Nat} {v1 : Int32} {v2 : Int32} {v3 : Int32} {v4 : Int32} {S0 S : HS} (h : P_X11_laysWays_3 Q v0 v1 v2 v3 v4 S) (K : KH S0 S) : P_X11_laysWays_3 (fun T => Q T ∧ KH S0 T) v0 v1 v2 v3 v4 S := h (fun v0 v1 v2 v3 v4 S => KH S0 S → P_X11_laysWays_3 (fun T => Q T ∧ KH S0 T) v0 v1 v2 v3 v4 S) (fun v0 v1 v2 v3 v4 S hB K => fd_X11_laysWays_3 (khB_X11_laysWays_3 hB K (fun _ _ _ _ _ _ hx K => hx K))) K
set_option maxRecDepth 20000 in
set_option maxHeartbeats 1000000 in
theorem kh_X11_laysWays_0 {Q : HS → Prop} {v0 : Nat} {v1 : Int32} {v2 : Int32} {v3 : Int32} {S0 S : HS} (h : P_X11_laysWays_0 Q v0 v1 v2 v3 S) (K : KH S0 S) : P_X11_laysWays_0 (fun T => Q T ∧ KH S0 T) v0 v1 v2 v3 S := by
  delta P_X11_laysWays_0 at h ⊢
  exact kh_X11_laysWays_3 h K
theorem kh_X11_laysWays {Q : HS → Prop} {v0 : Nat} {v1 : Int32} {v2 : Int32} {v3 : Int32} {S : HS} (h : P_X11_laysWays v0 v1 v2 v3 Q S) : P_X11_laysWays v0 v1 v2 v3 (fun T => Q T ∧ KH S T) S := kh_X11_laysWays_0 h (kh_rf S)
set_option maxRecDepth 20000 in
set_option maxHeartbeats 1000000 in
theorem kh_X11_refusesWay_0 {Q : Int32 → HS → Prop} {v0 : Nat} {v1 : Int32} {v2 : Int32} {v3 : Int32} {v4 : Int32} {v5 : Int32} {S0 S : HS} (h : P_X11_refusesWay_0 Q v0 v1 v2 v3 v4 v5 S) (K : KH S0 S) : P_X11_refusesWay_0 (fun r T => Q r T ∧ KH S0 T) v0 v1 v2 v3 v4 v5 S := by
  delta P_X11_refusesWay_0 at h ⊢
  obtain ⟨c1, h⟩ := h
  refine ⟨c1, ?_⟩
  refine cm_X11_isWalker (kh_X11_isWalker h) h (fun x2 x3 hp h g4 g5 => ?_)
  have h := h g4 g5
  have K := kh_tr K hp.2
  refine ⟨?_, ?_⟩
  · intro c6
    have h := h.1 c6
    exact ⟨h, K⟩
  · intro c7
    have h := h.2 c7
    refine cm_X11_isPlace (kh_X11_isPlace h) h (fun x8 x9 hp h g10 g11 => ?_)
    have h := h g10 g11
    have K := kh_tr K hp.2
    refine ⟨?_, ?_⟩
    · intro c12
      have h := h.1 c12
      exact ⟨h, K⟩
    · intro c13
      have h := h.2 c13
      refine cm_X11_isPlace (kh_X11_isPlace h) h (fun x14 x15 hp h g16 g17 => ?_)
      have h := h g16 g17
      have K := kh_tr K hp.2
      refine ⟨?_, ?_⟩
      · intro c18
        have h := h.1 c18
        refine cm_X11_in (kh_X11_in h) h (fun x19 x20 hp h g21 g22 => ?_)
        have h := h g21 g22
        have K := kh_tr K hp.2
        refine ⟨?_, ?_⟩
        · intro c23
          have h := h.1 c23
          exact ⟨h, K⟩
        · intro c24
          have h := h.2 c24
          refine cm_X11_in (kh_X11_in h) h (fun x25 x26 hp h g27 g28 => ?_)
          have h := h g27 g28
          have K := kh_tr K hp.2
          refine ⟨?_, ?_⟩
          · intro c29
            have h := h.1 c29
            refine cm_X11_laysWays (kh_X11_laysWays h) h (fun x30 hp h g31 => ?_)
            have h := h g31
            have K := kh_tr K hp.2
            obtain ⟨b32, e33, h⟩ := h
            refine ⟨b32, e33, ?_⟩
            refine cm_X11_spotOf (kh_X11_spotOf h) h (fun x34 x35 hp h g36 => ?_)
            have h := h g36
            have K := kh_tr K hp.2
            obtain ⟨c37, h⟩ := h
            refine ⟨c37, ?_⟩
            obtain ⟨c38, h⟩ := h
            refine ⟨c38, ?_⟩
            intro x40 e39
            have h := h x40 e39
            refine ⟨?_, ?_⟩
            · intro c41
              have h := h.1 c41
              exact ⟨h, K⟩
            · intro c42
              have h := h.2 c42
              exact ⟨h, K⟩
          · intro c43
            have h := h.2 c43
            exact ⟨h, K⟩
      · intro c44
        have h := h.2 c44
        exact ⟨h, K⟩
theorem kh_X11_refusesWay {Q : Int32 → HS → Prop} {v0 : Nat} {v1 : Int32} {v2 : Int32} {v3 : Int32} {v4 : Int32} {v5 : Int32} {S : HS} (h : P_X11_refusesWay v0 v1 v2 v3 v4 v5 Q S) : P_X11_refusesWay v0 v1 v2 v3 v4 v5 (fun r T => Q r T ∧ KH S T) S := kh_X11_refusesWay_0 h (kh_rf S)
set_option maxRecDepth 20000 in
set_option maxHeartbeats 1000000 in
theorem kh_X11_least_0 {Q : Int64 → HS → Prop} {v0 : Nat} {v1 : Int32} {v2 : Int32} {v3 : Int32} {v4 : Int32} {v5 : Int32} {v6 : Int32} {S0 S : HS} (h : P_X11_least_0 Q v0 v1 v2 v3 v4 v5 v6 S) (K : KH S0 S) : P_X11_least_0 (fun r T => Q r T ∧ KH S0 T) v0 v1 v2 v3 v4 v5 v6 S := by
  delta P_X11_least_0 at h ⊢
  obtain ⟨c1, h⟩ := h
  refine ⟨c1, ?_⟩
  intro x3 e2
  have h := h x3 e2
  have K := kh_I K e2
  refine cm_X11_refusesWay (kh_X11_refusesWay h) h (fun x4 x5 hp h g6 => ?_)
  have h := h g6
  have K := kh_tr K hp.2
  refine ⟨?_, ?_⟩
  · intro c7
    have h := h.1 c7
    obtain ⟨b8, e9, h⟩ := h
    refine ⟨b8, e9, ?_⟩
    refine cm_X11_spotOf (kh_X11_spotOf h) h (fun x10 x11 hp h g12 => ?_)
    have h := h g12
    have K := kh_tr K hp.2
    obtain ⟨c13, h⟩ := h
    refine ⟨c13, ?_⟩
    obtain ⟨c14, h⟩ := h
    refine ⟨c14, ?_⟩
    intro x16 e15
    have h := h x16 e15
    refine cm_X11_told (kh_X11_told h) h (fun x17 x18 hp h g19 => ?_)
    have h := h g19
    have K := kh_tr K hp.2
    exact ⟨h, K⟩
  · intro c20
    have h := h.2 c20
    refine cm_X11_refused (kh_X11_refused h) h (fun x21 x22 hp h g23 => ?_)
    have h := h g23
    have K := kh_tr K hp.2
    exact ⟨h, K⟩
theorem kh_X11_least {Q : Int64 → HS → Prop} {v0 : Nat} {v1 : Int32} {v2 : Int32} {v3 : Int32} {v4 : Int32} {v5 : Int32} {v6 : Int32} {S : HS} (h : P_X11_least v0 v1 v2 v3 v4 v5 v6 Q S) : P_X11_least v0 v1 v2 v3 v4 v5 v6 (fun r T => Q r T ∧ KH S T) S := kh_X11_least_0 h (kh_rf S)
set_option maxRecDepth 20000 in
set_option maxHeartbeats 1000000 in
theorem kh_X11_led_80 {Q : Int32 → HS → Prop} {X9 X9_2 : Nat → Int32 → Int32 → Int32 → HS → Prop} {v0 : Nat} {v1 : Int32} {v2 : Int32} {v3 : Int32} {S0 S : HS} (h : P_X11_led_80 Q X9 v0 v1 v2 v3 S) (K : KH S0 S) (hX9 : ∀ (u0 : Nat) (u1 : Int32) (u2 : Int32) (u3 : Int32) (u4 : HS), X9 u0 u1 u2 u3 u4 → KH S0 u4 → X9_2 u0 u1 u2 u3 u4) : P_X11_led_80 (fun r T => Q r T ∧ KH S0 T) X9_2 v0 v1 v2 v3 S := by
  delta P_X11_led_80 at h ⊢
  intro x2 e1
  have h := h x2 e1
  exact hX9 _ _ _ _ _ h K
set_option maxRecDepth 20000 in
set_option maxHeartbeats 1000000 in
theorem kh_X11_led_70 {Q : Int32 → HS → Prop} {X9 X9_2 : Nat → Int32 → Int32 → Int32 → HS → Prop} {v0 : Nat} {v1 : Int32} {v2 : Int32} {v3 : Int32} {S0 S : HS} (h : P_X11_led_70 Q X9 v0 v1 v2 v3 S) (K : KH S0 S) (hX9 : ∀ (u0 : Nat) (u1 : Int32) (u2 : Int32) (u3 : Int32) (u4 : HS), X9 u0 u1 u2 u3 u4 → KH S0 u4 → X9_2 u0 u1 u2 u3 u4) : P_X11_led_70 (fun r T => Q r T ∧ KH S0 T) X9_2 v0 v1 v2 v3 S := by
  delta P_X11_led_70 at h ⊢
  refine ⟨?_, ?_⟩
  · intro c1
    have h := h.1 c1
    intro x3 e2
    have h := h x3 e2
    exact kh_X11_led_80 h K hX9
  · intro c4
    have h := h.2 c4
    exact ⟨h, K⟩
set_option maxRecDepth 20000 in
set_option maxHeartbeats 1000000 in
theorem khB_X11_led_9 {Q : Int32 → HS → Prop} {X9 X9_2 : Nat → Int32 → Int32 → Int32 → HS → Prop} {v0 : Nat} {v1 : Int32} {v2 : Int32} {v3 : Int32} {S0 S : HS} (h : B_X11_led_9 Q X9 v0 v1 v2 v3 S) (K : KH S0 S) (hX9 : ∀ (u0 : Nat) (u1 : Int32) (u2 : Int32) (u3 : Int32) (u4 : HS), X9 u0 u1 u2 u3 u4 → KH S0 u4 → X9_2 u0 u1 u2 u3 u4) : B_X11_led_9 (fun r T => Q r T ∧ KH S0 T) X9_2 v0 v1 v2 v3 S := by
  delta B_X11_led_9 at h ⊢
  obtain ⟨c1, h⟩ := h
  refine ⟨c1, ?_⟩
  refine cm_X11_isDay (kh_X11_isDay h) h (fun x2 x3 hp h g4 g5 => ?_)
  have h := h g4 g5
  have K := kh_tr K hp.2
  refine ⟨?_, ?_⟩
  · intro c6
    have h := h.1 c6
    intro x8 e7
    have h := h x8 e7
    have K := kh_I K e7
    exact ⟨h, K⟩
  · intro c9
    have h := h.2 c9
    obtain ⟨b10, e11, h⟩ := h
    refine ⟨b10, e11, ?_⟩
    obtain ⟨c12, h⟩ := h
    refine ⟨c12, ?_⟩
    intro x14 e13
    have h := h x14 e13
    refine ⟨?_, ?_⟩
    · intro c15
      have h := h.1 c15
      intro x17 e16
      have h := h x17 e16
      have K := kh_I K e16
      exact ⟨h, K⟩
    · intro c18
      have h := h.2 c18
      obtain ⟨b19, e20, h⟩ := h
      refine ⟨b19, e20, ?_⟩
      obtain ⟨c21, h⟩ := h
      refine ⟨c21, ?_⟩
      obtain ⟨b22, e23, h⟩ := h
      refine ⟨b22, e23, ?_⟩
      obtain ⟨c24, h⟩ := h
      refine ⟨c24, ?_⟩
      obtain ⟨c25, h⟩ := h
      refine ⟨c25, ?_⟩
      intro x27 e26
      have h := h x27 e26
      obtain ⟨b28, e29, h⟩ := h
      refine ⟨b28, e29, ?_⟩
      obtain ⟨c30, h⟩ := h
      refine ⟨c30, ?_⟩
      obtain ⟨c31, h⟩ := h
      refine ⟨c31, ?_⟩
      intro x33 e32
      have h := h x33 e32
      refine ⟨?_, ?_⟩
      · intro c34
        have h := h.1 c34
        exact kh_X11_led_70 h K hX9
      · intro c35
        have h := h.2 c35
        obtain ⟨b36, e37, h⟩ := h
        refine ⟨b36, e37, ?_⟩
        obtain ⟨c38, h⟩ := h
        refine ⟨c38, ?_⟩
        obtain ⟨b39, e40, h⟩ := h
        refine ⟨b39, e40, ?_⟩
        obtain ⟨c41, h⟩ := h
        refine ⟨c41, ?_⟩
        obtain ⟨c42, h⟩ := h
        refine ⟨c42, ?_⟩
        intro x44 e43
        have h := h x44 e43
        obtain ⟨b45, e46, h⟩ := h
        refine ⟨b45, e46, ?_⟩
        obtain ⟨c47, h⟩ := h
        refine ⟨c47, ?_⟩
        obtain ⟨c48, h⟩ := h
        refine ⟨c48, ?_⟩
        intro x50 e49
        have h := h x50 e49
        refine ⟨?_, ?_⟩
        · intro c51
          have h := h.1 c51
          exact kh_X11_led_70 h K hX9
        · intro c52
          have h := h.2 c52
          exact kh_X11_led_80 h K hX9
theorem kh_X11_led_9 {Q : Int32 → HS → Prop} {v0 : Nat} {v1 : Int32} {v2 : Int32} {v3 : Int32} {S0 S : HS} (h : P_X11_led_9 Q v0 v1 v2 v3 S) (K : KH S0 S) : P_X11_led_9 (fun r T => Q r T ∧ KH S0 T) v0 v1 v2 v3 S := h (fun v0 v1 v2 v3 S => KH S0 S → P_X11_led_9 (fun r T => Q r T ∧ KH S0 T) v0 v1 v2 v3 S) (fun v0 v1 v2 v3 S hB K => fd_X11_led_9 (khB_X11_led_9 hB K (fun _ _ _ _ _ hx K => hx K))) K
set_option maxRecDepth 20000 in
set_option maxHeartbeats 1000000 in
theorem kh_X11_led_0 {Q : Int32 → HS → Prop} {v0 : Nat} {v1 : Int32} {S0 S : HS} (h : P_X11_led_0 Q v0 v1 S) (K : KH S0 S) : P_X11_led_0 (fun r T => Q r T ∧ KH S0 T) v0 v1 S := by
  delta P_X11_led_0 at h ⊢
  obtain ⟨c1, h⟩ := h
  refine ⟨c1, ?_⟩
  intro x3 e2
  have h := h x3 e2
  have K := kh_I K e2
  exact kh_X11_led_9 h K
theorem kh_X11_led {Q : Int32 → HS → Prop} {v0 : Nat} {v1 : Int32} {S : HS} (h : P_X11_led v0 v1 Q S) : P_X11_led v0 v1 (fun r T => Q r T ∧ KH S T) S := kh_X11_led_0 h (kh_rf S)
set_option maxRecDepth 20000 in
set_option maxHeartbeats 1000000 in
theorem kh_X11_lee_0 {Q : Int64 → HS → Prop} {v0 : Nat} {v1 : Int32} {v2 : Int32} {v3 : Int32} {v4 : Int32} {v5 : Int32} {v6 : Int32} {v7 : Int32} {S0 S : HS} (h : P_X11_lee_0 Q v0 v1 v2 v3 v4 v5 v6 v7 S) (K : KH S0 S) : P_X11_lee_0 (fun r T => Q r T ∧ KH S0 T) v0 v1 v2 v3 v4 v5 v6 v7 S := by
  delta P_X11_lee_0 at h ⊢
  obtain ⟨c1, h⟩ := h
  refine ⟨c1, ?_⟩
  intro x3 e2
  have h := h x3 e2
  have K := kh_I K e2
  refine cm_X11_refusesTwo (kh_X11_refusesTwo h) h (fun x4 x5 hp h g6 => ?_)
  have h := h g6
  have K := kh_tr K hp.2
  refine ⟨?_, ?_⟩
  · intro c7
    have h := h.1 c7
    refine cm_X11_together (kh_X11_together h) h (fun x8 x9 hp h g10 => ?_)
    have h := h g10
    have K := kh_tr K hp.2
    refine cm_X11_told (kh_X11_told h) h (fun x11 x12 hp h g13 => ?_)
    have h := h g13
    have K := kh_tr K hp.2
    exact ⟨h, K⟩
  · intro c14
    have h := h.2 c14
    refine cm_X11_refused (kh_X11_refused h) h (fun x15 x16 hp h g17 => ?_)
    have h := h g17
    have K := kh_tr K hp.2
    exact ⟨h, K⟩
theorem kh_X11_lee {Q : Int64 → HS → Prop} {v0 : Nat} {v1 : Int32} {v2 : Int32} {v3 : Int32} {v4 : Int32} {v5 : Int32} {v6 : Int32} {v7 : Int32} {S : HS} (h : P_X11_lee v0 v1 v2 v3 v4 v5 v6 v7 Q S) : P_X11_lee v0 v1 v2 v3 v4 v5 v6 v7 (fun r T => Q r T ∧ KH S T) S := kh_X11_lee_0 h (kh_rf S)
set_option maxRecDepth 20000 in
set_option maxHeartbeats 1000000 in
theorem kh_X11_lies_50 {Q : Int32 → HS → Prop} {X22 X22_2 : Nat → Int32 → Int32 → HS → Prop} {v0 : Nat} {v2 : Int32} {s0 : Int32} {s1 : Int32} {S0 S : HS} (h : P_X11_lies_50 Q X22 v0 v2 s0 s1 S) (K : KH S0 S) (hX22 : ∀ (u0 : Nat) (u1 : Int32) (u2 : Int32) (u3 : HS), X22 u0 u1 u2 u3 → KH S0 u3 → X22_2 u0 u1 u2 u3) : P_X11_lies_50 (fun r T => Q r T ∧ KH S0 T) X22_2 v0 v2 s0 s1 S := by
  delta P_X11_lies_50 at h ⊢
  intro x2 e1
  have h := h x2 e1
  intro x4 e3
  have h := h x4 e3
  exact hX22 _ _ _ _ h K
set_option maxRecDepth 20000 in
set_option maxHeartbeats 1000000 in
theorem khB_X11_lies_22 {Q : Int32 → HS → Prop} {X22 X22_2 : Nat → Int32 → Int32 → HS → Prop} {v0 : Nat} {v1 : Int32} {v2 : Int32} {S0 S : HS} (h : B_X11_lies_22 Q X22 v0 v1 v2 S) (K : KH S0 S) (hX22 : ∀ (u0 : Nat) (u1 : Int32) (u2 : Int32) (u3 : HS), X22 u0 u1 u2 u3 → KH S0 u3 → X22_2 u0 u1 u2 u3) : B_X11_lies_22 (fun r T => Q r T ∧ KH S0 T) X22_2 v0 v1 v2 S := by
  delta B_X11_lies_22 at h ⊢
  obtain ⟨c1, h⟩ := h
  refine ⟨c1, ?_⟩
  obtain ⟨b2, e3, h⟩ := h
  refine ⟨b2, e3, ?_⟩
  obtain ⟨c4, h⟩ := h
  refine ⟨c4, ?_⟩
  intro x6 e5
  have h := h x6 e5
  refine ⟨?_, ?_⟩
  · intro c7
    have h := h.1 c7
    refine cm_X11_good (kh_X11_good h) h (fun x8 x9 hp h g10 => ?_)
    have h := h g10
    have K := kh_tr K hp.2
    exact ⟨h, K⟩
  · intro c11
    have h := h.2 c11
    refine cm_X11_fitOf (kh_X11_fitOf h) h (fun x12 x13 hp h g14 => ?_)
    have h := h g14
    have K := kh_tr K hp.2
    refine ⟨?_, ?_⟩
    · intro c15
      have h := h.1 c15
      exact kh_X11_lies_50 h K hX22
    · intro c16
      have h := h.2 c16
      exact kh_X11_lies_50 h K hX22
theorem kh_X11_lies_22 {Q : Int32 → HS → Prop} {v0 : Nat} {v1 : Int32} {v2 : Int32} {S0 S : HS} (h : P_X11_lies_22 Q v0 v1 v2 S) (K : KH S0 S) : P_X11_lies_22 (fun r T => Q r T ∧ KH S0 T) v0 v1 v2 S := h (fun v0 v1 v2 S => KH S0 S → P_X11_lies_22 (fun r T => Q r T ∧ KH S0 T) v0 v1 v2 S) (fun v0 v1 v2 S hB K => fd_X11_lies_22 (khB_X11_lies_22 hB K (fun _ _ _ _ hx K => hx K))) K
set_option maxRecDepth 20000 in
set_option maxHeartbeats 1000000 in
theorem kh_X11_lies_0 {Q : Int32 → HS → Prop} {v0 : Nat} {S0 S : HS} (h : P_X11_lies_0 Q v0 S) (K : KH S0 S) : P_X11_lies_0 (fun r T => Q r T ∧ KH S0 T) v0 S := by
  delta P_X11_lies_0 at h ⊢
  obtain ⟨c1, h⟩ := h
  refine ⟨c1, ?_⟩
  intro x3 e2
  have h := h x3 e2
  have K := kh_I K e2
  refine ⟨?_, ?_⟩
  · intro c4
    have h := h.1 c4
    refine cm_X11_refused (kh_X11_refused h) h (fun x5 x6 hp h g7 => ?_)
    have h := h g7
    have K := kh_tr K hp.2
    exact ⟨h, K⟩
  · intro x8 c9
    have h := h.2 x8 c9
    exact kh_X11_lies_22 h K
theorem kh_X11_lies {Q : Int32 → HS → Prop} {v0 : Nat} {S : HS} (h : P_X11_lies v0 Q S) : P_X11_lies v0 (fun r T => Q r T ∧ KH S T) S := kh_X11_lies_0 h (kh_rf S)
set_option maxRecDepth 20000 in
set_option maxHeartbeats 1000000 in
theorem khB_X11_mark_34 {Q : Int32 → HS → Prop} {X34 X34_2 : Nat → Int32 → HS → Prop} {v0 : Nat} {v1 : Int32} {S0 S : HS} (h : B_X11_mark_34 Q X34 v0 v1 S) (K : KH S0 S) (hX34 : ∀ (u0 : Nat) (u1 : Int32) (u2 : HS), X34 u0 u1 u2 → KH S0 u2 → X34_2 u0 u1 u2) : B_X11_mark_34 (fun r T => Q r T ∧ KH S0 T) X34_2 v0 v1 S := by
  delta B_X11_mark_34 at h ⊢
  refine ⟨?_, ?_⟩
  · intro c1
    have h := h.1 c1
    obtain ⟨c2, h⟩ := h
    refine ⟨c2, ?_⟩
    intro x4 e3
    have h := h x4 e3
    intro x6 e5
    have h := h x6 e5
    intro x8 e7
    have h := h x8 e7
    have K := kh_I K e7
    intro x10 e9
    have h := h x10 e9
    refine cm_X11_good (kh_X11_good h) h (fun x11 x12 hp h g13 => ?_)
    have h := h g13
    have K := kh_tr K hp.2
    exact ⟨h, K⟩
  · intro c14
    have h := h.2 c14
    obtain ⟨c15, h⟩ := h
    refine ⟨c15, ?_⟩
    obtain ⟨b16, e17, h⟩ := h
    refine ⟨b16, e17, ?_⟩
    intro x19 e18
    have h := h x19 e18
    obtain ⟨b20, e21, h⟩ := h
    refine ⟨b20, e21, ?_⟩
    obtain ⟨c22, h⟩ := h
    refine ⟨c22, ?_⟩
    obtain ⟨c23, h⟩ := h
    refine ⟨c23, ?_⟩
    intro x25 e24
    have h := h x25 e24
    obtain ⟨c26, h⟩ := h
    refine ⟨c26, ?_⟩
    obtain ⟨c27, h⟩ := h
    refine ⟨c27, ?_⟩
    intro x29 e28
    have h := h x29 e28
    have K := kh_J K e28
    intro x31 e30
    have h := h x31 e30
    exact hX34 _ _ _ h K
theorem kh_X11_mark_34 {Q : Int32 → HS → Prop} {v0 : Nat} {v1 : Int32} {S0 S : HS} (h : P_X11_mark_34 Q v0 v1 S) (K : KH S0 S) : P_X11_mark_34 (fun r T => Q r T ∧ KH S0 T) v0 v1 S := h (fun v0 v1 S => KH S0 S → P_X11_mark_34 (fun r T => Q r T ∧ KH S0 T) v0 v1 S) (fun v0 v1 S hB K => fd_X11_mark_34 (khB_X11_mark_34 hB K (fun _ _ _ hx K => hx K))) K
set_option maxRecDepth 20000 in
set_option maxHeartbeats 1000000 in
theorem kh_X11_mark_0 {Q : Int32 → HS → Prop} {v0 : Nat} {S0 S : HS} (h : P_X11_mark_0 Q v0 S) (K : KH S0 S) : P_X11_mark_0 (fun r T => Q r T ∧ KH S0 T) v0 S := by
  delta P_X11_mark_0 at h ⊢
  obtain ⟨c1, h⟩ := h
  refine ⟨c1, ?_⟩
  intro x3 e2
  have h := h x3 e2
  have K := kh_I K e2
  refine cm_X11_isDay (kh_X11_isDay h) h (fun x4 x5 hp h g6 g7 => ?_)
  have h := h g6 g7
  have K := kh_tr K hp.2
  refine ⟨?_, ?_⟩
  · intro c8
    have h := h.1 c8
    intro x10 e9
    have h := h x10 e9
    refine ⟨?_, ?_⟩
    · intro c11
      have h := h.1 c11
      exact kh_X11_mark_34 h K
    · intro c12
      have h := h.2 c12
      refine cm_X11_refused (kh_X11_refused h) h (fun x13 x14 hp h g15 => ?_)
      have h := h g15
      have K := kh_tr K hp.2
      exact ⟨h, K⟩
  · intro c16
    have h := h.2 c16
    refine cm_X11_refused (kh_X11_refused h) h (fun x17 x18 hp h g19 => ?_)
    have h := h g19
    have K := kh_tr K hp.2
    exact ⟨h, K⟩
theorem kh_X11_mark {Q : Int32 → HS → Prop} {v0 : Nat} {S : HS} (h : P_X11_mark v0 Q S) : P_X11_mark v0 (fun r T => Q r T ∧ KH S T) S := kh_X11_mark_0 h (kh_rf S)
set_option maxRecDepth 20000 in
set_option maxHeartbeats 1000000 in
theorem kh_X11_mean_0 {Q : Int64 → HS → Prop} {v0 : Nat} {v1 : Int32} {v2 : Int32} {v3 : Int32} {v4 : Int32} {v5 : Int32} {v6 : Int32} {S0 S : HS} (h : P_X11_mean_0 Q v0 v1 v2 v3 v4 v5 v6 S) (K : KH S0 S) : P_X11_mean_0 (fun r T => Q r T ∧ KH S0 T) v0 v1 v2 v3 v4 v5 v6 S := by
  delta P_X11_mean_0 at h ⊢
  obtain ⟨c1, h⟩ := h
  refine ⟨c1, ?_⟩
  intro x3 e2
  have h := h x3 e2
  have K := kh_I K e2
  refine cm_X11_refuses (kh_X11_refuses h) h (fun x4 x5 hp h g6 => ?_)
  have h := h g6
  have K := kh_tr K hp.2
  refine ⟨?_, ?_⟩
  · intro c7
    have h := h.1 c7
    refine cm_X11_wetOf (kh_X11_wetOf h) h (fun x8 x9 hp h g10 => ?_)
    have h := h g10
    have K := kh_tr K hp.2
    obtain ⟨b11, e12, h⟩ := h
    refine ⟨b11, e12, ?_⟩
    obtain ⟨c13, h⟩ := h
    refine ⟨c13, ?_⟩
    obtain ⟨b14, e15, h⟩ := h
    refine ⟨b14, e15, ?_⟩
    obtain ⟨c16, h⟩ := h
    refine ⟨c16, ?_⟩
    obtain ⟨c17, h⟩ := h
    refine ⟨c17, ?_⟩
    intro x19 e18
    have h := h x19 e18
    refine cm_X11_told (kh_X11_told h) h (fun x20 x21 hp h g22 => ?_)
    have h := h g22
    have K := kh_tr K hp.2
    exact ⟨h, K⟩
  · intro c23
    have h := h.2 c23
    refine cm_X11_refused (kh_X11_refused h) h (fun x24 x25 hp h g26 => ?_)
    have h := h g26
    have K := kh_tr K hp.2
    exact ⟨h, K⟩
theorem kh_X11_mean {Q : Int64 → HS → Prop} {v0 : Nat} {v1 : Int32} {v2 : Int32} {v3 : Int32} {v4 : Int32} {v5 : Int32} {v6 : Int32} {S : HS} (h : P_X11_mean v0 v1 v2 v3 v4 v5 v6 Q S) : P_X11_mean v0 v1 v2 v3 v4 v5 v6 (fun r T => Q r T ∧ KH S T) S := kh_X11_mean_0 h (kh_rf S)
set_option maxRecDepth 20000 in
set_option maxHeartbeats 1000000 in
theorem kh_X11_minutes_21 {Q : Int32 → HS → Prop} {v0 : Nat} {S0 S : HS} (h : P_X11_minutes_21 Q v0 S) (K : KH S0 S) : P_X11_minutes_21 (fun r T => Q r T ∧ KH S0 T) v0 S := by
  delta P_X11_minutes_21 at h ⊢
  obtain ⟨c1, h⟩ := h
  refine ⟨c1, ?_⟩
  refine cm_X11_refused (kh_X11_refused h) h (fun x2 x3 hp h g4 => ?_)
  have h := h g4
  have K := kh_tr K hp.2
  exact ⟨h, K⟩
set_option maxRecDepth 20000 in
set_option maxHeartbeats 1000000 in
theorem kh_X11_minutes_0 {Q : Int32 → HS → Prop} {v0 : Nat} {v1 : Int32} {v2 : Int32} {v3 : Int32} {S0 S : HS} (h : P_X11_minutes_0 Q v0 v1 v2 v3 S) (K : KH S0 S) : P_X11_minutes_0 (fun r T => Q r T ∧ KH S0 T) v0 v1 v2 v3 S := by
  delta P_X11_minutes_0 at h ⊢
  obtain ⟨c1, h⟩ := h
  refine ⟨c1, ?_⟩
  intro x3 e2
  have h := h x3 e2
  have K := kh_I K e2
  refine cm_X11_isWalker (kh_X11_isWalker h) h (fun x4 x5 hp h g6 g7 => ?_)
  have h := h g6 g7
  have K := kh_tr K hp.2
  refine ⟨?_, ?_⟩
  · intro c8
    have h := h.1 c8
    exact kh_X11_minutes_21 h K
  · intro c9
    have h := h.2 c9
    refine cm_X11_isRoad (kh_X11_isRoad h) h (fun x10 x11 hp h g12 g13 => ?_)
    have h := h g12 g13
    have K := kh_tr K hp.2
    refine ⟨?_, ?_⟩
    · intro c14
      have h := h.1 c14
      refine cm_X11_isSpeed (kh_X11_isSpeed h) h (fun x15 x16 hp h g17 g18 => ?_)
      have h := h g17 g18
      have K := kh_tr K hp.2
      refine ⟨?_, ?_⟩
      · intro c19
        have h := h.1 c19
        refine cm_X11_refused (kh_X11_refused h) h (fun x20 x21 hp h g22 => ?_)
        have h := h g22
        have K := kh_tr K hp.2
        exact ⟨h, K⟩
      · intro c23
        have h := h.2 c23
        obtain ⟨b24, e25, h⟩ := h
        refine ⟨b24, e25, ?_⟩
        obtain ⟨c26, h⟩ := h
        refine ⟨c26, ?_⟩
        refine cm_X10_minutes (kh_X10_minutes h) h (fun x27 x28 hp h g29 => ?_)
        have h := h g29
        have K := kh_tr K hp.2
        refine cm_X11_good (kh_X11_good h) h (fun x30 x31 hp h g32 => ?_)
        have h := h g32
        have K := kh_tr K hp.2
        exact ⟨h, K⟩
    · intro c33
      have h := h.2 c33
      exact kh_X11_minutes_21 h K
theorem kh_X11_minutes {Q : Int32 → HS → Prop} {v0 : Nat} {v1 : Int32} {v2 : Int32} {v3 : Int32} {S : HS} (h : P_X11_minutes v0 v1 v2 v3 Q S) : P_X11_minutes v0 v1 v2 v3 (fun r T => Q r T ∧ KH S T) S := kh_X11_minutes_0 h (kh_rf S)
set_option maxRecDepth 20000 in
set_option maxHeartbeats 1000000 in
theorem kh_X11_names_0 {Q : HS → Prop} {v0 : Nat} {v1 : Int64} {v3 : Int32} {v4 : Int32} {S0 S : HS} (h : P_X11_names_0 Q v0 v1 v3 v4 S) (K : KH S0 S) : P_X11_names_0 (fun T => Q T ∧ KH S0 T) v0 v1 v3 v4 S := by
  delta P_X11_names_0 at h ⊢
  obtain ⟨c1, h⟩ := h
  refine ⟨c1, ?_⟩
  obtain ⟨b2, e3, h⟩ := h
  refine ⟨b2, e3, ?_⟩
  obtain ⟨c4, h⟩ := h
  refine ⟨c4, ?_⟩
  obtain ⟨b5, e6, h⟩ := h
  refine ⟨b5, e6, ?_⟩
  obtain ⟨b7, e8, h⟩ := h
  refine ⟨b7, e8, ?_⟩
  obtain ⟨c9, h⟩ := h
  refine ⟨c9, ?_⟩
  intro x11 e10
  have h := h x11 e10
  obtain ⟨c12, h⟩ := h
  refine ⟨c12, ?_⟩
  obtain ⟨c13, h⟩ := h
  refine ⟨c13, ?_⟩
  intro x15 e14
  have h := h x15 e14
  have K := kh_J K e14
  obtain ⟨b16, e17, h⟩ := h
  refine ⟨b16, e17, ?_⟩
  obtain ⟨c18, h⟩ := h
  refine ⟨c18, ?_⟩
  obtain ⟨b19, e20, h⟩ := h
  refine ⟨b19, e20, ?_⟩
  obtain ⟨b21, e22, h⟩ := h
  refine ⟨b21, e22, ?_⟩
  obtain ⟨c23, h⟩ := h
  refine ⟨c23, ?_⟩
  intro x25 e24
  have h := h x25 e24
  obtain ⟨c26, h⟩ := h
  refine ⟨c26, ?_⟩
  obtain ⟨c27, h⟩ := h
  refine ⟨c27, ?_⟩
  intro x29 e28
  have h := h x29 e28
  have K := kh_I K e28
  obtain ⟨b30, e31, h⟩ := h
  refine ⟨b30, e31, ?_⟩
  obtain ⟨c32, h⟩ := h
  refine ⟨c32, ?_⟩
  obtain ⟨b33, e34, h⟩ := h
  refine ⟨b33, e34, ?_⟩
  obtain ⟨b35, e36, h⟩ := h
  refine ⟨b35, e36, ?_⟩
  obtain ⟨c37, h⟩ := h
  refine ⟨c37, ?_⟩
  intro x39 e38
  have h := h x39 e38
  obtain ⟨c40, h⟩ := h
  refine ⟨c40, ?_⟩
  obtain ⟨c41, h⟩ := h
  refine ⟨c41, ?_⟩
  intro x43 e42
  have h := h x43 e42
  have K := kh_I K e42
  obtain ⟨b44, e45, h⟩ := h
  refine ⟨b44, e45, ?_⟩
  obtain ⟨c46, h⟩ := h
  refine ⟨c46, ?_⟩
  intro x48 e47
  have h := h x48 e47
  intro x50 e49
  have h := h x50 e49
  intro x52 e51
  have h := h x52 e51
  have K := kh_I K e51
  exact ⟨h, K⟩
theorem kh_X11_names {Q : HS → Prop} {v0 : Nat} {v1 : Int64} {v3 : Int32} {v4 : Int32} {S : HS} (h : P_X11_names v0 v1 v3 v4 Q S) : P_X11_names v0 v1 v3 v4 (fun T => Q T ∧ KH S T) S := kh_X11_names_0 h (kh_rf S)
set_option maxRecDepth 20000 in
set_option maxHeartbeats 1000000 in
theorem kh_X11_needs_13 {Q : HS → Prop} {v0 : Nat} {S0 S : HS} (h : P_X11_needs_13 Q v0 S) (K : KH S0 S) : P_X11_needs_13 (fun T => Q T ∧ KH S0 T) v0 S := by
  delta P_X11_needs_13 at h ⊢
  obtain ⟨c1, h⟩ := h
  refine ⟨c1, ?_⟩
  refine cm_X11_goesOn (kh_X11_goesOn h) h (fun x2 hp h g3 => ?_)
  have h := h g3
  have K := kh_tr K hp.2
  exact ⟨h, K⟩
set_option maxRecDepth 20000 in
set_option maxHeartbeats 1000000 in
theorem kh_X11_needs_0 {Q : HS → Prop} {v0 : Nat} {v1 : Nat} {S0 S : HS} (h : P_X11_needs_0 Q v0 v1 S) (K : KH S0 S) : P_X11_needs_0 (fun T => Q T ∧ KH S0 T) v0 v1 S := by
  delta P_X11_needs_0 at h ⊢
  obtain ⟨c1, h⟩ := h
  refine ⟨c1, ?_⟩
  refine cm_X11_isWord (kh_X11_isWord h) h (fun x2 x3 hp h g4 g5 => ?_)
  have h := h g4 g5
  have K := kh_tr K hp.2
  refine ⟨?_, ?_⟩
  · intro c6
    have h := h.1 c6
    exact kh_X11_needs_13 h K
  · intro c7
    have h := h.2 c7
    refine cm_X11_flaw (kh_X11_flaw h) h (fun x8 hp h g9 => ?_)
    have h := h g9
    have K := kh_tr K hp.2
    exact kh_X11_needs_13 h K
theorem kh_X11_needs {Q : HS → Prop} {v0 : Nat} {v1 : Nat} {S : HS} (h : P_X11_needs v0 v1 Q S) : P_X11_needs v0 v1 (fun T => Q T ∧ KH S T) S := kh_X11_needs_0 h (kh_rf S)
set_option maxRecDepth 20000 in
set_option maxHeartbeats 1000000 in
theorem kh_X11_off_29 {Q : Int32 → HS → Prop} {v0 : Nat} {S0 S : HS} (h : P_X11_off_29 Q v0 S) (K : KH S0 S) : P_X11_off_29 (fun r T => Q r T ∧ KH S0 T) v0 S := by
  delta P_X11_off_29 at h ⊢
  obtain ⟨c1, h⟩ := h
  refine ⟨c1, ?_⟩
  refine cm_X11_refused (kh_X11_refused h) h (fun x2 x3 hp h g4 => ?_)
  have h := h g4
  have K := kh_tr K hp.2
  exact ⟨h, K⟩
set_option maxRecDepth 20000 in
set_option maxHeartbeats 1000000 in
theorem kh_X11_off_128 {Q : Int32 → HS → Prop} {X67 X67_2 : Nat → Int32 → Int32 → Int32 → Int32 → HS → Prop} {v0 : Nat} {v2 : Int32} {v4 : Int32} {v5 : Int32} {v6 : Int32} {S0 S : HS} (h : P_X11_off_128 Q X67 v0 v2 v4 v5 v6 S) (K : KH S0 S) (hX67 : ∀ (u0 : Nat) (u1 : Int32) (u2 : Int32) (u3 : Int32) (u4 : Int32) (u5 : HS), X67 u0 u1 u2 u3 u4 u5 → KH S0 u5 → X67_2 u0 u1 u2 u3 u4 u5) : P_X11_off_128 (fun r T => Q r T ∧ KH S0 T) X67_2 v0 v2 v4 v5 v6 S := by
  delta P_X11_off_128 at h ⊢
  intro x2 e1
  have h := h x2 e1
  exact hX67 _ _ _ _ _ _ h K
set_option maxRecDepth 20000 in
set_option maxHeartbeats 1000000 in
theorem kh_X11_off_124 {Q : Int32 → HS → Prop} {X67 X67_2 : Nat → Int32 → Int32 → Int32 → Int32 → HS → Prop} {v0 : Nat} {v2 : Int32} {v4 : Int32} {v6 : Int32} {S0 S : HS} (h : P_X11_off_124 Q X67 v0 v2 v4 v6 S) (K : KH S0 S) (hX67 : ∀ (u0 : Nat) (u1 : Int32) (u2 : Int32) (u3 : Int32) (u4 : Int32) (u5 : HS), X67 u0 u1 u2 u3 u4 u5 → KH S0 u5 → X67_2 u0 u1 u2 u3 u4 u5) : P_X11_off_124 (fun r T => Q r T ∧ KH S0 T) X67_2 v0 v2 v4 v6 S := by
  delta P_X11_off_124 at h ⊢
  exact kh_X11_off_128 h K hX67
set_option maxRecDepth 20000 in
set_option maxHeartbeats 1000000 in
theorem khB_X11_off_67 {Q : Int32 → HS → Prop} {X67 X67_2 : Nat → Int32 → Int32 → Int32 → Int32 → HS → Prop} {v0 : Nat} {v2 : Int32} {v4 : Int32} {v5 : Int32} {v6 : Int32} {S0 S : HS} (h : B_X11_off_67 Q X67 v0 v2 v4 v5 v6 S) (K : KH S0 S) (hX67 : ∀ (u0 : Nat) (u1 : Int32) (u2 : Int32) (u3 : Int32) (u4 : Int32) (u5 : HS), X67 u0 u1 u2 u3 u4 u5 → KH S0 u5 → X67_2 u0 u1 u2 u3 u4 u5) : B_X11_off_67 (fun r T => Q r T ∧ KH S0 T) X67_2 v0 v2 v4 v5 v6 S := by
  delta B_X11_off_67 at h ⊢
  refine ⟨?_, ?_⟩
  · intro c1
    have h := h.1 c1
    refine ⟨?_, ?_⟩
    · intro c2
      have h := h.1 c2
      obtain ⟨c3, h⟩ := h
      refine ⟨c3, ?_⟩
      refine cm_X11_good (kh_X11_good h) h (fun x4 x5 hp h g6 => ?_)
      have h := h g6
      have K := kh_tr K hp.2
      exact ⟨h, K⟩
    · intro c7
      have h := h.2 c7
      obtain ⟨c8, h⟩ := h
      refine ⟨c8, ?_⟩
      refine cm_X11_refused (kh_X11_refused h) h (fun x9 x10 hp h g11 => ?_)
      have h := h g11
      have K := kh_tr K hp.2
      exact ⟨h, K⟩
  · intro c12
    have h := h.2 c12
    obtain ⟨c13, h⟩ := h
    refine ⟨c13, ?_⟩
    obtain ⟨b14, e15, h⟩ := h
    refine ⟨b14, e15, ?_⟩
    refine cm_X11_spotOf (kh_X11_spotOf h) h (fun x16 x17 hp h g18 => ?_)
    have h := h g18
    have K := kh_tr K hp.2
    obtain ⟨c19, h⟩ := h
    refine ⟨c19, ?_⟩
    obtain ⟨c20, h⟩ := h
    refine ⟨c20, ?_⟩
    intro x22 e21
    have h := h x22 e21
    refine ⟨?_, ?_⟩
    · intro c23
      have h := h.1 c23
      exact kh_X11_off_128 h K hX67
    · intro c24
      have h := h.2 c24
      refine ⟨?_, ?_⟩
      · intro c25
        have h := h.1 c25
        exact kh_X11_off_124 h K hX67
      · intro c26
        have h := h.2 c26
        obtain ⟨b27, e28, h⟩ := h
        refine ⟨b27, e28, ?_⟩
        refine cm_X11_spotOf (kh_X11_spotOf h) h (fun x29 x30 hp h g31 => ?_)
        have h := h g31
        have K := kh_tr K hp.2
        obtain ⟨c32, h⟩ := h
        refine ⟨c32, ?_⟩
        obtain ⟨c33, h⟩ := h
        refine ⟨c33, ?_⟩
        intro x35 e34
        have h := h x35 e34
        obtain ⟨b36, e37, h⟩ := h
        refine ⟨b36, e37, ?_⟩
        refine cm_X11_spotOf (kh_X11_spotOf h) h (fun x38 x39 hp h g40 => ?_)
        have h := h g40
        have K := kh_tr K hp.2
        obtain ⟨c41, h⟩ := h
        refine ⟨c41, ?_⟩
        obtain ⟨c42, h⟩ := h
        refine ⟨c42, ?_⟩
        intro x44 e43
        have h := h x44 e43
        refine ⟨?_, ?_⟩
        · intro c45
          have h := h.1 c45
          exact kh_X11_off_128 h K hX67
        · intro c46
          have h := h.2 c46
          exact kh_X11_off_124 h K hX67
theorem kh_X11_off_67 {Q : Int32 → HS → Prop} {v0 : Nat} {v2 : Int32} {v4 : Int32} {v5 : Int32} {v6 : Int32} {S0 S : HS} (h : P_X11_off_67 Q v0 v2 v4 v5 v6 S) (K : KH S0 S) : P_X11_off_67 (fun r T => Q r T ∧ KH S0 T) v0 v2 v4 v5 v6 S := h (fun v0 v2 v4 v5 v6 S => KH S0 S → P_X11_off_67 (fun r T => Q r T ∧ KH S0 T) v0 v2 v4 v5 v6 S) (fun v0 v2 v4 v5 v6 S hB K => fd_X11_off_67 (khB_X11_off_67 hB K (fun _ _ _ _ _ _ hx K => hx K))) K
set_option maxRecDepth 20000 in
set_option maxHeartbeats 1000000 in
theorem kh_X11_off_0 {Q : Int32 → HS → Prop} {v0 : Nat} {v1 : Int32} {v2 : Int32} {v3 : Int32} {v4 : Int32} {S0 S : HS} (h : P_X11_off_0 Q v0 v1 v2 v3 v4 S) (K : KH S0 S) : P_X11_off_0 (fun r T => Q r T ∧ KH S0 T) v0 v1 v2 v3 v4 S := by
  delta P_X11_off_0 at h ⊢
  obtain ⟨c1, h⟩ := h
  refine ⟨c1, ?_⟩
  intro x3 e2
  have h := h x3 e2
  have K := kh_I K e2
  refine cm_X11_isWalker (kh_X11_isWalker h) h (fun x4 x5 hp h g6 g7 => ?_)
  have h := h g6 g7
  have K := kh_tr K hp.2
  refine ⟨?_, ?_⟩
  · intro c8
    have h := h.1 c8
    exact kh_X11_off_29 h K
  · intro c9
    have h := h.2 c9
    refine cm_X11_isPlace (kh_X11_isPlace h) h (fun x10 x11 hp h g12 g13 => ?_)
    have h := h g12 g13
    have K := kh_tr K hp.2
    refine ⟨?_, ?_⟩
    · intro c14
      have h := h.1 c14
      exact kh_X11_off_29 h K
    · intro c15
      have h := h.2 c15
      refine cm_X11_isPlace (kh_X11_isPlace h) h (fun x16 x17 hp h g18 g19 => ?_)
      have h := h g18 g19
      have K := kh_tr K hp.2
      refine ⟨?_, ?_⟩
      · intro c20
        have h := h.1 c20
        refine cm_X11_in (kh_X11_in h) h (fun x21 x22 hp h g23 g24 => ?_)
        have h := h g23 g24
        have K := kh_tr K hp.2
        refine ⟨?_, ?_⟩
        · intro c25
          have h := h.1 c25
          refine cm_X11_laysWays (kh_X11_laysWays h) h (fun x26 hp h g27 => ?_)
          have h := h g27
          have K := kh_tr K hp.2
          exact kh_X11_off_67 h K
        · intro c28
          have h := h.2 c28
          refine cm_X11_refused (kh_X11_refused h) h (fun x29 x30 hp h g31 => ?_)
          have h := h g31
          have K := kh_tr K hp.2
          exact ⟨h, K⟩
      · intro c32
        have h := h.2 c32
        exact kh_X11_off_29 h K
theorem kh_X11_off {Q : Int32 → HS → Prop} {v0 : Nat} {v1 : Int32} {v2 : Int32} {v3 : Int32} {v4 : Int32} {S : HS} (h : P_X11_off v0 v1 v2 v3 v4 Q S) : P_X11_off v0 v1 v2 v3 v4 (fun r T => Q r T ∧ KH S T) S := kh_X11_off_0 h (kh_rf S)
set_option maxRecDepth 20000 in
set_option maxHeartbeats 1000000 in
theorem kh_X11_readFresh_32 {Q : Int64 → HS → Prop} {v0 : Nat} {S0 S : HS} (h : P_X11_readFresh_32 Q v0 S) (K : KH S0 S) : P_X11_readFresh_32 (fun r T => Q r T ∧ KH S0 T) v0 S := by
  delta P_X11_readFresh_32 at h ⊢
  obtain ⟨c1, h⟩ := h
  refine ⟨c1, ?_⟩
  intro x3 e2
  have h := h x3 e2
  refine cm_X11_goesOn (kh_X11_goesOn h) h (fun x4 hp h g5 => ?_)
  have h := h g5
  have K := kh_tr K hp.2
  exact ⟨h, K⟩
set_option maxRecDepth 20000 in
set_option maxHeartbeats 1000000 in
theorem kh_X11_readFresh_12 {Q : Int64 → HS → Prop} {v0 : Nat} {S0 S : HS} (h : P_X11_readFresh_12 Q v0 S) (K : KH S0 S) : P_X11_readFresh_12 (fun r T => Q r T ∧ KH S0 T) v0 S := by
  delta P_X11_readFresh_12 at h ⊢
  obtain ⟨c1, h⟩ := h
  refine ⟨c1, ?_⟩
  obtain ⟨b2, e3, h⟩ := h
  refine ⟨b2, e3, ?_⟩
  intro x5 e4
  have h := h x5 e4
  obtain ⟨c6, h⟩ := h
  refine ⟨c6, ?_⟩
  refine cm_X10_find (kh_X10_find h) h (fun x7 x8 hp h g9 => ?_)
  have h := h g9
  have K := kh_tr K hp.2
  refine ⟨?_, ?_⟩
  · intro c10
    have h := h.1 c10
    exact kh_X11_readFresh_32 h K
  · intro c11
    have h := h.2 c11
    refine cm_X11_flaw (kh_X11_flaw h) h (fun x12 hp h g13 => ?_)
    have h := h g13
    have K := kh_tr K hp.2
    exact kh_X11_readFresh_32 h K
set_option maxRecDepth 20000 in
set_option maxHeartbeats 1000000 in
theorem kh_X11_readFresh_0 {Q : Int64 → HS → Prop} {v0 : Nat} {S0 S : HS} (h : P_X11_readFresh_0 Q v0 S) (K : KH S0 S) : P_X11_readFresh_0 (fun r T => Q r T ∧ KH S0 T) v0 S := by
  delta P_X11_readFresh_0 at h ⊢
  obtain ⟨c1, h⟩ := h
  refine ⟨c1, ?_⟩
  refine cm_X11_isName (kh_X11_isName h) h (fun x2 x3 hp h g4 g5 => ?_)
  have h := h g4 g5
  have K := kh_tr K hp.2
  refine ⟨?_, ?_⟩
  · intro c6
    have h := h.1 c6
    exact kh_X11_readFresh_12 h K
  · intro c7
    have h := h.2 c7
    refine cm_X11_flaw (kh_X11_flaw h) h (fun x8 hp h g9 => ?_)
    have h := h g9
    have K := kh_tr K hp.2
    exact kh_X11_readFresh_12 h K
theorem kh_X11_readFresh {Q : Int64 → HS → Prop} {v0 : Nat} {S : HS} (h : P_X11_readFresh v0 Q S) : P_X11_readFresh v0 (fun r T => Q r T ∧ KH S T) S := kh_X11_readFresh_0 h (kh_rf S)
set_option maxRecDepth 20000 in
set_option maxHeartbeats 1000000 in
theorem kh_X11_readWhole_49 {Q : Int32 → HS → Prop} {v0 : Nat} {s0 : Int32} {S0 S : HS} (h : P_X11_readWhole_49 Q v0 s0 S) (K : KH S0 S) : P_X11_readWhole_49 (fun r T => Q r T ∧ KH S0 T) v0 s0 S := by
  delta P_X11_readWhole_49 at h ⊢
  obtain ⟨c1, h⟩ := h
  refine ⟨c1, ?_⟩
  refine cm_X11_goesOn (kh_X11_goesOn h) h (fun x2 hp h g3 => ?_)
  have h := h g3
  have K := kh_tr K hp.2
  exact ⟨h, K⟩
set_option maxRecDepth 20000 in
set_option maxHeartbeats 1000000 in
theorem kh_X11_readWhole_33 {Q : Int32 → HS → Prop} {v0 : Nat} {v1 : Int32} {S0 S : HS} (h : P_X11_readWhole_33 Q v0 v1 S) (K : KH S0 S) : P_X11_readWhole_33 (fun r T => Q r T ∧ KH S0 T) v0 v1 S := by
  delta P_X11_readWhole_33 at h ⊢
  obtain ⟨c1, h⟩ := h
  refine ⟨c1, ?_⟩
  intro x3 e2
  have h := h x3 e2
  refine ⟨?_, ?_⟩
  · intro c4
    have h := h.1 c4
    intro x6 e5
    have h := h x6 e5
    exact kh_X11_readWhole_49 h K
  · intro c7
    have h := h.2 c7
    exact kh_X11_readWhole_49 h K
set_option maxRecDepth 20000 in
set_option maxHeartbeats 1000000 in
theorem kh_X11_readWhole_0 {Q : Int32 → HS → Prop} {v0 : Nat} {v1 : Int32} {v2 : Int32} {S0 S : HS} (h : P_X11_readWhole_0 Q v0 v1 v2 S) (K : KH S0 S) : P_X11_readWhole_0 (fun r T => Q r T ∧ KH S0 T) v0 v1 v2 S := by
  delta P_X11_readWhole_0 at h ⊢
  obtain ⟨c1, h⟩ := h
  refine ⟨c1, ?_⟩
  intro x3 e2
  have h := h x3 e2
  refine ⟨?_, ?_⟩
  · intro c4
    have h := h.1 c4
    intro x6 e5
    have h := h x6 e5
    refine cm_X11_in (kh_X11_in h) h (fun x7 x8 hp h g9 g10 => ?_)
    have h := h g9 g10
    have K := kh_tr K hp.2
    refine ⟨?_, ?_⟩
    · intro c11
      have h := h.1 c11
      exact kh_X11_readWhole_33 h K
    · intro c12
      have h := h.2 c12
      refine cm_X11_flaw (kh_X11_flaw h) h (fun x13 hp h g14 => ?_)
      have h := h g14
      have K := kh_tr K hp.2
      exact kh_X11_readWhole_33 h K
  · intro c15
    have h := h.2 c15
    refine cm_X11_flaw (kh_X11_flaw h) h (fun x16 hp h g17 => ?_)
    have h := h g17
    have K := kh_tr K hp.2
    exact kh_X11_readWhole_33 h K
theorem kh_X11_readWhole {Q : Int32 → HS → Prop} {v0 : Nat} {v1 : Int32} {v2 : Int32} {S : HS} (h : P_X11_readWhole v0 v1 v2 Q S) : P_X11_readWhole v0 v1 v2 (fun r T => Q r T ∧ KH S T) S := kh_X11_readWhole_0 h (kh_rf S)
set_option maxRecDepth 20000 in
set_option maxHeartbeats 1000000 in
theorem kh_X11_readPlace_50 {Q : HS → Prop} {v0 : Nat} {v1 : Int64} {v3 : Int32} {s0 : Int32} {S0 S : HS} (h : P_X11_readPlace_50 Q v0 v1 v3 s0 S) (K : KH S0 S) : P_X11_readPlace_50 (fun T => Q T ∧ KH S0 T) v0 v1 v3 s0 S := by
  delta P_X11_readPlace_50 at h ⊢
  obtain ⟨c1, h⟩ := h
  refine ⟨c1, ?_⟩
  intro x3 e2
  have h := h x3 e2
  refine ⟨?_, ?_⟩
  · intro c4
    have h := h.1 c4
    obtain ⟨b5, e6, h⟩ := h
    refine ⟨b5, e6, ?_⟩
    obtain ⟨c7, h⟩ := h
    refine ⟨c7, ?_⟩
    intro x9 e8
    have h := h x9 e8
    refine cm_X11_names (kh_X11_names h) h (fun x10 hp h g11 => ?_)
    have h := h g11
    have K := kh_tr K hp.2
    obtain ⟨b12, e13, h⟩ := h
    refine ⟨b12, e13, ?_⟩
    obtain ⟨c14, h⟩ := h
    refine ⟨c14, ?_⟩
    obtain ⟨b15, e16, h⟩ := h
    refine ⟨b15, e16, ?_⟩
    obtain ⟨b17, e18, h⟩ := h
    refine ⟨b17, e18, ?_⟩
    obtain ⟨c19, h⟩ := h
    refine ⟨c19, ?_⟩
    intro x21 e20
    have h := h x21 e20
    obtain ⟨c22, h⟩ := h
    refine ⟨c22, ?_⟩
    obtain ⟨c23, h⟩ := h
    refine ⟨c23, ?_⟩
    intro x25 e24
    have h := h x25 e24
    have K := kh_I K e24
    obtain ⟨b26, e27, h⟩ := h
    refine ⟨b26, e27, ?_⟩
    obtain ⟨c28, h⟩ := h
    refine ⟨c28, ?_⟩
    obtain ⟨b29, e30, h⟩ := h
    refine ⟨b29, e30, ?_⟩
    obtain ⟨b31, e32, h⟩ := h
    refine ⟨b31, e32, ?_⟩
    obtain ⟨c33, h⟩ := h
    refine ⟨c33, ?_⟩
    intro x35 e34
    have h := h x35 e34
    obtain ⟨c36, h⟩ := h
    refine ⟨c36, ?_⟩
    obtain ⟨c37, h⟩ := h
    refine ⟨c37, ?_⟩
    intro x39 e38
    have h := h x39 e38
    have K := kh_I K e38
    obtain ⟨b40, e41, h⟩ := h
    refine ⟨b40, e41, ?_⟩
    obtain ⟨c42, h⟩ := h
    refine ⟨c42, ?_⟩
    intro x44 e43
    have h := h x44 e43
    intro x46 e45
    have h := h x46 e45
    intro x48 e47
    have h := h x48 e47
    have K := kh_I K e47
    exact ⟨h, K⟩
  · intro c49
    have h := h.2 c49
    exact ⟨h, K⟩
set_option maxRecDepth 20000 in
set_option maxHeartbeats 1000000 in
theorem kh_X11_readPlace_48 {Q : HS → Prop} {v0 : Nat} {v1 : Int64} {v3 : Int32} {S0 S : HS} (h : P_X11_readPlace_48 Q v0 v1 v3 S) (K : KH S0 S) : P_X11_readPlace_48 (fun T => Q T ∧ KH S0 T) v0 v1 v3 S := by
  delta P_X11_readPlace_48 at h ⊢
  exact kh_X11_readPlace_50 h K
set_option maxRecDepth 20000 in
set_option maxHeartbeats 1000000 in
theorem kh_X11_readPlace_0 {Q : HS → Prop} {v0 : Nat} {S0 S : HS} (h : P_X11_readPlace_0 Q v0 S) (K : KH S0 S) : P_X11_readPlace_0 (fun T => Q T ∧ KH S0 T) v0 S := by
  delta P_X11_readPlace_0 at h ⊢
  obtain ⟨c1, h⟩ := h
  refine ⟨c1, ?_⟩
  obtain ⟨b2, e3, h⟩ := h
  refine ⟨b2, e3, ?_⟩
  obtain ⟨c4, h⟩ := h
  refine ⟨c4, ?_⟩
  intro x6 e5
  have h := h x6 e5
  refine cm_X11_begins (kh_X11_begins h) h (fun x7 hp h g8 => ?_)
  have h := h g8
  have K := kh_tr K hp.2
  refine cm_X11_readFresh (kh_X11_readFresh h) h (fun x9 x10 hp h g11 => ?_)
  have h := h g11
  have K := kh_tr K hp.2
  refine cm_X11_eatsWord (kh_X11_eatsWord h) h (fun x12 x13 hp h g14 g15 => ?_)
  have h := h g14 g15
  have K := kh_tr K hp.2
  refine ⟨?_, ?_⟩
  · intro c16
    have h := h.1 c16
    exact kh_X11_readPlace_48 h K
  · intro c17
    have h := h.2 c17
    refine cm_X11_eatsWord (kh_X11_eatsWord h) h (fun x18 x19 hp h g20 g21 => ?_)
    have h := h g20 g21
    have K := kh_tr K hp.2
    refine ⟨?_, ?_⟩
    · intro c22
      have h := h.1 c22
      exact kh_X11_readPlace_48 h K
    · intro c23
      have h := h.2 c23
      refine cm_X11_readWhole (kh_X11_readWhole h) h (fun x24 x25 hp h g26 => ?_)
      have h := h g26
      have K := kh_tr K hp.2
      exact kh_X11_readPlace_50 h K
theorem kh_X11_readPlace {Q : HS → Prop} {v0 : Nat} {S : HS} (h : P_X11_readPlace v0 Q S) : P_X11_readPlace v0 (fun T => Q T ∧ KH S T) S := kh_X11_readPlace_0 h (kh_rf S)
set_option maxRecDepth 20000 in
set_option maxHeartbeats 1000000 in
theorem kh_X11_readPart_0 {Q : Int32 → HS → Prop} {v0 : Nat} {v1 : Nat} {v2 : Int32} {v3 : Int32} {S0 S : HS} (h : P_X11_readPart_0 Q v0 v1 v2 v3 S) (K : KH S0 S) : P_X11_readPart_0 (fun r T => Q r T ∧ KH S0 T) v0 v1 v2 v3 S := by
  delta P_X11_readPart_0 at h ⊢
  obtain ⟨c1, h⟩ := h
  refine ⟨c1, ?_⟩
  refine cm_X11_needs (kh_X11_needs h) h (fun x2 hp h g3 => ?_)
  have h := h g3
  have K := kh_tr K hp.2
  refine cm_X11_readWhole (kh_X11_readWhole h) h (fun x4 x5 hp h g6 => ?_)
  have h := h g6
  have K := kh_tr K hp.2
  exact ⟨h, K⟩
theorem kh_X11_readPart {Q : Int32 → HS → Prop} {v0 : Nat} {v1 : Nat} {v2 : Int32} {v3 : Int32} {S : HS} (h : P_X11_readPart v0 v1 v2 v3 Q S) : P_X11_readPart v0 v1 v2 v3 (fun r T => Q r T ∧ KH S T) S := kh_X11_readPart_0 h (kh_rf S)
set_option maxRecDepth 20000 in
set_option maxHeartbeats 1000000 in
theorem kh_X11_readSide_64 {Q : Int32 → HS → Prop} {v0 : Nat} {v1 : Int32} {S0 S : HS} (h : P_X11_readSide_64 Q v0 v1 S) (K : KH S0 S) : P_X11_readSide_64 (fun r T => Q r T ∧ KH S0 T) v0 v1 S := by
  delta P_X11_readSide_64 at h ⊢
  obtain ⟨c1, h⟩ := h
  refine ⟨c1, ?_⟩
  refine cm_X11_goesOn (kh_X11_goesOn h) h (fun x2 hp h g3 => ?_)
  have h := h g3
  have K := kh_tr K hp.2
  exact ⟨h, K⟩
set_option maxRecDepth 20000 in
set_option maxHeartbeats 1000000 in
theorem kh_X11_readSide_53 {Q : Int32 → HS → Prop} {v0 : Nat} {s0 : Int32} {S0 S : HS} (h : P_X11_readSide_53 Q v0 s0 S) (K : KH S0 S) : P_X11_readSide_53 (fun r T => Q r T ∧ KH S0 T) v0 s0 S := by
  delta P_X11_readSide_53 at h ⊢
  refine ⟨?_, ?_⟩
  · intro c1
    have h := h.1 c1
    exact kh_X11_readSide_64 h K
  · intro c2
    have h := h.2 c2
    obtain ⟨c3, h⟩ := h
    refine ⟨c3, ?_⟩
    refine cm_X11_flaw (kh_X11_flaw h) h (fun x4 hp h g5 => ?_)
    have h := h g5
    have K := kh_tr K hp.2
    exact kh_X11_readSide_64 h K
set_option maxRecDepth 20000 in
set_option maxHeartbeats 1000000 in
theorem kh_X11_readSide_0 {Q : Int32 → HS → Prop} {v0 : Nat} {S0 S : HS} (h : P_X11_readSide_0 Q v0 S) (K : KH S0 S) : P_X11_readSide_0 (fun r T => Q r T ∧ KH S0 T) v0 S := by
  delta P_X11_readSide_0 at h ⊢
  obtain ⟨c1, h⟩ := h
  refine ⟨c1, ?_⟩
  refine cm_X11_isWord (kh_X11_isWord h) h (fun x2 x3 hp h g4 g5 => ?_)
  have h := h g4 g5
  have K := kh_tr K hp.2
  refine ⟨?_, ?_⟩
  · intro c6
    have h := h.1 c6
    refine cm_X11_isWord (kh_X11_isWord h) h (fun x7 x8 hp h g9 g10 => ?_)
    have h := h g9 g10
    have K := kh_tr K hp.2
    refine ⟨?_, ?_⟩
    · intro c11
      have h := h.1 c11
      refine cm_X11_isWord (kh_X11_isWord h) h (fun x12 x13 hp h g14 g15 => ?_)
      have h := h g14 g15
      have K := kh_tr K hp.2
      refine ⟨?_, ?_⟩
      · intro c16
        have h := h.1 c16
        refine cm_X11_isWord (kh_X11_isWord h) h (fun x17 x18 hp h g19 g20 => ?_)
        have h := h g19 g20
        have K := kh_tr K hp.2
        refine ⟨?_, ?_⟩
        · intro c21
          have h := h.1 c21
          exact kh_X11_readSide_53 h K
        · intro c22
          have h := h.2 c22
          exact kh_X11_readSide_53 h K
      · intro c23
        have h := h.2 c23
        exact kh_X11_readSide_53 h K
    · intro c24
      have h := h.2 c24
      exact kh_X11_readSide_53 h K
  · intro c25
    have h := h.2 c25
    exact kh_X11_readSide_53 h K
theorem kh_X11_readSide {Q : Int32 → HS → Prop} {v0 : Nat} {S : HS} (h : P_X11_readSide v0 Q S) : P_X11_readSide v0 (fun r T => Q r T ∧ KH S T) S := kh_X11_readSide_0 h (kh_rf S)
set_option maxRecDepth 20000 in
set_option maxHeartbeats 1000000 in
theorem kh_X11_readRain_0 {Q : HS → Prop} {v0 : Nat} {S0 S : HS} (h : P_X11_readRain_0 Q v0 S) (K : KH S0 S) : P_X11_readRain_0 (fun T => Q T ∧ KH S0 T) v0 S := by
  delta P_X11_readRain_0 at h ⊢
  obtain ⟨c1, h⟩ := h
  refine ⟨c1, ?_⟩
  obtain ⟨b2, e3, h⟩ := h
  refine ⟨b2, e3, ?_⟩
  obtain ⟨c4, h⟩ := h
  refine ⟨c4, ?_⟩
  intro x6 e5
  have h := h x6 e5
  refine cm_X11_begins (kh_X11_begins h) h (fun x7 hp h g8 => ?_)
  have h := h g8
  have K := kh_tr K hp.2
  refine cm_X11_readPart (kh_X11_readPart h) h (fun x9 x10 hp h g11 => ?_)
  have h := h g11
  have K := kh_tr K hp.2
  refine cm_X11_readPart (kh_X11_readPart h) h (fun x12 x13 hp h g14 => ?_)
  have h := h g14
  have K := kh_tr K hp.2
  refine cm_X11_needs (kh_X11_needs h) h (fun x15 hp h g16 => ?_)
  have h := h g16
  have K := kh_tr K hp.2
  refine cm_X11_readSide (kh_X11_readSide h) h (fun x17 x18 hp h g19 => ?_)
  have h := h g19
  have K := kh_tr K hp.2
  refine cm_X11_readWhole (kh_X11_readWhole h) h (fun x20 x21 hp h g22 => ?_)
  have h := h g22
  have K := kh_tr K hp.2
  refine cm_X11_readPart (kh_X11_readPart h) h (fun x23 x24 hp h g25 => ?_)
  have h := h g25
  have K := kh_tr K hp.2
  intro x27 e26
  have h := h x27 e26
  refine ⟨?_, ?_⟩
  · intro c28
    have h := h.1 c28
    obtain ⟨b29, e30, h⟩ := h
    refine ⟨b29, e30, ?_⟩
    obtain ⟨c31, h⟩ := h
    refine ⟨c31, ?_⟩
    obtain ⟨b32, e33, h⟩ := h
    refine ⟨b32, e33, ?_⟩
    obtain ⟨b34, e35, h⟩ := h
    refine ⟨b34, e35, ?_⟩
    obtain ⟨c36, h⟩ := h
    refine ⟨c36, ?_⟩
    intro x38 e37
    have h := h x38 e37
    obtain ⟨c39, h⟩ := h
    refine ⟨c39, ?_⟩
    obtain ⟨c40, h⟩ := h
    refine ⟨c40, ?_⟩
    intro x42 e41
    have h := h x42 e41
    have K := kh_I K e41
    obtain ⟨b43, e44, h⟩ := h
    refine ⟨b43, e44, ?_⟩
    obtain ⟨c45, h⟩ := h
    refine ⟨c45, ?_⟩
    obtain ⟨b46, e47, h⟩ := h
    refine ⟨b46, e47, ?_⟩
    obtain ⟨b48, e49, h⟩ := h
    refine ⟨b48, e49, ?_⟩
    obtain ⟨c50, h⟩ := h
    refine ⟨c50, ?_⟩
    intro x52 e51
    have h := h x52 e51
    obtain ⟨c53, h⟩ := h
    refine ⟨c53, ?_⟩
    obtain ⟨c54, h⟩ := h
    refine ⟨c54, ?_⟩
    intro x56 e55
    have h := h x56 e55
    have K := kh_I K e55
    obtain ⟨b57, e58, h⟩ := h
    refine ⟨b57, e58, ?_⟩
    obtain ⟨c59, h⟩ := h
    refine ⟨c59, ?_⟩
    obtain ⟨b60, e61, h⟩ := h
    refine ⟨b60, e61, ?_⟩
    obtain ⟨b62, e63, h⟩ := h
    refine ⟨b62, e63, ?_⟩
    obtain ⟨c64, h⟩ := h
    refine ⟨c64, ?_⟩
    intro x66 e65
    have h := h x66 e65
    obtain ⟨c67, h⟩ := h
    refine ⟨c67, ?_⟩
    obtain ⟨c68, h⟩ := h
    refine ⟨c68, ?_⟩
    intro x70 e69
    have h := h x70 e69
    have K := kh_I K e69
    obtain ⟨b71, e72, h⟩ := h
    refine ⟨b71, e72, ?_⟩
    obtain ⟨c73, h⟩ := h
    refine ⟨c73, ?_⟩
    obtain ⟨b74, e75, h⟩ := h
    refine ⟨b74, e75, ?_⟩
    obtain ⟨b76, e77, h⟩ := h
    refine ⟨b76, e77, ?_⟩
    obtain ⟨c78, h⟩ := h
    refine ⟨c78, ?_⟩
    intro x80 e79
    have h := h x80 e79
    obtain ⟨c81, h⟩ := h
    refine ⟨c81, ?_⟩
    obtain ⟨c82, h⟩ := h
    refine ⟨c82, ?_⟩
    intro x84 e83
    have h := h x84 e83
    have K := kh_I K e83
    obtain ⟨b85, e86, h⟩ := h
    refine ⟨b85, e86, ?_⟩
    obtain ⟨c87, h⟩ := h
    refine ⟨c87, ?_⟩
    obtain ⟨b88, e89, h⟩ := h
    refine ⟨b88, e89, ?_⟩
    obtain ⟨b90, e91, h⟩ := h
    refine ⟨b90, e91, ?_⟩
    obtain ⟨c92, h⟩ := h
    refine ⟨c92, ?_⟩
    intro x94 e93
    have h := h x94 e93
    obtain ⟨c95, h⟩ := h
    refine ⟨c95, ?_⟩
    obtain ⟨c96, h⟩ := h
    refine ⟨c96, ?_⟩
    intro x98 e97
    have h := h x98 e97
    have K := kh_I K e97
    obtain ⟨b99, e100, h⟩ := h
    refine ⟨b99, e100, ?_⟩
    obtain ⟨c101, h⟩ := h
    refine ⟨c101, ?_⟩
    intro x103 e102
    have h := h x103 e102
    intro x105 e104
    have h := h x105 e104
    intro x107 e106
    have h := h x107 e106
    have K := kh_I K e106
    exact ⟨h, K⟩
  · intro c108
    have h := h.2 c108
    exact ⟨h, K⟩
theorem kh_X11_readRain {Q : HS → Prop} {v0 : Nat} {S : HS} (h : P_X11_readRain v0 Q S) : P_X11_readRain v0 (fun T => Q T ∧ KH S T) S := kh_X11_readRain_0 h (kh_rf S)
set_option maxRecDepth 20000 in
set_option maxHeartbeats 1000000 in
theorem kh_X11_readRoad_85 {Q : HS → Prop} {v0 : Nat} {v1 : Int32} {v2 : Int32} {v3 : Int32} {v4 : Int32} {s0 : Int32} {S0 S : HS} (h : P_X11_readRoad_85 Q v0 v1 v2 v3 v4 s0 S) (K : KH S0 S) : P_X11_readRoad_85 (fun T => Q T ∧ KH S0 T) v0 v1 v2 v3 v4 s0 S := by
  delta P_X11_readRoad_85 at h ⊢
  obtain ⟨c1, h⟩ := h
  refine ⟨c1, ?_⟩
  intro x3 e2
  have h := h x3 e2
  refine ⟨?_, ?_⟩
  · intro c4
    have h := h.1 c4
    obtain ⟨b5, e6, h⟩ := h
    refine ⟨b5, e6, ?_⟩
    obtain ⟨c7, h⟩ := h
    refine ⟨c7, ?_⟩
    intro x9 e8
    have h := h x9 e8
    obtain ⟨b10, e11, h⟩ := h
    refine ⟨b10, e11, ?_⟩
    obtain ⟨c12, h⟩ := h
    refine ⟨c12, ?_⟩
    obtain ⟨b13, e14, h⟩ := h
    refine ⟨b13, e14, ?_⟩
    obtain ⟨c15, h⟩ := h
    refine ⟨c15, ?_⟩
    obtain ⟨c16, h⟩ := h
    refine ⟨c16, ?_⟩
    intro x18 e17
    have h := h x18 e17
    have K := kh_I K e17
    obtain ⟨b19, e20, h⟩ := h
    refine ⟨b19, e20, ?_⟩
    obtain ⟨c21, h⟩ := h
    refine ⟨c21, ?_⟩
    obtain ⟨b22, e23, h⟩ := h
    refine ⟨b22, e23, ?_⟩
    obtain ⟨c24, h⟩ := h
    refine ⟨c24, ?_⟩
    obtain ⟨c25, h⟩ := h
    refine ⟨c25, ?_⟩
    intro x27 e26
    have h := h x27 e26
    have K := kh_I K e26
    obtain ⟨b28, e29, h⟩ := h
    refine ⟨b28, e29, ?_⟩
    obtain ⟨c30, h⟩ := h
    refine ⟨c30, ?_⟩
    obtain ⟨b31, e32, h⟩ := h
    refine ⟨b31, e32, ?_⟩
    obtain ⟨c33, h⟩ := h
    refine ⟨c33, ?_⟩
    obtain ⟨c34, h⟩ := h
    refine ⟨c34, ?_⟩
    intro x36 e35
    have h := h x36 e35
    have K := kh_I K e35
    obtain ⟨b37, e38, h⟩ := h
    refine ⟨b37, e38, ?_⟩
    obtain ⟨c39, h⟩ := h
    refine ⟨c39, ?_⟩
    obtain ⟨b40, e41, h⟩ := h
    refine ⟨b40, e41, ?_⟩
    obtain ⟨c42, h⟩ := h
    refine ⟨c42, ?_⟩
    obtain ⟨c43, h⟩ := h
    refine ⟨c43, ?_⟩
    intro x45 e44
    have h := h x45 e44
    have K := kh_I K e44
    obtain ⟨b46, e47, h⟩ := h
    refine ⟨b46, e47, ?_⟩
    obtain ⟨c48, h⟩ := h
    refine ⟨c48, ?_⟩
    obtain ⟨b49, e50, h⟩ := h
    refine ⟨b49, e50, ?_⟩
    obtain ⟨c51, h⟩ := h
    refine ⟨c51, ?_⟩
    obtain ⟨c52, h⟩ := h
    refine ⟨c52, ?_⟩
    intro x54 e53
    have h := h x54 e53
    have K := kh_I K e53
    obtain ⟨b55, e56, h⟩ := h
    refine ⟨b55, e56, ?_⟩
    obtain ⟨c57, h⟩ := h
    refine ⟨c57, ?_⟩
    intro x59 e58
    have h := h x59 e58
    intro x61 e60
    have h := h x61 e60
    intro x63 e62
    have h := h x63 e62
    have K := kh_I K e62
    exact ⟨h, K⟩
  · intro c64
    have h := h.2 c64
    exact ⟨h, K⟩
set_option maxRecDepth 20000 in
set_option maxHeartbeats 1000000 in
theorem kh_X11_readRoad_62 {Q : HS → Prop} {v0 : Nat} {v1 : Int32} {v2 : Int32} {v3 : Int32} {v4 : Int32} {S0 S : HS} (h : P_X11_readRoad_62 Q v0 v1 v2 v3 v4 S) (K : KH S0 S) : P_X11_readRoad_62 (fun T => Q T ∧ KH S0 T) v0 v1 v2 v3 v4 S := by
  delta P_X11_readRoad_62 at h ⊢
  obtain ⟨c1, h⟩ := h
  refine ⟨c1, ?_⟩
  refine cm_X11_goesOn (kh_X11_goesOn h) h (fun x2 hp h g3 => ?_)
  have h := h g3
  have K := kh_tr K hp.2
  refine cm_X11_eatsWord (kh_X11_eatsWord h) h (fun x4 x5 hp h g6 g7 => ?_)
  have h := h g6 g7
  have K := kh_tr K hp.2
  refine ⟨?_, ?_⟩
  · intro c8
    have h := h.1 c8
    exact kh_X11_readRoad_85 h K
  · intro c9
    have h := h.2 c9
    refine cm_X11_readWhole (kh_X11_readWhole h) h (fun x10 x11 hp h g12 => ?_)
    have h := h g12
    have K := kh_tr K hp.2
    exact kh_X11_readRoad_85 h K
set_option maxRecDepth 20000 in
set_option maxHeartbeats 1000000 in
theorem kh_X11_readRoad_0 {Q : HS → Prop} {v0 : Nat} {S0 S : HS} (h : P_X11_readRoad_0 Q v0 S) (K : KH S0 S) : P_X11_readRoad_0 (fun T => Q T ∧ KH S0 T) v0 S := by
  delta P_X11_readRoad_0 at h ⊢
  obtain ⟨c1, h⟩ := h
  refine ⟨c1, ?_⟩
  obtain ⟨b2, e3, h⟩ := h
  refine ⟨b2, e3, ?_⟩
  obtain ⟨c4, h⟩ := h
  refine ⟨c4, ?_⟩
  intro x6 e5
  have h := h x6 e5
  refine cm_X11_begins (kh_X11_begins h) h (fun x7 hp h g8 => ?_)
  have h := h g8
  have K := kh_tr K hp.2
  refine cm_X11_known (kh_X11_known h) h (fun x9 x10 hp h g11 => ?_)
  have h := h g11
  have K := kh_tr K hp.2
  refine cm_X11_goesOn (kh_X11_goesOn h) h (fun x12 hp h g13 => ?_)
  have h := h g13
  have K := kh_tr K hp.2
  refine cm_X11_readSide (kh_X11_readSide h) h (fun x14 x15 hp h g16 => ?_)
  have h := h g16
  have K := kh_tr K hp.2
  refine cm_X11_readWhole (kh_X11_readWhole h) h (fun x17 x18 hp h g19 => ?_)
  have h := h g19
  have K := kh_tr K hp.2
  refine cm_X11_known (kh_X11_known h) h (fun x20 x21 hp h g22 => ?_)
  have h := h g22
  have K := kh_tr K hp.2
  intro x24 e23
  have h := h x24 e23
  refine ⟨?_, ?_⟩
  · intro c25
    have h := h.1 c25
    exact kh_X11_readRoad_62 h K
  · intro c26
    have h := h.2 c26
    refine ⟨?_, ?_⟩
    · intro c27
      have h := h.1 c27
      exact kh_X11_readRoad_62 h K
    · intro c28
      have h := h.2 c28
      refine cm_X11_flaw (kh_X11_flaw h) h (fun x29 hp h g30 => ?_)
      have h := h g30
      have K := kh_tr K hp.2
      exact kh_X11_readRoad_62 h K
theorem kh_X11_readRoad {Q : HS → Prop} {v0 : Nat} {S : HS} (h : P_X11_readRoad v0 Q S) : P_X11_readRoad v0 (fun T => Q T ∧ KH S T) S := kh_X11_readRoad_0 h (kh_rf S)
set_option maxRecDepth 20000 in
set_option maxHeartbeats 1000000 in
theorem kh_X11_readSeen_47 {Q : HS → Prop} {X24 X24_2 : Nat → Int32 → Int32 → HS → Prop} {v0 : Nat} {v1 : Int32} {v2 : Int32} {S0 S : HS} (h : P_X11_readSeen_47 Q X24 v0 v1 v2 S) (K : KH S0 S) (hX24 : ∀ (u0 : Nat) (u1 : Int32) (u2 : Int32) (u3 : HS), X24 u0 u1 u2 u3 → KH S0 u3 → X24_2 u0 u1 u2 u3) : P_X11_readSeen_47 (fun T => Q T ∧ KH S0 T) X24_2 v0 v1 v2 S := by
  delta P_X11_readSeen_47 at h ⊢
  obtain ⟨c1, h⟩ := h
  refine ⟨c1, ?_⟩
  refine cm_X11_readWhole (kh_X11_readWhole h) h (fun x2 x3 hp h g4 => ?_)
  have h := h g4
  have K := kh_tr K hp.2
  intro x6 e5
  have h := h x6 e5
  refine ⟨?_, ?_⟩
  · intro c7
    have h := h.1 c7
    obtain ⟨b8, e9, h⟩ := h
    refine ⟨b8, e9, ?_⟩
    obtain ⟨c10, h⟩ := h
    refine ⟨c10, ?_⟩
    obtain ⟨b11, e12, h⟩ := h
    refine ⟨b11, e12, ?_⟩
    obtain ⟨b13, e14, h⟩ := h
    refine ⟨b13, e14, ?_⟩
    obtain ⟨c15, h⟩ := h
    refine ⟨c15, ?_⟩
    intro x17 e16
    have h := h x17 e16
    obtain ⟨c18, h⟩ := h
    refine ⟨c18, ?_⟩
    obtain ⟨c19, h⟩ := h
    refine ⟨c19, ?_⟩
    intro x21 e20
    have h := h x21 e20
    have K := kh_I K e20
    intro x23 e22
    have h := h x23 e22
    exact hX24 _ _ _ _ h K
  · intro c24
    have h := h.2 c24
    exact ⟨h, K⟩
set_option maxRecDepth 20000 in
set_option maxHeartbeats 1000000 in
theorem khB_X11_readSeen_24 {Q : HS → Prop} {X24 X24_2 : Nat → Int32 → Int32 → HS → Prop} {v0 : Nat} {v1 : Int32} {v2 : Int32} {S0 S : HS} (h : B_X11_readSeen_24 Q X24 v0 v1 v2 S) (K : KH S0 S) (hX24 : ∀ (u0 : Nat) (u1 : Int32) (u2 : Int32) (u3 : HS), X24 u0 u1 u2 u3 → KH S0 u3 → X24_2 u0 u1 u2 u3) : B_X11_readSeen_24 (fun T => Q T ∧ KH S0 T) X24_2 v0 v1 v2 S := by
  delta B_X11_readSeen_24 at h ⊢
  refine ⟨?_, ?_⟩
  · intro c1
    have h := h.1 c1
    obtain ⟨c2, h⟩ := h
    refine ⟨c2, ?_⟩
    obtain ⟨b3, e4, h⟩ := h
    refine ⟨b3, e4, ?_⟩
    obtain ⟨c5, h⟩ := h
    refine ⟨c5, ?_⟩
    obtain ⟨b6, e7, h⟩ := h
    refine ⟨b6, e7, ?_⟩
    obtain ⟨b8, e9, h⟩ := h
    refine ⟨b8, e9, ?_⟩
    obtain ⟨c10, h⟩ := h
    refine ⟨c10, ?_⟩
    intro x12 e11
    have h := h x12 e11
    obtain ⟨c13, h⟩ := h
    refine ⟨c13, ?_⟩
    obtain ⟨c14, h⟩ := h
    refine ⟨c14, ?_⟩
    intro x16 e15
    have h := h x16 e15
    have K := kh_I K e15
    obtain ⟨b17, e18, h⟩ := h
    refine ⟨b17, e18, ?_⟩
    obtain ⟨c19, h⟩ := h
    refine ⟨c19, ?_⟩
    intro x21 e20
    have h := h x21 e20
    intro x23 e22
    have h := h x23 e22
    intro x25 e24
    have h := h x25 e24
    have K := kh_I K e24
    exact ⟨h, K⟩
  · intro c26
    have h := h.2 c26
    refine ⟨?_, ?_⟩
    · intro c27
      have h := h.1 c27
      exact kh_X11_readSeen_47 h K hX24
    · intro c28
      have h := h.2 c28
      obtain ⟨c29, h⟩ := h
      refine ⟨c29, ?_⟩
      refine cm_X11_eatsSign (kh_X11_eatsSign h) h (fun x30 x31 hp h g32 g33 => ?_)
      have h := h g32 g33
      have K := kh_tr K hp.2
      refine ⟨?_, ?_⟩
      · intro c34
        have h := h.1 c34
        exact kh_X11_readSeen_47 h K hX24
      · intro c35
        have h := h.2 c35
        refine cm_X11_flaw (kh_X11_flaw h) h (fun x36 hp h g37 => ?_)
        have h := h g37
        have K := kh_tr K hp.2
        exact kh_X11_readSeen_47 h K hX24
theorem kh_X11_readSeen_24 {Q : HS → Prop} {v0 : Nat} {v1 : Int32} {v2 : Int32} {S0 S : HS} (h : P_X11_readSeen_24 Q v0 v1 v2 S) (K : KH S0 S) : P_X11_readSeen_24 (fun T => Q T ∧ KH S0 T) v0 v1 v2 S := h (fun v0 v1 v2 S => KH S0 S → P_X11_readSeen_24 (fun T => Q T ∧ KH S0 T) v0 v1 v2 S) (fun v0 v1 v2 S hB K => fd_X11_readSeen_24 (khB_X11_readSeen_24 hB K (fun _ _ _ _ hx K => hx K))) K
set_option maxRecDepth 20000 in
set_option maxHeartbeats 1000000 in
theorem kh_X11_readSeen_0 {Q : HS → Prop} {v0 : Nat} {S0 S : HS} (h : P_X11_readSeen_0 Q v0 S) (K : KH S0 S) : P_X11_readSeen_0 (fun T => Q T ∧ KH S0 T) v0 S := by
  delta P_X11_readSeen_0 at h ⊢
  obtain ⟨c1, h⟩ := h
  refine ⟨c1, ?_⟩
  obtain ⟨b2, e3, h⟩ := h
  refine ⟨b2, e3, ?_⟩
  obtain ⟨c4, h⟩ := h
  refine ⟨c4, ?_⟩
  intro x6 e5
  have h := h x6 e5
  refine cm_X11_begins (kh_X11_begins h) h (fun x7 hp h g8 => ?_)
  have h := h g8
  have K := kh_tr K hp.2
  refine cm_X11_known (kh_X11_known h) h (fun x9 x10 hp h g11 => ?_)
  have h := h g11
  have K := kh_tr K hp.2
  refine cm_X11_goesOn (kh_X11_goesOn h) h (fun x12 hp h g13 => ?_)
  have h := h g13
  have K := kh_tr K hp.2
  exact kh_X11_readSeen_24 h K
theorem kh_X11_readSeen {Q : HS → Prop} {v0 : Nat} {S : HS} (h : P_X11_readSeen v0 Q S) : P_X11_readSeen v0 (fun T => Q T ∧ KH S T) S := kh_X11_readSeen_0 h (kh_rf S)
set_option maxRecDepth 20000 in
set_option maxHeartbeats 1000000 in
theorem kh_X11_readWalker_149 {Q : HS → Prop} {v0 : Nat} {v1 : Int64} {v3 : Int32} {v4 : Int32} {s0 : Int32} {S0 S : HS} (h : P_X11_readWalker_149 Q v0 v1 v3 v4 s0 S) (K : KH S0 S) : P_X11_readWalker_149 (fun T => Q T ∧ KH S0 T) v0 v1 v3 v4 s0 S := by
  delta P_X11_readWalker_149 at h ⊢
  obtain ⟨c1, h⟩ := h
  refine ⟨c1, ?_⟩
  refine cm_X11_readPart (kh_X11_readPart h) h (fun x2 x3 hp h g4 => ?_)
  have h := h g4
  have K := kh_tr K hp.2
  refine cm_X11_readPart (kh_X11_readPart h) h (fun x5 x6 hp h g7 => ?_)
  have h := h g7
  have K := kh_tr K hp.2
  refine cm_X11_readPart (kh_X11_readPart h) h (fun x8 x9 hp h g10 => ?_)
  have h := h g10
  have K := kh_tr K hp.2
  refine cm_X11_readPart (kh_X11_readPart h) h (fun x11 x12 hp h g13 => ?_)
  have h := h g13
  have K := kh_tr K hp.2
  refine cm_X11_readPart (kh_X11_readPart h) h (fun x14 x15 hp h g16 => ?_)
  have h := h g16
  have K := kh_tr K hp.2
  intro x18 e17
  have h := h x18 e17
  refine ⟨?_, ?_⟩
  · intro c19
    have h := h.1 c19
    obtain ⟨b20, e21, h⟩ := h
    refine ⟨b20, e21, ?_⟩
    obtain ⟨c22, h⟩ := h
    refine ⟨c22, ?_⟩
    intro x24 e23
    have h := h x24 e23
    refine cm_X11_names (kh_X11_names h) h (fun x25 hp h g26 => ?_)
    have h := h g26
    have K := kh_tr K hp.2
    obtain ⟨b27, e28, h⟩ := h
    refine ⟨b27, e28, ?_⟩
    obtain ⟨c29, h⟩ := h
    refine ⟨c29, ?_⟩
    obtain ⟨b30, e31, h⟩ := h
    refine ⟨b30, e31, ?_⟩
    obtain ⟨c32, h⟩ := h
    refine ⟨c32, ?_⟩
    obtain ⟨c33, h⟩ := h
    refine ⟨c33, ?_⟩
    intro x35 e34
    have h := h x35 e34
    have K := kh_I K e34
    obtain ⟨b36, e37, h⟩ := h
    refine ⟨b36, e37, ?_⟩
    obtain ⟨c38, h⟩ := h
    refine ⟨c38, ?_⟩
    obtain ⟨b39, e40, h⟩ := h
    refine ⟨b39, e40, ?_⟩
    obtain ⟨c41, h⟩ := h
    refine ⟨c41, ?_⟩
    obtain ⟨c42, h⟩ := h
    refine ⟨c42, ?_⟩
    intro x44 e43
    have h := h x44 e43
    have K := kh_I K e43
    obtain ⟨b45, e46, h⟩ := h
    refine ⟨b45, e46, ?_⟩
    obtain ⟨c47, h⟩ := h
    refine ⟨c47, ?_⟩
    obtain ⟨b48, e49, h⟩ := h
    refine ⟨b48, e49, ?_⟩
    obtain ⟨c50, h⟩ := h
    refine ⟨c50, ?_⟩
    intro x52 e51
    have h := h x52 e51
    obtain ⟨c53, h⟩ := h
    refine ⟨c53, ?_⟩
    intro x55 e54
    have h := h x55 e54
    have K := kh_I K e54
    obtain ⟨b56, e57, h⟩ := h
    refine ⟨b56, e57, ?_⟩
    obtain ⟨c58, h⟩ := h
    refine ⟨c58, ?_⟩
    obtain ⟨b59, e60, h⟩ := h
    refine ⟨b59, e60, ?_⟩
    obtain ⟨c61, h⟩ := h
    refine ⟨c61, ?_⟩
    intro x63 e62
    have h := h x63 e62
    obtain ⟨c64, h⟩ := h
    refine ⟨c64, ?_⟩
    intro x66 e65
    have h := h x66 e65
    have K := kh_I K e65
    obtain ⟨b67, e68, h⟩ := h
    refine ⟨b67, e68, ?_⟩
    obtain ⟨c69, h⟩ := h
    refine ⟨c69, ?_⟩
    obtain ⟨b70, e71, h⟩ := h
    refine ⟨b70, e71, ?_⟩
    obtain ⟨c72, h⟩ := h
    refine ⟨c72, ?_⟩
    intro x74 e73
    have h := h x74 e73
    obtain ⟨c75, h⟩ := h
    refine ⟨c75, ?_⟩
    intro x77 e76
    have h := h x77 e76
    have K := kh_I K e76
    obtain ⟨b78, e79, h⟩ := h
    refine ⟨b78, e79, ?_⟩
    obtain ⟨c80, h⟩ := h
    refine ⟨c80, ?_⟩
    obtain ⟨b81, e82, h⟩ := h
    refine ⟨b81, e82, ?_⟩
    obtain ⟨c83, h⟩ := h
    refine ⟨c83, ?_⟩
    obtain ⟨c84, h⟩ := h
    refine ⟨c84, ?_⟩
    intro x86 e85
    have h := h x86 e85
    have K := kh_I K e85
    obtain ⟨b87, e88, h⟩ := h
    refine ⟨b87, e88, ?_⟩
    obtain ⟨c89, h⟩ := h
    refine ⟨c89, ?_⟩
    obtain ⟨b90, e91, h⟩ := h
    refine ⟨b90, e91, ?_⟩
    obtain ⟨c92, h⟩ := h
    refine ⟨c92, ?_⟩
    obtain ⟨c93, h⟩ := h
    refine ⟨c93, ?_⟩
    intro x95 e94
    have h := h x95 e94
    have K := kh_I K e94
    obtain ⟨b96, e97, h⟩ := h
    refine ⟨b96, e97, ?_⟩
    obtain ⟨c98, h⟩ := h
    refine ⟨c98, ?_⟩
    intro x100 e99
    have h := h x100 e99
    intro x102 e101
    have h := h x102 e101
    intro x104 e103
    have h := h x104 e103
    have K := kh_I K e103
    exact ⟨h, K⟩
  · intro c105
    have h := h.2 c105
    exact ⟨h, K⟩
set_option maxRecDepth 20000 in
set_option maxHeartbeats 1000000 in
theorem kh_X11_readWalker_136 {Q : HS → Prop} {v0 : Nat} {v1 : Int64} {v3 : Int32} {s0 : Int32} {S0 S : HS} (h : P_X11_readWalker_136 Q v0 v1 v3 s0 S) (K : KH S0 S) : P_X11_readWalker_136 (fun T => Q T ∧ KH S0 T) v0 v1 v3 s0 S := by
  delta P_X11_readWalker_136 at h ⊢
  refine ⟨?_, ?_⟩
  · intro c1
    have h := h.1 c1
    exact kh_X11_readWalker_149 h K
  · intro c2
    have h := h.2 c2
    exact kh_X11_readWalker_149 h K
set_option maxRecDepth 20000 in
set_option maxHeartbeats 1000000 in
theorem kh_X11_readWalker_85 {Q : HS → Prop} {v0 : Nat} {v1 : Int64} {v3 : Int32} {S0 S : HS} (h : P_X11_readWalker_85 Q v0 v1 v3 S) (K : KH S0 S) : P_X11_readWalker_85 (fun T => Q T ∧ KH S0 T) v0 v1 v3 S := by
  delta P_X11_readWalker_85 at h ⊢
  obtain ⟨c1, h⟩ := h
  refine ⟨c1, ?_⟩
  refine cm_X11_goesOn (kh_X11_goesOn h) h (fun x2 hp h g3 => ?_)
  have h := h g3
  have K := kh_tr K hp.2
  refine ⟨?_, ?_⟩
  · intro c4
    have h := h.1 c4
    refine ⟨?_, ?_⟩
    · intro c5
      have h := h.1 c5
      refine ⟨?_, ?_⟩
      · intro c6
        have h := h.1 c6
        exact kh_X11_readWalker_136 h K
      · intro c7
        have h := h.2 c7
        refine cm_X11_readWhole (kh_X11_readWhole h) h (fun x8 x9 hp h g10 => ?_)
        have h := h g10
        have K := kh_tr K hp.2
        exact kh_X11_readWalker_136 h K
    · intro c11
      have h := h.2 c11
      refine cm_X11_readWhole (kh_X11_readWhole h) h (fun x12 x13 hp h g14 => ?_)
      have h := h g14
      have K := kh_tr K hp.2
      exact kh_X11_readWalker_136 h K
  · intro c15
    have h := h.2 c15
    refine cm_X11_readWhole (kh_X11_readWhole h) h (fun x16 x17 hp h g18 => ?_)
    have h := h g18
    have K := kh_tr K hp.2
    exact kh_X11_readWalker_136 h K
set_option maxRecDepth 20000 in
set_option maxHeartbeats 1000000 in
theorem kh_X11_readWalker_74 {Q : HS → Prop} {v0 : Nat} {v1 : Int64} {s0 : Int32} {S0 S : HS} (h : P_X11_readWalker_74 Q v0 v1 s0 S) (K : KH S0 S) : P_X11_readWalker_74 (fun T => Q T ∧ KH S0 T) v0 v1 s0 S := by
  delta P_X11_readWalker_74 at h ⊢
  refine ⟨?_, ?_⟩
  · intro c1
    have h := h.1 c1
    exact kh_X11_readWalker_85 h K
  · intro c2
    have h := h.2 c2
    obtain ⟨c3, h⟩ := h
    refine ⟨c3, ?_⟩
    refine cm_X11_flaw (kh_X11_flaw h) h (fun x4 hp h g5 => ?_)
    have h := h g5
    have K := kh_tr K hp.2
    exact kh_X11_readWalker_85 h K
set_option maxRecDepth 20000 in
set_option maxHeartbeats 1000000 in
theorem kh_X11_readWalker_0 {Q : HS → Prop} {v0 : Nat} {S0 S : HS} (h : P_X11_readWalker_0 Q v0 S) (K : KH S0 S) : P_X11_readWalker_0 (fun T => Q T ∧ KH S0 T) v0 S := by
  delta P_X11_readWalker_0 at h ⊢
  obtain ⟨c1, h⟩ := h
  refine ⟨c1, ?_⟩
  obtain ⟨b2, e3, h⟩ := h
  refine ⟨b2, e3, ?_⟩
  obtain ⟨c4, h⟩ := h
  refine ⟨c4, ?_⟩
  intro x6 e5
  have h := h x6 e5
  refine cm_X11_begins (kh_X11_begins h) h (fun x7 hp h g8 => ?_)
  have h := h g8
  have K := kh_tr K hp.2
  refine cm_X11_readFresh (kh_X11_readFresh h) h (fun x9 x10 hp h g11 => ?_)
  have h := h g11
  have K := kh_tr K hp.2
  refine cm_X11_isWord (kh_X11_isWord h) h (fun x12 x13 hp h g14 g15 => ?_)
  have h := h g14 g15
  have K := kh_tr K hp.2
  refine ⟨?_, ?_⟩
  · intro c16
    have h := h.1 c16
    refine cm_X11_isWord (kh_X11_isWord h) h (fun x17 x18 hp h g19 g20 => ?_)
    have h := h g19 g20
    have K := kh_tr K hp.2
    refine ⟨?_, ?_⟩
    · intro c21
      have h := h.1 c21
      refine cm_X11_isWord (kh_X11_isWord h) h (fun x22 x23 hp h g24 g25 => ?_)
      have h := h g24 g25
      have K := kh_tr K hp.2
      refine ⟨?_, ?_⟩
      · intro c26
        have h := h.1 c26
        refine cm_X11_isWord (kh_X11_isWord h) h (fun x27 x28 hp h g29 g30 => ?_)
        have h := h g29 g30
        have K := kh_tr K hp.2
        refine ⟨?_, ?_⟩
        · intro c31
          have h := h.1 c31
          exact kh_X11_readWalker_74 h K
        · intro c32
          have h := h.2 c32
          exact kh_X11_readWalker_74 h K
      · intro c33
        have h := h.2 c33
        exact kh_X11_readWalker_74 h K
    · intro c34
      have h := h.2 c34
      exact kh_X11_readWalker_74 h K
  · intro c35
    have h := h.2 c35
    exact kh_X11_readWalker_74 h K
theorem kh_X11_readWalker {Q : HS → Prop} {v0 : Nat} {S : HS} (h : P_X11_readWalker v0 Q S) : P_X11_readWalker v0 (fun T => Q T ∧ KH S T) S := kh_X11_readWalker_0 h (kh_rf S)
set_option maxRecDepth 20000 in
set_option maxHeartbeats 1000000 in
theorem kh_X11_readWorld_15 {Q : HS → Prop} {v0 : Nat} {S0 S : HS} (h : P_X11_readWorld_15 Q v0 S) (K : KH S0 S) : P_X11_readWorld_15 (fun T => Q T ∧ KH S0 T) v0 S := by
  delta P_X11_readWorld_15 at h ⊢
  obtain ⟨c1, h⟩ := h
  refine ⟨c1, ?_⟩
  refine cm_X11_goesOn (kh_X11_goesOn h) h (fun x2 hp h g3 => ?_)
  have h := h g3
  have K := kh_tr K hp.2
  refine cm_X11_readPart (kh_X11_readPart h) h (fun x4 x5 hp h g6 => ?_)
  have h := h g6
  have K := kh_tr K hp.2
  intro x8 e7
  have h := h x8 e7
  refine ⟨?_, ?_⟩
  · intro c9
    have h := h.1 c9
    exact ⟨h, K⟩
  · intro c10
    have h := h.2 c10
    obtain ⟨b11, e12, h⟩ := h
    refine ⟨b11, e12, ?_⟩
    obtain ⟨c13, h⟩ := h
    refine ⟨c13, ?_⟩
    intro x15 e14
    have h := h x15 e14
    have K := kh_I K e14
    exact ⟨h, K⟩
set_option maxRecDepth 20000 in
set_option maxHeartbeats 1000000 in
theorem kh_X11_readWorld_0 {Q : HS → Prop} {v0 : Nat} {S0 S : HS} (h : P_X11_readWorld_0 Q v0 S) (K : KH S0 S) : P_X11_readWorld_0 (fun T => Q T ∧ KH S0 T) v0 S := by
  delta P_X11_readWorld_0 at h ⊢
  obtain ⟨c1, h⟩ := h
  refine ⟨c1, ?_⟩
  obtain ⟨b2, e3, h⟩ := h
  refine ⟨b2, e3, ?_⟩
  obtain ⟨c4, h⟩ := h
  refine ⟨c4, ?_⟩
  intro x6 e5
  have h := h x6 e5
  refine ⟨?_, ?_⟩
  · intro c7
    have h := h.1 c7
    exact kh_X11_readWorld_15 h K
  · intro c8
    have h := h.2 c8
    refine cm_X11_flaw (kh_X11_flaw h) h (fun x9 hp h g10 => ?_)
    have h := h g10
    have K := kh_tr K hp.2
    exact kh_X11_readWorld_15 h K
theorem kh_X11_readWorld {Q : HS → Prop} {v0 : Nat} {S : HS} (h : P_X11_readWorld v0 Q S) : P_X11_readWorld v0 (fun T => Q T ∧ KH S T) S := kh_X11_readWorld_0 h (kh_rf S)
set_option maxRecDepth 20000 in
set_option maxHeartbeats 1000000 in
theorem kh_X11_readLine_0 {Q : HS → Prop} {v0 : Nat} {S0 S : HS} (h : P_X11_readLine_0 Q v0 S) (K : KH S0 S) : P_X11_readLine_0 (fun T => Q T ∧ KH S0 T) v0 S := by
  delta P_X11_readLine_0 at h ⊢
  obtain ⟨c1, h⟩ := h
  refine ⟨c1, ?_⟩
  refine cm_X11_isWord (kh_X11_isWord h) h (fun x2 x3 hp h g4 g5 => ?_)
  have h := h g4 g5
  have K := kh_tr K hp.2
  refine ⟨?_, ?_⟩
  · intro c6
    have h := h.1 c6
    refine cm_X11_isWord (kh_X11_isWord h) h (fun x7 x8 hp h g9 g10 => ?_)
    have h := h g9 g10
    have K := kh_tr K hp.2
    refine ⟨?_, ?_⟩
    · intro c11
      have h := h.1 c11
      refine cm_X11_isWord (kh_X11_isWord h) h (fun x12 x13 hp h g14 g15 => ?_)
      have h := h g14 g15
      have K := kh_tr K hp.2
      refine ⟨?_, ?_⟩
      · intro c16
        have h := h.1 c16
        refine cm_X11_isWord (kh_X11_isWord h) h (fun x17 x18 hp h g19 g20 => ?_)
        have h := h g19 g20
        have K := kh_tr K hp.2
        refine ⟨?_, ?_⟩
        · intro c21
          have h := h.1 c21
          refine cm_X11_isWord (kh_X11_isWord h) h (fun x22 x23 hp h g24 g25 => ?_)
          have h := h g24 g25
          have K := kh_tr K hp.2
          refine ⟨?_, ?_⟩
          · intro c26
            have h := h.1 c26
            refine cm_X11_isWord (kh_X11_isWord h) h (fun x27 x28 hp h g29 g30 => ?_)
            have h := h g29 g30
            have K := kh_tr K hp.2
            refine ⟨?_, ?_⟩
            · intro c31
              have h := h.1 c31
              refine cm_X11_flaw (kh_X11_flaw h) h (fun x32 hp h g33 => ?_)
              have h := h g33
              have K := kh_tr K hp.2
              exact ⟨h, K⟩
            · intro c34
              have h := h.2 c34
              refine cm_X11_readSeen (kh_X11_readSeen h) h (fun x35 hp h g36 => ?_)
              have h := h g36
              have K := kh_tr K hp.2
              exact ⟨h, K⟩
          · intro c37
            have h := h.2 c37
            refine cm_X11_readWalker (kh_X11_readWalker h) h (fun x38 hp h g39 => ?_)
            have h := h g39
            have K := kh_tr K hp.2
            exact ⟨h, K⟩
        · intro c40
          have h := h.2 c40
          refine cm_X11_readRoad (kh_X11_readRoad h) h (fun x41 hp h g42 => ?_)
          have h := h g42
          have K := kh_tr K hp.2
          exact ⟨h, K⟩
      · intro c43
        have h := h.2 c43
        refine cm_X11_readPlace (kh_X11_readPlace h) h (fun x44 hp h g45 => ?_)
        have h := h g45
        have K := kh_tr K hp.2
        exact ⟨h, K⟩
    · intro c46
      have h := h.2 c46
      refine cm_X11_readRain (kh_X11_readRain h) h (fun x47 hp h g48 => ?_)
      have h := h g48
      have K := kh_tr K hp.2
      exact ⟨h, K⟩
  · intro c49
    have h := h.2 c49
    refine cm_X11_readWorld (kh_X11_readWorld h) h (fun x50 hp h g51 => ?_)
    have h := h g51
    have K := kh_tr K hp.2
    exact ⟨h, K⟩
theorem kh_X11_readLine {Q : HS → Prop} {v0 : Nat} {S : HS} (h : P_X11_readLine v0 Q S) : P_X11_readLine v0 (fun T => Q T ∧ KH S T) S := kh_X11_readLine_0 h (kh_rf S)
set_option maxRecDepth 20000 in
set_option maxHeartbeats 1000000 in
theorem kh_X11_readAll_63 {Q : HS → Prop} {v0 : Nat} {S0 S : HS} (h : P_X11_readAll_63 Q v0 S) (K : KH S0 S) : P_X11_readAll_63 (fun T => Q T ∧ KH S0 T) v0 S := by
  delta P_X11_readAll_63 at h ⊢
  obtain ⟨c1, h⟩ := h
  refine ⟨c1, ?_⟩
  refine cm_X11_flaw (kh_X11_flaw h) h (fun x2 hp h g3 => ?_)
  have h := h g3
  have K := kh_tr K hp.2
  exact ⟨h, K⟩
set_option maxRecDepth 20000 in
set_option maxHeartbeats 1000000 in
theorem kh_X11_readAll_33 {Q : HS → Prop} {v0 : Nat} {S0 S : HS} (h : P_X11_readAll_33 Q v0 S) (K : KH S0 S) : P_X11_readAll_33 (fun T => Q T ∧ KH S0 T) v0 S := by
  delta P_X11_readAll_33 at h ⊢
  obtain ⟨c1, h⟩ := h
  refine ⟨c1, ?_⟩
  obtain ⟨b2, e3, h⟩ := h
  refine ⟨b2, e3, ?_⟩
  obtain ⟨c4, h⟩ := h
  refine ⟨c4, ?_⟩
  intro x6 e5
  have h := h x6 e5
  refine ⟨?_, ?_⟩
  · intro c7
    have h := h.1 c7
    exact kh_X11_readAll_63 h K
  · intro c8
    have h := h.2 c8
    obtain ⟨b9, e10, h⟩ := h
    refine ⟨b9, e10, ?_⟩
    obtain ⟨c11, h⟩ := h
    refine ⟨c11, ?_⟩
    intro x13 e12
    have h := h x13 e12
    refine ⟨?_, ?_⟩
    · intro c14
      have h := h.1 c14
      exact kh_X11_readAll_63 h K
    · intro c15
      have h := h.2 c15
      obtain ⟨b16, e17, h⟩ := h
      refine ⟨b16, e17, ?_⟩
      obtain ⟨c18, h⟩ := h
      refine ⟨c18, ?_⟩
      intro x20 e19
      have h := h x20 e19
      refine ⟨?_, ?_⟩
      · intro c21
        have h := h.1 c21
        exact ⟨h, K⟩
      · intro c22
        have h := h.2 c22
        exact kh_X11_readAll_63 h K
set_option maxRecDepth 20000 in
set_option maxHeartbeats 1000000 in
theorem khB_X11_readAll_2 {Q : HS → Prop} {X2 X2_2 : Nat → Int32 → HS → Prop} {v0 : Nat} {v1 : Int32} {S0 S : HS} (h : B_X11_readAll_2 Q X2 v0 v1 S) (K : KH S0 S) (hX2 : ∀ (u0 : Nat) (u1 : Int32) (u2 : HS), X2 u0 u1 u2 → KH S0 u2 → X2_2 u0 u1 u2) : B_X11_readAll_2 (fun T => Q T ∧ KH S0 T) X2_2 v0 v1 S := by
  delta B_X11_readAll_2 at h ⊢
  refine ⟨?_, ?_⟩
  · intro c1
    have h := h.1 c1
    obtain ⟨c2, h⟩ := h
    refine ⟨c2, ?_⟩
    intro x4 e3
    have h := h x4 e3
    refine ⟨?_, ?_⟩
    · intro c5
      have h := h.1 c5
      exact kh_X11_readAll_33 h K
    · intro c6
      have h := h.2 c6
      refine cm_X11_flaw (kh_X11_flaw h) h (fun x7 hp h g8 => ?_)
      have h := h g8
      have K := kh_tr K hp.2
      exact kh_X11_readAll_33 h K
  · intro c9
    have h := h.2 c9
    obtain ⟨c10, h⟩ := h
    refine ⟨c10, ?_⟩
    refine cm_X11_readLine (kh_X11_readLine h) h (fun x11 hp h g12 => ?_)
    have h := h g12
    have K := kh_tr K hp.2
    refine cm_X11_eatsSign (kh_X11_eatsSign h) h (fun x13 x14 hp h g15 g16 => ?_)
    have h := h g15 g16
    have K := kh_tr K hp.2
    exact hX2 _ _ _ h K
theorem kh_X11_readAll_2 {Q : HS → Prop} {v0 : Nat} {v1 : Int32} {S0 S : HS} (h : P_X11_readAll_2 Q v0 v1 S) (K : KH S0 S) : P_X11_readAll_2 (fun T => Q T ∧ KH S0 T) v0 v1 S := h (fun v0 v1 S => KH S0 S → P_X11_readAll_2 (fun T => Q T ∧ KH S0 T) v0 v1 S) (fun v0 v1 S hB K => fd_X11_readAll_2 (khB_X11_readAll_2 hB K (fun _ _ _ hx K => hx K))) K
set_option maxRecDepth 20000 in
set_option maxHeartbeats 1000000 in
theorem kh_X11_readAll_0 {Q : HS → Prop} {v0 : Nat} {S0 S : HS} (h : P_X11_readAll_0 Q v0 S) (K : KH S0 S) : P_X11_readAll_0 (fun T => Q T ∧ KH S0 T) v0 S := by
  delta P_X11_readAll_0 at h ⊢
  exact kh_X11_readAll_2 h K
theorem kh_X11_readAll {Q : HS → Prop} {v0 : Nat} {S : HS} (h : P_X11_readAll v0 Q S) : P_X11_readAll v0 (fun T => Q T ∧ KH S T) S := kh_X11_readAll_0 h (kh_rf S)
set_option maxRecDepth 20000 in
set_option maxHeartbeats 1000000 in
theorem kh_X11_road_22 {Q : Int32 → HS → Prop} {v0 : Nat} {S0 S : HS} (h : P_X11_road_22 Q v0 S) (K : KH S0 S) : P_X11_road_22 (fun r T => Q r T ∧ KH S0 T) v0 S := by
  delta P_X11_road_22 at h ⊢
  obtain ⟨c1, h⟩ := h
  refine ⟨c1, ?_⟩
  refine cm_X11_refused (kh_X11_refused h) h (fun x2 x3 hp h g4 => ?_)
  have h := h g4
  have K := kh_tr K hp.2
  exact ⟨h, K⟩
set_option maxRecDepth 20000 in
set_option maxHeartbeats 1000000 in
theorem kh_X11_road_0 {Q : Int32 → HS → Prop} {v0 : Nat} {v1 : Int32} {v2 : Int32} {S0 S : HS} (h : P_X11_road_0 Q v0 v1 v2 S) (K : KH S0 S) : P_X11_road_0 (fun r T => Q r T ∧ KH S0 T) v0 v1 v2 S := by
  delta P_X11_road_0 at h ⊢
  obtain ⟨c1, h⟩ := h
  refine ⟨c1, ?_⟩
  intro x3 e2
  have h := h x3 e2
  have K := kh_I K e2
  refine cm_X11_isRoad (kh_X11_isRoad h) h (fun x4 x5 hp h g6 g7 => ?_)
  have h := h g6 g7
  have K := kh_tr K hp.2
  refine ⟨?_, ?_⟩
  · intro c8
    have h := h.1 c8
    exact kh_X11_road_22 h K
  · intro c9
    have h := h.2 c9
    refine cm_X11_in (kh_X11_in h) h (fun x10 x11 hp h g12 g13 => ?_)
    have h := h g12 g13
    have K := kh_tr K hp.2
    refine ⟨?_, ?_⟩
    · intro c14
      have h := h.1 c14
      refine ⟨?_, ?_, ?_, ?_, ?_⟩
      · intro c15
        have h := h.1 c15
        obtain ⟨b16, e17, h⟩ := h
        refine ⟨b16, e17, ?_⟩
        obtain ⟨c18, h⟩ := h
        refine ⟨c18, ?_⟩
        obtain ⟨b19, e20, h⟩ := h
        refine ⟨b19, e20, ?_⟩
        obtain ⟨c21, h⟩ := h
        refine ⟨c21, ?_⟩
        obtain ⟨c22, h⟩ := h
        refine ⟨c22, ?_⟩
        intro x24 e23
        have h := h x24 e23
        refine cm_X11_good (kh_X11_good h) h (fun x25 x26 hp h g27 => ?_)
        have h := h g27
        have K := kh_tr K hp.2
        exact ⟨h, K⟩
      · intro c28
        have h := h.2.1 c28
        obtain ⟨b29, e30, h⟩ := h
        refine ⟨b29, e30, ?_⟩
        obtain ⟨c31, h⟩ := h
        refine ⟨c31, ?_⟩
        obtain ⟨b32, e33, h⟩ := h
        refine ⟨b32, e33, ?_⟩
        obtain ⟨c34, h⟩ := h
        refine ⟨c34, ?_⟩
        obtain ⟨c35, h⟩ := h
        refine ⟨c35, ?_⟩
        intro x37 e36
        have h := h x37 e36
        refine cm_X11_good (kh_X11_good h) h (fun x38 x39 hp h g40 => ?_)
        have h := h g40
        have K := kh_tr K hp.2
        exact ⟨h, K⟩
      · intro c41
        have h := h.2.2.1 c41
        obtain ⟨b42, e43, h⟩ := h
        refine ⟨b42, e43, ?_⟩
        obtain ⟨c44, h⟩ := h
        refine ⟨c44, ?_⟩
        obtain ⟨b45, e46, h⟩ := h
        refine ⟨b45, e46, ?_⟩
        obtain ⟨c47, h⟩ := h
        refine ⟨c47, ?_⟩
        obtain ⟨c48, h⟩ := h
        refine ⟨c48, ?_⟩
        intro x50 e49
        have h := h x50 e49
        refine cm_X11_good (kh_X11_good h) h (fun x51 x52 hp h g53 => ?_)
        have h := h g53
        have K := kh_tr K hp.2
        exact ⟨h, K⟩
      · intro c54
        have h := h.2.2.2.1 c54
        obtain ⟨b55, e56, h⟩ := h
        refine ⟨b55, e56, ?_⟩
        obtain ⟨c57, h⟩ := h
        refine ⟨c57, ?_⟩
        obtain ⟨b58, e59, h⟩ := h
        refine ⟨b58, e59, ?_⟩
        obtain ⟨c60, h⟩ := h
        refine ⟨c60, ?_⟩
        obtain ⟨c61, h⟩ := h
        refine ⟨c61, ?_⟩
        intro x63 e62
        have h := h x63 e62
        refine cm_X11_good (kh_X11_good h) h (fun x64 x65 hp h g66 => ?_)
        have h := h g66
        have K := kh_tr K hp.2
        exact ⟨h, K⟩
      · intro c67
        have h := h.2.2.2.2 c67
        obtain ⟨b68, e69, h⟩ := h
        refine ⟨b68, e69, ?_⟩
        obtain ⟨c70, h⟩ := h
        refine ⟨c70, ?_⟩
        obtain ⟨b71, e72, h⟩ := h
        refine ⟨b71, e72, ?_⟩
        obtain ⟨c73, h⟩ := h
        refine ⟨c73, ?_⟩
        obtain ⟨c74, h⟩ := h
        refine ⟨c74, ?_⟩
        intro x76 e75
        have h := h x76 e75
        refine cm_X11_good (kh_X11_good h) h (fun x77 x78 hp h g79 => ?_)
        have h := h g79
        have K := kh_tr K hp.2
        exact ⟨h, K⟩
    · intro c80
      have h := h.2 c80
      exact kh_X11_road_22 h K
theorem kh_X11_road {Q : Int32 → HS → Prop} {v0 : Nat} {v1 : Int32} {v2 : Int32} {S : HS} (h : P_X11_road v0 v1 v2 Q S) : P_X11_road v0 v1 v2 (fun r T => Q r T ∧ KH S T) S := kh_X11_road_0 h (kh_rf S)
set_option maxRecDepth 20000 in
set_option maxHeartbeats 1000000 in
theorem kh_X11_round_29 {Q : Int64 → HS → Prop} {v0 : Nat} {S0 S : HS} (h : P_X11_round_29 Q v0 S) (K : KH S0 S) : P_X11_round_29 (fun r T => Q r T ∧ KH S0 T) v0 S := by
  delta P_X11_round_29 at h ⊢
  obtain ⟨c1, h⟩ := h
  refine ⟨c1, ?_⟩
  refine cm_X11_refused (kh_X11_refused h) h (fun x2 x3 hp h g4 => ?_)
  have h := h g4
  have K := kh_tr K hp.2
  exact ⟨h, K⟩
set_option maxRecDepth 20000 in
set_option maxHeartbeats 1000000 in
theorem kh_X11_round_0 {Q : Int64 → HS → Prop} {v0 : Nat} {v1 : Int32} {v2 : Int32} {v3 : Int32} {v4 : Int32} {S0 S : HS} (h : P_X11_round_0 Q v0 v1 v2 v3 v4 S) (K : KH S0 S) : P_X11_round_0 (fun r T => Q r T ∧ KH S0 T) v0 v1 v2 v3 v4 S := by
  delta P_X11_round_0 at h ⊢
  obtain ⟨c1, h⟩ := h
  refine ⟨c1, ?_⟩
  intro x3 e2
  have h := h x3 e2
  have K := kh_I K e2
  refine cm_X11_isWalker (kh_X11_isWalker h) h (fun x4 x5 hp h g6 g7 => ?_)
  have h := h g6 g7
  have K := kh_tr K hp.2
  refine ⟨?_, ?_⟩
  · intro c8
    have h := h.1 c8
    exact kh_X11_round_29 h K
  · intro c9
    have h := h.2 c9
    refine cm_X11_isRoad (kh_X11_isRoad h) h (fun x10 x11 hp h g12 g13 => ?_)
    have h := h g12 g13
    have K := kh_tr K hp.2
    refine ⟨?_, ?_⟩
    · intro c14
      have h := h.1 c14
      exact kh_X11_round_29 h K
    · intro c15
      have h := h.2 c15
      refine cm_X11_isHour (kh_X11_isHour h) h (fun x16 x17 hp h g18 g19 => ?_)
      have h := h g18 g19
      have K := kh_tr K hp.2
      refine ⟨?_, ?_⟩
      · intro c20
        have h := h.1 c20
        refine cm_X11_wetAtBest (kh_X11_wetAtBest h) h (fun x21 x22 hp h g23 => ?_)
        have h := h g23
        have K := kh_tr K hp.2
        refine cm_X11_wetAtBest (kh_X11_wetAtBest h) h (fun x24 x25 hp h g26 => ?_)
        have h := h g26
        have K := kh_tr K hp.2
        refine cm_X11_told (kh_X11_told h) h (fun x27 x28 hp h g29 => ?_)
        have h := h g29
        have K := kh_tr K hp.2
        exact ⟨h, K⟩
      · intro c30
        have h := h.2 c30
        exact kh_X11_round_29 h K
theorem kh_X11_round {Q : Int64 → HS → Prop} {v0 : Nat} {v1 : Int32} {v2 : Int32} {v3 : Int32} {v4 : Int32} {S : HS} (h : P_X11_round v0 v1 v2 v3 v4 Q S) : P_X11_round v0 v1 v2 v3 v4 (fun r T => Q r T ∧ KH S T) S := kh_X11_round_0 h (kh_rf S)
set_option maxRecDepth 20000 in
set_option maxHeartbeats 1000000 in
theorem kh_X11_saves_39 {Q : Int64 → HS → Prop} {v0 : Nat} {S0 S : HS} (h : P_X11_saves_39 Q v0 S) (K : KH S0 S) : P_X11_saves_39 (fun r T => Q r T ∧ KH S0 T) v0 S := by
  delta P_X11_saves_39 at h ⊢
  obtain ⟨c1, h⟩ := h
  refine ⟨c1, ?_⟩
  refine cm_X11_refused (kh_X11_refused h) h (fun x2 x3 hp h g4 => ?_)
  have h := h g4
  have K := kh_tr K hp.2
  exact ⟨h, K⟩
set_option maxRecDepth 20000 in
set_option maxHeartbeats 1000000 in
theorem kh_X11_saves_0 {Q : Int64 → HS → Prop} {v0 : Nat} {v1 : Int32} {v2 : Int32} {v3 : Int32} {v4 : Int32} {v5 : Int32} {S0 S : HS} (h : P_X11_saves_0 Q v0 v1 v2 v3 v4 v5 S) (K : KH S0 S) : P_X11_saves_0 (fun r T => Q r T ∧ KH S0 T) v0 v1 v2 v3 v4 v5 S := by
  delta P_X11_saves_0 at h ⊢
  obtain ⟨c1, h⟩ := h
  refine ⟨c1, ?_⟩
  intro x3 e2
  have h := h x3 e2
  have K := kh_I K e2
  refine cm_X11_isWalker (kh_X11_isWalker h) h (fun x4 x5 hp h g6 g7 => ?_)
  have h := h g6 g7
  have K := kh_tr K hp.2
  refine ⟨?_, ?_⟩
  · intro c8
    have h := h.1 c8
    exact kh_X11_saves_39 h K
  · intro c9
    have h := h.2 c9
    refine cm_X11_isRoad (kh_X11_isRoad h) h (fun x10 x11 hp h g12 g13 => ?_)
    have h := h g12 g13
    have K := kh_tr K hp.2
    refine ⟨?_, ?_⟩
    · intro c14
      have h := h.1 c14
      exact kh_X11_saves_39 h K
    · intro c15
      have h := h.2 c15
      refine cm_X11_in (kh_X11_in h) h (fun x16 x17 hp h g18 g19 => ?_)
      have h := h g18 g19
      have K := kh_tr K hp.2
      refine ⟨?_, ?_⟩
      · intro c20
        have h := h.1 c20
        exact kh_X11_saves_39 h K
      · intro c21
        have h := h.2 c21
        refine cm_X11_isHour (kh_X11_isHour h) h (fun x22 x23 hp h g24 g25 => ?_)
        have h := h g24 g25
        have K := kh_tr K hp.2
        refine ⟨?_, ?_⟩
        · intro c26
          have h := h.1 c26
          obtain ⟨b27, e28, h⟩ := h
          refine ⟨b27, e28, ?_⟩
          obtain ⟨c29, h⟩ := h
          refine ⟨c29, ?_⟩
          obtain ⟨b30, e31, h⟩ := h
          refine ⟨b30, e31, ?_⟩
          obtain ⟨c32, h⟩ := h
          refine ⟨c32, ?_⟩
          obtain ⟨c33, h⟩ := h
          refine ⟨c33, ?_⟩
          intro x35 e34
          have h := h x35 e34
          refine cm_X11_wetOf (kh_X11_wetOf h) h (fun x36 x37 hp h g38 => ?_)
          have h := h g38
          have K := kh_tr K hp.2
          refine cm_X11_bestOf (kh_X11_bestOf h) h (fun x39 x40 hp h g41 => ?_)
          have h := h g41
          have K := kh_tr K hp.2
          refine cm_X11_wetOf (kh_X11_wetOf h) h (fun x42 x43 hp h g44 => ?_)
          have h := h g44
          have K := kh_tr K hp.2
          refine cm_X11_told (kh_X11_told h) h (fun x45 x46 hp h g47 => ?_)
          have h := h g47
          have K := kh_tr K hp.2
          exact ⟨h, K⟩
        · intro c48
          have h := h.2 c48
          exact kh_X11_saves_39 h K
theorem kh_X11_saves {Q : Int64 → HS → Prop} {v0 : Nat} {v1 : Int32} {v2 : Int32} {v3 : Int32} {v4 : Int32} {v5 : Int32} {S : HS} (h : P_X11_saves v0 v1 v2 v3 v4 v5 Q S) : P_X11_saves v0 v1 v2 v3 v4 v5 (fun r T => Q r T ∧ KH S T) S := kh_X11_saves_0 h (kh_rf S)
set_option maxRecDepth 20000 in
set_option maxHeartbeats 1000000 in
theorem kh_X11_size_0 {Q : Int32 → HS → Prop} {v0 : Nat} {v1 : Int32} {S0 S : HS} (h : P_X11_size_0 Q v0 v1 S) (K : KH S0 S) : P_X11_size_0 (fun r T => Q r T ∧ KH S0 T) v0 v1 S := by
  delta P_X11_size_0 at h ⊢
  obtain ⟨c1, h⟩ := h
  refine ⟨c1, ?_⟩
  intro x3 e2
  have h := h x3 e2
  have K := kh_I K e2
  refine ⟨?_, ?_⟩
  · intro c4
    have h := h.1 c4
    refine cm_X11_in (kh_X11_in h) h (fun x5 x6 hp h g7 g8 => ?_)
    have h := h g7 g8
    have K := kh_tr K hp.2
    refine ⟨?_, ?_⟩
    · intro c9
      have h := h.1 c9
      refine ⟨?_, ?_⟩
      · intro c10
        have h := h.1 c10
        exact ⟨h, K⟩
      · intro x11 c12
        have h := h.2 x11 c12
        refine ⟨?_, ?_, ?_, ?_, ?_, ?_, ?_, ?_, ?_, ?_, ?_⟩
        · intro c13
          have h := h.1 c13
          intro x15 e14
          have h := h x15 e14
          exact ⟨h, K⟩
        · intro c16
          have h := h.2.1 c16
          obtain ⟨b17, e18, h⟩ := h
          refine ⟨b17, e18, ?_⟩
          obtain ⟨c19, h⟩ := h
          refine ⟨c19, ?_⟩
          intro x21 e20
          have h := h x21 e20
          exact ⟨h, K⟩
        · intro c22
          have h := h.2.2.1 c22
          obtain ⟨b23, e24, h⟩ := h
          refine ⟨b23, e24, ?_⟩
          obtain ⟨c25, h⟩ := h
          refine ⟨c25, ?_⟩
          intro x27 e26
          have h := h x27 e26
          exact ⟨h, K⟩
        · intro c28
          have h := h.2.2.2.1 c28
          obtain ⟨b29, e30, h⟩ := h
          refine ⟨b29, e30, ?_⟩
          obtain ⟨c31, h⟩ := h
          refine ⟨c31, ?_⟩
          intro x33 e32
          have h := h x33 e32
          exact ⟨h, K⟩
        · intro c34
          have h := h.2.2.2.2.1 c34
          obtain ⟨b35, e36, h⟩ := h
          refine ⟨b35, e36, ?_⟩
          obtain ⟨c37, h⟩ := h
          refine ⟨c37, ?_⟩
          intro x39 e38
          have h := h x39 e38
          exact ⟨h, K⟩
        · intro c40
          have h := h.2.2.2.2.2.1 c40
          obtain ⟨b41, e42, h⟩ := h
          refine ⟨b41, e42, ?_⟩
          obtain ⟨c43, h⟩ := h
          refine ⟨c43, ?_⟩
          intro x45 e44
          have h := h x45 e44
          exact ⟨h, K⟩
        · intro c46
          have h := h.2.2.2.2.2.2.1 c46
          obtain ⟨b47, e48, h⟩ := h
          refine ⟨b47, e48, ?_⟩
          obtain ⟨c49, h⟩ := h
          refine ⟨c49, ?_⟩
          intro x51 e50
          have h := h x51 e50
          exact ⟨h, K⟩
        · intro c52
          have h := h.2.2.2.2.2.2.2.1 c52
          intro x54 e53
          have h := h x54 e53
          exact ⟨h, K⟩
        · intro c55
          have h := h.2.2.2.2.2.2.2.2.1 c55
          refine cm_X11_isDay (kh_X11_isDay h) h (fun x56 x57 hp h g58 g59 => ?_)
          have h := h g58 g59
          have K := kh_tr K hp.2
          refine ⟨?_, ?_⟩
          · intro c60
            have h := h.1 c60
            exact ⟨h, K⟩
          · intro c61
            have h := h.2 c61
            obtain ⟨b62, e63, h⟩ := h
            refine ⟨b62, e63, ?_⟩
            obtain ⟨c64, h⟩ := h
            refine ⟨c64, ?_⟩
            obtain ⟨c65, h⟩ := h
            refine ⟨c65, ?_⟩
            intro x67 e66
            have h := h x67 e66
            exact ⟨h, K⟩
        · intro c68
          have h := h.2.2.2.2.2.2.2.2.2.1 c68
          refine cm_X11_isDay (kh_X11_isDay h) h (fun x69 x70 hp h g71 g72 => ?_)
          have h := h g71 g72
          have K := kh_tr K hp.2
          refine ⟨?_, ?_⟩
          · intro c73
            have h := h.1 c73
            exact ⟨h, K⟩
          · intro c74
            have h := h.2 c74
            obtain ⟨b75, e76, h⟩ := h
            refine ⟨b75, e76, ?_⟩
            obtain ⟨c77, h⟩ := h
            refine ⟨c77, ?_⟩
            obtain ⟨c78, h⟩ := h
            refine ⟨c78, ?_⟩
            intro x80 e79
            have h := h x80 e79
            exact ⟨h, K⟩
        · intro c81
          have h := h.2.2.2.2.2.2.2.2.2.2 c81
          intro x83 e82
          have h := h x83 e82
          exact ⟨h, K⟩
    · intro c84
      have h := h.2 c84
      exact ⟨h, K⟩
  · intro c85
    have h := h.2 c85
    intro x87 e86
    have h := h x87 e86
    exact ⟨h, K⟩
theorem kh_X11_size {Q : Int32 → HS → Prop} {v0 : Nat} {v1 : Int32} {S : HS} (h : P_X11_size v0 v1 Q S) : P_X11_size v0 v1 (fun r T => Q r T ∧ KH S T) S := kh_X11_size_0 h (kh_rf S)
set_option maxRecDepth 20000 in
set_option maxHeartbeats 1000000 in
theorem kh_X11_soaked_57 {Q : Int32 → HS → Prop} {s0 : Nat} {s1 : Int32} {S0 S : HS} (h : P_X11_soaked_57 Q s0 s1 S) (K : KH S0 S) : P_X11_soaked_57 (fun r T => Q r T ∧ KH S0 T) s0 s1 S := by
  delta P_X11_soaked_57 at h ⊢
  obtain ⟨c1, h⟩ := h
  refine ⟨c1, ?_⟩
  refine cm_X11_good (kh_X11_good h) h (fun x2 x3 hp h g4 => ?_)
  have h := h g4
  have K := kh_tr K hp.2
  exact ⟨h, K⟩
set_option maxRecDepth 20000 in
set_option maxHeartbeats 1000000 in
theorem kh_X11_soaked_0 {Q : Int32 → HS → Prop} {v0 : Nat} {S0 S : HS} (h : P_X11_soaked_0 Q v0 S) (K : KH S0 S) : P_X11_soaked_0 (fun r T => Q r T ∧ KH S0 T) v0 S := by
  delta P_X11_soaked_0 at h ⊢
  obtain ⟨c1, h⟩ := h
  refine ⟨c1, ?_⟩
  intro x3 e2
  have h := h x3 e2
  have K := kh_I K e2
  refine cm_X11_isDay (kh_X11_isDay h) h (fun x4 x5 hp h g6 g7 => ?_)
  have h := h g6 g7
  have K := kh_tr K hp.2
  refine ⟨?_, ?_⟩
  · intro c8
    have h := h.1 c8
    obtain ⟨b9, e10, h⟩ := h
    refine ⟨b9, e10, ?_⟩
    obtain ⟨c11, h⟩ := h
    refine ⟨c11, ?_⟩
    obtain ⟨b12, e13, h⟩ := h
    refine ⟨b12, e13, ?_⟩
    intro x15 e14
    have h := h x15 e14
    obtain ⟨c16, h⟩ := h
    refine ⟨c16, ?_⟩
    obtain ⟨c17, h⟩ := h
    refine ⟨c17, ?_⟩
    intro x19 e18
    have h := h x19 e18
    refine ⟨?_, ?_⟩
    · intro c20
      have h := h.1 c20
      refine cm_X11_gotInAll (kh_X11_gotInAll h) h (fun x21 x22 hp h g23 => ?_)
      have h := h g23
      have K := kh_tr K hp.2
      refine cm_X11_holds (kh_X11_holds h) h (fun x24 x25 hp h g26 => ?_)
      have h := h g26
      have K := kh_tr K hp.2
      refine ⟨?_, ?_⟩
      · intro c27
        have h := h.1 c27
        exact kh_X11_soaked_57 h K
      · intro c28
        have h := h.2 c28
        exact kh_X11_soaked_57 h K
    · intro c29
      have h := h.2 c29
      exact kh_X11_soaked_57 h K
  · intro c30
    have h := h.2 c30
    refine cm_X11_refused (kh_X11_refused h) h (fun x31 x32 hp h g33 => ?_)
    have h := h g33
    have K := kh_tr K hp.2
    exact ⟨h, K⟩
theorem kh_X11_soaked {Q : Int32 → HS → Prop} {v0 : Nat} {S : HS} (h : P_X11_soaked v0 Q S) : P_X11_soaked v0 (fun r T => Q r T ∧ KH S T) S := kh_X11_soaked_0 h (kh_rf S)
set_option maxRecDepth 20000 in
set_option maxHeartbeats 1000000 in
theorem kh_X11_stay_133 {Q : Int32 → HS → Prop} {X84 X84_2 : Nat → Int32 → Int32 → Int32 → HS → Prop} {v0 : Nat} {v1 : Int32} {v2 : Int32} {v3 : Int32} {S0 S : HS} (h : P_X11_stay_133 Q X84 v0 v1 v2 v3 S) (K : KH S0 S) (hX84 : ∀ (u0 : Nat) (u1 : Int32) (u2 : Int32) (u3 : Int32) (u4 : HS), X84 u0 u1 u2 u3 u4 → KH S0 u4 → X84_2 u0 u1 u2 u3 u4) : P_X11_stay_133 (fun r T => Q r T ∧ KH S0 T) X84_2 v0 v1 v2 v3 S := by
  delta P_X11_stay_133 at h ⊢
  obtain ⟨c1, h⟩ := h
  refine ⟨c1, ?_⟩
  obtain ⟨b2, e3, h⟩ := h
  refine ⟨b2, e3, ?_⟩
  obtain ⟨c4, h⟩ := h
  refine ⟨c4, ?_⟩
  obtain ⟨c5, h⟩ := h
  refine ⟨c5, ?_⟩
  intro x7 e6
  have h := h x7 e6
  intro x9 e8
  have h := h x9 e8
  obtain ⟨c10, h⟩ := h
  refine ⟨c10, ?_⟩
  intro x12 e11
  have h := h x12 e11
  have K := kh_J K e11
  intro x14 e13
  have h := h x14 e13
  exact hX84 _ _ _ _ _ h K
set_option maxRecDepth 20000 in
set_option maxHeartbeats 1000000 in
theorem khB_X11_stay_84 {Q : Int32 → HS → Prop} {X84 X84_2 : Nat → Int32 → Int32 → Int32 → HS → Prop} {v0 : Nat} {v1 : Int32} {v2 : Int32} {v3 : Int32} {S0 S : HS} (h : B_X11_stay_84 Q X84 v0 v1 v2 v3 S) (K : KH S0 S) (hX84 : ∀ (u0 : Nat) (u1 : Int32) (u2 : Int32) (u3 : Int32) (u4 : HS), X84 u0 u1 u2 u3 u4 → KH S0 u4 → X84_2 u0 u1 u2 u3 u4) : B_X11_stay_84 (fun r T => Q r T ∧ KH S0 T) X84_2 v0 v1 v2 v3 S := by
  delta B_X11_stay_84 at h ⊢
  refine ⟨?_, ?_⟩
  · intro c1
    have h := h.1 c1
    obtain ⟨c2, h⟩ := h
    refine ⟨c2, ?_⟩
    refine cm_X11_granted (kh_X11_granted h) h (fun x3 x4 hp h g5 g6 => ?_)
    have h := h g5 g6
    have K := kh_tr K hp.2
    obtain ⟨c7, h⟩ := h
    refine ⟨c7, ?_⟩
    exact ⟨h, K⟩
  · intro c8
    have h := h.2 c8
    obtain ⟨c9, h⟩ := h
    refine ⟨c9, ?_⟩
    obtain ⟨b10, e11, h⟩ := h
    refine ⟨b10, e11, ?_⟩
    obtain ⟨c12, h⟩ := h
    refine ⟨c12, ?_⟩
    obtain ⟨b13, e14, h⟩ := h
    refine ⟨b13, e14, ?_⟩
    obtain ⟨c15, h⟩ := h
    refine ⟨c15, ?_⟩
    obtain ⟨c16, h⟩ := h
    refine ⟨c16, ?_⟩
    intro x18 e17
    have h := h x18 e17
    refine ⟨?_, ?_⟩
    · intro c19
      have h := h.1 c19
      exact kh_X11_stay_133 h K hX84
    · intro c20
      have h := h.2 c20
      obtain ⟨b21, e22, h⟩ := h
      refine ⟨b21, e22, ?_⟩
      obtain ⟨c23, h⟩ := h
      refine ⟨c23, ?_⟩
      obtain ⟨c24, h⟩ := h
      refine ⟨c24, ?_⟩
      intro x26 e25
      have h := h x26 e25
      refine cm_X11_rainsIn (kh_X11_rainsIn h) h (fun x27 x28 hp h g29 g30 => ?_)
      have h := h g29 g30
      have K := kh_tr K hp.2
      refine ⟨?_, ?_⟩
      · intro c31
        have h := h.1 c31
        exact kh_X11_stay_133 h K hX84
      · intro c32
        have h := h.2 c32
        obtain ⟨b33, e34, h⟩ := h
        refine ⟨b33, e34, ?_⟩
        obtain ⟨c35, h⟩ := h
        refine ⟨c35, ?_⟩
        obtain ⟨c36, h⟩ := h
        refine ⟨c36, ?_⟩
        intro x38 e37
        have h := h x38 e37
        intro x40 e39
        have h := h x40 e39
        refine cm_X11_drips (kh_X11_drips h) h (fun x41 x42 hp h g43 => ?_)
        have h := h g43
        have K := kh_tr K hp.2
        intro x45 e44
        have h := h x45 e44
        obtain ⟨c46, h⟩ := h
        refine ⟨c46, ?_⟩
        intro x48 e47
        have h := h x48 e47
        have K := kh_J K e47
        exact kh_X11_stay_133 h K hX84
theorem kh_X11_stay_84 {Q : Int32 → HS → Prop} {v0 : Nat} {v1 : Int32} {v2 : Int32} {v3 : Int32} {S0 S : HS} (h : P_X11_stay_84 Q v0 v1 v2 v3 S) (K : KH S0 S) : P_X11_stay_84 (fun r T => Q r T ∧ KH S0 T) v0 v1 v2 v3 S := h (fun v0 v1 v2 v3 S => KH S0 S → P_X11_stay_84 (fun r T => Q r T ∧ KH S0 T) v0 v1 v2 v3 S) (fun v0 v1 v2 v3 S hB K => fd_X11_stay_84 (khB_X11_stay_84 hB K (fun _ _ _ _ _ hx K => hx K))) K
set_option maxRecDepth 20000 in
set_option maxHeartbeats 1000000 in
theorem kh_X11_stay_0 {Q : Int32 → HS → Prop} {v0 : Nat} {v1 : Int32} {S0 S : HS} (h : P_X11_stay_0 Q v0 v1 S) (K : KH S0 S) : P_X11_stay_0 (fun r T => Q r T ∧ KH S0 T) v0 v1 S := by
  delta P_X11_stay_0 at h ⊢
  obtain ⟨c1, h⟩ := h
  refine ⟨c1, ?_⟩
  intro x3 e2
  have h := h x3 e2
  have K := kh_I K e2
  refine cm_X11_isDay (kh_X11_isDay h) h (fun x4 x5 hp h g6 g7 => ?_)
  have h := h g6 g7
  have K := kh_tr K hp.2
  refine ⟨?_, ?_⟩
  · intro c8
    have h := h.1 c8
    refine cm_X11_in (kh_X11_in h) h (fun x9 x10 hp h g11 g12 => ?_)
    have h := h g11 g12
    have K := kh_tr K hp.2
    refine ⟨?_, ?_⟩
    · intro c13
      have h := h.1 c13
      obtain ⟨b14, e15, h⟩ := h
      refine ⟨b14, e15, ?_⟩
      obtain ⟨c16, h⟩ := h
      refine ⟨c16, ?_⟩
      obtain ⟨c17, h⟩ := h
      refine ⟨c17, ?_⟩
      intro x19 e18
      have h := h x19 e18
      intro x21 e20
      have h := h x21 e20
      refine cm_X11_canWait (kh_X11_canWait h) h (fun x22 x23 hp h g24 g25 => ?_)
      have h := h g24 g25
      have K := kh_tr K hp.2
      refine ⟨?_, ?_⟩
      · intro c26
        have h := h.1 c26
        obtain ⟨b27, e28, h⟩ := h
        refine ⟨b27, e28, ?_⟩
        obtain ⟨c29, h⟩ := h
        refine ⟨c29, ?_⟩
        obtain ⟨c30, h⟩ := h
        refine ⟨c30, ?_⟩
        intro x32 e31
        have h := h x32 e31
        refine ⟨?_, ?_⟩
        · intro c33
          have h := h.1 c33
          refine cm_X11_keeps (kh_X11_keeps h) h (fun x34 hp h g35 => ?_)
          have h := h g35
          have K := kh_tr K hp.2
          exact kh_X11_stay_84 h K
        · intro c36
          have h := h.2 c36
          refine cm_X11_denied (kh_X11_denied h) h (fun x37 x38 hp h g39 g40 => ?_)
          have h := h g39 g40
          have K := kh_tr K hp.2
          obtain ⟨c41, h⟩ := h
          refine ⟨c41, ?_⟩
          exact ⟨h, K⟩
      · intro c42
        have h := h.2 c42
        refine cm_X11_denied (kh_X11_denied h) h (fun x43 x44 hp h g45 g46 => ?_)
        have h := h g45 g46
        have K := kh_tr K hp.2
        obtain ⟨c47, h⟩ := h
        refine ⟨c47, ?_⟩
        exact ⟨h, K⟩
    · intro c48
      have h := h.2 c48
      refine cm_X11_denied (kh_X11_denied h) h (fun x49 x50 hp h g51 g52 => ?_)
      have h := h g51 g52
      have K := kh_tr K hp.2
      obtain ⟨c53, h⟩ := h
      refine ⟨c53, ?_⟩
      exact ⟨h, K⟩
  · intro c54
    have h := h.2 c54
    refine cm_X11_denied (kh_X11_denied h) h (fun x55 x56 hp h g57 g58 => ?_)
    have h := h g57 g58
    have K := kh_tr K hp.2
    obtain ⟨c59, h⟩ := h
    refine ⟨c59, ?_⟩
    exact ⟨h, K⟩
theorem kh_X11_stay {Q : Int32 → HS → Prop} {v0 : Nat} {v1 : Int32} {S : HS} (h : P_X11_stay v0 v1 Q S) : P_X11_stay v0 v1 (fun r T => Q r T ∧ KH S T) S := kh_X11_stay_0 h (kh_rf S)
