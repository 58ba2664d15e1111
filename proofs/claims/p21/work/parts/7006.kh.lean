section
set_option maxRecDepth 20000 in
set_option maxHeartbeats 1000000 in
theorem kh_X11_stepOf_117 {Q : Int32 → HS → Prop} {X9 X9_2 : Nat → Int32 → Int32 → Int32 → Int32 → HS → Prop} {v0 : Nat} {v4 : Int32} {v6 : Int32} {v7 : Int32} {s0 : Int32} {S0 S : HS} (h : P_X11_stepOf_117 Q X9 v0 v4 v6 v7 s0 S) (K : KH S0 S) (hX9 : ∀ (u0 : Nat) (u1 : Int32) (u2 : Int32) (u3 : Int32) (u4 : Int32) (u5 : HS), X9 u0 u1 u2 u3 u4 u5 → KH S0 u5 → X9_2 u0 u1 u2 u3 u4 u5) : P_X11_stepOf_117 (fun r T => Q r T ∧ KH S0 T) X9_2 v0 v4 v6 v7 s0 S := by
  delta P_X11_stepOf_117 at h ⊢
  exact hX9 _ _ _ _ _ _ h K
set_option maxRecDepth 20000 in
set_option maxHeartbeats 1000000 in
theorem kh_X11_stepOf_82 {Q : Int32 → HS → Prop} {X9 X9_2 : Nat → Int32 → Int32 → Int32 → Int32 → HS → Prop} {v0 : Nat} {v4 : Int32} {v5 : Int32} {v7 : Int32} {v8 : Int32} {s0 : Int32} {s1 : Int32} {S0 S : HS} (h : P_X11_stepOf_82 Q X9 v0 v4 v5 v7 v8 s0 s1 S) (K : KH S0 S) (hX9 : ∀ (u0 : Nat) (u1 : Int32) (u2 : Int32) (u3 : Int32) (u4 : Int32) (u5 : HS), X9 u0 u1 u2 u3 u4 u5 → KH S0 u5 → X9_2 u0 u1 u2 u3 u4 u5) : P_X11_stepOf_82 (fun r T => Q r T ∧ KH S0 T) X9_2 v0 v4 v5 v7 v8 s0 s1 S := by
  delta P_X11_stepOf_82 at h ⊢
  intro x2 e1
  have h := h x2 e1
  refine ⟨?_, ?_⟩
  · intro c3
    have h := h.1 c3
    obtain ⟨c4, h⟩ := h
    refine ⟨c4, ?_⟩
    obtain ⟨b5, e6, h⟩ := h
    refine ⟨b5, e6, ?_⟩
    intro x8 e7
    have h := h x8 e7
    intro x10 e9
    have h := h x10 e9
    intro x12 e11
    have h := h x12 e11
    obtain ⟨c13, h⟩ := h
    refine ⟨c13, ?_⟩
    refine cm_X10_ends (kh_X10_ends h) h (fun x14 x15 hp h g16 => ?_)
    have h := h g16
    have K := kh_tr K hp.2
    exact kh_X11_stepOf_117 h K hX9
  · intro c17
    have h := h.2 c17
    exact kh_X11_stepOf_117 h K hX9
set_option maxRecDepth 20000 in
set_option maxHeartbeats 1000000 in
theorem khB_X11_stepOf_9 {Q : Int32 → HS → Prop} {X9 X9_2 : Nat → Int32 → Int32 → Int32 → Int32 → HS → Prop} {v0 : Nat} {v4 : Int32} {v5 : Int32} {v6 : Int32} {v7 : Int32} {S0 S : HS} (h : B_X11_stepOf_9 Q X9 v0 v4 v5 v6 v7 S) (K : KH S0 S) (hX9 : ∀ (u0 : Nat) (u1 : Int32) (u2 : Int32) (u3 : Int32) (u4 : Int32) (u5 : HS), X9 u0 u1 u2 u3 u4 u5 → KH S0 u5 → X9_2 u0 u1 u2 u3 u4 u5) : B_X11_stepOf_9 (fun r T => Q r T ∧ KH S0 T) X9_2 v0 v4 v5 v6 v7 S := by
  delta B_X11_stepOf_9 at h ⊢
  obtain ⟨c1, h⟩ := h
  refine ⟨c1, ?_⟩
  obtain ⟨b2, e3, h⟩ := h
  refine ⟨b2, e3, ?_⟩
  refine cm_X11_spotOf (kh_X11_spotOf h) h (fun x4 x5 hp h g6 => ?_)
  have h := h g6
  have K := kh_tr K hp.2
  obtain ⟨c7, h⟩ := h
  refine ⟨c7, ?_⟩
  obtain ⟨c8, h⟩ := h
  refine ⟨c8, ?_⟩
  intro x10 e9
  have h := h x10 e9
  refine ⟨?_, ?_⟩
  · intro c11
    have h := h.1 c11
    refine ⟨?_, ?_⟩
    · intro c12
      have h := h.1 c12
      exact ⟨h, K⟩
    · intro c13
      have h := h.2 c13
      exact ⟨h, K⟩
  · intro c14
    have h := h.2 c14
    obtain ⟨b15, e16, h⟩ := h
    refine ⟨b15, e16, ?_⟩
    refine cm_X11_spotOf (kh_X11_spotOf h) h (fun x17 x18 hp h g19 => ?_)
    have h := h g19
    have K := kh_tr K hp.2
    obtain ⟨c20, h⟩ := h
    refine ⟨c20, ?_⟩
    obtain ⟨c21, h⟩ := h
    refine ⟨c21, ?_⟩
    intro x23 e22
    have h := h x23 e22
    refine ⟨?_, ?_⟩
    · intro c24
      have h := h.1 c24
      intro x26 e25
      have h := h x26 e25
      refine ⟨?_, ?_⟩
      · intro c27
        have h := h.1 c27
        obtain ⟨b28, e29, h⟩ := h
        refine ⟨b28, e29, ?_⟩
        intro x31 e30
        have h := h x31 e30
        intro x33 e32
        have h := h x33 e32
        obtain ⟨c34, h⟩ := h
        refine ⟨c34, ?_⟩
        refine cm_X10_minutes (kh_X10_minutes h) h (fun x35 x36 hp h g37 => ?_)
        have h := h g37
        have K := kh_tr K hp.2
        exact kh_X11_stepOf_82 h K hX9
      · intro c38
        have h := h.2 c38
        exact kh_X11_stepOf_82 h K hX9
    · intro c39
      have h := h.2 c39
      exact ⟨h, K⟩
theorem kh_X11_stepOf_9 {Q : Int32 → HS → Prop} {v0 : Nat} {v4 : Int32} {v5 : Int32} {v6 : Int32} {v7 : Int32} {S0 S : HS} (h : P_X11_stepOf_9 Q v0 v4 v5 v6 v7 S) (K : KH S0 S) : P_X11_stepOf_9 (fun r T => Q r T ∧ KH S0 T) v0 v4 v5 v6 v7 S := h (fun v0 v4 v5 v6 v7 S => KH S0 S → P_X11_stepOf_9 (fun r T => Q r T ∧ KH S0 T) v0 v4 v5 v6 v7 S) (fun v0 v4 v5 v6 v7 S hB K => fd_X11_stepOf_9 (khB_X11_stepOf_9 hB K (fun _ _ _ _ _ _ hx K => hx K))) K
set_option maxRecDepth 20000 in
set_option maxHeartbeats 1000000 in
theorem kh_X11_stepOf_0 {Q : Int32 → HS → Prop} {v0 : Nat} {v2 : Int32} {v3 : Int32} {v4 : Int32} {S0 S : HS} (h : P_X11_stepOf_0 Q v0 v2 v3 v4 S) (K : KH S0 S) : P_X11_stepOf_0 (fun r T => Q r T ∧ KH S0 T) v0 v2 v3 v4 S := by
  delta P_X11_stepOf_0 at h ⊢
  exact kh_X11_stepOf_9 h K
theorem kh_X11_stepOf {Q : Int32 → HS → Prop} {v0 : Nat} {v1 : Int32} {v2 : Int32} {v3 : Int32} {v4 : Int32} {S : HS} (h : P_X11_stepOf v0 v1 v2 v3 v4 Q S) : P_X11_stepOf v0 v1 v2 v3 v4 (fun r T => Q r T ∧ KH S T) S := kh_X11_stepOf_0 h (kh_rf S)
set_option maxRecDepth 20000 in
set_option maxHeartbeats 1000000 in
theorem kh_X11_step_49 {Q : Int32 → HS → Prop} {v0 : Nat} {s0 : Int32} {S0 S : HS} (h : P_X11_step_49 Q v0 s0 S) (K : KH S0 S) : P_X11_step_49 (fun r T => Q r T ∧ KH S0 T) v0 s0 S := by
  delta P_X11_step_49 at h ⊢
  refine ⟨?_, ?_⟩
  · intro c1
    have h := h.1 c1
    obtain ⟨c2, h⟩ := h
    refine ⟨c2, ?_⟩
    refine cm_X11_good (kh_X11_good h) h (fun x3 x4 hp h g5 => ?_)
    have h := h g5
    have K := kh_tr K hp.2
    exact ⟨h, K⟩
  · intro c6
    have h := h.2 c6
    obtain ⟨c7, h⟩ := h
    refine ⟨c7, ?_⟩
    refine cm_X11_refused (kh_X11_refused h) h (fun x8 x9 hp h g10 => ?_)
    have h := h g10
    have K := kh_tr K hp.2
    exact ⟨h, K⟩
set_option maxRecDepth 20000 in
set_option maxHeartbeats 1000000 in
theorem kh_X11_step_0 {Q : Int32 → HS → Prop} {v0 : Nat} {v1 : Int32} {v2 : Int32} {v3 : Int32} {v4 : Int32} {v5 : Int32} {v6 : Int32} {S0 S : HS} (h : P_X11_step_0 Q v0 v1 v2 v3 v4 v5 v6 S) (K : KH S0 S) : P_X11_step_0 (fun r T => Q r T ∧ KH S0 T) v0 v1 v2 v3 v4 v5 v6 S := by
  delta P_X11_step_0 at h ⊢
  obtain ⟨c1, h⟩ := h
  refine ⟨c1, ?_⟩
  intro x3 e2
  have h := h x3 e2
  have K := kh_I K e2
  refine cm_X11_refusesWay (kh_X11_refusesWay h) h (fun x4 x5 hp h g6 => ?_)
  have h := h g6
  have K := kh_tr K hp.2
  refine ⟨?_, ?_⟩
  · intro c7
    have h := h.1 c7
    refine ⟨?_, ?_⟩
    · intro c8
      have h := h.1 c8
      refine cm_X11_stepOf (kh_X11_stepOf h) h (fun x9 x10 hp h g11 => ?_)
      have h := h g11
      have K := kh_tr K hp.2
      exact kh_X11_step_49 h K
    · intro c12
      have h := h.2 c12
      exact kh_X11_step_49 h K
  · intro c13
    have h := h.2 c13
    refine cm_X11_refused (kh_X11_refused h) h (fun x14 x15 hp h g16 => ?_)
    have h := h g16
    have K := kh_tr K hp.2
    exact ⟨h, K⟩
theorem kh_X11_step {Q : Int32 → HS → Prop} {v0 : Nat} {v1 : Int32} {v2 : Int32} {v3 : Int32} {v4 : Int32} {v5 : Int32} {v6 : Int32} {S : HS} (h : P_X11_step v0 v1 v2 v3 v4 v5 v6 Q S) : P_X11_step v0 v1 v2 v3 v4 v5 v6 (fun r T => Q r T ∧ KH S T) S := kh_X11_step_0 h (kh_rf S)
set_option maxRecDepth 20000 in
set_option maxHeartbeats 1000000 in
theorem kh_X11_steps_0 {Q : Int32 → HS → Prop} {v0 : Nat} {v1 : Int32} {v2 : Int32} {v3 : Int32} {v4 : Int32} {v5 : Int32} {S0 S : HS} (h : P_X11_steps_0 Q v0 v1 v2 v3 v4 v5 S) (K : KH S0 S) : P_X11_steps_0 (fun r T => Q r T ∧ KH S0 T) v0 v1 v2 v3 v4 v5 S := by
  delta P_X11_steps_0 at h ⊢
  obtain ⟨c1, h⟩ := h
  refine ⟨c1, ?_⟩
  intro x3 e2
  have h := h x3 e2
  have K := kh_I K e2
  refine cm_X11_refusesWay (kh_X11_refusesWay h) h (fun x4 x5 hp h g6 => ?_)
  have h := h g6
  have K := kh_tr K hp.2
  refine ⟨?_, ?_⟩
  · intro c7
    have h := h.1 c7
    refine cm_X11_stepOf (kh_X11_stepOf h) h (fun x8 x9 hp h g10 => ?_)
    have h := h g10
    have K := kh_tr K hp.2
    refine cm_X11_good (kh_X11_good h) h (fun x11 x12 hp h g13 => ?_)
    have h := h g13
    have K := kh_tr K hp.2
    exact ⟨h, K⟩
  · intro c14
    have h := h.2 c14
    refine cm_X11_refused (kh_X11_refused h) h (fun x15 x16 hp h g17 => ?_)
    have h := h g17
    have K := kh_tr K hp.2
    exact ⟨h, K⟩
theorem kh_X11_steps {Q : Int32 → HS → Prop} {v0 : Nat} {v1 : Int32} {v2 : Int32} {v3 : Int32} {v4 : Int32} {v5 : Int32} {S : HS} (h : P_X11_steps v0 v1 v2 v3 v4 v5 Q S) : P_X11_steps v0 v1 v2 v3 v4 v5 (fun r T => Q r T ∧ KH S T) S := kh_X11_steps_0 h (kh_rf S)
set_option maxRecDepth 20000 in
set_option maxHeartbeats 1000000 in
theorem kh_X11_there_0 {Q : Int32 → HS → Prop} {v0 : Nat} {v1 : Int32} {v2 : Int32} {v3 : Int32} {v4 : Int32} {v5 : Int32} {S0 S : HS} (h : P_X11_there_0 Q v0 v1 v2 v3 v4 v5 S) (K : KH S0 S) : P_X11_there_0 (fun r T => Q r T ∧ KH S0 T) v0 v1 v2 v3 v4 v5 S := by
  delta P_X11_there_0 at h ⊢
  obtain ⟨c1, h⟩ := h
  refine ⟨c1, ?_⟩
  intro x3 e2
  have h := h x3 e2
  have K := kh_I K e2
  refine cm_X11_refusesWay (kh_X11_refusesWay h) h (fun x4 x5 hp h g6 => ?_)
  have h := h g6
  have K := kh_tr K hp.2
  refine ⟨?_, ?_⟩
  · intro c7
    have h := h.1 c7
    obtain ⟨b8, e9, h⟩ := h
    refine ⟨b8, e9, ?_⟩
    refine cm_X11_spotOf (kh_X11_spotOf h) h (fun x10 x11 hp h g12 => ?_)
    have h := h g12
    have K := kh_tr K hp.2
    obtain ⟨c13, h⟩ := h
    refine ⟨c13, ?_⟩
    obtain ⟨c14, h⟩ := h
    refine ⟨c14, ?_⟩
    intro x16 e15
    have h := h x16 e15
    refine cm_X11_good (kh_X11_good h) h (fun x17 x18 hp h g19 => ?_)
    have h := h g19
    have K := kh_tr K hp.2
    exact ⟨h, K⟩
  · intro c20
    have h := h.2 c20
    refine cm_X11_refused (kh_X11_refused h) h (fun x21 x22 hp h g23 => ?_)
    have h := h g23
    have K := kh_tr K hp.2
    exact ⟨h, K⟩
theorem kh_X11_there {Q : Int32 → HS → Prop} {v0 : Nat} {v1 : Int32} {v2 : Int32} {v3 : Int32} {v4 : Int32} {v5 : Int32} {S : HS} (h : P_X11_there v0 v1 v2 v3 v4 v5 Q S) : P_X11_there v0 v1 v2 v3 v4 v5 (fun r T => Q r T ∧ KH S T) S := kh_X11_there_0 h (kh_rf S)
set_option maxRecDepth 20000 in
set_option maxHeartbeats 1000000 in
theorem kh_X11_trouble_0 {Q : Int32 → HS → Prop} {v0 : Nat} {S0 S : HS} (h : P_X11_trouble_0 Q v0 S) (K : KH S0 S) : P_X11_trouble_0 (fun r T => Q r T ∧ KH S0 T) v0 S := by
  delta P_X11_trouble_0 at h ⊢
  obtain ⟨c1, h⟩ := h
  refine ⟨c1, ?_⟩
  intro x3 e2
  have h := h x3 e2
  have K := kh_I K e2
  intro x5 e4
  have h := h x5 e4
  exact ⟨h, K⟩
theorem kh_X11_trouble {Q : Int32 → HS → Prop} {v0 : Nat} {S : HS} (h : P_X11_trouble v0 Q S) : P_X11_trouble v0 (fun r T => Q r T ∧ KH S T) S := kh_X11_trouble_0 h (kh_rf S)
set_option maxRecDepth 20000 in
set_option maxHeartbeats 1000000 in
theorem kh_X11_undo_19 {Q : Int32 → HS → Prop} {v0 : Nat} {S0 S : HS} (h : P_X11_undo_19 Q v0 S) (K : KH S0 S) : P_X11_undo_19 (fun r T => Q r T ∧ KH S0 T) v0 S := by
  delta P_X11_undo_19 at h ⊢
  obtain ⟨c1, h⟩ := h
  refine ⟨c1, ?_⟩
  refine cm_X11_denied (kh_X11_denied h) h (fun x2 x3 hp h g4 g5 => ?_)
  have h := h g4 g5
  have K := kh_tr K hp.2
  obtain ⟨c6, h⟩ := h
  refine ⟨c6, ?_⟩
  exact ⟨h, K⟩
set_option maxRecDepth 20000 in
set_option maxHeartbeats 1000000 in
theorem khB_X11_undo_38 {Q : Int32 → HS → Prop} {X38 X38_2 : Nat → Int32 → HS → Prop} {v0 : Nat} {v1 : Int32} {S0 S : HS} (h : B_X11_undo_38 Q X38 v0 v1 S) (K : KH S0 S) (hX38 : ∀ (u0 : Nat) (u1 : Int32) (u2 : HS), X38 u0 u1 u2 → KH S0 u2 → X38_2 u0 u1 u2) : B_X11_undo_38 (fun r T => Q r T ∧ KH S0 T) X38_2 v0 v1 S := by
  delta B_X11_undo_38 at h ⊢
  refine ⟨?_, ?_⟩
  · intro c1
    have h := h.1 c1
    obtain ⟨c2, h⟩ := h
    refine ⟨c2, ?_⟩
    refine cm_X11_granted (kh_X11_granted h) h (fun x3 x4 hp h g5 g6 => ?_)
    have h := h g5 g6
    have K := kh_tr K hp.2
    obtain ⟨c7, h⟩ := h
    refine ⟨c7, ?_⟩
    exact ⟨h, K⟩
  · intro c8
    have h := h.2 c8
    obtain ⟨c9, h⟩ := h
    refine ⟨c9, ?_⟩
    obtain ⟨b10, e11, h⟩ := h
    refine ⟨b10, e11, ?_⟩
    obtain ⟨b12, e13, h⟩ := h
    refine ⟨b12, e13, ?_⟩
    intro x15 e14
    have h := h x15 e14
    obtain ⟨c16, h⟩ := h
    refine ⟨c16, ?_⟩
    intro x18 e17
    have h := h x18 e17
    obtain ⟨c19, h⟩ := h
    refine ⟨c19, ?_⟩
    intro x21 e20
    have h := h x21 e20
    obtain ⟨c22, h⟩ := h
    refine ⟨c22, ?_⟩
    obtain ⟨c23, h⟩ := h
    refine ⟨c23, ?_⟩
    intro x25 e24
    have h := h x25 e24
    have K := kh_J K e24
    intro x27 e26
    have h := h x27 e26
    exact hX38 _ _ _ h K
theorem kh_X11_undo_38 {Q : Int32 → HS → Prop} {v0 : Nat} {v1 : Int32} {S0 S : HS} (h : P_X11_undo_38 Q v0 v1 S) (K : KH S0 S) : P_X11_undo_38 (fun r T => Q r T ∧ KH S0 T) v0 v1 S := h (fun v0 v1 S => KH S0 S → P_X11_undo_38 (fun r T => Q r T ∧ KH S0 T) v0 v1 S) (fun v0 v1 S hB K => fd_X11_undo_38 (khB_X11_undo_38 hB K (fun _ _ _ hx K => hx K))) K
set_option maxRecDepth 20000 in
set_option maxHeartbeats 1000000 in
theorem kh_X11_undo_0 {Q : Int32 → HS → Prop} {v0 : Nat} {S0 S : HS} (h : P_X11_undo_0 Q v0 S) (K : KH S0 S) : P_X11_undo_0 (fun r T => Q r T ∧ KH S0 T) v0 S := by
  delta P_X11_undo_0 at h ⊢
  obtain ⟨c1, h⟩ := h
  refine ⟨c1, ?_⟩
  intro x3 e2
  have h := h x3 e2
  have K := kh_I K e2
  refine cm_X11_isDay (kh_X11_isDay h) h (fun x4 x5 hp h g6 g7 => ?_)
  have h := h g6 g7
  have K := kh_tr K hp.2
  refine ⟨?_, ?_⟩
  · intro c8
    have h := h.1 c8
    exact kh_X11_undo_19 h K
  · intro c9
    have h := h.2 c9
    intro x11 e10
    have h := h x11 e10
    refine ⟨?_, ?_⟩
    · intro c12
      have h := h.1 c12
      intro x14 e13
      have h := h x14 e13
      intro x16 e15
      have h := h x16 e15
      intro x18 e17
      have h := h x18 e17
      have K := kh_I K e17
      exact kh_X11_undo_38 h K
    · intro c19
      have h := h.2 c19
      exact kh_X11_undo_19 h K
theorem kh_X11_undo {Q : Int32 → HS → Prop} {v0 : Nat} {S : HS} (h : P_X11_undo v0 Q S) : P_X11_undo v0 (fun r T => Q r T ∧ KH S T) S := kh_X11_undo_0 h (kh_rf S)
set_option maxRecDepth 20000 in
set_option maxHeartbeats 1000000 in
theorem kh_X11_walker_23 {Q : Int32 → HS → Prop} {v0 : Nat} {S0 S : HS} (h : P_X11_walker_23 Q v0 S) (K : KH S0 S) : P_X11_walker_23 (fun r T => Q r T ∧ KH S0 T) v0 S := by
  delta P_X11_walker_23 at h ⊢
  obtain ⟨c1, h⟩ := h
  refine ⟨c1, ?_⟩
  refine cm_X11_refused (kh_X11_refused h) h (fun x2 x3 hp h g4 => ?_)
  have h := h g4
  have K := kh_tr K hp.2
  exact ⟨h, K⟩
set_option maxRecDepth 20000 in
set_option maxHeartbeats 1000000 in
theorem kh_X11_walker_0 {Q : Int32 → HS → Prop} {v0 : Nat} {v1 : Int32} {v2 : Int32} {S0 S : HS} (h : P_X11_walker_0 Q v0 v1 v2 S) (K : KH S0 S) : P_X11_walker_0 (fun r T => Q r T ∧ KH S0 T) v0 v1 v2 S := by
  delta P_X11_walker_0 at h ⊢
  obtain ⟨c1, h⟩ := h
  refine ⟨c1, ?_⟩
  intro x3 e2
  have h := h x3 e2
  have K := kh_I K e2
  refine cm_X11_isWalker (kh_X11_isWalker h) h (fun x4 x5 hp h g6 g7 => ?_)
  have h := h g6 g7
  have K := kh_tr K hp.2
  refine ⟨?_, ?_⟩
  · intro c8
    have h := h.1 c8
    exact kh_X11_walker_23 h K
  · intro c9
    have h := h.2 c9
    refine cm_X11_in (kh_X11_in h) h (fun x10 x11 hp h g12 g13 => ?_)
    have h := h g12 g13
    have K := kh_tr K hp.2
    refine ⟨?_, ?_⟩
    · intro c14
      have h := h.1 c14
      refine ⟨?_, ?_, ?_, ?_, ?_, ?_, ?_⟩
      · intro c15
        have h := h.1 c15
        obtain ⟨b16, e17, h⟩ := h
        refine ⟨b16, e17, ?_⟩
        obtain ⟨c18, h⟩ := h
        refine ⟨c18, ?_⟩
        obtain ⟨b19, e20, h⟩ := h
        refine ⟨b19, e20, ?_⟩
        obtain ⟨c21, h⟩ := h
        refine ⟨c21, ?_⟩
        obtain ⟨c22, h⟩ := h
        refine ⟨c22, ?_⟩
        intro x24 e23
        have h := h x24 e23
        refine cm_X11_good (kh_X11_good h) h (fun x25 x26 hp h g27 => ?_)
        have h := h g27
        have K := kh_tr K hp.2
        exact ⟨h, K⟩
      · intro c28
        have h := h.2.1 c28
        obtain ⟨b29, e30, h⟩ := h
        refine ⟨b29, e30, ?_⟩
        obtain ⟨c31, h⟩ := h
        refine ⟨c31, ?_⟩
        obtain ⟨b32, e33, h⟩ := h
        refine ⟨b32, e33, ?_⟩
        obtain ⟨c34, h⟩ := h
        refine ⟨c34, ?_⟩
        obtain ⟨c35, h⟩ := h
        refine ⟨c35, ?_⟩
        intro x37 e36
        have h := h x37 e36
        refine cm_X11_good (kh_X11_good h) h (fun x38 x39 hp h g40 => ?_)
        have h := h g40
        have K := kh_tr K hp.2
        exact ⟨h, K⟩
      · intro c41
        have h := h.2.2.1 c41
        obtain ⟨b42, e43, h⟩ := h
        refine ⟨b42, e43, ?_⟩
        obtain ⟨c44, h⟩ := h
        refine ⟨c44, ?_⟩
        obtain ⟨b45, e46, h⟩ := h
        refine ⟨b45, e46, ?_⟩
        obtain ⟨c47, h⟩ := h
        refine ⟨c47, ?_⟩
        obtain ⟨c48, h⟩ := h
        refine ⟨c48, ?_⟩
        intro x50 e49
        have h := h x50 e49
        refine cm_X11_good (kh_X11_good h) h (fun x51 x52 hp h g53 => ?_)
        have h := h g53
        have K := kh_tr K hp.2
        exact ⟨h, K⟩
      · intro c54
        have h := h.2.2.2.1 c54
        obtain ⟨b55, e56, h⟩ := h
        refine ⟨b55, e56, ?_⟩
        obtain ⟨c57, h⟩ := h
        refine ⟨c57, ?_⟩
        obtain ⟨b58, e59, h⟩ := h
        refine ⟨b58, e59, ?_⟩
        obtain ⟨c60, h⟩ := h
        refine ⟨c60, ?_⟩
        obtain ⟨c61, h⟩ := h
        refine ⟨c61, ?_⟩
        intro x63 e62
        have h := h x63 e62
        refine cm_X11_good (kh_X11_good h) h (fun x64 x65 hp h g66 => ?_)
        have h := h g66
        have K := kh_tr K hp.2
        exact ⟨h, K⟩
      · intro c67
        have h := h.2.2.2.2.1 c67
        obtain ⟨b68, e69, h⟩ := h
        refine ⟨b68, e69, ?_⟩
        obtain ⟨c70, h⟩ := h
        refine ⟨c70, ?_⟩
        obtain ⟨b71, e72, h⟩ := h
        refine ⟨b71, e72, ?_⟩
        obtain ⟨c73, h⟩ := h
        refine ⟨c73, ?_⟩
        obtain ⟨c74, h⟩ := h
        refine ⟨c74, ?_⟩
        intro x76 e75
        have h := h x76 e75
        refine cm_X11_good (kh_X11_good h) h (fun x77 x78 hp h g79 => ?_)
        have h := h g79
        have K := kh_tr K hp.2
        exact ⟨h, K⟩
      · intro c80
        have h := h.2.2.2.2.2.1 c80
        obtain ⟨b81, e82, h⟩ := h
        refine ⟨b81, e82, ?_⟩
        obtain ⟨c83, h⟩ := h
        refine ⟨c83, ?_⟩
        obtain ⟨b84, e85, h⟩ := h
        refine ⟨b84, e85, ?_⟩
        obtain ⟨c86, h⟩ := h
        refine ⟨c86, ?_⟩
        obtain ⟨c87, h⟩ := h
        refine ⟨c87, ?_⟩
        intro x89 e88
        have h := h x89 e88
        refine cm_X11_good (kh_X11_good h) h (fun x90 x91 hp h g92 => ?_)
        have h := h g92
        have K := kh_tr K hp.2
        exact ⟨h, K⟩
      · intro c93
        have h := h.2.2.2.2.2.2 c93
        obtain ⟨b94, e95, h⟩ := h
        refine ⟨b94, e95, ?_⟩
        obtain ⟨c96, h⟩ := h
        refine ⟨c96, ?_⟩
        obtain ⟨b97, e98, h⟩ := h
        refine ⟨b97, e98, ?_⟩
        obtain ⟨c99, h⟩ := h
        refine ⟨c99, ?_⟩
        obtain ⟨c100, h⟩ := h
        refine ⟨c100, ?_⟩
        intro x102 e101
        have h := h x102 e101
        refine cm_X11_good (kh_X11_good h) h (fun x103 x104 hp h g105 => ?_)
        have h := h g105
        have K := kh_tr K hp.2
        exact ⟨h, K⟩
    · intro c106
      have h := h.2 c106
      exact kh_X11_walker_23 h K
theorem kh_X11_walker {Q : Int32 → HS → Prop} {v0 : Nat} {v1 : Int32} {v2 : Int32} {S : HS} (h : P_X11_walker v0 v1 v2 Q S) : P_X11_walker v0 v1 v2 (fun r T => Q r T ∧ KH S T) S := kh_X11_walker_0 h (kh_rf S)
set_option maxRecDepth 20000 in
set_option maxHeartbeats 1000000 in
theorem kh_X11_wet_0 {Q : Int64 → HS → Prop} {v0 : Nat} {v1 : Int32} {v2 : Int32} {v3 : Int32} {v4 : Int32} {v5 : Int32} {v6 : Int32} {S0 S : HS} (h : P_X11_wet_0 Q v0 v1 v2 v3 v4 v5 v6 S) (K : KH S0 S) : P_X11_wet_0 (fun r T => Q r T ∧ KH S0 T) v0 v1 v2 v3 v4 v5 v6 S := by
  delta P_X11_wet_0 at h ⊢
  obtain ⟨c1, h⟩ := h
  refine ⟨c1, ?_⟩
  intro x3 e2
  have h := h x3 e2
  have K := kh_I K e2
  refine cm_X11_refuses (kh_X11_refuses h) h (fun x4 x5 hp h g6 => ?_)
  have h := h g6
  have K := kh_tr K hp.2
  refine ⟨?_, ?_⟩
  · intro c7
    have h := h.1 c7
    refine cm_X11_wetOf (kh_X11_wetOf h) h (fun x8 x9 hp h g10 => ?_)
    have h := h g10
    have K := kh_tr K hp.2
    refine cm_X11_told (kh_X11_told h) h (fun x11 x12 hp h g13 => ?_)
    have h := h g13
    have K := kh_tr K hp.2
    exact ⟨h, K⟩
  · intro c14
    have h := h.2 c14
    refine cm_X11_refused (kh_X11_refused h) h (fun x15 x16 hp h g17 => ?_)
    have h := h g17
    have K := kh_tr K hp.2
    exact ⟨h, K⟩
theorem kh_X11_wet {Q : Int64 → HS → Prop} {v0 : Nat} {v1 : Int32} {v2 : Int32} {v3 : Int32} {v4 : Int32} {v5 : Int32} {v6 : Int32} {S : HS} (h : P_X11_wet v0 v1 v2 v3 v4 v5 v6 Q S) : P_X11_wet v0 v1 v2 v3 v4 v5 v6 (fun r T => Q r T ∧ KH S T) S := kh_X11_wet_0 h (kh_rf S)
set_option maxRecDepth 20000 in
set_option maxHeartbeats 1000000 in
theorem kh_X11_wetness_41 {Q : Int64 → HS → Prop} {v1 : Int32} {s0 : Nat} {s1 : Int64} {S0 S : HS} (h : P_X11_wetness_41 Q v1 s0 s1 S) (K : KH S0 S) : P_X11_wetness_41 (fun r T => Q r T ∧ KH S0 T) v1 s0 s1 S := by
  delta P_X11_wetness_41 at h ⊢
  obtain ⟨c1, h⟩ := h
  refine ⟨c1, ?_⟩
  refine cm_X11_told (kh_X11_told h) h (fun x2 x3 hp h g4 => ?_)
  have h := h g4
  have K := kh_tr K hp.2
  exact ⟨h, K⟩
set_option maxRecDepth 20000 in
set_option maxHeartbeats 1000000 in
theorem kh_X11_wetness_0 {Q : Int64 → HS → Prop} {v0 : Nat} {v1 : Int32} {S0 S : HS} (h : P_X11_wetness_0 Q v0 v1 S) (K : KH S0 S) : P_X11_wetness_0 (fun r T => Q r T ∧ KH S0 T) v0 v1 S := by
  delta P_X11_wetness_0 at h ⊢
  obtain ⟨c1, h⟩ := h
  refine ⟨c1, ?_⟩
  intro x3 e2
  have h := h x3 e2
  have K := kh_I K e2
  refine cm_X11_isDay (kh_X11_isDay h) h (fun x4 x5 hp h g6 g7 => ?_)
  have h := h g6 g7
  have K := kh_tr K hp.2
  refine ⟨?_, ?_⟩
  · intro c8
    have h := h.1 c8
    refine cm_X11_gotInAll (kh_X11_gotInAll h) h (fun x9 x10 hp h g11 => ?_)
    have h := h g11
    have K := kh_tr K hp.2
    refine cm_X11_holds (kh_X11_holds h) h (fun x12 x13 hp h g14 => ?_)
    have h := h g14
    have K := kh_tr K hp.2
    intro x16 e15
    have h := h x16 e15
    refine ⟨?_, ?_⟩
    · intro c17
      have h := h.1 c17
      exact kh_X11_wetness_41 h K
    · intro c18
      have h := h.2 c18
      exact kh_X11_wetness_41 h K
  · intro c19
    have h := h.2 c19
    refine cm_X11_refused (kh_X11_refused h) h (fun x20 x21 hp h g22 => ?_)
    have h := h g22
    have K := kh_tr K hp.2
    exact ⟨h, K⟩
theorem kh_X11_wetness {Q : Int64 → HS → Prop} {v0 : Nat} {v1 : Int32} {S : HS} (h : P_X11_wetness v0 v1 Q S) : P_X11_wetness v0 v1 (fun r T => Q r T ∧ KH S T) S := kh_X11_wetness_0 h (kh_rf S)
set_option maxRecDepth 20000 in
set_option maxHeartbeats 1000000 in
theorem kh_X11_where_0 {Q : Int32 → HS → Prop} {v0 : Nat} {S0 S : HS} (h : P_X11_where_0 Q v0 S) (K : KH S0 S) : P_X11_where_0 (fun r T => Q r T ∧ KH S0 T) v0 S := by
  delta P_X11_where_0 at h ⊢
  obtain ⟨c1, h⟩ := h
  refine ⟨c1, ?_⟩
  intro x3 e2
  have h := h x3 e2
  have K := kh_I K e2
  intro x5 e4
  have h := h x5 e4
  exact ⟨h, K⟩
theorem kh_X11_where {Q : Int32 → HS → Prop} {v0 : Nat} {S : HS} (h : P_X11_where v0 Q S) : P_X11_where v0 (fun r T => Q r T ∧ KH S T) S := kh_X11_where_0 h (kh_rf S)
set_option maxRecDepth 20000 in
set_option maxHeartbeats 1000000 in
theorem kh_X11_worst_39 {Q : Int32 → HS → Prop} {v0 : Nat} {S0 S : HS} (h : P_X11_worst_39 Q v0 S) (K : KH S0 S) : P_X11_worst_39 (fun r T => Q r T ∧ KH S0 T) v0 S := by
  delta P_X11_worst_39 at h ⊢
  obtain ⟨c1, h⟩ := h
  refine ⟨c1, ?_⟩
  refine cm_X11_refused (kh_X11_refused h) h (fun x2 x3 hp h g4 => ?_)
  have h := h g4
  have K := kh_tr K hp.2
  exact ⟨h, K⟩
set_option maxRecDepth 20000 in
set_option maxHeartbeats 1000000 in
theorem kh_X11_worst_106 {Q : Int32 → HS → Prop} {X62 X62_2 : Nat → Int32 → Int32 → Int32 → Int32 → Int32 → Int32 → HS → Prop} {v0 : Nat} {v1 : Int32} {v2 : Int32} {v3 : Int32} {v4 : Int32} {v5 : Int32} {v6 : Int32} {S0 S : HS} (h : P_X11_worst_106 Q X62 v0 v1 v2 v3 v4 v5 v6 S) (K : KH S0 S) (hX62 : ∀ (u0 : Nat) (u1 : Int32) (u2 : Int32) (u3 : Int32) (u4 : Int32) (u5 : Int32) (u6 : Int32) (u7 : HS), X62 u0 u1 u2 u3 u4 u5 u6 u7 → KH S0 u7 → X62_2 u0 u1 u2 u3 u4 u5 u6 u7) : P_X11_worst_106 (fun r T => Q r T ∧ KH S0 T) X62_2 v0 v1 v2 v3 v4 v5 v6 S := by
  delta P_X11_worst_106 at h ⊢
  intro x2 e1
  have h := h x2 e1
  exact hX62 _ _ _ _ _ _ _ _ h K
set_option maxRecDepth 20000 in
set_option maxHeartbeats 1000000 in
theorem khB_X11_worst_62 {Q : Int32 → HS → Prop} {X62 X62_2 : Nat → Int32 → Int32 → Int32 → Int32 → Int32 → Int32 → HS → Prop} {v0 : Nat} {v1 : Int32} {v2 : Int32} {v3 : Int32} {v4 : Int32} {v5 : Int32} {v6 : Int32} {S0 S : HS} (h : B_X11_worst_62 Q X62 v0 v1 v2 v3 v4 v5 v6 S) (K : KH S0 S) (hX62 : ∀ (u0 : Nat) (u1 : Int32) (u2 : Int32) (u3 : Int32) (u4 : Int32) (u5 : Int32) (u6 : Int32) (u7 : HS), X62 u0 u1 u2 u3 u4 u5 u6 u7 → KH S0 u7 → X62_2 u0 u1 u2 u3 u4 u5 u6 u7) : B_X11_worst_62 (fun r T => Q r T ∧ KH S0 T) X62_2 v0 v1 v2 v3 v4 v5 v6 S := by
  delta B_X11_worst_62 at h ⊢
  obtain ⟨c1, h⟩ := h
  refine ⟨c1, ?_⟩
  obtain ⟨b2, e3, h⟩ := h
  refine ⟨b2, e3, ?_⟩
  obtain ⟨c4, h⟩ := h
  refine ⟨c4, ?_⟩
  obtain ⟨b5, e6, h⟩ := h
  refine ⟨b5, e6, ?_⟩
  obtain ⟨c7, h⟩ := h
  refine ⟨c7, ?_⟩
  obtain ⟨c8, h⟩ := h
  refine ⟨c8, ?_⟩
  intro x10 e9
  have h := h x10 e9
  refine ⟨?_, ?_⟩
  · intro c11
    have h := h.1 c11
    refine cm_X11_good (kh_X11_good h) h (fun x12 x13 hp h g14 => ?_)
    have h := h g14
    have K := kh_tr K hp.2
    exact ⟨h, K⟩
  · intro c15
    have h := h.2 c15
    refine cm_X11_wetOf (kh_X11_wetOf h) h (fun x16 x17 hp h g18 => ?_)
    have h := h g18
    have K := kh_tr K hp.2
    refine cm_X11_wetOf (kh_X11_wetOf h) h (fun x19 x20 hp h g21 => ?_)
    have h := h g21
    have K := kh_tr K hp.2
    refine ⟨?_, ?_⟩
    · intro c22
      have h := h.1 c22
      exact kh_X11_worst_106 h K hX62
    · intro c23
      have h := h.2 c23
      exact kh_X11_worst_106 h K hX62
theorem kh_X11_worst_62 {Q : Int32 → HS → Prop} {v0 : Nat} {v1 : Int32} {v2 : Int32} {v3 : Int32} {v4 : Int32} {v5 : Int32} {v6 : Int32} {S0 S : HS} (h : P_X11_worst_62 Q v0 v1 v2 v3 v4 v5 v6 S) (K : KH S0 S) : P_X11_worst_62 (fun r T => Q r T ∧ KH S0 T) v0 v1 v2 v3 v4 v5 v6 S := h (fun v0 v1 v2 v3 v4 v5 v6 S => KH S0 S → P_X11_worst_62 (fun r T => Q r T ∧ KH S0 T) v0 v1 v2 v3 v4 v5 v6 S) (fun v0 v1 v2 v3 v4 v5 v6 S hB K => fd_X11_worst_62 (khB_X11_worst_62 hB K (fun _ _ _ _ _ _ _ _ hx K => hx K))) K
set_option maxRecDepth 20000 in
set_option maxHeartbeats 1000000 in
theorem kh_X11_worst_0 {Q : Int32 → HS → Prop} {v0 : Nat} {v1 : Int32} {v2 : Int32} {v3 : Int32} {v4 : Int32} {S0 S : HS} (h : P_X11_worst_0 Q v0 v1 v2 v3 v4 S) (K : KH S0 S) : P_X11_worst_0 (fun r T => Q r T ∧ KH S0 T) v0 v1 v2 v3 v4 S := by
  delta P_X11_worst_0 at h ⊢
  obtain ⟨c1, h⟩ := h
  refine ⟨c1, ?_⟩
  intro x3 e2
  have h := h x3 e2
  have K := kh_I K e2
  refine cm_X11_isWalker (kh_X11_isWalker h) h (fun x4 x5 hp h g6 g7 => ?_)
  have h := h g6 g7
  have K := kh_tr K hp.2
  refine ⟨?_, ?_⟩
  · intro c8
    have h := h.1 c8
    exact kh_X11_worst_39 h K
  · intro c9
    have h := h.2 c9
    refine cm_X11_isRoad (kh_X11_isRoad h) h (fun x10 x11 hp h g12 g13 => ?_)
    have h := h g12 g13
    have K := kh_tr K hp.2
    refine ⟨?_, ?_⟩
    · intro c14
      have h := h.1 c14
      exact kh_X11_worst_39 h K
    · intro c15
      have h := h.2 c15
      refine cm_X11_in (kh_X11_in h) h (fun x16 x17 hp h g18 g19 => ?_)
      have h := h g18 g19
      have K := kh_tr K hp.2
      refine ⟨?_, ?_⟩
      · intro c20
        have h := h.1 c20
        exact kh_X11_worst_39 h K
      · intro c21
        have h := h.2 c21
        refine cm_X11_isHour (kh_X11_isHour h) h (fun x22 x23 hp h g24 g25 => ?_)
        have h := h g24 g25
        have K := kh_tr K hp.2
        refine ⟨?_, ?_⟩
        · intro c26
          have h := h.1 c26
          obtain ⟨b27, e28, h⟩ := h
          refine ⟨b27, e28, ?_⟩
          obtain ⟨c29, h⟩ := h
          refine ⟨c29, ?_⟩
          obtain ⟨b30, e31, h⟩ := h
          refine ⟨b30, e31, ?_⟩
          obtain ⟨c32, h⟩ := h
          refine ⟨c32, ?_⟩
          obtain ⟨c33, h⟩ := h
          refine ⟨c33, ?_⟩
          intro x35 e34
          have h := h x35 e34
          intro x37 e36
          have h := h x37 e36
          exact kh_X11_worst_62 h K
        · intro c38
          have h := h.2 c38
          exact kh_X11_worst_39 h K
theorem kh_X11_worst {Q : Int32 → HS → Prop} {v0 : Nat} {v1 : Int32} {v2 : Int32} {v3 : Int32} {v4 : Int32} {S : HS} (h : P_X11_worst v0 v1 v2 v3 v4 Q S) : P_X11_worst v0 v1 v2 v3 v4 (fun r T => Q r T ∧ KH S T) S := kh_X11_worst_0 h (kh_rf S)
set_option maxRecDepth 20000 in
set_option maxHeartbeats 1000000 in
theorem kh_X5_turnOf_17 {Q : Int32 → HS → Prop} {v2 : Nat} {s0 : Int32} {S0 S : HS} (h : P_X5_turnOf_17 Q v2 s0 S) (K : KH S0 S) : P_X5_turnOf_17 (fun r T => Q r T ∧ KH S0 T) v2 s0 S := by
  delta P_X5_turnOf_17 at h ⊢
  obtain ⟨c1, h⟩ := h
  refine ⟨c1, ?_⟩
  intro x3 e2
  have h := h x3 e2
  exact ⟨h, K⟩
set_option maxRecDepth 20000 in
set_option maxHeartbeats 1000000 in
theorem kh_X5_turnOf_0 {Q : Int32 → HS → Prop} {v0 : Nat} {v1 : Int32} {v2 : Nat} {S0 S : HS} (h : P_X5_turnOf_0 Q v0 v1 v2 S) (K : KH S0 S) : P_X5_turnOf_0 (fun r T => Q r T ∧ KH S0 T) v0 v1 v2 S := by
  delta P_X5_turnOf_0 at h ⊢
  refine ⟨?_, ?_⟩
  · intro c1
    have h := h.1 c1
    obtain ⟨c2, h⟩ := h
    refine ⟨c2, ?_⟩
    intro x4 e3
    have h := h x4 e3
    exact kh_X5_turnOf_17 h K
  · intro c5
    have h := h.2 c5
    obtain ⟨c6, h⟩ := h
    refine ⟨c6, ?_⟩
    intro x8 e7
    have h := h x8 e7
    exact kh_X5_turnOf_17 h K
theorem kh_X5_turnOf {Q : Int32 → HS → Prop} {v0 : Nat} {v1 : Int32} {v2 : Nat} {S : HS} (h : P_X5_turnOf v0 v1 v2 Q S) : P_X5_turnOf v0 v1 v2 (fun r T => Q r T ∧ KH S T) S := kh_X5_turnOf_0 h (kh_rf S)
set_option maxRecDepth 20000 in
set_option maxHeartbeats 1000000 in
theorem kh_X5_airAlong_0 {Q : Int32 → HS → Prop} {v0 : Nat} {v1 : Int32} {v2 : Nat} {S0 S : HS} (h : P_X5_airAlong_0 Q v0 v1 v2 S) (K : KH S0 S) : P_X5_airAlong_0 (fun r T => Q r T ∧ KH S0 T) v0 v1 v2 S := by
  delta P_X5_airAlong_0 at h ⊢
  obtain ⟨c1, h⟩ := h
  refine ⟨c1, ?_⟩
  refine cm_X5_turnOf (kh_X5_turnOf h) h (fun x2 x3 hp h g4 => ?_)
  have h := h g4
  have K := kh_tr K hp.2
  refine ⟨?_, ?_⟩
  · intro c5
    have h := h.1 c5
    refine ⟨?_, ?_⟩
    · intro c6
      have h := h.1 c6
      exact ⟨h, K⟩
    · intro c7
      have h := h.2 c7
      obtain ⟨c8, h⟩ := h
      refine ⟨c8, ?_⟩
      intro x10 e9
      have h := h x10 e9
      exact ⟨h, K⟩
  · intro c11
    have h := h.2 c11
    obtain ⟨c12, h⟩ := h
    refine ⟨c12, ?_⟩
    intro x14 e13
    have h := h x14 e13
    exact ⟨h, K⟩
theorem kh_X5_airAlong {Q : Int32 → HS → Prop} {v0 : Nat} {v1 : Int32} {v2 : Nat} {S : HS} (h : P_X5_airAlong v0 v1 v2 Q S) : P_X5_airAlong v0 v1 v2 (fun r T => Q r T ∧ KH S T) S := kh_X5_airAlong_0 h (kh_rf S)
set_option maxRecDepth 20000 in
set_option maxHeartbeats 1000000 in
theorem kh_X1_lay_130 {Q : HS → Prop} {v0 : Nat} {v3 : Nat} {v7 : Int64} {v9 : Int32} {s0 : Nat} {s1 : Int32} {s2 : Int64} {S0 S : HS} (h : P_X1_lay_130 Q v0 v3 v7 v9 s0 s1 s2 S) (K : KH S0 S) : P_X1_lay_130 (fun T => Q T ∧ KH S0 T) v0 v3 v7 v9 s0 s1 s2 S := by
  delta P_X1_lay_130 at h ⊢
  obtain ⟨c1, h⟩ := h
  refine ⟨c1, ?_⟩
  obtain ⟨c2, h⟩ := h
  refine ⟨c2, ?_⟩
  intro x4 e3
  have h := h x4 e3
  have K := kh_J K e3
  obtain ⟨c5, h⟩ := h
  refine ⟨c5, ?_⟩
  obtain ⟨b6, e7, h⟩ := h
  refine ⟨b6, e7, ?_⟩
  refine ⟨?_, ?_⟩
  · intro c8
    have h := h.1 c8
    obtain ⟨c9, h⟩ := h
    refine ⟨c9, ?_⟩
    obtain ⟨c10, h⟩ := h
    refine ⟨c10, ?_⟩
    intro x12 e11
    have h := h x12 e11
    have K := kh_J K e11
    exact ⟨h, K⟩
  · intro c13
    have h := h.2 c13
    obtain ⟨c14, h⟩ := h
    refine ⟨c14, ?_⟩
    intro x16 e15
    have h := h x16 e15
    obtain ⟨c17, h⟩ := h
    refine ⟨c17, ?_⟩
    intro x19 e18
    have h := h x19 e18
    obtain ⟨c20, h⟩ := h
    refine ⟨c20, ?_⟩
    intro x22 e21
    have h := h x22 e21
    have K := kh_J K e21
    exact ⟨h, K⟩
set_option maxRecDepth 20000 in
set_option maxHeartbeats 1000000 in
theorem kh_X1_lay_27 {Q : HS → Prop} {v0 : Nat} {v1 : Nat} {v2 : Int32} {v3 : Nat} {v4 : Int32} {s0 : Int64} {S0 S : HS} (h : P_X1_lay_27 Q v0 v1 v2 v3 v4 s0 S) (K : KH S0 S) : P_X1_lay_27 (fun T => Q T ∧ KH S0 T) v0 v1 v2 v3 v4 s0 S := by
  delta P_X1_lay_27 at h ⊢
  obtain ⟨c1, h⟩ := h
  refine ⟨c1, ?_⟩
  intro x3 e2
  have h := h x3 e2
  intro x5 e4
  have h := h x5 e4
  obtain ⟨c6, h⟩ := h
  refine ⟨c6, ?_⟩
  refine cm_X5_turnOf (kh_X5_turnOf h) h (fun x7 x8 hp h g9 => ?_)
  have h := h g9
  have K := kh_tr K hp.2
  refine cm_X5_airAlong (kh_X5_airAlong h) h (fun x10 x11 hp h g12 => ?_)
  have h := h g12
  have K := kh_tr K hp.2
  obtain ⟨c13, h⟩ := h
  refine ⟨c13, ?_⟩
  obtain ⟨b14, e15, h⟩ := h
  refine ⟨b14, e15, ?_⟩
  intro x17 e16
  have h := h x17 e16
  obtain ⟨c18, h⟩ := h
  refine ⟨c18, ?_⟩
  intro x20 e19
  have h := h x20 e19
  obtain ⟨c21, h⟩ := h
  refine ⟨c21, ?_⟩
  intro x23 e22
  have h := h x23 e22
  have K := kh_J K e22
  obtain ⟨b24, e25, h⟩ := h
  refine ⟨b24, e25, ?_⟩
  intro x27 e26
  have h := h x27 e26
  obtain ⟨c28, h⟩ := h
  refine ⟨c28, ?_⟩
  intro x30 e29
  have h := h x30 e29
  obtain ⟨c31, h⟩ := h
  refine ⟨c31, ?_⟩
  intro x33 e32
  have h := h x33 e32
  have K := kh_J K e32
  obtain ⟨b34, e35, h⟩ := h
  refine ⟨b34, e35, ?_⟩
  intro x37 e36
  have h := h x37 e36
  obtain ⟨c38, h⟩ := h
  refine ⟨c38, ?_⟩
  intro x40 e39
  have h := h x40 e39
  obtain ⟨c41, h⟩ := h
  refine ⟨c41, ?_⟩
  intro x43 e42
  have h := h x43 e42
  have K := kh_J K e42
  obtain ⟨b44, e45, h⟩ := h
  refine ⟨b44, e45, ?_⟩
  refine ⟨?_, ?_⟩
  · intro c46
    have h := h.1 c46
    exact kh_X1_lay_130 h K
  · intro c47
    have h := h.2 c47
    intro x49 e48
    have h := h x49 e48
    exact kh_X1_lay_130 h K
set_option maxRecDepth 20000 in
set_option maxHeartbeats 1000000 in
theorem kh_X1_lay_0 {Q : HS → Prop} {v0 : Nat} {v1 : Nat} {v2 : Int32} {v3 : Nat} {v4 : Int32} {S0 S : HS} (h : P_X1_lay_0 Q v0 v1 v2 v3 v4 S) (K : KH S0 S) : P_X1_lay_0 (fun T => Q T ∧ KH S0 T) v0 v1 v2 v3 v4 S := by
  delta P_X1_lay_0 at h ⊢
  refine ⟨?_, ?_⟩
  · intro c1
    have h := h.1 c1
    exact kh_X1_lay_27 h K
  · intro c2
    have h := h.2 c2
    obtain ⟨c3, h⟩ := h
    refine ⟨c3, ?_⟩
    intro x5 e4
    have h := h x5 e4
    intro x7 e6
    have h := h x7 e6
    obtain ⟨c8, h⟩ := h
    refine ⟨c8, ?_⟩
    intro x10 e9
    have h := h x10 e9
    exact kh_X1_lay_27 h K
theorem kh_X1_lay {Q : HS → Prop} {v0 : Nat} {v1 : Nat} {v2 : Int32} {v3 : Nat} {v4 : Int32} {S : HS} (h : P_X1_lay v0 v1 v2 v3 v4 Q S) : P_X1_lay v0 v1 v2 v3 v4 (fun T => Q T ∧ KH S T) S := kh_X1_lay_0 h (kh_rf S)
set_option maxRecDepth 20000 in
set_option maxHeartbeats 1000000 in
theorem kh_X6_shield_0 {Q : Int32 → HS → Prop} {v0 : Nat} {S0 S : HS} (h : P_X6_shield_0 Q v0 S) (K : KH S0 S) : P_X6_shield_0 (fun r T => Q r T ∧ KH S0 T) v0 S := by
  delta P_X6_shield_0 at h ⊢
  obtain ⟨c1, h⟩ := h
  refine ⟨c1, ?_⟩
  intro x3 e2
  have h := h x3 e2
  refine ⟨?_, ?_⟩
  · intro c4
    have h := h.1 c4
    exact ⟨h, K⟩
  · intro c5
    have h := h.2 c5
    intro x7 e6
    have h := h x7 e6
    exact ⟨h, K⟩
theorem kh_X6_shield {Q : Int32 → HS → Prop} {v0 : Nat} {S : HS} (h : P_X6_shield v0 Q S) : P_X6_shield v0 (fun r T => Q r T ∧ KH S T) S := kh_X6_shield_0 h (kh_rf S)
set_option maxRecDepth 20000 in
set_option maxHeartbeats 1000000 in
theorem kh_X1_isForward_0 {Q : Int32 → HS → Prop} {v0 : Nat} {v1 : Nat} {S0 S : HS} (h : P_X1_isForward_0 Q v0 v1 S) (K : KH S0 S) : P_X1_isForward_0 (fun r T => Q r T ∧ KH S0 T) v0 v1 S := by
  delta P_X1_isForward_0 at h ⊢
  obtain ⟨c1, h⟩ := h
  refine ⟨c1, ?_⟩
  obtain ⟨b2, e3, h⟩ := h
  refine ⟨b2, e3, ?_⟩
  obtain ⟨c4, h⟩ := h
  refine ⟨c4, ?_⟩
  obtain ⟨c5, h⟩ := h
  refine ⟨c5, ?_⟩
  intro x7 e6
  have h := h x7 e6
  obtain ⟨c8, h⟩ := h
  refine ⟨c8, ?_⟩
  refine cm_X6_shield (kh_X6_shield h) h (fun x9 x10 hp h g11 => ?_)
  have h := h g11
  have K := kh_tr K hp.2
  intro x13 e12
  have h := h x13 e12
  intro x15 e14
  have h := h x15 e14
  intro x17 e16
  have h := h x17 e16
  obtain ⟨b18, e19, h⟩ := h
  refine ⟨b18, e19, ?_⟩
  obtain ⟨c20, h⟩ := h
  refine ⟨c20, ?_⟩
  obtain ⟨c21, h⟩ := h
  refine ⟨c21, ?_⟩
  intro x23 e22
  have h := h x23 e22
  refine cm_X6_shield (kh_X6_shield h) h (fun x24 x25 hp h g26 => ?_)
  have h := h g26
  have K := kh_tr K hp.2
  intro x28 e27
  have h := h x28 e27
  intro x30 e29
  have h := h x30 e29
  intro x32 e31
  have h := h x32 e31
  refine ⟨?_, ?_⟩
  · intro c33
    have h := h.1 c33
    exact ⟨h, K⟩
  · intro c34
    have h := h.2 c34
    exact ⟨h, K⟩
theorem kh_X1_isForward {Q : Int32 → HS → Prop} {v0 : Nat} {v1 : Nat} {S : HS} (h : P_X1_isForward v0 v1 Q S) : P_X1_isForward v0 v1 (fun r T => Q r T ∧ KH S T) S := kh_X1_isForward_0 h (kh_rf S)
set_option maxRecDepth 20000 in
set_option maxHeartbeats 1000000 in
theorem kh_X1_soak_35 {Q : Int64 → HS → Prop} {v0 : Nat} {v1 : Nat} {v2 : Int32} {v3 : Int32} {v5 : Int32} {s0 : Int32} {S0 S : HS} (h : P_X1_soak_35 Q v0 v1 v2 v3 v5 s0 S) (K : KH S0 S) : P_X1_soak_35 (fun r T => Q r T ∧ KH S0 T) v0 v1 v2 v3 v5 s0 S := by
  delta P_X1_soak_35 at h ⊢
  obtain ⟨c1, h⟩ := h
  refine ⟨c1, ?_⟩
  obtain ⟨b2, e3, h⟩ := h
  refine ⟨b2, e3, ?_⟩
  obtain ⟨b4, e5, h⟩ := h
  refine ⟨b4, e5, ?_⟩
  obtain ⟨c6, h⟩ := h
  refine ⟨c6, ?_⟩
  obtain ⟨c7, h⟩ := h
  refine ⟨c7, ?_⟩
  intro x9 e8
  have h := h x9 e8
  obtain ⟨c10, h⟩ := h
  refine ⟨c10, ?_⟩
  intro x12 e11
  have h := h x12 e11
  intro x14 e13
  have h := h x14 e13
  obtain ⟨c15, h⟩ := h
  refine ⟨c15, ?_⟩
  intro x17 e16
  have h := h x17 e16
  obtain ⟨c18, h⟩ := h
  refine ⟨c18, ?_⟩
  intro x20 e19
  have h := h x20 e19
  have K := kh_J K e19
  obtain ⟨b21, e22, h⟩ := h
  refine ⟨b21, e22, ?_⟩
  obtain ⟨b23, e24, h⟩ := h
  refine ⟨b23, e24, ?_⟩
  obtain ⟨c25, h⟩ := h
  refine ⟨c25, ?_⟩
  obtain ⟨c26, h⟩ := h
  refine ⟨c26, ?_⟩
  intro x28 e27
  have h := h x28 e27
  intro x30 e29
  have h := h x30 e29
  intro x32 e31
  have h := h x32 e31
  obtain ⟨c33, h⟩ := h
  refine ⟨c33, ?_⟩
  intro x35 e34
  have h := h x35 e34
  obtain ⟨c36, h⟩ := h
  refine ⟨c36, ?_⟩
  intro x38 e37
  have h := h x38 e37
  have K := kh_J K e37
  obtain ⟨b39, e40, h⟩ := h
  refine ⟨b39, e40, ?_⟩
  obtain ⟨b41, e42, h⟩ := h
  refine ⟨b41, e42, ?_⟩
  obtain ⟨c43, h⟩ := h
  refine ⟨c43, ?_⟩
  obtain ⟨c44, h⟩ := h
  refine ⟨c44, ?_⟩
  intro x46 e45
  have h := h x46 e45
  intro x48 e47
  have h := h x48 e47
  intro x50 e49
  have h := h x50 e49
  obtain ⟨c51, h⟩ := h
  refine ⟨c51, ?_⟩
  intro x53 e52
  have h := h x53 e52
  obtain ⟨c54, h⟩ := h
  refine ⟨c54, ?_⟩
  intro x56 e55
  have h := h x56 e55
  have K := kh_J K e55
  obtain ⟨b57, e58, h⟩ := h
  refine ⟨b57, e58, ?_⟩
  obtain ⟨b59, e60, h⟩ := h
  refine ⟨b59, e60, ?_⟩
  obtain ⟨c61, h⟩ := h
  refine ⟨c61, ?_⟩
  obtain ⟨c62, h⟩ := h
  refine ⟨c62, ?_⟩
  intro x64 e63
  have h := h x64 e63
  intro x66 e65
  have h := h x66 e65
  obtain ⟨c67, h⟩ := h
  refine ⟨c67, ?_⟩
  intro x69 e68
  have h := h x69 e68
  obtain ⟨c70, h⟩ := h
  refine ⟨c70, ?_⟩
  intro x72 e71
  have h := h x72 e71
  have K := kh_J K e71
  obtain ⟨b73, e74, h⟩ := h
  refine ⟨b73, e74, ?_⟩
  obtain ⟨b75, e76, h⟩ := h
  refine ⟨b75, e76, ?_⟩
  obtain ⟨c77, h⟩ := h
  refine ⟨c77, ?_⟩
  obtain ⟨c78, h⟩ := h
  refine ⟨c78, ?_⟩
  intro x80 e79
  have h := h x80 e79
  intro x82 e81
  have h := h x82 e81
  obtain ⟨c83, h⟩ := h
  refine ⟨c83, ?_⟩
  intro x85 e84
  have h := h x85 e84
  obtain ⟨c86, h⟩ := h
  refine ⟨c86, ?_⟩
  intro x88 e87
  have h := h x88 e87
  have K := kh_J K e87
  obtain ⟨b89, e90, h⟩ := h
  refine ⟨b89, e90, ?_⟩
  obtain ⟨c91, h⟩ := h
  refine ⟨c91, ?_⟩
  obtain ⟨c92, h⟩ := h
  refine ⟨c92, ?_⟩
  intro x94 e93
  have h := h x94 e93
  obtain ⟨b95, e96, h⟩ := h
  refine ⟨b95, e96, ?_⟩
  obtain ⟨c97, h⟩ := h
  refine ⟨c97, ?_⟩
  obtain ⟨c98, h⟩ := h
  refine ⟨c98, ?_⟩
  intro x100 e99
  have h := h x100 e99
  obtain ⟨b101, e102, h⟩ := h
  refine ⟨b101, e102, ?_⟩
  obtain ⟨c103, h⟩ := h
  refine ⟨c103, ?_⟩
  obtain ⟨c104, h⟩ := h
  refine ⟨c104, ?_⟩
  intro x106 e105
  have h := h x106 e105
  obtain ⟨b107, e108, h⟩ := h
  refine ⟨b107, e108, ?_⟩
  obtain ⟨c109, h⟩ := h
  refine ⟨c109, ?_⟩
  obtain ⟨c110, h⟩ := h
  refine ⟨c110, ?_⟩
  intro x112 e111
  have h := h x112 e111
  obtain ⟨b113, e114, h⟩ := h
  refine ⟨b113, e114, ?_⟩
  obtain ⟨c115, h⟩ := h
  refine ⟨c115, ?_⟩
  obtain ⟨c116, h⟩ := h
  refine ⟨c116, ?_⟩
  intro x118 e117
  have h := h x118 e117
  exact ⟨h, K⟩
set_option maxRecDepth 20000 in
set_option maxHeartbeats 1000000 in
theorem kh_X1_soak_20 {Q : Int64 → HS → Prop} {v0 : Nat} {v1 : Nat} {v2 : Int32} {v3 : Int32} {v4 : Int32} {s0 : Int32} {S0 S : HS} (h : P_X1_soak_20 Q v0 v1 v2 v3 v4 s0 S) (K : KH S0 S) : P_X1_soak_20 (fun r T => Q r T ∧ KH S0 T) v0 v1 v2 v3 v4 s0 S := by
  delta P_X1_soak_20 at h ⊢
  refine ⟨?_, ?_⟩
  · intro c1
    have h := h.1 c1
    exact kh_X1_soak_35 h K
  · intro c2
    have h := h.2 c2
    obtain ⟨c3, h⟩ := h
    refine ⟨c3, ?_⟩
    refine cm_X6_shield (kh_X6_shield h) h (fun x4 x5 hp h g6 => ?_)
    have h := h g6
    have K := kh_tr K hp.2
    exact kh_X1_soak_35 h K
set_option maxRecDepth 20000 in
set_option maxHeartbeats 1000000 in
theorem kh_X1_soak_0 {Q : Int64 → HS → Prop} {v0 : Nat} {v1 : Nat} {v2 : Int32} {v3 : Int32} {S0 S : HS} (h : P_X1_soak_0 Q v0 v1 v2 v3 S) (K : KH S0 S) : P_X1_soak_0 (fun r T => Q r T ∧ KH S0 T) v0 v1 v2 v3 S := by
  delta P_X1_soak_0 at h ⊢
  obtain ⟨c1, h⟩ := h
  refine ⟨c1, ?_⟩
  refine cm_X1_isForward (kh_X1_isForward h) h (fun x2 x3 hp h g4 g5 => ?_)
  have h := h g4 g5
  have K := kh_tr K hp.2
  refine ⟨?_, ?_⟩
  · intro c6
    have h := h.1 c6
    obtain ⟨c7, h⟩ := h
    refine ⟨c7, ?_⟩
    refine cm_X6_shield (kh_X6_shield h) h (fun x8 x9 hp h g10 => ?_)
    have h := h g10
    have K := kh_tr K hp.2
    exact kh_X1_soak_20 h K
  · intro c11
    have h := h.2 c11
    exact kh_X1_soak_20 h K
theorem kh_X1_soak {Q : Int64 → HS → Prop} {v0 : Nat} {v1 : Nat} {v2 : Int32} {v3 : Int32} {S : HS} (h : P_X1_soak v0 v1 v2 v3 Q S) : P_X1_soak v0 v1 v2 v3 (fun r T => Q r T ∧ KH S T) S := kh_X1_soak_0 h (kh_rf S)
set_option maxRecDepth 20000 in
set_option maxHeartbeats 1000000 in
theorem kh_X1_wetOf_0 {Q : Int64 → HS → Prop} {v0 : Nat} {v1 : Nat} {v2 : Nat} {v3 : Int32} {v4 : Nat} {v5 : Int32} {S0 S : HS} (h : P_X1_wetOf_0 Q v0 v1 v2 v3 v4 v5 S) (K : KH S0 S) : P_X1_wetOf_0 (fun r T => Q r T ∧ KH S0 T) v0 v1 v2 v3 v4 v5 S := by
  delta P_X1_wetOf_0 at h ⊢
  obtain ⟨c1, h⟩ := h
  refine ⟨c1, ?_⟩
  refine cm_X1_lay (kh_X1_lay h) h (fun x2 hp h g3 => ?_)
  have h := h g3
  have K := kh_tr K hp.2
  refine cm_X1_soak (kh_X1_soak h) h (fun x4 x5 hp h g6 => ?_)
  have h := h g6
  have K := kh_tr K hp.2
  exact ⟨h, K⟩
theorem kh_X1_wetOf {Q : Int64 → HS → Prop} {v0 : Nat} {v1 : Nat} {v2 : Nat} {v3 : Int32} {v4 : Nat} {v5 : Int32} {S : HS} (h : P_X1_wetOf v0 v1 v2 v3 v4 v5 Q S) : P_X1_wetOf v0 v1 v2 v3 v4 v5 (fun r T => Q r T ∧ KH S T) S := kh_X1_wetOf_0 h (kh_rf S)
set_option maxRecDepth 20000 in
set_option maxHeartbeats 1000000 in
theorem kh_X1_bestSpeed_55 {Q : Int32 → HS → Prop} {X17 X17_2 : Nat → Nat → Nat → Int32 → Nat → Int32 → Int64 → Int32 → HS → Prop} {v0 : Nat} {v1 : Nat} {v2 : Nat} {v3 : Int32} {v4 : Nat} {v5 : Int32} {v6 : Int64} {v8 : Int32} {S0 S : HS} (h : P_X1_bestSpeed_55 Q X17 v0 v1 v2 v3 v4 v5 v6 v8 S) (K : KH S0 S) (hX17 : ∀ (u0 : Nat) (u1 : Nat) (u2 : Nat) (u3 : Int32) (u4 : Nat) (u5 : Int32) (u6 : Int64) (u7 : Int32) (u8 : HS), X17 u0 u1 u2 u3 u4 u5 u6 u7 u8 → KH S0 u8 → X17_2 u0 u1 u2 u3 u4 u5 u6 u7 u8) : P_X1_bestSpeed_55 (fun r T => Q r T ∧ KH S0 T) X17_2 v0 v1 v2 v3 v4 v5 v6 v8 S := by
  delta P_X1_bestSpeed_55 at h ⊢
  intro x2 e1
  have h := h x2 e1
  exact hX17 _ _ _ _ _ _ _ _ _ h K
set_option maxRecDepth 20000 in
set_option maxHeartbeats 1000000 in
theorem khB_X1_bestSpeed_17 {Q : Int32 → HS → Prop} {X17 X17_2 : Nat → Nat → Nat → Int32 → Nat → Int32 → Int64 → Int32 → HS → Prop} {v0 : Nat} {v1 : Nat} {v2 : Nat} {v3 : Int32} {v4 : Nat} {v5 : Int32} {v6 : Int64} {v8 : Int32} {S0 S : HS} (h : B_X1_bestSpeed_17 Q X17 v0 v1 v2 v3 v4 v5 v6 v8 S) (K : KH S0 S) (hX17 : ∀ (u0 : Nat) (u1 : Nat) (u2 : Nat) (u3 : Int32) (u4 : Nat) (u5 : Int32) (u6 : Int64) (u7 : Int32) (u8 : HS), X17 u0 u1 u2 u3 u4 u5 u6 u7 u8 → KH S0 u8 → X17_2 u0 u1 u2 u3 u4 u5 u6 u7 u8) : B_X1_bestSpeed_17 (fun r T => Q r T ∧ KH S0 T) X17_2 v0 v1 v2 v3 v4 v5 v6 v8 S := by
  delta B_X1_bestSpeed_17 at h ⊢
  obtain ⟨c1, h⟩ := h
  refine ⟨c1, ?_⟩
  intro x3 e2
  have h := h x3 e2
  refine ⟨?_, ?_⟩
  · intro c4
    have h := h.1 c4
    exact ⟨h, K⟩
  · intro c5
    have h := h.2 c5
    obtain ⟨c6, h⟩ := h
    refine ⟨c6, ?_⟩
    refine cm_X1_wetOf (kh_X1_wetOf h) h (fun x7 x8 hp h g9 => ?_)
    have h := h g9
    have K := kh_tr K hp.2
    refine ⟨?_, ?_⟩
    · intro c10
      have h := h.1 c10
      exact kh_X1_bestSpeed_55 h K hX17
    · intro c11
      have h := h.2 c11
      exact kh_X1_bestSpeed_55 h K hX17
theorem kh_X1_bestSpeed_17 {Q : Int32 → HS → Prop} {v0 : Nat} {v1 : Nat} {v2 : Nat} {v3 : Int32} {v4 : Nat} {v5 : Int32} {v6 : Int64} {v8 : Int32} {S0 S : HS} (h : P_X1_bestSpeed_17 Q v0 v1 v2 v3 v4 v5 v6 v8 S) (K : KH S0 S) : P_X1_bestSpeed_17 (fun r T => Q r T ∧ KH S0 T) v0 v1 v2 v3 v4 v5 v6 v8 S := h (fun v0 v1 v2 v3 v4 v5 v6 v8 S => KH S0 S → P_X1_bestSpeed_17 (fun r T => Q r T ∧ KH S0 T) v0 v1 v2 v3 v4 v5 v6 v8 S) (fun v0 v1 v2 v3 v4 v5 v6 v8 S hB K => fd_X1_bestSpeed_17 (khB_X1_bestSpeed_17 hB K (fun _ _ _ _ _ _ _ _ _ hx K => hx K))) K
set_option maxRecDepth 20000 in
set_option maxHeartbeats 1000000 in
theorem kh_X1_bestSpeed_0 {Q : Int32 → HS → Prop} {v0 : Nat} {v1 : Nat} {v2 : Nat} {v3 : Int32} {v4 : Nat} {S0 S : HS} (h : P_X1_bestSpeed_0 Q v0 v1 v2 v3 v4 S) (K : KH S0 S) : P_X1_bestSpeed_0 (fun r T => Q r T ∧ KH S0 T) v0 v1 v2 v3 v4 S := by
  delta P_X1_bestSpeed_0 at h ⊢
  obtain ⟨c1, h⟩ := h
  refine ⟨c1, ?_⟩
  intro x3 e2
  have h := h x3 e2
  intro x5 e4
  have h := h x5 e4
  exact kh_X1_bestSpeed_17 h K
theorem kh_X1_bestSpeed {Q : Int32 → HS → Prop} {v0 : Nat} {v1 : Nat} {v2 : Nat} {v3 : Int32} {v4 : Nat} {S : HS} (h : P_X1_bestSpeed v0 v1 v2 v3 v4 Q S) : P_X1_bestSpeed v0 v1 v2 v3 v4 (fun r T => Q r T ∧ KH S T) S := kh_X1_bestSpeed_0 h (kh_rf S)
set_option maxRecDepth 20000 in
set_option maxHeartbeats 1000000 in
theorem kh_X1_legsOf_0 {Q : Int32 → HS → Prop} {v0 : Nat} {S0 S : HS} (h : P_X1_legsOf_0 Q v0 S) (K : KH S0 S) : P_X1_legsOf_0 (fun r T => Q r T ∧ KH S0 T) v0 S := by
  delta P_X1_legsOf_0 at h ⊢
  obtain ⟨c1, h⟩ := h
  refine ⟨c1, ?_⟩
  intro x3 e2
  have h := h x3 e2
  intro x5 e4
  have h := h x5 e4
  exact ⟨h, K⟩
theorem kh_X1_legsOf {Q : Int32 → HS → Prop} {v0 : Nat} {S : HS} (h : P_X1_legsOf v0 Q S) : P_X1_legsOf v0 (fun r T => Q r T ∧ KH S T) S := kh_X1_legsOf_0 h (kh_rf S)
set_option maxRecDepth 20000 in
set_option maxHeartbeats 1000000 in
theorem kh_X6_canGo_0 {Q : Int32 → HS → Prop} {v0 : Nat} {v1 : Int32} {S0 S : HS} (h : P_X6_canGo_0 Q v0 v1 S) (K : KH S0 S) : P_X6_canGo_0 (fun r T => Q r T ∧ KH S0 T) v0 v1 S := by
  delta P_X6_canGo_0 at h ⊢
  obtain ⟨c1, h⟩ := h
  refine ⟨c1, ?_⟩
  intro x3 e2
  have h := h x3 e2
  refine ⟨?_, ?_⟩
  · intro c4
    have h := h.1 c4
    exact ⟨h, K⟩
  · intro c5
    have h := h.2 c5
    intro x7 e6
    have h := h x7 e6
    refine ⟨?_, ?_⟩
    · intro c8
      have h := h.1 c8
      exact ⟨h, K⟩
    · intro c9
      have h := h.2 c9
      refine ⟨?_, ?_⟩
      · intro c10
        have h := h.1 c10
        exact ⟨h, K⟩
      · intro c11
        have h := h.2 c11
        refine ⟨?_, ?_⟩
        · intro c12
          have h := h.1 c12
          exact ⟨h, K⟩
        · intro c13
          have h := h.2 c13
          exact ⟨h, K⟩
theorem kh_X6_canGo {Q : Int32 → HS → Prop} {v0 : Nat} {v1 : Int32} {S : HS} (h : P_X6_canGo v0 v1 Q S) : P_X6_canGo v0 v1 (fun r T => Q r T ∧ KH S T) S := kh_X6_canGo_0 h (kh_rf S)
set_option maxRecDepth 20000 in
set_option maxHeartbeats 1000000 in
theorem kh_X8_hasRoad_0 {Q : Int32 → HS → Prop} {v0 : Nat} {v1 : Int32} {S0 S : HS} (h : P_X8_hasRoad_0 Q v0 v1 S) (K : KH S0 S) : P_X8_hasRoad_0 (fun r T => Q r T ∧ KH S0 T) v0 v1 S := by
  delta P_X8_hasRoad_0 at h ⊢
  refine ⟨?_, ?_⟩
  · intro c1
    have h := h.1 c1
    exact ⟨h, K⟩
  · intro c2
    have h := h.2 c2
    obtain ⟨c3, h⟩ := h
    refine ⟨c3, ?_⟩
    intro x5 e4
    have h := h x5 e4
    refine ⟨?_, ?_⟩
    · intro c6
      have h := h.1 c6
      exact ⟨h, K⟩
    · intro c7
      have h := h.2 c7
      obtain ⟨b8, e9, h⟩ := h
      refine ⟨b8, e9, ?_⟩
      obtain ⟨c10, h⟩ := h
      refine ⟨c10, ?_⟩
      refine ⟨?_, ?_⟩
      · intro c11
        have h := h.1 c11
        exact ⟨h, K⟩
      · intro c12
        have h := h.2 c12
        exact ⟨h, K⟩
theorem kh_X8_hasRoad {Q : Int32 → HS → Prop} {v0 : Nat} {v1 : Int32} {S : HS} (h : P_X8_hasRoad v0 v1 Q S) : P_X8_hasRoad v0 v1 (fun r T => Q r T ∧ KH S T) S := kh_X8_hasRoad_0 h (kh_rf S)
set_option maxRecDepth 20000 in
set_option maxHeartbeats 1000000 in
theorem kh_X8_hasSeen_0 {Q : Int32 → HS → Prop} {v0 : Nat} {v1 : Int32} {S0 S : HS} (h : P_X8_hasSeen_0 Q v0 v1 S) (K : KH S0 S) : P_X8_hasSeen_0 (fun r T => Q r T ∧ KH S0 T) v0 v1 S := by
  delta P_X8_hasSeen_0 at h ⊢
  refine ⟨?_, ?_⟩
  · intro c1
    have h := h.1 c1
    exact ⟨h, K⟩
  · intro c2
    have h := h.2 c2
    obtain ⟨c3, h⟩ := h
    refine ⟨c3, ?_⟩
    intro x5 e4
    have h := h x5 e4
    refine ⟨?_, ?_⟩
    · intro c6
      have h := h.1 c6
      exact ⟨h, K⟩
    · intro c7
      have h := h.2 c7
      obtain ⟨b8, e9, h⟩ := h
      refine ⟨b8, e9, ?_⟩
      obtain ⟨c10, h⟩ := h
      refine ⟨c10, ?_⟩
      refine ⟨?_, ?_⟩
      · intro c11
        have h := h.1 c11
        exact ⟨h, K⟩
      · intro c12
        have h := h.2 c12
        exact ⟨h, K⟩
theorem kh_X8_hasSeen {Q : Int32 → HS → Prop} {v0 : Nat} {v1 : Int32} {S : HS} (h : P_X8_hasSeen v0 v1 Q S) : P_X8_hasSeen v0 v1 (fun r T => Q r T ∧ KH S T) S := kh_X8_hasSeen_0 h (kh_rf S)
set_option maxRecDepth 20000 in
set_option maxHeartbeats 1000000 in
theorem kh_X8_hasWalker_0 {Q : Int32 → HS → Prop} {v0 : Nat} {v1 : Int32} {S0 S : HS} (h : P_X8_hasWalker_0 Q v0 v1 S) (K : KH S0 S) : P_X8_hasWalker_0 (fun r T => Q r T ∧ KH S0 T) v0 v1 S := by
  delta P_X8_hasWalker_0 at h ⊢
  refine ⟨?_, ?_⟩
  · intro c1
    have h := h.1 c1
    exact ⟨h, K⟩
  · intro c2
    have h := h.2 c2
    obtain ⟨c3, h⟩ := h
    refine ⟨c3, ?_⟩
    intro x5 e4
    have h := h x5 e4
    refine ⟨?_, ?_⟩
    · intro c6
      have h := h.1 c6
      exact ⟨h, K⟩
    · intro c7
      have h := h.2 c7
      obtain ⟨b8, e9, h⟩ := h
      refine ⟨b8, e9, ?_⟩
      obtain ⟨c10, h⟩ := h
      refine ⟨c10, ?_⟩
      refine ⟨?_, ?_⟩
      · intro c11
        have h := h.1 c11
        exact ⟨h, K⟩
      · intro c12
        have h := h.2 c12
        exact ⟨h, K⟩
theorem kh_X8_hasWalker {Q : Int32 → HS → Prop} {v0 : Nat} {v1 : Int32} {S : HS} (h : P_X8_hasWalker v0 v1 Q S) : P_X8_hasWalker v0 v1 (fun r T => Q r T ∧ KH S T) S := kh_X8_hasWalker_0 h (kh_rf S)
set_option maxRecDepth 20000 in
set_option maxHeartbeats 1000000 in
theorem khB_X1_fitCode_141 {Q : Int32 → HS → Prop} {X141 X141_2 : Nat → Nat → Int32 → Int32 → Int32 → Int32 → Int32 → HS → Prop} {v0 : Nat} {v1 : Nat} {v2 : Int32} {v4 : Int32} {v5 : Int32} {v6 : Int32} {v8 : Int32} {S0 S : HS} (h : B_X1_fitCode_141 Q X141 v0 v1 v2 v4 v5 v6 v8 S) (K : KH S0 S) (hX141 : ∀ (u0 : Nat) (u1 : Nat) (u2 : Int32) (u3 : Int32) (u4 : Int32) (u5 : Int32) (u6 : Int32) (u7 : HS), X141 u0 u1 u2 u3 u4 u5 u6 u7 → KH S0 u7 → X141_2 u0 u1 u2 u3 u4 u5 u6 u7) : B_X1_fitCode_141 (fun r T => Q r T ∧ KH S0 T) X141_2 v0 v1 v2 v4 v5 v6 v8 S := by
  delta B_X1_fitCode_141 at h ⊢
  refine ⟨?_, ?_⟩
  · intro c1
    have h := h.1 c1
    intro x3 e2
    have h := h x3 e2
    intro x5 e4
    have h := h x5 e4
    exact ⟨h, K⟩
  · intro c6
    have h := h.2 c6
    obtain ⟨c7, h⟩ := h
    refine ⟨c7, ?_⟩
    obtain ⟨b8, e9, h⟩ := h
    refine ⟨b8, e9, ?_⟩
    obtain ⟨c10, h⟩ := h
    refine ⟨c10, ?_⟩
    obtain ⟨c11, h⟩ := h
    refine ⟨c11, ?_⟩
    intro x13 e12
    have h := h x13 e12
    obtain ⟨c14, h⟩ := h
    refine ⟨c14, ?_⟩
    obtain ⟨b15, e16, h⟩ := h
    refine ⟨b15, e16, ?_⟩
    obtain ⟨c17, h⟩ := h
    refine ⟨c17, ?_⟩
    intro x19 e18
    have h := h x19 e18
    obtain ⟨c20, h⟩ := h
    refine ⟨c20, ?_⟩
    intro x22 e21
    have h := h x22 e21
    refine ⟨?_, ?_⟩
    · intro c23
      have h := h.1 c23
      intro x25 e24
      have h := h x25 e24
      exact hX141 _ _ _ _ _ _ _ _ h K
    · intro c26
      have h := h.2 c26
      exact ⟨h, K⟩
theorem kh_X1_fitCode_141 {Q : Int32 → HS → Prop} {v0 : Nat} {v1 : Nat} {v2 : Int32} {v4 : Int32} {v5 : Int32} {v6 : Int32} {v8 : Int32} {S0 S : HS} (h : P_X1_fitCode_141 Q v0 v1 v2 v4 v5 v6 v8 S) (K : KH S0 S) : P_X1_fitCode_141 (fun r T => Q r T ∧ KH S0 T) v0 v1 v2 v4 v5 v6 v8 S := h (fun v0 v1 v2 v4 v5 v6 v8 S => KH S0 S → P_X1_fitCode_141 (fun r T => Q r T ∧ KH S0 T) v0 v1 v2 v4 v5 v6 v8 S) (fun v0 v1 v2 v4 v5 v6 v8 S hB K => fd_X1_fitCode_141 (khB_X1_fitCode_141 hB K (fun _ _ _ _ _ _ _ _ hx K => hx K))) K
set_option maxRecDepth 20000 in
set_option maxHeartbeats 1000000 in
theorem kh_X1_fitCode_0 {Q : Int32 → HS → Prop} {v0 : Nat} {v1 : Nat} {v2 : Int32} {v3 : Int32} {S0 S : HS} (h : P_X1_fitCode_0 Q v0 v1 v2 v3 S) (K : KH S0 S) : P_X1_fitCode_0 (fun r T => Q r T ∧ KH S0 T) v0 v1 v2 v3 S := by
  delta P_X1_fitCode_0 at h ⊢
  refine ⟨?_, ?_⟩
  · intro c1
    have h := h.1 c1
    exact ⟨h, K⟩
  · intro c2
    have h := h.2 c2
    refine cm_X1_legsOf (kh_X1_legsOf h) h (fun x3 x4 hp h g5 => ?_)
    have h := h g5
    have K := kh_tr K hp.2
    refine ⟨?_, ?_⟩
    · intro c6
      have h := h.1 c6
      exact ⟨h, K⟩
    · intro c7
      have h := h.2 c7
      obtain ⟨c8, h⟩ := h
      refine ⟨c8, ?_⟩
      refine cm_X8_hasSeen (kh_X8_hasSeen h) h (fun x9 x10 hp h g11 g12 => ?_)
      have h := h g11 g12
      have K := kh_tr K hp.2
      refine ⟨?_, ?_⟩
      · intro c13
        have h := h.1 c13
        exact ⟨h, K⟩
      · intro c14
        have h := h.2 c14
        intro x16 e15
        have h := h x16 e15
        refine ⟨?_, ?_⟩
        · intro c17
          have h := h.1 c17
          intro x19 e18
          have h := h x19 e18
          intro x21 e20
          have h := h x21 e20
          intro x23 e22
          have h := h x23 e22
          intro x25 e24
          have h := h x25 e24
          obtain ⟨c26, h⟩ := h
          refine ⟨c26, ?_⟩
          intro x28 e27
          have h := h x28 e27
          intro x30 e29
          have h := h x30 e29
          intro x32 e31
          have h := h x32 e31
          obtain ⟨c33, h⟩ := h
          refine ⟨c33, ?_⟩
          intro x35 e34
          have h := h x35 e34
          obtain ⟨b36, e37, h⟩ := h
          refine ⟨b36, e37, ?_⟩
          obtain ⟨c38, h⟩ := h
          refine ⟨c38, ?_⟩
          obtain ⟨c39, h⟩ := h
          refine ⟨c39, ?_⟩
          intro x41 e40
          have h := h x41 e40
          refine cm_X8_hasWalker (kh_X8_hasWalker h) h (fun x42 x43 hp h g44 g45 => ?_)
          have h := h g44 g45
          have K := kh_tr K hp.2
          refine ⟨?_, ?_⟩
          · intro c46
            have h := h.1 c46
            exact ⟨h, K⟩
          · intro c47
            have h := h.2 c47
            intro x49 e48
            have h := h x49 e48
            refine cm_X8_hasRoad (kh_X8_hasRoad h) h (fun x50 x51 hp h g52 g53 => ?_)
            have h := h g52 g53
            have K := kh_tr K hp.2
            refine ⟨?_, ?_⟩
            · intro c54
              have h := h.1 c54
              exact ⟨h, K⟩
            · intro c55
              have h := h.2 c55
              obtain ⟨b56, e57, h⟩ := h
              refine ⟨b56, e57, ?_⟩
              obtain ⟨c58, h⟩ := h
              refine ⟨c58, ?_⟩
              obtain ⟨c59, h⟩ := h
              refine ⟨c59, ?_⟩
              obtain ⟨b60, e61, h⟩ := h
              refine ⟨b60, e61, ?_⟩
              obtain ⟨c62, h⟩ := h
              refine ⟨c62, ?_⟩
              refine cm_X6_canGo (kh_X6_canGo h) h (fun x63 x64 hp h g65 g66 => ?_)
              have h := h g65 g66
              have K := kh_tr K hp.2
              refine ⟨?_, ?_⟩
              · intro c67
                have h := h.1 c67
                obtain ⟨b68, e69, h⟩ := h
                refine ⟨b68, e69, ?_⟩
                obtain ⟨c70, h⟩ := h
                refine ⟨c70, ?_⟩
                obtain ⟨c71, h⟩ := h
                refine ⟨c71, ?_⟩
                obtain ⟨b72, e73, h⟩ := h
                refine ⟨b72, e73, ?_⟩
                obtain ⟨b74, e75, h⟩ := h
                refine ⟨b74, e75, ?_⟩
                intro x77 e76
                have h := h x77 e76
                obtain ⟨c78, h⟩ := h
                refine ⟨c78, ?_⟩
                obtain ⟨c79, h⟩ := h
                refine ⟨c79, ?_⟩
                obtain ⟨b80, e81, h⟩ := h
                refine ⟨b80, e81, ?_⟩
                intro x83 e82
                have h := h x83 e82
                obtain ⟨b84, e85, h⟩ := h
                refine ⟨b84, e85, ?_⟩
                obtain ⟨c86, h⟩ := h
                refine ⟨c86, ?_⟩
                obtain ⟨c87, h⟩ := h
                refine ⟨c87, ?_⟩
                obtain ⟨b88, e89, h⟩ := h
                refine ⟨b88, e89, ?_⟩
                obtain ⟨c90, h⟩ := h
                refine ⟨c90, ?_⟩
                refine cm_X1_wetOf (kh_X1_wetOf h) h (fun x91 x92 hp h g93 => ?_)
                have h := h g93
                have K := kh_tr K hp.2
                exact kh_X1_fitCode_141 h K
              · intro c94
                have h := h.2 c94
                exact ⟨h, K⟩
        · intro c95
          have h := h.2 c95
          exact ⟨h, K⟩
theorem kh_X1_fitCode {Q : Int32 → HS → Prop} {v0 : Nat} {v1 : Nat} {v2 : Int32} {v3 : Int32} {S : HS} (h : P_X1_fitCode v0 v1 v2 v3 Q S) : P_X1_fitCode v0 v1 v2 v3 (fun r T => Q r T ∧ KH S T) S := kh_X1_fitCode_0 h (kh_rf S)
set_option maxRecDepth 20000 in
set_option maxHeartbeats 1000000 in
theorem kh_X1_countFits_29 {Q : Int32 → HS → Prop} {X5 X5_2 : Nat → Nat → Int32 → Int32 → Int32 → HS → Prop} {v0 : Nat} {v1 : Nat} {v2 : Int32} {v3 : Int32} {v4 : Int32} {S0 S : HS} (h : P_X1_countFits_29 Q X5 v0 v1 v2 v3 v4 S) (K : KH S0 S) (hX5 : ∀ (u0 : Nat) (u1 : Nat) (u2 : Int32) (u3 : Int32) (u4 : Int32) (u5 : HS), X5 u0 u1 u2 u3 u4 u5 → KH S0 u5 → X5_2 u0 u1 u2 u3 u4 u5) : P_X1_countFits_29 (fun r T => Q r T ∧ KH S0 T) X5_2 v0 v1 v2 v3 v4 S := by
  delta P_X1_countFits_29 at h ⊢
  intro x2 e1
  have h := h x2 e1
  exact hX5 _ _ _ _ _ _ h K
set_option maxRecDepth 20000 in
set_option maxHeartbeats 1000000 in
theorem khB_X1_countFits_5 {Q : Int32 → HS → Prop} {X5 X5_2 : Nat → Nat → Int32 → Int32 → Int32 → HS → Prop} {v0 : Nat} {v1 : Nat} {v2 : Int32} {v3 : Int32} {v4 : Int32} {S0 S : HS} (h : B_X1_countFits_5 Q X5 v0 v1 v2 v3 v4 S) (K : KH S0 S) (hX5 : ∀ (u0 : Nat) (u1 : Nat) (u2 : Int32) (u3 : Int32) (u4 : Int32) (u5 : HS), X5 u0 u1 u2 u3 u4 u5 → KH S0 u5 → X5_2 u0 u1 u2 u3 u4 u5) : B_X1_countFits_5 (fun r T => Q r T ∧ KH S0 T) X5_2 v0 v1 v2 v3 v4 S := by
  delta B_X1_countFits_5 at h ⊢
  refine cm_X1_legsOf (kh_X1_legsOf h) h (fun x1 x2 hp h g3 => ?_)
  have h := h g3
  have K := kh_tr K hp.2
  refine ⟨?_, ?_⟩
  · intro c4
    have h := h.1 c4
    exact ⟨h, K⟩
  · intro c5
    have h := h.2 c5
    obtain ⟨c6, h⟩ := h
    refine ⟨c6, ?_⟩
    refine cm_X1_fitCode (kh_X1_fitCode h) h (fun x7 x8 hp h g9 => ?_)
    have h := h g9
    have K := kh_tr K hp.2
    refine ⟨?_, ?_⟩
    · intro c10
      have h := h.1 c10
      exact kh_X1_countFits_29 h K hX5
    · intro c11
      have h := h.2 c11
      intro x13 e12
      have h := h x13 e12
      exact kh_X1_countFits_29 h K hX5
theorem kh_X1_countFits_5 {Q : Int32 → HS → Prop} {v0 : Nat} {v1 : Nat} {v2 : Int32} {v3 : Int32} {v4 : Int32} {S0 S : HS} (h : P_X1_countFits_5 Q v0 v1 v2 v3 v4 S) (K : KH S0 S) : P_X1_countFits_5 (fun r T => Q r T ∧ KH S0 T) v0 v1 v2 v3 v4 S := h (fun v0 v1 v2 v3 v4 S => KH S0 S → P_X1_countFits_5 (fun r T => Q r T ∧ KH S0 T) v0 v1 v2 v3 v4 S) (fun v0 v1 v2 v3 v4 S hB K => fd_X1_countFits_5 (khB_X1_countFits_5 hB K (fun _ _ _ _ _ _ hx K => hx K))) K
set_option maxRecDepth 20000 in
set_option maxHeartbeats 1000000 in
theorem kh_X1_countFits_0 {Q : Int32 → HS → Prop} {v0 : Nat} {v1 : Nat} {v2 : Int32} {S0 S : HS} (h : P_X1_countFits_0 Q v0 v1 v2 S) (K : KH S0 S) : P_X1_countFits_0 (fun r T => Q r T ∧ KH S0 T) v0 v1 v2 S := by
  delta P_X1_countFits_0 at h ⊢
  exact kh_X1_countFits_5 h K
theorem kh_X1_countFits {Q : Int32 → HS → Prop} {v0 : Nat} {v1 : Nat} {v2 : Int32} {S : HS} (h : P_X1_countFits v0 v1 v2 Q S) : P_X1_countFits v0 v1 v2 (fun r T => Q r T ∧ KH S T) S := kh_X1_countFits_0 h (kh_rf S)
set_option maxRecDepth 20000 in
set_option maxHeartbeats 1000000 in
theorem kh_X1_findFit_48 {Q : Int32 → HS → Prop} {X6 X6_2 : Nat → Nat → Int32 → Int32 → Int32 → HS → Prop} {v0 : Nat} {v1 : Nat} {v2 : Int32} {v4 : Int32} {v5 : Int32} {S0 S : HS} (h : P_X1_findFit_48 Q X6 v0 v1 v2 v4 v5 S) (K : KH S0 S) (hX6 : ∀ (u0 : Nat) (u1 : Nat) (u2 : Int32) (u3 : Int32) (u4 : Int32) (u5 : HS), X6 u0 u1 u2 u3 u4 u5 → KH S0 u5 → X6_2 u0 u1 u2 u3 u4 u5) : P_X1_findFit_48 (fun r T => Q r T ∧ KH S0 T) X6_2 v0 v1 v2 v4 v5 S := by
  delta P_X1_findFit_48 at h ⊢
  intro x2 e1
  have h := h x2 e1
  exact hX6 _ _ _ _ _ _ h K
set_option maxRecDepth 20000 in
set_option maxHeartbeats 1000000 in
theorem kh_X1_findFit_39 {Q : Int32 → HS → Prop} {X6 X6_2 : Nat → Nat → Int32 → Int32 → Int32 → HS → Prop} {v0 : Nat} {v1 : Nat} {v2 : Int32} {v4 : Int32} {v5 : Int32} {v6 : Int32} {S0 S : HS} (h : P_X1_findFit_39 Q X6 v0 v1 v2 v4 v5 v6 S) (K : KH S0 S) (hX6 : ∀ (u0 : Nat) (u1 : Nat) (u2 : Int32) (u3 : Int32) (u4 : Int32) (u5 : HS), X6 u0 u1 u2 u3 u4 u5 → KH S0 u5 → X6_2 u0 u1 u2 u3 u4 u5) : P_X1_findFit_39 (fun r T => Q r T ∧ KH S0 T) X6_2 v0 v1 v2 v4 v5 v6 S := by
  delta P_X1_findFit_39 at h ⊢
  refine ⟨?_, ?_⟩
  · intro c1
    have h := h.1 c1
    exact kh_X1_findFit_48 h K hX6
  · intro c2
    have h := h.2 c2
    intro x4 e3
    have h := h x4 e3
    exact kh_X1_findFit_48 h K hX6
set_option maxRecDepth 20000 in
set_option maxHeartbeats 1000000 in
theorem khB_X1_findFit_6 {Q : Int32 → HS → Prop} {X6 X6_2 : Nat → Nat → Int32 → Int32 → Int32 → HS → Prop} {v0 : Nat} {v1 : Nat} {v2 : Int32} {v4 : Int32} {v5 : Int32} {S0 S : HS} (h : B_X1_findFit_6 Q X6 v0 v1 v2 v4 v5 S) (K : KH S0 S) (hX6 : ∀ (u0 : Nat) (u1 : Nat) (u2 : Int32) (u3 : Int32) (u4 : Int32) (u5 : HS), X6 u0 u1 u2 u3 u4 u5 → KH S0 u5 → X6_2 u0 u1 u2 u3 u4 u5) : B_X1_findFit_6 (fun r T => Q r T ∧ KH S0 T) X6_2 v0 v1 v2 v4 v5 S := by
  delta B_X1_findFit_6 at h ⊢
  refine cm_X1_legsOf (kh_X1_legsOf h) h (fun x1 x2 hp h g3 => ?_)
  have h := h g3
  have K := kh_tr K hp.2
  refine ⟨?_, ?_⟩
  · intro c4
    have h := h.1 c4
    exact ⟨h, K⟩
  · intro c5
    have h := h.2 c5
    obtain ⟨c6, h⟩ := h
    refine ⟨c6, ?_⟩
    refine cm_X1_fitCode (kh_X1_fitCode h) h (fun x7 x8 hp h g9 => ?_)
    have h := h g9
    have K := kh_tr K hp.2
    refine ⟨?_, ?_⟩
    · intro c10
      have h := h.1 c10
      exact kh_X1_findFit_39 h K hX6
    · intro c11
      have h := h.2 c11
      refine ⟨?_, ?_⟩
      · intro c12
        have h := h.1 c12
        exact kh_X1_findFit_39 h K hX6
      · intro c13
        have h := h.2 c13
        exact ⟨h, K⟩
theorem kh_X1_findFit_6 {Q : Int32 → HS → Prop} {v0 : Nat} {v1 : Nat} {v2 : Int32} {v4 : Int32} {v5 : Int32} {S0 S : HS} (h : P_X1_findFit_6 Q v0 v1 v2 v4 v5 S) (K : KH S0 S) : P_X1_findFit_6 (fun r T => Q r T ∧ KH S0 T) v0 v1 v2 v4 v5 S := h (fun v0 v1 v2 v4 v5 S => KH S0 S → P_X1_findFit_6 (fun r T => Q r T ∧ KH S0 T) v0 v1 v2 v4 v5 S) (fun v0 v1 v2 v4 v5 S hB K => fd_X1_findFit_6 (khB_X1_findFit_6 hB K (fun _ _ _ _ _ _ hx K => hx K))) K
set_option maxRecDepth 20000 in
set_option maxHeartbeats 1000000 in
theorem kh_X1_findFit_0 {Q : Int32 → HS → Prop} {v0 : Nat} {v1 : Nat} {v2 : Int32} {v3 : Int32} {S0 S : HS} (h : P_X1_findFit_0 Q v0 v1 v2 v3 S) (K : KH S0 S) : P_X1_findFit_0 (fun r T => Q r T ∧ KH S0 T) v0 v1 v2 v3 S := by
  delta P_X1_findFit_0 at h ⊢
  exact kh_X1_findFit_6 h K
theorem kh_X1_findFit {Q : Int32 → HS → Prop} {v0 : Nat} {v1 : Nat} {v2 : Int32} {v3 : Int32} {S : HS} (h : P_X1_findFit v0 v1 v2 v3 Q S) : P_X1_findFit v0 v1 v2 v3 (fun r T => Q r T ∧ KH S T) S := kh_X1_findFit_0 h (kh_rf S)
set_option maxRecDepth 20000 in
set_option maxHeartbeats 1000000 in
theorem kh_X1_leastWet_0 {Q : Int64 → HS → Prop} {v0 : Nat} {v1 : Nat} {v2 : Nat} {v3 : Int32} {v4 : Nat} {S0 S : HS} (h : P_X1_leastWet_0 Q v0 v1 v2 v3 v4 S) (K : KH S0 S) : P_X1_leastWet_0 (fun r T => Q r T ∧ KH S0 T) v0 v1 v2 v3 v4 S := by
  delta P_X1_leastWet_0 at h ⊢
  obtain ⟨c1, h⟩ := h
  refine ⟨c1, ?_⟩
  refine cm_X1_bestSpeed (kh_X1_bestSpeed h) h (fun x2 x3 hp h g4 => ?_)
  have h := h g4
  have K := kh_tr K hp.2
  refine cm_X1_wetOf (kh_X1_wetOf h) h (fun x5 x6 hp h g7 => ?_)
  have h := h g7
  have K := kh_tr K hp.2
  exact ⟨h, K⟩
theorem kh_X1_leastWet {Q : Int64 → HS → Prop} {v0 : Nat} {v1 : Nat} {v2 : Nat} {v3 : Int32} {v4 : Nat} {S : HS} (h : P_X1_leastWet v0 v1 v2 v3 v4 Q S) : P_X1_leastWet v0 v1 v2 v3 v4 (fun r T => Q r T ∧ KH S T) S := kh_X1_leastWet_0 h (kh_rf S)
set_option maxRecDepth 20000 in
set_option maxHeartbeats 1000000 in
theorem kh_X1_wetInLee_0 {Q : Int64 → HS → Prop} {v0 : Nat} {v1 : Nat} {v2 : Nat} {S0 S : HS} (h : P_X1_wetInLee_0 Q v0 v1 v2 S) (K : KH S0 S) : P_X1_wetInLee_0 (fun r T => Q r T ∧ KH S0 T) v0 v1 v2 S := by
  delta P_X1_wetInLee_0 at h ⊢
  obtain ⟨c1, h⟩ := h
  refine ⟨c1, ?_⟩
  intro x3 e2
  have h := h x3 e2
  obtain ⟨c4, h⟩ := h
  refine ⟨c4, ?_⟩
  refine cm_X1_soak (kh_X1_soak h) h (fun x5 x6 hp h g7 => ?_)
  have h := h g7
  have K := kh_tr K hp.2
  obtain ⟨c8, h⟩ := h
  refine ⟨c8, ?_⟩
  intro x10 e9
  have h := h x10 e9
  refine cm_X1_soak (kh_X1_soak h) h (fun x11 x12 hp h g13 => ?_)
  have h := h g13
  have K := kh_tr K hp.2
  exact ⟨h, K⟩
theorem kh_X1_wetInLee {Q : Int64 → HS → Prop} {v0 : Nat} {v1 : Nat} {v2 : Nat} {S : HS} (h : P_X1_wetInLee v0 v1 v2 Q S) : P_X1_wetInLee v0 v1 v2 (fun r T => Q r T ∧ KH S T) S := kh_X1_wetInLee_0 h (kh_rf S)
set_option maxRecDepth 20000 in
set_option maxHeartbeats 1000000 in
theorem kh_X1_worstSpeed_55 {Q : Int32 → HS → Prop} {X17 X17_2 : Nat → Nat → Nat → Int32 → Nat → Int32 → Int64 → Int32 → HS → Prop} {v0 : Nat} {v1 : Nat} {v2 : Nat} {v3 : Int32} {v4 : Nat} {v5 : Int32} {v6 : Int64} {v8 : Int32} {S0 S : HS} (h : P_X1_worstSpeed_55 Q X17 v0 v1 v2 v3 v4 v5 v6 v8 S) (K : KH S0 S) (hX17 : ∀ (u0 : Nat) (u1 : Nat) (u2 : Nat) (u3 : Int32) (u4 : Nat) (u5 : Int32) (u6 : Int64) (u7 : Int32) (u8 : HS), X17 u0 u1 u2 u3 u4 u5 u6 u7 u8 → KH S0 u8 → X17_2 u0 u1 u2 u3 u4 u5 u6 u7 u8) : P_X1_worstSpeed_55 (fun r T => Q r T ∧ KH S0 T) X17_2 v0 v1 v2 v3 v4 v5 v6 v8 S := by
  delta P_X1_worstSpeed_55 at h ⊢
  intro x2 e1
  have h := h x2 e1
  exact hX17 _ _ _ _ _ _ _ _ _ h K
set_option maxRecDepth 20000 in
set_option maxHeartbeats 1000000 in
theorem khB_X1_worstSpeed_17 {Q : Int32 → HS → Prop} {X17 X17_2 : Nat → Nat → Nat → Int32 → Nat → Int32 → Int64 → Int32 → HS → Prop} {v0 : Nat} {v1 : Nat} {v2 : Nat} {v3 : Int32} {v4 : Nat} {v5 : Int32} {v6 : Int64} {v8 : Int32} {S0 S : HS} (h : B_X1_worstSpeed_17 Q X17 v0 v1 v2 v3 v4 v5 v6 v8 S) (K : KH S0 S) (hX17 : ∀ (u0 : Nat) (u1 : Nat) (u2 : Nat) (u3 : Int32) (u4 : Nat) (u5 : Int32) (u6 : Int64) (u7 : Int32) (u8 : HS), X17 u0 u1 u2 u3 u4 u5 u6 u7 u8 → KH S0 u8 → X17_2 u0 u1 u2 u3 u4 u5 u6 u7 u8) : B_X1_worstSpeed_17 (fun r T => Q r T ∧ KH S0 T) X17_2 v0 v1 v2 v3 v4 v5 v6 v8 S := by
  delta B_X1_worstSpeed_17 at h ⊢
  obtain ⟨c1, h⟩ := h
  refine ⟨c1, ?_⟩
  intro x3 e2
  have h := h x3 e2
  refine ⟨?_, ?_⟩
  · intro c4
    have h := h.1 c4
    exact ⟨h, K⟩
  · intro c5
    have h := h.2 c5
    obtain ⟨c6, h⟩ := h
    refine ⟨c6, ?_⟩
    refine cm_X1_wetOf (kh_X1_wetOf h) h (fun x7 x8 hp h g9 => ?_)
    have h := h g9
    have K := kh_tr K hp.2
    refine ⟨?_, ?_⟩
    · intro c10
      have h := h.1 c10
      exact kh_X1_worstSpeed_55 h K hX17
    · intro c11
      have h := h.2 c11
      exact kh_X1_worstSpeed_55 h K hX17
theorem kh_X1_worstSpeed_17 {Q : Int32 → HS → Prop} {v0 : Nat} {v1 : Nat} {v2 : Nat} {v3 : Int32} {v4 : Nat} {v5 : Int32} {v6 : Int64} {v8 : Int32} {S0 S : HS} (h : P_X1_worstSpeed_17 Q v0 v1 v2 v3 v4 v5 v6 v8 S) (K : KH S0 S) : P_X1_worstSpeed_17 (fun r T => Q r T ∧ KH S0 T) v0 v1 v2 v3 v4 v5 v6 v8 S := h (fun v0 v1 v2 v3 v4 v5 v6 v8 S => KH S0 S → P_X1_worstSpeed_17 (fun r T => Q r T ∧ KH S0 T) v0 v1 v2 v3 v4 v5 v6 v8 S) (fun v0 v1 v2 v3 v4 v5 v6 v8 S hB K => fd_X1_worstSpeed_17 (khB_X1_worstSpeed_17 hB K (fun _ _ _ _ _ _ _ _ _ hx K => hx K))) K
set_option maxRecDepth 20000 in
set_option maxHeartbeats 1000000 in
theorem kh_X1_worstSpeed_0 {Q : Int32 → HS → Prop} {v0 : Nat} {v1 : Nat} {v2 : Nat} {v3 : Int32} {v4 : Nat} {S0 S : HS} (h : P_X1_worstSpeed_0 Q v0 v1 v2 v3 v4 S) (K : KH S0 S) : P_X1_worstSpeed_0 (fun r T => Q r T ∧ KH S0 T) v0 v1 v2 v3 v4 S := by
  delta P_X1_worstSpeed_0 at h ⊢
  obtain ⟨c1, h⟩ := h
  refine ⟨c1, ?_⟩
  intro x3 e2
  have h := h x3 e2
  intro x5 e4
  have h := h x5 e4
  exact kh_X1_worstSpeed_17 h K
theorem kh_X1_worstSpeed {Q : Int32 → HS → Prop} {v0 : Nat} {v1 : Nat} {v2 : Nat} {v3 : Int32} {v4 : Nat} {S : HS} (h : P_X1_worstSpeed v0 v1 v2 v3 v4 Q S) : P_X1_worstSpeed v0 v1 v2 v3 v4 (fun r T => Q r T ∧ KH S T) S := kh_X1_worstSpeed_0 h (kh_rf S)
set_option maxRecDepth 20000 in
set_option maxHeartbeats 1000000 in
theorem khB_X2_addFaces_2 {Q : HS → Prop} {X2 X2_2 : Nat → Nat → Int32 → HS → Prop} {v0 : Nat} {v1 : Nat} {v2 : Int32} {S0 S : HS} (h : B_X2_addFaces_2 Q X2 v0 v1 v2 S) (K : KH S0 S) (hX2 : ∀ (u0 : Nat) (u1 : Nat) (u2 : Int32) (u3 : HS), X2 u0 u1 u2 u3 → KH S0 u3 → X2_2 u0 u1 u2 u3) : B_X2_addFaces_2 (fun T => Q T ∧ KH S0 T) X2_2 v0 v1 v2 S := by
  delta B_X2_addFaces_2 at h ⊢
  refine ⟨?_, ?_⟩
  · intro c1
    have h := h.1 c1
    exact ⟨h, K⟩
  · intro c2
    have h := h.2 c2
    obtain ⟨c3, h⟩ := h
    refine ⟨c3, ?_⟩
    refine ⟨?_, ?_⟩
    · intro c4
      have h := h.1 c4
      exact ⟨h, K⟩
    · intro c5
      have h := h.2 c5
      obtain ⟨c6, h⟩ := h
      refine ⟨c6, ?_⟩
      obtain ⟨b7, e8, h⟩ := h
      refine ⟨b7, e8, ?_⟩
      obtain ⟨c9, h⟩ := h
      refine ⟨c9, ?_⟩
      obtain ⟨c10, h⟩ := h
      refine ⟨c10, ?_⟩
      intro x12 e11
      have h := h x12 e11
      obtain ⟨c13, h⟩ := h
      refine ⟨c13, ?_⟩
      intro x15 e14
      have h := h x15 e14
      intro x17 e16
      have h := h x17 e16
      obtain ⟨c18, h⟩ := h
      refine ⟨c18, ?_⟩
      intro x20 e19
      have h := h x20 e19
      have K := kh_J K e19
      intro x22 e21
      have h := h x22 e21
      exact hX2 _ _ _ _ h K
theorem kh_X2_addFaces_2 {Q : HS → Prop} {v0 : Nat} {v1 : Nat} {v2 : Int32} {S0 S : HS} (h : P_X2_addFaces_2 Q v0 v1 v2 S) (K : KH S0 S) : P_X2_addFaces_2 (fun T => Q T ∧ KH S0 T) v0 v1 v2 S := h (fun v0 v1 v2 S => KH S0 S → P_X2_addFaces_2 (fun T => Q T ∧ KH S0 T) v0 v1 v2 S) (fun v0 v1 v2 S hB K => fd_X2_addFaces_2 (khB_X2_addFaces_2 hB K (fun _ _ _ _ hx K => hx K))) K
set_option maxRecDepth 20000 in
set_option maxHeartbeats 1000000 in
theorem kh_X2_addFaces_0 {Q : HS → Prop} {v0 : Nat} {v1 : Nat} {S0 S : HS} (h : P_X2_addFaces_0 Q v0 v1 S) (K : KH S0 S) : P_X2_addFaces_0 (fun T => Q T ∧ KH S0 T) v0 v1 S := by
  delta P_X2_addFaces_0 at h ⊢
  exact kh_X2_addFaces_2 h K
theorem kh_X2_addFaces {Q : HS → Prop} {v0 : Nat} {v1 : Nat} {S : HS} (h : P_X2_addFaces v0 v1 Q S) : P_X2_addFaces v0 v1 (fun T => Q T ∧ KH S T) S := kh_X2_addFaces_0 h (kh_rf S)
set_option maxRecDepth 20000 in
set_option maxHeartbeats 1000000 in
theorem khB_X2_allGot_4 {Q : Int64 → HS → Prop} {X4 X4_2 : Nat → Int64 → Int32 → HS → Prop} {v0 : Nat} {v1 : Int64} {v3 : Int32} {S0 S : HS} (h : B_X2_allGot_4 Q X4 v0 v1 v3 S) (K : KH S0 S) (hX4 : ∀ (u0 : Nat) (u1 : Int64) (u2 : Int32) (u3 : HS), X4 u0 u1 u2 u3 → KH S0 u3 → X4_2 u0 u1 u2 u3) : B_X2_allGot_4 (fun r T => Q r T ∧ KH S0 T) X4_2 v0 v1 v3 S := by
  delta B_X2_allGot_4 at h ⊢
  refine ⟨?_, ?_⟩
  · intro c1
    have h := h.1 c1
    exact ⟨h, K⟩
  · intro c2
    have h := h.2 c2
    obtain ⟨c3, h⟩ := h
    refine ⟨c3, ?_⟩
    obtain ⟨b4, e5, h⟩ := h
    refine ⟨b4, e5, ?_⟩
    obtain ⟨c6, h⟩ := h
    refine ⟨c6, ?_⟩
    obtain ⟨c7, h⟩ := h
    refine ⟨c7, ?_⟩
    intro x9 e8
    have h := h x9 e8
    intro x11 e10
    have h := h x11 e10
    intro x13 e12
    have h := h x13 e12
    exact hX4 _ _ _ _ h K
theorem kh_X2_allGot_4 {Q : Int64 → HS → Prop} {v0 : Nat} {v1 : Int64} {v3 : Int32} {S0 S : HS} (h : P_X2_allGot_4 Q v0 v1 v3 S) (K : KH S0 S) : P_X2_allGot_4 (fun r T => Q r T ∧ KH S0 T) v0 v1 v3 S := h (fun v0 v1 v3 S => KH S0 S → P_X2_allGot_4 (fun r T => Q r T ∧ KH S0 T) v0 v1 v3 S) (fun v0 v1 v3 S hB K => fd_X2_allGot_4 (khB_X2_allGot_4 hB K (fun _ _ _ _ hx K => hx K))) K
set_option maxRecDepth 20000 in
set_option maxHeartbeats 1000000 in
theorem kh_X2_allGot_0 {Q : Int64 → HS → Prop} {v0 : Nat} {S0 S : HS} (h : P_X2_allGot_0 Q v0 S) (K : KH S0 S) : P_X2_allGot_0 (fun r T => Q r T ∧ KH S0 T) v0 S := by
  delta P_X2_allGot_0 at h ⊢
  exact kh_X2_allGot_4 h K
theorem kh_X2_allGot {Q : Int64 → HS → Prop} {v0 : Nat} {S : HS} (h : P_X2_allGot v0 Q S) : P_X2_allGot v0 (fun r T => Q r T ∧ KH S T) S := kh_X2_allGot_0 h (kh_rf S)
set_option maxRecDepth 20000 in
set_option maxHeartbeats 1000000 in
theorem kh_X3_init_0 {Q : HS → Prop} {v0 : Nat} {S0 S : HS} (h : P_X3_init_0 Q v0 S) (K : KH S0 S) : P_X3_init_0 (fun T => Q T ∧ KH S0 T) v0 S := by
  delta P_X3_init_0 at h ⊢
  exact ⟨h, K⟩
theorem kh_X3_init {Q : HS → Prop} {v0 : Nat} {S : HS} (h : P_X3_init v0 Q S) : P_X3_init v0 (fun T => Q T ∧ KH S T) S := kh_X3_init_0 h (kh_rf S)
set_option maxRecDepth 20000 in
set_option maxHeartbeats 1000000 in
theorem kh_X4_fail_0 {Q : Int32 → HS → Prop} {v0 : Nat} {v1 : Int32} {S0 S : HS} (h : P_X4_fail_0 Q v0 v1 S) (K : KH S0 S) : P_X4_fail_0 (fun r T => Q r T ∧ KH S0 T) v0 v1 S := by
  delta P_X4_fail_0 at h ⊢
  obtain ⟨c1, h⟩ := h
  refine ⟨c1, ?_⟩
  intro x3 e2
  have h := h x3 e2
  have K := kh_I K e2
  intro x5 e4
  have h := h x5 e4
  intro x7 e6
  have h := h x7 e6
  have K := kh_I K e6
  exact ⟨h, K⟩
theorem kh_X4_fail {Q : Int32 → HS → Prop} {v0 : Nat} {v1 : Int32} {S : HS} (h : P_X4_fail v0 v1 Q S) : P_X4_fail v0 v1 (fun r T => Q r T ∧ KH S T) S := kh_X4_fail_0 h (kh_rf S)
set_option maxRecDepth 20000 in
set_option maxHeartbeats 1000000 in
theorem kh_X4_sortAt_58 {Q : Int32 → HS → Prop} {v2 : Int32} {S0 S : HS} (h : P_X4_sortAt_58 Q v2 S) (K : KH S0 S) : P_X4_sortAt_58 (fun r T => Q r T ∧ KH S0 T) v2 S := by
  delta P_X4_sortAt_58 at h ⊢
  refine ⟨?_, ?_, ?_, ?_⟩
  · intro c1
    have h := h.1 c1
    exact ⟨h, K⟩
  · intro c2
    have h := h.2.1 c2
    exact ⟨h, K⟩
  · intro c3
    have h := h.2.2.1 c3
    exact ⟨h, K⟩
  · intro c4
    have h := h.2.2.2 c4
    exact ⟨h, K⟩
set_option maxRecDepth 20000 in
set_option maxHeartbeats 1000000 in
theorem kh_X4_sortAt_44 {Q : Int32 → HS → Prop} {v2 : Int32} {S0 S : HS} (h : P_X4_sortAt_44 Q v2 S) (K : KH S0 S) : P_X4_sortAt_44 (fun r T => Q r T ∧ KH S0 T) v2 S := by
  delta P_X4_sortAt_44 at h ⊢
  refine ⟨?_, ?_⟩
  · intro c1
    have h := h.1 c1
    exact kh_X4_sortAt_58 h K
  · intro c2
    have h := h.2 c2
    refine ⟨?_, ?_⟩
    · intro c3
      have h := h.1 c3
      exact kh_X4_sortAt_58 h K
    · intro c4
      have h := h.2 c4
      exact ⟨h, K⟩
set_option maxRecDepth 20000 in
set_option maxHeartbeats 1000000 in
theorem kh_X4_sortAt_0 {Q : Int32 → HS → Prop} {v0 : Nat} {v1 : Int32} {S0 S : HS} (h : P_X4_sortAt_0 Q v0 v1 S) (K : KH S0 S) : P_X4_sortAt_0 (fun r T => Q r T ∧ KH S0 T) v0 v1 S := by
  delta P_X4_sortAt_0 at h ⊢
  refine ⟨?_, ?_⟩
  · intro c1
    have h := h.1 c1
    exact ⟨h, K⟩
  · intro c2
    have h := h.2 c2
    obtain ⟨c3, h⟩ := h
    refine ⟨c3, ?_⟩
    intro x5 e4
    have h := h x5 e4
    refine ⟨?_, ?_⟩
    · intro c6
      have h := h.1 c6
      exact ⟨h, K⟩
    · intro c7
      have h := h.2 c7
      obtain ⟨b8, e9, h⟩ := h
      refine ⟨b8, e9, ?_⟩
      obtain ⟨c10, h⟩ := h
      refine ⟨c10, ?_⟩
      refine ⟨?_, ?_⟩
      · intro c11
        have h := h.1 c11
        obtain ⟨b12, e13, h⟩ := h
        refine ⟨b12, e13, ?_⟩
        obtain ⟨c14, h⟩ := h
        refine ⟨c14, ?_⟩
        obtain ⟨c15, h⟩ := h
        refine ⟨c15, ?_⟩
        intro x17 e16
        have h := h x17 e16
        refine ⟨?_, ?_⟩
        · intro c18
          have h := h.1 c18
          exact kh_X4_sortAt_44 h K
        · intro c19
          have h := h.2 c19
          refine ⟨?_, ?_⟩
          · intro c20
            have h := h.1 c20
            exact kh_X4_sortAt_44 h K
          · intro c21
            have h := h.2 c21
            exact ⟨h, K⟩
      · intro c22
        have h := h.2 c22
        exact ⟨h, K⟩
theorem kh_X4_sortAt {Q : Int32 → HS → Prop} {v0 : Nat} {v1 : Int32} {S : HS} (h : P_X4_sortAt v0 v1 Q S) : P_X4_sortAt v0 v1 (fun r T => Q r T ∧ KH S T) S := kh_X4_sortAt_0 h (kh_rf S)
set_option maxRecDepth 20000 in
set_option maxHeartbeats 1000000 in
theorem kh_X4_next_201 {Q : HS → Prop} {X118 X118_2 : Nat → Int32 → Int32 → Int32 → Int32 → HS → Prop} {v0 : Nat} {v1 : Int32} {v2 : Int32} {v3 : Int32} {v4 : Int32} {S0 S : HS} (h : P_X4_next_201 Q X118 v0 v1 v2 v3 v4 S) (K : KH S0 S) (hX118 : ∀ (u0 : Nat) (u1 : Int32) (u2 : Int32) (u3 : Int32) (u4 : Int32) (u5 : HS), X118 u0 u1 u2 u3 u4 u5 → KH S0 u5 → X118_2 u0 u1 u2 u3 u4 u5) : P_X4_next_201 (fun T => Q T ∧ KH S0 T) X118_2 v0 v1 v2 v3 v4 S := by
  delta P_X4_next_201 at h ⊢
  obtain ⟨c1, h⟩ := h
  refine ⟨c1, ?_⟩
  intro x3 e2
  have h := h x3 e2
  intro x5 e4
  have h := h x5 e4
  intro x7 e6
  have h := h x7 e6
  have K := kh_I K e6
  intro x9 e8
  have h := h x9 e8
  exact hX118 _ _ _ _ _ _ h K
set_option maxRecDepth 20000 in
set_option maxHeartbeats 1000000 in
theorem kh_X4_next_195 {Q : HS → Prop} {X118 X118_2 : Nat → Int32 → Int32 → Int32 → Int32 → HS → Prop} {v0 : Nat} {v1 : Int32} {v2 : Int32} {v3 : Int32} {v4 : Int32} {s0 : Nat} {s1 : Int64} {s2 : Int32} {s3 : Int32} {S0 S : HS} (h : P_X4_next_195 Q X118 v0 v1 v2 v3 v4 s0 s1 s2 s3 S) (K : KH S0 S) (hX118 : ∀ (u0 : Nat) (u1 : Int32) (u2 : Int32) (u3 : Int32) (u4 : Int32) (u5 : HS), X118 u0 u1 u2 u3 u4 u5 → KH S0 u5 → X118_2 u0 u1 u2 u3 u4 u5) : P_X4_next_195 (fun T => Q T ∧ KH S0 T) X118_2 v0 v1 v2 v3 v4 s0 s1 s2 s3 S := by
  delta P_X4_next_195 at h ⊢
  obtain ⟨c1, h⟩ := h
  refine ⟨c1, ?_⟩
  intro x3 e2
  have h := h x3 e2
  intro x5 e4
  have h := h x5 e4
  have K := kh_J K e4
  exact kh_X4_next_201 h K hX118
set_option maxRecDepth 20000 in
set_option maxHeartbeats 1000000 in
theorem kh_X4_next_240 {Q : HS → Prop} {v0 : Nat} {v1 : Int32} {S0 S : HS} (h : P_X4_next_240 Q v0 v1 S) (K : KH S0 S) : P_X4_next_240 (fun T => Q T ∧ KH S0 T) v0 v1 S := by
  delta P_X4_next_240 at h ⊢
  refine ⟨?_, ?_⟩
  · intro c1
    have h := h.1 c1
    exact ⟨h, K⟩
  · intro c2
    have h := h.2 c2
    obtain ⟨c3, h⟩ := h
    refine ⟨c3, ?_⟩
    intro x5 e4
    have h := h x5 e4
    refine ⟨?_, ?_⟩
    · intro c6
      have h := h.1 c6
      exact ⟨h, K⟩
    · intro c7
      have h := h.2 c7
      intro x9 e8
      have h := h x9 e8
      intro x11 e10
      have h := h x11 e10
      intro x13 e12
      have h := h x13 e12
      have K := kh_I K e12
      exact ⟨h, K⟩
set_option maxRecDepth 20000 in
set_option maxHeartbeats 1000000 in
theorem kh_X4_next_217 {Q : HS → Prop} {v0 : Nat} {v1 : Int32} {v2 : Int32} {S0 S : HS} (h : P_X4_next_217 Q v0 v1 v2 S) (K : KH S0 S) : P_X4_next_217 (fun T => Q T ∧ KH S0 T) v0 v1 v2 S := by
  delta P_X4_next_217 at h ⊢
  refine ⟨?_, ?_⟩
  · intro c1
    have h := h.1 c1
    exact kh_X4_next_240 h K
  · intro c2
    have h := h.2 c2
    obtain ⟨c3, h⟩ := h
    refine ⟨c3, ?_⟩
    intro x5 e4
    have h := h x5 e4
    intro x7 e6
    have h := h x7 e6
    refine ⟨?_, ?_⟩
    · intro c8
      have h := h.1 c8
      exact kh_X4_next_240 h K
    · intro c9
      have h := h.2 c9
      intro x11 e10
      have h := h x11 e10
      have K := kh_I K e10
      exact kh_X4_next_240 h K
set_option maxRecDepth 20000 in
set_option maxHeartbeats 1000000 in
theorem khB_X4_next_118 {Q : HS → Prop} {X118 X118_2 : Nat → Int32 → Int32 → Int32 → Int32 → HS → Prop} {v0 : Nat} {v1 : Int32} {v2 : Int32} {v3 : Int32} {v4 : Int32} {S0 S : HS} (h : B_X4_next_118 Q X118 v0 v1 v2 v3 v4 S) (K : KH S0 S) (hX118 : ∀ (u0 : Nat) (u1 : Int32) (u2 : Int32) (u3 : Int32) (u4 : Int32) (u5 : HS), X118 u0 u1 u2 u3 u4 u5 → KH S0 u5 → X118_2 u0 u1 u2 u3 u4 u5) : B_X4_next_118 (fun T => Q T ∧ KH S0 T) X118_2 v0 v1 v2 v3 v4 S := by
  delta B_X4_next_118 at h ⊢
  refine ⟨?_, ?_⟩
  · intro c1
    have h := h.1 c1
    exact kh_X4_next_217 h K
  · intro c2
    have h := h.2 c2
    refine ⟨?_, ?_⟩
    · intro c3
      have h := h.1 c3
      exact kh_X4_next_217 h K
    · intro c4
      have h := h.2 c4
      obtain ⟨c5, h⟩ := h
      refine ⟨c5, ?_⟩
      intro x7 e6
      have h := h x7 e6
      refine cm_X4_sortAt (kh_X4_sortAt h) h (fun x8 x9 hp h g10 => ?_)
      have h := h g10
      have K := kh_tr K hp.2
      intro x12 e11
      have h := h x12 e11
      refine ⟨?_, ?_⟩
      · intro c13
        have h := h.1 c13
        exact kh_X4_next_217 h K
      · intro c14
        have h := h.2 c14
        refine ⟨?_, ?_⟩
        · intro c15
          have h := h.1 c15
          exact kh_X4_next_201 h K hX118
        · intro c16
          have h := h.2 c16
          intro x18 e17
          have h := h x18 e17
          obtain ⟨b19, e20, h⟩ := h
          refine ⟨b19, e20, ?_⟩
          obtain ⟨c21, h⟩ := h
          refine ⟨c21, ?_⟩
          refine ⟨?_, ?_⟩
          · intro c22
            have h := h.1 c22
            exact kh_X4_next_201 h K hX118
          · intro c23
            have h := h.2 c23
            intro x25 e24
            have h := h x25 e24
            obtain ⟨b26, e27, h⟩ := h
            refine ⟨b26, e27, ?_⟩
            intro x29 e28
            have h := h x29 e28
            obtain ⟨c30, h⟩ := h
            refine ⟨c30, ?_⟩
            obtain ⟨c31, h⟩ := h
            refine ⟨c31, ?_⟩
            intro x33 e32
            have h := h x33 e32
            intro x35 e34
            have h := h x35 e34
            refine ⟨?_, ?_⟩
            · intro c36
              have h := h.1 c36
              exact kh_X4_next_195 h K hX118
            · intro c37
              have h := h.2 c37
              exact kh_X4_next_195 h K hX118
theorem kh_X4_next_118 {Q : HS → Prop} {v0 : Nat} {v1 : Int32} {v2 : Int32} {v3 : Int32} {v4 : Int32} {S0 S : HS} (h : P_X4_next_118 Q v0 v1 v2 v3 v4 S) (K : KH S0 S) : P_X4_next_118 (fun T => Q T ∧ KH S0 T) v0 v1 v2 v3 v4 S := h (fun v0 v1 v2 v3 v4 S => KH S0 S → P_X4_next_118 (fun T => Q T ∧ KH S0 T) v0 v1 v2 v3 v4 S) (fun v0 v1 v2 v3 v4 S hB K => fd_X4_next_118 (khB_X4_next_118 hB K (fun _ _ _ _ _ _ hx K => hx K))) K
set_option maxRecDepth 20000 in
set_option maxHeartbeats 1000000 in
theorem kh_X4_next_114 {Q : HS → Prop} {v0 : Nat} {v1 : Int32} {v2 : Int32} {s0 : Int32} {S0 S : HS} (h : P_X4_next_114 Q v0 v1 v2 s0 S) (K : KH S0 S) : P_X4_next_114 (fun T => Q T ∧ KH S0 T) v0 v1 v2 s0 S := by
  delta P_X4_next_114 at h ⊢
  exact kh_X4_next_118 h K
set_option maxRecDepth 20000 in
set_option maxHeartbeats 1000000 in
theorem kh_X4_next_98 {Q : HS → Prop} {v0 : Nat} {v1 : Int32} {s0 : Int32} {S0 S : HS} (h : P_X4_next_98 Q v0 v1 s0 S) (K : KH S0 S) : P_X4_next_98 (fun T => Q T ∧ KH S0 T) v0 v1 s0 S := by
  delta P_X4_next_98 at h ⊢
  obtain ⟨c1, h⟩ := h
  refine ⟨c1, ?_⟩
  intro x3 e2
  have h := h x3 e2
  refine ⟨?_, ?_⟩
  · intro c4
    have h := h.1 c4
    exact kh_X4_next_114 h K
  · intro c5
    have h := h.2 c5
    exact kh_X4_next_114 h K
set_option maxRecDepth 20000 in
set_option maxHeartbeats 1000000 in
theorem kh_X4_next_83 {Q : HS → Prop} {v0 : Nat} {s0 : Int32} {S0 S : HS} (h : P_X4_next_83 Q v0 s0 S) (K : KH S0 S) : P_X4_next_83 (fun T => Q T ∧ KH S0 T) v0 s0 S := by
  delta P_X4_next_83 at h ⊢
  obtain ⟨c1, h⟩ := h
  refine ⟨c1, ?_⟩
  intro x3 e2
  have h := h x3 e2
  refine ⟨?_, ?_⟩
  · intro c4
    have h := h.1 c4
    exact kh_X4_next_98 h K
  · intro c5
    have h := h.2 c5
    exact kh_X4_next_98 h K
set_option maxRecDepth 20000 in
set_option maxHeartbeats 1000000 in
theorem kh_X4_next_78 {Q : HS → Prop} {v0 : Nat} {S0 S : HS} (h : P_X4_next_78 Q v0 S) (K : KH S0 S) : P_X4_next_78 (fun T => Q T ∧ KH S0 T) v0 S := by
  delta P_X4_next_78 at h ⊢
  exact kh_X4_next_83 h K
set_option maxRecDepth 20000 in
set_option maxHeartbeats 1000000 in
theorem kh_X4_next_37 {Q : HS → Prop} {v0 : Nat} {S0 S : HS} (h : P_X4_next_37 Q v0 S) (K : KH S0 S) : P_X4_next_37 (fun T => Q T ∧ KH S0 T) v0 S := by
  delta P_X4_next_37 at h ⊢
  obtain ⟨c1, h⟩ := h
  refine ⟨c1, ?_⟩
  intro x3 e2
  have h := h x3 e2
  intro x5 e4
  have h := h x5 e4
  have K := kh_I K e4
  intro x7 e6
  have h := h x7 e6
  refine cm_X4_sortAt (kh_X4_sortAt h) h (fun x8 x9 hp h g10 => ?_)
  have h := h g10
  have K := kh_tr K hp.2
  intro x12 e11
  have h := h x12 e11
  have K := kh_I K e11
  intro x14 e13
  have h := h x14 e13
  have K := kh_J K e13
  intro x16 e15
  have h := h x16 e15
  refine ⟨?_, ?_⟩
  · intro c17
    have h := h.1 c17
    exact kh_X4_next_78 h K
  · intro c18
    have h := h.2 c18
    intro x20 e19
    have h := h x20 e19
    refine ⟨?_, ?_⟩
    · intro c21
      have h := h.1 c21
      exact kh_X4_next_83 h K
    · intro c22
      have h := h.2 c22
      exact kh_X4_next_78 h K
set_option maxRecDepth 20000 in
set_option maxHeartbeats 1000000 in
theorem khB_X4_next_2 {Q : HS → Prop} {X2 X2_2 : Nat → Int32 → HS → Prop} {v0 : Nat} {v1 : Int32} {S0 S : HS} (h : B_X4_next_2 Q X2 v0 v1 S) (K : KH S0 S) (hX2 : ∀ (u0 : Nat) (u1 : Int32) (u2 : HS), X2 u0 u1 u2 → KH S0 u2 → X2_2 u0 u1 u2) : B_X4_next_2 (fun T => Q T ∧ KH S0 T) X2_2 v0 v1 S := by
  delta B_X4_next_2 at h ⊢
  refine ⟨?_, ?_⟩
  · intro c1
    have h := h.1 c1
    exact kh_X4_next_37 h K
  · intro c2
    have h := h.2 c2
    obtain ⟨c3, h⟩ := h
    refine ⟨c3, ?_⟩
    intro x5 e4
    have h := h x5 e4
    refine cm_X4_sortAt (kh_X4_sortAt h) h (fun x6 x7 hp h g8 => ?_)
    have h := h g8
    have K := kh_tr K hp.2
    refine ⟨?_, ?_⟩
    · intro c9
      have h := h.1 c9
      exact kh_X4_next_37 h K
    · intro c10
      have h := h.2 c10
      intro x12 e11
      have h := h x12 e11
      intro x14 e13
      have h := h x14 e13
      intro x16 e15
      have h := h x16 e15
      have K := kh_I K e15
      intro x18 e17
      have h := h x18 e17
      exact hX2 _ _ _ h K
theorem kh_X4_next_2 {Q : HS → Prop} {v0 : Nat} {v1 : Int32} {S0 S : HS} (h : P_X4_next_2 Q v0 v1 S) (K : KH S0 S) : P_X4_next_2 (fun T => Q T ∧ KH S0 T) v0 v1 S := h (fun v0 v1 S => KH S0 S → P_X4_next_2 (fun T => Q T ∧ KH S0 T) v0 v1 S) (fun v0 v1 S hB K => fd_X4_next_2 (khB_X4_next_2 hB K (fun _ _ _ hx K => hx K))) K
set_option maxRecDepth 20000 in
set_option maxHeartbeats 1000000 in
theorem kh_X4_next_0 {Q : HS → Prop} {v0 : Nat} {S0 S : HS} (h : P_X4_next_0 Q v0 S) (K : KH S0 S) : P_X4_next_0 (fun T => Q T ∧ KH S0 T) v0 S := by
  delta P_X4_next_0 at h ⊢
  exact kh_X4_next_2 h K
theorem kh_X4_next {Q : HS → Prop} {v0 : Nat} {S : HS} (h : P_X4_next v0 Q S) : P_X4_next v0 (fun T => Q T ∧ KH S T) S := kh_X4_next_0 h (kh_rf S)
set_option maxRecDepth 20000 in
set_option maxHeartbeats 1000000 in
theorem kh_X4_whole_34 {Q : Int32 → HS → Prop} {v0 : Nat} {S0 S : HS} (h : P_X4_whole_34 Q v0 S) (K : KH S0 S) : P_X4_whole_34 (fun r T => Q r T ∧ KH S0 T) v0 S := by
  delta P_X4_whole_34 at h ⊢
  obtain ⟨c1, h⟩ := h
  refine ⟨c1, ?_⟩
  refine cm_X4_fail (kh_X4_fail h) h (fun x2 x3 hp h g4 g5 => ?_)
  have h := h g4 g5
  have K := kh_tr K hp.2
  obtain ⟨c6, h⟩ := h
  refine ⟨c6, ?_⟩
  exact ⟨h, K⟩
set_option maxRecDepth 20000 in
set_option maxHeartbeats 1000000 in
theorem kh_X4_whole_0 {Q : Int32 → HS → Prop} {v0 : Nat} {v1 : Int32} {v2 : Int32} {S0 S : HS} (h : P_X4_whole_0 Q v0 v1 v2 S) (K : KH S0 S) : P_X4_whole_0 (fun r T => Q r T ∧ KH S0 T) v0 v1 v2 S := by
  delta P_X4_whole_0 at h ⊢
  obtain ⟨c1, h⟩ := h
  refine ⟨c1, ?_⟩
  intro x3 e2
  have h := h x3 e2
  refine ⟨?_, ?_⟩
  · intro c4
    have h := h.1 c4
    intro x6 e5
    have h := h x6 e5
    refine ⟨?_, ?_⟩
    · intro c7
      have h := h.1 c7
      exact kh_X4_whole_34 h K
    · intro c8
      have h := h.2 c8
      intro x10 e9
      have h := h x10 e9
      refine ⟨?_, ?_⟩
      · intro c11
        have h := h.1 c11
        intro x13 e12
        have h := h x13 e12
        intro x15 e14
        have h := h x15 e14
        intro x17 e16
        have h := h x17 e16
        have K := kh_I K e16
        refine cm_X4_next (kh_X4_next h) h (fun x18 hp h g19 => ?_)
        have h := h g19
        have K := kh_tr K hp.2
        exact ⟨h, K⟩
      · intro c20
        have h := h.2 c20
        exact kh_X4_whole_34 h K
  · intro c21
    have h := h.2 c21
    refine cm_X4_fail (kh_X4_fail h) h (fun x22 x23 hp h g24 g25 => ?_)
    have h := h g24 g25
    have K := kh_tr K hp.2
    obtain ⟨c26, h⟩ := h
    refine ⟨c26, ?_⟩
    exact ⟨h, K⟩
theorem kh_X4_whole {Q : Int32 → HS → Prop} {v0 : Nat} {v1 : Int32} {v2 : Int32} {S : HS} (h : P_X4_whole v0 v1 v2 Q S) : P_X4_whole v0 v1 v2 (fun r T => Q r T ∧ KH S T) S := kh_X4_whole_0 h (kh_rf S)
set_option maxRecDepth 20000 in
set_option maxHeartbeats 1000000 in
theorem khB_X4_is_15 {Q : Int32 → HS → Prop} {X15 X15_2 : Nat → Nat → Int64 → Int32 → HS → Prop} {v0 : Nat} {v1 : Nat} {v2 : Int64} {v4 : Int32} {S0 S : HS} (h : B_X4_is_15 Q X15 v0 v1 v2 v4 S) (K : KH S0 S) (hX15 : ∀ (u0 : Nat) (u1 : Nat) (u2 : Int64) (u3 : Int32) (u4 : HS), X15 u0 u1 u2 u3 u4 → KH S0 u4 → X15_2 u0 u1 u2 u3 u4) : B_X4_is_15 (fun r T => Q r T ∧ KH S0 T) X15_2 v0 v1 v2 v4 S := by
  delta B_X4_is_15 at h ⊢
  obtain ⟨c1, h⟩ := h
  refine ⟨c1, ?_⟩
  intro x3 e2
  have h := h x3 e2
  refine ⟨?_, ?_⟩
  · intro c4
    have h := h.1 c4
    obtain ⟨c5, h⟩ := h
    refine ⟨c5, ?_⟩
    intro x7 e6
    have h := h x7 e6
    refine ⟨?_, ?_⟩
    · intro c8
      have h := h.1 c8
      exact ⟨h, K⟩
    · intro c9
      have h := h.2 c9
      exact ⟨h, K⟩
  · intro c10
    have h := h.2 c10
    obtain ⟨c11, h⟩ := h
    refine ⟨c11, ?_⟩
    obtain ⟨c12, h⟩ := h
    refine ⟨c12, ?_⟩
    intro x14 e13
    have h := h x14 e13
    intro x16 e15
    have h := h x16 e15
    intro x18 e17
    have h := h x18 e17
    exact hX15 _ _ _ _ _ h K
theorem kh_X4_is_15 {Q : Int32 → HS → Prop} {v0 : Nat} {v1 : Nat} {v2 : Int64} {v4 : Int32} {S0 S : HS} (h : P_X4_is_15 Q v0 v1 v2 v4 S) (K : KH S0 S) : P_X4_is_15 (fun r T => Q r T ∧ KH S0 T) v0 v1 v2 v4 S := h (fun v0 v1 v2 v4 S => KH S0 S → P_X4_is_15 (fun r T => Q r T ∧ KH S0 T) v0 v1 v2 v4 S) (fun v0 v1 v2 v4 S hB K => fd_X4_is_15 (khB_X4_is_15 hB K (fun _ _ _ _ _ hx K => hx K))) K
set_option maxRecDepth 20000 in
set_option maxHeartbeats 1000000 in
theorem kh_X4_is_0 {Q : Int32 → HS → Prop} {v0 : Nat} {v1 : Nat} {S0 S : HS} (h : P_X4_is_0 Q v0 v1 S) (K : KH S0 S) : P_X4_is_0 (fun r T => Q r T ∧ KH S0 T) v0 v1 S := by
  delta P_X4_is_0 at h ⊢
  obtain ⟨c1, h⟩ := h
  refine ⟨c1, ?_⟩
  intro x3 e2
  have h := h x3 e2
  refine ⟨?_, ?_⟩
  · intro c4
    have h := h.1 c4
    exact kh_X4_is_15 h K
  · intro c5
    have h := h.2 c5
    exact ⟨h, K⟩
theorem kh_X4_is {Q : Int32 → HS → Prop} {v0 : Nat} {v1 : Nat} {S : HS} (h : P_X4_is v0 v1 Q S) : P_X4_is v0 v1 (fun r T => Q r T ∧ KH S T) S := kh_X4_is_0 h (kh_rf S)
set_option maxRecDepth 20000 in
set_option maxHeartbeats 1000000 in
theorem kh_X4_word_0 {Q : Int32 → HS → Prop} {v0 : Nat} {v1 : Nat} {S0 S : HS} (h : P_X4_word_0 Q v0 v1 S) (K : KH S0 S) : P_X4_word_0 (fun r T => Q r T ∧ KH S0 T) v0 v1 S := by
  delta P_X4_word_0 at h ⊢
  obtain ⟨c1, h⟩ := h
  refine ⟨c1, ?_⟩
  refine cm_X4_is (kh_X4_is h) h (fun x2 x3 hp h g4 g5 => ?_)
  have h := h g4 g5
  have K := kh_tr K hp.2
  refine ⟨?_, ?_⟩
  · intro c6
    have h := h.1 c6
    refine cm_X4_next (kh_X4_next h) h (fun x7 hp h g8 => ?_)
    have h := h g8
    have K := kh_tr K hp.2
    exact ⟨h, K⟩
  · intro c9
    have h := h.2 c9
    refine cm_X4_fail (kh_X4_fail h) h (fun x10 x11 hp h g12 g13 => ?_)
    have h := h g12 g13
    have K := kh_tr K hp.2
    obtain ⟨c14, h⟩ := h
    refine ⟨c14, ?_⟩
    exact ⟨h, K⟩
theorem kh_X4_word {Q : Int32 → HS → Prop} {v0 : Nat} {v1 : Nat} {S : HS} (h : P_X4_word v0 v1 Q S) : P_X4_word v0 v1 (fun r T => Q r T ∧ KH S T) S := kh_X4_word_0 h (kh_rf S)
set_option maxRecDepth 20000 in
set_option maxHeartbeats 1000000 in
theorem kh_X4_wordAndWhole_0 {Q : Int32 → HS → Prop} {v0 : Nat} {v1 : Nat} {v2 : Int32} {v3 : Int32} {S0 S : HS} (h : P_X4_wordAndWhole_0 Q v0 v1 v2 v3 S) (K : KH S0 S) : P_X4_wordAndWhole_0 (fun r T => Q r T ∧ KH S0 T) v0 v1 v2 v3 S := by
  delta P_X4_wordAndWhole_0 at h ⊢
  obtain ⟨c1, h⟩ := h
  refine ⟨c1, ?_⟩
  refine cm_X4_word (kh_X4_word h) h (fun x2 x3 hp h g4 g5 => ?_)
  have h := h g4 g5
  have K := kh_tr K hp.2
  refine ⟨?_, ?_⟩
  · intro c6
    have h := h.1 c6
    exact ⟨h, K⟩
  · intro c7
    have h := h.2 c7
    refine cm_X4_whole (kh_X4_whole h) h (fun x8 x9 hp h g10 g11 => ?_)
    have h := h g10 g11
    have K := kh_tr K hp.2
    refine ⟨?_, ?_⟩
    · intro c12
      have h := h.1 c12
      exact ⟨h, K⟩
    · intro c13
      have h := h.2 c13
      exact ⟨h, K⟩
theorem kh_X4_wordAndWhole {Q : Int32 → HS → Prop} {v0 : Nat} {v1 : Nat} {v2 : Int32} {v3 : Int32} {S : HS} (h : P_X4_wordAndWhole v0 v1 v2 v3 Q S) : P_X4_wordAndWhole v0 v1 v2 v3 (fun r T => Q r T ∧ KH S T) S := kh_X4_wordAndWhole_0 h (kh_rf S)
set_option maxRecDepth 20000 in
set_option maxHeartbeats 1000000 in
theorem kh_X6_shape_16 {Q : HS → Prop} {v0 : Nat} {v1 : Int32} {v2 : Int32} {v3 : Int32} {s0 : Int32} {S0 S : HS} (h : P_X6_shape_16 Q v0 v1 v2 v3 s0 S) (K : KH S0 S) : P_X6_shape_16 (fun T => Q T ∧ KH S0 T) v0 v1 v2 v3 s0 S := by
  delta P_X6_shape_16 at h ⊢
  obtain ⟨c1, h⟩ := h
  refine ⟨c1, ?_⟩
  intro x3 e2
  have h := h x3 e2
  intro x5 e4
  have h := h x5 e4
  have K := kh_I K e4
  intro x7 e6
  have h := h x7 e6
  intro x9 e8
  have h := h x9 e8
  have K := kh_I K e8
  intro x11 e10
  have h := h x11 e10
  intro x13 e12
  have h := h x13 e12
  have K := kh_I K e12
  exact ⟨h, K⟩
set_option maxRecDepth 20000 in
set_option maxHeartbeats 1000000 in
theorem kh_X6_shape_0 {Q : HS → Prop} {v0 : Nat} {v1 : Int32} {v2 : Int32} {v3 : Int32} {S0 S : HS} (h : P_X6_shape_0 Q v0 v1 v2 v3 S) (K : KH S0 S) : P_X6_shape_0 (fun T => Q T ∧ KH S0 T) v0 v1 v2 v3 S := by
  delta P_X6_shape_0 at h ⊢
  obtain ⟨c1, h⟩ := h
  refine ⟨c1, ?_⟩
  intro x3 e2
  have h := h x3 e2
  refine ⟨?_, ?_⟩
  · intro c4
    have h := h.1 c4
    exact kh_X6_shape_16 h K
  · intro c5
    have h := h.2 c5
    intro x7 e6
    have h := h x7 e6
    exact kh_X6_shape_16 h K
theorem kh_X6_shape {Q : HS → Prop} {v0 : Nat} {v1 : Int32} {v2 : Int32} {v3 : Int32} {S : HS} (h : P_X6_shape v0 v1 v2 v3 Q S) : P_X6_shape v0 v1 v2 v3 (fun T => Q T ∧ KH S T) S := kh_X6_shape_0 h (kh_rf S)
set_option maxRecDepth 20000 in
set_option maxHeartbeats 1000000 in
theorem kh_X4_bodyOf_58 {Q : Int32 → HS → Prop} {v0 : Nat} {v1 : Nat} {v2 : Int32} {v3 : Int32} {s0 : Int32} {S0 S : HS} (h : P_X4_bodyOf_58 Q v0 v1 v2 v3 s0 S) (K : KH S0 S) : P_X4_bodyOf_58 (fun r T => Q r T ∧ KH S0 T) v0 v1 v2 v3 s0 S := by
  delta P_X4_bodyOf_58 at h ⊢
  obtain ⟨c1, h⟩ := h
  refine ⟨c1, ?_⟩
  refine cm_X4_wordAndWhole (kh_X4_wordAndWhole h) h (fun x2 x3 hp h g4 g5 => ?_)
  have h := h g4 g5
  have K := kh_tr K hp.2
  refine ⟨?_, ?_⟩
  · intro c6
    have h := h.1 c6
    intro x8 e7
    have h := h x8 e7
    obtain ⟨c9, h⟩ := h
    refine ⟨c9, ?_⟩
    refine cm_X6_shape (kh_X6_shape h) h (fun x10 hp h g11 => ?_)
    have h := h g11
    have K := kh_tr K hp.2
    exact ⟨h, K⟩
  · intro c12
    have h := h.2 c12
    exact ⟨h, K⟩
set_option maxRecDepth 20000 in
set_option maxHeartbeats 1000000 in
theorem kh_X4_bodyOf_0 {Q : Int32 → HS → Prop} {v0 : Nat} {v1 : Nat} {S0 S : HS} (h : P_X4_bodyOf_0 Q v0 v1 S) (K : KH S0 S) : P_X4_bodyOf_0 (fun r T => Q r T ∧ KH S0 T) v0 v1 S := by
  delta P_X4_bodyOf_0 at h ⊢
  obtain ⟨c1, h⟩ := h
  refine ⟨c1, ?_⟩
  refine cm_X4_wordAndWhole (kh_X4_wordAndWhole h) h (fun x2 x3 hp h g4 g5 => ?_)
  have h := h g4 g5
  have K := kh_tr K hp.2
  refine ⟨?_, ?_⟩
  · intro c6
    have h := h.1 c6
    intro x8 e7
    have h := h x8 e7
    refine cm_X4_wordAndWhole (kh_X4_wordAndWhole h) h (fun x9 x10 hp h g11 g12 => ?_)
    have h := h g11 g12
    have K := kh_tr K hp.2
    refine ⟨?_, ?_⟩
    · intro c13
      have h := h.1 c13
      intro x15 e14
      have h := h x15 e14
      obtain ⟨c16, h⟩ := h
      refine ⟨c16, ?_⟩
      intro x18 e17
      have h := h x18 e17
      refine ⟨?_, ?_⟩
      · intro c19
        have h := h.1 c19
        exact kh_X4_bodyOf_58 h K
      · intro c20
        have h := h.2 c20
        intro x22 e21
        have h := h x22 e21
        exact kh_X4_bodyOf_58 h K
    · intro c23
      have h := h.2 c23
      exact ⟨h, K⟩
  · intro c24
    have h := h.2 c24
    exact ⟨h, K⟩
theorem kh_X4_bodyOf {Q : Int32 → HS → Prop} {v0 : Nat} {v1 : Nat} {S : HS} (h : P_X4_bodyOf v0 v1 Q S) : P_X4_bodyOf v0 v1 (fun r T => Q r T ∧ KH S T) S := kh_X4_bodyOf_0 h (kh_rf S)
set_option maxRecDepth 20000 in
set_option maxHeartbeats 1000000 in
theorem kh_X4_canBeName_86 {Q : Int32 → HS → Prop} {v0 : Nat} {s0 : Int32} {S0 S : HS} (h : P_X4_canBeName_86 Q v0 s0 S) (K : KH S0 S) : P_X4_canBeName_86 (fun r T => Q r T ∧ KH S0 T) v0 s0 S := by
  delta P_X4_canBeName_86 at h ⊢
  obtain ⟨c1, h⟩ := h
  refine ⟨c1, ?_⟩
  intro x3 e2
  have h := h x3 e2
  refine ⟨?_, ?_⟩
  · intro c4
    have h := h.1 c4
    exact ⟨h, K⟩
  · intro c5
    have h := h.2 c5
    refine ⟨?_, ?_⟩
    · intro c6
      have h := h.1 c6
      exact ⟨h, K⟩
    · intro c7
      have h := h.2 c7
      exact ⟨h, K⟩
set_option maxRecDepth 20000 in
set_option maxHeartbeats 1000000 in
theorem kh_X4_canBeName_81 {Q : Int32 → HS → Prop} {v0 : Nat} {S0 S : HS} (h : P_X4_canBeName_81 Q v0 S) (K : KH S0 S) : P_X4_canBeName_81 (fun r T => Q r T ∧ KH S0 T) v0 S := by
  delta P_X4_canBeName_81 at h ⊢
  exact kh_X4_canBeName_86 h K
set_option maxRecDepth 20000 in
set_option maxHeartbeats 1000000 in
theorem kh_X4_canBeName_0 {Q : Int32 → HS → Prop} {v0 : Nat} {S0 S : HS} (h : P_X4_canBeName_0 Q v0 S) (K : KH S0 S) : P_X4_canBeName_0 (fun r T => Q r T ∧ KH S0 T) v0 S := by
  delta P_X4_canBeName_0 at h ⊢
  obtain ⟨c1, h⟩ := h
  refine ⟨c1, ?_⟩
  refine cm_X4_is (kh_X4_is h) h (fun x2 x3 hp h g4 g5 => ?_)
  have h := h g4 g5
  have K := kh_tr K hp.2
  refine ⟨?_, ?_⟩
  · intro c6
    have h := h.1 c6
    exact kh_X4_canBeName_81 h K
  · intro c7
    have h := h.2 c7
    refine cm_X4_is (kh_X4_is h) h (fun x8 x9 hp h g10 g11 => ?_)
    have h := h g10 g11
    have K := kh_tr K hp.2
    refine ⟨?_, ?_⟩
    · intro c12
      have h := h.1 c12
      exact kh_X4_canBeName_81 h K
    · intro c13
      have h := h.2 c13
      refine cm_X4_is (kh_X4_is h) h (fun x14 x15 hp h g16 g17 => ?_)
      have h := h g16 g17
      have K := kh_tr K hp.2
      refine ⟨?_, ?_⟩
      · intro c18
        have h := h.1 c18
        exact kh_X4_canBeName_81 h K
      · intro c19
        have h := h.2 c19
        refine cm_X4_is (kh_X4_is h) h (fun x20 x21 hp h g22 g23 => ?_)
        have h := h g22 g23
        have K := kh_tr K hp.2
        refine ⟨?_, ?_⟩
        · intro c24
          have h := h.1 c24
          exact kh_X4_canBeName_81 h K
        · intro c25
          have h := h.2 c25
          refine cm_X4_is (kh_X4_is h) h (fun x26 x27 hp h g28 g29 => ?_)
          have h := h g28 g29
          have K := kh_tr K hp.2
          refine ⟨?_, ?_⟩
          · intro c30
            have h := h.1 c30
            exact kh_X4_canBeName_81 h K
          · intro c31
            have h := h.2 c31
            refine cm_X4_is (kh_X4_is h) h (fun x32 x33 hp h g34 g35 => ?_)
            have h := h g34 g35
            have K := kh_tr K hp.2
            refine ⟨?_, ?_⟩
            · intro c36
              have h := h.1 c36
              exact kh_X4_canBeName_81 h K
            · intro c37
              have h := h.2 c37
              refine cm_X4_is (kh_X4_is h) h (fun x38 x39 hp h g40 g41 => ?_)
              have h := h g40 g41
              have K := kh_tr K hp.2
              refine ⟨?_, ?_⟩
              · intro c42
                have h := h.1 c42
                exact kh_X4_canBeName_81 h K
              · intro c43
                have h := h.2 c43
                refine cm_X4_is (kh_X4_is h) h (fun x44 x45 hp h g46 g47 => ?_)
                have h := h g46 g47
                have K := kh_tr K hp.2
                refine ⟨?_, ?_⟩
                · intro c48
                  have h := h.1 c48
                  exact kh_X4_canBeName_81 h K
                · intro c49
                  have h := h.2 c49
                  refine cm_X4_is (kh_X4_is h) h (fun x50 x51 hp h g52 g53 => ?_)
                  have h := h g52 g53
                  have K := kh_tr K hp.2
                  refine ⟨?_, ?_⟩
                  · intro c54
                    have h := h.1 c54
                    exact kh_X4_canBeName_86 h K
                  · intro c55
                    have h := h.2 c55
                    exact kh_X4_canBeName_81 h K
theorem kh_X4_canBeName {Q : Int32 → HS → Prop} {v0 : Nat} {S : HS} (h : P_X4_canBeName v0 Q S) : P_X4_canBeName v0 (fun r T => Q r T ∧ KH S T) S := kh_X4_canBeName_0 h (kh_rf S)
set_option maxRecDepth 20000 in
set_option maxHeartbeats 1000000 in
theorem kh_X4_exchange_0 {Q : Nat → HS → Prop} {v0 : Nat} {v1 : Nat} {S0 S : HS} (h : P_X4_exchange_0 Q v0 v1 S) (K : KH S0 S) : P_X4_exchange_0 (fun r T => Q r T ∧ KH S0 T) v0 v1 S := by
  delta P_X4_exchange_0 at h ⊢
  obtain ⟨c1, h⟩ := h
  refine ⟨c1, ?_⟩
  obtain ⟨b2, e3, h⟩ := h
  refine ⟨b2, e3, ?_⟩
  intro x5 e4
  have h := h x5 e4
  have K := kh_R K e4
  exact ⟨h, K⟩
theorem kh_X4_exchange {Q : Nat → HS → Prop} {v0 : Nat} {v1 : Nat} {S : HS} (h : P_X4_exchange v0 v1 Q S) : P_X4_exchange v0 v1 (fun r T => Q r T ∧ KH S T) S := kh_X4_exchange_0 h (kh_rf S)
set_option maxRecDepth 20000 in
set_option maxHeartbeats 1000000 in
theorem khB_X4_findName_2 {Q : Int32 → HS → Prop} {X2 X2_2 : Nat → Int32 → HS → Prop} {v0 : Nat} {v1 : Int32} {S0 S : HS} (h : B_X4_findName_2 Q X2 v0 v1 S) (K : KH S0 S) (hX2 : ∀ (u0 : Nat) (u1 : Int32) (u2 : HS), X2 u0 u1 u2 → KH S0 u2 → X2_2 u0 u1 u2) : B_X4_findName_2 (fun r T => Q r T ∧ KH S0 T) X2_2 v0 v1 S := by
  delta B_X4_findName_2 at h ⊢
  obtain ⟨c1, h⟩ := h
  refine ⟨c1, ?_⟩
  intro x3 e2
  have h := h x3 e2
  refine ⟨?_, ?_⟩
  · intro c4
    have h := h.1 c4
    exact ⟨h, K⟩
  · intro c5
    have h := h.2 c5
    refine ⟨?_, ?_⟩
    · intro c6
      have h := h.1 c6
      exact ⟨h, K⟩
    · intro c7
      have h := h.2 c7
      obtain ⟨b8, e9, h⟩ := h
      refine ⟨b8, e9, ?_⟩
      obtain ⟨c10, h⟩ := h
      refine ⟨c10, ?_⟩
      obtain ⟨c11, h⟩ := h
      refine ⟨c11, ?_⟩
      intro x13 e12
      have h := h x13 e12
      intro x15 e14
      have h := h x15 e14
      refine ⟨?_, ?_⟩
      · intro c16
        have h := h.1 c16
        intro x18 e17
        have h := h x18 e17
        exact hX2 _ _ _ h K
      · intro c19
        have h := h.2 c19
        obtain ⟨b20, e21, h⟩ := h
        refine ⟨b20, e21, ?_⟩
        obtain ⟨c22, h⟩ := h
        refine ⟨c22, ?_⟩
        obtain ⟨c23, h⟩ := h
        refine ⟨c23, ?_⟩
        intro x25 e24
        have h := h x25 e24
        exact ⟨h, K⟩
theorem kh_X4_findName_2 {Q : Int32 → HS → Prop} {v0 : Nat} {v1 : Int32} {S0 S : HS} (h : P_X4_findName_2 Q v0 v1 S) (K : KH S0 S) : P_X4_findName_2 (fun r T => Q r T ∧ KH S0 T) v0 v1 S := h (fun v0 v1 S => KH S0 S → P_X4_findName_2 (fun r T => Q r T ∧ KH S0 T) v0 v1 S) (fun v0 v1 S hB K => fd_X4_findName_2 (khB_X4_findName_2 hB K (fun _ _ _ hx K => hx K))) K
set_option maxRecDepth 20000 in
set_option maxHeartbeats 1000000 in
theorem kh_X4_findName_0 {Q : Int32 → HS → Prop} {v0 : Nat} {S0 S : HS} (h : P_X4_findName_0 Q v0 S) (K : KH S0 S) : P_X4_findName_0 (fun r T => Q r T ∧ KH S0 T) v0 S := by
  delta P_X4_findName_0 at h ⊢
  exact kh_X4_findName_2 h K
theorem kh_X4_findName {Q : Int32 → HS → Prop} {v0 : Nat} {S : HS} (h : P_X4_findName v0 Q S) : P_X4_findName v0 (fun r T => Q r T ∧ KH S T) S := kh_X4_findName_0 h (kh_rf S)
set_option maxRecDepth 20000 in
set_option maxHeartbeats 1000000 in
theorem kh_X8_isTold_0 {Q : Int32 → HS → Prop} {v0 : Nat} {S0 S : HS} (h : P_X8_isTold_0 Q v0 S) (K : KH S0 S) : P_X8_isTold_0 (fun r T => Q r T ∧ KH S0 T) v0 S := by
  delta P_X8_isTold_0 at h ⊢
  obtain ⟨c1, h⟩ := h
  refine ⟨c1, ?_⟩
  intro x3 e2
  have h := h x3 e2
  refine ⟨?_, ?_⟩
  · intro c4
    have h := h.1 c4
    exact ⟨h, K⟩
  · intro c5
    have h := h.2 c5
    exact ⟨h, K⟩
theorem kh_X8_isTold {Q : Int32 → HS → Prop} {v0 : Nat} {S : HS} (h : P_X8_isTold v0 Q S) : P_X8_isTold v0 (fun r T => Q r T ∧ KH S T) S := kh_X8_isTold_0 h (kh_rf S)
set_option maxRecDepth 20000 in
set_option maxHeartbeats 1000000 in
theorem kh_X4_hasRoom_0 {Q : Int32 → HS → Prop} {v0 : Nat} {v1 : Int32} {v2 : Int32} {S0 S : HS} (h : P_X4_hasRoom_0 Q v0 v1 v2 S) (K : KH S0 S) : P_X4_hasRoom_0 (fun r T => Q r T ∧ KH S0 T) v0 v1 v2 S := by
  delta P_X4_hasRoom_0 at h ⊢
  obtain ⟨c1, h⟩ := h
  refine ⟨c1, ?_⟩
  obtain ⟨b2, e3, h⟩ := h
  refine ⟨b2, e3, ?_⟩
  obtain ⟨c4, h⟩ := h
  refine ⟨c4, ?_⟩
  refine cm_X8_isTold (kh_X8_isTold h) h (fun x5 x6 hp h g7 g8 => ?_)
  have h := h g7 g8
  have K := kh_tr K hp.2
  refine ⟨?_, ?_⟩
  · intro c9
    have h := h.1 c9
    refine ⟨?_, ?_⟩
    · intro c10
      have h := h.1 c10
      refine cm_X4_next (kh_X4_next h) h (fun x11 hp h g12 => ?_)
      have h := h g12
      have K := kh_tr K hp.2
      exact ⟨h, K⟩
    · intro c13
      have h := h.2 c13
      refine cm_X4_fail (kh_X4_fail h) h (fun x14 x15 hp h g16 g17 => ?_)
      have h := h g16 g17
      have K := kh_tr K hp.2
      obtain ⟨c18, h⟩ := h
      refine ⟨c18, ?_⟩
      exact ⟨h, K⟩
  · intro c19
    have h := h.2 c19
    refine cm_X4_fail (kh_X4_fail h) h (fun x20 x21 hp h g22 g23 => ?_)
    have h := h g22 g23
    have K := kh_tr K hp.2
    obtain ⟨c24, h⟩ := h
    refine ⟨c24, ?_⟩
    exact ⟨h, K⟩
theorem kh_X4_hasRoom {Q : Int32 → HS → Prop} {v0 : Nat} {v1 : Int32} {v2 : Int32} {S : HS} (h : P_X4_hasRoom v0 v1 v2 Q S) : P_X4_hasRoom v0 v1 v2 (fun r T => Q r T ∧ KH S T) S := kh_X4_hasRoom_0 h (kh_rf S)
set_option maxRecDepth 20000 in
set_option maxHeartbeats 1000000 in
theorem kh_X5_init_0 {Q : HS → Prop} {v0 : Nat} {S0 S : HS} (h : P_X5_init_0 Q v0 S) (K : KH S0 S) : P_X5_init_0 (fun T => Q T ∧ KH S0 T) v0 S := by
  delta P_X5_init_0 at h ⊢
  exact ⟨h, K⟩
theorem kh_X5_init {Q : HS → Prop} {v0 : Nat} {S : HS} (h : P_X5_init v0 Q S) : P_X5_init v0 (fun T => Q T ∧ KH S T) S := kh_X5_init_0 h (kh_rf S)
set_option maxRecDepth 20000 in
set_option maxHeartbeats 1000000 in
theorem kh_X6_init_0 {Q : HS → Prop} {v0 : Nat} {S0 S : HS} (h : P_X6_init_0 Q v0 S) (K : KH S0 S) : P_X6_init_0 (fun T => Q T ∧ KH S0 T) v0 S := by
  delta P_X6_init_0 at h ⊢
  exact ⟨h, K⟩
theorem kh_X6_init {Q : HS → Prop} {v0 : Nat} {S : HS} (h : P_X6_init v0 Q S) : P_X6_init v0 (fun T => Q T ∧ KH S T) S := kh_X6_init_0 h (kh_rf S)
set_option maxRecDepth 20000 in
set_option maxHeartbeats 1000000 in
theorem kh_X4_kindOf_0 {Q : Int32 → HS → Prop} {v0 : Nat} {v1 : Nat} {S0 S : HS} (h : P_X4_kindOf_0 Q v0 v1 S) (K : KH S0 S) : P_X4_kindOf_0 (fun r T => Q r T ∧ KH S0 T) v0 v1 S := by
  delta P_X4_kindOf_0 at h ⊢
  obtain ⟨c1, h⟩ := h
  refine ⟨c1, ?_⟩
  intro x3 e2
  have h := h x3 e2
  have K := kh_I K e2
  refine cm_X4_is (kh_X4_is h) h (fun x4 x5 hp h g6 g7 => ?_)
  have h := h g6 g7
  have K := kh_tr K hp.2
  refine ⟨?_, ?_⟩
  · intro c8
    have h := h.1 c8
    refine cm_X4_is (kh_X4_is h) h (fun x9 x10 hp h g11 g12 => ?_)
    have h := h g11 g12
    have K := kh_tr K hp.2
    refine ⟨?_, ?_⟩
    · intro c13
      have h := h.1 c13
      refine cm_X4_is (kh_X4_is h) h (fun x14 x15 hp h g16 g17 => ?_)
      have h := h g16 g17
      have K := kh_tr K hp.2
      refine ⟨?_, ?_⟩
      · intro c18
        have h := h.1 c18
        obtain ⟨c19, h⟩ := h
        refine ⟨c19, ?_⟩
        intro x21 e20
        have h := h x21 e20
        have K := kh_I K e20
        refine cm_X4_word (kh_X4_word h) h (fun x22 x23 hp h g24 g25 => ?_)
        have h := h g24 g25
        have K := kh_tr K hp.2
        intro x27 e26
        have h := h x27 e26
        intro x29 e28
        have h := h x29 e28
        have K := kh_I K e28
        obtain ⟨c30, h⟩ := h
        refine ⟨c30, ?_⟩
        exact ⟨h, K⟩
      · intro c31
        have h := h.2 c31
        obtain ⟨c32, h⟩ := h
        refine ⟨c32, ?_⟩
        intro x34 e33
        have h := h x34 e33
        have K := kh_I K e33
        refine cm_X4_wordAndWhole (kh_X4_wordAndWhole h) h (fun x35 x36 hp h g37 g38 => ?_)
        have h := h g37 g38
        have K := kh_tr K hp.2
        intro x40 e39
        have h := h x40 e39
        intro x42 e41
        have h := h x42 e41
        have K := kh_I K e41
        obtain ⟨c43, h⟩ := h
        refine ⟨c43, ?_⟩
        exact ⟨h, K⟩
    · intro c44
      have h := h.2 c44
      obtain ⟨c45, h⟩ := h
      refine ⟨c45, ?_⟩
      intro x47 e46
      have h := h x47 e46
      have K := kh_I K e46
      refine cm_X4_wordAndWhole (kh_X4_wordAndWhole h) h (fun x48 x49 hp h g50 g51 => ?_)
      have h := h g50 g51
      have K := kh_tr K hp.2
      intro x53 e52
      have h := h x53 e52
      intro x55 e54
      have h := h x55 e54
      have K := kh_I K e54
      obtain ⟨c56, h⟩ := h
      refine ⟨c56, ?_⟩
      exact ⟨h, K⟩
  · intro c57
    have h := h.2 c57
    obtain ⟨c58, h⟩ := h
    refine ⟨c58, ?_⟩
    intro x60 e59
    have h := h x60 e59
    have K := kh_I K e59
    refine cm_X4_wordAndWhole (kh_X4_wordAndWhole h) h (fun x61 x62 hp h g63 g64 => ?_)
    have h := h g63 g64
    have K := kh_tr K hp.2
    intro x66 e65
    have h := h x66 e65
    intro x68 e67
    have h := h x68 e67
    have K := kh_I K e67
    obtain ⟨c69, h⟩ := h
    refine ⟨c69, ?_⟩
    exact ⟨h, K⟩
theorem kh_X4_kindOf {Q : Int32 → HS → Prop} {v0 : Nat} {v1 : Nat} {S : HS} (h : P_X4_kindOf v0 v1 Q S) : P_X4_kindOf v0 v1 (fun r T => Q r T ∧ KH S T) S := kh_X4_kindOf_0 h (kh_rf S)
set_option maxRecDepth 20000 in
set_option maxHeartbeats 1000000 in
theorem kh_X4_newName_69 {Q : Int32 → HS → Prop} {v0 : Nat} {S0 S : HS} (h : P_X4_newName_69 Q v0 S) (K : KH S0 S) : P_X4_newName_69 (fun r T => Q r T ∧ KH S0 T) v0 S := by
  delta P_X4_newName_69 at h ⊢
  obtain ⟨c1, h⟩ := h
  refine ⟨c1, ?_⟩
  refine cm_X4_next (kh_X4_next h) h (fun x2 hp h g3 => ?_)
  have h := h g3
  have K := kh_tr K hp.2
  exact ⟨h, K⟩
set_option maxRecDepth 20000 in
set_option maxHeartbeats 1000000 in
theorem kh_X4_newName_0 {Q : Int32 → HS → Prop} {v0 : Nat} {v1 : Int32} {S0 S : HS} (h : P_X4_newName_0 Q v0 v1 S) (K : KH S0 S) : P_X4_newName_0 (fun r T => Q r T ∧ KH S0 T) v0 v1 S := by
  delta P_X4_newName_0 at h ⊢
  obtain ⟨c1, h⟩ := h
  refine ⟨c1, ?_⟩
  refine cm_X4_canBeName (kh_X4_canBeName h) h (fun x2 x3 hp h g4 g5 => ?_)
  have h := h g4 g5
  have K := kh_tr K hp.2
  refine ⟨?_, ?_⟩
  · intro c6
    have h := h.1 c6
    refine cm_X4_findName (kh_X4_findName h) h (fun x7 x8 hp h g9 => ?_)
    have h := h g9
    have K := kh_tr K hp.2
    refine ⟨?_, ?_⟩
    · intro c10
      have h := h.1 c10
      intro x12 e11
      have h := h x12 e11
      refine ⟨?_, ?_⟩
      · intro c13
        have h := h.1 c13
        exact kh_X4_newName_69 h K
      · intro c14
        have h := h.2 c14
        obtain ⟨b15, e16, h⟩ := h
        refine ⟨b15, e16, ?_⟩
        intro x18 e17
        have h := h x18 e17
        intro x20 e19
        have h := h x20 e19
        obtain ⟨c21, h⟩ := h
        refine ⟨c21, ?_⟩
        obtain ⟨c22, h⟩ := h
        refine ⟨c22, ?_⟩
        intro x24 e23
        have h := h x24 e23
        have K := kh_J K e23
        obtain ⟨b25, e26, h⟩ := h
        refine ⟨b25, e26, ?_⟩
        intro x28 e27
        have h := h x28 e27
        obtain ⟨c29, h⟩ := h
        refine ⟨c29, ?_⟩
        obtain ⟨c30, h⟩ := h
        refine ⟨c30, ?_⟩
        intro x32 e31
        have h := h x32 e31
        have K := kh_I K e31
        intro x34 e33
        have h := h x34 e33
        intro x36 e35
        have h := h x36 e35
        intro x38 e37
        have h := h x38 e37
        have K := kh_I K e37
        exact kh_X4_newName_69 h K
    · intro c39
      have h := h.2 c39
      refine cm_X4_fail (kh_X4_fail h) h (fun x40 x41 hp h g42 g43 => ?_)
      have h := h g42 g43
      have K := kh_tr K hp.2
      obtain ⟨c44, h⟩ := h
      refine ⟨c44, ?_⟩
      exact ⟨h, K⟩
  · intro c45
    have h := h.2 c45
    refine cm_X4_fail (kh_X4_fail h) h (fun x46 x47 hp h g48 g49 => ?_)
    have h := h g48 g49
    have K := kh_tr K hp.2
    obtain ⟨c50, h⟩ := h
    refine ⟨c50, ?_⟩
    exact ⟨h, K⟩
theorem kh_X4_newName {Q : Int32 → HS → Prop} {v0 : Nat} {v1 : Int32} {S : HS} (h : P_X4_newName v0 v1 Q S) : P_X4_newName v0 v1 (fun r T => Q r T ∧ KH S T) S := kh_X4_newName_0 h (kh_rf S)
set_option maxRecDepth 20000 in
set_option maxHeartbeats 1000000 in
theorem kh_X8_clear_0 {Q : HS → Prop} {v0 : Nat} {S0 S : HS} (h : P_X8_clear_0 Q v0 S) (K : KH S0 S) : P_X8_clear_0 (fun T => Q T ∧ KH S0 T) v0 S := by
  delta P_X8_clear_0 at h ⊢
  obtain ⟨c1, h⟩ := h
  refine ⟨c1, ?_⟩
  intro x3 e2
  have h := h x3 e2
  have K := kh_I K e2
  intro x5 e4
  have h := h x5 e4
  have K := kh_I K e4
  intro x7 e6
  have h := h x7 e6
  have K := kh_I K e6
  intro x9 e8
  have h := h x9 e8
  have K := kh_I K e8
  intro x11 e10
  have h := h x11 e10
  have K := kh_I K e10
  intro x13 e12
  have h := h x13 e12
  have K := kh_I K e12
  exact ⟨h, K⟩
theorem kh_X8_clear {Q : HS → Prop} {v0 : Nat} {S : HS} (h : P_X8_clear v0 Q S) : P_X8_clear v0 (fun T => Q T ∧ KH S T) S := kh_X8_clear_0 h (kh_rf S)
set_option maxRecDepth 20000 in
set_option maxHeartbeats 1000000 in
theorem kh_X4_open_0 {Q : HS → Prop} {v0 : Nat} {v1 : Nat} {v2 : Int32} {S0 S : HS} (h : P_X4_open_0 Q v0 v1 v2 S) (K : KH S0 S) : P_X4_open_0 (fun T => Q T ∧ KH S0 T) v0 v1 v2 S := by
  delta P_X4_open_0 at h ⊢
  obtain ⟨c1, h⟩ := h
  refine ⟨c1, ?_⟩
  intro x3 e2
  have h := h x3 e2
  have K := kh_R K e2
  obtain ⟨c4, h⟩ := h
  refine ⟨c4, ?_⟩
  intro x6 e5
  have h := h x6 e5
  intro x8 e7
  have h := h x8 e7
  have K := kh_I K e7
  intro x10 e9
  have h := h x10 e9
  have K := kh_I K e9
  intro x12 e11
  have h := h x12 e11
  have K := kh_I K e11
  intro x14 e13
  have h := h x14 e13
  have K := kh_I K e13
  intro x16 e15
  have h := h x16 e15
  have K := kh_I K e15
  obtain ⟨b17, e18, h⟩ := h
  refine ⟨b17, e18, ?_⟩
  obtain ⟨c19, h⟩ := h
  refine ⟨c19, ?_⟩
  refine cm_X8_clear (kh_X8_clear h) h (fun x20 hp h g21 => ?_)
  have h := h g21
  have K := kh_tr K hp.2
  refine cm_X4_next (kh_X4_next h) h (fun x22 hp h g23 => ?_)
  have h := h g23
  have K := kh_tr K hp.2
  exact ⟨h, K⟩
theorem kh_X4_open {Q : HS → Prop} {v0 : Nat} {v1 : Nat} {v2 : Int32} {S : HS} (h : P_X4_open v0 v1 v2 Q S) : P_X4_open v0 v1 v2 (fun T => Q T ∧ KH S T) S := kh_X4_open_0 h (kh_rf S)
set_option maxRecDepth 20000 in
set_option maxHeartbeats 1000000 in
theorem kh_X4_placeBut_29 {Q : Int32 → HS → Prop} {v0 : Nat} {S0 S : HS} (h : P_X4_placeBut_29 Q v0 S) (K : KH S0 S) : P_X4_placeBut_29 (fun r T => Q r T ∧ KH S0 T) v0 S := by
  delta P_X4_placeBut_29 at h ⊢
  obtain ⟨c1, h⟩ := h
  refine ⟨c1, ?_⟩
  refine cm_X4_fail (kh_X4_fail h) h (fun x2 x3 hp h g4 g5 => ?_)
  have h := h g4 g5
  have K := kh_tr K hp.2
  obtain ⟨c6, h⟩ := h
  refine ⟨c6, ?_⟩
  exact ⟨h, K⟩
set_option maxRecDepth 20000 in
set_option maxHeartbeats 1000000 in
theorem kh_X4_placeBut_0 {Q : Int32 → HS → Prop} {v0 : Nat} {v1 : Int32} {S0 S : HS} (h : P_X4_placeBut_0 Q v0 v1 S) (K : KH S0 S) : P_X4_placeBut_0 (fun r T => Q r T ∧ KH S0 T) v0 v1 S := by
  delta P_X4_placeBut_0 at h ⊢
  obtain ⟨c1, h⟩ := h
  refine ⟨c1, ?_⟩
  refine cm_X4_canBeName (kh_X4_canBeName h) h (fun x2 x3 hp h g4 g5 => ?_)
  have h := h g4 g5
  have K := kh_tr K hp.2
  refine ⟨?_, ?_⟩
  · intro c6
    have h := h.1 c6
    refine cm_X4_findName (kh_X4_findName h) h (fun x7 x8 hp h g9 => ?_)
    have h := h g9
    have K := kh_tr K hp.2
    refine ⟨?_, ?_⟩
    · intro c10
      have h := h.1 c10
      exact kh_X4_placeBut_29 h K
    · intro c11
      have h := h.2 c11
      refine ⟨?_, ?_⟩
      · intro c12
        have h := h.1 c12
        refine ⟨?_, ?_⟩
        · intro c13
          have h := h.1 c13
          intro x15 e14
          have h := h x15 e14
          have K := kh_I K e14
          refine cm_X4_next (kh_X4_next h) h (fun x16 hp h g17 => ?_)
          have h := h g17
          have K := kh_tr K hp.2
          exact ⟨h, K⟩
        · intro c18
          have h := h.2 c18
          refine cm_X4_fail (kh_X4_fail h) h (fun x19 x20 hp h g21 g22 => ?_)
          have h := h g21 g22
          have K := kh_tr K hp.2
          obtain ⟨c23, h⟩ := h
          refine ⟨c23, ?_⟩
          exact ⟨h, K⟩
      · intro c24
        have h := h.2 c24
        exact kh_X4_placeBut_29 h K
  · intro c25
    have h := h.2 c25
    refine cm_X4_fail (kh_X4_fail h) h (fun x26 x27 hp h g28 g29 => ?_)
    have h := h g28 g29
    have K := kh_tr K hp.2
    obtain ⟨c30, h⟩ := h
    refine ⟨c30, ?_⟩
    exact ⟨h, K⟩
theorem kh_X4_placeBut {Q : Int32 → HS → Prop} {v0 : Nat} {v1 : Int32} {S : HS} (h : P_X4_placeBut v0 v1 Q S) : P_X4_placeBut v0 v1 (fun r T => Q r T ∧ KH S T) S := kh_X4_placeBut_0 h (kh_rf S)
set_option maxRecDepth 20000 in
set_option maxHeartbeats 1000000 in
theorem kh_X4_placeLine_64 {Q : Int32 → HS → Prop} {v0 : Nat} {v1 : Int32} {S0 S : HS} (h : P_X4_placeLine_64 Q v0 v1 S) (K : KH S0 S) : P_X4_placeLine_64 (fun r T => Q r T ∧ KH S0 T) v0 v1 S := by
  delta P_X4_placeLine_64 at h ⊢
  obtain ⟨c1, h⟩ := h
  refine ⟨c1, ?_⟩
  obtain ⟨b2, e3, h⟩ := h
  refine ⟨b2, e3, ?_⟩
  obtain ⟨c4, h⟩ := h
  refine ⟨c4, ?_⟩
  obtain ⟨b5, e6, h⟩ := h
  refine ⟨b5, e6, ?_⟩
  obtain ⟨b7, e8, h⟩ := h
  refine ⟨b7, e8, ?_⟩
  obtain ⟨c9, h⟩ := h
  refine ⟨c9, ?_⟩
  intro x11 e10
  have h := h x11 e10
  obtain ⟨c12, h⟩ := h
  refine ⟨c12, ?_⟩
  obtain ⟨c13, h⟩ := h
  refine ⟨c13, ?_⟩
  intro x15 e14
  have h := h x15 e14
  have K := kh_I K e14
  obtain ⟨b16, e17, h⟩ := h
  refine ⟨b16, e17, ?_⟩
  obtain ⟨c18, h⟩ := h
  refine ⟨c18, ?_⟩
  intro x20 e19
  have h := h x20 e19
  intro x22 e21
  have h := h x22 e21
  intro x24 e23
  have h := h x24 e23
  have K := kh_I K e23
  exact ⟨h, K⟩
set_option maxRecDepth 20000 in
set_option maxHeartbeats 1000000 in
theorem kh_X4_placeLine_0 {Q : Int32 → HS → Prop} {v0 : Nat} {S0 S : HS} (h : P_X4_placeLine_0 Q v0 S) (K : KH S0 S) : P_X4_placeLine_0 (fun r T => Q r T ∧ KH S0 T) v0 S := by
  delta P_X4_placeLine_0 at h ⊢
  obtain ⟨c1, h⟩ := h
  refine ⟨c1, ?_⟩
  obtain ⟨b2, e3, h⟩ := h
  refine ⟨b2, e3, ?_⟩
  obtain ⟨c4, h⟩ := h
  refine ⟨c4, ?_⟩
  intro x6 e5
  have h := h x6 e5
  refine cm_X4_newName (kh_X4_newName h) h (fun x7 x8 hp h g9 g10 => ?_)
  have h := h g9 g10
  have K := kh_tr K hp.2
  refine ⟨?_, ?_⟩
  · intro c11
    have h := h.1 c11
    refine cm_X4_is (kh_X4_is h) h (fun x12 x13 hp h g14 g15 => ?_)
    have h := h g14 g15
    have K := kh_tr K hp.2
    refine ⟨?_, ?_⟩
    · intro c16
      have h := h.1 c16
      refine cm_X4_is (kh_X4_is h) h (fun x17 x18 hp h g19 g20 => ?_)
      have h := h g19 g20
      have K := kh_tr K hp.2
      refine ⟨?_, ?_⟩
      · intro c21
        have h := h.1 c21
        exact kh_X4_placeLine_64 h K
      · intro c22
        have h := h.2 c22
        refine cm_X4_wordAndWhole (kh_X4_wordAndWhole h) h (fun x23 x24 hp h g25 g26 => ?_)
        have h := h g25 g26
        have K := kh_tr K hp.2
        refine ⟨?_, ?_⟩
        · intro c27
          have h := h.1 c27
          intro x29 e28
          have h := h x29 e28
          exact kh_X4_placeLine_64 h K
        · intro c30
          have h := h.2 c30
          exact ⟨h, K⟩
    · intro c31
      have h := h.2 c31
      refine cm_X4_next (kh_X4_next h) h (fun x32 hp h g33 => ?_)
      have h := h g33
      have K := kh_tr K hp.2
      exact kh_X4_placeLine_64 h K
  · intro c34
    have h := h.2 c34
    exact ⟨h, K⟩
theorem kh_X4_placeLine {Q : Int32 → HS → Prop} {v0 : Nat} {S : HS} (h : P_X4_placeLine v0 Q S) : P_X4_placeLine v0 (fun r T => Q r T ∧ KH S T) S := kh_X4_placeLine_0 h (kh_rf S)
set_option maxRecDepth 20000 in
set_option maxHeartbeats 1000000 in
theorem kh_X4_side_74 {Q : Int32 → HS → Prop} {v0 : Nat} {S0 S : HS} (h : P_X4_side_74 Q v0 S) (K : KH S0 S) : P_X4_side_74 (fun r T => Q r T ∧ KH S0 T) v0 S := by
  delta P_X4_side_74 at h ⊢
  obtain ⟨c1, h⟩ := h
  refine ⟨c1, ?_⟩
  refine cm_X4_next (kh_X4_next h) h (fun x2 hp h g3 => ?_)
  have h := h g3
  have K := kh_tr K hp.2
  exact ⟨h, K⟩
set_option maxRecDepth 20000 in
set_option maxHeartbeats 1000000 in
theorem kh_X4_side_0 {Q : Int32 → HS → Prop} {v0 : Nat} {S0 S : HS} (h : P_X4_side_0 Q v0 S) (K : KH S0 S) : P_X4_side_0 (fun r T => Q r T ∧ KH S0 T) v0 S := by
  delta P_X4_side_0 at h ⊢
  obtain ⟨c1, h⟩ := h
  refine ⟨c1, ?_⟩
  refine cm_X4_is (kh_X4_is h) h (fun x2 x3 hp h g4 g5 => ?_)
  have h := h g4 g5
  have K := kh_tr K hp.2
  refine ⟨?_, ?_⟩
  · intro c6
    have h := h.1 c6
    refine cm_X4_is (kh_X4_is h) h (fun x7 x8 hp h g9 g10 => ?_)
    have h := h g9 g10
    have K := kh_tr K hp.2
    refine ⟨?_, ?_⟩
    · intro c11
      have h := h.1 c11
      refine cm_X4_is (kh_X4_is h) h (fun x12 x13 hp h g14 g15 => ?_)
      have h := h g14 g15
      have K := kh_tr K hp.2
      refine ⟨?_, ?_⟩
      · intro c16
        have h := h.1 c16
        refine cm_X4_is (kh_X4_is h) h (fun x17 x18 hp h g19 g20 => ?_)
        have h := h g19 g20
        have K := kh_tr K hp.2
        refine ⟨?_, ?_⟩
        · intro c21
          have h := h.1 c21
          refine cm_X4_fail (kh_X4_fail h) h (fun x22 x23 hp h g24 g25 => ?_)
          have h := h g24 g25
          have K := kh_tr K hp.2
          obtain ⟨c26, h⟩ := h
          refine ⟨c26, ?_⟩
          exact ⟨h, K⟩
        · intro c27
          have h := h.2 c27
          intro x29 e28
          have h := h x29 e28
          have K := kh_I K e28
          exact kh_X4_side_74 h K
      · intro c30
        have h := h.2 c30
        intro x32 e31
        have h := h x32 e31
        have K := kh_I K e31
        exact kh_X4_side_74 h K
    · intro c33
      have h := h.2 c33
      intro x35 e34
      have h := h x35 e34
      have K := kh_I K e34
      exact kh_X4_side_74 h K
  · intro c36
    have h := h.2 c36
    intro x38 e37
    have h := h x38 e37
    have K := kh_I K e37
    exact kh_X4_side_74 h K
theorem kh_X4_side {Q : Int32 → HS → Prop} {v0 : Nat} {S : HS} (h : P_X4_side v0 Q S) : P_X4_side v0 (fun r T => Q r T ∧ KH S T) S := kh_X4_side_0 h (kh_rf S)
set_option maxRecDepth 20000 in
set_option maxHeartbeats 1000000 in
theorem kh_X4_rainLine_0 {Q : Int32 → HS → Prop} {v0 : Nat} {S0 S : HS} (h : P_X4_rainLine_0 Q v0 S) (K : KH S0 S) : P_X4_rainLine_0 (fun r T => Q r T ∧ KH S0 T) v0 S := by
  delta P_X4_rainLine_0 at h ⊢
  obtain ⟨c1, h⟩ := h
  refine ⟨c1, ?_⟩
  obtain ⟨b2, e3, h⟩ := h
  refine ⟨b2, e3, ?_⟩
  obtain ⟨c4, h⟩ := h
  refine ⟨c4, ?_⟩
  obtain ⟨b5, e6, h⟩ := h
  refine ⟨b5, e6, ?_⟩
  obtain ⟨b7, e8, h⟩ := h
  refine ⟨b7, e8, ?_⟩
  obtain ⟨c9, h⟩ := h
  refine ⟨c9, ?_⟩
  intro x11 e10
  have h := h x11 e10
  obtain ⟨c12, h⟩ := h
  refine ⟨c12, ?_⟩
  obtain ⟨c13, h⟩ := h
  refine ⟨c13, ?_⟩
  obtain ⟨b14, e15, h⟩ := h
  refine ⟨b14, e15, ?_⟩
  refine cm_X4_wordAndWhole (kh_X4_wordAndWhole h) h (fun x16 x17 hp h g18 g19 => ?_)
  have h := h g18 g19
  have K := kh_tr K hp.2
  refine ⟨?_, ?_⟩
  · intro c20
    have h := h.1 c20
    intro x22 e21
    have h := h x22 e21
    obtain ⟨c23, h⟩ := h
    refine ⟨c23, ?_⟩
    intro x25 e24
    have h := h x25 e24
    have K := kh_I K e24
    refine cm_X4_wordAndWhole (kh_X4_wordAndWhole h) h (fun x26 x27 hp h g28 g29 => ?_)
    have h := h g28 g29
    have K := kh_tr K hp.2
    refine ⟨?_, ?_⟩
    · intro c30
      have h := h.1 c30
      intro x32 e31
      have h := h x32 e31
      intro x34 e33
      have h := h x34 e33
      have K := kh_I K e33
      refine cm_X4_word (kh_X4_word h) h (fun x35 x36 hp h g37 g38 => ?_)
      have h := h g37 g38
      have K := kh_tr K hp.2
      refine ⟨?_, ?_⟩
      · intro c39
        have h := h.1 c39
        exact ⟨h, K⟩
      · intro c40
        have h := h.2 c40
        refine cm_X4_side (kh_X4_side h) h (fun x41 x42 hp h g43 g44 => ?_)
        have h := h g43 g44
        have K := kh_tr K hp.2
        refine ⟨?_, ?_⟩
        · intro c45
          have h := h.1 c45
          intro x47 e46
          have h := h x47 e46
          intro x49 e48
          have h := h x49 e48
          have K := kh_I K e48
          refine cm_X4_whole (kh_X4_whole h) h (fun x50 x51 hp h g52 g53 => ?_)
          have h := h g52 g53
          have K := kh_tr K hp.2
          refine ⟨?_, ?_⟩
          · intro c54
            have h := h.1 c54
            intro x56 e55
            have h := h x56 e55
            intro x58 e57
            have h := h x58 e57
            have K := kh_I K e57
            refine cm_X4_wordAndWhole (kh_X4_wordAndWhole h) h (fun x59 x60 hp h g61 g62 => ?_)
            have h := h g61 g62
            have K := kh_tr K hp.2
            refine ⟨?_, ?_⟩
            · intro c63
              have h := h.1 c63
              intro x65 e64
              have h := h x65 e64
              intro x67 e66
              have h := h x67 e66
              have K := kh_I K e66
              obtain ⟨b68, e69, h⟩ := h
              refine ⟨b68, e69, ?_⟩
              obtain ⟨c70, h⟩ := h
              refine ⟨c70, ?_⟩
              intro x72 e71
              have h := h x72 e71
              intro x74 e73
              have h := h x74 e73
              intro x76 e75
              have h := h x76 e75
              have K := kh_I K e75
              exact ⟨h, K⟩
            · intro c77
              have h := h.2 c77
              exact ⟨h, K⟩
          · intro c78
            have h := h.2 c78
            exact ⟨h, K⟩
        · intro c79
          have h := h.2 c79
          exact ⟨h, K⟩
    · intro c80
      have h := h.2 c80
      exact ⟨h, K⟩
  · intro c81
    have h := h.2 c81
    exact ⟨h, K⟩
theorem kh_X4_rainLine {Q : Int32 → HS → Prop} {v0 : Nat} {S : HS} (h : P_X4_rainLine v0 Q S) : P_X4_rainLine v0 (fun r T => Q r T ∧ KH S T) S := kh_X4_rainLine_0 h (kh_rf S)
set_option maxRecDepth 20000 in
set_option maxHeartbeats 1000000 in
theorem kh_X4_roadLine_130 {Q : Int32 → HS → Prop} {v0 : Nat} {S0 S : HS} (h : P_X4_roadLine_130 Q v0 S) (K : KH S0 S) : P_X4_roadLine_130 (fun r T => Q r T ∧ KH S0 T) v0 S := by
  delta P_X4_roadLine_130 at h ⊢
  obtain ⟨c1, h⟩ := h
  refine ⟨c1, ?_⟩
  obtain ⟨b2, e3, h⟩ := h
  refine ⟨b2, e3, ?_⟩
  obtain ⟨c4, h⟩ := h
  refine ⟨c4, ?_⟩
  intro x6 e5
  have h := h x6 e5
  intro x8 e7
  have h := h x8 e7
  intro x10 e9
  have h := h x10 e9
  have K := kh_I K e9
  exact ⟨h, K⟩
set_option maxRecDepth 20000 in
set_option maxHeartbeats 1000000 in
theorem kh_X4_roadLine_0 {Q : Int32 → HS → Prop} {v0 : Nat} {S0 S : HS} (h : P_X4_roadLine_0 Q v0 S) (K : KH S0 S) : P_X4_roadLine_0 (fun r T => Q r T ∧ KH S0 T) v0 S := by
  delta P_X4_roadLine_0 at h ⊢
  obtain ⟨c1, h⟩ := h
  refine ⟨c1, ?_⟩
  obtain ⟨b2, e3, h⟩ := h
  refine ⟨b2, e3, ?_⟩
  obtain ⟨c4, h⟩ := h
  refine ⟨c4, ?_⟩
  obtain ⟨b5, e6, h⟩ := h
  refine ⟨b5, e6, ?_⟩
  obtain ⟨b7, e8, h⟩ := h
  refine ⟨b7, e8, ?_⟩
  obtain ⟨c9, h⟩ := h
  refine ⟨c9, ?_⟩
  intro x11 e10
  have h := h x11 e10
  obtain ⟨c12, h⟩ := h
  refine ⟨c12, ?_⟩
  obtain ⟨c13, h⟩ := h
  refine ⟨c13, ?_⟩
  obtain ⟨b14, e15, h⟩ := h
  refine ⟨b14, e15, ?_⟩
  refine cm_X4_placeBut (kh_X4_placeBut h) h (fun x16 x17 hp h g18 g19 => ?_)
  have h := h g18 g19
  have K := kh_tr K hp.2
  refine ⟨?_, ?_⟩
  · intro c20
    have h := h.1 c20
    intro x22 e21
    have h := h x22 e21
    obtain ⟨c23, h⟩ := h
    refine ⟨c23, ?_⟩
    intro x25 e24
    have h := h x25 e24
    have K := kh_I K e24
    refine cm_X4_side (kh_X4_side h) h (fun x26 x27 hp h g28 g29 => ?_)
    have h := h g28 g29
    have K := kh_tr K hp.2
    refine ⟨?_, ?_⟩
    · intro c30
      have h := h.1 c30
      intro x32 e31
      have h := h x32 e31
      intro x34 e33
      have h := h x34 e33
      have K := kh_I K e33
      refine cm_X4_whole (kh_X4_whole h) h (fun x35 x36 hp h g37 g38 => ?_)
      have h := h g37 g38
      have K := kh_tr K hp.2
      refine ⟨?_, ?_⟩
      · intro c39
        have h := h.1 c39
        intro x41 e40
        have h := h x41 e40
        intro x43 e42
        have h := h x43 e42
        have K := kh_I K e42
        intro x45 e44
        have h := h x45 e44
        refine cm_X4_placeBut (kh_X4_placeBut h) h (fun x46 x47 hp h g48 g49 => ?_)
        have h := h g48 g49
        have K := kh_tr K hp.2
        refine ⟨?_, ?_⟩
        · intro c50
          have h := h.1 c50
          intro x52 e51
          have h := h x52 e51
          intro x54 e53
          have h := h x54 e53
          have K := kh_I K e53
          intro x56 e55
          have h := h x56 e55
          have K := kh_I K e55
          refine cm_X4_is (kh_X4_is h) h (fun x57 x58 hp h g59 g60 => ?_)
          have h := h g59 g60
          have K := kh_tr K hp.2
          refine ⟨?_, ?_⟩
          · intro c61
            have h := h.1 c61
            exact kh_X4_roadLine_130 h K
          · intro c62
            have h := h.2 c62
            intro x64 e63
            have h := h x64 e63
            refine cm_X4_wordAndWhole (kh_X4_wordAndWhole h) h (fun x65 x66 hp h g67 g68 => ?_)
            have h := h g67 g68
            have K := kh_tr K hp.2
            refine ⟨?_, ?_⟩
            · intro c69
              have h := h.1 c69
              intro x71 e70
              have h := h x71 e70
              intro x73 e72
              have h := h x73 e72
              have K := kh_I K e72
              exact kh_X4_roadLine_130 h K
            · intro c74
              have h := h.2 c74
              exact ⟨h, K⟩
        · intro c75
          have h := h.2 c75
          exact ⟨h, K⟩
      · intro c76
        have h := h.2 c76
        exact ⟨h, K⟩
    · intro c77
      have h := h.2 c77
      exact ⟨h, K⟩
  · intro c78
    have h := h.2 c78
    exact ⟨h, K⟩
theorem kh_X4_roadLine {Q : Int32 → HS → Prop} {v0 : Nat} {S : HS} (h : P_X4_roadLine v0 Q S) : P_X4_roadLine v0 (fun r T => Q r T ∧ KH S T) S := kh_X4_roadLine_0 h (kh_rf S)
set_option maxRecDepth 20000 in
set_option maxHeartbeats 1000000 in
theorem kh_X4_sign_0 {Q : Int32 → HS → Prop} {v0 : Nat} {v1 : Int32} {S0 S : HS} (h : P_X4_sign_0 Q v0 v1 S) (K : KH S0 S) : P_X4_sign_0 (fun r T => Q r T ∧ KH S0 T) v0 v1 S := by
  delta P_X4_sign_0 at h ⊢
  obtain ⟨c1, h⟩ := h
  refine ⟨c1, ?_⟩
  intro x3 e2
  have h := h x3 e2
  refine ⟨?_, ?_⟩
  · intro c4
    have h := h.1 c4
    refine cm_X4_next (kh_X4_next h) h (fun x5 hp h g6 => ?_)
    have h := h g6
    have K := kh_tr K hp.2
    exact ⟨h, K⟩
  · intro c7
    have h := h.2 c7
    refine cm_X4_fail (kh_X4_fail h) h (fun x8 x9 hp h g10 g11 => ?_)
    have h := h g10 g11
    have K := kh_tr K hp.2
    obtain ⟨c12, h⟩ := h
    refine ⟨c12, ?_⟩
    exact ⟨h, K⟩
theorem kh_X4_sign {Q : Int32 → HS → Prop} {v0 : Nat} {v1 : Int32} {S : HS} (h : P_X4_sign v0 v1 Q S) : P_X4_sign v0 v1 (fun r T => Q r T ∧ KH S T) S := kh_X4_sign_0 h (kh_rf S)
set_option maxRecDepth 20000 in
set_option maxHeartbeats 1000000 in
theorem kh_X4_someWalker_0 {Q : Int32 → HS → Prop} {v0 : Nat} {S0 S : HS} (h : P_X4_someWalker_0 Q v0 S) (K : KH S0 S) : P_X4_someWalker_0 (fun r T => Q r T ∧ KH S0 T) v0 S := by
  delta P_X4_someWalker_0 at h ⊢
  obtain ⟨c1, h⟩ := h
  refine ⟨c1, ?_⟩
  refine cm_X4_canBeName (kh_X4_canBeName h) h (fun x2 x3 hp h g4 g5 => ?_)
  have h := h g4 g5
  have K := kh_tr K hp.2
  refine ⟨?_, ?_⟩
  · intro c6
    have h := h.1 c6
    refine cm_X4_findName (kh_X4_findName h) h (fun x7 x8 hp h g9 => ?_)
    have h := h g9
    have K := kh_tr K hp.2
    refine ⟨?_, ?_⟩
    · intro c10
      have h := h.1 c10
      intro x12 e11
      have h := h x12 e11
      intro x14 e13
      have h := h x14 e13
      have K := kh_I K e13
      refine cm_X4_next (kh_X4_next h) h (fun x15 hp h g16 => ?_)
      have h := h g16
      have K := kh_tr K hp.2
      exact ⟨h, K⟩
    · intro c17
      have h := h.2 c17
      refine cm_X4_fail (kh_X4_fail h) h (fun x18 x19 hp h g20 g21 => ?_)
      have h := h g20 g21
      have K := kh_tr K hp.2
      obtain ⟨c22, h⟩ := h
      refine ⟨c22, ?_⟩
      exact ⟨h, K⟩
  · intro c23
    have h := h.2 c23
    refine cm_X4_fail (kh_X4_fail h) h (fun x24 x25 hp h g26 g27 => ?_)
    have h := h g26 g27
    have K := kh_tr K hp.2
    obtain ⟨c28, h⟩ := h
    refine ⟨c28, ?_⟩
    exact ⟨h, K⟩
theorem kh_X4_someWalker {Q : Int32 → HS → Prop} {v0 : Nat} {S : HS} (h : P_X4_someWalker v0 Q S) : P_X4_someWalker v0 (fun r T => Q r T ∧ KH S T) S := kh_X4_someWalker_0 h (kh_rf S)
set_option maxRecDepth 20000 in
set_option maxHeartbeats 1000000 in
theorem kh_X4_seenLine_47 {Q : Int32 → HS → Prop} {X30 X30_2 : Nat → Int32 → HS → Prop} {v0 : Nat} {v1 : Int32} {S0 S : HS} (h : P_X4_seenLine_47 Q X30 v0 v1 S) (K : KH S0 S) (hX30 : ∀ (u0 : Nat) (u1 : Int32) (u2 : HS), X30 u0 u1 u2 → KH S0 u2 → X30_2 u0 u1 u2) : P_X4_seenLine_47 (fun r T => Q r T ∧ KH S0 T) X30_2 v0 v1 S := by
  delta P_X4_seenLine_47 at h ⊢
  obtain ⟨c1, h⟩ := h
  refine ⟨c1, ?_⟩
  refine cm_X4_whole (kh_X4_whole h) h (fun x2 x3 hp h g4 g5 => ?_)
  have h := h g4 g5
  have K := kh_tr K hp.2
  refine ⟨?_, ?_⟩
  · intro c6
    have h := h.1 c6
    obtain ⟨b7, e8, h⟩ := h
    refine ⟨b7, e8, ?_⟩
    obtain ⟨c9, h⟩ := h
    refine ⟨c9, ?_⟩
    obtain ⟨b10, e11, h⟩ := h
    refine ⟨b10, e11, ?_⟩
    obtain ⟨b12, e13, h⟩ := h
    refine ⟨b12, e13, ?_⟩
    obtain ⟨c14, h⟩ := h
    refine ⟨c14, ?_⟩
    intro x16 e15
    have h := h x16 e15
    intro x18 e17
    have h := h x18 e17
    obtain ⟨c19, h⟩ := h
    refine ⟨c19, ?_⟩
    obtain ⟨c20, h⟩ := h
    refine ⟨c20, ?_⟩
    intro x22 e21
    have h := h x22 e21
    have K := kh_I K e21
    intro x24 e23
    have h := h x24 e23
    exact hX30 _ _ _ h K
  · intro c25
    have h := h.2 c25
    exact ⟨h, K⟩
set_option maxRecDepth 20000 in
set_option maxHeartbeats 1000000 in
theorem khB_X4_seenLine_30 {Q : Int32 → HS → Prop} {X30 X30_2 : Nat → Int32 → HS → Prop} {v0 : Nat} {v1 : Int32} {S0 S : HS} (h : B_X4_seenLine_30 Q X30 v0 v1 S) (K : KH S0 S) (hX30 : ∀ (u0 : Nat) (u1 : Int32) (u2 : HS), X30 u0 u1 u2 → KH S0 u2 → X30_2 u0 u1 u2) : B_X4_seenLine_30 (fun r T => Q r T ∧ KH S0 T) X30_2 v0 v1 S := by
  delta B_X4_seenLine_30 at h ⊢
  refine ⟨?_, ?_⟩
  · intro c1
    have h := h.1 c1
    obtain ⟨c2, h⟩ := h
    refine ⟨c2, ?_⟩
    obtain ⟨b3, e4, h⟩ := h
    refine ⟨b3, e4, ?_⟩
    obtain ⟨c5, h⟩ := h
    refine ⟨c5, ?_⟩
    intro x7 e6
    have h := h x7 e6
    intro x9 e8
    have h := h x9 e8
    intro x11 e10
    have h := h x11 e10
    have K := kh_I K e10
    exact ⟨h, K⟩
  · intro c12
    have h := h.2 c12
    refine ⟨?_, ?_⟩
    · intro c13
      have h := h.1 c13
      exact kh_X4_seenLine_47 h K hX30
    · intro c14
      have h := h.2 c14
      obtain ⟨c15, h⟩ := h
      refine ⟨c15, ?_⟩
      refine cm_X4_sign (kh_X4_sign h) h (fun x16 x17 hp h g18 g19 => ?_)
      have h := h g18 g19
      have K := kh_tr K hp.2
      refine ⟨?_, ?_⟩
      · intro c20
        have h := h.1 c20
        exact ⟨h, K⟩
      · intro c21
        have h := h.2 c21
        exact kh_X4_seenLine_47 h K hX30
theorem kh_X4_seenLine_30 {Q : Int32 → HS → Prop} {v0 : Nat} {v1 : Int32} {S0 S : HS} (h : P_X4_seenLine_30 Q v0 v1 S) (K : KH S0 S) : P_X4_seenLine_30 (fun r T => Q r T ∧ KH S0 T) v0 v1 S := h (fun v0 v1 S => KH S0 S → P_X4_seenLine_30 (fun r T => Q r T ∧ KH S0 T) v0 v1 S) (fun v0 v1 S hB K => fd_X4_seenLine_30 (khB_X4_seenLine_30 hB K (fun _ _ _ hx K => hx K))) K
set_option maxRecDepth 20000 in
set_option maxHeartbeats 1000000 in
theorem kh_X4_seenLine_0 {Q : Int32 → HS → Prop} {v0 : Nat} {S0 S : HS} (h : P_X4_seenLine_0 Q v0 S) (K : KH S0 S) : P_X4_seenLine_0 (fun r T => Q r T ∧ KH S0 T) v0 S := by
  delta P_X4_seenLine_0 at h ⊢
  obtain ⟨c1, h⟩ := h
  refine ⟨c1, ?_⟩
  refine cm_X4_someWalker (kh_X4_someWalker h) h (fun x2 x3 hp h g4 g5 => ?_)
  have h := h g4 g5
  have K := kh_tr K hp.2
  refine ⟨?_, ?_⟩
  · intro c6
    have h := h.1 c6
    obtain ⟨b7, e8, h⟩ := h
    refine ⟨b7, e8, ?_⟩
    obtain ⟨c9, h⟩ := h
    refine ⟨c9, ?_⟩
    obtain ⟨b10, e11, h⟩ := h
    refine ⟨b10, e11, ?_⟩
    obtain ⟨b12, e13, h⟩ := h
    refine ⟨b12, e13, ?_⟩
    obtain ⟨c14, h⟩ := h
    refine ⟨c14, ?_⟩
    intro x16 e15
    have h := h x16 e15
    intro x18 e17
    have h := h x18 e17
    obtain ⟨c19, h⟩ := h
    refine ⟨c19, ?_⟩
    obtain ⟨c20, h⟩ := h
    refine ⟨c20, ?_⟩
    intro x22 e21
    have h := h x22 e21
    have K := kh_I K e21
    exact kh_X4_seenLine_30 h K
  · intro c23
    have h := h.2 c23
    exact ⟨h, K⟩
theorem kh_X4_seenLine {Q : Int32 → HS → Prop} {v0 : Nat} {S : HS} (h : P_X4_seenLine v0 Q S) : P_X4_seenLine v0 (fun r T => Q r T ∧ KH S T) S := kh_X4_seenLine_0 h (kh_rf S)
set_option maxRecDepth 20000 in
set_option maxHeartbeats 1000000 in
theorem kh_X4_walkerLine_0 {Q : Int32 → HS → Prop} {v0 : Nat} {S0 S : HS} (h : P_X4_walkerLine_0 Q v0 S) (K : KH S0 S) : P_X4_walkerLine_0 (fun r T => Q r T ∧ KH S0 T) v0 S := by
  delta P_X4_walkerLine_0 at h ⊢
  obtain ⟨c1, h⟩ := h
  refine ⟨c1, ?_⟩
  obtain ⟨b2, e3, h⟩ := h
  refine ⟨b2, e3, ?_⟩
  obtain ⟨c4, h⟩ := h
  refine ⟨c4, ?_⟩
  obtain ⟨b5, e6, h⟩ := h
  refine ⟨b5, e6, ?_⟩
  obtain ⟨b7, e8, h⟩ := h
  refine ⟨b7, e8, ?_⟩
  obtain ⟨c9, h⟩ := h
  refine ⟨c9, ?_⟩
  intro x11 e10
  have h := h x11 e10
  obtain ⟨c12, h⟩ := h
  refine ⟨c12, ?_⟩
  obtain ⟨c13, h⟩ := h
  refine ⟨c13, ?_⟩
  obtain ⟨b14, e15, h⟩ := h
  refine ⟨b14, e15, ?_⟩
  obtain ⟨b16, e17, h⟩ := h
  refine ⟨b16, e17, ?_⟩
  obtain ⟨c18, h⟩ := h
  refine ⟨c18, ?_⟩
  intro x20 e19
  have h := h x20 e19
  refine cm_X4_newName (kh_X4_newName h) h (fun x21 x22 hp h g23 g24 => ?_)
  have h := h g23 g24
  have K := kh_tr K hp.2
  refine ⟨?_, ?_⟩
  · intro c25
    have h := h.1 c25
    exact ⟨h, K⟩
  · intro c26
    have h := h.2 c26
    refine cm_X4_kindOf (kh_X4_kindOf h) h (fun x27 x28 hp h g29 g30 => ?_)
    have h := h g29 g30
    have K := kh_tr K hp.2
    refine ⟨?_, ?_⟩
    · intro c31
      have h := h.1 c31
      exact ⟨h, K⟩
    · intro c32
      have h := h.2 c32
      refine cm_X4_bodyOf (kh_X4_bodyOf h) h (fun x33 x34 hp h g35 g36 => ?_)
      have h := h g35 g36
      have K := kh_tr K hp.2
      refine ⟨?_, ?_⟩
      · intro c37
        have h := h.1 c37
        refine cm_X4_wordAndWhole (kh_X4_wordAndWhole h) h (fun x38 x39 hp h g40 g41 => ?_)
        have h := h g40 g41
        have K := kh_tr K hp.2
        refine ⟨?_, ?_⟩
        · intro c42
          have h := h.1 c42
          intro x44 e43
          have h := h x44 e43
          obtain ⟨c45, h⟩ := h
          refine ⟨c45, ?_⟩
          intro x47 e46
          have h := h x47 e46
          have K := kh_I K e46
          intro x49 e48
          have h := h x49 e48
          refine cm_X4_wordAndWhole (kh_X4_wordAndWhole h) h (fun x50 x51 hp h g52 g53 => ?_)
          have h := h g52 g53
          have K := kh_tr K hp.2
          refine ⟨?_, ?_⟩
          · intro c54
            have h := h.1 c54
            intro x56 e55
            have h := h x56 e55
            intro x58 e57
            have h := h x58 e57
            have K := kh_I K e57
            obtain ⟨b59, e60, h⟩ := h
            refine ⟨b59, e60, ?_⟩
            obtain ⟨c61, h⟩ := h
            refine ⟨c61, ?_⟩
            intro x63 e62
            have h := h x63 e62
            intro x65 e64
            have h := h x65 e64
            intro x67 e66
            have h := h x67 e66
            have K := kh_I K e66
            exact ⟨h, K⟩
          · intro c68
            have h := h.2 c68
            exact ⟨h, K⟩
        · intro c69
          have h := h.2 c69
          exact ⟨h, K⟩
      · intro c70
        have h := h.2 c70
        exact ⟨h, K⟩
theorem kh_X4_walkerLine {Q : Int32 → HS → Prop} {v0 : Nat} {S : HS} (h : P_X4_walkerLine v0 Q S) : P_X4_walkerLine v0 (fun r T => Q r T ∧ KH S T) S := kh_X4_walkerLine_0 h (kh_rf S)
set_option maxRecDepth 20000 in
set_option maxHeartbeats 1000000 in
theorem kh_X4_worldLine_0 {Q : Int32 → HS → Prop} {v0 : Nat} {S0 S : HS} (h : P_X4_worldLine_0 Q v0 S) (K : KH S0 S) : P_X4_worldLine_0 (fun r T => Q r T ∧ KH S0 T) v0 S := by
  delta P_X4_worldLine_0 at h ⊢
  obtain ⟨c1, h⟩ := h
  refine ⟨c1, ?_⟩
  obtain ⟨b2, e3, h⟩ := h
  refine ⟨b2, e3, ?_⟩
  obtain ⟨c4, h⟩ := h
  refine ⟨c4, ?_⟩
  refine cm_X8_isTold (kh_X8_isTold h) h (fun x5 x6 hp h g7 g8 => ?_)
  have h := h g7 g8
  have K := kh_tr K hp.2
  refine ⟨?_, ?_⟩
  · intro c9
    have h := h.1 c9
    refine cm_X4_next (kh_X4_next h) h (fun x10 hp h g11 => ?_)
    have h := h g11
    have K := kh_tr K hp.2
    refine cm_X4_wordAndWhole (kh_X4_wordAndWhole h) h (fun x12 x13 hp h g14 g15 => ?_)
    have h := h g14 g15
    have K := kh_tr K hp.2
    refine ⟨?_, ?_⟩
    · intro c16
      have h := h.1 c16
      obtain ⟨b17, e18, h⟩ := h
      refine ⟨b17, e18, ?_⟩
      intro x20 e19
      have h := h x20 e19
      obtain ⟨c21, h⟩ := h
      refine ⟨c21, ?_⟩
      intro x23 e22
      have h := h x23 e22
      have K := kh_I K e22
      exact ⟨h, K⟩
    · intro c24
      have h := h.2 c24
      exact ⟨h, K⟩
  · intro c25
    have h := h.2 c25
    refine cm_X4_fail (kh_X4_fail h) h (fun x26 x27 hp h g28 g29 => ?_)
    have h := h g28 g29
    have K := kh_tr K hp.2
    obtain ⟨c30, h⟩ := h
    refine ⟨c30, ?_⟩
    exact ⟨h, K⟩
theorem kh_X4_worldLine {Q : Int32 → HS → Prop} {v0 : Nat} {S : HS} (h : P_X4_worldLine v0 Q S) : P_X4_worldLine v0 (fun r T => Q r T ∧ KH S T) S := kh_X4_worldLine_0 h (kh_rf S)
set_option maxRecDepth 20000 in
set_option maxHeartbeats 1000000 in
theorem kh_X4_read_280 {Q : Int32 → HS → Prop} {v0 : Nat} {S0 S : HS} (h : P_X4_read_280 Q v0 S) (K : KH S0 S) : P_X4_read_280 (fun r T => Q r T ∧ KH S0 T) v0 S := by
  delta P_X4_read_280 at h ⊢
  obtain ⟨c1, h⟩ := h
  refine ⟨c1, ?_⟩
  refine cm_X4_fail (kh_X4_fail h) h (fun x2 x3 hp h g4 g5 => ?_)
  have h := h g4 g5
  have K := kh_tr K hp.2
  refine ⟨?_, ?_⟩
  · intro c6
    have h := h.1 c6
    exact ⟨h, K⟩
  · intro c7
    have h := h.2 c7
    exact ⟨h, K⟩
set_option maxRecDepth 20000 in
set_option maxHeartbeats 1000000 in
theorem kh_X4_read_295 {Q : Int32 → HS → Prop} {X8 X8_2 : Nat → Int32 → HS → Prop} {v0 : Nat} {v3 : Int32} {v4 : Int32} {S0 S : HS} (h : P_X4_read_295 Q X8 v0 v3 v4 S) (K : KH S0 S) (hX8 : ∀ (u0 : Nat) (u1 : Int32) (u2 : HS), X8 u0 u1 u2 → KH S0 u2 → X8_2 u0 u1 u2) : P_X4_read_295 (fun r T => Q r T ∧ KH S0 T) X8_2 v0 v3 v4 S := by
  delta P_X4_read_295 at h ⊢
  refine ⟨?_, ?_⟩
  · intro c1
    have h := h.1 c1
    exact ⟨h, K⟩
  · intro c2
    have h := h.2 c2
    obtain ⟨c3, h⟩ := h
    refine ⟨c3, ?_⟩
    refine cm_X4_sign (kh_X4_sign h) h (fun x4 x5 hp h g6 g7 => ?_)
    have h := h g6 g7
    have K := kh_tr K hp.2
    refine ⟨?_, ?_⟩
    · intro c8
      have h := h.1 c8
      intro x10 e9
      have h := h x10 e9
      exact hX8 _ _ _ h K
    · intro c11
      have h := h.2 c11
      exact ⟨h, K⟩
set_option maxRecDepth 20000 in
set_option maxHeartbeats 1000000 in
theorem kh_X4_read_248 {Q : Int32 → HS → Prop} {X8 X8_2 : Nat → Int32 → HS → Prop} {v0 : Nat} {v3 : Int32} {v4 : Int32} {S0 S : HS} (h : P_X4_read_248 Q X8 v0 v3 v4 S) (K : KH S0 S) (hX8 : ∀ (u0 : Nat) (u1 : Int32) (u2 : HS), X8 u0 u1 u2 → KH S0 u2 → X8_2 u0 u1 u2) : P_X4_read_248 (fun r T => Q r T ∧ KH S0 T) X8_2 v0 v3 v4 S := by
  delta P_X4_read_248 at h ⊢
  refine ⟨?_, ?_⟩
  · intro c1
    have h := h.1 c1
    exact kh_X4_read_295 h K hX8
  · intro c2
    have h := h.2 c2
    obtain ⟨c3, h⟩ := h
    refine ⟨c3, ?_⟩
    intro x5 e4
    have h := h x5 e4
    refine ⟨?_, ?_⟩
    · intro c6
      have h := h.1 c6
      exact kh_X4_read_295 h K hX8
    · intro c7
      have h := h.2 c7
      obtain ⟨b8, e9, h⟩ := h
      refine ⟨b8, e9, ?_⟩
      obtain ⟨c10, h⟩ := h
      refine ⟨c10, ?_⟩
      intro x12 e11
      have h := h x12 e11
      refine ⟨?_, ?_⟩
      · intro c13
        have h := h.1 c13
        exact kh_X4_read_280 h K
      · intro c14
        have h := h.2 c14
        obtain ⟨b15, e16, h⟩ := h
        refine ⟨b15, e16, ?_⟩
        obtain ⟨c17, h⟩ := h
        refine ⟨c17, ?_⟩
        intro x19 e18
        have h := h x19 e18
        refine ⟨?_, ?_⟩
        · intro c20
          have h := h.1 c20
          exact ⟨h, K⟩
        · intro c21
          have h := h.2 c21
          exact kh_X4_read_280 h K
set_option maxRecDepth 20000 in
set_option maxHeartbeats 1000000 in
theorem kh_X4_read_70 {Q : Int32 → HS → Prop} {X8 X8_2 : Nat → Int32 → HS → Prop} {v0 : Nat} {v3 : Int32} {s0 : Int32} {S0 S : HS} (h : P_X4_read_70 Q X8 v0 v3 s0 S) (K : KH S0 S) (hX8 : ∀ (u0 : Nat) (u1 : Int32) (u2 : HS), X8 u0 u1 u2 → KH S0 u2 → X8_2 u0 u1 u2) : P_X4_read_70 (fun r T => Q r T ∧ KH S0 T) X8_2 v0 v3 s0 S := by
  delta P_X4_read_70 at h ⊢
  exact kh_X4_read_248 h K hX8
set_option maxRecDepth 20000 in
set_option maxHeartbeats 1000000 in
theorem kh_X4_read_69 {Q : Int32 → HS → Prop} {X8 X8_2 : Nat → Int32 → HS → Prop} {v0 : Nat} {v3 : Int32} {S0 S : HS} (h : P_X4_read_69 Q X8 v0 v3 S) (K : KH S0 S) (hX8 : ∀ (u0 : Nat) (u1 : Int32) (u2 : HS), X8 u0 u1 u2 → KH S0 u2 → X8_2 u0 u1 u2) : P_X4_read_69 (fun r T => Q r T ∧ KH S0 T) X8_2 v0 v3 S := by
  delta P_X4_read_69 at h ⊢
  exact kh_X4_read_70 h K hX8
set_option maxRecDepth 20000 in
set_option maxHeartbeats 1000000 in
theorem kh_X4_read_112 {Q : Int32 → HS → Prop} {X8 X8_2 : Nat → Int32 → HS → Prop} {v0 : Nat} {v3 : Int32} {s0 : Int32} {S0 S : HS} (h : P_X4_read_112 Q X8 v0 v3 s0 S) (K : KH S0 S) (hX8 : ∀ (u0 : Nat) (u1 : Int32) (u2 : HS), X8 u0 u1 u2 → KH S0 u2 → X8_2 u0 u1 u2) : P_X4_read_112 (fun r T => Q r T ∧ KH S0 T) X8_2 v0 v3 s0 S := by
  delta P_X4_read_112 at h ⊢
  exact kh_X4_read_248 h K hX8
set_option maxRecDepth 20000 in
set_option maxHeartbeats 1000000 in
theorem kh_X4_read_111 {Q : Int32 → HS → Prop} {X8 X8_2 : Nat → Int32 → HS → Prop} {v0 : Nat} {v3 : Int32} {S0 S : HS} (h : P_X4_read_111 Q X8 v0 v3 S) (K : KH S0 S) (hX8 : ∀ (u0 : Nat) (u1 : Int32) (u2 : HS), X8 u0 u1 u2 → KH S0 u2 → X8_2 u0 u1 u2) : P_X4_read_111 (fun r T => Q r T ∧ KH S0 T) X8_2 v0 v3 S := by
  delta P_X4_read_111 at h ⊢
  exact kh_X4_read_112 h K hX8
set_option maxRecDepth 20000 in
set_option maxHeartbeats 1000000 in
theorem kh_X4_read_154 {Q : Int32 → HS → Prop} {X8 X8_2 : Nat → Int32 → HS → Prop} {v0 : Nat} {v3 : Int32} {s0 : Int32} {S0 S : HS} (h : P_X4_read_154 Q X8 v0 v3 s0 S) (K : KH S0 S) (hX8 : ∀ (u0 : Nat) (u1 : Int32) (u2 : HS), X8 u0 u1 u2 → KH S0 u2 → X8_2 u0 u1 u2) : P_X4_read_154 (fun r T => Q r T ∧ KH S0 T) X8_2 v0 v3 s0 S := by
  delta P_X4_read_154 at h ⊢
  exact kh_X4_read_248 h K hX8
set_option maxRecDepth 20000 in
set_option maxHeartbeats 1000000 in
theorem kh_X4_read_153 {Q : Int32 → HS → Prop} {X8 X8_2 : Nat → Int32 → HS → Prop} {v0 : Nat} {v3 : Int32} {S0 S : HS} (h : P_X4_read_153 Q X8 v0 v3 S) (K : KH S0 S) (hX8 : ∀ (u0 : Nat) (u1 : Int32) (u2 : HS), X8 u0 u1 u2 → KH S0 u2 → X8_2 u0 u1 u2) : P_X4_read_153 (fun r T => Q r T ∧ KH S0 T) X8_2 v0 v3 S := by
  delta P_X4_read_153 at h ⊢
  exact kh_X4_read_154 h K hX8
set_option maxRecDepth 20000 in
set_option maxHeartbeats 1000000 in
theorem kh_X4_read_195 {Q : Int32 → HS → Prop} {X8 X8_2 : Nat → Int32 → HS → Prop} {v0 : Nat} {v3 : Int32} {s0 : Int32} {S0 S : HS} (h : P_X4_read_195 Q X8 v0 v3 s0 S) (K : KH S0 S) (hX8 : ∀ (u0 : Nat) (u1 : Int32) (u2 : HS), X8 u0 u1 u2 → KH S0 u2 → X8_2 u0 u1 u2) : P_X4_read_195 (fun r T => Q r T ∧ KH S0 T) X8_2 v0 v3 s0 S := by
  delta P_X4_read_195 at h ⊢
  exact kh_X4_read_248 h K hX8
set_option maxRecDepth 20000 in
set_option maxHeartbeats 1000000 in
theorem kh_X4_read_194 {Q : Int32 → HS → Prop} {X8 X8_2 : Nat → Int32 → HS → Prop} {v0 : Nat} {v3 : Int32} {S0 S : HS} (h : P_X4_read_194 Q X8 v0 v3 S) (K : KH S0 S) (hX8 : ∀ (u0 : Nat) (u1 : Int32) (u2 : HS), X8 u0 u1 u2 → KH S0 u2 → X8_2 u0 u1 u2) : P_X4_read_194 (fun r T => Q r T ∧ KH S0 T) X8_2 v0 v3 S := by
  delta P_X4_read_194 at h ⊢
  exact kh_X4_read_195 h K hX8
set_option maxRecDepth 20000 in
set_option maxHeartbeats 1000000 in
theorem kh_X4_read_236 {Q : Int32 → HS → Prop} {X8 X8_2 : Nat → Int32 → HS → Prop} {v0 : Nat} {v3 : Int32} {s0 : Int32} {S0 S : HS} (h : P_X4_read_236 Q X8 v0 v3 s0 S) (K : KH S0 S) (hX8 : ∀ (u0 : Nat) (u1 : Int32) (u2 : HS), X8 u0 u1 u2 → KH S0 u2 → X8_2 u0 u1 u2) : P_X4_read_236 (fun r T => Q r T ∧ KH S0 T) X8_2 v0 v3 s0 S := by
  delta P_X4_read_236 at h ⊢
  exact kh_X4_read_248 h K hX8
set_option maxRecDepth 20000 in
set_option maxHeartbeats 1000000 in
theorem kh_X4_read_235 {Q : Int32 → HS → Prop} {X8 X8_2 : Nat → Int32 → HS → Prop} {v0 : Nat} {v3 : Int32} {S0 S : HS} (h : P_X4_read_235 Q X8 v0 v3 S) (K : KH S0 S) (hX8 : ∀ (u0 : Nat) (u1 : Int32) (u2 : HS), X8 u0 u1 u2 → KH S0 u2 → X8_2 u0 u1 u2) : P_X4_read_235 (fun r T => Q r T ∧ KH S0 T) X8_2 v0 v3 S := by
  delta P_X4_read_235 at h ⊢
  exact kh_X4_read_236 h K hX8
set_option maxRecDepth 20000 in
set_option maxHeartbeats 1000000 in
theorem khB_X4_read_8 {Q : Int32 → HS → Prop} {X8 X8_2 : Nat → Int32 → HS → Prop} {v0 : Nat} {v3 : Int32} {S0 S : HS} (h : B_X4_read_8 Q X8 v0 v3 S) (K : KH S0 S) (hX8 : ∀ (u0 : Nat) (u1 : Int32) (u2 : HS), X8 u0 u1 u2 → KH S0 u2 → X8_2 u0 u1 u2) : B_X4_read_8 (fun r T => Q r T ∧ KH S0 T) X8_2 v0 v3 S := by
  delta B_X4_read_8 at h ⊢
  refine ⟨?_, ?_⟩
  · intro c1
    have h := h.1 c1
    obtain ⟨c2, h⟩ := h
    refine ⟨c2, ?_⟩
    refine cm_X4_fail (kh_X4_fail h) h (fun x3 x4 hp h g5 g6 => ?_)
    have h := h g5 g6
    have K := kh_tr K hp.2
    obtain ⟨c7, h⟩ := h
    refine ⟨c7, ?_⟩
    exact ⟨h, K⟩
  · intro c8
    have h := h.2 c8
    obtain ⟨c9, h⟩ := h
    refine ⟨c9, ?_⟩
    refine cm_X4_is (kh_X4_is h) h (fun x10 x11 hp h g12 g13 => ?_)
    have h := h g12 g13
    have K := kh_tr K hp.2
    refine ⟨?_, ?_⟩
    · intro c14
      have h := h.1 c14
      refine cm_X4_is (kh_X4_is h) h (fun x15 x16 hp h g17 g18 => ?_)
      have h := h g17 g18
      have K := kh_tr K hp.2
      refine ⟨?_, ?_⟩
      · intro c19
        have h := h.1 c19
        refine cm_X4_is (kh_X4_is h) h (fun x20 x21 hp h g22 g23 => ?_)
        have h := h g22 g23
        have K := kh_tr K hp.2
        refine ⟨?_, ?_⟩
        · intro c24
          have h := h.1 c24
          refine cm_X4_is (kh_X4_is h) h (fun x25 x26 hp h g27 g28 => ?_)
          have h := h g27 g28
          have K := kh_tr K hp.2
          refine ⟨?_, ?_⟩
          · intro c29
            have h := h.1 c29
            refine cm_X4_is (kh_X4_is h) h (fun x30 x31 hp h g32 g33 => ?_)
            have h := h g32 g33
            have K := kh_tr K hp.2
            refine ⟨?_, ?_⟩
            · intro c34
              have h := h.1 c34
              refine cm_X4_is (kh_X4_is h) h (fun x35 x36 hp h g37 g38 => ?_)
              have h := h g37 g38
              have K := kh_tr K hp.2
              refine ⟨?_, ?_⟩
              · intro c39
                have h := h.1 c39
                refine cm_X4_fail (kh_X4_fail h) h (fun x40 x41 hp h g42 g43 => ?_)
                have h := h g42 g43
                have K := kh_tr K hp.2
                exact kh_X4_read_248 h K hX8
              · intro c44
                have h := h.2 c44
                obtain ⟨b45, e46, h⟩ := h
                refine ⟨b45, e46, ?_⟩
                obtain ⟨c47, h⟩ := h
                refine ⟨c47, ?_⟩
                intro x49 e48
                have h := h x49 e48
                refine cm_X4_hasRoom (kh_X4_hasRoom h) h (fun x50 x51 hp h g52 g53 => ?_)
                have h := h g52 g53
                have K := kh_tr K hp.2
                refine ⟨?_, ?_⟩
                · intro c54
                  have h := h.1 c54
                  exact kh_X4_read_235 h K hX8
                · intro c55
                  have h := h.2 c55
                  refine cm_X4_seenLine (kh_X4_seenLine h) h (fun x56 x57 hp h g58 g59 => ?_)
                  have h := h g58 g59
                  have K := kh_tr K hp.2
                  refine ⟨?_, ?_⟩
                  · intro c60
                    have h := h.1 c60
                    exact kh_X4_read_235 h K hX8
                  · intro c61
                    have h := h.2 c61
                    exact kh_X4_read_236 h K hX8
            · intro c62
              have h := h.2 c62
              obtain ⟨b63, e64, h⟩ := h
              refine ⟨b63, e64, ?_⟩
              obtain ⟨c65, h⟩ := h
              refine ⟨c65, ?_⟩
              intro x67 e66
              have h := h x67 e66
              refine cm_X4_hasRoom (kh_X4_hasRoom h) h (fun x68 x69 hp h g70 g71 => ?_)
              have h := h g70 g71
              have K := kh_tr K hp.2
              refine ⟨?_, ?_⟩
              · intro c72
                have h := h.1 c72
                exact kh_X4_read_194 h K hX8
              · intro c73
                have h := h.2 c73
                refine cm_X4_walkerLine (kh_X4_walkerLine h) h (fun x74 x75 hp h g76 g77 => ?_)
                have h := h g76 g77
                have K := kh_tr K hp.2
                refine ⟨?_, ?_⟩
                · intro c78
                  have h := h.1 c78
                  exact kh_X4_read_194 h K hX8
                · intro c79
                  have h := h.2 c79
                  exact kh_X4_read_195 h K hX8
          · intro c80
            have h := h.2 c80
            obtain ⟨b81, e82, h⟩ := h
            refine ⟨b81, e82, ?_⟩
            obtain ⟨c83, h⟩ := h
            refine ⟨c83, ?_⟩
            intro x85 e84
            have h := h x85 e84
            refine cm_X4_hasRoom (kh_X4_hasRoom h) h (fun x86 x87 hp h g88 g89 => ?_)
            have h := h g88 g89
            have K := kh_tr K hp.2
            refine ⟨?_, ?_⟩
            · intro c90
              have h := h.1 c90
              exact kh_X4_read_153 h K hX8
            · intro c91
              have h := h.2 c91
              refine cm_X4_roadLine (kh_X4_roadLine h) h (fun x92 x93 hp h g94 g95 => ?_)
              have h := h g94 g95
              have K := kh_tr K hp.2
              refine ⟨?_, ?_⟩
              · intro c96
                have h := h.1 c96
                exact kh_X4_read_153 h K hX8
              · intro c97
                have h := h.2 c97
                exact kh_X4_read_154 h K hX8
        · intro c98
          have h := h.2 c98
          obtain ⟨b99, e100, h⟩ := h
          refine ⟨b99, e100, ?_⟩
          obtain ⟨c101, h⟩ := h
          refine ⟨c101, ?_⟩
          intro x103 e102
          have h := h x103 e102
          refine cm_X4_hasRoom (kh_X4_hasRoom h) h (fun x104 x105 hp h g106 g107 => ?_)
          have h := h g106 g107
          have K := kh_tr K hp.2
          refine ⟨?_, ?_⟩
          · intro c108
            have h := h.1 c108
            exact kh_X4_read_111 h K hX8
          · intro c109
            have h := h.2 c109
            refine cm_X4_placeLine (kh_X4_placeLine h) h (fun x110 x111 hp h g112 g113 => ?_)
            have h := h g112 g113
            have K := kh_tr K hp.2
            refine ⟨?_, ?_⟩
            · intro c114
              have h := h.1 c114
              exact kh_X4_read_111 h K hX8
            · intro c115
              have h := h.2 c115
              exact kh_X4_read_112 h K hX8
      · intro c116
        have h := h.2 c116
        obtain ⟨b117, e118, h⟩ := h
        refine ⟨b117, e118, ?_⟩
        obtain ⟨c119, h⟩ := h
        refine ⟨c119, ?_⟩
        intro x121 e120
        have h := h x121 e120
        refine cm_X4_hasRoom (kh_X4_hasRoom h) h (fun x122 x123 hp h g124 g125 => ?_)
        have h := h g124 g125
        have K := kh_tr K hp.2
        refine ⟨?_, ?_⟩
        · intro c126
          have h := h.1 c126
          exact kh_X4_read_69 h K hX8
        · intro c127
          have h := h.2 c127
          refine cm_X4_rainLine (kh_X4_rainLine h) h (fun x128 x129 hp h g130 g131 => ?_)
          have h := h g130 g131
          have K := kh_tr K hp.2
          refine ⟨?_, ?_⟩
          · intro c132
            have h := h.1 c132
            exact kh_X4_read_69 h K hX8
          · intro c133
            have h := h.2 c133
            exact kh_X4_read_70 h K hX8
    · intro c134
      have h := h.2 c134
      refine cm_X4_worldLine (kh_X4_worldLine h) h (fun x135 x136 hp h g137 g138 => ?_)
      have h := h g137 g138
      have K := kh_tr K hp.2
      exact kh_X4_read_248 h K hX8
theorem kh_X4_read_8 {Q : Int32 → HS → Prop} {v0 : Nat} {v3 : Int32} {S0 S : HS} (h : P_X4_read_8 Q v0 v3 S) (K : KH S0 S) : P_X4_read_8 (fun r T => Q r T ∧ KH S0 T) v0 v3 S := h (fun v0 v3 S => KH S0 S → P_X4_read_8 (fun r T => Q r T ∧ KH S0 T) v0 v3 S) (fun v0 v3 S hB K => fd_X4_read_8 (khB_X4_read_8 hB K (fun _ _ _ hx K => hx K))) K
set_option maxRecDepth 20000 in
set_option maxHeartbeats 1000000 in
theorem kh_X4_read_0 {Q : Int32 → HS → Prop} {v0 : Nat} {v1 : Nat} {v2 : Int32} {S0 S : HS} (h : P_X4_read_0 Q v0 v1 v2 S) (K : KH S0 S) : P_X4_read_0 (fun r T => Q r T ∧ KH S0 T) v0 v1 v2 S := by
  delta P_X4_read_0 at h ⊢
  obtain ⟨c1, h⟩ := h
  refine ⟨c1, ?_⟩
  refine cm_X4_open (kh_X4_open h) h (fun x2 hp h g3 => ?_)
  have h := h g3
  have K := kh_tr K hp.2
  exact kh_X4_read_8 h K
theorem kh_X4_read {Q : Int32 → HS → Prop} {v0 : Nat} {v1 : Nat} {v2 : Int32} {S : HS} (h : P_X4_read v0 v1 v2 Q S) : P_X4_read v0 v1 v2 (fun r T => Q r T ∧ KH S T) S := kh_X4_read_0 h (kh_rf S)
set_option maxRecDepth 20000 in
set_option maxHeartbeats 1000000 in
theorem kh_X5_endOf_0 {Q : Int32 → HS → Prop} {v0 : Nat} {v1 : Int32} {S0 S : HS} (h : P_X5_endOf_0 Q v0 v1 S) (K : KH S0 S) : P_X5_endOf_0 (fun r T => Q r T ∧ KH S0 T) v0 v1 S := by
  delta P_X5_endOf_0 at h ⊢
  refine ⟨?_, ?_⟩
  · intro c1
    have h := h.1 c1
    obtain ⟨c2, h⟩ := h
    refine ⟨c2, ?_⟩
    intro x4 e3
    have h := h x4 e3
    exact ⟨h, K⟩
  · intro c5
    have h := h.2 c5
    obtain ⟨c6, h⟩ := h
    refine ⟨c6, ?_⟩
    intro x8 e7
    have h := h x8 e7
    exact ⟨h, K⟩
theorem kh_X5_endOf {Q : Int32 → HS → Prop} {v0 : Nat} {v1 : Int32} {S : HS} (h : P_X5_endOf v0 v1 Q S) : P_X5_endOf v0 v1 (fun r T => Q r T ∧ KH S T) S := kh_X5_endOf_0 h (kh_rf S)
set_option maxRecDepth 20000 in
set_option maxHeartbeats 1000000 in
theorem kh_X5_minutesAt_0 {Q : Int32 → HS → Prop} {v0 : Nat} {v1 : Int32} {S0 S : HS} (h : P_X5_minutesAt_0 Q v0 v1 S) (K : KH S0 S) : P_X5_minutesAt_0 (fun r T => Q r T ∧ KH S0 T) v0 v1 S := by
  delta P_X5_minutesAt_0 at h ⊢
  refine ⟨?_, ?_⟩
  · intro c1
    have h := h.1 c1
    exact ⟨h, K⟩
  · intro c2
    have h := h.2 c2
    obtain ⟨c3, h⟩ := h
    refine ⟨c3, ?_⟩
    intro x5 e4
    have h := h x5 e4
    obtain ⟨c6, h⟩ := h
    refine ⟨c6, ?_⟩
    intro x8 e7
    have h := h x8 e7
    exact ⟨h, K⟩
theorem kh_X5_minutesAt {Q : Int32 → HS → Prop} {v0 : Nat} {v1 : Int32} {S : HS} (h : P_X5_minutesAt v0 v1 Q S) : P_X5_minutesAt v0 v1 (fun r T => Q r T ∧ KH S T) S := kh_X5_minutesAt_0 h (kh_rf S)
set_option maxRecDepth 20000 in
set_option maxHeartbeats 1000000 in
theorem kh_X5_startOf_0 {Q : Int32 → HS → Prop} {v0 : Nat} {v1 : Int32} {S0 S : HS} (h : P_X5_startOf_0 Q v0 v1 S) (K : KH S0 S) : P_X5_startOf_0 (fun r T => Q r T ∧ KH S0 T) v0 v1 S := by
  delta P_X5_startOf_0 at h ⊢
  refine ⟨?_, ?_⟩
  · intro c1
    have h := h.1 c1
    obtain ⟨c2, h⟩ := h
    refine ⟨c2, ?_⟩
    intro x4 e3
    have h := h x4 e3
    exact ⟨h, K⟩
  · intro c5
    have h := h.2 c5
    obtain ⟨c6, h⟩ := h
    refine ⟨c6, ?_⟩
    intro x8 e7
    have h := h x8 e7
    exact ⟨h, K⟩
theorem kh_X5_startOf {Q : Int32 → HS → Prop} {v0 : Nat} {v1 : Int32} {S : HS} (h : P_X5_startOf v0 v1 Q S) : P_X5_startOf v0 v1 (fun r T => Q r T ∧ KH S T) S := kh_X5_startOf_0 h (kh_rf S)
set_option maxRecDepth 20000 in
set_option maxHeartbeats 1000000 in
theorem kh_X5_tell_0 {Q : Int32 → HS → Prop} {v0 : Nat} {v1 : Int32} {S0 S : HS} (h : P_X5_tell_0 Q v0 v1 S) (K : KH S0 S) : P_X5_tell_0 (fun r T => Q r T ∧ KH S0 T) v0 v1 S := by
  delta P_X5_tell_0 at h ⊢
  refine ⟨?_, ?_, ?_, ?_, ?_⟩
  · intro c1
    have h := h.1 c1
    obtain ⟨c2, h⟩ := h
    refine ⟨c2, ?_⟩
    intro x4 e3
    have h := h x4 e3
    exact ⟨h, K⟩
  · intro c5
    have h := h.2.1 c5
    obtain ⟨c6, h⟩ := h
    refine ⟨c6, ?_⟩
    intro x8 e7
    have h := h x8 e7
    exact ⟨h, K⟩
  · intro c9
    have h := h.2.2.1 c9
    obtain ⟨c10, h⟩ := h
    refine ⟨c10, ?_⟩
    intro x12 e11
    have h := h x12 e11
    exact ⟨h, K⟩
  · intro c13
    have h := h.2.2.2.1 c13
    obtain ⟨c14, h⟩ := h
    refine ⟨c14, ?_⟩
    intro x16 e15
    have h := h x16 e15
    exact ⟨h, K⟩
  · intro c17
    have h := h.2.2.2.2 c17
    obtain ⟨c18, h⟩ := h
    refine ⟨c18, ?_⟩
    intro x20 e19
    have h := h x20 e19
    exact ⟨h, K⟩
theorem kh_X5_tell {Q : Int32 → HS → Prop} {v0 : Nat} {v1 : Int32} {S : HS} (h : P_X5_tell v0 v1 Q S) : P_X5_tell v0 v1 (fun r T => Q r T ∧ KH S T) S := kh_X5_tell_0 h (kh_rf S)
set_option maxRecDepth 20000 in
set_option maxHeartbeats 1000000 in
theorem kh_X5_touches_0 {Q : Int32 → HS → Prop} {v0 : Nat} {v1 : Int32} {S0 S : HS} (h : P_X5_touches_0 Q v0 v1 S) (K : KH S0 S) : P_X5_touches_0 (fun r T => Q r T ∧ KH S0 T) v0 v1 S := by
  delta P_X5_touches_0 at h ⊢
  obtain ⟨c1, h⟩ := h
  refine ⟨c1, ?_⟩
  intro x3 e2
  have h := h x3 e2
  refine ⟨?_, ?_⟩
  · intro c4
    have h := h.1 c4
    exact ⟨h, K⟩
  · intro c5
    have h := h.2 c5
    intro x7 e6
    have h := h x7 e6
    refine ⟨?_, ?_⟩
    · intro c8
      have h := h.1 c8
      exact ⟨h, K⟩
    · intro c9
      have h := h.2 c9
      exact ⟨h, K⟩
theorem kh_X5_touches {Q : Int32 → HS → Prop} {v0 : Nat} {v1 : Int32} {S : HS} (h : P_X5_touches v0 v1 Q S) : P_X5_touches v0 v1 (fun r T => Q r T ∧ KH S T) S := kh_X5_touches_0 h (kh_rf S)
set_option maxRecDepth 20000 in
set_option maxHeartbeats 1000000 in
theorem kh_X6_tell_0 {Q : Int32 → HS → Prop} {v0 : Nat} {v1 : Int32} {S0 S : HS} (h : P_X6_tell_0 Q v0 v1 S) (K : KH S0 S) : P_X6_tell_0 (fun r T => Q r T ∧ KH S0 T) v0 v1 S := by
  delta P_X6_tell_0 at h ⊢
  refine ⟨?_, ?_, ?_, ?_, ?_, ?_, ?_⟩
  · intro c1
    have h := h.1 c1
    obtain ⟨c2, h⟩ := h
    refine ⟨c2, ?_⟩
    intro x4 e3
    have h := h x4 e3
    exact ⟨h, K⟩
  · intro c5
    have h := h.2.1 c5
    obtain ⟨c6, h⟩ := h
    refine ⟨c6, ?_⟩
    intro x8 e7
    have h := h x8 e7
    exact ⟨h, K⟩
  · intro c9
    have h := h.2.2.1 c9
    obtain ⟨c10, h⟩ := h
    refine ⟨c10, ?_⟩
    intro x12 e11
    have h := h x12 e11
    exact ⟨h, K⟩
  · intro c13
    have h := h.2.2.2.1 c13
    obtain ⟨c14, h⟩ := h
    refine ⟨c14, ?_⟩
    intro x16 e15
    have h := h x16 e15
    exact ⟨h, K⟩
  · intro c17
    have h := h.2.2.2.2.1 c17
    obtain ⟨c18, h⟩ := h
    refine ⟨c18, ?_⟩
    intro x20 e19
    have h := h x20 e19
    exact ⟨h, K⟩
  · intro c21
    have h := h.2.2.2.2.2.1 c21
    obtain ⟨c22, h⟩ := h
    refine ⟨c22, ?_⟩
    intro x24 e23
    have h := h x24 e23
    exact ⟨h, K⟩
  · intro c25
    have h := h.2.2.2.2.2.2 c25
    obtain ⟨c26, h⟩ := h
    refine ⟨c26, ?_⟩
    intro x28 e27
    have h := h x28 e27
    exact ⟨h, K⟩
theorem kh_X6_tell {Q : Int32 → HS → Prop} {v0 : Nat} {v1 : Int32} {S : HS} (h : P_X6_tell v0 v1 Q S) : P_X6_tell v0 v1 (fun r T => Q r T ∧ KH S T) S := kh_X6_tell_0 h (kh_rf S)
set_option maxRecDepth 20000 in
set_option maxHeartbeats 1000000 in
theorem kh_X7_addMove_0 {Q : HS → Prop} {v0 : Nat} {v1 : Int32} {v2 : Int32} {v3 : Int32} {v4 : Int64} {v6 : Int32} {S0 S : HS} (h : P_X7_addMove_0 Q v0 v1 v2 v3 v4 v6 S) (K : KH S0 S) : P_X7_addMove_0 (fun T => Q T ∧ KH S0 T) v0 v1 v2 v3 v4 v6 S := by
  delta P_X7_addMove_0 at h ⊢
  obtain ⟨c1, h⟩ := h
  refine ⟨c1, ?_⟩
  intro x3 e2
  have h := h x3 e2
  refine ⟨?_, ?_⟩
  · intro c4
    have h := h.1 c4
    exact ⟨h, K⟩
  · intro c5
    have h := h.2 c5
    intro x7 e6
    have h := h x7 e6
    refine ⟨?_, ?_⟩
    · intro c8
      have h := h.1 c8
      exact ⟨h, K⟩
    · intro c9
      have h := h.2 c9
      intro x11 e10
      have h := h x11 e10
      refine ⟨?_, ?_⟩
      · intro c12
        have h := h.1 c12
        obtain ⟨b13, e14, h⟩ := h
        refine ⟨b13, e14, ?_⟩
        intro x16 e15
        have h := h x16 e15
        obtain ⟨c17, h⟩ := h
        refine ⟨c17, ?_⟩
        intro x19 e18
        have h := h x19 e18
        obtain ⟨c20, h⟩ := h
        refine ⟨c20, ?_⟩
        intro x22 e21
        have h := h x22 e21
        have K := kh_I K e21
        obtain ⟨b23, e24, h⟩ := h
        refine ⟨b23, e24, ?_⟩
        intro x26 e25
        have h := h x26 e25
        obtain ⟨c27, h⟩ := h
        refine ⟨c27, ?_⟩
        intro x29 e28
        have h := h x29 e28
        obtain ⟨c30, h⟩ := h
        refine ⟨c30, ?_⟩
        intro x32 e31
        have h := h x32 e31
        have K := kh_I K e31
        obtain ⟨b33, e34, h⟩ := h
        refine ⟨b33, e34, ?_⟩
        intro x36 e35
        have h := h x36 e35
        obtain ⟨c37, h⟩ := h
        refine ⟨c37, ?_⟩
        obtain ⟨c38, h⟩ := h
        refine ⟨c38, ?_⟩
        intro x40 e39
        have h := h x40 e39
        have K := kh_I K e39
        obtain ⟨b41, e42, h⟩ := h
        refine ⟨b41, e42, ?_⟩
        intro x44 e43
        have h := h x44 e43
        obtain ⟨c45, h⟩ := h
        refine ⟨c45, ?_⟩
        intro x47 e46
        have h := h x47 e46
        obtain ⟨c48, h⟩ := h
        refine ⟨c48, ?_⟩
        intro x50 e49
        have h := h x50 e49
        have K := kh_J K e49
        obtain ⟨b51, e52, h⟩ := h
        refine ⟨b51, e52, ?_⟩
        intro x54 e53
        have h := h x54 e53
        obtain ⟨c55, h⟩ := h
        refine ⟨c55, ?_⟩
        obtain ⟨c56, h⟩ := h
        refine ⟨c56, ?_⟩
        intro x58 e57
        have h := h x58 e57
        have K := kh_I K e57
        intro x60 e59
        have h := h x60 e59
        intro x62 e61
        have h := h x62 e61
        intro x64 e63
        have h := h x64 e63
        have K := kh_I K e63
        exact ⟨h, K⟩
      · intro c65
        have h := h.2 c65
        exact ⟨h, K⟩
theorem kh_X7_addMove {Q : HS → Prop} {v0 : Nat} {v1 : Int32} {v2 : Int32} {v3 : Int32} {v4 : Int64} {v6 : Int32} {S : HS} (h : P_X7_addMove v0 v1 v2 v3 v4 v6 Q S) : P_X7_addMove v0 v1 v2 v3 v4 v6 (fun T => Q T ∧ KH S T) S := kh_X7_addMove_0 h (kh_rf S)
set_option maxRecDepth 20000 in
set_option maxHeartbeats 1000000 in
theorem kh_X7_addLeg_82 {Q : HS → Prop} {v0 : Nat} {v1 : Nat} {v2 : Int32} {v4 : Int64} {v6 : Int32} {v7 : Int32} {S0 S : HS} (h : P_X7_addLeg_82 Q v0 v1 v2 v4 v6 v7 S) (K : KH S0 S) : P_X7_addLeg_82 (fun T => Q T ∧ KH S0 T) v0 v1 v2 v4 v6 v7 S := by
  delta P_X7_addLeg_82 at h ⊢
  obtain ⟨c1, h⟩ := h
  refine ⟨c1, ?_⟩
  refine cm_X5_startOf (kh_X5_startOf h) h (fun x2 x3 hp h g4 => ?_)
  have h := h g4
  have K := kh_tr K hp.2
  refine cm_X5_endOf (kh_X5_endOf h) h (fun x5 x6 hp h g7 => ?_)
  have h := h g7
  have K := kh_tr K hp.2
  obtain ⟨c8, h⟩ := h
  refine ⟨c8, ?_⟩
  refine cm_X7_addMove (kh_X7_addMove h) h (fun x9 hp h g10 => ?_)
  have h := h g10
  have K := kh_tr K hp.2
  exact ⟨h, K⟩
set_option maxRecDepth 20000 in
set_option maxHeartbeats 1000000 in
theorem kh_X7_addLeg_0 {Q : HS → Prop} {v0 : Nat} {v1 : Nat} {v2 : Int32} {v3 : Int32} {v4 : Int64} {v6 : Int32} {S0 S : HS} (h : P_X7_addLeg_0 Q v0 v1 v2 v3 v4 v6 S) (K : KH S0 S) : P_X7_addLeg_0 (fun T => Q T ∧ KH S0 T) v0 v1 v2 v3 v4 v6 S := by
  delta P_X7_addLeg_0 at h ⊢
  obtain ⟨c1, h⟩ := h
  refine ⟨c1, ?_⟩
  refine cm_X5_minutesAt (kh_X5_minutesAt h) h (fun x2 x3 hp h g4 => ?_)
  have h := h g4
  have K := kh_tr K hp.2
  obtain ⟨c5, h⟩ := h
  refine ⟨c5, ?_⟩
  intro x7 e6
  have h := h x7 e6
  intro x9 e8
  have h := h x9 e8
  refine ⟨?_, ?_⟩
  · intro c10
    have h := h.1 c10
    exact kh_X7_addLeg_82 h K
  · intro c11
    have h := h.2 c11
    refine ⟨?_, ?_⟩
    · intro c12
      have h := h.1 c12
      exact kh_X7_addLeg_82 h K
    · intro c13
      have h := h.2 c13
      obtain ⟨b14, e15, h⟩ := h
      refine ⟨b14, e15, ?_⟩
      obtain ⟨c16, h⟩ := h
      refine ⟨c16, ?_⟩
      obtain ⟨c17, h⟩ := h
      refine ⟨c17, ?_⟩
      intro x19 e18
      have h := h x19 e18
      intro x21 e20
      have h := h x21 e20
      intro x23 e22
      have h := h x23 e22
      refine ⟨?_, ?_⟩
      · intro c24
        have h := h.1 c24
        exact kh_X7_addLeg_82 h K
      · intro c25
        have h := h.2 c25
        obtain ⟨b26, e27, h⟩ := h
        refine ⟨b26, e27, ?_⟩
        obtain ⟨c28, h⟩ := h
        refine ⟨c28, ?_⟩
        obtain ⟨c29, h⟩ := h
        refine ⟨c29, ?_⟩
        intro x31 e30
        have h := h x31 e30
        refine ⟨?_, ?_⟩
        · intro c32
          have h := h.1 c32
          exact kh_X7_addLeg_82 h K
        · intro c33
          have h := h.2 c33
          obtain ⟨b34, e35, h⟩ := h
          refine ⟨b34, e35, ?_⟩
          obtain ⟨c36, h⟩ := h
          refine ⟨c36, ?_⟩
          obtain ⟨c37, h⟩ := h
          refine ⟨c37, ?_⟩
          intro x39 e38
          have h := h x39 e38
          refine ⟨?_, ?_⟩
          · intro c40
            have h := h.1 c40
            intro x42 e41
            have h := h x42 e41
            have K := kh_I K e41
            exact kh_X7_addLeg_82 h K
          · intro c43
            have h := h.2 c43
            exact ⟨h, K⟩
theorem kh_X7_addLeg {Q : HS → Prop} {v0 : Nat} {v1 : Nat} {v2 : Int32} {v3 : Int32} {v4 : Int64} {v6 : Int32} {S : HS} (h : P_X7_addLeg v0 v1 v2 v3 v4 v6 Q S) : P_X7_addLeg v0 v1 v2 v3 v4 v6 (fun T => Q T ∧ KH S T) S := kh_X7_addLeg_0 h (kh_rf S)
set_option maxRecDepth 20000 in
set_option maxHeartbeats 1000000 in
theorem kh_X7_keyOf_0 {Q : Int64 → HS → Prop} {v0 : Nat} {v1 : Int32} {v2 : Int32} {S0 S : HS} (h : P_X7_keyOf_0 Q v0 v1 v2 S) (K : KH S0 S) : P_X7_keyOf_0 (fun r T => Q r T ∧ KH S0 T) v0 v1 v2 S := by
  delta P_X7_keyOf_0 at h ⊢
  intro x2 e1
  have h := h x2 e1
  refine ⟨?_, ?_⟩
  · intro c3
    have h := h.1 c3
    exact ⟨h, K⟩
  · intro c4
    have h := h.2 c4
    obtain ⟨c5, h⟩ := h
    refine ⟨c5, ?_⟩
    obtain ⟨b6, e7, h⟩ := h
    refine ⟨b6, e7, ?_⟩
    obtain ⟨c8, h⟩ := h
    refine ⟨c8, ?_⟩
    refine ⟨?_, ?_⟩
    · intro c9
      have h := h.1 c9
      exact ⟨h, K⟩
    · intro c10
      have h := h.2 c10
      obtain ⟨b11, e12, h⟩ := h
      refine ⟨b11, e12, ?_⟩
      obtain ⟨c13, h⟩ := h
      refine ⟨c13, ?_⟩
      obtain ⟨c14, h⟩ := h
      refine ⟨c14, ?_⟩
      intro x16 e15
      have h := h x16 e15
      exact ⟨h, K⟩
theorem kh_X7_keyOf {Q : Int64 → HS → Prop} {v0 : Nat} {v1 : Int32} {v2 : Int32} {S : HS} (h : P_X7_keyOf v0 v1 v2 Q S) : P_X7_keyOf v0 v1 v2 (fun r T => Q r T ∧ KH S T) S := kh_X7_keyOf_0 h (kh_rf S)
set_option maxRecDepth 20000 in
set_option maxHeartbeats 1000000 in
theorem kh_X7_endFrom_0 {Q : Int32 → HS → Prop} {v0 : Nat} {v1 : Int32} {v2 : Int32} {S0 S : HS} (h : P_X7_endFrom_0 Q v0 v1 v2 S) (K : KH S0 S) : P_X7_endFrom_0 (fun r T => Q r T ∧ KH S0 T) v0 v1 v2 S := by
  delta P_X7_endFrom_0 at h ⊢
  obtain ⟨c1, h⟩ := h
  refine ⟨c1, ?_⟩
  refine cm_X7_keyOf (kh_X7_keyOf h) h (fun x2 x3 hp h g4 => ?_)
  have h := h g4
  have K := kh_tr K hp.2
  intro x6 e5
  have h := h x6 e5
  exact ⟨h, K⟩
theorem kh_X7_endFrom {Q : Int32 → HS → Prop} {v0 : Nat} {v1 : Int32} {v2 : Int32} {S : HS} (h : P_X7_endFrom v0 v1 v2 Q S) : P_X7_endFrom v0 v1 v2 (fun r T => Q r T ∧ KH S T) S := kh_X7_endFrom_0 h (kh_rf S)
set_option maxRecDepth 20000 in
set_option maxHeartbeats 1000000 in
theorem kh_X7_forget_0 {Q : HS → Prop} {v0 : Nat} {S0 S : HS} (h : P_X7_forget_0 Q v0 S) (K : KH S0 S) : P_X7_forget_0 (fun T => Q T ∧ KH S0 T) v0 S := by
  delta P_X7_forget_0 at h ⊢
  obtain ⟨c1, h⟩ := h
  refine ⟨c1, ?_⟩
  intro x3 e2
  have h := h x3 e2
  have K := kh_I K e2
  exact ⟨h, K⟩
theorem kh_X7_forget {Q : HS → Prop} {v0 : Nat} {S : HS} (h : P_X7_forget v0 Q S) : P_X7_forget v0 (fun T => Q T ∧ KH S T) S := kh_X7_forget_0 h (kh_rf S)
set_option maxRecDepth 20000 in
set_option maxHeartbeats 1000000 in
theorem kh_X7_isOpen_0 {Q : Int32 → HS → Prop} {v0 : Nat} {v1 : Int32} {v2 : Int32} {S0 S : HS} (h : P_X7_isOpen_0 Q v0 v1 v2 S) (K : KH S0 S) : P_X7_isOpen_0 (fun r T => Q r T ∧ KH S0 T) v0 v1 v2 S := by
  delta P_X7_isOpen_0 at h ⊢
  obtain ⟨c1, h⟩ := h
  refine ⟨c1, ?_⟩
  refine cm_X7_keyOf (kh_X7_keyOf h) h (fun x2 x3 hp h g4 => ?_)
  have h := h g4
  have K := kh_tr K hp.2
  refine ⟨?_, ?_⟩
  · intro c5
    have h := h.1 c5
    exact ⟨h, K⟩
  · intro c6
    have h := h.2 c6
    exact ⟨h, K⟩
theorem kh_X7_isOpen {Q : Int32 → HS → Prop} {v0 : Nat} {v1 : Int32} {v2 : Int32} {S : HS} (h : P_X7_isOpen v0 v1 v2 Q S) : P_X7_isOpen v0 v1 v2 (fun r T => Q r T ∧ KH S T) S := kh_X7_isOpen_0 h (kh_rf S)
set_option maxRecDepth 20000 in
set_option maxHeartbeats 1000000 in
theorem kh_X7_meanFrom_0 {Q : Int64 → HS → Prop} {v0 : Nat} {v1 : Int32} {v2 : Int32} {S0 S : HS} (h : P_X7_meanFrom_0 Q v0 v1 v2 S) (K : KH S0 S) : P_X7_meanFrom_0 (fun r T => Q r T ∧ KH S0 T) v0 v1 v2 S := by
  delta P_X7_meanFrom_0 at h ⊢
  obtain ⟨c1, h⟩ := h
  refine ⟨c1, ?_⟩
  refine cm_X7_keyOf (kh_X7_keyOf h) h (fun x2 x3 hp h g4 => ?_)
  have h := h g4
  have K := kh_tr K hp.2
  intro x6 e5
  have h := h x6 e5
  exact ⟨h, K⟩
theorem kh_X7_meanFrom {Q : Int64 → HS → Prop} {v0 : Nat} {v1 : Int32} {v2 : Int32} {S : HS} (h : P_X7_meanFrom v0 v1 v2 Q S) : P_X7_meanFrom v0 v1 v2 (fun r T => Q r T ∧ KH S T) S := kh_X7_meanFrom_0 h (kh_rf S)
set_option maxRecDepth 20000 in
set_option maxHeartbeats 1000000 in
theorem kh_X8_hasPlace_0 {Q : Int32 → HS → Prop} {v0 : Nat} {v1 : Int32} {S0 S : HS} (h : P_X8_hasPlace_0 Q v0 v1 S) (K : KH S0 S) : P_X8_hasPlace_0 (fun r T => Q r T ∧ KH S0 T) v0 v1 S := by
  delta P_X8_hasPlace_0 at h ⊢
  refine ⟨?_, ?_⟩
  · intro c1
    have h := h.1 c1
    exact ⟨h, K⟩
  · intro c2
    have h := h.2 c2
    obtain ⟨c3, h⟩ := h
    refine ⟨c3, ?_⟩
    intro x5 e4
    have h := h x5 e4
    refine ⟨?_, ?_⟩
    · intro c6
      have h := h.1 c6
      exact ⟨h, K⟩
    · intro c7
      have h := h.2 c7
      obtain ⟨b8, e9, h⟩ := h
      refine ⟨b8, e9, ?_⟩
      obtain ⟨c10, h⟩ := h
      refine ⟨c10, ?_⟩
      refine ⟨?_, ?_⟩
      · intro c11
        have h := h.1 c11
        exact ⟨h, K⟩
      · intro c12
        have h := h.2 c12
        exact ⟨h, K⟩
theorem kh_X8_hasPlace {Q : Int32 → HS → Prop} {v0 : Nat} {v1 : Int32} {S : HS} (h : P_X8_hasPlace v0 v1 Q S) : P_X8_hasPlace v0 v1 (fun r T => Q r T ∧ KH S T) S := kh_X8_hasPlace_0 h (kh_rf S)
set_option maxRecDepth 20000 in
set_option maxHeartbeats 1000000 in
theorem kh_X8_canWait_0 {Q : Int32 → HS → Prop} {v0 : Nat} {v1 : Int32} {S0 S : HS} (h : P_X8_canWait_0 Q v0 v1 S) (K : KH S0 S) : P_X8_canWait_0 (fun r T => Q r T ∧ KH S0 T) v0 v1 S := by
  delta P_X8_canWait_0 at h ⊢
  obtain ⟨c1, h⟩ := h
  refine ⟨c1, ?_⟩
  refine cm_X8_hasPlace (kh_X8_hasPlace h) h (fun x2 x3 hp h g4 g5 => ?_)
  have h := h g4 g5
  have K := kh_tr K hp.2
  refine ⟨?_, ?_⟩
  · intro c6
    have h := h.1 c6
    exact ⟨h, K⟩
  · intro c7
    have h := h.2 c7
    obtain ⟨b8, e9, h⟩ := h
    refine ⟨b8, e9, ?_⟩
    obtain ⟨c10, h⟩ := h
    refine ⟨c10, ?_⟩
    obtain ⟨c11, h⟩ := h
    refine ⟨c11, ?_⟩
    intro x13 e12
    have h := h x13 e12
    refine ⟨?_, ?_⟩
    · intro c14
      have h := h.1 c14
      exact ⟨h, K⟩
    · intro c15
      have h := h.2 c15
      exact ⟨h, K⟩
theorem kh_X8_canWait {Q : Int32 → HS → Prop} {v0 : Nat} {v1 : Int32} {S : HS} (h : P_X8_canWait v0 v1 Q S) : P_X8_canWait v0 v1 (fun r T => Q r T ∧ KH S T) S := kh_X8_canWait_0 h (kh_rf S)
set_option maxRecDepth 20000 in
set_option maxHeartbeats 1000000 in
theorem kh_X8_dripOn_0 {Q : Int32 → HS → Prop} {v0 : Nat} {v1 : Nat} {v2 : Int32} {S0 S : HS} (h : P_X8_dripOn_0 Q v0 v1 v2 S) (K : KH S0 S) : P_X8_dripOn_0 (fun r T => Q r T ∧ KH S0 T) v0 v1 v2 S := by
  delta P_X8_dripOn_0 at h ⊢
  obtain ⟨c1, h⟩ := h
  refine ⟨c1, ?_⟩
  refine cm_X8_canWait (kh_X8_canWait h) h (fun x2 x3 hp h g4 g5 => ?_)
  have h := h g4 g5
  have K := kh_tr K hp.2
  refine ⟨?_, ?_⟩
  · intro c6
    have h := h.1 c6
    exact ⟨h, K⟩
  · intro c7
    have h := h.2 c7
    obtain ⟨b8, e9, h⟩ := h
    refine ⟨b8, e9, ?_⟩
    obtain ⟨c10, h⟩ := h
    refine ⟨c10, ?_⟩
    obtain ⟨c11, h⟩ := h
    refine ⟨c11, ?_⟩
    intro x13 e12
    have h := h x13 e12
    obtain ⟨c14, h⟩ := h
    refine ⟨c14, ?_⟩
    intro x16 e15
    have h := h x16 e15
    refine cm_X6_shield (kh_X6_shield h) h (fun x17 x18 hp h g19 => ?_)
    have h := h g19
    have K := kh_tr K hp.2
    intro x21 e20
    have h := h x21 e20
    exact ⟨h, K⟩
theorem kh_X8_dripOn {Q : Int32 → HS → Prop} {v0 : Nat} {v1 : Nat} {v2 : Int32} {S : HS} (h : P_X8_dripOn v0 v1 v2 Q S) : P_X8_dripOn v0 v1 v2 (fun r T => Q r T ∧ KH S T) S := kh_X8_dripOn_0 h (kh_rf S)
set_option maxRecDepth 20000 in
set_option maxHeartbeats 1000000 in
theorem kh_X8_hasHour_0 {Q : Int32 → HS → Prop} {v0 : Nat} {v1 : Int32} {S0 S : HS} (h : P_X8_hasHour_0 Q v0 v1 S) (K : KH S0 S) : P_X8_hasHour_0 (fun r T => Q r T ∧ KH S0 T) v0 v1 S := by
  delta P_X8_hasHour_0 at h ⊢
  refine ⟨?_, ?_⟩
  · intro c1
    have h := h.1 c1
    exact ⟨h, K⟩
  · intro c2
    have h := h.2 c2
    obtain ⟨c3, h⟩ := h
    refine ⟨c3, ?_⟩
    intro x5 e4
    have h := h x5 e4
    refine ⟨?_, ?_⟩
    · intro c6
      have h := h.1 c6
      exact ⟨h, K⟩
    · intro c7
      have h := h.2 c7
      obtain ⟨b8, e9, h⟩ := h
      refine ⟨b8, e9, ?_⟩
      obtain ⟨c10, h⟩ := h
      refine ⟨c10, ?_⟩
      refine ⟨?_, ?_⟩
      · intro c11
        have h := h.1 c11
        exact ⟨h, K⟩
      · intro c12
        have h := h.2 c12
        exact ⟨h, K⟩
theorem kh_X8_hasHour {Q : Int32 → HS → Prop} {v0 : Nat} {v1 : Int32} {S : HS} (h : P_X8_hasHour v0 v1 Q S) : P_X8_hasHour v0 v1 (fun r T => Q r T ∧ KH S T) S := kh_X8_hasHour_0 h (kh_rf S)
set_option maxRecDepth 20000 in
set_option maxHeartbeats 1000000 in
theorem kh_X7_price_134 {Q : HS → Prop} {X51 X51_2 : Nat → Nat → Nat → Int32 → Nat → Int32 → Int32 → HS → Prop} {X86 X86_2 : Nat → Nat → Nat → Int32 → Nat → Int32 → Int32 → Nat → Int32 → Int32 → HS → Prop} {v0 : Nat} {v1 : Nat} {v2 : Nat} {v3 : Int32} {v4 : Nat} {v5 : Int32} {v6 : Int32} {v7 : Nat} {v8 : Int32} {v9 : Int32} {s0 : Int64} {S0 S : HS} (h : P_X7_price_134 Q X51 X86 v0 v1 v2 v3 v4 v5 v6 v7 v8 v9 s0 S) (K : KH S0 S) (hX51 : ∀ (u0 : Nat) (u1 : Nat) (u2 : Nat) (u3 : Int32) (u4 : Nat) (u5 : Int32) (u6 : Int32) (u7 : HS), X51 u0 u1 u2 u3 u4 u5 u6 u7 → KH S0 u7 → X51_2 u0 u1 u2 u3 u4 u5 u6 u7) (hX86 : ∀ (u0 : Nat) (u1 : Nat) (u2 : Nat) (u3 : Int32) (u4 : Nat) (u5 : Int32) (u6 : Int32) (u7 : Nat) (u8 : Int32) (u9 : Int32) (u10 : HS), X86 u0 u1 u2 u3 u4 u5 u6 u7 u8 u9 u10 → KH S0 u10 → X86_2 u0 u1 u2 u3 u4 u5 u6 u7 u8 u9 u10) : P_X7_price_134 (fun T => Q T ∧ KH S0 T) X51_2 X86_2 v0 v1 v2 v3 v4 v5 v6 v7 v8 v9 s0 S := by
  delta P_X7_price_134 at h ⊢
  intro x2 e1
  have h := h x2 e1
  obtain ⟨c3, h⟩ := h
  refine ⟨c3, ?_⟩
  refine cm_X7_addLeg (kh_X7_addLeg h) h (fun x4 hp h g5 => ?_)
  have h := h g5
  have K := kh_tr K hp.2
  intro x7 e6
  have h := h x7 e6
  exact hX86 _ _ _ _ _ _ _ _ _ _ _ h K
set_option maxRecDepth 20000 in
set_option maxHeartbeats 1000000 in
theorem khB_X7_price_86 {Q : HS → Prop} {X51 X51_2 : Nat → Nat → Nat → Int32 → Nat → Int32 → Int32 → HS → Prop} {X86 X86_2 : Nat → Nat → Nat → Int32 → Nat → Int32 → Int32 → Nat → Int32 → Int32 → HS → Prop} {v0 : Nat} {v1 : Nat} {v2 : Nat} {v3 : Int32} {v4 : Nat} {v5 : Int32} {v6 : Int32} {v7 : Nat} {v8 : Int32} {v9 : Int32} {S0 S : HS} (h : B_X7_price_86 Q X51 X86 v0 v1 v2 v3 v4 v5 v6 v7 v8 v9 S) (K : KH S0 S) (hX51 : ∀ (u0 : Nat) (u1 : Nat) (u2 : Nat) (u3 : Int32) (u4 : Nat) (u5 : Int32) (u6 : Int32) (u7 : HS), X51 u0 u1 u2 u3 u4 u5 u6 u7 → KH S0 u7 → X51_2 u0 u1 u2 u3 u4 u5 u6 u7) (hX86 : ∀ (u0 : Nat) (u1 : Nat) (u2 : Nat) (u3 : Int32) (u4 : Nat) (u5 : Int32) (u6 : Int32) (u7 : Nat) (u8 : Int32) (u9 : Int32) (u10 : HS), X86 u0 u1 u2 u3 u4 u5 u6 u7 u8 u9 u10 → KH S0 u10 → X86_2 u0 u1 u2 u3 u4 u5 u6 u7 u8 u9 u10) : B_X7_price_86 (fun T => Q T ∧ KH S0 T) X51_2 X86_2 v0 v1 v2 v3 v4 v5 v6 v7 v8 v9 S := by
  delta B_X7_price_86 at h ⊢
  obtain ⟨c1, h⟩ := h
  refine ⟨c1, ?_⟩
  intro x3 e2
  have h := h x3 e2
  refine ⟨?_, ?_⟩
  · intro c4
    have h := h.1 c4
    intro x6 e5
    have h := h x6 e5
    exact hX51 _ _ _ _ _ _ _ _ h K
  · intro c7
    have h := h.2 c7
    refine ⟨?_, ?_⟩
    · intro c8
      have h := h.1 c8
      obtain ⟨c9, h⟩ := h
      refine ⟨c9, ?_⟩
      obtain ⟨b10, e11, h⟩ := h
      refine ⟨b10, e11, ?_⟩
      obtain ⟨c12, h⟩ := h
      refine ⟨c12, ?_⟩
      obtain ⟨c13, h⟩ := h
      refine ⟨c13, ?_⟩
      obtain ⟨b14, e15, h⟩ := h
      refine ⟨b14, e15, ?_⟩
      obtain ⟨c16, h⟩ := h
      refine ⟨c16, ?_⟩
      refine cm_X1_wetOf (kh_X1_wetOf h) h (fun x17 x18 hp h g19 => ?_)
      have h := h g19
      have K := kh_tr K hp.2
      obtain ⟨b20, e21, h⟩ := h
      refine ⟨b20, e21, ?_⟩
      obtain ⟨c22, h⟩ := h
      refine ⟨c22, ?_⟩
      obtain ⟨c23, h⟩ := h
      refine ⟨c23, ?_⟩
      obtain ⟨b24, e25, h⟩ := h
      refine ⟨b24, e25, ?_⟩
      obtain ⟨c26, h⟩ := h
      refine ⟨c26, ?_⟩
      intro x28 e27
      have h := h x28 e27
      exact kh_X7_price_134 h K hX51 hX86
    · intro c29
      have h := h.2 c29
      exact kh_X7_price_134 h K hX51 hX86
theorem kh_X7_price_86 {Q : HS → Prop} {X51 X51_2 : Nat → Nat → Nat → Int32 → Nat → Int32 → Int32 → HS → Prop} {v0 : Nat} {v1 : Nat} {v2 : Nat} {v3 : Int32} {v4 : Nat} {v5 : Int32} {v6 : Int32} {v7 : Nat} {v8 : Int32} {v9 : Int32} {S0 S : HS} (h : P_X7_price_86 Q X51 v0 v1 v2 v3 v4 v5 v6 v7 v8 v9 S) (K : KH S0 S) (hX51 : ∀ (u0 : Nat) (u1 : Nat) (u2 : Nat) (u3 : Int32) (u4 : Nat) (u5 : Int32) (u6 : Int32) (u7 : HS), X51 u0 u1 u2 u3 u4 u5 u6 u7 → KH S0 u7 → X51_2 u0 u1 u2 u3 u4 u5 u6 u7) : P_X7_price_86 (fun T => Q T ∧ KH S0 T) X51_2 v0 v1 v2 v3 v4 v5 v6 v7 v8 v9 S := h (fun v0 v1 v2 v3 v4 v5 v6 v7 v8 v9 S => KH S0 S → P_X7_price_86 (fun T => Q T ∧ KH S0 T) X51_2 v0 v1 v2 v3 v4 v5 v6 v7 v8 v9 S) (fun v0 v1 v2 v3 v4 v5 v6 v7 v8 v9 S hB K => fd_X7_price_86 (khB_X7_price_86 hB K hX51 (fun _ _ _ _ _ _ _ _ _ _ _ hx K => hx K))) K
set_option maxRecDepth 20000 in
set_option maxHeartbeats 1000000 in
theorem kh_X7_price_245 {Q : HS → Prop} {X179 X179_2 : Nat → Nat → Int32 → Nat → Int32 → Int32 → HS → Prop} {v0 : Nat} {v1 : Nat} {v3 : Int32} {v4 : Nat} {v5 : Int32} {v6 : Int32} {S0 S : HS} (h : P_X7_price_245 Q X179 v0 v1 v3 v4 v5 v6 S) (K : KH S0 S) (hX179 : ∀ (u0 : Nat) (u1 : Nat) (u2 : Int32) (u3 : Nat) (u4 : Int32) (u5 : Int32) (u6 : HS), X179 u0 u1 u2 u3 u4 u5 u6 → KH S0 u6 → X179_2 u0 u1 u2 u3 u4 u5 u6) : P_X7_price_245 (fun T => Q T ∧ KH S0 T) X179_2 v0 v1 v3 v4 v5 v6 S := by
  delta P_X7_price_245 at h ⊢
  intro x2 e1
  have h := h x2 e1
  exact hX179 _ _ _ _ _ _ _ h K
set_option maxRecDepth 20000 in
set_option maxHeartbeats 1000000 in
theorem kh_X7_price_230 {Q : HS → Prop} {X179 X179_2 : Nat → Nat → Int32 → Nat → Int32 → Int32 → HS → Prop} {v0 : Nat} {v1 : Nat} {v3 : Int32} {v4 : Nat} {v5 : Int32} {v6 : Int32} {s0 : Int64} {S0 S : HS} (h : P_X7_price_230 Q X179 v0 v1 v3 v4 v5 v6 s0 S) (K : KH S0 S) (hX179 : ∀ (u0 : Nat) (u1 : Nat) (u2 : Int32) (u3 : Nat) (u4 : Int32) (u5 : Int32) (u6 : HS), X179 u0 u1 u2 u3 u4 u5 u6 → KH S0 u6 → X179_2 u0 u1 u2 u3 u4 u5 u6) : P_X7_price_230 (fun T => Q T ∧ KH S0 T) X179_2 v0 v1 v3 v4 v5 v6 s0 S := by
  delta P_X7_price_230 at h ⊢
  obtain ⟨c1, h⟩ := h
  refine ⟨c1, ?_⟩
  refine cm_X7_addMove (kh_X7_addMove h) h (fun x2 hp h g3 => ?_)
  have h := h g3
  have K := kh_tr K hp.2
  exact kh_X7_price_245 h K hX179
set_option maxRecDepth 20000 in
set_option maxHeartbeats 1000000 in
theorem khB_X7_price_179 {Q : HS → Prop} {X179 X179_2 : Nat → Nat → Int32 → Nat → Int32 → Int32 → HS → Prop} {v0 : Nat} {v1 : Nat} {v3 : Int32} {v4 : Nat} {v5 : Int32} {v6 : Int32} {S0 S : HS} (h : B_X7_price_179 Q X179 v0 v1 v3 v4 v5 v6 S) (K : KH S0 S) (hX179 : ∀ (u0 : Nat) (u1 : Nat) (u2 : Int32) (u3 : Nat) (u4 : Int32) (u5 : Int32) (u6 : HS), X179 u0 u1 u2 u3 u4 u5 u6 → KH S0 u6 → X179_2 u0 u1 u2 u3 u4 u5 u6) : B_X7_price_179 (fun T => Q T ∧ KH S0 T) X179_2 v0 v1 v3 v4 v5 v6 S := by
  delta B_X7_price_179 at h ⊢
  obtain ⟨c1, h⟩ := h
  refine ⟨c1, ?_⟩
  intro x3 e2
  have h := h x3 e2
  refine ⟨?_, ?_⟩
  · intro c4
    have h := h.1 c4
    exact ⟨h, K⟩
  · intro c5
    have h := h.2 c5
    refine cm_X8_canWait (kh_X8_canWait h) h (fun x6 x7 hp h g8 g9 => ?_)
    have h := h g8 g9
    have K := kh_tr K hp.2
    refine ⟨?_, ?_⟩
    · intro c10
      have h := h.1 c10
      exact kh_X7_price_245 h K hX179
    · intro c11
      have h := h.2 c11
      refine ⟨?_, ?_⟩
      · intro c12
        have h := h.1 c12
        refine cm_X8_dripOn (kh_X8_dripOn h) h (fun x13 x14 hp h g15 => ?_)
        have h := h g15
        have K := kh_tr K hp.2
        obtain ⟨b16, e17, h⟩ := h
        refine ⟨b16, e17, ?_⟩
        obtain ⟨c18, h⟩ := h
        refine ⟨c18, ?_⟩
        obtain ⟨c19, h⟩ := h
        refine ⟨c19, ?_⟩
        obtain ⟨b20, e21, h⟩ := h
        refine ⟨b20, e21, ?_⟩
        obtain ⟨c22, h⟩ := h
        refine ⟨c22, ?_⟩
        intro x24 e23
        have h := h x24 e23
        exact kh_X7_price_230 h K hX179
      · intro c25
        have h := h.2 c25
        exact kh_X7_price_230 h K hX179
theorem kh_X7_price_179 {Q : HS → Prop} {v0 : Nat} {v1 : Nat} {v3 : Int32} {v4 : Nat} {v5 : Int32} {v6 : Int32} {S0 S : HS} (h : P_X7_price_179 Q v0 v1 v3 v4 v5 v6 S) (K : KH S0 S) : P_X7_price_179 (fun T => Q T ∧ KH S0 T) v0 v1 v3 v4 v5 v6 S := h (fun v0 v1 v3 v4 v5 v6 S => KH S0 S → P_X7_price_179 (fun T => Q T ∧ KH S0 T) v0 v1 v3 v4 v5 v6 S) (fun v0 v1 v3 v4 v5 v6 S hB K => fd_X7_price_179 (khB_X7_price_179 hB K (fun _ _ _ _ _ _ _ hx K => hx K))) K
set_option maxRecDepth 20000 in
set_option maxHeartbeats 1000000 in
theorem khB_X7_price_51 {Q : HS → Prop} {X51 X51_2 : Nat → Nat → Nat → Int32 → Nat → Int32 → Int32 → HS → Prop} {v0 : Nat} {v1 : Nat} {v2 : Nat} {v3 : Int32} {v4 : Nat} {v5 : Int32} {v6 : Int32} {S0 S : HS} (h : B_X7_price_51 Q X51 v0 v1 v2 v3 v4 v5 v6 S) (K : KH S0 S) (hX51 : ∀ (u0 : Nat) (u1 : Nat) (u2 : Nat) (u3 : Int32) (u4 : Nat) (u5 : Int32) (u6 : Int32) (u7 : HS), X51 u0 u1 u2 u3 u4 u5 u6 u7 → KH S0 u7 → X51_2 u0 u1 u2 u3 u4 u5 u6 u7) : B_X7_price_51 (fun T => Q T ∧ KH S0 T) X51_2 v0 v1 v2 v3 v4 v5 v6 S := by
  delta B_X7_price_51 at h ⊢
  obtain ⟨c1, h⟩ := h
  refine ⟨c1, ?_⟩
  intro x3 e2
  have h := h x3 e2
  refine ⟨?_, ?_⟩
  · intro c4
    have h := h.1 c4
    exact kh_X7_price_179 h K
  · intro c5
    have h := h.2 c5
    obtain ⟨b6, e7, h⟩ := h
    refine ⟨b6, e7, ?_⟩
    intro x9 e8
    have h := h x9 e8
    obtain ⟨c10, h⟩ := h
    refine ⟨c10, ?_⟩
    obtain ⟨c11, h⟩ := h
    refine ⟨c11, ?_⟩
    obtain ⟨b12, e13, h⟩ := h
    refine ⟨b12, e13, ?_⟩
    intro x15 e14
    have h := h x15 e14
    obtain ⟨c16, h⟩ := h
    refine ⟨c16, ?_⟩
    intro x18 e17
    have h := h x18 e17
    exact kh_X7_price_86 h K hX51
theorem kh_X7_price_51 {Q : HS → Prop} {v0 : Nat} {v1 : Nat} {v2 : Nat} {v3 : Int32} {v4 : Nat} {v5 : Int32} {v6 : Int32} {S0 S : HS} (h : P_X7_price_51 Q v0 v1 v2 v3 v4 v5 v6 S) (K : KH S0 S) : P_X7_price_51 (fun T => Q T ∧ KH S0 T) v0 v1 v2 v3 v4 v5 v6 S := h (fun v0 v1 v2 v3 v4 v5 v6 S => KH S0 S → P_X7_price_51 (fun T => Q T ∧ KH S0 T) v0 v1 v2 v3 v4 v5 v6 S) (fun v0 v1 v2 v3 v4 v5 v6 S hB K => fd_X7_price_51 (khB_X7_price_51 hB K (fun _ _ _ _ _ _ _ _ hx K => hx K))) K
set_option maxRecDepth 20000 in
set_option maxHeartbeats 1000000 in
theorem kh_X7_price_46 {Q : HS → Prop} {v0 : Nat} {v1 : Nat} {v2 : Nat} {v3 : Int32} {v4 : Nat} {s0 : Int32} {S0 S : HS} (h : P_X7_price_46 Q v0 v1 v2 v3 v4 s0 S) (K : KH S0 S) : P_X7_price_46 (fun T => Q T ∧ KH S0 T) v0 v1 v2 v3 v4 s0 S := by
  delta P_X7_price_46 at h ⊢
  exact kh_X7_price_51 h K
set_option maxRecDepth 20000 in
set_option maxHeartbeats 1000000 in
theorem kh_X7_price_0 {Q : HS → Prop} {v0 : Nat} {v1 : Nat} {v2 : Nat} {v3 : Int32} {S0 S : HS} (h : P_X7_price_0 Q v0 v1 v2 v3 S) (K : KH S0 S) : P_X7_price_0 (fun T => Q T ∧ KH S0 T) v0 v1 v2 v3 S := by
  delta P_X7_price_0 at h ⊢
  obtain ⟨c1, h⟩ := h
  refine ⟨c1, ?_⟩
  intro x3 e2
  have h := h x3 e2
  have K := kh_I K e2
  intro x5 e4
  have h := h x5 e4
  have K := kh_I K e4
  intro x7 e6
  have h := h x7 e6
  obtain ⟨c8, h⟩ := h
  refine ⟨c8, ?_⟩
  refine cm_X8_hasWalker (kh_X8_hasWalker h) h (fun x9 x10 hp h g11 g12 => ?_)
  have h := h g11 g12
  have K := kh_tr K hp.2
  refine ⟨?_, ?_⟩
  · intro c13
    have h := h.1 c13
    obtain ⟨b14, e15, h⟩ := h
    refine ⟨b14, e15, ?_⟩
    intro x17 e16
    have h := h x17 e16
    obtain ⟨c18, h⟩ := h
    refine ⟨c18, ?_⟩
    obtain ⟨c19, h⟩ := h
    refine ⟨c19, ?_⟩
    obtain ⟨b20, e21, h⟩ := h
    refine ⟨b20, e21, ?_⟩
    refine cm_X8_hasHour (kh_X8_hasHour h) h (fun x22 x23 hp h g24 g25 => ?_)
    have h := h g24 g25
    have K := kh_tr K hp.2
    refine ⟨?_, ?_⟩
    · intro c26
      have h := h.1 c26
      exact kh_X7_price_46 h K
    · intro c27
      have h := h.2 c27
      exact kh_X7_price_46 h K
  · intro c28
    have h := h.2 c28
    exact ⟨h, K⟩
theorem kh_X7_price {Q : HS → Prop} {v0 : Nat} {v1 : Nat} {v2 : Nat} {v3 : Int32} {S : HS} (h : P_X7_price v0 v1 v2 v3 Q S) : P_X7_price v0 v1 v2 v3 (fun T => Q T ∧ KH S T) S := kh_X7_price_0 h (kh_rf S)
set_option maxRecDepth 20000 in
set_option maxHeartbeats 1000000 in
theorem kh_X7_reckonMinute_40 {Q : HS → Prop} {X2 X2_2 : Nat → Int32 → Int32 → Int32 → HS → Prop} {v0 : Nat} {v1 : Int32} {v2 : Int32} {v3 : Int32} {s0 : Nat} {s1 : Int32} {s2 : Int64} {S0 S : HS} (h : P_X7_reckonMinute_40 Q X2 v0 v1 v2 v3 s0 s1 s2 S) (K : KH S0 S) (hX2 : ∀ (u0 : Nat) (u1 : Int32) (u2 : Int32) (u3 : Int32) (u4 : HS), X2 u0 u1 u2 u3 u4 → KH S0 u4 → X2_2 u0 u1 u2 u3 u4) : P_X7_reckonMinute_40 (fun T => Q T ∧ KH S0 T) X2_2 v0 v1 v2 v3 s0 s1 s2 S := by
  delta P_X7_reckonMinute_40 at h ⊢
  obtain ⟨c1, h⟩ := h
  refine ⟨c1, ?_⟩
  obtain ⟨c2, h⟩ := h
  refine ⟨c2, ?_⟩
  intro x4 e3
  have h := h x4 e3
  have K := kh_J K e3
  obtain ⟨c5, h⟩ := h
  refine ⟨c5, ?_⟩
  obtain ⟨b6, e7, h⟩ := h
  refine ⟨b6, e7, ?_⟩
  obtain ⟨c8, h⟩ := h
  refine ⟨c8, ?_⟩
  obtain ⟨c9, h⟩ := h
  refine ⟨c9, ?_⟩
  intro x11 e10
  have h := h x11 e10
  have K := kh_I K e10
  intro x13 e12
  have h := h x13 e12
  exact hX2 _ _ _ _ _ h K
set_option maxRecDepth 20000 in
set_option maxHeartbeats 1000000 in
theorem kh_X7_reckonMinute_219 {Q : HS → Prop} {X62 X62_2 : Nat → Int32 → Int32 → HS → Prop} {v0 : Nat} {v2 : Int32} {v3 : Int32} {S0 S : HS} (h : P_X7_reckonMinute_219 Q X62 v0 v2 v3 S) (K : KH S0 S) (hX62 : ∀ (u0 : Nat) (u1 : Int32) (u2 : Int32) (u3 : HS), X62 u0 u1 u2 u3 → KH S0 u3 → X62_2 u0 u1 u2 u3) : P_X7_reckonMinute_219 (fun T => Q T ∧ KH S0 T) X62_2 v0 v2 v3 S := by
  delta P_X7_reckonMinute_219 at h ⊢
  intro x2 e1
  have h := h x2 e1
  exact hX62 _ _ _ _ h K
set_option maxRecDepth 20000 in
set_option maxHeartbeats 1000000 in
theorem kh_X7_reckonMinute_117 {Q : HS → Prop} {X62 X62_2 : Nat → Int32 → Int32 → HS → Prop} {v0 : Nat} {v2 : Int32} {v3 : Int32} {v4 : Int32} {v5 : Int32} {s0 : Int32} {S0 S : HS} (h : P_X7_reckonMinute_117 Q X62 v0 v2 v3 v4 v5 s0 S) (K : KH S0 S) (hX62 : ∀ (u0 : Nat) (u1 : Int32) (u2 : Int32) (u3 : HS), X62 u0 u1 u2 u3 → KH S0 u3 → X62_2 u0 u1 u2 u3) : P_X7_reckonMinute_117 (fun T => Q T ∧ KH S0 T) X62_2 v0 v2 v3 v4 v5 s0 S := by
  delta P_X7_reckonMinute_117 at h ⊢
  refine ⟨?_, ?_⟩
  · intro c1
    have h := h.1 c1
    exact kh_X7_reckonMinute_219 h K hX62
  · intro c2
    have h := h.2 c2
    refine ⟨?_, ?_⟩
    · intro c3
      have h := h.1 c3
      exact kh_X7_reckonMinute_219 h K hX62
    · intro c4
      have h := h.2 c4
      obtain ⟨c5, h⟩ := h
      refine ⟨c5, ?_⟩
      obtain ⟨b6, e7, h⟩ := h
      refine ⟨b6, e7, ?_⟩
      obtain ⟨c8, h⟩ := h
      refine ⟨c8, ?_⟩
      refine ⟨?_, ?_⟩
      · intro c9
        have h := h.1 c9
        exact kh_X7_reckonMinute_219 h K hX62
      · intro c10
        have h := h.2 c10
        refine ⟨?_, ?_⟩
        · intro c11
          have h := h.1 c11
          exact kh_X7_reckonMinute_219 h K hX62
        · intro c12
          have h := h.2 c12
          obtain ⟨b13, e14, h⟩ := h
          refine ⟨b13, e14, ?_⟩
          obtain ⟨c15, h⟩ := h
          refine ⟨c15, ?_⟩
          refine ⟨?_, ?_⟩
          · intro c16
            have h := h.1 c16
            exact kh_X7_reckonMinute_219 h K hX62
          · intro c17
            have h := h.2 c17
            obtain ⟨b18, e19, h⟩ := h
            refine ⟨b18, e19, ?_⟩
            obtain ⟨c20, h⟩ := h
            refine ⟨c20, ?_⟩
            obtain ⟨c21, h⟩ := h
            refine ⟨c21, ?_⟩
            intro x23 e22
            have h := h x23 e22
            refine ⟨?_, ?_⟩
            · intro c24
              have h := h.1 c24
              exact kh_X7_reckonMinute_219 h K hX62
            · intro c25
              have h := h.2 c25
              obtain ⟨b26, e27, h⟩ := h
              refine ⟨b26, e27, ?_⟩
              obtain ⟨c28, h⟩ := h
              refine ⟨c28, ?_⟩
              obtain ⟨c29, h⟩ := h
              refine ⟨c29, ?_⟩
              intro x31 e30
              have h := h x31 e30
              obtain ⟨b32, e33, h⟩ := h
              refine ⟨b32, e33, ?_⟩
              obtain ⟨c34, h⟩ := h
              refine ⟨c34, ?_⟩
              obtain ⟨c35, h⟩ := h
              refine ⟨c35, ?_⟩
              intro x37 e36
              have h := h x37 e36
              intro x39 e38
              have h := h x39 e38
              obtain ⟨b40, e41, h⟩ := h
              refine ⟨b40, e41, ?_⟩
              obtain ⟨c42, h⟩ := h
              refine ⟨c42, ?_⟩
              obtain ⟨c43, h⟩ := h
              refine ⟨c43, ?_⟩
              intro x45 e44
              have h := h x45 e44
              refine ⟨?_, ?_⟩
              · intro c46
                have h := h.1 c46
                exact kh_X7_reckonMinute_219 h K hX62
              · intro c47
                have h := h.2 c47
                obtain ⟨b48, e49, h⟩ := h
                refine ⟨b48, e49, ?_⟩
                obtain ⟨c50, h⟩ := h
                refine ⟨c50, ?_⟩
                obtain ⟨c51, h⟩ := h
                refine ⟨c51, ?_⟩
                intro x53 e52
                have h := h x53 e52
                have K := kh_J K e52
                obtain ⟨b54, e55, h⟩ := h
                refine ⟨b54, e55, ?_⟩
                obtain ⟨b56, e57, h⟩ := h
                refine ⟨b56, e57, ?_⟩
                obtain ⟨c58, h⟩ := h
                refine ⟨c58, ?_⟩
                obtain ⟨c59, h⟩ := h
                refine ⟨c59, ?_⟩
                intro x61 e60
                have h := h x61 e60
                obtain ⟨c62, h⟩ := h
                refine ⟨c62, ?_⟩
                obtain ⟨c63, h⟩ := h
                refine ⟨c63, ?_⟩
                intro x65 e64
                have h := h x65 e64
                have K := kh_I K e64
                exact kh_X7_reckonMinute_219 h K hX62
set_option maxRecDepth 20000 in
set_option maxHeartbeats 1000000 in
theorem khB_X7_reckonMinute_62 {Q : HS → Prop} {X62 X62_2 : Nat → Int32 → Int32 → HS → Prop} {v0 : Nat} {v2 : Int32} {v3 : Int32} {S0 S : HS} (h : B_X7_reckonMinute_62 Q X62 v0 v2 v3 S) (K : KH S0 S) (hX62 : ∀ (u0 : Nat) (u1 : Int32) (u2 : Int32) (u3 : HS), X62 u0 u1 u2 u3 → KH S0 u3 → X62_2 u0 u1 u2 u3) : B_X7_reckonMinute_62 (fun T => Q T ∧ KH S0 T) X62_2 v0 v2 v3 S := by
  delta B_X7_reckonMinute_62 at h ⊢
  obtain ⟨c1, h⟩ := h
  refine ⟨c1, ?_⟩
  intro x3 e2
  have h := h x3 e2
  refine ⟨?_, ?_⟩
  · intro c4
    have h := h.1 c4
    exact ⟨h, K⟩
  · intro c5
    have h := h.2 c5
    refine ⟨?_, ?_⟩
    · intro c6
      have h := h.1 c6
      exact ⟨h, K⟩
    · intro c7
      have h := h.2 c7
      obtain ⟨b8, e9, h⟩ := h
      refine ⟨b8, e9, ?_⟩
      obtain ⟨c10, h⟩ := h
      refine ⟨c10, ?_⟩
      obtain ⟨c11, h⟩ := h
      refine ⟨c11, ?_⟩
      intro x13 e12
      have h := h x13 e12
      intro x15 e14
      have h := h x15 e14
      obtain ⟨b16, e17, h⟩ := h
      refine ⟨b16, e17, ?_⟩
      obtain ⟨c18, h⟩ := h
      refine ⟨c18, ?_⟩
      obtain ⟨c19, h⟩ := h
      refine ⟨c19, ?_⟩
      intro x21 e20
      have h := h x21 e20
      intro x23 e22
      have h := h x23 e22
      obtain ⟨b24, e25, h⟩ := h
      refine ⟨b24, e25, ?_⟩
      obtain ⟨c26, h⟩ := h
      refine ⟨c26, ?_⟩
      obtain ⟨c27, h⟩ := h
      refine ⟨c27, ?_⟩
      intro x29 e28
      have h := h x29 e28
      intro x31 e30
      have h := h x31 e30
      refine ⟨?_, ?_⟩
      · intro c32
        have h := h.1 c32
        exact kh_X7_reckonMinute_117 h K hX62
      · intro c33
        have h := h.2 c33
        exact kh_X7_reckonMinute_117 h K hX62
theorem kh_X7_reckonMinute_62 {Q : HS → Prop} {v0 : Nat} {v2 : Int32} {v3 : Int32} {S0 S : HS} (h : P_X7_reckonMinute_62 Q v0 v2 v3 S) (K : KH S0 S) : P_X7_reckonMinute_62 (fun T => Q T ∧ KH S0 T) v0 v2 v3 S := h (fun v0 v2 v3 S => KH S0 S → P_X7_reckonMinute_62 (fun T => Q T ∧ KH S0 T) v0 v2 v3 S) (fun v0 v2 v3 S hB K => fd_X7_reckonMinute_62 (khB_X7_reckonMinute_62 hB K (fun _ _ _ _ hx K => hx K))) K
set_option maxRecDepth 20000 in
set_option maxHeartbeats 1000000 in
theorem kh_X7_reckonMinute_60 {Q : HS → Prop} {v0 : Nat} {v2 : Int32} {S0 S : HS} (h : P_X7_reckonMinute_60 Q v0 v2 S) (K : KH S0 S) : P_X7_reckonMinute_60 (fun T => Q T ∧ KH S0 T) v0 v2 S := by
  delta P_X7_reckonMinute_60 at h ⊢
  exact kh_X7_reckonMinute_62 h K
set_option maxRecDepth 20000 in
set_option maxHeartbeats 1000000 in
theorem khB_X7_reckonMinute_2 {Q : HS → Prop} {X2 X2_2 : Nat → Int32 → Int32 → Int32 → HS → Prop} {v0 : Nat} {v1 : Int32} {v2 : Int32} {v3 : Int32} {S0 S : HS} (h : B_X7_reckonMinute_2 Q X2 v0 v1 v2 v3 S) (K : KH S0 S) (hX2 : ∀ (u0 : Nat) (u1 : Int32) (u2 : Int32) (u3 : Int32) (u4 : HS), X2 u0 u1 u2 u3 u4 → KH S0 u4 → X2_2 u0 u1 u2 u3 u4) : B_X7_reckonMinute_2 (fun T => Q T ∧ KH S0 T) X2_2 v0 v1 v2 v3 S := by
  delta B_X7_reckonMinute_2 at h ⊢
  refine ⟨?_, ?_⟩
  · intro c1
    have h := h.1 c1
    exact kh_X7_reckonMinute_60 h K
  · intro c2
    have h := h.2 c2
    refine ⟨?_, ?_⟩
    · intro c3
      have h := h.1 c3
      exact kh_X7_reckonMinute_60 h K
    · intro c4
      have h := h.2 c4
      obtain ⟨c5, h⟩ := h
      refine ⟨c5, ?_⟩
      obtain ⟨b6, e7, h⟩ := h
      refine ⟨b6, e7, ?_⟩
      intro x9 e8
      have h := h x9 e8
      refine ⟨?_, ?_⟩
      · intro c10
        have h := h.1 c10
        exact kh_X7_reckonMinute_40 h K hX2
      · intro c11
        have h := h.2 c11
        exact kh_X7_reckonMinute_40 h K hX2
theorem kh_X7_reckonMinute_2 {Q : HS → Prop} {v0 : Nat} {v1 : Int32} {v2 : Int32} {v3 : Int32} {S0 S : HS} (h : P_X7_reckonMinute_2 Q v0 v1 v2 v3 S) (K : KH S0 S) : P_X7_reckonMinute_2 (fun T => Q T ∧ KH S0 T) v0 v1 v2 v3 S := h (fun v0 v1 v2 v3 S => KH S0 S → P_X7_reckonMinute_2 (fun T => Q T ∧ KH S0 T) v0 v1 v2 v3 S) (fun v0 v1 v2 v3 S hB K => fd_X7_reckonMinute_2 (khB_X7_reckonMinute_2 hB K (fun _ _ _ _ _ hx K => hx K))) K
set_option maxRecDepth 20000 in
set_option maxHeartbeats 1000000 in
theorem kh_X7_reckonMinute_0 {Q : HS → Prop} {v0 : Nat} {v1 : Int32} {v2 : Int32} {S0 S : HS} (h : P_X7_reckonMinute_0 Q v0 v1 v2 S) (K : KH S0 S) : P_X7_reckonMinute_0 (fun T => Q T ∧ KH S0 T) v0 v1 v2 S := by
  delta P_X7_reckonMinute_0 at h ⊢
  exact kh_X7_reckonMinute_2 h K
theorem kh_X7_reckonMinute {Q : HS → Prop} {v0 : Nat} {v1 : Int32} {v2 : Int32} {S : HS} (h : P_X7_reckonMinute v0 v1 v2 Q S) : P_X7_reckonMinute v0 v1 v2 (fun T => Q T ∧ KH S T) S := kh_X7_reckonMinute_0 h (kh_rf S)
set_option maxRecDepth 20000 in
set_option maxHeartbeats 1000000 in
theorem kh_X8_hourOf_0 {Q : Int32 → HS → Prop} {v0 : Nat} {v1 : Int32} {S0 S : HS} (h : P_X8_hourOf_0 Q v0 v1 S) (K : KH S0 S) : P_X8_hourOf_0 (fun r T => Q r T ∧ KH S0 T) v0 v1 S := by
  delta P_X8_hourOf_0 at h ⊢
  obtain ⟨c1, h⟩ := h
  refine ⟨c1, ?_⟩
  intro x3 e2
  have h := h x3 e2
  refine ⟨?_, ?_⟩
  · intro c4
    have h := h.1 c4
    exact ⟨h, K⟩
  · intro c5
    have h := h.2 c5
    intro x7 e6
    have h := h x7 e6
    obtain ⟨c8, h⟩ := h
    refine ⟨c8, ?_⟩
    intro x10 e9
    have h := h x10 e9
    exact ⟨h, K⟩
theorem kh_X8_hourOf {Q : Int32 → HS → Prop} {v0 : Nat} {v1 : Int32} {S : HS} (h : P_X8_hourOf v0 v1 Q S) : P_X8_hourOf v0 v1 (fun r T => Q r T ∧ KH S T) S := kh_X8_hourOf_0 h (kh_rf S)
set_option maxRecDepth 20000 in
set_option maxHeartbeats 1000000 in
theorem kh_X7_trace_143 {Q : Int32 → HS → Prop} {X9 X9_2 : Nat → Nat → Int32 → Int32 → Int32 → HS → Prop} {v0 : Nat} {v1 : Nat} {v4 : Int32} {v5 : Int32} {v6 : Int32} {S0 S : HS} (h : P_X7_trace_143 Q X9 v0 v1 v4 v5 v6 S) (K : KH S0 S) (hX9 : ∀ (u0 : Nat) (u1 : Nat) (u2 : Int32) (u3 : Int32) (u4 : Int32) (u5 : HS), X9 u0 u1 u2 u3 u4 u5 → KH S0 u5 → X9_2 u0 u1 u2 u3 u4 u5) : P_X7_trace_143 (fun r T => Q r T ∧ KH S0 T) X9_2 v0 v1 v4 v5 v6 S := by
  delta P_X7_trace_143 at h ⊢
  intro x2 e1
  have h := h x2 e1
  exact hX9 _ _ _ _ _ _ h K
set_option maxRecDepth 20000 in
set_option maxHeartbeats 1000000 in
theorem kh_X7_trace_56 {Q : Int32 → HS → Prop} {X9 X9_2 : Nat → Nat → Int32 → Int32 → Int32 → HS → Prop} {v0 : Nat} {v1 : Nat} {v4 : Int32} {v5 : Int32} {v6 : Int32} {s0 : Int32} {S0 S : HS} (h : P_X7_trace_56 Q X9 v0 v1 v4 v5 v6 s0 S) (K : KH S0 S) (hX9 : ∀ (u0 : Nat) (u1 : Nat) (u2 : Int32) (u3 : Int32) (u4 : Int32) (u5 : HS), X9 u0 u1 u2 u3 u4 u5 → KH S0 u5 → X9_2 u0 u1 u2 u3 u4 u5) : P_X7_trace_56 (fun r T => Q r T ∧ KH S0 T) X9_2 v0 v1 v4 v5 v6 s0 S := by
  delta P_X7_trace_56 at h ⊢
  refine ⟨?_, ?_⟩
  · intro c1
    have h := h.1 c1
    obtain ⟨c2, h⟩ := h
    refine ⟨c2, ?_⟩
    obtain ⟨b3, e4, h⟩ := h
    refine ⟨b3, e4, ?_⟩
    obtain ⟨c5, h⟩ := h
    refine ⟨c5, ?_⟩
    obtain ⟨c6, h⟩ := h
    refine ⟨c6, ?_⟩
    intro x8 e7
    have h := h x8 e7
    have K := kh_I K e7
    refine ⟨?_, ?_⟩
    · intro c9
      have h := h.1 c9
      intro x11 e10
      have h := h x11 e10
      obtain ⟨c12, h⟩ := h
      refine ⟨c12, ?_⟩
      refine cm_X8_hasRoad (kh_X8_hasRoad h) h (fun x13 x14 hp h g15 g16 => ?_)
      have h := h g15 g16
      have K := kh_tr K hp.2
      refine ⟨?_, ?_⟩
      · intro c17
        have h := h.1 c17
        exact kh_X7_trace_143 h K hX9
      · intro c18
        have h := h.2 c18
        obtain ⟨b19, e20, h⟩ := h
        refine ⟨b19, e20, ?_⟩
        intro x22 e21
        have h := h x22 e21
        obtain ⟨c23, h⟩ := h
        refine ⟨c23, ?_⟩
        obtain ⟨c24, h⟩ := h
        refine ⟨c24, ?_⟩
        obtain ⟨b25, e26, h⟩ := h
        refine ⟨b25, e26, ?_⟩
        intro x28 e27
        have h := h x28 e27
        intro x30 e29
        have h := h x30 e29
        obtain ⟨c31, h⟩ := h
        refine ⟨c31, ?_⟩
        refine cm_X5_endOf (kh_X5_endOf h) h (fun x32 x33 hp h g34 => ?_)
        have h := h g34
        have K := kh_tr K hp.2
        intro x36 e35
        have h := h x36 e35
        refine cm_X5_minutesAt (kh_X5_minutesAt h) h (fun x37 x38 hp h g39 => ?_)
        have h := h g39
        have K := kh_tr K hp.2
        intro x41 e40
        have h := h x41 e40
        exact kh_X7_trace_143 h K hX9
    · intro c42
      have h := h.2 c42
      intro x44 e43
      have h := h x44 e43
      exact kh_X7_trace_143 h K hX9
  · intro c45
    have h := h.2 c45
    exact ⟨h, K⟩
set_option maxRecDepth 20000 in
set_option maxHeartbeats 1000000 in
theorem kh_X7_trace_55 {Q : Int32 → HS → Prop} {X9 X9_2 : Nat → Nat → Int32 → Int32 → Int32 → HS → Prop} {v0 : Nat} {v1 : Nat} {v4 : Int32} {v5 : Int32} {v6 : Int32} {S0 S : HS} (h : P_X7_trace_55 Q X9 v0 v1 v4 v5 v6 S) (K : KH S0 S) (hX9 : ∀ (u0 : Nat) (u1 : Nat) (u2 : Int32) (u3 : Int32) (u4 : Int32) (u5 : HS), X9 u0 u1 u2 u3 u4 u5 → KH S0 u5 → X9_2 u0 u1 u2 u3 u4 u5) : P_X7_trace_55 (fun r T => Q r T ∧ KH S0 T) X9_2 v0 v1 v4 v5 v6 S := by
  delta P_X7_trace_55 at h ⊢
  exact kh_X7_trace_56 h K hX9
set_option maxRecDepth 20000 in
set_option maxHeartbeats 1000000 in
theorem khB_X7_trace_9 {Q : Int32 → HS → Prop} {X9 X9_2 : Nat → Nat → Int32 → Int32 → Int32 → HS → Prop} {v0 : Nat} {v1 : Nat} {v4 : Int32} {v5 : Int32} {v6 : Int32} {S0 S : HS} (h : B_X7_trace_9 Q X9 v0 v1 v4 v5 v6 S) (K : KH S0 S) (hX9 : ∀ (u0 : Nat) (u1 : Nat) (u2 : Int32) (u3 : Int32) (u4 : Int32) (u5 : HS), X9 u0 u1 u2 u3 u4 u5 → KH S0 u5 → X9_2 u0 u1 u2 u3 u4 u5) : B_X7_trace_9 (fun r T => Q r T ∧ KH S0 T) X9_2 v0 v1 v4 v5 v6 S := by
  delta B_X7_trace_9 at h ⊢
  obtain ⟨c1, h⟩ := h
  refine ⟨c1, ?_⟩
  obtain ⟨b2, e3, h⟩ := h
  refine ⟨b2, e3, ?_⟩
  obtain ⟨c4, h⟩ := h
  refine ⟨c4, ?_⟩
  refine ⟨?_, ?_⟩
  · intro c5
    have h := h.1 c5
    obtain ⟨b6, e7, h⟩ := h
    refine ⟨b6, e7, ?_⟩
    obtain ⟨c8, h⟩ := h
    refine ⟨c8, ?_⟩
    exact ⟨h, K⟩
  · intro c9
    have h := h.2 c9
    intro x11 e10
    have h := h x11 e10
    refine ⟨?_, ?_⟩
    · intro c12
      have h := h.1 c12
      exact kh_X7_trace_55 h K hX9
    · intro c13
      have h := h.2 c13
      obtain ⟨b14, e15, h⟩ := h
      refine ⟨b14, e15, ?_⟩
      obtain ⟨c16, h⟩ := h
      refine ⟨c16, ?_⟩
      refine ⟨?_, ?_⟩
      · intro c17
        have h := h.1 c17
        exact kh_X7_trace_55 h K hX9
      · intro c18
        have h := h.2 c18
        obtain ⟨b19, e20, h⟩ := h
        refine ⟨b19, e20, ?_⟩
        obtain ⟨c21, h⟩ := h
        refine ⟨c21, ?_⟩
        obtain ⟨c22, h⟩ := h
        refine ⟨c22, ?_⟩
        intro x24 e23
        have h := h x24 e23
        exact kh_X7_trace_56 h K hX9
theorem kh_X7_trace_9 {Q : Int32 → HS → Prop} {v0 : Nat} {v1 : Nat} {v4 : Int32} {v5 : Int32} {v6 : Int32} {S0 S : HS} (h : P_X7_trace_9 Q v0 v1 v4 v5 v6 S) (K : KH S0 S) : P_X7_trace_9 (fun r T => Q r T ∧ KH S0 T) v0 v1 v4 v5 v6 S := h (fun v0 v1 v4 v5 v6 S => KH S0 S → P_X7_trace_9 (fun r T => Q r T ∧ KH S0 T) v0 v1 v4 v5 v6 S) (fun v0 v1 v4 v5 v6 S hB K => fd_X7_trace_9 (khB_X7_trace_9 hB K (fun _ _ _ _ _ _ hx K => hx K))) K
set_option maxRecDepth 20000 in
set_option maxHeartbeats 1000000 in
theorem kh_X7_trace_0 {Q : Int32 → HS → Prop} {v0 : Nat} {v1 : Nat} {v2 : Int32} {v3 : Int32} {S0 S : HS} (h : P_X7_trace_0 Q v0 v1 v2 v3 S) (K : KH S0 S) : P_X7_trace_0 (fun r T => Q r T ∧ KH S0 T) v0 v1 v2 v3 S := by
  delta P_X7_trace_0 at h ⊢
  exact kh_X7_trace_9 h K
theorem kh_X7_trace {Q : Int32 → HS → Prop} {v0 : Nat} {v1 : Nat} {v2 : Int32} {v3 : Int32} {S : HS} (h : P_X7_trace v0 v1 v2 v3 Q S) : P_X7_trace v0 v1 v2 v3 (fun r T => Q r T ∧ KH S T) S := kh_X7_trace_0 h (kh_rf S)
set_option maxRecDepth 20000 in
set_option maxHeartbeats 1000000 in
theorem kh_X9_grant_0 {Q : Int32 → HS → Prop} {v0 : Nat} {v1 : Int32} {S0 S : HS} (h : P_X9_grant_0 Q v0 v1 S) (K : KH S0 S) : P_X9_grant_0 (fun r T => Q r T ∧ KH S0 T) v0 v1 S := by
  delta P_X9_grant_0 at h ⊢
  obtain ⟨c1, h⟩ := h
  refine ⟨c1, ?_⟩
  intro x3 e2
  have h := h x3 e2
  have K := kh_I K e2
  exact ⟨h, K⟩
theorem kh_X9_grant {Q : Int32 → HS → Prop} {v0 : Nat} {v1 : Int32} {S : HS} (h : P_X9_grant v0 v1 Q S) : P_X9_grant v0 v1 (fun r T => Q r T ∧ KH S T) S := kh_X9_grant_0 h (kh_rf S)
set_option maxRecDepth 20000 in
set_option maxHeartbeats 1000000 in
theorem kh_X9_isWay_0 {Q : Int32 → HS → Prop} {v0 : Int32} {S0 S : HS} (h : P_X9_isWay_0 Q v0 S) (K : KH S0 S) : P_X9_isWay_0 (fun r T => Q r T ∧ KH S0 T) v0 S := by
  delta P_X9_isWay_0 at h ⊢
  refine ⟨?_, ?_⟩
  · intro c1
    have h := h.1 c1
    exact ⟨h, K⟩
  · intro c2
    have h := h.2 c2
    refine ⟨?_, ?_⟩
    · intro c3
      have h := h.1 c3
      exact ⟨h, K⟩
    · intro c4
      have h := h.2 c4
      exact ⟨h, K⟩
theorem kh_X9_isWay {Q : Int32 → HS → Prop} {v0 : Int32} {S : HS} (h : P_X9_isWay v0 Q S) : P_X9_isWay v0 (fun r T => Q r T ∧ KH S T) S := kh_X9_isWay_0 h (kh_rf S)
set_option maxRecDepth 20000 in
set_option maxHeartbeats 1000000 in
theorem kh_X9_air_0 {Q : Int32 → HS → Prop} {v0 : Nat} {v1 : Int32} {v2 : Int32} {v3 : Int32} {S0 S : HS} (h : P_X9_air_0 Q v0 v1 v2 v3 S) (K : KH S0 S) : P_X9_air_0 (fun r T => Q r T ∧ KH S0 T) v0 v1 v2 v3 S := by
  delta P_X9_air_0 at h ⊢
  obtain ⟨c1, h⟩ := h
  refine ⟨c1, ?_⟩
  obtain ⟨b2, e3, h⟩ := h
  refine ⟨b2, e3, ?_⟩
  obtain ⟨c4, h⟩ := h
  refine ⟨c4, ?_⟩
  refine cm_X8_hasRoad (kh_X8_hasRoad h) h (fun x5 x6 hp h g7 g8 => ?_)
  have h := h g7 g8
  have K := kh_tr K hp.2
  refine ⟨?_, ?_⟩
  · intro c9
    have h := h.1 c9
    intro x11 e10
    have h := h x11 e10
    have K := kh_I K e10
    exact ⟨h, K⟩
  · intro c12
    have h := h.2 c12
    refine cm_X9_isWay (kh_X9_isWay h) h (fun x13 x14 hp h g15 g16 => ?_)
    have h := h g15 g16
    have K := kh_tr K hp.2
    refine ⟨?_, ?_⟩
    · intro c17
      have h := h.1 c17
      intro x19 e18
      have h := h x19 e18
      have K := kh_I K e18
      exact ⟨h, K⟩
    · intro c20
      have h := h.2 c20
      obtain ⟨b21, e22, h⟩ := h
      refine ⟨b21, e22, ?_⟩
      obtain ⟨c23, h⟩ := h
      refine ⟨c23, ?_⟩
      refine cm_X8_hasHour (kh_X8_hasHour h) h (fun x24 x25 hp h g26 g27 => ?_)
      have h := h g26 g27
      have K := kh_tr K hp.2
      refine ⟨?_, ?_⟩
      · intro c28
        have h := h.1 c28
        obtain ⟨b29, e30, h⟩ := h
        refine ⟨b29, e30, ?_⟩
        obtain ⟨c31, h⟩ := h
        refine ⟨c31, ?_⟩
        obtain ⟨b32, e33, h⟩ := h
        refine ⟨b32, e33, ?_⟩
        obtain ⟨c34, h⟩ := h
        refine ⟨c34, ?_⟩
        obtain ⟨c35, h⟩ := h
        refine ⟨c35, ?_⟩
        obtain ⟨b36, e37, h⟩ := h
        refine ⟨b36, e37, ?_⟩
        obtain ⟨b38, e39, h⟩ := h
        refine ⟨b38, e39, ?_⟩
        obtain ⟨c40, h⟩ := h
        refine ⟨c40, ?_⟩
        obtain ⟨b41, e42, h⟩ := h
        refine ⟨b41, e42, ?_⟩
        obtain ⟨c43, h⟩ := h
        refine ⟨c43, ?_⟩
        obtain ⟨c44, h⟩ := h
        refine ⟨c44, ?_⟩
        obtain ⟨b45, e46, h⟩ := h
        refine ⟨b45, e46, ?_⟩
        obtain ⟨c47, h⟩ := h
        refine ⟨c47, ?_⟩
        refine cm_X5_airAlong (kh_X5_airAlong h) h (fun x48 x49 hp h g50 => ?_)
        have h := h g50
        have K := kh_tr K hp.2
        refine cm_X9_grant (kh_X9_grant h) h (fun x51 x52 hp h g53 => ?_)
        have h := h g53
        have K := kh_tr K hp.2
        exact ⟨h, K⟩
      · intro c54
        have h := h.2 c54
        intro x56 e55
        have h := h x56 e55
        have K := kh_I K e55
        exact ⟨h, K⟩
theorem kh_X9_air {Q : Int32 → HS → Prop} {v0 : Nat} {v1 : Int32} {v2 : Int32} {v3 : Int32} {S : HS} (h : P_X9_air v0 v1 v2 v3 Q S) : P_X9_air v0 v1 v2 v3 (fun r T => Q r T ∧ KH S T) S := kh_X9_air_0 h (kh_rf S)
set_option maxRecDepth 20000 in
set_option maxHeartbeats 1000000 in
theorem kh_X9_refusedBy_0 {Q : Int32 → HS → Prop} {v0 : Nat} {v1 : Int32} {S0 S : HS} (h : P_X9_refusedBy_0 Q v0 v1 S) (K : KH S0 S) : P_X9_refusedBy_0 (fun r T => Q r T ∧ KH S0 T) v0 v1 S := by
  delta P_X9_refusedBy_0 at h ⊢
  obtain ⟨c1, h⟩ := h
  refine ⟨c1, ?_⟩
  intro x3 e2
  have h := h x3 e2
  have K := kh_I K e2
  refine ⟨?_, ?_⟩
  · intro c4
    have h := h.1 c4
    exact ⟨h, K⟩
  · intro c5
    have h := h.2 c5
    exact ⟨h, K⟩
theorem kh_X9_refusedBy {Q : Int32 → HS → Prop} {v0 : Nat} {v1 : Int32} {S : HS} (h : P_X9_refusedBy v0 v1 Q S) : P_X9_refusedBy v0 v1 (fun r T => Q r T ∧ KH S T) S := kh_X9_refusedBy_0 h (kh_rf S)
set_option maxRecDepth 20000 in
set_option maxHeartbeats 1000000 in
theorem kh_X9_back_17 {Q : Int32 → HS → Prop} {s0 : Nat} {s1 : Int32} {S0 S : HS} (h : P_X9_back_17 Q s0 s1 S) (K : KH S0 S) : P_X9_back_17 (fun r T => Q r T ∧ KH S0 T) s0 s1 S := by
  delta P_X9_back_17 at h ⊢
  obtain ⟨c1, h⟩ := h
  refine ⟨c1, ?_⟩
  refine cm_X9_refusedBy (kh_X9_refusedBy h) h (fun x2 x3 hp h g4 g5 => ?_)
  have h := h g4 g5
  have K := kh_tr K hp.2
  refine ⟨?_, ?_⟩
  · intro c6
    have h := h.1 c6
    exact ⟨h, K⟩
  · intro c7
    have h := h.2 c7
    exact ⟨h, K⟩
set_option maxRecDepth 20000 in
set_option maxHeartbeats 1000000 in
theorem kh_X9_back_0 {Q : Int32 → HS → Prop} {v0 : Nat} {v1 : Int32} {S0 S : HS} (h : P_X9_back_0 Q v0 v1 S) (K : KH S0 S) : P_X9_back_0 (fun r T => Q r T ∧ KH S0 T) v0 v1 S := by
  delta P_X9_back_0 at h ⊢
  obtain ⟨c1, h⟩ := h
  refine ⟨c1, ?_⟩
  obtain ⟨b2, e3, h⟩ := h
  refine ⟨b2, e3, ?_⟩
  obtain ⟨c4, h⟩ := h
  refine ⟨c4, ?_⟩
  refine cm_X0_returnTo (kh_X0_returnTo h) h (fun x5 x6 hp h g7 g8 => ?_)
  have h := h g7 g8
  have K := kh_tr K hp.2
  refine ⟨?_, ?_⟩
  · intro c9
    have h := h.1 c9
    exact kh_X9_back_17 h K
  · intro c10
    have h := h.2 c10
    exact kh_X9_back_17 h K
theorem kh_X9_back {Q : Int32 → HS → Prop} {v0 : Nat} {v1 : Int32} {S : HS} (h : P_X9_back v0 v1 Q S) : P_X9_back v0 v1 (fun r T => Q r T ∧ KH S T) S := kh_X9_back_0 h (kh_rf S)
set_option maxRecDepth 20000 in
set_option maxHeartbeats 1000000 in
theorem kh_X9_tripTrouble_46 {Q : Int32 → HS → Prop} {s0 : Int32} {S0 S : HS} (h : P_X9_tripTrouble_46 Q s0 S) (K : KH S0 S) : P_X9_tripTrouble_46 (fun r T => Q r T ∧ KH S0 T) s0 S := by
  delta P_X9_tripTrouble_46 at h ⊢
  refine ⟨?_, ?_⟩
  · intro c1
    have h := h.1 c1
    exact ⟨h, K⟩
  · intro c2
    have h := h.2 c2
    exact ⟨h, K⟩
set_option maxRecDepth 20000 in
set_option maxHeartbeats 1000000 in
theorem kh_X9_tripTrouble_45 {Q : Int32 → HS → Prop} {S0 S : HS} (h : P_X9_tripTrouble_45 Q S) (K : KH S0 S) : P_X9_tripTrouble_45 (fun r T => Q r T ∧ KH S0 T) S := by
  delta P_X9_tripTrouble_45 at h ⊢
  exact kh_X9_tripTrouble_46 h K
set_option maxRecDepth 20000 in
set_option maxHeartbeats 1000000 in
theorem kh_X9_tripTrouble_0 {Q : Int32 → HS → Prop} {v0 : Nat} {v1 : Int32} {v2 : Int32} {v3 : Int32} {v4 : Int32} {S0 S : HS} (h : P_X9_tripTrouble_0 Q v0 v1 v2 v3 v4 S) (K : KH S0 S) : P_X9_tripTrouble_0 (fun r T => Q r T ∧ KH S0 T) v0 v1 v2 v3 v4 S := by
  delta P_X9_tripTrouble_0 at h ⊢
  obtain ⟨c1, h⟩ := h
  refine ⟨c1, ?_⟩
  obtain ⟨b2, e3, h⟩ := h
  refine ⟨b2, e3, ?_⟩
  obtain ⟨c4, h⟩ := h
  refine ⟨c4, ?_⟩
  refine cm_X8_hasWalker (kh_X8_hasWalker h) h (fun x5 x6 hp h g7 g8 => ?_)
  have h := h g7 g8
  have K := kh_tr K hp.2
  refine ⟨?_, ?_⟩
  · intro c9
    have h := h.1 c9
    exact kh_X9_tripTrouble_45 h K
  · intro c10
    have h := h.2 c10
    obtain ⟨b11, e12, h⟩ := h
    refine ⟨b11, e12, ?_⟩
    obtain ⟨c13, h⟩ := h
    refine ⟨c13, ?_⟩
    refine cm_X8_hasRoad (kh_X8_hasRoad h) h (fun x14 x15 hp h g16 g17 => ?_)
    have h := h g16 g17
    have K := kh_tr K hp.2
    refine ⟨?_, ?_⟩
    · intro c18
      have h := h.1 c18
      exact kh_X9_tripTrouble_45 h K
    · intro c19
      have h := h.2 c19
      refine cm_X9_isWay (kh_X9_isWay h) h (fun x20 x21 hp h g22 g23 => ?_)
      have h := h g22 g23
      have K := kh_tr K hp.2
      refine ⟨?_, ?_⟩
      · intro c24
        have h := h.1 c24
        exact kh_X9_tripTrouble_45 h K
      · intro c25
        have h := h.2 c25
        obtain ⟨b26, e27, h⟩ := h
        refine ⟨b26, e27, ?_⟩
        obtain ⟨c28, h⟩ := h
        refine ⟨c28, ?_⟩
        refine cm_X8_hasHour (kh_X8_hasHour h) h (fun x29 x30 hp h g31 g32 => ?_)
        have h := h g31 g32
        have K := kh_tr K hp.2
        refine ⟨?_, ?_⟩
        · intro c33
          have h := h.1 c33
          exact kh_X9_tripTrouble_45 h K
        · intro c34
          have h := h.2 c34
          exact kh_X9_tripTrouble_46 h K
theorem kh_X9_tripTrouble {Q : Int32 → HS → Prop} {v0 : Nat} {v1 : Int32} {v2 : Int32} {v3 : Int32} {v4 : Int32} {S : HS} (h : P_X9_tripTrouble v0 v1 v2 v3 v4 Q S) : P_X9_tripTrouble v0 v1 v2 v3 v4 (fun r T => Q r T ∧ KH S T) S := kh_X9_tripTrouble_0 h (kh_rf S)
set_option maxRecDepth 20000 in
set_option maxHeartbeats 1000000 in
theorem kh_X9_best_0 {Q : Int32 → HS → Prop} {v0 : Nat} {v1 : Int32} {v2 : Int32} {v3 : Int32} {v4 : Int32} {S0 S : HS} (h : P_X9_best_0 Q v0 v1 v2 v3 v4 S) (K : KH S0 S) : P_X9_best_0 (fun r T => Q r T ∧ KH S0 T) v0 v1 v2 v3 v4 S := by
  delta P_X9_best_0 at h ⊢
  obtain ⟨c1, h⟩ := h
  refine ⟨c1, ?_⟩
  refine cm_X9_tripTrouble (kh_X9_tripTrouble h) h (fun x2 x3 hp h g4 => ?_)
  have h := h g4
  have K := kh_tr K hp.2
  refine cm_X9_refusedBy (kh_X9_refusedBy h) h (fun x5 x6 hp h g7 g8 => ?_)
  have h := h g7 g8
  have K := kh_tr K hp.2
  refine ⟨?_, ?_⟩
  · intro c9
    have h := h.1 c9
    obtain ⟨b10, e11, h⟩ := h
    refine ⟨b10, e11, ?_⟩
    obtain ⟨b12, e13, h⟩ := h
    refine ⟨b12, e13, ?_⟩
    obtain ⟨c14, h⟩ := h
    refine ⟨c14, ?_⟩
    obtain ⟨b15, e16, h⟩ := h
    refine ⟨b15, e16, ?_⟩
    obtain ⟨c17, h⟩ := h
    refine ⟨c17, ?_⟩
    obtain ⟨c18, h⟩ := h
    refine ⟨c18, ?_⟩
    obtain ⟨b19, e20, h⟩ := h
    refine ⟨b19, e20, ?_⟩
    obtain ⟨b21, e22, h⟩ := h
    refine ⟨b21, e22, ?_⟩
    obtain ⟨c23, h⟩ := h
    refine ⟨c23, ?_⟩
    obtain ⟨b24, e25, h⟩ := h
    refine ⟨b24, e25, ?_⟩
    obtain ⟨c26, h⟩ := h
    refine ⟨c26, ?_⟩
    obtain ⟨c27, h⟩ := h
    refine ⟨c27, ?_⟩
    obtain ⟨b28, e29, h⟩ := h
    refine ⟨b28, e29, ?_⟩
    obtain ⟨b30, e31, h⟩ := h
    refine ⟨b30, e31, ?_⟩
    obtain ⟨c32, h⟩ := h
    refine ⟨c32, ?_⟩
    obtain ⟨b33, e34, h⟩ := h
    refine ⟨b33, e34, ?_⟩
    obtain ⟨c35, h⟩ := h
    refine ⟨c35, ?_⟩
    obtain ⟨c36, h⟩ := h
    refine ⟨c36, ?_⟩
    obtain ⟨b37, e38, h⟩ := h
    refine ⟨b37, e38, ?_⟩
    obtain ⟨c39, h⟩ := h
    refine ⟨c39, ?_⟩
    refine cm_X1_bestSpeed (kh_X1_bestSpeed h) h (fun x40 x41 hp h g42 => ?_)
    have h := h g42
    have K := kh_tr K hp.2
    exact ⟨h, K⟩
  · intro c43
    have h := h.2 c43
    exact ⟨h, K⟩
theorem kh_X9_best {Q : Int32 → HS → Prop} {v0 : Nat} {v1 : Int32} {v2 : Int32} {v3 : Int32} {v4 : Int32} {S : HS} (h : P_X9_best v0 v1 v2 v3 v4 Q S) : P_X9_best v0 v1 v2 v3 v4 (fun r T => Q r T ∧ KH S T) S := kh_X9_best_0 h (kh_rf S)
set_option maxRecDepth 20000 in
set_option maxHeartbeats 1000000 in
theorem kh_X9_coatParts_0 {Q : Int64 → HS → Prop} {v0 : Nat} {S0 S : HS} (h : P_X9_coatParts_0 Q v0 S) (K : KH S0 S) : P_X9_coatParts_0 (fun r T => Q r T ∧ KH S0 T) v0 S := by
  delta P_X9_coatParts_0 at h ⊢
  obtain ⟨c1, h⟩ := h
  refine ⟨c1, ?_⟩
  intro x3 e2
  have h := h x3 e2
  refine ⟨?_, ?_⟩
  · intro c4
    have h := h.1 c4
    exact ⟨h, K⟩
  · intro c5
    have h := h.2 c5
    intro x7 e6
    have h := h x7 e6
    exact ⟨h, K⟩
theorem kh_X9_coatParts {Q : Int64 → HS → Prop} {v0 : Nat} {S : HS} (h : P_X9_coatParts v0 Q S) : P_X9_coatParts v0 (fun r T => Q r T ∧ KH S T) S := kh_X9_coatParts_0 h (kh_rf S)
set_option maxRecDepth 20000 in
set_option maxHeartbeats 1000000 in
theorem khB_X9_commonDivisor_9 {Q : Int64 → HS → Prop} {X9 X9_2 : Int64 → Int64 → Int32 → HS → Prop} {v4 : Int64} {v6 : Int64} {v8 : Int32} {S0 S : HS} (h : B_X9_commonDivisor_9 Q X9 v4 v6 v8 S) (K : KH S0 S) (hX9 : ∀ (u0 : Int64) (u1 : Int64) (u2 : Int32) (u3 : HS), X9 u0 u1 u2 u3 → KH S0 u3 → X9_2 u0 u1 u2 u3) : B_X9_commonDivisor_9 (fun r T => Q r T ∧ KH S0 T) X9_2 v4 v6 v8 S := by
  delta B_X9_commonDivisor_9 at h ⊢
  refine ⟨?_, ?_⟩
  · intro c1
    have h := h.1 c1
    exact ⟨h, K⟩
  · intro c2
    have h := h.2 c2
    refine ⟨?_, ?_⟩
    · intro c3
      have h := h.1 c3
      exact ⟨h, K⟩
    · intro c4
      have h := h.2 c4
      obtain ⟨c5, h⟩ := h
      refine ⟨c5, ?_⟩
      intro x7 e6
      have h := h x7 e6
      intro x9 e8
      have h := h x9 e8
      exact hX9 _ _ _ _ h K
theorem kh_X9_commonDivisor_9 {Q : Int64 → HS → Prop} {v4 : Int64} {v6 : Int64} {v8 : Int32} {S0 S : HS} (h : P_X9_commonDivisor_9 Q v4 v6 v8 S) (K : KH S0 S) : P_X9_commonDivisor_9 (fun r T => Q r T ∧ KH S0 T) v4 v6 v8 S := h (fun v4 v6 v8 S => KH S0 S → P_X9_commonDivisor_9 (fun r T => Q r T ∧ KH S0 T) v4 v6 v8 S) (fun v4 v6 v8 S hB K => fd_X9_commonDivisor_9 (khB_X9_commonDivisor_9 hB K (fun _ _ _ _ hx K => hx K))) K
set_option maxRecDepth 20000 in
set_option maxHeartbeats 1000000 in
theorem kh_X9_commonDivisor_0 {Q : Int64 → HS → Prop} {v0 : Int64} {v2 : Int64} {S0 S : HS} (h : P_X9_commonDivisor_0 Q v0 v2 S) (K : KH S0 S) : P_X9_commonDivisor_0 (fun r T => Q r T ∧ KH S0 T) v0 v2 S := by
  delta P_X9_commonDivisor_0 at h ⊢
  exact kh_X9_commonDivisor_9 h K
theorem kh_X9_commonDivisor {Q : Int64 → HS → Prop} {v0 : Int64} {v2 : Int64} {S : HS} (h : P_X9_commonDivisor v0 v2 Q S) : P_X9_commonDivisor v0 v2 (fun r T => Q r T ∧ KH S T) S := kh_X9_commonDivisor_0 h (kh_rf S)
set_option maxRecDepth 20000 in
set_option maxHeartbeats 1000000 in
theorem kh_X9_refuse_0 {Q : Int32 → HS → Prop} {v0 : Nat} {v1 : Int32} {S0 S : HS} (h : P_X9_refuse_0 Q v0 v1 S) (K : KH S0 S) : P_X9_refuse_0 (fun r T => Q r T ∧ KH S0 T) v0 v1 S := by
  delta P_X9_refuse_0 at h ⊢
  obtain ⟨c1, h⟩ := h
  refine ⟨c1, ?_⟩
  intro x3 e2
  have h := h x3 e2
  have K := kh_I K e2
  exact ⟨h, K⟩
theorem kh_X9_refuse {Q : Int32 → HS → Prop} {v0 : Nat} {v1 : Int32} {S : HS} (h : P_X9_refuse v0 v1 Q S) : P_X9_refuse v0 v1 (fun r T => Q r T ∧ KH S T) S := kh_X9_refuse_0 h (kh_rf S)
set_option maxRecDepth 20000 in
set_option maxHeartbeats 1000000 in
theorem kh_X9_day_22 {Q : Int32 → HS → Prop} {v0 : Nat} {S0 S : HS} (h : P_X9_day_22 Q v0 S) (K : KH S0 S) : P_X9_day_22 (fun r T => Q r T ∧ KH S0 T) v0 S := by
  delta P_X9_day_22 at h ⊢
  obtain ⟨c1, h⟩ := h
  refine ⟨c1, ?_⟩
  refine cm_X9_refuse (kh_X9_refuse h) h (fun x2 x3 hp h g4 => ?_)
  have h := h g4
  have K := kh_tr K hp.2
  exact ⟨h, K⟩
set_option maxRecDepth 20000 in
set_option maxHeartbeats 1000000 in
theorem kh_X9_day_52 {Q : Int32 → HS → Prop} {v0 : Nat} {S0 S : HS} (h : P_X9_day_52 Q v0 S) (K : KH S0 S) : P_X9_day_52 (fun r T => Q r T ∧ KH S0 T) v0 S := by
  delta P_X9_day_52 at h ⊢
  obtain ⟨c1, h⟩ := h
  refine ⟨c1, ?_⟩
  refine cm_X9_refuse (kh_X9_refuse h) h (fun x2 x3 hp h g4 => ?_)
  have h := h g4
  have K := kh_tr K hp.2
  exact ⟨h, K⟩
set_option maxRecDepth 20000 in
set_option maxHeartbeats 1000000 in
theorem kh_X9_day_0 {Q : Int32 → HS → Prop} {v0 : Nat} {v1 : Int32} {v2 : Int32} {v3 : Int32} {v4 : Int32} {S0 S : HS} (h : P_X9_day_0 Q v0 v1 v2 v3 v4 S) (K : KH S0 S) : P_X9_day_0 (fun r T => Q r T ∧ KH S0 T) v0 v1 v2 v3 v4 S := by
  delta P_X9_day_0 at h ⊢
  obtain ⟨c1, h⟩ := h
  refine ⟨c1, ?_⟩
  obtain ⟨b2, e3, h⟩ := h
  refine ⟨b2, e3, ?_⟩
  obtain ⟨c4, h⟩ := h
  refine ⟨c4, ?_⟩
  refine cm_X8_hasWalker (kh_X8_hasWalker h) h (fun x5 x6 hp h g7 g8 => ?_)
  have h := h g7 g8
  have K := kh_tr K hp.2
  refine ⟨?_, ?_⟩
  · intro c9
    have h := h.1 c9
    exact kh_X9_day_22 h K
  · intro c10
    have h := h.2 c10
    obtain ⟨b11, e12, h⟩ := h
    refine ⟨b11, e12, ?_⟩
    obtain ⟨c13, h⟩ := h
    refine ⟨c13, ?_⟩
    refine cm_X8_hasPlace (kh_X8_hasPlace h) h (fun x14 x15 hp h g16 g17 => ?_)
    have h := h g16 g17
    have K := kh_tr K hp.2
    refine ⟨?_, ?_⟩
    · intro c18
      have h := h.1 c18
      refine ⟨?_, ?_⟩
      · intro c19
        have h := h.1 c19
        exact kh_X9_day_52 h K
      · intro c20
        have h := h.2 c20
        refine ⟨?_, ?_⟩
        · intro c21
          have h := h.1 c21
          exact kh_X9_day_52 h K
        · intro c22
          have h := h.2 c22
          refine ⟨?_, ?_⟩
          · intro c23
            have h := h.1 c23
            exact kh_X9_day_52 h K
          · intro c24
            have h := h.2 c24
            refine ⟨?_, ?_⟩
            · intro c25
              have h := h.1 c25
              obtain ⟨b26, e27, h⟩ := h
              refine ⟨b26, e27, ?_⟩
              obtain ⟨c28, h⟩ := h
              refine ⟨c28, ?_⟩
              refine cm_X0_begin (kh_X0_begin h) h (fun x29 hp h g30 => ?_)
              have h := h g30
              have K := kh_tr K hp.2
              obtain ⟨b31, e32, h⟩ := h
              refine ⟨b31, e32, ?_⟩
              obtain ⟨b33, e34, h⟩ := h
              refine ⟨b33, e34, ?_⟩
              obtain ⟨c35, h⟩ := h
              refine ⟨c35, ?_⟩
              refine cm_X0_draw (kh_X0_draw h) h (fun x36 hp h g37 => ?_)
              have h := h g37
              have K := kh_tr K hp.2
              obtain ⟨b38, e39, h⟩ := h
              refine ⟨b38, e39, ?_⟩
              obtain ⟨c40, h⟩ := h
              refine ⟨c40, ?_⟩
              intro x42 e41
              have h := h x42 e41
              refine cm_X9_grant (kh_X9_grant h) h (fun x43 x44 hp h g45 => ?_)
              have h := h g45
              have K := kh_tr K hp.2
              exact ⟨h, K⟩
            · intro c46
              have h := h.2 c46
              exact kh_X9_day_52 h K
    · intro c47
      have h := h.2 c47
      exact kh_X9_day_22 h K
theorem kh_X9_day {Q : Int32 → HS → Prop} {v0 : Nat} {v1 : Int32} {v2 : Int32} {v3 : Int32} {v4 : Int32} {S : HS} (h : P_X9_day v0 v1 v2 v3 v4 Q S) : P_X9_day v0 v1 v2 v3 v4 (fun r T => Q r T ∧ KH S T) S := kh_X9_day_0 h (kh_rf S)
set_option maxRecDepth 20000 in
set_option maxHeartbeats 1000000 in
theorem kh_X9_driest_29 {Q : Int32 → HS → Prop} {v0 : Nat} {S0 S : HS} (h : P_X9_driest_29 Q v0 S) (K : KH S0 S) : P_X9_driest_29 (fun r T => Q r T ∧ KH S0 T) v0 S := by
  delta P_X9_driest_29 at h ⊢
  obtain ⟨c1, h⟩ := h
  refine ⟨c1, ?_⟩
  refine cm_X9_refuse (kh_X9_refuse h) h (fun x2 x3 hp h g4 => ?_)
  have h := h g4
  have K := kh_tr K hp.2
  exact ⟨h, K⟩
set_option maxRecDepth 20000 in
set_option maxHeartbeats 1000000 in
theorem kh_X9_driest_140 {Q : Int32 → HS → Prop} {X63 X63_2 : Nat → Int32 → Int32 → Int32 → Int32 → Int64 → Int32 → HS → Prop} {v0 : Nat} {v1 : Int32} {v2 : Int32} {v3 : Int32} {v4 : Int32} {v5 : Int64} {v7 : Int32} {S0 S : HS} (h : P_X9_driest_140 Q X63 v0 v1 v2 v3 v4 v5 v7 S) (K : KH S0 S) (hX63 : ∀ (u0 : Nat) (u1 : Int32) (u2 : Int32) (u3 : Int32) (u4 : Int32) (u5 : Int64) (u6 : Int32) (u7 : HS), X63 u0 u1 u2 u3 u4 u5 u6 u7 → KH S0 u7 → X63_2 u0 u1 u2 u3 u4 u5 u6 u7) : P_X9_driest_140 (fun r T => Q r T ∧ KH S0 T) X63_2 v0 v1 v2 v3 v4 v5 v7 S := by
  delta P_X9_driest_140 at h ⊢
  intro x2 e1
  have h := h x2 e1
  exact hX63 _ _ _ _ _ _ _ _ h K
set_option maxRecDepth 20000 in
set_option maxHeartbeats 1000000 in
theorem khB_X9_driest_63 {Q : Int32 → HS → Prop} {X63 X63_2 : Nat → Int32 → Int32 → Int32 → Int32 → Int64 → Int32 → HS → Prop} {v0 : Nat} {v1 : Int32} {v2 : Int32} {v3 : Int32} {v4 : Int32} {v5 : Int64} {v7 : Int32} {S0 S : HS} (h : B_X9_driest_63 Q X63 v0 v1 v2 v3 v4 v5 v7 S) (K : KH S0 S) (hX63 : ∀ (u0 : Nat) (u1 : Int32) (u2 : Int32) (u3 : Int32) (u4 : Int32) (u5 : Int64) (u6 : Int32) (u7 : HS), X63 u0 u1 u2 u3 u4 u5 u6 u7 → KH S0 u7 → X63_2 u0 u1 u2 u3 u4 u5 u6 u7) : B_X9_driest_63 (fun r T => Q r T ∧ KH S0 T) X63_2 v0 v1 v2 v3 v4 v5 v7 S := by
  delta B_X9_driest_63 at h ⊢
  obtain ⟨c1, h⟩ := h
  refine ⟨c1, ?_⟩
  obtain ⟨b2, e3, h⟩ := h
  refine ⟨b2, e3, ?_⟩
  obtain ⟨c4, h⟩ := h
  refine ⟨c4, ?_⟩
  intro x6 e5
  have h := h x6 e5
  refine ⟨?_, ?_⟩
  · intro c7
    have h := h.1 c7
    refine cm_X9_grant (kh_X9_grant h) h (fun x8 x9 hp h g10 => ?_)
    have h := h g10
    have K := kh_tr K hp.2
    exact ⟨h, K⟩
  · intro c11
    have h := h.2 c11
    obtain ⟨b12, e13, h⟩ := h
    refine ⟨b12, e13, ?_⟩
    obtain ⟨c14, h⟩ := h
    refine ⟨c14, ?_⟩
    obtain ⟨b15, e16, h⟩ := h
    refine ⟨b15, e16, ?_⟩
    obtain ⟨c17, h⟩ := h
    refine ⟨c17, ?_⟩
    obtain ⟨c18, h⟩ := h
    refine ⟨c18, ?_⟩
    obtain ⟨b19, e20, h⟩ := h
    refine ⟨b19, e20, ?_⟩
    obtain ⟨b21, e22, h⟩ := h
    refine ⟨b21, e22, ?_⟩
    obtain ⟨b23, e24, h⟩ := h
    refine ⟨b23, e24, ?_⟩
    obtain ⟨c25, h⟩ := h
    refine ⟨c25, ?_⟩
    obtain ⟨b26, e27, h⟩ := h
    refine ⟨b26, e27, ?_⟩
    obtain ⟨c28, h⟩ := h
    refine ⟨c28, ?_⟩
    obtain ⟨c29, h⟩ := h
    refine ⟨c29, ?_⟩
    obtain ⟨b30, e31, h⟩ := h
    refine ⟨b30, e31, ?_⟩
    obtain ⟨b32, e33, h⟩ := h
    refine ⟨b32, e33, ?_⟩
    obtain ⟨c34, h⟩ := h
    refine ⟨c34, ?_⟩
    obtain ⟨b35, e36, h⟩ := h
    refine ⟨b35, e36, ?_⟩
    obtain ⟨c37, h⟩ := h
    refine ⟨c37, ?_⟩
    obtain ⟨c38, h⟩ := h
    refine ⟨c38, ?_⟩
    obtain ⟨b39, e40, h⟩ := h
    refine ⟨b39, e40, ?_⟩
    obtain ⟨c41, h⟩ := h
    refine ⟨c41, ?_⟩
    refine cm_X1_leastWet (kh_X1_leastWet h) h (fun x42 x43 hp h g44 => ?_)
    have h := h g44
    have K := kh_tr K hp.2
    obtain ⟨c45, h⟩ := h
    refine ⟨c45, ?_⟩
    intro x47 e46
    have h := h x47 e46
    intro x49 e48
    have h := h x49 e48
    refine ⟨?_, ?_⟩
    · intro c50
      have h := h.1 c50
      exact kh_X9_driest_140 h K hX63
    · intro c51
      have h := h.2 c51
      exact kh_X9_driest_140 h K hX63
theorem kh_X9_driest_63 {Q : Int32 → HS → Prop} {v0 : Nat} {v1 : Int32} {v2 : Int32} {v3 : Int32} {v4 : Int32} {v5 : Int64} {v7 : Int32} {S0 S : HS} (h : P_X9_driest_63 Q v0 v1 v2 v3 v4 v5 v7 S) (K : KH S0 S) : P_X9_driest_63 (fun r T => Q r T ∧ KH S0 T) v0 v1 v2 v3 v4 v5 v7 S := h (fun v0 v1 v2 v3 v4 v5 v7 S => KH S0 S → P_X9_driest_63 (fun r T => Q r T ∧ KH S0 T) v0 v1 v2 v3 v4 v5 v7 S) (fun v0 v1 v2 v3 v4 v5 v7 S hB K => fd_X9_driest_63 (khB_X9_driest_63 hB K (fun _ _ _ _ _ _ _ _ hx K => hx K))) K
set_option maxRecDepth 20000 in
set_option maxHeartbeats 1000000 in
theorem kh_X9_driest_0 {Q : Int32 → HS → Prop} {v0 : Nat} {v1 : Int32} {v2 : Int32} {v3 : Int32} {S0 S : HS} (h : P_X9_driest_0 Q v0 v1 v2 v3 S) (K : KH S0 S) : P_X9_driest_0 (fun r T => Q r T ∧ KH S0 T) v0 v1 v2 v3 S := by
  delta P_X9_driest_0 at h ⊢
  obtain ⟨c1, h⟩ := h
  refine ⟨c1, ?_⟩
  obtain ⟨b2, e3, h⟩ := h
  refine ⟨b2, e3, ?_⟩
  obtain ⟨c4, h⟩ := h
  refine ⟨c4, ?_⟩
  refine cm_X8_hasWalker (kh_X8_hasWalker h) h (fun x5 x6 hp h g7 g8 => ?_)
  have h := h g7 g8
  have K := kh_tr K hp.2
  refine ⟨?_, ?_⟩
  · intro c9
    have h := h.1 c9
    exact kh_X9_driest_29 h K
  · intro c10
    have h := h.2 c10
    obtain ⟨b11, e12, h⟩ := h
    refine ⟨b11, e12, ?_⟩
    obtain ⟨c13, h⟩ := h
    refine ⟨c13, ?_⟩
    refine cm_X8_hasRoad (kh_X8_hasRoad h) h (fun x14 x15 hp h g16 g17 => ?_)
    have h := h g16 g17
    have K := kh_tr K hp.2
    refine ⟨?_, ?_⟩
    · intro c18
      have h := h.1 c18
      exact kh_X9_driest_29 h K
    · intro c19
      have h := h.2 c19
      refine cm_X9_isWay (kh_X9_isWay h) h (fun x20 x21 hp h g22 g23 => ?_)
      have h := h g22 g23
      have K := kh_tr K hp.2
      refine ⟨?_, ?_⟩
      · intro c24
        have h := h.1 c24
        obtain ⟨b25, e26, h⟩ := h
        refine ⟨b25, e26, ?_⟩
        obtain ⟨c27, h⟩ := h
        refine ⟨c27, ?_⟩
        intro x29 e28
        have h := h x29 e28
        refine ⟨?_, ?_⟩
        · intro c30
          have h := h.1 c30
          exact kh_X9_driest_63 h K
        · intro c31
          have h := h.2 c31
          refine cm_X9_refuse (kh_X9_refuse h) h (fun x32 x33 hp h g34 => ?_)
          have h := h g34
          have K := kh_tr K hp.2
          exact ⟨h, K⟩
      · intro c35
        have h := h.2 c35
        exact kh_X9_driest_29 h K
theorem kh_X9_driest {Q : Int32 → HS → Prop} {v0 : Nat} {v1 : Int32} {v2 : Int32} {v3 : Int32} {S : HS} (h : P_X9_driest v0 v1 v2 v3 Q S) : P_X9_driest v0 v1 v2 v3 (fun r T => Q r T ∧ KH S T) S := kh_X9_driest_0 h (kh_rf S)
set_option maxRecDepth 20000 in
set_option maxHeartbeats 1000000 in
theorem kh_X9_even_0 {Q : Int32 → HS → Prop} {v0 : Nat} {v1 : Int32} {v2 : Int32} {v3 : Int32} {v4 : Int32} {S0 S : HS} (h : P_X9_even_0 Q v0 v1 v2 v3 v4 S) (K : KH S0 S) : P_X9_even_0 (fun r T => Q r T ∧ KH S0 T) v0 v1 v2 v3 v4 S := by
  delta P_X9_even_0 at h ⊢
  obtain ⟨c1, h⟩ := h
  refine ⟨c1, ?_⟩
  refine cm_X9_tripTrouble (kh_X9_tripTrouble h) h (fun x2 x3 hp h g4 => ?_)
  have h := h g4
  have K := kh_tr K hp.2
  refine cm_X9_refusedBy (kh_X9_refusedBy h) h (fun x5 x6 hp h g7 g8 => ?_)
  have h := h g7 g8
  have K := kh_tr K hp.2
  refine ⟨?_, ?_⟩
  · intro c9
    have h := h.1 c9
    obtain ⟨b10, e11, h⟩ := h
    refine ⟨b10, e11, ?_⟩
    obtain ⟨c12, h⟩ := h
    refine ⟨c12, ?_⟩
    obtain ⟨b13, e14, h⟩ := h
    refine ⟨b13, e14, ?_⟩
    obtain ⟨c15, h⟩ := h
    refine ⟨c15, ?_⟩
    obtain ⟨c16, h⟩ := h
    refine ⟨c16, ?_⟩
    obtain ⟨b17, e18, h⟩ := h
    refine ⟨b17, e18, ?_⟩
    obtain ⟨b19, e20, h⟩ := h
    refine ⟨b19, e20, ?_⟩
    obtain ⟨b21, e22, h⟩ := h
    refine ⟨b21, e22, ?_⟩
    obtain ⟨c23, h⟩ := h
    refine ⟨c23, ?_⟩
    obtain ⟨b24, e25, h⟩ := h
    refine ⟨b24, e25, ?_⟩
    obtain ⟨c26, h⟩ := h
    refine ⟨c26, ?_⟩
    obtain ⟨c27, h⟩ := h
    refine ⟨c27, ?_⟩
    obtain ⟨b28, e29, h⟩ := h
    refine ⟨b28, e29, ?_⟩
    obtain ⟨b30, e31, h⟩ := h
    refine ⟨b30, e31, ?_⟩
    obtain ⟨c32, h⟩ := h
    refine ⟨c32, ?_⟩
    obtain ⟨b33, e34, h⟩ := h
    refine ⟨b33, e34, ?_⟩
    obtain ⟨c35, h⟩ := h
    refine ⟨c35, ?_⟩
    obtain ⟨c36, h⟩ := h
    refine ⟨c36, ?_⟩
    obtain ⟨b37, e38, h⟩ := h
    refine ⟨b37, e38, ?_⟩
    obtain ⟨c39, h⟩ := h
    refine ⟨c39, ?_⟩
    refine cm_X1_worstSpeed (kh_X1_worstSpeed h) h (fun x40 x41 hp h g42 => ?_)
    have h := h g42
    have K := kh_tr K hp.2
    obtain ⟨b43, e44, h⟩ := h
    refine ⟨b43, e44, ?_⟩
    obtain ⟨b45, e46, h⟩ := h
    refine ⟨b45, e46, ?_⟩
    obtain ⟨c47, h⟩ := h
    refine ⟨c47, ?_⟩
    obtain ⟨b48, e49, h⟩ := h
    refine ⟨b48, e49, ?_⟩
    obtain ⟨c50, h⟩ := h
    refine ⟨c50, ?_⟩
    obtain ⟨c51, h⟩ := h
    refine ⟨c51, ?_⟩
    obtain ⟨b52, e53, h⟩ := h
    refine ⟨b52, e53, ?_⟩
    obtain ⟨b54, e55, h⟩ := h
    refine ⟨b54, e55, ?_⟩
    obtain ⟨c56, h⟩ := h
    refine ⟨c56, ?_⟩
    obtain ⟨b57, e58, h⟩ := h
    refine ⟨b57, e58, ?_⟩
    obtain ⟨c59, h⟩ := h
    refine ⟨c59, ?_⟩
    obtain ⟨c60, h⟩ := h
    refine ⟨c60, ?_⟩
    obtain ⟨b61, e62, h⟩ := h
    refine ⟨b61, e62, ?_⟩
    obtain ⟨c63, h⟩ := h
    refine ⟨c63, ?_⟩
    refine cm_X1_leastWet (kh_X1_leastWet h) h (fun x64 x65 hp h g66 => ?_)
    have h := h g66
    have K := kh_tr K hp.2
    obtain ⟨b67, e68, h⟩ := h
    refine ⟨b67, e68, ?_⟩
    obtain ⟨b69, e70, h⟩ := h
    refine ⟨b69, e70, ?_⟩
    obtain ⟨c71, h⟩ := h
    refine ⟨c71, ?_⟩
    obtain ⟨b72, e73, h⟩ := h
    refine ⟨b72, e73, ?_⟩
    obtain ⟨c74, h⟩ := h
    refine ⟨c74, ?_⟩
    obtain ⟨c75, h⟩ := h
    refine ⟨c75, ?_⟩
    obtain ⟨b76, e77, h⟩ := h
    refine ⟨b76, e77, ?_⟩
    obtain ⟨b78, e79, h⟩ := h
    refine ⟨b78, e79, ?_⟩
    obtain ⟨c80, h⟩ := h
    refine ⟨c80, ?_⟩
    obtain ⟨b81, e82, h⟩ := h
    refine ⟨b81, e82, ?_⟩
    obtain ⟨c83, h⟩ := h
    refine ⟨c83, ?_⟩
    obtain ⟨c84, h⟩ := h
    refine ⟨c84, ?_⟩
    obtain ⟨b85, e86, h⟩ := h
    refine ⟨b85, e86, ?_⟩
    obtain ⟨c87, h⟩ := h
    refine ⟨c87, ?_⟩
    refine cm_X1_wetOf (kh_X1_wetOf h) h (fun x88 x89 hp h g90 => ?_)
    have h := h g90
    have K := kh_tr K hp.2
    refine ⟨?_, ?_⟩
    · intro c91
      have h := h.1 c91
      exact ⟨h, K⟩
    · intro c92
      have h := h.2 c92
      exact ⟨h, K⟩
  · intro c93
    have h := h.2 c93
    exact ⟨h, K⟩
theorem kh_X9_even {Q : Int32 → HS → Prop} {v0 : Nat} {v1 : Int32} {v2 : Int32} {v3 : Int32} {v4 : Int32} {S : HS} (h : P_X9_even v0 v1 v2 v3 v4 Q S) : P_X9_even v0 v1 v2 v3 v4 (fun r T => Q r T ∧ KH S T) S := kh_X9_even_0 h (kh_rf S)
set_option maxRecDepth 20000 in
set_option maxHeartbeats 1000000 in
theorem kh_X9_fraction_0 {Q : Int64 → HS → Prop} {v0 : Int64} {v2 : Int64} {v4 : Int32} {S0 S : HS} (h : P_X9_fraction_0 Q v0 v2 v4 S) (K : KH S0 S) : P_X9_fraction_0 (fun r T => Q r T ∧ KH S0 T) v0 v2 v4 S := by
  delta P_X9_fraction_0 at h ⊢
  refine cm_X9_commonDivisor (kh_X9_commonDivisor h) h (fun x1 x2 hp h g3 => ?_)
  have h := h g3
  have K := kh_tr K hp.2
  refine ⟨?_, ?_⟩
  · intro c4
    have h := h.1 c4
    refine ⟨?_, ?_⟩
    · intro c5
      have h := h.1 c5
      obtain ⟨c6, h⟩ := h
      refine ⟨c6, ?_⟩
      intro x8 e7
      have h := h x8 e7
      exact ⟨h, K⟩
    · intro c9
      have h := h.2 c9
      obtain ⟨c10, h⟩ := h
      refine ⟨c10, ?_⟩
      intro x12 e11
      have h := h x12 e11
      exact ⟨h, K⟩
  · intro c13
    have h := h.2 c13
    refine ⟨?_, ?_⟩
    · intro c14
      have h := h.1 c14
      exact ⟨h, K⟩
    · intro c15
      have h := h.2 c15
      exact ⟨h, K⟩
theorem kh_X9_fraction {Q : Int64 → HS → Prop} {v0 : Int64} {v2 : Int64} {v4 : Int32} {S : HS} (h : P_X9_fraction v0 v2 v4 Q S) : P_X9_fraction v0 v2 v4 (fun r T => Q r T ∧ KH S T) S := kh_X9_fraction_0 h (kh_rf S)
set_option maxRecDepth 20000 in
set_option maxHeartbeats 1000000 in
theorem kh_X9_isFace_0 {Q : Int32 → HS → Prop} {v0 : Int32} {S0 S : HS} (h : P_X9_isFace_0 Q v0 S) (K : KH S0 S) : P_X9_isFace_0 (fun r T => Q r T ∧ KH S0 T) v0 S := by
  delta P_X9_isFace_0 at h ⊢
  refine ⟨?_, ?_⟩
  · intro c1
    have h := h.1 c1
    exact ⟨h, K⟩
  · intro c2
    have h := h.2 c2
    refine ⟨?_, ?_⟩
    · intro c3
      have h := h.1 c3
      exact ⟨h, K⟩
    · intro c4
      have h := h.2 c4
      exact ⟨h, K⟩
theorem kh_X9_isFace {Q : Int32 → HS → Prop} {v0 : Int32} {S : HS} (h : P_X9_isFace v0 Q S) : P_X9_isFace v0 (fun r T => Q r T ∧ KH S T) S := kh_X9_isFace_0 h (kh_rf S)
set_option maxRecDepth 20000 in
set_option maxHeartbeats 1000000 in
theorem kh_X9_legTrouble_0 {Q : Int32 → HS → Prop} {v0 : Nat} {v1 : Int32} {v2 : Int32} {v3 : Int32} {v4 : Int32} {v5 : Int32} {S0 S : HS} (h : P_X9_legTrouble_0 Q v0 v1 v2 v3 v4 v5 S) (K : KH S0 S) : P_X9_legTrouble_0 (fun r T => Q r T ∧ KH S0 T) v0 v1 v2 v3 v4 v5 S := by
  delta P_X9_legTrouble_0 at h ⊢
  obtain ⟨c1, h⟩ := h
  refine ⟨c1, ?_⟩
  refine cm_X9_tripTrouble (kh_X9_tripTrouble h) h (fun x2 x3 hp h g4 => ?_)
  have h := h g4
  have K := kh_tr K hp.2
  refine ⟨?_, ?_⟩
  · intro c5
    have h := h.1 c5
    obtain ⟨b6, e7, h⟩ := h
    refine ⟨b6, e7, ?_⟩
    obtain ⟨c8, h⟩ := h
    refine ⟨c8, ?_⟩
    obtain ⟨b9, e10, h⟩ := h
    refine ⟨b9, e10, ?_⟩
    obtain ⟨c11, h⟩ := h
    refine ⟨c11, ?_⟩
    obtain ⟨c12, h⟩ := h
    refine ⟨c12, ?_⟩
    obtain ⟨b13, e14, h⟩ := h
    refine ⟨b13, e14, ?_⟩
    obtain ⟨c15, h⟩ := h
    refine ⟨c15, ?_⟩
    refine cm_X6_canGo (kh_X6_canGo h) h (fun x16 x17 hp h g18 g19 => ?_)
    have h := h g18 g19
    have K := kh_tr K hp.2
    refine ⟨?_, ?_⟩
    · intro c20
      have h := h.1 c20
      exact ⟨h, K⟩
    · intro c21
      have h := h.2 c21
      exact ⟨h, K⟩
  · intro c22
    have h := h.2 c22
    exact ⟨h, K⟩
theorem kh_X9_legTrouble {Q : Int32 → HS → Prop} {v0 : Nat} {v1 : Int32} {v2 : Int32} {v3 : Int32} {v4 : Int32} {v5 : Int32} {S : HS} (h : P_X9_legTrouble v0 v1 v2 v3 v4 v5 Q S) : P_X9_legTrouble v0 v1 v2 v3 v4 v5 (fun r T => Q r T ∧ KH S T) S := kh_X9_legTrouble_0 h (kh_rf S)
set_option maxRecDepth 20000 in
set_option maxHeartbeats 1000000 in
theorem kh_X9_face_23 {Q : Int64 → HS → Prop} {v0 : Nat} {v1 : Int32} {v2 : Int32} {v3 : Int32} {v4 : Int32} {v5 : Int32} {v6 : Int32} {v7 : Int32} {s0 : Int32} {S0 S : HS} (h : P_X9_face_23 Q v0 v1 v2 v3 v4 v5 v6 v7 s0 S) (K : KH S0 S) : P_X9_face_23 (fun r T => Q r T ∧ KH S0 T) v0 v1 v2 v3 v4 v5 v6 v7 s0 S := by
  delta P_X9_face_23 at h ⊢
  obtain ⟨c1, h⟩ := h
  refine ⟨c1, ?_⟩
  refine cm_X9_refusedBy (kh_X9_refusedBy h) h (fun x2 x3 hp h g4 g5 => ?_)
  have h := h g4 g5
  have K := kh_tr K hp.2
  refine ⟨?_, ?_⟩
  · intro c6
    have h := h.1 c6
    obtain ⟨b7, e8, h⟩ := h
    refine ⟨b7, e8, ?_⟩
    obtain ⟨b9, e10, h⟩ := h
    refine ⟨b9, e10, ?_⟩
    obtain ⟨c11, h⟩ := h
    refine ⟨c11, ?_⟩
    obtain ⟨b12, e13, h⟩ := h
    refine ⟨b12, e13, ?_⟩
    obtain ⟨c14, h⟩ := h
    refine ⟨c14, ?_⟩
    obtain ⟨c15, h⟩ := h
    refine ⟨c15, ?_⟩
    obtain ⟨b16, e17, h⟩ := h
    refine ⟨b16, e17, ?_⟩
    obtain ⟨b18, e19, h⟩ := h
    refine ⟨b18, e19, ?_⟩
    obtain ⟨c20, h⟩ := h
    refine ⟨c20, ?_⟩
    obtain ⟨b21, e22, h⟩ := h
    refine ⟨b21, e22, ?_⟩
    obtain ⟨c23, h⟩ := h
    refine ⟨c23, ?_⟩
    obtain ⟨c24, h⟩ := h
    refine ⟨c24, ?_⟩
    obtain ⟨b25, e26, h⟩ := h
    refine ⟨b25, e26, ?_⟩
    obtain ⟨b27, e28, h⟩ := h
    refine ⟨b27, e28, ?_⟩
    obtain ⟨c29, h⟩ := h
    refine ⟨c29, ?_⟩
    obtain ⟨b30, e31, h⟩ := h
    refine ⟨b30, e31, ?_⟩
    obtain ⟨c32, h⟩ := h
    refine ⟨c32, ?_⟩
    obtain ⟨c33, h⟩ := h
    refine ⟨c33, ?_⟩
    obtain ⟨b34, e35, h⟩ := h
    refine ⟨b34, e35, ?_⟩
    obtain ⟨c36, h⟩ := h
    refine ⟨c36, ?_⟩
    refine cm_X1_wetOf (kh_X1_wetOf h) h (fun x37 x38 hp h g39 => ?_)
    have h := h g39
    have K := kh_tr K hp.2
    obtain ⟨b40, e41, h⟩ := h
    refine ⟨b40, e41, ?_⟩
    obtain ⟨c42, h⟩ := h
    refine ⟨c42, ?_⟩
    obtain ⟨b43, e44, h⟩ := h
    refine ⟨b43, e44, ?_⟩
    obtain ⟨c45, h⟩ := h
    refine ⟨c45, ?_⟩
    obtain ⟨c46, h⟩ := h
    refine ⟨c46, ?_⟩
    intro x48 e47
    have h := h x48 e47
    refine cm_X9_fraction (kh_X9_fraction h) h (fun x49 x50 hp h g51 => ?_)
    have h := h g51
    have K := kh_tr K hp.2
    exact ⟨h, K⟩
  · intro c52
    have h := h.2 c52
    exact ⟨h, K⟩
set_option maxRecDepth 20000 in
set_option maxHeartbeats 1000000 in
theorem kh_X9_face_0 {Q : Int64 → HS → Prop} {v0 : Nat} {v1 : Int32} {v2 : Int32} {v3 : Int32} {v4 : Int32} {v5 : Int32} {v6 : Int32} {v7 : Int32} {S0 S : HS} (h : P_X9_face_0 Q v0 v1 v2 v3 v4 v5 v6 v7 S) (K : KH S0 S) : P_X9_face_0 (fun r T => Q r T ∧ KH S0 T) v0 v1 v2 v3 v4 v5 v6 v7 S := by
  delta P_X9_face_0 at h ⊢
  refine cm_X9_isFace (kh_X9_isFace h) h (fun x1 x2 hp h g3 g4 => ?_)
  have h := h g3 g4
  have K := kh_tr K hp.2
  refine ⟨?_, ?_⟩
  · intro c5
    have h := h.1 c5
    exact kh_X9_face_23 h K
  · intro c6
    have h := h.2 c6
    obtain ⟨c7, h⟩ := h
    refine ⟨c7, ?_⟩
    refine cm_X9_legTrouble (kh_X9_legTrouble h) h (fun x8 x9 hp h g10 => ?_)
    have h := h g10
    have K := kh_tr K hp.2
    exact kh_X9_face_23 h K
theorem kh_X9_face {Q : Int64 → HS → Prop} {v0 : Nat} {v1 : Int32} {v2 : Int32} {v3 : Int32} {v4 : Int32} {v5 : Int32} {v6 : Int32} {v7 : Int32} {S : HS} (h : P_X9_face v0 v1 v2 v3 v4 v5 v6 v7 Q S) : P_X9_face v0 v1 v2 v3 v4 v5 v6 v7 (fun r T => Q r T ∧ KH S T) S := kh_X9_face_0 h (kh_rf S)
set_option maxRecDepth 20000 in
set_option maxHeartbeats 1000000 in
theorem kh_X9_fault_0 {Q : Int32 → HS → Prop} {v0 : Nat} {S0 S : HS} (h : P_X9_fault_0 Q v0 S) (K : KH S0 S) : P_X9_fault_0 (fun r T => Q r T ∧ KH S0 T) v0 S := by
  delta P_X9_fault_0 at h ⊢
  obtain ⟨c1, h⟩ := h
  refine ⟨c1, ?_⟩
  intro x3 e2
  have h := h x3 e2
  exact ⟨h, K⟩
theorem kh_X9_fault {Q : Int32 → HS → Prop} {v0 : Nat} {S : HS} (h : P_X9_fault v0 Q S) : P_X9_fault v0 (fun r T => Q r T ∧ KH S T) S := kh_X9_fault_0 h (kh_rf S)
set_option maxRecDepth 20000 in
set_option maxHeartbeats 1000000 in
theorem kh_X9_putBytes_49 {Q : HS → Prop} {X3 X3_2 : Nat → Int32 → Int32 → HS → Prop} {v0 : Nat} {v1 : Int32} {v2 : Int32} {S0 S : HS} (h : P_X9_putBytes_49 Q X3 v0 v1 v2 S) (K : KH S0 S) (hX3 : ∀ (u0 : Nat) (u1 : Int32) (u2 : Int32) (u3 : HS), X3 u0 u1 u2 u3 → KH S0 u3 → X3_2 u0 u1 u2 u3) : P_X9_putBytes_49 (fun T => Q T ∧ KH S0 T) X3_2 v0 v1 v2 S := by
  delta P_X9_putBytes_49 at h ⊢
  intro x2 e1
  have h := h x2 e1
  exact hX3 _ _ _ _ h K
set_option maxRecDepth 20000 in
set_option maxHeartbeats 1000000 in
theorem khB_X9_putBytes_3 {Q : HS → Prop} {X3 X3_2 : Nat → Int32 → Int32 → HS → Prop} {v0 : Nat} {v1 : Int32} {v2 : Int32} {S0 S : HS} (h : B_X9_putBytes_3 Q X3 v0 v1 v2 S) (K : KH S0 S) (hX3 : ∀ (u0 : Nat) (u1 : Int32) (u2 : Int32) (u3 : HS), X3 u0 u1 u2 u3 → KH S0 u3 → X3_2 u0 u1 u2 u3) : B_X9_putBytes_3 (fun T => Q T ∧ KH S0 T) X3_2 v0 v1 v2 S := by
  delta B_X9_putBytes_3 at h ⊢
  refine ⟨?_, ?_⟩
  · intro c1
    have h := h.1 c1
    exact ⟨h, K⟩
  · intro c2
    have h := h.2 c2
    obtain ⟨c3, h⟩ := h
    refine ⟨c3, ?_⟩
    intro x5 e4
    have h := h x5 e4
    refine ⟨?_, ?_⟩
    · intro c6
      have h := h.1 c6
      exact kh_X9_putBytes_49 h K hX3
    · intro c7
      have h := h.2 c7
      intro x9 e8
      have h := h x9 e8
      obtain ⟨b10, e11, h⟩ := h
      refine ⟨b10, e11, ?_⟩
      obtain ⟨c12, h⟩ := h
      refine ⟨c12, ?_⟩
      refine ⟨?_, ?_⟩
      · intro c13
        have h := h.1 c13
        exact kh_X9_putBytes_49 h K hX3
      · intro c14
        have h := h.2 c14
        obtain ⟨b15, e16, h⟩ := h
        refine ⟨b15, e16, ?_⟩
        intro x18 e17
        have h := h x18 e17
        obtain ⟨c19, h⟩ := h
        refine ⟨c19, ?_⟩
        intro x21 e20
        have h := h x21 e20
        obtain ⟨c22, h⟩ := h
        refine ⟨c22, ?_⟩
        intro x24 e23
        have h := h x24 e23
        have K := kh_I K e23
        intro x26 e25
        have h := h x26 e25
        intro x28 e27
        have h := h x28 e27
        intro x30 e29
        have h := h x30 e29
        have K := kh_I K e29
        exact kh_X9_putBytes_49 h K hX3
theorem kh_X9_putBytes_3 {Q : HS → Prop} {v0 : Nat} {v1 : Int32} {v2 : Int32} {S0 S : HS} (h : P_X9_putBytes_3 Q v0 v1 v2 S) (K : KH S0 S) : P_X9_putBytes_3 (fun T => Q T ∧ KH S0 T) v0 v1 v2 S := h (fun v0 v1 v2 S => KH S0 S → P_X9_putBytes_3 (fun T => Q T ∧ KH S0 T) v0 v1 v2 S) (fun v0 v1 v2 S hB K => fd_X9_putBytes_3 (khB_X9_putBytes_3 hB K (fun _ _ _ _ hx K => hx K))) K
set_option maxRecDepth 20000 in
set_option maxHeartbeats 1000000 in
theorem kh_X9_putBytes_0 {Q : HS → Prop} {v0 : Nat} {v1 : Int32} {S0 S : HS} (h : P_X9_putBytes_0 Q v0 v1 S) (K : KH S0 S) : P_X9_putBytes_0 (fun T => Q T ∧ KH S0 T) v0 v1 S := by
  delta P_X9_putBytes_0 at h ⊢
  exact kh_X9_putBytes_3 h K
theorem kh_X9_putBytes {Q : HS → Prop} {v0 : Nat} {v1 : Int32} {S : HS} (h : P_X9_putBytes v0 v1 Q S) : P_X9_putBytes v0 v1 (fun T => Q T ∧ KH S T) S := kh_X9_putBytes_0 h (kh_rf S)
set_option maxRecDepth 20000 in
set_option maxHeartbeats 1000000 in
theorem kh_X9_feed_0 {Q : Int32 → HS → Prop} {v0 : Nat} {v1 : Int32} {v2 : Int32} {v3 : Int32} {v4 : Int32} {v5 : Int32} {S0 S : HS} (h : P_X9_feed_0 Q v0 v1 v2 v3 v4 v5 S) (K : KH S0 S) : P_X9_feed_0 (fun r T => Q r T ∧ KH S0 T) v0 v1 v2 v3 v4 v5 S := by
  delta P_X9_feed_0 at h ⊢
  obtain ⟨c1, h⟩ := h
  refine ⟨c1, ?_⟩
  intro x3 e2
  have h := h x3 e2
  refine ⟨?_, ?_⟩
  · intro c4
    have h := h.1 c4
    refine cm_X9_putBytes (kh_X9_putBytes h) h (fun x5 hp h g6 => ?_)
    have h := h g6
    have K := kh_tr K hp.2
    refine cm_X9_putBytes (kh_X9_putBytes h) h (fun x7 hp h g8 => ?_)
    have h := h g8
    have K := kh_tr K hp.2
    refine cm_X9_putBytes (kh_X9_putBytes h) h (fun x9 hp h g10 => ?_)
    have h := h g10
    have K := kh_tr K hp.2
    refine cm_X9_putBytes (kh_X9_putBytes h) h (fun x11 hp h g12 => ?_)
    have h := h g12
    have K := kh_tr K hp.2
    refine cm_X9_putBytes (kh_X9_putBytes h) h (fun x13 hp h g14 => ?_)
    have h := h g14
    have K := kh_tr K hp.2
    intro x16 e15
    have h := h x16 e15
    exact ⟨h, K⟩
  · intro c17
    have h := h.2 c17
    exact ⟨h, K⟩
theorem kh_X9_feed {Q : Int32 → HS → Prop} {v0 : Nat} {v1 : Int32} {v2 : Int32} {v3 : Int32} {v4 : Int32} {v5 : Int32} {S : HS} (h : P_X9_feed v0 v1 v2 v3 v4 v5 Q S) : P_X9_feed v0 v1 v2 v3 v4 v5 (fun r T => Q r T ∧ KH S T) S := kh_X9_feed_0 h (kh_rf S)
set_option maxRecDepth 20000 in
set_option maxHeartbeats 1000000 in
theorem kh_X9_leeTrouble_0 {Q : Int32 → HS → Prop} {v0 : Nat} {v1 : Int32} {v2 : Int32} {v3 : Int32} {v4 : Int32} {v5 : Int32} {v6 : Int32} {S0 S : HS} (h : P_X9_leeTrouble_0 Q v0 v1 v2 v3 v4 v5 v6 S) (K : KH S0 S) : P_X9_leeTrouble_0 (fun r T => Q r T ∧ KH S0 T) v0 v1 v2 v3 v4 v5 v6 S := by
  delta P_X9_leeTrouble_0 at h ⊢
  refine ⟨?_, ?_⟩
  · intro c1
    have h := h.1 c1
    exact ⟨h, K⟩
  · intro c2
    have h := h.2 c2
    obtain ⟨c3, h⟩ := h
    refine ⟨c3, ?_⟩
    obtain ⟨b4, e5, h⟩ := h
    refine ⟨b4, e5, ?_⟩
    obtain ⟨c6, h⟩ := h
    refine ⟨c6, ?_⟩
    refine cm_X8_hasWalker (kh_X8_hasWalker h) h (fun x7 x8 hp h g9 g10 => ?_)
    have h := h g9 g10
    have K := kh_tr K hp.2
    refine ⟨?_, ?_⟩
    · intro c11
      have h := h.1 c11
      exact ⟨h, K⟩
    · intro c12
      have h := h.2 c12
      obtain ⟨b13, e14, h⟩ := h
      refine ⟨b13, e14, ?_⟩
      obtain ⟨c15, h⟩ := h
      refine ⟨c15, ?_⟩
      refine cm_X8_hasWalker (kh_X8_hasWalker h) h (fun x16 x17 hp h g18 g19 => ?_)
      have h := h g18 g19
      have K := kh_tr K hp.2
      refine ⟨?_, ?_⟩
      · intro c20
        have h := h.1 c20
        refine cm_X9_legTrouble (kh_X9_legTrouble h) h (fun x21 x22 hp h g23 => ?_)
        have h := h g23
        have K := kh_tr K hp.2
        refine ⟨?_, ?_⟩
        · intro c24
          have h := h.1 c24
          obtain ⟨b25, e26, h⟩ := h
          refine ⟨b25, e26, ?_⟩
          obtain ⟨c27, h⟩ := h
          refine ⟨c27, ?_⟩
          obtain ⟨b28, e29, h⟩ := h
          refine ⟨b28, e29, ?_⟩
          obtain ⟨c30, h⟩ := h
          refine ⟨c30, ?_⟩
          obtain ⟨c31, h⟩ := h
          refine ⟨c31, ?_⟩
          obtain ⟨b32, e33, h⟩ := h
          refine ⟨b32, e33, ?_⟩
          obtain ⟨c34, h⟩ := h
          refine ⟨c34, ?_⟩
          refine cm_X6_canGo (kh_X6_canGo h) h (fun x35 x36 hp h g37 g38 => ?_)
          have h := h g37 g38
          have K := kh_tr K hp.2
          refine ⟨?_, ?_⟩
          · intro c39
            have h := h.1 c39
            exact ⟨h, K⟩
          · intro c40
            have h := h.2 c40
            exact ⟨h, K⟩
        · intro c41
          have h := h.2 c41
          exact ⟨h, K⟩
      · intro c42
        have h := h.2 c42
        exact ⟨h, K⟩
theorem kh_X9_leeTrouble {Q : Int32 → HS → Prop} {v0 : Nat} {v1 : Int32} {v2 : Int32} {v3 : Int32} {v4 : Int32} {v5 : Int32} {v6 : Int32} {S : HS} (h : P_X9_leeTrouble v0 v1 v2 v3 v4 v5 v6 Q S) : P_X9_leeTrouble v0 v1 v2 v3 v4 v5 v6 (fun r T => Q r T ∧ KH S T) S := kh_X9_leeTrouble_0 h (kh_rf S)
set_option maxRecDepth 20000 in
set_option maxHeartbeats 1000000 in
theorem kh_X9_first_0 {Q : Int32 → HS → Prop} {v0 : Nat} {v1 : Int32} {v2 : Int32} {v3 : Int32} {v4 : Int32} {v5 : Int32} {v6 : Int32} {S0 S : HS} (h : P_X9_first_0 Q v0 v1 v2 v3 v4 v5 v6 S) (K : KH S0 S) : P_X9_first_0 (fun r T => Q r T ∧ KH S0 T) v0 v1 v2 v3 v4 v5 v6 S := by
  delta P_X9_first_0 at h ⊢
  obtain ⟨c1, h⟩ := h
  refine ⟨c1, ?_⟩
  refine cm_X9_leeTrouble (kh_X9_leeTrouble h) h (fun x2 x3 hp h g4 => ?_)
  have h := h g4
  have K := kh_tr K hp.2
  refine cm_X9_refusedBy (kh_X9_refusedBy h) h (fun x5 x6 hp h g7 g8 => ?_)
  have h := h g7 g8
  have K := kh_tr K hp.2
  refine ⟨?_, ?_⟩
  · intro c9
    have h := h.1 c9
    obtain ⟨b10, e11, h⟩ := h
    refine ⟨b10, e11, ?_⟩
    obtain ⟨b12, e13, h⟩ := h
    refine ⟨b12, e13, ?_⟩
    obtain ⟨c14, h⟩ := h
    refine ⟨c14, ?_⟩
    obtain ⟨b15, e16, h⟩ := h
    refine ⟨b15, e16, ?_⟩
    obtain ⟨c17, h⟩ := h
    refine ⟨c17, ?_⟩
    obtain ⟨c18, h⟩ := h
    refine ⟨c18, ?_⟩
    obtain ⟨b19, e20, h⟩ := h
    refine ⟨b19, e20, ?_⟩
    obtain ⟨b21, e22, h⟩ := h
    refine ⟨b21, e22, ?_⟩
    obtain ⟨c23, h⟩ := h
    refine ⟨c23, ?_⟩
    obtain ⟨b24, e25, h⟩ := h
    refine ⟨b24, e25, ?_⟩
    obtain ⟨c26, h⟩ := h
    refine ⟨c26, ?_⟩
    obtain ⟨c27, h⟩ := h
    refine ⟨c27, ?_⟩
    obtain ⟨b28, e29, h⟩ := h
    refine ⟨b28, e29, ?_⟩
    obtain ⟨c30, h⟩ := h
    refine ⟨c30, ?_⟩
    refine cm_X1_lay (kh_X1_lay h) h (fun x31 hp h g32 => ?_)
    have h := h g32
    have K := kh_tr K hp.2
    obtain ⟨b33, e34, h⟩ := h
    refine ⟨b33, e34, ?_⟩
    obtain ⟨b35, e36, h⟩ := h
    refine ⟨b35, e36, ?_⟩
    obtain ⟨c37, h⟩ := h
    refine ⟨c37, ?_⟩
    obtain ⟨b38, e39, h⟩ := h
    refine ⟨b38, e39, ?_⟩
    obtain ⟨c40, h⟩ := h
    refine ⟨c40, ?_⟩
    obtain ⟨c41, h⟩ := h
    refine ⟨c41, ?_⟩
    obtain ⟨b42, e43, h⟩ := h
    refine ⟨b42, e43, ?_⟩
    obtain ⟨b44, e45, h⟩ := h
    refine ⟨b44, e45, ?_⟩
    obtain ⟨c46, h⟩ := h
    refine ⟨c46, ?_⟩
    obtain ⟨b47, e48, h⟩ := h
    refine ⟨b47, e48, ?_⟩
    obtain ⟨c49, h⟩ := h
    refine ⟨c49, ?_⟩
    obtain ⟨c50, h⟩ := h
    refine ⟨c50, ?_⟩
    obtain ⟨b51, e52, h⟩ := h
    refine ⟨b51, e52, ?_⟩
    obtain ⟨c53, h⟩ := h
    refine ⟨c53, ?_⟩
    refine cm_X1_wetInLee (kh_X1_wetInLee h) h (fun x54 x55 hp h g56 => ?_)
    have h := h g56
    have K := kh_tr K hp.2
    obtain ⟨b57, e58, h⟩ := h
    refine ⟨b57, e58, ?_⟩
    obtain ⟨b59, e60, h⟩ := h
    refine ⟨b59, e60, ?_⟩
    obtain ⟨c61, h⟩ := h
    refine ⟨c61, ?_⟩
    obtain ⟨b62, e63, h⟩ := h
    refine ⟨b62, e63, ?_⟩
    obtain ⟨c64, h⟩ := h
    refine ⟨c64, ?_⟩
    obtain ⟨c65, h⟩ := h
    refine ⟨c65, ?_⟩
    obtain ⟨b66, e67, h⟩ := h
    refine ⟨b66, e67, ?_⟩
    obtain ⟨b68, e69, h⟩ := h
    refine ⟨b68, e69, ?_⟩
    obtain ⟨c70, h⟩ := h
    refine ⟨c70, ?_⟩
    obtain ⟨b71, e72, h⟩ := h
    refine ⟨b71, e72, ?_⟩
    obtain ⟨c73, h⟩ := h
    refine ⟨c73, ?_⟩
    obtain ⟨c74, h⟩ := h
    refine ⟨c74, ?_⟩
    obtain ⟨b75, e76, h⟩ := h
    refine ⟨b75, e76, ?_⟩
    obtain ⟨c77, h⟩ := h
    refine ⟨c77, ?_⟩
    refine cm_X1_wetInLee (kh_X1_wetInLee h) h (fun x78 x79 hp h g80 => ?_)
    have h := h g80
    have K := kh_tr K hp.2
    refine ⟨?_, ?_⟩
    · intro c81
      have h := h.1 c81
      refine ⟨?_, ?_⟩
      · intro c82
        have h := h.1 c82
        exact ⟨h, K⟩
      · intro c83
        have h := h.2 c83
        exact ⟨h, K⟩
    · intro c84
      have h := h.2 c84
      exact ⟨h, K⟩
  · intro c85
    have h := h.2 c85
    exact ⟨h, K⟩
theorem kh_X9_first {Q : Int32 → HS → Prop} {v0 : Nat} {v1 : Int32} {v2 : Int32} {v3 : Int32} {v4 : Int32} {v5 : Int32} {v6 : Int32} {S : HS} (h : P_X9_first v0 v1 v2 v3 v4 v5 v6 Q S) : P_X9_first v0 v1 v2 v3 v4 v5 v6 (fun r T => Q r T ∧ KH S T) S := kh_X9_first_0 h (kh_rf S)
set_option maxRecDepth 20000 in
set_option maxHeartbeats 1000000 in
theorem kh_X9_fit_15 {Q : Int32 → HS → Prop} {v0 : Nat} {S0 S : HS} (h : P_X9_fit_15 Q v0 S) (K : KH S0 S) : P_X9_fit_15 (fun r T => Q r T ∧ KH S0 T) v0 S := by
  delta P_X9_fit_15 at h ⊢
  obtain ⟨c1, h⟩ := h
  refine ⟨c1, ?_⟩
  refine cm_X9_refuse (kh_X9_refuse h) h (fun x2 x3 hp h g4 => ?_)
  have h := h g4
  have K := kh_tr K hp.2
  exact ⟨h, K⟩
set_option maxRecDepth 20000 in
set_option maxHeartbeats 1000000 in
theorem kh_X9_fit_0 {Q : Int32 → HS → Prop} {v0 : Nat} {v1 : Int32} {v2 : Int32} {S0 S : HS} (h : P_X9_fit_0 Q v0 v1 v2 S) (K : KH S0 S) : P_X9_fit_0 (fun r T => Q r T ∧ KH S0 T) v0 v1 v2 S := by
  delta P_X9_fit_0 at h ⊢
  obtain ⟨c1, h⟩ := h
  refine ⟨c1, ?_⟩
  obtain ⟨b2, e3, h⟩ := h
  refine ⟨b2, e3, ?_⟩
  obtain ⟨c4, h⟩ := h
  refine ⟨c4, ?_⟩
  refine cm_X8_hasSeen (kh_X8_hasSeen h) h (fun x5 x6 hp h g7 g8 => ?_)
  have h := h g7 g8
  have K := kh_tr K hp.2
  refine ⟨?_, ?_⟩
  · intro c9
    have h := h.1 c9
    exact kh_X9_fit_15 h K
  · intro c10
    have h := h.2 c10
    refine ⟨?_, ?_⟩
    · intro c11
      have h := h.1 c11
      obtain ⟨b12, e13, h⟩ := h
      refine ⟨b12, e13, ?_⟩
      obtain ⟨b14, e15, h⟩ := h
      refine ⟨b14, e15, ?_⟩
      obtain ⟨c16, h⟩ := h
      refine ⟨c16, ?_⟩
      refine cm_X1_findFit (kh_X1_findFit h) h (fun x17 x18 hp h g19 => ?_)
      have h := h g19
      have K := kh_tr K hp.2
      refine ⟨?_, ?_⟩
      · intro c20
        have h := h.1 c20
        refine cm_X9_grant (kh_X9_grant h) h (fun x21 x22 hp h g23 => ?_)
        have h := h g23
        have K := kh_tr K hp.2
        exact ⟨h, K⟩
      · intro c24
        have h := h.2 c24
        refine cm_X9_refuse (kh_X9_refuse h) h (fun x25 x26 hp h g27 => ?_)
        have h := h g27
        have K := kh_tr K hp.2
        exact ⟨h, K⟩
    · intro c28
      have h := h.2 c28
      exact kh_X9_fit_15 h K
theorem kh_X9_fit {Q : Int32 → HS → Prop} {v0 : Nat} {v1 : Int32} {v2 : Int32} {S : HS} (h : P_X9_fit v0 v1 v2 Q S) : P_X9_fit v0 v1 v2 (fun r T => Q r T ∧ KH S T) S := kh_X9_fit_0 h (kh_rf S)
set_option maxRecDepth 20000 in
set_option maxHeartbeats 1000000 in
theorem kh_X9_fits_0 {Q : Int32 → HS → Prop} {v0 : Nat} {v1 : Int32} {S0 S : HS} (h : P_X9_fits_0 Q v0 v1 S) (K : KH S0 S) : P_X9_fits_0 (fun r T => Q r T ∧ KH S0 T) v0 v1 S := by
  delta P_X9_fits_0 at h ⊢
  obtain ⟨c1, h⟩ := h
  refine ⟨c1, ?_⟩
  obtain ⟨b2, e3, h⟩ := h
  refine ⟨b2, e3, ?_⟩
  obtain ⟨c4, h⟩ := h
  refine ⟨c4, ?_⟩
  refine cm_X8_hasSeen (kh_X8_hasSeen h) h (fun x5 x6 hp h g7 g8 => ?_)
  have h := h g7 g8
  have K := kh_tr K hp.2
  refine ⟨?_, ?_⟩
  · intro c9
    have h := h.1 c9
    obtain ⟨b10, e11, h⟩ := h
    refine ⟨b10, e11, ?_⟩
    obtain ⟨b12, e13, h⟩ := h
    refine ⟨b12, e13, ?_⟩
    obtain ⟨c14, h⟩ := h
    refine ⟨c14, ?_⟩
    refine cm_X1_countFits (kh_X1_countFits h) h (fun x15 x16 hp h g17 => ?_)
    have h := h g17
    have K := kh_tr K hp.2
    refine cm_X9_grant (kh_X9_grant h) h (fun x18 x19 hp h g20 => ?_)
    have h := h g20
    have K := kh_tr K hp.2
    exact ⟨h, K⟩
  · intro c21
    have h := h.2 c21
    refine cm_X9_refuse (kh_X9_refuse h) h (fun x22 x23 hp h g24 => ?_)
    have h := h g24
    have K := kh_tr K hp.2
    exact ⟨h, K⟩
theorem kh_X9_fits {Q : Int32 → HS → Prop} {v0 : Nat} {v1 : Int32} {S : HS} (h : P_X9_fits v0 v1 Q S) : P_X9_fits v0 v1 (fun r T => Q r T ∧ KH S T) S := kh_X9_fits_0 h (kh_rf S)
set_option maxRecDepth 20000 in
set_option maxHeartbeats 1000000 in
theorem kh_X9_go_45 {Q : Int32 → HS → Prop} {v0 : Nat} {S0 S : HS} (h : P_X9_go_45 Q v0 S) (K : KH S0 S) : P_X9_go_45 (fun r T => Q r T ∧ KH S0 T) v0 S := by
  delta P_X9_go_45 at h ⊢
  obtain ⟨c1, h⟩ := h
  refine ⟨c1, ?_⟩
  refine cm_X9_refuse (kh_X9_refuse h) h (fun x2 x3 hp h g4 => ?_)
  have h := h g4
  have K := kh_tr K hp.2
  exact ⟨h, K⟩
set_option maxRecDepth 20000 in
set_option maxHeartbeats 1000000 in
theorem kh_X9_go_243 {Q : Int32 → HS → Prop} {v0 : Nat} {v2 : Int32} {v5 : Nat} {v6 : Int32} {S0 S : HS} (h : P_X9_go_243 Q v0 v2 v5 v6 S) (K : KH S0 S) : P_X9_go_243 (fun r T => Q r T ∧ KH S0 T) v0 v2 v5 v6 S := by
  delta P_X9_go_243 at h ⊢
  obtain ⟨c1, h⟩ := h
  refine ⟨c1, ?_⟩
  obtain ⟨b2, e3, h⟩ := h
  refine ⟨b2, e3, ?_⟩
  obtain ⟨c4, h⟩ := h
  refine ⟨c4, ?_⟩
  obtain ⟨b5, e6, h⟩ := h
  refine ⟨b5, e6, ?_⟩
  obtain ⟨c7, h⟩ := h
  refine ⟨c7, ?_⟩
  refine cm_X5_endOf (kh_X5_endOf h) h (fun x8 x9 hp h g10 => ?_)
  have h := h g10
  have K := kh_tr K hp.2
  obtain ⟨c11, h⟩ := h
  refine ⟨c11, ?_⟩
  intro x13 e12
  have h := h x13 e12
  have K := kh_I K e12
  obtain ⟨b14, e15, h⟩ := h
  refine ⟨b14, e15, ?_⟩
  obtain ⟨c16, h⟩ := h
  refine ⟨c16, ?_⟩
  obtain ⟨b17, e18, h⟩ := h
  refine ⟨b17, e18, ?_⟩
  obtain ⟨c19, h⟩ := h
  refine ⟨c19, ?_⟩
  intro x21 e20
  have h := h x21 e20
  have K := kh_I K e20
  refine cm_X9_grant (kh_X9_grant h) h (fun x22 x23 hp h g24 => ?_)
  have h := h g24
  have K := kh_tr K hp.2
  exact ⟨h, K⟩
set_option maxRecDepth 20000 in
set_option maxHeartbeats 1000000 in
theorem kh_X9_go_0 {Q : Int32 → HS → Prop} {v0 : Nat} {v1 : Int32} {v2 : Int32} {v3 : Int32} {S0 S : HS} (h : P_X9_go_0 Q v0 v1 v2 v3 S) (K : KH S0 S) : P_X9_go_0 (fun r T => Q r T ∧ KH S0 T) v0 v1 v2 v3 S := by
  delta P_X9_go_0 at h ⊢
  obtain ⟨c1, h⟩ := h
  refine ⟨c1, ?_⟩
  obtain ⟨b2, e3, h⟩ := h
  refine ⟨b2, e3, ?_⟩
  obtain ⟨c4, h⟩ := h
  refine ⟨c4, ?_⟩
  refine cm_X0_isOn (kh_X0_isOn h) h (fun x5 x6 hp h g7 g8 => ?_)
  have h := h g7 g8
  have K := kh_tr K hp.2
  refine ⟨?_, ?_⟩
  · intro c9
    have h := h.1 c9
    exact kh_X9_go_45 h K
  · intro c10
    have h := h.2 c10
    obtain ⟨b11, e12, h⟩ := h
    refine ⟨b11, e12, ?_⟩
    obtain ⟨b13, e14, h⟩ := h
    refine ⟨b13, e14, ?_⟩
    obtain ⟨c15, h⟩ := h
    refine ⟨c15, ?_⟩
    intro x17 e16
    have h := h x17 e16
    obtain ⟨c18, h⟩ := h
    refine ⟨c18, ?_⟩
    refine cm_X8_hasWalker (kh_X8_hasWalker h) h (fun x19 x20 hp h g21 g22 => ?_)
    have h := h g21 g22
    have K := kh_tr K hp.2
    refine ⟨?_, ?_⟩
    · intro c23
      have h := h.1 c23
      exact kh_X9_go_45 h K
    · intro c24
      have h := h.2 c24
      obtain ⟨b25, e26, h⟩ := h
      refine ⟨b25, e26, ?_⟩
      obtain ⟨c27, h⟩ := h
      refine ⟨c27, ?_⟩
      refine cm_X8_hasRoad (kh_X8_hasRoad h) h (fun x28 x29 hp h g30 g31 => ?_)
      have h := h g30 g31
      have K := kh_tr K hp.2
      refine ⟨?_, ?_⟩
      · intro c32
        have h := h.1 c32
        exact kh_X9_go_45 h K
      · intro c33
        have h := h.2 c33
        refine cm_X9_isWay (kh_X9_isWay h) h (fun x34 x35 hp h g36 g37 => ?_)
        have h := h g36 g37
        have K := kh_tr K hp.2
        refine ⟨?_, ?_⟩
        · intro c38
          have h := h.1 c38
          obtain ⟨b39, e40, h⟩ := h
          refine ⟨b39, e40, ?_⟩
          obtain ⟨c41, h⟩ := h
          refine ⟨c41, ?_⟩
          obtain ⟨b42, e43, h⟩ := h
          refine ⟨b42, e43, ?_⟩
          obtain ⟨b44, e45, h⟩ := h
          refine ⟨b44, e45, ?_⟩
          obtain ⟨c46, h⟩ := h
          refine ⟨c46, ?_⟩
          intro x48 e47
          have h := h x48 e47
          obtain ⟨c49, h⟩ := h
          refine ⟨c49, ?_⟩
          obtain ⟨c50, h⟩ := h
          refine ⟨c50, ?_⟩
          obtain ⟨b51, e52, h⟩ := h
          refine ⟨b51, e52, ?_⟩
          obtain ⟨b53, e54, h⟩ := h
          refine ⟨b53, e54, ?_⟩
          obtain ⟨c55, h⟩ := h
          refine ⟨c55, ?_⟩
          obtain ⟨b56, e57, h⟩ := h
          refine ⟨b56, e57, ?_⟩
          obtain ⟨c58, h⟩ := h
          refine ⟨c58, ?_⟩
          obtain ⟨c59, h⟩ := h
          refine ⟨c59, ?_⟩
          obtain ⟨b60, e61, h⟩ := h
          refine ⟨b60, e61, ?_⟩
          obtain ⟨c62, h⟩ := h
          refine ⟨c62, ?_⟩
          refine cm_X6_canGo (kh_X6_canGo h) h (fun x63 x64 hp h g65 g66 => ?_)
          have h := h g65 g66
          have K := kh_tr K hp.2
          refine ⟨?_, ?_⟩
          · intro c67
            have h := h.1 c67
            obtain ⟨c68, h⟩ := h
            refine ⟨c68, ?_⟩
            refine cm_X5_startOf (kh_X5_startOf h) h (fun x69 x70 hp h g71 => ?_)
            have h := h g71
            have K := kh_tr K hp.2
            obtain ⟨b72, e73, h⟩ := h
            refine ⟨b72, e73, ?_⟩
            obtain ⟨c74, h⟩ := h
            refine ⟨c74, ?_⟩
            obtain ⟨b75, e76, h⟩ := h
            refine ⟨b75, e76, ?_⟩
            obtain ⟨c77, h⟩ := h
            refine ⟨c77, ?_⟩
            intro x79 e78
            have h := h x79 e78
            refine ⟨?_, ?_⟩
            · intro c80
              have h := h.1 c80
              obtain ⟨b81, e82, h⟩ := h
              refine ⟨b81, e82, ?_⟩
              obtain ⟨c83, h⟩ := h
              refine ⟨c83, ?_⟩
              obtain ⟨b84, e85, h⟩ := h
              refine ⟨b84, e85, ?_⟩
              obtain ⟨c86, h⟩ := h
              refine ⟨c86, ?_⟩
              intro x88 e87
              have h := h x88 e87
              refine cm_X5_minutesAt (kh_X5_minutesAt h) h (fun x89 x90 hp h g91 => ?_)
              have h := h g91
              have K := kh_tr K hp.2
              intro x93 e92
              have h := h x93 e92
              refine ⟨?_, ?_⟩
              · intro c94
                have h := h.1 c94
                obtain ⟨b95, e96, h⟩ := h
                refine ⟨b95, e96, ?_⟩
                obtain ⟨c97, h⟩ := h
                refine ⟨c97, ?_⟩
                refine cm_X0_keepForUndo (kh_X0_keepForUndo h) h (fun x98 hp h g99 => ?_)
                have h := h g99
                have K := kh_tr K hp.2
                obtain ⟨b100, e101, h⟩ := h
                refine ⟨b100, e101, ?_⟩
                obtain ⟨b102, e103, h⟩ := h
                refine ⟨b102, e103, ?_⟩
                obtain ⟨c104, h⟩ := h
                refine ⟨c104, ?_⟩
                obtain ⟨b105, e106, h⟩ := h
                refine ⟨b105, e106, ?_⟩
                obtain ⟨c107, h⟩ := h
                refine ⟨c107, ?_⟩
                intro x109 e108
                have h := h x109 e108
                obtain ⟨c110, h⟩ := h
                refine ⟨c110, ?_⟩
                refine cm_X8_hourOf (kh_X8_hourOf h) h (fun x111 x112 hp h g113 => ?_)
                have h := h g113
                have K := kh_tr K hp.2
                obtain ⟨b114, e115, h⟩ := h
                refine ⟨b114, e115, ?_⟩
                obtain ⟨c116, h⟩ := h
                refine ⟨c116, ?_⟩
                refine cm_X8_hasHour (kh_X8_hasHour h) h (fun x117 x118 hp h g119 g120 => ?_)
                have h := h g119 g120
                have K := kh_tr K hp.2
                refine ⟨?_, ?_⟩
                · intro c121
                  have h := h.1 c121
                  exact kh_X9_go_243 h K
                · intro c122
                  have h := h.2 c122
                  obtain ⟨b123, e124, h⟩ := h
                  refine ⟨b123, e124, ?_⟩
                  obtain ⟨c125, h⟩ := h
                  refine ⟨c125, ?_⟩
                  refine cm_X0_rainsIn (kh_X0_rainsIn h) h (fun x126 x127 hp h g128 g129 => ?_)
                  have h := h g128 g129
                  have K := kh_tr K hp.2
                  refine ⟨?_, ?_⟩
                  · intro c130
                    have h := h.1 c130
                    exact kh_X9_go_243 h K
                  · intro c131
                    have h := h.2 c131
                    obtain ⟨b132, e133, h⟩ := h
                    refine ⟨b132, e133, ?_⟩
                    obtain ⟨b134, e135, h⟩ := h
                    refine ⟨b134, e135, ?_⟩
                    obtain ⟨c136, h⟩ := h
                    refine ⟨c136, ?_⟩
                    obtain ⟨b137, e138, h⟩ := h
                    refine ⟨b137, e138, ?_⟩
                    obtain ⟨c139, h⟩ := h
                    refine ⟨c139, ?_⟩
                    obtain ⟨c140, h⟩ := h
                    refine ⟨c140, ?_⟩
                    obtain ⟨b141, e142, h⟩ := h
                    refine ⟨b141, e142, ?_⟩
                    obtain ⟨c143, h⟩ := h
                    refine ⟨c143, ?_⟩
                    refine cm_X1_wetOf (kh_X1_wetOf h) h (fun x144 x145 hp h g146 => ?_)
                    have h := h g146
                    have K := kh_tr K hp.2
                    obtain ⟨b147, e148, h⟩ := h
                    refine ⟨b147, e148, ?_⟩
                    obtain ⟨c149, h⟩ := h
                    refine ⟨c149, ?_⟩
                    obtain ⟨b150, e151, h⟩ := h
                    refine ⟨b150, e151, ?_⟩
                    obtain ⟨b152, e153, h⟩ := h
                    refine ⟨b152, e153, ?_⟩
                    obtain ⟨c154, h⟩ := h
                    refine ⟨c154, ?_⟩
                    obtain ⟨b155, e156, h⟩ := h
                    refine ⟨b155, e156, ?_⟩
                    obtain ⟨c157, h⟩ := h
                    refine ⟨c157, ?_⟩
                    refine cm_X2_addFaces (kh_X2_addFaces h) h (fun x158 hp h g159 => ?_)
                    have h := h g159
                    have K := kh_tr K hp.2
                    exact kh_X9_go_243 h K
              · intro c160
                have h := h.2 c160
                refine cm_X9_refuse (kh_X9_refuse h) h (fun x161 x162 hp h g163 => ?_)
                have h := h g163
                have K := kh_tr K hp.2
                exact ⟨h, K⟩
            · intro c164
              have h := h.2 c164
              refine cm_X9_refuse (kh_X9_refuse h) h (fun x165 x166 hp h g167 => ?_)
              have h := h g167
              have K := kh_tr K hp.2
              exact ⟨h, K⟩
          · intro c168
            have h := h.2 c168
            refine cm_X9_refuse (kh_X9_refuse h) h (fun x169 x170 hp h g171 => ?_)
            have h := h g171
            have K := kh_tr K hp.2
            exact ⟨h, K⟩
        · intro c172
          have h := h.2 c172
          exact kh_X9_go_45 h K
theorem kh_X9_go {Q : Int32 → HS → Prop} {v0 : Nat} {v1 : Int32} {v2 : Int32} {v3 : Int32} {S : HS} (h : P_X9_go v0 v1 v2 v3 Q S) : P_X9_go v0 v1 v2 v3 (fun r T => Q r T ∧ KH S T) S := kh_X9_go_0 h (kh_rf S)
set_option maxRecDepth 20000 in
set_option maxHeartbeats 1000000 in
theorem kh_X9_got_17 {Q : Int64 → HS → Prop} {v0 : Nat} {S0 S : HS} (h : P_X9_got_17 Q v0 S) (K : KH S0 S) : P_X9_got_17 (fun r T => Q r T ∧ KH S0 T) v0 S := by
  delta P_X9_got_17 at h ⊢
  obtain ⟨c1, h⟩ := h
  refine ⟨c1, ?_⟩
  refine cm_X9_refuse (kh_X9_refuse h) h (fun x2 x3 hp h g4 => ?_)
  have h := h g4
  have K := kh_tr K hp.2
  exact ⟨h, K⟩
set_option maxRecDepth 20000 in
set_option maxHeartbeats 1000000 in
theorem kh_X9_got_0 {Q : Int64 → HS → Prop} {v0 : Nat} {v1 : Int32} {v2 : Int32} {S0 S : HS} (h : P_X9_got_0 Q v0 v1 v2 S) (K : KH S0 S) : P_X9_got_0 (fun r T => Q r T ∧ KH S0 T) v0 v1 v2 S := by
  delta P_X9_got_0 at h ⊢
  obtain ⟨c1, h⟩ := h
  refine ⟨c1, ?_⟩
  obtain ⟨b2, e3, h⟩ := h
  refine ⟨b2, e3, ?_⟩
  obtain ⟨c4, h⟩ := h
  refine ⟨c4, ?_⟩
  refine cm_X0_isOn (kh_X0_isOn h) h (fun x5 x6 hp h g7 g8 => ?_)
  have h := h g7 g8
  have K := kh_tr K hp.2
  refine ⟨?_, ?_⟩
  · intro c9
    have h := h.1 c9
    exact kh_X9_got_17 h K
  · intro c10
    have h := h.2 c10
    refine cm_X9_isFace (kh_X9_isFace h) h (fun x11 x12 hp h g13 g14 => ?_)
    have h := h g13 g14
    have K := kh_tr K hp.2
    refine ⟨?_, ?_⟩
    · intro c15
      have h := h.1 c15
      intro x17 e16
      have h := h x17 e16
      have K := kh_I K e16
      obtain ⟨b18, e19, h⟩ := h
      refine ⟨b18, e19, ?_⟩
      obtain ⟨c20, h⟩ := h
      refine ⟨c20, ?_⟩
      obtain ⟨b21, e22, h⟩ := h
      refine ⟨b21, e22, ?_⟩
      obtain ⟨c23, h⟩ := h
      refine ⟨c23, ?_⟩
      obtain ⟨b24, e25, h⟩ := h
      refine ⟨b24, e25, ?_⟩
      obtain ⟨c26, h⟩ := h
      refine ⟨c26, ?_⟩
      obtain ⟨c27, h⟩ := h
      refine ⟨c27, ?_⟩
      intro x29 e28
      have h := h x29 e28
      refine cm_X9_fraction (kh_X9_fraction h) h (fun x30 x31 hp h g32 => ?_)
      have h := h g32
      have K := kh_tr K hp.2
      exact ⟨h, K⟩
    · intro c33
      have h := h.2 c33
      exact kh_X9_got_17 h K
theorem kh_X9_got {Q : Int64 → HS → Prop} {v0 : Nat} {v1 : Int32} {v2 : Int32} {S : HS} (h : P_X9_got v0 v1 v2 Q S) : P_X9_got v0 v1 v2 (fun r T => Q r T ∧ KH S T) S := kh_X9_got_0 h (kh_rf S)
set_option maxRecDepth 20000 in
set_option maxHeartbeats 1000000 in
theorem kh_X9_held_0 {Q : Int32 → HS → Prop} {v0 : Nat} {v1 : Int32} {v2 : Int32} {v3 : Int32} {v4 : Int32} {v5 : Int32} {S0 S : HS} (h : P_X9_held_0 Q v0 v1 v2 v3 v4 v5 S) (K : KH S0 S) : P_X9_held_0 (fun r T => Q r T ∧ KH S0 T) v0 v1 v2 v3 v4 v5 S := by
  delta P_X9_held_0 at h ⊢
  obtain ⟨c1, h⟩ := h
  refine ⟨c1, ?_⟩
  refine cm_X9_legTrouble (kh_X9_legTrouble h) h (fun x2 x3 hp h g4 => ?_)
  have h := h g4
  have K := kh_tr K hp.2
  refine cm_X9_refusedBy (kh_X9_refusedBy h) h (fun x5 x6 hp h g7 g8 => ?_)
  have h := h g7 g8
  have K := kh_tr K hp.2
  refine ⟨?_, ?_⟩
  · intro c9
    have h := h.1 c9
    obtain ⟨b10, e11, h⟩ := h
    refine ⟨b10, e11, ?_⟩
    obtain ⟨c12, h⟩ := h
    refine ⟨c12, ?_⟩
    obtain ⟨b13, e14, h⟩ := h
    refine ⟨b13, e14, ?_⟩
    obtain ⟨c15, h⟩ := h
    refine ⟨c15, ?_⟩
    obtain ⟨c16, h⟩ := h
    refine ⟨c16, ?_⟩
    obtain ⟨b17, e18, h⟩ := h
    refine ⟨b17, e18, ?_⟩
    obtain ⟨c19, h⟩ := h
    refine ⟨c19, ?_⟩
    intro x21 e20
    have h := h x21 e20
    refine ⟨?_, ?_⟩
    · intro c22
      have h := h.1 c22
      obtain ⟨b23, e24, h⟩ := h
      refine ⟨b23, e24, ?_⟩
      obtain ⟨b25, e26, h⟩ := h
      refine ⟨b25, e26, ?_⟩
      obtain ⟨c27, h⟩ := h
      refine ⟨c27, ?_⟩
      obtain ⟨b28, e29, h⟩ := h
      refine ⟨b28, e29, ?_⟩
      obtain ⟨c30, h⟩ := h
      refine ⟨c30, ?_⟩
      obtain ⟨c31, h⟩ := h
      refine ⟨c31, ?_⟩
      obtain ⟨b32, e33, h⟩ := h
      refine ⟨b32, e33, ?_⟩
      obtain ⟨b34, e35, h⟩ := h
      refine ⟨b34, e35, ?_⟩
      obtain ⟨c36, h⟩ := h
      refine ⟨c36, ?_⟩
      obtain ⟨b37, e38, h⟩ := h
      refine ⟨b37, e38, ?_⟩
      obtain ⟨c39, h⟩ := h
      refine ⟨c39, ?_⟩
      obtain ⟨c40, h⟩ := h
      refine ⟨c40, ?_⟩
      obtain ⟨b41, e42, h⟩ := h
      refine ⟨b41, e42, ?_⟩
      obtain ⟨c43, h⟩ := h
      refine ⟨c43, ?_⟩
      refine cm_X1_lay (kh_X1_lay h) h (fun x44 hp h g45 => ?_)
      have h := h g45
      have K := kh_tr K hp.2
      obtain ⟨b46, e47, h⟩ := h
      refine ⟨b46, e47, ?_⟩
      obtain ⟨b48, e49, h⟩ := h
      refine ⟨b48, e49, ?_⟩
      obtain ⟨c50, h⟩ := h
      refine ⟨c50, ?_⟩
      obtain ⟨b51, e52, h⟩ := h
      refine ⟨b51, e52, ?_⟩
      obtain ⟨c53, h⟩ := h
      refine ⟨c53, ?_⟩
      obtain ⟨c54, h⟩ := h
      refine ⟨c54, ?_⟩
      obtain ⟨b55, e56, h⟩ := h
      refine ⟨b55, e56, ?_⟩
      obtain ⟨c57, h⟩ := h
      refine ⟨c57, ?_⟩
      refine cm_X1_isForward (kh_X1_isForward h) h (fun x58 x59 hp h g60 g61 => ?_)
      have h := h g60 g61
      have K := kh_tr K hp.2
      refine ⟨?_, ?_⟩
      · intro c62
        have h := h.1 c62
        exact ⟨h, K⟩
      · intro c63
        have h := h.2 c63
        exact ⟨h, K⟩
    · intro c64
      have h := h.2 c64
      exact ⟨h, K⟩
  · intro c65
    have h := h.2 c65
    exact ⟨h, K⟩
theorem kh_X9_held {Q : Int32 → HS → Prop} {v0 : Nat} {v1 : Int32} {v2 : Int32} {v3 : Int32} {v4 : Int32} {v5 : Int32} {S : HS} (h : P_X9_held v0 v1 v2 v3 v4 v5 Q S) : P_X9_held v0 v1 v2 v3 v4 v5 (fun r T => Q r T ∧ KH S T) S := kh_X9_held_0 h (kh_rf S)
set_option maxRecDepth 20000 in
set_option maxHeartbeats 1000000 in
theorem kh_X9_isTill_0 {Q : Int32 → HS → Prop} {v0 : Int32} {S0 S : HS} (h : P_X9_isTill_0 Q v0 S) (K : KH S0 S) : P_X9_isTill_0 (fun r T => Q r T ∧ KH S0 T) v0 S := by
  delta P_X9_isTill_0 at h ⊢
  refine ⟨?_, ?_⟩
  · intro c1
    have h := h.1 c1
    exact ⟨h, K⟩
  · intro c2
    have h := h.2 c2
    refine ⟨?_, ?_⟩
    · intro c3
      have h := h.1 c3
      exact ⟨h, K⟩
    · intro c4
      have h := h.2 c4
      exact ⟨h, K⟩
theorem kh_X9_isTill {Q : Int32 → HS → Prop} {v0 : Int32} {S : HS} (h : P_X9_isTill v0 Q S) : P_X9_isTill v0 (fun r T => Q r T ∧ KH S T) S := kh_X9_isTill_0 h (kh_rf S)
set_option maxRecDepth 20000 in
set_option maxHeartbeats 1000000 in
theorem kh_X9_placesTrouble_38 {Q : Int32 → HS → Prop} {s0 : Int32} {S0 S : HS} (h : P_X9_placesTrouble_38 Q s0 S) (K : KH S0 S) : P_X9_placesTrouble_38 (fun r T => Q r T ∧ KH S0 T) s0 S := by
  delta P_X9_placesTrouble_38 at h ⊢
  refine ⟨?_, ?_⟩
  · intro c1
    have h := h.1 c1
    exact ⟨h, K⟩
  · intro c2
    have h := h.2 c2
    exact ⟨h, K⟩
set_option maxRecDepth 20000 in
set_option maxHeartbeats 1000000 in
theorem kh_X9_placesTrouble_37 {Q : Int32 → HS → Prop} {S0 S : HS} (h : P_X9_placesTrouble_37 Q S) (K : KH S0 S) : P_X9_placesTrouble_37 (fun r T => Q r T ∧ KH S0 T) S := by
  delta P_X9_placesTrouble_37 at h ⊢
  exact kh_X9_placesTrouble_38 h K
set_option maxRecDepth 20000 in
set_option maxHeartbeats 1000000 in
theorem kh_X9_placesTrouble_0 {Q : Int32 → HS → Prop} {v0 : Nat} {v1 : Int32} {v2 : Int32} {v3 : Int32} {S0 S : HS} (h : P_X9_placesTrouble_0 Q v0 v1 v2 v3 S) (K : KH S0 S) : P_X9_placesTrouble_0 (fun r T => Q r T ∧ KH S0 T) v0 v1 v2 v3 S := by
  delta P_X9_placesTrouble_0 at h ⊢
  obtain ⟨c1, h⟩ := h
  refine ⟨c1, ?_⟩
  obtain ⟨b2, e3, h⟩ := h
  refine ⟨b2, e3, ?_⟩
  obtain ⟨c4, h⟩ := h
  refine ⟨c4, ?_⟩
  refine cm_X8_hasWalker (kh_X8_hasWalker h) h (fun x5 x6 hp h g7 g8 => ?_)
  have h := h g7 g8
  have K := kh_tr K hp.2
  refine ⟨?_, ?_⟩
  · intro c9
    have h := h.1 c9
    exact kh_X9_placesTrouble_37 h K
  · intro c10
    have h := h.2 c10
    obtain ⟨b11, e12, h⟩ := h
    refine ⟨b11, e12, ?_⟩
    obtain ⟨c13, h⟩ := h
    refine ⟨c13, ?_⟩
    refine cm_X8_hasPlace (kh_X8_hasPlace h) h (fun x14 x15 hp h g16 g17 => ?_)
    have h := h g16 g17
    have K := kh_tr K hp.2
    refine ⟨?_, ?_⟩
    · intro c18
      have h := h.1 c18
      exact kh_X9_placesTrouble_37 h K
    · intro c19
      have h := h.2 c19
      obtain ⟨b20, e21, h⟩ := h
      refine ⟨b20, e21, ?_⟩
      obtain ⟨c22, h⟩ := h
      refine ⟨c22, ?_⟩
      refine cm_X8_hasPlace (kh_X8_hasPlace h) h (fun x23 x24 hp h g25 g26 => ?_)
      have h := h g25 g26
      have K := kh_tr K hp.2
      refine ⟨?_, ?_⟩
      · intro c27
        have h := h.1 c27
        exact kh_X9_placesTrouble_37 h K
      · intro c28
        have h := h.2 c28
        exact kh_X9_placesTrouble_38 h K
theorem kh_X9_placesTrouble {Q : Int32 → HS → Prop} {v0 : Nat} {v1 : Int32} {v2 : Int32} {v3 : Int32} {S : HS} (h : P_X9_placesTrouble v0 v1 v2 v3 Q S) : P_X9_placesTrouble v0 v1 v2 v3 (fun r T => Q r T ∧ KH S T) S := kh_X9_placesTrouble_0 h (kh_rf S)
set_option maxRecDepth 20000 in
set_option maxHeartbeats 1000000 in
theorem kh_X9_lee_0 {Q : Int64 → HS → Prop} {v0 : Nat} {v1 : Int32} {v2 : Int32} {v3 : Int32} {v4 : Int32} {v5 : Int32} {v6 : Int32} {v7 : Int32} {S0 S : HS} (h : P_X9_lee_0 Q v0 v1 v2 v3 v4 v5 v6 v7 S) (K : KH S0 S) : P_X9_lee_0 (fun r T => Q r T ∧ KH S0 T) v0 v1 v2 v3 v4 v5 v6 v7 S := by
  delta P_X9_lee_0 at h ⊢
  obtain ⟨c1, h⟩ := h
  refine ⟨c1, ?_⟩
  refine cm_X9_leeTrouble (kh_X9_leeTrouble h) h (fun x2 x3 hp h g4 => ?_)
  have h := h g4
  have K := kh_tr K hp.2
  refine cm_X9_refusedBy (kh_X9_refusedBy h) h (fun x5 x6 hp h g7 g8 => ?_)
  have h := h g7 g8
  have K := kh_tr K hp.2
  refine ⟨?_, ?_⟩
  · intro c9
    have h := h.1 c9
    obtain ⟨b10, e11, h⟩ := h
    refine ⟨b10, e11, ?_⟩
    obtain ⟨b12, e13, h⟩ := h
    refine ⟨b12, e13, ?_⟩
    obtain ⟨c14, h⟩ := h
    refine ⟨c14, ?_⟩
    obtain ⟨b15, e16, h⟩ := h
    refine ⟨b15, e16, ?_⟩
    obtain ⟨c17, h⟩ := h
    refine ⟨c17, ?_⟩
    obtain ⟨c18, h⟩ := h
    refine ⟨c18, ?_⟩
    obtain ⟨b19, e20, h⟩ := h
    refine ⟨b19, e20, ?_⟩
    obtain ⟨b21, e22, h⟩ := h
    refine ⟨b21, e22, ?_⟩
    obtain ⟨c23, h⟩ := h
    refine ⟨c23, ?_⟩
    obtain ⟨b24, e25, h⟩ := h
    refine ⟨b24, e25, ?_⟩
    obtain ⟨c26, h⟩ := h
    refine ⟨c26, ?_⟩
    obtain ⟨c27, h⟩ := h
    refine ⟨c27, ?_⟩
    obtain ⟨b28, e29, h⟩ := h
    refine ⟨b28, e29, ?_⟩
    obtain ⟨c30, h⟩ := h
    refine ⟨c30, ?_⟩
    refine cm_X1_lay (kh_X1_lay h) h (fun x31 hp h g32 => ?_)
    have h := h g32
    have K := kh_tr K hp.2
    obtain ⟨b33, e34, h⟩ := h
    refine ⟨b33, e34, ?_⟩
    obtain ⟨b35, e36, h⟩ := h
    refine ⟨b35, e36, ?_⟩
    obtain ⟨c37, h⟩ := h
    refine ⟨c37, ?_⟩
    obtain ⟨b38, e39, h⟩ := h
    refine ⟨b38, e39, ?_⟩
    obtain ⟨c40, h⟩ := h
    refine ⟨c40, ?_⟩
    obtain ⟨c41, h⟩ := h
    refine ⟨c41, ?_⟩
    obtain ⟨b42, e43, h⟩ := h
    refine ⟨b42, e43, ?_⟩
    obtain ⟨b44, e45, h⟩ := h
    refine ⟨b44, e45, ?_⟩
    obtain ⟨c46, h⟩ := h
    refine ⟨c46, ?_⟩
    obtain ⟨b47, e48, h⟩ := h
    refine ⟨b47, e48, ?_⟩
    obtain ⟨c49, h⟩ := h
    refine ⟨c49, ?_⟩
    obtain ⟨c50, h⟩ := h
    refine ⟨c50, ?_⟩
    obtain ⟨b51, e52, h⟩ := h
    refine ⟨b51, e52, ?_⟩
    obtain ⟨c53, h⟩ := h
    refine ⟨c53, ?_⟩
    refine cm_X1_wetInLee (kh_X1_wetInLee h) h (fun x54 x55 hp h g56 => ?_)
    have h := h g56
    have K := kh_tr K hp.2
    refine cm_X9_fraction (kh_X9_fraction h) h (fun x57 x58 hp h g59 => ?_)
    have h := h g59
    have K := kh_tr K hp.2
    exact ⟨h, K⟩
  · intro c60
    have h := h.2 c60
    exact ⟨h, K⟩
theorem kh_X9_lee {Q : Int64 → HS → Prop} {v0 : Nat} {v1 : Int32} {v2 : Int32} {v3 : Int32} {v4 : Int32} {v5 : Int32} {v6 : Int32} {v7 : Int32} {S : HS} (h : P_X9_lee v0 v1 v2 v3 v4 v5 v6 v7 Q S) : P_X9_lee v0 v1 v2 v3 v4 v5 v6 v7 (fun r T => Q r T ∧ KH S T) S := kh_X9_lee_0 h (kh_rf S)
set_option maxRecDepth 20000 in
set_option maxHeartbeats 1000000 in
theorem kh_X9_lies_54 {Q : Int32 → HS → Prop} {X20 X20_2 : Nat → Int32 → Int32 → HS → Prop} {v0 : Nat} {v1 : Int32} {v2 : Int32} {S0 S : HS} (h : P_X9_lies_54 Q X20 v0 v1 v2 S) (K : KH S0 S) (hX20 : ∀ (u0 : Nat) (u1 : Int32) (u2 : Int32) (u3 : HS), X20 u0 u1 u2 u3 → KH S0 u3 → X20_2 u0 u1 u2 u3) : P_X9_lies_54 (fun r T => Q r T ∧ KH S0 T) X20_2 v0 v1 v2 S := by
  delta P_X9_lies_54 at h ⊢
  intro x2 e1
  have h := h x2 e1
  exact hX20 _ _ _ _ h K
set_option maxRecDepth 20000 in
set_option maxHeartbeats 1000000 in
theorem khB_X9_lies_20 {Q : Int32 → HS → Prop} {X20 X20_2 : Nat → Int32 → Int32 → HS → Prop} {v0 : Nat} {v1 : Int32} {v2 : Int32} {S0 S : HS} (h : B_X9_lies_20 Q X20 v0 v1 v2 S) (K : KH S0 S) (hX20 : ∀ (u0 : Nat) (u1 : Int32) (u2 : Int32) (u3 : HS), X20 u0 u1 u2 u3 → KH S0 u3 → X20_2 u0 u1 u2 u3) : B_X9_lies_20 (fun r T => Q r T ∧ KH S0 T) X20_2 v0 v1 v2 S := by
  delta B_X9_lies_20 at h ⊢
  obtain ⟨c1, h⟩ := h
  refine ⟨c1, ?_⟩
  obtain ⟨b2, e3, h⟩ := h
  refine ⟨b2, e3, ?_⟩
  obtain ⟨c4, h⟩ := h
  refine ⟨c4, ?_⟩
  intro x6 e5
  have h := h x6 e5
  refine ⟨?_, ?_⟩
  · intro c7
    have h := h.1 c7
    refine cm_X9_grant (kh_X9_grant h) h (fun x8 x9 hp h g10 => ?_)
    have h := h g10
    have K := kh_tr K hp.2
    exact ⟨h, K⟩
  · intro c11
    have h := h.2 c11
    obtain ⟨b12, e13, h⟩ := h
    refine ⟨b12, e13, ?_⟩
    obtain ⟨b14, e15, h⟩ := h
    refine ⟨b14, e15, ?_⟩
    obtain ⟨c16, h⟩ := h
    refine ⟨c16, ?_⟩
    refine cm_X1_findFit (kh_X1_findFit h) h (fun x17 x18 hp h g19 => ?_)
    have h := h g19
    have K := kh_tr K hp.2
    refine ⟨?_, ?_⟩
    · intro c20
      have h := h.1 c20
      exact kh_X9_lies_54 h K hX20
    · intro c21
      have h := h.2 c21
      intro x23 e22
      have h := h x23 e22
      exact kh_X9_lies_54 h K hX20
theorem kh_X9_lies_20 {Q : Int32 → HS → Prop} {v0 : Nat} {v1 : Int32} {v2 : Int32} {S0 S : HS} (h : P_X9_lies_20 Q v0 v1 v2 S) (K : KH S0 S) : P_X9_lies_20 (fun r T => Q r T ∧ KH S0 T) v0 v1 v2 S := h (fun v0 v1 v2 S => KH S0 S → P_X9_lies_20 (fun r T => Q r T ∧ KH S0 T) v0 v1 v2 S) (fun v0 v1 v2 S hB K => fd_X9_lies_20 (khB_X9_lies_20 hB K (fun _ _ _ _ hx K => hx K))) K
set_option maxRecDepth 20000 in
set_option maxHeartbeats 1000000 in
theorem kh_X9_lies_0 {Q : Int32 → HS → Prop} {v0 : Nat} {S0 S : HS} (h : P_X9_lies_0 Q v0 S) (K : KH S0 S) : P_X9_lies_0 (fun r T => Q r T ∧ KH S0 T) v0 S := by
  delta P_X9_lies_0 at h ⊢
  obtain ⟨c1, h⟩ := h
  refine ⟨c1, ?_⟩
  obtain ⟨b2, e3, h⟩ := h
  refine ⟨b2, e3, ?_⟩
  obtain ⟨c4, h⟩ := h
  refine ⟨c4, ?_⟩
  refine cm_X8_isTold (kh_X8_isTold h) h (fun x5 x6 hp h g7 g8 => ?_)
  have h := h g7 g8
  have K := kh_tr K hp.2
  refine ⟨?_, ?_⟩
  · intro c9
    have h := h.1 c9
    exact kh_X9_lies_20 h K
  · intro c10
    have h := h.2 c10
    refine cm_X9_refuse (kh_X9_refuse h) h (fun x11 x12 hp h g13 => ?_)
    have h := h g13
    have K := kh_tr K hp.2
    exact ⟨h, K⟩
theorem kh_X9_lies {Q : Int32 → HS → Prop} {v0 : Nat} {S : HS} (h : P_X9_lies v0 Q S) : P_X9_lies v0 (fun r T => Q r T ∧ KH S T) S := kh_X9_lies_0 h (kh_rf S)
set_option maxRecDepth 20000 in
set_option maxHeartbeats 1000000 in
theorem kh_X9_mark_0 {Q : Int32 → HS → Prop} {v0 : Nat} {S0 S : HS} (h : P_X9_mark_0 Q v0 S) (K : KH S0 S) : P_X9_mark_0 (fun r T => Q r T ∧ KH S0 T) v0 S := by
  delta P_X9_mark_0 at h ⊢
  obtain ⟨c1, h⟩ := h
  refine ⟨c1, ?_⟩
  obtain ⟨b2, e3, h⟩ := h
  refine ⟨b2, e3, ?_⟩
  obtain ⟨c4, h⟩ := h
  refine ⟨c4, ?_⟩
  refine cm_X0_isOn (kh_X0_isOn h) h (fun x5 x6 hp h g7 g8 => ?_)
  have h := h g7 g8
  have K := kh_tr K hp.2
  refine ⟨?_, ?_⟩
  · intro c9
    have h := h.1 c9
    obtain ⟨b10, e11, h⟩ := h
    refine ⟨b10, e11, ?_⟩
    obtain ⟨c12, h⟩ := h
    refine ⟨c12, ?_⟩
    refine cm_X0_setMark (kh_X0_setMark h) h (fun x13 x14 hp h g15 => ?_)
    have h := h g15
    have K := kh_tr K hp.2
    refine ⟨?_, ?_⟩
    · intro c16
      have h := h.1 c16
      refine cm_X9_grant (kh_X9_grant h) h (fun x17 x18 hp h g19 => ?_)
      have h := h g19
      have K := kh_tr K hp.2
      exact ⟨h, K⟩
    · intro c20
      have h := h.2 c20
      refine cm_X9_refuse (kh_X9_refuse h) h (fun x21 x22 hp h g23 => ?_)
      have h := h g23
      have K := kh_tr K hp.2
      exact ⟨h, K⟩
  · intro c24
    have h := h.2 c24
    refine cm_X9_refuse (kh_X9_refuse h) h (fun x25 x26 hp h g27 => ?_)
    have h := h g27
    have K := kh_tr K hp.2
    exact ⟨h, K⟩
theorem kh_X9_mark {Q : Int32 → HS → Prop} {v0 : Nat} {S : HS} (h : P_X9_mark v0 Q S) : P_X9_mark v0 (fun r T => Q r T ∧ KH S T) S := kh_X9_mark_0 h (kh_rf S)
set_option maxRecDepth 20000 in
set_option maxHeartbeats 1000000 in
theorem kh_X9_mean_0 {Q : Int64 → HS → Prop} {v0 : Nat} {v1 : Int32} {v2 : Int32} {v3 : Int32} {v4 : Int32} {v5 : Int32} {v6 : Int32} {S0 S : HS} (h : P_X9_mean_0 Q v0 v1 v2 v3 v4 v5 v6 S) (K : KH S0 S) : P_X9_mean_0 (fun r T => Q r T ∧ KH S0 T) v0 v1 v2 v3 v4 v5 v6 S := by
  delta P_X9_mean_0 at h ⊢
  obtain ⟨c1, h⟩ := h
  refine ⟨c1, ?_⟩
  refine cm_X9_legTrouble (kh_X9_legTrouble h) h (fun x2 x3 hp h g4 => ?_)
  have h := h g4
  have K := kh_tr K hp.2
  refine cm_X9_refusedBy (kh_X9_refusedBy h) h (fun x5 x6 hp h g7 g8 => ?_)
  have h := h g7 g8
  have K := kh_tr K hp.2
  refine ⟨?_, ?_⟩
  · intro c9
    have h := h.1 c9
    obtain ⟨b10, e11, h⟩ := h
    refine ⟨b10, e11, ?_⟩
    obtain ⟨b12, e13, h⟩ := h
    refine ⟨b12, e13, ?_⟩
    obtain ⟨c14, h⟩ := h
    refine ⟨c14, ?_⟩
    obtain ⟨b15, e16, h⟩ := h
    refine ⟨b15, e16, ?_⟩
    obtain ⟨c17, h⟩ := h
    refine ⟨c17, ?_⟩
    obtain ⟨c18, h⟩ := h
    refine ⟨c18, ?_⟩
    obtain ⟨b19, e20, h⟩ := h
    refine ⟨b19, e20, ?_⟩
    obtain ⟨b21, e22, h⟩ := h
    refine ⟨b21, e22, ?_⟩
    obtain ⟨c23, h⟩ := h
    refine ⟨c23, ?_⟩
    obtain ⟨b24, e25, h⟩ := h
    refine ⟨b24, e25, ?_⟩
    obtain ⟨c26, h⟩ := h
    refine ⟨c26, ?_⟩
    obtain ⟨c27, h⟩ := h
    refine ⟨c27, ?_⟩
    obtain ⟨b28, e29, h⟩ := h
    refine ⟨b28, e29, ?_⟩
    obtain ⟨b30, e31, h⟩ := h
    refine ⟨b30, e31, ?_⟩
    obtain ⟨c32, h⟩ := h
    refine ⟨c32, ?_⟩
    obtain ⟨b33, e34, h⟩ := h
    refine ⟨b33, e34, ?_⟩
    obtain ⟨c35, h⟩ := h
    refine ⟨c35, ?_⟩
    obtain ⟨c36, h⟩ := h
    refine ⟨c36, ?_⟩
    obtain ⟨b37, e38, h⟩ := h
    refine ⟨b37, e38, ?_⟩
    obtain ⟨c39, h⟩ := h
    refine ⟨c39, ?_⟩
    refine cm_X1_wetOf (kh_X1_wetOf h) h (fun x40 x41 hp h g42 => ?_)
    have h := h g42
    have K := kh_tr K hp.2
    obtain ⟨b43, e44, h⟩ := h
    refine ⟨b43, e44, ?_⟩
    obtain ⟨c45, h⟩ := h
    refine ⟨c45, ?_⟩
    obtain ⟨b46, e47, h⟩ := h
    refine ⟨b46, e47, ?_⟩
    obtain ⟨c48, h⟩ := h
    refine ⟨c48, ?_⟩
    obtain ⟨c49, h⟩ := h
    refine ⟨c49, ?_⟩
    obtain ⟨b50, e51, h⟩ := h
    refine ⟨b50, e51, ?_⟩
    obtain ⟨c52, h⟩ := h
    refine ⟨c52, ?_⟩
    intro x54 e53
    have h := h x54 e53
    refine cm_X9_fraction (kh_X9_fraction h) h (fun x55 x56 hp h g57 => ?_)
    have h := h g57
    have K := kh_tr K hp.2
    exact ⟨h, K⟩
  · intro c58
    have h := h.2 c58
    exact ⟨h, K⟩
theorem kh_X9_mean {Q : Int64 → HS → Prop} {v0 : Nat} {v1 : Int32} {v2 : Int32} {v3 : Int32} {v4 : Int32} {v5 : Int32} {v6 : Int32} {S : HS} (h : P_X9_mean v0 v1 v2 v3 v4 v5 v6 Q S) : P_X9_mean v0 v1 v2 v3 v4 v5 v6 (fun r T => Q r T ∧ KH S T) S := kh_X9_mean_0 h (kh_rf S)
set_option maxRecDepth 20000 in
set_option maxHeartbeats 1000000 in
theorem kh_X9_minutes_22 {Q : Int32 → HS → Prop} {v0 : Nat} {S0 S : HS} (h : P_X9_minutes_22 Q v0 S) (K : KH S0 S) : P_X9_minutes_22 (fun r T => Q r T ∧ KH S0 T) v0 S := by
  delta P_X9_minutes_22 at h ⊢
  obtain ⟨c1, h⟩ := h
  refine ⟨c1, ?_⟩
  refine cm_X9_refuse (kh_X9_refuse h) h (fun x2 x3 hp h g4 => ?_)
  have h := h g4
  have K := kh_tr K hp.2
  exact ⟨h, K⟩
set_option maxRecDepth 20000 in
set_option maxHeartbeats 1000000 in
theorem kh_X9_minutes_0 {Q : Int32 → HS → Prop} {v0 : Nat} {v1 : Int32} {v2 : Int32} {v3 : Int32} {S0 S : HS} (h : P_X9_minutes_0 Q v0 v1 v2 v3 S) (K : KH S0 S) : P_X9_minutes_0 (fun r T => Q r T ∧ KH S0 T) v0 v1 v2 v3 S := by
  delta P_X9_minutes_0 at h ⊢
  obtain ⟨c1, h⟩ := h
  refine ⟨c1, ?_⟩
  obtain ⟨b2, e3, h⟩ := h
  refine ⟨b2, e3, ?_⟩
  obtain ⟨c4, h⟩ := h
  refine ⟨c4, ?_⟩
  refine cm_X8_hasWalker (kh_X8_hasWalker h) h (fun x5 x6 hp h g7 g8 => ?_)
  have h := h g7 g8
  have K := kh_tr K hp.2
  refine ⟨?_, ?_⟩
  · intro c9
    have h := h.1 c9
    exact kh_X9_minutes_22 h K
  · intro c10
    have h := h.2 c10
    obtain ⟨b11, e12, h⟩ := h
    refine ⟨b11, e12, ?_⟩
    obtain ⟨c13, h⟩ := h
    refine ⟨c13, ?_⟩
    refine cm_X8_hasRoad (kh_X8_hasRoad h) h (fun x14 x15 hp h g16 g17 => ?_)
    have h := h g16 g17
    have K := kh_tr K hp.2
    refine ⟨?_, ?_⟩
    · intro c18
      have h := h.1 c18
      obtain ⟨b19, e20, h⟩ := h
      refine ⟨b19, e20, ?_⟩
      obtain ⟨c21, h⟩ := h
      refine ⟨c21, ?_⟩
      obtain ⟨b22, e23, h⟩ := h
      refine ⟨b22, e23, ?_⟩
      obtain ⟨c24, h⟩ := h
      refine ⟨c24, ?_⟩
      obtain ⟨c25, h⟩ := h
      refine ⟨c25, ?_⟩
      obtain ⟨b26, e27, h⟩ := h
      refine ⟨b26, e27, ?_⟩
      obtain ⟨c28, h⟩ := h
      refine ⟨c28, ?_⟩
      refine cm_X6_canGo (kh_X6_canGo h) h (fun x29 x30 hp h g31 g32 => ?_)
      have h := h g31 g32
      have K := kh_tr K hp.2
      refine ⟨?_, ?_⟩
      · intro c33
        have h := h.1 c33
        obtain ⟨b34, e35, h⟩ := h
        refine ⟨b34, e35, ?_⟩
        obtain ⟨c36, h⟩ := h
        refine ⟨c36, ?_⟩
        obtain ⟨b37, e38, h⟩ := h
        refine ⟨b37, e38, ?_⟩
        obtain ⟨c39, h⟩ := h
        refine ⟨c39, ?_⟩
        obtain ⟨c40, h⟩ := h
        refine ⟨c40, ?_⟩
        obtain ⟨b41, e42, h⟩ := h
        refine ⟨b41, e42, ?_⟩
        obtain ⟨c43, h⟩ := h
        refine ⟨c43, ?_⟩
        refine cm_X5_minutesAt (kh_X5_minutesAt h) h (fun x44 x45 hp h g46 => ?_)
        have h := h g46
        have K := kh_tr K hp.2
        refine cm_X9_grant (kh_X9_grant h) h (fun x47 x48 hp h g49 => ?_)
        have h := h g49
        have K := kh_tr K hp.2
        exact ⟨h, K⟩
      · intro c50
        have h := h.2 c50
        refine cm_X9_refuse (kh_X9_refuse h) h (fun x51 x52 hp h g53 => ?_)
        have h := h g53
        have K := kh_tr K hp.2
        exact ⟨h, K⟩
    · intro c54
      have h := h.2 c54
      exact kh_X9_minutes_22 h K
theorem kh_X9_minutes {Q : Int32 → HS → Prop} {v0 : Nat} {v1 : Int32} {v2 : Int32} {v3 : Int32} {S : HS} (h : P_X9_minutes v0 v1 v2 v3 Q S) : P_X9_minutes v0 v1 v2 v3 (fun r T => Q r T ∧ KH S T) S := kh_X9_minutes_0 h (kh_rf S)
set_option maxRecDepth 20000 in
set_option maxHeartbeats 1000000 in
theorem kh_X9_road_20 {Q : Int32 → HS → Prop} {v0 : Nat} {S0 S : HS} (h : P_X9_road_20 Q v0 S) (K : KH S0 S) : P_X9_road_20 (fun r T => Q r T ∧ KH S0 T) v0 S := by
  delta P_X9_road_20 at h ⊢
  obtain ⟨c1, h⟩ := h
  refine ⟨c1, ?_⟩
  refine cm_X9_refuse (kh_X9_refuse h) h (fun x2 x3 hp h g4 => ?_)
  have h := h g4
  have K := kh_tr K hp.2
  exact ⟨h, K⟩
set_option maxRecDepth 20000 in
set_option maxHeartbeats 1000000 in
theorem kh_X9_road_0 {Q : Int32 → HS → Prop} {v0 : Nat} {v1 : Int32} {v2 : Int32} {S0 S : HS} (h : P_X9_road_0 Q v0 v1 v2 S) (K : KH S0 S) : P_X9_road_0 (fun r T => Q r T ∧ KH S0 T) v0 v1 v2 S := by
  delta P_X9_road_0 at h ⊢
  obtain ⟨c1, h⟩ := h
  refine ⟨c1, ?_⟩
  obtain ⟨b2, e3, h⟩ := h
  refine ⟨b2, e3, ?_⟩
  obtain ⟨c4, h⟩ := h
  refine ⟨c4, ?_⟩
  refine cm_X8_hasRoad (kh_X8_hasRoad h) h (fun x5 x6 hp h g7 g8 => ?_)
  have h := h g7 g8
  have K := kh_tr K hp.2
  refine ⟨?_, ?_⟩
  · intro c9
    have h := h.1 c9
    exact kh_X9_road_20 h K
  · intro c10
    have h := h.2 c10
    refine ⟨?_, ?_⟩
    · intro c11
      have h := h.1 c11
      exact kh_X9_road_20 h K
    · intro c12
      have h := h.2 c12
      refine ⟨?_, ?_⟩
      · intro c13
        have h := h.1 c13
        obtain ⟨b14, e15, h⟩ := h
        refine ⟨b14, e15, ?_⟩
        obtain ⟨c16, h⟩ := h
        refine ⟨c16, ?_⟩
        obtain ⟨b17, e18, h⟩ := h
        refine ⟨b17, e18, ?_⟩
        obtain ⟨c19, h⟩ := h
        refine ⟨c19, ?_⟩
        obtain ⟨c20, h⟩ := h
        refine ⟨c20, ?_⟩
        obtain ⟨b21, e22, h⟩ := h
        refine ⟨b21, e22, ?_⟩
        obtain ⟨c23, h⟩ := h
        refine ⟨c23, ?_⟩
        refine cm_X5_tell (kh_X5_tell h) h (fun x24 x25 hp h g26 => ?_)
        have h := h g26
        have K := kh_tr K hp.2
        refine cm_X9_grant (kh_X9_grant h) h (fun x27 x28 hp h g29 => ?_)
        have h := h g29
        have K := kh_tr K hp.2
        exact ⟨h, K⟩
      · intro c30
        have h := h.2 c30
        exact kh_X9_road_20 h K
theorem kh_X9_road {Q : Int32 → HS → Prop} {v0 : Nat} {v1 : Int32} {v2 : Int32} {S : HS} (h : P_X9_road v0 v1 v2 Q S) : P_X9_road v0 v1 v2 (fun r T => Q r T ∧ KH S T) S := kh_X9_road_0 h (kh_rf S)
set_option maxRecDepth 20000 in
set_option maxHeartbeats 1000000 in
theorem kh_X9_round_0 {Q : Int64 → HS → Prop} {v0 : Nat} {v1 : Int32} {v2 : Int32} {v3 : Int32} {v4 : Int32} {S0 S : HS} (h : P_X9_round_0 Q v0 v1 v2 v3 v4 S) (K : KH S0 S) : P_X9_round_0 (fun r T => Q r T ∧ KH S0 T) v0 v1 v2 v3 v4 S := by
  delta P_X9_round_0 at h ⊢
  obtain ⟨c1, h⟩ := h
  refine ⟨c1, ?_⟩
  refine cm_X9_tripTrouble (kh_X9_tripTrouble h) h (fun x2 x3 hp h g4 => ?_)
  have h := h g4
  have K := kh_tr K hp.2
  refine cm_X9_refusedBy (kh_X9_refusedBy h) h (fun x5 x6 hp h g7 g8 => ?_)
  have h := h g7 g8
  have K := kh_tr K hp.2
  refine ⟨?_, ?_⟩
  · intro c9
    have h := h.1 c9
    obtain ⟨b10, e11, h⟩ := h
    refine ⟨b10, e11, ?_⟩
    obtain ⟨b12, e13, h⟩ := h
    refine ⟨b12, e13, ?_⟩
    obtain ⟨c14, h⟩ := h
    refine ⟨c14, ?_⟩
    obtain ⟨b15, e16, h⟩ := h
    refine ⟨b15, e16, ?_⟩
    obtain ⟨c17, h⟩ := h
    refine ⟨c17, ?_⟩
    obtain ⟨c18, h⟩ := h
    refine ⟨c18, ?_⟩
    obtain ⟨b19, e20, h⟩ := h
    refine ⟨b19, e20, ?_⟩
    obtain ⟨b21, e22, h⟩ := h
    refine ⟨b21, e22, ?_⟩
    obtain ⟨c23, h⟩ := h
    refine ⟨c23, ?_⟩
    obtain ⟨b24, e25, h⟩ := h
    refine ⟨b24, e25, ?_⟩
    obtain ⟨c26, h⟩ := h
    refine ⟨c26, ?_⟩
    obtain ⟨c27, h⟩ := h
    refine ⟨c27, ?_⟩
    obtain ⟨b28, e29, h⟩ := h
    refine ⟨b28, e29, ?_⟩
    obtain ⟨b30, e31, h⟩ := h
    refine ⟨b30, e31, ?_⟩
    obtain ⟨c32, h⟩ := h
    refine ⟨c32, ?_⟩
    obtain ⟨b33, e34, h⟩ := h
    refine ⟨b33, e34, ?_⟩
    obtain ⟨c35, h⟩ := h
    refine ⟨c35, ?_⟩
    obtain ⟨c36, h⟩ := h
    refine ⟨c36, ?_⟩
    obtain ⟨b37, e38, h⟩ := h
    refine ⟨b37, e38, ?_⟩
    obtain ⟨c39, h⟩ := h
    refine ⟨c39, ?_⟩
    refine cm_X1_leastWet (kh_X1_leastWet h) h (fun x40 x41 hp h g42 => ?_)
    have h := h g42
    have K := kh_tr K hp.2
    obtain ⟨b43, e44, h⟩ := h
    refine ⟨b43, e44, ?_⟩
    obtain ⟨b45, e46, h⟩ := h
    refine ⟨b45, e46, ?_⟩
    obtain ⟨c47, h⟩ := h
    refine ⟨c47, ?_⟩
    obtain ⟨b48, e49, h⟩ := h
    refine ⟨b48, e49, ?_⟩
    obtain ⟨c50, h⟩ := h
    refine ⟨c50, ?_⟩
    obtain ⟨c51, h⟩ := h
    refine ⟨c51, ?_⟩
    obtain ⟨b52, e53, h⟩ := h
    refine ⟨b52, e53, ?_⟩
    obtain ⟨b54, e55, h⟩ := h
    refine ⟨b54, e55, ?_⟩
    obtain ⟨c56, h⟩ := h
    refine ⟨c56, ?_⟩
    obtain ⟨b57, e58, h⟩ := h
    refine ⟨b57, e58, ?_⟩
    obtain ⟨c59, h⟩ := h
    refine ⟨c59, ?_⟩
    obtain ⟨c60, h⟩ := h
    refine ⟨c60, ?_⟩
    obtain ⟨b61, e62, h⟩ := h
    refine ⟨b61, e62, ?_⟩
    obtain ⟨b63, e64, h⟩ := h
    refine ⟨b63, e64, ?_⟩
    obtain ⟨c65, h⟩ := h
    refine ⟨c65, ?_⟩
    obtain ⟨b66, e67, h⟩ := h
    refine ⟨b66, e67, ?_⟩
    obtain ⟨c68, h⟩ := h
    refine ⟨c68, ?_⟩
    obtain ⟨c69, h⟩ := h
    refine ⟨c69, ?_⟩
    obtain ⟨b70, e71, h⟩ := h
    refine ⟨b70, e71, ?_⟩
    obtain ⟨c72, h⟩ := h
    refine ⟨c72, ?_⟩
    refine cm_X1_leastWet (kh_X1_leastWet h) h (fun x73 x74 hp h g75 => ?_)
    have h := h g75
    have K := kh_tr K hp.2
    refine cm_X9_fraction (kh_X9_fraction h) h (fun x76 x77 hp h g78 => ?_)
    have h := h g78
    have K := kh_tr K hp.2
    exact ⟨h, K⟩
  · intro c79
    have h := h.2 c79
    exact ⟨h, K⟩
theorem kh_X9_round {Q : Int64 → HS → Prop} {v0 : Nat} {v1 : Int32} {v2 : Int32} {v3 : Int32} {v4 : Int32} {S : HS} (h : P_X9_round v0 v1 v2 v3 v4 Q S) : P_X9_round v0 v1 v2 v3 v4 (fun r T => Q r T ∧ KH S T) S := kh_X9_round_0 h (kh_rf S)
set_option maxRecDepth 20000 in
set_option maxHeartbeats 1000000 in
theorem kh_X9_saves_0 {Q : Int64 → HS → Prop} {v0 : Nat} {v1 : Int32} {v2 : Int32} {v3 : Int32} {v4 : Int32} {v5 : Int32} {S0 S : HS} (h : P_X9_saves_0 Q v0 v1 v2 v3 v4 v5 S) (K : KH S0 S) : P_X9_saves_0 (fun r T => Q r T ∧ KH S0 T) v0 v1 v2 v3 v4 v5 S := by
  delta P_X9_saves_0 at h ⊢
  obtain ⟨c1, h⟩ := h
  refine ⟨c1, ?_⟩
  refine cm_X9_tripTrouble (kh_X9_tripTrouble h) h (fun x2 x3 hp h g4 => ?_)
  have h := h g4
  have K := kh_tr K hp.2
  refine cm_X9_refusedBy (kh_X9_refusedBy h) h (fun x5 x6 hp h g7 g8 => ?_)
  have h := h g7 g8
  have K := kh_tr K hp.2
  refine ⟨?_, ?_⟩
  · intro c9
    have h := h.1 c9
    obtain ⟨b10, e11, h⟩ := h
    refine ⟨b10, e11, ?_⟩
    obtain ⟨c12, h⟩ := h
    refine ⟨c12, ?_⟩
    obtain ⟨b13, e14, h⟩ := h
    refine ⟨b13, e14, ?_⟩
    obtain ⟨c15, h⟩ := h
    refine ⟨c15, ?_⟩
    obtain ⟨c16, h⟩ := h
    refine ⟨c16, ?_⟩
    obtain ⟨b17, e18, h⟩ := h
    refine ⟨b17, e18, ?_⟩
    obtain ⟨b19, e20, h⟩ := h
    refine ⟨b19, e20, ?_⟩
    obtain ⟨b21, e22, h⟩ := h
    refine ⟨b21, e22, ?_⟩
    obtain ⟨c23, h⟩ := h
    refine ⟨c23, ?_⟩
    obtain ⟨b24, e25, h⟩ := h
    refine ⟨b24, e25, ?_⟩
    obtain ⟨c26, h⟩ := h
    refine ⟨c26, ?_⟩
    obtain ⟨c27, h⟩ := h
    refine ⟨c27, ?_⟩
    obtain ⟨b28, e29, h⟩ := h
    refine ⟨b28, e29, ?_⟩
    obtain ⟨b30, e31, h⟩ := h
    refine ⟨b30, e31, ?_⟩
    obtain ⟨c32, h⟩ := h
    refine ⟨c32, ?_⟩
    obtain ⟨b33, e34, h⟩ := h
    refine ⟨b33, e34, ?_⟩
    obtain ⟨c35, h⟩ := h
    refine ⟨c35, ?_⟩
    obtain ⟨c36, h⟩ := h
    refine ⟨c36, ?_⟩
    obtain ⟨b37, e38, h⟩ := h
    refine ⟨b37, e38, ?_⟩
    obtain ⟨c39, h⟩ := h
    refine ⟨c39, ?_⟩
    intro x41 e40
    have h := h x41 e40
    obtain ⟨c42, h⟩ := h
    refine ⟨c42, ?_⟩
    refine cm_X1_wetOf (kh_X1_wetOf h) h (fun x43 x44 hp h g45 => ?_)
    have h := h g45
    have K := kh_tr K hp.2
    obtain ⟨b46, e47, h⟩ := h
    refine ⟨b46, e47, ?_⟩
    obtain ⟨b48, e49, h⟩ := h
    refine ⟨b48, e49, ?_⟩
    obtain ⟨c50, h⟩ := h
    refine ⟨c50, ?_⟩
    obtain ⟨b51, e52, h⟩ := h
    refine ⟨b51, e52, ?_⟩
    obtain ⟨c53, h⟩ := h
    refine ⟨c53, ?_⟩
    obtain ⟨c54, h⟩ := h
    refine ⟨c54, ?_⟩
    obtain ⟨b55, e56, h⟩ := h
    refine ⟨b55, e56, ?_⟩
    obtain ⟨b57, e58, h⟩ := h
    refine ⟨b57, e58, ?_⟩
    obtain ⟨c59, h⟩ := h
    refine ⟨c59, ?_⟩
    obtain ⟨b60, e61, h⟩ := h
    refine ⟨b60, e61, ?_⟩
    obtain ⟨c62, h⟩ := h
    refine ⟨c62, ?_⟩
    obtain ⟨c63, h⟩ := h
    refine ⟨c63, ?_⟩
    obtain ⟨b64, e65, h⟩ := h
    refine ⟨b64, e65, ?_⟩
    obtain ⟨c66, h⟩ := h
    refine ⟨c66, ?_⟩
    refine cm_X1_leastWet (kh_X1_leastWet h) h (fun x67 x68 hp h g69 => ?_)
    have h := h g69
    have K := kh_tr K hp.2
    refine cm_X9_fraction (kh_X9_fraction h) h (fun x70 x71 hp h g72 => ?_)
    have h := h g72
    have K := kh_tr K hp.2
    exact ⟨h, K⟩
  · intro c73
    have h := h.2 c73
    exact ⟨h, K⟩
theorem kh_X9_saves {Q : Int64 → HS → Prop} {v0 : Nat} {v1 : Int32} {v2 : Int32} {v3 : Int32} {v4 : Int32} {v5 : Int32} {S : HS} (h : P_X9_saves v0 v1 v2 v3 v4 v5 Q S) : P_X9_saves v0 v1 v2 v3 v4 v5 (fun r T => Q r T ∧ KH S T) S := kh_X9_saves_0 h (kh_rf S)
set_option maxRecDepth 20000 in
set_option maxHeartbeats 1000000 in
theorem kh_X9_size_0 {Q : Int32 → HS → Prop} {v0 : Nat} {v1 : Int32} {S0 S : HS} (h : P_X9_size_0 Q v0 v1 S) (K : KH S0 S) : P_X9_size_0 (fun r T => Q r T ∧ KH S0 T) v0 v1 S := by
  delta P_X9_size_0 at h ⊢
  refine ⟨?_, ?_, ?_, ?_, ?_, ?_, ?_, ?_, ?_, ?_, ?_, ?_, ?_⟩
  · intro c1
    have h := h.1 c1
    exact ⟨h, K⟩
  · intro c2
    have h := h.2.1 c2
    obtain ⟨c3, h⟩ := h
    refine ⟨c3, ?_⟩
    obtain ⟨b4, e5, h⟩ := h
    refine ⟨b4, e5, ?_⟩
    obtain ⟨c6, h⟩ := h
    refine ⟨c6, ?_⟩
    intro x8 e7
    have h := h x8 e7
    exact ⟨h, K⟩
  · intro c9
    have h := h.2.2.1 c9
    obtain ⟨c10, h⟩ := h
    refine ⟨c10, ?_⟩
    obtain ⟨b11, e12, h⟩ := h
    refine ⟨b11, e12, ?_⟩
    obtain ⟨c13, h⟩ := h
    refine ⟨c13, ?_⟩
    intro x15 e14
    have h := h x15 e14
    exact ⟨h, K⟩
  · intro c16
    have h := h.2.2.2.1 c16
    obtain ⟨c17, h⟩ := h
    refine ⟨c17, ?_⟩
    obtain ⟨b18, e19, h⟩ := h
    refine ⟨b18, e19, ?_⟩
    obtain ⟨c20, h⟩ := h
    refine ⟨c20, ?_⟩
    intro x22 e21
    have h := h x22 e21
    exact ⟨h, K⟩
  · intro c23
    have h := h.2.2.2.2.1 c23
    obtain ⟨c24, h⟩ := h
    refine ⟨c24, ?_⟩
    obtain ⟨b25, e26, h⟩ := h
    refine ⟨b25, e26, ?_⟩
    obtain ⟨c27, h⟩ := h
    refine ⟨c27, ?_⟩
    intro x29 e28
    have h := h x29 e28
    exact ⟨h, K⟩
  · intro c30
    have h := h.2.2.2.2.2.1 c30
    obtain ⟨c31, h⟩ := h
    refine ⟨c31, ?_⟩
    obtain ⟨b32, e33, h⟩ := h
    refine ⟨b32, e33, ?_⟩
    obtain ⟨c34, h⟩ := h
    refine ⟨c34, ?_⟩
    intro x36 e35
    have h := h x36 e35
    exact ⟨h, K⟩
  · intro c37
    have h := h.2.2.2.2.2.2.1 c37
    obtain ⟨c38, h⟩ := h
    refine ⟨c38, ?_⟩
    obtain ⟨b39, e40, h⟩ := h
    refine ⟨b39, e40, ?_⟩
    obtain ⟨c41, h⟩ := h
    refine ⟨c41, ?_⟩
    intro x43 e42
    have h := h x43 e42
    exact ⟨h, K⟩
  · intro c44
    have h := h.2.2.2.2.2.2.2.1 c44
    obtain ⟨c45, h⟩ := h
    refine ⟨c45, ?_⟩
    obtain ⟨b46, e47, h⟩ := h
    refine ⟨b46, e47, ?_⟩
    obtain ⟨c48, h⟩ := h
    refine ⟨c48, ?_⟩
    refine cm_X0_isOn (kh_X0_isOn h) h (fun x49 x50 hp h g51 g52 => ?_)
    have h := h g51 g52
    have K := kh_tr K hp.2
    refine ⟨?_, ?_⟩
    · intro c53
      have h := h.1 c53
      exact ⟨h, K⟩
    · intro c54
      have h := h.2 c54
      obtain ⟨b55, e56, h⟩ := h
      refine ⟨b55, e56, ?_⟩
      obtain ⟨c57, h⟩ := h
      refine ⟨c57, ?_⟩
      intro x59 e58
      have h := h x59 e58
      exact ⟨h, K⟩
  · intro c60
    have h := h.2.2.2.2.2.2.2.2.1 c60
    obtain ⟨c61, h⟩ := h
    refine ⟨c61, ?_⟩
    obtain ⟨b62, e63, h⟩ := h
    refine ⟨b62, e63, ?_⟩
    obtain ⟨c64, h⟩ := h
    refine ⟨c64, ?_⟩
    refine cm_X0_isOn (kh_X0_isOn h) h (fun x65 x66 hp h g67 g68 => ?_)
    have h := h g67 g68
    have K := kh_tr K hp.2
    refine ⟨?_, ?_⟩
    · intro c69
      have h := h.1 c69
      exact ⟨h, K⟩
    · intro c70
      have h := h.2 c70
      obtain ⟨b71, e72, h⟩ := h
      refine ⟨b71, e72, ?_⟩
      obtain ⟨c73, h⟩ := h
      refine ⟨c73, ?_⟩
      obtain ⟨b74, e75, h⟩ := h
      refine ⟨b74, e75, ?_⟩
      obtain ⟨c76, h⟩ := h
      refine ⟨c76, ?_⟩
      intro x78 e77
      have h := h x78 e77
      exact ⟨h, K⟩
  · intro c79
    have h := h.2.2.2.2.2.2.2.2.2.1 c79
    obtain ⟨c80, h⟩ := h
    refine ⟨c80, ?_⟩
    obtain ⟨b81, e82, h⟩ := h
    refine ⟨b81, e82, ?_⟩
    obtain ⟨c83, h⟩ := h
    refine ⟨c83, ?_⟩
    refine cm_X0_isOn (kh_X0_isOn h) h (fun x84 x85 hp h g86 g87 => ?_)
    have h := h g86 g87
    have K := kh_tr K hp.2
    refine ⟨?_, ?_⟩
    · intro c88
      have h := h.1 c88
      exact ⟨h, K⟩
    · intro c89
      have h := h.2 c89
      obtain ⟨b90, e91, h⟩ := h
      refine ⟨b90, e91, ?_⟩
      obtain ⟨c92, h⟩ := h
      refine ⟨c92, ?_⟩
      obtain ⟨b93, e94, h⟩ := h
      refine ⟨b93, e94, ?_⟩
      obtain ⟨c95, h⟩ := h
      refine ⟨c95, ?_⟩
      intro x97 e96
      have h := h x97 e96
      exact ⟨h, K⟩
  · intro c98
    have h := h.2.2.2.2.2.2.2.2.2.2.1 c98
    obtain ⟨c99, h⟩ := h
    refine ⟨c99, ?_⟩
    obtain ⟨b100, e101, h⟩ := h
    refine ⟨b100, e101, ?_⟩
    obtain ⟨c102, h⟩ := h
    refine ⟨c102, ?_⟩
    intro x104 e103
    have h := h x104 e103
    exact ⟨h, K⟩
  · intro c105
    have h := h.2.2.2.2.2.2.2.2.2.2.2.1 c105
    obtain ⟨c106, h⟩ := h
    refine ⟨c106, ?_⟩
    obtain ⟨b107, e108, h⟩ := h
    refine ⟨b107, e108, ?_⟩
    obtain ⟨c109, h⟩ := h
    refine ⟨c109, ?_⟩
    intro x111 e110
    have h := h x111 e110
    exact ⟨h, K⟩
  · intro c112
    have h := h.2.2.2.2.2.2.2.2.2.2.2.2 c112
    obtain ⟨c113, h⟩ := h
    refine ⟨c113, ?_⟩
    intro x115 e114
    have h := h x115 e114
    exact ⟨h, K⟩
theorem kh_X9_size {Q : Int32 → HS → Prop} {v0 : Nat} {v1 : Int32} {S : HS} (h : P_X9_size v0 v1 Q S) : P_X9_size v0 v1 (fun r T => Q r T ∧ KH S T) S := kh_X9_size_0 h (kh_rf S)
set_option maxRecDepth 20000 in
set_option maxHeartbeats 1000000 in
theorem kh_X9_soaked_27 {Q : Int32 → HS → Prop} {v0 : Nat} {S0 S : HS} (h : P_X9_soaked_27 Q v0 S) (K : KH S0 S) : P_X9_soaked_27 (fun r T => Q r T ∧ KH S0 T) v0 S := by
  delta P_X9_soaked_27 at h ⊢
  obtain ⟨c1, h⟩ := h
  refine ⟨c1, ?_⟩
  refine cm_X9_refuse (kh_X9_refuse h) h (fun x2 x3 hp h g4 => ?_)
  have h := h g4
  have K := kh_tr K hp.2
  exact ⟨h, K⟩
set_option maxRecDepth 20000 in
set_option maxHeartbeats 1000000 in
theorem kh_X9_soaked_88 {Q : Int32 → HS → Prop} {s0 : Nat} {s1 : Int32} {S0 S : HS} (h : P_X9_soaked_88 Q s0 s1 S) (K : KH S0 S) : P_X9_soaked_88 (fun r T => Q r T ∧ KH S0 T) s0 s1 S := by
  delta P_X9_soaked_88 at h ⊢
  obtain ⟨c1, h⟩ := h
  refine ⟨c1, ?_⟩
  refine cm_X9_grant (kh_X9_grant h) h (fun x2 x3 hp h g4 => ?_)
  have h := h g4
  have K := kh_tr K hp.2
  exact ⟨h, K⟩
set_option maxRecDepth 20000 in
set_option maxHeartbeats 1000000 in
theorem kh_X9_soaked_0 {Q : Int32 → HS → Prop} {v0 : Nat} {S0 S : HS} (h : P_X9_soaked_0 Q v0 S) (K : KH S0 S) : P_X9_soaked_0 (fun r T => Q r T ∧ KH S0 T) v0 S := by
  delta P_X9_soaked_0 at h ⊢
  obtain ⟨c1, h⟩ := h
  refine ⟨c1, ?_⟩
  obtain ⟨b2, e3, h⟩ := h
  refine ⟨b2, e3, ?_⟩
  obtain ⟨c4, h⟩ := h
  refine ⟨c4, ?_⟩
  refine cm_X0_isOn (kh_X0_isOn h) h (fun x5 x6 hp h g7 g8 => ?_)
  have h := h g7 g8
  have K := kh_tr K hp.2
  refine ⟨?_, ?_⟩
  · intro c9
    have h := h.1 c9
    exact kh_X9_soaked_27 h K
  · intro c10
    have h := h.2 c10
    obtain ⟨b11, e12, h⟩ := h
    refine ⟨b11, e12, ?_⟩
    obtain ⟨b13, e14, h⟩ := h
    refine ⟨b13, e14, ?_⟩
    obtain ⟨c15, h⟩ := h
    refine ⟨c15, ?_⟩
    intro x17 e16
    have h := h x17 e16
    obtain ⟨c18, h⟩ := h
    refine ⟨c18, ?_⟩
    refine cm_X8_hasWalker (kh_X8_hasWalker h) h (fun x19 x20 hp h g21 g22 => ?_)
    have h := h g21 g22
    have K := kh_tr K hp.2
    refine ⟨?_, ?_⟩
    · intro c23
      have h := h.1 c23
      obtain ⟨b24, e25, h⟩ := h
      refine ⟨b24, e25, ?_⟩
      obtain ⟨c26, h⟩ := h
      refine ⟨c26, ?_⟩
      obtain ⟨b27, e28, h⟩ := h
      refine ⟨b27, e28, ?_⟩
      obtain ⟨b29, e30, h⟩ := h
      refine ⟨b29, e30, ?_⟩
      obtain ⟨c31, h⟩ := h
      refine ⟨c31, ?_⟩
      intro x33 e32
      have h := h x33 e32
      obtain ⟨c34, h⟩ := h
      refine ⟨c34, ?_⟩
      obtain ⟨c35, h⟩ := h
      refine ⟨c35, ?_⟩
      obtain ⟨b36, e37, h⟩ := h
      refine ⟨b36, e37, ?_⟩
      obtain ⟨c38, h⟩ := h
      refine ⟨c38, ?_⟩
      intro x40 e39
      have h := h x40 e39
      refine ⟨?_, ?_⟩
      · intro c41
        have h := h.1 c41
        obtain ⟨b42, e43, h⟩ := h
        refine ⟨b42, e43, ?_⟩
        obtain ⟨c44, h⟩ := h
        refine ⟨c44, ?_⟩
        obtain ⟨b45, e46, h⟩ := h
        refine ⟨b45, e46, ?_⟩
        obtain ⟨c47, h⟩ := h
        refine ⟨c47, ?_⟩
        refine cm_X2_allGot (kh_X2_allGot h) h (fun x48 x49 hp h g50 => ?_)
        have h := h g50
        have K := kh_tr K hp.2
        refine cm_X9_coatParts (kh_X9_coatParts h) h (fun x51 x52 hp h g53 => ?_)
        have h := h g53
        have K := kh_tr K hp.2
        refine ⟨?_, ?_⟩
        · intro c54
          have h := h.1 c54
          exact kh_X9_soaked_88 h K
        · intro c55
          have h := h.2 c55
          exact kh_X9_soaked_88 h K
      · intro c56
        have h := h.2 c56
        refine cm_X9_grant (kh_X9_grant h) h (fun x57 x58 hp h g59 => ?_)
        have h := h g59
        have K := kh_tr K hp.2
        exact ⟨h, K⟩
    · intro c60
      have h := h.2 c60
      exact kh_X9_soaked_27 h K
theorem kh_X9_soaked {Q : Int32 → HS → Prop} {v0 : Nat} {S : HS} (h : P_X9_soaked v0 Q S) : P_X9_soaked v0 (fun r T => Q r T ∧ KH S T) S := kh_X9_soaked_0 h (kh_rf S)
set_option maxRecDepth 20000 in
set_option maxHeartbeats 1000000 in
theorem kh_X9_stayTrouble_0 {Q : Int32 → HS → Prop} {v0 : Nat} {v1 : Int32} {S0 S : HS} (h : P_X9_stayTrouble_0 Q v0 v1 S) (K : KH S0 S) : P_X9_stayTrouble_0 (fun r T => Q r T ∧ KH S0 T) v0 v1 S := by
  delta P_X9_stayTrouble_0 at h ⊢
  obtain ⟨c1, h⟩ := h
  refine ⟨c1, ?_⟩
  obtain ⟨b2, e3, h⟩ := h
  refine ⟨b2, e3, ?_⟩
  obtain ⟨c4, h⟩ := h
  refine ⟨c4, ?_⟩
  refine cm_X0_isOn (kh_X0_isOn h) h (fun x5 x6 hp h g7 g8 => ?_)
  have h := h g7 g8
  have K := kh_tr K hp.2
  refine ⟨?_, ?_⟩
  · intro c9
    have h := h.1 c9
    exact ⟨h, K⟩
  · intro c10
    have h := h.2 c10
    obtain ⟨b11, e12, h⟩ := h
    refine ⟨b11, e12, ?_⟩
    obtain ⟨b13, e14, h⟩ := h
    refine ⟨b13, e14, ?_⟩
    obtain ⟨c15, h⟩ := h
    refine ⟨c15, ?_⟩
    intro x17 e16
    have h := h x17 e16
    obtain ⟨c18, h⟩ := h
    refine ⟨c18, ?_⟩
    refine cm_X8_hasWalker (kh_X8_hasWalker h) h (fun x19 x20 hp h g21 g22 => ?_)
    have h := h g21 g22
    have K := kh_tr K hp.2
    refine ⟨?_, ?_⟩
    · intro c23
      have h := h.1 c23
      refine ⟨?_, ?_⟩
      · intro c24
        have h := h.1 c24
        exact ⟨h, K⟩
      · intro c25
        have h := h.2 c25
        refine ⟨?_, ?_⟩
        · intro c26
          have h := h.1 c26
          obtain ⟨b27, e28, h⟩ := h
          refine ⟨b27, e28, ?_⟩
          obtain ⟨b29, e30, h⟩ := h
          refine ⟨b29, e30, ?_⟩
          obtain ⟨c31, h⟩ := h
          refine ⟨c31, ?_⟩
          obtain ⟨b32, e33, h⟩ := h
          refine ⟨b32, e33, ?_⟩
          obtain ⟨c34, h⟩ := h
          refine ⟨c34, ?_⟩
          intro x36 e35
          have h := h x36 e35
          obtain ⟨c37, h⟩ := h
          refine ⟨c37, ?_⟩
          refine cm_X8_canWait (kh_X8_canWait h) h (fun x38 x39 hp h g40 g41 => ?_)
          have h := h g40 g41
          have K := kh_tr K hp.2
          refine ⟨?_, ?_⟩
          · intro c42
            have h := h.1 c42
            obtain ⟨b43, e44, h⟩ := h
            refine ⟨b43, e44, ?_⟩
            obtain ⟨c45, h⟩ := h
            refine ⟨c45, ?_⟩
            obtain ⟨b46, e47, h⟩ := h
            refine ⟨b46, e47, ?_⟩
            obtain ⟨c48, h⟩ := h
            refine ⟨c48, ?_⟩
            intro x50 e49
            have h := h x50 e49
            refine ⟨?_, ?_⟩
            · intro c51
              have h := h.1 c51
              exact ⟨h, K⟩
            · intro c52
              have h := h.2 c52
              exact ⟨h, K⟩
          · intro c53
            have h := h.2 c53
            exact ⟨h, K⟩
        · intro c54
          have h := h.2 c54
          exact ⟨h, K⟩
    · intro c55
      have h := h.2 c55
      exact ⟨h, K⟩
theorem kh_X9_stayTrouble {Q : Int32 → HS → Prop} {v0 : Nat} {v1 : Int32} {S : HS} (h : P_X9_stayTrouble v0 v1 Q S) : P_X9_stayTrouble v0 v1 (fun r T => Q r T ∧ KH S T) S := kh_X9_stayTrouble_0 h (kh_rf S)
set_option maxRecDepth 20000 in
set_option maxHeartbeats 1000000 in
theorem kh_X9_stay_111 {Q : Int32 → HS → Prop} {X58 X58_2 : Nat → Int32 → Int64 → Int32 → HS → Prop} {v0 : Nat} {v1 : Int32} {v2 : Int64} {v4 : Int32} {S0 S : HS} (h : P_X9_stay_111 Q X58 v0 v1 v2 v4 S) (K : KH S0 S) (hX58 : ∀ (u0 : Nat) (u1 : Int32) (u2 : Int64) (u3 : Int32) (u4 : HS), X58 u0 u1 u2 u3 u4 → KH S0 u4 → X58_2 u0 u1 u2 u3 u4) : P_X9_stay_111 (fun r T => Q r T ∧ KH S0 T) X58_2 v0 v1 v2 v4 S := by
  delta P_X9_stay_111 at h ⊢
  obtain ⟨c1, h⟩ := h
  refine ⟨c1, ?_⟩
  obtain ⟨b2, e3, h⟩ := h
  refine ⟨b2, e3, ?_⟩
  obtain ⟨c4, h⟩ := h
  refine ⟨c4, ?_⟩
  obtain ⟨b5, e6, h⟩ := h
  refine ⟨b5, e6, ?_⟩
  obtain ⟨c7, h⟩ := h
  refine ⟨c7, ?_⟩
  intro x9 e8
  have h := h x9 e8
  intro x11 e10
  have h := h x11 e10
  intro x13 e12
  have h := h x13 e12
  have K := kh_I K e12
  intro x15 e14
  have h := h x15 e14
  exact hX58 _ _ _ _ _ h K
set_option maxRecDepth 20000 in
set_option maxHeartbeats 1000000 in
theorem khB_X9_stay_58 {Q : Int32 → HS → Prop} {X58 X58_2 : Nat → Int32 → Int64 → Int32 → HS → Prop} {v0 : Nat} {v1 : Int32} {v2 : Int64} {v4 : Int32} {S0 S : HS} (h : B_X9_stay_58 Q X58 v0 v1 v2 v4 S) (K : KH S0 S) (hX58 : ∀ (u0 : Nat) (u1 : Int32) (u2 : Int64) (u3 : Int32) (u4 : HS), X58 u0 u1 u2 u3 u4 → KH S0 u4 → X58_2 u0 u1 u2 u3 u4) : B_X9_stay_58 (fun r T => Q r T ∧ KH S0 T) X58_2 v0 v1 v2 v4 S := by
  delta B_X9_stay_58 at h ⊢
  refine ⟨?_, ?_⟩
  · intro c1
    have h := h.1 c1
    exact ⟨h, K⟩
  · intro c2
    have h := h.2 c2
    obtain ⟨c3, h⟩ := h
    refine ⟨c3, ?_⟩
    obtain ⟨b4, e5, h⟩ := h
    refine ⟨b4, e5, ?_⟩
    obtain ⟨b6, e7, h⟩ := h
    refine ⟨b6, e7, ?_⟩
    obtain ⟨b8, e9, h⟩ := h
    refine ⟨b8, e9, ?_⟩
    obtain ⟨c10, h⟩ := h
    refine ⟨c10, ?_⟩
    obtain ⟨b11, e12, h⟩ := h
    refine ⟨b11, e12, ?_⟩
    obtain ⟨c13, h⟩ := h
    refine ⟨c13, ?_⟩
    intro x15 e14
    have h := h x15 e14
    obtain ⟨c16, h⟩ := h
    refine ⟨c16, ?_⟩
    refine cm_X8_hourOf (kh_X8_hourOf h) h (fun x17 x18 hp h g19 => ?_)
    have h := h g19
    have K := kh_tr K hp.2
    obtain ⟨c20, h⟩ := h
    refine ⟨c20, ?_⟩
    refine cm_X0_rainsIn (kh_X0_rainsIn h) h (fun x21 x22 hp h g23 g24 => ?_)
    have h := h g23 g24
    have K := kh_tr K hp.2
    refine ⟨?_, ?_⟩
    · intro c25
      have h := h.1 c25
      exact kh_X9_stay_111 h K hX58
    · intro c26
      have h := h.2 c26
      obtain ⟨b27, e28, h⟩ := h
      refine ⟨b27, e28, ?_⟩
      obtain ⟨c29, h⟩ := h
      refine ⟨c29, ?_⟩
      obtain ⟨b30, e31, h⟩ := h
      refine ⟨b30, e31, ?_⟩
      obtain ⟨c32, h⟩ := h
      refine ⟨c32, ?_⟩
      obtain ⟨b33, e34, h⟩ := h
      refine ⟨b33, e34, ?_⟩
      obtain ⟨c35, h⟩ := h
      refine ⟨c35, ?_⟩
      obtain ⟨c36, h⟩ := h
      refine ⟨c36, ?_⟩
      intro x38 e37
      have h := h x38 e37
      intro x40 e39
      have h := h x40 e39
      obtain ⟨c41, h⟩ := h
      refine ⟨c41, ?_⟩
      intro x43 e42
      have h := h x43 e42
      have K := kh_J K e42
      exact kh_X9_stay_111 h K hX58
theorem kh_X9_stay_58 {Q : Int32 → HS → Prop} {v0 : Nat} {v1 : Int32} {v2 : Int64} {v4 : Int32} {S0 S : HS} (h : P_X9_stay_58 Q v0 v1 v2 v4 S) (K : KH S0 S) : P_X9_stay_58 (fun r T => Q r T ∧ KH S0 T) v0 v1 v2 v4 S := h (fun v0 v1 v2 v4 S => KH S0 S → P_X9_stay_58 (fun r T => Q r T ∧ KH S0 T) v0 v1 v2 v4 S) (fun v0 v1 v2 v4 S hB K => fd_X9_stay_58 (khB_X9_stay_58 hB K (fun _ _ _ _ _ hx K => hx K))) K
set_option maxRecDepth 20000 in
set_option maxHeartbeats 1000000 in
theorem kh_X9_stay_0 {Q : Int32 → HS → Prop} {v0 : Nat} {v1 : Int32} {S0 S : HS} (h : P_X9_stay_0 Q v0 v1 S) (K : KH S0 S) : P_X9_stay_0 (fun r T => Q r T ∧ KH S0 T) v0 v1 S := by
  delta P_X9_stay_0 at h ⊢
  obtain ⟨c1, h⟩ := h
  refine ⟨c1, ?_⟩
  refine cm_X9_stayTrouble (kh_X9_stayTrouble h) h (fun x2 x3 hp h g4 => ?_)
  have h := h g4
  have K := kh_tr K hp.2
  refine cm_X9_refusedBy (kh_X9_refusedBy h) h (fun x5 x6 hp h g7 g8 => ?_)
  have h := h g7 g8
  have K := kh_tr K hp.2
  refine ⟨?_, ?_⟩
  · intro c9
    have h := h.1 c9
    obtain ⟨b10, e11, h⟩ := h
    refine ⟨b10, e11, ?_⟩
    obtain ⟨c12, h⟩ := h
    refine ⟨c12, ?_⟩
    refine cm_X0_keepForUndo (kh_X0_keepForUndo h) h (fun x13 hp h g14 => ?_)
    have h := h g14
    have K := kh_tr K hp.2
    obtain ⟨b15, e16, h⟩ := h
    refine ⟨b15, e16, ?_⟩
    obtain ⟨b17, e18, h⟩ := h
    refine ⟨b17, e18, ?_⟩
    obtain ⟨c19, h⟩ := h
    refine ⟨c19, ?_⟩
    obtain ⟨b20, e21, h⟩ := h
    refine ⟨b20, e21, ?_⟩
    obtain ⟨b22, e23, h⟩ := h
    refine ⟨b22, e23, ?_⟩
    obtain ⟨c24, h⟩ := h
    refine ⟨c24, ?_⟩
    intro x26 e25
    have h := h x26 e25
    obtain ⟨c27, h⟩ := h
    refine ⟨c27, ?_⟩
    obtain ⟨c28, h⟩ := h
    refine ⟨c28, ?_⟩
    obtain ⟨b29, e30, h⟩ := h
    refine ⟨b29, e30, ?_⟩
    obtain ⟨b31, e32, h⟩ := h
    refine ⟨b31, e32, ?_⟩
    obtain ⟨c33, h⟩ := h
    refine ⟨c33, ?_⟩
    obtain ⟨b34, e35, h⟩ := h
    refine ⟨b34, e35, ?_⟩
    obtain ⟨c36, h⟩ := h
    refine ⟨c36, ?_⟩
    intro x38 e37
    have h := h x38 e37
    obtain ⟨c39, h⟩ := h
    refine ⟨c39, ?_⟩
    refine cm_X8_dripOn (kh_X8_dripOn h) h (fun x40 x41 hp h g42 => ?_)
    have h := h g42
    have K := kh_tr K hp.2
    intro x44 e43
    have h := h x44 e43
    exact kh_X9_stay_58 h K
  · intro c45
    have h := h.2 c45
    exact ⟨h, K⟩
theorem kh_X9_stay {Q : Int32 → HS → Prop} {v0 : Nat} {v1 : Int32} {S : HS} (h : P_X9_stay v0 v1 Q S) : P_X9_stay v0 v1 (fun r T => Q r T ∧ KH S T) S := kh_X9_stay_0 h (kh_rf S)
set_option maxRecDepth 20000 in
set_option maxHeartbeats 1000000 in
theorem kh_X9_trouble_0 {Q : Int32 → HS → Prop} {v0 : Nat} {S0 S : HS} (h : P_X9_trouble_0 Q v0 S) (K : KH S0 S) : P_X9_trouble_0 (fun r T => Q r T ∧ KH S0 T) v0 S := by
  delta P_X9_trouble_0 at h ⊢
  obtain ⟨c1, h⟩ := h
  refine ⟨c1, ?_⟩
  intro x3 e2
  have h := h x3 e2
  exact ⟨h, K⟩
theorem kh_X9_trouble {Q : Int32 → HS → Prop} {v0 : Nat} {S : HS} (h : P_X9_trouble v0 Q S) : P_X9_trouble v0 (fun r T => Q r T ∧ KH S T) S := kh_X9_trouble_0 h (kh_rf S)
set_option maxRecDepth 20000 in
set_option maxHeartbeats 1000000 in
theorem kh_X9_undo_17 {Q : Int32 → HS → Prop} {s0 : Nat} {s1 : Int32} {S0 S : HS} (h : P_X9_undo_17 Q s0 s1 S) (K : KH S0 S) : P_X9_undo_17 (fun r T => Q r T ∧ KH S0 T) s0 s1 S := by
  delta P_X9_undo_17 at h ⊢
  obtain ⟨c1, h⟩ := h
  refine ⟨c1, ?_⟩
  refine cm_X9_refusedBy (kh_X9_refusedBy h) h (fun x2 x3 hp h g4 g5 => ?_)
  have h := h g4 g5
  have K := kh_tr K hp.2
  refine ⟨?_, ?_⟩
  · intro c6
    have h := h.1 c6
    exact ⟨h, K⟩
  · intro c7
    have h := h.2 c7
    exact ⟨h, K⟩
set_option maxRecDepth 20000 in
set_option maxHeartbeats 1000000 in
theorem kh_X9_undo_0 {Q : Int32 → HS → Prop} {v0 : Nat} {S0 S : HS} (h : P_X9_undo_0 Q v0 S) (K : KH S0 S) : P_X9_undo_0 (fun r T => Q r T ∧ KH S0 T) v0 S := by
  delta P_X9_undo_0 at h ⊢
  obtain ⟨c1, h⟩ := h
  refine ⟨c1, ?_⟩
  obtain ⟨b2, e3, h⟩ := h
  refine ⟨b2, e3, ?_⟩
  obtain ⟨c4, h⟩ := h
  refine ⟨c4, ?_⟩
  refine cm_X0_takeBack (kh_X0_takeBack h) h (fun x5 x6 hp h g7 g8 => ?_)
  have h := h g7 g8
  have K := kh_tr K hp.2
  refine ⟨?_, ?_⟩
  · intro c9
    have h := h.1 c9
    exact kh_X9_undo_17 h K
  · intro c10
    have h := h.2 c10
    exact kh_X9_undo_17 h K
theorem kh_X9_undo {Q : Int32 → HS → Prop} {v0 : Nat} {S : HS} (h : P_X9_undo v0 Q S) : P_X9_undo v0 (fun r T => Q r T ∧ KH S T) S := kh_X9_undo_0 h (kh_rf S)
set_option maxRecDepth 20000 in
set_option maxHeartbeats 1000000 in
theorem kh_X9_walker_21 {Q : Int32 → HS → Prop} {v0 : Nat} {S0 S : HS} (h : P_X9_walker_21 Q v0 S) (K : KH S0 S) : P_X9_walker_21 (fun r T => Q r T ∧ KH S0 T) v0 S := by
  delta P_X9_walker_21 at h ⊢
  obtain ⟨c1, h⟩ := h
  refine ⟨c1, ?_⟩
  refine cm_X9_refuse (kh_X9_refuse h) h (fun x2 x3 hp h g4 => ?_)
  have h := h g4
  have K := kh_tr K hp.2
  exact ⟨h, K⟩
set_option maxRecDepth 20000 in
set_option maxHeartbeats 1000000 in
theorem kh_X9_walker_0 {Q : Int32 → HS → Prop} {v0 : Nat} {v1 : Int32} {v2 : Int32} {S0 S : HS} (h : P_X9_walker_0 Q v0 v1 v2 S) (K : KH S0 S) : P_X9_walker_0 (fun r T => Q r T ∧ KH S0 T) v0 v1 v2 S := by
  delta P_X9_walker_0 at h ⊢
  obtain ⟨c1, h⟩ := h
  refine ⟨c1, ?_⟩
  obtain ⟨b2, e3, h⟩ := h
  refine ⟨b2, e3, ?_⟩
  obtain ⟨c4, h⟩ := h
  refine ⟨c4, ?_⟩
  refine cm_X8_hasWalker (kh_X8_hasWalker h) h (fun x5 x6 hp h g7 g8 => ?_)
  have h := h g7 g8
  have K := kh_tr K hp.2
  refine ⟨?_, ?_⟩
  · intro c9
    have h := h.1 c9
    exact kh_X9_walker_21 h K
  · intro c10
    have h := h.2 c10
    refine ⟨?_, ?_⟩
    · intro c11
      have h := h.1 c11
      exact kh_X9_walker_21 h K
    · intro c12
      have h := h.2 c12
      refine ⟨?_, ?_⟩
      · intro c13
        have h := h.1 c13
        obtain ⟨b14, e15, h⟩ := h
        refine ⟨b14, e15, ?_⟩
        obtain ⟨c16, h⟩ := h
        refine ⟨c16, ?_⟩
        obtain ⟨b17, e18, h⟩ := h
        refine ⟨b17, e18, ?_⟩
        obtain ⟨c19, h⟩ := h
        refine ⟨c19, ?_⟩
        obtain ⟨c20, h⟩ := h
        refine ⟨c20, ?_⟩
        obtain ⟨b21, e22, h⟩ := h
        refine ⟨b21, e22, ?_⟩
        obtain ⟨c23, h⟩ := h
        refine ⟨c23, ?_⟩
        refine cm_X6_tell (kh_X6_tell h) h (fun x24 x25 hp h g26 => ?_)
        have h := h g26
        have K := kh_tr K hp.2
        refine cm_X9_grant (kh_X9_grant h) h (fun x27 x28 hp h g29 => ?_)
        have h := h g29
        have K := kh_tr K hp.2
        exact ⟨h, K⟩
      · intro c30
        have h := h.2 c30
        exact kh_X9_walker_21 h K
theorem kh_X9_walker {Q : Int32 → HS → Prop} {v0 : Nat} {v1 : Int32} {v2 : Int32} {S : HS} (h : P_X9_walker v0 v1 v2 Q S) : P_X9_walker v0 v1 v2 (fun r T => Q r T ∧ KH S T) S := kh_X9_walker_0 h (kh_rf S)
set_option maxRecDepth 20000 in
set_option maxHeartbeats 1000000 in
theorem kh_X9_wet_0 {Q : Int64 → HS → Prop} {v0 : Nat} {v1 : Int32} {v2 : Int32} {v3 : Int32} {v4 : Int32} {v5 : Int32} {v6 : Int32} {S0 S : HS} (h : P_X9_wet_0 Q v0 v1 v2 v3 v4 v5 v6 S) (K : KH S0 S) : P_X9_wet_0 (fun r T => Q r T ∧ KH S0 T) v0 v1 v2 v3 v4 v5 v6 S := by
  delta P_X9_wet_0 at h ⊢
  obtain ⟨c1, h⟩ := h
  refine ⟨c1, ?_⟩
  refine cm_X9_legTrouble (kh_X9_legTrouble h) h (fun x2 x3 hp h g4 => ?_)
  have h := h g4
  have K := kh_tr K hp.2
  refine cm_X9_refusedBy (kh_X9_refusedBy h) h (fun x5 x6 hp h g7 g8 => ?_)
  have h := h g7 g8
  have K := kh_tr K hp.2
  refine ⟨?_, ?_⟩
  · intro c9
    have h := h.1 c9
    obtain ⟨b10, e11, h⟩ := h
    refine ⟨b10, e11, ?_⟩
    obtain ⟨b12, e13, h⟩ := h
    refine ⟨b12, e13, ?_⟩
    obtain ⟨c14, h⟩ := h
    refine ⟨c14, ?_⟩
    obtain ⟨b15, e16, h⟩ := h
    refine ⟨b15, e16, ?_⟩
    obtain ⟨c17, h⟩ := h
    refine ⟨c17, ?_⟩
    obtain ⟨c18, h⟩ := h
    refine ⟨c18, ?_⟩
    obtain ⟨b19, e20, h⟩ := h
    refine ⟨b19, e20, ?_⟩
    obtain ⟨b21, e22, h⟩ := h
    refine ⟨b21, e22, ?_⟩
    obtain ⟨c23, h⟩ := h
    refine ⟨c23, ?_⟩
    obtain ⟨b24, e25, h⟩ := h
    refine ⟨b24, e25, ?_⟩
    obtain ⟨c26, h⟩ := h
    refine ⟨c26, ?_⟩
    obtain ⟨c27, h⟩ := h
    refine ⟨c27, ?_⟩
    obtain ⟨b28, e29, h⟩ := h
    refine ⟨b28, e29, ?_⟩
    obtain ⟨b30, e31, h⟩ := h
    refine ⟨b30, e31, ?_⟩
    obtain ⟨c32, h⟩ := h
    refine ⟨c32, ?_⟩
    obtain ⟨b33, e34, h⟩ := h
    refine ⟨b33, e34, ?_⟩
    obtain ⟨c35, h⟩ := h
    refine ⟨c35, ?_⟩
    obtain ⟨c36, h⟩ := h
    refine ⟨c36, ?_⟩
    obtain ⟨b37, e38, h⟩ := h
    refine ⟨b37, e38, ?_⟩
    obtain ⟨c39, h⟩ := h
    refine ⟨c39, ?_⟩
    refine cm_X1_wetOf (kh_X1_wetOf h) h (fun x40 x41 hp h g42 => ?_)
    have h := h g42
    have K := kh_tr K hp.2
    refine cm_X9_fraction (kh_X9_fraction h) h (fun x43 x44 hp h g45 => ?_)
    have h := h g45
    have K := kh_tr K hp.2
    exact ⟨h, K⟩
  · intro c46
    have h := h.2 c46
    exact ⟨h, K⟩
theorem kh_X9_wet {Q : Int64 → HS → Prop} {v0 : Nat} {v1 : Int32} {v2 : Int32} {v3 : Int32} {v4 : Int32} {v5 : Int32} {v6 : Int32} {S : HS} (h : P_X9_wet v0 v1 v2 v3 v4 v5 v6 Q S) : P_X9_wet v0 v1 v2 v3 v4 v5 v6 (fun r T => Q r T ∧ KH S T) S := kh_X9_wet_0 h (kh_rf S)
set_option maxRecDepth 20000 in
set_option maxHeartbeats 1000000 in
theorem kh_X9_wetness_27 {Q : Int64 → HS → Prop} {v0 : Nat} {S0 S : HS} (h : P_X9_wetness_27 Q v0 S) (K : KH S0 S) : P_X9_wetness_27 (fun r T => Q r T ∧ KH S0 T) v0 S := by
  delta P_X9_wetness_27 at h ⊢
  obtain ⟨c1, h⟩ := h
  refine ⟨c1, ?_⟩
  refine cm_X9_refuse (kh_X9_refuse h) h (fun x2 x3 hp h g4 => ?_)
  have h := h g4
  have K := kh_tr K hp.2
  exact ⟨h, K⟩
set_option maxRecDepth 20000 in
set_option maxHeartbeats 1000000 in
theorem kh_X9_wetness_0 {Q : Int64 → HS → Prop} {v0 : Nat} {v1 : Int32} {S0 S : HS} (h : P_X9_wetness_0 Q v0 v1 S) (K : KH S0 S) : P_X9_wetness_0 (fun r T => Q r T ∧ KH S0 T) v0 v1 S := by
  delta P_X9_wetness_0 at h ⊢
  obtain ⟨c1, h⟩ := h
  refine ⟨c1, ?_⟩
  obtain ⟨b2, e3, h⟩ := h
  refine ⟨b2, e3, ?_⟩
  obtain ⟨c4, h⟩ := h
  refine ⟨c4, ?_⟩
  refine cm_X0_isOn (kh_X0_isOn h) h (fun x5 x6 hp h g7 g8 => ?_)
  have h := h g7 g8
  have K := kh_tr K hp.2
  refine ⟨?_, ?_⟩
  · intro c9
    have h := h.1 c9
    exact kh_X9_wetness_27 h K
  · intro c10
    have h := h.2 c10
    obtain ⟨b11, e12, h⟩ := h
    refine ⟨b11, e12, ?_⟩
    obtain ⟨b13, e14, h⟩ := h
    refine ⟨b13, e14, ?_⟩
    obtain ⟨c15, h⟩ := h
    refine ⟨c15, ?_⟩
    intro x17 e16
    have h := h x17 e16
    obtain ⟨c18, h⟩ := h
    refine ⟨c18, ?_⟩
    refine cm_X8_hasWalker (kh_X8_hasWalker h) h (fun x19 x20 hp h g21 g22 => ?_)
    have h := h g21 g22
    have K := kh_tr K hp.2
    refine ⟨?_, ?_⟩
    · intro c23
      have h := h.1 c23
      intro x25 e24
      have h := h x25 e24
      have K := kh_I K e24
      obtain ⟨b26, e27, h⟩ := h
      refine ⟨b26, e27, ?_⟩
      obtain ⟨c28, h⟩ := h
      refine ⟨c28, ?_⟩
      obtain ⟨b29, e30, h⟩ := h
      refine ⟨b29, e30, ?_⟩
      obtain ⟨c31, h⟩ := h
      refine ⟨c31, ?_⟩
      refine cm_X2_allGot (kh_X2_allGot h) h (fun x32 x33 hp h g34 => ?_)
      have h := h g34
      have K := kh_tr K hp.2
      obtain ⟨b35, e36, h⟩ := h
      refine ⟨b35, e36, ?_⟩
      obtain ⟨c37, h⟩ := h
      refine ⟨c37, ?_⟩
      obtain ⟨b38, e39, h⟩ := h
      refine ⟨b38, e39, ?_⟩
      obtain ⟨b40, e41, h⟩ := h
      refine ⟨b40, e41, ?_⟩
      obtain ⟨c42, h⟩ := h
      refine ⟨c42, ?_⟩
      intro x44 e43
      have h := h x44 e43
      obtain ⟨c45, h⟩ := h
      refine ⟨c45, ?_⟩
      obtain ⟨c46, h⟩ := h
      refine ⟨c46, ?_⟩
      obtain ⟨b47, e48, h⟩ := h
      refine ⟨b47, e48, ?_⟩
      refine cm_X9_coatParts (kh_X9_coatParts h) h (fun x49 x50 hp h g51 => ?_)
      have h := h g51
      have K := kh_tr K hp.2
      intro x53 e52
      have h := h x53 e52
      intro x55 e54
      have h := h x55 e54
      refine cm_X9_fraction (kh_X9_fraction h) h (fun x56 x57 hp h g58 => ?_)
      have h := h g58
      have K := kh_tr K hp.2
      exact ⟨h, K⟩
    · intro c59
      have h := h.2 c59
      exact kh_X9_wetness_27 h K
theorem kh_X9_wetness {Q : Int64 → HS → Prop} {v0 : Nat} {v1 : Int32} {S : HS} (h : P_X9_wetness v0 v1 Q S) : P_X9_wetness v0 v1 (fun r T => Q r T ∧ KH S T) S := kh_X9_wetness_0 h (kh_rf S)
set_option maxRecDepth 20000 in
set_option maxHeartbeats 1000000 in
theorem kh_X9_where_0 {Q : Int32 → HS → Prop} {v0 : Nat} {S0 S : HS} (h : P_X9_where_0 Q v0 S) (K : KH S0 S) : P_X9_where_0 (fun r T => Q r T ∧ KH S0 T) v0 S := by
  delta P_X9_where_0 at h ⊢
  obtain ⟨c1, h⟩ := h
  refine ⟨c1, ?_⟩
  intro x3 e2
  have h := h x3 e2
  refine ⟨?_, ?_⟩
  · intro c4
    have h := h.1 c4
    exact ⟨h, K⟩
  · intro c5
    have h := h.2 c5
    intro x7 e6
    have h := h x7 e6
    exact ⟨h, K⟩
theorem kh_X9_where {Q : Int32 → HS → Prop} {v0 : Nat} {S : HS} (h : P_X9_where v0 Q S) : P_X9_where v0 (fun r T => Q r T ∧ KH S T) S := kh_X9_where_0 h (kh_rf S)
set_option maxRecDepth 20000 in
set_option maxHeartbeats 1000000 in
theorem kh_X9_world_12 {Q : Int32 → HS → Prop} {v0 : Nat} {S0 S : HS} (h : P_X9_world_12 Q v0 S) (K : KH S0 S) : P_X9_world_12 (fun r T => Q r T ∧ KH S0 T) v0 S := by
  delta P_X9_world_12 at h ⊢
  obtain ⟨c1, h⟩ := h
  refine ⟨c1, ?_⟩
  refine cm_X9_refuse (kh_X9_refuse h) h (fun x2 x3 hp h g4 => ?_)
  have h := h g4
  have K := kh_tr K hp.2
  exact ⟨h, K⟩
set_option maxRecDepth 20000 in
set_option maxHeartbeats 1000000 in
theorem kh_X9_world_0 {Q : Int32 → HS → Prop} {v0 : Nat} {v1 : Int32} {S0 S : HS} (h : P_X9_world_0 Q v0 v1 S) (K : KH S0 S) : P_X9_world_0 (fun r T => Q r T ∧ KH S0 T) v0 v1 S := by
  delta P_X9_world_0 at h ⊢
  refine ⟨?_, ?_⟩
  · intro c1
    have h := h.1 c1
    exact kh_X9_world_12 h K
  · intro c2
    have h := h.2 c2
    obtain ⟨c3, h⟩ := h
    refine ⟨c3, ?_⟩
    intro x5 e4
    have h := h x5 e4
    refine ⟨?_, ?_⟩
    · intro c6
      have h := h.1 c6
      obtain ⟨b7, e8, h⟩ := h
      refine ⟨b7, e8, ?_⟩
      obtain ⟨b9, e10, h⟩ := h
      refine ⟨b9, e10, ?_⟩
      obtain ⟨c11, h⟩ := h
      refine ⟨c11, ?_⟩
      refine cm_X4_read (kh_X4_read h) h (fun x12 x13 hp h g14 g15 => ?_)
      have h := h g14 g15
      have K := kh_tr K hp.2
      intro x17 e16
      have h := h x17 e16
      have K := kh_I K e16
      obtain ⟨b18, e19, h⟩ := h
      refine ⟨b18, e19, ?_⟩
      obtain ⟨c20, h⟩ := h
      refine ⟨c20, ?_⟩
      intro x22 e21
      have h := h x22 e21
      intro x24 e23
      have h := h x24 e23
      have K := kh_I K e23
      obtain ⟨b25, e26, h⟩ := h
      refine ⟨b25, e26, ?_⟩
      obtain ⟨c27, h⟩ := h
      refine ⟨c27, ?_⟩
      intro x29 e28
      have h := h x29 e28
      intro x31 e30
      have h := h x31 e30
      have K := kh_I K e30
      refine ⟨?_, ?_⟩
      · intro c32
        have h := h.1 c32
        obtain ⟨b33, e34, h⟩ := h
        refine ⟨b33, e34, ?_⟩
        obtain ⟨b35, e36, h⟩ := h
        refine ⟨b35, e36, ?_⟩
        obtain ⟨c37, h⟩ := h
        refine ⟨c37, ?_⟩
        refine cm_X4_exchange (kh_X4_exchange h) h (fun x38 x39 hp h g40 => ?_)
        have h := h g40
        have K := kh_tr K hp.2
        intro x42 e41
        have h := h x42 e41
        have K := kh_R K e41
        obtain ⟨b43, e44, h⟩ := h
        refine ⟨b43, e44, ?_⟩
        obtain ⟨c45, h⟩ := h
        refine ⟨c45, ?_⟩
        refine cm_X7_forget (kh_X7_forget h) h (fun x46 hp h g47 => ?_)
        have h := h g47
        have K := kh_tr K hp.2
        obtain ⟨b48, e49, h⟩ := h
        refine ⟨b48, e49, ?_⟩
        obtain ⟨c50, h⟩ := h
        refine ⟨c50, ?_⟩
        refine cm_X0_end (kh_X0_end h) h (fun x51 hp h g52 => ?_)
        have h := h g52
        have K := kh_tr K hp.2
        obtain ⟨b53, e54, h⟩ := h
        refine ⟨b53, e54, ?_⟩
        obtain ⟨c55, h⟩ := h
        refine ⟨c55, ?_⟩
        intro x57 e56
        have h := h x57 e56
        refine cm_X9_grant (kh_X9_grant h) h (fun x58 x59 hp h g60 => ?_)
        have h := h g60
        have K := kh_tr K hp.2
        exact ⟨h, K⟩
      · intro c61
        have h := h.2 c61
        refine cm_X9_refuse (kh_X9_refuse h) h (fun x62 x63 hp h g64 => ?_)
        have h := h g64
        have K := kh_tr K hp.2
        exact ⟨h, K⟩
    · intro c65
      have h := h.2 c65
      exact kh_X9_world_12 h K
theorem kh_X9_world {Q : Int32 → HS → Prop} {v0 : Nat} {v1 : Int32} {S : HS} (h : P_X9_world v0 v1 Q S) : P_X9_world v0 v1 (fun r T => Q r T ∧ KH S T) S := kh_X9_world_0 h (kh_rf S)
set_option maxRecDepth 20000 in
set_option maxHeartbeats 1000000 in
theorem kh_X9_worst_0 {Q : Int32 → HS → Prop} {v0 : Nat} {v1 : Int32} {v2 : Int32} {v3 : Int32} {v4 : Int32} {S0 S : HS} (h : P_X9_worst_0 Q v0 v1 v2 v3 v4 S) (K : KH S0 S) : P_X9_worst_0 (fun r T => Q r T ∧ KH S0 T) v0 v1 v2 v3 v4 S := by
  delta P_X9_worst_0 at h ⊢
  obtain ⟨c1, h⟩ := h
  refine ⟨c1, ?_⟩
  refine cm_X9_tripTrouble (kh_X9_tripTrouble h) h (fun x2 x3 hp h g4 => ?_)
  have h := h g4
  have K := kh_tr K hp.2
  refine cm_X9_refusedBy (kh_X9_refusedBy h) h (fun x5 x6 hp h g7 g8 => ?_)
  have h := h g7 g8
  have K := kh_tr K hp.2
  refine ⟨?_, ?_⟩
  · intro c9
    have h := h.1 c9
    obtain ⟨b10, e11, h⟩ := h
    refine ⟨b10, e11, ?_⟩
    obtain ⟨b12, e13, h⟩ := h
    refine ⟨b12, e13, ?_⟩
    obtain ⟨c14, h⟩ := h
    refine ⟨c14, ?_⟩
    obtain ⟨b15, e16, h⟩ := h
    refine ⟨b15, e16, ?_⟩
    obtain ⟨c17, h⟩ := h
    refine ⟨c17, ?_⟩
    obtain ⟨c18, h⟩ := h
    refine ⟨c18, ?_⟩
    obtain ⟨b19, e20, h⟩ := h
    refine ⟨b19, e20, ?_⟩
    obtain ⟨b21, e22, h⟩ := h
    refine ⟨b21, e22, ?_⟩
    obtain ⟨c23, h⟩ := h
    refine ⟨c23, ?_⟩
    obtain ⟨b24, e25, h⟩ := h
    refine ⟨b24, e25, ?_⟩
    obtain ⟨c26, h⟩ := h
    refine ⟨c26, ?_⟩
    obtain ⟨c27, h⟩ := h
    refine ⟨c27, ?_⟩
    obtain ⟨b28, e29, h⟩ := h
    refine ⟨b28, e29, ?_⟩
    obtain ⟨b30, e31, h⟩ := h
    refine ⟨b30, e31, ?_⟩
    obtain ⟨c32, h⟩ := h
    refine ⟨c32, ?_⟩
    obtain ⟨b33, e34, h⟩ := h
    refine ⟨b33, e34, ?_⟩
    obtain ⟨c35, h⟩ := h
    refine ⟨c35, ?_⟩
    obtain ⟨c36, h⟩ := h
    refine ⟨c36, ?_⟩
    obtain ⟨b37, e38, h⟩ := h
    refine ⟨b37, e38, ?_⟩
    obtain ⟨c39, h⟩ := h
    refine ⟨c39, ?_⟩
    refine cm_X1_worstSpeed (kh_X1_worstSpeed h) h (fun x40 x41 hp h g42 => ?_)
    have h := h g42
    have K := kh_tr K hp.2
    exact ⟨h, K⟩
  · intro c43
    have h := h.2 c43
    exact ⟨h, K⟩
theorem kh_X9_worst {Q : Int32 → HS → Prop} {v0 : Nat} {v1 : Int32} {v2 : Int32} {v3 : Int32} {v4 : Int32} {S : HS} (h : P_X9_worst v0 v1 v2 v3 v4 Q S) : P_X9_worst v0 v1 v2 v3 v4 (fun r T => Q r T ∧ KH S T) S := kh_X9_worst_0 h (kh_rf S)
end
section
/-! world(n) of the reference, with all that was told, 2 -/
section Ct15
variable {f : Nat → Int32} {n a rd nm ns nk p : Nat} {A : AS} {σ : Res} {Q : Int32 → HS → Prop} {QU : HS → Prop} {S T : HS} {v0 : Nat}
def WmX (m : Nat) (S : HS) (R : AS ⊕ (Nat × Nat)) (RG : GC) (x : Int32) (T : HS) : Prop := WmB R m x T ∧ (∀ b, b ∈ hL S → b ≠ m → fI T b = fI S b ∧ fR T b = fR S b) ∧ (∀ j, j ≠ 3 → j ≠ 4 → fR T m j = fR S m j) ∧ (∀ x, x ∈ hL T → x ∈ hL S ∨ hK T x = 10 ∨ (12 ≤ hK T x ∧ hK T x < 16)) ∧ match R with
  | .inl A => ∃ rd, fR T m 3 = some rd ∧ rd ∉ hL S ∧ ob T rd 10 ∧ CtM rd A RG T ∧ Cnt rd A T ∧ DMr m rd T ∧ ∀ i b, fR T rd i = some b → b ∉ hL S
  | .inr _ => fR T m 3 = fR S m 3
set_option maxHeartbeats 1000000 in
theorem sq_X11_world_ok {v1 : Int32} (h : P_X11_world v0 v1 Q S) (hv : v1 = nI n) (hn : n ≤ 900) (ha : fR S v0 5 = some a) (oa : ob S a 12) (hN9 : hN S a = 900) (hf : ∀ j, j < n → fI S a j = f j) (hB : ∀ j, j < n → -128 ≤ (f j).toInt ∧ (f j).toInt ≤ 127) (hle : v1 ≤ fI S v0 6) : P_X11_world v0 v1 (fun x T => Q x T ∧ WmX v0 S (sAll f n 1000 0 A00) (gAll f n 1000 0 A00 G00) x T) S := by
  have iv : v1.toInt = (n : Int) := by rw [hv]; exact nI_i (by omega)
  have e0 : (0 : Int32).toInt = 0 := by decide
  delta P_X11_world P_X11_world_0
  obtain ⟨o1, h⟩ := h
  refine ⟨o1, ?_⟩
  have nav : a ≠ v0 := ob_ne oa o1 (by decide)
  intro S2 e2
  have h := h S2 e2
  refine ⟨fun c3 => ?_, fun c8 => ?_⟩
  · have := lt_i c3
    omega
  have h := h.2 c8
  intro x9 ex9
  have h := h x9 ex9
  rw [wI_ne e2 (by decide)] at ex9
  refine ⟨fun c10 => ?_, fun c42 => absurd (by rw [ex9]; exact hle) c42⟩
  have h := h.1 c10
  intro S11 e11
  have h := h S11 e11
  intro S12 e12
  have h := h S12 e12
  intro S13 e13
  have h := h S13 e13
  intro S14 e14
  have h := h S14 e14
  have F14 : Fr [0, 7, 6, 8, 13] [] v0 S S14 := fr_wI (fr_wI (fr_wI (fr_wI (fr_wI (fr_rf _ _ _ _) e2 (by decide)) e11 (by decide)) e12 (by decide)) e13 (by decide)) e14 (by decide)
  have o14 : ob S14 v0 11 := fm_ob F14 o1
  have oa14 : ob S14 a 12 := fm_ob F14 oa
  intro a15 ea15
  have h := h a15 ea15
  intro S16 e16
  have h := h S16 e16
  have o16 : ob S16 v0 11 := gr_ob (gr_of_new e16 ea15) o14
  have oa16 : ob S16 a 12 := gr_ob (gr_of_new e16 ea15) oa14
  have or16 : ob S16 a15 10 := ob_of_new e16
  have nva : v0 ≠ a15 := ob_ne o16 or16 (by decide)
  have naa : a ≠ a15 := ob_ne oa16 or16 (by decide)
  have I16 : ∀ c, c ≠ a15 → fI S16 c = fI S14 c ∧ fR S16 c = fR S14 c ∧ hN S16 c = hN S14 c := fun c hc => by
    rw [e16]
    exact ⟨va_up_ne _ _ hc, va_up_ne _ _ hc, va_up_ne _ _ hc⟩
  refine cm_X10_init (sp_X10_init h e16) h (fun S17 hp h g18 => ?_)
  have h := h g18
  obtain ⟨-, F, bx, f1, f2, f3⟩ := hp
  rw [e16] at bx
  intro S19 e19
  have h := h S19 e19
  obtain ⟨nm, ns, nk, W⟩ := bx_RMw ea15 bx f1 f2 f3 o14 e19
  rw [← e16] at bx
  intro S20 e20
  have h := h S20 e20
  have I17 : ∀ c, c ∈ hL S16 → c ≠ a15 → fI S17 c = fI S16 c ∧ fR S17 c = fR S16 c ∧ hN S17 c = hN S16 c := fun c hc hne => ⟨(bx.2.1 c hc hne).1, (bx.2.1 c hc hne).2.2, (bx.1 c hc).2.2⟩
  have V20 : ∀ j, j ≠ 9 → fI S20 v0 j = fI S14 v0 j := fun j hj => by
    rw [wI_ne e20 hj]
    have : fI S19 v0 = fI S17 v0 := by rw [e19]; rfl
    rw [this, (I17 v0 o16.1 nva).1, (I16 v0 nva).1]
  have E20 : EM f n a v0 S20 := by
    refine ⟨?_, ?_, ?_, ?_, hn, ⟨nav, ?_⟩, hB⟩
    · have q1 : fR S20 v0 5 = fR S19 v0 5 := by rw [e20]; rfl
      have q2 : fR S19 v0 5 = fR S17 v0 5 := by rw [e19]; exact u2_ne _ _ (fun z => absurd z.2 (by decide))
      rw [q1, q2, (I17 v0 o16.1 nva).2.1, (I16 v0 nva).2.1, F14.2.2.2.1]; exact ha
    · rw [rw_I e20 nav]
      have : fI S19 a = fI S17 a := by rw [e19]; rfl
      rw [this, (I17 a oa16.1 naa).1, (I16 a naa).1, (F14.2.2.2.2.1 a nav).1]; exact hf
    · rw [V20 7 (by decide), wI_ne e14 (by decide), wI_ne e13 (by decide), wI_ne e12 (by decide), wI_at e11, hv]
    · have q1 : hN S20 = hN S17 := by rw [e20, e19]; rfl
      rw [q1, (I17 a oa16.1 naa).2.2, (I16 a naa).2.2, F14.2.2.1]; exact hN9
    · have oa17 := gr_ob bx.1 oa16
      rw [e20, e19]; exact oa17
  have W20 : RMw v0 a15 nm ns nk A00 S20 := rm_F W (fr_wI (fr_rf _ _ _ _) e20 (by decide))
  have k9 : fI S20 v0 9 = 0 := wI_at e20
  have k8 : fI S20 v0 8 = nI 0 := by rw [V20 8 (by decide), wI_ne e14 (by decide), wI_at e13]; rfl
  have k13 : fI S20 v0 13 = 0 := by rw [V20 13 (by decide), wI_at e14]
  refine cm_X11_goesOn (sp0_X11_goesOn h E20 (by rw [k9]; decide) k8 k13 (by decide)) h (fun S21 hp h g22 => ?_)
  have h := h g22
  have G21 : FM v0 S20 S21 := fr_up hp.2.1 (by decide) (by decide)
  have M21 : MS f n a v0 (.inl 0) S21 := ⟨em_fr E20 G21 (by decide), hp.2.2, fun p z => by cases z; decide⟩
  have ar : ∀ j b, fR S17 a15 j = some b → b ∉ hL S16 := fun j b e => by
    rcases bx.2.2.2.2.1 j b e with z | z
    · exact z.1
    · rw [e16] at z
      have z : va_up (fR S14) a15 (fun _ => none) a15 j = some b := z
      rw [va_up_self] at z
      cases z
  have R19 : fR S19 a15 = fR S17 a15 := by rw [e19]; exact u2_row _ _ (Ne.symm nva)
  have R21 : fR S21 = fR S19 := by rw [G21.2.2.2.1, e20]; rfl
  have dm : DMr v0 a15 S21 := by
    refine ⟨fun i b _ _ e => ?_, fun i j b _ _ _ _ e1 e2 => ?_⟩
    · rw [R21, R19] at e
      exact ⟨fun z => ar i b e (z ▸ o16.1), fun z => ar i b e (z ▸ or16.1)⟩
    · rw [R21, R19] at e1 e2
      exact bx.2.2.2.2.2.1 i j b (ar i b e1) e1 e2
  have ct0 : CtM a15 A00 G00 S21 := fun i b _ _ _ z hz => by
    have : cntM A00 i = 0 := by
      unfold cntM
      repeat' split
      all_goals rfl
    omega
  refine cm_X11_readAll (sq_X11_readAll h M21 (rm_F W20 G21) rfl dm ct0) (kh_X11_readAll h) (fun S23 hp hkh g24 => ?_)
  have h := hkh.1
  have h := h g24
  have KO := hp.2.2
  have ctR := hp.2.1.2
  replace hp := hp.2.1.1
  have w4 : fR S21 v0 4 = some a15 := by rw [R21, e19]; exact u2_self _ _ _ _
  have old : ∀ b, b ∈ hL S → b ≠ v0 → fI S23 b = fI S b ∧ fR S23 b = fR S b := fun b hb hv => by
    have hb14 : b ∈ hL S14 := by rw [F14.1]; exact hb
    have hba : b ≠ a15 := fun z => ea15 (z ▸ hb14)
    have hb16 : b ∈ hL S16 := (gr_of_new e16 ea15 b hb14).1
    have q1 := I16 b hba
    have q2 := I17 b hb16 hba
    have no : ¬ OwS_M v0 S21 b := fun z => by
      rcases z with z | ⟨w, e, z | ⟨j, -, z⟩⟩
      · exact hv z
      · cases w4.symm.trans e
        exact hba z
      · cases w4.symm.trans e
        rw [R21, R19] at z
        exact ar j b z hb16
    refine ⟨?_, ?_⟩
    · rw [KO.2 b no, (G21.2.2.2.2.1 b hv).1, rw_I e20 hv]
      have : fI S19 b = fI S17 b := by rw [e19]; rfl
      rw [this, q2.1, q1.1, (F14.2.2.2.2.1 b hv).1]
    · rw [KO.1, R21]
      have : fR S19 b = fR S17 b := by rw [e19]; exact u2_row _ _ hv
      rw [this, q2.2.1, q1.2.1, F14.2.2.2.1]
  have oldm : ∀ j, j ≠ 4 → fR S23 v0 j = fR S v0 j := fun j hj => by
    rw [KO.1, R21]
    have : fR S19 v0 j = fR S17 v0 j := by rw [e19]; exact u2_ne _ _ (fun z => hj z.2)
    rw [this, (I17 v0 o16.1 nva).2.1, (I16 v0 nva).2.1, F14.2.2.2.1]
  have nS : a15 ∉ hL S := fun z => ea15 (by rw [F14.1]; exact z)
  have or23 : ob S23 a15 10 := gr_ob g24 (gr_ob g22 (by
    have := gr_ob g18 or16
    rw [e20, e19]
    exact this))
  have dm23 := dm_mv KO.1 dm
  have l23 : hL S23 = hL S17 := by rw [hkh.2.1, G21.1, e20, e19]; rfl
  have k23 : hK S23 = hK S17 := by rw [hkh.2.2, G21.2.1, e20, e19]; rfl
  have newk : ∀ x, x ∈ hL S23 → x ∈ hL S ∨ hK S23 x = 10 ∨ (12 ≤ hK S23 x ∧ hK S23 x < 16) := fun x hx => by
    rw [l23] at hx
    rcases bx.2.2.1 x hx with q | q
    · rw [e16] at q
      have q : x ∈ hL S14 ++ [a15] := q
      rcases List.mem_append.mp q with q | q
      · left
        rw [← F14.1]
        exact q
      · right; left
        rw [List.mem_singleton.mp q]
        exact or23.2
    · right; right
      rw [k23]
      exact q
  intro x25 ex25
  have h := h x25 ex25
  cases hR : sAll f n 1000 0 A00 with
  | inl A =>
    rw [hR] at hp
    obtain ⟨⟨q, M⟩, W⟩ := hp
    have f13 : fI S23 v0 13 = 0 := M.2.1.2.2.2.2.2.2.2
    refine ⟨fun c26 => ?_, fun c38 => absurd (by rw [ex25, f13]; decide) c38⟩
    have h := h.1 c26
    obtain ⟨a27, ea27, h⟩ := h
    refine ⟨a27, ea27, ?_⟩
    cases W.1.symm.trans ea27
    intro S28 e28
    have h := h S28 e28
    intro S29 e29
    have h := h S29 e29
    intro S30 e30
    have h := h S30 e30
    intro S31 e31
    have h := h S31 e31
    obtain ⟨a32, ea32, h⟩ := h
    refine ⟨a32, ea32, ?_⟩
    have hr : fR S31 v0 3 = some a15 := by
      rw [e31, e30, e29, e28]; exact u2_self _ _ _ _
    cases hr.symm.trans ea32
    obtain ⟨o33, h⟩ := h
    refine ⟨o33, ?_⟩
    intro x34 ex34
    have h := h x34 ex34
    have nav2 : a15 ≠ v0 := Ne.symm nva
    have q34 : x34 = nI (aW A) := by
      rw [ex34, rw_I e31 nav2, rw_I e30 nav2, rw_I e29 nav2]
      have : fI S28 a15 = fI S23 a15 := by rw [e28]; rfl
      rw [this]; exact W.2.2.1.2.2.2.2.1
    have q13 : fI S31 v0 13 = 0 := by
      rw [wI_ne e31 (by decide), wI_ne e30 (by decide), wI_ne e29 (by decide)]
      have : fI S28 v0 = fI S23 v0 := by rw [e28]; rfl
      rw [this]; exact f13
    refine cm_X11_good (sp_X11_good h) h (fun x35 S36 hp h g37 => ?_)
    have h := h g37
    obtain ⟨-, z1, z2, z3, z4⟩ := hp
    have fR36 : ∀ b j, ¬ (b = v0 ∧ j = 3) → fR S36 b j = fR S23 b j := fun b j hb => by
      rw [z2.2.2.2.1, e31, e30, e29, e28]
      exact u2_ne _ _ hb
    have fR36a : fR S36 a15 = fR S23 a15 := funext fun j => fR36 a15 j (fun z => nav2 z.1)
    have fI36 : ∀ b, b ≠ v0 → fI S36 b = fI S23 b := fun b hb => by
      rw [(z2.2.2.2.2.1 b hb).1, rw_I e31 hb, rw_I e30 hb, rw_I e29 hb]
      have : fI S28 b = fI S23 b := by rw [e28]; rfl
      rw [this]
    refine ⟨h, ⟨by rw [z1, q34], by rw [z2.2.2.2.2.2.1 13 (by decide)]; exact q13, z3, z4⟩, fun b hb hv => ⟨(fI36 b hv).trans (old b hb hv).1, ?_⟩, fun j h3 h4 => ?_, ?_, a15, ?_, nS, gr_ob g37 (by rw [e31, e30, e29, e28]; exact or23), ?_, cn_row W.2.2.1 (fI36 a15 nav2), ?_, fun i b e z => ?_⟩
    · rw [← (old b hb hv).2]
      exact funext fun j => fR36 b j (fun z => hv z.1)
    · rw [fR36 v0 j (fun z => h3 z.2)]
      exact oldm j h4
    · have l36 : hL S36 = hL S23 := by rw [z2.1, e31, e30, e29, e28]; rfl
      have k36 : hK S36 = hK S23 := by rw [z2.2.1, e31, e30, e29, e28]; rfl
      rw [l36, k36]
      exact newk
    · rw [z2.2.2.2.1]
      exact hr
    · intro i b h1 h2 e z hz
      rw [fR36a] at e
      rw [fI36 b (dm23.1 i b h1 (by omega) e).1]
      exact ctR A hR i b h1 h2 e z hz
    · unfold DMr
      rw [fR36a]
      exact dm23
    · rw [fR36a, KO.1, R21, R19] at e
      exact ar i b e (gr_of_new e16 ea15 b (by rw [F14.1]; exact z)).1
  | inr e =>
    have pe := po_all _ _ _ _ hR
    rw [hR] at hp
    have M : MS f n a v0 (.inr e) S23 := hp
    have f13 : fI S23 v0 13 = nI e.1 := M.2.1.2.1
    have f14 : fI S23 v0 14 = nI e.2 := M.2.1.2.2
    refine ⟨fun c26 => ?_, fun c38 => ?_⟩
    · have := le_i c26
      rw [ex25, f13, nI_i (by omega)] at this
      omega
    · have h := h.2 c38
      intro S39 e39
      have h := h S39 e39
      intro x40 ex40
      have h := h x40 ex40
      intro S41 e41
      have h := h S41 e41
      have r41 : fR S41 = fR S23 := by rw [e41, e39]; rfl
      refine ⟨h, ⟨rfl, by rw [wI_ne e41 (by decide), wI_ne e39 (by decide)]; exact f13, by rw [wI_ne e41 (by decide), wI_at e39], by rw [wI_at e41, ex40, wI_ne e39 (by decide)]; exact f14⟩, fun b hb hv => ⟨?_, ?_⟩, fun j _ h4 => ?_, ?_, ?_⟩
      · rw [rw_I e41 hv, rw_I e39 hv]
        exact (old b hb hv).1
      · rw [r41]
        exact (old b hb hv).2
      · rw [r41]
        exact oldm j h4
      · have l41 : hL S41 = hL S23 := by rw [e41, e39]; rfl
        have k41 : hK S41 = hK S23 := by rw [e41, e39]; rfl
        rw [l41, k41]
        exact newk
      · show fR S41 v0 3 = fR S v0 3
        rw [r41]
        exact oldm 3 (by decide)
end Ct15
end
