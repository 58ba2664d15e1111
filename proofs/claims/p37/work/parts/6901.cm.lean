set_option maxRecDepth 20000 in
set_option maxHeartbeats 1000000 in
theorem cm_X11_eatsSign_21 {Q1 Q2 Q3 : Int32 → HS → Prop} {v0 : Nat} {s0 : Int32} {S : HS} (h1 : P_X11_eatsSign_21 Q1 v0 s0 S) (h2 : P_X11_eatsSign_21 Q2 v0 s0 S) (hq : ∀ (r : Int32) (T : HS), Q1 r T → Q2 r T → Q3 r T) : P_X11_eatsSign_21 Q3 v0 s0 S := by
  delta P_X11_eatsSign_21 at h1 h2 ⊢
  refine ⟨?_, ?_⟩
  · intro c1
    have h1 := h1.1 c1
    have h2 := h2.1 c1
    obtain ⟨c2, h1⟩ := h1
    obtain ⟨_, h2⟩ := h2
    refine ⟨c2, ?_⟩
    exact hq _ _ h1 h2
  · intro c3
    have h1 := h1.2 c3
    have h2 := h2.2 c3
    obtain ⟨c4, h1⟩ := h1
    obtain ⟨_, h2⟩ := h2
    refine ⟨c4, ?_⟩
    refine cm_X11_goesOn h1 h2 (fun x5 h1 h2 g6 => ?_)
    have h1 := h1 g6
    have h2 := h2 g6
    obtain ⟨c7, h1⟩ := h1
    obtain ⟨_, h2⟩ := h2
    refine ⟨c7, ?_⟩
    exact hq _ _ h1 h2
set_option maxRecDepth 20000 in
set_option maxHeartbeats 1000000 in
theorem cm_X11_eatsSign_20 {Q1 Q2 Q3 : Int32 → HS → Prop} {v0 : Nat} {S : HS} (h1 : P_X11_eatsSign_20 Q1 v0 S) (h2 : P_X11_eatsSign_20 Q2 v0 S) (hq : ∀ (r : Int32) (T : HS), Q1 r T → Q2 r T → Q3 r T) : P_X11_eatsSign_20 Q3 v0 S := by
  delta P_X11_eatsSign_20 at h1 h2 ⊢
  exact cm_X11_eatsSign_21 h1 h2 hq
set_option maxRecDepth 20000 in
set_option maxHeartbeats 1000000 in
theorem cm_X11_eatsSign_0 {Q1 Q2 Q3 : Int32 → HS → Prop} {v0 : Nat} {v1 : Int32} {S : HS} (h1 : P_X11_eatsSign_0 Q1 v0 v1 S) (h2 : P_X11_eatsSign_0 Q2 v0 v1 S) (hq : ∀ (r : Int32) (T : HS), Q1 r T → Q2 r T → Q3 r T) : P_X11_eatsSign_0 Q3 v0 v1 S := by
  delta P_X11_eatsSign_0 at h1 h2 ⊢
  obtain ⟨c1, h1⟩ := h1
  obtain ⟨_, h2⟩ := h2
  refine ⟨c1, ?_⟩
  intro x3 e2
  have h1 := h1 x3 e2
  have h2 := h2 x3 e2
  refine ⟨?_, ?_⟩
  · intro c4
    have h1 := h1.1 c4
    have h2 := h2.1 c4
    exact cm_X11_eatsSign_20 h1 h2 hq
  · intro c5
    have h1 := h1.2 c5
    have h2 := h2.2 c5
    intro x7 e6
    have h1 := h1 x7 e6
    have h2 := h2 x7 e6
    refine ⟨?_, ?_⟩
    · intro c8
      have h1 := h1.1 c8
      have h2 := h2.1 c8
      exact cm_X11_eatsSign_20 h1 h2 hq
    · intro c9
      have h1 := h1.2 c9
      have h2 := h2.2 c9
      exact cm_X11_eatsSign_21 h1 h2 hq
theorem cm_X11_eatsSign {Q1 Q2 Q3 : Int32 → HS → Prop} {v0 : Nat} {v1 : Int32} {S : HS} (h1 : P_X11_eatsSign v0 v1 Q1 S) (h2 : P_X11_eatsSign v0 v1 Q2 S) (hq : ∀ (r : Int32) (T : HS), Q1 r T → Q2 r T → Q3 r T) : P_X11_eatsSign v0 v1 Q3 S := cm_X11_eatsSign_0 h1 h2 hq
set_option maxRecDepth 20000 in
set_option maxHeartbeats 1000000 in
theorem cmB_X11_wordOf_4 {Q1 Q2 Q3 : Int64 → HS → Prop} {X4_1 X4_2 X4_3 : Nat → Int64 → Int32 → HS → Prop} {v0 : Nat} {v1 : Int64} {v3 : Int32} {S : HS} (h1 : B_X11_wordOf_4 Q1 X4_1 v0 v1 v3 S) (h2 : B_X11_wordOf_4 Q2 X4_2 v0 v1 v3 S) (hq : ∀ (r : Int64) (T : HS), Q1 r T → Q2 r T → Q3 r T) (hX4 : ∀ (u0 : Nat) (u1 : Int64) (u2 : Int32) (u3 : HS), X4_1 u0 u1 u2 u3 → X4_2 u0 u1 u2 u3 → X4_3 u0 u1 u2 u3) : B_X11_wordOf_4 Q3 X4_3 v0 v1 v3 S := by
  delta B_X11_wordOf_4 at h1 h2 ⊢
  obtain ⟨c1, h1⟩ := h1
  obtain ⟨_, h2⟩ := h2
  refine ⟨c1, ?_⟩
  intro x3 e2
  have h1 := h1 x3 e2
  have h2 := h2 x3 e2
  refine ⟨?_, ?_⟩
  · intro c4
    have h1 := h1.1 c4
    have h2 := h2.1 c4
    exact hq _ _ h1 h2
  · intro c5
    have h1 := h1.2 c5
    have h2 := h2.2 c5
    obtain ⟨c6, h1⟩ := h1
    obtain ⟨_, h2⟩ := h2
    refine ⟨c6, ?_⟩
    obtain ⟨c7, h1⟩ := h1
    obtain ⟨_, h2⟩ := h2
    refine ⟨c7, ?_⟩
    intro x9 e8
    have h1 := h1 x9 e8
    have h2 := h2 x9 e8
    intro x11 e10
    have h1 := h1 x11 e10
    have h2 := h2 x11 e10
    intro x13 e12
    have h1 := h1 x13 e12
    have h2 := h2 x13 e12
    exact hX4 _ _ _ _ h1 h2
theorem fd_X11_wordOf_4 {Q : Int64 → HS → Prop} {v0 : Nat} {v1 : Int64} {v3 : Int32} {S : HS} (h : B_X11_wordOf_4 Q (P_X11_wordOf_4 Q) v0 v1 v3 S) : P_X11_wordOf_4 Q v0 v1 v3 S := fun X hX => hX v0 v1 v3 S (cmB_X11_wordOf_4 h h (fun _ _ a _ => a) (fun _ _ _ _ hp _ => hp X hX))
theorem uf_X11_wordOf_4 {Q : Int64 → HS → Prop} {v0 : Nat} {v1 : Int64} {v3 : Int32} {S : HS} (h : P_X11_wordOf_4 Q v0 v1 v3 S) : B_X11_wordOf_4 Q (P_X11_wordOf_4 Q) v0 v1 v3 S := h (fun v0 v1 v3 S => B_X11_wordOf_4 Q (P_X11_wordOf_4 Q) v0 v1 v3 S) (fun v0 v1 v3 S hB => cmB_X11_wordOf_4 hB hB (fun _ _ a _ => a) (fun _ _ _ _ hb _ => fd_X11_wordOf_4 hb))
theorem cm_X11_wordOf_4 {Q1 Q2 Q3 : Int64 → HS → Prop} {v0 : Nat} {v1 : Int64} {v3 : Int32} {S : HS} (h1 : P_X11_wordOf_4 Q1 v0 v1 v3 S) (h2 : P_X11_wordOf_4 Q2 v0 v1 v3 S) (hq : ∀ (r : Int64) (T : HS), Q1 r T → Q2 r T → Q3 r T) : P_X11_wordOf_4 Q3 v0 v1 v3 S := h1 (fun v0 v1 v3 S => P_X11_wordOf_4 Q2 v0 v1 v3 S → P_X11_wordOf_4 Q3 v0 v1 v3 S) (fun v0 v1 v3 S hB hp => fd_X11_wordOf_4 (cmB_X11_wordOf_4 hB (uf_X11_wordOf_4 hp) hq (fun _ _ _ _ hx hp => hx hp))) h2
set_option maxRecDepth 20000 in
set_option maxHeartbeats 1000000 in
theorem cm_X11_wordOf_0 {Q1 Q2 Q3 : Int64 → HS → Prop} {v0 : Nat} {S : HS} (h1 : P_X11_wordOf_0 Q1 v0 S) (h2 : P_X11_wordOf_0 Q2 v0 S) (hq : ∀ (r : Int64) (T : HS), Q1 r T → Q2 r T → Q3 r T) : P_X11_wordOf_0 Q3 v0 S := by
  delta P_X11_wordOf_0 at h1 h2 ⊢
  exact cm_X11_wordOf_4 h1 h2 hq
theorem cm_X11_wordOf {Q1 Q2 Q3 : Int64 → HS → Prop} {v0 : Nat} {S : HS} (h1 : P_X11_wordOf v0 Q1 S) (h2 : P_X11_wordOf v0 Q2 S) (hq : ∀ (r : Int64) (T : HS), Q1 r T → Q2 r T → Q3 r T) : P_X11_wordOf v0 Q3 S := cm_X11_wordOf_0 h1 h2 hq
set_option maxRecDepth 20000 in
set_option maxHeartbeats 1000000 in
theorem cm_X11_isWord_0 {Q1 Q2 Q3 : Int32 → HS → Prop} {v0 : Nat} {v1 : Nat} {S : HS} (h1 : P_X11_isWord_0 Q1 v0 v1 S) (h2 : P_X11_isWord_0 Q2 v0 v1 S) (hq : ∀ (r : Int32) (T : HS), Q1 r T → Q2 r T → Q3 r T) : P_X11_isWord_0 Q3 v0 v1 S := by
  delta P_X11_isWord_0 at h1 h2 ⊢
  obtain ⟨c1, h1⟩ := h1
  obtain ⟨_, h2⟩ := h2
  refine ⟨c1, ?_⟩
  intro x3 e2
  have h1 := h1 x3 e2
  have h2 := h2 x3 e2
  refine ⟨?_, ?_⟩
  · intro c4
    have h1 := h1.1 c4
    have h2 := h2.1 c4
    exact hq _ _ h1 h2
  · intro c5
    have h1 := h1.2 c5
    have h2 := h2.2 c5
    intro x7 e6
    have h1 := h1 x7 e6
    have h2 := h2 x7 e6
    refine cm_X11_wordOf h1 h2 (fun x8 x9 h1 h2 g10 => ?_)
    have h1 := h1 g10
    have h2 := h2 g10
    refine ⟨?_, ?_⟩
    · intro c11
      have h1 := h1.1 c11
      have h2 := h2.1 c11
      exact hq _ _ h1 h2
    · intro c12
      have h1 := h1.2 c12
      have h2 := h2.2 c12
      exact hq _ _ h1 h2
theorem cm_X11_isWord {Q1 Q2 Q3 : Int32 → HS → Prop} {v0 : Nat} {v1 : Nat} {S : HS} (h1 : P_X11_isWord v0 v1 Q1 S) (h2 : P_X11_isWord v0 v1 Q2 S) (hq : ∀ (r : Int32) (T : HS), Q1 r T → Q2 r T → Q3 r T) : P_X11_isWord v0 v1 Q3 S := cm_X11_isWord_0 h1 h2 hq
set_option maxRecDepth 20000 in
set_option maxHeartbeats 1000000 in
theorem cm_X11_eatsWord_0 {Q1 Q2 Q3 : Int32 → HS → Prop} {v0 : Nat} {v1 : Nat} {S : HS} (h1 : P_X11_eatsWord_0 Q1 v0 v1 S) (h2 : P_X11_eatsWord_0 Q2 v0 v1 S) (hq : ∀ (r : Int32) (T : HS), Q1 r T → Q2 r T → Q3 r T) : P_X11_eatsWord_0 Q3 v0 v1 S := by
  delta P_X11_eatsWord_0 at h1 h2 ⊢
  obtain ⟨c1, h1⟩ := h1
  obtain ⟨_, h2⟩ := h2
  refine ⟨c1, ?_⟩
  refine cm_X11_isWord h1 h2 (fun x2 x3 h1 h2 g4 g5 => ?_)
  have h1 := h1 g4 g5
  have h2 := h2 g4 g5
  refine ⟨?_, ?_⟩
  · intro c6
    have h1 := h1.1 c6
    have h2 := h2.1 c6
    obtain ⟨c7, h1⟩ := h1
    obtain ⟨_, h2⟩ := h2
    refine ⟨c7, ?_⟩
    exact hq _ _ h1 h2
  · intro c8
    have h1 := h1.2 c8
    have h2 := h2.2 c8
    refine cm_X11_goesOn h1 h2 (fun x9 h1 h2 g10 => ?_)
    have h1 := h1 g10
    have h2 := h2 g10
    obtain ⟨c11, h1⟩ := h1
    obtain ⟨_, h2⟩ := h2
    refine ⟨c11, ?_⟩
    exact hq _ _ h1 h2
theorem cm_X11_eatsWord {Q1 Q2 Q3 : Int32 → HS → Prop} {v0 : Nat} {v1 : Nat} {S : HS} (h1 : P_X11_eatsWord v0 v1 Q1 S) (h2 : P_X11_eatsWord v0 v1 Q2 S) (hq : ∀ (r : Int32) (T : HS), Q1 r T → Q2 r T → Q3 r T) : P_X11_eatsWord v0 v1 Q3 S := cm_X11_eatsWord_0 h1 h2 hq
set_option maxRecDepth 20000 in
set_option maxHeartbeats 1000000 in
theorem cm_X11_even_39 {Q1 Q2 Q3 : Int32 → HS → Prop} {v0 : Nat} {S : HS} (h1 : P_X11_even_39 Q1 v0 S) (h2 : P_X11_even_39 Q2 v0 S) (hq : ∀ (r : Int32) (T : HS), Q1 r T → Q2 r T → Q3 r T) : P_X11_even_39 Q3 v0 S := by
  delta P_X11_even_39 at h1 h2 ⊢
  obtain ⟨c1, h1⟩ := h1
  obtain ⟨_, h2⟩ := h2
  refine ⟨c1, ?_⟩
  refine cm_X11_refused h1 h2 (fun x2 x3 h1 h2 g4 => ?_)
  have h1 := h1 g4
  have h2 := h2 g4
  exact hq _ _ h1 h2
set_option maxRecDepth 20000 in
set_option maxHeartbeats 1000000 in
theorem cm_X11_even_111 {Q1 Q2 Q3 : Int32 → HS → Prop} {X59_1 X59_2 X59_3 : Nat → Int32 → Int32 → Int32 → Int32 → Int32 → Int32 → HS → Prop} {v0 : Nat} {v1 : Int32} {v2 : Int32} {v3 : Int32} {v4 : Int32} {v6 : Int32} {s0 : Int32} {S : HS} (h1 : P_X11_even_111 Q1 X59_1 v0 v1 v2 v3 v4 v6 s0 S) (h2 : P_X11_even_111 Q2 X59_2 v0 v1 v2 v3 v4 v6 s0 S) (hq : ∀ (r : Int32) (T : HS), Q1 r T → Q2 r T → Q3 r T) (hX59 : ∀ (u0 : Nat) (u1 : Int32) (u2 : Int32) (u3 : Int32) (u4 : Int32) (u5 : Int32) (u6 : Int32) (u7 : HS), X59_1 u0 u1 u2 u3 u4 u5 u6 u7 → X59_2 u0 u1 u2 u3 u4 u5 u6 u7 → X59_3 u0 u1 u2 u3 u4 u5 u6 u7) : P_X11_even_111 Q3 X59_3 v0 v1 v2 v3 v4 v6 s0 S := by
  delta P_X11_even_111 at h1 h2 ⊢
  intro x2 e1
  have h1 := h1 x2 e1
  have h2 := h2 x2 e1
  exact hX59 _ _ _ _ _ _ _ _ h1 h2
set_option maxRecDepth 20000 in
set_option maxHeartbeats 1000000 in
theorem cm_X11_even_110 {Q1 Q2 Q3 : Int32 → HS → Prop} {X59_1 X59_2 X59_3 : Nat → Int32 → Int32 → Int32 → Int32 → Int32 → Int32 → HS → Prop} {v0 : Nat} {v1 : Int32} {v2 : Int32} {v3 : Int32} {v4 : Int32} {v6 : Int32} {S : HS} (h1 : P_X11_even_110 Q1 X59_1 v0 v1 v2 v3 v4 v6 S) (h2 : P_X11_even_110 Q2 X59_2 v0 v1 v2 v3 v4 v6 S) (hq : ∀ (r : Int32) (T : HS), Q1 r T → Q2 r T → Q3 r T) (hX59 : ∀ (u0 : Nat) (u1 : Int32) (u2 : Int32) (u3 : Int32) (u4 : Int32) (u5 : Int32) (u6 : Int32) (u7 : HS), X59_1 u0 u1 u2 u3 u4 u5 u6 u7 → X59_2 u0 u1 u2 u3 u4 u5 u6 u7 → X59_3 u0 u1 u2 u3 u4 u5 u6 u7) : P_X11_even_110 Q3 X59_3 v0 v1 v2 v3 v4 v6 S := by
  delta P_X11_even_110 at h1 h2 ⊢
  exact cm_X11_even_111 h1 h2 hq hX59
set_option maxRecDepth 20000 in
set_option maxHeartbeats 1000000 in
theorem cm_X11_even_130 {Q1 Q2 Q3 : Int32 → HS → Prop} {s0 : Nat} {s1 : Int32} {S : HS} (h1 : P_X11_even_130 Q1 s0 s1 S) (h2 : P_X11_even_130 Q2 s0 s1 S) (hq : ∀ (r : Int32) (T : HS), Q1 r T → Q2 r T → Q3 r T) : P_X11_even_130 Q3 s0 s1 S := by
  delta P_X11_even_130 at h1 h2 ⊢
  obtain ⟨c1, h1⟩ := h1
  obtain ⟨_, h2⟩ := h2
  refine ⟨c1, ?_⟩
  refine cm_X11_good h1 h2 (fun x2 x3 h1 h2 g4 => ?_)
  have h1 := h1 g4
  have h2 := h2 g4
  exact hq _ _ h1 h2
set_option maxRecDepth 20000 in
set_option maxHeartbeats 1000000 in
theorem cmB_X11_even_59 {Q1 Q2 Q3 : Int32 → HS → Prop} {X59_1 X59_2 X59_3 : Nat → Int32 → Int32 → Int32 → Int32 → Int32 → Int32 → HS → Prop} {v0 : Nat} {v1 : Int32} {v2 : Int32} {v3 : Int32} {v4 : Int32} {v5 : Int32} {v6 : Int32} {S : HS} (h1 : B_X11_even_59 Q1 X59_1 v0 v1 v2 v3 v4 v5 v6 S) (h2 : B_X11_even_59 Q2 X59_2 v0 v1 v2 v3 v4 v5 v6 S) (hq : ∀ (r : Int32) (T : HS), Q1 r T → Q2 r T → Q3 r T) (hX59 : ∀ (u0 : Nat) (u1 : Int32) (u2 : Int32) (u3 : Int32) (u4 : Int32) (u5 : Int32) (u6 : Int32) (u7 : HS), X59_1 u0 u1 u2 u3 u4 u5 u6 u7 → X59_2 u0 u1 u2 u3 u4 u5 u6 u7 → X59_3 u0 u1 u2 u3 u4 u5 u6 u7) : B_X11_even_59 Q3 X59_3 v0 v1 v2 v3 v4 v5 v6 S := by
  delta B_X11_even_59 at h1 h2 ⊢
  obtain ⟨c1, h1⟩ := h1
  obtain ⟨_, h2⟩ := h2
  refine ⟨c1, ?_⟩
  obtain ⟨b2, e3, h1⟩ := h1
  obtain ⟨b4, e5, h2⟩ := h2
  cases e3.symm.trans e5
  refine ⟨b2, e3, ?_⟩
  obtain ⟨c6, h1⟩ := h1
  obtain ⟨_, h2⟩ := h2
  refine ⟨c6, ?_⟩
  obtain ⟨b7, e8, h1⟩ := h1
  obtain ⟨b9, e10, h2⟩ := h2
  cases e8.symm.trans e10
  refine ⟨b7, e8, ?_⟩
  obtain ⟨c11, h1⟩ := h1
  obtain ⟨_, h2⟩ := h2
  refine ⟨c11, ?_⟩
  obtain ⟨c12, h1⟩ := h1
  obtain ⟨_, h2⟩ := h2
  refine ⟨c12, ?_⟩
  intro x14 e13
  have h1 := h1 x14 e13
  have h2 := h2 x14 e13
  refine ⟨?_, ?_⟩
  · intro c15
    have h1 := h1.1 c15
    have h2 := h2.1 c15
    refine ⟨?_, ?_⟩
    · intro c16
      have h1 := h1.1 c16
      have h2 := h2.1 c16
      exact cm_X11_even_130 h1 h2 hq
    · intro c17
      have h1 := h1.2 c17
      have h2 := h2.2 c17
      exact cm_X11_even_130 h1 h2 hq
  · intro c18
    have h1 := h1.2 c18
    have h2 := h2.2 c18
    refine ⟨?_, ?_⟩
    · intro c19
      have h1 := h1.1 c19
      have h2 := h2.1 c19
      exact cm_X11_even_110 h1 h2 hq hX59
    · intro c20
      have h1 := h1.2 c20
      have h2 := h2.2 c20
      refine cm_X11_wetOf h1 h2 (fun x21 x22 h1 h2 g23 => ?_)
      have h1 := h1 g23
      have h2 := h2 g23
      refine cm_X11_wetOf h1 h2 (fun x24 x25 h1 h2 g26 => ?_)
      have h1 := h1 g26
      have h2 := h2 g26
      refine ⟨?_, ?_⟩
      · intro c27
        have h1 := h1.1 c27
        have h2 := h2.1 c27
        exact cm_X11_even_110 h1 h2 hq hX59
      · intro c28
        have h1 := h1.2 c28
        have h2 := h2.2 c28
        exact cm_X11_even_111 h1 h2 hq hX59
theorem fd_X11_even_59 {Q : Int32 → HS → Prop} {v0 : Nat} {v1 : Int32} {v2 : Int32} {v3 : Int32} {v4 : Int32} {v5 : Int32} {v6 : Int32} {S : HS} (h : B_X11_even_59 Q (P_X11_even_59 Q) v0 v1 v2 v3 v4 v5 v6 S) : P_X11_even_59 Q v0 v1 v2 v3 v4 v5 v6 S := fun X hX => hX v0 v1 v2 v3 v4 v5 v6 S (cmB_X11_even_59 h h (fun _ _ a _ => a) (fun _ _ _ _ _ _ _ _ hp _ => hp X hX))
theorem uf_X11_even_59 {Q : Int32 → HS → Prop} {v0 : Nat} {v1 : Int32} {v2 : Int32} {v3 : Int32} {v4 : Int32} {v5 : Int32} {v6 : Int32} {S : HS} (h : P_X11_even_59 Q v0 v1 v2 v3 v4 v5 v6 S) : B_X11_even_59 Q (P_X11_even_59 Q) v0 v1 v2 v3 v4 v5 v6 S := h (fun v0 v1 v2 v3 v4 v5 v6 S => B_X11_even_59 Q (P_X11_even_59 Q) v0 v1 v2 v3 v4 v5 v6 S) (fun v0 v1 v2 v3 v4 v5 v6 S hB => cmB_X11_even_59 hB hB (fun _ _ a _ => a) (fun _ _ _ _ _ _ _ _ hb _ => fd_X11_even_59 hb))
theorem cm_X11_even_59 {Q1 Q2 Q3 : Int32 → HS → Prop} {v0 : Nat} {v1 : Int32} {v2 : Int32} {v3 : Int32} {v4 : Int32} {v5 : Int32} {v6 : Int32} {S : HS} (h1 : P_X11_even_59 Q1 v0 v1 v2 v3 v4 v5 v6 S) (h2 : P_X11_even_59 Q2 v0 v1 v2 v3 v4 v5 v6 S) (hq : ∀ (r : Int32) (T : HS), Q1 r T → Q2 r T → Q3 r T) : P_X11_even_59 Q3 v0 v1 v2 v3 v4 v5 v6 S := h1 (fun v0 v1 v2 v3 v4 v5 v6 S => P_X11_even_59 Q2 v0 v1 v2 v3 v4 v5 v6 S → P_X11_even_59 Q3 v0 v1 v2 v3 v4 v5 v6 S) (fun v0 v1 v2 v3 v4 v5 v6 S hB hp => fd_X11_even_59 (cmB_X11_even_59 hB (uf_X11_even_59 hp) hq (fun _ _ _ _ _ _ _ _ hx hp => hx hp))) h2
set_option maxRecDepth 20000 in
set_option maxHeartbeats 1000000 in
theorem cm_X11_even_0 {Q1 Q2 Q3 : Int32 → HS → Prop} {v0 : Nat} {v1 : Int32} {v2 : Int32} {v3 : Int32} {v4 : Int32} {S : HS} (h1 : P_X11_even_0 Q1 v0 v1 v2 v3 v4 S) (h2 : P_X11_even_0 Q2 v0 v1 v2 v3 v4 S) (hq : ∀ (r : Int32) (T : HS), Q1 r T → Q2 r T → Q3 r T) : P_X11_even_0 Q3 v0 v1 v2 v3 v4 S := by
  delta P_X11_even_0 at h1 h2 ⊢
  obtain ⟨c1, h1⟩ := h1
  obtain ⟨_, h2⟩ := h2
  refine ⟨c1, ?_⟩
  intro x3 e2
  have h1 := h1 x3 e2
  have h2 := h2 x3 e2
  refine cm_X11_isWalker h1 h2 (fun x4 x5 h1 h2 g6 g7 => ?_)
  have h1 := h1 g6 g7
  have h2 := h2 g6 g7
  refine ⟨?_, ?_⟩
  · intro c8
    have h1 := h1.1 c8
    have h2 := h2.1 c8
    exact cm_X11_even_39 h1 h2 hq
  · intro c9
    have h1 := h1.2 c9
    have h2 := h2.2 c9
    refine cm_X11_isRoad h1 h2 (fun x10 x11 h1 h2 g12 g13 => ?_)
    have h1 := h1 g12 g13
    have h2 := h2 g12 g13
    refine ⟨?_, ?_⟩
    · intro c14
      have h1 := h1.1 c14
      have h2 := h2.1 c14
      exact cm_X11_even_39 h1 h2 hq
    · intro c15
      have h1 := h1.2 c15
      have h2 := h2.2 c15
      refine cm_X11_in h1 h2 (fun x16 x17 h1 h2 g18 g19 => ?_)
      have h1 := h1 g18 g19
      have h2 := h2 g18 g19
      refine ⟨?_, ?_⟩
      · intro c20
        have h1 := h1.1 c20
        have h2 := h2.1 c20
        exact cm_X11_even_39 h1 h2 hq
      · intro c21
        have h1 := h1.2 c21
        have h2 := h2.2 c21
        refine cm_X11_isHour h1 h2 (fun x22 x23 h1 h2 g24 g25 => ?_)
        have h1 := h1 g24 g25
        have h2 := h2 g24 g25
        refine ⟨?_, ?_⟩
        · intro c26
          have h1 := h1.1 c26
          have h2 := h2.1 c26
          obtain ⟨b27, e28, h1⟩ := h1
          obtain ⟨b29, e30, h2⟩ := h2
          cases e28.symm.trans e30
          refine ⟨b27, e28, ?_⟩
          obtain ⟨c31, h1⟩ := h1
          obtain ⟨_, h2⟩ := h2
          refine ⟨c31, ?_⟩
          obtain ⟨b32, e33, h1⟩ := h1
          obtain ⟨b34, e35, h2⟩ := h2
          cases e33.symm.trans e35
          refine ⟨b32, e33, ?_⟩
          obtain ⟨c36, h1⟩ := h1
          obtain ⟨_, h2⟩ := h2
          refine ⟨c36, ?_⟩
          obtain ⟨c37, h1⟩ := h1
          obtain ⟨_, h2⟩ := h2
          refine ⟨c37, ?_⟩
          intro x39 e38
          have h1 := h1 x39 e38
          have h2 := h2 x39 e38
          exact cm_X11_even_59 h1 h2 hq
        · intro c40
          have h1 := h1.2 c40
          have h2 := h2.2 c40
          exact cm_X11_even_39 h1 h2 hq
theorem cm_X11_even {Q1 Q2 Q3 : Int32 → HS → Prop} {v0 : Nat} {v1 : Int32} {v2 : Int32} {v3 : Int32} {v4 : Int32} {S : HS} (h1 : P_X11_even v0 v1 v2 v3 v4 Q1 S) (h2 : P_X11_even v0 v1 v2 v3 v4 Q2 S) (hq : ∀ (r : Int32) (T : HS), Q1 r T → Q2 r T → Q3 r T) : P_X11_even v0 v1 v2 v3 v4 Q3 S := cm_X11_even_0 h1 h2 hq
set_option maxRecDepth 20000 in
set_option maxHeartbeats 1000000 in
theorem cm_X11_isSpeed_0 {Q1 Q2 Q3 : Int32 → HS → Prop} {v0 : Nat} {v1 : Int32} {v2 : Int32} {S : HS} (h1 : P_X11_isSpeed_0 Q1 v0 v1 v2 S) (h2 : P_X11_isSpeed_0 Q2 v0 v1 v2 S) (hq : ∀ (r : Int32) (T : HS), Q1 r T → Q2 r T → Q3 r T) : P_X11_isSpeed_0 Q3 v0 v1 v2 S := by
  delta P_X11_isSpeed_0 at h1 h2 ⊢
  obtain ⟨c1, h1⟩ := h1
  obtain ⟨_, h2⟩ := h2
  refine ⟨c1, ?_⟩
  obtain ⟨b2, e3, h1⟩ := h1
  obtain ⟨b4, e5, h2⟩ := h2
  cases e3.symm.trans e5
  refine ⟨b2, e3, ?_⟩
  obtain ⟨c6, h1⟩ := h1
  obtain ⟨_, h2⟩ := h2
  refine ⟨c6, ?_⟩
  obtain ⟨b7, e8, h1⟩ := h1
  obtain ⟨b9, e10, h2⟩ := h2
  cases e8.symm.trans e10
  refine ⟨b7, e8, ?_⟩
  obtain ⟨c11, h1⟩ := h1
  obtain ⟨_, h2⟩ := h2
  refine ⟨c11, ?_⟩
  obtain ⟨c12, h1⟩ := h1
  obtain ⟨_, h2⟩ := h2
  refine ⟨c12, ?_⟩
  intro x14 e13
  have h1 := h1 x14 e13
  have h2 := h2 x14 e13
  obtain ⟨b15, e16, h1⟩ := h1
  obtain ⟨b17, e18, h2⟩ := h2
  cases e16.symm.trans e18
  refine ⟨b15, e16, ?_⟩
  obtain ⟨c19, h1⟩ := h1
  obtain ⟨_, h2⟩ := h2
  refine ⟨c19, ?_⟩
  obtain ⟨b20, e21, h1⟩ := h1
  obtain ⟨b22, e23, h2⟩ := h2
  cases e21.symm.trans e23
  refine ⟨b20, e21, ?_⟩
  obtain ⟨c24, h1⟩ := h1
  obtain ⟨_, h2⟩ := h2
  refine ⟨c24, ?_⟩
  obtain ⟨c25, h1⟩ := h1
  obtain ⟨_, h2⟩ := h2
  refine ⟨c25, ?_⟩
  intro x27 e26
  have h1 := h1 x27 e26
  have h2 := h2 x27 e26
  refine cm_X11_in h1 h2 (fun x28 x29 h1 h2 g30 g31 => ?_)
  have h1 := h1 g30 g31
  have h2 := h2 g30 g31
  obtain ⟨c32, h1⟩ := h1
  obtain ⟨_, h2⟩ := h2
  refine ⟨c32, ?_⟩
  exact hq _ _ h1 h2
theorem cm_X11_isSpeed {Q1 Q2 Q3 : Int32 → HS → Prop} {v0 : Nat} {v1 : Int32} {v2 : Int32} {S : HS} (h1 : P_X11_isSpeed v0 v1 v2 Q1 S) (h2 : P_X11_isSpeed v0 v1 v2 Q2 S) (hq : ∀ (r : Int32) (T : HS), Q1 r T → Q2 r T → Q3 r T) : P_X11_isSpeed v0 v1 v2 Q3 S := cm_X11_isSpeed_0 h1 h2 hq
set_option maxRecDepth 20000 in
set_option maxHeartbeats 1000000 in
theorem cm_X11_refuses_0 {Q1 Q2 Q3 : Int32 → HS → Prop} {v0 : Nat} {v1 : Int32} {v2 : Int32} {v3 : Int32} {v4 : Int32} {v5 : Int32} {S : HS} (h1 : P_X11_refuses_0 Q1 v0 v1 v2 v3 v4 v5 S) (h2 : P_X11_refuses_0 Q2 v0 v1 v2 v3 v4 v5 S) (hq : ∀ (r : Int32) (T : HS), Q1 r T → Q2 r T → Q3 r T) : P_X11_refuses_0 Q3 v0 v1 v2 v3 v4 v5 S := by
  delta P_X11_refuses_0 at h1 h2 ⊢
  obtain ⟨c1, h1⟩ := h1
  obtain ⟨_, h2⟩ := h2
  refine ⟨c1, ?_⟩
  refine cm_X11_isWalker h1 h2 (fun x2 x3 h1 h2 g4 g5 => ?_)
  have h1 := h1 g4 g5
  have h2 := h2 g4 g5
  refine ⟨?_, ?_⟩
  · intro c6
    have h1 := h1.1 c6
    have h2 := h2.1 c6
    exact hq _ _ h1 h2
  · intro c7
    have h1 := h1.2 c7
    have h2 := h2.2 c7
    refine cm_X11_isRoad h1 h2 (fun x8 x9 h1 h2 g10 g11 => ?_)
    have h1 := h1 g10 g11
    have h2 := h2 g10 g11
    refine ⟨?_, ?_⟩
    · intro c12
      have h1 := h1.1 c12
      have h2 := h2.1 c12
      exact hq _ _ h1 h2
    · intro c13
      have h1 := h1.2 c13
      have h2 := h2.2 c13
      refine cm_X11_in h1 h2 (fun x14 x15 h1 h2 g16 g17 => ?_)
      have h1 := h1 g16 g17
      have h2 := h2 g16 g17
      refine ⟨?_, ?_⟩
      · intro c18
        have h1 := h1.1 c18
        have h2 := h2.1 c18
        exact hq _ _ h1 h2
      · intro c19
        have h1 := h1.2 c19
        have h2 := h2.2 c19
        refine cm_X11_isHour h1 h2 (fun x20 x21 h1 h2 g22 g23 => ?_)
        have h1 := h1 g22 g23
        have h2 := h2 g22 g23
        refine ⟨?_, ?_⟩
        · intro c24
          have h1 := h1.1 c24
          have h2 := h2.1 c24
          refine cm_X11_isSpeed h1 h2 (fun x25 x26 h1 h2 g27 g28 => ?_)
          have h1 := h1 g27 g28
          have h2 := h2 g27 g28
          refine ⟨?_, ?_⟩
          · intro c29
            have h1 := h1.1 c29
            have h2 := h2.1 c29
            exact hq _ _ h1 h2
          · intro c30
            have h1 := h1.2 c30
            have h2 := h2.2 c30
            exact hq _ _ h1 h2
        · intro c31
          have h1 := h1.2 c31
          have h2 := h2.2 c31
          exact hq _ _ h1 h2
theorem cm_X11_refuses {Q1 Q2 Q3 : Int32 → HS → Prop} {v0 : Nat} {v1 : Int32} {v2 : Int32} {v3 : Int32} {v4 : Int32} {v5 : Int32} {S : HS} (h1 : P_X11_refuses v0 v1 v2 v3 v4 v5 Q1 S) (h2 : P_X11_refuses v0 v1 v2 v3 v4 v5 Q2 S) (hq : ∀ (r : Int32) (T : HS), Q1 r T → Q2 r T → Q3 r T) : P_X11_refuses v0 v1 v2 v3 v4 v5 Q3 S := cm_X11_refuses_0 h1 h2 hq
set_option maxRecDepth 20000 in
set_option maxHeartbeats 1000000 in
theorem cmB_X11_told_12 {Q1 Q2 Q3 : Int64 → HS → Prop} {X12_1 X12_2 X12_3 : Int64 → Int64 → Int32 → Int64 → Int64 → HS → Prop} {v1 : Int64} {v3 : Int64} {v5 : Int32} {v6 : Int64} {v8 : Int64} {S : HS} (h1 : B_X11_told_12 Q1 X12_1 v1 v3 v5 v6 v8 S) (h2 : B_X11_told_12 Q2 X12_2 v1 v3 v5 v6 v8 S) (hq : ∀ (r : Int64) (T : HS), Q1 r T → Q2 r T → Q3 r T) (hX12 : ∀ (u0 : Int64) (u1 : Int64) (u2 : Int32) (u3 : Int64) (u4 : Int64) (u5 : HS), X12_1 u0 u1 u2 u3 u4 u5 → X12_2 u0 u1 u2 u3 u4 u5 → X12_3 u0 u1 u2 u3 u4 u5) : B_X11_told_12 Q3 X12_3 v1 v3 v5 v6 v8 S := by
  delta B_X11_told_12 at h1 h2 ⊢
  refine ⟨?_, ?_⟩
  · intro c1
    have h1 := h1.1 c1
    have h2 := h2.1 c1
    refine ⟨?_, ?_⟩
    · intro c2
      have h1 := h1.1 c2
      have h2 := h2.1 c2
      obtain ⟨c3, h1⟩ := h1
      obtain ⟨_, h2⟩ := h2
      refine ⟨c3, ?_⟩
      intro x5 e4
      have h1 := h1 x5 e4
      have h2 := h2 x5 e4
      exact hq _ _ h1 h2
    · intro c6
      have h1 := h1.2 c6
      have h2 := h2.2 c6
      obtain ⟨c7, h1⟩ := h1
      obtain ⟨_, h2⟩ := h2
      refine ⟨c7, ?_⟩
      intro x9 e8
      have h1 := h1 x9 e8
      have h2 := h2 x9 e8
      exact hq _ _ h1 h2
  · intro c10
    have h1 := h1.2 c10
    have h2 := h2.2 c10
    obtain ⟨c11, h1⟩ := h1
    obtain ⟨_, h2⟩ := h2
    refine ⟨c11, ?_⟩
    intro x13 e12
    have h1 := h1 x13 e12
    have h2 := h2 x13 e12
    exact hX12 _ _ _ _ _ _ h1 h2
theorem fd_X11_told_12 {Q : Int64 → HS → Prop} {v1 : Int64} {v3 : Int64} {v5 : Int32} {v6 : Int64} {v8 : Int64} {S : HS} (h : B_X11_told_12 Q (P_X11_told_12 Q) v1 v3 v5 v6 v8 S) : P_X11_told_12 Q v1 v3 v5 v6 v8 S := fun X hX => hX v1 v3 v5 v6 v8 S (cmB_X11_told_12 h h (fun _ _ a _ => a) (fun _ _ _ _ _ _ hp _ => hp X hX))
theorem uf_X11_told_12 {Q : Int64 → HS → Prop} {v1 : Int64} {v3 : Int64} {v5 : Int32} {v6 : Int64} {v8 : Int64} {S : HS} (h : P_X11_told_12 Q v1 v3 v5 v6 v8 S) : B_X11_told_12 Q (P_X11_told_12 Q) v1 v3 v5 v6 v8 S := h (fun v1 v3 v5 v6 v8 S => B_X11_told_12 Q (P_X11_told_12 Q) v1 v3 v5 v6 v8 S) (fun v1 v3 v5 v6 v8 S hB => cmB_X11_told_12 hB hB (fun _ _ a _ => a) (fun _ _ _ _ _ _ hb _ => fd_X11_told_12 hb))
theorem cm_X11_told_12 {Q1 Q2 Q3 : Int64 → HS → Prop} {v1 : Int64} {v3 : Int64} {v5 : Int32} {v6 : Int64} {v8 : Int64} {S : HS} (h1 : P_X11_told_12 Q1 v1 v3 v5 v6 v8 S) (h2 : P_X11_told_12 Q2 v1 v3 v5 v6 v8 S) (hq : ∀ (r : Int64) (T : HS), Q1 r T → Q2 r T → Q3 r T) : P_X11_told_12 Q3 v1 v3 v5 v6 v8 S := h1 (fun v1 v3 v5 v6 v8 S => P_X11_told_12 Q2 v1 v3 v5 v6 v8 S → P_X11_told_12 Q3 v1 v3 v5 v6 v8 S) (fun v1 v3 v5 v6 v8 S hB hp => fd_X11_told_12 (cmB_X11_told_12 hB (uf_X11_told_12 hp) hq (fun _ _ _ _ _ _ hx hp => hx hp))) h2
set_option maxRecDepth 20000 in
set_option maxHeartbeats 1000000 in
theorem cm_X11_told_0 {Q1 Q2 Q3 : Int64 → HS → Prop} {v0 : Nat} {v1 : Int64} {v3 : Int64} {v5 : Int32} {S : HS} (h1 : P_X11_told_0 Q1 v0 v1 v3 v5 S) (h2 : P_X11_told_0 Q2 v0 v1 v3 v5 S) (hq : ∀ (r : Int64) (T : HS), Q1 r T → Q2 r T → Q3 r T) : P_X11_told_0 Q3 v0 v1 v3 v5 S := by
  delta P_X11_told_0 at h1 h2 ⊢
  obtain ⟨c1, h1⟩ := h1
  obtain ⟨_, h2⟩ := h2
  refine ⟨c1, ?_⟩
  refine cm_X11_good h1 h2 (fun x2 x3 h1 h2 g4 => ?_)
  have h1 := h1 g4
  have h2 := h2 g4
  exact cm_X11_told_12 h1 h2 hq
theorem cm_X11_told {Q1 Q2 Q3 : Int64 → HS → Prop} {v0 : Nat} {v1 : Int64} {v3 : Int64} {v5 : Int32} {S : HS} (h1 : P_X11_told v0 v1 v3 v5 Q1 S) (h2 : P_X11_told v0 v1 v3 v5 Q2 S) (hq : ∀ (r : Int64) (T : HS), Q1 r T → Q2 r T → Q3 r T) : P_X11_told v0 v1 v3 v5 Q3 S := cm_X11_told_0 h1 h2 hq
set_option maxRecDepth 20000 in
set_option maxHeartbeats 1000000 in
theorem cm_X11_face_30 {Q1 Q2 Q3 : Int64 → HS → Prop} {v0 : Nat} {v1 : Int32} {v2 : Int32} {v3 : Int32} {v4 : Int32} {v5 : Int32} {v6 : Int32} {v7 : Int32} {s0 : Int32} {S : HS} (h1 : P_X11_face_30 Q1 v0 v1 v2 v3 v4 v5 v6 v7 s0 S) (h2 : P_X11_face_30 Q2 v0 v1 v2 v3 v4 v5 v6 v7 s0 S) (hq : ∀ (r : Int64) (T : HS), Q1 r T → Q2 r T → Q3 r T) : P_X11_face_30 Q3 v0 v1 v2 v3 v4 v5 v6 v7 s0 S := by
  delta P_X11_face_30 at h1 h2 ⊢
  refine ⟨?_, ?_⟩
  · intro c1
    have h1 := h1.1 c1
    have h2 := h2.1 c1
    obtain ⟨c2, h1⟩ := h1
    obtain ⟨_, h2⟩ := h2
    refine ⟨c2, ?_⟩
    refine cm_X11_partsOf h1 h2 (fun x3 x4 h1 h2 g5 => ?_)
    have h1 := h1 g5
    have h2 := h2 g5
    refine cm_X11_told h1 h2 (fun x6 x7 h1 h2 g8 => ?_)
    have h1 := h1 g8
    have h2 := h2 g8
    exact hq _ _ h1 h2
  · intro c9
    have h1 := h1.2 c9
    have h2 := h2.2 c9
    obtain ⟨c10, h1⟩ := h1
    obtain ⟨_, h2⟩ := h2
    refine ⟨c10, ?_⟩
    refine cm_X11_refused h1 h2 (fun x11 x12 h1 h2 g13 => ?_)
    have h1 := h1 g13
    have h2 := h2 g13
    exact hq _ _ h1 h2
set_option maxRecDepth 20000 in
set_option maxHeartbeats 1000000 in
theorem cm_X11_face_0 {Q1 Q2 Q3 : Int64 → HS → Prop} {v0 : Nat} {v1 : Int32} {v2 : Int32} {v3 : Int32} {v4 : Int32} {v5 : Int32} {v6 : Int32} {v7 : Int32} {S : HS} (h1 : P_X11_face_0 Q1 v0 v1 v2 v3 v4 v5 v6 v7 S) (h2 : P_X11_face_0 Q2 v0 v1 v2 v3 v4 v5 v6 v7 S) (hq : ∀ (r : Int64) (T : HS), Q1 r T → Q2 r T → Q3 r T) : P_X11_face_0 Q3 v0 v1 v2 v3 v4 v5 v6 v7 S := by
  delta P_X11_face_0 at h1 h2 ⊢
  obtain ⟨c1, h1⟩ := h1
  obtain ⟨_, h2⟩ := h2
  refine ⟨c1, ?_⟩
  intro x3 e2
  have h1 := h1 x3 e2
  have h2 := h2 x3 e2
  refine cm_X11_in h1 h2 (fun x4 x5 h1 h2 g6 g7 => ?_)
  have h1 := h1 g6 g7
  have h2 := h2 g6 g7
  refine ⟨?_, ?_⟩
  · intro c8
    have h1 := h1.1 c8
    have h2 := h2.1 c8
    exact cm_X11_face_30 h1 h2 hq
  · intro c9
    have h1 := h1.2 c9
    have h2 := h2.2 c9
    refine cm_X11_refuses h1 h2 (fun x10 x11 h1 h2 g12 => ?_)
    have h1 := h1 g12
    have h2 := h2 g12
    exact cm_X11_face_30 h1 h2 hq
theorem cm_X11_face {Q1 Q2 Q3 : Int64 → HS → Prop} {v0 : Nat} {v1 : Int32} {v2 : Int32} {v3 : Int32} {v4 : Int32} {v5 : Int32} {v6 : Int32} {v7 : Int32} {S : HS} (h1 : P_X11_face v0 v1 v2 v3 v4 v5 v6 v7 Q1 S) (h2 : P_X11_face v0 v1 v2 v3 v4 v5 v6 v7 Q2 S) (hq : ∀ (r : Int64) (T : HS), Q1 r T → Q2 r T → Q3 r T) : P_X11_face v0 v1 v2 v3 v4 v5 v6 v7 Q3 S := cm_X11_face_0 h1 h2 hq
set_option maxRecDepth 20000 in
set_option maxHeartbeats 1000000 in
theorem cm_X11_fault_0 {Q1 Q2 Q3 : Int32 → HS → Prop} {v0 : Nat} {S : HS} (h1 : P_X11_fault_0 Q1 v0 S) (h2 : P_X11_fault_0 Q2 v0 S) (hq : ∀ (r : Int32) (T : HS), Q1 r T → Q2 r T → Q3 r T) : P_X11_fault_0 Q3 v0 S := by
  delta P_X11_fault_0 at h1 h2 ⊢
  obtain ⟨c1, h1⟩ := h1
  obtain ⟨_, h2⟩ := h2
  refine ⟨c1, ?_⟩
  intro x3 e2
  have h1 := h1 x3 e2
  have h2 := h2 x3 e2
  intro x5 e4
  have h1 := h1 x5 e4
  have h2 := h2 x5 e4
  exact hq _ _ h1 h2
theorem cm_X11_fault {Q1 Q2 Q3 : Int32 → HS → Prop} {v0 : Nat} {S : HS} (h1 : P_X11_fault v0 Q1 S) (h2 : P_X11_fault v0 Q2 S) (hq : ∀ (r : Int32) (T : HS), Q1 r T → Q2 r T → Q3 r T) : P_X11_fault v0 Q3 S := cm_X11_fault_0 h1 h2 hq
set_option maxRecDepth 20000 in
set_option maxHeartbeats 1000000 in
theorem cm_X11_feed_76 {Q1 Q2 Q3 : Int32 → HS → Prop} {X23_1 X23_2 X23_3 : Nat → Int32 → Int32 → Int32 → Int32 → Int32 → Int32 → HS → Prop} {v0 : Nat} {v1 : Int32} {v2 : Int32} {v3 : Int32} {v4 : Int32} {v5 : Int32} {v6 : Int32} {s0 : Int32} {S : HS} (h1 : P_X11_feed_76 Q1 X23_1 v0 v1 v2 v3 v4 v5 v6 s0 S) (h2 : P_X11_feed_76 Q2 X23_2 v0 v1 v2 v3 v4 v5 v6 s0 S) (hq : ∀ (r : Int32) (T : HS), Q1 r T → Q2 r T → Q3 r T) (hX23 : ∀ (u0 : Nat) (u1 : Int32) (u2 : Int32) (u3 : Int32) (u4 : Int32) (u5 : Int32) (u6 : Int32) (u7 : HS), X23_1 u0 u1 u2 u3 u4 u5 u6 u7 → X23_2 u0 u1 u2 u3 u4 u5 u6 u7 → X23_3 u0 u1 u2 u3 u4 u5 u6 u7) : P_X11_feed_76 Q3 X23_3 v0 v1 v2 v3 v4 v5 v6 s0 S := by
  delta P_X11_feed_76 at h1 h2 ⊢
  obtain ⟨c1, h1⟩ := h1
  obtain ⟨_, h2⟩ := h2
  refine ⟨c1, ?_⟩
  obtain ⟨b2, e3, h1⟩ := h1
  obtain ⟨b4, e5, h2⟩ := h2
  cases e3.symm.trans e5
  refine ⟨b2, e3, ?_⟩
  intro x7 e6
  have h1 := h1 x7 e6
  have h2 := h2 x7 e6
  intro x9 e8
  have h1 := h1 x9 e8
  have h2 := h2 x9 e8
  obtain ⟨c10, h1⟩ := h1
  obtain ⟨_, h2⟩ := h2
  refine ⟨c10, ?_⟩
  intro x12 e11
  have h1 := h1 x12 e11
  have h2 := h2 x12 e11
  obtain ⟨c13, h1⟩ := h1
  obtain ⟨_, h2⟩ := h2
  refine ⟨c13, ?_⟩
  intro x15 e14
  have h1 := h1 x15 e14
  have h2 := h2 x15 e14
  intro x17 e16
  have h1 := h1 x17 e16
  have h2 := h2 x17 e16
  intro x19 e18
  have h1 := h1 x19 e18
  have h2 := h2 x19 e18
  intro x21 e20
  have h1 := h1 x21 e20
  have h2 := h2 x21 e20
  intro x23 e22
  have h1 := h1 x23 e22
  have h2 := h2 x23 e22
  exact hX23 _ _ _ _ _ _ _ _ h1 h2
set_option maxRecDepth 20000 in
set_option maxHeartbeats 1000000 in
theorem cmB_X11_feed_23 {Q1 Q2 Q3 : Int32 → HS → Prop} {X23_1 X23_2 X23_3 : Nat → Int32 → Int32 → Int32 → Int32 → Int32 → Int32 → HS → Prop} {v0 : Nat} {v1 : Int32} {v2 : Int32} {v3 : Int32} {v4 : Int32} {v5 : Int32} {v6 : Int32} {S : HS} (h1 : B_X11_feed_23 Q1 X23_1 v0 v1 v2 v3 v4 v5 v6 S) (h2 : B_X11_feed_23 Q2 X23_2 v0 v1 v2 v3 v4 v5 v6 S) (hq : ∀ (r : Int32) (T : HS), Q1 r T → Q2 r T → Q3 r T) (hX23 : ∀ (u0 : Nat) (u1 : Int32) (u2 : Int32) (u3 : Int32) (u4 : Int32) (u5 : Int32) (u6 : Int32) (u7 : HS), X23_1 u0 u1 u2 u3 u4 u5 u6 u7 → X23_2 u0 u1 u2 u3 u4 u5 u6 u7 → X23_3 u0 u1 u2 u3 u4 u5 u6 u7) : B_X11_feed_23 Q3 X23_3 v0 v1 v2 v3 v4 v5 v6 S := by
  delta B_X11_feed_23 at h1 h2 ⊢
  refine ⟨?_, ?_⟩
  · intro c1
    have h1 := h1.1 c1
    have h2 := h2.1 c1
    obtain ⟨c2, h1⟩ := h1
    obtain ⟨_, h2⟩ := h2
    refine ⟨c2, ?_⟩
    intro x4 e3
    have h1 := h1 x4 e3
    have h2 := h2 x4 e3
    exact hq _ _ h1 h2
  · intro c5
    have h1 := h1.2 c5
    have h2 := h2.2 c5
    refine ⟨?_, ?_⟩
    · intro c6
      have h1 := h1.1 c6
      have h2 := h2.1 c6
      refine ⟨?_, ?_⟩
      · intro c7
        have h1 := h1.1 c7
        have h2 := h2.1 c7
        refine ⟨?_, ?_⟩
        · intro c8
          have h1 := h1.1 c8
          have h2 := h2.1 c8
          refine ⟨?_, ?_⟩
          · intro c9
            have h1 := h1.1 c9
            have h2 := h2.1 c9
            exact cm_X11_feed_76 h1 h2 hq hX23
          · intro c10
            have h1 := h1.2 c10
            have h2 := h2.2 c10
            exact cm_X11_feed_76 h1 h2 hq hX23
        · intro c11
          have h1 := h1.2 c11
          have h2 := h2.2 c11
          exact cm_X11_feed_76 h1 h2 hq hX23
      · intro c12
        have h1 := h1.2 c12
        have h2 := h2.2 c12
        exact cm_X11_feed_76 h1 h2 hq hX23
    · intro c13
      have h1 := h1.2 c13
      have h2 := h2.2 c13
      exact cm_X11_feed_76 h1 h2 hq hX23
theorem fd_X11_feed_23 {Q : Int32 → HS → Prop} {v0 : Nat} {v1 : Int32} {v2 : Int32} {v3 : Int32} {v4 : Int32} {v5 : Int32} {v6 : Int32} {S : HS} (h : B_X11_feed_23 Q (P_X11_feed_23 Q) v0 v1 v2 v3 v4 v5 v6 S) : P_X11_feed_23 Q v0 v1 v2 v3 v4 v5 v6 S := fun X hX => hX v0 v1 v2 v3 v4 v5 v6 S (cmB_X11_feed_23 h h (fun _ _ a _ => a) (fun _ _ _ _ _ _ _ _ hp _ => hp X hX))
theorem uf_X11_feed_23 {Q : Int32 → HS → Prop} {v0 : Nat} {v1 : Int32} {v2 : Int32} {v3 : Int32} {v4 : Int32} {v5 : Int32} {v6 : Int32} {S : HS} (h : P_X11_feed_23 Q v0 v1 v2 v3 v4 v5 v6 S) : B_X11_feed_23 Q (P_X11_feed_23 Q) v0 v1 v2 v3 v4 v5 v6 S := h (fun v0 v1 v2 v3 v4 v5 v6 S => B_X11_feed_23 Q (P_X11_feed_23 Q) v0 v1 v2 v3 v4 v5 v6 S) (fun v0 v1 v2 v3 v4 v5 v6 S hB => cmB_X11_feed_23 hB hB (fun _ _ a _ => a) (fun _ _ _ _ _ _ _ _ hb _ => fd_X11_feed_23 hb))
theorem cm_X11_feed_23 {Q1 Q2 Q3 : Int32 → HS → Prop} {v0 : Nat} {v1 : Int32} {v2 : Int32} {v3 : Int32} {v4 : Int32} {v5 : Int32} {v6 : Int32} {S : HS} (h1 : P_X11_feed_23 Q1 v0 v1 v2 v3 v4 v5 v6 S) (h2 : P_X11_feed_23 Q2 v0 v1 v2 v3 v4 v5 v6 S) (hq : ∀ (r : Int32) (T : HS), Q1 r T → Q2 r T → Q3 r T) : P_X11_feed_23 Q3 v0 v1 v2 v3 v4 v5 v6 S := h1 (fun v0 v1 v2 v3 v4 v5 v6 S => P_X11_feed_23 Q2 v0 v1 v2 v3 v4 v5 v6 S → P_X11_feed_23 Q3 v0 v1 v2 v3 v4 v5 v6 S) (fun v0 v1 v2 v3 v4 v5 v6 S hB hp => fd_X11_feed_23 (cmB_X11_feed_23 hB (uf_X11_feed_23 hp) hq (fun _ _ _ _ _ _ _ _ hx hp => hx hp))) h2
set_option maxRecDepth 20000 in
set_option maxHeartbeats 1000000 in
theorem cm_X11_feed_0 {Q1 Q2 Q3 : Int32 → HS → Prop} {v0 : Nat} {v1 : Int32} {v2 : Int32} {v3 : Int32} {v4 : Int32} {v5 : Int32} {S : HS} (h1 : P_X11_feed_0 Q1 v0 v1 v2 v3 v4 v5 S) (h2 : P_X11_feed_0 Q2 v0 v1 v2 v3 v4 v5 S) (hq : ∀ (r : Int32) (T : HS), Q1 r T → Q2 r T → Q3 r T) : P_X11_feed_0 Q3 v0 v1 v2 v3 v4 v5 S := by
  delta P_X11_feed_0 at h1 h2 ⊢
  obtain ⟨c1, h1⟩ := h1
  obtain ⟨_, h2⟩ := h2
  refine ⟨c1, ?_⟩
  intro x3 e2
  have h1 := h1 x3 e2
  have h2 := h2 x3 e2
  intro x5 e4
  have h1 := h1 x5 e4
  have h2 := h2 x5 e4
  refine ⟨?_, ?_⟩
  · intro c6
    have h1 := h1.1 c6
    have h2 := h2.1 c6
    exact cm_X11_feed_23 h1 h2 hq
  · intro c7
    have h1 := h1.2 c7
    have h2 := h2.2 c7
    exact hq _ _ h1 h2
theorem cm_X11_feed {Q1 Q2 Q3 : Int32 → HS → Prop} {v0 : Nat} {v1 : Int32} {v2 : Int32} {v3 : Int32} {v4 : Int32} {v5 : Int32} {S : HS} (h1 : P_X11_feed v0 v1 v2 v3 v4 v5 Q1 S) (h2 : P_X11_feed v0 v1 v2 v3 v4 v5 Q2 S) (hq : ∀ (r : Int32) (T : HS), Q1 r T → Q2 r T → Q3 r T) : P_X11_feed v0 v1 v2 v3 v4 v5 Q3 S := cm_X11_feed_0 h1 h2 hq
set_option maxRecDepth 20000 in
set_option maxHeartbeats 1000000 in
theorem cm_X11_refusesTwo_0 {Q1 Q2 Q3 : Int32 → HS → Prop} {v0 : Nat} {v1 : Int32} {v2 : Int32} {v3 : Int32} {v4 : Int32} {v5 : Int32} {v6 : Int32} {S : HS} (h1 : P_X11_refusesTwo_0 Q1 v0 v1 v2 v3 v4 v5 v6 S) (h2 : P_X11_refusesTwo_0 Q2 v0 v1 v2 v3 v4 v5 v6 S) (hq : ∀ (r : Int32) (T : HS), Q1 r T → Q2 r T → Q3 r T) : P_X11_refusesTwo_0 Q3 v0 v1 v2 v3 v4 v5 v6 S := by
  delta P_X11_refusesTwo_0 at h1 h2 ⊢
  refine ⟨?_, ?_⟩
  · intro c1
    have h1 := h1.1 c1
    have h2 := h2.1 c1
    exact hq _ _ h1 h2
  · intro c2
    have h1 := h1.2 c2
    have h2 := h2.2 c2
    obtain ⟨c3, h1⟩ := h1
    obtain ⟨_, h2⟩ := h2
    refine ⟨c3, ?_⟩
    refine cm_X11_isWalker h1 h2 (fun x4 x5 h1 h2 g6 g7 => ?_)
    have h1 := h1 g6 g7
    have h2 := h2 g6 g7
    refine ⟨?_, ?_⟩
    · intro c8
      have h1 := h1.1 c8
      have h2 := h2.1 c8
      refine cm_X11_refuses h1 h2 (fun x9 x10 h1 h2 g11 => ?_)
      have h1 := h1 g11
      have h2 := h2 g11
      refine ⟨?_, ?_⟩
      · intro c12
        have h1 := h1.1 c12
        have h2 := h2.1 c12
        refine cm_X11_isSpeed h1 h2 (fun x13 x14 h1 h2 g15 g16 => ?_)
        have h1 := h1 g15 g16
        have h2 := h2 g15 g16
        refine ⟨?_, ?_⟩
        · intro c17
          have h1 := h1.1 c17
          have h2 := h2.1 c17
          exact hq _ _ h1 h2
        · intro c18
          have h1 := h1.2 c18
          have h2 := h2.2 c18
          exact hq _ _ h1 h2
      · intro c19
        have h1 := h1.2 c19
        have h2 := h2.2 c19
        exact hq _ _ h1 h2
    · intro c20
      have h1 := h1.2 c20
      have h2 := h2.2 c20
      exact hq _ _ h1 h2
theorem cm_X11_refusesTwo {Q1 Q2 Q3 : Int32 → HS → Prop} {v0 : Nat} {v1 : Int32} {v2 : Int32} {v3 : Int32} {v4 : Int32} {v5 : Int32} {v6 : Int32} {S : HS} (h1 : P_X11_refusesTwo v0 v1 v2 v3 v4 v5 v6 Q1 S) (h2 : P_X11_refusesTwo v0 v1 v2 v3 v4 v5 v6 Q2 S) (hq : ∀ (r : Int32) (T : HS), Q1 r T → Q2 r T → Q3 r T) : P_X11_refusesTwo v0 v1 v2 v3 v4 v5 v6 Q3 S := cm_X11_refusesTwo_0 h1 h2 hq
set_option maxRecDepth 20000 in
set_option maxHeartbeats 1000000 in
theorem cmB_X11_together_6 {Q1 Q2 Q3 : Int64 → HS → Prop} {X6_1 X6_2 X6_3 : Nat → Int32 → Int32 → Int32 → Int32 → Int32 → Int32 → Int64 → Int32 → HS → Prop} {v0 : Nat} {v1 : Int32} {v2 : Int32} {v3 : Int32} {v4 : Int32} {v5 : Int32} {v6 : Int32} {v7 : Int64} {v9 : Int32} {S : HS} (h1 : B_X11_together_6 Q1 X6_1 v0 v1 v2 v3 v4 v5 v6 v7 v9 S) (h2 : B_X11_together_6 Q2 X6_2 v0 v1 v2 v3 v4 v5 v6 v7 v9 S) (hq : ∀ (r : Int64) (T : HS), Q1 r T → Q2 r T → Q3 r T) (hX6 : ∀ (u0 : Nat) (u1 : Int32) (u2 : Int32) (u3 : Int32) (u4 : Int32) (u5 : Int32) (u6 : Int32) (u7 : Int64) (u8 : Int32) (u9 : HS), X6_1 u0 u1 u2 u3 u4 u5 u6 u7 u8 u9 → X6_2 u0 u1 u2 u3 u4 u5 u6 u7 u8 u9 → X6_3 u0 u1 u2 u3 u4 u5 u6 u7 u8 u9) : B_X11_together_6 Q3 X6_3 v0 v1 v2 v3 v4 v5 v6 v7 v9 S := by
  delta B_X11_together_6 at h1 h2 ⊢
  refine ⟨?_, ?_⟩
  · intro c1
    have h1 := h1.1 c1
    have h2 := h2.1 c1
    obtain ⟨c2, h1⟩ := h1
    obtain ⟨_, h2⟩ := h2
    refine ⟨c2, ?_⟩
    obtain ⟨b3, e4, h1⟩ := h1
    obtain ⟨b5, e6, h2⟩ := h2
    cases e4.symm.trans e6
    refine ⟨b3, e4, ?_⟩
    obtain ⟨c7, h1⟩ := h1
    obtain ⟨_, h2⟩ := h2
    refine ⟨c7, ?_⟩
    obtain ⟨b8, e9, h1⟩ := h1
    obtain ⟨b10, e11, h2⟩ := h2
    cases e9.symm.trans e11
    refine ⟨b8, e9, ?_⟩
    obtain ⟨c12, h1⟩ := h1
    obtain ⟨_, h2⟩ := h2
    refine ⟨c12, ?_⟩
    obtain ⟨c13, h1⟩ := h1
    obtain ⟨_, h2⟩ := h2
    refine ⟨c13, ?_⟩
    intro x15 e14
    have h1 := h1 x15 e14
    have h2 := h2 x15 e14
    obtain ⟨b16, e17, h1⟩ := h1
    obtain ⟨b18, e19, h2⟩ := h2
    cases e17.symm.trans e19
    refine ⟨b16, e17, ?_⟩
    obtain ⟨c20, h1⟩ := h1
    obtain ⟨_, h2⟩ := h2
    refine ⟨c20, ?_⟩
    obtain ⟨b21, e22, h1⟩ := h1
    obtain ⟨b23, e24, h2⟩ := h2
    cases e22.symm.trans e24
    refine ⟨b21, e22, ?_⟩
    obtain ⟨c25, h1⟩ := h1
    obtain ⟨_, h2⟩ := h2
    refine ⟨c25, ?_⟩
    obtain ⟨c26, h1⟩ := h1
    obtain ⟨_, h2⟩ := h2
    refine ⟨c26, ?_⟩
    intro x28 e27
    have h1 := h1 x28 e27
    have h2 := h2 x28 e27
    obtain ⟨c29, h1⟩ := h1
    obtain ⟨_, h2⟩ := h2
    refine ⟨c29, ?_⟩
    intro x31 e30
    have h1 := h1 x31 e30
    have h2 := h2 x31 e30
    exact hq _ _ h1 h2
  · intro c32
    have h1 := h1.2 c32
    have h2 := h2.2 c32
    obtain ⟨c33, h1⟩ := h1
    obtain ⟨_, h2⟩ := h2
    refine ⟨c33, ?_⟩
    obtain ⟨b34, e35, h1⟩ := h1
    obtain ⟨b36, e37, h2⟩ := h2
    cases e35.symm.trans e37
    refine ⟨b34, e35, ?_⟩
    obtain ⟨c38, h1⟩ := h1
    obtain ⟨_, h2⟩ := h2
    refine ⟨c38, ?_⟩
    obtain ⟨b39, e40, h1⟩ := h1
    obtain ⟨b41, e42, h2⟩ := h2
    cases e40.symm.trans e42
    refine ⟨b39, e40, ?_⟩
    obtain ⟨c43, h1⟩ := h1
    obtain ⟨_, h2⟩ := h2
    refine ⟨c43, ?_⟩
    obtain ⟨c44, h1⟩ := h1
    obtain ⟨_, h2⟩ := h2
    refine ⟨c44, ?_⟩
    intro x46 e45
    have h1 := h1 x46 e45
    have h2 := h2 x46 e45
    refine cm_X11_inTime h1 h2 (fun x47 x48 h1 h2 g49 => ?_)
    have h1 := h1 g49
    have h2 := h2 g49
    intro x51 e50
    have h1 := h1 x51 e50
    have h2 := h2 x51 e50
    obtain ⟨b52, e53, h1⟩ := h1
    obtain ⟨b54, e55, h2⟩ := h2
    cases e53.symm.trans e55
    refine ⟨b52, e53, ?_⟩
    obtain ⟨c56, h1⟩ := h1
    obtain ⟨_, h2⟩ := h2
    refine ⟨c56, ?_⟩
    obtain ⟨b57, e58, h1⟩ := h1
    obtain ⟨b59, e60, h2⟩ := h2
    cases e58.symm.trans e60
    refine ⟨b57, e58, ?_⟩
    obtain ⟨c61, h1⟩ := h1
    obtain ⟨_, h2⟩ := h2
    refine ⟨c61, ?_⟩
    obtain ⟨c62, h1⟩ := h1
    obtain ⟨_, h2⟩ := h2
    refine ⟨c62, ?_⟩
    intro x64 e63
    have h1 := h1 x64 e63
    have h2 := h2 x64 e63
    refine cm_X11_inTime h1 h2 (fun x65 x66 h1 h2 g67 => ?_)
    have h1 := h1 g67
    have h2 := h2 g67
    intro x69 e68
    have h1 := h1 x69 e68
    have h2 := h2 x69 e68
    intro x71 e70
    have h1 := h1 x71 e70
    have h2 := h2 x71 e70
    exact hX6 _ _ _ _ _ _ _ _ _ _ h1 h2
theorem fd_X11_together_6 {Q : Int64 → HS → Prop} {v0 : Nat} {v1 : Int32} {v2 : Int32} {v3 : Int32} {v4 : Int32} {v5 : Int32} {v6 : Int32} {v7 : Int64} {v9 : Int32} {S : HS} (h : B_X11_together_6 Q (P_X11_together_6 Q) v0 v1 v2 v3 v4 v5 v6 v7 v9 S) : P_X11_together_6 Q v0 v1 v2 v3 v4 v5 v6 v7 v9 S := fun X hX => hX v0 v1 v2 v3 v4 v5 v6 v7 v9 S (cmB_X11_together_6 h h (fun _ _ a _ => a) (fun _ _ _ _ _ _ _ _ _ _ hp _ => hp X hX))
theorem uf_X11_together_6 {Q : Int64 → HS → Prop} {v0 : Nat} {v1 : Int32} {v2 : Int32} {v3 : Int32} {v4 : Int32} {v5 : Int32} {v6 : Int32} {v7 : Int64} {v9 : Int32} {S : HS} (h : P_X11_together_6 Q v0 v1 v2 v3 v4 v5 v6 v7 v9 S) : B_X11_together_6 Q (P_X11_together_6 Q) v0 v1 v2 v3 v4 v5 v6 v7 v9 S := h (fun v0 v1 v2 v3 v4 v5 v6 v7 v9 S => B_X11_together_6 Q (P_X11_together_6 Q) v0 v1 v2 v3 v4 v5 v6 v7 v9 S) (fun v0 v1 v2 v3 v4 v5 v6 v7 v9 S hB => cmB_X11_together_6 hB hB (fun _ _ a _ => a) (fun _ _ _ _ _ _ _ _ _ _ hb _ => fd_X11_together_6 hb))
theorem cm_X11_together_6 {Q1 Q2 Q3 : Int64 → HS → Prop} {v0 : Nat} {v1 : Int32} {v2 : Int32} {v3 : Int32} {v4 : Int32} {v5 : Int32} {v6 : Int32} {v7 : Int64} {v9 : Int32} {S : HS} (h1 : P_X11_together_6 Q1 v0 v1 v2 v3 v4 v5 v6 v7 v9 S) (h2 : P_X11_together_6 Q2 v0 v1 v2 v3 v4 v5 v6 v7 v9 S) (hq : ∀ (r : Int64) (T : HS), Q1 r T → Q2 r T → Q3 r T) : P_X11_together_6 Q3 v0 v1 v2 v3 v4 v5 v6 v7 v9 S := h1 (fun v0 v1 v2 v3 v4 v5 v6 v7 v9 S => P_X11_together_6 Q2 v0 v1 v2 v3 v4 v5 v6 v7 v9 S → P_X11_together_6 Q3 v0 v1 v2 v3 v4 v5 v6 v7 v9 S) (fun v0 v1 v2 v3 v4 v5 v6 v7 v9 S hB hp => fd_X11_together_6 (cmB_X11_together_6 hB (uf_X11_together_6 hp) hq (fun _ _ _ _ _ _ _ _ _ _ hx hp => hx hp))) h2
set_option maxRecDepth 20000 in
set_option maxHeartbeats 1000000 in
theorem cm_X11_together_0 {Q1 Q2 Q3 : Int64 → HS → Prop} {v0 : Nat} {v1 : Int32} {v2 : Int32} {v3 : Int32} {v4 : Int32} {v5 : Int32} {v6 : Int32} {S : HS} (h1 : P_X11_together_0 Q1 v0 v1 v2 v3 v4 v5 v6 S) (h2 : P_X11_together_0 Q2 v0 v1 v2 v3 v4 v5 v6 S) (hq : ∀ (r : Int64) (T : HS), Q1 r T → Q2 r T → Q3 r T) : P_X11_together_0 Q3 v0 v1 v2 v3 v4 v5 v6 S := by
  delta P_X11_together_0 at h1 h2 ⊢
  exact cm_X11_together_6 h1 h2 hq
theorem cm_X11_together {Q1 Q2 Q3 : Int64 → HS → Prop} {v0 : Nat} {v1 : Int32} {v2 : Int32} {v3 : Int32} {v4 : Int32} {v5 : Int32} {v6 : Int32} {S : HS} (h1 : P_X11_together v0 v1 v2 v3 v4 v5 v6 Q1 S) (h2 : P_X11_together v0 v1 v2 v3 v4 v5 v6 Q2 S) (hq : ∀ (r : Int64) (T : HS), Q1 r T → Q2 r T → Q3 r T) : P_X11_together v0 v1 v2 v3 v4 v5 v6 Q3 S := cm_X11_together_0 h1 h2 hq
set_option maxRecDepth 20000 in
set_option maxHeartbeats 1000000 in
theorem cm_X11_first_89 {Q1 Q2 Q3 : Int32 → HS → Prop} {s0 : Nat} {s1 : Int32} {S : HS} (h1 : P_X11_first_89 Q1 s0 s1 S) (h2 : P_X11_first_89 Q2 s0 s1 S) (hq : ∀ (r : Int32) (T : HS), Q1 r T → Q2 r T → Q3 r T) : P_X11_first_89 Q3 s0 s1 S := by
  delta P_X11_first_89 at h1 h2 ⊢
  obtain ⟨c1, h1⟩ := h1
  obtain ⟨_, h2⟩ := h2
  refine ⟨c1, ?_⟩
  refine cm_X11_good h1 h2 (fun x2 x3 h1 h2 g4 => ?_)
  have h1 := h1 g4
  have h2 := h2 g4
  exact hq _ _ h1 h2
set_option maxRecDepth 20000 in
set_option maxHeartbeats 1000000 in
theorem cm_X11_first_0 {Q1 Q2 Q3 : Int32 → HS → Prop} {v0 : Nat} {v1 : Int32} {v2 : Int32} {v3 : Int32} {v4 : Int32} {v5 : Int32} {v6 : Int32} {S : HS} (h1 : P_X11_first_0 Q1 v0 v1 v2 v3 v4 v5 v6 S) (h2 : P_X11_first_0 Q2 v0 v1 v2 v3 v4 v5 v6 S) (hq : ∀ (r : Int32) (T : HS), Q1 r T → Q2 r T → Q3 r T) : P_X11_first_0 Q3 v0 v1 v2 v3 v4 v5 v6 S := by
  delta P_X11_first_0 at h1 h2 ⊢
  obtain ⟨c1, h1⟩ := h1
  obtain ⟨_, h2⟩ := h2
  refine ⟨c1, ?_⟩
  intro x3 e2
  have h1 := h1 x3 e2
  have h2 := h2 x3 e2
  refine cm_X11_refusesTwo h1 h2 (fun x4 x5 h1 h2 g6 => ?_)
  have h1 := h1 g6
  have h2 := h2 g6
  refine ⟨?_, ?_⟩
  · intro c7
    have h1 := h1.1 c7
    have h2 := h2.1 c7
    refine cm_X11_together h1 h2 (fun x8 x9 h1 h2 g10 => ?_)
    have h1 := h1 g10
    have h2 := h2 g10
    refine cm_X11_together h1 h2 (fun x11 x12 h1 h2 g13 => ?_)
    have h1 := h1 g13
    have h2 := h2 g13
    refine ⟨?_, ?_⟩
    · intro c14
      have h1 := h1.1 c14
      have h2 := h2.1 c14
      refine ⟨?_, ?_⟩
      · intro c15
        have h1 := h1.1 c15
        have h2 := h2.1 c15
        exact cm_X11_first_89 h1 h2 hq
      · intro c16
        have h1 := h1.2 c16
        have h2 := h2.2 c16
        exact cm_X11_first_89 h1 h2 hq
    · intro c17
      have h1 := h1.2 c17
      have h2 := h2.2 c17
      exact cm_X11_first_89 h1 h2 hq
  · intro c18
    have h1 := h1.2 c18
    have h2 := h2.2 c18
    refine cm_X11_refused h1 h2 (fun x19 x20 h1 h2 g21 => ?_)
    have h1 := h1 g21
    have h2 := h2 g21
    exact hq _ _ h1 h2
theorem cm_X11_first {Q1 Q2 Q3 : Int32 → HS → Prop} {v0 : Nat} {v1 : Int32} {v2 : Int32} {v3 : Int32} {v4 : Int32} {v5 : Int32} {v6 : Int32} {S : HS} (h1 : P_X11_first v0 v1 v2 v3 v4 v5 v6 Q1 S) (h2 : P_X11_first v0 v1 v2 v3 v4 v5 v6 Q2 S) (hq : ∀ (r : Int32) (T : HS), Q1 r T → Q2 r T → Q3 r T) : P_X11_first v0 v1 v2 v3 v4 v5 v6 Q3 S := cm_X11_first_0 h1 h2 hq
set_option maxRecDepth 20000 in
set_option maxHeartbeats 1000000 in
theorem cm_X11_fitOf_137 {Q1 Q2 Q3 : Int32 → HS → Prop} {X16_1 X16_2 X16_3 : Nat → Int32 → Int32 → Int32 → Int32 → Int32 → HS → Prop} {X31_1 X31_2 X31_3 : Nat → Int32 → Int32 → Int32 → Int32 → Int32 → Int32 → HS → Prop} {X40_1 X40_2 X40_3 : Nat → Int32 → Int32 → Int32 → Int32 → Int32 → Int32 → Int32 → HS → Prop} {X63_1 X63_2 X63_3 : Nat → Int32 → Int32 → Int32 → Int32 → Int32 → Int32 → Int32 → Int32 → HS → Prop} {X83_1 X83_2 X83_3 : Nat → Int32 → Int32 → Int32 → Int32 → Int32 → Int32 → Int32 → Int32 → Int32 → Int32 → HS → Prop} {v0 : Nat} {v1 : Int32} {v2 : Int32} {v3 : Int32} {v4 : Int32} {v5 : Int32} {v6 : Int32} {v7 : Int32} {v8 : Int32} {v10 : Int32} {s0 : Int32} {S : HS} (h1 : P_X11_fitOf_137 Q1 X16_1 X31_1 X40_1 X63_1 X83_1 v0 v1 v2 v3 v4 v5 v6 v7 v8 v10 s0 S) (h2 : P_X11_fitOf_137 Q2 X16_2 X31_2 X40_2 X63_2 X83_2 v0 v1 v2 v3 v4 v5 v6 v7 v8 v10 s0 S) (hq : ∀ (r : Int32) (T : HS), Q1 r T → Q2 r T → Q3 r T) (hX16 : ∀ (u0 : Nat) (u1 : Int32) (u2 : Int32) (u3 : Int32) (u4 : Int32) (u5 : Int32) (u6 : HS), X16_1 u0 u1 u2 u3 u4 u5 u6 → X16_2 u0 u1 u2 u3 u4 u5 u6 → X16_3 u0 u1 u2 u3 u4 u5 u6) (hX31 : ∀ (u0 : Nat) (u1 : Int32) (u2 : Int32) (u3 : Int32) (u4 : Int32) (u5 : Int32) (u6 : Int32) (u7 : HS), X31_1 u0 u1 u2 u3 u4 u5 u6 u7 → X31_2 u0 u1 u2 u3 u4 u5 u6 u7 → X31_3 u0 u1 u2 u3 u4 u5 u6 u7) (hX40 : ∀ (u0 : Nat) (u1 : Int32) (u2 : Int32) (u3 : Int32) (u4 : Int32) (u5 : Int32) (u6 : Int32) (u7 : Int32) (u8 : HS), X40_1 u0 u1 u2 u3 u4 u5 u6 u7 u8 → X40_2 u0 u1 u2 u3 u4 u5 u6 u7 u8 → X40_3 u0 u1 u2 u3 u4 u5 u6 u7 u8) (hX63 : ∀ (u0 : Nat) (u1 : Int32) (u2 : Int32) (u3 : Int32) (u4 : Int32) (u5 : Int32) (u6 : Int32) (u7 : Int32) (u8 : Int32) (u9 : HS), X63_1 u0 u1 u2 u3 u4 u5 u6 u7 u8 u9 → X63_2 u0 u1 u2 u3 u4 u5 u6 u7 u8 u9 → X63_3 u0 u1 u2 u3 u4 u5 u6 u7 u8 u9) (hX83 : ∀ (u0 : Nat) (u1 : Int32) (u2 : Int32) (u3 : Int32) (u4 : Int32) (u5 : Int32) (u6 : Int32) (u7 : Int32) (u8 : Int32) (u9 : Int32) (u10 : Int32) (u11 : HS), X83_1 u0 u1 u2 u3 u4 u5 u6 u7 u8 u9 u10 u11 → X83_2 u0 u1 u2 u3 u4 u5 u6 u7 u8 u9 u10 u11 → X83_3 u0 u1 u2 u3 u4 u5 u6 u7 u8 u9 u10 u11) : P_X11_fitOf_137 Q3 X16_3 X31_3 X40_3 X63_3 X83_3 v0 v1 v2 v3 v4 v5 v6 v7 v8 v10 s0 S := by
  delta P_X11_fitOf_137 at h1 h2 ⊢
  intro x2 e1
  have h1 := h1 x2 e1
  have h2 := h2 x2 e1
  exact hX83 _ _ _ _ _ _ _ _ _ _ _ _ h1 h2
set_option maxRecDepth 20000 in
set_option maxHeartbeats 1000000 in
theorem cm_X11_fitOf_136 {Q1 Q2 Q3 : Int32 → HS → Prop} {X16_1 X16_2 X16_3 : Nat → Int32 → Int32 → Int32 → Int32 → Int32 → HS → Prop} {X31_1 X31_2 X31_3 : Nat → Int32 → Int32 → Int32 → Int32 → Int32 → Int32 → HS → Prop} {X40_1 X40_2 X40_3 : Nat → Int32 → Int32 → Int32 → Int32 → Int32 → Int32 → Int32 → HS → Prop} {X63_1 X63_2 X63_3 : Nat → Int32 → Int32 → Int32 → Int32 → Int32 → Int32 → Int32 → Int32 → HS → Prop} {X83_1 X83_2 X83_3 : Nat → Int32 → Int32 → Int32 → Int32 → Int32 → Int32 → Int32 → Int32 → Int32 → Int32 → HS → Prop} {v0 : Nat} {v1 : Int32} {v2 : Int32} {v3 : Int32} {v4 : Int32} {v5 : Int32} {v6 : Int32} {v7 : Int32} {v8 : Int32} {v10 : Int32} {S : HS} (h1 : P_X11_fitOf_136 Q1 X16_1 X31_1 X40_1 X63_1 X83_1 v0 v1 v2 v3 v4 v5 v6 v7 v8 v10 S) (h2 : P_X11_fitOf_136 Q2 X16_2 X31_2 X40_2 X63_2 X83_2 v0 v1 v2 v3 v4 v5 v6 v7 v8 v10 S) (hq : ∀ (r : Int32) (T : HS), Q1 r T → Q2 r T → Q3 r T) (hX16 : ∀ (u0 : Nat) (u1 : Int32) (u2 : Int32) (u3 : Int32) (u4 : Int32) (u5 : Int32) (u6 : HS), X16_1 u0 u1 u2 u3 u4 u5 u6 → X16_2 u0 u1 u2 u3 u4 u5 u6 → X16_3 u0 u1 u2 u3 u4 u5 u6) (hX31 : ∀ (u0 : Nat) (u1 : Int32) (u2 : Int32) (u3 : Int32) (u4 : Int32) (u5 : Int32) (u6 : Int32) (u7 : HS), X31_1 u0 u1 u2 u3 u4 u5 u6 u7 → X31_2 u0 u1 u2 u3 u4 u5 u6 u7 → X31_3 u0 u1 u2 u3 u4 u5 u6 u7) (hX40 : ∀ (u0 : Nat) (u1 : Int32) (u2 : Int32) (u3 : Int32) (u4 : Int32) (u5 : Int32) (u6 : Int32) (u7 : Int32) (u8 : HS), X40_1 u0 u1 u2 u3 u4 u5 u6 u7 u8 → X40_2 u0 u1 u2 u3 u4 u5 u6 u7 u8 → X40_3 u0 u1 u2 u3 u4 u5 u6 u7 u8) (hX63 : ∀ (u0 : Nat) (u1 : Int32) (u2 : Int32) (u3 : Int32) (u4 : Int32) (u5 : Int32) (u6 : Int32) (u7 : Int32) (u8 : Int32) (u9 : HS), X63_1 u0 u1 u2 u3 u4 u5 u6 u7 u8 u9 → X63_2 u0 u1 u2 u3 u4 u5 u6 u7 u8 u9 → X63_3 u0 u1 u2 u3 u4 u5 u6 u7 u8 u9) (hX83 : ∀ (u0 : Nat) (u1 : Int32) (u2 : Int32) (u3 : Int32) (u4 : Int32) (u5 : Int32) (u6 : Int32) (u7 : Int32) (u8 : Int32) (u9 : Int32) (u10 : Int32) (u11 : HS), X83_1 u0 u1 u2 u3 u4 u5 u6 u7 u8 u9 u10 u11 → X83_2 u0 u1 u2 u3 u4 u5 u6 u7 u8 u9 u10 u11 → X83_3 u0 u1 u2 u3 u4 u5 u6 u7 u8 u9 u10 u11) : P_X11_fitOf_136 Q3 X16_3 X31_3 X40_3 X63_3 X83_3 v0 v1 v2 v3 v4 v5 v6 v7 v8 v10 S := by
  delta P_X11_fitOf_136 at h1 h2 ⊢
  exact cm_X11_fitOf_137 h1 h2 hq hX16 hX31 hX40 hX63 hX83
set_option maxRecDepth 20000 in
set_option maxHeartbeats 1000000 in
theorem cm_X11_fitOf_184 {Q1 Q2 Q3 : Int32 → HS → Prop} {X16_1 X16_2 X16_3 : Nat → Int32 → Int32 → Int32 → Int32 → Int32 → HS → Prop} {X31_1 X31_2 X31_3 : Nat → Int32 → Int32 → Int32 → Int32 → Int32 → Int32 → HS → Prop} {X40_1 X40_2 X40_3 : Nat → Int32 → Int32 → Int32 → Int32 → Int32 → Int32 → Int32 → HS → Prop} {X63_1 X63_2 X63_3 : Nat → Int32 → Int32 → Int32 → Int32 → Int32 → Int32 → Int32 → Int32 → HS → Prop} {v0 : Nat} {v1 : Int32} {v2 : Int32} {v3 : Int32} {v4 : Int32} {v5 : Int32} {v6 : Int32} {v7 : Int32} {v8 : Int32} {S : HS} (h1 : P_X11_fitOf_184 Q1 X16_1 X31_1 X40_1 X63_1 v0 v1 v2 v3 v4 v5 v6 v7 v8 S) (h2 : P_X11_fitOf_184 Q2 X16_2 X31_2 X40_2 X63_2 v0 v1 v2 v3 v4 v5 v6 v7 v8 S) (hq : ∀ (r : Int32) (T : HS), Q1 r T → Q2 r T → Q3 r T) (hX16 : ∀ (u0 : Nat) (u1 : Int32) (u2 : Int32) (u3 : Int32) (u4 : Int32) (u5 : Int32) (u6 : HS), X16_1 u0 u1 u2 u3 u4 u5 u6 → X16_2 u0 u1 u2 u3 u4 u5 u6 → X16_3 u0 u1 u2 u3 u4 u5 u6) (hX31 : ∀ (u0 : Nat) (u1 : Int32) (u2 : Int32) (u3 : Int32) (u4 : Int32) (u5 : Int32) (u6 : Int32) (u7 : HS), X31_1 u0 u1 u2 u3 u4 u5 u6 u7 → X31_2 u0 u1 u2 u3 u4 u5 u6 u7 → X31_3 u0 u1 u2 u3 u4 u5 u6 u7) (hX40 : ∀ (u0 : Nat) (u1 : Int32) (u2 : Int32) (u3 : Int32) (u4 : Int32) (u5 : Int32) (u6 : Int32) (u7 : Int32) (u8 : HS), X40_1 u0 u1 u2 u3 u4 u5 u6 u7 u8 → X40_2 u0 u1 u2 u3 u4 u5 u6 u7 u8 → X40_3 u0 u1 u2 u3 u4 u5 u6 u7 u8) (hX63 : ∀ (u0 : Nat) (u1 : Int32) (u2 : Int32) (u3 : Int32) (u4 : Int32) (u5 : Int32) (u6 : Int32) (u7 : Int32) (u8 : Int32) (u9 : HS), X63_1 u0 u1 u2 u3 u4 u5 u6 u7 u8 u9 → X63_2 u0 u1 u2 u3 u4 u5 u6 u7 u8 u9 → X63_3 u0 u1 u2 u3 u4 u5 u6 u7 u8 u9) : P_X11_fitOf_184 Q3 X16_3 X31_3 X40_3 X63_3 v0 v1 v2 v3 v4 v5 v6 v7 v8 S := by
  delta P_X11_fitOf_184 at h1 h2 ⊢
  intro x2 e1
  have h1 := h1 x2 e1
  have h2 := h2 x2 e1
  exact hX63 _ _ _ _ _ _ _ _ _ _ h1 h2
set_option maxRecDepth 20000 in
set_option maxHeartbeats 1000000 in
theorem cmB_X11_fitOf_83 {Q1 Q2 Q3 : Int32 → HS → Prop} {X16_1 X16_2 X16_3 : Nat → Int32 → Int32 → Int32 → Int32 → Int32 → HS → Prop} {X31_1 X31_2 X31_3 : Nat → Int32 → Int32 → Int32 → Int32 → Int32 → Int32 → HS → Prop} {X40_1 X40_2 X40_3 : Nat → Int32 → Int32 → Int32 → Int32 → Int32 → Int32 → Int32 → HS → Prop} {X63_1 X63_2 X63_3 : Nat → Int32 → Int32 → Int32 → Int32 → Int32 → Int32 → Int32 → Int32 → HS → Prop} {X83_1 X83_2 X83_3 : Nat → Int32 → Int32 → Int32 → Int32 → Int32 → Int32 → Int32 → Int32 → Int32 → Int32 → HS → Prop} {v0 : Nat} {v1 : Int32} {v2 : Int32} {v3 : Int32} {v4 : Int32} {v5 : Int32} {v6 : Int32} {v7 : Int32} {v8 : Int32} {v9 : Int32} {v10 : Int32} {S : HS} (h1 : B_X11_fitOf_83 Q1 X16_1 X31_1 X40_1 X63_1 X83_1 v0 v1 v2 v3 v4 v5 v6 v7 v8 v9 v10 S) (h2 : B_X11_fitOf_83 Q2 X16_2 X31_2 X40_2 X63_2 X83_2 v0 v1 v2 v3 v4 v5 v6 v7 v8 v9 v10 S) (hq : ∀ (r : Int32) (T : HS), Q1 r T → Q2 r T → Q3 r T) (hX16 : ∀ (u0 : Nat) (u1 : Int32) (u2 : Int32) (u3 : Int32) (u4 : Int32) (u5 : Int32) (u6 : HS), X16_1 u0 u1 u2 u3 u4 u5 u6 → X16_2 u0 u1 u2 u3 u4 u5 u6 → X16_3 u0 u1 u2 u3 u4 u5 u6) (hX31 : ∀ (u0 : Nat) (u1 : Int32) (u2 : Int32) (u3 : Int32) (u4 : Int32) (u5 : Int32) (u6 : Int32) (u7 : HS), X31_1 u0 u1 u2 u3 u4 u5 u6 u7 → X31_2 u0 u1 u2 u3 u4 u5 u6 u7 → X31_3 u0 u1 u2 u3 u4 u5 u6 u7) (hX40 : ∀ (u0 : Nat) (u1 : Int32) (u2 : Int32) (u3 : Int32) (u4 : Int32) (u5 : Int32) (u6 : Int32) (u7 : Int32) (u8 : HS), X40_1 u0 u1 u2 u3 u4 u5 u6 u7 u8 → X40_2 u0 u1 u2 u3 u4 u5 u6 u7 u8 → X40_3 u0 u1 u2 u3 u4 u5 u6 u7 u8) (hX63 : ∀ (u0 : Nat) (u1 : Int32) (u2 : Int32) (u3 : Int32) (u4 : Int32) (u5 : Int32) (u6 : Int32) (u7 : Int32) (u8 : Int32) (u9 : HS), X63_1 u0 u1 u2 u3 u4 u5 u6 u7 u8 u9 → X63_2 u0 u1 u2 u3 u4 u5 u6 u7 u8 u9 → X63_3 u0 u1 u2 u3 u4 u5 u6 u7 u8 u9) (hX83 : ∀ (u0 : Nat) (u1 : Int32) (u2 : Int32) (u3 : Int32) (u4 : Int32) (u5 : Int32) (u6 : Int32) (u7 : Int32) (u8 : Int32) (u9 : Int32) (u10 : Int32) (u11 : HS), X83_1 u0 u1 u2 u3 u4 u5 u6 u7 u8 u9 u10 u11 → X83_2 u0 u1 u2 u3 u4 u5 u6 u7 u8 u9 u10 u11 → X83_3 u0 u1 u2 u3 u4 u5 u6 u7 u8 u9 u10 u11) : B_X11_fitOf_83 Q3 X16_3 X31_3 X40_3 X63_3 X83_3 v0 v1 v2 v3 v4 v5 v6 v7 v8 v9 v10 S := by
  delta B_X11_fitOf_83 at h1 h2 ⊢
  refine ⟨?_, ?_⟩
  · intro c1
    have h1 := h1.1 c1
    have h2 := h2.1 c1
    refine ⟨?_, ?_⟩
    · intro c2
      have h1 := h1.1 c2
      have h2 := h2.1 c2
      refine ⟨?_, ?_⟩
      · intro c3
        have h1 := h1.1 c3
        have h2 := h2.1 c3
        intro x5 e4
        have h1 := h1 x5 e4
        have h2 := h2 x5 e4
        exact cm_X11_fitOf_184 h1 h2 hq hX16 hX31 hX40 hX63
      · intro c6
        have h1 := h1.2 c6
        have h2 := h2.2 c6
        exact hq _ _ h1 h2
    · intro c7
      have h1 := h1.2 c7
      have h2 := h2.2 c7
      exact cm_X11_fitOf_184 h1 h2 hq hX16 hX31 hX40 hX63
  · intro c8
    have h1 := h1.2 c8
    have h2 := h2.2 c8
    refine ⟨?_, ?_⟩
    · intro c9
      have h1 := h1.1 c9
      have h2 := h2.1 c9
      exact cm_X11_fitOf_136 h1 h2 hq hX16 hX31 hX40 hX63 hX83
    · intro c10
      have h1 := h1.2 c10
      have h2 := h2.2 c10
      obtain ⟨c11, h1⟩ := h1
      obtain ⟨_, h2⟩ := h2
      refine ⟨c11, ?_⟩
      refine cm_X11_partsOf h1 h2 (fun x12 x13 h1 h2 g14 => ?_)
      have h1 := h1 g14
      have h2 := h2 g14
      obtain ⟨b15, e16, h1⟩ := h1
      obtain ⟨b17, e18, h2⟩ := h2
      cases e16.symm.trans e18
      refine ⟨b15, e16, ?_⟩
      obtain ⟨c19, h1⟩ := h1
      obtain ⟨_, h2⟩ := h2
      refine ⟨c19, ?_⟩
      obtain ⟨b20, e21, h1⟩ := h1
      obtain ⟨b22, e23, h2⟩ := h2
      cases e21.symm.trans e23
      refine ⟨b20, e21, ?_⟩
      obtain ⟨c24, h1⟩ := h1
      obtain ⟨_, h2⟩ := h2
      refine ⟨c24, ?_⟩
      intro x26 e25
      have h1 := h1 x26 e25
      have h2 := h2 x26 e25
      obtain ⟨c27, h1⟩ := h1
      obtain ⟨_, h2⟩ := h2
      refine ⟨c27, ?_⟩
      intro x29 e28
      have h1 := h1 x29 e28
      have h2 := h2 x29 e28
      refine ⟨?_, ?_⟩
      · intro c30
        have h1 := h1.1 c30
        have h2 := h2.1 c30
        exact cm_X11_fitOf_136 h1 h2 hq hX16 hX31 hX40 hX63 hX83
      · intro c31
        have h1 := h1.2 c31
        have h2 := h2.2 c31
        exact cm_X11_fitOf_137 h1 h2 hq hX16 hX31 hX40 hX63 hX83
theorem fd_X11_fitOf_83 {Q : Int32 → HS → Prop} {X16 : Nat → Int32 → Int32 → Int32 → Int32 → Int32 → HS → Prop} {X31 : Nat → Int32 → Int32 → Int32 → Int32 → Int32 → Int32 → HS → Prop} {X40 : Nat → Int32 → Int32 → Int32 → Int32 → Int32 → Int32 → Int32 → HS → Prop} {X63 : Nat → Int32 → Int32 → Int32 → Int32 → Int32 → Int32 → Int32 → Int32 → HS → Prop} {v0 : Nat} {v1 : Int32} {v2 : Int32} {v3 : Int32} {v4 : Int32} {v5 : Int32} {v6 : Int32} {v7 : Int32} {v8 : Int32} {v9 : Int32} {v10 : Int32} {S : HS} (h : B_X11_fitOf_83 Q X16 X31 X40 X63 (P_X11_fitOf_83 Q X16 X31 X40 X63) v0 v1 v2 v3 v4 v5 v6 v7 v8 v9 v10 S) : P_X11_fitOf_83 Q X16 X31 X40 X63 v0 v1 v2 v3 v4 v5 v6 v7 v8 v9 v10 S := fun X hX => hX v0 v1 v2 v3 v4 v5 v6 v7 v8 v9 v10 S (cmB_X11_fitOf_83 h h (fun _ _ a _ => a) (fun _ _ _ _ _ _ _ a _ => a) (fun _ _ _ _ _ _ _ _ a _ => a) (fun _ _ _ _ _ _ _ _ _ a _ => a) (fun _ _ _ _ _ _ _ _ _ _ a _ => a) (fun _ _ _ _ _ _ _ _ _ _ _ _ hp _ => hp X hX))
theorem uf_X11_fitOf_83 {Q : Int32 → HS → Prop} {X16 : Nat → Int32 → Int32 → Int32 → Int32 → Int32 → HS → Prop} {X31 : Nat → Int32 → Int32 → Int32 → Int32 → Int32 → Int32 → HS → Prop} {X40 : Nat → Int32 → Int32 → Int32 → Int32 → Int32 → Int32 → Int32 → HS → Prop} {X63 : Nat → Int32 → Int32 → Int32 → Int32 → Int32 → Int32 → Int32 → Int32 → HS → Prop} {v0 : Nat} {v1 : Int32} {v2 : Int32} {v3 : Int32} {v4 : Int32} {v5 : Int32} {v6 : Int32} {v7 : Int32} {v8 : Int32} {v9 : Int32} {v10 : Int32} {S : HS} (h : P_X11_fitOf_83 Q X16 X31 X40 X63 v0 v1 v2 v3 v4 v5 v6 v7 v8 v9 v10 S) : B_X11_fitOf_83 Q X16 X31 X40 X63 (P_X11_fitOf_83 Q X16 X31 X40 X63) v0 v1 v2 v3 v4 v5 v6 v7 v8 v9 v10 S := h (fun v0 v1 v2 v3 v4 v5 v6 v7 v8 v9 v10 S => B_X11_fitOf_83 Q X16 X31 X40 X63 (P_X11_fitOf_83 Q X16 X31 X40 X63) v0 v1 v2 v3 v4 v5 v6 v7 v8 v9 v10 S) (fun v0 v1 v2 v3 v4 v5 v6 v7 v8 v9 v10 S hB => cmB_X11_fitOf_83 hB hB (fun _ _ a _ => a) (fun _ _ _ _ _ _ _ a _ => a) (fun _ _ _ _ _ _ _ _ a _ => a) (fun _ _ _ _ _ _ _ _ _ a _ => a) (fun _ _ _ _ _ _ _ _ _ _ a _ => a) (fun _ _ _ _ _ _ _ _ _ _ _ _ hb _ => fd_X11_fitOf_83 hb))
theorem cm_X11_fitOf_83 {Q1 Q2 Q3 : Int32 → HS → Prop} {X16_1 X16_2 X16_3 : Nat → Int32 → Int32 → Int32 → Int32 → Int32 → HS → Prop} {X31_1 X31_2 X31_3 : Nat → Int32 → Int32 → Int32 → Int32 → Int32 → Int32 → HS → Prop} {X40_1 X40_2 X40_3 : Nat → Int32 → Int32 → Int32 → Int32 → Int32 → Int32 → Int32 → HS → Prop} {X63_1 X63_2 X63_3 : Nat → Int32 → Int32 → Int32 → Int32 → Int32 → Int32 → Int32 → Int32 → HS → Prop} {v0 : Nat} {v1 : Int32} {v2 : Int32} {v3 : Int32} {v4 : Int32} {v5 : Int32} {v6 : Int32} {v7 : Int32} {v8 : Int32} {v9 : Int32} {v10 : Int32} {S : HS} (h1 : P_X11_fitOf_83 Q1 X16_1 X31_1 X40_1 X63_1 v0 v1 v2 v3 v4 v5 v6 v7 v8 v9 v10 S) (h2 : P_X11_fitOf_83 Q2 X16_2 X31_2 X40_2 X63_2 v0 v1 v2 v3 v4 v5 v6 v7 v8 v9 v10 S) (hq : ∀ (r : Int32) (T : HS), Q1 r T → Q2 r T → Q3 r T) (hX16 : ∀ (u0 : Nat) (u1 : Int32) (u2 : Int32) (u3 : Int32) (u4 : Int32) (u5 : Int32) (u6 : HS), X16_1 u0 u1 u2 u3 u4 u5 u6 → X16_2 u0 u1 u2 u3 u4 u5 u6 → X16_3 u0 u1 u2 u3 u4 u5 u6) (hX31 : ∀ (u0 : Nat) (u1 : Int32) (u2 : Int32) (u3 : Int32) (u4 : Int32) (u5 : Int32) (u6 : Int32) (u7 : HS), X31_1 u0 u1 u2 u3 u4 u5 u6 u7 → X31_2 u0 u1 u2 u3 u4 u5 u6 u7 → X31_3 u0 u1 u2 u3 u4 u5 u6 u7) (hX40 : ∀ (u0 : Nat) (u1 : Int32) (u2 : Int32) (u3 : Int32) (u4 : Int32) (u5 : Int32) (u6 : Int32) (u7 : Int32) (u8 : HS), X40_1 u0 u1 u2 u3 u4 u5 u6 u7 u8 → X40_2 u0 u1 u2 u3 u4 u5 u6 u7 u8 → X40_3 u0 u1 u2 u3 u4 u5 u6 u7 u8) (hX63 : ∀ (u0 : Nat) (u1 : Int32) (u2 : Int32) (u3 : Int32) (u4 : Int32) (u5 : Int32) (u6 : Int32) (u7 : Int32) (u8 : Int32) (u9 : HS), X63_1 u0 u1 u2 u3 u4 u5 u6 u7 u8 u9 → X63_2 u0 u1 u2 u3 u4 u5 u6 u7 u8 u9 → X63_3 u0 u1 u2 u3 u4 u5 u6 u7 u8 u9) : P_X11_fitOf_83 Q3 X16_3 X31_3 X40_3 X63_3 v0 v1 v2 v3 v4 v5 v6 v7 v8 v9 v10 S := h1 (fun v0 v1 v2 v3 v4 v5 v6 v7 v8 v9 v10 S => P_X11_fitOf_83 Q2 X16_2 X31_2 X40_2 X63_2 v0 v1 v2 v3 v4 v5 v6 v7 v8 v9 v10 S → P_X11_fitOf_83 Q3 X16_3 X31_3 X40_3 X63_3 v0 v1 v2 v3 v4 v5 v6 v7 v8 v9 v10 S) (fun v0 v1 v2 v3 v4 v5 v6 v7 v8 v9 v10 S hB hp => fd_X11_fitOf_83 (cmB_X11_fitOf_83 hB (uf_X11_fitOf_83 hp) hq hX16 hX31 hX40 hX63 (fun _ _ _ _ _ _ _ _ _ _ _ _ hx hp => hx hp))) h2
set_option maxRecDepth 20000 in
set_option maxHeartbeats 1000000 in
theorem cmB_X11_fitOf_63 {Q1 Q2 Q3 : Int32 → HS → Prop} {X16_1 X16_2 X16_3 : Nat → Int32 → Int32 → Int32 → Int32 → Int32 → HS → Prop} {X31_1 X31_2 X31_3 : Nat → Int32 → Int32 → Int32 → Int32 → Int32 → Int32 → HS → Prop} {X40_1 X40_2 X40_3 : Nat → Int32 → Int32 → Int32 → Int32 → Int32 → Int32 → Int32 → HS → Prop} {X63_1 X63_2 X63_3 : Nat → Int32 → Int32 → Int32 → Int32 → Int32 → Int32 → Int32 → Int32 → HS → Prop} {v0 : Nat} {v1 : Int32} {v2 : Int32} {v3 : Int32} {v4 : Int32} {v5 : Int32} {v6 : Int32} {v7 : Int32} {v8 : Int32} {S : HS} (h1 : B_X11_fitOf_63 Q1 X16_1 X31_1 X40_1 X63_1 v0 v1 v2 v3 v4 v5 v6 v7 v8 S) (h2 : B_X11_fitOf_63 Q2 X16_2 X31_2 X40_2 X63_2 v0 v1 v2 v3 v4 v5 v6 v7 v8 S) (hq : ∀ (r : Int32) (T : HS), Q1 r T → Q2 r T → Q3 r T) (hX16 : ∀ (u0 : Nat) (u1 : Int32) (u2 : Int32) (u3 : Int32) (u4 : Int32) (u5 : Int32) (u6 : HS), X16_1 u0 u1 u2 u3 u4 u5 u6 → X16_2 u0 u1 u2 u3 u4 u5 u6 → X16_3 u0 u1 u2 u3 u4 u5 u6) (hX31 : ∀ (u0 : Nat) (u1 : Int32) (u2 : Int32) (u3 : Int32) (u4 : Int32) (u5 : Int32) (u6 : Int32) (u7 : HS), X31_1 u0 u1 u2 u3 u4 u5 u6 u7 → X31_2 u0 u1 u2 u3 u4 u5 u6 u7 → X31_3 u0 u1 u2 u3 u4 u5 u6 u7) (hX40 : ∀ (u0 : Nat) (u1 : Int32) (u2 : Int32) (u3 : Int32) (u4 : Int32) (u5 : Int32) (u6 : Int32) (u7 : Int32) (u8 : HS), X40_1 u0 u1 u2 u3 u4 u5 u6 u7 u8 → X40_2 u0 u1 u2 u3 u4 u5 u6 u7 u8 → X40_3 u0 u1 u2 u3 u4 u5 u6 u7 u8) (hX63 : ∀ (u0 : Nat) (u1 : Int32) (u2 : Int32) (u3 : Int32) (u4 : Int32) (u5 : Int32) (u6 : Int32) (u7 : Int32) (u8 : Int32) (u9 : HS), X63_1 u0 u1 u2 u3 u4 u5 u6 u7 u8 u9 → X63_2 u0 u1 u2 u3 u4 u5 u6 u7 u8 u9 → X63_3 u0 u1 u2 u3 u4 u5 u6 u7 u8 u9) : B_X11_fitOf_63 Q3 X16_3 X31_3 X40_3 X63_3 v0 v1 v2 v3 v4 v5 v6 v7 v8 S := by
  delta B_X11_fitOf_63 at h1 h2 ⊢
  obtain ⟨c1, h1⟩ := h1
  obtain ⟨_, h2⟩ := h2
  refine ⟨c1, ?_⟩
  obtain ⟨b2, e3, h1⟩ := h1
  obtain ⟨b4, e5, h2⟩ := h2
  cases e3.symm.trans e5
  refine ⟨b2, e3, ?_⟩
  obtain ⟨c6, h1⟩ := h1
  obtain ⟨_, h2⟩ := h2
  refine ⟨c6, ?_⟩
  obtain ⟨b7, e8, h1⟩ := h1
  obtain ⟨b9, e10, h2⟩ := h2
  cases e8.symm.trans e10
  refine ⟨b7, e8, ?_⟩
  obtain ⟨c11, h1⟩ := h1
  obtain ⟨_, h2⟩ := h2
  refine ⟨c11, ?_⟩
  obtain ⟨c12, h1⟩ := h1
  obtain ⟨_, h2⟩ := h2
  refine ⟨c12, ?_⟩
  intro x14 e13
  have h1 := h1 x14 e13
  have h2 := h2 x14 e13
  refine ⟨?_, ?_⟩
  · intro c15
    have h1 := h1.1 c15
    have h2 := h2.1 c15
    intro x17 e16
    have h1 := h1 x17 e16
    have h2 := h2 x17 e16
    exact hX40 _ _ _ _ _ _ _ _ _ h1 h2
  · intro c18
    have h1 := h1.2 c18
    have h2 := h2.2 c18
    exact cm_X11_fitOf_83 h1 h2 hq hX16 hX31 hX40 hX63
theorem fd_X11_fitOf_63 {Q : Int32 → HS → Prop} {X16 : Nat → Int32 → Int32 → Int32 → Int32 → Int32 → HS → Prop} {X31 : Nat → Int32 → Int32 → Int32 → Int32 → Int32 → Int32 → HS → Prop} {X40 : Nat → Int32 → Int32 → Int32 → Int32 → Int32 → Int32 → Int32 → HS → Prop} {v0 : Nat} {v1 : Int32} {v2 : Int32} {v3 : Int32} {v4 : Int32} {v5 : Int32} {v6 : Int32} {v7 : Int32} {v8 : Int32} {S : HS} (h : B_X11_fitOf_63 Q X16 X31 X40 (P_X11_fitOf_63 Q X16 X31 X40) v0 v1 v2 v3 v4 v5 v6 v7 v8 S) : P_X11_fitOf_63 Q X16 X31 X40 v0 v1 v2 v3 v4 v5 v6 v7 v8 S := fun X hX => hX v0 v1 v2 v3 v4 v5 v6 v7 v8 S (cmB_X11_fitOf_63 h h (fun _ _ a _ => a) (fun _ _ _ _ _ _ _ a _ => a) (fun _ _ _ _ _ _ _ _ a _ => a) (fun _ _ _ _ _ _ _ _ _ a _ => a) (fun _ _ _ _ _ _ _ _ _ _ hp _ => hp X hX))
theorem uf_X11_fitOf_63 {Q : Int32 → HS → Prop} {X16 : Nat → Int32 → Int32 → Int32 → Int32 → Int32 → HS → Prop} {X31 : Nat → Int32 → Int32 → Int32 → Int32 → Int32 → Int32 → HS → Prop} {X40 : Nat → Int32 → Int32 → Int32 → Int32 → Int32 → Int32 → Int32 → HS → Prop} {v0 : Nat} {v1 : Int32} {v2 : Int32} {v3 : Int32} {v4 : Int32} {v5 : Int32} {v6 : Int32} {v7 : Int32} {v8 : Int32} {S : HS} (h : P_X11_fitOf_63 Q X16 X31 X40 v0 v1 v2 v3 v4 v5 v6 v7 v8 S) : B_X11_fitOf_63 Q X16 X31 X40 (P_X11_fitOf_63 Q X16 X31 X40) v0 v1 v2 v3 v4 v5 v6 v7 v8 S := h (fun v0 v1 v2 v3 v4 v5 v6 v7 v8 S => B_X11_fitOf_63 Q X16 X31 X40 (P_X11_fitOf_63 Q X16 X31 X40) v0 v1 v2 v3 v4 v5 v6 v7 v8 S) (fun v0 v1 v2 v3 v4 v5 v6 v7 v8 S hB => cmB_X11_fitOf_63 hB hB (fun _ _ a _ => a) (fun _ _ _ _ _ _ _ a _ => a) (fun _ _ _ _ _ _ _ _ a _ => a) (fun _ _ _ _ _ _ _ _ _ a _ => a) (fun _ _ _ _ _ _ _ _ _ _ hb _ => fd_X11_fitOf_63 hb))
theorem cm_X11_fitOf_63 {Q1 Q2 Q3 : Int32 → HS → Prop} {X16_1 X16_2 X16_3 : Nat → Int32 → Int32 → Int32 → Int32 → Int32 → HS → Prop} {X31_1 X31_2 X31_3 : Nat → Int32 → Int32 → Int32 → Int32 → Int32 → Int32 → HS → Prop} {X40_1 X40_2 X40_3 : Nat → Int32 → Int32 → Int32 → Int32 → Int32 → Int32 → Int32 → HS → Prop} {v0 : Nat} {v1 : Int32} {v2 : Int32} {v3 : Int32} {v4 : Int32} {v5 : Int32} {v6 : Int32} {v7 : Int32} {v8 : Int32} {S : HS} (h1 : P_X11_fitOf_63 Q1 X16_1 X31_1 X40_1 v0 v1 v2 v3 v4 v5 v6 v7 v8 S) (h2 : P_X11_fitOf_63 Q2 X16_2 X31_2 X40_2 v0 v1 v2 v3 v4 v5 v6 v7 v8 S) (hq : ∀ (r : Int32) (T : HS), Q1 r T → Q2 r T → Q3 r T) (hX16 : ∀ (u0 : Nat) (u1 : Int32) (u2 : Int32) (u3 : Int32) (u4 : Int32) (u5 : Int32) (u6 : HS), X16_1 u0 u1 u2 u3 u4 u5 u6 → X16_2 u0 u1 u2 u3 u4 u5 u6 → X16_3 u0 u1 u2 u3 u4 u5 u6) (hX31 : ∀ (u0 : Nat) (u1 : Int32) (u2 : Int32) (u3 : Int32) (u4 : Int32) (u5 : Int32) (u6 : Int32) (u7 : HS), X31_1 u0 u1 u2 u3 u4 u5 u6 u7 → X31_2 u0 u1 u2 u3 u4 u5 u6 u7 → X31_3 u0 u1 u2 u3 u4 u5 u6 u7) (hX40 : ∀ (u0 : Nat) (u1 : Int32) (u2 : Int32) (u3 : Int32) (u4 : Int32) (u5 : Int32) (u6 : Int32) (u7 : Int32) (u8 : HS), X40_1 u0 u1 u2 u3 u4 u5 u6 u7 u8 → X40_2 u0 u1 u2 u3 u4 u5 u6 u7 u8 → X40_3 u0 u1 u2 u3 u4 u5 u6 u7 u8) : P_X11_fitOf_63 Q3 X16_3 X31_3 X40_3 v0 v1 v2 v3 v4 v5 v6 v7 v8 S := h1 (fun v0 v1 v2 v3 v4 v5 v6 v7 v8 S => P_X11_fitOf_63 Q2 X16_2 X31_2 X40_2 v0 v1 v2 v3 v4 v5 v6 v7 v8 S → P_X11_fitOf_63 Q3 X16_3 X31_3 X40_3 v0 v1 v2 v3 v4 v5 v6 v7 v8 S) (fun v0 v1 v2 v3 v4 v5 v6 v7 v8 S hB hp => fd_X11_fitOf_63 (cmB_X11_fitOf_63 hB (uf_X11_fitOf_63 hp) hq hX16 hX31 hX40 (fun _ _ _ _ _ _ _ _ _ _ hx hp => hx hp))) h2
set_option maxRecDepth 20000 in
set_option maxHeartbeats 1000000 in
theorem cmB_X11_fitOf_40 {Q1 Q2 Q3 : Int32 → HS → Prop} {X16_1 X16_2 X16_3 : Nat → Int32 → Int32 → Int32 → Int32 → Int32 → HS → Prop} {X31_1 X31_2 X31_3 : Nat → Int32 → Int32 → Int32 → Int32 → Int32 → Int32 → HS → Prop} {X40_1 X40_2 X40_3 : Nat → Int32 → Int32 → Int32 → Int32 → Int32 → Int32 → Int32 → HS → Prop} {v0 : Nat} {v1 : Int32} {v2 : Int32} {v3 : Int32} {v4 : Int32} {v5 : Int32} {v6 : Int32} {v7 : Int32} {S : HS} (h1 : B_X11_fitOf_40 Q1 X16_1 X31_1 X40_1 v0 v1 v2 v3 v4 v5 v6 v7 S) (h2 : B_X11_fitOf_40 Q2 X16_2 X31_2 X40_2 v0 v1 v2 v3 v4 v5 v6 v7 S) (hq : ∀ (r : Int32) (T : HS), Q1 r T → Q2 r T → Q3 r T) (hX16 : ∀ (u0 : Nat) (u1 : Int32) (u2 : Int32) (u3 : Int32) (u4 : Int32) (u5 : Int32) (u6 : HS), X16_1 u0 u1 u2 u3 u4 u5 u6 → X16_2 u0 u1 u2 u3 u4 u5 u6 → X16_3 u0 u1 u2 u3 u4 u5 u6) (hX31 : ∀ (u0 : Nat) (u1 : Int32) (u2 : Int32) (u3 : Int32) (u4 : Int32) (u5 : Int32) (u6 : Int32) (u7 : HS), X31_1 u0 u1 u2 u3 u4 u5 u6 u7 → X31_2 u0 u1 u2 u3 u4 u5 u6 u7 → X31_3 u0 u1 u2 u3 u4 u5 u6 u7) (hX40 : ∀ (u0 : Nat) (u1 : Int32) (u2 : Int32) (u3 : Int32) (u4 : Int32) (u5 : Int32) (u6 : Int32) (u7 : Int32) (u8 : HS), X40_1 u0 u1 u2 u3 u4 u5 u6 u7 u8 → X40_2 u0 u1 u2 u3 u4 u5 u6 u7 u8 → X40_3 u0 u1 u2 u3 u4 u5 u6 u7 u8) : B_X11_fitOf_40 Q3 X16_3 X31_3 X40_3 v0 v1 v2 v3 v4 v5 v6 v7 S := by
  delta B_X11_fitOf_40 at h1 h2 ⊢
  obtain ⟨c1, h1⟩ := h1
  obtain ⟨_, h2⟩ := h2
  refine ⟨c1, ?_⟩
  obtain ⟨b2, e3, h1⟩ := h1
  obtain ⟨b4, e5, h2⟩ := h2
  cases e3.symm.trans e5
  refine ⟨b2, e3, ?_⟩
  obtain ⟨c6, h1⟩ := h1
  obtain ⟨_, h2⟩ := h2
  refine ⟨c6, ?_⟩
  intro x8 e7
  have h1 := h1 x8 e7
  have h2 := h2 x8 e7
  refine ⟨?_, ?_⟩
  · intro c9
    have h1 := h1.1 c9
    have h2 := h2.1 c9
    intro x11 e10
    have h1 := h1 x11 e10
    have h2 := h2 x11 e10
    exact hX31 _ _ _ _ _ _ _ _ h1 h2
  · intro c12
    have h1 := h1.2 c12
    have h2 := h2.2 c12
    obtain ⟨b13, e14, h1⟩ := h1
    obtain ⟨b15, e16, h2⟩ := h2
    cases e14.symm.trans e16
    refine ⟨b13, e14, ?_⟩
    obtain ⟨c17, h1⟩ := h1
    obtain ⟨_, h2⟩ := h2
    refine ⟨c17, ?_⟩
    obtain ⟨b18, e19, h1⟩ := h1
    obtain ⟨b20, e21, h2⟩ := h2
    cases e19.symm.trans e21
    refine ⟨b18, e19, ?_⟩
    obtain ⟨c22, h1⟩ := h1
    obtain ⟨_, h2⟩ := h2
    refine ⟨c22, ?_⟩
    obtain ⟨c23, h1⟩ := h1
    obtain ⟨_, h2⟩ := h2
    refine ⟨c23, ?_⟩
    intro x25 e24
    have h1 := h1 x25 e24
    have h2 := h2 x25 e24
    exact cm_X11_fitOf_63 h1 h2 hq hX16 hX31 hX40
theorem fd_X11_fitOf_40 {Q : Int32 → HS → Prop} {X16 : Nat → Int32 → Int32 → Int32 → Int32 → Int32 → HS → Prop} {X31 : Nat → Int32 → Int32 → Int32 → Int32 → Int32 → Int32 → HS → Prop} {v0 : Nat} {v1 : Int32} {v2 : Int32} {v3 : Int32} {v4 : Int32} {v5 : Int32} {v6 : Int32} {v7 : Int32} {S : HS} (h : B_X11_fitOf_40 Q X16 X31 (P_X11_fitOf_40 Q X16 X31) v0 v1 v2 v3 v4 v5 v6 v7 S) : P_X11_fitOf_40 Q X16 X31 v0 v1 v2 v3 v4 v5 v6 v7 S := fun X hX => hX v0 v1 v2 v3 v4 v5 v6 v7 S (cmB_X11_fitOf_40 h h (fun _ _ a _ => a) (fun _ _ _ _ _ _ _ a _ => a) (fun _ _ _ _ _ _ _ _ a _ => a) (fun _ _ _ _ _ _ _ _ _ hp _ => hp X hX))
theorem uf_X11_fitOf_40 {Q : Int32 → HS → Prop} {X16 : Nat → Int32 → Int32 → Int32 → Int32 → Int32 → HS → Prop} {X31 : Nat → Int32 → Int32 → Int32 → Int32 → Int32 → Int32 → HS → Prop} {v0 : Nat} {v1 : Int32} {v2 : Int32} {v3 : Int32} {v4 : Int32} {v5 : Int32} {v6 : Int32} {v7 : Int32} {S : HS} (h : P_X11_fitOf_40 Q X16 X31 v0 v1 v2 v3 v4 v5 v6 v7 S) : B_X11_fitOf_40 Q X16 X31 (P_X11_fitOf_40 Q X16 X31) v0 v1 v2 v3 v4 v5 v6 v7 S := h (fun v0 v1 v2 v3 v4 v5 v6 v7 S => B_X11_fitOf_40 Q X16 X31 (P_X11_fitOf_40 Q X16 X31) v0 v1 v2 v3 v4 v5 v6 v7 S) (fun v0 v1 v2 v3 v4 v5 v6 v7 S hB => cmB_X11_fitOf_40 hB hB (fun _ _ a _ => a) (fun _ _ _ _ _ _ _ a _ => a) (fun _ _ _ _ _ _ _ _ a _ => a) (fun _ _ _ _ _ _ _ _ _ hb _ => fd_X11_fitOf_40 hb))
theorem cm_X11_fitOf_40 {Q1 Q2 Q3 : Int32 → HS → Prop} {X16_1 X16_2 X16_3 : Nat → Int32 → Int32 → Int32 → Int32 → Int32 → HS → Prop} {X31_1 X31_2 X31_3 : Nat → Int32 → Int32 → Int32 → Int32 → Int32 → Int32 → HS → Prop} {v0 : Nat} {v1 : Int32} {v2 : Int32} {v3 : Int32} {v4 : Int32} {v5 : Int32} {v6 : Int32} {v7 : Int32} {S : HS} (h1 : P_X11_fitOf_40 Q1 X16_1 X31_1 v0 v1 v2 v3 v4 v5 v6 v7 S) (h2 : P_X11_fitOf_40 Q2 X16_2 X31_2 v0 v1 v2 v3 v4 v5 v6 v7 S) (hq : ∀ (r : Int32) (T : HS), Q1 r T → Q2 r T → Q3 r T) (hX16 : ∀ (u0 : Nat) (u1 : Int32) (u2 : Int32) (u3 : Int32) (u4 : Int32) (u5 : Int32) (u6 : HS), X16_1 u0 u1 u2 u3 u4 u5 u6 → X16_2 u0 u1 u2 u3 u4 u5 u6 → X16_3 u0 u1 u2 u3 u4 u5 u6) (hX31 : ∀ (u0 : Nat) (u1 : Int32) (u2 : Int32) (u3 : Int32) (u4 : Int32) (u5 : Int32) (u6 : Int32) (u7 : HS), X31_1 u0 u1 u2 u3 u4 u5 u6 u7 → X31_2 u0 u1 u2 u3 u4 u5 u6 u7 → X31_3 u0 u1 u2 u3 u4 u5 u6 u7) : P_X11_fitOf_40 Q3 X16_3 X31_3 v0 v1 v2 v3 v4 v5 v6 v7 S := h1 (fun v0 v1 v2 v3 v4 v5 v6 v7 S => P_X11_fitOf_40 Q2 X16_2 X31_2 v0 v1 v2 v3 v4 v5 v6 v7 S → P_X11_fitOf_40 Q3 X16_3 X31_3 v0 v1 v2 v3 v4 v5 v6 v7 S) (fun v0 v1 v2 v3 v4 v5 v6 v7 S hB hp => fd_X11_fitOf_40 (cmB_X11_fitOf_40 hB (uf_X11_fitOf_40 hp) hq hX16 hX31 (fun _ _ _ _ _ _ _ _ _ hx hp => hx hp))) h2
set_option maxRecDepth 20000 in
set_option maxHeartbeats 1000000 in
theorem cmB_X11_fitOf_31 {Q1 Q2 Q3 : Int32 → HS → Prop} {X16_1 X16_2 X16_3 : Nat → Int32 → Int32 → Int32 → Int32 → Int32 → HS → Prop} {X31_1 X31_2 X31_3 : Nat → Int32 → Int32 → Int32 → Int32 → Int32 → Int32 → HS → Prop} {v0 : Nat} {v1 : Int32} {v2 : Int32} {v3 : Int32} {v4 : Int32} {v5 : Int32} {v6 : Int32} {S : HS} (h1 : B_X11_fitOf_31 Q1 X16_1 X31_1 v0 v1 v2 v3 v4 v5 v6 S) (h2 : B_X11_fitOf_31 Q2 X16_2 X31_2 v0 v1 v2 v3 v4 v5 v6 S) (hq : ∀ (r : Int32) (T : HS), Q1 r T → Q2 r T → Q3 r T) (hX16 : ∀ (u0 : Nat) (u1 : Int32) (u2 : Int32) (u3 : Int32) (u4 : Int32) (u5 : Int32) (u6 : HS), X16_1 u0 u1 u2 u3 u4 u5 u6 → X16_2 u0 u1 u2 u3 u4 u5 u6 → X16_3 u0 u1 u2 u3 u4 u5 u6) (hX31 : ∀ (u0 : Nat) (u1 : Int32) (u2 : Int32) (u3 : Int32) (u4 : Int32) (u5 : Int32) (u6 : Int32) (u7 : HS), X31_1 u0 u1 u2 u3 u4 u5 u6 u7 → X31_2 u0 u1 u2 u3 u4 u5 u6 u7 → X31_3 u0 u1 u2 u3 u4 u5 u6 u7) : B_X11_fitOf_31 Q3 X16_3 X31_3 v0 v1 v2 v3 v4 v5 v6 S := by
  delta B_X11_fitOf_31 at h1 h2 ⊢
  refine ⟨?_, ?_⟩
  · intro c1
    have h1 := h1.1 c1
    have h2 := h2.1 c1
    intro x3 e2
    have h1 := h1 x3 e2
    have h2 := h2 x3 e2
    exact hX16 _ _ _ _ _ _ _ h1 h2
  · intro c4
    have h1 := h1.2 c4
    have h2 := h2.2 c4
    exact cm_X11_fitOf_40 h1 h2 hq hX16 hX31
theorem fd_X11_fitOf_31 {Q : Int32 → HS → Prop} {X16 : Nat → Int32 → Int32 → Int32 → Int32 → Int32 → HS → Prop} {v0 : Nat} {v1 : Int32} {v2 : Int32} {v3 : Int32} {v4 : Int32} {v5 : Int32} {v6 : Int32} {S : HS} (h : B_X11_fitOf_31 Q X16 (P_X11_fitOf_31 Q X16) v0 v1 v2 v3 v4 v5 v6 S) : P_X11_fitOf_31 Q X16 v0 v1 v2 v3 v4 v5 v6 S := fun X hX => hX v0 v1 v2 v3 v4 v5 v6 S (cmB_X11_fitOf_31 h h (fun _ _ a _ => a) (fun _ _ _ _ _ _ _ a _ => a) (fun _ _ _ _ _ _ _ _ hp _ => hp X hX))
theorem uf_X11_fitOf_31 {Q : Int32 → HS → Prop} {X16 : Nat → Int32 → Int32 → Int32 → Int32 → Int32 → HS → Prop} {v0 : Nat} {v1 : Int32} {v2 : Int32} {v3 : Int32} {v4 : Int32} {v5 : Int32} {v6 : Int32} {S : HS} (h : P_X11_fitOf_31 Q X16 v0 v1 v2 v3 v4 v5 v6 S) : B_X11_fitOf_31 Q X16 (P_X11_fitOf_31 Q X16) v0 v1 v2 v3 v4 v5 v6 S := h (fun v0 v1 v2 v3 v4 v5 v6 S => B_X11_fitOf_31 Q X16 (P_X11_fitOf_31 Q X16) v0 v1 v2 v3 v4 v5 v6 S) (fun v0 v1 v2 v3 v4 v5 v6 S hB => cmB_X11_fitOf_31 hB hB (fun _ _ a _ => a) (fun _ _ _ _ _ _ _ a _ => a) (fun _ _ _ _ _ _ _ _ hb _ => fd_X11_fitOf_31 hb))
theorem cm_X11_fitOf_31 {Q1 Q2 Q3 : Int32 → HS → Prop} {X16_1 X16_2 X16_3 : Nat → Int32 → Int32 → Int32 → Int32 → Int32 → HS → Prop} {v0 : Nat} {v1 : Int32} {v2 : Int32} {v3 : Int32} {v4 : Int32} {v5 : Int32} {v6 : Int32} {S : HS} (h1 : P_X11_fitOf_31 Q1 X16_1 v0 v1 v2 v3 v4 v5 v6 S) (h2 : P_X11_fitOf_31 Q2 X16_2 v0 v1 v2 v3 v4 v5 v6 S) (hq : ∀ (r : Int32) (T : HS), Q1 r T → Q2 r T → Q3 r T) (hX16 : ∀ (u0 : Nat) (u1 : Int32) (u2 : Int32) (u3 : Int32) (u4 : Int32) (u5 : Int32) (u6 : HS), X16_1 u0 u1 u2 u3 u4 u5 u6 → X16_2 u0 u1 u2 u3 u4 u5 u6 → X16_3 u0 u1 u2 u3 u4 u5 u6) : P_X11_fitOf_31 Q3 X16_3 v0 v1 v2 v3 v4 v5 v6 S := h1 (fun v0 v1 v2 v3 v4 v5 v6 S => P_X11_fitOf_31 Q2 X16_2 v0 v1 v2 v3 v4 v5 v6 S → P_X11_fitOf_31 Q3 X16_3 v0 v1 v2 v3 v4 v5 v6 S) (fun v0 v1 v2 v3 v4 v5 v6 S hB hp => fd_X11_fitOf_31 (cmB_X11_fitOf_31 hB (uf_X11_fitOf_31 hp) hq hX16 (fun _ _ _ _ _ _ _ _ hx hp => hx hp))) h2
set_option maxRecDepth 20000 in
set_option maxHeartbeats 1000000 in
theorem cmB_X11_fitOf_16 {Q1 Q2 Q3 : Int32 → HS → Prop} {X16_1 X16_2 X16_3 : Nat → Int32 → Int32 → Int32 → Int32 → Int32 → HS → Prop} {v0 : Nat} {v1 : Int32} {v2 : Int32} {v3 : Int32} {v4 : Int32} {v5 : Int32} {S : HS} (h1 : B_X11_fitOf_16 Q1 X16_1 v0 v1 v2 v3 v4 v5 S) (h2 : B_X11_fitOf_16 Q2 X16_2 v0 v1 v2 v3 v4 v5 S) (hq : ∀ (r : Int32) (T : HS), Q1 r T → Q2 r T → Q3 r T) (hX16 : ∀ (u0 : Nat) (u1 : Int32) (u2 : Int32) (u3 : Int32) (u4 : Int32) (u5 : Int32) (u6 : HS), X16_1 u0 u1 u2 u3 u4 u5 u6 → X16_2 u0 u1 u2 u3 u4 u5 u6 → X16_3 u0 u1 u2 u3 u4 u5 u6) : B_X11_fitOf_16 Q3 X16_3 v0 v1 v2 v3 v4 v5 S := by
  delta B_X11_fitOf_16 at h1 h2 ⊢
  obtain ⟨c1, h1⟩ := h1
  obtain ⟨_, h2⟩ := h2
  refine ⟨c1, ?_⟩
  obtain ⟨b2, e3, h1⟩ := h1
  obtain ⟨b4, e5, h2⟩ := h2
  cases e3.symm.trans e5
  refine ⟨b2, e3, ?_⟩
  obtain ⟨c6, h1⟩ := h1
  obtain ⟨_, h2⟩ := h2
  refine ⟨c6, ?_⟩
  intro x8 e7
  have h1 := h1 x8 e7
  have h2 := h2 x8 e7
  refine ⟨?_, ?_⟩
  · intro c9
    have h1 := h1.1 c9
    have h2 := h2.1 c9
    refine ⟨?_, ?_⟩
    · intro c10
      have h1 := h1.1 c10
      have h2 := h2.1 c10
      exact hq _ _ h1 h2
    · intro c11
      have h1 := h1.2 c11
      have h2 := h2.2 c11
      exact hq _ _ h1 h2
  · intro c12
    have h1 := h1.2 c12
    have h2 := h2.2 c12
    exact cm_X11_fitOf_31 h1 h2 hq hX16
theorem fd_X11_fitOf_16 {Q : Int32 → HS → Prop} {v0 : Nat} {v1 : Int32} {v2 : Int32} {v3 : Int32} {v4 : Int32} {v5 : Int32} {S : HS} (h : B_X11_fitOf_16 Q (P_X11_fitOf_16 Q) v0 v1 v2 v3 v4 v5 S) : P_X11_fitOf_16 Q v0 v1 v2 v3 v4 v5 S := fun X hX => hX v0 v1 v2 v3 v4 v5 S (cmB_X11_fitOf_16 h h (fun _ _ a _ => a) (fun _ _ _ _ _ _ _ hp _ => hp X hX))
theorem uf_X11_fitOf_16 {Q : Int32 → HS → Prop} {v0 : Nat} {v1 : Int32} {v2 : Int32} {v3 : Int32} {v4 : Int32} {v5 : Int32} {S : HS} (h : P_X11_fitOf_16 Q v0 v1 v2 v3 v4 v5 S) : B_X11_fitOf_16 Q (P_X11_fitOf_16 Q) v0 v1 v2 v3 v4 v5 S := h (fun v0 v1 v2 v3 v4 v5 S => B_X11_fitOf_16 Q (P_X11_fitOf_16 Q) v0 v1 v2 v3 v4 v5 S) (fun v0 v1 v2 v3 v4 v5 S hB => cmB_X11_fitOf_16 hB hB (fun _ _ a _ => a) (fun _ _ _ _ _ _ _ hb _ => fd_X11_fitOf_16 hb))
theorem cm_X11_fitOf_16 {Q1 Q2 Q3 : Int32 → HS → Prop} {v0 : Nat} {v1 : Int32} {v2 : Int32} {v3 : Int32} {v4 : Int32} {v5 : Int32} {S : HS} (h1 : P_X11_fitOf_16 Q1 v0 v1 v2 v3 v4 v5 S) (h2 : P_X11_fitOf_16 Q2 v0 v1 v2 v3 v4 v5 S) (hq : ∀ (r : Int32) (T : HS), Q1 r T → Q2 r T → Q3 r T) : P_X11_fitOf_16 Q3 v0 v1 v2 v3 v4 v5 S := h1 (fun v0 v1 v2 v3 v4 v5 S => P_X11_fitOf_16 Q2 v0 v1 v2 v3 v4 v5 S → P_X11_fitOf_16 Q3 v0 v1 v2 v3 v4 v5 S) (fun v0 v1 v2 v3 v4 v5 S hB hp => fd_X11_fitOf_16 (cmB_X11_fitOf_16 hB (uf_X11_fitOf_16 hp) hq (fun _ _ _ _ _ _ _ hx hp => hx hp))) h2
set_option maxRecDepth 20000 in
set_option maxHeartbeats 1000000 in
theorem cm_X11_fitOf_0 {Q1 Q2 Q3 : Int32 → HS → Prop} {v0 : Nat} {v1 : Int32} {v2 : Int32} {S : HS} (h1 : P_X11_fitOf_0 Q1 v0 v1 v2 S) (h2 : P_X11_fitOf_0 Q2 v0 v1 v2 S) (hq : ∀ (r : Int32) (T : HS), Q1 r T → Q2 r T → Q3 r T) : P_X11_fitOf_0 Q3 v0 v1 v2 S := by
  delta P_X11_fitOf_0 at h1 h2 ⊢
  obtain ⟨c1, h1⟩ := h1
  obtain ⟨_, h2⟩ := h2
  refine ⟨c1, ?_⟩
  obtain ⟨b2, e3, h1⟩ := h1
  obtain ⟨b4, e5, h2⟩ := h2
  cases e3.symm.trans e5
  refine ⟨b2, e3, ?_⟩
  obtain ⟨c6, h1⟩ := h1
  obtain ⟨_, h2⟩ := h2
  refine ⟨c6, ?_⟩
  obtain ⟨b7, e8, h1⟩ := h1
  obtain ⟨b9, e10, h2⟩ := h2
  cases e8.symm.trans e10
  refine ⟨b7, e8, ?_⟩
  obtain ⟨c11, h1⟩ := h1
  obtain ⟨_, h2⟩ := h2
  refine ⟨c11, ?_⟩
  obtain ⟨c12, h1⟩ := h1
  obtain ⟨_, h2⟩ := h2
  refine ⟨c12, ?_⟩
  intro x14 e13
  have h1 := h1 x14 e13
  have h2 := h2 x14 e13
  exact cm_X11_fitOf_16 h1 h2 hq
theorem cm_X11_fitOf {Q1 Q2 Q3 : Int32 → HS → Prop} {v0 : Nat} {v1 : Int32} {v2 : Int32} {S : HS} (h1 : P_X11_fitOf v0 v1 v2 Q1 S) (h2 : P_X11_fitOf v0 v1 v2 Q2 S) (hq : ∀ (r : Int32) (T : HS), Q1 r T → Q2 r T → Q3 r T) : P_X11_fitOf v0 v1 v2 Q3 S := cm_X11_fitOf_0 h1 h2 hq
set_option maxRecDepth 20000 in
set_option maxHeartbeats 1000000 in
theorem cm_X11_isSeen_0 {Q1 Q2 Q3 : Int32 → HS → Prop} {v0 : Nat} {v1 : Int32} {S : HS} (h1 : P_X11_isSeen_0 Q1 v0 v1 S) (h2 : P_X11_isSeen_0 Q2 v0 v1 S) (hq : ∀ (r : Int32) (T : HS), Q1 r T → Q2 r T → Q3 r T) : P_X11_isSeen_0 Q3 v0 v1 S := by
  delta P_X11_isSeen_0 at h1 h2 ⊢
  obtain ⟨c1, h1⟩ := h1
  obtain ⟨_, h2⟩ := h2
  refine ⟨c1, ?_⟩
  refine ⟨?_, ?_⟩
  · intro c2
    have h1 := h1.1 c2
    have h2 := h2.1 c2
    exact hq _ _ h1 h2
  · intro x3 c4
    have h1 := h1.2 x3 c4
    have h2 := h2.2 x3 c4
    refine ⟨?_, ?_⟩
    · intro c5
      have h1 := h1.1 c5
      have h2 := h2.1 c5
      exact hq _ _ h1 h2
    · intro c6
      have h1 := h1.2 c6
      have h2 := h2.2 c6
      obtain ⟨b7, e8, h1⟩ := h1
      obtain ⟨b9, e10, h2⟩ := h2
      cases e8.symm.trans e10
      refine ⟨b7, e8, ?_⟩
      obtain ⟨c11, h1⟩ := h1
      obtain ⟨_, h2⟩ := h2
      refine ⟨c11, ?_⟩
      intro x13 e12
      have h1 := h1 x13 e12
      have h2 := h2 x13 e12
      refine ⟨?_, ?_⟩
      · intro c14
        have h1 := h1.1 c14
        have h2 := h2.1 c14
        exact hq _ _ h1 h2
      · intro c15
        have h1 := h1.2 c15
        have h2 := h2.2 c15
        exact hq _ _ h1 h2
theorem cm_X11_isSeen {Q1 Q2 Q3 : Int32 → HS → Prop} {v0 : Nat} {v1 : Int32} {S : HS} (h1 : P_X11_isSeen v0 v1 Q1 S) (h2 : P_X11_isSeen v0 v1 Q2 S) (hq : ∀ (r : Int32) (T : HS), Q1 r T → Q2 r T → Q3 r T) : P_X11_isSeen v0 v1 Q3 S := cm_X11_isSeen_0 h1 h2 hq
set_option maxRecDepth 20000 in
set_option maxHeartbeats 1000000 in
theorem cm_X11_fit_27 {Q1 Q2 Q3 : Int32 → HS → Prop} {v0 : Nat} {s0 : Int32} {S : HS} (h1 : P_X11_fit_27 Q1 v0 s0 S) (h2 : P_X11_fit_27 Q2 v0 s0 S) (hq : ∀ (r : Int32) (T : HS), Q1 r T → Q2 r T → Q3 r T) : P_X11_fit_27 Q3 v0 s0 S := by
  delta P_X11_fit_27 at h1 h2 ⊢
  refine ⟨?_, ?_⟩
  · intro c1
    have h1 := h1.1 c1
    have h2 := h2.1 c1
    obtain ⟨c2, h1⟩ := h1
    obtain ⟨_, h2⟩ := h2
    refine ⟨c2, ?_⟩
    refine cm_X11_good h1 h2 (fun x3 x4 h1 h2 g5 => ?_)
    have h1 := h1 g5
    have h2 := h2 g5
    exact hq _ _ h1 h2
  · intro c6
    have h1 := h1.2 c6
    have h2 := h2.2 c6
    obtain ⟨c7, h1⟩ := h1
    obtain ⟨_, h2⟩ := h2
    refine ⟨c7, ?_⟩
    refine cm_X11_refused h1 h2 (fun x8 x9 h1 h2 g10 => ?_)
    have h1 := h1 g10
    have h2 := h2 g10
    exact hq _ _ h1 h2
set_option maxRecDepth 20000 in
set_option maxHeartbeats 1000000 in
theorem cm_X11_fit_26 {Q1 Q2 Q3 : Int32 → HS → Prop} {v0 : Nat} {S : HS} (h1 : P_X11_fit_26 Q1 v0 S) (h2 : P_X11_fit_26 Q2 v0 S) (hq : ∀ (r : Int32) (T : HS), Q1 r T → Q2 r T → Q3 r T) : P_X11_fit_26 Q3 v0 S := by
  delta P_X11_fit_26 at h1 h2 ⊢
  exact cm_X11_fit_27 h1 h2 hq
set_option maxRecDepth 20000 in
set_option maxHeartbeats 1000000 in
theorem cm_X11_fit_0 {Q1 Q2 Q3 : Int32 → HS → Prop} {v0 : Nat} {v1 : Int32} {v2 : Int32} {S : HS} (h1 : P_X11_fit_0 Q1 v0 v1 v2 S) (h2 : P_X11_fit_0 Q2 v0 v1 v2 S) (hq : ∀ (r : Int32) (T : HS), Q1 r T → Q2 r T → Q3 r T) : P_X11_fit_0 Q3 v0 v1 v2 S := by
  delta P_X11_fit_0 at h1 h2 ⊢
  obtain ⟨c1, h1⟩ := h1
  obtain ⟨_, h2⟩ := h2
  refine ⟨c1, ?_⟩
  intro x3 e2
  have h1 := h1 x3 e2
  have h2 := h2 x3 e2
  refine cm_X11_isSeen h1 h2 (fun x4 x5 h1 h2 g6 g7 => ?_)
  have h1 := h1 g6 g7
  have h2 := h2 g6 g7
  refine ⟨?_, ?_⟩
  · intro c8
    have h1 := h1.1 c8
    have h2 := h2.1 c8
    exact cm_X11_fit_26 h1 h2 hq
  · intro c9
    have h1 := h1.2 c9
    have h2 := h2.2 c9
    refine ⟨?_, ?_⟩
    · intro c10
      have h1 := h1.1 c10
      have h2 := h2.1 c10
      exact cm_X11_fit_26 h1 h2 hq
    · intro c11
      have h1 := h1.2 c11
      have h2 := h2.2 c11
      refine cm_X11_fitOf h1 h2 (fun x12 x13 h1 h2 g14 => ?_)
      have h1 := h1 g14
      have h2 := h2 g14
      exact cm_X11_fit_27 h1 h2 hq
theorem cm_X11_fit {Q1 Q2 Q3 : Int32 → HS → Prop} {v0 : Nat} {v1 : Int32} {v2 : Int32} {S : HS} (h1 : P_X11_fit v0 v1 v2 Q1 S) (h2 : P_X11_fit v0 v1 v2 Q2 S) (hq : ∀ (r : Int32) (T : HS), Q1 r T → Q2 r T → Q3 r T) : P_X11_fit v0 v1 v2 Q3 S := cm_X11_fit_0 h1 h2 hq
set_option maxRecDepth 20000 in
set_option maxHeartbeats 1000000 in
theorem cm_X11_fits_0 {Q1 Q2 Q3 : Int32 → HS → Prop} {v0 : Nat} {v1 : Int32} {S : HS} (h1 : P_X11_fits_0 Q1 v0 v1 S) (h2 : P_X11_fits_0 Q2 v0 v1 S) (hq : ∀ (r : Int32) (T : HS), Q1 r T → Q2 r T → Q3 r T) : P_X11_fits_0 Q3 v0 v1 S := by
  delta P_X11_fits_0 at h1 h2 ⊢
  obtain ⟨c1, h1⟩ := h1
  obtain ⟨_, h2⟩ := h2
  refine ⟨c1, ?_⟩
  intro x3 e2
  have h1 := h1 x3 e2
  have h2 := h2 x3 e2
  refine cm_X11_isSeen h1 h2 (fun x4 x5 h1 h2 g6 g7 => ?_)
  have h1 := h1 g6 g7
  have h2 := h2 g6 g7
  refine ⟨?_, ?_⟩
  · intro c8
    have h1 := h1.1 c8
    have h2 := h2.1 c8
    refine cm_X11_refused h1 h2 (fun x9 x10 h1 h2 g11 => ?_)
    have h1 := h1 g11
    have h2 := h2 g11
    exact hq _ _ h1 h2
  · intro c12
    have h1 := h1.2 c12
    have h2 := h2.2 c12
    refine cm_X11_fitOf h1 h2 (fun x13 x14 h1 h2 g15 => ?_)
    have h1 := h1 g15
    have h2 := h2 g15
    refine cm_X11_good h1 h2 (fun x16 x17 h1 h2 g18 => ?_)
    have h1 := h1 g18
    have h2 := h2 g18
    exact hq _ _ h1 h2
theorem cm_X11_fits {Q1 Q2 Q3 : Int32 → HS → Prop} {v0 : Nat} {v1 : Int32} {S : HS} (h1 : P_X11_fits v0 v1 Q1 S) (h2 : P_X11_fits v0 v1 Q2 S) (hq : ∀ (r : Int32) (T : HS), Q1 r T → Q2 r T → Q3 r T) : P_X11_fits v0 v1 Q3 S := cm_X11_fits_0 h1 h2 hq
set_option maxRecDepth 20000 in
set_option maxHeartbeats 1000000 in
theorem cm_X11_hourOf_0 {Q1 Q2 Q3 : Int32 → HS → Prop} {v0 : Nat} {v1 : Int32} {S : HS} (h1 : P_X11_hourOf_0 Q1 v0 v1 S) (h2 : P_X11_hourOf_0 Q2 v0 v1 S) (hq : ∀ (r : Int32) (T : HS), Q1 r T → Q2 r T → Q3 r T) : P_X11_hourOf_0 Q3 v0 v1 S := by
  delta P_X11_hourOf_0 at h1 h2 ⊢
  obtain ⟨c1, h1⟩ := h1
  obtain ⟨_, h2⟩ := h2
  refine ⟨c1, ?_⟩
  obtain ⟨b2, e3, h1⟩ := h1
  obtain ⟨b4, e5, h2⟩ := h2
  cases e3.symm.trans e5
  refine ⟨b2, e3, ?_⟩
  obtain ⟨c6, h1⟩ := h1
  obtain ⟨_, h2⟩ := h2
  refine ⟨c6, ?_⟩
  intro x8 e7
  have h1 := h1 x8 e7
  have h2 := h2 x8 e7
  obtain ⟨c9, h1⟩ := h1
  obtain ⟨_, h2⟩ := h2
  refine ⟨c9, ?_⟩
  intro x11 e10
  have h1 := h1 x11 e10
  have h2 := h2 x11 e10
  exact hq _ _ h1 h2
theorem cm_X11_hourOf {Q1 Q2 Q3 : Int32 → HS → Prop} {v0 : Nat} {v1 : Int32} {S : HS} (h1 : P_X11_hourOf v0 v1 Q1 S) (h2 : P_X11_hourOf v0 v1 Q2 S) (hq : ∀ (r : Int32) (T : HS), Q1 r T → Q2 r T → Q3 r T) : P_X11_hourOf v0 v1 Q3 S := cm_X11_hourOf_0 h1 h2 hq
set_option maxRecDepth 20000 in
set_option maxHeartbeats 1000000 in
theorem cmB_X11_keeps_50 {Q1 Q2 Q3 : HS → Prop} {X50_1 X50_2 X50_3 : Nat → Int32 → HS → Prop} {v0 : Nat} {v1 : Int32} {S : HS} (h1 : B_X11_keeps_50 Q1 X50_1 v0 v1 S) (h2 : B_X11_keeps_50 Q2 X50_2 v0 v1 S) (hq : ∀ (T : HS), Q1 T → Q2 T → Q3 T) (hX50 : ∀ (u0 : Nat) (u1 : Int32) (u2 : HS), X50_1 u0 u1 u2 → X50_2 u0 u1 u2 → X50_3 u0 u1 u2) : B_X11_keeps_50 Q3 X50_3 v0 v1 S := by
  delta B_X11_keeps_50 at h1 h2 ⊢
  refine ⟨?_, ?_⟩
  · intro c1
    have h1 := h1.1 c1
    have h2 := h2.1 c1
    obtain ⟨c2, h1⟩ := h1
    obtain ⟨_, h2⟩ := h2
    refine ⟨c2, ?_⟩
    intro x4 e3
    have h1 := h1 x4 e3
    have h2 := h2 x4 e3
    intro x6 e5
    have h1 := h1 x6 e5
    have h2 := h2 x6 e5
    intro x8 e7
    have h1 := h1 x8 e7
    have h2 := h2 x8 e7
    exact hq _ h1 h2
  · intro c9
    have h1 := h1.2 c9
    have h2 := h2.2 c9
    obtain ⟨c10, h1⟩ := h1
    obtain ⟨_, h2⟩ := h2
    refine ⟨c10, ?_⟩
    obtain ⟨b11, e12, h1⟩ := h1
    obtain ⟨b13, e14, h2⟩ := h2
    cases e12.symm.trans e14
    refine ⟨b11, e12, ?_⟩
    intro x16 e15
    have h1 := h1 x16 e15
    have h2 := h2 x16 e15
    obtain ⟨b17, e18, h1⟩ := h1
    obtain ⟨b19, e20, h2⟩ := h2
    cases e18.symm.trans e20
    refine ⟨b17, e18, ?_⟩
    obtain ⟨c21, h1⟩ := h1
    obtain ⟨_, h2⟩ := h2
    refine ⟨c21, ?_⟩
    obtain ⟨c22, h1⟩ := h1
    obtain ⟨_, h2⟩ := h2
    refine ⟨c22, ?_⟩
    intro x24 e23
    have h1 := h1 x24 e23
    have h2 := h2 x24 e23
    obtain ⟨c25, h1⟩ := h1
    obtain ⟨_, h2⟩ := h2
    refine ⟨c25, ?_⟩
    obtain ⟨c26, h1⟩ := h1
    obtain ⟨_, h2⟩ := h2
    refine ⟨c26, ?_⟩
    intro x28 e27
    have h1 := h1 x28 e27
    have h2 := h2 x28 e27
    intro x30 e29
    have h1 := h1 x30 e29
    have h2 := h2 x30 e29
    exact hX50 _ _ _ h1 h2
theorem fd_X11_keeps_50 {Q : HS → Prop} {v0 : Nat} {v1 : Int32} {S : HS} (h : B_X11_keeps_50 Q (P_X11_keeps_50 Q) v0 v1 S) : P_X11_keeps_50 Q v0 v1 S := fun X hX => hX v0 v1 S (cmB_X11_keeps_50 h h (fun _ a _ => a) (fun _ _ _ hp _ => hp X hX))
theorem uf_X11_keeps_50 {Q : HS → Prop} {v0 : Nat} {v1 : Int32} {S : HS} (h : P_X11_keeps_50 Q v0 v1 S) : B_X11_keeps_50 Q (P_X11_keeps_50 Q) v0 v1 S := h (fun v0 v1 S => B_X11_keeps_50 Q (P_X11_keeps_50 Q) v0 v1 S) (fun v0 v1 S hB => cmB_X11_keeps_50 hB hB (fun _ a _ => a) (fun _ _ _ hb _ => fd_X11_keeps_50 hb))
theorem cm_X11_keeps_50 {Q1 Q2 Q3 : HS → Prop} {v0 : Nat} {v1 : Int32} {S : HS} (h1 : P_X11_keeps_50 Q1 v0 v1 S) (h2 : P_X11_keeps_50 Q2 v0 v1 S) (hq : ∀ (T : HS), Q1 T → Q2 T → Q3 T) : P_X11_keeps_50 Q3 v0 v1 S := h1 (fun v0 v1 S => P_X11_keeps_50 Q2 v0 v1 S → P_X11_keeps_50 Q3 v0 v1 S) (fun v0 v1 S hB hp => fd_X11_keeps_50 (cmB_X11_keeps_50 hB (uf_X11_keeps_50 hp) hq (fun _ _ _ hx hp => hx hp))) h2
set_option maxRecDepth 20000 in
set_option maxHeartbeats 1000000 in
theorem cm_X11_keeps_48 {Q1 Q2 Q3 : HS → Prop} {v0 : Nat} {S : HS} (h1 : P_X11_keeps_48 Q1 v0 S) (h2 : P_X11_keeps_48 Q2 v0 S) (hq : ∀ (T : HS), Q1 T → Q2 T → Q3 T) : P_X11_keeps_48 Q3 v0 S := by
  delta P_X11_keeps_48 at h1 h2 ⊢
  exact cm_X11_keeps_50 h1 h2 hq
set_option maxRecDepth 20000 in
set_option maxHeartbeats 1000000 in
theorem cmB_X11_keeps_11 {Q1 Q2 Q3 : HS → Prop} {X11_1 X11_2 X11_3 : Nat → Int32 → HS → Prop} {v0 : Nat} {v1 : Int32} {S : HS} (h1 : B_X11_keeps_11 Q1 X11_1 v0 v1 S) (h2 : B_X11_keeps_11 Q2 X11_2 v0 v1 S) (hq : ∀ (T : HS), Q1 T → Q2 T → Q3 T) (hX11 : ∀ (u0 : Nat) (u1 : Int32) (u2 : HS), X11_1 u0 u1 u2 → X11_2 u0 u1 u2 → X11_3 u0 u1 u2) : B_X11_keeps_11 Q3 X11_3 v0 v1 S := by
  delta B_X11_keeps_11 at h1 h2 ⊢
  refine ⟨?_, ?_⟩
  · intro c1
    have h1 := h1.1 c1
    have h2 := h2.1 c1
    obtain ⟨c2, h1⟩ := h1
    obtain ⟨_, h2⟩ := h2
    refine ⟨c2, ?_⟩
    intro x4 e3
    have h1 := h1 x4 e3
    have h2 := h2 x4 e3
    intro x6 e5
    have h1 := h1 x6 e5
    have h2 := h2 x6 e5
    intro x8 e7
    have h1 := h1 x8 e7
    have h2 := h2 x8 e7
    exact cm_X11_keeps_48 h1 h2 hq
  · intro c9
    have h1 := h1.2 c9
    have h2 := h2.2 c9
    obtain ⟨c10, h1⟩ := h1
    obtain ⟨_, h2⟩ := h2
    refine ⟨c10, ?_⟩
    obtain ⟨b11, e12, h1⟩ := h1
    obtain ⟨b13, e14, h2⟩ := h2
    cases e12.symm.trans e14
    refine ⟨b11, e12, ?_⟩
    obtain ⟨b15, e16, h1⟩ := h1
    obtain ⟨b17, e18, h2⟩ := h2
    cases e16.symm.trans e18
    refine ⟨b15, e16, ?_⟩
    obtain ⟨c19, h1⟩ := h1
    obtain ⟨_, h2⟩ := h2
    refine ⟨c19, ?_⟩
    intro x21 e20
    have h1 := h1 x21 e20
    have h2 := h2 x21 e20
    obtain ⟨c22, h1⟩ := h1
    obtain ⟨_, h2⟩ := h2
    refine ⟨c22, ?_⟩
    intro x24 e23
    have h1 := h1 x24 e23
    have h2 := h2 x24 e23
    obtain ⟨c25, h1⟩ := h1
    obtain ⟨_, h2⟩ := h2
    refine ⟨c25, ?_⟩
    obtain ⟨c26, h1⟩ := h1
    obtain ⟨_, h2⟩ := h2
    refine ⟨c26, ?_⟩
    intro x28 e27
    have h1 := h1 x28 e27
    have h2 := h2 x28 e27
    intro x30 e29
    have h1 := h1 x30 e29
    have h2 := h2 x30 e29
    exact hX11 _ _ _ h1 h2
theorem fd_X11_keeps_11 {Q : HS → Prop} {v0 : Nat} {v1 : Int32} {S : HS} (h : B_X11_keeps_11 Q (P_X11_keeps_11 Q) v0 v1 S) : P_X11_keeps_11 Q v0 v1 S := fun X hX => hX v0 v1 S (cmB_X11_keeps_11 h h (fun _ a _ => a) (fun _ _ _ hp _ => hp X hX))
theorem uf_X11_keeps_11 {Q : HS → Prop} {v0 : Nat} {v1 : Int32} {S : HS} (h : P_X11_keeps_11 Q v0 v1 S) : B_X11_keeps_11 Q (P_X11_keeps_11 Q) v0 v1 S := h (fun v0 v1 S => B_X11_keeps_11 Q (P_X11_keeps_11 Q) v0 v1 S) (fun v0 v1 S hB => cmB_X11_keeps_11 hB hB (fun _ a _ => a) (fun _ _ _ hb _ => fd_X11_keeps_11 hb))
theorem cm_X11_keeps_11 {Q1 Q2 Q3 : HS → Prop} {v0 : Nat} {v1 : Int32} {S : HS} (h1 : P_X11_keeps_11 Q1 v0 v1 S) (h2 : P_X11_keeps_11 Q2 v0 v1 S) (hq : ∀ (T : HS), Q1 T → Q2 T → Q3 T) : P_X11_keeps_11 Q3 v0 v1 S := h1 (fun v0 v1 S => P_X11_keeps_11 Q2 v0 v1 S → P_X11_keeps_11 Q3 v0 v1 S) (fun v0 v1 S hB hp => fd_X11_keeps_11 (cmB_X11_keeps_11 hB (uf_X11_keeps_11 hp) hq (fun _ _ _ hx hp => hx hp))) h2
set_option maxRecDepth 20000 in
set_option maxHeartbeats 1000000 in
theorem cm_X11_keeps_0 {Q1 Q2 Q3 : HS → Prop} {v0 : Nat} {S : HS} (h1 : P_X11_keeps_0 Q1 v0 S) (h2 : P_X11_keeps_0 Q2 v0 S) (hq : ∀ (T : HS), Q1 T → Q2 T → Q3 T) : P_X11_keeps_0 Q3 v0 S := by
  delta P_X11_keeps_0 at h1 h2 ⊢
  obtain ⟨c1, h1⟩ := h1
  obtain ⟨_, h2⟩ := h2
  refine ⟨c1, ?_⟩
  intro x3 e2
  have h1 := h1 x3 e2
  have h2 := h2 x3 e2
  refine ⟨?_, ?_⟩
  · intro c4
    have h1 := h1.1 c4
    have h2 := h2.1 c4
    exact cm_X11_keeps_48 h1 h2 hq
  · intro c5
    have h1 := h1.2 c5
    have h2 := h2.2 c5
    exact cm_X11_keeps_11 h1 h2 hq
theorem cm_X11_keeps {Q1 Q2 Q3 : HS → Prop} {v0 : Nat} {S : HS} (h1 : P_X11_keeps v0 Q1 S) (h2 : P_X11_keeps v0 Q2 S) (hq : ∀ (T : HS), Q1 T → Q2 T → Q3 T) : P_X11_keeps v0 Q3 S := cm_X11_keeps_0 h1 h2 hq
set_option maxRecDepth 20000 in
set_option maxHeartbeats 1000000 in
theorem cm_X11_rainsIn_0 {Q1 Q2 Q3 : Int32 → HS → Prop} {v0 : Nat} {v1 : Int32} {S : HS} (h1 : P_X11_rainsIn_0 Q1 v0 v1 S) (h2 : P_X11_rainsIn_0 Q2 v0 v1 S) (hq : ∀ (r : Int32) (T : HS), Q1 r T → Q2 r T → Q3 r T) : P_X11_rainsIn_0 Q3 v0 v1 S := by
  delta P_X11_rainsIn_0 at h1 h2 ⊢
  obtain ⟨c1, h1⟩ := h1
  obtain ⟨_, h2⟩ := h2
  refine ⟨c1, ?_⟩
  refine cm_X11_hourOf h1 h2 (fun x2 x3 h1 h2 g4 => ?_)
  have h1 := h1 g4
  have h2 := h2 g4
  obtain ⟨b5, e6, h1⟩ := h1
  obtain ⟨b7, e8, h2⟩ := h2
  cases e6.symm.trans e8
  refine ⟨b5, e6, ?_⟩
  obtain ⟨c9, h1⟩ := h1
  obtain ⟨_, h2⟩ := h2
  refine ⟨c9, ?_⟩
  intro x11 e10
  have h1 := h1 x11 e10
  have h2 := h2 x11 e10
  refine ⟨?_, ?_⟩
  · intro c12
    have h1 := h1.1 c12
    have h2 := h2.1 c12
    exact hq _ _ h1 h2
  · intro c13
    have h1 := h1.2 c13
    have h2 := h2.2 c13
    intro x15 e14
    have h1 := h1 x15 e14
    have h2 := h2 x15 e14
    refine ⟨?_, ?_⟩
    · intro c16
      have h1 := h1.1 c16
      have h2 := h2.1 c16
      exact hq _ _ h1 h2
    · intro c17
      have h1 := h1.2 c17
      have h2 := h2.2 c17
      exact hq _ _ h1 h2
theorem cm_X11_rainsIn {Q1 Q2 Q3 : Int32 → HS → Prop} {v0 : Nat} {v1 : Int32} {S : HS} (h1 : P_X11_rainsIn v0 v1 Q1 S) (h2 : P_X11_rainsIn v0 v1 Q2 S) (hq : ∀ (r : Int32) (T : HS), Q1 r T → Q2 r T → Q3 r T) : P_X11_rainsIn v0 v1 Q3 S := cm_X11_rainsIn_0 h1 h2 hq
set_option maxRecDepth 20000 in
set_option maxHeartbeats 1000000 in
theorem cm_X11_go_29 {Q1 Q2 Q3 : Int32 → HS → Prop} {v0 : Nat} {S : HS} (h1 : P_X11_go_29 Q1 v0 S) (h2 : P_X11_go_29 Q2 v0 S) (hq : ∀ (r : Int32) (T : HS), Q1 r T → Q2 r T → Q3 r T) : P_X11_go_29 Q3 v0 S := by
  delta P_X11_go_29 at h1 h2 ⊢
  obtain ⟨c1, h1⟩ := h1
  obtain ⟨_, h2⟩ := h2
  refine ⟨c1, ?_⟩
  refine cm_X11_refused h1 h2 (fun x2 x3 h1 h2 g4 => ?_)
  have h1 := h1 g4
  have h2 := h2 g4
  exact hq _ _ h1 h2
set_option maxRecDepth 20000 in
set_option maxHeartbeats 1000000 in
theorem cm_X11_go_171 {Q1 Q2 Q3 : Int32 → HS → Prop} {v0 : Nat} {v1 : Int32} {v2 : Int32} {v3 : Int32} {v4 : Int32} {S : HS} (h1 : P_X11_go_171 Q1 v0 v1 v2 v3 v4 S) (h2 : P_X11_go_171 Q2 v0 v1 v2 v3 v4 S) (hq : ∀ (r : Int32) (T : HS), Q1 r T → Q2 r T → Q3 r T) : P_X11_go_171 Q3 v0 v1 v2 v3 v4 S := by
  delta P_X11_go_171 at h1 h2 ⊢
  obtain ⟨c1, h1⟩ := h1
  obtain ⟨_, h2⟩ := h2
  refine ⟨c1, ?_⟩
  obtain ⟨b2, e3, h1⟩ := h1
  obtain ⟨b4, e5, h2⟩ := h2
  cases e3.symm.trans e5
  refine ⟨b2, e3, ?_⟩
  obtain ⟨b6, e7, h1⟩ := h1
  obtain ⟨b8, e9, h2⟩ := h2
  cases e7.symm.trans e9
  refine ⟨b6, e7, ?_⟩
  obtain ⟨c10, h1⟩ := h1
  obtain ⟨_, h2⟩ := h2
  refine ⟨c10, ?_⟩
  refine cm_X10_ends h1 h2 (fun x11 x12 h1 h2 g13 => ?_)
  have h1 := h1 g13
  have h2 := h2 g13
  obtain ⟨c14, h1⟩ := h1
  obtain ⟨_, h2⟩ := h2
  refine ⟨c14, ?_⟩
  intro x16 e15
  have h1 := h1 x16 e15
  have h2 := h2 x16 e15
  obtain ⟨c17, h1⟩ := h1
  obtain ⟨_, h2⟩ := h2
  refine ⟨c17, ?_⟩
  intro x19 e18
  have h1 := h1 x19 e18
  have h2 := h2 x19 e18
  obtain ⟨b20, e21, h1⟩ := h1
  obtain ⟨b22, e23, h2⟩ := h2
  cases e21.symm.trans e23
  refine ⟨b20, e21, ?_⟩
  obtain ⟨b24, e25, h1⟩ := h1
  obtain ⟨b26, e27, h2⟩ := h2
  cases e25.symm.trans e27
  refine ⟨b24, e25, ?_⟩
  obtain ⟨c28, h1⟩ := h1
  obtain ⟨_, h2⟩ := h2
  refine ⟨c28, ?_⟩
  refine cm_X10_minutes h1 h2 (fun x29 x30 h1 h2 g31 => ?_)
  have h1 := h1 g31
  have h2 := h2 g31
  obtain ⟨c32, h1⟩ := h1
  obtain ⟨_, h2⟩ := h2
  refine ⟨c32, ?_⟩
  intro x34 e33
  have h1 := h1 x34 e33
  have h2 := h2 x34 e33
  obtain ⟨c35, h1⟩ := h1
  obtain ⟨_, h2⟩ := h2
  refine ⟨c35, ?_⟩
  intro x37 e36
  have h1 := h1 x37 e36
  have h2 := h2 x37 e36
  obtain ⟨b38, e39, h1⟩ := h1
  obtain ⟨b40, e41, h2⟩ := h2
  cases e39.symm.trans e41
  refine ⟨b38, e39, ?_⟩
  obtain ⟨c42, h1⟩ := h1
  obtain ⟨_, h2⟩ := h2
  refine ⟨c42, ?_⟩
  obtain ⟨c43, h1⟩ := h1
  obtain ⟨_, h2⟩ := h2
  refine ⟨c43, ?_⟩
  intro x45 e44
  have h1 := h1 x45 e44
  have h2 := h2 x45 e44
  refine cm_X11_good h1 h2 (fun x46 x47 h1 h2 g48 => ?_)
  have h1 := h1 g48
  have h2 := h2 g48
  exact hq _ _ h1 h2
set_option maxRecDepth 20000 in
set_option maxHeartbeats 1000000 in
theorem cmB_X11_go_119 {Q1 Q2 Q3 : Int32 → HS → Prop} {X119_1 X119_2 X119_3 : Nat → Int32 → Int32 → Int32 → Int32 → Int32 → HS → Prop} {v0 : Nat} {v1 : Int32} {v2 : Int32} {v3 : Int32} {v4 : Int32} {v5 : Int32} {S : HS} (h1 : B_X11_go_119 Q1 X119_1 v0 v1 v2 v3 v4 v5 S) (h2 : B_X11_go_119 Q2 X119_2 v0 v1 v2 v3 v4 v5 S) (hq : ∀ (r : Int32) (T : HS), Q1 r T → Q2 r T → Q3 r T) (hX119 : ∀ (u0 : Nat) (u1 : Int32) (u2 : Int32) (u3 : Int32) (u4 : Int32) (u5 : Int32) (u6 : HS), X119_1 u0 u1 u2 u3 u4 u5 u6 → X119_2 u0 u1 u2 u3 u4 u5 u6 → X119_3 u0 u1 u2 u3 u4 u5 u6) : B_X11_go_119 Q3 X119_3 v0 v1 v2 v3 v4 v5 S := by
  delta B_X11_go_119 at h1 h2 ⊢
  refine ⟨?_, ?_⟩
  · intro c1
    have h1 := h1.1 c1
    have h2 := h2.1 c1
    exact cm_X11_go_171 h1 h2 hq
  · intro c2
    have h1 := h1.2 c2
    have h2 := h2.2 c2
    obtain ⟨c3, h1⟩ := h1
    obtain ⟨_, h2⟩ := h2
    refine ⟨c3, ?_⟩
    refine cm_X11_rainsIn h1 h2 (fun x4 x5 h1 h2 g6 g7 => ?_)
    have h1 := h1 g6 g7
    have h2 := h2 g6 g7
    refine ⟨?_, ?_⟩
    · intro c8
      have h1 := h1.1 c8
      have h2 := h2.1 c8
      exact cm_X11_go_171 h1 h2 hq
    · intro c9
      have h1 := h1.2 c9
      have h2 := h2.2 c9
      obtain ⟨b10, e11, h1⟩ := h1
      obtain ⟨b12, e13, h2⟩ := h2
      cases e11.symm.trans e13
      refine ⟨b10, e11, ?_⟩
      obtain ⟨c14, h1⟩ := h1
      obtain ⟨_, h2⟩ := h2
      refine ⟨c14, ?_⟩
      intro x16 e15
      have h1 := h1 x16 e15
      have h2 := h2 x16 e15
      obtain ⟨c17, h1⟩ := h1
      obtain ⟨_, h2⟩ := h2
      refine ⟨c17, ?_⟩
      intro x19 e18
      have h1 := h1 x19 e18
      have h2 := h2 x19 e18
      intro x21 e20
      have h1 := h1 x21 e20
      have h2 := h2 x21 e20
      refine cm_X11_hourOf h1 h2 (fun x22 x23 h1 h2 g24 => ?_)
      have h1 := h1 g24
      have h2 := h2 g24
      refine cm_X11_partsOf h1 h2 (fun x25 x26 h1 h2 g27 => ?_)
      have h1 := h1 g27
      have h2 := h2 g27
      intro x29 e28
      have h1 := h1 x29 e28
      have h2 := h2 x29 e28
      obtain ⟨c30, h1⟩ := h1
      obtain ⟨_, h2⟩ := h2
      refine ⟨c30, ?_⟩
      intro x32 e31
      have h1 := h1 x32 e31
      have h2 := h2 x32 e31
      intro x34 e33
      have h1 := h1 x34 e33
      have h2 := h2 x34 e33
      exact hX119 _ _ _ _ _ _ _ h1 h2
theorem fd_X11_go_119 {Q : Int32 → HS → Prop} {v0 : Nat} {v1 : Int32} {v2 : Int32} {v3 : Int32} {v4 : Int32} {v5 : Int32} {S : HS} (h : B_X11_go_119 Q (P_X11_go_119 Q) v0 v1 v2 v3 v4 v5 S) : P_X11_go_119 Q v0 v1 v2 v3 v4 v5 S := fun X hX => hX v0 v1 v2 v3 v4 v5 S (cmB_X11_go_119 h h (fun _ _ a _ => a) (fun _ _ _ _ _ _ _ hp _ => hp X hX))
theorem uf_X11_go_119 {Q : Int32 → HS → Prop} {v0 : Nat} {v1 : Int32} {v2 : Int32} {v3 : Int32} {v4 : Int32} {v5 : Int32} {S : HS} (h : P_X11_go_119 Q v0 v1 v2 v3 v4 v5 S) : B_X11_go_119 Q (P_X11_go_119 Q) v0 v1 v2 v3 v4 v5 S := h (fun v0 v1 v2 v3 v4 v5 S => B_X11_go_119 Q (P_X11_go_119 Q) v0 v1 v2 v3 v4 v5 S) (fun v0 v1 v2 v3 v4 v5 S hB => cmB_X11_go_119 hB hB (fun _ _ a _ => a) (fun _ _ _ _ _ _ _ hb _ => fd_X11_go_119 hb))
theorem cm_X11_go_119 {Q1 Q2 Q3 : Int32 → HS → Prop} {v0 : Nat} {v1 : Int32} {v2 : Int32} {v3 : Int32} {v4 : Int32} {v5 : Int32} {S : HS} (h1 : P_X11_go_119 Q1 v0 v1 v2 v3 v4 v5 S) (h2 : P_X11_go_119 Q2 v0 v1 v2 v3 v4 v5 S) (hq : ∀ (r : Int32) (T : HS), Q1 r T → Q2 r T → Q3 r T) : P_X11_go_119 Q3 v0 v1 v2 v3 v4 v5 S := h1 (fun v0 v1 v2 v3 v4 v5 S => P_X11_go_119 Q2 v0 v1 v2 v3 v4 v5 S → P_X11_go_119 Q3 v0 v1 v2 v3 v4 v5 S) (fun v0 v1 v2 v3 v4 v5 S hB hp => fd_X11_go_119 (cmB_X11_go_119 hB (uf_X11_go_119 hp) hq (fun _ _ _ _ _ _ _ hx hp => hx hp))) h2
set_option maxRecDepth 20000 in
set_option maxHeartbeats 1000000 in
theorem cm_X11_go_0 {Q1 Q2 Q3 : Int32 → HS → Prop} {v0 : Nat} {v1 : Int32} {v2 : Int32} {v3 : Int32} {S : HS} (h1 : P_X11_go_0 Q1 v0 v1 v2 v3 S) (h2 : P_X11_go_0 Q2 v0 v1 v2 v3 S) (hq : ∀ (r : Int32) (T : HS), Q1 r T → Q2 r T → Q3 r T) : P_X11_go_0 Q3 v0 v1 v2 v3 S := by
  delta P_X11_go_0 at h1 h2 ⊢
  obtain ⟨c1, h1⟩ := h1
  obtain ⟨_, h2⟩ := h2
  refine ⟨c1, ?_⟩
  intro x3 e2
  have h1 := h1 x3 e2
  have h2 := h2 x3 e2
  refine cm_X11_isDay h1 h2 (fun x4 x5 h1 h2 g6 g7 => ?_)
  have h1 := h1 g6 g7
  have h2 := h2 g6 g7
  refine ⟨?_, ?_⟩
  · intro c8
    have h1 := h1.1 c8
    have h2 := h2.1 c8
    exact cm_X11_go_29 h1 h2 hq
  · intro c9
    have h1 := h1.2 c9
    have h2 := h2.2 c9
    refine cm_X11_isRoad h1 h2 (fun x10 x11 h1 h2 g12 g13 => ?_)
    have h1 := h1 g12 g13
    have h2 := h2 g12 g13
    refine ⟨?_, ?_⟩
    · intro c14
      have h1 := h1.1 c14
      have h2 := h2.1 c14
      exact cm_X11_go_29 h1 h2 hq
    · intro c15
      have h1 := h1.2 c15
      have h2 := h2.2 c15
      refine cm_X11_in h1 h2 (fun x16 x17 h1 h2 g18 g19 => ?_)
      have h1 := h1 g18 g19
      have h2 := h2 g18 g19
      refine ⟨?_, ?_⟩
      · intro c20
        have h1 := h1.1 c20
        have h2 := h2.1 c20
        intro x22 e21
        have h1 := h1 x22 e21
        have h2 := h2 x22 e21
        refine cm_X11_isSpeed h1 h2 (fun x23 x24 h1 h2 g25 g26 => ?_)
        have h1 := h1 g25 g26
        have h2 := h2 g25 g26
        refine ⟨?_, ?_⟩
        · intro c27
          have h1 := h1.1 c27
          have h2 := h2.1 c27
          obtain ⟨b28, e29, h1⟩ := h1
          obtain ⟨b30, e31, h2⟩ := h2
          cases e29.symm.trans e31
          refine ⟨b28, e29, ?_⟩
          obtain ⟨c32, h1⟩ := h1
          obtain ⟨_, h2⟩ := h2
          refine ⟨c32, ?_⟩
          refine cm_X10_begins h1 h2 (fun x33 x34 h1 h2 g35 => ?_)
          have h1 := h1 g35
          have h2 := h2 g35
          obtain ⟨b36, e37, h1⟩ := h1
          obtain ⟨b38, e39, h2⟩ := h2
          cases e37.symm.trans e39
          refine ⟨b36, e37, ?_⟩
          obtain ⟨c40, h1⟩ := h1
          obtain ⟨_, h2⟩ := h2
          refine ⟨c40, ?_⟩
          obtain ⟨c41, h1⟩ := h1
          obtain ⟨_, h2⟩ := h2
          refine ⟨c41, ?_⟩
          intro x43 e42
          have h1 := h1 x43 e42
          have h2 := h2 x43 e42
          refine ⟨?_, ?_⟩
          · intro c44
            have h1 := h1.1 c44
            have h2 := h2.1 c44
            obtain ⟨b45, e46, h1⟩ := h1
            obtain ⟨b47, e48, h2⟩ := h2
            cases e46.symm.trans e48
            refine ⟨b45, e46, ?_⟩
            obtain ⟨c49, h1⟩ := h1
            obtain ⟨_, h2⟩ := h2
            refine ⟨c49, ?_⟩
            obtain ⟨c50, h1⟩ := h1
            obtain ⟨_, h2⟩ := h2
            refine ⟨c50, ?_⟩
            intro x52 e51
            have h1 := h1 x52 e51
            have h2 := h2 x52 e51
            intro x54 e53
            have h1 := h1 x54 e53
            have h2 := h2 x54 e53
            obtain ⟨b55, e56, h1⟩ := h1
            obtain ⟨b57, e58, h2⟩ := h2
            cases e56.symm.trans e58
            refine ⟨b55, e56, ?_⟩
            obtain ⟨c59, h1⟩ := h1
            obtain ⟨_, h2⟩ := h2
            refine ⟨c59, ?_⟩
            refine cm_X10_minutes h1 h2 (fun x60 x61 h1 h2 g62 => ?_)
            have h1 := h1 g62
            have h2 := h2 g62
            refine ⟨?_, ?_⟩
            · intro c63
              have h1 := h1.1 c63
              have h2 := h2.1 c63
              refine cm_X11_keeps h1 h2 (fun x64 h1 h2 g65 => ?_)
              have h1 := h1 g65
              have h2 := h2 g65
              exact cm_X11_go_119 h1 h2 hq
            · intro c66
              have h1 := h1.2 c66
              have h2 := h2.2 c66
              refine cm_X11_refused h1 h2 (fun x67 x68 h1 h2 g69 => ?_)
              have h1 := h1 g69
              have h2 := h2 g69
              exact hq _ _ h1 h2
          · intro c70
            have h1 := h1.2 c70
            have h2 := h2.2 c70
            refine cm_X11_refused h1 h2 (fun x71 x72 h1 h2 g73 => ?_)
            have h1 := h1 g73
            have h2 := h2 g73
            exact hq _ _ h1 h2
        · intro c74
          have h1 := h1.2 c74
          have h2 := h2.2 c74
          refine cm_X11_refused h1 h2 (fun x75 x76 h1 h2 g77 => ?_)
          have h1 := h1 g77
          have h2 := h2 g77
          exact hq _ _ h1 h2
      · intro c78
        have h1 := h1.2 c78
        have h2 := h2.2 c78
        exact cm_X11_go_29 h1 h2 hq
theorem cm_X11_go {Q1 Q2 Q3 : Int32 → HS → Prop} {v0 : Nat} {v1 : Int32} {v2 : Int32} {v3 : Int32} {S : HS} (h1 : P_X11_go v0 v1 v2 v3 Q1 S) (h2 : P_X11_go v0 v1 v2 v3 Q2 S) (hq : ∀ (r : Int32) (T : HS), Q1 r T → Q2 r T → Q3 r T) : P_X11_go v0 v1 v2 v3 Q3 S := cm_X11_go_0 h1 h2 hq
set_option maxRecDepth 20000 in
set_option maxHeartbeats 1000000 in
theorem cm_X11_got_40 {Q1 Q2 Q3 : Int64 → HS → Prop} {v0 : Nat} {S : HS} (h1 : P_X11_got_40 Q1 v0 S) (h2 : P_X11_got_40 Q2 v0 S) (hq : ∀ (r : Int64) (T : HS), Q1 r T → Q2 r T → Q3 r T) : P_X11_got_40 Q3 v0 S := by
  delta P_X11_got_40 at h1 h2 ⊢
  obtain ⟨c1, h1⟩ := h1
  obtain ⟨_, h2⟩ := h2
  refine ⟨c1, ?_⟩
  refine cm_X11_refused h1 h2 (fun x2 x3 h1 h2 g4 => ?_)
  have h1 := h1 g4
  have h2 := h2 g4
  exact hq _ _ h1 h2
set_option maxRecDepth 20000 in
set_option maxHeartbeats 1000000 in
theorem cm_X11_got_0 {Q1 Q2 Q3 : Int64 → HS → Prop} {v0 : Nat} {v1 : Int32} {v2 : Int32} {S : HS} (h1 : P_X11_got_0 Q1 v0 v1 v2 S) (h2 : P_X11_got_0 Q2 v0 v1 v2 S) (hq : ∀ (r : Int64) (T : HS), Q1 r T → Q2 r T → Q3 r T) : P_X11_got_0 Q3 v0 v1 v2 S := by
  delta P_X11_got_0 at h1 h2 ⊢
  obtain ⟨c1, h1⟩ := h1
  obtain ⟨_, h2⟩ := h2
  refine ⟨c1, ?_⟩
  intro x3 e2
  have h1 := h1 x3 e2
  have h2 := h2 x3 e2
  refine cm_X11_isDay h1 h2 (fun x4 x5 h1 h2 g6 g7 => ?_)
  have h1 := h1 g6 g7
  have h2 := h2 g6 g7
  refine ⟨?_, ?_⟩
  · intro c8
    have h1 := h1.1 c8
    have h2 := h2.1 c8
    exact cm_X11_got_40 h1 h2 hq
  · intro c9
    have h1 := h1.2 c9
    have h2 := h2.2 c9
    refine cm_X11_in h1 h2 (fun x10 x11 h1 h2 g12 g13 => ?_)
    have h1 := h1 g12 g13
    have h2 := h2 g12 g13
    refine ⟨?_, ?_⟩
    · intro c14
      have h1 := h1.1 c14
      have h2 := h2.1 c14
      exact cm_X11_got_40 h1 h2 hq
    · intro c15
      have h1 := h1.2 c15
      have h2 := h2.2 c15
      obtain ⟨b16, e17, h1⟩ := h1
      obtain ⟨b18, e19, h2⟩ := h2
      cases e17.symm.trans e19
      refine ⟨b16, e17, ?_⟩
      obtain ⟨c20, h1⟩ := h1
      obtain ⟨_, h2⟩ := h2
      refine ⟨c20, ?_⟩
      intro x22 e21
      have h1 := h1 x22 e21
      have h2 := h2 x22 e21
      obtain ⟨c23, h1⟩ := h1
      obtain ⟨_, h2⟩ := h2
      refine ⟨c23, ?_⟩
      intro x25 e24
      have h1 := h1 x25 e24
      have h2 := h2 x25 e24
      refine cm_X11_told h1 h2 (fun x26 x27 h1 h2 g28 => ?_)
      have h1 := h1 g28
      have h2 := h2 g28
      exact hq _ _ h1 h2
theorem cm_X11_got {Q1 Q2 Q3 : Int64 → HS → Prop} {v0 : Nat} {v1 : Int32} {v2 : Int32} {S : HS} (h1 : P_X11_got v0 v1 v2 Q1 S) (h2 : P_X11_got v0 v1 v2 Q2 S) (hq : ∀ (r : Int64) (T : HS), Q1 r T → Q2 r T → Q3 r T) : P_X11_got v0 v1 v2 Q3 S := cm_X11_got_0 h1 h2 hq
set_option maxRecDepth 20000 in
set_option maxHeartbeats 1000000 in
theorem cmB_X11_gotInAll_4 {Q1 Q2 Q3 : Int64 → HS → Prop} {X4_1 X4_2 X4_3 : Nat → Int64 → Int32 → HS → Prop} {v0 : Nat} {v1 : Int64} {v3 : Int32} {S : HS} (h1 : B_X11_gotInAll_4 Q1 X4_1 v0 v1 v3 S) (h2 : B_X11_gotInAll_4 Q2 X4_2 v0 v1 v3 S) (hq : ∀ (r : Int64) (T : HS), Q1 r T → Q2 r T → Q3 r T) (hX4 : ∀ (u0 : Nat) (u1 : Int64) (u2 : Int32) (u3 : HS), X4_1 u0 u1 u2 u3 → X4_2 u0 u1 u2 u3 → X4_3 u0 u1 u2 u3) : B_X11_gotInAll_4 Q3 X4_3 v0 v1 v3 S := by
  delta B_X11_gotInAll_4 at h1 h2 ⊢
  refine ⟨?_, ?_⟩
  · intro c1
    have h1 := h1.1 c1
    have h2 := h2.1 c1
    exact hq _ _ h1 h2
  · intro c2
    have h1 := h1.2 c2
    have h2 := h2.2 c2
    obtain ⟨c3, h1⟩ := h1
    obtain ⟨_, h2⟩ := h2
    refine ⟨c3, ?_⟩
    obtain ⟨b4, e5, h1⟩ := h1
    obtain ⟨b6, e7, h2⟩ := h2
    cases e5.symm.trans e7
    refine ⟨b4, e5, ?_⟩
    obtain ⟨c8, h1⟩ := h1
    obtain ⟨_, h2⟩ := h2
    refine ⟨c8, ?_⟩
    intro x10 e9
    have h1 := h1 x10 e9
    have h2 := h2 x10 e9
    obtain ⟨c11, h1⟩ := h1
    obtain ⟨_, h2⟩ := h2
    refine ⟨c11, ?_⟩
    intro x13 e12
    have h1 := h1 x13 e12
    have h2 := h2 x13 e12
    intro x15 e14
    have h1 := h1 x15 e14
    have h2 := h2 x15 e14
    intro x17 e16
    have h1 := h1 x17 e16
    have h2 := h2 x17 e16
    exact hX4 _ _ _ _ h1 h2
theorem fd_X11_gotInAll_4 {Q : Int64 → HS → Prop} {v0 : Nat} {v1 : Int64} {v3 : Int32} {S : HS} (h : B_X11_gotInAll_4 Q (P_X11_gotInAll_4 Q) v0 v1 v3 S) : P_X11_gotInAll_4 Q v0 v1 v3 S := fun X hX => hX v0 v1 v3 S (cmB_X11_gotInAll_4 h h (fun _ _ a _ => a) (fun _ _ _ _ hp _ => hp X hX))
theorem uf_X11_gotInAll_4 {Q : Int64 → HS → Prop} {v0 : Nat} {v1 : Int64} {v3 : Int32} {S : HS} (h : P_X11_gotInAll_4 Q v0 v1 v3 S) : B_X11_gotInAll_4 Q (P_X11_gotInAll_4 Q) v0 v1 v3 S := h (fun v0 v1 v3 S => B_X11_gotInAll_4 Q (P_X11_gotInAll_4 Q) v0 v1 v3 S) (fun v0 v1 v3 S hB => cmB_X11_gotInAll_4 hB hB (fun _ _ a _ => a) (fun _ _ _ _ hb _ => fd_X11_gotInAll_4 hb))
theorem cm_X11_gotInAll_4 {Q1 Q2 Q3 : Int64 → HS → Prop} {v0 : Nat} {v1 : Int64} {v3 : Int32} {S : HS} (h1 : P_X11_gotInAll_4 Q1 v0 v1 v3 S) (h2 : P_X11_gotInAll_4 Q2 v0 v1 v3 S) (hq : ∀ (r : Int64) (T : HS), Q1 r T → Q2 r T → Q3 r T) : P_X11_gotInAll_4 Q3 v0 v1 v3 S := h1 (fun v0 v1 v3 S => P_X11_gotInAll_4 Q2 v0 v1 v3 S → P_X11_gotInAll_4 Q3 v0 v1 v3 S) (fun v0 v1 v3 S hB hp => fd_X11_gotInAll_4 (cmB_X11_gotInAll_4 hB (uf_X11_gotInAll_4 hp) hq (fun _ _ _ _ hx hp => hx hp))) h2
set_option maxRecDepth 20000 in
set_option maxHeartbeats 1000000 in
theorem cm_X11_gotInAll_0 {Q1 Q2 Q3 : Int64 → HS → Prop} {v0 : Nat} {S : HS} (h1 : P_X11_gotInAll_0 Q1 v0 S) (h2 : P_X11_gotInAll_0 Q2 v0 S) (hq : ∀ (r : Int64) (T : HS), Q1 r T → Q2 r T → Q3 r T) : P_X11_gotInAll_0 Q3 v0 S := by
  delta P_X11_gotInAll_0 at h1 h2 ⊢
  exact cm_X11_gotInAll_4 h1 h2 hq
theorem cm_X11_gotInAll {Q1 Q2 Q3 : Int64 → HS → Prop} {v0 : Nat} {S : HS} (h1 : P_X11_gotInAll v0 Q1 S) (h2 : P_X11_gotInAll v0 Q2 S) (hq : ∀ (r : Int64) (T : HS), Q1 r T → Q2 r T → Q3 r T) : P_X11_gotInAll v0 Q3 S := cm_X11_gotInAll_0 h1 h2 hq
set_option maxRecDepth 20000 in
set_option maxHeartbeats 1000000 in
theorem cm_X11_held_68 {Q1 Q2 Q3 : Int32 → HS → Prop} {s0 : Nat} {s1 : Int32} {S : HS} (h1 : P_X11_held_68 Q1 s0 s1 S) (h2 : P_X11_held_68 Q2 s0 s1 S) (hq : ∀ (r : Int32) (T : HS), Q1 r T → Q2 r T → Q3 r T) : P_X11_held_68 Q3 s0 s1 S := by
  delta P_X11_held_68 at h1 h2 ⊢
  obtain ⟨c1, h1⟩ := h1
  obtain ⟨_, h2⟩ := h2
  refine ⟨c1, ?_⟩
  refine cm_X11_good h1 h2 (fun x2 x3 h1 h2 g4 => ?_)
  have h1 := h1 g4
  have h2 := h2 g4
  exact hq _ _ h1 h2
set_option maxRecDepth 20000 in
set_option maxHeartbeats 1000000 in
theorem cm_X11_held_0 {Q1 Q2 Q3 : Int32 → HS → Prop} {v0 : Nat} {v1 : Int32} {v2 : Int32} {v3 : Int32} {v4 : Int32} {v5 : Int32} {S : HS} (h1 : P_X11_held_0 Q1 v0 v1 v2 v3 v4 v5 S) (h2 : P_X11_held_0 Q2 v0 v1 v2 v3 v4 v5 S) (hq : ∀ (r : Int32) (T : HS), Q1 r T → Q2 r T → Q3 r T) : P_X11_held_0 Q3 v0 v1 v2 v3 v4 v5 S := by
  delta P_X11_held_0 at h1 h2 ⊢
  obtain ⟨c1, h1⟩ := h1
  obtain ⟨_, h2⟩ := h2
  refine ⟨c1, ?_⟩
  intro x3 e2
  have h1 := h1 x3 e2
  have h2 := h2 x3 e2
  refine cm_X11_refuses h1 h2 (fun x4 x5 h1 h2 g6 => ?_)
  have h1 := h1 g6
  have h2 := h2 g6
  refine ⟨?_, ?_⟩
  · intro c7
    have h1 := h1.1 c7
    have h2 := h2.1 c7
    obtain ⟨b8, e9, h1⟩ := h1
    obtain ⟨b10, e11, h2⟩ := h2
    cases e9.symm.trans e11
    refine ⟨b8, e9, ?_⟩
    obtain ⟨c12, h1⟩ := h1
    obtain ⟨_, h2⟩ := h2
    refine ⟨c12, ?_⟩
    obtain ⟨b13, e14, h1⟩ := h1
    obtain ⟨b15, e16, h2⟩ := h2
    cases e14.symm.trans e16
    refine ⟨b13, e14, ?_⟩
    obtain ⟨c17, h1⟩ := h1
    obtain ⟨_, h2⟩ := h2
    refine ⟨c17, ?_⟩
    obtain ⟨c18, h1⟩ := h1
    obtain ⟨_, h2⟩ := h2
    refine ⟨c18, ?_⟩
    intro x20 e19
    have h1 := h1 x20 e19
    have h2 := h2 x20 e19
    refine ⟨?_, ?_⟩
    · intro c21
      have h1 := h1.1 c21
      have h2 := h2.1 c21
      refine cm_X11_isForward h1 h2 (fun x22 x23 h1 h2 g24 g25 => ?_)
      have h1 := h1 g24 g25
      have h2 := h2 g24 g25
      refine ⟨?_, ?_⟩
      · intro c26
        have h1 := h1.1 c26
        have h2 := h2.1 c26
        exact cm_X11_held_68 h1 h2 hq
      · intro c27
        have h1 := h1.2 c27
        have h2 := h2.2 c27
        exact cm_X11_held_68 h1 h2 hq
    · intro c28
      have h1 := h1.2 c28
      have h2 := h2.2 c28
      exact cm_X11_held_68 h1 h2 hq
  · intro c29
    have h1 := h1.2 c29
    have h2 := h2.2 c29
    refine cm_X11_refused h1 h2 (fun x30 x31 h1 h2 g32 => ?_)
    have h1 := h1 g32
    have h2 := h2 g32
    exact hq _ _ h1 h2
theorem cm_X11_held {Q1 Q2 Q3 : Int32 → HS → Prop} {v0 : Nat} {v1 : Int32} {v2 : Int32} {v3 : Int32} {v4 : Int32} {v5 : Int32} {S : HS} (h1 : P_X11_held v0 v1 v2 v3 v4 v5 Q1 S) (h2 : P_X11_held v0 v1 v2 v3 v4 v5 Q2 S) (hq : ∀ (r : Int32) (T : HS), Q1 r T → Q2 r T → Q3 r T) : P_X11_held v0 v1 v2 v3 v4 v5 Q3 S := cm_X11_held_0 h1 h2 hq
set_option maxRecDepth 20000 in
set_option maxHeartbeats 1000000 in
theorem cm_X11_holds_0 {Q1 Q2 Q3 : Int64 → HS → Prop} {v0 : Nat} {S : HS} (h1 : P_X11_holds_0 Q1 v0 S) (h2 : P_X11_holds_0 Q2 v0 S) (hq : ∀ (r : Int64) (T : HS), Q1 r T → Q2 r T → Q3 r T) : P_X11_holds_0 Q3 v0 S := by
  delta P_X11_holds_0 at h1 h2 ⊢
  obtain ⟨c1, h1⟩ := h1
  obtain ⟨_, h2⟩ := h2
  refine ⟨c1, ?_⟩
  obtain ⟨b2, e3, h1⟩ := h1
  obtain ⟨b4, e5, h2⟩ := h2
  cases e3.symm.trans e5
  refine ⟨b2, e3, ?_⟩
  obtain ⟨c6, h1⟩ := h1
  obtain ⟨_, h2⟩ := h2
  refine ⟨c6, ?_⟩
  obtain ⟨b7, e8, h1⟩ := h1
  obtain ⟨b9, e10, h2⟩ := h2
  cases e8.symm.trans e10
  refine ⟨b7, e8, ?_⟩
  intro x12 e11
  have h1 := h1 x12 e11
  have h2 := h2 x12 e11
  obtain ⟨c13, h1⟩ := h1
  obtain ⟨_, h2⟩ := h2
  refine ⟨c13, ?_⟩
  obtain ⟨c14, h1⟩ := h1
  obtain ⟨_, h2⟩ := h2
  refine ⟨c14, ?_⟩
  intro x16 e15
  have h1 := h1 x16 e15
  have h2 := h2 x16 e15
  refine ⟨?_, ?_⟩
  · intro c17
    have h1 := h1.1 c17
    have h2 := h2.1 c17
    exact hq _ _ h1 h2
  · intro c18
    have h1 := h1.2 c18
    have h2 := h2.2 c18
    obtain ⟨b19, e20, h1⟩ := h1
    obtain ⟨b21, e22, h2⟩ := h2
    cases e20.symm.trans e22
    refine ⟨b19, e20, ?_⟩
    obtain ⟨c23, h1⟩ := h1
    obtain ⟨_, h2⟩ := h2
    refine ⟨c23, ?_⟩
    obtain ⟨b24, e25, h1⟩ := h1
    obtain ⟨b26, e27, h2⟩ := h2
    cases e25.symm.trans e27
    refine ⟨b24, e25, ?_⟩
    intro x29 e28
    have h1 := h1 x29 e28
    have h2 := h2 x29 e28
    obtain ⟨c30, h1⟩ := h1
    obtain ⟨_, h2⟩ := h2
    refine ⟨c30, ?_⟩
    obtain ⟨c31, h1⟩ := h1
    obtain ⟨_, h2⟩ := h2
    refine ⟨c31, ?_⟩
    intro x33 e32
    have h1 := h1 x33 e32
    have h2 := h2 x33 e32
    exact hq _ _ h1 h2
theorem cm_X11_holds {Q1 Q2 Q3 : Int64 → HS → Prop} {v0 : Nat} {S : HS} (h1 : P_X11_holds v0 Q1 S) (h2 : P_X11_holds v0 Q2 S) (hq : ∀ (r : Int64) (T : HS), Q1 r T → Q2 r T → Q3 r T) : P_X11_holds v0 Q3 S := cm_X11_holds_0 h1 h2 hq
set_option maxRecDepth 20000 in
set_option maxHeartbeats 1000000 in
theorem cm_X11_init_0 {Q1 Q2 Q3 : HS → Prop} {v0 : Nat} {S : HS} (h1 : P_X11_init_0 Q1 v0 S) (h2 : P_X11_init_0 Q2 v0 S) (hq : ∀ (T : HS), Q1 T → Q2 T → Q3 T) : P_X11_init_0 Q3 v0 S := by
  delta P_X11_init_0 at h1 h2 ⊢
  obtain ⟨c1, h1⟩ := h1
  obtain ⟨_, h2⟩ := h2
  refine ⟨c1, ?_⟩
  intro x3 e2
  have h1 := h1 x3 e2
  have h2 := h2 x3 e2
  intro x5 e4
  have h1 := h1 x5 e4
  have h2 := h2 x5 e4
  intro x7 e6
  have h1 := h1 x7 e6
  have h2 := h2 x7 e6
  intro x9 e8
  have h1 := h1 x9 e8
  have h2 := h2 x9 e8
  intro x11 e10
  have h1 := h1 x11 e10
  have h2 := h2 x11 e10
  intro x13 e12
  have h1 := h1 x13 e12
  have h2 := h2 x13 e12
  intro x15 e14
  have h1 := h1 x15 e14
  have h2 := h2 x15 e14
  intro x17 e16
  have h1 := h1 x17 e16
  have h2 := h2 x17 e16
  intro x19 e18
  have h1 := h1 x19 e18
  have h2 := h2 x19 e18
  intro x21 e20
  have h1 := h1 x21 e20
  have h2 := h2 x21 e20
  intro x23 e22
  have h1 := h1 x23 e22
  have h2 := h2 x23 e22
  intro x25 e24
  have h1 := h1 x25 e24
  have h2 := h2 x25 e24
  intro x27 e26
  have h1 := h1 x27 e26
  have h2 := h2 x27 e26
  intro x29 e28
  have h1 := h1 x29 e28
  have h2 := h2 x29 e28
  intro x31 e30
  have h1 := h1 x31 e30
  have h2 := h2 x31 e30
  intro x33 e32
  have h1 := h1 x33 e32
  have h2 := h2 x33 e32
  intro x35 e34
  have h1 := h1 x35 e34
  have h2 := h2 x35 e34
  intro x37 e36
  have h1 := h1 x37 e36
  have h2 := h2 x37 e36
  intro x39 e38
  have h1 := h1 x39 e38
  have h2 := h2 x39 e38
  intro x41 e40
  have h1 := h1 x41 e40
  have h2 := h2 x41 e40
  intro x43 e42
  have h1 := h1 x43 e42
  have h2 := h2 x43 e42
  intro x45 e44
  have h1 := h1 x45 e44
  have h2 := h2 x45 e44
  intro x47 e46
  have h1 := h1 x47 e46
  have h2 := h2 x47 e46
  exact hq _ h1 h2
theorem cm_X11_init {Q1 Q2 Q3 : HS → Prop} {v0 : Nat} {S : HS} (h1 : P_X11_init v0 Q1 S) (h2 : P_X11_init v0 Q2 S) (hq : ∀ (T : HS), Q1 T → Q2 T → Q3 T) : P_X11_init v0 Q3 S := cm_X11_init_0 h1 h2 hq
set_option maxRecDepth 20000 in
set_option maxHeartbeats 1000000 in
theorem cm_X11_isName_0 {Q1 Q2 Q3 : Int32 → HS → Prop} {v0 : Nat} {S : HS} (h1 : P_X11_isName_0 Q1 v0 S) (h2 : P_X11_isName_0 Q2 v0 S) (hq : ∀ (r : Int32) (T : HS), Q1 r T → Q2 r T → Q3 r T) : P_X11_isName_0 Q3 v0 S := by
  delta P_X11_isName_0 at h1 h2 ⊢
  obtain ⟨c1, h1⟩ := h1
  obtain ⟨_, h2⟩ := h2
  refine ⟨c1, ?_⟩
  intro x3 e2
  have h1 := h1 x3 e2
  have h2 := h2 x3 e2
  refine ⟨?_, ?_⟩
  · intro c4
    have h1 := h1.1 c4
    have h2 := h2.1 c4
    exact hq _ _ h1 h2
  · intro c5
    have h1 := h1.2 c5
    have h2 := h2.2 c5
    refine cm_X11_isWord h1 h2 (fun x6 x7 h1 h2 g8 g9 => ?_)
    have h1 := h1 g8 g9
    have h2 := h2 g8 g9
    refine ⟨?_, ?_⟩
    · intro c10
      have h1 := h1.1 c10
      have h2 := h2.1 c10
      exact hq _ _ h1 h2
    · intro c11
      have h1 := h1.2 c11
      have h2 := h2.2 c11
      refine cm_X11_isWord h1 h2 (fun x12 x13 h1 h2 g14 g15 => ?_)
      have h1 := h1 g14 g15
      have h2 := h2 g14 g15
      refine ⟨?_, ?_⟩
      · intro c16
        have h1 := h1.1 c16
        have h2 := h2.1 c16
        exact hq _ _ h1 h2
      · intro c17
        have h1 := h1.2 c17
        have h2 := h2.2 c17
        refine cm_X11_isWord h1 h2 (fun x18 x19 h1 h2 g20 g21 => ?_)
        have h1 := h1 g20 g21
        have h2 := h2 g20 g21
        refine ⟨?_, ?_⟩
        · intro c22
          have h1 := h1.1 c22
          have h2 := h2.1 c22
          exact hq _ _ h1 h2
        · intro c23
          have h1 := h1.2 c23
          have h2 := h2.2 c23
          refine cm_X11_isWord h1 h2 (fun x24 x25 h1 h2 g26 g27 => ?_)
          have h1 := h1 g26 g27
          have h2 := h2 g26 g27
          refine ⟨?_, ?_⟩
          · intro c28
            have h1 := h1.1 c28
            have h2 := h2.1 c28
            refine cm_X11_isWord h1 h2 (fun x29 x30 h1 h2 g31 g32 => ?_)
            have h1 := h1 g31 g32
            have h2 := h2 g31 g32
            refine ⟨?_, ?_⟩
            · intro c33
              have h1 := h1.1 c33
              have h2 := h2.1 c33
              exact hq _ _ h1 h2
            · intro c34
              have h1 := h1.2 c34
              have h2 := h2.2 c34
              refine cm_X11_isWord h1 h2 (fun x35 x36 h1 h2 g37 g38 => ?_)
              have h1 := h1 g37 g38
              have h2 := h2 g37 g38
              refine ⟨?_, ?_⟩
              · intro c39
                have h1 := h1.1 c39
                have h2 := h2.1 c39
                exact hq _ _ h1 h2
              · intro c40
                have h1 := h1.2 c40
                have h2 := h2.2 c40
                refine cm_X11_isWord h1 h2 (fun x41 x42 h1 h2 g43 g44 => ?_)
                have h1 := h1 g43 g44
                have h2 := h2 g43 g44
                refine ⟨?_, ?_⟩
                · intro c45
                  have h1 := h1.1 c45
                  have h2 := h2.1 c45
                  exact hq _ _ h1 h2
                · intro c46
                  have h1 := h1.2 c46
                  have h2 := h2.2 c46
                  refine cm_X11_isWord h1 h2 (fun x47 x48 h1 h2 g49 g50 => ?_)
                  have h1 := h1 g49 g50
                  have h2 := h2 g49 g50
                  refine ⟨?_, ?_⟩
                  · intro c51
                    have h1 := h1.1 c51
                    have h2 := h2.1 c51
                    exact hq _ _ h1 h2
                  · intro c52
                    have h1 := h1.2 c52
                    have h2 := h2.2 c52
                    refine cm_X11_isWord h1 h2 (fun x53 x54 h1 h2 g55 g56 => ?_)
                    have h1 := h1 g55 g56
                    have h2 := h2 g55 g56
                    refine ⟨?_, ?_⟩
                    · intro c57
                      have h1 := h1.1 c57
                      have h2 := h2.1 c57
                      exact hq _ _ h1 h2
                    · intro c58
                      have h1 := h1.2 c58
                      have h2 := h2.2 c58
                      exact hq _ _ h1 h2
          · intro c59
            have h1 := h1.2 c59
            have h2 := h2.2 c59
            exact hq _ _ h1 h2
theorem cm_X11_isName {Q1 Q2 Q3 : Int32 → HS → Prop} {v0 : Nat} {S : HS} (h1 : P_X11_isName v0 Q1 S) (h2 : P_X11_isName v0 Q2 S) (hq : ∀ (r : Int32) (T : HS), Q1 r T → Q2 r T → Q3 r T) : P_X11_isName v0 Q3 S := cm_X11_isName_0 h1 h2 hq
set_option maxRecDepth 20000 in
set_option maxHeartbeats 1000000 in
theorem cm_X11_known_47 {Q1 Q2 Q3 : Int32 → HS → Prop} {v0 : Nat} {v2 : Int32} {S : HS} (h1 : P_X11_known_47 Q1 v0 v2 S) (h2 : P_X11_known_47 Q2 v0 v2 S) (hq : ∀ (r : Int32) (T : HS), Q1 r T → Q2 r T → Q3 r T) : P_X11_known_47 Q3 v0 v2 S := by
  delta P_X11_known_47 at h1 h2 ⊢
  obtain ⟨c1, h1⟩ := h1
  obtain ⟨_, h2⟩ := h2
  refine ⟨c1, ?_⟩
  intro x3 e2
  have h1 := h1 x3 e2
  have h2 := h2 x3 e2
  refine ⟨?_, ?_⟩
  · intro c4
    have h1 := h1.1 c4
    have h2 := h2.1 c4
    obtain ⟨b5, e6, h1⟩ := h1
    obtain ⟨b7, e8, h2⟩ := h2
    cases e6.symm.trans e8
    refine ⟨b5, e6, ?_⟩
    obtain ⟨c9, h1⟩ := h1
    obtain ⟨_, h2⟩ := h2
    refine ⟨c9, ?_⟩
    obtain ⟨b10, e11, h1⟩ := h1
    obtain ⟨b12, e13, h2⟩ := h2
    cases e11.symm.trans e13
    refine ⟨b10, e11, ?_⟩
    obtain ⟨c14, h1⟩ := h1
    obtain ⟨_, h2⟩ := h2
    refine ⟨c14, ?_⟩
    obtain ⟨c15, h1⟩ := h1
    obtain ⟨_, h2⟩ := h2
    refine ⟨c15, ?_⟩
    intro x17 e16
    have h1 := h1 x17 e16
    have h2 := h2 x17 e16
    exact hq _ _ h1 h2
  · intro c18
    have h1 := h1.2 c18
    have h2 := h2.2 c18
    exact hq _ _ h1 h2
set_option maxRecDepth 20000 in
set_option maxHeartbeats 1000000 in
theorem cm_X11_known_42 {Q1 Q2 Q3 : Int32 → HS → Prop} {v0 : Nat} {v2 : Int32} {S : HS} (h1 : P_X11_known_42 Q1 v0 v2 S) (h2 : P_X11_known_42 Q2 v0 v2 S) (hq : ∀ (r : Int32) (T : HS), Q1 r T → Q2 r T → Q3 r T) : P_X11_known_42 Q3 v0 v2 S := by
  delta P_X11_known_42 at h1 h2 ⊢
  obtain ⟨c1, h1⟩ := h1
  obtain ⟨_, h2⟩ := h2
  refine ⟨c1, ?_⟩
  refine cm_X11_flaw h1 h2 (fun x2 h1 h2 g3 => ?_)
  have h1 := h1 g3
  have h2 := h2 g3
  exact cm_X11_known_47 h1 h2 hq
set_option maxRecDepth 20000 in
set_option maxHeartbeats 1000000 in
theorem cm_X11_known_12 {Q1 Q2 Q3 : Int32 → HS → Prop} {v0 : Nat} {v1 : Int32} {S : HS} (h1 : P_X11_known_12 Q1 v0 v1 S) (h2 : P_X11_known_12 Q2 v0 v1 S) (hq : ∀ (r : Int32) (T : HS), Q1 r T → Q2 r T → Q3 r T) : P_X11_known_12 Q3 v0 v1 S := by
  delta P_X11_known_12 at h1 h2 ⊢
  obtain ⟨c1, h1⟩ := h1
  obtain ⟨_, h2⟩ := h2
  refine ⟨c1, ?_⟩
  obtain ⟨b2, e3, h1⟩ := h1
  obtain ⟨b4, e5, h2⟩ := h2
  cases e3.symm.trans e5
  refine ⟨b2, e3, ?_⟩
  intro x7 e6
  have h1 := h1 x7 e6
  have h2 := h2 x7 e6
  obtain ⟨c8, h1⟩ := h1
  obtain ⟨_, h2⟩ := h2
  refine ⟨c8, ?_⟩
  refine cm_X10_find h1 h2 (fun x9 x10 h1 h2 g11 => ?_)
  have h1 := h1 g11
  have h2 := h2 g11
  refine ⟨?_, ?_⟩
  · intro c12
    have h1 := h1.1 c12
    have h2 := h2.1 c12
    exact cm_X11_known_42 h1 h2 hq
  · intro c13
    have h1 := h1.2 c13
    have h2 := h2.2 c13
    obtain ⟨b14, e15, h1⟩ := h1
    obtain ⟨b16, e17, h2⟩ := h2
    cases e15.symm.trans e17
    refine ⟨b14, e15, ?_⟩
    obtain ⟨c18, h1⟩ := h1
    obtain ⟨_, h2⟩ := h2
    refine ⟨c18, ?_⟩
    obtain ⟨b19, e20, h1⟩ := h1
    obtain ⟨b21, e22, h2⟩ := h2
    cases e20.symm.trans e22
    refine ⟨b19, e20, ?_⟩
    obtain ⟨c23, h1⟩ := h1
    obtain ⟨_, h2⟩ := h2
    refine ⟨c23, ?_⟩
    obtain ⟨c24, h1⟩ := h1
    obtain ⟨_, h2⟩ := h2
    refine ⟨c24, ?_⟩
    intro x26 e25
    have h1 := h1 x26 e25
    have h2 := h2 x26 e25
    refine ⟨?_, ?_⟩
    · intro c27
      have h1 := h1.1 c27
      have h2 := h2.1 c27
      exact cm_X11_known_47 h1 h2 hq
    · intro c28
      have h1 := h1.2 c28
      have h2 := h2.2 c28
      exact cm_X11_known_42 h1 h2 hq
set_option maxRecDepth 20000 in
set_option maxHeartbeats 1000000 in
theorem cm_X11_known_0 {Q1 Q2 Q3 : Int32 → HS → Prop} {v0 : Nat} {v1 : Int32} {S : HS} (h1 : P_X11_known_0 Q1 v0 v1 S) (h2 : P_X11_known_0 Q2 v0 v1 S) (hq : ∀ (r : Int32) (T : HS), Q1 r T → Q2 r T → Q3 r T) : P_X11_known_0 Q3 v0 v1 S := by
  delta P_X11_known_0 at h1 h2 ⊢
  obtain ⟨c1, h1⟩ := h1
  obtain ⟨_, h2⟩ := h2
  refine ⟨c1, ?_⟩
  refine cm_X11_isName h1 h2 (fun x2 x3 h1 h2 g4 g5 => ?_)
  have h1 := h1 g4 g5
  have h2 := h2 g4 g5
  refine ⟨?_, ?_⟩
  · intro c6
    have h1 := h1.1 c6
    have h2 := h2.1 c6
    exact cm_X11_known_12 h1 h2 hq
  · intro c7
    have h1 := h1.2 c7
    have h2 := h2.2 c7
    refine cm_X11_flaw h1 h2 (fun x8 h1 h2 g9 => ?_)
    have h1 := h1 g9
    have h2 := h2 g9
    exact cm_X11_known_12 h1 h2 hq
theorem cm_X11_known {Q1 Q2 Q3 : Int32 → HS → Prop} {v0 : Nat} {v1 : Int32} {S : HS} (h1 : P_X11_known v0 v1 Q1 S) (h2 : P_X11_known v0 v1 Q2 S) (hq : ∀ (r : Int32) (T : HS), Q1 r T → Q2 r T → Q3 r T) : P_X11_known v0 v1 Q3 S := cm_X11_known_0 h1 h2 hq
set_option maxRecDepth 20000 in
set_option maxHeartbeats 1000000 in
theorem cm_X11_spotOf_0 {Q1 Q2 Q3 : Int32 → HS → Prop} {v0 : Int32} {v1 : Int32} {S : HS} (h1 : P_X11_spotOf_0 Q1 v0 v1 S) (h2 : P_X11_spotOf_0 Q2 v0 v1 S) (hq : ∀ (r : Int32) (T : HS), Q1 r T → Q2 r T → Q3 r T) : P_X11_spotOf_0 Q3 v0 v1 S := by
  delta P_X11_spotOf_0 at h1 h2 ⊢
  exact hq _ _ h1 h2
theorem cm_X11_spotOf {Q1 Q2 Q3 : Int32 → HS → Prop} {v0 : Int32} {v1 : Int32} {S : HS} (h1 : P_X11_spotOf v0 v1 Q1 S) (h2 : P_X11_spotOf v0 v1 Q2 S) (hq : ∀ (r : Int32) (T : HS), Q1 r T → Q2 r T → Q3 r T) : P_X11_spotOf v0 v1 Q3 S := cm_X11_spotOf_0 h1 h2 hq
set_option maxRecDepth 20000 in
set_option maxHeartbeats 1000000 in
theorem cm_X11_meanOf_0 {Q1 Q2 Q3 : Int64 → HS → Prop} {v0 : Nat} {v1 : Int32} {v2 : Int32} {v3 : Int32} {v4 : Int32} {v5 : Int32} {S : HS} (h1 : P_X11_meanOf_0 Q1 v0 v1 v2 v3 v4 v5 S) (h2 : P_X11_meanOf_0 Q2 v0 v1 v2 v3 v4 v5 S) (hq : ∀ (r : Int64) (T : HS), Q1 r T → Q2 r T → Q3 r T) : P_X11_meanOf_0 Q3 v0 v1 v2 v3 v4 v5 S := by
  delta P_X11_meanOf_0 at h1 h2 ⊢
  obtain ⟨c1, h1⟩ := h1
  obtain ⟨_, h2⟩ := h2
  refine ⟨c1, ?_⟩
  refine cm_X11_hourOf h1 h2 (fun x2 x3 h1 h2 g4 => ?_)
  have h1 := h1 g4
  have h2 := h2 g4
  obtain ⟨b5, e6, h1⟩ := h1
  obtain ⟨b7, e8, h2⟩ := h2
  cases e6.symm.trans e8
  refine ⟨b5, e6, ?_⟩
  obtain ⟨c9, h1⟩ := h1
  obtain ⟨_, h2⟩ := h2
  refine ⟨c9, ?_⟩
  intro x11 e10
  have h1 := h1 x11 e10
  have h2 := h2 x11 e10
  refine ⟨?_, ?_⟩
  · intro c12
    have h1 := h1.1 c12
    have h2 := h2.1 c12
    exact hq _ _ h1 h2
  · intro c13
    have h1 := h1.2 c13
    have h2 := h2.2 c13
    refine cm_X11_wetOf h1 h2 (fun x14 x15 h1 h2 g16 => ?_)
    have h1 := h1 g16
    have h2 := h2 g16
    obtain ⟨b17, e18, h1⟩ := h1
    obtain ⟨b19, e20, h2⟩ := h2
    cases e18.symm.trans e20
    refine ⟨b17, e18, ?_⟩
    obtain ⟨c21, h1⟩ := h1
    obtain ⟨_, h2⟩ := h2
    refine ⟨c21, ?_⟩
    obtain ⟨b22, e23, h1⟩ := h1
    obtain ⟨b24, e25, h2⟩ := h2
    cases e23.symm.trans e25
    refine ⟨b22, e23, ?_⟩
    obtain ⟨c26, h1⟩ := h1
    obtain ⟨_, h2⟩ := h2
    refine ⟨c26, ?_⟩
    obtain ⟨c27, h1⟩ := h1
    obtain ⟨_, h2⟩ := h2
    refine ⟨c27, ?_⟩
    intro x29 e28
    have h1 := h1 x29 e28
    have h2 := h2 x29 e28
    exact hq _ _ h1 h2
theorem cm_X11_meanOf {Q1 Q2 Q3 : Int64 → HS → Prop} {v0 : Nat} {v1 : Int32} {v2 : Int32} {v3 : Int32} {v4 : Int32} {v5 : Int32} {S : HS} (h1 : P_X11_meanOf v0 v1 v2 v3 v4 v5 Q1 S) (h2 : P_X11_meanOf v0 v1 v2 v3 v4 v5 Q2 S) (hq : ∀ (r : Int64) (T : HS), Q1 r T → Q2 r T → Q3 r T) : P_X11_meanOf v0 v1 v2 v3 v4 v5 Q3 S := cm_X11_meanOf_0 h1 h2 hq
set_option maxRecDepth 20000 in
set_option maxHeartbeats 1000000 in
theorem cm_X11_takes_77 {Q1 Q2 Q3 : HS → Prop} {v0 : Nat} {v1 : Int32} {v2 : Int32} {v5 : Int32} {v6 : Int64} {S : HS} (h1 : P_X11_takes_77 Q1 v0 v1 v2 v5 v6 S) (h2 : P_X11_takes_77 Q2 v0 v1 v2 v5 v6 S) (hq : ∀ (T : HS), Q1 T → Q2 T → Q3 T) : P_X11_takes_77 Q3 v0 v1 v2 v5 v6 S := by
  delta P_X11_takes_77 at h1 h2 ⊢
  obtain ⟨c1, h1⟩ := h1
  obtain ⟨_, h2⟩ := h2
  refine ⟨c1, ?_⟩
  obtain ⟨b2, e3, h1⟩ := h1
  obtain ⟨b4, e5, h2⟩ := h2
  cases e3.symm.trans e5
  refine ⟨b2, e3, ?_⟩
  obtain ⟨c6, h1⟩ := h1
  obtain ⟨_, h2⟩ := h2
  refine ⟨c6, ?_⟩
  obtain ⟨c7, h1⟩ := h1
  obtain ⟨_, h2⟩ := h2
  refine ⟨c7, ?_⟩
  intro x9 e8
  have h1 := h1 x9 e8
  have h2 := h2 x9 e8
  obtain ⟨b10, e11, h1⟩ := h1
  obtain ⟨b12, e13, h2⟩ := h2
  cases e11.symm.trans e13
  refine ⟨b10, e11, ?_⟩
  obtain ⟨b14, e15, h1⟩ := h1
  obtain ⟨b16, e17, h2⟩ := h2
  cases e15.symm.trans e17
  refine ⟨b14, e15, ?_⟩
  obtain ⟨c18, h1⟩ := h1
  obtain ⟨_, h2⟩ := h2
  refine ⟨c18, ?_⟩
  obtain ⟨c19, h1⟩ := h1
  obtain ⟨_, h2⟩ := h2
  refine ⟨c19, ?_⟩
  intro x21 e20
  have h1 := h1 x21 e20
  have h2 := h2 x21 e20
  obtain ⟨c22, h1⟩ := h1
  obtain ⟨_, h2⟩ := h2
  refine ⟨c22, ?_⟩
  obtain ⟨c23, h1⟩ := h1
  obtain ⟨_, h2⟩ := h2
  refine ⟨c23, ?_⟩
  intro x25 e24
  have h1 := h1 x25 e24
  have h2 := h2 x25 e24
  obtain ⟨b26, e27, h1⟩ := h1
  obtain ⟨b28, e29, h2⟩ := h2
  cases e27.symm.trans e29
  refine ⟨b26, e27, ?_⟩
  obtain ⟨c30, h1⟩ := h1
  obtain ⟨_, h2⟩ := h2
  refine ⟨c30, ?_⟩
  obtain ⟨c31, h1⟩ := h1
  obtain ⟨_, h2⟩ := h2
  refine ⟨c31, ?_⟩
  intro x33 e32
  have h1 := h1 x33 e32
  have h2 := h2 x33 e32
  exact hq _ h1 h2
set_option maxRecDepth 20000 in
set_option maxHeartbeats 1000000 in
theorem cm_X11_takes_0 {Q1 Q2 Q3 : HS → Prop} {v0 : Nat} {v1 : Int32} {v2 : Int32} {v3 : Int64} {v5 : Int32} {S : HS} (h1 : P_X11_takes_0 Q1 v0 v1 v2 v3 v5 S) (h2 : P_X11_takes_0 Q2 v0 v1 v2 v3 v5 S) (hq : ∀ (T : HS), Q1 T → Q2 T → Q3 T) : P_X11_takes_0 Q3 v0 v1 v2 v3 v5 S := by
  delta P_X11_takes_0 at h1 h2 ⊢
  obtain ⟨c1, h1⟩ := h1
  obtain ⟨_, h2⟩ := h2
  refine ⟨c1, ?_⟩
  obtain ⟨b2, e3, h1⟩ := h1
  obtain ⟨b4, e5, h2⟩ := h2
  cases e3.symm.trans e5
  refine ⟨b2, e3, ?_⟩
  obtain ⟨c6, h1⟩ := h1
  obtain ⟨_, h2⟩ := h2
  refine ⟨c6, ?_⟩
  obtain ⟨c7, h1⟩ := h1
  obtain ⟨_, h2⟩ := h2
  refine ⟨c7, ?_⟩
  intro x9 e8
  have h1 := h1 x9 e8
  have h2 := h2 x9 e8
  refine ⟨?_, ?_⟩
  · intro c10
    have h1 := h1.1 c10
    have h2 := h2.1 c10
    obtain ⟨b11, e12, h1⟩ := h1
    obtain ⟨b13, e14, h2⟩ := h2
    cases e12.symm.trans e14
    refine ⟨b11, e12, ?_⟩
    obtain ⟨c15, h1⟩ := h1
    obtain ⟨_, h2⟩ := h2
    refine ⟨c15, ?_⟩
    obtain ⟨c16, h1⟩ := h1
    obtain ⟨_, h2⟩ := h2
    refine ⟨c16, ?_⟩
    intro x18 e17
    have h1 := h1 x18 e17
    have h2 := h2 x18 e17
    intro x20 e19
    have h1 := h1 x20 e19
    have h2 := h2 x20 e19
    obtain ⟨b21, e22, h1⟩ := h1
    obtain ⟨b23, e24, h2⟩ := h2
    cases e22.symm.trans e24
    refine ⟨b21, e22, ?_⟩
    obtain ⟨c25, h1⟩ := h1
    obtain ⟨_, h2⟩ := h2
    refine ⟨c25, ?_⟩
    obtain ⟨c26, h1⟩ := h1
    obtain ⟨_, h2⟩ := h2
    refine ⟨c26, ?_⟩
    intro x28 e27
    have h1 := h1 x28 e27
    have h2 := h2 x28 e27
    refine ⟨?_, ?_⟩
    · intro c29
      have h1 := h1.1 c29
      have h2 := h2.1 c29
      exact cm_X11_takes_77 h1 h2 hq
    · intro c30
      have h1 := h1.2 c30
      have h2 := h2.2 c30
      obtain ⟨b31, e32, h1⟩ := h1
      obtain ⟨b33, e34, h2⟩ := h2
      cases e32.symm.trans e34
      refine ⟨b31, e32, ?_⟩
      obtain ⟨c35, h1⟩ := h1
      obtain ⟨_, h2⟩ := h2
      refine ⟨c35, ?_⟩
      obtain ⟨c36, h1⟩ := h1
      obtain ⟨_, h2⟩ := h2
      refine ⟨c36, ?_⟩
      intro x38 e37
      have h1 := h1 x38 e37
      have h2 := h2 x38 e37
      refine ⟨?_, ?_⟩
      · intro c39
        have h1 := h1.1 c39
        have h2 := h2.1 c39
        exact hq _ h1 h2
      · intro c40
        have h1 := h1.2 c40
        have h2 := h2.2 c40
        obtain ⟨b41, e42, h1⟩ := h1
        obtain ⟨b43, e44, h2⟩ := h2
        cases e42.symm.trans e44
        refine ⟨b41, e42, ?_⟩
        obtain ⟨c45, h1⟩ := h1
        obtain ⟨_, h2⟩ := h2
        refine ⟨c45, ?_⟩
        obtain ⟨c46, h1⟩ := h1
        obtain ⟨_, h2⟩ := h2
        refine ⟨c46, ?_⟩
        intro x48 e47
        have h1 := h1 x48 e47
        have h2 := h2 x48 e47
        refine ⟨?_, ?_⟩
        · intro c49
          have h1 := h1.1 c49
          have h2 := h2.1 c49
          exact cm_X11_takes_77 h1 h2 hq
        · intro c50
          have h1 := h1.2 c50
          have h2 := h2.2 c50
          obtain ⟨b51, e52, h1⟩ := h1
          obtain ⟨b53, e54, h2⟩ := h2
          cases e52.symm.trans e54
          refine ⟨b51, e52, ?_⟩
          obtain ⟨c55, h1⟩ := h1
          obtain ⟨_, h2⟩ := h2
          refine ⟨c55, ?_⟩
          obtain ⟨c56, h1⟩ := h1
          obtain ⟨_, h2⟩ := h2
          refine ⟨c56, ?_⟩
          intro x58 e57
          have h1 := h1 x58 e57
          have h2 := h2 x58 e57
          obtain ⟨b59, e60, h1⟩ := h1
          obtain ⟨b61, e62, h2⟩ := h2
          cases e60.symm.trans e62
          refine ⟨b59, e60, ?_⟩
          obtain ⟨c63, h1⟩ := h1
          obtain ⟨_, h2⟩ := h2
          refine ⟨c63, ?_⟩
          obtain ⟨c64, h1⟩ := h1
          obtain ⟨_, h2⟩ := h2
          refine ⟨c64, ?_⟩
          intro x66 e65
          have h1 := h1 x66 e65
          have h2 := h2 x66 e65
          refine ⟨?_, ?_⟩
          · intro c67
            have h1 := h1.1 c67
            have h2 := h2.1 c67
            exact cm_X11_takes_77 h1 h2 hq
          · intro c68
            have h1 := h1.2 c68
            have h2 := h2.2 c68
            exact hq _ h1 h2
  · intro c69
    have h1 := h1.2 c69
    have h2 := h2.2 c69
    exact hq _ h1 h2
theorem cm_X11_takes {Q1 Q2 Q3 : HS → Prop} {v0 : Nat} {v1 : Int32} {v2 : Int32} {v3 : Int64} {v5 : Int32} {S : HS} (h1 : P_X11_takes v0 v1 v2 v3 v5 Q1 S) (h2 : P_X11_takes v0 v1 v2 v3 v5 Q2 S) (hq : ∀ (T : HS), Q1 T → Q2 T → Q3 T) : P_X11_takes v0 v1 v2 v3 v5 Q3 S := cm_X11_takes_0 h1 h2 hq
set_option maxRecDepth 20000 in
set_option maxHeartbeats 1000000 in
theorem cm_X11_waitsOf_0 {Q1 Q2 Q3 : Int64 → HS → Prop} {v0 : Nat} {v1 : Int32} {v2 : Int32} {v3 : Int32} {S : HS} (h1 : P_X11_waitsOf_0 Q1 v0 v1 v2 v3 S) (h2 : P_X11_waitsOf_0 Q2 v0 v1 v2 v3 S) (hq : ∀ (r : Int64) (T : HS), Q1 r T → Q2 r T → Q3 r T) : P_X11_waitsOf_0 Q3 v0 v1 v2 v3 S := by
  delta P_X11_waitsOf_0 at h1 h2 ⊢
  obtain ⟨c1, h1⟩ := h1
  obtain ⟨_, h2⟩ := h2
  refine ⟨c1, ?_⟩
  refine cm_X11_hourOf h1 h2 (fun x2 x3 h1 h2 g4 => ?_)
  have h1 := h1 g4
  have h2 := h2 g4
  obtain ⟨b5, e6, h1⟩ := h1
  obtain ⟨b7, e8, h2⟩ := h2
  cases e6.symm.trans e8
  refine ⟨b5, e6, ?_⟩
  obtain ⟨c9, h1⟩ := h1
  obtain ⟨_, h2⟩ := h2
  refine ⟨c9, ?_⟩
  obtain ⟨b10, e11, h1⟩ := h1
  obtain ⟨b12, e13, h2⟩ := h2
  cases e11.symm.trans e13
  refine ⟨b10, e11, ?_⟩
  obtain ⟨c14, h1⟩ := h1
  obtain ⟨_, h2⟩ := h2
  refine ⟨c14, ?_⟩
  obtain ⟨c15, h1⟩ := h1
  obtain ⟨_, h2⟩ := h2
  refine ⟨c15, ?_⟩
  intro x17 e16
  have h1 := h1 x17 e16
  have h2 := h2 x17 e16
  refine ⟨?_, ?_⟩
  · intro c18
    have h1 := h1.1 c18
    have h2 := h2.1 c18
    exact hq _ _ h1 h2
  · intro c19
    have h1 := h1.2 c19
    have h2 := h2.2 c19
    obtain ⟨b20, e21, h1⟩ := h1
    obtain ⟨b22, e23, h2⟩ := h2
    cases e21.symm.trans e23
    refine ⟨b20, e21, ?_⟩
    obtain ⟨c24, h1⟩ := h1
    obtain ⟨_, h2⟩ := h2
    refine ⟨c24, ?_⟩
    intro x26 e25
    have h1 := h1 x26 e25
    have h2 := h2 x26 e25
    refine ⟨?_, ?_⟩
    · intro c27
      have h1 := h1.1 c27
      have h2 := h2.1 c27
      refine cm_X11_drips h1 h2 (fun x28 x29 h1 h2 g30 => ?_)
      have h1 := h1 g30
      have h2 := h2 g30
      obtain ⟨b31, e32, h1⟩ := h1
      obtain ⟨b33, e34, h2⟩ := h2
      cases e32.symm.trans e34
      refine ⟨b31, e32, ?_⟩
      obtain ⟨c35, h1⟩ := h1
      obtain ⟨_, h2⟩ := h2
      refine ⟨c35, ?_⟩
      obtain ⟨b36, e37, h1⟩ := h1
      obtain ⟨b38, e39, h2⟩ := h2
      cases e37.symm.trans e39
      refine ⟨b36, e37, ?_⟩
      obtain ⟨c40, h1⟩ := h1
      obtain ⟨_, h2⟩ := h2
      refine ⟨c40, ?_⟩
      obtain ⟨c41, h1⟩ := h1
      obtain ⟨_, h2⟩ := h2
      refine ⟨c41, ?_⟩
      intro x43 e42
      have h1 := h1 x43 e42
      have h2 := h2 x43 e42
      exact hq _ _ h1 h2
    · intro c44
      have h1 := h1.2 c44
      have h2 := h2.2 c44
      exact hq _ _ h1 h2
theorem cm_X11_waitsOf {Q1 Q2 Q3 : Int64 → HS → Prop} {v0 : Nat} {v1 : Int32} {v2 : Int32} {v3 : Int32} {S : HS} (h1 : P_X11_waitsOf v0 v1 v2 v3 Q1 S) (h2 : P_X11_waitsOf v0 v1 v2 v3 Q2 S) (hq : ∀ (r : Int64) (T : HS), Q1 r T → Q2 r T → Q3 r T) : P_X11_waitsOf v0 v1 v2 v3 Q3 S := cm_X11_waitsOf_0 h1 h2 hq
set_option maxRecDepth 20000 in
set_option maxHeartbeats 1000000 in
theorem cm_X11_tries_140 {Q1 Q2 Q3 : HS → Prop} {X3_1 X3_2 X3_3 : Nat → Int32 → Int32 → Int32 → Int32 → Int32 → HS → Prop} {X18_1 X18_2 X18_3 : Nat → Int32 → Int32 → Int32 → Int32 → Int32 → Int32 → HS → Prop} {X53_1 X53_2 X53_3 : Nat → Int32 → Int32 → Int32 → Int32 → Int32 → Int32 → Int32 → HS → Prop} {v0 : Nat} {v1 : Int32} {v2 : Int32} {v3 : Int32} {v4 : Int32} {v5 : Int32} {v6 : Int32} {v7 : Int32} {S : HS} (h1 : P_X11_tries_140 Q1 X3_1 X18_1 X53_1 v0 v1 v2 v3 v4 v5 v6 v7 S) (h2 : P_X11_tries_140 Q2 X3_2 X18_2 X53_2 v0 v1 v2 v3 v4 v5 v6 v7 S) (hq : ∀ (T : HS), Q1 T → Q2 T → Q3 T) (hX3 : ∀ (u0 : Nat) (u1 : Int32) (u2 : Int32) (u3 : Int32) (u4 : Int32) (u5 : Int32) (u6 : HS), X3_1 u0 u1 u2 u3 u4 u5 u6 → X3_2 u0 u1 u2 u3 u4 u5 u6 → X3_3 u0 u1 u2 u3 u4 u5 u6) (hX18 : ∀ (u0 : Nat) (u1 : Int32) (u2 : Int32) (u3 : Int32) (u4 : Int32) (u5 : Int32) (u6 : Int32) (u7 : HS), X18_1 u0 u1 u2 u3 u4 u5 u6 u7 → X18_2 u0 u1 u2 u3 u4 u5 u6 u7 → X18_3 u0 u1 u2 u3 u4 u5 u6 u7) (hX53 : ∀ (u0 : Nat) (u1 : Int32) (u2 : Int32) (u3 : Int32) (u4 : Int32) (u5 : Int32) (u6 : Int32) (u7 : Int32) (u8 : HS), X53_1 u0 u1 u2 u3 u4 u5 u6 u7 u8 → X53_2 u0 u1 u2 u3 u4 u5 u6 u7 u8 → X53_3 u0 u1 u2 u3 u4 u5 u6 u7 u8) : P_X11_tries_140 Q3 X3_3 X18_3 X53_3 v0 v1 v2 v3 v4 v5 v6 v7 S := by
  delta P_X11_tries_140 at h1 h2 ⊢
  intro x2 e1
  have h1 := h1 x2 e1
  have h2 := h2 x2 e1
  exact hX53 _ _ _ _ _ _ _ _ _ h1 h2
set_option maxRecDepth 20000 in
set_option maxHeartbeats 1000000 in
theorem cm_X11_tries_146 {Q1 Q2 Q3 : HS → Prop} {X3_1 X3_2 X3_3 : Nat → Int32 → Int32 → Int32 → Int32 → Int32 → HS → Prop} {X18_1 X18_2 X18_3 : Nat → Int32 → Int32 → Int32 → Int32 → Int32 → Int32 → HS → Prop} {v0 : Nat} {v1 : Int32} {v2 : Int32} {v3 : Int32} {v4 : Int32} {v5 : Int32} {v6 : Int32} {S : HS} (h1 : P_X11_tries_146 Q1 X3_1 X18_1 v0 v1 v2 v3 v4 v5 v6 S) (h2 : P_X11_tries_146 Q2 X3_2 X18_2 v0 v1 v2 v3 v4 v5 v6 S) (hq : ∀ (T : HS), Q1 T → Q2 T → Q3 T) (hX3 : ∀ (u0 : Nat) (u1 : Int32) (u2 : Int32) (u3 : Int32) (u4 : Int32) (u5 : Int32) (u6 : HS), X3_1 u0 u1 u2 u3 u4 u5 u6 → X3_2 u0 u1 u2 u3 u4 u5 u6 → X3_3 u0 u1 u2 u3 u4 u5 u6) (hX18 : ∀ (u0 : Nat) (u1 : Int32) (u2 : Int32) (u3 : Int32) (u4 : Int32) (u5 : Int32) (u6 : Int32) (u7 : HS), X18_1 u0 u1 u2 u3 u4 u5 u6 u7 → X18_2 u0 u1 u2 u3 u4 u5 u6 u7 → X18_3 u0 u1 u2 u3 u4 u5 u6 u7) : P_X11_tries_146 Q3 X3_3 X18_3 v0 v1 v2 v3 v4 v5 v6 S := by
  delta P_X11_tries_146 at h1 h2 ⊢
  intro x2 e1
  have h1 := h1 x2 e1
  have h2 := h2 x2 e1
  exact hX18 _ _ _ _ _ _ _ _ h1 h2
set_option maxRecDepth 20000 in
set_option maxHeartbeats 1000000 in
theorem cmB_X11_tries_53 {Q1 Q2 Q3 : HS → Prop} {X3_1 X3_2 X3_3 : Nat → Int32 → Int32 → Int32 → Int32 → Int32 → HS → Prop} {X18_1 X18_2 X18_3 : Nat → Int32 → Int32 → Int32 → Int32 → Int32 → Int32 → HS → Prop} {X53_1 X53_2 X53_3 : Nat → Int32 → Int32 → Int32 → Int32 → Int32 → Int32 → Int32 → HS → Prop} {v0 : Nat} {v1 : Int32} {v2 : Int32} {v3 : Int32} {v4 : Int32} {v5 : Int32} {v6 : Int32} {v7 : Int32} {S : HS} (h1 : B_X11_tries_53 Q1 X3_1 X18_1 X53_1 v0 v1 v2 v3 v4 v5 v6 v7 S) (h2 : B_X11_tries_53 Q2 X3_2 X18_2 X53_2 v0 v1 v2 v3 v4 v5 v6 v7 S) (hq : ∀ (T : HS), Q1 T → Q2 T → Q3 T) (hX3 : ∀ (u0 : Nat) (u1 : Int32) (u2 : Int32) (u3 : Int32) (u4 : Int32) (u5 : Int32) (u6 : HS), X3_1 u0 u1 u2 u3 u4 u5 u6 → X3_2 u0 u1 u2 u3 u4 u5 u6 → X3_3 u0 u1 u2 u3 u4 u5 u6) (hX18 : ∀ (u0 : Nat) (u1 : Int32) (u2 : Int32) (u3 : Int32) (u4 : Int32) (u5 : Int32) (u6 : Int32) (u7 : HS), X18_1 u0 u1 u2 u3 u4 u5 u6 u7 → X18_2 u0 u1 u2 u3 u4 u5 u6 u7 → X18_3 u0 u1 u2 u3 u4 u5 u6 u7) (hX53 : ∀ (u0 : Nat) (u1 : Int32) (u2 : Int32) (u3 : Int32) (u4 : Int32) (u5 : Int32) (u6 : Int32) (u7 : Int32) (u8 : HS), X53_1 u0 u1 u2 u3 u4 u5 u6 u7 u8 → X53_2 u0 u1 u2 u3 u4 u5 u6 u7 u8 → X53_3 u0 u1 u2 u3 u4 u5 u6 u7 u8) : B_X11_tries_53 Q3 X3_3 X18_3 X53_3 v0 v1 v2 v3 v4 v5 v6 v7 S := by
  delta B_X11_tries_53 at h1 h2 ⊢
  obtain ⟨c1, h1⟩ := h1
  obtain ⟨_, h2⟩ := h2
  refine ⟨c1, ?_⟩
  obtain ⟨b2, e3, h1⟩ := h1
  obtain ⟨b4, e5, h2⟩ := h2
  cases e3.symm.trans e5
  refine ⟨b2, e3, ?_⟩
  obtain ⟨c6, h1⟩ := h1
  obtain ⟨_, h2⟩ := h2
  refine ⟨c6, ?_⟩
  obtain ⟨b7, e8, h1⟩ := h1
  obtain ⟨b9, e10, h2⟩ := h2
  cases e8.symm.trans e10
  refine ⟨b7, e8, ?_⟩
  obtain ⟨c11, h1⟩ := h1
  obtain ⟨_, h2⟩ := h2
  refine ⟨c11, ?_⟩
  obtain ⟨c12, h1⟩ := h1
  obtain ⟨_, h2⟩ := h2
  refine ⟨c12, ?_⟩
  intro x14 e13
  have h1 := h1 x14 e13
  have h2 := h2 x14 e13
  refine ⟨?_, ?_⟩
  · intro c15
    have h1 := h1.1 c15
    have h2 := h2.1 c15
    exact cm_X11_tries_146 h1 h2 hq hX3 hX18
  · intro c16
    have h1 := h1.2 c16
    have h2 := h2.2 c16
    obtain ⟨b17, e18, h1⟩ := h1
    obtain ⟨b19, e20, h2⟩ := h2
    cases e18.symm.trans e20
    refine ⟨b17, e18, ?_⟩
    obtain ⟨c21, h1⟩ := h1
    obtain ⟨_, h2⟩ := h2
    refine ⟨c21, ?_⟩
    refine cm_X10_minutes h1 h2 (fun x22 x23 h1 h2 g24 => ?_)
    have h1 := h1 g24
    have h2 := h2 g24
    intro x26 e25
    have h1 := h1 x26 e25
    have h2 := h2 x26 e25
    refine ⟨?_, ?_⟩
    · intro c27
      have h1 := h1.1 c27
      have h2 := h2.1 c27
      exact cm_X11_tries_140 h1 h2 hq hX3 hX18 hX53
    · intro c28
      have h1 := h1.2 c28
      have h2 := h2.2 c28
      refine cm_X11_spotOf h1 h2 (fun x29 x30 h1 h2 g31 => ?_)
      have h1 := h1 g31
      have h2 := h2 g31
      obtain ⟨b32, e33, h1⟩ := h1
      obtain ⟨b34, e35, h2⟩ := h2
      cases e33.symm.trans e35
      refine ⟨b32, e33, ?_⟩
      obtain ⟨c36, h1⟩ := h1
      obtain ⟨_, h2⟩ := h2
      refine ⟨c36, ?_⟩
      refine cm_X10_ends h1 h2 (fun x37 x38 h1 h2 g39 => ?_)
      have h1 := h1 g39
      have h2 := h2 g39
      refine cm_X11_spotOf h1 h2 (fun x40 x41 h1 h2 g42 => ?_)
      have h1 := h1 g42
      have h2 := h2 g42
      refine cm_X11_meanOf h1 h2 (fun x43 x44 h1 h2 g45 => ?_)
      have h1 := h1 g45
      have h2 := h2 g45
      refine cm_X11_takes h1 h2 (fun x46 h1 h2 g47 => ?_)
      have h1 := h1 g47
      have h2 := h2 g47
      exact cm_X11_tries_140 h1 h2 hq hX3 hX18 hX53
theorem fd_X11_tries_53 {Q : HS → Prop} {X3 : Nat → Int32 → Int32 → Int32 → Int32 → Int32 → HS → Prop} {X18 : Nat → Int32 → Int32 → Int32 → Int32 → Int32 → Int32 → HS → Prop} {v0 : Nat} {v1 : Int32} {v2 : Int32} {v3 : Int32} {v4 : Int32} {v5 : Int32} {v6 : Int32} {v7 : Int32} {S : HS} (h : B_X11_tries_53 Q X3 X18 (P_X11_tries_53 Q X3 X18) v0 v1 v2 v3 v4 v5 v6 v7 S) : P_X11_tries_53 Q X3 X18 v0 v1 v2 v3 v4 v5 v6 v7 S := fun X hX => hX v0 v1 v2 v3 v4 v5 v6 v7 S (cmB_X11_tries_53 h h (fun _ a _ => a) (fun _ _ _ _ _ _ _ a _ => a) (fun _ _ _ _ _ _ _ _ a _ => a) (fun _ _ _ _ _ _ _ _ _ hp _ => hp X hX))
theorem uf_X11_tries_53 {Q : HS → Prop} {X3 : Nat → Int32 → Int32 → Int32 → Int32 → Int32 → HS → Prop} {X18 : Nat → Int32 → Int32 → Int32 → Int32 → Int32 → Int32 → HS → Prop} {v0 : Nat} {v1 : Int32} {v2 : Int32} {v3 : Int32} {v4 : Int32} {v5 : Int32} {v6 : Int32} {v7 : Int32} {S : HS} (h : P_X11_tries_53 Q X3 X18 v0 v1 v2 v3 v4 v5 v6 v7 S) : B_X11_tries_53 Q X3 X18 (P_X11_tries_53 Q X3 X18) v0 v1 v2 v3 v4 v5 v6 v7 S := h (fun v0 v1 v2 v3 v4 v5 v6 v7 S => B_X11_tries_53 Q X3 X18 (P_X11_tries_53 Q X3 X18) v0 v1 v2 v3 v4 v5 v6 v7 S) (fun v0 v1 v2 v3 v4 v5 v6 v7 S hB => cmB_X11_tries_53 hB hB (fun _ a _ => a) (fun _ _ _ _ _ _ _ a _ => a) (fun _ _ _ _ _ _ _ _ a _ => a) (fun _ _ _ _ _ _ _ _ _ hb _ => fd_X11_tries_53 hb))
theorem cm_X11_tries_53 {Q1 Q2 Q3 : HS → Prop} {X3_1 X3_2 X3_3 : Nat → Int32 → Int32 → Int32 → Int32 → Int32 → HS → Prop} {X18_1 X18_2 X18_3 : Nat → Int32 → Int32 → Int32 → Int32 → Int32 → Int32 → HS → Prop} {v0 : Nat} {v1 : Int32} {v2 : Int32} {v3 : Int32} {v4 : Int32} {v5 : Int32} {v6 : Int32} {v7 : Int32} {S : HS} (h1 : P_X11_tries_53 Q1 X3_1 X18_1 v0 v1 v2 v3 v4 v5 v6 v7 S) (h2 : P_X11_tries_53 Q2 X3_2 X18_2 v0 v1 v2 v3 v4 v5 v6 v7 S) (hq : ∀ (T : HS), Q1 T → Q2 T → Q3 T) (hX3 : ∀ (u0 : Nat) (u1 : Int32) (u2 : Int32) (u3 : Int32) (u4 : Int32) (u5 : Int32) (u6 : HS), X3_1 u0 u1 u2 u3 u4 u5 u6 → X3_2 u0 u1 u2 u3 u4 u5 u6 → X3_3 u0 u1 u2 u3 u4 u5 u6) (hX18 : ∀ (u0 : Nat) (u1 : Int32) (u2 : Int32) (u3 : Int32) (u4 : Int32) (u5 : Int32) (u6 : Int32) (u7 : HS), X18_1 u0 u1 u2 u3 u4 u5 u6 u7 → X18_2 u0 u1 u2 u3 u4 u5 u6 u7 → X18_3 u0 u1 u2 u3 u4 u5 u6 u7) : P_X11_tries_53 Q3 X3_3 X18_3 v0 v1 v2 v3 v4 v5 v6 v7 S := h1 (fun v0 v1 v2 v3 v4 v5 v6 v7 S => P_X11_tries_53 Q2 X3_2 X18_2 v0 v1 v2 v3 v4 v5 v6 v7 S → P_X11_tries_53 Q3 X3_3 X18_3 v0 v1 v2 v3 v4 v5 v6 v7 S) (fun v0 v1 v2 v3 v4 v5 v6 v7 S hB hp => fd_X11_tries_53 (cmB_X11_tries_53 hB (uf_X11_tries_53 hp) hq hX3 hX18 (fun _ _ _ _ _ _ _ _ _ hx hp => hx hp))) h2
set_option maxRecDepth 20000 in
set_option maxHeartbeats 1000000 in
theorem cmB_X11_tries_18 {Q1 Q2 Q3 : HS → Prop} {X3_1 X3_2 X3_3 : Nat → Int32 → Int32 → Int32 → Int32 → Int32 → HS → Prop} {X18_1 X18_2 X18_3 : Nat → Int32 → Int32 → Int32 → Int32 → Int32 → Int32 → HS → Prop} {v0 : Nat} {v1 : Int32} {v2 : Int32} {v3 : Int32} {v4 : Int32} {v5 : Int32} {v6 : Int32} {S : HS} (h1 : B_X11_tries_18 Q1 X3_1 X18_1 v0 v1 v2 v3 v4 v5 v6 S) (h2 : B_X11_tries_18 Q2 X3_2 X18_2 v0 v1 v2 v3 v4 v5 v6 S) (hq : ∀ (T : HS), Q1 T → Q2 T → Q3 T) (hX3 : ∀ (u0 : Nat) (u1 : Int32) (u2 : Int32) (u3 : Int32) (u4 : Int32) (u5 : Int32) (u6 : HS), X3_1 u0 u1 u2 u3 u4 u5 u6 → X3_2 u0 u1 u2 u3 u4 u5 u6 → X3_3 u0 u1 u2 u3 u4 u5 u6) (hX18 : ∀ (u0 : Nat) (u1 : Int32) (u2 : Int32) (u3 : Int32) (u4 : Int32) (u5 : Int32) (u6 : Int32) (u7 : HS), X18_1 u0 u1 u2 u3 u4 u5 u6 u7 → X18_2 u0 u1 u2 u3 u4 u5 u6 u7 → X18_3 u0 u1 u2 u3 u4 u5 u6 u7) : B_X11_tries_18 Q3 X3_3 X18_3 v0 v1 v2 v3 v4 v5 v6 S := by
  delta B_X11_tries_18 at h1 h2 ⊢
  refine ⟨?_, ?_⟩
  · intro c1
    have h1 := h1.1 c1
    have h2 := h2.1 c1
    intro x3 e2
    have h1 := h1 x3 e2
    have h2 := h2 x3 e2
    exact hX3 _ _ _ _ _ _ _ h1 h2
  · intro c4
    have h1 := h1.2 c4
    have h2 := h2.2 c4
    obtain ⟨c5, h1⟩ := h1
    obtain ⟨_, h2⟩ := h2
    refine ⟨c5, ?_⟩
    obtain ⟨b6, e7, h1⟩ := h1
    obtain ⟨b8, e9, h2⟩ := h2
    cases e7.symm.trans e9
    refine ⟨b6, e7, ?_⟩
    obtain ⟨c10, h1⟩ := h1
    obtain ⟨_, h2⟩ := h2
    refine ⟨c10, ?_⟩
    refine cm_X10_begins h1 h2 (fun x11 x12 h1 h2 g13 => ?_)
    have h1 := h1 g13
    have h2 := h2 g13
    refine ⟨?_, ?_⟩
    · intro c14
      have h1 := h1.1 c14
      have h2 := h2.1 c14
      obtain ⟨b15, e16, h1⟩ := h1
      obtain ⟨b17, e18, h2⟩ := h2
      cases e16.symm.trans e18
      refine ⟨b15, e16, ?_⟩
      obtain ⟨c19, h1⟩ := h1
      obtain ⟨_, h2⟩ := h2
      refine ⟨c19, ?_⟩
      obtain ⟨b20, e21, h1⟩ := h1
      obtain ⟨b22, e23, h2⟩ := h2
      cases e21.symm.trans e23
      refine ⟨b20, e21, ?_⟩
      obtain ⟨c24, h1⟩ := h1
      obtain ⟨_, h2⟩ := h2
      refine ⟨c24, ?_⟩
      obtain ⟨c25, h1⟩ := h1
      obtain ⟨_, h2⟩ := h2
      refine ⟨c25, ?_⟩
      intro x27 e26
      have h1 := h1 x27 e26
      have h2 := h2 x27 e26
      exact cm_X11_tries_53 h1 h2 hq hX3 hX18
    · intro c28
      have h1 := h1.2 c28
      have h2 := h2.2 c28
      exact cm_X11_tries_146 h1 h2 hq hX3 hX18
theorem fd_X11_tries_18 {Q : HS → Prop} {X3 : Nat → Int32 → Int32 → Int32 → Int32 → Int32 → HS → Prop} {v0 : Nat} {v1 : Int32} {v2 : Int32} {v3 : Int32} {v4 : Int32} {v5 : Int32} {v6 : Int32} {S : HS} (h : B_X11_tries_18 Q X3 (P_X11_tries_18 Q X3) v0 v1 v2 v3 v4 v5 v6 S) : P_X11_tries_18 Q X3 v0 v1 v2 v3 v4 v5 v6 S := fun X hX => hX v0 v1 v2 v3 v4 v5 v6 S (cmB_X11_tries_18 h h (fun _ a _ => a) (fun _ _ _ _ _ _ _ a _ => a) (fun _ _ _ _ _ _ _ _ hp _ => hp X hX))
theorem uf_X11_tries_18 {Q : HS → Prop} {X3 : Nat → Int32 → Int32 → Int32 → Int32 → Int32 → HS → Prop} {v0 : Nat} {v1 : Int32} {v2 : Int32} {v3 : Int32} {v4 : Int32} {v5 : Int32} {v6 : Int32} {S : HS} (h : P_X11_tries_18 Q X3 v0 v1 v2 v3 v4 v5 v6 S) : B_X11_tries_18 Q X3 (P_X11_tries_18 Q X3) v0 v1 v2 v3 v4 v5 v6 S := h (fun v0 v1 v2 v3 v4 v5 v6 S => B_X11_tries_18 Q X3 (P_X11_tries_18 Q X3) v0 v1 v2 v3 v4 v5 v6 S) (fun v0 v1 v2 v3 v4 v5 v6 S hB => cmB_X11_tries_18 hB hB (fun _ a _ => a) (fun _ _ _ _ _ _ _ a _ => a) (fun _ _ _ _ _ _ _ _ hb _ => fd_X11_tries_18 hb))
theorem cm_X11_tries_18 {Q1 Q2 Q3 : HS → Prop} {X3_1 X3_2 X3_3 : Nat → Int32 → Int32 → Int32 → Int32 → Int32 → HS → Prop} {v0 : Nat} {v1 : Int32} {v2 : Int32} {v3 : Int32} {v4 : Int32} {v5 : Int32} {v6 : Int32} {S : HS} (h1 : P_X11_tries_18 Q1 X3_1 v0 v1 v2 v3 v4 v5 v6 S) (h2 : P_X11_tries_18 Q2 X3_2 v0 v1 v2 v3 v4 v5 v6 S) (hq : ∀ (T : HS), Q1 T → Q2 T → Q3 T) (hX3 : ∀ (u0 : Nat) (u1 : Int32) (u2 : Int32) (u3 : Int32) (u4 : Int32) (u5 : Int32) (u6 : HS), X3_1 u0 u1 u2 u3 u4 u5 u6 → X3_2 u0 u1 u2 u3 u4 u5 u6 → X3_3 u0 u1 u2 u3 u4 u5 u6) : P_X11_tries_18 Q3 X3_3 v0 v1 v2 v3 v4 v5 v6 S := h1 (fun v0 v1 v2 v3 v4 v5 v6 S => P_X11_tries_18 Q2 X3_2 v0 v1 v2 v3 v4 v5 v6 S → P_X11_tries_18 Q3 X3_3 v0 v1 v2 v3 v4 v5 v6 S) (fun v0 v1 v2 v3 v4 v5 v6 S hB hp => fd_X11_tries_18 (cmB_X11_tries_18 hB (uf_X11_tries_18 hp) hq hX3 (fun _ _ _ _ _ _ _ _ hx hp => hx hp))) h2
set_option maxRecDepth 20000 in
set_option maxHeartbeats 1000000 in
theorem cmB_X11_tries_3 {Q1 Q2 Q3 : HS → Prop} {X3_1 X3_2 X3_3 : Nat → Int32 → Int32 → Int32 → Int32 → Int32 → HS → Prop} {v0 : Nat} {v1 : Int32} {v2 : Int32} {v3 : Int32} {v4 : Int32} {v5 : Int32} {S : HS} (h1 : B_X11_tries_3 Q1 X3_1 v0 v1 v2 v3 v4 v5 S) (h2 : B_X11_tries_3 Q2 X3_2 v0 v1 v2 v3 v4 v5 S) (hq : ∀ (T : HS), Q1 T → Q2 T → Q3 T) (hX3 : ∀ (u0 : Nat) (u1 : Int32) (u2 : Int32) (u3 : Int32) (u4 : Int32) (u5 : Int32) (u6 : HS), X3_1 u0 u1 u2 u3 u4 u5 u6 → X3_2 u0 u1 u2 u3 u4 u5 u6 → X3_3 u0 u1 u2 u3 u4 u5 u6) : B_X11_tries_3 Q3 X3_3 v0 v1 v2 v3 v4 v5 S := by
  delta B_X11_tries_3 at h1 h2 ⊢
  obtain ⟨c1, h1⟩ := h1
  obtain ⟨_, h2⟩ := h2
  refine ⟨c1, ?_⟩
  obtain ⟨b2, e3, h1⟩ := h1
  obtain ⟨b4, e5, h2⟩ := h2
  cases e3.symm.trans e5
  refine ⟨b2, e3, ?_⟩
  obtain ⟨c6, h1⟩ := h1
  obtain ⟨_, h2⟩ := h2
  refine ⟨c6, ?_⟩
  intro x8 e7
  have h1 := h1 x8 e7
  have h2 := h2 x8 e7
  refine ⟨?_, ?_⟩
  · intro c9
    have h1 := h1.1 c9
    have h2 := h2.1 c9
    refine cm_X11_canWait h1 h2 (fun x10 x11 h1 h2 g12 g13 => ?_)
    have h1 := h1 g12 g13
    have h2 := h2 g12 g13
    refine ⟨?_, ?_⟩
    · intro c14
      have h1 := h1.1 c14
      have h2 := h2.1 c14
      exact hq _ h1 h2
    · intro c15
      have h1 := h1.2 c15
      have h2 := h2.2 c15
      refine ⟨?_, ?_⟩
      · intro c16
        have h1 := h1.1 c16
        have h2 := h2.1 c16
        exact hq _ h1 h2
      · intro c17
        have h1 := h1.2 c17
        have h2 := h2.2 c17
        refine cm_X11_spotOf h1 h2 (fun x18 x19 h1 h2 g20 => ?_)
        have h1 := h1 g20
        have h2 := h2 g20
        refine cm_X11_spotOf h1 h2 (fun x21 x22 h1 h2 g23 => ?_)
        have h1 := h1 g23
        have h2 := h2 g23
        refine cm_X11_waitsOf h1 h2 (fun x24 x25 h1 h2 g26 => ?_)
        have h1 := h1 g26
        have h2 := h2 g26
        refine cm_X11_takes h1 h2 (fun x27 h1 h2 g28 => ?_)
        have h1 := h1 g28
        have h2 := h2 g28
        exact hq _ h1 h2
  · intro c29
    have h1 := h1.2 c29
    have h2 := h2.2 c29
    exact cm_X11_tries_18 h1 h2 hq hX3
theorem fd_X11_tries_3 {Q : HS → Prop} {v0 : Nat} {v1 : Int32} {v2 : Int32} {v3 : Int32} {v4 : Int32} {v5 : Int32} {S : HS} (h : B_X11_tries_3 Q (P_X11_tries_3 Q) v0 v1 v2 v3 v4 v5 S) : P_X11_tries_3 Q v0 v1 v2 v3 v4 v5 S := fun X hX => hX v0 v1 v2 v3 v4 v5 S (cmB_X11_tries_3 h h (fun _ a _ => a) (fun _ _ _ _ _ _ _ hp _ => hp X hX))
theorem uf_X11_tries_3 {Q : HS → Prop} {v0 : Nat} {v1 : Int32} {v2 : Int32} {v3 : Int32} {v4 : Int32} {v5 : Int32} {S : HS} (h : P_X11_tries_3 Q v0 v1 v2 v3 v4 v5 S) : B_X11_tries_3 Q (P_X11_tries_3 Q) v0 v1 v2 v3 v4 v5 S := h (fun v0 v1 v2 v3 v4 v5 S => B_X11_tries_3 Q (P_X11_tries_3 Q) v0 v1 v2 v3 v4 v5 S) (fun v0 v1 v2 v3 v4 v5 S hB => cmB_X11_tries_3 hB hB (fun _ a _ => a) (fun _ _ _ _ _ _ _ hb _ => fd_X11_tries_3 hb))
theorem cm_X11_tries_3 {Q1 Q2 Q3 : HS → Prop} {v0 : Nat} {v1 : Int32} {v2 : Int32} {v3 : Int32} {v4 : Int32} {v5 : Int32} {S : HS} (h1 : P_X11_tries_3 Q1 v0 v1 v2 v3 v4 v5 S) (h2 : P_X11_tries_3 Q2 v0 v1 v2 v3 v4 v5 S) (hq : ∀ (T : HS), Q1 T → Q2 T → Q3 T) : P_X11_tries_3 Q3 v0 v1 v2 v3 v4 v5 S := h1 (fun v0 v1 v2 v3 v4 v5 S => P_X11_tries_3 Q2 v0 v1 v2 v3 v4 v5 S → P_X11_tries_3 Q3 v0 v1 v2 v3 v4 v5 S) (fun v0 v1 v2 v3 v4 v5 S hB hp => fd_X11_tries_3 (cmB_X11_tries_3 hB (uf_X11_tries_3 hp) hq (fun _ _ _ _ _ _ _ hx hp => hx hp))) h2
set_option maxRecDepth 20000 in
set_option maxHeartbeats 1000000 in
theorem cm_X11_tries_0 {Q1 Q2 Q3 : HS → Prop} {v0 : Nat} {v1 : Int32} {v2 : Int32} {v3 : Int32} {v4 : Int32} {S : HS} (h1 : P_X11_tries_0 Q1 v0 v1 v2 v3 v4 S) (h2 : P_X11_tries_0 Q2 v0 v1 v2 v3 v4 S) (hq : ∀ (T : HS), Q1 T → Q2 T → Q3 T) : P_X11_tries_0 Q3 v0 v1 v2 v3 v4 S := by
  delta P_X11_tries_0 at h1 h2 ⊢
  exact cm_X11_tries_3 h1 h2 hq
theorem cm_X11_tries {Q1 Q2 Q3 : HS → Prop} {v0 : Nat} {v1 : Int32} {v2 : Int32} {v3 : Int32} {v4 : Int32} {S : HS} (h1 : P_X11_tries v0 v1 v2 v3 v4 Q1 S) (h2 : P_X11_tries v0 v1 v2 v3 v4 Q2 S) (hq : ∀ (T : HS), Q1 T → Q2 T → Q3 T) : P_X11_tries v0 v1 v2 v3 v4 Q3 S := cm_X11_tries_0 h1 h2 hq
