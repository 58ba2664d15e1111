set_option maxRecDepth 20000 in
set_option maxHeartbeats 1000000 in
theorem cm_X0_end_0 {Q1 Q2 Q3 : HS → Prop} {v0 : Nat} {S : HS} (h1 : P_X0_end_0 Q1 v0 S) (h2 : P_X0_end_0 Q2 v0 S) (hq : ∀ (T : HS), Q1 T → Q2 T → Q3 T) : P_X0_end_0 Q3 v0 S := by
  delta P_X0_end_0 at h1 h2 ⊢
  obtain ⟨c1, h1⟩ := h1
  obtain ⟨_, h2⟩ := h2
  refine ⟨c1, ?_⟩
  intro x3 e2
  have h1 := h1 x3 e2
  have h2 := h2 x3 e2
  intro x5 e4
  have h1 := h1 x5 e4
  have h2 := h2 x5 e4
  intro x7 e6
  have h1 := h1 x7 e6
  have h2 := h2 x7 e6
  exact hq _ h1 h2
theorem cm_X0_end {Q1 Q2 Q3 : HS → Prop} {v0 : Nat} {S : HS} (h1 : P_X0_end v0 Q1 S) (h2 : P_X0_end v0 Q2 S) (hq : ∀ (T : HS), Q1 T → Q2 T → Q3 T) : P_X0_end v0 Q3 S := cm_X0_end_0 h1 h2 hq
set_option maxRecDepth 20000 in
set_option maxHeartbeats 1000000 in
theorem cmB_X0_begin_28 {Q1 Q2 Q3 : HS → Prop} {X28_1 X28_2 X28_3 : Nat → Int32 → HS → Prop} {v0 : Nat} {v4 : Int32} {S : HS} (h1 : B_X0_begin_28 Q1 X28_1 v0 v4 S) (h2 : B_X0_begin_28 Q2 X28_2 v0 v4 S) (hq : ∀ (T : HS), Q1 T → Q2 T → Q3 T) (hX28 : ∀ (u0 : Nat) (u1 : Int32) (u2 : HS), X28_1 u0 u1 u2 → X28_2 u0 u1 u2 → X28_3 u0 u1 u2) : B_X0_begin_28 Q3 X28_3 v0 v4 S := by
  delta B_X0_begin_28 at h1 h2 ⊢
  refine ⟨?_, ?_⟩
  · intro c1
    have h1 := h1.1 c1
    have h2 := h2.1 c1
    exact hq _ h1 h2
  · intro c2
    have h1 := h1.2 c2
    have h2 := h2.2 c2
    obtain ⟨c3, h1⟩ := h1
    obtain ⟨_, h2⟩ := h2
    refine ⟨c3, ?_⟩
    obtain ⟨b4, e5, h1⟩ := h1
    obtain ⟨b6, e7, h2⟩ := h2
    cases e5.symm.trans e7
    refine ⟨b4, e5, ?_⟩
    obtain ⟨c8, h1⟩ := h1
    obtain ⟨_, h2⟩ := h2
    refine ⟨c8, ?_⟩
    obtain ⟨b9, e10, h1⟩ := h1
    obtain ⟨b11, e12, h2⟩ := h2
    cases e10.symm.trans e12
    refine ⟨b9, e10, ?_⟩
    obtain ⟨c13, h1⟩ := h1
    obtain ⟨_, h2⟩ := h2
    refine ⟨c13, ?_⟩
    obtain ⟨c14, h1⟩ := h1
    obtain ⟨_, h2⟩ := h2
    refine ⟨c14, ?_⟩
    intro x16 e15
    have h1 := h1 x16 e15
    have h2 := h2 x16 e15
    intro x18 e17
    have h1 := h1 x18 e17
    have h2 := h2 x18 e17
    exact hX28 _ _ _ h1 h2
theorem fd_X0_begin_28 {Q : HS → Prop} {v0 : Nat} {v4 : Int32} {S : HS} (h : B_X0_begin_28 Q (P_X0_begin_28 Q) v0 v4 S) : P_X0_begin_28 Q v0 v4 S := fun X hX => hX v0 v4 S (cmB_X0_begin_28 h h (fun _ a _ => a) (fun _ _ _ hp _ => hp X hX))
theorem uf_X0_begin_28 {Q : HS → Prop} {v0 : Nat} {v4 : Int32} {S : HS} (h : P_X0_begin_28 Q v0 v4 S) : B_X0_begin_28 Q (P_X0_begin_28 Q) v0 v4 S := h (fun v0 v4 S => B_X0_begin_28 Q (P_X0_begin_28 Q) v0 v4 S) (fun v0 v4 S hB => cmB_X0_begin_28 hB hB (fun _ a _ => a) (fun _ _ _ hb _ => fd_X0_begin_28 hb))
theorem cm_X0_begin_28 {Q1 Q2 Q3 : HS → Prop} {v0 : Nat} {v4 : Int32} {S : HS} (h1 : P_X0_begin_28 Q1 v0 v4 S) (h2 : P_X0_begin_28 Q2 v0 v4 S) (hq : ∀ (T : HS), Q1 T → Q2 T → Q3 T) : P_X0_begin_28 Q3 v0 v4 S := h1 (fun v0 v4 S => P_X0_begin_28 Q2 v0 v4 S → P_X0_begin_28 Q3 v0 v4 S) (fun v0 v4 S hB hp => fd_X0_begin_28 (cmB_X0_begin_28 hB (uf_X0_begin_28 hp) hq (fun _ _ _ hx hp => hx hp))) h2
set_option maxRecDepth 20000 in
set_option maxHeartbeats 1000000 in
theorem cm_X0_begin_0 {Q1 Q2 Q3 : HS → Prop} {v0 : Nat} {v1 : Int32} {v2 : Int32} {v3 : Int32} {S : HS} (h1 : P_X0_begin_0 Q1 v0 v1 v2 v3 S) (h2 : P_X0_begin_0 Q2 v0 v1 v2 v3 S) (hq : ∀ (T : HS), Q1 T → Q2 T → Q3 T) : P_X0_begin_0 Q3 v0 v1 v2 v3 S := by
  delta P_X0_begin_0 at h1 h2 ⊢
  obtain ⟨c1, h1⟩ := h1
  obtain ⟨_, h2⟩ := h2
  refine ⟨c1, ?_⟩
  refine cm_X0_end h1 h2 (fun x2 h1 h2 g3 => ?_)
  have h1 := h1 g3
  have h2 := h2 g3
  intro x5 e4
  have h1 := h1 x5 e4
  have h2 := h2 x5 e4
  obtain ⟨b6, e7, h1⟩ := h1
  obtain ⟨b8, e9, h2⟩ := h2
  cases e7.symm.trans e9
  refine ⟨b6, e7, ?_⟩
  obtain ⟨c10, h1⟩ := h1
  obtain ⟨_, h2⟩ := h2
  refine ⟨c10, ?_⟩
  intro x12 e11
  have h1 := h1 x12 e11
  have h2 := h2 x12 e11
  obtain ⟨b13, e14, h1⟩ := h1
  obtain ⟨b15, e16, h2⟩ := h2
  cases e14.symm.trans e16
  refine ⟨b13, e14, ?_⟩
  obtain ⟨c17, h1⟩ := h1
  obtain ⟨_, h2⟩ := h2
  refine ⟨c17, ?_⟩
  intro x19 e18
  have h1 := h1 x19 e18
  have h2 := h2 x19 e18
  exact cm_X0_begin_28 h1 h2 hq
theorem cm_X0_begin {Q1 Q2 Q3 : HS → Prop} {v0 : Nat} {v1 : Int32} {v2 : Int32} {v3 : Int32} {S : HS} (h1 : P_X0_begin v0 v1 v2 v3 Q1 S) (h2 : P_X0_begin v0 v1 v2 v3 Q2 S) (hq : ∀ (T : HS), Q1 T → Q2 T → Q3 T) : P_X0_begin v0 v1 v2 v3 Q3 S := cm_X0_begin_0 h1 h2 hq
set_option maxRecDepth 20000 in
set_option maxHeartbeats 1000000 in
theorem cm_X0_draw_60 {Q1 Q2 Q3 : HS → Prop} {X10_1 X10_2 X10_3 : Nat → Nat → Int32 → Int32 → HS → Prop} {v0 : Nat} {v1 : Nat} {v3 : Int32} {v4 : Int32} {S : HS} (h1 : P_X0_draw_60 Q1 X10_1 v0 v1 v3 v4 S) (h2 : P_X0_draw_60 Q2 X10_2 v0 v1 v3 v4 S) (hq : ∀ (T : HS), Q1 T → Q2 T → Q3 T) (hX10 : ∀ (u0 : Nat) (u1 : Nat) (u2 : Int32) (u3 : Int32) (u4 : HS), X10_1 u0 u1 u2 u3 u4 → X10_2 u0 u1 u2 u3 u4 → X10_3 u0 u1 u2 u3 u4) : P_X0_draw_60 Q3 X10_3 v0 v1 v3 v4 S := by
  delta P_X0_draw_60 at h1 h2 ⊢
  intro x2 e1
  have h1 := h1 x2 e1
  have h2 := h2 x2 e1
  exact hX10 _ _ _ _ _ h1 h2
set_option maxRecDepth 20000 in
set_option maxHeartbeats 1000000 in
theorem cmB_X0_draw_10 {Q1 Q2 Q3 : HS → Prop} {X10_1 X10_2 X10_3 : Nat → Nat → Int32 → Int32 → HS → Prop} {v0 : Nat} {v1 : Nat} {v3 : Int32} {v4 : Int32} {S : HS} (h1 : B_X0_draw_10 Q1 X10_1 v0 v1 v3 v4 S) (h2 : B_X0_draw_10 Q2 X10_2 v0 v1 v3 v4 S) (hq : ∀ (T : HS), Q1 T → Q2 T → Q3 T) (hX10 : ∀ (u0 : Nat) (u1 : Nat) (u2 : Int32) (u3 : Int32) (u4 : HS), X10_1 u0 u1 u2 u3 u4 → X10_2 u0 u1 u2 u3 u4 → X10_3 u0 u1 u2 u3 u4) : B_X0_draw_10 Q3 X10_3 v0 v1 v3 v4 S := by
  delta B_X0_draw_10 at h1 h2 ⊢
  obtain ⟨c1, h1⟩ := h1
  obtain ⟨_, h2⟩ := h2
  refine ⟨c1, ?_⟩
  intro x3 e2
  have h1 := h1 x3 e2
  have h2 := h2 x3 e2
  refine ⟨?_, ?_⟩
  · intro c4
    have h1 := h1.1 c4
    have h2 := h2.1 c4
    exact hq _ h1 h2
  · intro c5
    have h1 := h1.2 c5
    have h2 := h2.2 c5
    intro x7 e6
    have h1 := h1 x7 e6
    have h2 := h2 x7 e6
    intro x9 e8
    have h1 := h1 x9 e8
    have h2 := h2 x9 e8
    obtain ⟨b10, e11, h1⟩ := h1
    obtain ⟨b12, e13, h2⟩ := h2
    cases e11.symm.trans e13
    refine ⟨b10, e11, ?_⟩
    obtain ⟨c14, h1⟩ := h1
    obtain ⟨_, h2⟩ := h2
    refine ⟨c14, ?_⟩
    obtain ⟨c15, h1⟩ := h1
    obtain ⟨_, h2⟩ := h2
    refine ⟨c15, ?_⟩
    obtain ⟨b16, e17, h1⟩ := h1
    obtain ⟨b18, e19, h2⟩ := h2
    cases e17.symm.trans e19
    refine ⟨b16, e17, ?_⟩
    obtain ⟨c20, h1⟩ := h1
    obtain ⟨_, h2⟩ := h2
    refine ⟨c20, ?_⟩
    intro x22 e21
    have h1 := h1 x22 e21
    have h2 := h2 x22 e21
    refine ⟨?_, ?_⟩
    · intro c23
      have h1 := h1.1 c23
      have h2 := h2.1 c23
      exact cm_X0_draw_60 h1 h2 hq hX10
    · intro c24
      have h1 := h1.2 c24
      have h2 := h2.2 c24
      obtain ⟨c25, h1⟩ := h1
      obtain ⟨_, h2⟩ := h2
      refine ⟨c25, ?_⟩
      intro x27 e26
      have h1 := h1 x27 e26
      have h2 := h2 x27 e26
      intro x29 e28
      have h1 := h1 x29 e28
      have h2 := h2 x29 e28
      intro x31 e30
      have h1 := h1 x31 e30
      have h2 := h2 x31 e30
      exact cm_X0_draw_60 h1 h2 hq hX10
theorem fd_X0_draw_10 {Q : HS → Prop} {v0 : Nat} {v1 : Nat} {v3 : Int32} {v4 : Int32} {S : HS} (h : B_X0_draw_10 Q (P_X0_draw_10 Q) v0 v1 v3 v4 S) : P_X0_draw_10 Q v0 v1 v3 v4 S := fun X hX => hX v0 v1 v3 v4 S (cmB_X0_draw_10 h h (fun _ a _ => a) (fun _ _ _ _ _ hp _ => hp X hX))
theorem uf_X0_draw_10 {Q : HS → Prop} {v0 : Nat} {v1 : Nat} {v3 : Int32} {v4 : Int32} {S : HS} (h : P_X0_draw_10 Q v0 v1 v3 v4 S) : B_X0_draw_10 Q (P_X0_draw_10 Q) v0 v1 v3 v4 S := h (fun v0 v1 v3 v4 S => B_X0_draw_10 Q (P_X0_draw_10 Q) v0 v1 v3 v4 S) (fun v0 v1 v3 v4 S hB => cmB_X0_draw_10 hB hB (fun _ a _ => a) (fun _ _ _ _ _ hb _ => fd_X0_draw_10 hb))
theorem cm_X0_draw_10 {Q1 Q2 Q3 : HS → Prop} {v0 : Nat} {v1 : Nat} {v3 : Int32} {v4 : Int32} {S : HS} (h1 : P_X0_draw_10 Q1 v0 v1 v3 v4 S) (h2 : P_X0_draw_10 Q2 v0 v1 v3 v4 S) (hq : ∀ (T : HS), Q1 T → Q2 T → Q3 T) : P_X0_draw_10 Q3 v0 v1 v3 v4 S := h1 (fun v0 v1 v3 v4 S => P_X0_draw_10 Q2 v0 v1 v3 v4 S → P_X0_draw_10 Q3 v0 v1 v3 v4 S) (fun v0 v1 v3 v4 S hB hp => fd_X0_draw_10 (cmB_X0_draw_10 hB (uf_X0_draw_10 hp) hq (fun _ _ _ _ _ hx hp => hx hp))) h2
set_option maxRecDepth 20000 in
set_option maxHeartbeats 1000000 in
theorem cm_X0_draw_0 {Q1 Q2 Q3 : HS → Prop} {v0 : Nat} {v1 : Nat} {v2 : Int32} {S : HS} (h1 : P_X0_draw_0 Q1 v0 v1 v2 S) (h2 : P_X0_draw_0 Q2 v0 v1 v2 S) (hq : ∀ (T : HS), Q1 T → Q2 T → Q3 T) : P_X0_draw_0 Q3 v0 v1 v2 S := by
  delta P_X0_draw_0 at h1 h2 ⊢
  obtain ⟨c1, h1⟩ := h1
  obtain ⟨_, h2⟩ := h2
  refine ⟨c1, ?_⟩
  intro x3 e2
  have h1 := h1 x3 e2
  have h2 := h2 x3 e2
  exact cm_X0_draw_10 h1 h2 hq
theorem cm_X0_draw {Q1 Q2 Q3 : HS → Prop} {v0 : Nat} {v1 : Nat} {v2 : Int32} {S : HS} (h1 : P_X0_draw v0 v1 v2 Q1 S) (h2 : P_X0_draw v0 v1 v2 Q2 S) (hq : ∀ (T : HS), Q1 T → Q2 T → Q3 T) : P_X0_draw v0 v1 v2 Q3 S := cm_X0_draw_0 h1 h2 hq
set_option maxRecDepth 20000 in
set_option maxHeartbeats 1000000 in
theorem cm_X2_init_0 {Q1 Q2 Q3 : HS → Prop} {v0 : Nat} {S : HS} (h1 : P_X2_init_0 Q1 v0 S) (h2 : P_X2_init_0 Q2 v0 S) (hq : ∀ (T : HS), Q1 T → Q2 T → Q3 T) : P_X2_init_0 Q3 v0 S := by
  delta P_X2_init_0 at h1 h2 ⊢
  intro x2 e1
  have h1 := h1 x2 e1
  have h2 := h2 x2 e1
  intro x4 e3
  have h1 := h1 x4 e3
  have h2 := h2 x4 e3
  obtain ⟨c5, h1⟩ := h1
  obtain ⟨_, h2⟩ := h2
  refine ⟨c5, ?_⟩
  intro x7 e6
  have h1 := h1 x7 e6
  have h2 := h2 x7 e6
  exact hq _ h1 h2
theorem cm_X2_init {Q1 Q2 Q3 : HS → Prop} {v0 : Nat} {S : HS} (h1 : P_X2_init v0 Q1 S) (h2 : P_X2_init v0 Q2 S) (hq : ∀ (T : HS), Q1 T → Q2 T → Q3 T) : P_X2_init v0 Q3 S := cm_X2_init_0 h1 h2 hq
set_option maxRecDepth 20000 in
set_option maxHeartbeats 1000000 in
theorem cmB_X0_init_69 {Q1 Q2 Q3 : HS → Prop} {X69_1 X69_2 X69_3 : Nat → Int32 → Nat → Nat → HS → Prop} {v0 : Nat} {v1 : Int32} {kk : Nat} {nn : Nat} {S : HS} (h1 : B_X0_init_69 Q1 X69_1 v0 v1 kk nn S) (h2 : B_X0_init_69 Q2 X69_2 v0 v1 kk nn S) (hq : ∀ (T : HS), Q1 T → Q2 T → Q3 T) (hX69 : ∀ (u0 : Nat) (u1 : Int32) (u2 : Nat) (u3 : Nat) (u4 : HS), X69_1 u0 u1 u2 u3 u4 → X69_2 u0 u1 u2 u3 u4 → X69_3 u0 u1 u2 u3 u4) : B_X0_init_69 Q3 X69_3 v0 v1 kk nn S := by
  delta B_X0_init_69 at h1 h2 ⊢
  obtain ⟨c1, h1⟩ := h1
  obtain ⟨_, h2⟩ := h2
  refine ⟨c1, ?_⟩
  obtain ⟨b2, e3, h1⟩ := h1
  obtain ⟨b4, e5, h2⟩ := h2
  cases e3.symm.trans e5
  refine ⟨b2, e3, ?_⟩
  obtain ⟨c6, h1⟩ := h1
  obtain ⟨_, h2⟩ := h2
  refine ⟨c6, ?_⟩
  refine ⟨?_, ?_⟩
  · intro c7
    have h1 := h1.1 c7
    have h2 := h2.1 c7
    obtain ⟨c8, h1⟩ := h1
    obtain ⟨_, h2⟩ := h2
    refine ⟨c8, ?_⟩
    obtain ⟨c9, h1⟩ := h1
    obtain ⟨_, h2⟩ := h2
    refine ⟨c9, ?_⟩
    exact hq _ h1 h2
  · intro c10
    have h1 := h1.2 c10
    have h2 := h2.2 c10
    obtain ⟨b11, e12, h1⟩ := h1
    obtain ⟨b13, e14, h2⟩ := h2
    cases e12.symm.trans e14
    refine ⟨b11, e12, ?_⟩
    obtain ⟨c15, h1⟩ := h1
    obtain ⟨_, h2⟩ := h2
    refine ⟨c15, ?_⟩
    obtain ⟨c16, h1⟩ := h1
    obtain ⟨_, h2⟩ := h2
    refine ⟨c16, ?_⟩
    intro x18 e17
    have h1 := h1 x18 e17
    have h2 := h2 x18 e17
    intro x20 e19
    have h1 := h1 x20 e19
    have h2 := h2 x20 e19
    obtain ⟨c21, h1⟩ := h1
    obtain ⟨_, h2⟩ := h2
    refine ⟨c21, ?_⟩
    obtain ⟨c22, h1⟩ := h1
    obtain ⟨_, h2⟩ := h2
    refine ⟨c22, ?_⟩
    refine cm_X2_init h1 h2 (fun x23 h1 h2 g24 => ?_)
    have h1 := h1 g24
    have h2 := h2 g24
    obtain ⟨c25, h1⟩ := h1
    obtain ⟨_, h2⟩ := h2
    refine ⟨c25, ?_⟩
    obtain ⟨c26, h1⟩ := h1
    obtain ⟨_, h2⟩ := h2
    refine ⟨c26, ?_⟩
    intro x28 e27
    have h1 := h1 x28 e27
    have h2 := h2 x28 e27
    intro x30 e29
    have h1 := h1 x30 e29
    have h2 := h2 x30 e29
    exact hX69 _ _ _ _ _ h1 h2
theorem fd_X0_init_69 {Q : HS → Prop} {v0 : Nat} {v1 : Int32} {kk : Nat} {nn : Nat} {S : HS} (h : B_X0_init_69 Q (P_X0_init_69 Q) v0 v1 kk nn S) : P_X0_init_69 Q v0 v1 kk nn S := fun X hX => hX v0 v1 kk nn S (cmB_X0_init_69 h h (fun _ a _ => a) (fun _ _ _ _ _ hp _ => hp X hX))
theorem uf_X0_init_69 {Q : HS → Prop} {v0 : Nat} {v1 : Int32} {kk : Nat} {nn : Nat} {S : HS} (h : P_X0_init_69 Q v0 v1 kk nn S) : B_X0_init_69 Q (P_X0_init_69 Q) v0 v1 kk nn S := h (fun v0 v1 kk nn S => B_X0_init_69 Q (P_X0_init_69 Q) v0 v1 kk nn S) (fun v0 v1 kk nn S hB => cmB_X0_init_69 hB hB (fun _ a _ => a) (fun _ _ _ _ _ hb _ => fd_X0_init_69 hb))
theorem cm_X0_init_69 {Q1 Q2 Q3 : HS → Prop} {v0 : Nat} {v1 : Int32} {kk : Nat} {nn : Nat} {S : HS} (h1 : P_X0_init_69 Q1 v0 v1 kk nn S) (h2 : P_X0_init_69 Q2 v0 v1 kk nn S) (hq : ∀ (T : HS), Q1 T → Q2 T → Q3 T) : P_X0_init_69 Q3 v0 v1 kk nn S := h1 (fun v0 v1 kk nn S => P_X0_init_69 Q2 v0 v1 kk nn S → P_X0_init_69 Q3 v0 v1 kk nn S) (fun v0 v1 kk nn S hB hp => fd_X0_init_69 (cmB_X0_init_69 hB (uf_X0_init_69 hp) hq (fun _ _ _ _ _ hx hp => hx hp))) h2
set_option maxRecDepth 20000 in
set_option maxHeartbeats 1000000 in
theorem cmB_X0_init_39 {Q1 Q2 Q3 : HS → Prop} {X39_1 X39_2 X39_3 : Nat → Int32 → Nat → Nat → HS → Prop} {v0 : Nat} {v1 : Int32} {kk : Nat} {nn : Nat} {S : HS} (h1 : B_X0_init_39 Q1 X39_1 v0 v1 kk nn S) (h2 : B_X0_init_39 Q2 X39_2 v0 v1 kk nn S) (hq : ∀ (T : HS), Q1 T → Q2 T → Q3 T) (hX39 : ∀ (u0 : Nat) (u1 : Int32) (u2 : Nat) (u3 : Nat) (u4 : HS), X39_1 u0 u1 u2 u3 u4 → X39_2 u0 u1 u2 u3 u4 → X39_3 u0 u1 u2 u3 u4) : B_X0_init_39 Q3 X39_3 v0 v1 kk nn S := by
  delta B_X0_init_39 at h1 h2 ⊢
  obtain ⟨c1, h1⟩ := h1
  obtain ⟨_, h2⟩ := h2
  refine ⟨c1, ?_⟩
  obtain ⟨b2, e3, h1⟩ := h1
  obtain ⟨b4, e5, h2⟩ := h2
  cases e3.symm.trans e5
  refine ⟨b2, e3, ?_⟩
  obtain ⟨c6, h1⟩ := h1
  obtain ⟨_, h2⟩ := h2
  refine ⟨c6, ?_⟩
  refine ⟨?_, ?_⟩
  · intro c7
    have h1 := h1.1 c7
    have h2 := h2.1 c7
    exact cm_X0_init_69 h1 h2 hq
  · intro c8
    have h1 := h1.2 c8
    have h2 := h2.2 c8
    obtain ⟨b9, e10, h1⟩ := h1
    obtain ⟨b11, e12, h2⟩ := h2
    cases e10.symm.trans e12
    refine ⟨b9, e10, ?_⟩
    obtain ⟨c13, h1⟩ := h1
    obtain ⟨_, h2⟩ := h2
    refine ⟨c13, ?_⟩
    obtain ⟨c14, h1⟩ := h1
    obtain ⟨_, h2⟩ := h2
    refine ⟨c14, ?_⟩
    intro x16 e15
    have h1 := h1 x16 e15
    have h2 := h2 x16 e15
    intro x18 e17
    have h1 := h1 x18 e17
    have h2 := h2 x18 e17
    obtain ⟨c19, h1⟩ := h1
    obtain ⟨_, h2⟩ := h2
    refine ⟨c19, ?_⟩
    obtain ⟨c20, h1⟩ := h1
    obtain ⟨_, h2⟩ := h2
    refine ⟨c20, ?_⟩
    refine cm_X2_init h1 h2 (fun x21 h1 h2 g22 => ?_)
    have h1 := h1 g22
    have h2 := h2 g22
    obtain ⟨c23, h1⟩ := h1
    obtain ⟨_, h2⟩ := h2
    refine ⟨c23, ?_⟩
    obtain ⟨c24, h1⟩ := h1
    obtain ⟨_, h2⟩ := h2
    refine ⟨c24, ?_⟩
    intro x26 e25
    have h1 := h1 x26 e25
    have h2 := h2 x26 e25
    intro x28 e27
    have h1 := h1 x28 e27
    have h2 := h2 x28 e27
    exact hX39 _ _ _ _ _ h1 h2
theorem fd_X0_init_39 {Q : HS → Prop} {v0 : Nat} {v1 : Int32} {kk : Nat} {nn : Nat} {S : HS} (h : B_X0_init_39 Q (P_X0_init_39 Q) v0 v1 kk nn S) : P_X0_init_39 Q v0 v1 kk nn S := fun X hX => hX v0 v1 kk nn S (cmB_X0_init_39 h h (fun _ a _ => a) (fun _ _ _ _ _ hp _ => hp X hX))
theorem uf_X0_init_39 {Q : HS → Prop} {v0 : Nat} {v1 : Int32} {kk : Nat} {nn : Nat} {S : HS} (h : P_X0_init_39 Q v0 v1 kk nn S) : B_X0_init_39 Q (P_X0_init_39 Q) v0 v1 kk nn S := h (fun v0 v1 kk nn S => B_X0_init_39 Q (P_X0_init_39 Q) v0 v1 kk nn S) (fun v0 v1 kk nn S hB => cmB_X0_init_39 hB hB (fun _ a _ => a) (fun _ _ _ _ _ hb _ => fd_X0_init_39 hb))
theorem cm_X0_init_39 {Q1 Q2 Q3 : HS → Prop} {v0 : Nat} {v1 : Int32} {kk : Nat} {nn : Nat} {S : HS} (h1 : P_X0_init_39 Q1 v0 v1 kk nn S) (h2 : P_X0_init_39 Q2 v0 v1 kk nn S) (hq : ∀ (T : HS), Q1 T → Q2 T → Q3 T) : P_X0_init_39 Q3 v0 v1 kk nn S := h1 (fun v0 v1 kk nn S => P_X0_init_39 Q2 v0 v1 kk nn S → P_X0_init_39 Q3 v0 v1 kk nn S) (fun v0 v1 kk nn S hB hp => fd_X0_init_39 (cmB_X0_init_39 hB (uf_X0_init_39 hp) hq (fun _ _ _ _ _ hx hp => hx hp))) h2
set_option maxRecDepth 20000 in
set_option maxHeartbeats 1000000 in
theorem cm_X0_init_0 {Q1 Q2 Q3 : HS → Prop} {v0 : Nat} {kk : Nat} {nn : Nat} {S : HS} (h1 : P_X0_init_0 Q1 v0 kk nn S) (h2 : P_X0_init_0 Q2 v0 kk nn S) (hq : ∀ (T : HS), Q1 T → Q2 T → Q3 T) : P_X0_init_0 Q3 v0 kk nn S := by
  delta P_X0_init_0 at h1 h2 ⊢
  obtain ⟨c1, h1⟩ := h1
  obtain ⟨_, h2⟩ := h2
  refine ⟨c1, ?_⟩
  intro x3 e2
  have h1 := h1 x3 e2
  have h2 := h2 x3 e2
  obtain ⟨c4, h1⟩ := h1
  obtain ⟨_, h2⟩ := h2
  refine ⟨c4, ?_⟩
  obtain ⟨c5, h1⟩ := h1
  obtain ⟨_, h2⟩ := h2
  refine ⟨c5, ?_⟩
  intro x7 e6
  have h1 := h1 x7 e6
  have h2 := h2 x7 e6
  intro x9 e8
  have h1 := h1 x9 e8
  have h2 := h2 x9 e8
  obtain ⟨c10, h1⟩ := h1
  obtain ⟨_, h2⟩ := h2
  refine ⟨c10, ?_⟩
  obtain ⟨c11, h1⟩ := h1
  obtain ⟨_, h2⟩ := h2
  refine ⟨c11, ?_⟩
  refine cm_X2_init h1 h2 (fun x12 h1 h2 g13 => ?_)
  have h1 := h1 g13
  have h2 := h2 g13
  intro x15 e14
  have h1 := h1 x15 e14
  have h2 := h2 x15 e14
  obtain ⟨c16, h1⟩ := h1
  obtain ⟨_, h2⟩ := h2
  refine ⟨c16, ?_⟩
  obtain ⟨c17, h1⟩ := h1
  obtain ⟨_, h2⟩ := h2
  refine ⟨c17, ?_⟩
  intro x19 e18
  have h1 := h1 x19 e18
  have h2 := h2 x19 e18
  intro x21 e20
  have h1 := h1 x21 e20
  have h2 := h2 x21 e20
  intro x23 e22
  have h1 := h1 x23 e22
  have h2 := h2 x23 e22
  obtain ⟨c24, h1⟩ := h1
  obtain ⟨_, h2⟩ := h2
  refine ⟨c24, ?_⟩
  obtain ⟨c25, h1⟩ := h1
  obtain ⟨_, h2⟩ := h2
  refine ⟨c25, ?_⟩
  intro x27 e26
  have h1 := h1 x27 e26
  have h2 := h2 x27 e26
  intro x29 e28
  have h1 := h1 x29 e28
  have h2 := h2 x29 e28
  intro x31 e30
  have h1 := h1 x31 e30
  have h2 := h2 x31 e30
  exact cm_X0_init_39 h1 h2 hq
theorem cm_X0_init {Q1 Q2 Q3 : HS → Prop} {v0 : Nat} {S : HS} (h1 : P_X0_init v0 Q1 S) (h2 : P_X0_init v0 Q2 S) (hq : ∀ (T : HS), Q1 T → Q2 T → Q3 T) : P_X0_init v0 Q3 S := cm_X0_init_0 h1 h2 hq
set_option maxRecDepth 20000 in
set_option maxHeartbeats 1000000 in
theorem cm_X0_isOn_0 {Q1 Q2 Q3 : Int32 → HS → Prop} {v0 : Nat} {S : HS} (h1 : P_X0_isOn_0 Q1 v0 S) (h2 : P_X0_isOn_0 Q2 v0 S) (hq : ∀ (r : Int32) (T : HS), Q1 r T → Q2 r T → Q3 r T) : P_X0_isOn_0 Q3 v0 S := by
  delta P_X0_isOn_0 at h1 h2 ⊢
  obtain ⟨c1, h1⟩ := h1
  obtain ⟨_, h2⟩ := h2
  refine ⟨c1, ?_⟩
  intro x3 e2
  have h1 := h1 x3 e2
  have h2 := h2 x3 e2
  refine ⟨?_, ?_⟩
  · intro c4
    have h1 := h1.1 c4
    have h2 := h2.1 c4
    exact hq _ _ h1 h2
  · intro c5
    have h1 := h1.2 c5
    have h2 := h2.2 c5
    exact hq _ _ h1 h2
theorem cm_X0_isOn {Q1 Q2 Q3 : Int32 → HS → Prop} {v0 : Nat} {S : HS} (h1 : P_X0_isOn v0 Q1 S) (h2 : P_X0_isOn v0 Q2 S) (hq : ∀ (r : Int32) (T : HS), Q1 r T → Q2 r T → Q3 r T) : P_X0_isOn v0 Q3 S := cm_X0_isOn_0 h1 h2 hq
set_option maxRecDepth 20000 in
set_option maxHeartbeats 1000000 in
theorem cmB_X2_copy_18 {Q1 Q2 Q3 : HS → Prop} {X18_1 X18_2 X18_3 : Nat → Nat → Int32 → HS → Prop} {v0 : Nat} {v1 : Nat} {v2 : Int32} {S : HS} (h1 : B_X2_copy_18 Q1 X18_1 v0 v1 v2 S) (h2 : B_X2_copy_18 Q2 X18_2 v0 v1 v2 S) (hq : ∀ (T : HS), Q1 T → Q2 T → Q3 T) (hX18 : ∀ (u0 : Nat) (u1 : Nat) (u2 : Int32) (u3 : HS), X18_1 u0 u1 u2 u3 → X18_2 u0 u1 u2 u3 → X18_3 u0 u1 u2 u3) : B_X2_copy_18 Q3 X18_3 v0 v1 v2 S := by
  delta B_X2_copy_18 at h1 h2 ⊢
  refine ⟨?_, ?_⟩
  · intro c1
    have h1 := h1.1 c1
    have h2 := h2.1 c1
    exact hq _ h1 h2
  · intro c2
    have h1 := h1.2 c2
    have h2 := h2.2 c2
    obtain ⟨c3, h1⟩ := h1
    obtain ⟨_, h2⟩ := h2
    refine ⟨c3, ?_⟩
    obtain ⟨b4, e5, h1⟩ := h1
    obtain ⟨b6, e7, h2⟩ := h2
    cases e5.symm.trans e7
    refine ⟨b4, e5, ?_⟩
    obtain ⟨c8, h1⟩ := h1
    obtain ⟨_, h2⟩ := h2
    refine ⟨c8, ?_⟩
    obtain ⟨b9, e10, h1⟩ := h1
    obtain ⟨b11, e12, h2⟩ := h2
    cases e10.symm.trans e12
    refine ⟨b9, e10, ?_⟩
    obtain ⟨c13, h1⟩ := h1
    obtain ⟨_, h2⟩ := h2
    refine ⟨c13, ?_⟩
    obtain ⟨c14, h1⟩ := h1
    obtain ⟨_, h2⟩ := h2
    refine ⟨c14, ?_⟩
    intro x16 e15
    have h1 := h1 x16 e15
    have h2 := h2 x16 e15
    obtain ⟨c17, h1⟩ := h1
    obtain ⟨_, h2⟩ := h2
    refine ⟨c17, ?_⟩
    obtain ⟨c18, h1⟩ := h1
    obtain ⟨_, h2⟩ := h2
    refine ⟨c18, ?_⟩
    intro x20 e19
    have h1 := h1 x20 e19
    have h2 := h2 x20 e19
    intro x22 e21
    have h1 := h1 x22 e21
    have h2 := h2 x22 e21
    exact hX18 _ _ _ _ h1 h2
theorem fd_X2_copy_18 {Q : HS → Prop} {v0 : Nat} {v1 : Nat} {v2 : Int32} {S : HS} (h : B_X2_copy_18 Q (P_X2_copy_18 Q) v0 v1 v2 S) : P_X2_copy_18 Q v0 v1 v2 S := fun X hX => hX v0 v1 v2 S (cmB_X2_copy_18 h h (fun _ a _ => a) (fun _ _ _ _ hp _ => hp X hX))
theorem uf_X2_copy_18 {Q : HS → Prop} {v0 : Nat} {v1 : Nat} {v2 : Int32} {S : HS} (h : P_X2_copy_18 Q v0 v1 v2 S) : B_X2_copy_18 Q (P_X2_copy_18 Q) v0 v1 v2 S := h (fun v0 v1 v2 S => B_X2_copy_18 Q (P_X2_copy_18 Q) v0 v1 v2 S) (fun v0 v1 v2 S hB => cmB_X2_copy_18 hB hB (fun _ a _ => a) (fun _ _ _ _ hb _ => fd_X2_copy_18 hb))
theorem cm_X2_copy_18 {Q1 Q2 Q3 : HS → Prop} {v0 : Nat} {v1 : Nat} {v2 : Int32} {S : HS} (h1 : P_X2_copy_18 Q1 v0 v1 v2 S) (h2 : P_X2_copy_18 Q2 v0 v1 v2 S) (hq : ∀ (T : HS), Q1 T → Q2 T → Q3 T) : P_X2_copy_18 Q3 v0 v1 v2 S := h1 (fun v0 v1 v2 S => P_X2_copy_18 Q2 v0 v1 v2 S → P_X2_copy_18 Q3 v0 v1 v2 S) (fun v0 v1 v2 S hB hp => fd_X2_copy_18 (cmB_X2_copy_18 hB (uf_X2_copy_18 hp) hq (fun _ _ _ _ hx hp => hx hp))) h2
set_option maxRecDepth 20000 in
set_option maxHeartbeats 1000000 in
theorem cm_X2_copy_0 {Q1 Q2 Q3 : HS → Prop} {v0 : Nat} {v1 : Nat} {S : HS} (h1 : P_X2_copy_0 Q1 v0 v1 S) (h2 : P_X2_copy_0 Q2 v0 v1 S) (hq : ∀ (T : HS), Q1 T → Q2 T → Q3 T) : P_X2_copy_0 Q3 v0 v1 S := by
  delta P_X2_copy_0 at h1 h2 ⊢
  obtain ⟨c1, h1⟩ := h1
  obtain ⟨_, h2⟩ := h2
  refine ⟨c1, ?_⟩
  intro x3 e2
  have h1 := h1 x3 e2
  have h2 := h2 x3 e2
  obtain ⟨c4, h1⟩ := h1
  obtain ⟨_, h2⟩ := h2
  refine ⟨c4, ?_⟩
  intro x6 e5
  have h1 := h1 x6 e5
  have h2 := h2 x6 e5
  intro x8 e7
  have h1 := h1 x8 e7
  have h2 := h2 x8 e7
  intro x10 e9
  have h1 := h1 x10 e9
  have h2 := h2 x10 e9
  exact cm_X2_copy_18 h1 h2 hq
theorem cm_X2_copy {Q1 Q2 Q3 : HS → Prop} {v0 : Nat} {v1 : Nat} {S : HS} (h1 : P_X2_copy v0 v1 Q1 S) (h2 : P_X2_copy v0 v1 Q2 S) (hq : ∀ (T : HS), Q1 T → Q2 T → Q3 T) : P_X2_copy v0 v1 Q3 S := cm_X2_copy_0 h1 h2 hq
set_option maxRecDepth 20000 in
set_option maxHeartbeats 1000000 in
theorem cm_X0_keepForUndo_58 {Q1 Q2 Q3 : HS → Prop} {v0 : Nat} {S : HS} (h1 : P_X0_keepForUndo_58 Q1 v0 S) (h2 : P_X0_keepForUndo_58 Q2 v0 S) (hq : ∀ (T : HS), Q1 T → Q2 T → Q3 T) : P_X0_keepForUndo_58 Q3 v0 S := by
  delta P_X0_keepForUndo_58 at h1 h2 ⊢
  obtain ⟨c1, h1⟩ := h1
  obtain ⟨_, h2⟩ := h2
  refine ⟨c1, ?_⟩
  obtain ⟨b2, e3, h1⟩ := h1
  obtain ⟨b4, e5, h2⟩ := h2
  cases e3.symm.trans e5
  refine ⟨b2, e3, ?_⟩
  intro x7 e6
  have h1 := h1 x7 e6
  have h2 := h2 x7 e6
  obtain ⟨c8, h1⟩ := h1
  obtain ⟨_, h2⟩ := h2
  refine ⟨c8, ?_⟩
  obtain ⟨c9, h1⟩ := h1
  obtain ⟨_, h2⟩ := h2
  refine ⟨c9, ?_⟩
  obtain ⟨b10, e11, h1⟩ := h1
  obtain ⟨b12, e13, h2⟩ := h2
  cases e11.symm.trans e13
  refine ⟨b10, e11, ?_⟩
  obtain ⟨b14, e15, h1⟩ := h1
  obtain ⟨b16, e17, h2⟩ := h2
  cases e15.symm.trans e17
  refine ⟨b14, e15, ?_⟩
  obtain ⟨c18, h1⟩ := h1
  obtain ⟨_, h2⟩ := h2
  refine ⟨c18, ?_⟩
  refine cm_X2_copy h1 h2 (fun x19 h1 h2 g20 => ?_)
  have h1 := h1 g20
  have h2 := h2 g20
  intro x22 e21
  have h1 := h1 x22 e21
  have h2 := h2 x22 e21
  intro x24 e23
  have h1 := h1 x24 e23
  have h2 := h2 x24 e23
  intro x26 e25
  have h1 := h1 x26 e25
  have h2 := h2 x26 e25
  exact hq _ h1 h2
set_option maxRecDepth 20000 in
set_option maxHeartbeats 1000000 in
theorem cmB_X0_keepForUndo_18 {Q1 Q2 Q3 : HS → Prop} {X18_1 X18_2 X18_3 : Nat → Nat → Int32 → HS → Prop} {v0 : Nat} {v1 : Nat} {v2 : Int32} {S : HS} (h1 : B_X0_keepForUndo_18 Q1 X18_1 v0 v1 v2 S) (h2 : B_X0_keepForUndo_18 Q2 X18_2 v0 v1 v2 S) (hq : ∀ (T : HS), Q1 T → Q2 T → Q3 T) (hX18 : ∀ (u0 : Nat) (u1 : Nat) (u2 : Int32) (u3 : HS), X18_1 u0 u1 u2 u3 → X18_2 u0 u1 u2 u3 → X18_3 u0 u1 u2 u3) : B_X0_keepForUndo_18 Q3 X18_3 v0 v1 v2 S := by
  delta B_X0_keepForUndo_18 at h1 h2 ⊢
  refine ⟨?_, ?_⟩
  · intro c1
    have h1 := h1.1 c1
    have h2 := h2.1 c1
    obtain ⟨c2, h1⟩ := h1
    obtain ⟨_, h2⟩ := h2
    refine ⟨c2, ?_⟩
    obtain ⟨b3, e4, h1⟩ := h1
    obtain ⟨b5, e6, h2⟩ := h2
    cases e4.symm.trans e6
    refine ⟨b3, e4, ?_⟩
    obtain ⟨c7, h1⟩ := h1
    obtain ⟨_, h2⟩ := h2
    refine ⟨c7, ?_⟩
    obtain ⟨c8, h1⟩ := h1
    obtain ⟨_, h2⟩ := h2
    refine ⟨c8, ?_⟩
    obtain ⟨c9, h1⟩ := h1
    obtain ⟨_, h2⟩ := h2
    refine ⟨c9, ?_⟩
    intro x11 e10
    have h1 := h1 x11 e10
    have h2 := h2 x11 e10
    intro x13 e12
    have h1 := h1 x13 e12
    have h2 := h2 x13 e12
    exact cm_X0_keepForUndo_58 h1 h2 hq
  · intro c14
    have h1 := h1.2 c14
    have h2 := h2.2 c14
    obtain ⟨c15, h1⟩ := h1
    obtain ⟨_, h2⟩ := h2
    refine ⟨c15, ?_⟩
    obtain ⟨b16, e17, h1⟩ := h1
    obtain ⟨b18, e19, h2⟩ := h2
    cases e17.symm.trans e19
    refine ⟨b16, e17, ?_⟩
    obtain ⟨b20, e21, h1⟩ := h1
    obtain ⟨b22, e23, h2⟩ := h2
    cases e21.symm.trans e23
    refine ⟨b20, e21, ?_⟩
    obtain ⟨c24, h1⟩ := h1
    obtain ⟨_, h2⟩ := h2
    refine ⟨c24, ?_⟩
    obtain ⟨c25, h1⟩ := h1
    obtain ⟨_, h2⟩ := h2
    refine ⟨c25, ?_⟩
    obtain ⟨b26, e27, h1⟩ := h1
    obtain ⟨b28, e29, h2⟩ := h2
    cases e27.symm.trans e29
    refine ⟨b26, e27, ?_⟩
    obtain ⟨c30, h1⟩ := h1
    obtain ⟨_, h2⟩ := h2
    refine ⟨c30, ?_⟩
    obtain ⟨c31, h1⟩ := h1
    obtain ⟨_, h2⟩ := h2
    refine ⟨c31, ?_⟩
    obtain ⟨c32, h1⟩ := h1
    obtain ⟨_, h2⟩ := h2
    refine ⟨c32, ?_⟩
    intro x34 e33
    have h1 := h1 x34 e33
    have h2 := h2 x34 e33
    intro x36 e35
    have h1 := h1 x36 e35
    have h2 := h2 x36 e35
    exact hX18 _ _ _ _ h1 h2
theorem fd_X0_keepForUndo_18 {Q : HS → Prop} {v0 : Nat} {v1 : Nat} {v2 : Int32} {S : HS} (h : B_X0_keepForUndo_18 Q (P_X0_keepForUndo_18 Q) v0 v1 v2 S) : P_X0_keepForUndo_18 Q v0 v1 v2 S := fun X hX => hX v0 v1 v2 S (cmB_X0_keepForUndo_18 h h (fun _ a _ => a) (fun _ _ _ _ hp _ => hp X hX))
theorem uf_X0_keepForUndo_18 {Q : HS → Prop} {v0 : Nat} {v1 : Nat} {v2 : Int32} {S : HS} (h : P_X0_keepForUndo_18 Q v0 v1 v2 S) : B_X0_keepForUndo_18 Q (P_X0_keepForUndo_18 Q) v0 v1 v2 S := h (fun v0 v1 v2 S => B_X0_keepForUndo_18 Q (P_X0_keepForUndo_18 Q) v0 v1 v2 S) (fun v0 v1 v2 S hB => cmB_X0_keepForUndo_18 hB hB (fun _ a _ => a) (fun _ _ _ _ hb _ => fd_X0_keepForUndo_18 hb))
theorem cm_X0_keepForUndo_18 {Q1 Q2 Q3 : HS → Prop} {v0 : Nat} {v1 : Nat} {v2 : Int32} {S : HS} (h1 : P_X0_keepForUndo_18 Q1 v0 v1 v2 S) (h2 : P_X0_keepForUndo_18 Q2 v0 v1 v2 S) (hq : ∀ (T : HS), Q1 T → Q2 T → Q3 T) : P_X0_keepForUndo_18 Q3 v0 v1 v2 S := h1 (fun v0 v1 v2 S => P_X0_keepForUndo_18 Q2 v0 v1 v2 S → P_X0_keepForUndo_18 Q3 v0 v1 v2 S) (fun v0 v1 v2 S hB hp => fd_X0_keepForUndo_18 (cmB_X0_keepForUndo_18 hB (uf_X0_keepForUndo_18 hp) hq (fun _ _ _ _ hx hp => hx hp))) h2
set_option maxRecDepth 20000 in
set_option maxHeartbeats 1000000 in
theorem cm_X0_keepForUndo_0 {Q1 Q2 Q3 : HS → Prop} {v0 : Nat} {S : HS} (h1 : P_X0_keepForUndo_0 Q1 v0 S) (h2 : P_X0_keepForUndo_0 Q2 v0 S) (hq : ∀ (T : HS), Q1 T → Q2 T → Q3 T) : P_X0_keepForUndo_0 Q3 v0 S := by
  delta P_X0_keepForUndo_0 at h1 h2 ⊢
  obtain ⟨c1, h1⟩ := h1
  obtain ⟨_, h2⟩ := h2
  refine ⟨c1, ?_⟩
  intro x3 e2
  have h1 := h1 x3 e2
  have h2 := h2 x3 e2
  refine ⟨?_, ?_⟩
  · intro c4
    have h1 := h1.1 c4
    have h2 := h2.1 c4
    exact cm_X0_keepForUndo_58 h1 h2 hq
  · intro c5
    have h1 := h1.2 c5
    have h2 := h2.2 c5
    obtain ⟨b6, e7, h1⟩ := h1
    obtain ⟨b8, e9, h2⟩ := h2
    cases e7.symm.trans e9
    refine ⟨b6, e7, ?_⟩
    obtain ⟨c10, h1⟩ := h1
    obtain ⟨_, h2⟩ := h2
    refine ⟨c10, ?_⟩
    obtain ⟨c11, h1⟩ := h1
    obtain ⟨_, h2⟩ := h2
    refine ⟨c11, ?_⟩
    obtain ⟨b12, e13, h1⟩ := h1
    obtain ⟨b14, e15, h2⟩ := h2
    cases e13.symm.trans e15
    refine ⟨b12, e13, ?_⟩
    exact cm_X0_keepForUndo_18 h1 h2 hq
theorem cm_X0_keepForUndo {Q1 Q2 Q3 : HS → Prop} {v0 : Nat} {S : HS} (h1 : P_X0_keepForUndo v0 Q1 S) (h2 : P_X0_keepForUndo v0 Q2 S) (hq : ∀ (T : HS), Q1 T → Q2 T → Q3 T) : P_X0_keepForUndo v0 Q3 S := cm_X0_keepForUndo_0 h1 h2 hq
set_option maxRecDepth 20000 in
set_option maxHeartbeats 1000000 in
theorem cm_X0_rainsIn_0 {Q1 Q2 Q3 : Int32 → HS → Prop} {v0 : Nat} {v1 : Int32} {S : HS} (h1 : P_X0_rainsIn_0 Q1 v0 v1 S) (h2 : P_X0_rainsIn_0 Q2 v0 v1 S) (hq : ∀ (r : Int32) (T : HS), Q1 r T → Q2 r T → Q3 r T) : P_X0_rainsIn_0 Q3 v0 v1 S := by
  delta P_X0_rainsIn_0 at h1 h2 ⊢
  refine ⟨?_, ?_⟩
  · intro c1
    have h1 := h1.1 c1
    have h2 := h2.1 c1
    exact hq _ _ h1 h2
  · intro c2
    have h1 := h1.2 c2
    have h2 := h2.2 c2
    refine ⟨?_, ?_⟩
    · intro c3
      have h1 := h1.1 c3
      have h2 := h2.1 c3
      exact hq _ _ h1 h2
    · intro c4
      have h1 := h1.2 c4
      have h2 := h2.2 c4
      obtain ⟨c5, h1⟩ := h1
      obtain ⟨_, h2⟩ := h2
      refine ⟨c5, ?_⟩
      intro x7 e6
      have h1 := h1 x7 e6
      have h2 := h2 x7 e6
      refine ⟨?_, ?_⟩
      · intro c8
        have h1 := h1.1 c8
        have h2 := h2.1 c8
        exact hq _ _ h1 h2
      · intro c9
        have h1 := h1.2 c9
        have h2 := h2.2 c9
        exact hq _ _ h1 h2
theorem cm_X0_rainsIn {Q1 Q2 Q3 : Int32 → HS → Prop} {v0 : Nat} {v1 : Int32} {S : HS} (h1 : P_X0_rainsIn v0 v1 Q1 S) (h2 : P_X0_rainsIn v0 v1 Q2 S) (hq : ∀ (r : Int32) (T : HS), Q1 r T → Q2 r T → Q3 r T) : P_X0_rainsIn v0 v1 Q3 S := cm_X0_rainsIn_0 h1 h2 hq
set_option maxRecDepth 20000 in
set_option maxHeartbeats 1000000 in
theorem cm_X0_returnTo_0 {Q1 Q2 Q3 : Int32 → HS → Prop} {v0 : Nat} {v1 : Int32} {S : HS} (h1 : P_X0_returnTo_0 Q1 v0 v1 S) (h2 : P_X0_returnTo_0 Q2 v0 v1 S) (hq : ∀ (r : Int32) (T : HS), Q1 r T → Q2 r T → Q3 r T) : P_X0_returnTo_0 Q3 v0 v1 S := by
  delta P_X0_returnTo_0 at h1 h2 ⊢
  refine ⟨?_, ?_⟩
  · intro c1
    have h1 := h1.1 c1
    have h2 := h2.1 c1
    exact hq _ _ h1 h2
  · intro c2
    have h1 := h1.2 c2
    have h2 := h2.2 c2
    obtain ⟨c3, h1⟩ := h1
    obtain ⟨_, h2⟩ := h2
    refine ⟨c3, ?_⟩
    intro x5 e4
    have h1 := h1 x5 e4
    have h2 := h2 x5 e4
    refine ⟨?_, ?_⟩
    · intro c6
      have h1 := h1.1 c6
      have h2 := h2.1 c6
      obtain ⟨b7, e8, h1⟩ := h1
      obtain ⟨b9, e10, h2⟩ := h2
      cases e8.symm.trans e10
      refine ⟨b7, e8, ?_⟩
      obtain ⟨b11, e12, h1⟩ := h1
      obtain ⟨b13, e14, h2⟩ := h2
      cases e12.symm.trans e14
      refine ⟨b11, e12, ?_⟩
      obtain ⟨c15, h1⟩ := h1
      obtain ⟨_, h2⟩ := h2
      refine ⟨c15, ?_⟩
      obtain ⟨c16, h1⟩ := h1
      obtain ⟨_, h2⟩ := h2
      refine ⟨c16, ?_⟩
      obtain ⟨b17, e18, h1⟩ := h1
      obtain ⟨b19, e20, h2⟩ := h2
      cases e18.symm.trans e20
      refine ⟨b17, e18, ?_⟩
      obtain ⟨c21, h1⟩ := h1
      obtain ⟨_, h2⟩ := h2
      refine ⟨c21, ?_⟩
      refine cm_X2_copy h1 h2 (fun x22 h1 h2 g23 => ?_)
      have h1 := h1 g23
      have h2 := h2 g23
      intro x25 e24
      have h1 := h1 x25 e24
      have h2 := h2 x25 e24
      exact hq _ _ h1 h2
    · intro c26
      have h1 := h1.2 c26
      have h2 := h2.2 c26
      exact hq _ _ h1 h2
theorem cm_X0_returnTo {Q1 Q2 Q3 : Int32 → HS → Prop} {v0 : Nat} {v1 : Int32} {S : HS} (h1 : P_X0_returnTo v0 v1 Q1 S) (h2 : P_X0_returnTo v0 v1 Q2 S) (hq : ∀ (r : Int32) (T : HS), Q1 r T → Q2 r T → Q3 r T) : P_X0_returnTo v0 v1 Q3 S := cm_X0_returnTo_0 h1 h2 hq
set_option maxRecDepth 20000 in
set_option maxHeartbeats 1000000 in
theorem cm_X0_setMark_0 {Q1 Q2 Q3 : Int32 → HS → Prop} {v0 : Nat} {S : HS} (h1 : P_X0_setMark_0 Q1 v0 S) (h2 : P_X0_setMark_0 Q2 v0 S) (hq : ∀ (r : Int32) (T : HS), Q1 r T → Q2 r T → Q3 r T) : P_X0_setMark_0 Q3 v0 S := by
  delta P_X0_setMark_0 at h1 h2 ⊢
  obtain ⟨c1, h1⟩ := h1
  obtain ⟨_, h2⟩ := h2
  refine ⟨c1, ?_⟩
  intro x3 e2
  have h1 := h1 x3 e2
  have h2 := h2 x3 e2
  refine ⟨?_, ?_⟩
  · intro c4
    have h1 := h1.1 c4
    have h2 := h2.1 c4
    obtain ⟨b5, e6, h1⟩ := h1
    obtain ⟨b7, e8, h2⟩ := h2
    cases e6.symm.trans e8
    refine ⟨b5, e6, ?_⟩
    intro x10 e9
    have h1 := h1 x10 e9
    have h2 := h2 x10 e9
    obtain ⟨c11, h1⟩ := h1
    obtain ⟨_, h2⟩ := h2
    refine ⟨c11, ?_⟩
    obtain ⟨c12, h1⟩ := h1
    obtain ⟨_, h2⟩ := h2
    refine ⟨c12, ?_⟩
    obtain ⟨b13, e14, h1⟩ := h1
    obtain ⟨b15, e16, h2⟩ := h2
    cases e14.symm.trans e16
    refine ⟨b13, e14, ?_⟩
    obtain ⟨b17, e18, h1⟩ := h1
    obtain ⟨b19, e20, h2⟩ := h2
    cases e18.symm.trans e20
    refine ⟨b17, e18, ?_⟩
    obtain ⟨c21, h1⟩ := h1
    obtain ⟨_, h2⟩ := h2
    refine ⟨c21, ?_⟩
    refine cm_X2_copy h1 h2 (fun x22 h1 h2 g23 => ?_)
    have h1 := h1 g23
    have h2 := h2 g23
    intro x25 e24
    have h1 := h1 x25 e24
    have h2 := h2 x25 e24
    intro x27 e26
    have h1 := h1 x27 e26
    have h2 := h2 x27 e26
    intro x29 e28
    have h1 := h1 x29 e28
    have h2 := h2 x29 e28
    intro x31 e30
    have h1 := h1 x31 e30
    have h2 := h2 x31 e30
    exact hq _ _ h1 h2
  · intro c32
    have h1 := h1.2 c32
    have h2 := h2.2 c32
    exact hq _ _ h1 h2
theorem cm_X0_setMark {Q1 Q2 Q3 : Int32 → HS → Prop} {v0 : Nat} {S : HS} (h1 : P_X0_setMark v0 Q1 S) (h2 : P_X0_setMark v0 Q2 S) (hq : ∀ (r : Int32) (T : HS), Q1 r T → Q2 r T → Q3 r T) : P_X0_setMark v0 Q3 S := cm_X0_setMark_0 h1 h2 hq
set_option maxRecDepth 20000 in
set_option maxHeartbeats 1000000 in
theorem cm_X0_takeBack_0 {Q1 Q2 Q3 : Int32 → HS → Prop} {v0 : Nat} {S : HS} (h1 : P_X0_takeBack_0 Q1 v0 S) (h2 : P_X0_takeBack_0 Q2 v0 S) (hq : ∀ (r : Int32) (T : HS), Q1 r T → Q2 r T → Q3 r T) : P_X0_takeBack_0 Q3 v0 S := by
  delta P_X0_takeBack_0 at h1 h2 ⊢
  obtain ⟨c1, h1⟩ := h1
  obtain ⟨_, h2⟩ := h2
  refine ⟨c1, ?_⟩
  intro x3 e2
  have h1 := h1 x3 e2
  have h2 := h2 x3 e2
  refine ⟨?_, ?_⟩
  · intro c4
    have h1 := h1.1 c4
    have h2 := h2.1 c4
    intro x6 e5
    have h1 := h1 x6 e5
    have h2 := h2 x6 e5
    intro x8 e7
    have h1 := h1 x8 e7
    have h2 := h2 x8 e7
    intro x10 e9
    have h1 := h1 x10 e9
    have h2 := h2 x10 e9
    obtain ⟨b11, e12, h1⟩ := h1
    obtain ⟨b13, e14, h2⟩ := h2
    cases e12.symm.trans e14
    refine ⟨b11, e12, ?_⟩
    obtain ⟨b15, e16, h1⟩ := h1
    obtain ⟨b17, e18, h2⟩ := h2
    cases e16.symm.trans e18
    refine ⟨b15, e16, ?_⟩
    intro x20 e19
    have h1 := h1 x20 e19
    have h2 := h2 x20 e19
    obtain ⟨c21, h1⟩ := h1
    obtain ⟨_, h2⟩ := h2
    refine ⟨c21, ?_⟩
    obtain ⟨c22, h1⟩ := h1
    obtain ⟨_, h2⟩ := h2
    refine ⟨c22, ?_⟩
    obtain ⟨b23, e24, h1⟩ := h1
    obtain ⟨b25, e26, h2⟩ := h2
    cases e24.symm.trans e26
    refine ⟨b23, e24, ?_⟩
    obtain ⟨c27, h1⟩ := h1
    obtain ⟨_, h2⟩ := h2
    refine ⟨c27, ?_⟩
    refine cm_X2_copy h1 h2 (fun x28 h1 h2 g29 => ?_)
    have h1 := h1 g29
    have h2 := h2 g29
    exact hq _ _ h1 h2
  · intro c30
    have h1 := h1.2 c30
    have h2 := h2.2 c30
    exact hq _ _ h1 h2
theorem cm_X0_takeBack {Q1 Q2 Q3 : Int32 → HS → Prop} {v0 : Nat} {S : HS} (h1 : P_X0_takeBack v0 Q1 S) (h2 : P_X0_takeBack v0 Q2 S) (hq : ∀ (r : Int32) (T : HS), Q1 r T → Q2 r T → Q3 r T) : P_X0_takeBack v0 Q3 S := cm_X0_takeBack_0 h1 h2 hq
set_option maxRecDepth 20000 in
set_option maxHeartbeats 1000000 in
theorem cm_X10_facing_0 {Q1 Q2 Q3 : Int32 → HS → Prop} {v0 : Nat} {v1 : Int32} {v2 : Int32} {S : HS} (h1 : P_X10_facing_0 Q1 v0 v1 v2 S) (h2 : P_X10_facing_0 Q2 v0 v1 v2 S) (hq : ∀ (r : Int32) (T : HS), Q1 r T → Q2 r T → Q3 r T) : P_X10_facing_0 Q3 v0 v1 v2 S := by
  delta P_X10_facing_0 at h1 h2 ⊢
  refine ⟨?_, ?_⟩
  · intro c1
    have h1 := h1.1 c1
    have h2 := h2.1 c1
    obtain ⟨c2, h1⟩ := h1
    obtain ⟨_, h2⟩ := h2
    refine ⟨c2, ?_⟩
    obtain ⟨b3, e4, h1⟩ := h1
    obtain ⟨b5, e6, h2⟩ := h2
    cases e4.symm.trans e6
    refine ⟨b3, e4, ?_⟩
    obtain ⟨c7, h1⟩ := h1
    obtain ⟨_, h2⟩ := h2
    refine ⟨c7, ?_⟩
    obtain ⟨c8, h1⟩ := h1
    obtain ⟨_, h2⟩ := h2
    refine ⟨c8, ?_⟩
    intro x10 e9
    have h1 := h1 x10 e9
    have h2 := h2 x10 e9
    exact hq _ _ h1 h2
  · intro c11
    have h1 := h1.2 c11
    have h2 := h2.2 c11
    obtain ⟨c12, h1⟩ := h1
    obtain ⟨_, h2⟩ := h2
    refine ⟨c12, ?_⟩
    obtain ⟨b13, e14, h1⟩ := h1
    obtain ⟨b15, e16, h2⟩ := h2
    cases e14.symm.trans e16
    refine ⟨b13, e14, ?_⟩
    obtain ⟨c17, h1⟩ := h1
    obtain ⟨_, h2⟩ := h2
    refine ⟨c17, ?_⟩
    obtain ⟨c18, h1⟩ := h1
    obtain ⟨_, h2⟩ := h2
    refine ⟨c18, ?_⟩
    intro x20 e19
    have h1 := h1 x20 e19
    have h2 := h2 x20 e19
    exact hq _ _ h1 h2
theorem cm_X10_facing {Q1 Q2 Q3 : Int32 → HS → Prop} {v0 : Nat} {v1 : Int32} {v2 : Int32} {S : HS} (h1 : P_X10_facing v0 v1 v2 Q1 S) (h2 : P_X10_facing v0 v1 v2 Q2 S) (hq : ∀ (r : Int32) (T : HS), Q1 r T → Q2 r T → Q3 r T) : P_X10_facing v0 v1 v2 Q3 S := cm_X10_facing_0 h1 h2 hq
set_option maxRecDepth 20000 in
set_option maxHeartbeats 1000000 in
theorem cm_X10_across_0 {Q1 Q2 Q3 : Int32 → HS → Prop} {v0 : Nat} {v1 : Int32} {v2 : Int32} {v3 : Int32} {S : HS} (h1 : P_X10_across_0 Q1 v0 v1 v2 v3 S) (h2 : P_X10_across_0 Q2 v0 v1 v2 v3 S) (hq : ∀ (r : Int32) (T : HS), Q1 r T → Q2 r T → Q3 r T) : P_X10_across_0 Q3 v0 v1 v2 v3 S := by
  delta P_X10_across_0 at h1 h2 ⊢
  obtain ⟨c1, h1⟩ := h1
  obtain ⟨_, h2⟩ := h2
  refine ⟨c1, ?_⟩
  obtain ⟨b2, e3, h1⟩ := h1
  obtain ⟨b4, e5, h2⟩ := h2
  cases e3.symm.trans e5
  refine ⟨b2, e3, ?_⟩
  obtain ⟨c6, h1⟩ := h1
  obtain ⟨_, h2⟩ := h2
  refine ⟨c6, ?_⟩
  obtain ⟨c7, h1⟩ := h1
  obtain ⟨_, h2⟩ := h2
  refine ⟨c7, ?_⟩
  intro x9 e8
  have h1 := h1 x9 e8
  have h2 := h2 x9 e8
  refine cm_X10_facing h1 h2 (fun x10 x11 h1 h2 g12 => ?_)
  have h1 := h1 g12
  have h2 := h2 g12
  intro x14 e13
  have h1 := h1 x14 e13
  have h2 := h2 x14 e13
  refine ⟨?_, ?_⟩
  · intro c15
    have h1 := h1.1 c15
    have h2 := h2.1 c15
    refine ⟨?_, ?_⟩
    · intro c16
      have h1 := h1.1 c16
      have h2 := h2.1 c16
      exact hq _ _ h1 h2
    · intro c17
      have h1 := h1.2 c17
      have h2 := h2.2 c17
      obtain ⟨b18, e19, h1⟩ := h1
      obtain ⟨b20, e21, h2⟩ := h2
      cases e19.symm.trans e21
      refine ⟨b18, e19, ?_⟩
      obtain ⟨c22, h1⟩ := h1
      obtain ⟨_, h2⟩ := h2
      refine ⟨c22, ?_⟩
      obtain ⟨c23, h1⟩ := h1
      obtain ⟨_, h2⟩ := h2
      refine ⟨c23, ?_⟩
      intro x25 e24
      have h1 := h1 x25 e24
      have h2 := h2 x25 e24
      exact hq _ _ h1 h2
  · intro c26
    have h1 := h1.2 c26
    have h2 := h2.2 c26
    obtain ⟨b27, e28, h1⟩ := h1
    obtain ⟨b29, e30, h2⟩ := h2
    cases e28.symm.trans e30
    refine ⟨b27, e28, ?_⟩
    obtain ⟨c31, h1⟩ := h1
    obtain ⟨_, h2⟩ := h2
    refine ⟨c31, ?_⟩
    obtain ⟨c32, h1⟩ := h1
    obtain ⟨_, h2⟩ := h2
    refine ⟨c32, ?_⟩
    intro x34 e33
    have h1 := h1 x34 e33
    have h2 := h2 x34 e33
    exact hq _ _ h1 h2
theorem cm_X10_across {Q1 Q2 Q3 : Int32 → HS → Prop} {v0 : Nat} {v1 : Int32} {v2 : Int32} {v3 : Int32} {S : HS} (h1 : P_X10_across v0 v1 v2 v3 Q1 S) (h2 : P_X10_across v0 v1 v2 v3 Q2 S) (hq : ∀ (r : Int32) (T : HS), Q1 r T → Q2 r T → Q3 r T) : P_X10_across v0 v1 v2 v3 Q3 S := cm_X10_across_0 h1 h2 hq
set_option maxRecDepth 20000 in
set_option maxHeartbeats 1000000 in
theorem cm_X10_air_0 {Q1 Q2 Q3 : Int32 → HS → Prop} {v0 : Nat} {v1 : Int32} {v2 : Int32} {v3 : Int32} {S : HS} (h1 : P_X10_air_0 Q1 v0 v1 v2 v3 S) (h2 : P_X10_air_0 Q2 v0 v1 v2 v3 S) (hq : ∀ (r : Int32) (T : HS), Q1 r T → Q2 r T → Q3 r T) : P_X10_air_0 Q3 v0 v1 v2 v3 S := by
  delta P_X10_air_0 at h1 h2 ⊢
  obtain ⟨c1, h1⟩ := h1
  obtain ⟨_, h2⟩ := h2
  refine ⟨c1, ?_⟩
  obtain ⟨b2, e3, h1⟩ := h1
  obtain ⟨b4, e5, h2⟩ := h2
  cases e3.symm.trans e5
  refine ⟨b2, e3, ?_⟩
  obtain ⟨c6, h1⟩ := h1
  obtain ⟨_, h2⟩ := h2
  refine ⟨c6, ?_⟩
  obtain ⟨c7, h1⟩ := h1
  obtain ⟨_, h2⟩ := h2
  refine ⟨c7, ?_⟩
  intro x9 e8
  have h1 := h1 x9 e8
  have h2 := h2 x9 e8
  refine cm_X10_facing h1 h2 (fun x10 x11 h1 h2 g12 => ?_)
  have h1 := h1 g12
  have h2 := h2 g12
  intro x14 e13
  have h1 := h1 x14 e13
  have h2 := h2 x14 e13
  refine ⟨?_, ?_⟩
  · intro c15
    have h1 := h1.1 c15
    have h2 := h2.1 c15
    refine ⟨?_, ?_⟩
    · intro c16
      have h1 := h1.1 c16
      have h2 := h2.1 c16
      exact hq _ _ h1 h2
    · intro c17
      have h1 := h1.2 c17
      have h2 := h2.2 c17
      obtain ⟨b18, e19, h1⟩ := h1
      obtain ⟨b20, e21, h2⟩ := h2
      cases e19.symm.trans e21
      refine ⟨b18, e19, ?_⟩
      obtain ⟨c22, h1⟩ := h1
      obtain ⟨_, h2⟩ := h2
      refine ⟨c22, ?_⟩
      obtain ⟨c23, h1⟩ := h1
      obtain ⟨_, h2⟩ := h2
      refine ⟨c23, ?_⟩
      intro x25 e24
      have h1 := h1 x25 e24
      have h2 := h2 x25 e24
      exact hq _ _ h1 h2
  · intro c26
    have h1 := h1.2 c26
    have h2 := h2.2 c26
    obtain ⟨b27, e28, h1⟩ := h1
    obtain ⟨b29, e30, h2⟩ := h2
    cases e28.symm.trans e30
    refine ⟨b27, e28, ?_⟩
    obtain ⟨c31, h1⟩ := h1
    obtain ⟨_, h2⟩ := h2
    refine ⟨c31, ?_⟩
    obtain ⟨c32, h1⟩ := h1
    obtain ⟨_, h2⟩ := h2
    refine ⟨c32, ?_⟩
    intro x34 e33
    have h1 := h1 x34 e33
    have h2 := h2 x34 e33
    exact hq _ _ h1 h2
theorem cm_X10_air {Q1 Q2 Q3 : Int32 → HS → Prop} {v0 : Nat} {v1 : Int32} {v2 : Int32} {v3 : Int32} {S : HS} (h1 : P_X10_air v0 v1 v2 v3 Q1 S) (h2 : P_X10_air v0 v1 v2 v3 Q2 S) (hq : ∀ (r : Int32) (T : HS), Q1 r T → Q2 r T → Q3 r T) : P_X10_air v0 v1 v2 v3 Q3 S := cm_X10_air_0 h1 h2 hq
set_option maxRecDepth 20000 in
set_option maxHeartbeats 1000000 in
theorem cm_X10_begins_0 {Q1 Q2 Q3 : Int32 → HS → Prop} {v0 : Nat} {v1 : Int32} {v2 : Int32} {S : HS} (h1 : P_X10_begins_0 Q1 v0 v1 v2 S) (h2 : P_X10_begins_0 Q2 v0 v1 v2 S) (hq : ∀ (r : Int32) (T : HS), Q1 r T → Q2 r T → Q3 r T) : P_X10_begins_0 Q3 v0 v1 v2 S := by
  delta P_X10_begins_0 at h1 h2 ⊢
  refine ⟨?_, ?_⟩
  · intro c1
    have h1 := h1.1 c1
    have h2 := h2.1 c1
    obtain ⟨c2, h1⟩ := h1
    obtain ⟨_, h2⟩ := h2
    refine ⟨c2, ?_⟩
    obtain ⟨b3, e4, h1⟩ := h1
    obtain ⟨b5, e6, h2⟩ := h2
    cases e4.symm.trans e6
    refine ⟨b3, e4, ?_⟩
    obtain ⟨c7, h1⟩ := h1
    obtain ⟨_, h2⟩ := h2
    refine ⟨c7, ?_⟩
    obtain ⟨c8, h1⟩ := h1
    obtain ⟨_, h2⟩ := h2
    refine ⟨c8, ?_⟩
    intro x10 e9
    have h1 := h1 x10 e9
    have h2 := h2 x10 e9
    exact hq _ _ h1 h2
  · intro c11
    have h1 := h1.2 c11
    have h2 := h2.2 c11
    obtain ⟨c12, h1⟩ := h1
    obtain ⟨_, h2⟩ := h2
    refine ⟨c12, ?_⟩
    obtain ⟨b13, e14, h1⟩ := h1
    obtain ⟨b15, e16, h2⟩ := h2
    cases e14.symm.trans e16
    refine ⟨b13, e14, ?_⟩
    obtain ⟨c17, h1⟩ := h1
    obtain ⟨_, h2⟩ := h2
    refine ⟨c17, ?_⟩
    obtain ⟨c18, h1⟩ := h1
    obtain ⟨_, h2⟩ := h2
    refine ⟨c18, ?_⟩
    intro x20 e19
    have h1 := h1 x20 e19
    have h2 := h2 x20 e19
    exact hq _ _ h1 h2
theorem cm_X10_begins {Q1 Q2 Q3 : Int32 → HS → Prop} {v0 : Nat} {v1 : Int32} {v2 : Int32} {S : HS} (h1 : P_X10_begins v0 v1 v2 Q1 S) (h2 : P_X10_begins v0 v1 v2 Q2 S) (hq : ∀ (r : Int32) (T : HS), Q1 r T → Q2 r T → Q3 r T) : P_X10_begins v0 v1 v2 Q3 S := cm_X10_begins_0 h1 h2 hq
set_option maxRecDepth 20000 in
set_option maxHeartbeats 1000000 in
theorem cm_X10_ends_0 {Q1 Q2 Q3 : Int32 → HS → Prop} {v0 : Nat} {v1 : Int32} {v2 : Int32} {S : HS} (h1 : P_X10_ends_0 Q1 v0 v1 v2 S) (h2 : P_X10_ends_0 Q2 v0 v1 v2 S) (hq : ∀ (r : Int32) (T : HS), Q1 r T → Q2 r T → Q3 r T) : P_X10_ends_0 Q3 v0 v1 v2 S := by
  delta P_X10_ends_0 at h1 h2 ⊢
  refine ⟨?_, ?_⟩
  · intro c1
    have h1 := h1.1 c1
    have h2 := h2.1 c1
    obtain ⟨c2, h1⟩ := h1
    obtain ⟨_, h2⟩ := h2
    refine ⟨c2, ?_⟩
    obtain ⟨b3, e4, h1⟩ := h1
    obtain ⟨b5, e6, h2⟩ := h2
    cases e4.symm.trans e6
    refine ⟨b3, e4, ?_⟩
    obtain ⟨c7, h1⟩ := h1
    obtain ⟨_, h2⟩ := h2
    refine ⟨c7, ?_⟩
    obtain ⟨c8, h1⟩ := h1
    obtain ⟨_, h2⟩ := h2
    refine ⟨c8, ?_⟩
    intro x10 e9
    have h1 := h1 x10 e9
    have h2 := h2 x10 e9
    exact hq _ _ h1 h2
  · intro c11
    have h1 := h1.2 c11
    have h2 := h2.2 c11
    obtain ⟨c12, h1⟩ := h1
    obtain ⟨_, h2⟩ := h2
    refine ⟨c12, ?_⟩
    obtain ⟨b13, e14, h1⟩ := h1
    obtain ⟨b15, e16, h2⟩ := h2
    cases e14.symm.trans e16
    refine ⟨b13, e14, ?_⟩
    obtain ⟨c17, h1⟩ := h1
    obtain ⟨_, h2⟩ := h2
    refine ⟨c17, ?_⟩
    obtain ⟨c18, h1⟩ := h1
    obtain ⟨_, h2⟩ := h2
    refine ⟨c18, ?_⟩
    intro x20 e19
    have h1 := h1 x20 e19
    have h2 := h2 x20 e19
    exact hq _ _ h1 h2
theorem cm_X10_ends {Q1 Q2 Q3 : Int32 → HS → Prop} {v0 : Nat} {v1 : Int32} {v2 : Int32} {S : HS} (h1 : P_X10_ends v0 v1 v2 Q1 S) (h2 : P_X10_ends v0 v1 v2 Q2 S) (hq : ∀ (r : Int32) (T : HS), Q1 r T → Q2 r T → Q3 r T) : P_X10_ends v0 v1 v2 Q3 S := cm_X10_ends_0 h1 h2 hq
set_option maxRecDepth 20000 in
set_option maxHeartbeats 1000000 in
theorem cmB_X10_find_2 {Q1 Q2 Q3 : Int32 → HS → Prop} {X2_1 X2_2 X2_3 : Nat → Int64 → Int32 → HS → Prop} {v0 : Nat} {v1 : Int64} {v3 : Int32} {S : HS} (h1 : B_X10_find_2 Q1 X2_1 v0 v1 v3 S) (h2 : B_X10_find_2 Q2 X2_2 v0 v1 v3 S) (hq : ∀ (r : Int32) (T : HS), Q1 r T → Q2 r T → Q3 r T) (hX2 : ∀ (u0 : Nat) (u1 : Int64) (u2 : Int32) (u3 : HS), X2_1 u0 u1 u2 u3 → X2_2 u0 u1 u2 u3 → X2_3 u0 u1 u2 u3) : B_X10_find_2 Q3 X2_3 v0 v1 v3 S := by
  delta B_X10_find_2 at h1 h2 ⊢
  obtain ⟨c1, h1⟩ := h1
  obtain ⟨_, h2⟩ := h2
  refine ⟨c1, ?_⟩
  intro x3 e2
  have h1 := h1 x3 e2
  have h2 := h2 x3 e2
  refine ⟨?_, ?_⟩
  · intro c4
    have h1 := h1.1 c4
    have h2 := h2.1 c4
    exact hq _ _ h1 h2
  · intro c5
    have h1 := h1.2 c5
    have h2 := h2.2 c5
    obtain ⟨b6, e7, h1⟩ := h1
    obtain ⟨b8, e9, h2⟩ := h2
    cases e7.symm.trans e9
    refine ⟨b6, e7, ?_⟩
    obtain ⟨c10, h1⟩ := h1
    obtain ⟨_, h2⟩ := h2
    refine ⟨c10, ?_⟩
    obtain ⟨c11, h1⟩ := h1
    obtain ⟨_, h2⟩ := h2
    refine ⟨c11, ?_⟩
    intro x13 e12
    have h1 := h1 x13 e12
    have h2 := h2 x13 e12
    refine ⟨?_, ?_⟩
    · intro c14
      have h1 := h1.1 c14
      have h2 := h2.1 c14
      intro x16 e15
      have h1 := h1 x16 e15
      have h2 := h2 x16 e15
      exact hX2 _ _ _ _ h1 h2
    · intro c17
      have h1 := h1.2 c17
      have h2 := h2.2 c17
      exact hq _ _ h1 h2
theorem fd_X10_find_2 {Q : Int32 → HS → Prop} {v0 : Nat} {v1 : Int64} {v3 : Int32} {S : HS} (h : B_X10_find_2 Q (P_X10_find_2 Q) v0 v1 v3 S) : P_X10_find_2 Q v0 v1 v3 S := fun X hX => hX v0 v1 v3 S (cmB_X10_find_2 h h (fun _ _ a _ => a) (fun _ _ _ _ hp _ => hp X hX))
theorem uf_X10_find_2 {Q : Int32 → HS → Prop} {v0 : Nat} {v1 : Int64} {v3 : Int32} {S : HS} (h : P_X10_find_2 Q v0 v1 v3 S) : B_X10_find_2 Q (P_X10_find_2 Q) v0 v1 v3 S := h (fun v0 v1 v3 S => B_X10_find_2 Q (P_X10_find_2 Q) v0 v1 v3 S) (fun v0 v1 v3 S hB => cmB_X10_find_2 hB hB (fun _ _ a _ => a) (fun _ _ _ _ hb _ => fd_X10_find_2 hb))
theorem cm_X10_find_2 {Q1 Q2 Q3 : Int32 → HS → Prop} {v0 : Nat} {v1 : Int64} {v3 : Int32} {S : HS} (h1 : P_X10_find_2 Q1 v0 v1 v3 S) (h2 : P_X10_find_2 Q2 v0 v1 v3 S) (hq : ∀ (r : Int32) (T : HS), Q1 r T → Q2 r T → Q3 r T) : P_X10_find_2 Q3 v0 v1 v3 S := h1 (fun v0 v1 v3 S => P_X10_find_2 Q2 v0 v1 v3 S → P_X10_find_2 Q3 v0 v1 v3 S) (fun v0 v1 v3 S hB hp => fd_X10_find_2 (cmB_X10_find_2 hB (uf_X10_find_2 hp) hq (fun _ _ _ _ hx hp => hx hp))) h2
set_option maxRecDepth 20000 in
set_option maxHeartbeats 1000000 in
theorem cm_X10_find_0 {Q1 Q2 Q3 : Int32 → HS → Prop} {v0 : Nat} {v1 : Int64} {S : HS} (h1 : P_X10_find_0 Q1 v0 v1 S) (h2 : P_X10_find_0 Q2 v0 v1 S) (hq : ∀ (r : Int32) (T : HS), Q1 r T → Q2 r T → Q3 r T) : P_X10_find_0 Q3 v0 v1 S := by
  delta P_X10_find_0 at h1 h2 ⊢
  exact cm_X10_find_2 h1 h2 hq
theorem cm_X10_find {Q1 Q2 Q3 : Int32 → HS → Prop} {v0 : Nat} {v1 : Int64} {S : HS} (h1 : P_X10_find v0 v1 Q1 S) (h2 : P_X10_find v0 v1 Q2 S) (hq : ∀ (r : Int32) (T : HS), Q1 r T → Q2 r T → Q3 r T) : P_X10_find v0 v1 Q3 S := cm_X10_find_0 h1 h2 hq
set_option maxRecDepth 20000 in
set_option maxHeartbeats 1000000 in
theorem cm_X10_init_0 {Q1 Q2 Q3 : HS → Prop} {v0 : Nat} {S : HS} (h1 : P_X10_init_0 Q1 v0 S) (h2 : P_X10_init_0 Q2 v0 S) (hq : ∀ (T : HS), Q1 T → Q2 T → Q3 T) : P_X10_init_0 Q3 v0 S := by
  delta P_X10_init_0 at h1 h2 ⊢
  intro x2 e1
  have h1 := h1 x2 e1
  have h2 := h2 x2 e1
  intro x4 e3
  have h1 := h1 x4 e3
  have h2 := h2 x4 e3
  obtain ⟨c5, h1⟩ := h1
  obtain ⟨_, h2⟩ := h2
  refine ⟨c5, ?_⟩
  intro x7 e6
  have h1 := h1 x7 e6
  have h2 := h2 x7 e6
  intro x9 e8
  have h1 := h1 x9 e8
  have h2 := h2 x9 e8
  intro x11 e10
  have h1 := h1 x11 e10
  have h2 := h2 x11 e10
  intro x13 e12
  have h1 := h1 x13 e12
  have h2 := h2 x13 e12
  intro x15 e14
  have h1 := h1 x15 e14
  have h2 := h2 x15 e14
  intro x17 e16
  have h1 := h1 x17 e16
  have h2 := h2 x17 e16
  intro x19 e18
  have h1 := h1 x19 e18
  have h2 := h2 x19 e18
  intro x21 e20
  have h1 := h1 x21 e20
  have h2 := h2 x21 e20
  intro x23 e22
  have h1 := h1 x23 e22
  have h2 := h2 x23 e22
  intro x25 e24
  have h1 := h1 x25 e24
  have h2 := h2 x25 e24
  intro x27 e26
  have h1 := h1 x27 e26
  have h2 := h2 x27 e26
  intro x29 e28
  have h1 := h1 x29 e28
  have h2 := h2 x29 e28
  intro x31 e30
  have h1 := h1 x31 e30
  have h2 := h2 x31 e30
  intro x33 e32
  have h1 := h1 x33 e32
  have h2 := h2 x33 e32
  intro x35 e34
  have h1 := h1 x35 e34
  have h2 := h2 x35 e34
  intro x37 e36
  have h1 := h1 x37 e36
  have h2 := h2 x37 e36
  intro x39 e38
  have h1 := h1 x39 e38
  have h2 := h2 x39 e38
  intro x41 e40
  have h1 := h1 x41 e40
  have h2 := h2 x41 e40
  intro x43 e42
  have h1 := h1 x43 e42
  have h2 := h2 x43 e42
  intro x45 e44
  have h1 := h1 x45 e44
  have h2 := h2 x45 e44
  intro x47 e46
  have h1 := h1 x47 e46
  have h2 := h2 x47 e46
  intro x49 e48
  have h1 := h1 x49 e48
  have h2 := h2 x49 e48
  intro x51 e50
  have h1 := h1 x51 e50
  have h2 := h2 x51 e50
  intro x53 e52
  have h1 := h1 x53 e52
  have h2 := h2 x53 e52
  intro x55 e54
  have h1 := h1 x55 e54
  have h2 := h2 x55 e54
  intro x57 e56
  have h1 := h1 x57 e56
  have h2 := h2 x57 e56
  intro x59 e58
  have h1 := h1 x59 e58
  have h2 := h2 x59 e58
  intro x61 e60
  have h1 := h1 x61 e60
  have h2 := h2 x61 e60
  intro x63 e62
  have h1 := h1 x63 e62
  have h2 := h2 x63 e62
  intro x65 e64
  have h1 := h1 x65 e64
  have h2 := h2 x65 e64
  intro x67 e66
  have h1 := h1 x67 e66
  have h2 := h2 x67 e66
  intro x69 e68
  have h1 := h1 x69 e68
  have h2 := h2 x69 e68
  intro x71 e70
  have h1 := h1 x71 e70
  have h2 := h2 x71 e70
  intro x73 e72
  have h1 := h1 x73 e72
  have h2 := h2 x73 e72
  intro x75 e74
  have h1 := h1 x75 e74
  have h2 := h2 x75 e74
  intro x77 e76
  have h1 := h1 x77 e76
  have h2 := h2 x77 e76
  intro x79 e78
  have h1 := h1 x79 e78
  have h2 := h2 x79 e78
  intro x81 e80
  have h1 := h1 x81 e80
  have h2 := h2 x81 e80
  intro x83 e82
  have h1 := h1 x83 e82
  have h2 := h2 x83 e82
  intro x85 e84
  have h1 := h1 x85 e84
  have h2 := h2 x85 e84
  intro x87 e86
  have h1 := h1 x87 e86
  have h2 := h2 x87 e86
  intro x89 e88
  have h1 := h1 x89 e88
  have h2 := h2 x89 e88
  intro x91 e90
  have h1 := h1 x91 e90
  have h2 := h2 x91 e90
  intro x93 e92
  have h1 := h1 x93 e92
  have h2 := h2 x93 e92
  intro x95 e94
  have h1 := h1 x95 e94
  have h2 := h2 x95 e94
  intro x97 e96
  have h1 := h1 x97 e96
  have h2 := h2 x97 e96
  intro x99 e98
  have h1 := h1 x99 e98
  have h2 := h2 x99 e98
  intro x101 e100
  have h1 := h1 x101 e100
  have h2 := h2 x101 e100
  intro x103 e102
  have h1 := h1 x103 e102
  have h2 := h2 x103 e102
  intro x105 e104
  have h1 := h1 x105 e104
  have h2 := h2 x105 e104
  intro x107 e106
  have h1 := h1 x107 e106
  have h2 := h2 x107 e106
  intro x109 e108
  have h1 := h1 x109 e108
  have h2 := h2 x109 e108
  intro x111 e110
  have h1 := h1 x111 e110
  have h2 := h2 x111 e110
  intro x113 e112
  have h1 := h1 x113 e112
  have h2 := h2 x113 e112
  intro x115 e114
  have h1 := h1 x115 e114
  have h2 := h2 x115 e114
  intro x117 e116
  have h1 := h1 x117 e116
  have h2 := h2 x117 e116
  intro x119 e118
  have h1 := h1 x119 e118
  have h2 := h2 x119 e118
  intro x121 e120
  have h1 := h1 x121 e120
  have h2 := h2 x121 e120
  intro x123 e122
  have h1 := h1 x123 e122
  have h2 := h2 x123 e122
  intro x125 e124
  have h1 := h1 x125 e124
  have h2 := h2 x125 e124
  intro x127 e126
  have h1 := h1 x127 e126
  have h2 := h2 x127 e126
  intro x129 e128
  have h1 := h1 x129 e128
  have h2 := h2 x129 e128
  intro x131 e130
  have h1 := h1 x131 e130
  have h2 := h2 x131 e130
  intro x133 e132
  have h1 := h1 x133 e132
  have h2 := h2 x133 e132
  intro x135 e134
  have h1 := h1 x135 e134
  have h2 := h2 x135 e134
  intro x137 e136
  have h1 := h1 x137 e136
  have h2 := h2 x137 e136
  intro x139 e138
  have h1 := h1 x139 e138
  have h2 := h2 x139 e138
  intro x141 e140
  have h1 := h1 x141 e140
  have h2 := h2 x141 e140
  intro x143 e142
  have h1 := h1 x143 e142
  have h2 := h2 x143 e142
  intro x145 e144
  have h1 := h1 x145 e144
  have h2 := h2 x145 e144
  exact hq _ h1 h2
theorem cm_X10_init {Q1 Q2 Q3 : HS → Prop} {v0 : Nat} {S : HS} (h1 : P_X10_init v0 Q1 S) (h2 : P_X10_init v0 Q2 S) (hq : ∀ (T : HS), Q1 T → Q2 T → Q3 T) : P_X10_init v0 Q3 S := cm_X10_init_0 h1 h2 hq
set_option maxRecDepth 20000 in
set_option maxHeartbeats 1000000 in
theorem cm_X10_minutes_0 {Q1 Q2 Q3 : Int32 → HS → Prop} {v0 : Nat} {v1 : Int32} {v2 : Int32} {S : HS} (h1 : P_X10_minutes_0 Q1 v0 v1 v2 S) (h2 : P_X10_minutes_0 Q2 v0 v1 v2 S) (hq : ∀ (r : Int32) (T : HS), Q1 r T → Q2 r T → Q3 r T) : P_X10_minutes_0 Q3 v0 v1 v2 S := by
  delta P_X10_minutes_0 at h1 h2 ⊢
  obtain ⟨c1, h1⟩ := h1
  obtain ⟨_, h2⟩ := h2
  refine ⟨c1, ?_⟩
  obtain ⟨b2, e3, h1⟩ := h1
  obtain ⟨b4, e5, h2⟩ := h2
  cases e3.symm.trans e5
  refine ⟨b2, e3, ?_⟩
  obtain ⟨c6, h1⟩ := h1
  obtain ⟨_, h2⟩ := h2
  refine ⟨c6, ?_⟩
  obtain ⟨c7, h1⟩ := h1
  obtain ⟨_, h2⟩ := h2
  refine ⟨c7, ?_⟩
  intro x9 e8
  have h1 := h1 x9 e8
  have h2 := h2 x9 e8
  obtain ⟨c10, h1⟩ := h1
  obtain ⟨_, h2⟩ := h2
  refine ⟨c10, ?_⟩
  intro x12 e11
  have h1 := h1 x12 e11
  have h2 := h2 x12 e11
  exact hq _ _ h1 h2
theorem cm_X10_minutes {Q1 Q2 Q3 : Int32 → HS → Prop} {v0 : Nat} {v1 : Int32} {v2 : Int32} {S : HS} (h1 : P_X10_minutes v0 v1 v2 Q1 S) (h2 : P_X10_minutes v0 v1 v2 Q2 S) (hq : ∀ (r : Int32) (T : HS), Q1 r T → Q2 r T → Q3 r T) : P_X10_minutes v0 v1 v2 Q3 S := cm_X10_minutes_0 h1 h2 hq
set_option maxRecDepth 20000 in
set_option maxHeartbeats 1000000 in
theorem cm_X10_shield_0 {Q1 Q2 Q3 : Int32 → HS → Prop} {v0 : Nat} {v1 : Int32} {S : HS} (h1 : P_X10_shield_0 Q1 v0 v1 S) (h2 : P_X10_shield_0 Q2 v0 v1 S) (hq : ∀ (r : Int32) (T : HS), Q1 r T → Q2 r T → Q3 r T) : P_X10_shield_0 Q3 v0 v1 S := by
  delta P_X10_shield_0 at h1 h2 ⊢
  obtain ⟨c1, h1⟩ := h1
  obtain ⟨_, h2⟩ := h2
  refine ⟨c1, ?_⟩
  obtain ⟨b2, e3, h1⟩ := h1
  obtain ⟨b4, e5, h2⟩ := h2
  cases e3.symm.trans e5
  refine ⟨b2, e3, ?_⟩
  obtain ⟨c6, h1⟩ := h1
  obtain ⟨_, h2⟩ := h2
  refine ⟨c6, ?_⟩
  obtain ⟨c7, h1⟩ := h1
  obtain ⟨_, h2⟩ := h2
  refine ⟨c7, ?_⟩
  intro x9 e8
  have h1 := h1 x9 e8
  have h2 := h2 x9 e8
  refine ⟨?_, ?_⟩
  · intro c10
    have h1 := h1.1 c10
    have h2 := h2.1 c10
    exact hq _ _ h1 h2
  · intro c11
    have h1 := h1.2 c11
    have h2 := h2.2 c11
    obtain ⟨b12, e13, h1⟩ := h1
    obtain ⟨b14, e15, h2⟩ := h2
    cases e13.symm.trans e15
    refine ⟨b12, e13, ?_⟩
    obtain ⟨c16, h1⟩ := h1
    obtain ⟨_, h2⟩ := h2
    refine ⟨c16, ?_⟩
    obtain ⟨c17, h1⟩ := h1
    obtain ⟨_, h2⟩ := h2
    refine ⟨c17, ?_⟩
    intro x19 e18
    have h1 := h1 x19 e18
    have h2 := h2 x19 e18
    exact hq _ _ h1 h2
theorem cm_X10_shield {Q1 Q2 Q3 : Int32 → HS → Prop} {v0 : Nat} {v1 : Int32} {S : HS} (h1 : P_X10_shield v0 v1 Q1 S) (h2 : P_X10_shield v0 v1 Q2 S) (hq : ∀ (r : Int32) (T : HS), Q1 r T → Q2 r T → Q3 r T) : P_X10_shield v0 v1 Q3 S := cm_X10_shield_0 h1 h2 hq
set_option maxRecDepth 20000 in
set_option maxHeartbeats 1000000 in
theorem cm_X11_good_0 {Q1 Q2 Q3 : Int32 → HS → Prop} {v0 : Nat} {v1 : Int32} {S : HS} (h1 : P_X11_good_0 Q1 v0 v1 S) (h2 : P_X11_good_0 Q2 v0 v1 S) (hq : ∀ (r : Int32) (T : HS), Q1 r T → Q2 r T → Q3 r T) : P_X11_good_0 Q3 v0 v1 S := by
  delta P_X11_good_0 at h1 h2 ⊢
  obtain ⟨c1, h1⟩ := h1
  obtain ⟨_, h2⟩ := h2
  refine ⟨c1, ?_⟩
  intro x3 e2
  have h1 := h1 x3 e2
  have h2 := h2 x3 e2
  intro x5 e4
  have h1 := h1 x5 e4
  have h2 := h2 x5 e4
  exact hq _ _ h1 h2
theorem cm_X11_good {Q1 Q2 Q3 : Int32 → HS → Prop} {v0 : Nat} {v1 : Int32} {S : HS} (h1 : P_X11_good v0 v1 Q1 S) (h2 : P_X11_good v0 v1 Q2 S) (hq : ∀ (r : Int32) (T : HS), Q1 r T → Q2 r T → Q3 r T) : P_X11_good v0 v1 Q3 S := cm_X11_good_0 h1 h2 hq
set_option maxRecDepth 20000 in
set_option maxHeartbeats 1000000 in
theorem cm_X11_in_0 {Q1 Q2 Q3 : Int32 → HS → Prop} {v0 : Int32} {v1 : Int32} {v2 : Int32} {S : HS} (h1 : P_X11_in_0 Q1 v0 v1 v2 S) (h2 : P_X11_in_0 Q2 v0 v1 v2 S) (hq : ∀ (r : Int32) (T : HS), Q1 r T → Q2 r T → Q3 r T) : P_X11_in_0 Q3 v0 v1 v2 S := by
  delta P_X11_in_0 at h1 h2 ⊢
  refine ⟨?_, ?_⟩
  · intro c1
    have h1 := h1.1 c1
    have h2 := h2.1 c1
    exact hq _ _ h1 h2
  · intro c2
    have h1 := h1.2 c2
    have h2 := h2.2 c2
    refine ⟨?_, ?_⟩
    · intro c3
      have h1 := h1.1 c3
      have h2 := h2.1 c3
      exact hq _ _ h1 h2
    · intro c4
      have h1 := h1.2 c4
      have h2 := h2.2 c4
      exact hq _ _ h1 h2
theorem cm_X11_in {Q1 Q2 Q3 : Int32 → HS → Prop} {v0 : Int32} {v1 : Int32} {v2 : Int32} {S : HS} (h1 : P_X11_in v0 v1 v2 Q1 S) (h2 : P_X11_in v0 v1 v2 Q2 S) (hq : ∀ (r : Int32) (T : HS), Q1 r T → Q2 r T → Q3 r T) : P_X11_in v0 v1 v2 Q3 S := cm_X11_in_0 h1 h2 hq
set_option maxRecDepth 20000 in
set_option maxHeartbeats 1000000 in
theorem cm_X11_isHour_0 {Q1 Q2 Q3 : Int32 → HS → Prop} {v0 : Nat} {v1 : Int32} {S : HS} (h1 : P_X11_isHour_0 Q1 v0 v1 S) (h2 : P_X11_isHour_0 Q2 v0 v1 S) (hq : ∀ (r : Int32) (T : HS), Q1 r T → Q2 r T → Q3 r T) : P_X11_isHour_0 Q3 v0 v1 S := by
  delta P_X11_isHour_0 at h1 h2 ⊢
  obtain ⟨c1, h1⟩ := h1
  obtain ⟨_, h2⟩ := h2
  refine ⟨c1, ?_⟩
  refine ⟨?_, ?_⟩
  · intro c2
    have h1 := h1.1 c2
    have h2 := h2.1 c2
    exact hq _ _ h1 h2
  · intro x3 c4
    have h1 := h1.2 x3 c4
    have h2 := h2.2 x3 c4
    refine ⟨?_, ?_⟩
    · intro c5
      have h1 := h1.1 c5
      have h2 := h2.1 c5
      exact hq _ _ h1 h2
    · intro c6
      have h1 := h1.2 c6
      have h2 := h2.2 c6
      obtain ⟨b7, e8, h1⟩ := h1
      obtain ⟨b9, e10, h2⟩ := h2
      cases e8.symm.trans e10
      refine ⟨b7, e8, ?_⟩
      obtain ⟨c11, h1⟩ := h1
      obtain ⟨_, h2⟩ := h2
      refine ⟨c11, ?_⟩
      intro x13 e12
      have h1 := h1 x13 e12
      have h2 := h2 x13 e12
      refine ⟨?_, ?_⟩
      · intro c14
        have h1 := h1.1 c14
        have h2 := h2.1 c14
        exact hq _ _ h1 h2
      · intro c15
        have h1 := h1.2 c15
        have h2 := h2.2 c15
        exact hq _ _ h1 h2
theorem cm_X11_isHour {Q1 Q2 Q3 : Int32 → HS → Prop} {v0 : Nat} {v1 : Int32} {S : HS} (h1 : P_X11_isHour v0 v1 Q1 S) (h2 : P_X11_isHour v0 v1 Q2 S) (hq : ∀ (r : Int32) (T : HS), Q1 r T → Q2 r T → Q3 r T) : P_X11_isHour v0 v1 Q3 S := cm_X11_isHour_0 h1 h2 hq
set_option maxRecDepth 20000 in
set_option maxHeartbeats 1000000 in
theorem cm_X11_isRoad_0 {Q1 Q2 Q3 : Int32 → HS → Prop} {v0 : Nat} {v1 : Int32} {S : HS} (h1 : P_X11_isRoad_0 Q1 v0 v1 S) (h2 : P_X11_isRoad_0 Q2 v0 v1 S) (hq : ∀ (r : Int32) (T : HS), Q1 r T → Q2 r T → Q3 r T) : P_X11_isRoad_0 Q3 v0 v1 S := by
  delta P_X11_isRoad_0 at h1 h2 ⊢
  obtain ⟨c1, h1⟩ := h1
  obtain ⟨_, h2⟩ := h2
  refine ⟨c1, ?_⟩
  refine ⟨?_, ?_⟩
  · intro c2
    have h1 := h1.1 c2
    have h2 := h2.1 c2
    exact hq _ _ h1 h2
  · intro x3 c4
    have h1 := h1.2 x3 c4
    have h2 := h2.2 x3 c4
    refine ⟨?_, ?_⟩
    · intro c5
      have h1 := h1.1 c5
      have h2 := h2.1 c5
      exact hq _ _ h1 h2
    · intro c6
      have h1 := h1.2 c6
      have h2 := h2.2 c6
      obtain ⟨b7, e8, h1⟩ := h1
      obtain ⟨b9, e10, h2⟩ := h2
      cases e8.symm.trans e10
      refine ⟨b7, e8, ?_⟩
      obtain ⟨c11, h1⟩ := h1
      obtain ⟨_, h2⟩ := h2
      refine ⟨c11, ?_⟩
      intro x13 e12
      have h1 := h1 x13 e12
      have h2 := h2 x13 e12
      refine ⟨?_, ?_⟩
      · intro c14
        have h1 := h1.1 c14
        have h2 := h2.1 c14
        exact hq _ _ h1 h2
      · intro c15
        have h1 := h1.2 c15
        have h2 := h2.2 c15
        exact hq _ _ h1 h2
theorem cm_X11_isRoad {Q1 Q2 Q3 : Int32 → HS → Prop} {v0 : Nat} {v1 : Int32} {S : HS} (h1 : P_X11_isRoad v0 v1 Q1 S) (h2 : P_X11_isRoad v0 v1 Q2 S) (hq : ∀ (r : Int32) (T : HS), Q1 r T → Q2 r T → Q3 r T) : P_X11_isRoad v0 v1 Q3 S := cm_X11_isRoad_0 h1 h2 hq
set_option maxRecDepth 20000 in
set_option maxHeartbeats 1000000 in
theorem cm_X11_refused_0 {Q1 Q2 Q3 : Int32 → HS → Prop} {v0 : Nat} {v1 : Int32} {S : HS} (h1 : P_X11_refused_0 Q1 v0 v1 S) (h2 : P_X11_refused_0 Q2 v0 v1 S) (hq : ∀ (r : Int32) (T : HS), Q1 r T → Q2 r T → Q3 r T) : P_X11_refused_0 Q3 v0 v1 S := by
  delta P_X11_refused_0 at h1 h2 ⊢
  obtain ⟨c1, h1⟩ := h1
  obtain ⟨_, h2⟩ := h2
  refine ⟨c1, ?_⟩
  intro x3 e2
  have h1 := h1 x3 e2
  have h2 := h2 x3 e2
  intro x5 e4
  have h1 := h1 x5 e4
  have h2 := h2 x5 e4
  exact hq _ _ h1 h2
theorem cm_X11_refused {Q1 Q2 Q3 : Int32 → HS → Prop} {v0 : Nat} {v1 : Int32} {S : HS} (h1 : P_X11_refused v0 v1 Q1 S) (h2 : P_X11_refused v0 v1 Q2 S) (hq : ∀ (r : Int32) (T : HS), Q1 r T → Q2 r T → Q3 r T) : P_X11_refused v0 v1 Q3 S := cm_X11_refused_0 h1 h2 hq
set_option maxRecDepth 20000 in
set_option maxHeartbeats 1000000 in
theorem cm_X11_lost_0 {Q1 Q2 Q3 : Int32 → HS → Prop} {v0 : Nat} {v1 : Int32} {S : HS} (h1 : P_X11_lost_0 Q1 v0 v1 S) (h2 : P_X11_lost_0 Q2 v0 v1 S) (hq : ∀ (r : Int32) (T : HS), Q1 r T → Q2 r T → Q3 r T) : P_X11_lost_0 Q3 v0 v1 S := by
  delta P_X11_lost_0 at h1 h2 ⊢
  obtain ⟨c1, h1⟩ := h1
  obtain ⟨_, h2⟩ := h2
  refine ⟨c1, ?_⟩
  refine cm_X11_refused h1 h2 (fun x2 x3 h1 h2 g4 => ?_)
  have h1 := h1 g4
  have h2 := h2 g4
  exact hq _ _ h1 h2
theorem cm_X11_lost {Q1 Q2 Q3 : Int32 → HS → Prop} {v0 : Nat} {v1 : Int32} {S : HS} (h1 : P_X11_lost v0 v1 Q1 S) (h2 : P_X11_lost v0 v1 Q2 S) (hq : ∀ (r : Int32) (T : HS), Q1 r T → Q2 r T → Q3 r T) : P_X11_lost v0 v1 Q3 S := cm_X11_lost_0 h1 h2 hq
set_option maxRecDepth 20000 in
set_option maxHeartbeats 1000000 in
theorem cm_X11_air_30 {Q1 Q2 Q3 : Int32 → HS → Prop} {v0 : Nat} {S : HS} (h1 : P_X11_air_30 Q1 v0 S) (h2 : P_X11_air_30 Q2 v0 S) (hq : ∀ (r : Int32) (T : HS), Q1 r T → Q2 r T → Q3 r T) : P_X11_air_30 Q3 v0 S := by
  delta P_X11_air_30 at h1 h2 ⊢
  obtain ⟨c1, h1⟩ := h1
  obtain ⟨_, h2⟩ := h2
  refine ⟨c1, ?_⟩
  refine cm_X11_lost h1 h2 (fun x2 x3 h1 h2 g4 => ?_)
  have h1 := h1 g4
  have h2 := h2 g4
  exact hq _ _ h1 h2
set_option maxRecDepth 20000 in
set_option maxHeartbeats 1000000 in
theorem cm_X11_air_0 {Q1 Q2 Q3 : Int32 → HS → Prop} {v0 : Nat} {v1 : Int32} {v2 : Int32} {v3 : Int32} {S : HS} (h1 : P_X11_air_0 Q1 v0 v1 v2 v3 S) (h2 : P_X11_air_0 Q2 v0 v1 v2 v3 S) (hq : ∀ (r : Int32) (T : HS), Q1 r T → Q2 r T → Q3 r T) : P_X11_air_0 Q3 v0 v1 v2 v3 S := by
  delta P_X11_air_0 at h1 h2 ⊢
  obtain ⟨c1, h1⟩ := h1
  obtain ⟨_, h2⟩ := h2
  refine ⟨c1, ?_⟩
  intro x3 e2
  have h1 := h1 x3 e2
  have h2 := h2 x3 e2
  refine cm_X11_isRoad h1 h2 (fun x4 x5 h1 h2 g6 g7 => ?_)
  have h1 := h1 g6 g7
  have h2 := h2 g6 g7
  refine ⟨?_, ?_⟩
  · intro c8
    have h1 := h1.1 c8
    have h2 := h2.1 c8
    exact cm_X11_air_30 h1 h2 hq
  · intro c9
    have h1 := h1.2 c9
    have h2 := h2.2 c9
    refine cm_X11_in h1 h2 (fun x10 x11 h1 h2 g12 g13 => ?_)
    have h1 := h1 g12 g13
    have h2 := h2 g12 g13
    refine ⟨?_, ?_⟩
    · intro c14
      have h1 := h1.1 c14
      have h2 := h2.1 c14
      exact cm_X11_air_30 h1 h2 hq
    · intro c15
      have h1 := h1.2 c15
      have h2 := h2.2 c15
      refine cm_X11_isHour h1 h2 (fun x16 x17 h1 h2 g18 g19 => ?_)
      have h1 := h1 g18 g19
      have h2 := h2 g18 g19
      refine ⟨?_, ?_⟩
      · intro c20
        have h1 := h1.1 c20
        have h2 := h2.1 c20
        obtain ⟨b21, e22, h1⟩ := h1
        obtain ⟨b23, e24, h2⟩ := h2
        cases e22.symm.trans e24
        refine ⟨b21, e22, ?_⟩
        obtain ⟨c25, h1⟩ := h1
        obtain ⟨_, h2⟩ := h2
        refine ⟨c25, ?_⟩
        refine cm_X10_air h1 h2 (fun x26 x27 h1 h2 g28 => ?_)
        have h1 := h1 g28
        have h2 := h2 g28
        refine cm_X11_good h1 h2 (fun x29 x30 h1 h2 g31 => ?_)
        have h1 := h1 g31
        have h2 := h2 g31
        exact hq _ _ h1 h2
      · intro c32
        have h1 := h1.2 c32
        have h2 := h2.2 c32
        exact cm_X11_air_30 h1 h2 hq
theorem cm_X11_air {Q1 Q2 Q3 : Int32 → HS → Prop} {v0 : Nat} {v1 : Int32} {v2 : Int32} {v3 : Int32} {S : HS} (h1 : P_X11_air v0 v1 v2 v3 Q1 S) (h2 : P_X11_air v0 v1 v2 v3 Q2 S) (hq : ∀ (r : Int32) (T : HS), Q1 r T → Q2 r T → Q3 r T) : P_X11_air v0 v1 v2 v3 Q3 S := cm_X11_air_0 h1 h2 hq
set_option maxRecDepth 20000 in
set_option maxHeartbeats 1000000 in
theorem cm_X11_denied_0 {Q1 Q2 Q3 : Int32 → HS → Prop} {v0 : Nat} {v1 : Int32} {S : HS} (h1 : P_X11_denied_0 Q1 v0 v1 S) (h2 : P_X11_denied_0 Q2 v0 v1 S) (hq : ∀ (r : Int32) (T : HS), Q1 r T → Q2 r T → Q3 r T) : P_X11_denied_0 Q3 v0 v1 S := by
  delta P_X11_denied_0 at h1 h2 ⊢
  obtain ⟨c1, h1⟩ := h1
  obtain ⟨_, h2⟩ := h2
  refine ⟨c1, ?_⟩
  refine cm_X11_refused h1 h2 (fun x2 x3 h1 h2 g4 => ?_)
  have h1 := h1 g4
  have h2 := h2 g4
  exact hq _ _ h1 h2
theorem cm_X11_denied {Q1 Q2 Q3 : Int32 → HS → Prop} {v0 : Nat} {v1 : Int32} {S : HS} (h1 : P_X11_denied v0 v1 Q1 S) (h2 : P_X11_denied v0 v1 Q2 S) (hq : ∀ (r : Int32) (T : HS), Q1 r T → Q2 r T → Q3 r T) : P_X11_denied v0 v1 Q3 S := cm_X11_denied_0 h1 h2 hq
set_option maxRecDepth 20000 in
set_option maxHeartbeats 1000000 in
theorem cm_X11_granted_0 {Q1 Q2 Q3 : Int32 → HS → Prop} {v0 : Nat} {S : HS} (h1 : P_X11_granted_0 Q1 v0 S) (h2 : P_X11_granted_0 Q2 v0 S) (hq : ∀ (r : Int32) (T : HS), Q1 r T → Q2 r T → Q3 r T) : P_X11_granted_0 Q3 v0 S := by
  delta P_X11_granted_0 at h1 h2 ⊢
  obtain ⟨c1, h1⟩ := h1
  obtain ⟨_, h2⟩ := h2
  refine ⟨c1, ?_⟩
  refine cm_X11_good h1 h2 (fun x2 x3 h1 h2 g4 => ?_)
  have h1 := h1 g4
  have h2 := h2 g4
  exact hq _ _ h1 h2
theorem cm_X11_granted {Q1 Q2 Q3 : Int32 → HS → Prop} {v0 : Nat} {S : HS} (h1 : P_X11_granted v0 Q1 S) (h2 : P_X11_granted v0 Q2 S) (hq : ∀ (r : Int32) (T : HS), Q1 r T → Q2 r T → Q3 r T) : P_X11_granted v0 Q3 S := cm_X11_granted_0 h1 h2 hq
set_option maxRecDepth 20000 in
set_option maxHeartbeats 1000000 in
theorem cm_X11_isDay_0 {Q1 Q2 Q3 : Int32 → HS → Prop} {v0 : Nat} {S : HS} (h1 : P_X11_isDay_0 Q1 v0 S) (h2 : P_X11_isDay_0 Q2 v0 S) (hq : ∀ (r : Int32) (T : HS), Q1 r T → Q2 r T → Q3 r T) : P_X11_isDay_0 Q3 v0 S := by
  delta P_X11_isDay_0 at h1 h2 ⊢
  obtain ⟨c1, h1⟩ := h1
  obtain ⟨_, h2⟩ := h2
  refine ⟨c1, ?_⟩
  refine ⟨?_, ?_⟩
  · intro c2
    have h1 := h1.1 c2
    have h2 := h2.1 c2
    exact hq _ _ h1 h2
  · intro x3 c4
    have h1 := h1.2 x3 c4
    have h2 := h2.2 x3 c4
    intro x6 e5
    have h1 := h1 x6 e5
    have h2 := h2 x6 e5
    refine ⟨?_, ?_⟩
    · intro c7
      have h1 := h1.1 c7
      have h2 := h2.1 c7
      exact hq _ _ h1 h2
    · intro c8
      have h1 := h1.2 c8
      have h2 := h2.2 c8
      exact hq _ _ h1 h2
theorem cm_X11_isDay {Q1 Q2 Q3 : Int32 → HS → Prop} {v0 : Nat} {S : HS} (h1 : P_X11_isDay v0 Q1 S) (h2 : P_X11_isDay v0 Q2 S) (hq : ∀ (r : Int32) (T : HS), Q1 r T → Q2 r T → Q3 r T) : P_X11_isDay v0 Q3 S := cm_X11_isDay_0 h1 h2 hq
set_option maxRecDepth 20000 in
set_option maxHeartbeats 1000000 in
theorem cm_X11_back_24 {Q1 Q2 Q3 : Int32 → HS → Prop} {v0 : Nat} {S : HS} (h1 : P_X11_back_24 Q1 v0 S) (h2 : P_X11_back_24 Q2 v0 S) (hq : ∀ (r : Int32) (T : HS), Q1 r T → Q2 r T → Q3 r T) : P_X11_back_24 Q3 v0 S := by
  delta P_X11_back_24 at h1 h2 ⊢
  obtain ⟨c1, h1⟩ := h1
  obtain ⟨_, h2⟩ := h2
  refine ⟨c1, ?_⟩
  refine cm_X11_denied h1 h2 (fun x2 x3 h1 h2 g4 g5 => ?_)
  have h1 := h1 g4 g5
  have h2 := h2 g4 g5
  obtain ⟨c6, h1⟩ := h1
  obtain ⟨_, h2⟩ := h2
  refine ⟨c6, ?_⟩
  exact hq _ _ h1 h2
set_option maxRecDepth 20000 in
set_option maxHeartbeats 1000000 in
theorem cmB_X11_back_32 {Q1 Q2 Q3 : Int32 → HS → Prop} {X32_1 X32_2 X32_3 : Nat → Int32 → Int32 → HS → Prop} {v0 : Nat} {v1 : Int32} {v2 : Int32} {S : HS} (h1 : B_X11_back_32 Q1 X32_1 v0 v1 v2 S) (h2 : B_X11_back_32 Q2 X32_2 v0 v1 v2 S) (hq : ∀ (r : Int32) (T : HS), Q1 r T → Q2 r T → Q3 r T) (hX32 : ∀ (u0 : Nat) (u1 : Int32) (u2 : Int32) (u3 : HS), X32_1 u0 u1 u2 u3 → X32_2 u0 u1 u2 u3 → X32_3 u0 u1 u2 u3) : B_X11_back_32 Q3 X32_3 v0 v1 v2 S := by
  delta B_X11_back_32 at h1 h2 ⊢
  refine ⟨?_, ?_⟩
  · intro c1
    have h1 := h1.1 c1
    have h2 := h2.1 c1
    obtain ⟨c2, h1⟩ := h1
    obtain ⟨_, h2⟩ := h2
    refine ⟨c2, ?_⟩
    intro x4 e3
    have h1 := h1 x4 e3
    have h2 := h2 x4 e3
    refine cm_X11_granted h1 h2 (fun x5 x6 h1 h2 g7 g8 => ?_)
    have h1 := h1 g7 g8
    have h2 := h2 g7 g8
    obtain ⟨c9, h1⟩ := h1
    obtain ⟨_, h2⟩ := h2
    refine ⟨c9, ?_⟩
    exact hq _ _ h1 h2
  · intro c10
    have h1 := h1.2 c10
    have h2 := h2.2 c10
    obtain ⟨c11, h1⟩ := h1
    obtain ⟨_, h2⟩ := h2
    refine ⟨c11, ?_⟩
    obtain ⟨b12, e13, h1⟩ := h1
    obtain ⟨b14, e15, h2⟩ := h2
    cases e13.symm.trans e15
    refine ⟨b12, e13, ?_⟩
    obtain ⟨b16, e17, h1⟩ := h1
    obtain ⟨b18, e19, h2⟩ := h2
    cases e17.symm.trans e19
    refine ⟨b16, e17, ?_⟩
    obtain ⟨c20, h1⟩ := h1
    obtain ⟨_, h2⟩ := h2
    refine ⟨c20, ?_⟩
    intro x22 e21
    have h1 := h1 x22 e21
    have h2 := h2 x22 e21
    obtain ⟨c23, h1⟩ := h1
    obtain ⟨_, h2⟩ := h2
    refine ⟨c23, ?_⟩
    intro x25 e24
    have h1 := h1 x25 e24
    have h2 := h2 x25 e24
    obtain ⟨c26, h1⟩ := h1
    obtain ⟨_, h2⟩ := h2
    refine ⟨c26, ?_⟩
    obtain ⟨c27, h1⟩ := h1
    obtain ⟨_, h2⟩ := h2
    refine ⟨c27, ?_⟩
    intro x29 e28
    have h1 := h1 x29 e28
    have h2 := h2 x29 e28
    intro x31 e30
    have h1 := h1 x31 e30
    have h2 := h2 x31 e30
    exact hX32 _ _ _ _ h1 h2
theorem fd_X11_back_32 {Q : Int32 → HS → Prop} {v0 : Nat} {v1 : Int32} {v2 : Int32} {S : HS} (h : B_X11_back_32 Q (P_X11_back_32 Q) v0 v1 v2 S) : P_X11_back_32 Q v0 v1 v2 S := fun X hX => hX v0 v1 v2 S (cmB_X11_back_32 h h (fun _ _ a _ => a) (fun _ _ _ _ hp _ => hp X hX))
theorem uf_X11_back_32 {Q : Int32 → HS → Prop} {v0 : Nat} {v1 : Int32} {v2 : Int32} {S : HS} (h : P_X11_back_32 Q v0 v1 v2 S) : B_X11_back_32 Q (P_X11_back_32 Q) v0 v1 v2 S := h (fun v0 v1 v2 S => B_X11_back_32 Q (P_X11_back_32 Q) v0 v1 v2 S) (fun v0 v1 v2 S hB => cmB_X11_back_32 hB hB (fun _ _ a _ => a) (fun _ _ _ _ hb _ => fd_X11_back_32 hb))
theorem cm_X11_back_32 {Q1 Q2 Q3 : Int32 → HS → Prop} {v0 : Nat} {v1 : Int32} {v2 : Int32} {S : HS} (h1 : P_X11_back_32 Q1 v0 v1 v2 S) (h2 : P_X11_back_32 Q2 v0 v1 v2 S) (hq : ∀ (r : Int32) (T : HS), Q1 r T → Q2 r T → Q3 r T) : P_X11_back_32 Q3 v0 v1 v2 S := h1 (fun v0 v1 v2 S => P_X11_back_32 Q2 v0 v1 v2 S → P_X11_back_32 Q3 v0 v1 v2 S) (fun v0 v1 v2 S hB hp => fd_X11_back_32 (cmB_X11_back_32 hB (uf_X11_back_32 hp) hq (fun _ _ _ _ hx hp => hx hp))) h2
set_option maxRecDepth 20000 in
set_option maxHeartbeats 1000000 in
theorem cm_X11_back_0 {Q1 Q2 Q3 : Int32 → HS → Prop} {v0 : Nat} {v1 : Int32} {S : HS} (h1 : P_X11_back_0 Q1 v0 v1 S) (h2 : P_X11_back_0 Q2 v0 v1 S) (hq : ∀ (r : Int32) (T : HS), Q1 r T → Q2 r T → Q3 r T) : P_X11_back_0 Q3 v0 v1 S := by
  delta P_X11_back_0 at h1 h2 ⊢
  obtain ⟨c1, h1⟩ := h1
  obtain ⟨_, h2⟩ := h2
  refine ⟨c1, ?_⟩
  intro x3 e2
  have h1 := h1 x3 e2
  have h2 := h2 x3 e2
  refine cm_X11_isDay h1 h2 (fun x4 x5 h1 h2 g6 g7 => ?_)
  have h1 := h1 g6 g7
  have h2 := h2 g6 g7
  refine ⟨?_, ?_⟩
  · intro c8
    have h1 := h1.1 c8
    have h2 := h2.1 c8
    exact cm_X11_back_24 h1 h2 hq
  · intro c9
    have h1 := h1.2 c9
    have h2 := h2.2 c9
    refine ⟨?_, ?_⟩
    · intro c10
      have h1 := h1.1 c10
      have h2 := h2.1 c10
      exact cm_X11_back_24 h1 h2 hq
    · intro c11
      have h1 := h1.2 c11
      have h2 := h2.2 c11
      intro x13 e12
      have h1 := h1 x13 e12
      have h2 := h2 x13 e12
      refine ⟨?_, ?_⟩
      · intro c14
        have h1 := h1.1 c14
        have h2 := h2.1 c14
        exact cm_X11_back_32 h1 h2 hq
      · intro c15
        have h1 := h1.2 c15
        have h2 := h2.2 c15
        exact cm_X11_back_24 h1 h2 hq
theorem cm_X11_back {Q1 Q2 Q3 : Int32 → HS → Prop} {v0 : Nat} {v1 : Int32} {S : HS} (h1 : P_X11_back v0 v1 Q1 S) (h2 : P_X11_back v0 v1 Q2 S) (hq : ∀ (r : Int32) (T : HS), Q1 r T → Q2 r T → Q3 r T) : P_X11_back v0 v1 Q3 S := cm_X11_back_0 h1 h2 hq
set_option maxRecDepth 20000 in
set_option maxHeartbeats 1000000 in
theorem cm_X11_flaw_0 {Q1 Q2 Q3 : HS → Prop} {v0 : Nat} {v1 : Int32} {S : HS} (h1 : P_X11_flaw_0 Q1 v0 v1 S) (h2 : P_X11_flaw_0 Q2 v0 v1 S) (hq : ∀ (T : HS), Q1 T → Q2 T → Q3 T) : P_X11_flaw_0 Q3 v0 v1 S := by
  delta P_X11_flaw_0 at h1 h2 ⊢
  obtain ⟨c1, h1⟩ := h1
  obtain ⟨_, h2⟩ := h2
  refine ⟨c1, ?_⟩
  intro x3 e2
  have h1 := h1 x3 e2
  have h2 := h2 x3 e2
  refine ⟨?_, ?_⟩
  · intro c4
    have h1 := h1.1 c4
    have h2 := h2.1 c4
    intro x6 e5
    have h1 := h1 x6 e5
    have h2 := h2 x6 e5
    intro x8 e7
    have h1 := h1 x8 e7
    have h2 := h2 x8 e7
    intro x10 e9
    have h1 := h1 x10 e9
    have h2 := h2 x10 e9
    intro x12 e11
    have h1 := h1 x12 e11
    have h2 := h2 x12 e11
    exact hq _ h1 h2
  · intro c13
    have h1 := h1.2 c13
    have h2 := h2.2 c13
    exact hq _ h1 h2
theorem cm_X11_flaw {Q1 Q2 Q3 : HS → Prop} {v0 : Nat} {v1 : Int32} {S : HS} (h1 : P_X11_flaw v0 v1 Q1 S) (h2 : P_X11_flaw v0 v1 Q2 S) (hq : ∀ (T : HS), Q1 T → Q2 T → Q3 T) : P_X11_flaw v0 v1 Q3 S := cm_X11_flaw_0 h1 h2 hq
set_option maxRecDepth 20000 in
set_option maxHeartbeats 1000000 in
theorem cm_X11_byteAt_0 {Q1 Q2 Q3 : Int32 → HS → Prop} {v0 : Nat} {v1 : Int32} {S : HS} (h1 : P_X11_byteAt_0 Q1 v0 v1 S) (h2 : P_X11_byteAt_0 Q2 v0 v1 S) (hq : ∀ (r : Int32) (T : HS), Q1 r T → Q2 r T → Q3 r T) : P_X11_byteAt_0 Q3 v0 v1 S := by
  delta P_X11_byteAt_0 at h1 h2 ⊢
  obtain ⟨c1, h1⟩ := h1
  obtain ⟨_, h2⟩ := h2
  refine ⟨c1, ?_⟩
  intro x3 e2
  have h1 := h1 x3 e2
  have h2 := h2 x3 e2
  refine ⟨?_, ?_⟩
  · intro c4
    have h1 := h1.1 c4
    have h2 := h2.1 c4
    exact hq _ _ h1 h2
  · intro c5
    have h1 := h1.2 c5
    have h2 := h2.2 c5
    obtain ⟨b6, e7, h1⟩ := h1
    obtain ⟨b8, e9, h2⟩ := h2
    cases e7.symm.trans e9
    refine ⟨b6, e7, ?_⟩
    obtain ⟨c10, h1⟩ := h1
    obtain ⟨_, h2⟩ := h2
    refine ⟨c10, ?_⟩
    obtain ⟨c11, h1⟩ := h1
    obtain ⟨_, h2⟩ := h2
    refine ⟨c11, ?_⟩
    intro x13 e12
    have h1 := h1 x13 e12
    have h2 := h2 x13 e12
    exact hq _ _ h1 h2
theorem cm_X11_byteAt {Q1 Q2 Q3 : Int32 → HS → Prop} {v0 : Nat} {v1 : Int32} {S : HS} (h1 : P_X11_byteAt v0 v1 Q1 S) (h2 : P_X11_byteAt v0 v1 Q2 S) (hq : ∀ (r : Int32) (T : HS), Q1 r T → Q2 r T → Q3 r T) : P_X11_byteAt v0 v1 Q3 S := cm_X11_byteAt_0 h1 h2 hq
set_option maxRecDepth 20000 in
set_option maxHeartbeats 1000000 in
theorem cm_X11_isDigit_0 {Q1 Q2 Q3 : Int32 → HS → Prop} {v0 : Int32} {S : HS} (h1 : P_X11_isDigit_0 Q1 v0 S) (h2 : P_X11_isDigit_0 Q2 v0 S) (hq : ∀ (r : Int32) (T : HS), Q1 r T → Q2 r T → Q3 r T) : P_X11_isDigit_0 Q3 v0 S := by
  delta P_X11_isDigit_0 at h1 h2 ⊢
  refine ⟨?_, ?_⟩
  · intro c1
    have h1 := h1.1 c1
    have h2 := h2.1 c1
    exact hq _ _ h1 h2
  · intro c2
    have h1 := h1.2 c2
    have h2 := h2.2 c2
    refine ⟨?_, ?_⟩
    · intro c3
      have h1 := h1.1 c3
      have h2 := h2.1 c3
      exact hq _ _ h1 h2
    · intro c4
      have h1 := h1.2 c4
      have h2 := h2.2 c4
      exact hq _ _ h1 h2
theorem cm_X11_isDigit {Q1 Q2 Q3 : Int32 → HS → Prop} {v0 : Int32} {S : HS} (h1 : P_X11_isDigit v0 Q1 S) (h2 : P_X11_isDigit v0 Q2 S) (hq : ∀ (r : Int32) (T : HS), Q1 r T → Q2 r T → Q3 r T) : P_X11_isDigit v0 Q3 S := cm_X11_isDigit_0 h1 h2 hq
set_option maxRecDepth 20000 in
set_option maxHeartbeats 1000000 in
theorem cm_X11_isLetter_0 {Q1 Q2 Q3 : Int32 → HS → Prop} {v0 : Int32} {S : HS} (h1 : P_X11_isLetter_0 Q1 v0 S) (h2 : P_X11_isLetter_0 Q2 v0 S) (hq : ∀ (r : Int32) (T : HS), Q1 r T → Q2 r T → Q3 r T) : P_X11_isLetter_0 Q3 v0 S := by
  delta P_X11_isLetter_0 at h1 h2 ⊢
  refine ⟨?_, ?_⟩
  · intro c1
    have h1 := h1.1 c1
    have h2 := h2.1 c1
    exact hq _ _ h1 h2
  · intro c2
    have h1 := h1.2 c2
    have h2 := h2.2 c2
    refine ⟨?_, ?_⟩
    · intro c3
      have h1 := h1.1 c3
      have h2 := h2.1 c3
      exact hq _ _ h1 h2
    · intro c4
      have h1 := h1.2 c4
      have h2 := h2.2 c4
      exact hq _ _ h1 h2
theorem cm_X11_isLetter {Q1 Q2 Q3 : Int32 → HS → Prop} {v0 : Int32} {S : HS} (h1 : P_X11_isLetter v0 Q1 S) (h2 : P_X11_isLetter v0 Q2 S) (hq : ∀ (r : Int32) (T : HS), Q1 r T → Q2 r T → Q3 r T) : P_X11_isLetter v0 Q3 S := cm_X11_isLetter_0 h1 h2 hq
set_option maxRecDepth 20000 in
set_option maxHeartbeats 1000000 in
theorem cm_X11_goesOn_136 {Q1 Q2 Q3 : HS → Prop} {X89_1 X89_2 X89_3 : Nat → Int32 → HS → Prop} {v0 : Nat} {v2 : Int32} {S : HS} (h1 : P_X11_goesOn_136 Q1 X89_1 v0 v2 S) (h2 : P_X11_goesOn_136 Q2 X89_2 v0 v2 S) (hq : ∀ (T : HS), Q1 T → Q2 T → Q3 T) (hX89 : ∀ (u0 : Nat) (u1 : Int32) (u2 : HS), X89_1 u0 u1 u2 → X89_2 u0 u1 u2 → X89_3 u0 u1 u2) : P_X11_goesOn_136 Q3 X89_3 v0 v2 S := by
  delta P_X11_goesOn_136 at h1 h2 ⊢
  intro x2 e1
  have h1 := h1 x2 e1
  have h2 := h2 x2 e1
  obtain ⟨c3, h1⟩ := h1
  obtain ⟨_, h2⟩ := h2
  refine ⟨c3, ?_⟩
  intro x5 e4
  have h1 := h1 x5 e4
  have h2 := h2 x5 e4
  intro x7 e6
  have h1 := h1 x7 e6
  have h2 := h2 x7 e6
  intro x9 e8
  have h1 := h1 x9 e8
  have h2 := h2 x9 e8
  exact hX89 _ _ _ h1 h2
set_option maxRecDepth 20000 in
set_option maxHeartbeats 1000000 in
theorem cmB_X11_goesOn_89 {Q1 Q2 Q3 : HS → Prop} {X89_1 X89_2 X89_3 : Nat → Int32 → HS → Prop} {v0 : Nat} {v2 : Int32} {S : HS} (h1 : B_X11_goesOn_89 Q1 X89_1 v0 v2 S) (h2 : B_X11_goesOn_89 Q2 X89_2 v0 v2 S) (hq : ∀ (T : HS), Q1 T → Q2 T → Q3 T) (hX89 : ∀ (u0 : Nat) (u1 : Int32) (u2 : HS), X89_1 u0 u1 u2 → X89_2 u0 u1 u2 → X89_3 u0 u1 u2) : B_X11_goesOn_89 Q3 X89_3 v0 v2 S := by
  delta B_X11_goesOn_89 at h1 h2 ⊢
  obtain ⟨c1, h1⟩ := h1
  obtain ⟨_, h2⟩ := h2
  refine ⟨c1, ?_⟩
  intro x3 e2
  have h1 := h1 x3 e2
  have h2 := h2 x3 e2
  refine cm_X11_byteAt h1 h2 (fun x4 x5 h1 h2 g6 => ?_)
  have h1 := h1 g6
  have h2 := h2 g6
  refine cm_X11_isLetter h1 h2 (fun x7 x8 h1 h2 g9 g10 => ?_)
  have h1 := h1 g9 g10
  have h2 := h2 g9 g10
  refine ⟨?_, ?_⟩
  · intro c11
    have h1 := h1.1 c11
    have h2 := h2.1 c11
    refine ⟨?_, ?_⟩
    · intro c12
      have h1 := h1.1 c12
      have h2 := h2.1 c12
      exact hq _ h1 h2
    · intro c13
      have h1 := h1.2 c13
      have h2 := h2.2 c13
      intro x15 e14
      have h1 := h1 x15 e14
      have h2 := h2 x15 e14
      exact hq _ h1 h2
  · intro c16
    have h1 := h1.2 c16
    have h2 := h2.2 c16
    refine ⟨?_, ?_⟩
    · intro c17
      have h1 := h1.1 c17
      have h2 := h2.1 c17
      exact cm_X11_goesOn_136 h1 h2 hq hX89
    · intro c18
      have h1 := h1.2 c18
      have h2 := h2.2 c18
      intro x20 e19
      have h1 := h1 x20 e19
      have h2 := h2 x20 e19
      intro x22 e21
      have h1 := h1 x22 e21
      have h2 := h2 x22 e21
      refine cm_X11_byteAt h1 h2 (fun x23 x24 h1 h2 g25 => ?_)
      have h1 := h1 g25
      have h2 := h2 g25
      intro x27 e26
      have h1 := h1 x27 e26
      have h2 := h2 x27 e26
      intro x29 e28
      have h1 := h1 x29 e28
      have h2 := h2 x29 e28
      exact cm_X11_goesOn_136 h1 h2 hq hX89
theorem fd_X11_goesOn_89 {Q : HS → Prop} {v0 : Nat} {v2 : Int32} {S : HS} (h : B_X11_goesOn_89 Q (P_X11_goesOn_89 Q) v0 v2 S) : P_X11_goesOn_89 Q v0 v2 S := fun X hX => hX v0 v2 S (cmB_X11_goesOn_89 h h (fun _ a _ => a) (fun _ _ _ hp _ => hp X hX))
theorem uf_X11_goesOn_89 {Q : HS → Prop} {v0 : Nat} {v2 : Int32} {S : HS} (h : P_X11_goesOn_89 Q v0 v2 S) : B_X11_goesOn_89 Q (P_X11_goesOn_89 Q) v0 v2 S := h (fun v0 v2 S => B_X11_goesOn_89 Q (P_X11_goesOn_89 Q) v0 v2 S) (fun v0 v2 S hB => cmB_X11_goesOn_89 hB hB (fun _ a _ => a) (fun _ _ _ hb _ => fd_X11_goesOn_89 hb))
theorem cm_X11_goesOn_89 {Q1 Q2 Q3 : HS → Prop} {v0 : Nat} {v2 : Int32} {S : HS} (h1 : P_X11_goesOn_89 Q1 v0 v2 S) (h2 : P_X11_goesOn_89 Q2 v0 v2 S) (hq : ∀ (T : HS), Q1 T → Q2 T → Q3 T) : P_X11_goesOn_89 Q3 v0 v2 S := h1 (fun v0 v2 S => P_X11_goesOn_89 Q2 v0 v2 S → P_X11_goesOn_89 Q3 v0 v2 S) (fun v0 v2 S hB hp => fd_X11_goesOn_89 (cmB_X11_goesOn_89 hB (uf_X11_goesOn_89 hp) hq (fun _ _ _ hx hp => hx hp))) h2
set_option maxRecDepth 20000 in
set_option maxHeartbeats 1000000 in
theorem cm_X11_goesOn_220 {Q1 Q2 Q3 : HS → Prop} {X178_1 X178_2 X178_3 : Nat → Int32 → HS → Prop} {v0 : Nat} {v2 : Int32} {S : HS} (h1 : P_X11_goesOn_220 Q1 X178_1 v0 v2 S) (h2 : P_X11_goesOn_220 Q2 X178_2 v0 v2 S) (hq : ∀ (T : HS), Q1 T → Q2 T → Q3 T) (hX178 : ∀ (u0 : Nat) (u1 : Int32) (u2 : HS), X178_1 u0 u1 u2 → X178_2 u0 u1 u2 → X178_3 u0 u1 u2) : P_X11_goesOn_220 Q3 X178_3 v0 v2 S := by
  delta P_X11_goesOn_220 at h1 h2 ⊢
  intro x2 e1
  have h1 := h1 x2 e1
  have h2 := h2 x2 e1
  obtain ⟨c3, h1⟩ := h1
  obtain ⟨_, h2⟩ := h2
  refine ⟨c3, ?_⟩
  intro x5 e4
  have h1 := h1 x5 e4
  have h2 := h2 x5 e4
  intro x7 e6
  have h1 := h1 x7 e6
  have h2 := h2 x7 e6
  intro x9 e8
  have h1 := h1 x9 e8
  have h2 := h2 x9 e8
  exact hX178 _ _ _ h1 h2
set_option maxRecDepth 20000 in
set_option maxHeartbeats 1000000 in
theorem cmB_X11_goesOn_178 {Q1 Q2 Q3 : HS → Prop} {X178_1 X178_2 X178_3 : Nat → Int32 → HS → Prop} {v0 : Nat} {v2 : Int32} {S : HS} (h1 : B_X11_goesOn_178 Q1 X178_1 v0 v2 S) (h2 : B_X11_goesOn_178 Q2 X178_2 v0 v2 S) (hq : ∀ (T : HS), Q1 T → Q2 T → Q3 T) (hX178 : ∀ (u0 : Nat) (u1 : Int32) (u2 : HS), X178_1 u0 u1 u2 → X178_2 u0 u1 u2 → X178_3 u0 u1 u2) : B_X11_goesOn_178 Q3 X178_3 v0 v2 S := by
  delta B_X11_goesOn_178 at h1 h2 ⊢
  obtain ⟨c1, h1⟩ := h1
  obtain ⟨_, h2⟩ := h2
  refine ⟨c1, ?_⟩
  intro x3 e2
  have h1 := h1 x3 e2
  have h2 := h2 x3 e2
  refine cm_X11_byteAt h1 h2 (fun x4 x5 h1 h2 g6 => ?_)
  have h1 := h1 g6
  have h2 := h2 g6
  refine cm_X11_isDigit h1 h2 (fun x7 x8 h1 h2 g9 g10 => ?_)
  have h1 := h1 g9 g10
  have h2 := h2 g9 g10
  refine ⟨?_, ?_⟩
  · intro c11
    have h1 := h1.1 c11
    have h2 := h2.1 c11
    refine ⟨?_, ?_⟩
    · intro c12
      have h1 := h1.1 c12
      have h2 := h2.1 c12
      exact hq _ h1 h2
    · intro c13
      have h1 := h1.2 c13
      have h2 := h2.2 c13
      intro x15 e14
      have h1 := h1 x15 e14
      have h2 := h2 x15 e14
      exact hq _ h1 h2
  · intro c16
    have h1 := h1.2 c16
    have h2 := h2.2 c16
    refine ⟨?_, ?_⟩
    · intro c17
      have h1 := h1.1 c17
      have h2 := h2.1 c17
      exact cm_X11_goesOn_220 h1 h2 hq hX178
    · intro c18
      have h1 := h1.2 c18
      have h2 := h2.2 c18
      intro x20 e19
      have h1 := h1 x20 e19
      have h2 := h2 x20 e19
      intro x22 e21
      have h1 := h1 x22 e21
      have h2 := h2 x22 e21
      refine cm_X11_byteAt h1 h2 (fun x23 x24 h1 h2 g25 => ?_)
      have h1 := h1 g25
      have h2 := h2 g25
      intro x27 e26
      have h1 := h1 x27 e26
      have h2 := h2 x27 e26
      intro x29 e28
      have h1 := h1 x29 e28
      have h2 := h2 x29 e28
      exact cm_X11_goesOn_220 h1 h2 hq hX178
theorem fd_X11_goesOn_178 {Q : HS → Prop} {v0 : Nat} {v2 : Int32} {S : HS} (h : B_X11_goesOn_178 Q (P_X11_goesOn_178 Q) v0 v2 S) : P_X11_goesOn_178 Q v0 v2 S := fun X hX => hX v0 v2 S (cmB_X11_goesOn_178 h h (fun _ a _ => a) (fun _ _ _ hp _ => hp X hX))
theorem uf_X11_goesOn_178 {Q : HS → Prop} {v0 : Nat} {v2 : Int32} {S : HS} (h : P_X11_goesOn_178 Q v0 v2 S) : B_X11_goesOn_178 Q (P_X11_goesOn_178 Q) v0 v2 S := h (fun v0 v2 S => B_X11_goesOn_178 Q (P_X11_goesOn_178 Q) v0 v2 S) (fun v0 v2 S hB => cmB_X11_goesOn_178 hB hB (fun _ a _ => a) (fun _ _ _ hb _ => fd_X11_goesOn_178 hb))
theorem cm_X11_goesOn_178 {Q1 Q2 Q3 : HS → Prop} {v0 : Nat} {v2 : Int32} {S : HS} (h1 : P_X11_goesOn_178 Q1 v0 v2 S) (h2 : P_X11_goesOn_178 Q2 v0 v2 S) (hq : ∀ (T : HS), Q1 T → Q2 T → Q3 T) : P_X11_goesOn_178 Q3 v0 v2 S := h1 (fun v0 v2 S => P_X11_goesOn_178 Q2 v0 v2 S → P_X11_goesOn_178 Q3 v0 v2 S) (fun v0 v2 S hB hp => fd_X11_goesOn_178 (cmB_X11_goesOn_178 hB (uf_X11_goesOn_178 hp) hq (fun _ _ _ hx hp => hx hp))) h2
set_option maxRecDepth 20000 in
set_option maxHeartbeats 1000000 in
theorem cm_X11_goesOn_261 {Q1 Q2 Q3 : HS → Prop} {v0 : Nat} {v1 : Int32} {S : HS} (h1 : P_X11_goesOn_261 Q1 v0 v1 S) (h2 : P_X11_goesOn_261 Q2 v0 v1 S) (hq : ∀ (T : HS), Q1 T → Q2 T → Q3 T) : P_X11_goesOn_261 Q3 v0 v1 S := by
  delta P_X11_goesOn_261 at h1 h2 ⊢
  obtain ⟨c1, h1⟩ := h1
  obtain ⟨_, h2⟩ := h2
  refine ⟨c1, ?_⟩
  intro x3 e2
  have h1 := h1 x3 e2
  have h2 := h2 x3 e2
  intro x5 e4
  have h1 := h1 x5 e4
  have h2 := h2 x5 e4
  intro x7 e6
  have h1 := h1 x7 e6
  have h2 := h2 x7 e6
  intro x9 e8
  have h1 := h1 x9 e8
  have h2 := h2 x9 e8
  intro x11 e10
  have h1 := h1 x11 e10
  have h2 := h2 x11 e10
  exact hq _ h1 h2
set_option maxRecDepth 20000 in
set_option maxHeartbeats 1000000 in
theorem cmB_X11_goesOn_9 {Q1 Q2 Q3 : HS → Prop} {X9_1 X9_2 X9_3 : Nat → HS → Prop} {v0 : Nat} {S : HS} (h1 : B_X11_goesOn_9 Q1 X9_1 v0 S) (h2 : B_X11_goesOn_9 Q2 X9_2 v0 S) (hq : ∀ (T : HS), Q1 T → Q2 T → Q3 T) (hX9 : ∀ (u0 : Nat) (u1 : HS), X9_1 u0 u1 → X9_2 u0 u1 → X9_3 u0 u1) : B_X11_goesOn_9 Q3 X9_3 v0 S := by
  delta B_X11_goesOn_9 at h1 h2 ⊢
  obtain ⟨c1, h1⟩ := h1
  obtain ⟨_, h2⟩ := h2
  refine ⟨c1, ?_⟩
  intro x3 e2
  have h1 := h1 x3 e2
  have h2 := h2 x3 e2
  refine cm_X11_byteAt h1 h2 (fun x4 x5 h1 h2 g6 => ?_)
  have h1 := h1 g6
  have h2 := h2 g6
  refine ⟨?_, ?_⟩
  · intro c7
    have h1 := h1.1 c7
    have h2 := h2.1 c7
    intro x9 e8
    have h1 := h1 x9 e8
    have h2 := h2 x9 e8
    intro x11 e10
    have h1 := h1 x11 e10
    have h2 := h2 x11 e10
    intro x13 e12
    have h1 := h1 x13 e12
    have h2 := h2 x13 e12
    intro x15 e14
    have h1 := h1 x15 e14
    have h2 := h2 x15 e14
    intro x17 e16
    have h1 := h1 x17 e16
    have h2 := h2 x17 e16
    refine cm_X11_byteAt h1 h2 (fun x18 x19 h1 h2 g20 => ?_)
    have h1 := h1 g20
    have h2 := h2 g20
    refine ⟨?_, ?_⟩
    · intro c21
      have h1 := h1.1 c21
      have h2 := h2.1 c21
      refine cm_X11_isLetter h1 h2 (fun x22 x23 h1 h2 g24 g25 => ?_)
      have h1 := h1 g24 g25
      have h2 := h2 g24 g25
      refine ⟨?_, ?_⟩
      · intro c26
        have h1 := h1.1 c26
        have h2 := h2.1 c26
        refine cm_X11_isDigit h1 h2 (fun x27 x28 h1 h2 g29 g30 => ?_)
        have h1 := h1 g29 g30
        have h2 := h2 g29 g30
        refine ⟨?_, ?_⟩
        · intro c31
          have h1 := h1.1 c31
          have h2 := h2.1 c31
          refine ⟨?_, ?_⟩
          · intro c32
            have h1 := h1.1 c32
            have h2 := h2.1 c32
            exact cm_X11_goesOn_261 h1 h2 hq
          · intro c33
            have h1 := h1.2 c33
            have h2 := h2.2 c33
            refine ⟨?_, ?_⟩
            · intro c34
              have h1 := h1.1 c34
              have h2 := h2.1 c34
              exact hq _ h1 h2
            · intro c35
              have h1 := h1.2 c35
              have h2 := h2.2 c35
              exact cm_X11_goesOn_261 h1 h2 hq
        · intro c36
          have h1 := h1.2 c36
          have h2 := h2.2 c36
          intro x38 e37
          have h1 := h1 x38 e37
          have h2 := h2 x38 e37
          exact cm_X11_goesOn_178 h1 h2 hq
      · intro c39
        have h1 := h1.2 c39
        have h2 := h2.2 c39
        intro x41 e40
        have h1 := h1 x41 e40
        have h2 := h2 x41 e40
        exact cm_X11_goesOn_89 h1 h2 hq
    · intro c42
      have h1 := h1.2 c42
      have h2 := h2.2 c42
      intro x44 e43
      have h1 := h1 x44 e43
      have h2 := h2 x44 e43
      exact hq _ h1 h2
  · intro c45
    have h1 := h1.2 c45
    have h2 := h2.2 c45
    intro x47 e46
    have h1 := h1 x47 e46
    have h2 := h2 x47 e46
    intro x49 e48
    have h1 := h1 x49 e48
    have h2 := h2 x49 e48
    intro x51 e50
    have h1 := h1 x51 e50
    have h2 := h2 x51 e50
    exact hX9 _ _ h1 h2
theorem fd_X11_goesOn_9 {Q : HS → Prop} {v0 : Nat} {S : HS} (h : B_X11_goesOn_9 Q (P_X11_goesOn_9 Q) v0 S) : P_X11_goesOn_9 Q v0 S := fun X hX => hX v0 S (cmB_X11_goesOn_9 h h (fun _ a _ => a) (fun _ _ hp _ => hp X hX))
theorem uf_X11_goesOn_9 {Q : HS → Prop} {v0 : Nat} {S : HS} (h : P_X11_goesOn_9 Q v0 S) : B_X11_goesOn_9 Q (P_X11_goesOn_9 Q) v0 S := h (fun v0 S => B_X11_goesOn_9 Q (P_X11_goesOn_9 Q) v0 S) (fun v0 S hB => cmB_X11_goesOn_9 hB hB (fun _ a _ => a) (fun _ _ hb _ => fd_X11_goesOn_9 hb))
theorem cm_X11_goesOn_9 {Q1 Q2 Q3 : HS → Prop} {v0 : Nat} {S : HS} (h1 : P_X11_goesOn_9 Q1 v0 S) (h2 : P_X11_goesOn_9 Q2 v0 S) (hq : ∀ (T : HS), Q1 T → Q2 T → Q3 T) : P_X11_goesOn_9 Q3 v0 S := h1 (fun v0 S => P_X11_goesOn_9 Q2 v0 S → P_X11_goesOn_9 Q3 v0 S) (fun v0 S hB hp => fd_X11_goesOn_9 (cmB_X11_goesOn_9 hB (uf_X11_goesOn_9 hp) hq (fun _ _ hx hp => hx hp))) h2
set_option maxRecDepth 20000 in
set_option maxHeartbeats 1000000 in
theorem cm_X11_goesOn_0 {Q1 Q2 Q3 : HS → Prop} {v0 : Nat} {S : HS} (h1 : P_X11_goesOn_0 Q1 v0 S) (h2 : P_X11_goesOn_0 Q2 v0 S) (hq : ∀ (T : HS), Q1 T → Q2 T → Q3 T) : P_X11_goesOn_0 Q3 v0 S := by
  delta P_X11_goesOn_0 at h1 h2 ⊢
  obtain ⟨c1, h1⟩ := h1
  obtain ⟨_, h2⟩ := h2
  refine ⟨c1, ?_⟩
  intro x3 e2
  have h1 := h1 x3 e2
  have h2 := h2 x3 e2
  refine ⟨?_, ?_⟩
  · intro c4
    have h1 := h1.1 c4
    have h2 := h2.1 c4
    exact cm_X11_goesOn_9 h1 h2 hq
  · intro c5
    have h1 := h1.2 c5
    have h2 := h2.2 c5
    exact hq _ h1 h2
theorem cm_X11_goesOn {Q1 Q2 Q3 : HS → Prop} {v0 : Nat} {S : HS} (h1 : P_X11_goesOn v0 Q1 S) (h2 : P_X11_goesOn v0 Q2 S) (hq : ∀ (T : HS), Q1 T → Q2 T → Q3 T) : P_X11_goesOn v0 Q3 S := cm_X11_goesOn_0 h1 h2 hq
set_option maxRecDepth 20000 in
set_option maxHeartbeats 1000000 in
theorem cm_X11_begins_26 {Q1 Q2 Q3 : HS → Prop} {v0 : Nat} {S : HS} (h1 : P_X11_begins_26 Q1 v0 S) (h2 : P_X11_begins_26 Q2 v0 S) (hq : ∀ (T : HS), Q1 T → Q2 T → Q3 T) : P_X11_begins_26 Q3 v0 S := by
  delta P_X11_begins_26 at h1 h2 ⊢
  obtain ⟨c1, h1⟩ := h1
  obtain ⟨_, h2⟩ := h2
  refine ⟨c1, ?_⟩
  refine cm_X11_goesOn h1 h2 (fun x2 h1 h2 g3 => ?_)
  have h1 := h1 g3
  have h2 := h2 g3
  exact hq _ h1 h2
set_option maxRecDepth 20000 in
set_option maxHeartbeats 1000000 in
theorem cm_X11_begins_10 {Q1 Q2 Q3 : HS → Prop} {v0 : Nat} {S : HS} (h1 : P_X11_begins_10 Q1 v0 S) (h2 : P_X11_begins_10 Q2 v0 S) (hq : ∀ (T : HS), Q1 T → Q2 T → Q3 T) : P_X11_begins_10 Q3 v0 S := by
  delta P_X11_begins_10 at h1 h2 ⊢
  obtain ⟨c1, h1⟩ := h1
  obtain ⟨_, h2⟩ := h2
  refine ⟨c1, ?_⟩
  obtain ⟨b2, e3, h1⟩ := h1
  obtain ⟨b4, e5, h2⟩ := h2
  cases e3.symm.trans e5
  refine ⟨b2, e3, ?_⟩
  obtain ⟨c6, h1⟩ := h1
  obtain ⟨_, h2⟩ := h2
  refine ⟨c6, ?_⟩
  intro x8 e7
  have h1 := h1 x8 e7
  have h2 := h2 x8 e7
  refine ⟨?_, ?_⟩
  · intro c9
    have h1 := h1.1 c9
    have h2 := h2.1 c9
    exact cm_X11_begins_26 h1 h2 hq
  · intro c10
    have h1 := h1.2 c10
    have h2 := h2.2 c10
    refine cm_X11_flaw h1 h2 (fun x11 h1 h2 g12 => ?_)
    have h1 := h1 g12
    have h2 := h2 g12
    exact cm_X11_begins_26 h1 h2 hq
set_option maxRecDepth 20000 in
set_option maxHeartbeats 1000000 in
theorem cm_X11_begins_0 {Q1 Q2 Q3 : HS → Prop} {v0 : Nat} {v1 : Int32} {v2 : Int32} {S : HS} (h1 : P_X11_begins_0 Q1 v0 v1 v2 S) (h2 : P_X11_begins_0 Q2 v0 v1 v2 S) (hq : ∀ (T : HS), Q1 T → Q2 T → Q3 T) : P_X11_begins_0 Q3 v0 v1 v2 S := by
  delta P_X11_begins_0 at h1 h2 ⊢
  refine ⟨?_, ?_⟩
  · intro c1
    have h1 := h1.1 c1
    have h2 := h2.1 c1
    exact cm_X11_begins_10 h1 h2 hq
  · intro c2
    have h1 := h1.2 c2
    have h2 := h2.2 c2
    obtain ⟨c3, h1⟩ := h1
    obtain ⟨_, h2⟩ := h2
    refine ⟨c3, ?_⟩
    refine cm_X11_flaw h1 h2 (fun x4 h1 h2 g5 => ?_)
    have h1 := h1 g5
    have h2 := h2 g5
    exact cm_X11_begins_10 h1 h2 hq
theorem cm_X11_begins {Q1 Q2 Q3 : HS → Prop} {v0 : Nat} {v1 : Int32} {v2 : Int32} {S : HS} (h1 : P_X11_begins v0 v1 v2 Q1 S) (h2 : P_X11_begins v0 v1 v2 Q2 S) (hq : ∀ (T : HS), Q1 T → Q2 T → Q3 T) : P_X11_begins v0 v1 v2 Q3 S := cm_X11_begins_0 h1 h2 hq
set_option maxRecDepth 20000 in
set_option maxHeartbeats 1000000 in
theorem cm_X11_isForward_112 {Q1 Q2 Q3 : Int32 → HS → Prop} {v0 : Nat} {v4 : Int32} {v7 : Int32} {v8 : Int32} {v9 : Int32} {s0 : Int32} {S : HS} (h1 : P_X11_isForward_112 Q1 v0 v4 v7 v8 v9 s0 S) (h2 : P_X11_isForward_112 Q2 v0 v4 v7 v8 v9 s0 S) (hq : ∀ (r : Int32) (T : HS), Q1 r T → Q2 r T → Q3 r T) : P_X11_isForward_112 Q3 v0 v4 v7 v8 v9 s0 S := by
  delta P_X11_isForward_112 at h1 h2 ⊢
  refine ⟨?_, ?_⟩
  · intro c1
    have h1 := h1.1 c1
    have h2 := h2.1 c1
    exact hq _ _ h1 h2
  · intro c2
    have h1 := h1.2 c2
    have h2 := h2.2 c2
    refine ⟨?_, ?_⟩
    · intro c3
      have h1 := h1.1 c3
      have h2 := h2.1 c3
      exact hq _ _ h1 h2
    · intro c4
      have h1 := h1.2 c4
      have h2 := h2.2 c4
      obtain ⟨c5, h1⟩ := h1
      obtain ⟨_, h2⟩ := h2
      refine ⟨c5, ?_⟩
      obtain ⟨b6, e7, h1⟩ := h1
      obtain ⟨b8, e9, h2⟩ := h2
      cases e7.symm.trans e9
      refine ⟨b6, e7, ?_⟩
      obtain ⟨c10, h1⟩ := h1
      obtain ⟨_, h2⟩ := h2
      refine ⟨c10, ?_⟩
      obtain ⟨b11, e12, h1⟩ := h1
      obtain ⟨b13, e14, h2⟩ := h2
      cases e12.symm.trans e14
      refine ⟨b11, e12, ?_⟩
      obtain ⟨c15, h1⟩ := h1
      obtain ⟨_, h2⟩ := h2
      refine ⟨c15, ?_⟩
      obtain ⟨c16, h1⟩ := h1
      obtain ⟨_, h2⟩ := h2
      refine ⟨c16, ?_⟩
      intro x18 e17
      have h1 := h1 x18 e17
      have h2 := h2 x18 e17
      obtain ⟨b19, e20, h1⟩ := h1
      obtain ⟨b21, e22, h2⟩ := h2
      cases e20.symm.trans e22
      refine ⟨b19, e20, ?_⟩
      obtain ⟨c23, h1⟩ := h1
      obtain ⟨_, h2⟩ := h2
      refine ⟨c23, ?_⟩
      obtain ⟨b24, e25, h1⟩ := h1
      obtain ⟨b26, e27, h2⟩ := h2
      cases e25.symm.trans e27
      refine ⟨b24, e25, ?_⟩
      obtain ⟨c28, h1⟩ := h1
      obtain ⟨_, h2⟩ := h2
      refine ⟨c28, ?_⟩
      obtain ⟨c29, h1⟩ := h1
      obtain ⟨_, h2⟩ := h2
      refine ⟨c29, ?_⟩
      intro x31 e30
      have h1 := h1 x31 e30
      have h2 := h2 x31 e30
      obtain ⟨b32, e33, h1⟩ := h1
      obtain ⟨b34, e35, h2⟩ := h2
      cases e33.symm.trans e35
      refine ⟨b32, e33, ?_⟩
      obtain ⟨c36, h1⟩ := h1
      obtain ⟨_, h2⟩ := h2
      refine ⟨c36, ?_⟩
      obtain ⟨b37, e38, h1⟩ := h1
      obtain ⟨b39, e40, h2⟩ := h2
      cases e38.symm.trans e40
      refine ⟨b37, e38, ?_⟩
      obtain ⟨c41, h1⟩ := h1
      obtain ⟨_, h2⟩ := h2
      refine ⟨c41, ?_⟩
      obtain ⟨c42, h1⟩ := h1
      obtain ⟨_, h2⟩ := h2
      refine ⟨c42, ?_⟩
      intro x44 e43
      have h1 := h1 x44 e43
      have h2 := h2 x44 e43
      refine ⟨?_, ?_⟩
      · intro c45
        have h1 := h1.1 c45
        have h2 := h2.1 c45
        exact hq _ _ h1 h2
      · intro c46
        have h1 := h1.2 c46
        have h2 := h2.2 c46
        exact hq _ _ h1 h2
set_option maxRecDepth 20000 in
set_option maxHeartbeats 1000000 in
theorem cm_X11_isForward_84 {Q1 Q2 Q3 : Int32 → HS → Prop} {v0 : Nat} {v2 : Int32} {v4 : Int32} {v7 : Int32} {v8 : Int32} {s0 : Int32} {S : HS} (h1 : P_X11_isForward_84 Q1 v0 v2 v4 v7 v8 s0 S) (h2 : P_X11_isForward_84 Q2 v0 v2 v4 v7 v8 s0 S) (hq : ∀ (r : Int32) (T : HS), Q1 r T → Q2 r T → Q3 r T) : P_X11_isForward_84 Q3 v0 v2 v4 v7 v8 s0 S := by
  delta P_X11_isForward_84 at h1 h2 ⊢
  obtain ⟨c1, h1⟩ := h1
  obtain ⟨_, h2⟩ := h2
  refine ⟨c1, ?_⟩
  obtain ⟨b2, e3, h1⟩ := h1
  obtain ⟨b4, e5, h2⟩ := h2
  cases e3.symm.trans e5
  refine ⟨b2, e3, ?_⟩
  obtain ⟨c6, h1⟩ := h1
  obtain ⟨_, h2⟩ := h2
  refine ⟨c6, ?_⟩
  obtain ⟨b7, e8, h1⟩ := h1
  obtain ⟨b9, e10, h2⟩ := h2
  cases e8.symm.trans e10
  refine ⟨b7, e8, ?_⟩
  obtain ⟨c11, h1⟩ := h1
  obtain ⟨_, h2⟩ := h2
  refine ⟨c11, ?_⟩
  obtain ⟨c12, h1⟩ := h1
  obtain ⟨_, h2⟩ := h2
  refine ⟨c12, ?_⟩
  intro x14 e13
  have h1 := h1 x14 e13
  have h2 := h2 x14 e13
  obtain ⟨b15, e16, h1⟩ := h1
  obtain ⟨b17, e18, h2⟩ := h2
  cases e16.symm.trans e18
  refine ⟨b15, e16, ?_⟩
  obtain ⟨c19, h1⟩ := h1
  obtain ⟨_, h2⟩ := h2
  refine ⟨c19, ?_⟩
  obtain ⟨b20, e21, h1⟩ := h1
  obtain ⟨b22, e23, h2⟩ := h2
  cases e21.symm.trans e23
  refine ⟨b20, e21, ?_⟩
  obtain ⟨c24, h1⟩ := h1
  obtain ⟨_, h2⟩ := h2
  refine ⟨c24, ?_⟩
  obtain ⟨c25, h1⟩ := h1
  obtain ⟨_, h2⟩ := h2
  refine ⟨c25, ?_⟩
  intro x27 e26
  have h1 := h1 x27 e26
  have h2 := h2 x27 e26
  refine ⟨?_, ?_⟩
  · intro c28
    have h1 := h1.1 c28
    have h2 := h2.1 c28
    exact cm_X11_isForward_112 h1 h2 hq
  · intro c29
    have h1 := h1.2 c29
    have h2 := h2.2 c29
    exact cm_X11_isForward_112 h1 h2 hq
set_option maxRecDepth 20000 in
set_option maxHeartbeats 1000000 in
theorem cm_X11_isForward_54 {Q1 Q2 Q3 : Int32 → HS → Prop} {v0 : Nat} {v1 : Int32} {v2 : Int32} {v4 : Int32} {v6 : Int32} {v7 : Int32} {s0 : Int32} {S : HS} (h1 : P_X11_isForward_54 Q1 v0 v1 v2 v4 v6 v7 s0 S) (h2 : P_X11_isForward_54 Q2 v0 v1 v2 v4 v6 v7 s0 S) (hq : ∀ (r : Int32) (T : HS), Q1 r T → Q2 r T → Q3 r T) : P_X11_isForward_54 Q3 v0 v1 v2 v4 v6 v7 s0 S := by
  delta P_X11_isForward_54 at h1 h2 ⊢
  obtain ⟨c1, h1⟩ := h1
  obtain ⟨_, h2⟩ := h2
  refine ⟨c1, ?_⟩
  obtain ⟨b2, e3, h1⟩ := h1
  obtain ⟨b4, e5, h2⟩ := h2
  cases e3.symm.trans e5
  refine ⟨b2, e3, ?_⟩
  obtain ⟨c6, h1⟩ := h1
  obtain ⟨_, h2⟩ := h2
  refine ⟨c6, ?_⟩
  obtain ⟨b7, e8, h1⟩ := h1
  obtain ⟨b9, e10, h2⟩ := h2
  cases e8.symm.trans e10
  refine ⟨b7, e8, ?_⟩
  obtain ⟨c11, h1⟩ := h1
  obtain ⟨_, h2⟩ := h2
  refine ⟨c11, ?_⟩
  obtain ⟨c12, h1⟩ := h1
  obtain ⟨_, h2⟩ := h2
  refine ⟨c12, ?_⟩
  intro x14 e13
  have h1 := h1 x14 e13
  have h2 := h2 x14 e13
  refine ⟨?_, ?_⟩
  · intro c15
    have h1 := h1.1 c15
    have h2 := h2.1 c15
    obtain ⟨b16, e17, h1⟩ := h1
    obtain ⟨b18, e19, h2⟩ := h2
    cases e17.symm.trans e19
    refine ⟨b16, e17, ?_⟩
    obtain ⟨c20, h1⟩ := h1
    obtain ⟨_, h2⟩ := h2
    refine ⟨c20, ?_⟩
    obtain ⟨b21, e22, h1⟩ := h1
    obtain ⟨b23, e24, h2⟩ := h2
    cases e22.symm.trans e24
    refine ⟨b21, e22, ?_⟩
    obtain ⟨c25, h1⟩ := h1
    obtain ⟨_, h2⟩ := h2
    refine ⟨c25, ?_⟩
    obtain ⟨c26, h1⟩ := h1
    obtain ⟨_, h2⟩ := h2
    refine ⟨c26, ?_⟩
    intro x28 e27
    have h1 := h1 x28 e27
    have h2 := h2 x28 e27
    exact cm_X11_isForward_84 h1 h2 hq
  · intro c29
    have h1 := h1.2 c29
    have h2 := h2.2 c29
    exact cm_X11_isForward_84 h1 h2 hq
set_option maxRecDepth 20000 in
set_option maxHeartbeats 1000000 in
theorem cm_X11_isForward_0 {Q1 Q2 Q3 : Int32 → HS → Prop} {v0 : Nat} {v1 : Int32} {v2 : Int32} {v3 : Int32} {v4 : Int32} {v5 : Int32} {S : HS} (h1 : P_X11_isForward_0 Q1 v0 v1 v2 v3 v4 v5 S) (h2 : P_X11_isForward_0 Q2 v0 v1 v2 v3 v4 v5 S) (hq : ∀ (r : Int32) (T : HS), Q1 r T → Q2 r T → Q3 r T) : P_X11_isForward_0 Q3 v0 v1 v2 v3 v4 v5 S := by
  delta P_X11_isForward_0 at h1 h2 ⊢
  obtain ⟨c1, h1⟩ := h1
  obtain ⟨_, h2⟩ := h2
  refine ⟨c1, ?_⟩
  obtain ⟨b2, e3, h1⟩ := h1
  obtain ⟨b4, e5, h2⟩ := h2
  cases e3.symm.trans e5
  refine ⟨b2, e3, ?_⟩
  obtain ⟨c6, h1⟩ := h1
  obtain ⟨_, h2⟩ := h2
  refine ⟨c6, ?_⟩
  refine cm_X10_shield h1 h2 (fun x7 x8 h1 h2 g9 => ?_)
  have h1 := h1 g9
  have h2 := h2 g9
  obtain ⟨b10, e11, h1⟩ := h1
  obtain ⟨b12, e13, h2⟩ := h2
  cases e11.symm.trans e13
  refine ⟨b10, e11, ?_⟩
  obtain ⟨c14, h1⟩ := h1
  obtain ⟨_, h2⟩ := h2
  refine ⟨c14, ?_⟩
  refine cm_X10_air h1 h2 (fun x15 x16 h1 h2 g17 => ?_)
  have h1 := h1 g17
  have h2 := h2 g17
  intro x19 e18
  have h1 := h1 x19 e18
  have h2 := h2 x19 e18
  obtain ⟨b20, e21, h1⟩ := h1
  obtain ⟨b22, e23, h2⟩ := h2
  cases e21.symm.trans e23
  refine ⟨b20, e21, ?_⟩
  obtain ⟨c24, h1⟩ := h1
  obtain ⟨_, h2⟩ := h2
  refine ⟨c24, ?_⟩
  obtain ⟨b25, e26, h1⟩ := h1
  obtain ⟨b27, e28, h2⟩ := h2
  cases e26.symm.trans e28
  refine ⟨b25, e26, ?_⟩
  obtain ⟨c29, h1⟩ := h1
  obtain ⟨_, h2⟩ := h2
  refine ⟨c29, ?_⟩
  obtain ⟨c30, h1⟩ := h1
  obtain ⟨_, h2⟩ := h2
  refine ⟨c30, ?_⟩
  intro x32 e31
  have h1 := h1 x32 e31
  have h2 := h2 x32 e31
  refine ⟨?_, ?_⟩
  · intro c33
    have h1 := h1.1 c33
    have h2 := h2.1 c33
    obtain ⟨b34, e35, h1⟩ := h1
    obtain ⟨b36, e37, h2⟩ := h2
    cases e35.symm.trans e37
    refine ⟨b34, e35, ?_⟩
    obtain ⟨c38, h1⟩ := h1
    obtain ⟨_, h2⟩ := h2
    refine ⟨c38, ?_⟩
    obtain ⟨b39, e40, h1⟩ := h1
    obtain ⟨b41, e42, h2⟩ := h2
    cases e40.symm.trans e42
    refine ⟨b39, e40, ?_⟩
    obtain ⟨c43, h1⟩ := h1
    obtain ⟨_, h2⟩ := h2
    refine ⟨c43, ?_⟩
    obtain ⟨c44, h1⟩ := h1
    obtain ⟨_, h2⟩ := h2
    refine ⟨c44, ?_⟩
    intro x46 e45
    have h1 := h1 x46 e45
    have h2 := h2 x46 e45
    exact cm_X11_isForward_54 h1 h2 hq
  · intro c47
    have h1 := h1.2 c47
    have h2 := h2.2 c47
    exact cm_X11_isForward_54 h1 h2 hq
theorem cm_X11_isForward {Q1 Q2 Q3 : Int32 → HS → Prop} {v0 : Nat} {v1 : Int32} {v2 : Int32} {v3 : Int32} {v4 : Int32} {v5 : Int32} {S : HS} (h1 : P_X11_isForward v0 v1 v2 v3 v4 v5 Q1 S) (h2 : P_X11_isForward v0 v1 v2 v3 v4 v5 Q2 S) (hq : ∀ (r : Int32) (T : HS), Q1 r T → Q2 r T → Q3 r T) : P_X11_isForward v0 v1 v2 v3 v4 v5 Q3 S := cm_X11_isForward_0 h1 h2 hq
set_option maxRecDepth 20000 in
set_option maxHeartbeats 1000000 in
theorem cm_X11_less_0 {Q1 Q2 Q3 : Int32 → HS → Prop} {v0 : Int32} {v1 : Int32} {S : HS} (h1 : P_X11_less_0 Q1 v0 v1 S) (h2 : P_X11_less_0 Q2 v0 v1 S) (hq : ∀ (r : Int32) (T : HS), Q1 r T → Q2 r T → Q3 r T) : P_X11_less_0 Q3 v0 v1 S := by
  delta P_X11_less_0 at h1 h2 ⊢
  refine ⟨?_, ?_⟩
  · intro c1
    have h1 := h1.1 c1
    have h2 := h2.1 c1
    exact hq _ _ h1 h2
  · intro c2
    have h1 := h1.2 c2
    have h2 := h2.2 c2
    exact hq _ _ h1 h2
theorem cm_X11_less {Q1 Q2 Q3 : Int32 → HS → Prop} {v0 : Int32} {v1 : Int32} {S : HS} (h1 : P_X11_less v0 v1 Q1 S) (h2 : P_X11_less v0 v1 Q2 S) (hq : ∀ (r : Int32) (T : HS), Q1 r T → Q2 r T → Q3 r T) : P_X11_less v0 v1 Q3 S := cm_X11_less_0 h1 h2 hq
set_option maxRecDepth 20000 in
set_option maxHeartbeats 1000000 in
theorem cm_X11_inTime_129 {Q1 Q2 Q3 : Int32 → HS → Prop} {s0 : Int32} {s1 : Int32} {s2 : Int32} {S : HS} (h1 : P_X11_inTime_129 Q1 s0 s1 s2 S) (h2 : P_X11_inTime_129 Q2 s0 s1 s2 S) (hq : ∀ (r : Int32) (T : HS), Q1 r T → Q2 r T → Q3 r T) : P_X11_inTime_129 Q3 s0 s1 s2 S := by
  delta P_X11_inTime_129 at h1 h2 ⊢
  refine cm_X11_less h1 h2 (fun x1 x2 h1 h2 g3 => ?_)
  have h1 := h1 g3
  have h2 := h2 g3
  exact hq _ _ h1 h2
set_option maxRecDepth 20000 in
set_option maxHeartbeats 1000000 in
theorem cm_X11_inTime_164 {Q1 Q2 Q3 : Int32 → HS → Prop} {v7 : Int32} {s0 : Int32} {s1 : Int32} {s2 : Int32} {S : HS} (h1 : P_X11_inTime_164 Q1 v7 s0 s1 s2 S) (h2 : P_X11_inTime_164 Q2 v7 s0 s1 s2 S) (hq : ∀ (r : Int32) (T : HS), Q1 r T → Q2 r T → Q3 r T) : P_X11_inTime_164 Q3 v7 s0 s1 s2 S := by
  delta P_X11_inTime_164 at h1 h2 ⊢
  refine cm_X11_less h1 h2 (fun x1 x2 h1 h2 g3 => ?_)
  have h1 := h1 g3
  have h2 := h2 g3
  refine cm_X11_less h1 h2 (fun x4 x5 h1 h2 g6 => ?_)
  have h1 := h1 g6
  have h2 := h2 g6
  exact hq _ _ h1 h2
set_option maxRecDepth 20000 in
set_option maxHeartbeats 1000000 in
theorem cm_X11_inTime_0 {Q1 Q2 Q3 : Int32 → HS → Prop} {v0 : Nat} {v1 : Int32} {v2 : Int32} {v3 : Int32} {v4 : Int32} {v5 : Int32} {v6 : Int32} {v7 : Int32} {v8 : Int32} {S : HS} (h1 : P_X11_inTime_0 Q1 v0 v1 v2 v3 v4 v5 v6 v7 v8 S) (h2 : P_X11_inTime_0 Q2 v0 v1 v2 v3 v4 v5 v6 v7 v8 S) (hq : ∀ (r : Int32) (T : HS), Q1 r T → Q2 r T → Q3 r T) : P_X11_inTime_0 Q3 v0 v1 v2 v3 v4 v5 v6 v7 v8 S := by
  delta P_X11_inTime_0 at h1 h2 ⊢
  obtain ⟨c1, h1⟩ := h1
  obtain ⟨_, h2⟩ := h2
  refine ⟨c1, ?_⟩
  obtain ⟨b2, e3, h1⟩ := h1
  obtain ⟨b4, e5, h2⟩ := h2
  cases e3.symm.trans e5
  refine ⟨b2, e3, ?_⟩
  obtain ⟨c6, h1⟩ := h1
  obtain ⟨_, h2⟩ := h2
  refine ⟨c6, ?_⟩
  obtain ⟨b7, e8, h1⟩ := h1
  obtain ⟨b9, e10, h2⟩ := h2
  cases e8.symm.trans e10
  refine ⟨b7, e8, ?_⟩
  obtain ⟨c11, h1⟩ := h1
  obtain ⟨_, h2⟩ := h2
  refine ⟨c11, ?_⟩
  obtain ⟨c12, h1⟩ := h1
  obtain ⟨_, h2⟩ := h2
  refine ⟨c12, ?_⟩
  intro x14 e13
  have h1 := h1 x14 e13
  have h2 := h2 x14 e13
  obtain ⟨b15, e16, h1⟩ := h1
  obtain ⟨b17, e18, h2⟩ := h2
  cases e16.symm.trans e18
  refine ⟨b15, e16, ?_⟩
  obtain ⟨c19, h1⟩ := h1
  obtain ⟨_, h2⟩ := h2
  refine ⟨c19, ?_⟩
  refine cm_X10_air h1 h2 (fun x20 x21 h1 h2 g22 => ?_)
  have h1 := h1 g22
  have h2 := h2 g22
  intro x24 e23
  have h1 := h1 x24 e23
  have h2 := h2 x24 e23
  obtain ⟨b25, e26, h1⟩ := h1
  obtain ⟨b27, e28, h2⟩ := h2
  cases e26.symm.trans e28
  refine ⟨b25, e26, ?_⟩
  obtain ⟨c29, h1⟩ := h1
  obtain ⟨_, h2⟩ := h2
  refine ⟨c29, ?_⟩
  refine cm_X10_across h1 h2 (fun x30 x31 h1 h2 g32 => ?_)
  have h1 := h1 g32
  have h2 := h2 g32
  refine cm_X11_isForward h1 h2 (fun x33 x34 h1 h2 g35 g36 => ?_)
  have h1 := h1 g35 g36
  have h2 := h2 g35 g36
  obtain ⟨b37, e38, h1⟩ := h1
  obtain ⟨b39, e40, h2⟩ := h2
  cases e38.symm.trans e40
  refine ⟨b37, e38, ?_⟩
  obtain ⟨c41, h1⟩ := h1
  obtain ⟨_, h2⟩ := h2
  refine ⟨c41, ?_⟩
  refine cm_X10_shield h1 h2 (fun x42 x43 h1 h2 g44 => ?_)
  have h1 := h1 g44
  have h2 := h2 g44
  refine ⟨?_, ?_, ?_, ?_, ?_⟩
  · intro c45
    have h1 := h1.1 c45
    have h2 := h2.1 c45
    refine ⟨?_, ?_⟩
    · intro c46
      have h1 := h1.1 c46
      have h2 := h2.1 c46
      exact hq _ _ h1 h2
    · intro c47
      have h1 := h1.2 c47
      have h2 := h2.2 c47
      obtain ⟨b48, e49, h1⟩ := h1
      obtain ⟨b50, e51, h2⟩ := h2
      cases e49.symm.trans e51
      refine ⟨b48, e49, ?_⟩
      obtain ⟨c52, h1⟩ := h1
      obtain ⟨_, h2⟩ := h2
      refine ⟨c52, ?_⟩
      obtain ⟨b53, e54, h1⟩ := h1
      obtain ⟨b55, e56, h2⟩ := h2
      cases e54.symm.trans e56
      refine ⟨b53, e54, ?_⟩
      obtain ⟨c57, h1⟩ := h1
      obtain ⟨_, h2⟩ := h2
      refine ⟨c57, ?_⟩
      obtain ⟨c58, h1⟩ := h1
      obtain ⟨_, h2⟩ := h2
      refine ⟨c58, ?_⟩
      intro x60 e59
      have h1 := h1 x60 e59
      have h2 := h2 x60 e59
      exact hq _ _ h1 h2
  · intro c61
    have h1 := h1.2.1 c61
    have h2 := h2.2.1 c61
    obtain ⟨b62, e63, h1⟩ := h1
    obtain ⟨b64, e65, h2⟩ := h2
    cases e63.symm.trans e65
    refine ⟨b62, e63, ?_⟩
    obtain ⟨c66, h1⟩ := h1
    obtain ⟨_, h2⟩ := h2
    refine ⟨c66, ?_⟩
    obtain ⟨b67, e68, h1⟩ := h1
    obtain ⟨b69, e70, h2⟩ := h2
    cases e68.symm.trans e70
    refine ⟨b67, e68, ?_⟩
    obtain ⟨c71, h1⟩ := h1
    obtain ⟨_, h2⟩ := h2
    refine ⟨c71, ?_⟩
    obtain ⟨c72, h1⟩ := h1
    obtain ⟨_, h2⟩ := h2
    refine ⟨c72, ?_⟩
    intro x74 e73
    have h1 := h1 x74 e73
    have h2 := h2 x74 e73
    obtain ⟨b75, e76, h1⟩ := h1
    obtain ⟨b77, e78, h2⟩ := h2
    cases e76.symm.trans e78
    refine ⟨b75, e76, ?_⟩
    obtain ⟨c79, h1⟩ := h1
    obtain ⟨_, h2⟩ := h2
    refine ⟨c79, ?_⟩
    obtain ⟨b80, e81, h1⟩ := h1
    obtain ⟨b82, e83, h2⟩ := h2
    cases e81.symm.trans e83
    refine ⟨b80, e81, ?_⟩
    obtain ⟨c84, h1⟩ := h1
    obtain ⟨_, h2⟩ := h2
    refine ⟨c84, ?_⟩
    obtain ⟨c85, h1⟩ := h1
    obtain ⟨_, h2⟩ := h2
    refine ⟨c85, ?_⟩
    intro x87 e86
    have h1 := h1 x87 e86
    have h2 := h2 x87 e86
    refine ⟨?_, ?_⟩
    · intro c88
      have h1 := h1.1 c88
      have h2 := h2.1 c88
      exact cm_X11_inTime_129 h1 h2 hq
    · intro c89
      have h1 := h1.2 c89
      have h2 := h2.2 c89
      exact cm_X11_inTime_129 h1 h2 hq
  · intro c90
    have h1 := h1.2.2.1 c90
    have h2 := h2.2.2.1 c90
    refine ⟨?_, ?_⟩
    · intro c91
      have h1 := h1.1 c91
      have h2 := h2.1 c91
      exact hq _ _ h1 h2
    · intro c92
      have h1 := h1.2 c92
      have h2 := h2.2 c92
      obtain ⟨b93, e94, h1⟩ := h1
      obtain ⟨b95, e96, h2⟩ := h2
      cases e94.symm.trans e96
      refine ⟨b93, e94, ?_⟩
      obtain ⟨c97, h1⟩ := h1
      obtain ⟨_, h2⟩ := h2
      refine ⟨c97, ?_⟩
      obtain ⟨b98, e99, h1⟩ := h1
      obtain ⟨b100, e101, h2⟩ := h2
      cases e99.symm.trans e101
      refine ⟨b98, e99, ?_⟩
      obtain ⟨c102, h1⟩ := h1
      obtain ⟨_, h2⟩ := h2
      refine ⟨c102, ?_⟩
      obtain ⟨c103, h1⟩ := h1
      obtain ⟨_, h2⟩ := h2
      refine ⟨c103, ?_⟩
      intro x105 e104
      have h1 := h1 x105 e104
      have h2 := h2 x105 e104
      refine ⟨?_, ?_⟩
      · intro c106
        have h1 := h1.1 c106
        have h2 := h2.1 c106
        exact cm_X11_inTime_164 h1 h2 hq
      · intro c107
        have h1 := h1.2 c107
        have h2 := h2.2 c107
        exact cm_X11_inTime_164 h1 h2 hq
  · intro c108
    have h1 := h1.2.2.2.1 c108
    have h2 := h2.2.2.2.1 c108
    refine ⟨?_, ?_⟩
    · intro c109
      have h1 := h1.1 c109
      have h2 := h2.1 c109
      exact hq _ _ h1 h2
    · intro c110
      have h1 := h1.2 c110
      have h2 := h2.2 c110
      obtain ⟨b111, e112, h1⟩ := h1
      obtain ⟨b113, e114, h2⟩ := h2
      cases e112.symm.trans e114
      refine ⟨b111, e112, ?_⟩
      obtain ⟨c115, h1⟩ := h1
      obtain ⟨_, h2⟩ := h2
      refine ⟨c115, ?_⟩
      obtain ⟨b116, e117, h1⟩ := h1
      obtain ⟨b118, e119, h2⟩ := h2
      cases e117.symm.trans e119
      refine ⟨b116, e117, ?_⟩
      obtain ⟨c120, h1⟩ := h1
      obtain ⟨_, h2⟩ := h2
      refine ⟨c120, ?_⟩
      obtain ⟨c121, h1⟩ := h1
      obtain ⟨_, h2⟩ := h2
      refine ⟨c121, ?_⟩
      intro x123 e122
      have h1 := h1 x123 e122
      have h2 := h2 x123 e122
      refine cm_X11_less h1 h2 (fun x124 x125 h1 h2 g126 => ?_)
      have h1 := h1 g126
      have h2 := h2 g126
      exact hq _ _ h1 h2
  · intro c127
    have h1 := h1.2.2.2.2 c127
    have h2 := h2.2.2.2.2 c127
    refine ⟨?_, ?_⟩
    · intro c128
      have h1 := h1.1 c128
      have h2 := h2.1 c128
      exact hq _ _ h1 h2
    · intro c129
      have h1 := h1.2 c129
      have h2 := h2.2 c129
      obtain ⟨b130, e131, h1⟩ := h1
      obtain ⟨b132, e133, h2⟩ := h2
      cases e131.symm.trans e133
      refine ⟨b130, e131, ?_⟩
      obtain ⟨c134, h1⟩ := h1
      obtain ⟨_, h2⟩ := h2
      refine ⟨c134, ?_⟩
      obtain ⟨b135, e136, h1⟩ := h1
      obtain ⟨b137, e138, h2⟩ := h2
      cases e136.symm.trans e138
      refine ⟨b135, e136, ?_⟩
      obtain ⟨c139, h1⟩ := h1
      obtain ⟨_, h2⟩ := h2
      refine ⟨c139, ?_⟩
      obtain ⟨c140, h1⟩ := h1
      obtain ⟨_, h2⟩ := h2
      refine ⟨c140, ?_⟩
      intro x142 e141
      have h1 := h1 x142 e141
      have h2 := h2 x142 e141
      exact hq _ _ h1 h2
theorem cm_X11_inTime {Q1 Q2 Q3 : Int32 → HS → Prop} {v0 : Nat} {v1 : Int32} {v2 : Int32} {v3 : Int32} {v4 : Int32} {v5 : Int32} {v6 : Int32} {v7 : Int32} {v8 : Int32} {S : HS} (h1 : P_X11_inTime v0 v1 v2 v3 v4 v5 v6 v7 v8 Q1 S) (h2 : P_X11_inTime v0 v1 v2 v3 v4 v5 v6 v7 v8 Q2 S) (hq : ∀ (r : Int32) (T : HS), Q1 r T → Q2 r T → Q3 r T) : P_X11_inTime v0 v1 v2 v3 v4 v5 v6 v7 v8 Q3 S := cm_X11_inTime_0 h1 h2 hq
set_option maxRecDepth 20000 in
set_option maxHeartbeats 1000000 in
theorem cm_X11_partsOf_0 {Q1 Q2 Q3 : Int64 → HS → Prop} {v0 : Nat} {v1 : Int32} {v2 : Int32} {v3 : Int32} {v4 : Int32} {v5 : Int32} {v6 : Int32} {S : HS} (h1 : P_X11_partsOf_0 Q1 v0 v1 v2 v3 v4 v5 v6 S) (h2 : P_X11_partsOf_0 Q2 v0 v1 v2 v3 v4 v5 v6 S) (hq : ∀ (r : Int64) (T : HS), Q1 r T → Q2 r T → Q3 r T) : P_X11_partsOf_0 Q3 v0 v1 v2 v3 v4 v5 v6 S := by
  delta P_X11_partsOf_0 at h1 h2 ⊢
  obtain ⟨c1, h1⟩ := h1
  obtain ⟨_, h2⟩ := h2
  refine ⟨c1, ?_⟩
  refine cm_X11_inTime h1 h2 (fun x2 x3 h1 h2 g4 => ?_)
  have h1 := h1 g4
  have h2 := h2 g4
  obtain ⟨b5, e6, h1⟩ := h1
  obtain ⟨b7, e8, h2⟩ := h2
  cases e6.symm.trans e8
  refine ⟨b5, e6, ?_⟩
  obtain ⟨c9, h1⟩ := h1
  obtain ⟨_, h2⟩ := h2
  refine ⟨c9, ?_⟩
  obtain ⟨b10, e11, h1⟩ := h1
  obtain ⟨b12, e13, h2⟩ := h2
  cases e11.symm.trans e13
  refine ⟨b10, e11, ?_⟩
  obtain ⟨c14, h1⟩ := h1
  obtain ⟨_, h2⟩ := h2
  refine ⟨c14, ?_⟩
  obtain ⟨c15, h1⟩ := h1
  obtain ⟨_, h2⟩ := h2
  refine ⟨c15, ?_⟩
  intro x17 e16
  have h1 := h1 x17 e16
  have h2 := h2 x17 e16
  obtain ⟨b18, e19, h1⟩ := h1
  obtain ⟨b20, e21, h2⟩ := h2
  cases e19.symm.trans e21
  refine ⟨b18, e19, ?_⟩
  obtain ⟨c22, h1⟩ := h1
  obtain ⟨_, h2⟩ := h2
  refine ⟨c22, ?_⟩
  obtain ⟨b23, e24, h1⟩ := h1
  obtain ⟨b25, e26, h2⟩ := h2
  cases e24.symm.trans e26
  refine ⟨b23, e24, ?_⟩
  obtain ⟨c27, h1⟩ := h1
  obtain ⟨_, h2⟩ := h2
  refine ⟨c27, ?_⟩
  obtain ⟨c28, h1⟩ := h1
  obtain ⟨_, h2⟩ := h2
  refine ⟨c28, ?_⟩
  intro x30 e29
  have h1 := h1 x30 e29
  have h2 := h2 x30 e29
  obtain ⟨c31, h1⟩ := h1
  obtain ⟨_, h2⟩ := h2
  refine ⟨c31, ?_⟩
  intro x33 e32
  have h1 := h1 x33 e32
  have h2 := h2 x33 e32
  exact hq _ _ h1 h2
theorem cm_X11_partsOf {Q1 Q2 Q3 : Int64 → HS → Prop} {v0 : Nat} {v1 : Int32} {v2 : Int32} {v3 : Int32} {v4 : Int32} {v5 : Int32} {v6 : Int32} {S : HS} (h1 : P_X11_partsOf v0 v1 v2 v3 v4 v5 v6 Q1 S) (h2 : P_X11_partsOf v0 v1 v2 v3 v4 v5 v6 Q2 S) (hq : ∀ (r : Int64) (T : HS), Q1 r T → Q2 r T → Q3 r T) : P_X11_partsOf v0 v1 v2 v3 v4 v5 v6 Q3 S := cm_X11_partsOf_0 h1 h2 hq
set_option maxRecDepth 20000 in
set_option maxHeartbeats 1000000 in
theorem cmB_X11_wetOf_6 {Q1 Q2 Q3 : Int64 → HS → Prop} {X6_1 X6_2 X6_3 : Nat → Int32 → Int32 → Int32 → Int32 → Int32 → Int64 → Int32 → HS → Prop} {v0 : Nat} {v1 : Int32} {v2 : Int32} {v3 : Int32} {v4 : Int32} {v5 : Int32} {v6 : Int64} {v8 : Int32} {S : HS} (h1 : B_X11_wetOf_6 Q1 X6_1 v0 v1 v2 v3 v4 v5 v6 v8 S) (h2 : B_X11_wetOf_6 Q2 X6_2 v0 v1 v2 v3 v4 v5 v6 v8 S) (hq : ∀ (r : Int64) (T : HS), Q1 r T → Q2 r T → Q3 r T) (hX6 : ∀ (u0 : Nat) (u1 : Int32) (u2 : Int32) (u3 : Int32) (u4 : Int32) (u5 : Int32) (u6 : Int64) (u7 : Int32) (u8 : HS), X6_1 u0 u1 u2 u3 u4 u5 u6 u7 u8 → X6_2 u0 u1 u2 u3 u4 u5 u6 u7 u8 → X6_3 u0 u1 u2 u3 u4 u5 u6 u7 u8) : B_X11_wetOf_6 Q3 X6_3 v0 v1 v2 v3 v4 v5 v6 v8 S := by
  delta B_X11_wetOf_6 at h1 h2 ⊢
  refine ⟨?_, ?_⟩
  · intro c1
    have h1 := h1.1 c1
    have h2 := h2.1 c1
    exact hq _ _ h1 h2
  · intro c2
    have h1 := h1.2 c2
    have h2 := h2.2 c2
    obtain ⟨c3, h1⟩ := h1
    obtain ⟨_, h2⟩ := h2
    refine ⟨c3, ?_⟩
    refine cm_X11_partsOf h1 h2 (fun x4 x5 h1 h2 g6 => ?_)
    have h1 := h1 g6
    have h2 := h2 g6
    intro x8 e7
    have h1 := h1 x8 e7
    have h2 := h2 x8 e7
    intro x10 e9
    have h1 := h1 x10 e9
    have h2 := h2 x10 e9
    exact hX6 _ _ _ _ _ _ _ _ _ h1 h2
theorem fd_X11_wetOf_6 {Q : Int64 → HS → Prop} {v0 : Nat} {v1 : Int32} {v2 : Int32} {v3 : Int32} {v4 : Int32} {v5 : Int32} {v6 : Int64} {v8 : Int32} {S : HS} (h : B_X11_wetOf_6 Q (P_X11_wetOf_6 Q) v0 v1 v2 v3 v4 v5 v6 v8 S) : P_X11_wetOf_6 Q v0 v1 v2 v3 v4 v5 v6 v8 S := fun X hX => hX v0 v1 v2 v3 v4 v5 v6 v8 S (cmB_X11_wetOf_6 h h (fun _ _ a _ => a) (fun _ _ _ _ _ _ _ _ _ hp _ => hp X hX))
theorem uf_X11_wetOf_6 {Q : Int64 → HS → Prop} {v0 : Nat} {v1 : Int32} {v2 : Int32} {v3 : Int32} {v4 : Int32} {v5 : Int32} {v6 : Int64} {v8 : Int32} {S : HS} (h : P_X11_wetOf_6 Q v0 v1 v2 v3 v4 v5 v6 v8 S) : B_X11_wetOf_6 Q (P_X11_wetOf_6 Q) v0 v1 v2 v3 v4 v5 v6 v8 S := h (fun v0 v1 v2 v3 v4 v5 v6 v8 S => B_X11_wetOf_6 Q (P_X11_wetOf_6 Q) v0 v1 v2 v3 v4 v5 v6 v8 S) (fun v0 v1 v2 v3 v4 v5 v6 v8 S hB => cmB_X11_wetOf_6 hB hB (fun _ _ a _ => a) (fun _ _ _ _ _ _ _ _ _ hb _ => fd_X11_wetOf_6 hb))
theorem cm_X11_wetOf_6 {Q1 Q2 Q3 : Int64 → HS → Prop} {v0 : Nat} {v1 : Int32} {v2 : Int32} {v3 : Int32} {v4 : Int32} {v5 : Int32} {v6 : Int64} {v8 : Int32} {S : HS} (h1 : P_X11_wetOf_6 Q1 v0 v1 v2 v3 v4 v5 v6 v8 S) (h2 : P_X11_wetOf_6 Q2 v0 v1 v2 v3 v4 v5 v6 v8 S) (hq : ∀ (r : Int64) (T : HS), Q1 r T → Q2 r T → Q3 r T) : P_X11_wetOf_6 Q3 v0 v1 v2 v3 v4 v5 v6 v8 S := h1 (fun v0 v1 v2 v3 v4 v5 v6 v8 S => P_X11_wetOf_6 Q2 v0 v1 v2 v3 v4 v5 v6 v8 S → P_X11_wetOf_6 Q3 v0 v1 v2 v3 v4 v5 v6 v8 S) (fun v0 v1 v2 v3 v4 v5 v6 v8 S hB hp => fd_X11_wetOf_6 (cmB_X11_wetOf_6 hB (uf_X11_wetOf_6 hp) hq (fun _ _ _ _ _ _ _ _ _ hx hp => hx hp))) h2
set_option maxRecDepth 20000 in
set_option maxHeartbeats 1000000 in
theorem cm_X11_wetOf_0 {Q1 Q2 Q3 : Int64 → HS → Prop} {v0 : Nat} {v1 : Int32} {v2 : Int32} {v3 : Int32} {v4 : Int32} {v5 : Int32} {S : HS} (h1 : P_X11_wetOf_0 Q1 v0 v1 v2 v3 v4 v5 S) (h2 : P_X11_wetOf_0 Q2 v0 v1 v2 v3 v4 v5 S) (hq : ∀ (r : Int64) (T : HS), Q1 r T → Q2 r T → Q3 r T) : P_X11_wetOf_0 Q3 v0 v1 v2 v3 v4 v5 S := by
  delta P_X11_wetOf_0 at h1 h2 ⊢
  exact cm_X11_wetOf_6 h1 h2 hq
theorem cm_X11_wetOf {Q1 Q2 Q3 : Int64 → HS → Prop} {v0 : Nat} {v1 : Int32} {v2 : Int32} {v3 : Int32} {v4 : Int32} {v5 : Int32} {S : HS} (h1 : P_X11_wetOf v0 v1 v2 v3 v4 v5 Q1 S) (h2 : P_X11_wetOf v0 v1 v2 v3 v4 v5 Q2 S) (hq : ∀ (r : Int64) (T : HS), Q1 r T → Q2 r T → Q3 r T) : P_X11_wetOf v0 v1 v2 v3 v4 v5 Q3 S := cm_X11_wetOf_0 h1 h2 hq
set_option maxRecDepth 20000 in
set_option maxHeartbeats 1000000 in
theorem cm_X11_bestOf_61 {Q1 Q2 Q3 : Int32 → HS → Prop} {X17_1 X17_2 X17_3 : Nat → Int32 → Int32 → Int32 → Int32 → Int32 → Int32 → HS → Prop} {v0 : Nat} {v1 : Int32} {v2 : Int32} {v3 : Int32} {v4 : Int32} {v5 : Int32} {v6 : Int32} {S : HS} (h1 : P_X11_bestOf_61 Q1 X17_1 v0 v1 v2 v3 v4 v5 v6 S) (h2 : P_X11_bestOf_61 Q2 X17_2 v0 v1 v2 v3 v4 v5 v6 S) (hq : ∀ (r : Int32) (T : HS), Q1 r T → Q2 r T → Q3 r T) (hX17 : ∀ (u0 : Nat) (u1 : Int32) (u2 : Int32) (u3 : Int32) (u4 : Int32) (u5 : Int32) (u6 : Int32) (u7 : HS), X17_1 u0 u1 u2 u3 u4 u5 u6 u7 → X17_2 u0 u1 u2 u3 u4 u5 u6 u7 → X17_3 u0 u1 u2 u3 u4 u5 u6 u7) : P_X11_bestOf_61 Q3 X17_3 v0 v1 v2 v3 v4 v5 v6 S := by
  delta P_X11_bestOf_61 at h1 h2 ⊢
  intro x2 e1
  have h1 := h1 x2 e1
  have h2 := h2 x2 e1
  exact hX17 _ _ _ _ _ _ _ _ h1 h2
set_option maxRecDepth 20000 in
set_option maxHeartbeats 1000000 in
theorem cmB_X11_bestOf_17 {Q1 Q2 Q3 : Int32 → HS → Prop} {X17_1 X17_2 X17_3 : Nat → Int32 → Int32 → Int32 → Int32 → Int32 → Int32 → HS → Prop} {v0 : Nat} {v1 : Int32} {v2 : Int32} {v3 : Int32} {v4 : Int32} {v5 : Int32} {v6 : Int32} {S : HS} (h1 : B_X11_bestOf_17 Q1 X17_1 v0 v1 v2 v3 v4 v5 v6 S) (h2 : B_X11_bestOf_17 Q2 X17_2 v0 v1 v2 v3 v4 v5 v6 S) (hq : ∀ (r : Int32) (T : HS), Q1 r T → Q2 r T → Q3 r T) (hX17 : ∀ (u0 : Nat) (u1 : Int32) (u2 : Int32) (u3 : Int32) (u4 : Int32) (u5 : Int32) (u6 : Int32) (u7 : HS), X17_1 u0 u1 u2 u3 u4 u5 u6 u7 → X17_2 u0 u1 u2 u3 u4 u5 u6 u7 → X17_3 u0 u1 u2 u3 u4 u5 u6 u7) : B_X11_bestOf_17 Q3 X17_3 v0 v1 v2 v3 v4 v5 v6 S := by
  delta B_X11_bestOf_17 at h1 h2 ⊢
  obtain ⟨c1, h1⟩ := h1
  obtain ⟨_, h2⟩ := h2
  refine ⟨c1, ?_⟩
  obtain ⟨b2, e3, h1⟩ := h1
  obtain ⟨b4, e5, h2⟩ := h2
  cases e3.symm.trans e5
  refine ⟨b2, e3, ?_⟩
  obtain ⟨c6, h1⟩ := h1
  obtain ⟨_, h2⟩ := h2
  refine ⟨c6, ?_⟩
  obtain ⟨b7, e8, h1⟩ := h1
  obtain ⟨b9, e10, h2⟩ := h2
  cases e8.symm.trans e10
  refine ⟨b7, e8, ?_⟩
  obtain ⟨c11, h1⟩ := h1
  obtain ⟨_, h2⟩ := h2
  refine ⟨c11, ?_⟩
  obtain ⟨c12, h1⟩ := h1
  obtain ⟨_, h2⟩ := h2
  refine ⟨c12, ?_⟩
  intro x14 e13
  have h1 := h1 x14 e13
  have h2 := h2 x14 e13
  refine ⟨?_, ?_⟩
  · intro c15
    have h1 := h1.1 c15
    have h2 := h2.1 c15
    exact hq _ _ h1 h2
  · intro c16
    have h1 := h1.2 c16
    have h2 := h2.2 c16
    refine cm_X11_wetOf h1 h2 (fun x17 x18 h1 h2 g19 => ?_)
    have h1 := h1 g19
    have h2 := h2 g19
    refine cm_X11_wetOf h1 h2 (fun x20 x21 h1 h2 g22 => ?_)
    have h1 := h1 g22
    have h2 := h2 g22
    refine ⟨?_, ?_⟩
    · intro c23
      have h1 := h1.1 c23
      have h2 := h2.1 c23
      exact cm_X11_bestOf_61 h1 h2 hq hX17
    · intro c24
      have h1 := h1.2 c24
      have h2 := h2.2 c24
      exact cm_X11_bestOf_61 h1 h2 hq hX17
theorem fd_X11_bestOf_17 {Q : Int32 → HS → Prop} {v0 : Nat} {v1 : Int32} {v2 : Int32} {v3 : Int32} {v4 : Int32} {v5 : Int32} {v6 : Int32} {S : HS} (h : B_X11_bestOf_17 Q (P_X11_bestOf_17 Q) v0 v1 v2 v3 v4 v5 v6 S) : P_X11_bestOf_17 Q v0 v1 v2 v3 v4 v5 v6 S := fun X hX => hX v0 v1 v2 v3 v4 v5 v6 S (cmB_X11_bestOf_17 h h (fun _ _ a _ => a) (fun _ _ _ _ _ _ _ _ hp _ => hp X hX))
theorem uf_X11_bestOf_17 {Q : Int32 → HS → Prop} {v0 : Nat} {v1 : Int32} {v2 : Int32} {v3 : Int32} {v4 : Int32} {v5 : Int32} {v6 : Int32} {S : HS} (h : P_X11_bestOf_17 Q v0 v1 v2 v3 v4 v5 v6 S) : B_X11_bestOf_17 Q (P_X11_bestOf_17 Q) v0 v1 v2 v3 v4 v5 v6 S := h (fun v0 v1 v2 v3 v4 v5 v6 S => B_X11_bestOf_17 Q (P_X11_bestOf_17 Q) v0 v1 v2 v3 v4 v5 v6 S) (fun v0 v1 v2 v3 v4 v5 v6 S hB => cmB_X11_bestOf_17 hB hB (fun _ _ a _ => a) (fun _ _ _ _ _ _ _ _ hb _ => fd_X11_bestOf_17 hb))
theorem cm_X11_bestOf_17 {Q1 Q2 Q3 : Int32 → HS → Prop} {v0 : Nat} {v1 : Int32} {v2 : Int32} {v3 : Int32} {v4 : Int32} {v5 : Int32} {v6 : Int32} {S : HS} (h1 : P_X11_bestOf_17 Q1 v0 v1 v2 v3 v4 v5 v6 S) (h2 : P_X11_bestOf_17 Q2 v0 v1 v2 v3 v4 v5 v6 S) (hq : ∀ (r : Int32) (T : HS), Q1 r T → Q2 r T → Q3 r T) : P_X11_bestOf_17 Q3 v0 v1 v2 v3 v4 v5 v6 S := h1 (fun v0 v1 v2 v3 v4 v5 v6 S => P_X11_bestOf_17 Q2 v0 v1 v2 v3 v4 v5 v6 S → P_X11_bestOf_17 Q3 v0 v1 v2 v3 v4 v5 v6 S) (fun v0 v1 v2 v3 v4 v5 v6 S hB hp => fd_X11_bestOf_17 (cmB_X11_bestOf_17 hB (uf_X11_bestOf_17 hp) hq (fun _ _ _ _ _ _ _ _ hx hp => hx hp))) h2
set_option maxRecDepth 20000 in
set_option maxHeartbeats 1000000 in
theorem cm_X11_bestOf_0 {Q1 Q2 Q3 : Int32 → HS → Prop} {v0 : Nat} {v1 : Int32} {v2 : Int32} {v3 : Int32} {v4 : Int32} {S : HS} (h1 : P_X11_bestOf_0 Q1 v0 v1 v2 v3 v4 S) (h2 : P_X11_bestOf_0 Q2 v0 v1 v2 v3 v4 S) (hq : ∀ (r : Int32) (T : HS), Q1 r T → Q2 r T → Q3 r T) : P_X11_bestOf_0 Q3 v0 v1 v2 v3 v4 S := by
  delta P_X11_bestOf_0 at h1 h2 ⊢
  obtain ⟨c1, h1⟩ := h1
  obtain ⟨_, h2⟩ := h2
  refine ⟨c1, ?_⟩
  obtain ⟨b2, e3, h1⟩ := h1
  obtain ⟨b4, e5, h2⟩ := h2
  cases e3.symm.trans e5
  refine ⟨b2, e3, ?_⟩
  obtain ⟨c6, h1⟩ := h1
  obtain ⟨_, h2⟩ := h2
  refine ⟨c6, ?_⟩
  obtain ⟨b7, e8, h1⟩ := h1
  obtain ⟨b9, e10, h2⟩ := h2
  cases e8.symm.trans e10
  refine ⟨b7, e8, ?_⟩
  obtain ⟨c11, h1⟩ := h1
  obtain ⟨_, h2⟩ := h2
  refine ⟨c11, ?_⟩
  obtain ⟨c12, h1⟩ := h1
  obtain ⟨_, h2⟩ := h2
  refine ⟨c12, ?_⟩
  intro x14 e13
  have h1 := h1 x14 e13
  have h2 := h2 x14 e13
  intro x16 e15
  have h1 := h1 x16 e15
  have h2 := h2 x16 e15
  exact cm_X11_bestOf_17 h1 h2 hq
theorem cm_X11_bestOf {Q1 Q2 Q3 : Int32 → HS → Prop} {v0 : Nat} {v1 : Int32} {v2 : Int32} {v3 : Int32} {v4 : Int32} {S : HS} (h1 : P_X11_bestOf v0 v1 v2 v3 v4 Q1 S) (h2 : P_X11_bestOf v0 v1 v2 v3 v4 Q2 S) (hq : ∀ (r : Int32) (T : HS), Q1 r T → Q2 r T → Q3 r T) : P_X11_bestOf v0 v1 v2 v3 v4 Q3 S := cm_X11_bestOf_0 h1 h2 hq
set_option maxRecDepth 20000 in
set_option maxHeartbeats 1000000 in
theorem cm_X11_isWalker_0 {Q1 Q2 Q3 : Int32 → HS → Prop} {v0 : Nat} {v1 : Int32} {S : HS} (h1 : P_X11_isWalker_0 Q1 v0 v1 S) (h2 : P_X11_isWalker_0 Q2 v0 v1 S) (hq : ∀ (r : Int32) (T : HS), Q1 r T → Q2 r T → Q3 r T) : P_X11_isWalker_0 Q3 v0 v1 S := by
  delta P_X11_isWalker_0 at h1 h2 ⊢
  obtain ⟨c1, h1⟩ := h1
  obtain ⟨_, h2⟩ := h2
  refine ⟨c1, ?_⟩
  refine ⟨?_, ?_⟩
  · intro c2
    have h1 := h1.1 c2
    have h2 := h2.1 c2
    exact hq _ _ h1 h2
  · intro x3 c4
    have h1 := h1.2 x3 c4
    have h2 := h2.2 x3 c4
    refine ⟨?_, ?_⟩
    · intro c5
      have h1 := h1.1 c5
      have h2 := h2.1 c5
      exact hq _ _ h1 h2
    · intro c6
      have h1 := h1.2 c6
      have h2 := h2.2 c6
      obtain ⟨b7, e8, h1⟩ := h1
      obtain ⟨b9, e10, h2⟩ := h2
      cases e8.symm.trans e10
      refine ⟨b7, e8, ?_⟩
      obtain ⟨c11, h1⟩ := h1
      obtain ⟨_, h2⟩ := h2
      refine ⟨c11, ?_⟩
      intro x13 e12
      have h1 := h1 x13 e12
      have h2 := h2 x13 e12
      refine ⟨?_, ?_⟩
      · intro c14
        have h1 := h1.1 c14
        have h2 := h2.1 c14
        exact hq _ _ h1 h2
      · intro c15
        have h1 := h1.2 c15
        have h2 := h2.2 c15
        exact hq _ _ h1 h2
theorem cm_X11_isWalker {Q1 Q2 Q3 : Int32 → HS → Prop} {v0 : Nat} {v1 : Int32} {S : HS} (h1 : P_X11_isWalker v0 v1 Q1 S) (h2 : P_X11_isWalker v0 v1 Q2 S) (hq : ∀ (r : Int32) (T : HS), Q1 r T → Q2 r T → Q3 r T) : P_X11_isWalker v0 v1 Q3 S := cm_X11_isWalker_0 h1 h2 hq
set_option maxRecDepth 20000 in
set_option maxHeartbeats 1000000 in
theorem cm_X11_best_39 {Q1 Q2 Q3 : Int32 → HS → Prop} {v0 : Nat} {S : HS} (h1 : P_X11_best_39 Q1 v0 S) (h2 : P_X11_best_39 Q2 v0 S) (hq : ∀ (r : Int32) (T : HS), Q1 r T → Q2 r T → Q3 r T) : P_X11_best_39 Q3 v0 S := by
  delta P_X11_best_39 at h1 h2 ⊢
  obtain ⟨c1, h1⟩ := h1
  obtain ⟨_, h2⟩ := h2
  refine ⟨c1, ?_⟩
  refine cm_X11_refused h1 h2 (fun x2 x3 h1 h2 g4 => ?_)
  have h1 := h1 g4
  have h2 := h2 g4
  exact hq _ _ h1 h2
set_option maxRecDepth 20000 in
set_option maxHeartbeats 1000000 in
theorem cm_X11_best_0 {Q1 Q2 Q3 : Int32 → HS → Prop} {v0 : Nat} {v1 : Int32} {v2 : Int32} {v3 : Int32} {v4 : Int32} {S : HS} (h1 : P_X11_best_0 Q1 v0 v1 v2 v3 v4 S) (h2 : P_X11_best_0 Q2 v0 v1 v2 v3 v4 S) (hq : ∀ (r : Int32) (T : HS), Q1 r T → Q2 r T → Q3 r T) : P_X11_best_0 Q3 v0 v1 v2 v3 v4 S := by
  delta P_X11_best_0 at h1 h2 ⊢
  obtain ⟨c1, h1⟩ := h1
  obtain ⟨_, h2⟩ := h2
  refine ⟨c1, ?_⟩
  intro x3 e2
  have h1 := h1 x3 e2
  have h2 := h2 x3 e2
  refine cm_X11_isWalker h1 h2 (fun x4 x5 h1 h2 g6 g7 => ?_)
  have h1 := h1 g6 g7
  have h2 := h2 g6 g7
  refine ⟨?_, ?_⟩
  · intro c8
    have h1 := h1.1 c8
    have h2 := h2.1 c8
    exact cm_X11_best_39 h1 h2 hq
  · intro c9
    have h1 := h1.2 c9
    have h2 := h2.2 c9
    refine cm_X11_isRoad h1 h2 (fun x10 x11 h1 h2 g12 g13 => ?_)
    have h1 := h1 g12 g13
    have h2 := h2 g12 g13
    refine ⟨?_, ?_⟩
    · intro c14
      have h1 := h1.1 c14
      have h2 := h2.1 c14
      exact cm_X11_best_39 h1 h2 hq
    · intro c15
      have h1 := h1.2 c15
      have h2 := h2.2 c15
      refine cm_X11_in h1 h2 (fun x16 x17 h1 h2 g18 g19 => ?_)
      have h1 := h1 g18 g19
      have h2 := h2 g18 g19
      refine ⟨?_, ?_⟩
      · intro c20
        have h1 := h1.1 c20
        have h2 := h2.1 c20
        exact cm_X11_best_39 h1 h2 hq
      · intro c21
        have h1 := h1.2 c21
        have h2 := h2.2 c21
        refine cm_X11_isHour h1 h2 (fun x22 x23 h1 h2 g24 g25 => ?_)
        have h1 := h1 g24 g25
        have h2 := h2 g24 g25
        refine ⟨?_, ?_⟩
        · intro c26
          have h1 := h1.1 c26
          have h2 := h2.1 c26
          refine cm_X11_bestOf h1 h2 (fun x27 x28 h1 h2 g29 => ?_)
          have h1 := h1 g29
          have h2 := h2 g29
          refine cm_X11_good h1 h2 (fun x30 x31 h1 h2 g32 => ?_)
          have h1 := h1 g32
          have h2 := h2 g32
          exact hq _ _ h1 h2
        · intro c33
          have h1 := h1.2 c33
          have h2 := h2.2 c33
          exact cm_X11_best_39 h1 h2 hq
theorem cm_X11_best {Q1 Q2 Q3 : Int32 → HS → Prop} {v0 : Nat} {v1 : Int32} {v2 : Int32} {v3 : Int32} {v4 : Int32} {S : HS} (h1 : P_X11_best v0 v1 v2 v3 v4 Q1 S) (h2 : P_X11_best v0 v1 v2 v3 v4 Q2 S) (hq : ∀ (r : Int32) (T : HS), Q1 r T → Q2 r T → Q3 r T) : P_X11_best v0 v1 v2 v3 v4 Q3 S := cm_X11_best_0 h1 h2 hq
set_option maxRecDepth 20000 in
set_option maxHeartbeats 1000000 in
theorem cm_X11_canWait_0 {Q1 Q2 Q3 : Int32 → HS → Prop} {v0 : Nat} {v1 : Int32} {S : HS} (h1 : P_X11_canWait_0 Q1 v0 v1 S) (h2 : P_X11_canWait_0 Q2 v0 v1 S) (hq : ∀ (r : Int32) (T : HS), Q1 r T → Q2 r T → Q3 r T) : P_X11_canWait_0 Q3 v0 v1 S := by
  delta P_X11_canWait_0 at h1 h2 ⊢
  obtain ⟨c1, h1⟩ := h1
  obtain ⟨_, h2⟩ := h2
  refine ⟨c1, ?_⟩
  obtain ⟨b2, e3, h1⟩ := h1
  obtain ⟨b4, e5, h2⟩ := h2
  cases e3.symm.trans e5
  refine ⟨b2, e3, ?_⟩
  obtain ⟨c6, h1⟩ := h1
  obtain ⟨_, h2⟩ := h2
  refine ⟨c6, ?_⟩
  obtain ⟨b7, e8, h1⟩ := h1
  obtain ⟨b9, e10, h2⟩ := h2
  cases e8.symm.trans e10
  refine ⟨b7, e8, ?_⟩
  obtain ⟨c11, h1⟩ := h1
  obtain ⟨_, h2⟩ := h2
  refine ⟨c11, ?_⟩
  obtain ⟨c12, h1⟩ := h1
  obtain ⟨_, h2⟩ := h2
  refine ⟨c12, ?_⟩
  intro x14 e13
  have h1 := h1 x14 e13
  have h2 := h2 x14 e13
  refine ⟨?_, ?_⟩
  · intro c15
    have h1 := h1.1 c15
    have h2 := h2.1 c15
    exact hq _ _ h1 h2
  · intro c16
    have h1 := h1.2 c16
    have h2 := h2.2 c16
    obtain ⟨b17, e18, h1⟩ := h1
    obtain ⟨b19, e20, h2⟩ := h2
    cases e18.symm.trans e20
    refine ⟨b17, e18, ?_⟩
    obtain ⟨c21, h1⟩ := h1
    obtain ⟨_, h2⟩ := h2
    refine ⟨c21, ?_⟩
    obtain ⟨b22, e23, h1⟩ := h1
    obtain ⟨b24, e25, h2⟩ := h2
    cases e23.symm.trans e25
    refine ⟨b22, e23, ?_⟩
    obtain ⟨c26, h1⟩ := h1
    obtain ⟨_, h2⟩ := h2
    refine ⟨c26, ?_⟩
    obtain ⟨c27, h1⟩ := h1
    obtain ⟨_, h2⟩ := h2
    refine ⟨c27, ?_⟩
    intro x29 e28
    have h1 := h1 x29 e28
    have h2 := h2 x29 e28
    refine ⟨?_, ?_⟩
    · intro c30
      have h1 := h1.1 c30
      have h2 := h2.1 c30
      exact hq _ _ h1 h2
    · intro c31
      have h1 := h1.2 c31
      have h2 := h2.2 c31
      exact hq _ _ h1 h2
theorem cm_X11_canWait {Q1 Q2 Q3 : Int32 → HS → Prop} {v0 : Nat} {v1 : Int32} {S : HS} (h1 : P_X11_canWait v0 v1 Q1 S) (h2 : P_X11_canWait v0 v1 Q2 S) (hq : ∀ (r : Int32) (T : HS), Q1 r T → Q2 r T → Q3 r T) : P_X11_canWait v0 v1 Q3 S := cm_X11_canWait_0 h1 h2 hq
set_option maxRecDepth 20000 in
set_option maxHeartbeats 1000000 in
theorem cm_X11_isPlace_0 {Q1 Q2 Q3 : Int32 → HS → Prop} {v0 : Nat} {v1 : Int32} {S : HS} (h1 : P_X11_isPlace_0 Q1 v0 v1 S) (h2 : P_X11_isPlace_0 Q2 v0 v1 S) (hq : ∀ (r : Int32) (T : HS), Q1 r T → Q2 r T → Q3 r T) : P_X11_isPlace_0 Q3 v0 v1 S := by
  delta P_X11_isPlace_0 at h1 h2 ⊢
  obtain ⟨c1, h1⟩ := h1
  obtain ⟨_, h2⟩ := h2
  refine ⟨c1, ?_⟩
  refine ⟨?_, ?_⟩
  · intro c2
    have h1 := h1.1 c2
    have h2 := h2.1 c2
    exact hq _ _ h1 h2
  · intro x3 c4
    have h1 := h1.2 x3 c4
    have h2 := h2.2 x3 c4
    refine ⟨?_, ?_⟩
    · intro c5
      have h1 := h1.1 c5
      have h2 := h2.1 c5
      exact hq _ _ h1 h2
    · intro c6
      have h1 := h1.2 c6
      have h2 := h2.2 c6
      obtain ⟨b7, e8, h1⟩ := h1
      obtain ⟨b9, e10, h2⟩ := h2
      cases e8.symm.trans e10
      refine ⟨b7, e8, ?_⟩
      obtain ⟨c11, h1⟩ := h1
      obtain ⟨_, h2⟩ := h2
      refine ⟨c11, ?_⟩
      intro x13 e12
      have h1 := h1 x13 e12
      have h2 := h2 x13 e12
      refine ⟨?_, ?_⟩
      · intro c14
        have h1 := h1.1 c14
        have h2 := h2.1 c14
        exact hq _ _ h1 h2
      · intro c15
        have h1 := h1.2 c15
        have h2 := h2.2 c15
        exact hq _ _ h1 h2
theorem cm_X11_isPlace {Q1 Q2 Q3 : Int32 → HS → Prop} {v0 : Nat} {v1 : Int32} {S : HS} (h1 : P_X11_isPlace v0 v1 Q1 S) (h2 : P_X11_isPlace v0 v1 Q2 S) (hq : ∀ (r : Int32) (T : HS), Q1 r T → Q2 r T → Q3 r T) : P_X11_isPlace v0 v1 Q3 S := cm_X11_isPlace_0 h1 h2 hq
set_option maxRecDepth 20000 in
set_option maxHeartbeats 1000000 in
theorem cm_X11_day_21 {Q1 Q2 Q3 : Int32 → HS → Prop} {v0 : Nat} {S : HS} (h1 : P_X11_day_21 Q1 v0 S) (h2 : P_X11_day_21 Q2 v0 S) (hq : ∀ (r : Int32) (T : HS), Q1 r T → Q2 r T → Q3 r T) : P_X11_day_21 Q3 v0 S := by
  delta P_X11_day_21 at h1 h2 ⊢
  obtain ⟨c1, h1⟩ := h1
  obtain ⟨_, h2⟩ := h2
  refine ⟨c1, ?_⟩
  refine cm_X11_refused h1 h2 (fun x2 x3 h1 h2 g4 => ?_)
  have h1 := h1 g4
  have h2 := h2 g4
  exact hq _ _ h1 h2
set_option maxRecDepth 20000 in
set_option maxHeartbeats 1000000 in
theorem cm_X11_day_50 {Q1 Q2 Q3 : Int32 → HS → Prop} {v0 : Nat} {S : HS} (h1 : P_X11_day_50 Q1 v0 S) (h2 : P_X11_day_50 Q2 v0 S) (hq : ∀ (r : Int32) (T : HS), Q1 r T → Q2 r T → Q3 r T) : P_X11_day_50 Q3 v0 S := by
  delta P_X11_day_50 at h1 h2 ⊢
  obtain ⟨c1, h1⟩ := h1
  obtain ⟨_, h2⟩ := h2
  refine ⟨c1, ?_⟩
  refine cm_X11_refused h1 h2 (fun x2 x3 h1 h2 g4 => ?_)
  have h1 := h1 g4
  have h2 := h2 g4
  exact hq _ _ h1 h2
set_option maxRecDepth 20000 in
set_option maxHeartbeats 1000000 in
theorem cm_X11_day_134 {Q1 Q2 Q3 : Int32 → HS → Prop} {X73_1 X73_2 X73_3 : Nat → Int32 → Int32 → Int32 → Int32 → HS → Prop} {v0 : Nat} {v2 : Int32} {v3 : Int32} {v5 : Int32} {v6 : Int32} {s0 : Nat} {s1 : Int32} {s2 : Int32} {S : HS} (h1 : P_X11_day_134 Q1 X73_1 v0 v2 v3 v5 v6 s0 s1 s2 S) (h2 : P_X11_day_134 Q2 X73_2 v0 v2 v3 v5 v6 s0 s1 s2 S) (hq : ∀ (r : Int32) (T : HS), Q1 r T → Q2 r T → Q3 r T) (hX73 : ∀ (u0 : Nat) (u1 : Int32) (u2 : Int32) (u3 : Int32) (u4 : Int32) (u5 : HS), X73_1 u0 u1 u2 u3 u4 u5 → X73_2 u0 u1 u2 u3 u4 u5 → X73_3 u0 u1 u2 u3 u4 u5) : P_X11_day_134 Q3 X73_3 v0 v2 v3 v5 v6 s0 s1 s2 S := by
  delta P_X11_day_134 at h1 h2 ⊢
  obtain ⟨c1, h1⟩ := h1
  obtain ⟨_, h2⟩ := h2
  refine ⟨c1, ?_⟩
  intro x3 e2
  have h1 := h1 x3 e2
  have h2 := h2 x3 e2
  intro x5 e4
  have h1 := h1 x5 e4
  have h2 := h2 x5 e4
  intro x7 e6
  have h1 := h1 x7 e6
  have h2 := h2 x7 e6
  exact hX73 _ _ _ _ _ _ h1 h2
set_option maxRecDepth 20000 in
set_option maxHeartbeats 1000000 in
theorem cmB_X11_day_147 {Q1 Q2 Q3 : Int32 → HS → Prop} {X147_1 X147_2 X147_3 : Nat → Int32 → Int32 → Int32 → HS → Prop} {v0 : Nat} {v2 : Int32} {v3 : Int32} {v6 : Int32} {S : HS} (h1 : B_X11_day_147 Q1 X147_1 v0 v2 v3 v6 S) (h2 : B_X11_day_147 Q2 X147_2 v0 v2 v3 v6 S) (hq : ∀ (r : Int32) (T : HS), Q1 r T → Q2 r T → Q3 r T) (hX147 : ∀ (u0 : Nat) (u1 : Int32) (u2 : Int32) (u3 : Int32) (u4 : HS), X147_1 u0 u1 u2 u3 u4 → X147_2 u0 u1 u2 u3 u4 → X147_3 u0 u1 u2 u3 u4) : B_X11_day_147 Q3 X147_3 v0 v2 v3 v6 S := by
  delta B_X11_day_147 at h1 h2 ⊢
  refine ⟨?_, ?_⟩
  · intro c1
    have h1 := h1.1 c1
    have h2 := h2.1 c1
    obtain ⟨c2, h1⟩ := h1
    obtain ⟨_, h2⟩ := h2
    refine ⟨c2, ?_⟩
    obtain ⟨b3, e4, h1⟩ := h1
    obtain ⟨b5, e6, h2⟩ := h2
    cases e4.symm.trans e6
    refine ⟨b3, e4, ?_⟩
    obtain ⟨c7, h1⟩ := h1
    obtain ⟨_, h2⟩ := h2
    refine ⟨c7, ?_⟩
    intro x9 e8
    have h1 := h1 x9 e8
    have h2 := h2 x9 e8
    obtain ⟨c10, h1⟩ := h1
    obtain ⟨_, h2⟩ := h2
    refine ⟨c10, ?_⟩
    intro x12 e11
    have h1 := h1 x12 e11
    have h2 := h2 x12 e11
    obtain ⟨b13, e14, h1⟩ := h1
    obtain ⟨b15, e16, h2⟩ := h2
    cases e14.symm.trans e16
    refine ⟨b13, e14, ?_⟩
    obtain ⟨c17, h1⟩ := h1
    obtain ⟨_, h2⟩ := h2
    refine ⟨c17, ?_⟩
    intro x19 e18
    have h1 := h1 x19 e18
    have h2 := h2 x19 e18
    obtain ⟨c20, h1⟩ := h1
    obtain ⟨_, h2⟩ := h2
    refine ⟨c20, ?_⟩
    intro x22 e21
    have h1 := h1 x22 e21
    have h2 := h2 x22 e21
    intro x24 e23
    have h1 := h1 x24 e23
    have h2 := h2 x24 e23
    intro x26 e25
    have h1 := h1 x26 e25
    have h2 := h2 x26 e25
    intro x28 e27
    have h1 := h1 x28 e27
    have h2 := h2 x28 e27
    refine cm_X11_good h1 h2 (fun x29 x30 h1 h2 g31 => ?_)
    have h1 := h1 g31
    have h2 := h2 g31
    exact hq _ _ h1 h2
  · intro c32
    have h1 := h1.2 c32
    have h2 := h2.2 c32
    obtain ⟨c33, h1⟩ := h1
    obtain ⟨_, h2⟩ := h2
    refine ⟨c33, ?_⟩
    obtain ⟨b34, e35, h1⟩ := h1
    obtain ⟨b36, e37, h2⟩ := h2
    cases e35.symm.trans e37
    refine ⟨b34, e35, ?_⟩
    obtain ⟨c38, h1⟩ := h1
    obtain ⟨_, h2⟩ := h2
    refine ⟨c38, ?_⟩
    obtain ⟨c39, h1⟩ := h1
    obtain ⟨_, h2⟩ := h2
    refine ⟨c39, ?_⟩
    intro x41 e40
    have h1 := h1 x41 e40
    have h2 := h2 x41 e40
    intro x43 e42
    have h1 := h1 x43 e42
    have h2 := h2 x43 e42
    exact hX147 _ _ _ _ _ h1 h2
theorem fd_X11_day_147 {Q : Int32 → HS → Prop} {v0 : Nat} {v2 : Int32} {v3 : Int32} {v6 : Int32} {S : HS} (h : B_X11_day_147 Q (P_X11_day_147 Q) v0 v2 v3 v6 S) : P_X11_day_147 Q v0 v2 v3 v6 S := fun X hX => hX v0 v2 v3 v6 S (cmB_X11_day_147 h h (fun _ _ a _ => a) (fun _ _ _ _ _ hp _ => hp X hX))
theorem uf_X11_day_147 {Q : Int32 → HS → Prop} {v0 : Nat} {v2 : Int32} {v3 : Int32} {v6 : Int32} {S : HS} (h : P_X11_day_147 Q v0 v2 v3 v6 S) : B_X11_day_147 Q (P_X11_day_147 Q) v0 v2 v3 v6 S := h (fun v0 v2 v3 v6 S => B_X11_day_147 Q (P_X11_day_147 Q) v0 v2 v3 v6 S) (fun v0 v2 v3 v6 S hB => cmB_X11_day_147 hB hB (fun _ _ a _ => a) (fun _ _ _ _ _ hb _ => fd_X11_day_147 hb))
theorem cm_X11_day_147 {Q1 Q2 Q3 : Int32 → HS → Prop} {v0 : Nat} {v2 : Int32} {v3 : Int32} {v6 : Int32} {S : HS} (h1 : P_X11_day_147 Q1 v0 v2 v3 v6 S) (h2 : P_X11_day_147 Q2 v0 v2 v3 v6 S) (hq : ∀ (r : Int32) (T : HS), Q1 r T → Q2 r T → Q3 r T) : P_X11_day_147 Q3 v0 v2 v3 v6 S := h1 (fun v0 v2 v3 v6 S => P_X11_day_147 Q2 v0 v2 v3 v6 S → P_X11_day_147 Q3 v0 v2 v3 v6 S) (fun v0 v2 v3 v6 S hB hp => fd_X11_day_147 (cmB_X11_day_147 hB (uf_X11_day_147 hp) hq (fun _ _ _ _ _ hx hp => hx hp))) h2
set_option maxRecDepth 20000 in
set_option maxHeartbeats 1000000 in
theorem cmB_X11_day_73 {Q1 Q2 Q3 : Int32 → HS → Prop} {X73_1 X73_2 X73_3 : Nat → Int32 → Int32 → Int32 → Int32 → HS → Prop} {v0 : Nat} {v2 : Int32} {v3 : Int32} {v5 : Int32} {v6 : Int32} {S : HS} (h1 : B_X11_day_73 Q1 X73_1 v0 v2 v3 v5 v6 S) (h2 : B_X11_day_73 Q2 X73_2 v0 v2 v3 v5 v6 S) (hq : ∀ (r : Int32) (T : HS), Q1 r T → Q2 r T → Q3 r T) (hX73 : ∀ (u0 : Nat) (u1 : Int32) (u2 : Int32) (u3 : Int32) (u4 : Int32) (u5 : HS), X73_1 u0 u1 u2 u3 u4 u5 → X73_2 u0 u1 u2 u3 u4 u5 → X73_3 u0 u1 u2 u3 u4 u5) : B_X11_day_73 Q3 X73_3 v0 v2 v3 v5 v6 S := by
  delta B_X11_day_73 at h1 h2 ⊢
  obtain ⟨c1, h1⟩ := h1
  obtain ⟨_, h2⟩ := h2
  refine ⟨c1, ?_⟩
  obtain ⟨b2, e3, h1⟩ := h1
  obtain ⟨b4, e5, h2⟩ := h2
  cases e3.symm.trans e5
  refine ⟨b2, e3, ?_⟩
  obtain ⟨c6, h1⟩ := h1
  obtain ⟨_, h2⟩ := h2
  refine ⟨c6, ?_⟩
  intro x8 e7
  have h1 := h1 x8 e7
  have h2 := h2 x8 e7
  refine ⟨?_, ?_⟩
  · intro c9
    have h1 := h1.1 c9
    have h2 := h2.1 c9
    exact cm_X11_day_147 h1 h2 hq
  · intro c10
    have h1 := h1.2 c10
    have h2 := h2.2 c10
    intro x12 e11
    have h1 := h1 x12 e11
    have h2 := h2 x12 e11
    intro x14 e13
    have h1 := h1 x14 e13
    have h2 := h2 x14 e13
    intro x16 e15
    have h1 := h1 x16 e15
    have h2 := h2 x16 e15
    intro x18 e17
    have h1 := h1 x18 e17
    have h2 := h2 x18 e17
    obtain ⟨b19, e20, h1⟩ := h1
    obtain ⟨b21, e22, h2⟩ := h2
    cases e20.symm.trans e22
    refine ⟨b19, e20, ?_⟩
    obtain ⟨c23, h1⟩ := h1
    obtain ⟨_, h2⟩ := h2
    refine ⟨c23, ?_⟩
    obtain ⟨b24, e25, h1⟩ := h1
    obtain ⟨b26, e27, h2⟩ := h2
    cases e25.symm.trans e27
    refine ⟨b24, e25, ?_⟩
    obtain ⟨c28, h1⟩ := h1
    obtain ⟨_, h2⟩ := h2
    refine ⟨c28, ?_⟩
    obtain ⟨c29, h1⟩ := h1
    obtain ⟨_, h2⟩ := h2
    refine ⟨c29, ?_⟩
    intro x31 e30
    have h1 := h1 x31 e30
    have h2 := h2 x31 e30
    refine ⟨?_, ?_⟩
    · intro c32
      have h1 := h1.1 c32
      have h2 := h2.1 c32
      exact cm_X11_day_134 h1 h2 hq hX73
    · intro c33
      have h1 := h1.2 c33
      have h2 := h2.2 c33
      exact cm_X11_day_134 h1 h2 hq hX73
theorem fd_X11_day_73 {Q : Int32 → HS → Prop} {v0 : Nat} {v2 : Int32} {v3 : Int32} {v5 : Int32} {v6 : Int32} {S : HS} (h : B_X11_day_73 Q (P_X11_day_73 Q) v0 v2 v3 v5 v6 S) : P_X11_day_73 Q v0 v2 v3 v5 v6 S := fun X hX => hX v0 v2 v3 v5 v6 S (cmB_X11_day_73 h h (fun _ _ a _ => a) (fun _ _ _ _ _ _ hp _ => hp X hX))
theorem uf_X11_day_73 {Q : Int32 → HS → Prop} {v0 : Nat} {v2 : Int32} {v3 : Int32} {v5 : Int32} {v6 : Int32} {S : HS} (h : P_X11_day_73 Q v0 v2 v3 v5 v6 S) : B_X11_day_73 Q (P_X11_day_73 Q) v0 v2 v3 v5 v6 S := h (fun v0 v2 v3 v5 v6 S => B_X11_day_73 Q (P_X11_day_73 Q) v0 v2 v3 v5 v6 S) (fun v0 v2 v3 v5 v6 S hB => cmB_X11_day_73 hB hB (fun _ _ a _ => a) (fun _ _ _ _ _ _ hb _ => fd_X11_day_73 hb))
theorem cm_X11_day_73 {Q1 Q2 Q3 : Int32 → HS → Prop} {v0 : Nat} {v2 : Int32} {v3 : Int32} {v5 : Int32} {v6 : Int32} {S : HS} (h1 : P_X11_day_73 Q1 v0 v2 v3 v5 v6 S) (h2 : P_X11_day_73 Q2 v0 v2 v3 v5 v6 S) (hq : ∀ (r : Int32) (T : HS), Q1 r T → Q2 r T → Q3 r T) : P_X11_day_73 Q3 v0 v2 v3 v5 v6 S := h1 (fun v0 v2 v3 v5 v6 S => P_X11_day_73 Q2 v0 v2 v3 v5 v6 S → P_X11_day_73 Q3 v0 v2 v3 v5 v6 S) (fun v0 v2 v3 v5 v6 S hB hp => fd_X11_day_73 (cmB_X11_day_73 hB (uf_X11_day_73 hp) hq (fun _ _ _ _ _ _ hx hp => hx hp))) h2
set_option maxRecDepth 20000 in
set_option maxHeartbeats 1000000 in
theorem cm_X11_day_0 {Q1 Q2 Q3 : Int32 → HS → Prop} {v0 : Nat} {v1 : Int32} {v2 : Int32} {v3 : Int32} {v4 : Int32} {S : HS} (h1 : P_X11_day_0 Q1 v0 v1 v2 v3 v4 S) (h2 : P_X11_day_0 Q2 v0 v1 v2 v3 v4 S) (hq : ∀ (r : Int32) (T : HS), Q1 r T → Q2 r T → Q3 r T) : P_X11_day_0 Q3 v0 v1 v2 v3 v4 S := by
  delta P_X11_day_0 at h1 h2 ⊢
  obtain ⟨c1, h1⟩ := h1
  obtain ⟨_, h2⟩ := h2
  refine ⟨c1, ?_⟩
  intro x3 e2
  have h1 := h1 x3 e2
  have h2 := h2 x3 e2
  refine cm_X11_isWalker h1 h2 (fun x4 x5 h1 h2 g6 g7 => ?_)
  have h1 := h1 g6 g7
  have h2 := h2 g6 g7
  refine ⟨?_, ?_⟩
  · intro c8
    have h1 := h1.1 c8
    have h2 := h2.1 c8
    exact cm_X11_day_21 h1 h2 hq
  · intro c9
    have h1 := h1.2 c9
    have h2 := h2.2 c9
    refine cm_X11_isPlace h1 h2 (fun x10 x11 h1 h2 g12 g13 => ?_)
    have h1 := h1 g12 g13
    have h2 := h2 g12 g13
    refine ⟨?_, ?_⟩
    · intro c14
      have h1 := h1.1 c14
      have h2 := h2.1 c14
      refine cm_X11_in h1 h2 (fun x15 x16 h1 h2 g17 g18 => ?_)
      have h1 := h1 g17 g18
      have h2 := h2 g17 g18
      refine ⟨?_, ?_⟩
      · intro c19
        have h1 := h1.1 c19
        have h2 := h2.1 c19
        exact cm_X11_day_50 h1 h2 hq
      · intro c20
        have h1 := h1.2 c20
        have h2 := h2.2 c20
        refine cm_X11_in h1 h2 (fun x21 x22 h1 h2 g23 g24 => ?_)
        have h1 := h1 g23 g24
        have h2 := h2 g23 g24
        refine ⟨?_, ?_⟩
        · intro c25
          have h1 := h1.1 c25
          have h2 := h2.1 c25
          intro x27 e26
          have h1 := h1 x27 e26
          have h2 := h2 x27 e26
          intro x29 e28
          have h1 := h1 x29 e28
          have h2 := h2 x29 e28
          exact cm_X11_day_73 h1 h2 hq
        · intro c30
          have h1 := h1.2 c30
          have h2 := h2.2 c30
          exact cm_X11_day_50 h1 h2 hq
    · intro c31
      have h1 := h1.2 c31
      have h2 := h2.2 c31
      exact cm_X11_day_21 h1 h2 hq
theorem cm_X11_day {Q1 Q2 Q3 : Int32 → HS → Prop} {v0 : Nat} {v1 : Int32} {v2 : Int32} {v3 : Int32} {v4 : Int32} {S : HS} (h1 : P_X11_day v0 v1 v2 v3 v4 Q1 S) (h2 : P_X11_day v0 v1 v2 v3 v4 Q2 S) (hq : ∀ (r : Int32) (T : HS), Q1 r T → Q2 r T → Q3 r T) : P_X11_day v0 v1 v2 v3 v4 Q3 S := cm_X11_day_0 h1 h2 hq
set_option maxRecDepth 20000 in
set_option maxHeartbeats 1000000 in
theorem cm_X11_wetAtBest_0 {Q1 Q2 Q3 : Int64 → HS → Prop} {v0 : Nat} {v1 : Int32} {v2 : Int32} {v3 : Int32} {v4 : Int32} {S : HS} (h1 : P_X11_wetAtBest_0 Q1 v0 v1 v2 v3 v4 S) (h2 : P_X11_wetAtBest_0 Q2 v0 v1 v2 v3 v4 S) (hq : ∀ (r : Int64) (T : HS), Q1 r T → Q2 r T → Q3 r T) : P_X11_wetAtBest_0 Q3 v0 v1 v2 v3 v4 S := by
  delta P_X11_wetAtBest_0 at h1 h2 ⊢
  obtain ⟨c1, h1⟩ := h1
  obtain ⟨_, h2⟩ := h2
  refine ⟨c1, ?_⟩
  refine cm_X11_bestOf h1 h2 (fun x2 x3 h1 h2 g4 => ?_)
  have h1 := h1 g4
  have h2 := h2 g4
  refine cm_X11_wetOf h1 h2 (fun x5 x6 h1 h2 g7 => ?_)
  have h1 := h1 g7
  have h2 := h2 g7
  exact hq _ _ h1 h2
theorem cm_X11_wetAtBest {Q1 Q2 Q3 : Int64 → HS → Prop} {v0 : Nat} {v1 : Int32} {v2 : Int32} {v3 : Int32} {v4 : Int32} {S : HS} (h1 : P_X11_wetAtBest v0 v1 v2 v3 v4 Q1 S) (h2 : P_X11_wetAtBest v0 v1 v2 v3 v4 Q2 S) (hq : ∀ (r : Int64) (T : HS), Q1 r T → Q2 r T → Q3 r T) : P_X11_wetAtBest v0 v1 v2 v3 v4 Q3 S := cm_X11_wetAtBest_0 h1 h2 hq
set_option maxRecDepth 20000 in
set_option maxHeartbeats 1000000 in
theorem cm_X11_driest_30 {Q1 Q2 Q3 : Int32 → HS → Prop} {v0 : Nat} {S : HS} (h1 : P_X11_driest_30 Q1 v0 S) (h2 : P_X11_driest_30 Q2 v0 S) (hq : ∀ (r : Int32) (T : HS), Q1 r T → Q2 r T → Q3 r T) : P_X11_driest_30 Q3 v0 S := by
  delta P_X11_driest_30 at h1 h2 ⊢
  obtain ⟨c1, h1⟩ := h1
  obtain ⟨_, h2⟩ := h2
  refine ⟨c1, ?_⟩
  refine cm_X11_refused h1 h2 (fun x2 x3 h1 h2 g4 => ?_)
  have h1 := h1 g4
  have h2 := h2 g4
  exact hq _ _ h1 h2
set_option maxRecDepth 20000 in
set_option maxHeartbeats 1000000 in
theorem cm_X11_driest_105 {Q1 Q2 Q3 : Int32 → HS → Prop} {X45_1 X45_2 X45_3 : Nat → Int32 → Int32 → Int32 → Int32 → Int64 → Int32 → HS → Prop} {v0 : Nat} {v1 : Int32} {v2 : Int32} {v3 : Int32} {v4 : Int32} {v5 : Int64} {v7 : Int32} {S : HS} (h1 : P_X11_driest_105 Q1 X45_1 v0 v1 v2 v3 v4 v5 v7 S) (h2 : P_X11_driest_105 Q2 X45_2 v0 v1 v2 v3 v4 v5 v7 S) (hq : ∀ (r : Int32) (T : HS), Q1 r T → Q2 r T → Q3 r T) (hX45 : ∀ (u0 : Nat) (u1 : Int32) (u2 : Int32) (u3 : Int32) (u4 : Int32) (u5 : Int64) (u6 : Int32) (u7 : HS), X45_1 u0 u1 u2 u3 u4 u5 u6 u7 → X45_2 u0 u1 u2 u3 u4 u5 u6 u7 → X45_3 u0 u1 u2 u3 u4 u5 u6 u7) : P_X11_driest_105 Q3 X45_3 v0 v1 v2 v3 v4 v5 v7 S := by
  delta P_X11_driest_105 at h1 h2 ⊢
  intro x2 e1
  have h1 := h1 x2 e1
  have h2 := h2 x2 e1
  exact hX45 _ _ _ _ _ _ _ _ h1 h2
set_option maxRecDepth 20000 in
set_option maxHeartbeats 1000000 in
theorem cm_X11_driest_97 {Q1 Q2 Q3 : Int32 → HS → Prop} {X45_1 X45_2 X45_3 : Nat → Int32 → Int32 → Int32 → Int32 → Int64 → Int32 → HS → Prop} {v0 : Nat} {v1 : Int32} {v2 : Int32} {v3 : Int32} {v7 : Int32} {v8 : Int64} {S : HS} (h1 : P_X11_driest_97 Q1 X45_1 v0 v1 v2 v3 v7 v8 S) (h2 : P_X11_driest_97 Q2 X45_2 v0 v1 v2 v3 v7 v8 S) (hq : ∀ (r : Int32) (T : HS), Q1 r T → Q2 r T → Q3 r T) (hX45 : ∀ (u0 : Nat) (u1 : Int32) (u2 : Int32) (u3 : Int32) (u4 : Int32) (u5 : Int64) (u6 : Int32) (u7 : HS), X45_1 u0 u1 u2 u3 u4 u5 u6 u7 → X45_2 u0 u1 u2 u3 u4 u5 u6 u7 → X45_3 u0 u1 u2 u3 u4 u5 u6 u7) : P_X11_driest_97 Q3 X45_3 v0 v1 v2 v3 v7 v8 S := by
  delta P_X11_driest_97 at h1 h2 ⊢
  exact cm_X11_driest_105 h1 h2 hq hX45
set_option maxRecDepth 20000 in
set_option maxHeartbeats 1000000 in
theorem cmB_X11_driest_45 {Q1 Q2 Q3 : Int32 → HS → Prop} {X45_1 X45_2 X45_3 : Nat → Int32 → Int32 → Int32 → Int32 → Int64 → Int32 → HS → Prop} {v0 : Nat} {v1 : Int32} {v2 : Int32} {v3 : Int32} {v4 : Int32} {v5 : Int64} {v7 : Int32} {S : HS} (h1 : B_X11_driest_45 Q1 X45_1 v0 v1 v2 v3 v4 v5 v7 S) (h2 : B_X11_driest_45 Q2 X45_2 v0 v1 v2 v3 v4 v5 v7 S) (hq : ∀ (r : Int32) (T : HS), Q1 r T → Q2 r T → Q3 r T) (hX45 : ∀ (u0 : Nat) (u1 : Int32) (u2 : Int32) (u3 : Int32) (u4 : Int32) (u5 : Int64) (u6 : Int32) (u7 : HS), X45_1 u0 u1 u2 u3 u4 u5 u6 u7 → X45_2 u0 u1 u2 u3 u4 u5 u6 u7 → X45_3 u0 u1 u2 u3 u4 u5 u6 u7) : B_X11_driest_45 Q3 X45_3 v0 v1 v2 v3 v4 v5 v7 S := by
  delta B_X11_driest_45 at h1 h2 ⊢
  obtain ⟨c1, h1⟩ := h1
  obtain ⟨_, h2⟩ := h2
  refine ⟨c1, ?_⟩
  obtain ⟨b2, e3, h1⟩ := h1
  obtain ⟨b4, e5, h2⟩ := h2
  cases e3.symm.trans e5
  refine ⟨b2, e3, ?_⟩
  obtain ⟨c6, h1⟩ := h1
  obtain ⟨_, h2⟩ := h2
  refine ⟨c6, ?_⟩
  intro x8 e7
  have h1 := h1 x8 e7
  have h2 := h2 x8 e7
  refine ⟨?_, ?_⟩
  · intro c9
    have h1 := h1.1 c9
    have h2 := h2.1 c9
    refine ⟨?_, ?_⟩
    · intro c10
      have h1 := h1.1 c10
      have h2 := h2.1 c10
      refine cm_X11_good h1 h2 (fun x11 x12 h1 h2 g13 => ?_)
      have h1 := h1 g13
      have h2 := h2 g13
      exact hq _ _ h1 h2
    · intro c14
      have h1 := h1.2 c14
      have h2 := h2.2 c14
      refine cm_X11_refused h1 h2 (fun x15 x16 h1 h2 g17 => ?_)
      have h1 := h1 g17
      have h2 := h2 g17
      exact hq _ _ h1 h2
  · intro c18
    have h1 := h1.2 c18
    have h2 := h2.2 c18
    refine cm_X11_wetAtBest h1 h2 (fun x19 x20 h1 h2 g21 => ?_)
    have h1 := h1 g21
    have h2 := h2 g21
    obtain ⟨b22, e23, h1⟩ := h1
    obtain ⟨b24, e25, h2⟩ := h2
    cases e23.symm.trans e25
    refine ⟨b22, e23, ?_⟩
    obtain ⟨c26, h1⟩ := h1
    obtain ⟨_, h2⟩ := h2
    refine ⟨c26, ?_⟩
    obtain ⟨b27, e28, h1⟩ := h1
    obtain ⟨b29, e30, h2⟩ := h2
    cases e28.symm.trans e30
    refine ⟨b27, e28, ?_⟩
    obtain ⟨c31, h1⟩ := h1
    obtain ⟨_, h2⟩ := h2
    refine ⟨c31, ?_⟩
    obtain ⟨c32, h1⟩ := h1
    obtain ⟨_, h2⟩ := h2
    refine ⟨c32, ?_⟩
    intro x34 e33
    have h1 := h1 x34 e33
    have h2 := h2 x34 e33
    intro x36 e35
    have h1 := h1 x36 e35
    have h2 := h2 x36 e35
    refine ⟨?_, ?_⟩
    · intro c37
      have h1 := h1.1 c37
      have h2 := h2.1 c37
      exact cm_X11_driest_97 h1 h2 hq hX45
    · intro c38
      have h1 := h1.2 c38
      have h2 := h2.2 c38
      refine ⟨?_, ?_⟩
      · intro c39
        have h1 := h1.1 c39
        have h2 := h2.1 c39
        exact cm_X11_driest_97 h1 h2 hq hX45
      · intro c40
        have h1 := h1.2 c40
        have h2 := h2.2 c40
        exact cm_X11_driest_105 h1 h2 hq hX45
theorem fd_X11_driest_45 {Q : Int32 → HS → Prop} {v0 : Nat} {v1 : Int32} {v2 : Int32} {v3 : Int32} {v4 : Int32} {v5 : Int64} {v7 : Int32} {S : HS} (h : B_X11_driest_45 Q (P_X11_driest_45 Q) v0 v1 v2 v3 v4 v5 v7 S) : P_X11_driest_45 Q v0 v1 v2 v3 v4 v5 v7 S := fun X hX => hX v0 v1 v2 v3 v4 v5 v7 S (cmB_X11_driest_45 h h (fun _ _ a _ => a) (fun _ _ _ _ _ _ _ _ hp _ => hp X hX))
theorem uf_X11_driest_45 {Q : Int32 → HS → Prop} {v0 : Nat} {v1 : Int32} {v2 : Int32} {v3 : Int32} {v4 : Int32} {v5 : Int64} {v7 : Int32} {S : HS} (h : P_X11_driest_45 Q v0 v1 v2 v3 v4 v5 v7 S) : B_X11_driest_45 Q (P_X11_driest_45 Q) v0 v1 v2 v3 v4 v5 v7 S := h (fun v0 v1 v2 v3 v4 v5 v7 S => B_X11_driest_45 Q (P_X11_driest_45 Q) v0 v1 v2 v3 v4 v5 v7 S) (fun v0 v1 v2 v3 v4 v5 v7 S hB => cmB_X11_driest_45 hB hB (fun _ _ a _ => a) (fun _ _ _ _ _ _ _ _ hb _ => fd_X11_driest_45 hb))
theorem cm_X11_driest_45 {Q1 Q2 Q3 : Int32 → HS → Prop} {v0 : Nat} {v1 : Int32} {v2 : Int32} {v3 : Int32} {v4 : Int32} {v5 : Int64} {v7 : Int32} {S : HS} (h1 : P_X11_driest_45 Q1 v0 v1 v2 v3 v4 v5 v7 S) (h2 : P_X11_driest_45 Q2 v0 v1 v2 v3 v4 v5 v7 S) (hq : ∀ (r : Int32) (T : HS), Q1 r T → Q2 r T → Q3 r T) : P_X11_driest_45 Q3 v0 v1 v2 v3 v4 v5 v7 S := h1 (fun v0 v1 v2 v3 v4 v5 v7 S => P_X11_driest_45 Q2 v0 v1 v2 v3 v4 v5 v7 S → P_X11_driest_45 Q3 v0 v1 v2 v3 v4 v5 v7 S) (fun v0 v1 v2 v3 v4 v5 v7 S hB hp => fd_X11_driest_45 (cmB_X11_driest_45 hB (uf_X11_driest_45 hp) hq (fun _ _ _ _ _ _ _ _ hx hp => hx hp))) h2
set_option maxRecDepth 20000 in
set_option maxHeartbeats 1000000 in
theorem cm_X11_driest_0 {Q1 Q2 Q3 : Int32 → HS → Prop} {v0 : Nat} {v1 : Int32} {v2 : Int32} {v3 : Int32} {S : HS} (h1 : P_X11_driest_0 Q1 v0 v1 v2 v3 S) (h2 : P_X11_driest_0 Q2 v0 v1 v2 v3 S) (hq : ∀ (r : Int32) (T : HS), Q1 r T → Q2 r T → Q3 r T) : P_X11_driest_0 Q3 v0 v1 v2 v3 S := by
  delta P_X11_driest_0 at h1 h2 ⊢
  obtain ⟨c1, h1⟩ := h1
  obtain ⟨_, h2⟩ := h2
  refine ⟨c1, ?_⟩
  intro x3 e2
  have h1 := h1 x3 e2
  have h2 := h2 x3 e2
  refine cm_X11_isWalker h1 h2 (fun x4 x5 h1 h2 g6 g7 => ?_)
  have h1 := h1 g6 g7
  have h2 := h2 g6 g7
  refine ⟨?_, ?_⟩
  · intro c8
    have h1 := h1.1 c8
    have h2 := h2.1 c8
    exact cm_X11_driest_30 h1 h2 hq
  · intro c9
    have h1 := h1.2 c9
    have h2 := h2.2 c9
    refine cm_X11_isRoad h1 h2 (fun x10 x11 h1 h2 g12 g13 => ?_)
    have h1 := h1 g12 g13
    have h2 := h2 g12 g13
    refine ⟨?_, ?_⟩
    · intro c14
      have h1 := h1.1 c14
      have h2 := h2.1 c14
      exact cm_X11_driest_30 h1 h2 hq
    · intro c15
      have h1 := h1.2 c15
      have h2 := h2.2 c15
      refine cm_X11_in h1 h2 (fun x16 x17 h1 h2 g18 g19 => ?_)
      have h1 := h1 g18 g19
      have h2 := h2 g18 g19
      refine ⟨?_, ?_⟩
      · intro c20
        have h1 := h1.1 c20
        have h2 := h2.1 c20
        exact cm_X11_driest_45 h1 h2 hq
      · intro c21
        have h1 := h1.2 c21
        have h2 := h2.2 c21
        exact cm_X11_driest_30 h1 h2 hq
theorem cm_X11_driest {Q1 Q2 Q3 : Int32 → HS → Prop} {v0 : Nat} {v1 : Int32} {v2 : Int32} {v3 : Int32} {S : HS} (h1 : P_X11_driest v0 v1 v2 v3 Q1 S) (h2 : P_X11_driest v0 v1 v2 v3 Q2 S) (hq : ∀ (r : Int32) (T : HS), Q1 r T → Q2 r T → Q3 r T) : P_X11_driest v0 v1 v2 v3 Q3 S := cm_X11_driest_0 h1 h2 hq
set_option maxRecDepth 20000 in
set_option maxHeartbeats 1000000 in
theorem cm_X11_drips_0 {Q1 Q2 Q3 : Int64 → HS → Prop} {v0 : Nat} {v1 : Int32} {v2 : Int32} {S : HS} (h1 : P_X11_drips_0 Q1 v0 v1 v2 S) (h2 : P_X11_drips_0 Q2 v0 v1 v2 S) (hq : ∀ (r : Int64) (T : HS), Q1 r T → Q2 r T → Q3 r T) : P_X11_drips_0 Q3 v0 v1 v2 S := by
  delta P_X11_drips_0 at h1 h2 ⊢
  obtain ⟨c1, h1⟩ := h1
  obtain ⟨_, h2⟩ := h2
  refine ⟨c1, ?_⟩
  obtain ⟨b2, e3, h1⟩ := h1
  obtain ⟨b4, e5, h2⟩ := h2
  cases e3.symm.trans e5
  refine ⟨b2, e3, ?_⟩
  obtain ⟨c6, h1⟩ := h1
  obtain ⟨_, h2⟩ := h2
  refine ⟨c6, ?_⟩
  obtain ⟨b7, e8, h1⟩ := h1
  obtain ⟨b9, e10, h2⟩ := h2
  cases e8.symm.trans e10
  refine ⟨b7, e8, ?_⟩
  obtain ⟨c11, h1⟩ := h1
  obtain ⟨_, h2⟩ := h2
  refine ⟨c11, ?_⟩
  obtain ⟨c12, h1⟩ := h1
  obtain ⟨_, h2⟩ := h2
  refine ⟨c12, ?_⟩
  intro x14 e13
  have h1 := h1 x14 e13
  have h2 := h2 x14 e13
  obtain ⟨b15, e16, h1⟩ := h1
  obtain ⟨b17, e18, h2⟩ := h2
  cases e16.symm.trans e18
  refine ⟨b15, e16, ?_⟩
  obtain ⟨c19, h1⟩ := h1
  obtain ⟨_, h2⟩ := h2
  refine ⟨c19, ?_⟩
  obtain ⟨b20, e21, h1⟩ := h1
  obtain ⟨b22, e23, h2⟩ := h2
  cases e21.symm.trans e23
  refine ⟨b20, e21, ?_⟩
  obtain ⟨c24, h1⟩ := h1
  obtain ⟨_, h2⟩ := h2
  refine ⟨c24, ?_⟩
  obtain ⟨c25, h1⟩ := h1
  obtain ⟨_, h2⟩ := h2
  refine ⟨c25, ?_⟩
  intro x27 e26
  have h1 := h1 x27 e26
  have h2 := h2 x27 e26
  obtain ⟨b28, e29, h1⟩ := h1
  obtain ⟨b30, e31, h2⟩ := h2
  cases e29.symm.trans e31
  refine ⟨b28, e29, ?_⟩
  obtain ⟨c32, h1⟩ := h1
  obtain ⟨_, h2⟩ := h2
  refine ⟨c32, ?_⟩
  refine cm_X10_shield h1 h2 (fun x33 x34 h1 h2 g35 => ?_)
  have h1 := h1 g35
  have h2 := h2 g35
  refine cm_X11_less h1 h2 (fun x36 x37 h1 h2 g38 => ?_)
  have h1 := h1 g38
  have h2 := h2 g38
  exact hq _ _ h1 h2
theorem cm_X11_drips {Q1 Q2 Q3 : Int64 → HS → Prop} {v0 : Nat} {v1 : Int32} {v2 : Int32} {S : HS} (h1 : P_X11_drips v0 v1 v2 Q1 S) (h2 : P_X11_drips v0 v1 v2 Q2 S) (hq : ∀ (r : Int64) (T : HS), Q1 r T → Q2 r T → Q3 r T) : P_X11_drips v0 v1 v2 Q3 S := cm_X11_drips_0 h1 h2 hq
