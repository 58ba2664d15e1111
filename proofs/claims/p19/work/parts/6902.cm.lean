section
set_option maxRecDepth 20000 in
set_option maxHeartbeats 1000000 in
theorem cm_X11_laysWays_85 {Q1 Q2 Q3 : HS → Prop} {X3_1 X3_2 X3_3 : Nat → Int32 → Int32 → Int32 → Int32 → HS → Prop} {X11_1 X11_2 X11_3 : Nat → Int32 → Int32 → Int32 → Int32 → Int32 → HS → Prop} {v0 : Nat} {v1 : Int32} {v2 : Int32} {v3 : Int32} {v4 : Int32} {v5 : Int32} {S : HS} (h1 : P_X11_laysWays_85 Q1 X3_1 X11_1 v0 v1 v2 v3 v4 v5 S) (h2 : P_X11_laysWays_85 Q2 X3_2 X11_2 v0 v1 v2 v3 v4 v5 S) (hq : ∀ (T : HS), Q1 T → Q2 T → Q3 T) (hX3 : ∀ (u0 : Nat) (u1 : Int32) (u2 : Int32) (u3 : Int32) (u4 : Int32) (u5 : HS), X3_1 u0 u1 u2 u3 u4 u5 → X3_2 u0 u1 u2 u3 u4 u5 → X3_3 u0 u1 u2 u3 u4 u5) (hX11 : ∀ (u0 : Nat) (u1 : Int32) (u2 : Int32) (u3 : Int32) (u4 : Int32) (u5 : Int32) (u6 : HS), X11_1 u0 u1 u2 u3 u4 u5 u6 → X11_2 u0 u1 u2 u3 u4 u5 u6 → X11_3 u0 u1 u2 u3 u4 u5 u6) : P_X11_laysWays_85 Q3 X3_3 X11_3 v0 v1 v2 v3 v4 v5 S := by
  delta P_X11_laysWays_85 at h1 h2 ⊢
  intro x2 e1
  have h1 := h1 x2 e1
  have h2 := h2 x2 e1
  exact hX11 _ _ _ _ _ _ _ h1 h2
set_option maxRecDepth 20000 in
set_option maxHeartbeats 1000000 in
theorem cm_X11_laysWays_51 {Q1 Q2 Q3 : HS → Prop} {X3_1 X3_2 X3_3 : Nat → Int32 → Int32 → Int32 → Int32 → HS → Prop} {X11_1 X11_2 X11_3 : Nat → Int32 → Int32 → Int32 → Int32 → Int32 → HS → Prop} {v0 : Nat} {v1 : Int32} {v2 : Int32} {v3 : Int32} {v4 : Int32} {v5 : Int32} {v6 : Int32} {s0 : Nat} {s1 : Int32} {s2 : Int64} {S : HS} (h1 : P_X11_laysWays_51 Q1 X3_1 X11_1 v0 v1 v2 v3 v4 v5 v6 s0 s1 s2 S) (h2 : P_X11_laysWays_51 Q2 X3_2 X11_2 v0 v1 v2 v3 v4 v5 v6 s0 s1 s2 S) (hq : ∀ (T : HS), Q1 T → Q2 T → Q3 T) (hX3 : ∀ (u0 : Nat) (u1 : Int32) (u2 : Int32) (u3 : Int32) (u4 : Int32) (u5 : HS), X3_1 u0 u1 u2 u3 u4 u5 → X3_2 u0 u1 u2 u3 u4 u5 → X3_3 u0 u1 u2 u3 u4 u5) (hX11 : ∀ (u0 : Nat) (u1 : Int32) (u2 : Int32) (u3 : Int32) (u4 : Int32) (u5 : Int32) (u6 : HS), X11_1 u0 u1 u2 u3 u4 u5 u6 → X11_2 u0 u1 u2 u3 u4 u5 u6 → X11_3 u0 u1 u2 u3 u4 u5 u6) : P_X11_laysWays_51 Q3 X3_3 X11_3 v0 v1 v2 v3 v4 v5 v6 s0 s1 s2 S := by
  delta P_X11_laysWays_51 at h1 h2 ⊢
  obtain ⟨c1, h1⟩ := h1
  obtain ⟨_, h2⟩ := h2
  refine ⟨c1, ?_⟩
  obtain ⟨c2, h1⟩ := h1
  obtain ⟨_, h2⟩ := h2
  refine ⟨c2, ?_⟩
  intro x4 e3
  have h1 := h1 x4 e3
  have h2 := h2 x4 e3
  obtain ⟨c5, h1⟩ := h1
  obtain ⟨_, h2⟩ := h2
  refine ⟨c5, ?_⟩
  obtain ⟨b6, e7, h1⟩ := h1
  obtain ⟨b8, e9, h2⟩ := h2
  cases e7.symm.trans e9
  refine ⟨b6, e7, ?_⟩
  obtain ⟨c10, h1⟩ := h1
  obtain ⟨_, h2⟩ := h2
  refine ⟨c10, ?_⟩
  obtain ⟨c11, h1⟩ := h1
  obtain ⟨_, h2⟩ := h2
  refine ⟨c11, ?_⟩
  intro x13 e12
  have h1 := h1 x13 e12
  have h2 := h2 x13 e12
  obtain ⟨b14, e15, h1⟩ := h1
  obtain ⟨b16, e17, h2⟩ := h2
  cases e15.symm.trans e17
  refine ⟨b14, e15, ?_⟩
  obtain ⟨c18, h1⟩ := h1
  obtain ⟨_, h2⟩ := h2
  refine ⟨c18, ?_⟩
  obtain ⟨c19, h1⟩ := h1
  obtain ⟨_, h2⟩ := h2
  refine ⟨c19, ?_⟩
  intro x21 e20
  have h1 := h1 x21 e20
  have h2 := h2 x21 e20
  refine ⟨?_, ?_⟩
  · intro c22
    have h1 := h1.1 c22
    have h2 := h2.1 c22
    exact cm_X11_laysWays_85 h1 h2 hq hX3 hX11
  · intro c23
    have h1 := h1.2 c23
    have h2 := h2.2 c23
    refine cm_X11_tries h1 h2 (fun x24 h1 h2 g25 => ?_)
    have h1 := h1 g25
    have h2 := h2 g25
    exact cm_X11_laysWays_85 h1 h2 hq hX3 hX11
set_option maxRecDepth 20000 in
set_option maxHeartbeats 1000000 in
theorem cmB_X11_laysWays_11 {Q1 Q2 Q3 : HS → Prop} {X3_1 X3_2 X3_3 : Nat → Int32 → Int32 → Int32 → Int32 → HS → Prop} {X11_1 X11_2 X11_3 : Nat → Int32 → Int32 → Int32 → Int32 → Int32 → HS → Prop} {v0 : Nat} {v1 : Int32} {v2 : Int32} {v3 : Int32} {v4 : Int32} {v5 : Int32} {S : HS} (h1 : B_X11_laysWays_11 Q1 X3_1 X11_1 v0 v1 v2 v3 v4 v5 S) (h2 : B_X11_laysWays_11 Q2 X3_2 X11_2 v0 v1 v2 v3 v4 v5 S) (hq : ∀ (T : HS), Q1 T → Q2 T → Q3 T) (hX3 : ∀ (u0 : Nat) (u1 : Int32) (u2 : Int32) (u3 : Int32) (u4 : Int32) (u5 : HS), X3_1 u0 u1 u2 u3 u4 u5 → X3_2 u0 u1 u2 u3 u4 u5 → X3_3 u0 u1 u2 u3 u4 u5) (hX11 : ∀ (u0 : Nat) (u1 : Int32) (u2 : Int32) (u3 : Int32) (u4 : Int32) (u5 : Int32) (u6 : HS), X11_1 u0 u1 u2 u3 u4 u5 u6 → X11_2 u0 u1 u2 u3 u4 u5 u6 → X11_3 u0 u1 u2 u3 u4 u5 u6) : B_X11_laysWays_11 Q3 X3_3 X11_3 v0 v1 v2 v3 v4 v5 S := by
  delta B_X11_laysWays_11 at h1 h2 ⊢
  obtain ⟨c1, h1⟩ := h1
  obtain ⟨_, h2⟩ := h2
  refine ⟨c1, ?_⟩
  obtain ⟨b2, e3, h1⟩ := h1
  obtain ⟨b4, e5, h2⟩ := h2
  cases e3.symm.trans e5
  refine ⟨b2, e3, ?_⟩
  obtain ⟨c6, h1⟩ := h1
  obtain ⟨_, h2⟩ := h2
  refine ⟨c6, ?_⟩
  intro x8 e7
  have h1 := h1 x8 e7
  have h2 := h2 x8 e7
  refine ⟨?_, ?_⟩
  · intro c9
    have h1 := h1.1 c9
    have h2 := h2.1 c9
    intro x11 e10
    have h1 := h1 x11 e10
    have h2 := h2 x11 e10
    exact hX3 _ _ _ _ _ _ h1 h2
  · intro c12
    have h1 := h1.2 c12
    have h2 := h2.2 c12
    refine cm_X11_spotOf h1 h2 (fun x13 x14 h1 h2 g15 => ?_)
    have h1 := h1 g15
    have h2 := h2 g15
    obtain ⟨b16, e17, h1⟩ := h1
    obtain ⟨b18, e19, h2⟩ := h2
    cases e17.symm.trans e19
    refine ⟨b16, e17, ?_⟩
    refine ⟨?_, ?_⟩
    · intro c20
      have h1 := h1.1 c20
      have h2 := h2.1 c20
      exact cm_X11_laysWays_51 h1 h2 hq hX3 hX11
    · intro c21
      have h1 := h1.2 c21
      have h2 := h2.2 c21
      exact cm_X11_laysWays_51 h1 h2 hq hX3 hX11
theorem fd_X11_laysWays_11 {Q : HS → Prop} {X3 : Nat → Int32 → Int32 → Int32 → Int32 → HS → Prop} {v0 : Nat} {v1 : Int32} {v2 : Int32} {v3 : Int32} {v4 : Int32} {v5 : Int32} {S : HS} (h : B_X11_laysWays_11 Q X3 (P_X11_laysWays_11 Q X3) v0 v1 v2 v3 v4 v5 S) : P_X11_laysWays_11 Q X3 v0 v1 v2 v3 v4 v5 S := fun X hX => hX v0 v1 v2 v3 v4 v5 S (cmB_X11_laysWays_11 h h (fun _ a _ => a) (fun _ _ _ _ _ _ a _ => a) (fun _ _ _ _ _ _ _ hp _ => hp X hX))
theorem uf_X11_laysWays_11 {Q : HS → Prop} {X3 : Nat → Int32 → Int32 → Int32 → Int32 → HS → Prop} {v0 : Nat} {v1 : Int32} {v2 : Int32} {v3 : Int32} {v4 : Int32} {v5 : Int32} {S : HS} (h : P_X11_laysWays_11 Q X3 v0 v1 v2 v3 v4 v5 S) : B_X11_laysWays_11 Q X3 (P_X11_laysWays_11 Q X3) v0 v1 v2 v3 v4 v5 S := h (fun v0 v1 v2 v3 v4 v5 S => B_X11_laysWays_11 Q X3 (P_X11_laysWays_11 Q X3) v0 v1 v2 v3 v4 v5 S) (fun v0 v1 v2 v3 v4 v5 S hB => cmB_X11_laysWays_11 hB hB (fun _ a _ => a) (fun _ _ _ _ _ _ a _ => a) (fun _ _ _ _ _ _ _ hb _ => fd_X11_laysWays_11 hb))
theorem cm_X11_laysWays_11 {Q1 Q2 Q3 : HS → Prop} {X3_1 X3_2 X3_3 : Nat → Int32 → Int32 → Int32 → Int32 → HS → Prop} {v0 : Nat} {v1 : Int32} {v2 : Int32} {v3 : Int32} {v4 : Int32} {v5 : Int32} {S : HS} (h1 : P_X11_laysWays_11 Q1 X3_1 v0 v1 v2 v3 v4 v5 S) (h2 : P_X11_laysWays_11 Q2 X3_2 v0 v1 v2 v3 v4 v5 S) (hq : ∀ (T : HS), Q1 T → Q2 T → Q3 T) (hX3 : ∀ (u0 : Nat) (u1 : Int32) (u2 : Int32) (u3 : Int32) (u4 : Int32) (u5 : HS), X3_1 u0 u1 u2 u3 u4 u5 → X3_2 u0 u1 u2 u3 u4 u5 → X3_3 u0 u1 u2 u3 u4 u5) : P_X11_laysWays_11 Q3 X3_3 v0 v1 v2 v3 v4 v5 S := h1 (fun v0 v1 v2 v3 v4 v5 S => P_X11_laysWays_11 Q2 X3_2 v0 v1 v2 v3 v4 v5 S → P_X11_laysWays_11 Q3 X3_3 v0 v1 v2 v3 v4 v5 S) (fun v0 v1 v2 v3 v4 v5 S hB hp => fd_X11_laysWays_11 (cmB_X11_laysWays_11 hB (uf_X11_laysWays_11 hp) hq hX3 (fun _ _ _ _ _ _ _ hx hp => hx hp))) h2
set_option maxRecDepth 20000 in
set_option maxHeartbeats 1000000 in
theorem cmB_X11_laysWays_3 {Q1 Q2 Q3 : HS → Prop} {X3_1 X3_2 X3_3 : Nat → Int32 → Int32 → Int32 → Int32 → HS → Prop} {v0 : Nat} {v1 : Int32} {v2 : Int32} {v3 : Int32} {v4 : Int32} {S : HS} (h1 : B_X11_laysWays_3 Q1 X3_1 v0 v1 v2 v3 v4 S) (h2 : B_X11_laysWays_3 Q2 X3_2 v0 v1 v2 v3 v4 S) (hq : ∀ (T : HS), Q1 T → Q2 T → Q3 T) (hX3 : ∀ (u0 : Nat) (u1 : Int32) (u2 : Int32) (u3 : Int32) (u4 : Int32) (u5 : HS), X3_1 u0 u1 u2 u3 u4 u5 → X3_2 u0 u1 u2 u3 u4 u5 → X3_3 u0 u1 u2 u3 u4 u5) : B_X11_laysWays_3 Q3 X3_3 v0 v1 v2 v3 v4 S := by
  delta B_X11_laysWays_3 at h1 h2 ⊢
  refine ⟨?_, ?_⟩
  · intro c1
    have h1 := h1.1 c1
    have h2 := h2.1 c1
    exact hq _ h1 h2
  · intro c2
    have h1 := h1.2 c2
    have h2 := h2.2 c2
    exact cm_X11_laysWays_11 h1 h2 hq hX3
theorem fd_X11_laysWays_3 {Q : HS → Prop} {v0 : Nat} {v1 : Int32} {v2 : Int32} {v3 : Int32} {v4 : Int32} {S : HS} (h : B_X11_laysWays_3 Q (P_X11_laysWays_3 Q) v0 v1 v2 v3 v4 S) : P_X11_laysWays_3 Q v0 v1 v2 v3 v4 S := fun X hX => hX v0 v1 v2 v3 v4 S (cmB_X11_laysWays_3 h h (fun _ a _ => a) (fun _ _ _ _ _ _ hp _ => hp X hX))
theorem uf_X11_laysWays_3 {Q : HS → Prop} {v0 : Nat} {v1 : Int32} {v2 : Int32} {v3 : Int32} {v4 : Int32} {S : HS} (h : P_X11_laysWays_3 Q v0 v1 v2 v3 v4 S) : B_X11_laysWays_3 Q (P_X11_laysWays_3 Q) v0 v1 v2 v3 v4 S := h (fun v0 v1 v2 v3 v4 S => B_X11_laysWays_3 Q (P_X11_laysWays_3 Q) v0 v1 v2 v3 v4 S) (fun v0 v1 v2 v3 v4 S hB => cmB_X11_laysWays_3 hB hB (fun _ a _ => a) (fun _ _ _ _ _ _ hb _ => fd_X11_laysWays_3 hb))
theorem cm_X11_laysWays_3 {Q1 Q2 Q3 : HS → Prop} {v0 : Nat} {v1 : Int32} {v2 : Int32} {v3 : Int32} {v4 : Int32} {S : HS} (h1 : P_X11_laysWays_3 Q1 v0 v1 v2 v3 v4 S) (h2 : P_X11_laysWays_3 Q2 v0 v1 v2 v3 v4 S) (hq : ∀ (T : HS), Q1 T → Q2 T → Q3 T) : P_X11_laysWays_3 Q3 v0 v1 v2 v3 v4 S := h1 (fun v0 v1 v2 v3 v4 S => P_X11_laysWays_3 Q2 v0 v1 v2 v3 v4 S → P_X11_laysWays_3 Q3 v0 v1 v2 v3 v4 S) (fun v0 v1 v2 v3 v4 S hB hp => fd_X11_laysWays_3 (cmB_X11_laysWays_3 hB (uf_X11_laysWays_3 hp) hq (fun _ _ _ _ _ _ hx hp => hx hp))) h2
set_option maxRecDepth 20000 in
set_option maxHeartbeats 1000000 in
theorem cm_X11_laysWays_0 {Q1 Q2 Q3 : HS → Prop} {v0 : Nat} {v1 : Int32} {v2 : Int32} {v3 : Int32} {S : HS} (h1 : P_X11_laysWays_0 Q1 v0 v1 v2 v3 S) (h2 : P_X11_laysWays_0 Q2 v0 v1 v2 v3 S) (hq : ∀ (T : HS), Q1 T → Q2 T → Q3 T) : P_X11_laysWays_0 Q3 v0 v1 v2 v3 S := by
  delta P_X11_laysWays_0 at h1 h2 ⊢
  exact cm_X11_laysWays_3 h1 h2 hq
theorem cm_X11_laysWays {Q1 Q2 Q3 : HS → Prop} {v0 : Nat} {v1 : Int32} {v2 : Int32} {v3 : Int32} {S : HS} (h1 : P_X11_laysWays v0 v1 v2 v3 Q1 S) (h2 : P_X11_laysWays v0 v1 v2 v3 Q2 S) (hq : ∀ (T : HS), Q1 T → Q2 T → Q3 T) : P_X11_laysWays v0 v1 v2 v3 Q3 S := cm_X11_laysWays_0 h1 h2 hq
set_option maxRecDepth 20000 in
set_option maxHeartbeats 1000000 in
theorem cm_X11_refusesWay_0 {Q1 Q2 Q3 : Int32 → HS → Prop} {v0 : Nat} {v1 : Int32} {v2 : Int32} {v3 : Int32} {v4 : Int32} {v5 : Int32} {S : HS} (h1 : P_X11_refusesWay_0 Q1 v0 v1 v2 v3 v4 v5 S) (h2 : P_X11_refusesWay_0 Q2 v0 v1 v2 v3 v4 v5 S) (hq : ∀ (r : Int32) (T : HS), Q1 r T → Q2 r T → Q3 r T) : P_X11_refusesWay_0 Q3 v0 v1 v2 v3 v4 v5 S := by
  delta P_X11_refusesWay_0 at h1 h2 ⊢
  obtain ⟨c1, h1⟩ := h1
  obtain ⟨_, h2⟩ := h2
  refine ⟨c1, ?_⟩
  refine cm_X11_isWalker h1 h2 (fun x2 x3 h1 h2 g4 g5 => ?_)
  have h1 := h1 g4 g5
  have h2 := h2 g4 g5
  refine ⟨?_, ?_⟩
  · intro c6
    have h1 := h1.1 c6
    have h2 := h2.1 c6
    exact hq _ _ h1 h2
  · intro c7
    have h1 := h1.2 c7
    have h2 := h2.2 c7
    refine cm_X11_isPlace h1 h2 (fun x8 x9 h1 h2 g10 g11 => ?_)
    have h1 := h1 g10 g11
    have h2 := h2 g10 g11
    refine ⟨?_, ?_⟩
    · intro c12
      have h1 := h1.1 c12
      have h2 := h2.1 c12
      exact hq _ _ h1 h2
    · intro c13
      have h1 := h1.2 c13
      have h2 := h2.2 c13
      refine cm_X11_isPlace h1 h2 (fun x14 x15 h1 h2 g16 g17 => ?_)
      have h1 := h1 g16 g17
      have h2 := h2 g16 g17
      refine ⟨?_, ?_⟩
      · intro c18
        have h1 := h1.1 c18
        have h2 := h2.1 c18
        refine cm_X11_in h1 h2 (fun x19 x20 h1 h2 g21 g22 => ?_)
        have h1 := h1 g21 g22
        have h2 := h2 g21 g22
        refine ⟨?_, ?_⟩
        · intro c23
          have h1 := h1.1 c23
          have h2 := h2.1 c23
          exact hq _ _ h1 h2
        · intro c24
          have h1 := h1.2 c24
          have h2 := h2.2 c24
          refine cm_X11_in h1 h2 (fun x25 x26 h1 h2 g27 g28 => ?_)
          have h1 := h1 g27 g28
          have h2 := h2 g27 g28
          refine ⟨?_, ?_⟩
          · intro c29
            have h1 := h1.1 c29
            have h2 := h2.1 c29
            refine cm_X11_laysWays h1 h2 (fun x30 h1 h2 g31 => ?_)
            have h1 := h1 g31
            have h2 := h2 g31
            obtain ⟨b32, e33, h1⟩ := h1
            obtain ⟨b34, e35, h2⟩ := h2
            cases e33.symm.trans e35
            refine ⟨b32, e33, ?_⟩
            refine cm_X11_spotOf h1 h2 (fun x36 x37 h1 h2 g38 => ?_)
            have h1 := h1 g38
            have h2 := h2 g38
            obtain ⟨c39, h1⟩ := h1
            obtain ⟨_, h2⟩ := h2
            refine ⟨c39, ?_⟩
            obtain ⟨c40, h1⟩ := h1
            obtain ⟨_, h2⟩ := h2
            refine ⟨c40, ?_⟩
            intro x42 e41
            have h1 := h1 x42 e41
            have h2 := h2 x42 e41
            refine ⟨?_, ?_⟩
            · intro c43
              have h1 := h1.1 c43
              have h2 := h2.1 c43
              exact hq _ _ h1 h2
            · intro c44
              have h1 := h1.2 c44
              have h2 := h2.2 c44
              exact hq _ _ h1 h2
          · intro c45
            have h1 := h1.2 c45
            have h2 := h2.2 c45
            exact hq _ _ h1 h2
      · intro c46
        have h1 := h1.2 c46
        have h2 := h2.2 c46
        exact hq _ _ h1 h2
theorem cm_X11_refusesWay {Q1 Q2 Q3 : Int32 → HS → Prop} {v0 : Nat} {v1 : Int32} {v2 : Int32} {v3 : Int32} {v4 : Int32} {v5 : Int32} {S : HS} (h1 : P_X11_refusesWay v0 v1 v2 v3 v4 v5 Q1 S) (h2 : P_X11_refusesWay v0 v1 v2 v3 v4 v5 Q2 S) (hq : ∀ (r : Int32) (T : HS), Q1 r T → Q2 r T → Q3 r T) : P_X11_refusesWay v0 v1 v2 v3 v4 v5 Q3 S := cm_X11_refusesWay_0 h1 h2 hq
set_option maxRecDepth 20000 in
set_option maxHeartbeats 1000000 in
theorem cm_X11_least_0 {Q1 Q2 Q3 : Int64 → HS → Prop} {v0 : Nat} {v1 : Int32} {v2 : Int32} {v3 : Int32} {v4 : Int32} {v5 : Int32} {v6 : Int32} {S : HS} (h1 : P_X11_least_0 Q1 v0 v1 v2 v3 v4 v5 v6 S) (h2 : P_X11_least_0 Q2 v0 v1 v2 v3 v4 v5 v6 S) (hq : ∀ (r : Int64) (T : HS), Q1 r T → Q2 r T → Q3 r T) : P_X11_least_0 Q3 v0 v1 v2 v3 v4 v5 v6 S := by
  delta P_X11_least_0 at h1 h2 ⊢
  obtain ⟨c1, h1⟩ := h1
  obtain ⟨_, h2⟩ := h2
  refine ⟨c1, ?_⟩
  intro x3 e2
  have h1 := h1 x3 e2
  have h2 := h2 x3 e2
  refine cm_X11_refusesWay h1 h2 (fun x4 x5 h1 h2 g6 => ?_)
  have h1 := h1 g6
  have h2 := h2 g6
  refine ⟨?_, ?_⟩
  · intro c7
    have h1 := h1.1 c7
    have h2 := h2.1 c7
    obtain ⟨b8, e9, h1⟩ := h1
    obtain ⟨b10, e11, h2⟩ := h2
    cases e9.symm.trans e11
    refine ⟨b8, e9, ?_⟩
    refine cm_X11_spotOf h1 h2 (fun x12 x13 h1 h2 g14 => ?_)
    have h1 := h1 g14
    have h2 := h2 g14
    obtain ⟨c15, h1⟩ := h1
    obtain ⟨_, h2⟩ := h2
    refine ⟨c15, ?_⟩
    obtain ⟨c16, h1⟩ := h1
    obtain ⟨_, h2⟩ := h2
    refine ⟨c16, ?_⟩
    intro x18 e17
    have h1 := h1 x18 e17
    have h2 := h2 x18 e17
    refine cm_X11_told h1 h2 (fun x19 x20 h1 h2 g21 => ?_)
    have h1 := h1 g21
    have h2 := h2 g21
    exact hq _ _ h1 h2
  · intro c22
    have h1 := h1.2 c22
    have h2 := h2.2 c22
    refine cm_X11_refused h1 h2 (fun x23 x24 h1 h2 g25 => ?_)
    have h1 := h1 g25
    have h2 := h2 g25
    exact hq _ _ h1 h2
theorem cm_X11_least {Q1 Q2 Q3 : Int64 → HS → Prop} {v0 : Nat} {v1 : Int32} {v2 : Int32} {v3 : Int32} {v4 : Int32} {v5 : Int32} {v6 : Int32} {S : HS} (h1 : P_X11_least v0 v1 v2 v3 v4 v5 v6 Q1 S) (h2 : P_X11_least v0 v1 v2 v3 v4 v5 v6 Q2 S) (hq : ∀ (r : Int64) (T : HS), Q1 r T → Q2 r T → Q3 r T) : P_X11_least v0 v1 v2 v3 v4 v5 v6 Q3 S := cm_X11_least_0 h1 h2 hq
set_option maxRecDepth 20000 in
set_option maxHeartbeats 1000000 in
theorem cm_X11_led_80 {Q1 Q2 Q3 : Int32 → HS → Prop} {X9_1 X9_2 X9_3 : Nat → Int32 → Int32 → Int32 → HS → Prop} {v0 : Nat} {v1 : Int32} {v2 : Int32} {v3 : Int32} {S : HS} (h1 : P_X11_led_80 Q1 X9_1 v0 v1 v2 v3 S) (h2 : P_X11_led_80 Q2 X9_2 v0 v1 v2 v3 S) (hq : ∀ (r : Int32) (T : HS), Q1 r T → Q2 r T → Q3 r T) (hX9 : ∀ (u0 : Nat) (u1 : Int32) (u2 : Int32) (u3 : Int32) (u4 : HS), X9_1 u0 u1 u2 u3 u4 → X9_2 u0 u1 u2 u3 u4 → X9_3 u0 u1 u2 u3 u4) : P_X11_led_80 Q3 X9_3 v0 v1 v2 v3 S := by
  delta P_X11_led_80 at h1 h2 ⊢
  intro x2 e1
  have h1 := h1 x2 e1
  have h2 := h2 x2 e1
  exact hX9 _ _ _ _ _ h1 h2
set_option maxRecDepth 20000 in
set_option maxHeartbeats 1000000 in
theorem cm_X11_led_70 {Q1 Q2 Q3 : Int32 → HS → Prop} {X9_1 X9_2 X9_3 : Nat → Int32 → Int32 → Int32 → HS → Prop} {v0 : Nat} {v1 : Int32} {v2 : Int32} {v3 : Int32} {S : HS} (h1 : P_X11_led_70 Q1 X9_1 v0 v1 v2 v3 S) (h2 : P_X11_led_70 Q2 X9_2 v0 v1 v2 v3 S) (hq : ∀ (r : Int32) (T : HS), Q1 r T → Q2 r T → Q3 r T) (hX9 : ∀ (u0 : Nat) (u1 : Int32) (u2 : Int32) (u3 : Int32) (u4 : HS), X9_1 u0 u1 u2 u3 u4 → X9_2 u0 u1 u2 u3 u4 → X9_3 u0 u1 u2 u3 u4) : P_X11_led_70 Q3 X9_3 v0 v1 v2 v3 S := by
  delta P_X11_led_70 at h1 h2 ⊢
  refine ⟨?_, ?_⟩
  · intro c1
    have h1 := h1.1 c1
    have h2 := h2.1 c1
    intro x3 e2
    have h1 := h1 x3 e2
    have h2 := h2 x3 e2
    exact cm_X11_led_80 h1 h2 hq hX9
  · intro c4
    have h1 := h1.2 c4
    have h2 := h2.2 c4
    exact hq _ _ h1 h2
set_option maxRecDepth 20000 in
set_option maxHeartbeats 1000000 in
theorem cmB_X11_led_9 {Q1 Q2 Q3 : Int32 → HS → Prop} {X9_1 X9_2 X9_3 : Nat → Int32 → Int32 → Int32 → HS → Prop} {v0 : Nat} {v1 : Int32} {v2 : Int32} {v3 : Int32} {S : HS} (h1 : B_X11_led_9 Q1 X9_1 v0 v1 v2 v3 S) (h2 : B_X11_led_9 Q2 X9_2 v0 v1 v2 v3 S) (hq : ∀ (r : Int32) (T : HS), Q1 r T → Q2 r T → Q3 r T) (hX9 : ∀ (u0 : Nat) (u1 : Int32) (u2 : Int32) (u3 : Int32) (u4 : HS), X9_1 u0 u1 u2 u3 u4 → X9_2 u0 u1 u2 u3 u4 → X9_3 u0 u1 u2 u3 u4) : B_X11_led_9 Q3 X9_3 v0 v1 v2 v3 S := by
  delta B_X11_led_9 at h1 h2 ⊢
  obtain ⟨c1, h1⟩ := h1
  obtain ⟨_, h2⟩ := h2
  refine ⟨c1, ?_⟩
  refine cm_X11_isDay h1 h2 (fun x2 x3 h1 h2 g4 g5 => ?_)
  have h1 := h1 g4 g5
  have h2 := h2 g4 g5
  refine ⟨?_, ?_⟩
  · intro c6
    have h1 := h1.1 c6
    have h2 := h2.1 c6
    intro x8 e7
    have h1 := h1 x8 e7
    have h2 := h2 x8 e7
    exact hq _ _ h1 h2
  · intro c9
    have h1 := h1.2 c9
    have h2 := h2.2 c9
    obtain ⟨b10, e11, h1⟩ := h1
    obtain ⟨b12, e13, h2⟩ := h2
    cases e11.symm.trans e13
    refine ⟨b10, e11, ?_⟩
    obtain ⟨c14, h1⟩ := h1
    obtain ⟨_, h2⟩ := h2
    refine ⟨c14, ?_⟩
    intro x16 e15
    have h1 := h1 x16 e15
    have h2 := h2 x16 e15
    refine ⟨?_, ?_⟩
    · intro c17
      have h1 := h1.1 c17
      have h2 := h2.1 c17
      intro x19 e18
      have h1 := h1 x19 e18
      have h2 := h2 x19 e18
      exact hq _ _ h1 h2
    · intro c20
      have h1 := h1.2 c20
      have h2 := h2.2 c20
      obtain ⟨b21, e22, h1⟩ := h1
      obtain ⟨b23, e24, h2⟩ := h2
      cases e22.symm.trans e24
      refine ⟨b21, e22, ?_⟩
      obtain ⟨c25, h1⟩ := h1
      obtain ⟨_, h2⟩ := h2
      refine ⟨c25, ?_⟩
      obtain ⟨b26, e27, h1⟩ := h1
      obtain ⟨b28, e29, h2⟩ := h2
      cases e27.symm.trans e29
      refine ⟨b26, e27, ?_⟩
      obtain ⟨c30, h1⟩ := h1
      obtain ⟨_, h2⟩ := h2
      refine ⟨c30, ?_⟩
      obtain ⟨c31, h1⟩ := h1
      obtain ⟨_, h2⟩ := h2
      refine ⟨c31, ?_⟩
      intro x33 e32
      have h1 := h1 x33 e32
      have h2 := h2 x33 e32
      obtain ⟨b34, e35, h1⟩ := h1
      obtain ⟨b36, e37, h2⟩ := h2
      cases e35.symm.trans e37
      refine ⟨b34, e35, ?_⟩
      obtain ⟨c38, h1⟩ := h1
      obtain ⟨_, h2⟩ := h2
      refine ⟨c38, ?_⟩
      obtain ⟨c39, h1⟩ := h1
      obtain ⟨_, h2⟩ := h2
      refine ⟨c39, ?_⟩
      intro x41 e40
      have h1 := h1 x41 e40
      have h2 := h2 x41 e40
      refine ⟨?_, ?_⟩
      · intro c42
        have h1 := h1.1 c42
        have h2 := h2.1 c42
        exact cm_X11_led_70 h1 h2 hq hX9
      · intro c43
        have h1 := h1.2 c43
        have h2 := h2.2 c43
        obtain ⟨b44, e45, h1⟩ := h1
        obtain ⟨b46, e47, h2⟩ := h2
        cases e45.symm.trans e47
        refine ⟨b44, e45, ?_⟩
        obtain ⟨c48, h1⟩ := h1
        obtain ⟨_, h2⟩ := h2
        refine ⟨c48, ?_⟩
        obtain ⟨b49, e50, h1⟩ := h1
        obtain ⟨b51, e52, h2⟩ := h2
        cases e50.symm.trans e52
        refine ⟨b49, e50, ?_⟩
        obtain ⟨c53, h1⟩ := h1
        obtain ⟨_, h2⟩ := h2
        refine ⟨c53, ?_⟩
        obtain ⟨c54, h1⟩ := h1
        obtain ⟨_, h2⟩ := h2
        refine ⟨c54, ?_⟩
        intro x56 e55
        have h1 := h1 x56 e55
        have h2 := h2 x56 e55
        obtain ⟨b57, e58, h1⟩ := h1
        obtain ⟨b59, e60, h2⟩ := h2
        cases e58.symm.trans e60
        refine ⟨b57, e58, ?_⟩
        obtain ⟨c61, h1⟩ := h1
        obtain ⟨_, h2⟩ := h2
        refine ⟨c61, ?_⟩
        obtain ⟨c62, h1⟩ := h1
        obtain ⟨_, h2⟩ := h2
        refine ⟨c62, ?_⟩
        intro x64 e63
        have h1 := h1 x64 e63
        have h2 := h2 x64 e63
        refine ⟨?_, ?_⟩
        · intro c65
          have h1 := h1.1 c65
          have h2 := h2.1 c65
          exact cm_X11_led_70 h1 h2 hq hX9
        · intro c66
          have h1 := h1.2 c66
          have h2 := h2.2 c66
          exact cm_X11_led_80 h1 h2 hq hX9
theorem fd_X11_led_9 {Q : Int32 → HS → Prop} {v0 : Nat} {v1 : Int32} {v2 : Int32} {v3 : Int32} {S : HS} (h : B_X11_led_9 Q (P_X11_led_9 Q) v0 v1 v2 v3 S) : P_X11_led_9 Q v0 v1 v2 v3 S := fun X hX => hX v0 v1 v2 v3 S (cmB_X11_led_9 h h (fun _ _ a _ => a) (fun _ _ _ _ _ hp _ => hp X hX))
theorem uf_X11_led_9 {Q : Int32 → HS → Prop} {v0 : Nat} {v1 : Int32} {v2 : Int32} {v3 : Int32} {S : HS} (h : P_X11_led_9 Q v0 v1 v2 v3 S) : B_X11_led_9 Q (P_X11_led_9 Q) v0 v1 v2 v3 S := h (fun v0 v1 v2 v3 S => B_X11_led_9 Q (P_X11_led_9 Q) v0 v1 v2 v3 S) (fun v0 v1 v2 v3 S hB => cmB_X11_led_9 hB hB (fun _ _ a _ => a) (fun _ _ _ _ _ hb _ => fd_X11_led_9 hb))
theorem cm_X11_led_9 {Q1 Q2 Q3 : Int32 → HS → Prop} {v0 : Nat} {v1 : Int32} {v2 : Int32} {v3 : Int32} {S : HS} (h1 : P_X11_led_9 Q1 v0 v1 v2 v3 S) (h2 : P_X11_led_9 Q2 v0 v1 v2 v3 S) (hq : ∀ (r : Int32) (T : HS), Q1 r T → Q2 r T → Q3 r T) : P_X11_led_9 Q3 v0 v1 v2 v3 S := h1 (fun v0 v1 v2 v3 S => P_X11_led_9 Q2 v0 v1 v2 v3 S → P_X11_led_9 Q3 v0 v1 v2 v3 S) (fun v0 v1 v2 v3 S hB hp => fd_X11_led_9 (cmB_X11_led_9 hB (uf_X11_led_9 hp) hq (fun _ _ _ _ _ hx hp => hx hp))) h2
set_option maxRecDepth 20000 in
set_option maxHeartbeats 1000000 in
theorem cm_X11_led_0 {Q1 Q2 Q3 : Int32 → HS → Prop} {v0 : Nat} {v1 : Int32} {S : HS} (h1 : P_X11_led_0 Q1 v0 v1 S) (h2 : P_X11_led_0 Q2 v0 v1 S) (hq : ∀ (r : Int32) (T : HS), Q1 r T → Q2 r T → Q3 r T) : P_X11_led_0 Q3 v0 v1 S := by
  delta P_X11_led_0 at h1 h2 ⊢
  obtain ⟨c1, h1⟩ := h1
  obtain ⟨_, h2⟩ := h2
  refine ⟨c1, ?_⟩
  intro x3 e2
  have h1 := h1 x3 e2
  have h2 := h2 x3 e2
  exact cm_X11_led_9 h1 h2 hq
theorem cm_X11_led {Q1 Q2 Q3 : Int32 → HS → Prop} {v0 : Nat} {v1 : Int32} {S : HS} (h1 : P_X11_led v0 v1 Q1 S) (h2 : P_X11_led v0 v1 Q2 S) (hq : ∀ (r : Int32) (T : HS), Q1 r T → Q2 r T → Q3 r T) : P_X11_led v0 v1 Q3 S := cm_X11_led_0 h1 h2 hq
set_option maxRecDepth 20000 in
set_option maxHeartbeats 1000000 in
theorem cm_X11_lee_0 {Q1 Q2 Q3 : Int64 → HS → Prop} {v0 : Nat} {v1 : Int32} {v2 : Int32} {v3 : Int32} {v4 : Int32} {v5 : Int32} {v6 : Int32} {v7 : Int32} {S : HS} (h1 : P_X11_lee_0 Q1 v0 v1 v2 v3 v4 v5 v6 v7 S) (h2 : P_X11_lee_0 Q2 v0 v1 v2 v3 v4 v5 v6 v7 S) (hq : ∀ (r : Int64) (T : HS), Q1 r T → Q2 r T → Q3 r T) : P_X11_lee_0 Q3 v0 v1 v2 v3 v4 v5 v6 v7 S := by
  delta P_X11_lee_0 at h1 h2 ⊢
  obtain ⟨c1, h1⟩ := h1
  obtain ⟨_, h2⟩ := h2
  refine ⟨c1, ?_⟩
  intro x3 e2
  have h1 := h1 x3 e2
  have h2 := h2 x3 e2
  refine cm_X11_refusesTwo h1 h2 (fun x4 x5 h1 h2 g6 => ?_)
  have h1 := h1 g6
  have h2 := h2 g6
  refine ⟨?_, ?_⟩
  · intro c7
    have h1 := h1.1 c7
    have h2 := h2.1 c7
    refine cm_X11_together h1 h2 (fun x8 x9 h1 h2 g10 => ?_)
    have h1 := h1 g10
    have h2 := h2 g10
    refine cm_X11_told h1 h2 (fun x11 x12 h1 h2 g13 => ?_)
    have h1 := h1 g13
    have h2 := h2 g13
    exact hq _ _ h1 h2
  · intro c14
    have h1 := h1.2 c14
    have h2 := h2.2 c14
    refine cm_X11_refused h1 h2 (fun x15 x16 h1 h2 g17 => ?_)
    have h1 := h1 g17
    have h2 := h2 g17
    exact hq _ _ h1 h2
theorem cm_X11_lee {Q1 Q2 Q3 : Int64 → HS → Prop} {v0 : Nat} {v1 : Int32} {v2 : Int32} {v3 : Int32} {v4 : Int32} {v5 : Int32} {v6 : Int32} {v7 : Int32} {S : HS} (h1 : P_X11_lee v0 v1 v2 v3 v4 v5 v6 v7 Q1 S) (h2 : P_X11_lee v0 v1 v2 v3 v4 v5 v6 v7 Q2 S) (hq : ∀ (r : Int64) (T : HS), Q1 r T → Q2 r T → Q3 r T) : P_X11_lee v0 v1 v2 v3 v4 v5 v6 v7 Q3 S := cm_X11_lee_0 h1 h2 hq
set_option maxRecDepth 20000 in
set_option maxHeartbeats 1000000 in
theorem cm_X11_lies_50 {Q1 Q2 Q3 : Int32 → HS → Prop} {X22_1 X22_2 X22_3 : Nat → Int32 → Int32 → HS → Prop} {v0 : Nat} {v2 : Int32} {s0 : Int32} {s1 : Int32} {S : HS} (h1 : P_X11_lies_50 Q1 X22_1 v0 v2 s0 s1 S) (h2 : P_X11_lies_50 Q2 X22_2 v0 v2 s0 s1 S) (hq : ∀ (r : Int32) (T : HS), Q1 r T → Q2 r T → Q3 r T) (hX22 : ∀ (u0 : Nat) (u1 : Int32) (u2 : Int32) (u3 : HS), X22_1 u0 u1 u2 u3 → X22_2 u0 u1 u2 u3 → X22_3 u0 u1 u2 u3) : P_X11_lies_50 Q3 X22_3 v0 v2 s0 s1 S := by
  delta P_X11_lies_50 at h1 h2 ⊢
  intro x2 e1
  have h1 := h1 x2 e1
  have h2 := h2 x2 e1
  intro x4 e3
  have h1 := h1 x4 e3
  have h2 := h2 x4 e3
  exact hX22 _ _ _ _ h1 h2
set_option maxRecDepth 20000 in
set_option maxHeartbeats 1000000 in
theorem cmB_X11_lies_22 {Q1 Q2 Q3 : Int32 → HS → Prop} {X22_1 X22_2 X22_3 : Nat → Int32 → Int32 → HS → Prop} {v0 : Nat} {v1 : Int32} {v2 : Int32} {S : HS} (h1 : B_X11_lies_22 Q1 X22_1 v0 v1 v2 S) (h2 : B_X11_lies_22 Q2 X22_2 v0 v1 v2 S) (hq : ∀ (r : Int32) (T : HS), Q1 r T → Q2 r T → Q3 r T) (hX22 : ∀ (u0 : Nat) (u1 : Int32) (u2 : Int32) (u3 : HS), X22_1 u0 u1 u2 u3 → X22_2 u0 u1 u2 u3 → X22_3 u0 u1 u2 u3) : B_X11_lies_22 Q3 X22_3 v0 v1 v2 S := by
  delta B_X11_lies_22 at h1 h2 ⊢
  obtain ⟨c1, h1⟩ := h1
  obtain ⟨_, h2⟩ := h2
  refine ⟨c1, ?_⟩
  obtain ⟨b2, e3, h1⟩ := h1
  obtain ⟨b4, e5, h2⟩ := h2
  cases e3.symm.trans e5
  refine ⟨b2, e3, ?_⟩
  obtain ⟨c6, h1⟩ := h1
  obtain ⟨_, h2⟩ := h2
  refine ⟨c6, ?_⟩
  intro x8 e7
  have h1 := h1 x8 e7
  have h2 := h2 x8 e7
  refine ⟨?_, ?_⟩
  · intro c9
    have h1 := h1.1 c9
    have h2 := h2.1 c9
    refine cm_X11_good h1 h2 (fun x10 x11 h1 h2 g12 => ?_)
    have h1 := h1 g12
    have h2 := h2 g12
    exact hq _ _ h1 h2
  · intro c13
    have h1 := h1.2 c13
    have h2 := h2.2 c13
    refine cm_X11_fitOf h1 h2 (fun x14 x15 h1 h2 g16 => ?_)
    have h1 := h1 g16
    have h2 := h2 g16
    refine ⟨?_, ?_⟩
    · intro c17
      have h1 := h1.1 c17
      have h2 := h2.1 c17
      exact cm_X11_lies_50 h1 h2 hq hX22
    · intro c18
      have h1 := h1.2 c18
      have h2 := h2.2 c18
      exact cm_X11_lies_50 h1 h2 hq hX22
theorem fd_X11_lies_22 {Q : Int32 → HS → Prop} {v0 : Nat} {v1 : Int32} {v2 : Int32} {S : HS} (h : B_X11_lies_22 Q (P_X11_lies_22 Q) v0 v1 v2 S) : P_X11_lies_22 Q v0 v1 v2 S := fun X hX => hX v0 v1 v2 S (cmB_X11_lies_22 h h (fun _ _ a _ => a) (fun _ _ _ _ hp _ => hp X hX))
theorem uf_X11_lies_22 {Q : Int32 → HS → Prop} {v0 : Nat} {v1 : Int32} {v2 : Int32} {S : HS} (h : P_X11_lies_22 Q v0 v1 v2 S) : B_X11_lies_22 Q (P_X11_lies_22 Q) v0 v1 v2 S := h (fun v0 v1 v2 S => B_X11_lies_22 Q (P_X11_lies_22 Q) v0 v1 v2 S) (fun v0 v1 v2 S hB => cmB_X11_lies_22 hB hB (fun _ _ a _ => a) (fun _ _ _ _ hb _ => fd_X11_lies_22 hb))
theorem cm_X11_lies_22 {Q1 Q2 Q3 : Int32 → HS → Prop} {v0 : Nat} {v1 : Int32} {v2 : Int32} {S : HS} (h1 : P_X11_lies_22 Q1 v0 v1 v2 S) (h2 : P_X11_lies_22 Q2 v0 v1 v2 S) (hq : ∀ (r : Int32) (T : HS), Q1 r T → Q2 r T → Q3 r T) : P_X11_lies_22 Q3 v0 v1 v2 S := h1 (fun v0 v1 v2 S => P_X11_lies_22 Q2 v0 v1 v2 S → P_X11_lies_22 Q3 v0 v1 v2 S) (fun v0 v1 v2 S hB hp => fd_X11_lies_22 (cmB_X11_lies_22 hB (uf_X11_lies_22 hp) hq (fun _ _ _ _ hx hp => hx hp))) h2
set_option maxRecDepth 20000 in
set_option maxHeartbeats 1000000 in
theorem cm_X11_lies_0 {Q1 Q2 Q3 : Int32 → HS → Prop} {v0 : Nat} {S : HS} (h1 : P_X11_lies_0 Q1 v0 S) (h2 : P_X11_lies_0 Q2 v0 S) (hq : ∀ (r : Int32) (T : HS), Q1 r T → Q2 r T → Q3 r T) : P_X11_lies_0 Q3 v0 S := by
  delta P_X11_lies_0 at h1 h2 ⊢
  obtain ⟨c1, h1⟩ := h1
  obtain ⟨_, h2⟩ := h2
  refine ⟨c1, ?_⟩
  intro x3 e2
  have h1 := h1 x3 e2
  have h2 := h2 x3 e2
  refine ⟨?_, ?_⟩
  · intro c4
    have h1 := h1.1 c4
    have h2 := h2.1 c4
    refine cm_X11_refused h1 h2 (fun x5 x6 h1 h2 g7 => ?_)
    have h1 := h1 g7
    have h2 := h2 g7
    exact hq _ _ h1 h2
  · intro x8 c9
    have h1 := h1.2 x8 c9
    have h2 := h2.2 x8 c9
    exact cm_X11_lies_22 h1 h2 hq
theorem cm_X11_lies {Q1 Q2 Q3 : Int32 → HS → Prop} {v0 : Nat} {S : HS} (h1 : P_X11_lies v0 Q1 S) (h2 : P_X11_lies v0 Q2 S) (hq : ∀ (r : Int32) (T : HS), Q1 r T → Q2 r T → Q3 r T) : P_X11_lies v0 Q3 S := cm_X11_lies_0 h1 h2 hq
set_option maxRecDepth 20000 in
set_option maxHeartbeats 1000000 in
theorem cmB_X11_mark_34 {Q1 Q2 Q3 : Int32 → HS → Prop} {X34_1 X34_2 X34_3 : Nat → Int32 → HS → Prop} {v0 : Nat} {v1 : Int32} {S : HS} (h1 : B_X11_mark_34 Q1 X34_1 v0 v1 S) (h2 : B_X11_mark_34 Q2 X34_2 v0 v1 S) (hq : ∀ (r : Int32) (T : HS), Q1 r T → Q2 r T → Q3 r T) (hX34 : ∀ (u0 : Nat) (u1 : Int32) (u2 : HS), X34_1 u0 u1 u2 → X34_2 u0 u1 u2 → X34_3 u0 u1 u2) : B_X11_mark_34 Q3 X34_3 v0 v1 S := by
  delta B_X11_mark_34 at h1 h2 ⊢
  refine ⟨?_, ?_⟩
  · intro c1
    have h1 := h1.1 c1
    have h2 := h2.1 c1
    obtain ⟨c2, h1⟩ := h1
    obtain ⟨_, h2⟩ := h2
    refine ⟨c2, ?_⟩
    intro x4 e3
    have h1 := h1 x4 e3
    have h2 := h2 x4 e3
    intro x6 e5
    have h1 := h1 x6 e5
    have h2 := h2 x6 e5
    intro x8 e7
    have h1 := h1 x8 e7
    have h2 := h2 x8 e7
    intro x10 e9
    have h1 := h1 x10 e9
    have h2 := h2 x10 e9
    refine cm_X11_good h1 h2 (fun x11 x12 h1 h2 g13 => ?_)
    have h1 := h1 g13
    have h2 := h2 g13
    exact hq _ _ h1 h2
  · intro c14
    have h1 := h1.2 c14
    have h2 := h2.2 c14
    obtain ⟨c15, h1⟩ := h1
    obtain ⟨_, h2⟩ := h2
    refine ⟨c15, ?_⟩
    obtain ⟨b16, e17, h1⟩ := h1
    obtain ⟨b18, e19, h2⟩ := h2
    cases e17.symm.trans e19
    refine ⟨b16, e17, ?_⟩
    intro x21 e20
    have h1 := h1 x21 e20
    have h2 := h2 x21 e20
    obtain ⟨b22, e23, h1⟩ := h1
    obtain ⟨b24, e25, h2⟩ := h2
    cases e23.symm.trans e25
    refine ⟨b22, e23, ?_⟩
    obtain ⟨c26, h1⟩ := h1
    obtain ⟨_, h2⟩ := h2
    refine ⟨c26, ?_⟩
    obtain ⟨c27, h1⟩ := h1
    obtain ⟨_, h2⟩ := h2
    refine ⟨c27, ?_⟩
    intro x29 e28
    have h1 := h1 x29 e28
    have h2 := h2 x29 e28
    obtain ⟨c30, h1⟩ := h1
    obtain ⟨_, h2⟩ := h2
    refine ⟨c30, ?_⟩
    obtain ⟨c31, h1⟩ := h1
    obtain ⟨_, h2⟩ := h2
    refine ⟨c31, ?_⟩
    intro x33 e32
    have h1 := h1 x33 e32
    have h2 := h2 x33 e32
    intro x35 e34
    have h1 := h1 x35 e34
    have h2 := h2 x35 e34
    exact hX34 _ _ _ h1 h2
theorem fd_X11_mark_34 {Q : Int32 → HS → Prop} {v0 : Nat} {v1 : Int32} {S : HS} (h : B_X11_mark_34 Q (P_X11_mark_34 Q) v0 v1 S) : P_X11_mark_34 Q v0 v1 S := fun X hX => hX v0 v1 S (cmB_X11_mark_34 h h (fun _ _ a _ => a) (fun _ _ _ hp _ => hp X hX))
theorem uf_X11_mark_34 {Q : Int32 → HS → Prop} {v0 : Nat} {v1 : Int32} {S : HS} (h : P_X11_mark_34 Q v0 v1 S) : B_X11_mark_34 Q (P_X11_mark_34 Q) v0 v1 S := h (fun v0 v1 S => B_X11_mark_34 Q (P_X11_mark_34 Q) v0 v1 S) (fun v0 v1 S hB => cmB_X11_mark_34 hB hB (fun _ _ a _ => a) (fun _ _ _ hb _ => fd_X11_mark_34 hb))
theorem cm_X11_mark_34 {Q1 Q2 Q3 : Int32 → HS → Prop} {v0 : Nat} {v1 : Int32} {S : HS} (h1 : P_X11_mark_34 Q1 v0 v1 S) (h2 : P_X11_mark_34 Q2 v0 v1 S) (hq : ∀ (r : Int32) (T : HS), Q1 r T → Q2 r T → Q3 r T) : P_X11_mark_34 Q3 v0 v1 S := h1 (fun v0 v1 S => P_X11_mark_34 Q2 v0 v1 S → P_X11_mark_34 Q3 v0 v1 S) (fun v0 v1 S hB hp => fd_X11_mark_34 (cmB_X11_mark_34 hB (uf_X11_mark_34 hp) hq (fun _ _ _ hx hp => hx hp))) h2
set_option maxRecDepth 20000 in
set_option maxHeartbeats 1000000 in
theorem cm_X11_mark_0 {Q1 Q2 Q3 : Int32 → HS → Prop} {v0 : Nat} {S : HS} (h1 : P_X11_mark_0 Q1 v0 S) (h2 : P_X11_mark_0 Q2 v0 S) (hq : ∀ (r : Int32) (T : HS), Q1 r T → Q2 r T → Q3 r T) : P_X11_mark_0 Q3 v0 S := by
  delta P_X11_mark_0 at h1 h2 ⊢
  obtain ⟨c1, h1⟩ := h1
  obtain ⟨_, h2⟩ := h2
  refine ⟨c1, ?_⟩
  intro x3 e2
  have h1 := h1 x3 e2
  have h2 := h2 x3 e2
  refine cm_X11_isDay h1 h2 (fun x4 x5 h1 h2 g6 g7 => ?_)
  have h1 := h1 g6 g7
  have h2 := h2 g6 g7
  refine ⟨?_, ?_⟩
  · intro c8
    have h1 := h1.1 c8
    have h2 := h2.1 c8
    intro x10 e9
    have h1 := h1 x10 e9
    have h2 := h2 x10 e9
    refine ⟨?_, ?_⟩
    · intro c11
      have h1 := h1.1 c11
      have h2 := h2.1 c11
      exact cm_X11_mark_34 h1 h2 hq
    · intro c12
      have h1 := h1.2 c12
      have h2 := h2.2 c12
      refine cm_X11_refused h1 h2 (fun x13 x14 h1 h2 g15 => ?_)
      have h1 := h1 g15
      have h2 := h2 g15
      exact hq _ _ h1 h2
  · intro c16
    have h1 := h1.2 c16
    have h2 := h2.2 c16
    refine cm_X11_refused h1 h2 (fun x17 x18 h1 h2 g19 => ?_)
    have h1 := h1 g19
    have h2 := h2 g19
    exact hq _ _ h1 h2
theorem cm_X11_mark {Q1 Q2 Q3 : Int32 → HS → Prop} {v0 : Nat} {S : HS} (h1 : P_X11_mark v0 Q1 S) (h2 : P_X11_mark v0 Q2 S) (hq : ∀ (r : Int32) (T : HS), Q1 r T → Q2 r T → Q3 r T) : P_X11_mark v0 Q3 S := cm_X11_mark_0 h1 h2 hq
set_option maxRecDepth 20000 in
set_option maxHeartbeats 1000000 in
theorem cm_X11_mean_0 {Q1 Q2 Q3 : Int64 → HS → Prop} {v0 : Nat} {v1 : Int32} {v2 : Int32} {v3 : Int32} {v4 : Int32} {v5 : Int32} {v6 : Int32} {S : HS} (h1 : P_X11_mean_0 Q1 v0 v1 v2 v3 v4 v5 v6 S) (h2 : P_X11_mean_0 Q2 v0 v1 v2 v3 v4 v5 v6 S) (hq : ∀ (r : Int64) (T : HS), Q1 r T → Q2 r T → Q3 r T) : P_X11_mean_0 Q3 v0 v1 v2 v3 v4 v5 v6 S := by
  delta P_X11_mean_0 at h1 h2 ⊢
  obtain ⟨c1, h1⟩ := h1
  obtain ⟨_, h2⟩ := h2
  refine ⟨c1, ?_⟩
  intro x3 e2
  have h1 := h1 x3 e2
  have h2 := h2 x3 e2
  refine cm_X11_refuses h1 h2 (fun x4 x5 h1 h2 g6 => ?_)
  have h1 := h1 g6
  have h2 := h2 g6
  refine ⟨?_, ?_⟩
  · intro c7
    have h1 := h1.1 c7
    have h2 := h2.1 c7
    refine cm_X11_wetOf h1 h2 (fun x8 x9 h1 h2 g10 => ?_)
    have h1 := h1 g10
    have h2 := h2 g10
    obtain ⟨b11, e12, h1⟩ := h1
    obtain ⟨b13, e14, h2⟩ := h2
    cases e12.symm.trans e14
    refine ⟨b11, e12, ?_⟩
    obtain ⟨c15, h1⟩ := h1
    obtain ⟨_, h2⟩ := h2
    refine ⟨c15, ?_⟩
    obtain ⟨b16, e17, h1⟩ := h1
    obtain ⟨b18, e19, h2⟩ := h2
    cases e17.symm.trans e19
    refine ⟨b16, e17, ?_⟩
    obtain ⟨c20, h1⟩ := h1
    obtain ⟨_, h2⟩ := h2
    refine ⟨c20, ?_⟩
    obtain ⟨c21, h1⟩ := h1
    obtain ⟨_, h2⟩ := h2
    refine ⟨c21, ?_⟩
    intro x23 e22
    have h1 := h1 x23 e22
    have h2 := h2 x23 e22
    refine cm_X11_told h1 h2 (fun x24 x25 h1 h2 g26 => ?_)
    have h1 := h1 g26
    have h2 := h2 g26
    exact hq _ _ h1 h2
  · intro c27
    have h1 := h1.2 c27
    have h2 := h2.2 c27
    refine cm_X11_refused h1 h2 (fun x28 x29 h1 h2 g30 => ?_)
    have h1 := h1 g30
    have h2 := h2 g30
    exact hq _ _ h1 h2
theorem cm_X11_mean {Q1 Q2 Q3 : Int64 → HS → Prop} {v0 : Nat} {v1 : Int32} {v2 : Int32} {v3 : Int32} {v4 : Int32} {v5 : Int32} {v6 : Int32} {S : HS} (h1 : P_X11_mean v0 v1 v2 v3 v4 v5 v6 Q1 S) (h2 : P_X11_mean v0 v1 v2 v3 v4 v5 v6 Q2 S) (hq : ∀ (r : Int64) (T : HS), Q1 r T → Q2 r T → Q3 r T) : P_X11_mean v0 v1 v2 v3 v4 v5 v6 Q3 S := cm_X11_mean_0 h1 h2 hq
set_option maxRecDepth 20000 in
set_option maxHeartbeats 1000000 in
theorem cm_X11_minutes_21 {Q1 Q2 Q3 : Int32 → HS → Prop} {v0 : Nat} {S : HS} (h1 : P_X11_minutes_21 Q1 v0 S) (h2 : P_X11_minutes_21 Q2 v0 S) (hq : ∀ (r : Int32) (T : HS), Q1 r T → Q2 r T → Q3 r T) : P_X11_minutes_21 Q3 v0 S := by
  delta P_X11_minutes_21 at h1 h2 ⊢
  obtain ⟨c1, h1⟩ := h1
  obtain ⟨_, h2⟩ := h2
  refine ⟨c1, ?_⟩
  refine cm_X11_refused h1 h2 (fun x2 x3 h1 h2 g4 => ?_)
  have h1 := h1 g4
  have h2 := h2 g4
  exact hq _ _ h1 h2
set_option maxRecDepth 20000 in
set_option maxHeartbeats 1000000 in
theorem cm_X11_minutes_0 {Q1 Q2 Q3 : Int32 → HS → Prop} {v0 : Nat} {v1 : Int32} {v2 : Int32} {v3 : Int32} {S : HS} (h1 : P_X11_minutes_0 Q1 v0 v1 v2 v3 S) (h2 : P_X11_minutes_0 Q2 v0 v1 v2 v3 S) (hq : ∀ (r : Int32) (T : HS), Q1 r T → Q2 r T → Q3 r T) : P_X11_minutes_0 Q3 v0 v1 v2 v3 S := by
  delta P_X11_minutes_0 at h1 h2 ⊢
  obtain ⟨c1, h1⟩ := h1
  obtain ⟨_, h2⟩ := h2
  refine ⟨c1, ?_⟩
  intro x3 e2
  have h1 := h1 x3 e2
  have h2 := h2 x3 e2
  refine cm_X11_isWalker h1 h2 (fun x4 x5 h1 h2 g6 g7 => ?_)
  have h1 := h1 g6 g7
  have h2 := h2 g6 g7
  refine ⟨?_, ?_⟩
  · intro c8
    have h1 := h1.1 c8
    have h2 := h2.1 c8
    exact cm_X11_minutes_21 h1 h2 hq
  · intro c9
    have h1 := h1.2 c9
    have h2 := h2.2 c9
    refine cm_X11_isRoad h1 h2 (fun x10 x11 h1 h2 g12 g13 => ?_)
    have h1 := h1 g12 g13
    have h2 := h2 g12 g13
    refine ⟨?_, ?_⟩
    · intro c14
      have h1 := h1.1 c14
      have h2 := h2.1 c14
      refine cm_X11_isSpeed h1 h2 (fun x15 x16 h1 h2 g17 g18 => ?_)
      have h1 := h1 g17 g18
      have h2 := h2 g17 g18
      refine ⟨?_, ?_⟩
      · intro c19
        have h1 := h1.1 c19
        have h2 := h2.1 c19
        refine cm_X11_refused h1 h2 (fun x20 x21 h1 h2 g22 => ?_)
        have h1 := h1 g22
        have h2 := h2 g22
        exact hq _ _ h1 h2
      · intro c23
        have h1 := h1.2 c23
        have h2 := h2.2 c23
        obtain ⟨b24, e25, h1⟩ := h1
        obtain ⟨b26, e27, h2⟩ := h2
        cases e25.symm.trans e27
        refine ⟨b24, e25, ?_⟩
        obtain ⟨c28, h1⟩ := h1
        obtain ⟨_, h2⟩ := h2
        refine ⟨c28, ?_⟩
        refine cm_X10_minutes h1 h2 (fun x29 x30 h1 h2 g31 => ?_)
        have h1 := h1 g31
        have h2 := h2 g31
        refine cm_X11_good h1 h2 (fun x32 x33 h1 h2 g34 => ?_)
        have h1 := h1 g34
        have h2 := h2 g34
        exact hq _ _ h1 h2
    · intro c35
      have h1 := h1.2 c35
      have h2 := h2.2 c35
      exact cm_X11_minutes_21 h1 h2 hq
theorem cm_X11_minutes {Q1 Q2 Q3 : Int32 → HS → Prop} {v0 : Nat} {v1 : Int32} {v2 : Int32} {v3 : Int32} {S : HS} (h1 : P_X11_minutes v0 v1 v2 v3 Q1 S) (h2 : P_X11_minutes v0 v1 v2 v3 Q2 S) (hq : ∀ (r : Int32) (T : HS), Q1 r T → Q2 r T → Q3 r T) : P_X11_minutes v0 v1 v2 v3 Q3 S := cm_X11_minutes_0 h1 h2 hq
set_option maxRecDepth 20000 in
set_option maxHeartbeats 1000000 in
theorem cm_X11_names_0 {Q1 Q2 Q3 : HS → Prop} {v0 : Nat} {v1 : Int64} {v3 : Int32} {v4 : Int32} {S : HS} (h1 : P_X11_names_0 Q1 v0 v1 v3 v4 S) (h2 : P_X11_names_0 Q2 v0 v1 v3 v4 S) (hq : ∀ (T : HS), Q1 T → Q2 T → Q3 T) : P_X11_names_0 Q3 v0 v1 v3 v4 S := by
  delta P_X11_names_0 at h1 h2 ⊢
  obtain ⟨c1, h1⟩ := h1
  obtain ⟨_, h2⟩ := h2
  refine ⟨c1, ?_⟩
  obtain ⟨b2, e3, h1⟩ := h1
  obtain ⟨b4, e5, h2⟩ := h2
  cases e3.symm.trans e5
  refine ⟨b2, e3, ?_⟩
  obtain ⟨c6, h1⟩ := h1
  obtain ⟨_, h2⟩ := h2
  refine ⟨c6, ?_⟩
  obtain ⟨b7, e8, h1⟩ := h1
  obtain ⟨b9, e10, h2⟩ := h2
  cases e8.symm.trans e10
  refine ⟨b7, e8, ?_⟩
  obtain ⟨b11, e12, h1⟩ := h1
  obtain ⟨b13, e14, h2⟩ := h2
  cases e12.symm.trans e14
  refine ⟨b11, e12, ?_⟩
  obtain ⟨c15, h1⟩ := h1
  obtain ⟨_, h2⟩ := h2
  refine ⟨c15, ?_⟩
  intro x17 e16
  have h1 := h1 x17 e16
  have h2 := h2 x17 e16
  obtain ⟨c18, h1⟩ := h1
  obtain ⟨_, h2⟩ := h2
  refine ⟨c18, ?_⟩
  obtain ⟨c19, h1⟩ := h1
  obtain ⟨_, h2⟩ := h2
  refine ⟨c19, ?_⟩
  intro x21 e20
  have h1 := h1 x21 e20
  have h2 := h2 x21 e20
  obtain ⟨b22, e23, h1⟩ := h1
  obtain ⟨b24, e25, h2⟩ := h2
  cases e23.symm.trans e25
  refine ⟨b22, e23, ?_⟩
  obtain ⟨c26, h1⟩ := h1
  obtain ⟨_, h2⟩ := h2
  refine ⟨c26, ?_⟩
  obtain ⟨b27, e28, h1⟩ := h1
  obtain ⟨b29, e30, h2⟩ := h2
  cases e28.symm.trans e30
  refine ⟨b27, e28, ?_⟩
  obtain ⟨b31, e32, h1⟩ := h1
  obtain ⟨b33, e34, h2⟩ := h2
  cases e32.symm.trans e34
  refine ⟨b31, e32, ?_⟩
  obtain ⟨c35, h1⟩ := h1
  obtain ⟨_, h2⟩ := h2
  refine ⟨c35, ?_⟩
  intro x37 e36
  have h1 := h1 x37 e36
  have h2 := h2 x37 e36
  obtain ⟨c38, h1⟩ := h1
  obtain ⟨_, h2⟩ := h2
  refine ⟨c38, ?_⟩
  obtain ⟨c39, h1⟩ := h1
  obtain ⟨_, h2⟩ := h2
  refine ⟨c39, ?_⟩
  intro x41 e40
  have h1 := h1 x41 e40
  have h2 := h2 x41 e40
  obtain ⟨b42, e43, h1⟩ := h1
  obtain ⟨b44, e45, h2⟩ := h2
  cases e43.symm.trans e45
  refine ⟨b42, e43, ?_⟩
  obtain ⟨c46, h1⟩ := h1
  obtain ⟨_, h2⟩ := h2
  refine ⟨c46, ?_⟩
  obtain ⟨b47, e48, h1⟩ := h1
  obtain ⟨b49, e50, h2⟩ := h2
  cases e48.symm.trans e50
  refine ⟨b47, e48, ?_⟩
  obtain ⟨b51, e52, h1⟩ := h1
  obtain ⟨b53, e54, h2⟩ := h2
  cases e52.symm.trans e54
  refine ⟨b51, e52, ?_⟩
  obtain ⟨c55, h1⟩ := h1
  obtain ⟨_, h2⟩ := h2
  refine ⟨c55, ?_⟩
  intro x57 e56
  have h1 := h1 x57 e56
  have h2 := h2 x57 e56
  obtain ⟨c58, h1⟩ := h1
  obtain ⟨_, h2⟩ := h2
  refine ⟨c58, ?_⟩
  obtain ⟨c59, h1⟩ := h1
  obtain ⟨_, h2⟩ := h2
  refine ⟨c59, ?_⟩
  intro x61 e60
  have h1 := h1 x61 e60
  have h2 := h2 x61 e60
  obtain ⟨b62, e63, h1⟩ := h1
  obtain ⟨b64, e65, h2⟩ := h2
  cases e63.symm.trans e65
  refine ⟨b62, e63, ?_⟩
  obtain ⟨c66, h1⟩ := h1
  obtain ⟨_, h2⟩ := h2
  refine ⟨c66, ?_⟩
  intro x68 e67
  have h1 := h1 x68 e67
  have h2 := h2 x68 e67
  intro x70 e69
  have h1 := h1 x70 e69
  have h2 := h2 x70 e69
  intro x72 e71
  have h1 := h1 x72 e71
  have h2 := h2 x72 e71
  exact hq _ h1 h2
theorem cm_X11_names {Q1 Q2 Q3 : HS → Prop} {v0 : Nat} {v1 : Int64} {v3 : Int32} {v4 : Int32} {S : HS} (h1 : P_X11_names v0 v1 v3 v4 Q1 S) (h2 : P_X11_names v0 v1 v3 v4 Q2 S) (hq : ∀ (T : HS), Q1 T → Q2 T → Q3 T) : P_X11_names v0 v1 v3 v4 Q3 S := cm_X11_names_0 h1 h2 hq
set_option maxRecDepth 20000 in
set_option maxHeartbeats 1000000 in
theorem cm_X11_needs_13 {Q1 Q2 Q3 : HS → Prop} {v0 : Nat} {S : HS} (h1 : P_X11_needs_13 Q1 v0 S) (h2 : P_X11_needs_13 Q2 v0 S) (hq : ∀ (T : HS), Q1 T → Q2 T → Q3 T) : P_X11_needs_13 Q3 v0 S := by
  delta P_X11_needs_13 at h1 h2 ⊢
  obtain ⟨c1, h1⟩ := h1
  obtain ⟨_, h2⟩ := h2
  refine ⟨c1, ?_⟩
  refine cm_X11_goesOn h1 h2 (fun x2 h1 h2 g3 => ?_)
  have h1 := h1 g3
  have h2 := h2 g3
  exact hq _ h1 h2
set_option maxRecDepth 20000 in
set_option maxHeartbeats 1000000 in
theorem cm_X11_needs_0 {Q1 Q2 Q3 : HS → Prop} {v0 : Nat} {v1 : Nat} {S : HS} (h1 : P_X11_needs_0 Q1 v0 v1 S) (h2 : P_X11_needs_0 Q2 v0 v1 S) (hq : ∀ (T : HS), Q1 T → Q2 T → Q3 T) : P_X11_needs_0 Q3 v0 v1 S := by
  delta P_X11_needs_0 at h1 h2 ⊢
  obtain ⟨c1, h1⟩ := h1
  obtain ⟨_, h2⟩ := h2
  refine ⟨c1, ?_⟩
  refine cm_X11_isWord h1 h2 (fun x2 x3 h1 h2 g4 g5 => ?_)
  have h1 := h1 g4 g5
  have h2 := h2 g4 g5
  refine ⟨?_, ?_⟩
  · intro c6
    have h1 := h1.1 c6
    have h2 := h2.1 c6
    exact cm_X11_needs_13 h1 h2 hq
  · intro c7
    have h1 := h1.2 c7
    have h2 := h2.2 c7
    refine cm_X11_flaw h1 h2 (fun x8 h1 h2 g9 => ?_)
    have h1 := h1 g9
    have h2 := h2 g9
    exact cm_X11_needs_13 h1 h2 hq
theorem cm_X11_needs {Q1 Q2 Q3 : HS → Prop} {v0 : Nat} {v1 : Nat} {S : HS} (h1 : P_X11_needs v0 v1 Q1 S) (h2 : P_X11_needs v0 v1 Q2 S) (hq : ∀ (T : HS), Q1 T → Q2 T → Q3 T) : P_X11_needs v0 v1 Q3 S := cm_X11_needs_0 h1 h2 hq
set_option maxRecDepth 20000 in
set_option maxHeartbeats 1000000 in
theorem cm_X11_off_29 {Q1 Q2 Q3 : Int32 → HS → Prop} {v0 : Nat} {S : HS} (h1 : P_X11_off_29 Q1 v0 S) (h2 : P_X11_off_29 Q2 v0 S) (hq : ∀ (r : Int32) (T : HS), Q1 r T → Q2 r T → Q3 r T) : P_X11_off_29 Q3 v0 S := by
  delta P_X11_off_29 at h1 h2 ⊢
  obtain ⟨c1, h1⟩ := h1
  obtain ⟨_, h2⟩ := h2
  refine ⟨c1, ?_⟩
  refine cm_X11_refused h1 h2 (fun x2 x3 h1 h2 g4 => ?_)
  have h1 := h1 g4
  have h2 := h2 g4
  exact hq _ _ h1 h2
set_option maxRecDepth 20000 in
set_option maxHeartbeats 1000000 in
theorem cm_X11_off_128 {Q1 Q2 Q3 : Int32 → HS → Prop} {X67_1 X67_2 X67_3 : Nat → Int32 → Int32 → Int32 → Int32 → HS → Prop} {v0 : Nat} {v2 : Int32} {v4 : Int32} {v5 : Int32} {v6 : Int32} {S : HS} (h1 : P_X11_off_128 Q1 X67_1 v0 v2 v4 v5 v6 S) (h2 : P_X11_off_128 Q2 X67_2 v0 v2 v4 v5 v6 S) (hq : ∀ (r : Int32) (T : HS), Q1 r T → Q2 r T → Q3 r T) (hX67 : ∀ (u0 : Nat) (u1 : Int32) (u2 : Int32) (u3 : Int32) (u4 : Int32) (u5 : HS), X67_1 u0 u1 u2 u3 u4 u5 → X67_2 u0 u1 u2 u3 u4 u5 → X67_3 u0 u1 u2 u3 u4 u5) : P_X11_off_128 Q3 X67_3 v0 v2 v4 v5 v6 S := by
  delta P_X11_off_128 at h1 h2 ⊢
  intro x2 e1
  have h1 := h1 x2 e1
  have h2 := h2 x2 e1
  exact hX67 _ _ _ _ _ _ h1 h2
set_option maxRecDepth 20000 in
set_option maxHeartbeats 1000000 in
theorem cm_X11_off_124 {Q1 Q2 Q3 : Int32 → HS → Prop} {X67_1 X67_2 X67_3 : Nat → Int32 → Int32 → Int32 → Int32 → HS → Prop} {v0 : Nat} {v2 : Int32} {v4 : Int32} {v6 : Int32} {S : HS} (h1 : P_X11_off_124 Q1 X67_1 v0 v2 v4 v6 S) (h2 : P_X11_off_124 Q2 X67_2 v0 v2 v4 v6 S) (hq : ∀ (r : Int32) (T : HS), Q1 r T → Q2 r T → Q3 r T) (hX67 : ∀ (u0 : Nat) (u1 : Int32) (u2 : Int32) (u3 : Int32) (u4 : Int32) (u5 : HS), X67_1 u0 u1 u2 u3 u4 u5 → X67_2 u0 u1 u2 u3 u4 u5 → X67_3 u0 u1 u2 u3 u4 u5) : P_X11_off_124 Q3 X67_3 v0 v2 v4 v6 S := by
  delta P_X11_off_124 at h1 h2 ⊢
  exact cm_X11_off_128 h1 h2 hq hX67
set_option maxRecDepth 20000 in
set_option maxHeartbeats 1000000 in
theorem cmB_X11_off_67 {Q1 Q2 Q3 : Int32 → HS → Prop} {X67_1 X67_2 X67_3 : Nat → Int32 → Int32 → Int32 → Int32 → HS → Prop} {v0 : Nat} {v2 : Int32} {v4 : Int32} {v5 : Int32} {v6 : Int32} {S : HS} (h1 : B_X11_off_67 Q1 X67_1 v0 v2 v4 v5 v6 S) (h2 : B_X11_off_67 Q2 X67_2 v0 v2 v4 v5 v6 S) (hq : ∀ (r : Int32) (T : HS), Q1 r T → Q2 r T → Q3 r T) (hX67 : ∀ (u0 : Nat) (u1 : Int32) (u2 : Int32) (u3 : Int32) (u4 : Int32) (u5 : HS), X67_1 u0 u1 u2 u3 u4 u5 → X67_2 u0 u1 u2 u3 u4 u5 → X67_3 u0 u1 u2 u3 u4 u5) : B_X11_off_67 Q3 X67_3 v0 v2 v4 v5 v6 S := by
  delta B_X11_off_67 at h1 h2 ⊢
  refine ⟨?_, ?_⟩
  · intro c1
    have h1 := h1.1 c1
    have h2 := h2.1 c1
    refine ⟨?_, ?_⟩
    · intro c2
      have h1 := h1.1 c2
      have h2 := h2.1 c2
      obtain ⟨c3, h1⟩ := h1
      obtain ⟨_, h2⟩ := h2
      refine ⟨c3, ?_⟩
      refine cm_X11_good h1 h2 (fun x4 x5 h1 h2 g6 => ?_)
      have h1 := h1 g6
      have h2 := h2 g6
      exact hq _ _ h1 h2
    · intro c7
      have h1 := h1.2 c7
      have h2 := h2.2 c7
      obtain ⟨c8, h1⟩ := h1
      obtain ⟨_, h2⟩ := h2
      refine ⟨c8, ?_⟩
      refine cm_X11_refused h1 h2 (fun x9 x10 h1 h2 g11 => ?_)
      have h1 := h1 g11
      have h2 := h2 g11
      exact hq _ _ h1 h2
  · intro c12
    have h1 := h1.2 c12
    have h2 := h2.2 c12
    obtain ⟨c13, h1⟩ := h1
    obtain ⟨_, h2⟩ := h2
    refine ⟨c13, ?_⟩
    obtain ⟨b14, e15, h1⟩ := h1
    obtain ⟨b16, e17, h2⟩ := h2
    cases e15.symm.trans e17
    refine ⟨b14, e15, ?_⟩
    refine cm_X11_spotOf h1 h2 (fun x18 x19 h1 h2 g20 => ?_)
    have h1 := h1 g20
    have h2 := h2 g20
    obtain ⟨c21, h1⟩ := h1
    obtain ⟨_, h2⟩ := h2
    refine ⟨c21, ?_⟩
    obtain ⟨c22, h1⟩ := h1
    obtain ⟨_, h2⟩ := h2
    refine ⟨c22, ?_⟩
    intro x24 e23
    have h1 := h1 x24 e23
    have h2 := h2 x24 e23
    refine ⟨?_, ?_⟩
    · intro c25
      have h1 := h1.1 c25
      have h2 := h2.1 c25
      exact cm_X11_off_128 h1 h2 hq hX67
    · intro c26
      have h1 := h1.2 c26
      have h2 := h2.2 c26
      refine ⟨?_, ?_⟩
      · intro c27
        have h1 := h1.1 c27
        have h2 := h2.1 c27
        exact cm_X11_off_124 h1 h2 hq hX67
      · intro c28
        have h1 := h1.2 c28
        have h2 := h2.2 c28
        obtain ⟨b29, e30, h1⟩ := h1
        obtain ⟨b31, e32, h2⟩ := h2
        cases e30.symm.trans e32
        refine ⟨b29, e30, ?_⟩
        refine cm_X11_spotOf h1 h2 (fun x33 x34 h1 h2 g35 => ?_)
        have h1 := h1 g35
        have h2 := h2 g35
        obtain ⟨c36, h1⟩ := h1
        obtain ⟨_, h2⟩ := h2
        refine ⟨c36, ?_⟩
        obtain ⟨c37, h1⟩ := h1
        obtain ⟨_, h2⟩ := h2
        refine ⟨c37, ?_⟩
        intro x39 e38
        have h1 := h1 x39 e38
        have h2 := h2 x39 e38
        obtain ⟨b40, e41, h1⟩ := h1
        obtain ⟨b42, e43, h2⟩ := h2
        cases e41.symm.trans e43
        refine ⟨b40, e41, ?_⟩
        refine cm_X11_spotOf h1 h2 (fun x44 x45 h1 h2 g46 => ?_)
        have h1 := h1 g46
        have h2 := h2 g46
        obtain ⟨c47, h1⟩ := h1
        obtain ⟨_, h2⟩ := h2
        refine ⟨c47, ?_⟩
        obtain ⟨c48, h1⟩ := h1
        obtain ⟨_, h2⟩ := h2
        refine ⟨c48, ?_⟩
        intro x50 e49
        have h1 := h1 x50 e49
        have h2 := h2 x50 e49
        refine ⟨?_, ?_⟩
        · intro c51
          have h1 := h1.1 c51
          have h2 := h2.1 c51
          exact cm_X11_off_128 h1 h2 hq hX67
        · intro c52
          have h1 := h1.2 c52
          have h2 := h2.2 c52
          exact cm_X11_off_124 h1 h2 hq hX67
theorem fd_X11_off_67 {Q : Int32 → HS → Prop} {v0 : Nat} {v2 : Int32} {v4 : Int32} {v5 : Int32} {v6 : Int32} {S : HS} (h : B_X11_off_67 Q (P_X11_off_67 Q) v0 v2 v4 v5 v6 S) : P_X11_off_67 Q v0 v2 v4 v5 v6 S := fun X hX => hX v0 v2 v4 v5 v6 S (cmB_X11_off_67 h h (fun _ _ a _ => a) (fun _ _ _ _ _ _ hp _ => hp X hX))
theorem uf_X11_off_67 {Q : Int32 → HS → Prop} {v0 : Nat} {v2 : Int32} {v4 : Int32} {v5 : Int32} {v6 : Int32} {S : HS} (h : P_X11_off_67 Q v0 v2 v4 v5 v6 S) : B_X11_off_67 Q (P_X11_off_67 Q) v0 v2 v4 v5 v6 S := h (fun v0 v2 v4 v5 v6 S => B_X11_off_67 Q (P_X11_off_67 Q) v0 v2 v4 v5 v6 S) (fun v0 v2 v4 v5 v6 S hB => cmB_X11_off_67 hB hB (fun _ _ a _ => a) (fun _ _ _ _ _ _ hb _ => fd_X11_off_67 hb))
theorem cm_X11_off_67 {Q1 Q2 Q3 : Int32 → HS → Prop} {v0 : Nat} {v2 : Int32} {v4 : Int32} {v5 : Int32} {v6 : Int32} {S : HS} (h1 : P_X11_off_67 Q1 v0 v2 v4 v5 v6 S) (h2 : P_X11_off_67 Q2 v0 v2 v4 v5 v6 S) (hq : ∀ (r : Int32) (T : HS), Q1 r T → Q2 r T → Q3 r T) : P_X11_off_67 Q3 v0 v2 v4 v5 v6 S := h1 (fun v0 v2 v4 v5 v6 S => P_X11_off_67 Q2 v0 v2 v4 v5 v6 S → P_X11_off_67 Q3 v0 v2 v4 v5 v6 S) (fun v0 v2 v4 v5 v6 S hB hp => fd_X11_off_67 (cmB_X11_off_67 hB (uf_X11_off_67 hp) hq (fun _ _ _ _ _ _ hx hp => hx hp))) h2
set_option maxRecDepth 20000 in
set_option maxHeartbeats 1000000 in
theorem cm_X11_off_0 {Q1 Q2 Q3 : Int32 → HS → Prop} {v0 : Nat} {v1 : Int32} {v2 : Int32} {v3 : Int32} {v4 : Int32} {S : HS} (h1 : P_X11_off_0 Q1 v0 v1 v2 v3 v4 S) (h2 : P_X11_off_0 Q2 v0 v1 v2 v3 v4 S) (hq : ∀ (r : Int32) (T : HS), Q1 r T → Q2 r T → Q3 r T) : P_X11_off_0 Q3 v0 v1 v2 v3 v4 S := by
  delta P_X11_off_0 at h1 h2 ⊢
  obtain ⟨c1, h1⟩ := h1
  obtain ⟨_, h2⟩ := h2
  refine ⟨c1, ?_⟩
  intro x3 e2
  have h1 := h1 x3 e2
  have h2 := h2 x3 e2
  refine cm_X11_isWalker h1 h2 (fun x4 x5 h1 h2 g6 g7 => ?_)
  have h1 := h1 g6 g7
  have h2 := h2 g6 g7
  refine ⟨?_, ?_⟩
  · intro c8
    have h1 := h1.1 c8
    have h2 := h2.1 c8
    exact cm_X11_off_29 h1 h2 hq
  · intro c9
    have h1 := h1.2 c9
    have h2 := h2.2 c9
    refine cm_X11_isPlace h1 h2 (fun x10 x11 h1 h2 g12 g13 => ?_)
    have h1 := h1 g12 g13
    have h2 := h2 g12 g13
    refine ⟨?_, ?_⟩
    · intro c14
      have h1 := h1.1 c14
      have h2 := h2.1 c14
      exact cm_X11_off_29 h1 h2 hq
    · intro c15
      have h1 := h1.2 c15
      have h2 := h2.2 c15
      refine cm_X11_isPlace h1 h2 (fun x16 x17 h1 h2 g18 g19 => ?_)
      have h1 := h1 g18 g19
      have h2 := h2 g18 g19
      refine ⟨?_, ?_⟩
      · intro c20
        have h1 := h1.1 c20
        have h2 := h2.1 c20
        refine cm_X11_in h1 h2 (fun x21 x22 h1 h2 g23 g24 => ?_)
        have h1 := h1 g23 g24
        have h2 := h2 g23 g24
        refine ⟨?_, ?_⟩
        · intro c25
          have h1 := h1.1 c25
          have h2 := h2.1 c25
          refine cm_X11_laysWays h1 h2 (fun x26 h1 h2 g27 => ?_)
          have h1 := h1 g27
          have h2 := h2 g27
          exact cm_X11_off_67 h1 h2 hq
        · intro c28
          have h1 := h1.2 c28
          have h2 := h2.2 c28
          refine cm_X11_refused h1 h2 (fun x29 x30 h1 h2 g31 => ?_)
          have h1 := h1 g31
          have h2 := h2 g31
          exact hq _ _ h1 h2
      · intro c32
        have h1 := h1.2 c32
        have h2 := h2.2 c32
        exact cm_X11_off_29 h1 h2 hq
theorem cm_X11_off {Q1 Q2 Q3 : Int32 → HS → Prop} {v0 : Nat} {v1 : Int32} {v2 : Int32} {v3 : Int32} {v4 : Int32} {S : HS} (h1 : P_X11_off v0 v1 v2 v3 v4 Q1 S) (h2 : P_X11_off v0 v1 v2 v3 v4 Q2 S) (hq : ∀ (r : Int32) (T : HS), Q1 r T → Q2 r T → Q3 r T) : P_X11_off v0 v1 v2 v3 v4 Q3 S := cm_X11_off_0 h1 h2 hq
set_option maxRecDepth 20000 in
set_option maxHeartbeats 1000000 in
theorem cm_X11_readFresh_32 {Q1 Q2 Q3 : Int64 → HS → Prop} {v0 : Nat} {S : HS} (h1 : P_X11_readFresh_32 Q1 v0 S) (h2 : P_X11_readFresh_32 Q2 v0 S) (hq : ∀ (r : Int64) (T : HS), Q1 r T → Q2 r T → Q3 r T) : P_X11_readFresh_32 Q3 v0 S := by
  delta P_X11_readFresh_32 at h1 h2 ⊢
  obtain ⟨c1, h1⟩ := h1
  obtain ⟨_, h2⟩ := h2
  refine ⟨c1, ?_⟩
  intro x3 e2
  have h1 := h1 x3 e2
  have h2 := h2 x3 e2
  refine cm_X11_goesOn h1 h2 (fun x4 h1 h2 g5 => ?_)
  have h1 := h1 g5
  have h2 := h2 g5
  exact hq _ _ h1 h2
set_option maxRecDepth 20000 in
set_option maxHeartbeats 1000000 in
theorem cm_X11_readFresh_12 {Q1 Q2 Q3 : Int64 → HS → Prop} {v0 : Nat} {S : HS} (h1 : P_X11_readFresh_12 Q1 v0 S) (h2 : P_X11_readFresh_12 Q2 v0 S) (hq : ∀ (r : Int64) (T : HS), Q1 r T → Q2 r T → Q3 r T) : P_X11_readFresh_12 Q3 v0 S := by
  delta P_X11_readFresh_12 at h1 h2 ⊢
  obtain ⟨c1, h1⟩ := h1
  obtain ⟨_, h2⟩ := h2
  refine ⟨c1, ?_⟩
  obtain ⟨b2, e3, h1⟩ := h1
  obtain ⟨b4, e5, h2⟩ := h2
  cases e3.symm.trans e5
  refine ⟨b2, e3, ?_⟩
  intro x7 e6
  have h1 := h1 x7 e6
  have h2 := h2 x7 e6
  obtain ⟨c8, h1⟩ := h1
  obtain ⟨_, h2⟩ := h2
  refine ⟨c8, ?_⟩
  refine cm_X10_find h1 h2 (fun x9 x10 h1 h2 g11 => ?_)
  have h1 := h1 g11
  have h2 := h2 g11
  refine ⟨?_, ?_⟩
  · intro c12
    have h1 := h1.1 c12
    have h2 := h2.1 c12
    exact cm_X11_readFresh_32 h1 h2 hq
  · intro c13
    have h1 := h1.2 c13
    have h2 := h2.2 c13
    refine cm_X11_flaw h1 h2 (fun x14 h1 h2 g15 => ?_)
    have h1 := h1 g15
    have h2 := h2 g15
    exact cm_X11_readFresh_32 h1 h2 hq
set_option maxRecDepth 20000 in
set_option maxHeartbeats 1000000 in
theorem cm_X11_readFresh_0 {Q1 Q2 Q3 : Int64 → HS → Prop} {v0 : Nat} {S : HS} (h1 : P_X11_readFresh_0 Q1 v0 S) (h2 : P_X11_readFresh_0 Q2 v0 S) (hq : ∀ (r : Int64) (T : HS), Q1 r T → Q2 r T → Q3 r T) : P_X11_readFresh_0 Q3 v0 S := by
  delta P_X11_readFresh_0 at h1 h2 ⊢
  obtain ⟨c1, h1⟩ := h1
  obtain ⟨_, h2⟩ := h2
  refine ⟨c1, ?_⟩
  refine cm_X11_isName h1 h2 (fun x2 x3 h1 h2 g4 g5 => ?_)
  have h1 := h1 g4 g5
  have h2 := h2 g4 g5
  refine ⟨?_, ?_⟩
  · intro c6
    have h1 := h1.1 c6
    have h2 := h2.1 c6
    exact cm_X11_readFresh_12 h1 h2 hq
  · intro c7
    have h1 := h1.2 c7
    have h2 := h2.2 c7
    refine cm_X11_flaw h1 h2 (fun x8 h1 h2 g9 => ?_)
    have h1 := h1 g9
    have h2 := h2 g9
    exact cm_X11_readFresh_12 h1 h2 hq
theorem cm_X11_readFresh {Q1 Q2 Q3 : Int64 → HS → Prop} {v0 : Nat} {S : HS} (h1 : P_X11_readFresh v0 Q1 S) (h2 : P_X11_readFresh v0 Q2 S) (hq : ∀ (r : Int64) (T : HS), Q1 r T → Q2 r T → Q3 r T) : P_X11_readFresh v0 Q3 S := cm_X11_readFresh_0 h1 h2 hq
set_option maxRecDepth 20000 in
set_option maxHeartbeats 1000000 in
theorem cm_X11_readWhole_49 {Q1 Q2 Q3 : Int32 → HS → Prop} {v0 : Nat} {s0 : Int32} {S : HS} (h1 : P_X11_readWhole_49 Q1 v0 s0 S) (h2 : P_X11_readWhole_49 Q2 v0 s0 S) (hq : ∀ (r : Int32) (T : HS), Q1 r T → Q2 r T → Q3 r T) : P_X11_readWhole_49 Q3 v0 s0 S := by
  delta P_X11_readWhole_49 at h1 h2 ⊢
  obtain ⟨c1, h1⟩ := h1
  obtain ⟨_, h2⟩ := h2
  refine ⟨c1, ?_⟩
  refine cm_X11_goesOn h1 h2 (fun x2 h1 h2 g3 => ?_)
  have h1 := h1 g3
  have h2 := h2 g3
  exact hq _ _ h1 h2
set_option maxRecDepth 20000 in
set_option maxHeartbeats 1000000 in
theorem cm_X11_readWhole_33 {Q1 Q2 Q3 : Int32 → HS → Prop} {v0 : Nat} {v1 : Int32} {S : HS} (h1 : P_X11_readWhole_33 Q1 v0 v1 S) (h2 : P_X11_readWhole_33 Q2 v0 v1 S) (hq : ∀ (r : Int32) (T : HS), Q1 r T → Q2 r T → Q3 r T) : P_X11_readWhole_33 Q3 v0 v1 S := by
  delta P_X11_readWhole_33 at h1 h2 ⊢
  obtain ⟨c1, h1⟩ := h1
  obtain ⟨_, h2⟩ := h2
  refine ⟨c1, ?_⟩
  intro x3 e2
  have h1 := h1 x3 e2
  have h2 := h2 x3 e2
  refine ⟨?_, ?_⟩
  · intro c4
    have h1 := h1.1 c4
    have h2 := h2.1 c4
    intro x6 e5
    have h1 := h1 x6 e5
    have h2 := h2 x6 e5
    exact cm_X11_readWhole_49 h1 h2 hq
  · intro c7
    have h1 := h1.2 c7
    have h2 := h2.2 c7
    exact cm_X11_readWhole_49 h1 h2 hq
set_option maxRecDepth 20000 in
set_option maxHeartbeats 1000000 in
theorem cm_X11_readWhole_0 {Q1 Q2 Q3 : Int32 → HS → Prop} {v0 : Nat} {v1 : Int32} {v2 : Int32} {S : HS} (h1 : P_X11_readWhole_0 Q1 v0 v1 v2 S) (h2 : P_X11_readWhole_0 Q2 v0 v1 v2 S) (hq : ∀ (r : Int32) (T : HS), Q1 r T → Q2 r T → Q3 r T) : P_X11_readWhole_0 Q3 v0 v1 v2 S := by
  delta P_X11_readWhole_0 at h1 h2 ⊢
  obtain ⟨c1, h1⟩ := h1
  obtain ⟨_, h2⟩ := h2
  refine ⟨c1, ?_⟩
  intro x3 e2
  have h1 := h1 x3 e2
  have h2 := h2 x3 e2
  refine ⟨?_, ?_⟩
  · intro c4
    have h1 := h1.1 c4
    have h2 := h2.1 c4
    intro x6 e5
    have h1 := h1 x6 e5
    have h2 := h2 x6 e5
    refine cm_X11_in h1 h2 (fun x7 x8 h1 h2 g9 g10 => ?_)
    have h1 := h1 g9 g10
    have h2 := h2 g9 g10
    refine ⟨?_, ?_⟩
    · intro c11
      have h1 := h1.1 c11
      have h2 := h2.1 c11
      exact cm_X11_readWhole_33 h1 h2 hq
    · intro c12
      have h1 := h1.2 c12
      have h2 := h2.2 c12
      refine cm_X11_flaw h1 h2 (fun x13 h1 h2 g14 => ?_)
      have h1 := h1 g14
      have h2 := h2 g14
      exact cm_X11_readWhole_33 h1 h2 hq
  · intro c15
    have h1 := h1.2 c15
    have h2 := h2.2 c15
    refine cm_X11_flaw h1 h2 (fun x16 h1 h2 g17 => ?_)
    have h1 := h1 g17
    have h2 := h2 g17
    exact cm_X11_readWhole_33 h1 h2 hq
theorem cm_X11_readWhole {Q1 Q2 Q3 : Int32 → HS → Prop} {v0 : Nat} {v1 : Int32} {v2 : Int32} {S : HS} (h1 : P_X11_readWhole v0 v1 v2 Q1 S) (h2 : P_X11_readWhole v0 v1 v2 Q2 S) (hq : ∀ (r : Int32) (T : HS), Q1 r T → Q2 r T → Q3 r T) : P_X11_readWhole v0 v1 v2 Q3 S := cm_X11_readWhole_0 h1 h2 hq
set_option maxRecDepth 20000 in
set_option maxHeartbeats 1000000 in
theorem cm_X11_readPlace_50 {Q1 Q2 Q3 : HS → Prop} {v0 : Nat} {v1 : Int64} {v3 : Int32} {s0 : Int32} {S : HS} (h1 : P_X11_readPlace_50 Q1 v0 v1 v3 s0 S) (h2 : P_X11_readPlace_50 Q2 v0 v1 v3 s0 S) (hq : ∀ (T : HS), Q1 T → Q2 T → Q3 T) : P_X11_readPlace_50 Q3 v0 v1 v3 s0 S := by
  delta P_X11_readPlace_50 at h1 h2 ⊢
  obtain ⟨c1, h1⟩ := h1
  obtain ⟨_, h2⟩ := h2
  refine ⟨c1, ?_⟩
  intro x3 e2
  have h1 := h1 x3 e2
  have h2 := h2 x3 e2
  refine ⟨?_, ?_⟩
  · intro c4
    have h1 := h1.1 c4
    have h2 := h2.1 c4
    obtain ⟨b5, e6, h1⟩ := h1
    obtain ⟨b7, e8, h2⟩ := h2
    cases e6.symm.trans e8
    refine ⟨b5, e6, ?_⟩
    obtain ⟨c9, h1⟩ := h1
    obtain ⟨_, h2⟩ := h2
    refine ⟨c9, ?_⟩
    intro x11 e10
    have h1 := h1 x11 e10
    have h2 := h2 x11 e10
    refine cm_X11_names h1 h2 (fun x12 h1 h2 g13 => ?_)
    have h1 := h1 g13
    have h2 := h2 g13
    obtain ⟨b14, e15, h1⟩ := h1
    obtain ⟨b16, e17, h2⟩ := h2
    cases e15.symm.trans e17
    refine ⟨b14, e15, ?_⟩
    obtain ⟨c18, h1⟩ := h1
    obtain ⟨_, h2⟩ := h2
    refine ⟨c18, ?_⟩
    obtain ⟨b19, e20, h1⟩ := h1
    obtain ⟨b21, e22, h2⟩ := h2
    cases e20.symm.trans e22
    refine ⟨b19, e20, ?_⟩
    obtain ⟨b23, e24, h1⟩ := h1
    obtain ⟨b25, e26, h2⟩ := h2
    cases e24.symm.trans e26
    refine ⟨b23, e24, ?_⟩
    obtain ⟨c27, h1⟩ := h1
    obtain ⟨_, h2⟩ := h2
    refine ⟨c27, ?_⟩
    intro x29 e28
    have h1 := h1 x29 e28
    have h2 := h2 x29 e28
    obtain ⟨c30, h1⟩ := h1
    obtain ⟨_, h2⟩ := h2
    refine ⟨c30, ?_⟩
    obtain ⟨c31, h1⟩ := h1
    obtain ⟨_, h2⟩ := h2
    refine ⟨c31, ?_⟩
    intro x33 e32
    have h1 := h1 x33 e32
    have h2 := h2 x33 e32
    obtain ⟨b34, e35, h1⟩ := h1
    obtain ⟨b36, e37, h2⟩ := h2
    cases e35.symm.trans e37
    refine ⟨b34, e35, ?_⟩
    obtain ⟨c38, h1⟩ := h1
    obtain ⟨_, h2⟩ := h2
    refine ⟨c38, ?_⟩
    obtain ⟨b39, e40, h1⟩ := h1
    obtain ⟨b41, e42, h2⟩ := h2
    cases e40.symm.trans e42
    refine ⟨b39, e40, ?_⟩
    obtain ⟨b43, e44, h1⟩ := h1
    obtain ⟨b45, e46, h2⟩ := h2
    cases e44.symm.trans e46
    refine ⟨b43, e44, ?_⟩
    obtain ⟨c47, h1⟩ := h1
    obtain ⟨_, h2⟩ := h2
    refine ⟨c47, ?_⟩
    intro x49 e48
    have h1 := h1 x49 e48
    have h2 := h2 x49 e48
    obtain ⟨c50, h1⟩ := h1
    obtain ⟨_, h2⟩ := h2
    refine ⟨c50, ?_⟩
    obtain ⟨c51, h1⟩ := h1
    obtain ⟨_, h2⟩ := h2
    refine ⟨c51, ?_⟩
    intro x53 e52
    have h1 := h1 x53 e52
    have h2 := h2 x53 e52
    obtain ⟨b54, e55, h1⟩ := h1
    obtain ⟨b56, e57, h2⟩ := h2
    cases e55.symm.trans e57
    refine ⟨b54, e55, ?_⟩
    obtain ⟨c58, h1⟩ := h1
    obtain ⟨_, h2⟩ := h2
    refine ⟨c58, ?_⟩
    intro x60 e59
    have h1 := h1 x60 e59
    have h2 := h2 x60 e59
    intro x62 e61
    have h1 := h1 x62 e61
    have h2 := h2 x62 e61
    intro x64 e63
    have h1 := h1 x64 e63
    have h2 := h2 x64 e63
    exact hq _ h1 h2
  · intro c65
    have h1 := h1.2 c65
    have h2 := h2.2 c65
    exact hq _ h1 h2
set_option maxRecDepth 20000 in
set_option maxHeartbeats 1000000 in
theorem cm_X11_readPlace_48 {Q1 Q2 Q3 : HS → Prop} {v0 : Nat} {v1 : Int64} {v3 : Int32} {S : HS} (h1 : P_X11_readPlace_48 Q1 v0 v1 v3 S) (h2 : P_X11_readPlace_48 Q2 v0 v1 v3 S) (hq : ∀ (T : HS), Q1 T → Q2 T → Q3 T) : P_X11_readPlace_48 Q3 v0 v1 v3 S := by
  delta P_X11_readPlace_48 at h1 h2 ⊢
  exact cm_X11_readPlace_50 h1 h2 hq
set_option maxRecDepth 20000 in
set_option maxHeartbeats 1000000 in
theorem cm_X11_readPlace_0 {Q1 Q2 Q3 : HS → Prop} {v0 : Nat} {S : HS} (h1 : P_X11_readPlace_0 Q1 v0 S) (h2 : P_X11_readPlace_0 Q2 v0 S) (hq : ∀ (T : HS), Q1 T → Q2 T → Q3 T) : P_X11_readPlace_0 Q3 v0 S := by
  delta P_X11_readPlace_0 at h1 h2 ⊢
  obtain ⟨c1, h1⟩ := h1
  obtain ⟨_, h2⟩ := h2
  refine ⟨c1, ?_⟩
  obtain ⟨b2, e3, h1⟩ := h1
  obtain ⟨b4, e5, h2⟩ := h2
  cases e3.symm.trans e5
  refine ⟨b2, e3, ?_⟩
  obtain ⟨c6, h1⟩ := h1
  obtain ⟨_, h2⟩ := h2
  refine ⟨c6, ?_⟩
  intro x8 e7
  have h1 := h1 x8 e7
  have h2 := h2 x8 e7
  refine cm_X11_begins h1 h2 (fun x9 h1 h2 g10 => ?_)
  have h1 := h1 g10
  have h2 := h2 g10
  refine cm_X11_readFresh h1 h2 (fun x11 x12 h1 h2 g13 => ?_)
  have h1 := h1 g13
  have h2 := h2 g13
  refine cm_X11_eatsWord h1 h2 (fun x14 x15 h1 h2 g16 g17 => ?_)
  have h1 := h1 g16 g17
  have h2 := h2 g16 g17
  refine ⟨?_, ?_⟩
  · intro c18
    have h1 := h1.1 c18
    have h2 := h2.1 c18
    exact cm_X11_readPlace_48 h1 h2 hq
  · intro c19
    have h1 := h1.2 c19
    have h2 := h2.2 c19
    refine cm_X11_eatsWord h1 h2 (fun x20 x21 h1 h2 g22 g23 => ?_)
    have h1 := h1 g22 g23
    have h2 := h2 g22 g23
    refine ⟨?_, ?_⟩
    · intro c24
      have h1 := h1.1 c24
      have h2 := h2.1 c24
      exact cm_X11_readPlace_48 h1 h2 hq
    · intro c25
      have h1 := h1.2 c25
      have h2 := h2.2 c25
      refine cm_X11_readWhole h1 h2 (fun x26 x27 h1 h2 g28 => ?_)
      have h1 := h1 g28
      have h2 := h2 g28
      exact cm_X11_readPlace_50 h1 h2 hq
theorem cm_X11_readPlace {Q1 Q2 Q3 : HS → Prop} {v0 : Nat} {S : HS} (h1 : P_X11_readPlace v0 Q1 S) (h2 : P_X11_readPlace v0 Q2 S) (hq : ∀ (T : HS), Q1 T → Q2 T → Q3 T) : P_X11_readPlace v0 Q3 S := cm_X11_readPlace_0 h1 h2 hq
set_option maxRecDepth 20000 in
set_option maxHeartbeats 1000000 in
theorem cm_X11_readPart_0 {Q1 Q2 Q3 : Int32 → HS → Prop} {v0 : Nat} {v1 : Nat} {v2 : Int32} {v3 : Int32} {S : HS} (h1 : P_X11_readPart_0 Q1 v0 v1 v2 v3 S) (h2 : P_X11_readPart_0 Q2 v0 v1 v2 v3 S) (hq : ∀ (r : Int32) (T : HS), Q1 r T → Q2 r T → Q3 r T) : P_X11_readPart_0 Q3 v0 v1 v2 v3 S := by
  delta P_X11_readPart_0 at h1 h2 ⊢
  obtain ⟨c1, h1⟩ := h1
  obtain ⟨_, h2⟩ := h2
  refine ⟨c1, ?_⟩
  refine cm_X11_needs h1 h2 (fun x2 h1 h2 g3 => ?_)
  have h1 := h1 g3
  have h2 := h2 g3
  refine cm_X11_readWhole h1 h2 (fun x4 x5 h1 h2 g6 => ?_)
  have h1 := h1 g6
  have h2 := h2 g6
  exact hq _ _ h1 h2
theorem cm_X11_readPart {Q1 Q2 Q3 : Int32 → HS → Prop} {v0 : Nat} {v1 : Nat} {v2 : Int32} {v3 : Int32} {S : HS} (h1 : P_X11_readPart v0 v1 v2 v3 Q1 S) (h2 : P_X11_readPart v0 v1 v2 v3 Q2 S) (hq : ∀ (r : Int32) (T : HS), Q1 r T → Q2 r T → Q3 r T) : P_X11_readPart v0 v1 v2 v3 Q3 S := cm_X11_readPart_0 h1 h2 hq
set_option maxRecDepth 20000 in
set_option maxHeartbeats 1000000 in
theorem cm_X11_readSide_64 {Q1 Q2 Q3 : Int32 → HS → Prop} {v0 : Nat} {v1 : Int32} {S : HS} (h1 : P_X11_readSide_64 Q1 v0 v1 S) (h2 : P_X11_readSide_64 Q2 v0 v1 S) (hq : ∀ (r : Int32) (T : HS), Q1 r T → Q2 r T → Q3 r T) : P_X11_readSide_64 Q3 v0 v1 S := by
  delta P_X11_readSide_64 at h1 h2 ⊢
  obtain ⟨c1, h1⟩ := h1
  obtain ⟨_, h2⟩ := h2
  refine ⟨c1, ?_⟩
  refine cm_X11_goesOn h1 h2 (fun x2 h1 h2 g3 => ?_)
  have h1 := h1 g3
  have h2 := h2 g3
  exact hq _ _ h1 h2
set_option maxRecDepth 20000 in
set_option maxHeartbeats 1000000 in
theorem cm_X11_readSide_53 {Q1 Q2 Q3 : Int32 → HS → Prop} {v0 : Nat} {s0 : Int32} {S : HS} (h1 : P_X11_readSide_53 Q1 v0 s0 S) (h2 : P_X11_readSide_53 Q2 v0 s0 S) (hq : ∀ (r : Int32) (T : HS), Q1 r T → Q2 r T → Q3 r T) : P_X11_readSide_53 Q3 v0 s0 S := by
  delta P_X11_readSide_53 at h1 h2 ⊢
  refine ⟨?_, ?_⟩
  · intro c1
    have h1 := h1.1 c1
    have h2 := h2.1 c1
    exact cm_X11_readSide_64 h1 h2 hq
  · intro c2
    have h1 := h1.2 c2
    have h2 := h2.2 c2
    obtain ⟨c3, h1⟩ := h1
    obtain ⟨_, h2⟩ := h2
    refine ⟨c3, ?_⟩
    refine cm_X11_flaw h1 h2 (fun x4 h1 h2 g5 => ?_)
    have h1 := h1 g5
    have h2 := h2 g5
    exact cm_X11_readSide_64 h1 h2 hq
set_option maxRecDepth 20000 in
set_option maxHeartbeats 1000000 in
theorem cm_X11_readSide_0 {Q1 Q2 Q3 : Int32 → HS → Prop} {v0 : Nat} {S : HS} (h1 : P_X11_readSide_0 Q1 v0 S) (h2 : P_X11_readSide_0 Q2 v0 S) (hq : ∀ (r : Int32) (T : HS), Q1 r T → Q2 r T → Q3 r T) : P_X11_readSide_0 Q3 v0 S := by
  delta P_X11_readSide_0 at h1 h2 ⊢
  obtain ⟨c1, h1⟩ := h1
  obtain ⟨_, h2⟩ := h2
  refine ⟨c1, ?_⟩
  refine cm_X11_isWord h1 h2 (fun x2 x3 h1 h2 g4 g5 => ?_)
  have h1 := h1 g4 g5
  have h2 := h2 g4 g5
  refine ⟨?_, ?_⟩
  · intro c6
    have h1 := h1.1 c6
    have h2 := h2.1 c6
    refine cm_X11_isWord h1 h2 (fun x7 x8 h1 h2 g9 g10 => ?_)
    have h1 := h1 g9 g10
    have h2 := h2 g9 g10
    refine ⟨?_, ?_⟩
    · intro c11
      have h1 := h1.1 c11
      have h2 := h2.1 c11
      refine cm_X11_isWord h1 h2 (fun x12 x13 h1 h2 g14 g15 => ?_)
      have h1 := h1 g14 g15
      have h2 := h2 g14 g15
      refine ⟨?_, ?_⟩
      · intro c16
        have h1 := h1.1 c16
        have h2 := h2.1 c16
        refine cm_X11_isWord h1 h2 (fun x17 x18 h1 h2 g19 g20 => ?_)
        have h1 := h1 g19 g20
        have h2 := h2 g19 g20
        refine ⟨?_, ?_⟩
        · intro c21
          have h1 := h1.1 c21
          have h2 := h2.1 c21
          exact cm_X11_readSide_53 h1 h2 hq
        · intro c22
          have h1 := h1.2 c22
          have h2 := h2.2 c22
          exact cm_X11_readSide_53 h1 h2 hq
      · intro c23
        have h1 := h1.2 c23
        have h2 := h2.2 c23
        exact cm_X11_readSide_53 h1 h2 hq
    · intro c24
      have h1 := h1.2 c24
      have h2 := h2.2 c24
      exact cm_X11_readSide_53 h1 h2 hq
  · intro c25
    have h1 := h1.2 c25
    have h2 := h2.2 c25
    exact cm_X11_readSide_53 h1 h2 hq
theorem cm_X11_readSide {Q1 Q2 Q3 : Int32 → HS → Prop} {v0 : Nat} {S : HS} (h1 : P_X11_readSide v0 Q1 S) (h2 : P_X11_readSide v0 Q2 S) (hq : ∀ (r : Int32) (T : HS), Q1 r T → Q2 r T → Q3 r T) : P_X11_readSide v0 Q3 S := cm_X11_readSide_0 h1 h2 hq
set_option maxRecDepth 20000 in
set_option maxHeartbeats 1000000 in
theorem cm_X11_readRain_0 {Q1 Q2 Q3 : HS → Prop} {v0 : Nat} {S : HS} (h1 : P_X11_readRain_0 Q1 v0 S) (h2 : P_X11_readRain_0 Q2 v0 S) (hq : ∀ (T : HS), Q1 T → Q2 T → Q3 T) : P_X11_readRain_0 Q3 v0 S := by
  delta P_X11_readRain_0 at h1 h2 ⊢
  obtain ⟨c1, h1⟩ := h1
  obtain ⟨_, h2⟩ := h2
  refine ⟨c1, ?_⟩
  obtain ⟨b2, e3, h1⟩ := h1
  obtain ⟨b4, e5, h2⟩ := h2
  cases e3.symm.trans e5
  refine ⟨b2, e3, ?_⟩
  obtain ⟨c6, h1⟩ := h1
  obtain ⟨_, h2⟩ := h2
  refine ⟨c6, ?_⟩
  intro x8 e7
  have h1 := h1 x8 e7
  have h2 := h2 x8 e7
  refine cm_X11_begins h1 h2 (fun x9 h1 h2 g10 => ?_)
  have h1 := h1 g10
  have h2 := h2 g10
  refine cm_X11_readPart h1 h2 (fun x11 x12 h1 h2 g13 => ?_)
  have h1 := h1 g13
  have h2 := h2 g13
  refine cm_X11_readPart h1 h2 (fun x14 x15 h1 h2 g16 => ?_)
  have h1 := h1 g16
  have h2 := h2 g16
  refine cm_X11_needs h1 h2 (fun x17 h1 h2 g18 => ?_)
  have h1 := h1 g18
  have h2 := h2 g18
  refine cm_X11_readSide h1 h2 (fun x19 x20 h1 h2 g21 => ?_)
  have h1 := h1 g21
  have h2 := h2 g21
  refine cm_X11_readWhole h1 h2 (fun x22 x23 h1 h2 g24 => ?_)
  have h1 := h1 g24
  have h2 := h2 g24
  refine cm_X11_readPart h1 h2 (fun x25 x26 h1 h2 g27 => ?_)
  have h1 := h1 g27
  have h2 := h2 g27
  intro x29 e28
  have h1 := h1 x29 e28
  have h2 := h2 x29 e28
  refine ⟨?_, ?_⟩
  · intro c30
    have h1 := h1.1 c30
    have h2 := h2.1 c30
    obtain ⟨b31, e32, h1⟩ := h1
    obtain ⟨b33, e34, h2⟩ := h2
    cases e32.symm.trans e34
    refine ⟨b31, e32, ?_⟩
    obtain ⟨c35, h1⟩ := h1
    obtain ⟨_, h2⟩ := h2
    refine ⟨c35, ?_⟩
    obtain ⟨b36, e37, h1⟩ := h1
    obtain ⟨b38, e39, h2⟩ := h2
    cases e37.symm.trans e39
    refine ⟨b36, e37, ?_⟩
    obtain ⟨b40, e41, h1⟩ := h1
    obtain ⟨b42, e43, h2⟩ := h2
    cases e41.symm.trans e43
    refine ⟨b40, e41, ?_⟩
    obtain ⟨c44, h1⟩ := h1
    obtain ⟨_, h2⟩ := h2
    refine ⟨c44, ?_⟩
    intro x46 e45
    have h1 := h1 x46 e45
    have h2 := h2 x46 e45
    obtain ⟨c47, h1⟩ := h1
    obtain ⟨_, h2⟩ := h2
    refine ⟨c47, ?_⟩
    obtain ⟨c48, h1⟩ := h1
    obtain ⟨_, h2⟩ := h2
    refine ⟨c48, ?_⟩
    intro x50 e49
    have h1 := h1 x50 e49
    have h2 := h2 x50 e49
    obtain ⟨b51, e52, h1⟩ := h1
    obtain ⟨b53, e54, h2⟩ := h2
    cases e52.symm.trans e54
    refine ⟨b51, e52, ?_⟩
    obtain ⟨c55, h1⟩ := h1
    obtain ⟨_, h2⟩ := h2
    refine ⟨c55, ?_⟩
    obtain ⟨b56, e57, h1⟩ := h1
    obtain ⟨b58, e59, h2⟩ := h2
    cases e57.symm.trans e59
    refine ⟨b56, e57, ?_⟩
    obtain ⟨b60, e61, h1⟩ := h1
    obtain ⟨b62, e63, h2⟩ := h2
    cases e61.symm.trans e63
    refine ⟨b60, e61, ?_⟩
    obtain ⟨c64, h1⟩ := h1
    obtain ⟨_, h2⟩ := h2
    refine ⟨c64, ?_⟩
    intro x66 e65
    have h1 := h1 x66 e65
    have h2 := h2 x66 e65
    obtain ⟨c67, h1⟩ := h1
    obtain ⟨_, h2⟩ := h2
    refine ⟨c67, ?_⟩
    obtain ⟨c68, h1⟩ := h1
    obtain ⟨_, h2⟩ := h2
    refine ⟨c68, ?_⟩
    intro x70 e69
    have h1 := h1 x70 e69
    have h2 := h2 x70 e69
    obtain ⟨b71, e72, h1⟩ := h1
    obtain ⟨b73, e74, h2⟩ := h2
    cases e72.symm.trans e74
    refine ⟨b71, e72, ?_⟩
    obtain ⟨c75, h1⟩ := h1
    obtain ⟨_, h2⟩ := h2
    refine ⟨c75, ?_⟩
    obtain ⟨b76, e77, h1⟩ := h1
    obtain ⟨b78, e79, h2⟩ := h2
    cases e77.symm.trans e79
    refine ⟨b76, e77, ?_⟩
    obtain ⟨b80, e81, h1⟩ := h1
    obtain ⟨b82, e83, h2⟩ := h2
    cases e81.symm.trans e83
    refine ⟨b80, e81, ?_⟩
    obtain ⟨c84, h1⟩ := h1
    obtain ⟨_, h2⟩ := h2
    refine ⟨c84, ?_⟩
    intro x86 e85
    have h1 := h1 x86 e85
    have h2 := h2 x86 e85
    obtain ⟨c87, h1⟩ := h1
    obtain ⟨_, h2⟩ := h2
    refine ⟨c87, ?_⟩
    obtain ⟨c88, h1⟩ := h1
    obtain ⟨_, h2⟩ := h2
    refine ⟨c88, ?_⟩
    intro x90 e89
    have h1 := h1 x90 e89
    have h2 := h2 x90 e89
    obtain ⟨b91, e92, h1⟩ := h1
    obtain ⟨b93, e94, h2⟩ := h2
    cases e92.symm.trans e94
    refine ⟨b91, e92, ?_⟩
    obtain ⟨c95, h1⟩ := h1
    obtain ⟨_, h2⟩ := h2
    refine ⟨c95, ?_⟩
    obtain ⟨b96, e97, h1⟩ := h1
    obtain ⟨b98, e99, h2⟩ := h2
    cases e97.symm.trans e99
    refine ⟨b96, e97, ?_⟩
    obtain ⟨b100, e101, h1⟩ := h1
    obtain ⟨b102, e103, h2⟩ := h2
    cases e101.symm.trans e103
    refine ⟨b100, e101, ?_⟩
    obtain ⟨c104, h1⟩ := h1
    obtain ⟨_, h2⟩ := h2
    refine ⟨c104, ?_⟩
    intro x106 e105
    have h1 := h1 x106 e105
    have h2 := h2 x106 e105
    obtain ⟨c107, h1⟩ := h1
    obtain ⟨_, h2⟩ := h2
    refine ⟨c107, ?_⟩
    obtain ⟨c108, h1⟩ := h1
    obtain ⟨_, h2⟩ := h2
    refine ⟨c108, ?_⟩
    intro x110 e109
    have h1 := h1 x110 e109
    have h2 := h2 x110 e109
    obtain ⟨b111, e112, h1⟩ := h1
    obtain ⟨b113, e114, h2⟩ := h2
    cases e112.symm.trans e114
    refine ⟨b111, e112, ?_⟩
    obtain ⟨c115, h1⟩ := h1
    obtain ⟨_, h2⟩ := h2
    refine ⟨c115, ?_⟩
    obtain ⟨b116, e117, h1⟩ := h1
    obtain ⟨b118, e119, h2⟩ := h2
    cases e117.symm.trans e119
    refine ⟨b116, e117, ?_⟩
    obtain ⟨b120, e121, h1⟩ := h1
    obtain ⟨b122, e123, h2⟩ := h2
    cases e121.symm.trans e123
    refine ⟨b120, e121, ?_⟩
    obtain ⟨c124, h1⟩ := h1
    obtain ⟨_, h2⟩ := h2
    refine ⟨c124, ?_⟩
    intro x126 e125
    have h1 := h1 x126 e125
    have h2 := h2 x126 e125
    obtain ⟨c127, h1⟩ := h1
    obtain ⟨_, h2⟩ := h2
    refine ⟨c127, ?_⟩
    obtain ⟨c128, h1⟩ := h1
    obtain ⟨_, h2⟩ := h2
    refine ⟨c128, ?_⟩
    intro x130 e129
    have h1 := h1 x130 e129
    have h2 := h2 x130 e129
    obtain ⟨b131, e132, h1⟩ := h1
    obtain ⟨b133, e134, h2⟩ := h2
    cases e132.symm.trans e134
    refine ⟨b131, e132, ?_⟩
    obtain ⟨c135, h1⟩ := h1
    obtain ⟨_, h2⟩ := h2
    refine ⟨c135, ?_⟩
    intro x137 e136
    have h1 := h1 x137 e136
    have h2 := h2 x137 e136
    intro x139 e138
    have h1 := h1 x139 e138
    have h2 := h2 x139 e138
    intro x141 e140
    have h1 := h1 x141 e140
    have h2 := h2 x141 e140
    exact hq _ h1 h2
  · intro c142
    have h1 := h1.2 c142
    have h2 := h2.2 c142
    exact hq _ h1 h2
theorem cm_X11_readRain {Q1 Q2 Q3 : HS → Prop} {v0 : Nat} {S : HS} (h1 : P_X11_readRain v0 Q1 S) (h2 : P_X11_readRain v0 Q2 S) (hq : ∀ (T : HS), Q1 T → Q2 T → Q3 T) : P_X11_readRain v0 Q3 S := cm_X11_readRain_0 h1 h2 hq
set_option maxRecDepth 20000 in
set_option maxHeartbeats 1000000 in
theorem cm_X11_readRoad_85 {Q1 Q2 Q3 : HS → Prop} {v0 : Nat} {v1 : Int32} {v2 : Int32} {v3 : Int32} {v4 : Int32} {s0 : Int32} {S : HS} (h1 : P_X11_readRoad_85 Q1 v0 v1 v2 v3 v4 s0 S) (h2 : P_X11_readRoad_85 Q2 v0 v1 v2 v3 v4 s0 S) (hq : ∀ (T : HS), Q1 T → Q2 T → Q3 T) : P_X11_readRoad_85 Q3 v0 v1 v2 v3 v4 s0 S := by
  delta P_X11_readRoad_85 at h1 h2 ⊢
  obtain ⟨c1, h1⟩ := h1
  obtain ⟨_, h2⟩ := h2
  refine ⟨c1, ?_⟩
  intro x3 e2
  have h1 := h1 x3 e2
  have h2 := h2 x3 e2
  refine ⟨?_, ?_⟩
  · intro c4
    have h1 := h1.1 c4
    have h2 := h2.1 c4
    obtain ⟨b5, e6, h1⟩ := h1
    obtain ⟨b7, e8, h2⟩ := h2
    cases e6.symm.trans e8
    refine ⟨b5, e6, ?_⟩
    obtain ⟨c9, h1⟩ := h1
    obtain ⟨_, h2⟩ := h2
    refine ⟨c9, ?_⟩
    intro x11 e10
    have h1 := h1 x11 e10
    have h2 := h2 x11 e10
    obtain ⟨b12, e13, h1⟩ := h1
    obtain ⟨b14, e15, h2⟩ := h2
    cases e13.symm.trans e15
    refine ⟨b12, e13, ?_⟩
    obtain ⟨c16, h1⟩ := h1
    obtain ⟨_, h2⟩ := h2
    refine ⟨c16, ?_⟩
    obtain ⟨b17, e18, h1⟩ := h1
    obtain ⟨b19, e20, h2⟩ := h2
    cases e18.symm.trans e20
    refine ⟨b17, e18, ?_⟩
    obtain ⟨c21, h1⟩ := h1
    obtain ⟨_, h2⟩ := h2
    refine ⟨c21, ?_⟩
    obtain ⟨c22, h1⟩ := h1
    obtain ⟨_, h2⟩ := h2
    refine ⟨c22, ?_⟩
    intro x24 e23
    have h1 := h1 x24 e23
    have h2 := h2 x24 e23
    obtain ⟨b25, e26, h1⟩ := h1
    obtain ⟨b27, e28, h2⟩ := h2
    cases e26.symm.trans e28
    refine ⟨b25, e26, ?_⟩
    obtain ⟨c29, h1⟩ := h1
    obtain ⟨_, h2⟩ := h2
    refine ⟨c29, ?_⟩
    obtain ⟨b30, e31, h1⟩ := h1
    obtain ⟨b32, e33, h2⟩ := h2
    cases e31.symm.trans e33
    refine ⟨b30, e31, ?_⟩
    obtain ⟨c34, h1⟩ := h1
    obtain ⟨_, h2⟩ := h2
    refine ⟨c34, ?_⟩
    obtain ⟨c35, h1⟩ := h1
    obtain ⟨_, h2⟩ := h2
    refine ⟨c35, ?_⟩
    intro x37 e36
    have h1 := h1 x37 e36
    have h2 := h2 x37 e36
    obtain ⟨b38, e39, h1⟩ := h1
    obtain ⟨b40, e41, h2⟩ := h2
    cases e39.symm.trans e41
    refine ⟨b38, e39, ?_⟩
    obtain ⟨c42, h1⟩ := h1
    obtain ⟨_, h2⟩ := h2
    refine ⟨c42, ?_⟩
    obtain ⟨b43, e44, h1⟩ := h1
    obtain ⟨b45, e46, h2⟩ := h2
    cases e44.symm.trans e46
    refine ⟨b43, e44, ?_⟩
    obtain ⟨c47, h1⟩ := h1
    obtain ⟨_, h2⟩ := h2
    refine ⟨c47, ?_⟩
    obtain ⟨c48, h1⟩ := h1
    obtain ⟨_, h2⟩ := h2
    refine ⟨c48, ?_⟩
    intro x50 e49
    have h1 := h1 x50 e49
    have h2 := h2 x50 e49
    obtain ⟨b51, e52, h1⟩ := h1
    obtain ⟨b53, e54, h2⟩ := h2
    cases e52.symm.trans e54
    refine ⟨b51, e52, ?_⟩
    obtain ⟨c55, h1⟩ := h1
    obtain ⟨_, h2⟩ := h2
    refine ⟨c55, ?_⟩
    obtain ⟨b56, e57, h1⟩ := h1
    obtain ⟨b58, e59, h2⟩ := h2
    cases e57.symm.trans e59
    refine ⟨b56, e57, ?_⟩
    obtain ⟨c60, h1⟩ := h1
    obtain ⟨_, h2⟩ := h2
    refine ⟨c60, ?_⟩
    obtain ⟨c61, h1⟩ := h1
    obtain ⟨_, h2⟩ := h2
    refine ⟨c61, ?_⟩
    intro x63 e62
    have h1 := h1 x63 e62
    have h2 := h2 x63 e62
    obtain ⟨b64, e65, h1⟩ := h1
    obtain ⟨b66, e67, h2⟩ := h2
    cases e65.symm.trans e67
    refine ⟨b64, e65, ?_⟩
    obtain ⟨c68, h1⟩ := h1
    obtain ⟨_, h2⟩ := h2
    refine ⟨c68, ?_⟩
    obtain ⟨b69, e70, h1⟩ := h1
    obtain ⟨b71, e72, h2⟩ := h2
    cases e70.symm.trans e72
    refine ⟨b69, e70, ?_⟩
    obtain ⟨c73, h1⟩ := h1
    obtain ⟨_, h2⟩ := h2
    refine ⟨c73, ?_⟩
    obtain ⟨c74, h1⟩ := h1
    obtain ⟨_, h2⟩ := h2
    refine ⟨c74, ?_⟩
    intro x76 e75
    have h1 := h1 x76 e75
    have h2 := h2 x76 e75
    obtain ⟨b77, e78, h1⟩ := h1
    obtain ⟨b79, e80, h2⟩ := h2
    cases e78.symm.trans e80
    refine ⟨b77, e78, ?_⟩
    obtain ⟨c81, h1⟩ := h1
    obtain ⟨_, h2⟩ := h2
    refine ⟨c81, ?_⟩
    intro x83 e82
    have h1 := h1 x83 e82
    have h2 := h2 x83 e82
    intro x85 e84
    have h1 := h1 x85 e84
    have h2 := h2 x85 e84
    intro x87 e86
    have h1 := h1 x87 e86
    have h2 := h2 x87 e86
    exact hq _ h1 h2
  · intro c88
    have h1 := h1.2 c88
    have h2 := h2.2 c88
    exact hq _ h1 h2
set_option maxRecDepth 20000 in
set_option maxHeartbeats 1000000 in
theorem cm_X11_readRoad_62 {Q1 Q2 Q3 : HS → Prop} {v0 : Nat} {v1 : Int32} {v2 : Int32} {v3 : Int32} {v4 : Int32} {S : HS} (h1 : P_X11_readRoad_62 Q1 v0 v1 v2 v3 v4 S) (h2 : P_X11_readRoad_62 Q2 v0 v1 v2 v3 v4 S) (hq : ∀ (T : HS), Q1 T → Q2 T → Q3 T) : P_X11_readRoad_62 Q3 v0 v1 v2 v3 v4 S := by
  delta P_X11_readRoad_62 at h1 h2 ⊢
  obtain ⟨c1, h1⟩ := h1
  obtain ⟨_, h2⟩ := h2
  refine ⟨c1, ?_⟩
  refine cm_X11_goesOn h1 h2 (fun x2 h1 h2 g3 => ?_)
  have h1 := h1 g3
  have h2 := h2 g3
  refine cm_X11_eatsWord h1 h2 (fun x4 x5 h1 h2 g6 g7 => ?_)
  have h1 := h1 g6 g7
  have h2 := h2 g6 g7
  refine ⟨?_, ?_⟩
  · intro c8
    have h1 := h1.1 c8
    have h2 := h2.1 c8
    exact cm_X11_readRoad_85 h1 h2 hq
  · intro c9
    have h1 := h1.2 c9
    have h2 := h2.2 c9
    refine cm_X11_readWhole h1 h2 (fun x10 x11 h1 h2 g12 => ?_)
    have h1 := h1 g12
    have h2 := h2 g12
    exact cm_X11_readRoad_85 h1 h2 hq
set_option maxRecDepth 20000 in
set_option maxHeartbeats 1000000 in
theorem cm_X11_readRoad_0 {Q1 Q2 Q3 : HS → Prop} {v0 : Nat} {S : HS} (h1 : P_X11_readRoad_0 Q1 v0 S) (h2 : P_X11_readRoad_0 Q2 v0 S) (hq : ∀ (T : HS), Q1 T → Q2 T → Q3 T) : P_X11_readRoad_0 Q3 v0 S := by
  delta P_X11_readRoad_0 at h1 h2 ⊢
  obtain ⟨c1, h1⟩ := h1
  obtain ⟨_, h2⟩ := h2
  refine ⟨c1, ?_⟩
  obtain ⟨b2, e3, h1⟩ := h1
  obtain ⟨b4, e5, h2⟩ := h2
  cases e3.symm.trans e5
  refine ⟨b2, e3, ?_⟩
  obtain ⟨c6, h1⟩ := h1
  obtain ⟨_, h2⟩ := h2
  refine ⟨c6, ?_⟩
  intro x8 e7
  have h1 := h1 x8 e7
  have h2 := h2 x8 e7
  refine cm_X11_begins h1 h2 (fun x9 h1 h2 g10 => ?_)
  have h1 := h1 g10
  have h2 := h2 g10
  refine cm_X11_known h1 h2 (fun x11 x12 h1 h2 g13 => ?_)
  have h1 := h1 g13
  have h2 := h2 g13
  refine cm_X11_goesOn h1 h2 (fun x14 h1 h2 g15 => ?_)
  have h1 := h1 g15
  have h2 := h2 g15
  refine cm_X11_readSide h1 h2 (fun x16 x17 h1 h2 g18 => ?_)
  have h1 := h1 g18
  have h2 := h2 g18
  refine cm_X11_readWhole h1 h2 (fun x19 x20 h1 h2 g21 => ?_)
  have h1 := h1 g21
  have h2 := h2 g21
  refine cm_X11_known h1 h2 (fun x22 x23 h1 h2 g24 => ?_)
  have h1 := h1 g24
  have h2 := h2 g24
  intro x26 e25
  have h1 := h1 x26 e25
  have h2 := h2 x26 e25
  refine ⟨?_, ?_⟩
  · intro c27
    have h1 := h1.1 c27
    have h2 := h2.1 c27
    exact cm_X11_readRoad_62 h1 h2 hq
  · intro c28
    have h1 := h1.2 c28
    have h2 := h2.2 c28
    refine ⟨?_, ?_⟩
    · intro c29
      have h1 := h1.1 c29
      have h2 := h2.1 c29
      exact cm_X11_readRoad_62 h1 h2 hq
    · intro c30
      have h1 := h1.2 c30
      have h2 := h2.2 c30
      refine cm_X11_flaw h1 h2 (fun x31 h1 h2 g32 => ?_)
      have h1 := h1 g32
      have h2 := h2 g32
      exact cm_X11_readRoad_62 h1 h2 hq
theorem cm_X11_readRoad {Q1 Q2 Q3 : HS → Prop} {v0 : Nat} {S : HS} (h1 : P_X11_readRoad v0 Q1 S) (h2 : P_X11_readRoad v0 Q2 S) (hq : ∀ (T : HS), Q1 T → Q2 T → Q3 T) : P_X11_readRoad v0 Q3 S := cm_X11_readRoad_0 h1 h2 hq
set_option maxRecDepth 20000 in
set_option maxHeartbeats 1000000 in
theorem cm_X11_readSeen_47 {Q1 Q2 Q3 : HS → Prop} {X24_1 X24_2 X24_3 : Nat → Int32 → Int32 → HS → Prop} {v0 : Nat} {v1 : Int32} {v2 : Int32} {S : HS} (h1 : P_X11_readSeen_47 Q1 X24_1 v0 v1 v2 S) (h2 : P_X11_readSeen_47 Q2 X24_2 v0 v1 v2 S) (hq : ∀ (T : HS), Q1 T → Q2 T → Q3 T) (hX24 : ∀ (u0 : Nat) (u1 : Int32) (u2 : Int32) (u3 : HS), X24_1 u0 u1 u2 u3 → X24_2 u0 u1 u2 u3 → X24_3 u0 u1 u2 u3) : P_X11_readSeen_47 Q3 X24_3 v0 v1 v2 S := by
  delta P_X11_readSeen_47 at h1 h2 ⊢
  obtain ⟨c1, h1⟩ := h1
  obtain ⟨_, h2⟩ := h2
  refine ⟨c1, ?_⟩
  refine cm_X11_readWhole h1 h2 (fun x2 x3 h1 h2 g4 => ?_)
  have h1 := h1 g4
  have h2 := h2 g4
  intro x6 e5
  have h1 := h1 x6 e5
  have h2 := h2 x6 e5
  refine ⟨?_, ?_⟩
  · intro c7
    have h1 := h1.1 c7
    have h2 := h2.1 c7
    obtain ⟨b8, e9, h1⟩ := h1
    obtain ⟨b10, e11, h2⟩ := h2
    cases e9.symm.trans e11
    refine ⟨b8, e9, ?_⟩
    obtain ⟨c12, h1⟩ := h1
    obtain ⟨_, h2⟩ := h2
    refine ⟨c12, ?_⟩
    obtain ⟨b13, e14, h1⟩ := h1
    obtain ⟨b15, e16, h2⟩ := h2
    cases e14.symm.trans e16
    refine ⟨b13, e14, ?_⟩
    obtain ⟨b17, e18, h1⟩ := h1
    obtain ⟨b19, e20, h2⟩ := h2
    cases e18.symm.trans e20
    refine ⟨b17, e18, ?_⟩
    obtain ⟨c21, h1⟩ := h1
    obtain ⟨_, h2⟩ := h2
    refine ⟨c21, ?_⟩
    intro x23 e22
    have h1 := h1 x23 e22
    have h2 := h2 x23 e22
    obtain ⟨c24, h1⟩ := h1
    obtain ⟨_, h2⟩ := h2
    refine ⟨c24, ?_⟩
    obtain ⟨c25, h1⟩ := h1
    obtain ⟨_, h2⟩ := h2
    refine ⟨c25, ?_⟩
    intro x27 e26
    have h1 := h1 x27 e26
    have h2 := h2 x27 e26
    intro x29 e28
    have h1 := h1 x29 e28
    have h2 := h2 x29 e28
    exact hX24 _ _ _ _ h1 h2
  · intro c30
    have h1 := h1.2 c30
    have h2 := h2.2 c30
    exact hq _ h1 h2
set_option maxRecDepth 20000 in
set_option maxHeartbeats 1000000 in
theorem cmB_X11_readSeen_24 {Q1 Q2 Q3 : HS → Prop} {X24_1 X24_2 X24_3 : Nat → Int32 → Int32 → HS → Prop} {v0 : Nat} {v1 : Int32} {v2 : Int32} {S : HS} (h1 : B_X11_readSeen_24 Q1 X24_1 v0 v1 v2 S) (h2 : B_X11_readSeen_24 Q2 X24_2 v0 v1 v2 S) (hq : ∀ (T : HS), Q1 T → Q2 T → Q3 T) (hX24 : ∀ (u0 : Nat) (u1 : Int32) (u2 : Int32) (u3 : HS), X24_1 u0 u1 u2 u3 → X24_2 u0 u1 u2 u3 → X24_3 u0 u1 u2 u3) : B_X11_readSeen_24 Q3 X24_3 v0 v1 v2 S := by
  delta B_X11_readSeen_24 at h1 h2 ⊢
  refine ⟨?_, ?_⟩
  · intro c1
    have h1 := h1.1 c1
    have h2 := h2.1 c1
    obtain ⟨c2, h1⟩ := h1
    obtain ⟨_, h2⟩ := h2
    refine ⟨c2, ?_⟩
    obtain ⟨b3, e4, h1⟩ := h1
    obtain ⟨b5, e6, h2⟩ := h2
    cases e4.symm.trans e6
    refine ⟨b3, e4, ?_⟩
    obtain ⟨c7, h1⟩ := h1
    obtain ⟨_, h2⟩ := h2
    refine ⟨c7, ?_⟩
    obtain ⟨b8, e9, h1⟩ := h1
    obtain ⟨b10, e11, h2⟩ := h2
    cases e9.symm.trans e11
    refine ⟨b8, e9, ?_⟩
    obtain ⟨b12, e13, h1⟩ := h1
    obtain ⟨b14, e15, h2⟩ := h2
    cases e13.symm.trans e15
    refine ⟨b12, e13, ?_⟩
    obtain ⟨c16, h1⟩ := h1
    obtain ⟨_, h2⟩ := h2
    refine ⟨c16, ?_⟩
    intro x18 e17
    have h1 := h1 x18 e17
    have h2 := h2 x18 e17
    obtain ⟨c19, h1⟩ := h1
    obtain ⟨_, h2⟩ := h2
    refine ⟨c19, ?_⟩
    obtain ⟨c20, h1⟩ := h1
    obtain ⟨_, h2⟩ := h2
    refine ⟨c20, ?_⟩
    intro x22 e21
    have h1 := h1 x22 e21
    have h2 := h2 x22 e21
    obtain ⟨b23, e24, h1⟩ := h1
    obtain ⟨b25, e26, h2⟩ := h2
    cases e24.symm.trans e26
    refine ⟨b23, e24, ?_⟩
    obtain ⟨c27, h1⟩ := h1
    obtain ⟨_, h2⟩ := h2
    refine ⟨c27, ?_⟩
    intro x29 e28
    have h1 := h1 x29 e28
    have h2 := h2 x29 e28
    intro x31 e30
    have h1 := h1 x31 e30
    have h2 := h2 x31 e30
    intro x33 e32
    have h1 := h1 x33 e32
    have h2 := h2 x33 e32
    exact hq _ h1 h2
  · intro c34
    have h1 := h1.2 c34
    have h2 := h2.2 c34
    refine ⟨?_, ?_⟩
    · intro c35
      have h1 := h1.1 c35
      have h2 := h2.1 c35
      exact cm_X11_readSeen_47 h1 h2 hq hX24
    · intro c36
      have h1 := h1.2 c36
      have h2 := h2.2 c36
      obtain ⟨c37, h1⟩ := h1
      obtain ⟨_, h2⟩ := h2
      refine ⟨c37, ?_⟩
      refine cm_X11_eatsSign h1 h2 (fun x38 x39 h1 h2 g40 g41 => ?_)
      have h1 := h1 g40 g41
      have h2 := h2 g40 g41
      refine ⟨?_, ?_⟩
      · intro c42
        have h1 := h1.1 c42
        have h2 := h2.1 c42
        exact cm_X11_readSeen_47 h1 h2 hq hX24
      · intro c43
        have h1 := h1.2 c43
        have h2 := h2.2 c43
        refine cm_X11_flaw h1 h2 (fun x44 h1 h2 g45 => ?_)
        have h1 := h1 g45
        have h2 := h2 g45
        exact cm_X11_readSeen_47 h1 h2 hq hX24
theorem fd_X11_readSeen_24 {Q : HS → Prop} {v0 : Nat} {v1 : Int32} {v2 : Int32} {S : HS} (h : B_X11_readSeen_24 Q (P_X11_readSeen_24 Q) v0 v1 v2 S) : P_X11_readSeen_24 Q v0 v1 v2 S := fun X hX => hX v0 v1 v2 S (cmB_X11_readSeen_24 h h (fun _ a _ => a) (fun _ _ _ _ hp _ => hp X hX))
theorem uf_X11_readSeen_24 {Q : HS → Prop} {v0 : Nat} {v1 : Int32} {v2 : Int32} {S : HS} (h : P_X11_readSeen_24 Q v0 v1 v2 S) : B_X11_readSeen_24 Q (P_X11_readSeen_24 Q) v0 v1 v2 S := h (fun v0 v1 v2 S => B_X11_readSeen_24 Q (P_X11_readSeen_24 Q) v0 v1 v2 S) (fun v0 v1 v2 S hB => cmB_X11_readSeen_24 hB hB (fun _ a _ => a) (fun _ _ _ _ hb _ => fd_X11_readSeen_24 hb))
theorem cm_X11_readSeen_24 {Q1 Q2 Q3 : HS → Prop} {v0 : Nat} {v1 : Int32} {v2 : Int32} {S : HS} (h1 : P_X11_readSeen_24 Q1 v0 v1 v2 S) (h2 : P_X11_readSeen_24 Q2 v0 v1 v2 S) (hq : ∀ (T : HS), Q1 T → Q2 T → Q3 T) : P_X11_readSeen_24 Q3 v0 v1 v2 S := h1 (fun v0 v1 v2 S => P_X11_readSeen_24 Q2 v0 v1 v2 S → P_X11_readSeen_24 Q3 v0 v1 v2 S) (fun v0 v1 v2 S hB hp => fd_X11_readSeen_24 (cmB_X11_readSeen_24 hB (uf_X11_readSeen_24 hp) hq (fun _ _ _ _ hx hp => hx hp))) h2
set_option maxRecDepth 20000 in
set_option maxHeartbeats 1000000 in
theorem cm_X11_readSeen_0 {Q1 Q2 Q3 : HS → Prop} {v0 : Nat} {S : HS} (h1 : P_X11_readSeen_0 Q1 v0 S) (h2 : P_X11_readSeen_0 Q2 v0 S) (hq : ∀ (T : HS), Q1 T → Q2 T → Q3 T) : P_X11_readSeen_0 Q3 v0 S := by
  delta P_X11_readSeen_0 at h1 h2 ⊢
  obtain ⟨c1, h1⟩ := h1
  obtain ⟨_, h2⟩ := h2
  refine ⟨c1, ?_⟩
  obtain ⟨b2, e3, h1⟩ := h1
  obtain ⟨b4, e5, h2⟩ := h2
  cases e3.symm.trans e5
  refine ⟨b2, e3, ?_⟩
  obtain ⟨c6, h1⟩ := h1
  obtain ⟨_, h2⟩ := h2
  refine ⟨c6, ?_⟩
  intro x8 e7
  have h1 := h1 x8 e7
  have h2 := h2 x8 e7
  refine cm_X11_begins h1 h2 (fun x9 h1 h2 g10 => ?_)
  have h1 := h1 g10
  have h2 := h2 g10
  refine cm_X11_known h1 h2 (fun x11 x12 h1 h2 g13 => ?_)
  have h1 := h1 g13
  have h2 := h2 g13
  refine cm_X11_goesOn h1 h2 (fun x14 h1 h2 g15 => ?_)
  have h1 := h1 g15
  have h2 := h2 g15
  exact cm_X11_readSeen_24 h1 h2 hq
theorem cm_X11_readSeen {Q1 Q2 Q3 : HS → Prop} {v0 : Nat} {S : HS} (h1 : P_X11_readSeen v0 Q1 S) (h2 : P_X11_readSeen v0 Q2 S) (hq : ∀ (T : HS), Q1 T → Q2 T → Q3 T) : P_X11_readSeen v0 Q3 S := cm_X11_readSeen_0 h1 h2 hq
set_option maxRecDepth 20000 in
set_option maxHeartbeats 1000000 in
theorem cm_X11_readWalker_149 {Q1 Q2 Q3 : HS → Prop} {v0 : Nat} {v1 : Int64} {v3 : Int32} {v4 : Int32} {s0 : Int32} {S : HS} (h1 : P_X11_readWalker_149 Q1 v0 v1 v3 v4 s0 S) (h2 : P_X11_readWalker_149 Q2 v0 v1 v3 v4 s0 S) (hq : ∀ (T : HS), Q1 T → Q2 T → Q3 T) : P_X11_readWalker_149 Q3 v0 v1 v3 v4 s0 S := by
  delta P_X11_readWalker_149 at h1 h2 ⊢
  obtain ⟨c1, h1⟩ := h1
  obtain ⟨_, h2⟩ := h2
  refine ⟨c1, ?_⟩
  refine cm_X11_readPart h1 h2 (fun x2 x3 h1 h2 g4 => ?_)
  have h1 := h1 g4
  have h2 := h2 g4
  refine cm_X11_readPart h1 h2 (fun x5 x6 h1 h2 g7 => ?_)
  have h1 := h1 g7
  have h2 := h2 g7
  refine cm_X11_readPart h1 h2 (fun x8 x9 h1 h2 g10 => ?_)
  have h1 := h1 g10
  have h2 := h2 g10
  refine cm_X11_readPart h1 h2 (fun x11 x12 h1 h2 g13 => ?_)
  have h1 := h1 g13
  have h2 := h2 g13
  refine cm_X11_readPart h1 h2 (fun x14 x15 h1 h2 g16 => ?_)
  have h1 := h1 g16
  have h2 := h2 g16
  intro x18 e17
  have h1 := h1 x18 e17
  have h2 := h2 x18 e17
  refine ⟨?_, ?_⟩
  · intro c19
    have h1 := h1.1 c19
    have h2 := h2.1 c19
    obtain ⟨b20, e21, h1⟩ := h1
    obtain ⟨b22, e23, h2⟩ := h2
    cases e21.symm.trans e23
    refine ⟨b20, e21, ?_⟩
    obtain ⟨c24, h1⟩ := h1
    obtain ⟨_, h2⟩ := h2
    refine ⟨c24, ?_⟩
    intro x26 e25
    have h1 := h1 x26 e25
    have h2 := h2 x26 e25
    refine cm_X11_names h1 h2 (fun x27 h1 h2 g28 => ?_)
    have h1 := h1 g28
    have h2 := h2 g28
    obtain ⟨b29, e30, h1⟩ := h1
    obtain ⟨b31, e32, h2⟩ := h2
    cases e30.symm.trans e32
    refine ⟨b29, e30, ?_⟩
    obtain ⟨c33, h1⟩ := h1
    obtain ⟨_, h2⟩ := h2
    refine ⟨c33, ?_⟩
    obtain ⟨b34, e35, h1⟩ := h1
    obtain ⟨b36, e37, h2⟩ := h2
    cases e35.symm.trans e37
    refine ⟨b34, e35, ?_⟩
    obtain ⟨c38, h1⟩ := h1
    obtain ⟨_, h2⟩ := h2
    refine ⟨c38, ?_⟩
    obtain ⟨c39, h1⟩ := h1
    obtain ⟨_, h2⟩ := h2
    refine ⟨c39, ?_⟩
    intro x41 e40
    have h1 := h1 x41 e40
    have h2 := h2 x41 e40
    obtain ⟨b42, e43, h1⟩ := h1
    obtain ⟨b44, e45, h2⟩ := h2
    cases e43.symm.trans e45
    refine ⟨b42, e43, ?_⟩
    obtain ⟨c46, h1⟩ := h1
    obtain ⟨_, h2⟩ := h2
    refine ⟨c46, ?_⟩
    obtain ⟨b47, e48, h1⟩ := h1
    obtain ⟨b49, e50, h2⟩ := h2
    cases e48.symm.trans e50
    refine ⟨b47, e48, ?_⟩
    obtain ⟨c51, h1⟩ := h1
    obtain ⟨_, h2⟩ := h2
    refine ⟨c51, ?_⟩
    obtain ⟨c52, h1⟩ := h1
    obtain ⟨_, h2⟩ := h2
    refine ⟨c52, ?_⟩
    intro x54 e53
    have h1 := h1 x54 e53
    have h2 := h2 x54 e53
    obtain ⟨b55, e56, h1⟩ := h1
    obtain ⟨b57, e58, h2⟩ := h2
    cases e56.symm.trans e58
    refine ⟨b55, e56, ?_⟩
    obtain ⟨c59, h1⟩ := h1
    obtain ⟨_, h2⟩ := h2
    refine ⟨c59, ?_⟩
    obtain ⟨b60, e61, h1⟩ := h1
    obtain ⟨b62, e63, h2⟩ := h2
    cases e61.symm.trans e63
    refine ⟨b60, e61, ?_⟩
    obtain ⟨c64, h1⟩ := h1
    obtain ⟨_, h2⟩ := h2
    refine ⟨c64, ?_⟩
    intro x66 e65
    have h1 := h1 x66 e65
    have h2 := h2 x66 e65
    obtain ⟨c67, h1⟩ := h1
    obtain ⟨_, h2⟩ := h2
    refine ⟨c67, ?_⟩
    intro x69 e68
    have h1 := h1 x69 e68
    have h2 := h2 x69 e68
    obtain ⟨b70, e71, h1⟩ := h1
    obtain ⟨b72, e73, h2⟩ := h2
    cases e71.symm.trans e73
    refine ⟨b70, e71, ?_⟩
    obtain ⟨c74, h1⟩ := h1
    obtain ⟨_, h2⟩ := h2
    refine ⟨c74, ?_⟩
    obtain ⟨b75, e76, h1⟩ := h1
    obtain ⟨b77, e78, h2⟩ := h2
    cases e76.symm.trans e78
    refine ⟨b75, e76, ?_⟩
    obtain ⟨c79, h1⟩ := h1
    obtain ⟨_, h2⟩ := h2
    refine ⟨c79, ?_⟩
    intro x81 e80
    have h1 := h1 x81 e80
    have h2 := h2 x81 e80
    obtain ⟨c82, h1⟩ := h1
    obtain ⟨_, h2⟩ := h2
    refine ⟨c82, ?_⟩
    intro x84 e83
    have h1 := h1 x84 e83
    have h2 := h2 x84 e83
    obtain ⟨b85, e86, h1⟩ := h1
    obtain ⟨b87, e88, h2⟩ := h2
    cases e86.symm.trans e88
    refine ⟨b85, e86, ?_⟩
    obtain ⟨c89, h1⟩ := h1
    obtain ⟨_, h2⟩ := h2
    refine ⟨c89, ?_⟩
    obtain ⟨b90, e91, h1⟩ := h1
    obtain ⟨b92, e93, h2⟩ := h2
    cases e91.symm.trans e93
    refine ⟨b90, e91, ?_⟩
    obtain ⟨c94, h1⟩ := h1
    obtain ⟨_, h2⟩ := h2
    refine ⟨c94, ?_⟩
    intro x96 e95
    have h1 := h1 x96 e95
    have h2 := h2 x96 e95
    obtain ⟨c97, h1⟩ := h1
    obtain ⟨_, h2⟩ := h2
    refine ⟨c97, ?_⟩
    intro x99 e98
    have h1 := h1 x99 e98
    have h2 := h2 x99 e98
    obtain ⟨b100, e101, h1⟩ := h1
    obtain ⟨b102, e103, h2⟩ := h2
    cases e101.symm.trans e103
    refine ⟨b100, e101, ?_⟩
    obtain ⟨c104, h1⟩ := h1
    obtain ⟨_, h2⟩ := h2
    refine ⟨c104, ?_⟩
    obtain ⟨b105, e106, h1⟩ := h1
    obtain ⟨b107, e108, h2⟩ := h2
    cases e106.symm.trans e108
    refine ⟨b105, e106, ?_⟩
    obtain ⟨c109, h1⟩ := h1
    obtain ⟨_, h2⟩ := h2
    refine ⟨c109, ?_⟩
    obtain ⟨c110, h1⟩ := h1
    obtain ⟨_, h2⟩ := h2
    refine ⟨c110, ?_⟩
    intro x112 e111
    have h1 := h1 x112 e111
    have h2 := h2 x112 e111
    obtain ⟨b113, e114, h1⟩ := h1
    obtain ⟨b115, e116, h2⟩ := h2
    cases e114.symm.trans e116
    refine ⟨b113, e114, ?_⟩
    obtain ⟨c117, h1⟩ := h1
    obtain ⟨_, h2⟩ := h2
    refine ⟨c117, ?_⟩
    obtain ⟨b118, e119, h1⟩ := h1
    obtain ⟨b120, e121, h2⟩ := h2
    cases e119.symm.trans e121
    refine ⟨b118, e119, ?_⟩
    obtain ⟨c122, h1⟩ := h1
    obtain ⟨_, h2⟩ := h2
    refine ⟨c122, ?_⟩
    obtain ⟨c123, h1⟩ := h1
    obtain ⟨_, h2⟩ := h2
    refine ⟨c123, ?_⟩
    intro x125 e124
    have h1 := h1 x125 e124
    have h2 := h2 x125 e124
    obtain ⟨b126, e127, h1⟩ := h1
    obtain ⟨b128, e129, h2⟩ := h2
    cases e127.symm.trans e129
    refine ⟨b126, e127, ?_⟩
    obtain ⟨c130, h1⟩ := h1
    obtain ⟨_, h2⟩ := h2
    refine ⟨c130, ?_⟩
    intro x132 e131
    have h1 := h1 x132 e131
    have h2 := h2 x132 e131
    intro x134 e133
    have h1 := h1 x134 e133
    have h2 := h2 x134 e133
    intro x136 e135
    have h1 := h1 x136 e135
    have h2 := h2 x136 e135
    exact hq _ h1 h2
  · intro c137
    have h1 := h1.2 c137
    have h2 := h2.2 c137
    exact hq _ h1 h2
set_option maxRecDepth 20000 in
set_option maxHeartbeats 1000000 in
theorem cm_X11_readWalker_136 {Q1 Q2 Q3 : HS → Prop} {v0 : Nat} {v1 : Int64} {v3 : Int32} {s0 : Int32} {S : HS} (h1 : P_X11_readWalker_136 Q1 v0 v1 v3 s0 S) (h2 : P_X11_readWalker_136 Q2 v0 v1 v3 s0 S) (hq : ∀ (T : HS), Q1 T → Q2 T → Q3 T) : P_X11_readWalker_136 Q3 v0 v1 v3 s0 S := by
  delta P_X11_readWalker_136 at h1 h2 ⊢
  refine ⟨?_, ?_⟩
  · intro c1
    have h1 := h1.1 c1
    have h2 := h2.1 c1
    exact cm_X11_readWalker_149 h1 h2 hq
  · intro c2
    have h1 := h1.2 c2
    have h2 := h2.2 c2
    exact cm_X11_readWalker_149 h1 h2 hq
set_option maxRecDepth 20000 in
set_option maxHeartbeats 1000000 in
theorem cm_X11_readWalker_85 {Q1 Q2 Q3 : HS → Prop} {v0 : Nat} {v1 : Int64} {v3 : Int32} {S : HS} (h1 : P_X11_readWalker_85 Q1 v0 v1 v3 S) (h2 : P_X11_readWalker_85 Q2 v0 v1 v3 S) (hq : ∀ (T : HS), Q1 T → Q2 T → Q3 T) : P_X11_readWalker_85 Q3 v0 v1 v3 S := by
  delta P_X11_readWalker_85 at h1 h2 ⊢
  obtain ⟨c1, h1⟩ := h1
  obtain ⟨_, h2⟩ := h2
  refine ⟨c1, ?_⟩
  refine cm_X11_goesOn h1 h2 (fun x2 h1 h2 g3 => ?_)
  have h1 := h1 g3
  have h2 := h2 g3
  refine ⟨?_, ?_⟩
  · intro c4
    have h1 := h1.1 c4
    have h2 := h2.1 c4
    refine ⟨?_, ?_⟩
    · intro c5
      have h1 := h1.1 c5
      have h2 := h2.1 c5
      refine ⟨?_, ?_⟩
      · intro c6
        have h1 := h1.1 c6
        have h2 := h2.1 c6
        exact cm_X11_readWalker_136 h1 h2 hq
      · intro c7
        have h1 := h1.2 c7
        have h2 := h2.2 c7
        refine cm_X11_readWhole h1 h2 (fun x8 x9 h1 h2 g10 => ?_)
        have h1 := h1 g10
        have h2 := h2 g10
        exact cm_X11_readWalker_136 h1 h2 hq
    · intro c11
      have h1 := h1.2 c11
      have h2 := h2.2 c11
      refine cm_X11_readWhole h1 h2 (fun x12 x13 h1 h2 g14 => ?_)
      have h1 := h1 g14
      have h2 := h2 g14
      exact cm_X11_readWalker_136 h1 h2 hq
  · intro c15
    have h1 := h1.2 c15
    have h2 := h2.2 c15
    refine cm_X11_readWhole h1 h2 (fun x16 x17 h1 h2 g18 => ?_)
    have h1 := h1 g18
    have h2 := h2 g18
    exact cm_X11_readWalker_136 h1 h2 hq
set_option maxRecDepth 20000 in
set_option maxHeartbeats 1000000 in
theorem cm_X11_readWalker_74 {Q1 Q2 Q3 : HS → Prop} {v0 : Nat} {v1 : Int64} {s0 : Int32} {S : HS} (h1 : P_X11_readWalker_74 Q1 v0 v1 s0 S) (h2 : P_X11_readWalker_74 Q2 v0 v1 s0 S) (hq : ∀ (T : HS), Q1 T → Q2 T → Q3 T) : P_X11_readWalker_74 Q3 v0 v1 s0 S := by
  delta P_X11_readWalker_74 at h1 h2 ⊢
  refine ⟨?_, ?_⟩
  · intro c1
    have h1 := h1.1 c1
    have h2 := h2.1 c1
    exact cm_X11_readWalker_85 h1 h2 hq
  · intro c2
    have h1 := h1.2 c2
    have h2 := h2.2 c2
    obtain ⟨c3, h1⟩ := h1
    obtain ⟨_, h2⟩ := h2
    refine ⟨c3, ?_⟩
    refine cm_X11_flaw h1 h2 (fun x4 h1 h2 g5 => ?_)
    have h1 := h1 g5
    have h2 := h2 g5
    exact cm_X11_readWalker_85 h1 h2 hq
set_option maxRecDepth 20000 in
set_option maxHeartbeats 1000000 in
theorem cm_X11_readWalker_0 {Q1 Q2 Q3 : HS → Prop} {v0 : Nat} {S : HS} (h1 : P_X11_readWalker_0 Q1 v0 S) (h2 : P_X11_readWalker_0 Q2 v0 S) (hq : ∀ (T : HS), Q1 T → Q2 T → Q3 T) : P_X11_readWalker_0 Q3 v0 S := by
  delta P_X11_readWalker_0 at h1 h2 ⊢
  obtain ⟨c1, h1⟩ := h1
  obtain ⟨_, h2⟩ := h2
  refine ⟨c1, ?_⟩
  obtain ⟨b2, e3, h1⟩ := h1
  obtain ⟨b4, e5, h2⟩ := h2
  cases e3.symm.trans e5
  refine ⟨b2, e3, ?_⟩
  obtain ⟨c6, h1⟩ := h1
  obtain ⟨_, h2⟩ := h2
  refine ⟨c6, ?_⟩
  intro x8 e7
  have h1 := h1 x8 e7
  have h2 := h2 x8 e7
  refine cm_X11_begins h1 h2 (fun x9 h1 h2 g10 => ?_)
  have h1 := h1 g10
  have h2 := h2 g10
  refine cm_X11_readFresh h1 h2 (fun x11 x12 h1 h2 g13 => ?_)
  have h1 := h1 g13
  have h2 := h2 g13
  refine cm_X11_isWord h1 h2 (fun x14 x15 h1 h2 g16 g17 => ?_)
  have h1 := h1 g16 g17
  have h2 := h2 g16 g17
  refine ⟨?_, ?_⟩
  · intro c18
    have h1 := h1.1 c18
    have h2 := h2.1 c18
    refine cm_X11_isWord h1 h2 (fun x19 x20 h1 h2 g21 g22 => ?_)
    have h1 := h1 g21 g22
    have h2 := h2 g21 g22
    refine ⟨?_, ?_⟩
    · intro c23
      have h1 := h1.1 c23
      have h2 := h2.1 c23
      refine cm_X11_isWord h1 h2 (fun x24 x25 h1 h2 g26 g27 => ?_)
      have h1 := h1 g26 g27
      have h2 := h2 g26 g27
      refine ⟨?_, ?_⟩
      · intro c28
        have h1 := h1.1 c28
        have h2 := h2.1 c28
        refine cm_X11_isWord h1 h2 (fun x29 x30 h1 h2 g31 g32 => ?_)
        have h1 := h1 g31 g32
        have h2 := h2 g31 g32
        refine ⟨?_, ?_⟩
        · intro c33
          have h1 := h1.1 c33
          have h2 := h2.1 c33
          exact cm_X11_readWalker_74 h1 h2 hq
        · intro c34
          have h1 := h1.2 c34
          have h2 := h2.2 c34
          exact cm_X11_readWalker_74 h1 h2 hq
      · intro c35
        have h1 := h1.2 c35
        have h2 := h2.2 c35
        exact cm_X11_readWalker_74 h1 h2 hq
    · intro c36
      have h1 := h1.2 c36
      have h2 := h2.2 c36
      exact cm_X11_readWalker_74 h1 h2 hq
  · intro c37
    have h1 := h1.2 c37
    have h2 := h2.2 c37
    exact cm_X11_readWalker_74 h1 h2 hq
theorem cm_X11_readWalker {Q1 Q2 Q3 : HS → Prop} {v0 : Nat} {S : HS} (h1 : P_X11_readWalker v0 Q1 S) (h2 : P_X11_readWalker v0 Q2 S) (hq : ∀ (T : HS), Q1 T → Q2 T → Q3 T) : P_X11_readWalker v0 Q3 S := cm_X11_readWalker_0 h1 h2 hq
set_option maxRecDepth 20000 in
set_option maxHeartbeats 1000000 in
theorem cm_X11_readWorld_15 {Q1 Q2 Q3 : HS → Prop} {v0 : Nat} {S : HS} (h1 : P_X11_readWorld_15 Q1 v0 S) (h2 : P_X11_readWorld_15 Q2 v0 S) (hq : ∀ (T : HS), Q1 T → Q2 T → Q3 T) : P_X11_readWorld_15 Q3 v0 S := by
  delta P_X11_readWorld_15 at h1 h2 ⊢
  obtain ⟨c1, h1⟩ := h1
  obtain ⟨_, h2⟩ := h2
  refine ⟨c1, ?_⟩
  refine cm_X11_goesOn h1 h2 (fun x2 h1 h2 g3 => ?_)
  have h1 := h1 g3
  have h2 := h2 g3
  refine cm_X11_readPart h1 h2 (fun x4 x5 h1 h2 g6 => ?_)
  have h1 := h1 g6
  have h2 := h2 g6
  intro x8 e7
  have h1 := h1 x8 e7
  have h2 := h2 x8 e7
  refine ⟨?_, ?_⟩
  · intro c9
    have h1 := h1.1 c9
    have h2 := h2.1 c9
    exact hq _ h1 h2
  · intro c10
    have h1 := h1.2 c10
    have h2 := h2.2 c10
    obtain ⟨b11, e12, h1⟩ := h1
    obtain ⟨b13, e14, h2⟩ := h2
    cases e12.symm.trans e14
    refine ⟨b11, e12, ?_⟩
    obtain ⟨c15, h1⟩ := h1
    obtain ⟨_, h2⟩ := h2
    refine ⟨c15, ?_⟩
    intro x17 e16
    have h1 := h1 x17 e16
    have h2 := h2 x17 e16
    exact hq _ h1 h2
set_option maxRecDepth 20000 in
set_option maxHeartbeats 1000000 in
theorem cm_X11_readWorld_0 {Q1 Q2 Q3 : HS → Prop} {v0 : Nat} {S : HS} (h1 : P_X11_readWorld_0 Q1 v0 S) (h2 : P_X11_readWorld_0 Q2 v0 S) (hq : ∀ (T : HS), Q1 T → Q2 T → Q3 T) : P_X11_readWorld_0 Q3 v0 S := by
  delta P_X11_readWorld_0 at h1 h2 ⊢
  obtain ⟨c1, h1⟩ := h1
  obtain ⟨_, h2⟩ := h2
  refine ⟨c1, ?_⟩
  obtain ⟨b2, e3, h1⟩ := h1
  obtain ⟨b4, e5, h2⟩ := h2
  cases e3.symm.trans e5
  refine ⟨b2, e3, ?_⟩
  obtain ⟨c6, h1⟩ := h1
  obtain ⟨_, h2⟩ := h2
  refine ⟨c6, ?_⟩
  intro x8 e7
  have h1 := h1 x8 e7
  have h2 := h2 x8 e7
  refine ⟨?_, ?_⟩
  · intro c9
    have h1 := h1.1 c9
    have h2 := h2.1 c9
    exact cm_X11_readWorld_15 h1 h2 hq
  · intro c10
    have h1 := h1.2 c10
    have h2 := h2.2 c10
    refine cm_X11_flaw h1 h2 (fun x11 h1 h2 g12 => ?_)
    have h1 := h1 g12
    have h2 := h2 g12
    exact cm_X11_readWorld_15 h1 h2 hq
theorem cm_X11_readWorld {Q1 Q2 Q3 : HS → Prop} {v0 : Nat} {S : HS} (h1 : P_X11_readWorld v0 Q1 S) (h2 : P_X11_readWorld v0 Q2 S) (hq : ∀ (T : HS), Q1 T → Q2 T → Q3 T) : P_X11_readWorld v0 Q3 S := cm_X11_readWorld_0 h1 h2 hq
set_option maxRecDepth 20000 in
set_option maxHeartbeats 1000000 in
theorem cm_X11_readLine_0 {Q1 Q2 Q3 : HS → Prop} {v0 : Nat} {S : HS} (h1 : P_X11_readLine_0 Q1 v0 S) (h2 : P_X11_readLine_0 Q2 v0 S) (hq : ∀ (T : HS), Q1 T → Q2 T → Q3 T) : P_X11_readLine_0 Q3 v0 S := by
  delta P_X11_readLine_0 at h1 h2 ⊢
  obtain ⟨c1, h1⟩ := h1
  obtain ⟨_, h2⟩ := h2
  refine ⟨c1, ?_⟩
  refine cm_X11_isWord h1 h2 (fun x2 x3 h1 h2 g4 g5 => ?_)
  have h1 := h1 g4 g5
  have h2 := h2 g4 g5
  refine ⟨?_, ?_⟩
  · intro c6
    have h1 := h1.1 c6
    have h2 := h2.1 c6
    refine cm_X11_isWord h1 h2 (fun x7 x8 h1 h2 g9 g10 => ?_)
    have h1 := h1 g9 g10
    have h2 := h2 g9 g10
    refine ⟨?_, ?_⟩
    · intro c11
      have h1 := h1.1 c11
      have h2 := h2.1 c11
      refine cm_X11_isWord h1 h2 (fun x12 x13 h1 h2 g14 g15 => ?_)
      have h1 := h1 g14 g15
      have h2 := h2 g14 g15
      refine ⟨?_, ?_⟩
      · intro c16
        have h1 := h1.1 c16
        have h2 := h2.1 c16
        refine cm_X11_isWord h1 h2 (fun x17 x18 h1 h2 g19 g20 => ?_)
        have h1 := h1 g19 g20
        have h2 := h2 g19 g20
        refine ⟨?_, ?_⟩
        · intro c21
          have h1 := h1.1 c21
          have h2 := h2.1 c21
          refine cm_X11_isWord h1 h2 (fun x22 x23 h1 h2 g24 g25 => ?_)
          have h1 := h1 g24 g25
          have h2 := h2 g24 g25
          refine ⟨?_, ?_⟩
          · intro c26
            have h1 := h1.1 c26
            have h2 := h2.1 c26
            refine cm_X11_isWord h1 h2 (fun x27 x28 h1 h2 g29 g30 => ?_)
            have h1 := h1 g29 g30
            have h2 := h2 g29 g30
            refine ⟨?_, ?_⟩
            · intro c31
              have h1 := h1.1 c31
              have h2 := h2.1 c31
              refine cm_X11_flaw h1 h2 (fun x32 h1 h2 g33 => ?_)
              have h1 := h1 g33
              have h2 := h2 g33
              exact hq _ h1 h2
            · intro c34
              have h1 := h1.2 c34
              have h2 := h2.2 c34
              refine cm_X11_readSeen h1 h2 (fun x35 h1 h2 g36 => ?_)
              have h1 := h1 g36
              have h2 := h2 g36
              exact hq _ h1 h2
          · intro c37
            have h1 := h1.2 c37
            have h2 := h2.2 c37
            refine cm_X11_readWalker h1 h2 (fun x38 h1 h2 g39 => ?_)
            have h1 := h1 g39
            have h2 := h2 g39
            exact hq _ h1 h2
        · intro c40
          have h1 := h1.2 c40
          have h2 := h2.2 c40
          refine cm_X11_readRoad h1 h2 (fun x41 h1 h2 g42 => ?_)
          have h1 := h1 g42
          have h2 := h2 g42
          exact hq _ h1 h2
      · intro c43
        have h1 := h1.2 c43
        have h2 := h2.2 c43
        refine cm_X11_readPlace h1 h2 (fun x44 h1 h2 g45 => ?_)
        have h1 := h1 g45
        have h2 := h2 g45
        exact hq _ h1 h2
    · intro c46
      have h1 := h1.2 c46
      have h2 := h2.2 c46
      refine cm_X11_readRain h1 h2 (fun x47 h1 h2 g48 => ?_)
      have h1 := h1 g48
      have h2 := h2 g48
      exact hq _ h1 h2
  · intro c49
    have h1 := h1.2 c49
    have h2 := h2.2 c49
    refine cm_X11_readWorld h1 h2 (fun x50 h1 h2 g51 => ?_)
    have h1 := h1 g51
    have h2 := h2 g51
    exact hq _ h1 h2
theorem cm_X11_readLine {Q1 Q2 Q3 : HS → Prop} {v0 : Nat} {S : HS} (h1 : P_X11_readLine v0 Q1 S) (h2 : P_X11_readLine v0 Q2 S) (hq : ∀ (T : HS), Q1 T → Q2 T → Q3 T) : P_X11_readLine v0 Q3 S := cm_X11_readLine_0 h1 h2 hq
set_option maxRecDepth 20000 in
set_option maxHeartbeats 1000000 in
theorem cm_X11_readAll_63 {Q1 Q2 Q3 : HS → Prop} {v0 : Nat} {S : HS} (h1 : P_X11_readAll_63 Q1 v0 S) (h2 : P_X11_readAll_63 Q2 v0 S) (hq : ∀ (T : HS), Q1 T → Q2 T → Q3 T) : P_X11_readAll_63 Q3 v0 S := by
  delta P_X11_readAll_63 at h1 h2 ⊢
  obtain ⟨c1, h1⟩ := h1
  obtain ⟨_, h2⟩ := h2
  refine ⟨c1, ?_⟩
  refine cm_X11_flaw h1 h2 (fun x2 h1 h2 g3 => ?_)
  have h1 := h1 g3
  have h2 := h2 g3
  exact hq _ h1 h2
set_option maxRecDepth 20000 in
set_option maxHeartbeats 1000000 in
theorem cm_X11_readAll_33 {Q1 Q2 Q3 : HS → Prop} {v0 : Nat} {S : HS} (h1 : P_X11_readAll_33 Q1 v0 S) (h2 : P_X11_readAll_33 Q2 v0 S) (hq : ∀ (T : HS), Q1 T → Q2 T → Q3 T) : P_X11_readAll_33 Q3 v0 S := by
  delta P_X11_readAll_33 at h1 h2 ⊢
  obtain ⟨c1, h1⟩ := h1
  obtain ⟨_, h2⟩ := h2
  refine ⟨c1, ?_⟩
  obtain ⟨b2, e3, h1⟩ := h1
  obtain ⟨b4, e5, h2⟩ := h2
  cases e3.symm.trans e5
  refine ⟨b2, e3, ?_⟩
  obtain ⟨c6, h1⟩ := h1
  obtain ⟨_, h2⟩ := h2
  refine ⟨c6, ?_⟩
  intro x8 e7
  have h1 := h1 x8 e7
  have h2 := h2 x8 e7
  refine ⟨?_, ?_⟩
  · intro c9
    have h1 := h1.1 c9
    have h2 := h2.1 c9
    exact cm_X11_readAll_63 h1 h2 hq
  · intro c10
    have h1 := h1.2 c10
    have h2 := h2.2 c10
    obtain ⟨b11, e12, h1⟩ := h1
    obtain ⟨b13, e14, h2⟩ := h2
    cases e12.symm.trans e14
    refine ⟨b11, e12, ?_⟩
    obtain ⟨c15, h1⟩ := h1
    obtain ⟨_, h2⟩ := h2
    refine ⟨c15, ?_⟩
    intro x17 e16
    have h1 := h1 x17 e16
    have h2 := h2 x17 e16
    refine ⟨?_, ?_⟩
    · intro c18
      have h1 := h1.1 c18
      have h2 := h2.1 c18
      exact cm_X11_readAll_63 h1 h2 hq
    · intro c19
      have h1 := h1.2 c19
      have h2 := h2.2 c19
      obtain ⟨b20, e21, h1⟩ := h1
      obtain ⟨b22, e23, h2⟩ := h2
      cases e21.symm.trans e23
      refine ⟨b20, e21, ?_⟩
      obtain ⟨c24, h1⟩ := h1
      obtain ⟨_, h2⟩ := h2
      refine ⟨c24, ?_⟩
      intro x26 e25
      have h1 := h1 x26 e25
      have h2 := h2 x26 e25
      refine ⟨?_, ?_⟩
      · intro c27
        have h1 := h1.1 c27
        have h2 := h2.1 c27
        exact hq _ h1 h2
      · intro c28
        have h1 := h1.2 c28
        have h2 := h2.2 c28
        exact cm_X11_readAll_63 h1 h2 hq
set_option maxRecDepth 20000 in
set_option maxHeartbeats 1000000 in
theorem cmB_X11_readAll_2 {Q1 Q2 Q3 : HS → Prop} {X2_1 X2_2 X2_3 : Nat → Int32 → HS → Prop} {v0 : Nat} {v1 : Int32} {S : HS} (h1 : B_X11_readAll_2 Q1 X2_1 v0 v1 S) (h2 : B_X11_readAll_2 Q2 X2_2 v0 v1 S) (hq : ∀ (T : HS), Q1 T → Q2 T → Q3 T) (hX2 : ∀ (u0 : Nat) (u1 : Int32) (u2 : HS), X2_1 u0 u1 u2 → X2_2 u0 u1 u2 → X2_3 u0 u1 u2) : B_X11_readAll_2 Q3 X2_3 v0 v1 S := by
  delta B_X11_readAll_2 at h1 h2 ⊢
  refine ⟨?_, ?_⟩
  · intro c1
    have h1 := h1.1 c1
    have h2 := h2.1 c1
    obtain ⟨c2, h1⟩ := h1
    obtain ⟨_, h2⟩ := h2
    refine ⟨c2, ?_⟩
    intro x4 e3
    have h1 := h1 x4 e3
    have h2 := h2 x4 e3
    refine ⟨?_, ?_⟩
    · intro c5
      have h1 := h1.1 c5
      have h2 := h2.1 c5
      exact cm_X11_readAll_33 h1 h2 hq
    · intro c6
      have h1 := h1.2 c6
      have h2 := h2.2 c6
      refine cm_X11_flaw h1 h2 (fun x7 h1 h2 g8 => ?_)
      have h1 := h1 g8
      have h2 := h2 g8
      exact cm_X11_readAll_33 h1 h2 hq
  · intro c9
    have h1 := h1.2 c9
    have h2 := h2.2 c9
    obtain ⟨c10, h1⟩ := h1
    obtain ⟨_, h2⟩ := h2
    refine ⟨c10, ?_⟩
    refine cm_X11_readLine h1 h2 (fun x11 h1 h2 g12 => ?_)
    have h1 := h1 g12
    have h2 := h2 g12
    refine cm_X11_eatsSign h1 h2 (fun x13 x14 h1 h2 g15 g16 => ?_)
    have h1 := h1 g15 g16
    have h2 := h2 g15 g16
    exact hX2 _ _ _ h1 h2
theorem fd_X11_readAll_2 {Q : HS → Prop} {v0 : Nat} {v1 : Int32} {S : HS} (h : B_X11_readAll_2 Q (P_X11_readAll_2 Q) v0 v1 S) : P_X11_readAll_2 Q v0 v1 S := fun X hX => hX v0 v1 S (cmB_X11_readAll_2 h h (fun _ a _ => a) (fun _ _ _ hp _ => hp X hX))
theorem uf_X11_readAll_2 {Q : HS → Prop} {v0 : Nat} {v1 : Int32} {S : HS} (h : P_X11_readAll_2 Q v0 v1 S) : B_X11_readAll_2 Q (P_X11_readAll_2 Q) v0 v1 S := h (fun v0 v1 S => B_X11_readAll_2 Q (P_X11_readAll_2 Q) v0 v1 S) (fun v0 v1 S hB => cmB_X11_readAll_2 hB hB (fun _ a _ => a) (fun _ _ _ hb _ => fd_X11_readAll_2 hb))
theorem cm_X11_readAll_2 {Q1 Q2 Q3 : HS → Prop} {v0 : Nat} {v1 : Int32} {S : HS} (h1 : P_X11_readAll_2 Q1 v0 v1 S) (h2 : P_X11_readAll_2 Q2 v0 v1 S) (hq : ∀ (T : HS), Q1 T → Q2 T → Q3 T) : P_X11_readAll_2 Q3 v0 v1 S := h1 (fun v0 v1 S => P_X11_readAll_2 Q2 v0 v1 S → P_X11_readAll_2 Q3 v0 v1 S) (fun v0 v1 S hB hp => fd_X11_readAll_2 (cmB_X11_readAll_2 hB (uf_X11_readAll_2 hp) hq (fun _ _ _ hx hp => hx hp))) h2
set_option maxRecDepth 20000 in
set_option maxHeartbeats 1000000 in
theorem cm_X11_readAll_0 {Q1 Q2 Q3 : HS → Prop} {v0 : Nat} {S : HS} (h1 : P_X11_readAll_0 Q1 v0 S) (h2 : P_X11_readAll_0 Q2 v0 S) (hq : ∀ (T : HS), Q1 T → Q2 T → Q3 T) : P_X11_readAll_0 Q3 v0 S := by
  delta P_X11_readAll_0 at h1 h2 ⊢
  exact cm_X11_readAll_2 h1 h2 hq
theorem cm_X11_readAll {Q1 Q2 Q3 : HS → Prop} {v0 : Nat} {S : HS} (h1 : P_X11_readAll v0 Q1 S) (h2 : P_X11_readAll v0 Q2 S) (hq : ∀ (T : HS), Q1 T → Q2 T → Q3 T) : P_X11_readAll v0 Q3 S := cm_X11_readAll_0 h1 h2 hq
set_option maxRecDepth 20000 in
set_option maxHeartbeats 1000000 in
theorem cm_X11_road_22 {Q1 Q2 Q3 : Int32 → HS → Prop} {v0 : Nat} {S : HS} (h1 : P_X11_road_22 Q1 v0 S) (h2 : P_X11_road_22 Q2 v0 S) (hq : ∀ (r : Int32) (T : HS), Q1 r T → Q2 r T → Q3 r T) : P_X11_road_22 Q3 v0 S := by
  delta P_X11_road_22 at h1 h2 ⊢
  obtain ⟨c1, h1⟩ := h1
  obtain ⟨_, h2⟩ := h2
  refine ⟨c1, ?_⟩
  refine cm_X11_refused h1 h2 (fun x2 x3 h1 h2 g4 => ?_)
  have h1 := h1 g4
  have h2 := h2 g4
  exact hq _ _ h1 h2
set_option maxRecDepth 20000 in
set_option maxHeartbeats 1000000 in
theorem cm_X11_road_0 {Q1 Q2 Q3 : Int32 → HS → Prop} {v0 : Nat} {v1 : Int32} {v2 : Int32} {S : HS} (h1 : P_X11_road_0 Q1 v0 v1 v2 S) (h2 : P_X11_road_0 Q2 v0 v1 v2 S) (hq : ∀ (r : Int32) (T : HS), Q1 r T → Q2 r T → Q3 r T) : P_X11_road_0 Q3 v0 v1 v2 S := by
  delta P_X11_road_0 at h1 h2 ⊢
  obtain ⟨c1, h1⟩ := h1
  obtain ⟨_, h2⟩ := h2
  refine ⟨c1, ?_⟩
  intro x3 e2
  have h1 := h1 x3 e2
  have h2 := h2 x3 e2
  refine cm_X11_isRoad h1 h2 (fun x4 x5 h1 h2 g6 g7 => ?_)
  have h1 := h1 g6 g7
  have h2 := h2 g6 g7
  refine ⟨?_, ?_⟩
  · intro c8
    have h1 := h1.1 c8
    have h2 := h2.1 c8
    exact cm_X11_road_22 h1 h2 hq
  · intro c9
    have h1 := h1.2 c9
    have h2 := h2.2 c9
    refine cm_X11_in h1 h2 (fun x10 x11 h1 h2 g12 g13 => ?_)
    have h1 := h1 g12 g13
    have h2 := h2 g12 g13
    refine ⟨?_, ?_⟩
    · intro c14
      have h1 := h1.1 c14
      have h2 := h2.1 c14
      refine ⟨?_, ?_, ?_, ?_, ?_⟩
      · intro c15
        have h1 := h1.1 c15
        have h2 := h2.1 c15
        obtain ⟨b16, e17, h1⟩ := h1
        obtain ⟨b18, e19, h2⟩ := h2
        cases e17.symm.trans e19
        refine ⟨b16, e17, ?_⟩
        obtain ⟨c20, h1⟩ := h1
        obtain ⟨_, h2⟩ := h2
        refine ⟨c20, ?_⟩
        obtain ⟨b21, e22, h1⟩ := h1
        obtain ⟨b23, e24, h2⟩ := h2
        cases e22.symm.trans e24
        refine ⟨b21, e22, ?_⟩
        obtain ⟨c25, h1⟩ := h1
        obtain ⟨_, h2⟩ := h2
        refine ⟨c25, ?_⟩
        obtain ⟨c26, h1⟩ := h1
        obtain ⟨_, h2⟩ := h2
        refine ⟨c26, ?_⟩
        intro x28 e27
        have h1 := h1 x28 e27
        have h2 := h2 x28 e27
        refine cm_X11_good h1 h2 (fun x29 x30 h1 h2 g31 => ?_)
        have h1 := h1 g31
        have h2 := h2 g31
        exact hq _ _ h1 h2
      · intro c32
        have h1 := h1.2.1 c32
        have h2 := h2.2.1 c32
        obtain ⟨b33, e34, h1⟩ := h1
        obtain ⟨b35, e36, h2⟩ := h2
        cases e34.symm.trans e36
        refine ⟨b33, e34, ?_⟩
        obtain ⟨c37, h1⟩ := h1
        obtain ⟨_, h2⟩ := h2
        refine ⟨c37, ?_⟩
        obtain ⟨b38, e39, h1⟩ := h1
        obtain ⟨b40, e41, h2⟩ := h2
        cases e39.symm.trans e41
        refine ⟨b38, e39, ?_⟩
        obtain ⟨c42, h1⟩ := h1
        obtain ⟨_, h2⟩ := h2
        refine ⟨c42, ?_⟩
        obtain ⟨c43, h1⟩ := h1
        obtain ⟨_, h2⟩ := h2
        refine ⟨c43, ?_⟩
        intro x45 e44
        have h1 := h1 x45 e44
        have h2 := h2 x45 e44
        refine cm_X11_good h1 h2 (fun x46 x47 h1 h2 g48 => ?_)
        have h1 := h1 g48
        have h2 := h2 g48
        exact hq _ _ h1 h2
      · intro c49
        have h1 := h1.2.2.1 c49
        have h2 := h2.2.2.1 c49
        obtain ⟨b50, e51, h1⟩ := h1
        obtain ⟨b52, e53, h2⟩ := h2
        cases e51.symm.trans e53
        refine ⟨b50, e51, ?_⟩
        obtain ⟨c54, h1⟩ := h1
        obtain ⟨_, h2⟩ := h2
        refine ⟨c54, ?_⟩
        obtain ⟨b55, e56, h1⟩ := h1
        obtain ⟨b57, e58, h2⟩ := h2
        cases e56.symm.trans e58
        refine ⟨b55, e56, ?_⟩
        obtain ⟨c59, h1⟩ := h1
        obtain ⟨_, h2⟩ := h2
        refine ⟨c59, ?_⟩
        obtain ⟨c60, h1⟩ := h1
        obtain ⟨_, h2⟩ := h2
        refine ⟨c60, ?_⟩
        intro x62 e61
        have h1 := h1 x62 e61
        have h2 := h2 x62 e61
        refine cm_X11_good h1 h2 (fun x63 x64 h1 h2 g65 => ?_)
        have h1 := h1 g65
        have h2 := h2 g65
        exact hq _ _ h1 h2
      · intro c66
        have h1 := h1.2.2.2.1 c66
        have h2 := h2.2.2.2.1 c66
        obtain ⟨b67, e68, h1⟩ := h1
        obtain ⟨b69, e70, h2⟩ := h2
        cases e68.symm.trans e70
        refine ⟨b67, e68, ?_⟩
        obtain ⟨c71, h1⟩ := h1
        obtain ⟨_, h2⟩ := h2
        refine ⟨c71, ?_⟩
        obtain ⟨b72, e73, h1⟩ := h1
        obtain ⟨b74, e75, h2⟩ := h2
        cases e73.symm.trans e75
        refine ⟨b72, e73, ?_⟩
        obtain ⟨c76, h1⟩ := h1
        obtain ⟨_, h2⟩ := h2
        refine ⟨c76, ?_⟩
        obtain ⟨c77, h1⟩ := h1
        obtain ⟨_, h2⟩ := h2
        refine ⟨c77, ?_⟩
        intro x79 e78
        have h1 := h1 x79 e78
        have h2 := h2 x79 e78
        refine cm_X11_good h1 h2 (fun x80 x81 h1 h2 g82 => ?_)
        have h1 := h1 g82
        have h2 := h2 g82
        exact hq _ _ h1 h2
      · intro c83
        have h1 := h1.2.2.2.2 c83
        have h2 := h2.2.2.2.2 c83
        obtain ⟨b84, e85, h1⟩ := h1
        obtain ⟨b86, e87, h2⟩ := h2
        cases e85.symm.trans e87
        refine ⟨b84, e85, ?_⟩
        obtain ⟨c88, h1⟩ := h1
        obtain ⟨_, h2⟩ := h2
        refine ⟨c88, ?_⟩
        obtain ⟨b89, e90, h1⟩ := h1
        obtain ⟨b91, e92, h2⟩ := h2
        cases e90.symm.trans e92
        refine ⟨b89, e90, ?_⟩
        obtain ⟨c93, h1⟩ := h1
        obtain ⟨_, h2⟩ := h2
        refine ⟨c93, ?_⟩
        obtain ⟨c94, h1⟩ := h1
        obtain ⟨_, h2⟩ := h2
        refine ⟨c94, ?_⟩
        intro x96 e95
        have h1 := h1 x96 e95
        have h2 := h2 x96 e95
        refine cm_X11_good h1 h2 (fun x97 x98 h1 h2 g99 => ?_)
        have h1 := h1 g99
        have h2 := h2 g99
        exact hq _ _ h1 h2
    · intro c100
      have h1 := h1.2 c100
      have h2 := h2.2 c100
      exact cm_X11_road_22 h1 h2 hq
theorem cm_X11_road {Q1 Q2 Q3 : Int32 → HS → Prop} {v0 : Nat} {v1 : Int32} {v2 : Int32} {S : HS} (h1 : P_X11_road v0 v1 v2 Q1 S) (h2 : P_X11_road v0 v1 v2 Q2 S) (hq : ∀ (r : Int32) (T : HS), Q1 r T → Q2 r T → Q3 r T) : P_X11_road v0 v1 v2 Q3 S := cm_X11_road_0 h1 h2 hq
set_option maxRecDepth 20000 in
set_option maxHeartbeats 1000000 in
theorem cm_X11_round_29 {Q1 Q2 Q3 : Int64 → HS → Prop} {v0 : Nat} {S : HS} (h1 : P_X11_round_29 Q1 v0 S) (h2 : P_X11_round_29 Q2 v0 S) (hq : ∀ (r : Int64) (T : HS), Q1 r T → Q2 r T → Q3 r T) : P_X11_round_29 Q3 v0 S := by
  delta P_X11_round_29 at h1 h2 ⊢
  obtain ⟨c1, h1⟩ := h1
  obtain ⟨_, h2⟩ := h2
  refine ⟨c1, ?_⟩
  refine cm_X11_refused h1 h2 (fun x2 x3 h1 h2 g4 => ?_)
  have h1 := h1 g4
  have h2 := h2 g4
  exact hq _ _ h1 h2
set_option maxRecDepth 20000 in
set_option maxHeartbeats 1000000 in
theorem cm_X11_round_0 {Q1 Q2 Q3 : Int64 → HS → Prop} {v0 : Nat} {v1 : Int32} {v2 : Int32} {v3 : Int32} {v4 : Int32} {S : HS} (h1 : P_X11_round_0 Q1 v0 v1 v2 v3 v4 S) (h2 : P_X11_round_0 Q2 v0 v1 v2 v3 v4 S) (hq : ∀ (r : Int64) (T : HS), Q1 r T → Q2 r T → Q3 r T) : P_X11_round_0 Q3 v0 v1 v2 v3 v4 S := by
  delta P_X11_round_0 at h1 h2 ⊢
  obtain ⟨c1, h1⟩ := h1
  obtain ⟨_, h2⟩ := h2
  refine ⟨c1, ?_⟩
  intro x3 e2
  have h1 := h1 x3 e2
  have h2 := h2 x3 e2
  refine cm_X11_isWalker h1 h2 (fun x4 x5 h1 h2 g6 g7 => ?_)
  have h1 := h1 g6 g7
  have h2 := h2 g6 g7
  refine ⟨?_, ?_⟩
  · intro c8
    have h1 := h1.1 c8
    have h2 := h2.1 c8
    exact cm_X11_round_29 h1 h2 hq
  · intro c9
    have h1 := h1.2 c9
    have h2 := h2.2 c9
    refine cm_X11_isRoad h1 h2 (fun x10 x11 h1 h2 g12 g13 => ?_)
    have h1 := h1 g12 g13
    have h2 := h2 g12 g13
    refine ⟨?_, ?_⟩
    · intro c14
      have h1 := h1.1 c14
      have h2 := h2.1 c14
      exact cm_X11_round_29 h1 h2 hq
    · intro c15
      have h1 := h1.2 c15
      have h2 := h2.2 c15
      refine cm_X11_isHour h1 h2 (fun x16 x17 h1 h2 g18 g19 => ?_)
      have h1 := h1 g18 g19
      have h2 := h2 g18 g19
      refine ⟨?_, ?_⟩
      · intro c20
        have h1 := h1.1 c20
        have h2 := h2.1 c20
        refine cm_X11_wetAtBest h1 h2 (fun x21 x22 h1 h2 g23 => ?_)
        have h1 := h1 g23
        have h2 := h2 g23
        refine cm_X11_wetAtBest h1 h2 (fun x24 x25 h1 h2 g26 => ?_)
        have h1 := h1 g26
        have h2 := h2 g26
        refine cm_X11_told h1 h2 (fun x27 x28 h1 h2 g29 => ?_)
        have h1 := h1 g29
        have h2 := h2 g29
        exact hq _ _ h1 h2
      · intro c30
        have h1 := h1.2 c30
        have h2 := h2.2 c30
        exact cm_X11_round_29 h1 h2 hq
theorem cm_X11_round {Q1 Q2 Q3 : Int64 → HS → Prop} {v0 : Nat} {v1 : Int32} {v2 : Int32} {v3 : Int32} {v4 : Int32} {S : HS} (h1 : P_X11_round v0 v1 v2 v3 v4 Q1 S) (h2 : P_X11_round v0 v1 v2 v3 v4 Q2 S) (hq : ∀ (r : Int64) (T : HS), Q1 r T → Q2 r T → Q3 r T) : P_X11_round v0 v1 v2 v3 v4 Q3 S := cm_X11_round_0 h1 h2 hq
set_option maxRecDepth 20000 in
set_option maxHeartbeats 1000000 in
theorem cm_X11_saves_39 {Q1 Q2 Q3 : Int64 → HS → Prop} {v0 : Nat} {S : HS} (h1 : P_X11_saves_39 Q1 v0 S) (h2 : P_X11_saves_39 Q2 v0 S) (hq : ∀ (r : Int64) (T : HS), Q1 r T → Q2 r T → Q3 r T) : P_X11_saves_39 Q3 v0 S := by
  delta P_X11_saves_39 at h1 h2 ⊢
  obtain ⟨c1, h1⟩ := h1
  obtain ⟨_, h2⟩ := h2
  refine ⟨c1, ?_⟩
  refine cm_X11_refused h1 h2 (fun x2 x3 h1 h2 g4 => ?_)
  have h1 := h1 g4
  have h2 := h2 g4
  exact hq _ _ h1 h2
set_option maxRecDepth 20000 in
set_option maxHeartbeats 1000000 in
theorem cm_X11_saves_0 {Q1 Q2 Q3 : Int64 → HS → Prop} {v0 : Nat} {v1 : Int32} {v2 : Int32} {v3 : Int32} {v4 : Int32} {v5 : Int32} {S : HS} (h1 : P_X11_saves_0 Q1 v0 v1 v2 v3 v4 v5 S) (h2 : P_X11_saves_0 Q2 v0 v1 v2 v3 v4 v5 S) (hq : ∀ (r : Int64) (T : HS), Q1 r T → Q2 r T → Q3 r T) : P_X11_saves_0 Q3 v0 v1 v2 v3 v4 v5 S := by
  delta P_X11_saves_0 at h1 h2 ⊢
  obtain ⟨c1, h1⟩ := h1
  obtain ⟨_, h2⟩ := h2
  refine ⟨c1, ?_⟩
  intro x3 e2
  have h1 := h1 x3 e2
  have h2 := h2 x3 e2
  refine cm_X11_isWalker h1 h2 (fun x4 x5 h1 h2 g6 g7 => ?_)
  have h1 := h1 g6 g7
  have h2 := h2 g6 g7
  refine ⟨?_, ?_⟩
  · intro c8
    have h1 := h1.1 c8
    have h2 := h2.1 c8
    exact cm_X11_saves_39 h1 h2 hq
  · intro c9
    have h1 := h1.2 c9
    have h2 := h2.2 c9
    refine cm_X11_isRoad h1 h2 (fun x10 x11 h1 h2 g12 g13 => ?_)
    have h1 := h1 g12 g13
    have h2 := h2 g12 g13
    refine ⟨?_, ?_⟩
    · intro c14
      have h1 := h1.1 c14
      have h2 := h2.1 c14
      exact cm_X11_saves_39 h1 h2 hq
    · intro c15
      have h1 := h1.2 c15
      have h2 := h2.2 c15
      refine cm_X11_in h1 h2 (fun x16 x17 h1 h2 g18 g19 => ?_)
      have h1 := h1 g18 g19
      have h2 := h2 g18 g19
      refine ⟨?_, ?_⟩
      · intro c20
        have h1 := h1.1 c20
        have h2 := h2.1 c20
        exact cm_X11_saves_39 h1 h2 hq
      · intro c21
        have h1 := h1.2 c21
        have h2 := h2.2 c21
        refine cm_X11_isHour h1 h2 (fun x22 x23 h1 h2 g24 g25 => ?_)
        have h1 := h1 g24 g25
        have h2 := h2 g24 g25
        refine ⟨?_, ?_⟩
        · intro c26
          have h1 := h1.1 c26
          have h2 := h2.1 c26
          obtain ⟨b27, e28, h1⟩ := h1
          obtain ⟨b29, e30, h2⟩ := h2
          cases e28.symm.trans e30
          refine ⟨b27, e28, ?_⟩
          obtain ⟨c31, h1⟩ := h1
          obtain ⟨_, h2⟩ := h2
          refine ⟨c31, ?_⟩
          obtain ⟨b32, e33, h1⟩ := h1
          obtain ⟨b34, e35, h2⟩ := h2
          cases e33.symm.trans e35
          refine ⟨b32, e33, ?_⟩
          obtain ⟨c36, h1⟩ := h1
          obtain ⟨_, h2⟩ := h2
          refine ⟨c36, ?_⟩
          obtain ⟨c37, h1⟩ := h1
          obtain ⟨_, h2⟩ := h2
          refine ⟨c37, ?_⟩
          intro x39 e38
          have h1 := h1 x39 e38
          have h2 := h2 x39 e38
          refine cm_X11_wetOf h1 h2 (fun x40 x41 h1 h2 g42 => ?_)
          have h1 := h1 g42
          have h2 := h2 g42
          refine cm_X11_bestOf h1 h2 (fun x43 x44 h1 h2 g45 => ?_)
          have h1 := h1 g45
          have h2 := h2 g45
          refine cm_X11_wetOf h1 h2 (fun x46 x47 h1 h2 g48 => ?_)
          have h1 := h1 g48
          have h2 := h2 g48
          refine cm_X11_told h1 h2 (fun x49 x50 h1 h2 g51 => ?_)
          have h1 := h1 g51
          have h2 := h2 g51
          exact hq _ _ h1 h2
        · intro c52
          have h1 := h1.2 c52
          have h2 := h2.2 c52
          exact cm_X11_saves_39 h1 h2 hq
theorem cm_X11_saves {Q1 Q2 Q3 : Int64 → HS → Prop} {v0 : Nat} {v1 : Int32} {v2 : Int32} {v3 : Int32} {v4 : Int32} {v5 : Int32} {S : HS} (h1 : P_X11_saves v0 v1 v2 v3 v4 v5 Q1 S) (h2 : P_X11_saves v0 v1 v2 v3 v4 v5 Q2 S) (hq : ∀ (r : Int64) (T : HS), Q1 r T → Q2 r T → Q3 r T) : P_X11_saves v0 v1 v2 v3 v4 v5 Q3 S := cm_X11_saves_0 h1 h2 hq
set_option maxRecDepth 20000 in
set_option maxHeartbeats 1000000 in
theorem cm_X11_size_0 {Q1 Q2 Q3 : Int32 → HS → Prop} {v0 : Nat} {v1 : Int32} {S : HS} (h1 : P_X11_size_0 Q1 v0 v1 S) (h2 : P_X11_size_0 Q2 v0 v1 S) (hq : ∀ (r : Int32) (T : HS), Q1 r T → Q2 r T → Q3 r T) : P_X11_size_0 Q3 v0 v1 S := by
  delta P_X11_size_0 at h1 h2 ⊢
  obtain ⟨c1, h1⟩ := h1
  obtain ⟨_, h2⟩ := h2
  refine ⟨c1, ?_⟩
  intro x3 e2
  have h1 := h1 x3 e2
  have h2 := h2 x3 e2
  refine ⟨?_, ?_⟩
  · intro c4
    have h1 := h1.1 c4
    have h2 := h2.1 c4
    refine cm_X11_in h1 h2 (fun x5 x6 h1 h2 g7 g8 => ?_)
    have h1 := h1 g7 g8
    have h2 := h2 g7 g8
    refine ⟨?_, ?_⟩
    · intro c9
      have h1 := h1.1 c9
      have h2 := h2.1 c9
      refine ⟨?_, ?_⟩
      · intro c10
        have h1 := h1.1 c10
        have h2 := h2.1 c10
        exact hq _ _ h1 h2
      · intro x11 c12
        have h1 := h1.2 x11 c12
        have h2 := h2.2 x11 c12
        refine ⟨?_, ?_, ?_, ?_, ?_, ?_, ?_, ?_, ?_, ?_, ?_⟩
        · intro c13
          have h1 := h1.1 c13
          have h2 := h2.1 c13
          intro x15 e14
          have h1 := h1 x15 e14
          have h2 := h2 x15 e14
          exact hq _ _ h1 h2
        · intro c16
          have h1 := h1.2.1 c16
          have h2 := h2.2.1 c16
          obtain ⟨b17, e18, h1⟩ := h1
          obtain ⟨b19, e20, h2⟩ := h2
          cases e18.symm.trans e20
          refine ⟨b17, e18, ?_⟩
          obtain ⟨c21, h1⟩ := h1
          obtain ⟨_, h2⟩ := h2
          refine ⟨c21, ?_⟩
          intro x23 e22
          have h1 := h1 x23 e22
          have h2 := h2 x23 e22
          exact hq _ _ h1 h2
        · intro c24
          have h1 := h1.2.2.1 c24
          have h2 := h2.2.2.1 c24
          obtain ⟨b25, e26, h1⟩ := h1
          obtain ⟨b27, e28, h2⟩ := h2
          cases e26.symm.trans e28
          refine ⟨b25, e26, ?_⟩
          obtain ⟨c29, h1⟩ := h1
          obtain ⟨_, h2⟩ := h2
          refine ⟨c29, ?_⟩
          intro x31 e30
          have h1 := h1 x31 e30
          have h2 := h2 x31 e30
          exact hq _ _ h1 h2
        · intro c32
          have h1 := h1.2.2.2.1 c32
          have h2 := h2.2.2.2.1 c32
          obtain ⟨b33, e34, h1⟩ := h1
          obtain ⟨b35, e36, h2⟩ := h2
          cases e34.symm.trans e36
          refine ⟨b33, e34, ?_⟩
          obtain ⟨c37, h1⟩ := h1
          obtain ⟨_, h2⟩ := h2
          refine ⟨c37, ?_⟩
          intro x39 e38
          have h1 := h1 x39 e38
          have h2 := h2 x39 e38
          exact hq _ _ h1 h2
        · intro c40
          have h1 := h1.2.2.2.2.1 c40
          have h2 := h2.2.2.2.2.1 c40
          obtain ⟨b41, e42, h1⟩ := h1
          obtain ⟨b43, e44, h2⟩ := h2
          cases e42.symm.trans e44
          refine ⟨b41, e42, ?_⟩
          obtain ⟨c45, h1⟩ := h1
          obtain ⟨_, h2⟩ := h2
          refine ⟨c45, ?_⟩
          intro x47 e46
          have h1 := h1 x47 e46
          have h2 := h2 x47 e46
          exact hq _ _ h1 h2
        · intro c48
          have h1 := h1.2.2.2.2.2.1 c48
          have h2 := h2.2.2.2.2.2.1 c48
          obtain ⟨b49, e50, h1⟩ := h1
          obtain ⟨b51, e52, h2⟩ := h2
          cases e50.symm.trans e52
          refine ⟨b49, e50, ?_⟩
          obtain ⟨c53, h1⟩ := h1
          obtain ⟨_, h2⟩ := h2
          refine ⟨c53, ?_⟩
          intro x55 e54
          have h1 := h1 x55 e54
          have h2 := h2 x55 e54
          exact hq _ _ h1 h2
        · intro c56
          have h1 := h1.2.2.2.2.2.2.1 c56
          have h2 := h2.2.2.2.2.2.2.1 c56
          obtain ⟨b57, e58, h1⟩ := h1
          obtain ⟨b59, e60, h2⟩ := h2
          cases e58.symm.trans e60
          refine ⟨b57, e58, ?_⟩
          obtain ⟨c61, h1⟩ := h1
          obtain ⟨_, h2⟩ := h2
          refine ⟨c61, ?_⟩
          intro x63 e62
          have h1 := h1 x63 e62
          have h2 := h2 x63 e62
          exact hq _ _ h1 h2
        · intro c64
          have h1 := h1.2.2.2.2.2.2.2.1 c64
          have h2 := h2.2.2.2.2.2.2.2.1 c64
          intro x66 e65
          have h1 := h1 x66 e65
          have h2 := h2 x66 e65
          exact hq _ _ h1 h2
        · intro c67
          have h1 := h1.2.2.2.2.2.2.2.2.1 c67
          have h2 := h2.2.2.2.2.2.2.2.2.1 c67
          refine cm_X11_isDay h1 h2 (fun x68 x69 h1 h2 g70 g71 => ?_)
          have h1 := h1 g70 g71
          have h2 := h2 g70 g71
          refine ⟨?_, ?_⟩
          · intro c72
            have h1 := h1.1 c72
            have h2 := h2.1 c72
            exact hq _ _ h1 h2
          · intro c73
            have h1 := h1.2 c73
            have h2 := h2.2 c73
            obtain ⟨b74, e75, h1⟩ := h1
            obtain ⟨b76, e77, h2⟩ := h2
            cases e75.symm.trans e77
            refine ⟨b74, e75, ?_⟩
            obtain ⟨c78, h1⟩ := h1
            obtain ⟨_, h2⟩ := h2
            refine ⟨c78, ?_⟩
            obtain ⟨c79, h1⟩ := h1
            obtain ⟨_, h2⟩ := h2
            refine ⟨c79, ?_⟩
            intro x81 e80
            have h1 := h1 x81 e80
            have h2 := h2 x81 e80
            exact hq _ _ h1 h2
        · intro c82
          have h1 := h1.2.2.2.2.2.2.2.2.2.1 c82
          have h2 := h2.2.2.2.2.2.2.2.2.2.1 c82
          refine cm_X11_isDay h1 h2 (fun x83 x84 h1 h2 g85 g86 => ?_)
          have h1 := h1 g85 g86
          have h2 := h2 g85 g86
          refine ⟨?_, ?_⟩
          · intro c87
            have h1 := h1.1 c87
            have h2 := h2.1 c87
            exact hq _ _ h1 h2
          · intro c88
            have h1 := h1.2 c88
            have h2 := h2.2 c88
            obtain ⟨b89, e90, h1⟩ := h1
            obtain ⟨b91, e92, h2⟩ := h2
            cases e90.symm.trans e92
            refine ⟨b89, e90, ?_⟩
            obtain ⟨c93, h1⟩ := h1
            obtain ⟨_, h2⟩ := h2
            refine ⟨c93, ?_⟩
            obtain ⟨c94, h1⟩ := h1
            obtain ⟨_, h2⟩ := h2
            refine ⟨c94, ?_⟩
            intro x96 e95
            have h1 := h1 x96 e95
            have h2 := h2 x96 e95
            exact hq _ _ h1 h2
        · intro c97
          have h1 := h1.2.2.2.2.2.2.2.2.2.2 c97
          have h2 := h2.2.2.2.2.2.2.2.2.2.2 c97
          intro x99 e98
          have h1 := h1 x99 e98
          have h2 := h2 x99 e98
          exact hq _ _ h1 h2
    · intro c100
      have h1 := h1.2 c100
      have h2 := h2.2 c100
      exact hq _ _ h1 h2
  · intro c101
    have h1 := h1.2 c101
    have h2 := h2.2 c101
    intro x103 e102
    have h1 := h1 x103 e102
    have h2 := h2 x103 e102
    exact hq _ _ h1 h2
theorem cm_X11_size {Q1 Q2 Q3 : Int32 → HS → Prop} {v0 : Nat} {v1 : Int32} {S : HS} (h1 : P_X11_size v0 v1 Q1 S) (h2 : P_X11_size v0 v1 Q2 S) (hq : ∀ (r : Int32) (T : HS), Q1 r T → Q2 r T → Q3 r T) : P_X11_size v0 v1 Q3 S := cm_X11_size_0 h1 h2 hq
set_option maxRecDepth 20000 in
set_option maxHeartbeats 1000000 in
theorem cm_X11_soaked_57 {Q1 Q2 Q3 : Int32 → HS → Prop} {s0 : Nat} {s1 : Int32} {S : HS} (h1 : P_X11_soaked_57 Q1 s0 s1 S) (h2 : P_X11_soaked_57 Q2 s0 s1 S) (hq : ∀ (r : Int32) (T : HS), Q1 r T → Q2 r T → Q3 r T) : P_X11_soaked_57 Q3 s0 s1 S := by
  delta P_X11_soaked_57 at h1 h2 ⊢
  obtain ⟨c1, h1⟩ := h1
  obtain ⟨_, h2⟩ := h2
  refine ⟨c1, ?_⟩
  refine cm_X11_good h1 h2 (fun x2 x3 h1 h2 g4 => ?_)
  have h1 := h1 g4
  have h2 := h2 g4
  exact hq _ _ h1 h2
set_option maxRecDepth 20000 in
set_option maxHeartbeats 1000000 in
theorem cm_X11_soaked_0 {Q1 Q2 Q3 : Int32 → HS → Prop} {v0 : Nat} {S : HS} (h1 : P_X11_soaked_0 Q1 v0 S) (h2 : P_X11_soaked_0 Q2 v0 S) (hq : ∀ (r : Int32) (T : HS), Q1 r T → Q2 r T → Q3 r T) : P_X11_soaked_0 Q3 v0 S := by
  delta P_X11_soaked_0 at h1 h2 ⊢
  obtain ⟨c1, h1⟩ := h1
  obtain ⟨_, h2⟩ := h2
  refine ⟨c1, ?_⟩
  intro x3 e2
  have h1 := h1 x3 e2
  have h2 := h2 x3 e2
  refine cm_X11_isDay h1 h2 (fun x4 x5 h1 h2 g6 g7 => ?_)
  have h1 := h1 g6 g7
  have h2 := h2 g6 g7
  refine ⟨?_, ?_⟩
  · intro c8
    have h1 := h1.1 c8
    have h2 := h2.1 c8
    obtain ⟨b9, e10, h1⟩ := h1
    obtain ⟨b11, e12, h2⟩ := h2
    cases e10.symm.trans e12
    refine ⟨b9, e10, ?_⟩
    obtain ⟨c13, h1⟩ := h1
    obtain ⟨_, h2⟩ := h2
    refine ⟨c13, ?_⟩
    obtain ⟨b14, e15, h1⟩ := h1
    obtain ⟨b16, e17, h2⟩ := h2
    cases e15.symm.trans e17
    refine ⟨b14, e15, ?_⟩
    intro x19 e18
    have h1 := h1 x19 e18
    have h2 := h2 x19 e18
    obtain ⟨c20, h1⟩ := h1
    obtain ⟨_, h2⟩ := h2
    refine ⟨c20, ?_⟩
    obtain ⟨c21, h1⟩ := h1
    obtain ⟨_, h2⟩ := h2
    refine ⟨c21, ?_⟩
    intro x23 e22
    have h1 := h1 x23 e22
    have h2 := h2 x23 e22
    refine ⟨?_, ?_⟩
    · intro c24
      have h1 := h1.1 c24
      have h2 := h2.1 c24
      refine cm_X11_gotInAll h1 h2 (fun x25 x26 h1 h2 g27 => ?_)
      have h1 := h1 g27
      have h2 := h2 g27
      refine cm_X11_holds h1 h2 (fun x28 x29 h1 h2 g30 => ?_)
      have h1 := h1 g30
      have h2 := h2 g30
      refine ⟨?_, ?_⟩
      · intro c31
        have h1 := h1.1 c31
        have h2 := h2.1 c31
        exact cm_X11_soaked_57 h1 h2 hq
      · intro c32
        have h1 := h1.2 c32
        have h2 := h2.2 c32
        exact cm_X11_soaked_57 h1 h2 hq
    · intro c33
      have h1 := h1.2 c33
      have h2 := h2.2 c33
      exact cm_X11_soaked_57 h1 h2 hq
  · intro c34
    have h1 := h1.2 c34
    have h2 := h2.2 c34
    refine cm_X11_refused h1 h2 (fun x35 x36 h1 h2 g37 => ?_)
    have h1 := h1 g37
    have h2 := h2 g37
    exact hq _ _ h1 h2
theorem cm_X11_soaked {Q1 Q2 Q3 : Int32 → HS → Prop} {v0 : Nat} {S : HS} (h1 : P_X11_soaked v0 Q1 S) (h2 : P_X11_soaked v0 Q2 S) (hq : ∀ (r : Int32) (T : HS), Q1 r T → Q2 r T → Q3 r T) : P_X11_soaked v0 Q3 S := cm_X11_soaked_0 h1 h2 hq
set_option maxRecDepth 20000 in
set_option maxHeartbeats 1000000 in
theorem cm_X11_stay_133 {Q1 Q2 Q3 : Int32 → HS → Prop} {X84_1 X84_2 X84_3 : Nat → Int32 → Int32 → Int32 → HS → Prop} {v0 : Nat} {v1 : Int32} {v2 : Int32} {v3 : Int32} {S : HS} (h1 : P_X11_stay_133 Q1 X84_1 v0 v1 v2 v3 S) (h2 : P_X11_stay_133 Q2 X84_2 v0 v1 v2 v3 S) (hq : ∀ (r : Int32) (T : HS), Q1 r T → Q2 r T → Q3 r T) (hX84 : ∀ (u0 : Nat) (u1 : Int32) (u2 : Int32) (u3 : Int32) (u4 : HS), X84_1 u0 u1 u2 u3 u4 → X84_2 u0 u1 u2 u3 u4 → X84_3 u0 u1 u2 u3 u4) : P_X11_stay_133 Q3 X84_3 v0 v1 v2 v3 S := by
  delta P_X11_stay_133 at h1 h2 ⊢
  obtain ⟨c1, h1⟩ := h1
  obtain ⟨_, h2⟩ := h2
  refine ⟨c1, ?_⟩
  obtain ⟨b2, e3, h1⟩ := h1
  obtain ⟨b4, e5, h2⟩ := h2
  cases e3.symm.trans e5
  refine ⟨b2, e3, ?_⟩
  obtain ⟨c6, h1⟩ := h1
  obtain ⟨_, h2⟩ := h2
  refine ⟨c6, ?_⟩
  obtain ⟨c7, h1⟩ := h1
  obtain ⟨_, h2⟩ := h2
  refine ⟨c7, ?_⟩
  intro x9 e8
  have h1 := h1 x9 e8
  have h2 := h2 x9 e8
  intro x11 e10
  have h1 := h1 x11 e10
  have h2 := h2 x11 e10
  obtain ⟨c12, h1⟩ := h1
  obtain ⟨_, h2⟩ := h2
  refine ⟨c12, ?_⟩
  intro x14 e13
  have h1 := h1 x14 e13
  have h2 := h2 x14 e13
  intro x16 e15
  have h1 := h1 x16 e15
  have h2 := h2 x16 e15
  exact hX84 _ _ _ _ _ h1 h2
set_option maxRecDepth 20000 in
set_option maxHeartbeats 1000000 in
theorem cmB_X11_stay_84 {Q1 Q2 Q3 : Int32 → HS → Prop} {X84_1 X84_2 X84_3 : Nat → Int32 → Int32 → Int32 → HS → Prop} {v0 : Nat} {v1 : Int32} {v2 : Int32} {v3 : Int32} {S : HS} (h1 : B_X11_stay_84 Q1 X84_1 v0 v1 v2 v3 S) (h2 : B_X11_stay_84 Q2 X84_2 v0 v1 v2 v3 S) (hq : ∀ (r : Int32) (T : HS), Q1 r T → Q2 r T → Q3 r T) (hX84 : ∀ (u0 : Nat) (u1 : Int32) (u2 : Int32) (u3 : Int32) (u4 : HS), X84_1 u0 u1 u2 u3 u4 → X84_2 u0 u1 u2 u3 u4 → X84_3 u0 u1 u2 u3 u4) : B_X11_stay_84 Q3 X84_3 v0 v1 v2 v3 S := by
  delta B_X11_stay_84 at h1 h2 ⊢
  refine ⟨?_, ?_⟩
  · intro c1
    have h1 := h1.1 c1
    have h2 := h2.1 c1
    obtain ⟨c2, h1⟩ := h1
    obtain ⟨_, h2⟩ := h2
    refine ⟨c2, ?_⟩
    refine cm_X11_granted h1 h2 (fun x3 x4 h1 h2 g5 g6 => ?_)
    have h1 := h1 g5 g6
    have h2 := h2 g5 g6
    obtain ⟨c7, h1⟩ := h1
    obtain ⟨_, h2⟩ := h2
    refine ⟨c7, ?_⟩
    exact hq _ _ h1 h2
  · intro c8
    have h1 := h1.2 c8
    have h2 := h2.2 c8
    obtain ⟨c9, h1⟩ := h1
    obtain ⟨_, h2⟩ := h2
    refine ⟨c9, ?_⟩
    obtain ⟨b10, e11, h1⟩ := h1
    obtain ⟨b12, e13, h2⟩ := h2
    cases e11.symm.trans e13
    refine ⟨b10, e11, ?_⟩
    obtain ⟨c14, h1⟩ := h1
    obtain ⟨_, h2⟩ := h2
    refine ⟨c14, ?_⟩
    obtain ⟨b15, e16, h1⟩ := h1
    obtain ⟨b17, e18, h2⟩ := h2
    cases e16.symm.trans e18
    refine ⟨b15, e16, ?_⟩
    obtain ⟨c19, h1⟩ := h1
    obtain ⟨_, h2⟩ := h2
    refine ⟨c19, ?_⟩
    obtain ⟨c20, h1⟩ := h1
    obtain ⟨_, h2⟩ := h2
    refine ⟨c20, ?_⟩
    intro x22 e21
    have h1 := h1 x22 e21
    have h2 := h2 x22 e21
    refine ⟨?_, ?_⟩
    · intro c23
      have h1 := h1.1 c23
      have h2 := h2.1 c23
      exact cm_X11_stay_133 h1 h2 hq hX84
    · intro c24
      have h1 := h1.2 c24
      have h2 := h2.2 c24
      obtain ⟨b25, e26, h1⟩ := h1
      obtain ⟨b27, e28, h2⟩ := h2
      cases e26.symm.trans e28
      refine ⟨b25, e26, ?_⟩
      obtain ⟨c29, h1⟩ := h1
      obtain ⟨_, h2⟩ := h2
      refine ⟨c29, ?_⟩
      obtain ⟨c30, h1⟩ := h1
      obtain ⟨_, h2⟩ := h2
      refine ⟨c30, ?_⟩
      intro x32 e31
      have h1 := h1 x32 e31
      have h2 := h2 x32 e31
      refine cm_X11_rainsIn h1 h2 (fun x33 x34 h1 h2 g35 g36 => ?_)
      have h1 := h1 g35 g36
      have h2 := h2 g35 g36
      refine ⟨?_, ?_⟩
      · intro c37
        have h1 := h1.1 c37
        have h2 := h2.1 c37
        exact cm_X11_stay_133 h1 h2 hq hX84
      · intro c38
        have h1 := h1.2 c38
        have h2 := h2.2 c38
        obtain ⟨b39, e40, h1⟩ := h1
        obtain ⟨b41, e42, h2⟩ := h2
        cases e40.symm.trans e42
        refine ⟨b39, e40, ?_⟩
        obtain ⟨c43, h1⟩ := h1
        obtain ⟨_, h2⟩ := h2
        refine ⟨c43, ?_⟩
        obtain ⟨c44, h1⟩ := h1
        obtain ⟨_, h2⟩ := h2
        refine ⟨c44, ?_⟩
        intro x46 e45
        have h1 := h1 x46 e45
        have h2 := h2 x46 e45
        intro x48 e47
        have h1 := h1 x48 e47
        have h2 := h2 x48 e47
        refine cm_X11_drips h1 h2 (fun x49 x50 h1 h2 g51 => ?_)
        have h1 := h1 g51
        have h2 := h2 g51
        intro x53 e52
        have h1 := h1 x53 e52
        have h2 := h2 x53 e52
        obtain ⟨c54, h1⟩ := h1
        obtain ⟨_, h2⟩ := h2
        refine ⟨c54, ?_⟩
        intro x56 e55
        have h1 := h1 x56 e55
        have h2 := h2 x56 e55
        exact cm_X11_stay_133 h1 h2 hq hX84
theorem fd_X11_stay_84 {Q : Int32 → HS → Prop} {v0 : Nat} {v1 : Int32} {v2 : Int32} {v3 : Int32} {S : HS} (h : B_X11_stay_84 Q (P_X11_stay_84 Q) v0 v1 v2 v3 S) : P_X11_stay_84 Q v0 v1 v2 v3 S := fun X hX => hX v0 v1 v2 v3 S (cmB_X11_stay_84 h h (fun _ _ a _ => a) (fun _ _ _ _ _ hp _ => hp X hX))
theorem uf_X11_stay_84 {Q : Int32 → HS → Prop} {v0 : Nat} {v1 : Int32} {v2 : Int32} {v3 : Int32} {S : HS} (h : P_X11_stay_84 Q v0 v1 v2 v3 S) : B_X11_stay_84 Q (P_X11_stay_84 Q) v0 v1 v2 v3 S := h (fun v0 v1 v2 v3 S => B_X11_stay_84 Q (P_X11_stay_84 Q) v0 v1 v2 v3 S) (fun v0 v1 v2 v3 S hB => cmB_X11_stay_84 hB hB (fun _ _ a _ => a) (fun _ _ _ _ _ hb _ => fd_X11_stay_84 hb))
theorem cm_X11_stay_84 {Q1 Q2 Q3 : Int32 → HS → Prop} {v0 : Nat} {v1 : Int32} {v2 : Int32} {v3 : Int32} {S : HS} (h1 : P_X11_stay_84 Q1 v0 v1 v2 v3 S) (h2 : P_X11_stay_84 Q2 v0 v1 v2 v3 S) (hq : ∀ (r : Int32) (T : HS), Q1 r T → Q2 r T → Q3 r T) : P_X11_stay_84 Q3 v0 v1 v2 v3 S := h1 (fun v0 v1 v2 v3 S => P_X11_stay_84 Q2 v0 v1 v2 v3 S → P_X11_stay_84 Q3 v0 v1 v2 v3 S) (fun v0 v1 v2 v3 S hB hp => fd_X11_stay_84 (cmB_X11_stay_84 hB (uf_X11_stay_84 hp) hq (fun _ _ _ _ _ hx hp => hx hp))) h2
set_option maxRecDepth 20000 in
set_option maxHeartbeats 1000000 in
theorem cm_X11_stay_0 {Q1 Q2 Q3 : Int32 → HS → Prop} {v0 : Nat} {v1 : Int32} {S : HS} (h1 : P_X11_stay_0 Q1 v0 v1 S) (h2 : P_X11_stay_0 Q2 v0 v1 S) (hq : ∀ (r : Int32) (T : HS), Q1 r T → Q2 r T → Q3 r T) : P_X11_stay_0 Q3 v0 v1 S := by
  delta P_X11_stay_0 at h1 h2 ⊢
  obtain ⟨c1, h1⟩ := h1
  obtain ⟨_, h2⟩ := h2
  refine ⟨c1, ?_⟩
  intro x3 e2
  have h1 := h1 x3 e2
  have h2 := h2 x3 e2
  refine cm_X11_isDay h1 h2 (fun x4 x5 h1 h2 g6 g7 => ?_)
  have h1 := h1 g6 g7
  have h2 := h2 g6 g7
  refine ⟨?_, ?_⟩
  · intro c8
    have h1 := h1.1 c8
    have h2 := h2.1 c8
    refine cm_X11_in h1 h2 (fun x9 x10 h1 h2 g11 g12 => ?_)
    have h1 := h1 g11 g12
    have h2 := h2 g11 g12
    refine ⟨?_, ?_⟩
    · intro c13
      have h1 := h1.1 c13
      have h2 := h2.1 c13
      obtain ⟨b14, e15, h1⟩ := h1
      obtain ⟨b16, e17, h2⟩ := h2
      cases e15.symm.trans e17
      refine ⟨b14, e15, ?_⟩
      obtain ⟨c18, h1⟩ := h1
      obtain ⟨_, h2⟩ := h2
      refine ⟨c18, ?_⟩
      obtain ⟨c19, h1⟩ := h1
      obtain ⟨_, h2⟩ := h2
      refine ⟨c19, ?_⟩
      intro x21 e20
      have h1 := h1 x21 e20
      have h2 := h2 x21 e20
      intro x23 e22
      have h1 := h1 x23 e22
      have h2 := h2 x23 e22
      refine cm_X11_canWait h1 h2 (fun x24 x25 h1 h2 g26 g27 => ?_)
      have h1 := h1 g26 g27
      have h2 := h2 g26 g27
      refine ⟨?_, ?_⟩
      · intro c28
        have h1 := h1.1 c28
        have h2 := h2.1 c28
        obtain ⟨b29, e30, h1⟩ := h1
        obtain ⟨b31, e32, h2⟩ := h2
        cases e30.symm.trans e32
        refine ⟨b29, e30, ?_⟩
        obtain ⟨c33, h1⟩ := h1
        obtain ⟨_, h2⟩ := h2
        refine ⟨c33, ?_⟩
        obtain ⟨c34, h1⟩ := h1
        obtain ⟨_, h2⟩ := h2
        refine ⟨c34, ?_⟩
        intro x36 e35
        have h1 := h1 x36 e35
        have h2 := h2 x36 e35
        refine ⟨?_, ?_⟩
        · intro c37
          have h1 := h1.1 c37
          have h2 := h2.1 c37
          refine cm_X11_keeps h1 h2 (fun x38 h1 h2 g39 => ?_)
          have h1 := h1 g39
          have h2 := h2 g39
          exact cm_X11_stay_84 h1 h2 hq
        · intro c40
          have h1 := h1.2 c40
          have h2 := h2.2 c40
          refine cm_X11_denied h1 h2 (fun x41 x42 h1 h2 g43 g44 => ?_)
          have h1 := h1 g43 g44
          have h2 := h2 g43 g44
          obtain ⟨c45, h1⟩ := h1
          obtain ⟨_, h2⟩ := h2
          refine ⟨c45, ?_⟩
          exact hq _ _ h1 h2
      · intro c46
        have h1 := h1.2 c46
        have h2 := h2.2 c46
        refine cm_X11_denied h1 h2 (fun x47 x48 h1 h2 g49 g50 => ?_)
        have h1 := h1 g49 g50
        have h2 := h2 g49 g50
        obtain ⟨c51, h1⟩ := h1
        obtain ⟨_, h2⟩ := h2
        refine ⟨c51, ?_⟩
        exact hq _ _ h1 h2
    · intro c52
      have h1 := h1.2 c52
      have h2 := h2.2 c52
      refine cm_X11_denied h1 h2 (fun x53 x54 h1 h2 g55 g56 => ?_)
      have h1 := h1 g55 g56
      have h2 := h2 g55 g56
      obtain ⟨c57, h1⟩ := h1
      obtain ⟨_, h2⟩ := h2
      refine ⟨c57, ?_⟩
      exact hq _ _ h1 h2
  · intro c58
    have h1 := h1.2 c58
    have h2 := h2.2 c58
    refine cm_X11_denied h1 h2 (fun x59 x60 h1 h2 g61 g62 => ?_)
    have h1 := h1 g61 g62
    have h2 := h2 g61 g62
    obtain ⟨c63, h1⟩ := h1
    obtain ⟨_, h2⟩ := h2
    refine ⟨c63, ?_⟩
    exact hq _ _ h1 h2
theorem cm_X11_stay {Q1 Q2 Q3 : Int32 → HS → Prop} {v0 : Nat} {v1 : Int32} {S : HS} (h1 : P_X11_stay v0 v1 Q1 S) (h2 : P_X11_stay v0 v1 Q2 S) (hq : ∀ (r : Int32) (T : HS), Q1 r T → Q2 r T → Q3 r T) : P_X11_stay v0 v1 Q3 S := cm_X11_stay_0 h1 h2 hq
set_option maxRecDepth 20000 in
set_option maxHeartbeats 1000000 in
theorem cm_X11_stepOf_117 {Q1 Q2 Q3 : Int32 → HS → Prop} {X9_1 X9_2 X9_3 : Nat → Int32 → Int32 → Int32 → Int32 → HS → Prop} {v0 : Nat} {v4 : Int32} {v6 : Int32} {v7 : Int32} {s0 : Int32} {S : HS} (h1 : P_X11_stepOf_117 Q1 X9_1 v0 v4 v6 v7 s0 S) (h2 : P_X11_stepOf_117 Q2 X9_2 v0 v4 v6 v7 s0 S) (hq : ∀ (r : Int32) (T : HS), Q1 r T → Q2 r T → Q3 r T) (hX9 : ∀ (u0 : Nat) (u1 : Int32) (u2 : Int32) (u3 : Int32) (u4 : Int32) (u5 : HS), X9_1 u0 u1 u2 u3 u4 u5 → X9_2 u0 u1 u2 u3 u4 u5 → X9_3 u0 u1 u2 u3 u4 u5) : P_X11_stepOf_117 Q3 X9_3 v0 v4 v6 v7 s0 S := by
  delta P_X11_stepOf_117 at h1 h2 ⊢
  exact hX9 _ _ _ _ _ _ h1 h2
set_option maxRecDepth 20000 in
set_option maxHeartbeats 1000000 in
theorem cm_X11_stepOf_82 {Q1 Q2 Q3 : Int32 → HS → Prop} {X9_1 X9_2 X9_3 : Nat → Int32 → Int32 → Int32 → Int32 → HS → Prop} {v0 : Nat} {v4 : Int32} {v5 : Int32} {v7 : Int32} {v8 : Int32} {s0 : Int32} {s1 : Int32} {S : HS} (h1 : P_X11_stepOf_82 Q1 X9_1 v0 v4 v5 v7 v8 s0 s1 S) (h2 : P_X11_stepOf_82 Q2 X9_2 v0 v4 v5 v7 v8 s0 s1 S) (hq : ∀ (r : Int32) (T : HS), Q1 r T → Q2 r T → Q3 r T) (hX9 : ∀ (u0 : Nat) (u1 : Int32) (u2 : Int32) (u3 : Int32) (u4 : Int32) (u5 : HS), X9_1 u0 u1 u2 u3 u4 u5 → X9_2 u0 u1 u2 u3 u4 u5 → X9_3 u0 u1 u2 u3 u4 u5) : P_X11_stepOf_82 Q3 X9_3 v0 v4 v5 v7 v8 s0 s1 S := by
  delta P_X11_stepOf_82 at h1 h2 ⊢
  intro x2 e1
  have h1 := h1 x2 e1
  have h2 := h2 x2 e1
  refine ⟨?_, ?_⟩
  · intro c3
    have h1 := h1.1 c3
    have h2 := h2.1 c3
    obtain ⟨c4, h1⟩ := h1
    obtain ⟨_, h2⟩ := h2
    refine ⟨c4, ?_⟩
    obtain ⟨b5, e6, h1⟩ := h1
    obtain ⟨b7, e8, h2⟩ := h2
    cases e6.symm.trans e8
    refine ⟨b5, e6, ?_⟩
    intro x10 e9
    have h1 := h1 x10 e9
    have h2 := h2 x10 e9
    intro x12 e11
    have h1 := h1 x12 e11
    have h2 := h2 x12 e11
    intro x14 e13
    have h1 := h1 x14 e13
    have h2 := h2 x14 e13
    obtain ⟨c15, h1⟩ := h1
    obtain ⟨_, h2⟩ := h2
    refine ⟨c15, ?_⟩
    refine cm_X10_ends h1 h2 (fun x16 x17 h1 h2 g18 => ?_)
    have h1 := h1 g18
    have h2 := h2 g18
    exact cm_X11_stepOf_117 h1 h2 hq hX9
  · intro c19
    have h1 := h1.2 c19
    have h2 := h2.2 c19
    exact cm_X11_stepOf_117 h1 h2 hq hX9
set_option maxRecDepth 20000 in
set_option maxHeartbeats 1000000 in
theorem cmB_X11_stepOf_9 {Q1 Q2 Q3 : Int32 → HS → Prop} {X9_1 X9_2 X9_3 : Nat → Int32 → Int32 → Int32 → Int32 → HS → Prop} {v0 : Nat} {v4 : Int32} {v5 : Int32} {v6 : Int32} {v7 : Int32} {S : HS} (h1 : B_X11_stepOf_9 Q1 X9_1 v0 v4 v5 v6 v7 S) (h2 : B_X11_stepOf_9 Q2 X9_2 v0 v4 v5 v6 v7 S) (hq : ∀ (r : Int32) (T : HS), Q1 r T → Q2 r T → Q3 r T) (hX9 : ∀ (u0 : Nat) (u1 : Int32) (u2 : Int32) (u3 : Int32) (u4 : Int32) (u5 : HS), X9_1 u0 u1 u2 u3 u4 u5 → X9_2 u0 u1 u2 u3 u4 u5 → X9_3 u0 u1 u2 u3 u4 u5) : B_X11_stepOf_9 Q3 X9_3 v0 v4 v5 v6 v7 S := by
  delta B_X11_stepOf_9 at h1 h2 ⊢
  obtain ⟨c1, h1⟩ := h1
  obtain ⟨_, h2⟩ := h2
  refine ⟨c1, ?_⟩
  obtain ⟨b2, e3, h1⟩ := h1
  obtain ⟨b4, e5, h2⟩ := h2
  cases e3.symm.trans e5
  refine ⟨b2, e3, ?_⟩
  refine cm_X11_spotOf h1 h2 (fun x6 x7 h1 h2 g8 => ?_)
  have h1 := h1 g8
  have h2 := h2 g8
  obtain ⟨c9, h1⟩ := h1
  obtain ⟨_, h2⟩ := h2
  refine ⟨c9, ?_⟩
  obtain ⟨c10, h1⟩ := h1
  obtain ⟨_, h2⟩ := h2
  refine ⟨c10, ?_⟩
  intro x12 e11
  have h1 := h1 x12 e11
  have h2 := h2 x12 e11
  refine ⟨?_, ?_⟩
  · intro c13
    have h1 := h1.1 c13
    have h2 := h2.1 c13
    refine ⟨?_, ?_⟩
    · intro c14
      have h1 := h1.1 c14
      have h2 := h2.1 c14
      exact hq _ _ h1 h2
    · intro c15
      have h1 := h1.2 c15
      have h2 := h2.2 c15
      exact hq _ _ h1 h2
  · intro c16
    have h1 := h1.2 c16
    have h2 := h2.2 c16
    obtain ⟨b17, e18, h1⟩ := h1
    obtain ⟨b19, e20, h2⟩ := h2
    cases e18.symm.trans e20
    refine ⟨b17, e18, ?_⟩
    refine cm_X11_spotOf h1 h2 (fun x21 x22 h1 h2 g23 => ?_)
    have h1 := h1 g23
    have h2 := h2 g23
    obtain ⟨c24, h1⟩ := h1
    obtain ⟨_, h2⟩ := h2
    refine ⟨c24, ?_⟩
    obtain ⟨c25, h1⟩ := h1
    obtain ⟨_, h2⟩ := h2
    refine ⟨c25, ?_⟩
    intro x27 e26
    have h1 := h1 x27 e26
    have h2 := h2 x27 e26
    refine ⟨?_, ?_⟩
    · intro c28
      have h1 := h1.1 c28
      have h2 := h2.1 c28
      intro x30 e29
      have h1 := h1 x30 e29
      have h2 := h2 x30 e29
      refine ⟨?_, ?_⟩
      · intro c31
        have h1 := h1.1 c31
        have h2 := h2.1 c31
        obtain ⟨b32, e33, h1⟩ := h1
        obtain ⟨b34, e35, h2⟩ := h2
        cases e33.symm.trans e35
        refine ⟨b32, e33, ?_⟩
        intro x37 e36
        have h1 := h1 x37 e36
        have h2 := h2 x37 e36
        intro x39 e38
        have h1 := h1 x39 e38
        have h2 := h2 x39 e38
        obtain ⟨c40, h1⟩ := h1
        obtain ⟨_, h2⟩ := h2
        refine ⟨c40, ?_⟩
        refine cm_X10_minutes h1 h2 (fun x41 x42 h1 h2 g43 => ?_)
        have h1 := h1 g43
        have h2 := h2 g43
        exact cm_X11_stepOf_82 h1 h2 hq hX9
      · intro c44
        have h1 := h1.2 c44
        have h2 := h2.2 c44
        exact cm_X11_stepOf_82 h1 h2 hq hX9
    · intro c45
      have h1 := h1.2 c45
      have h2 := h2.2 c45
      exact hq _ _ h1 h2
theorem fd_X11_stepOf_9 {Q : Int32 → HS → Prop} {v0 : Nat} {v4 : Int32} {v5 : Int32} {v6 : Int32} {v7 : Int32} {S : HS} (h : B_X11_stepOf_9 Q (P_X11_stepOf_9 Q) v0 v4 v5 v6 v7 S) : P_X11_stepOf_9 Q v0 v4 v5 v6 v7 S := fun X hX => hX v0 v4 v5 v6 v7 S (cmB_X11_stepOf_9 h h (fun _ _ a _ => a) (fun _ _ _ _ _ _ hp _ => hp X hX))
theorem uf_X11_stepOf_9 {Q : Int32 → HS → Prop} {v0 : Nat} {v4 : Int32} {v5 : Int32} {v6 : Int32} {v7 : Int32} {S : HS} (h : P_X11_stepOf_9 Q v0 v4 v5 v6 v7 S) : B_X11_stepOf_9 Q (P_X11_stepOf_9 Q) v0 v4 v5 v6 v7 S := h (fun v0 v4 v5 v6 v7 S => B_X11_stepOf_9 Q (P_X11_stepOf_9 Q) v0 v4 v5 v6 v7 S) (fun v0 v4 v5 v6 v7 S hB => cmB_X11_stepOf_9 hB hB (fun _ _ a _ => a) (fun _ _ _ _ _ _ hb _ => fd_X11_stepOf_9 hb))
theorem cm_X11_stepOf_9 {Q1 Q2 Q3 : Int32 → HS → Prop} {v0 : Nat} {v4 : Int32} {v5 : Int32} {v6 : Int32} {v7 : Int32} {S : HS} (h1 : P_X11_stepOf_9 Q1 v0 v4 v5 v6 v7 S) (h2 : P_X11_stepOf_9 Q2 v0 v4 v5 v6 v7 S) (hq : ∀ (r : Int32) (T : HS), Q1 r T → Q2 r T → Q3 r T) : P_X11_stepOf_9 Q3 v0 v4 v5 v6 v7 S := h1 (fun v0 v4 v5 v6 v7 S => P_X11_stepOf_9 Q2 v0 v4 v5 v6 v7 S → P_X11_stepOf_9 Q3 v0 v4 v5 v6 v7 S) (fun v0 v4 v5 v6 v7 S hB hp => fd_X11_stepOf_9 (cmB_X11_stepOf_9 hB (uf_X11_stepOf_9 hp) hq (fun _ _ _ _ _ _ hx hp => hx hp))) h2
set_option maxRecDepth 20000 in
set_option maxHeartbeats 1000000 in
theorem cm_X11_stepOf_0 {Q1 Q2 Q3 : Int32 → HS → Prop} {v0 : Nat} {v2 : Int32} {v3 : Int32} {v4 : Int32} {S : HS} (h1 : P_X11_stepOf_0 Q1 v0 v2 v3 v4 S) (h2 : P_X11_stepOf_0 Q2 v0 v2 v3 v4 S) (hq : ∀ (r : Int32) (T : HS), Q1 r T → Q2 r T → Q3 r T) : P_X11_stepOf_0 Q3 v0 v2 v3 v4 S := by
  delta P_X11_stepOf_0 at h1 h2 ⊢
  exact cm_X11_stepOf_9 h1 h2 hq
theorem cm_X11_stepOf {Q1 Q2 Q3 : Int32 → HS → Prop} {v0 : Nat} {v1 : Int32} {v2 : Int32} {v3 : Int32} {v4 : Int32} {S : HS} (h1 : P_X11_stepOf v0 v1 v2 v3 v4 Q1 S) (h2 : P_X11_stepOf v0 v1 v2 v3 v4 Q2 S) (hq : ∀ (r : Int32) (T : HS), Q1 r T → Q2 r T → Q3 r T) : P_X11_stepOf v0 v1 v2 v3 v4 Q3 S := cm_X11_stepOf_0 h1 h2 hq
set_option maxRecDepth 20000 in
set_option maxHeartbeats 1000000 in
theorem cm_X11_step_49 {Q1 Q2 Q3 : Int32 → HS → Prop} {v0 : Nat} {s0 : Int32} {S : HS} (h1 : P_X11_step_49 Q1 v0 s0 S) (h2 : P_X11_step_49 Q2 v0 s0 S) (hq : ∀ (r : Int32) (T : HS), Q1 r T → Q2 r T → Q3 r T) : P_X11_step_49 Q3 v0 s0 S := by
  delta P_X11_step_49 at h1 h2 ⊢
  refine ⟨?_, ?_⟩
  · intro c1
    have h1 := h1.1 c1
    have h2 := h2.1 c1
    obtain ⟨c2, h1⟩ := h1
    obtain ⟨_, h2⟩ := h2
    refine ⟨c2, ?_⟩
    refine cm_X11_good h1 h2 (fun x3 x4 h1 h2 g5 => ?_)
    have h1 := h1 g5
    have h2 := h2 g5
    exact hq _ _ h1 h2
  · intro c6
    have h1 := h1.2 c6
    have h2 := h2.2 c6
    obtain ⟨c7, h1⟩ := h1
    obtain ⟨_, h2⟩ := h2
    refine ⟨c7, ?_⟩
    refine cm_X11_refused h1 h2 (fun x8 x9 h1 h2 g10 => ?_)
    have h1 := h1 g10
    have h2 := h2 g10
    exact hq _ _ h1 h2
set_option maxRecDepth 20000 in
set_option maxHeartbeats 1000000 in
theorem cm_X11_step_0 {Q1 Q2 Q3 : Int32 → HS → Prop} {v0 : Nat} {v1 : Int32} {v2 : Int32} {v3 : Int32} {v4 : Int32} {v5 : Int32} {v6 : Int32} {S : HS} (h1 : P_X11_step_0 Q1 v0 v1 v2 v3 v4 v5 v6 S) (h2 : P_X11_step_0 Q2 v0 v1 v2 v3 v4 v5 v6 S) (hq : ∀ (r : Int32) (T : HS), Q1 r T → Q2 r T → Q3 r T) : P_X11_step_0 Q3 v0 v1 v2 v3 v4 v5 v6 S := by
  delta P_X11_step_0 at h1 h2 ⊢
  obtain ⟨c1, h1⟩ := h1
  obtain ⟨_, h2⟩ := h2
  refine ⟨c1, ?_⟩
  intro x3 e2
  have h1 := h1 x3 e2
  have h2 := h2 x3 e2
  refine cm_X11_refusesWay h1 h2 (fun x4 x5 h1 h2 g6 => ?_)
  have h1 := h1 g6
  have h2 := h2 g6
  refine ⟨?_, ?_⟩
  · intro c7
    have h1 := h1.1 c7
    have h2 := h2.1 c7
    refine ⟨?_, ?_⟩
    · intro c8
      have h1 := h1.1 c8
      have h2 := h2.1 c8
      refine cm_X11_stepOf h1 h2 (fun x9 x10 h1 h2 g11 => ?_)
      have h1 := h1 g11
      have h2 := h2 g11
      exact cm_X11_step_49 h1 h2 hq
    · intro c12
      have h1 := h1.2 c12
      have h2 := h2.2 c12
      exact cm_X11_step_49 h1 h2 hq
  · intro c13
    have h1 := h1.2 c13
    have h2 := h2.2 c13
    refine cm_X11_refused h1 h2 (fun x14 x15 h1 h2 g16 => ?_)
    have h1 := h1 g16
    have h2 := h2 g16
    exact hq _ _ h1 h2
theorem cm_X11_step {Q1 Q2 Q3 : Int32 → HS → Prop} {v0 : Nat} {v1 : Int32} {v2 : Int32} {v3 : Int32} {v4 : Int32} {v5 : Int32} {v6 : Int32} {S : HS} (h1 : P_X11_step v0 v1 v2 v3 v4 v5 v6 Q1 S) (h2 : P_X11_step v0 v1 v2 v3 v4 v5 v6 Q2 S) (hq : ∀ (r : Int32) (T : HS), Q1 r T → Q2 r T → Q3 r T) : P_X11_step v0 v1 v2 v3 v4 v5 v6 Q3 S := cm_X11_step_0 h1 h2 hq
set_option maxRecDepth 20000 in
set_option maxHeartbeats 1000000 in
theorem cm_X11_steps_0 {Q1 Q2 Q3 : Int32 → HS → Prop} {v0 : Nat} {v1 : Int32} {v2 : Int32} {v3 : Int32} {v4 : Int32} {v5 : Int32} {S : HS} (h1 : P_X11_steps_0 Q1 v0 v1 v2 v3 v4 v5 S) (h2 : P_X11_steps_0 Q2 v0 v1 v2 v3 v4 v5 S) (hq : ∀ (r : Int32) (T : HS), Q1 r T → Q2 r T → Q3 r T) : P_X11_steps_0 Q3 v0 v1 v2 v3 v4 v5 S := by
  delta P_X11_steps_0 at h1 h2 ⊢
  obtain ⟨c1, h1⟩ := h1
  obtain ⟨_, h2⟩ := h2
  refine ⟨c1, ?_⟩
  intro x3 e2
  have h1 := h1 x3 e2
  have h2 := h2 x3 e2
  refine cm_X11_refusesWay h1 h2 (fun x4 x5 h1 h2 g6 => ?_)
  have h1 := h1 g6
  have h2 := h2 g6
  refine ⟨?_, ?_⟩
  · intro c7
    have h1 := h1.1 c7
    have h2 := h2.1 c7
    refine cm_X11_stepOf h1 h2 (fun x8 x9 h1 h2 g10 => ?_)
    have h1 := h1 g10
    have h2 := h2 g10
    refine cm_X11_good h1 h2 (fun x11 x12 h1 h2 g13 => ?_)
    have h1 := h1 g13
    have h2 := h2 g13
    exact hq _ _ h1 h2
  · intro c14
    have h1 := h1.2 c14
    have h2 := h2.2 c14
    refine cm_X11_refused h1 h2 (fun x15 x16 h1 h2 g17 => ?_)
    have h1 := h1 g17
    have h2 := h2 g17
    exact hq _ _ h1 h2
theorem cm_X11_steps {Q1 Q2 Q3 : Int32 → HS → Prop} {v0 : Nat} {v1 : Int32} {v2 : Int32} {v3 : Int32} {v4 : Int32} {v5 : Int32} {S : HS} (h1 : P_X11_steps v0 v1 v2 v3 v4 v5 Q1 S) (h2 : P_X11_steps v0 v1 v2 v3 v4 v5 Q2 S) (hq : ∀ (r : Int32) (T : HS), Q1 r T → Q2 r T → Q3 r T) : P_X11_steps v0 v1 v2 v3 v4 v5 Q3 S := cm_X11_steps_0 h1 h2 hq
end
section
set_option maxRecDepth 20000 in
set_option maxHeartbeats 1000000 in
theorem cm_X11_there_0 {Q1 Q2 Q3 : Int32 → HS → Prop} {v0 : Nat} {v1 : Int32} {v2 : Int32} {v3 : Int32} {v4 : Int32} {v5 : Int32} {S : HS} (h1 : P_X11_there_0 Q1 v0 v1 v2 v3 v4 v5 S) (h2 : P_X11_there_0 Q2 v0 v1 v2 v3 v4 v5 S) (hq : ∀ (r : Int32) (T : HS), Q1 r T → Q2 r T → Q3 r T) : P_X11_there_0 Q3 v0 v1 v2 v3 v4 v5 S := by
  delta P_X11_there_0 at h1 h2 ⊢
  obtain ⟨c1, h1⟩ := h1
  obtain ⟨_, h2⟩ := h2
  refine ⟨c1, ?_⟩
  intro x3 e2
  have h1 := h1 x3 e2
  have h2 := h2 x3 e2
  refine cm_X11_refusesWay h1 h2 (fun x4 x5 h1 h2 g6 => ?_)
  have h1 := h1 g6
  have h2 := h2 g6
  refine ⟨?_, ?_⟩
  · intro c7
    have h1 := h1.1 c7
    have h2 := h2.1 c7
    obtain ⟨b8, e9, h1⟩ := h1
    obtain ⟨b10, e11, h2⟩ := h2
    cases e9.symm.trans e11
    refine ⟨b8, e9, ?_⟩
    refine cm_X11_spotOf h1 h2 (fun x12 x13 h1 h2 g14 => ?_)
    have h1 := h1 g14
    have h2 := h2 g14
    obtain ⟨c15, h1⟩ := h1
    obtain ⟨_, h2⟩ := h2
    refine ⟨c15, ?_⟩
    obtain ⟨c16, h1⟩ := h1
    obtain ⟨_, h2⟩ := h2
    refine ⟨c16, ?_⟩
    intro x18 e17
    have h1 := h1 x18 e17
    have h2 := h2 x18 e17
    refine cm_X11_good h1 h2 (fun x19 x20 h1 h2 g21 => ?_)
    have h1 := h1 g21
    have h2 := h2 g21
    exact hq _ _ h1 h2
  · intro c22
    have h1 := h1.2 c22
    have h2 := h2.2 c22
    refine cm_X11_refused h1 h2 (fun x23 x24 h1 h2 g25 => ?_)
    have h1 := h1 g25
    have h2 := h2 g25
    exact hq _ _ h1 h2
theorem cm_X11_there {Q1 Q2 Q3 : Int32 → HS → Prop} {v0 : Nat} {v1 : Int32} {v2 : Int32} {v3 : Int32} {v4 : Int32} {v5 : Int32} {S : HS} (h1 : P_X11_there v0 v1 v2 v3 v4 v5 Q1 S) (h2 : P_X11_there v0 v1 v2 v3 v4 v5 Q2 S) (hq : ∀ (r : Int32) (T : HS), Q1 r T → Q2 r T → Q3 r T) : P_X11_there v0 v1 v2 v3 v4 v5 Q3 S := cm_X11_there_0 h1 h2 hq
set_option maxRecDepth 20000 in
set_option maxHeartbeats 1000000 in
theorem cm_X11_trouble_0 {Q1 Q2 Q3 : Int32 → HS → Prop} {v0 : Nat} {S : HS} (h1 : P_X11_trouble_0 Q1 v0 S) (h2 : P_X11_trouble_0 Q2 v0 S) (hq : ∀ (r : Int32) (T : HS), Q1 r T → Q2 r T → Q3 r T) : P_X11_trouble_0 Q3 v0 S := by
  delta P_X11_trouble_0 at h1 h2 ⊢
  obtain ⟨c1, h1⟩ := h1
  obtain ⟨_, h2⟩ := h2
  refine ⟨c1, ?_⟩
  intro x3 e2
  have h1 := h1 x3 e2
  have h2 := h2 x3 e2
  intro x5 e4
  have h1 := h1 x5 e4
  have h2 := h2 x5 e4
  exact hq _ _ h1 h2
theorem cm_X11_trouble {Q1 Q2 Q3 : Int32 → HS → Prop} {v0 : Nat} {S : HS} (h1 : P_X11_trouble v0 Q1 S) (h2 : P_X11_trouble v0 Q2 S) (hq : ∀ (r : Int32) (T : HS), Q1 r T → Q2 r T → Q3 r T) : P_X11_trouble v0 Q3 S := cm_X11_trouble_0 h1 h2 hq
set_option maxRecDepth 20000 in
set_option maxHeartbeats 1000000 in
theorem cm_X11_undo_19 {Q1 Q2 Q3 : Int32 → HS → Prop} {v0 : Nat} {S : HS} (h1 : P_X11_undo_19 Q1 v0 S) (h2 : P_X11_undo_19 Q2 v0 S) (hq : ∀ (r : Int32) (T : HS), Q1 r T → Q2 r T → Q3 r T) : P_X11_undo_19 Q3 v0 S := by
  delta P_X11_undo_19 at h1 h2 ⊢
  obtain ⟨c1, h1⟩ := h1
  obtain ⟨_, h2⟩ := h2
  refine ⟨c1, ?_⟩
  refine cm_X11_denied h1 h2 (fun x2 x3 h1 h2 g4 g5 => ?_)
  have h1 := h1 g4 g5
  have h2 := h2 g4 g5
  obtain ⟨c6, h1⟩ := h1
  obtain ⟨_, h2⟩ := h2
  refine ⟨c6, ?_⟩
  exact hq _ _ h1 h2
set_option maxRecDepth 20000 in
set_option maxHeartbeats 1000000 in
theorem cmB_X11_undo_38 {Q1 Q2 Q3 : Int32 → HS → Prop} {X38_1 X38_2 X38_3 : Nat → Int32 → HS → Prop} {v0 : Nat} {v1 : Int32} {S : HS} (h1 : B_X11_undo_38 Q1 X38_1 v0 v1 S) (h2 : B_X11_undo_38 Q2 X38_2 v0 v1 S) (hq : ∀ (r : Int32) (T : HS), Q1 r T → Q2 r T → Q3 r T) (hX38 : ∀ (u0 : Nat) (u1 : Int32) (u2 : HS), X38_1 u0 u1 u2 → X38_2 u0 u1 u2 → X38_3 u0 u1 u2) : B_X11_undo_38 Q3 X38_3 v0 v1 S := by
  delta B_X11_undo_38 at h1 h2 ⊢
  refine ⟨?_, ?_⟩
  · intro c1
    have h1 := h1.1 c1
    have h2 := h2.1 c1
    obtain ⟨c2, h1⟩ := h1
    obtain ⟨_, h2⟩ := h2
    refine ⟨c2, ?_⟩
    refine cm_X11_granted h1 h2 (fun x3 x4 h1 h2 g5 g6 => ?_)
    have h1 := h1 g5 g6
    have h2 := h2 g5 g6
    obtain ⟨c7, h1⟩ := h1
    obtain ⟨_, h2⟩ := h2
    refine ⟨c7, ?_⟩
    exact hq _ _ h1 h2
  · intro c8
    have h1 := h1.2 c8
    have h2 := h2.2 c8
    obtain ⟨c9, h1⟩ := h1
    obtain ⟨_, h2⟩ := h2
    refine ⟨c9, ?_⟩
    obtain ⟨b10, e11, h1⟩ := h1
    obtain ⟨b12, e13, h2⟩ := h2
    cases e11.symm.trans e13
    refine ⟨b10, e11, ?_⟩
    obtain ⟨b14, e15, h1⟩ := h1
    obtain ⟨b16, e17, h2⟩ := h2
    cases e15.symm.trans e17
    refine ⟨b14, e15, ?_⟩
    intro x19 e18
    have h1 := h1 x19 e18
    have h2 := h2 x19 e18
    obtain ⟨c20, h1⟩ := h1
    obtain ⟨_, h2⟩ := h2
    refine ⟨c20, ?_⟩
    intro x22 e21
    have h1 := h1 x22 e21
    have h2 := h2 x22 e21
    obtain ⟨c23, h1⟩ := h1
    obtain ⟨_, h2⟩ := h2
    refine ⟨c23, ?_⟩
    intro x25 e24
    have h1 := h1 x25 e24
    have h2 := h2 x25 e24
    obtain ⟨c26, h1⟩ := h1
    obtain ⟨_, h2⟩ := h2
    refine ⟨c26, ?_⟩
    obtain ⟨c27, h1⟩ := h1
    obtain ⟨_, h2⟩ := h2
    refine ⟨c27, ?_⟩
    intro x29 e28
    have h1 := h1 x29 e28
    have h2 := h2 x29 e28
    intro x31 e30
    have h1 := h1 x31 e30
    have h2 := h2 x31 e30
    exact hX38 _ _ _ h1 h2
theorem fd_X11_undo_38 {Q : Int32 → HS → Prop} {v0 : Nat} {v1 : Int32} {S : HS} (h : B_X11_undo_38 Q (P_X11_undo_38 Q) v0 v1 S) : P_X11_undo_38 Q v0 v1 S := fun X hX => hX v0 v1 S (cmB_X11_undo_38 h h (fun _ _ a _ => a) (fun _ _ _ hp _ => hp X hX))
theorem uf_X11_undo_38 {Q : Int32 → HS → Prop} {v0 : Nat} {v1 : Int32} {S : HS} (h : P_X11_undo_38 Q v0 v1 S) : B_X11_undo_38 Q (P_X11_undo_38 Q) v0 v1 S := h (fun v0 v1 S => B_X11_undo_38 Q (P_X11_undo_38 Q) v0 v1 S) (fun v0 v1 S hB => cmB_X11_undo_38 hB hB (fun _ _ a _ => a) (fun _ _ _ hb _ => fd_X11_undo_38 hb))
theorem cm_X11_undo_38 {Q1 Q2 Q3 : Int32 → HS → Prop} {v0 : Nat} {v1 : Int32} {S : HS} (h1 : P_X11_undo_38 Q1 v0 v1 S) (h2 : P_X11_undo_38 Q2 v0 v1 S) (hq : ∀ (r : Int32) (T : HS), Q1 r T → Q2 r T → Q3 r T) : P_X11_undo_38 Q3 v0 v1 S := h1 (fun v0 v1 S => P_X11_undo_38 Q2 v0 v1 S → P_X11_undo_38 Q3 v0 v1 S) (fun v0 v1 S hB hp => fd_X11_undo_38 (cmB_X11_undo_38 hB (uf_X11_undo_38 hp) hq (fun _ _ _ hx hp => hx hp))) h2
set_option maxRecDepth 20000 in
set_option maxHeartbeats 1000000 in
theorem cm_X11_undo_0 {Q1 Q2 Q3 : Int32 → HS → Prop} {v0 : Nat} {S : HS} (h1 : P_X11_undo_0 Q1 v0 S) (h2 : P_X11_undo_0 Q2 v0 S) (hq : ∀ (r : Int32) (T : HS), Q1 r T → Q2 r T → Q3 r T) : P_X11_undo_0 Q3 v0 S := by
  delta P_X11_undo_0 at h1 h2 ⊢
  obtain ⟨c1, h1⟩ := h1
  obtain ⟨_, h2⟩ := h2
  refine ⟨c1, ?_⟩
  intro x3 e2
  have h1 := h1 x3 e2
  have h2 := h2 x3 e2
  refine cm_X11_isDay h1 h2 (fun x4 x5 h1 h2 g6 g7 => ?_)
  have h1 := h1 g6 g7
  have h2 := h2 g6 g7
  refine ⟨?_, ?_⟩
  · intro c8
    have h1 := h1.1 c8
    have h2 := h2.1 c8
    exact cm_X11_undo_19 h1 h2 hq
  · intro c9
    have h1 := h1.2 c9
    have h2 := h2.2 c9
    intro x11 e10
    have h1 := h1 x11 e10
    have h2 := h2 x11 e10
    refine ⟨?_, ?_⟩
    · intro c12
      have h1 := h1.1 c12
      have h2 := h2.1 c12
      intro x14 e13
      have h1 := h1 x14 e13
      have h2 := h2 x14 e13
      intro x16 e15
      have h1 := h1 x16 e15
      have h2 := h2 x16 e15
      intro x18 e17
      have h1 := h1 x18 e17
      have h2 := h2 x18 e17
      exact cm_X11_undo_38 h1 h2 hq
    · intro c19
      have h1 := h1.2 c19
      have h2 := h2.2 c19
      exact cm_X11_undo_19 h1 h2 hq
theorem cm_X11_undo {Q1 Q2 Q3 : Int32 → HS → Prop} {v0 : Nat} {S : HS} (h1 : P_X11_undo v0 Q1 S) (h2 : P_X11_undo v0 Q2 S) (hq : ∀ (r : Int32) (T : HS), Q1 r T → Q2 r T → Q3 r T) : P_X11_undo v0 Q3 S := cm_X11_undo_0 h1 h2 hq
set_option maxRecDepth 20000 in
set_option maxHeartbeats 1000000 in
theorem cm_X11_walker_23 {Q1 Q2 Q3 : Int32 → HS → Prop} {v0 : Nat} {S : HS} (h1 : P_X11_walker_23 Q1 v0 S) (h2 : P_X11_walker_23 Q2 v0 S) (hq : ∀ (r : Int32) (T : HS), Q1 r T → Q2 r T → Q3 r T) : P_X11_walker_23 Q3 v0 S := by
  delta P_X11_walker_23 at h1 h2 ⊢
  obtain ⟨c1, h1⟩ := h1
  obtain ⟨_, h2⟩ := h2
  refine ⟨c1, ?_⟩
  refine cm_X11_refused h1 h2 (fun x2 x3 h1 h2 g4 => ?_)
  have h1 := h1 g4
  have h2 := h2 g4
  exact hq _ _ h1 h2
set_option maxRecDepth 20000 in
set_option maxHeartbeats 1000000 in
theorem cm_X11_walker_0 {Q1 Q2 Q3 : Int32 → HS → Prop} {v0 : Nat} {v1 : Int32} {v2 : Int32} {S : HS} (h1 : P_X11_walker_0 Q1 v0 v1 v2 S) (h2 : P_X11_walker_0 Q2 v0 v1 v2 S) (hq : ∀ (r : Int32) (T : HS), Q1 r T → Q2 r T → Q3 r T) : P_X11_walker_0 Q3 v0 v1 v2 S := by
  delta P_X11_walker_0 at h1 h2 ⊢
  obtain ⟨c1, h1⟩ := h1
  obtain ⟨_, h2⟩ := h2
  refine ⟨c1, ?_⟩
  intro x3 e2
  have h1 := h1 x3 e2
  have h2 := h2 x3 e2
  refine cm_X11_isWalker h1 h2 (fun x4 x5 h1 h2 g6 g7 => ?_)
  have h1 := h1 g6 g7
  have h2 := h2 g6 g7
  refine ⟨?_, ?_⟩
  · intro c8
    have h1 := h1.1 c8
    have h2 := h2.1 c8
    exact cm_X11_walker_23 h1 h2 hq
  · intro c9
    have h1 := h1.2 c9
    have h2 := h2.2 c9
    refine cm_X11_in h1 h2 (fun x10 x11 h1 h2 g12 g13 => ?_)
    have h1 := h1 g12 g13
    have h2 := h2 g12 g13
    refine ⟨?_, ?_⟩
    · intro c14
      have h1 := h1.1 c14
      have h2 := h2.1 c14
      refine ⟨?_, ?_, ?_, ?_, ?_, ?_, ?_⟩
      · intro c15
        have h1 := h1.1 c15
        have h2 := h2.1 c15
        obtain ⟨b16, e17, h1⟩ := h1
        obtain ⟨b18, e19, h2⟩ := h2
        cases e17.symm.trans e19
        refine ⟨b16, e17, ?_⟩
        obtain ⟨c20, h1⟩ := h1
        obtain ⟨_, h2⟩ := h2
        refine ⟨c20, ?_⟩
        obtain ⟨b21, e22, h1⟩ := h1
        obtain ⟨b23, e24, h2⟩ := h2
        cases e22.symm.trans e24
        refine ⟨b21, e22, ?_⟩
        obtain ⟨c25, h1⟩ := h1
        obtain ⟨_, h2⟩ := h2
        refine ⟨c25, ?_⟩
        obtain ⟨c26, h1⟩ := h1
        obtain ⟨_, h2⟩ := h2
        refine ⟨c26, ?_⟩
        intro x28 e27
        have h1 := h1 x28 e27
        have h2 := h2 x28 e27
        refine cm_X11_good h1 h2 (fun x29 x30 h1 h2 g31 => ?_)
        have h1 := h1 g31
        have h2 := h2 g31
        exact hq _ _ h1 h2
      · intro c32
        have h1 := h1.2.1 c32
        have h2 := h2.2.1 c32
        obtain ⟨b33, e34, h1⟩ := h1
        obtain ⟨b35, e36, h2⟩ := h2
        cases e34.symm.trans e36
        refine ⟨b33, e34, ?_⟩
        obtain ⟨c37, h1⟩ := h1
        obtain ⟨_, h2⟩ := h2
        refine ⟨c37, ?_⟩
        obtain ⟨b38, e39, h1⟩ := h1
        obtain ⟨b40, e41, h2⟩ := h2
        cases e39.symm.trans e41
        refine ⟨b38, e39, ?_⟩
        obtain ⟨c42, h1⟩ := h1
        obtain ⟨_, h2⟩ := h2
        refine ⟨c42, ?_⟩
        obtain ⟨c43, h1⟩ := h1
        obtain ⟨_, h2⟩ := h2
        refine ⟨c43, ?_⟩
        intro x45 e44
        have h1 := h1 x45 e44
        have h2 := h2 x45 e44
        refine cm_X11_good h1 h2 (fun x46 x47 h1 h2 g48 => ?_)
        have h1 := h1 g48
        have h2 := h2 g48
        exact hq _ _ h1 h2
      · intro c49
        have h1 := h1.2.2.1 c49
        have h2 := h2.2.2.1 c49
        obtain ⟨b50, e51, h1⟩ := h1
        obtain ⟨b52, e53, h2⟩ := h2
        cases e51.symm.trans e53
        refine ⟨b50, e51, ?_⟩
        obtain ⟨c54, h1⟩ := h1
        obtain ⟨_, h2⟩ := h2
        refine ⟨c54, ?_⟩
        obtain ⟨b55, e56, h1⟩ := h1
        obtain ⟨b57, e58, h2⟩ := h2
        cases e56.symm.trans e58
        refine ⟨b55, e56, ?_⟩
        obtain ⟨c59, h1⟩ := h1
        obtain ⟨_, h2⟩ := h2
        refine ⟨c59, ?_⟩
        obtain ⟨c60, h1⟩ := h1
        obtain ⟨_, h2⟩ := h2
        refine ⟨c60, ?_⟩
        intro x62 e61
        have h1 := h1 x62 e61
        have h2 := h2 x62 e61
        refine cm_X11_good h1 h2 (fun x63 x64 h1 h2 g65 => ?_)
        have h1 := h1 g65
        have h2 := h2 g65
        exact hq _ _ h1 h2
      · intro c66
        have h1 := h1.2.2.2.1 c66
        have h2 := h2.2.2.2.1 c66
        obtain ⟨b67, e68, h1⟩ := h1
        obtain ⟨b69, e70, h2⟩ := h2
        cases e68.symm.trans e70
        refine ⟨b67, e68, ?_⟩
        obtain ⟨c71, h1⟩ := h1
        obtain ⟨_, h2⟩ := h2
        refine ⟨c71, ?_⟩
        obtain ⟨b72, e73, h1⟩ := h1
        obtain ⟨b74, e75, h2⟩ := h2
        cases e73.symm.trans e75
        refine ⟨b72, e73, ?_⟩
        obtain ⟨c76, h1⟩ := h1
        obtain ⟨_, h2⟩ := h2
        refine ⟨c76, ?_⟩
        obtain ⟨c77, h1⟩ := h1
        obtain ⟨_, h2⟩ := h2
        refine ⟨c77, ?_⟩
        intro x79 e78
        have h1 := h1 x79 e78
        have h2 := h2 x79 e78
        refine cm_X11_good h1 h2 (fun x80 x81 h1 h2 g82 => ?_)
        have h1 := h1 g82
        have h2 := h2 g82
        exact hq _ _ h1 h2
      · intro c83
        have h1 := h1.2.2.2.2.1 c83
        have h2 := h2.2.2.2.2.1 c83
        obtain ⟨b84, e85, h1⟩ := h1
        obtain ⟨b86, e87, h2⟩ := h2
        cases e85.symm.trans e87
        refine ⟨b84, e85, ?_⟩
        obtain ⟨c88, h1⟩ := h1
        obtain ⟨_, h2⟩ := h2
        refine ⟨c88, ?_⟩
        obtain ⟨b89, e90, h1⟩ := h1
        obtain ⟨b91, e92, h2⟩ := h2
        cases e90.symm.trans e92
        refine ⟨b89, e90, ?_⟩
        obtain ⟨c93, h1⟩ := h1
        obtain ⟨_, h2⟩ := h2
        refine ⟨c93, ?_⟩
        obtain ⟨c94, h1⟩ := h1
        obtain ⟨_, h2⟩ := h2
        refine ⟨c94, ?_⟩
        intro x96 e95
        have h1 := h1 x96 e95
        have h2 := h2 x96 e95
        refine cm_X11_good h1 h2 (fun x97 x98 h1 h2 g99 => ?_)
        have h1 := h1 g99
        have h2 := h2 g99
        exact hq _ _ h1 h2
      · intro c100
        have h1 := h1.2.2.2.2.2.1 c100
        have h2 := h2.2.2.2.2.2.1 c100
        obtain ⟨b101, e102, h1⟩ := h1
        obtain ⟨b103, e104, h2⟩ := h2
        cases e102.symm.trans e104
        refine ⟨b101, e102, ?_⟩
        obtain ⟨c105, h1⟩ := h1
        obtain ⟨_, h2⟩ := h2
        refine ⟨c105, ?_⟩
        obtain ⟨b106, e107, h1⟩ := h1
        obtain ⟨b108, e109, h2⟩ := h2
        cases e107.symm.trans e109
        refine ⟨b106, e107, ?_⟩
        obtain ⟨c110, h1⟩ := h1
        obtain ⟨_, h2⟩ := h2
        refine ⟨c110, ?_⟩
        obtain ⟨c111, h1⟩ := h1
        obtain ⟨_, h2⟩ := h2
        refine ⟨c111, ?_⟩
        intro x113 e112
        have h1 := h1 x113 e112
        have h2 := h2 x113 e112
        refine cm_X11_good h1 h2 (fun x114 x115 h1 h2 g116 => ?_)
        have h1 := h1 g116
        have h2 := h2 g116
        exact hq _ _ h1 h2
      · intro c117
        have h1 := h1.2.2.2.2.2.2 c117
        have h2 := h2.2.2.2.2.2.2 c117
        obtain ⟨b118, e119, h1⟩ := h1
        obtain ⟨b120, e121, h2⟩ := h2
        cases e119.symm.trans e121
        refine ⟨b118, e119, ?_⟩
        obtain ⟨c122, h1⟩ := h1
        obtain ⟨_, h2⟩ := h2
        refine ⟨c122, ?_⟩
        obtain ⟨b123, e124, h1⟩ := h1
        obtain ⟨b125, e126, h2⟩ := h2
        cases e124.symm.trans e126
        refine ⟨b123, e124, ?_⟩
        obtain ⟨c127, h1⟩ := h1
        obtain ⟨_, h2⟩ := h2
        refine ⟨c127, ?_⟩
        obtain ⟨c128, h1⟩ := h1
        obtain ⟨_, h2⟩ := h2
        refine ⟨c128, ?_⟩
        intro x130 e129
        have h1 := h1 x130 e129
        have h2 := h2 x130 e129
        refine cm_X11_good h1 h2 (fun x131 x132 h1 h2 g133 => ?_)
        have h1 := h1 g133
        have h2 := h2 g133
        exact hq _ _ h1 h2
    · intro c134
      have h1 := h1.2 c134
      have h2 := h2.2 c134
      exact cm_X11_walker_23 h1 h2 hq
theorem cm_X11_walker {Q1 Q2 Q3 : Int32 → HS → Prop} {v0 : Nat} {v1 : Int32} {v2 : Int32} {S : HS} (h1 : P_X11_walker v0 v1 v2 Q1 S) (h2 : P_X11_walker v0 v1 v2 Q2 S) (hq : ∀ (r : Int32) (T : HS), Q1 r T → Q2 r T → Q3 r T) : P_X11_walker v0 v1 v2 Q3 S := cm_X11_walker_0 h1 h2 hq
set_option maxRecDepth 20000 in
set_option maxHeartbeats 1000000 in
theorem cm_X11_wet_0 {Q1 Q2 Q3 : Int64 → HS → Prop} {v0 : Nat} {v1 : Int32} {v2 : Int32} {v3 : Int32} {v4 : Int32} {v5 : Int32} {v6 : Int32} {S : HS} (h1 : P_X11_wet_0 Q1 v0 v1 v2 v3 v4 v5 v6 S) (h2 : P_X11_wet_0 Q2 v0 v1 v2 v3 v4 v5 v6 S) (hq : ∀ (r : Int64) (T : HS), Q1 r T → Q2 r T → Q3 r T) : P_X11_wet_0 Q3 v0 v1 v2 v3 v4 v5 v6 S := by
  delta P_X11_wet_0 at h1 h2 ⊢
  obtain ⟨c1, h1⟩ := h1
  obtain ⟨_, h2⟩ := h2
  refine ⟨c1, ?_⟩
  intro x3 e2
  have h1 := h1 x3 e2
  have h2 := h2 x3 e2
  refine cm_X11_refuses h1 h2 (fun x4 x5 h1 h2 g6 => ?_)
  have h1 := h1 g6
  have h2 := h2 g6
  refine ⟨?_, ?_⟩
  · intro c7
    have h1 := h1.1 c7
    have h2 := h2.1 c7
    refine cm_X11_wetOf h1 h2 (fun x8 x9 h1 h2 g10 => ?_)
    have h1 := h1 g10
    have h2 := h2 g10
    refine cm_X11_told h1 h2 (fun x11 x12 h1 h2 g13 => ?_)
    have h1 := h1 g13
    have h2 := h2 g13
    exact hq _ _ h1 h2
  · intro c14
    have h1 := h1.2 c14
    have h2 := h2.2 c14
    refine cm_X11_refused h1 h2 (fun x15 x16 h1 h2 g17 => ?_)
    have h1 := h1 g17
    have h2 := h2 g17
    exact hq _ _ h1 h2
theorem cm_X11_wet {Q1 Q2 Q3 : Int64 → HS → Prop} {v0 : Nat} {v1 : Int32} {v2 : Int32} {v3 : Int32} {v4 : Int32} {v5 : Int32} {v6 : Int32} {S : HS} (h1 : P_X11_wet v0 v1 v2 v3 v4 v5 v6 Q1 S) (h2 : P_X11_wet v0 v1 v2 v3 v4 v5 v6 Q2 S) (hq : ∀ (r : Int64) (T : HS), Q1 r T → Q2 r T → Q3 r T) : P_X11_wet v0 v1 v2 v3 v4 v5 v6 Q3 S := cm_X11_wet_0 h1 h2 hq
set_option maxRecDepth 20000 in
set_option maxHeartbeats 1000000 in
theorem cm_X11_wetness_41 {Q1 Q2 Q3 : Int64 → HS → Prop} {v1 : Int32} {s0 : Nat} {s1 : Int64} {S : HS} (h1 : P_X11_wetness_41 Q1 v1 s0 s1 S) (h2 : P_X11_wetness_41 Q2 v1 s0 s1 S) (hq : ∀ (r : Int64) (T : HS), Q1 r T → Q2 r T → Q3 r T) : P_X11_wetness_41 Q3 v1 s0 s1 S := by
  delta P_X11_wetness_41 at h1 h2 ⊢
  obtain ⟨c1, h1⟩ := h1
  obtain ⟨_, h2⟩ := h2
  refine ⟨c1, ?_⟩
  refine cm_X11_told h1 h2 (fun x2 x3 h1 h2 g4 => ?_)
  have h1 := h1 g4
  have h2 := h2 g4
  exact hq _ _ h1 h2
set_option maxRecDepth 20000 in
set_option maxHeartbeats 1000000 in
theorem cm_X11_wetness_0 {Q1 Q2 Q3 : Int64 → HS → Prop} {v0 : Nat} {v1 : Int32} {S : HS} (h1 : P_X11_wetness_0 Q1 v0 v1 S) (h2 : P_X11_wetness_0 Q2 v0 v1 S) (hq : ∀ (r : Int64) (T : HS), Q1 r T → Q2 r T → Q3 r T) : P_X11_wetness_0 Q3 v0 v1 S := by
  delta P_X11_wetness_0 at h1 h2 ⊢
  obtain ⟨c1, h1⟩ := h1
  obtain ⟨_, h2⟩ := h2
  refine ⟨c1, ?_⟩
  intro x3 e2
  have h1 := h1 x3 e2
  have h2 := h2 x3 e2
  refine cm_X11_isDay h1 h2 (fun x4 x5 h1 h2 g6 g7 => ?_)
  have h1 := h1 g6 g7
  have h2 := h2 g6 g7
  refine ⟨?_, ?_⟩
  · intro c8
    have h1 := h1.1 c8
    have h2 := h2.1 c8
    refine cm_X11_gotInAll h1 h2 (fun x9 x10 h1 h2 g11 => ?_)
    have h1 := h1 g11
    have h2 := h2 g11
    refine cm_X11_holds h1 h2 (fun x12 x13 h1 h2 g14 => ?_)
    have h1 := h1 g14
    have h2 := h2 g14
    intro x16 e15
    have h1 := h1 x16 e15
    have h2 := h2 x16 e15
    refine ⟨?_, ?_⟩
    · intro c17
      have h1 := h1.1 c17
      have h2 := h2.1 c17
      exact cm_X11_wetness_41 h1 h2 hq
    · intro c18
      have h1 := h1.2 c18
      have h2 := h2.2 c18
      exact cm_X11_wetness_41 h1 h2 hq
  · intro c19
    have h1 := h1.2 c19
    have h2 := h2.2 c19
    refine cm_X11_refused h1 h2 (fun x20 x21 h1 h2 g22 => ?_)
    have h1 := h1 g22
    have h2 := h2 g22
    exact hq _ _ h1 h2
theorem cm_X11_wetness {Q1 Q2 Q3 : Int64 → HS → Prop} {v0 : Nat} {v1 : Int32} {S : HS} (h1 : P_X11_wetness v0 v1 Q1 S) (h2 : P_X11_wetness v0 v1 Q2 S) (hq : ∀ (r : Int64) (T : HS), Q1 r T → Q2 r T → Q3 r T) : P_X11_wetness v0 v1 Q3 S := cm_X11_wetness_0 h1 h2 hq
set_option maxRecDepth 20000 in
set_option maxHeartbeats 1000000 in
theorem cm_X11_where_0 {Q1 Q2 Q3 : Int32 → HS → Prop} {v0 : Nat} {S : HS} (h1 : P_X11_where_0 Q1 v0 S) (h2 : P_X11_where_0 Q2 v0 S) (hq : ∀ (r : Int32) (T : HS), Q1 r T → Q2 r T → Q3 r T) : P_X11_where_0 Q3 v0 S := by
  delta P_X11_where_0 at h1 h2 ⊢
  obtain ⟨c1, h1⟩ := h1
  obtain ⟨_, h2⟩ := h2
  refine ⟨c1, ?_⟩
  intro x3 e2
  have h1 := h1 x3 e2
  have h2 := h2 x3 e2
  intro x5 e4
  have h1 := h1 x5 e4
  have h2 := h2 x5 e4
  exact hq _ _ h1 h2
theorem cm_X11_where {Q1 Q2 Q3 : Int32 → HS → Prop} {v0 : Nat} {S : HS} (h1 : P_X11_where v0 Q1 S) (h2 : P_X11_where v0 Q2 S) (hq : ∀ (r : Int32) (T : HS), Q1 r T → Q2 r T → Q3 r T) : P_X11_where v0 Q3 S := cm_X11_where_0 h1 h2 hq
set_option maxRecDepth 20000 in
set_option maxHeartbeats 1000000 in
theorem cm_X11_world_17 {Q1 Q2 Q3 : Int32 → HS → Prop} {v0 : Nat} {S : HS} (h1 : P_X11_world_17 Q1 v0 S) (h2 : P_X11_world_17 Q2 v0 S) (hq : ∀ (r : Int32) (T : HS), Q1 r T → Q2 r T → Q3 r T) : P_X11_world_17 Q3 v0 S := by
  delta P_X11_world_17 at h1 h2 ⊢
  obtain ⟨c1, h1⟩ := h1
  obtain ⟨_, h2⟩ := h2
  refine ⟨c1, ?_⟩
  refine cm_X11_refused h1 h2 (fun x2 x3 h1 h2 g4 => ?_)
  have h1 := h1 g4
  have h2 := h2 g4
  exact hq _ _ h1 h2
set_option maxRecDepth 20000 in
set_option maxHeartbeats 1000000 in
theorem cm_X11_world_0 {Q1 Q2 Q3 : Int32 → HS → Prop} {v0 : Nat} {v1 : Int32} {S : HS} (h1 : P_X11_world_0 Q1 v0 v1 S) (h2 : P_X11_world_0 Q2 v0 v1 S) (hq : ∀ (r : Int32) (T : HS), Q1 r T → Q2 r T → Q3 r T) : P_X11_world_0 Q3 v0 v1 S := by
  delta P_X11_world_0 at h1 h2 ⊢
  obtain ⟨c1, h1⟩ := h1
  obtain ⟨_, h2⟩ := h2
  refine ⟨c1, ?_⟩
  intro x3 e2
  have h1 := h1 x3 e2
  have h2 := h2 x3 e2
  refine ⟨?_, ?_⟩
  · intro c4
    have h1 := h1.1 c4
    have h2 := h2.1 c4
    exact cm_X11_world_17 h1 h2 hq
  · intro c5
    have h1 := h1.2 c5
    have h2 := h2.2 c5
    intro x7 e6
    have h1 := h1 x7 e6
    have h2 := h2 x7 e6
    refine ⟨?_, ?_⟩
    · intro c8
      have h1 := h1.1 c8
      have h2 := h2.1 c8
      intro x10 e9
      have h1 := h1 x10 e9
      have h2 := h2 x10 e9
      intro x12 e11
      have h1 := h1 x12 e11
      have h2 := h2 x12 e11
      intro x14 e13
      have h1 := h1 x14 e13
      have h2 := h2 x14 e13
      intro x16 e15
      have h1 := h1 x16 e15
      have h2 := h2 x16 e15
      intro x18 e17
      have h1 := h1 x18 e17
      have h2 := h2 x18 e17
      intro x20 e19
      have h1 := h1 x20 e19
      have h2 := h2 x20 e19
      refine cm_X10_init h1 h2 (fun x21 h1 h2 g22 => ?_)
      have h1 := h1 g22
      have h2 := h2 g22
      intro x24 e23
      have h1 := h1 x24 e23
      have h2 := h2 x24 e23
      intro x26 e25
      have h1 := h1 x26 e25
      have h2 := h2 x26 e25
      refine cm_X11_goesOn h1 h2 (fun x27 h1 h2 g28 => ?_)
      have h1 := h1 g28
      have h2 := h2 g28
      refine cm_X11_readAll h1 h2 (fun x29 h1 h2 g30 => ?_)
      have h1 := h1 g30
      have h2 := h2 g30
      intro x32 e31
      have h1 := h1 x32 e31
      have h2 := h2 x32 e31
      refine ⟨?_, ?_⟩
      · intro c33
        have h1 := h1.1 c33
        have h2 := h2.1 c33
        obtain ⟨b34, e35, h1⟩ := h1
        obtain ⟨b36, e37, h2⟩ := h2
        cases e35.symm.trans e37
        refine ⟨b34, e35, ?_⟩
        intro x39 e38
        have h1 := h1 x39 e38
        have h2 := h2 x39 e38
        intro x41 e40
        have h1 := h1 x41 e40
        have h2 := h2 x41 e40
        intro x43 e42
        have h1 := h1 x43 e42
        have h2 := h2 x43 e42
        intro x45 e44
        have h1 := h1 x45 e44
        have h2 := h2 x45 e44
        obtain ⟨b46, e47, h1⟩ := h1
        obtain ⟨b48, e49, h2⟩ := h2
        cases e47.symm.trans e49
        refine ⟨b46, e47, ?_⟩
        obtain ⟨c50, h1⟩ := h1
        obtain ⟨_, h2⟩ := h2
        refine ⟨c50, ?_⟩
        intro x52 e51
        have h1 := h1 x52 e51
        have h2 := h2 x52 e51
        refine cm_X11_good h1 h2 (fun x53 x54 h1 h2 g55 => ?_)
        have h1 := h1 g55
        have h2 := h2 g55
        exact hq _ _ h1 h2
      · intro c56
        have h1 := h1.2 c56
        have h2 := h2.2 c56
        intro x58 e57
        have h1 := h1 x58 e57
        have h2 := h2 x58 e57
        intro x60 e59
        have h1 := h1 x60 e59
        have h2 := h2 x60 e59
        intro x62 e61
        have h1 := h1 x62 e61
        have h2 := h2 x62 e61
        exact hq _ _ h1 h2
    · intro c63
      have h1 := h1.2 c63
      have h2 := h2.2 c63
      exact cm_X11_world_17 h1 h2 hq
theorem cm_X11_world {Q1 Q2 Q3 : Int32 → HS → Prop} {v0 : Nat} {v1 : Int32} {S : HS} (h1 : P_X11_world v0 v1 Q1 S) (h2 : P_X11_world v0 v1 Q2 S) (hq : ∀ (r : Int32) (T : HS), Q1 r T → Q2 r T → Q3 r T) : P_X11_world v0 v1 Q3 S := cm_X11_world_0 h1 h2 hq
set_option maxRecDepth 20000 in
set_option maxHeartbeats 1000000 in
theorem cm_X11_worst_39 {Q1 Q2 Q3 : Int32 → HS → Prop} {v0 : Nat} {S : HS} (h1 : P_X11_worst_39 Q1 v0 S) (h2 : P_X11_worst_39 Q2 v0 S) (hq : ∀ (r : Int32) (T : HS), Q1 r T → Q2 r T → Q3 r T) : P_X11_worst_39 Q3 v0 S := by
  delta P_X11_worst_39 at h1 h2 ⊢
  obtain ⟨c1, h1⟩ := h1
  obtain ⟨_, h2⟩ := h2
  refine ⟨c1, ?_⟩
  refine cm_X11_refused h1 h2 (fun x2 x3 h1 h2 g4 => ?_)
  have h1 := h1 g4
  have h2 := h2 g4
  exact hq _ _ h1 h2
set_option maxRecDepth 20000 in
set_option maxHeartbeats 1000000 in
theorem cm_X11_worst_106 {Q1 Q2 Q3 : Int32 → HS → Prop} {X62_1 X62_2 X62_3 : Nat → Int32 → Int32 → Int32 → Int32 → Int32 → Int32 → HS → Prop} {v0 : Nat} {v1 : Int32} {v2 : Int32} {v3 : Int32} {v4 : Int32} {v5 : Int32} {v6 : Int32} {S : HS} (h1 : P_X11_worst_106 Q1 X62_1 v0 v1 v2 v3 v4 v5 v6 S) (h2 : P_X11_worst_106 Q2 X62_2 v0 v1 v2 v3 v4 v5 v6 S) (hq : ∀ (r : Int32) (T : HS), Q1 r T → Q2 r T → Q3 r T) (hX62 : ∀ (u0 : Nat) (u1 : Int32) (u2 : Int32) (u3 : Int32) (u4 : Int32) (u5 : Int32) (u6 : Int32) (u7 : HS), X62_1 u0 u1 u2 u3 u4 u5 u6 u7 → X62_2 u0 u1 u2 u3 u4 u5 u6 u7 → X62_3 u0 u1 u2 u3 u4 u5 u6 u7) : P_X11_worst_106 Q3 X62_3 v0 v1 v2 v3 v4 v5 v6 S := by
  delta P_X11_worst_106 at h1 h2 ⊢
  intro x2 e1
  have h1 := h1 x2 e1
  have h2 := h2 x2 e1
  exact hX62 _ _ _ _ _ _ _ _ h1 h2
set_option maxRecDepth 20000 in
set_option maxHeartbeats 1000000 in
theorem cmB_X11_worst_62 {Q1 Q2 Q3 : Int32 → HS → Prop} {X62_1 X62_2 X62_3 : Nat → Int32 → Int32 → Int32 → Int32 → Int32 → Int32 → HS → Prop} {v0 : Nat} {v1 : Int32} {v2 : Int32} {v3 : Int32} {v4 : Int32} {v5 : Int32} {v6 : Int32} {S : HS} (h1 : B_X11_worst_62 Q1 X62_1 v0 v1 v2 v3 v4 v5 v6 S) (h2 : B_X11_worst_62 Q2 X62_2 v0 v1 v2 v3 v4 v5 v6 S) (hq : ∀ (r : Int32) (T : HS), Q1 r T → Q2 r T → Q3 r T) (hX62 : ∀ (u0 : Nat) (u1 : Int32) (u2 : Int32) (u3 : Int32) (u4 : Int32) (u5 : Int32) (u6 : Int32) (u7 : HS), X62_1 u0 u1 u2 u3 u4 u5 u6 u7 → X62_2 u0 u1 u2 u3 u4 u5 u6 u7 → X62_3 u0 u1 u2 u3 u4 u5 u6 u7) : B_X11_worst_62 Q3 X62_3 v0 v1 v2 v3 v4 v5 v6 S := by
  delta B_X11_worst_62 at h1 h2 ⊢
  obtain ⟨c1, h1⟩ := h1
  obtain ⟨_, h2⟩ := h2
  refine ⟨c1, ?_⟩
  obtain ⟨b2, e3, h1⟩ := h1
  obtain ⟨b4, e5, h2⟩ := h2
  cases e3.symm.trans e5
  refine ⟨b2, e3, ?_⟩
  obtain ⟨c6, h1⟩ := h1
  obtain ⟨_, h2⟩ := h2
  refine ⟨c6, ?_⟩
  obtain ⟨b7, e8, h1⟩ := h1
  obtain ⟨b9, e10, h2⟩ := h2
  cases e8.symm.trans e10
  refine ⟨b7, e8, ?_⟩
  obtain ⟨c11, h1⟩ := h1
  obtain ⟨_, h2⟩ := h2
  refine ⟨c11, ?_⟩
  obtain ⟨c12, h1⟩ := h1
  obtain ⟨_, h2⟩ := h2
  refine ⟨c12, ?_⟩
  intro x14 e13
  have h1 := h1 x14 e13
  have h2 := h2 x14 e13
  refine ⟨?_, ?_⟩
  · intro c15
    have h1 := h1.1 c15
    have h2 := h2.1 c15
    refine cm_X11_good h1 h2 (fun x16 x17 h1 h2 g18 => ?_)
    have h1 := h1 g18
    have h2 := h2 g18
    exact hq _ _ h1 h2
  · intro c19
    have h1 := h1.2 c19
    have h2 := h2.2 c19
    refine cm_X11_wetOf h1 h2 (fun x20 x21 h1 h2 g22 => ?_)
    have h1 := h1 g22
    have h2 := h2 g22
    refine cm_X11_wetOf h1 h2 (fun x23 x24 h1 h2 g25 => ?_)
    have h1 := h1 g25
    have h2 := h2 g25
    refine ⟨?_, ?_⟩
    · intro c26
      have h1 := h1.1 c26
      have h2 := h2.1 c26
      exact cm_X11_worst_106 h1 h2 hq hX62
    · intro c27
      have h1 := h1.2 c27
      have h2 := h2.2 c27
      exact cm_X11_worst_106 h1 h2 hq hX62
theorem fd_X11_worst_62 {Q : Int32 → HS → Prop} {v0 : Nat} {v1 : Int32} {v2 : Int32} {v3 : Int32} {v4 : Int32} {v5 : Int32} {v6 : Int32} {S : HS} (h : B_X11_worst_62 Q (P_X11_worst_62 Q) v0 v1 v2 v3 v4 v5 v6 S) : P_X11_worst_62 Q v0 v1 v2 v3 v4 v5 v6 S := fun X hX => hX v0 v1 v2 v3 v4 v5 v6 S (cmB_X11_worst_62 h h (fun _ _ a _ => a) (fun _ _ _ _ _ _ _ _ hp _ => hp X hX))
theorem uf_X11_worst_62 {Q : Int32 → HS → Prop} {v0 : Nat} {v1 : Int32} {v2 : Int32} {v3 : Int32} {v4 : Int32} {v5 : Int32} {v6 : Int32} {S : HS} (h : P_X11_worst_62 Q v0 v1 v2 v3 v4 v5 v6 S) : B_X11_worst_62 Q (P_X11_worst_62 Q) v0 v1 v2 v3 v4 v5 v6 S := h (fun v0 v1 v2 v3 v4 v5 v6 S => B_X11_worst_62 Q (P_X11_worst_62 Q) v0 v1 v2 v3 v4 v5 v6 S) (fun v0 v1 v2 v3 v4 v5 v6 S hB => cmB_X11_worst_62 hB hB (fun _ _ a _ => a) (fun _ _ _ _ _ _ _ _ hb _ => fd_X11_worst_62 hb))
theorem cm_X11_worst_62 {Q1 Q2 Q3 : Int32 → HS → Prop} {v0 : Nat} {v1 : Int32} {v2 : Int32} {v3 : Int32} {v4 : Int32} {v5 : Int32} {v6 : Int32} {S : HS} (h1 : P_X11_worst_62 Q1 v0 v1 v2 v3 v4 v5 v6 S) (h2 : P_X11_worst_62 Q2 v0 v1 v2 v3 v4 v5 v6 S) (hq : ∀ (r : Int32) (T : HS), Q1 r T → Q2 r T → Q3 r T) : P_X11_worst_62 Q3 v0 v1 v2 v3 v4 v5 v6 S := h1 (fun v0 v1 v2 v3 v4 v5 v6 S => P_X11_worst_62 Q2 v0 v1 v2 v3 v4 v5 v6 S → P_X11_worst_62 Q3 v0 v1 v2 v3 v4 v5 v6 S) (fun v0 v1 v2 v3 v4 v5 v6 S hB hp => fd_X11_worst_62 (cmB_X11_worst_62 hB (uf_X11_worst_62 hp) hq (fun _ _ _ _ _ _ _ _ hx hp => hx hp))) h2
set_option maxRecDepth 20000 in
set_option maxHeartbeats 1000000 in
theorem cm_X11_worst_0 {Q1 Q2 Q3 : Int32 → HS → Prop} {v0 : Nat} {v1 : Int32} {v2 : Int32} {v3 : Int32} {v4 : Int32} {S : HS} (h1 : P_X11_worst_0 Q1 v0 v1 v2 v3 v4 S) (h2 : P_X11_worst_0 Q2 v0 v1 v2 v3 v4 S) (hq : ∀ (r : Int32) (T : HS), Q1 r T → Q2 r T → Q3 r T) : P_X11_worst_0 Q3 v0 v1 v2 v3 v4 S := by
  delta P_X11_worst_0 at h1 h2 ⊢
  obtain ⟨c1, h1⟩ := h1
  obtain ⟨_, h2⟩ := h2
  refine ⟨c1, ?_⟩
  intro x3 e2
  have h1 := h1 x3 e2
  have h2 := h2 x3 e2
  refine cm_X11_isWalker h1 h2 (fun x4 x5 h1 h2 g6 g7 => ?_)
  have h1 := h1 g6 g7
  have h2 := h2 g6 g7
  refine ⟨?_, ?_⟩
  · intro c8
    have h1 := h1.1 c8
    have h2 := h2.1 c8
    exact cm_X11_worst_39 h1 h2 hq
  · intro c9
    have h1 := h1.2 c9
    have h2 := h2.2 c9
    refine cm_X11_isRoad h1 h2 (fun x10 x11 h1 h2 g12 g13 => ?_)
    have h1 := h1 g12 g13
    have h2 := h2 g12 g13
    refine ⟨?_, ?_⟩
    · intro c14
      have h1 := h1.1 c14
      have h2 := h2.1 c14
      exact cm_X11_worst_39 h1 h2 hq
    · intro c15
      have h1 := h1.2 c15
      have h2 := h2.2 c15
      refine cm_X11_in h1 h2 (fun x16 x17 h1 h2 g18 g19 => ?_)
      have h1 := h1 g18 g19
      have h2 := h2 g18 g19
      refine ⟨?_, ?_⟩
      · intro c20
        have h1 := h1.1 c20
        have h2 := h2.1 c20
        exact cm_X11_worst_39 h1 h2 hq
      · intro c21
        have h1 := h1.2 c21
        have h2 := h2.2 c21
        refine cm_X11_isHour h1 h2 (fun x22 x23 h1 h2 g24 g25 => ?_)
        have h1 := h1 g24 g25
        have h2 := h2 g24 g25
        refine ⟨?_, ?_⟩
        · intro c26
          have h1 := h1.1 c26
          have h2 := h2.1 c26
          obtain ⟨b27, e28, h1⟩ := h1
          obtain ⟨b29, e30, h2⟩ := h2
          cases e28.symm.trans e30
          refine ⟨b27, e28, ?_⟩
          obtain ⟨c31, h1⟩ := h1
          obtain ⟨_, h2⟩ := h2
          refine ⟨c31, ?_⟩
          obtain ⟨b32, e33, h1⟩ := h1
          obtain ⟨b34, e35, h2⟩ := h2
          cases e33.symm.trans e35
          refine ⟨b32, e33, ?_⟩
          obtain ⟨c36, h1⟩ := h1
          obtain ⟨_, h2⟩ := h2
          refine ⟨c36, ?_⟩
          obtain ⟨c37, h1⟩ := h1
          obtain ⟨_, h2⟩ := h2
          refine ⟨c37, ?_⟩
          intro x39 e38
          have h1 := h1 x39 e38
          have h2 := h2 x39 e38
          intro x41 e40
          have h1 := h1 x41 e40
          have h2 := h2 x41 e40
          exact cm_X11_worst_62 h1 h2 hq
        · intro c42
          have h1 := h1.2 c42
          have h2 := h2.2 c42
          exact cm_X11_worst_39 h1 h2 hq
theorem cm_X11_worst {Q1 Q2 Q3 : Int32 → HS → Prop} {v0 : Nat} {v1 : Int32} {v2 : Int32} {v3 : Int32} {v4 : Int32} {S : HS} (h1 : P_X11_worst v0 v1 v2 v3 v4 Q1 S) (h2 : P_X11_worst v0 v1 v2 v3 v4 Q2 S) (hq : ∀ (r : Int32) (T : HS), Q1 r T → Q2 r T → Q3 r T) : P_X11_worst v0 v1 v2 v3 v4 Q3 S := cm_X11_worst_0 h1 h2 hq
set_option maxRecDepth 20000 in
set_option maxHeartbeats 1000000 in
theorem cm_X5_turnOf_17 {Q1 Q2 Q3 : Int32 → HS → Prop} {v2 : Nat} {s0 : Int32} {S : HS} (h1 : P_X5_turnOf_17 Q1 v2 s0 S) (h2 : P_X5_turnOf_17 Q2 v2 s0 S) (hq : ∀ (r : Int32) (T : HS), Q1 r T → Q2 r T → Q3 r T) : P_X5_turnOf_17 Q3 v2 s0 S := by
  delta P_X5_turnOf_17 at h1 h2 ⊢
  obtain ⟨c1, h1⟩ := h1
  obtain ⟨_, h2⟩ := h2
  refine ⟨c1, ?_⟩
  intro x3 e2
  have h1 := h1 x3 e2
  have h2 := h2 x3 e2
  exact hq _ _ h1 h2
set_option maxRecDepth 20000 in
set_option maxHeartbeats 1000000 in
theorem cm_X5_turnOf_0 {Q1 Q2 Q3 : Int32 → HS → Prop} {v0 : Nat} {v1 : Int32} {v2 : Nat} {S : HS} (h1 : P_X5_turnOf_0 Q1 v0 v1 v2 S) (h2 : P_X5_turnOf_0 Q2 v0 v1 v2 S) (hq : ∀ (r : Int32) (T : HS), Q1 r T → Q2 r T → Q3 r T) : P_X5_turnOf_0 Q3 v0 v1 v2 S := by
  delta P_X5_turnOf_0 at h1 h2 ⊢
  refine ⟨?_, ?_⟩
  · intro c1
    have h1 := h1.1 c1
    have h2 := h2.1 c1
    obtain ⟨c2, h1⟩ := h1
    obtain ⟨_, h2⟩ := h2
    refine ⟨c2, ?_⟩
    intro x4 e3
    have h1 := h1 x4 e3
    have h2 := h2 x4 e3
    exact cm_X5_turnOf_17 h1 h2 hq
  · intro c5
    have h1 := h1.2 c5
    have h2 := h2.2 c5
    obtain ⟨c6, h1⟩ := h1
    obtain ⟨_, h2⟩ := h2
    refine ⟨c6, ?_⟩
    intro x8 e7
    have h1 := h1 x8 e7
    have h2 := h2 x8 e7
    exact cm_X5_turnOf_17 h1 h2 hq
theorem cm_X5_turnOf {Q1 Q2 Q3 : Int32 → HS → Prop} {v0 : Nat} {v1 : Int32} {v2 : Nat} {S : HS} (h1 : P_X5_turnOf v0 v1 v2 Q1 S) (h2 : P_X5_turnOf v0 v1 v2 Q2 S) (hq : ∀ (r : Int32) (T : HS), Q1 r T → Q2 r T → Q3 r T) : P_X5_turnOf v0 v1 v2 Q3 S := cm_X5_turnOf_0 h1 h2 hq
set_option maxRecDepth 20000 in
set_option maxHeartbeats 1000000 in
theorem cm_X5_airAlong_0 {Q1 Q2 Q3 : Int32 → HS → Prop} {v0 : Nat} {v1 : Int32} {v2 : Nat} {S : HS} (h1 : P_X5_airAlong_0 Q1 v0 v1 v2 S) (h2 : P_X5_airAlong_0 Q2 v0 v1 v2 S) (hq : ∀ (r : Int32) (T : HS), Q1 r T → Q2 r T → Q3 r T) : P_X5_airAlong_0 Q3 v0 v1 v2 S := by
  delta P_X5_airAlong_0 at h1 h2 ⊢
  obtain ⟨c1, h1⟩ := h1
  obtain ⟨_, h2⟩ := h2
  refine ⟨c1, ?_⟩
  refine cm_X5_turnOf h1 h2 (fun x2 x3 h1 h2 g4 => ?_)
  have h1 := h1 g4
  have h2 := h2 g4
  refine ⟨?_, ?_⟩
  · intro c5
    have h1 := h1.1 c5
    have h2 := h2.1 c5
    refine ⟨?_, ?_⟩
    · intro c6
      have h1 := h1.1 c6
      have h2 := h2.1 c6
      exact hq _ _ h1 h2
    · intro c7
      have h1 := h1.2 c7
      have h2 := h2.2 c7
      obtain ⟨c8, h1⟩ := h1
      obtain ⟨_, h2⟩ := h2
      refine ⟨c8, ?_⟩
      intro x10 e9
      have h1 := h1 x10 e9
      have h2 := h2 x10 e9
      exact hq _ _ h1 h2
  · intro c11
    have h1 := h1.2 c11
    have h2 := h2.2 c11
    obtain ⟨c12, h1⟩ := h1
    obtain ⟨_, h2⟩ := h2
    refine ⟨c12, ?_⟩
    intro x14 e13
    have h1 := h1 x14 e13
    have h2 := h2 x14 e13
    exact hq _ _ h1 h2
theorem cm_X5_airAlong {Q1 Q2 Q3 : Int32 → HS → Prop} {v0 : Nat} {v1 : Int32} {v2 : Nat} {S : HS} (h1 : P_X5_airAlong v0 v1 v2 Q1 S) (h2 : P_X5_airAlong v0 v1 v2 Q2 S) (hq : ∀ (r : Int32) (T : HS), Q1 r T → Q2 r T → Q3 r T) : P_X5_airAlong v0 v1 v2 Q3 S := cm_X5_airAlong_0 h1 h2 hq
set_option maxRecDepth 20000 in
set_option maxHeartbeats 1000000 in
theorem cm_X1_lay_130 {Q1 Q2 Q3 : HS → Prop} {v0 : Nat} {v3 : Nat} {v7 : Int64} {v9 : Int32} {s0 : Nat} {s1 : Int32} {s2 : Int64} {S : HS} (h1 : P_X1_lay_130 Q1 v0 v3 v7 v9 s0 s1 s2 S) (h2 : P_X1_lay_130 Q2 v0 v3 v7 v9 s0 s1 s2 S) (hq : ∀ (T : HS), Q1 T → Q2 T → Q3 T) : P_X1_lay_130 Q3 v0 v3 v7 v9 s0 s1 s2 S := by
  delta P_X1_lay_130 at h1 h2 ⊢
  obtain ⟨c1, h1⟩ := h1
  obtain ⟨_, h2⟩ := h2
  refine ⟨c1, ?_⟩
  obtain ⟨c2, h1⟩ := h1
  obtain ⟨_, h2⟩ := h2
  refine ⟨c2, ?_⟩
  intro x4 e3
  have h1 := h1 x4 e3
  have h2 := h2 x4 e3
  obtain ⟨c5, h1⟩ := h1
  obtain ⟨_, h2⟩ := h2
  refine ⟨c5, ?_⟩
  obtain ⟨b6, e7, h1⟩ := h1
  obtain ⟨b8, e9, h2⟩ := h2
  cases e7.symm.trans e9
  refine ⟨b6, e7, ?_⟩
  refine ⟨?_, ?_⟩
  · intro c10
    have h1 := h1.1 c10
    have h2 := h2.1 c10
    obtain ⟨c11, h1⟩ := h1
    obtain ⟨_, h2⟩ := h2
    refine ⟨c11, ?_⟩
    obtain ⟨c12, h1⟩ := h1
    obtain ⟨_, h2⟩ := h2
    refine ⟨c12, ?_⟩
    intro x14 e13
    have h1 := h1 x14 e13
    have h2 := h2 x14 e13
    exact hq _ h1 h2
  · intro c15
    have h1 := h1.2 c15
    have h2 := h2.2 c15
    obtain ⟨c16, h1⟩ := h1
    obtain ⟨_, h2⟩ := h2
    refine ⟨c16, ?_⟩
    intro x18 e17
    have h1 := h1 x18 e17
    have h2 := h2 x18 e17
    obtain ⟨c19, h1⟩ := h1
    obtain ⟨_, h2⟩ := h2
    refine ⟨c19, ?_⟩
    intro x21 e20
    have h1 := h1 x21 e20
    have h2 := h2 x21 e20
    obtain ⟨c22, h1⟩ := h1
    obtain ⟨_, h2⟩ := h2
    refine ⟨c22, ?_⟩
    intro x24 e23
    have h1 := h1 x24 e23
    have h2 := h2 x24 e23
    exact hq _ h1 h2
set_option maxRecDepth 20000 in
set_option maxHeartbeats 1000000 in
theorem cm_X1_lay_27 {Q1 Q2 Q3 : HS → Prop} {v0 : Nat} {v1 : Nat} {v2 : Int32} {v3 : Nat} {v4 : Int32} {s0 : Int64} {S : HS} (h1 : P_X1_lay_27 Q1 v0 v1 v2 v3 v4 s0 S) (h2 : P_X1_lay_27 Q2 v0 v1 v2 v3 v4 s0 S) (hq : ∀ (T : HS), Q1 T → Q2 T → Q3 T) : P_X1_lay_27 Q3 v0 v1 v2 v3 v4 s0 S := by
  delta P_X1_lay_27 at h1 h2 ⊢
  obtain ⟨c1, h1⟩ := h1
  obtain ⟨_, h2⟩ := h2
  refine ⟨c1, ?_⟩
  intro x3 e2
  have h1 := h1 x3 e2
  have h2 := h2 x3 e2
  intro x5 e4
  have h1 := h1 x5 e4
  have h2 := h2 x5 e4
  obtain ⟨c6, h1⟩ := h1
  obtain ⟨_, h2⟩ := h2
  refine ⟨c6, ?_⟩
  refine cm_X5_turnOf h1 h2 (fun x7 x8 h1 h2 g9 => ?_)
  have h1 := h1 g9
  have h2 := h2 g9
  refine cm_X5_airAlong h1 h2 (fun x10 x11 h1 h2 g12 => ?_)
  have h1 := h1 g12
  have h2 := h2 g12
  obtain ⟨c13, h1⟩ := h1
  obtain ⟨_, h2⟩ := h2
  refine ⟨c13, ?_⟩
  obtain ⟨b14, e15, h1⟩ := h1
  obtain ⟨b16, e17, h2⟩ := h2
  cases e15.symm.trans e17
  refine ⟨b14, e15, ?_⟩
  intro x19 e18
  have h1 := h1 x19 e18
  have h2 := h2 x19 e18
  obtain ⟨c20, h1⟩ := h1
  obtain ⟨_, h2⟩ := h2
  refine ⟨c20, ?_⟩
  intro x22 e21
  have h1 := h1 x22 e21
  have h2 := h2 x22 e21
  obtain ⟨c23, h1⟩ := h1
  obtain ⟨_, h2⟩ := h2
  refine ⟨c23, ?_⟩
  intro x25 e24
  have h1 := h1 x25 e24
  have h2 := h2 x25 e24
  obtain ⟨b26, e27, h1⟩ := h1
  obtain ⟨b28, e29, h2⟩ := h2
  cases e27.symm.trans e29
  refine ⟨b26, e27, ?_⟩
  intro x31 e30
  have h1 := h1 x31 e30
  have h2 := h2 x31 e30
  obtain ⟨c32, h1⟩ := h1
  obtain ⟨_, h2⟩ := h2
  refine ⟨c32, ?_⟩
  intro x34 e33
  have h1 := h1 x34 e33
  have h2 := h2 x34 e33
  obtain ⟨c35, h1⟩ := h1
  obtain ⟨_, h2⟩ := h2
  refine ⟨c35, ?_⟩
  intro x37 e36
  have h1 := h1 x37 e36
  have h2 := h2 x37 e36
  obtain ⟨b38, e39, h1⟩ := h1
  obtain ⟨b40, e41, h2⟩ := h2
  cases e39.symm.trans e41
  refine ⟨b38, e39, ?_⟩
  intro x43 e42
  have h1 := h1 x43 e42
  have h2 := h2 x43 e42
  obtain ⟨c44, h1⟩ := h1
  obtain ⟨_, h2⟩ := h2
  refine ⟨c44, ?_⟩
  intro x46 e45
  have h1 := h1 x46 e45
  have h2 := h2 x46 e45
  obtain ⟨c47, h1⟩ := h1
  obtain ⟨_, h2⟩ := h2
  refine ⟨c47, ?_⟩
  intro x49 e48
  have h1 := h1 x49 e48
  have h2 := h2 x49 e48
  obtain ⟨b50, e51, h1⟩ := h1
  obtain ⟨b52, e53, h2⟩ := h2
  cases e51.symm.trans e53
  refine ⟨b50, e51, ?_⟩
  refine ⟨?_, ?_⟩
  · intro c54
    have h1 := h1.1 c54
    have h2 := h2.1 c54
    exact cm_X1_lay_130 h1 h2 hq
  · intro c55
    have h1 := h1.2 c55
    have h2 := h2.2 c55
    intro x57 e56
    have h1 := h1 x57 e56
    have h2 := h2 x57 e56
    exact cm_X1_lay_130 h1 h2 hq
set_option maxRecDepth 20000 in
set_option maxHeartbeats 1000000 in
theorem cm_X1_lay_0 {Q1 Q2 Q3 : HS → Prop} {v0 : Nat} {v1 : Nat} {v2 : Int32} {v3 : Nat} {v4 : Int32} {S : HS} (h1 : P_X1_lay_0 Q1 v0 v1 v2 v3 v4 S) (h2 : P_X1_lay_0 Q2 v0 v1 v2 v3 v4 S) (hq : ∀ (T : HS), Q1 T → Q2 T → Q3 T) : P_X1_lay_0 Q3 v0 v1 v2 v3 v4 S := by
  delta P_X1_lay_0 at h1 h2 ⊢
  refine ⟨?_, ?_⟩
  · intro c1
    have h1 := h1.1 c1
    have h2 := h2.1 c1
    exact cm_X1_lay_27 h1 h2 hq
  · intro c2
    have h1 := h1.2 c2
    have h2 := h2.2 c2
    obtain ⟨c3, h1⟩ := h1
    obtain ⟨_, h2⟩ := h2
    refine ⟨c3, ?_⟩
    intro x5 e4
    have h1 := h1 x5 e4
    have h2 := h2 x5 e4
    intro x7 e6
    have h1 := h1 x7 e6
    have h2 := h2 x7 e6
    obtain ⟨c8, h1⟩ := h1
    obtain ⟨_, h2⟩ := h2
    refine ⟨c8, ?_⟩
    intro x10 e9
    have h1 := h1 x10 e9
    have h2 := h2 x10 e9
    exact cm_X1_lay_27 h1 h2 hq
theorem cm_X1_lay {Q1 Q2 Q3 : HS → Prop} {v0 : Nat} {v1 : Nat} {v2 : Int32} {v3 : Nat} {v4 : Int32} {S : HS} (h1 : P_X1_lay v0 v1 v2 v3 v4 Q1 S) (h2 : P_X1_lay v0 v1 v2 v3 v4 Q2 S) (hq : ∀ (T : HS), Q1 T → Q2 T → Q3 T) : P_X1_lay v0 v1 v2 v3 v4 Q3 S := cm_X1_lay_0 h1 h2 hq
set_option maxRecDepth 20000 in
set_option maxHeartbeats 1000000 in
theorem cm_X6_shield_0 {Q1 Q2 Q3 : Int32 → HS → Prop} {v0 : Nat} {S : HS} (h1 : P_X6_shield_0 Q1 v0 S) (h2 : P_X6_shield_0 Q2 v0 S) (hq : ∀ (r : Int32) (T : HS), Q1 r T → Q2 r T → Q3 r T) : P_X6_shield_0 Q3 v0 S := by
  delta P_X6_shield_0 at h1 h2 ⊢
  obtain ⟨c1, h1⟩ := h1
  obtain ⟨_, h2⟩ := h2
  refine ⟨c1, ?_⟩
  intro x3 e2
  have h1 := h1 x3 e2
  have h2 := h2 x3 e2
  refine ⟨?_, ?_⟩
  · intro c4
    have h1 := h1.1 c4
    have h2 := h2.1 c4
    exact hq _ _ h1 h2
  · intro c5
    have h1 := h1.2 c5
    have h2 := h2.2 c5
    intro x7 e6
    have h1 := h1 x7 e6
    have h2 := h2 x7 e6
    exact hq _ _ h1 h2
theorem cm_X6_shield {Q1 Q2 Q3 : Int32 → HS → Prop} {v0 : Nat} {S : HS} (h1 : P_X6_shield v0 Q1 S) (h2 : P_X6_shield v0 Q2 S) (hq : ∀ (r : Int32) (T : HS), Q1 r T → Q2 r T → Q3 r T) : P_X6_shield v0 Q3 S := cm_X6_shield_0 h1 h2 hq
set_option maxRecDepth 20000 in
set_option maxHeartbeats 1000000 in
theorem cm_X1_isForward_0 {Q1 Q2 Q3 : Int32 → HS → Prop} {v0 : Nat} {v1 : Nat} {S : HS} (h1 : P_X1_isForward_0 Q1 v0 v1 S) (h2 : P_X1_isForward_0 Q2 v0 v1 S) (hq : ∀ (r : Int32) (T : HS), Q1 r T → Q2 r T → Q3 r T) : P_X1_isForward_0 Q3 v0 v1 S := by
  delta P_X1_isForward_0 at h1 h2 ⊢
  obtain ⟨c1, h1⟩ := h1
  obtain ⟨_, h2⟩ := h2
  refine ⟨c1, ?_⟩
  obtain ⟨b2, e3, h1⟩ := h1
  obtain ⟨b4, e5, h2⟩ := h2
  cases e3.symm.trans e5
  refine ⟨b2, e3, ?_⟩
  obtain ⟨c6, h1⟩ := h1
  obtain ⟨_, h2⟩ := h2
  refine ⟨c6, ?_⟩
  obtain ⟨c7, h1⟩ := h1
  obtain ⟨_, h2⟩ := h2
  refine ⟨c7, ?_⟩
  intro x9 e8
  have h1 := h1 x9 e8
  have h2 := h2 x9 e8
  obtain ⟨c10, h1⟩ := h1
  obtain ⟨_, h2⟩ := h2
  refine ⟨c10, ?_⟩
  refine cm_X6_shield h1 h2 (fun x11 x12 h1 h2 g13 => ?_)
  have h1 := h1 g13
  have h2 := h2 g13
  intro x15 e14
  have h1 := h1 x15 e14
  have h2 := h2 x15 e14
  intro x17 e16
  have h1 := h1 x17 e16
  have h2 := h2 x17 e16
  intro x19 e18
  have h1 := h1 x19 e18
  have h2 := h2 x19 e18
  obtain ⟨b20, e21, h1⟩ := h1
  obtain ⟨b22, e23, h2⟩ := h2
  cases e21.symm.trans e23
  refine ⟨b20, e21, ?_⟩
  obtain ⟨c24, h1⟩ := h1
  obtain ⟨_, h2⟩ := h2
  refine ⟨c24, ?_⟩
  obtain ⟨c25, h1⟩ := h1
  obtain ⟨_, h2⟩ := h2
  refine ⟨c25, ?_⟩
  intro x27 e26
  have h1 := h1 x27 e26
  have h2 := h2 x27 e26
  refine cm_X6_shield h1 h2 (fun x28 x29 h1 h2 g30 => ?_)
  have h1 := h1 g30
  have h2 := h2 g30
  intro x32 e31
  have h1 := h1 x32 e31
  have h2 := h2 x32 e31
  intro x34 e33
  have h1 := h1 x34 e33
  have h2 := h2 x34 e33
  intro x36 e35
  have h1 := h1 x36 e35
  have h2 := h2 x36 e35
  refine ⟨?_, ?_⟩
  · intro c37
    have h1 := h1.1 c37
    have h2 := h2.1 c37
    exact hq _ _ h1 h2
  · intro c38
    have h1 := h1.2 c38
    have h2 := h2.2 c38
    exact hq _ _ h1 h2
theorem cm_X1_isForward {Q1 Q2 Q3 : Int32 → HS → Prop} {v0 : Nat} {v1 : Nat} {S : HS} (h1 : P_X1_isForward v0 v1 Q1 S) (h2 : P_X1_isForward v0 v1 Q2 S) (hq : ∀ (r : Int32) (T : HS), Q1 r T → Q2 r T → Q3 r T) : P_X1_isForward v0 v1 Q3 S := cm_X1_isForward_0 h1 h2 hq
set_option maxRecDepth 20000 in
set_option maxHeartbeats 1000000 in
theorem cm_X1_soak_35 {Q1 Q2 Q3 : Int64 → HS → Prop} {v0 : Nat} {v1 : Nat} {v2 : Int32} {v3 : Int32} {v5 : Int32} {s0 : Int32} {S : HS} (h1 : P_X1_soak_35 Q1 v0 v1 v2 v3 v5 s0 S) (h2 : P_X1_soak_35 Q2 v0 v1 v2 v3 v5 s0 S) (hq : ∀ (r : Int64) (T : HS), Q1 r T → Q2 r T → Q3 r T) : P_X1_soak_35 Q3 v0 v1 v2 v3 v5 s0 S := by
  delta P_X1_soak_35 at h1 h2 ⊢
  obtain ⟨c1, h1⟩ := h1
  obtain ⟨_, h2⟩ := h2
  refine ⟨c1, ?_⟩
  obtain ⟨b2, e3, h1⟩ := h1
  obtain ⟨b4, e5, h2⟩ := h2
  cases e3.symm.trans e5
  refine ⟨b2, e3, ?_⟩
  obtain ⟨b6, e7, h1⟩ := h1
  obtain ⟨b8, e9, h2⟩ := h2
  cases e7.symm.trans e9
  refine ⟨b6, e7, ?_⟩
  obtain ⟨c10, h1⟩ := h1
  obtain ⟨_, h2⟩ := h2
  refine ⟨c10, ?_⟩
  obtain ⟨c11, h1⟩ := h1
  obtain ⟨_, h2⟩ := h2
  refine ⟨c11, ?_⟩
  intro x13 e12
  have h1 := h1 x13 e12
  have h2 := h2 x13 e12
  obtain ⟨c14, h1⟩ := h1
  obtain ⟨_, h2⟩ := h2
  refine ⟨c14, ?_⟩
  intro x16 e15
  have h1 := h1 x16 e15
  have h2 := h2 x16 e15
  intro x18 e17
  have h1 := h1 x18 e17
  have h2 := h2 x18 e17
  obtain ⟨c19, h1⟩ := h1
  obtain ⟨_, h2⟩ := h2
  refine ⟨c19, ?_⟩
  intro x21 e20
  have h1 := h1 x21 e20
  have h2 := h2 x21 e20
  obtain ⟨c22, h1⟩ := h1
  obtain ⟨_, h2⟩ := h2
  refine ⟨c22, ?_⟩
  intro x24 e23
  have h1 := h1 x24 e23
  have h2 := h2 x24 e23
  obtain ⟨b25, e26, h1⟩ := h1
  obtain ⟨b27, e28, h2⟩ := h2
  cases e26.symm.trans e28
  refine ⟨b25, e26, ?_⟩
  obtain ⟨b29, e30, h1⟩ := h1
  obtain ⟨b31, e32, h2⟩ := h2
  cases e30.symm.trans e32
  refine ⟨b29, e30, ?_⟩
  obtain ⟨c33, h1⟩ := h1
  obtain ⟨_, h2⟩ := h2
  refine ⟨c33, ?_⟩
  obtain ⟨c34, h1⟩ := h1
  obtain ⟨_, h2⟩ := h2
  refine ⟨c34, ?_⟩
  intro x36 e35
  have h1 := h1 x36 e35
  have h2 := h2 x36 e35
  intro x38 e37
  have h1 := h1 x38 e37
  have h2 := h2 x38 e37
  intro x40 e39
  have h1 := h1 x40 e39
  have h2 := h2 x40 e39
  obtain ⟨c41, h1⟩ := h1
  obtain ⟨_, h2⟩ := h2
  refine ⟨c41, ?_⟩
  intro x43 e42
  have h1 := h1 x43 e42
  have h2 := h2 x43 e42
  obtain ⟨c44, h1⟩ := h1
  obtain ⟨_, h2⟩ := h2
  refine ⟨c44, ?_⟩
  intro x46 e45
  have h1 := h1 x46 e45
  have h2 := h2 x46 e45
  obtain ⟨b47, e48, h1⟩ := h1
  obtain ⟨b49, e50, h2⟩ := h2
  cases e48.symm.trans e50
  refine ⟨b47, e48, ?_⟩
  obtain ⟨b51, e52, h1⟩ := h1
  obtain ⟨b53, e54, h2⟩ := h2
  cases e52.symm.trans e54
  refine ⟨b51, e52, ?_⟩
  obtain ⟨c55, h1⟩ := h1
  obtain ⟨_, h2⟩ := h2
  refine ⟨c55, ?_⟩
  obtain ⟨c56, h1⟩ := h1
  obtain ⟨_, h2⟩ := h2
  refine ⟨c56, ?_⟩
  intro x58 e57
  have h1 := h1 x58 e57
  have h2 := h2 x58 e57
  intro x60 e59
  have h1 := h1 x60 e59
  have h2 := h2 x60 e59
  intro x62 e61
  have h1 := h1 x62 e61
  have h2 := h2 x62 e61
  obtain ⟨c63, h1⟩ := h1
  obtain ⟨_, h2⟩ := h2
  refine ⟨c63, ?_⟩
  intro x65 e64
  have h1 := h1 x65 e64
  have h2 := h2 x65 e64
  obtain ⟨c66, h1⟩ := h1
  obtain ⟨_, h2⟩ := h2
  refine ⟨c66, ?_⟩
  intro x68 e67
  have h1 := h1 x68 e67
  have h2 := h2 x68 e67
  obtain ⟨b69, e70, h1⟩ := h1
  obtain ⟨b71, e72, h2⟩ := h2
  cases e70.symm.trans e72
  refine ⟨b69, e70, ?_⟩
  obtain ⟨b73, e74, h1⟩ := h1
  obtain ⟨b75, e76, h2⟩ := h2
  cases e74.symm.trans e76
  refine ⟨b73, e74, ?_⟩
  obtain ⟨c77, h1⟩ := h1
  obtain ⟨_, h2⟩ := h2
  refine ⟨c77, ?_⟩
  obtain ⟨c78, h1⟩ := h1
  obtain ⟨_, h2⟩ := h2
  refine ⟨c78, ?_⟩
  intro x80 e79
  have h1 := h1 x80 e79
  have h2 := h2 x80 e79
  intro x82 e81
  have h1 := h1 x82 e81
  have h2 := h2 x82 e81
  obtain ⟨c83, h1⟩ := h1
  obtain ⟨_, h2⟩ := h2
  refine ⟨c83, ?_⟩
  intro x85 e84
  have h1 := h1 x85 e84
  have h2 := h2 x85 e84
  obtain ⟨c86, h1⟩ := h1
  obtain ⟨_, h2⟩ := h2
  refine ⟨c86, ?_⟩
  intro x88 e87
  have h1 := h1 x88 e87
  have h2 := h2 x88 e87
  obtain ⟨b89, e90, h1⟩ := h1
  obtain ⟨b91, e92, h2⟩ := h2
  cases e90.symm.trans e92
  refine ⟨b89, e90, ?_⟩
  obtain ⟨b93, e94, h1⟩ := h1
  obtain ⟨b95, e96, h2⟩ := h2
  cases e94.symm.trans e96
  refine ⟨b93, e94, ?_⟩
  obtain ⟨c97, h1⟩ := h1
  obtain ⟨_, h2⟩ := h2
  refine ⟨c97, ?_⟩
  obtain ⟨c98, h1⟩ := h1
  obtain ⟨_, h2⟩ := h2
  refine ⟨c98, ?_⟩
  intro x100 e99
  have h1 := h1 x100 e99
  have h2 := h2 x100 e99
  intro x102 e101
  have h1 := h1 x102 e101
  have h2 := h2 x102 e101
  obtain ⟨c103, h1⟩ := h1
  obtain ⟨_, h2⟩ := h2
  refine ⟨c103, ?_⟩
  intro x105 e104
  have h1 := h1 x105 e104
  have h2 := h2 x105 e104
  obtain ⟨c106, h1⟩ := h1
  obtain ⟨_, h2⟩ := h2
  refine ⟨c106, ?_⟩
  intro x108 e107
  have h1 := h1 x108 e107
  have h2 := h2 x108 e107
  obtain ⟨b109, e110, h1⟩ := h1
  obtain ⟨b111, e112, h2⟩ := h2
  cases e110.symm.trans e112
  refine ⟨b109, e110, ?_⟩
  obtain ⟨c113, h1⟩ := h1
  obtain ⟨_, h2⟩ := h2
  refine ⟨c113, ?_⟩
  obtain ⟨c114, h1⟩ := h1
  obtain ⟨_, h2⟩ := h2
  refine ⟨c114, ?_⟩
  intro x116 e115
  have h1 := h1 x116 e115
  have h2 := h2 x116 e115
  obtain ⟨b117, e118, h1⟩ := h1
  obtain ⟨b119, e120, h2⟩ := h2
  cases e118.symm.trans e120
  refine ⟨b117, e118, ?_⟩
  obtain ⟨c121, h1⟩ := h1
  obtain ⟨_, h2⟩ := h2
  refine ⟨c121, ?_⟩
  obtain ⟨c122, h1⟩ := h1
  obtain ⟨_, h2⟩ := h2
  refine ⟨c122, ?_⟩
  intro x124 e123
  have h1 := h1 x124 e123
  have h2 := h2 x124 e123
  obtain ⟨b125, e126, h1⟩ := h1
  obtain ⟨b127, e128, h2⟩ := h2
  cases e126.symm.trans e128
  refine ⟨b125, e126, ?_⟩
  obtain ⟨c129, h1⟩ := h1
  obtain ⟨_, h2⟩ := h2
  refine ⟨c129, ?_⟩
  obtain ⟨c130, h1⟩ := h1
  obtain ⟨_, h2⟩ := h2
  refine ⟨c130, ?_⟩
  intro x132 e131
  have h1 := h1 x132 e131
  have h2 := h2 x132 e131
  obtain ⟨b133, e134, h1⟩ := h1
  obtain ⟨b135, e136, h2⟩ := h2
  cases e134.symm.trans e136
  refine ⟨b133, e134, ?_⟩
  obtain ⟨c137, h1⟩ := h1
  obtain ⟨_, h2⟩ := h2
  refine ⟨c137, ?_⟩
  obtain ⟨c138, h1⟩ := h1
  obtain ⟨_, h2⟩ := h2
  refine ⟨c138, ?_⟩
  intro x140 e139
  have h1 := h1 x140 e139
  have h2 := h2 x140 e139
  obtain ⟨b141, e142, h1⟩ := h1
  obtain ⟨b143, e144, h2⟩ := h2
  cases e142.symm.trans e144
  refine ⟨b141, e142, ?_⟩
  obtain ⟨c145, h1⟩ := h1
  obtain ⟨_, h2⟩ := h2
  refine ⟨c145, ?_⟩
  obtain ⟨c146, h1⟩ := h1
  obtain ⟨_, h2⟩ := h2
  refine ⟨c146, ?_⟩
  intro x148 e147
  have h1 := h1 x148 e147
  have h2 := h2 x148 e147
  exact hq _ _ h1 h2
set_option maxRecDepth 20000 in
set_option maxHeartbeats 1000000 in
theorem cm_X1_soak_20 {Q1 Q2 Q3 : Int64 → HS → Prop} {v0 : Nat} {v1 : Nat} {v2 : Int32} {v3 : Int32} {v4 : Int32} {s0 : Int32} {S : HS} (h1 : P_X1_soak_20 Q1 v0 v1 v2 v3 v4 s0 S) (h2 : P_X1_soak_20 Q2 v0 v1 v2 v3 v4 s0 S) (hq : ∀ (r : Int64) (T : HS), Q1 r T → Q2 r T → Q3 r T) : P_X1_soak_20 Q3 v0 v1 v2 v3 v4 s0 S := by
  delta P_X1_soak_20 at h1 h2 ⊢
  refine ⟨?_, ?_⟩
  · intro c1
    have h1 := h1.1 c1
    have h2 := h2.1 c1
    exact cm_X1_soak_35 h1 h2 hq
  · intro c2
    have h1 := h1.2 c2
    have h2 := h2.2 c2
    obtain ⟨c3, h1⟩ := h1
    obtain ⟨_, h2⟩ := h2
    refine ⟨c3, ?_⟩
    refine cm_X6_shield h1 h2 (fun x4 x5 h1 h2 g6 => ?_)
    have h1 := h1 g6
    have h2 := h2 g6
    exact cm_X1_soak_35 h1 h2 hq
set_option maxRecDepth 20000 in
set_option maxHeartbeats 1000000 in
theorem cm_X1_soak_0 {Q1 Q2 Q3 : Int64 → HS → Prop} {v0 : Nat} {v1 : Nat} {v2 : Int32} {v3 : Int32} {S : HS} (h1 : P_X1_soak_0 Q1 v0 v1 v2 v3 S) (h2 : P_X1_soak_0 Q2 v0 v1 v2 v3 S) (hq : ∀ (r : Int64) (T : HS), Q1 r T → Q2 r T → Q3 r T) : P_X1_soak_0 Q3 v0 v1 v2 v3 S := by
  delta P_X1_soak_0 at h1 h2 ⊢
  obtain ⟨c1, h1⟩ := h1
  obtain ⟨_, h2⟩ := h2
  refine ⟨c1, ?_⟩
  refine cm_X1_isForward h1 h2 (fun x2 x3 h1 h2 g4 g5 => ?_)
  have h1 := h1 g4 g5
  have h2 := h2 g4 g5
  refine ⟨?_, ?_⟩
  · intro c6
    have h1 := h1.1 c6
    have h2 := h2.1 c6
    obtain ⟨c7, h1⟩ := h1
    obtain ⟨_, h2⟩ := h2
    refine ⟨c7, ?_⟩
    refine cm_X6_shield h1 h2 (fun x8 x9 h1 h2 g10 => ?_)
    have h1 := h1 g10
    have h2 := h2 g10
    exact cm_X1_soak_20 h1 h2 hq
  · intro c11
    have h1 := h1.2 c11
    have h2 := h2.2 c11
    exact cm_X1_soak_20 h1 h2 hq
theorem cm_X1_soak {Q1 Q2 Q3 : Int64 → HS → Prop} {v0 : Nat} {v1 : Nat} {v2 : Int32} {v3 : Int32} {S : HS} (h1 : P_X1_soak v0 v1 v2 v3 Q1 S) (h2 : P_X1_soak v0 v1 v2 v3 Q2 S) (hq : ∀ (r : Int64) (T : HS), Q1 r T → Q2 r T → Q3 r T) : P_X1_soak v0 v1 v2 v3 Q3 S := cm_X1_soak_0 h1 h2 hq
set_option maxRecDepth 20000 in
set_option maxHeartbeats 1000000 in
theorem cm_X1_wetOf_0 {Q1 Q2 Q3 : Int64 → HS → Prop} {v0 : Nat} {v1 : Nat} {v2 : Nat} {v3 : Int32} {v4 : Nat} {v5 : Int32} {S : HS} (h1 : P_X1_wetOf_0 Q1 v0 v1 v2 v3 v4 v5 S) (h2 : P_X1_wetOf_0 Q2 v0 v1 v2 v3 v4 v5 S) (hq : ∀ (r : Int64) (T : HS), Q1 r T → Q2 r T → Q3 r T) : P_X1_wetOf_0 Q3 v0 v1 v2 v3 v4 v5 S := by
  delta P_X1_wetOf_0 at h1 h2 ⊢
  obtain ⟨c1, h1⟩ := h1
  obtain ⟨_, h2⟩ := h2
  refine ⟨c1, ?_⟩
  refine cm_X1_lay h1 h2 (fun x2 h1 h2 g3 => ?_)
  have h1 := h1 g3
  have h2 := h2 g3
  refine cm_X1_soak h1 h2 (fun x4 x5 h1 h2 g6 => ?_)
  have h1 := h1 g6
  have h2 := h2 g6
  exact hq _ _ h1 h2
theorem cm_X1_wetOf {Q1 Q2 Q3 : Int64 → HS → Prop} {v0 : Nat} {v1 : Nat} {v2 : Nat} {v3 : Int32} {v4 : Nat} {v5 : Int32} {S : HS} (h1 : P_X1_wetOf v0 v1 v2 v3 v4 v5 Q1 S) (h2 : P_X1_wetOf v0 v1 v2 v3 v4 v5 Q2 S) (hq : ∀ (r : Int64) (T : HS), Q1 r T → Q2 r T → Q3 r T) : P_X1_wetOf v0 v1 v2 v3 v4 v5 Q3 S := cm_X1_wetOf_0 h1 h2 hq
set_option maxRecDepth 20000 in
set_option maxHeartbeats 1000000 in
theorem cm_X1_bestSpeed_55 {Q1 Q2 Q3 : Int32 → HS → Prop} {X17_1 X17_2 X17_3 : Nat → Nat → Nat → Int32 → Nat → Int32 → Int64 → Int32 → HS → Prop} {v0 : Nat} {v1 : Nat} {v2 : Nat} {v3 : Int32} {v4 : Nat} {v5 : Int32} {v6 : Int64} {v8 : Int32} {S : HS} (h1 : P_X1_bestSpeed_55 Q1 X17_1 v0 v1 v2 v3 v4 v5 v6 v8 S) (h2 : P_X1_bestSpeed_55 Q2 X17_2 v0 v1 v2 v3 v4 v5 v6 v8 S) (hq : ∀ (r : Int32) (T : HS), Q1 r T → Q2 r T → Q3 r T) (hX17 : ∀ (u0 : Nat) (u1 : Nat) (u2 : Nat) (u3 : Int32) (u4 : Nat) (u5 : Int32) (u6 : Int64) (u7 : Int32) (u8 : HS), X17_1 u0 u1 u2 u3 u4 u5 u6 u7 u8 → X17_2 u0 u1 u2 u3 u4 u5 u6 u7 u8 → X17_3 u0 u1 u2 u3 u4 u5 u6 u7 u8) : P_X1_bestSpeed_55 Q3 X17_3 v0 v1 v2 v3 v4 v5 v6 v8 S := by
  delta P_X1_bestSpeed_55 at h1 h2 ⊢
  intro x2 e1
  have h1 := h1 x2 e1
  have h2 := h2 x2 e1
  exact hX17 _ _ _ _ _ _ _ _ _ h1 h2
set_option maxRecDepth 20000 in
set_option maxHeartbeats 1000000 in
theorem cmB_X1_bestSpeed_17 {Q1 Q2 Q3 : Int32 → HS → Prop} {X17_1 X17_2 X17_3 : Nat → Nat → Nat → Int32 → Nat → Int32 → Int64 → Int32 → HS → Prop} {v0 : Nat} {v1 : Nat} {v2 : Nat} {v3 : Int32} {v4 : Nat} {v5 : Int32} {v6 : Int64} {v8 : Int32} {S : HS} (h1 : B_X1_bestSpeed_17 Q1 X17_1 v0 v1 v2 v3 v4 v5 v6 v8 S) (h2 : B_X1_bestSpeed_17 Q2 X17_2 v0 v1 v2 v3 v4 v5 v6 v8 S) (hq : ∀ (r : Int32) (T : HS), Q1 r T → Q2 r T → Q3 r T) (hX17 : ∀ (u0 : Nat) (u1 : Nat) (u2 : Nat) (u3 : Int32) (u4 : Nat) (u5 : Int32) (u6 : Int64) (u7 : Int32) (u8 : HS), X17_1 u0 u1 u2 u3 u4 u5 u6 u7 u8 → X17_2 u0 u1 u2 u3 u4 u5 u6 u7 u8 → X17_3 u0 u1 u2 u3 u4 u5 u6 u7 u8) : B_X1_bestSpeed_17 Q3 X17_3 v0 v1 v2 v3 v4 v5 v6 v8 S := by
  delta B_X1_bestSpeed_17 at h1 h2 ⊢
  obtain ⟨c1, h1⟩ := h1
  obtain ⟨_, h2⟩ := h2
  refine ⟨c1, ?_⟩
  intro x3 e2
  have h1 := h1 x3 e2
  have h2 := h2 x3 e2
  refine ⟨?_, ?_⟩
  · intro c4
    have h1 := h1.1 c4
    have h2 := h2.1 c4
    exact hq _ _ h1 h2
  · intro c5
    have h1 := h1.2 c5
    have h2 := h2.2 c5
    obtain ⟨c6, h1⟩ := h1
    obtain ⟨_, h2⟩ := h2
    refine ⟨c6, ?_⟩
    refine cm_X1_wetOf h1 h2 (fun x7 x8 h1 h2 g9 => ?_)
    have h1 := h1 g9
    have h2 := h2 g9
    refine ⟨?_, ?_⟩
    · intro c10
      have h1 := h1.1 c10
      have h2 := h2.1 c10
      exact cm_X1_bestSpeed_55 h1 h2 hq hX17
    · intro c11
      have h1 := h1.2 c11
      have h2 := h2.2 c11
      exact cm_X1_bestSpeed_55 h1 h2 hq hX17
theorem fd_X1_bestSpeed_17 {Q : Int32 → HS → Prop} {v0 : Nat} {v1 : Nat} {v2 : Nat} {v3 : Int32} {v4 : Nat} {v5 : Int32} {v6 : Int64} {v8 : Int32} {S : HS} (h : B_X1_bestSpeed_17 Q (P_X1_bestSpeed_17 Q) v0 v1 v2 v3 v4 v5 v6 v8 S) : P_X1_bestSpeed_17 Q v0 v1 v2 v3 v4 v5 v6 v8 S := fun X hX => hX v0 v1 v2 v3 v4 v5 v6 v8 S (cmB_X1_bestSpeed_17 h h (fun _ _ a _ => a) (fun _ _ _ _ _ _ _ _ _ hp _ => hp X hX))
theorem uf_X1_bestSpeed_17 {Q : Int32 → HS → Prop} {v0 : Nat} {v1 : Nat} {v2 : Nat} {v3 : Int32} {v4 : Nat} {v5 : Int32} {v6 : Int64} {v8 : Int32} {S : HS} (h : P_X1_bestSpeed_17 Q v0 v1 v2 v3 v4 v5 v6 v8 S) : B_X1_bestSpeed_17 Q (P_X1_bestSpeed_17 Q) v0 v1 v2 v3 v4 v5 v6 v8 S := h (fun v0 v1 v2 v3 v4 v5 v6 v8 S => B_X1_bestSpeed_17 Q (P_X1_bestSpeed_17 Q) v0 v1 v2 v3 v4 v5 v6 v8 S) (fun v0 v1 v2 v3 v4 v5 v6 v8 S hB => cmB_X1_bestSpeed_17 hB hB (fun _ _ a _ => a) (fun _ _ _ _ _ _ _ _ _ hb _ => fd_X1_bestSpeed_17 hb))
theorem cm_X1_bestSpeed_17 {Q1 Q2 Q3 : Int32 → HS → Prop} {v0 : Nat} {v1 : Nat} {v2 : Nat} {v3 : Int32} {v4 : Nat} {v5 : Int32} {v6 : Int64} {v8 : Int32} {S : HS} (h1 : P_X1_bestSpeed_17 Q1 v0 v1 v2 v3 v4 v5 v6 v8 S) (h2 : P_X1_bestSpeed_17 Q2 v0 v1 v2 v3 v4 v5 v6 v8 S) (hq : ∀ (r : Int32) (T : HS), Q1 r T → Q2 r T → Q3 r T) : P_X1_bestSpeed_17 Q3 v0 v1 v2 v3 v4 v5 v6 v8 S := h1 (fun v0 v1 v2 v3 v4 v5 v6 v8 S => P_X1_bestSpeed_17 Q2 v0 v1 v2 v3 v4 v5 v6 v8 S → P_X1_bestSpeed_17 Q3 v0 v1 v2 v3 v4 v5 v6 v8 S) (fun v0 v1 v2 v3 v4 v5 v6 v8 S hB hp => fd_X1_bestSpeed_17 (cmB_X1_bestSpeed_17 hB (uf_X1_bestSpeed_17 hp) hq (fun _ _ _ _ _ _ _ _ _ hx hp => hx hp))) h2
set_option maxRecDepth 20000 in
set_option maxHeartbeats 1000000 in
theorem cm_X1_bestSpeed_0 {Q1 Q2 Q3 : Int32 → HS → Prop} {v0 : Nat} {v1 : Nat} {v2 : Nat} {v3 : Int32} {v4 : Nat} {S : HS} (h1 : P_X1_bestSpeed_0 Q1 v0 v1 v2 v3 v4 S) (h2 : P_X1_bestSpeed_0 Q2 v0 v1 v2 v3 v4 S) (hq : ∀ (r : Int32) (T : HS), Q1 r T → Q2 r T → Q3 r T) : P_X1_bestSpeed_0 Q3 v0 v1 v2 v3 v4 S := by
  delta P_X1_bestSpeed_0 at h1 h2 ⊢
  obtain ⟨c1, h1⟩ := h1
  obtain ⟨_, h2⟩ := h2
  refine ⟨c1, ?_⟩
  intro x3 e2
  have h1 := h1 x3 e2
  have h2 := h2 x3 e2
  intro x5 e4
  have h1 := h1 x5 e4
  have h2 := h2 x5 e4
  exact cm_X1_bestSpeed_17 h1 h2 hq
theorem cm_X1_bestSpeed {Q1 Q2 Q3 : Int32 → HS → Prop} {v0 : Nat} {v1 : Nat} {v2 : Nat} {v3 : Int32} {v4 : Nat} {S : HS} (h1 : P_X1_bestSpeed v0 v1 v2 v3 v4 Q1 S) (h2 : P_X1_bestSpeed v0 v1 v2 v3 v4 Q2 S) (hq : ∀ (r : Int32) (T : HS), Q1 r T → Q2 r T → Q3 r T) : P_X1_bestSpeed v0 v1 v2 v3 v4 Q3 S := cm_X1_bestSpeed_0 h1 h2 hq
set_option maxRecDepth 20000 in
set_option maxHeartbeats 1000000 in
theorem cm_X1_legsOf_0 {Q1 Q2 Q3 : Int32 → HS → Prop} {v0 : Nat} {S : HS} (h1 : P_X1_legsOf_0 Q1 v0 S) (h2 : P_X1_legsOf_0 Q2 v0 S) (hq : ∀ (r : Int32) (T : HS), Q1 r T → Q2 r T → Q3 r T) : P_X1_legsOf_0 Q3 v0 S := by
  delta P_X1_legsOf_0 at h1 h2 ⊢
  obtain ⟨c1, h1⟩ := h1
  obtain ⟨_, h2⟩ := h2
  refine ⟨c1, ?_⟩
  intro x3 e2
  have h1 := h1 x3 e2
  have h2 := h2 x3 e2
  intro x5 e4
  have h1 := h1 x5 e4
  have h2 := h2 x5 e4
  exact hq _ _ h1 h2
theorem cm_X1_legsOf {Q1 Q2 Q3 : Int32 → HS → Prop} {v0 : Nat} {S : HS} (h1 : P_X1_legsOf v0 Q1 S) (h2 : P_X1_legsOf v0 Q2 S) (hq : ∀ (r : Int32) (T : HS), Q1 r T → Q2 r T → Q3 r T) : P_X1_legsOf v0 Q3 S := cm_X1_legsOf_0 h1 h2 hq
set_option maxRecDepth 20000 in
set_option maxHeartbeats 1000000 in
theorem cm_X6_canGo_0 {Q1 Q2 Q3 : Int32 → HS → Prop} {v0 : Nat} {v1 : Int32} {S : HS} (h1 : P_X6_canGo_0 Q1 v0 v1 S) (h2 : P_X6_canGo_0 Q2 v0 v1 S) (hq : ∀ (r : Int32) (T : HS), Q1 r T → Q2 r T → Q3 r T) : P_X6_canGo_0 Q3 v0 v1 S := by
  delta P_X6_canGo_0 at h1 h2 ⊢
  obtain ⟨c1, h1⟩ := h1
  obtain ⟨_, h2⟩ := h2
  refine ⟨c1, ?_⟩
  intro x3 e2
  have h1 := h1 x3 e2
  have h2 := h2 x3 e2
  refine ⟨?_, ?_⟩
  · intro c4
    have h1 := h1.1 c4
    have h2 := h2.1 c4
    exact hq _ _ h1 h2
  · intro c5
    have h1 := h1.2 c5
    have h2 := h2.2 c5
    intro x7 e6
    have h1 := h1 x7 e6
    have h2 := h2 x7 e6
    refine ⟨?_, ?_⟩
    · intro c8
      have h1 := h1.1 c8
      have h2 := h2.1 c8
      exact hq _ _ h1 h2
    · intro c9
      have h1 := h1.2 c9
      have h2 := h2.2 c9
      refine ⟨?_, ?_⟩
      · intro c10
        have h1 := h1.1 c10
        have h2 := h2.1 c10
        exact hq _ _ h1 h2
      · intro c11
        have h1 := h1.2 c11
        have h2 := h2.2 c11
        refine ⟨?_, ?_⟩
        · intro c12
          have h1 := h1.1 c12
          have h2 := h2.1 c12
          exact hq _ _ h1 h2
        · intro c13
          have h1 := h1.2 c13
          have h2 := h2.2 c13
          exact hq _ _ h1 h2
theorem cm_X6_canGo {Q1 Q2 Q3 : Int32 → HS → Prop} {v0 : Nat} {v1 : Int32} {S : HS} (h1 : P_X6_canGo v0 v1 Q1 S) (h2 : P_X6_canGo v0 v1 Q2 S) (hq : ∀ (r : Int32) (T : HS), Q1 r T → Q2 r T → Q3 r T) : P_X6_canGo v0 v1 Q3 S := cm_X6_canGo_0 h1 h2 hq
set_option maxRecDepth 20000 in
set_option maxHeartbeats 1000000 in
theorem cm_X8_hasRoad_0 {Q1 Q2 Q3 : Int32 → HS → Prop} {v0 : Nat} {v1 : Int32} {S : HS} (h1 : P_X8_hasRoad_0 Q1 v0 v1 S) (h2 : P_X8_hasRoad_0 Q2 v0 v1 S) (hq : ∀ (r : Int32) (T : HS), Q1 r T → Q2 r T → Q3 r T) : P_X8_hasRoad_0 Q3 v0 v1 S := by
  delta P_X8_hasRoad_0 at h1 h2 ⊢
  refine ⟨?_, ?_⟩
  · intro c1
    have h1 := h1.1 c1
    have h2 := h2.1 c1
    exact hq _ _ h1 h2
  · intro c2
    have h1 := h1.2 c2
    have h2 := h2.2 c2
    obtain ⟨c3, h1⟩ := h1
    obtain ⟨_, h2⟩ := h2
    refine ⟨c3, ?_⟩
    intro x5 e4
    have h1 := h1 x5 e4
    have h2 := h2 x5 e4
    refine ⟨?_, ?_⟩
    · intro c6
      have h1 := h1.1 c6
      have h2 := h2.1 c6
      exact hq _ _ h1 h2
    · intro c7
      have h1 := h1.2 c7
      have h2 := h2.2 c7
      obtain ⟨b8, e9, h1⟩ := h1
      obtain ⟨b10, e11, h2⟩ := h2
      cases e9.symm.trans e11
      refine ⟨b8, e9, ?_⟩
      obtain ⟨c12, h1⟩ := h1
      obtain ⟨_, h2⟩ := h2
      refine ⟨c12, ?_⟩
      refine ⟨?_, ?_⟩
      · intro c13
        have h1 := h1.1 c13
        have h2 := h2.1 c13
        exact hq _ _ h1 h2
      · intro c14
        have h1 := h1.2 c14
        have h2 := h2.2 c14
        exact hq _ _ h1 h2
theorem cm_X8_hasRoad {Q1 Q2 Q3 : Int32 → HS → Prop} {v0 : Nat} {v1 : Int32} {S : HS} (h1 : P_X8_hasRoad v0 v1 Q1 S) (h2 : P_X8_hasRoad v0 v1 Q2 S) (hq : ∀ (r : Int32) (T : HS), Q1 r T → Q2 r T → Q3 r T) : P_X8_hasRoad v0 v1 Q3 S := cm_X8_hasRoad_0 h1 h2 hq
set_option maxRecDepth 20000 in
set_option maxHeartbeats 1000000 in
theorem cm_X8_hasSeen_0 {Q1 Q2 Q3 : Int32 → HS → Prop} {v0 : Nat} {v1 : Int32} {S : HS} (h1 : P_X8_hasSeen_0 Q1 v0 v1 S) (h2 : P_X8_hasSeen_0 Q2 v0 v1 S) (hq : ∀ (r : Int32) (T : HS), Q1 r T → Q2 r T → Q3 r T) : P_X8_hasSeen_0 Q3 v0 v1 S := by
  delta P_X8_hasSeen_0 at h1 h2 ⊢
  refine ⟨?_, ?_⟩
  · intro c1
    have h1 := h1.1 c1
    have h2 := h2.1 c1
    exact hq _ _ h1 h2
  · intro c2
    have h1 := h1.2 c2
    have h2 := h2.2 c2
    obtain ⟨c3, h1⟩ := h1
    obtain ⟨_, h2⟩ := h2
    refine ⟨c3, ?_⟩
    intro x5 e4
    have h1 := h1 x5 e4
    have h2 := h2 x5 e4
    refine ⟨?_, ?_⟩
    · intro c6
      have h1 := h1.1 c6
      have h2 := h2.1 c6
      exact hq _ _ h1 h2
    · intro c7
      have h1 := h1.2 c7
      have h2 := h2.2 c7
      obtain ⟨b8, e9, h1⟩ := h1
      obtain ⟨b10, e11, h2⟩ := h2
      cases e9.symm.trans e11
      refine ⟨b8, e9, ?_⟩
      obtain ⟨c12, h1⟩ := h1
      obtain ⟨_, h2⟩ := h2
      refine ⟨c12, ?_⟩
      refine ⟨?_, ?_⟩
      · intro c13
        have h1 := h1.1 c13
        have h2 := h2.1 c13
        exact hq _ _ h1 h2
      · intro c14
        have h1 := h1.2 c14
        have h2 := h2.2 c14
        exact hq _ _ h1 h2
theorem cm_X8_hasSeen {Q1 Q2 Q3 : Int32 → HS → Prop} {v0 : Nat} {v1 : Int32} {S : HS} (h1 : P_X8_hasSeen v0 v1 Q1 S) (h2 : P_X8_hasSeen v0 v1 Q2 S) (hq : ∀ (r : Int32) (T : HS), Q1 r T → Q2 r T → Q3 r T) : P_X8_hasSeen v0 v1 Q3 S := cm_X8_hasSeen_0 h1 h2 hq
set_option maxRecDepth 20000 in
set_option maxHeartbeats 1000000 in
theorem cm_X8_hasWalker_0 {Q1 Q2 Q3 : Int32 → HS → Prop} {v0 : Nat} {v1 : Int32} {S : HS} (h1 : P_X8_hasWalker_0 Q1 v0 v1 S) (h2 : P_X8_hasWalker_0 Q2 v0 v1 S) (hq : ∀ (r : Int32) (T : HS), Q1 r T → Q2 r T → Q3 r T) : P_X8_hasWalker_0 Q3 v0 v1 S := by
  delta P_X8_hasWalker_0 at h1 h2 ⊢
  refine ⟨?_, ?_⟩
  · intro c1
    have h1 := h1.1 c1
    have h2 := h2.1 c1
    exact hq _ _ h1 h2
  · intro c2
    have h1 := h1.2 c2
    have h2 := h2.2 c2
    obtain ⟨c3, h1⟩ := h1
    obtain ⟨_, h2⟩ := h2
    refine ⟨c3, ?_⟩
    intro x5 e4
    have h1 := h1 x5 e4
    have h2 := h2 x5 e4
    refine ⟨?_, ?_⟩
    · intro c6
      have h1 := h1.1 c6
      have h2 := h2.1 c6
      exact hq _ _ h1 h2
    · intro c7
      have h1 := h1.2 c7
      have h2 := h2.2 c7
      obtain ⟨b8, e9, h1⟩ := h1
      obtain ⟨b10, e11, h2⟩ := h2
      cases e9.symm.trans e11
      refine ⟨b8, e9, ?_⟩
      obtain ⟨c12, h1⟩ := h1
      obtain ⟨_, h2⟩ := h2
      refine ⟨c12, ?_⟩
      refine ⟨?_, ?_⟩
      · intro c13
        have h1 := h1.1 c13
        have h2 := h2.1 c13
        exact hq _ _ h1 h2
      · intro c14
        have h1 := h1.2 c14
        have h2 := h2.2 c14
        exact hq _ _ h1 h2
theorem cm_X8_hasWalker {Q1 Q2 Q3 : Int32 → HS → Prop} {v0 : Nat} {v1 : Int32} {S : HS} (h1 : P_X8_hasWalker v0 v1 Q1 S) (h2 : P_X8_hasWalker v0 v1 Q2 S) (hq : ∀ (r : Int32) (T : HS), Q1 r T → Q2 r T → Q3 r T) : P_X8_hasWalker v0 v1 Q3 S := cm_X8_hasWalker_0 h1 h2 hq
set_option maxRecDepth 20000 in
set_option maxHeartbeats 1000000 in
theorem cmB_X1_fitCode_141 {Q1 Q2 Q3 : Int32 → HS → Prop} {X141_1 X141_2 X141_3 : Nat → Nat → Int32 → Int32 → Int32 → Int32 → Int32 → HS → Prop} {v0 : Nat} {v1 : Nat} {v2 : Int32} {v4 : Int32} {v5 : Int32} {v6 : Int32} {v8 : Int32} {S : HS} (h1 : B_X1_fitCode_141 Q1 X141_1 v0 v1 v2 v4 v5 v6 v8 S) (h2 : B_X1_fitCode_141 Q2 X141_2 v0 v1 v2 v4 v5 v6 v8 S) (hq : ∀ (r : Int32) (T : HS), Q1 r T → Q2 r T → Q3 r T) (hX141 : ∀ (u0 : Nat) (u1 : Nat) (u2 : Int32) (u3 : Int32) (u4 : Int32) (u5 : Int32) (u6 : Int32) (u7 : HS), X141_1 u0 u1 u2 u3 u4 u5 u6 u7 → X141_2 u0 u1 u2 u3 u4 u5 u6 u7 → X141_3 u0 u1 u2 u3 u4 u5 u6 u7) : B_X1_fitCode_141 Q3 X141_3 v0 v1 v2 v4 v5 v6 v8 S := by
  delta B_X1_fitCode_141 at h1 h2 ⊢
  refine ⟨?_, ?_⟩
  · intro c1
    have h1 := h1.1 c1
    have h2 := h2.1 c1
    intro x3 e2
    have h1 := h1 x3 e2
    have h2 := h2 x3 e2
    intro x5 e4
    have h1 := h1 x5 e4
    have h2 := h2 x5 e4
    exact hq _ _ h1 h2
  · intro c6
    have h1 := h1.2 c6
    have h2 := h2.2 c6
    obtain ⟨c7, h1⟩ := h1
    obtain ⟨_, h2⟩ := h2
    refine ⟨c7, ?_⟩
    obtain ⟨b8, e9, h1⟩ := h1
    obtain ⟨b10, e11, h2⟩ := h2
    cases e9.symm.trans e11
    refine ⟨b8, e9, ?_⟩
    obtain ⟨c12, h1⟩ := h1
    obtain ⟨_, h2⟩ := h2
    refine ⟨c12, ?_⟩
    obtain ⟨c13, h1⟩ := h1
    obtain ⟨_, h2⟩ := h2
    refine ⟨c13, ?_⟩
    intro x15 e14
    have h1 := h1 x15 e14
    have h2 := h2 x15 e14
    obtain ⟨c16, h1⟩ := h1
    obtain ⟨_, h2⟩ := h2
    refine ⟨c16, ?_⟩
    obtain ⟨b17, e18, h1⟩ := h1
    obtain ⟨b19, e20, h2⟩ := h2
    cases e18.symm.trans e20
    refine ⟨b17, e18, ?_⟩
    obtain ⟨c21, h1⟩ := h1
    obtain ⟨_, h2⟩ := h2
    refine ⟨c21, ?_⟩
    intro x23 e22
    have h1 := h1 x23 e22
    have h2 := h2 x23 e22
    obtain ⟨c24, h1⟩ := h1
    obtain ⟨_, h2⟩ := h2
    refine ⟨c24, ?_⟩
    intro x26 e25
    have h1 := h1 x26 e25
    have h2 := h2 x26 e25
    refine ⟨?_, ?_⟩
    · intro c27
      have h1 := h1.1 c27
      have h2 := h2.1 c27
      intro x29 e28
      have h1 := h1 x29 e28
      have h2 := h2 x29 e28
      exact hX141 _ _ _ _ _ _ _ _ h1 h2
    · intro c30
      have h1 := h1.2 c30
      have h2 := h2.2 c30
      exact hq _ _ h1 h2
theorem fd_X1_fitCode_141 {Q : Int32 → HS → Prop} {v0 : Nat} {v1 : Nat} {v2 : Int32} {v4 : Int32} {v5 : Int32} {v6 : Int32} {v8 : Int32} {S : HS} (h : B_X1_fitCode_141 Q (P_X1_fitCode_141 Q) v0 v1 v2 v4 v5 v6 v8 S) : P_X1_fitCode_141 Q v0 v1 v2 v4 v5 v6 v8 S := fun X hX => hX v0 v1 v2 v4 v5 v6 v8 S (cmB_X1_fitCode_141 h h (fun _ _ a _ => a) (fun _ _ _ _ _ _ _ _ hp _ => hp X hX))
theorem uf_X1_fitCode_141 {Q : Int32 → HS → Prop} {v0 : Nat} {v1 : Nat} {v2 : Int32} {v4 : Int32} {v5 : Int32} {v6 : Int32} {v8 : Int32} {S : HS} (h : P_X1_fitCode_141 Q v0 v1 v2 v4 v5 v6 v8 S) : B_X1_fitCode_141 Q (P_X1_fitCode_141 Q) v0 v1 v2 v4 v5 v6 v8 S := h (fun v0 v1 v2 v4 v5 v6 v8 S => B_X1_fitCode_141 Q (P_X1_fitCode_141 Q) v0 v1 v2 v4 v5 v6 v8 S) (fun v0 v1 v2 v4 v5 v6 v8 S hB => cmB_X1_fitCode_141 hB hB (fun _ _ a _ => a) (fun _ _ _ _ _ _ _ _ hb _ => fd_X1_fitCode_141 hb))
theorem cm_X1_fitCode_141 {Q1 Q2 Q3 : Int32 → HS → Prop} {v0 : Nat} {v1 : Nat} {v2 : Int32} {v4 : Int32} {v5 : Int32} {v6 : Int32} {v8 : Int32} {S : HS} (h1 : P_X1_fitCode_141 Q1 v0 v1 v2 v4 v5 v6 v8 S) (h2 : P_X1_fitCode_141 Q2 v0 v1 v2 v4 v5 v6 v8 S) (hq : ∀ (r : Int32) (T : HS), Q1 r T → Q2 r T → Q3 r T) : P_X1_fitCode_141 Q3 v0 v1 v2 v4 v5 v6 v8 S := h1 (fun v0 v1 v2 v4 v5 v6 v8 S => P_X1_fitCode_141 Q2 v0 v1 v2 v4 v5 v6 v8 S → P_X1_fitCode_141 Q3 v0 v1 v2 v4 v5 v6 v8 S) (fun v0 v1 v2 v4 v5 v6 v8 S hB hp => fd_X1_fitCode_141 (cmB_X1_fitCode_141 hB (uf_X1_fitCode_141 hp) hq (fun _ _ _ _ _ _ _ _ hx hp => hx hp))) h2
set_option maxRecDepth 20000 in
set_option maxHeartbeats 1000000 in
theorem cm_X1_fitCode_0 {Q1 Q2 Q3 : Int32 → HS → Prop} {v0 : Nat} {v1 : Nat} {v2 : Int32} {v3 : Int32} {S : HS} (h1 : P_X1_fitCode_0 Q1 v0 v1 v2 v3 S) (h2 : P_X1_fitCode_0 Q2 v0 v1 v2 v3 S) (hq : ∀ (r : Int32) (T : HS), Q1 r T → Q2 r T → Q3 r T) : P_X1_fitCode_0 Q3 v0 v1 v2 v3 S := by
  delta P_X1_fitCode_0 at h1 h2 ⊢
  refine ⟨?_, ?_⟩
  · intro c1
    have h1 := h1.1 c1
    have h2 := h2.1 c1
    exact hq _ _ h1 h2
  · intro c2
    have h1 := h1.2 c2
    have h2 := h2.2 c2
    refine cm_X1_legsOf h1 h2 (fun x3 x4 h1 h2 g5 => ?_)
    have h1 := h1 g5
    have h2 := h2 g5
    refine ⟨?_, ?_⟩
    · intro c6
      have h1 := h1.1 c6
      have h2 := h2.1 c6
      exact hq _ _ h1 h2
    · intro c7
      have h1 := h1.2 c7
      have h2 := h2.2 c7
      obtain ⟨c8, h1⟩ := h1
      obtain ⟨_, h2⟩ := h2
      refine ⟨c8, ?_⟩
      refine cm_X8_hasSeen h1 h2 (fun x9 x10 h1 h2 g11 g12 => ?_)
      have h1 := h1 g11 g12
      have h2 := h2 g11 g12
      refine ⟨?_, ?_⟩
      · intro c13
        have h1 := h1.1 c13
        have h2 := h2.1 c13
        exact hq _ _ h1 h2
      · intro c14
        have h1 := h1.2 c14
        have h2 := h2.2 c14
        intro x16 e15
        have h1 := h1 x16 e15
        have h2 := h2 x16 e15
        refine ⟨?_, ?_⟩
        · intro c17
          have h1 := h1.1 c17
          have h2 := h2.1 c17
          intro x19 e18
          have h1 := h1 x19 e18
          have h2 := h2 x19 e18
          intro x21 e20
          have h1 := h1 x21 e20
          have h2 := h2 x21 e20
          intro x23 e22
          have h1 := h1 x23 e22
          have h2 := h2 x23 e22
          intro x25 e24
          have h1 := h1 x25 e24
          have h2 := h2 x25 e24
          obtain ⟨c26, h1⟩ := h1
          obtain ⟨_, h2⟩ := h2
          refine ⟨c26, ?_⟩
          intro x28 e27
          have h1 := h1 x28 e27
          have h2 := h2 x28 e27
          intro x30 e29
          have h1 := h1 x30 e29
          have h2 := h2 x30 e29
          intro x32 e31
          have h1 := h1 x32 e31
          have h2 := h2 x32 e31
          obtain ⟨c33, h1⟩ := h1
          obtain ⟨_, h2⟩ := h2
          refine ⟨c33, ?_⟩
          intro x35 e34
          have h1 := h1 x35 e34
          have h2 := h2 x35 e34
          obtain ⟨b36, e37, h1⟩ := h1
          obtain ⟨b38, e39, h2⟩ := h2
          cases e37.symm.trans e39
          refine ⟨b36, e37, ?_⟩
          obtain ⟨c40, h1⟩ := h1
          obtain ⟨_, h2⟩ := h2
          refine ⟨c40, ?_⟩
          obtain ⟨c41, h1⟩ := h1
          obtain ⟨_, h2⟩ := h2
          refine ⟨c41, ?_⟩
          intro x43 e42
          have h1 := h1 x43 e42
          have h2 := h2 x43 e42
          refine cm_X8_hasWalker h1 h2 (fun x44 x45 h1 h2 g46 g47 => ?_)
          have h1 := h1 g46 g47
          have h2 := h2 g46 g47
          refine ⟨?_, ?_⟩
          · intro c48
            have h1 := h1.1 c48
            have h2 := h2.1 c48
            exact hq _ _ h1 h2
          · intro c49
            have h1 := h1.2 c49
            have h2 := h2.2 c49
            intro x51 e50
            have h1 := h1 x51 e50
            have h2 := h2 x51 e50
            refine cm_X8_hasRoad h1 h2 (fun x52 x53 h1 h2 g54 g55 => ?_)
            have h1 := h1 g54 g55
            have h2 := h2 g54 g55
            refine ⟨?_, ?_⟩
            · intro c56
              have h1 := h1.1 c56
              have h2 := h2.1 c56
              exact hq _ _ h1 h2
            · intro c57
              have h1 := h1.2 c57
              have h2 := h2.2 c57
              obtain ⟨b58, e59, h1⟩ := h1
              obtain ⟨b60, e61, h2⟩ := h2
              cases e59.symm.trans e61
              refine ⟨b58, e59, ?_⟩
              obtain ⟨c62, h1⟩ := h1
              obtain ⟨_, h2⟩ := h2
              refine ⟨c62, ?_⟩
              obtain ⟨c63, h1⟩ := h1
              obtain ⟨_, h2⟩ := h2
              refine ⟨c63, ?_⟩
              obtain ⟨b64, e65, h1⟩ := h1
              obtain ⟨b66, e67, h2⟩ := h2
              cases e65.symm.trans e67
              refine ⟨b64, e65, ?_⟩
              obtain ⟨c68, h1⟩ := h1
              obtain ⟨_, h2⟩ := h2
              refine ⟨c68, ?_⟩
              refine cm_X6_canGo h1 h2 (fun x69 x70 h1 h2 g71 g72 => ?_)
              have h1 := h1 g71 g72
              have h2 := h2 g71 g72
              refine ⟨?_, ?_⟩
              · intro c73
                have h1 := h1.1 c73
                have h2 := h2.1 c73
                obtain ⟨b74, e75, h1⟩ := h1
                obtain ⟨b76, e77, h2⟩ := h2
                cases e75.symm.trans e77
                refine ⟨b74, e75, ?_⟩
                obtain ⟨c78, h1⟩ := h1
                obtain ⟨_, h2⟩ := h2
                refine ⟨c78, ?_⟩
                obtain ⟨c79, h1⟩ := h1
                obtain ⟨_, h2⟩ := h2
                refine ⟨c79, ?_⟩
                obtain ⟨b80, e81, h1⟩ := h1
                obtain ⟨b82, e83, h2⟩ := h2
                cases e81.symm.trans e83
                refine ⟨b80, e81, ?_⟩
                obtain ⟨b84, e85, h1⟩ := h1
                obtain ⟨b86, e87, h2⟩ := h2
                cases e85.symm.trans e87
                refine ⟨b84, e85, ?_⟩
                intro x89 e88
                have h1 := h1 x89 e88
                have h2 := h2 x89 e88
                obtain ⟨c90, h1⟩ := h1
                obtain ⟨_, h2⟩ := h2
                refine ⟨c90, ?_⟩
                obtain ⟨c91, h1⟩ := h1
                obtain ⟨_, h2⟩ := h2
                refine ⟨c91, ?_⟩
                obtain ⟨b92, e93, h1⟩ := h1
                obtain ⟨b94, e95, h2⟩ := h2
                cases e93.symm.trans e95
                refine ⟨b92, e93, ?_⟩
                intro x97 e96
                have h1 := h1 x97 e96
                have h2 := h2 x97 e96
                obtain ⟨b98, e99, h1⟩ := h1
                obtain ⟨b100, e101, h2⟩ := h2
                cases e99.symm.trans e101
                refine ⟨b98, e99, ?_⟩
                obtain ⟨c102, h1⟩ := h1
                obtain ⟨_, h2⟩ := h2
                refine ⟨c102, ?_⟩
                obtain ⟨c103, h1⟩ := h1
                obtain ⟨_, h2⟩ := h2
                refine ⟨c103, ?_⟩
                obtain ⟨b104, e105, h1⟩ := h1
                obtain ⟨b106, e107, h2⟩ := h2
                cases e105.symm.trans e107
                refine ⟨b104, e105, ?_⟩
                obtain ⟨c108, h1⟩ := h1
                obtain ⟨_, h2⟩ := h2
                refine ⟨c108, ?_⟩
                refine cm_X1_wetOf h1 h2 (fun x109 x110 h1 h2 g111 => ?_)
                have h1 := h1 g111
                have h2 := h2 g111
                exact cm_X1_fitCode_141 h1 h2 hq
              · intro c112
                have h1 := h1.2 c112
                have h2 := h2.2 c112
                exact hq _ _ h1 h2
        · intro c113
          have h1 := h1.2 c113
          have h2 := h2.2 c113
          exact hq _ _ h1 h2
theorem cm_X1_fitCode {Q1 Q2 Q3 : Int32 → HS → Prop} {v0 : Nat} {v1 : Nat} {v2 : Int32} {v3 : Int32} {S : HS} (h1 : P_X1_fitCode v0 v1 v2 v3 Q1 S) (h2 : P_X1_fitCode v0 v1 v2 v3 Q2 S) (hq : ∀ (r : Int32) (T : HS), Q1 r T → Q2 r T → Q3 r T) : P_X1_fitCode v0 v1 v2 v3 Q3 S := cm_X1_fitCode_0 h1 h2 hq
set_option maxRecDepth 20000 in
set_option maxHeartbeats 1000000 in
theorem cm_X1_countFits_29 {Q1 Q2 Q3 : Int32 → HS → Prop} {X5_1 X5_2 X5_3 : Nat → Nat → Int32 → Int32 → Int32 → HS → Prop} {v0 : Nat} {v1 : Nat} {v2 : Int32} {v3 : Int32} {v4 : Int32} {S : HS} (h1 : P_X1_countFits_29 Q1 X5_1 v0 v1 v2 v3 v4 S) (h2 : P_X1_countFits_29 Q2 X5_2 v0 v1 v2 v3 v4 S) (hq : ∀ (r : Int32) (T : HS), Q1 r T → Q2 r T → Q3 r T) (hX5 : ∀ (u0 : Nat) (u1 : Nat) (u2 : Int32) (u3 : Int32) (u4 : Int32) (u5 : HS), X5_1 u0 u1 u2 u3 u4 u5 → X5_2 u0 u1 u2 u3 u4 u5 → X5_3 u0 u1 u2 u3 u4 u5) : P_X1_countFits_29 Q3 X5_3 v0 v1 v2 v3 v4 S := by
  delta P_X1_countFits_29 at h1 h2 ⊢
  intro x2 e1
  have h1 := h1 x2 e1
  have h2 := h2 x2 e1
  exact hX5 _ _ _ _ _ _ h1 h2
set_option maxRecDepth 20000 in
set_option maxHeartbeats 1000000 in
theorem cmB_X1_countFits_5 {Q1 Q2 Q3 : Int32 → HS → Prop} {X5_1 X5_2 X5_3 : Nat → Nat → Int32 → Int32 → Int32 → HS → Prop} {v0 : Nat} {v1 : Nat} {v2 : Int32} {v3 : Int32} {v4 : Int32} {S : HS} (h1 : B_X1_countFits_5 Q1 X5_1 v0 v1 v2 v3 v4 S) (h2 : B_X1_countFits_5 Q2 X5_2 v0 v1 v2 v3 v4 S) (hq : ∀ (r : Int32) (T : HS), Q1 r T → Q2 r T → Q3 r T) (hX5 : ∀ (u0 : Nat) (u1 : Nat) (u2 : Int32) (u3 : Int32) (u4 : Int32) (u5 : HS), X5_1 u0 u1 u2 u3 u4 u5 → X5_2 u0 u1 u2 u3 u4 u5 → X5_3 u0 u1 u2 u3 u4 u5) : B_X1_countFits_5 Q3 X5_3 v0 v1 v2 v3 v4 S := by
  delta B_X1_countFits_5 at h1 h2 ⊢
  refine cm_X1_legsOf h1 h2 (fun x1 x2 h1 h2 g3 => ?_)
  have h1 := h1 g3
  have h2 := h2 g3
  refine ⟨?_, ?_⟩
  · intro c4
    have h1 := h1.1 c4
    have h2 := h2.1 c4
    exact hq _ _ h1 h2
  · intro c5
    have h1 := h1.2 c5
    have h2 := h2.2 c5
    obtain ⟨c6, h1⟩ := h1
    obtain ⟨_, h2⟩ := h2
    refine ⟨c6, ?_⟩
    refine cm_X1_fitCode h1 h2 (fun x7 x8 h1 h2 g9 => ?_)
    have h1 := h1 g9
    have h2 := h2 g9
    refine ⟨?_, ?_⟩
    · intro c10
      have h1 := h1.1 c10
      have h2 := h2.1 c10
      exact cm_X1_countFits_29 h1 h2 hq hX5
    · intro c11
      have h1 := h1.2 c11
      have h2 := h2.2 c11
      intro x13 e12
      have h1 := h1 x13 e12
      have h2 := h2 x13 e12
      exact cm_X1_countFits_29 h1 h2 hq hX5
theorem fd_X1_countFits_5 {Q : Int32 → HS → Prop} {v0 : Nat} {v1 : Nat} {v2 : Int32} {v3 : Int32} {v4 : Int32} {S : HS} (h : B_X1_countFits_5 Q (P_X1_countFits_5 Q) v0 v1 v2 v3 v4 S) : P_X1_countFits_5 Q v0 v1 v2 v3 v4 S := fun X hX => hX v0 v1 v2 v3 v4 S (cmB_X1_countFits_5 h h (fun _ _ a _ => a) (fun _ _ _ _ _ _ hp _ => hp X hX))
theorem uf_X1_countFits_5 {Q : Int32 → HS → Prop} {v0 : Nat} {v1 : Nat} {v2 : Int32} {v3 : Int32} {v4 : Int32} {S : HS} (h : P_X1_countFits_5 Q v0 v1 v2 v3 v4 S) : B_X1_countFits_5 Q (P_X1_countFits_5 Q) v0 v1 v2 v3 v4 S := h (fun v0 v1 v2 v3 v4 S => B_X1_countFits_5 Q (P_X1_countFits_5 Q) v0 v1 v2 v3 v4 S) (fun v0 v1 v2 v3 v4 S hB => cmB_X1_countFits_5 hB hB (fun _ _ a _ => a) (fun _ _ _ _ _ _ hb _ => fd_X1_countFits_5 hb))
theorem cm_X1_countFits_5 {Q1 Q2 Q3 : Int32 → HS → Prop} {v0 : Nat} {v1 : Nat} {v2 : Int32} {v3 : Int32} {v4 : Int32} {S : HS} (h1 : P_X1_countFits_5 Q1 v0 v1 v2 v3 v4 S) (h2 : P_X1_countFits_5 Q2 v0 v1 v2 v3 v4 S) (hq : ∀ (r : Int32) (T : HS), Q1 r T → Q2 r T → Q3 r T) : P_X1_countFits_5 Q3 v0 v1 v2 v3 v4 S := h1 (fun v0 v1 v2 v3 v4 S => P_X1_countFits_5 Q2 v0 v1 v2 v3 v4 S → P_X1_countFits_5 Q3 v0 v1 v2 v3 v4 S) (fun v0 v1 v2 v3 v4 S hB hp => fd_X1_countFits_5 (cmB_X1_countFits_5 hB (uf_X1_countFits_5 hp) hq (fun _ _ _ _ _ _ hx hp => hx hp))) h2
set_option maxRecDepth 20000 in
set_option maxHeartbeats 1000000 in
theorem cm_X1_countFits_0 {Q1 Q2 Q3 : Int32 → HS → Prop} {v0 : Nat} {v1 : Nat} {v2 : Int32} {S : HS} (h1 : P_X1_countFits_0 Q1 v0 v1 v2 S) (h2 : P_X1_countFits_0 Q2 v0 v1 v2 S) (hq : ∀ (r : Int32) (T : HS), Q1 r T → Q2 r T → Q3 r T) : P_X1_countFits_0 Q3 v0 v1 v2 S := by
  delta P_X1_countFits_0 at h1 h2 ⊢
  exact cm_X1_countFits_5 h1 h2 hq
theorem cm_X1_countFits {Q1 Q2 Q3 : Int32 → HS → Prop} {v0 : Nat} {v1 : Nat} {v2 : Int32} {S : HS} (h1 : P_X1_countFits v0 v1 v2 Q1 S) (h2 : P_X1_countFits v0 v1 v2 Q2 S) (hq : ∀ (r : Int32) (T : HS), Q1 r T → Q2 r T → Q3 r T) : P_X1_countFits v0 v1 v2 Q3 S := cm_X1_countFits_0 h1 h2 hq
set_option maxRecDepth 20000 in
set_option maxHeartbeats 1000000 in
theorem cm_X1_findFit_48 {Q1 Q2 Q3 : Int32 → HS → Prop} {X6_1 X6_2 X6_3 : Nat → Nat → Int32 → Int32 → Int32 → HS → Prop} {v0 : Nat} {v1 : Nat} {v2 : Int32} {v4 : Int32} {v5 : Int32} {S : HS} (h1 : P_X1_findFit_48 Q1 X6_1 v0 v1 v2 v4 v5 S) (h2 : P_X1_findFit_48 Q2 X6_2 v0 v1 v2 v4 v5 S) (hq : ∀ (r : Int32) (T : HS), Q1 r T → Q2 r T → Q3 r T) (hX6 : ∀ (u0 : Nat) (u1 : Nat) (u2 : Int32) (u3 : Int32) (u4 : Int32) (u5 : HS), X6_1 u0 u1 u2 u3 u4 u5 → X6_2 u0 u1 u2 u3 u4 u5 → X6_3 u0 u1 u2 u3 u4 u5) : P_X1_findFit_48 Q3 X6_3 v0 v1 v2 v4 v5 S := by
  delta P_X1_findFit_48 at h1 h2 ⊢
  intro x2 e1
  have h1 := h1 x2 e1
  have h2 := h2 x2 e1
  exact hX6 _ _ _ _ _ _ h1 h2
set_option maxRecDepth 20000 in
set_option maxHeartbeats 1000000 in
theorem cm_X1_findFit_39 {Q1 Q2 Q3 : Int32 → HS → Prop} {X6_1 X6_2 X6_3 : Nat → Nat → Int32 → Int32 → Int32 → HS → Prop} {v0 : Nat} {v1 : Nat} {v2 : Int32} {v4 : Int32} {v5 : Int32} {v6 : Int32} {S : HS} (h1 : P_X1_findFit_39 Q1 X6_1 v0 v1 v2 v4 v5 v6 S) (h2 : P_X1_findFit_39 Q2 X6_2 v0 v1 v2 v4 v5 v6 S) (hq : ∀ (r : Int32) (T : HS), Q1 r T → Q2 r T → Q3 r T) (hX6 : ∀ (u0 : Nat) (u1 : Nat) (u2 : Int32) (u3 : Int32) (u4 : Int32) (u5 : HS), X6_1 u0 u1 u2 u3 u4 u5 → X6_2 u0 u1 u2 u3 u4 u5 → X6_3 u0 u1 u2 u3 u4 u5) : P_X1_findFit_39 Q3 X6_3 v0 v1 v2 v4 v5 v6 S := by
  delta P_X1_findFit_39 at h1 h2 ⊢
  refine ⟨?_, ?_⟩
  · intro c1
    have h1 := h1.1 c1
    have h2 := h2.1 c1
    exact cm_X1_findFit_48 h1 h2 hq hX6
  · intro c2
    have h1 := h1.2 c2
    have h2 := h2.2 c2
    intro x4 e3
    have h1 := h1 x4 e3
    have h2 := h2 x4 e3
    exact cm_X1_findFit_48 h1 h2 hq hX6
set_option maxRecDepth 20000 in
set_option maxHeartbeats 1000000 in
theorem cmB_X1_findFit_6 {Q1 Q2 Q3 : Int32 → HS → Prop} {X6_1 X6_2 X6_3 : Nat → Nat → Int32 → Int32 → Int32 → HS → Prop} {v0 : Nat} {v1 : Nat} {v2 : Int32} {v4 : Int32} {v5 : Int32} {S : HS} (h1 : B_X1_findFit_6 Q1 X6_1 v0 v1 v2 v4 v5 S) (h2 : B_X1_findFit_6 Q2 X6_2 v0 v1 v2 v4 v5 S) (hq : ∀ (r : Int32) (T : HS), Q1 r T → Q2 r T → Q3 r T) (hX6 : ∀ (u0 : Nat) (u1 : Nat) (u2 : Int32) (u3 : Int32) (u4 : Int32) (u5 : HS), X6_1 u0 u1 u2 u3 u4 u5 → X6_2 u0 u1 u2 u3 u4 u5 → X6_3 u0 u1 u2 u3 u4 u5) : B_X1_findFit_6 Q3 X6_3 v0 v1 v2 v4 v5 S := by
  delta B_X1_findFit_6 at h1 h2 ⊢
  refine cm_X1_legsOf h1 h2 (fun x1 x2 h1 h2 g3 => ?_)
  have h1 := h1 g3
  have h2 := h2 g3
  refine ⟨?_, ?_⟩
  · intro c4
    have h1 := h1.1 c4
    have h2 := h2.1 c4
    exact hq _ _ h1 h2
  · intro c5
    have h1 := h1.2 c5
    have h2 := h2.2 c5
    obtain ⟨c6, h1⟩ := h1
    obtain ⟨_, h2⟩ := h2
    refine ⟨c6, ?_⟩
    refine cm_X1_fitCode h1 h2 (fun x7 x8 h1 h2 g9 => ?_)
    have h1 := h1 g9
    have h2 := h2 g9
    refine ⟨?_, ?_⟩
    · intro c10
      have h1 := h1.1 c10
      have h2 := h2.1 c10
      exact cm_X1_findFit_39 h1 h2 hq hX6
    · intro c11
      have h1 := h1.2 c11
      have h2 := h2.2 c11
      refine ⟨?_, ?_⟩
      · intro c12
        have h1 := h1.1 c12
        have h2 := h2.1 c12
        exact cm_X1_findFit_39 h1 h2 hq hX6
      · intro c13
        have h1 := h1.2 c13
        have h2 := h2.2 c13
        exact hq _ _ h1 h2
theorem fd_X1_findFit_6 {Q : Int32 → HS → Prop} {v0 : Nat} {v1 : Nat} {v2 : Int32} {v4 : Int32} {v5 : Int32} {S : HS} (h : B_X1_findFit_6 Q (P_X1_findFit_6 Q) v0 v1 v2 v4 v5 S) : P_X1_findFit_6 Q v0 v1 v2 v4 v5 S := fun X hX => hX v0 v1 v2 v4 v5 S (cmB_X1_findFit_6 h h (fun _ _ a _ => a) (fun _ _ _ _ _ _ hp _ => hp X hX))
theorem uf_X1_findFit_6 {Q : Int32 → HS → Prop} {v0 : Nat} {v1 : Nat} {v2 : Int32} {v4 : Int32} {v5 : Int32} {S : HS} (h : P_X1_findFit_6 Q v0 v1 v2 v4 v5 S) : B_X1_findFit_6 Q (P_X1_findFit_6 Q) v0 v1 v2 v4 v5 S := h (fun v0 v1 v2 v4 v5 S => B_X1_findFit_6 Q (P_X1_findFit_6 Q) v0 v1 v2 v4 v5 S) (fun v0 v1 v2 v4 v5 S hB => cmB_X1_findFit_6 hB hB (fun _ _ a _ => a) (fun _ _ _ _ _ _ hb _ => fd_X1_findFit_6 hb))
theorem cm_X1_findFit_6 {Q1 Q2 Q3 : Int32 → HS → Prop} {v0 : Nat} {v1 : Nat} {v2 : Int32} {v4 : Int32} {v5 : Int32} {S : HS} (h1 : P_X1_findFit_6 Q1 v0 v1 v2 v4 v5 S) (h2 : P_X1_findFit_6 Q2 v0 v1 v2 v4 v5 S) (hq : ∀ (r : Int32) (T : HS), Q1 r T → Q2 r T → Q3 r T) : P_X1_findFit_6 Q3 v0 v1 v2 v4 v5 S := h1 (fun v0 v1 v2 v4 v5 S => P_X1_findFit_6 Q2 v0 v1 v2 v4 v5 S → P_X1_findFit_6 Q3 v0 v1 v2 v4 v5 S) (fun v0 v1 v2 v4 v5 S hB hp => fd_X1_findFit_6 (cmB_X1_findFit_6 hB (uf_X1_findFit_6 hp) hq (fun _ _ _ _ _ _ hx hp => hx hp))) h2
set_option maxRecDepth 20000 in
set_option maxHeartbeats 1000000 in
theorem cm_X1_findFit_0 {Q1 Q2 Q3 : Int32 → HS → Prop} {v0 : Nat} {v1 : Nat} {v2 : Int32} {v3 : Int32} {S : HS} (h1 : P_X1_findFit_0 Q1 v0 v1 v2 v3 S) (h2 : P_X1_findFit_0 Q2 v0 v1 v2 v3 S) (hq : ∀ (r : Int32) (T : HS), Q1 r T → Q2 r T → Q3 r T) : P_X1_findFit_0 Q3 v0 v1 v2 v3 S := by
  delta P_X1_findFit_0 at h1 h2 ⊢
  exact cm_X1_findFit_6 h1 h2 hq
theorem cm_X1_findFit {Q1 Q2 Q3 : Int32 → HS → Prop} {v0 : Nat} {v1 : Nat} {v2 : Int32} {v3 : Int32} {S : HS} (h1 : P_X1_findFit v0 v1 v2 v3 Q1 S) (h2 : P_X1_findFit v0 v1 v2 v3 Q2 S) (hq : ∀ (r : Int32) (T : HS), Q1 r T → Q2 r T → Q3 r T) : P_X1_findFit v0 v1 v2 v3 Q3 S := cm_X1_findFit_0 h1 h2 hq
set_option maxRecDepth 20000 in
set_option maxHeartbeats 1000000 in
theorem cm_X1_init_0 {Q1 Q2 Q3 : HS → Prop} {v0 : Nat} {S : HS} (h1 : P_X1_init_0 Q1 v0 S) (h2 : P_X1_init_0 Q2 v0 S) (hq : ∀ (T : HS), Q1 T → Q2 T → Q3 T) : P_X1_init_0 Q3 v0 S := by
  delta P_X1_init_0 at h1 h2 ⊢
  intro x2 e1
  have h1 := h1 x2 e1
  have h2 := h2 x2 e1
  intro x4 e3
  have h1 := h1 x4 e3
  have h2 := h2 x4 e3
  obtain ⟨c5, h1⟩ := h1
  obtain ⟨_, h2⟩ := h2
  refine ⟨c5, ?_⟩
  intro x7 e6
  have h1 := h1 x7 e6
  have h2 := h2 x7 e6
  intro x9 e8
  have h1 := h1 x9 e8
  have h2 := h2 x9 e8
  intro x11 e10
  have h1 := h1 x11 e10
  have h2 := h2 x11 e10
  intro x13 e12
  have h1 := h1 x13 e12
  have h2 := h2 x13 e12
  exact hq _ h1 h2
theorem cm_X1_init {Q1 Q2 Q3 : HS → Prop} {v0 : Nat} {S : HS} (h1 : P_X1_init v0 Q1 S) (h2 : P_X1_init v0 Q2 S) (hq : ∀ (T : HS), Q1 T → Q2 T → Q3 T) : P_X1_init v0 Q3 S := cm_X1_init_0 h1 h2 hq
set_option maxRecDepth 20000 in
set_option maxHeartbeats 1000000 in
theorem cm_X1_leastWet_0 {Q1 Q2 Q3 : Int64 → HS → Prop} {v0 : Nat} {v1 : Nat} {v2 : Nat} {v3 : Int32} {v4 : Nat} {S : HS} (h1 : P_X1_leastWet_0 Q1 v0 v1 v2 v3 v4 S) (h2 : P_X1_leastWet_0 Q2 v0 v1 v2 v3 v4 S) (hq : ∀ (r : Int64) (T : HS), Q1 r T → Q2 r T → Q3 r T) : P_X1_leastWet_0 Q3 v0 v1 v2 v3 v4 S := by
  delta P_X1_leastWet_0 at h1 h2 ⊢
  obtain ⟨c1, h1⟩ := h1
  obtain ⟨_, h2⟩ := h2
  refine ⟨c1, ?_⟩
  refine cm_X1_bestSpeed h1 h2 (fun x2 x3 h1 h2 g4 => ?_)
  have h1 := h1 g4
  have h2 := h2 g4
  refine cm_X1_wetOf h1 h2 (fun x5 x6 h1 h2 g7 => ?_)
  have h1 := h1 g7
  have h2 := h2 g7
  exact hq _ _ h1 h2
theorem cm_X1_leastWet {Q1 Q2 Q3 : Int64 → HS → Prop} {v0 : Nat} {v1 : Nat} {v2 : Nat} {v3 : Int32} {v4 : Nat} {S : HS} (h1 : P_X1_leastWet v0 v1 v2 v3 v4 Q1 S) (h2 : P_X1_leastWet v0 v1 v2 v3 v4 Q2 S) (hq : ∀ (r : Int64) (T : HS), Q1 r T → Q2 r T → Q3 r T) : P_X1_leastWet v0 v1 v2 v3 v4 Q3 S := cm_X1_leastWet_0 h1 h2 hq
set_option maxRecDepth 20000 in
set_option maxHeartbeats 1000000 in
theorem cm_X1_wetInLee_0 {Q1 Q2 Q3 : Int64 → HS → Prop} {v0 : Nat} {v1 : Nat} {v2 : Nat} {S : HS} (h1 : P_X1_wetInLee_0 Q1 v0 v1 v2 S) (h2 : P_X1_wetInLee_0 Q2 v0 v1 v2 S) (hq : ∀ (r : Int64) (T : HS), Q1 r T → Q2 r T → Q3 r T) : P_X1_wetInLee_0 Q3 v0 v1 v2 S := by
  delta P_X1_wetInLee_0 at h1 h2 ⊢
  obtain ⟨c1, h1⟩ := h1
  obtain ⟨_, h2⟩ := h2
  refine ⟨c1, ?_⟩
  intro x3 e2
  have h1 := h1 x3 e2
  have h2 := h2 x3 e2
  obtain ⟨c4, h1⟩ := h1
  obtain ⟨_, h2⟩ := h2
  refine ⟨c4, ?_⟩
  refine cm_X1_soak h1 h2 (fun x5 x6 h1 h2 g7 => ?_)
  have h1 := h1 g7
  have h2 := h2 g7
  obtain ⟨c8, h1⟩ := h1
  obtain ⟨_, h2⟩ := h2
  refine ⟨c8, ?_⟩
  intro x10 e9
  have h1 := h1 x10 e9
  have h2 := h2 x10 e9
  refine cm_X1_soak h1 h2 (fun x11 x12 h1 h2 g13 => ?_)
  have h1 := h1 g13
  have h2 := h2 g13
  exact hq _ _ h1 h2
theorem cm_X1_wetInLee {Q1 Q2 Q3 : Int64 → HS → Prop} {v0 : Nat} {v1 : Nat} {v2 : Nat} {S : HS} (h1 : P_X1_wetInLee v0 v1 v2 Q1 S) (h2 : P_X1_wetInLee v0 v1 v2 Q2 S) (hq : ∀ (r : Int64) (T : HS), Q1 r T → Q2 r T → Q3 r T) : P_X1_wetInLee v0 v1 v2 Q3 S := cm_X1_wetInLee_0 h1 h2 hq
set_option maxRecDepth 20000 in
set_option maxHeartbeats 1000000 in
theorem cm_X1_worstSpeed_55 {Q1 Q2 Q3 : Int32 → HS → Prop} {X17_1 X17_2 X17_3 : Nat → Nat → Nat → Int32 → Nat → Int32 → Int64 → Int32 → HS → Prop} {v0 : Nat} {v1 : Nat} {v2 : Nat} {v3 : Int32} {v4 : Nat} {v5 : Int32} {v6 : Int64} {v8 : Int32} {S : HS} (h1 : P_X1_worstSpeed_55 Q1 X17_1 v0 v1 v2 v3 v4 v5 v6 v8 S) (h2 : P_X1_worstSpeed_55 Q2 X17_2 v0 v1 v2 v3 v4 v5 v6 v8 S) (hq : ∀ (r : Int32) (T : HS), Q1 r T → Q2 r T → Q3 r T) (hX17 : ∀ (u0 : Nat) (u1 : Nat) (u2 : Nat) (u3 : Int32) (u4 : Nat) (u5 : Int32) (u6 : Int64) (u7 : Int32) (u8 : HS), X17_1 u0 u1 u2 u3 u4 u5 u6 u7 u8 → X17_2 u0 u1 u2 u3 u4 u5 u6 u7 u8 → X17_3 u0 u1 u2 u3 u4 u5 u6 u7 u8) : P_X1_worstSpeed_55 Q3 X17_3 v0 v1 v2 v3 v4 v5 v6 v8 S := by
  delta P_X1_worstSpeed_55 at h1 h2 ⊢
  intro x2 e1
  have h1 := h1 x2 e1
  have h2 := h2 x2 e1
  exact hX17 _ _ _ _ _ _ _ _ _ h1 h2
set_option maxRecDepth 20000 in
set_option maxHeartbeats 1000000 in
theorem cmB_X1_worstSpeed_17 {Q1 Q2 Q3 : Int32 → HS → Prop} {X17_1 X17_2 X17_3 : Nat → Nat → Nat → Int32 → Nat → Int32 → Int64 → Int32 → HS → Prop} {v0 : Nat} {v1 : Nat} {v2 : Nat} {v3 : Int32} {v4 : Nat} {v5 : Int32} {v6 : Int64} {v8 : Int32} {S : HS} (h1 : B_X1_worstSpeed_17 Q1 X17_1 v0 v1 v2 v3 v4 v5 v6 v8 S) (h2 : B_X1_worstSpeed_17 Q2 X17_2 v0 v1 v2 v3 v4 v5 v6 v8 S) (hq : ∀ (r : Int32) (T : HS), Q1 r T → Q2 r T → Q3 r T) (hX17 : ∀ (u0 : Nat) (u1 : Nat) (u2 : Nat) (u3 : Int32) (u4 : Nat) (u5 : Int32) (u6 : Int64) (u7 : Int32) (u8 : HS), X17_1 u0 u1 u2 u3 u4 u5 u6 u7 u8 → X17_2 u0 u1 u2 u3 u4 u5 u6 u7 u8 → X17_3 u0 u1 u2 u3 u4 u5 u6 u7 u8) : B_X1_worstSpeed_17 Q3 X17_3 v0 v1 v2 v3 v4 v5 v6 v8 S := by
  delta B_X1_worstSpeed_17 at h1 h2 ⊢
  obtain ⟨c1, h1⟩ := h1
  obtain ⟨_, h2⟩ := h2
  refine ⟨c1, ?_⟩
  intro x3 e2
  have h1 := h1 x3 e2
  have h2 := h2 x3 e2
  refine ⟨?_, ?_⟩
  · intro c4
    have h1 := h1.1 c4
    have h2 := h2.1 c4
    exact hq _ _ h1 h2
  · intro c5
    have h1 := h1.2 c5
    have h2 := h2.2 c5
    obtain ⟨c6, h1⟩ := h1
    obtain ⟨_, h2⟩ := h2
    refine ⟨c6, ?_⟩
    refine cm_X1_wetOf h1 h2 (fun x7 x8 h1 h2 g9 => ?_)
    have h1 := h1 g9
    have h2 := h2 g9
    refine ⟨?_, ?_⟩
    · intro c10
      have h1 := h1.1 c10
      have h2 := h2.1 c10
      exact cm_X1_worstSpeed_55 h1 h2 hq hX17
    · intro c11
      have h1 := h1.2 c11
      have h2 := h2.2 c11
      exact cm_X1_worstSpeed_55 h1 h2 hq hX17
theorem fd_X1_worstSpeed_17 {Q : Int32 → HS → Prop} {v0 : Nat} {v1 : Nat} {v2 : Nat} {v3 : Int32} {v4 : Nat} {v5 : Int32} {v6 : Int64} {v8 : Int32} {S : HS} (h : B_X1_worstSpeed_17 Q (P_X1_worstSpeed_17 Q) v0 v1 v2 v3 v4 v5 v6 v8 S) : P_X1_worstSpeed_17 Q v0 v1 v2 v3 v4 v5 v6 v8 S := fun X hX => hX v0 v1 v2 v3 v4 v5 v6 v8 S (cmB_X1_worstSpeed_17 h h (fun _ _ a _ => a) (fun _ _ _ _ _ _ _ _ _ hp _ => hp X hX))
theorem uf_X1_worstSpeed_17 {Q : Int32 → HS → Prop} {v0 : Nat} {v1 : Nat} {v2 : Nat} {v3 : Int32} {v4 : Nat} {v5 : Int32} {v6 : Int64} {v8 : Int32} {S : HS} (h : P_X1_worstSpeed_17 Q v0 v1 v2 v3 v4 v5 v6 v8 S) : B_X1_worstSpeed_17 Q (P_X1_worstSpeed_17 Q) v0 v1 v2 v3 v4 v5 v6 v8 S := h (fun v0 v1 v2 v3 v4 v5 v6 v8 S => B_X1_worstSpeed_17 Q (P_X1_worstSpeed_17 Q) v0 v1 v2 v3 v4 v5 v6 v8 S) (fun v0 v1 v2 v3 v4 v5 v6 v8 S hB => cmB_X1_worstSpeed_17 hB hB (fun _ _ a _ => a) (fun _ _ _ _ _ _ _ _ _ hb _ => fd_X1_worstSpeed_17 hb))
theorem cm_X1_worstSpeed_17 {Q1 Q2 Q3 : Int32 → HS → Prop} {v0 : Nat} {v1 : Nat} {v2 : Nat} {v3 : Int32} {v4 : Nat} {v5 : Int32} {v6 : Int64} {v8 : Int32} {S : HS} (h1 : P_X1_worstSpeed_17 Q1 v0 v1 v2 v3 v4 v5 v6 v8 S) (h2 : P_X1_worstSpeed_17 Q2 v0 v1 v2 v3 v4 v5 v6 v8 S) (hq : ∀ (r : Int32) (T : HS), Q1 r T → Q2 r T → Q3 r T) : P_X1_worstSpeed_17 Q3 v0 v1 v2 v3 v4 v5 v6 v8 S := h1 (fun v0 v1 v2 v3 v4 v5 v6 v8 S => P_X1_worstSpeed_17 Q2 v0 v1 v2 v3 v4 v5 v6 v8 S → P_X1_worstSpeed_17 Q3 v0 v1 v2 v3 v4 v5 v6 v8 S) (fun v0 v1 v2 v3 v4 v5 v6 v8 S hB hp => fd_X1_worstSpeed_17 (cmB_X1_worstSpeed_17 hB (uf_X1_worstSpeed_17 hp) hq (fun _ _ _ _ _ _ _ _ _ hx hp => hx hp))) h2
set_option maxRecDepth 20000 in
set_option maxHeartbeats 1000000 in
theorem cm_X1_worstSpeed_0 {Q1 Q2 Q3 : Int32 → HS → Prop} {v0 : Nat} {v1 : Nat} {v2 : Nat} {v3 : Int32} {v4 : Nat} {S : HS} (h1 : P_X1_worstSpeed_0 Q1 v0 v1 v2 v3 v4 S) (h2 : P_X1_worstSpeed_0 Q2 v0 v1 v2 v3 v4 S) (hq : ∀ (r : Int32) (T : HS), Q1 r T → Q2 r T → Q3 r T) : P_X1_worstSpeed_0 Q3 v0 v1 v2 v3 v4 S := by
  delta P_X1_worstSpeed_0 at h1 h2 ⊢
  obtain ⟨c1, h1⟩ := h1
  obtain ⟨_, h2⟩ := h2
  refine ⟨c1, ?_⟩
  intro x3 e2
  have h1 := h1 x3 e2
  have h2 := h2 x3 e2
  intro x5 e4
  have h1 := h1 x5 e4
  have h2 := h2 x5 e4
  exact cm_X1_worstSpeed_17 h1 h2 hq
theorem cm_X1_worstSpeed {Q1 Q2 Q3 : Int32 → HS → Prop} {v0 : Nat} {v1 : Nat} {v2 : Nat} {v3 : Int32} {v4 : Nat} {S : HS} (h1 : P_X1_worstSpeed v0 v1 v2 v3 v4 Q1 S) (h2 : P_X1_worstSpeed v0 v1 v2 v3 v4 Q2 S) (hq : ∀ (r : Int32) (T : HS), Q1 r T → Q2 r T → Q3 r T) : P_X1_worstSpeed v0 v1 v2 v3 v4 Q3 S := cm_X1_worstSpeed_0 h1 h2 hq
set_option maxRecDepth 20000 in
set_option maxHeartbeats 1000000 in
theorem cmB_X2_addFaces_2 {Q1 Q2 Q3 : HS → Prop} {X2_1 X2_2 X2_3 : Nat → Nat → Int32 → HS → Prop} {v0 : Nat} {v1 : Nat} {v2 : Int32} {S : HS} (h1 : B_X2_addFaces_2 Q1 X2_1 v0 v1 v2 S) (h2 : B_X2_addFaces_2 Q2 X2_2 v0 v1 v2 S) (hq : ∀ (T : HS), Q1 T → Q2 T → Q3 T) (hX2 : ∀ (u0 : Nat) (u1 : Nat) (u2 : Int32) (u3 : HS), X2_1 u0 u1 u2 u3 → X2_2 u0 u1 u2 u3 → X2_3 u0 u1 u2 u3) : B_X2_addFaces_2 Q3 X2_3 v0 v1 v2 S := by
  delta B_X2_addFaces_2 at h1 h2 ⊢
  refine ⟨?_, ?_⟩
  · intro c1
    have h1 := h1.1 c1
    have h2 := h2.1 c1
    exact hq _ h1 h2
  · intro c2
    have h1 := h1.2 c2
    have h2 := h2.2 c2
    obtain ⟨c3, h1⟩ := h1
    obtain ⟨_, h2⟩ := h2
    refine ⟨c3, ?_⟩
    refine ⟨?_, ?_⟩
    · intro c4
      have h1 := h1.1 c4
      have h2 := h2.1 c4
      exact hq _ h1 h2
    · intro c5
      have h1 := h1.2 c5
      have h2 := h2.2 c5
      obtain ⟨c6, h1⟩ := h1
      obtain ⟨_, h2⟩ := h2
      refine ⟨c6, ?_⟩
      obtain ⟨b7, e8, h1⟩ := h1
      obtain ⟨b9, e10, h2⟩ := h2
      cases e8.symm.trans e10
      refine ⟨b7, e8, ?_⟩
      obtain ⟨c11, h1⟩ := h1
      obtain ⟨_, h2⟩ := h2
      refine ⟨c11, ?_⟩
      obtain ⟨c12, h1⟩ := h1
      obtain ⟨_, h2⟩ := h2
      refine ⟨c12, ?_⟩
      intro x14 e13
      have h1 := h1 x14 e13
      have h2 := h2 x14 e13
      obtain ⟨c15, h1⟩ := h1
      obtain ⟨_, h2⟩ := h2
      refine ⟨c15, ?_⟩
      intro x17 e16
      have h1 := h1 x17 e16
      have h2 := h2 x17 e16
      intro x19 e18
      have h1 := h1 x19 e18
      have h2 := h2 x19 e18
      obtain ⟨c20, h1⟩ := h1
      obtain ⟨_, h2⟩ := h2
      refine ⟨c20, ?_⟩
      intro x22 e21
      have h1 := h1 x22 e21
      have h2 := h2 x22 e21
      intro x24 e23
      have h1 := h1 x24 e23
      have h2 := h2 x24 e23
      exact hX2 _ _ _ _ h1 h2
theorem fd_X2_addFaces_2 {Q : HS → Prop} {v0 : Nat} {v1 : Nat} {v2 : Int32} {S : HS} (h : B_X2_addFaces_2 Q (P_X2_addFaces_2 Q) v0 v1 v2 S) : P_X2_addFaces_2 Q v0 v1 v2 S := fun X hX => hX v0 v1 v2 S (cmB_X2_addFaces_2 h h (fun _ a _ => a) (fun _ _ _ _ hp _ => hp X hX))
theorem uf_X2_addFaces_2 {Q : HS → Prop} {v0 : Nat} {v1 : Nat} {v2 : Int32} {S : HS} (h : P_X2_addFaces_2 Q v0 v1 v2 S) : B_X2_addFaces_2 Q (P_X2_addFaces_2 Q) v0 v1 v2 S := h (fun v0 v1 v2 S => B_X2_addFaces_2 Q (P_X2_addFaces_2 Q) v0 v1 v2 S) (fun v0 v1 v2 S hB => cmB_X2_addFaces_2 hB hB (fun _ a _ => a) (fun _ _ _ _ hb _ => fd_X2_addFaces_2 hb))
theorem cm_X2_addFaces_2 {Q1 Q2 Q3 : HS → Prop} {v0 : Nat} {v1 : Nat} {v2 : Int32} {S : HS} (h1 : P_X2_addFaces_2 Q1 v0 v1 v2 S) (h2 : P_X2_addFaces_2 Q2 v0 v1 v2 S) (hq : ∀ (T : HS), Q1 T → Q2 T → Q3 T) : P_X2_addFaces_2 Q3 v0 v1 v2 S := h1 (fun v0 v1 v2 S => P_X2_addFaces_2 Q2 v0 v1 v2 S → P_X2_addFaces_2 Q3 v0 v1 v2 S) (fun v0 v1 v2 S hB hp => fd_X2_addFaces_2 (cmB_X2_addFaces_2 hB (uf_X2_addFaces_2 hp) hq (fun _ _ _ _ hx hp => hx hp))) h2
set_option maxRecDepth 20000 in
set_option maxHeartbeats 1000000 in
theorem cm_X2_addFaces_0 {Q1 Q2 Q3 : HS → Prop} {v0 : Nat} {v1 : Nat} {S : HS} (h1 : P_X2_addFaces_0 Q1 v0 v1 S) (h2 : P_X2_addFaces_0 Q2 v0 v1 S) (hq : ∀ (T : HS), Q1 T → Q2 T → Q3 T) : P_X2_addFaces_0 Q3 v0 v1 S := by
  delta P_X2_addFaces_0 at h1 h2 ⊢
  exact cm_X2_addFaces_2 h1 h2 hq
theorem cm_X2_addFaces {Q1 Q2 Q3 : HS → Prop} {v0 : Nat} {v1 : Nat} {S : HS} (h1 : P_X2_addFaces v0 v1 Q1 S) (h2 : P_X2_addFaces v0 v1 Q2 S) (hq : ∀ (T : HS), Q1 T → Q2 T → Q3 T) : P_X2_addFaces v0 v1 Q3 S := cm_X2_addFaces_0 h1 h2 hq
set_option maxRecDepth 20000 in
set_option maxHeartbeats 1000000 in
theorem cmB_X2_allGot_4 {Q1 Q2 Q3 : Int64 → HS → Prop} {X4_1 X4_2 X4_3 : Nat → Int64 → Int32 → HS → Prop} {v0 : Nat} {v1 : Int64} {v3 : Int32} {S : HS} (h1 : B_X2_allGot_4 Q1 X4_1 v0 v1 v3 S) (h2 : B_X2_allGot_4 Q2 X4_2 v0 v1 v3 S) (hq : ∀ (r : Int64) (T : HS), Q1 r T → Q2 r T → Q3 r T) (hX4 : ∀ (u0 : Nat) (u1 : Int64) (u2 : Int32) (u3 : HS), X4_1 u0 u1 u2 u3 → X4_2 u0 u1 u2 u3 → X4_3 u0 u1 u2 u3) : B_X2_allGot_4 Q3 X4_3 v0 v1 v3 S := by
  delta B_X2_allGot_4 at h1 h2 ⊢
  refine ⟨?_, ?_⟩
  · intro c1
    have h1 := h1.1 c1
    have h2 := h2.1 c1
    exact hq _ _ h1 h2
  · intro c2
    have h1 := h1.2 c2
    have h2 := h2.2 c2
    obtain ⟨c3, h1⟩ := h1
    obtain ⟨_, h2⟩ := h2
    refine ⟨c3, ?_⟩
    obtain ⟨b4, e5, h1⟩ := h1
    obtain ⟨b6, e7, h2⟩ := h2
    cases e5.symm.trans e7
    refine ⟨b4, e5, ?_⟩
    obtain ⟨c8, h1⟩ := h1
    obtain ⟨_, h2⟩ := h2
    refine ⟨c8, ?_⟩
    obtain ⟨c9, h1⟩ := h1
    obtain ⟨_, h2⟩ := h2
    refine ⟨c9, ?_⟩
    intro x11 e10
    have h1 := h1 x11 e10
    have h2 := h2 x11 e10
    intro x13 e12
    have h1 := h1 x13 e12
    have h2 := h2 x13 e12
    intro x15 e14
    have h1 := h1 x15 e14
    have h2 := h2 x15 e14
    exact hX4 _ _ _ _ h1 h2
theorem fd_X2_allGot_4 {Q : Int64 → HS → Prop} {v0 : Nat} {v1 : Int64} {v3 : Int32} {S : HS} (h : B_X2_allGot_4 Q (P_X2_allGot_4 Q) v0 v1 v3 S) : P_X2_allGot_4 Q v0 v1 v3 S := fun X hX => hX v0 v1 v3 S (cmB_X2_allGot_4 h h (fun _ _ a _ => a) (fun _ _ _ _ hp _ => hp X hX))
theorem uf_X2_allGot_4 {Q : Int64 → HS → Prop} {v0 : Nat} {v1 : Int64} {v3 : Int32} {S : HS} (h : P_X2_allGot_4 Q v0 v1 v3 S) : B_X2_allGot_4 Q (P_X2_allGot_4 Q) v0 v1 v3 S := h (fun v0 v1 v3 S => B_X2_allGot_4 Q (P_X2_allGot_4 Q) v0 v1 v3 S) (fun v0 v1 v3 S hB => cmB_X2_allGot_4 hB hB (fun _ _ a _ => a) (fun _ _ _ _ hb _ => fd_X2_allGot_4 hb))
theorem cm_X2_allGot_4 {Q1 Q2 Q3 : Int64 → HS → Prop} {v0 : Nat} {v1 : Int64} {v3 : Int32} {S : HS} (h1 : P_X2_allGot_4 Q1 v0 v1 v3 S) (h2 : P_X2_allGot_4 Q2 v0 v1 v3 S) (hq : ∀ (r : Int64) (T : HS), Q1 r T → Q2 r T → Q3 r T) : P_X2_allGot_4 Q3 v0 v1 v3 S := h1 (fun v0 v1 v3 S => P_X2_allGot_4 Q2 v0 v1 v3 S → P_X2_allGot_4 Q3 v0 v1 v3 S) (fun v0 v1 v3 S hB hp => fd_X2_allGot_4 (cmB_X2_allGot_4 hB (uf_X2_allGot_4 hp) hq (fun _ _ _ _ hx hp => hx hp))) h2
set_option maxRecDepth 20000 in
set_option maxHeartbeats 1000000 in
theorem cm_X2_allGot_0 {Q1 Q2 Q3 : Int64 → HS → Prop} {v0 : Nat} {S : HS} (h1 : P_X2_allGot_0 Q1 v0 S) (h2 : P_X2_allGot_0 Q2 v0 S) (hq : ∀ (r : Int64) (T : HS), Q1 r T → Q2 r T → Q3 r T) : P_X2_allGot_0 Q3 v0 S := by
  delta P_X2_allGot_0 at h1 h2 ⊢
  exact cm_X2_allGot_4 h1 h2 hq
theorem cm_X2_allGot {Q1 Q2 Q3 : Int64 → HS → Prop} {v0 : Nat} {S : HS} (h1 : P_X2_allGot v0 Q1 S) (h2 : P_X2_allGot v0 Q2 S) (hq : ∀ (r : Int64) (T : HS), Q1 r T → Q2 r T → Q3 r T) : P_X2_allGot v0 Q3 S := cm_X2_allGot_0 h1 h2 hq
set_option maxRecDepth 20000 in
set_option maxHeartbeats 1000000 in
theorem cm_X3_init_0 {Q1 Q2 Q3 : HS → Prop} {v0 : Nat} {S : HS} (h1 : P_X3_init_0 Q1 v0 S) (h2 : P_X3_init_0 Q2 v0 S) (hq : ∀ (T : HS), Q1 T → Q2 T → Q3 T) : P_X3_init_0 Q3 v0 S := by
  delta P_X3_init_0 at h1 h2 ⊢
  exact hq _ h1 h2
theorem cm_X3_init {Q1 Q2 Q3 : HS → Prop} {v0 : Nat} {S : HS} (h1 : P_X3_init v0 Q1 S) (h2 : P_X3_init v0 Q2 S) (hq : ∀ (T : HS), Q1 T → Q2 T → Q3 T) : P_X3_init v0 Q3 S := cm_X3_init_0 h1 h2 hq
set_option maxRecDepth 20000 in
set_option maxHeartbeats 1000000 in
theorem cm_X4_fail_0 {Q1 Q2 Q3 : Int32 → HS → Prop} {v0 : Nat} {v1 : Int32} {S : HS} (h1 : P_X4_fail_0 Q1 v0 v1 S) (h2 : P_X4_fail_0 Q2 v0 v1 S) (hq : ∀ (r : Int32) (T : HS), Q1 r T → Q2 r T → Q3 r T) : P_X4_fail_0 Q3 v0 v1 S := by
  delta P_X4_fail_0 at h1 h2 ⊢
  obtain ⟨c1, h1⟩ := h1
  obtain ⟨_, h2⟩ := h2
  refine ⟨c1, ?_⟩
  intro x3 e2
  have h1 := h1 x3 e2
  have h2 := h2 x3 e2
  intro x5 e4
  have h1 := h1 x5 e4
  have h2 := h2 x5 e4
  intro x7 e6
  have h1 := h1 x7 e6
  have h2 := h2 x7 e6
  exact hq _ _ h1 h2
theorem cm_X4_fail {Q1 Q2 Q3 : Int32 → HS → Prop} {v0 : Nat} {v1 : Int32} {S : HS} (h1 : P_X4_fail v0 v1 Q1 S) (h2 : P_X4_fail v0 v1 Q2 S) (hq : ∀ (r : Int32) (T : HS), Q1 r T → Q2 r T → Q3 r T) : P_X4_fail v0 v1 Q3 S := cm_X4_fail_0 h1 h2 hq
set_option maxRecDepth 20000 in
set_option maxHeartbeats 1000000 in
theorem cm_X4_sortAt_58 {Q1 Q2 Q3 : Int32 → HS → Prop} {v2 : Int32} {S : HS} (h1 : P_X4_sortAt_58 Q1 v2 S) (h2 : P_X4_sortAt_58 Q2 v2 S) (hq : ∀ (r : Int32) (T : HS), Q1 r T → Q2 r T → Q3 r T) : P_X4_sortAt_58 Q3 v2 S := by
  delta P_X4_sortAt_58 at h1 h2 ⊢
  refine ⟨?_, ?_, ?_, ?_⟩
  · intro c1
    have h1 := h1.1 c1
    have h2 := h2.1 c1
    exact hq _ _ h1 h2
  · intro c2
    have h1 := h1.2.1 c2
    have h2 := h2.2.1 c2
    exact hq _ _ h1 h2
  · intro c3
    have h1 := h1.2.2.1 c3
    have h2 := h2.2.2.1 c3
    exact hq _ _ h1 h2
  · intro c4
    have h1 := h1.2.2.2 c4
    have h2 := h2.2.2.2 c4
    exact hq _ _ h1 h2
set_option maxRecDepth 20000 in
set_option maxHeartbeats 1000000 in
theorem cm_X4_sortAt_44 {Q1 Q2 Q3 : Int32 → HS → Prop} {v2 : Int32} {S : HS} (h1 : P_X4_sortAt_44 Q1 v2 S) (h2 : P_X4_sortAt_44 Q2 v2 S) (hq : ∀ (r : Int32) (T : HS), Q1 r T → Q2 r T → Q3 r T) : P_X4_sortAt_44 Q3 v2 S := by
  delta P_X4_sortAt_44 at h1 h2 ⊢
  refine ⟨?_, ?_⟩
  · intro c1
    have h1 := h1.1 c1
    have h2 := h2.1 c1
    exact cm_X4_sortAt_58 h1 h2 hq
  · intro c2
    have h1 := h1.2 c2
    have h2 := h2.2 c2
    refine ⟨?_, ?_⟩
    · intro c3
      have h1 := h1.1 c3
      have h2 := h2.1 c3
      exact cm_X4_sortAt_58 h1 h2 hq
    · intro c4
      have h1 := h1.2 c4
      have h2 := h2.2 c4
      exact hq _ _ h1 h2
set_option maxRecDepth 20000 in
set_option maxHeartbeats 1000000 in
theorem cm_X4_sortAt_0 {Q1 Q2 Q3 : Int32 → HS → Prop} {v0 : Nat} {v1 : Int32} {S : HS} (h1 : P_X4_sortAt_0 Q1 v0 v1 S) (h2 : P_X4_sortAt_0 Q2 v0 v1 S) (hq : ∀ (r : Int32) (T : HS), Q1 r T → Q2 r T → Q3 r T) : P_X4_sortAt_0 Q3 v0 v1 S := by
  delta P_X4_sortAt_0 at h1 h2 ⊢
  refine ⟨?_, ?_⟩
  · intro c1
    have h1 := h1.1 c1
    have h2 := h2.1 c1
    exact hq _ _ h1 h2
  · intro c2
    have h1 := h1.2 c2
    have h2 := h2.2 c2
    obtain ⟨c3, h1⟩ := h1
    obtain ⟨_, h2⟩ := h2
    refine ⟨c3, ?_⟩
    intro x5 e4
    have h1 := h1 x5 e4
    have h2 := h2 x5 e4
    refine ⟨?_, ?_⟩
    · intro c6
      have h1 := h1.1 c6
      have h2 := h2.1 c6
      exact hq _ _ h1 h2
    · intro c7
      have h1 := h1.2 c7
      have h2 := h2.2 c7
      obtain ⟨b8, e9, h1⟩ := h1
      obtain ⟨b10, e11, h2⟩ := h2
      cases e9.symm.trans e11
      refine ⟨b8, e9, ?_⟩
      obtain ⟨c12, h1⟩ := h1
      obtain ⟨_, h2⟩ := h2
      refine ⟨c12, ?_⟩
      refine ⟨?_, ?_⟩
      · intro c13
        have h1 := h1.1 c13
        have h2 := h2.1 c13
        obtain ⟨b14, e15, h1⟩ := h1
        obtain ⟨b16, e17, h2⟩ := h2
        cases e15.symm.trans e17
        refine ⟨b14, e15, ?_⟩
        obtain ⟨c18, h1⟩ := h1
        obtain ⟨_, h2⟩ := h2
        refine ⟨c18, ?_⟩
        obtain ⟨c19, h1⟩ := h1
        obtain ⟨_, h2⟩ := h2
        refine ⟨c19, ?_⟩
        intro x21 e20
        have h1 := h1 x21 e20
        have h2 := h2 x21 e20
        refine ⟨?_, ?_⟩
        · intro c22
          have h1 := h1.1 c22
          have h2 := h2.1 c22
          exact cm_X4_sortAt_44 h1 h2 hq
        · intro c23
          have h1 := h1.2 c23
          have h2 := h2.2 c23
          refine ⟨?_, ?_⟩
          · intro c24
            have h1 := h1.1 c24
            have h2 := h2.1 c24
            exact cm_X4_sortAt_44 h1 h2 hq
          · intro c25
            have h1 := h1.2 c25
            have h2 := h2.2 c25
            exact hq _ _ h1 h2
      · intro c26
        have h1 := h1.2 c26
        have h2 := h2.2 c26
        exact hq _ _ h1 h2
theorem cm_X4_sortAt {Q1 Q2 Q3 : Int32 → HS → Prop} {v0 : Nat} {v1 : Int32} {S : HS} (h1 : P_X4_sortAt v0 v1 Q1 S) (h2 : P_X4_sortAt v0 v1 Q2 S) (hq : ∀ (r : Int32) (T : HS), Q1 r T → Q2 r T → Q3 r T) : P_X4_sortAt v0 v1 Q3 S := cm_X4_sortAt_0 h1 h2 hq
set_option maxRecDepth 20000 in
set_option maxHeartbeats 1000000 in
theorem cm_X4_next_201 {Q1 Q2 Q3 : HS → Prop} {X118_1 X118_2 X118_3 : Nat → Int32 → Int32 → Int32 → Int32 → HS → Prop} {v0 : Nat} {v1 : Int32} {v2 : Int32} {v3 : Int32} {v4 : Int32} {S : HS} (h1 : P_X4_next_201 Q1 X118_1 v0 v1 v2 v3 v4 S) (h2 : P_X4_next_201 Q2 X118_2 v0 v1 v2 v3 v4 S) (hq : ∀ (T : HS), Q1 T → Q2 T → Q3 T) (hX118 : ∀ (u0 : Nat) (u1 : Int32) (u2 : Int32) (u3 : Int32) (u4 : Int32) (u5 : HS), X118_1 u0 u1 u2 u3 u4 u5 → X118_2 u0 u1 u2 u3 u4 u5 → X118_3 u0 u1 u2 u3 u4 u5) : P_X4_next_201 Q3 X118_3 v0 v1 v2 v3 v4 S := by
  delta P_X4_next_201 at h1 h2 ⊢
  obtain ⟨c1, h1⟩ := h1
  obtain ⟨_, h2⟩ := h2
  refine ⟨c1, ?_⟩
  intro x3 e2
  have h1 := h1 x3 e2
  have h2 := h2 x3 e2
  intro x5 e4
  have h1 := h1 x5 e4
  have h2 := h2 x5 e4
  intro x7 e6
  have h1 := h1 x7 e6
  have h2 := h2 x7 e6
  intro x9 e8
  have h1 := h1 x9 e8
  have h2 := h2 x9 e8
  exact hX118 _ _ _ _ _ _ h1 h2
set_option maxRecDepth 20000 in
set_option maxHeartbeats 1000000 in
theorem cm_X4_next_195 {Q1 Q2 Q3 : HS → Prop} {X118_1 X118_2 X118_3 : Nat → Int32 → Int32 → Int32 → Int32 → HS → Prop} {v0 : Nat} {v1 : Int32} {v2 : Int32} {v3 : Int32} {v4 : Int32} {s0 : Nat} {s1 : Int64} {s2 : Int32} {s3 : Int32} {S : HS} (h1 : P_X4_next_195 Q1 X118_1 v0 v1 v2 v3 v4 s0 s1 s2 s3 S) (h2 : P_X4_next_195 Q2 X118_2 v0 v1 v2 v3 v4 s0 s1 s2 s3 S) (hq : ∀ (T : HS), Q1 T → Q2 T → Q3 T) (hX118 : ∀ (u0 : Nat) (u1 : Int32) (u2 : Int32) (u3 : Int32) (u4 : Int32) (u5 : HS), X118_1 u0 u1 u2 u3 u4 u5 → X118_2 u0 u1 u2 u3 u4 u5 → X118_3 u0 u1 u2 u3 u4 u5) : P_X4_next_195 Q3 X118_3 v0 v1 v2 v3 v4 s0 s1 s2 s3 S := by
  delta P_X4_next_195 at h1 h2 ⊢
  obtain ⟨c1, h1⟩ := h1
  obtain ⟨_, h2⟩ := h2
  refine ⟨c1, ?_⟩
  intro x3 e2
  have h1 := h1 x3 e2
  have h2 := h2 x3 e2
  intro x5 e4
  have h1 := h1 x5 e4
  have h2 := h2 x5 e4
  exact cm_X4_next_201 h1 h2 hq hX118
set_option maxRecDepth 20000 in
set_option maxHeartbeats 1000000 in
theorem cm_X4_next_240 {Q1 Q2 Q3 : HS → Prop} {v0 : Nat} {v1 : Int32} {S : HS} (h1 : P_X4_next_240 Q1 v0 v1 S) (h2 : P_X4_next_240 Q2 v0 v1 S) (hq : ∀ (T : HS), Q1 T → Q2 T → Q3 T) : P_X4_next_240 Q3 v0 v1 S := by
  delta P_X4_next_240 at h1 h2 ⊢
  refine ⟨?_, ?_⟩
  · intro c1
    have h1 := h1.1 c1
    have h2 := h2.1 c1
    exact hq _ h1 h2
  · intro c2
    have h1 := h1.2 c2
    have h2 := h2.2 c2
    obtain ⟨c3, h1⟩ := h1
    obtain ⟨_, h2⟩ := h2
    refine ⟨c3, ?_⟩
    intro x5 e4
    have h1 := h1 x5 e4
    have h2 := h2 x5 e4
    refine ⟨?_, ?_⟩
    · intro c6
      have h1 := h1.1 c6
      have h2 := h2.1 c6
      exact hq _ h1 h2
    · intro c7
      have h1 := h1.2 c7
      have h2 := h2.2 c7
      intro x9 e8
      have h1 := h1 x9 e8
      have h2 := h2 x9 e8
      intro x11 e10
      have h1 := h1 x11 e10
      have h2 := h2 x11 e10
      intro x13 e12
      have h1 := h1 x13 e12
      have h2 := h2 x13 e12
      exact hq _ h1 h2
set_option maxRecDepth 20000 in
set_option maxHeartbeats 1000000 in
theorem cm_X4_next_217 {Q1 Q2 Q3 : HS → Prop} {v0 : Nat} {v1 : Int32} {v2 : Int32} {S : HS} (h1 : P_X4_next_217 Q1 v0 v1 v2 S) (h2 : P_X4_next_217 Q2 v0 v1 v2 S) (hq : ∀ (T : HS), Q1 T → Q2 T → Q3 T) : P_X4_next_217 Q3 v0 v1 v2 S := by
  delta P_X4_next_217 at h1 h2 ⊢
  refine ⟨?_, ?_⟩
  · intro c1
    have h1 := h1.1 c1
    have h2 := h2.1 c1
    exact cm_X4_next_240 h1 h2 hq
  · intro c2
    have h1 := h1.2 c2
    have h2 := h2.2 c2
    obtain ⟨c3, h1⟩ := h1
    obtain ⟨_, h2⟩ := h2
    refine ⟨c3, ?_⟩
    intro x5 e4
    have h1 := h1 x5 e4
    have h2 := h2 x5 e4
    intro x7 e6
    have h1 := h1 x7 e6
    have h2 := h2 x7 e6
    refine ⟨?_, ?_⟩
    · intro c8
      have h1 := h1.1 c8
      have h2 := h2.1 c8
      exact cm_X4_next_240 h1 h2 hq
    · intro c9
      have h1 := h1.2 c9
      have h2 := h2.2 c9
      intro x11 e10
      have h1 := h1 x11 e10
      have h2 := h2 x11 e10
      exact cm_X4_next_240 h1 h2 hq
set_option maxRecDepth 20000 in
set_option maxHeartbeats 1000000 in
theorem cmB_X4_next_118 {Q1 Q2 Q3 : HS → Prop} {X118_1 X118_2 X118_3 : Nat → Int32 → Int32 → Int32 → Int32 → HS → Prop} {v0 : Nat} {v1 : Int32} {v2 : Int32} {v3 : Int32} {v4 : Int32} {S : HS} (h1 : B_X4_next_118 Q1 X118_1 v0 v1 v2 v3 v4 S) (h2 : B_X4_next_118 Q2 X118_2 v0 v1 v2 v3 v4 S) (hq : ∀ (T : HS), Q1 T → Q2 T → Q3 T) (hX118 : ∀ (u0 : Nat) (u1 : Int32) (u2 : Int32) (u3 : Int32) (u4 : Int32) (u5 : HS), X118_1 u0 u1 u2 u3 u4 u5 → X118_2 u0 u1 u2 u3 u4 u5 → X118_3 u0 u1 u2 u3 u4 u5) : B_X4_next_118 Q3 X118_3 v0 v1 v2 v3 v4 S := by
  delta B_X4_next_118 at h1 h2 ⊢
  refine ⟨?_, ?_⟩
  · intro c1
    have h1 := h1.1 c1
    have h2 := h2.1 c1
    exact cm_X4_next_217 h1 h2 hq
  · intro c2
    have h1 := h1.2 c2
    have h2 := h2.2 c2
    refine ⟨?_, ?_⟩
    · intro c3
      have h1 := h1.1 c3
      have h2 := h2.1 c3
      exact cm_X4_next_217 h1 h2 hq
    · intro c4
      have h1 := h1.2 c4
      have h2 := h2.2 c4
      obtain ⟨c5, h1⟩ := h1
      obtain ⟨_, h2⟩ := h2
      refine ⟨c5, ?_⟩
      intro x7 e6
      have h1 := h1 x7 e6
      have h2 := h2 x7 e6
      refine cm_X4_sortAt h1 h2 (fun x8 x9 h1 h2 g10 => ?_)
      have h1 := h1 g10
      have h2 := h2 g10
      intro x12 e11
      have h1 := h1 x12 e11
      have h2 := h2 x12 e11
      refine ⟨?_, ?_⟩
      · intro c13
        have h1 := h1.1 c13
        have h2 := h2.1 c13
        exact cm_X4_next_217 h1 h2 hq
      · intro c14
        have h1 := h1.2 c14
        have h2 := h2.2 c14
        refine ⟨?_, ?_⟩
        · intro c15
          have h1 := h1.1 c15
          have h2 := h2.1 c15
          exact cm_X4_next_201 h1 h2 hq hX118
        · intro c16
          have h1 := h1.2 c16
          have h2 := h2.2 c16
          intro x18 e17
          have h1 := h1 x18 e17
          have h2 := h2 x18 e17
          obtain ⟨b19, e20, h1⟩ := h1
          obtain ⟨b21, e22, h2⟩ := h2
          cases e20.symm.trans e22
          refine ⟨b19, e20, ?_⟩
          obtain ⟨c23, h1⟩ := h1
          obtain ⟨_, h2⟩ := h2
          refine ⟨c23, ?_⟩
          refine ⟨?_, ?_⟩
          · intro c24
            have h1 := h1.1 c24
            have h2 := h2.1 c24
            exact cm_X4_next_201 h1 h2 hq hX118
          · intro c25
            have h1 := h1.2 c25
            have h2 := h2.2 c25
            intro x27 e26
            have h1 := h1 x27 e26
            have h2 := h2 x27 e26
            obtain ⟨b28, e29, h1⟩ := h1
            obtain ⟨b30, e31, h2⟩ := h2
            cases e29.symm.trans e31
            refine ⟨b28, e29, ?_⟩
            intro x33 e32
            have h1 := h1 x33 e32
            have h2 := h2 x33 e32
            obtain ⟨c34, h1⟩ := h1
            obtain ⟨_, h2⟩ := h2
            refine ⟨c34, ?_⟩
            obtain ⟨c35, h1⟩ := h1
            obtain ⟨_, h2⟩ := h2
            refine ⟨c35, ?_⟩
            intro x37 e36
            have h1 := h1 x37 e36
            have h2 := h2 x37 e36
            intro x39 e38
            have h1 := h1 x39 e38
            have h2 := h2 x39 e38
            refine ⟨?_, ?_⟩
            · intro c40
              have h1 := h1.1 c40
              have h2 := h2.1 c40
              exact cm_X4_next_195 h1 h2 hq hX118
            · intro c41
              have h1 := h1.2 c41
              have h2 := h2.2 c41
              exact cm_X4_next_195 h1 h2 hq hX118
theorem fd_X4_next_118 {Q : HS → Prop} {v0 : Nat} {v1 : Int32} {v2 : Int32} {v3 : Int32} {v4 : Int32} {S : HS} (h : B_X4_next_118 Q (P_X4_next_118 Q) v0 v1 v2 v3 v4 S) : P_X4_next_118 Q v0 v1 v2 v3 v4 S := fun X hX => hX v0 v1 v2 v3 v4 S (cmB_X4_next_118 h h (fun _ a _ => a) (fun _ _ _ _ _ _ hp _ => hp X hX))
theorem uf_X4_next_118 {Q : HS → Prop} {v0 : Nat} {v1 : Int32} {v2 : Int32} {v3 : Int32} {v4 : Int32} {S : HS} (h : P_X4_next_118 Q v0 v1 v2 v3 v4 S) : B_X4_next_118 Q (P_X4_next_118 Q) v0 v1 v2 v3 v4 S := h (fun v0 v1 v2 v3 v4 S => B_X4_next_118 Q (P_X4_next_118 Q) v0 v1 v2 v3 v4 S) (fun v0 v1 v2 v3 v4 S hB => cmB_X4_next_118 hB hB (fun _ a _ => a) (fun _ _ _ _ _ _ hb _ => fd_X4_next_118 hb))
theorem cm_X4_next_118 {Q1 Q2 Q3 : HS → Prop} {v0 : Nat} {v1 : Int32} {v2 : Int32} {v3 : Int32} {v4 : Int32} {S : HS} (h1 : P_X4_next_118 Q1 v0 v1 v2 v3 v4 S) (h2 : P_X4_next_118 Q2 v0 v1 v2 v3 v4 S) (hq : ∀ (T : HS), Q1 T → Q2 T → Q3 T) : P_X4_next_118 Q3 v0 v1 v2 v3 v4 S := h1 (fun v0 v1 v2 v3 v4 S => P_X4_next_118 Q2 v0 v1 v2 v3 v4 S → P_X4_next_118 Q3 v0 v1 v2 v3 v4 S) (fun v0 v1 v2 v3 v4 S hB hp => fd_X4_next_118 (cmB_X4_next_118 hB (uf_X4_next_118 hp) hq (fun _ _ _ _ _ _ hx hp => hx hp))) h2
set_option maxRecDepth 20000 in
set_option maxHeartbeats 1000000 in
theorem cm_X4_next_114 {Q1 Q2 Q3 : HS → Prop} {v0 : Nat} {v1 : Int32} {v2 : Int32} {s0 : Int32} {S : HS} (h1 : P_X4_next_114 Q1 v0 v1 v2 s0 S) (h2 : P_X4_next_114 Q2 v0 v1 v2 s0 S) (hq : ∀ (T : HS), Q1 T → Q2 T → Q3 T) : P_X4_next_114 Q3 v0 v1 v2 s0 S := by
  delta P_X4_next_114 at h1 h2 ⊢
  exact cm_X4_next_118 h1 h2 hq
set_option maxRecDepth 20000 in
set_option maxHeartbeats 1000000 in
theorem cm_X4_next_98 {Q1 Q2 Q3 : HS → Prop} {v0 : Nat} {v1 : Int32} {s0 : Int32} {S : HS} (h1 : P_X4_next_98 Q1 v0 v1 s0 S) (h2 : P_X4_next_98 Q2 v0 v1 s0 S) (hq : ∀ (T : HS), Q1 T → Q2 T → Q3 T) : P_X4_next_98 Q3 v0 v1 s0 S := by
  delta P_X4_next_98 at h1 h2 ⊢
  obtain ⟨c1, h1⟩ := h1
  obtain ⟨_, h2⟩ := h2
  refine ⟨c1, ?_⟩
  intro x3 e2
  have h1 := h1 x3 e2
  have h2 := h2 x3 e2
  refine ⟨?_, ?_⟩
  · intro c4
    have h1 := h1.1 c4
    have h2 := h2.1 c4
    exact cm_X4_next_114 h1 h2 hq
  · intro c5
    have h1 := h1.2 c5
    have h2 := h2.2 c5
    exact cm_X4_next_114 h1 h2 hq
set_option maxRecDepth 20000 in
set_option maxHeartbeats 1000000 in
theorem cm_X4_next_83 {Q1 Q2 Q3 : HS → Prop} {v0 : Nat} {s0 : Int32} {S : HS} (h1 : P_X4_next_83 Q1 v0 s0 S) (h2 : P_X4_next_83 Q2 v0 s0 S) (hq : ∀ (T : HS), Q1 T → Q2 T → Q3 T) : P_X4_next_83 Q3 v0 s0 S := by
  delta P_X4_next_83 at h1 h2 ⊢
  obtain ⟨c1, h1⟩ := h1
  obtain ⟨_, h2⟩ := h2
  refine ⟨c1, ?_⟩
  intro x3 e2
  have h1 := h1 x3 e2
  have h2 := h2 x3 e2
  refine ⟨?_, ?_⟩
  · intro c4
    have h1 := h1.1 c4
    have h2 := h2.1 c4
    exact cm_X4_next_98 h1 h2 hq
  · intro c5
    have h1 := h1.2 c5
    have h2 := h2.2 c5
    exact cm_X4_next_98 h1 h2 hq
set_option maxRecDepth 20000 in
set_option maxHeartbeats 1000000 in
theorem cm_X4_next_78 {Q1 Q2 Q3 : HS → Prop} {v0 : Nat} {S : HS} (h1 : P_X4_next_78 Q1 v0 S) (h2 : P_X4_next_78 Q2 v0 S) (hq : ∀ (T : HS), Q1 T → Q2 T → Q3 T) : P_X4_next_78 Q3 v0 S := by
  delta P_X4_next_78 at h1 h2 ⊢
  exact cm_X4_next_83 h1 h2 hq
set_option maxRecDepth 20000 in
set_option maxHeartbeats 1000000 in
theorem cm_X4_next_37 {Q1 Q2 Q3 : HS → Prop} {v0 : Nat} {S : HS} (h1 : P_X4_next_37 Q1 v0 S) (h2 : P_X4_next_37 Q2 v0 S) (hq : ∀ (T : HS), Q1 T → Q2 T → Q3 T) : P_X4_next_37 Q3 v0 S := by
  delta P_X4_next_37 at h1 h2 ⊢
  obtain ⟨c1, h1⟩ := h1
  obtain ⟨_, h2⟩ := h2
  refine ⟨c1, ?_⟩
  intro x3 e2
  have h1 := h1 x3 e2
  have h2 := h2 x3 e2
  intro x5 e4
  have h1 := h1 x5 e4
  have h2 := h2 x5 e4
  intro x7 e6
  have h1 := h1 x7 e6
  have h2 := h2 x7 e6
  refine cm_X4_sortAt h1 h2 (fun x8 x9 h1 h2 g10 => ?_)
  have h1 := h1 g10
  have h2 := h2 g10
  intro x12 e11
  have h1 := h1 x12 e11
  have h2 := h2 x12 e11
  intro x14 e13
  have h1 := h1 x14 e13
  have h2 := h2 x14 e13
  intro x16 e15
  have h1 := h1 x16 e15
  have h2 := h2 x16 e15
  refine ⟨?_, ?_⟩
  · intro c17
    have h1 := h1.1 c17
    have h2 := h2.1 c17
    exact cm_X4_next_78 h1 h2 hq
  · intro c18
    have h1 := h1.2 c18
    have h2 := h2.2 c18
    intro x20 e19
    have h1 := h1 x20 e19
    have h2 := h2 x20 e19
    refine ⟨?_, ?_⟩
    · intro c21
      have h1 := h1.1 c21
      have h2 := h2.1 c21
      exact cm_X4_next_83 h1 h2 hq
    · intro c22
      have h1 := h1.2 c22
      have h2 := h2.2 c22
      exact cm_X4_next_78 h1 h2 hq
set_option maxRecDepth 20000 in
set_option maxHeartbeats 1000000 in
theorem cmB_X4_next_2 {Q1 Q2 Q3 : HS → Prop} {X2_1 X2_2 X2_3 : Nat → Int32 → HS → Prop} {v0 : Nat} {v1 : Int32} {S : HS} (h1 : B_X4_next_2 Q1 X2_1 v0 v1 S) (h2 : B_X4_next_2 Q2 X2_2 v0 v1 S) (hq : ∀ (T : HS), Q1 T → Q2 T → Q3 T) (hX2 : ∀ (u0 : Nat) (u1 : Int32) (u2 : HS), X2_1 u0 u1 u2 → X2_2 u0 u1 u2 → X2_3 u0 u1 u2) : B_X4_next_2 Q3 X2_3 v0 v1 S := by
  delta B_X4_next_2 at h1 h2 ⊢
  refine ⟨?_, ?_⟩
  · intro c1
    have h1 := h1.1 c1
    have h2 := h2.1 c1
    exact cm_X4_next_37 h1 h2 hq
  · intro c2
    have h1 := h1.2 c2
    have h2 := h2.2 c2
    obtain ⟨c3, h1⟩ := h1
    obtain ⟨_, h2⟩ := h2
    refine ⟨c3, ?_⟩
    intro x5 e4
    have h1 := h1 x5 e4
    have h2 := h2 x5 e4
    refine cm_X4_sortAt h1 h2 (fun x6 x7 h1 h2 g8 => ?_)
    have h1 := h1 g8
    have h2 := h2 g8
    refine ⟨?_, ?_⟩
    · intro c9
      have h1 := h1.1 c9
      have h2 := h2.1 c9
      exact cm_X4_next_37 h1 h2 hq
    · intro c10
      have h1 := h1.2 c10
      have h2 := h2.2 c10
      intro x12 e11
      have h1 := h1 x12 e11
      have h2 := h2 x12 e11
      intro x14 e13
      have h1 := h1 x14 e13
      have h2 := h2 x14 e13
      intro x16 e15
      have h1 := h1 x16 e15
      have h2 := h2 x16 e15
      intro x18 e17
      have h1 := h1 x18 e17
      have h2 := h2 x18 e17
      exact hX2 _ _ _ h1 h2
theorem fd_X4_next_2 {Q : HS → Prop} {v0 : Nat} {v1 : Int32} {S : HS} (h : B_X4_next_2 Q (P_X4_next_2 Q) v0 v1 S) : P_X4_next_2 Q v0 v1 S := fun X hX => hX v0 v1 S (cmB_X4_next_2 h h (fun _ a _ => a) (fun _ _ _ hp _ => hp X hX))
theorem uf_X4_next_2 {Q : HS → Prop} {v0 : Nat} {v1 : Int32} {S : HS} (h : P_X4_next_2 Q v0 v1 S) : B_X4_next_2 Q (P_X4_next_2 Q) v0 v1 S := h (fun v0 v1 S => B_X4_next_2 Q (P_X4_next_2 Q) v0 v1 S) (fun v0 v1 S hB => cmB_X4_next_2 hB hB (fun _ a _ => a) (fun _ _ _ hb _ => fd_X4_next_2 hb))
theorem cm_X4_next_2 {Q1 Q2 Q3 : HS → Prop} {v0 : Nat} {v1 : Int32} {S : HS} (h1 : P_X4_next_2 Q1 v0 v1 S) (h2 : P_X4_next_2 Q2 v0 v1 S) (hq : ∀ (T : HS), Q1 T → Q2 T → Q3 T) : P_X4_next_2 Q3 v0 v1 S := h1 (fun v0 v1 S => P_X4_next_2 Q2 v0 v1 S → P_X4_next_2 Q3 v0 v1 S) (fun v0 v1 S hB hp => fd_X4_next_2 (cmB_X4_next_2 hB (uf_X4_next_2 hp) hq (fun _ _ _ hx hp => hx hp))) h2
set_option maxRecDepth 20000 in
set_option maxHeartbeats 1000000 in
theorem cm_X4_next_0 {Q1 Q2 Q3 : HS → Prop} {v0 : Nat} {S : HS} (h1 : P_X4_next_0 Q1 v0 S) (h2 : P_X4_next_0 Q2 v0 S) (hq : ∀ (T : HS), Q1 T → Q2 T → Q3 T) : P_X4_next_0 Q3 v0 S := by
  delta P_X4_next_0 at h1 h2 ⊢
  exact cm_X4_next_2 h1 h2 hq
theorem cm_X4_next {Q1 Q2 Q3 : HS → Prop} {v0 : Nat} {S : HS} (h1 : P_X4_next v0 Q1 S) (h2 : P_X4_next v0 Q2 S) (hq : ∀ (T : HS), Q1 T → Q2 T → Q3 T) : P_X4_next v0 Q3 S := cm_X4_next_0 h1 h2 hq
set_option maxRecDepth 20000 in
set_option maxHeartbeats 1000000 in
theorem cm_X4_whole_34 {Q1 Q2 Q3 : Int32 → HS → Prop} {v0 : Nat} {S : HS} (h1 : P_X4_whole_34 Q1 v0 S) (h2 : P_X4_whole_34 Q2 v0 S) (hq : ∀ (r : Int32) (T : HS), Q1 r T → Q2 r T → Q3 r T) : P_X4_whole_34 Q3 v0 S := by
  delta P_X4_whole_34 at h1 h2 ⊢
  obtain ⟨c1, h1⟩ := h1
  obtain ⟨_, h2⟩ := h2
  refine ⟨c1, ?_⟩
  refine cm_X4_fail h1 h2 (fun x2 x3 h1 h2 g4 g5 => ?_)
  have h1 := h1 g4 g5
  have h2 := h2 g4 g5
  obtain ⟨c6, h1⟩ := h1
  obtain ⟨_, h2⟩ := h2
  refine ⟨c6, ?_⟩
  exact hq _ _ h1 h2
set_option maxRecDepth 20000 in
set_option maxHeartbeats 1000000 in
theorem cm_X4_whole_0 {Q1 Q2 Q3 : Int32 → HS → Prop} {v0 : Nat} {v1 : Int32} {v2 : Int32} {S : HS} (h1 : P_X4_whole_0 Q1 v0 v1 v2 S) (h2 : P_X4_whole_0 Q2 v0 v1 v2 S) (hq : ∀ (r : Int32) (T : HS), Q1 r T → Q2 r T → Q3 r T) : P_X4_whole_0 Q3 v0 v1 v2 S := by
  delta P_X4_whole_0 at h1 h2 ⊢
  obtain ⟨c1, h1⟩ := h1
  obtain ⟨_, h2⟩ := h2
  refine ⟨c1, ?_⟩
  intro x3 e2
  have h1 := h1 x3 e2
  have h2 := h2 x3 e2
  refine ⟨?_, ?_⟩
  · intro c4
    have h1 := h1.1 c4
    have h2 := h2.1 c4
    intro x6 e5
    have h1 := h1 x6 e5
    have h2 := h2 x6 e5
    refine ⟨?_, ?_⟩
    · intro c7
      have h1 := h1.1 c7
      have h2 := h2.1 c7
      exact cm_X4_whole_34 h1 h2 hq
    · intro c8
      have h1 := h1.2 c8
      have h2 := h2.2 c8
      intro x10 e9
      have h1 := h1 x10 e9
      have h2 := h2 x10 e9
      refine ⟨?_, ?_⟩
      · intro c11
        have h1 := h1.1 c11
        have h2 := h2.1 c11
        intro x13 e12
        have h1 := h1 x13 e12
        have h2 := h2 x13 e12
        intro x15 e14
        have h1 := h1 x15 e14
        have h2 := h2 x15 e14
        intro x17 e16
        have h1 := h1 x17 e16
        have h2 := h2 x17 e16
        refine cm_X4_next h1 h2 (fun x18 h1 h2 g19 => ?_)
        have h1 := h1 g19
        have h2 := h2 g19
        exact hq _ _ h1 h2
      · intro c20
        have h1 := h1.2 c20
        have h2 := h2.2 c20
        exact cm_X4_whole_34 h1 h2 hq
  · intro c21
    have h1 := h1.2 c21
    have h2 := h2.2 c21
    refine cm_X4_fail h1 h2 (fun x22 x23 h1 h2 g24 g25 => ?_)
    have h1 := h1 g24 g25
    have h2 := h2 g24 g25
    obtain ⟨c26, h1⟩ := h1
    obtain ⟨_, h2⟩ := h2
    refine ⟨c26, ?_⟩
    exact hq _ _ h1 h2
theorem cm_X4_whole {Q1 Q2 Q3 : Int32 → HS → Prop} {v0 : Nat} {v1 : Int32} {v2 : Int32} {S : HS} (h1 : P_X4_whole v0 v1 v2 Q1 S) (h2 : P_X4_whole v0 v1 v2 Q2 S) (hq : ∀ (r : Int32) (T : HS), Q1 r T → Q2 r T → Q3 r T) : P_X4_whole v0 v1 v2 Q3 S := cm_X4_whole_0 h1 h2 hq
set_option maxRecDepth 20000 in
set_option maxHeartbeats 1000000 in
theorem cmB_X4_is_15 {Q1 Q2 Q3 : Int32 → HS → Prop} {X15_1 X15_2 X15_3 : Nat → Nat → Int64 → Int32 → HS → Prop} {v0 : Nat} {v1 : Nat} {v2 : Int64} {v4 : Int32} {S : HS} (h1 : B_X4_is_15 Q1 X15_1 v0 v1 v2 v4 S) (h2 : B_X4_is_15 Q2 X15_2 v0 v1 v2 v4 S) (hq : ∀ (r : Int32) (T : HS), Q1 r T → Q2 r T → Q3 r T) (hX15 : ∀ (u0 : Nat) (u1 : Nat) (u2 : Int64) (u3 : Int32) (u4 : HS), X15_1 u0 u1 u2 u3 u4 → X15_2 u0 u1 u2 u3 u4 → X15_3 u0 u1 u2 u3 u4) : B_X4_is_15 Q3 X15_3 v0 v1 v2 v4 S := by
  delta B_X4_is_15 at h1 h2 ⊢
  obtain ⟨c1, h1⟩ := h1
  obtain ⟨_, h2⟩ := h2
  refine ⟨c1, ?_⟩
  intro x3 e2
  have h1 := h1 x3 e2
  have h2 := h2 x3 e2
  refine ⟨?_, ?_⟩
  · intro c4
    have h1 := h1.1 c4
    have h2 := h2.1 c4
    obtain ⟨c5, h1⟩ := h1
    obtain ⟨_, h2⟩ := h2
    refine ⟨c5, ?_⟩
    intro x7 e6
    have h1 := h1 x7 e6
    have h2 := h2 x7 e6
    refine ⟨?_, ?_⟩
    · intro c8
      have h1 := h1.1 c8
      have h2 := h2.1 c8
      exact hq _ _ h1 h2
    · intro c9
      have h1 := h1.2 c9
      have h2 := h2.2 c9
      exact hq _ _ h1 h2
  · intro c10
    have h1 := h1.2 c10
    have h2 := h2.2 c10
    obtain ⟨c11, h1⟩ := h1
    obtain ⟨_, h2⟩ := h2
    refine ⟨c11, ?_⟩
    obtain ⟨c12, h1⟩ := h1
    obtain ⟨_, h2⟩ := h2
    refine ⟨c12, ?_⟩
    intro x14 e13
    have h1 := h1 x14 e13
    have h2 := h2 x14 e13
    intro x16 e15
    have h1 := h1 x16 e15
    have h2 := h2 x16 e15
    intro x18 e17
    have h1 := h1 x18 e17
    have h2 := h2 x18 e17
    exact hX15 _ _ _ _ _ h1 h2
theorem fd_X4_is_15 {Q : Int32 → HS → Prop} {v0 : Nat} {v1 : Nat} {v2 : Int64} {v4 : Int32} {S : HS} (h : B_X4_is_15 Q (P_X4_is_15 Q) v0 v1 v2 v4 S) : P_X4_is_15 Q v0 v1 v2 v4 S := fun X hX => hX v0 v1 v2 v4 S (cmB_X4_is_15 h h (fun _ _ a _ => a) (fun _ _ _ _ _ hp _ => hp X hX))
theorem uf_X4_is_15 {Q : Int32 → HS → Prop} {v0 : Nat} {v1 : Nat} {v2 : Int64} {v4 : Int32} {S : HS} (h : P_X4_is_15 Q v0 v1 v2 v4 S) : B_X4_is_15 Q (P_X4_is_15 Q) v0 v1 v2 v4 S := h (fun v0 v1 v2 v4 S => B_X4_is_15 Q (P_X4_is_15 Q) v0 v1 v2 v4 S) (fun v0 v1 v2 v4 S hB => cmB_X4_is_15 hB hB (fun _ _ a _ => a) (fun _ _ _ _ _ hb _ => fd_X4_is_15 hb))
theorem cm_X4_is_15 {Q1 Q2 Q3 : Int32 → HS → Prop} {v0 : Nat} {v1 : Nat} {v2 : Int64} {v4 : Int32} {S : HS} (h1 : P_X4_is_15 Q1 v0 v1 v2 v4 S) (h2 : P_X4_is_15 Q2 v0 v1 v2 v4 S) (hq : ∀ (r : Int32) (T : HS), Q1 r T → Q2 r T → Q3 r T) : P_X4_is_15 Q3 v0 v1 v2 v4 S := h1 (fun v0 v1 v2 v4 S => P_X4_is_15 Q2 v0 v1 v2 v4 S → P_X4_is_15 Q3 v0 v1 v2 v4 S) (fun v0 v1 v2 v4 S hB hp => fd_X4_is_15 (cmB_X4_is_15 hB (uf_X4_is_15 hp) hq (fun _ _ _ _ _ hx hp => hx hp))) h2
set_option maxRecDepth 20000 in
set_option maxHeartbeats 1000000 in
theorem cm_X4_is_0 {Q1 Q2 Q3 : Int32 → HS → Prop} {v0 : Nat} {v1 : Nat} {S : HS} (h1 : P_X4_is_0 Q1 v0 v1 S) (h2 : P_X4_is_0 Q2 v0 v1 S) (hq : ∀ (r : Int32) (T : HS), Q1 r T → Q2 r T → Q3 r T) : P_X4_is_0 Q3 v0 v1 S := by
  delta P_X4_is_0 at h1 h2 ⊢
  obtain ⟨c1, h1⟩ := h1
  obtain ⟨_, h2⟩ := h2
  refine ⟨c1, ?_⟩
  intro x3 e2
  have h1 := h1 x3 e2
  have h2 := h2 x3 e2
  refine ⟨?_, ?_⟩
  · intro c4
    have h1 := h1.1 c4
    have h2 := h2.1 c4
    exact cm_X4_is_15 h1 h2 hq
  · intro c5
    have h1 := h1.2 c5
    have h2 := h2.2 c5
    exact hq _ _ h1 h2
theorem cm_X4_is {Q1 Q2 Q3 : Int32 → HS → Prop} {v0 : Nat} {v1 : Nat} {S : HS} (h1 : P_X4_is v0 v1 Q1 S) (h2 : P_X4_is v0 v1 Q2 S) (hq : ∀ (r : Int32) (T : HS), Q1 r T → Q2 r T → Q3 r T) : P_X4_is v0 v1 Q3 S := cm_X4_is_0 h1 h2 hq
set_option maxRecDepth 20000 in
set_option maxHeartbeats 1000000 in
theorem cm_X4_word_0 {Q1 Q2 Q3 : Int32 → HS → Prop} {v0 : Nat} {v1 : Nat} {S : HS} (h1 : P_X4_word_0 Q1 v0 v1 S) (h2 : P_X4_word_0 Q2 v0 v1 S) (hq : ∀ (r : Int32) (T : HS), Q1 r T → Q2 r T → Q3 r T) : P_X4_word_0 Q3 v0 v1 S := by
  delta P_X4_word_0 at h1 h2 ⊢
  obtain ⟨c1, h1⟩ := h1
  obtain ⟨_, h2⟩ := h2
  refine ⟨c1, ?_⟩
  refine cm_X4_is h1 h2 (fun x2 x3 h1 h2 g4 g5 => ?_)
  have h1 := h1 g4 g5
  have h2 := h2 g4 g5
  refine ⟨?_, ?_⟩
  · intro c6
    have h1 := h1.1 c6
    have h2 := h2.1 c6
    refine cm_X4_next h1 h2 (fun x7 h1 h2 g8 => ?_)
    have h1 := h1 g8
    have h2 := h2 g8
    exact hq _ _ h1 h2
  · intro c9
    have h1 := h1.2 c9
    have h2 := h2.2 c9
    refine cm_X4_fail h1 h2 (fun x10 x11 h1 h2 g12 g13 => ?_)
    have h1 := h1 g12 g13
    have h2 := h2 g12 g13
    obtain ⟨c14, h1⟩ := h1
    obtain ⟨_, h2⟩ := h2
    refine ⟨c14, ?_⟩
    exact hq _ _ h1 h2
theorem cm_X4_word {Q1 Q2 Q3 : Int32 → HS → Prop} {v0 : Nat} {v1 : Nat} {S : HS} (h1 : P_X4_word v0 v1 Q1 S) (h2 : P_X4_word v0 v1 Q2 S) (hq : ∀ (r : Int32) (T : HS), Q1 r T → Q2 r T → Q3 r T) : P_X4_word v0 v1 Q3 S := cm_X4_word_0 h1 h2 hq
set_option maxRecDepth 20000 in
set_option maxHeartbeats 1000000 in
theorem cm_X4_wordAndWhole_0 {Q1 Q2 Q3 : Int32 → HS → Prop} {v0 : Nat} {v1 : Nat} {v2 : Int32} {v3 : Int32} {S : HS} (h1 : P_X4_wordAndWhole_0 Q1 v0 v1 v2 v3 S) (h2 : P_X4_wordAndWhole_0 Q2 v0 v1 v2 v3 S) (hq : ∀ (r : Int32) (T : HS), Q1 r T → Q2 r T → Q3 r T) : P_X4_wordAndWhole_0 Q3 v0 v1 v2 v3 S := by
  delta P_X4_wordAndWhole_0 at h1 h2 ⊢
  obtain ⟨c1, h1⟩ := h1
  obtain ⟨_, h2⟩ := h2
  refine ⟨c1, ?_⟩
  refine cm_X4_word h1 h2 (fun x2 x3 h1 h2 g4 g5 => ?_)
  have h1 := h1 g4 g5
  have h2 := h2 g4 g5
  refine ⟨?_, ?_⟩
  · intro c6
    have h1 := h1.1 c6
    have h2 := h2.1 c6
    exact hq _ _ h1 h2
  · intro c7
    have h1 := h1.2 c7
    have h2 := h2.2 c7
    refine cm_X4_whole h1 h2 (fun x8 x9 h1 h2 g10 g11 => ?_)
    have h1 := h1 g10 g11
    have h2 := h2 g10 g11
    refine ⟨?_, ?_⟩
    · intro c12
      have h1 := h1.1 c12
      have h2 := h2.1 c12
      exact hq _ _ h1 h2
    · intro c13
      have h1 := h1.2 c13
      have h2 := h2.2 c13
      exact hq _ _ h1 h2
theorem cm_X4_wordAndWhole {Q1 Q2 Q3 : Int32 → HS → Prop} {v0 : Nat} {v1 : Nat} {v2 : Int32} {v3 : Int32} {S : HS} (h1 : P_X4_wordAndWhole v0 v1 v2 v3 Q1 S) (h2 : P_X4_wordAndWhole v0 v1 v2 v3 Q2 S) (hq : ∀ (r : Int32) (T : HS), Q1 r T → Q2 r T → Q3 r T) : P_X4_wordAndWhole v0 v1 v2 v3 Q3 S := cm_X4_wordAndWhole_0 h1 h2 hq
set_option maxRecDepth 20000 in
set_option maxHeartbeats 1000000 in
theorem cm_X6_shape_16 {Q1 Q2 Q3 : HS → Prop} {v0 : Nat} {v1 : Int32} {v2 : Int32} {v3 : Int32} {s0 : Int32} {S : HS} (h1 : P_X6_shape_16 Q1 v0 v1 v2 v3 s0 S) (h2 : P_X6_shape_16 Q2 v0 v1 v2 v3 s0 S) (hq : ∀ (T : HS), Q1 T → Q2 T → Q3 T) : P_X6_shape_16 Q3 v0 v1 v2 v3 s0 S := by
  delta P_X6_shape_16 at h1 h2 ⊢
  obtain ⟨c1, h1⟩ := h1
  obtain ⟨_, h2⟩ := h2
  refine ⟨c1, ?_⟩
  intro x3 e2
  have h1 := h1 x3 e2
  have h2 := h2 x3 e2
  intro x5 e4
  have h1 := h1 x5 e4
  have h2 := h2 x5 e4
  intro x7 e6
  have h1 := h1 x7 e6
  have h2 := h2 x7 e6
  intro x9 e8
  have h1 := h1 x9 e8
  have h2 := h2 x9 e8
  intro x11 e10
  have h1 := h1 x11 e10
  have h2 := h2 x11 e10
  intro x13 e12
  have h1 := h1 x13 e12
  have h2 := h2 x13 e12
  exact hq _ h1 h2
set_option maxRecDepth 20000 in
set_option maxHeartbeats 1000000 in
theorem cm_X6_shape_0 {Q1 Q2 Q3 : HS → Prop} {v0 : Nat} {v1 : Int32} {v2 : Int32} {v3 : Int32} {S : HS} (h1 : P_X6_shape_0 Q1 v0 v1 v2 v3 S) (h2 : P_X6_shape_0 Q2 v0 v1 v2 v3 S) (hq : ∀ (T : HS), Q1 T → Q2 T → Q3 T) : P_X6_shape_0 Q3 v0 v1 v2 v3 S := by
  delta P_X6_shape_0 at h1 h2 ⊢
  obtain ⟨c1, h1⟩ := h1
  obtain ⟨_, h2⟩ := h2
  refine ⟨c1, ?_⟩
  intro x3 e2
  have h1 := h1 x3 e2
  have h2 := h2 x3 e2
  refine ⟨?_, ?_⟩
  · intro c4
    have h1 := h1.1 c4
    have h2 := h2.1 c4
    exact cm_X6_shape_16 h1 h2 hq
  · intro c5
    have h1 := h1.2 c5
    have h2 := h2.2 c5
    intro x7 e6
    have h1 := h1 x7 e6
    have h2 := h2 x7 e6
    exact cm_X6_shape_16 h1 h2 hq
theorem cm_X6_shape {Q1 Q2 Q3 : HS → Prop} {v0 : Nat} {v1 : Int32} {v2 : Int32} {v3 : Int32} {S : HS} (h1 : P_X6_shape v0 v1 v2 v3 Q1 S) (h2 : P_X6_shape v0 v1 v2 v3 Q2 S) (hq : ∀ (T : HS), Q1 T → Q2 T → Q3 T) : P_X6_shape v0 v1 v2 v3 Q3 S := cm_X6_shape_0 h1 h2 hq
set_option maxRecDepth 20000 in
set_option maxHeartbeats 1000000 in
theorem cm_X4_bodyOf_58 {Q1 Q2 Q3 : Int32 → HS → Prop} {v0 : Nat} {v1 : Nat} {v2 : Int32} {v3 : Int32} {s0 : Int32} {S : HS} (h1 : P_X4_bodyOf_58 Q1 v0 v1 v2 v3 s0 S) (h2 : P_X4_bodyOf_58 Q2 v0 v1 v2 v3 s0 S) (hq : ∀ (r : Int32) (T : HS), Q1 r T → Q2 r T → Q3 r T) : P_X4_bodyOf_58 Q3 v0 v1 v2 v3 s0 S := by
  delta P_X4_bodyOf_58 at h1 h2 ⊢
  obtain ⟨c1, h1⟩ := h1
  obtain ⟨_, h2⟩ := h2
  refine ⟨c1, ?_⟩
  refine cm_X4_wordAndWhole h1 h2 (fun x2 x3 h1 h2 g4 g5 => ?_)
  have h1 := h1 g4 g5
  have h2 := h2 g4 g5
  refine ⟨?_, ?_⟩
  · intro c6
    have h1 := h1.1 c6
    have h2 := h2.1 c6
    intro x8 e7
    have h1 := h1 x8 e7
    have h2 := h2 x8 e7
    obtain ⟨c9, h1⟩ := h1
    obtain ⟨_, h2⟩ := h2
    refine ⟨c9, ?_⟩
    refine cm_X6_shape h1 h2 (fun x10 h1 h2 g11 => ?_)
    have h1 := h1 g11
    have h2 := h2 g11
    exact hq _ _ h1 h2
  · intro c12
    have h1 := h1.2 c12
    have h2 := h2.2 c12
    exact hq _ _ h1 h2
set_option maxRecDepth 20000 in
set_option maxHeartbeats 1000000 in
theorem cm_X4_bodyOf_0 {Q1 Q2 Q3 : Int32 → HS → Prop} {v0 : Nat} {v1 : Nat} {S : HS} (h1 : P_X4_bodyOf_0 Q1 v0 v1 S) (h2 : P_X4_bodyOf_0 Q2 v0 v1 S) (hq : ∀ (r : Int32) (T : HS), Q1 r T → Q2 r T → Q3 r T) : P_X4_bodyOf_0 Q3 v0 v1 S := by
  delta P_X4_bodyOf_0 at h1 h2 ⊢
  obtain ⟨c1, h1⟩ := h1
  obtain ⟨_, h2⟩ := h2
  refine ⟨c1, ?_⟩
  refine cm_X4_wordAndWhole h1 h2 (fun x2 x3 h1 h2 g4 g5 => ?_)
  have h1 := h1 g4 g5
  have h2 := h2 g4 g5
  refine ⟨?_, ?_⟩
  · intro c6
    have h1 := h1.1 c6
    have h2 := h2.1 c6
    intro x8 e7
    have h1 := h1 x8 e7
    have h2 := h2 x8 e7
    refine cm_X4_wordAndWhole h1 h2 (fun x9 x10 h1 h2 g11 g12 => ?_)
    have h1 := h1 g11 g12
    have h2 := h2 g11 g12
    refine ⟨?_, ?_⟩
    · intro c13
      have h1 := h1.1 c13
      have h2 := h2.1 c13
      intro x15 e14
      have h1 := h1 x15 e14
      have h2 := h2 x15 e14
      obtain ⟨c16, h1⟩ := h1
      obtain ⟨_, h2⟩ := h2
      refine ⟨c16, ?_⟩
      intro x18 e17
      have h1 := h1 x18 e17
      have h2 := h2 x18 e17
      refine ⟨?_, ?_⟩
      · intro c19
        have h1 := h1.1 c19
        have h2 := h2.1 c19
        exact cm_X4_bodyOf_58 h1 h2 hq
      · intro c20
        have h1 := h1.2 c20
        have h2 := h2.2 c20
        intro x22 e21
        have h1 := h1 x22 e21
        have h2 := h2 x22 e21
        exact cm_X4_bodyOf_58 h1 h2 hq
    · intro c23
      have h1 := h1.2 c23
      have h2 := h2.2 c23
      exact hq _ _ h1 h2
  · intro c24
    have h1 := h1.2 c24
    have h2 := h2.2 c24
    exact hq _ _ h1 h2
theorem cm_X4_bodyOf {Q1 Q2 Q3 : Int32 → HS → Prop} {v0 : Nat} {v1 : Nat} {S : HS} (h1 : P_X4_bodyOf v0 v1 Q1 S) (h2 : P_X4_bodyOf v0 v1 Q2 S) (hq : ∀ (r : Int32) (T : HS), Q1 r T → Q2 r T → Q3 r T) : P_X4_bodyOf v0 v1 Q3 S := cm_X4_bodyOf_0 h1 h2 hq
set_option maxRecDepth 20000 in
set_option maxHeartbeats 1000000 in
theorem cm_X4_canBeName_86 {Q1 Q2 Q3 : Int32 → HS → Prop} {v0 : Nat} {s0 : Int32} {S : HS} (h1 : P_X4_canBeName_86 Q1 v0 s0 S) (h2 : P_X4_canBeName_86 Q2 v0 s0 S) (hq : ∀ (r : Int32) (T : HS), Q1 r T → Q2 r T → Q3 r T) : P_X4_canBeName_86 Q3 v0 s0 S := by
  delta P_X4_canBeName_86 at h1 h2 ⊢
  obtain ⟨c1, h1⟩ := h1
  obtain ⟨_, h2⟩ := h2
  refine ⟨c1, ?_⟩
  intro x3 e2
  have h1 := h1 x3 e2
  have h2 := h2 x3 e2
  refine ⟨?_, ?_⟩
  · intro c4
    have h1 := h1.1 c4
    have h2 := h2.1 c4
    exact hq _ _ h1 h2
  · intro c5
    have h1 := h1.2 c5
    have h2 := h2.2 c5
    refine ⟨?_, ?_⟩
    · intro c6
      have h1 := h1.1 c6
      have h2 := h2.1 c6
      exact hq _ _ h1 h2
    · intro c7
      have h1 := h1.2 c7
      have h2 := h2.2 c7
      exact hq _ _ h1 h2
set_option maxRecDepth 20000 in
set_option maxHeartbeats 1000000 in
theorem cm_X4_canBeName_81 {Q1 Q2 Q3 : Int32 → HS → Prop} {v0 : Nat} {S : HS} (h1 : P_X4_canBeName_81 Q1 v0 S) (h2 : P_X4_canBeName_81 Q2 v0 S) (hq : ∀ (r : Int32) (T : HS), Q1 r T → Q2 r T → Q3 r T) : P_X4_canBeName_81 Q3 v0 S := by
  delta P_X4_canBeName_81 at h1 h2 ⊢
  exact cm_X4_canBeName_86 h1 h2 hq
set_option maxRecDepth 20000 in
set_option maxHeartbeats 1000000 in
theorem cm_X4_canBeName_0 {Q1 Q2 Q3 : Int32 → HS → Prop} {v0 : Nat} {S : HS} (h1 : P_X4_canBeName_0 Q1 v0 S) (h2 : P_X4_canBeName_0 Q2 v0 S) (hq : ∀ (r : Int32) (T : HS), Q1 r T → Q2 r T → Q3 r T) : P_X4_canBeName_0 Q3 v0 S := by
  delta P_X4_canBeName_0 at h1 h2 ⊢
  obtain ⟨c1, h1⟩ := h1
  obtain ⟨_, h2⟩ := h2
  refine ⟨c1, ?_⟩
  refine cm_X4_is h1 h2 (fun x2 x3 h1 h2 g4 g5 => ?_)
  have h1 := h1 g4 g5
  have h2 := h2 g4 g5
  refine ⟨?_, ?_⟩
  · intro c6
    have h1 := h1.1 c6
    have h2 := h2.1 c6
    exact cm_X4_canBeName_81 h1 h2 hq
  · intro c7
    have h1 := h1.2 c7
    have h2 := h2.2 c7
    refine cm_X4_is h1 h2 (fun x8 x9 h1 h2 g10 g11 => ?_)
    have h1 := h1 g10 g11
    have h2 := h2 g10 g11
    refine ⟨?_, ?_⟩
    · intro c12
      have h1 := h1.1 c12
      have h2 := h2.1 c12
      exact cm_X4_canBeName_81 h1 h2 hq
    · intro c13
      have h1 := h1.2 c13
      have h2 := h2.2 c13
      refine cm_X4_is h1 h2 (fun x14 x15 h1 h2 g16 g17 => ?_)
      have h1 := h1 g16 g17
      have h2 := h2 g16 g17
      refine ⟨?_, ?_⟩
      · intro c18
        have h1 := h1.1 c18
        have h2 := h2.1 c18
        exact cm_X4_canBeName_81 h1 h2 hq
      · intro c19
        have h1 := h1.2 c19
        have h2 := h2.2 c19
        refine cm_X4_is h1 h2 (fun x20 x21 h1 h2 g22 g23 => ?_)
        have h1 := h1 g22 g23
        have h2 := h2 g22 g23
        refine ⟨?_, ?_⟩
        · intro c24
          have h1 := h1.1 c24
          have h2 := h2.1 c24
          exact cm_X4_canBeName_81 h1 h2 hq
        · intro c25
          have h1 := h1.2 c25
          have h2 := h2.2 c25
          refine cm_X4_is h1 h2 (fun x26 x27 h1 h2 g28 g29 => ?_)
          have h1 := h1 g28 g29
          have h2 := h2 g28 g29
          refine ⟨?_, ?_⟩
          · intro c30
            have h1 := h1.1 c30
            have h2 := h2.1 c30
            exact cm_X4_canBeName_81 h1 h2 hq
          · intro c31
            have h1 := h1.2 c31
            have h2 := h2.2 c31
            refine cm_X4_is h1 h2 (fun x32 x33 h1 h2 g34 g35 => ?_)
            have h1 := h1 g34 g35
            have h2 := h2 g34 g35
            refine ⟨?_, ?_⟩
            · intro c36
              have h1 := h1.1 c36
              have h2 := h2.1 c36
              exact cm_X4_canBeName_81 h1 h2 hq
            · intro c37
              have h1 := h1.2 c37
              have h2 := h2.2 c37
              refine cm_X4_is h1 h2 (fun x38 x39 h1 h2 g40 g41 => ?_)
              have h1 := h1 g40 g41
              have h2 := h2 g40 g41
              refine ⟨?_, ?_⟩
              · intro c42
                have h1 := h1.1 c42
                have h2 := h2.1 c42
                exact cm_X4_canBeName_81 h1 h2 hq
              · intro c43
                have h1 := h1.2 c43
                have h2 := h2.2 c43
                refine cm_X4_is h1 h2 (fun x44 x45 h1 h2 g46 g47 => ?_)
                have h1 := h1 g46 g47
                have h2 := h2 g46 g47
                refine ⟨?_, ?_⟩
                · intro c48
                  have h1 := h1.1 c48
                  have h2 := h2.1 c48
                  exact cm_X4_canBeName_81 h1 h2 hq
                · intro c49
                  have h1 := h1.2 c49
                  have h2 := h2.2 c49
                  refine cm_X4_is h1 h2 (fun x50 x51 h1 h2 g52 g53 => ?_)
                  have h1 := h1 g52 g53
                  have h2 := h2 g52 g53
                  refine ⟨?_, ?_⟩
                  · intro c54
                    have h1 := h1.1 c54
                    have h2 := h2.1 c54
                    exact cm_X4_canBeName_86 h1 h2 hq
                  · intro c55
                    have h1 := h1.2 c55
                    have h2 := h2.2 c55
                    exact cm_X4_canBeName_81 h1 h2 hq
theorem cm_X4_canBeName {Q1 Q2 Q3 : Int32 → HS → Prop} {v0 : Nat} {S : HS} (h1 : P_X4_canBeName v0 Q1 S) (h2 : P_X4_canBeName v0 Q2 S) (hq : ∀ (r : Int32) (T : HS), Q1 r T → Q2 r T → Q3 r T) : P_X4_canBeName v0 Q3 S := cm_X4_canBeName_0 h1 h2 hq
set_option maxRecDepth 20000 in
set_option maxHeartbeats 1000000 in
theorem cm_X4_exchange_0 {Q1 Q2 Q3 : Nat → HS → Prop} {v0 : Nat} {v1 : Nat} {S : HS} (h1 : P_X4_exchange_0 Q1 v0 v1 S) (h2 : P_X4_exchange_0 Q2 v0 v1 S) (hq : ∀ (r : Nat) (T : HS), Q1 r T → Q2 r T → Q3 r T) : P_X4_exchange_0 Q3 v0 v1 S := by
  delta P_X4_exchange_0 at h1 h2 ⊢
  obtain ⟨c1, h1⟩ := h1
  obtain ⟨_, h2⟩ := h2
  refine ⟨c1, ?_⟩
  obtain ⟨b2, e3, h1⟩ := h1
  obtain ⟨b4, e5, h2⟩ := h2
  cases e3.symm.trans e5
  refine ⟨b2, e3, ?_⟩
  intro x7 e6
  have h1 := h1 x7 e6
  have h2 := h2 x7 e6
  exact hq _ _ h1 h2
theorem cm_X4_exchange {Q1 Q2 Q3 : Nat → HS → Prop} {v0 : Nat} {v1 : Nat} {S : HS} (h1 : P_X4_exchange v0 v1 Q1 S) (h2 : P_X4_exchange v0 v1 Q2 S) (hq : ∀ (r : Nat) (T : HS), Q1 r T → Q2 r T → Q3 r T) : P_X4_exchange v0 v1 Q3 S := cm_X4_exchange_0 h1 h2 hq
set_option maxRecDepth 20000 in
set_option maxHeartbeats 1000000 in
theorem cmB_X4_findName_2 {Q1 Q2 Q3 : Int32 → HS → Prop} {X2_1 X2_2 X2_3 : Nat → Int32 → HS → Prop} {v0 : Nat} {v1 : Int32} {S : HS} (h1 : B_X4_findName_2 Q1 X2_1 v0 v1 S) (h2 : B_X4_findName_2 Q2 X2_2 v0 v1 S) (hq : ∀ (r : Int32) (T : HS), Q1 r T → Q2 r T → Q3 r T) (hX2 : ∀ (u0 : Nat) (u1 : Int32) (u2 : HS), X2_1 u0 u1 u2 → X2_2 u0 u1 u2 → X2_3 u0 u1 u2) : B_X4_findName_2 Q3 X2_3 v0 v1 S := by
  delta B_X4_findName_2 at h1 h2 ⊢
  obtain ⟨c1, h1⟩ := h1
  obtain ⟨_, h2⟩ := h2
  refine ⟨c1, ?_⟩
  intro x3 e2
  have h1 := h1 x3 e2
  have h2 := h2 x3 e2
  refine ⟨?_, ?_⟩
  · intro c4
    have h1 := h1.1 c4
    have h2 := h2.1 c4
    exact hq _ _ h1 h2
  · intro c5
    have h1 := h1.2 c5
    have h2 := h2.2 c5
    refine ⟨?_, ?_⟩
    · intro c6
      have h1 := h1.1 c6
      have h2 := h2.1 c6
      exact hq _ _ h1 h2
    · intro c7
      have h1 := h1.2 c7
      have h2 := h2.2 c7
      obtain ⟨b8, e9, h1⟩ := h1
      obtain ⟨b10, e11, h2⟩ := h2
      cases e9.symm.trans e11
      refine ⟨b8, e9, ?_⟩
      obtain ⟨c12, h1⟩ := h1
      obtain ⟨_, h2⟩ := h2
      refine ⟨c12, ?_⟩
      obtain ⟨c13, h1⟩ := h1
      obtain ⟨_, h2⟩ := h2
      refine ⟨c13, ?_⟩
      intro x15 e14
      have h1 := h1 x15 e14
      have h2 := h2 x15 e14
      intro x17 e16
      have h1 := h1 x17 e16
      have h2 := h2 x17 e16
      refine ⟨?_, ?_⟩
      · intro c18
        have h1 := h1.1 c18
        have h2 := h2.1 c18
        intro x20 e19
        have h1 := h1 x20 e19
        have h2 := h2 x20 e19
        exact hX2 _ _ _ h1 h2
      · intro c21
        have h1 := h1.2 c21
        have h2 := h2.2 c21
        obtain ⟨b22, e23, h1⟩ := h1
        obtain ⟨b24, e25, h2⟩ := h2
        cases e23.symm.trans e25
        refine ⟨b22, e23, ?_⟩
        obtain ⟨c26, h1⟩ := h1
        obtain ⟨_, h2⟩ := h2
        refine ⟨c26, ?_⟩
        obtain ⟨c27, h1⟩ := h1
        obtain ⟨_, h2⟩ := h2
        refine ⟨c27, ?_⟩
        intro x29 e28
        have h1 := h1 x29 e28
        have h2 := h2 x29 e28
        exact hq _ _ h1 h2
theorem fd_X4_findName_2 {Q : Int32 → HS → Prop} {v0 : Nat} {v1 : Int32} {S : HS} (h : B_X4_findName_2 Q (P_X4_findName_2 Q) v0 v1 S) : P_X4_findName_2 Q v0 v1 S := fun X hX => hX v0 v1 S (cmB_X4_findName_2 h h (fun _ _ a _ => a) (fun _ _ _ hp _ => hp X hX))
theorem uf_X4_findName_2 {Q : Int32 → HS → Prop} {v0 : Nat} {v1 : Int32} {S : HS} (h : P_X4_findName_2 Q v0 v1 S) : B_X4_findName_2 Q (P_X4_findName_2 Q) v0 v1 S := h (fun v0 v1 S => B_X4_findName_2 Q (P_X4_findName_2 Q) v0 v1 S) (fun v0 v1 S hB => cmB_X4_findName_2 hB hB (fun _ _ a _ => a) (fun _ _ _ hb _ => fd_X4_findName_2 hb))
theorem cm_X4_findName_2 {Q1 Q2 Q3 : Int32 → HS → Prop} {v0 : Nat} {v1 : Int32} {S : HS} (h1 : P_X4_findName_2 Q1 v0 v1 S) (h2 : P_X4_findName_2 Q2 v0 v1 S) (hq : ∀ (r : Int32) (T : HS), Q1 r T → Q2 r T → Q3 r T) : P_X4_findName_2 Q3 v0 v1 S := h1 (fun v0 v1 S => P_X4_findName_2 Q2 v0 v1 S → P_X4_findName_2 Q3 v0 v1 S) (fun v0 v1 S hB hp => fd_X4_findName_2 (cmB_X4_findName_2 hB (uf_X4_findName_2 hp) hq (fun _ _ _ hx hp => hx hp))) h2
set_option maxRecDepth 20000 in
set_option maxHeartbeats 1000000 in
theorem cm_X4_findName_0 {Q1 Q2 Q3 : Int32 → HS → Prop} {v0 : Nat} {S : HS} (h1 : P_X4_findName_0 Q1 v0 S) (h2 : P_X4_findName_0 Q2 v0 S) (hq : ∀ (r : Int32) (T : HS), Q1 r T → Q2 r T → Q3 r T) : P_X4_findName_0 Q3 v0 S := by
  delta P_X4_findName_0 at h1 h2 ⊢
  exact cm_X4_findName_2 h1 h2 hq
theorem cm_X4_findName {Q1 Q2 Q3 : Int32 → HS → Prop} {v0 : Nat} {S : HS} (h1 : P_X4_findName v0 Q1 S) (h2 : P_X4_findName v0 Q2 S) (hq : ∀ (r : Int32) (T : HS), Q1 r T → Q2 r T → Q3 r T) : P_X4_findName v0 Q3 S := cm_X4_findName_0 h1 h2 hq
set_option maxRecDepth 20000 in
set_option maxHeartbeats 1000000 in
theorem cm_X8_isTold_0 {Q1 Q2 Q3 : Int32 → HS → Prop} {v0 : Nat} {S : HS} (h1 : P_X8_isTold_0 Q1 v0 S) (h2 : P_X8_isTold_0 Q2 v0 S) (hq : ∀ (r : Int32) (T : HS), Q1 r T → Q2 r T → Q3 r T) : P_X8_isTold_0 Q3 v0 S := by
  delta P_X8_isTold_0 at h1 h2 ⊢
  obtain ⟨c1, h1⟩ := h1
  obtain ⟨_, h2⟩ := h2
  refine ⟨c1, ?_⟩
  intro x3 e2
  have h1 := h1 x3 e2
  have h2 := h2 x3 e2
  refine ⟨?_, ?_⟩
  · intro c4
    have h1 := h1.1 c4
    have h2 := h2.1 c4
    exact hq _ _ h1 h2
  · intro c5
    have h1 := h1.2 c5
    have h2 := h2.2 c5
    exact hq _ _ h1 h2
theorem cm_X8_isTold {Q1 Q2 Q3 : Int32 → HS → Prop} {v0 : Nat} {S : HS} (h1 : P_X8_isTold v0 Q1 S) (h2 : P_X8_isTold v0 Q2 S) (hq : ∀ (r : Int32) (T : HS), Q1 r T → Q2 r T → Q3 r T) : P_X8_isTold v0 Q3 S := cm_X8_isTold_0 h1 h2 hq
set_option maxRecDepth 20000 in
set_option maxHeartbeats 1000000 in
theorem cm_X4_hasRoom_0 {Q1 Q2 Q3 : Int32 → HS → Prop} {v0 : Nat} {v1 : Int32} {v2 : Int32} {S : HS} (h1 : P_X4_hasRoom_0 Q1 v0 v1 v2 S) (h2 : P_X4_hasRoom_0 Q2 v0 v1 v2 S) (hq : ∀ (r : Int32) (T : HS), Q1 r T → Q2 r T → Q3 r T) : P_X4_hasRoom_0 Q3 v0 v1 v2 S := by
  delta P_X4_hasRoom_0 at h1 h2 ⊢
  obtain ⟨c1, h1⟩ := h1
  obtain ⟨_, h2⟩ := h2
  refine ⟨c1, ?_⟩
  obtain ⟨b2, e3, h1⟩ := h1
  obtain ⟨b4, e5, h2⟩ := h2
  cases e3.symm.trans e5
  refine ⟨b2, e3, ?_⟩
  obtain ⟨c6, h1⟩ := h1
  obtain ⟨_, h2⟩ := h2
  refine ⟨c6, ?_⟩
  refine cm_X8_isTold h1 h2 (fun x7 x8 h1 h2 g9 g10 => ?_)
  have h1 := h1 g9 g10
  have h2 := h2 g9 g10
  refine ⟨?_, ?_⟩
  · intro c11
    have h1 := h1.1 c11
    have h2 := h2.1 c11
    refine ⟨?_, ?_⟩
    · intro c12
      have h1 := h1.1 c12
      have h2 := h2.1 c12
      refine cm_X4_next h1 h2 (fun x13 h1 h2 g14 => ?_)
      have h1 := h1 g14
      have h2 := h2 g14
      exact hq _ _ h1 h2
    · intro c15
      have h1 := h1.2 c15
      have h2 := h2.2 c15
      refine cm_X4_fail h1 h2 (fun x16 x17 h1 h2 g18 g19 => ?_)
      have h1 := h1 g18 g19
      have h2 := h2 g18 g19
      obtain ⟨c20, h1⟩ := h1
      obtain ⟨_, h2⟩ := h2
      refine ⟨c20, ?_⟩
      exact hq _ _ h1 h2
  · intro c21
    have h1 := h1.2 c21
    have h2 := h2.2 c21
    refine cm_X4_fail h1 h2 (fun x22 x23 h1 h2 g24 g25 => ?_)
    have h1 := h1 g24 g25
    have h2 := h2 g24 g25
    obtain ⟨c26, h1⟩ := h1
    obtain ⟨_, h2⟩ := h2
    refine ⟨c26, ?_⟩
    exact hq _ _ h1 h2
theorem cm_X4_hasRoom {Q1 Q2 Q3 : Int32 → HS → Prop} {v0 : Nat} {v1 : Int32} {v2 : Int32} {S : HS} (h1 : P_X4_hasRoom v0 v1 v2 Q1 S) (h2 : P_X4_hasRoom v0 v1 v2 Q2 S) (hq : ∀ (r : Int32) (T : HS), Q1 r T → Q2 r T → Q3 r T) : P_X4_hasRoom v0 v1 v2 Q3 S := cm_X4_hasRoom_0 h1 h2 hq
set_option maxRecDepth 20000 in
set_option maxHeartbeats 1000000 in
theorem cm_X5_init_0 {Q1 Q2 Q3 : HS → Prop} {v0 : Nat} {S : HS} (h1 : P_X5_init_0 Q1 v0 S) (h2 : P_X5_init_0 Q2 v0 S) (hq : ∀ (T : HS), Q1 T → Q2 T → Q3 T) : P_X5_init_0 Q3 v0 S := by
  delta P_X5_init_0 at h1 h2 ⊢
  exact hq _ h1 h2
theorem cm_X5_init {Q1 Q2 Q3 : HS → Prop} {v0 : Nat} {S : HS} (h1 : P_X5_init v0 Q1 S) (h2 : P_X5_init v0 Q2 S) (hq : ∀ (T : HS), Q1 T → Q2 T → Q3 T) : P_X5_init v0 Q3 S := cm_X5_init_0 h1 h2 hq
set_option maxRecDepth 20000 in
set_option maxHeartbeats 1000000 in
theorem cm_X6_init_0 {Q1 Q2 Q3 : HS → Prop} {v0 : Nat} {S : HS} (h1 : P_X6_init_0 Q1 v0 S) (h2 : P_X6_init_0 Q2 v0 S) (hq : ∀ (T : HS), Q1 T → Q2 T → Q3 T) : P_X6_init_0 Q3 v0 S := by
  delta P_X6_init_0 at h1 h2 ⊢
  exact hq _ h1 h2
theorem cm_X6_init {Q1 Q2 Q3 : HS → Prop} {v0 : Nat} {S : HS} (h1 : P_X6_init v0 Q1 S) (h2 : P_X6_init v0 Q2 S) (hq : ∀ (T : HS), Q1 T → Q2 T → Q3 T) : P_X6_init v0 Q3 S := cm_X6_init_0 h1 h2 hq
set_option maxRecDepth 20000 in
set_option maxHeartbeats 1000000 in
theorem cmB_X8_init_115 {Q1 Q2 Q3 : HS → Prop} {X115_1 X115_2 X115_3 : Nat → Int32 → Nat → Nat → HS → Prop} {v0 : Nat} {v1 : Int32} {kk : Nat} {nn : Nat} {S : HS} (h1 : B_X8_init_115 Q1 X115_1 v0 v1 kk nn S) (h2 : B_X8_init_115 Q2 X115_2 v0 v1 kk nn S) (hq : ∀ (T : HS), Q1 T → Q2 T → Q3 T) (hX115 : ∀ (u0 : Nat) (u1 : Int32) (u2 : Nat) (u3 : Nat) (u4 : HS), X115_1 u0 u1 u2 u3 u4 → X115_2 u0 u1 u2 u3 u4 → X115_3 u0 u1 u2 u3 u4) : B_X8_init_115 Q3 X115_3 v0 v1 kk nn S := by
  delta B_X8_init_115 at h1 h2 ⊢
  obtain ⟨c1, h1⟩ := h1
  obtain ⟨_, h2⟩ := h2
  refine ⟨c1, ?_⟩
  obtain ⟨b2, e3, h1⟩ := h1
  obtain ⟨b4, e5, h2⟩ := h2
  cases e3.symm.trans e5
  refine ⟨b2, e3, ?_⟩
  obtain ⟨c6, h1⟩ := h1
  obtain ⟨_, h2⟩ := h2
  refine ⟨c6, ?_⟩
  refine ⟨?_, ?_⟩
  · intro c7
    have h1 := h1.1 c7
    have h2 := h2.1 c7
    obtain ⟨c8, h1⟩ := h1
    obtain ⟨_, h2⟩ := h2
    refine ⟨c8, ?_⟩
    obtain ⟨c9, h1⟩ := h1
    obtain ⟨_, h2⟩ := h2
    refine ⟨c9, ?_⟩
    exact hq _ h1 h2
  · intro c10
    have h1 := h1.2 c10
    have h2 := h2.2 c10
    obtain ⟨b11, e12, h1⟩ := h1
    obtain ⟨b13, e14, h2⟩ := h2
    cases e12.symm.trans e14
    refine ⟨b11, e12, ?_⟩
    obtain ⟨c15, h1⟩ := h1
    obtain ⟨_, h2⟩ := h2
    refine ⟨c15, ?_⟩
    obtain ⟨c16, h1⟩ := h1
    obtain ⟨_, h2⟩ := h2
    refine ⟨c16, ?_⟩
    intro x18 e17
    have h1 := h1 x18 e17
    have h2 := h2 x18 e17
    intro x20 e19
    have h1 := h1 x20 e19
    have h2 := h2 x20 e19
    obtain ⟨c21, h1⟩ := h1
    obtain ⟨_, h2⟩ := h2
    refine ⟨c21, ?_⟩
    obtain ⟨c22, h1⟩ := h1
    obtain ⟨_, h2⟩ := h2
    refine ⟨c22, ?_⟩
    refine cm_X6_init h1 h2 (fun x23 h1 h2 g24 => ?_)
    have h1 := h1 g24
    have h2 := h2 g24
    obtain ⟨c25, h1⟩ := h1
    obtain ⟨_, h2⟩ := h2
    refine ⟨c25, ?_⟩
    obtain ⟨c26, h1⟩ := h1
    obtain ⟨_, h2⟩ := h2
    refine ⟨c26, ?_⟩
    intro x28 e27
    have h1 := h1 x28 e27
    have h2 := h2 x28 e27
    intro x30 e29
    have h1 := h1 x30 e29
    have h2 := h2 x30 e29
    exact hX115 _ _ _ _ _ h1 h2
theorem fd_X8_init_115 {Q : HS → Prop} {v0 : Nat} {v1 : Int32} {kk : Nat} {nn : Nat} {S : HS} (h : B_X8_init_115 Q (P_X8_init_115 Q) v0 v1 kk nn S) : P_X8_init_115 Q v0 v1 kk nn S := fun X hX => hX v0 v1 kk nn S (cmB_X8_init_115 h h (fun _ a _ => a) (fun _ _ _ _ _ hp _ => hp X hX))
theorem uf_X8_init_115 {Q : HS → Prop} {v0 : Nat} {v1 : Int32} {kk : Nat} {nn : Nat} {S : HS} (h : P_X8_init_115 Q v0 v1 kk nn S) : B_X8_init_115 Q (P_X8_init_115 Q) v0 v1 kk nn S := h (fun v0 v1 kk nn S => B_X8_init_115 Q (P_X8_init_115 Q) v0 v1 kk nn S) (fun v0 v1 kk nn S hB => cmB_X8_init_115 hB hB (fun _ a _ => a) (fun _ _ _ _ _ hb _ => fd_X8_init_115 hb))
theorem cm_X8_init_115 {Q1 Q2 Q3 : HS → Prop} {v0 : Nat} {v1 : Int32} {kk : Nat} {nn : Nat} {S : HS} (h1 : P_X8_init_115 Q1 v0 v1 kk nn S) (h2 : P_X8_init_115 Q2 v0 v1 kk nn S) (hq : ∀ (T : HS), Q1 T → Q2 T → Q3 T) : P_X8_init_115 Q3 v0 v1 kk nn S := h1 (fun v0 v1 kk nn S => P_X8_init_115 Q2 v0 v1 kk nn S → P_X8_init_115 Q3 v0 v1 kk nn S) (fun v0 v1 kk nn S hB hp => fd_X8_init_115 (cmB_X8_init_115 hB (uf_X8_init_115 hp) hq (fun _ _ _ _ _ hx hp => hx hp))) h2
set_option maxRecDepth 20000 in
set_option maxHeartbeats 1000000 in
theorem cmB_X8_init_85 {Q1 Q2 Q3 : HS → Prop} {X85_1 X85_2 X85_3 : Nat → Int32 → Nat → Nat → HS → Prop} {v0 : Nat} {v1 : Int32} {kk : Nat} {nn : Nat} {S : HS} (h1 : B_X8_init_85 Q1 X85_1 v0 v1 kk nn S) (h2 : B_X8_init_85 Q2 X85_2 v0 v1 kk nn S) (hq : ∀ (T : HS), Q1 T → Q2 T → Q3 T) (hX85 : ∀ (u0 : Nat) (u1 : Int32) (u2 : Nat) (u3 : Nat) (u4 : HS), X85_1 u0 u1 u2 u3 u4 → X85_2 u0 u1 u2 u3 u4 → X85_3 u0 u1 u2 u3 u4) : B_X8_init_85 Q3 X85_3 v0 v1 kk nn S := by
  delta B_X8_init_85 at h1 h2 ⊢
  obtain ⟨c1, h1⟩ := h1
  obtain ⟨_, h2⟩ := h2
  refine ⟨c1, ?_⟩
  obtain ⟨b2, e3, h1⟩ := h1
  obtain ⟨b4, e5, h2⟩ := h2
  cases e3.symm.trans e5
  refine ⟨b2, e3, ?_⟩
  obtain ⟨c6, h1⟩ := h1
  obtain ⟨_, h2⟩ := h2
  refine ⟨c6, ?_⟩
  refine ⟨?_, ?_⟩
  · intro c7
    have h1 := h1.1 c7
    have h2 := h2.1 c7
    exact cm_X8_init_115 h1 h2 hq
  · intro c8
    have h1 := h1.2 c8
    have h2 := h2.2 c8
    obtain ⟨b9, e10, h1⟩ := h1
    obtain ⟨b11, e12, h2⟩ := h2
    cases e10.symm.trans e12
    refine ⟨b9, e10, ?_⟩
    obtain ⟨c13, h1⟩ := h1
    obtain ⟨_, h2⟩ := h2
    refine ⟨c13, ?_⟩
    obtain ⟨c14, h1⟩ := h1
    obtain ⟨_, h2⟩ := h2
    refine ⟨c14, ?_⟩
    intro x16 e15
    have h1 := h1 x16 e15
    have h2 := h2 x16 e15
    intro x18 e17
    have h1 := h1 x18 e17
    have h2 := h2 x18 e17
    obtain ⟨c19, h1⟩ := h1
    obtain ⟨_, h2⟩ := h2
    refine ⟨c19, ?_⟩
    obtain ⟨c20, h1⟩ := h1
    obtain ⟨_, h2⟩ := h2
    refine ⟨c20, ?_⟩
    refine cm_X5_init h1 h2 (fun x21 h1 h2 g22 => ?_)
    have h1 := h1 g22
    have h2 := h2 g22
    obtain ⟨c23, h1⟩ := h1
    obtain ⟨_, h2⟩ := h2
    refine ⟨c23, ?_⟩
    obtain ⟨c24, h1⟩ := h1
    obtain ⟨_, h2⟩ := h2
    refine ⟨c24, ?_⟩
    intro x26 e25
    have h1 := h1 x26 e25
    have h2 := h2 x26 e25
    intro x28 e27
    have h1 := h1 x28 e27
    have h2 := h2 x28 e27
    exact hX85 _ _ _ _ _ h1 h2
theorem fd_X8_init_85 {Q : HS → Prop} {v0 : Nat} {v1 : Int32} {kk : Nat} {nn : Nat} {S : HS} (h : B_X8_init_85 Q (P_X8_init_85 Q) v0 v1 kk nn S) : P_X8_init_85 Q v0 v1 kk nn S := fun X hX => hX v0 v1 kk nn S (cmB_X8_init_85 h h (fun _ a _ => a) (fun _ _ _ _ _ hp _ => hp X hX))
theorem uf_X8_init_85 {Q : HS → Prop} {v0 : Nat} {v1 : Int32} {kk : Nat} {nn : Nat} {S : HS} (h : P_X8_init_85 Q v0 v1 kk nn S) : B_X8_init_85 Q (P_X8_init_85 Q) v0 v1 kk nn S := h (fun v0 v1 kk nn S => B_X8_init_85 Q (P_X8_init_85 Q) v0 v1 kk nn S) (fun v0 v1 kk nn S hB => cmB_X8_init_85 hB hB (fun _ a _ => a) (fun _ _ _ _ _ hb _ => fd_X8_init_85 hb))
theorem cm_X8_init_85 {Q1 Q2 Q3 : HS → Prop} {v0 : Nat} {v1 : Int32} {kk : Nat} {nn : Nat} {S : HS} (h1 : P_X8_init_85 Q1 v0 v1 kk nn S) (h2 : P_X8_init_85 Q2 v0 v1 kk nn S) (hq : ∀ (T : HS), Q1 T → Q2 T → Q3 T) : P_X8_init_85 Q3 v0 v1 kk nn S := h1 (fun v0 v1 kk nn S => P_X8_init_85 Q2 v0 v1 kk nn S → P_X8_init_85 Q3 v0 v1 kk nn S) (fun v0 v1 kk nn S hB hp => fd_X8_init_85 (cmB_X8_init_85 hB (uf_X8_init_85 hp) hq (fun _ _ _ _ _ hx hp => hx hp))) h2
set_option maxRecDepth 20000 in
set_option maxHeartbeats 1000000 in
theorem cmB_X8_init_55 {Q1 Q2 Q3 : HS → Prop} {X55_1 X55_2 X55_3 : Nat → Int32 → Nat → Nat → HS → Prop} {v0 : Nat} {v1 : Int32} {kk : Nat} {nn : Nat} {S : HS} (h1 : B_X8_init_55 Q1 X55_1 v0 v1 kk nn S) (h2 : B_X8_init_55 Q2 X55_2 v0 v1 kk nn S) (hq : ∀ (T : HS), Q1 T → Q2 T → Q3 T) (hX55 : ∀ (u0 : Nat) (u1 : Int32) (u2 : Nat) (u3 : Nat) (u4 : HS), X55_1 u0 u1 u2 u3 u4 → X55_2 u0 u1 u2 u3 u4 → X55_3 u0 u1 u2 u3 u4) : B_X8_init_55 Q3 X55_3 v0 v1 kk nn S := by
  delta B_X8_init_55 at h1 h2 ⊢
  obtain ⟨c1, h1⟩ := h1
  obtain ⟨_, h2⟩ := h2
  refine ⟨c1, ?_⟩
  obtain ⟨b2, e3, h1⟩ := h1
  obtain ⟨b4, e5, h2⟩ := h2
  cases e3.symm.trans e5
  refine ⟨b2, e3, ?_⟩
  obtain ⟨c6, h1⟩ := h1
  obtain ⟨_, h2⟩ := h2
  refine ⟨c6, ?_⟩
  refine ⟨?_, ?_⟩
  · intro c7
    have h1 := h1.1 c7
    have h2 := h2.1 c7
    exact cm_X8_init_85 h1 h2 hq
  · intro c8
    have h1 := h1.2 c8
    have h2 := h2.2 c8
    obtain ⟨b9, e10, h1⟩ := h1
    obtain ⟨b11, e12, h2⟩ := h2
    cases e10.symm.trans e12
    refine ⟨b9, e10, ?_⟩
    obtain ⟨c13, h1⟩ := h1
    obtain ⟨_, h2⟩ := h2
    refine ⟨c13, ?_⟩
    obtain ⟨c14, h1⟩ := h1
    obtain ⟨_, h2⟩ := h2
    refine ⟨c14, ?_⟩
    intro x16 e15
    have h1 := h1 x16 e15
    have h2 := h2 x16 e15
    intro x18 e17
    have h1 := h1 x18 e17
    have h2 := h2 x18 e17
    obtain ⟨c19, h1⟩ := h1
    obtain ⟨_, h2⟩ := h2
    refine ⟨c19, ?_⟩
    obtain ⟨c20, h1⟩ := h1
    obtain ⟨_, h2⟩ := h2
    refine ⟨c20, ?_⟩
    refine cm_X3_init h1 h2 (fun x21 h1 h2 g22 => ?_)
    have h1 := h1 g22
    have h2 := h2 g22
    obtain ⟨c23, h1⟩ := h1
    obtain ⟨_, h2⟩ := h2
    refine ⟨c23, ?_⟩
    obtain ⟨c24, h1⟩ := h1
    obtain ⟨_, h2⟩ := h2
    refine ⟨c24, ?_⟩
    intro x26 e25
    have h1 := h1 x26 e25
    have h2 := h2 x26 e25
    intro x28 e27
    have h1 := h1 x28 e27
    have h2 := h2 x28 e27
    exact hX55 _ _ _ _ _ h1 h2
theorem fd_X8_init_55 {Q : HS → Prop} {v0 : Nat} {v1 : Int32} {kk : Nat} {nn : Nat} {S : HS} (h : B_X8_init_55 Q (P_X8_init_55 Q) v0 v1 kk nn S) : P_X8_init_55 Q v0 v1 kk nn S := fun X hX => hX v0 v1 kk nn S (cmB_X8_init_55 h h (fun _ a _ => a) (fun _ _ _ _ _ hp _ => hp X hX))
theorem uf_X8_init_55 {Q : HS → Prop} {v0 : Nat} {v1 : Int32} {kk : Nat} {nn : Nat} {S : HS} (h : P_X8_init_55 Q v0 v1 kk nn S) : B_X8_init_55 Q (P_X8_init_55 Q) v0 v1 kk nn S := h (fun v0 v1 kk nn S => B_X8_init_55 Q (P_X8_init_55 Q) v0 v1 kk nn S) (fun v0 v1 kk nn S hB => cmB_X8_init_55 hB hB (fun _ a _ => a) (fun _ _ _ _ _ hb _ => fd_X8_init_55 hb))
theorem cm_X8_init_55 {Q1 Q2 Q3 : HS → Prop} {v0 : Nat} {v1 : Int32} {kk : Nat} {nn : Nat} {S : HS} (h1 : P_X8_init_55 Q1 v0 v1 kk nn S) (h2 : P_X8_init_55 Q2 v0 v1 kk nn S) (hq : ∀ (T : HS), Q1 T → Q2 T → Q3 T) : P_X8_init_55 Q3 v0 v1 kk nn S := h1 (fun v0 v1 kk nn S => P_X8_init_55 Q2 v0 v1 kk nn S → P_X8_init_55 Q3 v0 v1 kk nn S) (fun v0 v1 kk nn S hB hp => fd_X8_init_55 (cmB_X8_init_55 hB (uf_X8_init_55 hp) hq (fun _ _ _ _ _ hx hp => hx hp))) h2
set_option maxRecDepth 20000 in
set_option maxHeartbeats 1000000 in
theorem cm_X8_init_0 {Q1 Q2 Q3 : HS → Prop} {v0 : Nat} {kk : Nat} {nn : Nat} {S : HS} (h1 : P_X8_init_0 Q1 v0 kk nn S) (h2 : P_X8_init_0 Q2 v0 kk nn S) (hq : ∀ (T : HS), Q1 T → Q2 T → Q3 T) : P_X8_init_0 Q3 v0 kk nn S := by
  delta P_X8_init_0 at h1 h2 ⊢
  obtain ⟨c1, h1⟩ := h1
  obtain ⟨_, h2⟩ := h2
  refine ⟨c1, ?_⟩
  obtain ⟨c2, h1⟩ := h1
  obtain ⟨_, h2⟩ := h2
  refine ⟨c2, ?_⟩
  intro x4 e3
  have h1 := h1 x4 e3
  have h2 := h2 x4 e3
  intro x6 e5
  have h1 := h1 x6 e5
  have h2 := h2 x6 e5
  obtain ⟨c7, h1⟩ := h1
  obtain ⟨_, h2⟩ := h2
  refine ⟨c7, ?_⟩
  intro x9 e8
  have h1 := h1 x9 e8
  have h2 := h2 x9 e8
  obtain ⟨c10, h1⟩ := h1
  obtain ⟨_, h2⟩ := h2
  refine ⟨c10, ?_⟩
  obtain ⟨c11, h1⟩ := h1
  obtain ⟨_, h2⟩ := h2
  refine ⟨c11, ?_⟩
  intro x13 e12
  have h1 := h1 x13 e12
  have h2 := h2 x13 e12
  intro x15 e14
  have h1 := h1 x15 e14
  have h2 := h2 x15 e14
  intro x17 e16
  have h1 := h1 x17 e16
  have h2 := h2 x17 e16
  obtain ⟨c18, h1⟩ := h1
  obtain ⟨_, h2⟩ := h2
  refine ⟨c18, ?_⟩
  obtain ⟨c19, h1⟩ := h1
  obtain ⟨_, h2⟩ := h2
  refine ⟨c19, ?_⟩
  intro x21 e20
  have h1 := h1 x21 e20
  have h2 := h2 x21 e20
  intro x23 e22
  have h1 := h1 x23 e22
  have h2 := h2 x23 e22
  intro x25 e24
  have h1 := h1 x25 e24
  have h2 := h2 x25 e24
  obtain ⟨c26, h1⟩ := h1
  obtain ⟨_, h2⟩ := h2
  refine ⟨c26, ?_⟩
  obtain ⟨c27, h1⟩ := h1
  obtain ⟨_, h2⟩ := h2
  refine ⟨c27, ?_⟩
  intro x29 e28
  have h1 := h1 x29 e28
  have h2 := h2 x29 e28
  intro x31 e30
  have h1 := h1 x31 e30
  have h2 := h2 x31 e30
  intro x33 e32
  have h1 := h1 x33 e32
  have h2 := h2 x33 e32
  obtain ⟨c34, h1⟩ := h1
  obtain ⟨_, h2⟩ := h2
  refine ⟨c34, ?_⟩
  obtain ⟨c35, h1⟩ := h1
  obtain ⟨_, h2⟩ := h2
  refine ⟨c35, ?_⟩
  intro x37 e36
  have h1 := h1 x37 e36
  have h2 := h2 x37 e36
  intro x39 e38
  have h1 := h1 x39 e38
  have h2 := h2 x39 e38
  intro x41 e40
  have h1 := h1 x41 e40
  have h2 := h2 x41 e40
  obtain ⟨c42, h1⟩ := h1
  obtain ⟨_, h2⟩ := h2
  refine ⟨c42, ?_⟩
  obtain ⟨c43, h1⟩ := h1
  obtain ⟨_, h2⟩ := h2
  refine ⟨c43, ?_⟩
  intro x45 e44
  have h1 := h1 x45 e44
  have h2 := h2 x45 e44
  intro x47 e46
  have h1 := h1 x47 e46
  have h2 := h2 x47 e46
  intro x49 e48
  have h1 := h1 x49 e48
  have h2 := h2 x49 e48
  exact cm_X8_init_55 h1 h2 hq
theorem cm_X8_init {Q1 Q2 Q3 : HS → Prop} {v0 : Nat} {S : HS} (h1 : P_X8_init v0 Q1 S) (h2 : P_X8_init v0 Q2 S) (hq : ∀ (T : HS), Q1 T → Q2 T → Q3 T) : P_X8_init v0 Q3 S := cm_X8_init_0 h1 h2 hq
end
section
set_option maxRecDepth 20000 in
set_option maxHeartbeats 1000000 in
theorem cm_X4_init_0 {Q1 Q2 Q3 : HS → Prop} {v0 : Nat} {S : HS} (h1 : P_X4_init_0 Q1 v0 S) (h2 : P_X4_init_0 Q2 v0 S) (hq : ∀ (T : HS), Q1 T → Q2 T → Q3 T) : P_X4_init_0 Q3 v0 S := by
  delta P_X4_init_0 at h1 h2 ⊢
  intro x2 e1
  have h1 := h1 x2 e1
  have h2 := h2 x2 e1
  intro x4 e3
  have h1 := h1 x4 e3
  have h2 := h2 x4 e3
  obtain ⟨c5, h1⟩ := h1
  obtain ⟨_, h2⟩ := h2
  refine ⟨c5, ?_⟩
  intro x7 e6
  have h1 := h1 x7 e6
  have h2 := h2 x7 e6
  intro x9 e8
  have h1 := h1 x9 e8
  have h2 := h2 x9 e8
  intro x11 e10
  have h1 := h1 x11 e10
  have h2 := h2 x11 e10
  refine cm_X8_init h1 h2 (fun x12 h1 h2 g13 => ?_)
  have h1 := h1 g13
  have h2 := h2 g13
  intro x15 e14
  have h1 := h1 x15 e14
  have h2 := h2 x15 e14
  intro x17 e16
  have h1 := h1 x17 e16
  have h2 := h2 x17 e16
  intro x19 e18
  have h1 := h1 x19 e18
  have h2 := h2 x19 e18
  intro x21 e20
  have h1 := h1 x21 e20
  have h2 := h2 x21 e20
  intro x23 e22
  have h1 := h1 x23 e22
  have h2 := h2 x23 e22
  intro x25 e24
  have h1 := h1 x25 e24
  have h2 := h2 x25 e24
  intro x27 e26
  have h1 := h1 x27 e26
  have h2 := h2 x27 e26
  exact hq _ h1 h2
theorem cm_X4_init {Q1 Q2 Q3 : HS → Prop} {v0 : Nat} {S : HS} (h1 : P_X4_init v0 Q1 S) (h2 : P_X4_init v0 Q2 S) (hq : ∀ (T : HS), Q1 T → Q2 T → Q3 T) : P_X4_init v0 Q3 S := cm_X4_init_0 h1 h2 hq
set_option maxRecDepth 20000 in
set_option maxHeartbeats 1000000 in
theorem cm_X4_kindOf_0 {Q1 Q2 Q3 : Int32 → HS → Prop} {v0 : Nat} {v1 : Nat} {S : HS} (h1 : P_X4_kindOf_0 Q1 v0 v1 S) (h2 : P_X4_kindOf_0 Q2 v0 v1 S) (hq : ∀ (r : Int32) (T : HS), Q1 r T → Q2 r T → Q3 r T) : P_X4_kindOf_0 Q3 v0 v1 S := by
  delta P_X4_kindOf_0 at h1 h2 ⊢
  obtain ⟨c1, h1⟩ := h1
  obtain ⟨_, h2⟩ := h2
  refine ⟨c1, ?_⟩
  intro x3 e2
  have h1 := h1 x3 e2
  have h2 := h2 x3 e2
  refine cm_X4_is h1 h2 (fun x4 x5 h1 h2 g6 g7 => ?_)
  have h1 := h1 g6 g7
  have h2 := h2 g6 g7
  refine ⟨?_, ?_⟩
  · intro c8
    have h1 := h1.1 c8
    have h2 := h2.1 c8
    refine cm_X4_is h1 h2 (fun x9 x10 h1 h2 g11 g12 => ?_)
    have h1 := h1 g11 g12
    have h2 := h2 g11 g12
    refine ⟨?_, ?_⟩
    · intro c13
      have h1 := h1.1 c13
      have h2 := h2.1 c13
      refine cm_X4_is h1 h2 (fun x14 x15 h1 h2 g16 g17 => ?_)
      have h1 := h1 g16 g17
      have h2 := h2 g16 g17
      refine ⟨?_, ?_⟩
      · intro c18
        have h1 := h1.1 c18
        have h2 := h2.1 c18
        obtain ⟨c19, h1⟩ := h1
        obtain ⟨_, h2⟩ := h2
        refine ⟨c19, ?_⟩
        intro x21 e20
        have h1 := h1 x21 e20
        have h2 := h2 x21 e20
        refine cm_X4_word h1 h2 (fun x22 x23 h1 h2 g24 g25 => ?_)
        have h1 := h1 g24 g25
        have h2 := h2 g24 g25
        intro x27 e26
        have h1 := h1 x27 e26
        have h2 := h2 x27 e26
        intro x29 e28
        have h1 := h1 x29 e28
        have h2 := h2 x29 e28
        obtain ⟨c30, h1⟩ := h1
        obtain ⟨_, h2⟩ := h2
        refine ⟨c30, ?_⟩
        exact hq _ _ h1 h2
      · intro c31
        have h1 := h1.2 c31
        have h2 := h2.2 c31
        obtain ⟨c32, h1⟩ := h1
        obtain ⟨_, h2⟩ := h2
        refine ⟨c32, ?_⟩
        intro x34 e33
        have h1 := h1 x34 e33
        have h2 := h2 x34 e33
        refine cm_X4_wordAndWhole h1 h2 (fun x35 x36 h1 h2 g37 g38 => ?_)
        have h1 := h1 g37 g38
        have h2 := h2 g37 g38
        intro x40 e39
        have h1 := h1 x40 e39
        have h2 := h2 x40 e39
        intro x42 e41
        have h1 := h1 x42 e41
        have h2 := h2 x42 e41
        obtain ⟨c43, h1⟩ := h1
        obtain ⟨_, h2⟩ := h2
        refine ⟨c43, ?_⟩
        exact hq _ _ h1 h2
    · intro c44
      have h1 := h1.2 c44
      have h2 := h2.2 c44
      obtain ⟨c45, h1⟩ := h1
      obtain ⟨_, h2⟩ := h2
      refine ⟨c45, ?_⟩
      intro x47 e46
      have h1 := h1 x47 e46
      have h2 := h2 x47 e46
      refine cm_X4_wordAndWhole h1 h2 (fun x48 x49 h1 h2 g50 g51 => ?_)
      have h1 := h1 g50 g51
      have h2 := h2 g50 g51
      intro x53 e52
      have h1 := h1 x53 e52
      have h2 := h2 x53 e52
      intro x55 e54
      have h1 := h1 x55 e54
      have h2 := h2 x55 e54
      obtain ⟨c56, h1⟩ := h1
      obtain ⟨_, h2⟩ := h2
      refine ⟨c56, ?_⟩
      exact hq _ _ h1 h2
  · intro c57
    have h1 := h1.2 c57
    have h2 := h2.2 c57
    obtain ⟨c58, h1⟩ := h1
    obtain ⟨_, h2⟩ := h2
    refine ⟨c58, ?_⟩
    intro x60 e59
    have h1 := h1 x60 e59
    have h2 := h2 x60 e59
    refine cm_X4_wordAndWhole h1 h2 (fun x61 x62 h1 h2 g63 g64 => ?_)
    have h1 := h1 g63 g64
    have h2 := h2 g63 g64
    intro x66 e65
    have h1 := h1 x66 e65
    have h2 := h2 x66 e65
    intro x68 e67
    have h1 := h1 x68 e67
    have h2 := h2 x68 e67
    obtain ⟨c69, h1⟩ := h1
    obtain ⟨_, h2⟩ := h2
    refine ⟨c69, ?_⟩
    exact hq _ _ h1 h2
theorem cm_X4_kindOf {Q1 Q2 Q3 : Int32 → HS → Prop} {v0 : Nat} {v1 : Nat} {S : HS} (h1 : P_X4_kindOf v0 v1 Q1 S) (h2 : P_X4_kindOf v0 v1 Q2 S) (hq : ∀ (r : Int32) (T : HS), Q1 r T → Q2 r T → Q3 r T) : P_X4_kindOf v0 v1 Q3 S := cm_X4_kindOf_0 h1 h2 hq
set_option maxRecDepth 20000 in
set_option maxHeartbeats 1000000 in
theorem cm_X4_newName_69 {Q1 Q2 Q3 : Int32 → HS → Prop} {v0 : Nat} {S : HS} (h1 : P_X4_newName_69 Q1 v0 S) (h2 : P_X4_newName_69 Q2 v0 S) (hq : ∀ (r : Int32) (T : HS), Q1 r T → Q2 r T → Q3 r T) : P_X4_newName_69 Q3 v0 S := by
  delta P_X4_newName_69 at h1 h2 ⊢
  obtain ⟨c1, h1⟩ := h1
  obtain ⟨_, h2⟩ := h2
  refine ⟨c1, ?_⟩
  refine cm_X4_next h1 h2 (fun x2 h1 h2 g3 => ?_)
  have h1 := h1 g3
  have h2 := h2 g3
  exact hq _ _ h1 h2
set_option maxRecDepth 20000 in
set_option maxHeartbeats 1000000 in
theorem cm_X4_newName_0 {Q1 Q2 Q3 : Int32 → HS → Prop} {v0 : Nat} {v1 : Int32} {S : HS} (h1 : P_X4_newName_0 Q1 v0 v1 S) (h2 : P_X4_newName_0 Q2 v0 v1 S) (hq : ∀ (r : Int32) (T : HS), Q1 r T → Q2 r T → Q3 r T) : P_X4_newName_0 Q3 v0 v1 S := by
  delta P_X4_newName_0 at h1 h2 ⊢
  obtain ⟨c1, h1⟩ := h1
  obtain ⟨_, h2⟩ := h2
  refine ⟨c1, ?_⟩
  refine cm_X4_canBeName h1 h2 (fun x2 x3 h1 h2 g4 g5 => ?_)
  have h1 := h1 g4 g5
  have h2 := h2 g4 g5
  refine ⟨?_, ?_⟩
  · intro c6
    have h1 := h1.1 c6
    have h2 := h2.1 c6
    refine cm_X4_findName h1 h2 (fun x7 x8 h1 h2 g9 => ?_)
    have h1 := h1 g9
    have h2 := h2 g9
    refine ⟨?_, ?_⟩
    · intro c10
      have h1 := h1.1 c10
      have h2 := h2.1 c10
      intro x12 e11
      have h1 := h1 x12 e11
      have h2 := h2 x12 e11
      refine ⟨?_, ?_⟩
      · intro c13
        have h1 := h1.1 c13
        have h2 := h2.1 c13
        exact cm_X4_newName_69 h1 h2 hq
      · intro c14
        have h1 := h1.2 c14
        have h2 := h2.2 c14
        obtain ⟨b15, e16, h1⟩ := h1
        obtain ⟨b17, e18, h2⟩ := h2
        cases e16.symm.trans e18
        refine ⟨b15, e16, ?_⟩
        intro x20 e19
        have h1 := h1 x20 e19
        have h2 := h2 x20 e19
        intro x22 e21
        have h1 := h1 x22 e21
        have h2 := h2 x22 e21
        obtain ⟨c23, h1⟩ := h1
        obtain ⟨_, h2⟩ := h2
        refine ⟨c23, ?_⟩
        obtain ⟨c24, h1⟩ := h1
        obtain ⟨_, h2⟩ := h2
        refine ⟨c24, ?_⟩
        intro x26 e25
        have h1 := h1 x26 e25
        have h2 := h2 x26 e25
        obtain ⟨b27, e28, h1⟩ := h1
        obtain ⟨b29, e30, h2⟩ := h2
        cases e28.symm.trans e30
        refine ⟨b27, e28, ?_⟩
        intro x32 e31
        have h1 := h1 x32 e31
        have h2 := h2 x32 e31
        obtain ⟨c33, h1⟩ := h1
        obtain ⟨_, h2⟩ := h2
        refine ⟨c33, ?_⟩
        obtain ⟨c34, h1⟩ := h1
        obtain ⟨_, h2⟩ := h2
        refine ⟨c34, ?_⟩
        intro x36 e35
        have h1 := h1 x36 e35
        have h2 := h2 x36 e35
        intro x38 e37
        have h1 := h1 x38 e37
        have h2 := h2 x38 e37
        intro x40 e39
        have h1 := h1 x40 e39
        have h2 := h2 x40 e39
        intro x42 e41
        have h1 := h1 x42 e41
        have h2 := h2 x42 e41
        exact cm_X4_newName_69 h1 h2 hq
    · intro c43
      have h1 := h1.2 c43
      have h2 := h2.2 c43
      refine cm_X4_fail h1 h2 (fun x44 x45 h1 h2 g46 g47 => ?_)
      have h1 := h1 g46 g47
      have h2 := h2 g46 g47
      obtain ⟨c48, h1⟩ := h1
      obtain ⟨_, h2⟩ := h2
      refine ⟨c48, ?_⟩
      exact hq _ _ h1 h2
  · intro c49
    have h1 := h1.2 c49
    have h2 := h2.2 c49
    refine cm_X4_fail h1 h2 (fun x50 x51 h1 h2 g52 g53 => ?_)
    have h1 := h1 g52 g53
    have h2 := h2 g52 g53
    obtain ⟨c54, h1⟩ := h1
    obtain ⟨_, h2⟩ := h2
    refine ⟨c54, ?_⟩
    exact hq _ _ h1 h2
theorem cm_X4_newName {Q1 Q2 Q3 : Int32 → HS → Prop} {v0 : Nat} {v1 : Int32} {S : HS} (h1 : P_X4_newName v0 v1 Q1 S) (h2 : P_X4_newName v0 v1 Q2 S) (hq : ∀ (r : Int32) (T : HS), Q1 r T → Q2 r T → Q3 r T) : P_X4_newName v0 v1 Q3 S := cm_X4_newName_0 h1 h2 hq
set_option maxRecDepth 20000 in
set_option maxHeartbeats 1000000 in
theorem cm_X8_clear_0 {Q1 Q2 Q3 : HS → Prop} {v0 : Nat} {S : HS} (h1 : P_X8_clear_0 Q1 v0 S) (h2 : P_X8_clear_0 Q2 v0 S) (hq : ∀ (T : HS), Q1 T → Q2 T → Q3 T) : P_X8_clear_0 Q3 v0 S := by
  delta P_X8_clear_0 at h1 h2 ⊢
  obtain ⟨c1, h1⟩ := h1
  obtain ⟨_, h2⟩ := h2
  refine ⟨c1, ?_⟩
  intro x3 e2
  have h1 := h1 x3 e2
  have h2 := h2 x3 e2
  intro x5 e4
  have h1 := h1 x5 e4
  have h2 := h2 x5 e4
  intro x7 e6
  have h1 := h1 x7 e6
  have h2 := h2 x7 e6
  intro x9 e8
  have h1 := h1 x9 e8
  have h2 := h2 x9 e8
  intro x11 e10
  have h1 := h1 x11 e10
  have h2 := h2 x11 e10
  intro x13 e12
  have h1 := h1 x13 e12
  have h2 := h2 x13 e12
  exact hq _ h1 h2
theorem cm_X8_clear {Q1 Q2 Q3 : HS → Prop} {v0 : Nat} {S : HS} (h1 : P_X8_clear v0 Q1 S) (h2 : P_X8_clear v0 Q2 S) (hq : ∀ (T : HS), Q1 T → Q2 T → Q3 T) : P_X8_clear v0 Q3 S := cm_X8_clear_0 h1 h2 hq
set_option maxRecDepth 20000 in
set_option maxHeartbeats 1000000 in
theorem cm_X4_open_0 {Q1 Q2 Q3 : HS → Prop} {v0 : Nat} {v1 : Nat} {v2 : Int32} {S : HS} (h1 : P_X4_open_0 Q1 v0 v1 v2 S) (h2 : P_X4_open_0 Q2 v0 v1 v2 S) (hq : ∀ (T : HS), Q1 T → Q2 T → Q3 T) : P_X4_open_0 Q3 v0 v1 v2 S := by
  delta P_X4_open_0 at h1 h2 ⊢
  obtain ⟨c1, h1⟩ := h1
  obtain ⟨_, h2⟩ := h2
  refine ⟨c1, ?_⟩
  intro x3 e2
  have h1 := h1 x3 e2
  have h2 := h2 x3 e2
  obtain ⟨c4, h1⟩ := h1
  obtain ⟨_, h2⟩ := h2
  refine ⟨c4, ?_⟩
  intro x6 e5
  have h1 := h1 x6 e5
  have h2 := h2 x6 e5
  intro x8 e7
  have h1 := h1 x8 e7
  have h2 := h2 x8 e7
  intro x10 e9
  have h1 := h1 x10 e9
  have h2 := h2 x10 e9
  intro x12 e11
  have h1 := h1 x12 e11
  have h2 := h2 x12 e11
  intro x14 e13
  have h1 := h1 x14 e13
  have h2 := h2 x14 e13
  intro x16 e15
  have h1 := h1 x16 e15
  have h2 := h2 x16 e15
  obtain ⟨b17, e18, h1⟩ := h1
  obtain ⟨b19, e20, h2⟩ := h2
  cases e18.symm.trans e20
  refine ⟨b17, e18, ?_⟩
  obtain ⟨c21, h1⟩ := h1
  obtain ⟨_, h2⟩ := h2
  refine ⟨c21, ?_⟩
  refine cm_X8_clear h1 h2 (fun x22 h1 h2 g23 => ?_)
  have h1 := h1 g23
  have h2 := h2 g23
  refine cm_X4_next h1 h2 (fun x24 h1 h2 g25 => ?_)
  have h1 := h1 g25
  have h2 := h2 g25
  exact hq _ h1 h2
theorem cm_X4_open {Q1 Q2 Q3 : HS → Prop} {v0 : Nat} {v1 : Nat} {v2 : Int32} {S : HS} (h1 : P_X4_open v0 v1 v2 Q1 S) (h2 : P_X4_open v0 v1 v2 Q2 S) (hq : ∀ (T : HS), Q1 T → Q2 T → Q3 T) : P_X4_open v0 v1 v2 Q3 S := cm_X4_open_0 h1 h2 hq
set_option maxRecDepth 20000 in
set_option maxHeartbeats 1000000 in
theorem cm_X4_placeBut_29 {Q1 Q2 Q3 : Int32 → HS → Prop} {v0 : Nat} {S : HS} (h1 : P_X4_placeBut_29 Q1 v0 S) (h2 : P_X4_placeBut_29 Q2 v0 S) (hq : ∀ (r : Int32) (T : HS), Q1 r T → Q2 r T → Q3 r T) : P_X4_placeBut_29 Q3 v0 S := by
  delta P_X4_placeBut_29 at h1 h2 ⊢
  obtain ⟨c1, h1⟩ := h1
  obtain ⟨_, h2⟩ := h2
  refine ⟨c1, ?_⟩
  refine cm_X4_fail h1 h2 (fun x2 x3 h1 h2 g4 g5 => ?_)
  have h1 := h1 g4 g5
  have h2 := h2 g4 g5
  obtain ⟨c6, h1⟩ := h1
  obtain ⟨_, h2⟩ := h2
  refine ⟨c6, ?_⟩
  exact hq _ _ h1 h2
set_option maxRecDepth 20000 in
set_option maxHeartbeats 1000000 in
theorem cm_X4_placeBut_0 {Q1 Q2 Q3 : Int32 → HS → Prop} {v0 : Nat} {v1 : Int32} {S : HS} (h1 : P_X4_placeBut_0 Q1 v0 v1 S) (h2 : P_X4_placeBut_0 Q2 v0 v1 S) (hq : ∀ (r : Int32) (T : HS), Q1 r T → Q2 r T → Q3 r T) : P_X4_placeBut_0 Q3 v0 v1 S := by
  delta P_X4_placeBut_0 at h1 h2 ⊢
  obtain ⟨c1, h1⟩ := h1
  obtain ⟨_, h2⟩ := h2
  refine ⟨c1, ?_⟩
  refine cm_X4_canBeName h1 h2 (fun x2 x3 h1 h2 g4 g5 => ?_)
  have h1 := h1 g4 g5
  have h2 := h2 g4 g5
  refine ⟨?_, ?_⟩
  · intro c6
    have h1 := h1.1 c6
    have h2 := h2.1 c6
    refine cm_X4_findName h1 h2 (fun x7 x8 h1 h2 g9 => ?_)
    have h1 := h1 g9
    have h2 := h2 g9
    refine ⟨?_, ?_⟩
    · intro c10
      have h1 := h1.1 c10
      have h2 := h2.1 c10
      exact cm_X4_placeBut_29 h1 h2 hq
    · intro c11
      have h1 := h1.2 c11
      have h2 := h2.2 c11
      refine ⟨?_, ?_⟩
      · intro c12
        have h1 := h1.1 c12
        have h2 := h2.1 c12
        refine ⟨?_, ?_⟩
        · intro c13
          have h1 := h1.1 c13
          have h2 := h2.1 c13
          intro x15 e14
          have h1 := h1 x15 e14
          have h2 := h2 x15 e14
          refine cm_X4_next h1 h2 (fun x16 h1 h2 g17 => ?_)
          have h1 := h1 g17
          have h2 := h2 g17
          exact hq _ _ h1 h2
        · intro c18
          have h1 := h1.2 c18
          have h2 := h2.2 c18
          refine cm_X4_fail h1 h2 (fun x19 x20 h1 h2 g21 g22 => ?_)
          have h1 := h1 g21 g22
          have h2 := h2 g21 g22
          obtain ⟨c23, h1⟩ := h1
          obtain ⟨_, h2⟩ := h2
          refine ⟨c23, ?_⟩
          exact hq _ _ h1 h2
      · intro c24
        have h1 := h1.2 c24
        have h2 := h2.2 c24
        exact cm_X4_placeBut_29 h1 h2 hq
  · intro c25
    have h1 := h1.2 c25
    have h2 := h2.2 c25
    refine cm_X4_fail h1 h2 (fun x26 x27 h1 h2 g28 g29 => ?_)
    have h1 := h1 g28 g29
    have h2 := h2 g28 g29
    obtain ⟨c30, h1⟩ := h1
    obtain ⟨_, h2⟩ := h2
    refine ⟨c30, ?_⟩
    exact hq _ _ h1 h2
theorem cm_X4_placeBut {Q1 Q2 Q3 : Int32 → HS → Prop} {v0 : Nat} {v1 : Int32} {S : HS} (h1 : P_X4_placeBut v0 v1 Q1 S) (h2 : P_X4_placeBut v0 v1 Q2 S) (hq : ∀ (r : Int32) (T : HS), Q1 r T → Q2 r T → Q3 r T) : P_X4_placeBut v0 v1 Q3 S := cm_X4_placeBut_0 h1 h2 hq
set_option maxRecDepth 20000 in
set_option maxHeartbeats 1000000 in
theorem cm_X4_placeLine_64 {Q1 Q2 Q3 : Int32 → HS → Prop} {v0 : Nat} {v1 : Int32} {S : HS} (h1 : P_X4_placeLine_64 Q1 v0 v1 S) (h2 : P_X4_placeLine_64 Q2 v0 v1 S) (hq : ∀ (r : Int32) (T : HS), Q1 r T → Q2 r T → Q3 r T) : P_X4_placeLine_64 Q3 v0 v1 S := by
  delta P_X4_placeLine_64 at h1 h2 ⊢
  obtain ⟨c1, h1⟩ := h1
  obtain ⟨_, h2⟩ := h2
  refine ⟨c1, ?_⟩
  obtain ⟨b2, e3, h1⟩ := h1
  obtain ⟨b4, e5, h2⟩ := h2
  cases e3.symm.trans e5
  refine ⟨b2, e3, ?_⟩
  obtain ⟨c6, h1⟩ := h1
  obtain ⟨_, h2⟩ := h2
  refine ⟨c6, ?_⟩
  obtain ⟨b7, e8, h1⟩ := h1
  obtain ⟨b9, e10, h2⟩ := h2
  cases e8.symm.trans e10
  refine ⟨b7, e8, ?_⟩
  obtain ⟨b11, e12, h1⟩ := h1
  obtain ⟨b13, e14, h2⟩ := h2
  cases e12.symm.trans e14
  refine ⟨b11, e12, ?_⟩
  obtain ⟨c15, h1⟩ := h1
  obtain ⟨_, h2⟩ := h2
  refine ⟨c15, ?_⟩
  intro x17 e16
  have h1 := h1 x17 e16
  have h2 := h2 x17 e16
  obtain ⟨c18, h1⟩ := h1
  obtain ⟨_, h2⟩ := h2
  refine ⟨c18, ?_⟩
  obtain ⟨c19, h1⟩ := h1
  obtain ⟨_, h2⟩ := h2
  refine ⟨c19, ?_⟩
  intro x21 e20
  have h1 := h1 x21 e20
  have h2 := h2 x21 e20
  obtain ⟨b22, e23, h1⟩ := h1
  obtain ⟨b24, e25, h2⟩ := h2
  cases e23.symm.trans e25
  refine ⟨b22, e23, ?_⟩
  obtain ⟨c26, h1⟩ := h1
  obtain ⟨_, h2⟩ := h2
  refine ⟨c26, ?_⟩
  intro x28 e27
  have h1 := h1 x28 e27
  have h2 := h2 x28 e27
  intro x30 e29
  have h1 := h1 x30 e29
  have h2 := h2 x30 e29
  intro x32 e31
  have h1 := h1 x32 e31
  have h2 := h2 x32 e31
  exact hq _ _ h1 h2
set_option maxRecDepth 20000 in
set_option maxHeartbeats 1000000 in
theorem cm_X4_placeLine_0 {Q1 Q2 Q3 : Int32 → HS → Prop} {v0 : Nat} {S : HS} (h1 : P_X4_placeLine_0 Q1 v0 S) (h2 : P_X4_placeLine_0 Q2 v0 S) (hq : ∀ (r : Int32) (T : HS), Q1 r T → Q2 r T → Q3 r T) : P_X4_placeLine_0 Q3 v0 S := by
  delta P_X4_placeLine_0 at h1 h2 ⊢
  obtain ⟨c1, h1⟩ := h1
  obtain ⟨_, h2⟩ := h2
  refine ⟨c1, ?_⟩
  obtain ⟨b2, e3, h1⟩ := h1
  obtain ⟨b4, e5, h2⟩ := h2
  cases e3.symm.trans e5
  refine ⟨b2, e3, ?_⟩
  obtain ⟨c6, h1⟩ := h1
  obtain ⟨_, h2⟩ := h2
  refine ⟨c6, ?_⟩
  intro x8 e7
  have h1 := h1 x8 e7
  have h2 := h2 x8 e7
  refine cm_X4_newName h1 h2 (fun x9 x10 h1 h2 g11 g12 => ?_)
  have h1 := h1 g11 g12
  have h2 := h2 g11 g12
  refine ⟨?_, ?_⟩
  · intro c13
    have h1 := h1.1 c13
    have h2 := h2.1 c13
    refine cm_X4_is h1 h2 (fun x14 x15 h1 h2 g16 g17 => ?_)
    have h1 := h1 g16 g17
    have h2 := h2 g16 g17
    refine ⟨?_, ?_⟩
    · intro c18
      have h1 := h1.1 c18
      have h2 := h2.1 c18
      refine cm_X4_is h1 h2 (fun x19 x20 h1 h2 g21 g22 => ?_)
      have h1 := h1 g21 g22
      have h2 := h2 g21 g22
      refine ⟨?_, ?_⟩
      · intro c23
        have h1 := h1.1 c23
        have h2 := h2.1 c23
        exact cm_X4_placeLine_64 h1 h2 hq
      · intro c24
        have h1 := h1.2 c24
        have h2 := h2.2 c24
        refine cm_X4_wordAndWhole h1 h2 (fun x25 x26 h1 h2 g27 g28 => ?_)
        have h1 := h1 g27 g28
        have h2 := h2 g27 g28
        refine ⟨?_, ?_⟩
        · intro c29
          have h1 := h1.1 c29
          have h2 := h2.1 c29
          intro x31 e30
          have h1 := h1 x31 e30
          have h2 := h2 x31 e30
          exact cm_X4_placeLine_64 h1 h2 hq
        · intro c32
          have h1 := h1.2 c32
          have h2 := h2.2 c32
          exact hq _ _ h1 h2
    · intro c33
      have h1 := h1.2 c33
      have h2 := h2.2 c33
      refine cm_X4_next h1 h2 (fun x34 h1 h2 g35 => ?_)
      have h1 := h1 g35
      have h2 := h2 g35
      exact cm_X4_placeLine_64 h1 h2 hq
  · intro c36
    have h1 := h1.2 c36
    have h2 := h2.2 c36
    exact hq _ _ h1 h2
theorem cm_X4_placeLine {Q1 Q2 Q3 : Int32 → HS → Prop} {v0 : Nat} {S : HS} (h1 : P_X4_placeLine v0 Q1 S) (h2 : P_X4_placeLine v0 Q2 S) (hq : ∀ (r : Int32) (T : HS), Q1 r T → Q2 r T → Q3 r T) : P_X4_placeLine v0 Q3 S := cm_X4_placeLine_0 h1 h2 hq
set_option maxRecDepth 20000 in
set_option maxHeartbeats 1000000 in
theorem cm_X4_side_74 {Q1 Q2 Q3 : Int32 → HS → Prop} {v0 : Nat} {S : HS} (h1 : P_X4_side_74 Q1 v0 S) (h2 : P_X4_side_74 Q2 v0 S) (hq : ∀ (r : Int32) (T : HS), Q1 r T → Q2 r T → Q3 r T) : P_X4_side_74 Q3 v0 S := by
  delta P_X4_side_74 at h1 h2 ⊢
  obtain ⟨c1, h1⟩ := h1
  obtain ⟨_, h2⟩ := h2
  refine ⟨c1, ?_⟩
  refine cm_X4_next h1 h2 (fun x2 h1 h2 g3 => ?_)
  have h1 := h1 g3
  have h2 := h2 g3
  exact hq _ _ h1 h2
set_option maxRecDepth 20000 in
set_option maxHeartbeats 1000000 in
theorem cm_X4_side_0 {Q1 Q2 Q3 : Int32 → HS → Prop} {v0 : Nat} {S : HS} (h1 : P_X4_side_0 Q1 v0 S) (h2 : P_X4_side_0 Q2 v0 S) (hq : ∀ (r : Int32) (T : HS), Q1 r T → Q2 r T → Q3 r T) : P_X4_side_0 Q3 v0 S := by
  delta P_X4_side_0 at h1 h2 ⊢
  obtain ⟨c1, h1⟩ := h1
  obtain ⟨_, h2⟩ := h2
  refine ⟨c1, ?_⟩
  refine cm_X4_is h1 h2 (fun x2 x3 h1 h2 g4 g5 => ?_)
  have h1 := h1 g4 g5
  have h2 := h2 g4 g5
  refine ⟨?_, ?_⟩
  · intro c6
    have h1 := h1.1 c6
    have h2 := h2.1 c6
    refine cm_X4_is h1 h2 (fun x7 x8 h1 h2 g9 g10 => ?_)
    have h1 := h1 g9 g10
    have h2 := h2 g9 g10
    refine ⟨?_, ?_⟩
    · intro c11
      have h1 := h1.1 c11
      have h2 := h2.1 c11
      refine cm_X4_is h1 h2 (fun x12 x13 h1 h2 g14 g15 => ?_)
      have h1 := h1 g14 g15
      have h2 := h2 g14 g15
      refine ⟨?_, ?_⟩
      · intro c16
        have h1 := h1.1 c16
        have h2 := h2.1 c16
        refine cm_X4_is h1 h2 (fun x17 x18 h1 h2 g19 g20 => ?_)
        have h1 := h1 g19 g20
        have h2 := h2 g19 g20
        refine ⟨?_, ?_⟩
        · intro c21
          have h1 := h1.1 c21
          have h2 := h2.1 c21
          refine cm_X4_fail h1 h2 (fun x22 x23 h1 h2 g24 g25 => ?_)
          have h1 := h1 g24 g25
          have h2 := h2 g24 g25
          obtain ⟨c26, h1⟩ := h1
          obtain ⟨_, h2⟩ := h2
          refine ⟨c26, ?_⟩
          exact hq _ _ h1 h2
        · intro c27
          have h1 := h1.2 c27
          have h2 := h2.2 c27
          intro x29 e28
          have h1 := h1 x29 e28
          have h2 := h2 x29 e28
          exact cm_X4_side_74 h1 h2 hq
      · intro c30
        have h1 := h1.2 c30
        have h2 := h2.2 c30
        intro x32 e31
        have h1 := h1 x32 e31
        have h2 := h2 x32 e31
        exact cm_X4_side_74 h1 h2 hq
    · intro c33
      have h1 := h1.2 c33
      have h2 := h2.2 c33
      intro x35 e34
      have h1 := h1 x35 e34
      have h2 := h2 x35 e34
      exact cm_X4_side_74 h1 h2 hq
  · intro c36
    have h1 := h1.2 c36
    have h2 := h2.2 c36
    intro x38 e37
    have h1 := h1 x38 e37
    have h2 := h2 x38 e37
    exact cm_X4_side_74 h1 h2 hq
theorem cm_X4_side {Q1 Q2 Q3 : Int32 → HS → Prop} {v0 : Nat} {S : HS} (h1 : P_X4_side v0 Q1 S) (h2 : P_X4_side v0 Q2 S) (hq : ∀ (r : Int32) (T : HS), Q1 r T → Q2 r T → Q3 r T) : P_X4_side v0 Q3 S := cm_X4_side_0 h1 h2 hq
set_option maxRecDepth 20000 in
set_option maxHeartbeats 1000000 in
theorem cm_X4_rainLine_0 {Q1 Q2 Q3 : Int32 → HS → Prop} {v0 : Nat} {S : HS} (h1 : P_X4_rainLine_0 Q1 v0 S) (h2 : P_X4_rainLine_0 Q2 v0 S) (hq : ∀ (r : Int32) (T : HS), Q1 r T → Q2 r T → Q3 r T) : P_X4_rainLine_0 Q3 v0 S := by
  delta P_X4_rainLine_0 at h1 h2 ⊢
  obtain ⟨c1, h1⟩ := h1
  obtain ⟨_, h2⟩ := h2
  refine ⟨c1, ?_⟩
  obtain ⟨b2, e3, h1⟩ := h1
  obtain ⟨b4, e5, h2⟩ := h2
  cases e3.symm.trans e5
  refine ⟨b2, e3, ?_⟩
  obtain ⟨c6, h1⟩ := h1
  obtain ⟨_, h2⟩ := h2
  refine ⟨c6, ?_⟩
  obtain ⟨b7, e8, h1⟩ := h1
  obtain ⟨b9, e10, h2⟩ := h2
  cases e8.symm.trans e10
  refine ⟨b7, e8, ?_⟩
  obtain ⟨b11, e12, h1⟩ := h1
  obtain ⟨b13, e14, h2⟩ := h2
  cases e12.symm.trans e14
  refine ⟨b11, e12, ?_⟩
  obtain ⟨c15, h1⟩ := h1
  obtain ⟨_, h2⟩ := h2
  refine ⟨c15, ?_⟩
  intro x17 e16
  have h1 := h1 x17 e16
  have h2 := h2 x17 e16
  obtain ⟨c18, h1⟩ := h1
  obtain ⟨_, h2⟩ := h2
  refine ⟨c18, ?_⟩
  obtain ⟨c19, h1⟩ := h1
  obtain ⟨_, h2⟩ := h2
  refine ⟨c19, ?_⟩
  obtain ⟨b20, e21, h1⟩ := h1
  obtain ⟨b22, e23, h2⟩ := h2
  cases e21.symm.trans e23
  refine ⟨b20, e21, ?_⟩
  refine cm_X4_wordAndWhole h1 h2 (fun x24 x25 h1 h2 g26 g27 => ?_)
  have h1 := h1 g26 g27
  have h2 := h2 g26 g27
  refine ⟨?_, ?_⟩
  · intro c28
    have h1 := h1.1 c28
    have h2 := h2.1 c28
    intro x30 e29
    have h1 := h1 x30 e29
    have h2 := h2 x30 e29
    obtain ⟨c31, h1⟩ := h1
    obtain ⟨_, h2⟩ := h2
    refine ⟨c31, ?_⟩
    intro x33 e32
    have h1 := h1 x33 e32
    have h2 := h2 x33 e32
    refine cm_X4_wordAndWhole h1 h2 (fun x34 x35 h1 h2 g36 g37 => ?_)
    have h1 := h1 g36 g37
    have h2 := h2 g36 g37
    refine ⟨?_, ?_⟩
    · intro c38
      have h1 := h1.1 c38
      have h2 := h2.1 c38
      intro x40 e39
      have h1 := h1 x40 e39
      have h2 := h2 x40 e39
      intro x42 e41
      have h1 := h1 x42 e41
      have h2 := h2 x42 e41
      refine cm_X4_word h1 h2 (fun x43 x44 h1 h2 g45 g46 => ?_)
      have h1 := h1 g45 g46
      have h2 := h2 g45 g46
      refine ⟨?_, ?_⟩
      · intro c47
        have h1 := h1.1 c47
        have h2 := h2.1 c47
        exact hq _ _ h1 h2
      · intro c48
        have h1 := h1.2 c48
        have h2 := h2.2 c48
        refine cm_X4_side h1 h2 (fun x49 x50 h1 h2 g51 g52 => ?_)
        have h1 := h1 g51 g52
        have h2 := h2 g51 g52
        refine ⟨?_, ?_⟩
        · intro c53
          have h1 := h1.1 c53
          have h2 := h2.1 c53
          intro x55 e54
          have h1 := h1 x55 e54
          have h2 := h2 x55 e54
          intro x57 e56
          have h1 := h1 x57 e56
          have h2 := h2 x57 e56
          refine cm_X4_whole h1 h2 (fun x58 x59 h1 h2 g60 g61 => ?_)
          have h1 := h1 g60 g61
          have h2 := h2 g60 g61
          refine ⟨?_, ?_⟩
          · intro c62
            have h1 := h1.1 c62
            have h2 := h2.1 c62
            intro x64 e63
            have h1 := h1 x64 e63
            have h2 := h2 x64 e63
            intro x66 e65
            have h1 := h1 x66 e65
            have h2 := h2 x66 e65
            refine cm_X4_wordAndWhole h1 h2 (fun x67 x68 h1 h2 g69 g70 => ?_)
            have h1 := h1 g69 g70
            have h2 := h2 g69 g70
            refine ⟨?_, ?_⟩
            · intro c71
              have h1 := h1.1 c71
              have h2 := h2.1 c71
              intro x73 e72
              have h1 := h1 x73 e72
              have h2 := h2 x73 e72
              intro x75 e74
              have h1 := h1 x75 e74
              have h2 := h2 x75 e74
              obtain ⟨b76, e77, h1⟩ := h1
              obtain ⟨b78, e79, h2⟩ := h2
              cases e77.symm.trans e79
              refine ⟨b76, e77, ?_⟩
              obtain ⟨c80, h1⟩ := h1
              obtain ⟨_, h2⟩ := h2
              refine ⟨c80, ?_⟩
              intro x82 e81
              have h1 := h1 x82 e81
              have h2 := h2 x82 e81
              intro x84 e83
              have h1 := h1 x84 e83
              have h2 := h2 x84 e83
              intro x86 e85
              have h1 := h1 x86 e85
              have h2 := h2 x86 e85
              exact hq _ _ h1 h2
            · intro c87
              have h1 := h1.2 c87
              have h2 := h2.2 c87
              exact hq _ _ h1 h2
          · intro c88
            have h1 := h1.2 c88
            have h2 := h2.2 c88
            exact hq _ _ h1 h2
        · intro c89
          have h1 := h1.2 c89
          have h2 := h2.2 c89
          exact hq _ _ h1 h2
    · intro c90
      have h1 := h1.2 c90
      have h2 := h2.2 c90
      exact hq _ _ h1 h2
  · intro c91
    have h1 := h1.2 c91
    have h2 := h2.2 c91
    exact hq _ _ h1 h2
theorem cm_X4_rainLine {Q1 Q2 Q3 : Int32 → HS → Prop} {v0 : Nat} {S : HS} (h1 : P_X4_rainLine v0 Q1 S) (h2 : P_X4_rainLine v0 Q2 S) (hq : ∀ (r : Int32) (T : HS), Q1 r T → Q2 r T → Q3 r T) : P_X4_rainLine v0 Q3 S := cm_X4_rainLine_0 h1 h2 hq
set_option maxRecDepth 20000 in
set_option maxHeartbeats 1000000 in
theorem cm_X4_roadLine_130 {Q1 Q2 Q3 : Int32 → HS → Prop} {v0 : Nat} {S : HS} (h1 : P_X4_roadLine_130 Q1 v0 S) (h2 : P_X4_roadLine_130 Q2 v0 S) (hq : ∀ (r : Int32) (T : HS), Q1 r T → Q2 r T → Q3 r T) : P_X4_roadLine_130 Q3 v0 S := by
  delta P_X4_roadLine_130 at h1 h2 ⊢
  obtain ⟨c1, h1⟩ := h1
  obtain ⟨_, h2⟩ := h2
  refine ⟨c1, ?_⟩
  obtain ⟨b2, e3, h1⟩ := h1
  obtain ⟨b4, e5, h2⟩ := h2
  cases e3.symm.trans e5
  refine ⟨b2, e3, ?_⟩
  obtain ⟨c6, h1⟩ := h1
  obtain ⟨_, h2⟩ := h2
  refine ⟨c6, ?_⟩
  intro x8 e7
  have h1 := h1 x8 e7
  have h2 := h2 x8 e7
  intro x10 e9
  have h1 := h1 x10 e9
  have h2 := h2 x10 e9
  intro x12 e11
  have h1 := h1 x12 e11
  have h2 := h2 x12 e11
  exact hq _ _ h1 h2
set_option maxRecDepth 20000 in
set_option maxHeartbeats 1000000 in
theorem cm_X4_roadLine_0 {Q1 Q2 Q3 : Int32 → HS → Prop} {v0 : Nat} {S : HS} (h1 : P_X4_roadLine_0 Q1 v0 S) (h2 : P_X4_roadLine_0 Q2 v0 S) (hq : ∀ (r : Int32) (T : HS), Q1 r T → Q2 r T → Q3 r T) : P_X4_roadLine_0 Q3 v0 S := by
  delta P_X4_roadLine_0 at h1 h2 ⊢
  obtain ⟨c1, h1⟩ := h1
  obtain ⟨_, h2⟩ := h2
  refine ⟨c1, ?_⟩
  obtain ⟨b2, e3, h1⟩ := h1
  obtain ⟨b4, e5, h2⟩ := h2
  cases e3.symm.trans e5
  refine ⟨b2, e3, ?_⟩
  obtain ⟨c6, h1⟩ := h1
  obtain ⟨_, h2⟩ := h2
  refine ⟨c6, ?_⟩
  obtain ⟨b7, e8, h1⟩ := h1
  obtain ⟨b9, e10, h2⟩ := h2
  cases e8.symm.trans e10
  refine ⟨b7, e8, ?_⟩
  obtain ⟨b11, e12, h1⟩ := h1
  obtain ⟨b13, e14, h2⟩ := h2
  cases e12.symm.trans e14
  refine ⟨b11, e12, ?_⟩
  obtain ⟨c15, h1⟩ := h1
  obtain ⟨_, h2⟩ := h2
  refine ⟨c15, ?_⟩
  intro x17 e16
  have h1 := h1 x17 e16
  have h2 := h2 x17 e16
  obtain ⟨c18, h1⟩ := h1
  obtain ⟨_, h2⟩ := h2
  refine ⟨c18, ?_⟩
  obtain ⟨c19, h1⟩ := h1
  obtain ⟨_, h2⟩ := h2
  refine ⟨c19, ?_⟩
  obtain ⟨b20, e21, h1⟩ := h1
  obtain ⟨b22, e23, h2⟩ := h2
  cases e21.symm.trans e23
  refine ⟨b20, e21, ?_⟩
  refine cm_X4_placeBut h1 h2 (fun x24 x25 h1 h2 g26 g27 => ?_)
  have h1 := h1 g26 g27
  have h2 := h2 g26 g27
  refine ⟨?_, ?_⟩
  · intro c28
    have h1 := h1.1 c28
    have h2 := h2.1 c28
    intro x30 e29
    have h1 := h1 x30 e29
    have h2 := h2 x30 e29
    obtain ⟨c31, h1⟩ := h1
    obtain ⟨_, h2⟩ := h2
    refine ⟨c31, ?_⟩
    intro x33 e32
    have h1 := h1 x33 e32
    have h2 := h2 x33 e32
    refine cm_X4_side h1 h2 (fun x34 x35 h1 h2 g36 g37 => ?_)
    have h1 := h1 g36 g37
    have h2 := h2 g36 g37
    refine ⟨?_, ?_⟩
    · intro c38
      have h1 := h1.1 c38
      have h2 := h2.1 c38
      intro x40 e39
      have h1 := h1 x40 e39
      have h2 := h2 x40 e39
      intro x42 e41
      have h1 := h1 x42 e41
      have h2 := h2 x42 e41
      refine cm_X4_whole h1 h2 (fun x43 x44 h1 h2 g45 g46 => ?_)
      have h1 := h1 g45 g46
      have h2 := h2 g45 g46
      refine ⟨?_, ?_⟩
      · intro c47
        have h1 := h1.1 c47
        have h2 := h2.1 c47
        intro x49 e48
        have h1 := h1 x49 e48
        have h2 := h2 x49 e48
        intro x51 e50
        have h1 := h1 x51 e50
        have h2 := h2 x51 e50
        intro x53 e52
        have h1 := h1 x53 e52
        have h2 := h2 x53 e52
        refine cm_X4_placeBut h1 h2 (fun x54 x55 h1 h2 g56 g57 => ?_)
        have h1 := h1 g56 g57
        have h2 := h2 g56 g57
        refine ⟨?_, ?_⟩
        · intro c58
          have h1 := h1.1 c58
          have h2 := h2.1 c58
          intro x60 e59
          have h1 := h1 x60 e59
          have h2 := h2 x60 e59
          intro x62 e61
          have h1 := h1 x62 e61
          have h2 := h2 x62 e61
          intro x64 e63
          have h1 := h1 x64 e63
          have h2 := h2 x64 e63
          refine cm_X4_is h1 h2 (fun x65 x66 h1 h2 g67 g68 => ?_)
          have h1 := h1 g67 g68
          have h2 := h2 g67 g68
          refine ⟨?_, ?_⟩
          · intro c69
            have h1 := h1.1 c69
            have h2 := h2.1 c69
            exact cm_X4_roadLine_130 h1 h2 hq
          · intro c70
            have h1 := h1.2 c70
            have h2 := h2.2 c70
            intro x72 e71
            have h1 := h1 x72 e71
            have h2 := h2 x72 e71
            refine cm_X4_wordAndWhole h1 h2 (fun x73 x74 h1 h2 g75 g76 => ?_)
            have h1 := h1 g75 g76
            have h2 := h2 g75 g76
            refine ⟨?_, ?_⟩
            · intro c77
              have h1 := h1.1 c77
              have h2 := h2.1 c77
              intro x79 e78
              have h1 := h1 x79 e78
              have h2 := h2 x79 e78
              intro x81 e80
              have h1 := h1 x81 e80
              have h2 := h2 x81 e80
              exact cm_X4_roadLine_130 h1 h2 hq
            · intro c82
              have h1 := h1.2 c82
              have h2 := h2.2 c82
              exact hq _ _ h1 h2
        · intro c83
          have h1 := h1.2 c83
          have h2 := h2.2 c83
          exact hq _ _ h1 h2
      · intro c84
        have h1 := h1.2 c84
        have h2 := h2.2 c84
        exact hq _ _ h1 h2
    · intro c85
      have h1 := h1.2 c85
      have h2 := h2.2 c85
      exact hq _ _ h1 h2
  · intro c86
    have h1 := h1.2 c86
    have h2 := h2.2 c86
    exact hq _ _ h1 h2
theorem cm_X4_roadLine {Q1 Q2 Q3 : Int32 → HS → Prop} {v0 : Nat} {S : HS} (h1 : P_X4_roadLine v0 Q1 S) (h2 : P_X4_roadLine v0 Q2 S) (hq : ∀ (r : Int32) (T : HS), Q1 r T → Q2 r T → Q3 r T) : P_X4_roadLine v0 Q3 S := cm_X4_roadLine_0 h1 h2 hq
set_option maxRecDepth 20000 in
set_option maxHeartbeats 1000000 in
theorem cm_X4_sign_0 {Q1 Q2 Q3 : Int32 → HS → Prop} {v0 : Nat} {v1 : Int32} {S : HS} (h1 : P_X4_sign_0 Q1 v0 v1 S) (h2 : P_X4_sign_0 Q2 v0 v1 S) (hq : ∀ (r : Int32) (T : HS), Q1 r T → Q2 r T → Q3 r T) : P_X4_sign_0 Q3 v0 v1 S := by
  delta P_X4_sign_0 at h1 h2 ⊢
  obtain ⟨c1, h1⟩ := h1
  obtain ⟨_, h2⟩ := h2
  refine ⟨c1, ?_⟩
  intro x3 e2
  have h1 := h1 x3 e2
  have h2 := h2 x3 e2
  refine ⟨?_, ?_⟩
  · intro c4
    have h1 := h1.1 c4
    have h2 := h2.1 c4
    refine cm_X4_next h1 h2 (fun x5 h1 h2 g6 => ?_)
    have h1 := h1 g6
    have h2 := h2 g6
    exact hq _ _ h1 h2
  · intro c7
    have h1 := h1.2 c7
    have h2 := h2.2 c7
    refine cm_X4_fail h1 h2 (fun x8 x9 h1 h2 g10 g11 => ?_)
    have h1 := h1 g10 g11
    have h2 := h2 g10 g11
    obtain ⟨c12, h1⟩ := h1
    obtain ⟨_, h2⟩ := h2
    refine ⟨c12, ?_⟩
    exact hq _ _ h1 h2
theorem cm_X4_sign {Q1 Q2 Q3 : Int32 → HS → Prop} {v0 : Nat} {v1 : Int32} {S : HS} (h1 : P_X4_sign v0 v1 Q1 S) (h2 : P_X4_sign v0 v1 Q2 S) (hq : ∀ (r : Int32) (T : HS), Q1 r T → Q2 r T → Q3 r T) : P_X4_sign v0 v1 Q3 S := cm_X4_sign_0 h1 h2 hq
set_option maxRecDepth 20000 in
set_option maxHeartbeats 1000000 in
theorem cm_X4_someWalker_0 {Q1 Q2 Q3 : Int32 → HS → Prop} {v0 : Nat} {S : HS} (h1 : P_X4_someWalker_0 Q1 v0 S) (h2 : P_X4_someWalker_0 Q2 v0 S) (hq : ∀ (r : Int32) (T : HS), Q1 r T → Q2 r T → Q3 r T) : P_X4_someWalker_0 Q3 v0 S := by
  delta P_X4_someWalker_0 at h1 h2 ⊢
  obtain ⟨c1, h1⟩ := h1
  obtain ⟨_, h2⟩ := h2
  refine ⟨c1, ?_⟩
  refine cm_X4_canBeName h1 h2 (fun x2 x3 h1 h2 g4 g5 => ?_)
  have h1 := h1 g4 g5
  have h2 := h2 g4 g5
  refine ⟨?_, ?_⟩
  · intro c6
    have h1 := h1.1 c6
    have h2 := h2.1 c6
    refine cm_X4_findName h1 h2 (fun x7 x8 h1 h2 g9 => ?_)
    have h1 := h1 g9
    have h2 := h2 g9
    refine ⟨?_, ?_⟩
    · intro c10
      have h1 := h1.1 c10
      have h2 := h2.1 c10
      intro x12 e11
      have h1 := h1 x12 e11
      have h2 := h2 x12 e11
      intro x14 e13
      have h1 := h1 x14 e13
      have h2 := h2 x14 e13
      refine cm_X4_next h1 h2 (fun x15 h1 h2 g16 => ?_)
      have h1 := h1 g16
      have h2 := h2 g16
      exact hq _ _ h1 h2
    · intro c17
      have h1 := h1.2 c17
      have h2 := h2.2 c17
      refine cm_X4_fail h1 h2 (fun x18 x19 h1 h2 g20 g21 => ?_)
      have h1 := h1 g20 g21
      have h2 := h2 g20 g21
      obtain ⟨c22, h1⟩ := h1
      obtain ⟨_, h2⟩ := h2
      refine ⟨c22, ?_⟩
      exact hq _ _ h1 h2
  · intro c23
    have h1 := h1.2 c23
    have h2 := h2.2 c23
    refine cm_X4_fail h1 h2 (fun x24 x25 h1 h2 g26 g27 => ?_)
    have h1 := h1 g26 g27
    have h2 := h2 g26 g27
    obtain ⟨c28, h1⟩ := h1
    obtain ⟨_, h2⟩ := h2
    refine ⟨c28, ?_⟩
    exact hq _ _ h1 h2
theorem cm_X4_someWalker {Q1 Q2 Q3 : Int32 → HS → Prop} {v0 : Nat} {S : HS} (h1 : P_X4_someWalker v0 Q1 S) (h2 : P_X4_someWalker v0 Q2 S) (hq : ∀ (r : Int32) (T : HS), Q1 r T → Q2 r T → Q3 r T) : P_X4_someWalker v0 Q3 S := cm_X4_someWalker_0 h1 h2 hq
set_option maxRecDepth 20000 in
set_option maxHeartbeats 1000000 in
theorem cm_X4_seenLine_47 {Q1 Q2 Q3 : Int32 → HS → Prop} {X30_1 X30_2 X30_3 : Nat → Int32 → HS → Prop} {v0 : Nat} {v1 : Int32} {S : HS} (h1 : P_X4_seenLine_47 Q1 X30_1 v0 v1 S) (h2 : P_X4_seenLine_47 Q2 X30_2 v0 v1 S) (hq : ∀ (r : Int32) (T : HS), Q1 r T → Q2 r T → Q3 r T) (hX30 : ∀ (u0 : Nat) (u1 : Int32) (u2 : HS), X30_1 u0 u1 u2 → X30_2 u0 u1 u2 → X30_3 u0 u1 u2) : P_X4_seenLine_47 Q3 X30_3 v0 v1 S := by
  delta P_X4_seenLine_47 at h1 h2 ⊢
  obtain ⟨c1, h1⟩ := h1
  obtain ⟨_, h2⟩ := h2
  refine ⟨c1, ?_⟩
  refine cm_X4_whole h1 h2 (fun x2 x3 h1 h2 g4 g5 => ?_)
  have h1 := h1 g4 g5
  have h2 := h2 g4 g5
  refine ⟨?_, ?_⟩
  · intro c6
    have h1 := h1.1 c6
    have h2 := h2.1 c6
    obtain ⟨b7, e8, h1⟩ := h1
    obtain ⟨b9, e10, h2⟩ := h2
    cases e8.symm.trans e10
    refine ⟨b7, e8, ?_⟩
    obtain ⟨c11, h1⟩ := h1
    obtain ⟨_, h2⟩ := h2
    refine ⟨c11, ?_⟩
    obtain ⟨b12, e13, h1⟩ := h1
    obtain ⟨b14, e15, h2⟩ := h2
    cases e13.symm.trans e15
    refine ⟨b12, e13, ?_⟩
    obtain ⟨b16, e17, h1⟩ := h1
    obtain ⟨b18, e19, h2⟩ := h2
    cases e17.symm.trans e19
    refine ⟨b16, e17, ?_⟩
    obtain ⟨c20, h1⟩ := h1
    obtain ⟨_, h2⟩ := h2
    refine ⟨c20, ?_⟩
    intro x22 e21
    have h1 := h1 x22 e21
    have h2 := h2 x22 e21
    intro x24 e23
    have h1 := h1 x24 e23
    have h2 := h2 x24 e23
    obtain ⟨c25, h1⟩ := h1
    obtain ⟨_, h2⟩ := h2
    refine ⟨c25, ?_⟩
    obtain ⟨c26, h1⟩ := h1
    obtain ⟨_, h2⟩ := h2
    refine ⟨c26, ?_⟩
    intro x28 e27
    have h1 := h1 x28 e27
    have h2 := h2 x28 e27
    intro x30 e29
    have h1 := h1 x30 e29
    have h2 := h2 x30 e29
    exact hX30 _ _ _ h1 h2
  · intro c31
    have h1 := h1.2 c31
    have h2 := h2.2 c31
    exact hq _ _ h1 h2
set_option maxRecDepth 20000 in
set_option maxHeartbeats 1000000 in
theorem cmB_X4_seenLine_30 {Q1 Q2 Q3 : Int32 → HS → Prop} {X30_1 X30_2 X30_3 : Nat → Int32 → HS → Prop} {v0 : Nat} {v1 : Int32} {S : HS} (h1 : B_X4_seenLine_30 Q1 X30_1 v0 v1 S) (h2 : B_X4_seenLine_30 Q2 X30_2 v0 v1 S) (hq : ∀ (r : Int32) (T : HS), Q1 r T → Q2 r T → Q3 r T) (hX30 : ∀ (u0 : Nat) (u1 : Int32) (u2 : HS), X30_1 u0 u1 u2 → X30_2 u0 u1 u2 → X30_3 u0 u1 u2) : B_X4_seenLine_30 Q3 X30_3 v0 v1 S := by
  delta B_X4_seenLine_30 at h1 h2 ⊢
  refine ⟨?_, ?_⟩
  · intro c1
    have h1 := h1.1 c1
    have h2 := h2.1 c1
    obtain ⟨c2, h1⟩ := h1
    obtain ⟨_, h2⟩ := h2
    refine ⟨c2, ?_⟩
    obtain ⟨b3, e4, h1⟩ := h1
    obtain ⟨b5, e6, h2⟩ := h2
    cases e4.symm.trans e6
    refine ⟨b3, e4, ?_⟩
    obtain ⟨c7, h1⟩ := h1
    obtain ⟨_, h2⟩ := h2
    refine ⟨c7, ?_⟩
    intro x9 e8
    have h1 := h1 x9 e8
    have h2 := h2 x9 e8
    intro x11 e10
    have h1 := h1 x11 e10
    have h2 := h2 x11 e10
    intro x13 e12
    have h1 := h1 x13 e12
    have h2 := h2 x13 e12
    exact hq _ _ h1 h2
  · intro c14
    have h1 := h1.2 c14
    have h2 := h2.2 c14
    refine ⟨?_, ?_⟩
    · intro c15
      have h1 := h1.1 c15
      have h2 := h2.1 c15
      exact cm_X4_seenLine_47 h1 h2 hq hX30
    · intro c16
      have h1 := h1.2 c16
      have h2 := h2.2 c16
      obtain ⟨c17, h1⟩ := h1
      obtain ⟨_, h2⟩ := h2
      refine ⟨c17, ?_⟩
      refine cm_X4_sign h1 h2 (fun x18 x19 h1 h2 g20 g21 => ?_)
      have h1 := h1 g20 g21
      have h2 := h2 g20 g21
      refine ⟨?_, ?_⟩
      · intro c22
        have h1 := h1.1 c22
        have h2 := h2.1 c22
        exact hq _ _ h1 h2
      · intro c23
        have h1 := h1.2 c23
        have h2 := h2.2 c23
        exact cm_X4_seenLine_47 h1 h2 hq hX30
theorem fd_X4_seenLine_30 {Q : Int32 → HS → Prop} {v0 : Nat} {v1 : Int32} {S : HS} (h : B_X4_seenLine_30 Q (P_X4_seenLine_30 Q) v0 v1 S) : P_X4_seenLine_30 Q v0 v1 S := fun X hX => hX v0 v1 S (cmB_X4_seenLine_30 h h (fun _ _ a _ => a) (fun _ _ _ hp _ => hp X hX))
theorem uf_X4_seenLine_30 {Q : Int32 → HS → Prop} {v0 : Nat} {v1 : Int32} {S : HS} (h : P_X4_seenLine_30 Q v0 v1 S) : B_X4_seenLine_30 Q (P_X4_seenLine_30 Q) v0 v1 S := h (fun v0 v1 S => B_X4_seenLine_30 Q (P_X4_seenLine_30 Q) v0 v1 S) (fun v0 v1 S hB => cmB_X4_seenLine_30 hB hB (fun _ _ a _ => a) (fun _ _ _ hb _ => fd_X4_seenLine_30 hb))
theorem cm_X4_seenLine_30 {Q1 Q2 Q3 : Int32 → HS → Prop} {v0 : Nat} {v1 : Int32} {S : HS} (h1 : P_X4_seenLine_30 Q1 v0 v1 S) (h2 : P_X4_seenLine_30 Q2 v0 v1 S) (hq : ∀ (r : Int32) (T : HS), Q1 r T → Q2 r T → Q3 r T) : P_X4_seenLine_30 Q3 v0 v1 S := h1 (fun v0 v1 S => P_X4_seenLine_30 Q2 v0 v1 S → P_X4_seenLine_30 Q3 v0 v1 S) (fun v0 v1 S hB hp => fd_X4_seenLine_30 (cmB_X4_seenLine_30 hB (uf_X4_seenLine_30 hp) hq (fun _ _ _ hx hp => hx hp))) h2
set_option maxRecDepth 20000 in
set_option maxHeartbeats 1000000 in
theorem cm_X4_seenLine_0 {Q1 Q2 Q3 : Int32 → HS → Prop} {v0 : Nat} {S : HS} (h1 : P_X4_seenLine_0 Q1 v0 S) (h2 : P_X4_seenLine_0 Q2 v0 S) (hq : ∀ (r : Int32) (T : HS), Q1 r T → Q2 r T → Q3 r T) : P_X4_seenLine_0 Q3 v0 S := by
  delta P_X4_seenLine_0 at h1 h2 ⊢
  obtain ⟨c1, h1⟩ := h1
  obtain ⟨_, h2⟩ := h2
  refine ⟨c1, ?_⟩
  refine cm_X4_someWalker h1 h2 (fun x2 x3 h1 h2 g4 g5 => ?_)
  have h1 := h1 g4 g5
  have h2 := h2 g4 g5
  refine ⟨?_, ?_⟩
  · intro c6
    have h1 := h1.1 c6
    have h2 := h2.1 c6
    obtain ⟨b7, e8, h1⟩ := h1
    obtain ⟨b9, e10, h2⟩ := h2
    cases e8.symm.trans e10
    refine ⟨b7, e8, ?_⟩
    obtain ⟨c11, h1⟩ := h1
    obtain ⟨_, h2⟩ := h2
    refine ⟨c11, ?_⟩
    obtain ⟨b12, e13, h1⟩ := h1
    obtain ⟨b14, e15, h2⟩ := h2
    cases e13.symm.trans e15
    refine ⟨b12, e13, ?_⟩
    obtain ⟨b16, e17, h1⟩ := h1
    obtain ⟨b18, e19, h2⟩ := h2
    cases e17.symm.trans e19
    refine ⟨b16, e17, ?_⟩
    obtain ⟨c20, h1⟩ := h1
    obtain ⟨_, h2⟩ := h2
    refine ⟨c20, ?_⟩
    intro x22 e21
    have h1 := h1 x22 e21
    have h2 := h2 x22 e21
    intro x24 e23
    have h1 := h1 x24 e23
    have h2 := h2 x24 e23
    obtain ⟨c25, h1⟩ := h1
    obtain ⟨_, h2⟩ := h2
    refine ⟨c25, ?_⟩
    obtain ⟨c26, h1⟩ := h1
    obtain ⟨_, h2⟩ := h2
    refine ⟨c26, ?_⟩
    intro x28 e27
    have h1 := h1 x28 e27
    have h2 := h2 x28 e27
    exact cm_X4_seenLine_30 h1 h2 hq
  · intro c29
    have h1 := h1.2 c29
    have h2 := h2.2 c29
    exact hq _ _ h1 h2
theorem cm_X4_seenLine {Q1 Q2 Q3 : Int32 → HS → Prop} {v0 : Nat} {S : HS} (h1 : P_X4_seenLine v0 Q1 S) (h2 : P_X4_seenLine v0 Q2 S) (hq : ∀ (r : Int32) (T : HS), Q1 r T → Q2 r T → Q3 r T) : P_X4_seenLine v0 Q3 S := cm_X4_seenLine_0 h1 h2 hq
set_option maxRecDepth 20000 in
set_option maxHeartbeats 1000000 in
theorem cm_X4_walkerLine_0 {Q1 Q2 Q3 : Int32 → HS → Prop} {v0 : Nat} {S : HS} (h1 : P_X4_walkerLine_0 Q1 v0 S) (h2 : P_X4_walkerLine_0 Q2 v0 S) (hq : ∀ (r : Int32) (T : HS), Q1 r T → Q2 r T → Q3 r T) : P_X4_walkerLine_0 Q3 v0 S := by
  delta P_X4_walkerLine_0 at h1 h2 ⊢
  obtain ⟨c1, h1⟩ := h1
  obtain ⟨_, h2⟩ := h2
  refine ⟨c1, ?_⟩
  obtain ⟨b2, e3, h1⟩ := h1
  obtain ⟨b4, e5, h2⟩ := h2
  cases e3.symm.trans e5
  refine ⟨b2, e3, ?_⟩
  obtain ⟨c6, h1⟩ := h1
  obtain ⟨_, h2⟩ := h2
  refine ⟨c6, ?_⟩
  obtain ⟨b7, e8, h1⟩ := h1
  obtain ⟨b9, e10, h2⟩ := h2
  cases e8.symm.trans e10
  refine ⟨b7, e8, ?_⟩
  obtain ⟨b11, e12, h1⟩ := h1
  obtain ⟨b13, e14, h2⟩ := h2
  cases e12.symm.trans e14
  refine ⟨b11, e12, ?_⟩
  obtain ⟨c15, h1⟩ := h1
  obtain ⟨_, h2⟩ := h2
  refine ⟨c15, ?_⟩
  intro x17 e16
  have h1 := h1 x17 e16
  have h2 := h2 x17 e16
  obtain ⟨c18, h1⟩ := h1
  obtain ⟨_, h2⟩ := h2
  refine ⟨c18, ?_⟩
  obtain ⟨c19, h1⟩ := h1
  obtain ⟨_, h2⟩ := h2
  refine ⟨c19, ?_⟩
  obtain ⟨b20, e21, h1⟩ := h1
  obtain ⟨b22, e23, h2⟩ := h2
  cases e21.symm.trans e23
  refine ⟨b20, e21, ?_⟩
  obtain ⟨b24, e25, h1⟩ := h1
  obtain ⟨b26, e27, h2⟩ := h2
  cases e25.symm.trans e27
  refine ⟨b24, e25, ?_⟩
  obtain ⟨c28, h1⟩ := h1
  obtain ⟨_, h2⟩ := h2
  refine ⟨c28, ?_⟩
  intro x30 e29
  have h1 := h1 x30 e29
  have h2 := h2 x30 e29
  refine cm_X4_newName h1 h2 (fun x31 x32 h1 h2 g33 g34 => ?_)
  have h1 := h1 g33 g34
  have h2 := h2 g33 g34
  refine ⟨?_, ?_⟩
  · intro c35
    have h1 := h1.1 c35
    have h2 := h2.1 c35
    exact hq _ _ h1 h2
  · intro c36
    have h1 := h1.2 c36
    have h2 := h2.2 c36
    refine cm_X4_kindOf h1 h2 (fun x37 x38 h1 h2 g39 g40 => ?_)
    have h1 := h1 g39 g40
    have h2 := h2 g39 g40
    refine ⟨?_, ?_⟩
    · intro c41
      have h1 := h1.1 c41
      have h2 := h2.1 c41
      exact hq _ _ h1 h2
    · intro c42
      have h1 := h1.2 c42
      have h2 := h2.2 c42
      refine cm_X4_bodyOf h1 h2 (fun x43 x44 h1 h2 g45 g46 => ?_)
      have h1 := h1 g45 g46
      have h2 := h2 g45 g46
      refine ⟨?_, ?_⟩
      · intro c47
        have h1 := h1.1 c47
        have h2 := h2.1 c47
        refine cm_X4_wordAndWhole h1 h2 (fun x48 x49 h1 h2 g50 g51 => ?_)
        have h1 := h1 g50 g51
        have h2 := h2 g50 g51
        refine ⟨?_, ?_⟩
        · intro c52
          have h1 := h1.1 c52
          have h2 := h2.1 c52
          intro x54 e53
          have h1 := h1 x54 e53
          have h2 := h2 x54 e53
          obtain ⟨c55, h1⟩ := h1
          obtain ⟨_, h2⟩ := h2
          refine ⟨c55, ?_⟩
          intro x57 e56
          have h1 := h1 x57 e56
          have h2 := h2 x57 e56
          intro x59 e58
          have h1 := h1 x59 e58
          have h2 := h2 x59 e58
          refine cm_X4_wordAndWhole h1 h2 (fun x60 x61 h1 h2 g62 g63 => ?_)
          have h1 := h1 g62 g63
          have h2 := h2 g62 g63
          refine ⟨?_, ?_⟩
          · intro c64
            have h1 := h1.1 c64
            have h2 := h2.1 c64
            intro x66 e65
            have h1 := h1 x66 e65
            have h2 := h2 x66 e65
            intro x68 e67
            have h1 := h1 x68 e67
            have h2 := h2 x68 e67
            obtain ⟨b69, e70, h1⟩ := h1
            obtain ⟨b71, e72, h2⟩ := h2
            cases e70.symm.trans e72
            refine ⟨b69, e70, ?_⟩
            obtain ⟨c73, h1⟩ := h1
            obtain ⟨_, h2⟩ := h2
            refine ⟨c73, ?_⟩
            intro x75 e74
            have h1 := h1 x75 e74
            have h2 := h2 x75 e74
            intro x77 e76
            have h1 := h1 x77 e76
            have h2 := h2 x77 e76
            intro x79 e78
            have h1 := h1 x79 e78
            have h2 := h2 x79 e78
            exact hq _ _ h1 h2
          · intro c80
            have h1 := h1.2 c80
            have h2 := h2.2 c80
            exact hq _ _ h1 h2
        · intro c81
          have h1 := h1.2 c81
          have h2 := h2.2 c81
          exact hq _ _ h1 h2
      · intro c82
        have h1 := h1.2 c82
        have h2 := h2.2 c82
        exact hq _ _ h1 h2
theorem cm_X4_walkerLine {Q1 Q2 Q3 : Int32 → HS → Prop} {v0 : Nat} {S : HS} (h1 : P_X4_walkerLine v0 Q1 S) (h2 : P_X4_walkerLine v0 Q2 S) (hq : ∀ (r : Int32) (T : HS), Q1 r T → Q2 r T → Q3 r T) : P_X4_walkerLine v0 Q3 S := cm_X4_walkerLine_0 h1 h2 hq
set_option maxRecDepth 20000 in
set_option maxHeartbeats 1000000 in
theorem cm_X4_worldLine_0 {Q1 Q2 Q3 : Int32 → HS → Prop} {v0 : Nat} {S : HS} (h1 : P_X4_worldLine_0 Q1 v0 S) (h2 : P_X4_worldLine_0 Q2 v0 S) (hq : ∀ (r : Int32) (T : HS), Q1 r T → Q2 r T → Q3 r T) : P_X4_worldLine_0 Q3 v0 S := by
  delta P_X4_worldLine_0 at h1 h2 ⊢
  obtain ⟨c1, h1⟩ := h1
  obtain ⟨_, h2⟩ := h2
  refine ⟨c1, ?_⟩
  obtain ⟨b2, e3, h1⟩ := h1
  obtain ⟨b4, e5, h2⟩ := h2
  cases e3.symm.trans e5
  refine ⟨b2, e3, ?_⟩
  obtain ⟨c6, h1⟩ := h1
  obtain ⟨_, h2⟩ := h2
  refine ⟨c6, ?_⟩
  refine cm_X8_isTold h1 h2 (fun x7 x8 h1 h2 g9 g10 => ?_)
  have h1 := h1 g9 g10
  have h2 := h2 g9 g10
  refine ⟨?_, ?_⟩
  · intro c11
    have h1 := h1.1 c11
    have h2 := h2.1 c11
    refine cm_X4_next h1 h2 (fun x12 h1 h2 g13 => ?_)
    have h1 := h1 g13
    have h2 := h2 g13
    refine cm_X4_wordAndWhole h1 h2 (fun x14 x15 h1 h2 g16 g17 => ?_)
    have h1 := h1 g16 g17
    have h2 := h2 g16 g17
    refine ⟨?_, ?_⟩
    · intro c18
      have h1 := h1.1 c18
      have h2 := h2.1 c18
      obtain ⟨b19, e20, h1⟩ := h1
      obtain ⟨b21, e22, h2⟩ := h2
      cases e20.symm.trans e22
      refine ⟨b19, e20, ?_⟩
      intro x24 e23
      have h1 := h1 x24 e23
      have h2 := h2 x24 e23
      obtain ⟨c25, h1⟩ := h1
      obtain ⟨_, h2⟩ := h2
      refine ⟨c25, ?_⟩
      intro x27 e26
      have h1 := h1 x27 e26
      have h2 := h2 x27 e26
      exact hq _ _ h1 h2
    · intro c28
      have h1 := h1.2 c28
      have h2 := h2.2 c28
      exact hq _ _ h1 h2
  · intro c29
    have h1 := h1.2 c29
    have h2 := h2.2 c29
    refine cm_X4_fail h1 h2 (fun x30 x31 h1 h2 g32 g33 => ?_)
    have h1 := h1 g32 g33
    have h2 := h2 g32 g33
    obtain ⟨c34, h1⟩ := h1
    obtain ⟨_, h2⟩ := h2
    refine ⟨c34, ?_⟩
    exact hq _ _ h1 h2
theorem cm_X4_worldLine {Q1 Q2 Q3 : Int32 → HS → Prop} {v0 : Nat} {S : HS} (h1 : P_X4_worldLine v0 Q1 S) (h2 : P_X4_worldLine v0 Q2 S) (hq : ∀ (r : Int32) (T : HS), Q1 r T → Q2 r T → Q3 r T) : P_X4_worldLine v0 Q3 S := cm_X4_worldLine_0 h1 h2 hq
set_option maxRecDepth 20000 in
set_option maxHeartbeats 1000000 in
theorem cm_X4_read_280 {Q1 Q2 Q3 : Int32 → HS → Prop} {v0 : Nat} {S : HS} (h1 : P_X4_read_280 Q1 v0 S) (h2 : P_X4_read_280 Q2 v0 S) (hq : ∀ (r : Int32) (T : HS), Q1 r T → Q2 r T → Q3 r T) : P_X4_read_280 Q3 v0 S := by
  delta P_X4_read_280 at h1 h2 ⊢
  obtain ⟨c1, h1⟩ := h1
  obtain ⟨_, h2⟩ := h2
  refine ⟨c1, ?_⟩
  refine cm_X4_fail h1 h2 (fun x2 x3 h1 h2 g4 g5 => ?_)
  have h1 := h1 g4 g5
  have h2 := h2 g4 g5
  refine ⟨?_, ?_⟩
  · intro c6
    have h1 := h1.1 c6
    have h2 := h2.1 c6
    exact hq _ _ h1 h2
  · intro c7
    have h1 := h1.2 c7
    have h2 := h2.2 c7
    exact hq _ _ h1 h2
set_option maxRecDepth 20000 in
set_option maxHeartbeats 1000000 in
theorem cm_X4_read_295 {Q1 Q2 Q3 : Int32 → HS → Prop} {X8_1 X8_2 X8_3 : Nat → Int32 → HS → Prop} {v0 : Nat} {v3 : Int32} {v4 : Int32} {S : HS} (h1 : P_X4_read_295 Q1 X8_1 v0 v3 v4 S) (h2 : P_X4_read_295 Q2 X8_2 v0 v3 v4 S) (hq : ∀ (r : Int32) (T : HS), Q1 r T → Q2 r T → Q3 r T) (hX8 : ∀ (u0 : Nat) (u1 : Int32) (u2 : HS), X8_1 u0 u1 u2 → X8_2 u0 u1 u2 → X8_3 u0 u1 u2) : P_X4_read_295 Q3 X8_3 v0 v3 v4 S := by
  delta P_X4_read_295 at h1 h2 ⊢
  refine ⟨?_, ?_⟩
  · intro c1
    have h1 := h1.1 c1
    have h2 := h2.1 c1
    exact hq _ _ h1 h2
  · intro c2
    have h1 := h1.2 c2
    have h2 := h2.2 c2
    obtain ⟨c3, h1⟩ := h1
    obtain ⟨_, h2⟩ := h2
    refine ⟨c3, ?_⟩
    refine cm_X4_sign h1 h2 (fun x4 x5 h1 h2 g6 g7 => ?_)
    have h1 := h1 g6 g7
    have h2 := h2 g6 g7
    refine ⟨?_, ?_⟩
    · intro c8
      have h1 := h1.1 c8
      have h2 := h2.1 c8
      intro x10 e9
      have h1 := h1 x10 e9
      have h2 := h2 x10 e9
      exact hX8 _ _ _ h1 h2
    · intro c11
      have h1 := h1.2 c11
      have h2 := h2.2 c11
      exact hq _ _ h1 h2
set_option maxRecDepth 20000 in
set_option maxHeartbeats 1000000 in
theorem cm_X4_read_248 {Q1 Q2 Q3 : Int32 → HS → Prop} {X8_1 X8_2 X8_3 : Nat → Int32 → HS → Prop} {v0 : Nat} {v3 : Int32} {v4 : Int32} {S : HS} (h1 : P_X4_read_248 Q1 X8_1 v0 v3 v4 S) (h2 : P_X4_read_248 Q2 X8_2 v0 v3 v4 S) (hq : ∀ (r : Int32) (T : HS), Q1 r T → Q2 r T → Q3 r T) (hX8 : ∀ (u0 : Nat) (u1 : Int32) (u2 : HS), X8_1 u0 u1 u2 → X8_2 u0 u1 u2 → X8_3 u0 u1 u2) : P_X4_read_248 Q3 X8_3 v0 v3 v4 S := by
  delta P_X4_read_248 at h1 h2 ⊢
  refine ⟨?_, ?_⟩
  · intro c1
    have h1 := h1.1 c1
    have h2 := h2.1 c1
    exact cm_X4_read_295 h1 h2 hq hX8
  · intro c2
    have h1 := h1.2 c2
    have h2 := h2.2 c2
    obtain ⟨c3, h1⟩ := h1
    obtain ⟨_, h2⟩ := h2
    refine ⟨c3, ?_⟩
    intro x5 e4
    have h1 := h1 x5 e4
    have h2 := h2 x5 e4
    refine ⟨?_, ?_⟩
    · intro c6
      have h1 := h1.1 c6
      have h2 := h2.1 c6
      exact cm_X4_read_295 h1 h2 hq hX8
    · intro c7
      have h1 := h1.2 c7
      have h2 := h2.2 c7
      obtain ⟨b8, e9, h1⟩ := h1
      obtain ⟨b10, e11, h2⟩ := h2
      cases e9.symm.trans e11
      refine ⟨b8, e9, ?_⟩
      obtain ⟨c12, h1⟩ := h1
      obtain ⟨_, h2⟩ := h2
      refine ⟨c12, ?_⟩
      intro x14 e13
      have h1 := h1 x14 e13
      have h2 := h2 x14 e13
      refine ⟨?_, ?_⟩
      · intro c15
        have h1 := h1.1 c15
        have h2 := h2.1 c15
        exact cm_X4_read_280 h1 h2 hq
      · intro c16
        have h1 := h1.2 c16
        have h2 := h2.2 c16
        obtain ⟨b17, e18, h1⟩ := h1
        obtain ⟨b19, e20, h2⟩ := h2
        cases e18.symm.trans e20
        refine ⟨b17, e18, ?_⟩
        obtain ⟨c21, h1⟩ := h1
        obtain ⟨_, h2⟩ := h2
        refine ⟨c21, ?_⟩
        intro x23 e22
        have h1 := h1 x23 e22
        have h2 := h2 x23 e22
        refine ⟨?_, ?_⟩
        · intro c24
          have h1 := h1.1 c24
          have h2 := h2.1 c24
          exact hq _ _ h1 h2
        · intro c25
          have h1 := h1.2 c25
          have h2 := h2.2 c25
          exact cm_X4_read_280 h1 h2 hq
set_option maxRecDepth 20000 in
set_option maxHeartbeats 1000000 in
theorem cm_X4_read_70 {Q1 Q2 Q3 : Int32 → HS → Prop} {X8_1 X8_2 X8_3 : Nat → Int32 → HS → Prop} {v0 : Nat} {v3 : Int32} {s0 : Int32} {S : HS} (h1 : P_X4_read_70 Q1 X8_1 v0 v3 s0 S) (h2 : P_X4_read_70 Q2 X8_2 v0 v3 s0 S) (hq : ∀ (r : Int32) (T : HS), Q1 r T → Q2 r T → Q3 r T) (hX8 : ∀ (u0 : Nat) (u1 : Int32) (u2 : HS), X8_1 u0 u1 u2 → X8_2 u0 u1 u2 → X8_3 u0 u1 u2) : P_X4_read_70 Q3 X8_3 v0 v3 s0 S := by
  delta P_X4_read_70 at h1 h2 ⊢
  exact cm_X4_read_248 h1 h2 hq hX8
set_option maxRecDepth 20000 in
set_option maxHeartbeats 1000000 in
theorem cm_X4_read_69 {Q1 Q2 Q3 : Int32 → HS → Prop} {X8_1 X8_2 X8_3 : Nat → Int32 → HS → Prop} {v0 : Nat} {v3 : Int32} {S : HS} (h1 : P_X4_read_69 Q1 X8_1 v0 v3 S) (h2 : P_X4_read_69 Q2 X8_2 v0 v3 S) (hq : ∀ (r : Int32) (T : HS), Q1 r T → Q2 r T → Q3 r T) (hX8 : ∀ (u0 : Nat) (u1 : Int32) (u2 : HS), X8_1 u0 u1 u2 → X8_2 u0 u1 u2 → X8_3 u0 u1 u2) : P_X4_read_69 Q3 X8_3 v0 v3 S := by
  delta P_X4_read_69 at h1 h2 ⊢
  exact cm_X4_read_70 h1 h2 hq hX8
set_option maxRecDepth 20000 in
set_option maxHeartbeats 1000000 in
theorem cm_X4_read_112 {Q1 Q2 Q3 : Int32 → HS → Prop} {X8_1 X8_2 X8_3 : Nat → Int32 → HS → Prop} {v0 : Nat} {v3 : Int32} {s0 : Int32} {S : HS} (h1 : P_X4_read_112 Q1 X8_1 v0 v3 s0 S) (h2 : P_X4_read_112 Q2 X8_2 v0 v3 s0 S) (hq : ∀ (r : Int32) (T : HS), Q1 r T → Q2 r T → Q3 r T) (hX8 : ∀ (u0 : Nat) (u1 : Int32) (u2 : HS), X8_1 u0 u1 u2 → X8_2 u0 u1 u2 → X8_3 u0 u1 u2) : P_X4_read_112 Q3 X8_3 v0 v3 s0 S := by
  delta P_X4_read_112 at h1 h2 ⊢
  exact cm_X4_read_248 h1 h2 hq hX8
set_option maxRecDepth 20000 in
set_option maxHeartbeats 1000000 in
theorem cm_X4_read_111 {Q1 Q2 Q3 : Int32 → HS → Prop} {X8_1 X8_2 X8_3 : Nat → Int32 → HS → Prop} {v0 : Nat} {v3 : Int32} {S : HS} (h1 : P_X4_read_111 Q1 X8_1 v0 v3 S) (h2 : P_X4_read_111 Q2 X8_2 v0 v3 S) (hq : ∀ (r : Int32) (T : HS), Q1 r T → Q2 r T → Q3 r T) (hX8 : ∀ (u0 : Nat) (u1 : Int32) (u2 : HS), X8_1 u0 u1 u2 → X8_2 u0 u1 u2 → X8_3 u0 u1 u2) : P_X4_read_111 Q3 X8_3 v0 v3 S := by
  delta P_X4_read_111 at h1 h2 ⊢
  exact cm_X4_read_112 h1 h2 hq hX8
set_option maxRecDepth 20000 in
set_option maxHeartbeats 1000000 in
theorem cm_X4_read_154 {Q1 Q2 Q3 : Int32 → HS → Prop} {X8_1 X8_2 X8_3 : Nat → Int32 → HS → Prop} {v0 : Nat} {v3 : Int32} {s0 : Int32} {S : HS} (h1 : P_X4_read_154 Q1 X8_1 v0 v3 s0 S) (h2 : P_X4_read_154 Q2 X8_2 v0 v3 s0 S) (hq : ∀ (r : Int32) (T : HS), Q1 r T → Q2 r T → Q3 r T) (hX8 : ∀ (u0 : Nat) (u1 : Int32) (u2 : HS), X8_1 u0 u1 u2 → X8_2 u0 u1 u2 → X8_3 u0 u1 u2) : P_X4_read_154 Q3 X8_3 v0 v3 s0 S := by
  delta P_X4_read_154 at h1 h2 ⊢
  exact cm_X4_read_248 h1 h2 hq hX8
set_option maxRecDepth 20000 in
set_option maxHeartbeats 1000000 in
theorem cm_X4_read_153 {Q1 Q2 Q3 : Int32 → HS → Prop} {X8_1 X8_2 X8_3 : Nat → Int32 → HS → Prop} {v0 : Nat} {v3 : Int32} {S : HS} (h1 : P_X4_read_153 Q1 X8_1 v0 v3 S) (h2 : P_X4_read_153 Q2 X8_2 v0 v3 S) (hq : ∀ (r : Int32) (T : HS), Q1 r T → Q2 r T → Q3 r T) (hX8 : ∀ (u0 : Nat) (u1 : Int32) (u2 : HS), X8_1 u0 u1 u2 → X8_2 u0 u1 u2 → X8_3 u0 u1 u2) : P_X4_read_153 Q3 X8_3 v0 v3 S := by
  delta P_X4_read_153 at h1 h2 ⊢
  exact cm_X4_read_154 h1 h2 hq hX8
set_option maxRecDepth 20000 in
set_option maxHeartbeats 1000000 in
theorem cm_X4_read_195 {Q1 Q2 Q3 : Int32 → HS → Prop} {X8_1 X8_2 X8_3 : Nat → Int32 → HS → Prop} {v0 : Nat} {v3 : Int32} {s0 : Int32} {S : HS} (h1 : P_X4_read_195 Q1 X8_1 v0 v3 s0 S) (h2 : P_X4_read_195 Q2 X8_2 v0 v3 s0 S) (hq : ∀ (r : Int32) (T : HS), Q1 r T → Q2 r T → Q3 r T) (hX8 : ∀ (u0 : Nat) (u1 : Int32) (u2 : HS), X8_1 u0 u1 u2 → X8_2 u0 u1 u2 → X8_3 u0 u1 u2) : P_X4_read_195 Q3 X8_3 v0 v3 s0 S := by
  delta P_X4_read_195 at h1 h2 ⊢
  exact cm_X4_read_248 h1 h2 hq hX8
set_option maxRecDepth 20000 in
set_option maxHeartbeats 1000000 in
theorem cm_X4_read_194 {Q1 Q2 Q3 : Int32 → HS → Prop} {X8_1 X8_2 X8_3 : Nat → Int32 → HS → Prop} {v0 : Nat} {v3 : Int32} {S : HS} (h1 : P_X4_read_194 Q1 X8_1 v0 v3 S) (h2 : P_X4_read_194 Q2 X8_2 v0 v3 S) (hq : ∀ (r : Int32) (T : HS), Q1 r T → Q2 r T → Q3 r T) (hX8 : ∀ (u0 : Nat) (u1 : Int32) (u2 : HS), X8_1 u0 u1 u2 → X8_2 u0 u1 u2 → X8_3 u0 u1 u2) : P_X4_read_194 Q3 X8_3 v0 v3 S := by
  delta P_X4_read_194 at h1 h2 ⊢
  exact cm_X4_read_195 h1 h2 hq hX8
set_option maxRecDepth 20000 in
set_option maxHeartbeats 1000000 in
theorem cm_X4_read_236 {Q1 Q2 Q3 : Int32 → HS → Prop} {X8_1 X8_2 X8_3 : Nat → Int32 → HS → Prop} {v0 : Nat} {v3 : Int32} {s0 : Int32} {S : HS} (h1 : P_X4_read_236 Q1 X8_1 v0 v3 s0 S) (h2 : P_X4_read_236 Q2 X8_2 v0 v3 s0 S) (hq : ∀ (r : Int32) (T : HS), Q1 r T → Q2 r T → Q3 r T) (hX8 : ∀ (u0 : Nat) (u1 : Int32) (u2 : HS), X8_1 u0 u1 u2 → X8_2 u0 u1 u2 → X8_3 u0 u1 u2) : P_X4_read_236 Q3 X8_3 v0 v3 s0 S := by
  delta P_X4_read_236 at h1 h2 ⊢
  exact cm_X4_read_248 h1 h2 hq hX8
set_option maxRecDepth 20000 in
set_option maxHeartbeats 1000000 in
theorem cm_X4_read_235 {Q1 Q2 Q3 : Int32 → HS → Prop} {X8_1 X8_2 X8_3 : Nat → Int32 → HS → Prop} {v0 : Nat} {v3 : Int32} {S : HS} (h1 : P_X4_read_235 Q1 X8_1 v0 v3 S) (h2 : P_X4_read_235 Q2 X8_2 v0 v3 S) (hq : ∀ (r : Int32) (T : HS), Q1 r T → Q2 r T → Q3 r T) (hX8 : ∀ (u0 : Nat) (u1 : Int32) (u2 : HS), X8_1 u0 u1 u2 → X8_2 u0 u1 u2 → X8_3 u0 u1 u2) : P_X4_read_235 Q3 X8_3 v0 v3 S := by
  delta P_X4_read_235 at h1 h2 ⊢
  exact cm_X4_read_236 h1 h2 hq hX8
set_option maxRecDepth 20000 in
set_option maxHeartbeats 1000000 in
theorem cmB_X4_read_8 {Q1 Q2 Q3 : Int32 → HS → Prop} {X8_1 X8_2 X8_3 : Nat → Int32 → HS → Prop} {v0 : Nat} {v3 : Int32} {S : HS} (h1 : B_X4_read_8 Q1 X8_1 v0 v3 S) (h2 : B_X4_read_8 Q2 X8_2 v0 v3 S) (hq : ∀ (r : Int32) (T : HS), Q1 r T → Q2 r T → Q3 r T) (hX8 : ∀ (u0 : Nat) (u1 : Int32) (u2 : HS), X8_1 u0 u1 u2 → X8_2 u0 u1 u2 → X8_3 u0 u1 u2) : B_X4_read_8 Q3 X8_3 v0 v3 S := by
  delta B_X4_read_8 at h1 h2 ⊢
  refine ⟨?_, ?_⟩
  · intro c1
    have h1 := h1.1 c1
    have h2 := h2.1 c1
    obtain ⟨c2, h1⟩ := h1
    obtain ⟨_, h2⟩ := h2
    refine ⟨c2, ?_⟩
    refine cm_X4_fail h1 h2 (fun x3 x4 h1 h2 g5 g6 => ?_)
    have h1 := h1 g5 g6
    have h2 := h2 g5 g6
    obtain ⟨c7, h1⟩ := h1
    obtain ⟨_, h2⟩ := h2
    refine ⟨c7, ?_⟩
    exact hq _ _ h1 h2
  · intro c8
    have h1 := h1.2 c8
    have h2 := h2.2 c8
    obtain ⟨c9, h1⟩ := h1
    obtain ⟨_, h2⟩ := h2
    refine ⟨c9, ?_⟩
    refine cm_X4_is h1 h2 (fun x10 x11 h1 h2 g12 g13 => ?_)
    have h1 := h1 g12 g13
    have h2 := h2 g12 g13
    refine ⟨?_, ?_⟩
    · intro c14
      have h1 := h1.1 c14
      have h2 := h2.1 c14
      refine cm_X4_is h1 h2 (fun x15 x16 h1 h2 g17 g18 => ?_)
      have h1 := h1 g17 g18
      have h2 := h2 g17 g18
      refine ⟨?_, ?_⟩
      · intro c19
        have h1 := h1.1 c19
        have h2 := h2.1 c19
        refine cm_X4_is h1 h2 (fun x20 x21 h1 h2 g22 g23 => ?_)
        have h1 := h1 g22 g23
        have h2 := h2 g22 g23
        refine ⟨?_, ?_⟩
        · intro c24
          have h1 := h1.1 c24
          have h2 := h2.1 c24
          refine cm_X4_is h1 h2 (fun x25 x26 h1 h2 g27 g28 => ?_)
          have h1 := h1 g27 g28
          have h2 := h2 g27 g28
          refine ⟨?_, ?_⟩
          · intro c29
            have h1 := h1.1 c29
            have h2 := h2.1 c29
            refine cm_X4_is h1 h2 (fun x30 x31 h1 h2 g32 g33 => ?_)
            have h1 := h1 g32 g33
            have h2 := h2 g32 g33
            refine ⟨?_, ?_⟩
            · intro c34
              have h1 := h1.1 c34
              have h2 := h2.1 c34
              refine cm_X4_is h1 h2 (fun x35 x36 h1 h2 g37 g38 => ?_)
              have h1 := h1 g37 g38
              have h2 := h2 g37 g38
              refine ⟨?_, ?_⟩
              · intro c39
                have h1 := h1.1 c39
                have h2 := h2.1 c39
                refine cm_X4_fail h1 h2 (fun x40 x41 h1 h2 g42 g43 => ?_)
                have h1 := h1 g42 g43
                have h2 := h2 g42 g43
                exact cm_X4_read_248 h1 h2 hq hX8
              · intro c44
                have h1 := h1.2 c44
                have h2 := h2.2 c44
                obtain ⟨b45, e46, h1⟩ := h1
                obtain ⟨b47, e48, h2⟩ := h2
                cases e46.symm.trans e48
                refine ⟨b45, e46, ?_⟩
                obtain ⟨c49, h1⟩ := h1
                obtain ⟨_, h2⟩ := h2
                refine ⟨c49, ?_⟩
                intro x51 e50
                have h1 := h1 x51 e50
                have h2 := h2 x51 e50
                refine cm_X4_hasRoom h1 h2 (fun x52 x53 h1 h2 g54 g55 => ?_)
                have h1 := h1 g54 g55
                have h2 := h2 g54 g55
                refine ⟨?_, ?_⟩
                · intro c56
                  have h1 := h1.1 c56
                  have h2 := h2.1 c56
                  exact cm_X4_read_235 h1 h2 hq hX8
                · intro c57
                  have h1 := h1.2 c57
                  have h2 := h2.2 c57
                  refine cm_X4_seenLine h1 h2 (fun x58 x59 h1 h2 g60 g61 => ?_)
                  have h1 := h1 g60 g61
                  have h2 := h2 g60 g61
                  refine ⟨?_, ?_⟩
                  · intro c62
                    have h1 := h1.1 c62
                    have h2 := h2.1 c62
                    exact cm_X4_read_235 h1 h2 hq hX8
                  · intro c63
                    have h1 := h1.2 c63
                    have h2 := h2.2 c63
                    exact cm_X4_read_236 h1 h2 hq hX8
            · intro c64
              have h1 := h1.2 c64
              have h2 := h2.2 c64
              obtain ⟨b65, e66, h1⟩ := h1
              obtain ⟨b67, e68, h2⟩ := h2
              cases e66.symm.trans e68
              refine ⟨b65, e66, ?_⟩
              obtain ⟨c69, h1⟩ := h1
              obtain ⟨_, h2⟩ := h2
              refine ⟨c69, ?_⟩
              intro x71 e70
              have h1 := h1 x71 e70
              have h2 := h2 x71 e70
              refine cm_X4_hasRoom h1 h2 (fun x72 x73 h1 h2 g74 g75 => ?_)
              have h1 := h1 g74 g75
              have h2 := h2 g74 g75
              refine ⟨?_, ?_⟩
              · intro c76
                have h1 := h1.1 c76
                have h2 := h2.1 c76
                exact cm_X4_read_194 h1 h2 hq hX8
              · intro c77
                have h1 := h1.2 c77
                have h2 := h2.2 c77
                refine cm_X4_walkerLine h1 h2 (fun x78 x79 h1 h2 g80 g81 => ?_)
                have h1 := h1 g80 g81
                have h2 := h2 g80 g81
                refine ⟨?_, ?_⟩
                · intro c82
                  have h1 := h1.1 c82
                  have h2 := h2.1 c82
                  exact cm_X4_read_194 h1 h2 hq hX8
                · intro c83
                  have h1 := h1.2 c83
                  have h2 := h2.2 c83
                  exact cm_X4_read_195 h1 h2 hq hX8
          · intro c84
            have h1 := h1.2 c84
            have h2 := h2.2 c84
            obtain ⟨b85, e86, h1⟩ := h1
            obtain ⟨b87, e88, h2⟩ := h2
            cases e86.symm.trans e88
            refine ⟨b85, e86, ?_⟩
            obtain ⟨c89, h1⟩ := h1
            obtain ⟨_, h2⟩ := h2
            refine ⟨c89, ?_⟩
            intro x91 e90
            have h1 := h1 x91 e90
            have h2 := h2 x91 e90
            refine cm_X4_hasRoom h1 h2 (fun x92 x93 h1 h2 g94 g95 => ?_)
            have h1 := h1 g94 g95
            have h2 := h2 g94 g95
            refine ⟨?_, ?_⟩
            · intro c96
              have h1 := h1.1 c96
              have h2 := h2.1 c96
              exact cm_X4_read_153 h1 h2 hq hX8
            · intro c97
              have h1 := h1.2 c97
              have h2 := h2.2 c97
              refine cm_X4_roadLine h1 h2 (fun x98 x99 h1 h2 g100 g101 => ?_)
              have h1 := h1 g100 g101
              have h2 := h2 g100 g101
              refine ⟨?_, ?_⟩
              · intro c102
                have h1 := h1.1 c102
                have h2 := h2.1 c102
                exact cm_X4_read_153 h1 h2 hq hX8
              · intro c103
                have h1 := h1.2 c103
                have h2 := h2.2 c103
                exact cm_X4_read_154 h1 h2 hq hX8
        · intro c104
          have h1 := h1.2 c104
          have h2 := h2.2 c104
          obtain ⟨b105, e106, h1⟩ := h1
          obtain ⟨b107, e108, h2⟩ := h2
          cases e106.symm.trans e108
          refine ⟨b105, e106, ?_⟩
          obtain ⟨c109, h1⟩ := h1
          obtain ⟨_, h2⟩ := h2
          refine ⟨c109, ?_⟩
          intro x111 e110
          have h1 := h1 x111 e110
          have h2 := h2 x111 e110
          refine cm_X4_hasRoom h1 h2 (fun x112 x113 h1 h2 g114 g115 => ?_)
          have h1 := h1 g114 g115
          have h2 := h2 g114 g115
          refine ⟨?_, ?_⟩
          · intro c116
            have h1 := h1.1 c116
            have h2 := h2.1 c116
            exact cm_X4_read_111 h1 h2 hq hX8
          · intro c117
            have h1 := h1.2 c117
            have h2 := h2.2 c117
            refine cm_X4_placeLine h1 h2 (fun x118 x119 h1 h2 g120 g121 => ?_)
            have h1 := h1 g120 g121
            have h2 := h2 g120 g121
            refine ⟨?_, ?_⟩
            · intro c122
              have h1 := h1.1 c122
              have h2 := h2.1 c122
              exact cm_X4_read_111 h1 h2 hq hX8
            · intro c123
              have h1 := h1.2 c123
              have h2 := h2.2 c123
              exact cm_X4_read_112 h1 h2 hq hX8
      · intro c124
        have h1 := h1.2 c124
        have h2 := h2.2 c124
        obtain ⟨b125, e126, h1⟩ := h1
        obtain ⟨b127, e128, h2⟩ := h2
        cases e126.symm.trans e128
        refine ⟨b125, e126, ?_⟩
        obtain ⟨c129, h1⟩ := h1
        obtain ⟨_, h2⟩ := h2
        refine ⟨c129, ?_⟩
        intro x131 e130
        have h1 := h1 x131 e130
        have h2 := h2 x131 e130
        refine cm_X4_hasRoom h1 h2 (fun x132 x133 h1 h2 g134 g135 => ?_)
        have h1 := h1 g134 g135
        have h2 := h2 g134 g135
        refine ⟨?_, ?_⟩
        · intro c136
          have h1 := h1.1 c136
          have h2 := h2.1 c136
          exact cm_X4_read_69 h1 h2 hq hX8
        · intro c137
          have h1 := h1.2 c137
          have h2 := h2.2 c137
          refine cm_X4_rainLine h1 h2 (fun x138 x139 h1 h2 g140 g141 => ?_)
          have h1 := h1 g140 g141
          have h2 := h2 g140 g141
          refine ⟨?_, ?_⟩
          · intro c142
            have h1 := h1.1 c142
            have h2 := h2.1 c142
            exact cm_X4_read_69 h1 h2 hq hX8
          · intro c143
            have h1 := h1.2 c143
            have h2 := h2.2 c143
            exact cm_X4_read_70 h1 h2 hq hX8
    · intro c144
      have h1 := h1.2 c144
      have h2 := h2.2 c144
      refine cm_X4_worldLine h1 h2 (fun x145 x146 h1 h2 g147 g148 => ?_)
      have h1 := h1 g147 g148
      have h2 := h2 g147 g148
      exact cm_X4_read_248 h1 h2 hq hX8
theorem fd_X4_read_8 {Q : Int32 → HS → Prop} {v0 : Nat} {v3 : Int32} {S : HS} (h : B_X4_read_8 Q (P_X4_read_8 Q) v0 v3 S) : P_X4_read_8 Q v0 v3 S := fun X hX => hX v0 v3 S (cmB_X4_read_8 h h (fun _ _ a _ => a) (fun _ _ _ hp _ => hp X hX))
theorem uf_X4_read_8 {Q : Int32 → HS → Prop} {v0 : Nat} {v3 : Int32} {S : HS} (h : P_X4_read_8 Q v0 v3 S) : B_X4_read_8 Q (P_X4_read_8 Q) v0 v3 S := h (fun v0 v3 S => B_X4_read_8 Q (P_X4_read_8 Q) v0 v3 S) (fun v0 v3 S hB => cmB_X4_read_8 hB hB (fun _ _ a _ => a) (fun _ _ _ hb _ => fd_X4_read_8 hb))
theorem cm_X4_read_8 {Q1 Q2 Q3 : Int32 → HS → Prop} {v0 : Nat} {v3 : Int32} {S : HS} (h1 : P_X4_read_8 Q1 v0 v3 S) (h2 : P_X4_read_8 Q2 v0 v3 S) (hq : ∀ (r : Int32) (T : HS), Q1 r T → Q2 r T → Q3 r T) : P_X4_read_8 Q3 v0 v3 S := h1 (fun v0 v3 S => P_X4_read_8 Q2 v0 v3 S → P_X4_read_8 Q3 v0 v3 S) (fun v0 v3 S hB hp => fd_X4_read_8 (cmB_X4_read_8 hB (uf_X4_read_8 hp) hq (fun _ _ _ hx hp => hx hp))) h2
set_option maxRecDepth 20000 in
set_option maxHeartbeats 1000000 in
theorem cm_X4_read_0 {Q1 Q2 Q3 : Int32 → HS → Prop} {v0 : Nat} {v1 : Nat} {v2 : Int32} {S : HS} (h1 : P_X4_read_0 Q1 v0 v1 v2 S) (h2 : P_X4_read_0 Q2 v0 v1 v2 S) (hq : ∀ (r : Int32) (T : HS), Q1 r T → Q2 r T → Q3 r T) : P_X4_read_0 Q3 v0 v1 v2 S := by
  delta P_X4_read_0 at h1 h2 ⊢
  obtain ⟨c1, h1⟩ := h1
  obtain ⟨_, h2⟩ := h2
  refine ⟨c1, ?_⟩
  refine cm_X4_open h1 h2 (fun x2 h1 h2 g3 => ?_)
  have h1 := h1 g3
  have h2 := h2 g3
  exact cm_X4_read_8 h1 h2 hq
theorem cm_X4_read {Q1 Q2 Q3 : Int32 → HS → Prop} {v0 : Nat} {v1 : Nat} {v2 : Int32} {S : HS} (h1 : P_X4_read v0 v1 v2 Q1 S) (h2 : P_X4_read v0 v1 v2 Q2 S) (hq : ∀ (r : Int32) (T : HS), Q1 r T → Q2 r T → Q3 r T) : P_X4_read v0 v1 v2 Q3 S := cm_X4_read_0 h1 h2 hq
set_option maxRecDepth 20000 in
set_option maxHeartbeats 1000000 in
theorem cm_X5_endOf_0 {Q1 Q2 Q3 : Int32 → HS → Prop} {v0 : Nat} {v1 : Int32} {S : HS} (h1 : P_X5_endOf_0 Q1 v0 v1 S) (h2 : P_X5_endOf_0 Q2 v0 v1 S) (hq : ∀ (r : Int32) (T : HS), Q1 r T → Q2 r T → Q3 r T) : P_X5_endOf_0 Q3 v0 v1 S := by
  delta P_X5_endOf_0 at h1 h2 ⊢
  refine ⟨?_, ?_⟩
  · intro c1
    have h1 := h1.1 c1
    have h2 := h2.1 c1
    obtain ⟨c2, h1⟩ := h1
    obtain ⟨_, h2⟩ := h2
    refine ⟨c2, ?_⟩
    intro x4 e3
    have h1 := h1 x4 e3
    have h2 := h2 x4 e3
    exact hq _ _ h1 h2
  · intro c5
    have h1 := h1.2 c5
    have h2 := h2.2 c5
    obtain ⟨c6, h1⟩ := h1
    obtain ⟨_, h2⟩ := h2
    refine ⟨c6, ?_⟩
    intro x8 e7
    have h1 := h1 x8 e7
    have h2 := h2 x8 e7
    exact hq _ _ h1 h2
theorem cm_X5_endOf {Q1 Q2 Q3 : Int32 → HS → Prop} {v0 : Nat} {v1 : Int32} {S : HS} (h1 : P_X5_endOf v0 v1 Q1 S) (h2 : P_X5_endOf v0 v1 Q2 S) (hq : ∀ (r : Int32) (T : HS), Q1 r T → Q2 r T → Q3 r T) : P_X5_endOf v0 v1 Q3 S := cm_X5_endOf_0 h1 h2 hq
set_option maxRecDepth 20000 in
set_option maxHeartbeats 1000000 in
theorem cm_X5_minutesAt_0 {Q1 Q2 Q3 : Int32 → HS → Prop} {v0 : Nat} {v1 : Int32} {S : HS} (h1 : P_X5_minutesAt_0 Q1 v0 v1 S) (h2 : P_X5_minutesAt_0 Q2 v0 v1 S) (hq : ∀ (r : Int32) (T : HS), Q1 r T → Q2 r T → Q3 r T) : P_X5_minutesAt_0 Q3 v0 v1 S := by
  delta P_X5_minutesAt_0 at h1 h2 ⊢
  refine ⟨?_, ?_⟩
  · intro c1
    have h1 := h1.1 c1
    have h2 := h2.1 c1
    exact hq _ _ h1 h2
  · intro c2
    have h1 := h1.2 c2
    have h2 := h2.2 c2
    obtain ⟨c3, h1⟩ := h1
    obtain ⟨_, h2⟩ := h2
    refine ⟨c3, ?_⟩
    intro x5 e4
    have h1 := h1 x5 e4
    have h2 := h2 x5 e4
    obtain ⟨c6, h1⟩ := h1
    obtain ⟨_, h2⟩ := h2
    refine ⟨c6, ?_⟩
    intro x8 e7
    have h1 := h1 x8 e7
    have h2 := h2 x8 e7
    exact hq _ _ h1 h2
theorem cm_X5_minutesAt {Q1 Q2 Q3 : Int32 → HS → Prop} {v0 : Nat} {v1 : Int32} {S : HS} (h1 : P_X5_minutesAt v0 v1 Q1 S) (h2 : P_X5_minutesAt v0 v1 Q2 S) (hq : ∀ (r : Int32) (T : HS), Q1 r T → Q2 r T → Q3 r T) : P_X5_minutesAt v0 v1 Q3 S := cm_X5_minutesAt_0 h1 h2 hq
set_option maxRecDepth 20000 in
set_option maxHeartbeats 1000000 in
theorem cm_X5_startOf_0 {Q1 Q2 Q3 : Int32 → HS → Prop} {v0 : Nat} {v1 : Int32} {S : HS} (h1 : P_X5_startOf_0 Q1 v0 v1 S) (h2 : P_X5_startOf_0 Q2 v0 v1 S) (hq : ∀ (r : Int32) (T : HS), Q1 r T → Q2 r T → Q3 r T) : P_X5_startOf_0 Q3 v0 v1 S := by
  delta P_X5_startOf_0 at h1 h2 ⊢
  refine ⟨?_, ?_⟩
  · intro c1
    have h1 := h1.1 c1
    have h2 := h2.1 c1
    obtain ⟨c2, h1⟩ := h1
    obtain ⟨_, h2⟩ := h2
    refine ⟨c2, ?_⟩
    intro x4 e3
    have h1 := h1 x4 e3
    have h2 := h2 x4 e3
    exact hq _ _ h1 h2
  · intro c5
    have h1 := h1.2 c5
    have h2 := h2.2 c5
    obtain ⟨c6, h1⟩ := h1
    obtain ⟨_, h2⟩ := h2
    refine ⟨c6, ?_⟩
    intro x8 e7
    have h1 := h1 x8 e7
    have h2 := h2 x8 e7
    exact hq _ _ h1 h2
theorem cm_X5_startOf {Q1 Q2 Q3 : Int32 → HS → Prop} {v0 : Nat} {v1 : Int32} {S : HS} (h1 : P_X5_startOf v0 v1 Q1 S) (h2 : P_X5_startOf v0 v1 Q2 S) (hq : ∀ (r : Int32) (T : HS), Q1 r T → Q2 r T → Q3 r T) : P_X5_startOf v0 v1 Q3 S := cm_X5_startOf_0 h1 h2 hq
set_option maxRecDepth 20000 in
set_option maxHeartbeats 1000000 in
theorem cm_X5_tell_0 {Q1 Q2 Q3 : Int32 → HS → Prop} {v0 : Nat} {v1 : Int32} {S : HS} (h1 : P_X5_tell_0 Q1 v0 v1 S) (h2 : P_X5_tell_0 Q2 v0 v1 S) (hq : ∀ (r : Int32) (T : HS), Q1 r T → Q2 r T → Q3 r T) : P_X5_tell_0 Q3 v0 v1 S := by
  delta P_X5_tell_0 at h1 h2 ⊢
  refine ⟨?_, ?_, ?_, ?_, ?_⟩
  · intro c1
    have h1 := h1.1 c1
    have h2 := h2.1 c1
    obtain ⟨c2, h1⟩ := h1
    obtain ⟨_, h2⟩ := h2
    refine ⟨c2, ?_⟩
    intro x4 e3
    have h1 := h1 x4 e3
    have h2 := h2 x4 e3
    exact hq _ _ h1 h2
  · intro c5
    have h1 := h1.2.1 c5
    have h2 := h2.2.1 c5
    obtain ⟨c6, h1⟩ := h1
    obtain ⟨_, h2⟩ := h2
    refine ⟨c6, ?_⟩
    intro x8 e7
    have h1 := h1 x8 e7
    have h2 := h2 x8 e7
    exact hq _ _ h1 h2
  · intro c9
    have h1 := h1.2.2.1 c9
    have h2 := h2.2.2.1 c9
    obtain ⟨c10, h1⟩ := h1
    obtain ⟨_, h2⟩ := h2
    refine ⟨c10, ?_⟩
    intro x12 e11
    have h1 := h1 x12 e11
    have h2 := h2 x12 e11
    exact hq _ _ h1 h2
  · intro c13
    have h1 := h1.2.2.2.1 c13
    have h2 := h2.2.2.2.1 c13
    obtain ⟨c14, h1⟩ := h1
    obtain ⟨_, h2⟩ := h2
    refine ⟨c14, ?_⟩
    intro x16 e15
    have h1 := h1 x16 e15
    have h2 := h2 x16 e15
    exact hq _ _ h1 h2
  · intro c17
    have h1 := h1.2.2.2.2 c17
    have h2 := h2.2.2.2.2 c17
    obtain ⟨c18, h1⟩ := h1
    obtain ⟨_, h2⟩ := h2
    refine ⟨c18, ?_⟩
    intro x20 e19
    have h1 := h1 x20 e19
    have h2 := h2 x20 e19
    exact hq _ _ h1 h2
theorem cm_X5_tell {Q1 Q2 Q3 : Int32 → HS → Prop} {v0 : Nat} {v1 : Int32} {S : HS} (h1 : P_X5_tell v0 v1 Q1 S) (h2 : P_X5_tell v0 v1 Q2 S) (hq : ∀ (r : Int32) (T : HS), Q1 r T → Q2 r T → Q3 r T) : P_X5_tell v0 v1 Q3 S := cm_X5_tell_0 h1 h2 hq
set_option maxRecDepth 20000 in
set_option maxHeartbeats 1000000 in
theorem cm_X6_tell_0 {Q1 Q2 Q3 : Int32 → HS → Prop} {v0 : Nat} {v1 : Int32} {S : HS} (h1 : P_X6_tell_0 Q1 v0 v1 S) (h2 : P_X6_tell_0 Q2 v0 v1 S) (hq : ∀ (r : Int32) (T : HS), Q1 r T → Q2 r T → Q3 r T) : P_X6_tell_0 Q3 v0 v1 S := by
  delta P_X6_tell_0 at h1 h2 ⊢
  refine ⟨?_, ?_, ?_, ?_, ?_, ?_, ?_⟩
  · intro c1
    have h1 := h1.1 c1
    have h2 := h2.1 c1
    obtain ⟨c2, h1⟩ := h1
    obtain ⟨_, h2⟩ := h2
    refine ⟨c2, ?_⟩
    intro x4 e3
    have h1 := h1 x4 e3
    have h2 := h2 x4 e3
    exact hq _ _ h1 h2
  · intro c5
    have h1 := h1.2.1 c5
    have h2 := h2.2.1 c5
    obtain ⟨c6, h1⟩ := h1
    obtain ⟨_, h2⟩ := h2
    refine ⟨c6, ?_⟩
    intro x8 e7
    have h1 := h1 x8 e7
    have h2 := h2 x8 e7
    exact hq _ _ h1 h2
  · intro c9
    have h1 := h1.2.2.1 c9
    have h2 := h2.2.2.1 c9
    obtain ⟨c10, h1⟩ := h1
    obtain ⟨_, h2⟩ := h2
    refine ⟨c10, ?_⟩
    intro x12 e11
    have h1 := h1 x12 e11
    have h2 := h2 x12 e11
    exact hq _ _ h1 h2
  · intro c13
    have h1 := h1.2.2.2.1 c13
    have h2 := h2.2.2.2.1 c13
    obtain ⟨c14, h1⟩ := h1
    obtain ⟨_, h2⟩ := h2
    refine ⟨c14, ?_⟩
    intro x16 e15
    have h1 := h1 x16 e15
    have h2 := h2 x16 e15
    exact hq _ _ h1 h2
  · intro c17
    have h1 := h1.2.2.2.2.1 c17
    have h2 := h2.2.2.2.2.1 c17
    obtain ⟨c18, h1⟩ := h1
    obtain ⟨_, h2⟩ := h2
    refine ⟨c18, ?_⟩
    intro x20 e19
    have h1 := h1 x20 e19
    have h2 := h2 x20 e19
    exact hq _ _ h1 h2
  · intro c21
    have h1 := h1.2.2.2.2.2.1 c21
    have h2 := h2.2.2.2.2.2.1 c21
    obtain ⟨c22, h1⟩ := h1
    obtain ⟨_, h2⟩ := h2
    refine ⟨c22, ?_⟩
    intro x24 e23
    have h1 := h1 x24 e23
    have h2 := h2 x24 e23
    exact hq _ _ h1 h2
  · intro c25
    have h1 := h1.2.2.2.2.2.2 c25
    have h2 := h2.2.2.2.2.2.2 c25
    obtain ⟨c26, h1⟩ := h1
    obtain ⟨_, h2⟩ := h2
    refine ⟨c26, ?_⟩
    intro x28 e27
    have h1 := h1 x28 e27
    have h2 := h2 x28 e27
    exact hq _ _ h1 h2
theorem cm_X6_tell {Q1 Q2 Q3 : Int32 → HS → Prop} {v0 : Nat} {v1 : Int32} {S : HS} (h1 : P_X6_tell v0 v1 Q1 S) (h2 : P_X6_tell v0 v1 Q2 S) (hq : ∀ (r : Int32) (T : HS), Q1 r T → Q2 r T → Q3 r T) : P_X6_tell v0 v1 Q3 S := cm_X6_tell_0 h1 h2 hq
set_option maxRecDepth 20000 in
set_option maxHeartbeats 1000000 in
theorem cm_X7_addMove_0 {Q1 Q2 Q3 : HS → Prop} {v0 : Nat} {v1 : Int32} {v2 : Int32} {v3 : Int32} {v4 : Int64} {v6 : Int32} {S : HS} (h1 : P_X7_addMove_0 Q1 v0 v1 v2 v3 v4 v6 S) (h2 : P_X7_addMove_0 Q2 v0 v1 v2 v3 v4 v6 S) (hq : ∀ (T : HS), Q1 T → Q2 T → Q3 T) : P_X7_addMove_0 Q3 v0 v1 v2 v3 v4 v6 S := by
  delta P_X7_addMove_0 at h1 h2 ⊢
  obtain ⟨c1, h1⟩ := h1
  obtain ⟨_, h2⟩ := h2
  refine ⟨c1, ?_⟩
  intro x3 e2
  have h1 := h1 x3 e2
  have h2 := h2 x3 e2
  refine ⟨?_, ?_⟩
  · intro c4
    have h1 := h1.1 c4
    have h2 := h2.1 c4
    exact hq _ h1 h2
  · intro c5
    have h1 := h1.2 c5
    have h2 := h2.2 c5
    intro x7 e6
    have h1 := h1 x7 e6
    have h2 := h2 x7 e6
    refine ⟨?_, ?_⟩
    · intro c8
      have h1 := h1.1 c8
      have h2 := h2.1 c8
      exact hq _ h1 h2
    · intro c9
      have h1 := h1.2 c9
      have h2 := h2.2 c9
      intro x11 e10
      have h1 := h1 x11 e10
      have h2 := h2 x11 e10
      refine ⟨?_, ?_⟩
      · intro c12
        have h1 := h1.1 c12
        have h2 := h2.1 c12
        obtain ⟨b13, e14, h1⟩ := h1
        obtain ⟨b15, e16, h2⟩ := h2
        cases e14.symm.trans e16
        refine ⟨b13, e14, ?_⟩
        intro x18 e17
        have h1 := h1 x18 e17
        have h2 := h2 x18 e17
        obtain ⟨c19, h1⟩ := h1
        obtain ⟨_, h2⟩ := h2
        refine ⟨c19, ?_⟩
        intro x21 e20
        have h1 := h1 x21 e20
        have h2 := h2 x21 e20
        obtain ⟨c22, h1⟩ := h1
        obtain ⟨_, h2⟩ := h2
        refine ⟨c22, ?_⟩
        intro x24 e23
        have h1 := h1 x24 e23
        have h2 := h2 x24 e23
        obtain ⟨b25, e26, h1⟩ := h1
        obtain ⟨b27, e28, h2⟩ := h2
        cases e26.symm.trans e28
        refine ⟨b25, e26, ?_⟩
        intro x30 e29
        have h1 := h1 x30 e29
        have h2 := h2 x30 e29
        obtain ⟨c31, h1⟩ := h1
        obtain ⟨_, h2⟩ := h2
        refine ⟨c31, ?_⟩
        intro x33 e32
        have h1 := h1 x33 e32
        have h2 := h2 x33 e32
        obtain ⟨c34, h1⟩ := h1
        obtain ⟨_, h2⟩ := h2
        refine ⟨c34, ?_⟩
        intro x36 e35
        have h1 := h1 x36 e35
        have h2 := h2 x36 e35
        obtain ⟨b37, e38, h1⟩ := h1
        obtain ⟨b39, e40, h2⟩ := h2
        cases e38.symm.trans e40
        refine ⟨b37, e38, ?_⟩
        intro x42 e41
        have h1 := h1 x42 e41
        have h2 := h2 x42 e41
        obtain ⟨c43, h1⟩ := h1
        obtain ⟨_, h2⟩ := h2
        refine ⟨c43, ?_⟩
        obtain ⟨c44, h1⟩ := h1
        obtain ⟨_, h2⟩ := h2
        refine ⟨c44, ?_⟩
        intro x46 e45
        have h1 := h1 x46 e45
        have h2 := h2 x46 e45
        obtain ⟨b47, e48, h1⟩ := h1
        obtain ⟨b49, e50, h2⟩ := h2
        cases e48.symm.trans e50
        refine ⟨b47, e48, ?_⟩
        intro x52 e51
        have h1 := h1 x52 e51
        have h2 := h2 x52 e51
        obtain ⟨c53, h1⟩ := h1
        obtain ⟨_, h2⟩ := h2
        refine ⟨c53, ?_⟩
        intro x55 e54
        have h1 := h1 x55 e54
        have h2 := h2 x55 e54
        obtain ⟨c56, h1⟩ := h1
        obtain ⟨_, h2⟩ := h2
        refine ⟨c56, ?_⟩
        intro x58 e57
        have h1 := h1 x58 e57
        have h2 := h2 x58 e57
        obtain ⟨b59, e60, h1⟩ := h1
        obtain ⟨b61, e62, h2⟩ := h2
        cases e60.symm.trans e62
        refine ⟨b59, e60, ?_⟩
        intro x64 e63
        have h1 := h1 x64 e63
        have h2 := h2 x64 e63
        obtain ⟨c65, h1⟩ := h1
        obtain ⟨_, h2⟩ := h2
        refine ⟨c65, ?_⟩
        obtain ⟨c66, h1⟩ := h1
        obtain ⟨_, h2⟩ := h2
        refine ⟨c66, ?_⟩
        intro x68 e67
        have h1 := h1 x68 e67
        have h2 := h2 x68 e67
        intro x70 e69
        have h1 := h1 x70 e69
        have h2 := h2 x70 e69
        intro x72 e71
        have h1 := h1 x72 e71
        have h2 := h2 x72 e71
        intro x74 e73
        have h1 := h1 x74 e73
        have h2 := h2 x74 e73
        exact hq _ h1 h2
      · intro c75
        have h1 := h1.2 c75
        have h2 := h2.2 c75
        exact hq _ h1 h2
theorem cm_X7_addMove {Q1 Q2 Q3 : HS → Prop} {v0 : Nat} {v1 : Int32} {v2 : Int32} {v3 : Int32} {v4 : Int64} {v6 : Int32} {S : HS} (h1 : P_X7_addMove v0 v1 v2 v3 v4 v6 Q1 S) (h2 : P_X7_addMove v0 v1 v2 v3 v4 v6 Q2 S) (hq : ∀ (T : HS), Q1 T → Q2 T → Q3 T) : P_X7_addMove v0 v1 v2 v3 v4 v6 Q3 S := cm_X7_addMove_0 h1 h2 hq
set_option maxRecDepth 20000 in
set_option maxHeartbeats 1000000 in
theorem cm_X7_addLeg_82 {Q1 Q2 Q3 : HS → Prop} {v0 : Nat} {v1 : Nat} {v2 : Int32} {v4 : Int64} {v6 : Int32} {v7 : Int32} {S : HS} (h1 : P_X7_addLeg_82 Q1 v0 v1 v2 v4 v6 v7 S) (h2 : P_X7_addLeg_82 Q2 v0 v1 v2 v4 v6 v7 S) (hq : ∀ (T : HS), Q1 T → Q2 T → Q3 T) : P_X7_addLeg_82 Q3 v0 v1 v2 v4 v6 v7 S := by
  delta P_X7_addLeg_82 at h1 h2 ⊢
  obtain ⟨c1, h1⟩ := h1
  obtain ⟨_, h2⟩ := h2
  refine ⟨c1, ?_⟩
  refine cm_X5_startOf h1 h2 (fun x2 x3 h1 h2 g4 => ?_)
  have h1 := h1 g4
  have h2 := h2 g4
  refine cm_X5_endOf h1 h2 (fun x5 x6 h1 h2 g7 => ?_)
  have h1 := h1 g7
  have h2 := h2 g7
  obtain ⟨c8, h1⟩ := h1
  obtain ⟨_, h2⟩ := h2
  refine ⟨c8, ?_⟩
  refine cm_X7_addMove h1 h2 (fun x9 h1 h2 g10 => ?_)
  have h1 := h1 g10
  have h2 := h2 g10
  exact hq _ h1 h2
set_option maxRecDepth 20000 in
set_option maxHeartbeats 1000000 in
theorem cm_X7_addLeg_0 {Q1 Q2 Q3 : HS → Prop} {v0 : Nat} {v1 : Nat} {v2 : Int32} {v3 : Int32} {v4 : Int64} {v6 : Int32} {S : HS} (h1 : P_X7_addLeg_0 Q1 v0 v1 v2 v3 v4 v6 S) (h2 : P_X7_addLeg_0 Q2 v0 v1 v2 v3 v4 v6 S) (hq : ∀ (T : HS), Q1 T → Q2 T → Q3 T) : P_X7_addLeg_0 Q3 v0 v1 v2 v3 v4 v6 S := by
  delta P_X7_addLeg_0 at h1 h2 ⊢
  obtain ⟨c1, h1⟩ := h1
  obtain ⟨_, h2⟩ := h2
  refine ⟨c1, ?_⟩
  refine cm_X5_minutesAt h1 h2 (fun x2 x3 h1 h2 g4 => ?_)
  have h1 := h1 g4
  have h2 := h2 g4
  obtain ⟨c5, h1⟩ := h1
  obtain ⟨_, h2⟩ := h2
  refine ⟨c5, ?_⟩
  intro x7 e6
  have h1 := h1 x7 e6
  have h2 := h2 x7 e6
  intro x9 e8
  have h1 := h1 x9 e8
  have h2 := h2 x9 e8
  refine ⟨?_, ?_⟩
  · intro c10
    have h1 := h1.1 c10
    have h2 := h2.1 c10
    exact cm_X7_addLeg_82 h1 h2 hq
  · intro c11
    have h1 := h1.2 c11
    have h2 := h2.2 c11
    refine ⟨?_, ?_⟩
    · intro c12
      have h1 := h1.1 c12
      have h2 := h2.1 c12
      exact cm_X7_addLeg_82 h1 h2 hq
    · intro c13
      have h1 := h1.2 c13
      have h2 := h2.2 c13
      obtain ⟨b14, e15, h1⟩ := h1
      obtain ⟨b16, e17, h2⟩ := h2
      cases e15.symm.trans e17
      refine ⟨b14, e15, ?_⟩
      obtain ⟨c18, h1⟩ := h1
      obtain ⟨_, h2⟩ := h2
      refine ⟨c18, ?_⟩
      obtain ⟨c19, h1⟩ := h1
      obtain ⟨_, h2⟩ := h2
      refine ⟨c19, ?_⟩
      intro x21 e20
      have h1 := h1 x21 e20
      have h2 := h2 x21 e20
      intro x23 e22
      have h1 := h1 x23 e22
      have h2 := h2 x23 e22
      intro x25 e24
      have h1 := h1 x25 e24
      have h2 := h2 x25 e24
      refine ⟨?_, ?_⟩
      · intro c26
        have h1 := h1.1 c26
        have h2 := h2.1 c26
        exact cm_X7_addLeg_82 h1 h2 hq
      · intro c27
        have h1 := h1.2 c27
        have h2 := h2.2 c27
        obtain ⟨b28, e29, h1⟩ := h1
        obtain ⟨b30, e31, h2⟩ := h2
        cases e29.symm.trans e31
        refine ⟨b28, e29, ?_⟩
        obtain ⟨c32, h1⟩ := h1
        obtain ⟨_, h2⟩ := h2
        refine ⟨c32, ?_⟩
        obtain ⟨c33, h1⟩ := h1
        obtain ⟨_, h2⟩ := h2
        refine ⟨c33, ?_⟩
        intro x35 e34
        have h1 := h1 x35 e34
        have h2 := h2 x35 e34
        refine ⟨?_, ?_⟩
        · intro c36
          have h1 := h1.1 c36
          have h2 := h2.1 c36
          exact cm_X7_addLeg_82 h1 h2 hq
        · intro c37
          have h1 := h1.2 c37
          have h2 := h2.2 c37
          obtain ⟨b38, e39, h1⟩ := h1
          obtain ⟨b40, e41, h2⟩ := h2
          cases e39.symm.trans e41
          refine ⟨b38, e39, ?_⟩
          obtain ⟨c42, h1⟩ := h1
          obtain ⟨_, h2⟩ := h2
          refine ⟨c42, ?_⟩
          obtain ⟨c43, h1⟩ := h1
          obtain ⟨_, h2⟩ := h2
          refine ⟨c43, ?_⟩
          intro x45 e44
          have h1 := h1 x45 e44
          have h2 := h2 x45 e44
          refine ⟨?_, ?_⟩
          · intro c46
            have h1 := h1.1 c46
            have h2 := h2.1 c46
            intro x48 e47
            have h1 := h1 x48 e47
            have h2 := h2 x48 e47
            exact cm_X7_addLeg_82 h1 h2 hq
          · intro c49
            have h1 := h1.2 c49
            have h2 := h2.2 c49
            exact hq _ h1 h2
theorem cm_X7_addLeg {Q1 Q2 Q3 : HS → Prop} {v0 : Nat} {v1 : Nat} {v2 : Int32} {v3 : Int32} {v4 : Int64} {v6 : Int32} {S : HS} (h1 : P_X7_addLeg v0 v1 v2 v3 v4 v6 Q1 S) (h2 : P_X7_addLeg v0 v1 v2 v3 v4 v6 Q2 S) (hq : ∀ (T : HS), Q1 T → Q2 T → Q3 T) : P_X7_addLeg v0 v1 v2 v3 v4 v6 Q3 S := cm_X7_addLeg_0 h1 h2 hq
set_option maxRecDepth 20000 in
set_option maxHeartbeats 1000000 in
theorem cm_X7_keyOf_0 {Q1 Q2 Q3 : Int64 → HS → Prop} {v0 : Nat} {v1 : Int32} {v2 : Int32} {S : HS} (h1 : P_X7_keyOf_0 Q1 v0 v1 v2 S) (h2 : P_X7_keyOf_0 Q2 v0 v1 v2 S) (hq : ∀ (r : Int64) (T : HS), Q1 r T → Q2 r T → Q3 r T) : P_X7_keyOf_0 Q3 v0 v1 v2 S := by
  delta P_X7_keyOf_0 at h1 h2 ⊢
  intro x2 e1
  have h1 := h1 x2 e1
  have h2 := h2 x2 e1
  refine ⟨?_, ?_⟩
  · intro c3
    have h1 := h1.1 c3
    have h2 := h2.1 c3
    exact hq _ _ h1 h2
  · intro c4
    have h1 := h1.2 c4
    have h2 := h2.2 c4
    obtain ⟨c5, h1⟩ := h1
    obtain ⟨_, h2⟩ := h2
    refine ⟨c5, ?_⟩
    obtain ⟨b6, e7, h1⟩ := h1
    obtain ⟨b8, e9, h2⟩ := h2
    cases e7.symm.trans e9
    refine ⟨b6, e7, ?_⟩
    obtain ⟨c10, h1⟩ := h1
    obtain ⟨_, h2⟩ := h2
    refine ⟨c10, ?_⟩
    refine ⟨?_, ?_⟩
    · intro c11
      have h1 := h1.1 c11
      have h2 := h2.1 c11
      exact hq _ _ h1 h2
    · intro c12
      have h1 := h1.2 c12
      have h2 := h2.2 c12
      obtain ⟨b13, e14, h1⟩ := h1
      obtain ⟨b15, e16, h2⟩ := h2
      cases e14.symm.trans e16
      refine ⟨b13, e14, ?_⟩
      obtain ⟨c17, h1⟩ := h1
      obtain ⟨_, h2⟩ := h2
      refine ⟨c17, ?_⟩
      obtain ⟨c18, h1⟩ := h1
      obtain ⟨_, h2⟩ := h2
      refine ⟨c18, ?_⟩
      intro x20 e19
      have h1 := h1 x20 e19
      have h2 := h2 x20 e19
      exact hq _ _ h1 h2
theorem cm_X7_keyOf {Q1 Q2 Q3 : Int64 → HS → Prop} {v0 : Nat} {v1 : Int32} {v2 : Int32} {S : HS} (h1 : P_X7_keyOf v0 v1 v2 Q1 S) (h2 : P_X7_keyOf v0 v1 v2 Q2 S) (hq : ∀ (r : Int64) (T : HS), Q1 r T → Q2 r T → Q3 r T) : P_X7_keyOf v0 v1 v2 Q3 S := cm_X7_keyOf_0 h1 h2 hq
set_option maxRecDepth 20000 in
set_option maxHeartbeats 1000000 in
theorem cm_X7_endFrom_0 {Q1 Q2 Q3 : Int32 → HS → Prop} {v0 : Nat} {v1 : Int32} {v2 : Int32} {S : HS} (h1 : P_X7_endFrom_0 Q1 v0 v1 v2 S) (h2 : P_X7_endFrom_0 Q2 v0 v1 v2 S) (hq : ∀ (r : Int32) (T : HS), Q1 r T → Q2 r T → Q3 r T) : P_X7_endFrom_0 Q3 v0 v1 v2 S := by
  delta P_X7_endFrom_0 at h1 h2 ⊢
  obtain ⟨c1, h1⟩ := h1
  obtain ⟨_, h2⟩ := h2
  refine ⟨c1, ?_⟩
  refine cm_X7_keyOf h1 h2 (fun x2 x3 h1 h2 g4 => ?_)
  have h1 := h1 g4
  have h2 := h2 g4
  intro x6 e5
  have h1 := h1 x6 e5
  have h2 := h2 x6 e5
  exact hq _ _ h1 h2
theorem cm_X7_endFrom {Q1 Q2 Q3 : Int32 → HS → Prop} {v0 : Nat} {v1 : Int32} {v2 : Int32} {S : HS} (h1 : P_X7_endFrom v0 v1 v2 Q1 S) (h2 : P_X7_endFrom v0 v1 v2 Q2 S) (hq : ∀ (r : Int32) (T : HS), Q1 r T → Q2 r T → Q3 r T) : P_X7_endFrom v0 v1 v2 Q3 S := cm_X7_endFrom_0 h1 h2 hq
set_option maxRecDepth 20000 in
set_option maxHeartbeats 1000000 in
theorem cm_X7_forget_0 {Q1 Q2 Q3 : HS → Prop} {v0 : Nat} {S : HS} (h1 : P_X7_forget_0 Q1 v0 S) (h2 : P_X7_forget_0 Q2 v0 S) (hq : ∀ (T : HS), Q1 T → Q2 T → Q3 T) : P_X7_forget_0 Q3 v0 S := by
  delta P_X7_forget_0 at h1 h2 ⊢
  obtain ⟨c1, h1⟩ := h1
  obtain ⟨_, h2⟩ := h2
  refine ⟨c1, ?_⟩
  intro x3 e2
  have h1 := h1 x3 e2
  have h2 := h2 x3 e2
  exact hq _ h1 h2
theorem cm_X7_forget {Q1 Q2 Q3 : HS → Prop} {v0 : Nat} {S : HS} (h1 : P_X7_forget v0 Q1 S) (h2 : P_X7_forget v0 Q2 S) (hq : ∀ (T : HS), Q1 T → Q2 T → Q3 T) : P_X7_forget v0 Q3 S := cm_X7_forget_0 h1 h2 hq
set_option maxRecDepth 20000 in
set_option maxHeartbeats 1000000 in
theorem cm_X7_init_0 {Q1 Q2 Q3 : HS → Prop} {v0 : Nat} {S : HS} (h1 : P_X7_init_0 Q1 v0 S) (h2 : P_X7_init_0 Q2 v0 S) (hq : ∀ (T : HS), Q1 T → Q2 T → Q3 T) : P_X7_init_0 Q3 v0 S := by
  delta P_X7_init_0 at h1 h2 ⊢
  intro x2 e1
  have h1 := h1 x2 e1
  have h2 := h2 x2 e1
  intro x4 e3
  have h1 := h1 x4 e3
  have h2 := h2 x4 e3
  obtain ⟨c5, h1⟩ := h1
  obtain ⟨_, h2⟩ := h2
  refine ⟨c5, ?_⟩
  intro x7 e6
  have h1 := h1 x7 e6
  have h2 := h2 x7 e6
  intro x9 e8
  have h1 := h1 x9 e8
  have h2 := h2 x9 e8
  intro x11 e10
  have h1 := h1 x11 e10
  have h2 := h2 x11 e10
  intro x13 e12
  have h1 := h1 x13 e12
  have h2 := h2 x13 e12
  intro x15 e14
  have h1 := h1 x15 e14
  have h2 := h2 x15 e14
  intro x17 e16
  have h1 := h1 x17 e16
  have h2 := h2 x17 e16
  intro x19 e18
  have h1 := h1 x19 e18
  have h2 := h2 x19 e18
  intro x21 e20
  have h1 := h1 x21 e20
  have h2 := h2 x21 e20
  intro x23 e22
  have h1 := h1 x23 e22
  have h2 := h2 x23 e22
  intro x25 e24
  have h1 := h1 x25 e24
  have h2 := h2 x25 e24
  intro x27 e26
  have h1 := h1 x27 e26
  have h2 := h2 x27 e26
  intro x29 e28
  have h1 := h1 x29 e28
  have h2 := h2 x29 e28
  intro x31 e30
  have h1 := h1 x31 e30
  have h2 := h2 x31 e30
  intro x33 e32
  have h1 := h1 x33 e32
  have h2 := h2 x33 e32
  intro x35 e34
  have h1 := h1 x35 e34
  have h2 := h2 x35 e34
  intro x37 e36
  have h1 := h1 x37 e36
  have h2 := h2 x37 e36
  intro x39 e38
  have h1 := h1 x39 e38
  have h2 := h2 x39 e38
  intro x41 e40
  have h1 := h1 x41 e40
  have h2 := h2 x41 e40
  intro x43 e42
  have h1 := h1 x43 e42
  have h2 := h2 x43 e42
  intro x45 e44
  have h1 := h1 x45 e44
  have h2 := h2 x45 e44
  intro x47 e46
  have h1 := h1 x47 e46
  have h2 := h2 x47 e46
  intro x49 e48
  have h1 := h1 x49 e48
  have h2 := h2 x49 e48
  intro x51 e50
  have h1 := h1 x51 e50
  have h2 := h2 x51 e50
  intro x53 e52
  have h1 := h1 x53 e52
  have h2 := h2 x53 e52
  intro x55 e54
  have h1 := h1 x55 e54
  have h2 := h2 x55 e54
  intro x57 e56
  have h1 := h1 x57 e56
  have h2 := h2 x57 e56
  exact hq _ h1 h2
theorem cm_X7_init {Q1 Q2 Q3 : HS → Prop} {v0 : Nat} {S : HS} (h1 : P_X7_init v0 Q1 S) (h2 : P_X7_init v0 Q2 S) (hq : ∀ (T : HS), Q1 T → Q2 T → Q3 T) : P_X7_init v0 Q3 S := cm_X7_init_0 h1 h2 hq
set_option maxRecDepth 20000 in
set_option maxHeartbeats 1000000 in
theorem cm_X7_isOpen_0 {Q1 Q2 Q3 : Int32 → HS → Prop} {v0 : Nat} {v1 : Int32} {v2 : Int32} {S : HS} (h1 : P_X7_isOpen_0 Q1 v0 v1 v2 S) (h2 : P_X7_isOpen_0 Q2 v0 v1 v2 S) (hq : ∀ (r : Int32) (T : HS), Q1 r T → Q2 r T → Q3 r T) : P_X7_isOpen_0 Q3 v0 v1 v2 S := by
  delta P_X7_isOpen_0 at h1 h2 ⊢
  obtain ⟨c1, h1⟩ := h1
  obtain ⟨_, h2⟩ := h2
  refine ⟨c1, ?_⟩
  refine cm_X7_keyOf h1 h2 (fun x2 x3 h1 h2 g4 => ?_)
  have h1 := h1 g4
  have h2 := h2 g4
  refine ⟨?_, ?_⟩
  · intro c5
    have h1 := h1.1 c5
    have h2 := h2.1 c5
    exact hq _ _ h1 h2
  · intro c6
    have h1 := h1.2 c6
    have h2 := h2.2 c6
    exact hq _ _ h1 h2
theorem cm_X7_isOpen {Q1 Q2 Q3 : Int32 → HS → Prop} {v0 : Nat} {v1 : Int32} {v2 : Int32} {S : HS} (h1 : P_X7_isOpen v0 v1 v2 Q1 S) (h2 : P_X7_isOpen v0 v1 v2 Q2 S) (hq : ∀ (r : Int32) (T : HS), Q1 r T → Q2 r T → Q3 r T) : P_X7_isOpen v0 v1 v2 Q3 S := cm_X7_isOpen_0 h1 h2 hq
set_option maxRecDepth 20000 in
set_option maxHeartbeats 1000000 in
theorem cm_X7_makeRows_0 {Q1 Q2 Q3 : HS → Prop} {v0 : Nat} {S : HS} (h1 : P_X7_makeRows_0 Q1 v0 S) (h2 : P_X7_makeRows_0 Q2 v0 S) (hq : ∀ (T : HS), Q1 T → Q2 T → Q3 T) : P_X7_makeRows_0 Q3 v0 S := by
  delta P_X7_makeRows_0 at h1 h2 ⊢
  intro x2 e1
  have h1 := h1 x2 e1
  have h2 := h2 x2 e1
  intro x4 e3
  have h1 := h1 x4 e3
  have h2 := h2 x4 e3
  obtain ⟨c5, h1⟩ := h1
  obtain ⟨_, h2⟩ := h2
  refine ⟨c5, ?_⟩
  intro x7 e6
  have h1 := h1 x7 e6
  have h2 := h2 x7 e6
  intro x9 e8
  have h1 := h1 x9 e8
  have h2 := h2 x9 e8
  intro x11 e10
  have h1 := h1 x11 e10
  have h2 := h2 x11 e10
  intro x13 e12
  have h1 := h1 x13 e12
  have h2 := h2 x13 e12
  intro x15 e14
  have h1 := h1 x15 e14
  have h2 := h2 x15 e14
  intro x17 e16
  have h1 := h1 x17 e16
  have h2 := h2 x17 e16
  intro x19 e18
  have h1 := h1 x19 e18
  have h2 := h2 x19 e18
  intro x21 e20
  have h1 := h1 x21 e20
  have h2 := h2 x21 e20
  intro x23 e22
  have h1 := h1 x23 e22
  have h2 := h2 x23 e22
  intro x25 e24
  have h1 := h1 x25 e24
  have h2 := h2 x25 e24
  intro x27 e26
  have h1 := h1 x27 e26
  have h2 := h2 x27 e26
  intro x29 e28
  have h1 := h1 x29 e28
  have h2 := h2 x29 e28
  intro x31 e30
  have h1 := h1 x31 e30
  have h2 := h2 x31 e30
  intro x33 e32
  have h1 := h1 x33 e32
  have h2 := h2 x33 e32
  intro x35 e34
  have h1 := h1 x35 e34
  have h2 := h2 x35 e34
  intro x37 e36
  have h1 := h1 x37 e36
  have h2 := h2 x37 e36
  intro x39 e38
  have h1 := h1 x39 e38
  have h2 := h2 x39 e38
  intro x41 e40
  have h1 := h1 x41 e40
  have h2 := h2 x41 e40
  intro x43 e42
  have h1 := h1 x43 e42
  have h2 := h2 x43 e42
  intro x45 e44
  have h1 := h1 x45 e44
  have h2 := h2 x45 e44
  intro x47 e46
  have h1 := h1 x47 e46
  have h2 := h2 x47 e46
  intro x49 e48
  have h1 := h1 x49 e48
  have h2 := h2 x49 e48
  exact hq _ h1 h2
theorem cm_X7_makeRows {Q1 Q2 Q3 : HS → Prop} {v0 : Nat} {S : HS} (h1 : P_X7_makeRows v0 Q1 S) (h2 : P_X7_makeRows v0 Q2 S) (hq : ∀ (T : HS), Q1 T → Q2 T → Q3 T) : P_X7_makeRows v0 Q3 S := cm_X7_makeRows_0 h1 h2 hq
set_option maxRecDepth 20000 in
set_option maxHeartbeats 1000000 in
theorem cm_X7_meanFrom_0 {Q1 Q2 Q3 : Int64 → HS → Prop} {v0 : Nat} {v1 : Int32} {v2 : Int32} {S : HS} (h1 : P_X7_meanFrom_0 Q1 v0 v1 v2 S) (h2 : P_X7_meanFrom_0 Q2 v0 v1 v2 S) (hq : ∀ (r : Int64) (T : HS), Q1 r T → Q2 r T → Q3 r T) : P_X7_meanFrom_0 Q3 v0 v1 v2 S := by
  delta P_X7_meanFrom_0 at h1 h2 ⊢
  obtain ⟨c1, h1⟩ := h1
  obtain ⟨_, h2⟩ := h2
  refine ⟨c1, ?_⟩
  refine cm_X7_keyOf h1 h2 (fun x2 x3 h1 h2 g4 => ?_)
  have h1 := h1 g4
  have h2 := h2 g4
  intro x6 e5
  have h1 := h1 x6 e5
  have h2 := h2 x6 e5
  exact hq _ _ h1 h2
theorem cm_X7_meanFrom {Q1 Q2 Q3 : Int64 → HS → Prop} {v0 : Nat} {v1 : Int32} {v2 : Int32} {S : HS} (h1 : P_X7_meanFrom v0 v1 v2 Q1 S) (h2 : P_X7_meanFrom v0 v1 v2 Q2 S) (hq : ∀ (r : Int64) (T : HS), Q1 r T → Q2 r T → Q3 r T) : P_X7_meanFrom v0 v1 v2 Q3 S := cm_X7_meanFrom_0 h1 h2 hq
set_option maxRecDepth 20000 in
set_option maxHeartbeats 1000000 in
theorem cm_X8_hasPlace_0 {Q1 Q2 Q3 : Int32 → HS → Prop} {v0 : Nat} {v1 : Int32} {S : HS} (h1 : P_X8_hasPlace_0 Q1 v0 v1 S) (h2 : P_X8_hasPlace_0 Q2 v0 v1 S) (hq : ∀ (r : Int32) (T : HS), Q1 r T → Q2 r T → Q3 r T) : P_X8_hasPlace_0 Q3 v0 v1 S := by
  delta P_X8_hasPlace_0 at h1 h2 ⊢
  refine ⟨?_, ?_⟩
  · intro c1
    have h1 := h1.1 c1
    have h2 := h2.1 c1
    exact hq _ _ h1 h2
  · intro c2
    have h1 := h1.2 c2
    have h2 := h2.2 c2
    obtain ⟨c3, h1⟩ := h1
    obtain ⟨_, h2⟩ := h2
    refine ⟨c3, ?_⟩
    intro x5 e4
    have h1 := h1 x5 e4
    have h2 := h2 x5 e4
    refine ⟨?_, ?_⟩
    · intro c6
      have h1 := h1.1 c6
      have h2 := h2.1 c6
      exact hq _ _ h1 h2
    · intro c7
      have h1 := h1.2 c7
      have h2 := h2.2 c7
      obtain ⟨b8, e9, h1⟩ := h1
      obtain ⟨b10, e11, h2⟩ := h2
      cases e9.symm.trans e11
      refine ⟨b8, e9, ?_⟩
      obtain ⟨c12, h1⟩ := h1
      obtain ⟨_, h2⟩ := h2
      refine ⟨c12, ?_⟩
      refine ⟨?_, ?_⟩
      · intro c13
        have h1 := h1.1 c13
        have h2 := h2.1 c13
        exact hq _ _ h1 h2
      · intro c14
        have h1 := h1.2 c14
        have h2 := h2.2 c14
        exact hq _ _ h1 h2
theorem cm_X8_hasPlace {Q1 Q2 Q3 : Int32 → HS → Prop} {v0 : Nat} {v1 : Int32} {S : HS} (h1 : P_X8_hasPlace v0 v1 Q1 S) (h2 : P_X8_hasPlace v0 v1 Q2 S) (hq : ∀ (r : Int32) (T : HS), Q1 r T → Q2 r T → Q3 r T) : P_X8_hasPlace v0 v1 Q3 S := cm_X8_hasPlace_0 h1 h2 hq
set_option maxRecDepth 20000 in
set_option maxHeartbeats 1000000 in
theorem cm_X8_canWait_0 {Q1 Q2 Q3 : Int32 → HS → Prop} {v0 : Nat} {v1 : Int32} {S : HS} (h1 : P_X8_canWait_0 Q1 v0 v1 S) (h2 : P_X8_canWait_0 Q2 v0 v1 S) (hq : ∀ (r : Int32) (T : HS), Q1 r T → Q2 r T → Q3 r T) : P_X8_canWait_0 Q3 v0 v1 S := by
  delta P_X8_canWait_0 at h1 h2 ⊢
  obtain ⟨c1, h1⟩ := h1
  obtain ⟨_, h2⟩ := h2
  refine ⟨c1, ?_⟩
  refine cm_X8_hasPlace h1 h2 (fun x2 x3 h1 h2 g4 g5 => ?_)
  have h1 := h1 g4 g5
  have h2 := h2 g4 g5
  refine ⟨?_, ?_⟩
  · intro c6
    have h1 := h1.1 c6
    have h2 := h2.1 c6
    exact hq _ _ h1 h2
  · intro c7
    have h1 := h1.2 c7
    have h2 := h2.2 c7
    obtain ⟨b8, e9, h1⟩ := h1
    obtain ⟨b10, e11, h2⟩ := h2
    cases e9.symm.trans e11
    refine ⟨b8, e9, ?_⟩
    obtain ⟨c12, h1⟩ := h1
    obtain ⟨_, h2⟩ := h2
    refine ⟨c12, ?_⟩
    obtain ⟨c13, h1⟩ := h1
    obtain ⟨_, h2⟩ := h2
    refine ⟨c13, ?_⟩
    intro x15 e14
    have h1 := h1 x15 e14
    have h2 := h2 x15 e14
    refine ⟨?_, ?_⟩
    · intro c16
      have h1 := h1.1 c16
      have h2 := h2.1 c16
      exact hq _ _ h1 h2
    · intro c17
      have h1 := h1.2 c17
      have h2 := h2.2 c17
      exact hq _ _ h1 h2
theorem cm_X8_canWait {Q1 Q2 Q3 : Int32 → HS → Prop} {v0 : Nat} {v1 : Int32} {S : HS} (h1 : P_X8_canWait v0 v1 Q1 S) (h2 : P_X8_canWait v0 v1 Q2 S) (hq : ∀ (r : Int32) (T : HS), Q1 r T → Q2 r T → Q3 r T) : P_X8_canWait v0 v1 Q3 S := cm_X8_canWait_0 h1 h2 hq
set_option maxRecDepth 20000 in
set_option maxHeartbeats 1000000 in
theorem cm_X8_dripOn_0 {Q1 Q2 Q3 : Int32 → HS → Prop} {v0 : Nat} {v1 : Nat} {v2 : Int32} {S : HS} (h1 : P_X8_dripOn_0 Q1 v0 v1 v2 S) (h2 : P_X8_dripOn_0 Q2 v0 v1 v2 S) (hq : ∀ (r : Int32) (T : HS), Q1 r T → Q2 r T → Q3 r T) : P_X8_dripOn_0 Q3 v0 v1 v2 S := by
  delta P_X8_dripOn_0 at h1 h2 ⊢
  obtain ⟨c1, h1⟩ := h1
  obtain ⟨_, h2⟩ := h2
  refine ⟨c1, ?_⟩
  refine cm_X8_canWait h1 h2 (fun x2 x3 h1 h2 g4 g5 => ?_)
  have h1 := h1 g4 g5
  have h2 := h2 g4 g5
  refine ⟨?_, ?_⟩
  · intro c6
    have h1 := h1.1 c6
    have h2 := h2.1 c6
    exact hq _ _ h1 h2
  · intro c7
    have h1 := h1.2 c7
    have h2 := h2.2 c7
    obtain ⟨b8, e9, h1⟩ := h1
    obtain ⟨b10, e11, h2⟩ := h2
    cases e9.symm.trans e11
    refine ⟨b8, e9, ?_⟩
    obtain ⟨c12, h1⟩ := h1
    obtain ⟨_, h2⟩ := h2
    refine ⟨c12, ?_⟩
    obtain ⟨c13, h1⟩ := h1
    obtain ⟨_, h2⟩ := h2
    refine ⟨c13, ?_⟩
    intro x15 e14
    have h1 := h1 x15 e14
    have h2 := h2 x15 e14
    obtain ⟨c16, h1⟩ := h1
    obtain ⟨_, h2⟩ := h2
    refine ⟨c16, ?_⟩
    intro x18 e17
    have h1 := h1 x18 e17
    have h2 := h2 x18 e17
    refine cm_X6_shield h1 h2 (fun x19 x20 h1 h2 g21 => ?_)
    have h1 := h1 g21
    have h2 := h2 g21
    intro x23 e22
    have h1 := h1 x23 e22
    have h2 := h2 x23 e22
    exact hq _ _ h1 h2
theorem cm_X8_dripOn {Q1 Q2 Q3 : Int32 → HS → Prop} {v0 : Nat} {v1 : Nat} {v2 : Int32} {S : HS} (h1 : P_X8_dripOn v0 v1 v2 Q1 S) (h2 : P_X8_dripOn v0 v1 v2 Q2 S) (hq : ∀ (r : Int32) (T : HS), Q1 r T → Q2 r T → Q3 r T) : P_X8_dripOn v0 v1 v2 Q3 S := cm_X8_dripOn_0 h1 h2 hq
set_option maxRecDepth 20000 in
set_option maxHeartbeats 1000000 in
theorem cm_X8_hasHour_0 {Q1 Q2 Q3 : Int32 → HS → Prop} {v0 : Nat} {v1 : Int32} {S : HS} (h1 : P_X8_hasHour_0 Q1 v0 v1 S) (h2 : P_X8_hasHour_0 Q2 v0 v1 S) (hq : ∀ (r : Int32) (T : HS), Q1 r T → Q2 r T → Q3 r T) : P_X8_hasHour_0 Q3 v0 v1 S := by
  delta P_X8_hasHour_0 at h1 h2 ⊢
  refine ⟨?_, ?_⟩
  · intro c1
    have h1 := h1.1 c1
    have h2 := h2.1 c1
    exact hq _ _ h1 h2
  · intro c2
    have h1 := h1.2 c2
    have h2 := h2.2 c2
    obtain ⟨c3, h1⟩ := h1
    obtain ⟨_, h2⟩ := h2
    refine ⟨c3, ?_⟩
    intro x5 e4
    have h1 := h1 x5 e4
    have h2 := h2 x5 e4
    refine ⟨?_, ?_⟩
    · intro c6
      have h1 := h1.1 c6
      have h2 := h2.1 c6
      exact hq _ _ h1 h2
    · intro c7
      have h1 := h1.2 c7
      have h2 := h2.2 c7
      obtain ⟨b8, e9, h1⟩ := h1
      obtain ⟨b10, e11, h2⟩ := h2
      cases e9.symm.trans e11
      refine ⟨b8, e9, ?_⟩
      obtain ⟨c12, h1⟩ := h1
      obtain ⟨_, h2⟩ := h2
      refine ⟨c12, ?_⟩
      refine ⟨?_, ?_⟩
      · intro c13
        have h1 := h1.1 c13
        have h2 := h2.1 c13
        exact hq _ _ h1 h2
      · intro c14
        have h1 := h1.2 c14
        have h2 := h2.2 c14
        exact hq _ _ h1 h2
theorem cm_X8_hasHour {Q1 Q2 Q3 : Int32 → HS → Prop} {v0 : Nat} {v1 : Int32} {S : HS} (h1 : P_X8_hasHour v0 v1 Q1 S) (h2 : P_X8_hasHour v0 v1 Q2 S) (hq : ∀ (r : Int32) (T : HS), Q1 r T → Q2 r T → Q3 r T) : P_X8_hasHour v0 v1 Q3 S := cm_X8_hasHour_0 h1 h2 hq
set_option maxRecDepth 20000 in
set_option maxHeartbeats 1000000 in
theorem cm_X7_price_134 {Q1 Q2 Q3 : HS → Prop} {X51_1 X51_2 X51_3 : Nat → Nat → Nat → Int32 → Nat → Int32 → Int32 → HS → Prop} {X86_1 X86_2 X86_3 : Nat → Nat → Nat → Int32 → Nat → Int32 → Int32 → Nat → Int32 → Int32 → HS → Prop} {v0 : Nat} {v1 : Nat} {v2 : Nat} {v3 : Int32} {v4 : Nat} {v5 : Int32} {v6 : Int32} {v7 : Nat} {v8 : Int32} {v9 : Int32} {s0 : Int64} {S : HS} (h1 : P_X7_price_134 Q1 X51_1 X86_1 v0 v1 v2 v3 v4 v5 v6 v7 v8 v9 s0 S) (h2 : P_X7_price_134 Q2 X51_2 X86_2 v0 v1 v2 v3 v4 v5 v6 v7 v8 v9 s0 S) (hq : ∀ (T : HS), Q1 T → Q2 T → Q3 T) (hX51 : ∀ (u0 : Nat) (u1 : Nat) (u2 : Nat) (u3 : Int32) (u4 : Nat) (u5 : Int32) (u6 : Int32) (u7 : HS), X51_1 u0 u1 u2 u3 u4 u5 u6 u7 → X51_2 u0 u1 u2 u3 u4 u5 u6 u7 → X51_3 u0 u1 u2 u3 u4 u5 u6 u7) (hX86 : ∀ (u0 : Nat) (u1 : Nat) (u2 : Nat) (u3 : Int32) (u4 : Nat) (u5 : Int32) (u6 : Int32) (u7 : Nat) (u8 : Int32) (u9 : Int32) (u10 : HS), X86_1 u0 u1 u2 u3 u4 u5 u6 u7 u8 u9 u10 → X86_2 u0 u1 u2 u3 u4 u5 u6 u7 u8 u9 u10 → X86_3 u0 u1 u2 u3 u4 u5 u6 u7 u8 u9 u10) : P_X7_price_134 Q3 X51_3 X86_3 v0 v1 v2 v3 v4 v5 v6 v7 v8 v9 s0 S := by
  delta P_X7_price_134 at h1 h2 ⊢
  intro x2 e1
  have h1 := h1 x2 e1
  have h2 := h2 x2 e1
  obtain ⟨c3, h1⟩ := h1
  obtain ⟨_, h2⟩ := h2
  refine ⟨c3, ?_⟩
  refine cm_X7_addLeg h1 h2 (fun x4 h1 h2 g5 => ?_)
  have h1 := h1 g5
  have h2 := h2 g5
  intro x7 e6
  have h1 := h1 x7 e6
  have h2 := h2 x7 e6
  exact hX86 _ _ _ _ _ _ _ _ _ _ _ h1 h2
set_option maxRecDepth 20000 in
set_option maxHeartbeats 1000000 in
theorem cmB_X7_price_86 {Q1 Q2 Q3 : HS → Prop} {X51_1 X51_2 X51_3 : Nat → Nat → Nat → Int32 → Nat → Int32 → Int32 → HS → Prop} {X86_1 X86_2 X86_3 : Nat → Nat → Nat → Int32 → Nat → Int32 → Int32 → Nat → Int32 → Int32 → HS → Prop} {v0 : Nat} {v1 : Nat} {v2 : Nat} {v3 : Int32} {v4 : Nat} {v5 : Int32} {v6 : Int32} {v7 : Nat} {v8 : Int32} {v9 : Int32} {S : HS} (h1 : B_X7_price_86 Q1 X51_1 X86_1 v0 v1 v2 v3 v4 v5 v6 v7 v8 v9 S) (h2 : B_X7_price_86 Q2 X51_2 X86_2 v0 v1 v2 v3 v4 v5 v6 v7 v8 v9 S) (hq : ∀ (T : HS), Q1 T → Q2 T → Q3 T) (hX51 : ∀ (u0 : Nat) (u1 : Nat) (u2 : Nat) (u3 : Int32) (u4 : Nat) (u5 : Int32) (u6 : Int32) (u7 : HS), X51_1 u0 u1 u2 u3 u4 u5 u6 u7 → X51_2 u0 u1 u2 u3 u4 u5 u6 u7 → X51_3 u0 u1 u2 u3 u4 u5 u6 u7) (hX86 : ∀ (u0 : Nat) (u1 : Nat) (u2 : Nat) (u3 : Int32) (u4 : Nat) (u5 : Int32) (u6 : Int32) (u7 : Nat) (u8 : Int32) (u9 : Int32) (u10 : HS), X86_1 u0 u1 u2 u3 u4 u5 u6 u7 u8 u9 u10 → X86_2 u0 u1 u2 u3 u4 u5 u6 u7 u8 u9 u10 → X86_3 u0 u1 u2 u3 u4 u5 u6 u7 u8 u9 u10) : B_X7_price_86 Q3 X51_3 X86_3 v0 v1 v2 v3 v4 v5 v6 v7 v8 v9 S := by
  delta B_X7_price_86 at h1 h2 ⊢
  obtain ⟨c1, h1⟩ := h1
  obtain ⟨_, h2⟩ := h2
  refine ⟨c1, ?_⟩
  intro x3 e2
  have h1 := h1 x3 e2
  have h2 := h2 x3 e2
  refine ⟨?_, ?_⟩
  · intro c4
    have h1 := h1.1 c4
    have h2 := h2.1 c4
    intro x6 e5
    have h1 := h1 x6 e5
    have h2 := h2 x6 e5
    exact hX51 _ _ _ _ _ _ _ _ h1 h2
  · intro c7
    have h1 := h1.2 c7
    have h2 := h2.2 c7
    refine ⟨?_, ?_⟩
    · intro c8
      have h1 := h1.1 c8
      have h2 := h2.1 c8
      obtain ⟨c9, h1⟩ := h1
      obtain ⟨_, h2⟩ := h2
      refine ⟨c9, ?_⟩
      obtain ⟨b10, e11, h1⟩ := h1
      obtain ⟨b12, e13, h2⟩ := h2
      cases e11.symm.trans e13
      refine ⟨b10, e11, ?_⟩
      obtain ⟨c14, h1⟩ := h1
      obtain ⟨_, h2⟩ := h2
      refine ⟨c14, ?_⟩
      obtain ⟨c15, h1⟩ := h1
      obtain ⟨_, h2⟩ := h2
      refine ⟨c15, ?_⟩
      obtain ⟨b16, e17, h1⟩ := h1
      obtain ⟨b18, e19, h2⟩ := h2
      cases e17.symm.trans e19
      refine ⟨b16, e17, ?_⟩
      obtain ⟨c20, h1⟩ := h1
      obtain ⟨_, h2⟩ := h2
      refine ⟨c20, ?_⟩
      refine cm_X1_wetOf h1 h2 (fun x21 x22 h1 h2 g23 => ?_)
      have h1 := h1 g23
      have h2 := h2 g23
      obtain ⟨b24, e25, h1⟩ := h1
      obtain ⟨b26, e27, h2⟩ := h2
      cases e25.symm.trans e27
      refine ⟨b24, e25, ?_⟩
      obtain ⟨c28, h1⟩ := h1
      obtain ⟨_, h2⟩ := h2
      refine ⟨c28, ?_⟩
      obtain ⟨c29, h1⟩ := h1
      obtain ⟨_, h2⟩ := h2
      refine ⟨c29, ?_⟩
      obtain ⟨b30, e31, h1⟩ := h1
      obtain ⟨b32, e33, h2⟩ := h2
      cases e31.symm.trans e33
      refine ⟨b30, e31, ?_⟩
      obtain ⟨c34, h1⟩ := h1
      obtain ⟨_, h2⟩ := h2
      refine ⟨c34, ?_⟩
      intro x36 e35
      have h1 := h1 x36 e35
      have h2 := h2 x36 e35
      exact cm_X7_price_134 h1 h2 hq hX51 hX86
    · intro c37
      have h1 := h1.2 c37
      have h2 := h2.2 c37
      exact cm_X7_price_134 h1 h2 hq hX51 hX86
theorem fd_X7_price_86 {Q : HS → Prop} {X51 : Nat → Nat → Nat → Int32 → Nat → Int32 → Int32 → HS → Prop} {v0 : Nat} {v1 : Nat} {v2 : Nat} {v3 : Int32} {v4 : Nat} {v5 : Int32} {v6 : Int32} {v7 : Nat} {v8 : Int32} {v9 : Int32} {S : HS} (h : B_X7_price_86 Q X51 (P_X7_price_86 Q X51) v0 v1 v2 v3 v4 v5 v6 v7 v8 v9 S) : P_X7_price_86 Q X51 v0 v1 v2 v3 v4 v5 v6 v7 v8 v9 S := fun X hX => hX v0 v1 v2 v3 v4 v5 v6 v7 v8 v9 S (cmB_X7_price_86 h h (fun _ a _ => a) (fun _ _ _ _ _ _ _ _ a _ => a) (fun _ _ _ _ _ _ _ _ _ _ _ hp _ => hp X hX))
theorem uf_X7_price_86 {Q : HS → Prop} {X51 : Nat → Nat → Nat → Int32 → Nat → Int32 → Int32 → HS → Prop} {v0 : Nat} {v1 : Nat} {v2 : Nat} {v3 : Int32} {v4 : Nat} {v5 : Int32} {v6 : Int32} {v7 : Nat} {v8 : Int32} {v9 : Int32} {S : HS} (h : P_X7_price_86 Q X51 v0 v1 v2 v3 v4 v5 v6 v7 v8 v9 S) : B_X7_price_86 Q X51 (P_X7_price_86 Q X51) v0 v1 v2 v3 v4 v5 v6 v7 v8 v9 S := h (fun v0 v1 v2 v3 v4 v5 v6 v7 v8 v9 S => B_X7_price_86 Q X51 (P_X7_price_86 Q X51) v0 v1 v2 v3 v4 v5 v6 v7 v8 v9 S) (fun v0 v1 v2 v3 v4 v5 v6 v7 v8 v9 S hB => cmB_X7_price_86 hB hB (fun _ a _ => a) (fun _ _ _ _ _ _ _ _ a _ => a) (fun _ _ _ _ _ _ _ _ _ _ _ hb _ => fd_X7_price_86 hb))
theorem cm_X7_price_86 {Q1 Q2 Q3 : HS → Prop} {X51_1 X51_2 X51_3 : Nat → Nat → Nat → Int32 → Nat → Int32 → Int32 → HS → Prop} {v0 : Nat} {v1 : Nat} {v2 : Nat} {v3 : Int32} {v4 : Nat} {v5 : Int32} {v6 : Int32} {v7 : Nat} {v8 : Int32} {v9 : Int32} {S : HS} (h1 : P_X7_price_86 Q1 X51_1 v0 v1 v2 v3 v4 v5 v6 v7 v8 v9 S) (h2 : P_X7_price_86 Q2 X51_2 v0 v1 v2 v3 v4 v5 v6 v7 v8 v9 S) (hq : ∀ (T : HS), Q1 T → Q2 T → Q3 T) (hX51 : ∀ (u0 : Nat) (u1 : Nat) (u2 : Nat) (u3 : Int32) (u4 : Nat) (u5 : Int32) (u6 : Int32) (u7 : HS), X51_1 u0 u1 u2 u3 u4 u5 u6 u7 → X51_2 u0 u1 u2 u3 u4 u5 u6 u7 → X51_3 u0 u1 u2 u3 u4 u5 u6 u7) : P_X7_price_86 Q3 X51_3 v0 v1 v2 v3 v4 v5 v6 v7 v8 v9 S := h1 (fun v0 v1 v2 v3 v4 v5 v6 v7 v8 v9 S => P_X7_price_86 Q2 X51_2 v0 v1 v2 v3 v4 v5 v6 v7 v8 v9 S → P_X7_price_86 Q3 X51_3 v0 v1 v2 v3 v4 v5 v6 v7 v8 v9 S) (fun v0 v1 v2 v3 v4 v5 v6 v7 v8 v9 S hB hp => fd_X7_price_86 (cmB_X7_price_86 hB (uf_X7_price_86 hp) hq hX51 (fun _ _ _ _ _ _ _ _ _ _ _ hx hp => hx hp))) h2
set_option maxRecDepth 20000 in
set_option maxHeartbeats 1000000 in
theorem cm_X7_price_245 {Q1 Q2 Q3 : HS → Prop} {X179_1 X179_2 X179_3 : Nat → Nat → Int32 → Nat → Int32 → Int32 → HS → Prop} {v0 : Nat} {v1 : Nat} {v3 : Int32} {v4 : Nat} {v5 : Int32} {v6 : Int32} {S : HS} (h1 : P_X7_price_245 Q1 X179_1 v0 v1 v3 v4 v5 v6 S) (h2 : P_X7_price_245 Q2 X179_2 v0 v1 v3 v4 v5 v6 S) (hq : ∀ (T : HS), Q1 T → Q2 T → Q3 T) (hX179 : ∀ (u0 : Nat) (u1 : Nat) (u2 : Int32) (u3 : Nat) (u4 : Int32) (u5 : Int32) (u6 : HS), X179_1 u0 u1 u2 u3 u4 u5 u6 → X179_2 u0 u1 u2 u3 u4 u5 u6 → X179_3 u0 u1 u2 u3 u4 u5 u6) : P_X7_price_245 Q3 X179_3 v0 v1 v3 v4 v5 v6 S := by
  delta P_X7_price_245 at h1 h2 ⊢
  intro x2 e1
  have h1 := h1 x2 e1
  have h2 := h2 x2 e1
  exact hX179 _ _ _ _ _ _ _ h1 h2
set_option maxRecDepth 20000 in
set_option maxHeartbeats 1000000 in
theorem cm_X7_price_230 {Q1 Q2 Q3 : HS → Prop} {X179_1 X179_2 X179_3 : Nat → Nat → Int32 → Nat → Int32 → Int32 → HS → Prop} {v0 : Nat} {v1 : Nat} {v3 : Int32} {v4 : Nat} {v5 : Int32} {v6 : Int32} {s0 : Int64} {S : HS} (h1 : P_X7_price_230 Q1 X179_1 v0 v1 v3 v4 v5 v6 s0 S) (h2 : P_X7_price_230 Q2 X179_2 v0 v1 v3 v4 v5 v6 s0 S) (hq : ∀ (T : HS), Q1 T → Q2 T → Q3 T) (hX179 : ∀ (u0 : Nat) (u1 : Nat) (u2 : Int32) (u3 : Nat) (u4 : Int32) (u5 : Int32) (u6 : HS), X179_1 u0 u1 u2 u3 u4 u5 u6 → X179_2 u0 u1 u2 u3 u4 u5 u6 → X179_3 u0 u1 u2 u3 u4 u5 u6) : P_X7_price_230 Q3 X179_3 v0 v1 v3 v4 v5 v6 s0 S := by
  delta P_X7_price_230 at h1 h2 ⊢
  obtain ⟨c1, h1⟩ := h1
  obtain ⟨_, h2⟩ := h2
  refine ⟨c1, ?_⟩
  refine cm_X7_addMove h1 h2 (fun x2 h1 h2 g3 => ?_)
  have h1 := h1 g3
  have h2 := h2 g3
  exact cm_X7_price_245 h1 h2 hq hX179
set_option maxRecDepth 20000 in
set_option maxHeartbeats 1000000 in
theorem cmB_X7_price_179 {Q1 Q2 Q3 : HS → Prop} {X179_1 X179_2 X179_3 : Nat → Nat → Int32 → Nat → Int32 → Int32 → HS → Prop} {v0 : Nat} {v1 : Nat} {v3 : Int32} {v4 : Nat} {v5 : Int32} {v6 : Int32} {S : HS} (h1 : B_X7_price_179 Q1 X179_1 v0 v1 v3 v4 v5 v6 S) (h2 : B_X7_price_179 Q2 X179_2 v0 v1 v3 v4 v5 v6 S) (hq : ∀ (T : HS), Q1 T → Q2 T → Q3 T) (hX179 : ∀ (u0 : Nat) (u1 : Nat) (u2 : Int32) (u3 : Nat) (u4 : Int32) (u5 : Int32) (u6 : HS), X179_1 u0 u1 u2 u3 u4 u5 u6 → X179_2 u0 u1 u2 u3 u4 u5 u6 → X179_3 u0 u1 u2 u3 u4 u5 u6) : B_X7_price_179 Q3 X179_3 v0 v1 v3 v4 v5 v6 S := by
  delta B_X7_price_179 at h1 h2 ⊢
  obtain ⟨c1, h1⟩ := h1
  obtain ⟨_, h2⟩ := h2
  refine ⟨c1, ?_⟩
  intro x3 e2
  have h1 := h1 x3 e2
  have h2 := h2 x3 e2
  refine ⟨?_, ?_⟩
  · intro c4
    have h1 := h1.1 c4
    have h2 := h2.1 c4
    exact hq _ h1 h2
  · intro c5
    have h1 := h1.2 c5
    have h2 := h2.2 c5
    refine cm_X8_canWait h1 h2 (fun x6 x7 h1 h2 g8 g9 => ?_)
    have h1 := h1 g8 g9
    have h2 := h2 g8 g9
    refine ⟨?_, ?_⟩
    · intro c10
      have h1 := h1.1 c10
      have h2 := h2.1 c10
      exact cm_X7_price_245 h1 h2 hq hX179
    · intro c11
      have h1 := h1.2 c11
      have h2 := h2.2 c11
      refine ⟨?_, ?_⟩
      · intro c12
        have h1 := h1.1 c12
        have h2 := h2.1 c12
        refine cm_X8_dripOn h1 h2 (fun x13 x14 h1 h2 g15 => ?_)
        have h1 := h1 g15
        have h2 := h2 g15
        obtain ⟨b16, e17, h1⟩ := h1
        obtain ⟨b18, e19, h2⟩ := h2
        cases e17.symm.trans e19
        refine ⟨b16, e17, ?_⟩
        obtain ⟨c20, h1⟩ := h1
        obtain ⟨_, h2⟩ := h2
        refine ⟨c20, ?_⟩
        obtain ⟨c21, h1⟩ := h1
        obtain ⟨_, h2⟩ := h2
        refine ⟨c21, ?_⟩
        obtain ⟨b22, e23, h1⟩ := h1
        obtain ⟨b24, e25, h2⟩ := h2
        cases e23.symm.trans e25
        refine ⟨b22, e23, ?_⟩
        obtain ⟨c26, h1⟩ := h1
        obtain ⟨_, h2⟩ := h2
        refine ⟨c26, ?_⟩
        intro x28 e27
        have h1 := h1 x28 e27
        have h2 := h2 x28 e27
        exact cm_X7_price_230 h1 h2 hq hX179
      · intro c29
        have h1 := h1.2 c29
        have h2 := h2.2 c29
        exact cm_X7_price_230 h1 h2 hq hX179
theorem fd_X7_price_179 {Q : HS → Prop} {v0 : Nat} {v1 : Nat} {v3 : Int32} {v4 : Nat} {v5 : Int32} {v6 : Int32} {S : HS} (h : B_X7_price_179 Q (P_X7_price_179 Q) v0 v1 v3 v4 v5 v6 S) : P_X7_price_179 Q v0 v1 v3 v4 v5 v6 S := fun X hX => hX v0 v1 v3 v4 v5 v6 S (cmB_X7_price_179 h h (fun _ a _ => a) (fun _ _ _ _ _ _ _ hp _ => hp X hX))
theorem uf_X7_price_179 {Q : HS → Prop} {v0 : Nat} {v1 : Nat} {v3 : Int32} {v4 : Nat} {v5 : Int32} {v6 : Int32} {S : HS} (h : P_X7_price_179 Q v0 v1 v3 v4 v5 v6 S) : B_X7_price_179 Q (P_X7_price_179 Q) v0 v1 v3 v4 v5 v6 S := h (fun v0 v1 v3 v4 v5 v6 S => B_X7_price_179 Q (P_X7_price_179 Q) v0 v1 v3 v4 v5 v6 S) (fun v0 v1 v3 v4 v5 v6 S hB => cmB_X7_price_179 hB hB (fun _ a _ => a) (fun _ _ _ _ _ _ _ hb _ => fd_X7_price_179 hb))
theorem cm_X7_price_179 {Q1 Q2 Q3 : HS → Prop} {v0 : Nat} {v1 : Nat} {v3 : Int32} {v4 : Nat} {v5 : Int32} {v6 : Int32} {S : HS} (h1 : P_X7_price_179 Q1 v0 v1 v3 v4 v5 v6 S) (h2 : P_X7_price_179 Q2 v0 v1 v3 v4 v5 v6 S) (hq : ∀ (T : HS), Q1 T → Q2 T → Q3 T) : P_X7_price_179 Q3 v0 v1 v3 v4 v5 v6 S := h1 (fun v0 v1 v3 v4 v5 v6 S => P_X7_price_179 Q2 v0 v1 v3 v4 v5 v6 S → P_X7_price_179 Q3 v0 v1 v3 v4 v5 v6 S) (fun v0 v1 v3 v4 v5 v6 S hB hp => fd_X7_price_179 (cmB_X7_price_179 hB (uf_X7_price_179 hp) hq (fun _ _ _ _ _ _ _ hx hp => hx hp))) h2
set_option maxRecDepth 20000 in
set_option maxHeartbeats 1000000 in
theorem cmB_X7_price_51 {Q1 Q2 Q3 : HS → Prop} {X51_1 X51_2 X51_3 : Nat → Nat → Nat → Int32 → Nat → Int32 → Int32 → HS → Prop} {v0 : Nat} {v1 : Nat} {v2 : Nat} {v3 : Int32} {v4 : Nat} {v5 : Int32} {v6 : Int32} {S : HS} (h1 : B_X7_price_51 Q1 X51_1 v0 v1 v2 v3 v4 v5 v6 S) (h2 : B_X7_price_51 Q2 X51_2 v0 v1 v2 v3 v4 v5 v6 S) (hq : ∀ (T : HS), Q1 T → Q2 T → Q3 T) (hX51 : ∀ (u0 : Nat) (u1 : Nat) (u2 : Nat) (u3 : Int32) (u4 : Nat) (u5 : Int32) (u6 : Int32) (u7 : HS), X51_1 u0 u1 u2 u3 u4 u5 u6 u7 → X51_2 u0 u1 u2 u3 u4 u5 u6 u7 → X51_3 u0 u1 u2 u3 u4 u5 u6 u7) : B_X7_price_51 Q3 X51_3 v0 v1 v2 v3 v4 v5 v6 S := by
  delta B_X7_price_51 at h1 h2 ⊢
  obtain ⟨c1, h1⟩ := h1
  obtain ⟨_, h2⟩ := h2
  refine ⟨c1, ?_⟩
  intro x3 e2
  have h1 := h1 x3 e2
  have h2 := h2 x3 e2
  refine ⟨?_, ?_⟩
  · intro c4
    have h1 := h1.1 c4
    have h2 := h2.1 c4
    exact cm_X7_price_179 h1 h2 hq
  · intro c5
    have h1 := h1.2 c5
    have h2 := h2.2 c5
    obtain ⟨b6, e7, h1⟩ := h1
    obtain ⟨b8, e9, h2⟩ := h2
    cases e7.symm.trans e9
    refine ⟨b6, e7, ?_⟩
    intro x11 e10
    have h1 := h1 x11 e10
    have h2 := h2 x11 e10
    obtain ⟨c12, h1⟩ := h1
    obtain ⟨_, h2⟩ := h2
    refine ⟨c12, ?_⟩
    obtain ⟨c13, h1⟩ := h1
    obtain ⟨_, h2⟩ := h2
    refine ⟨c13, ?_⟩
    obtain ⟨b14, e15, h1⟩ := h1
    obtain ⟨b16, e17, h2⟩ := h2
    cases e15.symm.trans e17
    refine ⟨b14, e15, ?_⟩
    intro x19 e18
    have h1 := h1 x19 e18
    have h2 := h2 x19 e18
    obtain ⟨c20, h1⟩ := h1
    obtain ⟨_, h2⟩ := h2
    refine ⟨c20, ?_⟩
    intro x22 e21
    have h1 := h1 x22 e21
    have h2 := h2 x22 e21
    exact cm_X7_price_86 h1 h2 hq hX51
theorem fd_X7_price_51 {Q : HS → Prop} {v0 : Nat} {v1 : Nat} {v2 : Nat} {v3 : Int32} {v4 : Nat} {v5 : Int32} {v6 : Int32} {S : HS} (h : B_X7_price_51 Q (P_X7_price_51 Q) v0 v1 v2 v3 v4 v5 v6 S) : P_X7_price_51 Q v0 v1 v2 v3 v4 v5 v6 S := fun X hX => hX v0 v1 v2 v3 v4 v5 v6 S (cmB_X7_price_51 h h (fun _ a _ => a) (fun _ _ _ _ _ _ _ _ hp _ => hp X hX))
theorem uf_X7_price_51 {Q : HS → Prop} {v0 : Nat} {v1 : Nat} {v2 : Nat} {v3 : Int32} {v4 : Nat} {v5 : Int32} {v6 : Int32} {S : HS} (h : P_X7_price_51 Q v0 v1 v2 v3 v4 v5 v6 S) : B_X7_price_51 Q (P_X7_price_51 Q) v0 v1 v2 v3 v4 v5 v6 S := h (fun v0 v1 v2 v3 v4 v5 v6 S => B_X7_price_51 Q (P_X7_price_51 Q) v0 v1 v2 v3 v4 v5 v6 S) (fun v0 v1 v2 v3 v4 v5 v6 S hB => cmB_X7_price_51 hB hB (fun _ a _ => a) (fun _ _ _ _ _ _ _ _ hb _ => fd_X7_price_51 hb))
theorem cm_X7_price_51 {Q1 Q2 Q3 : HS → Prop} {v0 : Nat} {v1 : Nat} {v2 : Nat} {v3 : Int32} {v4 : Nat} {v5 : Int32} {v6 : Int32} {S : HS} (h1 : P_X7_price_51 Q1 v0 v1 v2 v3 v4 v5 v6 S) (h2 : P_X7_price_51 Q2 v0 v1 v2 v3 v4 v5 v6 S) (hq : ∀ (T : HS), Q1 T → Q2 T → Q3 T) : P_X7_price_51 Q3 v0 v1 v2 v3 v4 v5 v6 S := h1 (fun v0 v1 v2 v3 v4 v5 v6 S => P_X7_price_51 Q2 v0 v1 v2 v3 v4 v5 v6 S → P_X7_price_51 Q3 v0 v1 v2 v3 v4 v5 v6 S) (fun v0 v1 v2 v3 v4 v5 v6 S hB hp => fd_X7_price_51 (cmB_X7_price_51 hB (uf_X7_price_51 hp) hq (fun _ _ _ _ _ _ _ _ hx hp => hx hp))) h2
set_option maxRecDepth 20000 in
set_option maxHeartbeats 1000000 in
theorem cm_X7_price_46 {Q1 Q2 Q3 : HS → Prop} {v0 : Nat} {v1 : Nat} {v2 : Nat} {v3 : Int32} {v4 : Nat} {s0 : Int32} {S : HS} (h1 : P_X7_price_46 Q1 v0 v1 v2 v3 v4 s0 S) (h2 : P_X7_price_46 Q2 v0 v1 v2 v3 v4 s0 S) (hq : ∀ (T : HS), Q1 T → Q2 T → Q3 T) : P_X7_price_46 Q3 v0 v1 v2 v3 v4 s0 S := by
  delta P_X7_price_46 at h1 h2 ⊢
  exact cm_X7_price_51 h1 h2 hq
set_option maxRecDepth 20000 in
set_option maxHeartbeats 1000000 in
theorem cm_X7_price_0 {Q1 Q2 Q3 : HS → Prop} {v0 : Nat} {v1 : Nat} {v2 : Nat} {v3 : Int32} {S : HS} (h1 : P_X7_price_0 Q1 v0 v1 v2 v3 S) (h2 : P_X7_price_0 Q2 v0 v1 v2 v3 S) (hq : ∀ (T : HS), Q1 T → Q2 T → Q3 T) : P_X7_price_0 Q3 v0 v1 v2 v3 S := by
  delta P_X7_price_0 at h1 h2 ⊢
  obtain ⟨c1, h1⟩ := h1
  obtain ⟨_, h2⟩ := h2
  refine ⟨c1, ?_⟩
  intro x3 e2
  have h1 := h1 x3 e2
  have h2 := h2 x3 e2
  intro x5 e4
  have h1 := h1 x5 e4
  have h2 := h2 x5 e4
  intro x7 e6
  have h1 := h1 x7 e6
  have h2 := h2 x7 e6
  obtain ⟨c8, h1⟩ := h1
  obtain ⟨_, h2⟩ := h2
  refine ⟨c8, ?_⟩
  refine cm_X8_hasWalker h1 h2 (fun x9 x10 h1 h2 g11 g12 => ?_)
  have h1 := h1 g11 g12
  have h2 := h2 g11 g12
  refine ⟨?_, ?_⟩
  · intro c13
    have h1 := h1.1 c13
    have h2 := h2.1 c13
    obtain ⟨b14, e15, h1⟩ := h1
    obtain ⟨b16, e17, h2⟩ := h2
    cases e15.symm.trans e17
    refine ⟨b14, e15, ?_⟩
    intro x19 e18
    have h1 := h1 x19 e18
    have h2 := h2 x19 e18
    obtain ⟨c20, h1⟩ := h1
    obtain ⟨_, h2⟩ := h2
    refine ⟨c20, ?_⟩
    obtain ⟨c21, h1⟩ := h1
    obtain ⟨_, h2⟩ := h2
    refine ⟨c21, ?_⟩
    obtain ⟨b22, e23, h1⟩ := h1
    obtain ⟨b24, e25, h2⟩ := h2
    cases e23.symm.trans e25
    refine ⟨b22, e23, ?_⟩
    refine cm_X8_hasHour h1 h2 (fun x26 x27 h1 h2 g28 g29 => ?_)
    have h1 := h1 g28 g29
    have h2 := h2 g28 g29
    refine ⟨?_, ?_⟩
    · intro c30
      have h1 := h1.1 c30
      have h2 := h2.1 c30
      exact cm_X7_price_46 h1 h2 hq
    · intro c31
      have h1 := h1.2 c31
      have h2 := h2.2 c31
      exact cm_X7_price_46 h1 h2 hq
  · intro c32
    have h1 := h1.2 c32
    have h2 := h2.2 c32
    exact hq _ h1 h2
theorem cm_X7_price {Q1 Q2 Q3 : HS → Prop} {v0 : Nat} {v1 : Nat} {v2 : Nat} {v3 : Int32} {S : HS} (h1 : P_X7_price v0 v1 v2 v3 Q1 S) (h2 : P_X7_price v0 v1 v2 v3 Q2 S) (hq : ∀ (T : HS), Q1 T → Q2 T → Q3 T) : P_X7_price v0 v1 v2 v3 Q3 S := cm_X7_price_0 h1 h2 hq
set_option maxRecDepth 20000 in
set_option maxHeartbeats 1000000 in
theorem cm_X7_reckonMinute_40 {Q1 Q2 Q3 : HS → Prop} {X2_1 X2_2 X2_3 : Nat → Int32 → Int32 → Int32 → HS → Prop} {v0 : Nat} {v1 : Int32} {v2 : Int32} {v3 : Int32} {s0 : Nat} {s1 : Int32} {s2 : Int64} {S : HS} (h1 : P_X7_reckonMinute_40 Q1 X2_1 v0 v1 v2 v3 s0 s1 s2 S) (h2 : P_X7_reckonMinute_40 Q2 X2_2 v0 v1 v2 v3 s0 s1 s2 S) (hq : ∀ (T : HS), Q1 T → Q2 T → Q3 T) (hX2 : ∀ (u0 : Nat) (u1 : Int32) (u2 : Int32) (u3 : Int32) (u4 : HS), X2_1 u0 u1 u2 u3 u4 → X2_2 u0 u1 u2 u3 u4 → X2_3 u0 u1 u2 u3 u4) : P_X7_reckonMinute_40 Q3 X2_3 v0 v1 v2 v3 s0 s1 s2 S := by
  delta P_X7_reckonMinute_40 at h1 h2 ⊢
  obtain ⟨c1, h1⟩ := h1
  obtain ⟨_, h2⟩ := h2
  refine ⟨c1, ?_⟩
  obtain ⟨c2, h1⟩ := h1
  obtain ⟨_, h2⟩ := h2
  refine ⟨c2, ?_⟩
  intro x4 e3
  have h1 := h1 x4 e3
  have h2 := h2 x4 e3
  obtain ⟨c5, h1⟩ := h1
  obtain ⟨_, h2⟩ := h2
  refine ⟨c5, ?_⟩
  obtain ⟨b6, e7, h1⟩ := h1
  obtain ⟨b8, e9, h2⟩ := h2
  cases e7.symm.trans e9
  refine ⟨b6, e7, ?_⟩
  obtain ⟨c10, h1⟩ := h1
  obtain ⟨_, h2⟩ := h2
  refine ⟨c10, ?_⟩
  obtain ⟨c11, h1⟩ := h1
  obtain ⟨_, h2⟩ := h2
  refine ⟨c11, ?_⟩
  intro x13 e12
  have h1 := h1 x13 e12
  have h2 := h2 x13 e12
  intro x15 e14
  have h1 := h1 x15 e14
  have h2 := h2 x15 e14
  exact hX2 _ _ _ _ _ h1 h2
set_option maxRecDepth 20000 in
set_option maxHeartbeats 1000000 in
theorem cm_X7_reckonMinute_219 {Q1 Q2 Q3 : HS → Prop} {X62_1 X62_2 X62_3 : Nat → Int32 → Int32 → HS → Prop} {v0 : Nat} {v2 : Int32} {v3 : Int32} {S : HS} (h1 : P_X7_reckonMinute_219 Q1 X62_1 v0 v2 v3 S) (h2 : P_X7_reckonMinute_219 Q2 X62_2 v0 v2 v3 S) (hq : ∀ (T : HS), Q1 T → Q2 T → Q3 T) (hX62 : ∀ (u0 : Nat) (u1 : Int32) (u2 : Int32) (u3 : HS), X62_1 u0 u1 u2 u3 → X62_2 u0 u1 u2 u3 → X62_3 u0 u1 u2 u3) : P_X7_reckonMinute_219 Q3 X62_3 v0 v2 v3 S := by
  delta P_X7_reckonMinute_219 at h1 h2 ⊢
  intro x2 e1
  have h1 := h1 x2 e1
  have h2 := h2 x2 e1
  exact hX62 _ _ _ _ h1 h2
set_option maxRecDepth 20000 in
set_option maxHeartbeats 1000000 in
theorem cm_X7_reckonMinute_117 {Q1 Q2 Q3 : HS → Prop} {X62_1 X62_2 X62_3 : Nat → Int32 → Int32 → HS → Prop} {v0 : Nat} {v2 : Int32} {v3 : Int32} {v4 : Int32} {v5 : Int32} {s0 : Int32} {S : HS} (h1 : P_X7_reckonMinute_117 Q1 X62_1 v0 v2 v3 v4 v5 s0 S) (h2 : P_X7_reckonMinute_117 Q2 X62_2 v0 v2 v3 v4 v5 s0 S) (hq : ∀ (T : HS), Q1 T → Q2 T → Q3 T) (hX62 : ∀ (u0 : Nat) (u1 : Int32) (u2 : Int32) (u3 : HS), X62_1 u0 u1 u2 u3 → X62_2 u0 u1 u2 u3 → X62_3 u0 u1 u2 u3) : P_X7_reckonMinute_117 Q3 X62_3 v0 v2 v3 v4 v5 s0 S := by
  delta P_X7_reckonMinute_117 at h1 h2 ⊢
  refine ⟨?_, ?_⟩
  · intro c1
    have h1 := h1.1 c1
    have h2 := h2.1 c1
    exact cm_X7_reckonMinute_219 h1 h2 hq hX62
  · intro c2
    have h1 := h1.2 c2
    have h2 := h2.2 c2
    refine ⟨?_, ?_⟩
    · intro c3
      have h1 := h1.1 c3
      have h2 := h2.1 c3
      exact cm_X7_reckonMinute_219 h1 h2 hq hX62
    · intro c4
      have h1 := h1.2 c4
      have h2 := h2.2 c4
      obtain ⟨c5, h1⟩ := h1
      obtain ⟨_, h2⟩ := h2
      refine ⟨c5, ?_⟩
      obtain ⟨b6, e7, h1⟩ := h1
      obtain ⟨b8, e9, h2⟩ := h2
      cases e7.symm.trans e9
      refine ⟨b6, e7, ?_⟩
      obtain ⟨c10, h1⟩ := h1
      obtain ⟨_, h2⟩ := h2
      refine ⟨c10, ?_⟩
      refine ⟨?_, ?_⟩
      · intro c11
        have h1 := h1.1 c11
        have h2 := h2.1 c11
        exact cm_X7_reckonMinute_219 h1 h2 hq hX62
      · intro c12
        have h1 := h1.2 c12
        have h2 := h2.2 c12
        refine ⟨?_, ?_⟩
        · intro c13
          have h1 := h1.1 c13
          have h2 := h2.1 c13
          exact cm_X7_reckonMinute_219 h1 h2 hq hX62
        · intro c14
          have h1 := h1.2 c14
          have h2 := h2.2 c14
          obtain ⟨b15, e16, h1⟩ := h1
          obtain ⟨b17, e18, h2⟩ := h2
          cases e16.symm.trans e18
          refine ⟨b15, e16, ?_⟩
          obtain ⟨c19, h1⟩ := h1
          obtain ⟨_, h2⟩ := h2
          refine ⟨c19, ?_⟩
          refine ⟨?_, ?_⟩
          · intro c20
            have h1 := h1.1 c20
            have h2 := h2.1 c20
            exact cm_X7_reckonMinute_219 h1 h2 hq hX62
          · intro c21
            have h1 := h1.2 c21
            have h2 := h2.2 c21
            obtain ⟨b22, e23, h1⟩ := h1
            obtain ⟨b24, e25, h2⟩ := h2
            cases e23.symm.trans e25
            refine ⟨b22, e23, ?_⟩
            obtain ⟨c26, h1⟩ := h1
            obtain ⟨_, h2⟩ := h2
            refine ⟨c26, ?_⟩
            obtain ⟨c27, h1⟩ := h1
            obtain ⟨_, h2⟩ := h2
            refine ⟨c27, ?_⟩
            intro x29 e28
            have h1 := h1 x29 e28
            have h2 := h2 x29 e28
            refine ⟨?_, ?_⟩
            · intro c30
              have h1 := h1.1 c30
              have h2 := h2.1 c30
              exact cm_X7_reckonMinute_219 h1 h2 hq hX62
            · intro c31
              have h1 := h1.2 c31
              have h2 := h2.2 c31
              obtain ⟨b32, e33, h1⟩ := h1
              obtain ⟨b34, e35, h2⟩ := h2
              cases e33.symm.trans e35
              refine ⟨b32, e33, ?_⟩
              obtain ⟨c36, h1⟩ := h1
              obtain ⟨_, h2⟩ := h2
              refine ⟨c36, ?_⟩
              obtain ⟨c37, h1⟩ := h1
              obtain ⟨_, h2⟩ := h2
              refine ⟨c37, ?_⟩
              intro x39 e38
              have h1 := h1 x39 e38
              have h2 := h2 x39 e38
              obtain ⟨b40, e41, h1⟩ := h1
              obtain ⟨b42, e43, h2⟩ := h2
              cases e41.symm.trans e43
              refine ⟨b40, e41, ?_⟩
              obtain ⟨c44, h1⟩ := h1
              obtain ⟨_, h2⟩ := h2
              refine ⟨c44, ?_⟩
              obtain ⟨c45, h1⟩ := h1
              obtain ⟨_, h2⟩ := h2
              refine ⟨c45, ?_⟩
              intro x47 e46
              have h1 := h1 x47 e46
              have h2 := h2 x47 e46
              intro x49 e48
              have h1 := h1 x49 e48
              have h2 := h2 x49 e48
              obtain ⟨b50, e51, h1⟩ := h1
              obtain ⟨b52, e53, h2⟩ := h2
              cases e51.symm.trans e53
              refine ⟨b50, e51, ?_⟩
              obtain ⟨c54, h1⟩ := h1
              obtain ⟨_, h2⟩ := h2
              refine ⟨c54, ?_⟩
              obtain ⟨c55, h1⟩ := h1
              obtain ⟨_, h2⟩ := h2
              refine ⟨c55, ?_⟩
              intro x57 e56
              have h1 := h1 x57 e56
              have h2 := h2 x57 e56
              refine ⟨?_, ?_⟩
              · intro c58
                have h1 := h1.1 c58
                have h2 := h2.1 c58
                exact cm_X7_reckonMinute_219 h1 h2 hq hX62
              · intro c59
                have h1 := h1.2 c59
                have h2 := h2.2 c59
                obtain ⟨b60, e61, h1⟩ := h1
                obtain ⟨b62, e63, h2⟩ := h2
                cases e61.symm.trans e63
                refine ⟨b60, e61, ?_⟩
                obtain ⟨c64, h1⟩ := h1
                obtain ⟨_, h2⟩ := h2
                refine ⟨c64, ?_⟩
                obtain ⟨c65, h1⟩ := h1
                obtain ⟨_, h2⟩ := h2
                refine ⟨c65, ?_⟩
                intro x67 e66
                have h1 := h1 x67 e66
                have h2 := h2 x67 e66
                obtain ⟨b68, e69, h1⟩ := h1
                obtain ⟨b70, e71, h2⟩ := h2
                cases e69.symm.trans e71
                refine ⟨b68, e69, ?_⟩
                obtain ⟨b72, e73, h1⟩ := h1
                obtain ⟨b74, e75, h2⟩ := h2
                cases e73.symm.trans e75
                refine ⟨b72, e73, ?_⟩
                obtain ⟨c76, h1⟩ := h1
                obtain ⟨_, h2⟩ := h2
                refine ⟨c76, ?_⟩
                obtain ⟨c77, h1⟩ := h1
                obtain ⟨_, h2⟩ := h2
                refine ⟨c77, ?_⟩
                intro x79 e78
                have h1 := h1 x79 e78
                have h2 := h2 x79 e78
                obtain ⟨c80, h1⟩ := h1
                obtain ⟨_, h2⟩ := h2
                refine ⟨c80, ?_⟩
                obtain ⟨c81, h1⟩ := h1
                obtain ⟨_, h2⟩ := h2
                refine ⟨c81, ?_⟩
                intro x83 e82
                have h1 := h1 x83 e82
                have h2 := h2 x83 e82
                exact cm_X7_reckonMinute_219 h1 h2 hq hX62
set_option maxRecDepth 20000 in
set_option maxHeartbeats 1000000 in
theorem cmB_X7_reckonMinute_62 {Q1 Q2 Q3 : HS → Prop} {X62_1 X62_2 X62_3 : Nat → Int32 → Int32 → HS → Prop} {v0 : Nat} {v2 : Int32} {v3 : Int32} {S : HS} (h1 : B_X7_reckonMinute_62 Q1 X62_1 v0 v2 v3 S) (h2 : B_X7_reckonMinute_62 Q2 X62_2 v0 v2 v3 S) (hq : ∀ (T : HS), Q1 T → Q2 T → Q3 T) (hX62 : ∀ (u0 : Nat) (u1 : Int32) (u2 : Int32) (u3 : HS), X62_1 u0 u1 u2 u3 → X62_2 u0 u1 u2 u3 → X62_3 u0 u1 u2 u3) : B_X7_reckonMinute_62 Q3 X62_3 v0 v2 v3 S := by
  delta B_X7_reckonMinute_62 at h1 h2 ⊢
  obtain ⟨c1, h1⟩ := h1
  obtain ⟨_, h2⟩ := h2
  refine ⟨c1, ?_⟩
  intro x3 e2
  have h1 := h1 x3 e2
  have h2 := h2 x3 e2
  refine ⟨?_, ?_⟩
  · intro c4
    have h1 := h1.1 c4
    have h2 := h2.1 c4
    exact hq _ h1 h2
  · intro c5
    have h1 := h1.2 c5
    have h2 := h2.2 c5
    refine ⟨?_, ?_⟩
    · intro c6
      have h1 := h1.1 c6
      have h2 := h2.1 c6
      exact hq _ h1 h2
    · intro c7
      have h1 := h1.2 c7
      have h2 := h2.2 c7
      obtain ⟨b8, e9, h1⟩ := h1
      obtain ⟨b10, e11, h2⟩ := h2
      cases e9.symm.trans e11
      refine ⟨b8, e9, ?_⟩
      obtain ⟨c12, h1⟩ := h1
      obtain ⟨_, h2⟩ := h2
      refine ⟨c12, ?_⟩
      obtain ⟨c13, h1⟩ := h1
      obtain ⟨_, h2⟩ := h2
      refine ⟨c13, ?_⟩
      intro x15 e14
      have h1 := h1 x15 e14
      have h2 := h2 x15 e14
      intro x17 e16
      have h1 := h1 x17 e16
      have h2 := h2 x17 e16
      obtain ⟨b18, e19, h1⟩ := h1
      obtain ⟨b20, e21, h2⟩ := h2
      cases e19.symm.trans e21
      refine ⟨b18, e19, ?_⟩
      obtain ⟨c22, h1⟩ := h1
      obtain ⟨_, h2⟩ := h2
      refine ⟨c22, ?_⟩
      obtain ⟨c23, h1⟩ := h1
      obtain ⟨_, h2⟩ := h2
      refine ⟨c23, ?_⟩
      intro x25 e24
      have h1 := h1 x25 e24
      have h2 := h2 x25 e24
      intro x27 e26
      have h1 := h1 x27 e26
      have h2 := h2 x27 e26
      obtain ⟨b28, e29, h1⟩ := h1
      obtain ⟨b30, e31, h2⟩ := h2
      cases e29.symm.trans e31
      refine ⟨b28, e29, ?_⟩
      obtain ⟨c32, h1⟩ := h1
      obtain ⟨_, h2⟩ := h2
      refine ⟨c32, ?_⟩
      obtain ⟨c33, h1⟩ := h1
      obtain ⟨_, h2⟩ := h2
      refine ⟨c33, ?_⟩
      intro x35 e34
      have h1 := h1 x35 e34
      have h2 := h2 x35 e34
      intro x37 e36
      have h1 := h1 x37 e36
      have h2 := h2 x37 e36
      refine ⟨?_, ?_⟩
      · intro c38
        have h1 := h1.1 c38
        have h2 := h2.1 c38
        exact cm_X7_reckonMinute_117 h1 h2 hq hX62
      · intro c39
        have h1 := h1.2 c39
        have h2 := h2.2 c39
        exact cm_X7_reckonMinute_117 h1 h2 hq hX62
theorem fd_X7_reckonMinute_62 {Q : HS → Prop} {v0 : Nat} {v2 : Int32} {v3 : Int32} {S : HS} (h : B_X7_reckonMinute_62 Q (P_X7_reckonMinute_62 Q) v0 v2 v3 S) : P_X7_reckonMinute_62 Q v0 v2 v3 S := fun X hX => hX v0 v2 v3 S (cmB_X7_reckonMinute_62 h h (fun _ a _ => a) (fun _ _ _ _ hp _ => hp X hX))
theorem uf_X7_reckonMinute_62 {Q : HS → Prop} {v0 : Nat} {v2 : Int32} {v3 : Int32} {S : HS} (h : P_X7_reckonMinute_62 Q v0 v2 v3 S) : B_X7_reckonMinute_62 Q (P_X7_reckonMinute_62 Q) v0 v2 v3 S := h (fun v0 v2 v3 S => B_X7_reckonMinute_62 Q (P_X7_reckonMinute_62 Q) v0 v2 v3 S) (fun v0 v2 v3 S hB => cmB_X7_reckonMinute_62 hB hB (fun _ a _ => a) (fun _ _ _ _ hb _ => fd_X7_reckonMinute_62 hb))
theorem cm_X7_reckonMinute_62 {Q1 Q2 Q3 : HS → Prop} {v0 : Nat} {v2 : Int32} {v3 : Int32} {S : HS} (h1 : P_X7_reckonMinute_62 Q1 v0 v2 v3 S) (h2 : P_X7_reckonMinute_62 Q2 v0 v2 v3 S) (hq : ∀ (T : HS), Q1 T → Q2 T → Q3 T) : P_X7_reckonMinute_62 Q3 v0 v2 v3 S := h1 (fun v0 v2 v3 S => P_X7_reckonMinute_62 Q2 v0 v2 v3 S → P_X7_reckonMinute_62 Q3 v0 v2 v3 S) (fun v0 v2 v3 S hB hp => fd_X7_reckonMinute_62 (cmB_X7_reckonMinute_62 hB (uf_X7_reckonMinute_62 hp) hq (fun _ _ _ _ hx hp => hx hp))) h2
set_option maxRecDepth 20000 in
set_option maxHeartbeats 1000000 in
theorem cm_X7_reckonMinute_60 {Q1 Q2 Q3 : HS → Prop} {v0 : Nat} {v2 : Int32} {S : HS} (h1 : P_X7_reckonMinute_60 Q1 v0 v2 S) (h2 : P_X7_reckonMinute_60 Q2 v0 v2 S) (hq : ∀ (T : HS), Q1 T → Q2 T → Q3 T) : P_X7_reckonMinute_60 Q3 v0 v2 S := by
  delta P_X7_reckonMinute_60 at h1 h2 ⊢
  exact cm_X7_reckonMinute_62 h1 h2 hq
set_option maxRecDepth 20000 in
set_option maxHeartbeats 1000000 in
theorem cmB_X7_reckonMinute_2 {Q1 Q2 Q3 : HS → Prop} {X2_1 X2_2 X2_3 : Nat → Int32 → Int32 → Int32 → HS → Prop} {v0 : Nat} {v1 : Int32} {v2 : Int32} {v3 : Int32} {S : HS} (h1 : B_X7_reckonMinute_2 Q1 X2_1 v0 v1 v2 v3 S) (h2 : B_X7_reckonMinute_2 Q2 X2_2 v0 v1 v2 v3 S) (hq : ∀ (T : HS), Q1 T → Q2 T → Q3 T) (hX2 : ∀ (u0 : Nat) (u1 : Int32) (u2 : Int32) (u3 : Int32) (u4 : HS), X2_1 u0 u1 u2 u3 u4 → X2_2 u0 u1 u2 u3 u4 → X2_3 u0 u1 u2 u3 u4) : B_X7_reckonMinute_2 Q3 X2_3 v0 v1 v2 v3 S := by
  delta B_X7_reckonMinute_2 at h1 h2 ⊢
  refine ⟨?_, ?_⟩
  · intro c1
    have h1 := h1.1 c1
    have h2 := h2.1 c1
    exact cm_X7_reckonMinute_60 h1 h2 hq
  · intro c2
    have h1 := h1.2 c2
    have h2 := h2.2 c2
    refine ⟨?_, ?_⟩
    · intro c3
      have h1 := h1.1 c3
      have h2 := h2.1 c3
      exact cm_X7_reckonMinute_60 h1 h2 hq
    · intro c4
      have h1 := h1.2 c4
      have h2 := h2.2 c4
      obtain ⟨c5, h1⟩ := h1
      obtain ⟨_, h2⟩ := h2
      refine ⟨c5, ?_⟩
      obtain ⟨b6, e7, h1⟩ := h1
      obtain ⟨b8, e9, h2⟩ := h2
      cases e7.symm.trans e9
      refine ⟨b6, e7, ?_⟩
      intro x11 e10
      have h1 := h1 x11 e10
      have h2 := h2 x11 e10
      refine ⟨?_, ?_⟩
      · intro c12
        have h1 := h1.1 c12
        have h2 := h2.1 c12
        exact cm_X7_reckonMinute_40 h1 h2 hq hX2
      · intro c13
        have h1 := h1.2 c13
        have h2 := h2.2 c13
        exact cm_X7_reckonMinute_40 h1 h2 hq hX2
theorem fd_X7_reckonMinute_2 {Q : HS → Prop} {v0 : Nat} {v1 : Int32} {v2 : Int32} {v3 : Int32} {S : HS} (h : B_X7_reckonMinute_2 Q (P_X7_reckonMinute_2 Q) v0 v1 v2 v3 S) : P_X7_reckonMinute_2 Q v0 v1 v2 v3 S := fun X hX => hX v0 v1 v2 v3 S (cmB_X7_reckonMinute_2 h h (fun _ a _ => a) (fun _ _ _ _ _ hp _ => hp X hX))
theorem uf_X7_reckonMinute_2 {Q : HS → Prop} {v0 : Nat} {v1 : Int32} {v2 : Int32} {v3 : Int32} {S : HS} (h : P_X7_reckonMinute_2 Q v0 v1 v2 v3 S) : B_X7_reckonMinute_2 Q (P_X7_reckonMinute_2 Q) v0 v1 v2 v3 S := h (fun v0 v1 v2 v3 S => B_X7_reckonMinute_2 Q (P_X7_reckonMinute_2 Q) v0 v1 v2 v3 S) (fun v0 v1 v2 v3 S hB => cmB_X7_reckonMinute_2 hB hB (fun _ a _ => a) (fun _ _ _ _ _ hb _ => fd_X7_reckonMinute_2 hb))
theorem cm_X7_reckonMinute_2 {Q1 Q2 Q3 : HS → Prop} {v0 : Nat} {v1 : Int32} {v2 : Int32} {v3 : Int32} {S : HS} (h1 : P_X7_reckonMinute_2 Q1 v0 v1 v2 v3 S) (h2 : P_X7_reckonMinute_2 Q2 v0 v1 v2 v3 S) (hq : ∀ (T : HS), Q1 T → Q2 T → Q3 T) : P_X7_reckonMinute_2 Q3 v0 v1 v2 v3 S := h1 (fun v0 v1 v2 v3 S => P_X7_reckonMinute_2 Q2 v0 v1 v2 v3 S → P_X7_reckonMinute_2 Q3 v0 v1 v2 v3 S) (fun v0 v1 v2 v3 S hB hp => fd_X7_reckonMinute_2 (cmB_X7_reckonMinute_2 hB (uf_X7_reckonMinute_2 hp) hq (fun _ _ _ _ _ hx hp => hx hp))) h2
set_option maxRecDepth 20000 in
set_option maxHeartbeats 1000000 in
theorem cm_X7_reckonMinute_0 {Q1 Q2 Q3 : HS → Prop} {v0 : Nat} {v1 : Int32} {v2 : Int32} {S : HS} (h1 : P_X7_reckonMinute_0 Q1 v0 v1 v2 S) (h2 : P_X7_reckonMinute_0 Q2 v0 v1 v2 S) (hq : ∀ (T : HS), Q1 T → Q2 T → Q3 T) : P_X7_reckonMinute_0 Q3 v0 v1 v2 S := by
  delta P_X7_reckonMinute_0 at h1 h2 ⊢
  exact cm_X7_reckonMinute_2 h1 h2 hq
theorem cm_X7_reckonMinute {Q1 Q2 Q3 : HS → Prop} {v0 : Nat} {v1 : Int32} {v2 : Int32} {S : HS} (h1 : P_X7_reckonMinute v0 v1 v2 Q1 S) (h2 : P_X7_reckonMinute v0 v1 v2 Q2 S) (hq : ∀ (T : HS), Q1 T → Q2 T → Q3 T) : P_X7_reckonMinute v0 v1 v2 Q3 S := cm_X7_reckonMinute_0 h1 h2 hq
set_option maxRecDepth 20000 in
set_option maxHeartbeats 1000000 in
theorem cm_X8_hourOf_0 {Q1 Q2 Q3 : Int32 → HS → Prop} {v0 : Nat} {v1 : Int32} {S : HS} (h1 : P_X8_hourOf_0 Q1 v0 v1 S) (h2 : P_X8_hourOf_0 Q2 v0 v1 S) (hq : ∀ (r : Int32) (T : HS), Q1 r T → Q2 r T → Q3 r T) : P_X8_hourOf_0 Q3 v0 v1 S := by
  delta P_X8_hourOf_0 at h1 h2 ⊢
  obtain ⟨c1, h1⟩ := h1
  obtain ⟨_, h2⟩ := h2
  refine ⟨c1, ?_⟩
  intro x3 e2
  have h1 := h1 x3 e2
  have h2 := h2 x3 e2
  refine ⟨?_, ?_⟩
  · intro c4
    have h1 := h1.1 c4
    have h2 := h2.1 c4
    exact hq _ _ h1 h2
  · intro c5
    have h1 := h1.2 c5
    have h2 := h2.2 c5
    intro x7 e6
    have h1 := h1 x7 e6
    have h2 := h2 x7 e6
    obtain ⟨c8, h1⟩ := h1
    obtain ⟨_, h2⟩ := h2
    refine ⟨c8, ?_⟩
    intro x10 e9
    have h1 := h1 x10 e9
    have h2 := h2 x10 e9
    exact hq _ _ h1 h2
theorem cm_X8_hourOf {Q1 Q2 Q3 : Int32 → HS → Prop} {v0 : Nat} {v1 : Int32} {S : HS} (h1 : P_X8_hourOf v0 v1 Q1 S) (h2 : P_X8_hourOf v0 v1 Q2 S) (hq : ∀ (r : Int32) (T : HS), Q1 r T → Q2 r T → Q3 r T) : P_X8_hourOf v0 v1 Q3 S := cm_X8_hourOf_0 h1 h2 hq
set_option maxRecDepth 20000 in
set_option maxHeartbeats 1000000 in
theorem cm_X7_reckon_120 {Q1 Q2 Q3 : HS → Prop} {X76_1 X76_2 X76_3 : Nat → Nat → Nat → Int32 → Int32 → HS → Prop} {v0 : Nat} {v1 : Nat} {v2 : Nat} {v6 : Int32} {v7 : Int32} {S : HS} (h1 : P_X7_reckon_120 Q1 X76_1 v0 v1 v2 v6 v7 S) (h2 : P_X7_reckon_120 Q2 X76_2 v0 v1 v2 v6 v7 S) (hq : ∀ (T : HS), Q1 T → Q2 T → Q3 T) (hX76 : ∀ (u0 : Nat) (u1 : Nat) (u2 : Nat) (u3 : Int32) (u4 : Int32) (u5 : HS), X76_1 u0 u1 u2 u3 u4 u5 → X76_2 u0 u1 u2 u3 u4 u5 → X76_3 u0 u1 u2 u3 u4 u5) : P_X7_reckon_120 Q3 X76_3 v0 v1 v2 v6 v7 S := by
  delta P_X7_reckon_120 at h1 h2 ⊢
  obtain ⟨c1, h1⟩ := h1
  obtain ⟨_, h2⟩ := h2
  refine ⟨c1, ?_⟩
  intro x3 e2
  have h1 := h1 x3 e2
  have h2 := h2 x3 e2
  obtain ⟨c4, h1⟩ := h1
  obtain ⟨_, h2⟩ := h2
  refine ⟨c4, ?_⟩
  refine cm_X7_reckonMinute h1 h2 (fun x5 h1 h2 g6 => ?_)
  have h1 := h1 g6
  have h2 := h2 g6
  intro x8 e7
  have h1 := h1 x8 e7
  have h2 := h2 x8 e7
  intro x10 e9
  have h1 := h1 x10 e9
  have h2 := h2 x10 e9
  exact hX76 _ _ _ _ _ _ h1 h2
set_option maxRecDepth 20000 in
set_option maxHeartbeats 1000000 in
theorem cmB_X7_reckon_76 {Q1 Q2 Q3 : HS → Prop} {X76_1 X76_2 X76_3 : Nat → Nat → Nat → Int32 → Int32 → HS → Prop} {v0 : Nat} {v1 : Nat} {v2 : Nat} {v6 : Int32} {v7 : Int32} {S : HS} (h1 : B_X7_reckon_76 Q1 X76_1 v0 v1 v2 v6 v7 S) (h2 : B_X7_reckon_76 Q2 X76_2 v0 v1 v2 v6 v7 S) (hq : ∀ (T : HS), Q1 T → Q2 T → Q3 T) (hX76 : ∀ (u0 : Nat) (u1 : Nat) (u2 : Nat) (u3 : Int32) (u4 : Int32) (u5 : HS), X76_1 u0 u1 u2 u3 u4 u5 → X76_2 u0 u1 u2 u3 u4 u5 → X76_3 u0 u1 u2 u3 u4 u5) : B_X7_reckon_76 Q3 X76_3 v0 v1 v2 v6 v7 S := by
  delta B_X7_reckon_76 at h1 h2 ⊢
  refine ⟨?_, ?_⟩
  · intro c1
    have h1 := h1.1 c1
    have h2 := h2.1 c1
    exact hq _ h1 h2
  · intro c2
    have h1 := h1.2 c2
    have h2 := h2.2 c2
    refine ⟨?_, ?_⟩
    · intro c3
      have h1 := h1.1 c3
      have h2 := h2.1 c3
      exact hq _ h1 h2
    · intro c4
      have h1 := h1.2 c4
      have h2 := h2.2 c4
      obtain ⟨c5, h1⟩ := h1
      obtain ⟨_, h2⟩ := h2
      refine ⟨c5, ?_⟩
      refine cm_X8_hourOf h1 h2 (fun x6 x7 h1 h2 g8 => ?_)
      have h1 := h1 g8
      have h2 := h2 g8
      intro x10 e9
      have h1 := h1 x10 e9
      have h2 := h2 x10 e9
      intro x12 e11
      have h1 := h1 x12 e11
      have h2 := h2 x12 e11
      obtain ⟨c13, h1⟩ := h1
      obtain ⟨_, h2⟩ := h2
      refine ⟨c13, ?_⟩
      intro x15 e14
      have h1 := h1 x15 e14
      have h2 := h2 x15 e14
      refine ⟨?_, ?_⟩
      · intro c16
        have h1 := h1.1 c16
        have h2 := h2.1 c16
        exact cm_X7_reckon_120 h1 h2 hq hX76
      · intro c17
        have h1 := h1.2 c17
        have h2 := h2.2 c17
        refine cm_X7_price h1 h2 (fun x18 h1 h2 g19 => ?_)
        have h1 := h1 g19
        have h2 := h2 g19
        exact cm_X7_reckon_120 h1 h2 hq hX76
theorem fd_X7_reckon_76 {Q : HS → Prop} {v0 : Nat} {v1 : Nat} {v2 : Nat} {v6 : Int32} {v7 : Int32} {S : HS} (h : B_X7_reckon_76 Q (P_X7_reckon_76 Q) v0 v1 v2 v6 v7 S) : P_X7_reckon_76 Q v0 v1 v2 v6 v7 S := fun X hX => hX v0 v1 v2 v6 v7 S (cmB_X7_reckon_76 h h (fun _ a _ => a) (fun _ _ _ _ _ _ hp _ => hp X hX))
theorem uf_X7_reckon_76 {Q : HS → Prop} {v0 : Nat} {v1 : Nat} {v2 : Nat} {v6 : Int32} {v7 : Int32} {S : HS} (h : P_X7_reckon_76 Q v0 v1 v2 v6 v7 S) : B_X7_reckon_76 Q (P_X7_reckon_76 Q) v0 v1 v2 v6 v7 S := h (fun v0 v1 v2 v6 v7 S => B_X7_reckon_76 Q (P_X7_reckon_76 Q) v0 v1 v2 v6 v7 S) (fun v0 v1 v2 v6 v7 S hB => cmB_X7_reckon_76 hB hB (fun _ a _ => a) (fun _ _ _ _ _ _ hb _ => fd_X7_reckon_76 hb))
theorem cm_X7_reckon_76 {Q1 Q2 Q3 : HS → Prop} {v0 : Nat} {v1 : Nat} {v2 : Nat} {v6 : Int32} {v7 : Int32} {S : HS} (h1 : P_X7_reckon_76 Q1 v0 v1 v2 v6 v7 S) (h2 : P_X7_reckon_76 Q2 v0 v1 v2 v6 v7 S) (hq : ∀ (T : HS), Q1 T → Q2 T → Q3 T) : P_X7_reckon_76 Q3 v0 v1 v2 v6 v7 S := h1 (fun v0 v1 v2 v6 v7 S => P_X7_reckon_76 Q2 v0 v1 v2 v6 v7 S → P_X7_reckon_76 Q3 v0 v1 v2 v6 v7 S) (fun v0 v1 v2 v6 v7 S hB hp => fd_X7_reckon_76 (cmB_X7_reckon_76 hB (uf_X7_reckon_76 hp) hq (fun _ _ _ _ _ _ hx hp => hx hp))) h2
set_option maxRecDepth 20000 in
set_option maxHeartbeats 1000000 in
theorem cm_X7_reckon_68 {Q1 Q2 Q3 : HS → Prop} {v0 : Nat} {v1 : Nat} {v2 : Nat} {v6 : Int32} {S : HS} (h1 : P_X7_reckon_68 Q1 v0 v1 v2 v6 S) (h2 : P_X7_reckon_68 Q2 v0 v1 v2 v6 S) (hq : ∀ (T : HS), Q1 T → Q2 T → Q3 T) : P_X7_reckon_68 Q3 v0 v1 v2 v6 S := by
  delta P_X7_reckon_68 at h1 h2 ⊢
  obtain ⟨c1, h1⟩ := h1
  obtain ⟨_, h2⟩ := h2
  refine ⟨c1, ?_⟩
  intro x3 e2
  have h1 := h1 x3 e2
  have h2 := h2 x3 e2
  intro x5 e4
  have h1 := h1 x5 e4
  have h2 := h2 x5 e4
  exact cm_X7_reckon_76 h1 h2 hq
set_option maxRecDepth 20000 in
set_option maxHeartbeats 1000000 in
theorem cm_X7_reckon_38 {Q1 Q2 Q3 : HS → Prop} {v0 : Nat} {v1 : Nat} {v2 : Nat} {v3 : Int32} {v4 : Int32} {v5 : Int32} {v6 : Int32} {S : HS} (h1 : P_X7_reckon_38 Q1 v0 v1 v2 v3 v4 v5 v6 S) (h2 : P_X7_reckon_38 Q2 v0 v1 v2 v3 v4 v5 v6 S) (hq : ∀ (T : HS), Q1 T → Q2 T → Q3 T) : P_X7_reckon_38 Q3 v0 v1 v2 v3 v4 v5 v6 S := by
  delta P_X7_reckon_38 at h1 h2 ⊢
  obtain ⟨c1, h1⟩ := h1
  obtain ⟨_, h2⟩ := h2
  refine ⟨c1, ?_⟩
  intro x3 e2
  have h1 := h1 x3 e2
  have h2 := h2 x3 e2
  intro x5 e4
  have h1 := h1 x5 e4
  have h2 := h2 x5 e4
  intro x7 e6
  have h1 := h1 x7 e6
  have h2 := h2 x7 e6
  intro x9 e8
  have h1 := h1 x9 e8
  have h2 := h2 x9 e8
  intro x11 e10
  have h1 := h1 x11 e10
  have h2 := h2 x11 e10
  intro x13 e12
  have h1 := h1 x13 e12
  have h2 := h2 x13 e12
  exact cm_X7_reckon_68 h1 h2 hq
set_option maxRecDepth 20000 in
set_option maxHeartbeats 1000000 in
theorem cm_X7_reckon_12 {Q1 Q2 Q3 : HS → Prop} {v0 : Nat} {v1 : Nat} {v2 : Nat} {v3 : Int32} {v4 : Int32} {v5 : Int32} {v6 : Int32} {S : HS} (h1 : P_X7_reckon_12 Q1 v0 v1 v2 v3 v4 v5 v6 S) (h2 : P_X7_reckon_12 Q2 v0 v1 v2 v3 v4 v5 v6 S) (hq : ∀ (T : HS), Q1 T → Q2 T → Q3 T) : P_X7_reckon_12 Q3 v0 v1 v2 v3 v4 v5 v6 S := by
  delta P_X7_reckon_12 at h1 h2 ⊢
  obtain ⟨c1, h1⟩ := h1
  obtain ⟨_, h2⟩ := h2
  refine ⟨c1, ?_⟩
  intro x3 e2
  have h1 := h1 x3 e2
  have h2 := h2 x3 e2
  refine ⟨?_, ?_⟩
  · intro c4
    have h1 := h1.1 c4
    have h2 := h2.1 c4
    exact cm_X7_reckon_38 h1 h2 hq
  · intro c5
    have h1 := h1.2 c5
    have h2 := h2.2 c5
    intro x7 e6
    have h1 := h1 x7 e6
    have h2 := h2 x7 e6
    refine ⟨?_, ?_⟩
    · intro c8
      have h1 := h1.1 c8
      have h2 := h2.1 c8
      exact cm_X7_reckon_38 h1 h2 hq
    · intro c9
      have h1 := h1.2 c9
      have h2 := h2.2 c9
      intro x11 e10
      have h1 := h1 x11 e10
      have h2 := h2 x11 e10
      refine ⟨?_, ?_⟩
      · intro c12
        have h1 := h1.1 c12
        have h2 := h2.1 c12
        exact cm_X7_reckon_68 h1 h2 hq
      · intro c13
        have h1 := h1.2 c13
        have h2 := h2.2 c13
        exact cm_X7_reckon_38 h1 h2 hq
set_option maxRecDepth 20000 in
set_option maxHeartbeats 1000000 in
theorem cm_X7_reckon_0 {Q1 Q2 Q3 : HS → Prop} {v0 : Nat} {v1 : Nat} {v2 : Nat} {v3 : Int32} {v4 : Int32} {v5 : Int32} {v6 : Int32} {S : HS} (h1 : P_X7_reckon_0 Q1 v0 v1 v2 v3 v4 v5 v6 S) (h2 : P_X7_reckon_0 Q2 v0 v1 v2 v3 v4 v5 v6 S) (hq : ∀ (T : HS), Q1 T → Q2 T → Q3 T) : P_X7_reckon_0 Q3 v0 v1 v2 v3 v4 v5 v6 S := by
  delta P_X7_reckon_0 at h1 h2 ⊢
  obtain ⟨c1, h1⟩ := h1
  obtain ⟨_, h2⟩ := h2
  refine ⟨c1, ?_⟩
  obtain ⟨b2, e3, h1⟩ := h1
  obtain ⟨b4, e5, h2⟩ := h2
  cases e3.symm.trans e5
  refine ⟨b2, e3, ?_⟩
  obtain ⟨c6, h1⟩ := h1
  obtain ⟨_, h2⟩ := h2
  refine ⟨c6, ?_⟩
  refine ⟨?_, ?_⟩
  · intro c7
    have h1 := h1.1 c7
    have h2 := h2.1 c7
    exact cm_X7_reckon_12 h1 h2 hq
  · intro c8
    have h1 := h1.2 c8
    have h2 := h2.2 c8
    refine cm_X7_makeRows h1 h2 (fun x9 h1 h2 g10 => ?_)
    have h1 := h1 g10
    have h2 := h2 g10
    exact cm_X7_reckon_12 h1 h2 hq
theorem cm_X7_reckon {Q1 Q2 Q3 : HS → Prop} {v0 : Nat} {v1 : Nat} {v2 : Nat} {v3 : Int32} {v4 : Int32} {v5 : Int32} {v6 : Int32} {S : HS} (h1 : P_X7_reckon v0 v1 v2 v3 v4 v5 v6 Q1 S) (h2 : P_X7_reckon v0 v1 v2 v3 v4 v5 v6 Q2 S) (hq : ∀ (T : HS), Q1 T → Q2 T → Q3 T) : P_X7_reckon v0 v1 v2 v3 v4 v5 v6 Q3 S := cm_X7_reckon_0 h1 h2 hq
set_option maxRecDepth 20000 in
set_option maxHeartbeats 1000000 in
theorem cm_X7_trace_143 {Q1 Q2 Q3 : Int32 → HS → Prop} {X9_1 X9_2 X9_3 : Nat → Nat → Int32 → Int32 → Int32 → HS → Prop} {v0 : Nat} {v1 : Nat} {v4 : Int32} {v5 : Int32} {v6 : Int32} {S : HS} (h1 : P_X7_trace_143 Q1 X9_1 v0 v1 v4 v5 v6 S) (h2 : P_X7_trace_143 Q2 X9_2 v0 v1 v4 v5 v6 S) (hq : ∀ (r : Int32) (T : HS), Q1 r T → Q2 r T → Q3 r T) (hX9 : ∀ (u0 : Nat) (u1 : Nat) (u2 : Int32) (u3 : Int32) (u4 : Int32) (u5 : HS), X9_1 u0 u1 u2 u3 u4 u5 → X9_2 u0 u1 u2 u3 u4 u5 → X9_3 u0 u1 u2 u3 u4 u5) : P_X7_trace_143 Q3 X9_3 v0 v1 v4 v5 v6 S := by
  delta P_X7_trace_143 at h1 h2 ⊢
  intro x2 e1
  have h1 := h1 x2 e1
  have h2 := h2 x2 e1
  exact hX9 _ _ _ _ _ _ h1 h2
set_option maxRecDepth 20000 in
set_option maxHeartbeats 1000000 in
theorem cm_X7_trace_56 {Q1 Q2 Q3 : Int32 → HS → Prop} {X9_1 X9_2 X9_3 : Nat → Nat → Int32 → Int32 → Int32 → HS → Prop} {v0 : Nat} {v1 : Nat} {v4 : Int32} {v5 : Int32} {v6 : Int32} {s0 : Int32} {S : HS} (h1 : P_X7_trace_56 Q1 X9_1 v0 v1 v4 v5 v6 s0 S) (h2 : P_X7_trace_56 Q2 X9_2 v0 v1 v4 v5 v6 s0 S) (hq : ∀ (r : Int32) (T : HS), Q1 r T → Q2 r T → Q3 r T) (hX9 : ∀ (u0 : Nat) (u1 : Nat) (u2 : Int32) (u3 : Int32) (u4 : Int32) (u5 : HS), X9_1 u0 u1 u2 u3 u4 u5 → X9_2 u0 u1 u2 u3 u4 u5 → X9_3 u0 u1 u2 u3 u4 u5) : P_X7_trace_56 Q3 X9_3 v0 v1 v4 v5 v6 s0 S := by
  delta P_X7_trace_56 at h1 h2 ⊢
  refine ⟨?_, ?_⟩
  · intro c1
    have h1 := h1.1 c1
    have h2 := h2.1 c1
    obtain ⟨c2, h1⟩ := h1
    obtain ⟨_, h2⟩ := h2
    refine ⟨c2, ?_⟩
    obtain ⟨b3, e4, h1⟩ := h1
    obtain ⟨b5, e6, h2⟩ := h2
    cases e4.symm.trans e6
    refine ⟨b3, e4, ?_⟩
    obtain ⟨c7, h1⟩ := h1
    obtain ⟨_, h2⟩ := h2
    refine ⟨c7, ?_⟩
    obtain ⟨c8, h1⟩ := h1
    obtain ⟨_, h2⟩ := h2
    refine ⟨c8, ?_⟩
    intro x10 e9
    have h1 := h1 x10 e9
    have h2 := h2 x10 e9
    refine ⟨?_, ?_⟩
    · intro c11
      have h1 := h1.1 c11
      have h2 := h2.1 c11
      intro x13 e12
      have h1 := h1 x13 e12
      have h2 := h2 x13 e12
      obtain ⟨c14, h1⟩ := h1
      obtain ⟨_, h2⟩ := h2
      refine ⟨c14, ?_⟩
      refine cm_X8_hasRoad h1 h2 (fun x15 x16 h1 h2 g17 g18 => ?_)
      have h1 := h1 g17 g18
      have h2 := h2 g17 g18
      refine ⟨?_, ?_⟩
      · intro c19
        have h1 := h1.1 c19
        have h2 := h2.1 c19
        exact cm_X7_trace_143 h1 h2 hq hX9
      · intro c20
        have h1 := h1.2 c20
        have h2 := h2.2 c20
        obtain ⟨b21, e22, h1⟩ := h1
        obtain ⟨b23, e24, h2⟩ := h2
        cases e22.symm.trans e24
        refine ⟨b21, e22, ?_⟩
        intro x26 e25
        have h1 := h1 x26 e25
        have h2 := h2 x26 e25
        obtain ⟨c27, h1⟩ := h1
        obtain ⟨_, h2⟩ := h2
        refine ⟨c27, ?_⟩
        obtain ⟨c28, h1⟩ := h1
        obtain ⟨_, h2⟩ := h2
        refine ⟨c28, ?_⟩
        obtain ⟨b29, e30, h1⟩ := h1
        obtain ⟨b31, e32, h2⟩ := h2
        cases e30.symm.trans e32
        refine ⟨b29, e30, ?_⟩
        intro x34 e33
        have h1 := h1 x34 e33
        have h2 := h2 x34 e33
        intro x36 e35
        have h1 := h1 x36 e35
        have h2 := h2 x36 e35
        obtain ⟨c37, h1⟩ := h1
        obtain ⟨_, h2⟩ := h2
        refine ⟨c37, ?_⟩
        refine cm_X5_endOf h1 h2 (fun x38 x39 h1 h2 g40 => ?_)
        have h1 := h1 g40
        have h2 := h2 g40
        intro x42 e41
        have h1 := h1 x42 e41
        have h2 := h2 x42 e41
        refine cm_X5_minutesAt h1 h2 (fun x43 x44 h1 h2 g45 => ?_)
        have h1 := h1 g45
        have h2 := h2 g45
        intro x47 e46
        have h1 := h1 x47 e46
        have h2 := h2 x47 e46
        exact cm_X7_trace_143 h1 h2 hq hX9
    · intro c48
      have h1 := h1.2 c48
      have h2 := h2.2 c48
      intro x50 e49
      have h1 := h1 x50 e49
      have h2 := h2 x50 e49
      exact cm_X7_trace_143 h1 h2 hq hX9
  · intro c51
    have h1 := h1.2 c51
    have h2 := h2.2 c51
    exact hq _ _ h1 h2
set_option maxRecDepth 20000 in
set_option maxHeartbeats 1000000 in
theorem cm_X7_trace_55 {Q1 Q2 Q3 : Int32 → HS → Prop} {X9_1 X9_2 X9_3 : Nat → Nat → Int32 → Int32 → Int32 → HS → Prop} {v0 : Nat} {v1 : Nat} {v4 : Int32} {v5 : Int32} {v6 : Int32} {S : HS} (h1 : P_X7_trace_55 Q1 X9_1 v0 v1 v4 v5 v6 S) (h2 : P_X7_trace_55 Q2 X9_2 v0 v1 v4 v5 v6 S) (hq : ∀ (r : Int32) (T : HS), Q1 r T → Q2 r T → Q3 r T) (hX9 : ∀ (u0 : Nat) (u1 : Nat) (u2 : Int32) (u3 : Int32) (u4 : Int32) (u5 : HS), X9_1 u0 u1 u2 u3 u4 u5 → X9_2 u0 u1 u2 u3 u4 u5 → X9_3 u0 u1 u2 u3 u4 u5) : P_X7_trace_55 Q3 X9_3 v0 v1 v4 v5 v6 S := by
  delta P_X7_trace_55 at h1 h2 ⊢
  exact cm_X7_trace_56 h1 h2 hq hX9
set_option maxRecDepth 20000 in
set_option maxHeartbeats 1000000 in
theorem cmB_X7_trace_9 {Q1 Q2 Q3 : Int32 → HS → Prop} {X9_1 X9_2 X9_3 : Nat → Nat → Int32 → Int32 → Int32 → HS → Prop} {v0 : Nat} {v1 : Nat} {v4 : Int32} {v5 : Int32} {v6 : Int32} {S : HS} (h1 : B_X7_trace_9 Q1 X9_1 v0 v1 v4 v5 v6 S) (h2 : B_X7_trace_9 Q2 X9_2 v0 v1 v4 v5 v6 S) (hq : ∀ (r : Int32) (T : HS), Q1 r T → Q2 r T → Q3 r T) (hX9 : ∀ (u0 : Nat) (u1 : Nat) (u2 : Int32) (u3 : Int32) (u4 : Int32) (u5 : HS), X9_1 u0 u1 u2 u3 u4 u5 → X9_2 u0 u1 u2 u3 u4 u5 → X9_3 u0 u1 u2 u3 u4 u5) : B_X7_trace_9 Q3 X9_3 v0 v1 v4 v5 v6 S := by
  delta B_X7_trace_9 at h1 h2 ⊢
  obtain ⟨c1, h1⟩ := h1
  obtain ⟨_, h2⟩ := h2
  refine ⟨c1, ?_⟩
  obtain ⟨b2, e3, h1⟩ := h1
  obtain ⟨b4, e5, h2⟩ := h2
  cases e3.symm.trans e5
  refine ⟨b2, e3, ?_⟩
  obtain ⟨c6, h1⟩ := h1
  obtain ⟨_, h2⟩ := h2
  refine ⟨c6, ?_⟩
  refine ⟨?_, ?_⟩
  · intro c7
    have h1 := h1.1 c7
    have h2 := h2.1 c7
    obtain ⟨b8, e9, h1⟩ := h1
    obtain ⟨b10, e11, h2⟩ := h2
    cases e9.symm.trans e11
    refine ⟨b8, e9, ?_⟩
    obtain ⟨c12, h1⟩ := h1
    obtain ⟨_, h2⟩ := h2
    refine ⟨c12, ?_⟩
    exact hq _ _ h1 h2
  · intro c13
    have h1 := h1.2 c13
    have h2 := h2.2 c13
    intro x15 e14
    have h1 := h1 x15 e14
    have h2 := h2 x15 e14
    refine ⟨?_, ?_⟩
    · intro c16
      have h1 := h1.1 c16
      have h2 := h2.1 c16
      exact cm_X7_trace_55 h1 h2 hq hX9
    · intro c17
      have h1 := h1.2 c17
      have h2 := h2.2 c17
      obtain ⟨b18, e19, h1⟩ := h1
      obtain ⟨b20, e21, h2⟩ := h2
      cases e19.symm.trans e21
      refine ⟨b18, e19, ?_⟩
      obtain ⟨c22, h1⟩ := h1
      obtain ⟨_, h2⟩ := h2
      refine ⟨c22, ?_⟩
      refine ⟨?_, ?_⟩
      · intro c23
        have h1 := h1.1 c23
        have h2 := h2.1 c23
        exact cm_X7_trace_55 h1 h2 hq hX9
      · intro c24
        have h1 := h1.2 c24
        have h2 := h2.2 c24
        obtain ⟨b25, e26, h1⟩ := h1
        obtain ⟨b27, e28, h2⟩ := h2
        cases e26.symm.trans e28
        refine ⟨b25, e26, ?_⟩
        obtain ⟨c29, h1⟩ := h1
        obtain ⟨_, h2⟩ := h2
        refine ⟨c29, ?_⟩
        obtain ⟨c30, h1⟩ := h1
        obtain ⟨_, h2⟩ := h2
        refine ⟨c30, ?_⟩
        intro x32 e31
        have h1 := h1 x32 e31
        have h2 := h2 x32 e31
        exact cm_X7_trace_56 h1 h2 hq hX9
theorem fd_X7_trace_9 {Q : Int32 → HS → Prop} {v0 : Nat} {v1 : Nat} {v4 : Int32} {v5 : Int32} {v6 : Int32} {S : HS} (h : B_X7_trace_9 Q (P_X7_trace_9 Q) v0 v1 v4 v5 v6 S) : P_X7_trace_9 Q v0 v1 v4 v5 v6 S := fun X hX => hX v0 v1 v4 v5 v6 S (cmB_X7_trace_9 h h (fun _ _ a _ => a) (fun _ _ _ _ _ _ hp _ => hp X hX))
theorem uf_X7_trace_9 {Q : Int32 → HS → Prop} {v0 : Nat} {v1 : Nat} {v4 : Int32} {v5 : Int32} {v6 : Int32} {S : HS} (h : P_X7_trace_9 Q v0 v1 v4 v5 v6 S) : B_X7_trace_9 Q (P_X7_trace_9 Q) v0 v1 v4 v5 v6 S := h (fun v0 v1 v4 v5 v6 S => B_X7_trace_9 Q (P_X7_trace_9 Q) v0 v1 v4 v5 v6 S) (fun v0 v1 v4 v5 v6 S hB => cmB_X7_trace_9 hB hB (fun _ _ a _ => a) (fun _ _ _ _ _ _ hb _ => fd_X7_trace_9 hb))
theorem cm_X7_trace_9 {Q1 Q2 Q3 : Int32 → HS → Prop} {v0 : Nat} {v1 : Nat} {v4 : Int32} {v5 : Int32} {v6 : Int32} {S : HS} (h1 : P_X7_trace_9 Q1 v0 v1 v4 v5 v6 S) (h2 : P_X7_trace_9 Q2 v0 v1 v4 v5 v6 S) (hq : ∀ (r : Int32) (T : HS), Q1 r T → Q2 r T → Q3 r T) : P_X7_trace_9 Q3 v0 v1 v4 v5 v6 S := h1 (fun v0 v1 v4 v5 v6 S => P_X7_trace_9 Q2 v0 v1 v4 v5 v6 S → P_X7_trace_9 Q3 v0 v1 v4 v5 v6 S) (fun v0 v1 v4 v5 v6 S hB hp => fd_X7_trace_9 (cmB_X7_trace_9 hB (uf_X7_trace_9 hp) hq (fun _ _ _ _ _ _ hx hp => hx hp))) h2
set_option maxRecDepth 20000 in
set_option maxHeartbeats 1000000 in
theorem cm_X7_trace_0 {Q1 Q2 Q3 : Int32 → HS → Prop} {v0 : Nat} {v1 : Nat} {v2 : Int32} {v3 : Int32} {S : HS} (h1 : P_X7_trace_0 Q1 v0 v1 v2 v3 S) (h2 : P_X7_trace_0 Q2 v0 v1 v2 v3 S) (hq : ∀ (r : Int32) (T : HS), Q1 r T → Q2 r T → Q3 r T) : P_X7_trace_0 Q3 v0 v1 v2 v3 S := by
  delta P_X7_trace_0 at h1 h2 ⊢
  exact cm_X7_trace_9 h1 h2 hq
theorem cm_X7_trace {Q1 Q2 Q3 : Int32 → HS → Prop} {v0 : Nat} {v1 : Nat} {v2 : Int32} {v3 : Int32} {S : HS} (h1 : P_X7_trace v0 v1 v2 v3 Q1 S) (h2 : P_X7_trace v0 v1 v2 v3 Q2 S) (hq : ∀ (r : Int32) (T : HS), Q1 r T → Q2 r T → Q3 r T) : P_X7_trace v0 v1 v2 v3 Q3 S := cm_X7_trace_0 h1 h2 hq
end
