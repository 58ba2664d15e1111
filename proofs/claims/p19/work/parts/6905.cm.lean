section
set_option maxRecDepth 20000 in
set_option maxHeartbeats 1000000 in
theorem cm_X9_grant_0 {Q1 Q2 Q3 : Int32 → HS → Prop} {v0 : Nat} {v1 : Int32} {S : HS} (h1 : P_X9_grant_0 Q1 v0 v1 S) (h2 : P_X9_grant_0 Q2 v0 v1 S) (hq : ∀ (r : Int32) (T : HS), Q1 r T → Q2 r T → Q3 r T) : P_X9_grant_0 Q3 v0 v1 S := by
  delta P_X9_grant_0 at h1 h2 ⊢
  obtain ⟨c1, h1⟩ := h1
  obtain ⟨_, h2⟩ := h2
  refine ⟨c1, ?_⟩
  intro x3 e2
  have h1 := h1 x3 e2
  have h2 := h2 x3 e2
  exact hq _ _ h1 h2
theorem cm_X9_grant {Q1 Q2 Q3 : Int32 → HS → Prop} {v0 : Nat} {v1 : Int32} {S : HS} (h1 : P_X9_grant v0 v1 Q1 S) (h2 : P_X9_grant v0 v1 Q2 S) (hq : ∀ (r : Int32) (T : HS), Q1 r T → Q2 r T → Q3 r T) : P_X9_grant v0 v1 Q3 S := cm_X9_grant_0 h1 h2 hq
set_option maxRecDepth 20000 in
set_option maxHeartbeats 1000000 in
theorem cm_X9_isWay_0 {Q1 Q2 Q3 : Int32 → HS → Prop} {v0 : Int32} {S : HS} (h1 : P_X9_isWay_0 Q1 v0 S) (h2 : P_X9_isWay_0 Q2 v0 S) (hq : ∀ (r : Int32) (T : HS), Q1 r T → Q2 r T → Q3 r T) : P_X9_isWay_0 Q3 v0 S := by
  delta P_X9_isWay_0 at h1 h2 ⊢
  refine ⟨?_, ?_⟩
  · intro c1
    have h1 := h1.1 c1
    have h2 := h2.1 c1
    exact hq _ _ h1 h2
  · intro c2
    have h1 := h1.2 c2
    have h2 := h2.2 c2
    refine ⟨?_, ?_⟩
    · intro c3
      have h1 := h1.1 c3
      have h2 := h2.1 c3
      exact hq _ _ h1 h2
    · intro c4
      have h1 := h1.2 c4
      have h2 := h2.2 c4
      exact hq _ _ h1 h2
theorem cm_X9_isWay {Q1 Q2 Q3 : Int32 → HS → Prop} {v0 : Int32} {S : HS} (h1 : P_X9_isWay v0 Q1 S) (h2 : P_X9_isWay v0 Q2 S) (hq : ∀ (r : Int32) (T : HS), Q1 r T → Q2 r T → Q3 r T) : P_X9_isWay v0 Q3 S := cm_X9_isWay_0 h1 h2 hq
set_option maxRecDepth 20000 in
set_option maxHeartbeats 1000000 in
theorem cm_X9_air_0 {Q1 Q2 Q3 : Int32 → HS → Prop} {v0 : Nat} {v1 : Int32} {v2 : Int32} {v3 : Int32} {S : HS} (h1 : P_X9_air_0 Q1 v0 v1 v2 v3 S) (h2 : P_X9_air_0 Q2 v0 v1 v2 v3 S) (hq : ∀ (r : Int32) (T : HS), Q1 r T → Q2 r T → Q3 r T) : P_X9_air_0 Q3 v0 v1 v2 v3 S := by
  delta P_X9_air_0 at h1 h2 ⊢
  obtain ⟨c1, h1⟩ := h1
  obtain ⟨_, h2⟩ := h2
  refine ⟨c1, ?_⟩
  obtain ⟨b2, e3, h1⟩ := h1
  obtain ⟨b4, e5, h2⟩ := h2
  cases e3.symm.trans e5
  refine ⟨b2, e3, ?_⟩
  obtain ⟨c6, h1⟩ := h1
  obtain ⟨_, h2⟩ := h2
  refine ⟨c6, ?_⟩
  refine cm_X8_hasRoad h1 h2 (fun x7 x8 h1 h2 g9 g10 => ?_)
  have h1 := h1 g9 g10
  have h2 := h2 g9 g10
  refine ⟨?_, ?_⟩
  · intro c11
    have h1 := h1.1 c11
    have h2 := h2.1 c11
    intro x13 e12
    have h1 := h1 x13 e12
    have h2 := h2 x13 e12
    exact hq _ _ h1 h2
  · intro c14
    have h1 := h1.2 c14
    have h2 := h2.2 c14
    refine cm_X9_isWay h1 h2 (fun x15 x16 h1 h2 g17 g18 => ?_)
    have h1 := h1 g17 g18
    have h2 := h2 g17 g18
    refine ⟨?_, ?_⟩
    · intro c19
      have h1 := h1.1 c19
      have h2 := h2.1 c19
      intro x21 e20
      have h1 := h1 x21 e20
      have h2 := h2 x21 e20
      exact hq _ _ h1 h2
    · intro c22
      have h1 := h1.2 c22
      have h2 := h2.2 c22
      obtain ⟨b23, e24, h1⟩ := h1
      obtain ⟨b25, e26, h2⟩ := h2
      cases e24.symm.trans e26
      refine ⟨b23, e24, ?_⟩
      obtain ⟨c27, h1⟩ := h1
      obtain ⟨_, h2⟩ := h2
      refine ⟨c27, ?_⟩
      refine cm_X8_hasHour h1 h2 (fun x28 x29 h1 h2 g30 g31 => ?_)
      have h1 := h1 g30 g31
      have h2 := h2 g30 g31
      refine ⟨?_, ?_⟩
      · intro c32
        have h1 := h1.1 c32
        have h2 := h2.1 c32
        obtain ⟨b33, e34, h1⟩ := h1
        obtain ⟨b35, e36, h2⟩ := h2
        cases e34.symm.trans e36
        refine ⟨b33, e34, ?_⟩
        obtain ⟨c37, h1⟩ := h1
        obtain ⟨_, h2⟩ := h2
        refine ⟨c37, ?_⟩
        obtain ⟨b38, e39, h1⟩ := h1
        obtain ⟨b40, e41, h2⟩ := h2
        cases e39.symm.trans e41
        refine ⟨b38, e39, ?_⟩
        obtain ⟨c42, h1⟩ := h1
        obtain ⟨_, h2⟩ := h2
        refine ⟨c42, ?_⟩
        obtain ⟨c43, h1⟩ := h1
        obtain ⟨_, h2⟩ := h2
        refine ⟨c43, ?_⟩
        obtain ⟨b44, e45, h1⟩ := h1
        obtain ⟨b46, e47, h2⟩ := h2
        cases e45.symm.trans e47
        refine ⟨b44, e45, ?_⟩
        obtain ⟨b48, e49, h1⟩ := h1
        obtain ⟨b50, e51, h2⟩ := h2
        cases e49.symm.trans e51
        refine ⟨b48, e49, ?_⟩
        obtain ⟨c52, h1⟩ := h1
        obtain ⟨_, h2⟩ := h2
        refine ⟨c52, ?_⟩
        obtain ⟨b53, e54, h1⟩ := h1
        obtain ⟨b55, e56, h2⟩ := h2
        cases e54.symm.trans e56
        refine ⟨b53, e54, ?_⟩
        obtain ⟨c57, h1⟩ := h1
        obtain ⟨_, h2⟩ := h2
        refine ⟨c57, ?_⟩
        obtain ⟨c58, h1⟩ := h1
        obtain ⟨_, h2⟩ := h2
        refine ⟨c58, ?_⟩
        obtain ⟨b59, e60, h1⟩ := h1
        obtain ⟨b61, e62, h2⟩ := h2
        cases e60.symm.trans e62
        refine ⟨b59, e60, ?_⟩
        obtain ⟨c63, h1⟩ := h1
        obtain ⟨_, h2⟩ := h2
        refine ⟨c63, ?_⟩
        refine cm_X5_airAlong h1 h2 (fun x64 x65 h1 h2 g66 => ?_)
        have h1 := h1 g66
        have h2 := h2 g66
        refine cm_X9_grant h1 h2 (fun x67 x68 h1 h2 g69 => ?_)
        have h1 := h1 g69
        have h2 := h2 g69
        exact hq _ _ h1 h2
      · intro c70
        have h1 := h1.2 c70
        have h2 := h2.2 c70
        intro x72 e71
        have h1 := h1 x72 e71
        have h2 := h2 x72 e71
        exact hq _ _ h1 h2
theorem cm_X9_air {Q1 Q2 Q3 : Int32 → HS → Prop} {v0 : Nat} {v1 : Int32} {v2 : Int32} {v3 : Int32} {S : HS} (h1 : P_X9_air v0 v1 v2 v3 Q1 S) (h2 : P_X9_air v0 v1 v2 v3 Q2 S) (hq : ∀ (r : Int32) (T : HS), Q1 r T → Q2 r T → Q3 r T) : P_X9_air v0 v1 v2 v3 Q3 S := cm_X9_air_0 h1 h2 hq
set_option maxRecDepth 20000 in
set_option maxHeartbeats 1000000 in
theorem cm_X9_refusedBy_0 {Q1 Q2 Q3 : Int32 → HS → Prop} {v0 : Nat} {v1 : Int32} {S : HS} (h1 : P_X9_refusedBy_0 Q1 v0 v1 S) (h2 : P_X9_refusedBy_0 Q2 v0 v1 S) (hq : ∀ (r : Int32) (T : HS), Q1 r T → Q2 r T → Q3 r T) : P_X9_refusedBy_0 Q3 v0 v1 S := by
  delta P_X9_refusedBy_0 at h1 h2 ⊢
  obtain ⟨c1, h1⟩ := h1
  obtain ⟨_, h2⟩ := h2
  refine ⟨c1, ?_⟩
  intro x3 e2
  have h1 := h1 x3 e2
  have h2 := h2 x3 e2
  refine ⟨?_, ?_⟩
  · intro c4
    have h1 := h1.1 c4
    have h2 := h2.1 c4
    exact hq _ _ h1 h2
  · intro c5
    have h1 := h1.2 c5
    have h2 := h2.2 c5
    exact hq _ _ h1 h2
theorem cm_X9_refusedBy {Q1 Q2 Q3 : Int32 → HS → Prop} {v0 : Nat} {v1 : Int32} {S : HS} (h1 : P_X9_refusedBy v0 v1 Q1 S) (h2 : P_X9_refusedBy v0 v1 Q2 S) (hq : ∀ (r : Int32) (T : HS), Q1 r T → Q2 r T → Q3 r T) : P_X9_refusedBy v0 v1 Q3 S := cm_X9_refusedBy_0 h1 h2 hq
set_option maxRecDepth 20000 in
set_option maxHeartbeats 1000000 in
theorem cm_X9_back_17 {Q1 Q2 Q3 : Int32 → HS → Prop} {s0 : Nat} {s1 : Int32} {S : HS} (h1 : P_X9_back_17 Q1 s0 s1 S) (h2 : P_X9_back_17 Q2 s0 s1 S) (hq : ∀ (r : Int32) (T : HS), Q1 r T → Q2 r T → Q3 r T) : P_X9_back_17 Q3 s0 s1 S := by
  delta P_X9_back_17 at h1 h2 ⊢
  obtain ⟨c1, h1⟩ := h1
  obtain ⟨_, h2⟩ := h2
  refine ⟨c1, ?_⟩
  refine cm_X9_refusedBy h1 h2 (fun x2 x3 h1 h2 g4 g5 => ?_)
  have h1 := h1 g4 g5
  have h2 := h2 g4 g5
  refine ⟨?_, ?_⟩
  · intro c6
    have h1 := h1.1 c6
    have h2 := h2.1 c6
    exact hq _ _ h1 h2
  · intro c7
    have h1 := h1.2 c7
    have h2 := h2.2 c7
    exact hq _ _ h1 h2
set_option maxRecDepth 20000 in
set_option maxHeartbeats 1000000 in
theorem cm_X9_back_0 {Q1 Q2 Q3 : Int32 → HS → Prop} {v0 : Nat} {v1 : Int32} {S : HS} (h1 : P_X9_back_0 Q1 v0 v1 S) (h2 : P_X9_back_0 Q2 v0 v1 S) (hq : ∀ (r : Int32) (T : HS), Q1 r T → Q2 r T → Q3 r T) : P_X9_back_0 Q3 v0 v1 S := by
  delta P_X9_back_0 at h1 h2 ⊢
  obtain ⟨c1, h1⟩ := h1
  obtain ⟨_, h2⟩ := h2
  refine ⟨c1, ?_⟩
  obtain ⟨b2, e3, h1⟩ := h1
  obtain ⟨b4, e5, h2⟩ := h2
  cases e3.symm.trans e5
  refine ⟨b2, e3, ?_⟩
  obtain ⟨c6, h1⟩ := h1
  obtain ⟨_, h2⟩ := h2
  refine ⟨c6, ?_⟩
  refine cm_X0_returnTo h1 h2 (fun x7 x8 h1 h2 g9 g10 => ?_)
  have h1 := h1 g9 g10
  have h2 := h2 g9 g10
  refine ⟨?_, ?_⟩
  · intro c11
    have h1 := h1.1 c11
    have h2 := h2.1 c11
    exact cm_X9_back_17 h1 h2 hq
  · intro c12
    have h1 := h1.2 c12
    have h2 := h2.2 c12
    exact cm_X9_back_17 h1 h2 hq
theorem cm_X9_back {Q1 Q2 Q3 : Int32 → HS → Prop} {v0 : Nat} {v1 : Int32} {S : HS} (h1 : P_X9_back v0 v1 Q1 S) (h2 : P_X9_back v0 v1 Q2 S) (hq : ∀ (r : Int32) (T : HS), Q1 r T → Q2 r T → Q3 r T) : P_X9_back v0 v1 Q3 S := cm_X9_back_0 h1 h2 hq
set_option maxRecDepth 20000 in
set_option maxHeartbeats 1000000 in
theorem cm_X9_tripTrouble_46 {Q1 Q2 Q3 : Int32 → HS → Prop} {s0 : Int32} {S : HS} (h1 : P_X9_tripTrouble_46 Q1 s0 S) (h2 : P_X9_tripTrouble_46 Q2 s0 S) (hq : ∀ (r : Int32) (T : HS), Q1 r T → Q2 r T → Q3 r T) : P_X9_tripTrouble_46 Q3 s0 S := by
  delta P_X9_tripTrouble_46 at h1 h2 ⊢
  refine ⟨?_, ?_⟩
  · intro c1
    have h1 := h1.1 c1
    have h2 := h2.1 c1
    exact hq _ _ h1 h2
  · intro c2
    have h1 := h1.2 c2
    have h2 := h2.2 c2
    exact hq _ _ h1 h2
set_option maxRecDepth 20000 in
set_option maxHeartbeats 1000000 in
theorem cm_X9_tripTrouble_45 {Q1 Q2 Q3 : Int32 → HS → Prop} {S : HS} (h1 : P_X9_tripTrouble_45 Q1 S) (h2 : P_X9_tripTrouble_45 Q2 S) (hq : ∀ (r : Int32) (T : HS), Q1 r T → Q2 r T → Q3 r T) : P_X9_tripTrouble_45 Q3 S := by
  delta P_X9_tripTrouble_45 at h1 h2 ⊢
  exact cm_X9_tripTrouble_46 h1 h2 hq
set_option maxRecDepth 20000 in
set_option maxHeartbeats 1000000 in
theorem cm_X9_tripTrouble_0 {Q1 Q2 Q3 : Int32 → HS → Prop} {v0 : Nat} {v1 : Int32} {v2 : Int32} {v3 : Int32} {v4 : Int32} {S : HS} (h1 : P_X9_tripTrouble_0 Q1 v0 v1 v2 v3 v4 S) (h2 : P_X9_tripTrouble_0 Q2 v0 v1 v2 v3 v4 S) (hq : ∀ (r : Int32) (T : HS), Q1 r T → Q2 r T → Q3 r T) : P_X9_tripTrouble_0 Q3 v0 v1 v2 v3 v4 S := by
  delta P_X9_tripTrouble_0 at h1 h2 ⊢
  obtain ⟨c1, h1⟩ := h1
  obtain ⟨_, h2⟩ := h2
  refine ⟨c1, ?_⟩
  obtain ⟨b2, e3, h1⟩ := h1
  obtain ⟨b4, e5, h2⟩ := h2
  cases e3.symm.trans e5
  refine ⟨b2, e3, ?_⟩
  obtain ⟨c6, h1⟩ := h1
  obtain ⟨_, h2⟩ := h2
  refine ⟨c6, ?_⟩
  refine cm_X8_hasWalker h1 h2 (fun x7 x8 h1 h2 g9 g10 => ?_)
  have h1 := h1 g9 g10
  have h2 := h2 g9 g10
  refine ⟨?_, ?_⟩
  · intro c11
    have h1 := h1.1 c11
    have h2 := h2.1 c11
    exact cm_X9_tripTrouble_45 h1 h2 hq
  · intro c12
    have h1 := h1.2 c12
    have h2 := h2.2 c12
    obtain ⟨b13, e14, h1⟩ := h1
    obtain ⟨b15, e16, h2⟩ := h2
    cases e14.symm.trans e16
    refine ⟨b13, e14, ?_⟩
    obtain ⟨c17, h1⟩ := h1
    obtain ⟨_, h2⟩ := h2
    refine ⟨c17, ?_⟩
    refine cm_X8_hasRoad h1 h2 (fun x18 x19 h1 h2 g20 g21 => ?_)
    have h1 := h1 g20 g21
    have h2 := h2 g20 g21
    refine ⟨?_, ?_⟩
    · intro c22
      have h1 := h1.1 c22
      have h2 := h2.1 c22
      exact cm_X9_tripTrouble_45 h1 h2 hq
    · intro c23
      have h1 := h1.2 c23
      have h2 := h2.2 c23
      refine cm_X9_isWay h1 h2 (fun x24 x25 h1 h2 g26 g27 => ?_)
      have h1 := h1 g26 g27
      have h2 := h2 g26 g27
      refine ⟨?_, ?_⟩
      · intro c28
        have h1 := h1.1 c28
        have h2 := h2.1 c28
        exact cm_X9_tripTrouble_45 h1 h2 hq
      · intro c29
        have h1 := h1.2 c29
        have h2 := h2.2 c29
        obtain ⟨b30, e31, h1⟩ := h1
        obtain ⟨b32, e33, h2⟩ := h2
        cases e31.symm.trans e33
        refine ⟨b30, e31, ?_⟩
        obtain ⟨c34, h1⟩ := h1
        obtain ⟨_, h2⟩ := h2
        refine ⟨c34, ?_⟩
        refine cm_X8_hasHour h1 h2 (fun x35 x36 h1 h2 g37 g38 => ?_)
        have h1 := h1 g37 g38
        have h2 := h2 g37 g38
        refine ⟨?_, ?_⟩
        · intro c39
          have h1 := h1.1 c39
          have h2 := h2.1 c39
          exact cm_X9_tripTrouble_45 h1 h2 hq
        · intro c40
          have h1 := h1.2 c40
          have h2 := h2.2 c40
          exact cm_X9_tripTrouble_46 h1 h2 hq
theorem cm_X9_tripTrouble {Q1 Q2 Q3 : Int32 → HS → Prop} {v0 : Nat} {v1 : Int32} {v2 : Int32} {v3 : Int32} {v4 : Int32} {S : HS} (h1 : P_X9_tripTrouble v0 v1 v2 v3 v4 Q1 S) (h2 : P_X9_tripTrouble v0 v1 v2 v3 v4 Q2 S) (hq : ∀ (r : Int32) (T : HS), Q1 r T → Q2 r T → Q3 r T) : P_X9_tripTrouble v0 v1 v2 v3 v4 Q3 S := cm_X9_tripTrouble_0 h1 h2 hq
set_option maxRecDepth 20000 in
set_option maxHeartbeats 1000000 in
theorem cm_X9_best_0 {Q1 Q2 Q3 : Int32 → HS → Prop} {v0 : Nat} {v1 : Int32} {v2 : Int32} {v3 : Int32} {v4 : Int32} {S : HS} (h1 : P_X9_best_0 Q1 v0 v1 v2 v3 v4 S) (h2 : P_X9_best_0 Q2 v0 v1 v2 v3 v4 S) (hq : ∀ (r : Int32) (T : HS), Q1 r T → Q2 r T → Q3 r T) : P_X9_best_0 Q3 v0 v1 v2 v3 v4 S := by
  delta P_X9_best_0 at h1 h2 ⊢
  obtain ⟨c1, h1⟩ := h1
  obtain ⟨_, h2⟩ := h2
  refine ⟨c1, ?_⟩
  refine cm_X9_tripTrouble h1 h2 (fun x2 x3 h1 h2 g4 => ?_)
  have h1 := h1 g4
  have h2 := h2 g4
  refine cm_X9_refusedBy h1 h2 (fun x5 x6 h1 h2 g7 g8 => ?_)
  have h1 := h1 g7 g8
  have h2 := h2 g7 g8
  refine ⟨?_, ?_⟩
  · intro c9
    have h1 := h1.1 c9
    have h2 := h2.1 c9
    obtain ⟨b10, e11, h1⟩ := h1
    obtain ⟨b12, e13, h2⟩ := h2
    cases e11.symm.trans e13
    refine ⟨b10, e11, ?_⟩
    obtain ⟨b14, e15, h1⟩ := h1
    obtain ⟨b16, e17, h2⟩ := h2
    cases e15.symm.trans e17
    refine ⟨b14, e15, ?_⟩
    obtain ⟨c18, h1⟩ := h1
    obtain ⟨_, h2⟩ := h2
    refine ⟨c18, ?_⟩
    obtain ⟨b19, e20, h1⟩ := h1
    obtain ⟨b21, e22, h2⟩ := h2
    cases e20.symm.trans e22
    refine ⟨b19, e20, ?_⟩
    obtain ⟨c23, h1⟩ := h1
    obtain ⟨_, h2⟩ := h2
    refine ⟨c23, ?_⟩
    obtain ⟨c24, h1⟩ := h1
    obtain ⟨_, h2⟩ := h2
    refine ⟨c24, ?_⟩
    obtain ⟨b25, e26, h1⟩ := h1
    obtain ⟨b27, e28, h2⟩ := h2
    cases e26.symm.trans e28
    refine ⟨b25, e26, ?_⟩
    obtain ⟨b29, e30, h1⟩ := h1
    obtain ⟨b31, e32, h2⟩ := h2
    cases e30.symm.trans e32
    refine ⟨b29, e30, ?_⟩
    obtain ⟨c33, h1⟩ := h1
    obtain ⟨_, h2⟩ := h2
    refine ⟨c33, ?_⟩
    obtain ⟨b34, e35, h1⟩ := h1
    obtain ⟨b36, e37, h2⟩ := h2
    cases e35.symm.trans e37
    refine ⟨b34, e35, ?_⟩
    obtain ⟨c38, h1⟩ := h1
    obtain ⟨_, h2⟩ := h2
    refine ⟨c38, ?_⟩
    obtain ⟨c39, h1⟩ := h1
    obtain ⟨_, h2⟩ := h2
    refine ⟨c39, ?_⟩
    obtain ⟨b40, e41, h1⟩ := h1
    obtain ⟨b42, e43, h2⟩ := h2
    cases e41.symm.trans e43
    refine ⟨b40, e41, ?_⟩
    obtain ⟨b44, e45, h1⟩ := h1
    obtain ⟨b46, e47, h2⟩ := h2
    cases e45.symm.trans e47
    refine ⟨b44, e45, ?_⟩
    obtain ⟨c48, h1⟩ := h1
    obtain ⟨_, h2⟩ := h2
    refine ⟨c48, ?_⟩
    obtain ⟨b49, e50, h1⟩ := h1
    obtain ⟨b51, e52, h2⟩ := h2
    cases e50.symm.trans e52
    refine ⟨b49, e50, ?_⟩
    obtain ⟨c53, h1⟩ := h1
    obtain ⟨_, h2⟩ := h2
    refine ⟨c53, ?_⟩
    obtain ⟨c54, h1⟩ := h1
    obtain ⟨_, h2⟩ := h2
    refine ⟨c54, ?_⟩
    obtain ⟨b55, e56, h1⟩ := h1
    obtain ⟨b57, e58, h2⟩ := h2
    cases e56.symm.trans e58
    refine ⟨b55, e56, ?_⟩
    obtain ⟨c59, h1⟩ := h1
    obtain ⟨_, h2⟩ := h2
    refine ⟨c59, ?_⟩
    refine cm_X1_bestSpeed h1 h2 (fun x60 x61 h1 h2 g62 => ?_)
    have h1 := h1 g62
    have h2 := h2 g62
    exact hq _ _ h1 h2
  · intro c63
    have h1 := h1.2 c63
    have h2 := h2.2 c63
    exact hq _ _ h1 h2
theorem cm_X9_best {Q1 Q2 Q3 : Int32 → HS → Prop} {v0 : Nat} {v1 : Int32} {v2 : Int32} {v3 : Int32} {v4 : Int32} {S : HS} (h1 : P_X9_best v0 v1 v2 v3 v4 Q1 S) (h2 : P_X9_best v0 v1 v2 v3 v4 Q2 S) (hq : ∀ (r : Int32) (T : HS), Q1 r T → Q2 r T → Q3 r T) : P_X9_best v0 v1 v2 v3 v4 Q3 S := cm_X9_best_0 h1 h2 hq
set_option maxRecDepth 20000 in
set_option maxHeartbeats 1000000 in
theorem cm_X9_coatParts_0 {Q1 Q2 Q3 : Int64 → HS → Prop} {v0 : Nat} {S : HS} (h1 : P_X9_coatParts_0 Q1 v0 S) (h2 : P_X9_coatParts_0 Q2 v0 S) (hq : ∀ (r : Int64) (T : HS), Q1 r T → Q2 r T → Q3 r T) : P_X9_coatParts_0 Q3 v0 S := by
  delta P_X9_coatParts_0 at h1 h2 ⊢
  obtain ⟨c1, h1⟩ := h1
  obtain ⟨_, h2⟩ := h2
  refine ⟨c1, ?_⟩
  intro x3 e2
  have h1 := h1 x3 e2
  have h2 := h2 x3 e2
  refine ⟨?_, ?_⟩
  · intro c4
    have h1 := h1.1 c4
    have h2 := h2.1 c4
    exact hq _ _ h1 h2
  · intro c5
    have h1 := h1.2 c5
    have h2 := h2.2 c5
    intro x7 e6
    have h1 := h1 x7 e6
    have h2 := h2 x7 e6
    exact hq _ _ h1 h2
theorem cm_X9_coatParts {Q1 Q2 Q3 : Int64 → HS → Prop} {v0 : Nat} {S : HS} (h1 : P_X9_coatParts v0 Q1 S) (h2 : P_X9_coatParts v0 Q2 S) (hq : ∀ (r : Int64) (T : HS), Q1 r T → Q2 r T → Q3 r T) : P_X9_coatParts v0 Q3 S := cm_X9_coatParts_0 h1 h2 hq
set_option maxRecDepth 20000 in
set_option maxHeartbeats 1000000 in
theorem cmB_X9_commonDivisor_9 {Q1 Q2 Q3 : Int64 → HS → Prop} {X9_1 X9_2 X9_3 : Int64 → Int64 → Int32 → HS → Prop} {v4 : Int64} {v6 : Int64} {v8 : Int32} {S : HS} (h1 : B_X9_commonDivisor_9 Q1 X9_1 v4 v6 v8 S) (h2 : B_X9_commonDivisor_9 Q2 X9_2 v4 v6 v8 S) (hq : ∀ (r : Int64) (T : HS), Q1 r T → Q2 r T → Q3 r T) (hX9 : ∀ (u0 : Int64) (u1 : Int64) (u2 : Int32) (u3 : HS), X9_1 u0 u1 u2 u3 → X9_2 u0 u1 u2 u3 → X9_3 u0 u1 u2 u3) : B_X9_commonDivisor_9 Q3 X9_3 v4 v6 v8 S := by
  delta B_X9_commonDivisor_9 at h1 h2 ⊢
  refine ⟨?_, ?_⟩
  · intro c1
    have h1 := h1.1 c1
    have h2 := h2.1 c1
    exact hq _ _ h1 h2
  · intro c2
    have h1 := h1.2 c2
    have h2 := h2.2 c2
    refine ⟨?_, ?_⟩
    · intro c3
      have h1 := h1.1 c3
      have h2 := h2.1 c3
      exact hq _ _ h1 h2
    · intro c4
      have h1 := h1.2 c4
      have h2 := h2.2 c4
      obtain ⟨c5, h1⟩ := h1
      obtain ⟨_, h2⟩ := h2
      refine ⟨c5, ?_⟩
      intro x7 e6
      have h1 := h1 x7 e6
      have h2 := h2 x7 e6
      intro x9 e8
      have h1 := h1 x9 e8
      have h2 := h2 x9 e8
      exact hX9 _ _ _ _ h1 h2
theorem fd_X9_commonDivisor_9 {Q : Int64 → HS → Prop} {v4 : Int64} {v6 : Int64} {v8 : Int32} {S : HS} (h : B_X9_commonDivisor_9 Q (P_X9_commonDivisor_9 Q) v4 v6 v8 S) : P_X9_commonDivisor_9 Q v4 v6 v8 S := fun X hX => hX v4 v6 v8 S (cmB_X9_commonDivisor_9 h h (fun _ _ a _ => a) (fun _ _ _ _ hp _ => hp X hX))
theorem uf_X9_commonDivisor_9 {Q : Int64 → HS → Prop} {v4 : Int64} {v6 : Int64} {v8 : Int32} {S : HS} (h : P_X9_commonDivisor_9 Q v4 v6 v8 S) : B_X9_commonDivisor_9 Q (P_X9_commonDivisor_9 Q) v4 v6 v8 S := h (fun v4 v6 v8 S => B_X9_commonDivisor_9 Q (P_X9_commonDivisor_9 Q) v4 v6 v8 S) (fun v4 v6 v8 S hB => cmB_X9_commonDivisor_9 hB hB (fun _ _ a _ => a) (fun _ _ _ _ hb _ => fd_X9_commonDivisor_9 hb))
theorem cm_X9_commonDivisor_9 {Q1 Q2 Q3 : Int64 → HS → Prop} {v4 : Int64} {v6 : Int64} {v8 : Int32} {S : HS} (h1 : P_X9_commonDivisor_9 Q1 v4 v6 v8 S) (h2 : P_X9_commonDivisor_9 Q2 v4 v6 v8 S) (hq : ∀ (r : Int64) (T : HS), Q1 r T → Q2 r T → Q3 r T) : P_X9_commonDivisor_9 Q3 v4 v6 v8 S := h1 (fun v4 v6 v8 S => P_X9_commonDivisor_9 Q2 v4 v6 v8 S → P_X9_commonDivisor_9 Q3 v4 v6 v8 S) (fun v4 v6 v8 S hB hp => fd_X9_commonDivisor_9 (cmB_X9_commonDivisor_9 hB (uf_X9_commonDivisor_9 hp) hq (fun _ _ _ _ hx hp => hx hp))) h2
set_option maxRecDepth 20000 in
set_option maxHeartbeats 1000000 in
theorem cm_X9_commonDivisor_0 {Q1 Q2 Q3 : Int64 → HS → Prop} {v0 : Int64} {v2 : Int64} {S : HS} (h1 : P_X9_commonDivisor_0 Q1 v0 v2 S) (h2 : P_X9_commonDivisor_0 Q2 v0 v2 S) (hq : ∀ (r : Int64) (T : HS), Q1 r T → Q2 r T → Q3 r T) : P_X9_commonDivisor_0 Q3 v0 v2 S := by
  delta P_X9_commonDivisor_0 at h1 h2 ⊢
  exact cm_X9_commonDivisor_9 h1 h2 hq
theorem cm_X9_commonDivisor {Q1 Q2 Q3 : Int64 → HS → Prop} {v0 : Int64} {v2 : Int64} {S : HS} (h1 : P_X9_commonDivisor v0 v2 Q1 S) (h2 : P_X9_commonDivisor v0 v2 Q2 S) (hq : ∀ (r : Int64) (T : HS), Q1 r T → Q2 r T → Q3 r T) : P_X9_commonDivisor v0 v2 Q3 S := cm_X9_commonDivisor_0 h1 h2 hq
set_option maxRecDepth 20000 in
set_option maxHeartbeats 1000000 in
theorem cm_X9_refuse_0 {Q1 Q2 Q3 : Int32 → HS → Prop} {v0 : Nat} {v1 : Int32} {S : HS} (h1 : P_X9_refuse_0 Q1 v0 v1 S) (h2 : P_X9_refuse_0 Q2 v0 v1 S) (hq : ∀ (r : Int32) (T : HS), Q1 r T → Q2 r T → Q3 r T) : P_X9_refuse_0 Q3 v0 v1 S := by
  delta P_X9_refuse_0 at h1 h2 ⊢
  obtain ⟨c1, h1⟩ := h1
  obtain ⟨_, h2⟩ := h2
  refine ⟨c1, ?_⟩
  intro x3 e2
  have h1 := h1 x3 e2
  have h2 := h2 x3 e2
  exact hq _ _ h1 h2
theorem cm_X9_refuse {Q1 Q2 Q3 : Int32 → HS → Prop} {v0 : Nat} {v1 : Int32} {S : HS} (h1 : P_X9_refuse v0 v1 Q1 S) (h2 : P_X9_refuse v0 v1 Q2 S) (hq : ∀ (r : Int32) (T : HS), Q1 r T → Q2 r T → Q3 r T) : P_X9_refuse v0 v1 Q3 S := cm_X9_refuse_0 h1 h2 hq
set_option maxRecDepth 20000 in
set_option maxHeartbeats 1000000 in
theorem cm_X9_day_22 {Q1 Q2 Q3 : Int32 → HS → Prop} {v0 : Nat} {S : HS} (h1 : P_X9_day_22 Q1 v0 S) (h2 : P_X9_day_22 Q2 v0 S) (hq : ∀ (r : Int32) (T : HS), Q1 r T → Q2 r T → Q3 r T) : P_X9_day_22 Q3 v0 S := by
  delta P_X9_day_22 at h1 h2 ⊢
  obtain ⟨c1, h1⟩ := h1
  obtain ⟨_, h2⟩ := h2
  refine ⟨c1, ?_⟩
  refine cm_X9_refuse h1 h2 (fun x2 x3 h1 h2 g4 => ?_)
  have h1 := h1 g4
  have h2 := h2 g4
  exact hq _ _ h1 h2
set_option maxRecDepth 20000 in
set_option maxHeartbeats 1000000 in
theorem cm_X9_day_52 {Q1 Q2 Q3 : Int32 → HS → Prop} {v0 : Nat} {S : HS} (h1 : P_X9_day_52 Q1 v0 S) (h2 : P_X9_day_52 Q2 v0 S) (hq : ∀ (r : Int32) (T : HS), Q1 r T → Q2 r T → Q3 r T) : P_X9_day_52 Q3 v0 S := by
  delta P_X9_day_52 at h1 h2 ⊢
  obtain ⟨c1, h1⟩ := h1
  obtain ⟨_, h2⟩ := h2
  refine ⟨c1, ?_⟩
  refine cm_X9_refuse h1 h2 (fun x2 x3 h1 h2 g4 => ?_)
  have h1 := h1 g4
  have h2 := h2 g4
  exact hq _ _ h1 h2
set_option maxRecDepth 20000 in
set_option maxHeartbeats 1000000 in
theorem cm_X9_day_0 {Q1 Q2 Q3 : Int32 → HS → Prop} {v0 : Nat} {v1 : Int32} {v2 : Int32} {v3 : Int32} {v4 : Int32} {S : HS} (h1 : P_X9_day_0 Q1 v0 v1 v2 v3 v4 S) (h2 : P_X9_day_0 Q2 v0 v1 v2 v3 v4 S) (hq : ∀ (r : Int32) (T : HS), Q1 r T → Q2 r T → Q3 r T) : P_X9_day_0 Q3 v0 v1 v2 v3 v4 S := by
  delta P_X9_day_0 at h1 h2 ⊢
  obtain ⟨c1, h1⟩ := h1
  obtain ⟨_, h2⟩ := h2
  refine ⟨c1, ?_⟩
  obtain ⟨b2, e3, h1⟩ := h1
  obtain ⟨b4, e5, h2⟩ := h2
  cases e3.symm.trans e5
  refine ⟨b2, e3, ?_⟩
  obtain ⟨c6, h1⟩ := h1
  obtain ⟨_, h2⟩ := h2
  refine ⟨c6, ?_⟩
  refine cm_X8_hasWalker h1 h2 (fun x7 x8 h1 h2 g9 g10 => ?_)
  have h1 := h1 g9 g10
  have h2 := h2 g9 g10
  refine ⟨?_, ?_⟩
  · intro c11
    have h1 := h1.1 c11
    have h2 := h2.1 c11
    exact cm_X9_day_22 h1 h2 hq
  · intro c12
    have h1 := h1.2 c12
    have h2 := h2.2 c12
    obtain ⟨b13, e14, h1⟩ := h1
    obtain ⟨b15, e16, h2⟩ := h2
    cases e14.symm.trans e16
    refine ⟨b13, e14, ?_⟩
    obtain ⟨c17, h1⟩ := h1
    obtain ⟨_, h2⟩ := h2
    refine ⟨c17, ?_⟩
    refine cm_X8_hasPlace h1 h2 (fun x18 x19 h1 h2 g20 g21 => ?_)
    have h1 := h1 g20 g21
    have h2 := h2 g20 g21
    refine ⟨?_, ?_⟩
    · intro c22
      have h1 := h1.1 c22
      have h2 := h2.1 c22
      refine ⟨?_, ?_⟩
      · intro c23
        have h1 := h1.1 c23
        have h2 := h2.1 c23
        exact cm_X9_day_52 h1 h2 hq
      · intro c24
        have h1 := h1.2 c24
        have h2 := h2.2 c24
        refine ⟨?_, ?_⟩
        · intro c25
          have h1 := h1.1 c25
          have h2 := h2.1 c25
          exact cm_X9_day_52 h1 h2 hq
        · intro c26
          have h1 := h1.2 c26
          have h2 := h2.2 c26
          refine ⟨?_, ?_⟩
          · intro c27
            have h1 := h1.1 c27
            have h2 := h2.1 c27
            exact cm_X9_day_52 h1 h2 hq
          · intro c28
            have h1 := h1.2 c28
            have h2 := h2.2 c28
            refine ⟨?_, ?_⟩
            · intro c29
              have h1 := h1.1 c29
              have h2 := h2.1 c29
              obtain ⟨b30, e31, h1⟩ := h1
              obtain ⟨b32, e33, h2⟩ := h2
              cases e31.symm.trans e33
              refine ⟨b30, e31, ?_⟩
              obtain ⟨c34, h1⟩ := h1
              obtain ⟨_, h2⟩ := h2
              refine ⟨c34, ?_⟩
              refine cm_X0_begin h1 h2 (fun x35 h1 h2 g36 => ?_)
              have h1 := h1 g36
              have h2 := h2 g36
              obtain ⟨b37, e38, h1⟩ := h1
              obtain ⟨b39, e40, h2⟩ := h2
              cases e38.symm.trans e40
              refine ⟨b37, e38, ?_⟩
              obtain ⟨b41, e42, h1⟩ := h1
              obtain ⟨b43, e44, h2⟩ := h2
              cases e42.symm.trans e44
              refine ⟨b41, e42, ?_⟩
              obtain ⟨c45, h1⟩ := h1
              obtain ⟨_, h2⟩ := h2
              refine ⟨c45, ?_⟩
              refine cm_X0_draw h1 h2 (fun x46 h1 h2 g47 => ?_)
              have h1 := h1 g47
              have h2 := h2 g47
              obtain ⟨b48, e49, h1⟩ := h1
              obtain ⟨b50, e51, h2⟩ := h2
              cases e49.symm.trans e51
              refine ⟨b48, e49, ?_⟩
              obtain ⟨c52, h1⟩ := h1
              obtain ⟨_, h2⟩ := h2
              refine ⟨c52, ?_⟩
              intro x54 e53
              have h1 := h1 x54 e53
              have h2 := h2 x54 e53
              refine cm_X9_grant h1 h2 (fun x55 x56 h1 h2 g57 => ?_)
              have h1 := h1 g57
              have h2 := h2 g57
              exact hq _ _ h1 h2
            · intro c58
              have h1 := h1.2 c58
              have h2 := h2.2 c58
              exact cm_X9_day_52 h1 h2 hq
    · intro c59
      have h1 := h1.2 c59
      have h2 := h2.2 c59
      exact cm_X9_day_22 h1 h2 hq
theorem cm_X9_day {Q1 Q2 Q3 : Int32 → HS → Prop} {v0 : Nat} {v1 : Int32} {v2 : Int32} {v3 : Int32} {v4 : Int32} {S : HS} (h1 : P_X9_day v0 v1 v2 v3 v4 Q1 S) (h2 : P_X9_day v0 v1 v2 v3 v4 Q2 S) (hq : ∀ (r : Int32) (T : HS), Q1 r T → Q2 r T → Q3 r T) : P_X9_day v0 v1 v2 v3 v4 Q3 S := cm_X9_day_0 h1 h2 hq
set_option maxRecDepth 20000 in
set_option maxHeartbeats 1000000 in
theorem cm_X9_driest_29 {Q1 Q2 Q3 : Int32 → HS → Prop} {v0 : Nat} {S : HS} (h1 : P_X9_driest_29 Q1 v0 S) (h2 : P_X9_driest_29 Q2 v0 S) (hq : ∀ (r : Int32) (T : HS), Q1 r T → Q2 r T → Q3 r T) : P_X9_driest_29 Q3 v0 S := by
  delta P_X9_driest_29 at h1 h2 ⊢
  obtain ⟨c1, h1⟩ := h1
  obtain ⟨_, h2⟩ := h2
  refine ⟨c1, ?_⟩
  refine cm_X9_refuse h1 h2 (fun x2 x3 h1 h2 g4 => ?_)
  have h1 := h1 g4
  have h2 := h2 g4
  exact hq _ _ h1 h2
set_option maxRecDepth 20000 in
set_option maxHeartbeats 1000000 in
theorem cm_X9_driest_140 {Q1 Q2 Q3 : Int32 → HS → Prop} {X63_1 X63_2 X63_3 : Nat → Int32 → Int32 → Int32 → Int32 → Int64 → Int32 → HS → Prop} {v0 : Nat} {v1 : Int32} {v2 : Int32} {v3 : Int32} {v4 : Int32} {v5 : Int64} {v7 : Int32} {S : HS} (h1 : P_X9_driest_140 Q1 X63_1 v0 v1 v2 v3 v4 v5 v7 S) (h2 : P_X9_driest_140 Q2 X63_2 v0 v1 v2 v3 v4 v5 v7 S) (hq : ∀ (r : Int32) (T : HS), Q1 r T → Q2 r T → Q3 r T) (hX63 : ∀ (u0 : Nat) (u1 : Int32) (u2 : Int32) (u3 : Int32) (u4 : Int32) (u5 : Int64) (u6 : Int32) (u7 : HS), X63_1 u0 u1 u2 u3 u4 u5 u6 u7 → X63_2 u0 u1 u2 u3 u4 u5 u6 u7 → X63_3 u0 u1 u2 u3 u4 u5 u6 u7) : P_X9_driest_140 Q3 X63_3 v0 v1 v2 v3 v4 v5 v7 S := by
  delta P_X9_driest_140 at h1 h2 ⊢
  intro x2 e1
  have h1 := h1 x2 e1
  have h2 := h2 x2 e1
  exact hX63 _ _ _ _ _ _ _ _ h1 h2
set_option maxRecDepth 20000 in
set_option maxHeartbeats 1000000 in
theorem cmB_X9_driest_63 {Q1 Q2 Q3 : Int32 → HS → Prop} {X63_1 X63_2 X63_3 : Nat → Int32 → Int32 → Int32 → Int32 → Int64 → Int32 → HS → Prop} {v0 : Nat} {v1 : Int32} {v2 : Int32} {v3 : Int32} {v4 : Int32} {v5 : Int64} {v7 : Int32} {S : HS} (h1 : B_X9_driest_63 Q1 X63_1 v0 v1 v2 v3 v4 v5 v7 S) (h2 : B_X9_driest_63 Q2 X63_2 v0 v1 v2 v3 v4 v5 v7 S) (hq : ∀ (r : Int32) (T : HS), Q1 r T → Q2 r T → Q3 r T) (hX63 : ∀ (u0 : Nat) (u1 : Int32) (u2 : Int32) (u3 : Int32) (u4 : Int32) (u5 : Int64) (u6 : Int32) (u7 : HS), X63_1 u0 u1 u2 u3 u4 u5 u6 u7 → X63_2 u0 u1 u2 u3 u4 u5 u6 u7 → X63_3 u0 u1 u2 u3 u4 u5 u6 u7) : B_X9_driest_63 Q3 X63_3 v0 v1 v2 v3 v4 v5 v7 S := by
  delta B_X9_driest_63 at h1 h2 ⊢
  obtain ⟨c1, h1⟩ := h1
  obtain ⟨_, h2⟩ := h2
  refine ⟨c1, ?_⟩
  obtain ⟨b2, e3, h1⟩ := h1
  obtain ⟨b4, e5, h2⟩ := h2
  cases e3.symm.trans e5
  refine ⟨b2, e3, ?_⟩
  obtain ⟨c6, h1⟩ := h1
  obtain ⟨_, h2⟩ := h2
  refine ⟨c6, ?_⟩
  intro x8 e7
  have h1 := h1 x8 e7
  have h2 := h2 x8 e7
  refine ⟨?_, ?_⟩
  · intro c9
    have h1 := h1.1 c9
    have h2 := h2.1 c9
    refine cm_X9_grant h1 h2 (fun x10 x11 h1 h2 g12 => ?_)
    have h1 := h1 g12
    have h2 := h2 g12
    exact hq _ _ h1 h2
  · intro c13
    have h1 := h1.2 c13
    have h2 := h2.2 c13
    obtain ⟨b14, e15, h1⟩ := h1
    obtain ⟨b16, e17, h2⟩ := h2
    cases e15.symm.trans e17
    refine ⟨b14, e15, ?_⟩
    obtain ⟨c18, h1⟩ := h1
    obtain ⟨_, h2⟩ := h2
    refine ⟨c18, ?_⟩
    obtain ⟨b19, e20, h1⟩ := h1
    obtain ⟨b21, e22, h2⟩ := h2
    cases e20.symm.trans e22
    refine ⟨b19, e20, ?_⟩
    obtain ⟨c23, h1⟩ := h1
    obtain ⟨_, h2⟩ := h2
    refine ⟨c23, ?_⟩
    obtain ⟨c24, h1⟩ := h1
    obtain ⟨_, h2⟩ := h2
    refine ⟨c24, ?_⟩
    obtain ⟨b25, e26, h1⟩ := h1
    obtain ⟨b27, e28, h2⟩ := h2
    cases e26.symm.trans e28
    refine ⟨b25, e26, ?_⟩
    obtain ⟨b29, e30, h1⟩ := h1
    obtain ⟨b31, e32, h2⟩ := h2
    cases e30.symm.trans e32
    refine ⟨b29, e30, ?_⟩
    obtain ⟨b33, e34, h1⟩ := h1
    obtain ⟨b35, e36, h2⟩ := h2
    cases e34.symm.trans e36
    refine ⟨b33, e34, ?_⟩
    obtain ⟨c37, h1⟩ := h1
    obtain ⟨_, h2⟩ := h2
    refine ⟨c37, ?_⟩
    obtain ⟨b38, e39, h1⟩ := h1
    obtain ⟨b40, e41, h2⟩ := h2
    cases e39.symm.trans e41
    refine ⟨b38, e39, ?_⟩
    obtain ⟨c42, h1⟩ := h1
    obtain ⟨_, h2⟩ := h2
    refine ⟨c42, ?_⟩
    obtain ⟨c43, h1⟩ := h1
    obtain ⟨_, h2⟩ := h2
    refine ⟨c43, ?_⟩
    obtain ⟨b44, e45, h1⟩ := h1
    obtain ⟨b46, e47, h2⟩ := h2
    cases e45.symm.trans e47
    refine ⟨b44, e45, ?_⟩
    obtain ⟨b48, e49, h1⟩ := h1
    obtain ⟨b50, e51, h2⟩ := h2
    cases e49.symm.trans e51
    refine ⟨b48, e49, ?_⟩
    obtain ⟨c52, h1⟩ := h1
    obtain ⟨_, h2⟩ := h2
    refine ⟨c52, ?_⟩
    obtain ⟨b53, e54, h1⟩ := h1
    obtain ⟨b55, e56, h2⟩ := h2
    cases e54.symm.trans e56
    refine ⟨b53, e54, ?_⟩
    obtain ⟨c57, h1⟩ := h1
    obtain ⟨_, h2⟩ := h2
    refine ⟨c57, ?_⟩
    obtain ⟨c58, h1⟩ := h1
    obtain ⟨_, h2⟩ := h2
    refine ⟨c58, ?_⟩
    obtain ⟨b59, e60, h1⟩ := h1
    obtain ⟨b61, e62, h2⟩ := h2
    cases e60.symm.trans e62
    refine ⟨b59, e60, ?_⟩
    obtain ⟨c63, h1⟩ := h1
    obtain ⟨_, h2⟩ := h2
    refine ⟨c63, ?_⟩
    refine cm_X1_leastWet h1 h2 (fun x64 x65 h1 h2 g66 => ?_)
    have h1 := h1 g66
    have h2 := h2 g66
    obtain ⟨c67, h1⟩ := h1
    obtain ⟨_, h2⟩ := h2
    refine ⟨c67, ?_⟩
    intro x69 e68
    have h1 := h1 x69 e68
    have h2 := h2 x69 e68
    intro x71 e70
    have h1 := h1 x71 e70
    have h2 := h2 x71 e70
    refine ⟨?_, ?_⟩
    · intro c72
      have h1 := h1.1 c72
      have h2 := h2.1 c72
      exact cm_X9_driest_140 h1 h2 hq hX63
    · intro c73
      have h1 := h1.2 c73
      have h2 := h2.2 c73
      exact cm_X9_driest_140 h1 h2 hq hX63
theorem fd_X9_driest_63 {Q : Int32 → HS → Prop} {v0 : Nat} {v1 : Int32} {v2 : Int32} {v3 : Int32} {v4 : Int32} {v5 : Int64} {v7 : Int32} {S : HS} (h : B_X9_driest_63 Q (P_X9_driest_63 Q) v0 v1 v2 v3 v4 v5 v7 S) : P_X9_driest_63 Q v0 v1 v2 v3 v4 v5 v7 S := fun X hX => hX v0 v1 v2 v3 v4 v5 v7 S (cmB_X9_driest_63 h h (fun _ _ a _ => a) (fun _ _ _ _ _ _ _ _ hp _ => hp X hX))
theorem uf_X9_driest_63 {Q : Int32 → HS → Prop} {v0 : Nat} {v1 : Int32} {v2 : Int32} {v3 : Int32} {v4 : Int32} {v5 : Int64} {v7 : Int32} {S : HS} (h : P_X9_driest_63 Q v0 v1 v2 v3 v4 v5 v7 S) : B_X9_driest_63 Q (P_X9_driest_63 Q) v0 v1 v2 v3 v4 v5 v7 S := h (fun v0 v1 v2 v3 v4 v5 v7 S => B_X9_driest_63 Q (P_X9_driest_63 Q) v0 v1 v2 v3 v4 v5 v7 S) (fun v0 v1 v2 v3 v4 v5 v7 S hB => cmB_X9_driest_63 hB hB (fun _ _ a _ => a) (fun _ _ _ _ _ _ _ _ hb _ => fd_X9_driest_63 hb))
theorem cm_X9_driest_63 {Q1 Q2 Q3 : Int32 → HS → Prop} {v0 : Nat} {v1 : Int32} {v2 : Int32} {v3 : Int32} {v4 : Int32} {v5 : Int64} {v7 : Int32} {S : HS} (h1 : P_X9_driest_63 Q1 v0 v1 v2 v3 v4 v5 v7 S) (h2 : P_X9_driest_63 Q2 v0 v1 v2 v3 v4 v5 v7 S) (hq : ∀ (r : Int32) (T : HS), Q1 r T → Q2 r T → Q3 r T) : P_X9_driest_63 Q3 v0 v1 v2 v3 v4 v5 v7 S := h1 (fun v0 v1 v2 v3 v4 v5 v7 S => P_X9_driest_63 Q2 v0 v1 v2 v3 v4 v5 v7 S → P_X9_driest_63 Q3 v0 v1 v2 v3 v4 v5 v7 S) (fun v0 v1 v2 v3 v4 v5 v7 S hB hp => fd_X9_driest_63 (cmB_X9_driest_63 hB (uf_X9_driest_63 hp) hq (fun _ _ _ _ _ _ _ _ hx hp => hx hp))) h2
set_option maxRecDepth 20000 in
set_option maxHeartbeats 1000000 in
theorem cm_X9_driest_0 {Q1 Q2 Q3 : Int32 → HS → Prop} {v0 : Nat} {v1 : Int32} {v2 : Int32} {v3 : Int32} {S : HS} (h1 : P_X9_driest_0 Q1 v0 v1 v2 v3 S) (h2 : P_X9_driest_0 Q2 v0 v1 v2 v3 S) (hq : ∀ (r : Int32) (T : HS), Q1 r T → Q2 r T → Q3 r T) : P_X9_driest_0 Q3 v0 v1 v2 v3 S := by
  delta P_X9_driest_0 at h1 h2 ⊢
  obtain ⟨c1, h1⟩ := h1
  obtain ⟨_, h2⟩ := h2
  refine ⟨c1, ?_⟩
  obtain ⟨b2, e3, h1⟩ := h1
  obtain ⟨b4, e5, h2⟩ := h2
  cases e3.symm.trans e5
  refine ⟨b2, e3, ?_⟩
  obtain ⟨c6, h1⟩ := h1
  obtain ⟨_, h2⟩ := h2
  refine ⟨c6, ?_⟩
  refine cm_X8_hasWalker h1 h2 (fun x7 x8 h1 h2 g9 g10 => ?_)
  have h1 := h1 g9 g10
  have h2 := h2 g9 g10
  refine ⟨?_, ?_⟩
  · intro c11
    have h1 := h1.1 c11
    have h2 := h2.1 c11
    exact cm_X9_driest_29 h1 h2 hq
  · intro c12
    have h1 := h1.2 c12
    have h2 := h2.2 c12
    obtain ⟨b13, e14, h1⟩ := h1
    obtain ⟨b15, e16, h2⟩ := h2
    cases e14.symm.trans e16
    refine ⟨b13, e14, ?_⟩
    obtain ⟨c17, h1⟩ := h1
    obtain ⟨_, h2⟩ := h2
    refine ⟨c17, ?_⟩
    refine cm_X8_hasRoad h1 h2 (fun x18 x19 h1 h2 g20 g21 => ?_)
    have h1 := h1 g20 g21
    have h2 := h2 g20 g21
    refine ⟨?_, ?_⟩
    · intro c22
      have h1 := h1.1 c22
      have h2 := h2.1 c22
      exact cm_X9_driest_29 h1 h2 hq
    · intro c23
      have h1 := h1.2 c23
      have h2 := h2.2 c23
      refine cm_X9_isWay h1 h2 (fun x24 x25 h1 h2 g26 g27 => ?_)
      have h1 := h1 g26 g27
      have h2 := h2 g26 g27
      refine ⟨?_, ?_⟩
      · intro c28
        have h1 := h1.1 c28
        have h2 := h2.1 c28
        obtain ⟨b29, e30, h1⟩ := h1
        obtain ⟨b31, e32, h2⟩ := h2
        cases e30.symm.trans e32
        refine ⟨b29, e30, ?_⟩
        obtain ⟨c33, h1⟩ := h1
        obtain ⟨_, h2⟩ := h2
        refine ⟨c33, ?_⟩
        intro x35 e34
        have h1 := h1 x35 e34
        have h2 := h2 x35 e34
        refine ⟨?_, ?_⟩
        · intro c36
          have h1 := h1.1 c36
          have h2 := h2.1 c36
          exact cm_X9_driest_63 h1 h2 hq
        · intro c37
          have h1 := h1.2 c37
          have h2 := h2.2 c37
          refine cm_X9_refuse h1 h2 (fun x38 x39 h1 h2 g40 => ?_)
          have h1 := h1 g40
          have h2 := h2 g40
          exact hq _ _ h1 h2
      · intro c41
        have h1 := h1.2 c41
        have h2 := h2.2 c41
        exact cm_X9_driest_29 h1 h2 hq
theorem cm_X9_driest {Q1 Q2 Q3 : Int32 → HS → Prop} {v0 : Nat} {v1 : Int32} {v2 : Int32} {v3 : Int32} {S : HS} (h1 : P_X9_driest v0 v1 v2 v3 Q1 S) (h2 : P_X9_driest v0 v1 v2 v3 Q2 S) (hq : ∀ (r : Int32) (T : HS), Q1 r T → Q2 r T → Q3 r T) : P_X9_driest v0 v1 v2 v3 Q3 S := cm_X9_driest_0 h1 h2 hq
set_option maxRecDepth 20000 in
set_option maxHeartbeats 1000000 in
theorem cm_X9_even_0 {Q1 Q2 Q3 : Int32 → HS → Prop} {v0 : Nat} {v1 : Int32} {v2 : Int32} {v3 : Int32} {v4 : Int32} {S : HS} (h1 : P_X9_even_0 Q1 v0 v1 v2 v3 v4 S) (h2 : P_X9_even_0 Q2 v0 v1 v2 v3 v4 S) (hq : ∀ (r : Int32) (T : HS), Q1 r T → Q2 r T → Q3 r T) : P_X9_even_0 Q3 v0 v1 v2 v3 v4 S := by
  delta P_X9_even_0 at h1 h2 ⊢
  obtain ⟨c1, h1⟩ := h1
  obtain ⟨_, h2⟩ := h2
  refine ⟨c1, ?_⟩
  refine cm_X9_tripTrouble h1 h2 (fun x2 x3 h1 h2 g4 => ?_)
  have h1 := h1 g4
  have h2 := h2 g4
  refine cm_X9_refusedBy h1 h2 (fun x5 x6 h1 h2 g7 g8 => ?_)
  have h1 := h1 g7 g8
  have h2 := h2 g7 g8
  refine ⟨?_, ?_⟩
  · intro c9
    have h1 := h1.1 c9
    have h2 := h2.1 c9
    obtain ⟨b10, e11, h1⟩ := h1
    obtain ⟨b12, e13, h2⟩ := h2
    cases e11.symm.trans e13
    refine ⟨b10, e11, ?_⟩
    obtain ⟨c14, h1⟩ := h1
    obtain ⟨_, h2⟩ := h2
    refine ⟨c14, ?_⟩
    obtain ⟨b15, e16, h1⟩ := h1
    obtain ⟨b17, e18, h2⟩ := h2
    cases e16.symm.trans e18
    refine ⟨b15, e16, ?_⟩
    obtain ⟨c19, h1⟩ := h1
    obtain ⟨_, h2⟩ := h2
    refine ⟨c19, ?_⟩
    obtain ⟨c20, h1⟩ := h1
    obtain ⟨_, h2⟩ := h2
    refine ⟨c20, ?_⟩
    obtain ⟨b21, e22, h1⟩ := h1
    obtain ⟨b23, e24, h2⟩ := h2
    cases e22.symm.trans e24
    refine ⟨b21, e22, ?_⟩
    obtain ⟨b25, e26, h1⟩ := h1
    obtain ⟨b27, e28, h2⟩ := h2
    cases e26.symm.trans e28
    refine ⟨b25, e26, ?_⟩
    obtain ⟨b29, e30, h1⟩ := h1
    obtain ⟨b31, e32, h2⟩ := h2
    cases e30.symm.trans e32
    refine ⟨b29, e30, ?_⟩
    obtain ⟨c33, h1⟩ := h1
    obtain ⟨_, h2⟩ := h2
    refine ⟨c33, ?_⟩
    obtain ⟨b34, e35, h1⟩ := h1
    obtain ⟨b36, e37, h2⟩ := h2
    cases e35.symm.trans e37
    refine ⟨b34, e35, ?_⟩
    obtain ⟨c38, h1⟩ := h1
    obtain ⟨_, h2⟩ := h2
    refine ⟨c38, ?_⟩
    obtain ⟨c39, h1⟩ := h1
    obtain ⟨_, h2⟩ := h2
    refine ⟨c39, ?_⟩
    obtain ⟨b40, e41, h1⟩ := h1
    obtain ⟨b42, e43, h2⟩ := h2
    cases e41.symm.trans e43
    refine ⟨b40, e41, ?_⟩
    obtain ⟨b44, e45, h1⟩ := h1
    obtain ⟨b46, e47, h2⟩ := h2
    cases e45.symm.trans e47
    refine ⟨b44, e45, ?_⟩
    obtain ⟨c48, h1⟩ := h1
    obtain ⟨_, h2⟩ := h2
    refine ⟨c48, ?_⟩
    obtain ⟨b49, e50, h1⟩ := h1
    obtain ⟨b51, e52, h2⟩ := h2
    cases e50.symm.trans e52
    refine ⟨b49, e50, ?_⟩
    obtain ⟨c53, h1⟩ := h1
    obtain ⟨_, h2⟩ := h2
    refine ⟨c53, ?_⟩
    obtain ⟨c54, h1⟩ := h1
    obtain ⟨_, h2⟩ := h2
    refine ⟨c54, ?_⟩
    obtain ⟨b55, e56, h1⟩ := h1
    obtain ⟨b57, e58, h2⟩ := h2
    cases e56.symm.trans e58
    refine ⟨b55, e56, ?_⟩
    obtain ⟨c59, h1⟩ := h1
    obtain ⟨_, h2⟩ := h2
    refine ⟨c59, ?_⟩
    refine cm_X1_worstSpeed h1 h2 (fun x60 x61 h1 h2 g62 => ?_)
    have h1 := h1 g62
    have h2 := h2 g62
    obtain ⟨b63, e64, h1⟩ := h1
    obtain ⟨b65, e66, h2⟩ := h2
    cases e64.symm.trans e66
    refine ⟨b63, e64, ?_⟩
    obtain ⟨b67, e68, h1⟩ := h1
    obtain ⟨b69, e70, h2⟩ := h2
    cases e68.symm.trans e70
    refine ⟨b67, e68, ?_⟩
    obtain ⟨c71, h1⟩ := h1
    obtain ⟨_, h2⟩ := h2
    refine ⟨c71, ?_⟩
    obtain ⟨b72, e73, h1⟩ := h1
    obtain ⟨b74, e75, h2⟩ := h2
    cases e73.symm.trans e75
    refine ⟨b72, e73, ?_⟩
    obtain ⟨c76, h1⟩ := h1
    obtain ⟨_, h2⟩ := h2
    refine ⟨c76, ?_⟩
    obtain ⟨c77, h1⟩ := h1
    obtain ⟨_, h2⟩ := h2
    refine ⟨c77, ?_⟩
    obtain ⟨b78, e79, h1⟩ := h1
    obtain ⟨b80, e81, h2⟩ := h2
    cases e79.symm.trans e81
    refine ⟨b78, e79, ?_⟩
    obtain ⟨b82, e83, h1⟩ := h1
    obtain ⟨b84, e85, h2⟩ := h2
    cases e83.symm.trans e85
    refine ⟨b82, e83, ?_⟩
    obtain ⟨c86, h1⟩ := h1
    obtain ⟨_, h2⟩ := h2
    refine ⟨c86, ?_⟩
    obtain ⟨b87, e88, h1⟩ := h1
    obtain ⟨b89, e90, h2⟩ := h2
    cases e88.symm.trans e90
    refine ⟨b87, e88, ?_⟩
    obtain ⟨c91, h1⟩ := h1
    obtain ⟨_, h2⟩ := h2
    refine ⟨c91, ?_⟩
    obtain ⟨c92, h1⟩ := h1
    obtain ⟨_, h2⟩ := h2
    refine ⟨c92, ?_⟩
    obtain ⟨b93, e94, h1⟩ := h1
    obtain ⟨b95, e96, h2⟩ := h2
    cases e94.symm.trans e96
    refine ⟨b93, e94, ?_⟩
    obtain ⟨c97, h1⟩ := h1
    obtain ⟨_, h2⟩ := h2
    refine ⟨c97, ?_⟩
    refine cm_X1_leastWet h1 h2 (fun x98 x99 h1 h2 g100 => ?_)
    have h1 := h1 g100
    have h2 := h2 g100
    obtain ⟨b101, e102, h1⟩ := h1
    obtain ⟨b103, e104, h2⟩ := h2
    cases e102.symm.trans e104
    refine ⟨b101, e102, ?_⟩
    obtain ⟨b105, e106, h1⟩ := h1
    obtain ⟨b107, e108, h2⟩ := h2
    cases e106.symm.trans e108
    refine ⟨b105, e106, ?_⟩
    obtain ⟨c109, h1⟩ := h1
    obtain ⟨_, h2⟩ := h2
    refine ⟨c109, ?_⟩
    obtain ⟨b110, e111, h1⟩ := h1
    obtain ⟨b112, e113, h2⟩ := h2
    cases e111.symm.trans e113
    refine ⟨b110, e111, ?_⟩
    obtain ⟨c114, h1⟩ := h1
    obtain ⟨_, h2⟩ := h2
    refine ⟨c114, ?_⟩
    obtain ⟨c115, h1⟩ := h1
    obtain ⟨_, h2⟩ := h2
    refine ⟨c115, ?_⟩
    obtain ⟨b116, e117, h1⟩ := h1
    obtain ⟨b118, e119, h2⟩ := h2
    cases e117.symm.trans e119
    refine ⟨b116, e117, ?_⟩
    obtain ⟨b120, e121, h1⟩ := h1
    obtain ⟨b122, e123, h2⟩ := h2
    cases e121.symm.trans e123
    refine ⟨b120, e121, ?_⟩
    obtain ⟨c124, h1⟩ := h1
    obtain ⟨_, h2⟩ := h2
    refine ⟨c124, ?_⟩
    obtain ⟨b125, e126, h1⟩ := h1
    obtain ⟨b127, e128, h2⟩ := h2
    cases e126.symm.trans e128
    refine ⟨b125, e126, ?_⟩
    obtain ⟨c129, h1⟩ := h1
    obtain ⟨_, h2⟩ := h2
    refine ⟨c129, ?_⟩
    obtain ⟨c130, h1⟩ := h1
    obtain ⟨_, h2⟩ := h2
    refine ⟨c130, ?_⟩
    obtain ⟨b131, e132, h1⟩ := h1
    obtain ⟨b133, e134, h2⟩ := h2
    cases e132.symm.trans e134
    refine ⟨b131, e132, ?_⟩
    obtain ⟨c135, h1⟩ := h1
    obtain ⟨_, h2⟩ := h2
    refine ⟨c135, ?_⟩
    refine cm_X1_wetOf h1 h2 (fun x136 x137 h1 h2 g138 => ?_)
    have h1 := h1 g138
    have h2 := h2 g138
    refine ⟨?_, ?_⟩
    · intro c139
      have h1 := h1.1 c139
      have h2 := h2.1 c139
      exact hq _ _ h1 h2
    · intro c140
      have h1 := h1.2 c140
      have h2 := h2.2 c140
      exact hq _ _ h1 h2
  · intro c141
    have h1 := h1.2 c141
    have h2 := h2.2 c141
    exact hq _ _ h1 h2
theorem cm_X9_even {Q1 Q2 Q3 : Int32 → HS → Prop} {v0 : Nat} {v1 : Int32} {v2 : Int32} {v3 : Int32} {v4 : Int32} {S : HS} (h1 : P_X9_even v0 v1 v2 v3 v4 Q1 S) (h2 : P_X9_even v0 v1 v2 v3 v4 Q2 S) (hq : ∀ (r : Int32) (T : HS), Q1 r T → Q2 r T → Q3 r T) : P_X9_even v0 v1 v2 v3 v4 Q3 S := cm_X9_even_0 h1 h2 hq
set_option maxRecDepth 20000 in
set_option maxHeartbeats 1000000 in
theorem cm_X9_fraction_0 {Q1 Q2 Q3 : Int64 → HS → Prop} {v0 : Int64} {v2 : Int64} {v4 : Int32} {S : HS} (h1 : P_X9_fraction_0 Q1 v0 v2 v4 S) (h2 : P_X9_fraction_0 Q2 v0 v2 v4 S) (hq : ∀ (r : Int64) (T : HS), Q1 r T → Q2 r T → Q3 r T) : P_X9_fraction_0 Q3 v0 v2 v4 S := by
  delta P_X9_fraction_0 at h1 h2 ⊢
  refine cm_X9_commonDivisor h1 h2 (fun x1 x2 h1 h2 g3 => ?_)
  have h1 := h1 g3
  have h2 := h2 g3
  refine ⟨?_, ?_⟩
  · intro c4
    have h1 := h1.1 c4
    have h2 := h2.1 c4
    refine ⟨?_, ?_⟩
    · intro c5
      have h1 := h1.1 c5
      have h2 := h2.1 c5
      obtain ⟨c6, h1⟩ := h1
      obtain ⟨_, h2⟩ := h2
      refine ⟨c6, ?_⟩
      intro x8 e7
      have h1 := h1 x8 e7
      have h2 := h2 x8 e7
      exact hq _ _ h1 h2
    · intro c9
      have h1 := h1.2 c9
      have h2 := h2.2 c9
      obtain ⟨c10, h1⟩ := h1
      obtain ⟨_, h2⟩ := h2
      refine ⟨c10, ?_⟩
      intro x12 e11
      have h1 := h1 x12 e11
      have h2 := h2 x12 e11
      exact hq _ _ h1 h2
  · intro c13
    have h1 := h1.2 c13
    have h2 := h2.2 c13
    refine ⟨?_, ?_⟩
    · intro c14
      have h1 := h1.1 c14
      have h2 := h2.1 c14
      exact hq _ _ h1 h2
    · intro c15
      have h1 := h1.2 c15
      have h2 := h2.2 c15
      exact hq _ _ h1 h2
theorem cm_X9_fraction {Q1 Q2 Q3 : Int64 → HS → Prop} {v0 : Int64} {v2 : Int64} {v4 : Int32} {S : HS} (h1 : P_X9_fraction v0 v2 v4 Q1 S) (h2 : P_X9_fraction v0 v2 v4 Q2 S) (hq : ∀ (r : Int64) (T : HS), Q1 r T → Q2 r T → Q3 r T) : P_X9_fraction v0 v2 v4 Q3 S := cm_X9_fraction_0 h1 h2 hq
set_option maxRecDepth 20000 in
set_option maxHeartbeats 1000000 in
theorem cm_X9_isFace_0 {Q1 Q2 Q3 : Int32 → HS → Prop} {v0 : Int32} {S : HS} (h1 : P_X9_isFace_0 Q1 v0 S) (h2 : P_X9_isFace_0 Q2 v0 S) (hq : ∀ (r : Int32) (T : HS), Q1 r T → Q2 r T → Q3 r T) : P_X9_isFace_0 Q3 v0 S := by
  delta P_X9_isFace_0 at h1 h2 ⊢
  refine ⟨?_, ?_⟩
  · intro c1
    have h1 := h1.1 c1
    have h2 := h2.1 c1
    exact hq _ _ h1 h2
  · intro c2
    have h1 := h1.2 c2
    have h2 := h2.2 c2
    refine ⟨?_, ?_⟩
    · intro c3
      have h1 := h1.1 c3
      have h2 := h2.1 c3
      exact hq _ _ h1 h2
    · intro c4
      have h1 := h1.2 c4
      have h2 := h2.2 c4
      exact hq _ _ h1 h2
theorem cm_X9_isFace {Q1 Q2 Q3 : Int32 → HS → Prop} {v0 : Int32} {S : HS} (h1 : P_X9_isFace v0 Q1 S) (h2 : P_X9_isFace v0 Q2 S) (hq : ∀ (r : Int32) (T : HS), Q1 r T → Q2 r T → Q3 r T) : P_X9_isFace v0 Q3 S := cm_X9_isFace_0 h1 h2 hq
set_option maxRecDepth 20000 in
set_option maxHeartbeats 1000000 in
theorem cm_X9_legTrouble_0 {Q1 Q2 Q3 : Int32 → HS → Prop} {v0 : Nat} {v1 : Int32} {v2 : Int32} {v3 : Int32} {v4 : Int32} {v5 : Int32} {S : HS} (h1 : P_X9_legTrouble_0 Q1 v0 v1 v2 v3 v4 v5 S) (h2 : P_X9_legTrouble_0 Q2 v0 v1 v2 v3 v4 v5 S) (hq : ∀ (r : Int32) (T : HS), Q1 r T → Q2 r T → Q3 r T) : P_X9_legTrouble_0 Q3 v0 v1 v2 v3 v4 v5 S := by
  delta P_X9_legTrouble_0 at h1 h2 ⊢
  obtain ⟨c1, h1⟩ := h1
  obtain ⟨_, h2⟩ := h2
  refine ⟨c1, ?_⟩
  refine cm_X9_tripTrouble h1 h2 (fun x2 x3 h1 h2 g4 => ?_)
  have h1 := h1 g4
  have h2 := h2 g4
  refine ⟨?_, ?_⟩
  · intro c5
    have h1 := h1.1 c5
    have h2 := h2.1 c5
    obtain ⟨b6, e7, h1⟩ := h1
    obtain ⟨b8, e9, h2⟩ := h2
    cases e7.symm.trans e9
    refine ⟨b6, e7, ?_⟩
    obtain ⟨c10, h1⟩ := h1
    obtain ⟨_, h2⟩ := h2
    refine ⟨c10, ?_⟩
    obtain ⟨b11, e12, h1⟩ := h1
    obtain ⟨b13, e14, h2⟩ := h2
    cases e12.symm.trans e14
    refine ⟨b11, e12, ?_⟩
    obtain ⟨c15, h1⟩ := h1
    obtain ⟨_, h2⟩ := h2
    refine ⟨c15, ?_⟩
    obtain ⟨c16, h1⟩ := h1
    obtain ⟨_, h2⟩ := h2
    refine ⟨c16, ?_⟩
    obtain ⟨b17, e18, h1⟩ := h1
    obtain ⟨b19, e20, h2⟩ := h2
    cases e18.symm.trans e20
    refine ⟨b17, e18, ?_⟩
    obtain ⟨c21, h1⟩ := h1
    obtain ⟨_, h2⟩ := h2
    refine ⟨c21, ?_⟩
    refine cm_X6_canGo h1 h2 (fun x22 x23 h1 h2 g24 g25 => ?_)
    have h1 := h1 g24 g25
    have h2 := h2 g24 g25
    refine ⟨?_, ?_⟩
    · intro c26
      have h1 := h1.1 c26
      have h2 := h2.1 c26
      exact hq _ _ h1 h2
    · intro c27
      have h1 := h1.2 c27
      have h2 := h2.2 c27
      exact hq _ _ h1 h2
  · intro c28
    have h1 := h1.2 c28
    have h2 := h2.2 c28
    exact hq _ _ h1 h2
theorem cm_X9_legTrouble {Q1 Q2 Q3 : Int32 → HS → Prop} {v0 : Nat} {v1 : Int32} {v2 : Int32} {v3 : Int32} {v4 : Int32} {v5 : Int32} {S : HS} (h1 : P_X9_legTrouble v0 v1 v2 v3 v4 v5 Q1 S) (h2 : P_X9_legTrouble v0 v1 v2 v3 v4 v5 Q2 S) (hq : ∀ (r : Int32) (T : HS), Q1 r T → Q2 r T → Q3 r T) : P_X9_legTrouble v0 v1 v2 v3 v4 v5 Q3 S := cm_X9_legTrouble_0 h1 h2 hq
set_option maxRecDepth 20000 in
set_option maxHeartbeats 1000000 in
theorem cm_X9_face_23 {Q1 Q2 Q3 : Int64 → HS → Prop} {v0 : Nat} {v1 : Int32} {v2 : Int32} {v3 : Int32} {v4 : Int32} {v5 : Int32} {v6 : Int32} {v7 : Int32} {s0 : Int32} {S : HS} (h1 : P_X9_face_23 Q1 v0 v1 v2 v3 v4 v5 v6 v7 s0 S) (h2 : P_X9_face_23 Q2 v0 v1 v2 v3 v4 v5 v6 v7 s0 S) (hq : ∀ (r : Int64) (T : HS), Q1 r T → Q2 r T → Q3 r T) : P_X9_face_23 Q3 v0 v1 v2 v3 v4 v5 v6 v7 s0 S := by
  delta P_X9_face_23 at h1 h2 ⊢
  obtain ⟨c1, h1⟩ := h1
  obtain ⟨_, h2⟩ := h2
  refine ⟨c1, ?_⟩
  refine cm_X9_refusedBy h1 h2 (fun x2 x3 h1 h2 g4 g5 => ?_)
  have h1 := h1 g4 g5
  have h2 := h2 g4 g5
  refine ⟨?_, ?_⟩
  · intro c6
    have h1 := h1.1 c6
    have h2 := h2.1 c6
    obtain ⟨b7, e8, h1⟩ := h1
    obtain ⟨b9, e10, h2⟩ := h2
    cases e8.symm.trans e10
    refine ⟨b7, e8, ?_⟩
    obtain ⟨b11, e12, h1⟩ := h1
    obtain ⟨b13, e14, h2⟩ := h2
    cases e12.symm.trans e14
    refine ⟨b11, e12, ?_⟩
    obtain ⟨c15, h1⟩ := h1
    obtain ⟨_, h2⟩ := h2
    refine ⟨c15, ?_⟩
    obtain ⟨b16, e17, h1⟩ := h1
    obtain ⟨b18, e19, h2⟩ := h2
    cases e17.symm.trans e19
    refine ⟨b16, e17, ?_⟩
    obtain ⟨c20, h1⟩ := h1
    obtain ⟨_, h2⟩ := h2
    refine ⟨c20, ?_⟩
    obtain ⟨c21, h1⟩ := h1
    obtain ⟨_, h2⟩ := h2
    refine ⟨c21, ?_⟩
    obtain ⟨b22, e23, h1⟩ := h1
    obtain ⟨b24, e25, h2⟩ := h2
    cases e23.symm.trans e25
    refine ⟨b22, e23, ?_⟩
    obtain ⟨b26, e27, h1⟩ := h1
    obtain ⟨b28, e29, h2⟩ := h2
    cases e27.symm.trans e29
    refine ⟨b26, e27, ?_⟩
    obtain ⟨c30, h1⟩ := h1
    obtain ⟨_, h2⟩ := h2
    refine ⟨c30, ?_⟩
    obtain ⟨b31, e32, h1⟩ := h1
    obtain ⟨b33, e34, h2⟩ := h2
    cases e32.symm.trans e34
    refine ⟨b31, e32, ?_⟩
    obtain ⟨c35, h1⟩ := h1
    obtain ⟨_, h2⟩ := h2
    refine ⟨c35, ?_⟩
    obtain ⟨c36, h1⟩ := h1
    obtain ⟨_, h2⟩ := h2
    refine ⟨c36, ?_⟩
    obtain ⟨b37, e38, h1⟩ := h1
    obtain ⟨b39, e40, h2⟩ := h2
    cases e38.symm.trans e40
    refine ⟨b37, e38, ?_⟩
    obtain ⟨b41, e42, h1⟩ := h1
    obtain ⟨b43, e44, h2⟩ := h2
    cases e42.symm.trans e44
    refine ⟨b41, e42, ?_⟩
    obtain ⟨c45, h1⟩ := h1
    obtain ⟨_, h2⟩ := h2
    refine ⟨c45, ?_⟩
    obtain ⟨b46, e47, h1⟩ := h1
    obtain ⟨b48, e49, h2⟩ := h2
    cases e47.symm.trans e49
    refine ⟨b46, e47, ?_⟩
    obtain ⟨c50, h1⟩ := h1
    obtain ⟨_, h2⟩ := h2
    refine ⟨c50, ?_⟩
    obtain ⟨c51, h1⟩ := h1
    obtain ⟨_, h2⟩ := h2
    refine ⟨c51, ?_⟩
    obtain ⟨b52, e53, h1⟩ := h1
    obtain ⟨b54, e55, h2⟩ := h2
    cases e53.symm.trans e55
    refine ⟨b52, e53, ?_⟩
    obtain ⟨c56, h1⟩ := h1
    obtain ⟨_, h2⟩ := h2
    refine ⟨c56, ?_⟩
    refine cm_X1_wetOf h1 h2 (fun x57 x58 h1 h2 g59 => ?_)
    have h1 := h1 g59
    have h2 := h2 g59
    obtain ⟨b60, e61, h1⟩ := h1
    obtain ⟨b62, e63, h2⟩ := h2
    cases e61.symm.trans e63
    refine ⟨b60, e61, ?_⟩
    obtain ⟨c64, h1⟩ := h1
    obtain ⟨_, h2⟩ := h2
    refine ⟨c64, ?_⟩
    obtain ⟨b65, e66, h1⟩ := h1
    obtain ⟨b67, e68, h2⟩ := h2
    cases e66.symm.trans e68
    refine ⟨b65, e66, ?_⟩
    obtain ⟨c69, h1⟩ := h1
    obtain ⟨_, h2⟩ := h2
    refine ⟨c69, ?_⟩
    obtain ⟨c70, h1⟩ := h1
    obtain ⟨_, h2⟩ := h2
    refine ⟨c70, ?_⟩
    intro x72 e71
    have h1 := h1 x72 e71
    have h2 := h2 x72 e71
    refine cm_X9_fraction h1 h2 (fun x73 x74 h1 h2 g75 => ?_)
    have h1 := h1 g75
    have h2 := h2 g75
    exact hq _ _ h1 h2
  · intro c76
    have h1 := h1.2 c76
    have h2 := h2.2 c76
    exact hq _ _ h1 h2
set_option maxRecDepth 20000 in
set_option maxHeartbeats 1000000 in
theorem cm_X9_face_0 {Q1 Q2 Q3 : Int64 → HS → Prop} {v0 : Nat} {v1 : Int32} {v2 : Int32} {v3 : Int32} {v4 : Int32} {v5 : Int32} {v6 : Int32} {v7 : Int32} {S : HS} (h1 : P_X9_face_0 Q1 v0 v1 v2 v3 v4 v5 v6 v7 S) (h2 : P_X9_face_0 Q2 v0 v1 v2 v3 v4 v5 v6 v7 S) (hq : ∀ (r : Int64) (T : HS), Q1 r T → Q2 r T → Q3 r T) : P_X9_face_0 Q3 v0 v1 v2 v3 v4 v5 v6 v7 S := by
  delta P_X9_face_0 at h1 h2 ⊢
  refine cm_X9_isFace h1 h2 (fun x1 x2 h1 h2 g3 g4 => ?_)
  have h1 := h1 g3 g4
  have h2 := h2 g3 g4
  refine ⟨?_, ?_⟩
  · intro c5
    have h1 := h1.1 c5
    have h2 := h2.1 c5
    exact cm_X9_face_23 h1 h2 hq
  · intro c6
    have h1 := h1.2 c6
    have h2 := h2.2 c6
    obtain ⟨c7, h1⟩ := h1
    obtain ⟨_, h2⟩ := h2
    refine ⟨c7, ?_⟩
    refine cm_X9_legTrouble h1 h2 (fun x8 x9 h1 h2 g10 => ?_)
    have h1 := h1 g10
    have h2 := h2 g10
    exact cm_X9_face_23 h1 h2 hq
theorem cm_X9_face {Q1 Q2 Q3 : Int64 → HS → Prop} {v0 : Nat} {v1 : Int32} {v2 : Int32} {v3 : Int32} {v4 : Int32} {v5 : Int32} {v6 : Int32} {v7 : Int32} {S : HS} (h1 : P_X9_face v0 v1 v2 v3 v4 v5 v6 v7 Q1 S) (h2 : P_X9_face v0 v1 v2 v3 v4 v5 v6 v7 Q2 S) (hq : ∀ (r : Int64) (T : HS), Q1 r T → Q2 r T → Q3 r T) : P_X9_face v0 v1 v2 v3 v4 v5 v6 v7 Q3 S := cm_X9_face_0 h1 h2 hq
set_option maxRecDepth 20000 in
set_option maxHeartbeats 1000000 in
theorem cm_X9_fault_0 {Q1 Q2 Q3 : Int32 → HS → Prop} {v0 : Nat} {S : HS} (h1 : P_X9_fault_0 Q1 v0 S) (h2 : P_X9_fault_0 Q2 v0 S) (hq : ∀ (r : Int32) (T : HS), Q1 r T → Q2 r T → Q3 r T) : P_X9_fault_0 Q3 v0 S := by
  delta P_X9_fault_0 at h1 h2 ⊢
  obtain ⟨c1, h1⟩ := h1
  obtain ⟨_, h2⟩ := h2
  refine ⟨c1, ?_⟩
  intro x3 e2
  have h1 := h1 x3 e2
  have h2 := h2 x3 e2
  exact hq _ _ h1 h2
theorem cm_X9_fault {Q1 Q2 Q3 : Int32 → HS → Prop} {v0 : Nat} {S : HS} (h1 : P_X9_fault v0 Q1 S) (h2 : P_X9_fault v0 Q2 S) (hq : ∀ (r : Int32) (T : HS), Q1 r T → Q2 r T → Q3 r T) : P_X9_fault v0 Q3 S := cm_X9_fault_0 h1 h2 hq
set_option maxRecDepth 20000 in
set_option maxHeartbeats 1000000 in
theorem cm_X9_putBytes_49 {Q1 Q2 Q3 : HS → Prop} {X3_1 X3_2 X3_3 : Nat → Int32 → Int32 → HS → Prop} {v0 : Nat} {v1 : Int32} {v2 : Int32} {S : HS} (h1 : P_X9_putBytes_49 Q1 X3_1 v0 v1 v2 S) (h2 : P_X9_putBytes_49 Q2 X3_2 v0 v1 v2 S) (hq : ∀ (T : HS), Q1 T → Q2 T → Q3 T) (hX3 : ∀ (u0 : Nat) (u1 : Int32) (u2 : Int32) (u3 : HS), X3_1 u0 u1 u2 u3 → X3_2 u0 u1 u2 u3 → X3_3 u0 u1 u2 u3) : P_X9_putBytes_49 Q3 X3_3 v0 v1 v2 S := by
  delta P_X9_putBytes_49 at h1 h2 ⊢
  intro x2 e1
  have h1 := h1 x2 e1
  have h2 := h2 x2 e1
  exact hX3 _ _ _ _ h1 h2
set_option maxRecDepth 20000 in
set_option maxHeartbeats 1000000 in
theorem cmB_X9_putBytes_3 {Q1 Q2 Q3 : HS → Prop} {X3_1 X3_2 X3_3 : Nat → Int32 → Int32 → HS → Prop} {v0 : Nat} {v1 : Int32} {v2 : Int32} {S : HS} (h1 : B_X9_putBytes_3 Q1 X3_1 v0 v1 v2 S) (h2 : B_X9_putBytes_3 Q2 X3_2 v0 v1 v2 S) (hq : ∀ (T : HS), Q1 T → Q2 T → Q3 T) (hX3 : ∀ (u0 : Nat) (u1 : Int32) (u2 : Int32) (u3 : HS), X3_1 u0 u1 u2 u3 → X3_2 u0 u1 u2 u3 → X3_3 u0 u1 u2 u3) : B_X9_putBytes_3 Q3 X3_3 v0 v1 v2 S := by
  delta B_X9_putBytes_3 at h1 h2 ⊢
  refine ⟨?_, ?_⟩
  · intro c1
    have h1 := h1.1 c1
    have h2 := h2.1 c1
    exact hq _ h1 h2
  · intro c2
    have h1 := h1.2 c2
    have h2 := h2.2 c2
    obtain ⟨c3, h1⟩ := h1
    obtain ⟨_, h2⟩ := h2
    refine ⟨c3, ?_⟩
    intro x5 e4
    have h1 := h1 x5 e4
    have h2 := h2 x5 e4
    refine ⟨?_, ?_⟩
    · intro c6
      have h1 := h1.1 c6
      have h2 := h2.1 c6
      exact cm_X9_putBytes_49 h1 h2 hq hX3
    · intro c7
      have h1 := h1.2 c7
      have h2 := h2.2 c7
      intro x9 e8
      have h1 := h1 x9 e8
      have h2 := h2 x9 e8
      obtain ⟨b10, e11, h1⟩ := h1
      obtain ⟨b12, e13, h2⟩ := h2
      cases e11.symm.trans e13
      refine ⟨b10, e11, ?_⟩
      obtain ⟨c14, h1⟩ := h1
      obtain ⟨_, h2⟩ := h2
      refine ⟨c14, ?_⟩
      refine ⟨?_, ?_⟩
      · intro c15
        have h1 := h1.1 c15
        have h2 := h2.1 c15
        exact cm_X9_putBytes_49 h1 h2 hq hX3
      · intro c16
        have h1 := h1.2 c16
        have h2 := h2.2 c16
        obtain ⟨b17, e18, h1⟩ := h1
        obtain ⟨b19, e20, h2⟩ := h2
        cases e18.symm.trans e20
        refine ⟨b17, e18, ?_⟩
        intro x22 e21
        have h1 := h1 x22 e21
        have h2 := h2 x22 e21
        obtain ⟨c23, h1⟩ := h1
        obtain ⟨_, h2⟩ := h2
        refine ⟨c23, ?_⟩
        intro x25 e24
        have h1 := h1 x25 e24
        have h2 := h2 x25 e24
        obtain ⟨c26, h1⟩ := h1
        obtain ⟨_, h2⟩ := h2
        refine ⟨c26, ?_⟩
        intro x28 e27
        have h1 := h1 x28 e27
        have h2 := h2 x28 e27
        intro x30 e29
        have h1 := h1 x30 e29
        have h2 := h2 x30 e29
        intro x32 e31
        have h1 := h1 x32 e31
        have h2 := h2 x32 e31
        intro x34 e33
        have h1 := h1 x34 e33
        have h2 := h2 x34 e33
        exact cm_X9_putBytes_49 h1 h2 hq hX3
theorem fd_X9_putBytes_3 {Q : HS → Prop} {v0 : Nat} {v1 : Int32} {v2 : Int32} {S : HS} (h : B_X9_putBytes_3 Q (P_X9_putBytes_3 Q) v0 v1 v2 S) : P_X9_putBytes_3 Q v0 v1 v2 S := fun X hX => hX v0 v1 v2 S (cmB_X9_putBytes_3 h h (fun _ a _ => a) (fun _ _ _ _ hp _ => hp X hX))
theorem uf_X9_putBytes_3 {Q : HS → Prop} {v0 : Nat} {v1 : Int32} {v2 : Int32} {S : HS} (h : P_X9_putBytes_3 Q v0 v1 v2 S) : B_X9_putBytes_3 Q (P_X9_putBytes_3 Q) v0 v1 v2 S := h (fun v0 v1 v2 S => B_X9_putBytes_3 Q (P_X9_putBytes_3 Q) v0 v1 v2 S) (fun v0 v1 v2 S hB => cmB_X9_putBytes_3 hB hB (fun _ a _ => a) (fun _ _ _ _ hb _ => fd_X9_putBytes_3 hb))
theorem cm_X9_putBytes_3 {Q1 Q2 Q3 : HS → Prop} {v0 : Nat} {v1 : Int32} {v2 : Int32} {S : HS} (h1 : P_X9_putBytes_3 Q1 v0 v1 v2 S) (h2 : P_X9_putBytes_3 Q2 v0 v1 v2 S) (hq : ∀ (T : HS), Q1 T → Q2 T → Q3 T) : P_X9_putBytes_3 Q3 v0 v1 v2 S := h1 (fun v0 v1 v2 S => P_X9_putBytes_3 Q2 v0 v1 v2 S → P_X9_putBytes_3 Q3 v0 v1 v2 S) (fun v0 v1 v2 S hB hp => fd_X9_putBytes_3 (cmB_X9_putBytes_3 hB (uf_X9_putBytes_3 hp) hq (fun _ _ _ _ hx hp => hx hp))) h2
set_option maxRecDepth 20000 in
set_option maxHeartbeats 1000000 in
theorem cm_X9_putBytes_0 {Q1 Q2 Q3 : HS → Prop} {v0 : Nat} {v1 : Int32} {S : HS} (h1 : P_X9_putBytes_0 Q1 v0 v1 S) (h2 : P_X9_putBytes_0 Q2 v0 v1 S) (hq : ∀ (T : HS), Q1 T → Q2 T → Q3 T) : P_X9_putBytes_0 Q3 v0 v1 S := by
  delta P_X9_putBytes_0 at h1 h2 ⊢
  exact cm_X9_putBytes_3 h1 h2 hq
theorem cm_X9_putBytes {Q1 Q2 Q3 : HS → Prop} {v0 : Nat} {v1 : Int32} {S : HS} (h1 : P_X9_putBytes v0 v1 Q1 S) (h2 : P_X9_putBytes v0 v1 Q2 S) (hq : ∀ (T : HS), Q1 T → Q2 T → Q3 T) : P_X9_putBytes v0 v1 Q3 S := cm_X9_putBytes_0 h1 h2 hq
set_option maxRecDepth 20000 in
set_option maxHeartbeats 1000000 in
theorem cm_X9_feed_0 {Q1 Q2 Q3 : Int32 → HS → Prop} {v0 : Nat} {v1 : Int32} {v2 : Int32} {v3 : Int32} {v4 : Int32} {v5 : Int32} {S : HS} (h1 : P_X9_feed_0 Q1 v0 v1 v2 v3 v4 v5 S) (h2 : P_X9_feed_0 Q2 v0 v1 v2 v3 v4 v5 S) (hq : ∀ (r : Int32) (T : HS), Q1 r T → Q2 r T → Q3 r T) : P_X9_feed_0 Q3 v0 v1 v2 v3 v4 v5 S := by
  delta P_X9_feed_0 at h1 h2 ⊢
  obtain ⟨c1, h1⟩ := h1
  obtain ⟨_, h2⟩ := h2
  refine ⟨c1, ?_⟩
  intro x3 e2
  have h1 := h1 x3 e2
  have h2 := h2 x3 e2
  refine ⟨?_, ?_⟩
  · intro c4
    have h1 := h1.1 c4
    have h2 := h2.1 c4
    refine cm_X9_putBytes h1 h2 (fun x5 h1 h2 g6 => ?_)
    have h1 := h1 g6
    have h2 := h2 g6
    refine cm_X9_putBytes h1 h2 (fun x7 h1 h2 g8 => ?_)
    have h1 := h1 g8
    have h2 := h2 g8
    refine cm_X9_putBytes h1 h2 (fun x9 h1 h2 g10 => ?_)
    have h1 := h1 g10
    have h2 := h2 g10
    refine cm_X9_putBytes h1 h2 (fun x11 h1 h2 g12 => ?_)
    have h1 := h1 g12
    have h2 := h2 g12
    refine cm_X9_putBytes h1 h2 (fun x13 h1 h2 g14 => ?_)
    have h1 := h1 g14
    have h2 := h2 g14
    intro x16 e15
    have h1 := h1 x16 e15
    have h2 := h2 x16 e15
    exact hq _ _ h1 h2
  · intro c17
    have h1 := h1.2 c17
    have h2 := h2.2 c17
    exact hq _ _ h1 h2
theorem cm_X9_feed {Q1 Q2 Q3 : Int32 → HS → Prop} {v0 : Nat} {v1 : Int32} {v2 : Int32} {v3 : Int32} {v4 : Int32} {v5 : Int32} {S : HS} (h1 : P_X9_feed v0 v1 v2 v3 v4 v5 Q1 S) (h2 : P_X9_feed v0 v1 v2 v3 v4 v5 Q2 S) (hq : ∀ (r : Int32) (T : HS), Q1 r T → Q2 r T → Q3 r T) : P_X9_feed v0 v1 v2 v3 v4 v5 Q3 S := cm_X9_feed_0 h1 h2 hq
set_option maxRecDepth 20000 in
set_option maxHeartbeats 1000000 in
theorem cm_X9_leeTrouble_0 {Q1 Q2 Q3 : Int32 → HS → Prop} {v0 : Nat} {v1 : Int32} {v2 : Int32} {v3 : Int32} {v4 : Int32} {v5 : Int32} {v6 : Int32} {S : HS} (h1 : P_X9_leeTrouble_0 Q1 v0 v1 v2 v3 v4 v5 v6 S) (h2 : P_X9_leeTrouble_0 Q2 v0 v1 v2 v3 v4 v5 v6 S) (hq : ∀ (r : Int32) (T : HS), Q1 r T → Q2 r T → Q3 r T) : P_X9_leeTrouble_0 Q3 v0 v1 v2 v3 v4 v5 v6 S := by
  delta P_X9_leeTrouble_0 at h1 h2 ⊢
  refine ⟨?_, ?_⟩
  · intro c1
    have h1 := h1.1 c1
    have h2 := h2.1 c1
    exact hq _ _ h1 h2
  · intro c2
    have h1 := h1.2 c2
    have h2 := h2.2 c2
    obtain ⟨c3, h1⟩ := h1
    obtain ⟨_, h2⟩ := h2
    refine ⟨c3, ?_⟩
    obtain ⟨b4, e5, h1⟩ := h1
    obtain ⟨b6, e7, h2⟩ := h2
    cases e5.symm.trans e7
    refine ⟨b4, e5, ?_⟩
    obtain ⟨c8, h1⟩ := h1
    obtain ⟨_, h2⟩ := h2
    refine ⟨c8, ?_⟩
    refine cm_X8_hasWalker h1 h2 (fun x9 x10 h1 h2 g11 g12 => ?_)
    have h1 := h1 g11 g12
    have h2 := h2 g11 g12
    refine ⟨?_, ?_⟩
    · intro c13
      have h1 := h1.1 c13
      have h2 := h2.1 c13
      exact hq _ _ h1 h2
    · intro c14
      have h1 := h1.2 c14
      have h2 := h2.2 c14
      obtain ⟨b15, e16, h1⟩ := h1
      obtain ⟨b17, e18, h2⟩ := h2
      cases e16.symm.trans e18
      refine ⟨b15, e16, ?_⟩
      obtain ⟨c19, h1⟩ := h1
      obtain ⟨_, h2⟩ := h2
      refine ⟨c19, ?_⟩
      refine cm_X8_hasWalker h1 h2 (fun x20 x21 h1 h2 g22 g23 => ?_)
      have h1 := h1 g22 g23
      have h2 := h2 g22 g23
      refine ⟨?_, ?_⟩
      · intro c24
        have h1 := h1.1 c24
        have h2 := h2.1 c24
        refine cm_X9_legTrouble h1 h2 (fun x25 x26 h1 h2 g27 => ?_)
        have h1 := h1 g27
        have h2 := h2 g27
        refine ⟨?_, ?_⟩
        · intro c28
          have h1 := h1.1 c28
          have h2 := h2.1 c28
          obtain ⟨b29, e30, h1⟩ := h1
          obtain ⟨b31, e32, h2⟩ := h2
          cases e30.symm.trans e32
          refine ⟨b29, e30, ?_⟩
          obtain ⟨c33, h1⟩ := h1
          obtain ⟨_, h2⟩ := h2
          refine ⟨c33, ?_⟩
          obtain ⟨b34, e35, h1⟩ := h1
          obtain ⟨b36, e37, h2⟩ := h2
          cases e35.symm.trans e37
          refine ⟨b34, e35, ?_⟩
          obtain ⟨c38, h1⟩ := h1
          obtain ⟨_, h2⟩ := h2
          refine ⟨c38, ?_⟩
          obtain ⟨c39, h1⟩ := h1
          obtain ⟨_, h2⟩ := h2
          refine ⟨c39, ?_⟩
          obtain ⟨b40, e41, h1⟩ := h1
          obtain ⟨b42, e43, h2⟩ := h2
          cases e41.symm.trans e43
          refine ⟨b40, e41, ?_⟩
          obtain ⟨c44, h1⟩ := h1
          obtain ⟨_, h2⟩ := h2
          refine ⟨c44, ?_⟩
          refine cm_X6_canGo h1 h2 (fun x45 x46 h1 h2 g47 g48 => ?_)
          have h1 := h1 g47 g48
          have h2 := h2 g47 g48
          refine ⟨?_, ?_⟩
          · intro c49
            have h1 := h1.1 c49
            have h2 := h2.1 c49
            exact hq _ _ h1 h2
          · intro c50
            have h1 := h1.2 c50
            have h2 := h2.2 c50
            exact hq _ _ h1 h2
        · intro c51
          have h1 := h1.2 c51
          have h2 := h2.2 c51
          exact hq _ _ h1 h2
      · intro c52
        have h1 := h1.2 c52
        have h2 := h2.2 c52
        exact hq _ _ h1 h2
theorem cm_X9_leeTrouble {Q1 Q2 Q3 : Int32 → HS → Prop} {v0 : Nat} {v1 : Int32} {v2 : Int32} {v3 : Int32} {v4 : Int32} {v5 : Int32} {v6 : Int32} {S : HS} (h1 : P_X9_leeTrouble v0 v1 v2 v3 v4 v5 v6 Q1 S) (h2 : P_X9_leeTrouble v0 v1 v2 v3 v4 v5 v6 Q2 S) (hq : ∀ (r : Int32) (T : HS), Q1 r T → Q2 r T → Q3 r T) : P_X9_leeTrouble v0 v1 v2 v3 v4 v5 v6 Q3 S := cm_X9_leeTrouble_0 h1 h2 hq
set_option maxRecDepth 20000 in
set_option maxHeartbeats 1000000 in
theorem cm_X9_first_0 {Q1 Q2 Q3 : Int32 → HS → Prop} {v0 : Nat} {v1 : Int32} {v2 : Int32} {v3 : Int32} {v4 : Int32} {v5 : Int32} {v6 : Int32} {S : HS} (h1 : P_X9_first_0 Q1 v0 v1 v2 v3 v4 v5 v6 S) (h2 : P_X9_first_0 Q2 v0 v1 v2 v3 v4 v5 v6 S) (hq : ∀ (r : Int32) (T : HS), Q1 r T → Q2 r T → Q3 r T) : P_X9_first_0 Q3 v0 v1 v2 v3 v4 v5 v6 S := by
  delta P_X9_first_0 at h1 h2 ⊢
  obtain ⟨c1, h1⟩ := h1
  obtain ⟨_, h2⟩ := h2
  refine ⟨c1, ?_⟩
  refine cm_X9_leeTrouble h1 h2 (fun x2 x3 h1 h2 g4 => ?_)
  have h1 := h1 g4
  have h2 := h2 g4
  refine cm_X9_refusedBy h1 h2 (fun x5 x6 h1 h2 g7 g8 => ?_)
  have h1 := h1 g7 g8
  have h2 := h2 g7 g8
  refine ⟨?_, ?_⟩
  · intro c9
    have h1 := h1.1 c9
    have h2 := h2.1 c9
    obtain ⟨b10, e11, h1⟩ := h1
    obtain ⟨b12, e13, h2⟩ := h2
    cases e11.symm.trans e13
    refine ⟨b10, e11, ?_⟩
    obtain ⟨b14, e15, h1⟩ := h1
    obtain ⟨b16, e17, h2⟩ := h2
    cases e15.symm.trans e17
    refine ⟨b14, e15, ?_⟩
    obtain ⟨c18, h1⟩ := h1
    obtain ⟨_, h2⟩ := h2
    refine ⟨c18, ?_⟩
    obtain ⟨b19, e20, h1⟩ := h1
    obtain ⟨b21, e22, h2⟩ := h2
    cases e20.symm.trans e22
    refine ⟨b19, e20, ?_⟩
    obtain ⟨c23, h1⟩ := h1
    obtain ⟨_, h2⟩ := h2
    refine ⟨c23, ?_⟩
    obtain ⟨c24, h1⟩ := h1
    obtain ⟨_, h2⟩ := h2
    refine ⟨c24, ?_⟩
    obtain ⟨b25, e26, h1⟩ := h1
    obtain ⟨b27, e28, h2⟩ := h2
    cases e26.symm.trans e28
    refine ⟨b25, e26, ?_⟩
    obtain ⟨b29, e30, h1⟩ := h1
    obtain ⟨b31, e32, h2⟩ := h2
    cases e30.symm.trans e32
    refine ⟨b29, e30, ?_⟩
    obtain ⟨c33, h1⟩ := h1
    obtain ⟨_, h2⟩ := h2
    refine ⟨c33, ?_⟩
    obtain ⟨b34, e35, h1⟩ := h1
    obtain ⟨b36, e37, h2⟩ := h2
    cases e35.symm.trans e37
    refine ⟨b34, e35, ?_⟩
    obtain ⟨c38, h1⟩ := h1
    obtain ⟨_, h2⟩ := h2
    refine ⟨c38, ?_⟩
    obtain ⟨c39, h1⟩ := h1
    obtain ⟨_, h2⟩ := h2
    refine ⟨c39, ?_⟩
    obtain ⟨b40, e41, h1⟩ := h1
    obtain ⟨b42, e43, h2⟩ := h2
    cases e41.symm.trans e43
    refine ⟨b40, e41, ?_⟩
    obtain ⟨c44, h1⟩ := h1
    obtain ⟨_, h2⟩ := h2
    refine ⟨c44, ?_⟩
    refine cm_X1_lay h1 h2 (fun x45 h1 h2 g46 => ?_)
    have h1 := h1 g46
    have h2 := h2 g46
    obtain ⟨b47, e48, h1⟩ := h1
    obtain ⟨b49, e50, h2⟩ := h2
    cases e48.symm.trans e50
    refine ⟨b47, e48, ?_⟩
    obtain ⟨b51, e52, h1⟩ := h1
    obtain ⟨b53, e54, h2⟩ := h2
    cases e52.symm.trans e54
    refine ⟨b51, e52, ?_⟩
    obtain ⟨c55, h1⟩ := h1
    obtain ⟨_, h2⟩ := h2
    refine ⟨c55, ?_⟩
    obtain ⟨b56, e57, h1⟩ := h1
    obtain ⟨b58, e59, h2⟩ := h2
    cases e57.symm.trans e59
    refine ⟨b56, e57, ?_⟩
    obtain ⟨c60, h1⟩ := h1
    obtain ⟨_, h2⟩ := h2
    refine ⟨c60, ?_⟩
    obtain ⟨c61, h1⟩ := h1
    obtain ⟨_, h2⟩ := h2
    refine ⟨c61, ?_⟩
    obtain ⟨b62, e63, h1⟩ := h1
    obtain ⟨b64, e65, h2⟩ := h2
    cases e63.symm.trans e65
    refine ⟨b62, e63, ?_⟩
    obtain ⟨b66, e67, h1⟩ := h1
    obtain ⟨b68, e69, h2⟩ := h2
    cases e67.symm.trans e69
    refine ⟨b66, e67, ?_⟩
    obtain ⟨c70, h1⟩ := h1
    obtain ⟨_, h2⟩ := h2
    refine ⟨c70, ?_⟩
    obtain ⟨b71, e72, h1⟩ := h1
    obtain ⟨b73, e74, h2⟩ := h2
    cases e72.symm.trans e74
    refine ⟨b71, e72, ?_⟩
    obtain ⟨c75, h1⟩ := h1
    obtain ⟨_, h2⟩ := h2
    refine ⟨c75, ?_⟩
    obtain ⟨c76, h1⟩ := h1
    obtain ⟨_, h2⟩ := h2
    refine ⟨c76, ?_⟩
    obtain ⟨b77, e78, h1⟩ := h1
    obtain ⟨b79, e80, h2⟩ := h2
    cases e78.symm.trans e80
    refine ⟨b77, e78, ?_⟩
    obtain ⟨c81, h1⟩ := h1
    obtain ⟨_, h2⟩ := h2
    refine ⟨c81, ?_⟩
    refine cm_X1_wetInLee h1 h2 (fun x82 x83 h1 h2 g84 => ?_)
    have h1 := h1 g84
    have h2 := h2 g84
    obtain ⟨b85, e86, h1⟩ := h1
    obtain ⟨b87, e88, h2⟩ := h2
    cases e86.symm.trans e88
    refine ⟨b85, e86, ?_⟩
    obtain ⟨b89, e90, h1⟩ := h1
    obtain ⟨b91, e92, h2⟩ := h2
    cases e90.symm.trans e92
    refine ⟨b89, e90, ?_⟩
    obtain ⟨c93, h1⟩ := h1
    obtain ⟨_, h2⟩ := h2
    refine ⟨c93, ?_⟩
    obtain ⟨b94, e95, h1⟩ := h1
    obtain ⟨b96, e97, h2⟩ := h2
    cases e95.symm.trans e97
    refine ⟨b94, e95, ?_⟩
    obtain ⟨c98, h1⟩ := h1
    obtain ⟨_, h2⟩ := h2
    refine ⟨c98, ?_⟩
    obtain ⟨c99, h1⟩ := h1
    obtain ⟨_, h2⟩ := h2
    refine ⟨c99, ?_⟩
    obtain ⟨b100, e101, h1⟩ := h1
    obtain ⟨b102, e103, h2⟩ := h2
    cases e101.symm.trans e103
    refine ⟨b100, e101, ?_⟩
    obtain ⟨b104, e105, h1⟩ := h1
    obtain ⟨b106, e107, h2⟩ := h2
    cases e105.symm.trans e107
    refine ⟨b104, e105, ?_⟩
    obtain ⟨c108, h1⟩ := h1
    obtain ⟨_, h2⟩ := h2
    refine ⟨c108, ?_⟩
    obtain ⟨b109, e110, h1⟩ := h1
    obtain ⟨b111, e112, h2⟩ := h2
    cases e110.symm.trans e112
    refine ⟨b109, e110, ?_⟩
    obtain ⟨c113, h1⟩ := h1
    obtain ⟨_, h2⟩ := h2
    refine ⟨c113, ?_⟩
    obtain ⟨c114, h1⟩ := h1
    obtain ⟨_, h2⟩ := h2
    refine ⟨c114, ?_⟩
    obtain ⟨b115, e116, h1⟩ := h1
    obtain ⟨b117, e118, h2⟩ := h2
    cases e116.symm.trans e118
    refine ⟨b115, e116, ?_⟩
    obtain ⟨c119, h1⟩ := h1
    obtain ⟨_, h2⟩ := h2
    refine ⟨c119, ?_⟩
    refine cm_X1_wetInLee h1 h2 (fun x120 x121 h1 h2 g122 => ?_)
    have h1 := h1 g122
    have h2 := h2 g122
    refine ⟨?_, ?_⟩
    · intro c123
      have h1 := h1.1 c123
      have h2 := h2.1 c123
      refine ⟨?_, ?_⟩
      · intro c124
        have h1 := h1.1 c124
        have h2 := h2.1 c124
        exact hq _ _ h1 h2
      · intro c125
        have h1 := h1.2 c125
        have h2 := h2.2 c125
        exact hq _ _ h1 h2
    · intro c126
      have h1 := h1.2 c126
      have h2 := h2.2 c126
      exact hq _ _ h1 h2
  · intro c127
    have h1 := h1.2 c127
    have h2 := h2.2 c127
    exact hq _ _ h1 h2
theorem cm_X9_first {Q1 Q2 Q3 : Int32 → HS → Prop} {v0 : Nat} {v1 : Int32} {v2 : Int32} {v3 : Int32} {v4 : Int32} {v5 : Int32} {v6 : Int32} {S : HS} (h1 : P_X9_first v0 v1 v2 v3 v4 v5 v6 Q1 S) (h2 : P_X9_first v0 v1 v2 v3 v4 v5 v6 Q2 S) (hq : ∀ (r : Int32) (T : HS), Q1 r T → Q2 r T → Q3 r T) : P_X9_first v0 v1 v2 v3 v4 v5 v6 Q3 S := cm_X9_first_0 h1 h2 hq
set_option maxRecDepth 20000 in
set_option maxHeartbeats 1000000 in
theorem cm_X9_fit_15 {Q1 Q2 Q3 : Int32 → HS → Prop} {v0 : Nat} {S : HS} (h1 : P_X9_fit_15 Q1 v0 S) (h2 : P_X9_fit_15 Q2 v0 S) (hq : ∀ (r : Int32) (T : HS), Q1 r T → Q2 r T → Q3 r T) : P_X9_fit_15 Q3 v0 S := by
  delta P_X9_fit_15 at h1 h2 ⊢
  obtain ⟨c1, h1⟩ := h1
  obtain ⟨_, h2⟩ := h2
  refine ⟨c1, ?_⟩
  refine cm_X9_refuse h1 h2 (fun x2 x3 h1 h2 g4 => ?_)
  have h1 := h1 g4
  have h2 := h2 g4
  exact hq _ _ h1 h2
set_option maxRecDepth 20000 in
set_option maxHeartbeats 1000000 in
theorem cm_X9_fit_0 {Q1 Q2 Q3 : Int32 → HS → Prop} {v0 : Nat} {v1 : Int32} {v2 : Int32} {S : HS} (h1 : P_X9_fit_0 Q1 v0 v1 v2 S) (h2 : P_X9_fit_0 Q2 v0 v1 v2 S) (hq : ∀ (r : Int32) (T : HS), Q1 r T → Q2 r T → Q3 r T) : P_X9_fit_0 Q3 v0 v1 v2 S := by
  delta P_X9_fit_0 at h1 h2 ⊢
  obtain ⟨c1, h1⟩ := h1
  obtain ⟨_, h2⟩ := h2
  refine ⟨c1, ?_⟩
  obtain ⟨b2, e3, h1⟩ := h1
  obtain ⟨b4, e5, h2⟩ := h2
  cases e3.symm.trans e5
  refine ⟨b2, e3, ?_⟩
  obtain ⟨c6, h1⟩ := h1
  obtain ⟨_, h2⟩ := h2
  refine ⟨c6, ?_⟩
  refine cm_X8_hasSeen h1 h2 (fun x7 x8 h1 h2 g9 g10 => ?_)
  have h1 := h1 g9 g10
  have h2 := h2 g9 g10
  refine ⟨?_, ?_⟩
  · intro c11
    have h1 := h1.1 c11
    have h2 := h2.1 c11
    exact cm_X9_fit_15 h1 h2 hq
  · intro c12
    have h1 := h1.2 c12
    have h2 := h2.2 c12
    refine ⟨?_, ?_⟩
    · intro c13
      have h1 := h1.1 c13
      have h2 := h2.1 c13
      obtain ⟨b14, e15, h1⟩ := h1
      obtain ⟨b16, e17, h2⟩ := h2
      cases e15.symm.trans e17
      refine ⟨b14, e15, ?_⟩
      obtain ⟨b18, e19, h1⟩ := h1
      obtain ⟨b20, e21, h2⟩ := h2
      cases e19.symm.trans e21
      refine ⟨b18, e19, ?_⟩
      obtain ⟨c22, h1⟩ := h1
      obtain ⟨_, h2⟩ := h2
      refine ⟨c22, ?_⟩
      refine cm_X1_findFit h1 h2 (fun x23 x24 h1 h2 g25 => ?_)
      have h1 := h1 g25
      have h2 := h2 g25
      refine ⟨?_, ?_⟩
      · intro c26
        have h1 := h1.1 c26
        have h2 := h2.1 c26
        refine cm_X9_grant h1 h2 (fun x27 x28 h1 h2 g29 => ?_)
        have h1 := h1 g29
        have h2 := h2 g29
        exact hq _ _ h1 h2
      · intro c30
        have h1 := h1.2 c30
        have h2 := h2.2 c30
        refine cm_X9_refuse h1 h2 (fun x31 x32 h1 h2 g33 => ?_)
        have h1 := h1 g33
        have h2 := h2 g33
        exact hq _ _ h1 h2
    · intro c34
      have h1 := h1.2 c34
      have h2 := h2.2 c34
      exact cm_X9_fit_15 h1 h2 hq
theorem cm_X9_fit {Q1 Q2 Q3 : Int32 → HS → Prop} {v0 : Nat} {v1 : Int32} {v2 : Int32} {S : HS} (h1 : P_X9_fit v0 v1 v2 Q1 S) (h2 : P_X9_fit v0 v1 v2 Q2 S) (hq : ∀ (r : Int32) (T : HS), Q1 r T → Q2 r T → Q3 r T) : P_X9_fit v0 v1 v2 Q3 S := cm_X9_fit_0 h1 h2 hq
set_option maxRecDepth 20000 in
set_option maxHeartbeats 1000000 in
theorem cm_X9_fits_0 {Q1 Q2 Q3 : Int32 → HS → Prop} {v0 : Nat} {v1 : Int32} {S : HS} (h1 : P_X9_fits_0 Q1 v0 v1 S) (h2 : P_X9_fits_0 Q2 v0 v1 S) (hq : ∀ (r : Int32) (T : HS), Q1 r T → Q2 r T → Q3 r T) : P_X9_fits_0 Q3 v0 v1 S := by
  delta P_X9_fits_0 at h1 h2 ⊢
  obtain ⟨c1, h1⟩ := h1
  obtain ⟨_, h2⟩ := h2
  refine ⟨c1, ?_⟩
  obtain ⟨b2, e3, h1⟩ := h1
  obtain ⟨b4, e5, h2⟩ := h2
  cases e3.symm.trans e5
  refine ⟨b2, e3, ?_⟩
  obtain ⟨c6, h1⟩ := h1
  obtain ⟨_, h2⟩ := h2
  refine ⟨c6, ?_⟩
  refine cm_X8_hasSeen h1 h2 (fun x7 x8 h1 h2 g9 g10 => ?_)
  have h1 := h1 g9 g10
  have h2 := h2 g9 g10
  refine ⟨?_, ?_⟩
  · intro c11
    have h1 := h1.1 c11
    have h2 := h2.1 c11
    obtain ⟨b12, e13, h1⟩ := h1
    obtain ⟨b14, e15, h2⟩ := h2
    cases e13.symm.trans e15
    refine ⟨b12, e13, ?_⟩
    obtain ⟨b16, e17, h1⟩ := h1
    obtain ⟨b18, e19, h2⟩ := h2
    cases e17.symm.trans e19
    refine ⟨b16, e17, ?_⟩
    obtain ⟨c20, h1⟩ := h1
    obtain ⟨_, h2⟩ := h2
    refine ⟨c20, ?_⟩
    refine cm_X1_countFits h1 h2 (fun x21 x22 h1 h2 g23 => ?_)
    have h1 := h1 g23
    have h2 := h2 g23
    refine cm_X9_grant h1 h2 (fun x24 x25 h1 h2 g26 => ?_)
    have h1 := h1 g26
    have h2 := h2 g26
    exact hq _ _ h1 h2
  · intro c27
    have h1 := h1.2 c27
    have h2 := h2.2 c27
    refine cm_X9_refuse h1 h2 (fun x28 x29 h1 h2 g30 => ?_)
    have h1 := h1 g30
    have h2 := h2 g30
    exact hq _ _ h1 h2
theorem cm_X9_fits {Q1 Q2 Q3 : Int32 → HS → Prop} {v0 : Nat} {v1 : Int32} {S : HS} (h1 : P_X9_fits v0 v1 Q1 S) (h2 : P_X9_fits v0 v1 Q2 S) (hq : ∀ (r : Int32) (T : HS), Q1 r T → Q2 r T → Q3 r T) : P_X9_fits v0 v1 Q3 S := cm_X9_fits_0 h1 h2 hq
set_option maxRecDepth 20000 in
set_option maxHeartbeats 1000000 in
theorem cm_X9_go_45 {Q1 Q2 Q3 : Int32 → HS → Prop} {v0 : Nat} {S : HS} (h1 : P_X9_go_45 Q1 v0 S) (h2 : P_X9_go_45 Q2 v0 S) (hq : ∀ (r : Int32) (T : HS), Q1 r T → Q2 r T → Q3 r T) : P_X9_go_45 Q3 v0 S := by
  delta P_X9_go_45 at h1 h2 ⊢
  obtain ⟨c1, h1⟩ := h1
  obtain ⟨_, h2⟩ := h2
  refine ⟨c1, ?_⟩
  refine cm_X9_refuse h1 h2 (fun x2 x3 h1 h2 g4 => ?_)
  have h1 := h1 g4
  have h2 := h2 g4
  exact hq _ _ h1 h2
set_option maxRecDepth 20000 in
set_option maxHeartbeats 1000000 in
theorem cm_X9_go_243 {Q1 Q2 Q3 : Int32 → HS → Prop} {v0 : Nat} {v2 : Int32} {v5 : Nat} {v6 : Int32} {S : HS} (h1 : P_X9_go_243 Q1 v0 v2 v5 v6 S) (h2 : P_X9_go_243 Q2 v0 v2 v5 v6 S) (hq : ∀ (r : Int32) (T : HS), Q1 r T → Q2 r T → Q3 r T) : P_X9_go_243 Q3 v0 v2 v5 v6 S := by
  delta P_X9_go_243 at h1 h2 ⊢
  obtain ⟨c1, h1⟩ := h1
  obtain ⟨_, h2⟩ := h2
  refine ⟨c1, ?_⟩
  obtain ⟨b2, e3, h1⟩ := h1
  obtain ⟨b4, e5, h2⟩ := h2
  cases e3.symm.trans e5
  refine ⟨b2, e3, ?_⟩
  obtain ⟨c6, h1⟩ := h1
  obtain ⟨_, h2⟩ := h2
  refine ⟨c6, ?_⟩
  obtain ⟨b7, e8, h1⟩ := h1
  obtain ⟨b9, e10, h2⟩ := h2
  cases e8.symm.trans e10
  refine ⟨b7, e8, ?_⟩
  obtain ⟨c11, h1⟩ := h1
  obtain ⟨_, h2⟩ := h2
  refine ⟨c11, ?_⟩
  refine cm_X5_endOf h1 h2 (fun x12 x13 h1 h2 g14 => ?_)
  have h1 := h1 g14
  have h2 := h2 g14
  obtain ⟨c15, h1⟩ := h1
  obtain ⟨_, h2⟩ := h2
  refine ⟨c15, ?_⟩
  intro x17 e16
  have h1 := h1 x17 e16
  have h2 := h2 x17 e16
  obtain ⟨b18, e19, h1⟩ := h1
  obtain ⟨b20, e21, h2⟩ := h2
  cases e19.symm.trans e21
  refine ⟨b18, e19, ?_⟩
  obtain ⟨c22, h1⟩ := h1
  obtain ⟨_, h2⟩ := h2
  refine ⟨c22, ?_⟩
  obtain ⟨b23, e24, h1⟩ := h1
  obtain ⟨b25, e26, h2⟩ := h2
  cases e24.symm.trans e26
  refine ⟨b23, e24, ?_⟩
  obtain ⟨c27, h1⟩ := h1
  obtain ⟨_, h2⟩ := h2
  refine ⟨c27, ?_⟩
  intro x29 e28
  have h1 := h1 x29 e28
  have h2 := h2 x29 e28
  refine cm_X9_grant h1 h2 (fun x30 x31 h1 h2 g32 => ?_)
  have h1 := h1 g32
  have h2 := h2 g32
  exact hq _ _ h1 h2
set_option maxRecDepth 20000 in
set_option maxHeartbeats 1000000 in
theorem cm_X9_go_0 {Q1 Q2 Q3 : Int32 → HS → Prop} {v0 : Nat} {v1 : Int32} {v2 : Int32} {v3 : Int32} {S : HS} (h1 : P_X9_go_0 Q1 v0 v1 v2 v3 S) (h2 : P_X9_go_0 Q2 v0 v1 v2 v3 S) (hq : ∀ (r : Int32) (T : HS), Q1 r T → Q2 r T → Q3 r T) : P_X9_go_0 Q3 v0 v1 v2 v3 S := by
  delta P_X9_go_0 at h1 h2 ⊢
  obtain ⟨c1, h1⟩ := h1
  obtain ⟨_, h2⟩ := h2
  refine ⟨c1, ?_⟩
  obtain ⟨b2, e3, h1⟩ := h1
  obtain ⟨b4, e5, h2⟩ := h2
  cases e3.symm.trans e5
  refine ⟨b2, e3, ?_⟩
  obtain ⟨c6, h1⟩ := h1
  obtain ⟨_, h2⟩ := h2
  refine ⟨c6, ?_⟩
  refine cm_X0_isOn h1 h2 (fun x7 x8 h1 h2 g9 g10 => ?_)
  have h1 := h1 g9 g10
  have h2 := h2 g9 g10
  refine ⟨?_, ?_⟩
  · intro c11
    have h1 := h1.1 c11
    have h2 := h2.1 c11
    exact cm_X9_go_45 h1 h2 hq
  · intro c12
    have h1 := h1.2 c12
    have h2 := h2.2 c12
    obtain ⟨b13, e14, h1⟩ := h1
    obtain ⟨b15, e16, h2⟩ := h2
    cases e14.symm.trans e16
    refine ⟨b13, e14, ?_⟩
    obtain ⟨b17, e18, h1⟩ := h1
    obtain ⟨b19, e20, h2⟩ := h2
    cases e18.symm.trans e20
    refine ⟨b17, e18, ?_⟩
    obtain ⟨c21, h1⟩ := h1
    obtain ⟨_, h2⟩ := h2
    refine ⟨c21, ?_⟩
    intro x23 e22
    have h1 := h1 x23 e22
    have h2 := h2 x23 e22
    obtain ⟨c24, h1⟩ := h1
    obtain ⟨_, h2⟩ := h2
    refine ⟨c24, ?_⟩
    refine cm_X8_hasWalker h1 h2 (fun x25 x26 h1 h2 g27 g28 => ?_)
    have h1 := h1 g27 g28
    have h2 := h2 g27 g28
    refine ⟨?_, ?_⟩
    · intro c29
      have h1 := h1.1 c29
      have h2 := h2.1 c29
      exact cm_X9_go_45 h1 h2 hq
    · intro c30
      have h1 := h1.2 c30
      have h2 := h2.2 c30
      obtain ⟨b31, e32, h1⟩ := h1
      obtain ⟨b33, e34, h2⟩ := h2
      cases e32.symm.trans e34
      refine ⟨b31, e32, ?_⟩
      obtain ⟨c35, h1⟩ := h1
      obtain ⟨_, h2⟩ := h2
      refine ⟨c35, ?_⟩
      refine cm_X8_hasRoad h1 h2 (fun x36 x37 h1 h2 g38 g39 => ?_)
      have h1 := h1 g38 g39
      have h2 := h2 g38 g39
      refine ⟨?_, ?_⟩
      · intro c40
        have h1 := h1.1 c40
        have h2 := h2.1 c40
        exact cm_X9_go_45 h1 h2 hq
      · intro c41
        have h1 := h1.2 c41
        have h2 := h2.2 c41
        refine cm_X9_isWay h1 h2 (fun x42 x43 h1 h2 g44 g45 => ?_)
        have h1 := h1 g44 g45
        have h2 := h2 g44 g45
        refine ⟨?_, ?_⟩
        · intro c46
          have h1 := h1.1 c46
          have h2 := h2.1 c46
          obtain ⟨b47, e48, h1⟩ := h1
          obtain ⟨b49, e50, h2⟩ := h2
          cases e48.symm.trans e50
          refine ⟨b47, e48, ?_⟩
          obtain ⟨c51, h1⟩ := h1
          obtain ⟨_, h2⟩ := h2
          refine ⟨c51, ?_⟩
          obtain ⟨b52, e53, h1⟩ := h1
          obtain ⟨b54, e55, h2⟩ := h2
          cases e53.symm.trans e55
          refine ⟨b52, e53, ?_⟩
          obtain ⟨b56, e57, h1⟩ := h1
          obtain ⟨b58, e59, h2⟩ := h2
          cases e57.symm.trans e59
          refine ⟨b56, e57, ?_⟩
          obtain ⟨c60, h1⟩ := h1
          obtain ⟨_, h2⟩ := h2
          refine ⟨c60, ?_⟩
          intro x62 e61
          have h1 := h1 x62 e61
          have h2 := h2 x62 e61
          obtain ⟨c63, h1⟩ := h1
          obtain ⟨_, h2⟩ := h2
          refine ⟨c63, ?_⟩
          obtain ⟨c64, h1⟩ := h1
          obtain ⟨_, h2⟩ := h2
          refine ⟨c64, ?_⟩
          obtain ⟨b65, e66, h1⟩ := h1
          obtain ⟨b67, e68, h2⟩ := h2
          cases e66.symm.trans e68
          refine ⟨b65, e66, ?_⟩
          obtain ⟨b69, e70, h1⟩ := h1
          obtain ⟨b71, e72, h2⟩ := h2
          cases e70.symm.trans e72
          refine ⟨b69, e70, ?_⟩
          obtain ⟨c73, h1⟩ := h1
          obtain ⟨_, h2⟩ := h2
          refine ⟨c73, ?_⟩
          obtain ⟨b74, e75, h1⟩ := h1
          obtain ⟨b76, e77, h2⟩ := h2
          cases e75.symm.trans e77
          refine ⟨b74, e75, ?_⟩
          obtain ⟨c78, h1⟩ := h1
          obtain ⟨_, h2⟩ := h2
          refine ⟨c78, ?_⟩
          obtain ⟨c79, h1⟩ := h1
          obtain ⟨_, h2⟩ := h2
          refine ⟨c79, ?_⟩
          obtain ⟨b80, e81, h1⟩ := h1
          obtain ⟨b82, e83, h2⟩ := h2
          cases e81.symm.trans e83
          refine ⟨b80, e81, ?_⟩
          obtain ⟨c84, h1⟩ := h1
          obtain ⟨_, h2⟩ := h2
          refine ⟨c84, ?_⟩
          refine cm_X6_canGo h1 h2 (fun x85 x86 h1 h2 g87 g88 => ?_)
          have h1 := h1 g87 g88
          have h2 := h2 g87 g88
          refine ⟨?_, ?_⟩
          · intro c89
            have h1 := h1.1 c89
            have h2 := h2.1 c89
            obtain ⟨c90, h1⟩ := h1
            obtain ⟨_, h2⟩ := h2
            refine ⟨c90, ?_⟩
            refine cm_X5_startOf h1 h2 (fun x91 x92 h1 h2 g93 => ?_)
            have h1 := h1 g93
            have h2 := h2 g93
            obtain ⟨b94, e95, h1⟩ := h1
            obtain ⟨b96, e97, h2⟩ := h2
            cases e95.symm.trans e97
            refine ⟨b94, e95, ?_⟩
            obtain ⟨c98, h1⟩ := h1
            obtain ⟨_, h2⟩ := h2
            refine ⟨c98, ?_⟩
            obtain ⟨b99, e100, h1⟩ := h1
            obtain ⟨b101, e102, h2⟩ := h2
            cases e100.symm.trans e102
            refine ⟨b99, e100, ?_⟩
            obtain ⟨c103, h1⟩ := h1
            obtain ⟨_, h2⟩ := h2
            refine ⟨c103, ?_⟩
            intro x105 e104
            have h1 := h1 x105 e104
            have h2 := h2 x105 e104
            refine ⟨?_, ?_⟩
            · intro c106
              have h1 := h1.1 c106
              have h2 := h2.1 c106
              obtain ⟨b107, e108, h1⟩ := h1
              obtain ⟨b109, e110, h2⟩ := h2
              cases e108.symm.trans e110
              refine ⟨b107, e108, ?_⟩
              obtain ⟨c111, h1⟩ := h1
              obtain ⟨_, h2⟩ := h2
              refine ⟨c111, ?_⟩
              obtain ⟨b112, e113, h1⟩ := h1
              obtain ⟨b114, e115, h2⟩ := h2
              cases e113.symm.trans e115
              refine ⟨b112, e113, ?_⟩
              obtain ⟨c116, h1⟩ := h1
              obtain ⟨_, h2⟩ := h2
              refine ⟨c116, ?_⟩
              intro x118 e117
              have h1 := h1 x118 e117
              have h2 := h2 x118 e117
              refine cm_X5_minutesAt h1 h2 (fun x119 x120 h1 h2 g121 => ?_)
              have h1 := h1 g121
              have h2 := h2 g121
              intro x123 e122
              have h1 := h1 x123 e122
              have h2 := h2 x123 e122
              refine ⟨?_, ?_⟩
              · intro c124
                have h1 := h1.1 c124
                have h2 := h2.1 c124
                obtain ⟨b125, e126, h1⟩ := h1
                obtain ⟨b127, e128, h2⟩ := h2
                cases e126.symm.trans e128
                refine ⟨b125, e126, ?_⟩
                obtain ⟨c129, h1⟩ := h1
                obtain ⟨_, h2⟩ := h2
                refine ⟨c129, ?_⟩
                refine cm_X0_keepForUndo h1 h2 (fun x130 h1 h2 g131 => ?_)
                have h1 := h1 g131
                have h2 := h2 g131
                obtain ⟨b132, e133, h1⟩ := h1
                obtain ⟨b134, e135, h2⟩ := h2
                cases e133.symm.trans e135
                refine ⟨b132, e133, ?_⟩
                obtain ⟨b136, e137, h1⟩ := h1
                obtain ⟨b138, e139, h2⟩ := h2
                cases e137.symm.trans e139
                refine ⟨b136, e137, ?_⟩
                obtain ⟨c140, h1⟩ := h1
                obtain ⟨_, h2⟩ := h2
                refine ⟨c140, ?_⟩
                obtain ⟨b141, e142, h1⟩ := h1
                obtain ⟨b143, e144, h2⟩ := h2
                cases e142.symm.trans e144
                refine ⟨b141, e142, ?_⟩
                obtain ⟨c145, h1⟩ := h1
                obtain ⟨_, h2⟩ := h2
                refine ⟨c145, ?_⟩
                intro x147 e146
                have h1 := h1 x147 e146
                have h2 := h2 x147 e146
                obtain ⟨c148, h1⟩ := h1
                obtain ⟨_, h2⟩ := h2
                refine ⟨c148, ?_⟩
                refine cm_X8_hourOf h1 h2 (fun x149 x150 h1 h2 g151 => ?_)
                have h1 := h1 g151
                have h2 := h2 g151
                obtain ⟨b152, e153, h1⟩ := h1
                obtain ⟨b154, e155, h2⟩ := h2
                cases e153.symm.trans e155
                refine ⟨b152, e153, ?_⟩
                obtain ⟨c156, h1⟩ := h1
                obtain ⟨_, h2⟩ := h2
                refine ⟨c156, ?_⟩
                refine cm_X8_hasHour h1 h2 (fun x157 x158 h1 h2 g159 g160 => ?_)
                have h1 := h1 g159 g160
                have h2 := h2 g159 g160
                refine ⟨?_, ?_⟩
                · intro c161
                  have h1 := h1.1 c161
                  have h2 := h2.1 c161
                  exact cm_X9_go_243 h1 h2 hq
                · intro c162
                  have h1 := h1.2 c162
                  have h2 := h2.2 c162
                  obtain ⟨b163, e164, h1⟩ := h1
                  obtain ⟨b165, e166, h2⟩ := h2
                  cases e164.symm.trans e166
                  refine ⟨b163, e164, ?_⟩
                  obtain ⟨c167, h1⟩ := h1
                  obtain ⟨_, h2⟩ := h2
                  refine ⟨c167, ?_⟩
                  refine cm_X0_rainsIn h1 h2 (fun x168 x169 h1 h2 g170 g171 => ?_)
                  have h1 := h1 g170 g171
                  have h2 := h2 g170 g171
                  refine ⟨?_, ?_⟩
                  · intro c172
                    have h1 := h1.1 c172
                    have h2 := h2.1 c172
                    exact cm_X9_go_243 h1 h2 hq
                  · intro c173
                    have h1 := h1.2 c173
                    have h2 := h2.2 c173
                    obtain ⟨b174, e175, h1⟩ := h1
                    obtain ⟨b176, e177, h2⟩ := h2
                    cases e175.symm.trans e177
                    refine ⟨b174, e175, ?_⟩
                    obtain ⟨b178, e179, h1⟩ := h1
                    obtain ⟨b180, e181, h2⟩ := h2
                    cases e179.symm.trans e181
                    refine ⟨b178, e179, ?_⟩
                    obtain ⟨c182, h1⟩ := h1
                    obtain ⟨_, h2⟩ := h2
                    refine ⟨c182, ?_⟩
                    obtain ⟨b183, e184, h1⟩ := h1
                    obtain ⟨b185, e186, h2⟩ := h2
                    cases e184.symm.trans e186
                    refine ⟨b183, e184, ?_⟩
                    obtain ⟨c187, h1⟩ := h1
                    obtain ⟨_, h2⟩ := h2
                    refine ⟨c187, ?_⟩
                    obtain ⟨c188, h1⟩ := h1
                    obtain ⟨_, h2⟩ := h2
                    refine ⟨c188, ?_⟩
                    obtain ⟨b189, e190, h1⟩ := h1
                    obtain ⟨b191, e192, h2⟩ := h2
                    cases e190.symm.trans e192
                    refine ⟨b189, e190, ?_⟩
                    obtain ⟨c193, h1⟩ := h1
                    obtain ⟨_, h2⟩ := h2
                    refine ⟨c193, ?_⟩
                    refine cm_X1_wetOf h1 h2 (fun x194 x195 h1 h2 g196 => ?_)
                    have h1 := h1 g196
                    have h2 := h2 g196
                    obtain ⟨b197, e198, h1⟩ := h1
                    obtain ⟨b199, e200, h2⟩ := h2
                    cases e198.symm.trans e200
                    refine ⟨b197, e198, ?_⟩
                    obtain ⟨c201, h1⟩ := h1
                    obtain ⟨_, h2⟩ := h2
                    refine ⟨c201, ?_⟩
                    obtain ⟨b202, e203, h1⟩ := h1
                    obtain ⟨b204, e205, h2⟩ := h2
                    cases e203.symm.trans e205
                    refine ⟨b202, e203, ?_⟩
                    obtain ⟨b206, e207, h1⟩ := h1
                    obtain ⟨b208, e209, h2⟩ := h2
                    cases e207.symm.trans e209
                    refine ⟨b206, e207, ?_⟩
                    obtain ⟨c210, h1⟩ := h1
                    obtain ⟨_, h2⟩ := h2
                    refine ⟨c210, ?_⟩
                    obtain ⟨b211, e212, h1⟩ := h1
                    obtain ⟨b213, e214, h2⟩ := h2
                    cases e212.symm.trans e214
                    refine ⟨b211, e212, ?_⟩
                    obtain ⟨c215, h1⟩ := h1
                    obtain ⟨_, h2⟩ := h2
                    refine ⟨c215, ?_⟩
                    refine cm_X2_addFaces h1 h2 (fun x216 h1 h2 g217 => ?_)
                    have h1 := h1 g217
                    have h2 := h2 g217
                    exact cm_X9_go_243 h1 h2 hq
              · intro c218
                have h1 := h1.2 c218
                have h2 := h2.2 c218
                refine cm_X9_refuse h1 h2 (fun x219 x220 h1 h2 g221 => ?_)
                have h1 := h1 g221
                have h2 := h2 g221
                exact hq _ _ h1 h2
            · intro c222
              have h1 := h1.2 c222
              have h2 := h2.2 c222
              refine cm_X9_refuse h1 h2 (fun x223 x224 h1 h2 g225 => ?_)
              have h1 := h1 g225
              have h2 := h2 g225
              exact hq _ _ h1 h2
          · intro c226
            have h1 := h1.2 c226
            have h2 := h2.2 c226
            refine cm_X9_refuse h1 h2 (fun x227 x228 h1 h2 g229 => ?_)
            have h1 := h1 g229
            have h2 := h2 g229
            exact hq _ _ h1 h2
        · intro c230
          have h1 := h1.2 c230
          have h2 := h2.2 c230
          exact cm_X9_go_45 h1 h2 hq
theorem cm_X9_go {Q1 Q2 Q3 : Int32 → HS → Prop} {v0 : Nat} {v1 : Int32} {v2 : Int32} {v3 : Int32} {S : HS} (h1 : P_X9_go v0 v1 v2 v3 Q1 S) (h2 : P_X9_go v0 v1 v2 v3 Q2 S) (hq : ∀ (r : Int32) (T : HS), Q1 r T → Q2 r T → Q3 r T) : P_X9_go v0 v1 v2 v3 Q3 S := cm_X9_go_0 h1 h2 hq
set_option maxRecDepth 20000 in
set_option maxHeartbeats 1000000 in
theorem cm_X9_got_17 {Q1 Q2 Q3 : Int64 → HS → Prop} {v0 : Nat} {S : HS} (h1 : P_X9_got_17 Q1 v0 S) (h2 : P_X9_got_17 Q2 v0 S) (hq : ∀ (r : Int64) (T : HS), Q1 r T → Q2 r T → Q3 r T) : P_X9_got_17 Q3 v0 S := by
  delta P_X9_got_17 at h1 h2 ⊢
  obtain ⟨c1, h1⟩ := h1
  obtain ⟨_, h2⟩ := h2
  refine ⟨c1, ?_⟩
  refine cm_X9_refuse h1 h2 (fun x2 x3 h1 h2 g4 => ?_)
  have h1 := h1 g4
  have h2 := h2 g4
  exact hq _ _ h1 h2
set_option maxRecDepth 20000 in
set_option maxHeartbeats 1000000 in
theorem cm_X9_got_0 {Q1 Q2 Q3 : Int64 → HS → Prop} {v0 : Nat} {v1 : Int32} {v2 : Int32} {S : HS} (h1 : P_X9_got_0 Q1 v0 v1 v2 S) (h2 : P_X9_got_0 Q2 v0 v1 v2 S) (hq : ∀ (r : Int64) (T : HS), Q1 r T → Q2 r T → Q3 r T) : P_X9_got_0 Q3 v0 v1 v2 S := by
  delta P_X9_got_0 at h1 h2 ⊢
  obtain ⟨c1, h1⟩ := h1
  obtain ⟨_, h2⟩ := h2
  refine ⟨c1, ?_⟩
  obtain ⟨b2, e3, h1⟩ := h1
  obtain ⟨b4, e5, h2⟩ := h2
  cases e3.symm.trans e5
  refine ⟨b2, e3, ?_⟩
  obtain ⟨c6, h1⟩ := h1
  obtain ⟨_, h2⟩ := h2
  refine ⟨c6, ?_⟩
  refine cm_X0_isOn h1 h2 (fun x7 x8 h1 h2 g9 g10 => ?_)
  have h1 := h1 g9 g10
  have h2 := h2 g9 g10
  refine ⟨?_, ?_⟩
  · intro c11
    have h1 := h1.1 c11
    have h2 := h2.1 c11
    exact cm_X9_got_17 h1 h2 hq
  · intro c12
    have h1 := h1.2 c12
    have h2 := h2.2 c12
    refine cm_X9_isFace h1 h2 (fun x13 x14 h1 h2 g15 g16 => ?_)
    have h1 := h1 g15 g16
    have h2 := h2 g15 g16
    refine ⟨?_, ?_⟩
    · intro c17
      have h1 := h1.1 c17
      have h2 := h2.1 c17
      intro x19 e18
      have h1 := h1 x19 e18
      have h2 := h2 x19 e18
      obtain ⟨b20, e21, h1⟩ := h1
      obtain ⟨b22, e23, h2⟩ := h2
      cases e21.symm.trans e23
      refine ⟨b20, e21, ?_⟩
      obtain ⟨c24, h1⟩ := h1
      obtain ⟨_, h2⟩ := h2
      refine ⟨c24, ?_⟩
      obtain ⟨b25, e26, h1⟩ := h1
      obtain ⟨b27, e28, h2⟩ := h2
      cases e26.symm.trans e28
      refine ⟨b25, e26, ?_⟩
      obtain ⟨c29, h1⟩ := h1
      obtain ⟨_, h2⟩ := h2
      refine ⟨c29, ?_⟩
      obtain ⟨b30, e31, h1⟩ := h1
      obtain ⟨b32, e33, h2⟩ := h2
      cases e31.symm.trans e33
      refine ⟨b30, e31, ?_⟩
      obtain ⟨c34, h1⟩ := h1
      obtain ⟨_, h2⟩ := h2
      refine ⟨c34, ?_⟩
      obtain ⟨c35, h1⟩ := h1
      obtain ⟨_, h2⟩ := h2
      refine ⟨c35, ?_⟩
      intro x37 e36
      have h1 := h1 x37 e36
      have h2 := h2 x37 e36
      refine cm_X9_fraction h1 h2 (fun x38 x39 h1 h2 g40 => ?_)
      have h1 := h1 g40
      have h2 := h2 g40
      exact hq _ _ h1 h2
    · intro c41
      have h1 := h1.2 c41
      have h2 := h2.2 c41
      exact cm_X9_got_17 h1 h2 hq
theorem cm_X9_got {Q1 Q2 Q3 : Int64 → HS → Prop} {v0 : Nat} {v1 : Int32} {v2 : Int32} {S : HS} (h1 : P_X9_got v0 v1 v2 Q1 S) (h2 : P_X9_got v0 v1 v2 Q2 S) (hq : ∀ (r : Int64) (T : HS), Q1 r T → Q2 r T → Q3 r T) : P_X9_got v0 v1 v2 Q3 S := cm_X9_got_0 h1 h2 hq
set_option maxRecDepth 20000 in
set_option maxHeartbeats 1000000 in
theorem cm_X9_held_0 {Q1 Q2 Q3 : Int32 → HS → Prop} {v0 : Nat} {v1 : Int32} {v2 : Int32} {v3 : Int32} {v4 : Int32} {v5 : Int32} {S : HS} (h1 : P_X9_held_0 Q1 v0 v1 v2 v3 v4 v5 S) (h2 : P_X9_held_0 Q2 v0 v1 v2 v3 v4 v5 S) (hq : ∀ (r : Int32) (T : HS), Q1 r T → Q2 r T → Q3 r T) : P_X9_held_0 Q3 v0 v1 v2 v3 v4 v5 S := by
  delta P_X9_held_0 at h1 h2 ⊢
  obtain ⟨c1, h1⟩ := h1
  obtain ⟨_, h2⟩ := h2
  refine ⟨c1, ?_⟩
  refine cm_X9_legTrouble h1 h2 (fun x2 x3 h1 h2 g4 => ?_)
  have h1 := h1 g4
  have h2 := h2 g4
  refine cm_X9_refusedBy h1 h2 (fun x5 x6 h1 h2 g7 g8 => ?_)
  have h1 := h1 g7 g8
  have h2 := h2 g7 g8
  refine ⟨?_, ?_⟩
  · intro c9
    have h1 := h1.1 c9
    have h2 := h2.1 c9
    obtain ⟨b10, e11, h1⟩ := h1
    obtain ⟨b12, e13, h2⟩ := h2
    cases e11.symm.trans e13
    refine ⟨b10, e11, ?_⟩
    obtain ⟨c14, h1⟩ := h1
    obtain ⟨_, h2⟩ := h2
    refine ⟨c14, ?_⟩
    obtain ⟨b15, e16, h1⟩ := h1
    obtain ⟨b17, e18, h2⟩ := h2
    cases e16.symm.trans e18
    refine ⟨b15, e16, ?_⟩
    obtain ⟨c19, h1⟩ := h1
    obtain ⟨_, h2⟩ := h2
    refine ⟨c19, ?_⟩
    obtain ⟨c20, h1⟩ := h1
    obtain ⟨_, h2⟩ := h2
    refine ⟨c20, ?_⟩
    obtain ⟨b21, e22, h1⟩ := h1
    obtain ⟨b23, e24, h2⟩ := h2
    cases e22.symm.trans e24
    refine ⟨b21, e22, ?_⟩
    obtain ⟨c25, h1⟩ := h1
    obtain ⟨_, h2⟩ := h2
    refine ⟨c25, ?_⟩
    intro x27 e26
    have h1 := h1 x27 e26
    have h2 := h2 x27 e26
    refine ⟨?_, ?_⟩
    · intro c28
      have h1 := h1.1 c28
      have h2 := h2.1 c28
      obtain ⟨b29, e30, h1⟩ := h1
      obtain ⟨b31, e32, h2⟩ := h2
      cases e30.symm.trans e32
      refine ⟨b29, e30, ?_⟩
      obtain ⟨b33, e34, h1⟩ := h1
      obtain ⟨b35, e36, h2⟩ := h2
      cases e34.symm.trans e36
      refine ⟨b33, e34, ?_⟩
      obtain ⟨c37, h1⟩ := h1
      obtain ⟨_, h2⟩ := h2
      refine ⟨c37, ?_⟩
      obtain ⟨b38, e39, h1⟩ := h1
      obtain ⟨b40, e41, h2⟩ := h2
      cases e39.symm.trans e41
      refine ⟨b38, e39, ?_⟩
      obtain ⟨c42, h1⟩ := h1
      obtain ⟨_, h2⟩ := h2
      refine ⟨c42, ?_⟩
      obtain ⟨c43, h1⟩ := h1
      obtain ⟨_, h2⟩ := h2
      refine ⟨c43, ?_⟩
      obtain ⟨b44, e45, h1⟩ := h1
      obtain ⟨b46, e47, h2⟩ := h2
      cases e45.symm.trans e47
      refine ⟨b44, e45, ?_⟩
      obtain ⟨b48, e49, h1⟩ := h1
      obtain ⟨b50, e51, h2⟩ := h2
      cases e49.symm.trans e51
      refine ⟨b48, e49, ?_⟩
      obtain ⟨c52, h1⟩ := h1
      obtain ⟨_, h2⟩ := h2
      refine ⟨c52, ?_⟩
      obtain ⟨b53, e54, h1⟩ := h1
      obtain ⟨b55, e56, h2⟩ := h2
      cases e54.symm.trans e56
      refine ⟨b53, e54, ?_⟩
      obtain ⟨c57, h1⟩ := h1
      obtain ⟨_, h2⟩ := h2
      refine ⟨c57, ?_⟩
      obtain ⟨c58, h1⟩ := h1
      obtain ⟨_, h2⟩ := h2
      refine ⟨c58, ?_⟩
      obtain ⟨b59, e60, h1⟩ := h1
      obtain ⟨b61, e62, h2⟩ := h2
      cases e60.symm.trans e62
      refine ⟨b59, e60, ?_⟩
      obtain ⟨c63, h1⟩ := h1
      obtain ⟨_, h2⟩ := h2
      refine ⟨c63, ?_⟩
      refine cm_X1_lay h1 h2 (fun x64 h1 h2 g65 => ?_)
      have h1 := h1 g65
      have h2 := h2 g65
      obtain ⟨b66, e67, h1⟩ := h1
      obtain ⟨b68, e69, h2⟩ := h2
      cases e67.symm.trans e69
      refine ⟨b66, e67, ?_⟩
      obtain ⟨b70, e71, h1⟩ := h1
      obtain ⟨b72, e73, h2⟩ := h2
      cases e71.symm.trans e73
      refine ⟨b70, e71, ?_⟩
      obtain ⟨c74, h1⟩ := h1
      obtain ⟨_, h2⟩ := h2
      refine ⟨c74, ?_⟩
      obtain ⟨b75, e76, h1⟩ := h1
      obtain ⟨b77, e78, h2⟩ := h2
      cases e76.symm.trans e78
      refine ⟨b75, e76, ?_⟩
      obtain ⟨c79, h1⟩ := h1
      obtain ⟨_, h2⟩ := h2
      refine ⟨c79, ?_⟩
      obtain ⟨c80, h1⟩ := h1
      obtain ⟨_, h2⟩ := h2
      refine ⟨c80, ?_⟩
      obtain ⟨b81, e82, h1⟩ := h1
      obtain ⟨b83, e84, h2⟩ := h2
      cases e82.symm.trans e84
      refine ⟨b81, e82, ?_⟩
      obtain ⟨c85, h1⟩ := h1
      obtain ⟨_, h2⟩ := h2
      refine ⟨c85, ?_⟩
      refine cm_X1_isForward h1 h2 (fun x86 x87 h1 h2 g88 g89 => ?_)
      have h1 := h1 g88 g89
      have h2 := h2 g88 g89
      refine ⟨?_, ?_⟩
      · intro c90
        have h1 := h1.1 c90
        have h2 := h2.1 c90
        exact hq _ _ h1 h2
      · intro c91
        have h1 := h1.2 c91
        have h2 := h2.2 c91
        exact hq _ _ h1 h2
    · intro c92
      have h1 := h1.2 c92
      have h2 := h2.2 c92
      exact hq _ _ h1 h2
  · intro c93
    have h1 := h1.2 c93
    have h2 := h2.2 c93
    exact hq _ _ h1 h2
theorem cm_X9_held {Q1 Q2 Q3 : Int32 → HS → Prop} {v0 : Nat} {v1 : Int32} {v2 : Int32} {v3 : Int32} {v4 : Int32} {v5 : Int32} {S : HS} (h1 : P_X9_held v0 v1 v2 v3 v4 v5 Q1 S) (h2 : P_X9_held v0 v1 v2 v3 v4 v5 Q2 S) (hq : ∀ (r : Int32) (T : HS), Q1 r T → Q2 r T → Q3 r T) : P_X9_held v0 v1 v2 v3 v4 v5 Q3 S := cm_X9_held_0 h1 h2 hq
set_option maxRecDepth 20000 in
set_option maxHeartbeats 1000000 in
theorem cm_X9_init_0 {Q1 Q2 Q3 : HS → Prop} {v0 : Nat} {S : HS} (h1 : P_X9_init_0 Q1 v0 S) (h2 : P_X9_init_0 Q2 v0 S) (hq : ∀ (T : HS), Q1 T → Q2 T → Q3 T) : P_X9_init_0 Q3 v0 S := by
  delta P_X9_init_0 at h1 h2 ⊢
  intro x2 e1
  have h1 := h1 x2 e1
  have h2 := h2 x2 e1
  intro x4 e3
  have h1 := h1 x4 e3
  have h2 := h2 x4 e3
  obtain ⟨c5, h1⟩ := h1
  obtain ⟨_, h2⟩ := h2
  refine ⟨c5, ?_⟩
  intro x7 e6
  have h1 := h1 x7 e6
  have h2 := h2 x7 e6
  intro x9 e8
  have h1 := h1 x9 e8
  have h2 := h2 x9 e8
  intro x11 e10
  have h1 := h1 x11 e10
  have h2 := h2 x11 e10
  refine cm_X8_init h1 h2 (fun x12 h1 h2 g13 => ?_)
  have h1 := h1 g13
  have h2 := h2 g13
  intro x15 e14
  have h1 := h1 x15 e14
  have h2 := h2 x15 e14
  intro x17 e16
  have h1 := h1 x17 e16
  have h2 := h2 x17 e16
  intro x19 e18
  have h1 := h1 x19 e18
  have h2 := h2 x19 e18
  refine cm_X4_init h1 h2 (fun x20 h1 h2 g21 => ?_)
  have h1 := h1 g21
  have h2 := h2 g21
  intro x23 e22
  have h1 := h1 x23 e22
  have h2 := h2 x23 e22
  intro x25 e24
  have h1 := h1 x25 e24
  have h2 := h2 x25 e24
  intro x27 e26
  have h1 := h1 x27 e26
  have h2 := h2 x27 e26
  refine cm_X1_init h1 h2 (fun x28 h1 h2 g29 => ?_)
  have h1 := h1 g29
  have h2 := h2 g29
  intro x31 e30
  have h1 := h1 x31 e30
  have h2 := h2 x31 e30
  intro x33 e32
  have h1 := h1 x33 e32
  have h2 := h2 x33 e32
  intro x35 e34
  have h1 := h1 x35 e34
  have h2 := h2 x35 e34
  refine cm_X7_init h1 h2 (fun x36 h1 h2 g37 => ?_)
  have h1 := h1 g37
  have h2 := h2 g37
  intro x39 e38
  have h1 := h1 x39 e38
  have h2 := h2 x39 e38
  intro x41 e40
  have h1 := h1 x41 e40
  have h2 := h2 x41 e40
  intro x43 e42
  have h1 := h1 x43 e42
  have h2 := h2 x43 e42
  refine cm_X0_init h1 h2 (fun x44 h1 h2 g45 => ?_)
  have h1 := h1 g45
  have h2 := h2 g45
  intro x47 e46
  have h1 := h1 x47 e46
  have h2 := h2 x47 e46
  exact hq _ h1 h2
theorem cm_X9_init {Q1 Q2 Q3 : HS → Prop} {v0 : Nat} {S : HS} (h1 : P_X9_init v0 Q1 S) (h2 : P_X9_init v0 Q2 S) (hq : ∀ (T : HS), Q1 T → Q2 T → Q3 T) : P_X9_init v0 Q3 S := cm_X9_init_0 h1 h2 hq
set_option maxRecDepth 20000 in
set_option maxHeartbeats 1000000 in
theorem cm_X9_isTill_0 {Q1 Q2 Q3 : Int32 → HS → Prop} {v0 : Int32} {S : HS} (h1 : P_X9_isTill_0 Q1 v0 S) (h2 : P_X9_isTill_0 Q2 v0 S) (hq : ∀ (r : Int32) (T : HS), Q1 r T → Q2 r T → Q3 r T) : P_X9_isTill_0 Q3 v0 S := by
  delta P_X9_isTill_0 at h1 h2 ⊢
  refine ⟨?_, ?_⟩
  · intro c1
    have h1 := h1.1 c1
    have h2 := h2.1 c1
    exact hq _ _ h1 h2
  · intro c2
    have h1 := h1.2 c2
    have h2 := h2.2 c2
    refine ⟨?_, ?_⟩
    · intro c3
      have h1 := h1.1 c3
      have h2 := h2.1 c3
      exact hq _ _ h1 h2
    · intro c4
      have h1 := h1.2 c4
      have h2 := h2.2 c4
      exact hq _ _ h1 h2
theorem cm_X9_isTill {Q1 Q2 Q3 : Int32 → HS → Prop} {v0 : Int32} {S : HS} (h1 : P_X9_isTill v0 Q1 S) (h2 : P_X9_isTill v0 Q2 S) (hq : ∀ (r : Int32) (T : HS), Q1 r T → Q2 r T → Q3 r T) : P_X9_isTill v0 Q3 S := cm_X9_isTill_0 h1 h2 hq
set_option maxRecDepth 20000 in
set_option maxHeartbeats 1000000 in
theorem cm_X9_placesTrouble_38 {Q1 Q2 Q3 : Int32 → HS → Prop} {s0 : Int32} {S : HS} (h1 : P_X9_placesTrouble_38 Q1 s0 S) (h2 : P_X9_placesTrouble_38 Q2 s0 S) (hq : ∀ (r : Int32) (T : HS), Q1 r T → Q2 r T → Q3 r T) : P_X9_placesTrouble_38 Q3 s0 S := by
  delta P_X9_placesTrouble_38 at h1 h2 ⊢
  refine ⟨?_, ?_⟩
  · intro c1
    have h1 := h1.1 c1
    have h2 := h2.1 c1
    exact hq _ _ h1 h2
  · intro c2
    have h1 := h1.2 c2
    have h2 := h2.2 c2
    exact hq _ _ h1 h2
set_option maxRecDepth 20000 in
set_option maxHeartbeats 1000000 in
theorem cm_X9_placesTrouble_37 {Q1 Q2 Q3 : Int32 → HS → Prop} {S : HS} (h1 : P_X9_placesTrouble_37 Q1 S) (h2 : P_X9_placesTrouble_37 Q2 S) (hq : ∀ (r : Int32) (T : HS), Q1 r T → Q2 r T → Q3 r T) : P_X9_placesTrouble_37 Q3 S := by
  delta P_X9_placesTrouble_37 at h1 h2 ⊢
  exact cm_X9_placesTrouble_38 h1 h2 hq
set_option maxRecDepth 20000 in
set_option maxHeartbeats 1000000 in
theorem cm_X9_placesTrouble_0 {Q1 Q2 Q3 : Int32 → HS → Prop} {v0 : Nat} {v1 : Int32} {v2 : Int32} {v3 : Int32} {S : HS} (h1 : P_X9_placesTrouble_0 Q1 v0 v1 v2 v3 S) (h2 : P_X9_placesTrouble_0 Q2 v0 v1 v2 v3 S) (hq : ∀ (r : Int32) (T : HS), Q1 r T → Q2 r T → Q3 r T) : P_X9_placesTrouble_0 Q3 v0 v1 v2 v3 S := by
  delta P_X9_placesTrouble_0 at h1 h2 ⊢
  obtain ⟨c1, h1⟩ := h1
  obtain ⟨_, h2⟩ := h2
  refine ⟨c1, ?_⟩
  obtain ⟨b2, e3, h1⟩ := h1
  obtain ⟨b4, e5, h2⟩ := h2
  cases e3.symm.trans e5
  refine ⟨b2, e3, ?_⟩
  obtain ⟨c6, h1⟩ := h1
  obtain ⟨_, h2⟩ := h2
  refine ⟨c6, ?_⟩
  refine cm_X8_hasWalker h1 h2 (fun x7 x8 h1 h2 g9 g10 => ?_)
  have h1 := h1 g9 g10
  have h2 := h2 g9 g10
  refine ⟨?_, ?_⟩
  · intro c11
    have h1 := h1.1 c11
    have h2 := h2.1 c11
    exact cm_X9_placesTrouble_37 h1 h2 hq
  · intro c12
    have h1 := h1.2 c12
    have h2 := h2.2 c12
    obtain ⟨b13, e14, h1⟩ := h1
    obtain ⟨b15, e16, h2⟩ := h2
    cases e14.symm.trans e16
    refine ⟨b13, e14, ?_⟩
    obtain ⟨c17, h1⟩ := h1
    obtain ⟨_, h2⟩ := h2
    refine ⟨c17, ?_⟩
    refine cm_X8_hasPlace h1 h2 (fun x18 x19 h1 h2 g20 g21 => ?_)
    have h1 := h1 g20 g21
    have h2 := h2 g20 g21
    refine ⟨?_, ?_⟩
    · intro c22
      have h1 := h1.1 c22
      have h2 := h2.1 c22
      exact cm_X9_placesTrouble_37 h1 h2 hq
    · intro c23
      have h1 := h1.2 c23
      have h2 := h2.2 c23
      obtain ⟨b24, e25, h1⟩ := h1
      obtain ⟨b26, e27, h2⟩ := h2
      cases e25.symm.trans e27
      refine ⟨b24, e25, ?_⟩
      obtain ⟨c28, h1⟩ := h1
      obtain ⟨_, h2⟩ := h2
      refine ⟨c28, ?_⟩
      refine cm_X8_hasPlace h1 h2 (fun x29 x30 h1 h2 g31 g32 => ?_)
      have h1 := h1 g31 g32
      have h2 := h2 g31 g32
      refine ⟨?_, ?_⟩
      · intro c33
        have h1 := h1.1 c33
        have h2 := h2.1 c33
        exact cm_X9_placesTrouble_37 h1 h2 hq
      · intro c34
        have h1 := h1.2 c34
        have h2 := h2.2 c34
        exact cm_X9_placesTrouble_38 h1 h2 hq
theorem cm_X9_placesTrouble {Q1 Q2 Q3 : Int32 → HS → Prop} {v0 : Nat} {v1 : Int32} {v2 : Int32} {v3 : Int32} {S : HS} (h1 : P_X9_placesTrouble v0 v1 v2 v3 Q1 S) (h2 : P_X9_placesTrouble v0 v1 v2 v3 Q2 S) (hq : ∀ (r : Int32) (T : HS), Q1 r T → Q2 r T → Q3 r T) : P_X9_placesTrouble v0 v1 v2 v3 Q3 S := cm_X9_placesTrouble_0 h1 h2 hq
set_option maxRecDepth 20000 in
set_option maxHeartbeats 1000000 in
theorem cm_X9_wayTrouble_0 {Q1 Q2 Q3 : Int32 → HS → Prop} {v0 : Nat} {v1 : Int32} {v2 : Int32} {v3 : Int32} {v4 : Int32} {v5 : Int32} {S : HS} (h1 : P_X9_wayTrouble_0 Q1 v0 v1 v2 v3 v4 v5 S) (h2 : P_X9_wayTrouble_0 Q2 v0 v1 v2 v3 v4 v5 S) (hq : ∀ (r : Int32) (T : HS), Q1 r T → Q2 r T → Q3 r T) : P_X9_wayTrouble_0 Q3 v0 v1 v2 v3 v4 v5 S := by
  delta P_X9_wayTrouble_0 at h1 h2 ⊢
  obtain ⟨c1, h1⟩ := h1
  obtain ⟨_, h2⟩ := h2
  refine ⟨c1, ?_⟩
  refine cm_X9_placesTrouble h1 h2 (fun x2 x3 h1 h2 g4 => ?_)
  have h1 := h1 g4
  have h2 := h2 g4
  refine ⟨?_, ?_⟩
  · intro c5
    have h1 := h1.1 c5
    have h2 := h2.1 c5
    refine cm_X9_isTill h1 h2 (fun x6 x7 h1 h2 g8 g9 => ?_)
    have h1 := h1 g8 g9
    have h2 := h2 g8 g9
    refine ⟨?_, ?_⟩
    · intro c10
      have h1 := h1.1 c10
      have h2 := h2.1 c10
      exact hq _ _ h1 h2
    · intro c11
      have h1 := h1.2 c11
      have h2 := h2.2 c11
      refine ⟨?_, ?_⟩
      · intro c12
        have h1 := h1.1 c12
        have h2 := h2.1 c12
        exact hq _ _ h1 h2
      · intro c13
        have h1 := h1.2 c13
        have h2 := h2.2 c13
        refine ⟨?_, ?_⟩
        · intro c14
          have h1 := h1.1 c14
          have h2 := h2.1 c14
          obtain ⟨b15, e16, h1⟩ := h1
          obtain ⟨b17, e18, h2⟩ := h2
          cases e16.symm.trans e18
          refine ⟨b15, e16, ?_⟩
          obtain ⟨b19, e20, h1⟩ := h1
          obtain ⟨b21, e22, h2⟩ := h2
          cases e20.symm.trans e22
          refine ⟨b19, e20, ?_⟩
          obtain ⟨b23, e24, h1⟩ := h1
          obtain ⟨b25, e26, h2⟩ := h2
          cases e24.symm.trans e26
          refine ⟨b23, e24, ?_⟩
          obtain ⟨c27, h1⟩ := h1
          obtain ⟨_, h2⟩ := h2
          refine ⟨c27, ?_⟩
          refine cm_X7_reckon h1 h2 (fun x28 h1 h2 g29 => ?_)
          have h1 := h1 g29
          have h2 := h2 g29
          obtain ⟨b30, e31, h1⟩ := h1
          obtain ⟨b32, e33, h2⟩ := h2
          cases e31.symm.trans e33
          refine ⟨b30, e31, ?_⟩
          obtain ⟨c34, h1⟩ := h1
          obtain ⟨_, h2⟩ := h2
          refine ⟨c34, ?_⟩
          refine cm_X7_isOpen h1 h2 (fun x35 x36 h1 h2 g37 g38 => ?_)
          have h1 := h1 g37 g38
          have h2 := h2 g37 g38
          refine ⟨?_, ?_⟩
          · intro c39
            have h1 := h1.1 c39
            have h2 := h2.1 c39
            exact hq _ _ h1 h2
          · intro c40
            have h1 := h1.2 c40
            have h2 := h2.2 c40
            exact hq _ _ h1 h2
        · intro c41
          have h1 := h1.2 c41
          have h2 := h2.2 c41
          exact hq _ _ h1 h2
  · intro c42
    have h1 := h1.2 c42
    have h2 := h2.2 c42
    exact hq _ _ h1 h2
theorem cm_X9_wayTrouble {Q1 Q2 Q3 : Int32 → HS → Prop} {v0 : Nat} {v1 : Int32} {v2 : Int32} {v3 : Int32} {v4 : Int32} {v5 : Int32} {S : HS} (h1 : P_X9_wayTrouble v0 v1 v2 v3 v4 v5 Q1 S) (h2 : P_X9_wayTrouble v0 v1 v2 v3 v4 v5 Q2 S) (hq : ∀ (r : Int32) (T : HS), Q1 r T → Q2 r T → Q3 r T) : P_X9_wayTrouble v0 v1 v2 v3 v4 v5 Q3 S := cm_X9_wayTrouble_0 h1 h2 hq
set_option maxRecDepth 20000 in
set_option maxHeartbeats 1000000 in
theorem cm_X9_least_0 {Q1 Q2 Q3 : Int64 → HS → Prop} {v0 : Nat} {v1 : Int32} {v2 : Int32} {v3 : Int32} {v4 : Int32} {v5 : Int32} {v6 : Int32} {S : HS} (h1 : P_X9_least_0 Q1 v0 v1 v2 v3 v4 v5 v6 S) (h2 : P_X9_least_0 Q2 v0 v1 v2 v3 v4 v5 v6 S) (hq : ∀ (r : Int64) (T : HS), Q1 r T → Q2 r T → Q3 r T) : P_X9_least_0 Q3 v0 v1 v2 v3 v4 v5 v6 S := by
  delta P_X9_least_0 at h1 h2 ⊢
  obtain ⟨c1, h1⟩ := h1
  obtain ⟨_, h2⟩ := h2
  refine ⟨c1, ?_⟩
  refine cm_X9_wayTrouble h1 h2 (fun x2 x3 h1 h2 g4 => ?_)
  have h1 := h1 g4
  have h2 := h2 g4
  refine cm_X9_refusedBy h1 h2 (fun x5 x6 h1 h2 g7 g8 => ?_)
  have h1 := h1 g7 g8
  have h2 := h2 g7 g8
  refine ⟨?_, ?_⟩
  · intro c9
    have h1 := h1.1 c9
    have h2 := h2.1 c9
    obtain ⟨b10, e11, h1⟩ := h1
    obtain ⟨b12, e13, h2⟩ := h2
    cases e11.symm.trans e13
    refine ⟨b10, e11, ?_⟩
    obtain ⟨c14, h1⟩ := h1
    obtain ⟨_, h2⟩ := h2
    refine ⟨c14, ?_⟩
    refine cm_X7_meanFrom h1 h2 (fun x15 x16 h1 h2 g17 => ?_)
    have h1 := h1 g17
    have h2 := h2 g17
    refine cm_X9_fraction h1 h2 (fun x18 x19 h1 h2 g20 => ?_)
    have h1 := h1 g20
    have h2 := h2 g20
    exact hq _ _ h1 h2
  · intro c21
    have h1 := h1.2 c21
    have h2 := h2.2 c21
    exact hq _ _ h1 h2
theorem cm_X9_least {Q1 Q2 Q3 : Int64 → HS → Prop} {v0 : Nat} {v1 : Int32} {v2 : Int32} {v3 : Int32} {v4 : Int32} {v5 : Int32} {v6 : Int32} {S : HS} (h1 : P_X9_least v0 v1 v2 v3 v4 v5 v6 Q1 S) (h2 : P_X9_least v0 v1 v2 v3 v4 v5 v6 Q2 S) (hq : ∀ (r : Int64) (T : HS), Q1 r T → Q2 r T → Q3 r T) : P_X9_least v0 v1 v2 v3 v4 v5 v6 Q3 S := cm_X9_least_0 h1 h2 hq
set_option maxRecDepth 20000 in
set_option maxHeartbeats 1000000 in
theorem cm_X9_lee_0 {Q1 Q2 Q3 : Int64 → HS → Prop} {v0 : Nat} {v1 : Int32} {v2 : Int32} {v3 : Int32} {v4 : Int32} {v5 : Int32} {v6 : Int32} {v7 : Int32} {S : HS} (h1 : P_X9_lee_0 Q1 v0 v1 v2 v3 v4 v5 v6 v7 S) (h2 : P_X9_lee_0 Q2 v0 v1 v2 v3 v4 v5 v6 v7 S) (hq : ∀ (r : Int64) (T : HS), Q1 r T → Q2 r T → Q3 r T) : P_X9_lee_0 Q3 v0 v1 v2 v3 v4 v5 v6 v7 S := by
  delta P_X9_lee_0 at h1 h2 ⊢
  obtain ⟨c1, h1⟩ := h1
  obtain ⟨_, h2⟩ := h2
  refine ⟨c1, ?_⟩
  refine cm_X9_leeTrouble h1 h2 (fun x2 x3 h1 h2 g4 => ?_)
  have h1 := h1 g4
  have h2 := h2 g4
  refine cm_X9_refusedBy h1 h2 (fun x5 x6 h1 h2 g7 g8 => ?_)
  have h1 := h1 g7 g8
  have h2 := h2 g7 g8
  refine ⟨?_, ?_⟩
  · intro c9
    have h1 := h1.1 c9
    have h2 := h2.1 c9
    obtain ⟨b10, e11, h1⟩ := h1
    obtain ⟨b12, e13, h2⟩ := h2
    cases e11.symm.trans e13
    refine ⟨b10, e11, ?_⟩
    obtain ⟨b14, e15, h1⟩ := h1
    obtain ⟨b16, e17, h2⟩ := h2
    cases e15.symm.trans e17
    refine ⟨b14, e15, ?_⟩
    obtain ⟨c18, h1⟩ := h1
    obtain ⟨_, h2⟩ := h2
    refine ⟨c18, ?_⟩
    obtain ⟨b19, e20, h1⟩ := h1
    obtain ⟨b21, e22, h2⟩ := h2
    cases e20.symm.trans e22
    refine ⟨b19, e20, ?_⟩
    obtain ⟨c23, h1⟩ := h1
    obtain ⟨_, h2⟩ := h2
    refine ⟨c23, ?_⟩
    obtain ⟨c24, h1⟩ := h1
    obtain ⟨_, h2⟩ := h2
    refine ⟨c24, ?_⟩
    obtain ⟨b25, e26, h1⟩ := h1
    obtain ⟨b27, e28, h2⟩ := h2
    cases e26.symm.trans e28
    refine ⟨b25, e26, ?_⟩
    obtain ⟨b29, e30, h1⟩ := h1
    obtain ⟨b31, e32, h2⟩ := h2
    cases e30.symm.trans e32
    refine ⟨b29, e30, ?_⟩
    obtain ⟨c33, h1⟩ := h1
    obtain ⟨_, h2⟩ := h2
    refine ⟨c33, ?_⟩
    obtain ⟨b34, e35, h1⟩ := h1
    obtain ⟨b36, e37, h2⟩ := h2
    cases e35.symm.trans e37
    refine ⟨b34, e35, ?_⟩
    obtain ⟨c38, h1⟩ := h1
    obtain ⟨_, h2⟩ := h2
    refine ⟨c38, ?_⟩
    obtain ⟨c39, h1⟩ := h1
    obtain ⟨_, h2⟩ := h2
    refine ⟨c39, ?_⟩
    obtain ⟨b40, e41, h1⟩ := h1
    obtain ⟨b42, e43, h2⟩ := h2
    cases e41.symm.trans e43
    refine ⟨b40, e41, ?_⟩
    obtain ⟨c44, h1⟩ := h1
    obtain ⟨_, h2⟩ := h2
    refine ⟨c44, ?_⟩
    refine cm_X1_lay h1 h2 (fun x45 h1 h2 g46 => ?_)
    have h1 := h1 g46
    have h2 := h2 g46
    obtain ⟨b47, e48, h1⟩ := h1
    obtain ⟨b49, e50, h2⟩ := h2
    cases e48.symm.trans e50
    refine ⟨b47, e48, ?_⟩
    obtain ⟨b51, e52, h1⟩ := h1
    obtain ⟨b53, e54, h2⟩ := h2
    cases e52.symm.trans e54
    refine ⟨b51, e52, ?_⟩
    obtain ⟨c55, h1⟩ := h1
    obtain ⟨_, h2⟩ := h2
    refine ⟨c55, ?_⟩
    obtain ⟨b56, e57, h1⟩ := h1
    obtain ⟨b58, e59, h2⟩ := h2
    cases e57.symm.trans e59
    refine ⟨b56, e57, ?_⟩
    obtain ⟨c60, h1⟩ := h1
    obtain ⟨_, h2⟩ := h2
    refine ⟨c60, ?_⟩
    obtain ⟨c61, h1⟩ := h1
    obtain ⟨_, h2⟩ := h2
    refine ⟨c61, ?_⟩
    obtain ⟨b62, e63, h1⟩ := h1
    obtain ⟨b64, e65, h2⟩ := h2
    cases e63.symm.trans e65
    refine ⟨b62, e63, ?_⟩
    obtain ⟨b66, e67, h1⟩ := h1
    obtain ⟨b68, e69, h2⟩ := h2
    cases e67.symm.trans e69
    refine ⟨b66, e67, ?_⟩
    obtain ⟨c70, h1⟩ := h1
    obtain ⟨_, h2⟩ := h2
    refine ⟨c70, ?_⟩
    obtain ⟨b71, e72, h1⟩ := h1
    obtain ⟨b73, e74, h2⟩ := h2
    cases e72.symm.trans e74
    refine ⟨b71, e72, ?_⟩
    obtain ⟨c75, h1⟩ := h1
    obtain ⟨_, h2⟩ := h2
    refine ⟨c75, ?_⟩
    obtain ⟨c76, h1⟩ := h1
    obtain ⟨_, h2⟩ := h2
    refine ⟨c76, ?_⟩
    obtain ⟨b77, e78, h1⟩ := h1
    obtain ⟨b79, e80, h2⟩ := h2
    cases e78.symm.trans e80
    refine ⟨b77, e78, ?_⟩
    obtain ⟨c81, h1⟩ := h1
    obtain ⟨_, h2⟩ := h2
    refine ⟨c81, ?_⟩
    refine cm_X1_wetInLee h1 h2 (fun x82 x83 h1 h2 g84 => ?_)
    have h1 := h1 g84
    have h2 := h2 g84
    refine cm_X9_fraction h1 h2 (fun x85 x86 h1 h2 g87 => ?_)
    have h1 := h1 g87
    have h2 := h2 g87
    exact hq _ _ h1 h2
  · intro c88
    have h1 := h1.2 c88
    have h2 := h2.2 c88
    exact hq _ _ h1 h2
theorem cm_X9_lee {Q1 Q2 Q3 : Int64 → HS → Prop} {v0 : Nat} {v1 : Int32} {v2 : Int32} {v3 : Int32} {v4 : Int32} {v5 : Int32} {v6 : Int32} {v7 : Int32} {S : HS} (h1 : P_X9_lee v0 v1 v2 v3 v4 v5 v6 v7 Q1 S) (h2 : P_X9_lee v0 v1 v2 v3 v4 v5 v6 v7 Q2 S) (hq : ∀ (r : Int64) (T : HS), Q1 r T → Q2 r T → Q3 r T) : P_X9_lee v0 v1 v2 v3 v4 v5 v6 v7 Q3 S := cm_X9_lee_0 h1 h2 hq
set_option maxRecDepth 20000 in
set_option maxHeartbeats 1000000 in
theorem cm_X9_lies_54 {Q1 Q2 Q3 : Int32 → HS → Prop} {X20_1 X20_2 X20_3 : Nat → Int32 → Int32 → HS → Prop} {v0 : Nat} {v1 : Int32} {v2 : Int32} {S : HS} (h1 : P_X9_lies_54 Q1 X20_1 v0 v1 v2 S) (h2 : P_X9_lies_54 Q2 X20_2 v0 v1 v2 S) (hq : ∀ (r : Int32) (T : HS), Q1 r T → Q2 r T → Q3 r T) (hX20 : ∀ (u0 : Nat) (u1 : Int32) (u2 : Int32) (u3 : HS), X20_1 u0 u1 u2 u3 → X20_2 u0 u1 u2 u3 → X20_3 u0 u1 u2 u3) : P_X9_lies_54 Q3 X20_3 v0 v1 v2 S := by
  delta P_X9_lies_54 at h1 h2 ⊢
  intro x2 e1
  have h1 := h1 x2 e1
  have h2 := h2 x2 e1
  exact hX20 _ _ _ _ h1 h2
set_option maxRecDepth 20000 in
set_option maxHeartbeats 1000000 in
theorem cmB_X9_lies_20 {Q1 Q2 Q3 : Int32 → HS → Prop} {X20_1 X20_2 X20_3 : Nat → Int32 → Int32 → HS → Prop} {v0 : Nat} {v1 : Int32} {v2 : Int32} {S : HS} (h1 : B_X9_lies_20 Q1 X20_1 v0 v1 v2 S) (h2 : B_X9_lies_20 Q2 X20_2 v0 v1 v2 S) (hq : ∀ (r : Int32) (T : HS), Q1 r T → Q2 r T → Q3 r T) (hX20 : ∀ (u0 : Nat) (u1 : Int32) (u2 : Int32) (u3 : HS), X20_1 u0 u1 u2 u3 → X20_2 u0 u1 u2 u3 → X20_3 u0 u1 u2 u3) : B_X9_lies_20 Q3 X20_3 v0 v1 v2 S := by
  delta B_X9_lies_20 at h1 h2 ⊢
  obtain ⟨c1, h1⟩ := h1
  obtain ⟨_, h2⟩ := h2
  refine ⟨c1, ?_⟩
  obtain ⟨b2, e3, h1⟩ := h1
  obtain ⟨b4, e5, h2⟩ := h2
  cases e3.symm.trans e5
  refine ⟨b2, e3, ?_⟩
  obtain ⟨c6, h1⟩ := h1
  obtain ⟨_, h2⟩ := h2
  refine ⟨c6, ?_⟩
  intro x8 e7
  have h1 := h1 x8 e7
  have h2 := h2 x8 e7
  refine ⟨?_, ?_⟩
  · intro c9
    have h1 := h1.1 c9
    have h2 := h2.1 c9
    refine cm_X9_grant h1 h2 (fun x10 x11 h1 h2 g12 => ?_)
    have h1 := h1 g12
    have h2 := h2 g12
    exact hq _ _ h1 h2
  · intro c13
    have h1 := h1.2 c13
    have h2 := h2.2 c13
    obtain ⟨b14, e15, h1⟩ := h1
    obtain ⟨b16, e17, h2⟩ := h2
    cases e15.symm.trans e17
    refine ⟨b14, e15, ?_⟩
    obtain ⟨b18, e19, h1⟩ := h1
    obtain ⟨b20, e21, h2⟩ := h2
    cases e19.symm.trans e21
    refine ⟨b18, e19, ?_⟩
    obtain ⟨c22, h1⟩ := h1
    obtain ⟨_, h2⟩ := h2
    refine ⟨c22, ?_⟩
    refine cm_X1_findFit h1 h2 (fun x23 x24 h1 h2 g25 => ?_)
    have h1 := h1 g25
    have h2 := h2 g25
    refine ⟨?_, ?_⟩
    · intro c26
      have h1 := h1.1 c26
      have h2 := h2.1 c26
      exact cm_X9_lies_54 h1 h2 hq hX20
    · intro c27
      have h1 := h1.2 c27
      have h2 := h2.2 c27
      intro x29 e28
      have h1 := h1 x29 e28
      have h2 := h2 x29 e28
      exact cm_X9_lies_54 h1 h2 hq hX20
theorem fd_X9_lies_20 {Q : Int32 → HS → Prop} {v0 : Nat} {v1 : Int32} {v2 : Int32} {S : HS} (h : B_X9_lies_20 Q (P_X9_lies_20 Q) v0 v1 v2 S) : P_X9_lies_20 Q v0 v1 v2 S := fun X hX => hX v0 v1 v2 S (cmB_X9_lies_20 h h (fun _ _ a _ => a) (fun _ _ _ _ hp _ => hp X hX))
theorem uf_X9_lies_20 {Q : Int32 → HS → Prop} {v0 : Nat} {v1 : Int32} {v2 : Int32} {S : HS} (h : P_X9_lies_20 Q v0 v1 v2 S) : B_X9_lies_20 Q (P_X9_lies_20 Q) v0 v1 v2 S := h (fun v0 v1 v2 S => B_X9_lies_20 Q (P_X9_lies_20 Q) v0 v1 v2 S) (fun v0 v1 v2 S hB => cmB_X9_lies_20 hB hB (fun _ _ a _ => a) (fun _ _ _ _ hb _ => fd_X9_lies_20 hb))
theorem cm_X9_lies_20 {Q1 Q2 Q3 : Int32 → HS → Prop} {v0 : Nat} {v1 : Int32} {v2 : Int32} {S : HS} (h1 : P_X9_lies_20 Q1 v0 v1 v2 S) (h2 : P_X9_lies_20 Q2 v0 v1 v2 S) (hq : ∀ (r : Int32) (T : HS), Q1 r T → Q2 r T → Q3 r T) : P_X9_lies_20 Q3 v0 v1 v2 S := h1 (fun v0 v1 v2 S => P_X9_lies_20 Q2 v0 v1 v2 S → P_X9_lies_20 Q3 v0 v1 v2 S) (fun v0 v1 v2 S hB hp => fd_X9_lies_20 (cmB_X9_lies_20 hB (uf_X9_lies_20 hp) hq (fun _ _ _ _ hx hp => hx hp))) h2
set_option maxRecDepth 20000 in
set_option maxHeartbeats 1000000 in
theorem cm_X9_lies_0 {Q1 Q2 Q3 : Int32 → HS → Prop} {v0 : Nat} {S : HS} (h1 : P_X9_lies_0 Q1 v0 S) (h2 : P_X9_lies_0 Q2 v0 S) (hq : ∀ (r : Int32) (T : HS), Q1 r T → Q2 r T → Q3 r T) : P_X9_lies_0 Q3 v0 S := by
  delta P_X9_lies_0 at h1 h2 ⊢
  obtain ⟨c1, h1⟩ := h1
  obtain ⟨_, h2⟩ := h2
  refine ⟨c1, ?_⟩
  obtain ⟨b2, e3, h1⟩ := h1
  obtain ⟨b4, e5, h2⟩ := h2
  cases e3.symm.trans e5
  refine ⟨b2, e3, ?_⟩
  obtain ⟨c6, h1⟩ := h1
  obtain ⟨_, h2⟩ := h2
  refine ⟨c6, ?_⟩
  refine cm_X8_isTold h1 h2 (fun x7 x8 h1 h2 g9 g10 => ?_)
  have h1 := h1 g9 g10
  have h2 := h2 g9 g10
  refine ⟨?_, ?_⟩
  · intro c11
    have h1 := h1.1 c11
    have h2 := h2.1 c11
    exact cm_X9_lies_20 h1 h2 hq
  · intro c12
    have h1 := h1.2 c12
    have h2 := h2.2 c12
    refine cm_X9_refuse h1 h2 (fun x13 x14 h1 h2 g15 => ?_)
    have h1 := h1 g15
    have h2 := h2 g15
    exact hq _ _ h1 h2
theorem cm_X9_lies {Q1 Q2 Q3 : Int32 → HS → Prop} {v0 : Nat} {S : HS} (h1 : P_X9_lies v0 Q1 S) (h2 : P_X9_lies v0 Q2 S) (hq : ∀ (r : Int32) (T : HS), Q1 r T → Q2 r T → Q3 r T) : P_X9_lies v0 Q3 S := cm_X9_lies_0 h1 h2 hq
set_option maxRecDepth 20000 in
set_option maxHeartbeats 1000000 in
theorem cm_X9_mark_0 {Q1 Q2 Q3 : Int32 → HS → Prop} {v0 : Nat} {S : HS} (h1 : P_X9_mark_0 Q1 v0 S) (h2 : P_X9_mark_0 Q2 v0 S) (hq : ∀ (r : Int32) (T : HS), Q1 r T → Q2 r T → Q3 r T) : P_X9_mark_0 Q3 v0 S := by
  delta P_X9_mark_0 at h1 h2 ⊢
  obtain ⟨c1, h1⟩ := h1
  obtain ⟨_, h2⟩ := h2
  refine ⟨c1, ?_⟩
  obtain ⟨b2, e3, h1⟩ := h1
  obtain ⟨b4, e5, h2⟩ := h2
  cases e3.symm.trans e5
  refine ⟨b2, e3, ?_⟩
  obtain ⟨c6, h1⟩ := h1
  obtain ⟨_, h2⟩ := h2
  refine ⟨c6, ?_⟩
  refine cm_X0_isOn h1 h2 (fun x7 x8 h1 h2 g9 g10 => ?_)
  have h1 := h1 g9 g10
  have h2 := h2 g9 g10
  refine ⟨?_, ?_⟩
  · intro c11
    have h1 := h1.1 c11
    have h2 := h2.1 c11
    obtain ⟨b12, e13, h1⟩ := h1
    obtain ⟨b14, e15, h2⟩ := h2
    cases e13.symm.trans e15
    refine ⟨b12, e13, ?_⟩
    obtain ⟨c16, h1⟩ := h1
    obtain ⟨_, h2⟩ := h2
    refine ⟨c16, ?_⟩
    refine cm_X0_setMark h1 h2 (fun x17 x18 h1 h2 g19 => ?_)
    have h1 := h1 g19
    have h2 := h2 g19
    refine ⟨?_, ?_⟩
    · intro c20
      have h1 := h1.1 c20
      have h2 := h2.1 c20
      refine cm_X9_grant h1 h2 (fun x21 x22 h1 h2 g23 => ?_)
      have h1 := h1 g23
      have h2 := h2 g23
      exact hq _ _ h1 h2
    · intro c24
      have h1 := h1.2 c24
      have h2 := h2.2 c24
      refine cm_X9_refuse h1 h2 (fun x25 x26 h1 h2 g27 => ?_)
      have h1 := h1 g27
      have h2 := h2 g27
      exact hq _ _ h1 h2
  · intro c28
    have h1 := h1.2 c28
    have h2 := h2.2 c28
    refine cm_X9_refuse h1 h2 (fun x29 x30 h1 h2 g31 => ?_)
    have h1 := h1 g31
    have h2 := h2 g31
    exact hq _ _ h1 h2
theorem cm_X9_mark {Q1 Q2 Q3 : Int32 → HS → Prop} {v0 : Nat} {S : HS} (h1 : P_X9_mark v0 Q1 S) (h2 : P_X9_mark v0 Q2 S) (hq : ∀ (r : Int32) (T : HS), Q1 r T → Q2 r T → Q3 r T) : P_X9_mark v0 Q3 S := cm_X9_mark_0 h1 h2 hq
set_option maxRecDepth 20000 in
set_option maxHeartbeats 1000000 in
theorem cm_X9_mean_0 {Q1 Q2 Q3 : Int64 → HS → Prop} {v0 : Nat} {v1 : Int32} {v2 : Int32} {v3 : Int32} {v4 : Int32} {v5 : Int32} {v6 : Int32} {S : HS} (h1 : P_X9_mean_0 Q1 v0 v1 v2 v3 v4 v5 v6 S) (h2 : P_X9_mean_0 Q2 v0 v1 v2 v3 v4 v5 v6 S) (hq : ∀ (r : Int64) (T : HS), Q1 r T → Q2 r T → Q3 r T) : P_X9_mean_0 Q3 v0 v1 v2 v3 v4 v5 v6 S := by
  delta P_X9_mean_0 at h1 h2 ⊢
  obtain ⟨c1, h1⟩ := h1
  obtain ⟨_, h2⟩ := h2
  refine ⟨c1, ?_⟩
  refine cm_X9_legTrouble h1 h2 (fun x2 x3 h1 h2 g4 => ?_)
  have h1 := h1 g4
  have h2 := h2 g4
  refine cm_X9_refusedBy h1 h2 (fun x5 x6 h1 h2 g7 g8 => ?_)
  have h1 := h1 g7 g8
  have h2 := h2 g7 g8
  refine ⟨?_, ?_⟩
  · intro c9
    have h1 := h1.1 c9
    have h2 := h2.1 c9
    obtain ⟨b10, e11, h1⟩ := h1
    obtain ⟨b12, e13, h2⟩ := h2
    cases e11.symm.trans e13
    refine ⟨b10, e11, ?_⟩
    obtain ⟨b14, e15, h1⟩ := h1
    obtain ⟨b16, e17, h2⟩ := h2
    cases e15.symm.trans e17
    refine ⟨b14, e15, ?_⟩
    obtain ⟨c18, h1⟩ := h1
    obtain ⟨_, h2⟩ := h2
    refine ⟨c18, ?_⟩
    obtain ⟨b19, e20, h1⟩ := h1
    obtain ⟨b21, e22, h2⟩ := h2
    cases e20.symm.trans e22
    refine ⟨b19, e20, ?_⟩
    obtain ⟨c23, h1⟩ := h1
    obtain ⟨_, h2⟩ := h2
    refine ⟨c23, ?_⟩
    obtain ⟨c24, h1⟩ := h1
    obtain ⟨_, h2⟩ := h2
    refine ⟨c24, ?_⟩
    obtain ⟨b25, e26, h1⟩ := h1
    obtain ⟨b27, e28, h2⟩ := h2
    cases e26.symm.trans e28
    refine ⟨b25, e26, ?_⟩
    obtain ⟨b29, e30, h1⟩ := h1
    obtain ⟨b31, e32, h2⟩ := h2
    cases e30.symm.trans e32
    refine ⟨b29, e30, ?_⟩
    obtain ⟨c33, h1⟩ := h1
    obtain ⟨_, h2⟩ := h2
    refine ⟨c33, ?_⟩
    obtain ⟨b34, e35, h1⟩ := h1
    obtain ⟨b36, e37, h2⟩ := h2
    cases e35.symm.trans e37
    refine ⟨b34, e35, ?_⟩
    obtain ⟨c38, h1⟩ := h1
    obtain ⟨_, h2⟩ := h2
    refine ⟨c38, ?_⟩
    obtain ⟨c39, h1⟩ := h1
    obtain ⟨_, h2⟩ := h2
    refine ⟨c39, ?_⟩
    obtain ⟨b40, e41, h1⟩ := h1
    obtain ⟨b42, e43, h2⟩ := h2
    cases e41.symm.trans e43
    refine ⟨b40, e41, ?_⟩
    obtain ⟨b44, e45, h1⟩ := h1
    obtain ⟨b46, e47, h2⟩ := h2
    cases e45.symm.trans e47
    refine ⟨b44, e45, ?_⟩
    obtain ⟨c48, h1⟩ := h1
    obtain ⟨_, h2⟩ := h2
    refine ⟨c48, ?_⟩
    obtain ⟨b49, e50, h1⟩ := h1
    obtain ⟨b51, e52, h2⟩ := h2
    cases e50.symm.trans e52
    refine ⟨b49, e50, ?_⟩
    obtain ⟨c53, h1⟩ := h1
    obtain ⟨_, h2⟩ := h2
    refine ⟨c53, ?_⟩
    obtain ⟨c54, h1⟩ := h1
    obtain ⟨_, h2⟩ := h2
    refine ⟨c54, ?_⟩
    obtain ⟨b55, e56, h1⟩ := h1
    obtain ⟨b57, e58, h2⟩ := h2
    cases e56.symm.trans e58
    refine ⟨b55, e56, ?_⟩
    obtain ⟨c59, h1⟩ := h1
    obtain ⟨_, h2⟩ := h2
    refine ⟨c59, ?_⟩
    refine cm_X1_wetOf h1 h2 (fun x60 x61 h1 h2 g62 => ?_)
    have h1 := h1 g62
    have h2 := h2 g62
    obtain ⟨b63, e64, h1⟩ := h1
    obtain ⟨b65, e66, h2⟩ := h2
    cases e64.symm.trans e66
    refine ⟨b63, e64, ?_⟩
    obtain ⟨c67, h1⟩ := h1
    obtain ⟨_, h2⟩ := h2
    refine ⟨c67, ?_⟩
    obtain ⟨b68, e69, h1⟩ := h1
    obtain ⟨b70, e71, h2⟩ := h2
    cases e69.symm.trans e71
    refine ⟨b68, e69, ?_⟩
    obtain ⟨c72, h1⟩ := h1
    obtain ⟨_, h2⟩ := h2
    refine ⟨c72, ?_⟩
    obtain ⟨c73, h1⟩ := h1
    obtain ⟨_, h2⟩ := h2
    refine ⟨c73, ?_⟩
    obtain ⟨b74, e75, h1⟩ := h1
    obtain ⟨b76, e77, h2⟩ := h2
    cases e75.symm.trans e77
    refine ⟨b74, e75, ?_⟩
    obtain ⟨c78, h1⟩ := h1
    obtain ⟨_, h2⟩ := h2
    refine ⟨c78, ?_⟩
    intro x80 e79
    have h1 := h1 x80 e79
    have h2 := h2 x80 e79
    refine cm_X9_fraction h1 h2 (fun x81 x82 h1 h2 g83 => ?_)
    have h1 := h1 g83
    have h2 := h2 g83
    exact hq _ _ h1 h2
  · intro c84
    have h1 := h1.2 c84
    have h2 := h2.2 c84
    exact hq _ _ h1 h2
theorem cm_X9_mean {Q1 Q2 Q3 : Int64 → HS → Prop} {v0 : Nat} {v1 : Int32} {v2 : Int32} {v3 : Int32} {v4 : Int32} {v5 : Int32} {v6 : Int32} {S : HS} (h1 : P_X9_mean v0 v1 v2 v3 v4 v5 v6 Q1 S) (h2 : P_X9_mean v0 v1 v2 v3 v4 v5 v6 Q2 S) (hq : ∀ (r : Int64) (T : HS), Q1 r T → Q2 r T → Q3 r T) : P_X9_mean v0 v1 v2 v3 v4 v5 v6 Q3 S := cm_X9_mean_0 h1 h2 hq
set_option maxRecDepth 20000 in
set_option maxHeartbeats 1000000 in
theorem cm_X9_minutes_22 {Q1 Q2 Q3 : Int32 → HS → Prop} {v0 : Nat} {S : HS} (h1 : P_X9_minutes_22 Q1 v0 S) (h2 : P_X9_minutes_22 Q2 v0 S) (hq : ∀ (r : Int32) (T : HS), Q1 r T → Q2 r T → Q3 r T) : P_X9_minutes_22 Q3 v0 S := by
  delta P_X9_minutes_22 at h1 h2 ⊢
  obtain ⟨c1, h1⟩ := h1
  obtain ⟨_, h2⟩ := h2
  refine ⟨c1, ?_⟩
  refine cm_X9_refuse h1 h2 (fun x2 x3 h1 h2 g4 => ?_)
  have h1 := h1 g4
  have h2 := h2 g4
  exact hq _ _ h1 h2
set_option maxRecDepth 20000 in
set_option maxHeartbeats 1000000 in
theorem cm_X9_minutes_0 {Q1 Q2 Q3 : Int32 → HS → Prop} {v0 : Nat} {v1 : Int32} {v2 : Int32} {v3 : Int32} {S : HS} (h1 : P_X9_minutes_0 Q1 v0 v1 v2 v3 S) (h2 : P_X9_minutes_0 Q2 v0 v1 v2 v3 S) (hq : ∀ (r : Int32) (T : HS), Q1 r T → Q2 r T → Q3 r T) : P_X9_minutes_0 Q3 v0 v1 v2 v3 S := by
  delta P_X9_minutes_0 at h1 h2 ⊢
  obtain ⟨c1, h1⟩ := h1
  obtain ⟨_, h2⟩ := h2
  refine ⟨c1, ?_⟩
  obtain ⟨b2, e3, h1⟩ := h1
  obtain ⟨b4, e5, h2⟩ := h2
  cases e3.symm.trans e5
  refine ⟨b2, e3, ?_⟩
  obtain ⟨c6, h1⟩ := h1
  obtain ⟨_, h2⟩ := h2
  refine ⟨c6, ?_⟩
  refine cm_X8_hasWalker h1 h2 (fun x7 x8 h1 h2 g9 g10 => ?_)
  have h1 := h1 g9 g10
  have h2 := h2 g9 g10
  refine ⟨?_, ?_⟩
  · intro c11
    have h1 := h1.1 c11
    have h2 := h2.1 c11
    exact cm_X9_minutes_22 h1 h2 hq
  · intro c12
    have h1 := h1.2 c12
    have h2 := h2.2 c12
    obtain ⟨b13, e14, h1⟩ := h1
    obtain ⟨b15, e16, h2⟩ := h2
    cases e14.symm.trans e16
    refine ⟨b13, e14, ?_⟩
    obtain ⟨c17, h1⟩ := h1
    obtain ⟨_, h2⟩ := h2
    refine ⟨c17, ?_⟩
    refine cm_X8_hasRoad h1 h2 (fun x18 x19 h1 h2 g20 g21 => ?_)
    have h1 := h1 g20 g21
    have h2 := h2 g20 g21
    refine ⟨?_, ?_⟩
    · intro c22
      have h1 := h1.1 c22
      have h2 := h2.1 c22
      obtain ⟨b23, e24, h1⟩ := h1
      obtain ⟨b25, e26, h2⟩ := h2
      cases e24.symm.trans e26
      refine ⟨b23, e24, ?_⟩
      obtain ⟨c27, h1⟩ := h1
      obtain ⟨_, h2⟩ := h2
      refine ⟨c27, ?_⟩
      obtain ⟨b28, e29, h1⟩ := h1
      obtain ⟨b30, e31, h2⟩ := h2
      cases e29.symm.trans e31
      refine ⟨b28, e29, ?_⟩
      obtain ⟨c32, h1⟩ := h1
      obtain ⟨_, h2⟩ := h2
      refine ⟨c32, ?_⟩
      obtain ⟨c33, h1⟩ := h1
      obtain ⟨_, h2⟩ := h2
      refine ⟨c33, ?_⟩
      obtain ⟨b34, e35, h1⟩ := h1
      obtain ⟨b36, e37, h2⟩ := h2
      cases e35.symm.trans e37
      refine ⟨b34, e35, ?_⟩
      obtain ⟨c38, h1⟩ := h1
      obtain ⟨_, h2⟩ := h2
      refine ⟨c38, ?_⟩
      refine cm_X6_canGo h1 h2 (fun x39 x40 h1 h2 g41 g42 => ?_)
      have h1 := h1 g41 g42
      have h2 := h2 g41 g42
      refine ⟨?_, ?_⟩
      · intro c43
        have h1 := h1.1 c43
        have h2 := h2.1 c43
        obtain ⟨b44, e45, h1⟩ := h1
        obtain ⟨b46, e47, h2⟩ := h2
        cases e45.symm.trans e47
        refine ⟨b44, e45, ?_⟩
        obtain ⟨c48, h1⟩ := h1
        obtain ⟨_, h2⟩ := h2
        refine ⟨c48, ?_⟩
        obtain ⟨b49, e50, h1⟩ := h1
        obtain ⟨b51, e52, h2⟩ := h2
        cases e50.symm.trans e52
        refine ⟨b49, e50, ?_⟩
        obtain ⟨c53, h1⟩ := h1
        obtain ⟨_, h2⟩ := h2
        refine ⟨c53, ?_⟩
        obtain ⟨c54, h1⟩ := h1
        obtain ⟨_, h2⟩ := h2
        refine ⟨c54, ?_⟩
        obtain ⟨b55, e56, h1⟩ := h1
        obtain ⟨b57, e58, h2⟩ := h2
        cases e56.symm.trans e58
        refine ⟨b55, e56, ?_⟩
        obtain ⟨c59, h1⟩ := h1
        obtain ⟨_, h2⟩ := h2
        refine ⟨c59, ?_⟩
        refine cm_X5_minutesAt h1 h2 (fun x60 x61 h1 h2 g62 => ?_)
        have h1 := h1 g62
        have h2 := h2 g62
        refine cm_X9_grant h1 h2 (fun x63 x64 h1 h2 g65 => ?_)
        have h1 := h1 g65
        have h2 := h2 g65
        exact hq _ _ h1 h2
      · intro c66
        have h1 := h1.2 c66
        have h2 := h2.2 c66
        refine cm_X9_refuse h1 h2 (fun x67 x68 h1 h2 g69 => ?_)
        have h1 := h1 g69
        have h2 := h2 g69
        exact hq _ _ h1 h2
    · intro c70
      have h1 := h1.2 c70
      have h2 := h2.2 c70
      exact cm_X9_minutes_22 h1 h2 hq
theorem cm_X9_minutes {Q1 Q2 Q3 : Int32 → HS → Prop} {v0 : Nat} {v1 : Int32} {v2 : Int32} {v3 : Int32} {S : HS} (h1 : P_X9_minutes v0 v1 v2 v3 Q1 S) (h2 : P_X9_minutes v0 v1 v2 v3 Q2 S) (hq : ∀ (r : Int32) (T : HS), Q1 r T → Q2 r T → Q3 r T) : P_X9_minutes v0 v1 v2 v3 Q3 S := cm_X9_minutes_0 h1 h2 hq
set_option maxRecDepth 20000 in
set_option maxHeartbeats 1000000 in
theorem cm_X9_off_128 {Q1 Q2 Q3 : Int32 → HS → Prop} {X62_1 X62_2 X62_3 : Nat → Int32 → Int32 → Int32 → Int32 → HS → Prop} {v0 : Nat} {v2 : Int32} {v4 : Int32} {v6 : Int32} {v7 : Int32} {S : HS} (h1 : P_X9_off_128 Q1 X62_1 v0 v2 v4 v6 v7 S) (h2 : P_X9_off_128 Q2 X62_2 v0 v2 v4 v6 v7 S) (hq : ∀ (r : Int32) (T : HS), Q1 r T → Q2 r T → Q3 r T) (hX62 : ∀ (u0 : Nat) (u1 : Int32) (u2 : Int32) (u3 : Int32) (u4 : Int32) (u5 : HS), X62_1 u0 u1 u2 u3 u4 u5 → X62_2 u0 u1 u2 u3 u4 u5 → X62_3 u0 u1 u2 u3 u4 u5) : P_X9_off_128 Q3 X62_3 v0 v2 v4 v6 v7 S := by
  delta P_X9_off_128 at h1 h2 ⊢
  intro x2 e1
  have h1 := h1 x2 e1
  have h2 := h2 x2 e1
  exact hX62 _ _ _ _ _ _ h1 h2
set_option maxRecDepth 20000 in
set_option maxHeartbeats 1000000 in
theorem cm_X9_off_104 {Q1 Q2 Q3 : Int32 → HS → Prop} {X62_1 X62_2 X62_3 : Nat → Int32 → Int32 → Int32 → Int32 → HS → Prop} {v0 : Nat} {v2 : Int32} {v4 : Int32} {v6 : Int32} {v7 : Int32} {s0 : Int32} {S : HS} (h1 : P_X9_off_104 Q1 X62_1 v0 v2 v4 v6 v7 s0 S) (h2 : P_X9_off_104 Q2 X62_2 v0 v2 v4 v6 v7 s0 S) (hq : ∀ (r : Int32) (T : HS), Q1 r T → Q2 r T → Q3 r T) (hX62 : ∀ (u0 : Nat) (u1 : Int32) (u2 : Int32) (u3 : Int32) (u4 : Int32) (u5 : HS), X62_1 u0 u1 u2 u3 u4 u5 → X62_2 u0 u1 u2 u3 u4 u5 → X62_3 u0 u1 u2 u3 u4 u5) : P_X9_off_104 Q3 X62_3 v0 v2 v4 v6 v7 s0 S := by
  delta P_X9_off_104 at h1 h2 ⊢
  obtain ⟨c1, h1⟩ := h1
  obtain ⟨_, h2⟩ := h2
  refine ⟨c1, ?_⟩
  obtain ⟨b2, e3, h1⟩ := h1
  obtain ⟨b4, e5, h2⟩ := h2
  cases e3.symm.trans e5
  refine ⟨b2, e3, ?_⟩
  obtain ⟨c6, h1⟩ := h1
  obtain ⟨_, h2⟩ := h2
  refine ⟨c6, ?_⟩
  refine cm_X7_isOpen h1 h2 (fun x7 x8 h1 h2 g9 g10 => ?_)
  have h1 := h1 g9 g10
  have h2 := h2 g9 g10
  refine ⟨?_, ?_⟩
  · intro c11
    have h1 := h1.1 c11
    have h2 := h2.1 c11
    exact cm_X9_off_128 h1 h2 hq hX62
  · intro c12
    have h1 := h1.2 c12
    have h2 := h2.2 c12
    refine ⟨?_, ?_⟩
    · intro c13
      have h1 := h1.1 c13
      have h2 := h2.1 c13
      exact cm_X9_off_128 h1 h2 hq hX62
    · intro c14
      have h1 := h1.2 c14
      have h2 := h2.2 c14
      exact cm_X9_off_128 h1 h2 hq hX62
set_option maxRecDepth 20000 in
set_option maxHeartbeats 1000000 in
theorem cm_X9_off_99 {Q1 Q2 Q3 : Int32 → HS → Prop} {X62_1 X62_2 X62_3 : Nat → Int32 → Int32 → Int32 → Int32 → HS → Prop} {v0 : Nat} {v2 : Int32} {v4 : Int32} {v6 : Int32} {v7 : Int32} {S : HS} (h1 : P_X9_off_99 Q1 X62_1 v0 v2 v4 v6 v7 S) (h2 : P_X9_off_99 Q2 X62_2 v0 v2 v4 v6 v7 S) (hq : ∀ (r : Int32) (T : HS), Q1 r T → Q2 r T → Q3 r T) (hX62 : ∀ (u0 : Nat) (u1 : Int32) (u2 : Int32) (u3 : Int32) (u4 : Int32) (u5 : HS), X62_1 u0 u1 u2 u3 u4 u5 → X62_2 u0 u1 u2 u3 u4 u5 → X62_3 u0 u1 u2 u3 u4 u5) : P_X9_off_99 Q3 X62_3 v0 v2 v4 v6 v7 S := by
  delta P_X9_off_99 at h1 h2 ⊢
  exact cm_X9_off_104 h1 h2 hq hX62
set_option maxRecDepth 20000 in
set_option maxHeartbeats 1000000 in
theorem cmB_X9_off_62 {Q1 Q2 Q3 : Int32 → HS → Prop} {X62_1 X62_2 X62_3 : Nat → Int32 → Int32 → Int32 → Int32 → HS → Prop} {v0 : Nat} {v2 : Int32} {v4 : Int32} {v6 : Int32} {v7 : Int32} {S : HS} (h1 : B_X9_off_62 Q1 X62_1 v0 v2 v4 v6 v7 S) (h2 : B_X9_off_62 Q2 X62_2 v0 v2 v4 v6 v7 S) (hq : ∀ (r : Int32) (T : HS), Q1 r T → Q2 r T → Q3 r T) (hX62 : ∀ (u0 : Nat) (u1 : Int32) (u2 : Int32) (u3 : Int32) (u4 : Int32) (u5 : HS), X62_1 u0 u1 u2 u3 u4 u5 → X62_2 u0 u1 u2 u3 u4 u5 → X62_3 u0 u1 u2 u3 u4 u5) : B_X9_off_62 Q3 X62_3 v0 v2 v4 v6 v7 S := by
  delta B_X9_off_62 at h1 h2 ⊢
  refine ⟨?_, ?_⟩
  · intro c1
    have h1 := h1.1 c1
    have h2 := h2.1 c1
    refine ⟨?_, ?_⟩
    · intro c2
      have h1 := h1.1 c2
      have h2 := h2.1 c2
      exact hq _ _ h1 h2
    · intro c3
      have h1 := h1.2 c3
      have h2 := h2.2 c3
      obtain ⟨c4, h1⟩ := h1
      obtain ⟨_, h2⟩ := h2
      refine ⟨c4, ?_⟩
      refine cm_X9_refuse h1 h2 (fun x5 x6 h1 h2 g7 => ?_)
      have h1 := h1 g7
      have h2 := h2 g7
      exact hq _ _ h1 h2
  · intro c8
    have h1 := h1.2 c8
    have h2 := h2.2 c8
    refine ⟨?_, ?_⟩
    · intro c9
      have h1 := h1.1 c9
      have h2 := h2.1 c9
      exact cm_X9_off_99 h1 h2 hq hX62
    · intro c10
      have h1 := h1.2 c10
      have h2 := h2.2 c10
      obtain ⟨c11, h1⟩ := h1
      obtain ⟨_, h2⟩ := h2
      refine ⟨c11, ?_⟩
      obtain ⟨b12, e13, h1⟩ := h1
      obtain ⟨b14, e15, h2⟩ := h2
      cases e13.symm.trans e15
      refine ⟨b12, e13, ?_⟩
      obtain ⟨c16, h1⟩ := h1
      obtain ⟨_, h2⟩ := h2
      refine ⟨c16, ?_⟩
      refine cm_X7_meanFrom h1 h2 (fun x17 x18 h1 h2 g19 => ?_)
      have h1 := h1 g19
      have h2 := h2 g19
      obtain ⟨b20, e21, h1⟩ := h1
      obtain ⟨b22, e23, h2⟩ := h2
      cases e21.symm.trans e23
      refine ⟨b20, e21, ?_⟩
      obtain ⟨c24, h1⟩ := h1
      obtain ⟨_, h2⟩ := h2
      refine ⟨c24, ?_⟩
      refine cm_X7_meanFrom h1 h2 (fun x25 x26 h1 h2 g27 => ?_)
      have h1 := h1 g27
      have h2 := h2 g27
      refine ⟨?_, ?_⟩
      · intro c28
        have h1 := h1.1 c28
        have h2 := h2.1 c28
        exact cm_X9_off_104 h1 h2 hq hX62
      · intro c29
        have h1 := h1.2 c29
        have h2 := h2.2 c29
        exact cm_X9_off_99 h1 h2 hq hX62
theorem fd_X9_off_62 {Q : Int32 → HS → Prop} {v0 : Nat} {v2 : Int32} {v4 : Int32} {v6 : Int32} {v7 : Int32} {S : HS} (h : B_X9_off_62 Q (P_X9_off_62 Q) v0 v2 v4 v6 v7 S) : P_X9_off_62 Q v0 v2 v4 v6 v7 S := fun X hX => hX v0 v2 v4 v6 v7 S (cmB_X9_off_62 h h (fun _ _ a _ => a) (fun _ _ _ _ _ _ hp _ => hp X hX))
theorem uf_X9_off_62 {Q : Int32 → HS → Prop} {v0 : Nat} {v2 : Int32} {v4 : Int32} {v6 : Int32} {v7 : Int32} {S : HS} (h : P_X9_off_62 Q v0 v2 v4 v6 v7 S) : B_X9_off_62 Q (P_X9_off_62 Q) v0 v2 v4 v6 v7 S := h (fun v0 v2 v4 v6 v7 S => B_X9_off_62 Q (P_X9_off_62 Q) v0 v2 v4 v6 v7 S) (fun v0 v2 v4 v6 v7 S hB => cmB_X9_off_62 hB hB (fun _ _ a _ => a) (fun _ _ _ _ _ _ hb _ => fd_X9_off_62 hb))
theorem cm_X9_off_62 {Q1 Q2 Q3 : Int32 → HS → Prop} {v0 : Nat} {v2 : Int32} {v4 : Int32} {v6 : Int32} {v7 : Int32} {S : HS} (h1 : P_X9_off_62 Q1 v0 v2 v4 v6 v7 S) (h2 : P_X9_off_62 Q2 v0 v2 v4 v6 v7 S) (hq : ∀ (r : Int32) (T : HS), Q1 r T → Q2 r T → Q3 r T) : P_X9_off_62 Q3 v0 v2 v4 v6 v7 S := h1 (fun v0 v2 v4 v6 v7 S => P_X9_off_62 Q2 v0 v2 v4 v6 v7 S → P_X9_off_62 Q3 v0 v2 v4 v6 v7 S) (fun v0 v2 v4 v6 v7 S hB hp => fd_X9_off_62 (cmB_X9_off_62 hB (uf_X9_off_62 hp) hq (fun _ _ _ _ _ _ hx hp => hx hp))) h2
set_option maxRecDepth 20000 in
set_option maxHeartbeats 1000000 in
theorem cm_X9_off_25 {Q1 Q2 Q3 : Int32 → HS → Prop} {v0 : Nat} {v1 : Int32} {v2 : Int32} {v3 : Int32} {v4 : Int32} {v5 : Int32} {S : HS} (h1 : P_X9_off_25 Q1 v0 v1 v2 v3 v4 v5 S) (h2 : P_X9_off_25 Q2 v0 v1 v2 v3 v4 v5 S) (hq : ∀ (r : Int32) (T : HS), Q1 r T → Q2 r T → Q3 r T) : P_X9_off_25 Q3 v0 v1 v2 v3 v4 v5 S := by
  delta P_X9_off_25 at h1 h2 ⊢
  obtain ⟨c1, h1⟩ := h1
  obtain ⟨_, h2⟩ := h2
  refine ⟨c1, ?_⟩
  refine cm_X9_refusedBy h1 h2 (fun x2 x3 h1 h2 g4 g5 => ?_)
  have h1 := h1 g4 g5
  have h2 := h2 g4 g5
  refine ⟨?_, ?_⟩
  · intro c6
    have h1 := h1.1 c6
    have h2 := h2.1 c6
    obtain ⟨b7, e8, h1⟩ := h1
    obtain ⟨b9, e10, h2⟩ := h2
    cases e8.symm.trans e10
    refine ⟨b7, e8, ?_⟩
    obtain ⟨b11, e12, h1⟩ := h1
    obtain ⟨b13, e14, h2⟩ := h2
    cases e12.symm.trans e14
    refine ⟨b11, e12, ?_⟩
    obtain ⟨b15, e16, h1⟩ := h1
    obtain ⟨b17, e18, h2⟩ := h2
    cases e16.symm.trans e18
    refine ⟨b15, e16, ?_⟩
    obtain ⟨c19, h1⟩ := h1
    obtain ⟨_, h2⟩ := h2
    refine ⟨c19, ?_⟩
    refine cm_X7_reckon h1 h2 (fun x20 h1 h2 g21 => ?_)
    have h1 := h1 g21
    have h2 := h2 g21
    exact cm_X9_off_62 h1 h2 hq
  · intro c22
    have h1 := h1.2 c22
    have h2 := h2.2 c22
    exact hq _ _ h1 h2
set_option maxRecDepth 20000 in
set_option maxHeartbeats 1000000 in
theorem cm_X9_off_0 {Q1 Q2 Q3 : Int32 → HS → Prop} {v0 : Nat} {v1 : Int32} {v2 : Int32} {v3 : Int32} {v4 : Int32} {S : HS} (h1 : P_X9_off_0 Q1 v0 v1 v2 v3 v4 S) (h2 : P_X9_off_0 Q2 v0 v1 v2 v3 v4 S) (hq : ∀ (r : Int32) (T : HS), Q1 r T → Q2 r T → Q3 r T) : P_X9_off_0 Q3 v0 v1 v2 v3 v4 S := by
  delta P_X9_off_0 at h1 h2 ⊢
  obtain ⟨c1, h1⟩ := h1
  obtain ⟨_, h2⟩ := h2
  refine ⟨c1, ?_⟩
  refine cm_X9_placesTrouble h1 h2 (fun x2 x3 h1 h2 g4 => ?_)
  have h1 := h1 g4
  have h2 := h2 g4
  refine ⟨?_, ?_⟩
  · intro c5
    have h1 := h1.1 c5
    have h2 := h2.1 c5
    exact cm_X9_off_25 h1 h2 hq
  · intro c6
    have h1 := h1.2 c6
    have h2 := h2.2 c6
    refine cm_X9_isTill h1 h2 (fun x7 x8 h1 h2 g9 g10 => ?_)
    have h1 := h1 g9 g10
    have h2 := h2 g9 g10
    refine ⟨?_, ?_⟩
    · intro c11
      have h1 := h1.1 c11
      have h2 := h2.1 c11
      exact cm_X9_off_25 h1 h2 hq
    · intro c12
      have h1 := h1.2 c12
      have h2 := h2.2 c12
      exact cm_X9_off_25 h1 h2 hq
theorem cm_X9_off {Q1 Q2 Q3 : Int32 → HS → Prop} {v0 : Nat} {v1 : Int32} {v2 : Int32} {v3 : Int32} {v4 : Int32} {S : HS} (h1 : P_X9_off v0 v1 v2 v3 v4 Q1 S) (h2 : P_X9_off v0 v1 v2 v3 v4 Q2 S) (hq : ∀ (r : Int32) (T : HS), Q1 r T → Q2 r T → Q3 r T) : P_X9_off v0 v1 v2 v3 v4 Q3 S := cm_X9_off_0 h1 h2 hq
set_option maxRecDepth 20000 in
set_option maxHeartbeats 1000000 in
theorem cm_X9_road_20 {Q1 Q2 Q3 : Int32 → HS → Prop} {v0 : Nat} {S : HS} (h1 : P_X9_road_20 Q1 v0 S) (h2 : P_X9_road_20 Q2 v0 S) (hq : ∀ (r : Int32) (T : HS), Q1 r T → Q2 r T → Q3 r T) : P_X9_road_20 Q3 v0 S := by
  delta P_X9_road_20 at h1 h2 ⊢
  obtain ⟨c1, h1⟩ := h1
  obtain ⟨_, h2⟩ := h2
  refine ⟨c1, ?_⟩
  refine cm_X9_refuse h1 h2 (fun x2 x3 h1 h2 g4 => ?_)
  have h1 := h1 g4
  have h2 := h2 g4
  exact hq _ _ h1 h2
set_option maxRecDepth 20000 in
set_option maxHeartbeats 1000000 in
theorem cm_X9_road_0 {Q1 Q2 Q3 : Int32 → HS → Prop} {v0 : Nat} {v1 : Int32} {v2 : Int32} {S : HS} (h1 : P_X9_road_0 Q1 v0 v1 v2 S) (h2 : P_X9_road_0 Q2 v0 v1 v2 S) (hq : ∀ (r : Int32) (T : HS), Q1 r T → Q2 r T → Q3 r T) : P_X9_road_0 Q3 v0 v1 v2 S := by
  delta P_X9_road_0 at h1 h2 ⊢
  obtain ⟨c1, h1⟩ := h1
  obtain ⟨_, h2⟩ := h2
  refine ⟨c1, ?_⟩
  obtain ⟨b2, e3, h1⟩ := h1
  obtain ⟨b4, e5, h2⟩ := h2
  cases e3.symm.trans e5
  refine ⟨b2, e3, ?_⟩
  obtain ⟨c6, h1⟩ := h1
  obtain ⟨_, h2⟩ := h2
  refine ⟨c6, ?_⟩
  refine cm_X8_hasRoad h1 h2 (fun x7 x8 h1 h2 g9 g10 => ?_)
  have h1 := h1 g9 g10
  have h2 := h2 g9 g10
  refine ⟨?_, ?_⟩
  · intro c11
    have h1 := h1.1 c11
    have h2 := h2.1 c11
    exact cm_X9_road_20 h1 h2 hq
  · intro c12
    have h1 := h1.2 c12
    have h2 := h2.2 c12
    refine ⟨?_, ?_⟩
    · intro c13
      have h1 := h1.1 c13
      have h2 := h2.1 c13
      exact cm_X9_road_20 h1 h2 hq
    · intro c14
      have h1 := h1.2 c14
      have h2 := h2.2 c14
      refine ⟨?_, ?_⟩
      · intro c15
        have h1 := h1.1 c15
        have h2 := h2.1 c15
        obtain ⟨b16, e17, h1⟩ := h1
        obtain ⟨b18, e19, h2⟩ := h2
        cases e17.symm.trans e19
        refine ⟨b16, e17, ?_⟩
        obtain ⟨c20, h1⟩ := h1
        obtain ⟨_, h2⟩ := h2
        refine ⟨c20, ?_⟩
        obtain ⟨b21, e22, h1⟩ := h1
        obtain ⟨b23, e24, h2⟩ := h2
        cases e22.symm.trans e24
        refine ⟨b21, e22, ?_⟩
        obtain ⟨c25, h1⟩ := h1
        obtain ⟨_, h2⟩ := h2
        refine ⟨c25, ?_⟩
        obtain ⟨c26, h1⟩ := h1
        obtain ⟨_, h2⟩ := h2
        refine ⟨c26, ?_⟩
        obtain ⟨b27, e28, h1⟩ := h1
        obtain ⟨b29, e30, h2⟩ := h2
        cases e28.symm.trans e30
        refine ⟨b27, e28, ?_⟩
        obtain ⟨c31, h1⟩ := h1
        obtain ⟨_, h2⟩ := h2
        refine ⟨c31, ?_⟩
        refine cm_X5_tell h1 h2 (fun x32 x33 h1 h2 g34 => ?_)
        have h1 := h1 g34
        have h2 := h2 g34
        refine cm_X9_grant h1 h2 (fun x35 x36 h1 h2 g37 => ?_)
        have h1 := h1 g37
        have h2 := h2 g37
        exact hq _ _ h1 h2
      · intro c38
        have h1 := h1.2 c38
        have h2 := h2.2 c38
        exact cm_X9_road_20 h1 h2 hq
theorem cm_X9_road {Q1 Q2 Q3 : Int32 → HS → Prop} {v0 : Nat} {v1 : Int32} {v2 : Int32} {S : HS} (h1 : P_X9_road v0 v1 v2 Q1 S) (h2 : P_X9_road v0 v1 v2 Q2 S) (hq : ∀ (r : Int32) (T : HS), Q1 r T → Q2 r T → Q3 r T) : P_X9_road v0 v1 v2 Q3 S := cm_X9_road_0 h1 h2 hq
set_option maxRecDepth 20000 in
set_option maxHeartbeats 1000000 in
theorem cm_X9_round_0 {Q1 Q2 Q3 : Int64 → HS → Prop} {v0 : Nat} {v1 : Int32} {v2 : Int32} {v3 : Int32} {v4 : Int32} {S : HS} (h1 : P_X9_round_0 Q1 v0 v1 v2 v3 v4 S) (h2 : P_X9_round_0 Q2 v0 v1 v2 v3 v4 S) (hq : ∀ (r : Int64) (T : HS), Q1 r T → Q2 r T → Q3 r T) : P_X9_round_0 Q3 v0 v1 v2 v3 v4 S := by
  delta P_X9_round_0 at h1 h2 ⊢
  obtain ⟨c1, h1⟩ := h1
  obtain ⟨_, h2⟩ := h2
  refine ⟨c1, ?_⟩
  refine cm_X9_tripTrouble h1 h2 (fun x2 x3 h1 h2 g4 => ?_)
  have h1 := h1 g4
  have h2 := h2 g4
  refine cm_X9_refusedBy h1 h2 (fun x5 x6 h1 h2 g7 g8 => ?_)
  have h1 := h1 g7 g8
  have h2 := h2 g7 g8
  refine ⟨?_, ?_⟩
  · intro c9
    have h1 := h1.1 c9
    have h2 := h2.1 c9
    obtain ⟨b10, e11, h1⟩ := h1
    obtain ⟨b12, e13, h2⟩ := h2
    cases e11.symm.trans e13
    refine ⟨b10, e11, ?_⟩
    obtain ⟨b14, e15, h1⟩ := h1
    obtain ⟨b16, e17, h2⟩ := h2
    cases e15.symm.trans e17
    refine ⟨b14, e15, ?_⟩
    obtain ⟨c18, h1⟩ := h1
    obtain ⟨_, h2⟩ := h2
    refine ⟨c18, ?_⟩
    obtain ⟨b19, e20, h1⟩ := h1
    obtain ⟨b21, e22, h2⟩ := h2
    cases e20.symm.trans e22
    refine ⟨b19, e20, ?_⟩
    obtain ⟨c23, h1⟩ := h1
    obtain ⟨_, h2⟩ := h2
    refine ⟨c23, ?_⟩
    obtain ⟨c24, h1⟩ := h1
    obtain ⟨_, h2⟩ := h2
    refine ⟨c24, ?_⟩
    obtain ⟨b25, e26, h1⟩ := h1
    obtain ⟨b27, e28, h2⟩ := h2
    cases e26.symm.trans e28
    refine ⟨b25, e26, ?_⟩
    obtain ⟨b29, e30, h1⟩ := h1
    obtain ⟨b31, e32, h2⟩ := h2
    cases e30.symm.trans e32
    refine ⟨b29, e30, ?_⟩
    obtain ⟨c33, h1⟩ := h1
    obtain ⟨_, h2⟩ := h2
    refine ⟨c33, ?_⟩
    obtain ⟨b34, e35, h1⟩ := h1
    obtain ⟨b36, e37, h2⟩ := h2
    cases e35.symm.trans e37
    refine ⟨b34, e35, ?_⟩
    obtain ⟨c38, h1⟩ := h1
    obtain ⟨_, h2⟩ := h2
    refine ⟨c38, ?_⟩
    obtain ⟨c39, h1⟩ := h1
    obtain ⟨_, h2⟩ := h2
    refine ⟨c39, ?_⟩
    obtain ⟨b40, e41, h1⟩ := h1
    obtain ⟨b42, e43, h2⟩ := h2
    cases e41.symm.trans e43
    refine ⟨b40, e41, ?_⟩
    obtain ⟨b44, e45, h1⟩ := h1
    obtain ⟨b46, e47, h2⟩ := h2
    cases e45.symm.trans e47
    refine ⟨b44, e45, ?_⟩
    obtain ⟨c48, h1⟩ := h1
    obtain ⟨_, h2⟩ := h2
    refine ⟨c48, ?_⟩
    obtain ⟨b49, e50, h1⟩ := h1
    obtain ⟨b51, e52, h2⟩ := h2
    cases e50.symm.trans e52
    refine ⟨b49, e50, ?_⟩
    obtain ⟨c53, h1⟩ := h1
    obtain ⟨_, h2⟩ := h2
    refine ⟨c53, ?_⟩
    obtain ⟨c54, h1⟩ := h1
    obtain ⟨_, h2⟩ := h2
    refine ⟨c54, ?_⟩
    obtain ⟨b55, e56, h1⟩ := h1
    obtain ⟨b57, e58, h2⟩ := h2
    cases e56.symm.trans e58
    refine ⟨b55, e56, ?_⟩
    obtain ⟨c59, h1⟩ := h1
    obtain ⟨_, h2⟩ := h2
    refine ⟨c59, ?_⟩
    refine cm_X1_leastWet h1 h2 (fun x60 x61 h1 h2 g62 => ?_)
    have h1 := h1 g62
    have h2 := h2 g62
    obtain ⟨b63, e64, h1⟩ := h1
    obtain ⟨b65, e66, h2⟩ := h2
    cases e64.symm.trans e66
    refine ⟨b63, e64, ?_⟩
    obtain ⟨b67, e68, h1⟩ := h1
    obtain ⟨b69, e70, h2⟩ := h2
    cases e68.symm.trans e70
    refine ⟨b67, e68, ?_⟩
    obtain ⟨c71, h1⟩ := h1
    obtain ⟨_, h2⟩ := h2
    refine ⟨c71, ?_⟩
    obtain ⟨b72, e73, h1⟩ := h1
    obtain ⟨b74, e75, h2⟩ := h2
    cases e73.symm.trans e75
    refine ⟨b72, e73, ?_⟩
    obtain ⟨c76, h1⟩ := h1
    obtain ⟨_, h2⟩ := h2
    refine ⟨c76, ?_⟩
    obtain ⟨c77, h1⟩ := h1
    obtain ⟨_, h2⟩ := h2
    refine ⟨c77, ?_⟩
    obtain ⟨b78, e79, h1⟩ := h1
    obtain ⟨b80, e81, h2⟩ := h2
    cases e79.symm.trans e81
    refine ⟨b78, e79, ?_⟩
    obtain ⟨b82, e83, h1⟩ := h1
    obtain ⟨b84, e85, h2⟩ := h2
    cases e83.symm.trans e85
    refine ⟨b82, e83, ?_⟩
    obtain ⟨c86, h1⟩ := h1
    obtain ⟨_, h2⟩ := h2
    refine ⟨c86, ?_⟩
    obtain ⟨b87, e88, h1⟩ := h1
    obtain ⟨b89, e90, h2⟩ := h2
    cases e88.symm.trans e90
    refine ⟨b87, e88, ?_⟩
    obtain ⟨c91, h1⟩ := h1
    obtain ⟨_, h2⟩ := h2
    refine ⟨c91, ?_⟩
    obtain ⟨c92, h1⟩ := h1
    obtain ⟨_, h2⟩ := h2
    refine ⟨c92, ?_⟩
    obtain ⟨b93, e94, h1⟩ := h1
    obtain ⟨b95, e96, h2⟩ := h2
    cases e94.symm.trans e96
    refine ⟨b93, e94, ?_⟩
    obtain ⟨b97, e98, h1⟩ := h1
    obtain ⟨b99, e100, h2⟩ := h2
    cases e98.symm.trans e100
    refine ⟨b97, e98, ?_⟩
    obtain ⟨c101, h1⟩ := h1
    obtain ⟨_, h2⟩ := h2
    refine ⟨c101, ?_⟩
    obtain ⟨b102, e103, h1⟩ := h1
    obtain ⟨b104, e105, h2⟩ := h2
    cases e103.symm.trans e105
    refine ⟨b102, e103, ?_⟩
    obtain ⟨c106, h1⟩ := h1
    obtain ⟨_, h2⟩ := h2
    refine ⟨c106, ?_⟩
    obtain ⟨c107, h1⟩ := h1
    obtain ⟨_, h2⟩ := h2
    refine ⟨c107, ?_⟩
    obtain ⟨b108, e109, h1⟩ := h1
    obtain ⟨b110, e111, h2⟩ := h2
    cases e109.symm.trans e111
    refine ⟨b108, e109, ?_⟩
    obtain ⟨c112, h1⟩ := h1
    obtain ⟨_, h2⟩ := h2
    refine ⟨c112, ?_⟩
    refine cm_X1_leastWet h1 h2 (fun x113 x114 h1 h2 g115 => ?_)
    have h1 := h1 g115
    have h2 := h2 g115
    refine cm_X9_fraction h1 h2 (fun x116 x117 h1 h2 g118 => ?_)
    have h1 := h1 g118
    have h2 := h2 g118
    exact hq _ _ h1 h2
  · intro c119
    have h1 := h1.2 c119
    have h2 := h2.2 c119
    exact hq _ _ h1 h2
theorem cm_X9_round {Q1 Q2 Q3 : Int64 → HS → Prop} {v0 : Nat} {v1 : Int32} {v2 : Int32} {v3 : Int32} {v4 : Int32} {S : HS} (h1 : P_X9_round v0 v1 v2 v3 v4 Q1 S) (h2 : P_X9_round v0 v1 v2 v3 v4 Q2 S) (hq : ∀ (r : Int64) (T : HS), Q1 r T → Q2 r T → Q3 r T) : P_X9_round v0 v1 v2 v3 v4 Q3 S := cm_X9_round_0 h1 h2 hq
set_option maxRecDepth 20000 in
set_option maxHeartbeats 1000000 in
theorem cm_X9_saves_0 {Q1 Q2 Q3 : Int64 → HS → Prop} {v0 : Nat} {v1 : Int32} {v2 : Int32} {v3 : Int32} {v4 : Int32} {v5 : Int32} {S : HS} (h1 : P_X9_saves_0 Q1 v0 v1 v2 v3 v4 v5 S) (h2 : P_X9_saves_0 Q2 v0 v1 v2 v3 v4 v5 S) (hq : ∀ (r : Int64) (T : HS), Q1 r T → Q2 r T → Q3 r T) : P_X9_saves_0 Q3 v0 v1 v2 v3 v4 v5 S := by
  delta P_X9_saves_0 at h1 h2 ⊢
  obtain ⟨c1, h1⟩ := h1
  obtain ⟨_, h2⟩ := h2
  refine ⟨c1, ?_⟩
  refine cm_X9_tripTrouble h1 h2 (fun x2 x3 h1 h2 g4 => ?_)
  have h1 := h1 g4
  have h2 := h2 g4
  refine cm_X9_refusedBy h1 h2 (fun x5 x6 h1 h2 g7 g8 => ?_)
  have h1 := h1 g7 g8
  have h2 := h2 g7 g8
  refine ⟨?_, ?_⟩
  · intro c9
    have h1 := h1.1 c9
    have h2 := h2.1 c9
    obtain ⟨b10, e11, h1⟩ := h1
    obtain ⟨b12, e13, h2⟩ := h2
    cases e11.symm.trans e13
    refine ⟨b10, e11, ?_⟩
    obtain ⟨c14, h1⟩ := h1
    obtain ⟨_, h2⟩ := h2
    refine ⟨c14, ?_⟩
    obtain ⟨b15, e16, h1⟩ := h1
    obtain ⟨b17, e18, h2⟩ := h2
    cases e16.symm.trans e18
    refine ⟨b15, e16, ?_⟩
    obtain ⟨c19, h1⟩ := h1
    obtain ⟨_, h2⟩ := h2
    refine ⟨c19, ?_⟩
    obtain ⟨c20, h1⟩ := h1
    obtain ⟨_, h2⟩ := h2
    refine ⟨c20, ?_⟩
    obtain ⟨b21, e22, h1⟩ := h1
    obtain ⟨b23, e24, h2⟩ := h2
    cases e22.symm.trans e24
    refine ⟨b21, e22, ?_⟩
    obtain ⟨b25, e26, h1⟩ := h1
    obtain ⟨b27, e28, h2⟩ := h2
    cases e26.symm.trans e28
    refine ⟨b25, e26, ?_⟩
    obtain ⟨b29, e30, h1⟩ := h1
    obtain ⟨b31, e32, h2⟩ := h2
    cases e30.symm.trans e32
    refine ⟨b29, e30, ?_⟩
    obtain ⟨c33, h1⟩ := h1
    obtain ⟨_, h2⟩ := h2
    refine ⟨c33, ?_⟩
    obtain ⟨b34, e35, h1⟩ := h1
    obtain ⟨b36, e37, h2⟩ := h2
    cases e35.symm.trans e37
    refine ⟨b34, e35, ?_⟩
    obtain ⟨c38, h1⟩ := h1
    obtain ⟨_, h2⟩ := h2
    refine ⟨c38, ?_⟩
    obtain ⟨c39, h1⟩ := h1
    obtain ⟨_, h2⟩ := h2
    refine ⟨c39, ?_⟩
    obtain ⟨b40, e41, h1⟩ := h1
    obtain ⟨b42, e43, h2⟩ := h2
    cases e41.symm.trans e43
    refine ⟨b40, e41, ?_⟩
    obtain ⟨b44, e45, h1⟩ := h1
    obtain ⟨b46, e47, h2⟩ := h2
    cases e45.symm.trans e47
    refine ⟨b44, e45, ?_⟩
    obtain ⟨c48, h1⟩ := h1
    obtain ⟨_, h2⟩ := h2
    refine ⟨c48, ?_⟩
    obtain ⟨b49, e50, h1⟩ := h1
    obtain ⟨b51, e52, h2⟩ := h2
    cases e50.symm.trans e52
    refine ⟨b49, e50, ?_⟩
    obtain ⟨c53, h1⟩ := h1
    obtain ⟨_, h2⟩ := h2
    refine ⟨c53, ?_⟩
    obtain ⟨c54, h1⟩ := h1
    obtain ⟨_, h2⟩ := h2
    refine ⟨c54, ?_⟩
    obtain ⟨b55, e56, h1⟩ := h1
    obtain ⟨b57, e58, h2⟩ := h2
    cases e56.symm.trans e58
    refine ⟨b55, e56, ?_⟩
    obtain ⟨c59, h1⟩ := h1
    obtain ⟨_, h2⟩ := h2
    refine ⟨c59, ?_⟩
    intro x61 e60
    have h1 := h1 x61 e60
    have h2 := h2 x61 e60
    obtain ⟨c62, h1⟩ := h1
    obtain ⟨_, h2⟩ := h2
    refine ⟨c62, ?_⟩
    refine cm_X1_wetOf h1 h2 (fun x63 x64 h1 h2 g65 => ?_)
    have h1 := h1 g65
    have h2 := h2 g65
    obtain ⟨b66, e67, h1⟩ := h1
    obtain ⟨b68, e69, h2⟩ := h2
    cases e67.symm.trans e69
    refine ⟨b66, e67, ?_⟩
    obtain ⟨b70, e71, h1⟩ := h1
    obtain ⟨b72, e73, h2⟩ := h2
    cases e71.symm.trans e73
    refine ⟨b70, e71, ?_⟩
    obtain ⟨c74, h1⟩ := h1
    obtain ⟨_, h2⟩ := h2
    refine ⟨c74, ?_⟩
    obtain ⟨b75, e76, h1⟩ := h1
    obtain ⟨b77, e78, h2⟩ := h2
    cases e76.symm.trans e78
    refine ⟨b75, e76, ?_⟩
    obtain ⟨c79, h1⟩ := h1
    obtain ⟨_, h2⟩ := h2
    refine ⟨c79, ?_⟩
    obtain ⟨c80, h1⟩ := h1
    obtain ⟨_, h2⟩ := h2
    refine ⟨c80, ?_⟩
    obtain ⟨b81, e82, h1⟩ := h1
    obtain ⟨b83, e84, h2⟩ := h2
    cases e82.symm.trans e84
    refine ⟨b81, e82, ?_⟩
    obtain ⟨b85, e86, h1⟩ := h1
    obtain ⟨b87, e88, h2⟩ := h2
    cases e86.symm.trans e88
    refine ⟨b85, e86, ?_⟩
    obtain ⟨c89, h1⟩ := h1
    obtain ⟨_, h2⟩ := h2
    refine ⟨c89, ?_⟩
    obtain ⟨b90, e91, h1⟩ := h1
    obtain ⟨b92, e93, h2⟩ := h2
    cases e91.symm.trans e93
    refine ⟨b90, e91, ?_⟩
    obtain ⟨c94, h1⟩ := h1
    obtain ⟨_, h2⟩ := h2
    refine ⟨c94, ?_⟩
    obtain ⟨c95, h1⟩ := h1
    obtain ⟨_, h2⟩ := h2
    refine ⟨c95, ?_⟩
    obtain ⟨b96, e97, h1⟩ := h1
    obtain ⟨b98, e99, h2⟩ := h2
    cases e97.symm.trans e99
    refine ⟨b96, e97, ?_⟩
    obtain ⟨c100, h1⟩ := h1
    obtain ⟨_, h2⟩ := h2
    refine ⟨c100, ?_⟩
    refine cm_X1_leastWet h1 h2 (fun x101 x102 h1 h2 g103 => ?_)
    have h1 := h1 g103
    have h2 := h2 g103
    refine cm_X9_fraction h1 h2 (fun x104 x105 h1 h2 g106 => ?_)
    have h1 := h1 g106
    have h2 := h2 g106
    exact hq _ _ h1 h2
  · intro c107
    have h1 := h1.2 c107
    have h2 := h2.2 c107
    exact hq _ _ h1 h2
theorem cm_X9_saves {Q1 Q2 Q3 : Int64 → HS → Prop} {v0 : Nat} {v1 : Int32} {v2 : Int32} {v3 : Int32} {v4 : Int32} {v5 : Int32} {S : HS} (h1 : P_X9_saves v0 v1 v2 v3 v4 v5 Q1 S) (h2 : P_X9_saves v0 v1 v2 v3 v4 v5 Q2 S) (hq : ∀ (r : Int64) (T : HS), Q1 r T → Q2 r T → Q3 r T) : P_X9_saves v0 v1 v2 v3 v4 v5 Q3 S := cm_X9_saves_0 h1 h2 hq
end
section
set_option maxRecDepth 20000 in
set_option maxHeartbeats 1000000 in
theorem cm_X9_soaked_27 {Q1 Q2 Q3 : Int32 → HS → Prop} {v0 : Nat} {S : HS} (h1 : P_X9_soaked_27 Q1 v0 S) (h2 : P_X9_soaked_27 Q2 v0 S) (hq : ∀ (r : Int32) (T : HS), Q1 r T → Q2 r T → Q3 r T) : P_X9_soaked_27 Q3 v0 S := by
  delta P_X9_soaked_27 at h1 h2 ⊢
  obtain ⟨c1, h1⟩ := h1
  obtain ⟨_, h2⟩ := h2
  refine ⟨c1, ?_⟩
  refine cm_X9_refuse h1 h2 (fun x2 x3 h1 h2 g4 => ?_)
  have h1 := h1 g4
  have h2 := h2 g4
  exact hq _ _ h1 h2
set_option maxRecDepth 20000 in
set_option maxHeartbeats 1000000 in
theorem cm_X9_soaked_88 {Q1 Q2 Q3 : Int32 → HS → Prop} {s0 : Nat} {s1 : Int32} {S : HS} (h1 : P_X9_soaked_88 Q1 s0 s1 S) (h2 : P_X9_soaked_88 Q2 s0 s1 S) (hq : ∀ (r : Int32) (T : HS), Q1 r T → Q2 r T → Q3 r T) : P_X9_soaked_88 Q3 s0 s1 S := by
  delta P_X9_soaked_88 at h1 h2 ⊢
  obtain ⟨c1, h1⟩ := h1
  obtain ⟨_, h2⟩ := h2
  refine ⟨c1, ?_⟩
  refine cm_X9_grant h1 h2 (fun x2 x3 h1 h2 g4 => ?_)
  have h1 := h1 g4
  have h2 := h2 g4
  exact hq _ _ h1 h2
set_option maxRecDepth 20000 in
set_option maxHeartbeats 1000000 in
theorem cm_X9_soaked_0 {Q1 Q2 Q3 : Int32 → HS → Prop} {v0 : Nat} {S : HS} (h1 : P_X9_soaked_0 Q1 v0 S) (h2 : P_X9_soaked_0 Q2 v0 S) (hq : ∀ (r : Int32) (T : HS), Q1 r T → Q2 r T → Q3 r T) : P_X9_soaked_0 Q3 v0 S := by
  delta P_X9_soaked_0 at h1 h2 ⊢
  obtain ⟨c1, h1⟩ := h1
  obtain ⟨_, h2⟩ := h2
  refine ⟨c1, ?_⟩
  obtain ⟨b2, e3, h1⟩ := h1
  obtain ⟨b4, e5, h2⟩ := h2
  cases e3.symm.trans e5
  refine ⟨b2, e3, ?_⟩
  obtain ⟨c6, h1⟩ := h1
  obtain ⟨_, h2⟩ := h2
  refine ⟨c6, ?_⟩
  refine cm_X0_isOn h1 h2 (fun x7 x8 h1 h2 g9 g10 => ?_)
  have h1 := h1 g9 g10
  have h2 := h2 g9 g10
  refine ⟨?_, ?_⟩
  · intro c11
    have h1 := h1.1 c11
    have h2 := h2.1 c11
    exact cm_X9_soaked_27 h1 h2 hq
  · intro c12
    have h1 := h1.2 c12
    have h2 := h2.2 c12
    obtain ⟨b13, e14, h1⟩ := h1
    obtain ⟨b15, e16, h2⟩ := h2
    cases e14.symm.trans e16
    refine ⟨b13, e14, ?_⟩
    obtain ⟨b17, e18, h1⟩ := h1
    obtain ⟨b19, e20, h2⟩ := h2
    cases e18.symm.trans e20
    refine ⟨b17, e18, ?_⟩
    obtain ⟨c21, h1⟩ := h1
    obtain ⟨_, h2⟩ := h2
    refine ⟨c21, ?_⟩
    intro x23 e22
    have h1 := h1 x23 e22
    have h2 := h2 x23 e22
    obtain ⟨c24, h1⟩ := h1
    obtain ⟨_, h2⟩ := h2
    refine ⟨c24, ?_⟩
    refine cm_X8_hasWalker h1 h2 (fun x25 x26 h1 h2 g27 g28 => ?_)
    have h1 := h1 g27 g28
    have h2 := h2 g27 g28
    refine ⟨?_, ?_⟩
    · intro c29
      have h1 := h1.1 c29
      have h2 := h2.1 c29
      obtain ⟨b30, e31, h1⟩ := h1
      obtain ⟨b32, e33, h2⟩ := h2
      cases e31.symm.trans e33
      refine ⟨b30, e31, ?_⟩
      obtain ⟨c34, h1⟩ := h1
      obtain ⟨_, h2⟩ := h2
      refine ⟨c34, ?_⟩
      obtain ⟨b35, e36, h1⟩ := h1
      obtain ⟨b37, e38, h2⟩ := h2
      cases e36.symm.trans e38
      refine ⟨b35, e36, ?_⟩
      obtain ⟨b39, e40, h1⟩ := h1
      obtain ⟨b41, e42, h2⟩ := h2
      cases e40.symm.trans e42
      refine ⟨b39, e40, ?_⟩
      obtain ⟨c43, h1⟩ := h1
      obtain ⟨_, h2⟩ := h2
      refine ⟨c43, ?_⟩
      intro x45 e44
      have h1 := h1 x45 e44
      have h2 := h2 x45 e44
      obtain ⟨c46, h1⟩ := h1
      obtain ⟨_, h2⟩ := h2
      refine ⟨c46, ?_⟩
      obtain ⟨c47, h1⟩ := h1
      obtain ⟨_, h2⟩ := h2
      refine ⟨c47, ?_⟩
      obtain ⟨b48, e49, h1⟩ := h1
      obtain ⟨b50, e51, h2⟩ := h2
      cases e49.symm.trans e51
      refine ⟨b48, e49, ?_⟩
      obtain ⟨c52, h1⟩ := h1
      obtain ⟨_, h2⟩ := h2
      refine ⟨c52, ?_⟩
      intro x54 e53
      have h1 := h1 x54 e53
      have h2 := h2 x54 e53
      refine ⟨?_, ?_⟩
      · intro c55
        have h1 := h1.1 c55
        have h2 := h2.1 c55
        obtain ⟨b56, e57, h1⟩ := h1
        obtain ⟨b58, e59, h2⟩ := h2
        cases e57.symm.trans e59
        refine ⟨b56, e57, ?_⟩
        obtain ⟨c60, h1⟩ := h1
        obtain ⟨_, h2⟩ := h2
        refine ⟨c60, ?_⟩
        obtain ⟨b61, e62, h1⟩ := h1
        obtain ⟨b63, e64, h2⟩ := h2
        cases e62.symm.trans e64
        refine ⟨b61, e62, ?_⟩
        obtain ⟨c65, h1⟩ := h1
        obtain ⟨_, h2⟩ := h2
        refine ⟨c65, ?_⟩
        refine cm_X2_allGot h1 h2 (fun x66 x67 h1 h2 g68 => ?_)
        have h1 := h1 g68
        have h2 := h2 g68
        refine cm_X9_coatParts h1 h2 (fun x69 x70 h1 h2 g71 => ?_)
        have h1 := h1 g71
        have h2 := h2 g71
        refine ⟨?_, ?_⟩
        · intro c72
          have h1 := h1.1 c72
          have h2 := h2.1 c72
          exact cm_X9_soaked_88 h1 h2 hq
        · intro c73
          have h1 := h1.2 c73
          have h2 := h2.2 c73
          exact cm_X9_soaked_88 h1 h2 hq
      · intro c74
        have h1 := h1.2 c74
        have h2 := h2.2 c74
        refine cm_X9_grant h1 h2 (fun x75 x76 h1 h2 g77 => ?_)
        have h1 := h1 g77
        have h2 := h2 g77
        exact hq _ _ h1 h2
    · intro c78
      have h1 := h1.2 c78
      have h2 := h2.2 c78
      exact cm_X9_soaked_27 h1 h2 hq
theorem cm_X9_soaked {Q1 Q2 Q3 : Int32 → HS → Prop} {v0 : Nat} {S : HS} (h1 : P_X9_soaked v0 Q1 S) (h2 : P_X9_soaked v0 Q2 S) (hq : ∀ (r : Int32) (T : HS), Q1 r T → Q2 r T → Q3 r T) : P_X9_soaked v0 Q3 S := cm_X9_soaked_0 h1 h2 hq
set_option maxRecDepth 20000 in
set_option maxHeartbeats 1000000 in
theorem cm_X9_stayTrouble_0 {Q1 Q2 Q3 : Int32 → HS → Prop} {v0 : Nat} {v1 : Int32} {S : HS} (h1 : P_X9_stayTrouble_0 Q1 v0 v1 S) (h2 : P_X9_stayTrouble_0 Q2 v0 v1 S) (hq : ∀ (r : Int32) (T : HS), Q1 r T → Q2 r T → Q3 r T) : P_X9_stayTrouble_0 Q3 v0 v1 S := by
  delta P_X9_stayTrouble_0 at h1 h2 ⊢
  obtain ⟨c1, h1⟩ := h1
  obtain ⟨_, h2⟩ := h2
  refine ⟨c1, ?_⟩
  obtain ⟨b2, e3, h1⟩ := h1
  obtain ⟨b4, e5, h2⟩ := h2
  cases e3.symm.trans e5
  refine ⟨b2, e3, ?_⟩
  obtain ⟨c6, h1⟩ := h1
  obtain ⟨_, h2⟩ := h2
  refine ⟨c6, ?_⟩
  refine cm_X0_isOn h1 h2 (fun x7 x8 h1 h2 g9 g10 => ?_)
  have h1 := h1 g9 g10
  have h2 := h2 g9 g10
  refine ⟨?_, ?_⟩
  · intro c11
    have h1 := h1.1 c11
    have h2 := h2.1 c11
    exact hq _ _ h1 h2
  · intro c12
    have h1 := h1.2 c12
    have h2 := h2.2 c12
    obtain ⟨b13, e14, h1⟩ := h1
    obtain ⟨b15, e16, h2⟩ := h2
    cases e14.symm.trans e16
    refine ⟨b13, e14, ?_⟩
    obtain ⟨b17, e18, h1⟩ := h1
    obtain ⟨b19, e20, h2⟩ := h2
    cases e18.symm.trans e20
    refine ⟨b17, e18, ?_⟩
    obtain ⟨c21, h1⟩ := h1
    obtain ⟨_, h2⟩ := h2
    refine ⟨c21, ?_⟩
    intro x23 e22
    have h1 := h1 x23 e22
    have h2 := h2 x23 e22
    obtain ⟨c24, h1⟩ := h1
    obtain ⟨_, h2⟩ := h2
    refine ⟨c24, ?_⟩
    refine cm_X8_hasWalker h1 h2 (fun x25 x26 h1 h2 g27 g28 => ?_)
    have h1 := h1 g27 g28
    have h2 := h2 g27 g28
    refine ⟨?_, ?_⟩
    · intro c29
      have h1 := h1.1 c29
      have h2 := h2.1 c29
      refine ⟨?_, ?_⟩
      · intro c30
        have h1 := h1.1 c30
        have h2 := h2.1 c30
        exact hq _ _ h1 h2
      · intro c31
        have h1 := h1.2 c31
        have h2 := h2.2 c31
        refine ⟨?_, ?_⟩
        · intro c32
          have h1 := h1.1 c32
          have h2 := h2.1 c32
          obtain ⟨b33, e34, h1⟩ := h1
          obtain ⟨b35, e36, h2⟩ := h2
          cases e34.symm.trans e36
          refine ⟨b33, e34, ?_⟩
          obtain ⟨b37, e38, h1⟩ := h1
          obtain ⟨b39, e40, h2⟩ := h2
          cases e38.symm.trans e40
          refine ⟨b37, e38, ?_⟩
          obtain ⟨c41, h1⟩ := h1
          obtain ⟨_, h2⟩ := h2
          refine ⟨c41, ?_⟩
          obtain ⟨b42, e43, h1⟩ := h1
          obtain ⟨b44, e45, h2⟩ := h2
          cases e43.symm.trans e45
          refine ⟨b42, e43, ?_⟩
          obtain ⟨c46, h1⟩ := h1
          obtain ⟨_, h2⟩ := h2
          refine ⟨c46, ?_⟩
          intro x48 e47
          have h1 := h1 x48 e47
          have h2 := h2 x48 e47
          obtain ⟨c49, h1⟩ := h1
          obtain ⟨_, h2⟩ := h2
          refine ⟨c49, ?_⟩
          refine cm_X8_canWait h1 h2 (fun x50 x51 h1 h2 g52 g53 => ?_)
          have h1 := h1 g52 g53
          have h2 := h2 g52 g53
          refine ⟨?_, ?_⟩
          · intro c54
            have h1 := h1.1 c54
            have h2 := h2.1 c54
            obtain ⟨b55, e56, h1⟩ := h1
            obtain ⟨b57, e58, h2⟩ := h2
            cases e56.symm.trans e58
            refine ⟨b55, e56, ?_⟩
            obtain ⟨c59, h1⟩ := h1
            obtain ⟨_, h2⟩ := h2
            refine ⟨c59, ?_⟩
            obtain ⟨b60, e61, h1⟩ := h1
            obtain ⟨b62, e63, h2⟩ := h2
            cases e61.symm.trans e63
            refine ⟨b60, e61, ?_⟩
            obtain ⟨c64, h1⟩ := h1
            obtain ⟨_, h2⟩ := h2
            refine ⟨c64, ?_⟩
            intro x66 e65
            have h1 := h1 x66 e65
            have h2 := h2 x66 e65
            refine ⟨?_, ?_⟩
            · intro c67
              have h1 := h1.1 c67
              have h2 := h2.1 c67
              exact hq _ _ h1 h2
            · intro c68
              have h1 := h1.2 c68
              have h2 := h2.2 c68
              exact hq _ _ h1 h2
          · intro c69
            have h1 := h1.2 c69
            have h2 := h2.2 c69
            exact hq _ _ h1 h2
        · intro c70
          have h1 := h1.2 c70
          have h2 := h2.2 c70
          exact hq _ _ h1 h2
    · intro c71
      have h1 := h1.2 c71
      have h2 := h2.2 c71
      exact hq _ _ h1 h2
theorem cm_X9_stayTrouble {Q1 Q2 Q3 : Int32 → HS → Prop} {v0 : Nat} {v1 : Int32} {S : HS} (h1 : P_X9_stayTrouble v0 v1 Q1 S) (h2 : P_X9_stayTrouble v0 v1 Q2 S) (hq : ∀ (r : Int32) (T : HS), Q1 r T → Q2 r T → Q3 r T) : P_X9_stayTrouble v0 v1 Q3 S := cm_X9_stayTrouble_0 h1 h2 hq
set_option maxRecDepth 20000 in
set_option maxHeartbeats 1000000 in
theorem cm_X9_stay_111 {Q1 Q2 Q3 : Int32 → HS → Prop} {X58_1 X58_2 X58_3 : Nat → Int32 → Int64 → Int32 → HS → Prop} {v0 : Nat} {v1 : Int32} {v2 : Int64} {v4 : Int32} {S : HS} (h1 : P_X9_stay_111 Q1 X58_1 v0 v1 v2 v4 S) (h2 : P_X9_stay_111 Q2 X58_2 v0 v1 v2 v4 S) (hq : ∀ (r : Int32) (T : HS), Q1 r T → Q2 r T → Q3 r T) (hX58 : ∀ (u0 : Nat) (u1 : Int32) (u2 : Int64) (u3 : Int32) (u4 : HS), X58_1 u0 u1 u2 u3 u4 → X58_2 u0 u1 u2 u3 u4 → X58_3 u0 u1 u2 u3 u4) : P_X9_stay_111 Q3 X58_3 v0 v1 v2 v4 S := by
  delta P_X9_stay_111 at h1 h2 ⊢
  obtain ⟨c1, h1⟩ := h1
  obtain ⟨_, h2⟩ := h2
  refine ⟨c1, ?_⟩
  obtain ⟨b2, e3, h1⟩ := h1
  obtain ⟨b4, e5, h2⟩ := h2
  cases e3.symm.trans e5
  refine ⟨b2, e3, ?_⟩
  obtain ⟨c6, h1⟩ := h1
  obtain ⟨_, h2⟩ := h2
  refine ⟨c6, ?_⟩
  obtain ⟨b7, e8, h1⟩ := h1
  obtain ⟨b9, e10, h2⟩ := h2
  cases e8.symm.trans e10
  refine ⟨b7, e8, ?_⟩
  obtain ⟨c11, h1⟩ := h1
  obtain ⟨_, h2⟩ := h2
  refine ⟨c11, ?_⟩
  intro x13 e12
  have h1 := h1 x13 e12
  have h2 := h2 x13 e12
  intro x15 e14
  have h1 := h1 x15 e14
  have h2 := h2 x15 e14
  intro x17 e16
  have h1 := h1 x17 e16
  have h2 := h2 x17 e16
  intro x19 e18
  have h1 := h1 x19 e18
  have h2 := h2 x19 e18
  exact hX58 _ _ _ _ _ h1 h2
set_option maxRecDepth 20000 in
set_option maxHeartbeats 1000000 in
theorem cmB_X9_stay_58 {Q1 Q2 Q3 : Int32 → HS → Prop} {X58_1 X58_2 X58_3 : Nat → Int32 → Int64 → Int32 → HS → Prop} {v0 : Nat} {v1 : Int32} {v2 : Int64} {v4 : Int32} {S : HS} (h1 : B_X9_stay_58 Q1 X58_1 v0 v1 v2 v4 S) (h2 : B_X9_stay_58 Q2 X58_2 v0 v1 v2 v4 S) (hq : ∀ (r : Int32) (T : HS), Q1 r T → Q2 r T → Q3 r T) (hX58 : ∀ (u0 : Nat) (u1 : Int32) (u2 : Int64) (u3 : Int32) (u4 : HS), X58_1 u0 u1 u2 u3 u4 → X58_2 u0 u1 u2 u3 u4 → X58_3 u0 u1 u2 u3 u4) : B_X9_stay_58 Q3 X58_3 v0 v1 v2 v4 S := by
  delta B_X9_stay_58 at h1 h2 ⊢
  refine ⟨?_, ?_⟩
  · intro c1
    have h1 := h1.1 c1
    have h2 := h2.1 c1
    exact hq _ _ h1 h2
  · intro c2
    have h1 := h1.2 c2
    have h2 := h2.2 c2
    obtain ⟨c3, h1⟩ := h1
    obtain ⟨_, h2⟩ := h2
    refine ⟨c3, ?_⟩
    obtain ⟨b4, e5, h1⟩ := h1
    obtain ⟨b6, e7, h2⟩ := h2
    cases e5.symm.trans e7
    refine ⟨b4, e5, ?_⟩
    obtain ⟨b8, e9, h1⟩ := h1
    obtain ⟨b10, e11, h2⟩ := h2
    cases e9.symm.trans e11
    refine ⟨b8, e9, ?_⟩
    obtain ⟨b12, e13, h1⟩ := h1
    obtain ⟨b14, e15, h2⟩ := h2
    cases e13.symm.trans e15
    refine ⟨b12, e13, ?_⟩
    obtain ⟨c16, h1⟩ := h1
    obtain ⟨_, h2⟩ := h2
    refine ⟨c16, ?_⟩
    obtain ⟨b17, e18, h1⟩ := h1
    obtain ⟨b19, e20, h2⟩ := h2
    cases e18.symm.trans e20
    refine ⟨b17, e18, ?_⟩
    obtain ⟨c21, h1⟩ := h1
    obtain ⟨_, h2⟩ := h2
    refine ⟨c21, ?_⟩
    intro x23 e22
    have h1 := h1 x23 e22
    have h2 := h2 x23 e22
    obtain ⟨c24, h1⟩ := h1
    obtain ⟨_, h2⟩ := h2
    refine ⟨c24, ?_⟩
    refine cm_X8_hourOf h1 h2 (fun x25 x26 h1 h2 g27 => ?_)
    have h1 := h1 g27
    have h2 := h2 g27
    obtain ⟨c28, h1⟩ := h1
    obtain ⟨_, h2⟩ := h2
    refine ⟨c28, ?_⟩
    refine cm_X0_rainsIn h1 h2 (fun x29 x30 h1 h2 g31 g32 => ?_)
    have h1 := h1 g31 g32
    have h2 := h2 g31 g32
    refine ⟨?_, ?_⟩
    · intro c33
      have h1 := h1.1 c33
      have h2 := h2.1 c33
      exact cm_X9_stay_111 h1 h2 hq hX58
    · intro c34
      have h1 := h1.2 c34
      have h2 := h2.2 c34
      obtain ⟨b35, e36, h1⟩ := h1
      obtain ⟨b37, e38, h2⟩ := h2
      cases e36.symm.trans e38
      refine ⟨b35, e36, ?_⟩
      obtain ⟨c39, h1⟩ := h1
      obtain ⟨_, h2⟩ := h2
      refine ⟨c39, ?_⟩
      obtain ⟨b40, e41, h1⟩ := h1
      obtain ⟨b42, e43, h2⟩ := h2
      cases e41.symm.trans e43
      refine ⟨b40, e41, ?_⟩
      obtain ⟨c44, h1⟩ := h1
      obtain ⟨_, h2⟩ := h2
      refine ⟨c44, ?_⟩
      obtain ⟨b45, e46, h1⟩ := h1
      obtain ⟨b47, e48, h2⟩ := h2
      cases e46.symm.trans e48
      refine ⟨b45, e46, ?_⟩
      obtain ⟨c49, h1⟩ := h1
      obtain ⟨_, h2⟩ := h2
      refine ⟨c49, ?_⟩
      obtain ⟨c50, h1⟩ := h1
      obtain ⟨_, h2⟩ := h2
      refine ⟨c50, ?_⟩
      intro x52 e51
      have h1 := h1 x52 e51
      have h2 := h2 x52 e51
      intro x54 e53
      have h1 := h1 x54 e53
      have h2 := h2 x54 e53
      obtain ⟨c55, h1⟩ := h1
      obtain ⟨_, h2⟩ := h2
      refine ⟨c55, ?_⟩
      intro x57 e56
      have h1 := h1 x57 e56
      have h2 := h2 x57 e56
      exact cm_X9_stay_111 h1 h2 hq hX58
theorem fd_X9_stay_58 {Q : Int32 → HS → Prop} {v0 : Nat} {v1 : Int32} {v2 : Int64} {v4 : Int32} {S : HS} (h : B_X9_stay_58 Q (P_X9_stay_58 Q) v0 v1 v2 v4 S) : P_X9_stay_58 Q v0 v1 v2 v4 S := fun X hX => hX v0 v1 v2 v4 S (cmB_X9_stay_58 h h (fun _ _ a _ => a) (fun _ _ _ _ _ hp _ => hp X hX))
theorem uf_X9_stay_58 {Q : Int32 → HS → Prop} {v0 : Nat} {v1 : Int32} {v2 : Int64} {v4 : Int32} {S : HS} (h : P_X9_stay_58 Q v0 v1 v2 v4 S) : B_X9_stay_58 Q (P_X9_stay_58 Q) v0 v1 v2 v4 S := h (fun v0 v1 v2 v4 S => B_X9_stay_58 Q (P_X9_stay_58 Q) v0 v1 v2 v4 S) (fun v0 v1 v2 v4 S hB => cmB_X9_stay_58 hB hB (fun _ _ a _ => a) (fun _ _ _ _ _ hb _ => fd_X9_stay_58 hb))
theorem cm_X9_stay_58 {Q1 Q2 Q3 : Int32 → HS → Prop} {v0 : Nat} {v1 : Int32} {v2 : Int64} {v4 : Int32} {S : HS} (h1 : P_X9_stay_58 Q1 v0 v1 v2 v4 S) (h2 : P_X9_stay_58 Q2 v0 v1 v2 v4 S) (hq : ∀ (r : Int32) (T : HS), Q1 r T → Q2 r T → Q3 r T) : P_X9_stay_58 Q3 v0 v1 v2 v4 S := h1 (fun v0 v1 v2 v4 S => P_X9_stay_58 Q2 v0 v1 v2 v4 S → P_X9_stay_58 Q3 v0 v1 v2 v4 S) (fun v0 v1 v2 v4 S hB hp => fd_X9_stay_58 (cmB_X9_stay_58 hB (uf_X9_stay_58 hp) hq (fun _ _ _ _ _ hx hp => hx hp))) h2
set_option maxRecDepth 20000 in
set_option maxHeartbeats 1000000 in
theorem cm_X9_stay_0 {Q1 Q2 Q3 : Int32 → HS → Prop} {v0 : Nat} {v1 : Int32} {S : HS} (h1 : P_X9_stay_0 Q1 v0 v1 S) (h2 : P_X9_stay_0 Q2 v0 v1 S) (hq : ∀ (r : Int32) (T : HS), Q1 r T → Q2 r T → Q3 r T) : P_X9_stay_0 Q3 v0 v1 S := by
  delta P_X9_stay_0 at h1 h2 ⊢
  obtain ⟨c1, h1⟩ := h1
  obtain ⟨_, h2⟩ := h2
  refine ⟨c1, ?_⟩
  refine cm_X9_stayTrouble h1 h2 (fun x2 x3 h1 h2 g4 => ?_)
  have h1 := h1 g4
  have h2 := h2 g4
  refine cm_X9_refusedBy h1 h2 (fun x5 x6 h1 h2 g7 g8 => ?_)
  have h1 := h1 g7 g8
  have h2 := h2 g7 g8
  refine ⟨?_, ?_⟩
  · intro c9
    have h1 := h1.1 c9
    have h2 := h2.1 c9
    obtain ⟨b10, e11, h1⟩ := h1
    obtain ⟨b12, e13, h2⟩ := h2
    cases e11.symm.trans e13
    refine ⟨b10, e11, ?_⟩
    obtain ⟨c14, h1⟩ := h1
    obtain ⟨_, h2⟩ := h2
    refine ⟨c14, ?_⟩
    refine cm_X0_keepForUndo h1 h2 (fun x15 h1 h2 g16 => ?_)
    have h1 := h1 g16
    have h2 := h2 g16
    obtain ⟨b17, e18, h1⟩ := h1
    obtain ⟨b19, e20, h2⟩ := h2
    cases e18.symm.trans e20
    refine ⟨b17, e18, ?_⟩
    obtain ⟨b21, e22, h1⟩ := h1
    obtain ⟨b23, e24, h2⟩ := h2
    cases e22.symm.trans e24
    refine ⟨b21, e22, ?_⟩
    obtain ⟨c25, h1⟩ := h1
    obtain ⟨_, h2⟩ := h2
    refine ⟨c25, ?_⟩
    obtain ⟨b26, e27, h1⟩ := h1
    obtain ⟨b28, e29, h2⟩ := h2
    cases e27.symm.trans e29
    refine ⟨b26, e27, ?_⟩
    obtain ⟨b30, e31, h1⟩ := h1
    obtain ⟨b32, e33, h2⟩ := h2
    cases e31.symm.trans e33
    refine ⟨b30, e31, ?_⟩
    obtain ⟨c34, h1⟩ := h1
    obtain ⟨_, h2⟩ := h2
    refine ⟨c34, ?_⟩
    intro x36 e35
    have h1 := h1 x36 e35
    have h2 := h2 x36 e35
    obtain ⟨c37, h1⟩ := h1
    obtain ⟨_, h2⟩ := h2
    refine ⟨c37, ?_⟩
    obtain ⟨c38, h1⟩ := h1
    obtain ⟨_, h2⟩ := h2
    refine ⟨c38, ?_⟩
    obtain ⟨b39, e40, h1⟩ := h1
    obtain ⟨b41, e42, h2⟩ := h2
    cases e40.symm.trans e42
    refine ⟨b39, e40, ?_⟩
    obtain ⟨b43, e44, h1⟩ := h1
    obtain ⟨b45, e46, h2⟩ := h2
    cases e44.symm.trans e46
    refine ⟨b43, e44, ?_⟩
    obtain ⟨c47, h1⟩ := h1
    obtain ⟨_, h2⟩ := h2
    refine ⟨c47, ?_⟩
    obtain ⟨b48, e49, h1⟩ := h1
    obtain ⟨b50, e51, h2⟩ := h2
    cases e49.symm.trans e51
    refine ⟨b48, e49, ?_⟩
    obtain ⟨c52, h1⟩ := h1
    obtain ⟨_, h2⟩ := h2
    refine ⟨c52, ?_⟩
    intro x54 e53
    have h1 := h1 x54 e53
    have h2 := h2 x54 e53
    obtain ⟨c55, h1⟩ := h1
    obtain ⟨_, h2⟩ := h2
    refine ⟨c55, ?_⟩
    refine cm_X8_dripOn h1 h2 (fun x56 x57 h1 h2 g58 => ?_)
    have h1 := h1 g58
    have h2 := h2 g58
    intro x60 e59
    have h1 := h1 x60 e59
    have h2 := h2 x60 e59
    exact cm_X9_stay_58 h1 h2 hq
  · intro c61
    have h1 := h1.2 c61
    have h2 := h2.2 c61
    exact hq _ _ h1 h2
theorem cm_X9_stay {Q1 Q2 Q3 : Int32 → HS → Prop} {v0 : Nat} {v1 : Int32} {S : HS} (h1 : P_X9_stay v0 v1 Q1 S) (h2 : P_X9_stay v0 v1 Q2 S) (hq : ∀ (r : Int32) (T : HS), Q1 r T → Q2 r T → Q3 r T) : P_X9_stay v0 v1 Q3 S := cm_X9_stay_0 h1 h2 hq
set_option maxRecDepth 20000 in
set_option maxHeartbeats 1000000 in
theorem cm_X9_step_61 {Q1 Q2 Q3 : Int32 → HS → Prop} {v0 : Nat} {S : HS} (h1 : P_X9_step_61 Q1 v0 S) (h2 : P_X9_step_61 Q2 v0 S) (hq : ∀ (r : Int32) (T : HS), Q1 r T → Q2 r T → Q3 r T) : P_X9_step_61 Q3 v0 S := by
  delta P_X9_step_61 at h1 h2 ⊢
  obtain ⟨c1, h1⟩ := h1
  obtain ⟨_, h2⟩ := h2
  refine ⟨c1, ?_⟩
  refine cm_X9_refuse h1 h2 (fun x2 x3 h1 h2 g4 => ?_)
  have h1 := h1 g4
  have h2 := h2 g4
  exact hq _ _ h1 h2
set_option maxRecDepth 20000 in
set_option maxHeartbeats 1000000 in
theorem cm_X9_step_0 {Q1 Q2 Q3 : Int32 → HS → Prop} {v0 : Nat} {v1 : Int32} {v2 : Int32} {v3 : Int32} {v4 : Int32} {v5 : Int32} {v6 : Int32} {S : HS} (h1 : P_X9_step_0 Q1 v0 v1 v2 v3 v4 v5 v6 S) (h2 : P_X9_step_0 Q2 v0 v1 v2 v3 v4 v5 v6 S) (hq : ∀ (r : Int32) (T : HS), Q1 r T → Q2 r T → Q3 r T) : P_X9_step_0 Q3 v0 v1 v2 v3 v4 v5 v6 S := by
  delta P_X9_step_0 at h1 h2 ⊢
  obtain ⟨c1, h1⟩ := h1
  obtain ⟨_, h2⟩ := h2
  refine ⟨c1, ?_⟩
  refine cm_X9_wayTrouble h1 h2 (fun x2 x3 h1 h2 g4 => ?_)
  have h1 := h1 g4
  have h2 := h2 g4
  refine cm_X9_refusedBy h1 h2 (fun x5 x6 h1 h2 g7 g8 => ?_)
  have h1 := h1 g7 g8
  have h2 := h2 g7 g8
  refine ⟨?_, ?_⟩
  · intro c9
    have h1 := h1.1 c9
    have h2 := h2.1 c9
    obtain ⟨b10, e11, h1⟩ := h1
    obtain ⟨b12, e13, h2⟩ := h2
    cases e11.symm.trans e13
    refine ⟨b10, e11, ?_⟩
    obtain ⟨b14, e15, h1⟩ := h1
    obtain ⟨b16, e17, h2⟩ := h2
    cases e15.symm.trans e17
    refine ⟨b14, e15, ?_⟩
    obtain ⟨c18, h1⟩ := h1
    obtain ⟨_, h2⟩ := h2
    refine ⟨c18, ?_⟩
    refine cm_X7_trace h1 h2 (fun x19 x20 h1 h2 g21 => ?_)
    have h1 := h1 g21
    have h2 := h2 g21
    refine ⟨?_, ?_⟩
    · intro c22
      have h1 := h1.1 c22
      have h2 := h2.1 c22
      exact cm_X9_step_61 h1 h2 hq
    · intro c23
      have h1 := h1.2 c23
      have h2 := h2.2 c23
      refine ⟨?_, ?_⟩
      · intro c24
        have h1 := h1.1 c24
        have h2 := h2.1 c24
        exact cm_X9_step_61 h1 h2 hq
      · intro c25
        have h1 := h1.2 c25
        have h2 := h2.2 c25
        obtain ⟨b26, e27, h1⟩ := h1
        obtain ⟨b28, e29, h2⟩ := h2
        cases e27.symm.trans e29
        refine ⟨b26, e27, ?_⟩
        obtain ⟨c30, h1⟩ := h1
        obtain ⟨_, h2⟩ := h2
        refine ⟨c30, ?_⟩
        obtain ⟨b31, e32, h1⟩ := h1
        obtain ⟨b33, e34, h2⟩ := h2
        cases e32.symm.trans e34
        refine ⟨b31, e32, ?_⟩
        obtain ⟨c35, h1⟩ := h1
        obtain ⟨_, h2⟩ := h2
        refine ⟨c35, ?_⟩
        refine ⟨?_, ?_⟩
        · intro c36
          have h1 := h1.1 c36
          have h2 := h2.1 c36
          obtain ⟨b37, e38, h1⟩ := h1
          obtain ⟨b39, e40, h2⟩ := h2
          cases e38.symm.trans e40
          refine ⟨b37, e38, ?_⟩
          obtain ⟨c41, h1⟩ := h1
          obtain ⟨_, h2⟩ := h2
          refine ⟨c41, ?_⟩
          obtain ⟨b42, e43, h1⟩ := h1
          obtain ⟨b44, e45, h2⟩ := h2
          cases e43.symm.trans e45
          refine ⟨b42, e43, ?_⟩
          obtain ⟨c46, h1⟩ := h1
          obtain ⟨_, h2⟩ := h2
          refine ⟨c46, ?_⟩
          obtain ⟨c47, h1⟩ := h1
          obtain ⟨_, h2⟩ := h2
          refine ⟨c47, ?_⟩
          intro x49 e48
          have h1 := h1 x49 e48
          have h2 := h2 x49 e48
          exact hq _ _ h1 h2
        · intro c50
          have h1 := h1.2 c50
          have h2 := h2.2 c50
          exact cm_X9_step_61 h1 h2 hq
  · intro c51
    have h1 := h1.2 c51
    have h2 := h2.2 c51
    exact hq _ _ h1 h2
theorem cm_X9_step {Q1 Q2 Q3 : Int32 → HS → Prop} {v0 : Nat} {v1 : Int32} {v2 : Int32} {v3 : Int32} {v4 : Int32} {v5 : Int32} {v6 : Int32} {S : HS} (h1 : P_X9_step v0 v1 v2 v3 v4 v5 v6 Q1 S) (h2 : P_X9_step v0 v1 v2 v3 v4 v5 v6 Q2 S) (hq : ∀ (r : Int32) (T : HS), Q1 r T → Q2 r T → Q3 r T) : P_X9_step v0 v1 v2 v3 v4 v5 v6 Q3 S := cm_X9_step_0 h1 h2 hq
set_option maxRecDepth 20000 in
set_option maxHeartbeats 1000000 in
theorem cm_X9_steps_0 {Q1 Q2 Q3 : Int32 → HS → Prop} {v0 : Nat} {v1 : Int32} {v2 : Int32} {v3 : Int32} {v4 : Int32} {v5 : Int32} {S : HS} (h1 : P_X9_steps_0 Q1 v0 v1 v2 v3 v4 v5 S) (h2 : P_X9_steps_0 Q2 v0 v1 v2 v3 v4 v5 S) (hq : ∀ (r : Int32) (T : HS), Q1 r T → Q2 r T → Q3 r T) : P_X9_steps_0 Q3 v0 v1 v2 v3 v4 v5 S := by
  delta P_X9_steps_0 at h1 h2 ⊢
  obtain ⟨c1, h1⟩ := h1
  obtain ⟨_, h2⟩ := h2
  refine ⟨c1, ?_⟩
  refine cm_X9_wayTrouble h1 h2 (fun x2 x3 h1 h2 g4 => ?_)
  have h1 := h1 g4
  have h2 := h2 g4
  refine cm_X9_refusedBy h1 h2 (fun x5 x6 h1 h2 g7 g8 => ?_)
  have h1 := h1 g7 g8
  have h2 := h2 g7 g8
  refine ⟨?_, ?_⟩
  · intro c9
    have h1 := h1.1 c9
    have h2 := h2.1 c9
    obtain ⟨b10, e11, h1⟩ := h1
    obtain ⟨b12, e13, h2⟩ := h2
    cases e11.symm.trans e13
    refine ⟨b10, e11, ?_⟩
    obtain ⟨b14, e15, h1⟩ := h1
    obtain ⟨b16, e17, h2⟩ := h2
    cases e15.symm.trans e17
    refine ⟨b14, e15, ?_⟩
    obtain ⟨c18, h1⟩ := h1
    obtain ⟨_, h2⟩ := h2
    refine ⟨c18, ?_⟩
    refine cm_X7_trace h1 h2 (fun x19 x20 h1 h2 g21 => ?_)
    have h1 := h1 g21
    have h2 := h2 g21
    exact hq _ _ h1 h2
  · intro c22
    have h1 := h1.2 c22
    have h2 := h2.2 c22
    exact hq _ _ h1 h2
theorem cm_X9_steps {Q1 Q2 Q3 : Int32 → HS → Prop} {v0 : Nat} {v1 : Int32} {v2 : Int32} {v3 : Int32} {v4 : Int32} {v5 : Int32} {S : HS} (h1 : P_X9_steps v0 v1 v2 v3 v4 v5 Q1 S) (h2 : P_X9_steps v0 v1 v2 v3 v4 v5 Q2 S) (hq : ∀ (r : Int32) (T : HS), Q1 r T → Q2 r T → Q3 r T) : P_X9_steps v0 v1 v2 v3 v4 v5 Q3 S := cm_X9_steps_0 h1 h2 hq
set_option maxRecDepth 20000 in
set_option maxHeartbeats 1000000 in
theorem cm_X9_there_0 {Q1 Q2 Q3 : Int32 → HS → Prop} {v0 : Nat} {v1 : Int32} {v2 : Int32} {v3 : Int32} {v4 : Int32} {v5 : Int32} {S : HS} (h1 : P_X9_there_0 Q1 v0 v1 v2 v3 v4 v5 S) (h2 : P_X9_there_0 Q2 v0 v1 v2 v3 v4 v5 S) (hq : ∀ (r : Int32) (T : HS), Q1 r T → Q2 r T → Q3 r T) : P_X9_there_0 Q3 v0 v1 v2 v3 v4 v5 S := by
  delta P_X9_there_0 at h1 h2 ⊢
  obtain ⟨c1, h1⟩ := h1
  obtain ⟨_, h2⟩ := h2
  refine ⟨c1, ?_⟩
  refine cm_X9_wayTrouble h1 h2 (fun x2 x3 h1 h2 g4 => ?_)
  have h1 := h1 g4
  have h2 := h2 g4
  refine cm_X9_refusedBy h1 h2 (fun x5 x6 h1 h2 g7 g8 => ?_)
  have h1 := h1 g7 g8
  have h2 := h2 g7 g8
  refine ⟨?_, ?_⟩
  · intro c9
    have h1 := h1.1 c9
    have h2 := h2.1 c9
    obtain ⟨b10, e11, h1⟩ := h1
    obtain ⟨b12, e13, h2⟩ := h2
    cases e11.symm.trans e13
    refine ⟨b10, e11, ?_⟩
    obtain ⟨c14, h1⟩ := h1
    obtain ⟨_, h2⟩ := h2
    refine ⟨c14, ?_⟩
    refine cm_X7_endFrom h1 h2 (fun x15 x16 h1 h2 g17 => ?_)
    have h1 := h1 g17
    have h2 := h2 g17
    exact hq _ _ h1 h2
  · intro c18
    have h1 := h1.2 c18
    have h2 := h2.2 c18
    exact hq _ _ h1 h2
theorem cm_X9_there {Q1 Q2 Q3 : Int32 → HS → Prop} {v0 : Nat} {v1 : Int32} {v2 : Int32} {v3 : Int32} {v4 : Int32} {v5 : Int32} {S : HS} (h1 : P_X9_there v0 v1 v2 v3 v4 v5 Q1 S) (h2 : P_X9_there v0 v1 v2 v3 v4 v5 Q2 S) (hq : ∀ (r : Int32) (T : HS), Q1 r T → Q2 r T → Q3 r T) : P_X9_there v0 v1 v2 v3 v4 v5 Q3 S := cm_X9_there_0 h1 h2 hq
set_option maxRecDepth 20000 in
set_option maxHeartbeats 1000000 in
theorem cm_X9_undo_17 {Q1 Q2 Q3 : Int32 → HS → Prop} {s0 : Nat} {s1 : Int32} {S : HS} (h1 : P_X9_undo_17 Q1 s0 s1 S) (h2 : P_X9_undo_17 Q2 s0 s1 S) (hq : ∀ (r : Int32) (T : HS), Q1 r T → Q2 r T → Q3 r T) : P_X9_undo_17 Q3 s0 s1 S := by
  delta P_X9_undo_17 at h1 h2 ⊢
  obtain ⟨c1, h1⟩ := h1
  obtain ⟨_, h2⟩ := h2
  refine ⟨c1, ?_⟩
  refine cm_X9_refusedBy h1 h2 (fun x2 x3 h1 h2 g4 g5 => ?_)
  have h1 := h1 g4 g5
  have h2 := h2 g4 g5
  refine ⟨?_, ?_⟩
  · intro c6
    have h1 := h1.1 c6
    have h2 := h2.1 c6
    exact hq _ _ h1 h2
  · intro c7
    have h1 := h1.2 c7
    have h2 := h2.2 c7
    exact hq _ _ h1 h2
set_option maxRecDepth 20000 in
set_option maxHeartbeats 1000000 in
theorem cm_X9_undo_0 {Q1 Q2 Q3 : Int32 → HS → Prop} {v0 : Nat} {S : HS} (h1 : P_X9_undo_0 Q1 v0 S) (h2 : P_X9_undo_0 Q2 v0 S) (hq : ∀ (r : Int32) (T : HS), Q1 r T → Q2 r T → Q3 r T) : P_X9_undo_0 Q3 v0 S := by
  delta P_X9_undo_0 at h1 h2 ⊢
  obtain ⟨c1, h1⟩ := h1
  obtain ⟨_, h2⟩ := h2
  refine ⟨c1, ?_⟩
  obtain ⟨b2, e3, h1⟩ := h1
  obtain ⟨b4, e5, h2⟩ := h2
  cases e3.symm.trans e5
  refine ⟨b2, e3, ?_⟩
  obtain ⟨c6, h1⟩ := h1
  obtain ⟨_, h2⟩ := h2
  refine ⟨c6, ?_⟩
  refine cm_X0_takeBack h1 h2 (fun x7 x8 h1 h2 g9 g10 => ?_)
  have h1 := h1 g9 g10
  have h2 := h2 g9 g10
  refine ⟨?_, ?_⟩
  · intro c11
    have h1 := h1.1 c11
    have h2 := h2.1 c11
    exact cm_X9_undo_17 h1 h2 hq
  · intro c12
    have h1 := h1.2 c12
    have h2 := h2.2 c12
    exact cm_X9_undo_17 h1 h2 hq
theorem cm_X9_undo {Q1 Q2 Q3 : Int32 → HS → Prop} {v0 : Nat} {S : HS} (h1 : P_X9_undo v0 Q1 S) (h2 : P_X9_undo v0 Q2 S) (hq : ∀ (r : Int32) (T : HS), Q1 r T → Q2 r T → Q3 r T) : P_X9_undo v0 Q3 S := cm_X9_undo_0 h1 h2 hq
set_option maxRecDepth 20000 in
set_option maxHeartbeats 1000000 in
theorem cm_X9_walker_21 {Q1 Q2 Q3 : Int32 → HS → Prop} {v0 : Nat} {S : HS} (h1 : P_X9_walker_21 Q1 v0 S) (h2 : P_X9_walker_21 Q2 v0 S) (hq : ∀ (r : Int32) (T : HS), Q1 r T → Q2 r T → Q3 r T) : P_X9_walker_21 Q3 v0 S := by
  delta P_X9_walker_21 at h1 h2 ⊢
  obtain ⟨c1, h1⟩ := h1
  obtain ⟨_, h2⟩ := h2
  refine ⟨c1, ?_⟩
  refine cm_X9_refuse h1 h2 (fun x2 x3 h1 h2 g4 => ?_)
  have h1 := h1 g4
  have h2 := h2 g4
  exact hq _ _ h1 h2
set_option maxRecDepth 20000 in
set_option maxHeartbeats 1000000 in
theorem cm_X9_walker_0 {Q1 Q2 Q3 : Int32 → HS → Prop} {v0 : Nat} {v1 : Int32} {v2 : Int32} {S : HS} (h1 : P_X9_walker_0 Q1 v0 v1 v2 S) (h2 : P_X9_walker_0 Q2 v0 v1 v2 S) (hq : ∀ (r : Int32) (T : HS), Q1 r T → Q2 r T → Q3 r T) : P_X9_walker_0 Q3 v0 v1 v2 S := by
  delta P_X9_walker_0 at h1 h2 ⊢
  obtain ⟨c1, h1⟩ := h1
  obtain ⟨_, h2⟩ := h2
  refine ⟨c1, ?_⟩
  obtain ⟨b2, e3, h1⟩ := h1
  obtain ⟨b4, e5, h2⟩ := h2
  cases e3.symm.trans e5
  refine ⟨b2, e3, ?_⟩
  obtain ⟨c6, h1⟩ := h1
  obtain ⟨_, h2⟩ := h2
  refine ⟨c6, ?_⟩
  refine cm_X8_hasWalker h1 h2 (fun x7 x8 h1 h2 g9 g10 => ?_)
  have h1 := h1 g9 g10
  have h2 := h2 g9 g10
  refine ⟨?_, ?_⟩
  · intro c11
    have h1 := h1.1 c11
    have h2 := h2.1 c11
    exact cm_X9_walker_21 h1 h2 hq
  · intro c12
    have h1 := h1.2 c12
    have h2 := h2.2 c12
    refine ⟨?_, ?_⟩
    · intro c13
      have h1 := h1.1 c13
      have h2 := h2.1 c13
      exact cm_X9_walker_21 h1 h2 hq
    · intro c14
      have h1 := h1.2 c14
      have h2 := h2.2 c14
      refine ⟨?_, ?_⟩
      · intro c15
        have h1 := h1.1 c15
        have h2 := h2.1 c15
        obtain ⟨b16, e17, h1⟩ := h1
        obtain ⟨b18, e19, h2⟩ := h2
        cases e17.symm.trans e19
        refine ⟨b16, e17, ?_⟩
        obtain ⟨c20, h1⟩ := h1
        obtain ⟨_, h2⟩ := h2
        refine ⟨c20, ?_⟩
        obtain ⟨b21, e22, h1⟩ := h1
        obtain ⟨b23, e24, h2⟩ := h2
        cases e22.symm.trans e24
        refine ⟨b21, e22, ?_⟩
        obtain ⟨c25, h1⟩ := h1
        obtain ⟨_, h2⟩ := h2
        refine ⟨c25, ?_⟩
        obtain ⟨c26, h1⟩ := h1
        obtain ⟨_, h2⟩ := h2
        refine ⟨c26, ?_⟩
        obtain ⟨b27, e28, h1⟩ := h1
        obtain ⟨b29, e30, h2⟩ := h2
        cases e28.symm.trans e30
        refine ⟨b27, e28, ?_⟩
        obtain ⟨c31, h1⟩ := h1
        obtain ⟨_, h2⟩ := h2
        refine ⟨c31, ?_⟩
        refine cm_X6_tell h1 h2 (fun x32 x33 h1 h2 g34 => ?_)
        have h1 := h1 g34
        have h2 := h2 g34
        refine cm_X9_grant h1 h2 (fun x35 x36 h1 h2 g37 => ?_)
        have h1 := h1 g37
        have h2 := h2 g37
        exact hq _ _ h1 h2
      · intro c38
        have h1 := h1.2 c38
        have h2 := h2.2 c38
        exact cm_X9_walker_21 h1 h2 hq
theorem cm_X9_walker {Q1 Q2 Q3 : Int32 → HS → Prop} {v0 : Nat} {v1 : Int32} {v2 : Int32} {S : HS} (h1 : P_X9_walker v0 v1 v2 Q1 S) (h2 : P_X9_walker v0 v1 v2 Q2 S) (hq : ∀ (r : Int32) (T : HS), Q1 r T → Q2 r T → Q3 r T) : P_X9_walker v0 v1 v2 Q3 S := cm_X9_walker_0 h1 h2 hq
set_option maxRecDepth 20000 in
set_option maxHeartbeats 1000000 in
theorem cm_X9_wet_0 {Q1 Q2 Q3 : Int64 → HS → Prop} {v0 : Nat} {v1 : Int32} {v2 : Int32} {v3 : Int32} {v4 : Int32} {v5 : Int32} {v6 : Int32} {S : HS} (h1 : P_X9_wet_0 Q1 v0 v1 v2 v3 v4 v5 v6 S) (h2 : P_X9_wet_0 Q2 v0 v1 v2 v3 v4 v5 v6 S) (hq : ∀ (r : Int64) (T : HS), Q1 r T → Q2 r T → Q3 r T) : P_X9_wet_0 Q3 v0 v1 v2 v3 v4 v5 v6 S := by
  delta P_X9_wet_0 at h1 h2 ⊢
  obtain ⟨c1, h1⟩ := h1
  obtain ⟨_, h2⟩ := h2
  refine ⟨c1, ?_⟩
  refine cm_X9_legTrouble h1 h2 (fun x2 x3 h1 h2 g4 => ?_)
  have h1 := h1 g4
  have h2 := h2 g4
  refine cm_X9_refusedBy h1 h2 (fun x5 x6 h1 h2 g7 g8 => ?_)
  have h1 := h1 g7 g8
  have h2 := h2 g7 g8
  refine ⟨?_, ?_⟩
  · intro c9
    have h1 := h1.1 c9
    have h2 := h2.1 c9
    obtain ⟨b10, e11, h1⟩ := h1
    obtain ⟨b12, e13, h2⟩ := h2
    cases e11.symm.trans e13
    refine ⟨b10, e11, ?_⟩
    obtain ⟨b14, e15, h1⟩ := h1
    obtain ⟨b16, e17, h2⟩ := h2
    cases e15.symm.trans e17
    refine ⟨b14, e15, ?_⟩
    obtain ⟨c18, h1⟩ := h1
    obtain ⟨_, h2⟩ := h2
    refine ⟨c18, ?_⟩
    obtain ⟨b19, e20, h1⟩ := h1
    obtain ⟨b21, e22, h2⟩ := h2
    cases e20.symm.trans e22
    refine ⟨b19, e20, ?_⟩
    obtain ⟨c23, h1⟩ := h1
    obtain ⟨_, h2⟩ := h2
    refine ⟨c23, ?_⟩
    obtain ⟨c24, h1⟩ := h1
    obtain ⟨_, h2⟩ := h2
    refine ⟨c24, ?_⟩
    obtain ⟨b25, e26, h1⟩ := h1
    obtain ⟨b27, e28, h2⟩ := h2
    cases e26.symm.trans e28
    refine ⟨b25, e26, ?_⟩
    obtain ⟨b29, e30, h1⟩ := h1
    obtain ⟨b31, e32, h2⟩ := h2
    cases e30.symm.trans e32
    refine ⟨b29, e30, ?_⟩
    obtain ⟨c33, h1⟩ := h1
    obtain ⟨_, h2⟩ := h2
    refine ⟨c33, ?_⟩
    obtain ⟨b34, e35, h1⟩ := h1
    obtain ⟨b36, e37, h2⟩ := h2
    cases e35.symm.trans e37
    refine ⟨b34, e35, ?_⟩
    obtain ⟨c38, h1⟩ := h1
    obtain ⟨_, h2⟩ := h2
    refine ⟨c38, ?_⟩
    obtain ⟨c39, h1⟩ := h1
    obtain ⟨_, h2⟩ := h2
    refine ⟨c39, ?_⟩
    obtain ⟨b40, e41, h1⟩ := h1
    obtain ⟨b42, e43, h2⟩ := h2
    cases e41.symm.trans e43
    refine ⟨b40, e41, ?_⟩
    obtain ⟨b44, e45, h1⟩ := h1
    obtain ⟨b46, e47, h2⟩ := h2
    cases e45.symm.trans e47
    refine ⟨b44, e45, ?_⟩
    obtain ⟨c48, h1⟩ := h1
    obtain ⟨_, h2⟩ := h2
    refine ⟨c48, ?_⟩
    obtain ⟨b49, e50, h1⟩ := h1
    obtain ⟨b51, e52, h2⟩ := h2
    cases e50.symm.trans e52
    refine ⟨b49, e50, ?_⟩
    obtain ⟨c53, h1⟩ := h1
    obtain ⟨_, h2⟩ := h2
    refine ⟨c53, ?_⟩
    obtain ⟨c54, h1⟩ := h1
    obtain ⟨_, h2⟩ := h2
    refine ⟨c54, ?_⟩
    obtain ⟨b55, e56, h1⟩ := h1
    obtain ⟨b57, e58, h2⟩ := h2
    cases e56.symm.trans e58
    refine ⟨b55, e56, ?_⟩
    obtain ⟨c59, h1⟩ := h1
    obtain ⟨_, h2⟩ := h2
    refine ⟨c59, ?_⟩
    refine cm_X1_wetOf h1 h2 (fun x60 x61 h1 h2 g62 => ?_)
    have h1 := h1 g62
    have h2 := h2 g62
    refine cm_X9_fraction h1 h2 (fun x63 x64 h1 h2 g65 => ?_)
    have h1 := h1 g65
    have h2 := h2 g65
    exact hq _ _ h1 h2
  · intro c66
    have h1 := h1.2 c66
    have h2 := h2.2 c66
    exact hq _ _ h1 h2
theorem cm_X9_wet {Q1 Q2 Q3 : Int64 → HS → Prop} {v0 : Nat} {v1 : Int32} {v2 : Int32} {v3 : Int32} {v4 : Int32} {v5 : Int32} {v6 : Int32} {S : HS} (h1 : P_X9_wet v0 v1 v2 v3 v4 v5 v6 Q1 S) (h2 : P_X9_wet v0 v1 v2 v3 v4 v5 v6 Q2 S) (hq : ∀ (r : Int64) (T : HS), Q1 r T → Q2 r T → Q3 r T) : P_X9_wet v0 v1 v2 v3 v4 v5 v6 Q3 S := cm_X9_wet_0 h1 h2 hq
set_option maxRecDepth 20000 in
set_option maxHeartbeats 1000000 in
theorem cm_X9_wetness_27 {Q1 Q2 Q3 : Int64 → HS → Prop} {v0 : Nat} {S : HS} (h1 : P_X9_wetness_27 Q1 v0 S) (h2 : P_X9_wetness_27 Q2 v0 S) (hq : ∀ (r : Int64) (T : HS), Q1 r T → Q2 r T → Q3 r T) : P_X9_wetness_27 Q3 v0 S := by
  delta P_X9_wetness_27 at h1 h2 ⊢
  obtain ⟨c1, h1⟩ := h1
  obtain ⟨_, h2⟩ := h2
  refine ⟨c1, ?_⟩
  refine cm_X9_refuse h1 h2 (fun x2 x3 h1 h2 g4 => ?_)
  have h1 := h1 g4
  have h2 := h2 g4
  exact hq _ _ h1 h2
set_option maxRecDepth 20000 in
set_option maxHeartbeats 1000000 in
theorem cm_X9_wetness_0 {Q1 Q2 Q3 : Int64 → HS → Prop} {v0 : Nat} {v1 : Int32} {S : HS} (h1 : P_X9_wetness_0 Q1 v0 v1 S) (h2 : P_X9_wetness_0 Q2 v0 v1 S) (hq : ∀ (r : Int64) (T : HS), Q1 r T → Q2 r T → Q3 r T) : P_X9_wetness_0 Q3 v0 v1 S := by
  delta P_X9_wetness_0 at h1 h2 ⊢
  obtain ⟨c1, h1⟩ := h1
  obtain ⟨_, h2⟩ := h2
  refine ⟨c1, ?_⟩
  obtain ⟨b2, e3, h1⟩ := h1
  obtain ⟨b4, e5, h2⟩ := h2
  cases e3.symm.trans e5
  refine ⟨b2, e3, ?_⟩
  obtain ⟨c6, h1⟩ := h1
  obtain ⟨_, h2⟩ := h2
  refine ⟨c6, ?_⟩
  refine cm_X0_isOn h1 h2 (fun x7 x8 h1 h2 g9 g10 => ?_)
  have h1 := h1 g9 g10
  have h2 := h2 g9 g10
  refine ⟨?_, ?_⟩
  · intro c11
    have h1 := h1.1 c11
    have h2 := h2.1 c11
    exact cm_X9_wetness_27 h1 h2 hq
  · intro c12
    have h1 := h1.2 c12
    have h2 := h2.2 c12
    obtain ⟨b13, e14, h1⟩ := h1
    obtain ⟨b15, e16, h2⟩ := h2
    cases e14.symm.trans e16
    refine ⟨b13, e14, ?_⟩
    obtain ⟨b17, e18, h1⟩ := h1
    obtain ⟨b19, e20, h2⟩ := h2
    cases e18.symm.trans e20
    refine ⟨b17, e18, ?_⟩
    obtain ⟨c21, h1⟩ := h1
    obtain ⟨_, h2⟩ := h2
    refine ⟨c21, ?_⟩
    intro x23 e22
    have h1 := h1 x23 e22
    have h2 := h2 x23 e22
    obtain ⟨c24, h1⟩ := h1
    obtain ⟨_, h2⟩ := h2
    refine ⟨c24, ?_⟩
    refine cm_X8_hasWalker h1 h2 (fun x25 x26 h1 h2 g27 g28 => ?_)
    have h1 := h1 g27 g28
    have h2 := h2 g27 g28
    refine ⟨?_, ?_⟩
    · intro c29
      have h1 := h1.1 c29
      have h2 := h2.1 c29
      intro x31 e30
      have h1 := h1 x31 e30
      have h2 := h2 x31 e30
      obtain ⟨b32, e33, h1⟩ := h1
      obtain ⟨b34, e35, h2⟩ := h2
      cases e33.symm.trans e35
      refine ⟨b32, e33, ?_⟩
      obtain ⟨c36, h1⟩ := h1
      obtain ⟨_, h2⟩ := h2
      refine ⟨c36, ?_⟩
      obtain ⟨b37, e38, h1⟩ := h1
      obtain ⟨b39, e40, h2⟩ := h2
      cases e38.symm.trans e40
      refine ⟨b37, e38, ?_⟩
      obtain ⟨c41, h1⟩ := h1
      obtain ⟨_, h2⟩ := h2
      refine ⟨c41, ?_⟩
      refine cm_X2_allGot h1 h2 (fun x42 x43 h1 h2 g44 => ?_)
      have h1 := h1 g44
      have h2 := h2 g44
      obtain ⟨b45, e46, h1⟩ := h1
      obtain ⟨b47, e48, h2⟩ := h2
      cases e46.symm.trans e48
      refine ⟨b45, e46, ?_⟩
      obtain ⟨c49, h1⟩ := h1
      obtain ⟨_, h2⟩ := h2
      refine ⟨c49, ?_⟩
      obtain ⟨b50, e51, h1⟩ := h1
      obtain ⟨b52, e53, h2⟩ := h2
      cases e51.symm.trans e53
      refine ⟨b50, e51, ?_⟩
      obtain ⟨b54, e55, h1⟩ := h1
      obtain ⟨b56, e57, h2⟩ := h2
      cases e55.symm.trans e57
      refine ⟨b54, e55, ?_⟩
      obtain ⟨c58, h1⟩ := h1
      obtain ⟨_, h2⟩ := h2
      refine ⟨c58, ?_⟩
      intro x60 e59
      have h1 := h1 x60 e59
      have h2 := h2 x60 e59
      obtain ⟨c61, h1⟩ := h1
      obtain ⟨_, h2⟩ := h2
      refine ⟨c61, ?_⟩
      obtain ⟨c62, h1⟩ := h1
      obtain ⟨_, h2⟩ := h2
      refine ⟨c62, ?_⟩
      obtain ⟨b63, e64, h1⟩ := h1
      obtain ⟨b65, e66, h2⟩ := h2
      cases e64.symm.trans e66
      refine ⟨b63, e64, ?_⟩
      refine cm_X9_coatParts h1 h2 (fun x67 x68 h1 h2 g69 => ?_)
      have h1 := h1 g69
      have h2 := h2 g69
      intro x71 e70
      have h1 := h1 x71 e70
      have h2 := h2 x71 e70
      intro x73 e72
      have h1 := h1 x73 e72
      have h2 := h2 x73 e72
      refine cm_X9_fraction h1 h2 (fun x74 x75 h1 h2 g76 => ?_)
      have h1 := h1 g76
      have h2 := h2 g76
      exact hq _ _ h1 h2
    · intro c77
      have h1 := h1.2 c77
      have h2 := h2.2 c77
      exact cm_X9_wetness_27 h1 h2 hq
theorem cm_X9_wetness {Q1 Q2 Q3 : Int64 → HS → Prop} {v0 : Nat} {v1 : Int32} {S : HS} (h1 : P_X9_wetness v0 v1 Q1 S) (h2 : P_X9_wetness v0 v1 Q2 S) (hq : ∀ (r : Int64) (T : HS), Q1 r T → Q2 r T → Q3 r T) : P_X9_wetness v0 v1 Q3 S := cm_X9_wetness_0 h1 h2 hq
set_option maxRecDepth 20000 in
set_option maxHeartbeats 1000000 in
theorem cm_X9_where_0 {Q1 Q2 Q3 : Int32 → HS → Prop} {v0 : Nat} {S : HS} (h1 : P_X9_where_0 Q1 v0 S) (h2 : P_X9_where_0 Q2 v0 S) (hq : ∀ (r : Int32) (T : HS), Q1 r T → Q2 r T → Q3 r T) : P_X9_where_0 Q3 v0 S := by
  delta P_X9_where_0 at h1 h2 ⊢
  obtain ⟨c1, h1⟩ := h1
  obtain ⟨_, h2⟩ := h2
  refine ⟨c1, ?_⟩
  intro x3 e2
  have h1 := h1 x3 e2
  have h2 := h2 x3 e2
  refine ⟨?_, ?_⟩
  · intro c4
    have h1 := h1.1 c4
    have h2 := h2.1 c4
    exact hq _ _ h1 h2
  · intro c5
    have h1 := h1.2 c5
    have h2 := h2.2 c5
    intro x7 e6
    have h1 := h1 x7 e6
    have h2 := h2 x7 e6
    exact hq _ _ h1 h2
theorem cm_X9_where {Q1 Q2 Q3 : Int32 → HS → Prop} {v0 : Nat} {S : HS} (h1 : P_X9_where v0 Q1 S) (h2 : P_X9_where v0 Q2 S) (hq : ∀ (r : Int32) (T : HS), Q1 r T → Q2 r T → Q3 r T) : P_X9_where v0 Q3 S := cm_X9_where_0 h1 h2 hq
set_option maxRecDepth 20000 in
set_option maxHeartbeats 1000000 in
theorem cm_X9_world_12 {Q1 Q2 Q3 : Int32 → HS → Prop} {v0 : Nat} {S : HS} (h1 : P_X9_world_12 Q1 v0 S) (h2 : P_X9_world_12 Q2 v0 S) (hq : ∀ (r : Int32) (T : HS), Q1 r T → Q2 r T → Q3 r T) : P_X9_world_12 Q3 v0 S := by
  delta P_X9_world_12 at h1 h2 ⊢
  obtain ⟨c1, h1⟩ := h1
  obtain ⟨_, h2⟩ := h2
  refine ⟨c1, ?_⟩
  refine cm_X9_refuse h1 h2 (fun x2 x3 h1 h2 g4 => ?_)
  have h1 := h1 g4
  have h2 := h2 g4
  exact hq _ _ h1 h2
set_option maxRecDepth 20000 in
set_option maxHeartbeats 1000000 in
theorem cm_X9_world_0 {Q1 Q2 Q3 : Int32 → HS → Prop} {v0 : Nat} {v1 : Int32} {S : HS} (h1 : P_X9_world_0 Q1 v0 v1 S) (h2 : P_X9_world_0 Q2 v0 v1 S) (hq : ∀ (r : Int32) (T : HS), Q1 r T → Q2 r T → Q3 r T) : P_X9_world_0 Q3 v0 v1 S := by
  delta P_X9_world_0 at h1 h2 ⊢
  refine ⟨?_, ?_⟩
  · intro c1
    have h1 := h1.1 c1
    have h2 := h2.1 c1
    exact cm_X9_world_12 h1 h2 hq
  · intro c2
    have h1 := h1.2 c2
    have h2 := h2.2 c2
    obtain ⟨c3, h1⟩ := h1
    obtain ⟨_, h2⟩ := h2
    refine ⟨c3, ?_⟩
    intro x5 e4
    have h1 := h1 x5 e4
    have h2 := h2 x5 e4
    refine ⟨?_, ?_⟩
    · intro c6
      have h1 := h1.1 c6
      have h2 := h2.1 c6
      obtain ⟨b7, e8, h1⟩ := h1
      obtain ⟨b9, e10, h2⟩ := h2
      cases e8.symm.trans e10
      refine ⟨b7, e8, ?_⟩
      obtain ⟨b11, e12, h1⟩ := h1
      obtain ⟨b13, e14, h2⟩ := h2
      cases e12.symm.trans e14
      refine ⟨b11, e12, ?_⟩
      obtain ⟨c15, h1⟩ := h1
      obtain ⟨_, h2⟩ := h2
      refine ⟨c15, ?_⟩
      refine cm_X4_read h1 h2 (fun x16 x17 h1 h2 g18 g19 => ?_)
      have h1 := h1 g18 g19
      have h2 := h2 g18 g19
      intro x21 e20
      have h1 := h1 x21 e20
      have h2 := h2 x21 e20
      obtain ⟨b22, e23, h1⟩ := h1
      obtain ⟨b24, e25, h2⟩ := h2
      cases e23.symm.trans e25
      refine ⟨b22, e23, ?_⟩
      obtain ⟨c26, h1⟩ := h1
      obtain ⟨_, h2⟩ := h2
      refine ⟨c26, ?_⟩
      intro x28 e27
      have h1 := h1 x28 e27
      have h2 := h2 x28 e27
      intro x30 e29
      have h1 := h1 x30 e29
      have h2 := h2 x30 e29
      obtain ⟨b31, e32, h1⟩ := h1
      obtain ⟨b33, e34, h2⟩ := h2
      cases e32.symm.trans e34
      refine ⟨b31, e32, ?_⟩
      obtain ⟨c35, h1⟩ := h1
      obtain ⟨_, h2⟩ := h2
      refine ⟨c35, ?_⟩
      intro x37 e36
      have h1 := h1 x37 e36
      have h2 := h2 x37 e36
      intro x39 e38
      have h1 := h1 x39 e38
      have h2 := h2 x39 e38
      refine ⟨?_, ?_⟩
      · intro c40
        have h1 := h1.1 c40
        have h2 := h2.1 c40
        obtain ⟨b41, e42, h1⟩ := h1
        obtain ⟨b43, e44, h2⟩ := h2
        cases e42.symm.trans e44
        refine ⟨b41, e42, ?_⟩
        obtain ⟨b45, e46, h1⟩ := h1
        obtain ⟨b47, e48, h2⟩ := h2
        cases e46.symm.trans e48
        refine ⟨b45, e46, ?_⟩
        obtain ⟨c49, h1⟩ := h1
        obtain ⟨_, h2⟩ := h2
        refine ⟨c49, ?_⟩
        refine cm_X4_exchange h1 h2 (fun x50 x51 h1 h2 g52 => ?_)
        have h1 := h1 g52
        have h2 := h2 g52
        intro x54 e53
        have h1 := h1 x54 e53
        have h2 := h2 x54 e53
        obtain ⟨b55, e56, h1⟩ := h1
        obtain ⟨b57, e58, h2⟩ := h2
        cases e56.symm.trans e58
        refine ⟨b55, e56, ?_⟩
        obtain ⟨c59, h1⟩ := h1
        obtain ⟨_, h2⟩ := h2
        refine ⟨c59, ?_⟩
        refine cm_X7_forget h1 h2 (fun x60 h1 h2 g61 => ?_)
        have h1 := h1 g61
        have h2 := h2 g61
        obtain ⟨b62, e63, h1⟩ := h1
        obtain ⟨b64, e65, h2⟩ := h2
        cases e63.symm.trans e65
        refine ⟨b62, e63, ?_⟩
        obtain ⟨c66, h1⟩ := h1
        obtain ⟨_, h2⟩ := h2
        refine ⟨c66, ?_⟩
        refine cm_X0_end h1 h2 (fun x67 h1 h2 g68 => ?_)
        have h1 := h1 g68
        have h2 := h2 g68
        obtain ⟨b69, e70, h1⟩ := h1
        obtain ⟨b71, e72, h2⟩ := h2
        cases e70.symm.trans e72
        refine ⟨b69, e70, ?_⟩
        obtain ⟨c73, h1⟩ := h1
        obtain ⟨_, h2⟩ := h2
        refine ⟨c73, ?_⟩
        intro x75 e74
        have h1 := h1 x75 e74
        have h2 := h2 x75 e74
        refine cm_X9_grant h1 h2 (fun x76 x77 h1 h2 g78 => ?_)
        have h1 := h1 g78
        have h2 := h2 g78
        exact hq _ _ h1 h2
      · intro c79
        have h1 := h1.2 c79
        have h2 := h2.2 c79
        refine cm_X9_refuse h1 h2 (fun x80 x81 h1 h2 g82 => ?_)
        have h1 := h1 g82
        have h2 := h2 g82
        exact hq _ _ h1 h2
    · intro c83
      have h1 := h1.2 c83
      have h2 := h2.2 c83
      exact cm_X9_world_12 h1 h2 hq
theorem cm_X9_world {Q1 Q2 Q3 : Int32 → HS → Prop} {v0 : Nat} {v1 : Int32} {S : HS} (h1 : P_X9_world v0 v1 Q1 S) (h2 : P_X9_world v0 v1 Q2 S) (hq : ∀ (r : Int32) (T : HS), Q1 r T → Q2 r T → Q3 r T) : P_X9_world v0 v1 Q3 S := cm_X9_world_0 h1 h2 hq
set_option maxRecDepth 20000 in
set_option maxHeartbeats 1000000 in
theorem cm_X9_worst_0 {Q1 Q2 Q3 : Int32 → HS → Prop} {v0 : Nat} {v1 : Int32} {v2 : Int32} {v3 : Int32} {v4 : Int32} {S : HS} (h1 : P_X9_worst_0 Q1 v0 v1 v2 v3 v4 S) (h2 : P_X9_worst_0 Q2 v0 v1 v2 v3 v4 S) (hq : ∀ (r : Int32) (T : HS), Q1 r T → Q2 r T → Q3 r T) : P_X9_worst_0 Q3 v0 v1 v2 v3 v4 S := by
  delta P_X9_worst_0 at h1 h2 ⊢
  obtain ⟨c1, h1⟩ := h1
  obtain ⟨_, h2⟩ := h2
  refine ⟨c1, ?_⟩
  refine cm_X9_tripTrouble h1 h2 (fun x2 x3 h1 h2 g4 => ?_)
  have h1 := h1 g4
  have h2 := h2 g4
  refine cm_X9_refusedBy h1 h2 (fun x5 x6 h1 h2 g7 g8 => ?_)
  have h1 := h1 g7 g8
  have h2 := h2 g7 g8
  refine ⟨?_, ?_⟩
  · intro c9
    have h1 := h1.1 c9
    have h2 := h2.1 c9
    obtain ⟨b10, e11, h1⟩ := h1
    obtain ⟨b12, e13, h2⟩ := h2
    cases e11.symm.trans e13
    refine ⟨b10, e11, ?_⟩
    obtain ⟨b14, e15, h1⟩ := h1
    obtain ⟨b16, e17, h2⟩ := h2
    cases e15.symm.trans e17
    refine ⟨b14, e15, ?_⟩
    obtain ⟨c18, h1⟩ := h1
    obtain ⟨_, h2⟩ := h2
    refine ⟨c18, ?_⟩
    obtain ⟨b19, e20, h1⟩ := h1
    obtain ⟨b21, e22, h2⟩ := h2
    cases e20.symm.trans e22
    refine ⟨b19, e20, ?_⟩
    obtain ⟨c23, h1⟩ := h1
    obtain ⟨_, h2⟩ := h2
    refine ⟨c23, ?_⟩
    obtain ⟨c24, h1⟩ := h1
    obtain ⟨_, h2⟩ := h2
    refine ⟨c24, ?_⟩
    obtain ⟨b25, e26, h1⟩ := h1
    obtain ⟨b27, e28, h2⟩ := h2
    cases e26.symm.trans e28
    refine ⟨b25, e26, ?_⟩
    obtain ⟨b29, e30, h1⟩ := h1
    obtain ⟨b31, e32, h2⟩ := h2
    cases e30.symm.trans e32
    refine ⟨b29, e30, ?_⟩
    obtain ⟨c33, h1⟩ := h1
    obtain ⟨_, h2⟩ := h2
    refine ⟨c33, ?_⟩
    obtain ⟨b34, e35, h1⟩ := h1
    obtain ⟨b36, e37, h2⟩ := h2
    cases e35.symm.trans e37
    refine ⟨b34, e35, ?_⟩
    obtain ⟨c38, h1⟩ := h1
    obtain ⟨_, h2⟩ := h2
    refine ⟨c38, ?_⟩
    obtain ⟨c39, h1⟩ := h1
    obtain ⟨_, h2⟩ := h2
    refine ⟨c39, ?_⟩
    obtain ⟨b40, e41, h1⟩ := h1
    obtain ⟨b42, e43, h2⟩ := h2
    cases e41.symm.trans e43
    refine ⟨b40, e41, ?_⟩
    obtain ⟨b44, e45, h1⟩ := h1
    obtain ⟨b46, e47, h2⟩ := h2
    cases e45.symm.trans e47
    refine ⟨b44, e45, ?_⟩
    obtain ⟨c48, h1⟩ := h1
    obtain ⟨_, h2⟩ := h2
    refine ⟨c48, ?_⟩
    obtain ⟨b49, e50, h1⟩ := h1
    obtain ⟨b51, e52, h2⟩ := h2
    cases e50.symm.trans e52
    refine ⟨b49, e50, ?_⟩
    obtain ⟨c53, h1⟩ := h1
    obtain ⟨_, h2⟩ := h2
    refine ⟨c53, ?_⟩
    obtain ⟨c54, h1⟩ := h1
    obtain ⟨_, h2⟩ := h2
    refine ⟨c54, ?_⟩
    obtain ⟨b55, e56, h1⟩ := h1
    obtain ⟨b57, e58, h2⟩ := h2
    cases e56.symm.trans e58
    refine ⟨b55, e56, ?_⟩
    obtain ⟨c59, h1⟩ := h1
    obtain ⟨_, h2⟩ := h2
    refine ⟨c59, ?_⟩
    refine cm_X1_worstSpeed h1 h2 (fun x60 x61 h1 h2 g62 => ?_)
    have h1 := h1 g62
    have h2 := h2 g62
    exact hq _ _ h1 h2
  · intro c63
    have h1 := h1.2 c63
    have h2 := h2.2 c63
    exact hq _ _ h1 h2
theorem cm_X9_worst {Q1 Q2 Q3 : Int32 → HS → Prop} {v0 : Nat} {v1 : Int32} {v2 : Int32} {v3 : Int32} {v4 : Int32} {S : HS} (h1 : P_X9_worst v0 v1 v2 v3 v4 Q1 S) (h2 : P_X9_worst v0 v1 v2 v3 v4 Q2 S) (hq : ∀ (r : Int32) (T : HS), Q1 r T → Q2 r T → Q3 r T) : P_X9_worst v0 v1 v2 v3 v4 Q3 S := cm_X9_worst_0 h1 h2 hq
end
section
/-! what a run leaves as it was: the rows of bytes -/
def K2 (S T : HS) : Prop := Gr S T ∧ ∀ a, ob S a 12 → fI T a = fI S a
section K2s
variable {S T U : HS} {a k j : Nat}
theorem k2_rf (S : HS) : K2 S S := ⟨gr_rf S, fun _ _ => rfl⟩
theorem k2_tr (h : K2 S T) (g : K2 T U) : K2 S U := ⟨fun a ha => ⟨(g.1 a (h.1 a ha).1).1, (g.1 a (h.1 a ha).1).2.1.trans (h.1 a ha).2.1, (g.1 a (h.1 a ha).1).2.2.trans (h.1 a ha).2.2⟩, fun a o => (g.2 a (gr_ob h.1 o)).trans (h.2 a o)⟩
theorem k2_ne (h : K2 S T) (o : ob T a k) (hk : k ≠ 12) : ∀ b, ob S b 12 → b ≠ a := fun b ob z => hk (ob_inj (z ▸ o) (gr_ob h.1 ob))
theorem k2_I {v : Int32} (h : K2 S T) (e : U = sI T a j v) (hn : ∀ b, ob S b 12 → b ≠ a) : K2 S U := by
  rw [e]
  exact ⟨h.1, fun b o => (u2_row _ _ (hn b o)).trans (h.2 b o)⟩
theorem k2_J {v : Int64} (h : K2 S T) (e : U = sJ T a j v) : K2 S U := by
  rw [e]
  exact h
theorem k2_R {v : Option Nat} (h : K2 S T) (e : U = sR T a j v) : K2 S U := by
  rw [e]
  exact h
theorem k2_W {n : Nat} (h : K2 S T) (ha : a ∉ hL T) (e : U = nW T a k n) : K2 S U := by
  refine k2_tr h ⟨gr_of_new e ha, fun b o => ?_⟩
  rw [e]
  exact va_up_ne _ _ (fun z => ha (z ▸ o.1))
end K2s
set_option maxRecDepth 20000 in
set_option maxHeartbeats 1000000 in
theorem kf_X0_end_0 {Q : HS → Prop} {v0 : Nat} {S0 S : HS} (h : P_X0_end_0 Q v0 S) (K : K2 S0 S) : P_X0_end_0 (fun T => Q T ∧ K2 S0 T) v0 S := by
  delta P_X0_end_0 at h ⊢
  obtain ⟨c1, h⟩ := h
  refine ⟨c1, ?_⟩
  have n2 := k2_ne K c1 (by decide)
  intro x4 e3
  have h := h x4 e3
  have K := k2_I K e3 n2
  intro x6 e5
  have h := h x6 e5
  have K := k2_I K e5 n2
  intro x8 e7
  have h := h x8 e7
  have K := k2_I K e7 n2
  exact ⟨h, K⟩
theorem kf_X0_end {Q : HS → Prop} {v0 : Nat} {S : HS} (h : P_X0_end v0 Q S) : P_X0_end v0 (fun T => Q T ∧ K2 S T) S := kf_X0_end_0 h (k2_rf S)
set_option maxRecDepth 20000 in
set_option maxHeartbeats 1000000 in
theorem kfB_X0_begin_28 {Q : HS → Prop} {X28 X28_2 : Nat → Int32 → HS → Prop} {v0 : Nat} {v4 : Int32} {S0 S : HS} (h : B_X0_begin_28 Q X28 v0 v4 S) (K : K2 S0 S) (hX28 : ∀ (u0 : Nat) (u1 : Int32) (u2 : HS), X28 u0 u1 u2 → K2 S0 u2 → X28_2 u0 u1 u2) : B_X0_begin_28 (fun T => Q T ∧ K2 S0 T) X28_2 v0 v4 S := by
  delta B_X0_begin_28 at h ⊢
  refine ⟨?_, ?_⟩
  · intro c1
    have h := h.1 c1
    exact ⟨h, K⟩
  · intro c2
    have h := h.2 c2
    obtain ⟨c3, h⟩ := h
    refine ⟨c3, ?_⟩
    have n4 := k2_ne K c3 (by decide)
    obtain ⟨b5, e6, h⟩ := h
    refine ⟨b5, e6, ?_⟩
    obtain ⟨c7, h⟩ := h
    refine ⟨c7, ?_⟩
    have n8 := k2_ne K c7 (by decide)
    obtain ⟨b9, e10, h⟩ := h
    refine ⟨b9, e10, ?_⟩
    obtain ⟨c11, h⟩ := h
    refine ⟨c11, ?_⟩
    have n12 := k2_ne K c11 (by decide)
    obtain ⟨c13, h⟩ := h
    refine ⟨c13, ?_⟩
    intro x15 e14
    have h := h x15 e14
    have K := k2_J K e14
    intro x17 e16
    have h := h x17 e16
    exact hX28 _ _ _ h K
theorem kf_X0_begin_28 {Q : HS → Prop} {v0 : Nat} {v4 : Int32} {S0 S : HS} (h : P_X0_begin_28 Q v0 v4 S) (K : K2 S0 S) : P_X0_begin_28 (fun T => Q T ∧ K2 S0 T) v0 v4 S := h (fun v0 v4 S => K2 S0 S → P_X0_begin_28 (fun T => Q T ∧ K2 S0 T) v0 v4 S) (fun v0 v4 S hB K => fd_X0_begin_28 (kfB_X0_begin_28 hB K (fun _ _ _ hx K => hx K))) K
set_option maxRecDepth 20000 in
set_option maxHeartbeats 1000000 in
theorem kf_X0_begin_0 {Q : HS → Prop} {v0 : Nat} {v1 : Int32} {v2 : Int32} {v3 : Int32} {S0 S : HS} (h : P_X0_begin_0 Q v0 v1 v2 v3 S) (K : K2 S0 S) : P_X0_begin_0 (fun T => Q T ∧ K2 S0 T) v0 v1 v2 v3 S := by
  delta P_X0_begin_0 at h ⊢
  obtain ⟨c1, h⟩ := h
  refine ⟨c1, ?_⟩
  have n2 := k2_ne K c1 (by decide)
  refine cm_X0_end (kf_X0_end h) h (fun x3 hp h g4 => ?_)
  have h := h g4
  have K := k2_tr K hp.2
  intro x6 e5
  have h := h x6 e5
  have K := k2_I K e5 n2
  obtain ⟨b7, e8, h⟩ := h
  refine ⟨b7, e8, ?_⟩
  obtain ⟨c9, h⟩ := h
  refine ⟨c9, ?_⟩
  have n10 := k2_ne K c9 (by decide)
  intro x12 e11
  have h := h x12 e11
  have K := k2_I K e11 n10
  obtain ⟨b13, e14, h⟩ := h
  refine ⟨b13, e14, ?_⟩
  obtain ⟨c15, h⟩ := h
  refine ⟨c15, ?_⟩
  have n16 := k2_ne K c15 (by decide)
  intro x18 e17
  have h := h x18 e17
  have K := k2_I K e17 n16
  exact kf_X0_begin_28 h K
theorem kf_X0_begin {Q : HS → Prop} {v0 : Nat} {v1 : Int32} {v2 : Int32} {v3 : Int32} {S : HS} (h : P_X0_begin v0 v1 v2 v3 Q S) : P_X0_begin v0 v1 v2 v3 (fun T => Q T ∧ K2 S T) S := kf_X0_begin_0 h (k2_rf S)
set_option maxRecDepth 20000 in
set_option maxHeartbeats 1000000 in
theorem kf_X0_draw_60 {Q : HS → Prop} {X10 X10_2 : Nat → Nat → Int32 → Int32 → HS → Prop} {v0 : Nat} {v1 : Nat} {v3 : Int32} {v4 : Int32} {S0 S : HS} (h : P_X0_draw_60 Q X10 v0 v1 v3 v4 S) (K : K2 S0 S) (hX10 : ∀ (u0 : Nat) (u1 : Nat) (u2 : Int32) (u3 : Int32) (u4 : HS), X10 u0 u1 u2 u3 u4 → K2 S0 u4 → X10_2 u0 u1 u2 u3 u4) : P_X0_draw_60 (fun T => Q T ∧ K2 S0 T) X10_2 v0 v1 v3 v4 S := by
  delta P_X0_draw_60 at h ⊢
  intro x2 e1
  have h := h x2 e1
  exact hX10 _ _ _ _ _ h K
set_option maxRecDepth 20000 in
set_option maxHeartbeats 1000000 in
theorem kfB_X0_draw_10 {Q : HS → Prop} {X10 X10_2 : Nat → Nat → Int32 → Int32 → HS → Prop} {v0 : Nat} {v1 : Nat} {v3 : Int32} {v4 : Int32} {S0 S : HS} (h : B_X0_draw_10 Q X10 v0 v1 v3 v4 S) (K : K2 S0 S) (hX10 : ∀ (u0 : Nat) (u1 : Nat) (u2 : Int32) (u3 : Int32) (u4 : HS), X10 u0 u1 u2 u3 u4 → K2 S0 u4 → X10_2 u0 u1 u2 u3 u4) : B_X0_draw_10 (fun T => Q T ∧ K2 S0 T) X10_2 v0 v1 v3 v4 S := by
  delta B_X0_draw_10 at h ⊢
  obtain ⟨c1, h⟩ := h
  refine ⟨c1, ?_⟩
  have n2 := k2_ne K c1 (by decide)
  intro x4 e3
  have h := h x4 e3
  refine ⟨?_, ?_⟩
  · intro c5
    have h := h.1 c5
    exact ⟨h, K⟩
  · intro c6
    have h := h.2 c6
    intro x8 e7
    have h := h x8 e7
    intro x10 e9
    have h := h x10 e9
    obtain ⟨b11, e12, h⟩ := h
    refine ⟨b11, e12, ?_⟩
    obtain ⟨c13, h⟩ := h
    refine ⟨c13, ?_⟩
    have n14 := k2_ne K c13 (by decide)
    obtain ⟨c15, h⟩ := h
    refine ⟨c15, ?_⟩
    obtain ⟨b16, e17, h⟩ := h
    refine ⟨b16, e17, ?_⟩
    obtain ⟨c18, h⟩ := h
    refine ⟨c18, ?_⟩
    have n19 := k2_ne K c18 (by decide)
    intro x21 e20
    have h := h x21 e20
    refine ⟨?_, ?_⟩
    · intro c22
      have h := h.1 c22
      exact kf_X0_draw_60 h K hX10
    · intro c23
      have h := h.2 c23
      obtain ⟨c24, h⟩ := h
      refine ⟨c24, ?_⟩
      have n25 := k2_ne K c24 (by decide)
      intro x27 e26
      have h := h x27 e26
      intro x29 e28
      have h := h x29 e28
      intro x31 e30
      have h := h x31 e30
      have K := k2_I K e30 n25
      exact kf_X0_draw_60 h K hX10
theorem kf_X0_draw_10 {Q : HS → Prop} {v0 : Nat} {v1 : Nat} {v3 : Int32} {v4 : Int32} {S0 S : HS} (h : P_X0_draw_10 Q v0 v1 v3 v4 S) (K : K2 S0 S) : P_X0_draw_10 (fun T => Q T ∧ K2 S0 T) v0 v1 v3 v4 S := h (fun v0 v1 v3 v4 S => K2 S0 S → P_X0_draw_10 (fun T => Q T ∧ K2 S0 T) v0 v1 v3 v4 S) (fun v0 v1 v3 v4 S hB K => fd_X0_draw_10 (kfB_X0_draw_10 hB K (fun _ _ _ _ _ hx K => hx K))) K
set_option maxRecDepth 20000 in
set_option maxHeartbeats 1000000 in
theorem kf_X0_draw_0 {Q : HS → Prop} {v0 : Nat} {v1 : Nat} {v2 : Int32} {S0 S : HS} (h : P_X0_draw_0 Q v0 v1 v2 S) (K : K2 S0 S) : P_X0_draw_0 (fun T => Q T ∧ K2 S0 T) v0 v1 v2 S := by
  delta P_X0_draw_0 at h ⊢
  obtain ⟨c1, h⟩ := h
  refine ⟨c1, ?_⟩
  have n2 := k2_ne K c1 (by decide)
  intro x4 e3
  have h := h x4 e3
  have K := k2_I K e3 n2
  exact kf_X0_draw_10 h K
theorem kf_X0_draw {Q : HS → Prop} {v0 : Nat} {v1 : Nat} {v2 : Int32} {S : HS} (h : P_X0_draw v0 v1 v2 Q S) : P_X0_draw v0 v1 v2 (fun T => Q T ∧ K2 S T) S := kf_X0_draw_0 h (k2_rf S)
set_option maxRecDepth 20000 in
set_option maxHeartbeats 1000000 in
theorem kf_X0_isOn_0 {Q : Int32 → HS → Prop} {v0 : Nat} {S0 S : HS} (h : P_X0_isOn_0 Q v0 S) (K : K2 S0 S) : P_X0_isOn_0 (fun r T => Q r T ∧ K2 S0 T) v0 S := by
  delta P_X0_isOn_0 at h ⊢
  obtain ⟨c1, h⟩ := h
  refine ⟨c1, ?_⟩
  have n2 := k2_ne K c1 (by decide)
  intro x4 e3
  have h := h x4 e3
  refine ⟨?_, ?_⟩
  · intro c5
    have h := h.1 c5
    exact ⟨h, K⟩
  · intro c6
    have h := h.2 c6
    exact ⟨h, K⟩
theorem kf_X0_isOn {Q : Int32 → HS → Prop} {v0 : Nat} {S : HS} (h : P_X0_isOn v0 Q S) : P_X0_isOn v0 (fun r T => Q r T ∧ K2 S T) S := kf_X0_isOn_0 h (k2_rf S)
set_option maxRecDepth 20000 in
set_option maxHeartbeats 1000000 in
theorem kfB_X2_copy_18 {Q : HS → Prop} {X18 X18_2 : Nat → Nat → Int32 → HS → Prop} {v0 : Nat} {v1 : Nat} {v2 : Int32} {S0 S : HS} (h : B_X2_copy_18 Q X18 v0 v1 v2 S) (K : K2 S0 S) (hX18 : ∀ (u0 : Nat) (u1 : Nat) (u2 : Int32) (u3 : HS), X18 u0 u1 u2 u3 → K2 S0 u3 → X18_2 u0 u1 u2 u3) : B_X2_copy_18 (fun T => Q T ∧ K2 S0 T) X18_2 v0 v1 v2 S := by
  delta B_X2_copy_18 at h ⊢
  refine ⟨?_, ?_⟩
  · intro c1
    have h := h.1 c1
    exact ⟨h, K⟩
  · intro c2
    have h := h.2 c2
    obtain ⟨c3, h⟩ := h
    refine ⟨c3, ?_⟩
    have n4 := k2_ne K c3 (by decide)
    obtain ⟨b5, e6, h⟩ := h
    refine ⟨b5, e6, ?_⟩
    obtain ⟨c7, h⟩ := h
    refine ⟨c7, ?_⟩
    have n8 := k2_ne K c7 (by decide)
    obtain ⟨b9, e10, h⟩ := h
    refine ⟨b9, e10, ?_⟩
    obtain ⟨c11, h⟩ := h
    refine ⟨c11, ?_⟩
    have n12 := k2_ne K c11 (by decide)
    obtain ⟨c13, h⟩ := h
    refine ⟨c13, ?_⟩
    intro x15 e14
    have h := h x15 e14
    obtain ⟨c16, h⟩ := h
    refine ⟨c16, ?_⟩
    have n17 := k2_ne K c16 (by decide)
    obtain ⟨c18, h⟩ := h
    refine ⟨c18, ?_⟩
    intro x20 e19
    have h := h x20 e19
    have K := k2_J K e19
    intro x22 e21
    have h := h x22 e21
    exact hX18 _ _ _ _ h K
theorem kf_X2_copy_18 {Q : HS → Prop} {v0 : Nat} {v1 : Nat} {v2 : Int32} {S0 S : HS} (h : P_X2_copy_18 Q v0 v1 v2 S) (K : K2 S0 S) : P_X2_copy_18 (fun T => Q T ∧ K2 S0 T) v0 v1 v2 S := h (fun v0 v1 v2 S => K2 S0 S → P_X2_copy_18 (fun T => Q T ∧ K2 S0 T) v0 v1 v2 S) (fun v0 v1 v2 S hB K => fd_X2_copy_18 (kfB_X2_copy_18 hB K (fun _ _ _ _ hx K => hx K))) K
set_option maxRecDepth 20000 in
set_option maxHeartbeats 1000000 in
theorem kf_X2_copy_0 {Q : HS → Prop} {v0 : Nat} {v1 : Nat} {S0 S : HS} (h : P_X2_copy_0 Q v0 v1 S) (K : K2 S0 S) : P_X2_copy_0 (fun T => Q T ∧ K2 S0 T) v0 v1 S := by
  delta P_X2_copy_0 at h ⊢
  obtain ⟨c1, h⟩ := h
  refine ⟨c1, ?_⟩
  have n2 := k2_ne K c1 (by decide)
  intro x4 e3
  have h := h x4 e3
  obtain ⟨c5, h⟩ := h
  refine ⟨c5, ?_⟩
  have n6 := k2_ne K c5 (by decide)
  intro x8 e7
  have h := h x8 e7
  have K := k2_I K e7 n6
  intro x10 e9
  have h := h x10 e9
  intro x12 e11
  have h := h x12 e11
  have K := k2_I K e11 n6
  exact kf_X2_copy_18 h K
theorem kf_X2_copy {Q : HS → Prop} {v0 : Nat} {v1 : Nat} {S : HS} (h : P_X2_copy v0 v1 Q S) : P_X2_copy v0 v1 (fun T => Q T ∧ K2 S T) S := kf_X2_copy_0 h (k2_rf S)
set_option maxRecDepth 20000 in
set_option maxHeartbeats 1000000 in
theorem kf_X0_keepForUndo_58 {Q : HS → Prop} {v0 : Nat} {S0 S : HS} (h : P_X0_keepForUndo_58 Q v0 S) (K : K2 S0 S) : P_X0_keepForUndo_58 (fun T => Q T ∧ K2 S0 T) v0 S := by
  delta P_X0_keepForUndo_58 at h ⊢
  obtain ⟨c1, h⟩ := h
  refine ⟨c1, ?_⟩
  have n2 := k2_ne K c1 (by decide)
  obtain ⟨b3, e4, h⟩ := h
  refine ⟨b3, e4, ?_⟩
  intro x6 e5
  have h := h x6 e5
  obtain ⟨c7, h⟩ := h
  refine ⟨c7, ?_⟩
  have n8 := k2_ne K c7 (by decide)
  obtain ⟨c9, h⟩ := h
  refine ⟨c9, ?_⟩
  obtain ⟨b10, e11, h⟩ := h
  refine ⟨b10, e11, ?_⟩
  obtain ⟨b12, e13, h⟩ := h
  refine ⟨b12, e13, ?_⟩
  obtain ⟨c14, h⟩ := h
  refine ⟨c14, ?_⟩
  have n15 := k2_ne K c14 (by decide)
  refine cm_X2_copy (kf_X2_copy h) h (fun x16 hp h g17 => ?_)
  have h := h g17
  have K := k2_tr K hp.2
  intro x19 e18
  have h := h x19 e18
  intro x21 e20
  have h := h x21 e20
  intro x23 e22
  have h := h x23 e22
  have K := k2_I K e22 n2
  exact ⟨h, K⟩
set_option maxRecDepth 20000 in
set_option maxHeartbeats 1000000 in
theorem kfB_X0_keepForUndo_18 {Q : HS → Prop} {X18 X18_2 : Nat → Nat → Int32 → HS → Prop} {v0 : Nat} {v1 : Nat} {v2 : Int32} {S0 S : HS} (h : B_X0_keepForUndo_18 Q X18 v0 v1 v2 S) (K : K2 S0 S) (hX18 : ∀ (u0 : Nat) (u1 : Nat) (u2 : Int32) (u3 : HS), X18 u0 u1 u2 u3 → K2 S0 u3 → X18_2 u0 u1 u2 u3) : B_X0_keepForUndo_18 (fun T => Q T ∧ K2 S0 T) X18_2 v0 v1 v2 S := by
  delta B_X0_keepForUndo_18 at h ⊢
  refine ⟨?_, ?_⟩
  · intro c1
    have h := h.1 c1
    obtain ⟨c2, h⟩ := h
    refine ⟨c2, ?_⟩
    have n3 := k2_ne K c2 (by decide)
    obtain ⟨b4, e5, h⟩ := h
    refine ⟨b4, e5, ?_⟩
    obtain ⟨c6, h⟩ := h
    refine ⟨c6, ?_⟩
    have n7 := k2_ne K c6 (by decide)
    obtain ⟨c8, h⟩ := h
    refine ⟨c8, ?_⟩
    have n9 := k2_ne K c8 (by decide)
    obtain ⟨c10, h⟩ := h
    refine ⟨c10, ?_⟩
    intro x12 e11
    have h := h x12 e11
    have K := k2_R K e11
    intro x14 e13
    have h := h x14 e13
    have K := k2_I K e13 n3
    exact kf_X0_keepForUndo_58 h K
  · intro c15
    have h := h.2 c15
    obtain ⟨c16, h⟩ := h
    refine ⟨c16, ?_⟩
    have n17 := k2_ne K c16 (by decide)
    obtain ⟨b18, e19, h⟩ := h
    refine ⟨b18, e19, ?_⟩
    obtain ⟨b20, e21, h⟩ := h
    refine ⟨b20, e21, ?_⟩
    obtain ⟨c22, h⟩ := h
    refine ⟨c22, ?_⟩
    have n23 := k2_ne K c22 (by decide)
    obtain ⟨c24, h⟩ := h
    refine ⟨c24, ?_⟩
    obtain ⟨b25, e26, h⟩ := h
    refine ⟨b25, e26, ?_⟩
    obtain ⟨c27, h⟩ := h
    refine ⟨c27, ?_⟩
    have n28 := k2_ne K c27 (by decide)
    obtain ⟨c29, h⟩ := h
    refine ⟨c29, ?_⟩
    have n30 := k2_ne K c29 (by decide)
    obtain ⟨c31, h⟩ := h
    refine ⟨c31, ?_⟩
    intro x33 e32
    have h := h x33 e32
    have K := k2_R K e32
    intro x35 e34
    have h := h x35 e34
    exact hX18 _ _ _ _ h K
theorem kf_X0_keepForUndo_18 {Q : HS → Prop} {v0 : Nat} {v1 : Nat} {v2 : Int32} {S0 S : HS} (h : P_X0_keepForUndo_18 Q v0 v1 v2 S) (K : K2 S0 S) : P_X0_keepForUndo_18 (fun T => Q T ∧ K2 S0 T) v0 v1 v2 S := h (fun v0 v1 v2 S => K2 S0 S → P_X0_keepForUndo_18 (fun T => Q T ∧ K2 S0 T) v0 v1 v2 S) (fun v0 v1 v2 S hB K => fd_X0_keepForUndo_18 (kfB_X0_keepForUndo_18 hB K (fun _ _ _ _ hx K => hx K))) K
set_option maxRecDepth 20000 in
set_option maxHeartbeats 1000000 in
theorem kf_X0_keepForUndo_0 {Q : HS → Prop} {v0 : Nat} {S0 S : HS} (h : P_X0_keepForUndo_0 Q v0 S) (K : K2 S0 S) : P_X0_keepForUndo_0 (fun T => Q T ∧ K2 S0 T) v0 S := by
  delta P_X0_keepForUndo_0 at h ⊢
  obtain ⟨c1, h⟩ := h
  refine ⟨c1, ?_⟩
  have n2 := k2_ne K c1 (by decide)
  intro x4 e3
  have h := h x4 e3
  refine ⟨?_, ?_⟩
  · intro c5
    have h := h.1 c5
    exact kf_X0_keepForUndo_58 h K
  · intro c6
    have h := h.2 c6
    obtain ⟨b7, e8, h⟩ := h
    refine ⟨b7, e8, ?_⟩
    obtain ⟨c9, h⟩ := h
    refine ⟨c9, ?_⟩
    have n10 := k2_ne K c9 (by decide)
    obtain ⟨c11, h⟩ := h
    refine ⟨c11, ?_⟩
    obtain ⟨b12, e13, h⟩ := h
    refine ⟨b12, e13, ?_⟩
    exact kf_X0_keepForUndo_18 h K
theorem kf_X0_keepForUndo {Q : HS → Prop} {v0 : Nat} {S : HS} (h : P_X0_keepForUndo v0 Q S) : P_X0_keepForUndo v0 (fun T => Q T ∧ K2 S T) S := kf_X0_keepForUndo_0 h (k2_rf S)
set_option maxRecDepth 20000 in
set_option maxHeartbeats 1000000 in
theorem kf_X0_rainsIn_0 {Q : Int32 → HS → Prop} {v0 : Nat} {v1 : Int32} {S0 S : HS} (h : P_X0_rainsIn_0 Q v0 v1 S) (K : K2 S0 S) : P_X0_rainsIn_0 (fun r T => Q r T ∧ K2 S0 T) v0 v1 S := by
  delta P_X0_rainsIn_0 at h ⊢
  refine ⟨?_, ?_⟩
  · intro c1
    have h := h.1 c1
    exact ⟨h, K⟩
  · intro c2
    have h := h.2 c2
    refine ⟨?_, ?_⟩
    · intro c3
      have h := h.1 c3
      exact ⟨h, K⟩
    · intro c4
      have h := h.2 c4
      obtain ⟨c5, h⟩ := h
      refine ⟨c5, ?_⟩
      have n6 := k2_ne K c5 (by decide)
      intro x8 e7
      have h := h x8 e7
      refine ⟨?_, ?_⟩
      · intro c9
        have h := h.1 c9
        exact ⟨h, K⟩
      · intro c10
        have h := h.2 c10
        exact ⟨h, K⟩
theorem kf_X0_rainsIn {Q : Int32 → HS → Prop} {v0 : Nat} {v1 : Int32} {S : HS} (h : P_X0_rainsIn v0 v1 Q S) : P_X0_rainsIn v0 v1 (fun r T => Q r T ∧ K2 S T) S := kf_X0_rainsIn_0 h (k2_rf S)
set_option maxRecDepth 20000 in
set_option maxHeartbeats 1000000 in
theorem kf_X0_returnTo_0 {Q : Int32 → HS → Prop} {v0 : Nat} {v1 : Int32} {S0 S : HS} (h : P_X0_returnTo_0 Q v0 v1 S) (K : K2 S0 S) : P_X0_returnTo_0 (fun r T => Q r T ∧ K2 S0 T) v0 v1 S := by
  delta P_X0_returnTo_0 at h ⊢
  refine ⟨?_, ?_⟩
  · intro c1
    have h := h.1 c1
    exact ⟨h, K⟩
  · intro c2
    have h := h.2 c2
    obtain ⟨c3, h⟩ := h
    refine ⟨c3, ?_⟩
    have n4 := k2_ne K c3 (by decide)
    intro x6 e5
    have h := h x6 e5
    refine ⟨?_, ?_⟩
    · intro c7
      have h := h.1 c7
      obtain ⟨b8, e9, h⟩ := h
      refine ⟨b8, e9, ?_⟩
      obtain ⟨b10, e11, h⟩ := h
      refine ⟨b10, e11, ?_⟩
      obtain ⟨c12, h⟩ := h
      refine ⟨c12, ?_⟩
      have n13 := k2_ne K c12 (by decide)
      obtain ⟨c14, h⟩ := h
      refine ⟨c14, ?_⟩
      obtain ⟨b15, e16, h⟩ := h
      refine ⟨b15, e16, ?_⟩
      obtain ⟨c17, h⟩ := h
      refine ⟨c17, ?_⟩
      have n18 := k2_ne K c17 (by decide)
      refine cm_X2_copy (kf_X2_copy h) h (fun x19 hp h g20 => ?_)
      have h := h g20
      have K := k2_tr K hp.2
      intro x22 e21
      have h := h x22 e21
      have K := k2_I K e21 n4
      exact ⟨h, K⟩
    · intro c23
      have h := h.2 c23
      exact ⟨h, K⟩
theorem kf_X0_returnTo {Q : Int32 → HS → Prop} {v0 : Nat} {v1 : Int32} {S : HS} (h : P_X0_returnTo v0 v1 Q S) : P_X0_returnTo v0 v1 (fun r T => Q r T ∧ K2 S T) S := kf_X0_returnTo_0 h (k2_rf S)
set_option maxRecDepth 20000 in
set_option maxHeartbeats 1000000 in
theorem kf_X0_setMark_0 {Q : Int32 → HS → Prop} {v0 : Nat} {S0 S : HS} (h : P_X0_setMark_0 Q v0 S) (K : K2 S0 S) : P_X0_setMark_0 (fun r T => Q r T ∧ K2 S0 T) v0 S := by
  delta P_X0_setMark_0 at h ⊢
  obtain ⟨c1, h⟩ := h
  refine ⟨c1, ?_⟩
  have n2 := k2_ne K c1 (by decide)
  intro x4 e3
  have h := h x4 e3
  refine ⟨?_, ?_⟩
  · intro c5
    have h := h.1 c5
    obtain ⟨b6, e7, h⟩ := h
    refine ⟨b6, e7, ?_⟩
    intro x9 e8
    have h := h x9 e8
    obtain ⟨c10, h⟩ := h
    refine ⟨c10, ?_⟩
    have n11 := k2_ne K c10 (by decide)
    obtain ⟨c12, h⟩ := h
    refine ⟨c12, ?_⟩
    obtain ⟨b13, e14, h⟩ := h
    refine ⟨b13, e14, ?_⟩
    obtain ⟨b15, e16, h⟩ := h
    refine ⟨b15, e16, ?_⟩
    obtain ⟨c17, h⟩ := h
    refine ⟨c17, ?_⟩
    have n18 := k2_ne K c17 (by decide)
    refine cm_X2_copy (kf_X2_copy h) h (fun x19 hp h g20 => ?_)
    have h := h g20
    have K := k2_tr K hp.2
    intro x22 e21
    have h := h x22 e21
    intro x24 e23
    have h := h x24 e23
    intro x26 e25
    have h := h x26 e25
    have K := k2_I K e25 n2
    intro x28 e27
    have h := h x28 e27
    exact ⟨h, K⟩
  · intro c29
    have h := h.2 c29
    exact ⟨h, K⟩
theorem kf_X0_setMark {Q : Int32 → HS → Prop} {v0 : Nat} {S : HS} (h : P_X0_setMark v0 Q S) : P_X0_setMark v0 (fun r T => Q r T ∧ K2 S T) S := kf_X0_setMark_0 h (k2_rf S)
set_option maxRecDepth 20000 in
set_option maxHeartbeats 1000000 in
theorem kf_X0_takeBack_0 {Q : Int32 → HS → Prop} {v0 : Nat} {S0 S : HS} (h : P_X0_takeBack_0 Q v0 S) (K : K2 S0 S) : P_X0_takeBack_0 (fun r T => Q r T ∧ K2 S0 T) v0 S := by
  delta P_X0_takeBack_0 at h ⊢
  obtain ⟨c1, h⟩ := h
  refine ⟨c1, ?_⟩
  have n2 := k2_ne K c1 (by decide)
  intro x4 e3
  have h := h x4 e3
  refine ⟨?_, ?_⟩
  · intro c5
    have h := h.1 c5
    intro x7 e6
    have h := h x7 e6
    intro x9 e8
    have h := h x9 e8
    intro x11 e10
    have h := h x11 e10
    have K := k2_I K e10 n2
    obtain ⟨b12, e13, h⟩ := h
    refine ⟨b12, e13, ?_⟩
    obtain ⟨b14, e15, h⟩ := h
    refine ⟨b14, e15, ?_⟩
    intro x17 e16
    have h := h x17 e16
    obtain ⟨c18, h⟩ := h
    refine ⟨c18, ?_⟩
    have n19 := k2_ne K c18 (by decide)
    obtain ⟨c20, h⟩ := h
    refine ⟨c20, ?_⟩
    obtain ⟨b21, e22, h⟩ := h
    refine ⟨b21, e22, ?_⟩
    obtain ⟨c23, h⟩ := h
    refine ⟨c23, ?_⟩
    have n24 := k2_ne K c23 (by decide)
    refine cm_X2_copy (kf_X2_copy h) h (fun x25 hp h g26 => ?_)
    have h := h g26
    have K := k2_tr K hp.2
    exact ⟨h, K⟩
  · intro c27
    have h := h.2 c27
    exact ⟨h, K⟩
theorem kf_X0_takeBack {Q : Int32 → HS → Prop} {v0 : Nat} {S : HS} (h : P_X0_takeBack v0 Q S) : P_X0_takeBack v0 (fun r T => Q r T ∧ K2 S T) S := kf_X0_takeBack_0 h (k2_rf S)
set_option maxRecDepth 20000 in
set_option maxHeartbeats 1000000 in
theorem kf_X10_facing_0 {Q : Int32 → HS → Prop} {v0 : Nat} {v1 : Int32} {v2 : Int32} {S0 S : HS} (h : P_X10_facing_0 Q v0 v1 v2 S) (K : K2 S0 S) : P_X10_facing_0 (fun r T => Q r T ∧ K2 S0 T) v0 v1 v2 S := by
  delta P_X10_facing_0 at h ⊢
  refine ⟨?_, ?_⟩
  · intro c1
    have h := h.1 c1
    obtain ⟨c2, h⟩ := h
    refine ⟨c2, ?_⟩
    have n3 := k2_ne K c2 (by decide)
    obtain ⟨b4, e5, h⟩ := h
    refine ⟨b4, e5, ?_⟩
    obtain ⟨c6, h⟩ := h
    refine ⟨c6, ?_⟩
    have n7 := k2_ne K c6 (by decide)
    obtain ⟨c8, h⟩ := h
    refine ⟨c8, ?_⟩
    intro x10 e9
    have h := h x10 e9
    exact ⟨h, K⟩
  · intro c11
    have h := h.2 c11
    obtain ⟨c12, h⟩ := h
    refine ⟨c12, ?_⟩
    have n13 := k2_ne K c12 (by decide)
    obtain ⟨b14, e15, h⟩ := h
    refine ⟨b14, e15, ?_⟩
    obtain ⟨c16, h⟩ := h
    refine ⟨c16, ?_⟩
    have n17 := k2_ne K c16 (by decide)
    obtain ⟨c18, h⟩ := h
    refine ⟨c18, ?_⟩
    intro x20 e19
    have h := h x20 e19
    exact ⟨h, K⟩
theorem kf_X10_facing {Q : Int32 → HS → Prop} {v0 : Nat} {v1 : Int32} {v2 : Int32} {S : HS} (h : P_X10_facing v0 v1 v2 Q S) : P_X10_facing v0 v1 v2 (fun r T => Q r T ∧ K2 S T) S := kf_X10_facing_0 h (k2_rf S)
set_option maxRecDepth 20000 in
set_option maxHeartbeats 1000000 in
theorem kf_X10_across_0 {Q : Int32 → HS → Prop} {v0 : Nat} {v1 : Int32} {v2 : Int32} {v3 : Int32} {S0 S : HS} (h : P_X10_across_0 Q v0 v1 v2 v3 S) (K : K2 S0 S) : P_X10_across_0 (fun r T => Q r T ∧ K2 S0 T) v0 v1 v2 v3 S := by
  delta P_X10_across_0 at h ⊢
  obtain ⟨c1, h⟩ := h
  refine ⟨c1, ?_⟩
  have n2 := k2_ne K c1 (by decide)
  obtain ⟨b3, e4, h⟩ := h
  refine ⟨b3, e4, ?_⟩
  obtain ⟨c5, h⟩ := h
  refine ⟨c5, ?_⟩
  have n6 := k2_ne K c5 (by decide)
  obtain ⟨c7, h⟩ := h
  refine ⟨c7, ?_⟩
  intro x9 e8
  have h := h x9 e8
  refine cm_X10_facing (kf_X10_facing h) h (fun x10 x11 hp h g12 => ?_)
  have h := h g12
  have K := k2_tr K hp.2
  intro x14 e13
  have h := h x14 e13
  refine ⟨?_, ?_⟩
  · intro c15
    have h := h.1 c15
    refine ⟨?_, ?_⟩
    · intro c16
      have h := h.1 c16
      exact ⟨h, K⟩
    · intro c17
      have h := h.2 c17
      obtain ⟨b18, e19, h⟩ := h
      refine ⟨b18, e19, ?_⟩
      obtain ⟨c20, h⟩ := h
      refine ⟨c20, ?_⟩
      have n21 := k2_ne K c20 (by decide)
      obtain ⟨c22, h⟩ := h
      refine ⟨c22, ?_⟩
      intro x24 e23
      have h := h x24 e23
      exact ⟨h, K⟩
  · intro c25
    have h := h.2 c25
    obtain ⟨b26, e27, h⟩ := h
    refine ⟨b26, e27, ?_⟩
    obtain ⟨c28, h⟩ := h
    refine ⟨c28, ?_⟩
    have n29 := k2_ne K c28 (by decide)
    obtain ⟨c30, h⟩ := h
    refine ⟨c30, ?_⟩
    intro x32 e31
    have h := h x32 e31
    exact ⟨h, K⟩
theorem kf_X10_across {Q : Int32 → HS → Prop} {v0 : Nat} {v1 : Int32} {v2 : Int32} {v3 : Int32} {S : HS} (h : P_X10_across v0 v1 v2 v3 Q S) : P_X10_across v0 v1 v2 v3 (fun r T => Q r T ∧ K2 S T) S := kf_X10_across_0 h (k2_rf S)
set_option maxRecDepth 20000 in
set_option maxHeartbeats 1000000 in
theorem kf_X10_air_0 {Q : Int32 → HS → Prop} {v0 : Nat} {v1 : Int32} {v2 : Int32} {v3 : Int32} {S0 S : HS} (h : P_X10_air_0 Q v0 v1 v2 v3 S) (K : K2 S0 S) : P_X10_air_0 (fun r T => Q r T ∧ K2 S0 T) v0 v1 v2 v3 S := by
  delta P_X10_air_0 at h ⊢
  obtain ⟨c1, h⟩ := h
  refine ⟨c1, ?_⟩
  have n2 := k2_ne K c1 (by decide)
  obtain ⟨b3, e4, h⟩ := h
  refine ⟨b3, e4, ?_⟩
  obtain ⟨c5, h⟩ := h
  refine ⟨c5, ?_⟩
  have n6 := k2_ne K c5 (by decide)
  obtain ⟨c7, h⟩ := h
  refine ⟨c7, ?_⟩
  intro x9 e8
  have h := h x9 e8
  refine cm_X10_facing (kf_X10_facing h) h (fun x10 x11 hp h g12 => ?_)
  have h := h g12
  have K := k2_tr K hp.2
  intro x14 e13
  have h := h x14 e13
  refine ⟨?_, ?_⟩
  · intro c15
    have h := h.1 c15
    refine ⟨?_, ?_⟩
    · intro c16
      have h := h.1 c16
      exact ⟨h, K⟩
    · intro c17
      have h := h.2 c17
      obtain ⟨b18, e19, h⟩ := h
      refine ⟨b18, e19, ?_⟩
      obtain ⟨c20, h⟩ := h
      refine ⟨c20, ?_⟩
      have n21 := k2_ne K c20 (by decide)
      obtain ⟨c22, h⟩ := h
      refine ⟨c22, ?_⟩
      intro x24 e23
      have h := h x24 e23
      exact ⟨h, K⟩
  · intro c25
    have h := h.2 c25
    obtain ⟨b26, e27, h⟩ := h
    refine ⟨b26, e27, ?_⟩
    obtain ⟨c28, h⟩ := h
    refine ⟨c28, ?_⟩
    have n29 := k2_ne K c28 (by decide)
    obtain ⟨c30, h⟩ := h
    refine ⟨c30, ?_⟩
    intro x32 e31
    have h := h x32 e31
    exact ⟨h, K⟩
theorem kf_X10_air {Q : Int32 → HS → Prop} {v0 : Nat} {v1 : Int32} {v2 : Int32} {v3 : Int32} {S : HS} (h : P_X10_air v0 v1 v2 v3 Q S) : P_X10_air v0 v1 v2 v3 (fun r T => Q r T ∧ K2 S T) S := kf_X10_air_0 h (k2_rf S)
set_option maxRecDepth 20000 in
set_option maxHeartbeats 1000000 in
theorem kf_X10_begins_0 {Q : Int32 → HS → Prop} {v0 : Nat} {v1 : Int32} {v2 : Int32} {S0 S : HS} (h : P_X10_begins_0 Q v0 v1 v2 S) (K : K2 S0 S) : P_X10_begins_0 (fun r T => Q r T ∧ K2 S0 T) v0 v1 v2 S := by
  delta P_X10_begins_0 at h ⊢
  refine ⟨?_, ?_⟩
  · intro c1
    have h := h.1 c1
    obtain ⟨c2, h⟩ := h
    refine ⟨c2, ?_⟩
    have n3 := k2_ne K c2 (by decide)
    obtain ⟨b4, e5, h⟩ := h
    refine ⟨b4, e5, ?_⟩
    obtain ⟨c6, h⟩ := h
    refine ⟨c6, ?_⟩
    have n7 := k2_ne K c6 (by decide)
    obtain ⟨c8, h⟩ := h
    refine ⟨c8, ?_⟩
    intro x10 e9
    have h := h x10 e9
    exact ⟨h, K⟩
  · intro c11
    have h := h.2 c11
    obtain ⟨c12, h⟩ := h
    refine ⟨c12, ?_⟩
    have n13 := k2_ne K c12 (by decide)
    obtain ⟨b14, e15, h⟩ := h
    refine ⟨b14, e15, ?_⟩
    obtain ⟨c16, h⟩ := h
    refine ⟨c16, ?_⟩
    have n17 := k2_ne K c16 (by decide)
    obtain ⟨c18, h⟩ := h
    refine ⟨c18, ?_⟩
    intro x20 e19
    have h := h x20 e19
    exact ⟨h, K⟩
theorem kf_X10_begins {Q : Int32 → HS → Prop} {v0 : Nat} {v1 : Int32} {v2 : Int32} {S : HS} (h : P_X10_begins v0 v1 v2 Q S) : P_X10_begins v0 v1 v2 (fun r T => Q r T ∧ K2 S T) S := kf_X10_begins_0 h (k2_rf S)
set_option maxRecDepth 20000 in
set_option maxHeartbeats 1000000 in
theorem kf_X10_ends_0 {Q : Int32 → HS → Prop} {v0 : Nat} {v1 : Int32} {v2 : Int32} {S0 S : HS} (h : P_X10_ends_0 Q v0 v1 v2 S) (K : K2 S0 S) : P_X10_ends_0 (fun r T => Q r T ∧ K2 S0 T) v0 v1 v2 S := by
  delta P_X10_ends_0 at h ⊢
  refine ⟨?_, ?_⟩
  · intro c1
    have h := h.1 c1
    obtain ⟨c2, h⟩ := h
    refine ⟨c2, ?_⟩
    have n3 := k2_ne K c2 (by decide)
    obtain ⟨b4, e5, h⟩ := h
    refine ⟨b4, e5, ?_⟩
    obtain ⟨c6, h⟩ := h
    refine ⟨c6, ?_⟩
    have n7 := k2_ne K c6 (by decide)
    obtain ⟨c8, h⟩ := h
    refine ⟨c8, ?_⟩
    intro x10 e9
    have h := h x10 e9
    exact ⟨h, K⟩
  · intro c11
    have h := h.2 c11
    obtain ⟨c12, h⟩ := h
    refine ⟨c12, ?_⟩
    have n13 := k2_ne K c12 (by decide)
    obtain ⟨b14, e15, h⟩ := h
    refine ⟨b14, e15, ?_⟩
    obtain ⟨c16, h⟩ := h
    refine ⟨c16, ?_⟩
    have n17 := k2_ne K c16 (by decide)
    obtain ⟨c18, h⟩ := h
    refine ⟨c18, ?_⟩
    intro x20 e19
    have h := h x20 e19
    exact ⟨h, K⟩
theorem kf_X10_ends {Q : Int32 → HS → Prop} {v0 : Nat} {v1 : Int32} {v2 : Int32} {S : HS} (h : P_X10_ends v0 v1 v2 Q S) : P_X10_ends v0 v1 v2 (fun r T => Q r T ∧ K2 S T) S := kf_X10_ends_0 h (k2_rf S)
set_option maxRecDepth 20000 in
set_option maxHeartbeats 1000000 in
theorem kfB_X10_find_2 {Q : Int32 → HS → Prop} {X2 X2_2 : Nat → Int64 → Int32 → HS → Prop} {v0 : Nat} {v1 : Int64} {v3 : Int32} {S0 S : HS} (h : B_X10_find_2 Q X2 v0 v1 v3 S) (K : K2 S0 S) (hX2 : ∀ (u0 : Nat) (u1 : Int64) (u2 : Int32) (u3 : HS), X2 u0 u1 u2 u3 → K2 S0 u3 → X2_2 u0 u1 u2 u3) : B_X10_find_2 (fun r T => Q r T ∧ K2 S0 T) X2_2 v0 v1 v3 S := by
  delta B_X10_find_2 at h ⊢
  obtain ⟨c1, h⟩ := h
  refine ⟨c1, ?_⟩
  have n2 := k2_ne K c1 (by decide)
  intro x4 e3
  have h := h x4 e3
  refine ⟨?_, ?_⟩
  · intro c5
    have h := h.1 c5
    exact ⟨h, K⟩
  · intro c6
    have h := h.2 c6
    obtain ⟨b7, e8, h⟩ := h
    refine ⟨b7, e8, ?_⟩
    obtain ⟨c9, h⟩ := h
    refine ⟨c9, ?_⟩
    have n10 := k2_ne K c9 (by decide)
    obtain ⟨c11, h⟩ := h
    refine ⟨c11, ?_⟩
    intro x13 e12
    have h := h x13 e12
    refine ⟨?_, ?_⟩
    · intro c14
      have h := h.1 c14
      intro x16 e15
      have h := h x16 e15
      exact hX2 _ _ _ _ h K
    · intro c17
      have h := h.2 c17
      exact ⟨h, K⟩
theorem kf_X10_find_2 {Q : Int32 → HS → Prop} {v0 : Nat} {v1 : Int64} {v3 : Int32} {S0 S : HS} (h : P_X10_find_2 Q v0 v1 v3 S) (K : K2 S0 S) : P_X10_find_2 (fun r T => Q r T ∧ K2 S0 T) v0 v1 v3 S := h (fun v0 v1 v3 S => K2 S0 S → P_X10_find_2 (fun r T => Q r T ∧ K2 S0 T) v0 v1 v3 S) (fun v0 v1 v3 S hB K => fd_X10_find_2 (kfB_X10_find_2 hB K (fun _ _ _ _ hx K => hx K))) K
set_option maxRecDepth 20000 in
set_option maxHeartbeats 1000000 in
theorem kf_X10_find_0 {Q : Int32 → HS → Prop} {v0 : Nat} {v1 : Int64} {S0 S : HS} (h : P_X10_find_0 Q v0 v1 S) (K : K2 S0 S) : P_X10_find_0 (fun r T => Q r T ∧ K2 S0 T) v0 v1 S := by
  delta P_X10_find_0 at h ⊢
  exact kf_X10_find_2 h K
theorem kf_X10_find {Q : Int32 → HS → Prop} {v0 : Nat} {v1 : Int64} {S : HS} (h : P_X10_find v0 v1 Q S) : P_X10_find v0 v1 (fun r T => Q r T ∧ K2 S T) S := kf_X10_find_0 h (k2_rf S)
set_option maxRecDepth 20000 in
set_option maxHeartbeats 1000000 in
theorem kf_X10_init_0 {Q : HS → Prop} {v0 : Nat} {S0 S : HS} (h : P_X10_init_0 Q v0 S) (K : K2 S0 S) : P_X10_init_0 (fun T => Q T ∧ K2 S0 T) v0 S := by
  delta P_X10_init_0 at h ⊢
  intro x2 e1
  have h := h x2 e1
  intro x4 e3
  have h := h x4 e3
  have K := k2_W K e1 e3
  obtain ⟨c5, h⟩ := h
  refine ⟨c5, ?_⟩
  have n6 := k2_ne K c5 (by decide)
  intro x8 e7
  have h := h x8 e7
  have K := k2_R K e7
  intro x10 e9
  have h := h x10 e9
  intro x12 e11
  have h := h x12 e11
  have K := k2_W K e9 e11
  intro x14 e13
  have h := h x14 e13
  have K := k2_R K e13
  intro x16 e15
  have h := h x16 e15
  intro x18 e17
  have h := h x18 e17
  have K := k2_W K e15 e17
  intro x20 e19
  have h := h x20 e19
  have K := k2_R K e19
  intro x22 e21
  have h := h x22 e21
  intro x24 e23
  have h := h x24 e23
  have K := k2_W K e21 e23
  intro x26 e25
  have h := h x26 e25
  have K := k2_R K e25
  intro x28 e27
  have h := h x28 e27
  intro x30 e29
  have h := h x30 e29
  have K := k2_W K e27 e29
  intro x32 e31
  have h := h x32 e31
  have K := k2_R K e31
  intro x34 e33
  have h := h x34 e33
  intro x36 e35
  have h := h x36 e35
  have K := k2_W K e33 e35
  intro x38 e37
  have h := h x38 e37
  have K := k2_R K e37
  intro x40 e39
  have h := h x40 e39
  intro x42 e41
  have h := h x42 e41
  have K := k2_W K e39 e41
  intro x44 e43
  have h := h x44 e43
  have K := k2_R K e43
  intro x46 e45
  have h := h x46 e45
  intro x48 e47
  have h := h x48 e47
  have K := k2_W K e45 e47
  intro x50 e49
  have h := h x50 e49
  have K := k2_R K e49
  intro x52 e51
  have h := h x52 e51
  intro x54 e53
  have h := h x54 e53
  have K := k2_W K e51 e53
  intro x56 e55
  have h := h x56 e55
  have K := k2_R K e55
  intro x58 e57
  have h := h x58 e57
  intro x60 e59
  have h := h x60 e59
  have K := k2_W K e57 e59
  intro x62 e61
  have h := h x62 e61
  have K := k2_R K e61
  intro x64 e63
  have h := h x64 e63
  intro x66 e65
  have h := h x66 e65
  have K := k2_W K e63 e65
  intro x68 e67
  have h := h x68 e67
  have K := k2_R K e67
  intro x70 e69
  have h := h x70 e69
  intro x72 e71
  have h := h x72 e71
  have K := k2_W K e69 e71
  intro x74 e73
  have h := h x74 e73
  have K := k2_R K e73
  intro x76 e75
  have h := h x76 e75
  intro x78 e77
  have h := h x78 e77
  have K := k2_W K e75 e77
  intro x80 e79
  have h := h x80 e79
  have K := k2_R K e79
  intro x82 e81
  have h := h x82 e81
  intro x84 e83
  have h := h x84 e83
  have K := k2_W K e81 e83
  intro x86 e85
  have h := h x86 e85
  have K := k2_R K e85
  intro x88 e87
  have h := h x88 e87
  intro x90 e89
  have h := h x90 e89
  have K := k2_W K e87 e89
  intro x92 e91
  have h := h x92 e91
  have K := k2_R K e91
  intro x94 e93
  have h := h x94 e93
  intro x96 e95
  have h := h x96 e95
  have K := k2_W K e93 e95
  intro x98 e97
  have h := h x98 e97
  have K := k2_R K e97
  intro x100 e99
  have h := h x100 e99
  intro x102 e101
  have h := h x102 e101
  have K := k2_W K e99 e101
  intro x104 e103
  have h := h x104 e103
  have K := k2_R K e103
  intro x106 e105
  have h := h x106 e105
  intro x108 e107
  have h := h x108 e107
  have K := k2_W K e105 e107
  intro x110 e109
  have h := h x110 e109
  have K := k2_R K e109
  intro x112 e111
  have h := h x112 e111
  intro x114 e113
  have h := h x114 e113
  have K := k2_W K e111 e113
  intro x116 e115
  have h := h x116 e115
  have K := k2_R K e115
  intro x118 e117
  have h := h x118 e117
  intro x120 e119
  have h := h x120 e119
  have K := k2_W K e117 e119
  intro x122 e121
  have h := h x122 e121
  have K := k2_R K e121
  intro x124 e123
  have h := h x124 e123
  intro x126 e125
  have h := h x126 e125
  have K := k2_W K e123 e125
  intro x128 e127
  have h := h x128 e127
  have K := k2_R K e127
  intro x130 e129
  have h := h x130 e129
  intro x132 e131
  have h := h x132 e131
  have K := k2_W K e129 e131
  intro x134 e133
  have h := h x134 e133
  have K := k2_R K e133
  intro x136 e135
  have h := h x136 e135
  intro x138 e137
  have h := h x138 e137
  have K := k2_W K e135 e137
  intro x140 e139
  have h := h x140 e139
  have K := k2_R K e139
  intro x142 e141
  have h := h x142 e141
  intro x144 e143
  have h := h x144 e143
  have K := k2_W K e141 e143
  intro x146 e145
  have h := h x146 e145
  have K := k2_R K e145
  exact ⟨h, K⟩
theorem kf_X10_init {Q : HS → Prop} {v0 : Nat} {S : HS} (h : P_X10_init v0 Q S) : P_X10_init v0 (fun T => Q T ∧ K2 S T) S := kf_X10_init_0 h (k2_rf S)
set_option maxRecDepth 20000 in
set_option maxHeartbeats 1000000 in
theorem kf_X10_minutes_0 {Q : Int32 → HS → Prop} {v0 : Nat} {v1 : Int32} {v2 : Int32} {S0 S : HS} (h : P_X10_minutes_0 Q v0 v1 v2 S) (K : K2 S0 S) : P_X10_minutes_0 (fun r T => Q r T ∧ K2 S0 T) v0 v1 v2 S := by
  delta P_X10_minutes_0 at h ⊢
  obtain ⟨c1, h⟩ := h
  refine ⟨c1, ?_⟩
  have n2 := k2_ne K c1 (by decide)
  obtain ⟨b3, e4, h⟩ := h
  refine ⟨b3, e4, ?_⟩
  obtain ⟨c5, h⟩ := h
  refine ⟨c5, ?_⟩
  have n6 := k2_ne K c5 (by decide)
  obtain ⟨c7, h⟩ := h
  refine ⟨c7, ?_⟩
  intro x9 e8
  have h := h x9 e8
  obtain ⟨c10, h⟩ := h
  refine ⟨c10, ?_⟩
  intro x12 e11
  have h := h x12 e11
  exact ⟨h, K⟩
theorem kf_X10_minutes {Q : Int32 → HS → Prop} {v0 : Nat} {v1 : Int32} {v2 : Int32} {S : HS} (h : P_X10_minutes v0 v1 v2 Q S) : P_X10_minutes v0 v1 v2 (fun r T => Q r T ∧ K2 S T) S := kf_X10_minutes_0 h (k2_rf S)
set_option maxRecDepth 20000 in
set_option maxHeartbeats 1000000 in
theorem kf_X10_shield_0 {Q : Int32 → HS → Prop} {v0 : Nat} {v1 : Int32} {S0 S : HS} (h : P_X10_shield_0 Q v0 v1 S) (K : K2 S0 S) : P_X10_shield_0 (fun r T => Q r T ∧ K2 S0 T) v0 v1 S := by
  delta P_X10_shield_0 at h ⊢
  obtain ⟨c1, h⟩ := h
  refine ⟨c1, ?_⟩
  have n2 := k2_ne K c1 (by decide)
  obtain ⟨b3, e4, h⟩ := h
  refine ⟨b3, e4, ?_⟩
  obtain ⟨c5, h⟩ := h
  refine ⟨c5, ?_⟩
  have n6 := k2_ne K c5 (by decide)
  obtain ⟨c7, h⟩ := h
  refine ⟨c7, ?_⟩
  intro x9 e8
  have h := h x9 e8
  refine ⟨?_, ?_⟩
  · intro c10
    have h := h.1 c10
    exact ⟨h, K⟩
  · intro c11
    have h := h.2 c11
    obtain ⟨b12, e13, h⟩ := h
    refine ⟨b12, e13, ?_⟩
    obtain ⟨c14, h⟩ := h
    refine ⟨c14, ?_⟩
    have n15 := k2_ne K c14 (by decide)
    obtain ⟨c16, h⟩ := h
    refine ⟨c16, ?_⟩
    intro x18 e17
    have h := h x18 e17
    exact ⟨h, K⟩
theorem kf_X10_shield {Q : Int32 → HS → Prop} {v0 : Nat} {v1 : Int32} {S : HS} (h : P_X10_shield v0 v1 Q S) : P_X10_shield v0 v1 (fun r T => Q r T ∧ K2 S T) S := kf_X10_shield_0 h (k2_rf S)
set_option maxRecDepth 20000 in
set_option maxHeartbeats 1000000 in
theorem kf_X11_good_0 {Q : Int32 → HS → Prop} {v0 : Nat} {v1 : Int32} {S0 S : HS} (h : P_X11_good_0 Q v0 v1 S) (K : K2 S0 S) : P_X11_good_0 (fun r T => Q r T ∧ K2 S0 T) v0 v1 S := by
  delta P_X11_good_0 at h ⊢
  obtain ⟨c1, h⟩ := h
  refine ⟨c1, ?_⟩
  have n2 := k2_ne K c1 (by decide)
  intro x4 e3
  have h := h x4 e3
  have K := k2_I K e3 n2
  intro x6 e5
  have h := h x6 e5
  have K := k2_I K e5 n2
  exact ⟨h, K⟩
theorem kf_X11_good {Q : Int32 → HS → Prop} {v0 : Nat} {v1 : Int32} {S : HS} (h : P_X11_good v0 v1 Q S) : P_X11_good v0 v1 (fun r T => Q r T ∧ K2 S T) S := kf_X11_good_0 h (k2_rf S)
set_option maxRecDepth 20000 in
set_option maxHeartbeats 1000000 in
theorem kf_X11_in_0 {Q : Int32 → HS → Prop} {v0 : Int32} {v1 : Int32} {v2 : Int32} {S0 S : HS} (h : P_X11_in_0 Q v0 v1 v2 S) (K : K2 S0 S) : P_X11_in_0 (fun r T => Q r T ∧ K2 S0 T) v0 v1 v2 S := by
  delta P_X11_in_0 at h ⊢
  refine ⟨?_, ?_⟩
  · intro c1
    have h := h.1 c1
    exact ⟨h, K⟩
  · intro c2
    have h := h.2 c2
    refine ⟨?_, ?_⟩
    · intro c3
      have h := h.1 c3
      exact ⟨h, K⟩
    · intro c4
      have h := h.2 c4
      exact ⟨h, K⟩
theorem kf_X11_in {Q : Int32 → HS → Prop} {v0 : Int32} {v1 : Int32} {v2 : Int32} {S : HS} (h : P_X11_in v0 v1 v2 Q S) : P_X11_in v0 v1 v2 (fun r T => Q r T ∧ K2 S T) S := kf_X11_in_0 h (k2_rf S)
set_option maxRecDepth 20000 in
set_option maxHeartbeats 1000000 in
theorem kf_X11_isHour_0 {Q : Int32 → HS → Prop} {v0 : Nat} {v1 : Int32} {S0 S : HS} (h : P_X11_isHour_0 Q v0 v1 S) (K : K2 S0 S) : P_X11_isHour_0 (fun r T => Q r T ∧ K2 S0 T) v0 v1 S := by
  delta P_X11_isHour_0 at h ⊢
  obtain ⟨c1, h⟩ := h
  refine ⟨c1, ?_⟩
  have n2 := k2_ne K c1 (by decide)
  refine ⟨?_, ?_⟩
  · intro c3
    have h := h.1 c3
    exact ⟨h, K⟩
  · intro x4 c5
    have h := h.2 x4 c5
    refine ⟨?_, ?_⟩
    · intro c6
      have h := h.1 c6
      exact ⟨h, K⟩
    · intro c7
      have h := h.2 c7
      obtain ⟨b8, e9, h⟩ := h
      refine ⟨b8, e9, ?_⟩
      obtain ⟨c10, h⟩ := h
      refine ⟨c10, ?_⟩
      have n11 := k2_ne K c10 (by decide)
      intro x13 e12
      have h := h x13 e12
      refine ⟨?_, ?_⟩
      · intro c14
        have h := h.1 c14
        exact ⟨h, K⟩
      · intro c15
        have h := h.2 c15
        exact ⟨h, K⟩
theorem kf_X11_isHour {Q : Int32 → HS → Prop} {v0 : Nat} {v1 : Int32} {S : HS} (h : P_X11_isHour v0 v1 Q S) : P_X11_isHour v0 v1 (fun r T => Q r T ∧ K2 S T) S := kf_X11_isHour_0 h (k2_rf S)
set_option maxRecDepth 20000 in
set_option maxHeartbeats 1000000 in
theorem kf_X11_isRoad_0 {Q : Int32 → HS → Prop} {v0 : Nat} {v1 : Int32} {S0 S : HS} (h : P_X11_isRoad_0 Q v0 v1 S) (K : K2 S0 S) : P_X11_isRoad_0 (fun r T => Q r T ∧ K2 S0 T) v0 v1 S := by
  delta P_X11_isRoad_0 at h ⊢
  obtain ⟨c1, h⟩ := h
  refine ⟨c1, ?_⟩
  have n2 := k2_ne K c1 (by decide)
  refine ⟨?_, ?_⟩
  · intro c3
    have h := h.1 c3
    exact ⟨h, K⟩
  · intro x4 c5
    have h := h.2 x4 c5
    refine ⟨?_, ?_⟩
    · intro c6
      have h := h.1 c6
      exact ⟨h, K⟩
    · intro c7
      have h := h.2 c7
      obtain ⟨b8, e9, h⟩ := h
      refine ⟨b8, e9, ?_⟩
      obtain ⟨c10, h⟩ := h
      refine ⟨c10, ?_⟩
      have n11 := k2_ne K c10 (by decide)
      intro x13 e12
      have h := h x13 e12
      refine ⟨?_, ?_⟩
      · intro c14
        have h := h.1 c14
        exact ⟨h, K⟩
      · intro c15
        have h := h.2 c15
        exact ⟨h, K⟩
theorem kf_X11_isRoad {Q : Int32 → HS → Prop} {v0 : Nat} {v1 : Int32} {S : HS} (h : P_X11_isRoad v0 v1 Q S) : P_X11_isRoad v0 v1 (fun r T => Q r T ∧ K2 S T) S := kf_X11_isRoad_0 h (k2_rf S)
set_option maxRecDepth 20000 in
set_option maxHeartbeats 1000000 in
theorem kf_X11_refused_0 {Q : Int32 → HS → Prop} {v0 : Nat} {v1 : Int32} {S0 S : HS} (h : P_X11_refused_0 Q v0 v1 S) (K : K2 S0 S) : P_X11_refused_0 (fun r T => Q r T ∧ K2 S0 T) v0 v1 S := by
  delta P_X11_refused_0 at h ⊢
  obtain ⟨c1, h⟩ := h
  refine ⟨c1, ?_⟩
  have n2 := k2_ne K c1 (by decide)
  intro x4 e3
  have h := h x4 e3
  have K := k2_I K e3 n2
  intro x6 e5
  have h := h x6 e5
  have K := k2_I K e5 n2
  exact ⟨h, K⟩
theorem kf_X11_refused {Q : Int32 → HS → Prop} {v0 : Nat} {v1 : Int32} {S : HS} (h : P_X11_refused v0 v1 Q S) : P_X11_refused v0 v1 (fun r T => Q r T ∧ K2 S T) S := kf_X11_refused_0 h (k2_rf S)
set_option maxRecDepth 20000 in
set_option maxHeartbeats 1000000 in
theorem kf_X11_lost_0 {Q : Int32 → HS → Prop} {v0 : Nat} {v1 : Int32} {S0 S : HS} (h : P_X11_lost_0 Q v0 v1 S) (K : K2 S0 S) : P_X11_lost_0 (fun r T => Q r T ∧ K2 S0 T) v0 v1 S := by
  delta P_X11_lost_0 at h ⊢
  obtain ⟨c1, h⟩ := h
  refine ⟨c1, ?_⟩
  have n2 := k2_ne K c1 (by decide)
  refine cm_X11_refused (kf_X11_refused h) h (fun x3 x4 hp h g5 => ?_)
  have h := h g5
  have K := k2_tr K hp.2
  exact ⟨h, K⟩
theorem kf_X11_lost {Q : Int32 → HS → Prop} {v0 : Nat} {v1 : Int32} {S : HS} (h : P_X11_lost v0 v1 Q S) : P_X11_lost v0 v1 (fun r T => Q r T ∧ K2 S T) S := kf_X11_lost_0 h (k2_rf S)
set_option maxRecDepth 20000 in
set_option maxHeartbeats 1000000 in
theorem kf_X11_air_30 {Q : Int32 → HS → Prop} {v0 : Nat} {S0 S : HS} (h : P_X11_air_30 Q v0 S) (K : K2 S0 S) : P_X11_air_30 (fun r T => Q r T ∧ K2 S0 T) v0 S := by
  delta P_X11_air_30 at h ⊢
  obtain ⟨c1, h⟩ := h
  refine ⟨c1, ?_⟩
  have n2 := k2_ne K c1 (by decide)
  refine cm_X11_lost (kf_X11_lost h) h (fun x3 x4 hp h g5 => ?_)
  have h := h g5
  have K := k2_tr K hp.2
  exact ⟨h, K⟩
set_option maxRecDepth 20000 in
set_option maxHeartbeats 1000000 in
theorem kf_X11_air_0 {Q : Int32 → HS → Prop} {v0 : Nat} {v1 : Int32} {v2 : Int32} {v3 : Int32} {S0 S : HS} (h : P_X11_air_0 Q v0 v1 v2 v3 S) (K : K2 S0 S) : P_X11_air_0 (fun r T => Q r T ∧ K2 S0 T) v0 v1 v2 v3 S := by
  delta P_X11_air_0 at h ⊢
  obtain ⟨c1, h⟩ := h
  refine ⟨c1, ?_⟩
  have n2 := k2_ne K c1 (by decide)
  intro x4 e3
  have h := h x4 e3
  have K := k2_I K e3 n2
  refine cm_X11_isRoad (kf_X11_isRoad h) h (fun x5 x6 hp h g7 g8 => ?_)
  have h := h g7 g8
  have K := k2_tr K hp.2
  refine ⟨?_, ?_⟩
  · intro c9
    have h := h.1 c9
    exact kf_X11_air_30 h K
  · intro c10
    have h := h.2 c10
    refine cm_X11_in (kf_X11_in h) h (fun x11 x12 hp h g13 g14 => ?_)
    have h := h g13 g14
    have K := k2_tr K hp.2
    refine ⟨?_, ?_⟩
    · intro c15
      have h := h.1 c15
      exact kf_X11_air_30 h K
    · intro c16
      have h := h.2 c16
      refine cm_X11_isHour (kf_X11_isHour h) h (fun x17 x18 hp h g19 g20 => ?_)
      have h := h g19 g20
      have K := k2_tr K hp.2
      refine ⟨?_, ?_⟩
      · intro c21
        have h := h.1 c21
        obtain ⟨b22, e23, h⟩ := h
        refine ⟨b22, e23, ?_⟩
        obtain ⟨c24, h⟩ := h
        refine ⟨c24, ?_⟩
        have n25 := k2_ne K c24 (by decide)
        refine cm_X10_air (kf_X10_air h) h (fun x26 x27 hp h g28 => ?_)
        have h := h g28
        have K := k2_tr K hp.2
        refine cm_X11_good (kf_X11_good h) h (fun x29 x30 hp h g31 => ?_)
        have h := h g31
        have K := k2_tr K hp.2
        exact ⟨h, K⟩
      · intro c32
        have h := h.2 c32
        exact kf_X11_air_30 h K
theorem kf_X11_air {Q : Int32 → HS → Prop} {v0 : Nat} {v1 : Int32} {v2 : Int32} {v3 : Int32} {S : HS} (h : P_X11_air v0 v1 v2 v3 Q S) : P_X11_air v0 v1 v2 v3 (fun r T => Q r T ∧ K2 S T) S := kf_X11_air_0 h (k2_rf S)
set_option maxRecDepth 20000 in
set_option maxHeartbeats 1000000 in
theorem kf_X11_denied_0 {Q : Int32 → HS → Prop} {v0 : Nat} {v1 : Int32} {S0 S : HS} (h : P_X11_denied_0 Q v0 v1 S) (K : K2 S0 S) : P_X11_denied_0 (fun r T => Q r T ∧ K2 S0 T) v0 v1 S := by
  delta P_X11_denied_0 at h ⊢
  obtain ⟨c1, h⟩ := h
  refine ⟨c1, ?_⟩
  have n2 := k2_ne K c1 (by decide)
  refine cm_X11_refused (kf_X11_refused h) h (fun x3 x4 hp h g5 => ?_)
  have h := h g5
  have K := k2_tr K hp.2
  exact ⟨h, K⟩
theorem kf_X11_denied {Q : Int32 → HS → Prop} {v0 : Nat} {v1 : Int32} {S : HS} (h : P_X11_denied v0 v1 Q S) : P_X11_denied v0 v1 (fun r T => Q r T ∧ K2 S T) S := kf_X11_denied_0 h (k2_rf S)
set_option maxRecDepth 20000 in
set_option maxHeartbeats 1000000 in
theorem kf_X11_granted_0 {Q : Int32 → HS → Prop} {v0 : Nat} {S0 S : HS} (h : P_X11_granted_0 Q v0 S) (K : K2 S0 S) : P_X11_granted_0 (fun r T => Q r T ∧ K2 S0 T) v0 S := by
  delta P_X11_granted_0 at h ⊢
  obtain ⟨c1, h⟩ := h
  refine ⟨c1, ?_⟩
  have n2 := k2_ne K c1 (by decide)
  refine cm_X11_good (kf_X11_good h) h (fun x3 x4 hp h g5 => ?_)
  have h := h g5
  have K := k2_tr K hp.2
  exact ⟨h, K⟩
theorem kf_X11_granted {Q : Int32 → HS → Prop} {v0 : Nat} {S : HS} (h : P_X11_granted v0 Q S) : P_X11_granted v0 (fun r T => Q r T ∧ K2 S T) S := kf_X11_granted_0 h (k2_rf S)
set_option maxRecDepth 20000 in
set_option maxHeartbeats 1000000 in
theorem kf_X11_isDay_0 {Q : Int32 → HS → Prop} {v0 : Nat} {S0 S : HS} (h : P_X11_isDay_0 Q v0 S) (K : K2 S0 S) : P_X11_isDay_0 (fun r T => Q r T ∧ K2 S0 T) v0 S := by
  delta P_X11_isDay_0 at h ⊢
  obtain ⟨c1, h⟩ := h
  refine ⟨c1, ?_⟩
  have n2 := k2_ne K c1 (by decide)
  refine ⟨?_, ?_⟩
  · intro c3
    have h := h.1 c3
    exact ⟨h, K⟩
  · intro x4 c5
    have h := h.2 x4 c5
    intro x7 e6
    have h := h x7 e6
    refine ⟨?_, ?_⟩
    · intro c8
      have h := h.1 c8
      exact ⟨h, K⟩
    · intro c9
      have h := h.2 c9
      exact ⟨h, K⟩
theorem kf_X11_isDay {Q : Int32 → HS → Prop} {v0 : Nat} {S : HS} (h : P_X11_isDay v0 Q S) : P_X11_isDay v0 (fun r T => Q r T ∧ K2 S T) S := kf_X11_isDay_0 h (k2_rf S)
set_option maxRecDepth 20000 in
set_option maxHeartbeats 1000000 in
theorem kf_X11_back_24 {Q : Int32 → HS → Prop} {v0 : Nat} {S0 S : HS} (h : P_X11_back_24 Q v0 S) (K : K2 S0 S) : P_X11_back_24 (fun r T => Q r T ∧ K2 S0 T) v0 S := by
  delta P_X11_back_24 at h ⊢
  obtain ⟨c1, h⟩ := h
  refine ⟨c1, ?_⟩
  have n2 := k2_ne K c1 (by decide)
  refine cm_X11_denied (kf_X11_denied h) h (fun x3 x4 hp h g5 g6 => ?_)
  have h := h g5 g6
  have K := k2_tr K hp.2
  obtain ⟨c7, h⟩ := h
  refine ⟨c7, ?_⟩
  exact ⟨h, K⟩
set_option maxRecDepth 20000 in
set_option maxHeartbeats 1000000 in
theorem kfB_X11_back_32 {Q : Int32 → HS → Prop} {X32 X32_2 : Nat → Int32 → Int32 → HS → Prop} {v0 : Nat} {v1 : Int32} {v2 : Int32} {S0 S : HS} (h : B_X11_back_32 Q X32 v0 v1 v2 S) (K : K2 S0 S) (hX32 : ∀ (u0 : Nat) (u1 : Int32) (u2 : Int32) (u3 : HS), X32 u0 u1 u2 u3 → K2 S0 u3 → X32_2 u0 u1 u2 u3) : B_X11_back_32 (fun r T => Q r T ∧ K2 S0 T) X32_2 v0 v1 v2 S := by
  delta B_X11_back_32 at h ⊢
  refine ⟨?_, ?_⟩
  · intro c1
    have h := h.1 c1
    obtain ⟨c2, h⟩ := h
    refine ⟨c2, ?_⟩
    have n3 := k2_ne K c2 (by decide)
    intro x5 e4
    have h := h x5 e4
    have K := k2_I K e4 n3
    refine cm_X11_granted (kf_X11_granted h) h (fun x6 x7 hp h g8 g9 => ?_)
    have h := h g8 g9
    have K := k2_tr K hp.2
    obtain ⟨c10, h⟩ := h
    refine ⟨c10, ?_⟩
    exact ⟨h, K⟩
  · intro c11
    have h := h.2 c11
    obtain ⟨c12, h⟩ := h
    refine ⟨c12, ?_⟩
    have n13 := k2_ne K c12 (by decide)
    obtain ⟨b14, e15, h⟩ := h
    refine ⟨b14, e15, ?_⟩
    obtain ⟨b16, e17, h⟩ := h
    refine ⟨b16, e17, ?_⟩
    obtain ⟨c18, h⟩ := h
    refine ⟨c18, ?_⟩
    have n19 := k2_ne K c18 (by decide)
    intro x21 e20
    have h := h x21 e20
    obtain ⟨c22, h⟩ := h
    refine ⟨c22, ?_⟩
    intro x24 e23
    have h := h x24 e23
    obtain ⟨c25, h⟩ := h
    refine ⟨c25, ?_⟩
    have n26 := k2_ne K c25 (by decide)
    obtain ⟨c27, h⟩ := h
    refine ⟨c27, ?_⟩
    intro x29 e28
    have h := h x29 e28
    have K := k2_J K e28
    intro x31 e30
    have h := h x31 e30
    exact hX32 _ _ _ _ h K
theorem kf_X11_back_32 {Q : Int32 → HS → Prop} {v0 : Nat} {v1 : Int32} {v2 : Int32} {S0 S : HS} (h : P_X11_back_32 Q v0 v1 v2 S) (K : K2 S0 S) : P_X11_back_32 (fun r T => Q r T ∧ K2 S0 T) v0 v1 v2 S := h (fun v0 v1 v2 S => K2 S0 S → P_X11_back_32 (fun r T => Q r T ∧ K2 S0 T) v0 v1 v2 S) (fun v0 v1 v2 S hB K => fd_X11_back_32 (kfB_X11_back_32 hB K (fun _ _ _ _ hx K => hx K))) K
set_option maxRecDepth 20000 in
set_option maxHeartbeats 1000000 in
theorem kf_X11_back_0 {Q : Int32 → HS → Prop} {v0 : Nat} {v1 : Int32} {S0 S : HS} (h : P_X11_back_0 Q v0 v1 S) (K : K2 S0 S) : P_X11_back_0 (fun r T => Q r T ∧ K2 S0 T) v0 v1 S := by
  delta P_X11_back_0 at h ⊢
  obtain ⟨c1, h⟩ := h
  refine ⟨c1, ?_⟩
  have n2 := k2_ne K c1 (by decide)
  intro x4 e3
  have h := h x4 e3
  have K := k2_I K e3 n2
  refine cm_X11_isDay (kf_X11_isDay h) h (fun x5 x6 hp h g7 g8 => ?_)
  have h := h g7 g8
  have K := k2_tr K hp.2
  refine ⟨?_, ?_⟩
  · intro c9
    have h := h.1 c9
    exact kf_X11_back_24 h K
  · intro c10
    have h := h.2 c10
    refine ⟨?_, ?_⟩
    · intro c11
      have h := h.1 c11
      exact kf_X11_back_24 h K
    · intro c12
      have h := h.2 c12
      intro x14 e13
      have h := h x14 e13
      refine ⟨?_, ?_⟩
      · intro c15
        have h := h.1 c15
        exact kf_X11_back_32 h K
      · intro c16
        have h := h.2 c16
        exact kf_X11_back_24 h K
theorem kf_X11_back {Q : Int32 → HS → Prop} {v0 : Nat} {v1 : Int32} {S : HS} (h : P_X11_back v0 v1 Q S) : P_X11_back v0 v1 (fun r T => Q r T ∧ K2 S T) S := kf_X11_back_0 h (k2_rf S)
set_option maxRecDepth 20000 in
set_option maxHeartbeats 1000000 in
theorem kf_X11_flaw_0 {Q : HS → Prop} {v0 : Nat} {v1 : Int32} {S0 S : HS} (h : P_X11_flaw_0 Q v0 v1 S) (K : K2 S0 S) : P_X11_flaw_0 (fun T => Q T ∧ K2 S0 T) v0 v1 S := by
  delta P_X11_flaw_0 at h ⊢
  obtain ⟨c1, h⟩ := h
  refine ⟨c1, ?_⟩
  have n2 := k2_ne K c1 (by decide)
  intro x4 e3
  have h := h x4 e3
  refine ⟨?_, ?_⟩
  · intro c5
    have h := h.1 c5
    intro x7 e6
    have h := h x7 e6
    have K := k2_I K e6 n2
    intro x9 e8
    have h := h x9 e8
    intro x11 e10
    have h := h x11 e10
    have K := k2_I K e10 n2
    intro x13 e12
    have h := h x13 e12
    have K := k2_I K e12 n2
    exact ⟨h, K⟩
  · intro c14
    have h := h.2 c14
    exact ⟨h, K⟩
theorem kf_X11_flaw {Q : HS → Prop} {v0 : Nat} {v1 : Int32} {S : HS} (h : P_X11_flaw v0 v1 Q S) : P_X11_flaw v0 v1 (fun T => Q T ∧ K2 S T) S := kf_X11_flaw_0 h (k2_rf S)
set_option maxRecDepth 20000 in
set_option maxHeartbeats 1000000 in
theorem kf_X11_byteAt_0 {Q : Int32 → HS → Prop} {v0 : Nat} {v1 : Int32} {S0 S : HS} (h : P_X11_byteAt_0 Q v0 v1 S) (K : K2 S0 S) : P_X11_byteAt_0 (fun r T => Q r T ∧ K2 S0 T) v0 v1 S := by
  delta P_X11_byteAt_0 at h ⊢
  obtain ⟨c1, h⟩ := h
  refine ⟨c1, ?_⟩
  have n2 := k2_ne K c1 (by decide)
  intro x4 e3
  have h := h x4 e3
  refine ⟨?_, ?_⟩
  · intro c5
    have h := h.1 c5
    exact ⟨h, K⟩
  · intro c6
    have h := h.2 c6
    obtain ⟨b7, e8, h⟩ := h
    refine ⟨b7, e8, ?_⟩
    obtain ⟨c9, h⟩ := h
    refine ⟨c9, ?_⟩
    obtain ⟨c10, h⟩ := h
    refine ⟨c10, ?_⟩
    intro x12 e11
    have h := h x12 e11
    exact ⟨h, K⟩
theorem kf_X11_byteAt {Q : Int32 → HS → Prop} {v0 : Nat} {v1 : Int32} {S : HS} (h : P_X11_byteAt v0 v1 Q S) : P_X11_byteAt v0 v1 (fun r T => Q r T ∧ K2 S T) S := kf_X11_byteAt_0 h (k2_rf S)
set_option maxRecDepth 20000 in
set_option maxHeartbeats 1000000 in
theorem kf_X11_isDigit_0 {Q : Int32 → HS → Prop} {v0 : Int32} {S0 S : HS} (h : P_X11_isDigit_0 Q v0 S) (K : K2 S0 S) : P_X11_isDigit_0 (fun r T => Q r T ∧ K2 S0 T) v0 S := by
  delta P_X11_isDigit_0 at h ⊢
  refine ⟨?_, ?_⟩
  · intro c1
    have h := h.1 c1
    exact ⟨h, K⟩
  · intro c2
    have h := h.2 c2
    refine ⟨?_, ?_⟩
    · intro c3
      have h := h.1 c3
      exact ⟨h, K⟩
    · intro c4
      have h := h.2 c4
      exact ⟨h, K⟩
theorem kf_X11_isDigit {Q : Int32 → HS → Prop} {v0 : Int32} {S : HS} (h : P_X11_isDigit v0 Q S) : P_X11_isDigit v0 (fun r T => Q r T ∧ K2 S T) S := kf_X11_isDigit_0 h (k2_rf S)
set_option maxRecDepth 20000 in
set_option maxHeartbeats 1000000 in
theorem kf_X11_isLetter_0 {Q : Int32 → HS → Prop} {v0 : Int32} {S0 S : HS} (h : P_X11_isLetter_0 Q v0 S) (K : K2 S0 S) : P_X11_isLetter_0 (fun r T => Q r T ∧ K2 S0 T) v0 S := by
  delta P_X11_isLetter_0 at h ⊢
  refine ⟨?_, ?_⟩
  · intro c1
    have h := h.1 c1
    exact ⟨h, K⟩
  · intro c2
    have h := h.2 c2
    refine ⟨?_, ?_⟩
    · intro c3
      have h := h.1 c3
      exact ⟨h, K⟩
    · intro c4
      have h := h.2 c4
      exact ⟨h, K⟩
theorem kf_X11_isLetter {Q : Int32 → HS → Prop} {v0 : Int32} {S : HS} (h : P_X11_isLetter v0 Q S) : P_X11_isLetter v0 (fun r T => Q r T ∧ K2 S T) S := kf_X11_isLetter_0 h (k2_rf S)
set_option maxRecDepth 20000 in
set_option maxHeartbeats 1000000 in
theorem kf_X11_goesOn_136 {Q : HS → Prop} {X89 X89_2 : Nat → Int32 → HS → Prop} {v0 : Nat} {v2 : Int32} {S0 S : HS} (h : P_X11_goesOn_136 Q X89 v0 v2 S) (K : K2 S0 S) (hX89 : ∀ (u0 : Nat) (u1 : Int32) (u2 : HS), X89 u0 u1 u2 → K2 S0 u2 → X89_2 u0 u1 u2) : P_X11_goesOn_136 (fun T => Q T ∧ K2 S0 T) X89_2 v0 v2 S := by
  delta P_X11_goesOn_136 at h ⊢
  intro x2 e1
  have h := h x2 e1
  obtain ⟨c3, h⟩ := h
  refine ⟨c3, ?_⟩
  have n4 := k2_ne K c3 (by decide)
  intro x6 e5
  have h := h x6 e5
  intro x8 e7
  have h := h x8 e7
  intro x10 e9
  have h := h x10 e9
  have K := k2_I K e9 n4
  exact hX89 _ _ _ h K
set_option maxRecDepth 20000 in
set_option maxHeartbeats 1000000 in
theorem kfB_X11_goesOn_89 {Q : HS → Prop} {X89 X89_2 : Nat → Int32 → HS → Prop} {v0 : Nat} {v2 : Int32} {S0 S : HS} (h : B_X11_goesOn_89 Q X89 v0 v2 S) (K : K2 S0 S) (hX89 : ∀ (u0 : Nat) (u1 : Int32) (u2 : HS), X89 u0 u1 u2 → K2 S0 u2 → X89_2 u0 u1 u2) : B_X11_goesOn_89 (fun T => Q T ∧ K2 S0 T) X89_2 v0 v2 S := by
  delta B_X11_goesOn_89 at h ⊢
  obtain ⟨c1, h⟩ := h
  refine ⟨c1, ?_⟩
  have n2 := k2_ne K c1 (by decide)
  intro x4 e3
  have h := h x4 e3
  refine cm_X11_byteAt (kf_X11_byteAt h) h (fun x5 x6 hp h g7 => ?_)
  have h := h g7
  have K := k2_tr K hp.2
  refine cm_X11_isLetter (kf_X11_isLetter h) h (fun x8 x9 hp h g10 g11 => ?_)
  have h := h g10 g11
  have K := k2_tr K hp.2
  refine ⟨?_, ?_⟩
  · intro c12
    have h := h.1 c12
    refine ⟨?_, ?_⟩
    · intro c13
      have h := h.1 c13
      exact ⟨h, K⟩
    · intro c14
      have h := h.2 c14
      intro x16 e15
      have h := h x16 e15
      have K := k2_I K e15 n2
      exact ⟨h, K⟩
  · intro c17
    have h := h.2 c17
    refine ⟨?_, ?_⟩
    · intro c18
      have h := h.1 c18
      exact kf_X11_goesOn_136 h K hX89
    · intro c19
      have h := h.2 c19
      intro x21 e20
      have h := h x21 e20
      intro x23 e22
      have h := h x23 e22
      refine cm_X11_byteAt (kf_X11_byteAt h) h (fun x24 x25 hp h g26 => ?_)
      have h := h g26
      have K := k2_tr K hp.2
      intro x28 e27
      have h := h x28 e27
      intro x30 e29
      have h := h x30 e29
      have K := k2_J K e29
      exact kf_X11_goesOn_136 h K hX89
theorem kf_X11_goesOn_89 {Q : HS → Prop} {v0 : Nat} {v2 : Int32} {S0 S : HS} (h : P_X11_goesOn_89 Q v0 v2 S) (K : K2 S0 S) : P_X11_goesOn_89 (fun T => Q T ∧ K2 S0 T) v0 v2 S := h (fun v0 v2 S => K2 S0 S → P_X11_goesOn_89 (fun T => Q T ∧ K2 S0 T) v0 v2 S) (fun v0 v2 S hB K => fd_X11_goesOn_89 (kfB_X11_goesOn_89 hB K (fun _ _ _ hx K => hx K))) K
set_option maxRecDepth 20000 in
set_option maxHeartbeats 1000000 in
theorem kf_X11_goesOn_220 {Q : HS → Prop} {X178 X178_2 : Nat → Int32 → HS → Prop} {v0 : Nat} {v2 : Int32} {S0 S : HS} (h : P_X11_goesOn_220 Q X178 v0 v2 S) (K : K2 S0 S) (hX178 : ∀ (u0 : Nat) (u1 : Int32) (u2 : HS), X178 u0 u1 u2 → K2 S0 u2 → X178_2 u0 u1 u2) : P_X11_goesOn_220 (fun T => Q T ∧ K2 S0 T) X178_2 v0 v2 S := by
  delta P_X11_goesOn_220 at h ⊢
  intro x2 e1
  have h := h x2 e1
  obtain ⟨c3, h⟩ := h
  refine ⟨c3, ?_⟩
  have n4 := k2_ne K c3 (by decide)
  intro x6 e5
  have h := h x6 e5
  intro x8 e7
  have h := h x8 e7
  intro x10 e9
  have h := h x10 e9
  have K := k2_I K e9 n4
  exact hX178 _ _ _ h K
set_option maxRecDepth 20000 in
set_option maxHeartbeats 1000000 in
theorem kfB_X11_goesOn_178 {Q : HS → Prop} {X178 X178_2 : Nat → Int32 → HS → Prop} {v0 : Nat} {v2 : Int32} {S0 S : HS} (h : B_X11_goesOn_178 Q X178 v0 v2 S) (K : K2 S0 S) (hX178 : ∀ (u0 : Nat) (u1 : Int32) (u2 : HS), X178 u0 u1 u2 → K2 S0 u2 → X178_2 u0 u1 u2) : B_X11_goesOn_178 (fun T => Q T ∧ K2 S0 T) X178_2 v0 v2 S := by
  delta B_X11_goesOn_178 at h ⊢
  obtain ⟨c1, h⟩ := h
  refine ⟨c1, ?_⟩
  have n2 := k2_ne K c1 (by decide)
  intro x4 e3
  have h := h x4 e3
  refine cm_X11_byteAt (kf_X11_byteAt h) h (fun x5 x6 hp h g7 => ?_)
  have h := h g7
  have K := k2_tr K hp.2
  refine cm_X11_isDigit (kf_X11_isDigit h) h (fun x8 x9 hp h g10 g11 => ?_)
  have h := h g10 g11
  have K := k2_tr K hp.2
  refine ⟨?_, ?_⟩
  · intro c12
    have h := h.1 c12
    refine ⟨?_, ?_⟩
    · intro c13
      have h := h.1 c13
      exact ⟨h, K⟩
    · intro c14
      have h := h.2 c14
      intro x16 e15
      have h := h x16 e15
      have K := k2_I K e15 n2
      exact ⟨h, K⟩
  · intro c17
    have h := h.2 c17
    refine ⟨?_, ?_⟩
    · intro c18
      have h := h.1 c18
      exact kf_X11_goesOn_220 h K hX178
    · intro c19
      have h := h.2 c19
      intro x21 e20
      have h := h x21 e20
      intro x23 e22
      have h := h x23 e22
      refine cm_X11_byteAt (kf_X11_byteAt h) h (fun x24 x25 hp h g26 => ?_)
      have h := h g26
      have K := k2_tr K hp.2
      intro x28 e27
      have h := h x28 e27
      intro x30 e29
      have h := h x30 e29
      have K := k2_I K e29 n2
      exact kf_X11_goesOn_220 h K hX178
theorem kf_X11_goesOn_178 {Q : HS → Prop} {v0 : Nat} {v2 : Int32} {S0 S : HS} (h : P_X11_goesOn_178 Q v0 v2 S) (K : K2 S0 S) : P_X11_goesOn_178 (fun T => Q T ∧ K2 S0 T) v0 v2 S := h (fun v0 v2 S => K2 S0 S → P_X11_goesOn_178 (fun T => Q T ∧ K2 S0 T) v0 v2 S) (fun v0 v2 S hB K => fd_X11_goesOn_178 (kfB_X11_goesOn_178 hB K (fun _ _ _ hx K => hx K))) K
set_option maxRecDepth 20000 in
set_option maxHeartbeats 1000000 in
theorem kf_X11_goesOn_261 {Q : HS → Prop} {v0 : Nat} {v1 : Int32} {S0 S : HS} (h : P_X11_goesOn_261 Q v0 v1 S) (K : K2 S0 S) : P_X11_goesOn_261 (fun T => Q T ∧ K2 S0 T) v0 v1 S := by
  delta P_X11_goesOn_261 at h ⊢
  obtain ⟨c1, h⟩ := h
  refine ⟨c1, ?_⟩
  have n2 := k2_ne K c1 (by decide)
  intro x4 e3
  have h := h x4 e3
  have K := k2_I K e3 n2
  intro x6 e5
  have h := h x6 e5
  have K := k2_I K e5 n2
  intro x8 e7
  have h := h x8 e7
  intro x10 e9
  have h := h x10 e9
  intro x12 e11
  have h := h x12 e11
  have K := k2_I K e11 n2
  exact ⟨h, K⟩
set_option maxRecDepth 20000 in
set_option maxHeartbeats 1000000 in
theorem kfB_X11_goesOn_9 {Q : HS → Prop} {X9 X9_2 : Nat → HS → Prop} {v0 : Nat} {S0 S : HS} (h : B_X11_goesOn_9 Q X9 v0 S) (K : K2 S0 S) (hX9 : ∀ (u0 : Nat) (u1 : HS), X9 u0 u1 → K2 S0 u1 → X9_2 u0 u1) : B_X11_goesOn_9 (fun T => Q T ∧ K2 S0 T) X9_2 v0 S := by
  delta B_X11_goesOn_9 at h ⊢
  obtain ⟨c1, h⟩ := h
  refine ⟨c1, ?_⟩
  have n2 := k2_ne K c1 (by decide)
  intro x4 e3
  have h := h x4 e3
  refine cm_X11_byteAt (kf_X11_byteAt h) h (fun x5 x6 hp h g7 => ?_)
  have h := h g7
  have K := k2_tr K hp.2
  refine ⟨?_, ?_⟩
  · intro c8
    have h := h.1 c8
    intro x10 e9
    have h := h x10 e9
    intro x12 e11
    have h := h x12 e11
    have K := k2_I K e11 n2
    intro x14 e13
    have h := h x14 e13
    have K := k2_I K e13 n2
    intro x16 e15
    have h := h x16 e15
    have K := k2_I K e15 n2
    intro x18 e17
    have h := h x18 e17
    refine cm_X11_byteAt (kf_X11_byteAt h) h (fun x19 x20 hp h g21 => ?_)
    have h := h g21
    have K := k2_tr K hp.2
    refine ⟨?_, ?_⟩
    · intro c22
      have h := h.1 c22
      refine cm_X11_isLetter (kf_X11_isLetter h) h (fun x23 x24 hp h g25 g26 => ?_)
      have h := h g25 g26
      have K := k2_tr K hp.2
      refine ⟨?_, ?_⟩
      · intro c27
        have h := h.1 c27
        refine cm_X11_isDigit (kf_X11_isDigit h) h (fun x28 x29 hp h g30 g31 => ?_)
        have h := h g30 g31
        have K := k2_tr K hp.2
        refine ⟨?_, ?_⟩
        · intro c32
          have h := h.1 c32
          refine ⟨?_, ?_⟩
          · intro c33
            have h := h.1 c33
            exact kf_X11_goesOn_261 h K
          · intro c34
            have h := h.2 c34
            refine ⟨?_, ?_⟩
            · intro c35
              have h := h.1 c35
              exact ⟨h, K⟩
            · intro c36
              have h := h.2 c36
              exact kf_X11_goesOn_261 h K
        · intro c37
          have h := h.2 c37
          intro x39 e38
          have h := h x39 e38
          have K := k2_I K e38 n2
          exact kf_X11_goesOn_178 h K
      · intro c40
        have h := h.2 c40
        intro x42 e41
        have h := h x42 e41
        have K := k2_J K e41
        exact kf_X11_goesOn_89 h K
    · intro c43
      have h := h.2 c43
      intro x45 e44
      have h := h x45 e44
      have K := k2_I K e44 n2
      exact ⟨h, K⟩
  · intro c46
    have h := h.2 c46
    intro x48 e47
    have h := h x48 e47
    intro x50 e49
    have h := h x50 e49
    intro x52 e51
    have h := h x52 e51
    have K := k2_I K e51 n2
    exact hX9 _ _ h K
theorem kf_X11_goesOn_9 {Q : HS → Prop} {v0 : Nat} {S0 S : HS} (h : P_X11_goesOn_9 Q v0 S) (K : K2 S0 S) : P_X11_goesOn_9 (fun T => Q T ∧ K2 S0 T) v0 S := h (fun v0 S => K2 S0 S → P_X11_goesOn_9 (fun T => Q T ∧ K2 S0 T) v0 S) (fun v0 S hB K => fd_X11_goesOn_9 (kfB_X11_goesOn_9 hB K (fun _ _ hx K => hx K))) K
set_option maxRecDepth 20000 in
set_option maxHeartbeats 1000000 in
theorem kf_X11_goesOn_0 {Q : HS → Prop} {v0 : Nat} {S0 S : HS} (h : P_X11_goesOn_0 Q v0 S) (K : K2 S0 S) : P_X11_goesOn_0 (fun T => Q T ∧ K2 S0 T) v0 S := by
  delta P_X11_goesOn_0 at h ⊢
  obtain ⟨c1, h⟩ := h
  refine ⟨c1, ?_⟩
  have n2 := k2_ne K c1 (by decide)
  intro x4 e3
  have h := h x4 e3
  refine ⟨?_, ?_⟩
  · intro c5
    have h := h.1 c5
    exact kf_X11_goesOn_9 h K
  · intro c6
    have h := h.2 c6
    exact ⟨h, K⟩
theorem kf_X11_goesOn {Q : HS → Prop} {v0 : Nat} {S : HS} (h : P_X11_goesOn v0 Q S) : P_X11_goesOn v0 (fun T => Q T ∧ K2 S T) S := kf_X11_goesOn_0 h (k2_rf S)
set_option maxRecDepth 20000 in
set_option maxHeartbeats 1000000 in
theorem kf_X11_begins_26 {Q : HS → Prop} {v0 : Nat} {S0 S : HS} (h : P_X11_begins_26 Q v0 S) (K : K2 S0 S) : P_X11_begins_26 (fun T => Q T ∧ K2 S0 T) v0 S := by
  delta P_X11_begins_26 at h ⊢
  obtain ⟨c1, h⟩ := h
  refine ⟨c1, ?_⟩
  have n2 := k2_ne K c1 (by decide)
  refine cm_X11_goesOn (kf_X11_goesOn h) h (fun x3 hp h g4 => ?_)
  have h := h g4
  have K := k2_tr K hp.2
  exact ⟨h, K⟩
set_option maxRecDepth 20000 in
set_option maxHeartbeats 1000000 in
theorem kf_X11_begins_10 {Q : HS → Prop} {v0 : Nat} {S0 S : HS} (h : P_X11_begins_10 Q v0 S) (K : K2 S0 S) : P_X11_begins_10 (fun T => Q T ∧ K2 S0 T) v0 S := by
  delta P_X11_begins_10 at h ⊢
  obtain ⟨c1, h⟩ := h
  refine ⟨c1, ?_⟩
  have n2 := k2_ne K c1 (by decide)
  obtain ⟨b3, e4, h⟩ := h
  refine ⟨b3, e4, ?_⟩
  obtain ⟨c5, h⟩ := h
  refine ⟨c5, ?_⟩
  have n6 := k2_ne K c5 (by decide)
  intro x8 e7
  have h := h x8 e7
  refine ⟨?_, ?_⟩
  · intro c9
    have h := h.1 c9
    exact kf_X11_begins_26 h K
  · intro c10
    have h := h.2 c10
    refine cm_X11_flaw (kf_X11_flaw h) h (fun x11 hp h g12 => ?_)
    have h := h g12
    have K := k2_tr K hp.2
    exact kf_X11_begins_26 h K
set_option maxRecDepth 20000 in
set_option maxHeartbeats 1000000 in
theorem kf_X11_begins_0 {Q : HS → Prop} {v0 : Nat} {v1 : Int32} {v2 : Int32} {S0 S : HS} (h : P_X11_begins_0 Q v0 v1 v2 S) (K : K2 S0 S) : P_X11_begins_0 (fun T => Q T ∧ K2 S0 T) v0 v1 v2 S := by
  delta P_X11_begins_0 at h ⊢
  refine ⟨?_, ?_⟩
  · intro c1
    have h := h.1 c1
    exact kf_X11_begins_10 h K
  · intro c2
    have h := h.2 c2
    obtain ⟨c3, h⟩ := h
    refine ⟨c3, ?_⟩
    have n4 := k2_ne K c3 (by decide)
    refine cm_X11_flaw (kf_X11_flaw h) h (fun x5 hp h g6 => ?_)
    have h := h g6
    have K := k2_tr K hp.2
    exact kf_X11_begins_10 h K
theorem kf_X11_begins {Q : HS → Prop} {v0 : Nat} {v1 : Int32} {v2 : Int32} {S : HS} (h : P_X11_begins v0 v1 v2 Q S) : P_X11_begins v0 v1 v2 (fun T => Q T ∧ K2 S T) S := kf_X11_begins_0 h (k2_rf S)
set_option maxRecDepth 20000 in
set_option maxHeartbeats 1000000 in
theorem kf_X11_isForward_112 {Q : Int32 → HS → Prop} {v0 : Nat} {v4 : Int32} {v7 : Int32} {v8 : Int32} {v9 : Int32} {s0 : Int32} {S0 S : HS} (h : P_X11_isForward_112 Q v0 v4 v7 v8 v9 s0 S) (K : K2 S0 S) : P_X11_isForward_112 (fun r T => Q r T ∧ K2 S0 T) v0 v4 v7 v8 v9 s0 S := by
  delta P_X11_isForward_112 at h ⊢
  refine ⟨?_, ?_⟩
  · intro c1
    have h := h.1 c1
    exact ⟨h, K⟩
  · intro c2
    have h := h.2 c2
    refine ⟨?_, ?_⟩
    · intro c3
      have h := h.1 c3
      exact ⟨h, K⟩
    · intro c4
      have h := h.2 c4
      obtain ⟨c5, h⟩ := h
      refine ⟨c5, ?_⟩
      have n6 := k2_ne K c5 (by decide)
      obtain ⟨b7, e8, h⟩ := h
      refine ⟨b7, e8, ?_⟩
      obtain ⟨c9, h⟩ := h
      refine ⟨c9, ?_⟩
      have n10 := k2_ne K c9 (by decide)
      obtain ⟨b11, e12, h⟩ := h
      refine ⟨b11, e12, ?_⟩
      obtain ⟨c13, h⟩ := h
      refine ⟨c13, ?_⟩
      have n14 := k2_ne K c13 (by decide)
      obtain ⟨c15, h⟩ := h
      refine ⟨c15, ?_⟩
      intro x17 e16
      have h := h x17 e16
      obtain ⟨b18, e19, h⟩ := h
      refine ⟨b18, e19, ?_⟩
      obtain ⟨c20, h⟩ := h
      refine ⟨c20, ?_⟩
      have n21 := k2_ne K c20 (by decide)
      obtain ⟨b22, e23, h⟩ := h
      refine ⟨b22, e23, ?_⟩
      obtain ⟨c24, h⟩ := h
      refine ⟨c24, ?_⟩
      have n25 := k2_ne K c24 (by decide)
      obtain ⟨c26, h⟩ := h
      refine ⟨c26, ?_⟩
      intro x28 e27
      have h := h x28 e27
      obtain ⟨b29, e30, h⟩ := h
      refine ⟨b29, e30, ?_⟩
      obtain ⟨c31, h⟩ := h
      refine ⟨c31, ?_⟩
      have n32 := k2_ne K c31 (by decide)
      obtain ⟨b33, e34, h⟩ := h
      refine ⟨b33, e34, ?_⟩
      obtain ⟨c35, h⟩ := h
      refine ⟨c35, ?_⟩
      have n36 := k2_ne K c35 (by decide)
      obtain ⟨c37, h⟩ := h
      refine ⟨c37, ?_⟩
      intro x39 e38
      have h := h x39 e38
      refine ⟨?_, ?_⟩
      · intro c40
        have h := h.1 c40
        exact ⟨h, K⟩
      · intro c41
        have h := h.2 c41
        exact ⟨h, K⟩
set_option maxRecDepth 20000 in
set_option maxHeartbeats 1000000 in
theorem kf_X11_isForward_84 {Q : Int32 → HS → Prop} {v0 : Nat} {v2 : Int32} {v4 : Int32} {v7 : Int32} {v8 : Int32} {s0 : Int32} {S0 S : HS} (h : P_X11_isForward_84 Q v0 v2 v4 v7 v8 s0 S) (K : K2 S0 S) : P_X11_isForward_84 (fun r T => Q r T ∧ K2 S0 T) v0 v2 v4 v7 v8 s0 S := by
  delta P_X11_isForward_84 at h ⊢
  obtain ⟨c1, h⟩ := h
  refine ⟨c1, ?_⟩
  have n2 := k2_ne K c1 (by decide)
  obtain ⟨b3, e4, h⟩ := h
  refine ⟨b3, e4, ?_⟩
  obtain ⟨c5, h⟩ := h
  refine ⟨c5, ?_⟩
  have n6 := k2_ne K c5 (by decide)
  obtain ⟨b7, e8, h⟩ := h
  refine ⟨b7, e8, ?_⟩
  obtain ⟨c9, h⟩ := h
  refine ⟨c9, ?_⟩
  have n10 := k2_ne K c9 (by decide)
  obtain ⟨c11, h⟩ := h
  refine ⟨c11, ?_⟩
  intro x13 e12
  have h := h x13 e12
  obtain ⟨b14, e15, h⟩ := h
  refine ⟨b14, e15, ?_⟩
  obtain ⟨c16, h⟩ := h
  refine ⟨c16, ?_⟩
  have n17 := k2_ne K c16 (by decide)
  obtain ⟨b18, e19, h⟩ := h
  refine ⟨b18, e19, ?_⟩
  obtain ⟨c20, h⟩ := h
  refine ⟨c20, ?_⟩
  have n21 := k2_ne K c20 (by decide)
  obtain ⟨c22, h⟩ := h
  refine ⟨c22, ?_⟩
  intro x24 e23
  have h := h x24 e23
  refine ⟨?_, ?_⟩
  · intro c25
    have h := h.1 c25
    exact kf_X11_isForward_112 h K
  · intro c26
    have h := h.2 c26
    exact kf_X11_isForward_112 h K
set_option maxRecDepth 20000 in
set_option maxHeartbeats 1000000 in
theorem kf_X11_isForward_54 {Q : Int32 → HS → Prop} {v0 : Nat} {v1 : Int32} {v2 : Int32} {v4 : Int32} {v6 : Int32} {v7 : Int32} {s0 : Int32} {S0 S : HS} (h : P_X11_isForward_54 Q v0 v1 v2 v4 v6 v7 s0 S) (K : K2 S0 S) : P_X11_isForward_54 (fun r T => Q r T ∧ K2 S0 T) v0 v1 v2 v4 v6 v7 s0 S := by
  delta P_X11_isForward_54 at h ⊢
  obtain ⟨c1, h⟩ := h
  refine ⟨c1, ?_⟩
  have n2 := k2_ne K c1 (by decide)
  obtain ⟨b3, e4, h⟩ := h
  refine ⟨b3, e4, ?_⟩
  obtain ⟨c5, h⟩ := h
  refine ⟨c5, ?_⟩
  have n6 := k2_ne K c5 (by decide)
  obtain ⟨b7, e8, h⟩ := h
  refine ⟨b7, e8, ?_⟩
  obtain ⟨c9, h⟩ := h
  refine ⟨c9, ?_⟩
  have n10 := k2_ne K c9 (by decide)
  obtain ⟨c11, h⟩ := h
  refine ⟨c11, ?_⟩
  intro x13 e12
  have h := h x13 e12
  refine ⟨?_, ?_⟩
  · intro c14
    have h := h.1 c14
    obtain ⟨b15, e16, h⟩ := h
    refine ⟨b15, e16, ?_⟩
    obtain ⟨c17, h⟩ := h
    refine ⟨c17, ?_⟩
    have n18 := k2_ne K c17 (by decide)
    obtain ⟨b19, e20, h⟩ := h
    refine ⟨b19, e20, ?_⟩
    obtain ⟨c21, h⟩ := h
    refine ⟨c21, ?_⟩
    have n22 := k2_ne K c21 (by decide)
    obtain ⟨c23, h⟩ := h
    refine ⟨c23, ?_⟩
    intro x25 e24
    have h := h x25 e24
    exact kf_X11_isForward_84 h K
  · intro c26
    have h := h.2 c26
    exact kf_X11_isForward_84 h K
set_option maxRecDepth 20000 in
set_option maxHeartbeats 1000000 in
theorem kf_X11_isForward_0 {Q : Int32 → HS → Prop} {v0 : Nat} {v1 : Int32} {v2 : Int32} {v3 : Int32} {v4 : Int32} {v5 : Int32} {S0 S : HS} (h : P_X11_isForward_0 Q v0 v1 v2 v3 v4 v5 S) (K : K2 S0 S) : P_X11_isForward_0 (fun r T => Q r T ∧ K2 S0 T) v0 v1 v2 v3 v4 v5 S := by
  delta P_X11_isForward_0 at h ⊢
  obtain ⟨c1, h⟩ := h
  refine ⟨c1, ?_⟩
  have n2 := k2_ne K c1 (by decide)
  obtain ⟨b3, e4, h⟩ := h
  refine ⟨b3, e4, ?_⟩
  obtain ⟨c5, h⟩ := h
  refine ⟨c5, ?_⟩
  have n6 := k2_ne K c5 (by decide)
  refine cm_X10_shield (kf_X10_shield h) h (fun x7 x8 hp h g9 => ?_)
  have h := h g9
  have K := k2_tr K hp.2
  obtain ⟨b10, e11, h⟩ := h
  refine ⟨b10, e11, ?_⟩
  obtain ⟨c12, h⟩ := h
  refine ⟨c12, ?_⟩
  have n13 := k2_ne K c12 (by decide)
  refine cm_X10_air (kf_X10_air h) h (fun x14 x15 hp h g16 => ?_)
  have h := h g16
  have K := k2_tr K hp.2
  intro x18 e17
  have h := h x18 e17
  obtain ⟨b19, e20, h⟩ := h
  refine ⟨b19, e20, ?_⟩
  obtain ⟨c21, h⟩ := h
  refine ⟨c21, ?_⟩
  have n22 := k2_ne K c21 (by decide)
  obtain ⟨b23, e24, h⟩ := h
  refine ⟨b23, e24, ?_⟩
  obtain ⟨c25, h⟩ := h
  refine ⟨c25, ?_⟩
  have n26 := k2_ne K c25 (by decide)
  obtain ⟨c27, h⟩ := h
  refine ⟨c27, ?_⟩
  intro x29 e28
  have h := h x29 e28
  refine ⟨?_, ?_⟩
  · intro c30
    have h := h.1 c30
    obtain ⟨b31, e32, h⟩ := h
    refine ⟨b31, e32, ?_⟩
    obtain ⟨c33, h⟩ := h
    refine ⟨c33, ?_⟩
    have n34 := k2_ne K c33 (by decide)
    obtain ⟨b35, e36, h⟩ := h
    refine ⟨b35, e36, ?_⟩
    obtain ⟨c37, h⟩ := h
    refine ⟨c37, ?_⟩
    have n38 := k2_ne K c37 (by decide)
    obtain ⟨c39, h⟩ := h
    refine ⟨c39, ?_⟩
    intro x41 e40
    have h := h x41 e40
    exact kf_X11_isForward_54 h K
  · intro c42
    have h := h.2 c42
    exact kf_X11_isForward_54 h K
theorem kf_X11_isForward {Q : Int32 → HS → Prop} {v0 : Nat} {v1 : Int32} {v2 : Int32} {v3 : Int32} {v4 : Int32} {v5 : Int32} {S : HS} (h : P_X11_isForward v0 v1 v2 v3 v4 v5 Q S) : P_X11_isForward v0 v1 v2 v3 v4 v5 (fun r T => Q r T ∧ K2 S T) S := kf_X11_isForward_0 h (k2_rf S)
set_option maxRecDepth 20000 in
set_option maxHeartbeats 1000000 in
theorem kf_X11_less_0 {Q : Int32 → HS → Prop} {v0 : Int32} {v1 : Int32} {S0 S : HS} (h : P_X11_less_0 Q v0 v1 S) (K : K2 S0 S) : P_X11_less_0 (fun r T => Q r T ∧ K2 S0 T) v0 v1 S := by
  delta P_X11_less_0 at h ⊢
  refine ⟨?_, ?_⟩
  · intro c1
    have h := h.1 c1
    exact ⟨h, K⟩
  · intro c2
    have h := h.2 c2
    exact ⟨h, K⟩
theorem kf_X11_less {Q : Int32 → HS → Prop} {v0 : Int32} {v1 : Int32} {S : HS} (h : P_X11_less v0 v1 Q S) : P_X11_less v0 v1 (fun r T => Q r T ∧ K2 S T) S := kf_X11_less_0 h (k2_rf S)
set_option maxRecDepth 20000 in
set_option maxHeartbeats 1000000 in
theorem kf_X11_inTime_129 {Q : Int32 → HS → Prop} {s0 : Int32} {s1 : Int32} {s2 : Int32} {S0 S : HS} (h : P_X11_inTime_129 Q s0 s1 s2 S) (K : K2 S0 S) : P_X11_inTime_129 (fun r T => Q r T ∧ K2 S0 T) s0 s1 s2 S := by
  delta P_X11_inTime_129 at h ⊢
  refine cm_X11_less (kf_X11_less h) h (fun x1 x2 hp h g3 => ?_)
  have h := h g3
  have K := k2_tr K hp.2
  exact ⟨h, K⟩
set_option maxRecDepth 20000 in
set_option maxHeartbeats 1000000 in
theorem kf_X11_inTime_164 {Q : Int32 → HS → Prop} {v7 : Int32} {s0 : Int32} {s1 : Int32} {s2 : Int32} {S0 S : HS} (h : P_X11_inTime_164 Q v7 s0 s1 s2 S) (K : K2 S0 S) : P_X11_inTime_164 (fun r T => Q r T ∧ K2 S0 T) v7 s0 s1 s2 S := by
  delta P_X11_inTime_164 at h ⊢
  refine cm_X11_less (kf_X11_less h) h (fun x1 x2 hp h g3 => ?_)
  have h := h g3
  have K := k2_tr K hp.2
  refine cm_X11_less (kf_X11_less h) h (fun x4 x5 hp h g6 => ?_)
  have h := h g6
  have K := k2_tr K hp.2
  exact ⟨h, K⟩
set_option maxRecDepth 20000 in
set_option maxHeartbeats 1000000 in
theorem kf_X11_inTime_0 {Q : Int32 → HS → Prop} {v0 : Nat} {v1 : Int32} {v2 : Int32} {v3 : Int32} {v4 : Int32} {v5 : Int32} {v6 : Int32} {v7 : Int32} {v8 : Int32} {S0 S : HS} (h : P_X11_inTime_0 Q v0 v1 v2 v3 v4 v5 v6 v7 v8 S) (K : K2 S0 S) : P_X11_inTime_0 (fun r T => Q r T ∧ K2 S0 T) v0 v1 v2 v3 v4 v5 v6 v7 v8 S := by
  delta P_X11_inTime_0 at h ⊢
  obtain ⟨c1, h⟩ := h
  refine ⟨c1, ?_⟩
  have n2 := k2_ne K c1 (by decide)
  obtain ⟨b3, e4, h⟩ := h
  refine ⟨b3, e4, ?_⟩
  obtain ⟨c5, h⟩ := h
  refine ⟨c5, ?_⟩
  have n6 := k2_ne K c5 (by decide)
  obtain ⟨b7, e8, h⟩ := h
  refine ⟨b7, e8, ?_⟩
  obtain ⟨c9, h⟩ := h
  refine ⟨c9, ?_⟩
  have n10 := k2_ne K c9 (by decide)
  obtain ⟨c11, h⟩ := h
  refine ⟨c11, ?_⟩
  intro x13 e12
  have h := h x13 e12
  obtain ⟨b14, e15, h⟩ := h
  refine ⟨b14, e15, ?_⟩
  obtain ⟨c16, h⟩ := h
  refine ⟨c16, ?_⟩
  have n17 := k2_ne K c16 (by decide)
  refine cm_X10_air (kf_X10_air h) h (fun x18 x19 hp h g20 => ?_)
  have h := h g20
  have K := k2_tr K hp.2
  intro x22 e21
  have h := h x22 e21
  obtain ⟨b23, e24, h⟩ := h
  refine ⟨b23, e24, ?_⟩
  obtain ⟨c25, h⟩ := h
  refine ⟨c25, ?_⟩
  have n26 := k2_ne K c25 (by decide)
  refine cm_X10_across (kf_X10_across h) h (fun x27 x28 hp h g29 => ?_)
  have h := h g29
  have K := k2_tr K hp.2
  refine cm_X11_isForward (kf_X11_isForward h) h (fun x30 x31 hp h g32 g33 => ?_)
  have h := h g32 g33
  have K := k2_tr K hp.2
  obtain ⟨b34, e35, h⟩ := h
  refine ⟨b34, e35, ?_⟩
  obtain ⟨c36, h⟩ := h
  refine ⟨c36, ?_⟩
  have n37 := k2_ne K c36 (by decide)
  refine cm_X10_shield (kf_X10_shield h) h (fun x38 x39 hp h g40 => ?_)
  have h := h g40
  have K := k2_tr K hp.2
  refine ⟨?_, ?_, ?_, ?_, ?_⟩
  · intro c41
    have h := h.1 c41
    refine ⟨?_, ?_⟩
    · intro c42
      have h := h.1 c42
      exact ⟨h, K⟩
    · intro c43
      have h := h.2 c43
      obtain ⟨b44, e45, h⟩ := h
      refine ⟨b44, e45, ?_⟩
      obtain ⟨c46, h⟩ := h
      refine ⟨c46, ?_⟩
      have n47 := k2_ne K c46 (by decide)
      obtain ⟨b48, e49, h⟩ := h
      refine ⟨b48, e49, ?_⟩
      obtain ⟨c50, h⟩ := h
      refine ⟨c50, ?_⟩
      have n51 := k2_ne K c50 (by decide)
      obtain ⟨c52, h⟩ := h
      refine ⟨c52, ?_⟩
      intro x54 e53
      have h := h x54 e53
      exact ⟨h, K⟩
  · intro c55
    have h := h.2.1 c55
    obtain ⟨b56, e57, h⟩ := h
    refine ⟨b56, e57, ?_⟩
    obtain ⟨c58, h⟩ := h
    refine ⟨c58, ?_⟩
    have n59 := k2_ne K c58 (by decide)
    obtain ⟨b60, e61, h⟩ := h
    refine ⟨b60, e61, ?_⟩
    obtain ⟨c62, h⟩ := h
    refine ⟨c62, ?_⟩
    have n63 := k2_ne K c62 (by decide)
    obtain ⟨c64, h⟩ := h
    refine ⟨c64, ?_⟩
    intro x66 e65
    have h := h x66 e65
    obtain ⟨b67, e68, h⟩ := h
    refine ⟨b67, e68, ?_⟩
    obtain ⟨c69, h⟩ := h
    refine ⟨c69, ?_⟩
    have n70 := k2_ne K c69 (by decide)
    obtain ⟨b71, e72, h⟩ := h
    refine ⟨b71, e72, ?_⟩
    obtain ⟨c73, h⟩ := h
    refine ⟨c73, ?_⟩
    have n74 := k2_ne K c73 (by decide)
    obtain ⟨c75, h⟩ := h
    refine ⟨c75, ?_⟩
    intro x77 e76
    have h := h x77 e76
    refine ⟨?_, ?_⟩
    · intro c78
      have h := h.1 c78
      exact kf_X11_inTime_129 h K
    · intro c79
      have h := h.2 c79
      exact kf_X11_inTime_129 h K
  · intro c80
    have h := h.2.2.1 c80
    refine ⟨?_, ?_⟩
    · intro c81
      have h := h.1 c81
      exact ⟨h, K⟩
    · intro c82
      have h := h.2 c82
      obtain ⟨b83, e84, h⟩ := h
      refine ⟨b83, e84, ?_⟩
      obtain ⟨c85, h⟩ := h
      refine ⟨c85, ?_⟩
      have n86 := k2_ne K c85 (by decide)
      obtain ⟨b87, e88, h⟩ := h
      refine ⟨b87, e88, ?_⟩
      obtain ⟨c89, h⟩ := h
      refine ⟨c89, ?_⟩
      have n90 := k2_ne K c89 (by decide)
      obtain ⟨c91, h⟩ := h
      refine ⟨c91, ?_⟩
      intro x93 e92
      have h := h x93 e92
      refine ⟨?_, ?_⟩
      · intro c94
        have h := h.1 c94
        exact kf_X11_inTime_164 h K
      · intro c95
        have h := h.2 c95
        exact kf_X11_inTime_164 h K
  · intro c96
    have h := h.2.2.2.1 c96
    refine ⟨?_, ?_⟩
    · intro c97
      have h := h.1 c97
      exact ⟨h, K⟩
    · intro c98
      have h := h.2 c98
      obtain ⟨b99, e100, h⟩ := h
      refine ⟨b99, e100, ?_⟩
      obtain ⟨c101, h⟩ := h
      refine ⟨c101, ?_⟩
      have n102 := k2_ne K c101 (by decide)
      obtain ⟨b103, e104, h⟩ := h
      refine ⟨b103, e104, ?_⟩
      obtain ⟨c105, h⟩ := h
      refine ⟨c105, ?_⟩
      have n106 := k2_ne K c105 (by decide)
      obtain ⟨c107, h⟩ := h
      refine ⟨c107, ?_⟩
      intro x109 e108
      have h := h x109 e108
      refine cm_X11_less (kf_X11_less h) h (fun x110 x111 hp h g112 => ?_)
      have h := h g112
      have K := k2_tr K hp.2
      exact ⟨h, K⟩
  · intro c113
    have h := h.2.2.2.2 c113
    refine ⟨?_, ?_⟩
    · intro c114
      have h := h.1 c114
      exact ⟨h, K⟩
    · intro c115
      have h := h.2 c115
      obtain ⟨b116, e117, h⟩ := h
      refine ⟨b116, e117, ?_⟩
      obtain ⟨c118, h⟩ := h
      refine ⟨c118, ?_⟩
      have n119 := k2_ne K c118 (by decide)
      obtain ⟨b120, e121, h⟩ := h
      refine ⟨b120, e121, ?_⟩
      obtain ⟨c122, h⟩ := h
      refine ⟨c122, ?_⟩
      have n123 := k2_ne K c122 (by decide)
      obtain ⟨c124, h⟩ := h
      refine ⟨c124, ?_⟩
      intro x126 e125
      have h := h x126 e125
      exact ⟨h, K⟩
theorem kf_X11_inTime {Q : Int32 → HS → Prop} {v0 : Nat} {v1 : Int32} {v2 : Int32} {v3 : Int32} {v4 : Int32} {v5 : Int32} {v6 : Int32} {v7 : Int32} {v8 : Int32} {S : HS} (h : P_X11_inTime v0 v1 v2 v3 v4 v5 v6 v7 v8 Q S) : P_X11_inTime v0 v1 v2 v3 v4 v5 v6 v7 v8 (fun r T => Q r T ∧ K2 S T) S := kf_X11_inTime_0 h (k2_rf S)
set_option maxRecDepth 20000 in
set_option maxHeartbeats 1000000 in
theorem kf_X11_partsOf_0 {Q : Int64 → HS → Prop} {v0 : Nat} {v1 : Int32} {v2 : Int32} {v3 : Int32} {v4 : Int32} {v5 : Int32} {v6 : Int32} {S0 S : HS} (h : P_X11_partsOf_0 Q v0 v1 v2 v3 v4 v5 v6 S) (K : K2 S0 S) : P_X11_partsOf_0 (fun r T => Q r T ∧ K2 S0 T) v0 v1 v2 v3 v4 v5 v6 S := by
  delta P_X11_partsOf_0 at h ⊢
  obtain ⟨c1, h⟩ := h
  refine ⟨c1, ?_⟩
  have n2 := k2_ne K c1 (by decide)
  refine cm_X11_inTime (kf_X11_inTime h) h (fun x3 x4 hp h g5 => ?_)
  have h := h g5
  have K := k2_tr K hp.2
  obtain ⟨b6, e7, h⟩ := h
  refine ⟨b6, e7, ?_⟩
  obtain ⟨c8, h⟩ := h
  refine ⟨c8, ?_⟩
  have n9 := k2_ne K c8 (by decide)
  obtain ⟨b10, e11, h⟩ := h
  refine ⟨b10, e11, ?_⟩
  obtain ⟨c12, h⟩ := h
  refine ⟨c12, ?_⟩
  have n13 := k2_ne K c12 (by decide)
  obtain ⟨c14, h⟩ := h
  refine ⟨c14, ?_⟩
  intro x16 e15
  have h := h x16 e15
  obtain ⟨b17, e18, h⟩ := h
  refine ⟨b17, e18, ?_⟩
  obtain ⟨c19, h⟩ := h
  refine ⟨c19, ?_⟩
  have n20 := k2_ne K c19 (by decide)
  obtain ⟨b21, e22, h⟩ := h
  refine ⟨b21, e22, ?_⟩
  obtain ⟨c23, h⟩ := h
  refine ⟨c23, ?_⟩
  have n24 := k2_ne K c23 (by decide)
  obtain ⟨c25, h⟩ := h
  refine ⟨c25, ?_⟩
  intro x27 e26
  have h := h x27 e26
  obtain ⟨c28, h⟩ := h
  refine ⟨c28, ?_⟩
  intro x30 e29
  have h := h x30 e29
  exact ⟨h, K⟩
theorem kf_X11_partsOf {Q : Int64 → HS → Prop} {v0 : Nat} {v1 : Int32} {v2 : Int32} {v3 : Int32} {v4 : Int32} {v5 : Int32} {v6 : Int32} {S : HS} (h : P_X11_partsOf v0 v1 v2 v3 v4 v5 v6 Q S) : P_X11_partsOf v0 v1 v2 v3 v4 v5 v6 (fun r T => Q r T ∧ K2 S T) S := kf_X11_partsOf_0 h (k2_rf S)
set_option maxRecDepth 20000 in
set_option maxHeartbeats 1000000 in
theorem kfB_X11_wetOf_6 {Q : Int64 → HS → Prop} {X6 X6_2 : Nat → Int32 → Int32 → Int32 → Int32 → Int32 → Int64 → Int32 → HS → Prop} {v0 : Nat} {v1 : Int32} {v2 : Int32} {v3 : Int32} {v4 : Int32} {v5 : Int32} {v6 : Int64} {v8 : Int32} {S0 S : HS} (h : B_X11_wetOf_6 Q X6 v0 v1 v2 v3 v4 v5 v6 v8 S) (K : K2 S0 S) (hX6 : ∀ (u0 : Nat) (u1 : Int32) (u2 : Int32) (u3 : Int32) (u4 : Int32) (u5 : Int32) (u6 : Int64) (u7 : Int32) (u8 : HS), X6 u0 u1 u2 u3 u4 u5 u6 u7 u8 → K2 S0 u8 → X6_2 u0 u1 u2 u3 u4 u5 u6 u7 u8) : B_X11_wetOf_6 (fun r T => Q r T ∧ K2 S0 T) X6_2 v0 v1 v2 v3 v4 v5 v6 v8 S := by
  delta B_X11_wetOf_6 at h ⊢
  refine ⟨?_, ?_⟩
  · intro c1
    have h := h.1 c1
    exact ⟨h, K⟩
  · intro c2
    have h := h.2 c2
    obtain ⟨c3, h⟩ := h
    refine ⟨c3, ?_⟩
    have n4 := k2_ne K c3 (by decide)
    refine cm_X11_partsOf (kf_X11_partsOf h) h (fun x5 x6 hp h g7 => ?_)
    have h := h g7
    have K := k2_tr K hp.2
    intro x9 e8
    have h := h x9 e8
    intro x11 e10
    have h := h x11 e10
    exact hX6 _ _ _ _ _ _ _ _ _ h K
theorem kf_X11_wetOf_6 {Q : Int64 → HS → Prop} {v0 : Nat} {v1 : Int32} {v2 : Int32} {v3 : Int32} {v4 : Int32} {v5 : Int32} {v6 : Int64} {v8 : Int32} {S0 S : HS} (h : P_X11_wetOf_6 Q v0 v1 v2 v3 v4 v5 v6 v8 S) (K : K2 S0 S) : P_X11_wetOf_6 (fun r T => Q r T ∧ K2 S0 T) v0 v1 v2 v3 v4 v5 v6 v8 S := h (fun v0 v1 v2 v3 v4 v5 v6 v8 S => K2 S0 S → P_X11_wetOf_6 (fun r T => Q r T ∧ K2 S0 T) v0 v1 v2 v3 v4 v5 v6 v8 S) (fun v0 v1 v2 v3 v4 v5 v6 v8 S hB K => fd_X11_wetOf_6 (kfB_X11_wetOf_6 hB K (fun _ _ _ _ _ _ _ _ _ hx K => hx K))) K
set_option maxRecDepth 20000 in
set_option maxHeartbeats 1000000 in
theorem kf_X11_wetOf_0 {Q : Int64 → HS → Prop} {v0 : Nat} {v1 : Int32} {v2 : Int32} {v3 : Int32} {v4 : Int32} {v5 : Int32} {S0 S : HS} (h : P_X11_wetOf_0 Q v0 v1 v2 v3 v4 v5 S) (K : K2 S0 S) : P_X11_wetOf_0 (fun r T => Q r T ∧ K2 S0 T) v0 v1 v2 v3 v4 v5 S := by
  delta P_X11_wetOf_0 at h ⊢
  exact kf_X11_wetOf_6 h K
theorem kf_X11_wetOf {Q : Int64 → HS → Prop} {v0 : Nat} {v1 : Int32} {v2 : Int32} {v3 : Int32} {v4 : Int32} {v5 : Int32} {S : HS} (h : P_X11_wetOf v0 v1 v2 v3 v4 v5 Q S) : P_X11_wetOf v0 v1 v2 v3 v4 v5 (fun r T => Q r T ∧ K2 S T) S := kf_X11_wetOf_0 h (k2_rf S)
set_option maxRecDepth 20000 in
set_option maxHeartbeats 1000000 in
theorem kf_X11_bestOf_61 {Q : Int32 → HS → Prop} {X17 X17_2 : Nat → Int32 → Int32 → Int32 → Int32 → Int32 → Int32 → HS → Prop} {v0 : Nat} {v1 : Int32} {v2 : Int32} {v3 : Int32} {v4 : Int32} {v5 : Int32} {v6 : Int32} {S0 S : HS} (h : P_X11_bestOf_61 Q X17 v0 v1 v2 v3 v4 v5 v6 S) (K : K2 S0 S) (hX17 : ∀ (u0 : Nat) (u1 : Int32) (u2 : Int32) (u3 : Int32) (u4 : Int32) (u5 : Int32) (u6 : Int32) (u7 : HS), X17 u0 u1 u2 u3 u4 u5 u6 u7 → K2 S0 u7 → X17_2 u0 u1 u2 u3 u4 u5 u6 u7) : P_X11_bestOf_61 (fun r T => Q r T ∧ K2 S0 T) X17_2 v0 v1 v2 v3 v4 v5 v6 S := by
  delta P_X11_bestOf_61 at h ⊢
  intro x2 e1
  have h := h x2 e1
  exact hX17 _ _ _ _ _ _ _ _ h K
set_option maxRecDepth 20000 in
set_option maxHeartbeats 1000000 in
theorem kfB_X11_bestOf_17 {Q : Int32 → HS → Prop} {X17 X17_2 : Nat → Int32 → Int32 → Int32 → Int32 → Int32 → Int32 → HS → Prop} {v0 : Nat} {v1 : Int32} {v2 : Int32} {v3 : Int32} {v4 : Int32} {v5 : Int32} {v6 : Int32} {S0 S : HS} (h : B_X11_bestOf_17 Q X17 v0 v1 v2 v3 v4 v5 v6 S) (K : K2 S0 S) (hX17 : ∀ (u0 : Nat) (u1 : Int32) (u2 : Int32) (u3 : Int32) (u4 : Int32) (u5 : Int32) (u6 : Int32) (u7 : HS), X17 u0 u1 u2 u3 u4 u5 u6 u7 → K2 S0 u7 → X17_2 u0 u1 u2 u3 u4 u5 u6 u7) : B_X11_bestOf_17 (fun r T => Q r T ∧ K2 S0 T) X17_2 v0 v1 v2 v3 v4 v5 v6 S := by
  delta B_X11_bestOf_17 at h ⊢
  obtain ⟨c1, h⟩ := h
  refine ⟨c1, ?_⟩
  have n2 := k2_ne K c1 (by decide)
  obtain ⟨b3, e4, h⟩ := h
  refine ⟨b3, e4, ?_⟩
  obtain ⟨c5, h⟩ := h
  refine ⟨c5, ?_⟩
  have n6 := k2_ne K c5 (by decide)
  obtain ⟨b7, e8, h⟩ := h
  refine ⟨b7, e8, ?_⟩
  obtain ⟨c9, h⟩ := h
  refine ⟨c9, ?_⟩
  have n10 := k2_ne K c9 (by decide)
  obtain ⟨c11, h⟩ := h
  refine ⟨c11, ?_⟩
  intro x13 e12
  have h := h x13 e12
  refine ⟨?_, ?_⟩
  · intro c14
    have h := h.1 c14
    exact ⟨h, K⟩
  · intro c15
    have h := h.2 c15
    refine cm_X11_wetOf (kf_X11_wetOf h) h (fun x16 x17 hp h g18 => ?_)
    have h := h g18
    have K := k2_tr K hp.2
    refine cm_X11_wetOf (kf_X11_wetOf h) h (fun x19 x20 hp h g21 => ?_)
    have h := h g21
    have K := k2_tr K hp.2
    refine ⟨?_, ?_⟩
    · intro c22
      have h := h.1 c22
      exact kf_X11_bestOf_61 h K hX17
    · intro c23
      have h := h.2 c23
      exact kf_X11_bestOf_61 h K hX17
theorem kf_X11_bestOf_17 {Q : Int32 → HS → Prop} {v0 : Nat} {v1 : Int32} {v2 : Int32} {v3 : Int32} {v4 : Int32} {v5 : Int32} {v6 : Int32} {S0 S : HS} (h : P_X11_bestOf_17 Q v0 v1 v2 v3 v4 v5 v6 S) (K : K2 S0 S) : P_X11_bestOf_17 (fun r T => Q r T ∧ K2 S0 T) v0 v1 v2 v3 v4 v5 v6 S := h (fun v0 v1 v2 v3 v4 v5 v6 S => K2 S0 S → P_X11_bestOf_17 (fun r T => Q r T ∧ K2 S0 T) v0 v1 v2 v3 v4 v5 v6 S) (fun v0 v1 v2 v3 v4 v5 v6 S hB K => fd_X11_bestOf_17 (kfB_X11_bestOf_17 hB K (fun _ _ _ _ _ _ _ _ hx K => hx K))) K
set_option maxRecDepth 20000 in
set_option maxHeartbeats 1000000 in
theorem kf_X11_bestOf_0 {Q : Int32 → HS → Prop} {v0 : Nat} {v1 : Int32} {v2 : Int32} {v3 : Int32} {v4 : Int32} {S0 S : HS} (h : P_X11_bestOf_0 Q v0 v1 v2 v3 v4 S) (K : K2 S0 S) : P_X11_bestOf_0 (fun r T => Q r T ∧ K2 S0 T) v0 v1 v2 v3 v4 S := by
  delta P_X11_bestOf_0 at h ⊢
  obtain ⟨c1, h⟩ := h
  refine ⟨c1, ?_⟩
  have n2 := k2_ne K c1 (by decide)
  obtain ⟨b3, e4, h⟩ := h
  refine ⟨b3, e4, ?_⟩
  obtain ⟨c5, h⟩ := h
  refine ⟨c5, ?_⟩
  have n6 := k2_ne K c5 (by decide)
  obtain ⟨b7, e8, h⟩ := h
  refine ⟨b7, e8, ?_⟩
  obtain ⟨c9, h⟩ := h
  refine ⟨c9, ?_⟩
  have n10 := k2_ne K c9 (by decide)
  obtain ⟨c11, h⟩ := h
  refine ⟨c11, ?_⟩
  intro x13 e12
  have h := h x13 e12
  intro x15 e14
  have h := h x15 e14
  exact kf_X11_bestOf_17 h K
theorem kf_X11_bestOf {Q : Int32 → HS → Prop} {v0 : Nat} {v1 : Int32} {v2 : Int32} {v3 : Int32} {v4 : Int32} {S : HS} (h : P_X11_bestOf v0 v1 v2 v3 v4 Q S) : P_X11_bestOf v0 v1 v2 v3 v4 (fun r T => Q r T ∧ K2 S T) S := kf_X11_bestOf_0 h (k2_rf S)
set_option maxRecDepth 20000 in
set_option maxHeartbeats 1000000 in
theorem kf_X11_isWalker_0 {Q : Int32 → HS → Prop} {v0 : Nat} {v1 : Int32} {S0 S : HS} (h : P_X11_isWalker_0 Q v0 v1 S) (K : K2 S0 S) : P_X11_isWalker_0 (fun r T => Q r T ∧ K2 S0 T) v0 v1 S := by
  delta P_X11_isWalker_0 at h ⊢
  obtain ⟨c1, h⟩ := h
  refine ⟨c1, ?_⟩
  have n2 := k2_ne K c1 (by decide)
  refine ⟨?_, ?_⟩
  · intro c3
    have h := h.1 c3
    exact ⟨h, K⟩
  · intro x4 c5
    have h := h.2 x4 c5
    refine ⟨?_, ?_⟩
    · intro c6
      have h := h.1 c6
      exact ⟨h, K⟩
    · intro c7
      have h := h.2 c7
      obtain ⟨b8, e9, h⟩ := h
      refine ⟨b8, e9, ?_⟩
      obtain ⟨c10, h⟩ := h
      refine ⟨c10, ?_⟩
      have n11 := k2_ne K c10 (by decide)
      intro x13 e12
      have h := h x13 e12
      refine ⟨?_, ?_⟩
      · intro c14
        have h := h.1 c14
        exact ⟨h, K⟩
      · intro c15
        have h := h.2 c15
        exact ⟨h, K⟩
theorem kf_X11_isWalker {Q : Int32 → HS → Prop} {v0 : Nat} {v1 : Int32} {S : HS} (h : P_X11_isWalker v0 v1 Q S) : P_X11_isWalker v0 v1 (fun r T => Q r T ∧ K2 S T) S := kf_X11_isWalker_0 h (k2_rf S)
set_option maxRecDepth 20000 in
set_option maxHeartbeats 1000000 in
theorem kf_X11_best_39 {Q : Int32 → HS → Prop} {v0 : Nat} {S0 S : HS} (h : P_X11_best_39 Q v0 S) (K : K2 S0 S) : P_X11_best_39 (fun r T => Q r T ∧ K2 S0 T) v0 S := by
  delta P_X11_best_39 at h ⊢
  obtain ⟨c1, h⟩ := h
  refine ⟨c1, ?_⟩
  have n2 := k2_ne K c1 (by decide)
  refine cm_X11_refused (kf_X11_refused h) h (fun x3 x4 hp h g5 => ?_)
  have h := h g5
  have K := k2_tr K hp.2
  exact ⟨h, K⟩
set_option maxRecDepth 20000 in
set_option maxHeartbeats 1000000 in
theorem kf_X11_best_0 {Q : Int32 → HS → Prop} {v0 : Nat} {v1 : Int32} {v2 : Int32} {v3 : Int32} {v4 : Int32} {S0 S : HS} (h : P_X11_best_0 Q v0 v1 v2 v3 v4 S) (K : K2 S0 S) : P_X11_best_0 (fun r T => Q r T ∧ K2 S0 T) v0 v1 v2 v3 v4 S := by
  delta P_X11_best_0 at h ⊢
  obtain ⟨c1, h⟩ := h
  refine ⟨c1, ?_⟩
  have n2 := k2_ne K c1 (by decide)
  intro x4 e3
  have h := h x4 e3
  have K := k2_I K e3 n2
  refine cm_X11_isWalker (kf_X11_isWalker h) h (fun x5 x6 hp h g7 g8 => ?_)
  have h := h g7 g8
  have K := k2_tr K hp.2
  refine ⟨?_, ?_⟩
  · intro c9
    have h := h.1 c9
    exact kf_X11_best_39 h K
  · intro c10
    have h := h.2 c10
    refine cm_X11_isRoad (kf_X11_isRoad h) h (fun x11 x12 hp h g13 g14 => ?_)
    have h := h g13 g14
    have K := k2_tr K hp.2
    refine ⟨?_, ?_⟩
    · intro c15
      have h := h.1 c15
      exact kf_X11_best_39 h K
    · intro c16
      have h := h.2 c16
      refine cm_X11_in (kf_X11_in h) h (fun x17 x18 hp h g19 g20 => ?_)
      have h := h g19 g20
      have K := k2_tr K hp.2
      refine ⟨?_, ?_⟩
      · intro c21
        have h := h.1 c21
        exact kf_X11_best_39 h K
      · intro c22
        have h := h.2 c22
        refine cm_X11_isHour (kf_X11_isHour h) h (fun x23 x24 hp h g25 g26 => ?_)
        have h := h g25 g26
        have K := k2_tr K hp.2
        refine ⟨?_, ?_⟩
        · intro c27
          have h := h.1 c27
          refine cm_X11_bestOf (kf_X11_bestOf h) h (fun x28 x29 hp h g30 => ?_)
          have h := h g30
          have K := k2_tr K hp.2
          refine cm_X11_good (kf_X11_good h) h (fun x31 x32 hp h g33 => ?_)
          have h := h g33
          have K := k2_tr K hp.2
          exact ⟨h, K⟩
        · intro c34
          have h := h.2 c34
          exact kf_X11_best_39 h K
theorem kf_X11_best {Q : Int32 → HS → Prop} {v0 : Nat} {v1 : Int32} {v2 : Int32} {v3 : Int32} {v4 : Int32} {S : HS} (h : P_X11_best v0 v1 v2 v3 v4 Q S) : P_X11_best v0 v1 v2 v3 v4 (fun r T => Q r T ∧ K2 S T) S := kf_X11_best_0 h (k2_rf S)
set_option maxRecDepth 20000 in
set_option maxHeartbeats 1000000 in
theorem kf_X11_canWait_0 {Q : Int32 → HS → Prop} {v0 : Nat} {v1 : Int32} {S0 S : HS} (h : P_X11_canWait_0 Q v0 v1 S) (K : K2 S0 S) : P_X11_canWait_0 (fun r T => Q r T ∧ K2 S0 T) v0 v1 S := by
  delta P_X11_canWait_0 at h ⊢
  obtain ⟨c1, h⟩ := h
  refine ⟨c1, ?_⟩
  have n2 := k2_ne K c1 (by decide)
  obtain ⟨b3, e4, h⟩ := h
  refine ⟨b3, e4, ?_⟩
  obtain ⟨c5, h⟩ := h
  refine ⟨c5, ?_⟩
  have n6 := k2_ne K c5 (by decide)
  obtain ⟨b7, e8, h⟩ := h
  refine ⟨b7, e8, ?_⟩
  obtain ⟨c9, h⟩ := h
  refine ⟨c9, ?_⟩
  have n10 := k2_ne K c9 (by decide)
  obtain ⟨c11, h⟩ := h
  refine ⟨c11, ?_⟩
  intro x13 e12
  have h := h x13 e12
  refine ⟨?_, ?_⟩
  · intro c14
    have h := h.1 c14
    exact ⟨h, K⟩
  · intro c15
    have h := h.2 c15
    obtain ⟨b16, e17, h⟩ := h
    refine ⟨b16, e17, ?_⟩
    obtain ⟨c18, h⟩ := h
    refine ⟨c18, ?_⟩
    have n19 := k2_ne K c18 (by decide)
    obtain ⟨b20, e21, h⟩ := h
    refine ⟨b20, e21, ?_⟩
    obtain ⟨c22, h⟩ := h
    refine ⟨c22, ?_⟩
    have n23 := k2_ne K c22 (by decide)
    obtain ⟨c24, h⟩ := h
    refine ⟨c24, ?_⟩
    intro x26 e25
    have h := h x26 e25
    refine ⟨?_, ?_⟩
    · intro c27
      have h := h.1 c27
      exact ⟨h, K⟩
    · intro c28
      have h := h.2 c28
      exact ⟨h, K⟩
theorem kf_X11_canWait {Q : Int32 → HS → Prop} {v0 : Nat} {v1 : Int32} {S : HS} (h : P_X11_canWait v0 v1 Q S) : P_X11_canWait v0 v1 (fun r T => Q r T ∧ K2 S T) S := kf_X11_canWait_0 h (k2_rf S)
set_option maxRecDepth 20000 in
set_option maxHeartbeats 1000000 in
theorem kf_X11_isPlace_0 {Q : Int32 → HS → Prop} {v0 : Nat} {v1 : Int32} {S0 S : HS} (h : P_X11_isPlace_0 Q v0 v1 S) (K : K2 S0 S) : P_X11_isPlace_0 (fun r T => Q r T ∧ K2 S0 T) v0 v1 S := by
  delta P_X11_isPlace_0 at h ⊢
  obtain ⟨c1, h⟩ := h
  refine ⟨c1, ?_⟩
  have n2 := k2_ne K c1 (by decide)
  refine ⟨?_, ?_⟩
  · intro c3
    have h := h.1 c3
    exact ⟨h, K⟩
  · intro x4 c5
    have h := h.2 x4 c5
    refine ⟨?_, ?_⟩
    · intro c6
      have h := h.1 c6
      exact ⟨h, K⟩
    · intro c7
      have h := h.2 c7
      obtain ⟨b8, e9, h⟩ := h
      refine ⟨b8, e9, ?_⟩
      obtain ⟨c10, h⟩ := h
      refine ⟨c10, ?_⟩
      have n11 := k2_ne K c10 (by decide)
      intro x13 e12
      have h := h x13 e12
      refine ⟨?_, ?_⟩
      · intro c14
        have h := h.1 c14
        exact ⟨h, K⟩
      · intro c15
        have h := h.2 c15
        exact ⟨h, K⟩
theorem kf_X11_isPlace {Q : Int32 → HS → Prop} {v0 : Nat} {v1 : Int32} {S : HS} (h : P_X11_isPlace v0 v1 Q S) : P_X11_isPlace v0 v1 (fun r T => Q r T ∧ K2 S T) S := kf_X11_isPlace_0 h (k2_rf S)
set_option maxRecDepth 20000 in
set_option maxHeartbeats 1000000 in
theorem kf_X11_day_21 {Q : Int32 → HS → Prop} {v0 : Nat} {S0 S : HS} (h : P_X11_day_21 Q v0 S) (K : K2 S0 S) : P_X11_day_21 (fun r T => Q r T ∧ K2 S0 T) v0 S := by
  delta P_X11_day_21 at h ⊢
  obtain ⟨c1, h⟩ := h
  refine ⟨c1, ?_⟩
  have n2 := k2_ne K c1 (by decide)
  refine cm_X11_refused (kf_X11_refused h) h (fun x3 x4 hp h g5 => ?_)
  have h := h g5
  have K := k2_tr K hp.2
  exact ⟨h, K⟩
set_option maxRecDepth 20000 in
set_option maxHeartbeats 1000000 in
theorem kf_X11_day_50 {Q : Int32 → HS → Prop} {v0 : Nat} {S0 S : HS} (h : P_X11_day_50 Q v0 S) (K : K2 S0 S) : P_X11_day_50 (fun r T => Q r T ∧ K2 S0 T) v0 S := by
  delta P_X11_day_50 at h ⊢
  obtain ⟨c1, h⟩ := h
  refine ⟨c1, ?_⟩
  have n2 := k2_ne K c1 (by decide)
  refine cm_X11_refused (kf_X11_refused h) h (fun x3 x4 hp h g5 => ?_)
  have h := h g5
  have K := k2_tr K hp.2
  exact ⟨h, K⟩
set_option maxRecDepth 20000 in
set_option maxHeartbeats 1000000 in
theorem kf_X11_day_134 {Q : Int32 → HS → Prop} {X73 X73_2 : Nat → Int32 → Int32 → Int32 → Int32 → HS → Prop} {v0 : Nat} {v2 : Int32} {v3 : Int32} {v5 : Int32} {v6 : Int32} {s0 : Nat} {s1 : Int32} {s2 : Int32} {S0 S : HS} (h : P_X11_day_134 Q X73 v0 v2 v3 v5 v6 s0 s1 s2 S) (K : K2 S0 S) (hX73 : ∀ (u0 : Nat) (u1 : Int32) (u2 : Int32) (u3 : Int32) (u4 : Int32) (u5 : HS), X73 u0 u1 u2 u3 u4 u5 → K2 S0 u5 → X73_2 u0 u1 u2 u3 u4 u5) : P_X11_day_134 (fun r T => Q r T ∧ K2 S0 T) X73_2 v0 v2 v3 v5 v6 s0 s1 s2 S := by
  delta P_X11_day_134 at h ⊢
  obtain ⟨c1, h⟩ := h
  refine ⟨c1, ?_⟩
  have n2 := k2_ne K c1 (by decide)
  intro x4 e3
  have h := h x4 e3
  intro x6 e5
  have h := h x6 e5
  have K := k2_I K e5 n2
  intro x8 e7
  have h := h x8 e7
  exact hX73 _ _ _ _ _ _ h K
set_option maxRecDepth 20000 in
set_option maxHeartbeats 1000000 in
theorem kfB_X11_day_147 {Q : Int32 → HS → Prop} {X147 X147_2 : Nat → Int32 → Int32 → Int32 → HS → Prop} {v0 : Nat} {v2 : Int32} {v3 : Int32} {v6 : Int32} {S0 S : HS} (h : B_X11_day_147 Q X147 v0 v2 v3 v6 S) (K : K2 S0 S) (hX147 : ∀ (u0 : Nat) (u1 : Int32) (u2 : Int32) (u3 : Int32) (u4 : HS), X147 u0 u1 u2 u3 u4 → K2 S0 u4 → X147_2 u0 u1 u2 u3 u4) : B_X11_day_147 (fun r T => Q r T ∧ K2 S0 T) X147_2 v0 v2 v3 v6 S := by
  delta B_X11_day_147 at h ⊢
  refine ⟨?_, ?_⟩
  · intro c1
    have h := h.1 c1
    obtain ⟨c2, h⟩ := h
    refine ⟨c2, ?_⟩
    have n3 := k2_ne K c2 (by decide)
    obtain ⟨b4, e5, h⟩ := h
    refine ⟨b4, e5, ?_⟩
    obtain ⟨c6, h⟩ := h
    refine ⟨c6, ?_⟩
    have n7 := k2_ne K c6 (by decide)
    intro x9 e8
    have h := h x9 e8
    obtain ⟨c10, h⟩ := h
    refine ⟨c10, ?_⟩
    intro x12 e11
    have h := h x12 e11
    have K := k2_J K e11
    obtain ⟨b13, e14, h⟩ := h
    refine ⟨b13, e14, ?_⟩
    obtain ⟨c15, h⟩ := h
    refine ⟨c15, ?_⟩
    have n16 := k2_ne K c15 (by decide)
    intro x18 e17
    have h := h x18 e17
    obtain ⟨c19, h⟩ := h
    refine ⟨c19, ?_⟩
    intro x21 e20
    have h := h x21 e20
    have K := k2_J K e20
    intro x23 e22
    have h := h x23 e22
    have K := k2_I K e22 n3
    intro x25 e24
    have h := h x25 e24
    have K := k2_I K e24 n3
    intro x27 e26
    have h := h x27 e26
    refine cm_X11_good (kf_X11_good h) h (fun x28 x29 hp h g30 => ?_)
    have h := h g30
    have K := k2_tr K hp.2
    exact ⟨h, K⟩
  · intro c31
    have h := h.2 c31
    obtain ⟨c32, h⟩ := h
    refine ⟨c32, ?_⟩
    have n33 := k2_ne K c32 (by decide)
    obtain ⟨b34, e35, h⟩ := h
    refine ⟨b34, e35, ?_⟩
    obtain ⟨c36, h⟩ := h
    refine ⟨c36, ?_⟩
    have n37 := k2_ne K c36 (by decide)
    obtain ⟨c38, h⟩ := h
    refine ⟨c38, ?_⟩
    intro x40 e39
    have h := h x40 e39
    have K := k2_J K e39
    intro x42 e41
    have h := h x42 e41
    exact hX147 _ _ _ _ _ h K
theorem kf_X11_day_147 {Q : Int32 → HS → Prop} {v0 : Nat} {v2 : Int32} {v3 : Int32} {v6 : Int32} {S0 S : HS} (h : P_X11_day_147 Q v0 v2 v3 v6 S) (K : K2 S0 S) : P_X11_day_147 (fun r T => Q r T ∧ K2 S0 T) v0 v2 v3 v6 S := h (fun v0 v2 v3 v6 S => K2 S0 S → P_X11_day_147 (fun r T => Q r T ∧ K2 S0 T) v0 v2 v3 v6 S) (fun v0 v2 v3 v6 S hB K => fd_X11_day_147 (kfB_X11_day_147 hB K (fun _ _ _ _ _ hx K => hx K))) K
set_option maxRecDepth 20000 in
set_option maxHeartbeats 1000000 in
theorem kfB_X11_day_73 {Q : Int32 → HS → Prop} {X73 X73_2 : Nat → Int32 → Int32 → Int32 → Int32 → HS → Prop} {v0 : Nat} {v2 : Int32} {v3 : Int32} {v5 : Int32} {v6 : Int32} {S0 S : HS} (h : B_X11_day_73 Q X73 v0 v2 v3 v5 v6 S) (K : K2 S0 S) (hX73 : ∀ (u0 : Nat) (u1 : Int32) (u2 : Int32) (u3 : Int32) (u4 : Int32) (u5 : HS), X73 u0 u1 u2 u3 u4 u5 → K2 S0 u5 → X73_2 u0 u1 u2 u3 u4 u5) : B_X11_day_73 (fun r T => Q r T ∧ K2 S0 T) X73_2 v0 v2 v3 v5 v6 S := by
  delta B_X11_day_73 at h ⊢
  obtain ⟨c1, h⟩ := h
  refine ⟨c1, ?_⟩
  have n2 := k2_ne K c1 (by decide)
  obtain ⟨b3, e4, h⟩ := h
  refine ⟨b3, e4, ?_⟩
  obtain ⟨c5, h⟩ := h
  refine ⟨c5, ?_⟩
  have n6 := k2_ne K c5 (by decide)
  intro x8 e7
  have h := h x8 e7
  refine ⟨?_, ?_⟩
  · intro c9
    have h := h.1 c9
    exact kf_X11_day_147 h K
  · intro c10
    have h := h.2 c10
    intro x12 e11
    have h := h x12 e11
    intro x14 e13
    have h := h x14 e13
    intro x16 e15
    have h := h x16 e15
    intro x18 e17
    have h := h x18 e17
    obtain ⟨b19, e20, h⟩ := h
    refine ⟨b19, e20, ?_⟩
    obtain ⟨c21, h⟩ := h
    refine ⟨c21, ?_⟩
    have n22 := k2_ne K c21 (by decide)
    obtain ⟨b23, e24, h⟩ := h
    refine ⟨b23, e24, ?_⟩
    obtain ⟨c25, h⟩ := h
    refine ⟨c25, ?_⟩
    have n26 := k2_ne K c25 (by decide)
    obtain ⟨c27, h⟩ := h
    refine ⟨c27, ?_⟩
    intro x29 e28
    have h := h x29 e28
    refine ⟨?_, ?_⟩
    · intro c30
      have h := h.1 c30
      exact kf_X11_day_134 h K hX73
    · intro c31
      have h := h.2 c31
      exact kf_X11_day_134 h K hX73
theorem kf_X11_day_73 {Q : Int32 → HS → Prop} {v0 : Nat} {v2 : Int32} {v3 : Int32} {v5 : Int32} {v6 : Int32} {S0 S : HS} (h : P_X11_day_73 Q v0 v2 v3 v5 v6 S) (K : K2 S0 S) : P_X11_day_73 (fun r T => Q r T ∧ K2 S0 T) v0 v2 v3 v5 v6 S := h (fun v0 v2 v3 v5 v6 S => K2 S0 S → P_X11_day_73 (fun r T => Q r T ∧ K2 S0 T) v0 v2 v3 v5 v6 S) (fun v0 v2 v3 v5 v6 S hB K => fd_X11_day_73 (kfB_X11_day_73 hB K (fun _ _ _ _ _ _ hx K => hx K))) K
set_option maxRecDepth 20000 in
set_option maxHeartbeats 1000000 in
theorem kf_X11_day_0 {Q : Int32 → HS → Prop} {v0 : Nat} {v1 : Int32} {v2 : Int32} {v3 : Int32} {v4 : Int32} {S0 S : HS} (h : P_X11_day_0 Q v0 v1 v2 v3 v4 S) (K : K2 S0 S) : P_X11_day_0 (fun r T => Q r T ∧ K2 S0 T) v0 v1 v2 v3 v4 S := by
  delta P_X11_day_0 at h ⊢
  obtain ⟨c1, h⟩ := h
  refine ⟨c1, ?_⟩
  have n2 := k2_ne K c1 (by decide)
  intro x4 e3
  have h := h x4 e3
  have K := k2_I K e3 n2
  refine cm_X11_isWalker (kf_X11_isWalker h) h (fun x5 x6 hp h g7 g8 => ?_)
  have h := h g7 g8
  have K := k2_tr K hp.2
  refine ⟨?_, ?_⟩
  · intro c9
    have h := h.1 c9
    exact kf_X11_day_21 h K
  · intro c10
    have h := h.2 c10
    refine cm_X11_isPlace (kf_X11_isPlace h) h (fun x11 x12 hp h g13 g14 => ?_)
    have h := h g13 g14
    have K := k2_tr K hp.2
    refine ⟨?_, ?_⟩
    · intro c15
      have h := h.1 c15
      refine cm_X11_in (kf_X11_in h) h (fun x16 x17 hp h g18 g19 => ?_)
      have h := h g18 g19
      have K := k2_tr K hp.2
      refine ⟨?_, ?_⟩
      · intro c20
        have h := h.1 c20
        exact kf_X11_day_50 h K
      · intro c21
        have h := h.2 c21
        refine cm_X11_in (kf_X11_in h) h (fun x22 x23 hp h g24 g25 => ?_)
        have h := h g24 g25
        have K := k2_tr K hp.2
        refine ⟨?_, ?_⟩
        · intro c26
          have h := h.1 c26
          intro x28 e27
          have h := h x28 e27
          have K := k2_I K e27 n2
          intro x30 e29
          have h := h x30 e29
          have K := k2_I K e29 n2
          exact kf_X11_day_73 h K
        · intro c31
          have h := h.2 c31
          exact kf_X11_day_50 h K
    · intro c32
      have h := h.2 c32
      exact kf_X11_day_21 h K
theorem kf_X11_day {Q : Int32 → HS → Prop} {v0 : Nat} {v1 : Int32} {v2 : Int32} {v3 : Int32} {v4 : Int32} {S : HS} (h : P_X11_day v0 v1 v2 v3 v4 Q S) : P_X11_day v0 v1 v2 v3 v4 (fun r T => Q r T ∧ K2 S T) S := kf_X11_day_0 h (k2_rf S)
set_option maxRecDepth 20000 in
set_option maxHeartbeats 1000000 in
theorem kf_X11_wetAtBest_0 {Q : Int64 → HS → Prop} {v0 : Nat} {v1 : Int32} {v2 : Int32} {v3 : Int32} {v4 : Int32} {S0 S : HS} (h : P_X11_wetAtBest_0 Q v0 v1 v2 v3 v4 S) (K : K2 S0 S) : P_X11_wetAtBest_0 (fun r T => Q r T ∧ K2 S0 T) v0 v1 v2 v3 v4 S := by
  delta P_X11_wetAtBest_0 at h ⊢
  obtain ⟨c1, h⟩ := h
  refine ⟨c1, ?_⟩
  have n2 := k2_ne K c1 (by decide)
  refine cm_X11_bestOf (kf_X11_bestOf h) h (fun x3 x4 hp h g5 => ?_)
  have h := h g5
  have K := k2_tr K hp.2
  refine cm_X11_wetOf (kf_X11_wetOf h) h (fun x6 x7 hp h g8 => ?_)
  have h := h g8
  have K := k2_tr K hp.2
  exact ⟨h, K⟩
theorem kf_X11_wetAtBest {Q : Int64 → HS → Prop} {v0 : Nat} {v1 : Int32} {v2 : Int32} {v3 : Int32} {v4 : Int32} {S : HS} (h : P_X11_wetAtBest v0 v1 v2 v3 v4 Q S) : P_X11_wetAtBest v0 v1 v2 v3 v4 (fun r T => Q r T ∧ K2 S T) S := kf_X11_wetAtBest_0 h (k2_rf S)
set_option maxRecDepth 20000 in
set_option maxHeartbeats 1000000 in
theorem kf_X11_driest_30 {Q : Int32 → HS → Prop} {v0 : Nat} {S0 S : HS} (h : P_X11_driest_30 Q v0 S) (K : K2 S0 S) : P_X11_driest_30 (fun r T => Q r T ∧ K2 S0 T) v0 S := by
  delta P_X11_driest_30 at h ⊢
  obtain ⟨c1, h⟩ := h
  refine ⟨c1, ?_⟩
  have n2 := k2_ne K c1 (by decide)
  refine cm_X11_refused (kf_X11_refused h) h (fun x3 x4 hp h g5 => ?_)
  have h := h g5
  have K := k2_tr K hp.2
  exact ⟨h, K⟩
set_option maxRecDepth 20000 in
set_option maxHeartbeats 1000000 in
theorem kf_X11_driest_105 {Q : Int32 → HS → Prop} {X45 X45_2 : Nat → Int32 → Int32 → Int32 → Int32 → Int64 → Int32 → HS → Prop} {v0 : Nat} {v1 : Int32} {v2 : Int32} {v3 : Int32} {v4 : Int32} {v5 : Int64} {v7 : Int32} {S0 S : HS} (h : P_X11_driest_105 Q X45 v0 v1 v2 v3 v4 v5 v7 S) (K : K2 S0 S) (hX45 : ∀ (u0 : Nat) (u1 : Int32) (u2 : Int32) (u3 : Int32) (u4 : Int32) (u5 : Int64) (u6 : Int32) (u7 : HS), X45 u0 u1 u2 u3 u4 u5 u6 u7 → K2 S0 u7 → X45_2 u0 u1 u2 u3 u4 u5 u6 u7) : P_X11_driest_105 (fun r T => Q r T ∧ K2 S0 T) X45_2 v0 v1 v2 v3 v4 v5 v7 S := by
  delta P_X11_driest_105 at h ⊢
  intro x2 e1
  have h := h x2 e1
  exact hX45 _ _ _ _ _ _ _ _ h K
set_option maxRecDepth 20000 in
set_option maxHeartbeats 1000000 in
theorem kf_X11_driest_97 {Q : Int32 → HS → Prop} {X45 X45_2 : Nat → Int32 → Int32 → Int32 → Int32 → Int64 → Int32 → HS → Prop} {v0 : Nat} {v1 : Int32} {v2 : Int32} {v3 : Int32} {v7 : Int32} {v8 : Int64} {S0 S : HS} (h : P_X11_driest_97 Q X45 v0 v1 v2 v3 v7 v8 S) (K : K2 S0 S) (hX45 : ∀ (u0 : Nat) (u1 : Int32) (u2 : Int32) (u3 : Int32) (u4 : Int32) (u5 : Int64) (u6 : Int32) (u7 : HS), X45 u0 u1 u2 u3 u4 u5 u6 u7 → K2 S0 u7 → X45_2 u0 u1 u2 u3 u4 u5 u6 u7) : P_X11_driest_97 (fun r T => Q r T ∧ K2 S0 T) X45_2 v0 v1 v2 v3 v7 v8 S := by
  delta P_X11_driest_97 at h ⊢
  exact kf_X11_driest_105 h K hX45
set_option maxRecDepth 20000 in
set_option maxHeartbeats 1000000 in
theorem kfB_X11_driest_45 {Q : Int32 → HS → Prop} {X45 X45_2 : Nat → Int32 → Int32 → Int32 → Int32 → Int64 → Int32 → HS → Prop} {v0 : Nat} {v1 : Int32} {v2 : Int32} {v3 : Int32} {v4 : Int32} {v5 : Int64} {v7 : Int32} {S0 S : HS} (h : B_X11_driest_45 Q X45 v0 v1 v2 v3 v4 v5 v7 S) (K : K2 S0 S) (hX45 : ∀ (u0 : Nat) (u1 : Int32) (u2 : Int32) (u3 : Int32) (u4 : Int32) (u5 : Int64) (u6 : Int32) (u7 : HS), X45 u0 u1 u2 u3 u4 u5 u6 u7 → K2 S0 u7 → X45_2 u0 u1 u2 u3 u4 u5 u6 u7) : B_X11_driest_45 (fun r T => Q r T ∧ K2 S0 T) X45_2 v0 v1 v2 v3 v4 v5 v7 S := by
  delta B_X11_driest_45 at h ⊢
  obtain ⟨c1, h⟩ := h
  refine ⟨c1, ?_⟩
  have n2 := k2_ne K c1 (by decide)
  obtain ⟨b3, e4, h⟩ := h
  refine ⟨b3, e4, ?_⟩
  obtain ⟨c5, h⟩ := h
  refine ⟨c5, ?_⟩
  have n6 := k2_ne K c5 (by decide)
  intro x8 e7
  have h := h x8 e7
  refine ⟨?_, ?_⟩
  · intro c9
    have h := h.1 c9
    refine ⟨?_, ?_⟩
    · intro c10
      have h := h.1 c10
      refine cm_X11_good (kf_X11_good h) h (fun x11 x12 hp h g13 => ?_)
      have h := h g13
      have K := k2_tr K hp.2
      exact ⟨h, K⟩
    · intro c14
      have h := h.2 c14
      refine cm_X11_refused (kf_X11_refused h) h (fun x15 x16 hp h g17 => ?_)
      have h := h g17
      have K := k2_tr K hp.2
      exact ⟨h, K⟩
  · intro c18
    have h := h.2 c18
    refine cm_X11_wetAtBest (kf_X11_wetAtBest h) h (fun x19 x20 hp h g21 => ?_)
    have h := h g21
    have K := k2_tr K hp.2
    obtain ⟨b22, e23, h⟩ := h
    refine ⟨b22, e23, ?_⟩
    obtain ⟨c24, h⟩ := h
    refine ⟨c24, ?_⟩
    have n25 := k2_ne K c24 (by decide)
    obtain ⟨b26, e27, h⟩ := h
    refine ⟨b26, e27, ?_⟩
    obtain ⟨c28, h⟩ := h
    refine ⟨c28, ?_⟩
    have n29 := k2_ne K c28 (by decide)
    obtain ⟨c30, h⟩ := h
    refine ⟨c30, ?_⟩
    intro x32 e31
    have h := h x32 e31
    intro x34 e33
    have h := h x34 e33
    refine ⟨?_, ?_⟩
    · intro c35
      have h := h.1 c35
      exact kf_X11_driest_97 h K hX45
    · intro c36
      have h := h.2 c36
      refine ⟨?_, ?_⟩
      · intro c37
        have h := h.1 c37
        exact kf_X11_driest_97 h K hX45
      · intro c38
        have h := h.2 c38
        exact kf_X11_driest_105 h K hX45
theorem kf_X11_driest_45 {Q : Int32 → HS → Prop} {v0 : Nat} {v1 : Int32} {v2 : Int32} {v3 : Int32} {v4 : Int32} {v5 : Int64} {v7 : Int32} {S0 S : HS} (h : P_X11_driest_45 Q v0 v1 v2 v3 v4 v5 v7 S) (K : K2 S0 S) : P_X11_driest_45 (fun r T => Q r T ∧ K2 S0 T) v0 v1 v2 v3 v4 v5 v7 S := h (fun v0 v1 v2 v3 v4 v5 v7 S => K2 S0 S → P_X11_driest_45 (fun r T => Q r T ∧ K2 S0 T) v0 v1 v2 v3 v4 v5 v7 S) (fun v0 v1 v2 v3 v4 v5 v7 S hB K => fd_X11_driest_45 (kfB_X11_driest_45 hB K (fun _ _ _ _ _ _ _ _ hx K => hx K))) K
set_option maxRecDepth 20000 in
set_option maxHeartbeats 1000000 in
theorem kf_X11_driest_0 {Q : Int32 → HS → Prop} {v0 : Nat} {v1 : Int32} {v2 : Int32} {v3 : Int32} {S0 S : HS} (h : P_X11_driest_0 Q v0 v1 v2 v3 S) (K : K2 S0 S) : P_X11_driest_0 (fun r T => Q r T ∧ K2 S0 T) v0 v1 v2 v3 S := by
  delta P_X11_driest_0 at h ⊢
  obtain ⟨c1, h⟩ := h
  refine ⟨c1, ?_⟩
  have n2 := k2_ne K c1 (by decide)
  intro x4 e3
  have h := h x4 e3
  have K := k2_I K e3 n2
  refine cm_X11_isWalker (kf_X11_isWalker h) h (fun x5 x6 hp h g7 g8 => ?_)
  have h := h g7 g8
  have K := k2_tr K hp.2
  refine ⟨?_, ?_⟩
  · intro c9
    have h := h.1 c9
    exact kf_X11_driest_30 h K
  · intro c10
    have h := h.2 c10
    refine cm_X11_isRoad (kf_X11_isRoad h) h (fun x11 x12 hp h g13 g14 => ?_)
    have h := h g13 g14
    have K := k2_tr K hp.2
    refine ⟨?_, ?_⟩
    · intro c15
      have h := h.1 c15
      exact kf_X11_driest_30 h K
    · intro c16
      have h := h.2 c16
      refine cm_X11_in (kf_X11_in h) h (fun x17 x18 hp h g19 g20 => ?_)
      have h := h g19 g20
      have K := k2_tr K hp.2
      refine ⟨?_, ?_⟩
      · intro c21
        have h := h.1 c21
        exact kf_X11_driest_45 h K
      · intro c22
        have h := h.2 c22
        exact kf_X11_driest_30 h K
theorem kf_X11_driest {Q : Int32 → HS → Prop} {v0 : Nat} {v1 : Int32} {v2 : Int32} {v3 : Int32} {S : HS} (h : P_X11_driest v0 v1 v2 v3 Q S) : P_X11_driest v0 v1 v2 v3 (fun r T => Q r T ∧ K2 S T) S := kf_X11_driest_0 h (k2_rf S)
set_option maxRecDepth 20000 in
set_option maxHeartbeats 1000000 in
theorem kf_X11_drips_0 {Q : Int64 → HS → Prop} {v0 : Nat} {v1 : Int32} {v2 : Int32} {S0 S : HS} (h : P_X11_drips_0 Q v0 v1 v2 S) (K : K2 S0 S) : P_X11_drips_0 (fun r T => Q r T ∧ K2 S0 T) v0 v1 v2 S := by
  delta P_X11_drips_0 at h ⊢
  obtain ⟨c1, h⟩ := h
  refine ⟨c1, ?_⟩
  have n2 := k2_ne K c1 (by decide)
  obtain ⟨b3, e4, h⟩ := h
  refine ⟨b3, e4, ?_⟩
  obtain ⟨c5, h⟩ := h
  refine ⟨c5, ?_⟩
  have n6 := k2_ne K c5 (by decide)
  obtain ⟨b7, e8, h⟩ := h
  refine ⟨b7, e8, ?_⟩
  obtain ⟨c9, h⟩ := h
  refine ⟨c9, ?_⟩
  have n10 := k2_ne K c9 (by decide)
  obtain ⟨c11, h⟩ := h
  refine ⟨c11, ?_⟩
  intro x13 e12
  have h := h x13 e12
  obtain ⟨b14, e15, h⟩ := h
  refine ⟨b14, e15, ?_⟩
  obtain ⟨c16, h⟩ := h
  refine ⟨c16, ?_⟩
  have n17 := k2_ne K c16 (by decide)
  obtain ⟨b18, e19, h⟩ := h
  refine ⟨b18, e19, ?_⟩
  obtain ⟨c20, h⟩ := h
  refine ⟨c20, ?_⟩
  have n21 := k2_ne K c20 (by decide)
  obtain ⟨c22, h⟩ := h
  refine ⟨c22, ?_⟩
  intro x24 e23
  have h := h x24 e23
  obtain ⟨b25, e26, h⟩ := h
  refine ⟨b25, e26, ?_⟩
  obtain ⟨c27, h⟩ := h
  refine ⟨c27, ?_⟩
  have n28 := k2_ne K c27 (by decide)
  refine cm_X10_shield (kf_X10_shield h) h (fun x29 x30 hp h g31 => ?_)
  have h := h g31
  have K := k2_tr K hp.2
  refine cm_X11_less (kf_X11_less h) h (fun x32 x33 hp h g34 => ?_)
  have h := h g34
  have K := k2_tr K hp.2
  exact ⟨h, K⟩
theorem kf_X11_drips {Q : Int64 → HS → Prop} {v0 : Nat} {v1 : Int32} {v2 : Int32} {S : HS} (h : P_X11_drips v0 v1 v2 Q S) : P_X11_drips v0 v1 v2 (fun r T => Q r T ∧ K2 S T) S := kf_X11_drips_0 h (k2_rf S)
set_option maxRecDepth 20000 in
set_option maxHeartbeats 1000000 in
theorem kf_X11_eatsSign_21 {Q : Int32 → HS → Prop} {v0 : Nat} {s0 : Int32} {S0 S : HS} (h : P_X11_eatsSign_21 Q v0 s0 S) (K : K2 S0 S) : P_X11_eatsSign_21 (fun r T => Q r T ∧ K2 S0 T) v0 s0 S := by
  delta P_X11_eatsSign_21 at h ⊢
  refine ⟨?_, ?_⟩
  · intro c1
    have h := h.1 c1
    obtain ⟨c2, h⟩ := h
    refine ⟨c2, ?_⟩
    exact ⟨h, K⟩
  · intro c3
    have h := h.2 c3
    obtain ⟨c4, h⟩ := h
    refine ⟨c4, ?_⟩
    have n5 := k2_ne K c4 (by decide)
    refine cm_X11_goesOn (kf_X11_goesOn h) h (fun x6 hp h g7 => ?_)
    have h := h g7
    have K := k2_tr K hp.2
    obtain ⟨c8, h⟩ := h
    refine ⟨c8, ?_⟩
    exact ⟨h, K⟩
set_option maxRecDepth 20000 in
set_option maxHeartbeats 1000000 in
theorem kf_X11_eatsSign_20 {Q : Int32 → HS → Prop} {v0 : Nat} {S0 S : HS} (h : P_X11_eatsSign_20 Q v0 S) (K : K2 S0 S) : P_X11_eatsSign_20 (fun r T => Q r T ∧ K2 S0 T) v0 S := by
  delta P_X11_eatsSign_20 at h ⊢
  exact kf_X11_eatsSign_21 h K
set_option maxRecDepth 20000 in
set_option maxHeartbeats 1000000 in
theorem kf_X11_eatsSign_0 {Q : Int32 → HS → Prop} {v0 : Nat} {v1 : Int32} {S0 S : HS} (h : P_X11_eatsSign_0 Q v0 v1 S) (K : K2 S0 S) : P_X11_eatsSign_0 (fun r T => Q r T ∧ K2 S0 T) v0 v1 S := by
  delta P_X11_eatsSign_0 at h ⊢
  obtain ⟨c1, h⟩ := h
  refine ⟨c1, ?_⟩
  have n2 := k2_ne K c1 (by decide)
  intro x4 e3
  have h := h x4 e3
  refine ⟨?_, ?_⟩
  · intro c5
    have h := h.1 c5
    exact kf_X11_eatsSign_20 h K
  · intro c6
    have h := h.2 c6
    intro x8 e7
    have h := h x8 e7
    refine ⟨?_, ?_⟩
    · intro c9
      have h := h.1 c9
      exact kf_X11_eatsSign_20 h K
    · intro c10
      have h := h.2 c10
      exact kf_X11_eatsSign_21 h K
theorem kf_X11_eatsSign {Q : Int32 → HS → Prop} {v0 : Nat} {v1 : Int32} {S : HS} (h : P_X11_eatsSign v0 v1 Q S) : P_X11_eatsSign v0 v1 (fun r T => Q r T ∧ K2 S T) S := kf_X11_eatsSign_0 h (k2_rf S)
set_option maxRecDepth 20000 in
set_option maxHeartbeats 1000000 in
theorem kfB_X11_wordOf_4 {Q : Int64 → HS → Prop} {X4 X4_2 : Nat → Int64 → Int32 → HS → Prop} {v0 : Nat} {v1 : Int64} {v3 : Int32} {S0 S : HS} (h : B_X11_wordOf_4 Q X4 v0 v1 v3 S) (K : K2 S0 S) (hX4 : ∀ (u0 : Nat) (u1 : Int64) (u2 : Int32) (u3 : HS), X4 u0 u1 u2 u3 → K2 S0 u3 → X4_2 u0 u1 u2 u3) : B_X11_wordOf_4 (fun r T => Q r T ∧ K2 S0 T) X4_2 v0 v1 v3 S := by
  delta B_X11_wordOf_4 at h ⊢
  obtain ⟨c1, h⟩ := h
  refine ⟨c1, ?_⟩
  intro x3 e2
  have h := h x3 e2
  refine ⟨?_, ?_⟩
  · intro c4
    have h := h.1 c4
    exact ⟨h, K⟩
  · intro c5
    have h := h.2 c5
    obtain ⟨c6, h⟩ := h
    refine ⟨c6, ?_⟩
    obtain ⟨c7, h⟩ := h
    refine ⟨c7, ?_⟩
    intro x9 e8
    have h := h x9 e8
    intro x11 e10
    have h := h x11 e10
    intro x13 e12
    have h := h x13 e12
    exact hX4 _ _ _ _ h K
theorem kf_X11_wordOf_4 {Q : Int64 → HS → Prop} {v0 : Nat} {v1 : Int64} {v3 : Int32} {S0 S : HS} (h : P_X11_wordOf_4 Q v0 v1 v3 S) (K : K2 S0 S) : P_X11_wordOf_4 (fun r T => Q r T ∧ K2 S0 T) v0 v1 v3 S := h (fun v0 v1 v3 S => K2 S0 S → P_X11_wordOf_4 (fun r T => Q r T ∧ K2 S0 T) v0 v1 v3 S) (fun v0 v1 v3 S hB K => fd_X11_wordOf_4 (kfB_X11_wordOf_4 hB K (fun _ _ _ _ hx K => hx K))) K
set_option maxRecDepth 20000 in
set_option maxHeartbeats 1000000 in
theorem kf_X11_wordOf_0 {Q : Int64 → HS → Prop} {v0 : Nat} {S0 S : HS} (h : P_X11_wordOf_0 Q v0 S) (K : K2 S0 S) : P_X11_wordOf_0 (fun r T => Q r T ∧ K2 S0 T) v0 S := by
  delta P_X11_wordOf_0 at h ⊢
  exact kf_X11_wordOf_4 h K
theorem kf_X11_wordOf {Q : Int64 → HS → Prop} {v0 : Nat} {S : HS} (h : P_X11_wordOf v0 Q S) : P_X11_wordOf v0 (fun r T => Q r T ∧ K2 S T) S := kf_X11_wordOf_0 h (k2_rf S)
set_option maxRecDepth 20000 in
set_option maxHeartbeats 1000000 in
theorem kf_X11_isWord_0 {Q : Int32 → HS → Prop} {v0 : Nat} {v1 : Nat} {S0 S : HS} (h : P_X11_isWord_0 Q v0 v1 S) (K : K2 S0 S) : P_X11_isWord_0 (fun r T => Q r T ∧ K2 S0 T) v0 v1 S := by
  delta P_X11_isWord_0 at h ⊢
  obtain ⟨c1, h⟩ := h
  refine ⟨c1, ?_⟩
  have n2 := k2_ne K c1 (by decide)
  intro x4 e3
  have h := h x4 e3
  refine ⟨?_, ?_⟩
  · intro c5
    have h := h.1 c5
    exact ⟨h, K⟩
  · intro c6
    have h := h.2 c6
    intro x8 e7
    have h := h x8 e7
    refine cm_X11_wordOf (kf_X11_wordOf h) h (fun x9 x10 hp h g11 => ?_)
    have h := h g11
    have K := k2_tr K hp.2
    refine ⟨?_, ?_⟩
    · intro c12
      have h := h.1 c12
      exact ⟨h, K⟩
    · intro c13
      have h := h.2 c13
      exact ⟨h, K⟩
theorem kf_X11_isWord {Q : Int32 → HS → Prop} {v0 : Nat} {v1 : Nat} {S : HS} (h : P_X11_isWord v0 v1 Q S) : P_X11_isWord v0 v1 (fun r T => Q r T ∧ K2 S T) S := kf_X11_isWord_0 h (k2_rf S)
set_option maxRecDepth 20000 in
set_option maxHeartbeats 1000000 in
theorem kf_X11_eatsWord_0 {Q : Int32 → HS → Prop} {v0 : Nat} {v1 : Nat} {S0 S : HS} (h : P_X11_eatsWord_0 Q v0 v1 S) (K : K2 S0 S) : P_X11_eatsWord_0 (fun r T => Q r T ∧ K2 S0 T) v0 v1 S := by
  delta P_X11_eatsWord_0 at h ⊢
  obtain ⟨c1, h⟩ := h
  refine ⟨c1, ?_⟩
  have n2 := k2_ne K c1 (by decide)
  refine cm_X11_isWord (kf_X11_isWord h) h (fun x3 x4 hp h g5 g6 => ?_)
  have h := h g5 g6
  have K := k2_tr K hp.2
  refine ⟨?_, ?_⟩
  · intro c7
    have h := h.1 c7
    obtain ⟨c8, h⟩ := h
    refine ⟨c8, ?_⟩
    exact ⟨h, K⟩
  · intro c9
    have h := h.2 c9
    refine cm_X11_goesOn (kf_X11_goesOn h) h (fun x10 hp h g11 => ?_)
    have h := h g11
    have K := k2_tr K hp.2
    obtain ⟨c12, h⟩ := h
    refine ⟨c12, ?_⟩
    exact ⟨h, K⟩
theorem kf_X11_eatsWord {Q : Int32 → HS → Prop} {v0 : Nat} {v1 : Nat} {S : HS} (h : P_X11_eatsWord v0 v1 Q S) : P_X11_eatsWord v0 v1 (fun r T => Q r T ∧ K2 S T) S := kf_X11_eatsWord_0 h (k2_rf S)
set_option maxRecDepth 20000 in
set_option maxHeartbeats 1000000 in
theorem kf_X11_even_39 {Q : Int32 → HS → Prop} {v0 : Nat} {S0 S : HS} (h : P_X11_even_39 Q v0 S) (K : K2 S0 S) : P_X11_even_39 (fun r T => Q r T ∧ K2 S0 T) v0 S := by
  delta P_X11_even_39 at h ⊢
  obtain ⟨c1, h⟩ := h
  refine ⟨c1, ?_⟩
  have n2 := k2_ne K c1 (by decide)
  refine cm_X11_refused (kf_X11_refused h) h (fun x3 x4 hp h g5 => ?_)
  have h := h g5
  have K := k2_tr K hp.2
  exact ⟨h, K⟩
set_option maxRecDepth 20000 in
set_option maxHeartbeats 1000000 in
theorem kf_X11_even_111 {Q : Int32 → HS → Prop} {X59 X59_2 : Nat → Int32 → Int32 → Int32 → Int32 → Int32 → Int32 → HS → Prop} {v0 : Nat} {v1 : Int32} {v2 : Int32} {v3 : Int32} {v4 : Int32} {v6 : Int32} {s0 : Int32} {S0 S : HS} (h : P_X11_even_111 Q X59 v0 v1 v2 v3 v4 v6 s0 S) (K : K2 S0 S) (hX59 : ∀ (u0 : Nat) (u1 : Int32) (u2 : Int32) (u3 : Int32) (u4 : Int32) (u5 : Int32) (u6 : Int32) (u7 : HS), X59 u0 u1 u2 u3 u4 u5 u6 u7 → K2 S0 u7 → X59_2 u0 u1 u2 u3 u4 u5 u6 u7) : P_X11_even_111 (fun r T => Q r T ∧ K2 S0 T) X59_2 v0 v1 v2 v3 v4 v6 s0 S := by
  delta P_X11_even_111 at h ⊢
  intro x2 e1
  have h := h x2 e1
  exact hX59 _ _ _ _ _ _ _ _ h K
set_option maxRecDepth 20000 in
set_option maxHeartbeats 1000000 in
theorem kf_X11_even_110 {Q : Int32 → HS → Prop} {X59 X59_2 : Nat → Int32 → Int32 → Int32 → Int32 → Int32 → Int32 → HS → Prop} {v0 : Nat} {v1 : Int32} {v2 : Int32} {v3 : Int32} {v4 : Int32} {v6 : Int32} {S0 S : HS} (h : P_X11_even_110 Q X59 v0 v1 v2 v3 v4 v6 S) (K : K2 S0 S) (hX59 : ∀ (u0 : Nat) (u1 : Int32) (u2 : Int32) (u3 : Int32) (u4 : Int32) (u5 : Int32) (u6 : Int32) (u7 : HS), X59 u0 u1 u2 u3 u4 u5 u6 u7 → K2 S0 u7 → X59_2 u0 u1 u2 u3 u4 u5 u6 u7) : P_X11_even_110 (fun r T => Q r T ∧ K2 S0 T) X59_2 v0 v1 v2 v3 v4 v6 S := by
  delta P_X11_even_110 at h ⊢
  exact kf_X11_even_111 h K hX59
set_option maxRecDepth 20000 in
set_option maxHeartbeats 1000000 in
theorem kf_X11_even_130 {Q : Int32 → HS → Prop} {s0 : Nat} {s1 : Int32} {S0 S : HS} (h : P_X11_even_130 Q s0 s1 S) (K : K2 S0 S) : P_X11_even_130 (fun r T => Q r T ∧ K2 S0 T) s0 s1 S := by
  delta P_X11_even_130 at h ⊢
  obtain ⟨c1, h⟩ := h
  refine ⟨c1, ?_⟩
  have n2 := k2_ne K c1 (by decide)
  refine cm_X11_good (kf_X11_good h) h (fun x3 x4 hp h g5 => ?_)
  have h := h g5
  have K := k2_tr K hp.2
  exact ⟨h, K⟩
set_option maxRecDepth 20000 in
set_option maxHeartbeats 1000000 in
theorem kfB_X11_even_59 {Q : Int32 → HS → Prop} {X59 X59_2 : Nat → Int32 → Int32 → Int32 → Int32 → Int32 → Int32 → HS → Prop} {v0 : Nat} {v1 : Int32} {v2 : Int32} {v3 : Int32} {v4 : Int32} {v5 : Int32} {v6 : Int32} {S0 S : HS} (h : B_X11_even_59 Q X59 v0 v1 v2 v3 v4 v5 v6 S) (K : K2 S0 S) (hX59 : ∀ (u0 : Nat) (u1 : Int32) (u2 : Int32) (u3 : Int32) (u4 : Int32) (u5 : Int32) (u6 : Int32) (u7 : HS), X59 u0 u1 u2 u3 u4 u5 u6 u7 → K2 S0 u7 → X59_2 u0 u1 u2 u3 u4 u5 u6 u7) : B_X11_even_59 (fun r T => Q r T ∧ K2 S0 T) X59_2 v0 v1 v2 v3 v4 v5 v6 S := by
  delta B_X11_even_59 at h ⊢
  obtain ⟨c1, h⟩ := h
  refine ⟨c1, ?_⟩
  have n2 := k2_ne K c1 (by decide)
  obtain ⟨b3, e4, h⟩ := h
  refine ⟨b3, e4, ?_⟩
  obtain ⟨c5, h⟩ := h
  refine ⟨c5, ?_⟩
  have n6 := k2_ne K c5 (by decide)
  obtain ⟨b7, e8, h⟩ := h
  refine ⟨b7, e8, ?_⟩
  obtain ⟨c9, h⟩ := h
  refine ⟨c9, ?_⟩
  have n10 := k2_ne K c9 (by decide)
  obtain ⟨c11, h⟩ := h
  refine ⟨c11, ?_⟩
  intro x13 e12
  have h := h x13 e12
  refine ⟨?_, ?_⟩
  · intro c14
    have h := h.1 c14
    refine ⟨?_, ?_⟩
    · intro c15
      have h := h.1 c15
      exact kf_X11_even_130 h K
    · intro c16
      have h := h.2 c16
      exact kf_X11_even_130 h K
  · intro c17
    have h := h.2 c17
    refine ⟨?_, ?_⟩
    · intro c18
      have h := h.1 c18
      exact kf_X11_even_110 h K hX59
    · intro c19
      have h := h.2 c19
      refine cm_X11_wetOf (kf_X11_wetOf h) h (fun x20 x21 hp h g22 => ?_)
      have h := h g22
      have K := k2_tr K hp.2
      refine cm_X11_wetOf (kf_X11_wetOf h) h (fun x23 x24 hp h g25 => ?_)
      have h := h g25
      have K := k2_tr K hp.2
      refine ⟨?_, ?_⟩
      · intro c26
        have h := h.1 c26
        exact kf_X11_even_110 h K hX59
      · intro c27
        have h := h.2 c27
        exact kf_X11_even_111 h K hX59
theorem kf_X11_even_59 {Q : Int32 → HS → Prop} {v0 : Nat} {v1 : Int32} {v2 : Int32} {v3 : Int32} {v4 : Int32} {v5 : Int32} {v6 : Int32} {S0 S : HS} (h : P_X11_even_59 Q v0 v1 v2 v3 v4 v5 v6 S) (K : K2 S0 S) : P_X11_even_59 (fun r T => Q r T ∧ K2 S0 T) v0 v1 v2 v3 v4 v5 v6 S := h (fun v0 v1 v2 v3 v4 v5 v6 S => K2 S0 S → P_X11_even_59 (fun r T => Q r T ∧ K2 S0 T) v0 v1 v2 v3 v4 v5 v6 S) (fun v0 v1 v2 v3 v4 v5 v6 S hB K => fd_X11_even_59 (kfB_X11_even_59 hB K (fun _ _ _ _ _ _ _ _ hx K => hx K))) K
set_option maxRecDepth 20000 in
set_option maxHeartbeats 1000000 in
theorem kf_X11_even_0 {Q : Int32 → HS → Prop} {v0 : Nat} {v1 : Int32} {v2 : Int32} {v3 : Int32} {v4 : Int32} {S0 S : HS} (h : P_X11_even_0 Q v0 v1 v2 v3 v4 S) (K : K2 S0 S) : P_X11_even_0 (fun r T => Q r T ∧ K2 S0 T) v0 v1 v2 v3 v4 S := by
  delta P_X11_even_0 at h ⊢
  obtain ⟨c1, h⟩ := h
  refine ⟨c1, ?_⟩
  have n2 := k2_ne K c1 (by decide)
  intro x4 e3
  have h := h x4 e3
  have K := k2_I K e3 n2
  refine cm_X11_isWalker (kf_X11_isWalker h) h (fun x5 x6 hp h g7 g8 => ?_)
  have h := h g7 g8
  have K := k2_tr K hp.2
  refine ⟨?_, ?_⟩
  · intro c9
    have h := h.1 c9
    exact kf_X11_even_39 h K
  · intro c10
    have h := h.2 c10
    refine cm_X11_isRoad (kf_X11_isRoad h) h (fun x11 x12 hp h g13 g14 => ?_)
    have h := h g13 g14
    have K := k2_tr K hp.2
    refine ⟨?_, ?_⟩
    · intro c15
      have h := h.1 c15
      exact kf_X11_even_39 h K
    · intro c16
      have h := h.2 c16
      refine cm_X11_in (kf_X11_in h) h (fun x17 x18 hp h g19 g20 => ?_)
      have h := h g19 g20
      have K := k2_tr K hp.2
      refine ⟨?_, ?_⟩
      · intro c21
        have h := h.1 c21
        exact kf_X11_even_39 h K
      · intro c22
        have h := h.2 c22
        refine cm_X11_isHour (kf_X11_isHour h) h (fun x23 x24 hp h g25 g26 => ?_)
        have h := h g25 g26
        have K := k2_tr K hp.2
        refine ⟨?_, ?_⟩
        · intro c27
          have h := h.1 c27
          obtain ⟨b28, e29, h⟩ := h
          refine ⟨b28, e29, ?_⟩
          obtain ⟨c30, h⟩ := h
          refine ⟨c30, ?_⟩
          have n31 := k2_ne K c30 (by decide)
          obtain ⟨b32, e33, h⟩ := h
          refine ⟨b32, e33, ?_⟩
          obtain ⟨c34, h⟩ := h
          refine ⟨c34, ?_⟩
          have n35 := k2_ne K c34 (by decide)
          obtain ⟨c36, h⟩ := h
          refine ⟨c36, ?_⟩
          intro x38 e37
          have h := h x38 e37
          exact kf_X11_even_59 h K
        · intro c39
          have h := h.2 c39
          exact kf_X11_even_39 h K
theorem kf_X11_even {Q : Int32 → HS → Prop} {v0 : Nat} {v1 : Int32} {v2 : Int32} {v3 : Int32} {v4 : Int32} {S : HS} (h : P_X11_even v0 v1 v2 v3 v4 Q S) : P_X11_even v0 v1 v2 v3 v4 (fun r T => Q r T ∧ K2 S T) S := kf_X11_even_0 h (k2_rf S)
set_option maxRecDepth 20000 in
set_option maxHeartbeats 1000000 in
theorem kf_X11_isSpeed_0 {Q : Int32 → HS → Prop} {v0 : Nat} {v1 : Int32} {v2 : Int32} {S0 S : HS} (h : P_X11_isSpeed_0 Q v0 v1 v2 S) (K : K2 S0 S) : P_X11_isSpeed_0 (fun r T => Q r T ∧ K2 S0 T) v0 v1 v2 S := by
  delta P_X11_isSpeed_0 at h ⊢
  obtain ⟨c1, h⟩ := h
  refine ⟨c1, ?_⟩
  have n2 := k2_ne K c1 (by decide)
  obtain ⟨b3, e4, h⟩ := h
  refine ⟨b3, e4, ?_⟩
  obtain ⟨c5, h⟩ := h
  refine ⟨c5, ?_⟩
  have n6 := k2_ne K c5 (by decide)
  obtain ⟨b7, e8, h⟩ := h
  refine ⟨b7, e8, ?_⟩
  obtain ⟨c9, h⟩ := h
  refine ⟨c9, ?_⟩
  have n10 := k2_ne K c9 (by decide)
  obtain ⟨c11, h⟩ := h
  refine ⟨c11, ?_⟩
  intro x13 e12
  have h := h x13 e12
  obtain ⟨b14, e15, h⟩ := h
  refine ⟨b14, e15, ?_⟩
  obtain ⟨c16, h⟩ := h
  refine ⟨c16, ?_⟩
  have n17 := k2_ne K c16 (by decide)
  obtain ⟨b18, e19, h⟩ := h
  refine ⟨b18, e19, ?_⟩
  obtain ⟨c20, h⟩ := h
  refine ⟨c20, ?_⟩
  have n21 := k2_ne K c20 (by decide)
  obtain ⟨c22, h⟩ := h
  refine ⟨c22, ?_⟩
  intro x24 e23
  have h := h x24 e23
  refine cm_X11_in (kf_X11_in h) h (fun x25 x26 hp h g27 g28 => ?_)
  have h := h g27 g28
  have K := k2_tr K hp.2
  obtain ⟨c29, h⟩ := h
  refine ⟨c29, ?_⟩
  exact ⟨h, K⟩
theorem kf_X11_isSpeed {Q : Int32 → HS → Prop} {v0 : Nat} {v1 : Int32} {v2 : Int32} {S : HS} (h : P_X11_isSpeed v0 v1 v2 Q S) : P_X11_isSpeed v0 v1 v2 (fun r T => Q r T ∧ K2 S T) S := kf_X11_isSpeed_0 h (k2_rf S)
set_option maxRecDepth 20000 in
set_option maxHeartbeats 1000000 in
theorem kf_X11_refuses_0 {Q : Int32 → HS → Prop} {v0 : Nat} {v1 : Int32} {v2 : Int32} {v3 : Int32} {v4 : Int32} {v5 : Int32} {S0 S : HS} (h : P_X11_refuses_0 Q v0 v1 v2 v3 v4 v5 S) (K : K2 S0 S) : P_X11_refuses_0 (fun r T => Q r T ∧ K2 S0 T) v0 v1 v2 v3 v4 v5 S := by
  delta P_X11_refuses_0 at h ⊢
  obtain ⟨c1, h⟩ := h
  refine ⟨c1, ?_⟩
  have n2 := k2_ne K c1 (by decide)
  refine cm_X11_isWalker (kf_X11_isWalker h) h (fun x3 x4 hp h g5 g6 => ?_)
  have h := h g5 g6
  have K := k2_tr K hp.2
  refine ⟨?_, ?_⟩
  · intro c7
    have h := h.1 c7
    exact ⟨h, K⟩
  · intro c8
    have h := h.2 c8
    refine cm_X11_isRoad (kf_X11_isRoad h) h (fun x9 x10 hp h g11 g12 => ?_)
    have h := h g11 g12
    have K := k2_tr K hp.2
    refine ⟨?_, ?_⟩
    · intro c13
      have h := h.1 c13
      exact ⟨h, K⟩
    · intro c14
      have h := h.2 c14
      refine cm_X11_in (kf_X11_in h) h (fun x15 x16 hp h g17 g18 => ?_)
      have h := h g17 g18
      have K := k2_tr K hp.2
      refine ⟨?_, ?_⟩
      · intro c19
        have h := h.1 c19
        exact ⟨h, K⟩
      · intro c20
        have h := h.2 c20
        refine cm_X11_isHour (kf_X11_isHour h) h (fun x21 x22 hp h g23 g24 => ?_)
        have h := h g23 g24
        have K := k2_tr K hp.2
        refine ⟨?_, ?_⟩
        · intro c25
          have h := h.1 c25
          refine cm_X11_isSpeed (kf_X11_isSpeed h) h (fun x26 x27 hp h g28 g29 => ?_)
          have h := h g28 g29
          have K := k2_tr K hp.2
          refine ⟨?_, ?_⟩
          · intro c30
            have h := h.1 c30
            exact ⟨h, K⟩
          · intro c31
            have h := h.2 c31
            exact ⟨h, K⟩
        · intro c32
          have h := h.2 c32
          exact ⟨h, K⟩
theorem kf_X11_refuses {Q : Int32 → HS → Prop} {v0 : Nat} {v1 : Int32} {v2 : Int32} {v3 : Int32} {v4 : Int32} {v5 : Int32} {S : HS} (h : P_X11_refuses v0 v1 v2 v3 v4 v5 Q S) : P_X11_refuses v0 v1 v2 v3 v4 v5 (fun r T => Q r T ∧ K2 S T) S := kf_X11_refuses_0 h (k2_rf S)
set_option maxRecDepth 20000 in
set_option maxHeartbeats 1000000 in
theorem kfB_X11_told_12 {Q : Int64 → HS → Prop} {X12 X12_2 : Int64 → Int64 → Int32 → Int64 → Int64 → HS → Prop} {v1 : Int64} {v3 : Int64} {v5 : Int32} {v6 : Int64} {v8 : Int64} {S0 S : HS} (h : B_X11_told_12 Q X12 v1 v3 v5 v6 v8 S) (K : K2 S0 S) (hX12 : ∀ (u0 : Int64) (u1 : Int64) (u2 : Int32) (u3 : Int64) (u4 : Int64) (u5 : HS), X12 u0 u1 u2 u3 u4 u5 → K2 S0 u5 → X12_2 u0 u1 u2 u3 u4 u5) : B_X11_told_12 (fun r T => Q r T ∧ K2 S0 T) X12_2 v1 v3 v5 v6 v8 S := by
  delta B_X11_told_12 at h ⊢
  refine ⟨?_, ?_⟩
  · intro c1
    have h := h.1 c1
    refine ⟨?_, ?_⟩
    · intro c2
      have h := h.1 c2
      obtain ⟨c3, h⟩ := h
      refine ⟨c3, ?_⟩
      intro x5 e4
      have h := h x5 e4
      exact ⟨h, K⟩
    · intro c6
      have h := h.2 c6
      obtain ⟨c7, h⟩ := h
      refine ⟨c7, ?_⟩
      intro x9 e8
      have h := h x9 e8
      exact ⟨h, K⟩
  · intro c10
    have h := h.2 c10
    obtain ⟨c11, h⟩ := h
    refine ⟨c11, ?_⟩
    intro x13 e12
    have h := h x13 e12
    exact hX12 _ _ _ _ _ _ h K
theorem kf_X11_told_12 {Q : Int64 → HS → Prop} {v1 : Int64} {v3 : Int64} {v5 : Int32} {v6 : Int64} {v8 : Int64} {S0 S : HS} (h : P_X11_told_12 Q v1 v3 v5 v6 v8 S) (K : K2 S0 S) : P_X11_told_12 (fun r T => Q r T ∧ K2 S0 T) v1 v3 v5 v6 v8 S := h (fun v1 v3 v5 v6 v8 S => K2 S0 S → P_X11_told_12 (fun r T => Q r T ∧ K2 S0 T) v1 v3 v5 v6 v8 S) (fun v1 v3 v5 v6 v8 S hB K => fd_X11_told_12 (kfB_X11_told_12 hB K (fun _ _ _ _ _ _ hx K => hx K))) K
set_option maxRecDepth 20000 in
set_option maxHeartbeats 1000000 in
theorem kf_X11_told_0 {Q : Int64 → HS → Prop} {v0 : Nat} {v1 : Int64} {v3 : Int64} {v5 : Int32} {S0 S : HS} (h : P_X11_told_0 Q v0 v1 v3 v5 S) (K : K2 S0 S) : P_X11_told_0 (fun r T => Q r T ∧ K2 S0 T) v0 v1 v3 v5 S := by
  delta P_X11_told_0 at h ⊢
  obtain ⟨c1, h⟩ := h
  refine ⟨c1, ?_⟩
  have n2 := k2_ne K c1 (by decide)
  refine cm_X11_good (kf_X11_good h) h (fun x3 x4 hp h g5 => ?_)
  have h := h g5
  have K := k2_tr K hp.2
  exact kf_X11_told_12 h K
theorem kf_X11_told {Q : Int64 → HS → Prop} {v0 : Nat} {v1 : Int64} {v3 : Int64} {v5 : Int32} {S : HS} (h : P_X11_told v0 v1 v3 v5 Q S) : P_X11_told v0 v1 v3 v5 (fun r T => Q r T ∧ K2 S T) S := kf_X11_told_0 h (k2_rf S)
set_option maxRecDepth 20000 in
set_option maxHeartbeats 1000000 in
theorem kf_X11_face_30 {Q : Int64 → HS → Prop} {v0 : Nat} {v1 : Int32} {v2 : Int32} {v3 : Int32} {v4 : Int32} {v5 : Int32} {v6 : Int32} {v7 : Int32} {s0 : Int32} {S0 S : HS} (h : P_X11_face_30 Q v0 v1 v2 v3 v4 v5 v6 v7 s0 S) (K : K2 S0 S) : P_X11_face_30 (fun r T => Q r T ∧ K2 S0 T) v0 v1 v2 v3 v4 v5 v6 v7 s0 S := by
  delta P_X11_face_30 at h ⊢
  refine ⟨?_, ?_⟩
  · intro c1
    have h := h.1 c1
    obtain ⟨c2, h⟩ := h
    refine ⟨c2, ?_⟩
    have n3 := k2_ne K c2 (by decide)
    refine cm_X11_partsOf (kf_X11_partsOf h) h (fun x4 x5 hp h g6 => ?_)
    have h := h g6
    have K := k2_tr K hp.2
    refine cm_X11_told (kf_X11_told h) h (fun x7 x8 hp h g9 => ?_)
    have h := h g9
    have K := k2_tr K hp.2
    exact ⟨h, K⟩
  · intro c10
    have h := h.2 c10
    obtain ⟨c11, h⟩ := h
    refine ⟨c11, ?_⟩
    have n12 := k2_ne K c11 (by decide)
    refine cm_X11_refused (kf_X11_refused h) h (fun x13 x14 hp h g15 => ?_)
    have h := h g15
    have K := k2_tr K hp.2
    exact ⟨h, K⟩
set_option maxRecDepth 20000 in
set_option maxHeartbeats 1000000 in
theorem kf_X11_face_0 {Q : Int64 → HS → Prop} {v0 : Nat} {v1 : Int32} {v2 : Int32} {v3 : Int32} {v4 : Int32} {v5 : Int32} {v6 : Int32} {v7 : Int32} {S0 S : HS} (h : P_X11_face_0 Q v0 v1 v2 v3 v4 v5 v6 v7 S) (K : K2 S0 S) : P_X11_face_0 (fun r T => Q r T ∧ K2 S0 T) v0 v1 v2 v3 v4 v5 v6 v7 S := by
  delta P_X11_face_0 at h ⊢
  obtain ⟨c1, h⟩ := h
  refine ⟨c1, ?_⟩
  have n2 := k2_ne K c1 (by decide)
  intro x4 e3
  have h := h x4 e3
  have K := k2_I K e3 n2
  refine cm_X11_in (kf_X11_in h) h (fun x5 x6 hp h g7 g8 => ?_)
  have h := h g7 g8
  have K := k2_tr K hp.2
  refine ⟨?_, ?_⟩
  · intro c9
    have h := h.1 c9
    exact kf_X11_face_30 h K
  · intro c10
    have h := h.2 c10
    refine cm_X11_refuses (kf_X11_refuses h) h (fun x11 x12 hp h g13 => ?_)
    have h := h g13
    have K := k2_tr K hp.2
    exact kf_X11_face_30 h K
theorem kf_X11_face {Q : Int64 → HS → Prop} {v0 : Nat} {v1 : Int32} {v2 : Int32} {v3 : Int32} {v4 : Int32} {v5 : Int32} {v6 : Int32} {v7 : Int32} {S : HS} (h : P_X11_face v0 v1 v2 v3 v4 v5 v6 v7 Q S) : P_X11_face v0 v1 v2 v3 v4 v5 v6 v7 (fun r T => Q r T ∧ K2 S T) S := kf_X11_face_0 h (k2_rf S)
set_option maxRecDepth 20000 in
set_option maxHeartbeats 1000000 in
theorem kf_X11_fault_0 {Q : Int32 → HS → Prop} {v0 : Nat} {S0 S : HS} (h : P_X11_fault_0 Q v0 S) (K : K2 S0 S) : P_X11_fault_0 (fun r T => Q r T ∧ K2 S0 T) v0 S := by
  delta P_X11_fault_0 at h ⊢
  obtain ⟨c1, h⟩ := h
  refine ⟨c1, ?_⟩
  have n2 := k2_ne K c1 (by decide)
  intro x4 e3
  have h := h x4 e3
  have K := k2_I K e3 n2
  intro x6 e5
  have h := h x6 e5
  exact ⟨h, K⟩
theorem kf_X11_fault {Q : Int32 → HS → Prop} {v0 : Nat} {S : HS} (h : P_X11_fault v0 Q S) : P_X11_fault v0 (fun r T => Q r T ∧ K2 S T) S := kf_X11_fault_0 h (k2_rf S)
set_option maxRecDepth 20000 in
set_option maxHeartbeats 1000000 in
theorem kf_X11_refusesTwo_0 {Q : Int32 → HS → Prop} {v0 : Nat} {v1 : Int32} {v2 : Int32} {v3 : Int32} {v4 : Int32} {v5 : Int32} {v6 : Int32} {S0 S : HS} (h : P_X11_refusesTwo_0 Q v0 v1 v2 v3 v4 v5 v6 S) (K : K2 S0 S) : P_X11_refusesTwo_0 (fun r T => Q r T ∧ K2 S0 T) v0 v1 v2 v3 v4 v5 v6 S := by
  delta P_X11_refusesTwo_0 at h ⊢
  refine ⟨?_, ?_⟩
  · intro c1
    have h := h.1 c1
    exact ⟨h, K⟩
  · intro c2
    have h := h.2 c2
    obtain ⟨c3, h⟩ := h
    refine ⟨c3, ?_⟩
    have n4 := k2_ne K c3 (by decide)
    refine cm_X11_isWalker (kf_X11_isWalker h) h (fun x5 x6 hp h g7 g8 => ?_)
    have h := h g7 g8
    have K := k2_tr K hp.2
    refine ⟨?_, ?_⟩
    · intro c9
      have h := h.1 c9
      refine cm_X11_refuses (kf_X11_refuses h) h (fun x10 x11 hp h g12 => ?_)
      have h := h g12
      have K := k2_tr K hp.2
      refine ⟨?_, ?_⟩
      · intro c13
        have h := h.1 c13
        refine cm_X11_isSpeed (kf_X11_isSpeed h) h (fun x14 x15 hp h g16 g17 => ?_)
        have h := h g16 g17
        have K := k2_tr K hp.2
        refine ⟨?_, ?_⟩
        · intro c18
          have h := h.1 c18
          exact ⟨h, K⟩
        · intro c19
          have h := h.2 c19
          exact ⟨h, K⟩
      · intro c20
        have h := h.2 c20
        exact ⟨h, K⟩
    · intro c21
      have h := h.2 c21
      exact ⟨h, K⟩
theorem kf_X11_refusesTwo {Q : Int32 → HS → Prop} {v0 : Nat} {v1 : Int32} {v2 : Int32} {v3 : Int32} {v4 : Int32} {v5 : Int32} {v6 : Int32} {S : HS} (h : P_X11_refusesTwo v0 v1 v2 v3 v4 v5 v6 Q S) : P_X11_refusesTwo v0 v1 v2 v3 v4 v5 v6 (fun r T => Q r T ∧ K2 S T) S := kf_X11_refusesTwo_0 h (k2_rf S)
set_option maxRecDepth 20000 in
set_option maxHeartbeats 1000000 in
theorem kfB_X11_together_6 {Q : Int64 → HS → Prop} {X6 X6_2 : Nat → Int32 → Int32 → Int32 → Int32 → Int32 → Int32 → Int64 → Int32 → HS → Prop} {v0 : Nat} {v1 : Int32} {v2 : Int32} {v3 : Int32} {v4 : Int32} {v5 : Int32} {v6 : Int32} {v7 : Int64} {v9 : Int32} {S0 S : HS} (h : B_X11_together_6 Q X6 v0 v1 v2 v3 v4 v5 v6 v7 v9 S) (K : K2 S0 S) (hX6 : ∀ (u0 : Nat) (u1 : Int32) (u2 : Int32) (u3 : Int32) (u4 : Int32) (u5 : Int32) (u6 : Int32) (u7 : Int64) (u8 : Int32) (u9 : HS), X6 u0 u1 u2 u3 u4 u5 u6 u7 u8 u9 → K2 S0 u9 → X6_2 u0 u1 u2 u3 u4 u5 u6 u7 u8 u9) : B_X11_together_6 (fun r T => Q r T ∧ K2 S0 T) X6_2 v0 v1 v2 v3 v4 v5 v6 v7 v9 S := by
  delta B_X11_together_6 at h ⊢
  refine ⟨?_, ?_⟩
  · intro c1
    have h := h.1 c1
    obtain ⟨c2, h⟩ := h
    refine ⟨c2, ?_⟩
    have n3 := k2_ne K c2 (by decide)
    obtain ⟨b4, e5, h⟩ := h
    refine ⟨b4, e5, ?_⟩
    obtain ⟨c6, h⟩ := h
    refine ⟨c6, ?_⟩
    have n7 := k2_ne K c6 (by decide)
    obtain ⟨b8, e9, h⟩ := h
    refine ⟨b8, e9, ?_⟩
    obtain ⟨c10, h⟩ := h
    refine ⟨c10, ?_⟩
    have n11 := k2_ne K c10 (by decide)
    obtain ⟨c12, h⟩ := h
    refine ⟨c12, ?_⟩
    intro x14 e13
    have h := h x14 e13
    obtain ⟨b15, e16, h⟩ := h
    refine ⟨b15, e16, ?_⟩
    obtain ⟨c17, h⟩ := h
    refine ⟨c17, ?_⟩
    have n18 := k2_ne K c17 (by decide)
    obtain ⟨b19, e20, h⟩ := h
    refine ⟨b19, e20, ?_⟩
    obtain ⟨c21, h⟩ := h
    refine ⟨c21, ?_⟩
    have n22 := k2_ne K c21 (by decide)
    obtain ⟨c23, h⟩ := h
    refine ⟨c23, ?_⟩
    intro x25 e24
    have h := h x25 e24
    obtain ⟨c26, h⟩ := h
    refine ⟨c26, ?_⟩
    intro x28 e27
    have h := h x28 e27
    exact ⟨h, K⟩
  · intro c29
    have h := h.2 c29
    obtain ⟨c30, h⟩ := h
    refine ⟨c30, ?_⟩
    have n31 := k2_ne K c30 (by decide)
    obtain ⟨b32, e33, h⟩ := h
    refine ⟨b32, e33, ?_⟩
    obtain ⟨c34, h⟩ := h
    refine ⟨c34, ?_⟩
    have n35 := k2_ne K c34 (by decide)
    obtain ⟨b36, e37, h⟩ := h
    refine ⟨b36, e37, ?_⟩
    obtain ⟨c38, h⟩ := h
    refine ⟨c38, ?_⟩
    have n39 := k2_ne K c38 (by decide)
    obtain ⟨c40, h⟩ := h
    refine ⟨c40, ?_⟩
    intro x42 e41
    have h := h x42 e41
    refine cm_X11_inTime (kf_X11_inTime h) h (fun x43 x44 hp h g45 => ?_)
    have h := h g45
    have K := k2_tr K hp.2
    intro x47 e46
    have h := h x47 e46
    obtain ⟨b48, e49, h⟩ := h
    refine ⟨b48, e49, ?_⟩
    obtain ⟨c50, h⟩ := h
    refine ⟨c50, ?_⟩
    have n51 := k2_ne K c50 (by decide)
    obtain ⟨b52, e53, h⟩ := h
    refine ⟨b52, e53, ?_⟩
    obtain ⟨c54, h⟩ := h
    refine ⟨c54, ?_⟩
    have n55 := k2_ne K c54 (by decide)
    obtain ⟨c56, h⟩ := h
    refine ⟨c56, ?_⟩
    intro x58 e57
    have h := h x58 e57
    refine cm_X11_inTime (kf_X11_inTime h) h (fun x59 x60 hp h g61 => ?_)
    have h := h g61
    have K := k2_tr K hp.2
    intro x63 e62
    have h := h x63 e62
    intro x65 e64
    have h := h x65 e64
    exact hX6 _ _ _ _ _ _ _ _ _ _ h K
theorem kf_X11_together_6 {Q : Int64 → HS → Prop} {v0 : Nat} {v1 : Int32} {v2 : Int32} {v3 : Int32} {v4 : Int32} {v5 : Int32} {v6 : Int32} {v7 : Int64} {v9 : Int32} {S0 S : HS} (h : P_X11_together_6 Q v0 v1 v2 v3 v4 v5 v6 v7 v9 S) (K : K2 S0 S) : P_X11_together_6 (fun r T => Q r T ∧ K2 S0 T) v0 v1 v2 v3 v4 v5 v6 v7 v9 S := h (fun v0 v1 v2 v3 v4 v5 v6 v7 v9 S => K2 S0 S → P_X11_together_6 (fun r T => Q r T ∧ K2 S0 T) v0 v1 v2 v3 v4 v5 v6 v7 v9 S) (fun v0 v1 v2 v3 v4 v5 v6 v7 v9 S hB K => fd_X11_together_6 (kfB_X11_together_6 hB K (fun _ _ _ _ _ _ _ _ _ _ hx K => hx K))) K
set_option maxRecDepth 20000 in
set_option maxHeartbeats 1000000 in
theorem kf_X11_together_0 {Q : Int64 → HS → Prop} {v0 : Nat} {v1 : Int32} {v2 : Int32} {v3 : Int32} {v4 : Int32} {v5 : Int32} {v6 : Int32} {S0 S : HS} (h : P_X11_together_0 Q v0 v1 v2 v3 v4 v5 v6 S) (K : K2 S0 S) : P_X11_together_0 (fun r T => Q r T ∧ K2 S0 T) v0 v1 v2 v3 v4 v5 v6 S := by
  delta P_X11_together_0 at h ⊢
  exact kf_X11_together_6 h K
theorem kf_X11_together {Q : Int64 → HS → Prop} {v0 : Nat} {v1 : Int32} {v2 : Int32} {v3 : Int32} {v4 : Int32} {v5 : Int32} {v6 : Int32} {S : HS} (h : P_X11_together v0 v1 v2 v3 v4 v5 v6 Q S) : P_X11_together v0 v1 v2 v3 v4 v5 v6 (fun r T => Q r T ∧ K2 S T) S := kf_X11_together_0 h (k2_rf S)
set_option maxRecDepth 20000 in
set_option maxHeartbeats 1000000 in
theorem kf_X11_first_89 {Q : Int32 → HS → Prop} {s0 : Nat} {s1 : Int32} {S0 S : HS} (h : P_X11_first_89 Q s0 s1 S) (K : K2 S0 S) : P_X11_first_89 (fun r T => Q r T ∧ K2 S0 T) s0 s1 S := by
  delta P_X11_first_89 at h ⊢
  obtain ⟨c1, h⟩ := h
  refine ⟨c1, ?_⟩
  have n2 := k2_ne K c1 (by decide)
  refine cm_X11_good (kf_X11_good h) h (fun x3 x4 hp h g5 => ?_)
  have h := h g5
  have K := k2_tr K hp.2
  exact ⟨h, K⟩
set_option maxRecDepth 20000 in
set_option maxHeartbeats 1000000 in
theorem kf_X11_first_0 {Q : Int32 → HS → Prop} {v0 : Nat} {v1 : Int32} {v2 : Int32} {v3 : Int32} {v4 : Int32} {v5 : Int32} {v6 : Int32} {S0 S : HS} (h : P_X11_first_0 Q v0 v1 v2 v3 v4 v5 v6 S) (K : K2 S0 S) : P_X11_first_0 (fun r T => Q r T ∧ K2 S0 T) v0 v1 v2 v3 v4 v5 v6 S := by
  delta P_X11_first_0 at h ⊢
  obtain ⟨c1, h⟩ := h
  refine ⟨c1, ?_⟩
  have n2 := k2_ne K c1 (by decide)
  intro x4 e3
  have h := h x4 e3
  have K := k2_I K e3 n2
  refine cm_X11_refusesTwo (kf_X11_refusesTwo h) h (fun x5 x6 hp h g7 => ?_)
  have h := h g7
  have K := k2_tr K hp.2
  refine ⟨?_, ?_⟩
  · intro c8
    have h := h.1 c8
    refine cm_X11_together (kf_X11_together h) h (fun x9 x10 hp h g11 => ?_)
    have h := h g11
    have K := k2_tr K hp.2
    refine cm_X11_together (kf_X11_together h) h (fun x12 x13 hp h g14 => ?_)
    have h := h g14
    have K := k2_tr K hp.2
    refine ⟨?_, ?_⟩
    · intro c15
      have h := h.1 c15
      refine ⟨?_, ?_⟩
      · intro c16
        have h := h.1 c16
        exact kf_X11_first_89 h K
      · intro c17
        have h := h.2 c17
        exact kf_X11_first_89 h K
    · intro c18
      have h := h.2 c18
      exact kf_X11_first_89 h K
  · intro c19
    have h := h.2 c19
    refine cm_X11_refused (kf_X11_refused h) h (fun x20 x21 hp h g22 => ?_)
    have h := h g22
    have K := k2_tr K hp.2
    exact ⟨h, K⟩
theorem kf_X11_first {Q : Int32 → HS → Prop} {v0 : Nat} {v1 : Int32} {v2 : Int32} {v3 : Int32} {v4 : Int32} {v5 : Int32} {v6 : Int32} {S : HS} (h : P_X11_first v0 v1 v2 v3 v4 v5 v6 Q S) : P_X11_first v0 v1 v2 v3 v4 v5 v6 (fun r T => Q r T ∧ K2 S T) S := kf_X11_first_0 h (k2_rf S)
set_option maxRecDepth 20000 in
set_option maxHeartbeats 1000000 in
theorem kf_X11_fitOf_137 {Q : Int32 → HS → Prop} {X16 X16_2 : Nat → Int32 → Int32 → Int32 → Int32 → Int32 → HS → Prop} {X31 X31_2 : Nat → Int32 → Int32 → Int32 → Int32 → Int32 → Int32 → HS → Prop} {X40 X40_2 : Nat → Int32 → Int32 → Int32 → Int32 → Int32 → Int32 → Int32 → HS → Prop} {X63 X63_2 : Nat → Int32 → Int32 → Int32 → Int32 → Int32 → Int32 → Int32 → Int32 → HS → Prop} {X83 X83_2 : Nat → Int32 → Int32 → Int32 → Int32 → Int32 → Int32 → Int32 → Int32 → Int32 → Int32 → HS → Prop} {v0 : Nat} {v1 : Int32} {v2 : Int32} {v3 : Int32} {v4 : Int32} {v5 : Int32} {v6 : Int32} {v7 : Int32} {v8 : Int32} {v10 : Int32} {s0 : Int32} {S0 S : HS} (h : P_X11_fitOf_137 Q X16 X31 X40 X63 X83 v0 v1 v2 v3 v4 v5 v6 v7 v8 v10 s0 S) (K : K2 S0 S) (hX16 : ∀ (u0 : Nat) (u1 : Int32) (u2 : Int32) (u3 : Int32) (u4 : Int32) (u5 : Int32) (u6 : HS), X16 u0 u1 u2 u3 u4 u5 u6 → K2 S0 u6 → X16_2 u0 u1 u2 u3 u4 u5 u6) (hX31 : ∀ (u0 : Nat) (u1 : Int32) (u2 : Int32) (u3 : Int32) (u4 : Int32) (u5 : Int32) (u6 : Int32) (u7 : HS), X31 u0 u1 u2 u3 u4 u5 u6 u7 → K2 S0 u7 → X31_2 u0 u1 u2 u3 u4 u5 u6 u7) (hX40 : ∀ (u0 : Nat) (u1 : Int32) (u2 : Int32) (u3 : Int32) (u4 : Int32) (u5 : Int32) (u6 : Int32) (u7 : Int32) (u8 : HS), X40 u0 u1 u2 u3 u4 u5 u6 u7 u8 → K2 S0 u8 → X40_2 u0 u1 u2 u3 u4 u5 u6 u7 u8) (hX63 : ∀ (u0 : Nat) (u1 : Int32) (u2 : Int32) (u3 : Int32) (u4 : Int32) (u5 : Int32) (u6 : Int32) (u7 : Int32) (u8 : Int32) (u9 : HS), X63 u0 u1 u2 u3 u4 u5 u6 u7 u8 u9 → K2 S0 u9 → X63_2 u0 u1 u2 u3 u4 u5 u6 u7 u8 u9) (hX83 : ∀ (u0 : Nat) (u1 : Int32) (u2 : Int32) (u3 : Int32) (u4 : Int32) (u5 : Int32) (u6 : Int32) (u7 : Int32) (u8 : Int32) (u9 : Int32) (u10 : Int32) (u11 : HS), X83 u0 u1 u2 u3 u4 u5 u6 u7 u8 u9 u10 u11 → K2 S0 u11 → X83_2 u0 u1 u2 u3 u4 u5 u6 u7 u8 u9 u10 u11) : P_X11_fitOf_137 (fun r T => Q r T ∧ K2 S0 T) X16_2 X31_2 X40_2 X63_2 X83_2 v0 v1 v2 v3 v4 v5 v6 v7 v8 v10 s0 S := by
  delta P_X11_fitOf_137 at h ⊢
  intro x2 e1
  have h := h x2 e1
  exact hX83 _ _ _ _ _ _ _ _ _ _ _ _ h K
set_option maxRecDepth 20000 in
set_option maxHeartbeats 1000000 in
theorem kf_X11_fitOf_136 {Q : Int32 → HS → Prop} {X16 X16_2 : Nat → Int32 → Int32 → Int32 → Int32 → Int32 → HS → Prop} {X31 X31_2 : Nat → Int32 → Int32 → Int32 → Int32 → Int32 → Int32 → HS → Prop} {X40 X40_2 : Nat → Int32 → Int32 → Int32 → Int32 → Int32 → Int32 → Int32 → HS → Prop} {X63 X63_2 : Nat → Int32 → Int32 → Int32 → Int32 → Int32 → Int32 → Int32 → Int32 → HS → Prop} {X83 X83_2 : Nat → Int32 → Int32 → Int32 → Int32 → Int32 → Int32 → Int32 → Int32 → Int32 → Int32 → HS → Prop} {v0 : Nat} {v1 : Int32} {v2 : Int32} {v3 : Int32} {v4 : Int32} {v5 : Int32} {v6 : Int32} {v7 : Int32} {v8 : Int32} {v10 : Int32} {S0 S : HS} (h : P_X11_fitOf_136 Q X16 X31 X40 X63 X83 v0 v1 v2 v3 v4 v5 v6 v7 v8 v10 S) (K : K2 S0 S) (hX16 : ∀ (u0 : Nat) (u1 : Int32) (u2 : Int32) (u3 : Int32) (u4 : Int32) (u5 : Int32) (u6 : HS), X16 u0 u1 u2 u3 u4 u5 u6 → K2 S0 u6 → X16_2 u0 u1 u2 u3 u4 u5 u6) (hX31 : ∀ (u0 : Nat) (u1 : Int32) (u2 : Int32) (u3 : Int32) (u4 : Int32) (u5 : Int32) (u6 : Int32) (u7 : HS), X31 u0 u1 u2 u3 u4 u5 u6 u7 → K2 S0 u7 → X31_2 u0 u1 u2 u3 u4 u5 u6 u7) (hX40 : ∀ (u0 : Nat) (u1 : Int32) (u2 : Int32) (u3 : Int32) (u4 : Int32) (u5 : Int32) (u6 : Int32) (u7 : Int32) (u8 : HS), X40 u0 u1 u2 u3 u4 u5 u6 u7 u8 → K2 S0 u8 → X40_2 u0 u1 u2 u3 u4 u5 u6 u7 u8) (hX63 : ∀ (u0 : Nat) (u1 : Int32) (u2 : Int32) (u3 : Int32) (u4 : Int32) (u5 : Int32) (u6 : Int32) (u7 : Int32) (u8 : Int32) (u9 : HS), X63 u0 u1 u2 u3 u4 u5 u6 u7 u8 u9 → K2 S0 u9 → X63_2 u0 u1 u2 u3 u4 u5 u6 u7 u8 u9) (hX83 : ∀ (u0 : Nat) (u1 : Int32) (u2 : Int32) (u3 : Int32) (u4 : Int32) (u5 : Int32) (u6 : Int32) (u7 : Int32) (u8 : Int32) (u9 : Int32) (u10 : Int32) (u11 : HS), X83 u0 u1 u2 u3 u4 u5 u6 u7 u8 u9 u10 u11 → K2 S0 u11 → X83_2 u0 u1 u2 u3 u4 u5 u6 u7 u8 u9 u10 u11) : P_X11_fitOf_136 (fun r T => Q r T ∧ K2 S0 T) X16_2 X31_2 X40_2 X63_2 X83_2 v0 v1 v2 v3 v4 v5 v6 v7 v8 v10 S := by
  delta P_X11_fitOf_136 at h ⊢
  exact kf_X11_fitOf_137 h K hX16 hX31 hX40 hX63 hX83
set_option maxRecDepth 20000 in
set_option maxHeartbeats 1000000 in
theorem kf_X11_fitOf_184 {Q : Int32 → HS → Prop} {X16 X16_2 : Nat → Int32 → Int32 → Int32 → Int32 → Int32 → HS → Prop} {X31 X31_2 : Nat → Int32 → Int32 → Int32 → Int32 → Int32 → Int32 → HS → Prop} {X40 X40_2 : Nat → Int32 → Int32 → Int32 → Int32 → Int32 → Int32 → Int32 → HS → Prop} {X63 X63_2 : Nat → Int32 → Int32 → Int32 → Int32 → Int32 → Int32 → Int32 → Int32 → HS → Prop} {v0 : Nat} {v1 : Int32} {v2 : Int32} {v3 : Int32} {v4 : Int32} {v5 : Int32} {v6 : Int32} {v7 : Int32} {v8 : Int32} {S0 S : HS} (h : P_X11_fitOf_184 Q X16 X31 X40 X63 v0 v1 v2 v3 v4 v5 v6 v7 v8 S) (K : K2 S0 S) (hX16 : ∀ (u0 : Nat) (u1 : Int32) (u2 : Int32) (u3 : Int32) (u4 : Int32) (u5 : Int32) (u6 : HS), X16 u0 u1 u2 u3 u4 u5 u6 → K2 S0 u6 → X16_2 u0 u1 u2 u3 u4 u5 u6) (hX31 : ∀ (u0 : Nat) (u1 : Int32) (u2 : Int32) (u3 : Int32) (u4 : Int32) (u5 : Int32) (u6 : Int32) (u7 : HS), X31 u0 u1 u2 u3 u4 u5 u6 u7 → K2 S0 u7 → X31_2 u0 u1 u2 u3 u4 u5 u6 u7) (hX40 : ∀ (u0 : Nat) (u1 : Int32) (u2 : Int32) (u3 : Int32) (u4 : Int32) (u5 : Int32) (u6 : Int32) (u7 : Int32) (u8 : HS), X40 u0 u1 u2 u3 u4 u5 u6 u7 u8 → K2 S0 u8 → X40_2 u0 u1 u2 u3 u4 u5 u6 u7 u8) (hX63 : ∀ (u0 : Nat) (u1 : Int32) (u2 : Int32) (u3 : Int32) (u4 : Int32) (u5 : Int32) (u6 : Int32) (u7 : Int32) (u8 : Int32) (u9 : HS), X63 u0 u1 u2 u3 u4 u5 u6 u7 u8 u9 → K2 S0 u9 → X63_2 u0 u1 u2 u3 u4 u5 u6 u7 u8 u9) : P_X11_fitOf_184 (fun r T => Q r T ∧ K2 S0 T) X16_2 X31_2 X40_2 X63_2 v0 v1 v2 v3 v4 v5 v6 v7 v8 S := by
  delta P_X11_fitOf_184 at h ⊢
  intro x2 e1
  have h := h x2 e1
  exact hX63 _ _ _ _ _ _ _ _ _ _ h K
set_option maxRecDepth 20000 in
set_option maxHeartbeats 1000000 in
theorem kfB_X11_fitOf_83 {Q : Int32 → HS → Prop} {X16 X16_2 : Nat → Int32 → Int32 → Int32 → Int32 → Int32 → HS → Prop} {X31 X31_2 : Nat → Int32 → Int32 → Int32 → Int32 → Int32 → Int32 → HS → Prop} {X40 X40_2 : Nat → Int32 → Int32 → Int32 → Int32 → Int32 → Int32 → Int32 → HS → Prop} {X63 X63_2 : Nat → Int32 → Int32 → Int32 → Int32 → Int32 → Int32 → Int32 → Int32 → HS → Prop} {X83 X83_2 : Nat → Int32 → Int32 → Int32 → Int32 → Int32 → Int32 → Int32 → Int32 → Int32 → Int32 → HS → Prop} {v0 : Nat} {v1 : Int32} {v2 : Int32} {v3 : Int32} {v4 : Int32} {v5 : Int32} {v6 : Int32} {v7 : Int32} {v8 : Int32} {v9 : Int32} {v10 : Int32} {S0 S : HS} (h : B_X11_fitOf_83 Q X16 X31 X40 X63 X83 v0 v1 v2 v3 v4 v5 v6 v7 v8 v9 v10 S) (K : K2 S0 S) (hX16 : ∀ (u0 : Nat) (u1 : Int32) (u2 : Int32) (u3 : Int32) (u4 : Int32) (u5 : Int32) (u6 : HS), X16 u0 u1 u2 u3 u4 u5 u6 → K2 S0 u6 → X16_2 u0 u1 u2 u3 u4 u5 u6) (hX31 : ∀ (u0 : Nat) (u1 : Int32) (u2 : Int32) (u3 : Int32) (u4 : Int32) (u5 : Int32) (u6 : Int32) (u7 : HS), X31 u0 u1 u2 u3 u4 u5 u6 u7 → K2 S0 u7 → X31_2 u0 u1 u2 u3 u4 u5 u6 u7) (hX40 : ∀ (u0 : Nat) (u1 : Int32) (u2 : Int32) (u3 : Int32) (u4 : Int32) (u5 : Int32) (u6 : Int32) (u7 : Int32) (u8 : HS), X40 u0 u1 u2 u3 u4 u5 u6 u7 u8 → K2 S0 u8 → X40_2 u0 u1 u2 u3 u4 u5 u6 u7 u8) (hX63 : ∀ (u0 : Nat) (u1 : Int32) (u2 : Int32) (u3 : Int32) (u4 : Int32) (u5 : Int32) (u6 : Int32) (u7 : Int32) (u8 : Int32) (u9 : HS), X63 u0 u1 u2 u3 u4 u5 u6 u7 u8 u9 → K2 S0 u9 → X63_2 u0 u1 u2 u3 u4 u5 u6 u7 u8 u9) (hX83 : ∀ (u0 : Nat) (u1 : Int32) (u2 : Int32) (u3 : Int32) (u4 : Int32) (u5 : Int32) (u6 : Int32) (u7 : Int32) (u8 : Int32) (u9 : Int32) (u10 : Int32) (u11 : HS), X83 u0 u1 u2 u3 u4 u5 u6 u7 u8 u9 u10 u11 → K2 S0 u11 → X83_2 u0 u1 u2 u3 u4 u5 u6 u7 u8 u9 u10 u11) : B_X11_fitOf_83 (fun r T => Q r T ∧ K2 S0 T) X16_2 X31_2 X40_2 X63_2 X83_2 v0 v1 v2 v3 v4 v5 v6 v7 v8 v9 v10 S := by
  delta B_X11_fitOf_83 at h ⊢
  refine ⟨?_, ?_⟩
  · intro c1
    have h := h.1 c1
    refine ⟨?_, ?_⟩
    · intro c2
      have h := h.1 c2
      refine ⟨?_, ?_⟩
      · intro c3
        have h := h.1 c3
        intro x5 e4
        have h := h x5 e4
        exact kf_X11_fitOf_184 h K hX16 hX31 hX40 hX63
      · intro c6
        have h := h.2 c6
        exact ⟨h, K⟩
    · intro c7
      have h := h.2 c7
      exact kf_X11_fitOf_184 h K hX16 hX31 hX40 hX63
  · intro c8
    have h := h.2 c8
    refine ⟨?_, ?_⟩
    · intro c9
      have h := h.1 c9
      exact kf_X11_fitOf_136 h K hX16 hX31 hX40 hX63 hX83
    · intro c10
      have h := h.2 c10
      obtain ⟨c11, h⟩ := h
      refine ⟨c11, ?_⟩
      have n12 := k2_ne K c11 (by decide)
      refine cm_X11_partsOf (kf_X11_partsOf h) h (fun x13 x14 hp h g15 => ?_)
      have h := h g15
      have K := k2_tr K hp.2
      obtain ⟨b16, e17, h⟩ := h
      refine ⟨b16, e17, ?_⟩
      obtain ⟨c18, h⟩ := h
      refine ⟨c18, ?_⟩
      have n19 := k2_ne K c18 (by decide)
      obtain ⟨b20, e21, h⟩ := h
      refine ⟨b20, e21, ?_⟩
      obtain ⟨c22, h⟩ := h
      refine ⟨c22, ?_⟩
      have n23 := k2_ne K c22 (by decide)
      intro x25 e24
      have h := h x25 e24
      obtain ⟨c26, h⟩ := h
      refine ⟨c26, ?_⟩
      intro x28 e27
      have h := h x28 e27
      refine ⟨?_, ?_⟩
      · intro c29
        have h := h.1 c29
        exact kf_X11_fitOf_136 h K hX16 hX31 hX40 hX63 hX83
      · intro c30
        have h := h.2 c30
        exact kf_X11_fitOf_137 h K hX16 hX31 hX40 hX63 hX83
theorem kf_X11_fitOf_83 {Q : Int32 → HS → Prop} {X16 X16_2 : Nat → Int32 → Int32 → Int32 → Int32 → Int32 → HS → Prop} {X31 X31_2 : Nat → Int32 → Int32 → Int32 → Int32 → Int32 → Int32 → HS → Prop} {X40 X40_2 : Nat → Int32 → Int32 → Int32 → Int32 → Int32 → Int32 → Int32 → HS → Prop} {X63 X63_2 : Nat → Int32 → Int32 → Int32 → Int32 → Int32 → Int32 → Int32 → Int32 → HS → Prop} {v0 : Nat} {v1 : Int32} {v2 : Int32} {v3 : Int32} {v4 : Int32} {v5 : Int32} {v6 : Int32} {v7 : Int32} {v8 : Int32} {v9 : Int32} {v10 : Int32} {S0 S : HS} (h : P_X11_fitOf_83 Q X16 X31 X40 X63 v0 v1 v2 v3 v4 v5 v6 v7 v8 v9 v10 S) (K : K2 S0 S) (hX16 : ∀ (u0 : Nat) (u1 : Int32) (u2 : Int32) (u3 : Int32) (u4 : Int32) (u5 : Int32) (u6 : HS), X16 u0 u1 u2 u3 u4 u5 u6 → K2 S0 u6 → X16_2 u0 u1 u2 u3 u4 u5 u6) (hX31 : ∀ (u0 : Nat) (u1 : Int32) (u2 : Int32) (u3 : Int32) (u4 : Int32) (u5 : Int32) (u6 : Int32) (u7 : HS), X31 u0 u1 u2 u3 u4 u5 u6 u7 → K2 S0 u7 → X31_2 u0 u1 u2 u3 u4 u5 u6 u7) (hX40 : ∀ (u0 : Nat) (u1 : Int32) (u2 : Int32) (u3 : Int32) (u4 : Int32) (u5 : Int32) (u6 : Int32) (u7 : Int32) (u8 : HS), X40 u0 u1 u2 u3 u4 u5 u6 u7 u8 → K2 S0 u8 → X40_2 u0 u1 u2 u3 u4 u5 u6 u7 u8) (hX63 : ∀ (u0 : Nat) (u1 : Int32) (u2 : Int32) (u3 : Int32) (u4 : Int32) (u5 : Int32) (u6 : Int32) (u7 : Int32) (u8 : Int32) (u9 : HS), X63 u0 u1 u2 u3 u4 u5 u6 u7 u8 u9 → K2 S0 u9 → X63_2 u0 u1 u2 u3 u4 u5 u6 u7 u8 u9) : P_X11_fitOf_83 (fun r T => Q r T ∧ K2 S0 T) X16_2 X31_2 X40_2 X63_2 v0 v1 v2 v3 v4 v5 v6 v7 v8 v9 v10 S := h (fun v0 v1 v2 v3 v4 v5 v6 v7 v8 v9 v10 S => K2 S0 S → P_X11_fitOf_83 (fun r T => Q r T ∧ K2 S0 T) X16_2 X31_2 X40_2 X63_2 v0 v1 v2 v3 v4 v5 v6 v7 v8 v9 v10 S) (fun v0 v1 v2 v3 v4 v5 v6 v7 v8 v9 v10 S hB K => fd_X11_fitOf_83 (kfB_X11_fitOf_83 hB K hX16 hX31 hX40 hX63 (fun _ _ _ _ _ _ _ _ _ _ _ _ hx K => hx K))) K
set_option maxRecDepth 20000 in
set_option maxHeartbeats 1000000 in
theorem kfB_X11_fitOf_63 {Q : Int32 → HS → Prop} {X16 X16_2 : Nat → Int32 → Int32 → Int32 → Int32 → Int32 → HS → Prop} {X31 X31_2 : Nat → Int32 → Int32 → Int32 → Int32 → Int32 → Int32 → HS → Prop} {X40 X40_2 : Nat → Int32 → Int32 → Int32 → Int32 → Int32 → Int32 → Int32 → HS → Prop} {X63 X63_2 : Nat → Int32 → Int32 → Int32 → Int32 → Int32 → Int32 → Int32 → Int32 → HS → Prop} {v0 : Nat} {v1 : Int32} {v2 : Int32} {v3 : Int32} {v4 : Int32} {v5 : Int32} {v6 : Int32} {v7 : Int32} {v8 : Int32} {S0 S : HS} (h : B_X11_fitOf_63 Q X16 X31 X40 X63 v0 v1 v2 v3 v4 v5 v6 v7 v8 S) (K : K2 S0 S) (hX16 : ∀ (u0 : Nat) (u1 : Int32) (u2 : Int32) (u3 : Int32) (u4 : Int32) (u5 : Int32) (u6 : HS), X16 u0 u1 u2 u3 u4 u5 u6 → K2 S0 u6 → X16_2 u0 u1 u2 u3 u4 u5 u6) (hX31 : ∀ (u0 : Nat) (u1 : Int32) (u2 : Int32) (u3 : Int32) (u4 : Int32) (u5 : Int32) (u6 : Int32) (u7 : HS), X31 u0 u1 u2 u3 u4 u5 u6 u7 → K2 S0 u7 → X31_2 u0 u1 u2 u3 u4 u5 u6 u7) (hX40 : ∀ (u0 : Nat) (u1 : Int32) (u2 : Int32) (u3 : Int32) (u4 : Int32) (u5 : Int32) (u6 : Int32) (u7 : Int32) (u8 : HS), X40 u0 u1 u2 u3 u4 u5 u6 u7 u8 → K2 S0 u8 → X40_2 u0 u1 u2 u3 u4 u5 u6 u7 u8) (hX63 : ∀ (u0 : Nat) (u1 : Int32) (u2 : Int32) (u3 : Int32) (u4 : Int32) (u5 : Int32) (u6 : Int32) (u7 : Int32) (u8 : Int32) (u9 : HS), X63 u0 u1 u2 u3 u4 u5 u6 u7 u8 u9 → K2 S0 u9 → X63_2 u0 u1 u2 u3 u4 u5 u6 u7 u8 u9) : B_X11_fitOf_63 (fun r T => Q r T ∧ K2 S0 T) X16_2 X31_2 X40_2 X63_2 v0 v1 v2 v3 v4 v5 v6 v7 v8 S := by
  delta B_X11_fitOf_63 at h ⊢
  obtain ⟨c1, h⟩ := h
  refine ⟨c1, ?_⟩
  have n2 := k2_ne K c1 (by decide)
  obtain ⟨b3, e4, h⟩ := h
  refine ⟨b3, e4, ?_⟩
  obtain ⟨c5, h⟩ := h
  refine ⟨c5, ?_⟩
  have n6 := k2_ne K c5 (by decide)
  obtain ⟨b7, e8, h⟩ := h
  refine ⟨b7, e8, ?_⟩
  obtain ⟨c9, h⟩ := h
  refine ⟨c9, ?_⟩
  have n10 := k2_ne K c9 (by decide)
  obtain ⟨c11, h⟩ := h
  refine ⟨c11, ?_⟩
  intro x13 e12
  have h := h x13 e12
  refine ⟨?_, ?_⟩
  · intro c14
    have h := h.1 c14
    intro x16 e15
    have h := h x16 e15
    exact hX40 _ _ _ _ _ _ _ _ _ h K
  · intro c17
    have h := h.2 c17
    exact kf_X11_fitOf_83 h K hX16 hX31 hX40 hX63
theorem kf_X11_fitOf_63 {Q : Int32 → HS → Prop} {X16 X16_2 : Nat → Int32 → Int32 → Int32 → Int32 → Int32 → HS → Prop} {X31 X31_2 : Nat → Int32 → Int32 → Int32 → Int32 → Int32 → Int32 → HS → Prop} {X40 X40_2 : Nat → Int32 → Int32 → Int32 → Int32 → Int32 → Int32 → Int32 → HS → Prop} {v0 : Nat} {v1 : Int32} {v2 : Int32} {v3 : Int32} {v4 : Int32} {v5 : Int32} {v6 : Int32} {v7 : Int32} {v8 : Int32} {S0 S : HS} (h : P_X11_fitOf_63 Q X16 X31 X40 v0 v1 v2 v3 v4 v5 v6 v7 v8 S) (K : K2 S0 S) (hX16 : ∀ (u0 : Nat) (u1 : Int32) (u2 : Int32) (u3 : Int32) (u4 : Int32) (u5 : Int32) (u6 : HS), X16 u0 u1 u2 u3 u4 u5 u6 → K2 S0 u6 → X16_2 u0 u1 u2 u3 u4 u5 u6) (hX31 : ∀ (u0 : Nat) (u1 : Int32) (u2 : Int32) (u3 : Int32) (u4 : Int32) (u5 : Int32) (u6 : Int32) (u7 : HS), X31 u0 u1 u2 u3 u4 u5 u6 u7 → K2 S0 u7 → X31_2 u0 u1 u2 u3 u4 u5 u6 u7) (hX40 : ∀ (u0 : Nat) (u1 : Int32) (u2 : Int32) (u3 : Int32) (u4 : Int32) (u5 : Int32) (u6 : Int32) (u7 : Int32) (u8 : HS), X40 u0 u1 u2 u3 u4 u5 u6 u7 u8 → K2 S0 u8 → X40_2 u0 u1 u2 u3 u4 u5 u6 u7 u8) : P_X11_fitOf_63 (fun r T => Q r T ∧ K2 S0 T) X16_2 X31_2 X40_2 v0 v1 v2 v3 v4 v5 v6 v7 v8 S := h (fun v0 v1 v2 v3 v4 v5 v6 v7 v8 S => K2 S0 S → P_X11_fitOf_63 (fun r T => Q r T ∧ K2 S0 T) X16_2 X31_2 X40_2 v0 v1 v2 v3 v4 v5 v6 v7 v8 S) (fun v0 v1 v2 v3 v4 v5 v6 v7 v8 S hB K => fd_X11_fitOf_63 (kfB_X11_fitOf_63 hB K hX16 hX31 hX40 (fun _ _ _ _ _ _ _ _ _ _ hx K => hx K))) K
set_option maxRecDepth 20000 in
set_option maxHeartbeats 1000000 in
theorem kfB_X11_fitOf_40 {Q : Int32 → HS → Prop} {X16 X16_2 : Nat → Int32 → Int32 → Int32 → Int32 → Int32 → HS → Prop} {X31 X31_2 : Nat → Int32 → Int32 → Int32 → Int32 → Int32 → Int32 → HS → Prop} {X40 X40_2 : Nat → Int32 → Int32 → Int32 → Int32 → Int32 → Int32 → Int32 → HS → Prop} {v0 : Nat} {v1 : Int32} {v2 : Int32} {v3 : Int32} {v4 : Int32} {v5 : Int32} {v6 : Int32} {v7 : Int32} {S0 S : HS} (h : B_X11_fitOf_40 Q X16 X31 X40 v0 v1 v2 v3 v4 v5 v6 v7 S) (K : K2 S0 S) (hX16 : ∀ (u0 : Nat) (u1 : Int32) (u2 : Int32) (u3 : Int32) (u4 : Int32) (u5 : Int32) (u6 : HS), X16 u0 u1 u2 u3 u4 u5 u6 → K2 S0 u6 → X16_2 u0 u1 u2 u3 u4 u5 u6) (hX31 : ∀ (u0 : Nat) (u1 : Int32) (u2 : Int32) (u3 : Int32) (u4 : Int32) (u5 : Int32) (u6 : Int32) (u7 : HS), X31 u0 u1 u2 u3 u4 u5 u6 u7 → K2 S0 u7 → X31_2 u0 u1 u2 u3 u4 u5 u6 u7) (hX40 : ∀ (u0 : Nat) (u1 : Int32) (u2 : Int32) (u3 : Int32) (u4 : Int32) (u5 : Int32) (u6 : Int32) (u7 : Int32) (u8 : HS), X40 u0 u1 u2 u3 u4 u5 u6 u7 u8 → K2 S0 u8 → X40_2 u0 u1 u2 u3 u4 u5 u6 u7 u8) : B_X11_fitOf_40 (fun r T => Q r T ∧ K2 S0 T) X16_2 X31_2 X40_2 v0 v1 v2 v3 v4 v5 v6 v7 S := by
  delta B_X11_fitOf_40 at h ⊢
  obtain ⟨c1, h⟩ := h
  refine ⟨c1, ?_⟩
  have n2 := k2_ne K c1 (by decide)
  obtain ⟨b3, e4, h⟩ := h
  refine ⟨b3, e4, ?_⟩
  obtain ⟨c5, h⟩ := h
  refine ⟨c5, ?_⟩
  have n6 := k2_ne K c5 (by decide)
  intro x8 e7
  have h := h x8 e7
  refine ⟨?_, ?_⟩
  · intro c9
    have h := h.1 c9
    intro x11 e10
    have h := h x11 e10
    exact hX31 _ _ _ _ _ _ _ _ h K
  · intro c12
    have h := h.2 c12
    obtain ⟨b13, e14, h⟩ := h
    refine ⟨b13, e14, ?_⟩
    obtain ⟨c15, h⟩ := h
    refine ⟨c15, ?_⟩
    have n16 := k2_ne K c15 (by decide)
    obtain ⟨b17, e18, h⟩ := h
    refine ⟨b17, e18, ?_⟩
    obtain ⟨c19, h⟩ := h
    refine ⟨c19, ?_⟩
    have n20 := k2_ne K c19 (by decide)
    obtain ⟨c21, h⟩ := h
    refine ⟨c21, ?_⟩
    intro x23 e22
    have h := h x23 e22
    exact kf_X11_fitOf_63 h K hX16 hX31 hX40
theorem kf_X11_fitOf_40 {Q : Int32 → HS → Prop} {X16 X16_2 : Nat → Int32 → Int32 → Int32 → Int32 → Int32 → HS → Prop} {X31 X31_2 : Nat → Int32 → Int32 → Int32 → Int32 → Int32 → Int32 → HS → Prop} {v0 : Nat} {v1 : Int32} {v2 : Int32} {v3 : Int32} {v4 : Int32} {v5 : Int32} {v6 : Int32} {v7 : Int32} {S0 S : HS} (h : P_X11_fitOf_40 Q X16 X31 v0 v1 v2 v3 v4 v5 v6 v7 S) (K : K2 S0 S) (hX16 : ∀ (u0 : Nat) (u1 : Int32) (u2 : Int32) (u3 : Int32) (u4 : Int32) (u5 : Int32) (u6 : HS), X16 u0 u1 u2 u3 u4 u5 u6 → K2 S0 u6 → X16_2 u0 u1 u2 u3 u4 u5 u6) (hX31 : ∀ (u0 : Nat) (u1 : Int32) (u2 : Int32) (u3 : Int32) (u4 : Int32) (u5 : Int32) (u6 : Int32) (u7 : HS), X31 u0 u1 u2 u3 u4 u5 u6 u7 → K2 S0 u7 → X31_2 u0 u1 u2 u3 u4 u5 u6 u7) : P_X11_fitOf_40 (fun r T => Q r T ∧ K2 S0 T) X16_2 X31_2 v0 v1 v2 v3 v4 v5 v6 v7 S := h (fun v0 v1 v2 v3 v4 v5 v6 v7 S => K2 S0 S → P_X11_fitOf_40 (fun r T => Q r T ∧ K2 S0 T) X16_2 X31_2 v0 v1 v2 v3 v4 v5 v6 v7 S) (fun v0 v1 v2 v3 v4 v5 v6 v7 S hB K => fd_X11_fitOf_40 (kfB_X11_fitOf_40 hB K hX16 hX31 (fun _ _ _ _ _ _ _ _ _ hx K => hx K))) K
set_option maxRecDepth 20000 in
set_option maxHeartbeats 1000000 in
theorem kfB_X11_fitOf_31 {Q : Int32 → HS → Prop} {X16 X16_2 : Nat → Int32 → Int32 → Int32 → Int32 → Int32 → HS → Prop} {X31 X31_2 : Nat → Int32 → Int32 → Int32 → Int32 → Int32 → Int32 → HS → Prop} {v0 : Nat} {v1 : Int32} {v2 : Int32} {v3 : Int32} {v4 : Int32} {v5 : Int32} {v6 : Int32} {S0 S : HS} (h : B_X11_fitOf_31 Q X16 X31 v0 v1 v2 v3 v4 v5 v6 S) (K : K2 S0 S) (hX16 : ∀ (u0 : Nat) (u1 : Int32) (u2 : Int32) (u3 : Int32) (u4 : Int32) (u5 : Int32) (u6 : HS), X16 u0 u1 u2 u3 u4 u5 u6 → K2 S0 u6 → X16_2 u0 u1 u2 u3 u4 u5 u6) (hX31 : ∀ (u0 : Nat) (u1 : Int32) (u2 : Int32) (u3 : Int32) (u4 : Int32) (u5 : Int32) (u6 : Int32) (u7 : HS), X31 u0 u1 u2 u3 u4 u5 u6 u7 → K2 S0 u7 → X31_2 u0 u1 u2 u3 u4 u5 u6 u7) : B_X11_fitOf_31 (fun r T => Q r T ∧ K2 S0 T) X16_2 X31_2 v0 v1 v2 v3 v4 v5 v6 S := by
  delta B_X11_fitOf_31 at h ⊢
  refine ⟨?_, ?_⟩
  · intro c1
    have h := h.1 c1
    intro x3 e2
    have h := h x3 e2
    exact hX16 _ _ _ _ _ _ _ h K
  · intro c4
    have h := h.2 c4
    exact kf_X11_fitOf_40 h K hX16 hX31
theorem kf_X11_fitOf_31 {Q : Int32 → HS → Prop} {X16 X16_2 : Nat → Int32 → Int32 → Int32 → Int32 → Int32 → HS → Prop} {v0 : Nat} {v1 : Int32} {v2 : Int32} {v3 : Int32} {v4 : Int32} {v5 : Int32} {v6 : Int32} {S0 S : HS} (h : P_X11_fitOf_31 Q X16 v0 v1 v2 v3 v4 v5 v6 S) (K : K2 S0 S) (hX16 : ∀ (u0 : Nat) (u1 : Int32) (u2 : Int32) (u3 : Int32) (u4 : Int32) (u5 : Int32) (u6 : HS), X16 u0 u1 u2 u3 u4 u5 u6 → K2 S0 u6 → X16_2 u0 u1 u2 u3 u4 u5 u6) : P_X11_fitOf_31 (fun r T => Q r T ∧ K2 S0 T) X16_2 v0 v1 v2 v3 v4 v5 v6 S := h (fun v0 v1 v2 v3 v4 v5 v6 S => K2 S0 S → P_X11_fitOf_31 (fun r T => Q r T ∧ K2 S0 T) X16_2 v0 v1 v2 v3 v4 v5 v6 S) (fun v0 v1 v2 v3 v4 v5 v6 S hB K => fd_X11_fitOf_31 (kfB_X11_fitOf_31 hB K hX16 (fun _ _ _ _ _ _ _ _ hx K => hx K))) K
set_option maxRecDepth 20000 in
set_option maxHeartbeats 1000000 in
theorem kfB_X11_fitOf_16 {Q : Int32 → HS → Prop} {X16 X16_2 : Nat → Int32 → Int32 → Int32 → Int32 → Int32 → HS → Prop} {v0 : Nat} {v1 : Int32} {v2 : Int32} {v3 : Int32} {v4 : Int32} {v5 : Int32} {S0 S : HS} (h : B_X11_fitOf_16 Q X16 v0 v1 v2 v3 v4 v5 S) (K : K2 S0 S) (hX16 : ∀ (u0 : Nat) (u1 : Int32) (u2 : Int32) (u3 : Int32) (u4 : Int32) (u5 : Int32) (u6 : HS), X16 u0 u1 u2 u3 u4 u5 u6 → K2 S0 u6 → X16_2 u0 u1 u2 u3 u4 u5 u6) : B_X11_fitOf_16 (fun r T => Q r T ∧ K2 S0 T) X16_2 v0 v1 v2 v3 v4 v5 S := by
  delta B_X11_fitOf_16 at h ⊢
  obtain ⟨c1, h⟩ := h
  refine ⟨c1, ?_⟩
  have n2 := k2_ne K c1 (by decide)
  obtain ⟨b3, e4, h⟩ := h
  refine ⟨b3, e4, ?_⟩
  obtain ⟨c5, h⟩ := h
  refine ⟨c5, ?_⟩
  have n6 := k2_ne K c5 (by decide)
  intro x8 e7
  have h := h x8 e7
  refine ⟨?_, ?_⟩
  · intro c9
    have h := h.1 c9
    refine ⟨?_, ?_⟩
    · intro c10
      have h := h.1 c10
      exact ⟨h, K⟩
    · intro c11
      have h := h.2 c11
      exact ⟨h, K⟩
  · intro c12
    have h := h.2 c12
    exact kf_X11_fitOf_31 h K hX16
theorem kf_X11_fitOf_16 {Q : Int32 → HS → Prop} {v0 : Nat} {v1 : Int32} {v2 : Int32} {v3 : Int32} {v4 : Int32} {v5 : Int32} {S0 S : HS} (h : P_X11_fitOf_16 Q v0 v1 v2 v3 v4 v5 S) (K : K2 S0 S) : P_X11_fitOf_16 (fun r T => Q r T ∧ K2 S0 T) v0 v1 v2 v3 v4 v5 S := h (fun v0 v1 v2 v3 v4 v5 S => K2 S0 S → P_X11_fitOf_16 (fun r T => Q r T ∧ K2 S0 T) v0 v1 v2 v3 v4 v5 S) (fun v0 v1 v2 v3 v4 v5 S hB K => fd_X11_fitOf_16 (kfB_X11_fitOf_16 hB K (fun _ _ _ _ _ _ _ hx K => hx K))) K
set_option maxRecDepth 20000 in
set_option maxHeartbeats 1000000 in
theorem kf_X11_fitOf_0 {Q : Int32 → HS → Prop} {v0 : Nat} {v1 : Int32} {v2 : Int32} {S0 S : HS} (h : P_X11_fitOf_0 Q v0 v1 v2 S) (K : K2 S0 S) : P_X11_fitOf_0 (fun r T => Q r T ∧ K2 S0 T) v0 v1 v2 S := by
  delta P_X11_fitOf_0 at h ⊢
  obtain ⟨c1, h⟩ := h
  refine ⟨c1, ?_⟩
  have n2 := k2_ne K c1 (by decide)
  obtain ⟨b3, e4, h⟩ := h
  refine ⟨b3, e4, ?_⟩
  obtain ⟨c5, h⟩ := h
  refine ⟨c5, ?_⟩
  have n6 := k2_ne K c5 (by decide)
  obtain ⟨b7, e8, h⟩ := h
  refine ⟨b7, e8, ?_⟩
  obtain ⟨c9, h⟩ := h
  refine ⟨c9, ?_⟩
  have n10 := k2_ne K c9 (by decide)
  obtain ⟨c11, h⟩ := h
  refine ⟨c11, ?_⟩
  intro x13 e12
  have h := h x13 e12
  exact kf_X11_fitOf_16 h K
theorem kf_X11_fitOf {Q : Int32 → HS → Prop} {v0 : Nat} {v1 : Int32} {v2 : Int32} {S : HS} (h : P_X11_fitOf v0 v1 v2 Q S) : P_X11_fitOf v0 v1 v2 (fun r T => Q r T ∧ K2 S T) S := kf_X11_fitOf_0 h (k2_rf S)
end
