set_option maxRecDepth 20000 in
set_option maxHeartbeats 1000000 in
theorem cm_X9_grant_0 {Q1 Q2 Q3 : Int32 → HS → Prop} {v0 : Nat} {v1 : Int32} {S : HS} (h1 : P_X9_grant_0 Q1 v0 v1 S) (h2 : P_X9_grant_0 Q2 v0 v1 S) (hq : ∀ (r : Int32) (T : HS), Q1 r T → Q2 r T → Q3 r T) : P_X9_grant_0 Q3 v0 v1 S := by
  delta P_X9_grant_0 at h1 h2 ⊢
  obtain ⟨c1, h1⟩ := h1
  obtain ⟨_, h2⟩ := h2
  refine ⟨c1, ?_⟩
  intro x3 e2
  have h1 := h1 x3 e2
  have h2 := h2 x3 e2
  exact hq _ _ h1 h2
theorem cm_X9_grant {Q1 Q2 Q3 : Int32 → HS → Prop} {v0 : Nat} {v1 : Int32} {S : HS} (h1 : P_X9_grant v0 v1 Q1 S) (h2 : P_X9_grant v0 v1 Q2 S) (hq : ∀ (r : Int32) (T : HS), Q1 r T → Q2 r T → Q3 r T) : P_X9_grant v0 v1 Q3 S := cm_X9_grant_0 h1 h2 hq
set_option maxRecDepth 20000 in
set_option maxHeartbeats 1000000 in
theorem cm_X9_isWay_0 {Q1 Q2 Q3 : Int32 → HS → Prop} {v0 : Int32} {S : HS} (h1 : P_X9_isWay_0 Q1 v0 S) (h2 : P_X9_isWay_0 Q2 v0 S) (hq : ∀ (r : Int32) (T : HS), Q1 r T → Q2 r T → Q3 r T) : P_X9_isWay_0 Q3 v0 S := by
  delta P_X9_isWay_0 at h1 h2 ⊢
  refine ⟨?_, ?_⟩
  · intro c1
    have h1 := h1.1 c1
    have h2 := h2.1 c1
    exact hq _ _ h1 h2
  · intro c2
    have h1 := h1.2 c2
    have h2 := h2.2 c2
    refine ⟨?_, ?_⟩
    · intro c3
      have h1 := h1.1 c3
      have h2 := h2.1 c3
      exact hq _ _ h1 h2
    · intro c4
      have h1 := h1.2 c4
      have h2 := h2.2 c4
      exact hq _ _ h1 h2
theorem cm_X9_isWay {Q1 Q2 Q3 : Int32 → HS → Prop} {v0 : Int32} {S : HS} (h1 : P_X9_isWay v0 Q1 S) (h2 : P_X9_isWay v0 Q2 S) (hq : ∀ (r : Int32) (T : HS), Q1 r T → Q2 r T → Q3 r T) : P_X9_isWay v0 Q3 S := cm_X9_isWay_0 h1 h2 hq
set_option maxRecDepth 20000 in
set_option maxHeartbeats 1000000 in
theorem cm_X9_air_0 {Q1 Q2 Q3 : Int32 → HS → Prop} {v0 : Nat} {v1 : Int32} {v2 : Int32} {v3 : Int32} {S : HS} (h1 : P_X9_air_0 Q1 v0 v1 v2 v3 S) (h2 : P_X9_air_0 Q2 v0 v1 v2 v3 S) (hq : ∀ (r : Int32) (T : HS), Q1 r T → Q2 r T → Q3 r T) : P_X9_air_0 Q3 v0 v1 v2 v3 S := by
  delta P_X9_air_0 at h1 h2 ⊢
  obtain ⟨c1, h1⟩ := h1
  obtain ⟨_, h2⟩ := h2
  refine ⟨c1, ?_⟩
  obtain ⟨b2, e3, h1⟩ := h1
  obtain ⟨b4, e5, h2⟩ := h2
  cases e3.symm.trans e5
  refine ⟨b2, e3, ?_⟩
  obtain ⟨c6, h1⟩ := h1
  obtain ⟨_, h2⟩ := h2
  refine ⟨c6, ?_⟩
  refine cm_X8_hasRoad h1 h2 (fun x7 x8 h1 h2 g9 g10 => ?_)
  have h1 := h1 g9 g10
  have h2 := h2 g9 g10
  refine ⟨?_, ?_⟩
  · intro c11
    have h1 := h1.1 c11
    have h2 := h2.1 c11
    intro x13 e12
    have h1 := h1 x13 e12
    have h2 := h2 x13 e12
    exact hq _ _ h1 h2
  · intro c14
    have h1 := h1.2 c14
    have h2 := h2.2 c14
    refine cm_X9_isWay h1 h2 (fun x15 x16 h1 h2 g17 g18 => ?_)
    have h1 := h1 g17 g18
    have h2 := h2 g17 g18
    refine ⟨?_, ?_⟩
    · intro c19
      have h1 := h1.1 c19
      have h2 := h2.1 c19
      intro x21 e20
      have h1 := h1 x21 e20
      have h2 := h2 x21 e20
      exact hq _ _ h1 h2
    · intro c22
      have h1 := h1.2 c22
      have h2 := h2.2 c22
      obtain ⟨b23, e24, h1⟩ := h1
      obtain ⟨b25, e26, h2⟩ := h2
      cases e24.symm.trans e26
      refine ⟨b23, e24, ?_⟩
      obtain ⟨c27, h1⟩ := h1
      obtain ⟨_, h2⟩ := h2
      refine ⟨c27, ?_⟩
      refine cm_X8_hasHour h1 h2 (fun x28 x29 h1 h2 g30 g31 => ?_)
      have h1 := h1 g30 g31
      have h2 := h2 g30 g31
      refine ⟨?_, ?_⟩
      · intro c32
        have h1 := h1.1 c32
        have h2 := h2.1 c32
        obtain ⟨b33, e34, h1⟩ := h1
        obtain ⟨b35, e36, h2⟩ := h2
        cases e34.symm.trans e36
        refine ⟨b33, e34, ?_⟩
        obtain ⟨c37, h1⟩ := h1
        obtain ⟨_, h2⟩ := h2
        refine ⟨c37, ?_⟩
        obtain ⟨b38, e39, h1⟩ := h1
        obtain ⟨b40, e41, h2⟩ := h2
        cases e39.symm.trans e41
        refine ⟨b38, e39, ?_⟩
        obtain ⟨c42, h1⟩ := h1
        obtain ⟨_, h2⟩ := h2
        refine ⟨c42, ?_⟩
        obtain ⟨c43, h1⟩ := h1
        obtain ⟨_, h2⟩ := h2
        refine ⟨c43, ?_⟩
        obtain ⟨b44, e45, h1⟩ := h1
        obtain ⟨b46, e47, h2⟩ := h2
        cases e45.symm.trans e47
        refine ⟨b44, e45, ?_⟩
        obtain ⟨b48, e49, h1⟩ := h1
        obtain ⟨b50, e51, h2⟩ := h2
        cases e49.symm.trans e51
        refine ⟨b48, e49, ?_⟩
        obtain ⟨c52, h1⟩ := h1
        obtain ⟨_, h2⟩ := h2
        refine ⟨c52, ?_⟩
        obtain ⟨b53, e54, h1⟩ := h1
        obtain ⟨b55, e56, h2⟩ := h2
        cases e54.symm.trans e56
        refine ⟨b53, e54, ?_⟩
        obtain ⟨c57, h1⟩ := h1
        obtain ⟨_, h2⟩ := h2
        refine ⟨c57, ?_⟩
        obtain ⟨c58, h1⟩ := h1
        obtain ⟨_, h2⟩ := h2
        refine ⟨c58, ?_⟩
        obtain ⟨b59, e60, h1⟩ := h1
        obtain ⟨b61, e62, h2⟩ := h2
        cases e60.symm.trans e62
        refine ⟨b59, e60, ?_⟩
        obtain ⟨c63, h1⟩ := h1
        obtain ⟨_, h2⟩ := h2
        refine ⟨c63, ?_⟩
        refine cm_X5_airAlong h1 h2 (fun x64 x65 h1 h2 g66 => ?_)
        have h1 := h1 g66
        have h2 := h2 g66
        refine cm_X9_grant h1 h2 (fun x67 x68 h1 h2 g69 => ?_)
        have h1 := h1 g69
        have h2 := h2 g69
        exact hq _ _ h1 h2
      · intro c70
        have h1 := h1.2 c70
        have h2 := h2.2 c70
        intro x72 e71
        have h1 := h1 x72 e71
        have h2 := h2 x72 e71
        exact hq _ _ h1 h2
theorem cm_X9_air {Q1 Q2 Q3 : Int32 → HS → Prop} {v0 : Nat} {v1 : Int32} {v2 : Int32} {v3 : Int32} {S : HS} (h1 : P_X9_air v0 v1 v2 v3 Q1 S) (h2 : P_X9_air v0 v1 v2 v3 Q2 S) (hq : ∀ (r : Int32) (T : HS), Q1 r T → Q2 r T → Q3 r T) : P_X9_air v0 v1 v2 v3 Q3 S := cm_X9_air_0 h1 h2 hq
set_option maxRecDepth 20000 in
set_option maxHeartbeats 1000000 in
theorem cm_X9_refusedBy_0 {Q1 Q2 Q3 : Int32 → HS → Prop} {v0 : Nat} {v1 : Int32} {S : HS} (h1 : P_X9_refusedBy_0 Q1 v0 v1 S) (h2 : P_X9_refusedBy_0 Q2 v0 v1 S) (hq : ∀ (r : Int32) (T : HS), Q1 r T → Q2 r T → Q3 r T) : P_X9_refusedBy_0 Q3 v0 v1 S := by
  delta P_X9_refusedBy_0 at h1 h2 ⊢
  obtain ⟨c1, h1⟩ := h1
  obtain ⟨_, h2⟩ := h2
  refine ⟨c1, ?_⟩
  intro x3 e2
  have h1 := h1 x3 e2
  have h2 := h2 x3 e2
  refine ⟨?_, ?_⟩
  · intro c4
    have h1 := h1.1 c4
    have h2 := h2.1 c4
    exact hq _ _ h1 h2
  · intro c5
    have h1 := h1.2 c5
    have h2 := h2.2 c5
    exact hq _ _ h1 h2
theorem cm_X9_refusedBy {Q1 Q2 Q3 : Int32 → HS → Prop} {v0 : Nat} {v1 : Int32} {S : HS} (h1 : P_X9_refusedBy v0 v1 Q1 S) (h2 : P_X9_refusedBy v0 v1 Q2 S) (hq : ∀ (r : Int32) (T : HS), Q1 r T → Q2 r T → Q3 r T) : P_X9_refusedBy v0 v1 Q3 S := cm_X9_refusedBy_0 h1 h2 hq
set_option maxRecDepth 20000 in
set_option maxHeartbeats 1000000 in
theorem cm_X9_back_17 {Q1 Q2 Q3 : Int32 → HS → Prop} {s0 : Nat} {s1 : Int32} {S : HS} (h1 : P_X9_back_17 Q1 s0 s1 S) (h2 : P_X9_back_17 Q2 s0 s1 S) (hq : ∀ (r : Int32) (T : HS), Q1 r T → Q2 r T → Q3 r T) : P_X9_back_17 Q3 s0 s1 S := by
  delta P_X9_back_17 at h1 h2 ⊢
  obtain ⟨c1, h1⟩ := h1
  obtain ⟨_, h2⟩ := h2
  refine ⟨c1, ?_⟩
  refine cm_X9_refusedBy h1 h2 (fun x2 x3 h1 h2 g4 g5 => ?_)
  have h1 := h1 g4 g5
  have h2 := h2 g4 g5
  refine ⟨?_, ?_⟩
  · intro c6
    have h1 := h1.1 c6
    have h2 := h2.1 c6
    exact hq _ _ h1 h2
  · intro c7
    have h1 := h1.2 c7
    have h2 := h2.2 c7
    exact hq _ _ h1 h2
set_option maxRecDepth 20000 in
set_option maxHeartbeats 1000000 in
theorem cm_X9_back_0 {Q1 Q2 Q3 : Int32 → HS → Prop} {v0 : Nat} {v1 : Int32} {S : HS} (h1 : P_X9_back_0 Q1 v0 v1 S) (h2 : P_X9_back_0 Q2 v0 v1 S) (hq : ∀ (r : Int32) (T : HS), Q1 r T → Q2 r T → Q3 r T) : P_X9_back_0 Q3 v0 v1 S := by
  delta P_X9_back_0 at h1 h2 ⊢
  obtain ⟨c1, h1⟩ := h1
  obtain ⟨_, h2⟩ := h2
  refine ⟨c1, ?_⟩
  obtain ⟨b2, e3, h1⟩ := h1
  obtain ⟨b4, e5, h2⟩ := h2
  cases e3.symm.trans e5
  refine ⟨b2, e3, ?_⟩
  obtain ⟨c6, h1⟩ := h1
  obtain ⟨_, h2⟩ := h2
  refine ⟨c6, ?_⟩
  refine cm_X0_returnTo h1 h2 (fun x7 x8 h1 h2 g9 g10 => ?_)
  have h1 := h1 g9 g10
  have h2 := h2 g9 g10
  refine ⟨?_, ?_⟩
  · intro c11
    have h1 := h1.1 c11
    have h2 := h2.1 c11
    exact cm_X9_back_17 h1 h2 hq
  · intro c12
    have h1 := h1.2 c12
    have h2 := h2.2 c12
    exact cm_X9_back_17 h1 h2 hq
theorem cm_X9_back {Q1 Q2 Q3 : Int32 → HS → Prop} {v0 : Nat} {v1 : Int32} {S : HS} (h1 : P_X9_back v0 v1 Q1 S) (h2 : P_X9_back v0 v1 Q2 S) (hq : ∀ (r : Int32) (T : HS), Q1 r T → Q2 r T → Q3 r T) : P_X9_back v0 v1 Q3 S := cm_X9_back_0 h1 h2 hq
set_option maxRecDepth 20000 in
set_option maxHeartbeats 1000000 in
theorem cm_X9_tripTrouble_46 {Q1 Q2 Q3 : Int32 → HS → Prop} {s0 : Int32} {S : HS} (h1 : P_X9_tripTrouble_46 Q1 s0 S) (h2 : P_X9_tripTrouble_46 Q2 s0 S) (hq : ∀ (r : Int32) (T : HS), Q1 r T → Q2 r T → Q3 r T) : P_X9_tripTrouble_46 Q3 s0 S := by
  delta P_X9_tripTrouble_46 at h1 h2 ⊢
  refine ⟨?_, ?_⟩
  · intro c1
    have h1 := h1.1 c1
    have h2 := h2.1 c1
    exact hq _ _ h1 h2
  · intro c2
    have h1 := h1.2 c2
    have h2 := h2.2 c2
    exact hq _ _ h1 h2
set_option maxRecDepth 20000 in
set_option maxHeartbeats 1000000 in
theorem cm_X9_tripTrouble_45 {Q1 Q2 Q3 : Int32 → HS → Prop} {S : HS} (h1 : P_X9_tripTrouble_45 Q1 S) (h2 : P_X9_tripTrouble_45 Q2 S) (hq : ∀ (r : Int32) (T : HS), Q1 r T → Q2 r T → Q3 r T) : P_X9_tripTrouble_45 Q3 S := by
  delta P_X9_tripTrouble_45 at h1 h2 ⊢
  exact cm_X9_tripTrouble_46 h1 h2 hq
set_option maxRecDepth 20000 in
set_option maxHeartbeats 1000000 in
theorem cm_X9_tripTrouble_0 {Q1 Q2 Q3 : Int32 → HS → Prop} {v0 : Nat} {v1 : Int32} {v2 : Int32} {v3 : Int32} {v4 : Int32} {S : HS} (h1 : P_X9_tripTrouble_0 Q1 v0 v1 v2 v3 v4 S) (h2 : P_X9_tripTrouble_0 Q2 v0 v1 v2 v3 v4 S) (hq : ∀ (r : Int32) (T : HS), Q1 r T → Q2 r T → Q3 r T) : P_X9_tripTrouble_0 Q3 v0 v1 v2 v3 v4 S := by
  delta P_X9_tripTrouble_0 at h1 h2 ⊢
  obtain ⟨c1, h1⟩ := h1
  obtain ⟨_, h2⟩ := h2
  refine ⟨c1, ?_⟩
  obtain ⟨b2, e3, h1⟩ := h1
  obtain ⟨b4, e5, h2⟩ := h2
  cases e3.symm.trans e5
  refine ⟨b2, e3, ?_⟩
  obtain ⟨c6, h1⟩ := h1
  obtain ⟨_, h2⟩ := h2
  refine ⟨c6, ?_⟩
  refine cm_X8_hasWalker h1 h2 (fun x7 x8 h1 h2 g9 g10 => ?_)
  have h1 := h1 g9 g10
  have h2 := h2 g9 g10
  refine ⟨?_, ?_⟩
  · intro c11
    have h1 := h1.1 c11
    have h2 := h2.1 c11
    exact cm_X9_tripTrouble_45 h1 h2 hq
  · intro c12
    have h1 := h1.2 c12
    have h2 := h2.2 c12
    obtain ⟨b13, e14, h1⟩ := h1
    obtain ⟨b15, e16, h2⟩ := h2
    cases e14.symm.trans e16
    refine ⟨b13, e14, ?_⟩
    obtain ⟨c17, h1⟩ := h1
    obtain ⟨_, h2⟩ := h2
    refine ⟨c17, ?_⟩
    refine cm_X8_hasRoad h1 h2 (fun x18 x19 h1 h2 g20 g21 => ?_)
    have h1 := h1 g20 g21
    have h2 := h2 g20 g21
    refine ⟨?_, ?_⟩
    · intro c22
      have h1 := h1.1 c22
      have h2 := h2.1 c22
      exact cm_X9_tripTrouble_45 h1 h2 hq
    · intro c23
      have h1 := h1.2 c23
      have h2 := h2.2 c23
      refine cm_X9_isWay h1 h2 (fun x24 x25 h1 h2 g26 g27 => ?_)
      have h1 := h1 g26 g27
      have h2 := h2 g26 g27
      refine ⟨?_, ?_⟩
      · intro c28
        have h1 := h1.1 c28
        have h2 := h2.1 c28
        exact cm_X9_tripTrouble_45 h1 h2 hq
      · intro c29
        have h1 := h1.2 c29
        have h2 := h2.2 c29
        obtain ⟨b30, e31, h1⟩ := h1
        obtain ⟨b32, e33, h2⟩ := h2
        cases e31.symm.trans e33
        refine ⟨b30, e31, ?_⟩
        obtain ⟨c34, h1⟩ := h1
        obtain ⟨_, h2⟩ := h2
        refine ⟨c34, ?_⟩
        refine cm_X8_hasHour h1 h2 (fun x35 x36 h1 h2 g37 g38 => ?_)
        have h1 := h1 g37 g38
        have h2 := h2 g37 g38
        refine ⟨?_, ?_⟩
        · intro c39
          have h1 := h1.1 c39
          have h2 := h2.1 c39
          exact cm_X9_tripTrouble_45 h1 h2 hq
        · intro c40
          have h1 := h1.2 c40
          have h2 := h2.2 c40
          exact cm_X9_tripTrouble_46 h1 h2 hq
theorem cm_X9_tripTrouble {Q1 Q2 Q3 : Int32 → HS → Prop} {v0 : Nat} {v1 : Int32} {v2 : Int32} {v3 : Int32} {v4 : Int32} {S : HS} (h1 : P_X9_tripTrouble v0 v1 v2 v3 v4 Q1 S) (h2 : P_X9_tripTrouble v0 v1 v2 v3 v4 Q2 S) (hq : ∀ (r : Int32) (T : HS), Q1 r T → Q2 r T → Q3 r T) : P_X9_tripTrouble v0 v1 v2 v3 v4 Q3 S := cm_X9_tripTrouble_0 h1 h2 hq
set_option maxRecDepth 20000 in
set_option maxHeartbeats 1000000 in
theorem cm_X9_best_0 {Q1 Q2 Q3 : Int32 → HS → Prop} {v0 : Nat} {v1 : Int32} {v2 : Int32} {v3 : Int32} {v4 : Int32} {S : HS} (h1 : P_X9_best_0 Q1 v0 v1 v2 v3 v4 S) (h2 : P_X9_best_0 Q2 v0 v1 v2 v3 v4 S) (hq : ∀ (r : Int32) (T : HS), Q1 r T → Q2 r T → Q3 r T) : P_X9_best_0 Q3 v0 v1 v2 v3 v4 S := by
  delta P_X9_best_0 at h1 h2 ⊢
  obtain ⟨c1, h1⟩ := h1
  obtain ⟨_, h2⟩ := h2
  refine ⟨c1, ?_⟩
  refine cm_X9_tripTrouble h1 h2 (fun x2 x3 h1 h2 g4 => ?_)
  have h1 := h1 g4
  have h2 := h2 g4
  refine cm_X9_refusedBy h1 h2 (fun x5 x6 h1 h2 g7 g8 => ?_)
  have h1 := h1 g7 g8
  have h2 := h2 g7 g8
  refine ⟨?_, ?_⟩
  · intro c9
    have h1 := h1.1 c9
    have h2 := h2.1 c9
    obtain ⟨b10, e11, h1⟩ := h1
    obtain ⟨b12, e13, h2⟩ := h2
    cases e11.symm.trans e13
    refine ⟨b10, e11, ?_⟩
    obtain ⟨b14, e15, h1⟩ := h1
    obtain ⟨b16, e17, h2⟩ := h2
    cases e15.symm.trans e17
    refine ⟨b14, e15, ?_⟩
    obtain ⟨c18, h1⟩ := h1
    obtain ⟨_, h2⟩ := h2
    refine ⟨c18, ?_⟩
    obtain ⟨b19, e20, h1⟩ := h1
    obtain ⟨b21, e22, h2⟩ := h2
    cases e20.symm.trans e22
    refine ⟨b19, e20, ?_⟩
    obtain ⟨c23, h1⟩ := h1
    obtain ⟨_, h2⟩ := h2
    refine ⟨c23, ?_⟩
    obtain ⟨c24, h1⟩ := h1
    obtain ⟨_, h2⟩ := h2
    refine ⟨c24, ?_⟩
    obtain ⟨b25, e26, h1⟩ := h1
    obtain ⟨b27, e28, h2⟩ := h2
    cases e26.symm.trans e28
    refine ⟨b25, e26, ?_⟩
    obtain ⟨b29, e30, h1⟩ := h1
    obtain ⟨b31, e32, h2⟩ := h2
    cases e30.symm.trans e32
    refine ⟨b29, e30, ?_⟩
    obtain ⟨c33, h1⟩ := h1
    obtain ⟨_, h2⟩ := h2
    refine ⟨c33, ?_⟩
    obtain ⟨b34, e35, h1⟩ := h1
    obtain ⟨b36, e37, h2⟩ := h2
    cases e35.symm.trans e37
    refine ⟨b34, e35, ?_⟩
    obtain ⟨c38, h1⟩ := h1
    obtain ⟨_, h2⟩ := h2
    refine ⟨c38, ?_⟩
    obtain ⟨c39, h1⟩ := h1
    obtain ⟨_, h2⟩ := h2
    refine ⟨c39, ?_⟩
    obtain ⟨b40, e41, h1⟩ := h1
    obtain ⟨b42, e43, h2⟩ := h2
    cases e41.symm.trans e43
    refine ⟨b40, e41, ?_⟩
    obtain ⟨b44, e45, h1⟩ := h1
    obtain ⟨b46, e47, h2⟩ := h2
    cases e45.symm.trans e47
    refine ⟨b44, e45, ?_⟩
    obtain ⟨c48, h1⟩ := h1
    obtain ⟨_, h2⟩ := h2
    refine ⟨c48, ?_⟩
    obtain ⟨b49, e50, h1⟩ := h1
    obtain ⟨b51, e52, h2⟩ := h2
    cases e50.symm.trans e52
    refine ⟨b49, e50, ?_⟩
    obtain ⟨c53, h1⟩ := h1
    obtain ⟨_, h2⟩ := h2
    refine ⟨c53, ?_⟩
    obtain ⟨c54, h1⟩ := h1
    obtain ⟨_, h2⟩ := h2
    refine ⟨c54, ?_⟩
    obtain ⟨b55, e56, h1⟩ := h1
    obtain ⟨b57, e58, h2⟩ := h2
    cases e56.symm.trans e58
    refine ⟨b55, e56, ?_⟩
    obtain ⟨c59, h1⟩ := h1
    obtain ⟨_, h2⟩ := h2
    refine ⟨c59, ?_⟩
    refine cm_X1_bestSpeed h1 h2 (fun x60 x61 h1 h2 g62 => ?_)
    have h1 := h1 g62
    have h2 := h2 g62
    exact hq _ _ h1 h2
  · intro c63
    have h1 := h1.2 c63
    have h2 := h2.2 c63
    exact hq _ _ h1 h2
theorem cm_X9_best {Q1 Q2 Q3 : Int32 → HS → Prop} {v0 : Nat} {v1 : Int32} {v2 : Int32} {v3 : Int32} {v4 : Int32} {S : HS} (h1 : P_X9_best v0 v1 v2 v3 v4 Q1 S) (h2 : P_X9_best v0 v1 v2 v3 v4 Q2 S) (hq : ∀ (r : Int32) (T : HS), Q1 r T → Q2 r T → Q3 r T) : P_X9_best v0 v1 v2 v3 v4 Q3 S := cm_X9_best_0 h1 h2 hq
set_option maxRecDepth 20000 in
set_option maxHeartbeats 1000000 in
theorem cm_X9_coatParts_0 {Q1 Q2 Q3 : Int64 → HS → Prop} {v0 : Nat} {S : HS} (h1 : P_X9_coatParts_0 Q1 v0 S) (h2 : P_X9_coatParts_0 Q2 v0 S) (hq : ∀ (r : Int64) (T : HS), Q1 r T → Q2 r T → Q3 r T) : P_X9_coatParts_0 Q3 v0 S := by
  delta P_X9_coatParts_0 at h1 h2 ⊢
  obtain ⟨c1, h1⟩ := h1
  obtain ⟨_, h2⟩ := h2
  refine ⟨c1, ?_⟩
  intro x3 e2
  have h1 := h1 x3 e2
  have h2 := h2 x3 e2
  refine ⟨?_, ?_⟩
  · intro c4
    have h1 := h1.1 c4
    have h2 := h2.1 c4
    exact hq _ _ h1 h2
  · intro c5
    have h1 := h1.2 c5
    have h2 := h2.2 c5
    intro x7 e6
    have h1 := h1 x7 e6
    have h2 := h2 x7 e6
    exact hq _ _ h1 h2
theorem cm_X9_coatParts {Q1 Q2 Q3 : Int64 → HS → Prop} {v0 : Nat} {S : HS} (h1 : P_X9_coatParts v0 Q1 S) (h2 : P_X9_coatParts v0 Q2 S) (hq : ∀ (r : Int64) (T : HS), Q1 r T → Q2 r T → Q3 r T) : P_X9_coatParts v0 Q3 S := cm_X9_coatParts_0 h1 h2 hq
set_option maxRecDepth 20000 in
set_option maxHeartbeats 1000000 in
theorem cmB_X9_commonDivisor_9 {Q1 Q2 Q3 : Int64 → HS → Prop} {X9_1 X9_2 X9_3 : Int64 → Int64 → Int32 → HS → Prop} {v4 : Int64} {v6 : Int64} {v8 : Int32} {S : HS} (h1 : B_X9_commonDivisor_9 Q1 X9_1 v4 v6 v8 S) (h2 : B_X9_commonDivisor_9 Q2 X9_2 v4 v6 v8 S) (hq : ∀ (r : Int64) (T : HS), Q1 r T → Q2 r T → Q3 r T) (hX9 : ∀ (u0 : Int64) (u1 : Int64) (u2 : Int32) (u3 : HS), X9_1 u0 u1 u2 u3 → X9_2 u0 u1 u2 u3 → X9_3 u0 u1 u2 u3) : B_X9_commonDivisor_9 Q3 X9_3 v4 v6 v8 S := by
  delta B_X9_commonDivisor_9 at h1 h2 ⊢
  refine ⟨?_, ?_⟩
  · intro c1
    have h1 := h1.1 c1
    have h2 := h2.1 c1
    exact hq _ _ h1 h2
  · intro c2
    have h1 := h1.2 c2
    have h2 := h2.2 c2
    refine ⟨?_, ?_⟩
    · intro c3
      have h1 := h1.1 c3
      have h2 := h2.1 c3
      exact hq _ _ h1 h2
    · intro c4
      have h1 := h1.2 c4
      have h2 := h2.2 c4
      obtain ⟨c5, h1⟩ := h1
      obtain ⟨_, h2⟩ := h2
      refine ⟨c5, ?_⟩
      intro x7 e6
      have h1 := h1 x7 e6
      have h2 := h2 x7 e6
      intro x9 e8
      have h1 := h1 x9 e8
      have h2 := h2 x9 e8
      exact hX9 _ _ _ _ h1 h2
theorem fd_X9_commonDivisor_9 {Q : Int64 → HS → Prop} {v4 : Int64} {v6 : Int64} {v8 : Int32} {S : HS} (h : B_X9_commonDivisor_9 Q (P_X9_commonDivisor_9 Q) v4 v6 v8 S) : P_X9_commonDivisor_9 Q v4 v6 v8 S := fun X hX => hX v4 v6 v8 S (cmB_X9_commonDivisor_9 h h (fun _ _ a _ => a) (fun _ _ _ _ hp _ => hp X hX))
theorem uf_X9_commonDivisor_9 {Q : Int64 → HS → Prop} {v4 : Int64} {v6 : Int64} {v8 : Int32} {S : HS} (h : P_X9_commonDivisor_9 Q v4 v6 v8 S) : B_X9_commonDivisor_9 Q (P_X9_commonDivisor_9 Q) v4 v6 v8 S := h (fun v4 v6 v8 S => B_X9_commonDivisor_9 Q (P_X9_commonDivisor_9 Q) v4 v6 v8 S) (fun v4 v6 v8 S hB => cmB_X9_commonDivisor_9 hB hB (fun _ _ a _ => a) (fun _ _ _ _ hb _ => fd_X9_commonDivisor_9 hb))
theorem cm_X9_commonDivisor_9 {Q1 Q2 Q3 : Int64 → HS → Prop} {v4 : Int64} {v6 : Int64} {v8 : Int32} {S : HS} (h1 : P_X9_commonDivisor_9 Q1 v4 v6 v8 S) (h2 : P_X9_commonDivisor_9 Q2 v4 v6 v8 S) (hq : ∀ (r : Int64) (T : HS), Q1 r T → Q2 r T → Q3 r T) : P_X9_commonDivisor_9 Q3 v4 v6 v8 S := h1 (fun v4 v6 v8 S => P_X9_commonDivisor_9 Q2 v4 v6 v8 S → P_X9_commonDivisor_9 Q3 v4 v6 v8 S) (fun v4 v6 v8 S hB hp => fd_X9_commonDivisor_9 (cmB_X9_commonDivisor_9 hB (uf_X9_commonDivisor_9 hp) hq (fun _ _ _ _ hx hp => hx hp))) h2
set_option maxRecDepth 20000 in
set_option maxHeartbeats 1000000 in
theorem cm_X9_commonDivisor_0 {Q1 Q2 Q3 : Int64 → HS → Prop} {v0 : Int64} {v2 : Int64} {S : HS} (h1 : P_X9_commonDivisor_0 Q1 v0 v2 S) (h2 : P_X9_commonDivisor_0 Q2 v0 v2 S) (hq : ∀ (r : Int64) (T : HS), Q1 r T → Q2 r T → Q3 r T) : P_X9_commonDivisor_0 Q3 v0 v2 S := by
  delta P_X9_commonDivisor_0 at h1 h2 ⊢
  exact cm_X9_commonDivisor_9 h1 h2 hq
theorem cm_X9_commonDivisor {Q1 Q2 Q3 : Int64 → HS → Prop} {v0 : Int64} {v2 : Int64} {S : HS} (h1 : P_X9_commonDivisor v0 v2 Q1 S) (h2 : P_X9_commonDivisor v0 v2 Q2 S) (hq : ∀ (r : Int64) (T : HS), Q1 r T → Q2 r T → Q3 r T) : P_X9_commonDivisor v0 v2 Q3 S := cm_X9_commonDivisor_0 h1 h2 hq
set_option maxRecDepth 20000 in
set_option maxHeartbeats 1000000 in
theorem cm_X9_refuse_0 {Q1 Q2 Q3 : Int32 → HS → Prop} {v0 : Nat} {v1 : Int32} {S : HS} (h1 : P_X9_refuse_0 Q1 v0 v1 S) (h2 : P_X9_refuse_0 Q2 v0 v1 S) (hq : ∀ (r : Int32) (T : HS), Q1 r T → Q2 r T → Q3 r T) : P_X9_refuse_0 Q3 v0 v1 S := by
  delta P_X9_refuse_0 at h1 h2 ⊢
  obtain ⟨c1, h1⟩ := h1
  obtain ⟨_, h2⟩ := h2
  refine ⟨c1, ?_⟩
  intro x3 e2
  have h1 := h1 x3 e2
  have h2 := h2 x3 e2
  exact hq _ _ h1 h2
theorem cm_X9_refuse {Q1 Q2 Q3 : Int32 → HS → Prop} {v0 : Nat} {v1 : Int32} {S : HS} (h1 : P_X9_refuse v0 v1 Q1 S) (h2 : P_X9_refuse v0 v1 Q2 S) (hq : ∀ (r : Int32) (T : HS), Q1 r T → Q2 r T → Q3 r T) : P_X9_refuse v0 v1 Q3 S := cm_X9_refuse_0 h1 h2 hq
set_option maxRecDepth 20000 in
set_option maxHeartbeats 1000000 in
theorem cm_X9_day_22 {Q1 Q2 Q3 : Int32 → HS → Prop} {v0 : Nat} {S : HS} (h1 : P_X9_day_22 Q1 v0 S) (h2 : P_X9_day_22 Q2 v0 S) (hq : ∀ (r : Int32) (T : HS), Q1 r T → Q2 r T → Q3 r T) : P_X9_day_22 Q3 v0 S := by
  delta P_X9_day_22 at h1 h2 ⊢
  obtain ⟨c1, h1⟩ := h1
  obtain ⟨_, h2⟩ := h2
  refine ⟨c1, ?_⟩
  refine cm_X9_refuse h1 h2 (fun x2 x3 h1 h2 g4 => ?_)
  have h1 := h1 g4
  have h2 := h2 g4
  exact hq _ _ h1 h2
set_option maxRecDepth 20000 in
set_option maxHeartbeats 1000000 in
theorem cm_X9_day_52 {Q1 Q2 Q3 : Int32 → HS → Prop} {v0 : Nat} {S : HS} (h1 : P_X9_day_52 Q1 v0 S) (h2 : P_X9_day_52 Q2 v0 S) (hq : ∀ (r : Int32) (T : HS), Q1 r T → Q2 r T → Q3 r T) : P_X9_day_52 Q3 v0 S := by
  delta P_X9_day_52 at h1 h2 ⊢
  obtain ⟨c1, h1⟩ := h1
  obtain ⟨_, h2⟩ := h2
  refine ⟨c1, ?_⟩
  refine cm_X9_refuse h1 h2 (fun x2 x3 h1 h2 g4 => ?_)
  have h1 := h1 g4
  have h2 := h2 g4
  exact hq _ _ h1 h2
set_option maxRecDepth 20000 in
set_option maxHeartbeats 1000000 in
theorem cm_X9_day_0 {Q1 Q2 Q3 : Int32 → HS → Prop} {v0 : Nat} {v1 : Int32} {v2 : Int32} {v3 : Int32} {v4 : Int32} {S : HS} (h1 : P_X9_day_0 Q1 v0 v1 v2 v3 v4 S) (h2 : P_X9_day_0 Q2 v0 v1 v2 v3 v4 S) (hq : ∀ (r : Int32) (T : HS), Q1 r T → Q2 r T → Q3 r T) : P_X9_day_0 Q3 v0 v1 v2 v3 v4 S := by
  delta P_X9_day_0 at h1 h2 ⊢
  obtain ⟨c1, h1⟩ := h1
  obtain ⟨_, h2⟩ := h2
  refine ⟨c1, ?_⟩
  obtain ⟨b2, e3, h1⟩ := h1
  obtain ⟨b4, e5, h2⟩ := h2
  cases e3.symm.trans e5
  refine ⟨b2, e3, ?_⟩
  obtain ⟨c6, h1⟩ := h1
  obtain ⟨_, h2⟩ := h2
  refine ⟨c6, ?_⟩
  refine cm_X8_hasWalker h1 h2 (fun x7 x8 h1 h2 g9 g10 => ?_)
  have h1 := h1 g9 g10
  have h2 := h2 g9 g10
  refine ⟨?_, ?_⟩
  · intro c11
    have h1 := h1.1 c11
    have h2 := h2.1 c11
    exact cm_X9_day_22 h1 h2 hq
  · intro c12
    have h1 := h1.2 c12
    have h2 := h2.2 c12
    obtain ⟨b13, e14, h1⟩ := h1
    obtain ⟨b15, e16, h2⟩ := h2
    cases e14.symm.trans e16
    refine ⟨b13, e14, ?_⟩
    obtain ⟨c17, h1⟩ := h1
    obtain ⟨_, h2⟩ := h2
    refine ⟨c17, ?_⟩
    refine cm_X8_hasPlace h1 h2 (fun x18 x19 h1 h2 g20 g21 => ?_)
    have h1 := h1 g20 g21
    have h2 := h2 g20 g21
    refine ⟨?_, ?_⟩
    · intro c22
      have h1 := h1.1 c22
      have h2 := h2.1 c22
      refine ⟨?_, ?_⟩
      · intro c23
        have h1 := h1.1 c23
        have h2 := h2.1 c23
        exact cm_X9_day_52 h1 h2 hq
      · intro c24
        have h1 := h1.2 c24
        have h2 := h2.2 c24
        refine ⟨?_, ?_⟩
        · intro c25
          have h1 := h1.1 c25
          have h2 := h2.1 c25
          exact cm_X9_day_52 h1 h2 hq
        · intro c26
          have h1 := h1.2 c26
          have h2 := h2.2 c26
          refine ⟨?_, ?_⟩
          · intro c27
            have h1 := h1.1 c27
            have h2 := h2.1 c27
            exact cm_X9_day_52 h1 h2 hq
          · intro c28
            have h1 := h1.2 c28
            have h2 := h2.2 c28
            refine ⟨?_, ?_⟩
            · intro c29
              have h1 := h1.1 c29
              have h2 := h2.1 c29
              obtain ⟨b30, e31, h1⟩ := h1
              obtain ⟨b32, e33, h2⟩ := h2
              cases e31.symm.trans e33
              refine ⟨b30, e31, ?_⟩
              obtain ⟨c34, h1⟩ := h1
              obtain ⟨_, h2⟩ := h2
              refine ⟨c34, ?_⟩
              refine cm_X0_begin h1 h2 (fun x35 h1 h2 g36 => ?_)
              have h1 := h1 g36
              have h2 := h2 g36
              obtain ⟨b37, e38, h1⟩ := h1
              obtain ⟨b39, e40, h2⟩ := h2
              cases e38.symm.trans e40
              refine ⟨b37, e38, ?_⟩
              obtain ⟨b41, e42, h1⟩ := h1
              obtain ⟨b43, e44, h2⟩ := h2
              cases e42.symm.trans e44
              refine ⟨b41, e42, ?_⟩
              obtain ⟨c45, h1⟩ := h1
              obtain ⟨_, h2⟩ := h2
              refine ⟨c45, ?_⟩
              refine cm_X0_draw h1 h2 (fun x46 h1 h2 g47 => ?_)
              have h1 := h1 g47
              have h2 := h2 g47
              obtain ⟨b48, e49, h1⟩ := h1
              obtain ⟨b50, e51, h2⟩ := h2
              cases e49.symm.trans e51
              refine ⟨b48, e49, ?_⟩
              obtain ⟨c52, h1⟩ := h1
              obtain ⟨_, h2⟩ := h2
              refine ⟨c52, ?_⟩
              intro x54 e53
              have h1 := h1 x54 e53
              have h2 := h2 x54 e53
              refine cm_X9_grant h1 h2 (fun x55 x56 h1 h2 g57 => ?_)
              have h1 := h1 g57
              have h2 := h2 g57
              exact hq _ _ h1 h2
            · intro c58
              have h1 := h1.2 c58
              have h2 := h2.2 c58
              exact cm_X9_day_52 h1 h2 hq
    · intro c59
      have h1 := h1.2 c59
      have h2 := h2.2 c59
      exact cm_X9_day_22 h1 h2 hq
theorem cm_X9_day {Q1 Q2 Q3 : Int32 → HS → Prop} {v0 : Nat} {v1 : Int32} {v2 : Int32} {v3 : Int32} {v4 : Int32} {S : HS} (h1 : P_X9_day v0 v1 v2 v3 v4 Q1 S) (h2 : P_X9_day v0 v1 v2 v3 v4 Q2 S) (hq : ∀ (r : Int32) (T : HS), Q1 r T → Q2 r T → Q3 r T) : P_X9_day v0 v1 v2 v3 v4 Q3 S := cm_X9_day_0 h1 h2 hq
set_option maxRecDepth 20000 in
set_option maxHeartbeats 1000000 in
theorem cm_X9_driest_29 {Q1 Q2 Q3 : Int32 → HS → Prop} {v0 : Nat} {S : HS} (h1 : P_X9_driest_29 Q1 v0 S) (h2 : P_X9_driest_29 Q2 v0 S) (hq : ∀ (r : Int32) (T : HS), Q1 r T → Q2 r T → Q3 r T) : P_X9_driest_29 Q3 v0 S := by
  delta P_X9_driest_29 at h1 h2 ⊢
  obtain ⟨c1, h1⟩ := h1
  obtain ⟨_, h2⟩ := h2
  refine ⟨c1, ?_⟩
  refine cm_X9_refuse h1 h2 (fun x2 x3 h1 h2 g4 => ?_)
  have h1 := h1 g4
  have h2 := h2 g4
  exact hq _ _ h1 h2
set_option maxRecDepth 20000 in
set_option maxHeartbeats 1000000 in
theorem cm_X9_driest_140 {Q1 Q2 Q3 : Int32 → HS → Prop} {X63_1 X63_2 X63_3 : Nat → Int32 → Int32 → Int32 → Int32 → Int64 → Int32 → HS → Prop} {v0 : Nat} {v1 : Int32} {v2 : Int32} {v3 : Int32} {v4 : Int32} {v5 : Int64} {v7 : Int32} {S : HS} (h1 : P_X9_driest_140 Q1 X63_1 v0 v1 v2 v3 v4 v5 v7 S) (h2 : P_X9_driest_140 Q2 X63_2 v0 v1 v2 v3 v4 v5 v7 S) (hq : ∀ (r : Int32) (T : HS), Q1 r T → Q2 r T → Q3 r T) (hX63 : ∀ (u0 : Nat) (u1 : Int32) (u2 : Int32) (u3 : Int32) (u4 : Int32) (u5 : Int64) (u6 : Int32) (u7 : HS), X63_1 u0 u1 u2 u3 u4 u5 u6 u7 → X63_2 u0 u1 u2 u3 u4 u5 u6 u7 → X63_3 u0 u1 u2 u3 u4 u5 u6 u7) : P_X9_driest_140 Q3 X63_3 v0 v1 v2 v3 v4 v5 v7 S := by
  delta P_X9_driest_140 at h1 h2 ⊢
  intro x2 e1
  have h1 := h1 x2 e1
  have h2 := h2 x2 e1
  exact hX63 _ _ _ _ _ _ _ _ h1 h2
set_option maxRecDepth 20000 in
set_option maxHeartbeats 1000000 in
theorem cmB_X9_driest_63 {Q1 Q2 Q3 : Int32 → HS → Prop} {X63_1 X63_2 X63_3 : Nat → Int32 → Int32 → Int32 → Int32 → Int64 → Int32 → HS → Prop} {v0 : Nat} {v1 : Int32} {v2 : Int32} {v3 : Int32} {v4 : Int32} {v5 : Int64} {v7 : Int32} {S : HS} (h1 : B_X9_driest_63 Q1 X63_1 v0 v1 v2 v3 v4 v5 v7 S) (h2 : B_X9_driest_63 Q2 X63_2 v0 v1 v2 v3 v4 v5 v7 S) (hq : ∀ (r : Int32) (T : HS), Q1 r T → Q2 r T → Q3 r T) (hX63 : ∀ (u0 : Nat) (u1 : Int32) (u2 : Int32) (u3 : Int32) (u4 : Int32) (u5 : Int64) (u6 : Int32) (u7 : HS), X63_1 u0 u1 u2 u3 u4 u5 u6 u7 → X63_2 u0 u1 u2 u3 u4 u5 u6 u7 → X63_3 u0 u1 u2 u3 u4 u5 u6 u7) : B_X9_driest_63 Q3 X63_3 v0 v1 v2 v3 v4 v5 v7 S := by
  delta B_X9_driest_63 at h1 h2 ⊢
  obtain ⟨c1, h1⟩ := h1
  obtain ⟨_, h2⟩ := h2
  refine ⟨c1, ?_⟩
  obtain ⟨b2, e3, h1⟩ := h1
  obtain ⟨b4, e5, h2⟩ := h2
  cases e3.symm.trans e5
  refine ⟨b2, e3, ?_⟩
  obtain ⟨c6, h1⟩ := h1
  obtain ⟨_, h2⟩ := h2
  refine ⟨c6, ?_⟩
  intro x8 e7
  have h1 := h1 x8 e7
  have h2 := h2 x8 e7
  refine ⟨?_, ?_⟩
  · intro c9
    have h1 := h1.1 c9
    have h2 := h2.1 c9
    refine cm_X9_grant h1 h2 (fun x10 x11 h1 h2 g12 => ?_)
    have h1 := h1 g12
    have h2 := h2 g12
    exact hq _ _ h1 h2
  · intro c13
    have h1 := h1.2 c13
    have h2 := h2.2 c13
    obtain ⟨b14, e15, h1⟩ := h1
    obtain ⟨b16, e17, h2⟩ := h2
    cases e15.symm.trans e17
    refine ⟨b14, e15, ?_⟩
    obtain ⟨c18, h1⟩ := h1
    obtain ⟨_, h2⟩ := h2
    refine ⟨c18, ?_⟩
    obtain ⟨b19, e20, h1⟩ := h1
    obtain ⟨b21, e22, h2⟩ := h2
    cases e20.symm.trans e22
    refine ⟨b19, e20, ?_⟩
    obtain ⟨c23, h1⟩ := h1
    obtain ⟨_, h2⟩ := h2
    refine ⟨c23, ?_⟩
    obtain ⟨c24, h1⟩ := h1
    obtain ⟨_, h2⟩ := h2
    refine ⟨c24, ?_⟩
    obtain ⟨b25, e26, h1⟩ := h1
    obtain ⟨b27, e28, h2⟩ := h2
    cases e26.symm.trans e28
    refine ⟨b25, e26, ?_⟩
    obtain ⟨b29, e30, h1⟩ := h1
    obtain ⟨b31, e32, h2⟩ := h2
    cases e30.symm.trans e32
    refine ⟨b29, e30, ?_⟩
    obtain ⟨b33, e34, h1⟩ := h1
    obtain ⟨b35, e36, h2⟩ := h2
    cases e34.symm.trans e36
    refine ⟨b33, e34, ?_⟩
    obtain ⟨c37, h1⟩ := h1
    obtain ⟨_, h2⟩ := h2
    refine ⟨c37, ?_⟩
    obtain ⟨b38, e39, h1⟩ := h1
    obtain ⟨b40, e41, h2⟩ := h2
    cases e39.symm.trans e41
    refine ⟨b38, e39, ?_⟩
    obtain ⟨c42, h1⟩ := h1
    obtain ⟨_, h2⟩ := h2
    refine ⟨c42, ?_⟩
    obtain ⟨c43, h1⟩ := h1
    obtain ⟨_, h2⟩ := h2
    refine ⟨c43, ?_⟩
    obtain ⟨b44, e45, h1⟩ := h1
    obtain ⟨b46, e47, h2⟩ := h2
    cases e45.symm.trans e47
    refine ⟨b44, e45, ?_⟩
    obtain ⟨b48, e49, h1⟩ := h1
    obtain ⟨b50, e51, h2⟩ := h2
    cases e49.symm.trans e51
    refine ⟨b48, e49, ?_⟩
    obtain ⟨c52, h1⟩ := h1
    obtain ⟨_, h2⟩ := h2
    refine ⟨c52, ?_⟩
    obtain ⟨b53, e54, h1⟩ := h1
    obtain ⟨b55, e56, h2⟩ := h2
    cases e54.symm.trans e56
    refine ⟨b53, e54, ?_⟩
    obtain ⟨c57, h1⟩ := h1
    obtain ⟨_, h2⟩ := h2
    refine ⟨c57, ?_⟩
    obtain ⟨c58, h1⟩ := h1
    obtain ⟨_, h2⟩ := h2
    refine ⟨c58, ?_⟩
    obtain ⟨b59, e60, h1⟩ := h1
    obtain ⟨b61, e62, h2⟩ := h2
    cases e60.symm.trans e62
    refine ⟨b59, e60, ?_⟩
    obtain ⟨c63, h1⟩ := h1
    obtain ⟨_, h2⟩ := h2
    refine ⟨c63, ?_⟩
    refine cm_X1_leastWet h1 h2 (fun x64 x65 h1 h2 g66 => ?_)
    have h1 := h1 g66
    have h2 := h2 g66
    obtain ⟨c67, h1⟩ := h1
    obtain ⟨_, h2⟩ := h2
    refine ⟨c67, ?_⟩
    intro x69 e68
    have h1 := h1 x69 e68
    have h2 := h2 x69 e68
    intro x71 e70
    have h1 := h1 x71 e70
    have h2 := h2 x71 e70
    refine ⟨?_, ?_⟩
    · intro c72
      have h1 := h1.1 c72
      have h2 := h2.1 c72
      exact cm_X9_driest_140 h1 h2 hq hX63
    · intro c73
      have h1 := h1.2 c73
      have h2 := h2.2 c73
      exact cm_X9_driest_140 h1 h2 hq hX63
theorem fd_X9_driest_63 {Q : Int32 → HS → Prop} {v0 : Nat} {v1 : Int32} {v2 : Int32} {v3 : Int32} {v4 : Int32} {v5 : Int64} {v7 : Int32} {S : HS} (h : B_X9_driest_63 Q (P_X9_driest_63 Q) v0 v1 v2 v3 v4 v5 v7 S) : P_X9_driest_63 Q v0 v1 v2 v3 v4 v5 v7 S := fun X hX => hX v0 v1 v2 v3 v4 v5 v7 S (cmB_X9_driest_63 h h (fun _ _ a _ => a) (fun _ _ _ _ _ _ _ _ hp _ => hp X hX))
theorem uf_X9_driest_63 {Q : Int32 → HS → Prop} {v0 : Nat} {v1 : Int32} {v2 : Int32} {v3 : Int32} {v4 : Int32} {v5 : Int64} {v7 : Int32} {S : HS} (h : P_X9_driest_63 Q v0 v1 v2 v3 v4 v5 v7 S) : B_X9_driest_63 Q (P_X9_driest_63 Q) v0 v1 v2 v3 v4 v5 v7 S := h (fun v0 v1 v2 v3 v4 v5 v7 S => B_X9_driest_63 Q (P_X9_driest_63 Q) v0 v1 v2 v3 v4 v5 v7 S) (fun v0 v1 v2 v3 v4 v5 v7 S hB => cmB_X9_driest_63 hB hB (fun _ _ a _ => a) (fun _ _ _ _ _ _ _ _ hb _ => fd_X9_driest_63 hb))
theorem cm_X9_driest_63 {Q1 Q2 Q3 : Int32 → HS → Prop} {v0 : Nat} {v1 : Int32} {v2 : Int32} {v3 : Int32} {v4 : Int32} {v5 : Int64} {v7 : Int32} {S : HS} (h1 : P_X9_driest_63 Q1 v0 v1 v2 v3 v4 v5 v7 S) (h2 : P_X9_driest_63 Q2 v0 v1 v2 v3 v4 v5 v7 S) (hq : ∀ (r : Int32) (T : HS), Q1 r T → Q2 r T → Q3 r T) : P_X9_driest_63 Q3 v0 v1 v2 v3 v4 v5 v7 S := h1 (fun v0 v1 v2 v3 v4 v5 v7 S => P_X9_driest_63 Q2 v0 v1 v2 v3 v4 v5 v7 S → P_X9_driest_63 Q3 v0 v1 v2 v3 v4 v5 v7 S) (fun v0 v1 v2 v3 v4 v5 v7 S hB hp => fd_X9_driest_63 (cmB_X9_driest_63 hB (uf_X9_driest_63 hp) hq (fun _ _ _ _ _ _ _ _ hx hp => hx hp))) h2
set_option maxRecDepth 20000 in
set_option maxHeartbeats 1000000 in
theorem cm_X9_driest_0 {Q1 Q2 Q3 : Int32 → HS → Prop} {v0 : Nat} {v1 : Int32} {v2 : Int32} {v3 : Int32} {S : HS} (h1 : P_X9_driest_0 Q1 v0 v1 v2 v3 S) (h2 : P_X9_driest_0 Q2 v0 v1 v2 v3 S) (hq : ∀ (r : Int32) (T : HS), Q1 r T → Q2 r T → Q3 r T) : P_X9_driest_0 Q3 v0 v1 v2 v3 S := by
  delta P_X9_driest_0 at h1 h2 ⊢
  obtain ⟨c1, h1⟩ := h1
  obtain ⟨_, h2⟩ := h2
  refine ⟨c1, ?_⟩
  obtain ⟨b2, e3, h1⟩ := h1
  obtain ⟨b4, e5, h2⟩ := h2
  cases e3.symm.trans e5
  refine ⟨b2, e3, ?_⟩
  obtain ⟨c6, h1⟩ := h1
  obtain ⟨_, h2⟩ := h2
  refine ⟨c6, ?_⟩
  refine cm_X8_hasWalker h1 h2 (fun x7 x8 h1 h2 g9 g10 => ?_)
  have h1 := h1 g9 g10
  have h2 := h2 g9 g10
  refine ⟨?_, ?_⟩
  · intro c11
    have h1 := h1.1 c11
    have h2 := h2.1 c11
    exact cm_X9_driest_29 h1 h2 hq
  · intro c12
    have h1 := h1.2 c12
    have h2 := h2.2 c12
    obtain ⟨b13, e14, h1⟩ := h1
    obtain ⟨b15, e16, h2⟩ := h2
    cases e14.symm.trans e16
    refine ⟨b13, e14, ?_⟩
    obtain ⟨c17, h1⟩ := h1
    obtain ⟨_, h2⟩ := h2
    refine ⟨c17, ?_⟩
    refine cm_X8_hasRoad h1 h2 (fun x18 x19 h1 h2 g20 g21 => ?_)
    have h1 := h1 g20 g21
    have h2 := h2 g20 g21
    refine ⟨?_, ?_⟩
    · intro c22
      have h1 := h1.1 c22
      have h2 := h2.1 c22
      exact cm_X9_driest_29 h1 h2 hq
    · intro c23
      have h1 := h1.2 c23
      have h2 := h2.2 c23
      refine cm_X9_isWay h1 h2 (fun x24 x25 h1 h2 g26 g27 => ?_)
      have h1 := h1 g26 g27
      have h2 := h2 g26 g27
      refine ⟨?_, ?_⟩
      · intro c28
        have h1 := h1.1 c28
        have h2 := h2.1 c28
        obtain ⟨b29, e30, h1⟩ := h1
        obtain ⟨b31, e32, h2⟩ := h2
        cases e30.symm.trans e32
        refine ⟨b29, e30, ?_⟩
        obtain ⟨c33, h1⟩ := h1
        obtain ⟨_, h2⟩ := h2
        refine ⟨c33, ?_⟩
        intro x35 e34
        have h1 := h1 x35 e34
        have h2 := h2 x35 e34
        refine ⟨?_, ?_⟩
        · intro c36
          have h1 := h1.1 c36
          have h2 := h2.1 c36
          exact cm_X9_driest_63 h1 h2 hq
        · intro c37
          have h1 := h1.2 c37
          have h2 := h2.2 c37
          refine cm_X9_refuse h1 h2 (fun x38 x39 h1 h2 g40 => ?_)
          have h1 := h1 g40
          have h2 := h2 g40
          exact hq _ _ h1 h2
      · intro c41
        have h1 := h1.2 c41
        have h2 := h2.2 c41
        exact cm_X9_driest_29 h1 h2 hq
theorem cm_X9_driest {Q1 Q2 Q3 : Int32 → HS → Prop} {v0 : Nat} {v1 : Int32} {v2 : Int32} {v3 : Int32} {S : HS} (h1 : P_X9_driest v0 v1 v2 v3 Q1 S) (h2 : P_X9_driest v0 v1 v2 v3 Q2 S) (hq : ∀ (r : Int32) (T : HS), Q1 r T → Q2 r T → Q3 r T) : P_X9_driest v0 v1 v2 v3 Q3 S := cm_X9_driest_0 h1 h2 hq
set_option maxRecDepth 20000 in
set_option maxHeartbeats 1000000 in
theorem cm_X9_even_0 {Q1 Q2 Q3 : Int32 → HS → Prop} {v0 : Nat} {v1 : Int32} {v2 : Int32} {v3 : Int32} {v4 : Int32} {S : HS} (h1 : P_X9_even_0 Q1 v0 v1 v2 v3 v4 S) (h2 : P_X9_even_0 Q2 v0 v1 v2 v3 v4 S) (hq : ∀ (r : Int32) (T : HS), Q1 r T → Q2 r T → Q3 r T) : P_X9_even_0 Q3 v0 v1 v2 v3 v4 S := by
  delta P_X9_even_0 at h1 h2 ⊢
  obtain ⟨c1, h1⟩ := h1
  obtain ⟨_, h2⟩ := h2
  refine ⟨c1, ?_⟩
  refine cm_X9_tripTrouble h1 h2 (fun x2 x3 h1 h2 g4 => ?_)
  have h1 := h1 g4
  have h2 := h2 g4
  refine cm_X9_refusedBy h1 h2 (fun x5 x6 h1 h2 g7 g8 => ?_)
  have h1 := h1 g7 g8
  have h2 := h2 g7 g8
  refine ⟨?_, ?_⟩
  · intro c9
    have h1 := h1.1 c9
    have h2 := h2.1 c9
    obtain ⟨b10, e11, h1⟩ := h1
    obtain ⟨b12, e13, h2⟩ := h2
    cases e11.symm.trans e13
    refine ⟨b10, e11, ?_⟩
    obtain ⟨c14, h1⟩ := h1
    obtain ⟨_, h2⟩ := h2
    refine ⟨c14, ?_⟩
    obtain ⟨b15, e16, h1⟩ := h1
    obtain ⟨b17, e18, h2⟩ := h2
    cases e16.symm.trans e18
    refine ⟨b15, e16, ?_⟩
    obtain ⟨c19, h1⟩ := h1
    obtain ⟨_, h2⟩ := h2
    refine ⟨c19, ?_⟩
    obtain ⟨c20, h1⟩ := h1
    obtain ⟨_, h2⟩ := h2
    refine ⟨c20, ?_⟩
    obtain ⟨b21, e22, h1⟩ := h1
    obtain ⟨b23, e24, h2⟩ := h2
    cases e22.symm.trans e24
    refine ⟨b21, e22, ?_⟩
    obtain ⟨b25, e26, h1⟩ := h1
    obtain ⟨b27, e28, h2⟩ := h2
    cases e26.symm.trans e28
    refine ⟨b25, e26, ?_⟩
    obtain ⟨b29, e30, h1⟩ := h1
    obtain ⟨b31, e32, h2⟩ := h2
    cases e30.symm.trans e32
    refine ⟨b29, e30, ?_⟩
    obtain ⟨c33, h1⟩ := h1
    obtain ⟨_, h2⟩ := h2
    refine ⟨c33, ?_⟩
    obtain ⟨b34, e35, h1⟩ := h1
    obtain ⟨b36, e37, h2⟩ := h2
    cases e35.symm.trans e37
    refine ⟨b34, e35, ?_⟩
    obtain ⟨c38, h1⟩ := h1
    obtain ⟨_, h2⟩ := h2
    refine ⟨c38, ?_⟩
    obtain ⟨c39, h1⟩ := h1
    obtain ⟨_, h2⟩ := h2
    refine ⟨c39, ?_⟩
    obtain ⟨b40, e41, h1⟩ := h1
    obtain ⟨b42, e43, h2⟩ := h2
    cases e41.symm.trans e43
    refine ⟨b40, e41, ?_⟩
    obtain ⟨b44, e45, h1⟩ := h1
    obtain ⟨b46, e47, h2⟩ := h2
    cases e45.symm.trans e47
    refine ⟨b44, e45, ?_⟩
    obtain ⟨c48, h1⟩ := h1
    obtain ⟨_, h2⟩ := h2
    refine ⟨c48, ?_⟩
    obtain ⟨b49, e50, h1⟩ := h1
    obtain ⟨b51, e52, h2⟩ := h2
    cases e50.symm.trans e52
    refine ⟨b49, e50, ?_⟩
    obtain ⟨c53, h1⟩ := h1
    obtain ⟨_, h2⟩ := h2
    refine ⟨c53, ?_⟩
    obtain ⟨c54, h1⟩ := h1
    obtain ⟨_, h2⟩ := h2
    refine ⟨c54, ?_⟩
    obtain ⟨b55, e56, h1⟩ := h1
    obtain ⟨b57, e58, h2⟩ := h2
    cases e56.symm.trans e58
    refine ⟨b55, e56, ?_⟩
    obtain ⟨c59, h1⟩ := h1
    obtain ⟨_, h2⟩ := h2
    refine ⟨c59, ?_⟩
    refine cm_X1_worstSpeed h1 h2 (fun x60 x61 h1 h2 g62 => ?_)
    have h1 := h1 g62
    have h2 := h2 g62
    obtain ⟨b63, e64, h1⟩ := h1
    obtain ⟨b65, e66, h2⟩ := h2
    cases e64.symm.trans e66
    refine ⟨b63, e64, ?_⟩
    obtain ⟨b67, e68, h1⟩ := h1
    obtain ⟨b69, e70, h2⟩ := h2
    cases e68.symm.trans e70
    refine ⟨b67, e68, ?_⟩
    obtain ⟨c71, h1⟩ := h1
    obtain ⟨_, h2⟩ := h2
    refine ⟨c71, ?_⟩
    obtain ⟨b72, e73, h1⟩ := h1
    obtain ⟨b74, e75, h2⟩ := h2
    cases e73.symm.trans e75
    refine ⟨b72, e73, ?_⟩
    obtain ⟨c76, h1⟩ := h1
    obtain ⟨_, h2⟩ := h2
    refine ⟨c76, ?_⟩
    obtain ⟨c77, h1⟩ := h1
    obtain ⟨_, h2⟩ := h2
    refine ⟨c77, ?_⟩
    obtain ⟨b78, e79, h1⟩ := h1
    obtain ⟨b80, e81, h2⟩ := h2
    cases e79.symm.trans e81
    refine ⟨b78, e79, ?_⟩
    obtain ⟨b82, e83, h1⟩ := h1
    obtain ⟨b84, e85, h2⟩ := h2
    cases e83.symm.trans e85
    refine ⟨b82, e83, ?_⟩
    obtain ⟨c86, h1⟩ := h1
    obtain ⟨_, h2⟩ := h2
    refine ⟨c86, ?_⟩
    obtain ⟨b87, e88, h1⟩ := h1
    obtain ⟨b89, e90, h2⟩ := h2
    cases e88.symm.trans e90
    refine ⟨b87, e88, ?_⟩
    obtain ⟨c91, h1⟩ := h1
    obtain ⟨_, h2⟩ := h2
    refine ⟨c91, ?_⟩
    obtain ⟨c92, h1⟩ := h1
    obtain ⟨_, h2⟩ := h2
    refine ⟨c92, ?_⟩
    obtain ⟨b93, e94, h1⟩ := h1
    obtain ⟨b95, e96, h2⟩ := h2
    cases e94.symm.trans e96
    refine ⟨b93, e94, ?_⟩
    obtain ⟨c97, h1⟩ := h1
    obtain ⟨_, h2⟩ := h2
    refine ⟨c97, ?_⟩
    refine cm_X1_leastWet h1 h2 (fun x98 x99 h1 h2 g100 => ?_)
    have h1 := h1 g100
    have h2 := h2 g100
    obtain ⟨b101, e102, h1⟩ := h1
    obtain ⟨b103, e104, h2⟩ := h2
    cases e102.symm.trans e104
    refine ⟨b101, e102, ?_⟩
    obtain ⟨b105, e106, h1⟩ := h1
    obtain ⟨b107, e108, h2⟩ := h2
    cases e106.symm.trans e108
    refine ⟨b105, e106, ?_⟩
    obtain ⟨c109, h1⟩ := h1
    obtain ⟨_, h2⟩ := h2
    refine ⟨c109, ?_⟩
    obtain ⟨b110, e111, h1⟩ := h1
    obtain ⟨b112, e113, h2⟩ := h2
    cases e111.symm.trans e113
    refine ⟨b110, e111, ?_⟩
    obtain ⟨c114, h1⟩ := h1
    obtain ⟨_, h2⟩ := h2
    refine ⟨c114, ?_⟩
    obtain ⟨c115, h1⟩ := h1
    obtain ⟨_, h2⟩ := h2
    refine ⟨c115, ?_⟩
    obtain ⟨b116, e117, h1⟩ := h1
    obtain ⟨b118, e119, h2⟩ := h2
    cases e117.symm.trans e119
    refine ⟨b116, e117, ?_⟩
    obtain ⟨b120, e121, h1⟩ := h1
    obtain ⟨b122, e123, h2⟩ := h2
    cases e121.symm.trans e123
    refine ⟨b120, e121, ?_⟩
    obtain ⟨c124, h1⟩ := h1
    obtain ⟨_, h2⟩ := h2
    refine ⟨c124, ?_⟩
    obtain ⟨b125, e126, h1⟩ := h1
    obtain ⟨b127, e128, h2⟩ := h2
    cases e126.symm.trans e128
    refine ⟨b125, e126, ?_⟩
    obtain ⟨c129, h1⟩ := h1
    obtain ⟨_, h2⟩ := h2
    refine ⟨c129, ?_⟩
    obtain ⟨c130, h1⟩ := h1
    obtain ⟨_, h2⟩ := h2
    refine ⟨c130, ?_⟩
    obtain ⟨b131, e132, h1⟩ := h1
    obtain ⟨b133, e134, h2⟩ := h2
    cases e132.symm.trans e134
    refine ⟨b131, e132, ?_⟩
    obtain ⟨c135, h1⟩ := h1
    obtain ⟨_, h2⟩ := h2
    refine ⟨c135, ?_⟩
    refine cm_X1_wetOf h1 h2 (fun x136 x137 h1 h2 g138 => ?_)
    have h1 := h1 g138
    have h2 := h2 g138
    refine ⟨?_, ?_⟩
    · intro c139
      have h1 := h1.1 c139
      have h2 := h2.1 c139
      exact hq _ _ h1 h2
    · intro c140
      have h1 := h1.2 c140
      have h2 := h2.2 c140
      exact hq _ _ h1 h2
  · intro c141
    have h1 := h1.2 c141
    have h2 := h2.2 c141
    exact hq _ _ h1 h2
theorem cm_X9_even {Q1 Q2 Q3 : Int32 → HS → Prop} {v0 : Nat} {v1 : Int32} {v2 : Int32} {v3 : Int32} {v4 : Int32} {S : HS} (h1 : P_X9_even v0 v1 v2 v3 v4 Q1 S) (h2 : P_X9_even v0 v1 v2 v3 v4 Q2 S) (hq : ∀ (r : Int32) (T : HS), Q1 r T → Q2 r T → Q3 r T) : P_X9_even v0 v1 v2 v3 v4 Q3 S := cm_X9_even_0 h1 h2 hq
set_option maxRecDepth 20000 in
set_option maxHeartbeats 1000000 in
theorem cm_X9_fraction_0 {Q1 Q2 Q3 : Int64 → HS → Prop} {v0 : Int64} {v2 : Int64} {v4 : Int32} {S : HS} (h1 : P_X9_fraction_0 Q1 v0 v2 v4 S) (h2 : P_X9_fraction_0 Q2 v0 v2 v4 S) (hq : ∀ (r : Int64) (T : HS), Q1 r T → Q2 r T → Q3 r T) : P_X9_fraction_0 Q3 v0 v2 v4 S := by
  delta P_X9_fraction_0 at h1 h2 ⊢
  refine cm_X9_commonDivisor h1 h2 (fun x1 x2 h1 h2 g3 => ?_)
  have h1 := h1 g3
  have h2 := h2 g3
  refine ⟨?_, ?_⟩
  · intro c4
    have h1 := h1.1 c4
    have h2 := h2.1 c4
    refine ⟨?_, ?_⟩
    · intro c5
      have h1 := h1.1 c5
      have h2 := h2.1 c5
      obtain ⟨c6, h1⟩ := h1
      obtain ⟨_, h2⟩ := h2
      refine ⟨c6, ?_⟩
      intro x8 e7
      have h1 := h1 x8 e7
      have h2 := h2 x8 e7
      exact hq _ _ h1 h2
    · intro c9
      have h1 := h1.2 c9
      have h2 := h2.2 c9
      obtain ⟨c10, h1⟩ := h1
      obtain ⟨_, h2⟩ := h2
      refine ⟨c10, ?_⟩
      intro x12 e11
      have h1 := h1 x12 e11
      have h2 := h2 x12 e11
      exact hq _ _ h1 h2
  · intro c13
    have h1 := h1.2 c13
    have h2 := h2.2 c13
    refine ⟨?_, ?_⟩
    · intro c14
      have h1 := h1.1 c14
      have h2 := h2.1 c14
      exact hq _ _ h1 h2
    · intro c15
      have h1 := h1.2 c15
      have h2 := h2.2 c15
      exact hq _ _ h1 h2
theorem cm_X9_fraction {Q1 Q2 Q3 : Int64 → HS → Prop} {v0 : Int64} {v2 : Int64} {v4 : Int32} {S : HS} (h1 : P_X9_fraction v0 v2 v4 Q1 S) (h2 : P_X9_fraction v0 v2 v4 Q2 S) (hq : ∀ (r : Int64) (T : HS), Q1 r T → Q2 r T → Q3 r T) : P_X9_fraction v0 v2 v4 Q3 S := cm_X9_fraction_0 h1 h2 hq
set_option maxRecDepth 20000 in
set_option maxHeartbeats 1000000 in
theorem cm_X9_isFace_0 {Q1 Q2 Q3 : Int32 → HS → Prop} {v0 : Int32} {S : HS} (h1 : P_X9_isFace_0 Q1 v0 S) (h2 : P_X9_isFace_0 Q2 v0 S) (hq : ∀ (r : Int32) (T : HS), Q1 r T → Q2 r T → Q3 r T) : P_X9_isFace_0 Q3 v0 S := by
  delta P_X9_isFace_0 at h1 h2 ⊢
  refine ⟨?_, ?_⟩
  · intro c1
    have h1 := h1.1 c1
    have h2 := h2.1 c1
    exact hq _ _ h1 h2
  · intro c2
    have h1 := h1.2 c2
    have h2 := h2.2 c2
    refine ⟨?_, ?_⟩
    · intro c3
      have h1 := h1.1 c3
      have h2 := h2.1 c3
      exact hq _ _ h1 h2
    · intro c4
      have h1 := h1.2 c4
      have h2 := h2.2 c4
      exact hq _ _ h1 h2
theorem cm_X9_isFace {Q1 Q2 Q3 : Int32 → HS → Prop} {v0 : Int32} {S : HS} (h1 : P_X9_isFace v0 Q1 S) (h2 : P_X9_isFace v0 Q2 S) (hq : ∀ (r : Int32) (T : HS), Q1 r T → Q2 r T → Q3 r T) : P_X9_isFace v0 Q3 S := cm_X9_isFace_0 h1 h2 hq
set_option maxRecDepth 20000 in
set_option maxHeartbeats 1000000 in
theorem cm_X9_legTrouble_0 {Q1 Q2 Q3 : Int32 → HS → Prop} {v0 : Nat} {v1 : Int32} {v2 : Int32} {v3 : Int32} {v4 : Int32} {v5 : Int32} {S : HS} (h1 : P_X9_legTrouble_0 Q1 v0 v1 v2 v3 v4 v5 S) (h2 : P_X9_legTrouble_0 Q2 v0 v1 v2 v3 v4 v5 S) (hq : ∀ (r : Int32) (T : HS), Q1 r T → Q2 r T → Q3 r T) : P_X9_legTrouble_0 Q3 v0 v1 v2 v3 v4 v5 S := by
  delta P_X9_legTrouble_0 at h1 h2 ⊢
  obtain ⟨c1, h1⟩ := h1
  obtain ⟨_, h2⟩ := h2
  refine ⟨c1, ?_⟩
  refine cm_X9_tripTrouble h1 h2 (fun x2 x3 h1 h2 g4 => ?_)
  have h1 := h1 g4
  have h2 := h2 g4
  refine ⟨?_, ?_⟩
  · intro c5
    have h1 := h1.1 c5
    have h2 := h2.1 c5
    obtain ⟨b6, e7, h1⟩ := h1
    obtain ⟨b8, e9, h2⟩ := h2
    cases e7.symm.trans e9
    refine ⟨b6, e7, ?_⟩
    obtain ⟨c10, h1⟩ := h1
    obtain ⟨_, h2⟩ := h2
    refine ⟨c10, ?_⟩
    obtain ⟨b11, e12, h1⟩ := h1
    obtain ⟨b13, e14, h2⟩ := h2
    cases e12.symm.trans e14
    refine ⟨b11, e12, ?_⟩
    obtain ⟨c15, h1⟩ := h1
    obtain ⟨_, h2⟩ := h2
    refine ⟨c15, ?_⟩
    obtain ⟨c16, h1⟩ := h1
    obtain ⟨_, h2⟩ := h2
    refine ⟨c16, ?_⟩
    obtain ⟨b17, e18, h1⟩ := h1
    obtain ⟨b19, e20, h2⟩ := h2
    cases e18.symm.trans e20
    refine ⟨b17, e18, ?_⟩
    obtain ⟨c21, h1⟩ := h1
    obtain ⟨_, h2⟩ := h2
    refine ⟨c21, ?_⟩
    refine cm_X6_canGo h1 h2 (fun x22 x23 h1 h2 g24 g25 => ?_)
    have h1 := h1 g24 g25
    have h2 := h2 g24 g25
    refine ⟨?_, ?_⟩
    · intro c26
      have h1 := h1.1 c26
      have h2 := h2.1 c26
      exact hq _ _ h1 h2
    · intro c27
      have h1 := h1.2 c27
      have h2 := h2.2 c27
      exact hq _ _ h1 h2
  · intro c28
    have h1 := h1.2 c28
    have h2 := h2.2 c28
    exact hq _ _ h1 h2
theorem cm_X9_legTrouble {Q1 Q2 Q3 : Int32 → HS → Prop} {v0 : Nat} {v1 : Int32} {v2 : Int32} {v3 : Int32} {v4 : Int32} {v5 : Int32} {S : HS} (h1 : P_X9_legTrouble v0 v1 v2 v3 v4 v5 Q1 S) (h2 : P_X9_legTrouble v0 v1 v2 v3 v4 v5 Q2 S) (hq : ∀ (r : Int32) (T : HS), Q1 r T → Q2 r T → Q3 r T) : P_X9_legTrouble v0 v1 v2 v3 v4 v5 Q3 S := cm_X9_legTrouble_0 h1 h2 hq
set_option maxRecDepth 20000 in
set_option maxHeartbeats 1000000 in
theorem cm_X9_face_23 {Q1 Q2 Q3 : Int64 → HS → Prop} {v0 : Nat} {v1 : Int32} {v2 : Int32} {v3 : Int32} {v4 : Int32} {v5 : Int32} {v6 : Int32} {v7 : Int32} {s0 : Int32} {S : HS} (h1 : P_X9_face_23 Q1 v0 v1 v2 v3 v4 v5 v6 v7 s0 S) (h2 : P_X9_face_23 Q2 v0 v1 v2 v3 v4 v5 v6 v7 s0 S) (hq : ∀ (r : Int64) (T : HS), Q1 r T → Q2 r T → Q3 r T) : P_X9_face_23 Q3 v0 v1 v2 v3 v4 v5 v6 v7 s0 S := by
  delta P_X9_face_23 at h1 h2 ⊢
  obtain ⟨c1, h1⟩ := h1
  obtain ⟨_, h2⟩ := h2
  refine ⟨c1, ?_⟩
  refine cm_X9_refusedBy h1 h2 (fun x2 x3 h1 h2 g4 g5 => ?_)
  have h1 := h1 g4 g5
  have h2 := h2 g4 g5
  refine ⟨?_, ?_⟩
  · intro c6
    have h1 := h1.1 c6
    have h2 := h2.1 c6
    obtain ⟨b7, e8, h1⟩ := h1
    obtain ⟨b9, e10, h2⟩ := h2
    cases e8.symm.trans e10
    refine ⟨b7, e8, ?_⟩
    obtain ⟨b11, e12, h1⟩ := h1
    obtain ⟨b13, e14, h2⟩ := h2
    cases e12.symm.trans e14
    refine ⟨b11, e12, ?_⟩
    obtain ⟨c15, h1⟩ := h1
    obtain ⟨_, h2⟩ := h2
    refine ⟨c15, ?_⟩
    obtain ⟨b16, e17, h1⟩ := h1
    obtain ⟨b18, e19, h2⟩ := h2
    cases e17.symm.trans e19
    refine ⟨b16, e17, ?_⟩
    obtain ⟨c20, h1⟩ := h1
    obtain ⟨_, h2⟩ := h2
    refine ⟨c20, ?_⟩
    obtain ⟨c21, h1⟩ := h1
    obtain ⟨_, h2⟩ := h2
    refine ⟨c21, ?_⟩
    obtain ⟨b22, e23, h1⟩ := h1
    obtain ⟨b24, e25, h2⟩ := h2
    cases e23.symm.trans e25
    refine ⟨b22, e23, ?_⟩
    obtain ⟨b26, e27, h1⟩ := h1
    obtain ⟨b28, e29, h2⟩ := h2
    cases e27.symm.trans e29
    refine ⟨b26, e27, ?_⟩
    obtain ⟨c30, h1⟩ := h1
    obtain ⟨_, h2⟩ := h2
    refine ⟨c30, ?_⟩
    obtain ⟨b31, e32, h1⟩ := h1
    obtain ⟨b33, e34, h2⟩ := h2
    cases e32.symm.trans e34
    refine ⟨b31, e32, ?_⟩
    obtain ⟨c35, h1⟩ := h1
    obtain ⟨_, h2⟩ := h2
    refine ⟨c35, ?_⟩
    obtain ⟨c36, h1⟩ := h1
    obtain ⟨_, h2⟩ := h2
    refine ⟨c36, ?_⟩
    obtain ⟨b37, e38, h1⟩ := h1
    obtain ⟨b39, e40, h2⟩ := h2
    cases e38.symm.trans e40
    refine ⟨b37, e38, ?_⟩
    obtain ⟨b41, e42, h1⟩ := h1
    obtain ⟨b43, e44, h2⟩ := h2
    cases e42.symm.trans e44
    refine ⟨b41, e42, ?_⟩
    obtain ⟨c45, h1⟩ := h1
    obtain ⟨_, h2⟩ := h2
    refine ⟨c45, ?_⟩
    obtain ⟨b46, e47, h1⟩ := h1
    obtain ⟨b48, e49, h2⟩ := h2
    cases e47.symm.trans e49
    refine ⟨b46, e47, ?_⟩
    obtain ⟨c50, h1⟩ := h1
    obtain ⟨_, h2⟩ := h2
    refine ⟨c50, ?_⟩
    obtain ⟨c51, h1⟩ := h1
    obtain ⟨_, h2⟩ := h2
    refine ⟨c51, ?_⟩
    obtain ⟨b52, e53, h1⟩ := h1
    obtain ⟨b54, e55, h2⟩ := h2
    cases e53.symm.trans e55
    refine ⟨b52, e53, ?_⟩
    obtain ⟨c56, h1⟩ := h1
    obtain ⟨_, h2⟩ := h2
    refine ⟨c56, ?_⟩
    refine cm_X1_wetOf h1 h2 (fun x57 x58 h1 h2 g59 => ?_)
    have h1 := h1 g59
    have h2 := h2 g59
    obtain ⟨b60, e61, h1⟩ := h1
    obtain ⟨b62, e63, h2⟩ := h2
    cases e61.symm.trans e63
    refine ⟨b60, e61, ?_⟩
    obtain ⟨c64, h1⟩ := h1
    obtain ⟨_, h2⟩ := h2
    refine ⟨c64, ?_⟩
    obtain ⟨b65, e66, h1⟩ := h1
    obtain ⟨b67, e68, h2⟩ := h2
    cases e66.symm.trans e68
    refine ⟨b65, e66, ?_⟩
    obtain ⟨c69, h1⟩ := h1
    obtain ⟨_, h2⟩ := h2
    refine ⟨c69, ?_⟩
    obtain ⟨c70, h1⟩ := h1
    obtain ⟨_, h2⟩ := h2
    refine ⟨c70, ?_⟩
    intro x72 e71
    have h1 := h1 x72 e71
    have h2 := h2 x72 e71
    refine cm_X9_fraction h1 h2 (fun x73 x74 h1 h2 g75 => ?_)
    have h1 := h1 g75
    have h2 := h2 g75
    exact hq _ _ h1 h2
  · intro c76
    have h1 := h1.2 c76
    have h2 := h2.2 c76
    exact hq _ _ h1 h2
set_option maxRecDepth 20000 in
set_option maxHeartbeats 1000000 in
theorem cm_X9_face_0 {Q1 Q2 Q3 : Int64 → HS → Prop} {v0 : Nat} {v1 : Int32} {v2 : Int32} {v3 : Int32} {v4 : Int32} {v5 : Int32} {v6 : Int32} {v7 : Int32} {S : HS} (h1 : P_X9_face_0 Q1 v0 v1 v2 v3 v4 v5 v6 v7 S) (h2 : P_X9_face_0 Q2 v0 v1 v2 v3 v4 v5 v6 v7 S) (hq : ∀ (r : Int64) (T : HS), Q1 r T → Q2 r T → Q3 r T) : P_X9_face_0 Q3 v0 v1 v2 v3 v4 v5 v6 v7 S := by
  delta P_X9_face_0 at h1 h2 ⊢
  refine cm_X9_isFace h1 h2 (fun x1 x2 h1 h2 g3 g4 => ?_)
  have h1 := h1 g3 g4
  have h2 := h2 g3 g4
  refine ⟨?_, ?_⟩
  · intro c5
    have h1 := h1.1 c5
    have h2 := h2.1 c5
    exact cm_X9_face_23 h1 h2 hq
  · intro c6
    have h1 := h1.2 c6
    have h2 := h2.2 c6
    obtain ⟨c7, h1⟩ := h1
    obtain ⟨_, h2⟩ := h2
    refine ⟨c7, ?_⟩
    refine cm_X9_legTrouble h1 h2 (fun x8 x9 h1 h2 g10 => ?_)
    have h1 := h1 g10
    have h2 := h2 g10
    exact cm_X9_face_23 h1 h2 hq
theorem cm_X9_face {Q1 Q2 Q3 : Int64 → HS → Prop} {v0 : Nat} {v1 : Int32} {v2 : Int32} {v3 : Int32} {v4 : Int32} {v5 : Int32} {v6 : Int32} {v7 : Int32} {S : HS} (h1 : P_X9_face v0 v1 v2 v3 v4 v5 v6 v7 Q1 S) (h2 : P_X9_face v0 v1 v2 v3 v4 v5 v6 v7 Q2 S) (hq : ∀ (r : Int64) (T : HS), Q1 r T → Q2 r T → Q3 r T) : P_X9_face v0 v1 v2 v3 v4 v5 v6 v7 Q3 S := cm_X9_face_0 h1 h2 hq
set_option maxRecDepth 20000 in
set_option maxHeartbeats 1000000 in
theorem cm_X9_fault_0 {Q1 Q2 Q3 : Int32 → HS → Prop} {v0 : Nat} {S : HS} (h1 : P_X9_fault_0 Q1 v0 S) (h2 : P_X9_fault_0 Q2 v0 S) (hq : ∀ (r : Int32) (T : HS), Q1 r T → Q2 r T → Q3 r T) : P_X9_fault_0 Q3 v0 S := by
  delta P_X9_fault_0 at h1 h2 ⊢
  obtain ⟨c1, h1⟩ := h1
  obtain ⟨_, h2⟩ := h2
  refine ⟨c1, ?_⟩
  intro x3 e2
  have h1 := h1 x3 e2
  have h2 := h2 x3 e2
  exact hq _ _ h1 h2
theorem cm_X9_fault {Q1 Q2 Q3 : Int32 → HS → Prop} {v0 : Nat} {S : HS} (h1 : P_X9_fault v0 Q1 S) (h2 : P_X9_fault v0 Q2 S) (hq : ∀ (r : Int32) (T : HS), Q1 r T → Q2 r T → Q3 r T) : P_X9_fault v0 Q3 S := cm_X9_fault_0 h1 h2 hq
set_option maxRecDepth 20000 in
set_option maxHeartbeats 1000000 in
theorem cm_X9_putBytes_49 {Q1 Q2 Q3 : HS → Prop} {X3_1 X3_2 X3_3 : Nat → Int32 → Int32 → HS → Prop} {v0 : Nat} {v1 : Int32} {v2 : Int32} {S : HS} (h1 : P_X9_putBytes_49 Q1 X3_1 v0 v1 v2 S) (h2 : P_X9_putBytes_49 Q2 X3_2 v0 v1 v2 S) (hq : ∀ (T : HS), Q1 T → Q2 T → Q3 T) (hX3 : ∀ (u0 : Nat) (u1 : Int32) (u2 : Int32) (u3 : HS), X3_1 u0 u1 u2 u3 → X3_2 u0 u1 u2 u3 → X3_3 u0 u1 u2 u3) : P_X9_putBytes_49 Q3 X3_3 v0 v1 v2 S := by
  delta P_X9_putBytes_49 at h1 h2 ⊢
  intro x2 e1
  have h1 := h1 x2 e1
  have h2 := h2 x2 e1
  exact hX3 _ _ _ _ h1 h2
set_option maxRecDepth 20000 in
set_option maxHeartbeats 1000000 in
theorem cmB_X9_putBytes_3 {Q1 Q2 Q3 : HS → Prop} {X3_1 X3_2 X3_3 : Nat → Int32 → Int32 → HS → Prop} {v0 : Nat} {v1 : Int32} {v2 : Int32} {S : HS} (h1 : B_X9_putBytes_3 Q1 X3_1 v0 v1 v2 S) (h2 : B_X9_putBytes_3 Q2 X3_2 v0 v1 v2 S) (hq : ∀ (T : HS), Q1 T → Q2 T → Q3 T) (hX3 : ∀ (u0 : Nat) (u1 : Int32) (u2 : Int32) (u3 : HS), X3_1 u0 u1 u2 u3 → X3_2 u0 u1 u2 u3 → X3_3 u0 u1 u2 u3) : B_X9_putBytes_3 Q3 X3_3 v0 v1 v2 S := by
  delta B_X9_putBytes_3 at h1 h2 ⊢
  refine ⟨?_, ?_⟩
  · intro c1
    have h1 := h1.1 c1
    have h2 := h2.1 c1
    exact hq _ h1 h2
  · intro c2
    have h1 := h1.2 c2
    have h2 := h2.2 c2
    obtain ⟨c3, h1⟩ := h1
    obtain ⟨_, h2⟩ := h2
    refine ⟨c3, ?_⟩
    intro x5 e4
    have h1 := h1 x5 e4
    have h2 := h2 x5 e4
    refine ⟨?_, ?_⟩
    · intro c6
      have h1 := h1.1 c6
      have h2 := h2.1 c6
      exact cm_X9_putBytes_49 h1 h2 hq hX3
    · intro c7
      have h1 := h1.2 c7
      have h2 := h2.2 c7
      intro x9 e8
      have h1 := h1 x9 e8
      have h2 := h2 x9 e8
      obtain ⟨b10, e11, h1⟩ := h1
      obtain ⟨b12, e13, h2⟩ := h2
      cases e11.symm.trans e13
      refine ⟨b10, e11, ?_⟩
      obtain ⟨c14, h1⟩ := h1
      obtain ⟨_, h2⟩ := h2
      refine ⟨c14, ?_⟩
      refine ⟨?_, ?_⟩
      · intro c15
        have h1 := h1.1 c15
        have h2 := h2.1 c15
        exact cm_X9_putBytes_49 h1 h2 hq hX3
      · intro c16
        have h1 := h1.2 c16
        have h2 := h2.2 c16
        obtain ⟨b17, e18, h1⟩ := h1
        obtain ⟨b19, e20, h2⟩ := h2
        cases e18.symm.trans e20
        refine ⟨b17, e18, ?_⟩
        intro x22 e21
        have h1 := h1 x22 e21
        have h2 := h2 x22 e21
        obtain ⟨c23, h1⟩ := h1
        obtain ⟨_, h2⟩ := h2
        refine ⟨c23, ?_⟩
        intro x25 e24
        have h1 := h1 x25 e24
        have h2 := h2 x25 e24
        obtain ⟨c26, h1⟩ := h1
        obtain ⟨_, h2⟩ := h2
        refine ⟨c26, ?_⟩
        intro x28 e27
        have h1 := h1 x28 e27
        have h2 := h2 x28 e27
        intro x30 e29
        have h1 := h1 x30 e29
        have h2 := h2 x30 e29
        intro x32 e31
        have h1 := h1 x32 e31
        have h2 := h2 x32 e31
        intro x34 e33
        have h1 := h1 x34 e33
        have h2 := h2 x34 e33
        exact cm_X9_putBytes_49 h1 h2 hq hX3
theorem fd_X9_putBytes_3 {Q : HS → Prop} {v0 : Nat} {v1 : Int32} {v2 : Int32} {S : HS} (h : B_X9_putBytes_3 Q (P_X9_putBytes_3 Q) v0 v1 v2 S) : P_X9_putBytes_3 Q v0 v1 v2 S := fun X hX => hX v0 v1 v2 S (cmB_X9_putBytes_3 h h (fun _ a _ => a) (fun _ _ _ _ hp _ => hp X hX))
theorem uf_X9_putBytes_3 {Q : HS → Prop} {v0 : Nat} {v1 : Int32} {v2 : Int32} {S : HS} (h : P_X9_putBytes_3 Q v0 v1 v2 S) : B_X9_putBytes_3 Q (P_X9_putBytes_3 Q) v0 v1 v2 S := h (fun v0 v1 v2 S => B_X9_putBytes_3 Q (P_X9_putBytes_3 Q) v0 v1 v2 S) (fun v0 v1 v2 S hB => cmB_X9_putBytes_3 hB hB (fun _ a _ => a) (fun _ _ _ _ hb _ => fd_X9_putBytes_3 hb))
theorem cm_X9_putBytes_3 {Q1 Q2 Q3 : HS → Prop} {v0 : Nat} {v1 : Int32} {v2 : Int32} {S : HS} (h1 : P_X9_putBytes_3 Q1 v0 v1 v2 S) (h2 : P_X9_putBytes_3 Q2 v0 v1 v2 S) (hq : ∀ (T : HS), Q1 T → Q2 T → Q3 T) : P_X9_putBytes_3 Q3 v0 v1 v2 S := h1 (fun v0 v1 v2 S => P_X9_putBytes_3 Q2 v0 v1 v2 S → P_X9_putBytes_3 Q3 v0 v1 v2 S) (fun v0 v1 v2 S hB hp => fd_X9_putBytes_3 (cmB_X9_putBytes_3 hB (uf_X9_putBytes_3 hp) hq (fun _ _ _ _ hx hp => hx hp))) h2
set_option maxRecDepth 20000 in
set_option maxHeartbeats 1000000 in
theorem cm_X9_putBytes_0 {Q1 Q2 Q3 : HS → Prop} {v0 : Nat} {v1 : Int32} {S : HS} (h1 : P_X9_putBytes_0 Q1 v0 v1 S) (h2 : P_X9_putBytes_0 Q2 v0 v1 S) (hq : ∀ (T : HS), Q1 T → Q2 T → Q3 T) : P_X9_putBytes_0 Q3 v0 v1 S := by
  delta P_X9_putBytes_0 at h1 h2 ⊢
  exact cm_X9_putBytes_3 h1 h2 hq
theorem cm_X9_putBytes {Q1 Q2 Q3 : HS → Prop} {v0 : Nat} {v1 : Int32} {S : HS} (h1 : P_X9_putBytes v0 v1 Q1 S) (h2 : P_X9_putBytes v0 v1 Q2 S) (hq : ∀ (T : HS), Q1 T → Q2 T → Q3 T) : P_X9_putBytes v0 v1 Q3 S := cm_X9_putBytes_0 h1 h2 hq
set_option maxRecDepth 20000 in
set_option maxHeartbeats 1000000 in
theorem cm_X9_feed_0 {Q1 Q2 Q3 : Int32 → HS → Prop} {v0 : Nat} {v1 : Int32} {v2 : Int32} {v3 : Int32} {v4 : Int32} {v5 : Int32} {S : HS} (h1 : P_X9_feed_0 Q1 v0 v1 v2 v3 v4 v5 S) (h2 : P_X9_feed_0 Q2 v0 v1 v2 v3 v4 v5 S) (hq : ∀ (r : Int32) (T : HS), Q1 r T → Q2 r T → Q3 r T) : P_X9_feed_0 Q3 v0 v1 v2 v3 v4 v5 S := by
  delta P_X9_feed_0 at h1 h2 ⊢
  obtain ⟨c1, h1⟩ := h1
  obtain ⟨_, h2⟩ := h2
  refine ⟨c1, ?_⟩
  intro x3 e2
  have h1 := h1 x3 e2
  have h2 := h2 x3 e2
  refine ⟨?_, ?_⟩
  · intro c4
    have h1 := h1.1 c4
    have h2 := h2.1 c4
    refine cm_X9_putBytes h1 h2 (fun x5 h1 h2 g6 => ?_)
    have h1 := h1 g6
    have h2 := h2 g6
    refine cm_X9_putBytes h1 h2 (fun x7 h1 h2 g8 => ?_)
    have h1 := h1 g8
    have h2 := h2 g8
    refine cm_X9_putBytes h1 h2 (fun x9 h1 h2 g10 => ?_)
    have h1 := h1 g10
    have h2 := h2 g10
    refine cm_X9_putBytes h1 h2 (fun x11 h1 h2 g12 => ?_)
    have h1 := h1 g12
    have h2 := h2 g12
    refine cm_X9_putBytes h1 h2 (fun x13 h1 h2 g14 => ?_)
    have h1 := h1 g14
    have h2 := h2 g14
    intro x16 e15
    have h1 := h1 x16 e15
    have h2 := h2 x16 e15
    exact hq _ _ h1 h2
  · intro c17
    have h1 := h1.2 c17
    have h2 := h2.2 c17
    exact hq _ _ h1 h2
theorem cm_X9_feed {Q1 Q2 Q3 : Int32 → HS → Prop} {v0 : Nat} {v1 : Int32} {v2 : Int32} {v3 : Int32} {v4 : Int32} {v5 : Int32} {S : HS} (h1 : P_X9_feed v0 v1 v2 v3 v4 v5 Q1 S) (h2 : P_X9_feed v0 v1 v2 v3 v4 v5 Q2 S) (hq : ∀ (r : Int32) (T : HS), Q1 r T → Q2 r T → Q3 r T) : P_X9_feed v0 v1 v2 v3 v4 v5 Q3 S := cm_X9_feed_0 h1 h2 hq
set_option maxRecDepth 20000 in
set_option maxHeartbeats 1000000 in
theorem cm_X9_leeTrouble_0 {Q1 Q2 Q3 : Int32 → HS → Prop} {v0 : Nat} {v1 : Int32} {v2 : Int32} {v3 : Int32} {v4 : Int32} {v5 : Int32} {v6 : Int32} {S : HS} (h1 : P_X9_leeTrouble_0 Q1 v0 v1 v2 v3 v4 v5 v6 S) (h2 : P_X9_leeTrouble_0 Q2 v0 v1 v2 v3 v4 v5 v6 S) (hq : ∀ (r : Int32) (T : HS), Q1 r T → Q2 r T → Q3 r T) : P_X9_leeTrouble_0 Q3 v0 v1 v2 v3 v4 v5 v6 S := by
  delta P_X9_leeTrouble_0 at h1 h2 ⊢
  refine ⟨?_, ?_⟩
  · intro c1
    have h1 := h1.1 c1
    have h2 := h2.1 c1
    exact hq _ _ h1 h2
  · intro c2
    have h1 := h1.2 c2
    have h2 := h2.2 c2
    obtain ⟨c3, h1⟩ := h1
    obtain ⟨_, h2⟩ := h2
    refine ⟨c3, ?_⟩
    obtain ⟨b4, e5, h1⟩ := h1
    obtain ⟨b6, e7, h2⟩ := h2
    cases e5.symm.trans e7
    refine ⟨b4, e5, ?_⟩
    obtain ⟨c8, h1⟩ := h1
    obtain ⟨_, h2⟩ := h2
    refine ⟨c8, ?_⟩
    refine cm_X8_hasWalker h1 h2 (fun x9 x10 h1 h2 g11 g12 => ?_)
    have h1 := h1 g11 g12
    have h2 := h2 g11 g12
    refine ⟨?_, ?_⟩
    · intro c13
      have h1 := h1.1 c13
      have h2 := h2.1 c13
      exact hq _ _ h1 h2
    · intro c14
      have h1 := h1.2 c14
      have h2 := h2.2 c14
      obtain ⟨b15, e16, h1⟩ := h1
      obtain ⟨b17, e18, h2⟩ := h2
      cases e16.symm.trans e18
      refine ⟨b15, e16, ?_⟩
      obtain ⟨c19, h1⟩ := h1
      obtain ⟨_, h2⟩ := h2
      refine ⟨c19, ?_⟩
      refine cm_X8_hasWalker h1 h2 (fun x20 x21 h1 h2 g22 g23 => ?_)
      have h1 := h1 g22 g23
      have h2 := h2 g22 g23
      refine ⟨?_, ?_⟩
      · intro c24
        have h1 := h1.1 c24
        have h2 := h2.1 c24
        refine cm_X9_legTrouble h1 h2 (fun x25 x26 h1 h2 g27 => ?_)
        have h1 := h1 g27
        have h2 := h2 g27
        refine ⟨?_, ?_⟩
        · intro c28
          have h1 := h1.1 c28
          have h2 := h2.1 c28
          obtain ⟨b29, e30, h1⟩ := h1
          obtain ⟨b31, e32, h2⟩ := h2
          cases e30.symm.trans e32
          refine ⟨b29, e30, ?_⟩
          obtain ⟨c33, h1⟩ := h1
          obtain ⟨_, h2⟩ := h2
          refine ⟨c33, ?_⟩
          obtain ⟨b34, e35, h1⟩ := h1
          obtain ⟨b36, e37, h2⟩ := h2
          cases e35.symm.trans e37
          refine ⟨b34, e35, ?_⟩
          obtain ⟨c38, h1⟩ := h1
          obtain ⟨_, h2⟩ := h2
          refine ⟨c38, ?_⟩
          obtain ⟨c39, h1⟩ := h1
          obtain ⟨_, h2⟩ := h2
          refine ⟨c39, ?_⟩
          obtain ⟨b40, e41, h1⟩ := h1
          obtain ⟨b42, e43, h2⟩ := h2
          cases e41.symm.trans e43
          refine ⟨b40, e41, ?_⟩
          obtain ⟨c44, h1⟩ := h1
          obtain ⟨_, h2⟩ := h2
          refine ⟨c44, ?_⟩
          refine cm_X6_canGo h1 h2 (fun x45 x46 h1 h2 g47 g48 => ?_)
          have h1 := h1 g47 g48
          have h2 := h2 g47 g48
          refine ⟨?_, ?_⟩
          · intro c49
            have h1 := h1.1 c49
            have h2 := h2.1 c49
            exact hq _ _ h1 h2
          · intro c50
            have h1 := h1.2 c50
            have h2 := h2.2 c50
            exact hq _ _ h1 h2
        · intro c51
          have h1 := h1.2 c51
          have h2 := h2.2 c51
          exact hq _ _ h1 h2
      · intro c52
        have h1 := h1.2 c52
        have h2 := h2.2 c52
        exact hq _ _ h1 h2
theorem cm_X9_leeTrouble {Q1 Q2 Q3 : Int32 → HS → Prop} {v0 : Nat} {v1 : Int32} {v2 : Int32} {v3 : Int32} {v4 : Int32} {v5 : Int32} {v6 : Int32} {S : HS} (h1 : P_X9_leeTrouble v0 v1 v2 v3 v4 v5 v6 Q1 S) (h2 : P_X9_leeTrouble v0 v1 v2 v3 v4 v5 v6 Q2 S) (hq : ∀ (r : Int32) (T : HS), Q1 r T → Q2 r T → Q3 r T) : P_X9_leeTrouble v0 v1 v2 v3 v4 v5 v6 Q3 S := cm_X9_leeTrouble_0 h1 h2 hq
set_option maxRecDepth 20000 in
set_option maxHeartbeats 1000000 in
theorem cm_X9_first_0 {Q1 Q2 Q3 : Int32 → HS → Prop} {v0 : Nat} {v1 : Int32} {v2 : Int32} {v3 : Int32} {v4 : Int32} {v5 : Int32} {v6 : Int32} {S : HS} (h1 : P_X9_first_0 Q1 v0 v1 v2 v3 v4 v5 v6 S) (h2 : P_X9_first_0 Q2 v0 v1 v2 v3 v4 v5 v6 S) (hq : ∀ (r : Int32) (T : HS), Q1 r T → Q2 r T → Q3 r T) : P_X9_first_0 Q3 v0 v1 v2 v3 v4 v5 v6 S := by
  delta P_X9_first_0 at h1 h2 ⊢
  obtain ⟨c1, h1⟩ := h1
  obtain ⟨_, h2⟩ := h2
  refine ⟨c1, ?_⟩
  refine cm_X9_leeTrouble h1 h2 (fun x2 x3 h1 h2 g4 => ?_)
  have h1 := h1 g4
  have h2 := h2 g4
  refine cm_X9_refusedBy h1 h2 (fun x5 x6 h1 h2 g7 g8 => ?_)
  have h1 := h1 g7 g8
  have h2 := h2 g7 g8
  refine ⟨?_, ?_⟩
  · intro c9
    have h1 := h1.1 c9
    have h2 := h2.1 c9
    obtain ⟨b10, e11, h1⟩ := h1
    obtain ⟨b12, e13, h2⟩ := h2
    cases e11.symm.trans e13
    refine ⟨b10, e11, ?_⟩
    obtain ⟨b14, e15, h1⟩ := h1
    obtain ⟨b16, e17, h2⟩ := h2
    cases e15.symm.trans e17
    refine ⟨b14, e15, ?_⟩
    obtain ⟨c18, h1⟩ := h1
    obtain ⟨_, h2⟩ := h2
    refine ⟨c18, ?_⟩
    obtain ⟨b19, e20, h1⟩ := h1
    obtain ⟨b21, e22, h2⟩ := h2
    cases e20.symm.trans e22
    refine ⟨b19, e20, ?_⟩
    obtain ⟨c23, h1⟩ := h1
    obtain ⟨_, h2⟩ := h2
    refine ⟨c23, ?_⟩
    obtain ⟨c24, h1⟩ := h1
    obtain ⟨_, h2⟩ := h2
    refine ⟨c24, ?_⟩
    obtain ⟨b25, e26, h1⟩ := h1
    obtain ⟨b27, e28, h2⟩ := h2
    cases e26.symm.trans e28
    refine ⟨b25, e26, ?_⟩
    obtain ⟨b29, e30, h1⟩ := h1
    obtain ⟨b31, e32, h2⟩ := h2
    cases e30.symm.trans e32
    refine ⟨b29, e30, ?_⟩
    obtain ⟨c33, h1⟩ := h1
    obtain ⟨_, h2⟩ := h2
    refine ⟨c33, ?_⟩
    obtain ⟨b34, e35, h1⟩ := h1
    obtain ⟨b36, e37, h2⟩ := h2
    cases e35.symm.trans e37
    refine ⟨b34, e35, ?_⟩
    obtain ⟨c38, h1⟩ := h1
    obtain ⟨_, h2⟩ := h2
    refine ⟨c38, ?_⟩
    obtain ⟨c39, h1⟩ := h1
    obtain ⟨_, h2⟩ := h2
    refine ⟨c39, ?_⟩
    obtain ⟨b40, e41, h1⟩ := h1
    obtain ⟨b42, e43, h2⟩ := h2
    cases e41.symm.trans e43
    refine ⟨b40, e41, ?_⟩
    obtain ⟨c44, h1⟩ := h1
    obtain ⟨_, h2⟩ := h2
    refine ⟨c44, ?_⟩
    refine cm_X1_lay h1 h2 (fun x45 h1 h2 g46 => ?_)
    have h1 := h1 g46
    have h2 := h2 g46
    obtain ⟨b47, e48, h1⟩ := h1
    obtain ⟨b49, e50, h2⟩ := h2
    cases e48.symm.trans e50
    refine ⟨b47, e48, ?_⟩
    obtain ⟨b51, e52, h1⟩ := h1
    obtain ⟨b53, e54, h2⟩ := h2
    cases e52.symm.trans e54
    refine ⟨b51, e52, ?_⟩
    obtain ⟨c55, h1⟩ := h1
    obtain ⟨_, h2⟩ := h2
    refine ⟨c55, ?_⟩
    obtain ⟨b56, e57, h1⟩ := h1
    obtain ⟨b58, e59, h2⟩ := h2
    cases e57.symm.trans e59
    refine ⟨b56, e57, ?_⟩
    obtain ⟨c60, h1⟩ := h1
    obtain ⟨_, h2⟩ := h2
    refine ⟨c60, ?_⟩
    obtain ⟨c61, h1⟩ := h1
    obtain ⟨_, h2⟩ := h2
    refine ⟨c61, ?_⟩
    obtain ⟨b62, e63, h1⟩ := h1
    obtain ⟨b64, e65, h2⟩ := h2
    cases e63.symm.trans e65
    refine ⟨b62, e63, ?_⟩
    obtain ⟨b66, e67, h1⟩ := h1
    obtain ⟨b68, e69, h2⟩ := h2
    cases e67.symm.trans e69
    refine ⟨b66, e67, ?_⟩
    obtain ⟨c70, h1⟩ := h1
    obtain ⟨_, h2⟩ := h2
    refine ⟨c70, ?_⟩
    obtain ⟨b71, e72, h1⟩ := h1
    obtain ⟨b73, e74, h2⟩ := h2
    cases e72.symm.trans e74
    refine ⟨b71, e72, ?_⟩
    obtain ⟨c75, h1⟩ := h1
    obtain ⟨_, h2⟩ := h2
    refine ⟨c75, ?_⟩
    obtain ⟨c76, h1⟩ := h1
    obtain ⟨_, h2⟩ := h2
    refine ⟨c76, ?_⟩
    obtain ⟨b77, e78, h1⟩ := h1
    obtain ⟨b79, e80, h2⟩ := h2
    cases e78.symm.trans e80
    refine ⟨b77, e78, ?_⟩
    obtain ⟨c81, h1⟩ := h1
    obtain ⟨_, h2⟩ := h2
    refine ⟨c81, ?_⟩
    refine cm_X1_wetInLee h1 h2 (fun x82 x83 h1 h2 g84 => ?_)
    have h1 := h1 g84
    have h2 := h2 g84
    obtain ⟨b85, e86, h1⟩ := h1
    obtain ⟨b87, e88, h2⟩ := h2
    cases e86.symm.trans e88
    refine ⟨b85, e86, ?_⟩
    obtain ⟨b89, e90, h1⟩ := h1
    obtain ⟨b91, e92, h2⟩ := h2
    cases e90.symm.trans e92
    refine ⟨b89, e90, ?_⟩
    obtain ⟨c93, h1⟩ := h1
    obtain ⟨_, h2⟩ := h2
    refine ⟨c93, ?_⟩
    obtain ⟨b94, e95, h1⟩ := h1
    obtain ⟨b96, e97, h2⟩ := h2
    cases e95.symm.trans e97
    refine ⟨b94, e95, ?_⟩
    obtain ⟨c98, h1⟩ := h1
    obtain ⟨_, h2⟩ := h2
    refine ⟨c98, ?_⟩
    obtain ⟨c99, h1⟩ := h1
    obtain ⟨_, h2⟩ := h2
    refine ⟨c99, ?_⟩
    obtain ⟨b100, e101, h1⟩ := h1
    obtain ⟨b102, e103, h2⟩ := h2
    cases e101.symm.trans e103
    refine ⟨b100, e101, ?_⟩
    obtain ⟨b104, e105, h1⟩ := h1
    obtain ⟨b106, e107, h2⟩ := h2
    cases e105.symm.trans e107
    refine ⟨b104, e105, ?_⟩
    obtain ⟨c108, h1⟩ := h1
    obtain ⟨_, h2⟩ := h2
    refine ⟨c108, ?_⟩
    obtain ⟨b109, e110, h1⟩ := h1
    obtain ⟨b111, e112, h2⟩ := h2
    cases e110.symm.trans e112
    refine ⟨b109, e110, ?_⟩
    obtain ⟨c113, h1⟩ := h1
    obtain ⟨_, h2⟩ := h2
    refine ⟨c113, ?_⟩
    obtain ⟨c114, h1⟩ := h1
    obtain ⟨_, h2⟩ := h2
    refine ⟨c114, ?_⟩
    obtain ⟨b115, e116, h1⟩ := h1
    obtain ⟨b117, e118, h2⟩ := h2
    cases e116.symm.trans e118
    refine ⟨b115, e116, ?_⟩
    obtain ⟨c119, h1⟩ := h1
    obtain ⟨_, h2⟩ := h2
    refine ⟨c119, ?_⟩
    refine cm_X1_wetInLee h1 h2 (fun x120 x121 h1 h2 g122 => ?_)
    have h1 := h1 g122
    have h2 := h2 g122
    refine ⟨?_, ?_⟩
    · intro c123
      have h1 := h1.1 c123
      have h2 := h2.1 c123
      refine ⟨?_, ?_⟩
      · intro c124
        have h1 := h1.1 c124
        have h2 := h2.1 c124
        exact hq _ _ h1 h2
      · intro c125
        have h1 := h1.2 c125
        have h2 := h2.2 c125
        exact hq _ _ h1 h2
    · intro c126
      have h1 := h1.2 c126
      have h2 := h2.2 c126
      exact hq _ _ h1 h2
  · intro c127
    have h1 := h1.2 c127
    have h2 := h2.2 c127
    exact hq _ _ h1 h2
theorem cm_X9_first {Q1 Q2 Q3 : Int32 → HS → Prop} {v0 : Nat} {v1 : Int32} {v2 : Int32} {v3 : Int32} {v4 : Int32} {v5 : Int32} {v6 : Int32} {S : HS} (h1 : P_X9_first v0 v1 v2 v3 v4 v5 v6 Q1 S) (h2 : P_X9_first v0 v1 v2 v3 v4 v5 v6 Q2 S) (hq : ∀ (r : Int32) (T : HS), Q1 r T → Q2 r T → Q3 r T) : P_X9_first v0 v1 v2 v3 v4 v5 v6 Q3 S := cm_X9_first_0 h1 h2 hq
set_option maxRecDepth 20000 in
set_option maxHeartbeats 1000000 in
theorem cm_X9_fit_15 {Q1 Q2 Q3 : Int32 → HS → Prop} {v0 : Nat} {S : HS} (h1 : P_X9_fit_15 Q1 v0 S) (h2 : P_X9_fit_15 Q2 v0 S) (hq : ∀ (r : Int32) (T : HS), Q1 r T → Q2 r T → Q3 r T) : P_X9_fit_15 Q3 v0 S := by
  delta P_X9_fit_15 at h1 h2 ⊢
  obtain ⟨c1, h1⟩ := h1
  obtain ⟨_, h2⟩ := h2
  refine ⟨c1, ?_⟩
  refine cm_X9_refuse h1 h2 (fun x2 x3 h1 h2 g4 => ?_)
  have h1 := h1 g4
  have h2 := h2 g4
  exact hq _ _ h1 h2
set_option maxRecDepth 20000 in
set_option maxHeartbeats 1000000 in
theorem cm_X9_fit_0 {Q1 Q2 Q3 : Int32 → HS → Prop} {v0 : Nat} {v1 : Int32} {v2 : Int32} {S : HS} (h1 : P_X9_fit_0 Q1 v0 v1 v2 S) (h2 : P_X9_fit_0 Q2 v0 v1 v2 S) (hq : ∀ (r : Int32) (T : HS), Q1 r T → Q2 r T → Q3 r T) : P_X9_fit_0 Q3 v0 v1 v2 S := by
  delta P_X9_fit_0 at h1 h2 ⊢
  obtain ⟨c1, h1⟩ := h1
  obtain ⟨_, h2⟩ := h2
  refine ⟨c1, ?_⟩
  obtain ⟨b2, e3, h1⟩ := h1
  obtain ⟨b4, e5, h2⟩ := h2
  cases e3.symm.trans e5
  refine ⟨b2, e3, ?_⟩
  obtain ⟨c6, h1⟩ := h1
  obtain ⟨_, h2⟩ := h2
  refine ⟨c6, ?_⟩
  refine cm_X8_hasSeen h1 h2 (fun x7 x8 h1 h2 g9 g10 => ?_)
  have h1 := h1 g9 g10
  have h2 := h2 g9 g10
  refine ⟨?_, ?_⟩
  · intro c11
    have h1 := h1.1 c11
    have h2 := h2.1 c11
    exact cm_X9_fit_15 h1 h2 hq
  · intro c12
    have h1 := h1.2 c12
    have h2 := h2.2 c12
    refine ⟨?_, ?_⟩
    · intro c13
      have h1 := h1.1 c13
      have h2 := h2.1 c13
      obtain ⟨b14, e15, h1⟩ := h1
      obtain ⟨b16, e17, h2⟩ := h2
      cases e15.symm.trans e17
      refine ⟨b14, e15, ?_⟩
      obtain ⟨b18, e19, h1⟩ := h1
      obtain ⟨b20, e21, h2⟩ := h2
      cases e19.symm.trans e21
      refine ⟨b18, e19, ?_⟩
      obtain ⟨c22, h1⟩ := h1
      obtain ⟨_, h2⟩ := h2
      refine ⟨c22, ?_⟩
      refine cm_X1_findFit h1 h2 (fun x23 x24 h1 h2 g25 => ?_)
      have h1 := h1 g25
      have h2 := h2 g25
      refine ⟨?_, ?_⟩
      · intro c26
        have h1 := h1.1 c26
        have h2 := h2.1 c26
        refine cm_X9_grant h1 h2 (fun x27 x28 h1 h2 g29 => ?_)
        have h1 := h1 g29
        have h2 := h2 g29
        exact hq _ _ h1 h2
      · intro c30
        have h1 := h1.2 c30
        have h2 := h2.2 c30
        refine cm_X9_refuse h1 h2 (fun x31 x32 h1 h2 g33 => ?_)
        have h1 := h1 g33
        have h2 := h2 g33
        exact hq _ _ h1 h2
    · intro c34
      have h1 := h1.2 c34
      have h2 := h2.2 c34
      exact cm_X9_fit_15 h1 h2 hq
theorem cm_X9_fit {Q1 Q2 Q3 : Int32 → HS → Prop} {v0 : Nat} {v1 : Int32} {v2 : Int32} {S : HS} (h1 : P_X9_fit v0 v1 v2 Q1 S) (h2 : P_X9_fit v0 v1 v2 Q2 S) (hq : ∀ (r : Int32) (T : HS), Q1 r T → Q2 r T → Q3 r T) : P_X9_fit v0 v1 v2 Q3 S := cm_X9_fit_0 h1 h2 hq
set_option maxRecDepth 20000 in
set_option maxHeartbeats 1000000 in
theorem cm_X9_fits_0 {Q1 Q2 Q3 : Int32 → HS → Prop} {v0 : Nat} {v1 : Int32} {S : HS} (h1 : P_X9_fits_0 Q1 v0 v1 S) (h2 : P_X9_fits_0 Q2 v0 v1 S) (hq : ∀ (r : Int32) (T : HS), Q1 r T → Q2 r T → Q3 r T) : P_X9_fits_0 Q3 v0 v1 S := by
  delta P_X9_fits_0 at h1 h2 ⊢
  obtain ⟨c1, h1⟩ := h1
  obtain ⟨_, h2⟩ := h2
  refine ⟨c1, ?_⟩
  obtain ⟨b2, e3, h1⟩ := h1
  obtain ⟨b4, e5, h2⟩ := h2
  cases e3.symm.trans e5
  refine ⟨b2, e3, ?_⟩
  obtain ⟨c6, h1⟩ := h1
  obtain ⟨_, h2⟩ := h2
  refine ⟨c6, ?_⟩
  refine cm_X8_hasSeen h1 h2 (fun x7 x8 h1 h2 g9 g10 => ?_)
  have h1 := h1 g9 g10
  have h2 := h2 g9 g10
  refine ⟨?_, ?_⟩
  · intro c11
    have h1 := h1.1 c11
    have h2 := h2.1 c11
    obtain ⟨b12, e13, h1⟩ := h1
    obtain ⟨b14, e15, h2⟩ := h2
    cases e13.symm.trans e15
    refine ⟨b12, e13, ?_⟩
    obtain ⟨b16, e17, h1⟩ := h1
    obtain ⟨b18, e19, h2⟩ := h2
    cases e17.symm.trans e19
    refine ⟨b16, e17, ?_⟩
    obtain ⟨c20, h1⟩ := h1
    obtain ⟨_, h2⟩ := h2
    refine ⟨c20, ?_⟩
    refine cm_X1_countFits h1 h2 (fun x21 x22 h1 h2 g23 => ?_)
    have h1 := h1 g23
    have h2 := h2 g23
    refine cm_X9_grant h1 h2 (fun x24 x25 h1 h2 g26 => ?_)
    have h1 := h1 g26
    have h2 := h2 g26
    exact hq _ _ h1 h2
  · intro c27
    have h1 := h1.2 c27
    have h2 := h2.2 c27
    refine cm_X9_refuse h1 h2 (fun x28 x29 h1 h2 g30 => ?_)
    have h1 := h1 g30
    have h2 := h2 g30
    exact hq _ _ h1 h2
theorem cm_X9_fits {Q1 Q2 Q3 : Int32 → HS → Prop} {v0 : Nat} {v1 : Int32} {S : HS} (h1 : P_X9_fits v0 v1 Q1 S) (h2 : P_X9_fits v0 v1 Q2 S) (hq : ∀ (r : Int32) (T : HS), Q1 r T → Q2 r T → Q3 r T) : P_X9_fits v0 v1 Q3 S := cm_X9_fits_0 h1 h2 hq
set_option maxRecDepth 20000 in
set_option maxHeartbeats 1000000 in
theorem cm_X9_go_45 {Q1 Q2 Q3 : Int32 → HS → Prop} {v0 : Nat} {S : HS} (h1 : P_X9_go_45 Q1 v0 S) (h2 : P_X9_go_45 Q2 v0 S) (hq : ∀ (r : Int32) (T : HS), Q1 r T → Q2 r T → Q3 r T) : P_X9_go_45 Q3 v0 S := by
  delta P_X9_go_45 at h1 h2 ⊢
  obtain ⟨c1, h1⟩ := h1
  obtain ⟨_, h2⟩ := h2
  refine ⟨c1, ?_⟩
  refine cm_X9_refuse h1 h2 (fun x2 x3 h1 h2 g4 => ?_)
  have h1 := h1 g4
  have h2 := h2 g4
  exact hq _ _ h1 h2
set_option maxRecDepth 20000 in
set_option maxHeartbeats 1000000 in
theorem cm_X9_go_243 {Q1 Q2 Q3 : Int32 → HS → Prop} {v0 : Nat} {v2 : Int32} {v5 : Nat} {v6 : Int32} {S : HS} (h1 : P_X9_go_243 Q1 v0 v2 v5 v6 S) (h2 : P_X9_go_243 Q2 v0 v2 v5 v6 S) (hq : ∀ (r : Int32) (T : HS), Q1 r T → Q2 r T → Q3 r T) : P_X9_go_243 Q3 v0 v2 v5 v6 S := by
  delta P_X9_go_243 at h1 h2 ⊢
  obtain ⟨c1, h1⟩ := h1
  obtain ⟨_, h2⟩ := h2
  refine ⟨c1, ?_⟩
  obtain ⟨b2, e3, h1⟩ := h1
  obtain ⟨b4, e5, h2⟩ := h2
  cases e3.symm.trans e5
  refine ⟨b2, e3, ?_⟩
  obtain ⟨c6, h1⟩ := h1
  obtain ⟨_, h2⟩ := h2
  refine ⟨c6, ?_⟩
  obtain ⟨b7, e8, h1⟩ := h1
  obtain ⟨b9, e10, h2⟩ := h2
  cases e8.symm.trans e10
  refine ⟨b7, e8, ?_⟩
  obtain ⟨c11, h1⟩ := h1
  obtain ⟨_, h2⟩ := h2
  refine ⟨c11, ?_⟩
  refine cm_X5_endOf h1 h2 (fun x12 x13 h1 h2 g14 => ?_)
  have h1 := h1 g14
  have h2 := h2 g14
  obtain ⟨c15, h1⟩ := h1
  obtain ⟨_, h2⟩ := h2
  refine ⟨c15, ?_⟩
  intro x17 e16
  have h1 := h1 x17 e16
  have h2 := h2 x17 e16
  obtain ⟨b18, e19, h1⟩ := h1
  obtain ⟨b20, e21, h2⟩ := h2
  cases e19.symm.trans e21
  refine ⟨b18, e19, ?_⟩
  obtain ⟨c22, h1⟩ := h1
  obtain ⟨_, h2⟩ := h2
  refine ⟨c22, ?_⟩
  obtain ⟨b23, e24, h1⟩ := h1
  obtain ⟨b25, e26, h2⟩ := h2
  cases e24.symm.trans e26
  refine ⟨b23, e24, ?_⟩
  obtain ⟨c27, h1⟩ := h1
  obtain ⟨_, h2⟩ := h2
  refine ⟨c27, ?_⟩
  intro x29 e28
  have h1 := h1 x29 e28
  have h2 := h2 x29 e28
  refine cm_X9_grant h1 h2 (fun x30 x31 h1 h2 g32 => ?_)
  have h1 := h1 g32
  have h2 := h2 g32
  exact hq _ _ h1 h2
set_option maxRecDepth 20000 in
set_option maxHeartbeats 1000000 in
theorem cm_X9_go_0 {Q1 Q2 Q3 : Int32 → HS → Prop} {v0 : Nat} {v1 : Int32} {v2 : Int32} {v3 : Int32} {S : HS} (h1 : P_X9_go_0 Q1 v0 v1 v2 v3 S) (h2 : P_X9_go_0 Q2 v0 v1 v2 v3 S) (hq : ∀ (r : Int32) (T : HS), Q1 r T → Q2 r T → Q3 r T) : P_X9_go_0 Q3 v0 v1 v2 v3 S := by
  delta P_X9_go_0 at h1 h2 ⊢
  obtain ⟨c1, h1⟩ := h1
  obtain ⟨_, h2⟩ := h2
  refine ⟨c1, ?_⟩
  obtain ⟨b2, e3, h1⟩ := h1
  obtain ⟨b4, e5, h2⟩ := h2
  cases e3.symm.trans e5
  refine ⟨b2, e3, ?_⟩
  obtain ⟨c6, h1⟩ := h1
  obtain ⟨_, h2⟩ := h2
  refine ⟨c6, ?_⟩
  refine cm_X0_isOn h1 h2 (fun x7 x8 h1 h2 g9 g10 => ?_)
  have h1 := h1 g9 g10
  have h2 := h2 g9 g10
  refine ⟨?_, ?_⟩
  · intro c11
    have h1 := h1.1 c11
    have h2 := h2.1 c11
    exact cm_X9_go_45 h1 h2 hq
  · intro c12
    have h1 := h1.2 c12
    have h2 := h2.2 c12
    obtain ⟨b13, e14, h1⟩ := h1
    obtain ⟨b15, e16, h2⟩ := h2
    cases e14.symm.trans e16
    refine ⟨b13, e14, ?_⟩
    obtain ⟨b17, e18, h1⟩ := h1
    obtain ⟨b19, e20, h2⟩ := h2
    cases e18.symm.trans e20
    refine ⟨b17, e18, ?_⟩
    obtain ⟨c21, h1⟩ := h1
    obtain ⟨_, h2⟩ := h2
    refine ⟨c21, ?_⟩
    intro x23 e22
    have h1 := h1 x23 e22
    have h2 := h2 x23 e22
    obtain ⟨c24, h1⟩ := h1
    obtain ⟨_, h2⟩ := h2
    refine ⟨c24, ?_⟩
    refine cm_X8_hasWalker h1 h2 (fun x25 x26 h1 h2 g27 g28 => ?_)
    have h1 := h1 g27 g28
    have h2 := h2 g27 g28
    refine ⟨?_, ?_⟩
    · intro c29
      have h1 := h1.1 c29
      have h2 := h2.1 c29
      exact cm_X9_go_45 h1 h2 hq
    · intro c30
      have h1 := h1.2 c30
      have h2 := h2.2 c30
      obtain ⟨b31, e32, h1⟩ := h1
      obtain ⟨b33, e34, h2⟩ := h2
      cases e32.symm.trans e34
      refine ⟨b31, e32, ?_⟩
      obtain ⟨c35, h1⟩ := h1
      obtain ⟨_, h2⟩ := h2
      refine ⟨c35, ?_⟩
      refine cm_X8_hasRoad h1 h2 (fun x36 x37 h1 h2 g38 g39 => ?_)
      have h1 := h1 g38 g39
      have h2 := h2 g38 g39
      refine ⟨?_, ?_⟩
      · intro c40
        have h1 := h1.1 c40
        have h2 := h2.1 c40
        exact cm_X9_go_45 h1 h2 hq
      · intro c41
        have h1 := h1.2 c41
        have h2 := h2.2 c41
        refine cm_X9_isWay h1 h2 (fun x42 x43 h1 h2 g44 g45 => ?_)
        have h1 := h1 g44 g45
        have h2 := h2 g44 g45
        refine ⟨?_, ?_⟩
        · intro c46
          have h1 := h1.1 c46
          have h2 := h2.1 c46
          obtain ⟨b47, e48, h1⟩ := h1
          obtain ⟨b49, e50, h2⟩ := h2
          cases e48.symm.trans e50
          refine ⟨b47, e48, ?_⟩
          obtain ⟨c51, h1⟩ := h1
          obtain ⟨_, h2⟩ := h2
          refine ⟨c51, ?_⟩
          obtain ⟨b52, e53, h1⟩ := h1
          obtain ⟨b54, e55, h2⟩ := h2
          cases e53.symm.trans e55
          refine ⟨b52, e53, ?_⟩
          obtain ⟨b56, e57, h1⟩ := h1
          obtain ⟨b58, e59, h2⟩ := h2
          cases e57.symm.trans e59
          refine ⟨b56, e57, ?_⟩
          obtain ⟨c60, h1⟩ := h1
          obtain ⟨_, h2⟩ := h2
          refine ⟨c60, ?_⟩
          intro x62 e61
          have h1 := h1 x62 e61
          have h2 := h2 x62 e61
          obtain ⟨c63, h1⟩ := h1
          obtain ⟨_, h2⟩ := h2
          refine ⟨c63, ?_⟩
          obtain ⟨c64, h1⟩ := h1
          obtain ⟨_, h2⟩ := h2
          refine ⟨c64, ?_⟩
          obtain ⟨b65, e66, h1⟩ := h1
          obtain ⟨b67, e68, h2⟩ := h2
          cases e66.symm.trans e68
          refine ⟨b65, e66, ?_⟩
          obtain ⟨b69, e70, h1⟩ := h1
          obtain ⟨b71, e72, h2⟩ := h2
          cases e70.symm.trans e72
          refine ⟨b69, e70, ?_⟩
          obtain ⟨c73, h1⟩ := h1
          obtain ⟨_, h2⟩ := h2
          refine ⟨c73, ?_⟩
          obtain ⟨b74, e75, h1⟩ := h1
          obtain ⟨b76, e77, h2⟩ := h2
          cases e75.symm.trans e77
          refine ⟨b74, e75, ?_⟩
          obtain ⟨c78, h1⟩ := h1
          obtain ⟨_, h2⟩ := h2
          refine ⟨c78, ?_⟩
          obtain ⟨c79, h1⟩ := h1
          obtain ⟨_, h2⟩ := h2
          refine ⟨c79, ?_⟩
          obtain ⟨b80, e81, h1⟩ := h1
          obtain ⟨b82, e83, h2⟩ := h2
          cases e81.symm.trans e83
          refine ⟨b80, e81, ?_⟩
          obtain ⟨c84, h1⟩ := h1
          obtain ⟨_, h2⟩ := h2
          refine ⟨c84, ?_⟩
          refine cm_X6_canGo h1 h2 (fun x85 x86 h1 h2 g87 g88 => ?_)
          have h1 := h1 g87 g88
          have h2 := h2 g87 g88
          refine ⟨?_, ?_⟩
          · intro c89
            have h1 := h1.1 c89
            have h2 := h2.1 c89
            obtain ⟨c90, h1⟩ := h1
            obtain ⟨_, h2⟩ := h2
            refine ⟨c90, ?_⟩
            refine cm_X5_startOf h1 h2 (fun x91 x92 h1 h2 g93 => ?_)
            have h1 := h1 g93
            have h2 := h2 g93
            obtain ⟨b94, e95, h1⟩ := h1
            obtain ⟨b96, e97, h2⟩ := h2
            cases e95.symm.trans e97
            refine ⟨b94, e95, ?_⟩
            obtain ⟨c98, h1⟩ := h1
            obtain ⟨_, h2⟩ := h2
            refine ⟨c98, ?_⟩
            obtain ⟨b99, e100, h1⟩ := h1
            obtain ⟨b101, e102, h2⟩ := h2
            cases e100.symm.trans e102
            refine ⟨b99, e100, ?_⟩
            obtain ⟨c103, h1⟩ := h1
            obtain ⟨_, h2⟩ := h2
            refine ⟨c103, ?_⟩
            intro x105 e104
            have h1 := h1 x105 e104
            have h2 := h2 x105 e104
            refine ⟨?_, ?_⟩
            · intro c106
              have h1 := h1.1 c106
              have h2 := h2.1 c106
              obtain ⟨b107, e108, h1⟩ := h1
              obtain ⟨b109, e110, h2⟩ := h2
              cases e108.symm.trans e110
              refine ⟨b107, e108, ?_⟩
              obtain ⟨c111, h1⟩ := h1
              obtain ⟨_, h2⟩ := h2
              refine ⟨c111, ?_⟩
              obtain ⟨b112, e113, h1⟩ := h1
              obtain ⟨b114, e115, h2⟩ := h2
              cases e113.symm.trans e115
              refine ⟨b112, e113, ?_⟩
              obtain ⟨c116, h1⟩ := h1
              obtain ⟨_, h2⟩ := h2
              refine ⟨c116, ?_⟩
              intro x118 e117
              have h1 := h1 x118 e117
              have h2 := h2 x118 e117
              refine cm_X5_minutesAt h1 h2 (fun x119 x120 h1 h2 g121 => ?_)
              have h1 := h1 g121
              have h2 := h2 g121
              intro x123 e122
              have h1 := h1 x123 e122
              have h2 := h2 x123 e122
              refine ⟨?_, ?_⟩
              · intro c124
                have h1 := h1.1 c124
                have h2 := h2.1 c124
                obtain ⟨b125, e126, h1⟩ := h1
                obtain ⟨b127, e128, h2⟩ := h2
                cases e126.symm.trans e128
                refine ⟨b125, e126, ?_⟩
                obtain ⟨c129, h1⟩ := h1
                obtain ⟨_, h2⟩ := h2
                refine ⟨c129, ?_⟩
                refine cm_X0_keepForUndo h1 h2 (fun x130 h1 h2 g131 => ?_)
                have h1 := h1 g131
                have h2 := h2 g131
                obtain ⟨b132, e133, h1⟩ := h1
                obtain ⟨b134, e135, h2⟩ := h2
                cases e133.symm.trans e135
                refine ⟨b132, e133, ?_⟩
                obtain ⟨b136, e137, h1⟩ := h1
                obtain ⟨b138, e139, h2⟩ := h2
                cases e137.symm.trans e139
                refine ⟨b136, e137, ?_⟩
                obtain ⟨c140, h1⟩ := h1
                obtain ⟨_, h2⟩ := h2
                refine ⟨c140, ?_⟩
                obtain ⟨b141, e142, h1⟩ := h1
                obtain ⟨b143, e144, h2⟩ := h2
                cases e142.symm.trans e144
                refine ⟨b141, e142, ?_⟩
                obtain ⟨c145, h1⟩ := h1
                obtain ⟨_, h2⟩ := h2
                refine ⟨c145, ?_⟩
                intro x147 e146
                have h1 := h1 x147 e146
                have h2 := h2 x147 e146
                obtain ⟨c148, h1⟩ := h1
                obtain ⟨_, h2⟩ := h2
                refine ⟨c148, ?_⟩
                refine cm_X8_hourOf h1 h2 (fun x149 x150 h1 h2 g151 => ?_)
                have h1 := h1 g151
                have h2 := h2 g151
                obtain ⟨b152, e153, h1⟩ := h1
                obtain ⟨b154, e155, h2⟩ := h2
                cases e153.symm.trans e155
                refine ⟨b152, e153, ?_⟩
                obtain ⟨c156, h1⟩ := h1
                obtain ⟨_, h2⟩ := h2
                refine ⟨c156, ?_⟩
                refine cm_X8_hasHour h1 h2 (fun x157 x158 h1 h2 g159 g160 => ?_)
                have h1 := h1 g159 g160
                have h2 := h2 g159 g160
                refine ⟨?_, ?_⟩
                · intro c161
                  have h1 := h1.1 c161
                  have h2 := h2.1 c161
                  exact cm_X9_go_243 h1 h2 hq
                · intro c162
                  have h1 := h1.2 c162
                  have h2 := h2.2 c162
                  obtain ⟨b163, e164, h1⟩ := h1
                  obtain ⟨b165, e166, h2⟩ := h2
                  cases e164.symm.trans e166
                  refine ⟨b163, e164, ?_⟩
                  obtain ⟨c167, h1⟩ := h1
                  obtain ⟨_, h2⟩ := h2
                  refine ⟨c167, ?_⟩
                  refine cm_X0_rainsIn h1 h2 (fun x168 x169 h1 h2 g170 g171 => ?_)
                  have h1 := h1 g170 g171
                  have h2 := h2 g170 g171
                  refine ⟨?_, ?_⟩
                  · intro c172
                    have h1 := h1.1 c172
                    have h2 := h2.1 c172
                    exact cm_X9_go_243 h1 h2 hq
                  · intro c173
                    have h1 := h1.2 c173
                    have h2 := h2.2 c173
                    obtain ⟨b174, e175, h1⟩ := h1
                    obtain ⟨b176, e177, h2⟩ := h2
                    cases e175.symm.trans e177
                    refine ⟨b174, e175, ?_⟩
                    obtain ⟨b178, e179, h1⟩ := h1
                    obtain ⟨b180, e181, h2⟩ := h2
                    cases e179.symm.trans e181
                    refine ⟨b178, e179, ?_⟩
                    obtain ⟨c182, h1⟩ := h1
                    obtain ⟨_, h2⟩ := h2
                    refine ⟨c182, ?_⟩
                    obtain ⟨b183, e184, h1⟩ := h1
                    obtain ⟨b185, e186, h2⟩ := h2
                    cases e184.symm.trans e186
                    refine ⟨b183, e184, ?_⟩
                    obtain ⟨c187, h1⟩ := h1
                    obtain ⟨_, h2⟩ := h2
                    refine ⟨c187, ?_⟩
                    obtain ⟨c188, h1⟩ := h1
                    obtain ⟨_, h2⟩ := h2
                    refine ⟨c188, ?_⟩
                    obtain ⟨b189, e190, h1⟩ := h1
                    obtain ⟨b191, e192, h2⟩ := h2
                    cases e190.symm.trans e192
                    refine ⟨b189, e190, ?_⟩
                    obtain ⟨c193, h1⟩ := h1
                    obtain ⟨_, h2⟩ := h2
                    refine ⟨c193, ?_⟩
                    refine cm_X1_wetOf h1 h2 (fun x194 x195 h1 h2 g196 => ?_)
                    have h1 := h1 g196
                    have h2 := h2 g196
                    obtain ⟨b197, e198, h1⟩ := h1
                    obtain ⟨b199, e200, h2⟩ := h2
                    cases e198.symm.trans e200
                    refine ⟨b197, e198, ?_⟩
                    obtain ⟨c201, h1⟩ := h1
                    obtain ⟨_, h2⟩ := h2
                    refine ⟨c201, ?_⟩
                    obtain ⟨b202, e203, h1⟩ := h1
                    obtain ⟨b204, e205, h2⟩ := h2
                    cases e203.symm.trans e205
                    refine ⟨b202, e203, ?_⟩
                    obtain ⟨b206, e207, h1⟩ := h1
                    obtain ⟨b208, e209, h2⟩ := h2
                    cases e207.symm.trans e209
                    refine ⟨b206, e207, ?_⟩
                    obtain ⟨c210, h1⟩ := h1
                    obtain ⟨_, h2⟩ := h2
                    refine ⟨c210, ?_⟩
                    obtain ⟨b211, e212, h1⟩ := h1
                    obtain ⟨b213, e214, h2⟩ := h2
                    cases e212.symm.trans e214
                    refine ⟨b211, e212, ?_⟩
                    obtain ⟨c215, h1⟩ := h1
                    obtain ⟨_, h2⟩ := h2
                    refine ⟨c215, ?_⟩
                    refine cm_X2_addFaces h1 h2 (fun x216 h1 h2 g217 => ?_)
                    have h1 := h1 g217
                    have h2 := h2 g217
                    exact cm_X9_go_243 h1 h2 hq
              · intro c218
                have h1 := h1.2 c218
                have h2 := h2.2 c218
                refine cm_X9_refuse h1 h2 (fun x219 x220 h1 h2 g221 => ?_)
                have h1 := h1 g221
                have h2 := h2 g221
                exact hq _ _ h1 h2
            · intro c222
              have h1 := h1.2 c222
              have h2 := h2.2 c222
              refine cm_X9_refuse h1 h2 (fun x223 x224 h1 h2 g225 => ?_)
              have h1 := h1 g225
              have h2 := h2 g225
              exact hq _ _ h1 h2
          · intro c226
            have h1 := h1.2 c226
            have h2 := h2.2 c226
            refine cm_X9_refuse h1 h2 (fun x227 x228 h1 h2 g229 => ?_)
            have h1 := h1 g229
            have h2 := h2 g229
            exact hq _ _ h1 h2
        · intro c230
          have h1 := h1.2 c230
          have h2 := h2.2 c230
          exact cm_X9_go_45 h1 h2 hq
theorem cm_X9_go {Q1 Q2 Q3 : Int32 → HS → Prop} {v0 : Nat} {v1 : Int32} {v2 : Int32} {v3 : Int32} {S : HS} (h1 : P_X9_go v0 v1 v2 v3 Q1 S) (h2 : P_X9_go v0 v1 v2 v3 Q2 S) (hq : ∀ (r : Int32) (T : HS), Q1 r T → Q2 r T → Q3 r T) : P_X9_go v0 v1 v2 v3 Q3 S := cm_X9_go_0 h1 h2 hq
set_option maxRecDepth 20000 in
set_option maxHeartbeats 1000000 in
theorem cm_X9_got_17 {Q1 Q2 Q3 : Int64 → HS → Prop} {v0 : Nat} {S : HS} (h1 : P_X9_got_17 Q1 v0 S) (h2 : P_X9_got_17 Q2 v0 S) (hq : ∀ (r : Int64) (T : HS), Q1 r T → Q2 r T → Q3 r T) : P_X9_got_17 Q3 v0 S := by
  delta P_X9_got_17 at h1 h2 ⊢
  obtain ⟨c1, h1⟩ := h1
  obtain ⟨_, h2⟩ := h2
  refine ⟨c1, ?_⟩
  refine cm_X9_refuse h1 h2 (fun x2 x3 h1 h2 g4 => ?_)
  have h1 := h1 g4
  have h2 := h2 g4
  exact hq _ _ h1 h2
set_option maxRecDepth 20000 in
set_option maxHeartbeats 1000000 in
theorem cm_X9_got_0 {Q1 Q2 Q3 : Int64 → HS → Prop} {v0 : Nat} {v1 : Int32} {v2 : Int32} {S : HS} (h1 : P_X9_got_0 Q1 v0 v1 v2 S) (h2 : P_X9_got_0 Q2 v0 v1 v2 S) (hq : ∀ (r : Int64) (T : HS), Q1 r T → Q2 r T → Q3 r T) : P_X9_got_0 Q3 v0 v1 v2 S := by
  delta P_X9_got_0 at h1 h2 ⊢
  obtain ⟨c1, h1⟩ := h1
  obtain ⟨_, h2⟩ := h2
  refine ⟨c1, ?_⟩
  obtain ⟨b2, e3, h1⟩ := h1
  obtain ⟨b4, e5, h2⟩ := h2
  cases e3.symm.trans e5
  refine ⟨b2, e3, ?_⟩
  obtain ⟨c6, h1⟩ := h1
  obtain ⟨_, h2⟩ := h2
  refine ⟨c6, ?_⟩
  refine cm_X0_isOn h1 h2 (fun x7 x8 h1 h2 g9 g10 => ?_)
  have h1 := h1 g9 g10
  have h2 := h2 g9 g10
  refine ⟨?_, ?_⟩
  · intro c11
    have h1 := h1.1 c11
    have h2 := h2.1 c11
    exact cm_X9_got_17 h1 h2 hq
  · intro c12
    have h1 := h1.2 c12
    have h2 := h2.2 c12
    refine cm_X9_isFace h1 h2 (fun x13 x14 h1 h2 g15 g16 => ?_)
    have h1 := h1 g15 g16
    have h2 := h2 g15 g16
    refine ⟨?_, ?_⟩
    · intro c17
      have h1 := h1.1 c17
      have h2 := h2.1 c17
      intro x19 e18
      have h1 := h1 x19 e18
      have h2 := h2 x19 e18
      obtain ⟨b20, e21, h1⟩ := h1
      obtain ⟨b22, e23, h2⟩ := h2
      cases e21.symm.trans e23
      refine ⟨b20, e21, ?_⟩
      obtain ⟨c24, h1⟩ := h1
      obtain ⟨_, h2⟩ := h2
      refine ⟨c24, ?_⟩
      obtain ⟨b25, e26, h1⟩ := h1
      obtain ⟨b27, e28, h2⟩ := h2
      cases e26.symm.trans e28
      refine ⟨b25, e26, ?_⟩
      obtain ⟨c29, h1⟩ := h1
      obtain ⟨_, h2⟩ := h2
      refine ⟨c29, ?_⟩
      obtain ⟨b30, e31, h1⟩ := h1
      obtain ⟨b32, e33, h2⟩ := h2
      cases e31.symm.trans e33
      refine ⟨b30, e31, ?_⟩
      obtain ⟨c34, h1⟩ := h1
      obtain ⟨_, h2⟩ := h2
      refine ⟨c34, ?_⟩
      obtain ⟨c35, h1⟩ := h1
      obtain ⟨_, h2⟩ := h2
      refine ⟨c35, ?_⟩
      intro x37 e36
      have h1 := h1 x37 e36
      have h2 := h2 x37 e36
      refine cm_X9_fraction h1 h2 (fun x38 x39 h1 h2 g40 => ?_)
      have h1 := h1 g40
      have h2 := h2 g40
      exact hq _ _ h1 h2
    · intro c41
      have h1 := h1.2 c41
      have h2 := h2.2 c41
      exact cm_X9_got_17 h1 h2 hq
theorem cm_X9_got {Q1 Q2 Q3 : Int64 → HS → Prop} {v0 : Nat} {v1 : Int32} {v2 : Int32} {S : HS} (h1 : P_X9_got v0 v1 v2 Q1 S) (h2 : P_X9_got v0 v1 v2 Q2 S) (hq : ∀ (r : Int64) (T : HS), Q1 r T → Q2 r T → Q3 r T) : P_X9_got v0 v1 v2 Q3 S := cm_X9_got_0 h1 h2 hq
set_option maxRecDepth 20000 in
set_option maxHeartbeats 1000000 in
theorem cm_X9_held_0 {Q1 Q2 Q3 : Int32 → HS → Prop} {v0 : Nat} {v1 : Int32} {v2 : Int32} {v3 : Int32} {v4 : Int32} {v5 : Int32} {S : HS} (h1 : P_X9_held_0 Q1 v0 v1 v2 v3 v4 v5 S) (h2 : P_X9_held_0 Q2 v0 v1 v2 v3 v4 v5 S) (hq : ∀ (r : Int32) (T : HS), Q1 r T → Q2 r T → Q3 r T) : P_X9_held_0 Q3 v0 v1 v2 v3 v4 v5 S := by
  delta P_X9_held_0 at h1 h2 ⊢
  obtain ⟨c1, h1⟩ := h1
  obtain ⟨_, h2⟩ := h2
  refine ⟨c1, ?_⟩
  refine cm_X9_legTrouble h1 h2 (fun x2 x3 h1 h2 g4 => ?_)
  have h1 := h1 g4
  have h2 := h2 g4
  refine cm_X9_refusedBy h1 h2 (fun x5 x6 h1 h2 g7 g8 => ?_)
  have h1 := h1 g7 g8
  have h2 := h2 g7 g8
  refine ⟨?_, ?_⟩
  · intro c9
    have h1 := h1.1 c9
    have h2 := h2.1 c9
    obtain ⟨b10, e11, h1⟩ := h1
    obtain ⟨b12, e13, h2⟩ := h2
    cases e11.symm.trans e13
    refine ⟨b10, e11, ?_⟩
    obtain ⟨c14, h1⟩ := h1
    obtain ⟨_, h2⟩ := h2
    refine ⟨c14, ?_⟩
    obtain ⟨b15, e16, h1⟩ := h1
    obtain ⟨b17, e18, h2⟩ := h2
    cases e16.symm.trans e18
    refine ⟨b15, e16, ?_⟩
    obtain ⟨c19, h1⟩ := h1
    obtain ⟨_, h2⟩ := h2
    refine ⟨c19, ?_⟩
    obtain ⟨c20, h1⟩ := h1
    obtain ⟨_, h2⟩ := h2
    refine ⟨c20, ?_⟩
    obtain ⟨b21, e22, h1⟩ := h1
    obtain ⟨b23, e24, h2⟩ := h2
    cases e22.symm.trans e24
    refine ⟨b21, e22, ?_⟩
    obtain ⟨c25, h1⟩ := h1
    obtain ⟨_, h2⟩ := h2
    refine ⟨c25, ?_⟩
    intro x27 e26
    have h1 := h1 x27 e26
    have h2 := h2 x27 e26
    refine ⟨?_, ?_⟩
    · intro c28
      have h1 := h1.1 c28
      have h2 := h2.1 c28
      obtain ⟨b29, e30, h1⟩ := h1
      obtain ⟨b31, e32, h2⟩ := h2
      cases e30.symm.trans e32
      refine ⟨b29, e30, ?_⟩
      obtain ⟨b33, e34, h1⟩ := h1
      obtain ⟨b35, e36, h2⟩ := h2
      cases e34.symm.trans e36
      refine ⟨b33, e34, ?_⟩
      obtain ⟨c37, h1⟩ := h1
      obtain ⟨_, h2⟩ := h2
      refine ⟨c37, ?_⟩
      obtain ⟨b38, e39, h1⟩ := h1
      obtain ⟨b40, e41, h2⟩ := h2
      cases e39.symm.trans e41
      refine ⟨b38, e39, ?_⟩
      obtain ⟨c42, h1⟩ := h1
      obtain ⟨_, h2⟩ := h2
      refine ⟨c42, ?_⟩
      obtain ⟨c43, h1⟩ := h1
      obtain ⟨_, h2⟩ := h2
      refine ⟨c43, ?_⟩
      obtain ⟨b44, e45, h1⟩ := h1
      obtain ⟨b46, e47, h2⟩ := h2
      cases e45.symm.trans e47
      refine ⟨b44, e45, ?_⟩
      obtain ⟨b48, e49, h1⟩ := h1
      obtain ⟨b50, e51, h2⟩ := h2
      cases e49.symm.trans e51
      refine ⟨b48, e49, ?_⟩
      obtain ⟨c52, h1⟩ := h1
      obtain ⟨_, h2⟩ := h2
      refine ⟨c52, ?_⟩
      obtain ⟨b53, e54, h1⟩ := h1
      obtain ⟨b55, e56, h2⟩ := h2
      cases e54.symm.trans e56
      refine ⟨b53, e54, ?_⟩
      obtain ⟨c57, h1⟩ := h1
      obtain ⟨_, h2⟩ := h2
      refine ⟨c57, ?_⟩
      obtain ⟨c58, h1⟩ := h1
      obtain ⟨_, h2⟩ := h2
      refine ⟨c58, ?_⟩
      obtain ⟨b59, e60, h1⟩ := h1
      obtain ⟨b61, e62, h2⟩ := h2
      cases e60.symm.trans e62
      refine ⟨b59, e60, ?_⟩
      obtain ⟨c63, h1⟩ := h1
      obtain ⟨_, h2⟩ := h2
      refine ⟨c63, ?_⟩
      refine cm_X1_lay h1 h2 (fun x64 h1 h2 g65 => ?_)
      have h1 := h1 g65
      have h2 := h2 g65
      obtain ⟨b66, e67, h1⟩ := h1
      obtain ⟨b68, e69, h2⟩ := h2
      cases e67.symm.trans e69
      refine ⟨b66, e67, ?_⟩
      obtain ⟨b70, e71, h1⟩ := h1
      obtain ⟨b72, e73, h2⟩ := h2
      cases e71.symm.trans e73
      refine ⟨b70, e71, ?_⟩
      obtain ⟨c74, h1⟩ := h1
      obtain ⟨_, h2⟩ := h2
      refine ⟨c74, ?_⟩
      obtain ⟨b75, e76, h1⟩ := h1
      obtain ⟨b77, e78, h2⟩ := h2
      cases e76.symm.trans e78
      refine ⟨b75, e76, ?_⟩
      obtain ⟨c79, h1⟩ := h1
      obtain ⟨_, h2⟩ := h2
      refine ⟨c79, ?_⟩
      obtain ⟨c80, h1⟩ := h1
      obtain ⟨_, h2⟩ := h2
      refine ⟨c80, ?_⟩
      obtain ⟨b81, e82, h1⟩ := h1
      obtain ⟨b83, e84, h2⟩ := h2
      cases e82.symm.trans e84
      refine ⟨b81, e82, ?_⟩
      obtain ⟨c85, h1⟩ := h1
      obtain ⟨_, h2⟩ := h2
      refine ⟨c85, ?_⟩
      refine cm_X1_isForward h1 h2 (fun x86 x87 h1 h2 g88 g89 => ?_)
      have h1 := h1 g88 g89
      have h2 := h2 g88 g89
      refine ⟨?_, ?_⟩
      · intro c90
        have h1 := h1.1 c90
        have h2 := h2.1 c90
        exact hq _ _ h1 h2
      · intro c91
        have h1 := h1.2 c91
        have h2 := h2.2 c91
        exact hq _ _ h1 h2
    · intro c92
      have h1 := h1.2 c92
      have h2 := h2.2 c92
      exact hq _ _ h1 h2
  · intro c93
    have h1 := h1.2 c93
    have h2 := h2.2 c93
    exact hq _ _ h1 h2
theorem cm_X9_held {Q1 Q2 Q3 : Int32 → HS → Prop} {v0 : Nat} {v1 : Int32} {v2 : Int32} {v3 : Int32} {v4 : Int32} {v5 : Int32} {S : HS} (h1 : P_X9_held v0 v1 v2 v3 v4 v5 Q1 S) (h2 : P_X9_held v0 v1 v2 v3 v4 v5 Q2 S) (hq : ∀ (r : Int32) (T : HS), Q1 r T → Q2 r T → Q3 r T) : P_X9_held v0 v1 v2 v3 v4 v5 Q3 S := cm_X9_held_0 h1 h2 hq
set_option maxRecDepth 20000 in
set_option maxHeartbeats 1000000 in
theorem cm_X9_init_0 {Q1 Q2 Q3 : HS → Prop} {v0 : Nat} {S : HS} (h1 : P_X9_init_0 Q1 v0 S) (h2 : P_X9_init_0 Q2 v0 S) (hq : ∀ (T : HS), Q1 T → Q2 T → Q3 T) : P_X9_init_0 Q3 v0 S := by
  delta P_X9_init_0 at h1 h2 ⊢
  intro x2 e1
  have h1 := h1 x2 e1
  have h2 := h2 x2 e1
  intro x4 e3
  have h1 := h1 x4 e3
  have h2 := h2 x4 e3
  obtain ⟨c5, h1⟩ := h1
  obtain ⟨_, h2⟩ := h2
  refine ⟨c5, ?_⟩
  intro x7 e6
  have h1 := h1 x7 e6
  have h2 := h2 x7 e6
  intro x9 e8
  have h1 := h1 x9 e8
  have h2 := h2 x9 e8
  intro x11 e10
  have h1 := h1 x11 e10
  have h2 := h2 x11 e10
  refine cm_X8_init h1 h2 (fun x12 h1 h2 g13 => ?_)
  have h1 := h1 g13
  have h2 := h2 g13
  intro x15 e14
  have h1 := h1 x15 e14
  have h2 := h2 x15 e14
  intro x17 e16
  have h1 := h1 x17 e16
  have h2 := h2 x17 e16
  intro x19 e18
  have h1 := h1 x19 e18
  have h2 := h2 x19 e18
  refine cm_X4_init h1 h2 (fun x20 h1 h2 g21 => ?_)
  have h1 := h1 g21
  have h2 := h2 g21
  intro x23 e22
  have h1 := h1 x23 e22
  have h2 := h2 x23 e22
  intro x25 e24
  have h1 := h1 x25 e24
  have h2 := h2 x25 e24
  intro x27 e26
  have h1 := h1 x27 e26
  have h2 := h2 x27 e26
  refine cm_X1_init h1 h2 (fun x28 h1 h2 g29 => ?_)
  have h1 := h1 g29
  have h2 := h2 g29
  intro x31 e30
  have h1 := h1 x31 e30
  have h2 := h2 x31 e30
  intro x33 e32
  have h1 := h1 x33 e32
  have h2 := h2 x33 e32
  intro x35 e34
  have h1 := h1 x35 e34
  have h2 := h2 x35 e34
  refine cm_X7_init h1 h2 (fun x36 h1 h2 g37 => ?_)
  have h1 := h1 g37
  have h2 := h2 g37
  intro x39 e38
  have h1 := h1 x39 e38
  have h2 := h2 x39 e38
  intro x41 e40
  have h1 := h1 x41 e40
  have h2 := h2 x41 e40
  intro x43 e42
  have h1 := h1 x43 e42
  have h2 := h2 x43 e42
  refine cm_X0_init h1 h2 (fun x44 h1 h2 g45 => ?_)
  have h1 := h1 g45
  have h2 := h2 g45
  intro x47 e46
  have h1 := h1 x47 e46
  have h2 := h2 x47 e46
  exact hq _ h1 h2
theorem cm_X9_init {Q1 Q2 Q3 : HS → Prop} {v0 : Nat} {S : HS} (h1 : P_X9_init v0 Q1 S) (h2 : P_X9_init v0 Q2 S) (hq : ∀ (T : HS), Q1 T → Q2 T → Q3 T) : P_X9_init v0 Q3 S := cm_X9_init_0 h1 h2 hq
set_option maxRecDepth 20000 in
set_option maxHeartbeats 1000000 in
theorem cm_X9_isTill_0 {Q1 Q2 Q3 : Int32 → HS → Prop} {v0 : Int32} {S : HS} (h1 : P_X9_isTill_0 Q1 v0 S) (h2 : P_X9_isTill_0 Q2 v0 S) (hq : ∀ (r : Int32) (T : HS), Q1 r T → Q2 r T → Q3 r T) : P_X9_isTill_0 Q3 v0 S := by
  delta P_X9_isTill_0 at h1 h2 ⊢
  refine ⟨?_, ?_⟩
  · intro c1
    have h1 := h1.1 c1
    have h2 := h2.1 c1
    exact hq _ _ h1 h2
  · intro c2
    have h1 := h1.2 c2
    have h2 := h2.2 c2
    refine ⟨?_, ?_⟩
    · intro c3
      have h1 := h1.1 c3
      have h2 := h2.1 c3
      exact hq _ _ h1 h2
    · intro c4
      have h1 := h1.2 c4
      have h2 := h2.2 c4
      exact hq _ _ h1 h2
theorem cm_X9_isTill {Q1 Q2 Q3 : Int32 → HS → Prop} {v0 : Int32} {S : HS} (h1 : P_X9_isTill v0 Q1 S) (h2 : P_X9_isTill v0 Q2 S) (hq : ∀ (r : Int32) (T : HS), Q1 r T → Q2 r T → Q3 r T) : P_X9_isTill v0 Q3 S := cm_X9_isTill_0 h1 h2 hq
set_option maxRecDepth 20000 in
set_option maxHeartbeats 1000000 in
theorem cm_X9_placesTrouble_38 {Q1 Q2 Q3 : Int32 → HS → Prop} {s0 : Int32} {S : HS} (h1 : P_X9_placesTrouble_38 Q1 s0 S) (h2 : P_X9_placesTrouble_38 Q2 s0 S) (hq : ∀ (r : Int32) (T : HS), Q1 r T → Q2 r T → Q3 r T) : P_X9_placesTrouble_38 Q3 s0 S := by
  delta P_X9_placesTrouble_38 at h1 h2 ⊢
  refine ⟨?_, ?_⟩
  · intro c1
    have h1 := h1.1 c1
    have h2 := h2.1 c1
    exact hq _ _ h1 h2
  · intro c2
    have h1 := h1.2 c2
    have h2 := h2.2 c2
    exact hq _ _ h1 h2
set_option maxRecDepth 20000 in
set_option maxHeartbeats 1000000 in
theorem cm_X9_placesTrouble_37 {Q1 Q2 Q3 : Int32 → HS → Prop} {S : HS} (h1 : P_X9_placesTrouble_37 Q1 S) (h2 : P_X9_placesTrouble_37 Q2 S) (hq : ∀ (r : Int32) (T : HS), Q1 r T → Q2 r T → Q3 r T) : P_X9_placesTrouble_37 Q3 S := by
  delta P_X9_placesTrouble_37 at h1 h2 ⊢
  exact cm_X9_placesTrouble_38 h1 h2 hq
set_option maxRecDepth 20000 in
set_option maxHeartbeats 1000000 in
theorem cm_X9_placesTrouble_0 {Q1 Q2 Q3 : Int32 → HS → Prop} {v0 : Nat} {v1 : Int32} {v2 : Int32} {v3 : Int32} {S : HS} (h1 : P_X9_placesTrouble_0 Q1 v0 v1 v2 v3 S) (h2 : P_X9_placesTrouble_0 Q2 v0 v1 v2 v3 S) (hq : ∀ (r : Int32) (T : HS), Q1 r T → Q2 r T → Q3 r T) : P_X9_placesTrouble_0 Q3 v0 v1 v2 v3 S := by
  delta P_X9_placesTrouble_0 at h1 h2 ⊢
  obtain ⟨c1, h1⟩ := h1
  obtain ⟨_, h2⟩ := h2
  refine ⟨c1, ?_⟩
  obtain ⟨b2, e3, h1⟩ := h1
  obtain ⟨b4, e5, h2⟩ := h2
  cases e3.symm.trans e5
  refine ⟨b2, e3, ?_⟩
  obtain ⟨c6, h1⟩ := h1
  obtain ⟨_, h2⟩ := h2
  refine ⟨c6, ?_⟩
  refine cm_X8_hasWalker h1 h2 (fun x7 x8 h1 h2 g9 g10 => ?_)
  have h1 := h1 g9 g10
  have h2 := h2 g9 g10
  refine ⟨?_, ?_⟩
  · intro c11
    have h1 := h1.1 c11
    have h2 := h2.1 c11
    exact cm_X9_placesTrouble_37 h1 h2 hq
  · intro c12
    have h1 := h1.2 c12
    have h2 := h2.2 c12
    obtain ⟨b13, e14, h1⟩ := h1
    obtain ⟨b15, e16, h2⟩ := h2
    cases e14.symm.trans e16
    refine ⟨b13, e14, ?_⟩
    obtain ⟨c17, h1⟩ := h1
    obtain ⟨_, h2⟩ := h2
    refine ⟨c17, ?_⟩
    refine cm_X8_hasPlace h1 h2 (fun x18 x19 h1 h2 g20 g21 => ?_)
    have h1 := h1 g20 g21
    have h2 := h2 g20 g21
    refine ⟨?_, ?_⟩
    · intro c22
      have h1 := h1.1 c22
      have h2 := h2.1 c22
      exact cm_X9_placesTrouble_37 h1 h2 hq
    · intro c23
      have h1 := h1.2 c23
      have h2 := h2.2 c23
      obtain ⟨b24, e25, h1⟩ := h1
      obtain ⟨b26, e27, h2⟩ := h2
      cases e25.symm.trans e27
      refine ⟨b24, e25, ?_⟩
      obtain ⟨c28, h1⟩ := h1
      obtain ⟨_, h2⟩ := h2
      refine ⟨c28, ?_⟩
      refine cm_X8_hasPlace h1 h2 (fun x29 x30 h1 h2 g31 g32 => ?_)
      have h1 := h1 g31 g32
      have h2 := h2 g31 g32
      refine ⟨?_, ?_⟩
      · intro c33
        have h1 := h1.1 c33
        have h2 := h2.1 c33
        exact cm_X9_placesTrouble_37 h1 h2 hq
      · intro c34
        have h1 := h1.2 c34
        have h2 := h2.2 c34
        exact cm_X9_placesTrouble_38 h1 h2 hq
theorem cm_X9_placesTrouble {Q1 Q2 Q3 : Int32 → HS → Prop} {v0 : Nat} {v1 : Int32} {v2 : Int32} {v3 : Int32} {S : HS} (h1 : P_X9_placesTrouble v0 v1 v2 v3 Q1 S) (h2 : P_X9_placesTrouble v0 v1 v2 v3 Q2 S) (hq : ∀ (r : Int32) (T : HS), Q1 r T → Q2 r T → Q3 r T) : P_X9_placesTrouble v0 v1 v2 v3 Q3 S := cm_X9_placesTrouble_0 h1 h2 hq
set_option maxRecDepth 20000 in
set_option maxHeartbeats 1000000 in
theorem cm_X9_wayTrouble_0 {Q1 Q2 Q3 : Int32 → HS → Prop} {v0 : Nat} {v1 : Int32} {v2 : Int32} {v3 : Int32} {v4 : Int32} {v5 : Int32} {S : HS} (h1 : P_X9_wayTrouble_0 Q1 v0 v1 v2 v3 v4 v5 S) (h2 : P_X9_wayTrouble_0 Q2 v0 v1 v2 v3 v4 v5 S) (hq : ∀ (r : Int32) (T : HS), Q1 r T → Q2 r T → Q3 r T) : P_X9_wayTrouble_0 Q3 v0 v1 v2 v3 v4 v5 S := by
  delta P_X9_wayTrouble_0 at h1 h2 ⊢
  obtain ⟨c1, h1⟩ := h1
  obtain ⟨_, h2⟩ := h2
  refine ⟨c1, ?_⟩
  refine cm_X9_placesTrouble h1 h2 (fun x2 x3 h1 h2 g4 => ?_)
  have h1 := h1 g4
  have h2 := h2 g4
  refine ⟨?_, ?_⟩
  · intro c5
    have h1 := h1.1 c5
    have h2 := h2.1 c5
    refine cm_X9_isTill h1 h2 (fun x6 x7 h1 h2 g8 g9 => ?_)
    have h1 := h1 g8 g9
    have h2 := h2 g8 g9
    refine ⟨?_, ?_⟩
    · intro c10
      have h1 := h1.1 c10
      have h2 := h2.1 c10
      exact hq _ _ h1 h2
    · intro c11
      have h1 := h1.2 c11
      have h2 := h2.2 c11
      refine ⟨?_, ?_⟩
      · intro c12
        have h1 := h1.1 c12
        have h2 := h2.1 c12
        exact hq _ _ h1 h2
      · intro c13
        have h1 := h1.2 c13
        have h2 := h2.2 c13
        refine ⟨?_, ?_⟩
        · intro c14
          have h1 := h1.1 c14
          have h2 := h2.1 c14
          obtain ⟨b15, e16, h1⟩ := h1
          obtain ⟨b17, e18, h2⟩ := h2
          cases e16.symm.trans e18
          refine ⟨b15, e16, ?_⟩
          obtain ⟨b19, e20, h1⟩ := h1
          obtain ⟨b21, e22, h2⟩ := h2
          cases e20.symm.trans e22
          refine ⟨b19, e20, ?_⟩
          obtain ⟨b23, e24, h1⟩ := h1
          obtain ⟨b25, e26, h2⟩ := h2
          cases e24.symm.trans e26
          refine ⟨b23, e24, ?_⟩
          obtain ⟨c27, h1⟩ := h1
          obtain ⟨_, h2⟩ := h2
          refine ⟨c27, ?_⟩
          refine cm_X7_reckon h1 h2 (fun x28 h1 h2 g29 => ?_)
          have h1 := h1 g29
          have h2 := h2 g29
          obtain ⟨b30, e31, h1⟩ := h1
          obtain ⟨b32, e33, h2⟩ := h2
          cases e31.symm.trans e33
          refine ⟨b30, e31, ?_⟩
          obtain ⟨c34, h1⟩ := h1
          obtain ⟨_, h2⟩ := h2
          refine ⟨c34, ?_⟩
          refine cm_X7_isOpen h1 h2 (fun x35 x36 h1 h2 g37 g38 => ?_)
          have h1 := h1 g37 g38
          have h2 := h2 g37 g38
          refine ⟨?_, ?_⟩
          · intro c39
            have h1 := h1.1 c39
            have h2 := h2.1 c39
            exact hq _ _ h1 h2
          · intro c40
            have h1 := h1.2 c40
            have h2 := h2.2 c40
            exact hq _ _ h1 h2
        · intro c41
          have h1 := h1.2 c41
          have h2 := h2.2 c41
          exact hq _ _ h1 h2
  · intro c42
    have h1 := h1.2 c42
    have h2 := h2.2 c42
    exact hq _ _ h1 h2
theorem cm_X9_wayTrouble {Q1 Q2 Q3 : Int32 → HS → Prop} {v0 : Nat} {v1 : Int32} {v2 : Int32} {v3 : Int32} {v4 : Int32} {v5 : Int32} {S : HS} (h1 : P_X9_wayTrouble v0 v1 v2 v3 v4 v5 Q1 S) (h2 : P_X9_wayTrouble v0 v1 v2 v3 v4 v5 Q2 S) (hq : ∀ (r : Int32) (T : HS), Q1 r T → Q2 r T → Q3 r T) : P_X9_wayTrouble v0 v1 v2 v3 v4 v5 Q3 S := cm_X9_wayTrouble_0 h1 h2 hq
set_option maxRecDepth 20000 in
set_option maxHeartbeats 1000000 in
theorem cm_X9_least_0 {Q1 Q2 Q3 : Int64 → HS → Prop} {v0 : Nat} {v1 : Int32} {v2 : Int32} {v3 : Int32} {v4 : Int32} {v5 : Int32} {v6 : Int32} {S : HS} (h1 : P_X9_least_0 Q1 v0 v1 v2 v3 v4 v5 v6 S) (h2 : P_X9_least_0 Q2 v0 v1 v2 v3 v4 v5 v6 S) (hq : ∀ (r : Int64) (T : HS), Q1 r T → Q2 r T → Q3 r T) : P_X9_least_0 Q3 v0 v1 v2 v3 v4 v5 v6 S := by
  delta P_X9_least_0 at h1 h2 ⊢
  obtain ⟨c1, h1⟩ := h1
  obtain ⟨_, h2⟩ := h2
  refine ⟨c1, ?_⟩
  refine cm_X9_wayTrouble h1 h2 (fun x2 x3 h1 h2 g4 => ?_)
  have h1 := h1 g4
  have h2 := h2 g4
  refine cm_X9_refusedBy h1 h2 (fun x5 x6 h1 h2 g7 g8 => ?_)
  have h1 := h1 g7 g8
  have h2 := h2 g7 g8
  refine ⟨?_, ?_⟩
  · intro c9
    have h1 := h1.1 c9
    have h2 := h2.1 c9
    obtain ⟨b10, e11, h1⟩ := h1
    obtain ⟨b12, e13, h2⟩ := h2
    cases e11.symm.trans e13
    refine ⟨b10, e11, ?_⟩
    obtain ⟨c14, h1⟩ := h1
    obtain ⟨_, h2⟩ := h2
    refine ⟨c14, ?_⟩
    refine cm_X7_meanFrom h1 h2 (fun x15 x16 h1 h2 g17 => ?_)
    have h1 := h1 g17
    have h2 := h2 g17
    refine cm_X9_fraction h1 h2 (fun x18 x19 h1 h2 g20 => ?_)
    have h1 := h1 g20
    have h2 := h2 g20
    exact hq _ _ h1 h2
  · intro c21
    have h1 := h1.2 c21
    have h2 := h2.2 c21
    exact hq _ _ h1 h2
theorem cm_X9_least {Q1 Q2 Q3 : Int64 → HS → Prop} {v0 : Nat} {v1 : Int32} {v2 : Int32} {v3 : Int32} {v4 : Int32} {v5 : Int32} {v6 : Int32} {S : HS} (h1 : P_X9_least v0 v1 v2 v3 v4 v5 v6 Q1 S) (h2 : P_X9_least v0 v1 v2 v3 v4 v5 v6 Q2 S) (hq : ∀ (r : Int64) (T : HS), Q1 r T → Q2 r T → Q3 r T) : P_X9_least v0 v1 v2 v3 v4 v5 v6 Q3 S := cm_X9_least_0 h1 h2 hq
set_option maxRecDepth 20000 in
set_option maxHeartbeats 1000000 in
theorem cm_X9_lee_0 {Q1 Q2 Q3 : Int64 → HS → Prop} {v0 : Nat} {v1 : Int32} {v2 : Int32} {v3 : Int32} {v4 : Int32} {v5 : Int32} {v6 : Int32} {v7 : Int32} {S : HS} (h1 : P_X9_lee_0 Q1 v0 v1 v2 v3 v4 v5 v6 v7 S) (h2 : P_X9_lee_0 Q2 v0 v1 v2 v3 v4 v5 v6 v7 S) (hq : ∀ (r : Int64) (T : HS), Q1 r T → Q2 r T → Q3 r T) : P_X9_lee_0 Q3 v0 v1 v2 v3 v4 v5 v6 v7 S := by
  delta P_X9_lee_0 at h1 h2 ⊢
  obtain ⟨c1, h1⟩ := h1
  obtain ⟨_, h2⟩ := h2
  refine ⟨c1, ?_⟩
  refine cm_X9_leeTrouble h1 h2 (fun x2 x3 h1 h2 g4 => ?_)
  have h1 := h1 g4
  have h2 := h2 g4
  refine cm_X9_refusedBy h1 h2 (fun x5 x6 h1 h2 g7 g8 => ?_)
  have h1 := h1 g7 g8
  have h2 := h2 g7 g8
  refine ⟨?_, ?_⟩
  · intro c9
    have h1 := h1.1 c9
    have h2 := h2.1 c9
    obtain ⟨b10, e11, h1⟩ := h1
    obtain ⟨b12, e13, h2⟩ := h2
    cases e11.symm.trans e13
    refine ⟨b10, e11, ?_⟩
    obtain ⟨b14, e15, h1⟩ := h1
    obtain ⟨b16, e17, h2⟩ := h2
    cases e15.symm.trans e17
    refine ⟨b14, e15, ?_⟩
    obtain ⟨c18, h1⟩ := h1
    obtain ⟨_, h2⟩ := h2
    refine ⟨c18, ?_⟩
    obtain ⟨b19, e20, h1⟩ := h1
    obtain ⟨b21, e22, h2⟩ := h2
    cases e20.symm.trans e22
    refine ⟨b19, e20, ?_⟩
    obtain ⟨c23, h1⟩ := h1
    obtain ⟨_, h2⟩ := h2
    refine ⟨c23, ?_⟩
    obtain ⟨c24, h1⟩ := h1
    obtain ⟨_, h2⟩ := h2
    refine ⟨c24, ?_⟩
    obtain ⟨b25, e26, h1⟩ := h1
    obtain ⟨b27, e28, h2⟩ := h2
    cases e26.symm.trans e28
    refine ⟨b25, e26, ?_⟩
    obtain ⟨b29, e30, h1⟩ := h1
    obtain ⟨b31, e32, h2⟩ := h2
    cases e30.symm.trans e32
    refine ⟨b29, e30, ?_⟩
    obtain ⟨c33, h1⟩ := h1
    obtain ⟨_, h2⟩ := h2
    refine ⟨c33, ?_⟩
    obtain ⟨b34, e35, h1⟩ := h1
    obtain ⟨b36, e37, h2⟩ := h2
    cases e35.symm.trans e37
    refine ⟨b34, e35, ?_⟩
    obtain ⟨c38, h1⟩ := h1
    obtain ⟨_, h2⟩ := h2
    refine ⟨c38, ?_⟩
    obtain ⟨c39, h1⟩ := h1
    obtain ⟨_, h2⟩ := h2
    refine ⟨c39, ?_⟩
    obtain ⟨b40, e41, h1⟩ := h1
    obtain ⟨b42, e43, h2⟩ := h2
    cases e41.symm.trans e43
    refine ⟨b40, e41, ?_⟩
    obtain ⟨c44, h1⟩ := h1
    obtain ⟨_, h2⟩ := h2
    refine ⟨c44, ?_⟩
    refine cm_X1_lay h1 h2 (fun x45 h1 h2 g46 => ?_)
    have h1 := h1 g46
    have h2 := h2 g46
    obtain ⟨b47, e48, h1⟩ := h1
    obtain ⟨b49, e50, h2⟩ := h2
    cases e48.symm.trans e50
    refine ⟨b47, e48, ?_⟩
    obtain ⟨b51, e52, h1⟩ := h1
    obtain ⟨b53, e54, h2⟩ := h2
    cases e52.symm.trans e54
    refine ⟨b51, e52, ?_⟩
    obtain ⟨c55, h1⟩ := h1
    obtain ⟨_, h2⟩ := h2
    refine ⟨c55, ?_⟩
    obtain ⟨b56, e57, h1⟩ := h1
    obtain ⟨b58, e59, h2⟩ := h2
    cases e57.symm.trans e59
    refine ⟨b56, e57, ?_⟩
    obtain ⟨c60, h1⟩ := h1
    obtain ⟨_, h2⟩ := h2
    refine ⟨c60, ?_⟩
    obtain ⟨c61, h1⟩ := h1
    obtain ⟨_, h2⟩ := h2
    refine ⟨c61, ?_⟩
    obtain ⟨b62, e63, h1⟩ := h1
    obtain ⟨b64, e65, h2⟩ := h2
    cases e63.symm.trans e65
    refine ⟨b62, e63, ?_⟩
    obtain ⟨b66, e67, h1⟩ := h1
    obtain ⟨b68, e69, h2⟩ := h2
    cases e67.symm.trans e69
    refine ⟨b66, e67, ?_⟩
    obtain ⟨c70, h1⟩ := h1
    obtain ⟨_, h2⟩ := h2
    refine ⟨c70, ?_⟩
    obtain ⟨b71, e72, h1⟩ := h1
    obtain ⟨b73, e74, h2⟩ := h2
    cases e72.symm.trans e74
    refine ⟨b71, e72, ?_⟩
    obtain ⟨c75, h1⟩ := h1
    obtain ⟨_, h2⟩ := h2
    refine ⟨c75, ?_⟩
    obtain ⟨c76, h1⟩ := h1
    obtain ⟨_, h2⟩ := h2
    refine ⟨c76, ?_⟩
    obtain ⟨b77, e78, h1⟩ := h1
    obtain ⟨b79, e80, h2⟩ := h2
    cases e78.symm.trans e80
    refine ⟨b77, e78, ?_⟩
    obtain ⟨c81, h1⟩ := h1
    obtain ⟨_, h2⟩ := h2
    refine ⟨c81, ?_⟩
    refine cm_X1_wetInLee h1 h2 (fun x82 x83 h1 h2 g84 => ?_)
    have h1 := h1 g84
    have h2 := h2 g84
    refine cm_X9_fraction h1 h2 (fun x85 x86 h1 h2 g87 => ?_)
    have h1 := h1 g87
    have h2 := h2 g87
    exact hq _ _ h1 h2
  · intro c88
    have h1 := h1.2 c88
    have h2 := h2.2 c88
    exact hq _ _ h1 h2
theorem cm_X9_lee {Q1 Q2 Q3 : Int64 → HS → Prop} {v0 : Nat} {v1 : Int32} {v2 : Int32} {v3 : Int32} {v4 : Int32} {v5 : Int32} {v6 : Int32} {v7 : Int32} {S : HS} (h1 : P_X9_lee v0 v1 v2 v3 v4 v5 v6 v7 Q1 S) (h2 : P_X9_lee v0 v1 v2 v3 v4 v5 v6 v7 Q2 S) (hq : ∀ (r : Int64) (T : HS), Q1 r T → Q2 r T → Q3 r T) : P_X9_lee v0 v1 v2 v3 v4 v5 v6 v7 Q3 S := cm_X9_lee_0 h1 h2 hq
set_option maxRecDepth 20000 in
set_option maxHeartbeats 1000000 in
theorem cm_X9_lies_54 {Q1 Q2 Q3 : Int32 → HS → Prop} {X20_1 X20_2 X20_3 : Nat → Int32 → Int32 → HS → Prop} {v0 : Nat} {v1 : Int32} {v2 : Int32} {S : HS} (h1 : P_X9_lies_54 Q1 X20_1 v0 v1 v2 S) (h2 : P_X9_lies_54 Q2 X20_2 v0 v1 v2 S) (hq : ∀ (r : Int32) (T : HS), Q1 r T → Q2 r T → Q3 r T) (hX20 : ∀ (u0 : Nat) (u1 : Int32) (u2 : Int32) (u3 : HS), X20_1 u0 u1 u2 u3 → X20_2 u0 u1 u2 u3 → X20_3 u0 u1 u2 u3) : P_X9_lies_54 Q3 X20_3 v0 v1 v2 S := by
  delta P_X9_lies_54 at h1 h2 ⊢
  intro x2 e1
  have h1 := h1 x2 e1
  have h2 := h2 x2 e1
  exact hX20 _ _ _ _ h1 h2
set_option maxRecDepth 20000 in
set_option maxHeartbeats 1000000 in
theorem cmB_X9_lies_20 {Q1 Q2 Q3 : Int32 → HS → Prop} {X20_1 X20_2 X20_3 : Nat → Int32 → Int32 → HS → Prop} {v0 : Nat} {v1 : Int32} {v2 : Int32} {S : HS} (h1 : B_X9_lies_20 Q1 X20_1 v0 v1 v2 S) (h2 : B_X9_lies_20 Q2 X20_2 v0 v1 v2 S) (hq : ∀ (r : Int32) (T : HS), Q1 r T → Q2 r T → Q3 r T) (hX20 : ∀ (u0 : Nat) (u1 : Int32) (u2 : Int32) (u3 : HS), X20_1 u0 u1 u2 u3 → X20_2 u0 u1 u2 u3 → X20_3 u0 u1 u2 u3) : B_X9_lies_20 Q3 X20_3 v0 v1 v2 S := by
  delta B_X9_lies_20 at h1 h2 ⊢
  obtain ⟨c1, h1⟩ := h1
  obtain ⟨_, h2⟩ := h2
  refine ⟨c1, ?_⟩
  obtain ⟨b2, e3, h1⟩ := h1
  obtain ⟨b4, e5, h2⟩ := h2
  cases e3.symm.trans e5
  refine ⟨b2, e3, ?_⟩
  obtain ⟨c6, h1⟩ := h1
  obtain ⟨_, h2⟩ := h2
  refine ⟨c6, ?_⟩
  intro x8 e7
  have h1 := h1 x8 e7
  have h2 := h2 x8 e7
  refine ⟨?_, ?_⟩
  · intro c9
    have h1 := h1.1 c9
    have h2 := h2.1 c9
    refine cm_X9_grant h1 h2 (fun x10 x11 h1 h2 g12 => ?_)
    have h1 := h1 g12
    have h2 := h2 g12
    exact hq _ _ h1 h2
  · intro c13
    have h1 := h1.2 c13
    have h2 := h2.2 c13
    obtain ⟨b14, e15, h1⟩ := h1
    obtain ⟨b16, e17, h2⟩ := h2
    cases e15.symm.trans e17
    refine ⟨b14, e15, ?_⟩
    obtain ⟨b18, e19, h1⟩ := h1
    obtain ⟨b20, e21, h2⟩ := h2
    cases e19.symm.trans e21
    refine ⟨b18, e19, ?_⟩
    obtain ⟨c22, h1⟩ := h1
    obtain ⟨_, h2⟩ := h2
    refine ⟨c22, ?_⟩
    refine cm_X1_findFit h1 h2 (fun x23 x24 h1 h2 g25 => ?_)
    have h1 := h1 g25
    have h2 := h2 g25
    refine ⟨?_, ?_⟩
    · intro c26
      have h1 := h1.1 c26
      have h2 := h2.1 c26
      exact cm_X9_lies_54 h1 h2 hq hX20
    · intro c27
      have h1 := h1.2 c27
      have h2 := h2.2 c27
      intro x29 e28
      have h1 := h1 x29 e28
      have h2 := h2 x29 e28
      exact cm_X9_lies_54 h1 h2 hq hX20
theorem fd_X9_lies_20 {Q : Int32 → HS → Prop} {v0 : Nat} {v1 : Int32} {v2 : Int32} {S : HS} (h : B_X9_lies_20 Q (P_X9_lies_20 Q) v0 v1 v2 S) : P_X9_lies_20 Q v0 v1 v2 S := fun X hX => hX v0 v1 v2 S (cmB_X9_lies_20 h h (fun _ _ a _ => a) (fun _ _ _ _ hp _ => hp X hX))
theorem uf_X9_lies_20 {Q : Int32 → HS → Prop} {v0 : Nat} {v1 : Int32} {v2 : Int32} {S : HS} (h : P_X9_lies_20 Q v0 v1 v2 S) : B_X9_lies_20 Q (P_X9_lies_20 Q) v0 v1 v2 S := h (fun v0 v1 v2 S => B_X9_lies_20 Q (P_X9_lies_20 Q) v0 v1 v2 S) (fun v0 v1 v2 S hB => cmB_X9_lies_20 hB hB (fun _ _ a _ => a) (fun _ _ _ _ hb _ => fd_X9_lies_20 hb))
theorem cm_X9_lies_20 {Q1 Q2 Q3 : Int32 → HS → Prop} {v0 : Nat} {v1 : Int32} {v2 : Int32} {S : HS} (h1 : P_X9_lies_20 Q1 v0 v1 v2 S) (h2 : P_X9_lies_20 Q2 v0 v1 v2 S) (hq : ∀ (r : Int32) (T : HS), Q1 r T → Q2 r T → Q3 r T) : P_X9_lies_20 Q3 v0 v1 v2 S := h1 (fun v0 v1 v2 S => P_X9_lies_20 Q2 v0 v1 v2 S → P_X9_lies_20 Q3 v0 v1 v2 S) (fun v0 v1 v2 S hB hp => fd_X9_lies_20 (cmB_X9_lies_20 hB (uf_X9_lies_20 hp) hq (fun _ _ _ _ hx hp => hx hp))) h2
set_option maxRecDepth 20000 in
set_option maxHeartbeats 1000000 in
theorem cm_X9_lies_0 {Q1 Q2 Q3 : Int32 → HS → Prop} {v0 : Nat} {S : HS} (h1 : P_X9_lies_0 Q1 v0 S) (h2 : P_X9_lies_0 Q2 v0 S) (hq : ∀ (r : Int32) (T : HS), Q1 r T → Q2 r T → Q3 r T) : P_X9_lies_0 Q3 v0 S := by
  delta P_X9_lies_0 at h1 h2 ⊢
  obtain ⟨c1, h1⟩ := h1
  obtain ⟨_, h2⟩ := h2
  refine ⟨c1, ?_⟩
  obtain ⟨b2, e3, h1⟩ := h1
  obtain ⟨b4, e5, h2⟩ := h2
  cases e3.symm.trans e5
  refine ⟨b2, e3, ?_⟩
  obtain ⟨c6, h1⟩ := h1
  obtain ⟨_, h2⟩ := h2
  refine ⟨c6, ?_⟩
  refine cm_X8_isTold h1 h2 (fun x7 x8 h1 h2 g9 g10 => ?_)
  have h1 := h1 g9 g10
  have h2 := h2 g9 g10
  refine ⟨?_, ?_⟩
  · intro c11
    have h1 := h1.1 c11
    have h2 := h2.1 c11
    exact cm_X9_lies_20 h1 h2 hq
  · intro c12
    have h1 := h1.2 c12
    have h2 := h2.2 c12
    refine cm_X9_refuse h1 h2 (fun x13 x14 h1 h2 g15 => ?_)
    have h1 := h1 g15
    have h2 := h2 g15
    exact hq _ _ h1 h2
theorem cm_X9_lies {Q1 Q2 Q3 : Int32 → HS → Prop} {v0 : Nat} {S : HS} (h1 : P_X9_lies v0 Q1 S) (h2 : P_X9_lies v0 Q2 S) (hq : ∀ (r : Int32) (T : HS), Q1 r T → Q2 r T → Q3 r T) : P_X9_lies v0 Q3 S := cm_X9_lies_0 h1 h2 hq
set_option maxRecDepth 20000 in
set_option maxHeartbeats 1000000 in
theorem cm_X9_mark_0 {Q1 Q2 Q3 : Int32 → HS → Prop} {v0 : Nat} {S : HS} (h1 : P_X9_mark_0 Q1 v0 S) (h2 : P_X9_mark_0 Q2 v0 S) (hq : ∀ (r : Int32) (T : HS), Q1 r T → Q2 r T → Q3 r T) : P_X9_mark_0 Q3 v0 S := by
  delta P_X9_mark_0 at h1 h2 ⊢
  obtain ⟨c1, h1⟩ := h1
  obtain ⟨_, h2⟩ := h2
  refine ⟨c1, ?_⟩
  obtain ⟨b2, e3, h1⟩ := h1
  obtain ⟨b4, e5, h2⟩ := h2
  cases e3.symm.trans e5
  refine ⟨b2, e3, ?_⟩
  obtain ⟨c6, h1⟩ := h1
  obtain ⟨_, h2⟩ := h2
  refine ⟨c6, ?_⟩
  refine cm_X0_isOn h1 h2 (fun x7 x8 h1 h2 g9 g10 => ?_)
  have h1 := h1 g9 g10
  have h2 := h2 g9 g10
  refine ⟨?_, ?_⟩
  · intro c11
    have h1 := h1.1 c11
    have h2 := h2.1 c11
    obtain ⟨b12, e13, h1⟩ := h1
    obtain ⟨b14, e15, h2⟩ := h2
    cases e13.symm.trans e15
    refine ⟨b12, e13, ?_⟩
    obtain ⟨c16, h1⟩ := h1
    obtain ⟨_, h2⟩ := h2
    refine ⟨c16, ?_⟩
    refine cm_X0_setMark h1 h2 (fun x17 x18 h1 h2 g19 => ?_)
    have h1 := h1 g19
    have h2 := h2 g19
    refine ⟨?_, ?_⟩
    · intro c20
      have h1 := h1.1 c20
      have h2 := h2.1 c20
      refine cm_X9_grant h1 h2 (fun x21 x22 h1 h2 g23 => ?_)
      have h1 := h1 g23
      have h2 := h2 g23
      exact hq _ _ h1 h2
    · intro c24
      have h1 := h1.2 c24
      have h2 := h2.2 c24
      refine cm_X9_refuse h1 h2 (fun x25 x26 h1 h2 g27 => ?_)
      have h1 := h1 g27
      have h2 := h2 g27
      exact hq _ _ h1 h2
  · intro c28
    have h1 := h1.2 c28
    have h2 := h2.2 c28
    refine cm_X9_refuse h1 h2 (fun x29 x30 h1 h2 g31 => ?_)
    have h1 := h1 g31
    have h2 := h2 g31
    exact hq _ _ h1 h2
theorem cm_X9_mark {Q1 Q2 Q3 : Int32 → HS → Prop} {v0 : Nat} {S : HS} (h1 : P_X9_mark v0 Q1 S) (h2 : P_X9_mark v0 Q2 S) (hq : ∀ (r : Int32) (T : HS), Q1 r T → Q2 r T → Q3 r T) : P_X9_mark v0 Q3 S := cm_X9_mark_0 h1 h2 hq
set_option maxRecDepth 20000 in
set_option maxHeartbeats 1000000 in
theorem cm_X9_mean_0 {Q1 Q2 Q3 : Int64 → HS → Prop} {v0 : Nat} {v1 : Int32} {v2 : Int32} {v3 : Int32} {v4 : Int32} {v5 : Int32} {v6 : Int32} {S : HS} (h1 : P_X9_mean_0 Q1 v0 v1 v2 v3 v4 v5 v6 S) (h2 : P_X9_mean_0 Q2 v0 v1 v2 v3 v4 v5 v6 S) (hq : ∀ (r : Int64) (T : HS), Q1 r T → Q2 r T → Q3 r T) : P_X9_mean_0 Q3 v0 v1 v2 v3 v4 v5 v6 S := by
  delta P_X9_mean_0 at h1 h2 ⊢
  obtain ⟨c1, h1⟩ := h1
  obtain ⟨_, h2⟩ := h2
  refine ⟨c1, ?_⟩
  refine cm_X9_legTrouble h1 h2 (fun x2 x3 h1 h2 g4 => ?_)
  have h1 := h1 g4
  have h2 := h2 g4
  refine cm_X9_refusedBy h1 h2 (fun x5 x6 h1 h2 g7 g8 => ?_)
  have h1 := h1 g7 g8
  have h2 := h2 g7 g8
  refine ⟨?_, ?_⟩
  · intro c9
    have h1 := h1.1 c9
    have h2 := h2.1 c9
    obtain ⟨b10, e11, h1⟩ := h1
    obtain ⟨b12, e13, h2⟩ := h2
    cases e11.symm.trans e13
    refine ⟨b10, e11, ?_⟩
    obtain ⟨b14, e15, h1⟩ := h1
    obtain ⟨b16, e17, h2⟩ := h2
    cases e15.symm.trans e17
    refine ⟨b14, e15, ?_⟩
    obtain ⟨c18, h1⟩ := h1
    obtain ⟨_, h2⟩ := h2
    refine ⟨c18, ?_⟩
    obtain ⟨b19, e20, h1⟩ := h1
    obtain ⟨b21, e22, h2⟩ := h2
    cases e20.symm.trans e22
    refine ⟨b19, e20, ?_⟩
    obtain ⟨c23, h1⟩ := h1
    obtain ⟨_, h2⟩ := h2
    refine ⟨c23, ?_⟩
    obtain ⟨c24, h1⟩ := h1
    obtain ⟨_, h2⟩ := h2
    refine ⟨c24, ?_⟩
    obtain ⟨b25, e26, h1⟩ := h1
    obtain ⟨b27, e28, h2⟩ := h2
    cases e26.symm.trans e28
    refine ⟨b25, e26, ?_⟩
    obtain ⟨b29, e30, h1⟩ := h1
    obtain ⟨b31, e32, h2⟩ := h2
    cases e30.symm.trans e32
    refine ⟨b29, e30, ?_⟩
    obtain ⟨c33, h1⟩ := h1
    obtain ⟨_, h2⟩ := h2
    refine ⟨c33, ?_⟩
    obtain ⟨b34, e35, h1⟩ := h1
    obtain ⟨b36, e37, h2⟩ := h2
    cases e35.symm.trans e37
    refine ⟨b34, e35, ?_⟩
    obtain ⟨c38, h1⟩ := h1
    obtain ⟨_, h2⟩ := h2
    refine ⟨c38, ?_⟩
    obtain ⟨c39, h1⟩ := h1
    obtain ⟨_, h2⟩ := h2
    refine ⟨c39, ?_⟩
    obtain ⟨b40, e41, h1⟩ := h1
    obtain ⟨b42, e43, h2⟩ := h2
    cases e41.symm.trans e43
    refine ⟨b40, e41, ?_⟩
    obtain ⟨b44, e45, h1⟩ := h1
    obtain ⟨b46, e47, h2⟩ := h2
    cases e45.symm.trans e47
    refine ⟨b44, e45, ?_⟩
    obtain ⟨c48, h1⟩ := h1
    obtain ⟨_, h2⟩ := h2
    refine ⟨c48, ?_⟩
    obtain ⟨b49, e50, h1⟩ := h1
    obtain ⟨b51, e52, h2⟩ := h2
    cases e50.symm.trans e52
    refine ⟨b49, e50, ?_⟩
    obtain ⟨c53, h1⟩ := h1
    obtain ⟨_, h2⟩ := h2
    refine ⟨c53, ?_⟩
    obtain ⟨c54, h1⟩ := h1
    obtain ⟨_, h2⟩ := h2
    refine ⟨c54, ?_⟩
    obtain ⟨b55, e56, h1⟩ := h1
    obtain ⟨b57, e58, h2⟩ := h2
    cases e56.symm.trans e58
    refine ⟨b55, e56, ?_⟩
    obtain ⟨c59, h1⟩ := h1
    obtain ⟨_, h2⟩ := h2
    refine ⟨c59, ?_⟩
    refine cm_X1_wetOf h1 h2 (fun x60 x61 h1 h2 g62 => ?_)
    have h1 := h1 g62
    have h2 := h2 g62
    obtain ⟨b63, e64, h1⟩ := h1
    obtain ⟨b65, e66, h2⟩ := h2
    cases e64.symm.trans e66
    refine ⟨b63, e64, ?_⟩
    obtain ⟨c67, h1⟩ := h1
    obtain ⟨_, h2⟩ := h2
    refine ⟨c67, ?_⟩
    obtain ⟨b68, e69, h1⟩ := h1
    obtain ⟨b70, e71, h2⟩ := h2
    cases e69.symm.trans e71
    refine ⟨b68, e69, ?_⟩
    obtain ⟨c72, h1⟩ := h1
    obtain ⟨_, h2⟩ := h2
    refine ⟨c72, ?_⟩
    obtain ⟨c73, h1⟩ := h1
    obtain ⟨_, h2⟩ := h2
    refine ⟨c73, ?_⟩
    obtain ⟨b74, e75, h1⟩ := h1
    obtain ⟨b76, e77, h2⟩ := h2
    cases e75.symm.trans e77
    refine ⟨b74, e75, ?_⟩
    obtain ⟨c78, h1⟩ := h1
    obtain ⟨_, h2⟩ := h2
    refine ⟨c78, ?_⟩
    intro x80 e79
    have h1 := h1 x80 e79
    have h2 := h2 x80 e79
    refine cm_X9_fraction h1 h2 (fun x81 x82 h1 h2 g83 => ?_)
    have h1 := h1 g83
    have h2 := h2 g83
    exact hq _ _ h1 h2
  · intro c84
    have h1 := h1.2 c84
    have h2 := h2.2 c84
    exact hq _ _ h1 h2
theorem cm_X9_mean {Q1 Q2 Q3 : Int64 → HS → Prop} {v0 : Nat} {v1 : Int32} {v2 : Int32} {v3 : Int32} {v4 : Int32} {v5 : Int32} {v6 : Int32} {S : HS} (h1 : P_X9_mean v0 v1 v2 v3 v4 v5 v6 Q1 S) (h2 : P_X9_mean v0 v1 v2 v3 v4 v5 v6 Q2 S) (hq : ∀ (r : Int64) (T : HS), Q1 r T → Q2 r T → Q3 r T) : P_X9_mean v0 v1 v2 v3 v4 v5 v6 Q3 S := cm_X9_mean_0 h1 h2 hq
set_option maxRecDepth 20000 in
set_option maxHeartbeats 1000000 in
theorem cm_X9_minutes_22 {Q1 Q2 Q3 : Int32 → HS → Prop} {v0 : Nat} {S : HS} (h1 : P_X9_minutes_22 Q1 v0 S) (h2 : P_X9_minutes_22 Q2 v0 S) (hq : ∀ (r : Int32) (T : HS), Q1 r T → Q2 r T → Q3 r T) : P_X9_minutes_22 Q3 v0 S := by
  delta P_X9_minutes_22 at h1 h2 ⊢
  obtain ⟨c1, h1⟩ := h1
  obtain ⟨_, h2⟩ := h2
  refine ⟨c1, ?_⟩
  refine cm_X9_refuse h1 h2 (fun x2 x3 h1 h2 g4 => ?_)
  have h1 := h1 g4
  have h2 := h2 g4
  exact hq _ _ h1 h2
set_option maxRecDepth 20000 in
set_option maxHeartbeats 1000000 in
theorem cm_X9_minutes_0 {Q1 Q2 Q3 : Int32 → HS → Prop} {v0 : Nat} {v1 : Int32} {v2 : Int32} {v3 : Int32} {S : HS} (h1 : P_X9_minutes_0 Q1 v0 v1 v2 v3 S) (h2 : P_X9_minutes_0 Q2 v0 v1 v2 v3 S) (hq : ∀ (r : Int32) (T : HS), Q1 r T → Q2 r T → Q3 r T) : P_X9_minutes_0 Q3 v0 v1 v2 v3 S := by
  delta P_X9_minutes_0 at h1 h2 ⊢
  obtain ⟨c1, h1⟩ := h1
  obtain ⟨_, h2⟩ := h2
  refine ⟨c1, ?_⟩
  obtain ⟨b2, e3, h1⟩ := h1
  obtain ⟨b4, e5, h2⟩ := h2
  cases e3.symm.trans e5
  refine ⟨b2, e3, ?_⟩
  obtain ⟨c6, h1⟩ := h1
  obtain ⟨_, h2⟩ := h2
  refine ⟨c6, ?_⟩
  refine cm_X8_hasWalker h1 h2 (fun x7 x8 h1 h2 g9 g10 => ?_)
  have h1 := h1 g9 g10
  have h2 := h2 g9 g10
  refine ⟨?_, ?_⟩
  · intro c11
    have h1 := h1.1 c11
    have h2 := h2.1 c11
    exact cm_X9_minutes_22 h1 h2 hq
  · intro c12
    have h1 := h1.2 c12
    have h2 := h2.2 c12
    obtain ⟨b13, e14, h1⟩ := h1
    obtain ⟨b15, e16, h2⟩ := h2
    cases e14.symm.trans e16
    refine ⟨b13, e14, ?_⟩
    obtain ⟨c17, h1⟩ := h1
    obtain ⟨_, h2⟩ := h2
    refine ⟨c17, ?_⟩
    refine cm_X8_hasRoad h1 h2 (fun x18 x19 h1 h2 g20 g21 => ?_)
    have h1 := h1 g20 g21
    have h2 := h2 g20 g21
    refine ⟨?_, ?_⟩
    · intro c22
      have h1 := h1.1 c22
      have h2 := h2.1 c22
      obtain ⟨b23, e24, h1⟩ := h1
      obtain ⟨b25, e26, h2⟩ := h2
      cases e24.symm.trans e26
      refine ⟨b23, e24, ?_⟩
      obtain ⟨c27, h1⟩ := h1
      obtain ⟨_, h2⟩ := h2
      refine ⟨c27, ?_⟩
      obtain ⟨b28, e29, h1⟩ := h1
      obtain ⟨b30, e31, h2⟩ := h2
      cases e29.symm.trans e31
      refine ⟨b28, e29, ?_⟩
      obtain ⟨c32, h1⟩ := h1
      obtain ⟨_, h2⟩ := h2
      refine ⟨c32, ?_⟩
      obtain ⟨c33, h1⟩ := h1
      obtain ⟨_, h2⟩ := h2
      refine ⟨c33, ?_⟩
      obtain ⟨b34, e35, h1⟩ := h1
      obtain ⟨b36, e37, h2⟩ := h2
      cases e35.symm.trans e37
      refine ⟨b34, e35, ?_⟩
      obtain ⟨c38, h1⟩ := h1
      obtain ⟨_, h2⟩ := h2
      refine ⟨c38, ?_⟩
      refine cm_X6_canGo h1 h2 (fun x39 x40 h1 h2 g41 g42 => ?_)
      have h1 := h1 g41 g42
      have h2 := h2 g41 g42
      refine ⟨?_, ?_⟩
      · intro c43
        have h1 := h1.1 c43
        have h2 := h2.1 c43
        obtain ⟨b44, e45, h1⟩ := h1
        obtain ⟨b46, e47, h2⟩ := h2
        cases e45.symm.trans e47
        refine ⟨b44, e45, ?_⟩
        obtain ⟨c48, h1⟩ := h1
        obtain ⟨_, h2⟩ := h2
        refine ⟨c48, ?_⟩
        obtain ⟨b49, e50, h1⟩ := h1
        obtain ⟨b51, e52, h2⟩ := h2
        cases e50.symm.trans e52
        refine ⟨b49, e50, ?_⟩
        obtain ⟨c53, h1⟩ := h1
        obtain ⟨_, h2⟩ := h2
        refine ⟨c53, ?_⟩
        obtain ⟨c54, h1⟩ := h1
        obtain ⟨_, h2⟩ := h2
        refine ⟨c54, ?_⟩
        obtain ⟨b55, e56, h1⟩ := h1
        obtain ⟨b57, e58, h2⟩ := h2
        cases e56.symm.trans e58
        refine ⟨b55, e56, ?_⟩
        obtain ⟨c59, h1⟩ := h1
        obtain ⟨_, h2⟩ := h2
        refine ⟨c59, ?_⟩
        refine cm_X5_minutesAt h1 h2 (fun x60 x61 h1 h2 g62 => ?_)
        have h1 := h1 g62
        have h2 := h2 g62
        refine cm_X9_grant h1 h2 (fun x63 x64 h1 h2 g65 => ?_)
        have h1 := h1 g65
        have h2 := h2 g65
        exact hq _ _ h1 h2
      · intro c66
        have h1 := h1.2 c66
        have h2 := h2.2 c66
        refine cm_X9_refuse h1 h2 (fun x67 x68 h1 h2 g69 => ?_)
        have h1 := h1 g69
        have h2 := h2 g69
        exact hq _ _ h1 h2
    · intro c70
      have h1 := h1.2 c70
      have h2 := h2.2 c70
      exact cm_X9_minutes_22 h1 h2 hq
theorem cm_X9_minutes {Q1 Q2 Q3 : Int32 → HS → Prop} {v0 : Nat} {v1 : Int32} {v2 : Int32} {v3 : Int32} {S : HS} (h1 : P_X9_minutes v0 v1 v2 v3 Q1 S) (h2 : P_X9_minutes v0 v1 v2 v3 Q2 S) (hq : ∀ (r : Int32) (T : HS), Q1 r T → Q2 r T → Q3 r T) : P_X9_minutes v0 v1 v2 v3 Q3 S := cm_X9_minutes_0 h1 h2 hq
set_option maxRecDepth 20000 in
set_option maxHeartbeats 1000000 in
theorem cm_X9_off_128 {Q1 Q2 Q3 : Int32 → HS → Prop} {X62_1 X62_2 X62_3 : Nat → Int32 → Int32 → Int32 → Int32 → HS → Prop} {v0 : Nat} {v2 : Int32} {v4 : Int32} {v6 : Int32} {v7 : Int32} {S : HS} (h1 : P_X9_off_128 Q1 X62_1 v0 v2 v4 v6 v7 S) (h2 : P_X9_off_128 Q2 X62_2 v0 v2 v4 v6 v7 S) (hq : ∀ (r : Int32) (T : HS), Q1 r T → Q2 r T → Q3 r T) (hX62 : ∀ (u0 : Nat) (u1 : Int32) (u2 : Int32) (u3 : Int32) (u4 : Int32) (u5 : HS), X62_1 u0 u1 u2 u3 u4 u5 → X62_2 u0 u1 u2 u3 u4 u5 → X62_3 u0 u1 u2 u3 u4 u5) : P_X9_off_128 Q3 X62_3 v0 v2 v4 v6 v7 S := by
  delta P_X9_off_128 at h1 h2 ⊢
  intro x2 e1
  have h1 := h1 x2 e1
  have h2 := h2 x2 e1
  exact hX62 _ _ _ _ _ _ h1 h2
set_option maxRecDepth 20000 in
set_option maxHeartbeats 1000000 in
theorem cm_X9_off_104 {Q1 Q2 Q3 : Int32 → HS → Prop} {X62_1 X62_2 X62_3 : Nat → Int32 → Int32 → Int32 → Int32 → HS → Prop} {v0 : Nat} {v2 : Int32} {v4 : Int32} {v6 : Int32} {v7 : Int32} {s0 : Int32} {S : HS} (h1 : P_X9_off_104 Q1 X62_1 v0 v2 v4 v6 v7 s0 S) (h2 : P_X9_off_104 Q2 X62_2 v0 v2 v4 v6 v7 s0 S) (hq : ∀ (r : Int32) (T : HS), Q1 r T → Q2 r T → Q3 r T) (hX62 : ∀ (u0 : Nat) (u1 : Int32) (u2 : Int32) (u3 : Int32) (u4 : Int32) (u5 : HS), X62_1 u0 u1 u2 u3 u4 u5 → X62_2 u0 u1 u2 u3 u4 u5 → X62_3 u0 u1 u2 u3 u4 u5) : P_X9_off_104 Q3 X62_3 v0 v2 v4 v6 v7 s0 S := by
  delta P_X9_off_104 at h1 h2 ⊢
  obtain ⟨c1, h1⟩ := h1
  obtain ⟨_, h2⟩ := h2
  refine ⟨c1, ?_⟩
  obtain ⟨b2, e3, h1⟩ := h1
  obtain ⟨b4, e5, h2⟩ := h2
  cases e3.symm.trans e5
  refine ⟨b2, e3, ?_⟩
  obtain ⟨c6, h1⟩ := h1
  obtain ⟨_, h2⟩ := h2
  refine ⟨c6, ?_⟩
  refine cm_X7_isOpen h1 h2 (fun x7 x8 h1 h2 g9 g10 => ?_)
  have h1 := h1 g9 g10
  have h2 := h2 g9 g10
  refine ⟨?_, ?_⟩
  · intro c11
    have h1 := h1.1 c11
    have h2 := h2.1 c11
    exact cm_X9_off_128 h1 h2 hq hX62
  · intro c12
    have h1 := h1.2 c12
    have h2 := h2.2 c12
    refine ⟨?_, ?_⟩
    · intro c13
      have h1 := h1.1 c13
      have h2 := h2.1 c13
      exact cm_X9_off_128 h1 h2 hq hX62
    · intro c14
      have h1 := h1.2 c14
      have h2 := h2.2 c14
      exact cm_X9_off_128 h1 h2 hq hX62
set_option maxRecDepth 20000 in
set_option maxHeartbeats 1000000 in
theorem cm_X9_off_99 {Q1 Q2 Q3 : Int32 → HS → Prop} {X62_1 X62_2 X62_3 : Nat → Int32 → Int32 → Int32 → Int32 → HS → Prop} {v0 : Nat} {v2 : Int32} {v4 : Int32} {v6 : Int32} {v7 : Int32} {S : HS} (h1 : P_X9_off_99 Q1 X62_1 v0 v2 v4 v6 v7 S) (h2 : P_X9_off_99 Q2 X62_2 v0 v2 v4 v6 v7 S) (hq : ∀ (r : Int32) (T : HS), Q1 r T → Q2 r T → Q3 r T) (hX62 : ∀ (u0 : Nat) (u1 : Int32) (u2 : Int32) (u3 : Int32) (u4 : Int32) (u5 : HS), X62_1 u0 u1 u2 u3 u4 u5 → X62_2 u0 u1 u2 u3 u4 u5 → X62_3 u0 u1 u2 u3 u4 u5) : P_X9_off_99 Q3 X62_3 v0 v2 v4 v6 v7 S := by
  delta P_X9_off_99 at h1 h2 ⊢
  exact cm_X9_off_104 h1 h2 hq hX62
set_option maxRecDepth 20000 in
set_option maxHeartbeats 1000000 in
theorem cmB_X9_off_62 {Q1 Q2 Q3 : Int32 → HS → Prop} {X62_1 X62_2 X62_3 : Nat → Int32 → Int32 → Int32 → Int32 → HS → Prop} {v0 : Nat} {v2 : Int32} {v4 : Int32} {v6 : Int32} {v7 : Int32} {S : HS} (h1 : B_X9_off_62 Q1 X62_1 v0 v2 v4 v6 v7 S) (h2 : B_X9_off_62 Q2 X62_2 v0 v2 v4 v6 v7 S) (hq : ∀ (r : Int32) (T : HS), Q1 r T → Q2 r T → Q3 r T) (hX62 : ∀ (u0 : Nat) (u1 : Int32) (u2 : Int32) (u3 : Int32) (u4 : Int32) (u5 : HS), X62_1 u0 u1 u2 u3 u4 u5 → X62_2 u0 u1 u2 u3 u4 u5 → X62_3 u0 u1 u2 u3 u4 u5) : B_X9_off_62 Q3 X62_3 v0 v2 v4 v6 v7 S := by
  delta B_X9_off_62 at h1 h2 ⊢
  refine ⟨?_, ?_⟩
  · intro c1
    have h1 := h1.1 c1
    have h2 := h2.1 c1
    refine ⟨?_, ?_⟩
    · intro c2
      have h1 := h1.1 c2
      have h2 := h2.1 c2
      exact hq _ _ h1 h2
    · intro c3
      have h1 := h1.2 c3
      have h2 := h2.2 c3
      obtain ⟨c4, h1⟩ := h1
      obtain ⟨_, h2⟩ := h2
      refine ⟨c4, ?_⟩
      refine cm_X9_refuse h1 h2 (fun x5 x6 h1 h2 g7 => ?_)
      have h1 := h1 g7
      have h2 := h2 g7
      exact hq _ _ h1 h2
  · intro c8
    have h1 := h1.2 c8
    have h2 := h2.2 c8
    refine ⟨?_, ?_⟩
    · intro c9
      have h1 := h1.1 c9
      have h2 := h2.1 c9
      exact cm_X9_off_99 h1 h2 hq hX62
    · intro c10
      have h1 := h1.2 c10
      have h2 := h2.2 c10
      obtain ⟨c11, h1⟩ := h1
      obtain ⟨_, h2⟩ := h2
      refine ⟨c11, ?_⟩
      obtain ⟨b12, e13, h1⟩ := h1
      obtain ⟨b14, e15, h2⟩ := h2
      cases e13.symm.trans e15
      refine ⟨b12, e13, ?_⟩
      obtain ⟨c16, h1⟩ := h1
      obtain ⟨_, h2⟩ := h2
      refine ⟨c16, ?_⟩
      refine cm_X7_meanFrom h1 h2 (fun x17 x18 h1 h2 g19 => ?_)
      have h1 := h1 g19
      have h2 := h2 g19
      obtain ⟨b20, e21, h1⟩ := h1
      obtain ⟨b22, e23, h2⟩ := h2
      cases e21.symm.trans e23
      refine ⟨b20, e21, ?_⟩
      obtain ⟨c24, h1⟩ := h1
      obtain ⟨_, h2⟩ := h2
      refine ⟨c24, ?_⟩
      refine cm_X7_meanFrom h1 h2 (fun x25 x26 h1 h2 g27 => ?_)
      have h1 := h1 g27
      have h2 := h2 g27
      refine ⟨?_, ?_⟩
      · intro c28
        have h1 := h1.1 c28
        have h2 := h2.1 c28
        exact cm_X9_off_104 h1 h2 hq hX62
      · intro c29
        have h1 := h1.2 c29
        have h2 := h2.2 c29
        exact cm_X9_off_99 h1 h2 hq hX62
theorem fd_X9_off_62 {Q : Int32 → HS → Prop} {v0 : Nat} {v2 : Int32} {v4 : Int32} {v6 : Int32} {v7 : Int32} {S : HS} (h : B_X9_off_62 Q (P_X9_off_62 Q) v0 v2 v4 v6 v7 S) : P_X9_off_62 Q v0 v2 v4 v6 v7 S := fun X hX => hX v0 v2 v4 v6 v7 S (cmB_X9_off_62 h h (fun _ _ a _ => a) (fun _ _ _ _ _ _ hp _ => hp X hX))
theorem uf_X9_off_62 {Q : Int32 → HS → Prop} {v0 : Nat} {v2 : Int32} {v4 : Int32} {v6 : Int32} {v7 : Int32} {S : HS} (h : P_X9_off_62 Q v0 v2 v4 v6 v7 S) : B_X9_off_62 Q (P_X9_off_62 Q) v0 v2 v4 v6 v7 S := h (fun v0 v2 v4 v6 v7 S => B_X9_off_62 Q (P_X9_off_62 Q) v0 v2 v4 v6 v7 S) (fun v0 v2 v4 v6 v7 S hB => cmB_X9_off_62 hB hB (fun _ _ a _ => a) (fun _ _ _ _ _ _ hb _ => fd_X9_off_62 hb))
theorem cm_X9_off_62 {Q1 Q2 Q3 : Int32 → HS → Prop} {v0 : Nat} {v2 : Int32} {v4 : Int32} {v6 : Int32} {v7 : Int32} {S : HS} (h1 : P_X9_off_62 Q1 v0 v2 v4 v6 v7 S) (h2 : P_X9_off_62 Q2 v0 v2 v4 v6 v7 S) (hq : ∀ (r : Int32) (T : HS), Q1 r T → Q2 r T → Q3 r T) : P_X9_off_62 Q3 v0 v2 v4 v6 v7 S := h1 (fun v0 v2 v4 v6 v7 S => P_X9_off_62 Q2 v0 v2 v4 v6 v7 S → P_X9_off_62 Q3 v0 v2 v4 v6 v7 S) (fun v0 v2 v4 v6 v7 S hB hp => fd_X9_off_62 (cmB_X9_off_62 hB (uf_X9_off_62 hp) hq (fun _ _ _ _ _ _ hx hp => hx hp))) h2
set_option maxRecDepth 20000 in
set_option maxHeartbeats 1000000 in
theorem cm_X9_off_25 {Q1 Q2 Q3 : Int32 → HS → Prop} {v0 : Nat} {v1 : Int32} {v2 : Int32} {v3 : Int32} {v4 : Int32} {v5 : Int32} {S : HS} (h1 : P_X9_off_25 Q1 v0 v1 v2 v3 v4 v5 S) (h2 : P_X9_off_25 Q2 v0 v1 v2 v3 v4 v5 S) (hq : ∀ (r : Int32) (T : HS), Q1 r T → Q2 r T → Q3 r T) : P_X9_off_25 Q3 v0 v1 v2 v3 v4 v5 S := by
  delta P_X9_off_25 at h1 h2 ⊢
  obtain ⟨c1, h1⟩ := h1
  obtain ⟨_, h2⟩ := h2
  refine ⟨c1, ?_⟩
  refine cm_X9_refusedBy h1 h2 (fun x2 x3 h1 h2 g4 g5 => ?_)
  have h1 := h1 g4 g5
  have h2 := h2 g4 g5
  refine ⟨?_, ?_⟩
  · intro c6
    have h1 := h1.1 c6
    have h2 := h2.1 c6
    obtain ⟨b7, e8, h1⟩ := h1
    obtain ⟨b9, e10, h2⟩ := h2
    cases e8.symm.trans e10
    refine ⟨b7, e8, ?_⟩
    obtain ⟨b11, e12, h1⟩ := h1
    obtain ⟨b13, e14, h2⟩ := h2
    cases e12.symm.trans e14
    refine ⟨b11, e12, ?_⟩
    obtain ⟨b15, e16, h1⟩ := h1
    obtain ⟨b17, e18, h2⟩ := h2
    cases e16.symm.trans e18
    refine ⟨b15, e16, ?_⟩
    obtain ⟨c19, h1⟩ := h1
    obtain ⟨_, h2⟩ := h2
    refine ⟨c19, ?_⟩
    refine cm_X7_reckon h1 h2 (fun x20 h1 h2 g21 => ?_)
    have h1 := h1 g21
    have h2 := h2 g21
    exact cm_X9_off_62 h1 h2 hq
  · intro c22
    have h1 := h1.2 c22
    have h2 := h2.2 c22
    exact hq _ _ h1 h2
set_option maxRecDepth 20000 in
set_option maxHeartbeats 1000000 in
theorem cm_X9_off_0 {Q1 Q2 Q3 : Int32 → HS → Prop} {v0 : Nat} {v1 : Int32} {v2 : Int32} {v3 : Int32} {v4 : Int32} {S : HS} (h1 : P_X9_off_0 Q1 v0 v1 v2 v3 v4 S) (h2 : P_X9_off_0 Q2 v0 v1 v2 v3 v4 S) (hq : ∀ (r : Int32) (T : HS), Q1 r T → Q2 r T → Q3 r T) : P_X9_off_0 Q3 v0 v1 v2 v3 v4 S := by
  delta P_X9_off_0 at h1 h2 ⊢
  obtain ⟨c1, h1⟩ := h1
  obtain ⟨_, h2⟩ := h2
  refine ⟨c1, ?_⟩
  refine cm_X9_placesTrouble h1 h2 (fun x2 x3 h1 h2 g4 => ?_)
  have h1 := h1 g4
  have h2 := h2 g4
  refine ⟨?_, ?_⟩
  · intro c5
    have h1 := h1.1 c5
    have h2 := h2.1 c5
    exact cm_X9_off_25 h1 h2 hq
  · intro c6
    have h1 := h1.2 c6
    have h2 := h2.2 c6
    refine cm_X9_isTill h1 h2 (fun x7 x8 h1 h2 g9 g10 => ?_)
    have h1 := h1 g9 g10
    have h2 := h2 g9 g10
    refine ⟨?_, ?_⟩
    · intro c11
      have h1 := h1.1 c11
      have h2 := h2.1 c11
      exact cm_X9_off_25 h1 h2 hq
    · intro c12
      have h1 := h1.2 c12
      have h2 := h2.2 c12
      exact cm_X9_off_25 h1 h2 hq
theorem cm_X9_off {Q1 Q2 Q3 : Int32 → HS → Prop} {v0 : Nat} {v1 : Int32} {v2 : Int32} {v3 : Int32} {v4 : Int32} {S : HS} (h1 : P_X9_off v0 v1 v2 v3 v4 Q1 S) (h2 : P_X9_off v0 v1 v2 v3 v4 Q2 S) (hq : ∀ (r : Int32) (T : HS), Q1 r T → Q2 r T → Q3 r T) : P_X9_off v0 v1 v2 v3 v4 Q3 S := cm_X9_off_0 h1 h2 hq
set_option maxRecDepth 20000 in
set_option maxHeartbeats 1000000 in
theorem cm_X9_road_20 {Q1 Q2 Q3 : Int32 → HS → Prop} {v0 : Nat} {S : HS} (h1 : P_X9_road_20 Q1 v0 S) (h2 : P_X9_road_20 Q2 v0 S) (hq : ∀ (r : Int32) (T : HS), Q1 r T → Q2 r T → Q3 r T) : P_X9_road_20 Q3 v0 S := by
  delta P_X9_road_20 at h1 h2 ⊢
  obtain ⟨c1, h1⟩ := h1
  obtain ⟨_, h2⟩ := h2
  refine ⟨c1, ?_⟩
  refine cm_X9_refuse h1 h2 (fun x2 x3 h1 h2 g4 => ?_)
  have h1 := h1 g4
  have h2 := h2 g4
  exact hq _ _ h1 h2
set_option maxRecDepth 20000 in
set_option maxHeartbeats 1000000 in
theorem cm_X9_road_0 {Q1 Q2 Q3 : Int32 → HS → Prop} {v0 : Nat} {v1 : Int32} {v2 : Int32} {S : HS} (h1 : P_X9_road_0 Q1 v0 v1 v2 S) (h2 : P_X9_road_0 Q2 v0 v1 v2 S) (hq : ∀ (r : Int32) (T : HS), Q1 r T → Q2 r T → Q3 r T) : P_X9_road_0 Q3 v0 v1 v2 S := by
  delta P_X9_road_0 at h1 h2 ⊢
  obtain ⟨c1, h1⟩ := h1
  obtain ⟨_, h2⟩ := h2
  refine ⟨c1, ?_⟩
  obtain ⟨b2, e3, h1⟩ := h1
  obtain ⟨b4, e5, h2⟩ := h2
  cases e3.symm.trans e5
  refine ⟨b2, e3, ?_⟩
  obtain ⟨c6, h1⟩ := h1
  obtain ⟨_, h2⟩ := h2
  refine ⟨c6, ?_⟩
  refine cm_X8_hasRoad h1 h2 (fun x7 x8 h1 h2 g9 g10 => ?_)
  have h1 := h1 g9 g10
  have h2 := h2 g9 g10
  refine ⟨?_, ?_⟩
  · intro c11
    have h1 := h1.1 c11
    have h2 := h2.1 c11
    exact cm_X9_road_20 h1 h2 hq
  · intro c12
    have h1 := h1.2 c12
    have h2 := h2.2 c12
    refine ⟨?_, ?_⟩
    · intro c13
      have h1 := h1.1 c13
      have h2 := h2.1 c13
      exact cm_X9_road_20 h1 h2 hq
    · intro c14
      have h1 := h1.2 c14
      have h2 := h2.2 c14
      refine ⟨?_, ?_⟩
      · intro c15
        have h1 := h1.1 c15
        have h2 := h2.1 c15
        obtain ⟨b16, e17, h1⟩ := h1
        obtain ⟨b18, e19, h2⟩ := h2
        cases e17.symm.trans e19
        refine ⟨b16, e17, ?_⟩
        obtain ⟨c20, h1⟩ := h1
        obtain ⟨_, h2⟩ := h2
        refine ⟨c20, ?_⟩
        obtain ⟨b21, e22, h1⟩ := h1
        obtain ⟨b23, e24, h2⟩ := h2
        cases e22.symm.trans e24
        refine ⟨b21, e22, ?_⟩
        obtain ⟨c25, h1⟩ := h1
        obtain ⟨_, h2⟩ := h2
        refine ⟨c25, ?_⟩
        obtain ⟨c26, h1⟩ := h1
        obtain ⟨_, h2⟩ := h2
        refine ⟨c26, ?_⟩
        obtain ⟨b27, e28, h1⟩ := h1
        obtain ⟨b29, e30, h2⟩ := h2
        cases e28.symm.trans e30
        refine ⟨b27, e28, ?_⟩
        obtain ⟨c31, h1⟩ := h1
        obtain ⟨_, h2⟩ := h2
        refine ⟨c31, ?_⟩
        refine cm_X5_tell h1 h2 (fun x32 x33 h1 h2 g34 => ?_)
        have h1 := h1 g34
        have h2 := h2 g34
        refine cm_X9_grant h1 h2 (fun x35 x36 h1 h2 g37 => ?_)
        have h1 := h1 g37
        have h2 := h2 g37
        exact hq _ _ h1 h2
      · intro c38
        have h1 := h1.2 c38
        have h2 := h2.2 c38
        exact cm_X9_road_20 h1 h2 hq
theorem cm_X9_road {Q1 Q2 Q3 : Int32 → HS → Prop} {v0 : Nat} {v1 : Int32} {v2 : Int32} {S : HS} (h1 : P_X9_road v0 v1 v2 Q1 S) (h2 : P_X9_road v0 v1 v2 Q2 S) (hq : ∀ (r : Int32) (T : HS), Q1 r T → Q2 r T → Q3 r T) : P_X9_road v0 v1 v2 Q3 S := cm_X9_road_0 h1 h2 hq
set_option maxRecDepth 20000 in
set_option maxHeartbeats 1000000 in
theorem cm_X9_round_0 {Q1 Q2 Q3 : Int64 → HS → Prop} {v0 : Nat} {v1 : Int32} {v2 : Int32} {v3 : Int32} {v4 : Int32} {S : HS} (h1 : P_X9_round_0 Q1 v0 v1 v2 v3 v4 S) (h2 : P_X9_round_0 Q2 v0 v1 v2 v3 v4 S) (hq : ∀ (r : Int64) (T : HS), Q1 r T → Q2 r T → Q3 r T) : P_X9_round_0 Q3 v0 v1 v2 v3 v4 S := by
  delta P_X9_round_0 at h1 h2 ⊢
  obtain ⟨c1, h1⟩ := h1
  obtain ⟨_, h2⟩ := h2
  refine ⟨c1, ?_⟩
  refine cm_X9_tripTrouble h1 h2 (fun x2 x3 h1 h2 g4 => ?_)
  have h1 := h1 g4
  have h2 := h2 g4
  refine cm_X9_refusedBy h1 h2 (fun x5 x6 h1 h2 g7 g8 => ?_)
  have h1 := h1 g7 g8
  have h2 := h2 g7 g8
  refine ⟨?_, ?_⟩
  · intro c9
    have h1 := h1.1 c9
    have h2 := h2.1 c9
    obtain ⟨b10, e11, h1⟩ := h1
    obtain ⟨b12, e13, h2⟩ := h2
    cases e11.symm.trans e13
    refine ⟨b10, e11, ?_⟩
    obtain ⟨b14, e15, h1⟩ := h1
    obtain ⟨b16, e17, h2⟩ := h2
    cases e15.symm.trans e17
    refine ⟨b14, e15, ?_⟩
    obtain ⟨c18, h1⟩ := h1
    obtain ⟨_, h2⟩ := h2
    refine ⟨c18, ?_⟩
    obtain ⟨b19, e20, h1⟩ := h1
    obtain ⟨b21, e22, h2⟩ := h2
    cases e20.symm.trans e22
    refine ⟨b19, e20, ?_⟩
    obtain ⟨c23, h1⟩ := h1
    obtain ⟨_, h2⟩ := h2
    refine ⟨c23, ?_⟩
    obtain ⟨c24, h1⟩ := h1
    obtain ⟨_, h2⟩ := h2
    refine ⟨c24, ?_⟩
    obtain ⟨b25, e26, h1⟩ := h1
    obtain ⟨b27, e28, h2⟩ := h2
    cases e26.symm.trans e28
    refine ⟨b25, e26, ?_⟩
    obtain ⟨b29, e30, h1⟩ := h1
    obtain ⟨b31, e32, h2⟩ := h2
    cases e30.symm.trans e32
    refine ⟨b29, e30, ?_⟩
    obtain ⟨c33, h1⟩ := h1
    obtain ⟨_, h2⟩ := h2
    refine ⟨c33, ?_⟩
    obtain ⟨b34, e35, h1⟩ := h1
    obtain ⟨b36, e37, h2⟩ := h2
    cases e35.symm.trans e37
    refine ⟨b34, e35, ?_⟩
    obtain ⟨c38, h1⟩ := h1
    obtain ⟨_, h2⟩ := h2
    refine ⟨c38, ?_⟩
    obtain ⟨c39, h1⟩ := h1
    obtain ⟨_, h2⟩ := h2
    refine ⟨c39, ?_⟩
    obtain ⟨b40, e41, h1⟩ := h1
    obtain ⟨b42, e43, h2⟩ := h2
    cases e41.symm.trans e43
    refine ⟨b40, e41, ?_⟩
    obtain ⟨b44, e45, h1⟩ := h1
    obtain ⟨b46, e47, h2⟩ := h2
    cases e45.symm.trans e47
    refine ⟨b44, e45, ?_⟩
    obtain ⟨c48, h1⟩ := h1
    obtain ⟨_, h2⟩ := h2
    refine ⟨c48, ?_⟩
    obtain ⟨b49, e50, h1⟩ := h1
    obtain ⟨b51, e52, h2⟩ := h2
    cases e50.symm.trans e52
    refine ⟨b49, e50, ?_⟩
    obtain ⟨c53, h1⟩ := h1
    obtain ⟨_, h2⟩ := h2
    refine ⟨c53, ?_⟩
    obtain ⟨c54, h1⟩ := h1
    obtain ⟨_, h2⟩ := h2
    refine ⟨c54, ?_⟩
    obtain ⟨b55, e56, h1⟩ := h1
    obtain ⟨b57, e58, h2⟩ := h2
    cases e56.symm.trans e58
    refine ⟨b55, e56, ?_⟩
    obtain ⟨c59, h1⟩ := h1
    obtain ⟨_, h2⟩ := h2
    refine ⟨c59, ?_⟩
    refine cm_X1_leastWet h1 h2 (fun x60 x61 h1 h2 g62 => ?_)
    have h1 := h1 g62
    have h2 := h2 g62
    obtain ⟨b63, e64, h1⟩ := h1
    obtain ⟨b65, e66, h2⟩ := h2
    cases e64.symm.trans e66
    refine ⟨b63, e64, ?_⟩
    obtain ⟨b67, e68, h1⟩ := h1
    obtain ⟨b69, e70, h2⟩ := h2
    cases e68.symm.trans e70
    refine ⟨b67, e68, ?_⟩
    obtain ⟨c71, h1⟩ := h1
    obtain ⟨_, h2⟩ := h2
    refine ⟨c71, ?_⟩
    obtain ⟨b72, e73, h1⟩ := h1
    obtain ⟨b74, e75, h2⟩ := h2
    cases e73.symm.trans e75
    refine ⟨b72, e73, ?_⟩
    obtain ⟨c76, h1⟩ := h1
    obtain ⟨_, h2⟩ := h2
    refine ⟨c76, ?_⟩
    obtain ⟨c77, h1⟩ := h1
    obtain ⟨_, h2⟩ := h2
    refine ⟨c77, ?_⟩
    obtain ⟨b78, e79, h1⟩ := h1
    obtain ⟨b80, e81, h2⟩ := h2
    cases e79.symm.trans e81
    refine ⟨b78, e79, ?_⟩
    obtain ⟨b82, e83, h1⟩ := h1
    obtain ⟨b84, e85, h2⟩ := h2
    cases e83.symm.trans e85
    refine ⟨b82, e83, ?_⟩
    obtain ⟨c86, h1⟩ := h1
    obtain ⟨_, h2⟩ := h2
    refine ⟨c86, ?_⟩
    obtain ⟨b87, e88, h1⟩ := h1
    obtain ⟨b89, e90, h2⟩ := h2
    cases e88.symm.trans e90
    refine ⟨b87, e88, ?_⟩
    obtain ⟨c91, h1⟩ := h1
    obtain ⟨_, h2⟩ := h2
    refine ⟨c91, ?_⟩
    obtain ⟨c92, h1⟩ := h1
    obtain ⟨_, h2⟩ := h2
    refine ⟨c92, ?_⟩
    obtain ⟨b93, e94, h1⟩ := h1
    obtain ⟨b95, e96, h2⟩ := h2
    cases e94.symm.trans e96
    refine ⟨b93, e94, ?_⟩
    obtain ⟨b97, e98, h1⟩ := h1
    obtain ⟨b99, e100, h2⟩ := h2
    cases e98.symm.trans e100
    refine ⟨b97, e98, ?_⟩
    obtain ⟨c101, h1⟩ := h1
    obtain ⟨_, h2⟩ := h2
    refine ⟨c101, ?_⟩
    obtain ⟨b102, e103, h1⟩ := h1
    obtain ⟨b104, e105, h2⟩ := h2
    cases e103.symm.trans e105
    refine ⟨b102, e103, ?_⟩
    obtain ⟨c106, h1⟩ := h1
    obtain ⟨_, h2⟩ := h2
    refine ⟨c106, ?_⟩
    obtain ⟨c107, h1⟩ := h1
    obtain ⟨_, h2⟩ := h2
    refine ⟨c107, ?_⟩
    obtain ⟨b108, e109, h1⟩ := h1
    obtain ⟨b110, e111, h2⟩ := h2
    cases e109.symm.trans e111
    refine ⟨b108, e109, ?_⟩
    obtain ⟨c112, h1⟩ := h1
    obtain ⟨_, h2⟩ := h2
    refine ⟨c112, ?_⟩
    refine cm_X1_leastWet h1 h2 (fun x113 x114 h1 h2 g115 => ?_)
    have h1 := h1 g115
    have h2 := h2 g115
    refine cm_X9_fraction h1 h2 (fun x116 x117 h1 h2 g118 => ?_)
    have h1 := h1 g118
    have h2 := h2 g118
    exact hq _ _ h1 h2
  · intro c119
    have h1 := h1.2 c119
    have h2 := h2.2 c119
    exact hq _ _ h1 h2
theorem cm_X9_round {Q1 Q2 Q3 : Int64 → HS → Prop} {v0 : Nat} {v1 : Int32} {v2 : Int32} {v3 : Int32} {v4 : Int32} {S : HS} (h1 : P_X9_round v0 v1 v2 v3 v4 Q1 S) (h2 : P_X9_round v0 v1 v2 v3 v4 Q2 S) (hq : ∀ (r : Int64) (T : HS), Q1 r T → Q2 r T → Q3 r T) : P_X9_round v0 v1 v2 v3 v4 Q3 S := cm_X9_round_0 h1 h2 hq
set_option maxRecDepth 20000 in
set_option maxHeartbeats 1000000 in
theorem cm_X9_saves_0 {Q1 Q2 Q3 : Int64 → HS → Prop} {v0 : Nat} {v1 : Int32} {v2 : Int32} {v3 : Int32} {v4 : Int32} {v5 : Int32} {S : HS} (h1 : P_X9_saves_0 Q1 v0 v1 v2 v3 v4 v5 S) (h2 : P_X9_saves_0 Q2 v0 v1 v2 v3 v4 v5 S) (hq : ∀ (r : Int64) (T : HS), Q1 r T → Q2 r T → Q3 r T) : P_X9_saves_0 Q3 v0 v1 v2 v3 v4 v5 S := by
  delta P_X9_saves_0 at h1 h2 ⊢
  obtain ⟨c1, h1⟩ := h1
  obtain ⟨_, h2⟩ := h2
  refine ⟨c1, ?_⟩
  refine cm_X9_tripTrouble h1 h2 (fun x2 x3 h1 h2 g4 => ?_)
  have h1 := h1 g4
  have h2 := h2 g4
  refine cm_X9_refusedBy h1 h2 (fun x5 x6 h1 h2 g7 g8 => ?_)
  have h1 := h1 g7 g8
  have h2 := h2 g7 g8
  refine ⟨?_, ?_⟩
  · intro c9
    have h1 := h1.1 c9
    have h2 := h2.1 c9
    obtain ⟨b10, e11, h1⟩ := h1
    obtain ⟨b12, e13, h2⟩ := h2
    cases e11.symm.trans e13
    refine ⟨b10, e11, ?_⟩
    obtain ⟨c14, h1⟩ := h1
    obtain ⟨_, h2⟩ := h2
    refine ⟨c14, ?_⟩
    obtain ⟨b15, e16, h1⟩ := h1
    obtain ⟨b17, e18, h2⟩ := h2
    cases e16.symm.trans e18
    refine ⟨b15, e16, ?_⟩
    obtain ⟨c19, h1⟩ := h1
    obtain ⟨_, h2⟩ := h2
    refine ⟨c19, ?_⟩
    obtain ⟨c20, h1⟩ := h1
    obtain ⟨_, h2⟩ := h2
    refine ⟨c20, ?_⟩
    obtain ⟨b21, e22, h1⟩ := h1
    obtain ⟨b23, e24, h2⟩ := h2
    cases e22.symm.trans e24
    refine ⟨b21, e22, ?_⟩
    obtain ⟨b25, e26, h1⟩ := h1
    obtain ⟨b27, e28, h2⟩ := h2
    cases e26.symm.trans e28
    refine ⟨b25, e26, ?_⟩
    obtain ⟨b29, e30, h1⟩ := h1
    obtain ⟨b31, e32, h2⟩ := h2
    cases e30.symm.trans e32
    refine ⟨b29, e30, ?_⟩
    obtain ⟨c33, h1⟩ := h1
    obtain ⟨_, h2⟩ := h2
    refine ⟨c33, ?_⟩
    obtain ⟨b34, e35, h1⟩ := h1
    obtain ⟨b36, e37, h2⟩ := h2
    cases e35.symm.trans e37
    refine ⟨b34, e35, ?_⟩
    obtain ⟨c38, h1⟩ := h1
    obtain ⟨_, h2⟩ := h2
    refine ⟨c38, ?_⟩
    obtain ⟨c39, h1⟩ := h1
    obtain ⟨_, h2⟩ := h2
    refine ⟨c39, ?_⟩
    obtain ⟨b40, e41, h1⟩ := h1
    obtain ⟨b42, e43, h2⟩ := h2
    cases e41.symm.trans e43
    refine ⟨b40, e41, ?_⟩
    obtain ⟨b44, e45, h1⟩ := h1
    obtain ⟨b46, e47, h2⟩ := h2
    cases e45.symm.trans e47
    refine ⟨b44, e45, ?_⟩
    obtain ⟨c48, h1⟩ := h1
    obtain ⟨_, h2⟩ := h2
    refine ⟨c48, ?_⟩
    obtain ⟨b49, e50, h1⟩ := h1
    obtain ⟨b51, e52, h2⟩ := h2
    cases e50.symm.trans e52
    refine ⟨b49, e50, ?_⟩
    obtain ⟨c53, h1⟩ := h1
    obtain ⟨_, h2⟩ := h2
    refine ⟨c53, ?_⟩
    obtain ⟨c54, h1⟩ := h1
    obtain ⟨_, h2⟩ := h2
    refine ⟨c54, ?_⟩
    obtain ⟨b55, e56, h1⟩ := h1
    obtain ⟨b57, e58, h2⟩ := h2
    cases e56.symm.trans e58
    refine ⟨b55, e56, ?_⟩
    obtain ⟨c59, h1⟩ := h1
    obtain ⟨_, h2⟩ := h2
    refine ⟨c59, ?_⟩
    intro x61 e60
    have h1 := h1 x61 e60
    have h2 := h2 x61 e60
    obtain ⟨c62, h1⟩ := h1
    obtain ⟨_, h2⟩ := h2
    refine ⟨c62, ?_⟩
    refine cm_X1_wetOf h1 h2 (fun x63 x64 h1 h2 g65 => ?_)
    have h1 := h1 g65
    have h2 := h2 g65
    obtain ⟨b66, e67, h1⟩ := h1
    obtain ⟨b68, e69, h2⟩ := h2
    cases e67.symm.trans e69
    refine ⟨b66, e67, ?_⟩
    obtain ⟨b70, e71, h1⟩ := h1
    obtain ⟨b72, e73, h2⟩ := h2
    cases e71.symm.trans e73
    refine ⟨b70, e71, ?_⟩
    obtain ⟨c74, h1⟩ := h1
    obtain ⟨_, h2⟩ := h2
    refine ⟨c74, ?_⟩
    obtain ⟨b75, e76, h1⟩ := h1
    obtain ⟨b77, e78, h2⟩ := h2
    cases e76.symm.trans e78
    refine ⟨b75, e76, ?_⟩
    obtain ⟨c79, h1⟩ := h1
    obtain ⟨_, h2⟩ := h2
    refine ⟨c79, ?_⟩
    obtain ⟨c80, h1⟩ := h1
    obtain ⟨_, h2⟩ := h2
    refine ⟨c80, ?_⟩
    obtain ⟨b81, e82, h1⟩ := h1
    obtain ⟨b83, e84, h2⟩ := h2
    cases e82.symm.trans e84
    refine ⟨b81, e82, ?_⟩
    obtain ⟨b85, e86, h1⟩ := h1
    obtain ⟨b87, e88, h2⟩ := h2
    cases e86.symm.trans e88
    refine ⟨b85, e86, ?_⟩
    obtain ⟨c89, h1⟩ := h1
    obtain ⟨_, h2⟩ := h2
    refine ⟨c89, ?_⟩
    obtain ⟨b90, e91, h1⟩ := h1
    obtain ⟨b92, e93, h2⟩ := h2
    cases e91.symm.trans e93
    refine ⟨b90, e91, ?_⟩
    obtain ⟨c94, h1⟩ := h1
    obtain ⟨_, h2⟩ := h2
    refine ⟨c94, ?_⟩
    obtain ⟨c95, h1⟩ := h1
    obtain ⟨_, h2⟩ := h2
    refine ⟨c95, ?_⟩
    obtain ⟨b96, e97, h1⟩ := h1
    obtain ⟨b98, e99, h2⟩ := h2
    cases e97.symm.trans e99
    refine ⟨b96, e97, ?_⟩
    obtain ⟨c100, h1⟩ := h1
    obtain ⟨_, h2⟩ := h2
    refine ⟨c100, ?_⟩
    refine cm_X1_leastWet h1 h2 (fun x101 x102 h1 h2 g103 => ?_)
    have h1 := h1 g103
    have h2 := h2 g103
    refine cm_X9_fraction h1 h2 (fun x104 x105 h1 h2 g106 => ?_)
    have h1 := h1 g106
    have h2 := h2 g106
    exact hq _ _ h1 h2
  · intro c107
    have h1 := h1.2 c107
    have h2 := h2.2 c107
    exact hq _ _ h1 h2
theorem cm_X9_saves {Q1 Q2 Q3 : Int64 → HS → Prop} {v0 : Nat} {v1 : Int32} {v2 : Int32} {v3 : Int32} {v4 : Int32} {v5 : Int32} {S : HS} (h1 : P_X9_saves v0 v1 v2 v3 v4 v5 Q1 S) (h2 : P_X9_saves v0 v1 v2 v3 v4 v5 Q2 S) (hq : ∀ (r : Int64) (T : HS), Q1 r T → Q2 r T → Q3 r T) : P_X9_saves v0 v1 v2 v3 v4 v5 Q3 S := cm_X9_saves_0 h1 h2 hq
set_option maxRecDepth 20000 in
set_option maxHeartbeats 1000000 in
theorem cm_X9_size_0 {Q1 Q2 Q3 : Int32 → HS → Prop} {v0 : Nat} {v1 : Int32} {S : HS} (h1 : P_X9_size_0 Q1 v0 v1 S) (h2 : P_X9_size_0 Q2 v0 v1 S) (hq : ∀ (r : Int32) (T : HS), Q1 r T → Q2 r T → Q3 r T) : P_X9_size_0 Q3 v0 v1 S := by
  delta P_X9_size_0 at h1 h2 ⊢
  refine ⟨?_, ?_, ?_, ?_, ?_, ?_, ?_, ?_, ?_, ?_, ?_, ?_, ?_⟩
  · intro c1
    have h1 := h1.1 c1
    have h2 := h2.1 c1
    exact hq _ _ h1 h2
  · intro c2
    have h1 := h1.2.1 c2
    have h2 := h2.2.1 c2
    obtain ⟨c3, h1⟩ := h1
    obtain ⟨_, h2⟩ := h2
    refine ⟨c3, ?_⟩
    obtain ⟨b4, e5, h1⟩ := h1
    obtain ⟨b6, e7, h2⟩ := h2
    cases e5.symm.trans e7
    refine ⟨b4, e5, ?_⟩
    obtain ⟨c8, h1⟩ := h1
    obtain ⟨_, h2⟩ := h2
    refine ⟨c8, ?_⟩
    intro x10 e9
    have h1 := h1 x10 e9
    have h2 := h2 x10 e9
    exact hq _ _ h1 h2
  · intro c11
    have h1 := h1.2.2.1 c11
    have h2 := h2.2.2.1 c11
    obtain ⟨c12, h1⟩ := h1
    obtain ⟨_, h2⟩ := h2
    refine ⟨c12, ?_⟩
    obtain ⟨b13, e14, h1⟩ := h1
    obtain ⟨b15, e16, h2⟩ := h2
    cases e14.symm.trans e16
    refine ⟨b13, e14, ?_⟩
    obtain ⟨c17, h1⟩ := h1
    obtain ⟨_, h2⟩ := h2
    refine ⟨c17, ?_⟩
    intro x19 e18
    have h1 := h1 x19 e18
    have h2 := h2 x19 e18
    exact hq _ _ h1 h2
  · intro c20
    have h1 := h1.2.2.2.1 c20
    have h2 := h2.2.2.2.1 c20
    obtain ⟨c21, h1⟩ := h1
    obtain ⟨_, h2⟩ := h2
    refine ⟨c21, ?_⟩
    obtain ⟨b22, e23, h1⟩ := h1
    obtain ⟨b24, e25, h2⟩ := h2
    cases e23.symm.trans e25
    refine ⟨b22, e23, ?_⟩
    obtain ⟨c26, h1⟩ := h1
    obtain ⟨_, h2⟩ := h2
    refine ⟨c26, ?_⟩
    intro x28 e27
    have h1 := h1 x28 e27
    have h2 := h2 x28 e27
    exact hq _ _ h1 h2
  · intro c29
    have h1 := h1.2.2.2.2.1 c29
    have h2 := h2.2.2.2.2.1 c29
    obtain ⟨c30, h1⟩ := h1
    obtain ⟨_, h2⟩ := h2
    refine ⟨c30, ?_⟩
    obtain ⟨b31, e32, h1⟩ := h1
    obtain ⟨b33, e34, h2⟩ := h2
    cases e32.symm.trans e34
    refine ⟨b31, e32, ?_⟩
    obtain ⟨c35, h1⟩ := h1
    obtain ⟨_, h2⟩ := h2
    refine ⟨c35, ?_⟩
    intro x37 e36
    have h1 := h1 x37 e36
    have h2 := h2 x37 e36
    exact hq _ _ h1 h2
  · intro c38
    have h1 := h1.2.2.2.2.2.1 c38
    have h2 := h2.2.2.2.2.2.1 c38
    obtain ⟨c39, h1⟩ := h1
    obtain ⟨_, h2⟩ := h2
    refine ⟨c39, ?_⟩
    obtain ⟨b40, e41, h1⟩ := h1
    obtain ⟨b42, e43, h2⟩ := h2
    cases e41.symm.trans e43
    refine ⟨b40, e41, ?_⟩
    obtain ⟨c44, h1⟩ := h1
    obtain ⟨_, h2⟩ := h2
    refine ⟨c44, ?_⟩
    intro x46 e45
    have h1 := h1 x46 e45
    have h2 := h2 x46 e45
    exact hq _ _ h1 h2
  · intro c47
    have h1 := h1.2.2.2.2.2.2.1 c47
    have h2 := h2.2.2.2.2.2.2.1 c47
    obtain ⟨c48, h1⟩ := h1
    obtain ⟨_, h2⟩ := h2
    refine ⟨c48, ?_⟩
    obtain ⟨b49, e50, h1⟩ := h1
    obtain ⟨b51, e52, h2⟩ := h2
    cases e50.symm.trans e52
    refine ⟨b49, e50, ?_⟩
    obtain ⟨c53, h1⟩ := h1
    obtain ⟨_, h2⟩ := h2
    refine ⟨c53, ?_⟩
    intro x55 e54
    have h1 := h1 x55 e54
    have h2 := h2 x55 e54
    exact hq _ _ h1 h2
  · intro c56
    have h1 := h1.2.2.2.2.2.2.2.1 c56
    have h2 := h2.2.2.2.2.2.2.2.1 c56
    obtain ⟨c57, h1⟩ := h1
    obtain ⟨_, h2⟩ := h2
    refine ⟨c57, ?_⟩
    obtain ⟨b58, e59, h1⟩ := h1
    obtain ⟨b60, e61, h2⟩ := h2
    cases e59.symm.trans e61
    refine ⟨b58, e59, ?_⟩
    obtain ⟨c62, h1⟩ := h1
    obtain ⟨_, h2⟩ := h2
    refine ⟨c62, ?_⟩
    refine cm_X0_isOn h1 h2 (fun x63 x64 h1 h2 g65 g66 => ?_)
    have h1 := h1 g65 g66
    have h2 := h2 g65 g66
    refine ⟨?_, ?_⟩
    · intro c67
      have h1 := h1.1 c67
      have h2 := h2.1 c67
      exact hq _ _ h1 h2
    · intro c68
      have h1 := h1.2 c68
      have h2 := h2.2 c68
      obtain ⟨b69, e70, h1⟩ := h1
      obtain ⟨b71, e72, h2⟩ := h2
      cases e70.symm.trans e72
      refine ⟨b69, e70, ?_⟩
      obtain ⟨c73, h1⟩ := h1
      obtain ⟨_, h2⟩ := h2
      refine ⟨c73, ?_⟩
      intro x75 e74
      have h1 := h1 x75 e74
      have h2 := h2 x75 e74
      exact hq _ _ h1 h2
  · intro c76
    have h1 := h1.2.2.2.2.2.2.2.2.1 c76
    have h2 := h2.2.2.2.2.2.2.2.2.1 c76
    obtain ⟨c77, h1⟩ := h1
    obtain ⟨_, h2⟩ := h2
    refine ⟨c77, ?_⟩
    obtain ⟨b78, e79, h1⟩ := h1
    obtain ⟨b80, e81, h2⟩ := h2
    cases e79.symm.trans e81
    refine ⟨b78, e79, ?_⟩
    obtain ⟨c82, h1⟩ := h1
    obtain ⟨_, h2⟩ := h2
    refine ⟨c82, ?_⟩
    refine cm_X0_isOn h1 h2 (fun x83 x84 h1 h2 g85 g86 => ?_)
    have h1 := h1 g85 g86
    have h2 := h2 g85 g86
    refine ⟨?_, ?_⟩
    · intro c87
      have h1 := h1.1 c87
      have h2 := h2.1 c87
      exact hq _ _ h1 h2
    · intro c88
      have h1 := h1.2 c88
      have h2 := h2.2 c88
      obtain ⟨b89, e90, h1⟩ := h1
      obtain ⟨b91, e92, h2⟩ := h2
      cases e90.symm.trans e92
      refine ⟨b89, e90, ?_⟩
      obtain ⟨c93, h1⟩ := h1
      obtain ⟨_, h2⟩ := h2
      refine ⟨c93, ?_⟩
      obtain ⟨b94, e95, h1⟩ := h1
      obtain ⟨b96, e97, h2⟩ := h2
      cases e95.symm.trans e97
      refine ⟨b94, e95, ?_⟩
      obtain ⟨c98, h1⟩ := h1
      obtain ⟨_, h2⟩ := h2
      refine ⟨c98, ?_⟩
      intro x100 e99
      have h1 := h1 x100 e99
      have h2 := h2 x100 e99
      exact hq _ _ h1 h2
  · intro c101
    have h1 := h1.2.2.2.2.2.2.2.2.2.1 c101
    have h2 := h2.2.2.2.2.2.2.2.2.2.1 c101
    obtain ⟨c102, h1⟩ := h1
    obtain ⟨_, h2⟩ := h2
    refine ⟨c102, ?_⟩
    obtain ⟨b103, e104, h1⟩ := h1
    obtain ⟨b105, e106, h2⟩ := h2
    cases e104.symm.trans e106
    refine ⟨b103, e104, ?_⟩
    obtain ⟨c107, h1⟩ := h1
    obtain ⟨_, h2⟩ := h2
    refine ⟨c107, ?_⟩
    refine cm_X0_isOn h1 h2 (fun x108 x109 h1 h2 g110 g111 => ?_)
    have h1 := h1 g110 g111
    have h2 := h2 g110 g111
    refine ⟨?_, ?_⟩
    · intro c112
      have h1 := h1.1 c112
      have h2 := h2.1 c112
      exact hq _ _ h1 h2
    · intro c113
      have h1 := h1.2 c113
      have h2 := h2.2 c113
      obtain ⟨b114, e115, h1⟩ := h1
      obtain ⟨b116, e117, h2⟩ := h2
      cases e115.symm.trans e117
      refine ⟨b114, e115, ?_⟩
      obtain ⟨c118, h1⟩ := h1
      obtain ⟨_, h2⟩ := h2
      refine ⟨c118, ?_⟩
      obtain ⟨b119, e120, h1⟩ := h1
      obtain ⟨b121, e122, h2⟩ := h2
      cases e120.symm.trans e122
      refine ⟨b119, e120, ?_⟩
      obtain ⟨c123, h1⟩ := h1
      obtain ⟨_, h2⟩ := h2
      refine ⟨c123, ?_⟩
      intro x125 e124
      have h1 := h1 x125 e124
      have h2 := h2 x125 e124
      exact hq _ _ h1 h2
  · intro c126
    have h1 := h1.2.2.2.2.2.2.2.2.2.2.1 c126
    have h2 := h2.2.2.2.2.2.2.2.2.2.2.1 c126
    obtain ⟨c127, h1⟩ := h1
    obtain ⟨_, h2⟩ := h2
    refine ⟨c127, ?_⟩
    obtain ⟨b128, e129, h1⟩ := h1
    obtain ⟨b130, e131, h2⟩ := h2
    cases e129.symm.trans e131
    refine ⟨b128, e129, ?_⟩
    obtain ⟨c132, h1⟩ := h1
    obtain ⟨_, h2⟩ := h2
    refine ⟨c132, ?_⟩
    intro x134 e133
    have h1 := h1 x134 e133
    have h2 := h2 x134 e133
    exact hq _ _ h1 h2
  · intro c135
    have h1 := h1.2.2.2.2.2.2.2.2.2.2.2.1 c135
    have h2 := h2.2.2.2.2.2.2.2.2.2.2.2.1 c135
    obtain ⟨c136, h1⟩ := h1
    obtain ⟨_, h2⟩ := h2
    refine ⟨c136, ?_⟩
    obtain ⟨b137, e138, h1⟩ := h1
    obtain ⟨b139, e140, h2⟩ := h2
    cases e138.symm.trans e140
    refine ⟨b137, e138, ?_⟩
    obtain ⟨c141, h1⟩ := h1
    obtain ⟨_, h2⟩ := h2
    refine ⟨c141, ?_⟩
    intro x143 e142
    have h1 := h1 x143 e142
    have h2 := h2 x143 e142
    exact hq _ _ h1 h2
  · intro c144
    have h1 := h1.2.2.2.2.2.2.2.2.2.2.2.2 c144
    have h2 := h2.2.2.2.2.2.2.2.2.2.2.2.2 c144
    obtain ⟨c145, h1⟩ := h1
    obtain ⟨_, h2⟩ := h2
    refine ⟨c145, ?_⟩
    intro x147 e146
    have h1 := h1 x147 e146
    have h2 := h2 x147 e146
    exact hq _ _ h1 h2
theorem cm_X9_size {Q1 Q2 Q3 : Int32 → HS → Prop} {v0 : Nat} {v1 : Int32} {S : HS} (h1 : P_X9_size v0 v1 Q1 S) (h2 : P_X9_size v0 v1 Q2 S) (hq : ∀ (r : Int32) (T : HS), Q1 r T → Q2 r T → Q3 r T) : P_X9_size v0 v1 Q3 S := cm_X9_size_0 h1 h2 hq
