set_option maxRecDepth 20000 in
set_option maxHeartbeats 1000000 in
theorem kg_X4_walkerLine_0 {Q : Int32 → HS → Prop} {v0 : Nat} {S0 S : HS} (h : P_X4_walkerLine_0 Q v0 S) (K : K5 S0 S) : P_X4_walkerLine_0 (fun r T => Q r T ∧ K5 S0 T) v0 S := by
  delta P_X4_walkerLine_0 at h ⊢
  obtain ⟨c1, h⟩ := h
  refine ⟨c1, ?_⟩
  have n2 := k5_ne K c1
  obtain ⟨b3, e4, h⟩ := h
  refine ⟨b3, e4, ?_⟩
  obtain ⟨c5, h⟩ := h
  refine ⟨c5, ?_⟩
  have n6 := k5_ne K c5
  obtain ⟨b7, e8, h⟩ := h
  refine ⟨b7, e8, ?_⟩
  obtain ⟨b9, e10, h⟩ := h
  refine ⟨b9, e10, ?_⟩
  obtain ⟨c11, h⟩ := h
  refine ⟨c11, ?_⟩
  have n12 := k5_ne K c11
  intro x14 e13
  have h := h x14 e13
  obtain ⟨c15, h⟩ := h
  refine ⟨c15, ?_⟩
  have n16 := k5_ne K c15
  obtain ⟨c17, h⟩ := h
  refine ⟨c17, ?_⟩
  obtain ⟨b18, e19, h⟩ := h
  refine ⟨b18, e19, ?_⟩
  obtain ⟨b20, e21, h⟩ := h
  refine ⟨b20, e21, ?_⟩
  obtain ⟨c22, h⟩ := h
  refine ⟨c22, ?_⟩
  have n23 := k5_ne K c22
  intro x25 e24
  have h := h x25 e24
  refine cm_X4_newName (kg_X4_newName h) h (fun x26 x27 hp h g28 g29 => ?_)
  have h := h g28 g29
  have K := k5_tr K hp.2
  refine ⟨?_, ?_⟩
  · intro c30
    have h := h.1 c30
    exact ⟨h, K⟩
  · intro c31
    have h := h.2 c31
    refine cm_X4_kindOf (kg_X4_kindOf h) h (fun x32 x33 hp h g34 g35 => ?_)
    have h := h g34 g35
    have K := k5_tr K hp.2
    refine ⟨?_, ?_⟩
    · intro c36
      have h := h.1 c36
      exact ⟨h, K⟩
    · intro c37
      have h := h.2 c37
      refine cm_X4_bodyOf (kg_X4_bodyOf h) h (fun x38 x39 hp h g40 g41 => ?_)
      have h := h g40 g41
      have K := k5_tr K hp.2
      refine ⟨?_, ?_⟩
      · intro c42
        have h := h.1 c42
        refine cm_X4_wordAndWhole (kg_X4_wordAndWhole h) h (fun x43 x44 hp h g45 g46 => ?_)
        have h := h g45 g46
        have K := k5_tr K hp.2
        refine ⟨?_, ?_⟩
        · intro c47
          have h := h.1 c47
          intro x49 e48
          have h := h x49 e48
          obtain ⟨c50, h⟩ := h
          refine ⟨c50, ?_⟩
          have n51 := k5_ne K c50
          intro x53 e52
          have h := h x53 e52
          have K := k5_I K e52 n51 (by decide)
          intro x55 e54
          have h := h x55 e54
          refine cm_X4_wordAndWhole (kg_X4_wordAndWhole h) h (fun x56 x57 hp h g58 g59 => ?_)
          have h := h g58 g59
          have K := k5_tr K hp.2
          refine ⟨?_, ?_⟩
          · intro c60
            have h := h.1 c60
            intro x62 e61
            have h := h x62 e61
            intro x64 e63
            have h := h x64 e63
            have K := k5_I K e63 n51 (by decide)
            obtain ⟨b65, e66, h⟩ := h
            refine ⟨b65, e66, ?_⟩
            obtain ⟨c67, h⟩ := h
            refine ⟨c67, ?_⟩
            have n68 := k5_ne K c67
            intro x70 e69
            have h := h x70 e69
            intro x72 e71
            have h := h x72 e71
            intro x74 e73
            have h := h x74 e73
            have K := k5_I K e73 n68 (by decide)
            exact ⟨h, K⟩
          · intro c75
            have h := h.2 c75
            exact ⟨h, K⟩
        · intro c76
          have h := h.2 c76
          exact ⟨h, K⟩
      · intro c77
        have h := h.2 c77
        exact ⟨h, K⟩
theorem kg_X4_walkerLine {Q : Int32 → HS → Prop} {v0 : Nat} {S : HS} (h : P_X4_walkerLine v0 Q S) : P_X4_walkerLine v0 (fun r T => Q r T ∧ K5 S T) S := kg_X4_walkerLine_0 h (k5_rf S)
set_option maxRecDepth 20000 in
set_option maxHeartbeats 1000000 in
theorem kg_X4_worldLine_0 {Q : Int32 → HS → Prop} {v0 : Nat} {S0 S : HS} (h : P_X4_worldLine_0 Q v0 S) (K : K5 S0 S) : P_X4_worldLine_0 (fun r T => Q r T ∧ K5 S0 T) v0 S := by
  delta P_X4_worldLine_0 at h ⊢
  obtain ⟨c1, h⟩ := h
  refine ⟨c1, ?_⟩
  have n2 := k5_ne K c1
  obtain ⟨b3, e4, h⟩ := h
  refine ⟨b3, e4, ?_⟩
  obtain ⟨c5, h⟩ := h
  refine ⟨c5, ?_⟩
  have n6 := k5_ne K c5
  refine cm_X8_isTold (kg_X8_isTold h) h (fun x7 x8 hp h g9 g10 => ?_)
  have h := h g9 g10
  have K := k5_tr K hp.2
  refine ⟨?_, ?_⟩
  · intro c11
    have h := h.1 c11
    refine cm_X4_next (kg_X4_next h) h (fun x12 hp h g13 => ?_)
    have h := h g13
    have K := k5_tr K hp.2
    refine cm_X4_wordAndWhole (kg_X4_wordAndWhole h) h (fun x14 x15 hp h g16 g17 => ?_)
    have h := h g16 g17
    have K := k5_tr K hp.2
    refine ⟨?_, ?_⟩
    · intro c18
      have h := h.1 c18
      obtain ⟨b19, e20, h⟩ := h
      refine ⟨b19, e20, ?_⟩
      intro x22 e21
      have h := h x22 e21
      obtain ⟨c23, h⟩ := h
      refine ⟨c23, ?_⟩
      have n24 := k5_ne K c23
      intro x26 e25
      have h := h x26 e25
      have K := k5_I K e25 n24 (by decide)
      exact ⟨h, K⟩
    · intro c27
      have h := h.2 c27
      exact ⟨h, K⟩
  · intro c28
    have h := h.2 c28
    refine cm_X4_fail (kg_X4_fail h) h (fun x29 x30 hp h g31 g32 => ?_)
    have h := h g31 g32
    have K := k5_tr K hp.2
    obtain ⟨c33, h⟩ := h
    refine ⟨c33, ?_⟩
    exact ⟨h, K⟩
theorem kg_X4_worldLine {Q : Int32 → HS → Prop} {v0 : Nat} {S : HS} (h : P_X4_worldLine v0 Q S) : P_X4_worldLine v0 (fun r T => Q r T ∧ K5 S T) S := kg_X4_worldLine_0 h (k5_rf S)
set_option maxRecDepth 20000 in
set_option maxHeartbeats 1000000 in
theorem kg_X4_read_280 {Q : Int32 → HS → Prop} {v0 : Nat} {S0 S : HS} (h : P_X4_read_280 Q v0 S) (K : K5 S0 S) : P_X4_read_280 (fun r T => Q r T ∧ K5 S0 T) v0 S := by
  delta P_X4_read_280 at h ⊢
  obtain ⟨c1, h⟩ := h
  refine ⟨c1, ?_⟩
  have n2 := k5_ne K c1
  refine cm_X4_fail (kg_X4_fail h) h (fun x3 x4 hp h g5 g6 => ?_)
  have h := h g5 g6
  have K := k5_tr K hp.2
  refine ⟨?_, ?_⟩
  · intro c7
    have h := h.1 c7
    exact ⟨h, K⟩
  · intro c8
    have h := h.2 c8
    exact ⟨h, K⟩
set_option maxRecDepth 20000 in
set_option maxHeartbeats 1000000 in
theorem kg_X4_read_295 {Q : Int32 → HS → Prop} {X8 X8_2 : Nat → Int32 → HS → Prop} {v0 : Nat} {v3 : Int32} {v4 : Int32} {S0 S : HS} (h : P_X4_read_295 Q X8 v0 v3 v4 S) (K : K5 S0 S) (hX8 : ∀ (u0 : Nat) (u1 : Int32) (u2 : HS), X8 u0 u1 u2 → K5 S0 u2 → X8_2 u0 u1 u2) : P_X4_read_295 (fun r T => Q r T ∧ K5 S0 T) X8_2 v0 v3 v4 S := by
  delta P_X4_read_295 at h ⊢
  refine ⟨?_, ?_⟩
  · intro c1
    have h := h.1 c1
    exact ⟨h, K⟩
  · intro c2
    have h := h.2 c2
    obtain ⟨c3, h⟩ := h
    refine ⟨c3, ?_⟩
    have n4 := k5_ne K c3
    refine cm_X4_sign (kg_X4_sign h) h (fun x5 x6 hp h g7 g8 => ?_)
    have h := h g7 g8
    have K := k5_tr K hp.2
    refine ⟨?_, ?_⟩
    · intro c9
      have h := h.1 c9
      intro x11 e10
      have h := h x11 e10
      exact hX8 _ _ _ h K
    · intro c12
      have h := h.2 c12
      exact ⟨h, K⟩
set_option maxRecDepth 20000 in
set_option maxHeartbeats 1000000 in
theorem kg_X4_read_248 {Q : Int32 → HS → Prop} {X8 X8_2 : Nat → Int32 → HS → Prop} {v0 : Nat} {v3 : Int32} {v4 : Int32} {S0 S : HS} (h : P_X4_read_248 Q X8 v0 v3 v4 S) (K : K5 S0 S) (hX8 : ∀ (u0 : Nat) (u1 : Int32) (u2 : HS), X8 u0 u1 u2 → K5 S0 u2 → X8_2 u0 u1 u2) : P_X4_read_248 (fun r T => Q r T ∧ K5 S0 T) X8_2 v0 v3 v4 S := by
  delta P_X4_read_248 at h ⊢
  refine ⟨?_, ?_⟩
  · intro c1
    have h := h.1 c1
    exact kg_X4_read_295 h K hX8
  · intro c2
    have h := h.2 c2
    obtain ⟨c3, h⟩ := h
    refine ⟨c3, ?_⟩
    have n4 := k5_ne K c3
    intro x6 e5
    have h := h x6 e5
    refine ⟨?_, ?_⟩
    · intro c7
      have h := h.1 c7
      exact kg_X4_read_295 h K hX8
    · intro c8
      have h := h.2 c8
      obtain ⟨b9, e10, h⟩ := h
      refine ⟨b9, e10, ?_⟩
      obtain ⟨c11, h⟩ := h
      refine ⟨c11, ?_⟩
      have n12 := k5_ne K c11
      intro x14 e13
      have h := h x14 e13
      refine ⟨?_, ?_⟩
      · intro c15
        have h := h.1 c15
        exact kg_X4_read_280 h K
      · intro c16
        have h := h.2 c16
        obtain ⟨b17, e18, h⟩ := h
        refine ⟨b17, e18, ?_⟩
        obtain ⟨c19, h⟩ := h
        refine ⟨c19, ?_⟩
        have n20 := k5_ne K c19
        intro x22 e21
        have h := h x22 e21
        refine ⟨?_, ?_⟩
        · intro c23
          have h := h.1 c23
          exact ⟨h, K⟩
        · intro c24
          have h := h.2 c24
          exact kg_X4_read_280 h K
set_option maxRecDepth 20000 in
set_option maxHeartbeats 1000000 in
theorem kg_X4_read_70 {Q : Int32 → HS → Prop} {X8 X8_2 : Nat → Int32 → HS → Prop} {v0 : Nat} {v3 : Int32} {s0 : Int32} {S0 S : HS} (h : P_X4_read_70 Q X8 v0 v3 s0 S) (K : K5 S0 S) (hX8 : ∀ (u0 : Nat) (u1 : Int32) (u2 : HS), X8 u0 u1 u2 → K5 S0 u2 → X8_2 u0 u1 u2) : P_X4_read_70 (fun r T => Q r T ∧ K5 S0 T) X8_2 v0 v3 s0 S := by
  delta P_X4_read_70 at h ⊢
  exact kg_X4_read_248 h K hX8
set_option maxRecDepth 20000 in
set_option maxHeartbeats 1000000 in
theorem kg_X4_read_69 {Q : Int32 → HS → Prop} {X8 X8_2 : Nat → Int32 → HS → Prop} {v0 : Nat} {v3 : Int32} {S0 S : HS} (h : P_X4_read_69 Q X8 v0 v3 S) (K : K5 S0 S) (hX8 : ∀ (u0 : Nat) (u1 : Int32) (u2 : HS), X8 u0 u1 u2 → K5 S0 u2 → X8_2 u0 u1 u2) : P_X4_read_69 (fun r T => Q r T ∧ K5 S0 T) X8_2 v0 v3 S := by
  delta P_X4_read_69 at h ⊢
  exact kg_X4_read_70 h K hX8
set_option maxRecDepth 20000 in
set_option maxHeartbeats 1000000 in
theorem kg_X4_read_112 {Q : Int32 → HS → Prop} {X8 X8_2 : Nat → Int32 → HS → Prop} {v0 : Nat} {v3 : Int32} {s0 : Int32} {S0 S : HS} (h : P_X4_read_112 Q X8 v0 v3 s0 S) (K : K5 S0 S) (hX8 : ∀ (u0 : Nat) (u1 : Int32) (u2 : HS), X8 u0 u1 u2 → K5 S0 u2 → X8_2 u0 u1 u2) : P_X4_read_112 (fun r T => Q r T ∧ K5 S0 T) X8_2 v0 v3 s0 S := by
  delta P_X4_read_112 at h ⊢
  exact kg_X4_read_248 h K hX8
set_option maxRecDepth 20000 in
set_option maxHeartbeats 1000000 in
theorem kg_X4_read_111 {Q : Int32 → HS → Prop} {X8 X8_2 : Nat → Int32 → HS → Prop} {v0 : Nat} {v3 : Int32} {S0 S : HS} (h : P_X4_read_111 Q X8 v0 v3 S) (K : K5 S0 S) (hX8 : ∀ (u0 : Nat) (u1 : Int32) (u2 : HS), X8 u0 u1 u2 → K5 S0 u2 → X8_2 u0 u1 u2) : P_X4_read_111 (fun r T => Q r T ∧ K5 S0 T) X8_2 v0 v3 S := by
  delta P_X4_read_111 at h ⊢
  exact kg_X4_read_112 h K hX8
set_option maxRecDepth 20000 in
set_option maxHeartbeats 1000000 in
theorem kg_X4_read_154 {Q : Int32 → HS → Prop} {X8 X8_2 : Nat → Int32 → HS → Prop} {v0 : Nat} {v3 : Int32} {s0 : Int32} {S0 S : HS} (h : P_X4_read_154 Q X8 v0 v3 s0 S) (K : K5 S0 S) (hX8 : ∀ (u0 : Nat) (u1 : Int32) (u2 : HS), X8 u0 u1 u2 → K5 S0 u2 → X8_2 u0 u1 u2) : P_X4_read_154 (fun r T => Q r T ∧ K5 S0 T) X8_2 v0 v3 s0 S := by
  delta P_X4_read_154 at h ⊢
  exact kg_X4_read_248 h K hX8
set_option maxRecDepth 20000 in
set_option maxHeartbeats 1000000 in
theorem kg_X4_read_153 {Q : Int32 → HS → Prop} {X8 X8_2 : Nat → Int32 → HS → Prop} {v0 : Nat} {v3 : Int32} {S0 S : HS} (h : P_X4_read_153 Q X8 v0 v3 S) (K : K5 S0 S) (hX8 : ∀ (u0 : Nat) (u1 : Int32) (u2 : HS), X8 u0 u1 u2 → K5 S0 u2 → X8_2 u0 u1 u2) : P_X4_read_153 (fun r T => Q r T ∧ K5 S0 T) X8_2 v0 v3 S := by
  delta P_X4_read_153 at h ⊢
  exact kg_X4_read_154 h K hX8
set_option maxRecDepth 20000 in
set_option maxHeartbeats 1000000 in
theorem kg_X4_read_195 {Q : Int32 → HS → Prop} {X8 X8_2 : Nat → Int32 → HS → Prop} {v0 : Nat} {v3 : Int32} {s0 : Int32} {S0 S : HS} (h : P_X4_read_195 Q X8 v0 v3 s0 S) (K : K5 S0 S) (hX8 : ∀ (u0 : Nat) (u1 : Int32) (u2 : HS), X8 u0 u1 u2 → K5 S0 u2 → X8_2 u0 u1 u2) : P_X4_read_195 (fun r T => Q r T ∧ K5 S0 T) X8_2 v0 v3 s0 S := by
  delta P_X4_read_195 at h ⊢
  exact kg_X4_read_248 h K hX8
set_option maxRecDepth 20000 in
set_option maxHeartbeats 1000000 in
theorem kg_X4_read_194 {Q : Int32 → HS → Prop} {X8 X8_2 : Nat → Int32 → HS → Prop} {v0 : Nat} {v3 : Int32} {S0 S : HS} (h : P_X4_read_194 Q X8 v0 v3 S) (K : K5 S0 S) (hX8 : ∀ (u0 : Nat) (u1 : Int32) (u2 : HS), X8 u0 u1 u2 → K5 S0 u2 → X8_2 u0 u1 u2) : P_X4_read_194 (fun r T => Q r T ∧ K5 S0 T) X8_2 v0 v3 S := by
  delta P_X4_read_194 at h ⊢
  exact kg_X4_read_195 h K hX8
set_option maxRecDepth 20000 in
set_option maxHeartbeats 1000000 in
theorem kg_X4_read_236 {Q : Int32 → HS → Prop} {X8 X8_2 : Nat → Int32 → HS → Prop} {v0 : Nat} {v3 : Int32} {s0 : Int32} {S0 S : HS} (h : P_X4_read_236 Q X8 v0 v3 s0 S) (K : K5 S0 S) (hX8 : ∀ (u0 : Nat) (u1 : Int32) (u2 : HS), X8 u0 u1 u2 → K5 S0 u2 → X8_2 u0 u1 u2) : P_X4_read_236 (fun r T => Q r T ∧ K5 S0 T) X8_2 v0 v3 s0 S := by
  delta P_X4_read_236 at h ⊢
  exact kg_X4_read_248 h K hX8
set_option maxRecDepth 20000 in
set_option maxHeartbeats 1000000 in
theorem kg_X4_read_235 {Q : Int32 → HS → Prop} {X8 X8_2 : Nat → Int32 → HS → Prop} {v0 : Nat} {v3 : Int32} {S0 S : HS} (h : P_X4_read_235 Q X8 v0 v3 S) (K : K5 S0 S) (hX8 : ∀ (u0 : Nat) (u1 : Int32) (u2 : HS), X8 u0 u1 u2 → K5 S0 u2 → X8_2 u0 u1 u2) : P_X4_read_235 (fun r T => Q r T ∧ K5 S0 T) X8_2 v0 v3 S := by
  delta P_X4_read_235 at h ⊢
  exact kg_X4_read_236 h K hX8
set_option maxRecDepth 20000 in
set_option maxHeartbeats 1000000 in
theorem kgB_X4_read_8 {Q : Int32 → HS → Prop} {X8 X8_2 : Nat → Int32 → HS → Prop} {v0 : Nat} {v3 : Int32} {S0 S : HS} (h : B_X4_read_8 Q X8 v0 v3 S) (K : K5 S0 S) (hX8 : ∀ (u0 : Nat) (u1 : Int32) (u2 : HS), X8 u0 u1 u2 → K5 S0 u2 → X8_2 u0 u1 u2) : B_X4_read_8 (fun r T => Q r T ∧ K5 S0 T) X8_2 v0 v3 S := by
  delta B_X4_read_8 at h ⊢
  refine ⟨?_, ?_⟩
  · intro c1
    have h := h.1 c1
    obtain ⟨c2, h⟩ := h
    refine ⟨c2, ?_⟩
    have n3 := k5_ne K c2
    refine cm_X4_fail (kg_X4_fail h) h (fun x4 x5 hp h g6 g7 => ?_)
    have h := h g6 g7
    have K := k5_tr K hp.2
    obtain ⟨c8, h⟩ := h
    refine ⟨c8, ?_⟩
    exact ⟨h, K⟩
  · intro c9
    have h := h.2 c9
    obtain ⟨c10, h⟩ := h
    refine ⟨c10, ?_⟩
    have n11 := k5_ne K c10
    refine cm_X4_is (kg_X4_is h) h (fun x12 x13 hp h g14 g15 => ?_)
    have h := h g14 g15
    have K := k5_tr K hp.2
    refine ⟨?_, ?_⟩
    · intro c16
      have h := h.1 c16
      refine cm_X4_is (kg_X4_is h) h (fun x17 x18 hp h g19 g20 => ?_)
      have h := h g19 g20
      have K := k5_tr K hp.2
      refine ⟨?_, ?_⟩
      · intro c21
        have h := h.1 c21
        refine cm_X4_is (kg_X4_is h) h (fun x22 x23 hp h g24 g25 => ?_)
        have h := h g24 g25
        have K := k5_tr K hp.2
        refine ⟨?_, ?_⟩
        · intro c26
          have h := h.1 c26
          refine cm_X4_is (kg_X4_is h) h (fun x27 x28 hp h g29 g30 => ?_)
          have h := h g29 g30
          have K := k5_tr K hp.2
          refine ⟨?_, ?_⟩
          · intro c31
            have h := h.1 c31
            refine cm_X4_is (kg_X4_is h) h (fun x32 x33 hp h g34 g35 => ?_)
            have h := h g34 g35
            have K := k5_tr K hp.2
            refine ⟨?_, ?_⟩
            · intro c36
              have h := h.1 c36
              refine cm_X4_is (kg_X4_is h) h (fun x37 x38 hp h g39 g40 => ?_)
              have h := h g39 g40
              have K := k5_tr K hp.2
              refine ⟨?_, ?_⟩
              · intro c41
                have h := h.1 c41
                refine cm_X4_fail (kg_X4_fail h) h (fun x42 x43 hp h g44 g45 => ?_)
                have h := h g44 g45
                have K := k5_tr K hp.2
                exact kg_X4_read_248 h K hX8
              · intro c46
                have h := h.2 c46
                obtain ⟨b47, e48, h⟩ := h
                refine ⟨b47, e48, ?_⟩
                obtain ⟨c49, h⟩ := h
                refine ⟨c49, ?_⟩
                have n50 := k5_ne K c49
                intro x52 e51
                have h := h x52 e51
                refine cm_X4_hasRoom (kg_X4_hasRoom h) h (fun x53 x54 hp h g55 g56 => ?_)
                have h := h g55 g56
                have K := k5_tr K hp.2
                refine ⟨?_, ?_⟩
                · intro c57
                  have h := h.1 c57
                  exact kg_X4_read_235 h K hX8
                · intro c58
                  have h := h.2 c58
                  refine cm_X4_seenLine (kg_X4_seenLine h) h (fun x59 x60 hp h g61 g62 => ?_)
                  have h := h g61 g62
                  have K := k5_tr K hp.2
                  refine ⟨?_, ?_⟩
                  · intro c63
                    have h := h.1 c63
                    exact kg_X4_read_235 h K hX8
                  · intro c64
                    have h := h.2 c64
                    exact kg_X4_read_236 h K hX8
            · intro c65
              have h := h.2 c65
              obtain ⟨b66, e67, h⟩ := h
              refine ⟨b66, e67, ?_⟩
              obtain ⟨c68, h⟩ := h
              refine ⟨c68, ?_⟩
              have n69 := k5_ne K c68
              intro x71 e70
              have h := h x71 e70
              refine cm_X4_hasRoom (kg_X4_hasRoom h) h (fun x72 x73 hp h g74 g75 => ?_)
              have h := h g74 g75
              have K := k5_tr K hp.2
              refine ⟨?_, ?_⟩
              · intro c76
                have h := h.1 c76
                exact kg_X4_read_194 h K hX8
              · intro c77
                have h := h.2 c77
                refine cm_X4_walkerLine (kg_X4_walkerLine h) h (fun x78 x79 hp h g80 g81 => ?_)
                have h := h g80 g81
                have K := k5_tr K hp.2
                refine ⟨?_, ?_⟩
                · intro c82
                  have h := h.1 c82
                  exact kg_X4_read_194 h K hX8
                · intro c83
                  have h := h.2 c83
                  exact kg_X4_read_195 h K hX8
          · intro c84
            have h := h.2 c84
            obtain ⟨b85, e86, h⟩ := h
            refine ⟨b85, e86, ?_⟩
            obtain ⟨c87, h⟩ := h
            refine ⟨c87, ?_⟩
            have n88 := k5_ne K c87
            intro x90 e89
            have h := h x90 e89
            refine cm_X4_hasRoom (kg_X4_hasRoom h) h (fun x91 x92 hp h g93 g94 => ?_)
            have h := h g93 g94
            have K := k5_tr K hp.2
            refine ⟨?_, ?_⟩
            · intro c95
              have h := h.1 c95
              exact kg_X4_read_153 h K hX8
            · intro c96
              have h := h.2 c96
              refine cm_X4_roadLine (kg_X4_roadLine h) h (fun x97 x98 hp h g99 g100 => ?_)
              have h := h g99 g100
              have K := k5_tr K hp.2
              refine ⟨?_, ?_⟩
              · intro c101
                have h := h.1 c101
                exact kg_X4_read_153 h K hX8
              · intro c102
                have h := h.2 c102
                exact kg_X4_read_154 h K hX8
        · intro c103
          have h := h.2 c103
          obtain ⟨b104, e105, h⟩ := h
          refine ⟨b104, e105, ?_⟩
          obtain ⟨c106, h⟩ := h
          refine ⟨c106, ?_⟩
          have n107 := k5_ne K c106
          intro x109 e108
          have h := h x109 e108
          refine cm_X4_hasRoom (kg_X4_hasRoom h) h (fun x110 x111 hp h g112 g113 => ?_)
          have h := h g112 g113
          have K := k5_tr K hp.2
          refine ⟨?_, ?_⟩
          · intro c114
            have h := h.1 c114
            exact kg_X4_read_111 h K hX8
          · intro c115
            have h := h.2 c115
            refine cm_X4_placeLine (kg_X4_placeLine h) h (fun x116 x117 hp h g118 g119 => ?_)
            have h := h g118 g119
            have K := k5_tr K hp.2
            refine ⟨?_, ?_⟩
            · intro c120
              have h := h.1 c120
              exact kg_X4_read_111 h K hX8
            · intro c121
              have h := h.2 c121
              exact kg_X4_read_112 h K hX8
      · intro c122
        have h := h.2 c122
        obtain ⟨b123, e124, h⟩ := h
        refine ⟨b123, e124, ?_⟩
        obtain ⟨c125, h⟩ := h
        refine ⟨c125, ?_⟩
        have n126 := k5_ne K c125
        intro x128 e127
        have h := h x128 e127
        refine cm_X4_hasRoom (kg_X4_hasRoom h) h (fun x129 x130 hp h g131 g132 => ?_)
        have h := h g131 g132
        have K := k5_tr K hp.2
        refine ⟨?_, ?_⟩
        · intro c133
          have h := h.1 c133
          exact kg_X4_read_69 h K hX8
        · intro c134
          have h := h.2 c134
          refine cm_X4_rainLine (kg_X4_rainLine h) h (fun x135 x136 hp h g137 g138 => ?_)
          have h := h g137 g138
          have K := k5_tr K hp.2
          refine ⟨?_, ?_⟩
          · intro c139
            have h := h.1 c139
            exact kg_X4_read_69 h K hX8
          · intro c140
            have h := h.2 c140
            exact kg_X4_read_70 h K hX8
    · intro c141
      have h := h.2 c141
      refine cm_X4_worldLine (kg_X4_worldLine h) h (fun x142 x143 hp h g144 g145 => ?_)
      have h := h g144 g145
      have K := k5_tr K hp.2
      exact kg_X4_read_248 h K hX8
theorem kg_X4_read_8 {Q : Int32 → HS → Prop} {v0 : Nat} {v3 : Int32} {S0 S : HS} (h : P_X4_read_8 Q v0 v3 S) (K : K5 S0 S) : P_X4_read_8 (fun r T => Q r T ∧ K5 S0 T) v0 v3 S := h (fun v0 v3 S => K5 S0 S → P_X4_read_8 (fun r T => Q r T ∧ K5 S0 T) v0 v3 S) (fun v0 v3 S hB K => fd_X4_read_8 (kgB_X4_read_8 hB K (fun _ _ _ hx K => hx K))) K
set_option maxRecDepth 20000 in
set_option maxHeartbeats 1000000 in
theorem kg_X4_read_0 {Q : Int32 → HS → Prop} {v0 : Nat} {v1 : Nat} {v2 : Int32} {S0 S : HS} (h : P_X4_read_0 Q v0 v1 v2 S) (K : K5 S0 S) : P_X4_read_0 (fun r T => Q r T ∧ K5 S0 T) v0 v1 v2 S := by
  delta P_X4_read_0 at h ⊢
  obtain ⟨c1, h⟩ := h
  refine ⟨c1, ?_⟩
  have n2 := k5_ne K c1
  refine cm_X4_open (kg_X4_open h) h (fun x3 hp h g4 => ?_)
  have h := h g4
  have K := k5_tr K hp.2
  exact kg_X4_read_8 h K
theorem kg_X4_read {Q : Int32 → HS → Prop} {v0 : Nat} {v1 : Nat} {v2 : Int32} {S : HS} (h : P_X4_read v0 v1 v2 Q S) : P_X4_read v0 v1 v2 (fun r T => Q r T ∧ K5 S T) S := kg_X4_read_0 h (k5_rf S)
set_option maxRecDepth 20000 in
set_option maxHeartbeats 1000000 in
theorem kg_X5_endOf_0 {Q : Int32 → HS → Prop} {v0 : Nat} {v1 : Int32} {S0 S : HS} (h : P_X5_endOf_0 Q v0 v1 S) (K : K5 S0 S) : P_X5_endOf_0 (fun r T => Q r T ∧ K5 S0 T) v0 v1 S := by
  delta P_X5_endOf_0 at h ⊢
  refine ⟨?_, ?_⟩
  · intro c1
    have h := h.1 c1
    obtain ⟨c2, h⟩ := h
    refine ⟨c2, ?_⟩
    have n3 := k5_ne K c2
    intro x5 e4
    have h := h x5 e4
    exact ⟨h, K⟩
  · intro c6
    have h := h.2 c6
    obtain ⟨c7, h⟩ := h
    refine ⟨c7, ?_⟩
    have n8 := k5_ne K c7
    intro x10 e9
    have h := h x10 e9
    exact ⟨h, K⟩
theorem kg_X5_endOf {Q : Int32 → HS → Prop} {v0 : Nat} {v1 : Int32} {S : HS} (h : P_X5_endOf v0 v1 Q S) : P_X5_endOf v0 v1 (fun r T => Q r T ∧ K5 S T) S := kg_X5_endOf_0 h (k5_rf S)
set_option maxRecDepth 20000 in
set_option maxHeartbeats 1000000 in
theorem kg_X5_minutesAt_0 {Q : Int32 → HS → Prop} {v0 : Nat} {v1 : Int32} {S0 S : HS} (h : P_X5_minutesAt_0 Q v0 v1 S) (K : K5 S0 S) : P_X5_minutesAt_0 (fun r T => Q r T ∧ K5 S0 T) v0 v1 S := by
  delta P_X5_minutesAt_0 at h ⊢
  refine ⟨?_, ?_⟩
  · intro c1
    have h := h.1 c1
    exact ⟨h, K⟩
  · intro c2
    have h := h.2 c2
    obtain ⟨c3, h⟩ := h
    refine ⟨c3, ?_⟩
    have n4 := k5_ne K c3
    intro x6 e5
    have h := h x6 e5
    obtain ⟨c7, h⟩ := h
    refine ⟨c7, ?_⟩
    intro x9 e8
    have h := h x9 e8
    exact ⟨h, K⟩
theorem kg_X5_minutesAt {Q : Int32 → HS → Prop} {v0 : Nat} {v1 : Int32} {S : HS} (h : P_X5_minutesAt v0 v1 Q S) : P_X5_minutesAt v0 v1 (fun r T => Q r T ∧ K5 S T) S := kg_X5_minutesAt_0 h (k5_rf S)
set_option maxRecDepth 20000 in
set_option maxHeartbeats 1000000 in
theorem kg_X5_startOf_0 {Q : Int32 → HS → Prop} {v0 : Nat} {v1 : Int32} {S0 S : HS} (h : P_X5_startOf_0 Q v0 v1 S) (K : K5 S0 S) : P_X5_startOf_0 (fun r T => Q r T ∧ K5 S0 T) v0 v1 S := by
  delta P_X5_startOf_0 at h ⊢
  refine ⟨?_, ?_⟩
  · intro c1
    have h := h.1 c1
    obtain ⟨c2, h⟩ := h
    refine ⟨c2, ?_⟩
    have n3 := k5_ne K c2
    intro x5 e4
    have h := h x5 e4
    exact ⟨h, K⟩
  · intro c6
    have h := h.2 c6
    obtain ⟨c7, h⟩ := h
    refine ⟨c7, ?_⟩
    have n8 := k5_ne K c7
    intro x10 e9
    have h := h x10 e9
    exact ⟨h, K⟩
theorem kg_X5_startOf {Q : Int32 → HS → Prop} {v0 : Nat} {v1 : Int32} {S : HS} (h : P_X5_startOf v0 v1 Q S) : P_X5_startOf v0 v1 (fun r T => Q r T ∧ K5 S T) S := kg_X5_startOf_0 h (k5_rf S)
set_option maxRecDepth 20000 in
set_option maxHeartbeats 1000000 in
theorem kg_X5_tell_0 {Q : Int32 → HS → Prop} {v0 : Nat} {v1 : Int32} {S0 S : HS} (h : P_X5_tell_0 Q v0 v1 S) (K : K5 S0 S) : P_X5_tell_0 (fun r T => Q r T ∧ K5 S0 T) v0 v1 S := by
  delta P_X5_tell_0 at h ⊢
  refine ⟨?_, ?_, ?_, ?_, ?_⟩
  · intro c1
    have h := h.1 c1
    obtain ⟨c2, h⟩ := h
    refine ⟨c2, ?_⟩
    have n3 := k5_ne K c2
    intro x5 e4
    have h := h x5 e4
    exact ⟨h, K⟩
  · intro c6
    have h := h.2.1 c6
    obtain ⟨c7, h⟩ := h
    refine ⟨c7, ?_⟩
    have n8 := k5_ne K c7
    intro x10 e9
    have h := h x10 e9
    exact ⟨h, K⟩
  · intro c11
    have h := h.2.2.1 c11
    obtain ⟨c12, h⟩ := h
    refine ⟨c12, ?_⟩
    have n13 := k5_ne K c12
    intro x15 e14
    have h := h x15 e14
    exact ⟨h, K⟩
  · intro c16
    have h := h.2.2.2.1 c16
    obtain ⟨c17, h⟩ := h
    refine ⟨c17, ?_⟩
    have n18 := k5_ne K c17
    intro x20 e19
    have h := h x20 e19
    exact ⟨h, K⟩
  · intro c21
    have h := h.2.2.2.2 c21
    obtain ⟨c22, h⟩ := h
    refine ⟨c22, ?_⟩
    have n23 := k5_ne K c22
    intro x25 e24
    have h := h x25 e24
    exact ⟨h, K⟩
theorem kg_X5_tell {Q : Int32 → HS → Prop} {v0 : Nat} {v1 : Int32} {S : HS} (h : P_X5_tell v0 v1 Q S) : P_X5_tell v0 v1 (fun r T => Q r T ∧ K5 S T) S := kg_X5_tell_0 h (k5_rf S)
set_option maxRecDepth 20000 in
set_option maxHeartbeats 1000000 in
theorem kg_X5_touches_0 {Q : Int32 → HS → Prop} {v0 : Nat} {v1 : Int32} {S0 S : HS} (h : P_X5_touches_0 Q v0 v1 S) (K : K5 S0 S) : P_X5_touches_0 (fun r T => Q r T ∧ K5 S0 T) v0 v1 S := by
  delta P_X5_touches_0 at h ⊢
  obtain ⟨c1, h⟩ := h
  refine ⟨c1, ?_⟩
  have n2 := k5_ne K c1
  intro x4 e3
  have h := h x4 e3
  refine ⟨?_, ?_⟩
  · intro c5
    have h := h.1 c5
    exact ⟨h, K⟩
  · intro c6
    have h := h.2 c6
    intro x8 e7
    have h := h x8 e7
    refine ⟨?_, ?_⟩
    · intro c9
      have h := h.1 c9
      exact ⟨h, K⟩
    · intro c10
      have h := h.2 c10
      exact ⟨h, K⟩
theorem kg_X5_touches {Q : Int32 → HS → Prop} {v0 : Nat} {v1 : Int32} {S : HS} (h : P_X5_touches v0 v1 Q S) : P_X5_touches v0 v1 (fun r T => Q r T ∧ K5 S T) S := kg_X5_touches_0 h (k5_rf S)
set_option maxRecDepth 20000 in
set_option maxHeartbeats 1000000 in
theorem kg_X6_tell_0 {Q : Int32 → HS → Prop} {v0 : Nat} {v1 : Int32} {S0 S : HS} (h : P_X6_tell_0 Q v0 v1 S) (K : K5 S0 S) : P_X6_tell_0 (fun r T => Q r T ∧ K5 S0 T) v0 v1 S := by
  delta P_X6_tell_0 at h ⊢
  refine ⟨?_, ?_, ?_, ?_, ?_, ?_, ?_⟩
  · intro c1
    have h := h.1 c1
    obtain ⟨c2, h⟩ := h
    refine ⟨c2, ?_⟩
    have n3 := k5_ne K c2
    intro x5 e4
    have h := h x5 e4
    exact ⟨h, K⟩
  · intro c6
    have h := h.2.1 c6
    obtain ⟨c7, h⟩ := h
    refine ⟨c7, ?_⟩
    have n8 := k5_ne K c7
    intro x10 e9
    have h := h x10 e9
    exact ⟨h, K⟩
  · intro c11
    have h := h.2.2.1 c11
    obtain ⟨c12, h⟩ := h
    refine ⟨c12, ?_⟩
    have n13 := k5_ne K c12
    intro x15 e14
    have h := h x15 e14
    exact ⟨h, K⟩
  · intro c16
    have h := h.2.2.2.1 c16
    obtain ⟨c17, h⟩ := h
    refine ⟨c17, ?_⟩
    have n18 := k5_ne K c17
    intro x20 e19
    have h := h x20 e19
    exact ⟨h, K⟩
  · intro c21
    have h := h.2.2.2.2.1 c21
    obtain ⟨c22, h⟩ := h
    refine ⟨c22, ?_⟩
    have n23 := k5_ne K c22
    intro x25 e24
    have h := h x25 e24
    exact ⟨h, K⟩
  · intro c26
    have h := h.2.2.2.2.2.1 c26
    obtain ⟨c27, h⟩ := h
    refine ⟨c27, ?_⟩
    have n28 := k5_ne K c27
    intro x30 e29
    have h := h x30 e29
    exact ⟨h, K⟩
  · intro c31
    have h := h.2.2.2.2.2.2 c31
    obtain ⟨c32, h⟩ := h
    refine ⟨c32, ?_⟩
    have n33 := k5_ne K c32
    intro x35 e34
    have h := h x35 e34
    exact ⟨h, K⟩
theorem kg_X6_tell {Q : Int32 → HS → Prop} {v0 : Nat} {v1 : Int32} {S : HS} (h : P_X6_tell v0 v1 Q S) : P_X6_tell v0 v1 (fun r T => Q r T ∧ K5 S T) S := kg_X6_tell_0 h (k5_rf S)
set_option maxRecDepth 20000 in
set_option maxHeartbeats 1000000 in
theorem kg_X7_addMove_0 {Q : HS → Prop} {v0 : Nat} {v1 : Int32} {v2 : Int32} {v3 : Int32} {v4 : Int64} {v6 : Int32} {S0 S : HS} (h : P_X7_addMove_0 Q v0 v1 v2 v3 v4 v6 S) (K : K5 S0 S) : P_X7_addMove_0 (fun T => Q T ∧ K5 S0 T) v0 v1 v2 v3 v4 v6 S := by
  delta P_X7_addMove_0 at h ⊢
  obtain ⟨c1, h⟩ := h
  refine ⟨c1, ?_⟩
  have n2 := k5_ne K c1
  intro x4 e3
  have h := h x4 e3
  refine ⟨?_, ?_⟩
  · intro c5
    have h := h.1 c5
    exact ⟨h, K⟩
  · intro c6
    have h := h.2 c6
    intro x8 e7
    have h := h x8 e7
    refine ⟨?_, ?_⟩
    · intro c9
      have h := h.1 c9
      exact ⟨h, K⟩
    · intro c10
      have h := h.2 c10
      intro x12 e11
      have h := h x12 e11
      refine ⟨?_, ?_⟩
      · intro c13
        have h := h.1 c13
        obtain ⟨b14, e15, h⟩ := h
        refine ⟨b14, e15, ?_⟩
        intro x17 e16
        have h := h x17 e16
        obtain ⟨c18, h⟩ := h
        refine ⟨c18, ?_⟩
        have n19 := k5_ne K c18
        intro x21 e20
        have h := h x21 e20
        obtain ⟨c22, h⟩ := h
        refine ⟨c22, ?_⟩
        intro x24 e23
        have h := h x24 e23
        have K := k5_A K e23 n19 (by decide)
        obtain ⟨b25, e26, h⟩ := h
        refine ⟨b25, e26, ?_⟩
        intro x28 e27
        have h := h x28 e27
        obtain ⟨c29, h⟩ := h
        refine ⟨c29, ?_⟩
        have n30 := k5_ne K c29
        intro x32 e31
        have h := h x32 e31
        obtain ⟨c33, h⟩ := h
        refine ⟨c33, ?_⟩
        intro x35 e34
        have h := h x35 e34
        have K := k5_A K e34 n30 (by decide)
        obtain ⟨b36, e37, h⟩ := h
        refine ⟨b36, e37, ?_⟩
        intro x39 e38
        have h := h x39 e38
        obtain ⟨c40, h⟩ := h
        refine ⟨c40, ?_⟩
        have n41 := k5_ne K c40
        obtain ⟨c42, h⟩ := h
        refine ⟨c42, ?_⟩
        intro x44 e43
        have h := h x44 e43
        have K := k5_A K e43 n41 (by decide)
        obtain ⟨b45, e46, h⟩ := h
        refine ⟨b45, e46, ?_⟩
        intro x48 e47
        have h := h x48 e47
        obtain ⟨c49, h⟩ := h
        refine ⟨c49, ?_⟩
        have n50 := k5_ne K c49
        intro x52 e51
        have h := h x52 e51
        obtain ⟨c53, h⟩ := h
        refine ⟨c53, ?_⟩
        intro x55 e54
        have h := h x55 e54
        have K := k5_J K e54
        obtain ⟨b56, e57, h⟩ := h
        refine ⟨b56, e57, ?_⟩
        intro x59 e58
        have h := h x59 e58
        obtain ⟨c60, h⟩ := h
        refine ⟨c60, ?_⟩
        have n61 := k5_ne K c60
        obtain ⟨c62, h⟩ := h
        refine ⟨c62, ?_⟩
        intro x64 e63
        have h := h x64 e63
        have K := k5_A K e63 n61 (by decide)
        intro x66 e65
        have h := h x66 e65
        intro x68 e67
        have h := h x68 e67
        intro x70 e69
        have h := h x70 e69
        have K := k5_I K e69 n2 (by decide)
        exact ⟨h, K⟩
      · intro c71
        have h := h.2 c71
        exact ⟨h, K⟩
theorem kg_X7_addMove {Q : HS → Prop} {v0 : Nat} {v1 : Int32} {v2 : Int32} {v3 : Int32} {v4 : Int64} {v6 : Int32} {S : HS} (h : P_X7_addMove v0 v1 v2 v3 v4 v6 Q S) : P_X7_addMove v0 v1 v2 v3 v4 v6 (fun T => Q T ∧ K5 S T) S := kg_X7_addMove_0 h (k5_rf S)
set_option maxRecDepth 20000 in
set_option maxHeartbeats 1000000 in
theorem kg_X7_addLeg_82 {Q : HS → Prop} {v0 : Nat} {v1 : Nat} {v2 : Int32} {v4 : Int64} {v6 : Int32} {v7 : Int32} {S0 S : HS} (h : P_X7_addLeg_82 Q v0 v1 v2 v4 v6 v7 S) (K : K5 S0 S) : P_X7_addLeg_82 (fun T => Q T ∧ K5 S0 T) v0 v1 v2 v4 v6 v7 S := by
  delta P_X7_addLeg_82 at h ⊢
  obtain ⟨c1, h⟩ := h
  refine ⟨c1, ?_⟩
  have n2 := k5_ne K c1
  refine cm_X5_startOf (kg_X5_startOf h) h (fun x3 x4 hp h g5 => ?_)
  have h := h g5
  have K := k5_tr K hp.2
  refine cm_X5_endOf (kg_X5_endOf h) h (fun x6 x7 hp h g8 => ?_)
  have h := h g8
  have K := k5_tr K hp.2
  obtain ⟨c9, h⟩ := h
  refine ⟨c9, ?_⟩
  have n10 := k5_ne K c9
  refine cm_X7_addMove (kg_X7_addMove h) h (fun x11 hp h g12 => ?_)
  have h := h g12
  have K := k5_tr K hp.2
  exact ⟨h, K⟩
set_option maxRecDepth 20000 in
set_option maxHeartbeats 1000000 in
theorem kg_X7_addLeg_0 {Q : HS → Prop} {v0 : Nat} {v1 : Nat} {v2 : Int32} {v3 : Int32} {v4 : Int64} {v6 : Int32} {S0 S : HS} (h : P_X7_addLeg_0 Q v0 v1 v2 v3 v4 v6 S) (K : K5 S0 S) : P_X7_addLeg_0 (fun T => Q T ∧ K5 S0 T) v0 v1 v2 v3 v4 v6 S := by
  delta P_X7_addLeg_0 at h ⊢
  obtain ⟨c1, h⟩ := h
  refine ⟨c1, ?_⟩
  have n2 := k5_ne K c1
  refine cm_X5_minutesAt (kg_X5_minutesAt h) h (fun x3 x4 hp h g5 => ?_)
  have h := h g5
  have K := k5_tr K hp.2
  obtain ⟨c6, h⟩ := h
  refine ⟨c6, ?_⟩
  have n7 := k5_ne K c6
  intro x9 e8
  have h := h x9 e8
  intro x11 e10
  have h := h x11 e10
  refine ⟨?_, ?_⟩
  · intro c12
    have h := h.1 c12
    exact kg_X7_addLeg_82 h K
  · intro c13
    have h := h.2 c13
    refine ⟨?_, ?_⟩
    · intro c14
      have h := h.1 c14
      exact kg_X7_addLeg_82 h K
    · intro c15
      have h := h.2 c15
      obtain ⟨b16, e17, h⟩ := h
      refine ⟨b16, e17, ?_⟩
      obtain ⟨c18, h⟩ := h
      refine ⟨c18, ?_⟩
      have n19 := k5_ne K c18
      obtain ⟨c20, h⟩ := h
      refine ⟨c20, ?_⟩
      intro x22 e21
      have h := h x22 e21
      intro x24 e23
      have h := h x24 e23
      intro x26 e25
      have h := h x26 e25
      refine ⟨?_, ?_⟩
      · intro c27
        have h := h.1 c27
        exact kg_X7_addLeg_82 h K
      · intro c28
        have h := h.2 c28
        obtain ⟨b29, e30, h⟩ := h
        refine ⟨b29, e30, ?_⟩
        obtain ⟨c31, h⟩ := h
        refine ⟨c31, ?_⟩
        have n32 := k5_ne K c31
        obtain ⟨c33, h⟩ := h
        refine ⟨c33, ?_⟩
        intro x35 e34
        have h := h x35 e34
        refine ⟨?_, ?_⟩
        · intro c36
          have h := h.1 c36
          exact kg_X7_addLeg_82 h K
        · intro c37
          have h := h.2 c37
          obtain ⟨b38, e39, h⟩ := h
          refine ⟨b38, e39, ?_⟩
          obtain ⟨c40, h⟩ := h
          refine ⟨c40, ?_⟩
          have n41 := k5_ne K c40
          obtain ⟨c42, h⟩ := h
          refine ⟨c42, ?_⟩
          intro x44 e43
          have h := h x44 e43
          refine ⟨?_, ?_⟩
          · intro c45
            have h := h.1 c45
            intro x47 e46
            have h := h x47 e46
            have K := k5_I K e46 n7 (by decide)
            exact kg_X7_addLeg_82 h K
          · intro c48
            have h := h.2 c48
            exact ⟨h, K⟩
theorem kg_X7_addLeg {Q : HS → Prop} {v0 : Nat} {v1 : Nat} {v2 : Int32} {v3 : Int32} {v4 : Int64} {v6 : Int32} {S : HS} (h : P_X7_addLeg v0 v1 v2 v3 v4 v6 Q S) : P_X7_addLeg v0 v1 v2 v3 v4 v6 (fun T => Q T ∧ K5 S T) S := kg_X7_addLeg_0 h (k5_rf S)
set_option maxRecDepth 20000 in
set_option maxHeartbeats 1000000 in
theorem kg_X7_keyOf_0 {Q : Int64 → HS → Prop} {v0 : Nat} {v1 : Int32} {v2 : Int32} {S0 S : HS} (h : P_X7_keyOf_0 Q v0 v1 v2 S) (K : K5 S0 S) : P_X7_keyOf_0 (fun r T => Q r T ∧ K5 S0 T) v0 v1 v2 S := by
  delta P_X7_keyOf_0 at h ⊢
  intro x2 e1
  have h := h x2 e1
  refine ⟨?_, ?_⟩
  · intro c3
    have h := h.1 c3
    exact ⟨h, K⟩
  · intro c4
    have h := h.2 c4
    obtain ⟨c5, h⟩ := h
    refine ⟨c5, ?_⟩
    have n6 := k5_ne K c5
    obtain ⟨b7, e8, h⟩ := h
    refine ⟨b7, e8, ?_⟩
    obtain ⟨c9, h⟩ := h
    refine ⟨c9, ?_⟩
    have n10 := k5_ne K c9
    refine ⟨?_, ?_⟩
    · intro c11
      have h := h.1 c11
      exact ⟨h, K⟩
    · intro c12
      have h := h.2 c12
      obtain ⟨b13, e14, h⟩ := h
      refine ⟨b13, e14, ?_⟩
      obtain ⟨c15, h⟩ := h
      refine ⟨c15, ?_⟩
      have n16 := k5_ne K c15
      obtain ⟨c17, h⟩ := h
      refine ⟨c17, ?_⟩
      intro x19 e18
      have h := h x19 e18
      exact ⟨h, K⟩
theorem kg_X7_keyOf {Q : Int64 → HS → Prop} {v0 : Nat} {v1 : Int32} {v2 : Int32} {S : HS} (h : P_X7_keyOf v0 v1 v2 Q S) : P_X7_keyOf v0 v1 v2 (fun r T => Q r T ∧ K5 S T) S := kg_X7_keyOf_0 h (k5_rf S)
set_option maxRecDepth 20000 in
set_option maxHeartbeats 1000000 in
theorem kg_X7_endFrom_0 {Q : Int32 → HS → Prop} {v0 : Nat} {v1 : Int32} {v2 : Int32} {S0 S : HS} (h : P_X7_endFrom_0 Q v0 v1 v2 S) (K : K5 S0 S) : P_X7_endFrom_0 (fun r T => Q r T ∧ K5 S0 T) v0 v1 v2 S := by
  delta P_X7_endFrom_0 at h ⊢
  obtain ⟨c1, h⟩ := h
  refine ⟨c1, ?_⟩
  have n2 := k5_ne K c1
  refine cm_X7_keyOf (kg_X7_keyOf h) h (fun x3 x4 hp h g5 => ?_)
  have h := h g5
  have K := k5_tr K hp.2
  intro x7 e6
  have h := h x7 e6
  exact ⟨h, K⟩
theorem kg_X7_endFrom {Q : Int32 → HS → Prop} {v0 : Nat} {v1 : Int32} {v2 : Int32} {S : HS} (h : P_X7_endFrom v0 v1 v2 Q S) : P_X7_endFrom v0 v1 v2 (fun r T => Q r T ∧ K5 S T) S := kg_X7_endFrom_0 h (k5_rf S)
set_option maxRecDepth 20000 in
set_option maxHeartbeats 1000000 in
theorem kg_X7_forget_0 {Q : HS → Prop} {v0 : Nat} {S0 S : HS} (h : P_X7_forget_0 Q v0 S) (K : K5 S0 S) : P_X7_forget_0 (fun T => Q T ∧ K5 S0 T) v0 S := by
  delta P_X7_forget_0 at h ⊢
  obtain ⟨c1, h⟩ := h
  refine ⟨c1, ?_⟩
  have n2 := k5_ne K c1
  intro x4 e3
  have h := h x4 e3
  have K := k5_I K e3 n2 (by decide)
  exact ⟨h, K⟩
theorem kg_X7_forget {Q : HS → Prop} {v0 : Nat} {S : HS} (h : P_X7_forget v0 Q S) : P_X7_forget v0 (fun T => Q T ∧ K5 S T) S := kg_X7_forget_0 h (k5_rf S)
set_option maxRecDepth 20000 in
set_option maxHeartbeats 1000000 in
theorem kg_X7_init_0 {Q : HS → Prop} {v0 : Nat} {S0 S : HS} (h : P_X7_init_0 Q v0 S) (K : K5 S0 S) : P_X7_init_0 (fun T => Q T ∧ K5 S0 T) v0 S := by
  delta P_X7_init_0 at h ⊢
  intro x2 e1
  have h := h x2 e1
  intro x4 e3
  have h := h x4 e3
  have K := k5_W K e1 e3
  obtain ⟨c5, h⟩ := h
  refine ⟨c5, ?_⟩
  have n6 := k5_ne K c5
  intro x8 e7
  have h := h x8 e7
  have K := k5_R K e7
  intro x10 e9
  have h := h x10 e9
  intro x12 e11
  have h := h x12 e11
  have K := k5_W K e9 e11
  intro x14 e13
  have h := h x14 e13
  have K := k5_R K e13
  intro x16 e15
  have h := h x16 e15
  intro x18 e17
  have h := h x18 e17
  have K := k5_W K e15 e17
  intro x20 e19
  have h := h x20 e19
  have K := k5_R K e19
  intro x22 e21
  have h := h x22 e21
  intro x24 e23
  have h := h x24 e23
  have K := k5_W K e21 e23
  intro x26 e25
  have h := h x26 e25
  have K := k5_R K e25
  intro x28 e27
  have h := h x28 e27
  intro x30 e29
  have h := h x30 e29
  have K := k5_W K e27 e29
  intro x32 e31
  have h := h x32 e31
  have K := k5_R K e31
  intro x34 e33
  have h := h x34 e33
  intro x36 e35
  have h := h x36 e35
  have K := k5_W K e33 e35
  intro x38 e37
  have h := h x38 e37
  have K := k5_R K e37
  intro x40 e39
  have h := h x40 e39
  intro x42 e41
  have h := h x42 e41
  have K := k5_W K e39 e41
  intro x44 e43
  have h := h x44 e43
  have K := k5_R K e43
  intro x46 e45
  have h := h x46 e45
  intro x48 e47
  have h := h x48 e47
  have K := k5_W K e45 e47
  intro x50 e49
  have h := h x50 e49
  have K := k5_R K e49
  intro x52 e51
  have h := h x52 e51
  have K := k5_I K e51 n6 (by decide)
  intro x54 e53
  have h := h x54 e53
  have K := k5_I K e53 n6 (by decide)
  intro x56 e55
  have h := h x56 e55
  have K := k5_I K e55 n6 (by decide)
  intro x58 e57
  have h := h x58 e57
  have K := k5_I K e57 n6 (by decide)
  exact ⟨h, K⟩
theorem kg_X7_init {Q : HS → Prop} {v0 : Nat} {S : HS} (h : P_X7_init v0 Q S) : P_X7_init v0 (fun T => Q T ∧ K5 S T) S := kg_X7_init_0 h (k5_rf S)
set_option maxRecDepth 20000 in
set_option maxHeartbeats 1000000 in
theorem kg_X7_isOpen_0 {Q : Int32 → HS → Prop} {v0 : Nat} {v1 : Int32} {v2 : Int32} {S0 S : HS} (h : P_X7_isOpen_0 Q v0 v1 v2 S) (K : K5 S0 S) : P_X7_isOpen_0 (fun r T => Q r T ∧ K5 S0 T) v0 v1 v2 S := by
  delta P_X7_isOpen_0 at h ⊢
  obtain ⟨c1, h⟩ := h
  refine ⟨c1, ?_⟩
  have n2 := k5_ne K c1
  refine cm_X7_keyOf (kg_X7_keyOf h) h (fun x3 x4 hp h g5 => ?_)
  have h := h g5
  have K := k5_tr K hp.2
  refine ⟨?_, ?_⟩
  · intro c6
    have h := h.1 c6
    exact ⟨h, K⟩
  · intro c7
    have h := h.2 c7
    exact ⟨h, K⟩
theorem kg_X7_isOpen {Q : Int32 → HS → Prop} {v0 : Nat} {v1 : Int32} {v2 : Int32} {S : HS} (h : P_X7_isOpen v0 v1 v2 Q S) : P_X7_isOpen v0 v1 v2 (fun r T => Q r T ∧ K5 S T) S := kg_X7_isOpen_0 h (k5_rf S)
set_option maxRecDepth 20000 in
set_option maxHeartbeats 1000000 in
theorem kg_X7_makeRows_0 {Q : HS → Prop} {v0 : Nat} {S0 S : HS} (h : P_X7_makeRows_0 Q v0 S) (K : K5 S0 S) : P_X7_makeRows_0 (fun T => Q T ∧ K5 S0 T) v0 S := by
  delta P_X7_makeRows_0 at h ⊢
  intro x2 e1
  have h := h x2 e1
  intro x4 e3
  have h := h x4 e3
  have K := k5_W K e1 e3
  obtain ⟨c5, h⟩ := h
  refine ⟨c5, ?_⟩
  have n6 := k5_ne K c5
  intro x8 e7
  have h := h x8 e7
  have K := k5_R K e7
  intro x10 e9
  have h := h x10 e9
  intro x12 e11
  have h := h x12 e11
  have K := k5_W K e9 e11
  intro x14 e13
  have h := h x14 e13
  have K := k5_R K e13
  intro x16 e15
  have h := h x16 e15
  intro x18 e17
  have h := h x18 e17
  have K := k5_W K e15 e17
  intro x20 e19
  have h := h x20 e19
  have K := k5_R K e19
  intro x22 e21
  have h := h x22 e21
  intro x24 e23
  have h := h x24 e23
  have K := k5_W K e21 e23
  intro x26 e25
  have h := h x26 e25
  have K := k5_R K e25
  intro x28 e27
  have h := h x28 e27
  intro x30 e29
  have h := h x30 e29
  have K := k5_W K e27 e29
  intro x32 e31
  have h := h x32 e31
  have K := k5_R K e31
  intro x34 e33
  have h := h x34 e33
  intro x36 e35
  have h := h x36 e35
  have K := k5_W K e33 e35
  intro x38 e37
  have h := h x38 e37
  have K := k5_R K e37
  intro x40 e39
  have h := h x40 e39
  intro x42 e41
  have h := h x42 e41
  have K := k5_W K e39 e41
  intro x44 e43
  have h := h x44 e43
  have K := k5_R K e43
  intro x46 e45
  have h := h x46 e45
  intro x48 e47
  have h := h x48 e47
  have K := k5_W K e45 e47
  intro x50 e49
  have h := h x50 e49
  have K := k5_R K e49
  exact ⟨h, K⟩
theorem kg_X7_makeRows {Q : HS → Prop} {v0 : Nat} {S : HS} (h : P_X7_makeRows v0 Q S) : P_X7_makeRows v0 (fun T => Q T ∧ K5 S T) S := kg_X7_makeRows_0 h (k5_rf S)
set_option maxRecDepth 20000 in
set_option maxHeartbeats 1000000 in
theorem kg_X7_meanFrom_0 {Q : Int64 → HS → Prop} {v0 : Nat} {v1 : Int32} {v2 : Int32} {S0 S : HS} (h : P_X7_meanFrom_0 Q v0 v1 v2 S) (K : K5 S0 S) : P_X7_meanFrom_0 (fun r T => Q r T ∧ K5 S0 T) v0 v1 v2 S := by
  delta P_X7_meanFrom_0 at h ⊢
  obtain ⟨c1, h⟩ := h
  refine ⟨c1, ?_⟩
  have n2 := k5_ne K c1
  refine cm_X7_keyOf (kg_X7_keyOf h) h (fun x3 x4 hp h g5 => ?_)
  have h := h g5
  have K := k5_tr K hp.2
  intro x7 e6
  have h := h x7 e6
  exact ⟨h, K⟩
theorem kg_X7_meanFrom {Q : Int64 → HS → Prop} {v0 : Nat} {v1 : Int32} {v2 : Int32} {S : HS} (h : P_X7_meanFrom v0 v1 v2 Q S) : P_X7_meanFrom v0 v1 v2 (fun r T => Q r T ∧ K5 S T) S := kg_X7_meanFrom_0 h (k5_rf S)
set_option maxRecDepth 20000 in
set_option maxHeartbeats 1000000 in
theorem kg_X8_hasPlace_0 {Q : Int32 → HS → Prop} {v0 : Nat} {v1 : Int32} {S0 S : HS} (h : P_X8_hasPlace_0 Q v0 v1 S) (K : K5 S0 S) : P_X8_hasPlace_0 (fun r T => Q r T ∧ K5 S0 T) v0 v1 S := by
  delta P_X8_hasPlace_0 at h ⊢
  refine ⟨?_, ?_⟩
  · intro c1
    have h := h.1 c1
    exact ⟨h, K⟩
  · intro c2
    have h := h.2 c2
    obtain ⟨c3, h⟩ := h
    refine ⟨c3, ?_⟩
    have n4 := k5_ne K c3
    intro x6 e5
    have h := h x6 e5
    refine ⟨?_, ?_⟩
    · intro c7
      have h := h.1 c7
      exact ⟨h, K⟩
    · intro c8
      have h := h.2 c8
      obtain ⟨b9, e10, h⟩ := h
      refine ⟨b9, e10, ?_⟩
      obtain ⟨c11, h⟩ := h
      refine ⟨c11, ?_⟩
      have n12 := k5_ne K c11
      refine ⟨?_, ?_⟩
      · intro c13
        have h := h.1 c13
        exact ⟨h, K⟩
      · intro c14
        have h := h.2 c14
        exact ⟨h, K⟩
theorem kg_X8_hasPlace {Q : Int32 → HS → Prop} {v0 : Nat} {v1 : Int32} {S : HS} (h : P_X8_hasPlace v0 v1 Q S) : P_X8_hasPlace v0 v1 (fun r T => Q r T ∧ K5 S T) S := kg_X8_hasPlace_0 h (k5_rf S)
set_option maxRecDepth 20000 in
set_option maxHeartbeats 1000000 in
theorem kg_X8_canWait_0 {Q : Int32 → HS → Prop} {v0 : Nat} {v1 : Int32} {S0 S : HS} (h : P_X8_canWait_0 Q v0 v1 S) (K : K5 S0 S) : P_X8_canWait_0 (fun r T => Q r T ∧ K5 S0 T) v0 v1 S := by
  delta P_X8_canWait_0 at h ⊢
  obtain ⟨c1, h⟩ := h
  refine ⟨c1, ?_⟩
  have n2 := k5_ne K c1
  refine cm_X8_hasPlace (kg_X8_hasPlace h) h (fun x3 x4 hp h g5 g6 => ?_)
  have h := h g5 g6
  have K := k5_tr K hp.2
  refine ⟨?_, ?_⟩
  · intro c7
    have h := h.1 c7
    exact ⟨h, K⟩
  · intro c8
    have h := h.2 c8
    obtain ⟨b9, e10, h⟩ := h
    refine ⟨b9, e10, ?_⟩
    obtain ⟨c11, h⟩ := h
    refine ⟨c11, ?_⟩
    have n12 := k5_ne K c11
    obtain ⟨c13, h⟩ := h
    refine ⟨c13, ?_⟩
    intro x15 e14
    have h := h x15 e14
    refine ⟨?_, ?_⟩
    · intro c16
      have h := h.1 c16
      exact ⟨h, K⟩
    · intro c17
      have h := h.2 c17
      exact ⟨h, K⟩
theorem kg_X8_canWait {Q : Int32 → HS → Prop} {v0 : Nat} {v1 : Int32} {S : HS} (h : P_X8_canWait v0 v1 Q S) : P_X8_canWait v0 v1 (fun r T => Q r T ∧ K5 S T) S := kg_X8_canWait_0 h (k5_rf S)
set_option maxRecDepth 20000 in
set_option maxHeartbeats 1000000 in
theorem kg_X8_dripOn_0 {Q : Int32 → HS → Prop} {v0 : Nat} {v1 : Nat} {v2 : Int32} {S0 S : HS} (h : P_X8_dripOn_0 Q v0 v1 v2 S) (K : K5 S0 S) : P_X8_dripOn_0 (fun r T => Q r T ∧ K5 S0 T) v0 v1 v2 S := by
  delta P_X8_dripOn_0 at h ⊢
  obtain ⟨c1, h⟩ := h
  refine ⟨c1, ?_⟩
  have n2 := k5_ne K c1
  refine cm_X8_canWait (kg_X8_canWait h) h (fun x3 x4 hp h g5 g6 => ?_)
  have h := h g5 g6
  have K := k5_tr K hp.2
  refine ⟨?_, ?_⟩
  · intro c7
    have h := h.1 c7
    exact ⟨h, K⟩
  · intro c8
    have h := h.2 c8
    obtain ⟨b9, e10, h⟩ := h
    refine ⟨b9, e10, ?_⟩
    obtain ⟨c11, h⟩ := h
    refine ⟨c11, ?_⟩
    have n12 := k5_ne K c11
    obtain ⟨c13, h⟩ := h
    refine ⟨c13, ?_⟩
    intro x15 e14
    have h := h x15 e14
    obtain ⟨c16, h⟩ := h
    refine ⟨c16, ?_⟩
    have n17 := k5_ne K c16
    intro x19 e18
    have h := h x19 e18
    refine cm_X6_shield (kg_X6_shield h) h (fun x20 x21 hp h g22 => ?_)
    have h := h g22
    have K := k5_tr K hp.2
    intro x24 e23
    have h := h x24 e23
    exact ⟨h, K⟩
theorem kg_X8_dripOn {Q : Int32 → HS → Prop} {v0 : Nat} {v1 : Nat} {v2 : Int32} {S : HS} (h : P_X8_dripOn v0 v1 v2 Q S) : P_X8_dripOn v0 v1 v2 (fun r T => Q r T ∧ K5 S T) S := kg_X8_dripOn_0 h (k5_rf S)
set_option maxRecDepth 20000 in
set_option maxHeartbeats 1000000 in
theorem kg_X8_hasHour_0 {Q : Int32 → HS → Prop} {v0 : Nat} {v1 : Int32} {S0 S : HS} (h : P_X8_hasHour_0 Q v0 v1 S) (K : K5 S0 S) : P_X8_hasHour_0 (fun r T => Q r T ∧ K5 S0 T) v0 v1 S := by
  delta P_X8_hasHour_0 at h ⊢
  refine ⟨?_, ?_⟩
  · intro c1
    have h := h.1 c1
    exact ⟨h, K⟩
  · intro c2
    have h := h.2 c2
    obtain ⟨c3, h⟩ := h
    refine ⟨c3, ?_⟩
    have n4 := k5_ne K c3
    intro x6 e5
    have h := h x6 e5
    refine ⟨?_, ?_⟩
    · intro c7
      have h := h.1 c7
      exact ⟨h, K⟩
    · intro c8
      have h := h.2 c8
      obtain ⟨b9, e10, h⟩ := h
      refine ⟨b9, e10, ?_⟩
      obtain ⟨c11, h⟩ := h
      refine ⟨c11, ?_⟩
      have n12 := k5_ne K c11
      refine ⟨?_, ?_⟩
      · intro c13
        have h := h.1 c13
        exact ⟨h, K⟩
      · intro c14
        have h := h.2 c14
        exact ⟨h, K⟩
theorem kg_X8_hasHour {Q : Int32 → HS → Prop} {v0 : Nat} {v1 : Int32} {S : HS} (h : P_X8_hasHour v0 v1 Q S) : P_X8_hasHour v0 v1 (fun r T => Q r T ∧ K5 S T) S := kg_X8_hasHour_0 h (k5_rf S)
set_option maxRecDepth 20000 in
set_option maxHeartbeats 1000000 in
theorem kg_X7_price_134 {Q : HS → Prop} {X51 X51_2 : Nat → Nat → Nat → Int32 → Nat → Int32 → Int32 → HS → Prop} {X86 X86_2 : Nat → Nat → Nat → Int32 → Nat → Int32 → Int32 → Nat → Int32 → Int32 → HS → Prop} {v0 : Nat} {v1 : Nat} {v2 : Nat} {v3 : Int32} {v4 : Nat} {v5 : Int32} {v6 : Int32} {v7 : Nat} {v8 : Int32} {v9 : Int32} {s0 : Int64} {S0 S : HS} (h : P_X7_price_134 Q X51 X86 v0 v1 v2 v3 v4 v5 v6 v7 v8 v9 s0 S) (K : K5 S0 S) (hX51 : ∀ (u0 : Nat) (u1 : Nat) (u2 : Nat) (u3 : Int32) (u4 : Nat) (u5 : Int32) (u6 : Int32) (u7 : HS), X51 u0 u1 u2 u3 u4 u5 u6 u7 → K5 S0 u7 → X51_2 u0 u1 u2 u3 u4 u5 u6 u7) (hX86 : ∀ (u0 : Nat) (u1 : Nat) (u2 : Nat) (u3 : Int32) (u4 : Nat) (u5 : Int32) (u6 : Int32) (u7 : Nat) (u8 : Int32) (u9 : Int32) (u10 : HS), X86 u0 u1 u2 u3 u4 u5 u6 u7 u8 u9 u10 → K5 S0 u10 → X86_2 u0 u1 u2 u3 u4 u5 u6 u7 u8 u9 u10) : P_X7_price_134 (fun T => Q T ∧ K5 S0 T) X51_2 X86_2 v0 v1 v2 v3 v4 v5 v6 v7 v8 v9 s0 S := by
  delta P_X7_price_134 at h ⊢
  intro x2 e1
  have h := h x2 e1
  obtain ⟨c3, h⟩ := h
  refine ⟨c3, ?_⟩
  have n4 := k5_ne K c3
  refine cm_X7_addLeg (kg_X7_addLeg h) h (fun x5 hp h g6 => ?_)
  have h := h g6
  have K := k5_tr K hp.2
  intro x8 e7
  have h := h x8 e7
  exact hX86 _ _ _ _ _ _ _ _ _ _ _ h K
set_option maxRecDepth 20000 in
set_option maxHeartbeats 1000000 in
theorem kgB_X7_price_86 {Q : HS → Prop} {X51 X51_2 : Nat → Nat → Nat → Int32 → Nat → Int32 → Int32 → HS → Prop} {X86 X86_2 : Nat → Nat → Nat → Int32 → Nat → Int32 → Int32 → Nat → Int32 → Int32 → HS → Prop} {v0 : Nat} {v1 : Nat} {v2 : Nat} {v3 : Int32} {v4 : Nat} {v5 : Int32} {v6 : Int32} {v7 : Nat} {v8 : Int32} {v9 : Int32} {S0 S : HS} (h : B_X7_price_86 Q X51 X86 v0 v1 v2 v3 v4 v5 v6 v7 v8 v9 S) (K : K5 S0 S) (hX51 : ∀ (u0 : Nat) (u1 : Nat) (u2 : Nat) (u3 : Int32) (u4 : Nat) (u5 : Int32) (u6 : Int32) (u7 : HS), X51 u0 u1 u2 u3 u4 u5 u6 u7 → K5 S0 u7 → X51_2 u0 u1 u2 u3 u4 u5 u6 u7) (hX86 : ∀ (u0 : Nat) (u1 : Nat) (u2 : Nat) (u3 : Int32) (u4 : Nat) (u5 : Int32) (u6 : Int32) (u7 : Nat) (u8 : Int32) (u9 : Int32) (u10 : HS), X86 u0 u1 u2 u3 u4 u5 u6 u7 u8 u9 u10 → K5 S0 u10 → X86_2 u0 u1 u2 u3 u4 u5 u6 u7 u8 u9 u10) : B_X7_price_86 (fun T => Q T ∧ K5 S0 T) X51_2 X86_2 v0 v1 v2 v3 v4 v5 v6 v7 v8 v9 S := by
  delta B_X7_price_86 at h ⊢
  obtain ⟨c1, h⟩ := h
  refine ⟨c1, ?_⟩
  have n2 := k5_ne K c1
  intro x4 e3
  have h := h x4 e3
  refine ⟨?_, ?_⟩
  · intro c5
    have h := h.1 c5
    intro x7 e6
    have h := h x7 e6
    exact hX51 _ _ _ _ _ _ _ _ h K
  · intro c8
    have h := h.2 c8
    refine ⟨?_, ?_⟩
    · intro c9
      have h := h.1 c9
      obtain ⟨c10, h⟩ := h
      refine ⟨c10, ?_⟩
      have n11 := k5_ne K c10
      obtain ⟨b12, e13, h⟩ := h
      refine ⟨b12, e13, ?_⟩
      obtain ⟨c14, h⟩ := h
      refine ⟨c14, ?_⟩
      have n15 := k5_ne K c14
      obtain ⟨c16, h⟩ := h
      refine ⟨c16, ?_⟩
      obtain ⟨b17, e18, h⟩ := h
      refine ⟨b17, e18, ?_⟩
      obtain ⟨c19, h⟩ := h
      refine ⟨c19, ?_⟩
      have n20 := k5_ne K c19
      refine cm_X1_wetOf (kg_X1_wetOf h) h (fun x21 x22 hp h g23 => ?_)
      have h := h g23
      have K := k5_tr K hp.2
      obtain ⟨b24, e25, h⟩ := h
      refine ⟨b24, e25, ?_⟩
      obtain ⟨c26, h⟩ := h
      refine ⟨c26, ?_⟩
      have n27 := k5_ne K c26
      obtain ⟨c28, h⟩ := h
      refine ⟨c28, ?_⟩
      obtain ⟨b29, e30, h⟩ := h
      refine ⟨b29, e30, ?_⟩
      obtain ⟨c31, h⟩ := h
      refine ⟨c31, ?_⟩
      have n32 := k5_ne K c31
      intro x34 e33
      have h := h x34 e33
      exact kg_X7_price_134 h K hX51 hX86
    · intro c35
      have h := h.2 c35
      exact kg_X7_price_134 h K hX51 hX86
theorem kg_X7_price_86 {Q : HS → Prop} {X51 X51_2 : Nat → Nat → Nat → Int32 → Nat → Int32 → Int32 → HS → Prop} {v0 : Nat} {v1 : Nat} {v2 : Nat} {v3 : Int32} {v4 : Nat} {v5 : Int32} {v6 : Int32} {v7 : Nat} {v8 : Int32} {v9 : Int32} {S0 S : HS} (h : P_X7_price_86 Q X51 v0 v1 v2 v3 v4 v5 v6 v7 v8 v9 S) (K : K5 S0 S) (hX51 : ∀ (u0 : Nat) (u1 : Nat) (u2 : Nat) (u3 : Int32) (u4 : Nat) (u5 : Int32) (u6 : Int32) (u7 : HS), X51 u0 u1 u2 u3 u4 u5 u6 u7 → K5 S0 u7 → X51_2 u0 u1 u2 u3 u4 u5 u6 u7) : P_X7_price_86 (fun T => Q T ∧ K5 S0 T) X51_2 v0 v1 v2 v3 v4 v5 v6 v7 v8 v9 S := h (fun v0 v1 v2 v3 v4 v5 v6 v7 v8 v9 S => K5 S0 S → P_X7_price_86 (fun T => Q T ∧ K5 S0 T) X51_2 v0 v1 v2 v3 v4 v5 v6 v7 v8 v9 S) (fun v0 v1 v2 v3 v4 v5 v6 v7 v8 v9 S hB K => fd_X7_price_86 (kgB_X7_price_86 hB K hX51 (fun _ _ _ _ _ _ _ _ _ _ _ hx K => hx K))) K
set_option maxRecDepth 20000 in
set_option maxHeartbeats 1000000 in
theorem kg_X7_price_245 {Q : HS → Prop} {X179 X179_2 : Nat → Nat → Int32 → Nat → Int32 → Int32 → HS → Prop} {v0 : Nat} {v1 : Nat} {v3 : Int32} {v4 : Nat} {v5 : Int32} {v6 : Int32} {S0 S : HS} (h : P_X7_price_245 Q X179 v0 v1 v3 v4 v5 v6 S) (K : K5 S0 S) (hX179 : ∀ (u0 : Nat) (u1 : Nat) (u2 : Int32) (u3 : Nat) (u4 : Int32) (u5 : Int32) (u6 : HS), X179 u0 u1 u2 u3 u4 u5 u6 → K5 S0 u6 → X179_2 u0 u1 u2 u3 u4 u5 u6) : P_X7_price_245 (fun T => Q T ∧ K5 S0 T) X179_2 v0 v1 v3 v4 v5 v6 S := by
  delta P_X7_price_245 at h ⊢
  intro x2 e1
  have h := h x2 e1
  exact hX179 _ _ _ _ _ _ _ h K
set_option maxRecDepth 20000 in
set_option maxHeartbeats 1000000 in
theorem kg_X7_price_230 {Q : HS → Prop} {X179 X179_2 : Nat → Nat → Int32 → Nat → Int32 → Int32 → HS → Prop} {v0 : Nat} {v1 : Nat} {v3 : Int32} {v4 : Nat} {v5 : Int32} {v6 : Int32} {s0 : Int64} {S0 S : HS} (h : P_X7_price_230 Q X179 v0 v1 v3 v4 v5 v6 s0 S) (K : K5 S0 S) (hX179 : ∀ (u0 : Nat) (u1 : Nat) (u2 : Int32) (u3 : Nat) (u4 : Int32) (u5 : Int32) (u6 : HS), X179 u0 u1 u2 u3 u4 u5 u6 → K5 S0 u6 → X179_2 u0 u1 u2 u3 u4 u5 u6) : P_X7_price_230 (fun T => Q T ∧ K5 S0 T) X179_2 v0 v1 v3 v4 v5 v6 s0 S := by
  delta P_X7_price_230 at h ⊢
  obtain ⟨c1, h⟩ := h
  refine ⟨c1, ?_⟩
  have n2 := k5_ne K c1
  refine cm_X7_addMove (kg_X7_addMove h) h (fun x3 hp h g4 => ?_)
  have h := h g4
  have K := k5_tr K hp.2
  exact kg_X7_price_245 h K hX179
set_option maxRecDepth 20000 in
set_option maxHeartbeats 1000000 in
theorem kgB_X7_price_179 {Q : HS → Prop} {X179 X179_2 : Nat → Nat → Int32 → Nat → Int32 → Int32 → HS → Prop} {v0 : Nat} {v1 : Nat} {v3 : Int32} {v4 : Nat} {v5 : Int32} {v6 : Int32} {S0 S : HS} (h : B_X7_price_179 Q X179 v0 v1 v3 v4 v5 v6 S) (K : K5 S0 S) (hX179 : ∀ (u0 : Nat) (u1 : Nat) (u2 : Int32) (u3 : Nat) (u4 : Int32) (u5 : Int32) (u6 : HS), X179 u0 u1 u2 u3 u4 u5 u6 → K5 S0 u6 → X179_2 u0 u1 u2 u3 u4 u5 u6) : B_X7_price_179 (fun T => Q T ∧ K5 S0 T) X179_2 v0 v1 v3 v4 v5 v6 S := by
  delta B_X7_price_179 at h ⊢
  obtain ⟨c1, h⟩ := h
  refine ⟨c1, ?_⟩
  have n2 := k5_ne K c1
  intro x4 e3
  have h := h x4 e3
  refine ⟨?_, ?_⟩
  · intro c5
    have h := h.1 c5
    exact ⟨h, K⟩
  · intro c6
    have h := h.2 c6
    refine cm_X8_canWait (kg_X8_canWait h) h (fun x7 x8 hp h g9 g10 => ?_)
    have h := h g9 g10
    have K := k5_tr K hp.2
    refine ⟨?_, ?_⟩
    · intro c11
      have h := h.1 c11
      exact kg_X7_price_245 h K hX179
    · intro c12
      have h := h.2 c12
      refine ⟨?_, ?_⟩
      · intro c13
        have h := h.1 c13
        refine cm_X8_dripOn (kg_X8_dripOn h) h (fun x14 x15 hp h g16 => ?_)
        have h := h g16
        have K := k5_tr K hp.2
        obtain ⟨b17, e18, h⟩ := h
        refine ⟨b17, e18, ?_⟩
        obtain ⟨c19, h⟩ := h
        refine ⟨c19, ?_⟩
        have n20 := k5_ne K c19
        obtain ⟨c21, h⟩ := h
        refine ⟨c21, ?_⟩
        obtain ⟨b22, e23, h⟩ := h
        refine ⟨b22, e23, ?_⟩
        obtain ⟨c24, h⟩ := h
        refine ⟨c24, ?_⟩
        have n25 := k5_ne K c24
        intro x27 e26
        have h := h x27 e26
        exact kg_X7_price_230 h K hX179
      · intro c28
        have h := h.2 c28
        exact kg_X7_price_230 h K hX179
theorem kg_X7_price_179 {Q : HS → Prop} {v0 : Nat} {v1 : Nat} {v3 : Int32} {v4 : Nat} {v5 : Int32} {v6 : Int32} {S0 S : HS} (h : P_X7_price_179 Q v0 v1 v3 v4 v5 v6 S) (K : K5 S0 S) : P_X7_price_179 (fun T => Q T ∧ K5 S0 T) v0 v1 v3 v4 v5 v6 S := h (fun v0 v1 v3 v4 v5 v6 S => K5 S0 S → P_X7_price_179 (fun T => Q T ∧ K5 S0 T) v0 v1 v3 v4 v5 v6 S) (fun v0 v1 v3 v4 v5 v6 S hB K => fd_X7_price_179 (kgB_X7_price_179 hB K (fun _ _ _ _ _ _ _ hx K => hx K))) K
set_option maxRecDepth 20000 in
set_option maxHeartbeats 1000000 in
theorem kgB_X7_price_51 {Q : HS → Prop} {X51 X51_2 : Nat → Nat → Nat → Int32 → Nat → Int32 → Int32 → HS → Prop} {v0 : Nat} {v1 : Nat} {v2 : Nat} {v3 : Int32} {v4 : Nat} {v5 : Int32} {v6 : Int32} {S0 S : HS} (h : B_X7_price_51 Q X51 v0 v1 v2 v3 v4 v5 v6 S) (K : K5 S0 S) (hX51 : ∀ (u0 : Nat) (u1 : Nat) (u2 : Nat) (u3 : Int32) (u4 : Nat) (u5 : Int32) (u6 : Int32) (u7 : HS), X51 u0 u1 u2 u3 u4 u5 u6 u7 → K5 S0 u7 → X51_2 u0 u1 u2 u3 u4 u5 u6 u7) : B_X7_price_51 (fun T => Q T ∧ K5 S0 T) X51_2 v0 v1 v2 v3 v4 v5 v6 S := by
  delta B_X7_price_51 at h ⊢
  obtain ⟨c1, h⟩ := h
  refine ⟨c1, ?_⟩
  have n2 := k5_ne K c1
  intro x4 e3
  have h := h x4 e3
  refine ⟨?_, ?_⟩
  · intro c5
    have h := h.1 c5
    exact kg_X7_price_179 h K
  · intro c6
    have h := h.2 c6
    obtain ⟨b7, e8, h⟩ := h
    refine ⟨b7, e8, ?_⟩
    intro x10 e9
    have h := h x10 e9
    obtain ⟨c11, h⟩ := h
    refine ⟨c11, ?_⟩
    have n12 := k5_ne K c11
    obtain ⟨c13, h⟩ := h
    refine ⟨c13, ?_⟩
    obtain ⟨b14, e15, h⟩ := h
    refine ⟨b14, e15, ?_⟩
    intro x17 e16
    have h := h x17 e16
    obtain ⟨c18, h⟩ := h
    refine ⟨c18, ?_⟩
    have n19 := k5_ne K c18
    intro x21 e20
    have h := h x21 e20
    exact kg_X7_price_86 h K hX51
theorem kg_X7_price_51 {Q : HS → Prop} {v0 : Nat} {v1 : Nat} {v2 : Nat} {v3 : Int32} {v4 : Nat} {v5 : Int32} {v6 : Int32} {S0 S : HS} (h : P_X7_price_51 Q v0 v1 v2 v3 v4 v5 v6 S) (K : K5 S0 S) : P_X7_price_51 (fun T => Q T ∧ K5 S0 T) v0 v1 v2 v3 v4 v5 v6 S := h (fun v0 v1 v2 v3 v4 v5 v6 S => K5 S0 S → P_X7_price_51 (fun T => Q T ∧ K5 S0 T) v0 v1 v2 v3 v4 v5 v6 S) (fun v0 v1 v2 v3 v4 v5 v6 S hB K => fd_X7_price_51 (kgB_X7_price_51 hB K (fun _ _ _ _ _ _ _ _ hx K => hx K))) K
set_option maxRecDepth 20000 in
set_option maxHeartbeats 1000000 in
theorem kg_X7_price_46 {Q : HS → Prop} {v0 : Nat} {v1 : Nat} {v2 : Nat} {v3 : Int32} {v4 : Nat} {s0 : Int32} {S0 S : HS} (h : P_X7_price_46 Q v0 v1 v2 v3 v4 s0 S) (K : K5 S0 S) : P_X7_price_46 (fun T => Q T ∧ K5 S0 T) v0 v1 v2 v3 v4 s0 S := by
  delta P_X7_price_46 at h ⊢
  exact kg_X7_price_51 h K
set_option maxRecDepth 20000 in
set_option maxHeartbeats 1000000 in
theorem kg_X7_price_0 {Q : HS → Prop} {v0 : Nat} {v1 : Nat} {v2 : Nat} {v3 : Int32} {S0 S : HS} (h : P_X7_price_0 Q v0 v1 v2 v3 S) (K : K5 S0 S) : P_X7_price_0 (fun T => Q T ∧ K5 S0 T) v0 v1 v2 v3 S := by
  delta P_X7_price_0 at h ⊢
  obtain ⟨c1, h⟩ := h
  refine ⟨c1, ?_⟩
  have n2 := k5_ne K c1
  intro x4 e3
  have h := h x4 e3
  have K := k5_I K e3 n2 (by decide)
  intro x6 e5
  have h := h x6 e5
  have K := k5_I K e5 n2 (by decide)
  intro x8 e7
  have h := h x8 e7
  obtain ⟨c9, h⟩ := h
  refine ⟨c9, ?_⟩
  have n10 := k5_ne K c9
  refine cm_X8_hasWalker (kg_X8_hasWalker h) h (fun x11 x12 hp h g13 g14 => ?_)
  have h := h g13 g14
  have K := k5_tr K hp.2
  refine ⟨?_, ?_⟩
  · intro c15
    have h := h.1 c15
    obtain ⟨b16, e17, h⟩ := h
    refine ⟨b16, e17, ?_⟩
    intro x19 e18
    have h := h x19 e18
    obtain ⟨c20, h⟩ := h
    refine ⟨c20, ?_⟩
    have n21 := k5_ne K c20
    obtain ⟨c22, h⟩ := h
    refine ⟨c22, ?_⟩
    obtain ⟨b23, e24, h⟩ := h
    refine ⟨b23, e24, ?_⟩
    refine cm_X8_hasHour (kg_X8_hasHour h) h (fun x25 x26 hp h g27 g28 => ?_)
    have h := h g27 g28
    have K := k5_tr K hp.2
    refine ⟨?_, ?_⟩
    · intro c29
      have h := h.1 c29
      exact kg_X7_price_46 h K
    · intro c30
      have h := h.2 c30
      exact kg_X7_price_46 h K
  · intro c31
    have h := h.2 c31
    exact ⟨h, K⟩
theorem kg_X7_price {Q : HS → Prop} {v0 : Nat} {v1 : Nat} {v2 : Nat} {v3 : Int32} {S : HS} (h : P_X7_price v0 v1 v2 v3 Q S) : P_X7_price v0 v1 v2 v3 (fun T => Q T ∧ K5 S T) S := kg_X7_price_0 h (k5_rf S)
set_option maxRecDepth 20000 in
set_option maxHeartbeats 1000000 in
theorem kg_X7_reckonMinute_40 {Q : HS → Prop} {X2 X2_2 : Nat → Int32 → Int32 → Int32 → HS → Prop} {v0 : Nat} {v1 : Int32} {v2 : Int32} {v3 : Int32} {s0 : Nat} {s1 : Int32} {s2 : Int64} {S0 S : HS} (h : P_X7_reckonMinute_40 Q X2 v0 v1 v2 v3 s0 s1 s2 S) (K : K5 S0 S) (hX2 : ∀ (u0 : Nat) (u1 : Int32) (u2 : Int32) (u3 : Int32) (u4 : HS), X2 u0 u1 u2 u3 u4 → K5 S0 u4 → X2_2 u0 u1 u2 u3 u4) : P_X7_reckonMinute_40 (fun T => Q T ∧ K5 S0 T) X2_2 v0 v1 v2 v3 s0 s1 s2 S := by
  delta P_X7_reckonMinute_40 at h ⊢
  obtain ⟨c1, h⟩ := h
  refine ⟨c1, ?_⟩
  have n2 := k5_ne K c1
  obtain ⟨c3, h⟩ := h
  refine ⟨c3, ?_⟩
  intro x5 e4
  have h := h x5 e4
  have K := k5_J K e4
  obtain ⟨c6, h⟩ := h
  refine ⟨c6, ?_⟩
  have n7 := k5_ne K c6
  obtain ⟨b8, e9, h⟩ := h
  refine ⟨b8, e9, ?_⟩
  obtain ⟨c10, h⟩ := h
  refine ⟨c10, ?_⟩
  have n11 := k5_ne K c10
  obtain ⟨c12, h⟩ := h
  refine ⟨c12, ?_⟩
  intro x14 e13
  have h := h x14 e13
  have K := k5_A K e13 n11 (by decide)
  intro x16 e15
  have h := h x16 e15
  exact hX2 _ _ _ _ _ h K
set_option maxRecDepth 20000 in
set_option maxHeartbeats 1000000 in
theorem kg_X7_reckonMinute_219 {Q : HS → Prop} {X62 X62_2 : Nat → Int32 → Int32 → HS → Prop} {v0 : Nat} {v2 : Int32} {v3 : Int32} {S0 S : HS} (h : P_X7_reckonMinute_219 Q X62 v0 v2 v3 S) (K : K5 S0 S) (hX62 : ∀ (u0 : Nat) (u1 : Int32) (u2 : Int32) (u3 : HS), X62 u0 u1 u2 u3 → K5 S0 u3 → X62_2 u0 u1 u2 u3) : P_X7_reckonMinute_219 (fun T => Q T ∧ K5 S0 T) X62_2 v0 v2 v3 S := by
  delta P_X7_reckonMinute_219 at h ⊢
  intro x2 e1
  have h := h x2 e1
  exact hX62 _ _ _ _ h K
set_option maxRecDepth 20000 in
set_option maxHeartbeats 1000000 in
theorem kg_X7_reckonMinute_117 {Q : HS → Prop} {X62 X62_2 : Nat → Int32 → Int32 → HS → Prop} {v0 : Nat} {v2 : Int32} {v3 : Int32} {v4 : Int32} {v5 : Int32} {s0 : Int32} {S0 S : HS} (h : P_X7_reckonMinute_117 Q X62 v0 v2 v3 v4 v5 s0 S) (K : K5 S0 S) (hX62 : ∀ (u0 : Nat) (u1 : Int32) (u2 : Int32) (u3 : HS), X62 u0 u1 u2 u3 → K5 S0 u3 → X62_2 u0 u1 u2 u3) : P_X7_reckonMinute_117 (fun T => Q T ∧ K5 S0 T) X62_2 v0 v2 v3 v4 v5 s0 S := by
  delta P_X7_reckonMinute_117 at h ⊢
  refine ⟨?_, ?_⟩
  · intro c1
    have h := h.1 c1
    exact kg_X7_reckonMinute_219 h K hX62
  · intro c2
    have h := h.2 c2
    refine ⟨?_, ?_⟩
    · intro c3
      have h := h.1 c3
      exact kg_X7_reckonMinute_219 h K hX62
    · intro c4
      have h := h.2 c4
      obtain ⟨c5, h⟩ := h
      refine ⟨c5, ?_⟩
      have n6 := k5_ne K c5
      obtain ⟨b7, e8, h⟩ := h
      refine ⟨b7, e8, ?_⟩
      obtain ⟨c9, h⟩ := h
      refine ⟨c9, ?_⟩
      have n10 := k5_ne K c9
      refine ⟨?_, ?_⟩
      · intro c11
        have h := h.1 c11
        exact kg_X7_reckonMinute_219 h K hX62
      · intro c12
        have h := h.2 c12
        refine ⟨?_, ?_⟩
        · intro c13
          have h := h.1 c13
          exact kg_X7_reckonMinute_219 h K hX62
        · intro c14
          have h := h.2 c14
          obtain ⟨b15, e16, h⟩ := h
          refine ⟨b15, e16, ?_⟩
          obtain ⟨c17, h⟩ := h
          refine ⟨c17, ?_⟩
          have n18 := k5_ne K c17
          refine ⟨?_, ?_⟩
          · intro c19
            have h := h.1 c19
            exact kg_X7_reckonMinute_219 h K hX62
          · intro c20
            have h := h.2 c20
            obtain ⟨b21, e22, h⟩ := h
            refine ⟨b21, e22, ?_⟩
            obtain ⟨c23, h⟩ := h
            refine ⟨c23, ?_⟩
            have n24 := k5_ne K c23
            obtain ⟨c25, h⟩ := h
            refine ⟨c25, ?_⟩
            intro x27 e26
            have h := h x27 e26
            refine ⟨?_, ?_⟩
            · intro c28
              have h := h.1 c28
              exact kg_X7_reckonMinute_219 h K hX62
            · intro c29
              have h := h.2 c29
              obtain ⟨b30, e31, h⟩ := h
              refine ⟨b30, e31, ?_⟩
              obtain ⟨c32, h⟩ := h
              refine ⟨c32, ?_⟩
              have n33 := k5_ne K c32
              obtain ⟨c34, h⟩ := h
              refine ⟨c34, ?_⟩
              intro x36 e35
              have h := h x36 e35
              obtain ⟨b37, e38, h⟩ := h
              refine ⟨b37, e38, ?_⟩
              obtain ⟨c39, h⟩ := h
              refine ⟨c39, ?_⟩
              have n40 := k5_ne K c39
              obtain ⟨c41, h⟩ := h
              refine ⟨c41, ?_⟩
              intro x43 e42
              have h := h x43 e42
              intro x45 e44
              have h := h x45 e44
              obtain ⟨b46, e47, h⟩ := h
              refine ⟨b46, e47, ?_⟩
              obtain ⟨c48, h⟩ := h
              refine ⟨c48, ?_⟩
              have n49 := k5_ne K c48
              obtain ⟨c50, h⟩ := h
              refine ⟨c50, ?_⟩
              intro x52 e51
              have h := h x52 e51
              refine ⟨?_, ?_⟩
              · intro c53
                have h := h.1 c53
                exact kg_X7_reckonMinute_219 h K hX62
              · intro c54
                have h := h.2 c54
                obtain ⟨b55, e56, h⟩ := h
                refine ⟨b55, e56, ?_⟩
                obtain ⟨c57, h⟩ := h
                refine ⟨c57, ?_⟩
                have n58 := k5_ne K c57
                obtain ⟨c59, h⟩ := h
                refine ⟨c59, ?_⟩
                intro x61 e60
                have h := h x61 e60
                have K := k5_J K e60
                obtain ⟨b62, e63, h⟩ := h
                refine ⟨b62, e63, ?_⟩
                obtain ⟨b64, e65, h⟩ := h
                refine ⟨b64, e65, ?_⟩
                obtain ⟨c66, h⟩ := h
                refine ⟨c66, ?_⟩
                have n67 := k5_ne K c66
                obtain ⟨c68, h⟩ := h
                refine ⟨c68, ?_⟩
                intro x70 e69
                have h := h x70 e69
                obtain ⟨c71, h⟩ := h
                refine ⟨c71, ?_⟩
                have n72 := k5_ne K c71
                obtain ⟨c73, h⟩ := h
                refine ⟨c73, ?_⟩
                intro x75 e74
                have h := h x75 e74
                have K := k5_A K e74 n72 (by decide)
                exact kg_X7_reckonMinute_219 h K hX62
set_option maxRecDepth 20000 in
set_option maxHeartbeats 1000000 in
theorem kgB_X7_reckonMinute_62 {Q : HS → Prop} {X62 X62_2 : Nat → Int32 → Int32 → HS → Prop} {v0 : Nat} {v2 : Int32} {v3 : Int32} {S0 S : HS} (h : B_X7_reckonMinute_62 Q X62 v0 v2 v3 S) (K : K5 S0 S) (hX62 : ∀ (u0 : Nat) (u1 : Int32) (u2 : Int32) (u3 : HS), X62 u0 u1 u2 u3 → K5 S0 u3 → X62_2 u0 u1 u2 u3) : B_X7_reckonMinute_62 (fun T => Q T ∧ K5 S0 T) X62_2 v0 v2 v3 S := by
  delta B_X7_reckonMinute_62 at h ⊢
  obtain ⟨c1, h⟩ := h
  refine ⟨c1, ?_⟩
  have n2 := k5_ne K c1
  intro x4 e3
  have h := h x4 e3
  refine ⟨?_, ?_⟩
  · intro c5
    have h := h.1 c5
    exact ⟨h, K⟩
  · intro c6
    have h := h.2 c6
    refine ⟨?_, ?_⟩
    · intro c7
      have h := h.1 c7
      exact ⟨h, K⟩
    · intro c8
      have h := h.2 c8
      obtain ⟨b9, e10, h⟩ := h
      refine ⟨b9, e10, ?_⟩
      obtain ⟨c11, h⟩ := h
      refine ⟨c11, ?_⟩
      have n12 := k5_ne K c11
      obtain ⟨c13, h⟩ := h
      refine ⟨c13, ?_⟩
      intro x15 e14
      have h := h x15 e14
      intro x17 e16
      have h := h x17 e16
      obtain ⟨b18, e19, h⟩ := h
      refine ⟨b18, e19, ?_⟩
      obtain ⟨c20, h⟩ := h
      refine ⟨c20, ?_⟩
      have n21 := k5_ne K c20
      obtain ⟨c22, h⟩ := h
      refine ⟨c22, ?_⟩
      intro x24 e23
      have h := h x24 e23
      intro x26 e25
      have h := h x26 e25
      obtain ⟨b27, e28, h⟩ := h
      refine ⟨b27, e28, ?_⟩
      obtain ⟨c29, h⟩ := h
      refine ⟨c29, ?_⟩
      have n30 := k5_ne K c29
      obtain ⟨c31, h⟩ := h
      refine ⟨c31, ?_⟩
      intro x33 e32
      have h := h x33 e32
      intro x35 e34
      have h := h x35 e34
      refine ⟨?_, ?_⟩
      · intro c36
        have h := h.1 c36
        exact kg_X7_reckonMinute_117 h K hX62
      · intro c37
        have h := h.2 c37
        exact kg_X7_reckonMinute_117 h K hX62
theorem kg_X7_reckonMinute_62 {Q : HS → Prop} {v0 : Nat} {v2 : Int32} {v3 : Int32} {S0 S : HS} (h : P_X7_reckonMinute_62 Q v0 v2 v3 S) (K : K5 S0 S) : P_X7_reckonMinute_62 (fun T => Q T ∧ K5 S0 T) v0 v2 v3 S := h (fun v0 v2 v3 S => K5 S0 S → P_X7_reckonMinute_62 (fun T => Q T ∧ K5 S0 T) v0 v2 v3 S) (fun v0 v2 v3 S hB K => fd_X7_reckonMinute_62 (kgB_X7_reckonMinute_62 hB K (fun _ _ _ _ hx K => hx K))) K
set_option maxRecDepth 20000 in
set_option maxHeartbeats 1000000 in
theorem kg_X7_reckonMinute_60 {Q : HS → Prop} {v0 : Nat} {v2 : Int32} {S0 S : HS} (h : P_X7_reckonMinute_60 Q v0 v2 S) (K : K5 S0 S) : P_X7_reckonMinute_60 (fun T => Q T ∧ K5 S0 T) v0 v2 S := by
  delta P_X7_reckonMinute_60 at h ⊢
  exact kg_X7_reckonMinute_62 h K
set_option maxRecDepth 20000 in
set_option maxHeartbeats 1000000 in
theorem kgB_X7_reckonMinute_2 {Q : HS → Prop} {X2 X2_2 : Nat → Int32 → Int32 → Int32 → HS → Prop} {v0 : Nat} {v1 : Int32} {v2 : Int32} {v3 : Int32} {S0 S : HS} (h : B_X7_reckonMinute_2 Q X2 v0 v1 v2 v3 S) (K : K5 S0 S) (hX2 : ∀ (u0 : Nat) (u1 : Int32) (u2 : Int32) (u3 : Int32) (u4 : HS), X2 u0 u1 u2 u3 u4 → K5 S0 u4 → X2_2 u0 u1 u2 u3 u4) : B_X7_reckonMinute_2 (fun T => Q T ∧ K5 S0 T) X2_2 v0 v1 v2 v3 S := by
  delta B_X7_reckonMinute_2 at h ⊢
  refine ⟨?_, ?_⟩
  · intro c1
    have h := h.1 c1
    exact kg_X7_reckonMinute_60 h K
  · intro c2
    have h := h.2 c2
    refine ⟨?_, ?_⟩
    · intro c3
      have h := h.1 c3
      exact kg_X7_reckonMinute_60 h K
    · intro c4
      have h := h.2 c4
      obtain ⟨c5, h⟩ := h
      refine ⟨c5, ?_⟩
      have n6 := k5_ne K c5
      obtain ⟨b7, e8, h⟩ := h
      refine ⟨b7, e8, ?_⟩
      intro x10 e9
      have h := h x10 e9
      refine ⟨?_, ?_⟩
      · intro c11
        have h := h.1 c11
        exact kg_X7_reckonMinute_40 h K hX2
      · intro c12
        have h := h.2 c12
        exact kg_X7_reckonMinute_40 h K hX2
theorem kg_X7_reckonMinute_2 {Q : HS → Prop} {v0 : Nat} {v1 : Int32} {v2 : Int32} {v3 : Int32} {S0 S : HS} (h : P_X7_reckonMinute_2 Q v0 v1 v2 v3 S) (K : K5 S0 S) : P_X7_reckonMinute_2 (fun T => Q T ∧ K5 S0 T) v0 v1 v2 v3 S := h (fun v0 v1 v2 v3 S => K5 S0 S → P_X7_reckonMinute_2 (fun T => Q T ∧ K5 S0 T) v0 v1 v2 v3 S) (fun v0 v1 v2 v3 S hB K => fd_X7_reckonMinute_2 (kgB_X7_reckonMinute_2 hB K (fun _ _ _ _ _ hx K => hx K))) K
set_option maxRecDepth 20000 in
set_option maxHeartbeats 1000000 in
theorem kg_X7_reckonMinute_0 {Q : HS → Prop} {v0 : Nat} {v1 : Int32} {v2 : Int32} {S0 S : HS} (h : P_X7_reckonMinute_0 Q v0 v1 v2 S) (K : K5 S0 S) : P_X7_reckonMinute_0 (fun T => Q T ∧ K5 S0 T) v0 v1 v2 S := by
  delta P_X7_reckonMinute_0 at h ⊢
  exact kg_X7_reckonMinute_2 h K
theorem kg_X7_reckonMinute {Q : HS → Prop} {v0 : Nat} {v1 : Int32} {v2 : Int32} {S : HS} (h : P_X7_reckonMinute v0 v1 v2 Q S) : P_X7_reckonMinute v0 v1 v2 (fun T => Q T ∧ K5 S T) S := kg_X7_reckonMinute_0 h (k5_rf S)
set_option maxRecDepth 20000 in
set_option maxHeartbeats 1000000 in
theorem kg_X8_hourOf_0 {Q : Int32 → HS → Prop} {v0 : Nat} {v1 : Int32} {S0 S : HS} (h : P_X8_hourOf_0 Q v0 v1 S) (K : K5 S0 S) : P_X8_hourOf_0 (fun r T => Q r T ∧ K5 S0 T) v0 v1 S := by
  delta P_X8_hourOf_0 at h ⊢
  obtain ⟨c1, h⟩ := h
  refine ⟨c1, ?_⟩
  have n2 := k5_ne K c1
  intro x4 e3
  have h := h x4 e3
  refine ⟨?_, ?_⟩
  · intro c5
    have h := h.1 c5
    exact ⟨h, K⟩
  · intro c6
    have h := h.2 c6
    intro x8 e7
    have h := h x8 e7
    obtain ⟨c9, h⟩ := h
    refine ⟨c9, ?_⟩
    intro x11 e10
    have h := h x11 e10
    exact ⟨h, K⟩
theorem kg_X8_hourOf {Q : Int32 → HS → Prop} {v0 : Nat} {v1 : Int32} {S : HS} (h : P_X8_hourOf v0 v1 Q S) : P_X8_hourOf v0 v1 (fun r T => Q r T ∧ K5 S T) S := kg_X8_hourOf_0 h (k5_rf S)
set_option maxRecDepth 20000 in
set_option maxHeartbeats 1000000 in
theorem kg_X7_reckon_120 {Q : HS → Prop} {X76 X76_2 : Nat → Nat → Nat → Int32 → Int32 → HS → Prop} {v0 : Nat} {v1 : Nat} {v2 : Nat} {v6 : Int32} {v7 : Int32} {S0 S : HS} (h : P_X7_reckon_120 Q X76 v0 v1 v2 v6 v7 S) (K : K5 S0 S) (hX76 : ∀ (u0 : Nat) (u1 : Nat) (u2 : Nat) (u3 : Int32) (u4 : Int32) (u5 : HS), X76 u0 u1 u2 u3 u4 u5 → K5 S0 u5 → X76_2 u0 u1 u2 u3 u4 u5) : P_X7_reckon_120 (fun T => Q T ∧ K5 S0 T) X76_2 v0 v1 v2 v6 v7 S := by
  delta P_X7_reckon_120 at h ⊢
  obtain ⟨c1, h⟩ := h
  refine ⟨c1, ?_⟩
  have n2 := k5_ne K c1
  intro x4 e3
  have h := h x4 e3
  obtain ⟨c5, h⟩ := h
  refine ⟨c5, ?_⟩
  have n6 := k5_ne K c5
  refine cm_X7_reckonMinute (kg_X7_reckonMinute h) h (fun x7 hp h g8 => ?_)
  have h := h g8
  have K := k5_tr K hp.2
  intro x10 e9
  have h := h x10 e9
  have K := k5_I K e9 n6 (by decide)
  intro x12 e11
  have h := h x12 e11
  exact hX76 _ _ _ _ _ _ h K
set_option maxRecDepth 20000 in
set_option maxHeartbeats 1000000 in
theorem kgB_X7_reckon_76 {Q : HS → Prop} {X76 X76_2 : Nat → Nat → Nat → Int32 → Int32 → HS → Prop} {v0 : Nat} {v1 : Nat} {v2 : Nat} {v6 : Int32} {v7 : Int32} {S0 S : HS} (h : B_X7_reckon_76 Q X76 v0 v1 v2 v6 v7 S) (K : K5 S0 S) (hX76 : ∀ (u0 : Nat) (u1 : Nat) (u2 : Nat) (u3 : Int32) (u4 : Int32) (u5 : HS), X76 u0 u1 u2 u3 u4 u5 → K5 S0 u5 → X76_2 u0 u1 u2 u3 u4 u5) : B_X7_reckon_76 (fun T => Q T ∧ K5 S0 T) X76_2 v0 v1 v2 v6 v7 S := by
  delta B_X7_reckon_76 at h ⊢
  refine ⟨?_, ?_⟩
  · intro c1
    have h := h.1 c1
    exact ⟨h, K⟩
  · intro c2
    have h := h.2 c2
    refine ⟨?_, ?_⟩
    · intro c3
      have h := h.1 c3
      exact ⟨h, K⟩
    · intro c4
      have h := h.2 c4
      obtain ⟨c5, h⟩ := h
      refine ⟨c5, ?_⟩
      have n6 := k5_ne K c5
      refine cm_X8_hourOf (kg_X8_hourOf h) h (fun x7 x8 hp h g9 => ?_)
      have h := h g9
      have K := k5_tr K hp.2
      intro x11 e10
      have h := h x11 e10
      intro x13 e12
      have h := h x13 e12
      obtain ⟨c14, h⟩ := h
      refine ⟨c14, ?_⟩
      have n15 := k5_ne K c14
      intro x17 e16
      have h := h x17 e16
      refine ⟨?_, ?_⟩
      · intro c18
        have h := h.1 c18
        exact kg_X7_reckon_120 h K hX76
      · intro c19
        have h := h.2 c19
        refine cm_X7_price (kg_X7_price h) h (fun x20 hp h g21 => ?_)
        have h := h g21
        have K := k5_tr K hp.2
        exact kg_X7_reckon_120 h K hX76
theorem kg_X7_reckon_76 {Q : HS → Prop} {v0 : Nat} {v1 : Nat} {v2 : Nat} {v6 : Int32} {v7 : Int32} {S0 S : HS} (h : P_X7_reckon_76 Q v0 v1 v2 v6 v7 S) (K : K5 S0 S) : P_X7_reckon_76 (fun T => Q T ∧ K5 S0 T) v0 v1 v2 v6 v7 S := h (fun v0 v1 v2 v6 v7 S => K5 S0 S → P_X7_reckon_76 (fun T => Q T ∧ K5 S0 T) v0 v1 v2 v6 v7 S) (fun v0 v1 v2 v6 v7 S hB K => fd_X7_reckon_76 (kgB_X7_reckon_76 hB K (fun _ _ _ _ _ _ hx K => hx K))) K
set_option maxRecDepth 20000 in
set_option maxHeartbeats 1000000 in
theorem kg_X7_reckon_68 {Q : HS → Prop} {v0 : Nat} {v1 : Nat} {v2 : Nat} {v6 : Int32} {S0 S : HS} (h : P_X7_reckon_68 Q v0 v1 v2 v6 S) (K : K5 S0 S) : P_X7_reckon_68 (fun T => Q T ∧ K5 S0 T) v0 v1 v2 v6 S := by
  delta P_X7_reckon_68 at h ⊢
  obtain ⟨c1, h⟩ := h
  refine ⟨c1, ?_⟩
  have n2 := k5_ne K c1
  intro x4 e3
  have h := h x4 e3
  intro x6 e5
  have h := h x6 e5
  exact kg_X7_reckon_76 h K
set_option maxRecDepth 20000 in
set_option maxHeartbeats 1000000 in
theorem kg_X7_reckon_38 {Q : HS → Prop} {v0 : Nat} {v1 : Nat} {v2 : Nat} {v3 : Int32} {v4 : Int32} {v5 : Int32} {v6 : Int32} {S0 S : HS} (h : P_X7_reckon_38 Q v0 v1 v2 v3 v4 v5 v6 S) (K : K5 S0 S) : P_X7_reckon_38 (fun T => Q T ∧ K5 S0 T) v0 v1 v2 v3 v4 v5 v6 S := by
  delta P_X7_reckon_38 at h ⊢
  obtain ⟨c1, h⟩ := h
  refine ⟨c1, ?_⟩
  have n2 := k5_ne K c1
  intro x4 e3
  have h := h x4 e3
  have K := k5_I K e3 n2 (by decide)
  intro x6 e5
  have h := h x6 e5
  have K := k5_I K e5 n2 (by decide)
  intro x8 e7
  have h := h x8 e7
  have K := k5_I K e7 n2 (by decide)
  intro x10 e9
  have h := h x10 e9
  intro x12 e11
  have h := h x12 e11
  have K := k5_I K e11 n2 (by decide)
  intro x14 e13
  have h := h x14 e13
  have K := k5_I K e13 n2 (by decide)
  exact kg_X7_reckon_68 h K
set_option maxRecDepth 20000 in
set_option maxHeartbeats 1000000 in
theorem kg_X7_reckon_12 {Q : HS → Prop} {v0 : Nat} {v1 : Nat} {v2 : Nat} {v3 : Int32} {v4 : Int32} {v5 : Int32} {v6 : Int32} {S0 S : HS} (h : P_X7_reckon_12 Q v0 v1 v2 v3 v4 v5 v6 S) (K : K5 S0 S) : P_X7_reckon_12 (fun T => Q T ∧ K5 S0 T) v0 v1 v2 v3 v4 v5 v6 S := by
  delta P_X7_reckon_12 at h ⊢
  obtain ⟨c1, h⟩ := h
  refine ⟨c1, ?_⟩
  have n2 := k5_ne K c1
  intro x4 e3
  have h := h x4 e3
  refine ⟨?_, ?_⟩
  · intro c5
    have h := h.1 c5
    exact kg_X7_reckon_38 h K
  · intro c6
    have h := h.2 c6
    intro x8 e7
    have h := h x8 e7
    refine ⟨?_, ?_⟩
    · intro c9
      have h := h.1 c9
      exact kg_X7_reckon_38 h K
    · intro c10
      have h := h.2 c10
      intro x12 e11
      have h := h x12 e11
      refine ⟨?_, ?_⟩
      · intro c13
        have h := h.1 c13
        exact kg_X7_reckon_68 h K
      · intro c14
        have h := h.2 c14
        exact kg_X7_reckon_38 h K
set_option maxRecDepth 20000 in
set_option maxHeartbeats 1000000 in
theorem kg_X7_reckon_0 {Q : HS → Prop} {v0 : Nat} {v1 : Nat} {v2 : Nat} {v3 : Int32} {v4 : Int32} {v5 : Int32} {v6 : Int32} {S0 S : HS} (h : P_X7_reckon_0 Q v0 v1 v2 v3 v4 v5 v6 S) (K : K5 S0 S) : P_X7_reckon_0 (fun T => Q T ∧ K5 S0 T) v0 v1 v2 v3 v4 v5 v6 S := by
  delta P_X7_reckon_0 at h ⊢
  obtain ⟨c1, h⟩ := h
  refine ⟨c1, ?_⟩
  have n2 := k5_ne K c1
  obtain ⟨b3, e4, h⟩ := h
  refine ⟨b3, e4, ?_⟩
  obtain ⟨c5, h⟩ := h
  refine ⟨c5, ?_⟩
  have n6 := k5_ne K c5
  refine ⟨?_, ?_⟩
  · intro c7
    have h := h.1 c7
    exact kg_X7_reckon_12 h K
  · intro c8
    have h := h.2 c8
    refine cm_X7_makeRows (kg_X7_makeRows h) h (fun x9 hp h g10 => ?_)
    have h := h g10
    have K := k5_tr K hp.2
    exact kg_X7_reckon_12 h K
theorem kg_X7_reckon {Q : HS → Prop} {v0 : Nat} {v1 : Nat} {v2 : Nat} {v3 : Int32} {v4 : Int32} {v5 : Int32} {v6 : Int32} {S : HS} (h : P_X7_reckon v0 v1 v2 v3 v4 v5 v6 Q S) : P_X7_reckon v0 v1 v2 v3 v4 v5 v6 (fun T => Q T ∧ K5 S T) S := kg_X7_reckon_0 h (k5_rf S)
set_option maxRecDepth 20000 in
set_option maxHeartbeats 1000000 in
theorem kg_X7_trace_143 {Q : Int32 → HS → Prop} {X9 X9_2 : Nat → Nat → Int32 → Int32 → Int32 → HS → Prop} {v0 : Nat} {v1 : Nat} {v4 : Int32} {v5 : Int32} {v6 : Int32} {S0 S : HS} (h : P_X7_trace_143 Q X9 v0 v1 v4 v5 v6 S) (K : K5 S0 S) (hX9 : ∀ (u0 : Nat) (u1 : Nat) (u2 : Int32) (u3 : Int32) (u4 : Int32) (u5 : HS), X9 u0 u1 u2 u3 u4 u5 → K5 S0 u5 → X9_2 u0 u1 u2 u3 u4 u5) : P_X7_trace_143 (fun r T => Q r T ∧ K5 S0 T) X9_2 v0 v1 v4 v5 v6 S := by
  delta P_X7_trace_143 at h ⊢
  intro x2 e1
  have h := h x2 e1
  exact hX9 _ _ _ _ _ _ h K
set_option maxRecDepth 20000 in
set_option maxHeartbeats 1000000 in
theorem kg_X7_trace_56 {Q : Int32 → HS → Prop} {X9 X9_2 : Nat → Nat → Int32 → Int32 → Int32 → HS → Prop} {v0 : Nat} {v1 : Nat} {v4 : Int32} {v5 : Int32} {v6 : Int32} {s0 : Int32} {S0 S : HS} (h : P_X7_trace_56 Q X9 v0 v1 v4 v5 v6 s0 S) (K : K5 S0 S) (hX9 : ∀ (u0 : Nat) (u1 : Nat) (u2 : Int32) (u3 : Int32) (u4 : Int32) (u5 : HS), X9 u0 u1 u2 u3 u4 u5 → K5 S0 u5 → X9_2 u0 u1 u2 u3 u4 u5) : P_X7_trace_56 (fun r T => Q r T ∧ K5 S0 T) X9_2 v0 v1 v4 v5 v6 s0 S := by
  delta P_X7_trace_56 at h ⊢
  refine ⟨?_, ?_⟩
  · intro c1
    have h := h.1 c1
    obtain ⟨c2, h⟩ := h
    refine ⟨c2, ?_⟩
    have n3 := k5_ne K c2
    obtain ⟨b4, e5, h⟩ := h
    refine ⟨b4, e5, ?_⟩
    obtain ⟨c6, h⟩ := h
    refine ⟨c6, ?_⟩
    have n7 := k5_ne K c6
    obtain ⟨c8, h⟩ := h
    refine ⟨c8, ?_⟩
    intro x10 e9
    have h := h x10 e9
    have K := k5_A K e9 n7 (by decide)
    refine ⟨?_, ?_⟩
    · intro c11
      have h := h.1 c11
      intro x13 e12
      have h := h x13 e12
      obtain ⟨c14, h⟩ := h
      refine ⟨c14, ?_⟩
      have n15 := k5_ne K c14
      refine cm_X8_hasRoad (kg_X8_hasRoad h) h (fun x16 x17 hp h g18 g19 => ?_)
      have h := h g18 g19
      have K := k5_tr K hp.2
      refine ⟨?_, ?_⟩
      · intro c20
        have h := h.1 c20
        exact kg_X7_trace_143 h K hX9
      · intro c21
        have h := h.2 c21
        obtain ⟨b22, e23, h⟩ := h
        refine ⟨b22, e23, ?_⟩
        intro x25 e24
        have h := h x25 e24
        obtain ⟨c26, h⟩ := h
        refine ⟨c26, ?_⟩
        have n27 := k5_ne K c26
        obtain ⟨c28, h⟩ := h
        refine ⟨c28, ?_⟩
        obtain ⟨b29, e30, h⟩ := h
        refine ⟨b29, e30, ?_⟩
        intro x32 e31
        have h := h x32 e31
        intro x34 e33
        have h := h x34 e33
        obtain ⟨c35, h⟩ := h
        refine ⟨c35, ?_⟩
        have n36 := k5_ne K c35
        refine cm_X5_endOf (kg_X5_endOf h) h (fun x37 x38 hp h g39 => ?_)
        have h := h g39
        have K := k5_tr K hp.2
        intro x41 e40
        have h := h x41 e40
        refine cm_X5_minutesAt (kg_X5_minutesAt h) h (fun x42 x43 hp h g44 => ?_)
        have h := h g44
        have K := k5_tr K hp.2
        intro x46 e45
        have h := h x46 e45
        exact kg_X7_trace_143 h K hX9
    · intro c47
      have h := h.2 c47
      intro x49 e48
      have h := h x49 e48
      exact kg_X7_trace_143 h K hX9
  · intro c50
    have h := h.2 c50
    exact ⟨h, K⟩
set_option maxRecDepth 20000 in
set_option maxHeartbeats 1000000 in
theorem kg_X7_trace_55 {Q : Int32 → HS → Prop} {X9 X9_2 : Nat → Nat → Int32 → Int32 → Int32 → HS → Prop} {v0 : Nat} {v1 : Nat} {v4 : Int32} {v5 : Int32} {v6 : Int32} {S0 S : HS} (h : P_X7_trace_55 Q X9 v0 v1 v4 v5 v6 S) (K : K5 S0 S) (hX9 : ∀ (u0 : Nat) (u1 : Nat) (u2 : Int32) (u3 : Int32) (u4 : Int32) (u5 : HS), X9 u0 u1 u2 u3 u4 u5 → K5 S0 u5 → X9_2 u0 u1 u2 u3 u4 u5) : P_X7_trace_55 (fun r T => Q r T ∧ K5 S0 T) X9_2 v0 v1 v4 v5 v6 S := by
  delta P_X7_trace_55 at h ⊢
  exact kg_X7_trace_56 h K hX9
set_option maxRecDepth 20000 in
set_option maxHeartbeats 1000000 in
theorem kgB_X7_trace_9 {Q : Int32 → HS → Prop} {X9 X9_2 : Nat → Nat → Int32 → Int32 → Int32 → HS → Prop} {v0 : Nat} {v1 : Nat} {v4 : Int32} {v5 : Int32} {v6 : Int32} {S0 S : HS} (h : B_X7_trace_9 Q X9 v0 v1 v4 v5 v6 S) (K : K5 S0 S) (hX9 : ∀ (u0 : Nat) (u1 : Nat) (u2 : Int32) (u3 : Int32) (u4 : Int32) (u5 : HS), X9 u0 u1 u2 u3 u4 u5 → K5 S0 u5 → X9_2 u0 u1 u2 u3 u4 u5) : B_X7_trace_9 (fun r T => Q r T ∧ K5 S0 T) X9_2 v0 v1 v4 v5 v6 S := by
  delta B_X7_trace_9 at h ⊢
  obtain ⟨c1, h⟩ := h
  refine ⟨c1, ?_⟩
  have n2 := k5_ne K c1
  obtain ⟨b3, e4, h⟩ := h
  refine ⟨b3, e4, ?_⟩
  obtain ⟨c5, h⟩ := h
  refine ⟨c5, ?_⟩
  have n6 := k5_ne K c5
  refine ⟨?_, ?_⟩
  · intro c7
    have h := h.1 c7
    obtain ⟨b8, e9, h⟩ := h
    refine ⟨b8, e9, ?_⟩
    obtain ⟨c10, h⟩ := h
    refine ⟨c10, ?_⟩
    have n11 := k5_ne K c10
    exact ⟨h, K⟩
  · intro c12
    have h := h.2 c12
    intro x14 e13
    have h := h x14 e13
    refine ⟨?_, ?_⟩
    · intro c15
      have h := h.1 c15
      exact kg_X7_trace_55 h K hX9
    · intro c16
      have h := h.2 c16
      obtain ⟨b17, e18, h⟩ := h
      refine ⟨b17, e18, ?_⟩
      obtain ⟨c19, h⟩ := h
      refine ⟨c19, ?_⟩
      have n20 := k5_ne K c19
      refine ⟨?_, ?_⟩
      · intro c21
        have h := h.1 c21
        exact kg_X7_trace_55 h K hX9
      · intro c22
        have h := h.2 c22
        obtain ⟨b23, e24, h⟩ := h
        refine ⟨b23, e24, ?_⟩
        obtain ⟨c25, h⟩ := h
        refine ⟨c25, ?_⟩
        have n26 := k5_ne K c25
        obtain ⟨c27, h⟩ := h
        refine ⟨c27, ?_⟩
        intro x29 e28
        have h := h x29 e28
        exact kg_X7_trace_56 h K hX9
theorem kg_X7_trace_9 {Q : Int32 → HS → Prop} {v0 : Nat} {v1 : Nat} {v4 : Int32} {v5 : Int32} {v6 : Int32} {S0 S : HS} (h : P_X7_trace_9 Q v0 v1 v4 v5 v6 S) (K : K5 S0 S) : P_X7_trace_9 (fun r T => Q r T ∧ K5 S0 T) v0 v1 v4 v5 v6 S := h (fun v0 v1 v4 v5 v6 S => K5 S0 S → P_X7_trace_9 (fun r T => Q r T ∧ K5 S0 T) v0 v1 v4 v5 v6 S) (fun v0 v1 v4 v5 v6 S hB K => fd_X7_trace_9 (kgB_X7_trace_9 hB K (fun _ _ _ _ _ _ hx K => hx K))) K
set_option maxRecDepth 20000 in
set_option maxHeartbeats 1000000 in
theorem kg_X7_trace_0 {Q : Int32 → HS → Prop} {v0 : Nat} {v1 : Nat} {v2 : Int32} {v3 : Int32} {S0 S : HS} (h : P_X7_trace_0 Q v0 v1 v2 v3 S) (K : K5 S0 S) : P_X7_trace_0 (fun r T => Q r T ∧ K5 S0 T) v0 v1 v2 v3 S := by
  delta P_X7_trace_0 at h ⊢
  exact kg_X7_trace_9 h K
theorem kg_X7_trace {Q : Int32 → HS → Prop} {v0 : Nat} {v1 : Nat} {v2 : Int32} {v3 : Int32} {S : HS} (h : P_X7_trace v0 v1 v2 v3 Q S) : P_X7_trace v0 v1 v2 v3 (fun r T => Q r T ∧ K5 S T) S := kg_X7_trace_0 h (k5_rf S)
set_option maxRecDepth 20000 in
set_option maxHeartbeats 1000000 in
theorem kg_X9_isWay_0 {Q : Int32 → HS → Prop} {v0 : Int32} {S0 S : HS} (h : P_X9_isWay_0 Q v0 S) (K : K5 S0 S) : P_X9_isWay_0 (fun r T => Q r T ∧ K5 S0 T) v0 S := by
  delta P_X9_isWay_0 at h ⊢
  refine ⟨?_, ?_⟩
  · intro c1
    have h := h.1 c1
    exact ⟨h, K⟩
  · intro c2
    have h := h.2 c2
    refine ⟨?_, ?_⟩
    · intro c3
      have h := h.1 c3
      exact ⟨h, K⟩
    · intro c4
      have h := h.2 c4
      exact ⟨h, K⟩
theorem kg_X9_isWay {Q : Int32 → HS → Prop} {v0 : Int32} {S : HS} (h : P_X9_isWay v0 Q S) : P_X9_isWay v0 (fun r T => Q r T ∧ K5 S T) S := kg_X9_isWay_0 h (k5_rf S)
set_option maxRecDepth 20000 in
set_option maxHeartbeats 1000000 in
theorem kg_X9_tripTrouble_46 {Q : Int32 → HS → Prop} {s0 : Int32} {S0 S : HS} (h : P_X9_tripTrouble_46 Q s0 S) (K : K5 S0 S) : P_X9_tripTrouble_46 (fun r T => Q r T ∧ K5 S0 T) s0 S := by
  delta P_X9_tripTrouble_46 at h ⊢
  refine ⟨?_, ?_⟩
  · intro c1
    have h := h.1 c1
    exact ⟨h, K⟩
  · intro c2
    have h := h.2 c2
    exact ⟨h, K⟩
set_option maxRecDepth 20000 in
set_option maxHeartbeats 1000000 in
theorem kg_X9_tripTrouble_45 {Q : Int32 → HS → Prop} {S0 S : HS} (h : P_X9_tripTrouble_45 Q S) (K : K5 S0 S) : P_X9_tripTrouble_45 (fun r T => Q r T ∧ K5 S0 T) S := by
  delta P_X9_tripTrouble_45 at h ⊢
  exact kg_X9_tripTrouble_46 h K
set_option maxRecDepth 20000 in
set_option maxHeartbeats 1000000 in
theorem kg_X9_tripTrouble_0 {Q : Int32 → HS → Prop} {v0 : Nat} {v1 : Int32} {v2 : Int32} {v3 : Int32} {v4 : Int32} {S0 S : HS} (h : P_X9_tripTrouble_0 Q v0 v1 v2 v3 v4 S) (K : K5 S0 S) : P_X9_tripTrouble_0 (fun r T => Q r T ∧ K5 S0 T) v0 v1 v2 v3 v4 S := by
  delta P_X9_tripTrouble_0 at h ⊢
  obtain ⟨c1, h⟩ := h
  refine ⟨c1, ?_⟩
  have n2 := k5_ne K c1
  obtain ⟨b3, e4, h⟩ := h
  refine ⟨b3, e4, ?_⟩
  obtain ⟨c5, h⟩ := h
  refine ⟨c5, ?_⟩
  have n6 := k5_ne K c5
  refine cm_X8_hasWalker (kg_X8_hasWalker h) h (fun x7 x8 hp h g9 g10 => ?_)
  have h := h g9 g10
  have K := k5_tr K hp.2
  refine ⟨?_, ?_⟩
  · intro c11
    have h := h.1 c11
    exact kg_X9_tripTrouble_45 h K
  · intro c12
    have h := h.2 c12
    obtain ⟨b13, e14, h⟩ := h
    refine ⟨b13, e14, ?_⟩
    obtain ⟨c15, h⟩ := h
    refine ⟨c15, ?_⟩
    have n16 := k5_ne K c15
    refine cm_X8_hasRoad (kg_X8_hasRoad h) h (fun x17 x18 hp h g19 g20 => ?_)
    have h := h g19 g20
    have K := k5_tr K hp.2
    refine ⟨?_, ?_⟩
    · intro c21
      have h := h.1 c21
      exact kg_X9_tripTrouble_45 h K
    · intro c22
      have h := h.2 c22
      refine cm_X9_isWay (kg_X9_isWay h) h (fun x23 x24 hp h g25 g26 => ?_)
      have h := h g25 g26
      have K := k5_tr K hp.2
      refine ⟨?_, ?_⟩
      · intro c27
        have h := h.1 c27
        exact kg_X9_tripTrouble_45 h K
      · intro c28
        have h := h.2 c28
        obtain ⟨b29, e30, h⟩ := h
        refine ⟨b29, e30, ?_⟩
        obtain ⟨c31, h⟩ := h
        refine ⟨c31, ?_⟩
        have n32 := k5_ne K c31
        refine cm_X8_hasHour (kg_X8_hasHour h) h (fun x33 x34 hp h g35 g36 => ?_)
        have h := h g35 g36
        have K := k5_tr K hp.2
        refine ⟨?_, ?_⟩
        · intro c37
          have h := h.1 c37
          exact kg_X9_tripTrouble_45 h K
        · intro c38
          have h := h.2 c38
          exact kg_X9_tripTrouble_46 h K
theorem kg_X9_tripTrouble {Q : Int32 → HS → Prop} {v0 : Nat} {v1 : Int32} {v2 : Int32} {v3 : Int32} {v4 : Int32} {S : HS} (h : P_X9_tripTrouble v0 v1 v2 v3 v4 Q S) : P_X9_tripTrouble v0 v1 v2 v3 v4 (fun r T => Q r T ∧ K5 S T) S := kg_X9_tripTrouble_0 h (k5_rf S)
set_option maxRecDepth 20000 in
set_option maxHeartbeats 1000000 in
theorem kg_X9_coatParts_0 {Q : Int64 → HS → Prop} {v0 : Nat} {S0 S : HS} (h : P_X9_coatParts_0 Q v0 S) (K : K5 S0 S) : P_X9_coatParts_0 (fun r T => Q r T ∧ K5 S0 T) v0 S := by
  delta P_X9_coatParts_0 at h ⊢
  obtain ⟨c1, h⟩ := h
  refine ⟨c1, ?_⟩
  have n2 := k5_ne K c1
  intro x4 e3
  have h := h x4 e3
  refine ⟨?_, ?_⟩
  · intro c5
    have h := h.1 c5
    exact ⟨h, K⟩
  · intro c6
    have h := h.2 c6
    intro x8 e7
    have h := h x8 e7
    exact ⟨h, K⟩
theorem kg_X9_coatParts {Q : Int64 → HS → Prop} {v0 : Nat} {S : HS} (h : P_X9_coatParts v0 Q S) : P_X9_coatParts v0 (fun r T => Q r T ∧ K5 S T) S := kg_X9_coatParts_0 h (k5_rf S)
set_option maxRecDepth 20000 in
set_option maxHeartbeats 1000000 in
theorem kgB_X9_commonDivisor_9 {Q : Int64 → HS → Prop} {X9 X9_2 : Int64 → Int64 → Int32 → HS → Prop} {v4 : Int64} {v6 : Int64} {v8 : Int32} {S0 S : HS} (h : B_X9_commonDivisor_9 Q X9 v4 v6 v8 S) (K : K5 S0 S) (hX9 : ∀ (u0 : Int64) (u1 : Int64) (u2 : Int32) (u3 : HS), X9 u0 u1 u2 u3 → K5 S0 u3 → X9_2 u0 u1 u2 u3) : B_X9_commonDivisor_9 (fun r T => Q r T ∧ K5 S0 T) X9_2 v4 v6 v8 S := by
  delta B_X9_commonDivisor_9 at h ⊢
  refine ⟨?_, ?_⟩
  · intro c1
    have h := h.1 c1
    exact ⟨h, K⟩
  · intro c2
    have h := h.2 c2
    refine ⟨?_, ?_⟩
    · intro c3
      have h := h.1 c3
      exact ⟨h, K⟩
    · intro c4
      have h := h.2 c4
      obtain ⟨c5, h⟩ := h
      refine ⟨c5, ?_⟩
      intro x7 e6
      have h := h x7 e6
      intro x9 e8
      have h := h x9 e8
      exact hX9 _ _ _ _ h K
theorem kg_X9_commonDivisor_9 {Q : Int64 → HS → Prop} {v4 : Int64} {v6 : Int64} {v8 : Int32} {S0 S : HS} (h : P_X9_commonDivisor_9 Q v4 v6 v8 S) (K : K5 S0 S) : P_X9_commonDivisor_9 (fun r T => Q r T ∧ K5 S0 T) v4 v6 v8 S := h (fun v4 v6 v8 S => K5 S0 S → P_X9_commonDivisor_9 (fun r T => Q r T ∧ K5 S0 T) v4 v6 v8 S) (fun v4 v6 v8 S hB K => fd_X9_commonDivisor_9 (kgB_X9_commonDivisor_9 hB K (fun _ _ _ _ hx K => hx K))) K
set_option maxRecDepth 20000 in
set_option maxHeartbeats 1000000 in
theorem kg_X9_commonDivisor_0 {Q : Int64 → HS → Prop} {v0 : Int64} {v2 : Int64} {S0 S : HS} (h : P_X9_commonDivisor_0 Q v0 v2 S) (K : K5 S0 S) : P_X9_commonDivisor_0 (fun r T => Q r T ∧ K5 S0 T) v0 v2 S := by
  delta P_X9_commonDivisor_0 at h ⊢
  exact kg_X9_commonDivisor_9 h K
theorem kg_X9_commonDivisor {Q : Int64 → HS → Prop} {v0 : Int64} {v2 : Int64} {S : HS} (h : P_X9_commonDivisor v0 v2 Q S) : P_X9_commonDivisor v0 v2 (fun r T => Q r T ∧ K5 S T) S := kg_X9_commonDivisor_0 h (k5_rf S)
set_option maxRecDepth 20000 in
set_option maxHeartbeats 1000000 in
theorem kg_X9_fraction_0 {Q : Int64 → HS → Prop} {v0 : Int64} {v2 : Int64} {v4 : Int32} {S0 S : HS} (h : P_X9_fraction_0 Q v0 v2 v4 S) (K : K5 S0 S) : P_X9_fraction_0 (fun r T => Q r T ∧ K5 S0 T) v0 v2 v4 S := by
  delta P_X9_fraction_0 at h ⊢
  refine cm_X9_commonDivisor (kg_X9_commonDivisor h) h (fun x1 x2 hp h g3 => ?_)
  have h := h g3
  have K := k5_tr K hp.2
  refine ⟨?_, ?_⟩
  · intro c4
    have h := h.1 c4
    refine ⟨?_, ?_⟩
    · intro c5
      have h := h.1 c5
      obtain ⟨c6, h⟩ := h
      refine ⟨c6, ?_⟩
      intro x8 e7
      have h := h x8 e7
      exact ⟨h, K⟩
    · intro c9
      have h := h.2 c9
      obtain ⟨c10, h⟩ := h
      refine ⟨c10, ?_⟩
      intro x12 e11
      have h := h x12 e11
      exact ⟨h, K⟩
  · intro c13
    have h := h.2 c13
    refine ⟨?_, ?_⟩
    · intro c14
      have h := h.1 c14
      exact ⟨h, K⟩
    · intro c15
      have h := h.2 c15
      exact ⟨h, K⟩
theorem kg_X9_fraction {Q : Int64 → HS → Prop} {v0 : Int64} {v2 : Int64} {v4 : Int32} {S : HS} (h : P_X9_fraction v0 v2 v4 Q S) : P_X9_fraction v0 v2 v4 (fun r T => Q r T ∧ K5 S T) S := kg_X9_fraction_0 h (k5_rf S)
set_option maxRecDepth 20000 in
set_option maxHeartbeats 1000000 in
theorem kg_X9_isFace_0 {Q : Int32 → HS → Prop} {v0 : Int32} {S0 S : HS} (h : P_X9_isFace_0 Q v0 S) (K : K5 S0 S) : P_X9_isFace_0 (fun r T => Q r T ∧ K5 S0 T) v0 S := by
  delta P_X9_isFace_0 at h ⊢
  refine ⟨?_, ?_⟩
  · intro c1
    have h := h.1 c1
    exact ⟨h, K⟩
  · intro c2
    have h := h.2 c2
    refine ⟨?_, ?_⟩
    · intro c3
      have h := h.1 c3
      exact ⟨h, K⟩
    · intro c4
      have h := h.2 c4
      exact ⟨h, K⟩
theorem kg_X9_isFace {Q : Int32 → HS → Prop} {v0 : Int32} {S : HS} (h : P_X9_isFace v0 Q S) : P_X9_isFace v0 (fun r T => Q r T ∧ K5 S T) S := kg_X9_isFace_0 h (k5_rf S)
set_option maxRecDepth 20000 in
set_option maxHeartbeats 1000000 in
theorem kg_X9_legTrouble_0 {Q : Int32 → HS → Prop} {v0 : Nat} {v1 : Int32} {v2 : Int32} {v3 : Int32} {v4 : Int32} {v5 : Int32} {S0 S : HS} (h : P_X9_legTrouble_0 Q v0 v1 v2 v3 v4 v5 S) (K : K5 S0 S) : P_X9_legTrouble_0 (fun r T => Q r T ∧ K5 S0 T) v0 v1 v2 v3 v4 v5 S := by
  delta P_X9_legTrouble_0 at h ⊢
  obtain ⟨c1, h⟩ := h
  refine ⟨c1, ?_⟩
  have n2 := k5_ne K c1
  refine cm_X9_tripTrouble (kg_X9_tripTrouble h) h (fun x3 x4 hp h g5 => ?_)
  have h := h g5
  have K := k5_tr K hp.2
  refine ⟨?_, ?_⟩
  · intro c6
    have h := h.1 c6
    obtain ⟨b7, e8, h⟩ := h
    refine ⟨b7, e8, ?_⟩
    obtain ⟨c9, h⟩ := h
    refine ⟨c9, ?_⟩
    have n10 := k5_ne K c9
    obtain ⟨b11, e12, h⟩ := h
    refine ⟨b11, e12, ?_⟩
    obtain ⟨c13, h⟩ := h
    refine ⟨c13, ?_⟩
    have n14 := k5_ne K c13
    obtain ⟨c15, h⟩ := h
    refine ⟨c15, ?_⟩
    obtain ⟨b16, e17, h⟩ := h
    refine ⟨b16, e17, ?_⟩
    obtain ⟨c18, h⟩ := h
    refine ⟨c18, ?_⟩
    have n19 := k5_ne K c18
    refine cm_X6_canGo (kg_X6_canGo h) h (fun x20 x21 hp h g22 g23 => ?_)
    have h := h g22 g23
    have K := k5_tr K hp.2
    refine ⟨?_, ?_⟩
    · intro c24
      have h := h.1 c24
      exact ⟨h, K⟩
    · intro c25
      have h := h.2 c25
      exact ⟨h, K⟩
  · intro c26
    have h := h.2 c26
    exact ⟨h, K⟩
theorem kg_X9_legTrouble {Q : Int32 → HS → Prop} {v0 : Nat} {v1 : Int32} {v2 : Int32} {v3 : Int32} {v4 : Int32} {v5 : Int32} {S : HS} (h : P_X9_legTrouble v0 v1 v2 v3 v4 v5 Q S) : P_X9_legTrouble v0 v1 v2 v3 v4 v5 (fun r T => Q r T ∧ K5 S T) S := kg_X9_legTrouble_0 h (k5_rf S)
set_option maxRecDepth 20000 in
set_option maxHeartbeats 1000000 in
theorem kg_X9_fault_0 {Q : Int32 → HS → Prop} {v0 : Nat} {S0 S : HS} (h : P_X9_fault_0 Q v0 S) (K : K5 S0 S) : P_X9_fault_0 (fun r T => Q r T ∧ K5 S0 T) v0 S := by
  delta P_X9_fault_0 at h ⊢
  obtain ⟨c1, h⟩ := h
  refine ⟨c1, ?_⟩
  have n2 := k5_ne K c1
  intro x4 e3
  have h := h x4 e3
  exact ⟨h, K⟩
theorem kg_X9_fault {Q : Int32 → HS → Prop} {v0 : Nat} {S : HS} (h : P_X9_fault v0 Q S) : P_X9_fault v0 (fun r T => Q r T ∧ K5 S T) S := kg_X9_fault_0 h (k5_rf S)
set_option maxRecDepth 20000 in
set_option maxHeartbeats 1000000 in
theorem kg_X9_putBytes_49 {Q : HS → Prop} {X3 X3_2 : Nat → Int32 → Int32 → HS → Prop} {v0 : Nat} {v1 : Int32} {v2 : Int32} {S0 S : HS} (h : P_X9_putBytes_49 Q X3 v0 v1 v2 S) (K : K5 S0 S) (hX3 : ∀ (u0 : Nat) (u1 : Int32) (u2 : Int32) (u3 : HS), X3 u0 u1 u2 u3 → K5 S0 u3 → X3_2 u0 u1 u2 u3) : P_X9_putBytes_49 (fun T => Q T ∧ K5 S0 T) X3_2 v0 v1 v2 S := by
  delta P_X9_putBytes_49 at h ⊢
  intro x2 e1
  have h := h x2 e1
  exact hX3 _ _ _ _ h K
set_option maxRecDepth 20000 in
set_option maxHeartbeats 1000000 in
theorem kgB_X9_putBytes_3 {Q : HS → Prop} {X3 X3_2 : Nat → Int32 → Int32 → HS → Prop} {v0 : Nat} {v1 : Int32} {v2 : Int32} {S0 S : HS} (h : B_X9_putBytes_3 Q X3 v0 v1 v2 S) (K : K5 S0 S) (hX3 : ∀ (u0 : Nat) (u1 : Int32) (u2 : Int32) (u3 : HS), X3 u0 u1 u2 u3 → K5 S0 u3 → X3_2 u0 u1 u2 u3) : B_X9_putBytes_3 (fun T => Q T ∧ K5 S0 T) X3_2 v0 v1 v2 S := by
  delta B_X9_putBytes_3 at h ⊢
  refine ⟨?_, ?_⟩
  · intro c1
    have h := h.1 c1
    exact ⟨h, K⟩
  · intro c2
    have h := h.2 c2
    obtain ⟨c3, h⟩ := h
    refine ⟨c3, ?_⟩
    have n4 := k5_ne K c3
    intro x6 e5
    have h := h x6 e5
    refine ⟨?_, ?_⟩
    · intro c7
      have h := h.1 c7
      exact kg_X9_putBytes_49 h K hX3
    · intro c8
      have h := h.2 c8
      intro x10 e9
      have h := h x10 e9
      obtain ⟨b11, e12, h⟩ := h
      refine ⟨b11, e12, ?_⟩
      obtain ⟨c13, h⟩ := h
      refine ⟨c13, ?_⟩
      have n14 := k5_ne K c13
      refine ⟨?_, ?_⟩
      · intro c15
        have h := h.1 c15
        exact kg_X9_putBytes_49 h K hX3
      · intro c16
        have h := h.2 c16
        obtain ⟨b17, e18, h⟩ := h
        refine ⟨b17, e18, ?_⟩
        intro x20 e19
        have h := h x20 e19
        obtain ⟨c21, h⟩ := h
        refine ⟨c21, ?_⟩
        have n22 := k5_ne K c21
        intro x24 e23
        have h := h x24 e23
        obtain ⟨c25, h⟩ := h
        refine ⟨c25, ?_⟩
        intro x27 e26
        have h := h x27 e26
        have K := k5_A K e26 n22 (by decide)
        intro x29 e28
        have h := h x29 e28
        intro x31 e30
        have h := h x31 e30
        intro x33 e32
        have h := h x33 e32
        have K := k5_I K e32 n4 (by decide)
        exact kg_X9_putBytes_49 h K hX3
theorem kg_X9_putBytes_3 {Q : HS → Prop} {v0 : Nat} {v1 : Int32} {v2 : Int32} {S0 S : HS} (h : P_X9_putBytes_3 Q v0 v1 v2 S) (K : K5 S0 S) : P_X9_putBytes_3 (fun T => Q T ∧ K5 S0 T) v0 v1 v2 S := h (fun v0 v1 v2 S => K5 S0 S → P_X9_putBytes_3 (fun T => Q T ∧ K5 S0 T) v0 v1 v2 S) (fun v0 v1 v2 S hB K => fd_X9_putBytes_3 (kgB_X9_putBytes_3 hB K (fun _ _ _ _ hx K => hx K))) K
set_option maxRecDepth 20000 in
set_option maxHeartbeats 1000000 in
theorem kg_X9_putBytes_0 {Q : HS → Prop} {v0 : Nat} {v1 : Int32} {S0 S : HS} (h : P_X9_putBytes_0 Q v0 v1 S) (K : K5 S0 S) : P_X9_putBytes_0 (fun T => Q T ∧ K5 S0 T) v0 v1 S := by
  delta P_X9_putBytes_0 at h ⊢
  exact kg_X9_putBytes_3 h K
theorem kg_X9_putBytes {Q : HS → Prop} {v0 : Nat} {v1 : Int32} {S : HS} (h : P_X9_putBytes v0 v1 Q S) : P_X9_putBytes v0 v1 (fun T => Q T ∧ K5 S T) S := kg_X9_putBytes_0 h (k5_rf S)
set_option maxRecDepth 20000 in
set_option maxHeartbeats 1000000 in
theorem kg_X9_feed_0 {Q : Int32 → HS → Prop} {v0 : Nat} {v1 : Int32} {v2 : Int32} {v3 : Int32} {v4 : Int32} {v5 : Int32} {S0 S : HS} (h : P_X9_feed_0 Q v0 v1 v2 v3 v4 v5 S) (K : K5 S0 S) : P_X9_feed_0 (fun r T => Q r T ∧ K5 S0 T) v0 v1 v2 v3 v4 v5 S := by
  delta P_X9_feed_0 at h ⊢
  obtain ⟨c1, h⟩ := h
  refine ⟨c1, ?_⟩
  have n2 := k5_ne K c1
  intro x4 e3
  have h := h x4 e3
  refine ⟨?_, ?_⟩
  · intro c5
    have h := h.1 c5
    refine cm_X9_putBytes (kg_X9_putBytes h) h (fun x6 hp h g7 => ?_)
    have h := h g7
    have K := k5_tr K hp.2
    refine cm_X9_putBytes (kg_X9_putBytes h) h (fun x8 hp h g9 => ?_)
    have h := h g9
    have K := k5_tr K hp.2
    refine cm_X9_putBytes (kg_X9_putBytes h) h (fun x10 hp h g11 => ?_)
    have h := h g11
    have K := k5_tr K hp.2
    refine cm_X9_putBytes (kg_X9_putBytes h) h (fun x12 hp h g13 => ?_)
    have h := h g13
    have K := k5_tr K hp.2
    refine cm_X9_putBytes (kg_X9_putBytes h) h (fun x14 hp h g15 => ?_)
    have h := h g15
    have K := k5_tr K hp.2
    intro x17 e16
    have h := h x17 e16
    exact ⟨h, K⟩
  · intro c18
    have h := h.2 c18
    exact ⟨h, K⟩
theorem kg_X9_feed {Q : Int32 → HS → Prop} {v0 : Nat} {v1 : Int32} {v2 : Int32} {v3 : Int32} {v4 : Int32} {v5 : Int32} {S : HS} (h : P_X9_feed v0 v1 v2 v3 v4 v5 Q S) : P_X9_feed v0 v1 v2 v3 v4 v5 (fun r T => Q r T ∧ K5 S T) S := kg_X9_feed_0 h (k5_rf S)
set_option maxRecDepth 20000 in
set_option maxHeartbeats 1000000 in
theorem kg_X9_leeTrouble_0 {Q : Int32 → HS → Prop} {v0 : Nat} {v1 : Int32} {v2 : Int32} {v3 : Int32} {v4 : Int32} {v5 : Int32} {v6 : Int32} {S0 S : HS} (h : P_X9_leeTrouble_0 Q v0 v1 v2 v3 v4 v5 v6 S) (K : K5 S0 S) : P_X9_leeTrouble_0 (fun r T => Q r T ∧ K5 S0 T) v0 v1 v2 v3 v4 v5 v6 S := by
  delta P_X9_leeTrouble_0 at h ⊢
  refine ⟨?_, ?_⟩
  · intro c1
    have h := h.1 c1
    exact ⟨h, K⟩
  · intro c2
    have h := h.2 c2
    obtain ⟨c3, h⟩ := h
    refine ⟨c3, ?_⟩
    have n4 := k5_ne K c3
    obtain ⟨b5, e6, h⟩ := h
    refine ⟨b5, e6, ?_⟩
    obtain ⟨c7, h⟩ := h
    refine ⟨c7, ?_⟩
    have n8 := k5_ne K c7
    refine cm_X8_hasWalker (kg_X8_hasWalker h) h (fun x9 x10 hp h g11 g12 => ?_)
    have h := h g11 g12
    have K := k5_tr K hp.2
    refine ⟨?_, ?_⟩
    · intro c13
      have h := h.1 c13
      exact ⟨h, K⟩
    · intro c14
      have h := h.2 c14
      obtain ⟨b15, e16, h⟩ := h
      refine ⟨b15, e16, ?_⟩
      obtain ⟨c17, h⟩ := h
      refine ⟨c17, ?_⟩
      have n18 := k5_ne K c17
      refine cm_X8_hasWalker (kg_X8_hasWalker h) h (fun x19 x20 hp h g21 g22 => ?_)
      have h := h g21 g22
      have K := k5_tr K hp.2
      refine ⟨?_, ?_⟩
      · intro c23
        have h := h.1 c23
        refine cm_X9_legTrouble (kg_X9_legTrouble h) h (fun x24 x25 hp h g26 => ?_)
        have h := h g26
        have K := k5_tr K hp.2
        refine ⟨?_, ?_⟩
        · intro c27
          have h := h.1 c27
          obtain ⟨b28, e29, h⟩ := h
          refine ⟨b28, e29, ?_⟩
          obtain ⟨c30, h⟩ := h
          refine ⟨c30, ?_⟩
          have n31 := k5_ne K c30
          obtain ⟨b32, e33, h⟩ := h
          refine ⟨b32, e33, ?_⟩
          obtain ⟨c34, h⟩ := h
          refine ⟨c34, ?_⟩
          have n35 := k5_ne K c34
          obtain ⟨c36, h⟩ := h
          refine ⟨c36, ?_⟩
          obtain ⟨b37, e38, h⟩ := h
          refine ⟨b37, e38, ?_⟩
          obtain ⟨c39, h⟩ := h
          refine ⟨c39, ?_⟩
          have n40 := k5_ne K c39
          refine cm_X6_canGo (kg_X6_canGo h) h (fun x41 x42 hp h g43 g44 => ?_)
          have h := h g43 g44
          have K := k5_tr K hp.2
          refine ⟨?_, ?_⟩
          · intro c45
            have h := h.1 c45
            exact ⟨h, K⟩
          · intro c46
            have h := h.2 c46
            exact ⟨h, K⟩
        · intro c47
          have h := h.2 c47
          exact ⟨h, K⟩
      · intro c48
        have h := h.2 c48
        exact ⟨h, K⟩
theorem kg_X9_leeTrouble {Q : Int32 → HS → Prop} {v0 : Nat} {v1 : Int32} {v2 : Int32} {v3 : Int32} {v4 : Int32} {v5 : Int32} {v6 : Int32} {S : HS} (h : P_X9_leeTrouble v0 v1 v2 v3 v4 v5 v6 Q S) : P_X9_leeTrouble v0 v1 v2 v3 v4 v5 v6 (fun r T => Q r T ∧ K5 S T) S := kg_X9_leeTrouble_0 h (k5_rf S)
set_option maxRecDepth 20000 in
set_option maxHeartbeats 1000000 in
theorem kg_X9_init_0 {Q : HS → Prop} {v0 : Nat} {S0 S : HS} (h : P_X9_init_0 Q v0 S) (K : K5 S0 S) : P_X9_init_0 (fun T => Q T ∧ K5 S0 T) v0 S := by
  delta P_X9_init_0 at h ⊢
  intro x2 e1
  have h := h x2 e1
  intro x4 e3
  have h := h x4 e3
  have K := k5_W K e1 e3
  obtain ⟨c5, h⟩ := h
  refine ⟨c5, ?_⟩
  have n6 := k5_ne K c5
  intro x8 e7
  have h := h x8 e7
  have K := k5_R K e7
  intro x10 e9
  have h := h x10 e9
  intro x12 e11
  have h := h x12 e11
  have K := k5_W K e9 e11
  refine cm_X8_init (kg_X8_init h) h (fun x13 hp h g14 => ?_)
  have h := h g14
  have K := k5_tr K hp.2
  intro x16 e15
  have h := h x16 e15
  have K := k5_R K e15
  intro x18 e17
  have h := h x18 e17
  intro x20 e19
  have h := h x20 e19
  have K := k5_W K e17 e19
  refine cm_X4_init (kg_X4_init h) h (fun x21 hp h g22 => ?_)
  have h := h g22
  have K := k5_tr K hp.2
  intro x24 e23
  have h := h x24 e23
  have K := k5_R K e23
  intro x26 e25
  have h := h x26 e25
  intro x28 e27
  have h := h x28 e27
  have K := k5_W K e25 e27
  refine cm_X1_init (kg_X1_init h) h (fun x29 hp h g30 => ?_)
  have h := h g30
  have K := k5_tr K hp.2
  intro x32 e31
  have h := h x32 e31
  have K := k5_R K e31
  intro x34 e33
  have h := h x34 e33
  intro x36 e35
  have h := h x36 e35
  have K := k5_W K e33 e35
  refine cm_X7_init (kg_X7_init h) h (fun x37 hp h g38 => ?_)
  have h := h g38
  have K := k5_tr K hp.2
  intro x40 e39
  have h := h x40 e39
  have K := k5_R K e39
  intro x42 e41
  have h := h x42 e41
  intro x44 e43
  have h := h x44 e43
  have K := k5_W K e41 e43
  refine cm_X0_init (kg_X0_init h) h (fun x45 hp h g46 => ?_)
  have h := h g46
  have K := k5_tr K hp.2
  intro x48 e47
  have h := h x48 e47
  have K := k5_R K e47
  exact ⟨h, K⟩
theorem kg_X9_init {Q : HS → Prop} {v0 : Nat} {S : HS} (h : P_X9_init v0 Q S) : P_X9_init v0 (fun T => Q T ∧ K5 S T) S := kg_X9_init_0 h (k5_rf S)
set_option maxRecDepth 20000 in
set_option maxHeartbeats 1000000 in
theorem kg_X9_isTill_0 {Q : Int32 → HS → Prop} {v0 : Int32} {S0 S : HS} (h : P_X9_isTill_0 Q v0 S) (K : K5 S0 S) : P_X9_isTill_0 (fun r T => Q r T ∧ K5 S0 T) v0 S := by
  delta P_X9_isTill_0 at h ⊢
  refine ⟨?_, ?_⟩
  · intro c1
    have h := h.1 c1
    exact ⟨h, K⟩
  · intro c2
    have h := h.2 c2
    refine ⟨?_, ?_⟩
    · intro c3
      have h := h.1 c3
      exact ⟨h, K⟩
    · intro c4
      have h := h.2 c4
      exact ⟨h, K⟩
theorem kg_X9_isTill {Q : Int32 → HS → Prop} {v0 : Int32} {S : HS} (h : P_X9_isTill v0 Q S) : P_X9_isTill v0 (fun r T => Q r T ∧ K5 S T) S := kg_X9_isTill_0 h (k5_rf S)
set_option maxRecDepth 20000 in
set_option maxHeartbeats 1000000 in
theorem kg_X9_placesTrouble_38 {Q : Int32 → HS → Prop} {s0 : Int32} {S0 S : HS} (h : P_X9_placesTrouble_38 Q s0 S) (K : K5 S0 S) : P_X9_placesTrouble_38 (fun r T => Q r T ∧ K5 S0 T) s0 S := by
  delta P_X9_placesTrouble_38 at h ⊢
  refine ⟨?_, ?_⟩
  · intro c1
    have h := h.1 c1
    exact ⟨h, K⟩
  · intro c2
    have h := h.2 c2
    exact ⟨h, K⟩
set_option maxRecDepth 20000 in
set_option maxHeartbeats 1000000 in
theorem kg_X9_placesTrouble_37 {Q : Int32 → HS → Prop} {S0 S : HS} (h : P_X9_placesTrouble_37 Q S) (K : K5 S0 S) : P_X9_placesTrouble_37 (fun r T => Q r T ∧ K5 S0 T) S := by
  delta P_X9_placesTrouble_37 at h ⊢
  exact kg_X9_placesTrouble_38 h K
set_option maxRecDepth 20000 in
set_option maxHeartbeats 1000000 in
theorem kg_X9_placesTrouble_0 {Q : Int32 → HS → Prop} {v0 : Nat} {v1 : Int32} {v2 : Int32} {v3 : Int32} {S0 S : HS} (h : P_X9_placesTrouble_0 Q v0 v1 v2 v3 S) (K : K5 S0 S) : P_X9_placesTrouble_0 (fun r T => Q r T ∧ K5 S0 T) v0 v1 v2 v3 S := by
  delta P_X9_placesTrouble_0 at h ⊢
  obtain ⟨c1, h⟩ := h
  refine ⟨c1, ?_⟩
  have n2 := k5_ne K c1
  obtain ⟨b3, e4, h⟩ := h
  refine ⟨b3, e4, ?_⟩
  obtain ⟨c5, h⟩ := h
  refine ⟨c5, ?_⟩
  have n6 := k5_ne K c5
  refine cm_X8_hasWalker (kg_X8_hasWalker h) h (fun x7 x8 hp h g9 g10 => ?_)
  have h := h g9 g10
  have K := k5_tr K hp.2
  refine ⟨?_, ?_⟩
  · intro c11
    have h := h.1 c11
    exact kg_X9_placesTrouble_37 h K
  · intro c12
    have h := h.2 c12
    obtain ⟨b13, e14, h⟩ := h
    refine ⟨b13, e14, ?_⟩
    obtain ⟨c15, h⟩ := h
    refine ⟨c15, ?_⟩
    have n16 := k5_ne K c15
    refine cm_X8_hasPlace (kg_X8_hasPlace h) h (fun x17 x18 hp h g19 g20 => ?_)
    have h := h g19 g20
    have K := k5_tr K hp.2
    refine ⟨?_, ?_⟩
    · intro c21
      have h := h.1 c21
      exact kg_X9_placesTrouble_37 h K
    · intro c22
      have h := h.2 c22
      obtain ⟨b23, e24, h⟩ := h
      refine ⟨b23, e24, ?_⟩
      obtain ⟨c25, h⟩ := h
      refine ⟨c25, ?_⟩
      have n26 := k5_ne K c25
      refine cm_X8_hasPlace (kg_X8_hasPlace h) h (fun x27 x28 hp h g29 g30 => ?_)
      have h := h g29 g30
      have K := k5_tr K hp.2
      refine ⟨?_, ?_⟩
      · intro c31
        have h := h.1 c31
        exact kg_X9_placesTrouble_37 h K
      · intro c32
        have h := h.2 c32
        exact kg_X9_placesTrouble_38 h K
theorem kg_X9_placesTrouble {Q : Int32 → HS → Prop} {v0 : Nat} {v1 : Int32} {v2 : Int32} {v3 : Int32} {S : HS} (h : P_X9_placesTrouble v0 v1 v2 v3 Q S) : P_X9_placesTrouble v0 v1 v2 v3 (fun r T => Q r T ∧ K5 S T) S := kg_X9_placesTrouble_0 h (k5_rf S)
set_option maxRecDepth 20000 in
set_option maxHeartbeats 1000000 in
theorem kg_X9_wayTrouble_0 {Q : Int32 → HS → Prop} {v0 : Nat} {v1 : Int32} {v2 : Int32} {v3 : Int32} {v4 : Int32} {v5 : Int32} {S0 S : HS} (h : P_X9_wayTrouble_0 Q v0 v1 v2 v3 v4 v5 S) (K : K5 S0 S) : P_X9_wayTrouble_0 (fun r T => Q r T ∧ K5 S0 T) v0 v1 v2 v3 v4 v5 S := by
  delta P_X9_wayTrouble_0 at h ⊢
  obtain ⟨c1, h⟩ := h
  refine ⟨c1, ?_⟩
  have n2 := k5_ne K c1
  refine cm_X9_placesTrouble (kg_X9_placesTrouble h) h (fun x3 x4 hp h g5 => ?_)
  have h := h g5
  have K := k5_tr K hp.2
  refine ⟨?_, ?_⟩
  · intro c6
    have h := h.1 c6
    refine cm_X9_isTill (kg_X9_isTill h) h (fun x7 x8 hp h g9 g10 => ?_)
    have h := h g9 g10
    have K := k5_tr K hp.2
    refine ⟨?_, ?_⟩
    · intro c11
      have h := h.1 c11
      exact ⟨h, K⟩
    · intro c12
      have h := h.2 c12
      refine ⟨?_, ?_⟩
      · intro c13
        have h := h.1 c13
        exact ⟨h, K⟩
      · intro c14
        have h := h.2 c14
        refine ⟨?_, ?_⟩
        · intro c15
          have h := h.1 c15
          obtain ⟨b16, e17, h⟩ := h
          refine ⟨b16, e17, ?_⟩
          obtain ⟨b18, e19, h⟩ := h
          refine ⟨b18, e19, ?_⟩
          obtain ⟨b20, e21, h⟩ := h
          refine ⟨b20, e21, ?_⟩
          obtain ⟨c22, h⟩ := h
          refine ⟨c22, ?_⟩
          have n23 := k5_ne K c22
          refine cm_X7_reckon (kg_X7_reckon h) h (fun x24 hp h g25 => ?_)
          have h := h g25
          have K := k5_tr K hp.2
          obtain ⟨b26, e27, h⟩ := h
          refine ⟨b26, e27, ?_⟩
          obtain ⟨c28, h⟩ := h
          refine ⟨c28, ?_⟩
          have n29 := k5_ne K c28
          refine cm_X7_isOpen (kg_X7_isOpen h) h (fun x30 x31 hp h g32 g33 => ?_)
          have h := h g32 g33
          have K := k5_tr K hp.2
          refine ⟨?_, ?_⟩
          · intro c34
            have h := h.1 c34
            exact ⟨h, K⟩
          · intro c35
            have h := h.2 c35
            exact ⟨h, K⟩
        · intro c36
          have h := h.2 c36
          exact ⟨h, K⟩
  · intro c37
    have h := h.2 c37
    exact ⟨h, K⟩
theorem kg_X9_wayTrouble {Q : Int32 → HS → Prop} {v0 : Nat} {v1 : Int32} {v2 : Int32} {v3 : Int32} {v4 : Int32} {v5 : Int32} {S : HS} (h : P_X9_wayTrouble v0 v1 v2 v3 v4 v5 Q S) : P_X9_wayTrouble v0 v1 v2 v3 v4 v5 (fun r T => Q r T ∧ K5 S T) S := kg_X9_wayTrouble_0 h (k5_rf S)
set_option maxRecDepth 20000 in
set_option maxHeartbeats 1000000 in
theorem kg_X9_size_0 {Q : Int32 → HS → Prop} {v0 : Nat} {v1 : Int32} {S0 S : HS} (h : P_X9_size_0 Q v0 v1 S) (K : K5 S0 S) : P_X9_size_0 (fun r T => Q r T ∧ K5 S0 T) v0 v1 S := by
  delta P_X9_size_0 at h ⊢
  refine ⟨?_, ?_, ?_, ?_, ?_, ?_, ?_, ?_, ?_, ?_, ?_, ?_, ?_⟩
  · intro c1
    have h := h.1 c1
    exact ⟨h, K⟩
  · intro c2
    have h := h.2.1 c2
    obtain ⟨c3, h⟩ := h
    refine ⟨c3, ?_⟩
    have n4 := k5_ne K c3
    obtain ⟨b5, e6, h⟩ := h
    refine ⟨b5, e6, ?_⟩
    obtain ⟨c7, h⟩ := h
    refine ⟨c7, ?_⟩
    have n8 := k5_ne K c7
    intro x10 e9
    have h := h x10 e9
    exact ⟨h, K⟩
  · intro c11
    have h := h.2.2.1 c11
    obtain ⟨c12, h⟩ := h
    refine ⟨c12, ?_⟩
    have n13 := k5_ne K c12
    obtain ⟨b14, e15, h⟩ := h
    refine ⟨b14, e15, ?_⟩
    obtain ⟨c16, h⟩ := h
    refine ⟨c16, ?_⟩
    have n17 := k5_ne K c16
    intro x19 e18
    have h := h x19 e18
    exact ⟨h, K⟩
  · intro c20
    have h := h.2.2.2.1 c20
    obtain ⟨c21, h⟩ := h
    refine ⟨c21, ?_⟩
    have n22 := k5_ne K c21
    obtain ⟨b23, e24, h⟩ := h
    refine ⟨b23, e24, ?_⟩
    obtain ⟨c25, h⟩ := h
    refine ⟨c25, ?_⟩
    have n26 := k5_ne K c25
    intro x28 e27
    have h := h x28 e27
    exact ⟨h, K⟩
  · intro c29
    have h := h.2.2.2.2.1 c29
    obtain ⟨c30, h⟩ := h
    refine ⟨c30, ?_⟩
    have n31 := k5_ne K c30
    obtain ⟨b32, e33, h⟩ := h
    refine ⟨b32, e33, ?_⟩
    obtain ⟨c34, h⟩ := h
    refine ⟨c34, ?_⟩
    have n35 := k5_ne K c34
    intro x37 e36
    have h := h x37 e36
    exact ⟨h, K⟩
  · intro c38
    have h := h.2.2.2.2.2.1 c38
    obtain ⟨c39, h⟩ := h
    refine ⟨c39, ?_⟩
    have n40 := k5_ne K c39
    obtain ⟨b41, e42, h⟩ := h
    refine ⟨b41, e42, ?_⟩
    obtain ⟨c43, h⟩ := h
    refine ⟨c43, ?_⟩
    have n44 := k5_ne K c43
    intro x46 e45
    have h := h x46 e45
    exact ⟨h, K⟩
  · intro c47
    have h := h.2.2.2.2.2.2.1 c47
    obtain ⟨c48, h⟩ := h
    refine ⟨c48, ?_⟩
    have n49 := k5_ne K c48
    obtain ⟨b50, e51, h⟩ := h
    refine ⟨b50, e51, ?_⟩
    obtain ⟨c52, h⟩ := h
    refine ⟨c52, ?_⟩
    have n53 := k5_ne K c52
    intro x55 e54
    have h := h x55 e54
    exact ⟨h, K⟩
  · intro c56
    have h := h.2.2.2.2.2.2.2.1 c56
    obtain ⟨c57, h⟩ := h
    refine ⟨c57, ?_⟩
    have n58 := k5_ne K c57
    obtain ⟨b59, e60, h⟩ := h
    refine ⟨b59, e60, ?_⟩
    obtain ⟨c61, h⟩ := h
    refine ⟨c61, ?_⟩
    have n62 := k5_ne K c61
    refine cm_X0_isOn (kg_X0_isOn h) h (fun x63 x64 hp h g65 g66 => ?_)
    have h := h g65 g66
    have K := k5_tr K hp.2
    refine ⟨?_, ?_⟩
    · intro c67
      have h := h.1 c67
      exact ⟨h, K⟩
    · intro c68
      have h := h.2 c68
      obtain ⟨b69, e70, h⟩ := h
      refine ⟨b69, e70, ?_⟩
      obtain ⟨c71, h⟩ := h
      refine ⟨c71, ?_⟩
      have n72 := k5_ne K c71
      intro x74 e73
      have h := h x74 e73
      exact ⟨h, K⟩
  · intro c75
    have h := h.2.2.2.2.2.2.2.2.1 c75
    obtain ⟨c76, h⟩ := h
    refine ⟨c76, ?_⟩
    have n77 := k5_ne K c76
    obtain ⟨b78, e79, h⟩ := h
    refine ⟨b78, e79, ?_⟩
    obtain ⟨c80, h⟩ := h
    refine ⟨c80, ?_⟩
    have n81 := k5_ne K c80
    refine cm_X0_isOn (kg_X0_isOn h) h (fun x82 x83 hp h g84 g85 => ?_)
    have h := h g84 g85
    have K := k5_tr K hp.2
    refine ⟨?_, ?_⟩
    · intro c86
      have h := h.1 c86
      exact ⟨h, K⟩
    · intro c87
      have h := h.2 c87
      obtain ⟨b88, e89, h⟩ := h
      refine ⟨b88, e89, ?_⟩
      obtain ⟨c90, h⟩ := h
      refine ⟨c90, ?_⟩
      have n91 := k5_ne K c90
      obtain ⟨b92, e93, h⟩ := h
      refine ⟨b92, e93, ?_⟩
      obtain ⟨c94, h⟩ := h
      refine ⟨c94, ?_⟩
      have n95 := k5_ne K c94
      intro x97 e96
      have h := h x97 e96
      exact ⟨h, K⟩
  · intro c98
    have h := h.2.2.2.2.2.2.2.2.2.1 c98
    obtain ⟨c99, h⟩ := h
    refine ⟨c99, ?_⟩
    have n100 := k5_ne K c99
    obtain ⟨b101, e102, h⟩ := h
    refine ⟨b101, e102, ?_⟩
    obtain ⟨c103, h⟩ := h
    refine ⟨c103, ?_⟩
    have n104 := k5_ne K c103
    refine cm_X0_isOn (kg_X0_isOn h) h (fun x105 x106 hp h g107 g108 => ?_)
    have h := h g107 g108
    have K := k5_tr K hp.2
    refine ⟨?_, ?_⟩
    · intro c109
      have h := h.1 c109
      exact ⟨h, K⟩
    · intro c110
      have h := h.2 c110
      obtain ⟨b111, e112, h⟩ := h
      refine ⟨b111, e112, ?_⟩
      obtain ⟨c113, h⟩ := h
      refine ⟨c113, ?_⟩
      have n114 := k5_ne K c113
      obtain ⟨b115, e116, h⟩ := h
      refine ⟨b115, e116, ?_⟩
      obtain ⟨c117, h⟩ := h
      refine ⟨c117, ?_⟩
      have n118 := k5_ne K c117
      intro x120 e119
      have h := h x120 e119
      exact ⟨h, K⟩
  · intro c121
    have h := h.2.2.2.2.2.2.2.2.2.2.1 c121
    obtain ⟨c122, h⟩ := h
    refine ⟨c122, ?_⟩
    have n123 := k5_ne K c122
    obtain ⟨b124, e125, h⟩ := h
    refine ⟨b124, e125, ?_⟩
    obtain ⟨c126, h⟩ := h
    refine ⟨c126, ?_⟩
    have n127 := k5_ne K c126
    intro x129 e128
    have h := h x129 e128
    exact ⟨h, K⟩
  · intro c130
    have h := h.2.2.2.2.2.2.2.2.2.2.2.1 c130
    obtain ⟨c131, h⟩ := h
    refine ⟨c131, ?_⟩
    have n132 := k5_ne K c131
    obtain ⟨b133, e134, h⟩ := h
    refine ⟨b133, e134, ?_⟩
    obtain ⟨c135, h⟩ := h
    refine ⟨c135, ?_⟩
    have n136 := k5_ne K c135
    intro x138 e137
    have h := h x138 e137
    exact ⟨h, K⟩
  · intro c139
    have h := h.2.2.2.2.2.2.2.2.2.2.2.2 c139
    obtain ⟨c140, h⟩ := h
    refine ⟨c140, ?_⟩
    have n141 := k5_ne K c140
    intro x143 e142
    have h := h x143 e142
    exact ⟨h, K⟩
theorem kg_X9_size {Q : Int32 → HS → Prop} {v0 : Nat} {v1 : Int32} {S : HS} (h : P_X9_size v0 v1 Q S) : P_X9_size v0 v1 (fun r T => Q r T ∧ K5 S T) S := kg_X9_size_0 h (k5_rf S)
set_option maxRecDepth 20000 in
set_option maxHeartbeats 1000000 in
theorem kg_X9_stayTrouble_0 {Q : Int32 → HS → Prop} {v0 : Nat} {v1 : Int32} {S0 S : HS} (h : P_X9_stayTrouble_0 Q v0 v1 S) (K : K5 S0 S) : P_X9_stayTrouble_0 (fun r T => Q r T ∧ K5 S0 T) v0 v1 S := by
  delta P_X9_stayTrouble_0 at h ⊢
  obtain ⟨c1, h⟩ := h
  refine ⟨c1, ?_⟩
  have n2 := k5_ne K c1
  obtain ⟨b3, e4, h⟩ := h
  refine ⟨b3, e4, ?_⟩
  obtain ⟨c5, h⟩ := h
  refine ⟨c5, ?_⟩
  have n6 := k5_ne K c5
  refine cm_X0_isOn (kg_X0_isOn h) h (fun x7 x8 hp h g9 g10 => ?_)
  have h := h g9 g10
  have K := k5_tr K hp.2
  refine ⟨?_, ?_⟩
  · intro c11
    have h := h.1 c11
    exact ⟨h, K⟩
  · intro c12
    have h := h.2 c12
    obtain ⟨b13, e14, h⟩ := h
    refine ⟨b13, e14, ?_⟩
    obtain ⟨b15, e16, h⟩ := h
    refine ⟨b15, e16, ?_⟩
    obtain ⟨c17, h⟩ := h
    refine ⟨c17, ?_⟩
    have n18 := k5_ne K c17
    intro x20 e19
    have h := h x20 e19
    obtain ⟨c21, h⟩ := h
    refine ⟨c21, ?_⟩
    have n22 := k5_ne K c21
    refine cm_X8_hasWalker (kg_X8_hasWalker h) h (fun x23 x24 hp h g25 g26 => ?_)
    have h := h g25 g26
    have K := k5_tr K hp.2
    refine ⟨?_, ?_⟩
    · intro c27
      have h := h.1 c27
      refine ⟨?_, ?_⟩
      · intro c28
        have h := h.1 c28
        exact ⟨h, K⟩
      · intro c29
        have h := h.2 c29
        refine ⟨?_, ?_⟩
        · intro c30
          have h := h.1 c30
          obtain ⟨b31, e32, h⟩ := h
          refine ⟨b31, e32, ?_⟩
          obtain ⟨b33, e34, h⟩ := h
          refine ⟨b33, e34, ?_⟩
          obtain ⟨c35, h⟩ := h
          refine ⟨c35, ?_⟩
          have n36 := k5_ne K c35
          obtain ⟨b37, e38, h⟩ := h
          refine ⟨b37, e38, ?_⟩
          obtain ⟨c39, h⟩ := h
          refine ⟨c39, ?_⟩
          have n40 := k5_ne K c39
          intro x42 e41
          have h := h x42 e41
          obtain ⟨c43, h⟩ := h
          refine ⟨c43, ?_⟩
          have n44 := k5_ne K c43
          refine cm_X8_canWait (kg_X8_canWait h) h (fun x45 x46 hp h g47 g48 => ?_)
          have h := h g47 g48
          have K := k5_tr K hp.2
          refine ⟨?_, ?_⟩
          · intro c49
            have h := h.1 c49
            obtain ⟨b50, e51, h⟩ := h
            refine ⟨b50, e51, ?_⟩
            obtain ⟨c52, h⟩ := h
            refine ⟨c52, ?_⟩
            have n53 := k5_ne K c52
            obtain ⟨b54, e55, h⟩ := h
            refine ⟨b54, e55, ?_⟩
            obtain ⟨c56, h⟩ := h
            refine ⟨c56, ?_⟩
            have n57 := k5_ne K c56
            intro x59 e58
            have h := h x59 e58
            refine ⟨?_, ?_⟩
            · intro c60
              have h := h.1 c60
              exact ⟨h, K⟩
            · intro c61
              have h := h.2 c61
              exact ⟨h, K⟩
          · intro c62
            have h := h.2 c62
            exact ⟨h, K⟩
        · intro c63
          have h := h.2 c63
          exact ⟨h, K⟩
    · intro c64
      have h := h.2 c64
      exact ⟨h, K⟩
theorem kg_X9_stayTrouble {Q : Int32 → HS → Prop} {v0 : Nat} {v1 : Int32} {S : HS} (h : P_X9_stayTrouble v0 v1 Q S) : P_X9_stayTrouble v0 v1 (fun r T => Q r T ∧ K5 S T) S := kg_X9_stayTrouble_0 h (k5_rf S)
set_option maxRecDepth 20000 in
set_option maxHeartbeats 1000000 in
theorem kg_X9_trouble_0 {Q : Int32 → HS → Prop} {v0 : Nat} {S0 S : HS} (h : P_X9_trouble_0 Q v0 S) (K : K5 S0 S) : P_X9_trouble_0 (fun r T => Q r T ∧ K5 S0 T) v0 S := by
  delta P_X9_trouble_0 at h ⊢
  obtain ⟨c1, h⟩ := h
  refine ⟨c1, ?_⟩
  have n2 := k5_ne K c1
  intro x4 e3
  have h := h x4 e3
  exact ⟨h, K⟩
theorem kg_X9_trouble {Q : Int32 → HS → Prop} {v0 : Nat} {S : HS} (h : P_X9_trouble v0 Q S) : P_X9_trouble v0 (fun r T => Q r T ∧ K5 S T) S := kg_X9_trouble_0 h (k5_rf S)
set_option maxRecDepth 20000 in
set_option maxHeartbeats 1000000 in
theorem kg_X9_where_0 {Q : Int32 → HS → Prop} {v0 : Nat} {S0 S : HS} (h : P_X9_where_0 Q v0 S) (K : K5 S0 S) : P_X9_where_0 (fun r T => Q r T ∧ K5 S0 T) v0 S := by
  delta P_X9_where_0 at h ⊢
  obtain ⟨c1, h⟩ := h
  refine ⟨c1, ?_⟩
  have n2 := k5_ne K c1
  intro x4 e3
  have h := h x4 e3
  refine ⟨?_, ?_⟩
  · intro c5
    have h := h.1 c5
    exact ⟨h, K⟩
  · intro c6
    have h := h.2 c6
    intro x8 e7
    have h := h x8 e7
    exact ⟨h, K⟩
theorem kg_X9_where {Q : Int32 → HS → Prop} {v0 : Nat} {S : HS} (h : P_X9_where v0 Q S) : P_X9_where v0 (fun r T => Q r T ∧ K5 S T) S := kg_X9_where_0 h (k5_rf S)
