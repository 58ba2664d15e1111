section
abbrev kyL_X11_laysWays : List (Nat × Nat) := [(11, 16)]
set_option maxRecDepth 20000 in
set_option maxHeartbeats 1000000 in
theorem ky_X11_laysWays_85 {b : Bool} {L : List (Nat × Nat)} (hU : ∀ q ∈ L, q ∈ nyT) (hL : ∀ q ∈ kyL_X11_laysWays, q ∈ L) (hb : False → b = false) {Q : HS → Prop} {X3 X3_2 : Nat → Int32 → Int32 → Int32 → Int32 → HS → Prop} {X11 X11_2 : Nat → Int32 → Int32 → Int32 → Int32 → Int32 → HS → Prop} {v0 : Nat} {v1 : Int32} {v2 : Int32} {v3 : Int32} {v4 : Int32} {v5 : Int32} {S0 S : HS} (h : P_X11_laysWays_85 Q X3 X11 v0 v1 v2 v3 v4 v5 S) (K : K9 b L S0 S) (hX3 : ∀ (u0 : Nat) (u1 : Int32) (u2 : Int32) (u3 : Int32) (u4 : Int32) (u5 : HS), X3 u0 u1 u2 u3 u4 u5 → K9 b L S0 u5 → X3_2 u0 u1 u2 u3 u4 u5) (hX11 : ∀ (u0 : Nat) (u1 : Int32) (u2 : Int32) (u3 : Int32) (u4 : Int32) (u5 : Int32) (u6 : HS), X11 u0 u1 u2 u3 u4 u5 u6 → K9 b L S0 u6 → X11_2 u0 u1 u2 u3 u4 u5 u6) : P_X11_laysWays_85 (fun T => Q T ∧ K9 b L S0 T) X3_2 X11_2 v0 v1 v2 v3 v4 v5 S := by
  delta P_X11_laysWays_85 at h ⊢
  intro x2 e1
  have h := h x2 e1
  exact hX11 _ _ _ _ _ _ _ h K
set_option maxRecDepth 20000 in
set_option maxHeartbeats 1000000 in
theorem ky_X11_laysWays_51 {b : Bool} {L : List (Nat × Nat)} (hU : ∀ q ∈ L, q ∈ nyT) (hL : ∀ q ∈ kyL_X11_laysWays, q ∈ L) (hb : False → b = false) {Q : HS → Prop} {X3 X3_2 : Nat → Int32 → Int32 → Int32 → Int32 → HS → Prop} {X11 X11_2 : Nat → Int32 → Int32 → Int32 → Int32 → Int32 → HS → Prop} {v0 : Nat} {v1 : Int32} {v2 : Int32} {v3 : Int32} {v4 : Int32} {v5 : Int32} {v6 : Int32} {s0 : Nat} {s1 : Int32} {s2 : Int64} {S0 S : HS} (h : P_X11_laysWays_51 Q X3 X11 v0 v1 v2 v3 v4 v5 v6 s0 s1 s2 S) (K : K9 b L S0 S) (o_s0 : KN9 L S0 s0) (hX3 : ∀ (u0 : Nat) (u1 : Int32) (u2 : Int32) (u3 : Int32) (u4 : Int32) (u5 : HS), X3 u0 u1 u2 u3 u4 u5 → K9 b L S0 u5 → X3_2 u0 u1 u2 u3 u4 u5) (hX11 : ∀ (u0 : Nat) (u1 : Int32) (u2 : Int32) (u3 : Int32) (u4 : Int32) (u5 : Int32) (u6 : HS), X11 u0 u1 u2 u3 u4 u5 u6 → K9 b L S0 u6 → X11_2 u0 u1 u2 u3 u4 u5 u6) : P_X11_laysWays_51 (fun T => Q T ∧ K9 b L S0 T) X3_2 X11_2 v0 v1 v2 v3 v4 v5 v6 s0 s1 s2 S := by
  delta P_X11_laysWays_51 at h ⊢
  obtain ⟨c1, h⟩ := h
  refine ⟨c1, ?_⟩
  obtain ⟨c2, h⟩ := h
  refine ⟨c2, ?_⟩
  intro x4 e3
  have h := h x4 e3
  have K := k9_J K e3 o_s0
  obtain ⟨c5, h⟩ := h
  refine ⟨c5, ?_⟩
  have o6 := c5
  obtain ⟨b7, e8, h⟩ := h
  refine ⟨b7, e8, ?_⟩
  obtain ⟨c9, h⟩ := h
  refine ⟨c9, ?_⟩
  obtain ⟨c10, h⟩ := h
  refine ⟨c10, ?_⟩
  intro x12 e11
  have h := h x12 e11
  have K := k9_I K e11
  have o6 := ob_wI o6 e11
  obtain ⟨b13, e14, h⟩ := h
  refine ⟨b13, e14, ?_⟩
  obtain ⟨c15, h⟩ := h
  refine ⟨c15, ?_⟩
  obtain ⟨c16, h⟩ := h
  refine ⟨c16, ?_⟩
  intro x18 e17
  have h := h x18 e17
  have K := k9_I K e17
  have o6 := ob_wI o6 e17
  refine ⟨?_, ?_⟩
  · intro c19
    have h := h.1 c19
    exact ky_X11_laysWays_85 hU hL hb h K hX3 hX11
  · intro c20
    have h := h.2 c20
    refine cm_X11_tries (ky_X11_tries (b := b) hU (fun q hq => hL q ((by decide : ∀ q ∈ kyL_X11_tries, q ∈ kyL_X11_laysWays) q hq)) (fun z => z.elim) h) h (fun x21 p23 h g22 => ?_)
    have h := h g22
    have K := k9_tr K p23.2
    have o6 := gr_ob p23.2.1 o6
    exact ky_X11_laysWays_85 hU hL hb h K hX3 hX11
set_option maxRecDepth 20000 in
set_option maxHeartbeats 1000000 in
theorem kyB_X11_laysWays_11 {b : Bool} {L : List (Nat × Nat)} (hU : ∀ q ∈ L, q ∈ nyT) (hL : ∀ q ∈ kyL_X11_laysWays, q ∈ L) (hb : False → b = false) {Q : HS → Prop} {X3 X3_2 : Nat → Int32 → Int32 → Int32 → Int32 → HS → Prop} {X11 X11_2 : Nat → Int32 → Int32 → Int32 → Int32 → Int32 → HS → Prop} {v0 : Nat} {v1 : Int32} {v2 : Int32} {v3 : Int32} {v4 : Int32} {v5 : Int32} {S0 S : HS} (h : B_X11_laysWays_11 Q X3 X11 v0 v1 v2 v3 v4 v5 S) (K : K9 b L S0 S) (hX3 : ∀ (u0 : Nat) (u1 : Int32) (u2 : Int32) (u3 : Int32) (u4 : Int32) (u5 : HS), X3 u0 u1 u2 u3 u4 u5 → K9 b L S0 u5 → X3_2 u0 u1 u2 u3 u4 u5) (hX11 : ∀ (u0 : Nat) (u1 : Int32) (u2 : Int32) (u3 : Int32) (u4 : Int32) (u5 : Int32) (u6 : HS), X11 u0 u1 u2 u3 u4 u5 u6 → K9 b L S0 u6 → X11_2 u0 u1 u2 u3 u4 u5 u6) : B_X11_laysWays_11 (fun T => Q T ∧ K9 b L S0 T) X3_2 X11_2 v0 v1 v2 v3 v4 v5 S := by
  delta B_X11_laysWays_11 at h ⊢
  obtain ⟨c1, h⟩ := h
  refine ⟨c1, ?_⟩
  have o2 := c1
  obtain ⟨b3, e4, h⟩ := h
  refine ⟨b3, e4, ?_⟩
  obtain ⟨c5, h⟩ := h
  refine ⟨c5, ?_⟩
  intro x7 e6
  have h := h x7 e6
  refine ⟨?_, ?_⟩
  · intro c8
    have h := h.1 c8
    intro x10 e9
    have h := h x10 e9
    exact hX3 _ _ _ _ _ _ h K
  · intro c11
    have h := h.2 c11
    refine cm_X11_spotOf (ky_X11_spotOf (b := b) hU (fun q hq => hL q ((by decide : ∀ q ∈ kyL_X11_spotOf, q ∈ kyL_X11_laysWays) q hq)) (fun z => z.elim) h) h (fun x12 x13 p15 h g14 => ?_)
    have h := h g14
    have K := k9_tr K p15.2
    have o2 := gr_ob p15.2.1 o2
    obtain ⟨b16, e17, h⟩ := h
    refine ⟨b16, e17, ?_⟩
    have n18 := k9_nr K e17 o2 (hL _ (by decide))
    refine ⟨?_, ?_⟩
    · intro c19
      have h := h.1 c19
      exact ky_X11_laysWays_51 hU hL hb h K n18 hX3 hX11
    · intro c20
      have h := h.2 c20
      exact ky_X11_laysWays_51 hU hL hb h K n18 hX3 hX11
theorem ky_X11_laysWays_11 {b : Bool} {L : List (Nat × Nat)} (hU : ∀ q ∈ L, q ∈ nyT) (hL : ∀ q ∈ kyL_X11_laysWays, q ∈ L) (hb : False → b = false) {Q : HS → Prop} {X3 X3_2 : Nat → Int32 → Int32 → Int32 → Int32 → HS → Prop} {v0 : Nat} {v1 : Int32} {v2 : Int32} {v3 : Int32} {v4 : Int32} {v5 : Int32} {S0 S : HS} (h : P_X11_laysWays_11 Q X3 v0 v1 v2 v3 v4 v5 S) (K : K9 b L S0 S) (hX3 : ∀ (u0 : Nat) (u1 : Int32) (u2 : Int32) (u3 : Int32) (u4 : Int32) (u5 : HS), X3 u0 u1 u2 u3 u4 u5 → K9 b L S0 u5 → X3_2 u0 u1 u2 u3 u4 u5) : P_X11_laysWays_11 (fun T => Q T ∧ K9 b L S0 T) X3_2 v0 v1 v2 v3 v4 v5 S := h (fun v0 v1 v2 v3 v4 v5 S => K9 b L S0 S → P_X11_laysWays_11 (fun T => Q T ∧ K9 b L S0 T) X3_2 v0 v1 v2 v3 v4 v5 S) (fun v0 v1 v2 v3 v4 v5 S hB K => fd_X11_laysWays_11 (kyB_X11_laysWays_11 hU hL hb hB K hX3 (fun _ _ _ _ _ _ _ hx K => hx K))) K
set_option maxRecDepth 20000 in
set_option maxHeartbeats 1000000 in
theorem kyB_X11_laysWays_3 {b : Bool} {L : List (Nat × Nat)} (hU : ∀ q ∈ L, q ∈ nyT) (hL : ∀ q ∈ kyL_X11_laysWays, q ∈ L) (hb : False → b = false) {Q : HS → Prop} {X3 X3_2 : Nat → Int32 → Int32 → Int32 → Int32 → HS → Prop} {v0 : Nat} {v1 : Int32} {v2 : Int32} {v3 : Int32} {v4 : Int32} {S0 S : HS} (h : B_X11_laysWays_3 Q X3 v0 v1 v2 v3 v4 S) (K : K9 b L S0 S) (hX3 : ∀ (u0 : Nat) (u1 : Int32) (u2 : Int32) (u3 : Int32) (u4 : Int32) (u5 : HS), X3 u0 u1 u2 u3 u4 u5 → K9 b L S0 u5 → X3_2 u0 u1 u2 u3 u4 u5) : B_X11_laysWays_3 (fun T => Q T ∧ K9 b L S0 T) X3_2 v0 v1 v2 v3 v4 S := by
  delta B_X11_laysWays_3 at h ⊢
  refine ⟨?_, ?_⟩
  · intro c1
    have h := h.1 c1
    exact ⟨h, K⟩
  · intro c2
    have h := h.2 c2
    exact ky_X11_laysWays_11 hU hL hb h K hX3
theorem ky_X11_laysWays_3 {b : Bool} {L : List (Nat × Nat)} (hU : ∀ q ∈ L, q ∈ nyT) (hL : ∀ q ∈ kyL_X11_laysWays, q ∈ L) (hb : False → b = false) {Q : HS → Prop} {v0 : Nat} {v1 : Int32} {v2 : Int32} {v3 : Int32} {v4 : Int32} {S0 S : HS} (h : P_X11_laysWays_3 Q v0 v1 v2 v3 v4 S) (K : K9 b L S0 S) : P_X11_laysWays_3 (fun T => Q T ∧ K9 b L S0 T) v0 v1 v2 v3 v4 S := h (fun v0 v1 v2 v3 v4 S => K9 b L S0 S → P_X11_laysWays_3 (fun T => Q T ∧ K9 b L S0 T) v0 v1 v2 v3 v4 S) (fun v0 v1 v2 v3 v4 S hB K => fd_X11_laysWays_3 (kyB_X11_laysWays_3 hU hL hb hB K (fun _ _ _ _ _ _ hx K => hx K))) K
set_option maxRecDepth 20000 in
set_option maxHeartbeats 1000000 in
theorem ky_X11_laysWays_0 {b : Bool} {L : List (Nat × Nat)} (hU : ∀ q ∈ L, q ∈ nyT) (hL : ∀ q ∈ kyL_X11_laysWays, q ∈ L) (hb : False → b = false) {Q : HS → Prop} {v0 : Nat} {v1 : Int32} {v2 : Int32} {v3 : Int32} {S0 S : HS} (h : P_X11_laysWays_0 Q v0 v1 v2 v3 S) (K : K9 b L S0 S) : P_X11_laysWays_0 (fun T => Q T ∧ K9 b L S0 T) v0 v1 v2 v3 S := by
  delta P_X11_laysWays_0 at h ⊢
  exact ky_X11_laysWays_3 hU hL hb h K
theorem ky_X11_laysWays {b : Bool} {L : List (Nat × Nat)} (hU : ∀ q ∈ L, q ∈ nyT) (hL : ∀ q ∈ kyL_X11_laysWays, q ∈ L) (hb : False → b = false) {Q : HS → Prop} {v0 : Nat} {v1 : Int32} {v2 : Int32} {v3 : Int32} {S : HS} (h : P_X11_laysWays v0 v1 v2 v3 Q S) : P_X11_laysWays v0 v1 v2 v3 (fun T => Q T ∧ K9 b L S T) S := ky_X11_laysWays_0 hU hL hb h (k9_rf b L S)
abbrev kyL_X11_refusesWay : List (Nat × Nat) := [(11, 16)]
set_option maxRecDepth 20000 in
set_option maxHeartbeats 1000000 in
theorem ky_X11_refusesWay_0 {b : Bool} {L : List (Nat × Nat)} (hU : ∀ q ∈ L, q ∈ nyT) (hL : ∀ q ∈ kyL_X11_refusesWay, q ∈ L) (hb : False → b = false) {Q : Int32 → HS → Prop} {v0 : Nat} {v1 : Int32} {v2 : Int32} {v3 : Int32} {v4 : Int32} {v5 : Int32} {S0 S : HS} (h : P_X11_refusesWay_0 Q v0 v1 v2 v3 v4 v5 S) (K : K9 b L S0 S) : P_X11_refusesWay_0 (fun r T => Q r T ∧ K9 b L S0 T) v0 v1 v2 v3 v4 v5 S := by
  delta P_X11_refusesWay_0 at h ⊢
  obtain ⟨c1, h⟩ := h
  refine ⟨c1, ?_⟩
  have o2 := c1
  refine cm_X11_isWalker (ky_X11_isWalker (b := b) hU (fun q hq => hL q ((by decide : ∀ q ∈ kyL_X11_isWalker, q ∈ kyL_X11_refusesWay) q hq)) (fun z => z.elim) h) h (fun x3 x4 p7 h g5 g6 => ?_)
  have h := h g5 g6
  have K := k9_tr K p7.2
  have o2 := gr_ob p7.2.1 o2
  refine ⟨?_, ?_⟩
  · intro c8
    have h := h.1 c8
    exact ⟨h, K⟩
  · intro c9
    have h := h.2 c9
    refine cm_X11_isPlace (ky_X11_isPlace (b := b) hU (fun q hq => hL q ((by decide : ∀ q ∈ kyL_X11_isPlace, q ∈ kyL_X11_refusesWay) q hq)) (fun z => z.elim) h) h (fun x10 x11 p14 h g12 g13 => ?_)
    have h := h g12 g13
    have K := k9_tr K p14.2
    have o2 := gr_ob p14.2.1 o2
    refine ⟨?_, ?_⟩
    · intro c15
      have h := h.1 c15
      exact ⟨h, K⟩
    · intro c16
      have h := h.2 c16
      refine cm_X11_isPlace (ky_X11_isPlace (b := b) hU (fun q hq => hL q ((by decide : ∀ q ∈ kyL_X11_isPlace, q ∈ kyL_X11_refusesWay) q hq)) (fun z => z.elim) h) h (fun x17 x18 p21 h g19 g20 => ?_)
      have h := h g19 g20
      have K := k9_tr K p21.2
      have o2 := gr_ob p21.2.1 o2
      refine ⟨?_, ?_⟩
      · intro c22
        have h := h.1 c22
        refine cm_X11_in (ky_X11_in (b := b) hU (fun q hq => hL q ((by decide : ∀ q ∈ kyL_X11_in, q ∈ kyL_X11_refusesWay) q hq)) (fun z => z.elim) h) h (fun x23 x24 p27 h g25 g26 => ?_)
        have h := h g25 g26
        have K := k9_tr K p27.2
        have o2 := gr_ob p27.2.1 o2
        refine ⟨?_, ?_⟩
        · intro c28
          have h := h.1 c28
          exact ⟨h, K⟩
        · intro c29
          have h := h.2 c29
          refine cm_X11_in (ky_X11_in (b := b) hU (fun q hq => hL q ((by decide : ∀ q ∈ kyL_X11_in, q ∈ kyL_X11_refusesWay) q hq)) (fun z => z.elim) h) h (fun x30 x31 p34 h g32 g33 => ?_)
          have h := h g32 g33
          have K := k9_tr K p34.2
          have o2 := gr_ob p34.2.1 o2
          refine ⟨?_, ?_⟩
          · intro c35
            have h := h.1 c35
            refine cm_X11_laysWays (ky_X11_laysWays (b := b) hU (fun q hq => hL q ((by decide : ∀ q ∈ kyL_X11_laysWays, q ∈ kyL_X11_refusesWay) q hq)) (fun z => z.elim) h) h (fun x36 p38 h g37 => ?_)
            have h := h g37
            have K := k9_tr K p38.2
            have o2 := gr_ob p38.2.1 o2
            obtain ⟨b39, e40, h⟩ := h
            refine ⟨b39, e40, ?_⟩
            refine cm_X11_spotOf (ky_X11_spotOf (b := b) hU (fun q hq => hL q ((by decide : ∀ q ∈ kyL_X11_spotOf, q ∈ kyL_X11_refusesWay) q hq)) (fun z => z.elim) h) h (fun x41 x42 p44 h g43 => ?_)
            have h := h g43
            have K := k9_tr K p44.2
            have o2 := gr_ob p44.2.1 o2
            obtain ⟨c45, h⟩ := h
            refine ⟨c45, ?_⟩
            obtain ⟨c46, h⟩ := h
            refine ⟨c46, ?_⟩
            intro x48 e47
            have h := h x48 e47
            refine ⟨?_, ?_⟩
            · intro c49
              have h := h.1 c49
              exact ⟨h, K⟩
            · intro c50
              have h := h.2 c50
              exact ⟨h, K⟩
          · intro c51
            have h := h.2 c51
            exact ⟨h, K⟩
      · intro c52
        have h := h.2 c52
        exact ⟨h, K⟩
theorem ky_X11_refusesWay {b : Bool} {L : List (Nat × Nat)} (hU : ∀ q ∈ L, q ∈ nyT) (hL : ∀ q ∈ kyL_X11_refusesWay, q ∈ L) (hb : False → b = false) {Q : Int32 → HS → Prop} {v0 : Nat} {v1 : Int32} {v2 : Int32} {v3 : Int32} {v4 : Int32} {v5 : Int32} {S : HS} (h : P_X11_refusesWay v0 v1 v2 v3 v4 v5 Q S) : P_X11_refusesWay v0 v1 v2 v3 v4 v5 (fun r T => Q r T ∧ K9 b L S T) S := ky_X11_refusesWay_0 hU hL hb h (k9_rf b L S)
abbrev kyL_X11_least : List (Nat × Nat) := [(11, 16)]
set_option maxRecDepth 20000 in
set_option maxHeartbeats 1000000 in
theorem ky_X11_least_0 {b : Bool} {L : List (Nat × Nat)} (hU : ∀ q ∈ L, q ∈ nyT) (hL : ∀ q ∈ kyL_X11_least, q ∈ L) (hb : False → b = false) {Q : Int64 → HS → Prop} {v0 : Nat} {v1 : Int32} {v2 : Int32} {v3 : Int32} {v4 : Int32} {v5 : Int32} {v6 : Int32} {S0 S : HS} (h : P_X11_least_0 Q v0 v1 v2 v3 v4 v5 v6 S) (K : K9 b L S0 S) : P_X11_least_0 (fun r T => Q r T ∧ K9 b L S0 T) v0 v1 v2 v3 v4 v5 v6 S := by
  delta P_X11_least_0 at h ⊢
  obtain ⟨c1, h⟩ := h
  refine ⟨c1, ?_⟩
  have o2 := c1
  intro x4 e3
  have h := h x4 e3
  have K := k9_I K e3
  have o2 := ob_wI o2 e3
  refine cm_X11_refusesWay (ky_X11_refusesWay (b := b) hU (fun q hq => hL q ((by decide : ∀ q ∈ kyL_X11_refusesWay, q ∈ kyL_X11_least) q hq)) (fun z => z.elim) h) h (fun x5 x6 p8 h g7 => ?_)
  have h := h g7
  have K := k9_tr K p8.2
  have o2 := gr_ob p8.2.1 o2
  refine ⟨?_, ?_⟩
  · intro c9
    have h := h.1 c9
    obtain ⟨b10, e11, h⟩ := h
    refine ⟨b10, e11, ?_⟩
    refine cm_X11_spotOf (ky_X11_spotOf (b := b) hU (fun q hq => hL q ((by decide : ∀ q ∈ kyL_X11_spotOf, q ∈ kyL_X11_least) q hq)) (fun z => z.elim) h) h (fun x12 x13 p15 h g14 => ?_)
    have h := h g14
    have K := k9_tr K p15.2
    have o2 := gr_ob p15.2.1 o2
    obtain ⟨c16, h⟩ := h
    refine ⟨c16, ?_⟩
    obtain ⟨c17, h⟩ := h
    refine ⟨c17, ?_⟩
    intro x19 e18
    have h := h x19 e18
    refine cm_X11_told (ky_X11_told (b := b) hU (fun q hq => hL q ((by decide : ∀ q ∈ kyL_X11_told, q ∈ kyL_X11_least) q hq)) (fun z => z.elim) h) h (fun x20 x21 p23 h g22 => ?_)
    have h := h g22
    have K := k9_tr K p23.2
    have o2 := gr_ob p23.2.1 o2
    exact ⟨h, K⟩
  · intro c24
    have h := h.2 c24
    refine cm_X11_refused (ky_X11_refused (b := b) hU (fun q hq => hL q ((by decide : ∀ q ∈ kyL_X11_refused, q ∈ kyL_X11_least) q hq)) (fun z => z.elim) h) h (fun x25 x26 p28 h g27 => ?_)
    have h := h g27
    have K := k9_tr K p28.2
    have o2 := gr_ob p28.2.1 o2
    exact ⟨h, K⟩
theorem ky_X11_least {b : Bool} {L : List (Nat × Nat)} (hU : ∀ q ∈ L, q ∈ nyT) (hL : ∀ q ∈ kyL_X11_least, q ∈ L) (hb : False → b = false) {Q : Int64 → HS → Prop} {v0 : Nat} {v1 : Int32} {v2 : Int32} {v3 : Int32} {v4 : Int32} {v5 : Int32} {v6 : Int32} {S : HS} (h : P_X11_least v0 v1 v2 v3 v4 v5 v6 Q S) : P_X11_least v0 v1 v2 v3 v4 v5 v6 (fun r T => Q r T ∧ K9 b L S T) S := ky_X11_least_0 hU hL hb h (k9_rf b L S)
abbrev kyL_X11_led : List (Nat × Nat) := []
set_option maxRecDepth 20000 in
set_option maxHeartbeats 1000000 in
theorem ky_X11_led_80 {b : Bool} {L : List (Nat × Nat)} (hU : ∀ q ∈ L, q ∈ nyT) (hL : ∀ q ∈ kyL_X11_led, q ∈ L) (hb : False → b = false) {Q : Int32 → HS → Prop} {X9 X9_2 : Nat → Int32 → Int32 → Int32 → HS → Prop} {v0 : Nat} {v1 : Int32} {v2 : Int32} {v3 : Int32} {S0 S : HS} (h : P_X11_led_80 Q X9 v0 v1 v2 v3 S) (K : K9 b L S0 S) (hX9 : ∀ (u0 : Nat) (u1 : Int32) (u2 : Int32) (u3 : Int32) (u4 : HS), X9 u0 u1 u2 u3 u4 → K9 b L S0 u4 → X9_2 u0 u1 u2 u3 u4) : P_X11_led_80 (fun r T => Q r T ∧ K9 b L S0 T) X9_2 v0 v1 v2 v3 S := by
  delta P_X11_led_80 at h ⊢
  intro x2 e1
  have h := h x2 e1
  exact hX9 _ _ _ _ _ h K
set_option maxRecDepth 20000 in
set_option maxHeartbeats 1000000 in
theorem ky_X11_led_70 {b : Bool} {L : List (Nat × Nat)} (hU : ∀ q ∈ L, q ∈ nyT) (hL : ∀ q ∈ kyL_X11_led, q ∈ L) (hb : False → b = false) {Q : Int32 → HS → Prop} {X9 X9_2 : Nat → Int32 → Int32 → Int32 → HS → Prop} {v0 : Nat} {v1 : Int32} {v2 : Int32} {v3 : Int32} {S0 S : HS} (h : P_X11_led_70 Q X9 v0 v1 v2 v3 S) (K : K9 b L S0 S) (hX9 : ∀ (u0 : Nat) (u1 : Int32) (u2 : Int32) (u3 : Int32) (u4 : HS), X9 u0 u1 u2 u3 u4 → K9 b L S0 u4 → X9_2 u0 u1 u2 u3 u4) : P_X11_led_70 (fun r T => Q r T ∧ K9 b L S0 T) X9_2 v0 v1 v2 v3 S := by
  delta P_X11_led_70 at h ⊢
  refine ⟨?_, ?_⟩
  · intro c1
    have h := h.1 c1
    intro x3 e2
    have h := h x3 e2
    exact ky_X11_led_80 hU hL hb h K hX9
  · intro c4
    have h := h.2 c4
    exact ⟨h, K⟩
set_option maxRecDepth 20000 in
set_option maxHeartbeats 1000000 in
theorem kyB_X11_led_9 {b : Bool} {L : List (Nat × Nat)} (hU : ∀ q ∈ L, q ∈ nyT) (hL : ∀ q ∈ kyL_X11_led, q ∈ L) (hb : False → b = false) {Q : Int32 → HS → Prop} {X9 X9_2 : Nat → Int32 → Int32 → Int32 → HS → Prop} {v0 : Nat} {v1 : Int32} {v2 : Int32} {v3 : Int32} {S0 S : HS} (h : B_X11_led_9 Q X9 v0 v1 v2 v3 S) (K : K9 b L S0 S) (hX9 : ∀ (u0 : Nat) (u1 : Int32) (u2 : Int32) (u3 : Int32) (u4 : HS), X9 u0 u1 u2 u3 u4 → K9 b L S0 u4 → X9_2 u0 u1 u2 u3 u4) : B_X11_led_9 (fun r T => Q r T ∧ K9 b L S0 T) X9_2 v0 v1 v2 v3 S := by
  delta B_X11_led_9 at h ⊢
  obtain ⟨c1, h⟩ := h
  refine ⟨c1, ?_⟩
  have o2 := c1
  refine cm_X11_isDay (ky_X11_isDay (b := b) hU (fun q hq => hL q ((by decide : ∀ q ∈ kyL_X11_isDay, q ∈ kyL_X11_led) q hq)) (fun z => z.elim) h) h (fun x3 x4 p7 h g5 g6 => ?_)
  have h := h g5 g6
  have K := k9_tr K p7.2
  have o2 := gr_ob p7.2.1 o2
  refine ⟨?_, ?_⟩
  · intro c8
    have h := h.1 c8
    intro x10 e9
    have h := h x10 e9
    have K := k9_I K e9
    have o2 := ob_wI o2 e9
    exact ⟨h, K⟩
  · intro c11
    have h := h.2 c11
    obtain ⟨b12, e13, h⟩ := h
    refine ⟨b12, e13, ?_⟩
    obtain ⟨c14, h⟩ := h
    refine ⟨c14, ?_⟩
    intro x16 e15
    have h := h x16 e15
    refine ⟨?_, ?_⟩
    · intro c17
      have h := h.1 c17
      intro x19 e18
      have h := h x19 e18
      have K := k9_I K e18
      have o2 := ob_wI o2 e18
      exact ⟨h, K⟩
    · intro c20
      have h := h.2 c20
      obtain ⟨b21, e22, h⟩ := h
      refine ⟨b21, e22, ?_⟩
      obtain ⟨c23, h⟩ := h
      refine ⟨c23, ?_⟩
      have o24 := c23
      obtain ⟨b25, e26, h⟩ := h
      refine ⟨b25, e26, ?_⟩
      obtain ⟨c27, h⟩ := h
      refine ⟨c27, ?_⟩
      obtain ⟨c28, h⟩ := h
      refine ⟨c28, ?_⟩
      intro x30 e29
      have h := h x30 e29
      obtain ⟨b31, e32, h⟩ := h
      refine ⟨b31, e32, ?_⟩
      obtain ⟨c33, h⟩ := h
      refine ⟨c33, ?_⟩
      obtain ⟨c34, h⟩ := h
      refine ⟨c34, ?_⟩
      intro x36 e35
      have h := h x36 e35
      refine ⟨?_, ?_⟩
      · intro c37
        have h := h.1 c37
        exact ky_X11_led_70 hU hL hb h K hX9
      · intro c38
        have h := h.2 c38
        obtain ⟨b39, e40, h⟩ := h
        refine ⟨b39, e40, ?_⟩
        obtain ⟨c41, h⟩ := h
        refine ⟨c41, ?_⟩
        have o42 := c41
        obtain ⟨b43, e44, h⟩ := h
        refine ⟨b43, e44, ?_⟩
        obtain ⟨c45, h⟩ := h
        refine ⟨c45, ?_⟩
        obtain ⟨c46, h⟩ := h
        refine ⟨c46, ?_⟩
        intro x48 e47
        have h := h x48 e47
        obtain ⟨b49, e50, h⟩ := h
        refine ⟨b49, e50, ?_⟩
        obtain ⟨c51, h⟩ := h
        refine ⟨c51, ?_⟩
        obtain ⟨c52, h⟩ := h
        refine ⟨c52, ?_⟩
        intro x54 e53
        have h := h x54 e53
        refine ⟨?_, ?_⟩
        · intro c55
          have h := h.1 c55
          exact ky_X11_led_70 hU hL hb h K hX9
        · intro c56
          have h := h.2 c56
          exact ky_X11_led_80 hU hL hb h K hX9
theorem ky_X11_led_9 {b : Bool} {L : List (Nat × Nat)} (hU : ∀ q ∈ L, q ∈ nyT) (hL : ∀ q ∈ kyL_X11_led, q ∈ L) (hb : False → b = false) {Q : Int32 → HS → Prop} {v0 : Nat} {v1 : Int32} {v2 : Int32} {v3 : Int32} {S0 S : HS} (h : P_X11_led_9 Q v0 v1 v2 v3 S) (K : K9 b L S0 S) : P_X11_led_9 (fun r T => Q r T ∧ K9 b L S0 T) v0 v1 v2 v3 S := h (fun v0 v1 v2 v3 S => K9 b L S0 S → P_X11_led_9 (fun r T => Q r T ∧ K9 b L S0 T) v0 v1 v2 v3 S) (fun v0 v1 v2 v3 S hB K => fd_X11_led_9 (kyB_X11_led_9 hU hL hb hB K (fun _ _ _ _ _ hx K => hx K))) K
set_option maxRecDepth 20000 in
set_option maxHeartbeats 1000000 in
theorem ky_X11_led_0 {b : Bool} {L : List (Nat × Nat)} (hU : ∀ q ∈ L, q ∈ nyT) (hL : ∀ q ∈ kyL_X11_led, q ∈ L) (hb : False → b = false) {Q : Int32 → HS → Prop} {v0 : Nat} {v1 : Int32} {S0 S : HS} (h : P_X11_led_0 Q v0 v1 S) (K : K9 b L S0 S) : P_X11_led_0 (fun r T => Q r T ∧ K9 b L S0 T) v0 v1 S := by
  delta P_X11_led_0 at h ⊢
  obtain ⟨c1, h⟩ := h
  refine ⟨c1, ?_⟩
  intro x3 e2
  have h := h x3 e2
  have K := k9_I K e2
  exact ky_X11_led_9 hU hL hb h K
theorem ky_X11_led {b : Bool} {L : List (Nat × Nat)} (hU : ∀ q ∈ L, q ∈ nyT) (hL : ∀ q ∈ kyL_X11_led, q ∈ L) (hb : False → b = false) {Q : Int32 → HS → Prop} {v0 : Nat} {v1 : Int32} {S : HS} (h : P_X11_led v0 v1 Q S) : P_X11_led v0 v1 (fun r T => Q r T ∧ K9 b L S T) S := ky_X11_led_0 hU hL hb h (k9_rf b L S)
abbrev kyL_X11_lee : List (Nat × Nat) := []
set_option maxRecDepth 20000 in
set_option maxHeartbeats 1000000 in
theorem ky_X11_lee_0 {b : Bool} {L : List (Nat × Nat)} (hU : ∀ q ∈ L, q ∈ nyT) (hL : ∀ q ∈ kyL_X11_lee, q ∈ L) (hb : False → b = false) {Q : Int64 → HS → Prop} {v0 : Nat} {v1 : Int32} {v2 : Int32} {v3 : Int32} {v4 : Int32} {v5 : Int32} {v6 : Int32} {v7 : Int32} {S0 S : HS} (h : P_X11_lee_0 Q v0 v1 v2 v3 v4 v5 v6 v7 S) (K : K9 b L S0 S) : P_X11_lee_0 (fun r T => Q r T ∧ K9 b L S0 T) v0 v1 v2 v3 v4 v5 v6 v7 S := by
  delta P_X11_lee_0 at h ⊢
  obtain ⟨c1, h⟩ := h
  refine ⟨c1, ?_⟩
  intro x3 e2
  have h := h x3 e2
  have K := k9_I K e2
  refine cm_X11_refusesTwo (ky_X11_refusesTwo (b := b) hU (fun q hq => hL q ((by decide : ∀ q ∈ kyL_X11_refusesTwo, q ∈ kyL_X11_lee) q hq)) (fun z => z.elim) h) h (fun x4 x5 p7 h g6 => ?_)
  have h := h g6
  have K := k9_tr K p7.2
  refine ⟨?_, ?_⟩
  · intro c8
    have h := h.1 c8
    refine cm_X11_together (ky_X11_together (b := b) hU (fun q hq => hL q ((by decide : ∀ q ∈ kyL_X11_together, q ∈ kyL_X11_lee) q hq)) (fun z => z.elim) h) h (fun x9 x10 p12 h g11 => ?_)
    have h := h g11
    have K := k9_tr K p12.2
    refine cm_X11_told (ky_X11_told (b := b) hU (fun q hq => hL q ((by decide : ∀ q ∈ kyL_X11_told, q ∈ kyL_X11_lee) q hq)) (fun z => z.elim) h) h (fun x13 x14 p16 h g15 => ?_)
    have h := h g15
    have K := k9_tr K p16.2
    exact ⟨h, K⟩
  · intro c17
    have h := h.2 c17
    refine cm_X11_refused (ky_X11_refused (b := b) hU (fun q hq => hL q ((by decide : ∀ q ∈ kyL_X11_refused, q ∈ kyL_X11_lee) q hq)) (fun z => z.elim) h) h (fun x18 x19 p21 h g20 => ?_)
    have h := h g20
    have K := k9_tr K p21.2
    exact ⟨h, K⟩
theorem ky_X11_lee {b : Bool} {L : List (Nat × Nat)} (hU : ∀ q ∈ L, q ∈ nyT) (hL : ∀ q ∈ kyL_X11_lee, q ∈ L) (hb : False → b = false) {Q : Int64 → HS → Prop} {v0 : Nat} {v1 : Int32} {v2 : Int32} {v3 : Int32} {v4 : Int32} {v5 : Int32} {v6 : Int32} {v7 : Int32} {S : HS} (h : P_X11_lee v0 v1 v2 v3 v4 v5 v6 v7 Q S) : P_X11_lee v0 v1 v2 v3 v4 v5 v6 v7 (fun r T => Q r T ∧ K9 b L S T) S := ky_X11_lee_0 hU hL hb h (k9_rf b L S)
abbrev kyL_X11_lies : List (Nat × Nat) := []
set_option maxRecDepth 20000 in
set_option maxHeartbeats 1000000 in
theorem ky_X11_lies_50 {b : Bool} {L : List (Nat × Nat)} (hU : ∀ q ∈ L, q ∈ nyT) (hL : ∀ q ∈ kyL_X11_lies, q ∈ L) (hb : False → b = false) {Q : Int32 → HS → Prop} {X22 X22_2 : Nat → Int32 → Int32 → HS → Prop} {v0 : Nat} {v2 : Int32} {s0 : Int32} {s1 : Int32} {S0 S : HS} (h : P_X11_lies_50 Q X22 v0 v2 s0 s1 S) (K : K9 b L S0 S) (hX22 : ∀ (u0 : Nat) (u1 : Int32) (u2 : Int32) (u3 : HS), X22 u0 u1 u2 u3 → K9 b L S0 u3 → X22_2 u0 u1 u2 u3) : P_X11_lies_50 (fun r T => Q r T ∧ K9 b L S0 T) X22_2 v0 v2 s0 s1 S := by
  delta P_X11_lies_50 at h ⊢
  intro x2 e1
  have h := h x2 e1
  intro x4 e3
  have h := h x4 e3
  exact hX22 _ _ _ _ h K
set_option maxRecDepth 20000 in
set_option maxHeartbeats 1000000 in
theorem kyB_X11_lies_22 {b : Bool} {L : List (Nat × Nat)} (hU : ∀ q ∈ L, q ∈ nyT) (hL : ∀ q ∈ kyL_X11_lies, q ∈ L) (hb : False → b = false) {Q : Int32 → HS → Prop} {X22 X22_2 : Nat → Int32 → Int32 → HS → Prop} {v0 : Nat} {v1 : Int32} {v2 : Int32} {S0 S : HS} (h : B_X11_lies_22 Q X22 v0 v1 v2 S) (K : K9 b L S0 S) (hX22 : ∀ (u0 : Nat) (u1 : Int32) (u2 : Int32) (u3 : HS), X22 u0 u1 u2 u3 → K9 b L S0 u3 → X22_2 u0 u1 u2 u3) : B_X11_lies_22 (fun r T => Q r T ∧ K9 b L S0 T) X22_2 v0 v1 v2 S := by
  delta B_X11_lies_22 at h ⊢
  obtain ⟨c1, h⟩ := h
  refine ⟨c1, ?_⟩
  have o2 := c1
  obtain ⟨b3, e4, h⟩ := h
  refine ⟨b3, e4, ?_⟩
  obtain ⟨c5, h⟩ := h
  refine ⟨c5, ?_⟩
  intro x7 e6
  have h := h x7 e6
  refine ⟨?_, ?_⟩
  · intro c8
    have h := h.1 c8
    refine cm_X11_good (ky_X11_good (b := b) hU (fun q hq => hL q ((by decide : ∀ q ∈ kyL_X11_good, q ∈ kyL_X11_lies) q hq)) (fun z => z.elim) h) h (fun x9 x10 p12 h g11 => ?_)
    have h := h g11
    have K := k9_tr K p12.2
    have o2 := gr_ob p12.2.1 o2
    exact ⟨h, K⟩
  · intro c13
    have h := h.2 c13
    refine cm_X11_fitOf (ky_X11_fitOf (b := b) hU (fun q hq => hL q ((by decide : ∀ q ∈ kyL_X11_fitOf, q ∈ kyL_X11_lies) q hq)) (fun z => z.elim) h) h (fun x14 x15 p17 h g16 => ?_)
    have h := h g16
    have K := k9_tr K p17.2
    have o2 := gr_ob p17.2.1 o2
    refine ⟨?_, ?_⟩
    · intro c18
      have h := h.1 c18
      exact ky_X11_lies_50 hU hL hb h K hX22
    · intro c19
      have h := h.2 c19
      exact ky_X11_lies_50 hU hL hb h K hX22
theorem ky_X11_lies_22 {b : Bool} {L : List (Nat × Nat)} (hU : ∀ q ∈ L, q ∈ nyT) (hL : ∀ q ∈ kyL_X11_lies, q ∈ L) (hb : False → b = false) {Q : Int32 → HS → Prop} {v0 : Nat} {v1 : Int32} {v2 : Int32} {S0 S : HS} (h : P_X11_lies_22 Q v0 v1 v2 S) (K : K9 b L S0 S) : P_X11_lies_22 (fun r T => Q r T ∧ K9 b L S0 T) v0 v1 v2 S := h (fun v0 v1 v2 S => K9 b L S0 S → P_X11_lies_22 (fun r T => Q r T ∧ K9 b L S0 T) v0 v1 v2 S) (fun v0 v1 v2 S hB K => fd_X11_lies_22 (kyB_X11_lies_22 hU hL hb hB K (fun _ _ _ _ hx K => hx K))) K
set_option maxRecDepth 20000 in
set_option maxHeartbeats 1000000 in
theorem ky_X11_lies_0 {b : Bool} {L : List (Nat × Nat)} (hU : ∀ q ∈ L, q ∈ nyT) (hL : ∀ q ∈ kyL_X11_lies, q ∈ L) (hb : False → b = false) {Q : Int32 → HS → Prop} {v0 : Nat} {S0 S : HS} (h : P_X11_lies_0 Q v0 S) (K : K9 b L S0 S) : P_X11_lies_0 (fun r T => Q r T ∧ K9 b L S0 T) v0 S := by
  delta P_X11_lies_0 at h ⊢
  obtain ⟨c1, h⟩ := h
  refine ⟨c1, ?_⟩
  have o2 := c1
  intro x4 e3
  have h := h x4 e3
  have K := k9_I K e3
  have o2 := ob_wI o2 e3
  refine ⟨?_, ?_⟩
  · intro c5
    have h := h.1 c5
    refine cm_X11_refused (ky_X11_refused (b := b) hU (fun q hq => hL q ((by decide : ∀ q ∈ kyL_X11_refused, q ∈ kyL_X11_lies) q hq)) (fun z => z.elim) h) h (fun x6 x7 p9 h g8 => ?_)
    have h := h g8
    have K := k9_tr K p9.2
    have o2 := gr_ob p9.2.1 o2
    exact ⟨h, K⟩
  · intro x10 c11
    have h := h.2 x10 c11
    exact ky_X11_lies_22 hU hL hb h K
theorem ky_X11_lies {b : Bool} {L : List (Nat × Nat)} (hU : ∀ q ∈ L, q ∈ nyT) (hL : ∀ q ∈ kyL_X11_lies, q ∈ L) (hb : False → b = false) {Q : Int32 → HS → Prop} {v0 : Nat} {S : HS} (h : P_X11_lies v0 Q S) : P_X11_lies v0 (fun r T => Q r T ∧ K9 b L S T) S := ky_X11_lies_0 hU hL hb h (k9_rf b L S)
abbrev kyL_X11_mark : List (Nat × Nat) := [(11, 23)]
set_option maxRecDepth 20000 in
set_option maxHeartbeats 1000000 in
theorem kyB_X11_mark_34 {b : Bool} {L : List (Nat × Nat)} (hU : ∀ q ∈ L, q ∈ nyT) (hL : ∀ q ∈ kyL_X11_mark, q ∈ L) (hb : False → b = false) {Q : Int32 → HS → Prop} {X34 X34_2 : Nat → Int32 → HS → Prop} {v0 : Nat} {v1 : Int32} {S0 S : HS} (h : B_X11_mark_34 Q X34 v0 v1 S) (K : K9 b L S0 S) (hX34 : ∀ (u0 : Nat) (u1 : Int32) (u2 : HS), X34 u0 u1 u2 → K9 b L S0 u2 → X34_2 u0 u1 u2) : B_X11_mark_34 (fun r T => Q r T ∧ K9 b L S0 T) X34_2 v0 v1 S := by
  delta B_X11_mark_34 at h ⊢
  refine ⟨?_, ?_⟩
  · intro c1
    have h := h.1 c1
    obtain ⟨c2, h⟩ := h
    refine ⟨c2, ?_⟩
    have o3 := c2
    intro x5 e4
    have h := h x5 e4
    intro x7 e6
    have h := h x7 e6
    intro x9 e8
    have h := h x9 e8
    have K := k9_I K e8
    have o3 := ob_wI o3 e8
    intro x11 e10
    have h := h x11 e10
    refine cm_X11_good (ky_X11_good (b := b) hU (fun q hq => hL q ((by decide : ∀ q ∈ kyL_X11_good, q ∈ kyL_X11_mark) q hq)) (fun z => z.elim) h) h (fun x12 x13 p15 h g14 => ?_)
    have h := h g14
    have K := k9_tr K p15.2
    have o3 := gr_ob p15.2.1 o3
    exact ⟨h, K⟩
  · intro c16
    have h := h.2 c16
    obtain ⟨c17, h⟩ := h
    refine ⟨c17, ?_⟩
    have o18 := c17
    obtain ⟨b19, e20, h⟩ := h
    refine ⟨b19, e20, ?_⟩
    have n21 := k9_nr K e20 o18 (hL _ (by decide))
    intro x23 e22
    have h := h x23 e22
    obtain ⟨b24, e25, h⟩ := h
    refine ⟨b24, e25, ?_⟩
    obtain ⟨c26, h⟩ := h
    refine ⟨c26, ?_⟩
    obtain ⟨c27, h⟩ := h
    refine ⟨c27, ?_⟩
    intro x29 e28
    have h := h x29 e28
    obtain ⟨c30, h⟩ := h
    refine ⟨c30, ?_⟩
    obtain ⟨c31, h⟩ := h
    refine ⟨c31, ?_⟩
    intro x33 e32
    have h := h x33 e32
    have K := k9_J K e32 n21
    have o18 := ob_wJ o18 e32
    intro x35 e34
    have h := h x35 e34
    exact hX34 _ _ _ h K
theorem ky_X11_mark_34 {b : Bool} {L : List (Nat × Nat)} (hU : ∀ q ∈ L, q ∈ nyT) (hL : ∀ q ∈ kyL_X11_mark, q ∈ L) (hb : False → b = false) {Q : Int32 → HS → Prop} {v0 : Nat} {v1 : Int32} {S0 S : HS} (h : P_X11_mark_34 Q v0 v1 S) (K : K9 b L S0 S) : P_X11_mark_34 (fun r T => Q r T ∧ K9 b L S0 T) v0 v1 S := h (fun v0 v1 S => K9 b L S0 S → P_X11_mark_34 (fun r T => Q r T ∧ K9 b L S0 T) v0 v1 S) (fun v0 v1 S hB K => fd_X11_mark_34 (kyB_X11_mark_34 hU hL hb hB K (fun _ _ _ hx K => hx K))) K
set_option maxRecDepth 20000 in
set_option maxHeartbeats 1000000 in
theorem ky_X11_mark_0 {b : Bool} {L : List (Nat × Nat)} (hU : ∀ q ∈ L, q ∈ nyT) (hL : ∀ q ∈ kyL_X11_mark, q ∈ L) (hb : False → b = false) {Q : Int32 → HS → Prop} {v0 : Nat} {S0 S : HS} (h : P_X11_mark_0 Q v0 S) (K : K9 b L S0 S) : P_X11_mark_0 (fun r T => Q r T ∧ K9 b L S0 T) v0 S := by
  delta P_X11_mark_0 at h ⊢
  obtain ⟨c1, h⟩ := h
  refine ⟨c1, ?_⟩
  intro x3 e2
  have h := h x3 e2
  have K := k9_I K e2
  refine cm_X11_isDay (ky_X11_isDay (b := b) hU (fun q hq => hL q ((by decide : ∀ q ∈ kyL_X11_isDay, q ∈ kyL_X11_mark) q hq)) (fun z => z.elim) h) h (fun x4 x5 p8 h g6 g7 => ?_)
  have h := h g6 g7
  have K := k9_tr K p8.2
  refine ⟨?_, ?_⟩
  · intro c9
    have h := h.1 c9
    intro x11 e10
    have h := h x11 e10
    refine ⟨?_, ?_⟩
    · intro c12
      have h := h.1 c12
      exact ky_X11_mark_34 hU hL hb h K
    · intro c13
      have h := h.2 c13
      refine cm_X11_refused (ky_X11_refused (b := b) hU (fun q hq => hL q ((by decide : ∀ q ∈ kyL_X11_refused, q ∈ kyL_X11_mark) q hq)) (fun z => z.elim) h) h (fun x14 x15 p17 h g16 => ?_)
      have h := h g16
      have K := k9_tr K p17.2
      exact ⟨h, K⟩
  · intro c18
    have h := h.2 c18
    refine cm_X11_refused (ky_X11_refused (b := b) hU (fun q hq => hL q ((by decide : ∀ q ∈ kyL_X11_refused, q ∈ kyL_X11_mark) q hq)) (fun z => z.elim) h) h (fun x19 x20 p22 h g21 => ?_)
    have h := h g21
    have K := k9_tr K p22.2
    exact ⟨h, K⟩
theorem ky_X11_mark {b : Bool} {L : List (Nat × Nat)} (hU : ∀ q ∈ L, q ∈ nyT) (hL : ∀ q ∈ kyL_X11_mark, q ∈ L) (hb : False → b = false) {Q : Int32 → HS → Prop} {v0 : Nat} {S : HS} (h : P_X11_mark v0 Q S) : P_X11_mark v0 (fun r T => Q r T ∧ K9 b L S T) S := ky_X11_mark_0 hU hL hb h (k9_rf b L S)
abbrev kyL_X11_mean : List (Nat × Nat) := []
set_option maxRecDepth 20000 in
set_option maxHeartbeats 1000000 in
theorem ky_X11_mean_0 {b : Bool} {L : List (Nat × Nat)} (hU : ∀ q ∈ L, q ∈ nyT) (hL : ∀ q ∈ kyL_X11_mean, q ∈ L) (hb : False → b = false) {Q : Int64 → HS → Prop} {v0 : Nat} {v1 : Int32} {v2 : Int32} {v3 : Int32} {v4 : Int32} {v5 : Int32} {v6 : Int32} {S0 S : HS} (h : P_X11_mean_0 Q v0 v1 v2 v3 v4 v5 v6 S) (K : K9 b L S0 S) : P_X11_mean_0 (fun r T => Q r T ∧ K9 b L S0 T) v0 v1 v2 v3 v4 v5 v6 S := by
  delta P_X11_mean_0 at h ⊢
  obtain ⟨c1, h⟩ := h
  refine ⟨c1, ?_⟩
  have o2 := c1
  intro x4 e3
  have h := h x4 e3
  have K := k9_I K e3
  have o2 := ob_wI o2 e3
  refine cm_X11_refuses (ky_X11_refuses (b := b) hU (fun q hq => hL q ((by decide : ∀ q ∈ kyL_X11_refuses, q ∈ kyL_X11_mean) q hq)) (fun z => z.elim) h) h (fun x5 x6 p8 h g7 => ?_)
  have h := h g7
  have K := k9_tr K p8.2
  have o2 := gr_ob p8.2.1 o2
  refine ⟨?_, ?_⟩
  · intro c9
    have h := h.1 c9
    refine cm_X11_wetOf (ky_X11_wetOf (b := b) hU (fun q hq => hL q ((by decide : ∀ q ∈ kyL_X11_wetOf, q ∈ kyL_X11_mean) q hq)) (fun z => z.elim) h) h (fun x10 x11 p13 h g12 => ?_)
    have h := h g12
    have K := k9_tr K p13.2
    have o2 := gr_ob p13.2.1 o2
    obtain ⟨b14, e15, h⟩ := h
    refine ⟨b14, e15, ?_⟩
    obtain ⟨c16, h⟩ := h
    refine ⟨c16, ?_⟩
    have o17 := c16
    obtain ⟨b18, e19, h⟩ := h
    refine ⟨b18, e19, ?_⟩
    obtain ⟨c20, h⟩ := h
    refine ⟨c20, ?_⟩
    obtain ⟨c21, h⟩ := h
    refine ⟨c21, ?_⟩
    intro x23 e22
    have h := h x23 e22
    refine cm_X11_told (ky_X11_told (b := b) hU (fun q hq => hL q ((by decide : ∀ q ∈ kyL_X11_told, q ∈ kyL_X11_mean) q hq)) (fun z => z.elim) h) h (fun x24 x25 p27 h g26 => ?_)
    have h := h g26
    have K := k9_tr K p27.2
    have o2 := gr_ob p27.2.1 o2
    have o17 := gr_ob p27.2.1 o17
    exact ⟨h, K⟩
  · intro c28
    have h := h.2 c28
    refine cm_X11_refused (ky_X11_refused (b := b) hU (fun q hq => hL q ((by decide : ∀ q ∈ kyL_X11_refused, q ∈ kyL_X11_mean) q hq)) (fun z => z.elim) h) h (fun x29 x30 p32 h g31 => ?_)
    have h := h g31
    have K := k9_tr K p32.2
    have o2 := gr_ob p32.2.1 o2
    exact ⟨h, K⟩
theorem ky_X11_mean {b : Bool} {L : List (Nat × Nat)} (hU : ∀ q ∈ L, q ∈ nyT) (hL : ∀ q ∈ kyL_X11_mean, q ∈ L) (hb : False → b = false) {Q : Int64 → HS → Prop} {v0 : Nat} {v1 : Int32} {v2 : Int32} {v3 : Int32} {v4 : Int32} {v5 : Int32} {v6 : Int32} {S : HS} (h : P_X11_mean v0 v1 v2 v3 v4 v5 v6 Q S) : P_X11_mean v0 v1 v2 v3 v4 v5 v6 (fun r T => Q r T ∧ K9 b L S T) S := ky_X11_mean_0 hU hL hb h (k9_rf b L S)
abbrev kyL_X11_minutes : List (Nat × Nat) := []
set_option maxRecDepth 20000 in
set_option maxHeartbeats 1000000 in
theorem ky_X11_minutes_21 {b : Bool} {L : List (Nat × Nat)} (hU : ∀ q ∈ L, q ∈ nyT) (hL : ∀ q ∈ kyL_X11_minutes, q ∈ L) (hb : False → b = false) {Q : Int32 → HS → Prop} {v0 : Nat} {S0 S : HS} (h : P_X11_minutes_21 Q v0 S) (K : K9 b L S0 S) : P_X11_minutes_21 (fun r T => Q r T ∧ K9 b L S0 T) v0 S := by
  delta P_X11_minutes_21 at h ⊢
  obtain ⟨c1, h⟩ := h
  refine ⟨c1, ?_⟩
  refine cm_X11_refused (ky_X11_refused (b := b) hU (fun q hq => hL q ((by decide : ∀ q ∈ kyL_X11_refused, q ∈ kyL_X11_minutes) q hq)) (fun z => z.elim) h) h (fun x2 x3 p5 h g4 => ?_)
  have h := h g4
  have K := k9_tr K p5.2
  exact ⟨h, K⟩
set_option maxRecDepth 20000 in
set_option maxHeartbeats 1000000 in
theorem ky_X11_minutes_0 {b : Bool} {L : List (Nat × Nat)} (hU : ∀ q ∈ L, q ∈ nyT) (hL : ∀ q ∈ kyL_X11_minutes, q ∈ L) (hb : False → b = false) {Q : Int32 → HS → Prop} {v0 : Nat} {v1 : Int32} {v2 : Int32} {v3 : Int32} {S0 S : HS} (h : P_X11_minutes_0 Q v0 v1 v2 v3 S) (K : K9 b L S0 S) : P_X11_minutes_0 (fun r T => Q r T ∧ K9 b L S0 T) v0 v1 v2 v3 S := by
  delta P_X11_minutes_0 at h ⊢
  obtain ⟨c1, h⟩ := h
  refine ⟨c1, ?_⟩
  have o2 := c1
  intro x4 e3
  have h := h x4 e3
  have K := k9_I K e3
  have o2 := ob_wI o2 e3
  refine cm_X11_isWalker (ky_X11_isWalker (b := b) hU (fun q hq => hL q ((by decide : ∀ q ∈ kyL_X11_isWalker, q ∈ kyL_X11_minutes) q hq)) (fun z => z.elim) h) h (fun x5 x6 p9 h g7 g8 => ?_)
  have h := h g7 g8
  have K := k9_tr K p9.2
  have o2 := gr_ob p9.2.1 o2
  refine ⟨?_, ?_⟩
  · intro c10
    have h := h.1 c10
    exact ky_X11_minutes_21 hU hL hb h K
  · intro c11
    have h := h.2 c11
    refine cm_X11_isRoad (ky_X11_isRoad (b := b) hU (fun q hq => hL q ((by decide : ∀ q ∈ kyL_X11_isRoad, q ∈ kyL_X11_minutes) q hq)) (fun z => z.elim) h) h (fun x12 x13 p16 h g14 g15 => ?_)
    have h := h g14 g15
    have K := k9_tr K p16.2
    have o2 := gr_ob p16.2.1 o2
    refine ⟨?_, ?_⟩
    · intro c17
      have h := h.1 c17
      refine cm_X11_isSpeed (ky_X11_isSpeed (b := b) hU (fun q hq => hL q ((by decide : ∀ q ∈ kyL_X11_isSpeed, q ∈ kyL_X11_minutes) q hq)) (fun z => z.elim) h) h (fun x18 x19 p22 h g20 g21 => ?_)
      have h := h g20 g21
      have K := k9_tr K p22.2
      have o2 := gr_ob p22.2.1 o2
      refine ⟨?_, ?_⟩
      · intro c23
        have h := h.1 c23
        refine cm_X11_refused (ky_X11_refused (b := b) hU (fun q hq => hL q ((by decide : ∀ q ∈ kyL_X11_refused, q ∈ kyL_X11_minutes) q hq)) (fun z => z.elim) h) h (fun x24 x25 p27 h g26 => ?_)
        have h := h g26
        have K := k9_tr K p27.2
        have o2 := gr_ob p27.2.1 o2
        exact ⟨h, K⟩
      · intro c28
        have h := h.2 c28
        obtain ⟨b29, e30, h⟩ := h
        refine ⟨b29, e30, ?_⟩
        obtain ⟨c31, h⟩ := h
        refine ⟨c31, ?_⟩
        refine cm_X10_minutes (ky_X10_minutes (b := b) hU (fun q hq => hL q ((by decide : ∀ q ∈ kyL_X10_minutes, q ∈ kyL_X11_minutes) q hq)) (fun z => z.elim) h) h (fun x32 x33 p35 h g34 => ?_)
        have h := h g34
        have K := k9_tr K p35.2
        have o2 := gr_ob p35.2.1 o2
        refine cm_X11_good (ky_X11_good (b := b) hU (fun q hq => hL q ((by decide : ∀ q ∈ kyL_X11_good, q ∈ kyL_X11_minutes) q hq)) (fun z => z.elim) h) h (fun x36 x37 p39 h g38 => ?_)
        have h := h g38
        have K := k9_tr K p39.2
        have o2 := gr_ob p39.2.1 o2
        exact ⟨h, K⟩
    · intro c40
      have h := h.2 c40
      exact ky_X11_minutes_21 hU hL hb h K
theorem ky_X11_minutes {b : Bool} {L : List (Nat × Nat)} (hU : ∀ q ∈ L, q ∈ nyT) (hL : ∀ q ∈ kyL_X11_minutes, q ∈ L) (hb : False → b = false) {Q : Int32 → HS → Prop} {v0 : Nat} {v1 : Int32} {v2 : Int32} {v3 : Int32} {S : HS} (h : P_X11_minutes v0 v1 v2 v3 Q S) : P_X11_minutes v0 v1 v2 v3 (fun r T => Q r T ∧ K9 b L S T) S := ky_X11_minutes_0 hU hL hb h (k9_rf b L S)
abbrev kyL_X11_names : List (Nat × Nat) := [(10, 28)]
set_option maxRecDepth 20000 in
set_option maxHeartbeats 1000000 in
theorem ky_X11_names_0 {b : Bool} {L : List (Nat × Nat)} (hU : ∀ q ∈ L, q ∈ nyT) (hL : ∀ q ∈ kyL_X11_names, q ∈ L) (hb : False → b = false) {Q : HS → Prop} {v0 : Nat} {v1 : Int64} {v3 : Int32} {v4 : Int32} {S0 S : HS} (h : P_X11_names_0 Q v0 v1 v3 v4 S) (K : K9 b L S0 S) : P_X11_names_0 (fun T => Q T ∧ K9 b L S0 T) v0 v1 v3 v4 S := by
  delta P_X11_names_0 at h ⊢
  obtain ⟨c1, h⟩ := h
  refine ⟨c1, ?_⟩
  have o2 := c1
  obtain ⟨b3, e4, h⟩ := h
  refine ⟨b3, e4, ?_⟩
  obtain ⟨c5, h⟩ := h
  refine ⟨c5, ?_⟩
  have o6 := c5
  obtain ⟨b7, e8, h⟩ := h
  refine ⟨b7, e8, ?_⟩
  have n9 := k9_nr K e8 o6 (hL _ (by decide))
  obtain ⟨b10, e11, h⟩ := h
  refine ⟨b10, e11, ?_⟩
  obtain ⟨c12, h⟩ := h
  refine ⟨c12, ?_⟩
  intro x14 e13
  have h := h x14 e13
  obtain ⟨c15, h⟩ := h
  refine ⟨c15, ?_⟩
  obtain ⟨c16, h⟩ := h
  refine ⟨c16, ?_⟩
  intro x18 e17
  have h := h x18 e17
  have K := k9_J K e17 n9
  have o2 := ob_wJ o2 e17
  have o6 := ob_wJ o6 e17
  obtain ⟨b19, e20, h⟩ := h
  refine ⟨b19, e20, ?_⟩
  obtain ⟨c21, h⟩ := h
  refine ⟨c21, ?_⟩
  have o22 := c21
  obtain ⟨b23, e24, h⟩ := h
  refine ⟨b23, e24, ?_⟩
  obtain ⟨b25, e26, h⟩ := h
  refine ⟨b25, e26, ?_⟩
  obtain ⟨c27, h⟩ := h
  refine ⟨c27, ?_⟩
  intro x29 e28
  have h := h x29 e28
  obtain ⟨c30, h⟩ := h
  refine ⟨c30, ?_⟩
  obtain ⟨c31, h⟩ := h
  refine ⟨c31, ?_⟩
  intro x33 e32
  have h := h x33 e32
  have K := k9_I K e32
  have o2 := ob_wI o2 e32
  have o6 := ob_wI o6 e32
  have o22 := ob_wI o22 e32
  obtain ⟨b34, e35, h⟩ := h
  refine ⟨b34, e35, ?_⟩
  obtain ⟨c36, h⟩ := h
  refine ⟨c36, ?_⟩
  have o37 := c36
  obtain ⟨b38, e39, h⟩ := h
  refine ⟨b38, e39, ?_⟩
  obtain ⟨b40, e41, h⟩ := h
  refine ⟨b40, e41, ?_⟩
  obtain ⟨c42, h⟩ := h
  refine ⟨c42, ?_⟩
  intro x44 e43
  have h := h x44 e43
  obtain ⟨c45, h⟩ := h
  refine ⟨c45, ?_⟩
  obtain ⟨c46, h⟩ := h
  refine ⟨c46, ?_⟩
  intro x48 e47
  have h := h x48 e47
  have K := k9_I K e47
  have o2 := ob_wI o2 e47
  have o6 := ob_wI o6 e47
  have o22 := ob_wI o22 e47
  have o37 := ob_wI o37 e47
  obtain ⟨b49, e50, h⟩ := h
  refine ⟨b49, e50, ?_⟩
  obtain ⟨c51, h⟩ := h
  refine ⟨c51, ?_⟩
  intro x53 e52
  have h := h x53 e52
  intro x55 e54
  have h := h x55 e54
  intro x57 e56
  have h := h x57 e56
  have K := k9_I K e56
  have o2 := ob_wI o2 e56
  have o6 := ob_wI o6 e56
  have o22 := ob_wI o22 e56
  have o37 := ob_wI o37 e56
  exact ⟨h, K⟩
theorem ky_X11_names {b : Bool} {L : List (Nat × Nat)} (hU : ∀ q ∈ L, q ∈ nyT) (hL : ∀ q ∈ kyL_X11_names, q ∈ L) (hb : False → b = false) {Q : HS → Prop} {v0 : Nat} {v1 : Int64} {v3 : Int32} {v4 : Int32} {S : HS} (h : P_X11_names v0 v1 v3 v4 Q S) : P_X11_names v0 v1 v3 v4 (fun T => Q T ∧ K9 b L S T) S := ky_X11_names_0 hU hL hb h (k9_rf b L S)
abbrev kyL_X11_needs : List (Nat × Nat) := []
set_option maxRecDepth 20000 in
set_option maxHeartbeats 1000000 in
theorem ky_X11_needs_13 {b : Bool} {L : List (Nat × Nat)} (hU : ∀ q ∈ L, q ∈ nyT) (hL : ∀ q ∈ kyL_X11_needs, q ∈ L) (hb : False → b = false) {Q : HS → Prop} {v0 : Nat} {S0 S : HS} (h : P_X11_needs_13 Q v0 S) (K : K9 b L S0 S) : P_X11_needs_13 (fun T => Q T ∧ K9 b L S0 T) v0 S := by
  delta P_X11_needs_13 at h ⊢
  obtain ⟨c1, h⟩ := h
  refine ⟨c1, ?_⟩
  refine cm_X11_goesOn (ky_X11_goesOn (b := b) hU (fun q hq => hL q ((by decide : ∀ q ∈ kyL_X11_goesOn, q ∈ kyL_X11_needs) q hq)) (fun z => z.elim) h) h (fun x2 p4 h g3 => ?_)
  have h := h g3
  have K := k9_tr K p4.2
  exact ⟨h, K⟩
set_option maxRecDepth 20000 in
set_option maxHeartbeats 1000000 in
theorem ky_X11_needs_0 {b : Bool} {L : List (Nat × Nat)} (hU : ∀ q ∈ L, q ∈ nyT) (hL : ∀ q ∈ kyL_X11_needs, q ∈ L) (hb : False → b = false) {Q : HS → Prop} {v0 : Nat} {v1 : Nat} {S0 S : HS} (h : P_X11_needs_0 Q v0 v1 S) (K : K9 b L S0 S) : P_X11_needs_0 (fun T => Q T ∧ K9 b L S0 T) v0 v1 S := by
  delta P_X11_needs_0 at h ⊢
  obtain ⟨c1, h⟩ := h
  refine ⟨c1, ?_⟩
  refine cm_X11_isWord (ky_X11_isWord (b := b) hU (fun q hq => hL q ((by decide : ∀ q ∈ kyL_X11_isWord, q ∈ kyL_X11_needs) q hq)) (fun z => z.elim) h) h (fun x2 x3 p6 h g4 g5 => ?_)
  have h := h g4 g5
  have K := k9_tr K p6.2
  refine ⟨?_, ?_⟩
  · intro c7
    have h := h.1 c7
    exact ky_X11_needs_13 hU hL hb h K
  · intro c8
    have h := h.2 c8
    refine cm_X11_flaw (ky_X11_flaw (b := b) hU (fun q hq => hL q ((by decide : ∀ q ∈ kyL_X11_flaw, q ∈ kyL_X11_needs) q hq)) (fun z => z.elim) h) h (fun x9 p11 h g10 => ?_)
    have h := h g10
    have K := k9_tr K p11.2
    exact ky_X11_needs_13 hU hL hb h K
theorem ky_X11_needs {b : Bool} {L : List (Nat × Nat)} (hU : ∀ q ∈ L, q ∈ nyT) (hL : ∀ q ∈ kyL_X11_needs, q ∈ L) (hb : False → b = false) {Q : HS → Prop} {v0 : Nat} {v1 : Nat} {S : HS} (h : P_X11_needs v0 v1 Q S) : P_X11_needs v0 v1 (fun T => Q T ∧ K9 b L S T) S := ky_X11_needs_0 hU hL hb h (k9_rf b L S)
abbrev kyL_X11_off : List (Nat × Nat) := [(11, 16)]
set_option maxRecDepth 20000 in
set_option maxHeartbeats 1000000 in
theorem ky_X11_off_29 {b : Bool} {L : List (Nat × Nat)} (hU : ∀ q ∈ L, q ∈ nyT) (hL : ∀ q ∈ kyL_X11_off, q ∈ L) (hb : False → b = false) {Q : Int32 → HS → Prop} {v0 : Nat} {S0 S : HS} (h : P_X11_off_29 Q v0 S) (K : K9 b L S0 S) : P_X11_off_29 (fun r T => Q r T ∧ K9 b L S0 T) v0 S := by
  delta P_X11_off_29 at h ⊢
  obtain ⟨c1, h⟩ := h
  refine ⟨c1, ?_⟩
  refine cm_X11_refused (ky_X11_refused (b := b) hU (fun q hq => hL q ((by decide : ∀ q ∈ kyL_X11_refused, q ∈ kyL_X11_off) q hq)) (fun z => z.elim) h) h (fun x2 x3 p5 h g4 => ?_)
  have h := h g4
  have K := k9_tr K p5.2
  exact ⟨h, K⟩
set_option maxRecDepth 20000 in
set_option maxHeartbeats 1000000 in
theorem ky_X11_off_128 {b : Bool} {L : List (Nat × Nat)} (hU : ∀ q ∈ L, q ∈ nyT) (hL : ∀ q ∈ kyL_X11_off, q ∈ L) (hb : False → b = false) {Q : Int32 → HS → Prop} {X67 X67_2 : Nat → Int32 → Int32 → Int32 → Int32 → HS → Prop} {v0 : Nat} {v2 : Int32} {v4 : Int32} {v5 : Int32} {v6 : Int32} {S0 S : HS} (h : P_X11_off_128 Q X67 v0 v2 v4 v5 v6 S) (K : K9 b L S0 S) (hX67 : ∀ (u0 : Nat) (u1 : Int32) (u2 : Int32) (u3 : Int32) (u4 : Int32) (u5 : HS), X67 u0 u1 u2 u3 u4 u5 → K9 b L S0 u5 → X67_2 u0 u1 u2 u3 u4 u5) : P_X11_off_128 (fun r T => Q r T ∧ K9 b L S0 T) X67_2 v0 v2 v4 v5 v6 S := by
  delta P_X11_off_128 at h ⊢
  intro x2 e1
  have h := h x2 e1
  exact hX67 _ _ _ _ _ _ h K
set_option maxRecDepth 20000 in
set_option maxHeartbeats 1000000 in
theorem ky_X11_off_124 {b : Bool} {L : List (Nat × Nat)} (hU : ∀ q ∈ L, q ∈ nyT) (hL : ∀ q ∈ kyL_X11_off, q ∈ L) (hb : False → b = false) {Q : Int32 → HS → Prop} {X67 X67_2 : Nat → Int32 → Int32 → Int32 → Int32 → HS → Prop} {v0 : Nat} {v2 : Int32} {v4 : Int32} {v6 : Int32} {S0 S : HS} (h : P_X11_off_124 Q X67 v0 v2 v4 v6 S) (K : K9 b L S0 S) (hX67 : ∀ (u0 : Nat) (u1 : Int32) (u2 : Int32) (u3 : Int32) (u4 : Int32) (u5 : HS), X67 u0 u1 u2 u3 u4 u5 → K9 b L S0 u5 → X67_2 u0 u1 u2 u3 u4 u5) : P_X11_off_124 (fun r T => Q r T ∧ K9 b L S0 T) X67_2 v0 v2 v4 v6 S := by
  delta P_X11_off_124 at h ⊢
  exact ky_X11_off_128 hU hL hb h K hX67
set_option maxRecDepth 20000 in
set_option maxHeartbeats 1000000 in
theorem kyB_X11_off_67 {b : Bool} {L : List (Nat × Nat)} (hU : ∀ q ∈ L, q ∈ nyT) (hL : ∀ q ∈ kyL_X11_off, q ∈ L) (hb : False → b = false) {Q : Int32 → HS → Prop} {X67 X67_2 : Nat → Int32 → Int32 → Int32 → Int32 → HS → Prop} {v0 : Nat} {v2 : Int32} {v4 : Int32} {v5 : Int32} {v6 : Int32} {S0 S : HS} (h : B_X11_off_67 Q X67 v0 v2 v4 v5 v6 S) (K : K9 b L S0 S) (hX67 : ∀ (u0 : Nat) (u1 : Int32) (u2 : Int32) (u3 : Int32) (u4 : Int32) (u5 : HS), X67 u0 u1 u2 u3 u4 u5 → K9 b L S0 u5 → X67_2 u0 u1 u2 u3 u4 u5) : B_X11_off_67 (fun r T => Q r T ∧ K9 b L S0 T) X67_2 v0 v2 v4 v5 v6 S := by
  delta B_X11_off_67 at h ⊢
  refine ⟨?_, ?_⟩
  · intro c1
    have h := h.1 c1
    refine ⟨?_, ?_⟩
    · intro c2
      have h := h.1 c2
      obtain ⟨c3, h⟩ := h
      refine ⟨c3, ?_⟩
      have o4 := c3
      refine cm_X11_good (ky_X11_good (b := b) hU (fun q hq => hL q ((by decide : ∀ q ∈ kyL_X11_good, q ∈ kyL_X11_off) q hq)) (fun z => z.elim) h) h (fun x5 x6 p8 h g7 => ?_)
      have h := h g7
      have K := k9_tr K p8.2
      have o4 := gr_ob p8.2.1 o4
      exact ⟨h, K⟩
    · intro c9
      have h := h.2 c9
      obtain ⟨c10, h⟩ := h
      refine ⟨c10, ?_⟩
      have o11 := c10
      refine cm_X11_refused (ky_X11_refused (b := b) hU (fun q hq => hL q ((by decide : ∀ q ∈ kyL_X11_refused, q ∈ kyL_X11_off) q hq)) (fun z => z.elim) h) h (fun x12 x13 p15 h g14 => ?_)
      have h := h g14
      have K := k9_tr K p15.2
      have o11 := gr_ob p15.2.1 o11
      exact ⟨h, K⟩
  · intro c16
    have h := h.2 c16
    obtain ⟨c17, h⟩ := h
    refine ⟨c17, ?_⟩
    have o18 := c17
    obtain ⟨b19, e20, h⟩ := h
    refine ⟨b19, e20, ?_⟩
    refine cm_X11_spotOf (ky_X11_spotOf (b := b) hU (fun q hq => hL q ((by decide : ∀ q ∈ kyL_X11_spotOf, q ∈ kyL_X11_off) q hq)) (fun z => z.elim) h) h (fun x21 x22 p24 h g23 => ?_)
    have h := h g23
    have K := k9_tr K p24.2
    have o18 := gr_ob p24.2.1 o18
    obtain ⟨c25, h⟩ := h
    refine ⟨c25, ?_⟩
    obtain ⟨c26, h⟩ := h
    refine ⟨c26, ?_⟩
    intro x28 e27
    have h := h x28 e27
    refine ⟨?_, ?_⟩
    · intro c29
      have h := h.1 c29
      exact ky_X11_off_128 hU hL hb h K hX67
    · intro c30
      have h := h.2 c30
      refine ⟨?_, ?_⟩
      · intro c31
        have h := h.1 c31
        exact ky_X11_off_124 hU hL hb h K hX67
      · intro c32
        have h := h.2 c32
        obtain ⟨b33, e34, h⟩ := h
        refine ⟨b33, e34, ?_⟩
        refine cm_X11_spotOf (ky_X11_spotOf (b := b) hU (fun q hq => hL q ((by decide : ∀ q ∈ kyL_X11_spotOf, q ∈ kyL_X11_off) q hq)) (fun z => z.elim) h) h (fun x35 x36 p38 h g37 => ?_)
        have h := h g37
        have K := k9_tr K p38.2
        have o18 := gr_ob p38.2.1 o18
        obtain ⟨c39, h⟩ := h
        refine ⟨c39, ?_⟩
        obtain ⟨c40, h⟩ := h
        refine ⟨c40, ?_⟩
        intro x42 e41
        have h := h x42 e41
        obtain ⟨b43, e44, h⟩ := h
        refine ⟨b43, e44, ?_⟩
        refine cm_X11_spotOf (ky_X11_spotOf (b := b) hU (fun q hq => hL q ((by decide : ∀ q ∈ kyL_X11_spotOf, q ∈ kyL_X11_off) q hq)) (fun z => z.elim) h) h (fun x45 x46 p48 h g47 => ?_)
        have h := h g47
        have K := k9_tr K p48.2
        have o18 := gr_ob p48.2.1 o18
        obtain ⟨c49, h⟩ := h
        refine ⟨c49, ?_⟩
        obtain ⟨c50, h⟩ := h
        refine ⟨c50, ?_⟩
        intro x52 e51
        have h := h x52 e51
        refine ⟨?_, ?_⟩
        · intro c53
          have h := h.1 c53
          exact ky_X11_off_128 hU hL hb h K hX67
        · intro c54
          have h := h.2 c54
          exact ky_X11_off_124 hU hL hb h K hX67
theorem ky_X11_off_67 {b : Bool} {L : List (Nat × Nat)} (hU : ∀ q ∈ L, q ∈ nyT) (hL : ∀ q ∈ kyL_X11_off, q ∈ L) (hb : False → b = false) {Q : Int32 → HS → Prop} {v0 : Nat} {v2 : Int32} {v4 : Int32} {v5 : Int32} {v6 : Int32} {S0 S : HS} (h : P_X11_off_67 Q v0 v2 v4 v5 v6 S) (K : K9 b L S0 S) : P_X11_off_67 (fun r T => Q r T ∧ K9 b L S0 T) v0 v2 v4 v5 v6 S := h (fun v0 v2 v4 v5 v6 S => K9 b L S0 S → P_X11_off_67 (fun r T => Q r T ∧ K9 b L S0 T) v0 v2 v4 v5 v6 S) (fun v0 v2 v4 v5 v6 S hB K => fd_X11_off_67 (kyB_X11_off_67 hU hL hb hB K (fun _ _ _ _ _ _ hx K => hx K))) K
set_option maxRecDepth 20000 in
set_option maxHeartbeats 1000000 in
theorem ky_X11_off_0 {b : Bool} {L : List (Nat × Nat)} (hU : ∀ q ∈ L, q ∈ nyT) (hL : ∀ q ∈ kyL_X11_off, q ∈ L) (hb : False → b = false) {Q : Int32 → HS → Prop} {v0 : Nat} {v1 : Int32} {v2 : Int32} {v3 : Int32} {v4 : Int32} {S0 S : HS} (h : P_X11_off_0 Q v0 v1 v2 v3 v4 S) (K : K9 b L S0 S) : P_X11_off_0 (fun r T => Q r T ∧ K9 b L S0 T) v0 v1 v2 v3 v4 S := by
  delta P_X11_off_0 at h ⊢
  obtain ⟨c1, h⟩ := h
  refine ⟨c1, ?_⟩
  intro x3 e2
  have h := h x3 e2
  have K := k9_I K e2
  refine cm_X11_isWalker (ky_X11_isWalker (b := b) hU (fun q hq => hL q ((by decide : ∀ q ∈ kyL_X11_isWalker, q ∈ kyL_X11_off) q hq)) (fun z => z.elim) h) h (fun x4 x5 p8 h g6 g7 => ?_)
  have h := h g6 g7
  have K := k9_tr K p8.2
  refine ⟨?_, ?_⟩
  · intro c9
    have h := h.1 c9
    exact ky_X11_off_29 hU hL hb h K
  · intro c10
    have h := h.2 c10
    refine cm_X11_isPlace (ky_X11_isPlace (b := b) hU (fun q hq => hL q ((by decide : ∀ q ∈ kyL_X11_isPlace, q ∈ kyL_X11_off) q hq)) (fun z => z.elim) h) h (fun x11 x12 p15 h g13 g14 => ?_)
    have h := h g13 g14
    have K := k9_tr K p15.2
    refine ⟨?_, ?_⟩
    · intro c16
      have h := h.1 c16
      exact ky_X11_off_29 hU hL hb h K
    · intro c17
      have h := h.2 c17
      refine cm_X11_isPlace (ky_X11_isPlace (b := b) hU (fun q hq => hL q ((by decide : ∀ q ∈ kyL_X11_isPlace, q ∈ kyL_X11_off) q hq)) (fun z => z.elim) h) h (fun x18 x19 p22 h g20 g21 => ?_)
      have h := h g20 g21
      have K := k9_tr K p22.2
      refine ⟨?_, ?_⟩
      · intro c23
        have h := h.1 c23
        refine cm_X11_in (ky_X11_in (b := b) hU (fun q hq => hL q ((by decide : ∀ q ∈ kyL_X11_in, q ∈ kyL_X11_off) q hq)) (fun z => z.elim) h) h (fun x24 x25 p28 h g26 g27 => ?_)
        have h := h g26 g27
        have K := k9_tr K p28.2
        refine ⟨?_, ?_⟩
        · intro c29
          have h := h.1 c29
          refine cm_X11_laysWays (ky_X11_laysWays (b := b) hU (fun q hq => hL q ((by decide : ∀ q ∈ kyL_X11_laysWays, q ∈ kyL_X11_off) q hq)) (fun z => z.elim) h) h (fun x30 p32 h g31 => ?_)
          have h := h g31
          have K := k9_tr K p32.2
          exact ky_X11_off_67 hU hL hb h K
        · intro c33
          have h := h.2 c33
          refine cm_X11_refused (ky_X11_refused (b := b) hU (fun q hq => hL q ((by decide : ∀ q ∈ kyL_X11_refused, q ∈ kyL_X11_off) q hq)) (fun z => z.elim) h) h (fun x34 x35 p37 h g36 => ?_)
          have h := h g36
          have K := k9_tr K p37.2
          exact ⟨h, K⟩
      · intro c38
        have h := h.2 c38
        exact ky_X11_off_29 hU hL hb h K
theorem ky_X11_off {b : Bool} {L : List (Nat × Nat)} (hU : ∀ q ∈ L, q ∈ nyT) (hL : ∀ q ∈ kyL_X11_off, q ∈ L) (hb : False → b = false) {Q : Int32 → HS → Prop} {v0 : Nat} {v1 : Int32} {v2 : Int32} {v3 : Int32} {v4 : Int32} {S : HS} (h : P_X11_off v0 v1 v2 v3 v4 Q S) : P_X11_off v0 v1 v2 v3 v4 (fun r T => Q r T ∧ K9 b L S T) S := ky_X11_off_0 hU hL hb h (k9_rf b L S)
abbrev kyL_X11_readFresh : List (Nat × Nat) := []
set_option maxRecDepth 20000 in
set_option maxHeartbeats 1000000 in
theorem ky_X11_readFresh_32 {b : Bool} {L : List (Nat × Nat)} (hU : ∀ q ∈ L, q ∈ nyT) (hL : ∀ q ∈ kyL_X11_readFresh, q ∈ L) (hb : False → b = false) {Q : Int64 → HS → Prop} {v0 : Nat} {S0 S : HS} (h : P_X11_readFresh_32 Q v0 S) (K : K9 b L S0 S) : P_X11_readFresh_32 (fun r T => Q r T ∧ K9 b L S0 T) v0 S := by
  delta P_X11_readFresh_32 at h ⊢
  obtain ⟨c1, h⟩ := h
  refine ⟨c1, ?_⟩
  intro x3 e2
  have h := h x3 e2
  refine cm_X11_goesOn (ky_X11_goesOn (b := b) hU (fun q hq => hL q ((by decide : ∀ q ∈ kyL_X11_goesOn, q ∈ kyL_X11_readFresh) q hq)) (fun z => z.elim) h) h (fun x4 p6 h g5 => ?_)
  have h := h g5
  have K := k9_tr K p6.2
  exact ⟨h, K⟩
set_option maxRecDepth 20000 in
set_option maxHeartbeats 1000000 in
theorem ky_X11_readFresh_12 {b : Bool} {L : List (Nat × Nat)} (hU : ∀ q ∈ L, q ∈ nyT) (hL : ∀ q ∈ kyL_X11_readFresh, q ∈ L) (hb : False → b = false) {Q : Int64 → HS → Prop} {v0 : Nat} {S0 S : HS} (h : P_X11_readFresh_12 Q v0 S) (K : K9 b L S0 S) : P_X11_readFresh_12 (fun r T => Q r T ∧ K9 b L S0 T) v0 S := by
  delta P_X11_readFresh_12 at h ⊢
  obtain ⟨c1, h⟩ := h
  refine ⟨c1, ?_⟩
  have o2 := c1
  obtain ⟨b3, e4, h⟩ := h
  refine ⟨b3, e4, ?_⟩
  intro x6 e5
  have h := h x6 e5
  obtain ⟨c7, h⟩ := h
  refine ⟨c7, ?_⟩
  refine cm_X10_find (ky_X10_find (b := b) hU (fun q hq => hL q ((by decide : ∀ q ∈ kyL_X10_find, q ∈ kyL_X11_readFresh) q hq)) (fun z => z.elim) h) h (fun x8 x9 p11 h g10 => ?_)
  have h := h g10
  have K := k9_tr K p11.2
  have o2 := gr_ob p11.2.1 o2
  refine ⟨?_, ?_⟩
  · intro c12
    have h := h.1 c12
    exact ky_X11_readFresh_32 hU hL hb h K
  · intro c13
    have h := h.2 c13
    refine cm_X11_flaw (ky_X11_flaw (b := b) hU (fun q hq => hL q ((by decide : ∀ q ∈ kyL_X11_flaw, q ∈ kyL_X11_readFresh) q hq)) (fun z => z.elim) h) h (fun x14 p16 h g15 => ?_)
    have h := h g15
    have K := k9_tr K p16.2
    have o2 := gr_ob p16.2.1 o2
    exact ky_X11_readFresh_32 hU hL hb h K
set_option maxRecDepth 20000 in
set_option maxHeartbeats 1000000 in
theorem ky_X11_readFresh_0 {b : Bool} {L : List (Nat × Nat)} (hU : ∀ q ∈ L, q ∈ nyT) (hL : ∀ q ∈ kyL_X11_readFresh, q ∈ L) (hb : False → b = false) {Q : Int64 → HS → Prop} {v0 : Nat} {S0 S : HS} (h : P_X11_readFresh_0 Q v0 S) (K : K9 b L S0 S) : P_X11_readFresh_0 (fun r T => Q r T ∧ K9 b L S0 T) v0 S := by
  delta P_X11_readFresh_0 at h ⊢
  obtain ⟨c1, h⟩ := h
  refine ⟨c1, ?_⟩
  refine cm_X11_isName (ky_X11_isName (b := b) hU (fun q hq => hL q ((by decide : ∀ q ∈ kyL_X11_isName, q ∈ kyL_X11_readFresh) q hq)) (fun z => z.elim) h) h (fun x2 x3 p6 h g4 g5 => ?_)
  have h := h g4 g5
  have K := k9_tr K p6.2
  refine ⟨?_, ?_⟩
  · intro c7
    have h := h.1 c7
    exact ky_X11_readFresh_12 hU hL hb h K
  · intro c8
    have h := h.2 c8
    refine cm_X11_flaw (ky_X11_flaw (b := b) hU (fun q hq => hL q ((by decide : ∀ q ∈ kyL_X11_flaw, q ∈ kyL_X11_readFresh) q hq)) (fun z => z.elim) h) h (fun x9 p11 h g10 => ?_)
    have h := h g10
    have K := k9_tr K p11.2
    exact ky_X11_readFresh_12 hU hL hb h K
theorem ky_X11_readFresh {b : Bool} {L : List (Nat × Nat)} (hU : ∀ q ∈ L, q ∈ nyT) (hL : ∀ q ∈ kyL_X11_readFresh, q ∈ L) (hb : False → b = false) {Q : Int64 → HS → Prop} {v0 : Nat} {S : HS} (h : P_X11_readFresh v0 Q S) : P_X11_readFresh v0 (fun r T => Q r T ∧ K9 b L S T) S := ky_X11_readFresh_0 hU hL hb h (k9_rf b L S)
abbrev kyL_X11_readWhole : List (Nat × Nat) := []
set_option maxRecDepth 20000 in
set_option maxHeartbeats 1000000 in
theorem ky_X11_readWhole_49 {b : Bool} {L : List (Nat × Nat)} (hU : ∀ q ∈ L, q ∈ nyT) (hL : ∀ q ∈ kyL_X11_readWhole, q ∈ L) (hb : False → b = false) {Q : Int32 → HS → Prop} {v0 : Nat} {s0 : Int32} {S0 S : HS} (h : P_X11_readWhole_49 Q v0 s0 S) (K : K9 b L S0 S) : P_X11_readWhole_49 (fun r T => Q r T ∧ K9 b L S0 T) v0 s0 S := by
  delta P_X11_readWhole_49 at h ⊢
  obtain ⟨c1, h⟩ := h
  refine ⟨c1, ?_⟩
  refine cm_X11_goesOn (ky_X11_goesOn (b := b) hU (fun q hq => hL q ((by decide : ∀ q ∈ kyL_X11_goesOn, q ∈ kyL_X11_readWhole) q hq)) (fun z => z.elim) h) h (fun x2 p4 h g3 => ?_)
  have h := h g3
  have K := k9_tr K p4.2
  exact ⟨h, K⟩
set_option maxRecDepth 20000 in
set_option maxHeartbeats 1000000 in
theorem ky_X11_readWhole_33 {b : Bool} {L : List (Nat × Nat)} (hU : ∀ q ∈ L, q ∈ nyT) (hL : ∀ q ∈ kyL_X11_readWhole, q ∈ L) (hb : False → b = false) {Q : Int32 → HS → Prop} {v0 : Nat} {v1 : Int32} {S0 S : HS} (h : P_X11_readWhole_33 Q v0 v1 S) (K : K9 b L S0 S) : P_X11_readWhole_33 (fun r T => Q r T ∧ K9 b L S0 T) v0 v1 S := by
  delta P_X11_readWhole_33 at h ⊢
  obtain ⟨c1, h⟩ := h
  refine ⟨c1, ?_⟩
  intro x3 e2
  have h := h x3 e2
  refine ⟨?_, ?_⟩
  · intro c4
    have h := h.1 c4
    intro x6 e5
    have h := h x6 e5
    exact ky_X11_readWhole_49 hU hL hb h K
  · intro c7
    have h := h.2 c7
    exact ky_X11_readWhole_49 hU hL hb h K
set_option maxRecDepth 20000 in
set_option maxHeartbeats 1000000 in
theorem ky_X11_readWhole_0 {b : Bool} {L : List (Nat × Nat)} (hU : ∀ q ∈ L, q ∈ nyT) (hL : ∀ q ∈ kyL_X11_readWhole, q ∈ L) (hb : False → b = false) {Q : Int32 → HS → Prop} {v0 : Nat} {v1 : Int32} {v2 : Int32} {S0 S : HS} (h : P_X11_readWhole_0 Q v0 v1 v2 S) (K : K9 b L S0 S) : P_X11_readWhole_0 (fun r T => Q r T ∧ K9 b L S0 T) v0 v1 v2 S := by
  delta P_X11_readWhole_0 at h ⊢
  obtain ⟨c1, h⟩ := h
  refine ⟨c1, ?_⟩
  intro x3 e2
  have h := h x3 e2
  refine ⟨?_, ?_⟩
  · intro c4
    have h := h.1 c4
    intro x6 e5
    have h := h x6 e5
    refine cm_X11_in (ky_X11_in (b := b) hU (fun q hq => hL q ((by decide : ∀ q ∈ kyL_X11_in, q ∈ kyL_X11_readWhole) q hq)) (fun z => z.elim) h) h (fun x7 x8 p11 h g9 g10 => ?_)
    have h := h g9 g10
    have K := k9_tr K p11.2
    refine ⟨?_, ?_⟩
    · intro c12
      have h := h.1 c12
      exact ky_X11_readWhole_33 hU hL hb h K
    · intro c13
      have h := h.2 c13
      refine cm_X11_flaw (ky_X11_flaw (b := b) hU (fun q hq => hL q ((by decide : ∀ q ∈ kyL_X11_flaw, q ∈ kyL_X11_readWhole) q hq)) (fun z => z.elim) h) h (fun x14 p16 h g15 => ?_)
      have h := h g15
      have K := k9_tr K p16.2
      exact ky_X11_readWhole_33 hU hL hb h K
  · intro c17
    have h := h.2 c17
    refine cm_X11_flaw (ky_X11_flaw (b := b) hU (fun q hq => hL q ((by decide : ∀ q ∈ kyL_X11_flaw, q ∈ kyL_X11_readWhole) q hq)) (fun z => z.elim) h) h (fun x18 p20 h g19 => ?_)
    have h := h g19
    have K := k9_tr K p20.2
    exact ky_X11_readWhole_33 hU hL hb h K
theorem ky_X11_readWhole {b : Bool} {L : List (Nat × Nat)} (hU : ∀ q ∈ L, q ∈ nyT) (hL : ∀ q ∈ kyL_X11_readWhole, q ∈ L) (hb : False → b = false) {Q : Int32 → HS → Prop} {v0 : Nat} {v1 : Int32} {v2 : Int32} {S : HS} (h : P_X11_readWhole v0 v1 v2 Q S) : P_X11_readWhole v0 v1 v2 (fun r T => Q r T ∧ K9 b L S T) S := ky_X11_readWhole_0 hU hL hb h (k9_rf b L S)
abbrev kyL_X11_readPlace : List (Nat × Nat) := [(10, 28)]
set_option maxRecDepth 20000 in
set_option maxHeartbeats 1000000 in
theorem ky_X11_readPlace_50 {b : Bool} {L : List (Nat × Nat)} (hU : ∀ q ∈ L, q ∈ nyT) (hL : ∀ q ∈ kyL_X11_readPlace, q ∈ L) (hb : False → b = false) {Q : HS → Prop} {v0 : Nat} {v1 : Int64} {v3 : Int32} {s0 : Int32} {S0 S : HS} (h : P_X11_readPlace_50 Q v0 v1 v3 s0 S) (K : K9 b L S0 S) : P_X11_readPlace_50 (fun T => Q T ∧ K9 b L S0 T) v0 v1 v3 s0 S := by
  delta P_X11_readPlace_50 at h ⊢
  obtain ⟨c1, h⟩ := h
  refine ⟨c1, ?_⟩
  have o2 := c1
  intro x4 e3
  have h := h x4 e3
  refine ⟨?_, ?_⟩
  · intro c5
    have h := h.1 c5
    obtain ⟨b6, e7, h⟩ := h
    refine ⟨b6, e7, ?_⟩
    obtain ⟨c8, h⟩ := h
    refine ⟨c8, ?_⟩
    intro x10 e9
    have h := h x10 e9
    refine cm_X11_names (ky_X11_names (b := b) hU (fun q hq => hL q ((by decide : ∀ q ∈ kyL_X11_names, q ∈ kyL_X11_readPlace) q hq)) (fun z => z.elim) h) h (fun x11 p13 h g12 => ?_)
    have h := h g12
    have K := k9_tr K p13.2
    have o2 := gr_ob p13.2.1 o2
    obtain ⟨b14, e15, h⟩ := h
    refine ⟨b14, e15, ?_⟩
    obtain ⟨c16, h⟩ := h
    refine ⟨c16, ?_⟩
    have o17 := c16
    obtain ⟨b18, e19, h⟩ := h
    refine ⟨b18, e19, ?_⟩
    obtain ⟨b20, e21, h⟩ := h
    refine ⟨b20, e21, ?_⟩
    obtain ⟨c22, h⟩ := h
    refine ⟨c22, ?_⟩
    intro x24 e23
    have h := h x24 e23
    obtain ⟨c25, h⟩ := h
    refine ⟨c25, ?_⟩
    obtain ⟨c26, h⟩ := h
    refine ⟨c26, ?_⟩
    intro x28 e27
    have h := h x28 e27
    have K := k9_I K e27
    have o2 := ob_wI o2 e27
    have o17 := ob_wI o17 e27
    obtain ⟨b29, e30, h⟩ := h
    refine ⟨b29, e30, ?_⟩
    obtain ⟨c31, h⟩ := h
    refine ⟨c31, ?_⟩
    have o32 := c31
    obtain ⟨b33, e34, h⟩ := h
    refine ⟨b33, e34, ?_⟩
    obtain ⟨b35, e36, h⟩ := h
    refine ⟨b35, e36, ?_⟩
    obtain ⟨c37, h⟩ := h
    refine ⟨c37, ?_⟩
    intro x39 e38
    have h := h x39 e38
    obtain ⟨c40, h⟩ := h
    refine ⟨c40, ?_⟩
    obtain ⟨c41, h⟩ := h
    refine ⟨c41, ?_⟩
    intro x43 e42
    have h := h x43 e42
    have K := k9_I K e42
    have o2 := ob_wI o2 e42
    have o17 := ob_wI o17 e42
    have o32 := ob_wI o32 e42
    obtain ⟨b44, e45, h⟩ := h
    refine ⟨b44, e45, ?_⟩
    obtain ⟨c46, h⟩ := h
    refine ⟨c46, ?_⟩
    intro x48 e47
    have h := h x48 e47
    intro x50 e49
    have h := h x50 e49
    intro x52 e51
    have h := h x52 e51
    have K := k9_I K e51
    have o2 := ob_wI o2 e51
    have o17 := ob_wI o17 e51
    have o32 := ob_wI o32 e51
    exact ⟨h, K⟩
  · intro c53
    have h := h.2 c53
    exact ⟨h, K⟩
set_option maxRecDepth 20000 in
set_option maxHeartbeats 1000000 in
theorem ky_X11_readPlace_48 {b : Bool} {L : List (Nat × Nat)} (hU : ∀ q ∈ L, q ∈ nyT) (hL : ∀ q ∈ kyL_X11_readPlace, q ∈ L) (hb : False → b = false) {Q : HS → Prop} {v0 : Nat} {v1 : Int64} {v3 : Int32} {S0 S : HS} (h : P_X11_readPlace_48 Q v0 v1 v3 S) (K : K9 b L S0 S) : P_X11_readPlace_48 (fun T => Q T ∧ K9 b L S0 T) v0 v1 v3 S := by
  delta P_X11_readPlace_48 at h ⊢
  exact ky_X11_readPlace_50 hU hL hb h K
set_option maxRecDepth 20000 in
set_option maxHeartbeats 1000000 in
theorem ky_X11_readPlace_0 {b : Bool} {L : List (Nat × Nat)} (hU : ∀ q ∈ L, q ∈ nyT) (hL : ∀ q ∈ kyL_X11_readPlace, q ∈ L) (hb : False → b = false) {Q : HS → Prop} {v0 : Nat} {S0 S : HS} (h : P_X11_readPlace_0 Q v0 S) (K : K9 b L S0 S) : P_X11_readPlace_0 (fun T => Q T ∧ K9 b L S0 T) v0 S := by
  delta P_X11_readPlace_0 at h ⊢
  obtain ⟨c1, h⟩ := h
  refine ⟨c1, ?_⟩
  have o2 := c1
  obtain ⟨b3, e4, h⟩ := h
  refine ⟨b3, e4, ?_⟩
  obtain ⟨c5, h⟩ := h
  refine ⟨c5, ?_⟩
  intro x7 e6
  have h := h x7 e6
  refine cm_X11_begins (ky_X11_begins (b := b) hU (fun q hq => hL q ((by decide : ∀ q ∈ kyL_X11_begins, q ∈ kyL_X11_readPlace) q hq)) (fun z => z.elim) h) h (fun x8 p10 h g9 => ?_)
  have h := h g9
  have K := k9_tr K p10.2
  have o2 := gr_ob p10.2.1 o2
  refine cm_X11_readFresh (ky_X11_readFresh (b := b) hU (fun q hq => hL q ((by decide : ∀ q ∈ kyL_X11_readFresh, q ∈ kyL_X11_readPlace) q hq)) (fun z => z.elim) h) h (fun x11 x12 p14 h g13 => ?_)
  have h := h g13
  have K := k9_tr K p14.2
  have o2 := gr_ob p14.2.1 o2
  refine cm_X11_eatsWord (ky_X11_eatsWord (b := b) hU (fun q hq => hL q ((by decide : ∀ q ∈ kyL_X11_eatsWord, q ∈ kyL_X11_readPlace) q hq)) (fun z => z.elim) h) h (fun x15 x16 p19 h g17 g18 => ?_)
  have h := h g17 g18
  have K := k9_tr K p19.2
  have o2 := gr_ob p19.2.1 o2
  refine ⟨?_, ?_⟩
  · intro c20
    have h := h.1 c20
    exact ky_X11_readPlace_48 hU hL hb h K
  · intro c21
    have h := h.2 c21
    refine cm_X11_eatsWord (ky_X11_eatsWord (b := b) hU (fun q hq => hL q ((by decide : ∀ q ∈ kyL_X11_eatsWord, q ∈ kyL_X11_readPlace) q hq)) (fun z => z.elim) h) h (fun x22 x23 p26 h g24 g25 => ?_)
    have h := h g24 g25
    have K := k9_tr K p26.2
    have o2 := gr_ob p26.2.1 o2
    refine ⟨?_, ?_⟩
    · intro c27
      have h := h.1 c27
      exact ky_X11_readPlace_48 hU hL hb h K
    · intro c28
      have h := h.2 c28
      refine cm_X11_readWhole (ky_X11_readWhole (b := b) hU (fun q hq => hL q ((by decide : ∀ q ∈ kyL_X11_readWhole, q ∈ kyL_X11_readPlace) q hq)) (fun z => z.elim) h) h (fun x29 x30 p32 h g31 => ?_)
      have h := h g31
      have K := k9_tr K p32.2
      have o2 := gr_ob p32.2.1 o2
      exact ky_X11_readPlace_50 hU hL hb h K
theorem ky_X11_readPlace {b : Bool} {L : List (Nat × Nat)} (hU : ∀ q ∈ L, q ∈ nyT) (hL : ∀ q ∈ kyL_X11_readPlace, q ∈ L) (hb : False → b = false) {Q : HS → Prop} {v0 : Nat} {S : HS} (h : P_X11_readPlace v0 Q S) : P_X11_readPlace v0 (fun T => Q T ∧ K9 b L S T) S := ky_X11_readPlace_0 hU hL hb h (k9_rf b L S)
abbrev kyL_X11_readPart : List (Nat × Nat) := []
set_option maxRecDepth 20000 in
set_option maxHeartbeats 1000000 in
theorem ky_X11_readPart_0 {b : Bool} {L : List (Nat × Nat)} (hU : ∀ q ∈ L, q ∈ nyT) (hL : ∀ q ∈ kyL_X11_readPart, q ∈ L) (hb : False → b = false) {Q : Int32 → HS → Prop} {v0 : Nat} {v1 : Nat} {v2 : Int32} {v3 : Int32} {S0 S : HS} (h : P_X11_readPart_0 Q v0 v1 v2 v3 S) (K : K9 b L S0 S) : P_X11_readPart_0 (fun r T => Q r T ∧ K9 b L S0 T) v0 v1 v2 v3 S := by
  delta P_X11_readPart_0 at h ⊢
  obtain ⟨c1, h⟩ := h
  refine ⟨c1, ?_⟩
  refine cm_X11_needs (ky_X11_needs (b := b) hU (fun q hq => hL q ((by decide : ∀ q ∈ kyL_X11_needs, q ∈ kyL_X11_readPart) q hq)) (fun z => z.elim) h) h (fun x2 p4 h g3 => ?_)
  have h := h g3
  have K := k9_tr K p4.2
  refine cm_X11_readWhole (ky_X11_readWhole (b := b) hU (fun q hq => hL q ((by decide : ∀ q ∈ kyL_X11_readWhole, q ∈ kyL_X11_readPart) q hq)) (fun z => z.elim) h) h (fun x5 x6 p8 h g7 => ?_)
  have h := h g7
  have K := k9_tr K p8.2
  exact ⟨h, K⟩
theorem ky_X11_readPart {b : Bool} {L : List (Nat × Nat)} (hU : ∀ q ∈ L, q ∈ nyT) (hL : ∀ q ∈ kyL_X11_readPart, q ∈ L) (hb : False → b = false) {Q : Int32 → HS → Prop} {v0 : Nat} {v1 : Nat} {v2 : Int32} {v3 : Int32} {S : HS} (h : P_X11_readPart v0 v1 v2 v3 Q S) : P_X11_readPart v0 v1 v2 v3 (fun r T => Q r T ∧ K9 b L S T) S := ky_X11_readPart_0 hU hL hb h (k9_rf b L S)
abbrev kyL_X11_readSide : List (Nat × Nat) := []
set_option maxRecDepth 20000 in
set_option maxHeartbeats 1000000 in
theorem ky_X11_readSide_64 {b : Bool} {L : List (Nat × Nat)} (hU : ∀ q ∈ L, q ∈ nyT) (hL : ∀ q ∈ kyL_X11_readSide, q ∈ L) (hb : False → b = false) {Q : Int32 → HS → Prop} {v0 : Nat} {v1 : Int32} {S0 S : HS} (h : P_X11_readSide_64 Q v0 v1 S) (K : K9 b L S0 S) : P_X11_readSide_64 (fun r T => Q r T ∧ K9 b L S0 T) v0 v1 S := by
  delta P_X11_readSide_64 at h ⊢
  obtain ⟨c1, h⟩ := h
  refine ⟨c1, ?_⟩
  refine cm_X11_goesOn (ky_X11_goesOn (b := b) hU (fun q hq => hL q ((by decide : ∀ q ∈ kyL_X11_goesOn, q ∈ kyL_X11_readSide) q hq)) (fun z => z.elim) h) h (fun x2 p4 h g3 => ?_)
  have h := h g3
  have K := k9_tr K p4.2
  exact ⟨h, K⟩
set_option maxRecDepth 20000 in
set_option maxHeartbeats 1000000 in
theorem ky_X11_readSide_53 {b : Bool} {L : List (Nat × Nat)} (hU : ∀ q ∈ L, q ∈ nyT) (hL : ∀ q ∈ kyL_X11_readSide, q ∈ L) (hb : False → b = false) {Q : Int32 → HS → Prop} {v0 : Nat} {s0 : Int32} {S0 S : HS} (h : P_X11_readSide_53 Q v0 s0 S) (K : K9 b L S0 S) : P_X11_readSide_53 (fun r T => Q r T ∧ K9 b L S0 T) v0 s0 S := by
  delta P_X11_readSide_53 at h ⊢
  refine ⟨?_, ?_⟩
  · intro c1
    have h := h.1 c1
    exact ky_X11_readSide_64 hU hL hb h K
  · intro c2
    have h := h.2 c2
    obtain ⟨c3, h⟩ := h
    refine ⟨c3, ?_⟩
    refine cm_X11_flaw (ky_X11_flaw (b := b) hU (fun q hq => hL q ((by decide : ∀ q ∈ kyL_X11_flaw, q ∈ kyL_X11_readSide) q hq)) (fun z => z.elim) h) h (fun x4 p6 h g5 => ?_)
    have h := h g5
    have K := k9_tr K p6.2
    exact ky_X11_readSide_64 hU hL hb h K
set_option maxRecDepth 20000 in
set_option maxHeartbeats 1000000 in
theorem ky_X11_readSide_0 {b : Bool} {L : List (Nat × Nat)} (hU : ∀ q ∈ L, q ∈ nyT) (hL : ∀ q ∈ kyL_X11_readSide, q ∈ L) (hb : False → b = false) {Q : Int32 → HS → Prop} {v0 : Nat} {S0 S : HS} (h : P_X11_readSide_0 Q v0 S) (K : K9 b L S0 S) : P_X11_readSide_0 (fun r T => Q r T ∧ K9 b L S0 T) v0 S := by
  delta P_X11_readSide_0 at h ⊢
  obtain ⟨c1, h⟩ := h
  refine ⟨c1, ?_⟩
  refine cm_X11_isWord (ky_X11_isWord (b := b) hU (fun q hq => hL q ((by decide : ∀ q ∈ kyL_X11_isWord, q ∈ kyL_X11_readSide) q hq)) (fun z => z.elim) h) h (fun x2 x3 p6 h g4 g5 => ?_)
  have h := h g4 g5
  have K := k9_tr K p6.2
  refine ⟨?_, ?_⟩
  · intro c7
    have h := h.1 c7
    refine cm_X11_isWord (ky_X11_isWord (b := b) hU (fun q hq => hL q ((by decide : ∀ q ∈ kyL_X11_isWord, q ∈ kyL_X11_readSide) q hq)) (fun z => z.elim) h) h (fun x8 x9 p12 h g10 g11 => ?_)
    have h := h g10 g11
    have K := k9_tr K p12.2
    refine ⟨?_, ?_⟩
    · intro c13
      have h := h.1 c13
      refine cm_X11_isWord (ky_X11_isWord (b := b) hU (fun q hq => hL q ((by decide : ∀ q ∈ kyL_X11_isWord, q ∈ kyL_X11_readSide) q hq)) (fun z => z.elim) h) h (fun x14 x15 p18 h g16 g17 => ?_)
      have h := h g16 g17
      have K := k9_tr K p18.2
      refine ⟨?_, ?_⟩
      · intro c19
        have h := h.1 c19
        refine cm_X11_isWord (ky_X11_isWord (b := b) hU (fun q hq => hL q ((by decide : ∀ q ∈ kyL_X11_isWord, q ∈ kyL_X11_readSide) q hq)) (fun z => z.elim) h) h (fun x20 x21 p24 h g22 g23 => ?_)
        have h := h g22 g23
        have K := k9_tr K p24.2
        refine ⟨?_, ?_⟩
        · intro c25
          have h := h.1 c25
          exact ky_X11_readSide_53 hU hL hb h K
        · intro c26
          have h := h.2 c26
          exact ky_X11_readSide_53 hU hL hb h K
      · intro c27
        have h := h.2 c27
        exact ky_X11_readSide_53 hU hL hb h K
    · intro c28
      have h := h.2 c28
      exact ky_X11_readSide_53 hU hL hb h K
  · intro c29
    have h := h.2 c29
    exact ky_X11_readSide_53 hU hL hb h K
theorem ky_X11_readSide {b : Bool} {L : List (Nat × Nat)} (hU : ∀ q ∈ L, q ∈ nyT) (hL : ∀ q ∈ kyL_X11_readSide, q ∈ L) (hb : False → b = false) {Q : Int32 → HS → Prop} {v0 : Nat} {S : HS} (h : P_X11_readSide v0 Q S) : P_X11_readSide v0 (fun r T => Q r T ∧ K9 b L S T) S := ky_X11_readSide_0 hU hL hb h (k9_rf b L S)
abbrev kyL_X11_readRain : List (Nat × Nat) := []
set_option maxRecDepth 20000 in
set_option maxHeartbeats 1000000 in
theorem ky_X11_readRain_0 {b : Bool} {L : List (Nat × Nat)} (hU : ∀ q ∈ L, q ∈ nyT) (hL : ∀ q ∈ kyL_X11_readRain, q ∈ L) (hb : False → b = false) {Q : HS → Prop} {v0 : Nat} {S0 S : HS} (h : P_X11_readRain_0 Q v0 S) (K : K9 b L S0 S) : P_X11_readRain_0 (fun T => Q T ∧ K9 b L S0 T) v0 S := by
  delta P_X11_readRain_0 at h ⊢
  obtain ⟨c1, h⟩ := h
  refine ⟨c1, ?_⟩
  have o2 := c1
  obtain ⟨b3, e4, h⟩ := h
  refine ⟨b3, e4, ?_⟩
  obtain ⟨c5, h⟩ := h
  refine ⟨c5, ?_⟩
  intro x7 e6
  have h := h x7 e6
  refine cm_X11_begins (ky_X11_begins (b := b) hU (fun q hq => hL q ((by decide : ∀ q ∈ kyL_X11_begins, q ∈ kyL_X11_readRain) q hq)) (fun z => z.elim) h) h (fun x8 p10 h g9 => ?_)
  have h := h g9
  have K := k9_tr K p10.2
  have o2 := gr_ob p10.2.1 o2
  refine cm_X11_readPart (ky_X11_readPart (b := b) hU (fun q hq => hL q ((by decide : ∀ q ∈ kyL_X11_readPart, q ∈ kyL_X11_readRain) q hq)) (fun z => z.elim) h) h (fun x11 x12 p14 h g13 => ?_)
  have h := h g13
  have K := k9_tr K p14.2
  have o2 := gr_ob p14.2.1 o2
  refine cm_X11_readPart (ky_X11_readPart (b := b) hU (fun q hq => hL q ((by decide : ∀ q ∈ kyL_X11_readPart, q ∈ kyL_X11_readRain) q hq)) (fun z => z.elim) h) h (fun x15 x16 p18 h g17 => ?_)
  have h := h g17
  have K := k9_tr K p18.2
  have o2 := gr_ob p18.2.1 o2
  refine cm_X11_needs (ky_X11_needs (b := b) hU (fun q hq => hL q ((by decide : ∀ q ∈ kyL_X11_needs, q ∈ kyL_X11_readRain) q hq)) (fun z => z.elim) h) h (fun x19 p21 h g20 => ?_)
  have h := h g20
  have K := k9_tr K p21.2
  have o2 := gr_ob p21.2.1 o2
  refine cm_X11_readSide (ky_X11_readSide (b := b) hU (fun q hq => hL q ((by decide : ∀ q ∈ kyL_X11_readSide, q ∈ kyL_X11_readRain) q hq)) (fun z => z.elim) h) h (fun x22 x23 p25 h g24 => ?_)
  have h := h g24
  have K := k9_tr K p25.2
  have o2 := gr_ob p25.2.1 o2
  refine cm_X11_readWhole (ky_X11_readWhole (b := b) hU (fun q hq => hL q ((by decide : ∀ q ∈ kyL_X11_readWhole, q ∈ kyL_X11_readRain) q hq)) (fun z => z.elim) h) h (fun x26 x27 p29 h g28 => ?_)
  have h := h g28
  have K := k9_tr K p29.2
  have o2 := gr_ob p29.2.1 o2
  refine cm_X11_readPart (ky_X11_readPart (b := b) hU (fun q hq => hL q ((by decide : ∀ q ∈ kyL_X11_readPart, q ∈ kyL_X11_readRain) q hq)) (fun z => z.elim) h) h (fun x30 x31 p33 h g32 => ?_)
  have h := h g32
  have K := k9_tr K p33.2
  have o2 := gr_ob p33.2.1 o2
  intro x35 e34
  have h := h x35 e34
  refine ⟨?_, ?_⟩
  · intro c36
    have h := h.1 c36
    obtain ⟨b37, e38, h⟩ := h
    refine ⟨b37, e38, ?_⟩
    obtain ⟨c39, h⟩ := h
    refine ⟨c39, ?_⟩
    have o40 := c39
    obtain ⟨b41, e42, h⟩ := h
    refine ⟨b41, e42, ?_⟩
    obtain ⟨b43, e44, h⟩ := h
    refine ⟨b43, e44, ?_⟩
    obtain ⟨c45, h⟩ := h
    refine ⟨c45, ?_⟩
    intro x47 e46
    have h := h x47 e46
    obtain ⟨c48, h⟩ := h
    refine ⟨c48, ?_⟩
    obtain ⟨c49, h⟩ := h
    refine ⟨c49, ?_⟩
    intro x51 e50
    have h := h x51 e50
    have K := k9_I K e50
    have o2 := ob_wI o2 e50
    have o40 := ob_wI o40 e50
    obtain ⟨b52, e53, h⟩ := h
    refine ⟨b52, e53, ?_⟩
    obtain ⟨c54, h⟩ := h
    refine ⟨c54, ?_⟩
    have o55 := c54
    obtain ⟨b56, e57, h⟩ := h
    refine ⟨b56, e57, ?_⟩
    obtain ⟨b58, e59, h⟩ := h
    refine ⟨b58, e59, ?_⟩
    obtain ⟨c60, h⟩ := h
    refine ⟨c60, ?_⟩
    intro x62 e61
    have h := h x62 e61
    obtain ⟨c63, h⟩ := h
    refine ⟨c63, ?_⟩
    obtain ⟨c64, h⟩ := h
    refine ⟨c64, ?_⟩
    intro x66 e65
    have h := h x66 e65
    have K := k9_I K e65
    have o2 := ob_wI o2 e65
    have o40 := ob_wI o40 e65
    have o55 := ob_wI o55 e65
    obtain ⟨b67, e68, h⟩ := h
    refine ⟨b67, e68, ?_⟩
    obtain ⟨c69, h⟩ := h
    refine ⟨c69, ?_⟩
    have o70 := c69
    obtain ⟨b71, e72, h⟩ := h
    refine ⟨b71, e72, ?_⟩
    obtain ⟨b73, e74, h⟩ := h
    refine ⟨b73, e74, ?_⟩
    obtain ⟨c75, h⟩ := h
    refine ⟨c75, ?_⟩
    intro x77 e76
    have h := h x77 e76
    obtain ⟨c78, h⟩ := h
    refine ⟨c78, ?_⟩
    obtain ⟨c79, h⟩ := h
    refine ⟨c79, ?_⟩
    intro x81 e80
    have h := h x81 e80
    have K := k9_I K e80
    have o2 := ob_wI o2 e80
    have o40 := ob_wI o40 e80
    have o55 := ob_wI o55 e80
    have o70 := ob_wI o70 e80
    obtain ⟨b82, e83, h⟩ := h
    refine ⟨b82, e83, ?_⟩
    obtain ⟨c84, h⟩ := h
    refine ⟨c84, ?_⟩
    have o85 := c84
    obtain ⟨b86, e87, h⟩ := h
    refine ⟨b86, e87, ?_⟩
    obtain ⟨b88, e89, h⟩ := h
    refine ⟨b88, e89, ?_⟩
    obtain ⟨c90, h⟩ := h
    refine ⟨c90, ?_⟩
    intro x92 e91
    have h := h x92 e91
    obtain ⟨c93, h⟩ := h
    refine ⟨c93, ?_⟩
    obtain ⟨c94, h⟩ := h
    refine ⟨c94, ?_⟩
    intro x96 e95
    have h := h x96 e95
    have K := k9_I K e95
    have o2 := ob_wI o2 e95
    have o40 := ob_wI o40 e95
    have o55 := ob_wI o55 e95
    have o70 := ob_wI o70 e95
    have o85 := ob_wI o85 e95
    obtain ⟨b97, e98, h⟩ := h
    refine ⟨b97, e98, ?_⟩
    obtain ⟨c99, h⟩ := h
    refine ⟨c99, ?_⟩
    have o100 := c99
    obtain ⟨b101, e102, h⟩ := h
    refine ⟨b101, e102, ?_⟩
    obtain ⟨b103, e104, h⟩ := h
    refine ⟨b103, e104, ?_⟩
    obtain ⟨c105, h⟩ := h
    refine ⟨c105, ?_⟩
    intro x107 e106
    have h := h x107 e106
    obtain ⟨c108, h⟩ := h
    refine ⟨c108, ?_⟩
    obtain ⟨c109, h⟩ := h
    refine ⟨c109, ?_⟩
    intro x111 e110
    have h := h x111 e110
    have K := k9_I K e110
    have o2 := ob_wI o2 e110
    have o40 := ob_wI o40 e110
    have o55 := ob_wI o55 e110
    have o70 := ob_wI o70 e110
    have o85 := ob_wI o85 e110
    have o100 := ob_wI o100 e110
    obtain ⟨b112, e113, h⟩ := h
    refine ⟨b112, e113, ?_⟩
    obtain ⟨c114, h⟩ := h
    refine ⟨c114, ?_⟩
    intro x116 e115
    have h := h x116 e115
    intro x118 e117
    have h := h x118 e117
    intro x120 e119
    have h := h x120 e119
    have K := k9_I K e119
    have o2 := ob_wI o2 e119
    have o40 := ob_wI o40 e119
    have o55 := ob_wI o55 e119
    have o70 := ob_wI o70 e119
    have o85 := ob_wI o85 e119
    have o100 := ob_wI o100 e119
    exact ⟨h, K⟩
  · intro c121
    have h := h.2 c121
    exact ⟨h, K⟩
theorem ky_X11_readRain {b : Bool} {L : List (Nat × Nat)} (hU : ∀ q ∈ L, q ∈ nyT) (hL : ∀ q ∈ kyL_X11_readRain, q ∈ L) (hb : False → b = false) {Q : HS → Prop} {v0 : Nat} {S : HS} (h : P_X11_readRain v0 Q S) : P_X11_readRain v0 (fun T => Q T ∧ K9 b L S T) S := ky_X11_readRain_0 hU hL hb h (k9_rf b L S)
abbrev kyL_X11_readRoad : List (Nat × Nat) := []
set_option maxRecDepth 20000 in
set_option maxHeartbeats 1000000 in
theorem ky_X11_readRoad_85 {b : Bool} {L : List (Nat × Nat)} (hU : ∀ q ∈ L, q ∈ nyT) (hL : ∀ q ∈ kyL_X11_readRoad, q ∈ L) (hb : False → b = false) {Q : HS → Prop} {v0 : Nat} {v1 : Int32} {v2 : Int32} {v3 : Int32} {v4 : Int32} {s0 : Int32} {S0 S : HS} (h : P_X11_readRoad_85 Q v0 v1 v2 v3 v4 s0 S) (K : K9 b L S0 S) : P_X11_readRoad_85 (fun T => Q T ∧ K9 b L S0 T) v0 v1 v2 v3 v4 s0 S := by
  delta P_X11_readRoad_85 at h ⊢
  obtain ⟨c1, h⟩ := h
  refine ⟨c1, ?_⟩
  have o2 := c1
  intro x4 e3
  have h := h x4 e3
  refine ⟨?_, ?_⟩
  · intro c5
    have h := h.1 c5
    obtain ⟨b6, e7, h⟩ := h
    refine ⟨b6, e7, ?_⟩
    obtain ⟨c8, h⟩ := h
    refine ⟨c8, ?_⟩
    intro x10 e9
    have h := h x10 e9
    obtain ⟨b11, e12, h⟩ := h
    refine ⟨b11, e12, ?_⟩
    obtain ⟨c13, h⟩ := h
    refine ⟨c13, ?_⟩
    have o14 := c13
    obtain ⟨b15, e16, h⟩ := h
    refine ⟨b15, e16, ?_⟩
    obtain ⟨c17, h⟩ := h
    refine ⟨c17, ?_⟩
    obtain ⟨c18, h⟩ := h
    refine ⟨c18, ?_⟩
    intro x20 e19
    have h := h x20 e19
    have K := k9_I K e19
    have o2 := ob_wI o2 e19
    have o14 := ob_wI o14 e19
    obtain ⟨b21, e22, h⟩ := h
    refine ⟨b21, e22, ?_⟩
    obtain ⟨c23, h⟩ := h
    refine ⟨c23, ?_⟩
    have o24 := c23
    obtain ⟨b25, e26, h⟩ := h
    refine ⟨b25, e26, ?_⟩
    obtain ⟨c27, h⟩ := h
    refine ⟨c27, ?_⟩
    obtain ⟨c28, h⟩ := h
    refine ⟨c28, ?_⟩
    intro x30 e29
    have h := h x30 e29
    have K := k9_I K e29
    have o2 := ob_wI o2 e29
    have o14 := ob_wI o14 e29
    have o24 := ob_wI o24 e29
    obtain ⟨b31, e32, h⟩ := h
    refine ⟨b31, e32, ?_⟩
    obtain ⟨c33, h⟩ := h
    refine ⟨c33, ?_⟩
    have o34 := c33
    obtain ⟨b35, e36, h⟩ := h
    refine ⟨b35, e36, ?_⟩
    obtain ⟨c37, h⟩ := h
    refine ⟨c37, ?_⟩
    obtain ⟨c38, h⟩ := h
    refine ⟨c38, ?_⟩
    intro x40 e39
    have h := h x40 e39
    have K := k9_I K e39
    have o2 := ob_wI o2 e39
    have o14 := ob_wI o14 e39
    have o24 := ob_wI o24 e39
    have o34 := ob_wI o34 e39
    obtain ⟨b41, e42, h⟩ := h
    refine ⟨b41, e42, ?_⟩
    obtain ⟨c43, h⟩ := h
    refine ⟨c43, ?_⟩
    have o44 := c43
    obtain ⟨b45, e46, h⟩ := h
    refine ⟨b45, e46, ?_⟩
    obtain ⟨c47, h⟩ := h
    refine ⟨c47, ?_⟩
    obtain ⟨c48, h⟩ := h
    refine ⟨c48, ?_⟩
    intro x50 e49
    have h := h x50 e49
    have K := k9_I K e49
    have o2 := ob_wI o2 e49
    have o14 := ob_wI o14 e49
    have o24 := ob_wI o24 e49
    have o34 := ob_wI o34 e49
    have o44 := ob_wI o44 e49
    obtain ⟨b51, e52, h⟩ := h
    refine ⟨b51, e52, ?_⟩
    obtain ⟨c53, h⟩ := h
    refine ⟨c53, ?_⟩
    have o54 := c53
    obtain ⟨b55, e56, h⟩ := h
    refine ⟨b55, e56, ?_⟩
    obtain ⟨c57, h⟩ := h
    refine ⟨c57, ?_⟩
    obtain ⟨c58, h⟩ := h
    refine ⟨c58, ?_⟩
    intro x60 e59
    have h := h x60 e59
    have K := k9_I K e59
    have o2 := ob_wI o2 e59
    have o14 := ob_wI o14 e59
    have o24 := ob_wI o24 e59
    have o34 := ob_wI o34 e59
    have o44 := ob_wI o44 e59
    have o54 := ob_wI o54 e59
    obtain ⟨b61, e62, h⟩ := h
    refine ⟨b61, e62, ?_⟩
    obtain ⟨c63, h⟩ := h
    refine ⟨c63, ?_⟩
    intro x65 e64
    have h := h x65 e64
    intro x67 e66
    have h := h x67 e66
    intro x69 e68
    have h := h x69 e68
    have K := k9_I K e68
    have o2 := ob_wI o2 e68
    have o14 := ob_wI o14 e68
    have o24 := ob_wI o24 e68
    have o34 := ob_wI o34 e68
    have o44 := ob_wI o44 e68
    have o54 := ob_wI o54 e68
    exact ⟨h, K⟩
  · intro c70
    have h := h.2 c70
    exact ⟨h, K⟩
set_option maxRecDepth 20000 in
set_option maxHeartbeats 1000000 in
theorem ky_X11_readRoad_62 {b : Bool} {L : List (Nat × Nat)} (hU : ∀ q ∈ L, q ∈ nyT) (hL : ∀ q ∈ kyL_X11_readRoad, q ∈ L) (hb : False → b = false) {Q : HS → Prop} {v0 : Nat} {v1 : Int32} {v2 : Int32} {v3 : Int32} {v4 : Int32} {S0 S : HS} (h : P_X11_readRoad_62 Q v0 v1 v2 v3 v4 S) (K : K9 b L S0 S) : P_X11_readRoad_62 (fun T => Q T ∧ K9 b L S0 T) v0 v1 v2 v3 v4 S := by
  delta P_X11_readRoad_62 at h ⊢
  obtain ⟨c1, h⟩ := h
  refine ⟨c1, ?_⟩
  refine cm_X11_goesOn (ky_X11_goesOn (b := b) hU (fun q hq => hL q ((by decide : ∀ q ∈ kyL_X11_goesOn, q ∈ kyL_X11_readRoad) q hq)) (fun z => z.elim) h) h (fun x2 p4 h g3 => ?_)
  have h := h g3
  have K := k9_tr K p4.2
  refine cm_X11_eatsWord (ky_X11_eatsWord (b := b) hU (fun q hq => hL q ((by decide : ∀ q ∈ kyL_X11_eatsWord, q ∈ kyL_X11_readRoad) q hq)) (fun z => z.elim) h) h (fun x5 x6 p9 h g7 g8 => ?_)
  have h := h g7 g8
  have K := k9_tr K p9.2
  refine ⟨?_, ?_⟩
  · intro c10
    have h := h.1 c10
    exact ky_X11_readRoad_85 hU hL hb h K
  · intro c11
    have h := h.2 c11
    refine cm_X11_readWhole (ky_X11_readWhole (b := b) hU (fun q hq => hL q ((by decide : ∀ q ∈ kyL_X11_readWhole, q ∈ kyL_X11_readRoad) q hq)) (fun z => z.elim) h) h (fun x12 x13 p15 h g14 => ?_)
    have h := h g14
    have K := k9_tr K p15.2
    exact ky_X11_readRoad_85 hU hL hb h K
set_option maxRecDepth 20000 in
set_option maxHeartbeats 1000000 in
theorem ky_X11_readRoad_0 {b : Bool} {L : List (Nat × Nat)} (hU : ∀ q ∈ L, q ∈ nyT) (hL : ∀ q ∈ kyL_X11_readRoad, q ∈ L) (hb : False → b = false) {Q : HS → Prop} {v0 : Nat} {S0 S : HS} (h : P_X11_readRoad_0 Q v0 S) (K : K9 b L S0 S) : P_X11_readRoad_0 (fun T => Q T ∧ K9 b L S0 T) v0 S := by
  delta P_X11_readRoad_0 at h ⊢
  obtain ⟨c1, h⟩ := h
  refine ⟨c1, ?_⟩
  have o2 := c1
  obtain ⟨b3, e4, h⟩ := h
  refine ⟨b3, e4, ?_⟩
  obtain ⟨c5, h⟩ := h
  refine ⟨c5, ?_⟩
  intro x7 e6
  have h := h x7 e6
  refine cm_X11_begins (ky_X11_begins (b := b) hU (fun q hq => hL q ((by decide : ∀ q ∈ kyL_X11_begins, q ∈ kyL_X11_readRoad) q hq)) (fun z => z.elim) h) h (fun x8 p10 h g9 => ?_)
  have h := h g9
  have K := k9_tr K p10.2
  have o2 := gr_ob p10.2.1 o2
  refine cm_X11_known (ky_X11_known (b := b) hU (fun q hq => hL q ((by decide : ∀ q ∈ kyL_X11_known, q ∈ kyL_X11_readRoad) q hq)) (fun z => z.elim) h) h (fun x11 x12 p14 h g13 => ?_)
  have h := h g13
  have K := k9_tr K p14.2
  have o2 := gr_ob p14.2.1 o2
  refine cm_X11_goesOn (ky_X11_goesOn (b := b) hU (fun q hq => hL q ((by decide : ∀ q ∈ kyL_X11_goesOn, q ∈ kyL_X11_readRoad) q hq)) (fun z => z.elim) h) h (fun x15 p17 h g16 => ?_)
  have h := h g16
  have K := k9_tr K p17.2
  have o2 := gr_ob p17.2.1 o2
  refine cm_X11_readSide (ky_X11_readSide (b := b) hU (fun q hq => hL q ((by decide : ∀ q ∈ kyL_X11_readSide, q ∈ kyL_X11_readRoad) q hq)) (fun z => z.elim) h) h (fun x18 x19 p21 h g20 => ?_)
  have h := h g20
  have K := k9_tr K p21.2
  have o2 := gr_ob p21.2.1 o2
  refine cm_X11_readWhole (ky_X11_readWhole (b := b) hU (fun q hq => hL q ((by decide : ∀ q ∈ kyL_X11_readWhole, q ∈ kyL_X11_readRoad) q hq)) (fun z => z.elim) h) h (fun x22 x23 p25 h g24 => ?_)
  have h := h g24
  have K := k9_tr K p25.2
  have o2 := gr_ob p25.2.1 o2
  refine cm_X11_known (ky_X11_known (b := b) hU (fun q hq => hL q ((by decide : ∀ q ∈ kyL_X11_known, q ∈ kyL_X11_readRoad) q hq)) (fun z => z.elim) h) h (fun x26 x27 p29 h g28 => ?_)
  have h := h g28
  have K := k9_tr K p29.2
  have o2 := gr_ob p29.2.1 o2
  intro x31 e30
  have h := h x31 e30
  refine ⟨?_, ?_⟩
  · intro c32
    have h := h.1 c32
    exact ky_X11_readRoad_62 hU hL hb h K
  · intro c33
    have h := h.2 c33
    refine ⟨?_, ?_⟩
    · intro c34
      have h := h.1 c34
      exact ky_X11_readRoad_62 hU hL hb h K
    · intro c35
      have h := h.2 c35
      refine cm_X11_flaw (ky_X11_flaw (b := b) hU (fun q hq => hL q ((by decide : ∀ q ∈ kyL_X11_flaw, q ∈ kyL_X11_readRoad) q hq)) (fun z => z.elim) h) h (fun x36 p38 h g37 => ?_)
      have h := h g37
      have K := k9_tr K p38.2
      have o2 := gr_ob p38.2.1 o2
      exact ky_X11_readRoad_62 hU hL hb h K
theorem ky_X11_readRoad {b : Bool} {L : List (Nat × Nat)} (hU : ∀ q ∈ L, q ∈ nyT) (hL : ∀ q ∈ kyL_X11_readRoad, q ∈ L) (hb : False → b = false) {Q : HS → Prop} {v0 : Nat} {S : HS} (h : P_X11_readRoad v0 Q S) : P_X11_readRoad v0 (fun T => Q T ∧ K9 b L S T) S := ky_X11_readRoad_0 hU hL hb h (k9_rf b L S)
abbrev kyL_X11_readSeen : List (Nat × Nat) := []
set_option maxRecDepth 20000 in
set_option maxHeartbeats 1000000 in
theorem ky_X11_readSeen_47 {b : Bool} {L : List (Nat × Nat)} (hU : ∀ q ∈ L, q ∈ nyT) (hL : ∀ q ∈ kyL_X11_readSeen, q ∈ L) (hb : False → b = false) {Q : HS → Prop} {X24 X24_2 : Nat → Int32 → Int32 → HS → Prop} {v0 : Nat} {v1 : Int32} {v2 : Int32} {S0 S : HS} (h : P_X11_readSeen_47 Q X24 v0 v1 v2 S) (K : K9 b L S0 S) (hX24 : ∀ (u0 : Nat) (u1 : Int32) (u2 : Int32) (u3 : HS), X24 u0 u1 u2 u3 → K9 b L S0 u3 → X24_2 u0 u1 u2 u3) : P_X11_readSeen_47 (fun T => Q T ∧ K9 b L S0 T) X24_2 v0 v1 v2 S := by
  delta P_X11_readSeen_47 at h ⊢
  obtain ⟨c1, h⟩ := h
  refine ⟨c1, ?_⟩
  have o2 := c1
  refine cm_X11_readWhole (ky_X11_readWhole (b := b) hU (fun q hq => hL q ((by decide : ∀ q ∈ kyL_X11_readWhole, q ∈ kyL_X11_readSeen) q hq)) (fun z => z.elim) h) h (fun x3 x4 p6 h g5 => ?_)
  have h := h g5
  have K := k9_tr K p6.2
  have o2 := gr_ob p6.2.1 o2
  intro x8 e7
  have h := h x8 e7
  refine ⟨?_, ?_⟩
  · intro c9
    have h := h.1 c9
    obtain ⟨b10, e11, h⟩ := h
    refine ⟨b10, e11, ?_⟩
    obtain ⟨c12, h⟩ := h
    refine ⟨c12, ?_⟩
    have o13 := c12
    obtain ⟨b14, e15, h⟩ := h
    refine ⟨b14, e15, ?_⟩
    obtain ⟨b16, e17, h⟩ := h
    refine ⟨b16, e17, ?_⟩
    obtain ⟨c18, h⟩ := h
    refine ⟨c18, ?_⟩
    intro x20 e19
    have h := h x20 e19
    obtain ⟨c21, h⟩ := h
    refine ⟨c21, ?_⟩
    obtain ⟨c22, h⟩ := h
    refine ⟨c22, ?_⟩
    intro x24 e23
    have h := h x24 e23
    have K := k9_I K e23
    have o2 := ob_wI o2 e23
    have o13 := ob_wI o13 e23
    intro x26 e25
    have h := h x26 e25
    exact hX24 _ _ _ _ h K
  · intro c27
    have h := h.2 c27
    exact ⟨h, K⟩
set_option maxRecDepth 20000 in
set_option maxHeartbeats 1000000 in
theorem kyB_X11_readSeen_24 {b : Bool} {L : List (Nat × Nat)} (hU : ∀ q ∈ L, q ∈ nyT) (hL : ∀ q ∈ kyL_X11_readSeen, q ∈ L) (hb : False → b = false) {Q : HS → Prop} {X24 X24_2 : Nat → Int32 → Int32 → HS → Prop} {v0 : Nat} {v1 : Int32} {v2 : Int32} {S0 S : HS} (h : B_X11_readSeen_24 Q X24 v0 v1 v2 S) (K : K9 b L S0 S) (hX24 : ∀ (u0 : Nat) (u1 : Int32) (u2 : Int32) (u3 : HS), X24 u0 u1 u2 u3 → K9 b L S0 u3 → X24_2 u0 u1 u2 u3) : B_X11_readSeen_24 (fun T => Q T ∧ K9 b L S0 T) X24_2 v0 v1 v2 S := by
  delta B_X11_readSeen_24 at h ⊢
  refine ⟨?_, ?_⟩
  · intro c1
    have h := h.1 c1
    obtain ⟨c2, h⟩ := h
    refine ⟨c2, ?_⟩
    have o3 := c2
    obtain ⟨b4, e5, h⟩ := h
    refine ⟨b4, e5, ?_⟩
    obtain ⟨c6, h⟩ := h
    refine ⟨c6, ?_⟩
    have o7 := c6
    obtain ⟨b8, e9, h⟩ := h
    refine ⟨b8, e9, ?_⟩
    obtain ⟨b10, e11, h⟩ := h
    refine ⟨b10, e11, ?_⟩
    obtain ⟨c12, h⟩ := h
    refine ⟨c12, ?_⟩
    intro x14 e13
    have h := h x14 e13
    obtain ⟨c15, h⟩ := h
    refine ⟨c15, ?_⟩
    obtain ⟨c16, h⟩ := h
    refine ⟨c16, ?_⟩
    intro x18 e17
    have h := h x18 e17
    have K := k9_I K e17
    have o3 := ob_wI o3 e17
    have o7 := ob_wI o7 e17
    obtain ⟨b19, e20, h⟩ := h
    refine ⟨b19, e20, ?_⟩
    obtain ⟨c21, h⟩ := h
    refine ⟨c21, ?_⟩
    intro x23 e22
    have h := h x23 e22
    intro x25 e24
    have h := h x25 e24
    intro x27 e26
    have h := h x27 e26
    have K := k9_I K e26
    have o3 := ob_wI o3 e26
    have o7 := ob_wI o7 e26
    exact ⟨h, K⟩
  · intro c28
    have h := h.2 c28
    refine ⟨?_, ?_⟩
    · intro c29
      have h := h.1 c29
      exact ky_X11_readSeen_47 hU hL hb h K hX24
    · intro c30
      have h := h.2 c30
      obtain ⟨c31, h⟩ := h
      refine ⟨c31, ?_⟩
      have o32 := c31
      refine cm_X11_eatsSign (ky_X11_eatsSign (b := b) hU (fun q hq => hL q ((by decide : ∀ q ∈ kyL_X11_eatsSign, q ∈ kyL_X11_readSeen) q hq)) (fun z => z.elim) h) h (fun x33 x34 p37 h g35 g36 => ?_)
      have h := h g35 g36
      have K := k9_tr K p37.2
      have o32 := gr_ob p37.2.1 o32
      refine ⟨?_, ?_⟩
      · intro c38
        have h := h.1 c38
        exact ky_X11_readSeen_47 hU hL hb h K hX24
      · intro c39
        have h := h.2 c39
        refine cm_X11_flaw (ky_X11_flaw (b := b) hU (fun q hq => hL q ((by decide : ∀ q ∈ kyL_X11_flaw, q ∈ kyL_X11_readSeen) q hq)) (fun z => z.elim) h) h (fun x40 p42 h g41 => ?_)
        have h := h g41
        have K := k9_tr K p42.2
        have o32 := gr_ob p42.2.1 o32
        exact ky_X11_readSeen_47 hU hL hb h K hX24
theorem ky_X11_readSeen_24 {b : Bool} {L : List (Nat × Nat)} (hU : ∀ q ∈ L, q ∈ nyT) (hL : ∀ q ∈ kyL_X11_readSeen, q ∈ L) (hb : False → b = false) {Q : HS → Prop} {v0 : Nat} {v1 : Int32} {v2 : Int32} {S0 S : HS} (h : P_X11_readSeen_24 Q v0 v1 v2 S) (K : K9 b L S0 S) : P_X11_readSeen_24 (fun T => Q T ∧ K9 b L S0 T) v0 v1 v2 S := h (fun v0 v1 v2 S => K9 b L S0 S → P_X11_readSeen_24 (fun T => Q T ∧ K9 b L S0 T) v0 v1 v2 S) (fun v0 v1 v2 S hB K => fd_X11_readSeen_24 (kyB_X11_readSeen_24 hU hL hb hB K (fun _ _ _ _ hx K => hx K))) K
set_option maxRecDepth 20000 in
set_option maxHeartbeats 1000000 in
theorem ky_X11_readSeen_0 {b : Bool} {L : List (Nat × Nat)} (hU : ∀ q ∈ L, q ∈ nyT) (hL : ∀ q ∈ kyL_X11_readSeen, q ∈ L) (hb : False → b = false) {Q : HS → Prop} {v0 : Nat} {S0 S : HS} (h : P_X11_readSeen_0 Q v0 S) (K : K9 b L S0 S) : P_X11_readSeen_0 (fun T => Q T ∧ K9 b L S0 T) v0 S := by
  delta P_X11_readSeen_0 at h ⊢
  obtain ⟨c1, h⟩ := h
  refine ⟨c1, ?_⟩
  have o2 := c1
  obtain ⟨b3, e4, h⟩ := h
  refine ⟨b3, e4, ?_⟩
  obtain ⟨c5, h⟩ := h
  refine ⟨c5, ?_⟩
  intro x7 e6
  have h := h x7 e6
  refine cm_X11_begins (ky_X11_begins (b := b) hU (fun q hq => hL q ((by decide : ∀ q ∈ kyL_X11_begins, q ∈ kyL_X11_readSeen) q hq)) (fun z => z.elim) h) h (fun x8 p10 h g9 => ?_)
  have h := h g9
  have K := k9_tr K p10.2
  have o2 := gr_ob p10.2.1 o2
  refine cm_X11_known (ky_X11_known (b := b) hU (fun q hq => hL q ((by decide : ∀ q ∈ kyL_X11_known, q ∈ kyL_X11_readSeen) q hq)) (fun z => z.elim) h) h (fun x11 x12 p14 h g13 => ?_)
  have h := h g13
  have K := k9_tr K p14.2
  have o2 := gr_ob p14.2.1 o2
  refine cm_X11_goesOn (ky_X11_goesOn (b := b) hU (fun q hq => hL q ((by decide : ∀ q ∈ kyL_X11_goesOn, q ∈ kyL_X11_readSeen) q hq)) (fun z => z.elim) h) h (fun x15 p17 h g16 => ?_)
  have h := h g16
  have K := k9_tr K p17.2
  have o2 := gr_ob p17.2.1 o2
  exact ky_X11_readSeen_24 hU hL hb h K
theorem ky_X11_readSeen {b : Bool} {L : List (Nat × Nat)} (hU : ∀ q ∈ L, q ∈ nyT) (hL : ∀ q ∈ kyL_X11_readSeen, q ∈ L) (hb : False → b = false) {Q : HS → Prop} {v0 : Nat} {S : HS} (h : P_X11_readSeen v0 Q S) : P_X11_readSeen v0 (fun T => Q T ∧ K9 b L S T) S := ky_X11_readSeen_0 hU hL hb h (k9_rf b L S)
abbrev kyL_X11_readWalker : List (Nat × Nat) := [(10, 28)]
set_option maxRecDepth 20000 in
set_option maxHeartbeats 1000000 in
theorem ky_X11_readWalker_149 {b : Bool} {L : List (Nat × Nat)} (hU : ∀ q ∈ L, q ∈ nyT) (hL : ∀ q ∈ kyL_X11_readWalker, q ∈ L) (hb : False → b = false) {Q : HS → Prop} {v0 : Nat} {v1 : Int64} {v3 : Int32} {v4 : Int32} {s0 : Int32} {S0 S : HS} (h : P_X11_readWalker_149 Q v0 v1 v3 v4 s0 S) (K : K9 b L S0 S) : P_X11_readWalker_149 (fun T => Q T ∧ K9 b L S0 T) v0 v1 v3 v4 s0 S := by
  delta P_X11_readWalker_149 at h ⊢
  obtain ⟨c1, h⟩ := h
  refine ⟨c1, ?_⟩
  have o2 := c1
  refine cm_X11_readPart (ky_X11_readPart (b := b) hU (fun q hq => hL q ((by decide : ∀ q ∈ kyL_X11_readPart, q ∈ kyL_X11_readWalker) q hq)) (fun z => z.elim) h) h (fun x3 x4 p6 h g5 => ?_)
  have h := h g5
  have K := k9_tr K p6.2
  have o2 := gr_ob p6.2.1 o2
  refine cm_X11_readPart (ky_X11_readPart (b := b) hU (fun q hq => hL q ((by decide : ∀ q ∈ kyL_X11_readPart, q ∈ kyL_X11_readWalker) q hq)) (fun z => z.elim) h) h (fun x7 x8 p10 h g9 => ?_)
  have h := h g9
  have K := k9_tr K p10.2
  have o2 := gr_ob p10.2.1 o2
  refine cm_X11_readPart (ky_X11_readPart (b := b) hU (fun q hq => hL q ((by decide : ∀ q ∈ kyL_X11_readPart, q ∈ kyL_X11_readWalker) q hq)) (fun z => z.elim) h) h (fun x11 x12 p14 h g13 => ?_)
  have h := h g13
  have K := k9_tr K p14.2
  have o2 := gr_ob p14.2.1 o2
  refine cm_X11_readPart (ky_X11_readPart (b := b) hU (fun q hq => hL q ((by decide : ∀ q ∈ kyL_X11_readPart, q ∈ kyL_X11_readWalker) q hq)) (fun z => z.elim) h) h (fun x15 x16 p18 h g17 => ?_)
  have h := h g17
  have K := k9_tr K p18.2
  have o2 := gr_ob p18.2.1 o2
  refine cm_X11_readPart (ky_X11_readPart (b := b) hU (fun q hq => hL q ((by decide : ∀ q ∈ kyL_X11_readPart, q ∈ kyL_X11_readWalker) q hq)) (fun z => z.elim) h) h (fun x19 x20 p22 h g21 => ?_)
  have h := h g21
  have K := k9_tr K p22.2
  have o2 := gr_ob p22.2.1 o2
  intro x24 e23
  have h := h x24 e23
  refine ⟨?_, ?_⟩
  · intro c25
    have h := h.1 c25
    obtain ⟨b26, e27, h⟩ := h
    refine ⟨b26, e27, ?_⟩
    obtain ⟨c28, h⟩ := h
    refine ⟨c28, ?_⟩
    intro x30 e29
    have h := h x30 e29
    refine cm_X11_names (ky_X11_names (b := b) hU (fun q hq => hL q ((by decide : ∀ q ∈ kyL_X11_names, q ∈ kyL_X11_readWalker) q hq)) (fun z => z.elim) h) h (fun x31 p33 h g32 => ?_)
    have h := h g32
    have K := k9_tr K p33.2
    have o2 := gr_ob p33.2.1 o2
    obtain ⟨b34, e35, h⟩ := h
    refine ⟨b34, e35, ?_⟩
    obtain ⟨c36, h⟩ := h
    refine ⟨c36, ?_⟩
    have o37 := c36
    obtain ⟨b38, e39, h⟩ := h
    refine ⟨b38, e39, ?_⟩
    obtain ⟨c40, h⟩ := h
    refine ⟨c40, ?_⟩
    obtain ⟨c41, h⟩ := h
    refine ⟨c41, ?_⟩
    intro x43 e42
    have h := h x43 e42
    have K := k9_I K e42
    have o2 := ob_wI o2 e42
    have o37 := ob_wI o37 e42
    obtain ⟨b44, e45, h⟩ := h
    refine ⟨b44, e45, ?_⟩
    obtain ⟨c46, h⟩ := h
    refine ⟨c46, ?_⟩
    have o47 := c46
    obtain ⟨b48, e49, h⟩ := h
    refine ⟨b48, e49, ?_⟩
    obtain ⟨c50, h⟩ := h
    refine ⟨c50, ?_⟩
    obtain ⟨c51, h⟩ := h
    refine ⟨c51, ?_⟩
    intro x53 e52
    have h := h x53 e52
    have K := k9_I K e52
    have o2 := ob_wI o2 e52
    have o37 := ob_wI o37 e52
    have o47 := ob_wI o47 e52
    obtain ⟨b54, e55, h⟩ := h
    refine ⟨b54, e55, ?_⟩
    obtain ⟨c56, h⟩ := h
    refine ⟨c56, ?_⟩
    have o57 := c56
    obtain ⟨b58, e59, h⟩ := h
    refine ⟨b58, e59, ?_⟩
    obtain ⟨c60, h⟩ := h
    refine ⟨c60, ?_⟩
    intro x62 e61
    have h := h x62 e61
    obtain ⟨c63, h⟩ := h
    refine ⟨c63, ?_⟩
    intro x65 e64
    have h := h x65 e64
    have K := k9_I K e64
    have o2 := ob_wI o2 e64
    have o37 := ob_wI o37 e64
    have o47 := ob_wI o47 e64
    have o57 := ob_wI o57 e64
    obtain ⟨b66, e67, h⟩ := h
    refine ⟨b66, e67, ?_⟩
    obtain ⟨c68, h⟩ := h
    refine ⟨c68, ?_⟩
    have o69 := c68
    obtain ⟨b70, e71, h⟩ := h
    refine ⟨b70, e71, ?_⟩
    obtain ⟨c72, h⟩ := h
    refine ⟨c72, ?_⟩
    intro x74 e73
    have h := h x74 e73
    obtain ⟨c75, h⟩ := h
    refine ⟨c75, ?_⟩
    intro x77 e76
    have h := h x77 e76
    have K := k9_I K e76
    have o2 := ob_wI o2 e76
    have o37 := ob_wI o37 e76
    have o47 := ob_wI o47 e76
    have o57 := ob_wI o57 e76
    have o69 := ob_wI o69 e76
    obtain ⟨b78, e79, h⟩ := h
    refine ⟨b78, e79, ?_⟩
    obtain ⟨c80, h⟩ := h
    refine ⟨c80, ?_⟩
    have o81 := c80
    obtain ⟨b82, e83, h⟩ := h
    refine ⟨b82, e83, ?_⟩
    obtain ⟨c84, h⟩ := h
    refine ⟨c84, ?_⟩
    intro x86 e85
    have h := h x86 e85
    obtain ⟨c87, h⟩ := h
    refine ⟨c87, ?_⟩
    intro x89 e88
    have h := h x89 e88
    have K := k9_I K e88
    have o2 := ob_wI o2 e88
    have o37 := ob_wI o37 e88
    have o47 := ob_wI o47 e88
    have o57 := ob_wI o57 e88
    have o69 := ob_wI o69 e88
    have o81 := ob_wI o81 e88
    obtain ⟨b90, e91, h⟩ := h
    refine ⟨b90, e91, ?_⟩
    obtain ⟨c92, h⟩ := h
    refine ⟨c92, ?_⟩
    have o93 := c92
    obtain ⟨b94, e95, h⟩ := h
    refine ⟨b94, e95, ?_⟩
    obtain ⟨c96, h⟩ := h
    refine ⟨c96, ?_⟩
    obtain ⟨c97, h⟩ := h
    refine ⟨c97, ?_⟩
    intro x99 e98
    have h := h x99 e98
    have K := k9_I K e98
    have o2 := ob_wI o2 e98
    have o37 := ob_wI o37 e98
    have o47 := ob_wI o47 e98
    have o57 := ob_wI o57 e98
    have o69 := ob_wI o69 e98
    have o81 := ob_wI o81 e98
    have o93 := ob_wI o93 e98
    obtain ⟨b100, e101, h⟩ := h
    refine ⟨b100, e101, ?_⟩
    obtain ⟨c102, h⟩ := h
    refine ⟨c102, ?_⟩
    have o103 := c102
    obtain ⟨b104, e105, h⟩ := h
    refine ⟨b104, e105, ?_⟩
    obtain ⟨c106, h⟩ := h
    refine ⟨c106, ?_⟩
    obtain ⟨c107, h⟩ := h
    refine ⟨c107, ?_⟩
    intro x109 e108
    have h := h x109 e108
    have K := k9_I K e108
    have o2 := ob_wI o2 e108
    have o37 := ob_wI o37 e108
    have o47 := ob_wI o47 e108
    have o57 := ob_wI o57 e108
    have o69 := ob_wI o69 e108
    have o81 := ob_wI o81 e108
    have o93 := ob_wI o93 e108
    have o103 := ob_wI o103 e108
    obtain ⟨b110, e111, h⟩ := h
    refine ⟨b110, e111, ?_⟩
    obtain ⟨c112, h⟩ := h
    refine ⟨c112, ?_⟩
    intro x114 e113
    have h := h x114 e113
    intro x116 e115
    have h := h x116 e115
    intro x118 e117
    have h := h x118 e117
    have K := k9_I K e117
    have o2 := ob_wI o2 e117
    have o37 := ob_wI o37 e117
    have o47 := ob_wI o47 e117
    have o57 := ob_wI o57 e117
    have o69 := ob_wI o69 e117
    have o81 := ob_wI o81 e117
    have o93 := ob_wI o93 e117
    have o103 := ob_wI o103 e117
    exact ⟨h, K⟩
  · intro c119
    have h := h.2 c119
    exact ⟨h, K⟩
set_option maxRecDepth 20000 in
set_option maxHeartbeats 1000000 in
theorem ky_X11_readWalker_136 {b : Bool} {L : List (Nat × Nat)} (hU : ∀ q ∈ L, q ∈ nyT) (hL : ∀ q ∈ kyL_X11_readWalker, q ∈ L) (hb : False → b = false) {Q : HS → Prop} {v0 : Nat} {v1 : Int64} {v3 : Int32} {s0 : Int32} {S0 S : HS} (h : P_X11_readWalker_136 Q v0 v1 v3 s0 S) (K : K9 b L S0 S) : P_X11_readWalker_136 (fun T => Q T ∧ K9 b L S0 T) v0 v1 v3 s0 S := by
  delta P_X11_readWalker_136 at h ⊢
  refine ⟨?_, ?_⟩
  · intro c1
    have h := h.1 c1
    exact ky_X11_readWalker_149 hU hL hb h K
  · intro c2
    have h := h.2 c2
    exact ky_X11_readWalker_149 hU hL hb h K
set_option maxRecDepth 20000 in
set_option maxHeartbeats 1000000 in
theorem ky_X11_readWalker_85 {b : Bool} {L : List (Nat × Nat)} (hU : ∀ q ∈ L, q ∈ nyT) (hL : ∀ q ∈ kyL_X11_readWalker, q ∈ L) (hb : False → b = false) {Q : HS → Prop} {v0 : Nat} {v1 : Int64} {v3 : Int32} {S0 S : HS} (h : P_X11_readWalker_85 Q v0 v1 v3 S) (K : K9 b L S0 S) : P_X11_readWalker_85 (fun T => Q T ∧ K9 b L S0 T) v0 v1 v3 S := by
  delta P_X11_readWalker_85 at h ⊢
  obtain ⟨c1, h⟩ := h
  refine ⟨c1, ?_⟩
  refine cm_X11_goesOn (ky_X11_goesOn (b := b) hU (fun q hq => hL q ((by decide : ∀ q ∈ kyL_X11_goesOn, q ∈ kyL_X11_readWalker) q hq)) (fun z => z.elim) h) h (fun x2 p4 h g3 => ?_)
  have h := h g3
  have K := k9_tr K p4.2
  refine ⟨?_, ?_⟩
  · intro c5
    have h := h.1 c5
    refine ⟨?_, ?_⟩
    · intro c6
      have h := h.1 c6
      refine ⟨?_, ?_⟩
      · intro c7
        have h := h.1 c7
        exact ky_X11_readWalker_136 hU hL hb h K
      · intro c8
        have h := h.2 c8
        refine cm_X11_readWhole (ky_X11_readWhole (b := b) hU (fun q hq => hL q ((by decide : ∀ q ∈ kyL_X11_readWhole, q ∈ kyL_X11_readWalker) q hq)) (fun z => z.elim) h) h (fun x9 x10 p12 h g11 => ?_)
        have h := h g11
        have K := k9_tr K p12.2
        exact ky_X11_readWalker_136 hU hL hb h K
    · intro c13
      have h := h.2 c13
      refine cm_X11_readWhole (ky_X11_readWhole (b := b) hU (fun q hq => hL q ((by decide : ∀ q ∈ kyL_X11_readWhole, q ∈ kyL_X11_readWalker) q hq)) (fun z => z.elim) h) h (fun x14 x15 p17 h g16 => ?_)
      have h := h g16
      have K := k9_tr K p17.2
      exact ky_X11_readWalker_136 hU hL hb h K
  · intro c18
    have h := h.2 c18
    refine cm_X11_readWhole (ky_X11_readWhole (b := b) hU (fun q hq => hL q ((by decide : ∀ q ∈ kyL_X11_readWhole, q ∈ kyL_X11_readWalker) q hq)) (fun z => z.elim) h) h (fun x19 x20 p22 h g21 => ?_)
    have h := h g21
    have K := k9_tr K p22.2
    exact ky_X11_readWalker_136 hU hL hb h K
set_option maxRecDepth 20000 in
set_option maxHeartbeats 1000000 in
theorem ky_X11_readWalker_74 {b : Bool} {L : List (Nat × Nat)} (hU : ∀ q ∈ L, q ∈ nyT) (hL : ∀ q ∈ kyL_X11_readWalker, q ∈ L) (hb : False → b = false) {Q : HS → Prop} {v0 : Nat} {v1 : Int64} {s0 : Int32} {S0 S : HS} (h : P_X11_readWalker_74 Q v0 v1 s0 S) (K : K9 b L S0 S) : P_X11_readWalker_74 (fun T => Q T ∧ K9 b L S0 T) v0 v1 s0 S := by
  delta P_X11_readWalker_74 at h ⊢
  refine ⟨?_, ?_⟩
  · intro c1
    have h := h.1 c1
    exact ky_X11_readWalker_85 hU hL hb h K
  · intro c2
    have h := h.2 c2
    obtain ⟨c3, h⟩ := h
    refine ⟨c3, ?_⟩
    refine cm_X11_flaw (ky_X11_flaw (b := b) hU (fun q hq => hL q ((by decide : ∀ q ∈ kyL_X11_flaw, q ∈ kyL_X11_readWalker) q hq)) (fun z => z.elim) h) h (fun x4 p6 h g5 => ?_)
    have h := h g5
    have K := k9_tr K p6.2
    exact ky_X11_readWalker_85 hU hL hb h K
set_option maxRecDepth 20000 in
set_option maxHeartbeats 1000000 in
theorem ky_X11_readWalker_0 {b : Bool} {L : List (Nat × Nat)} (hU : ∀ q ∈ L, q ∈ nyT) (hL : ∀ q ∈ kyL_X11_readWalker, q ∈ L) (hb : False → b = false) {Q : HS → Prop} {v0 : Nat} {S0 S : HS} (h : P_X11_readWalker_0 Q v0 S) (K : K9 b L S0 S) : P_X11_readWalker_0 (fun T => Q T ∧ K9 b L S0 T) v0 S := by
  delta P_X11_readWalker_0 at h ⊢
  obtain ⟨c1, h⟩ := h
  refine ⟨c1, ?_⟩
  have o2 := c1
  obtain ⟨b3, e4, h⟩ := h
  refine ⟨b3, e4, ?_⟩
  obtain ⟨c5, h⟩ := h
  refine ⟨c5, ?_⟩
  intro x7 e6
  have h := h x7 e6
  refine cm_X11_begins (ky_X11_begins (b := b) hU (fun q hq => hL q ((by decide : ∀ q ∈ kyL_X11_begins, q ∈ kyL_X11_readWalker) q hq)) (fun z => z.elim) h) h (fun x8 p10 h g9 => ?_)
  have h := h g9
  have K := k9_tr K p10.2
  have o2 := gr_ob p10.2.1 o2
  refine cm_X11_readFresh (ky_X11_readFresh (b := b) hU (fun q hq => hL q ((by decide : ∀ q ∈ kyL_X11_readFresh, q ∈ kyL_X11_readWalker) q hq)) (fun z => z.elim) h) h (fun x11 x12 p14 h g13 => ?_)
  have h := h g13
  have K := k9_tr K p14.2
  have o2 := gr_ob p14.2.1 o2
  refine cm_X11_isWord (ky_X11_isWord (b := b) hU (fun q hq => hL q ((by decide : ∀ q ∈ kyL_X11_isWord, q ∈ kyL_X11_readWalker) q hq)) (fun z => z.elim) h) h (fun x15 x16 p19 h g17 g18 => ?_)
  have h := h g17 g18
  have K := k9_tr K p19.2
  have o2 := gr_ob p19.2.1 o2
  refine ⟨?_, ?_⟩
  · intro c20
    have h := h.1 c20
    refine cm_X11_isWord (ky_X11_isWord (b := b) hU (fun q hq => hL q ((by decide : ∀ q ∈ kyL_X11_isWord, q ∈ kyL_X11_readWalker) q hq)) (fun z => z.elim) h) h (fun x21 x22 p25 h g23 g24 => ?_)
    have h := h g23 g24
    have K := k9_tr K p25.2
    have o2 := gr_ob p25.2.1 o2
    refine ⟨?_, ?_⟩
    · intro c26
      have h := h.1 c26
      refine cm_X11_isWord (ky_X11_isWord (b := b) hU (fun q hq => hL q ((by decide : ∀ q ∈ kyL_X11_isWord, q ∈ kyL_X11_readWalker) q hq)) (fun z => z.elim) h) h (fun x27 x28 p31 h g29 g30 => ?_)
      have h := h g29 g30
      have K := k9_tr K p31.2
      have o2 := gr_ob p31.2.1 o2
      refine ⟨?_, ?_⟩
      · intro c32
        have h := h.1 c32
        refine cm_X11_isWord (ky_X11_isWord (b := b) hU (fun q hq => hL q ((by decide : ∀ q ∈ kyL_X11_isWord, q ∈ kyL_X11_readWalker) q hq)) (fun z => z.elim) h) h (fun x33 x34 p37 h g35 g36 => ?_)
        have h := h g35 g36
        have K := k9_tr K p37.2
        have o2 := gr_ob p37.2.1 o2
        refine ⟨?_, ?_⟩
        · intro c38
          have h := h.1 c38
          exact ky_X11_readWalker_74 hU hL hb h K
        · intro c39
          have h := h.2 c39
          exact ky_X11_readWalker_74 hU hL hb h K
      · intro c40
        have h := h.2 c40
        exact ky_X11_readWalker_74 hU hL hb h K
    · intro c41
      have h := h.2 c41
      exact ky_X11_readWalker_74 hU hL hb h K
  · intro c42
    have h := h.2 c42
    exact ky_X11_readWalker_74 hU hL hb h K
theorem ky_X11_readWalker {b : Bool} {L : List (Nat × Nat)} (hU : ∀ q ∈ L, q ∈ nyT) (hL : ∀ q ∈ kyL_X11_readWalker, q ∈ L) (hb : False → b = false) {Q : HS → Prop} {v0 : Nat} {S : HS} (h : P_X11_readWalker v0 Q S) : P_X11_readWalker v0 (fun T => Q T ∧ K9 b L S T) S := ky_X11_readWalker_0 hU hL hb h (k9_rf b L S)
abbrev kyL_X11_readWorld : List (Nat × Nat) := []
set_option maxRecDepth 20000 in
set_option maxHeartbeats 1000000 in
theorem ky_X11_readWorld_15 {b : Bool} {L : List (Nat × Nat)} (hU : ∀ q ∈ L, q ∈ nyT) (hL : ∀ q ∈ kyL_X11_readWorld, q ∈ L) (hb : False → b = false) {Q : HS → Prop} {v0 : Nat} {S0 S : HS} (h : P_X11_readWorld_15 Q v0 S) (K : K9 b L S0 S) : P_X11_readWorld_15 (fun T => Q T ∧ K9 b L S0 T) v0 S := by
  delta P_X11_readWorld_15 at h ⊢
  obtain ⟨c1, h⟩ := h
  refine ⟨c1, ?_⟩
  have o2 := c1
  refine cm_X11_goesOn (ky_X11_goesOn (b := b) hU (fun q hq => hL q ((by decide : ∀ q ∈ kyL_X11_goesOn, q ∈ kyL_X11_readWorld) q hq)) (fun z => z.elim) h) h (fun x3 p5 h g4 => ?_)
  have h := h g4
  have K := k9_tr K p5.2
  have o2 := gr_ob p5.2.1 o2
  refine cm_X11_readPart (ky_X11_readPart (b := b) hU (fun q hq => hL q ((by decide : ∀ q ∈ kyL_X11_readPart, q ∈ kyL_X11_readWorld) q hq)) (fun z => z.elim) h) h (fun x6 x7 p9 h g8 => ?_)
  have h := h g8
  have K := k9_tr K p9.2
  have o2 := gr_ob p9.2.1 o2
  intro x11 e10
  have h := h x11 e10
  refine ⟨?_, ?_⟩
  · intro c12
    have h := h.1 c12
    exact ⟨h, K⟩
  · intro c13
    have h := h.2 c13
    obtain ⟨b14, e15, h⟩ := h
    refine ⟨b14, e15, ?_⟩
    obtain ⟨c16, h⟩ := h
    refine ⟨c16, ?_⟩
    intro x18 e17
    have h := h x18 e17
    have K := k9_I K e17
    have o2 := ob_wI o2 e17
    exact ⟨h, K⟩
set_option maxRecDepth 20000 in
set_option maxHeartbeats 1000000 in
theorem ky_X11_readWorld_0 {b : Bool} {L : List (Nat × Nat)} (hU : ∀ q ∈ L, q ∈ nyT) (hL : ∀ q ∈ kyL_X11_readWorld, q ∈ L) (hb : False → b = false) {Q : HS → Prop} {v0 : Nat} {S0 S : HS} (h : P_X11_readWorld_0 Q v0 S) (K : K9 b L S0 S) : P_X11_readWorld_0 (fun T => Q T ∧ K9 b L S0 T) v0 S := by
  delta P_X11_readWorld_0 at h ⊢
  obtain ⟨c1, h⟩ := h
  refine ⟨c1, ?_⟩
  have o2 := c1
  obtain ⟨b3, e4, h⟩ := h
  refine ⟨b3, e4, ?_⟩
  obtain ⟨c5, h⟩ := h
  refine ⟨c5, ?_⟩
  intro x7 e6
  have h := h x7 e6
  refine ⟨?_, ?_⟩
  · intro c8
    have h := h.1 c8
    exact ky_X11_readWorld_15 hU hL hb h K
  · intro c9
    have h := h.2 c9
    refine cm_X11_flaw (ky_X11_flaw (b := b) hU (fun q hq => hL q ((by decide : ∀ q ∈ kyL_X11_flaw, q ∈ kyL_X11_readWorld) q hq)) (fun z => z.elim) h) h (fun x10 p12 h g11 => ?_)
    have h := h g11
    have K := k9_tr K p12.2
    have o2 := gr_ob p12.2.1 o2
    exact ky_X11_readWorld_15 hU hL hb h K
theorem ky_X11_readWorld {b : Bool} {L : List (Nat × Nat)} (hU : ∀ q ∈ L, q ∈ nyT) (hL : ∀ q ∈ kyL_X11_readWorld, q ∈ L) (hb : False → b = false) {Q : HS → Prop} {v0 : Nat} {S : HS} (h : P_X11_readWorld v0 Q S) : P_X11_readWorld v0 (fun T => Q T ∧ K9 b L S T) S := ky_X11_readWorld_0 hU hL hb h (k9_rf b L S)
abbrev kyL_X11_readLine : List (Nat × Nat) := [(10, 28)]
set_option maxRecDepth 20000 in
set_option maxHeartbeats 1000000 in
theorem ky_X11_readLine_0 {b : Bool} {L : List (Nat × Nat)} (hU : ∀ q ∈ L, q ∈ nyT) (hL : ∀ q ∈ kyL_X11_readLine, q ∈ L) (hb : False → b = false) {Q : HS → Prop} {v0 : Nat} {S0 S : HS} (h : P_X11_readLine_0 Q v0 S) (K : K9 b L S0 S) : P_X11_readLine_0 (fun T => Q T ∧ K9 b L S0 T) v0 S := by
  delta P_X11_readLine_0 at h ⊢
  obtain ⟨c1, h⟩ := h
  refine ⟨c1, ?_⟩
  refine cm_X11_isWord (ky_X11_isWord (b := b) hU (fun q hq => hL q ((by decide : ∀ q ∈ kyL_X11_isWord, q ∈ kyL_X11_readLine) q hq)) (fun z => z.elim) h) h (fun x2 x3 p6 h g4 g5 => ?_)
  have h := h g4 g5
  have K := k9_tr K p6.2
  refine ⟨?_, ?_⟩
  · intro c7
    have h := h.1 c7
    refine cm_X11_isWord (ky_X11_isWord (b := b) hU (fun q hq => hL q ((by decide : ∀ q ∈ kyL_X11_isWord, q ∈ kyL_X11_readLine) q hq)) (fun z => z.elim) h) h (fun x8 x9 p12 h g10 g11 => ?_)
    have h := h g10 g11
    have K := k9_tr K p12.2
    refine ⟨?_, ?_⟩
    · intro c13
      have h := h.1 c13
      refine cm_X11_isWord (ky_X11_isWord (b := b) hU (fun q hq => hL q ((by decide : ∀ q ∈ kyL_X11_isWord, q ∈ kyL_X11_readLine) q hq)) (fun z => z.elim) h) h (fun x14 x15 p18 h g16 g17 => ?_)
      have h := h g16 g17
      have K := k9_tr K p18.2
      refine ⟨?_, ?_⟩
      · intro c19
        have h := h.1 c19
        refine cm_X11_isWord (ky_X11_isWord (b := b) hU (fun q hq => hL q ((by decide : ∀ q ∈ kyL_X11_isWord, q ∈ kyL_X11_readLine) q hq)) (fun z => z.elim) h) h (fun x20 x21 p24 h g22 g23 => ?_)
        have h := h g22 g23
        have K := k9_tr K p24.2
        refine ⟨?_, ?_⟩
        · intro c25
          have h := h.1 c25
          refine cm_X11_isWord (ky_X11_isWord (b := b) hU (fun q hq => hL q ((by decide : ∀ q ∈ kyL_X11_isWord, q ∈ kyL_X11_readLine) q hq)) (fun z => z.elim) h) h (fun x26 x27 p30 h g28 g29 => ?_)
          have h := h g28 g29
          have K := k9_tr K p30.2
          refine ⟨?_, ?_⟩
          · intro c31
            have h := h.1 c31
            refine cm_X11_isWord (ky_X11_isWord (b := b) hU (fun q hq => hL q ((by decide : ∀ q ∈ kyL_X11_isWord, q ∈ kyL_X11_readLine) q hq)) (fun z => z.elim) h) h (fun x32 x33 p36 h g34 g35 => ?_)
            have h := h g34 g35
            have K := k9_tr K p36.2
            refine ⟨?_, ?_⟩
            · intro c37
              have h := h.1 c37
              refine cm_X11_flaw (ky_X11_flaw (b := b) hU (fun q hq => hL q ((by decide : ∀ q ∈ kyL_X11_flaw, q ∈ kyL_X11_readLine) q hq)) (fun z => z.elim) h) h (fun x38 p40 h g39 => ?_)
              have h := h g39
              have K := k9_tr K p40.2
              exact ⟨h, K⟩
            · intro c41
              have h := h.2 c41
              refine cm_X11_readSeen (ky_X11_readSeen (b := b) hU (fun q hq => hL q ((by decide : ∀ q ∈ kyL_X11_readSeen, q ∈ kyL_X11_readLine) q hq)) (fun z => z.elim) h) h (fun x42 p44 h g43 => ?_)
              have h := h g43
              have K := k9_tr K p44.2
              exact ⟨h, K⟩
          · intro c45
            have h := h.2 c45
            refine cm_X11_readWalker (ky_X11_readWalker (b := b) hU (fun q hq => hL q ((by decide : ∀ q ∈ kyL_X11_readWalker, q ∈ kyL_X11_readLine) q hq)) (fun z => z.elim) h) h (fun x46 p48 h g47 => ?_)
            have h := h g47
            have K := k9_tr K p48.2
            exact ⟨h, K⟩
        · intro c49
          have h := h.2 c49
          refine cm_X11_readRoad (ky_X11_readRoad (b := b) hU (fun q hq => hL q ((by decide : ∀ q ∈ kyL_X11_readRoad, q ∈ kyL_X11_readLine) q hq)) (fun z => z.elim) h) h (fun x50 p52 h g51 => ?_)
          have h := h g51
          have K := k9_tr K p52.2
          exact ⟨h, K⟩
      · intro c53
        have h := h.2 c53
        refine cm_X11_readPlace (ky_X11_readPlace (b := b) hU (fun q hq => hL q ((by decide : ∀ q ∈ kyL_X11_readPlace, q ∈ kyL_X11_readLine) q hq)) (fun z => z.elim) h) h (fun x54 p56 h g55 => ?_)
        have h := h g55
        have K := k9_tr K p56.2
        exact ⟨h, K⟩
    · intro c57
      have h := h.2 c57
      refine cm_X11_readRain (ky_X11_readRain (b := b) hU (fun q hq => hL q ((by decide : ∀ q ∈ kyL_X11_readRain, q ∈ kyL_X11_readLine) q hq)) (fun z => z.elim) h) h (fun x58 p60 h g59 => ?_)
      have h := h g59
      have K := k9_tr K p60.2
      exact ⟨h, K⟩
  · intro c61
    have h := h.2 c61
    refine cm_X11_readWorld (ky_X11_readWorld (b := b) hU (fun q hq => hL q ((by decide : ∀ q ∈ kyL_X11_readWorld, q ∈ kyL_X11_readLine) q hq)) (fun z => z.elim) h) h (fun x62 p64 h g63 => ?_)
    have h := h g63
    have K := k9_tr K p64.2
    exact ⟨h, K⟩
theorem ky_X11_readLine {b : Bool} {L : List (Nat × Nat)} (hU : ∀ q ∈ L, q ∈ nyT) (hL : ∀ q ∈ kyL_X11_readLine, q ∈ L) (hb : False → b = false) {Q : HS → Prop} {v0 : Nat} {S : HS} (h : P_X11_readLine v0 Q S) : P_X11_readLine v0 (fun T => Q T ∧ K9 b L S T) S := ky_X11_readLine_0 hU hL hb h (k9_rf b L S)
abbrev kyL_X11_readAll : List (Nat × Nat) := [(10, 28)]
set_option maxRecDepth 20000 in
set_option maxHeartbeats 1000000 in
theorem ky_X11_readAll_63 {b : Bool} {L : List (Nat × Nat)} (hU : ∀ q ∈ L, q ∈ nyT) (hL : ∀ q ∈ kyL_X11_readAll, q ∈ L) (hb : False → b = false) {Q : HS → Prop} {v0 : Nat} {S0 S : HS} (h : P_X11_readAll_63 Q v0 S) (K : K9 b L S0 S) : P_X11_readAll_63 (fun T => Q T ∧ K9 b L S0 T) v0 S := by
  delta P_X11_readAll_63 at h ⊢
  obtain ⟨c1, h⟩ := h
  refine ⟨c1, ?_⟩
  refine cm_X11_flaw (ky_X11_flaw (b := b) hU (fun q hq => hL q ((by decide : ∀ q ∈ kyL_X11_flaw, q ∈ kyL_X11_readAll) q hq)) (fun z => z.elim) h) h (fun x2 p4 h g3 => ?_)
  have h := h g3
  have K := k9_tr K p4.2
  exact ⟨h, K⟩
set_option maxRecDepth 20000 in
set_option maxHeartbeats 1000000 in
theorem ky_X11_readAll_33 {b : Bool} {L : List (Nat × Nat)} (hU : ∀ q ∈ L, q ∈ nyT) (hL : ∀ q ∈ kyL_X11_readAll, q ∈ L) (hb : False → b = false) {Q : HS → Prop} {v0 : Nat} {S0 S : HS} (h : P_X11_readAll_33 Q v0 S) (K : K9 b L S0 S) : P_X11_readAll_33 (fun T => Q T ∧ K9 b L S0 T) v0 S := by
  delta P_X11_readAll_33 at h ⊢
  obtain ⟨c1, h⟩ := h
  refine ⟨c1, ?_⟩
  have o2 := c1
  obtain ⟨b3, e4, h⟩ := h
  refine ⟨b3, e4, ?_⟩
  obtain ⟨c5, h⟩ := h
  refine ⟨c5, ?_⟩
  intro x7 e6
  have h := h x7 e6
  refine ⟨?_, ?_⟩
  · intro c8
    have h := h.1 c8
    exact ky_X11_readAll_63 hU hL hb h K
  · intro c9
    have h := h.2 c9
    obtain ⟨b10, e11, h⟩ := h
    refine ⟨b10, e11, ?_⟩
    obtain ⟨c12, h⟩ := h
    refine ⟨c12, ?_⟩
    intro x14 e13
    have h := h x14 e13
    refine ⟨?_, ?_⟩
    · intro c15
      have h := h.1 c15
      exact ky_X11_readAll_63 hU hL hb h K
    · intro c16
      have h := h.2 c16
      obtain ⟨b17, e18, h⟩ := h
      refine ⟨b17, e18, ?_⟩
      obtain ⟨c19, h⟩ := h
      refine ⟨c19, ?_⟩
      intro x21 e20
      have h := h x21 e20
      refine ⟨?_, ?_⟩
      · intro c22
        have h := h.1 c22
        exact ⟨h, K⟩
      · intro c23
        have h := h.2 c23
        exact ky_X11_readAll_63 hU hL hb h K
set_option maxRecDepth 20000 in
set_option maxHeartbeats 1000000 in
theorem kyB_X11_readAll_2 {b : Bool} {L : List (Nat × Nat)} (hU : ∀ q ∈ L, q ∈ nyT) (hL : ∀ q ∈ kyL_X11_readAll, q ∈ L) (hb : False → b = false) {Q : HS → Prop} {X2 X2_2 : Nat → Int32 → HS → Prop} {v0 : Nat} {v1 : Int32} {S0 S : HS} (h : B_X11_readAll_2 Q X2 v0 v1 S) (K : K9 b L S0 S) (hX2 : ∀ (u0 : Nat) (u1 : Int32) (u2 : HS), X2 u0 u1 u2 → K9 b L S0 u2 → X2_2 u0 u1 u2) : B_X11_readAll_2 (fun T => Q T ∧ K9 b L S0 T) X2_2 v0 v1 S := by
  delta B_X11_readAll_2 at h ⊢
  refine ⟨?_, ?_⟩
  · intro c1
    have h := h.1 c1
    obtain ⟨c2, h⟩ := h
    refine ⟨c2, ?_⟩
    intro x4 e3
    have h := h x4 e3
    refine ⟨?_, ?_⟩
    · intro c5
      have h := h.1 c5
      exact ky_X11_readAll_33 hU hL hb h K
    · intro c6
      have h := h.2 c6
      refine cm_X11_flaw (ky_X11_flaw (b := b) hU (fun q hq => hL q ((by decide : ∀ q ∈ kyL_X11_flaw, q ∈ kyL_X11_readAll) q hq)) (fun z => z.elim) h) h (fun x7 p9 h g8 => ?_)
      have h := h g8
      have K := k9_tr K p9.2
      exact ky_X11_readAll_33 hU hL hb h K
  · intro c10
    have h := h.2 c10
    obtain ⟨c11, h⟩ := h
    refine ⟨c11, ?_⟩
    refine cm_X11_readLine (ky_X11_readLine (b := b) hU (fun q hq => hL q ((by decide : ∀ q ∈ kyL_X11_readLine, q ∈ kyL_X11_readAll) q hq)) (fun z => z.elim) h) h (fun x12 p14 h g13 => ?_)
    have h := h g13
    have K := k9_tr K p14.2
    refine cm_X11_eatsSign (ky_X11_eatsSign (b := b) hU (fun q hq => hL q ((by decide : ∀ q ∈ kyL_X11_eatsSign, q ∈ kyL_X11_readAll) q hq)) (fun z => z.elim) h) h (fun x15 x16 p19 h g17 g18 => ?_)
    have h := h g17 g18
    have K := k9_tr K p19.2
    exact hX2 _ _ _ h K
theorem ky_X11_readAll_2 {b : Bool} {L : List (Nat × Nat)} (hU : ∀ q ∈ L, q ∈ nyT) (hL : ∀ q ∈ kyL_X11_readAll, q ∈ L) (hb : False → b = false) {Q : HS → Prop} {v0 : Nat} {v1 : Int32} {S0 S : HS} (h : P_X11_readAll_2 Q v0 v1 S) (K : K9 b L S0 S) : P_X11_readAll_2 (fun T => Q T ∧ K9 b L S0 T) v0 v1 S := h (fun v0 v1 S => K9 b L S0 S → P_X11_readAll_2 (fun T => Q T ∧ K9 b L S0 T) v0 v1 S) (fun v0 v1 S hB K => fd_X11_readAll_2 (kyB_X11_readAll_2 hU hL hb hB K (fun _ _ _ hx K => hx K))) K
set_option maxRecDepth 20000 in
set_option maxHeartbeats 1000000 in
theorem ky_X11_readAll_0 {b : Bool} {L : List (Nat × Nat)} (hU : ∀ q ∈ L, q ∈ nyT) (hL : ∀ q ∈ kyL_X11_readAll, q ∈ L) (hb : False → b = false) {Q : HS → Prop} {v0 : Nat} {S0 S : HS} (h : P_X11_readAll_0 Q v0 S) (K : K9 b L S0 S) : P_X11_readAll_0 (fun T => Q T ∧ K9 b L S0 T) v0 S := by
  delta P_X11_readAll_0 at h ⊢
  exact ky_X11_readAll_2 hU hL hb h K
theorem ky_X11_readAll {b : Bool} {L : List (Nat × Nat)} (hU : ∀ q ∈ L, q ∈ nyT) (hL : ∀ q ∈ kyL_X11_readAll, q ∈ L) (hb : False → b = false) {Q : HS → Prop} {v0 : Nat} {S : HS} (h : P_X11_readAll v0 Q S) : P_X11_readAll v0 (fun T => Q T ∧ K9 b L S T) S := ky_X11_readAll_0 hU hL hb h (k9_rf b L S)
abbrev kyL_X11_road : List (Nat × Nat) := []
set_option maxRecDepth 20000 in
set_option maxHeartbeats 1000000 in
theorem ky_X11_road_22 {b : Bool} {L : List (Nat × Nat)} (hU : ∀ q ∈ L, q ∈ nyT) (hL : ∀ q ∈ kyL_X11_road, q ∈ L) (hb : False → b = false) {Q : Int32 → HS → Prop} {v0 : Nat} {S0 S : HS} (h : P_X11_road_22 Q v0 S) (K : K9 b L S0 S) : P_X11_road_22 (fun r T => Q r T ∧ K9 b L S0 T) v0 S := by
  delta P_X11_road_22 at h ⊢
  obtain ⟨c1, h⟩ := h
  refine ⟨c1, ?_⟩
  refine cm_X11_refused (ky_X11_refused (b := b) hU (fun q hq => hL q ((by decide : ∀ q ∈ kyL_X11_refused, q ∈ kyL_X11_road) q hq)) (fun z => z.elim) h) h (fun x2 x3 p5 h g4 => ?_)
  have h := h g4
  have K := k9_tr K p5.2
  exact ⟨h, K⟩
set_option maxRecDepth 20000 in
set_option maxHeartbeats 1000000 in
theorem ky_X11_road_0 {b : Bool} {L : List (Nat × Nat)} (hU : ∀ q ∈ L, q ∈ nyT) (hL : ∀ q ∈ kyL_X11_road, q ∈ L) (hb : False → b = false) {Q : Int32 → HS → Prop} {v0 : Nat} {v1 : Int32} {v2 : Int32} {S0 S : HS} (h : P_X11_road_0 Q v0 v1 v2 S) (K : K9 b L S0 S) : P_X11_road_0 (fun r T => Q r T ∧ K9 b L S0 T) v0 v1 v2 S := by
  delta P_X11_road_0 at h ⊢
  obtain ⟨c1, h⟩ := h
  refine ⟨c1, ?_⟩
  have o2 := c1
  intro x4 e3
  have h := h x4 e3
  have K := k9_I K e3
  have o2 := ob_wI o2 e3
  refine cm_X11_isRoad (ky_X11_isRoad (b := b) hU (fun q hq => hL q ((by decide : ∀ q ∈ kyL_X11_isRoad, q ∈ kyL_X11_road) q hq)) (fun z => z.elim) h) h (fun x5 x6 p9 h g7 g8 => ?_)
  have h := h g7 g8
  have K := k9_tr K p9.2
  have o2 := gr_ob p9.2.1 o2
  refine ⟨?_, ?_⟩
  · intro c10
    have h := h.1 c10
    exact ky_X11_road_22 hU hL hb h K
  · intro c11
    have h := h.2 c11
    refine cm_X11_in (ky_X11_in (b := b) hU (fun q hq => hL q ((by decide : ∀ q ∈ kyL_X11_in, q ∈ kyL_X11_road) q hq)) (fun z => z.elim) h) h (fun x12 x13 p16 h g14 g15 => ?_)
    have h := h g14 g15
    have K := k9_tr K p16.2
    have o2 := gr_ob p16.2.1 o2
    refine ⟨?_, ?_⟩
    · intro c17
      have h := h.1 c17
      refine ⟨?_, ?_, ?_, ?_, ?_⟩
      · intro c18
        have h := h.1 c18
        obtain ⟨b19, e20, h⟩ := h
        refine ⟨b19, e20, ?_⟩
        obtain ⟨c21, h⟩ := h
        refine ⟨c21, ?_⟩
        have o22 := c21
        obtain ⟨b23, e24, h⟩ := h
        refine ⟨b23, e24, ?_⟩
        obtain ⟨c25, h⟩ := h
        refine ⟨c25, ?_⟩
        obtain ⟨c26, h⟩ := h
        refine ⟨c26, ?_⟩
        intro x28 e27
        have h := h x28 e27
        refine cm_X11_good (ky_X11_good (b := b) hU (fun q hq => hL q ((by decide : ∀ q ∈ kyL_X11_good, q ∈ kyL_X11_road) q hq)) (fun z => z.elim) h) h (fun x29 x30 p32 h g31 => ?_)
        have h := h g31
        have K := k9_tr K p32.2
        have o2 := gr_ob p32.2.1 o2
        have o22 := gr_ob p32.2.1 o22
        exact ⟨h, K⟩
      · intro c33
        have h := h.2.1 c33
        obtain ⟨b34, e35, h⟩ := h
        refine ⟨b34, e35, ?_⟩
        obtain ⟨c36, h⟩ := h
        refine ⟨c36, ?_⟩
        have o37 := c36
        obtain ⟨b38, e39, h⟩ := h
        refine ⟨b38, e39, ?_⟩
        obtain ⟨c40, h⟩ := h
        refine ⟨c40, ?_⟩
        obtain ⟨c41, h⟩ := h
        refine ⟨c41, ?_⟩
        intro x43 e42
        have h := h x43 e42
        refine cm_X11_good (ky_X11_good (b := b) hU (fun q hq => hL q ((by decide : ∀ q ∈ kyL_X11_good, q ∈ kyL_X11_road) q hq)) (fun z => z.elim) h) h (fun x44 x45 p47 h g46 => ?_)
        have h := h g46
        have K := k9_tr K p47.2
        have o2 := gr_ob p47.2.1 o2
        have o37 := gr_ob p47.2.1 o37
        exact ⟨h, K⟩
      · intro c48
        have h := h.2.2.1 c48
        obtain ⟨b49, e50, h⟩ := h
        refine ⟨b49, e50, ?_⟩
        obtain ⟨c51, h⟩ := h
        refine ⟨c51, ?_⟩
        have o52 := c51
        obtain ⟨b53, e54, h⟩ := h
        refine ⟨b53, e54, ?_⟩
        obtain ⟨c55, h⟩ := h
        refine ⟨c55, ?_⟩
        obtain ⟨c56, h⟩ := h
        refine ⟨c56, ?_⟩
        intro x58 e57
        have h := h x58 e57
        refine cm_X11_good (ky_X11_good (b := b) hU (fun q hq => hL q ((by decide : ∀ q ∈ kyL_X11_good, q ∈ kyL_X11_road) q hq)) (fun z => z.elim) h) h (fun x59 x60 p62 h g61 => ?_)
        have h := h g61
        have K := k9_tr K p62.2
        have o2 := gr_ob p62.2.1 o2
        have o52 := gr_ob p62.2.1 o52
        exact ⟨h, K⟩
      · intro c63
        have h := h.2.2.2.1 c63
        obtain ⟨b64, e65, h⟩ := h
        refine ⟨b64, e65, ?_⟩
        obtain ⟨c66, h⟩ := h
        refine ⟨c66, ?_⟩
        have o67 := c66
        obtain ⟨b68, e69, h⟩ := h
        refine ⟨b68, e69, ?_⟩
        obtain ⟨c70, h⟩ := h
        refine ⟨c70, ?_⟩
        obtain ⟨c71, h⟩ := h
        refine ⟨c71, ?_⟩
        intro x73 e72
        have h := h x73 e72
        refine cm_X11_good (ky_X11_good (b := b) hU (fun q hq => hL q ((by decide : ∀ q ∈ kyL_X11_good, q ∈ kyL_X11_road) q hq)) (fun z => z.elim) h) h (fun x74 x75 p77 h g76 => ?_)
        have h := h g76
        have K := k9_tr K p77.2
        have o2 := gr_ob p77.2.1 o2
        have o67 := gr_ob p77.2.1 o67
        exact ⟨h, K⟩
      · intro c78
        have h := h.2.2.2.2 c78
        obtain ⟨b79, e80, h⟩ := h
        refine ⟨b79, e80, ?_⟩
        obtain ⟨c81, h⟩ := h
        refine ⟨c81, ?_⟩
        have o82 := c81
        obtain ⟨b83, e84, h⟩ := h
        refine ⟨b83, e84, ?_⟩
        obtain ⟨c85, h⟩ := h
        refine ⟨c85, ?_⟩
        obtain ⟨c86, h⟩ := h
        refine ⟨c86, ?_⟩
        intro x88 e87
        have h := h x88 e87
        refine cm_X11_good (ky_X11_good (b := b) hU (fun q hq => hL q ((by decide : ∀ q ∈ kyL_X11_good, q ∈ kyL_X11_road) q hq)) (fun z => z.elim) h) h (fun x89 x90 p92 h g91 => ?_)
        have h := h g91
        have K := k9_tr K p92.2
        have o2 := gr_ob p92.2.1 o2
        have o82 := gr_ob p92.2.1 o82
        exact ⟨h, K⟩
    · intro c93
      have h := h.2 c93
      exact ky_X11_road_22 hU hL hb h K
theorem ky_X11_road {b : Bool} {L : List (Nat × Nat)} (hU : ∀ q ∈ L, q ∈ nyT) (hL : ∀ q ∈ kyL_X11_road, q ∈ L) (hb : False → b = false) {Q : Int32 → HS → Prop} {v0 : Nat} {v1 : Int32} {v2 : Int32} {S : HS} (h : P_X11_road v0 v1 v2 Q S) : P_X11_road v0 v1 v2 (fun r T => Q r T ∧ K9 b L S T) S := ky_X11_road_0 hU hL hb h (k9_rf b L S)
abbrev kyL_X11_round : List (Nat × Nat) := []
set_option maxRecDepth 20000 in
set_option maxHeartbeats 1000000 in
theorem ky_X11_round_29 {b : Bool} {L : List (Nat × Nat)} (hU : ∀ q ∈ L, q ∈ nyT) (hL : ∀ q ∈ kyL_X11_round, q ∈ L) (hb : False → b = false) {Q : Int64 → HS → Prop} {v0 : Nat} {S0 S : HS} (h : P_X11_round_29 Q v0 S) (K : K9 b L S0 S) : P_X11_round_29 (fun r T => Q r T ∧ K9 b L S0 T) v0 S := by
  delta P_X11_round_29 at h ⊢
  obtain ⟨c1, h⟩ := h
  refine ⟨c1, ?_⟩
  refine cm_X11_refused (ky_X11_refused (b := b) hU (fun q hq => hL q ((by decide : ∀ q ∈ kyL_X11_refused, q ∈ kyL_X11_round) q hq)) (fun z => z.elim) h) h (fun x2 x3 p5 h g4 => ?_)
  have h := h g4
  have K := k9_tr K p5.2
  exact ⟨h, K⟩
set_option maxRecDepth 20000 in
set_option maxHeartbeats 1000000 in
theorem ky_X11_round_0 {b : Bool} {L : List (Nat × Nat)} (hU : ∀ q ∈ L, q ∈ nyT) (hL : ∀ q ∈ kyL_X11_round, q ∈ L) (hb : False → b = false) {Q : Int64 → HS → Prop} {v0 : Nat} {v1 : Int32} {v2 : Int32} {v3 : Int32} {v4 : Int32} {S0 S : HS} (h : P_X11_round_0 Q v0 v1 v2 v3 v4 S) (K : K9 b L S0 S) : P_X11_round_0 (fun r T => Q r T ∧ K9 b L S0 T) v0 v1 v2 v3 v4 S := by
  delta P_X11_round_0 at h ⊢
  obtain ⟨c1, h⟩ := h
  refine ⟨c1, ?_⟩
  intro x3 e2
  have h := h x3 e2
  have K := k9_I K e2
  refine cm_X11_isWalker (ky_X11_isWalker (b := b) hU (fun q hq => hL q ((by decide : ∀ q ∈ kyL_X11_isWalker, q ∈ kyL_X11_round) q hq)) (fun z => z.elim) h) h (fun x4 x5 p8 h g6 g7 => ?_)
  have h := h g6 g7
  have K := k9_tr K p8.2
  refine ⟨?_, ?_⟩
  · intro c9
    have h := h.1 c9
    exact ky_X11_round_29 hU hL hb h K
  · intro c10
    have h := h.2 c10
    refine cm_X11_isRoad (ky_X11_isRoad (b := b) hU (fun q hq => hL q ((by decide : ∀ q ∈ kyL_X11_isRoad, q ∈ kyL_X11_round) q hq)) (fun z => z.elim) h) h (fun x11 x12 p15 h g13 g14 => ?_)
    have h := h g13 g14
    have K := k9_tr K p15.2
    refine ⟨?_, ?_⟩
    · intro c16
      have h := h.1 c16
      exact ky_X11_round_29 hU hL hb h K
    · intro c17
      have h := h.2 c17
      refine cm_X11_isHour (ky_X11_isHour (b := b) hU (fun q hq => hL q ((by decide : ∀ q ∈ kyL_X11_isHour, q ∈ kyL_X11_round) q hq)) (fun z => z.elim) h) h (fun x18 x19 p22 h g20 g21 => ?_)
      have h := h g20 g21
      have K := k9_tr K p22.2
      refine ⟨?_, ?_⟩
      · intro c23
        have h := h.1 c23
        refine cm_X11_wetAtBest (ky_X11_wetAtBest (b := b) hU (fun q hq => hL q ((by decide : ∀ q ∈ kyL_X11_wetAtBest, q ∈ kyL_X11_round) q hq)) (fun z => z.elim) h) h (fun x24 x25 p27 h g26 => ?_)
        have h := h g26
        have K := k9_tr K p27.2
        refine cm_X11_wetAtBest (ky_X11_wetAtBest (b := b) hU (fun q hq => hL q ((by decide : ∀ q ∈ kyL_X11_wetAtBest, q ∈ kyL_X11_round) q hq)) (fun z => z.elim) h) h (fun x28 x29 p31 h g30 => ?_)
        have h := h g30
        have K := k9_tr K p31.2
        refine cm_X11_told (ky_X11_told (b := b) hU (fun q hq => hL q ((by decide : ∀ q ∈ kyL_X11_told, q ∈ kyL_X11_round) q hq)) (fun z => z.elim) h) h (fun x32 x33 p35 h g34 => ?_)
        have h := h g34
        have K := k9_tr K p35.2
        exact ⟨h, K⟩
      · intro c36
        have h := h.2 c36
        exact ky_X11_round_29 hU hL hb h K
theorem ky_X11_round {b : Bool} {L : List (Nat × Nat)} (hU : ∀ q ∈ L, q ∈ nyT) (hL : ∀ q ∈ kyL_X11_round, q ∈ L) (hb : False → b = false) {Q : Int64 → HS → Prop} {v0 : Nat} {v1 : Int32} {v2 : Int32} {v3 : Int32} {v4 : Int32} {S : HS} (h : P_X11_round v0 v1 v2 v3 v4 Q S) : P_X11_round v0 v1 v2 v3 v4 (fun r T => Q r T ∧ K9 b L S T) S := ky_X11_round_0 hU hL hb h (k9_rf b L S)
abbrev kyL_X11_saves : List (Nat × Nat) := []
set_option maxRecDepth 20000 in
set_option maxHeartbeats 1000000 in
theorem ky_X11_saves_39 {b : Bool} {L : List (Nat × Nat)} (hU : ∀ q ∈ L, q ∈ nyT) (hL : ∀ q ∈ kyL_X11_saves, q ∈ L) (hb : False → b = false) {Q : Int64 → HS → Prop} {v0 : Nat} {S0 S : HS} (h : P_X11_saves_39 Q v0 S) (K : K9 b L S0 S) : P_X11_saves_39 (fun r T => Q r T ∧ K9 b L S0 T) v0 S := by
  delta P_X11_saves_39 at h ⊢
  obtain ⟨c1, h⟩ := h
  refine ⟨c1, ?_⟩
  refine cm_X11_refused (ky_X11_refused (b := b) hU (fun q hq => hL q ((by decide : ∀ q ∈ kyL_X11_refused, q ∈ kyL_X11_saves) q hq)) (fun z => z.elim) h) h (fun x2 x3 p5 h g4 => ?_)
  have h := h g4
  have K := k9_tr K p5.2
  exact ⟨h, K⟩
set_option maxRecDepth 20000 in
set_option maxHeartbeats 1000000 in
theorem ky_X11_saves_0 {b : Bool} {L : List (Nat × Nat)} (hU : ∀ q ∈ L, q ∈ nyT) (hL : ∀ q ∈ kyL_X11_saves, q ∈ L) (hb : False → b = false) {Q : Int64 → HS → Prop} {v0 : Nat} {v1 : Int32} {v2 : Int32} {v3 : Int32} {v4 : Int32} {v5 : Int32} {S0 S : HS} (h : P_X11_saves_0 Q v0 v1 v2 v3 v4 v5 S) (K : K9 b L S0 S) : P_X11_saves_0 (fun r T => Q r T ∧ K9 b L S0 T) v0 v1 v2 v3 v4 v5 S := by
  delta P_X11_saves_0 at h ⊢
  obtain ⟨c1, h⟩ := h
  refine ⟨c1, ?_⟩
  have o2 := c1
  intro x4 e3
  have h := h x4 e3
  have K := k9_I K e3
  have o2 := ob_wI o2 e3
  refine cm_X11_isWalker (ky_X11_isWalker (b := b) hU (fun q hq => hL q ((by decide : ∀ q ∈ kyL_X11_isWalker, q ∈ kyL_X11_saves) q hq)) (fun z => z.elim) h) h (fun x5 x6 p9 h g7 g8 => ?_)
  have h := h g7 g8
  have K := k9_tr K p9.2
  have o2 := gr_ob p9.2.1 o2
  refine ⟨?_, ?_⟩
  · intro c10
    have h := h.1 c10
    exact ky_X11_saves_39 hU hL hb h K
  · intro c11
    have h := h.2 c11
    refine cm_X11_isRoad (ky_X11_isRoad (b := b) hU (fun q hq => hL q ((by decide : ∀ q ∈ kyL_X11_isRoad, q ∈ kyL_X11_saves) q hq)) (fun z => z.elim) h) h (fun x12 x13 p16 h g14 g15 => ?_)
    have h := h g14 g15
    have K := k9_tr K p16.2
    have o2 := gr_ob p16.2.1 o2
    refine ⟨?_, ?_⟩
    · intro c17
      have h := h.1 c17
      exact ky_X11_saves_39 hU hL hb h K
    · intro c18
      have h := h.2 c18
      refine cm_X11_in (ky_X11_in (b := b) hU (fun q hq => hL q ((by decide : ∀ q ∈ kyL_X11_in, q ∈ kyL_X11_saves) q hq)) (fun z => z.elim) h) h (fun x19 x20 p23 h g21 g22 => ?_)
      have h := h g21 g22
      have K := k9_tr K p23.2
      have o2 := gr_ob p23.2.1 o2
      refine ⟨?_, ?_⟩
      · intro c24
        have h := h.1 c24
        exact ky_X11_saves_39 hU hL hb h K
      · intro c25
        have h := h.2 c25
        refine cm_X11_isHour (ky_X11_isHour (b := b) hU (fun q hq => hL q ((by decide : ∀ q ∈ kyL_X11_isHour, q ∈ kyL_X11_saves) q hq)) (fun z => z.elim) h) h (fun x26 x27 p30 h g28 g29 => ?_)
        have h := h g28 g29
        have K := k9_tr K p30.2
        have o2 := gr_ob p30.2.1 o2
        refine ⟨?_, ?_⟩
        · intro c31
          have h := h.1 c31
          obtain ⟨b32, e33, h⟩ := h
          refine ⟨b32, e33, ?_⟩
          obtain ⟨c34, h⟩ := h
          refine ⟨c34, ?_⟩
          have o35 := c34
          obtain ⟨b36, e37, h⟩ := h
          refine ⟨b36, e37, ?_⟩
          obtain ⟨c38, h⟩ := h
          refine ⟨c38, ?_⟩
          obtain ⟨c39, h⟩ := h
          refine ⟨c39, ?_⟩
          intro x41 e40
          have h := h x41 e40
          refine cm_X11_wetOf (ky_X11_wetOf (b := b) hU (fun q hq => hL q ((by decide : ∀ q ∈ kyL_X11_wetOf, q ∈ kyL_X11_saves) q hq)) (fun z => z.elim) h) h (fun x42 x43 p45 h g44 => ?_)
          have h := h g44
          have K := k9_tr K p45.2
          have o2 := gr_ob p45.2.1 o2
          have o35 := gr_ob p45.2.1 o35
          refine cm_X11_bestOf (ky_X11_bestOf (b := b) hU (fun q hq => hL q ((by decide : ∀ q ∈ kyL_X11_bestOf, q ∈ kyL_X11_saves) q hq)) (fun z => z.elim) h) h (fun x46 x47 p49 h g48 => ?_)
          have h := h g48
          have K := k9_tr K p49.2
          have o2 := gr_ob p49.2.1 o2
          have o35 := gr_ob p49.2.1 o35
          refine cm_X11_wetOf (ky_X11_wetOf (b := b) hU (fun q hq => hL q ((by decide : ∀ q ∈ kyL_X11_wetOf, q ∈ kyL_X11_saves) q hq)) (fun z => z.elim) h) h (fun x50 x51 p53 h g52 => ?_)
          have h := h g52
          have K := k9_tr K p53.2
          have o2 := gr_ob p53.2.1 o2
          have o35 := gr_ob p53.2.1 o35
          refine cm_X11_told (ky_X11_told (b := b) hU (fun q hq => hL q ((by decide : ∀ q ∈ kyL_X11_told, q ∈ kyL_X11_saves) q hq)) (fun z => z.elim) h) h (fun x54 x55 p57 h g56 => ?_)
          have h := h g56
          have K := k9_tr K p57.2
          have o2 := gr_ob p57.2.1 o2
          have o35 := gr_ob p57.2.1 o35
          exact ⟨h, K⟩
        · intro c58
          have h := h.2 c58
          exact ky_X11_saves_39 hU hL hb h K
theorem ky_X11_saves {b : Bool} {L : List (Nat × Nat)} (hU : ∀ q ∈ L, q ∈ nyT) (hL : ∀ q ∈ kyL_X11_saves, q ∈ L) (hb : False → b = false) {Q : Int64 → HS → Prop} {v0 : Nat} {v1 : Int32} {v2 : Int32} {v3 : Int32} {v4 : Int32} {v5 : Int32} {S : HS} (h : P_X11_saves v0 v1 v2 v3 v4 v5 Q S) : P_X11_saves v0 v1 v2 v3 v4 v5 (fun r T => Q r T ∧ K9 b L S T) S := ky_X11_saves_0 hU hL hb h (k9_rf b L S)
abbrev kyL_X11_size : List (Nat × Nat) := []
set_option maxRecDepth 20000 in
set_option maxHeartbeats 1000000 in
theorem ky_X11_size_0 {b : Bool} {L : List (Nat × Nat)} (hU : ∀ q ∈ L, q ∈ nyT) (hL : ∀ q ∈ kyL_X11_size, q ∈ L) (hb : False → b = false) {Q : Int32 → HS → Prop} {v0 : Nat} {v1 : Int32} {S0 S : HS} (h : P_X11_size_0 Q v0 v1 S) (K : K9 b L S0 S) : P_X11_size_0 (fun r T => Q r T ∧ K9 b L S0 T) v0 v1 S := by
  delta P_X11_size_0 at h ⊢
  obtain ⟨c1, h⟩ := h
  refine ⟨c1, ?_⟩
  have o2 := c1
  intro x4 e3
  have h := h x4 e3
  have K := k9_I K e3
  have o2 := ob_wI o2 e3
  refine ⟨?_, ?_⟩
  · intro c5
    have h := h.1 c5
    refine cm_X11_in (ky_X11_in (b := b) hU (fun q hq => hL q ((by decide : ∀ q ∈ kyL_X11_in, q ∈ kyL_X11_size) q hq)) (fun z => z.elim) h) h (fun x6 x7 p10 h g8 g9 => ?_)
    have h := h g8 g9
    have K := k9_tr K p10.2
    have o2 := gr_ob p10.2.1 o2
    refine ⟨?_, ?_⟩
    · intro c11
      have h := h.1 c11
      refine ⟨?_, ?_⟩
      · intro c12
        have h := h.1 c12
        exact ⟨h, K⟩
      · intro x13 c14
        have h := h.2 x13 c14
        refine ⟨?_, ?_, ?_, ?_, ?_, ?_, ?_, ?_, ?_, ?_, ?_⟩
        · intro c15
          have h := h.1 c15
          intro x17 e16
          have h := h x17 e16
          exact ⟨h, K⟩
        · intro c18
          have h := h.2.1 c18
          obtain ⟨b19, e20, h⟩ := h
          refine ⟨b19, e20, ?_⟩
          obtain ⟨c21, h⟩ := h
          refine ⟨c21, ?_⟩
          intro x23 e22
          have h := h x23 e22
          exact ⟨h, K⟩
        · intro c24
          have h := h.2.2.1 c24
          obtain ⟨b25, e26, h⟩ := h
          refine ⟨b25, e26, ?_⟩
          obtain ⟨c27, h⟩ := h
          refine ⟨c27, ?_⟩
          intro x29 e28
          have h := h x29 e28
          exact ⟨h, K⟩
        · intro c30
          have h := h.2.2.2.1 c30
          obtain ⟨b31, e32, h⟩ := h
          refine ⟨b31, e32, ?_⟩
          obtain ⟨c33, h⟩ := h
          refine ⟨c33, ?_⟩
          intro x35 e34
          have h := h x35 e34
          exact ⟨h, K⟩
        · intro c36
          have h := h.2.2.2.2.1 c36
          obtain ⟨b37, e38, h⟩ := h
          refine ⟨b37, e38, ?_⟩
          obtain ⟨c39, h⟩ := h
          refine ⟨c39, ?_⟩
          intro x41 e40
          have h := h x41 e40
          exact ⟨h, K⟩
        · intro c42
          have h := h.2.2.2.2.2.1 c42
          obtain ⟨b43, e44, h⟩ := h
          refine ⟨b43, e44, ?_⟩
          obtain ⟨c45, h⟩ := h
          refine ⟨c45, ?_⟩
          intro x47 e46
          have h := h x47 e46
          exact ⟨h, K⟩
        · intro c48
          have h := h.2.2.2.2.2.2.1 c48
          obtain ⟨b49, e50, h⟩ := h
          refine ⟨b49, e50, ?_⟩
          obtain ⟨c51, h⟩ := h
          refine ⟨c51, ?_⟩
          intro x53 e52
          have h := h x53 e52
          exact ⟨h, K⟩
        · intro c54
          have h := h.2.2.2.2.2.2.2.1 c54
          intro x56 e55
          have h := h x56 e55
          exact ⟨h, K⟩
        · intro c57
          have h := h.2.2.2.2.2.2.2.2.1 c57
          refine cm_X11_isDay (ky_X11_isDay (b := b) hU (fun q hq => hL q ((by decide : ∀ q ∈ kyL_X11_isDay, q ∈ kyL_X11_size) q hq)) (fun z => z.elim) h) h (fun x58 x59 p62 h g60 g61 => ?_)
          have h := h g60 g61
          have K := k9_tr K p62.2
          have o2 := gr_ob p62.2.1 o2
          refine ⟨?_, ?_⟩
          · intro c63
            have h := h.1 c63
            exact ⟨h, K⟩
          · intro c64
            have h := h.2 c64
            obtain ⟨b65, e66, h⟩ := h
            refine ⟨b65, e66, ?_⟩
            obtain ⟨c67, h⟩ := h
            refine ⟨c67, ?_⟩
            obtain ⟨c68, h⟩ := h
            refine ⟨c68, ?_⟩
            intro x70 e69
            have h := h x70 e69
            exact ⟨h, K⟩
        · intro c71
          have h := h.2.2.2.2.2.2.2.2.2.1 c71
          refine cm_X11_isDay (ky_X11_isDay (b := b) hU (fun q hq => hL q ((by decide : ∀ q ∈ kyL_X11_isDay, q ∈ kyL_X11_size) q hq)) (fun z => z.elim) h) h (fun x72 x73 p76 h g74 g75 => ?_)
          have h := h g74 g75
          have K := k9_tr K p76.2
          have o2 := gr_ob p76.2.1 o2
          refine ⟨?_, ?_⟩
          · intro c77
            have h := h.1 c77
            exact ⟨h, K⟩
          · intro c78
            have h := h.2 c78
            obtain ⟨b79, e80, h⟩ := h
            refine ⟨b79, e80, ?_⟩
            obtain ⟨c81, h⟩ := h
            refine ⟨c81, ?_⟩
            obtain ⟨c82, h⟩ := h
            refine ⟨c82, ?_⟩
            intro x84 e83
            have h := h x84 e83
            exact ⟨h, K⟩
        · intro c85
          have h := h.2.2.2.2.2.2.2.2.2.2 c85
          intro x87 e86
          have h := h x87 e86
          exact ⟨h, K⟩
    · intro c88
      have h := h.2 c88
      exact ⟨h, K⟩
  · intro c89
    have h := h.2 c89
    intro x91 e90
    have h := h x91 e90
    exact ⟨h, K⟩
theorem ky_X11_size {b : Bool} {L : List (Nat × Nat)} (hU : ∀ q ∈ L, q ∈ nyT) (hL : ∀ q ∈ kyL_X11_size, q ∈ L) (hb : False → b = false) {Q : Int32 → HS → Prop} {v0 : Nat} {v1 : Int32} {S : HS} (h : P_X11_size v0 v1 Q S) : P_X11_size v0 v1 (fun r T => Q r T ∧ K9 b L S T) S := ky_X11_size_0 hU hL hb h (k9_rf b L S)
abbrev kyL_X11_soaked : List (Nat × Nat) := []
set_option maxRecDepth 20000 in
set_option maxHeartbeats 1000000 in
theorem ky_X11_soaked_57 {b : Bool} {L : List (Nat × Nat)} (hU : ∀ q ∈ L, q ∈ nyT) (hL : ∀ q ∈ kyL_X11_soaked, q ∈ L) (hb : False → b = false) {Q : Int32 → HS → Prop} {s0 : Nat} {s1 : Int32} {S0 S : HS} (h : P_X11_soaked_57 Q s0 s1 S) (K : K9 b L S0 S) : P_X11_soaked_57 (fun r T => Q r T ∧ K9 b L S0 T) s0 s1 S := by
  delta P_X11_soaked_57 at h ⊢
  obtain ⟨c1, h⟩ := h
  refine ⟨c1, ?_⟩
  refine cm_X11_good (ky_X11_good (b := b) hU (fun q hq => hL q ((by decide : ∀ q ∈ kyL_X11_good, q ∈ kyL_X11_soaked) q hq)) (fun z => z.elim) h) h (fun x2 x3 p5 h g4 => ?_)
  have h := h g4
  have K := k9_tr K p5.2
  exact ⟨h, K⟩
set_option maxRecDepth 20000 in
set_option maxHeartbeats 1000000 in
theorem ky_X11_soaked_0 {b : Bool} {L : List (Nat × Nat)} (hU : ∀ q ∈ L, q ∈ nyT) (hL : ∀ q ∈ kyL_X11_soaked, q ∈ L) (hb : False → b = false) {Q : Int32 → HS → Prop} {v0 : Nat} {S0 S : HS} (h : P_X11_soaked_0 Q v0 S) (K : K9 b L S0 S) : P_X11_soaked_0 (fun r T => Q r T ∧ K9 b L S0 T) v0 S := by
  delta P_X11_soaked_0 at h ⊢
  obtain ⟨c1, h⟩ := h
  refine ⟨c1, ?_⟩
  have o2 := c1
  intro x4 e3
  have h := h x4 e3
  have K := k9_I K e3
  have o2 := ob_wI o2 e3
  refine cm_X11_isDay (ky_X11_isDay (b := b) hU (fun q hq => hL q ((by decide : ∀ q ∈ kyL_X11_isDay, q ∈ kyL_X11_soaked) q hq)) (fun z => z.elim) h) h (fun x5 x6 p9 h g7 g8 => ?_)
  have h := h g7 g8
  have K := k9_tr K p9.2
  have o2 := gr_ob p9.2.1 o2
  refine ⟨?_, ?_⟩
  · intro c10
    have h := h.1 c10
    obtain ⟨b11, e12, h⟩ := h
    refine ⟨b11, e12, ?_⟩
    obtain ⟨c13, h⟩ := h
    refine ⟨c13, ?_⟩
    have o14 := c13
    obtain ⟨b15, e16, h⟩ := h
    refine ⟨b15, e16, ?_⟩
    intro x18 e17
    have h := h x18 e17
    obtain ⟨c19, h⟩ := h
    refine ⟨c19, ?_⟩
    obtain ⟨c20, h⟩ := h
    refine ⟨c20, ?_⟩
    intro x22 e21
    have h := h x22 e21
    refine ⟨?_, ?_⟩
    · intro c23
      have h := h.1 c23
      refine cm_X11_gotInAll (ky_X11_gotInAll (b := b) hU (fun q hq => hL q ((by decide : ∀ q ∈ kyL_X11_gotInAll, q ∈ kyL_X11_soaked) q hq)) (fun z => z.elim) h) h (fun x24 x25 p27 h g26 => ?_)
      have h := h g26
      have K := k9_tr K p27.2
      have o2 := gr_ob p27.2.1 o2
      have o14 := gr_ob p27.2.1 o14
      refine cm_X11_holds (ky_X11_holds (b := b) hU (fun q hq => hL q ((by decide : ∀ q ∈ kyL_X11_holds, q ∈ kyL_X11_soaked) q hq)) (fun z => z.elim) h) h (fun x28 x29 p31 h g30 => ?_)
      have h := h g30
      have K := k9_tr K p31.2
      have o2 := gr_ob p31.2.1 o2
      have o14 := gr_ob p31.2.1 o14
      refine ⟨?_, ?_⟩
      · intro c32
        have h := h.1 c32
        exact ky_X11_soaked_57 hU hL hb h K
      · intro c33
        have h := h.2 c33
        exact ky_X11_soaked_57 hU hL hb h K
    · intro c34
      have h := h.2 c34
      exact ky_X11_soaked_57 hU hL hb h K
  · intro c35
    have h := h.2 c35
    refine cm_X11_refused (ky_X11_refused (b := b) hU (fun q hq => hL q ((by decide : ∀ q ∈ kyL_X11_refused, q ∈ kyL_X11_soaked) q hq)) (fun z => z.elim) h) h (fun x36 x37 p39 h g38 => ?_)
    have h := h g38
    have K := k9_tr K p39.2
    have o2 := gr_ob p39.2.1 o2
    exact ⟨h, K⟩
theorem ky_X11_soaked {b : Bool} {L : List (Nat × Nat)} (hU : ∀ q ∈ L, q ∈ nyT) (hL : ∀ q ∈ kyL_X11_soaked, q ∈ L) (hb : False → b = false) {Q : Int32 → HS → Prop} {v0 : Nat} {S : HS} (h : P_X11_soaked v0 Q S) : P_X11_soaked v0 (fun r T => Q r T ∧ K9 b L S T) S := ky_X11_soaked_0 hU hL hb h (k9_rf b L S)
abbrev kyL_X11_stay : List (Nat × Nat) := [(11, 21), (11, 22)]
set_option maxRecDepth 20000 in
set_option maxHeartbeats 1000000 in
theorem ky_X11_stay_133 {b : Bool} {L : List (Nat × Nat)} (hU : ∀ q ∈ L, q ∈ nyT) (hL : ∀ q ∈ kyL_X11_stay, q ∈ L) (hb : False → b = false) {Q : Int32 → HS → Prop} {X84 X84_2 : Nat → Int32 → Int32 → Int32 → HS → Prop} {v0 : Nat} {v1 : Int32} {v2 : Int32} {v3 : Int32} {S0 S : HS} (h : P_X11_stay_133 Q X84 v0 v1 v2 v3 S) (K : K9 b L S0 S) (hX84 : ∀ (u0 : Nat) (u1 : Int32) (u2 : Int32) (u3 : Int32) (u4 : HS), X84 u0 u1 u2 u3 u4 → K9 b L S0 u4 → X84_2 u0 u1 u2 u3 u4) : P_X11_stay_133 (fun r T => Q r T ∧ K9 b L S0 T) X84_2 v0 v1 v2 v3 S := by
  delta P_X11_stay_133 at h ⊢
  obtain ⟨c1, h⟩ := h
  refine ⟨c1, ?_⟩
  have o2 := c1
  obtain ⟨b3, e4, h⟩ := h
  refine ⟨b3, e4, ?_⟩
  have n5 := k9_nr K e4 o2 (hL _ (by decide))
  obtain ⟨c6, h⟩ := h
  refine ⟨c6, ?_⟩
  obtain ⟨c7, h⟩ := h
  refine ⟨c7, ?_⟩
  intro x9 e8
  have h := h x9 e8
  intro x11 e10
  have h := h x11 e10
  obtain ⟨c12, h⟩ := h
  refine ⟨c12, ?_⟩
  intro x14 e13
  have h := h x14 e13
  have K := k9_J K e13 n5
  have o2 := ob_wJ o2 e13
  intro x16 e15
  have h := h x16 e15
  exact hX84 _ _ _ _ _ h K
set_option maxRecDepth 20000 in
set_option maxHeartbeats 1000000 in
theorem kyB_X11_stay_84 {b : Bool} {L : List (Nat × Nat)} (hU : ∀ q ∈ L, q ∈ nyT) (hL : ∀ q ∈ kyL_X11_stay, q ∈ L) (hb : False → b = false) {Q : Int32 → HS → Prop} {X84 X84_2 : Nat → Int32 → Int32 → Int32 → HS → Prop} {v0 : Nat} {v1 : Int32} {v2 : Int32} {v3 : Int32} {S0 S : HS} (h : B_X11_stay_84 Q X84 v0 v1 v2 v3 S) (K : K9 b L S0 S) (hX84 : ∀ (u0 : Nat) (u1 : Int32) (u2 : Int32) (u3 : Int32) (u4 : HS), X84 u0 u1 u2 u3 u4 → K9 b L S0 u4 → X84_2 u0 u1 u2 u3 u4) : B_X11_stay_84 (fun r T => Q r T ∧ K9 b L S0 T) X84_2 v0 v1 v2 v3 S := by
  delta B_X11_stay_84 at h ⊢
  refine ⟨?_, ?_⟩
  · intro c1
    have h := h.1 c1
    obtain ⟨c2, h⟩ := h
    refine ⟨c2, ?_⟩
    have o3 := c2
    refine cm_X11_granted (ky_X11_granted (b := b) hU (fun q hq => hL q ((by decide : ∀ q ∈ kyL_X11_granted, q ∈ kyL_X11_stay) q hq)) (fun z => z.elim) h) h (fun x4 x5 p8 h g6 g7 => ?_)
    have h := h g6 g7
    have K := k9_tr K p8.2
    have o3 := gr_ob p8.2.1 o3
    obtain ⟨c9, h⟩ := h
    refine ⟨c9, ?_⟩
    exact ⟨h, K⟩
  · intro c10
    have h := h.2 c10
    obtain ⟨c11, h⟩ := h
    refine ⟨c11, ?_⟩
    have o12 := c11
    obtain ⟨b13, e14, h⟩ := h
    refine ⟨b13, e14, ?_⟩
    obtain ⟨c15, h⟩ := h
    refine ⟨c15, ?_⟩
    have o16 := c15
    obtain ⟨b17, e18, h⟩ := h
    refine ⟨b17, e18, ?_⟩
    obtain ⟨c19, h⟩ := h
    refine ⟨c19, ?_⟩
    obtain ⟨c20, h⟩ := h
    refine ⟨c20, ?_⟩
    intro x22 e21
    have h := h x22 e21
    refine ⟨?_, ?_⟩
    · intro c23
      have h := h.1 c23
      exact ky_X11_stay_133 hU hL hb h K hX84
    · intro c24
      have h := h.2 c24
      obtain ⟨b25, e26, h⟩ := h
      refine ⟨b25, e26, ?_⟩
      obtain ⟨c27, h⟩ := h
      refine ⟨c27, ?_⟩
      obtain ⟨c28, h⟩ := h
      refine ⟨c28, ?_⟩
      intro x30 e29
      have h := h x30 e29
      refine cm_X11_rainsIn (ky_X11_rainsIn (b := b) hU (fun q hq => hL q ((by decide : ∀ q ∈ kyL_X11_rainsIn, q ∈ kyL_X11_stay) q hq)) (fun z => z.elim) h) h (fun x31 x32 p35 h g33 g34 => ?_)
      have h := h g33 g34
      have K := k9_tr K p35.2
      have o12 := gr_ob p35.2.1 o12
      have o16 := gr_ob p35.2.1 o16
      refine ⟨?_, ?_⟩
      · intro c36
        have h := h.1 c36
        exact ky_X11_stay_133 hU hL hb h K hX84
      · intro c37
        have h := h.2 c37
        obtain ⟨b38, e39, h⟩ := h
        refine ⟨b38, e39, ?_⟩
        have n40 := k9_nr K e39 o12 (hL _ (by decide))
        obtain ⟨c41, h⟩ := h
        refine ⟨c41, ?_⟩
        obtain ⟨c42, h⟩ := h
        refine ⟨c42, ?_⟩
        intro x44 e43
        have h := h x44 e43
        intro x46 e45
        have h := h x46 e45
        refine cm_X11_drips (ky_X11_drips (b := b) hU (fun q hq => hL q ((by decide : ∀ q ∈ kyL_X11_drips, q ∈ kyL_X11_stay) q hq)) (fun z => z.elim) h) h (fun x47 x48 p50 h g49 => ?_)
        have h := h g49
        have K := k9_tr K p50.2
        have o12 := gr_ob p50.2.1 o12
        have o16 := gr_ob p50.2.1 o16
        intro x52 e51
        have h := h x52 e51
        obtain ⟨c53, h⟩ := h
        refine ⟨c53, ?_⟩
        intro x55 e54
        have h := h x55 e54
        have K := k9_J K e54 n40
        have o12 := ob_wJ o12 e54
        have o16 := ob_wJ o16 e54
        exact ky_X11_stay_133 hU hL hb h K hX84
theorem ky_X11_stay_84 {b : Bool} {L : List (Nat × Nat)} (hU : ∀ q ∈ L, q ∈ nyT) (hL : ∀ q ∈ kyL_X11_stay, q ∈ L) (hb : False → b = false) {Q : Int32 → HS → Prop} {v0 : Nat} {v1 : Int32} {v2 : Int32} {v3 : Int32} {S0 S : HS} (h : P_X11_stay_84 Q v0 v1 v2 v3 S) (K : K9 b L S0 S) : P_X11_stay_84 (fun r T => Q r T ∧ K9 b L S0 T) v0 v1 v2 v3 S := h (fun v0 v1 v2 v3 S => K9 b L S0 S → P_X11_stay_84 (fun r T => Q r T ∧ K9 b L S0 T) v0 v1 v2 v3 S) (fun v0 v1 v2 v3 S hB K => fd_X11_stay_84 (kyB_X11_stay_84 hU hL hb hB K (fun _ _ _ _ _ hx K => hx K))) K
set_option maxRecDepth 20000 in
set_option maxHeartbeats 1000000 in
theorem ky_X11_stay_0 {b : Bool} {L : List (Nat × Nat)} (hU : ∀ q ∈ L, q ∈ nyT) (hL : ∀ q ∈ kyL_X11_stay, q ∈ L) (hb : False → b = false) {Q : Int32 → HS → Prop} {v0 : Nat} {v1 : Int32} {S0 S : HS} (h : P_X11_stay_0 Q v0 v1 S) (K : K9 b L S0 S) : P_X11_stay_0 (fun r T => Q r T ∧ K9 b L S0 T) v0 v1 S := by
  delta P_X11_stay_0 at h ⊢
  obtain ⟨c1, h⟩ := h
  refine ⟨c1, ?_⟩
  have o2 := c1
  intro x4 e3
  have h := h x4 e3
  have K := k9_I K e3
  have o2 := ob_wI o2 e3
  refine cm_X11_isDay (ky_X11_isDay (b := b) hU (fun q hq => hL q ((by decide : ∀ q ∈ kyL_X11_isDay, q ∈ kyL_X11_stay) q hq)) (fun z => z.elim) h) h (fun x5 x6 p9 h g7 g8 => ?_)
  have h := h g7 g8
  have K := k9_tr K p9.2
  have o2 := gr_ob p9.2.1 o2
  refine ⟨?_, ?_⟩
  · intro c10
    have h := h.1 c10
    refine cm_X11_in (ky_X11_in (b := b) hU (fun q hq => hL q ((by decide : ∀ q ∈ kyL_X11_in, q ∈ kyL_X11_stay) q hq)) (fun z => z.elim) h) h (fun x11 x12 p15 h g13 g14 => ?_)
    have h := h g13 g14
    have K := k9_tr K p15.2
    have o2 := gr_ob p15.2.1 o2
    refine ⟨?_, ?_⟩
    · intro c16
      have h := h.1 c16
      obtain ⟨b17, e18, h⟩ := h
      refine ⟨b17, e18, ?_⟩
      obtain ⟨c19, h⟩ := h
      refine ⟨c19, ?_⟩
      obtain ⟨c20, h⟩ := h
      refine ⟨c20, ?_⟩
      intro x22 e21
      have h := h x22 e21
      intro x24 e23
      have h := h x24 e23
      refine cm_X11_canWait (ky_X11_canWait (b := b) hU (fun q hq => hL q ((by decide : ∀ q ∈ kyL_X11_canWait, q ∈ kyL_X11_stay) q hq)) (fun z => z.elim) h) h (fun x25 x26 p29 h g27 g28 => ?_)
      have h := h g27 g28
      have K := k9_tr K p29.2
      have o2 := gr_ob p29.2.1 o2
      refine ⟨?_, ?_⟩
      · intro c30
        have h := h.1 c30
        obtain ⟨b31, e32, h⟩ := h
        refine ⟨b31, e32, ?_⟩
        obtain ⟨c33, h⟩ := h
        refine ⟨c33, ?_⟩
        obtain ⟨c34, h⟩ := h
        refine ⟨c34, ?_⟩
        intro x36 e35
        have h := h x36 e35
        refine ⟨?_, ?_⟩
        · intro c37
          have h := h.1 c37
          refine cm_X11_keeps (ky_X11_keeps (b := b) hU (fun q hq => hL q ((by decide : ∀ q ∈ kyL_X11_keeps, q ∈ kyL_X11_stay) q hq)) (fun z => z.elim) h) h (fun x38 p40 h g39 => ?_)
          have h := h g39
          have K := k9_tr K p40.2
          have o2 := gr_ob p40.2.1 o2
          exact ky_X11_stay_84 hU hL hb h K
        · intro c41
          have h := h.2 c41
          refine cm_X11_denied (ky_X11_denied (b := b) hU (fun q hq => hL q ((by decide : ∀ q ∈ kyL_X11_denied, q ∈ kyL_X11_stay) q hq)) (fun z => z.elim) h) h (fun x42 x43 p46 h g44 g45 => ?_)
          have h := h g44 g45
          have K := k9_tr K p46.2
          have o2 := gr_ob p46.2.1 o2
          obtain ⟨c47, h⟩ := h
          refine ⟨c47, ?_⟩
          exact ⟨h, K⟩
      · intro c48
        have h := h.2 c48
        refine cm_X11_denied (ky_X11_denied (b := b) hU (fun q hq => hL q ((by decide : ∀ q ∈ kyL_X11_denied, q ∈ kyL_X11_stay) q hq)) (fun z => z.elim) h) h (fun x49 x50 p53 h g51 g52 => ?_)
        have h := h g51 g52
        have K := k9_tr K p53.2
        have o2 := gr_ob p53.2.1 o2
        obtain ⟨c54, h⟩ := h
        refine ⟨c54, ?_⟩
        exact ⟨h, K⟩
    · intro c55
      have h := h.2 c55
      refine cm_X11_denied (ky_X11_denied (b := b) hU (fun q hq => hL q ((by decide : ∀ q ∈ kyL_X11_denied, q ∈ kyL_X11_stay) q hq)) (fun z => z.elim) h) h (fun x56 x57 p60 h g58 g59 => ?_)
      have h := h g58 g59
      have K := k9_tr K p60.2
      have o2 := gr_ob p60.2.1 o2
      obtain ⟨c61, h⟩ := h
      refine ⟨c61, ?_⟩
      exact ⟨h, K⟩
  · intro c62
    have h := h.2 c62
    refine cm_X11_denied (ky_X11_denied (b := b) hU (fun q hq => hL q ((by decide : ∀ q ∈ kyL_X11_denied, q ∈ kyL_X11_stay) q hq)) (fun z => z.elim) h) h (fun x63 x64 p67 h g65 g66 => ?_)
    have h := h g65 g66
    have K := k9_tr K p67.2
    have o2 := gr_ob p67.2.1 o2
    obtain ⟨c68, h⟩ := h
    refine ⟨c68, ?_⟩
    exact ⟨h, K⟩
theorem ky_X11_stay {b : Bool} {L : List (Nat × Nat)} (hU : ∀ q ∈ L, q ∈ nyT) (hL : ∀ q ∈ kyL_X11_stay, q ∈ L) (hb : False → b = false) {Q : Int32 → HS → Prop} {v0 : Nat} {v1 : Int32} {S : HS} (h : P_X11_stay v0 v1 Q S) : P_X11_stay v0 v1 (fun r T => Q r T ∧ K9 b L S T) S := ky_X11_stay_0 hU hL hb h (k9_rf b L S)
abbrev kyL_X11_stepOf : List (Nat × Nat) := []
set_option maxRecDepth 20000 in
set_option maxHeartbeats 1000000 in
theorem ky_X11_stepOf_117 {b : Bool} {L : List (Nat × Nat)} (hU : ∀ q ∈ L, q ∈ nyT) (hL : ∀ q ∈ kyL_X11_stepOf, q ∈ L) (hb : False → b = false) {Q : Int32 → HS → Prop} {X9 X9_2 : Nat → Int32 → Int32 → Int32 → Int32 → HS → Prop} {v0 : Nat} {v4 : Int32} {v6 : Int32} {v7 : Int32} {s0 : Int32} {S0 S : HS} (h : P_X11_stepOf_117 Q X9 v0 v4 v6 v7 s0 S) (K : K9 b L S0 S) (hX9 : ∀ (u0 : Nat) (u1 : Int32) (u2 : Int32) (u3 : Int32) (u4 : Int32) (u5 : HS), X9 u0 u1 u2 u3 u4 u5 → K9 b L S0 u5 → X9_2 u0 u1 u2 u3 u4 u5) : P_X11_stepOf_117 (fun r T => Q r T ∧ K9 b L S0 T) X9_2 v0 v4 v6 v7 s0 S := by
  delta P_X11_stepOf_117 at h ⊢
  exact hX9 _ _ _ _ _ _ h K
set_option maxRecDepth 20000 in
set_option maxHeartbeats 1000000 in
theorem ky_X11_stepOf_82 {b : Bool} {L : List (Nat × Nat)} (hU : ∀ q ∈ L, q ∈ nyT) (hL : ∀ q ∈ kyL_X11_stepOf, q ∈ L) (hb : False → b = false) {Q : Int32 → HS → Prop} {X9 X9_2 : Nat → Int32 → Int32 → Int32 → Int32 → HS → Prop} {v0 : Nat} {v4 : Int32} {v5 : Int32} {v7 : Int32} {v8 : Int32} {s0 : Int32} {s1 : Int32} {S0 S : HS} (h : P_X11_stepOf_82 Q X9 v0 v4 v5 v7 v8 s0 s1 S) (K : K9 b L S0 S) (hX9 : ∀ (u0 : Nat) (u1 : Int32) (u2 : Int32) (u3 : Int32) (u4 : Int32) (u5 : HS), X9 u0 u1 u2 u3 u4 u5 → K9 b L S0 u5 → X9_2 u0 u1 u2 u3 u4 u5) : P_X11_stepOf_82 (fun r T => Q r T ∧ K9 b L S0 T) X9_2 v0 v4 v5 v7 v8 s0 s1 S := by
  delta P_X11_stepOf_82 at h ⊢
  intro x2 e1
  have h := h x2 e1
  refine ⟨?_, ?_⟩
  · intro c3
    have h := h.1 c3
    obtain ⟨c4, h⟩ := h
    refine ⟨c4, ?_⟩
    have o5 := c4
    obtain ⟨b6, e7, h⟩ := h
    refine ⟨b6, e7, ?_⟩
    intro x9 e8
    have h := h x9 e8
    intro x11 e10
    have h := h x11 e10
    intro x13 e12
    have h := h x13 e12
    obtain ⟨c14, h⟩ := h
    refine ⟨c14, ?_⟩
    refine cm_X10_ends (ky_X10_ends (b := b) hU (fun q hq => hL q ((by decide : ∀ q ∈ kyL_X10_ends, q ∈ kyL_X11_stepOf) q hq)) (fun z => z.elim) h) h (fun x15 x16 p18 h g17 => ?_)
    have h := h g17
    have K := k9_tr K p18.2
    have o5 := gr_ob p18.2.1 o5
    exact ky_X11_stepOf_117 hU hL hb h K hX9
  · intro c19
    have h := h.2 c19
    exact ky_X11_stepOf_117 hU hL hb h K hX9
set_option maxRecDepth 20000 in
set_option maxHeartbeats 1000000 in
theorem kyB_X11_stepOf_9 {b : Bool} {L : List (Nat × Nat)} (hU : ∀ q ∈ L, q ∈ nyT) (hL : ∀ q ∈ kyL_X11_stepOf, q ∈ L) (hb : False → b = false) {Q : Int32 → HS → Prop} {X9 X9_2 : Nat → Int32 → Int32 → Int32 → Int32 → HS → Prop} {v0 : Nat} {v4 : Int32} {v5 : Int32} {v6 : Int32} {v7 : Int32} {S0 S : HS} (h : B_X11_stepOf_9 Q X9 v0 v4 v5 v6 v7 S) (K : K9 b L S0 S) (hX9 : ∀ (u0 : Nat) (u1 : Int32) (u2 : Int32) (u3 : Int32) (u4 : Int32) (u5 : HS), X9 u0 u1 u2 u3 u4 u5 → K9 b L S0 u5 → X9_2 u0 u1 u2 u3 u4 u5) : B_X11_stepOf_9 (fun r T => Q r T ∧ K9 b L S0 T) X9_2 v0 v4 v5 v6 v7 S := by
  delta B_X11_stepOf_9 at h ⊢
  obtain ⟨c1, h⟩ := h
  refine ⟨c1, ?_⟩
  have o2 := c1
  obtain ⟨b3, e4, h⟩ := h
  refine ⟨b3, e4, ?_⟩
  refine cm_X11_spotOf (ky_X11_spotOf (b := b) hU (fun q hq => hL q ((by decide : ∀ q ∈ kyL_X11_spotOf, q ∈ kyL_X11_stepOf) q hq)) (fun z => z.elim) h) h (fun x5 x6 p8 h g7 => ?_)
  have h := h g7
  have K := k9_tr K p8.2
  have o2 := gr_ob p8.2.1 o2
  obtain ⟨c9, h⟩ := h
  refine ⟨c9, ?_⟩
  obtain ⟨c10, h⟩ := h
  refine ⟨c10, ?_⟩
  intro x12 e11
  have h := h x12 e11
  refine ⟨?_, ?_⟩
  · intro c13
    have h := h.1 c13
    refine ⟨?_, ?_⟩
    · intro c14
      have h := h.1 c14
      exact ⟨h, K⟩
    · intro c15
      have h := h.2 c15
      exact ⟨h, K⟩
  · intro c16
    have h := h.2 c16
    obtain ⟨b17, e18, h⟩ := h
    refine ⟨b17, e18, ?_⟩
    refine cm_X11_spotOf (ky_X11_spotOf (b := b) hU (fun q hq => hL q ((by decide : ∀ q ∈ kyL_X11_spotOf, q ∈ kyL_X11_stepOf) q hq)) (fun z => z.elim) h) h (fun x19 x20 p22 h g21 => ?_)
    have h := h g21
    have K := k9_tr K p22.2
    have o2 := gr_ob p22.2.1 o2
    obtain ⟨c23, h⟩ := h
    refine ⟨c23, ?_⟩
    obtain ⟨c24, h⟩ := h
    refine ⟨c24, ?_⟩
    intro x26 e25
    have h := h x26 e25
    refine ⟨?_, ?_⟩
    · intro c27
      have h := h.1 c27
      intro x29 e28
      have h := h x29 e28
      refine ⟨?_, ?_⟩
      · intro c30
        have h := h.1 c30
        obtain ⟨b31, e32, h⟩ := h
        refine ⟨b31, e32, ?_⟩
        intro x34 e33
        have h := h x34 e33
        intro x36 e35
        have h := h x36 e35
        obtain ⟨c37, h⟩ := h
        refine ⟨c37, ?_⟩
        refine cm_X10_minutes (ky_X10_minutes (b := b) hU (fun q hq => hL q ((by decide : ∀ q ∈ kyL_X10_minutes, q ∈ kyL_X11_stepOf) q hq)) (fun z => z.elim) h) h (fun x38 x39 p41 h g40 => ?_)
        have h := h g40
        have K := k9_tr K p41.2
        have o2 := gr_ob p41.2.1 o2
        exact ky_X11_stepOf_82 hU hL hb h K hX9
      · intro c42
        have h := h.2 c42
        exact ky_X11_stepOf_82 hU hL hb h K hX9
    · intro c43
      have h := h.2 c43
      exact ⟨h, K⟩
theorem ky_X11_stepOf_9 {b : Bool} {L : List (Nat × Nat)} (hU : ∀ q ∈ L, q ∈ nyT) (hL : ∀ q ∈ kyL_X11_stepOf, q ∈ L) (hb : False → b = false) {Q : Int32 → HS → Prop} {v0 : Nat} {v4 : Int32} {v5 : Int32} {v6 : Int32} {v7 : Int32} {S0 S : HS} (h : P_X11_stepOf_9 Q v0 v4 v5 v6 v7 S) (K : K9 b L S0 S) : P_X11_stepOf_9 (fun r T => Q r T ∧ K9 b L S0 T) v0 v4 v5 v6 v7 S := h (fun v0 v4 v5 v6 v7 S => K9 b L S0 S → P_X11_stepOf_9 (fun r T => Q r T ∧ K9 b L S0 T) v0 v4 v5 v6 v7 S) (fun v0 v4 v5 v6 v7 S hB K => fd_X11_stepOf_9 (kyB_X11_stepOf_9 hU hL hb hB K (fun _ _ _ _ _ _ hx K => hx K))) K
set_option maxRecDepth 20000 in
set_option maxHeartbeats 1000000 in
theorem ky_X11_stepOf_0 {b : Bool} {L : List (Nat × Nat)} (hU : ∀ q ∈ L, q ∈ nyT) (hL : ∀ q ∈ kyL_X11_stepOf, q ∈ L) (hb : False → b = false) {Q : Int32 → HS → Prop} {v0 : Nat} {v2 : Int32} {v3 : Int32} {v4 : Int32} {S0 S : HS} (h : P_X11_stepOf_0 Q v0 v2 v3 v4 S) (K : K9 b L S0 S) : P_X11_stepOf_0 (fun r T => Q r T ∧ K9 b L S0 T) v0 v2 v3 v4 S := by
  delta P_X11_stepOf_0 at h ⊢
  exact ky_X11_stepOf_9 hU hL hb h K
theorem ky_X11_stepOf {b : Bool} {L : List (Nat × Nat)} (hU : ∀ q ∈ L, q ∈ nyT) (hL : ∀ q ∈ kyL_X11_stepOf, q ∈ L) (hb : False → b = false) {Q : Int32 → HS → Prop} {v0 : Nat} {v1 : Int32} {v2 : Int32} {v3 : Int32} {v4 : Int32} {S : HS} (h : P_X11_stepOf v0 v1 v2 v3 v4 Q S) : P_X11_stepOf v0 v1 v2 v3 v4 (fun r T => Q r T ∧ K9 b L S T) S := ky_X11_stepOf_0 hU hL hb h (k9_rf b L S)
end
section
abbrev kyL_X11_step : List (Nat × Nat) := [(11, 16)]
set_option maxRecDepth 20000 in
set_option maxHeartbeats 1000000 in
theorem ky_X11_step_49 {b : Bool} {L : List (Nat × Nat)} (hU : ∀ q ∈ L, q ∈ nyT) (hL : ∀ q ∈ kyL_X11_step, q ∈ L) (hb : False → b = false) {Q : Int32 → HS → Prop} {v0 : Nat} {s0 : Int32} {S0 S : HS} (h : P_X11_step_49 Q v0 s0 S) (K : K9 b L S0 S) : P_X11_step_49 (fun r T => Q r T ∧ K9 b L S0 T) v0 s0 S := by
  delta P_X11_step_49 at h ⊢
  refine ⟨?_, ?_⟩
  · intro c1
    have h := h.1 c1
    obtain ⟨c2, h⟩ := h
    refine ⟨c2, ?_⟩
    refine cm_X11_good (ky_X11_good (b := b) hU (fun q hq => hL q ((by decide : ∀ q ∈ kyL_X11_good, q ∈ kyL_X11_step) q hq)) (fun z => z.elim) h) h (fun x3 x4 p6 h g5 => ?_)
    have h := h g5
    have K := k9_tr K p6.2
    exact ⟨h, K⟩
  · intro c7
    have h := h.2 c7
    obtain ⟨c8, h⟩ := h
    refine ⟨c8, ?_⟩
    refine cm_X11_refused (ky_X11_refused (b := b) hU (fun q hq => hL q ((by decide : ∀ q ∈ kyL_X11_refused, q ∈ kyL_X11_step) q hq)) (fun z => z.elim) h) h (fun x9 x10 p12 h g11 => ?_)
    have h := h g11
    have K := k9_tr K p12.2
    exact ⟨h, K⟩
set_option maxRecDepth 20000 in
set_option maxHeartbeats 1000000 in
theorem ky_X11_step_0 {b : Bool} {L : List (Nat × Nat)} (hU : ∀ q ∈ L, q ∈ nyT) (hL : ∀ q ∈ kyL_X11_step, q ∈ L) (hb : False → b = false) {Q : Int32 → HS → Prop} {v0 : Nat} {v1 : Int32} {v2 : Int32} {v3 : Int32} {v4 : Int32} {v5 : Int32} {v6 : Int32} {S0 S : HS} (h : P_X11_step_0 Q v0 v1 v2 v3 v4 v5 v6 S) (K : K9 b L S0 S) : P_X11_step_0 (fun r T => Q r T ∧ K9 b L S0 T) v0 v1 v2 v3 v4 v5 v6 S := by
  delta P_X11_step_0 at h ⊢
  obtain ⟨c1, h⟩ := h
  refine ⟨c1, ?_⟩
  intro x3 e2
  have h := h x3 e2
  have K := k9_I K e2
  refine cm_X11_refusesWay (ky_X11_refusesWay (b := b) hU (fun q hq => hL q ((by decide : ∀ q ∈ kyL_X11_refusesWay, q ∈ kyL_X11_step) q hq)) (fun z => z.elim) h) h (fun x4 x5 p7 h g6 => ?_)
  have h := h g6
  have K := k9_tr K p7.2
  refine ⟨?_, ?_⟩
  · intro c8
    have h := h.1 c8
    refine ⟨?_, ?_⟩
    · intro c9
      have h := h.1 c9
      refine cm_X11_stepOf (ky_X11_stepOf (b := b) hU (fun q hq => hL q ((by decide : ∀ q ∈ kyL_X11_stepOf, q ∈ kyL_X11_step) q hq)) (fun z => z.elim) h) h (fun x10 x11 p13 h g12 => ?_)
      have h := h g12
      have K := k9_tr K p13.2
      exact ky_X11_step_49 hU hL hb h K
    · intro c14
      have h := h.2 c14
      exact ky_X11_step_49 hU hL hb h K
  · intro c15
    have h := h.2 c15
    refine cm_X11_refused (ky_X11_refused (b := b) hU (fun q hq => hL q ((by decide : ∀ q ∈ kyL_X11_refused, q ∈ kyL_X11_step) q hq)) (fun z => z.elim) h) h (fun x16 x17 p19 h g18 => ?_)
    have h := h g18
    have K := k9_tr K p19.2
    exact ⟨h, K⟩
theorem ky_X11_step {b : Bool} {L : List (Nat × Nat)} (hU : ∀ q ∈ L, q ∈ nyT) (hL : ∀ q ∈ kyL_X11_step, q ∈ L) (hb : False → b = false) {Q : Int32 → HS → Prop} {v0 : Nat} {v1 : Int32} {v2 : Int32} {v3 : Int32} {v4 : Int32} {v5 : Int32} {v6 : Int32} {S : HS} (h : P_X11_step v0 v1 v2 v3 v4 v5 v6 Q S) : P_X11_step v0 v1 v2 v3 v4 v5 v6 (fun r T => Q r T ∧ K9 b L S T) S := ky_X11_step_0 hU hL hb h (k9_rf b L S)
abbrev kyL_X11_steps : List (Nat × Nat) := [(11, 16)]
set_option maxRecDepth 20000 in
set_option maxHeartbeats 1000000 in
theorem ky_X11_steps_0 {b : Bool} {L : List (Nat × Nat)} (hU : ∀ q ∈ L, q ∈ nyT) (hL : ∀ q ∈ kyL_X11_steps, q ∈ L) (hb : False → b = false) {Q : Int32 → HS → Prop} {v0 : Nat} {v1 : Int32} {v2 : Int32} {v3 : Int32} {v4 : Int32} {v5 : Int32} {S0 S : HS} (h : P_X11_steps_0 Q v0 v1 v2 v3 v4 v5 S) (K : K9 b L S0 S) : P_X11_steps_0 (fun r T => Q r T ∧ K9 b L S0 T) v0 v1 v2 v3 v4 v5 S := by
  delta P_X11_steps_0 at h ⊢
  obtain ⟨c1, h⟩ := h
  refine ⟨c1, ?_⟩
  intro x3 e2
  have h := h x3 e2
  have K := k9_I K e2
  refine cm_X11_refusesWay (ky_X11_refusesWay (b := b) hU (fun q hq => hL q ((by decide : ∀ q ∈ kyL_X11_refusesWay, q ∈ kyL_X11_steps) q hq)) (fun z => z.elim) h) h (fun x4 x5 p7 h g6 => ?_)
  have h := h g6
  have K := k9_tr K p7.2
  refine ⟨?_, ?_⟩
  · intro c8
    have h := h.1 c8
    refine cm_X11_stepOf (ky_X11_stepOf (b := b) hU (fun q hq => hL q ((by decide : ∀ q ∈ kyL_X11_stepOf, q ∈ kyL_X11_steps) q hq)) (fun z => z.elim) h) h (fun x9 x10 p12 h g11 => ?_)
    have h := h g11
    have K := k9_tr K p12.2
    refine cm_X11_good (ky_X11_good (b := b) hU (fun q hq => hL q ((by decide : ∀ q ∈ kyL_X11_good, q ∈ kyL_X11_steps) q hq)) (fun z => z.elim) h) h (fun x13 x14 p16 h g15 => ?_)
    have h := h g15
    have K := k9_tr K p16.2
    exact ⟨h, K⟩
  · intro c17
    have h := h.2 c17
    refine cm_X11_refused (ky_X11_refused (b := b) hU (fun q hq => hL q ((by decide : ∀ q ∈ kyL_X11_refused, q ∈ kyL_X11_steps) q hq)) (fun z => z.elim) h) h (fun x18 x19 p21 h g20 => ?_)
    have h := h g20
    have K := k9_tr K p21.2
    exact ⟨h, K⟩
theorem ky_X11_steps {b : Bool} {L : List (Nat × Nat)} (hU : ∀ q ∈ L, q ∈ nyT) (hL : ∀ q ∈ kyL_X11_steps, q ∈ L) (hb : False → b = false) {Q : Int32 → HS → Prop} {v0 : Nat} {v1 : Int32} {v2 : Int32} {v3 : Int32} {v4 : Int32} {v5 : Int32} {S : HS} (h : P_X11_steps v0 v1 v2 v3 v4 v5 Q S) : P_X11_steps v0 v1 v2 v3 v4 v5 (fun r T => Q r T ∧ K9 b L S T) S := ky_X11_steps_0 hU hL hb h (k9_rf b L S)
abbrev kyL_X11_there : List (Nat × Nat) := [(11, 16)]
set_option maxRecDepth 20000 in
set_option maxHeartbeats 1000000 in
theorem ky_X11_there_0 {b : Bool} {L : List (Nat × Nat)} (hU : ∀ q ∈ L, q ∈ nyT) (hL : ∀ q ∈ kyL_X11_there, q ∈ L) (hb : False → b = false) {Q : Int32 → HS → Prop} {v0 : Nat} {v1 : Int32} {v2 : Int32} {v3 : Int32} {v4 : Int32} {v5 : Int32} {S0 S : HS} (h : P_X11_there_0 Q v0 v1 v2 v3 v4 v5 S) (K : K9 b L S0 S) : P_X11_there_0 (fun r T => Q r T ∧ K9 b L S0 T) v0 v1 v2 v3 v4 v5 S := by
  delta P_X11_there_0 at h ⊢
  obtain ⟨c1, h⟩ := h
  refine ⟨c1, ?_⟩
  have o2 := c1
  intro x4 e3
  have h := h x4 e3
  have K := k9_I K e3
  have o2 := ob_wI o2 e3
  refine cm_X11_refusesWay (ky_X11_refusesWay (b := b) hU (fun q hq => hL q ((by decide : ∀ q ∈ kyL_X11_refusesWay, q ∈ kyL_X11_there) q hq)) (fun z => z.elim) h) h (fun x5 x6 p8 h g7 => ?_)
  have h := h g7
  have K := k9_tr K p8.2
  have o2 := gr_ob p8.2.1 o2
  refine ⟨?_, ?_⟩
  · intro c9
    have h := h.1 c9
    obtain ⟨b10, e11, h⟩ := h
    refine ⟨b10, e11, ?_⟩
    refine cm_X11_spotOf (ky_X11_spotOf (b := b) hU (fun q hq => hL q ((by decide : ∀ q ∈ kyL_X11_spotOf, q ∈ kyL_X11_there) q hq)) (fun z => z.elim) h) h (fun x12 x13 p15 h g14 => ?_)
    have h := h g14
    have K := k9_tr K p15.2
    have o2 := gr_ob p15.2.1 o2
    obtain ⟨c16, h⟩ := h
    refine ⟨c16, ?_⟩
    obtain ⟨c17, h⟩ := h
    refine ⟨c17, ?_⟩
    intro x19 e18
    have h := h x19 e18
    refine cm_X11_good (ky_X11_good (b := b) hU (fun q hq => hL q ((by decide : ∀ q ∈ kyL_X11_good, q ∈ kyL_X11_there) q hq)) (fun z => z.elim) h) h (fun x20 x21 p23 h g22 => ?_)
    have h := h g22
    have K := k9_tr K p23.2
    have o2 := gr_ob p23.2.1 o2
    exact ⟨h, K⟩
  · intro c24
    have h := h.2 c24
    refine cm_X11_refused (ky_X11_refused (b := b) hU (fun q hq => hL q ((by decide : ∀ q ∈ kyL_X11_refused, q ∈ kyL_X11_there) q hq)) (fun z => z.elim) h) h (fun x25 x26 p28 h g27 => ?_)
    have h := h g27
    have K := k9_tr K p28.2
    have o2 := gr_ob p28.2.1 o2
    exact ⟨h, K⟩
theorem ky_X11_there {b : Bool} {L : List (Nat × Nat)} (hU : ∀ q ∈ L, q ∈ nyT) (hL : ∀ q ∈ kyL_X11_there, q ∈ L) (hb : False → b = false) {Q : Int32 → HS → Prop} {v0 : Nat} {v1 : Int32} {v2 : Int32} {v3 : Int32} {v4 : Int32} {v5 : Int32} {S : HS} (h : P_X11_there v0 v1 v2 v3 v4 v5 Q S) : P_X11_there v0 v1 v2 v3 v4 v5 (fun r T => Q r T ∧ K9 b L S T) S := ky_X11_there_0 hU hL hb h (k9_rf b L S)
abbrev kyL_X11_trouble : List (Nat × Nat) := []
set_option maxRecDepth 20000 in
set_option maxHeartbeats 1000000 in
theorem ky_X11_trouble_0 {b : Bool} {L : List (Nat × Nat)} (hU : ∀ q ∈ L, q ∈ nyT) (hL : ∀ q ∈ kyL_X11_trouble, q ∈ L) (hb : False → b = false) {Q : Int32 → HS → Prop} {v0 : Nat} {S0 S : HS} (h : P_X11_trouble_0 Q v0 S) (K : K9 b L S0 S) : P_X11_trouble_0 (fun r T => Q r T ∧ K9 b L S0 T) v0 S := by
  delta P_X11_trouble_0 at h ⊢
  obtain ⟨c1, h⟩ := h
  refine ⟨c1, ?_⟩
  intro x3 e2
  have h := h x3 e2
  have K := k9_I K e2
  intro x5 e4
  have h := h x5 e4
  exact ⟨h, K⟩
theorem ky_X11_trouble {b : Bool} {L : List (Nat × Nat)} (hU : ∀ q ∈ L, q ∈ nyT) (hL : ∀ q ∈ kyL_X11_trouble, q ∈ L) (hb : False → b = false) {Q : Int32 → HS → Prop} {v0 : Nat} {S : HS} (h : P_X11_trouble v0 Q S) : P_X11_trouble v0 (fun r T => Q r T ∧ K9 b L S T) S := ky_X11_trouble_0 hU hL hb h (k9_rf b L S)
abbrev kyL_X11_undo : List (Nat × Nat) := [(11, 21)]
set_option maxRecDepth 20000 in
set_option maxHeartbeats 1000000 in
theorem ky_X11_undo_19 {b : Bool} {L : List (Nat × Nat)} (hU : ∀ q ∈ L, q ∈ nyT) (hL : ∀ q ∈ kyL_X11_undo, q ∈ L) (hb : False → b = false) {Q : Int32 → HS → Prop} {v0 : Nat} {S0 S : HS} (h : P_X11_undo_19 Q v0 S) (K : K9 b L S0 S) : P_X11_undo_19 (fun r T => Q r T ∧ K9 b L S0 T) v0 S := by
  delta P_X11_undo_19 at h ⊢
  obtain ⟨c1, h⟩ := h
  refine ⟨c1, ?_⟩
  refine cm_X11_denied (ky_X11_denied (b := b) hU (fun q hq => hL q ((by decide : ∀ q ∈ kyL_X11_denied, q ∈ kyL_X11_undo) q hq)) (fun z => z.elim) h) h (fun x2 x3 p6 h g4 g5 => ?_)
  have h := h g4 g5
  have K := k9_tr K p6.2
  obtain ⟨c7, h⟩ := h
  refine ⟨c7, ?_⟩
  exact ⟨h, K⟩
set_option maxRecDepth 20000 in
set_option maxHeartbeats 1000000 in
theorem kyB_X11_undo_38 {b : Bool} {L : List (Nat × Nat)} (hU : ∀ q ∈ L, q ∈ nyT) (hL : ∀ q ∈ kyL_X11_undo, q ∈ L) (hb : False → b = false) {Q : Int32 → HS → Prop} {X38 X38_2 : Nat → Int32 → HS → Prop} {v0 : Nat} {v1 : Int32} {S0 S : HS} (h : B_X11_undo_38 Q X38 v0 v1 S) (K : K9 b L S0 S) (hX38 : ∀ (u0 : Nat) (u1 : Int32) (u2 : HS), X38 u0 u1 u2 → K9 b L S0 u2 → X38_2 u0 u1 u2) : B_X11_undo_38 (fun r T => Q r T ∧ K9 b L S0 T) X38_2 v0 v1 S := by
  delta B_X11_undo_38 at h ⊢
  refine ⟨?_, ?_⟩
  · intro c1
    have h := h.1 c1
    obtain ⟨c2, h⟩ := h
    refine ⟨c2, ?_⟩
    have o3 := c2
    refine cm_X11_granted (ky_X11_granted (b := b) hU (fun q hq => hL q ((by decide : ∀ q ∈ kyL_X11_granted, q ∈ kyL_X11_undo) q hq)) (fun z => z.elim) h) h (fun x4 x5 p8 h g6 g7 => ?_)
    have h := h g6 g7
    have K := k9_tr K p8.2
    have o3 := gr_ob p8.2.1 o3
    obtain ⟨c9, h⟩ := h
    refine ⟨c9, ?_⟩
    exact ⟨h, K⟩
  · intro c10
    have h := h.2 c10
    obtain ⟨c11, h⟩ := h
    refine ⟨c11, ?_⟩
    have o12 := c11
    obtain ⟨b13, e14, h⟩ := h
    refine ⟨b13, e14, ?_⟩
    have n15 := k9_nr K e14 o12 (hL _ (by decide))
    obtain ⟨b16, e17, h⟩ := h
    refine ⟨b16, e17, ?_⟩
    intro x19 e18
    have h := h x19 e18
    obtain ⟨c20, h⟩ := h
    refine ⟨c20, ?_⟩
    intro x22 e21
    have h := h x22 e21
    obtain ⟨c23, h⟩ := h
    refine ⟨c23, ?_⟩
    intro x25 e24
    have h := h x25 e24
    obtain ⟨c26, h⟩ := h
    refine ⟨c26, ?_⟩
    obtain ⟨c27, h⟩ := h
    refine ⟨c27, ?_⟩
    intro x29 e28
    have h := h x29 e28
    have K := k9_J K e28 n15
    have o12 := ob_wJ o12 e28
    intro x31 e30
    have h := h x31 e30
    exact hX38 _ _ _ h K
theorem ky_X11_undo_38 {b : Bool} {L : List (Nat × Nat)} (hU : ∀ q ∈ L, q ∈ nyT) (hL : ∀ q ∈ kyL_X11_undo, q ∈ L) (hb : False → b = false) {Q : Int32 → HS → Prop} {v0 : Nat} {v1 : Int32} {S0 S : HS} (h : P_X11_undo_38 Q v0 v1 S) (K : K9 b L S0 S) : P_X11_undo_38 (fun r T => Q r T ∧ K9 b L S0 T) v0 v1 S := h (fun v0 v1 S => K9 b L S0 S → P_X11_undo_38 (fun r T => Q r T ∧ K9 b L S0 T) v0 v1 S) (fun v0 v1 S hB K => fd_X11_undo_38 (kyB_X11_undo_38 hU hL hb hB K (fun _ _ _ hx K => hx K))) K
set_option maxRecDepth 20000 in
set_option maxHeartbeats 1000000 in
theorem ky_X11_undo_0 {b : Bool} {L : List (Nat × Nat)} (hU : ∀ q ∈ L, q ∈ nyT) (hL : ∀ q ∈ kyL_X11_undo, q ∈ L) (hb : False → b = false) {Q : Int32 → HS → Prop} {v0 : Nat} {S0 S : HS} (h : P_X11_undo_0 Q v0 S) (K : K9 b L S0 S) : P_X11_undo_0 (fun r T => Q r T ∧ K9 b L S0 T) v0 S := by
  delta P_X11_undo_0 at h ⊢
  obtain ⟨c1, h⟩ := h
  refine ⟨c1, ?_⟩
  intro x3 e2
  have h := h x3 e2
  have K := k9_I K e2
  refine cm_X11_isDay (ky_X11_isDay (b := b) hU (fun q hq => hL q ((by decide : ∀ q ∈ kyL_X11_isDay, q ∈ kyL_X11_undo) q hq)) (fun z => z.elim) h) h (fun x4 x5 p8 h g6 g7 => ?_)
  have h := h g6 g7
  have K := k9_tr K p8.2
  refine ⟨?_, ?_⟩
  · intro c9
    have h := h.1 c9
    exact ky_X11_undo_19 hU hL hb h K
  · intro c10
    have h := h.2 c10
    intro x12 e11
    have h := h x12 e11
    refine ⟨?_, ?_⟩
    · intro c13
      have h := h.1 c13
      intro x15 e14
      have h := h x15 e14
      intro x17 e16
      have h := h x17 e16
      intro x19 e18
      have h := h x19 e18
      have K := k9_I K e18
      exact ky_X11_undo_38 hU hL hb h K
    · intro c20
      have h := h.2 c20
      exact ky_X11_undo_19 hU hL hb h K
theorem ky_X11_undo {b : Bool} {L : List (Nat × Nat)} (hU : ∀ q ∈ L, q ∈ nyT) (hL : ∀ q ∈ kyL_X11_undo, q ∈ L) (hb : False → b = false) {Q : Int32 → HS → Prop} {v0 : Nat} {S : HS} (h : P_X11_undo v0 Q S) : P_X11_undo v0 (fun r T => Q r T ∧ K9 b L S T) S := ky_X11_undo_0 hU hL hb h (k9_rf b L S)
abbrev kyL_X11_walker : List (Nat × Nat) := []
set_option maxRecDepth 20000 in
set_option maxHeartbeats 1000000 in
theorem ky_X11_walker_23 {b : Bool} {L : List (Nat × Nat)} (hU : ∀ q ∈ L, q ∈ nyT) (hL : ∀ q ∈ kyL_X11_walker, q ∈ L) (hb : False → b = false) {Q : Int32 → HS → Prop} {v0 : Nat} {S0 S : HS} (h : P_X11_walker_23 Q v0 S) (K : K9 b L S0 S) : P_X11_walker_23 (fun r T => Q r T ∧ K9 b L S0 T) v0 S := by
  delta P_X11_walker_23 at h ⊢
  obtain ⟨c1, h⟩ := h
  refine ⟨c1, ?_⟩
  refine cm_X11_refused (ky_X11_refused (b := b) hU (fun q hq => hL q ((by decide : ∀ q ∈ kyL_X11_refused, q ∈ kyL_X11_walker) q hq)) (fun z => z.elim) h) h (fun x2 x3 p5 h g4 => ?_)
  have h := h g4
  have K := k9_tr K p5.2
  exact ⟨h, K⟩
set_option maxRecDepth 20000 in
set_option maxHeartbeats 1000000 in
theorem ky_X11_walker_0 {b : Bool} {L : List (Nat × Nat)} (hU : ∀ q ∈ L, q ∈ nyT) (hL : ∀ q ∈ kyL_X11_walker, q ∈ L) (hb : False → b = false) {Q : Int32 → HS → Prop} {v0 : Nat} {v1 : Int32} {v2 : Int32} {S0 S : HS} (h : P_X11_walker_0 Q v0 v1 v2 S) (K : K9 b L S0 S) : P_X11_walker_0 (fun r T => Q r T ∧ K9 b L S0 T) v0 v1 v2 S := by
  delta P_X11_walker_0 at h ⊢
  obtain ⟨c1, h⟩ := h
  refine ⟨c1, ?_⟩
  have o2 := c1
  intro x4 e3
  have h := h x4 e3
  have K := k9_I K e3
  have o2 := ob_wI o2 e3
  refine cm_X11_isWalker (ky_X11_isWalker (b := b) hU (fun q hq => hL q ((by decide : ∀ q ∈ kyL_X11_isWalker, q ∈ kyL_X11_walker) q hq)) (fun z => z.elim) h) h (fun x5 x6 p9 h g7 g8 => ?_)
  have h := h g7 g8
  have K := k9_tr K p9.2
  have o2 := gr_ob p9.2.1 o2
  refine ⟨?_, ?_⟩
  · intro c10
    have h := h.1 c10
    exact ky_X11_walker_23 hU hL hb h K
  · intro c11
    have h := h.2 c11
    refine cm_X11_in (ky_X11_in (b := b) hU (fun q hq => hL q ((by decide : ∀ q ∈ kyL_X11_in, q ∈ kyL_X11_walker) q hq)) (fun z => z.elim) h) h (fun x12 x13 p16 h g14 g15 => ?_)
    have h := h g14 g15
    have K := k9_tr K p16.2
    have o2 := gr_ob p16.2.1 o2
    refine ⟨?_, ?_⟩
    · intro c17
      have h := h.1 c17
      refine ⟨?_, ?_, ?_, ?_, ?_, ?_, ?_⟩
      · intro c18
        have h := h.1 c18
        obtain ⟨b19, e20, h⟩ := h
        refine ⟨b19, e20, ?_⟩
        obtain ⟨c21, h⟩ := h
        refine ⟨c21, ?_⟩
        have o22 := c21
        obtain ⟨b23, e24, h⟩ := h
        refine ⟨b23, e24, ?_⟩
        obtain ⟨c25, h⟩ := h
        refine ⟨c25, ?_⟩
        obtain ⟨c26, h⟩ := h
        refine ⟨c26, ?_⟩
        intro x28 e27
        have h := h x28 e27
        refine cm_X11_good (ky_X11_good (b := b) hU (fun q hq => hL q ((by decide : ∀ q ∈ kyL_X11_good, q ∈ kyL_X11_walker) q hq)) (fun z => z.elim) h) h (fun x29 x30 p32 h g31 => ?_)
        have h := h g31
        have K := k9_tr K p32.2
        have o2 := gr_ob p32.2.1 o2
        have o22 := gr_ob p32.2.1 o22
        exact ⟨h, K⟩
      · intro c33
        have h := h.2.1 c33
        obtain ⟨b34, e35, h⟩ := h
        refine ⟨b34, e35, ?_⟩
        obtain ⟨c36, h⟩ := h
        refine ⟨c36, ?_⟩
        have o37 := c36
        obtain ⟨b38, e39, h⟩ := h
        refine ⟨b38, e39, ?_⟩
        obtain ⟨c40, h⟩ := h
        refine ⟨c40, ?_⟩
        obtain ⟨c41, h⟩ := h
        refine ⟨c41, ?_⟩
        intro x43 e42
        have h := h x43 e42
        refine cm_X11_good (ky_X11_good (b := b) hU (fun q hq => hL q ((by decide : ∀ q ∈ kyL_X11_good, q ∈ kyL_X11_walker) q hq)) (fun z => z.elim) h) h (fun x44 x45 p47 h g46 => ?_)
        have h := h g46
        have K := k9_tr K p47.2
        have o2 := gr_ob p47.2.1 o2
        have o37 := gr_ob p47.2.1 o37
        exact ⟨h, K⟩
      · intro c48
        have h := h.2.2.1 c48
        obtain ⟨b49, e50, h⟩ := h
        refine ⟨b49, e50, ?_⟩
        obtain ⟨c51, h⟩ := h
        refine ⟨c51, ?_⟩
        have o52 := c51
        obtain ⟨b53, e54, h⟩ := h
        refine ⟨b53, e54, ?_⟩
        obtain ⟨c55, h⟩ := h
        refine ⟨c55, ?_⟩
        obtain ⟨c56, h⟩ := h
        refine ⟨c56, ?_⟩
        intro x58 e57
        have h := h x58 e57
        refine cm_X11_good (ky_X11_good (b := b) hU (fun q hq => hL q ((by decide : ∀ q ∈ kyL_X11_good, q ∈ kyL_X11_walker) q hq)) (fun z => z.elim) h) h (fun x59 x60 p62 h g61 => ?_)
        have h := h g61
        have K := k9_tr K p62.2
        have o2 := gr_ob p62.2.1 o2
        have o52 := gr_ob p62.2.1 o52
        exact ⟨h, K⟩
      · intro c63
        have h := h.2.2.2.1 c63
        obtain ⟨b64, e65, h⟩ := h
        refine ⟨b64, e65, ?_⟩
        obtain ⟨c66, h⟩ := h
        refine ⟨c66, ?_⟩
        have o67 := c66
        obtain ⟨b68, e69, h⟩ := h
        refine ⟨b68, e69, ?_⟩
        obtain ⟨c70, h⟩ := h
        refine ⟨c70, ?_⟩
        obtain ⟨c71, h⟩ := h
        refine ⟨c71, ?_⟩
        intro x73 e72
        have h := h x73 e72
        refine cm_X11_good (ky_X11_good (b := b) hU (fun q hq => hL q ((by decide : ∀ q ∈ kyL_X11_good, q ∈ kyL_X11_walker) q hq)) (fun z => z.elim) h) h (fun x74 x75 p77 h g76 => ?_)
        have h := h g76
        have K := k9_tr K p77.2
        have o2 := gr_ob p77.2.1 o2
        have o67 := gr_ob p77.2.1 o67
        exact ⟨h, K⟩
      · intro c78
        have h := h.2.2.2.2.1 c78
        obtain ⟨b79, e80, h⟩ := h
        refine ⟨b79, e80, ?_⟩
        obtain ⟨c81, h⟩ := h
        refine ⟨c81, ?_⟩
        have o82 := c81
        obtain ⟨b83, e84, h⟩ := h
        refine ⟨b83, e84, ?_⟩
        obtain ⟨c85, h⟩ := h
        refine ⟨c85, ?_⟩
        obtain ⟨c86, h⟩ := h
        refine ⟨c86, ?_⟩
        intro x88 e87
        have h := h x88 e87
        refine cm_X11_good (ky_X11_good (b := b) hU (fun q hq => hL q ((by decide : ∀ q ∈ kyL_X11_good, q ∈ kyL_X11_walker) q hq)) (fun z => z.elim) h) h (fun x89 x90 p92 h g91 => ?_)
        have h := h g91
        have K := k9_tr K p92.2
        have o2 := gr_ob p92.2.1 o2
        have o82 := gr_ob p92.2.1 o82
        exact ⟨h, K⟩
      · intro c93
        have h := h.2.2.2.2.2.1 c93
        obtain ⟨b94, e95, h⟩ := h
        refine ⟨b94, e95, ?_⟩
        obtain ⟨c96, h⟩ := h
        refine ⟨c96, ?_⟩
        have o97 := c96
        obtain ⟨b98, e99, h⟩ := h
        refine ⟨b98, e99, ?_⟩
        obtain ⟨c100, h⟩ := h
        refine ⟨c100, ?_⟩
        obtain ⟨c101, h⟩ := h
        refine ⟨c101, ?_⟩
        intro x103 e102
        have h := h x103 e102
        refine cm_X11_good (ky_X11_good (b := b) hU (fun q hq => hL q ((by decide : ∀ q ∈ kyL_X11_good, q ∈ kyL_X11_walker) q hq)) (fun z => z.elim) h) h (fun x104 x105 p107 h g106 => ?_)
        have h := h g106
        have K := k9_tr K p107.2
        have o2 := gr_ob p107.2.1 o2
        have o97 := gr_ob p107.2.1 o97
        exact ⟨h, K⟩
      · intro c108
        have h := h.2.2.2.2.2.2 c108
        obtain ⟨b109, e110, h⟩ := h
        refine ⟨b109, e110, ?_⟩
        obtain ⟨c111, h⟩ := h
        refine ⟨c111, ?_⟩
        have o112 := c111
        obtain ⟨b113, e114, h⟩ := h
        refine ⟨b113, e114, ?_⟩
        obtain ⟨c115, h⟩ := h
        refine ⟨c115, ?_⟩
        obtain ⟨c116, h⟩ := h
        refine ⟨c116, ?_⟩
        intro x118 e117
        have h := h x118 e117
        refine cm_X11_good (ky_X11_good (b := b) hU (fun q hq => hL q ((by decide : ∀ q ∈ kyL_X11_good, q ∈ kyL_X11_walker) q hq)) (fun z => z.elim) h) h (fun x119 x120 p122 h g121 => ?_)
        have h := h g121
        have K := k9_tr K p122.2
        have o2 := gr_ob p122.2.1 o2
        have o112 := gr_ob p122.2.1 o112
        exact ⟨h, K⟩
    · intro c123
      have h := h.2 c123
      exact ky_X11_walker_23 hU hL hb h K
theorem ky_X11_walker {b : Bool} {L : List (Nat × Nat)} (hU : ∀ q ∈ L, q ∈ nyT) (hL : ∀ q ∈ kyL_X11_walker, q ∈ L) (hb : False → b = false) {Q : Int32 → HS → Prop} {v0 : Nat} {v1 : Int32} {v2 : Int32} {S : HS} (h : P_X11_walker v0 v1 v2 Q S) : P_X11_walker v0 v1 v2 (fun r T => Q r T ∧ K9 b L S T) S := ky_X11_walker_0 hU hL hb h (k9_rf b L S)
abbrev kyL_X11_wet : List (Nat × Nat) := []
set_option maxRecDepth 20000 in
set_option maxHeartbeats 1000000 in
theorem ky_X11_wet_0 {b : Bool} {L : List (Nat × Nat)} (hU : ∀ q ∈ L, q ∈ nyT) (hL : ∀ q ∈ kyL_X11_wet, q ∈ L) (hb : False → b = false) {Q : Int64 → HS → Prop} {v0 : Nat} {v1 : Int32} {v2 : Int32} {v3 : Int32} {v4 : Int32} {v5 : Int32} {v6 : Int32} {S0 S : HS} (h : P_X11_wet_0 Q v0 v1 v2 v3 v4 v5 v6 S) (K : K9 b L S0 S) : P_X11_wet_0 (fun r T => Q r T ∧ K9 b L S0 T) v0 v1 v2 v3 v4 v5 v6 S := by
  delta P_X11_wet_0 at h ⊢
  obtain ⟨c1, h⟩ := h
  refine ⟨c1, ?_⟩
  intro x3 e2
  have h := h x3 e2
  have K := k9_I K e2
  refine cm_X11_refuses (ky_X11_refuses (b := b) hU (fun q hq => hL q ((by decide : ∀ q ∈ kyL_X11_refuses, q ∈ kyL_X11_wet) q hq)) (fun z => z.elim) h) h (fun x4 x5 p7 h g6 => ?_)
  have h := h g6
  have K := k9_tr K p7.2
  refine ⟨?_, ?_⟩
  · intro c8
    have h := h.1 c8
    refine cm_X11_wetOf (ky_X11_wetOf (b := b) hU (fun q hq => hL q ((by decide : ∀ q ∈ kyL_X11_wetOf, q ∈ kyL_X11_wet) q hq)) (fun z => z.elim) h) h (fun x9 x10 p12 h g11 => ?_)
    have h := h g11
    have K := k9_tr K p12.2
    refine cm_X11_told (ky_X11_told (b := b) hU (fun q hq => hL q ((by decide : ∀ q ∈ kyL_X11_told, q ∈ kyL_X11_wet) q hq)) (fun z => z.elim) h) h (fun x13 x14 p16 h g15 => ?_)
    have h := h g15
    have K := k9_tr K p16.2
    exact ⟨h, K⟩
  · intro c17
    have h := h.2 c17
    refine cm_X11_refused (ky_X11_refused (b := b) hU (fun q hq => hL q ((by decide : ∀ q ∈ kyL_X11_refused, q ∈ kyL_X11_wet) q hq)) (fun z => z.elim) h) h (fun x18 x19 p21 h g20 => ?_)
    have h := h g20
    have K := k9_tr K p21.2
    exact ⟨h, K⟩
theorem ky_X11_wet {b : Bool} {L : List (Nat × Nat)} (hU : ∀ q ∈ L, q ∈ nyT) (hL : ∀ q ∈ kyL_X11_wet, q ∈ L) (hb : False → b = false) {Q : Int64 → HS → Prop} {v0 : Nat} {v1 : Int32} {v2 : Int32} {v3 : Int32} {v4 : Int32} {v5 : Int32} {v6 : Int32} {S : HS} (h : P_X11_wet v0 v1 v2 v3 v4 v5 v6 Q S) : P_X11_wet v0 v1 v2 v3 v4 v5 v6 (fun r T => Q r T ∧ K9 b L S T) S := ky_X11_wet_0 hU hL hb h (k9_rf b L S)
abbrev kyL_X11_wetness : List (Nat × Nat) := []
set_option maxRecDepth 20000 in
set_option maxHeartbeats 1000000 in
theorem ky_X11_wetness_41 {b : Bool} {L : List (Nat × Nat)} (hU : ∀ q ∈ L, q ∈ nyT) (hL : ∀ q ∈ kyL_X11_wetness, q ∈ L) (hb : False → b = false) {Q : Int64 → HS → Prop} {v1 : Int32} {s0 : Nat} {s1 : Int64} {S0 S : HS} (h : P_X11_wetness_41 Q v1 s0 s1 S) (K : K9 b L S0 S) : P_X11_wetness_41 (fun r T => Q r T ∧ K9 b L S0 T) v1 s0 s1 S := by
  delta P_X11_wetness_41 at h ⊢
  obtain ⟨c1, h⟩ := h
  refine ⟨c1, ?_⟩
  refine cm_X11_told (ky_X11_told (b := b) hU (fun q hq => hL q ((by decide : ∀ q ∈ kyL_X11_told, q ∈ kyL_X11_wetness) q hq)) (fun z => z.elim) h) h (fun x2 x3 p5 h g4 => ?_)
  have h := h g4
  have K := k9_tr K p5.2
  exact ⟨h, K⟩
set_option maxRecDepth 20000 in
set_option maxHeartbeats 1000000 in
theorem ky_X11_wetness_0 {b : Bool} {L : List (Nat × Nat)} (hU : ∀ q ∈ L, q ∈ nyT) (hL : ∀ q ∈ kyL_X11_wetness, q ∈ L) (hb : False → b = false) {Q : Int64 → HS → Prop} {v0 : Nat} {v1 : Int32} {S0 S : HS} (h : P_X11_wetness_0 Q v0 v1 S) (K : K9 b L S0 S) : P_X11_wetness_0 (fun r T => Q r T ∧ K9 b L S0 T) v0 v1 S := by
  delta P_X11_wetness_0 at h ⊢
  obtain ⟨c1, h⟩ := h
  refine ⟨c1, ?_⟩
  intro x3 e2
  have h := h x3 e2
  have K := k9_I K e2
  refine cm_X11_isDay (ky_X11_isDay (b := b) hU (fun q hq => hL q ((by decide : ∀ q ∈ kyL_X11_isDay, q ∈ kyL_X11_wetness) q hq)) (fun z => z.elim) h) h (fun x4 x5 p8 h g6 g7 => ?_)
  have h := h g6 g7
  have K := k9_tr K p8.2
  refine ⟨?_, ?_⟩
  · intro c9
    have h := h.1 c9
    refine cm_X11_gotInAll (ky_X11_gotInAll (b := b) hU (fun q hq => hL q ((by decide : ∀ q ∈ kyL_X11_gotInAll, q ∈ kyL_X11_wetness) q hq)) (fun z => z.elim) h) h (fun x10 x11 p13 h g12 => ?_)
    have h := h g12
    have K := k9_tr K p13.2
    refine cm_X11_holds (ky_X11_holds (b := b) hU (fun q hq => hL q ((by decide : ∀ q ∈ kyL_X11_holds, q ∈ kyL_X11_wetness) q hq)) (fun z => z.elim) h) h (fun x14 x15 p17 h g16 => ?_)
    have h := h g16
    have K := k9_tr K p17.2
    intro x19 e18
    have h := h x19 e18
    refine ⟨?_, ?_⟩
    · intro c20
      have h := h.1 c20
      exact ky_X11_wetness_41 hU hL hb h K
    · intro c21
      have h := h.2 c21
      exact ky_X11_wetness_41 hU hL hb h K
  · intro c22
    have h := h.2 c22
    refine cm_X11_refused (ky_X11_refused (b := b) hU (fun q hq => hL q ((by decide : ∀ q ∈ kyL_X11_refused, q ∈ kyL_X11_wetness) q hq)) (fun z => z.elim) h) h (fun x23 x24 p26 h g25 => ?_)
    have h := h g25
    have K := k9_tr K p26.2
    exact ⟨h, K⟩
theorem ky_X11_wetness {b : Bool} {L : List (Nat × Nat)} (hU : ∀ q ∈ L, q ∈ nyT) (hL : ∀ q ∈ kyL_X11_wetness, q ∈ L) (hb : False → b = false) {Q : Int64 → HS → Prop} {v0 : Nat} {v1 : Int32} {S : HS} (h : P_X11_wetness v0 v1 Q S) : P_X11_wetness v0 v1 (fun r T => Q r T ∧ K9 b L S T) S := ky_X11_wetness_0 hU hL hb h (k9_rf b L S)
abbrev kyL_X11_where : List (Nat × Nat) := []
set_option maxRecDepth 20000 in
set_option maxHeartbeats 1000000 in
theorem ky_X11_where_0 {b : Bool} {L : List (Nat × Nat)} (hU : ∀ q ∈ L, q ∈ nyT) (hL : ∀ q ∈ kyL_X11_where, q ∈ L) (hb : False → b = false) {Q : Int32 → HS → Prop} {v0 : Nat} {S0 S : HS} (h : P_X11_where_0 Q v0 S) (K : K9 b L S0 S) : P_X11_where_0 (fun r T => Q r T ∧ K9 b L S0 T) v0 S := by
  delta P_X11_where_0 at h ⊢
  obtain ⟨c1, h⟩ := h
  refine ⟨c1, ?_⟩
  intro x3 e2
  have h := h x3 e2
  have K := k9_I K e2
  intro x5 e4
  have h := h x5 e4
  exact ⟨h, K⟩
theorem ky_X11_where {b : Bool} {L : List (Nat × Nat)} (hU : ∀ q ∈ L, q ∈ nyT) (hL : ∀ q ∈ kyL_X11_where, q ∈ L) (hb : False → b = false) {Q : Int32 → HS → Prop} {v0 : Nat} {S : HS} (h : P_X11_where v0 Q S) : P_X11_where v0 (fun r T => Q r T ∧ K9 b L S T) S := ky_X11_where_0 hU hL hb h (k9_rf b L S)
abbrev kyL_X11_world : List (Nat × Nat) := [(10, 28)]
set_option maxRecDepth 20000 in
set_option maxHeartbeats 1000000 in
theorem ky_X11_world_17 {b : Bool} {L : List (Nat × Nat)} (hU : ∀ q ∈ L, q ∈ nyT) (hL : ∀ q ∈ kyL_X11_world, q ∈ L) (hb : False → b = false) {Q : Int32 → HS → Prop} {v0 : Nat} {S0 S : HS} (h : P_X11_world_17 Q v0 S) (K : K9 b L S0 S) : P_X11_world_17 (fun r T => Q r T ∧ K9 b L S0 T) v0 S := by
  delta P_X11_world_17 at h ⊢
  obtain ⟨c1, h⟩ := h
  refine ⟨c1, ?_⟩
  refine cm_X11_refused (ky_X11_refused (b := b) hU (fun q hq => hL q ((by decide : ∀ q ∈ kyL_X11_refused, q ∈ kyL_X11_world) q hq)) (fun z => z.elim) h) h (fun x2 x3 p5 h g4 => ?_)
  have h := h g4
  have K := k9_tr K p5.2
  exact ⟨h, K⟩
set_option maxRecDepth 20000 in
set_option maxHeartbeats 1000000 in
theorem ky_X11_world_0 {b : Bool} {L : List (Nat × Nat)} (hU : ∀ q ∈ L, q ∈ nyT) (hL : ∀ q ∈ kyL_X11_world, q ∈ L) (hb : False → b = false) {Q : Int32 → HS → Prop} {v0 : Nat} {v1 : Int32} {S0 S : HS} (h : P_X11_world_0 Q v0 v1 S) (K : K9 b L S0 S) : P_X11_world_0 (fun r T => Q r T ∧ K9 b L S0 T) v0 v1 S := by
  delta P_X11_world_0 at h ⊢
  obtain ⟨c1, h⟩ := h
  refine ⟨c1, ?_⟩
  have o2 := c1
  intro x4 e3
  have h := h x4 e3
  have K := k9_I K e3
  have o2 := ob_wI o2 e3
  refine ⟨?_, ?_⟩
  · intro c5
    have h := h.1 c5
    exact ky_X11_world_17 hU hL hb h K
  · intro c6
    have h := h.2 c6
    intro x8 e7
    have h := h x8 e7
    refine ⟨?_, ?_⟩
    · intro c9
      have h := h.1 c9
      intro x11 e10
      have h := h x11 e10
      have K := k9_I K e10
      have o2 := ob_wI o2 e10
      intro x13 e12
      have h := h x13 e12
      have K := k9_I K e12
      have o2 := ob_wI o2 e12
      intro x15 e14
      have h := h x15 e14
      have K := k9_I K e14
      have o2 := ob_wI o2 e14
      intro x17 e16
      have h := h x17 e16
      have K := k9_I K e16
      have o2 := ob_wI o2 e16
      intro x19 e18
      have h := h x19 e18
      intro x21 e20
      have h := h x21 e20
      have n22 := k9_nf K e18
      have K := k9_W K e18 e20
      have o2 := gr_ob (gr_of_new e20 e18) o2
      have o23 := ob_of_new e20
      refine cm_X10_init (ky_X10_init (b := b) hU (fun q hq => hL q ((by decide : ∀ q ∈ kyL_X10_init, q ∈ kyL_X11_world) q hq)) (fun z => z.elim) h) h (fun x24 p26 h g25 => ?_)
      have h := h g25
      have K := k9_tr K p26.2
      have o2 := gr_ob p26.2.1 o2
      have o23 := gr_ob p26.2.1 o23
      intro x28 e27
      have h := h x28 e27
      have K := k9_R K hU e27 o2 (by decide) (by decide)
      have o2 := ob_wR o2 e27
      have o23 := ob_wR o23 e27
      intro x30 e29
      have h := h x30 e29
      have K := k9_I K e29
      have o2 := ob_wI o2 e29
      have o23 := ob_wI o23 e29
      refine cm_X11_goesOn (ky_X11_goesOn (b := b) hU (fun q hq => hL q ((by decide : ∀ q ∈ kyL_X11_goesOn, q ∈ kyL_X11_world) q hq)) (fun z => z.elim) h) h (fun x31 p33 h g32 => ?_)
      have h := h g32
      have K := k9_tr K p33.2
      have o2 := gr_ob p33.2.1 o2
      have o23 := gr_ob p33.2.1 o23
      refine cm_X11_readAll (ky_X11_readAll (b := b) hU (fun q hq => hL q ((by decide : ∀ q ∈ kyL_X11_readAll, q ∈ kyL_X11_world) q hq)) (fun z => z.elim) h) h (fun x34 p36 h g35 => ?_)
      have h := h g35
      have K := k9_tr K p36.2
      have o2 := gr_ob p36.2.1 o2
      have o23 := gr_ob p36.2.1 o23
      intro x38 e37
      have h := h x38 e37
      refine ⟨?_, ?_⟩
      · intro c39
        have h := h.1 c39
        obtain ⟨b40, e41, h⟩ := h
        refine ⟨b40, e41, ?_⟩
        intro x43 e42
        have h := h x43 e42
        have K := k9_R K hU e42 o2 (by decide) (by decide)
        have o2 := ob_wR o2 e42
        have o23 := ob_wR o23 e42
        intro x45 e44
        have h := h x45 e44
        have K := k9_I K e44
        have o2 := ob_wI o2 e44
        have o23 := ob_wI o23 e44
        intro x47 e46
        have h := h x47 e46
        have K := k9_I K e46
        have o2 := ob_wI o2 e46
        have o23 := ob_wI o23 e46
        intro x49 e48
        have h := h x49 e48
        have K := k9_I K e48
        have o2 := ob_wI o2 e48
        have o23 := ob_wI o23 e48
        obtain ⟨b50, e51, h⟩ := h
        refine ⟨b50, e51, ?_⟩
        obtain ⟨c52, h⟩ := h
        refine ⟨c52, ?_⟩
        intro x54 e53
        have h := h x54 e53
        refine cm_X11_good (ky_X11_good (b := b) hU (fun q hq => hL q ((by decide : ∀ q ∈ kyL_X11_good, q ∈ kyL_X11_world) q hq)) (fun z => z.elim) h) h (fun x55 x56 p58 h g57 => ?_)
        have h := h g57
        have K := k9_tr K p58.2
        have o2 := gr_ob p58.2.1 o2
        have o23 := gr_ob p58.2.1 o23
        exact ⟨h, K⟩
      · intro c59
        have h := h.2 c59
        intro x61 e60
        have h := h x61 e60
        have K := k9_I K e60
        have o2 := ob_wI o2 e60
        have o23 := ob_wI o23 e60
        intro x63 e62
        have h := h x63 e62
        intro x65 e64
        have h := h x65 e64
        have K := k9_I K e64
        have o2 := ob_wI o2 e64
        have o23 := ob_wI o23 e64
        exact ⟨h, K⟩
    · intro c66
      have h := h.2 c66
      exact ky_X11_world_17 hU hL hb h K
theorem ky_X11_world {b : Bool} {L : List (Nat × Nat)} (hU : ∀ q ∈ L, q ∈ nyT) (hL : ∀ q ∈ kyL_X11_world, q ∈ L) (hb : False → b = false) {Q : Int32 → HS → Prop} {v0 : Nat} {v1 : Int32} {S : HS} (h : P_X11_world v0 v1 Q S) : P_X11_world v0 v1 (fun r T => Q r T ∧ K9 b L S T) S := ky_X11_world_0 hU hL hb h (k9_rf b L S)
abbrev kyL_X11_worst : List (Nat × Nat) := []
set_option maxRecDepth 20000 in
set_option maxHeartbeats 1000000 in
theorem ky_X11_worst_39 {b : Bool} {L : List (Nat × Nat)} (hU : ∀ q ∈ L, q ∈ nyT) (hL : ∀ q ∈ kyL_X11_worst, q ∈ L) (hb : False → b = false) {Q : Int32 → HS → Prop} {v0 : Nat} {S0 S : HS} (h : P_X11_worst_39 Q v0 S) (K : K9 b L S0 S) : P_X11_worst_39 (fun r T => Q r T ∧ K9 b L S0 T) v0 S := by
  delta P_X11_worst_39 at h ⊢
  obtain ⟨c1, h⟩ := h
  refine ⟨c1, ?_⟩
  refine cm_X11_refused (ky_X11_refused (b := b) hU (fun q hq => hL q ((by decide : ∀ q ∈ kyL_X11_refused, q ∈ kyL_X11_worst) q hq)) (fun z => z.elim) h) h (fun x2 x3 p5 h g4 => ?_)
  have h := h g4
  have K := k9_tr K p5.2
  exact ⟨h, K⟩
set_option maxRecDepth 20000 in
set_option maxHeartbeats 1000000 in
theorem ky_X11_worst_106 {b : Bool} {L : List (Nat × Nat)} (hU : ∀ q ∈ L, q ∈ nyT) (hL : ∀ q ∈ kyL_X11_worst, q ∈ L) (hb : False → b = false) {Q : Int32 → HS → Prop} {X62 X62_2 : Nat → Int32 → Int32 → Int32 → Int32 → Int32 → Int32 → HS → Prop} {v0 : Nat} {v1 : Int32} {v2 : Int32} {v3 : Int32} {v4 : Int32} {v5 : Int32} {v6 : Int32} {S0 S : HS} (h : P_X11_worst_106 Q X62 v0 v1 v2 v3 v4 v5 v6 S) (K : K9 b L S0 S) (hX62 : ∀ (u0 : Nat) (u1 : Int32) (u2 : Int32) (u3 : Int32) (u4 : Int32) (u5 : Int32) (u6 : Int32) (u7 : HS), X62 u0 u1 u2 u3 u4 u5 u6 u7 → K9 b L S0 u7 → X62_2 u0 u1 u2 u3 u4 u5 u6 u7) : P_X11_worst_106 (fun r T => Q r T ∧ K9 b L S0 T) X62_2 v0 v1 v2 v3 v4 v5 v6 S := by
  delta P_X11_worst_106 at h ⊢
  intro x2 e1
  have h := h x2 e1
  exact hX62 _ _ _ _ _ _ _ _ h K
set_option maxRecDepth 20000 in
set_option maxHeartbeats 1000000 in
theorem kyB_X11_worst_62 {b : Bool} {L : List (Nat × Nat)} (hU : ∀ q ∈ L, q ∈ nyT) (hL : ∀ q ∈ kyL_X11_worst, q ∈ L) (hb : False → b = false) {Q : Int32 → HS → Prop} {X62 X62_2 : Nat → Int32 → Int32 → Int32 → Int32 → Int32 → Int32 → HS → Prop} {v0 : Nat} {v1 : Int32} {v2 : Int32} {v3 : Int32} {v4 : Int32} {v5 : Int32} {v6 : Int32} {S0 S : HS} (h : B_X11_worst_62 Q X62 v0 v1 v2 v3 v4 v5 v6 S) (K : K9 b L S0 S) (hX62 : ∀ (u0 : Nat) (u1 : Int32) (u2 : Int32) (u3 : Int32) (u4 : Int32) (u5 : Int32) (u6 : Int32) (u7 : HS), X62 u0 u1 u2 u3 u4 u5 u6 u7 → K9 b L S0 u7 → X62_2 u0 u1 u2 u3 u4 u5 u6 u7) : B_X11_worst_62 (fun r T => Q r T ∧ K9 b L S0 T) X62_2 v0 v1 v2 v3 v4 v5 v6 S := by
  delta B_X11_worst_62 at h ⊢
  obtain ⟨c1, h⟩ := h
  refine ⟨c1, ?_⟩
  have o2 := c1
  obtain ⟨b3, e4, h⟩ := h
  refine ⟨b3, e4, ?_⟩
  obtain ⟨c5, h⟩ := h
  refine ⟨c5, ?_⟩
  have o6 := c5
  obtain ⟨b7, e8, h⟩ := h
  refine ⟨b7, e8, ?_⟩
  obtain ⟨c9, h⟩ := h
  refine ⟨c9, ?_⟩
  obtain ⟨c10, h⟩ := h
  refine ⟨c10, ?_⟩
  intro x12 e11
  have h := h x12 e11
  refine ⟨?_, ?_⟩
  · intro c13
    have h := h.1 c13
    refine cm_X11_good (ky_X11_good (b := b) hU (fun q hq => hL q ((by decide : ∀ q ∈ kyL_X11_good, q ∈ kyL_X11_worst) q hq)) (fun z => z.elim) h) h (fun x14 x15 p17 h g16 => ?_)
    have h := h g16
    have K := k9_tr K p17.2
    have o2 := gr_ob p17.2.1 o2
    have o6 := gr_ob p17.2.1 o6
    exact ⟨h, K⟩
  · intro c18
    have h := h.2 c18
    refine cm_X11_wetOf (ky_X11_wetOf (b := b) hU (fun q hq => hL q ((by decide : ∀ q ∈ kyL_X11_wetOf, q ∈ kyL_X11_worst) q hq)) (fun z => z.elim) h) h (fun x19 x20 p22 h g21 => ?_)
    have h := h g21
    have K := k9_tr K p22.2
    have o2 := gr_ob p22.2.1 o2
    have o6 := gr_ob p22.2.1 o6
    refine cm_X11_wetOf (ky_X11_wetOf (b := b) hU (fun q hq => hL q ((by decide : ∀ q ∈ kyL_X11_wetOf, q ∈ kyL_X11_worst) q hq)) (fun z => z.elim) h) h (fun x23 x24 p26 h g25 => ?_)
    have h := h g25
    have K := k9_tr K p26.2
    have o2 := gr_ob p26.2.1 o2
    have o6 := gr_ob p26.2.1 o6
    refine ⟨?_, ?_⟩
    · intro c27
      have h := h.1 c27
      exact ky_X11_worst_106 hU hL hb h K hX62
    · intro c28
      have h := h.2 c28
      exact ky_X11_worst_106 hU hL hb h K hX62
theorem ky_X11_worst_62 {b : Bool} {L : List (Nat × Nat)} (hU : ∀ q ∈ L, q ∈ nyT) (hL : ∀ q ∈ kyL_X11_worst, q ∈ L) (hb : False → b = false) {Q : Int32 → HS → Prop} {v0 : Nat} {v1 : Int32} {v2 : Int32} {v3 : Int32} {v4 : Int32} {v5 : Int32} {v6 : Int32} {S0 S : HS} (h : P_X11_worst_62 Q v0 v1 v2 v3 v4 v5 v6 S) (K : K9 b L S0 S) : P_X11_worst_62 (fun r T => Q r T ∧ K9 b L S0 T) v0 v1 v2 v3 v4 v5 v6 S := h (fun v0 v1 v2 v3 v4 v5 v6 S => K9 b L S0 S → P_X11_worst_62 (fun r T => Q r T ∧ K9 b L S0 T) v0 v1 v2 v3 v4 v5 v6 S) (fun v0 v1 v2 v3 v4 v5 v6 S hB K => fd_X11_worst_62 (kyB_X11_worst_62 hU hL hb hB K (fun _ _ _ _ _ _ _ _ hx K => hx K))) K
set_option maxRecDepth 20000 in
set_option maxHeartbeats 1000000 in
theorem ky_X11_worst_0 {b : Bool} {L : List (Nat × Nat)} (hU : ∀ q ∈ L, q ∈ nyT) (hL : ∀ q ∈ kyL_X11_worst, q ∈ L) (hb : False → b = false) {Q : Int32 → HS → Prop} {v0 : Nat} {v1 : Int32} {v2 : Int32} {v3 : Int32} {v4 : Int32} {S0 S : HS} (h : P_X11_worst_0 Q v0 v1 v2 v3 v4 S) (K : K9 b L S0 S) : P_X11_worst_0 (fun r T => Q r T ∧ K9 b L S0 T) v0 v1 v2 v3 v4 S := by
  delta P_X11_worst_0 at h ⊢
  obtain ⟨c1, h⟩ := h
  refine ⟨c1, ?_⟩
  have o2 := c1
  intro x4 e3
  have h := h x4 e3
  have K := k9_I K e3
  have o2 := ob_wI o2 e3
  refine cm_X11_isWalker (ky_X11_isWalker (b := b) hU (fun q hq => hL q ((by decide : ∀ q ∈ kyL_X11_isWalker, q ∈ kyL_X11_worst) q hq)) (fun z => z.elim) h) h (fun x5 x6 p9 h g7 g8 => ?_)
  have h := h g7 g8
  have K := k9_tr K p9.2
  have o2 := gr_ob p9.2.1 o2
  refine ⟨?_, ?_⟩
  · intro c10
    have h := h.1 c10
    exact ky_X11_worst_39 hU hL hb h K
  · intro c11
    have h := h.2 c11
    refine cm_X11_isRoad (ky_X11_isRoad (b := b) hU (fun q hq => hL q ((by decide : ∀ q ∈ kyL_X11_isRoad, q ∈ kyL_X11_worst) q hq)) (fun z => z.elim) h) h (fun x12 x13 p16 h g14 g15 => ?_)
    have h := h g14 g15
    have K := k9_tr K p16.2
    have o2 := gr_ob p16.2.1 o2
    refine ⟨?_, ?_⟩
    · intro c17
      have h := h.1 c17
      exact ky_X11_worst_39 hU hL hb h K
    · intro c18
      have h := h.2 c18
      refine cm_X11_in (ky_X11_in (b := b) hU (fun q hq => hL q ((by decide : ∀ q ∈ kyL_X11_in, q ∈ kyL_X11_worst) q hq)) (fun z => z.elim) h) h (fun x19 x20 p23 h g21 g22 => ?_)
      have h := h g21 g22
      have K := k9_tr K p23.2
      have o2 := gr_ob p23.2.1 o2
      refine ⟨?_, ?_⟩
      · intro c24
        have h := h.1 c24
        exact ky_X11_worst_39 hU hL hb h K
      · intro c25
        have h := h.2 c25
        refine cm_X11_isHour (ky_X11_isHour (b := b) hU (fun q hq => hL q ((by decide : ∀ q ∈ kyL_X11_isHour, q ∈ kyL_X11_worst) q hq)) (fun z => z.elim) h) h (fun x26 x27 p30 h g28 g29 => ?_)
        have h := h g28 g29
        have K := k9_tr K p30.2
        have o2 := gr_ob p30.2.1 o2
        refine ⟨?_, ?_⟩
        · intro c31
          have h := h.1 c31
          obtain ⟨b32, e33, h⟩ := h
          refine ⟨b32, e33, ?_⟩
          obtain ⟨c34, h⟩ := h
          refine ⟨c34, ?_⟩
          have o35 := c34
          obtain ⟨b36, e37, h⟩ := h
          refine ⟨b36, e37, ?_⟩
          obtain ⟨c38, h⟩ := h
          refine ⟨c38, ?_⟩
          obtain ⟨c39, h⟩ := h
          refine ⟨c39, ?_⟩
          intro x41 e40
          have h := h x41 e40
          intro x43 e42
          have h := h x43 e42
          exact ky_X11_worst_62 hU hL hb h K
        · intro c44
          have h := h.2 c44
          exact ky_X11_worst_39 hU hL hb h K
theorem ky_X11_worst {b : Bool} {L : List (Nat × Nat)} (hU : ∀ q ∈ L, q ∈ nyT) (hL : ∀ q ∈ kyL_X11_worst, q ∈ L) (hb : False → b = false) {Q : Int32 → HS → Prop} {v0 : Nat} {v1 : Int32} {v2 : Int32} {v3 : Int32} {v4 : Int32} {S : HS} (h : P_X11_worst v0 v1 v2 v3 v4 Q S) : P_X11_worst v0 v1 v2 v3 v4 (fun r T => Q r T ∧ K9 b L S T) S := ky_X11_worst_0 hU hL hb h (k9_rf b L S)
abbrev kyL_X5_turnOf : List (Nat × Nat) := []
set_option maxRecDepth 20000 in
set_option maxHeartbeats 1000000 in
theorem ky_X5_turnOf_17 {b : Bool} {L : List (Nat × Nat)} (hU : ∀ q ∈ L, q ∈ nyT) (hL : ∀ q ∈ kyL_X5_turnOf, q ∈ L) (hb : False → b = false) {Q : Int32 → HS → Prop} {v2 : Nat} {s0 : Int32} {S0 S : HS} (h : P_X5_turnOf_17 Q v2 s0 S) (K : K9 b L S0 S) : P_X5_turnOf_17 (fun r T => Q r T ∧ K9 b L S0 T) v2 s0 S := by
  delta P_X5_turnOf_17 at h ⊢
  obtain ⟨c1, h⟩ := h
  refine ⟨c1, ?_⟩
  intro x3 e2
  have h := h x3 e2
  exact ⟨h, K⟩
set_option maxRecDepth 20000 in
set_option maxHeartbeats 1000000 in
theorem ky_X5_turnOf_0 {b : Bool} {L : List (Nat × Nat)} (hU : ∀ q ∈ L, q ∈ nyT) (hL : ∀ q ∈ kyL_X5_turnOf, q ∈ L) (hb : False → b = false) {Q : Int32 → HS → Prop} {v0 : Nat} {v1 : Int32} {v2 : Nat} {S0 S : HS} (h : P_X5_turnOf_0 Q v0 v1 v2 S) (K : K9 b L S0 S) : P_X5_turnOf_0 (fun r T => Q r T ∧ K9 b L S0 T) v0 v1 v2 S := by
  delta P_X5_turnOf_0 at h ⊢
  refine ⟨?_, ?_⟩
  · intro c1
    have h := h.1 c1
    obtain ⟨c2, h⟩ := h
    refine ⟨c2, ?_⟩
    intro x4 e3
    have h := h x4 e3
    exact ky_X5_turnOf_17 hU hL hb h K
  · intro c5
    have h := h.2 c5
    obtain ⟨c6, h⟩ := h
    refine ⟨c6, ?_⟩
    intro x8 e7
    have h := h x8 e7
    exact ky_X5_turnOf_17 hU hL hb h K
theorem ky_X5_turnOf {b : Bool} {L : List (Nat × Nat)} (hU : ∀ q ∈ L, q ∈ nyT) (hL : ∀ q ∈ kyL_X5_turnOf, q ∈ L) (hb : False → b = false) {Q : Int32 → HS → Prop} {v0 : Nat} {v1 : Int32} {v2 : Nat} {S : HS} (h : P_X5_turnOf v0 v1 v2 Q S) : P_X5_turnOf v0 v1 v2 (fun r T => Q r T ∧ K9 b L S T) S := ky_X5_turnOf_0 hU hL hb h (k9_rf b L S)
abbrev kyL_X5_airAlong : List (Nat × Nat) := []
set_option maxRecDepth 20000 in
set_option maxHeartbeats 1000000 in
theorem ky_X5_airAlong_0 {b : Bool} {L : List (Nat × Nat)} (hU : ∀ q ∈ L, q ∈ nyT) (hL : ∀ q ∈ kyL_X5_airAlong, q ∈ L) (hb : False → b = false) {Q : Int32 → HS → Prop} {v0 : Nat} {v1 : Int32} {v2 : Nat} {S0 S : HS} (h : P_X5_airAlong_0 Q v0 v1 v2 S) (K : K9 b L S0 S) : P_X5_airAlong_0 (fun r T => Q r T ∧ K9 b L S0 T) v0 v1 v2 S := by
  delta P_X5_airAlong_0 at h ⊢
  obtain ⟨c1, h⟩ := h
  refine ⟨c1, ?_⟩
  refine cm_X5_turnOf (ky_X5_turnOf (b := b) hU (fun q hq => hL q ((by decide : ∀ q ∈ kyL_X5_turnOf, q ∈ kyL_X5_airAlong) q hq)) (fun z => z.elim) h) h (fun x2 x3 p5 h g4 => ?_)
  have h := h g4
  have K := k9_tr K p5.2
  refine ⟨?_, ?_⟩
  · intro c6
    have h := h.1 c6
    refine ⟨?_, ?_⟩
    · intro c7
      have h := h.1 c7
      exact ⟨h, K⟩
    · intro c8
      have h := h.2 c8
      obtain ⟨c9, h⟩ := h
      refine ⟨c9, ?_⟩
      intro x11 e10
      have h := h x11 e10
      exact ⟨h, K⟩
  · intro c12
    have h := h.2 c12
    obtain ⟨c13, h⟩ := h
    refine ⟨c13, ?_⟩
    intro x15 e14
    have h := h x15 e14
    exact ⟨h, K⟩
theorem ky_X5_airAlong {b : Bool} {L : List (Nat × Nat)} (hU : ∀ q ∈ L, q ∈ nyT) (hL : ∀ q ∈ kyL_X5_airAlong, q ∈ L) (hb : False → b = false) {Q : Int32 → HS → Prop} {v0 : Nat} {v1 : Int32} {v2 : Nat} {S : HS} (h : P_X5_airAlong v0 v1 v2 Q S) : P_X5_airAlong v0 v1 v2 (fun r T => Q r T ∧ K9 b L S T) S := ky_X5_airAlong_0 hU hL hb h (k9_rf b L S)
abbrev kyL_X1_lay : List (Nat × Nat) := [(1, 1)]
set_option maxRecDepth 20000 in
set_option maxHeartbeats 1000000 in
theorem ky_X1_lay_130 {b : Bool} {L : List (Nat × Nat)} (hU : ∀ q ∈ L, q ∈ nyT) (hL : ∀ q ∈ kyL_X1_lay, q ∈ L) (hb : False → b = false) {Q : HS → Prop} {v0 : Nat} {v3 : Nat} {v7 : Int64} {v9 : Int32} {s0 : Nat} {s1 : Int32} {s2 : Int64} {S0 S : HS} (h : P_X1_lay_130 Q v0 v3 v7 v9 s0 s1 s2 S) (K : K9 b L S0 S) (o_s0 : KN9 L S0 s0) : P_X1_lay_130 (fun T => Q T ∧ K9 b L S0 T) v0 v3 v7 v9 s0 s1 s2 S := by
  delta P_X1_lay_130 at h ⊢
  obtain ⟨c1, h⟩ := h
  refine ⟨c1, ?_⟩
  obtain ⟨c2, h⟩ := h
  refine ⟨c2, ?_⟩
  intro x4 e3
  have h := h x4 e3
  have K := k9_J K e3 o_s0
  obtain ⟨c5, h⟩ := h
  refine ⟨c5, ?_⟩
  have o6 := c5
  obtain ⟨b7, e8, h⟩ := h
  refine ⟨b7, e8, ?_⟩
  have n9 := k9_nr K e8 o6 (hL _ (by decide))
  refine ⟨?_, ?_⟩
  · intro c10
    have h := h.1 c10
    obtain ⟨c11, h⟩ := h
    refine ⟨c11, ?_⟩
    obtain ⟨c12, h⟩ := h
    refine ⟨c12, ?_⟩
    intro x14 e13
    have h := h x14 e13
    have K := k9_J K e13 n9
    have o6 := ob_wJ o6 e13
    exact ⟨h, K⟩
  · intro c15
    have h := h.2 c15
    obtain ⟨c16, h⟩ := h
    refine ⟨c16, ?_⟩
    intro x18 e17
    have h := h x18 e17
    obtain ⟨c19, h⟩ := h
    refine ⟨c19, ?_⟩
    intro x21 e20
    have h := h x21 e20
    obtain ⟨c22, h⟩ := h
    refine ⟨c22, ?_⟩
    intro x24 e23
    have h := h x24 e23
    have K := k9_J K e23 n9
    have o6 := ob_wJ o6 e23
    exact ⟨h, K⟩
set_option maxRecDepth 20000 in
set_option maxHeartbeats 1000000 in
theorem ky_X1_lay_27 {b : Bool} {L : List (Nat × Nat)} (hU : ∀ q ∈ L, q ∈ nyT) (hL : ∀ q ∈ kyL_X1_lay, q ∈ L) (hb : False → b = false) {Q : HS → Prop} {v0 : Nat} {v1 : Nat} {v2 : Int32} {v3 : Nat} {v4 : Int32} {s0 : Int64} {S0 S : HS} (h : P_X1_lay_27 Q v0 v1 v2 v3 v4 s0 S) (K : K9 b L S0 S) : P_X1_lay_27 (fun T => Q T ∧ K9 b L S0 T) v0 v1 v2 v3 v4 s0 S := by
  delta P_X1_lay_27 at h ⊢
  obtain ⟨c1, h⟩ := h
  refine ⟨c1, ?_⟩
  intro x3 e2
  have h := h x3 e2
  intro x5 e4
  have h := h x5 e4
  obtain ⟨c6, h⟩ := h
  refine ⟨c6, ?_⟩
  refine cm_X5_turnOf (ky_X5_turnOf (b := b) hU (fun q hq => hL q ((by decide : ∀ q ∈ kyL_X5_turnOf, q ∈ kyL_X1_lay) q hq)) (fun z => z.elim) h) h (fun x7 x8 p10 h g9 => ?_)
  have h := h g9
  have K := k9_tr K p10.2
  refine cm_X5_airAlong (ky_X5_airAlong (b := b) hU (fun q hq => hL q ((by decide : ∀ q ∈ kyL_X5_airAlong, q ∈ kyL_X1_lay) q hq)) (fun z => z.elim) h) h (fun x11 x12 p14 h g13 => ?_)
  have h := h g13
  have K := k9_tr K p14.2
  obtain ⟨c15, h⟩ := h
  refine ⟨c15, ?_⟩
  have o16 := c15
  obtain ⟨b17, e18, h⟩ := h
  refine ⟨b17, e18, ?_⟩
  have n19 := k9_nr K e18 o16 (hL _ (by decide))
  intro x21 e20
  have h := h x21 e20
  obtain ⟨c22, h⟩ := h
  refine ⟨c22, ?_⟩
  intro x24 e23
  have h := h x24 e23
  obtain ⟨c25, h⟩ := h
  refine ⟨c25, ?_⟩
  intro x27 e26
  have h := h x27 e26
  have K := k9_J K e26 n19
  have o16 := ob_wJ o16 e26
  obtain ⟨b28, e29, h⟩ := h
  refine ⟨b28, e29, ?_⟩
  have n30 := k9_nr K e29 o16 (hL _ (by decide))
  intro x32 e31
  have h := h x32 e31
  obtain ⟨c33, h⟩ := h
  refine ⟨c33, ?_⟩
  intro x35 e34
  have h := h x35 e34
  obtain ⟨c36, h⟩ := h
  refine ⟨c36, ?_⟩
  intro x38 e37
  have h := h x38 e37
  have K := k9_J K e37 n30
  have o16 := ob_wJ o16 e37
  obtain ⟨b39, e40, h⟩ := h
  refine ⟨b39, e40, ?_⟩
  have n41 := k9_nr K e40 o16 (hL _ (by decide))
  intro x43 e42
  have h := h x43 e42
  obtain ⟨c44, h⟩ := h
  refine ⟨c44, ?_⟩
  intro x46 e45
  have h := h x46 e45
  obtain ⟨c47, h⟩ := h
  refine ⟨c47, ?_⟩
  intro x49 e48
  have h := h x49 e48
  have K := k9_J K e48 n41
  have o16 := ob_wJ o16 e48
  obtain ⟨b50, e51, h⟩ := h
  refine ⟨b50, e51, ?_⟩
  have n52 := k9_nr K e51 o16 (hL _ (by decide))
  refine ⟨?_, ?_⟩
  · intro c53
    have h := h.1 c53
    exact ky_X1_lay_130 hU hL hb h K n52
  · intro c54
    have h := h.2 c54
    intro x56 e55
    have h := h x56 e55
    exact ky_X1_lay_130 hU hL hb h K n52
set_option maxRecDepth 20000 in
set_option maxHeartbeats 1000000 in
theorem ky_X1_lay_0 {b : Bool} {L : List (Nat × Nat)} (hU : ∀ q ∈ L, q ∈ nyT) (hL : ∀ q ∈ kyL_X1_lay, q ∈ L) (hb : False → b = false) {Q : HS → Prop} {v0 : Nat} {v1 : Nat} {v2 : Int32} {v3 : Nat} {v4 : Int32} {S0 S : HS} (h : P_X1_lay_0 Q v0 v1 v2 v3 v4 S) (K : K9 b L S0 S) : P_X1_lay_0 (fun T => Q T ∧ K9 b L S0 T) v0 v1 v2 v3 v4 S := by
  delta P_X1_lay_0 at h ⊢
  refine ⟨?_, ?_⟩
  · intro c1
    have h := h.1 c1
    exact ky_X1_lay_27 hU hL hb h K
  · intro c2
    have h := h.2 c2
    obtain ⟨c3, h⟩ := h
    refine ⟨c3, ?_⟩
    intro x5 e4
    have h := h x5 e4
    intro x7 e6
    have h := h x7 e6
    obtain ⟨c8, h⟩ := h
    refine ⟨c8, ?_⟩
    intro x10 e9
    have h := h x10 e9
    exact ky_X1_lay_27 hU hL hb h K
theorem ky_X1_lay {b : Bool} {L : List (Nat × Nat)} (hU : ∀ q ∈ L, q ∈ nyT) (hL : ∀ q ∈ kyL_X1_lay, q ∈ L) (hb : False → b = false) {Q : HS → Prop} {v0 : Nat} {v1 : Nat} {v2 : Int32} {v3 : Nat} {v4 : Int32} {S : HS} (h : P_X1_lay v0 v1 v2 v3 v4 Q S) : P_X1_lay v0 v1 v2 v3 v4 (fun T => Q T ∧ K9 b L S T) S := ky_X1_lay_0 hU hL hb h (k9_rf b L S)
abbrev kyL_X6_shield : List (Nat × Nat) := []
set_option maxRecDepth 20000 in
set_option maxHeartbeats 1000000 in
theorem ky_X6_shield_0 {b : Bool} {L : List (Nat × Nat)} (hU : ∀ q ∈ L, q ∈ nyT) (hL : ∀ q ∈ kyL_X6_shield, q ∈ L) (hb : False → b = false) {Q : Int32 → HS → Prop} {v0 : Nat} {S0 S : HS} (h : P_X6_shield_0 Q v0 S) (K : K9 b L S0 S) : P_X6_shield_0 (fun r T => Q r T ∧ K9 b L S0 T) v0 S := by
  delta P_X6_shield_0 at h ⊢
  obtain ⟨c1, h⟩ := h
  refine ⟨c1, ?_⟩
  intro x3 e2
  have h := h x3 e2
  refine ⟨?_, ?_⟩
  · intro c4
    have h := h.1 c4
    exact ⟨h, K⟩
  · intro c5
    have h := h.2 c5
    intro x7 e6
    have h := h x7 e6
    exact ⟨h, K⟩
theorem ky_X6_shield {b : Bool} {L : List (Nat × Nat)} (hU : ∀ q ∈ L, q ∈ nyT) (hL : ∀ q ∈ kyL_X6_shield, q ∈ L) (hb : False → b = false) {Q : Int32 → HS → Prop} {v0 : Nat} {S : HS} (h : P_X6_shield v0 Q S) : P_X6_shield v0 (fun r T => Q r T ∧ K9 b L S T) S := ky_X6_shield_0 hU hL hb h (k9_rf b L S)
abbrev kyL_X1_isForward : List (Nat × Nat) := []
set_option maxRecDepth 20000 in
set_option maxHeartbeats 1000000 in
theorem ky_X1_isForward_0 {b : Bool} {L : List (Nat × Nat)} (hU : ∀ q ∈ L, q ∈ nyT) (hL : ∀ q ∈ kyL_X1_isForward, q ∈ L) (hb : False → b = false) {Q : Int32 → HS → Prop} {v0 : Nat} {v1 : Nat} {S0 S : HS} (h : P_X1_isForward_0 Q v0 v1 S) (K : K9 b L S0 S) : P_X1_isForward_0 (fun r T => Q r T ∧ K9 b L S0 T) v0 v1 S := by
  delta P_X1_isForward_0 at h ⊢
  obtain ⟨c1, h⟩ := h
  refine ⟨c1, ?_⟩
  have o2 := c1
  obtain ⟨b3, e4, h⟩ := h
  refine ⟨b3, e4, ?_⟩
  obtain ⟨c5, h⟩ := h
  refine ⟨c5, ?_⟩
  obtain ⟨c6, h⟩ := h
  refine ⟨c6, ?_⟩
  intro x8 e7
  have h := h x8 e7
  obtain ⟨c9, h⟩ := h
  refine ⟨c9, ?_⟩
  refine cm_X6_shield (ky_X6_shield (b := b) hU (fun q hq => hL q ((by decide : ∀ q ∈ kyL_X6_shield, q ∈ kyL_X1_isForward) q hq)) (fun z => z.elim) h) h (fun x10 x11 p13 h g12 => ?_)
  have h := h g12
  have K := k9_tr K p13.2
  have o2 := gr_ob p13.2.1 o2
  intro x15 e14
  have h := h x15 e14
  intro x17 e16
  have h := h x17 e16
  intro x19 e18
  have h := h x19 e18
  obtain ⟨b20, e21, h⟩ := h
  refine ⟨b20, e21, ?_⟩
  obtain ⟨c22, h⟩ := h
  refine ⟨c22, ?_⟩
  obtain ⟨c23, h⟩ := h
  refine ⟨c23, ?_⟩
  intro x25 e24
  have h := h x25 e24
  refine cm_X6_shield (ky_X6_shield (b := b) hU (fun q hq => hL q ((by decide : ∀ q ∈ kyL_X6_shield, q ∈ kyL_X1_isForward) q hq)) (fun z => z.elim) h) h (fun x26 x27 p29 h g28 => ?_)
  have h := h g28
  have K := k9_tr K p29.2
  have o2 := gr_ob p29.2.1 o2
  intro x31 e30
  have h := h x31 e30
  intro x33 e32
  have h := h x33 e32
  intro x35 e34
  have h := h x35 e34
  refine ⟨?_, ?_⟩
  · intro c36
    have h := h.1 c36
    exact ⟨h, K⟩
  · intro c37
    have h := h.2 c37
    exact ⟨h, K⟩
theorem ky_X1_isForward {b : Bool} {L : List (Nat × Nat)} (hU : ∀ q ∈ L, q ∈ nyT) (hL : ∀ q ∈ kyL_X1_isForward, q ∈ L) (hb : False → b = false) {Q : Int32 → HS → Prop} {v0 : Nat} {v1 : Nat} {S : HS} (h : P_X1_isForward v0 v1 Q S) : P_X1_isForward v0 v1 (fun r T => Q r T ∧ K9 b L S T) S := ky_X1_isForward_0 hU hL hb h (k9_rf b L S)
abbrev kyL_X1_soak : List (Nat × Nat) := [(1, 0)]
set_option maxRecDepth 20000 in
set_option maxHeartbeats 1000000 in
theorem ky_X1_soak_35 {b : Bool} {L : List (Nat × Nat)} (hU : ∀ q ∈ L, q ∈ nyT) (hL : ∀ q ∈ kyL_X1_soak, q ∈ L) (hb : False → b = false) {Q : Int64 → HS → Prop} {v0 : Nat} {v1 : Nat} {v2 : Int32} {v3 : Int32} {v5 : Int32} {s0 : Int32} {S0 S : HS} (h : P_X1_soak_35 Q v0 v1 v2 v3 v5 s0 S) (K : K9 b L S0 S) : P_X1_soak_35 (fun r T => Q r T ∧ K9 b L S0 T) v0 v1 v2 v3 v5 s0 S := by
  delta P_X1_soak_35 at h ⊢
  obtain ⟨c1, h⟩ := h
  refine ⟨c1, ?_⟩
  have o2 := c1
  obtain ⟨b3, e4, h⟩ := h
  refine ⟨b3, e4, ?_⟩
  have n5 := k9_nr K e4 o2 (hL _ (by decide))
  obtain ⟨b6, e7, h⟩ := h
  refine ⟨b6, e7, ?_⟩
  obtain ⟨c8, h⟩ := h
  refine ⟨c8, ?_⟩
  obtain ⟨c9, h⟩ := h
  refine ⟨c9, ?_⟩
  intro x11 e10
  have h := h x11 e10
  obtain ⟨c12, h⟩ := h
  refine ⟨c12, ?_⟩
  intro x14 e13
  have h := h x14 e13
  intro x16 e15
  have h := h x16 e15
  obtain ⟨c17, h⟩ := h
  refine ⟨c17, ?_⟩
  intro x19 e18
  have h := h x19 e18
  obtain ⟨c20, h⟩ := h
  refine ⟨c20, ?_⟩
  intro x22 e21
  have h := h x22 e21
  have K := k9_J K e21 n5
  have o2 := ob_wJ o2 e21
  obtain ⟨b23, e24, h⟩ := h
  refine ⟨b23, e24, ?_⟩
  have n25 := k9_nr K e24 o2 (hL _ (by decide))
  obtain ⟨b26, e27, h⟩ := h
  refine ⟨b26, e27, ?_⟩
  obtain ⟨c28, h⟩ := h
  refine ⟨c28, ?_⟩
  obtain ⟨c29, h⟩ := h
  refine ⟨c29, ?_⟩
  intro x31 e30
  have h := h x31 e30
  intro x33 e32
  have h := h x33 e32
  intro x35 e34
  have h := h x35 e34
  obtain ⟨c36, h⟩ := h
  refine ⟨c36, ?_⟩
  intro x38 e37
  have h := h x38 e37
  obtain ⟨c39, h⟩ := h
  refine ⟨c39, ?_⟩
  intro x41 e40
  have h := h x41 e40
  have K := k9_J K e40 n25
  have o2 := ob_wJ o2 e40
  obtain ⟨b42, e43, h⟩ := h
  refine ⟨b42, e43, ?_⟩
  have n44 := k9_nr K e43 o2 (hL _ (by decide))
  obtain ⟨b45, e46, h⟩ := h
  refine ⟨b45, e46, ?_⟩
  obtain ⟨c47, h⟩ := h
  refine ⟨c47, ?_⟩
  obtain ⟨c48, h⟩ := h
  refine ⟨c48, ?_⟩
  intro x50 e49
  have h := h x50 e49
  intro x52 e51
  have h := h x52 e51
  intro x54 e53
  have h := h x54 e53
  obtain ⟨c55, h⟩ := h
  refine ⟨c55, ?_⟩
  intro x57 e56
  have h := h x57 e56
  obtain ⟨c58, h⟩ := h
  refine ⟨c58, ?_⟩
  intro x60 e59
  have h := h x60 e59
  have K := k9_J K e59 n44
  have o2 := ob_wJ o2 e59
  obtain ⟨b61, e62, h⟩ := h
  refine ⟨b61, e62, ?_⟩
  have n63 := k9_nr K e62 o2 (hL _ (by decide))
  obtain ⟨b64, e65, h⟩ := h
  refine ⟨b64, e65, ?_⟩
  obtain ⟨c66, h⟩ := h
  refine ⟨c66, ?_⟩
  obtain ⟨c67, h⟩ := h
  refine ⟨c67, ?_⟩
  intro x69 e68
  have h := h x69 e68
  intro x71 e70
  have h := h x71 e70
  obtain ⟨c72, h⟩ := h
  refine ⟨c72, ?_⟩
  intro x74 e73
  have h := h x74 e73
  obtain ⟨c75, h⟩ := h
  refine ⟨c75, ?_⟩
  intro x77 e76
  have h := h x77 e76
  have K := k9_J K e76 n63
  have o2 := ob_wJ o2 e76
  obtain ⟨b78, e79, h⟩ := h
  refine ⟨b78, e79, ?_⟩
  have n80 := k9_nr K e79 o2 (hL _ (by decide))
  obtain ⟨b81, e82, h⟩ := h
  refine ⟨b81, e82, ?_⟩
  obtain ⟨c83, h⟩ := h
  refine ⟨c83, ?_⟩
  obtain ⟨c84, h⟩ := h
  refine ⟨c84, ?_⟩
  intro x86 e85
  have h := h x86 e85
  intro x88 e87
  have h := h x88 e87
  obtain ⟨c89, h⟩ := h
  refine ⟨c89, ?_⟩
  intro x91 e90
  have h := h x91 e90
  obtain ⟨c92, h⟩ := h
  refine ⟨c92, ?_⟩
  intro x94 e93
  have h := h x94 e93
  have K := k9_J K e93 n80
  have o2 := ob_wJ o2 e93
  obtain ⟨b95, e96, h⟩ := h
  refine ⟨b95, e96, ?_⟩
  obtain ⟨c97, h⟩ := h
  refine ⟨c97, ?_⟩
  obtain ⟨c98, h⟩ := h
  refine ⟨c98, ?_⟩
  intro x100 e99
  have h := h x100 e99
  obtain ⟨b101, e102, h⟩ := h
  refine ⟨b101, e102, ?_⟩
  obtain ⟨c103, h⟩ := h
  refine ⟨c103, ?_⟩
  obtain ⟨c104, h⟩ := h
  refine ⟨c104, ?_⟩
  intro x106 e105
  have h := h x106 e105
  obtain ⟨b107, e108, h⟩ := h
  refine ⟨b107, e108, ?_⟩
  obtain ⟨c109, h⟩ := h
  refine ⟨c109, ?_⟩
  obtain ⟨c110, h⟩ := h
  refine ⟨c110, ?_⟩
  intro x112 e111
  have h := h x112 e111
  obtain ⟨b113, e114, h⟩ := h
  refine ⟨b113, e114, ?_⟩
  obtain ⟨c115, h⟩ := h
  refine ⟨c115, ?_⟩
  obtain ⟨c116, h⟩ := h
  refine ⟨c116, ?_⟩
  intro x118 e117
  have h := h x118 e117
  obtain ⟨b119, e120, h⟩ := h
  refine ⟨b119, e120, ?_⟩
  obtain ⟨c121, h⟩ := h
  refine ⟨c121, ?_⟩
  obtain ⟨c122, h⟩ := h
  refine ⟨c122, ?_⟩
  intro x124 e123
  have h := h x124 e123
  exact ⟨h, K⟩
set_option maxRecDepth 20000 in
set_option maxHeartbeats 1000000 in
theorem ky_X1_soak_20 {b : Bool} {L : List (Nat × Nat)} (hU : ∀ q ∈ L, q ∈ nyT) (hL : ∀ q ∈ kyL_X1_soak, q ∈ L) (hb : False → b = false) {Q : Int64 → HS → Prop} {v0 : Nat} {v1 : Nat} {v2 : Int32} {v3 : Int32} {v4 : Int32} {s0 : Int32} {S0 S : HS} (h : P_X1_soak_20 Q v0 v1 v2 v3 v4 s0 S) (K : K9 b L S0 S) : P_X1_soak_20 (fun r T => Q r T ∧ K9 b L S0 T) v0 v1 v2 v3 v4 s0 S := by
  delta P_X1_soak_20 at h ⊢
  refine ⟨?_, ?_⟩
  · intro c1
    have h := h.1 c1
    exact ky_X1_soak_35 hU hL hb h K
  · intro c2
    have h := h.2 c2
    obtain ⟨c3, h⟩ := h
    refine ⟨c3, ?_⟩
    refine cm_X6_shield (ky_X6_shield (b := b) hU (fun q hq => hL q ((by decide : ∀ q ∈ kyL_X6_shield, q ∈ kyL_X1_soak) q hq)) (fun z => z.elim) h) h (fun x4 x5 p7 h g6 => ?_)
    have h := h g6
    have K := k9_tr K p7.2
    exact ky_X1_soak_35 hU hL hb h K
set_option maxRecDepth 20000 in
set_option maxHeartbeats 1000000 in
theorem ky_X1_soak_0 {b : Bool} {L : List (Nat × Nat)} (hU : ∀ q ∈ L, q ∈ nyT) (hL : ∀ q ∈ kyL_X1_soak, q ∈ L) (hb : False → b = false) {Q : Int64 → HS → Prop} {v0 : Nat} {v1 : Nat} {v2 : Int32} {v3 : Int32} {S0 S : HS} (h : P_X1_soak_0 Q v0 v1 v2 v3 S) (K : K9 b L S0 S) : P_X1_soak_0 (fun r T => Q r T ∧ K9 b L S0 T) v0 v1 v2 v3 S := by
  delta P_X1_soak_0 at h ⊢
  obtain ⟨c1, h⟩ := h
  refine ⟨c1, ?_⟩
  refine cm_X1_isForward (ky_X1_isForward (b := b) hU (fun q hq => hL q ((by decide : ∀ q ∈ kyL_X1_isForward, q ∈ kyL_X1_soak) q hq)) (fun z => z.elim) h) h (fun x2 x3 p6 h g4 g5 => ?_)
  have h := h g4 g5
  have K := k9_tr K p6.2
  refine ⟨?_, ?_⟩
  · intro c7
    have h := h.1 c7
    obtain ⟨c8, h⟩ := h
    refine ⟨c8, ?_⟩
    refine cm_X6_shield (ky_X6_shield (b := b) hU (fun q hq => hL q ((by decide : ∀ q ∈ kyL_X6_shield, q ∈ kyL_X1_soak) q hq)) (fun z => z.elim) h) h (fun x9 x10 p12 h g11 => ?_)
    have h := h g11
    have K := k9_tr K p12.2
    exact ky_X1_soak_20 hU hL hb h K
  · intro c13
    have h := h.2 c13
    exact ky_X1_soak_20 hU hL hb h K
theorem ky_X1_soak {b : Bool} {L : List (Nat × Nat)} (hU : ∀ q ∈ L, q ∈ nyT) (hL : ∀ q ∈ kyL_X1_soak, q ∈ L) (hb : False → b = false) {Q : Int64 → HS → Prop} {v0 : Nat} {v1 : Nat} {v2 : Int32} {v3 : Int32} {S : HS} (h : P_X1_soak v0 v1 v2 v3 Q S) : P_X1_soak v0 v1 v2 v3 (fun r T => Q r T ∧ K9 b L S T) S := ky_X1_soak_0 hU hL hb h (k9_rf b L S)
abbrev kyL_X1_wetOf : List (Nat × Nat) := [(1, 0), (1, 1)]
set_option maxRecDepth 20000 in
set_option maxHeartbeats 1000000 in
theorem ky_X1_wetOf_0 {b : Bool} {L : List (Nat × Nat)} (hU : ∀ q ∈ L, q ∈ nyT) (hL : ∀ q ∈ kyL_X1_wetOf, q ∈ L) (hb : False → b = false) {Q : Int64 → HS → Prop} {v0 : Nat} {v1 : Nat} {v2 : Nat} {v3 : Int32} {v4 : Nat} {v5 : Int32} {S0 S : HS} (h : P_X1_wetOf_0 Q v0 v1 v2 v3 v4 v5 S) (K : K9 b L S0 S) : P_X1_wetOf_0 (fun r T => Q r T ∧ K9 b L S0 T) v0 v1 v2 v3 v4 v5 S := by
  delta P_X1_wetOf_0 at h ⊢
  obtain ⟨c1, h⟩ := h
  refine ⟨c1, ?_⟩
  refine cm_X1_lay (ky_X1_lay (b := b) hU (fun q hq => hL q ((by decide : ∀ q ∈ kyL_X1_lay, q ∈ kyL_X1_wetOf) q hq)) (fun z => z.elim) h) h (fun x2 p4 h g3 => ?_)
  have h := h g3
  have K := k9_tr K p4.2
  refine cm_X1_soak (ky_X1_soak (b := b) hU (fun q hq => hL q ((by decide : ∀ q ∈ kyL_X1_soak, q ∈ kyL_X1_wetOf) q hq)) (fun z => z.elim) h) h (fun x5 x6 p8 h g7 => ?_)
  have h := h g7
  have K := k9_tr K p8.2
  exact ⟨h, K⟩
theorem ky_X1_wetOf {b : Bool} {L : List (Nat × Nat)} (hU : ∀ q ∈ L, q ∈ nyT) (hL : ∀ q ∈ kyL_X1_wetOf, q ∈ L) (hb : False → b = false) {Q : Int64 → HS → Prop} {v0 : Nat} {v1 : Nat} {v2 : Nat} {v3 : Int32} {v4 : Nat} {v5 : Int32} {S : HS} (h : P_X1_wetOf v0 v1 v2 v3 v4 v5 Q S) : P_X1_wetOf v0 v1 v2 v3 v4 v5 (fun r T => Q r T ∧ K9 b L S T) S := ky_X1_wetOf_0 hU hL hb h (k9_rf b L S)
abbrev kyL_X1_bestSpeed : List (Nat × Nat) := [(1, 0), (1, 1)]
set_option maxRecDepth 20000 in
set_option maxHeartbeats 1000000 in
theorem ky_X1_bestSpeed_55 {b : Bool} {L : List (Nat × Nat)} (hU : ∀ q ∈ L, q ∈ nyT) (hL : ∀ q ∈ kyL_X1_bestSpeed, q ∈ L) (hb : False → b = false) {Q : Int32 → HS → Prop} {X17 X17_2 : Nat → Nat → Nat → Int32 → Nat → Int32 → Int64 → Int32 → HS → Prop} {v0 : Nat} {v1 : Nat} {v2 : Nat} {v3 : Int32} {v4 : Nat} {v5 : Int32} {v6 : Int64} {v8 : Int32} {S0 S : HS} (h : P_X1_bestSpeed_55 Q X17 v0 v1 v2 v3 v4 v5 v6 v8 S) (K : K9 b L S0 S) (hX17 : ∀ (u0 : Nat) (u1 : Nat) (u2 : Nat) (u3 : Int32) (u4 : Nat) (u5 : Int32) (u6 : Int64) (u7 : Int32) (u8 : HS), X17 u0 u1 u2 u3 u4 u5 u6 u7 u8 → K9 b L S0 u8 → X17_2 u0 u1 u2 u3 u4 u5 u6 u7 u8) : P_X1_bestSpeed_55 (fun r T => Q r T ∧ K9 b L S0 T) X17_2 v0 v1 v2 v3 v4 v5 v6 v8 S := by
  delta P_X1_bestSpeed_55 at h ⊢
  intro x2 e1
  have h := h x2 e1
  exact hX17 _ _ _ _ _ _ _ _ _ h K
set_option maxRecDepth 20000 in
set_option maxHeartbeats 1000000 in
theorem kyB_X1_bestSpeed_17 {b : Bool} {L : List (Nat × Nat)} (hU : ∀ q ∈ L, q ∈ nyT) (hL : ∀ q ∈ kyL_X1_bestSpeed, q ∈ L) (hb : False → b = false) {Q : Int32 → HS → Prop} {X17 X17_2 : Nat → Nat → Nat → Int32 → Nat → Int32 → Int64 → Int32 → HS → Prop} {v0 : Nat} {v1 : Nat} {v2 : Nat} {v3 : Int32} {v4 : Nat} {v5 : Int32} {v6 : Int64} {v8 : Int32} {S0 S : HS} (h : B_X1_bestSpeed_17 Q X17 v0 v1 v2 v3 v4 v5 v6 v8 S) (K : K9 b L S0 S) (hX17 : ∀ (u0 : Nat) (u1 : Nat) (u2 : Nat) (u3 : Int32) (u4 : Nat) (u5 : Int32) (u6 : Int64) (u7 : Int32) (u8 : HS), X17 u0 u1 u2 u3 u4 u5 u6 u7 u8 → K9 b L S0 u8 → X17_2 u0 u1 u2 u3 u4 u5 u6 u7 u8) : B_X1_bestSpeed_17 (fun r T => Q r T ∧ K9 b L S0 T) X17_2 v0 v1 v2 v3 v4 v5 v6 v8 S := by
  delta B_X1_bestSpeed_17 at h ⊢
  obtain ⟨c1, h⟩ := h
  refine ⟨c1, ?_⟩
  intro x3 e2
  have h := h x3 e2
  refine ⟨?_, ?_⟩
  · intro c4
    have h := h.1 c4
    exact ⟨h, K⟩
  · intro c5
    have h := h.2 c5
    obtain ⟨c6, h⟩ := h
    refine ⟨c6, ?_⟩
    refine cm_X1_wetOf (ky_X1_wetOf (b := b) hU (fun q hq => hL q ((by decide : ∀ q ∈ kyL_X1_wetOf, q ∈ kyL_X1_bestSpeed) q hq)) (fun z => z.elim) h) h (fun x7 x8 p10 h g9 => ?_)
    have h := h g9
    have K := k9_tr K p10.2
    refine ⟨?_, ?_⟩
    · intro c11
      have h := h.1 c11
      exact ky_X1_bestSpeed_55 hU hL hb h K hX17
    · intro c12
      have h := h.2 c12
      exact ky_X1_bestSpeed_55 hU hL hb h K hX17
theorem ky_X1_bestSpeed_17 {b : Bool} {L : List (Nat × Nat)} (hU : ∀ q ∈ L, q ∈ nyT) (hL : ∀ q ∈ kyL_X1_bestSpeed, q ∈ L) (hb : False → b = false) {Q : Int32 → HS → Prop} {v0 : Nat} {v1 : Nat} {v2 : Nat} {v3 : Int32} {v4 : Nat} {v5 : Int32} {v6 : Int64} {v8 : Int32} {S0 S : HS} (h : P_X1_bestSpeed_17 Q v0 v1 v2 v3 v4 v5 v6 v8 S) (K : K9 b L S0 S) : P_X1_bestSpeed_17 (fun r T => Q r T ∧ K9 b L S0 T) v0 v1 v2 v3 v4 v5 v6 v8 S := h (fun v0 v1 v2 v3 v4 v5 v6 v8 S => K9 b L S0 S → P_X1_bestSpeed_17 (fun r T => Q r T ∧ K9 b L S0 T) v0 v1 v2 v3 v4 v5 v6 v8 S) (fun v0 v1 v2 v3 v4 v5 v6 v8 S hB K => fd_X1_bestSpeed_17 (kyB_X1_bestSpeed_17 hU hL hb hB K (fun _ _ _ _ _ _ _ _ _ hx K => hx K))) K
set_option maxRecDepth 20000 in
set_option maxHeartbeats 1000000 in
theorem ky_X1_bestSpeed_0 {b : Bool} {L : List (Nat × Nat)} (hU : ∀ q ∈ L, q ∈ nyT) (hL : ∀ q ∈ kyL_X1_bestSpeed, q ∈ L) (hb : False → b = false) {Q : Int32 → HS → Prop} {v0 : Nat} {v1 : Nat} {v2 : Nat} {v3 : Int32} {v4 : Nat} {S0 S : HS} (h : P_X1_bestSpeed_0 Q v0 v1 v2 v3 v4 S) (K : K9 b L S0 S) : P_X1_bestSpeed_0 (fun r T => Q r T ∧ K9 b L S0 T) v0 v1 v2 v3 v4 S := by
  delta P_X1_bestSpeed_0 at h ⊢
  obtain ⟨c1, h⟩ := h
  refine ⟨c1, ?_⟩
  intro x3 e2
  have h := h x3 e2
  intro x5 e4
  have h := h x5 e4
  exact ky_X1_bestSpeed_17 hU hL hb h K
theorem ky_X1_bestSpeed {b : Bool} {L : List (Nat × Nat)} (hU : ∀ q ∈ L, q ∈ nyT) (hL : ∀ q ∈ kyL_X1_bestSpeed, q ∈ L) (hb : False → b = false) {Q : Int32 → HS → Prop} {v0 : Nat} {v1 : Nat} {v2 : Nat} {v3 : Int32} {v4 : Nat} {S : HS} (h : P_X1_bestSpeed v0 v1 v2 v3 v4 Q S) : P_X1_bestSpeed v0 v1 v2 v3 v4 (fun r T => Q r T ∧ K9 b L S T) S := ky_X1_bestSpeed_0 hU hL hb h (k9_rf b L S)
abbrev kyL_X1_legsOf : List (Nat × Nat) := []
set_option maxRecDepth 20000 in
set_option maxHeartbeats 1000000 in
theorem ky_X1_legsOf_0 {b : Bool} {L : List (Nat × Nat)} (hU : ∀ q ∈ L, q ∈ nyT) (hL : ∀ q ∈ kyL_X1_legsOf, q ∈ L) (hb : False → b = false) {Q : Int32 → HS → Prop} {v0 : Nat} {S0 S : HS} (h : P_X1_legsOf_0 Q v0 S) (K : K9 b L S0 S) : P_X1_legsOf_0 (fun r T => Q r T ∧ K9 b L S0 T) v0 S := by
  delta P_X1_legsOf_0 at h ⊢
  obtain ⟨c1, h⟩ := h
  refine ⟨c1, ?_⟩
  intro x3 e2
  have h := h x3 e2
  intro x5 e4
  have h := h x5 e4
  exact ⟨h, K⟩
theorem ky_X1_legsOf {b : Bool} {L : List (Nat × Nat)} (hU : ∀ q ∈ L, q ∈ nyT) (hL : ∀ q ∈ kyL_X1_legsOf, q ∈ L) (hb : False → b = false) {Q : Int32 → HS → Prop} {v0 : Nat} {S : HS} (h : P_X1_legsOf v0 Q S) : P_X1_legsOf v0 (fun r T => Q r T ∧ K9 b L S T) S := ky_X1_legsOf_0 hU hL hb h (k9_rf b L S)
abbrev kyL_X6_canGo : List (Nat × Nat) := []
set_option maxRecDepth 20000 in
set_option maxHeartbeats 1000000 in
theorem ky_X6_canGo_0 {b : Bool} {L : List (Nat × Nat)} (hU : ∀ q ∈ L, q ∈ nyT) (hL : ∀ q ∈ kyL_X6_canGo, q ∈ L) (hb : False → b = false) {Q : Int32 → HS → Prop} {v0 : Nat} {v1 : Int32} {S0 S : HS} (h : P_X6_canGo_0 Q v0 v1 S) (K : K9 b L S0 S) : P_X6_canGo_0 (fun r T => Q r T ∧ K9 b L S0 T) v0 v1 S := by
  delta P_X6_canGo_0 at h ⊢
  obtain ⟨c1, h⟩ := h
  refine ⟨c1, ?_⟩
  intro x3 e2
  have h := h x3 e2
  refine ⟨?_, ?_⟩
  · intro c4
    have h := h.1 c4
    exact ⟨h, K⟩
  · intro c5
    have h := h.2 c5
    intro x7 e6
    have h := h x7 e6
    refine ⟨?_, ?_⟩
    · intro c8
      have h := h.1 c8
      exact ⟨h, K⟩
    · intro c9
      have h := h.2 c9
      refine ⟨?_, ?_⟩
      · intro c10
        have h := h.1 c10
        exact ⟨h, K⟩
      · intro c11
        have h := h.2 c11
        refine ⟨?_, ?_⟩
        · intro c12
          have h := h.1 c12
          exact ⟨h, K⟩
        · intro c13
          have h := h.2 c13
          exact ⟨h, K⟩
theorem ky_X6_canGo {b : Bool} {L : List (Nat × Nat)} (hU : ∀ q ∈ L, q ∈ nyT) (hL : ∀ q ∈ kyL_X6_canGo, q ∈ L) (hb : False → b = false) {Q : Int32 → HS → Prop} {v0 : Nat} {v1 : Int32} {S : HS} (h : P_X6_canGo v0 v1 Q S) : P_X6_canGo v0 v1 (fun r T => Q r T ∧ K9 b L S T) S := ky_X6_canGo_0 hU hL hb h (k9_rf b L S)
abbrev kyL_X8_hasRoad : List (Nat × Nat) := []
set_option maxRecDepth 20000 in
set_option maxHeartbeats 1000000 in
theorem ky_X8_hasRoad_0 {b : Bool} {L : List (Nat × Nat)} (hU : ∀ q ∈ L, q ∈ nyT) (hL : ∀ q ∈ kyL_X8_hasRoad, q ∈ L) (hb : False → b = false) {Q : Int32 → HS → Prop} {v0 : Nat} {v1 : Int32} {S0 S : HS} (h : P_X8_hasRoad_0 Q v0 v1 S) (K : K9 b L S0 S) : P_X8_hasRoad_0 (fun r T => Q r T ∧ K9 b L S0 T) v0 v1 S := by
  delta P_X8_hasRoad_0 at h ⊢
  refine ⟨?_, ?_⟩
  · intro c1
    have h := h.1 c1
    exact ⟨h, K⟩
  · intro c2
    have h := h.2 c2
    obtain ⟨c3, h⟩ := h
    refine ⟨c3, ?_⟩
    intro x5 e4
    have h := h x5 e4
    refine ⟨?_, ?_⟩
    · intro c6
      have h := h.1 c6
      exact ⟨h, K⟩
    · intro c7
      have h := h.2 c7
      obtain ⟨b8, e9, h⟩ := h
      refine ⟨b8, e9, ?_⟩
      obtain ⟨c10, h⟩ := h
      refine ⟨c10, ?_⟩
      refine ⟨?_, ?_⟩
      · intro c11
        have h := h.1 c11
        exact ⟨h, K⟩
      · intro c12
        have h := h.2 c12
        exact ⟨h, K⟩
theorem ky_X8_hasRoad {b : Bool} {L : List (Nat × Nat)} (hU : ∀ q ∈ L, q ∈ nyT) (hL : ∀ q ∈ kyL_X8_hasRoad, q ∈ L) (hb : False → b = false) {Q : Int32 → HS → Prop} {v0 : Nat} {v1 : Int32} {S : HS} (h : P_X8_hasRoad v0 v1 Q S) : P_X8_hasRoad v0 v1 (fun r T => Q r T ∧ K9 b L S T) S := ky_X8_hasRoad_0 hU hL hb h (k9_rf b L S)
abbrev kyL_X8_hasSeen : List (Nat × Nat) := []
set_option maxRecDepth 20000 in
set_option maxHeartbeats 1000000 in
theorem ky_X8_hasSeen_0 {b : Bool} {L : List (Nat × Nat)} (hU : ∀ q ∈ L, q ∈ nyT) (hL : ∀ q ∈ kyL_X8_hasSeen, q ∈ L) (hb : False → b = false) {Q : Int32 → HS → Prop} {v0 : Nat} {v1 : Int32} {S0 S : HS} (h : P_X8_hasSeen_0 Q v0 v1 S) (K : K9 b L S0 S) : P_X8_hasSeen_0 (fun r T => Q r T ∧ K9 b L S0 T) v0 v1 S := by
  delta P_X8_hasSeen_0 at h ⊢
  refine ⟨?_, ?_⟩
  · intro c1
    have h := h.1 c1
    exact ⟨h, K⟩
  · intro c2
    have h := h.2 c2
    obtain ⟨c3, h⟩ := h
    refine ⟨c3, ?_⟩
    intro x5 e4
    have h := h x5 e4
    refine ⟨?_, ?_⟩
    · intro c6
      have h := h.1 c6
      exact ⟨h, K⟩
    · intro c7
      have h := h.2 c7
      obtain ⟨b8, e9, h⟩ := h
      refine ⟨b8, e9, ?_⟩
      obtain ⟨c10, h⟩ := h
      refine ⟨c10, ?_⟩
      refine ⟨?_, ?_⟩
      · intro c11
        have h := h.1 c11
        exact ⟨h, K⟩
      · intro c12
        have h := h.2 c12
        exact ⟨h, K⟩
theorem ky_X8_hasSeen {b : Bool} {L : List (Nat × Nat)} (hU : ∀ q ∈ L, q ∈ nyT) (hL : ∀ q ∈ kyL_X8_hasSeen, q ∈ L) (hb : False → b = false) {Q : Int32 → HS → Prop} {v0 : Nat} {v1 : Int32} {S : HS} (h : P_X8_hasSeen v0 v1 Q S) : P_X8_hasSeen v0 v1 (fun r T => Q r T ∧ K9 b L S T) S := ky_X8_hasSeen_0 hU hL hb h (k9_rf b L S)
abbrev kyL_X8_hasWalker : List (Nat × Nat) := []
set_option maxRecDepth 20000 in
set_option maxHeartbeats 1000000 in
theorem ky_X8_hasWalker_0 {b : Bool} {L : List (Nat × Nat)} (hU : ∀ q ∈ L, q ∈ nyT) (hL : ∀ q ∈ kyL_X8_hasWalker, q ∈ L) (hb : False → b = false) {Q : Int32 → HS → Prop} {v0 : Nat} {v1 : Int32} {S0 S : HS} (h : P_X8_hasWalker_0 Q v0 v1 S) (K : K9 b L S0 S) : P_X8_hasWalker_0 (fun r T => Q r T ∧ K9 b L S0 T) v0 v1 S := by
  delta P_X8_hasWalker_0 at h ⊢
  refine ⟨?_, ?_⟩
  · intro c1
    have h := h.1 c1
    exact ⟨h, K⟩
  · intro c2
    have h := h.2 c2
    obtain ⟨c3, h⟩ := h
    refine ⟨c3, ?_⟩
    intro x5 e4
    have h := h x5 e4
    refine ⟨?_, ?_⟩
    · intro c6
      have h := h.1 c6
      exact ⟨h, K⟩
    · intro c7
      have h := h.2 c7
      obtain ⟨b8, e9, h⟩ := h
      refine ⟨b8, e9, ?_⟩
      obtain ⟨c10, h⟩ := h
      refine ⟨c10, ?_⟩
      refine ⟨?_, ?_⟩
      · intro c11
        have h := h.1 c11
        exact ⟨h, K⟩
      · intro c12
        have h := h.2 c12
        exact ⟨h, K⟩
theorem ky_X8_hasWalker {b : Bool} {L : List (Nat × Nat)} (hU : ∀ q ∈ L, q ∈ nyT) (hL : ∀ q ∈ kyL_X8_hasWalker, q ∈ L) (hb : False → b = false) {Q : Int32 → HS → Prop} {v0 : Nat} {v1 : Int32} {S : HS} (h : P_X8_hasWalker v0 v1 Q S) : P_X8_hasWalker v0 v1 (fun r T => Q r T ∧ K9 b L S T) S := ky_X8_hasWalker_0 hU hL hb h (k9_rf b L S)
abbrev kyL_X1_fitCode : List (Nat × Nat) := [(1, 0), (1, 1)]
set_option maxRecDepth 20000 in
set_option maxHeartbeats 1000000 in
theorem kyB_X1_fitCode_141 {b : Bool} {L : List (Nat × Nat)} (hU : ∀ q ∈ L, q ∈ nyT) (hL : ∀ q ∈ kyL_X1_fitCode, q ∈ L) (hb : False → b = false) {Q : Int32 → HS → Prop} {X141 X141_2 : Nat → Nat → Int32 → Int32 → Int32 → Int32 → Int32 → HS → Prop} {v0 : Nat} {v1 : Nat} {v2 : Int32} {v4 : Int32} {v5 : Int32} {v6 : Int32} {v8 : Int32} {S0 S : HS} (h : B_X1_fitCode_141 Q X141 v0 v1 v2 v4 v5 v6 v8 S) (K : K9 b L S0 S) (hX141 : ∀ (u0 : Nat) (u1 : Nat) (u2 : Int32) (u3 : Int32) (u4 : Int32) (u5 : Int32) (u6 : Int32) (u7 : HS), X141 u0 u1 u2 u3 u4 u5 u6 u7 → K9 b L S0 u7 → X141_2 u0 u1 u2 u3 u4 u5 u6 u7) : B_X1_fitCode_141 (fun r T => Q r T ∧ K9 b L S0 T) X141_2 v0 v1 v2 v4 v5 v6 v8 S := by
  delta B_X1_fitCode_141 at h ⊢
  refine ⟨?_, ?_⟩
  · intro c1
    have h := h.1 c1
    intro x3 e2
    have h := h x3 e2
    intro x5 e4
    have h := h x5 e4
    exact ⟨h, K⟩
  · intro c6
    have h := h.2 c6
    obtain ⟨c7, h⟩ := h
    refine ⟨c7, ?_⟩
    have o8 := c7
    obtain ⟨b9, e10, h⟩ := h
    refine ⟨b9, e10, ?_⟩
    obtain ⟨c11, h⟩ := h
    refine ⟨c11, ?_⟩
    obtain ⟨c12, h⟩ := h
    refine ⟨c12, ?_⟩
    intro x14 e13
    have h := h x14 e13
    obtain ⟨c15, h⟩ := h
    refine ⟨c15, ?_⟩
    obtain ⟨b16, e17, h⟩ := h
    refine ⟨b16, e17, ?_⟩
    obtain ⟨c18, h⟩ := h
    refine ⟨c18, ?_⟩
    intro x20 e19
    have h := h x20 e19
    obtain ⟨c21, h⟩ := h
    refine ⟨c21, ?_⟩
    intro x23 e22
    have h := h x23 e22
    refine ⟨?_, ?_⟩
    · intro c24
      have h := h.1 c24
      intro x26 e25
      have h := h x26 e25
      exact hX141 _ _ _ _ _ _ _ _ h K
    · intro c27
      have h := h.2 c27
      exact ⟨h, K⟩
theorem ky_X1_fitCode_141 {b : Bool} {L : List (Nat × Nat)} (hU : ∀ q ∈ L, q ∈ nyT) (hL : ∀ q ∈ kyL_X1_fitCode, q ∈ L) (hb : False → b = false) {Q : Int32 → HS → Prop} {v0 : Nat} {v1 : Nat} {v2 : Int32} {v4 : Int32} {v5 : Int32} {v6 : Int32} {v8 : Int32} {S0 S : HS} (h : P_X1_fitCode_141 Q v0 v1 v2 v4 v5 v6 v8 S) (K : K9 b L S0 S) : P_X1_fitCode_141 (fun r T => Q r T ∧ K9 b L S0 T) v0 v1 v2 v4 v5 v6 v8 S := h (fun v0 v1 v2 v4 v5 v6 v8 S => K9 b L S0 S → P_X1_fitCode_141 (fun r T => Q r T ∧ K9 b L S0 T) v0 v1 v2 v4 v5 v6 v8 S) (fun v0 v1 v2 v4 v5 v6 v8 S hB K => fd_X1_fitCode_141 (kyB_X1_fitCode_141 hU hL hb hB K (fun _ _ _ _ _ _ _ _ hx K => hx K))) K
set_option maxRecDepth 20000 in
set_option maxHeartbeats 1000000 in
theorem ky_X1_fitCode_0 {b : Bool} {L : List (Nat × Nat)} (hU : ∀ q ∈ L, q ∈ nyT) (hL : ∀ q ∈ kyL_X1_fitCode, q ∈ L) (hb : False → b = false) {Q : Int32 → HS → Prop} {v0 : Nat} {v1 : Nat} {v2 : Int32} {v3 : Int32} {S0 S : HS} (h : P_X1_fitCode_0 Q v0 v1 v2 v3 S) (K : K9 b L S0 S) : P_X1_fitCode_0 (fun r T => Q r T ∧ K9 b L S0 T) v0 v1 v2 v3 S := by
  delta P_X1_fitCode_0 at h ⊢
  refine ⟨?_, ?_⟩
  · intro c1
    have h := h.1 c1
    exact ⟨h, K⟩
  · intro c2
    have h := h.2 c2
    refine cm_X1_legsOf (ky_X1_legsOf (b := b) hU (fun q hq => hL q ((by decide : ∀ q ∈ kyL_X1_legsOf, q ∈ kyL_X1_fitCode) q hq)) (fun z => z.elim) h) h (fun x3 x4 p6 h g5 => ?_)
    have h := h g5
    have K := k9_tr K p6.2
    refine ⟨?_, ?_⟩
    · intro c7
      have h := h.1 c7
      exact ⟨h, K⟩
    · intro c8
      have h := h.2 c8
      obtain ⟨c9, h⟩ := h
      refine ⟨c9, ?_⟩
      refine cm_X8_hasSeen (ky_X8_hasSeen (b := b) hU (fun q hq => hL q ((by decide : ∀ q ∈ kyL_X8_hasSeen, q ∈ kyL_X1_fitCode) q hq)) (fun z => z.elim) h) h (fun x10 x11 p14 h g12 g13 => ?_)
      have h := h g12 g13
      have K := k9_tr K p14.2
      refine ⟨?_, ?_⟩
      · intro c15
        have h := h.1 c15
        exact ⟨h, K⟩
      · intro c16
        have h := h.2 c16
        intro x18 e17
        have h := h x18 e17
        refine ⟨?_, ?_⟩
        · intro c19
          have h := h.1 c19
          intro x21 e20
          have h := h x21 e20
          intro x23 e22
          have h := h x23 e22
          intro x25 e24
          have h := h x25 e24
          intro x27 e26
          have h := h x27 e26
          obtain ⟨c28, h⟩ := h
          refine ⟨c28, ?_⟩
          intro x30 e29
          have h := h x30 e29
          intro x32 e31
          have h := h x32 e31
          intro x34 e33
          have h := h x34 e33
          obtain ⟨c35, h⟩ := h
          refine ⟨c35, ?_⟩
          intro x37 e36
          have h := h x37 e36
          obtain ⟨b38, e39, h⟩ := h
          refine ⟨b38, e39, ?_⟩
          obtain ⟨c40, h⟩ := h
          refine ⟨c40, ?_⟩
          obtain ⟨c41, h⟩ := h
          refine ⟨c41, ?_⟩
          intro x43 e42
          have h := h x43 e42
          refine cm_X8_hasWalker (ky_X8_hasWalker (b := b) hU (fun q hq => hL q ((by decide : ∀ q ∈ kyL_X8_hasWalker, q ∈ kyL_X1_fitCode) q hq)) (fun z => z.elim) h) h (fun x44 x45 p48 h g46 g47 => ?_)
          have h := h g46 g47
          have K := k9_tr K p48.2
          refine ⟨?_, ?_⟩
          · intro c49
            have h := h.1 c49
            exact ⟨h, K⟩
          · intro c50
            have h := h.2 c50
            intro x52 e51
            have h := h x52 e51
            refine cm_X8_hasRoad (ky_X8_hasRoad (b := b) hU (fun q hq => hL q ((by decide : ∀ q ∈ kyL_X8_hasRoad, q ∈ kyL_X1_fitCode) q hq)) (fun z => z.elim) h) h (fun x53 x54 p57 h g55 g56 => ?_)
            have h := h g55 g56
            have K := k9_tr K p57.2
            refine ⟨?_, ?_⟩
            · intro c58
              have h := h.1 c58
              exact ⟨h, K⟩
            · intro c59
              have h := h.2 c59
              obtain ⟨b60, e61, h⟩ := h
              refine ⟨b60, e61, ?_⟩
              obtain ⟨c62, h⟩ := h
              refine ⟨c62, ?_⟩
              obtain ⟨c63, h⟩ := h
              refine ⟨c63, ?_⟩
              obtain ⟨b64, e65, h⟩ := h
              refine ⟨b64, e65, ?_⟩
              obtain ⟨c66, h⟩ := h
              refine ⟨c66, ?_⟩
              refine cm_X6_canGo (ky_X6_canGo (b := b) hU (fun q hq => hL q ((by decide : ∀ q ∈ kyL_X6_canGo, q ∈ kyL_X1_fitCode) q hq)) (fun z => z.elim) h) h (fun x67 x68 p71 h g69 g70 => ?_)
              have h := h g69 g70
              have K := k9_tr K p71.2
              refine ⟨?_, ?_⟩
              · intro c72
                have h := h.1 c72
                obtain ⟨b73, e74, h⟩ := h
                refine ⟨b73, e74, ?_⟩
                obtain ⟨c75, h⟩ := h
                refine ⟨c75, ?_⟩
                obtain ⟨c76, h⟩ := h
                refine ⟨c76, ?_⟩
                obtain ⟨b77, e78, h⟩ := h
                refine ⟨b77, e78, ?_⟩
                obtain ⟨b79, e80, h⟩ := h
                refine ⟨b79, e80, ?_⟩
                intro x82 e81
                have h := h x82 e81
                obtain ⟨c83, h⟩ := h
                refine ⟨c83, ?_⟩
                obtain ⟨c84, h⟩ := h
                refine ⟨c84, ?_⟩
                obtain ⟨b85, e86, h⟩ := h
                refine ⟨b85, e86, ?_⟩
                intro x88 e87
                have h := h x88 e87
                obtain ⟨b89, e90, h⟩ := h
                refine ⟨b89, e90, ?_⟩
                obtain ⟨c91, h⟩ := h
                refine ⟨c91, ?_⟩
                obtain ⟨c92, h⟩ := h
                refine ⟨c92, ?_⟩
                obtain ⟨b93, e94, h⟩ := h
                refine ⟨b93, e94, ?_⟩
                obtain ⟨c95, h⟩ := h
                refine ⟨c95, ?_⟩
                refine cm_X1_wetOf (ky_X1_wetOf (b := b) hU (fun q hq => hL q ((by decide : ∀ q ∈ kyL_X1_wetOf, q ∈ kyL_X1_fitCode) q hq)) (fun z => z.elim) h) h (fun x96 x97 p99 h g98 => ?_)
                have h := h g98
                have K := k9_tr K p99.2
                exact ky_X1_fitCode_141 hU hL hb h K
              · intro c100
                have h := h.2 c100
                exact ⟨h, K⟩
        · intro c101
          have h := h.2 c101
          exact ⟨h, K⟩
theorem ky_X1_fitCode {b : Bool} {L : List (Nat × Nat)} (hU : ∀ q ∈ L, q ∈ nyT) (hL : ∀ q ∈ kyL_X1_fitCode, q ∈ L) (hb : False → b = false) {Q : Int32 → HS → Prop} {v0 : Nat} {v1 : Nat} {v2 : Int32} {v3 : Int32} {S : HS} (h : P_X1_fitCode v0 v1 v2 v3 Q S) : P_X1_fitCode v0 v1 v2 v3 (fun r T => Q r T ∧ K9 b L S T) S := ky_X1_fitCode_0 hU hL hb h (k9_rf b L S)
abbrev kyL_X1_countFits : List (Nat × Nat) := [(1, 0), (1, 1)]
set_option maxRecDepth 20000 in
set_option maxHeartbeats 1000000 in
theorem ky_X1_countFits_29 {b : Bool} {L : List (Nat × Nat)} (hU : ∀ q ∈ L, q ∈ nyT) (hL : ∀ q ∈ kyL_X1_countFits, q ∈ L) (hb : False → b = false) {Q : Int32 → HS → Prop} {X5 X5_2 : Nat → Nat → Int32 → Int32 → Int32 → HS → Prop} {v0 : Nat} {v1 : Nat} {v2 : Int32} {v3 : Int32} {v4 : Int32} {S0 S : HS} (h : P_X1_countFits_29 Q X5 v0 v1 v2 v3 v4 S) (K : K9 b L S0 S) (hX5 : ∀ (u0 : Nat) (u1 : Nat) (u2 : Int32) (u3 : Int32) (u4 : Int32) (u5 : HS), X5 u0 u1 u2 u3 u4 u5 → K9 b L S0 u5 → X5_2 u0 u1 u2 u3 u4 u5) : P_X1_countFits_29 (fun r T => Q r T ∧ K9 b L S0 T) X5_2 v0 v1 v2 v3 v4 S := by
  delta P_X1_countFits_29 at h ⊢
  intro x2 e1
  have h := h x2 e1
  exact hX5 _ _ _ _ _ _ h K
set_option maxRecDepth 20000 in
set_option maxHeartbeats 1000000 in
theorem kyB_X1_countFits_5 {b : Bool} {L : List (Nat × Nat)} (hU : ∀ q ∈ L, q ∈ nyT) (hL : ∀ q ∈ kyL_X1_countFits, q ∈ L) (hb : False → b = false) {Q : Int32 → HS → Prop} {X5 X5_2 : Nat → Nat → Int32 → Int32 → Int32 → HS → Prop} {v0 : Nat} {v1 : Nat} {v2 : Int32} {v3 : Int32} {v4 : Int32} {S0 S : HS} (h : B_X1_countFits_5 Q X5 v0 v1 v2 v3 v4 S) (K : K9 b L S0 S) (hX5 : ∀ (u0 : Nat) (u1 : Nat) (u2 : Int32) (u3 : Int32) (u4 : Int32) (u5 : HS), X5 u0 u1 u2 u3 u4 u5 → K9 b L S0 u5 → X5_2 u0 u1 u2 u3 u4 u5) : B_X1_countFits_5 (fun r T => Q r T ∧ K9 b L S0 T) X5_2 v0 v1 v2 v3 v4 S := by
  delta B_X1_countFits_5 at h ⊢
  refine cm_X1_legsOf (ky_X1_legsOf (b := b) hU (fun q hq => hL q ((by decide : ∀ q ∈ kyL_X1_legsOf, q ∈ kyL_X1_countFits) q hq)) (fun z => z.elim) h) h (fun x1 x2 p4 h g3 => ?_)
  have h := h g3
  have K := k9_tr K p4.2
  refine ⟨?_, ?_⟩
  · intro c5
    have h := h.1 c5
    exact ⟨h, K⟩
  · intro c6
    have h := h.2 c6
    obtain ⟨c7, h⟩ := h
    refine ⟨c7, ?_⟩
    refine cm_X1_fitCode (ky_X1_fitCode (b := b) hU (fun q hq => hL q ((by decide : ∀ q ∈ kyL_X1_fitCode, q ∈ kyL_X1_countFits) q hq)) (fun z => z.elim) h) h (fun x8 x9 p11 h g10 => ?_)
    have h := h g10
    have K := k9_tr K p11.2
    refine ⟨?_, ?_⟩
    · intro c12
      have h := h.1 c12
      exact ky_X1_countFits_29 hU hL hb h K hX5
    · intro c13
      have h := h.2 c13
      intro x15 e14
      have h := h x15 e14
      exact ky_X1_countFits_29 hU hL hb h K hX5
theorem ky_X1_countFits_5 {b : Bool} {L : List (Nat × Nat)} (hU : ∀ q ∈ L, q ∈ nyT) (hL : ∀ q ∈ kyL_X1_countFits, q ∈ L) (hb : False → b = false) {Q : Int32 → HS → Prop} {v0 : Nat} {v1 : Nat} {v2 : Int32} {v3 : Int32} {v4 : Int32} {S0 S : HS} (h : P_X1_countFits_5 Q v0 v1 v2 v3 v4 S) (K : K9 b L S0 S) : P_X1_countFits_5 (fun r T => Q r T ∧ K9 b L S0 T) v0 v1 v2 v3 v4 S := h (fun v0 v1 v2 v3 v4 S => K9 b L S0 S → P_X1_countFits_5 (fun r T => Q r T ∧ K9 b L S0 T) v0 v1 v2 v3 v4 S) (fun v0 v1 v2 v3 v4 S hB K => fd_X1_countFits_5 (kyB_X1_countFits_5 hU hL hb hB K (fun _ _ _ _ _ _ hx K => hx K))) K
set_option maxRecDepth 20000 in
set_option maxHeartbeats 1000000 in
theorem ky_X1_countFits_0 {b : Bool} {L : List (Nat × Nat)} (hU : ∀ q ∈ L, q ∈ nyT) (hL : ∀ q ∈ kyL_X1_countFits, q ∈ L) (hb : False → b = false) {Q : Int32 → HS → Prop} {v0 : Nat} {v1 : Nat} {v2 : Int32} {S0 S : HS} (h : P_X1_countFits_0 Q v0 v1 v2 S) (K : K9 b L S0 S) : P_X1_countFits_0 (fun r T => Q r T ∧ K9 b L S0 T) v0 v1 v2 S := by
  delta P_X1_countFits_0 at h ⊢
  exact ky_X1_countFits_5 hU hL hb h K
theorem ky_X1_countFits {b : Bool} {L : List (Nat × Nat)} (hU : ∀ q ∈ L, q ∈ nyT) (hL : ∀ q ∈ kyL_X1_countFits, q ∈ L) (hb : False → b = false) {Q : Int32 → HS → Prop} {v0 : Nat} {v1 : Nat} {v2 : Int32} {S : HS} (h : P_X1_countFits v0 v1 v2 Q S) : P_X1_countFits v0 v1 v2 (fun r T => Q r T ∧ K9 b L S T) S := ky_X1_countFits_0 hU hL hb h (k9_rf b L S)
abbrev kyL_X1_findFit : List (Nat × Nat) := [(1, 0), (1, 1)]
set_option maxRecDepth 20000 in
set_option maxHeartbeats 1000000 in
theorem ky_X1_findFit_48 {b : Bool} {L : List (Nat × Nat)} (hU : ∀ q ∈ L, q ∈ nyT) (hL : ∀ q ∈ kyL_X1_findFit, q ∈ L) (hb : False → b = false) {Q : Int32 → HS → Prop} {X6 X6_2 : Nat → Nat → Int32 → Int32 → Int32 → HS → Prop} {v0 : Nat} {v1 : Nat} {v2 : Int32} {v4 : Int32} {v5 : Int32} {S0 S : HS} (h : P_X1_findFit_48 Q X6 v0 v1 v2 v4 v5 S) (K : K9 b L S0 S) (hX6 : ∀ (u0 : Nat) (u1 : Nat) (u2 : Int32) (u3 : Int32) (u4 : Int32) (u5 : HS), X6 u0 u1 u2 u3 u4 u5 → K9 b L S0 u5 → X6_2 u0 u1 u2 u3 u4 u5) : P_X1_findFit_48 (fun r T => Q r T ∧ K9 b L S0 T) X6_2 v0 v1 v2 v4 v5 S := by
  delta P_X1_findFit_48 at h ⊢
  intro x2 e1
  have h := h x2 e1
  exact hX6 _ _ _ _ _ _ h K
set_option maxRecDepth 20000 in
set_option maxHeartbeats 1000000 in
theorem ky_X1_findFit_39 {b : Bool} {L : List (Nat × Nat)} (hU : ∀ q ∈ L, q ∈ nyT) (hL : ∀ q ∈ kyL_X1_findFit, q ∈ L) (hb : False → b = false) {Q : Int32 → HS → Prop} {X6 X6_2 : Nat → Nat → Int32 → Int32 → Int32 → HS → Prop} {v0 : Nat} {v1 : Nat} {v2 : Int32} {v4 : Int32} {v5 : Int32} {v6 : Int32} {S0 S : HS} (h : P_X1_findFit_39 Q X6 v0 v1 v2 v4 v5 v6 S) (K : K9 b L S0 S) (hX6 : ∀ (u0 : Nat) (u1 : Nat) (u2 : Int32) (u3 : Int32) (u4 : Int32) (u5 : HS), X6 u0 u1 u2 u3 u4 u5 → K9 b L S0 u5 → X6_2 u0 u1 u2 u3 u4 u5) : P_X1_findFit_39 (fun r T => Q r T ∧ K9 b L S0 T) X6_2 v0 v1 v2 v4 v5 v6 S := by
  delta P_X1_findFit_39 at h ⊢
  refine ⟨?_, ?_⟩
  · intro c1
    have h := h.1 c1
    exact ky_X1_findFit_48 hU hL hb h K hX6
  · intro c2
    have h := h.2 c2
    intro x4 e3
    have h := h x4 e3
    exact ky_X1_findFit_48 hU hL hb h K hX6
set_option maxRecDepth 20000 in
set_option maxHeartbeats 1000000 in
theorem kyB_X1_findFit_6 {b : Bool} {L : List (Nat × Nat)} (hU : ∀ q ∈ L, q ∈ nyT) (hL : ∀ q ∈ kyL_X1_findFit, q ∈ L) (hb : False → b = false) {Q : Int32 → HS → Prop} {X6 X6_2 : Nat → Nat → Int32 → Int32 → Int32 → HS → Prop} {v0 : Nat} {v1 : Nat} {v2 : Int32} {v4 : Int32} {v5 : Int32} {S0 S : HS} (h : B_X1_findFit_6 Q X6 v0 v1 v2 v4 v5 S) (K : K9 b L S0 S) (hX6 : ∀ (u0 : Nat) (u1 : Nat) (u2 : Int32) (u3 : Int32) (u4 : Int32) (u5 : HS), X6 u0 u1 u2 u3 u4 u5 → K9 b L S0 u5 → X6_2 u0 u1 u2 u3 u4 u5) : B_X1_findFit_6 (fun r T => Q r T ∧ K9 b L S0 T) X6_2 v0 v1 v2 v4 v5 S := by
  delta B_X1_findFit_6 at h ⊢
  refine cm_X1_legsOf (ky_X1_legsOf (b := b) hU (fun q hq => hL q ((by decide : ∀ q ∈ kyL_X1_legsOf, q ∈ kyL_X1_findFit) q hq)) (fun z => z.elim) h) h (fun x1 x2 p4 h g3 => ?_)
  have h := h g3
  have K := k9_tr K p4.2
  refine ⟨?_, ?_⟩
  · intro c5
    have h := h.1 c5
    exact ⟨h, K⟩
  · intro c6
    have h := h.2 c6
    obtain ⟨c7, h⟩ := h
    refine ⟨c7, ?_⟩
    refine cm_X1_fitCode (ky_X1_fitCode (b := b) hU (fun q hq => hL q ((by decide : ∀ q ∈ kyL_X1_fitCode, q ∈ kyL_X1_findFit) q hq)) (fun z => z.elim) h) h (fun x8 x9 p11 h g10 => ?_)
    have h := h g10
    have K := k9_tr K p11.2
    refine ⟨?_, ?_⟩
    · intro c12
      have h := h.1 c12
      exact ky_X1_findFit_39 hU hL hb h K hX6
    · intro c13
      have h := h.2 c13
      refine ⟨?_, ?_⟩
      · intro c14
        have h := h.1 c14
        exact ky_X1_findFit_39 hU hL hb h K hX6
      · intro c15
        have h := h.2 c15
        exact ⟨h, K⟩
theorem ky_X1_findFit_6 {b : Bool} {L : List (Nat × Nat)} (hU : ∀ q ∈ L, q ∈ nyT) (hL : ∀ q ∈ kyL_X1_findFit, q ∈ L) (hb : False → b = false) {Q : Int32 → HS → Prop} {v0 : Nat} {v1 : Nat} {v2 : Int32} {v4 : Int32} {v5 : Int32} {S0 S : HS} (h : P_X1_findFit_6 Q v0 v1 v2 v4 v5 S) (K : K9 b L S0 S) : P_X1_findFit_6 (fun r T => Q r T ∧ K9 b L S0 T) v0 v1 v2 v4 v5 S := h (fun v0 v1 v2 v4 v5 S => K9 b L S0 S → P_X1_findFit_6 (fun r T => Q r T ∧ K9 b L S0 T) v0 v1 v2 v4 v5 S) (fun v0 v1 v2 v4 v5 S hB K => fd_X1_findFit_6 (kyB_X1_findFit_6 hU hL hb hB K (fun _ _ _ _ _ _ hx K => hx K))) K
set_option maxRecDepth 20000 in
set_option maxHeartbeats 1000000 in
theorem ky_X1_findFit_0 {b : Bool} {L : List (Nat × Nat)} (hU : ∀ q ∈ L, q ∈ nyT) (hL : ∀ q ∈ kyL_X1_findFit, q ∈ L) (hb : False → b = false) {Q : Int32 → HS → Prop} {v0 : Nat} {v1 : Nat} {v2 : Int32} {v3 : Int32} {S0 S : HS} (h : P_X1_findFit_0 Q v0 v1 v2 v3 S) (K : K9 b L S0 S) : P_X1_findFit_0 (fun r T => Q r T ∧ K9 b L S0 T) v0 v1 v2 v3 S := by
  delta P_X1_findFit_0 at h ⊢
  exact ky_X1_findFit_6 hU hL hb h K
theorem ky_X1_findFit {b : Bool} {L : List (Nat × Nat)} (hU : ∀ q ∈ L, q ∈ nyT) (hL : ∀ q ∈ kyL_X1_findFit, q ∈ L) (hb : False → b = false) {Q : Int32 → HS → Prop} {v0 : Nat} {v1 : Nat} {v2 : Int32} {v3 : Int32} {S : HS} (h : P_X1_findFit v0 v1 v2 v3 Q S) : P_X1_findFit v0 v1 v2 v3 (fun r T => Q r T ∧ K9 b L S T) S := ky_X1_findFit_0 hU hL hb h (k9_rf b L S)
abbrev kyL_X1_leastWet : List (Nat × Nat) := [(1, 0), (1, 1)]
set_option maxRecDepth 20000 in
set_option maxHeartbeats 1000000 in
theorem ky_X1_leastWet_0 {b : Bool} {L : List (Nat × Nat)} (hU : ∀ q ∈ L, q ∈ nyT) (hL : ∀ q ∈ kyL_X1_leastWet, q ∈ L) (hb : False → b = false) {Q : Int64 → HS → Prop} {v0 : Nat} {v1 : Nat} {v2 : Nat} {v3 : Int32} {v4 : Nat} {S0 S : HS} (h : P_X1_leastWet_0 Q v0 v1 v2 v3 v4 S) (K : K9 b L S0 S) : P_X1_leastWet_0 (fun r T => Q r T ∧ K9 b L S0 T) v0 v1 v2 v3 v4 S := by
  delta P_X1_leastWet_0 at h ⊢
  obtain ⟨c1, h⟩ := h
  refine ⟨c1, ?_⟩
  refine cm_X1_bestSpeed (ky_X1_bestSpeed (b := b) hU (fun q hq => hL q ((by decide : ∀ q ∈ kyL_X1_bestSpeed, q ∈ kyL_X1_leastWet) q hq)) (fun z => z.elim) h) h (fun x2 x3 p5 h g4 => ?_)
  have h := h g4
  have K := k9_tr K p5.2
  refine cm_X1_wetOf (ky_X1_wetOf (b := b) hU (fun q hq => hL q ((by decide : ∀ q ∈ kyL_X1_wetOf, q ∈ kyL_X1_leastWet) q hq)) (fun z => z.elim) h) h (fun x6 x7 p9 h g8 => ?_)
  have h := h g8
  have K := k9_tr K p9.2
  exact ⟨h, K⟩
theorem ky_X1_leastWet {b : Bool} {L : List (Nat × Nat)} (hU : ∀ q ∈ L, q ∈ nyT) (hL : ∀ q ∈ kyL_X1_leastWet, q ∈ L) (hb : False → b = false) {Q : Int64 → HS → Prop} {v0 : Nat} {v1 : Nat} {v2 : Nat} {v3 : Int32} {v4 : Nat} {S : HS} (h : P_X1_leastWet v0 v1 v2 v3 v4 Q S) : P_X1_leastWet v0 v1 v2 v3 v4 (fun r T => Q r T ∧ K9 b L S T) S := ky_X1_leastWet_0 hU hL hb h (k9_rf b L S)
abbrev kyL_X1_wetInLee : List (Nat × Nat) := [(1, 0)]
set_option maxRecDepth 20000 in
set_option maxHeartbeats 1000000 in
theorem ky_X1_wetInLee_0 {b : Bool} {L : List (Nat × Nat)} (hU : ∀ q ∈ L, q ∈ nyT) (hL : ∀ q ∈ kyL_X1_wetInLee, q ∈ L) (hb : False → b = false) {Q : Int64 → HS → Prop} {v0 : Nat} {v1 : Nat} {v2 : Nat} {S0 S : HS} (h : P_X1_wetInLee_0 Q v0 v1 v2 S) (K : K9 b L S0 S) : P_X1_wetInLee_0 (fun r T => Q r T ∧ K9 b L S0 T) v0 v1 v2 S := by
  delta P_X1_wetInLee_0 at h ⊢
  obtain ⟨c1, h⟩ := h
  refine ⟨c1, ?_⟩
  intro x3 e2
  have h := h x3 e2
  obtain ⟨c4, h⟩ := h
  refine ⟨c4, ?_⟩
  refine cm_X1_soak (ky_X1_soak (b := b) hU (fun q hq => hL q ((by decide : ∀ q ∈ kyL_X1_soak, q ∈ kyL_X1_wetInLee) q hq)) (fun z => z.elim) h) h (fun x5 x6 p8 h g7 => ?_)
  have h := h g7
  have K := k9_tr K p8.2
  obtain ⟨c9, h⟩ := h
  refine ⟨c9, ?_⟩
  intro x11 e10
  have h := h x11 e10
  refine cm_X1_soak (ky_X1_soak (b := b) hU (fun q hq => hL q ((by decide : ∀ q ∈ kyL_X1_soak, q ∈ kyL_X1_wetInLee) q hq)) (fun z => z.elim) h) h (fun x12 x13 p15 h g14 => ?_)
  have h := h g14
  have K := k9_tr K p15.2
  exact ⟨h, K⟩
theorem ky_X1_wetInLee {b : Bool} {L : List (Nat × Nat)} (hU : ∀ q ∈ L, q ∈ nyT) (hL : ∀ q ∈ kyL_X1_wetInLee, q ∈ L) (hb : False → b = false) {Q : Int64 → HS → Prop} {v0 : Nat} {v1 : Nat} {v2 : Nat} {S : HS} (h : P_X1_wetInLee v0 v1 v2 Q S) : P_X1_wetInLee v0 v1 v2 (fun r T => Q r T ∧ K9 b L S T) S := ky_X1_wetInLee_0 hU hL hb h (k9_rf b L S)
abbrev kyL_X1_worstSpeed : List (Nat × Nat) := [(1, 0), (1, 1)]
set_option maxRecDepth 20000 in
set_option maxHeartbeats 1000000 in
theorem ky_X1_worstSpeed_55 {b : Bool} {L : List (Nat × Nat)} (hU : ∀ q ∈ L, q ∈ nyT) (hL : ∀ q ∈ kyL_X1_worstSpeed, q ∈ L) (hb : False → b = false) {Q : Int32 → HS → Prop} {X17 X17_2 : Nat → Nat → Nat → Int32 → Nat → Int32 → Int64 → Int32 → HS → Prop} {v0 : Nat} {v1 : Nat} {v2 : Nat} {v3 : Int32} {v4 : Nat} {v5 : Int32} {v6 : Int64} {v8 : Int32} {S0 S : HS} (h : P_X1_worstSpeed_55 Q X17 v0 v1 v2 v3 v4 v5 v6 v8 S) (K : K9 b L S0 S) (hX17 : ∀ (u0 : Nat) (u1 : Nat) (u2 : Nat) (u3 : Int32) (u4 : Nat) (u5 : Int32) (u6 : Int64) (u7 : Int32) (u8 : HS), X17 u0 u1 u2 u3 u4 u5 u6 u7 u8 → K9 b L S0 u8 → X17_2 u0 u1 u2 u3 u4 u5 u6 u7 u8) : P_X1_worstSpeed_55 (fun r T => Q r T ∧ K9 b L S0 T) X17_2 v0 v1 v2 v3 v4 v5 v6 v8 S := by
  delta P_X1_worstSpeed_55 at h ⊢
  intro x2 e1
  have h := h x2 e1
  exact hX17 _ _ _ _ _ _ _ _ _ h K
set_option maxRecDepth 20000 in
set_option maxHeartbeats 1000000 in
theorem kyB_X1_worstSpeed_17 {b : Bool} {L : List (Nat × Nat)} (hU : ∀ q ∈ L, q ∈ nyT) (hL : ∀ q ∈ kyL_X1_worstSpeed, q ∈ L) (hb : False → b = false) {Q : Int32 → HS → Prop} {X17 X17_2 : Nat → Nat → Nat → Int32 → Nat → Int32 → Int64 → Int32 → HS → Prop} {v0 : Nat} {v1 : Nat} {v2 : Nat} {v3 : Int32} {v4 : Nat} {v5 : Int32} {v6 : Int64} {v8 : Int32} {S0 S : HS} (h : B_X1_worstSpeed_17 Q X17 v0 v1 v2 v3 v4 v5 v6 v8 S) (K : K9 b L S0 S) (hX17 : ∀ (u0 : Nat) (u1 : Nat) (u2 : Nat) (u3 : Int32) (u4 : Nat) (u5 : Int32) (u6 : Int64) (u7 : Int32) (u8 : HS), X17 u0 u1 u2 u3 u4 u5 u6 u7 u8 → K9 b L S0 u8 → X17_2 u0 u1 u2 u3 u4 u5 u6 u7 u8) : B_X1_worstSpeed_17 (fun r T => Q r T ∧ K9 b L S0 T) X17_2 v0 v1 v2 v3 v4 v5 v6 v8 S := by
  delta B_X1_worstSpeed_17 at h ⊢
  obtain ⟨c1, h⟩ := h
  refine ⟨c1, ?_⟩
  intro x3 e2
  have h := h x3 e2
  refine ⟨?_, ?_⟩
  · intro c4
    have h := h.1 c4
    exact ⟨h, K⟩
  · intro c5
    have h := h.2 c5
    obtain ⟨c6, h⟩ := h
    refine ⟨c6, ?_⟩
    refine cm_X1_wetOf (ky_X1_wetOf (b := b) hU (fun q hq => hL q ((by decide : ∀ q ∈ kyL_X1_wetOf, q ∈ kyL_X1_worstSpeed) q hq)) (fun z => z.elim) h) h (fun x7 x8 p10 h g9 => ?_)
    have h := h g9
    have K := k9_tr K p10.2
    refine ⟨?_, ?_⟩
    · intro c11
      have h := h.1 c11
      exact ky_X1_worstSpeed_55 hU hL hb h K hX17
    · intro c12
      have h := h.2 c12
      exact ky_X1_worstSpeed_55 hU hL hb h K hX17
theorem ky_X1_worstSpeed_17 {b : Bool} {L : List (Nat × Nat)} (hU : ∀ q ∈ L, q ∈ nyT) (hL : ∀ q ∈ kyL_X1_worstSpeed, q ∈ L) (hb : False → b = false) {Q : Int32 → HS → Prop} {v0 : Nat} {v1 : Nat} {v2 : Nat} {v3 : Int32} {v4 : Nat} {v5 : Int32} {v6 : Int64} {v8 : Int32} {S0 S : HS} (h : P_X1_worstSpeed_17 Q v0 v1 v2 v3 v4 v5 v6 v8 S) (K : K9 b L S0 S) : P_X1_worstSpeed_17 (fun r T => Q r T ∧ K9 b L S0 T) v0 v1 v2 v3 v4 v5 v6 v8 S := h (fun v0 v1 v2 v3 v4 v5 v6 v8 S => K9 b L S0 S → P_X1_worstSpeed_17 (fun r T => Q r T ∧ K9 b L S0 T) v0 v1 v2 v3 v4 v5 v6 v8 S) (fun v0 v1 v2 v3 v4 v5 v6 v8 S hB K => fd_X1_worstSpeed_17 (kyB_X1_worstSpeed_17 hU hL hb hB K (fun _ _ _ _ _ _ _ _ _ hx K => hx K))) K
set_option maxRecDepth 20000 in
set_option maxHeartbeats 1000000 in
theorem ky_X1_worstSpeed_0 {b : Bool} {L : List (Nat × Nat)} (hU : ∀ q ∈ L, q ∈ nyT) (hL : ∀ q ∈ kyL_X1_worstSpeed, q ∈ L) (hb : False → b = false) {Q : Int32 → HS → Prop} {v0 : Nat} {v1 : Nat} {v2 : Nat} {v3 : Int32} {v4 : Nat} {S0 S : HS} (h : P_X1_worstSpeed_0 Q v0 v1 v2 v3 v4 S) (K : K9 b L S0 S) : P_X1_worstSpeed_0 (fun r T => Q r T ∧ K9 b L S0 T) v0 v1 v2 v3 v4 S := by
  delta P_X1_worstSpeed_0 at h ⊢
  obtain ⟨c1, h⟩ := h
  refine ⟨c1, ?_⟩
  intro x3 e2
  have h := h x3 e2
  intro x5 e4
  have h := h x5 e4
  exact ky_X1_worstSpeed_17 hU hL hb h K
theorem ky_X1_worstSpeed {b : Bool} {L : List (Nat × Nat)} (hU : ∀ q ∈ L, q ∈ nyT) (hL : ∀ q ∈ kyL_X1_worstSpeed, q ∈ L) (hb : False → b = false) {Q : Int32 → HS → Prop} {v0 : Nat} {v1 : Nat} {v2 : Nat} {v3 : Int32} {v4 : Nat} {S : HS} (h : P_X1_worstSpeed v0 v1 v2 v3 v4 Q S) : P_X1_worstSpeed v0 v1 v2 v3 v4 (fun r T => Q r T ∧ K9 b L S T) S := ky_X1_worstSpeed_0 hU hL hb h (k9_rf b L S)
abbrev kyL_X2_addFaces : List (Nat × Nat) := [(2, 2)]
set_option maxRecDepth 20000 in
set_option maxHeartbeats 1000000 in
theorem kyB_X2_addFaces_2 {b : Bool} {L : List (Nat × Nat)} (hU : ∀ q ∈ L, q ∈ nyT) (hL : ∀ q ∈ kyL_X2_addFaces, q ∈ L) (hb : False → b = false) {Q : HS → Prop} {X2 X2_2 : Nat → Nat → Int32 → HS → Prop} {v0 : Nat} {v1 : Nat} {v2 : Int32} {S0 S : HS} (h : B_X2_addFaces_2 Q X2 v0 v1 v2 S) (K : K9 b L S0 S) (hX2 : ∀ (u0 : Nat) (u1 : Nat) (u2 : Int32) (u3 : HS), X2 u0 u1 u2 u3 → K9 b L S0 u3 → X2_2 u0 u1 u2 u3) : B_X2_addFaces_2 (fun T => Q T ∧ K9 b L S0 T) X2_2 v0 v1 v2 S := by
  delta B_X2_addFaces_2 at h ⊢
  refine ⟨?_, ?_⟩
  · intro c1
    have h := h.1 c1
    exact ⟨h, K⟩
  · intro c2
    have h := h.2 c2
    obtain ⟨c3, h⟩ := h
    refine ⟨c3, ?_⟩
    refine ⟨?_, ?_⟩
    · intro c4
      have h := h.1 c4
      exact ⟨h, K⟩
    · intro c5
      have h := h.2 c5
      obtain ⟨c6, h⟩ := h
      refine ⟨c6, ?_⟩
      have o7 := c6
      obtain ⟨b8, e9, h⟩ := h
      refine ⟨b8, e9, ?_⟩
      have n10 := k9_nr K e9 o7 (hL _ (by decide))
      obtain ⟨c11, h⟩ := h
      refine ⟨c11, ?_⟩
      obtain ⟨c12, h⟩ := h
      refine ⟨c12, ?_⟩
      intro x14 e13
      have h := h x14 e13
      obtain ⟨c15, h⟩ := h
      refine ⟨c15, ?_⟩
      intro x17 e16
      have h := h x17 e16
      intro x19 e18
      have h := h x19 e18
      obtain ⟨c20, h⟩ := h
      refine ⟨c20, ?_⟩
      intro x22 e21
      have h := h x22 e21
      have K := k9_J K e21 n10
      have o7 := ob_wJ o7 e21
      intro x24 e23
      have h := h x24 e23
      exact hX2 _ _ _ _ h K
theorem ky_X2_addFaces_2 {b : Bool} {L : List (Nat × Nat)} (hU : ∀ q ∈ L, q ∈ nyT) (hL : ∀ q ∈ kyL_X2_addFaces, q ∈ L) (hb : False → b = false) {Q : HS → Prop} {v0 : Nat} {v1 : Nat} {v2 : Int32} {S0 S : HS} (h : P_X2_addFaces_2 Q v0 v1 v2 S) (K : K9 b L S0 S) : P_X2_addFaces_2 (fun T => Q T ∧ K9 b L S0 T) v0 v1 v2 S := h (fun v0 v1 v2 S => K9 b L S0 S → P_X2_addFaces_2 (fun T => Q T ∧ K9 b L S0 T) v0 v1 v2 S) (fun v0 v1 v2 S hB K => fd_X2_addFaces_2 (kyB_X2_addFaces_2 hU hL hb hB K (fun _ _ _ _ hx K => hx K))) K
set_option maxRecDepth 20000 in
set_option maxHeartbeats 1000000 in
theorem ky_X2_addFaces_0 {b : Bool} {L : List (Nat × Nat)} (hU : ∀ q ∈ L, q ∈ nyT) (hL : ∀ q ∈ kyL_X2_addFaces, q ∈ L) (hb : False → b = false) {Q : HS → Prop} {v0 : Nat} {v1 : Nat} {S0 S : HS} (h : P_X2_addFaces_0 Q v0 v1 S) (K : K9 b L S0 S) : P_X2_addFaces_0 (fun T => Q T ∧ K9 b L S0 T) v0 v1 S := by
  delta P_X2_addFaces_0 at h ⊢
  exact ky_X2_addFaces_2 hU hL hb h K
theorem ky_X2_addFaces {b : Bool} {L : List (Nat × Nat)} (hU : ∀ q ∈ L, q ∈ nyT) (hL : ∀ q ∈ kyL_X2_addFaces, q ∈ L) (hb : False → b = false) {Q : HS → Prop} {v0 : Nat} {v1 : Nat} {S : HS} (h : P_X2_addFaces v0 v1 Q S) : P_X2_addFaces v0 v1 (fun T => Q T ∧ K9 b L S T) S := ky_X2_addFaces_0 hU hL hb h (k9_rf b L S)
abbrev kyL_X2_allGot : List (Nat × Nat) := []
set_option maxRecDepth 20000 in
set_option maxHeartbeats 1000000 in
theorem kyB_X2_allGot_4 {b : Bool} {L : List (Nat × Nat)} (hU : ∀ q ∈ L, q ∈ nyT) (hL : ∀ q ∈ kyL_X2_allGot, q ∈ L) (hb : False → b = false) {Q : Int64 → HS → Prop} {X4 X4_2 : Nat → Int64 → Int32 → HS → Prop} {v0 : Nat} {v1 : Int64} {v3 : Int32} {S0 S : HS} (h : B_X2_allGot_4 Q X4 v0 v1 v3 S) (K : K9 b L S0 S) (hX4 : ∀ (u0 : Nat) (u1 : Int64) (u2 : Int32) (u3 : HS), X4 u0 u1 u2 u3 → K9 b L S0 u3 → X4_2 u0 u1 u2 u3) : B_X2_allGot_4 (fun r T => Q r T ∧ K9 b L S0 T) X4_2 v0 v1 v3 S := by
  delta B_X2_allGot_4 at h ⊢
  refine ⟨?_, ?_⟩
  · intro c1
    have h := h.1 c1
    exact ⟨h, K⟩
  · intro c2
    have h := h.2 c2
    obtain ⟨c3, h⟩ := h
    refine ⟨c3, ?_⟩
    have o4 := c3
    obtain ⟨b5, e6, h⟩ := h
    refine ⟨b5, e6, ?_⟩
    obtain ⟨c7, h⟩ := h
    refine ⟨c7, ?_⟩
    obtain ⟨c8, h⟩ := h
    refine ⟨c8, ?_⟩
    intro x10 e9
    have h := h x10 e9
    intro x12 e11
    have h := h x12 e11
    intro x14 e13
    have h := h x14 e13
    exact hX4 _ _ _ _ h K
theorem ky_X2_allGot_4 {b : Bool} {L : List (Nat × Nat)} (hU : ∀ q ∈ L, q ∈ nyT) (hL : ∀ q ∈ kyL_X2_allGot, q ∈ L) (hb : False → b = false) {Q : Int64 → HS → Prop} {v0 : Nat} {v1 : Int64} {v3 : Int32} {S0 S : HS} (h : P_X2_allGot_4 Q v0 v1 v3 S) (K : K9 b L S0 S) : P_X2_allGot_4 (fun r T => Q r T ∧ K9 b L S0 T) v0 v1 v3 S := h (fun v0 v1 v3 S => K9 b L S0 S → P_X2_allGot_4 (fun r T => Q r T ∧ K9 b L S0 T) v0 v1 v3 S) (fun v0 v1 v3 S hB K => fd_X2_allGot_4 (kyB_X2_allGot_4 hU hL hb hB K (fun _ _ _ _ hx K => hx K))) K
set_option maxRecDepth 20000 in
set_option maxHeartbeats 1000000 in
theorem ky_X2_allGot_0 {b : Bool} {L : List (Nat × Nat)} (hU : ∀ q ∈ L, q ∈ nyT) (hL : ∀ q ∈ kyL_X2_allGot, q ∈ L) (hb : False → b = false) {Q : Int64 → HS → Prop} {v0 : Nat} {S0 S : HS} (h : P_X2_allGot_0 Q v0 S) (K : K9 b L S0 S) : P_X2_allGot_0 (fun r T => Q r T ∧ K9 b L S0 T) v0 S := by
  delta P_X2_allGot_0 at h ⊢
  exact ky_X2_allGot_4 hU hL hb h K
theorem ky_X2_allGot {b : Bool} {L : List (Nat × Nat)} (hU : ∀ q ∈ L, q ∈ nyT) (hL : ∀ q ∈ kyL_X2_allGot, q ∈ L) (hb : False → b = false) {Q : Int64 → HS → Prop} {v0 : Nat} {S : HS} (h : P_X2_allGot v0 Q S) : P_X2_allGot v0 (fun r T => Q r T ∧ K9 b L S T) S := ky_X2_allGot_0 hU hL hb h (k9_rf b L S)
abbrev kyL_X4_fail : List (Nat × Nat) := []
set_option maxRecDepth 20000 in
set_option maxHeartbeats 1000000 in
theorem ky_X4_fail_0 {b : Bool} {L : List (Nat × Nat)} (hU : ∀ q ∈ L, q ∈ nyT) (hL : ∀ q ∈ kyL_X4_fail, q ∈ L) (hb : False → b = false) {Q : Int32 → HS → Prop} {v0 : Nat} {v1 : Int32} {S0 S : HS} (h : P_X4_fail_0 Q v0 v1 S) (K : K9 b L S0 S) : P_X4_fail_0 (fun r T => Q r T ∧ K9 b L S0 T) v0 v1 S := by
  delta P_X4_fail_0 at h ⊢
  obtain ⟨c1, h⟩ := h
  refine ⟨c1, ?_⟩
  intro x3 e2
  have h := h x3 e2
  have K := k9_I K e2
  intro x5 e4
  have h := h x5 e4
  intro x7 e6
  have h := h x7 e6
  have K := k9_I K e6
  exact ⟨h, K⟩
theorem ky_X4_fail {b : Bool} {L : List (Nat × Nat)} (hU : ∀ q ∈ L, q ∈ nyT) (hL : ∀ q ∈ kyL_X4_fail, q ∈ L) (hb : False → b = false) {Q : Int32 → HS → Prop} {v0 : Nat} {v1 : Int32} {S : HS} (h : P_X4_fail v0 v1 Q S) : P_X4_fail v0 v1 (fun r T => Q r T ∧ K9 b L S T) S := ky_X4_fail_0 hU hL hb h (k9_rf b L S)
abbrev kyL_X4_sortAt : List (Nat × Nat) := []
set_option maxRecDepth 20000 in
set_option maxHeartbeats 1000000 in
theorem ky_X4_sortAt_58 {b : Bool} {L : List (Nat × Nat)} (hU : ∀ q ∈ L, q ∈ nyT) (hL : ∀ q ∈ kyL_X4_sortAt, q ∈ L) (hb : False → b = false) {Q : Int32 → HS → Prop} {v2 : Int32} {S0 S : HS} (h : P_X4_sortAt_58 Q v2 S) (K : K9 b L S0 S) : P_X4_sortAt_58 (fun r T => Q r T ∧ K9 b L S0 T) v2 S := by
  delta P_X4_sortAt_58 at h ⊢
  refine ⟨?_, ?_, ?_, ?_⟩
  · intro c1
    have h := h.1 c1
    exact ⟨h, K⟩
  · intro c2
    have h := h.2.1 c2
    exact ⟨h, K⟩
  · intro c3
    have h := h.2.2.1 c3
    exact ⟨h, K⟩
  · intro c4
    have h := h.2.2.2 c4
    exact ⟨h, K⟩
set_option maxRecDepth 20000 in
set_option maxHeartbeats 1000000 in
theorem ky_X4_sortAt_44 {b : Bool} {L : List (Nat × Nat)} (hU : ∀ q ∈ L, q ∈ nyT) (hL : ∀ q ∈ kyL_X4_sortAt, q ∈ L) (hb : False → b = false) {Q : Int32 → HS → Prop} {v2 : Int32} {S0 S : HS} (h : P_X4_sortAt_44 Q v2 S) (K : K9 b L S0 S) : P_X4_sortAt_44 (fun r T => Q r T ∧ K9 b L S0 T) v2 S := by
  delta P_X4_sortAt_44 at h ⊢
  refine ⟨?_, ?_⟩
  · intro c1
    have h := h.1 c1
    exact ky_X4_sortAt_58 hU hL hb h K
  · intro c2
    have h := h.2 c2
    refine ⟨?_, ?_⟩
    · intro c3
      have h := h.1 c3
      exact ky_X4_sortAt_58 hU hL hb h K
    · intro c4
      have h := h.2 c4
      exact ⟨h, K⟩
set_option maxRecDepth 20000 in
set_option maxHeartbeats 1000000 in
theorem ky_X4_sortAt_0 {b : Bool} {L : List (Nat × Nat)} (hU : ∀ q ∈ L, q ∈ nyT) (hL : ∀ q ∈ kyL_X4_sortAt, q ∈ L) (hb : False → b = false) {Q : Int32 → HS → Prop} {v0 : Nat} {v1 : Int32} {S0 S : HS} (h : P_X4_sortAt_0 Q v0 v1 S) (K : K9 b L S0 S) : P_X4_sortAt_0 (fun r T => Q r T ∧ K9 b L S0 T) v0 v1 S := by
  delta P_X4_sortAt_0 at h ⊢
  refine ⟨?_, ?_⟩
  · intro c1
    have h := h.1 c1
    exact ⟨h, K⟩
  · intro c2
    have h := h.2 c2
    obtain ⟨c3, h⟩ := h
    refine ⟨c3, ?_⟩
    have o4 := c3
    intro x6 e5
    have h := h x6 e5
    refine ⟨?_, ?_⟩
    · intro c7
      have h := h.1 c7
      exact ⟨h, K⟩
    · intro c8
      have h := h.2 c8
      obtain ⟨b9, e10, h⟩ := h
      refine ⟨b9, e10, ?_⟩
      obtain ⟨c11, h⟩ := h
      refine ⟨c11, ?_⟩
      refine ⟨?_, ?_⟩
      · intro c12
        have h := h.1 c12
        obtain ⟨b13, e14, h⟩ := h
        refine ⟨b13, e14, ?_⟩
        obtain ⟨c15, h⟩ := h
        refine ⟨c15, ?_⟩
        obtain ⟨c16, h⟩ := h
        refine ⟨c16, ?_⟩
        intro x18 e17
        have h := h x18 e17
        refine ⟨?_, ?_⟩
        · intro c19
          have h := h.1 c19
          exact ky_X4_sortAt_44 hU hL hb h K
        · intro c20
          have h := h.2 c20
          refine ⟨?_, ?_⟩
          · intro c21
            have h := h.1 c21
            exact ky_X4_sortAt_44 hU hL hb h K
          · intro c22
            have h := h.2 c22
            exact ⟨h, K⟩
      · intro c23
        have h := h.2 c23
        exact ⟨h, K⟩
theorem ky_X4_sortAt {b : Bool} {L : List (Nat × Nat)} (hU : ∀ q ∈ L, q ∈ nyT) (hL : ∀ q ∈ kyL_X4_sortAt, q ∈ L) (hb : False → b = false) {Q : Int32 → HS → Prop} {v0 : Nat} {v1 : Int32} {S : HS} (h : P_X4_sortAt v0 v1 Q S) : P_X4_sortAt v0 v1 (fun r T => Q r T ∧ K9 b L S T) S := ky_X4_sortAt_0 hU hL hb h (k9_rf b L S)
abbrev kyL_X4_next : List (Nat × Nat) := []
set_option maxRecDepth 20000 in
set_option maxHeartbeats 1000000 in
theorem ky_X4_next_201 {b : Bool} {L : List (Nat × Nat)} (hU : ∀ q ∈ L, q ∈ nyT) (hL : ∀ q ∈ kyL_X4_next, q ∈ L) (hb : False → b = false) {Q : HS → Prop} {X118 X118_2 : Nat → Int32 → Int32 → Int32 → Int32 → HS → Prop} {v0 : Nat} {v1 : Int32} {v2 : Int32} {v3 : Int32} {v4 : Int32} {S0 S : HS} (h : P_X4_next_201 Q X118 v0 v1 v2 v3 v4 S) (K : K9 b L S0 S) (hX118 : ∀ (u0 : Nat) (u1 : Int32) (u2 : Int32) (u3 : Int32) (u4 : Int32) (u5 : HS), X118 u0 u1 u2 u3 u4 u5 → K9 b L S0 u5 → X118_2 u0 u1 u2 u3 u4 u5) : P_X4_next_201 (fun T => Q T ∧ K9 b L S0 T) X118_2 v0 v1 v2 v3 v4 S := by
  delta P_X4_next_201 at h ⊢
  obtain ⟨c1, h⟩ := h
  refine ⟨c1, ?_⟩
  intro x3 e2
  have h := h x3 e2
  intro x5 e4
  have h := h x5 e4
  intro x7 e6
  have h := h x7 e6
  have K := k9_I K e6
  intro x9 e8
  have h := h x9 e8
  exact hX118 _ _ _ _ _ _ h K
set_option maxRecDepth 20000 in
set_option maxHeartbeats 1000000 in
theorem ky_X4_next_195 {b : Bool} {L : List (Nat × Nat)} (hU : ∀ q ∈ L, q ∈ nyT) (hL : ∀ q ∈ kyL_X4_next, q ∈ L) (hb : False → b = false) {Q : HS → Prop} {X118 X118_2 : Nat → Int32 → Int32 → Int32 → Int32 → HS → Prop} {v0 : Nat} {v1 : Int32} {v2 : Int32} {v3 : Int32} {v4 : Int32} {s0 : Nat} {s1 : Int64} {s2 : Int32} {s3 : Int32} {S0 S : HS} (h : P_X4_next_195 Q X118 v0 v1 v2 v3 v4 s0 s1 s2 s3 S) (K : K9 b L S0 S) (hX118 : ∀ (u0 : Nat) (u1 : Int32) (u2 : Int32) (u3 : Int32) (u4 : Int32) (u5 : HS), X118 u0 u1 u2 u3 u4 u5 → K9 b L S0 u5 → X118_2 u0 u1 u2 u3 u4 u5) : P_X4_next_195 (fun T => Q T ∧ K9 b L S0 T) X118_2 v0 v1 v2 v3 v4 s0 s1 s2 s3 S := by
  delta P_X4_next_195 at h ⊢
  obtain ⟨c1, h⟩ := h
  refine ⟨c1, ?_⟩
  have n2 := k9_nk K c1 (by decide)
  intro x4 e3
  have h := h x4 e3
  intro x6 e5
  have h := h x6 e5
  have K := k9_J K e5 n2
  exact ky_X4_next_201 hU hL hb h K hX118
set_option maxRecDepth 20000 in
set_option maxHeartbeats 1000000 in
theorem ky_X4_next_240 {b : Bool} {L : List (Nat × Nat)} (hU : ∀ q ∈ L, q ∈ nyT) (hL : ∀ q ∈ kyL_X4_next, q ∈ L) (hb : False → b = false) {Q : HS → Prop} {v0 : Nat} {v1 : Int32} {S0 S : HS} (h : P_X4_next_240 Q v0 v1 S) (K : K9 b L S0 S) : P_X4_next_240 (fun T => Q T ∧ K9 b L S0 T) v0 v1 S := by
  delta P_X4_next_240 at h ⊢
  refine ⟨?_, ?_⟩
  · intro c1
    have h := h.1 c1
    exact ⟨h, K⟩
  · intro c2
    have h := h.2 c2
    obtain ⟨c3, h⟩ := h
    refine ⟨c3, ?_⟩
    intro x5 e4
    have h := h x5 e4
    refine ⟨?_, ?_⟩
    · intro c6
      have h := h.1 c6
      exact ⟨h, K⟩
    · intro c7
      have h := h.2 c7
      intro x9 e8
      have h := h x9 e8
      intro x11 e10
      have h := h x11 e10
      intro x13 e12
      have h := h x13 e12
      have K := k9_I K e12
      exact ⟨h, K⟩
set_option maxRecDepth 20000 in
set_option maxHeartbeats 1000000 in
theorem ky_X4_next_217 {b : Bool} {L : List (Nat × Nat)} (hU : ∀ q ∈ L, q ∈ nyT) (hL : ∀ q ∈ kyL_X4_next, q ∈ L) (hb : False → b = false) {Q : HS → Prop} {v0 : Nat} {v1 : Int32} {v2 : Int32} {S0 S : HS} (h : P_X4_next_217 Q v0 v1 v2 S) (K : K9 b L S0 S) : P_X4_next_217 (fun T => Q T ∧ K9 b L S0 T) v0 v1 v2 S := by
  delta P_X4_next_217 at h ⊢
  refine ⟨?_, ?_⟩
  · intro c1
    have h := h.1 c1
    exact ky_X4_next_240 hU hL hb h K
  · intro c2
    have h := h.2 c2
    obtain ⟨c3, h⟩ := h
    refine ⟨c3, ?_⟩
    intro x5 e4
    have h := h x5 e4
    intro x7 e6
    have h := h x7 e6
    refine ⟨?_, ?_⟩
    · intro c8
      have h := h.1 c8
      exact ky_X4_next_240 hU hL hb h K
    · intro c9
      have h := h.2 c9
      intro x11 e10
      have h := h x11 e10
      have K := k9_I K e10
      exact ky_X4_next_240 hU hL hb h K
set_option maxRecDepth 20000 in
set_option maxHeartbeats 1000000 in
theorem kyB_X4_next_118 {b : Bool} {L : List (Nat × Nat)} (hU : ∀ q ∈ L, q ∈ nyT) (hL : ∀ q ∈ kyL_X4_next, q ∈ L) (hb : False → b = false) {Q : HS → Prop} {X118 X118_2 : Nat → Int32 → Int32 → Int32 → Int32 → HS → Prop} {v0 : Nat} {v1 : Int32} {v2 : Int32} {v3 : Int32} {v4 : Int32} {S0 S : HS} (h : B_X4_next_118 Q X118 v0 v1 v2 v3 v4 S) (K : K9 b L S0 S) (hX118 : ∀ (u0 : Nat) (u1 : Int32) (u2 : Int32) (u3 : Int32) (u4 : Int32) (u5 : HS), X118 u0 u1 u2 u3 u4 u5 → K9 b L S0 u5 → X118_2 u0 u1 u2 u3 u4 u5) : B_X4_next_118 (fun T => Q T ∧ K9 b L S0 T) X118_2 v0 v1 v2 v3 v4 S := by
  delta B_X4_next_118 at h ⊢
  refine ⟨?_, ?_⟩
  · intro c1
    have h := h.1 c1
    exact ky_X4_next_217 hU hL hb h K
  · intro c2
    have h := h.2 c2
    refine ⟨?_, ?_⟩
    · intro c3
      have h := h.1 c3
      exact ky_X4_next_217 hU hL hb h K
    · intro c4
      have h := h.2 c4
      obtain ⟨c5, h⟩ := h
      refine ⟨c5, ?_⟩
      have o6 := c5
      intro x8 e7
      have h := h x8 e7
      refine cm_X4_sortAt (ky_X4_sortAt (b := b) hU (fun q hq => hL q ((by decide : ∀ q ∈ kyL_X4_sortAt, q ∈ kyL_X4_next) q hq)) (fun z => z.elim) h) h (fun x9 x10 p12 h g11 => ?_)
      have h := h g11
      have K := k9_tr K p12.2
      have o6 := gr_ob p12.2.1 o6
      intro x14 e13
      have h := h x14 e13
      refine ⟨?_, ?_⟩
      · intro c15
        have h := h.1 c15
        exact ky_X4_next_217 hU hL hb h K
      · intro c16
        have h := h.2 c16
        refine ⟨?_, ?_⟩
        · intro c17
          have h := h.1 c17
          exact ky_X4_next_201 hU hL hb h K hX118
        · intro c18
          have h := h.2 c18
          intro x20 e19
          have h := h x20 e19
          obtain ⟨b21, e22, h⟩ := h
          refine ⟨b21, e22, ?_⟩
          obtain ⟨c23, h⟩ := h
          refine ⟨c23, ?_⟩
          refine ⟨?_, ?_⟩
          · intro c24
            have h := h.1 c24
            exact ky_X4_next_201 hU hL hb h K hX118
          · intro c25
            have h := h.2 c25
            intro x27 e26
            have h := h x27 e26
            obtain ⟨b28, e29, h⟩ := h
            refine ⟨b28, e29, ?_⟩
            intro x31 e30
            have h := h x31 e30
            obtain ⟨c32, h⟩ := h
            refine ⟨c32, ?_⟩
            obtain ⟨c33, h⟩ := h
            refine ⟨c33, ?_⟩
            intro x35 e34
            have h := h x35 e34
            intro x37 e36
            have h := h x37 e36
            refine ⟨?_, ?_⟩
            · intro c38
              have h := h.1 c38
              exact ky_X4_next_195 hU hL hb h K hX118
            · intro c39
              have h := h.2 c39
              exact ky_X4_next_195 hU hL hb h K hX118
theorem ky_X4_next_118 {b : Bool} {L : List (Nat × Nat)} (hU : ∀ q ∈ L, q ∈ nyT) (hL : ∀ q ∈ kyL_X4_next, q ∈ L) (hb : False → b = false) {Q : HS → Prop} {v0 : Nat} {v1 : Int32} {v2 : Int32} {v3 : Int32} {v4 : Int32} {S0 S : HS} (h : P_X4_next_118 Q v0 v1 v2 v3 v4 S) (K : K9 b L S0 S) : P_X4_next_118 (fun T => Q T ∧ K9 b L S0 T) v0 v1 v2 v3 v4 S := h (fun v0 v1 v2 v3 v4 S => K9 b L S0 S → P_X4_next_118 (fun T => Q T ∧ K9 b L S0 T) v0 v1 v2 v3 v4 S) (fun v0 v1 v2 v3 v4 S hB K => fd_X4_next_118 (kyB_X4_next_118 hU hL hb hB K (fun _ _ _ _ _ _ hx K => hx K))) K
set_option maxRecDepth 20000 in
set_option maxHeartbeats 1000000 in
theorem ky_X4_next_114 {b : Bool} {L : List (Nat × Nat)} (hU : ∀ q ∈ L, q ∈ nyT) (hL : ∀ q ∈ kyL_X4_next, q ∈ L) (hb : False → b = false) {Q : HS → Prop} {v0 : Nat} {v1 : Int32} {v2 : Int32} {s0 : Int32} {S0 S : HS} (h : P_X4_next_114 Q v0 v1 v2 s0 S) (K : K9 b L S0 S) : P_X4_next_114 (fun T => Q T ∧ K9 b L S0 T) v0 v1 v2 s0 S := by
  delta P_X4_next_114 at h ⊢
  exact ky_X4_next_118 hU hL hb h K
set_option maxRecDepth 20000 in
set_option maxHeartbeats 1000000 in
theorem ky_X4_next_98 {b : Bool} {L : List (Nat × Nat)} (hU : ∀ q ∈ L, q ∈ nyT) (hL : ∀ q ∈ kyL_X4_next, q ∈ L) (hb : False → b = false) {Q : HS → Prop} {v0 : Nat} {v1 : Int32} {s0 : Int32} {S0 S : HS} (h : P_X4_next_98 Q v0 v1 s0 S) (K : K9 b L S0 S) : P_X4_next_98 (fun T => Q T ∧ K9 b L S0 T) v0 v1 s0 S := by
  delta P_X4_next_98 at h ⊢
  obtain ⟨c1, h⟩ := h
  refine ⟨c1, ?_⟩
  intro x3 e2
  have h := h x3 e2
  refine ⟨?_, ?_⟩
  · intro c4
    have h := h.1 c4
    exact ky_X4_next_114 hU hL hb h K
  · intro c5
    have h := h.2 c5
    exact ky_X4_next_114 hU hL hb h K
set_option maxRecDepth 20000 in
set_option maxHeartbeats 1000000 in
theorem ky_X4_next_83 {b : Bool} {L : List (Nat × Nat)} (hU : ∀ q ∈ L, q ∈ nyT) (hL : ∀ q ∈ kyL_X4_next, q ∈ L) (hb : False → b = false) {Q : HS → Prop} {v0 : Nat} {s0 : Int32} {S0 S : HS} (h : P_X4_next_83 Q v0 s0 S) (K : K9 b L S0 S) : P_X4_next_83 (fun T => Q T ∧ K9 b L S0 T) v0 s0 S := by
  delta P_X4_next_83 at h ⊢
  obtain ⟨c1, h⟩ := h
  refine ⟨c1, ?_⟩
  intro x3 e2
  have h := h x3 e2
  refine ⟨?_, ?_⟩
  · intro c4
    have h := h.1 c4
    exact ky_X4_next_98 hU hL hb h K
  · intro c5
    have h := h.2 c5
    exact ky_X4_next_98 hU hL hb h K
set_option maxRecDepth 20000 in
set_option maxHeartbeats 1000000 in
theorem ky_X4_next_78 {b : Bool} {L : List (Nat × Nat)} (hU : ∀ q ∈ L, q ∈ nyT) (hL : ∀ q ∈ kyL_X4_next, q ∈ L) (hb : False → b = false) {Q : HS → Prop} {v0 : Nat} {S0 S : HS} (h : P_X4_next_78 Q v0 S) (K : K9 b L S0 S) : P_X4_next_78 (fun T => Q T ∧ K9 b L S0 T) v0 S := by
  delta P_X4_next_78 at h ⊢
  exact ky_X4_next_83 hU hL hb h K
set_option maxRecDepth 20000 in
set_option maxHeartbeats 1000000 in
theorem ky_X4_next_37 {b : Bool} {L : List (Nat × Nat)} (hU : ∀ q ∈ L, q ∈ nyT) (hL : ∀ q ∈ kyL_X4_next, q ∈ L) (hb : False → b = false) {Q : HS → Prop} {v0 : Nat} {S0 S : HS} (h : P_X4_next_37 Q v0 S) (K : K9 b L S0 S) : P_X4_next_37 (fun T => Q T ∧ K9 b L S0 T) v0 S := by
  delta P_X4_next_37 at h ⊢
  obtain ⟨c1, h⟩ := h
  refine ⟨c1, ?_⟩
  have n2 := k9_nk K c1 (by decide)
  intro x4 e3
  have h := h x4 e3
  intro x6 e5
  have h := h x6 e5
  have K := k9_I K e5
  intro x8 e7
  have h := h x8 e7
  refine cm_X4_sortAt (ky_X4_sortAt (b := b) hU (fun q hq => hL q ((by decide : ∀ q ∈ kyL_X4_sortAt, q ∈ kyL_X4_next) q hq)) (fun z => z.elim) h) h (fun x9 x10 p12 h g11 => ?_)
  have h := h g11
  have K := k9_tr K p12.2
  intro x14 e13
  have h := h x14 e13
  have K := k9_I K e13
  intro x16 e15
  have h := h x16 e15
  have K := k9_J K e15 n2
  intro x18 e17
  have h := h x18 e17
  refine ⟨?_, ?_⟩
  · intro c19
    have h := h.1 c19
    exact ky_X4_next_78 hU hL hb h K
  · intro c20
    have h := h.2 c20
    intro x22 e21
    have h := h x22 e21
    refine ⟨?_, ?_⟩
    · intro c23
      have h := h.1 c23
      exact ky_X4_next_83 hU hL hb h K
    · intro c24
      have h := h.2 c24
      exact ky_X4_next_78 hU hL hb h K
set_option maxRecDepth 20000 in
set_option maxHeartbeats 1000000 in
theorem kyB_X4_next_2 {b : Bool} {L : List (Nat × Nat)} (hU : ∀ q ∈ L, q ∈ nyT) (hL : ∀ q ∈ kyL_X4_next, q ∈ L) (hb : False → b = false) {Q : HS → Prop} {X2 X2_2 : Nat → Int32 → HS → Prop} {v0 : Nat} {v1 : Int32} {S0 S : HS} (h : B_X4_next_2 Q X2 v0 v1 S) (K : K9 b L S0 S) (hX2 : ∀ (u0 : Nat) (u1 : Int32) (u2 : HS), X2 u0 u1 u2 → K9 b L S0 u2 → X2_2 u0 u1 u2) : B_X4_next_2 (fun T => Q T ∧ K9 b L S0 T) X2_2 v0 v1 S := by
  delta B_X4_next_2 at h ⊢
  refine ⟨?_, ?_⟩
  · intro c1
    have h := h.1 c1
    exact ky_X4_next_37 hU hL hb h K
  · intro c2
    have h := h.2 c2
    obtain ⟨c3, h⟩ := h
    refine ⟨c3, ?_⟩
    intro x5 e4
    have h := h x5 e4
    refine cm_X4_sortAt (ky_X4_sortAt (b := b) hU (fun q hq => hL q ((by decide : ∀ q ∈ kyL_X4_sortAt, q ∈ kyL_X4_next) q hq)) (fun z => z.elim) h) h (fun x6 x7 p9 h g8 => ?_)
    have h := h g8
    have K := k9_tr K p9.2
    refine ⟨?_, ?_⟩
    · intro c10
      have h := h.1 c10
      exact ky_X4_next_37 hU hL hb h K
    · intro c11
      have h := h.2 c11
      intro x13 e12
      have h := h x13 e12
      intro x15 e14
      have h := h x15 e14
      intro x17 e16
      have h := h x17 e16
      have K := k9_I K e16
      intro x19 e18
      have h := h x19 e18
      exact hX2 _ _ _ h K
theorem ky_X4_next_2 {b : Bool} {L : List (Nat × Nat)} (hU : ∀ q ∈ L, q ∈ nyT) (hL : ∀ q ∈ kyL_X4_next, q ∈ L) (hb : False → b = false) {Q : HS → Prop} {v0 : Nat} {v1 : Int32} {S0 S : HS} (h : P_X4_next_2 Q v0 v1 S) (K : K9 b L S0 S) : P_X4_next_2 (fun T => Q T ∧ K9 b L S0 T) v0 v1 S := h (fun v0 v1 S => K9 b L S0 S → P_X4_next_2 (fun T => Q T ∧ K9 b L S0 T) v0 v1 S) (fun v0 v1 S hB K => fd_X4_next_2 (kyB_X4_next_2 hU hL hb hB K (fun _ _ _ hx K => hx K))) K
set_option maxRecDepth 20000 in
set_option maxHeartbeats 1000000 in
theorem ky_X4_next_0 {b : Bool} {L : List (Nat × Nat)} (hU : ∀ q ∈ L, q ∈ nyT) (hL : ∀ q ∈ kyL_X4_next, q ∈ L) (hb : False → b = false) {Q : HS → Prop} {v0 : Nat} {S0 S : HS} (h : P_X4_next_0 Q v0 S) (K : K9 b L S0 S) : P_X4_next_0 (fun T => Q T ∧ K9 b L S0 T) v0 S := by
  delta P_X4_next_0 at h ⊢
  exact ky_X4_next_2 hU hL hb h K
theorem ky_X4_next {b : Bool} {L : List (Nat × Nat)} (hU : ∀ q ∈ L, q ∈ nyT) (hL : ∀ q ∈ kyL_X4_next, q ∈ L) (hb : False → b = false) {Q : HS → Prop} {v0 : Nat} {S : HS} (h : P_X4_next v0 Q S) : P_X4_next v0 (fun T => Q T ∧ K9 b L S T) S := ky_X4_next_0 hU hL hb h (k9_rf b L S)
abbrev kyL_X4_whole : List (Nat × Nat) := []
set_option maxRecDepth 20000 in
set_option maxHeartbeats 1000000 in
theorem ky_X4_whole_34 {b : Bool} {L : List (Nat × Nat)} (hU : ∀ q ∈ L, q ∈ nyT) (hL : ∀ q ∈ kyL_X4_whole, q ∈ L) (hb : False → b = false) {Q : Int32 → HS → Prop} {v0 : Nat} {S0 S : HS} (h : P_X4_whole_34 Q v0 S) (K : K9 b L S0 S) : P_X4_whole_34 (fun r T => Q r T ∧ K9 b L S0 T) v0 S := by
  delta P_X4_whole_34 at h ⊢
  obtain ⟨c1, h⟩ := h
  refine ⟨c1, ?_⟩
  refine cm_X4_fail (ky_X4_fail (b := b) hU (fun q hq => hL q ((by decide : ∀ q ∈ kyL_X4_fail, q ∈ kyL_X4_whole) q hq)) (fun z => z.elim) h) h (fun x2 x3 p6 h g4 g5 => ?_)
  have h := h g4 g5
  have K := k9_tr K p6.2
  obtain ⟨c7, h⟩ := h
  refine ⟨c7, ?_⟩
  exact ⟨h, K⟩
set_option maxRecDepth 20000 in
set_option maxHeartbeats 1000000 in
theorem ky_X4_whole_0 {b : Bool} {L : List (Nat × Nat)} (hU : ∀ q ∈ L, q ∈ nyT) (hL : ∀ q ∈ kyL_X4_whole, q ∈ L) (hb : False → b = false) {Q : Int32 → HS → Prop} {v0 : Nat} {v1 : Int32} {v2 : Int32} {S0 S : HS} (h : P_X4_whole_0 Q v0 v1 v2 S) (K : K9 b L S0 S) : P_X4_whole_0 (fun r T => Q r T ∧ K9 b L S0 T) v0 v1 v2 S := by
  delta P_X4_whole_0 at h ⊢
  obtain ⟨c1, h⟩ := h
  refine ⟨c1, ?_⟩
  intro x3 e2
  have h := h x3 e2
  refine ⟨?_, ?_⟩
  · intro c4
    have h := h.1 c4
    intro x6 e5
    have h := h x6 e5
    refine ⟨?_, ?_⟩
    · intro c7
      have h := h.1 c7
      exact ky_X4_whole_34 hU hL hb h K
    · intro c8
      have h := h.2 c8
      intro x10 e9
      have h := h x10 e9
      refine ⟨?_, ?_⟩
      · intro c11
        have h := h.1 c11
        intro x13 e12
        have h := h x13 e12
        intro x15 e14
        have h := h x15 e14
        intro x17 e16
        have h := h x17 e16
        have K := k9_I K e16
        refine cm_X4_next (ky_X4_next (b := b) hU (fun q hq => hL q ((by decide : ∀ q ∈ kyL_X4_next, q ∈ kyL_X4_whole) q hq)) (fun z => z.elim) h) h (fun x18 p20 h g19 => ?_)
        have h := h g19
        have K := k9_tr K p20.2
        exact ⟨h, K⟩
      · intro c21
        have h := h.2 c21
        exact ky_X4_whole_34 hU hL hb h K
  · intro c22
    have h := h.2 c22
    refine cm_X4_fail (ky_X4_fail (b := b) hU (fun q hq => hL q ((by decide : ∀ q ∈ kyL_X4_fail, q ∈ kyL_X4_whole) q hq)) (fun z => z.elim) h) h (fun x23 x24 p27 h g25 g26 => ?_)
    have h := h g25 g26
    have K := k9_tr K p27.2
    obtain ⟨c28, h⟩ := h
    refine ⟨c28, ?_⟩
    exact ⟨h, K⟩
theorem ky_X4_whole {b : Bool} {L : List (Nat × Nat)} (hU : ∀ q ∈ L, q ∈ nyT) (hL : ∀ q ∈ kyL_X4_whole, q ∈ L) (hb : False → b = false) {Q : Int32 → HS → Prop} {v0 : Nat} {v1 : Int32} {v2 : Int32} {S : HS} (h : P_X4_whole v0 v1 v2 Q S) : P_X4_whole v0 v1 v2 (fun r T => Q r T ∧ K9 b L S T) S := ky_X4_whole_0 hU hL hb h (k9_rf b L S)
abbrev kyL_X4_is : List (Nat × Nat) := []
set_option maxRecDepth 20000 in
set_option maxHeartbeats 1000000 in
theorem kyB_X4_is_15 {b : Bool} {L : List (Nat × Nat)} (hU : ∀ q ∈ L, q ∈ nyT) (hL : ∀ q ∈ kyL_X4_is, q ∈ L) (hb : False → b = false) {Q : Int32 → HS → Prop} {X15 X15_2 : Nat → Nat → Int64 → Int32 → HS → Prop} {v0 : Nat} {v1 : Nat} {v2 : Int64} {v4 : Int32} {S0 S : HS} (h : B_X4_is_15 Q X15 v0 v1 v2 v4 S) (K : K9 b L S0 S) (hX15 : ∀ (u0 : Nat) (u1 : Nat) (u2 : Int64) (u3 : Int32) (u4 : HS), X15 u0 u1 u2 u3 u4 → K9 b L S0 u4 → X15_2 u0 u1 u2 u3 u4) : B_X4_is_15 (fun r T => Q r T ∧ K9 b L S0 T) X15_2 v0 v1 v2 v4 S := by
  delta B_X4_is_15 at h ⊢
  obtain ⟨c1, h⟩ := h
  refine ⟨c1, ?_⟩
  intro x3 e2
  have h := h x3 e2
  refine ⟨?_, ?_⟩
  · intro c4
    have h := h.1 c4
    obtain ⟨c5, h⟩ := h
    refine ⟨c5, ?_⟩
    intro x7 e6
    have h := h x7 e6
    refine ⟨?_, ?_⟩
    · intro c8
      have h := h.1 c8
      exact ⟨h, K⟩
    · intro c9
      have h := h.2 c9
      exact ⟨h, K⟩
  · intro c10
    have h := h.2 c10
    obtain ⟨c11, h⟩ := h
    refine ⟨c11, ?_⟩
    obtain ⟨c12, h⟩ := h
    refine ⟨c12, ?_⟩
    intro x14 e13
    have h := h x14 e13
    intro x16 e15
    have h := h x16 e15
    intro x18 e17
    have h := h x18 e17
    exact hX15 _ _ _ _ _ h K
theorem ky_X4_is_15 {b : Bool} {L : List (Nat × Nat)} (hU : ∀ q ∈ L, q ∈ nyT) (hL : ∀ q ∈ kyL_X4_is, q ∈ L) (hb : False → b = false) {Q : Int32 → HS → Prop} {v0 : Nat} {v1 : Nat} {v2 : Int64} {v4 : Int32} {S0 S : HS} (h : P_X4_is_15 Q v0 v1 v2 v4 S) (K : K9 b L S0 S) : P_X4_is_15 (fun r T => Q r T ∧ K9 b L S0 T) v0 v1 v2 v4 S := h (fun v0 v1 v2 v4 S => K9 b L S0 S → P_X4_is_15 (fun r T => Q r T ∧ K9 b L S0 T) v0 v1 v2 v4 S) (fun v0 v1 v2 v4 S hB K => fd_X4_is_15 (kyB_X4_is_15 hU hL hb hB K (fun _ _ _ _ _ hx K => hx K))) K
set_option maxRecDepth 20000 in
set_option maxHeartbeats 1000000 in
theorem ky_X4_is_0 {b : Bool} {L : List (Nat × Nat)} (hU : ∀ q ∈ L, q ∈ nyT) (hL : ∀ q ∈ kyL_X4_is, q ∈ L) (hb : False → b = false) {Q : Int32 → HS → Prop} {v0 : Nat} {v1 : Nat} {S0 S : HS} (h : P_X4_is_0 Q v0 v1 S) (K : K9 b L S0 S) : P_X4_is_0 (fun r T => Q r T ∧ K9 b L S0 T) v0 v1 S := by
  delta P_X4_is_0 at h ⊢
  obtain ⟨c1, h⟩ := h
  refine ⟨c1, ?_⟩
  intro x3 e2
  have h := h x3 e2
  refine ⟨?_, ?_⟩
  · intro c4
    have h := h.1 c4
    exact ky_X4_is_15 hU hL hb h K
  · intro c5
    have h := h.2 c5
    exact ⟨h, K⟩
theorem ky_X4_is {b : Bool} {L : List (Nat × Nat)} (hU : ∀ q ∈ L, q ∈ nyT) (hL : ∀ q ∈ kyL_X4_is, q ∈ L) (hb : False → b = false) {Q : Int32 → HS → Prop} {v0 : Nat} {v1 : Nat} {S : HS} (h : P_X4_is v0 v1 Q S) : P_X4_is v0 v1 (fun r T => Q r T ∧ K9 b L S T) S := ky_X4_is_0 hU hL hb h (k9_rf b L S)
abbrev kyL_X4_word : List (Nat × Nat) := []
set_option maxRecDepth 20000 in
set_option maxHeartbeats 1000000 in
theorem ky_X4_word_0 {b : Bool} {L : List (Nat × Nat)} (hU : ∀ q ∈ L, q ∈ nyT) (hL : ∀ q ∈ kyL_X4_word, q ∈ L) (hb : False → b = false) {Q : Int32 → HS → Prop} {v0 : Nat} {v1 : Nat} {S0 S : HS} (h : P_X4_word_0 Q v0 v1 S) (K : K9 b L S0 S) : P_X4_word_0 (fun r T => Q r T ∧ K9 b L S0 T) v0 v1 S := by
  delta P_X4_word_0 at h ⊢
  obtain ⟨c1, h⟩ := h
  refine ⟨c1, ?_⟩
  refine cm_X4_is (ky_X4_is (b := b) hU (fun q hq => hL q ((by decide : ∀ q ∈ kyL_X4_is, q ∈ kyL_X4_word) q hq)) (fun z => z.elim) h) h (fun x2 x3 p6 h g4 g5 => ?_)
  have h := h g4 g5
  have K := k9_tr K p6.2
  refine ⟨?_, ?_⟩
  · intro c7
    have h := h.1 c7
    refine cm_X4_next (ky_X4_next (b := b) hU (fun q hq => hL q ((by decide : ∀ q ∈ kyL_X4_next, q ∈ kyL_X4_word) q hq)) (fun z => z.elim) h) h (fun x8 p10 h g9 => ?_)
    have h := h g9
    have K := k9_tr K p10.2
    exact ⟨h, K⟩
  · intro c11
    have h := h.2 c11
    refine cm_X4_fail (ky_X4_fail (b := b) hU (fun q hq => hL q ((by decide : ∀ q ∈ kyL_X4_fail, q ∈ kyL_X4_word) q hq)) (fun z => z.elim) h) h (fun x12 x13 p16 h g14 g15 => ?_)
    have h := h g14 g15
    have K := k9_tr K p16.2
    obtain ⟨c17, h⟩ := h
    refine ⟨c17, ?_⟩
    exact ⟨h, K⟩
theorem ky_X4_word {b : Bool} {L : List (Nat × Nat)} (hU : ∀ q ∈ L, q ∈ nyT) (hL : ∀ q ∈ kyL_X4_word, q ∈ L) (hb : False → b = false) {Q : Int32 → HS → Prop} {v0 : Nat} {v1 : Nat} {S : HS} (h : P_X4_word v0 v1 Q S) : P_X4_word v0 v1 (fun r T => Q r T ∧ K9 b L S T) S := ky_X4_word_0 hU hL hb h (k9_rf b L S)
abbrev kyL_X4_wordAndWhole : List (Nat × Nat) := []
set_option maxRecDepth 20000 in
set_option maxHeartbeats 1000000 in
theorem ky_X4_wordAndWhole_0 {b : Bool} {L : List (Nat × Nat)} (hU : ∀ q ∈ L, q ∈ nyT) (hL : ∀ q ∈ kyL_X4_wordAndWhole, q ∈ L) (hb : False → b = false) {Q : Int32 → HS → Prop} {v0 : Nat} {v1 : Nat} {v2 : Int32} {v3 : Int32} {S0 S : HS} (h : P_X4_wordAndWhole_0 Q v0 v1 v2 v3 S) (K : K9 b L S0 S) : P_X4_wordAndWhole_0 (fun r T => Q r T ∧ K9 b L S0 T) v0 v1 v2 v3 S := by
  delta P_X4_wordAndWhole_0 at h ⊢
  obtain ⟨c1, h⟩ := h
  refine ⟨c1, ?_⟩
  refine cm_X4_word (ky_X4_word (b := b) hU (fun q hq => hL q ((by decide : ∀ q ∈ kyL_X4_word, q ∈ kyL_X4_wordAndWhole) q hq)) (fun z => z.elim) h) h (fun x2 x3 p6 h g4 g5 => ?_)
  have h := h g4 g5
  have K := k9_tr K p6.2
  refine ⟨?_, ?_⟩
  · intro c7
    have h := h.1 c7
    exact ⟨h, K⟩
  · intro c8
    have h := h.2 c8
    refine cm_X4_whole (ky_X4_whole (b := b) hU (fun q hq => hL q ((by decide : ∀ q ∈ kyL_X4_whole, q ∈ kyL_X4_wordAndWhole) q hq)) (fun z => z.elim) h) h (fun x9 x10 p13 h g11 g12 => ?_)
    have h := h g11 g12
    have K := k9_tr K p13.2
    refine ⟨?_, ?_⟩
    · intro c14
      have h := h.1 c14
      exact ⟨h, K⟩
    · intro c15
      have h := h.2 c15
      exact ⟨h, K⟩
theorem ky_X4_wordAndWhole {b : Bool} {L : List (Nat × Nat)} (hU : ∀ q ∈ L, q ∈ nyT) (hL : ∀ q ∈ kyL_X4_wordAndWhole, q ∈ L) (hb : False → b = false) {Q : Int32 → HS → Prop} {v0 : Nat} {v1 : Nat} {v2 : Int32} {v3 : Int32} {S : HS} (h : P_X4_wordAndWhole v0 v1 v2 v3 Q S) : P_X4_wordAndWhole v0 v1 v2 v3 (fun r T => Q r T ∧ K9 b L S T) S := ky_X4_wordAndWhole_0 hU hL hb h (k9_rf b L S)
abbrev kyL_X6_shape : List (Nat × Nat) := []
set_option maxRecDepth 20000 in
set_option maxHeartbeats 1000000 in
theorem ky_X6_shape_16 {b : Bool} {L : List (Nat × Nat)} (hU : ∀ q ∈ L, q ∈ nyT) (hL : ∀ q ∈ kyL_X6_shape, q ∈ L) (hb : False → b = false) {Q : HS → Prop} {v0 : Nat} {v1 : Int32} {v2 : Int32} {v3 : Int32} {s0 : Int32} {S0 S : HS} (h : P_X6_shape_16 Q v0 v1 v2 v3 s0 S) (K : K9 b L S0 S) : P_X6_shape_16 (fun T => Q T ∧ K9 b L S0 T) v0 v1 v2 v3 s0 S := by
  delta P_X6_shape_16 at h ⊢
  obtain ⟨c1, h⟩ := h
  refine ⟨c1, ?_⟩
  intro x3 e2
  have h := h x3 e2
  intro x5 e4
  have h := h x5 e4
  have K := k9_I K e4
  intro x7 e6
  have h := h x7 e6
  intro x9 e8
  have h := h x9 e8
  have K := k9_I K e8
  intro x11 e10
  have h := h x11 e10
  intro x13 e12
  have h := h x13 e12
  have K := k9_I K e12
  exact ⟨h, K⟩
set_option maxRecDepth 20000 in
set_option maxHeartbeats 1000000 in
theorem ky_X6_shape_0 {b : Bool} {L : List (Nat × Nat)} (hU : ∀ q ∈ L, q ∈ nyT) (hL : ∀ q ∈ kyL_X6_shape, q ∈ L) (hb : False → b = false) {Q : HS → Prop} {v0 : Nat} {v1 : Int32} {v2 : Int32} {v3 : Int32} {S0 S : HS} (h : P_X6_shape_0 Q v0 v1 v2 v3 S) (K : K9 b L S0 S) : P_X6_shape_0 (fun T => Q T ∧ K9 b L S0 T) v0 v1 v2 v3 S := by
  delta P_X6_shape_0 at h ⊢
  obtain ⟨c1, h⟩ := h
  refine ⟨c1, ?_⟩
  intro x3 e2
  have h := h x3 e2
  refine ⟨?_, ?_⟩
  · intro c4
    have h := h.1 c4
    exact ky_X6_shape_16 hU hL hb h K
  · intro c5
    have h := h.2 c5
    intro x7 e6
    have h := h x7 e6
    exact ky_X6_shape_16 hU hL hb h K
theorem ky_X6_shape {b : Bool} {L : List (Nat × Nat)} (hU : ∀ q ∈ L, q ∈ nyT) (hL : ∀ q ∈ kyL_X6_shape, q ∈ L) (hb : False → b = false) {Q : HS → Prop} {v0 : Nat} {v1 : Int32} {v2 : Int32} {v3 : Int32} {S : HS} (h : P_X6_shape v0 v1 v2 v3 Q S) : P_X6_shape v0 v1 v2 v3 (fun T => Q T ∧ K9 b L S T) S := ky_X6_shape_0 hU hL hb h (k9_rf b L S)
abbrev kyL_X4_bodyOf : List (Nat × Nat) := []
set_option maxRecDepth 20000 in
set_option maxHeartbeats 1000000 in
theorem ky_X4_bodyOf_58 {b : Bool} {L : List (Nat × Nat)} (hU : ∀ q ∈ L, q ∈ nyT) (hL : ∀ q ∈ kyL_X4_bodyOf, q ∈ L) (hb : False → b = false) {Q : Int32 → HS → Prop} {v0 : Nat} {v1 : Nat} {v2 : Int32} {v3 : Int32} {s0 : Int32} {S0 S : HS} (h : P_X4_bodyOf_58 Q v0 v1 v2 v3 s0 S) (K : K9 b L S0 S) : P_X4_bodyOf_58 (fun r T => Q r T ∧ K9 b L S0 T) v0 v1 v2 v3 s0 S := by
  delta P_X4_bodyOf_58 at h ⊢
  obtain ⟨c1, h⟩ := h
  refine ⟨c1, ?_⟩
  refine cm_X4_wordAndWhole (ky_X4_wordAndWhole (b := b) hU (fun q hq => hL q ((by decide : ∀ q ∈ kyL_X4_wordAndWhole, q ∈ kyL_X4_bodyOf) q hq)) (fun z => z.elim) h) h (fun x2 x3 p6 h g4 g5 => ?_)
  have h := h g4 g5
  have K := k9_tr K p6.2
  refine ⟨?_, ?_⟩
  · intro c7
    have h := h.1 c7
    intro x9 e8
    have h := h x9 e8
    obtain ⟨c10, h⟩ := h
    refine ⟨c10, ?_⟩
    refine cm_X6_shape (ky_X6_shape (b := b) hU (fun q hq => hL q ((by decide : ∀ q ∈ kyL_X6_shape, q ∈ kyL_X4_bodyOf) q hq)) (fun z => z.elim) h) h (fun x11 p13 h g12 => ?_)
    have h := h g12
    have K := k9_tr K p13.2
    exact ⟨h, K⟩
  · intro c14
    have h := h.2 c14
    exact ⟨h, K⟩
set_option maxRecDepth 20000 in
set_option maxHeartbeats 1000000 in
theorem ky_X4_bodyOf_0 {b : Bool} {L : List (Nat × Nat)} (hU : ∀ q ∈ L, q ∈ nyT) (hL : ∀ q ∈ kyL_X4_bodyOf, q ∈ L) (hb : False → b = false) {Q : Int32 → HS → Prop} {v0 : Nat} {v1 : Nat} {S0 S : HS} (h : P_X4_bodyOf_0 Q v0 v1 S) (K : K9 b L S0 S) : P_X4_bodyOf_0 (fun r T => Q r T ∧ K9 b L S0 T) v0 v1 S := by
  delta P_X4_bodyOf_0 at h ⊢
  obtain ⟨c1, h⟩ := h
  refine ⟨c1, ?_⟩
  refine cm_X4_wordAndWhole (ky_X4_wordAndWhole (b := b) hU (fun q hq => hL q ((by decide : ∀ q ∈ kyL_X4_wordAndWhole, q ∈ kyL_X4_bodyOf) q hq)) (fun z => z.elim) h) h (fun x2 x3 p6 h g4 g5 => ?_)
  have h := h g4 g5
  have K := k9_tr K p6.2
  refine ⟨?_, ?_⟩
  · intro c7
    have h := h.1 c7
    intro x9 e8
    have h := h x9 e8
    refine cm_X4_wordAndWhole (ky_X4_wordAndWhole (b := b) hU (fun q hq => hL q ((by decide : ∀ q ∈ kyL_X4_wordAndWhole, q ∈ kyL_X4_bodyOf) q hq)) (fun z => z.elim) h) h (fun x10 x11 p14 h g12 g13 => ?_)
    have h := h g12 g13
    have K := k9_tr K p14.2
    refine ⟨?_, ?_⟩
    · intro c15
      have h := h.1 c15
      intro x17 e16
      have h := h x17 e16
      obtain ⟨c18, h⟩ := h
      refine ⟨c18, ?_⟩
      intro x20 e19
      have h := h x20 e19
      refine ⟨?_, ?_⟩
      · intro c21
        have h := h.1 c21
        exact ky_X4_bodyOf_58 hU hL hb h K
      · intro c22
        have h := h.2 c22
        intro x24 e23
        have h := h x24 e23
        exact ky_X4_bodyOf_58 hU hL hb h K
    · intro c25
      have h := h.2 c25
      exact ⟨h, K⟩
  · intro c26
    have h := h.2 c26
    exact ⟨h, K⟩
theorem ky_X4_bodyOf {b : Bool} {L : List (Nat × Nat)} (hU : ∀ q ∈ L, q ∈ nyT) (hL : ∀ q ∈ kyL_X4_bodyOf, q ∈ L) (hb : False → b = false) {Q : Int32 → HS → Prop} {v0 : Nat} {v1 : Nat} {S : HS} (h : P_X4_bodyOf v0 v1 Q S) : P_X4_bodyOf v0 v1 (fun r T => Q r T ∧ K9 b L S T) S := ky_X4_bodyOf_0 hU hL hb h (k9_rf b L S)
abbrev kyL_X4_canBeName : List (Nat × Nat) := []
set_option maxRecDepth 20000 in
set_option maxHeartbeats 1000000 in
theorem ky_X4_canBeName_86 {b : Bool} {L : List (Nat × Nat)} (hU : ∀ q ∈ L, q ∈ nyT) (hL : ∀ q ∈ kyL_X4_canBeName, q ∈ L) (hb : False → b = false) {Q : Int32 → HS → Prop} {v0 : Nat} {s0 : Int32} {S0 S : HS} (h : P_X4_canBeName_86 Q v0 s0 S) (K : K9 b L S0 S) : P_X4_canBeName_86 (fun r T => Q r T ∧ K9 b L S0 T) v0 s0 S := by
  delta P_X4_canBeName_86 at h ⊢
  obtain ⟨c1, h⟩ := h
  refine ⟨c1, ?_⟩
  intro x3 e2
  have h := h x3 e2
  refine ⟨?_, ?_⟩
  · intro c4
    have h := h.1 c4
    exact ⟨h, K⟩
  · intro c5
    have h := h.2 c5
    refine ⟨?_, ?_⟩
    · intro c6
      have h := h.1 c6
      exact ⟨h, K⟩
    · intro c7
      have h := h.2 c7
      exact ⟨h, K⟩
set_option maxRecDepth 20000 in
set_option maxHeartbeats 1000000 in
theorem ky_X4_canBeName_81 {b : Bool} {L : List (Nat × Nat)} (hU : ∀ q ∈ L, q ∈ nyT) (hL : ∀ q ∈ kyL_X4_canBeName, q ∈ L) (hb : False → b = false) {Q : Int32 → HS → Prop} {v0 : Nat} {S0 S : HS} (h : P_X4_canBeName_81 Q v0 S) (K : K9 b L S0 S) : P_X4_canBeName_81 (fun r T => Q r T ∧ K9 b L S0 T) v0 S := by
  delta P_X4_canBeName_81 at h ⊢
  exact ky_X4_canBeName_86 hU hL hb h K
set_option maxRecDepth 20000 in
set_option maxHeartbeats 1000000 in
theorem ky_X4_canBeName_0 {b : Bool} {L : List (Nat × Nat)} (hU : ∀ q ∈ L, q ∈ nyT) (hL : ∀ q ∈ kyL_X4_canBeName, q ∈ L) (hb : False → b = false) {Q : Int32 → HS → Prop} {v0 : Nat} {S0 S : HS} (h : P_X4_canBeName_0 Q v0 S) (K : K9 b L S0 S) : P_X4_canBeName_0 (fun r T => Q r T ∧ K9 b L S0 T) v0 S := by
  delta P_X4_canBeName_0 at h ⊢
  obtain ⟨c1, h⟩ := h
  refine ⟨c1, ?_⟩
  refine cm_X4_is (ky_X4_is (b := b) hU (fun q hq => hL q ((by decide : ∀ q ∈ kyL_X4_is, q ∈ kyL_X4_canBeName) q hq)) (fun z => z.elim) h) h (fun x2 x3 p6 h g4 g5 => ?_)
  have h := h g4 g5
  have K := k9_tr K p6.2
  refine ⟨?_, ?_⟩
  · intro c7
    have h := h.1 c7
    exact ky_X4_canBeName_81 hU hL hb h K
  · intro c8
    have h := h.2 c8
    refine cm_X4_is (ky_X4_is (b := b) hU (fun q hq => hL q ((by decide : ∀ q ∈ kyL_X4_is, q ∈ kyL_X4_canBeName) q hq)) (fun z => z.elim) h) h (fun x9 x10 p13 h g11 g12 => ?_)
    have h := h g11 g12
    have K := k9_tr K p13.2
    refine ⟨?_, ?_⟩
    · intro c14
      have h := h.1 c14
      exact ky_X4_canBeName_81 hU hL hb h K
    · intro c15
      have h := h.2 c15
      refine cm_X4_is (ky_X4_is (b := b) hU (fun q hq => hL q ((by decide : ∀ q ∈ kyL_X4_is, q ∈ kyL_X4_canBeName) q hq)) (fun z => z.elim) h) h (fun x16 x17 p20 h g18 g19 => ?_)
      have h := h g18 g19
      have K := k9_tr K p20.2
      refine ⟨?_, ?_⟩
      · intro c21
        have h := h.1 c21
        exact ky_X4_canBeName_81 hU hL hb h K
      · intro c22
        have h := h.2 c22
        refine cm_X4_is (ky_X4_is (b := b) hU (fun q hq => hL q ((by decide : ∀ q ∈ kyL_X4_is, q ∈ kyL_X4_canBeName) q hq)) (fun z => z.elim) h) h (fun x23 x24 p27 h g25 g26 => ?_)
        have h := h g25 g26
        have K := k9_tr K p27.2
        refine ⟨?_, ?_⟩
        · intro c28
          have h := h.1 c28
          exact ky_X4_canBeName_81 hU hL hb h K
        · intro c29
          have h := h.2 c29
          refine cm_X4_is (ky_X4_is (b := b) hU (fun q hq => hL q ((by decide : ∀ q ∈ kyL_X4_is, q ∈ kyL_X4_canBeName) q hq)) (fun z => z.elim) h) h (fun x30 x31 p34 h g32 g33 => ?_)
          have h := h g32 g33
          have K := k9_tr K p34.2
          refine ⟨?_, ?_⟩
          · intro c35
            have h := h.1 c35
            exact ky_X4_canBeName_81 hU hL hb h K
          · intro c36
            have h := h.2 c36
            refine cm_X4_is (ky_X4_is (b := b) hU (fun q hq => hL q ((by decide : ∀ q ∈ kyL_X4_is, q ∈ kyL_X4_canBeName) q hq)) (fun z => z.elim) h) h (fun x37 x38 p41 h g39 g40 => ?_)
            have h := h g39 g40
            have K := k9_tr K p41.2
            refine ⟨?_, ?_⟩
            · intro c42
              have h := h.1 c42
              exact ky_X4_canBeName_81 hU hL hb h K
            · intro c43
              have h := h.2 c43
              refine cm_X4_is (ky_X4_is (b := b) hU (fun q hq => hL q ((by decide : ∀ q ∈ kyL_X4_is, q ∈ kyL_X4_canBeName) q hq)) (fun z => z.elim) h) h (fun x44 x45 p48 h g46 g47 => ?_)
              have h := h g46 g47
              have K := k9_tr K p48.2
              refine ⟨?_, ?_⟩
              · intro c49
                have h := h.1 c49
                exact ky_X4_canBeName_81 hU hL hb h K
              · intro c50
                have h := h.2 c50
                refine cm_X4_is (ky_X4_is (b := b) hU (fun q hq => hL q ((by decide : ∀ q ∈ kyL_X4_is, q ∈ kyL_X4_canBeName) q hq)) (fun z => z.elim) h) h (fun x51 x52 p55 h g53 g54 => ?_)
                have h := h g53 g54
                have K := k9_tr K p55.2
                refine ⟨?_, ?_⟩
                · intro c56
                  have h := h.1 c56
                  exact ky_X4_canBeName_81 hU hL hb h K
                · intro c57
                  have h := h.2 c57
                  refine cm_X4_is (ky_X4_is (b := b) hU (fun q hq => hL q ((by decide : ∀ q ∈ kyL_X4_is, q ∈ kyL_X4_canBeName) q hq)) (fun z => z.elim) h) h (fun x58 x59 p62 h g60 g61 => ?_)
                  have h := h g60 g61
                  have K := k9_tr K p62.2
                  refine ⟨?_, ?_⟩
                  · intro c63
                    have h := h.1 c63
                    exact ky_X4_canBeName_86 hU hL hb h K
                  · intro c64
                    have h := h.2 c64
                    exact ky_X4_canBeName_81 hU hL hb h K
theorem ky_X4_canBeName {b : Bool} {L : List (Nat × Nat)} (hU : ∀ q ∈ L, q ∈ nyT) (hL : ∀ q ∈ kyL_X4_canBeName, q ∈ L) (hb : False → b = false) {Q : Int32 → HS → Prop} {v0 : Nat} {S : HS} (h : P_X4_canBeName v0 Q S) : P_X4_canBeName v0 (fun r T => Q r T ∧ K9 b L S T) S := ky_X4_canBeName_0 hU hL hb h (k9_rf b L S)
abbrev kyL_X4_exchange : List (Nat × Nat) := []
set_option maxRecDepth 20000 in
set_option maxHeartbeats 1000000 in
theorem ky_X4_exchange_0 {b : Bool} {L : List (Nat × Nat)} (hU : ∀ q ∈ L, q ∈ nyT) (hL : ∀ q ∈ kyL_X4_exchange, q ∈ L) (hb : False → b = false) {Q : Nat → HS → Prop} {v0 : Nat} {v1 : Nat} {S0 S : HS} (h : P_X4_exchange_0 Q v0 v1 S) (K : K9 b L S0 S) : P_X4_exchange_0 (fun r T => Q r T ∧ K9 b L S0 T) v0 v1 S := by
  delta P_X4_exchange_0 at h ⊢
  obtain ⟨c1, h⟩ := h
  refine ⟨c1, ?_⟩
  have o2 := c1
  obtain ⟨b3, e4, h⟩ := h
  refine ⟨b3, e4, ?_⟩
  intro x6 e5
  have h := h x6 e5
  have K := k9_R K hU e5 o2 (by decide) (by decide)
  have o2 := ob_wR o2 e5
  exact ⟨h, K⟩
theorem ky_X4_exchange {b : Bool} {L : List (Nat × Nat)} (hU : ∀ q ∈ L, q ∈ nyT) (hL : ∀ q ∈ kyL_X4_exchange, q ∈ L) (hb : False → b = false) {Q : Nat → HS → Prop} {v0 : Nat} {v1 : Nat} {S : HS} (h : P_X4_exchange v0 v1 Q S) : P_X4_exchange v0 v1 (fun r T => Q r T ∧ K9 b L S T) S := ky_X4_exchange_0 hU hL hb h (k9_rf b L S)
abbrev kyL_X4_findName : List (Nat × Nat) := []
set_option maxRecDepth 20000 in
set_option maxHeartbeats 1000000 in
theorem kyB_X4_findName_2 {b : Bool} {L : List (Nat × Nat)} (hU : ∀ q ∈ L, q ∈ nyT) (hL : ∀ q ∈ kyL_X4_findName, q ∈ L) (hb : False → b = false) {Q : Int32 → HS → Prop} {X2 X2_2 : Nat → Int32 → HS → Prop} {v0 : Nat} {v1 : Int32} {S0 S : HS} (h : B_X4_findName_2 Q X2 v0 v1 S) (K : K9 b L S0 S) (hX2 : ∀ (u0 : Nat) (u1 : Int32) (u2 : HS), X2 u0 u1 u2 → K9 b L S0 u2 → X2_2 u0 u1 u2) : B_X4_findName_2 (fun r T => Q r T ∧ K9 b L S0 T) X2_2 v0 v1 S := by
  delta B_X4_findName_2 at h ⊢
  obtain ⟨c1, h⟩ := h
  refine ⟨c1, ?_⟩
  have o2 := c1
  intro x4 e3
  have h := h x4 e3
  refine ⟨?_, ?_⟩
  · intro c5
    have h := h.1 c5
    exact ⟨h, K⟩
  · intro c6
    have h := h.2 c6
    refine ⟨?_, ?_⟩
    · intro c7
      have h := h.1 c7
      exact ⟨h, K⟩
    · intro c8
      have h := h.2 c8
      obtain ⟨b9, e10, h⟩ := h
      refine ⟨b9, e10, ?_⟩
      obtain ⟨c11, h⟩ := h
      refine ⟨c11, ?_⟩
      obtain ⟨c12, h⟩ := h
      refine ⟨c12, ?_⟩
      intro x14 e13
      have h := h x14 e13
      intro x16 e15
      have h := h x16 e15
      refine ⟨?_, ?_⟩
      · intro c17
        have h := h.1 c17
        intro x19 e18
        have h := h x19 e18
        exact hX2 _ _ _ h K
      · intro c20
        have h := h.2 c20
        obtain ⟨b21, e22, h⟩ := h
        refine ⟨b21, e22, ?_⟩
        obtain ⟨c23, h⟩ := h
        refine ⟨c23, ?_⟩
        obtain ⟨c24, h⟩ := h
        refine ⟨c24, ?_⟩
        intro x26 e25
        have h := h x26 e25
        exact ⟨h, K⟩
theorem ky_X4_findName_2 {b : Bool} {L : List (Nat × Nat)} (hU : ∀ q ∈ L, q ∈ nyT) (hL : ∀ q ∈ kyL_X4_findName, q ∈ L) (hb : False → b = false) {Q : Int32 → HS → Prop} {v0 : Nat} {v1 : Int32} {S0 S : HS} (h : P_X4_findName_2 Q v0 v1 S) (K : K9 b L S0 S) : P_X4_findName_2 (fun r T => Q r T ∧ K9 b L S0 T) v0 v1 S := h (fun v0 v1 S => K9 b L S0 S → P_X4_findName_2 (fun r T => Q r T ∧ K9 b L S0 T) v0 v1 S) (fun v0 v1 S hB K => fd_X4_findName_2 (kyB_X4_findName_2 hU hL hb hB K (fun _ _ _ hx K => hx K))) K
set_option maxRecDepth 20000 in
set_option maxHeartbeats 1000000 in
theorem ky_X4_findName_0 {b : Bool} {L : List (Nat × Nat)} (hU : ∀ q ∈ L, q ∈ nyT) (hL : ∀ q ∈ kyL_X4_findName, q ∈ L) (hb : False → b = false) {Q : Int32 → HS → Prop} {v0 : Nat} {S0 S : HS} (h : P_X4_findName_0 Q v0 S) (K : K9 b L S0 S) : P_X4_findName_0 (fun r T => Q r T ∧ K9 b L S0 T) v0 S := by
  delta P_X4_findName_0 at h ⊢
  exact ky_X4_findName_2 hU hL hb h K
theorem ky_X4_findName {b : Bool} {L : List (Nat × Nat)} (hU : ∀ q ∈ L, q ∈ nyT) (hL : ∀ q ∈ kyL_X4_findName, q ∈ L) (hb : False → b = false) {Q : Int32 → HS → Prop} {v0 : Nat} {S : HS} (h : P_X4_findName v0 Q S) : P_X4_findName v0 (fun r T => Q r T ∧ K9 b L S T) S := ky_X4_findName_0 hU hL hb h (k9_rf b L S)
abbrev kyL_X8_isTold : List (Nat × Nat) := []
set_option maxRecDepth 20000 in
set_option maxHeartbeats 1000000 in
theorem ky_X8_isTold_0 {b : Bool} {L : List (Nat × Nat)} (hU : ∀ q ∈ L, q ∈ nyT) (hL : ∀ q ∈ kyL_X8_isTold, q ∈ L) (hb : False → b = false) {Q : Int32 → HS → Prop} {v0 : Nat} {S0 S : HS} (h : P_X8_isTold_0 Q v0 S) (K : K9 b L S0 S) : P_X8_isTold_0 (fun r T => Q r T ∧ K9 b L S0 T) v0 S := by
  delta P_X8_isTold_0 at h ⊢
  obtain ⟨c1, h⟩ := h
  refine ⟨c1, ?_⟩
  intro x3 e2
  have h := h x3 e2
  refine ⟨?_, ?_⟩
  · intro c4
    have h := h.1 c4
    exact ⟨h, K⟩
  · intro c5
    have h := h.2 c5
    exact ⟨h, K⟩
theorem ky_X8_isTold {b : Bool} {L : List (Nat × Nat)} (hU : ∀ q ∈ L, q ∈ nyT) (hL : ∀ q ∈ kyL_X8_isTold, q ∈ L) (hb : False → b = false) {Q : Int32 → HS → Prop} {v0 : Nat} {S : HS} (h : P_X8_isTold v0 Q S) : P_X8_isTold v0 (fun r T => Q r T ∧ K9 b L S T) S := ky_X8_isTold_0 hU hL hb h (k9_rf b L S)
abbrev kyL_X4_hasRoom : List (Nat × Nat) := []
set_option maxRecDepth 20000 in
set_option maxHeartbeats 1000000 in
theorem ky_X4_hasRoom_0 {b : Bool} {L : List (Nat × Nat)} (hU : ∀ q ∈ L, q ∈ nyT) (hL : ∀ q ∈ kyL_X4_hasRoom, q ∈ L) (hb : False → b = false) {Q : Int32 → HS → Prop} {v0 : Nat} {v1 : Int32} {v2 : Int32} {S0 S : HS} (h : P_X4_hasRoom_0 Q v0 v1 v2 S) (K : K9 b L S0 S) : P_X4_hasRoom_0 (fun r T => Q r T ∧ K9 b L S0 T) v0 v1 v2 S := by
  delta P_X4_hasRoom_0 at h ⊢
  obtain ⟨c1, h⟩ := h
  refine ⟨c1, ?_⟩
  have o2 := c1
  obtain ⟨b3, e4, h⟩ := h
  refine ⟨b3, e4, ?_⟩
  obtain ⟨c5, h⟩ := h
  refine ⟨c5, ?_⟩
  refine cm_X8_isTold (ky_X8_isTold (b := b) hU (fun q hq => hL q ((by decide : ∀ q ∈ kyL_X8_isTold, q ∈ kyL_X4_hasRoom) q hq)) (fun z => z.elim) h) h (fun x6 x7 p10 h g8 g9 => ?_)
  have h := h g8 g9
  have K := k9_tr K p10.2
  have o2 := gr_ob p10.2.1 o2
  refine ⟨?_, ?_⟩
  · intro c11
    have h := h.1 c11
    refine ⟨?_, ?_⟩
    · intro c12
      have h := h.1 c12
      refine cm_X4_next (ky_X4_next (b := b) hU (fun q hq => hL q ((by decide : ∀ q ∈ kyL_X4_next, q ∈ kyL_X4_hasRoom) q hq)) (fun z => z.elim) h) h (fun x13 p15 h g14 => ?_)
      have h := h g14
      have K := k9_tr K p15.2
      have o2 := gr_ob p15.2.1 o2
      exact ⟨h, K⟩
    · intro c16
      have h := h.2 c16
      refine cm_X4_fail (ky_X4_fail (b := b) hU (fun q hq => hL q ((by decide : ∀ q ∈ kyL_X4_fail, q ∈ kyL_X4_hasRoom) q hq)) (fun z => z.elim) h) h (fun x17 x18 p21 h g19 g20 => ?_)
      have h := h g19 g20
      have K := k9_tr K p21.2
      have o2 := gr_ob p21.2.1 o2
      obtain ⟨c22, h⟩ := h
      refine ⟨c22, ?_⟩
      exact ⟨h, K⟩
  · intro c23
    have h := h.2 c23
    refine cm_X4_fail (ky_X4_fail (b := b) hU (fun q hq => hL q ((by decide : ∀ q ∈ kyL_X4_fail, q ∈ kyL_X4_hasRoom) q hq)) (fun z => z.elim) h) h (fun x24 x25 p28 h g26 g27 => ?_)
    have h := h g26 g27
    have K := k9_tr K p28.2
    have o2 := gr_ob p28.2.1 o2
    obtain ⟨c29, h⟩ := h
    refine ⟨c29, ?_⟩
    exact ⟨h, K⟩
theorem ky_X4_hasRoom {b : Bool} {L : List (Nat × Nat)} (hU : ∀ q ∈ L, q ∈ nyT) (hL : ∀ q ∈ kyL_X4_hasRoom, q ∈ L) (hb : False → b = false) {Q : Int32 → HS → Prop} {v0 : Nat} {v1 : Int32} {v2 : Int32} {S : HS} (h : P_X4_hasRoom v0 v1 v2 Q S) : P_X4_hasRoom v0 v1 v2 (fun r T => Q r T ∧ K9 b L S T) S := ky_X4_hasRoom_0 hU hL hb h (k9_rf b L S)
end
section
abbrev kyL_X4_kindOf : List (Nat × Nat) := []
set_option maxRecDepth 20000 in
set_option maxHeartbeats 1000000 in
theorem ky_X4_kindOf_0 {b : Bool} {L : List (Nat × Nat)} (hU : ∀ q ∈ L, q ∈ nyT) (hL : ∀ q ∈ kyL_X4_kindOf, q ∈ L) (hb : False → b = false) {Q : Int32 → HS → Prop} {v0 : Nat} {v1 : Nat} {S0 S : HS} (h : P_X4_kindOf_0 Q v0 v1 S) (K : K9 b L S0 S) : P_X4_kindOf_0 (fun r T => Q r T ∧ K9 b L S0 T) v0 v1 S := by
  delta P_X4_kindOf_0 at h ⊢
  obtain ⟨c1, h⟩ := h
  refine ⟨c1, ?_⟩
  intro x3 e2
  have h := h x3 e2
  have K := k9_I K e2
  refine cm_X4_is (ky_X4_is (b := b) hU (fun q hq => hL q ((by decide : ∀ q ∈ kyL_X4_is, q ∈ kyL_X4_kindOf) q hq)) (fun z => z.elim) h) h (fun x4 x5 p8 h g6 g7 => ?_)
  have h := h g6 g7
  have K := k9_tr K p8.2
  refine ⟨?_, ?_⟩
  · intro c9
    have h := h.1 c9
    refine cm_X4_is (ky_X4_is (b := b) hU (fun q hq => hL q ((by decide : ∀ q ∈ kyL_X4_is, q ∈ kyL_X4_kindOf) q hq)) (fun z => z.elim) h) h (fun x10 x11 p14 h g12 g13 => ?_)
    have h := h g12 g13
    have K := k9_tr K p14.2
    refine ⟨?_, ?_⟩
    · intro c15
      have h := h.1 c15
      refine cm_X4_is (ky_X4_is (b := b) hU (fun q hq => hL q ((by decide : ∀ q ∈ kyL_X4_is, q ∈ kyL_X4_kindOf) q hq)) (fun z => z.elim) h) h (fun x16 x17 p20 h g18 g19 => ?_)
      have h := h g18 g19
      have K := k9_tr K p20.2
      refine ⟨?_, ?_⟩
      · intro c21
        have h := h.1 c21
        obtain ⟨c22, h⟩ := h
        refine ⟨c22, ?_⟩
        intro x24 e23
        have h := h x24 e23
        have K := k9_I K e23
        refine cm_X4_word (ky_X4_word (b := b) hU (fun q hq => hL q ((by decide : ∀ q ∈ kyL_X4_word, q ∈ kyL_X4_kindOf) q hq)) (fun z => z.elim) h) h (fun x25 x26 p29 h g27 g28 => ?_)
        have h := h g27 g28
        have K := k9_tr K p29.2
        intro x31 e30
        have h := h x31 e30
        intro x33 e32
        have h := h x33 e32
        have K := k9_I K e32
        obtain ⟨c34, h⟩ := h
        refine ⟨c34, ?_⟩
        exact ⟨h, K⟩
      · intro c35
        have h := h.2 c35
        obtain ⟨c36, h⟩ := h
        refine ⟨c36, ?_⟩
        intro x38 e37
        have h := h x38 e37
        have K := k9_I K e37
        refine cm_X4_wordAndWhole (ky_X4_wordAndWhole (b := b) hU (fun q hq => hL q ((by decide : ∀ q ∈ kyL_X4_wordAndWhole, q ∈ kyL_X4_kindOf) q hq)) (fun z => z.elim) h) h (fun x39 x40 p43 h g41 g42 => ?_)
        have h := h g41 g42
        have K := k9_tr K p43.2
        intro x45 e44
        have h := h x45 e44
        intro x47 e46
        have h := h x47 e46
        have K := k9_I K e46
        obtain ⟨c48, h⟩ := h
        refine ⟨c48, ?_⟩
        exact ⟨h, K⟩
    · intro c49
      have h := h.2 c49
      obtain ⟨c50, h⟩ := h
      refine ⟨c50, ?_⟩
      intro x52 e51
      have h := h x52 e51
      have K := k9_I K e51
      refine cm_X4_wordAndWhole (ky_X4_wordAndWhole (b := b) hU (fun q hq => hL q ((by decide : ∀ q ∈ kyL_X4_wordAndWhole, q ∈ kyL_X4_kindOf) q hq)) (fun z => z.elim) h) h (fun x53 x54 p57 h g55 g56 => ?_)
      have h := h g55 g56
      have K := k9_tr K p57.2
      intro x59 e58
      have h := h x59 e58
      intro x61 e60
      have h := h x61 e60
      have K := k9_I K e60
      obtain ⟨c62, h⟩ := h
      refine ⟨c62, ?_⟩
      exact ⟨h, K⟩
  · intro c63
    have h := h.2 c63
    obtain ⟨c64, h⟩ := h
    refine ⟨c64, ?_⟩
    intro x66 e65
    have h := h x66 e65
    have K := k9_I K e65
    refine cm_X4_wordAndWhole (ky_X4_wordAndWhole (b := b) hU (fun q hq => hL q ((by decide : ∀ q ∈ kyL_X4_wordAndWhole, q ∈ kyL_X4_kindOf) q hq)) (fun z => z.elim) h) h (fun x67 x68 p71 h g69 g70 => ?_)
    have h := h g69 g70
    have K := k9_tr K p71.2
    intro x73 e72
    have h := h x73 e72
    intro x75 e74
    have h := h x75 e74
    have K := k9_I K e74
    obtain ⟨c76, h⟩ := h
    refine ⟨c76, ?_⟩
    exact ⟨h, K⟩
theorem ky_X4_kindOf {b : Bool} {L : List (Nat × Nat)} (hU : ∀ q ∈ L, q ∈ nyT) (hL : ∀ q ∈ kyL_X4_kindOf, q ∈ L) (hb : False → b = false) {Q : Int32 → HS → Prop} {v0 : Nat} {v1 : Nat} {S : HS} (h : P_X4_kindOf v0 v1 Q S) : P_X4_kindOf v0 v1 (fun r T => Q r T ∧ K9 b L S T) S := ky_X4_kindOf_0 hU hL hb h (k9_rf b L S)
abbrev kyL_X4_newName : List (Nat × Nat) := [(4, 11)]
set_option maxRecDepth 20000 in
set_option maxHeartbeats 1000000 in
theorem ky_X4_newName_69 {b : Bool} {L : List (Nat × Nat)} (hU : ∀ q ∈ L, q ∈ nyT) (hL : ∀ q ∈ kyL_X4_newName, q ∈ L) (hb : False → b = false) {Q : Int32 → HS → Prop} {v0 : Nat} {S0 S : HS} (h : P_X4_newName_69 Q v0 S) (K : K9 b L S0 S) : P_X4_newName_69 (fun r T => Q r T ∧ K9 b L S0 T) v0 S := by
  delta P_X4_newName_69 at h ⊢
  obtain ⟨c1, h⟩ := h
  refine ⟨c1, ?_⟩
  refine cm_X4_next (ky_X4_next (b := b) hU (fun q hq => hL q ((by decide : ∀ q ∈ kyL_X4_next, q ∈ kyL_X4_newName) q hq)) (fun z => z.elim) h) h (fun x2 p4 h g3 => ?_)
  have h := h g3
  have K := k9_tr K p4.2
  exact ⟨h, K⟩
set_option maxRecDepth 20000 in
set_option maxHeartbeats 1000000 in
theorem ky_X4_newName_0 {b : Bool} {L : List (Nat × Nat)} (hU : ∀ q ∈ L, q ∈ nyT) (hL : ∀ q ∈ kyL_X4_newName, q ∈ L) (hb : False → b = false) {Q : Int32 → HS → Prop} {v0 : Nat} {v1 : Int32} {S0 S : HS} (h : P_X4_newName_0 Q v0 v1 S) (K : K9 b L S0 S) : P_X4_newName_0 (fun r T => Q r T ∧ K9 b L S0 T) v0 v1 S := by
  delta P_X4_newName_0 at h ⊢
  obtain ⟨c1, h⟩ := h
  refine ⟨c1, ?_⟩
  have o2 := c1
  refine cm_X4_canBeName (ky_X4_canBeName (b := b) hU (fun q hq => hL q ((by decide : ∀ q ∈ kyL_X4_canBeName, q ∈ kyL_X4_newName) q hq)) (fun z => z.elim) h) h (fun x3 x4 p7 h g5 g6 => ?_)
  have h := h g5 g6
  have K := k9_tr K p7.2
  have o2 := gr_ob p7.2.1 o2
  refine ⟨?_, ?_⟩
  · intro c8
    have h := h.1 c8
    refine cm_X4_findName (ky_X4_findName (b := b) hU (fun q hq => hL q ((by decide : ∀ q ∈ kyL_X4_findName, q ∈ kyL_X4_newName) q hq)) (fun z => z.elim) h) h (fun x9 x10 p12 h g11 => ?_)
    have h := h g11
    have K := k9_tr K p12.2
    have o2 := gr_ob p12.2.1 o2
    refine ⟨?_, ?_⟩
    · intro c13
      have h := h.1 c13
      intro x15 e14
      have h := h x15 e14
      refine ⟨?_, ?_⟩
      · intro c16
        have h := h.1 c16
        exact ky_X4_newName_69 hU hL hb h K
      · intro c17
        have h := h.2 c17
        obtain ⟨b18, e19, h⟩ := h
        refine ⟨b18, e19, ?_⟩
        have n20 := k9_nr K e19 o2 (hL _ (by decide))
        intro x22 e21
        have h := h x22 e21
        intro x24 e23
        have h := h x24 e23
        obtain ⟨c25, h⟩ := h
        refine ⟨c25, ?_⟩
        obtain ⟨c26, h⟩ := h
        refine ⟨c26, ?_⟩
        intro x28 e27
        have h := h x28 e27
        have K := k9_J K e27 n20
        have o2 := ob_wJ o2 e27
        obtain ⟨b29, e30, h⟩ := h
        refine ⟨b29, e30, ?_⟩
        intro x32 e31
        have h := h x32 e31
        obtain ⟨c33, h⟩ := h
        refine ⟨c33, ?_⟩
        obtain ⟨c34, h⟩ := h
        refine ⟨c34, ?_⟩
        intro x36 e35
        have h := h x36 e35
        have K := k9_I K e35
        have o2 := ob_wI o2 e35
        intro x38 e37
        have h := h x38 e37
        intro x40 e39
        have h := h x40 e39
        intro x42 e41
        have h := h x42 e41
        have K := k9_I K e41
        have o2 := ob_wI o2 e41
        exact ky_X4_newName_69 hU hL hb h K
    · intro c43
      have h := h.2 c43
      refine cm_X4_fail (ky_X4_fail (b := b) hU (fun q hq => hL q ((by decide : ∀ q ∈ kyL_X4_fail, q ∈ kyL_X4_newName) q hq)) (fun z => z.elim) h) h (fun x44 x45 p48 h g46 g47 => ?_)
      have h := h g46 g47
      have K := k9_tr K p48.2
      have o2 := gr_ob p48.2.1 o2
      obtain ⟨c49, h⟩ := h
      refine ⟨c49, ?_⟩
      exact ⟨h, K⟩
  · intro c50
    have h := h.2 c50
    refine cm_X4_fail (ky_X4_fail (b := b) hU (fun q hq => hL q ((by decide : ∀ q ∈ kyL_X4_fail, q ∈ kyL_X4_newName) q hq)) (fun z => z.elim) h) h (fun x51 x52 p55 h g53 g54 => ?_)
    have h := h g53 g54
    have K := k9_tr K p55.2
    have o2 := gr_ob p55.2.1 o2
    obtain ⟨c56, h⟩ := h
    refine ⟨c56, ?_⟩
    exact ⟨h, K⟩
theorem ky_X4_newName {b : Bool} {L : List (Nat × Nat)} (hU : ∀ q ∈ L, q ∈ nyT) (hL : ∀ q ∈ kyL_X4_newName, q ∈ L) (hb : False → b = false) {Q : Int32 → HS → Prop} {v0 : Nat} {v1 : Int32} {S : HS} (h : P_X4_newName v0 v1 Q S) : P_X4_newName v0 v1 (fun r T => Q r T ∧ K9 b L S T) S := ky_X4_newName_0 hU hL hb h (k9_rf b L S)
abbrev kyL_X8_clear : List (Nat × Nat) := []
set_option maxRecDepth 20000 in
set_option maxHeartbeats 1000000 in
theorem ky_X8_clear_0 {b : Bool} {L : List (Nat × Nat)} (hU : ∀ q ∈ L, q ∈ nyT) (hL : ∀ q ∈ kyL_X8_clear, q ∈ L) (hb : False → b = false) {Q : HS → Prop} {v0 : Nat} {S0 S : HS} (h : P_X8_clear_0 Q v0 S) (K : K9 b L S0 S) : P_X8_clear_0 (fun T => Q T ∧ K9 b L S0 T) v0 S := by
  delta P_X8_clear_0 at h ⊢
  obtain ⟨c1, h⟩ := h
  refine ⟨c1, ?_⟩
  intro x3 e2
  have h := h x3 e2
  have K := k9_I K e2
  intro x5 e4
  have h := h x5 e4
  have K := k9_I K e4
  intro x7 e6
  have h := h x7 e6
  have K := k9_I K e6
  intro x9 e8
  have h := h x9 e8
  have K := k9_I K e8
  intro x11 e10
  have h := h x11 e10
  have K := k9_I K e10
  intro x13 e12
  have h := h x13 e12
  have K := k9_I K e12
  exact ⟨h, K⟩
theorem ky_X8_clear {b : Bool} {L : List (Nat × Nat)} (hU : ∀ q ∈ L, q ∈ nyT) (hL : ∀ q ∈ kyL_X8_clear, q ∈ L) (hb : False → b = false) {Q : HS → Prop} {v0 : Nat} {S : HS} (h : P_X8_clear v0 Q S) : P_X8_clear v0 (fun T => Q T ∧ K9 b L S T) S := ky_X8_clear_0 hU hL hb h (k9_rf b L S)
abbrev kyL_X4_open : List (Nat × Nat) := []
set_option maxRecDepth 20000 in
set_option maxHeartbeats 1000000 in
theorem ky_X4_open_0 {b : Bool} {L : List (Nat × Nat)} (hU : ∀ q ∈ L, q ∈ nyT) (hL : ∀ q ∈ kyL_X4_open, q ∈ L) (hb : False → b = false) {Q : HS → Prop} {v0 : Nat} {v1 : Nat} {v2 : Int32} {S0 S : HS} (h : P_X4_open_0 Q v0 v1 v2 S) (K : K9 b L S0 S) : P_X4_open_0 (fun T => Q T ∧ K9 b L S0 T) v0 v1 v2 S := by
  delta P_X4_open_0 at h ⊢
  obtain ⟨c1, h⟩ := h
  refine ⟨c1, ?_⟩
  have o2 := c1
  intro x4 e3
  have h := h x4 e3
  have K := k9_R K hU e3 o2 (by decide) (by decide)
  have o2 := ob_wR o2 e3
  obtain ⟨c5, h⟩ := h
  refine ⟨c5, ?_⟩
  intro x7 e6
  have h := h x7 e6
  intro x9 e8
  have h := h x9 e8
  have K := k9_I K e8
  have o2 := ob_wI o2 e8
  intro x11 e10
  have h := h x11 e10
  have K := k9_I K e10
  have o2 := ob_wI o2 e10
  intro x13 e12
  have h := h x13 e12
  have K := k9_I K e12
  have o2 := ob_wI o2 e12
  intro x15 e14
  have h := h x15 e14
  have K := k9_I K e14
  have o2 := ob_wI o2 e14
  intro x17 e16
  have h := h x17 e16
  have K := k9_I K e16
  have o2 := ob_wI o2 e16
  obtain ⟨b18, e19, h⟩ := h
  refine ⟨b18, e19, ?_⟩
  obtain ⟨c20, h⟩ := h
  refine ⟨c20, ?_⟩
  refine cm_X8_clear (ky_X8_clear (b := b) hU (fun q hq => hL q ((by decide : ∀ q ∈ kyL_X8_clear, q ∈ kyL_X4_open) q hq)) (fun z => z.elim) h) h (fun x21 p23 h g22 => ?_)
  have h := h g22
  have K := k9_tr K p23.2
  have o2 := gr_ob p23.2.1 o2
  refine cm_X4_next (ky_X4_next (b := b) hU (fun q hq => hL q ((by decide : ∀ q ∈ kyL_X4_next, q ∈ kyL_X4_open) q hq)) (fun z => z.elim) h) h (fun x24 p26 h g25 => ?_)
  have h := h g25
  have K := k9_tr K p26.2
  have o2 := gr_ob p26.2.1 o2
  exact ⟨h, K⟩
theorem ky_X4_open {b : Bool} {L : List (Nat × Nat)} (hU : ∀ q ∈ L, q ∈ nyT) (hL : ∀ q ∈ kyL_X4_open, q ∈ L) (hb : False → b = false) {Q : HS → Prop} {v0 : Nat} {v1 : Nat} {v2 : Int32} {S : HS} (h : P_X4_open v0 v1 v2 Q S) : P_X4_open v0 v1 v2 (fun T => Q T ∧ K9 b L S T) S := ky_X4_open_0 hU hL hb h (k9_rf b L S)
abbrev kyL_X4_placeBut : List (Nat × Nat) := []
set_option maxRecDepth 20000 in
set_option maxHeartbeats 1000000 in
theorem ky_X4_placeBut_29 {b : Bool} {L : List (Nat × Nat)} (hU : ∀ q ∈ L, q ∈ nyT) (hL : ∀ q ∈ kyL_X4_placeBut, q ∈ L) (hb : False → b = false) {Q : Int32 → HS → Prop} {v0 : Nat} {S0 S : HS} (h : P_X4_placeBut_29 Q v0 S) (K : K9 b L S0 S) : P_X4_placeBut_29 (fun r T => Q r T ∧ K9 b L S0 T) v0 S := by
  delta P_X4_placeBut_29 at h ⊢
  obtain ⟨c1, h⟩ := h
  refine ⟨c1, ?_⟩
  refine cm_X4_fail (ky_X4_fail (b := b) hU (fun q hq => hL q ((by decide : ∀ q ∈ kyL_X4_fail, q ∈ kyL_X4_placeBut) q hq)) (fun z => z.elim) h) h (fun x2 x3 p6 h g4 g5 => ?_)
  have h := h g4 g5
  have K := k9_tr K p6.2
  obtain ⟨c7, h⟩ := h
  refine ⟨c7, ?_⟩
  exact ⟨h, K⟩
set_option maxRecDepth 20000 in
set_option maxHeartbeats 1000000 in
theorem ky_X4_placeBut_0 {b : Bool} {L : List (Nat × Nat)} (hU : ∀ q ∈ L, q ∈ nyT) (hL : ∀ q ∈ kyL_X4_placeBut, q ∈ L) (hb : False → b = false) {Q : Int32 → HS → Prop} {v0 : Nat} {v1 : Int32} {S0 S : HS} (h : P_X4_placeBut_0 Q v0 v1 S) (K : K9 b L S0 S) : P_X4_placeBut_0 (fun r T => Q r T ∧ K9 b L S0 T) v0 v1 S := by
  delta P_X4_placeBut_0 at h ⊢
  obtain ⟨c1, h⟩ := h
  refine ⟨c1, ?_⟩
  refine cm_X4_canBeName (ky_X4_canBeName (b := b) hU (fun q hq => hL q ((by decide : ∀ q ∈ kyL_X4_canBeName, q ∈ kyL_X4_placeBut) q hq)) (fun z => z.elim) h) h (fun x2 x3 p6 h g4 g5 => ?_)
  have h := h g4 g5
  have K := k9_tr K p6.2
  refine ⟨?_, ?_⟩
  · intro c7
    have h := h.1 c7
    refine cm_X4_findName (ky_X4_findName (b := b) hU (fun q hq => hL q ((by decide : ∀ q ∈ kyL_X4_findName, q ∈ kyL_X4_placeBut) q hq)) (fun z => z.elim) h) h (fun x8 x9 p11 h g10 => ?_)
    have h := h g10
    have K := k9_tr K p11.2
    refine ⟨?_, ?_⟩
    · intro c12
      have h := h.1 c12
      exact ky_X4_placeBut_29 hU hL hb h K
    · intro c13
      have h := h.2 c13
      refine ⟨?_, ?_⟩
      · intro c14
        have h := h.1 c14
        refine ⟨?_, ?_⟩
        · intro c15
          have h := h.1 c15
          intro x17 e16
          have h := h x17 e16
          have K := k9_I K e16
          refine cm_X4_next (ky_X4_next (b := b) hU (fun q hq => hL q ((by decide : ∀ q ∈ kyL_X4_next, q ∈ kyL_X4_placeBut) q hq)) (fun z => z.elim) h) h (fun x18 p20 h g19 => ?_)
          have h := h g19
          have K := k9_tr K p20.2
          exact ⟨h, K⟩
        · intro c21
          have h := h.2 c21
          refine cm_X4_fail (ky_X4_fail (b := b) hU (fun q hq => hL q ((by decide : ∀ q ∈ kyL_X4_fail, q ∈ kyL_X4_placeBut) q hq)) (fun z => z.elim) h) h (fun x22 x23 p26 h g24 g25 => ?_)
          have h := h g24 g25
          have K := k9_tr K p26.2
          obtain ⟨c27, h⟩ := h
          refine ⟨c27, ?_⟩
          exact ⟨h, K⟩
      · intro c28
        have h := h.2 c28
        exact ky_X4_placeBut_29 hU hL hb h K
  · intro c29
    have h := h.2 c29
    refine cm_X4_fail (ky_X4_fail (b := b) hU (fun q hq => hL q ((by decide : ∀ q ∈ kyL_X4_fail, q ∈ kyL_X4_placeBut) q hq)) (fun z => z.elim) h) h (fun x30 x31 p34 h g32 g33 => ?_)
    have h := h g32 g33
    have K := k9_tr K p34.2
    obtain ⟨c35, h⟩ := h
    refine ⟨c35, ?_⟩
    exact ⟨h, K⟩
theorem ky_X4_placeBut {b : Bool} {L : List (Nat × Nat)} (hU : ∀ q ∈ L, q ∈ nyT) (hL : ∀ q ∈ kyL_X4_placeBut, q ∈ L) (hb : False → b = false) {Q : Int32 → HS → Prop} {v0 : Nat} {v1 : Int32} {S : HS} (h : P_X4_placeBut v0 v1 Q S) : P_X4_placeBut v0 v1 (fun r T => Q r T ∧ K9 b L S T) S := ky_X4_placeBut_0 hU hL hb h (k9_rf b L S)
abbrev kyL_X4_placeLine : List (Nat × Nat) := [(4, 11)]
set_option maxRecDepth 20000 in
set_option maxHeartbeats 1000000 in
theorem ky_X4_placeLine_64 {b : Bool} {L : List (Nat × Nat)} (hU : ∀ q ∈ L, q ∈ nyT) (hL : ∀ q ∈ kyL_X4_placeLine, q ∈ L) (hb : False → b = false) {Q : Int32 → HS → Prop} {v0 : Nat} {v1 : Int32} {S0 S : HS} (h : P_X4_placeLine_64 Q v0 v1 S) (K : K9 b L S0 S) : P_X4_placeLine_64 (fun r T => Q r T ∧ K9 b L S0 T) v0 v1 S := by
  delta P_X4_placeLine_64 at h ⊢
  obtain ⟨c1, h⟩ := h
  refine ⟨c1, ?_⟩
  have o2 := c1
  obtain ⟨b3, e4, h⟩ := h
  refine ⟨b3, e4, ?_⟩
  obtain ⟨c5, h⟩ := h
  refine ⟨c5, ?_⟩
  obtain ⟨b6, e7, h⟩ := h
  refine ⟨b6, e7, ?_⟩
  obtain ⟨b8, e9, h⟩ := h
  refine ⟨b8, e9, ?_⟩
  obtain ⟨c10, h⟩ := h
  refine ⟨c10, ?_⟩
  intro x12 e11
  have h := h x12 e11
  obtain ⟨c13, h⟩ := h
  refine ⟨c13, ?_⟩
  obtain ⟨c14, h⟩ := h
  refine ⟨c14, ?_⟩
  intro x16 e15
  have h := h x16 e15
  have K := k9_I K e15
  have o2 := ob_wI o2 e15
  obtain ⟨b17, e18, h⟩ := h
  refine ⟨b17, e18, ?_⟩
  obtain ⟨c19, h⟩ := h
  refine ⟨c19, ?_⟩
  intro x21 e20
  have h := h x21 e20
  intro x23 e22
  have h := h x23 e22
  intro x25 e24
  have h := h x25 e24
  have K := k9_I K e24
  have o2 := ob_wI o2 e24
  exact ⟨h, K⟩
set_option maxRecDepth 20000 in
set_option maxHeartbeats 1000000 in
theorem ky_X4_placeLine_0 {b : Bool} {L : List (Nat × Nat)} (hU : ∀ q ∈ L, q ∈ nyT) (hL : ∀ q ∈ kyL_X4_placeLine, q ∈ L) (hb : False → b = false) {Q : Int32 → HS → Prop} {v0 : Nat} {S0 S : HS} (h : P_X4_placeLine_0 Q v0 S) (K : K9 b L S0 S) : P_X4_placeLine_0 (fun r T => Q r T ∧ K9 b L S0 T) v0 S := by
  delta P_X4_placeLine_0 at h ⊢
  obtain ⟨c1, h⟩ := h
  refine ⟨c1, ?_⟩
  have o2 := c1
  obtain ⟨b3, e4, h⟩ := h
  refine ⟨b3, e4, ?_⟩
  obtain ⟨c5, h⟩ := h
  refine ⟨c5, ?_⟩
  intro x7 e6
  have h := h x7 e6
  refine cm_X4_newName (ky_X4_newName (b := b) hU (fun q hq => hL q ((by decide : ∀ q ∈ kyL_X4_newName, q ∈ kyL_X4_placeLine) q hq)) (fun z => z.elim) h) h (fun x8 x9 p12 h g10 g11 => ?_)
  have h := h g10 g11
  have K := k9_tr K p12.2
  have o2 := gr_ob p12.2.1 o2
  refine ⟨?_, ?_⟩
  · intro c13
    have h := h.1 c13
    refine cm_X4_is (ky_X4_is (b := b) hU (fun q hq => hL q ((by decide : ∀ q ∈ kyL_X4_is, q ∈ kyL_X4_placeLine) q hq)) (fun z => z.elim) h) h (fun x14 x15 p18 h g16 g17 => ?_)
    have h := h g16 g17
    have K := k9_tr K p18.2
    have o2 := gr_ob p18.2.1 o2
    refine ⟨?_, ?_⟩
    · intro c19
      have h := h.1 c19
      refine cm_X4_is (ky_X4_is (b := b) hU (fun q hq => hL q ((by decide : ∀ q ∈ kyL_X4_is, q ∈ kyL_X4_placeLine) q hq)) (fun z => z.elim) h) h (fun x20 x21 p24 h g22 g23 => ?_)
      have h := h g22 g23
      have K := k9_tr K p24.2
      have o2 := gr_ob p24.2.1 o2
      refine ⟨?_, ?_⟩
      · intro c25
        have h := h.1 c25
        exact ky_X4_placeLine_64 hU hL hb h K
      · intro c26
        have h := h.2 c26
        refine cm_X4_wordAndWhole (ky_X4_wordAndWhole (b := b) hU (fun q hq => hL q ((by decide : ∀ q ∈ kyL_X4_wordAndWhole, q ∈ kyL_X4_placeLine) q hq)) (fun z => z.elim) h) h (fun x27 x28 p31 h g29 g30 => ?_)
        have h := h g29 g30
        have K := k9_tr K p31.2
        have o2 := gr_ob p31.2.1 o2
        refine ⟨?_, ?_⟩
        · intro c32
          have h := h.1 c32
          intro x34 e33
          have h := h x34 e33
          exact ky_X4_placeLine_64 hU hL hb h K
        · intro c35
          have h := h.2 c35
          exact ⟨h, K⟩
    · intro c36
      have h := h.2 c36
      refine cm_X4_next (ky_X4_next (b := b) hU (fun q hq => hL q ((by decide : ∀ q ∈ kyL_X4_next, q ∈ kyL_X4_placeLine) q hq)) (fun z => z.elim) h) h (fun x37 p39 h g38 => ?_)
      have h := h g38
      have K := k9_tr K p39.2
      have o2 := gr_ob p39.2.1 o2
      exact ky_X4_placeLine_64 hU hL hb h K
  · intro c40
    have h := h.2 c40
    exact ⟨h, K⟩
theorem ky_X4_placeLine {b : Bool} {L : List (Nat × Nat)} (hU : ∀ q ∈ L, q ∈ nyT) (hL : ∀ q ∈ kyL_X4_placeLine, q ∈ L) (hb : False → b = false) {Q : Int32 → HS → Prop} {v0 : Nat} {S : HS} (h : P_X4_placeLine v0 Q S) : P_X4_placeLine v0 (fun r T => Q r T ∧ K9 b L S T) S := ky_X4_placeLine_0 hU hL hb h (k9_rf b L S)
abbrev kyL_X4_side : List (Nat × Nat) := []
set_option maxRecDepth 20000 in
set_option maxHeartbeats 1000000 in
theorem ky_X4_side_74 {b : Bool} {L : List (Nat × Nat)} (hU : ∀ q ∈ L, q ∈ nyT) (hL : ∀ q ∈ kyL_X4_side, q ∈ L) (hb : False → b = false) {Q : Int32 → HS → Prop} {v0 : Nat} {S0 S : HS} (h : P_X4_side_74 Q v0 S) (K : K9 b L S0 S) : P_X4_side_74 (fun r T => Q r T ∧ K9 b L S0 T) v0 S := by
  delta P_X4_side_74 at h ⊢
  obtain ⟨c1, h⟩ := h
  refine ⟨c1, ?_⟩
  refine cm_X4_next (ky_X4_next (b := b) hU (fun q hq => hL q ((by decide : ∀ q ∈ kyL_X4_next, q ∈ kyL_X4_side) q hq)) (fun z => z.elim) h) h (fun x2 p4 h g3 => ?_)
  have h := h g3
  have K := k9_tr K p4.2
  exact ⟨h, K⟩
set_option maxRecDepth 20000 in
set_option maxHeartbeats 1000000 in
theorem ky_X4_side_0 {b : Bool} {L : List (Nat × Nat)} (hU : ∀ q ∈ L, q ∈ nyT) (hL : ∀ q ∈ kyL_X4_side, q ∈ L) (hb : False → b = false) {Q : Int32 → HS → Prop} {v0 : Nat} {S0 S : HS} (h : P_X4_side_0 Q v0 S) (K : K9 b L S0 S) : P_X4_side_0 (fun r T => Q r T ∧ K9 b L S0 T) v0 S := by
  delta P_X4_side_0 at h ⊢
  obtain ⟨c1, h⟩ := h
  refine ⟨c1, ?_⟩
  refine cm_X4_is (ky_X4_is (b := b) hU (fun q hq => hL q ((by decide : ∀ q ∈ kyL_X4_is, q ∈ kyL_X4_side) q hq)) (fun z => z.elim) h) h (fun x2 x3 p6 h g4 g5 => ?_)
  have h := h g4 g5
  have K := k9_tr K p6.2
  refine ⟨?_, ?_⟩
  · intro c7
    have h := h.1 c7
    refine cm_X4_is (ky_X4_is (b := b) hU (fun q hq => hL q ((by decide : ∀ q ∈ kyL_X4_is, q ∈ kyL_X4_side) q hq)) (fun z => z.elim) h) h (fun x8 x9 p12 h g10 g11 => ?_)
    have h := h g10 g11
    have K := k9_tr K p12.2
    refine ⟨?_, ?_⟩
    · intro c13
      have h := h.1 c13
      refine cm_X4_is (ky_X4_is (b := b) hU (fun q hq => hL q ((by decide : ∀ q ∈ kyL_X4_is, q ∈ kyL_X4_side) q hq)) (fun z => z.elim) h) h (fun x14 x15 p18 h g16 g17 => ?_)
      have h := h g16 g17
      have K := k9_tr K p18.2
      refine ⟨?_, ?_⟩
      · intro c19
        have h := h.1 c19
        refine cm_X4_is (ky_X4_is (b := b) hU (fun q hq => hL q ((by decide : ∀ q ∈ kyL_X4_is, q ∈ kyL_X4_side) q hq)) (fun z => z.elim) h) h (fun x20 x21 p24 h g22 g23 => ?_)
        have h := h g22 g23
        have K := k9_tr K p24.2
        refine ⟨?_, ?_⟩
        · intro c25
          have h := h.1 c25
          refine cm_X4_fail (ky_X4_fail (b := b) hU (fun q hq => hL q ((by decide : ∀ q ∈ kyL_X4_fail, q ∈ kyL_X4_side) q hq)) (fun z => z.elim) h) h (fun x26 x27 p30 h g28 g29 => ?_)
          have h := h g28 g29
          have K := k9_tr K p30.2
          obtain ⟨c31, h⟩ := h
          refine ⟨c31, ?_⟩
          exact ⟨h, K⟩
        · intro c32
          have h := h.2 c32
          intro x34 e33
          have h := h x34 e33
          have K := k9_I K e33
          exact ky_X4_side_74 hU hL hb h K
      · intro c35
        have h := h.2 c35
        intro x37 e36
        have h := h x37 e36
        have K := k9_I K e36
        exact ky_X4_side_74 hU hL hb h K
    · intro c38
      have h := h.2 c38
      intro x40 e39
      have h := h x40 e39
      have K := k9_I K e39
      exact ky_X4_side_74 hU hL hb h K
  · intro c41
    have h := h.2 c41
    intro x43 e42
    have h := h x43 e42
    have K := k9_I K e42
    exact ky_X4_side_74 hU hL hb h K
theorem ky_X4_side {b : Bool} {L : List (Nat × Nat)} (hU : ∀ q ∈ L, q ∈ nyT) (hL : ∀ q ∈ kyL_X4_side, q ∈ L) (hb : False → b = false) {Q : Int32 → HS → Prop} {v0 : Nat} {S : HS} (h : P_X4_side v0 Q S) : P_X4_side v0 (fun r T => Q r T ∧ K9 b L S T) S := ky_X4_side_0 hU hL hb h (k9_rf b L S)
abbrev kyL_X4_rainLine : List (Nat × Nat) := []
set_option maxRecDepth 20000 in
set_option maxHeartbeats 1000000 in
theorem ky_X4_rainLine_0 {b : Bool} {L : List (Nat × Nat)} (hU : ∀ q ∈ L, q ∈ nyT) (hL : ∀ q ∈ kyL_X4_rainLine, q ∈ L) (hb : False → b = false) {Q : Int32 → HS → Prop} {v0 : Nat} {S0 S : HS} (h : P_X4_rainLine_0 Q v0 S) (K : K9 b L S0 S) : P_X4_rainLine_0 (fun r T => Q r T ∧ K9 b L S0 T) v0 S := by
  delta P_X4_rainLine_0 at h ⊢
  obtain ⟨c1, h⟩ := h
  refine ⟨c1, ?_⟩
  have o2 := c1
  obtain ⟨b3, e4, h⟩ := h
  refine ⟨b3, e4, ?_⟩
  obtain ⟨c5, h⟩ := h
  refine ⟨c5, ?_⟩
  obtain ⟨b6, e7, h⟩ := h
  refine ⟨b6, e7, ?_⟩
  obtain ⟨b8, e9, h⟩ := h
  refine ⟨b8, e9, ?_⟩
  obtain ⟨c10, h⟩ := h
  refine ⟨c10, ?_⟩
  intro x12 e11
  have h := h x12 e11
  obtain ⟨c13, h⟩ := h
  refine ⟨c13, ?_⟩
  obtain ⟨c14, h⟩ := h
  refine ⟨c14, ?_⟩
  obtain ⟨b15, e16, h⟩ := h
  refine ⟨b15, e16, ?_⟩
  refine cm_X4_wordAndWhole (ky_X4_wordAndWhole (b := b) hU (fun q hq => hL q ((by decide : ∀ q ∈ kyL_X4_wordAndWhole, q ∈ kyL_X4_rainLine) q hq)) (fun z => z.elim) h) h (fun x17 x18 p21 h g19 g20 => ?_)
  have h := h g19 g20
  have K := k9_tr K p21.2
  have o2 := gr_ob p21.2.1 o2
  refine ⟨?_, ?_⟩
  · intro c22
    have h := h.1 c22
    intro x24 e23
    have h := h x24 e23
    obtain ⟨c25, h⟩ := h
    refine ⟨c25, ?_⟩
    intro x27 e26
    have h := h x27 e26
    have K := k9_I K e26
    have o2 := ob_wI o2 e26
    refine cm_X4_wordAndWhole (ky_X4_wordAndWhole (b := b) hU (fun q hq => hL q ((by decide : ∀ q ∈ kyL_X4_wordAndWhole, q ∈ kyL_X4_rainLine) q hq)) (fun z => z.elim) h) h (fun x28 x29 p32 h g30 g31 => ?_)
    have h := h g30 g31
    have K := k9_tr K p32.2
    have o2 := gr_ob p32.2.1 o2
    refine ⟨?_, ?_⟩
    · intro c33
      have h := h.1 c33
      intro x35 e34
      have h := h x35 e34
      intro x37 e36
      have h := h x37 e36
      have K := k9_I K e36
      have o2 := ob_wI o2 e36
      refine cm_X4_word (ky_X4_word (b := b) hU (fun q hq => hL q ((by decide : ∀ q ∈ kyL_X4_word, q ∈ kyL_X4_rainLine) q hq)) (fun z => z.elim) h) h (fun x38 x39 p42 h g40 g41 => ?_)
      have h := h g40 g41
      have K := k9_tr K p42.2
      have o2 := gr_ob p42.2.1 o2
      refine ⟨?_, ?_⟩
      · intro c43
        have h := h.1 c43
        exact ⟨h, K⟩
      · intro c44
        have h := h.2 c44
        refine cm_X4_side (ky_X4_side (b := b) hU (fun q hq => hL q ((by decide : ∀ q ∈ kyL_X4_side, q ∈ kyL_X4_rainLine) q hq)) (fun z => z.elim) h) h (fun x45 x46 p49 h g47 g48 => ?_)
        have h := h g47 g48
        have K := k9_tr K p49.2
        have o2 := gr_ob p49.2.1 o2
        refine ⟨?_, ?_⟩
        · intro c50
          have h := h.1 c50
          intro x52 e51
          have h := h x52 e51
          intro x54 e53
          have h := h x54 e53
          have K := k9_I K e53
          have o2 := ob_wI o2 e53
          refine cm_X4_whole (ky_X4_whole (b := b) hU (fun q hq => hL q ((by decide : ∀ q ∈ kyL_X4_whole, q ∈ kyL_X4_rainLine) q hq)) (fun z => z.elim) h) h (fun x55 x56 p59 h g57 g58 => ?_)
          have h := h g57 g58
          have K := k9_tr K p59.2
          have o2 := gr_ob p59.2.1 o2
          refine ⟨?_, ?_⟩
          · intro c60
            have h := h.1 c60
            intro x62 e61
            have h := h x62 e61
            intro x64 e63
            have h := h x64 e63
            have K := k9_I K e63
            have o2 := ob_wI o2 e63
            refine cm_X4_wordAndWhole (ky_X4_wordAndWhole (b := b) hU (fun q hq => hL q ((by decide : ∀ q ∈ kyL_X4_wordAndWhole, q ∈ kyL_X4_rainLine) q hq)) (fun z => z.elim) h) h (fun x65 x66 p69 h g67 g68 => ?_)
            have h := h g67 g68
            have K := k9_tr K p69.2
            have o2 := gr_ob p69.2.1 o2
            refine ⟨?_, ?_⟩
            · intro c70
              have h := h.1 c70
              intro x72 e71
              have h := h x72 e71
              intro x74 e73
              have h := h x74 e73
              have K := k9_I K e73
              have o2 := ob_wI o2 e73
              obtain ⟨b75, e76, h⟩ := h
              refine ⟨b75, e76, ?_⟩
              obtain ⟨c77, h⟩ := h
              refine ⟨c77, ?_⟩
              intro x79 e78
              have h := h x79 e78
              intro x81 e80
              have h := h x81 e80
              intro x83 e82
              have h := h x83 e82
              have K := k9_I K e82
              have o2 := ob_wI o2 e82
              exact ⟨h, K⟩
            · intro c84
              have h := h.2 c84
              exact ⟨h, K⟩
          · intro c85
            have h := h.2 c85
            exact ⟨h, K⟩
        · intro c86
          have h := h.2 c86
          exact ⟨h, K⟩
    · intro c87
      have h := h.2 c87
      exact ⟨h, K⟩
  · intro c88
    have h := h.2 c88
    exact ⟨h, K⟩
theorem ky_X4_rainLine {b : Bool} {L : List (Nat × Nat)} (hU : ∀ q ∈ L, q ∈ nyT) (hL : ∀ q ∈ kyL_X4_rainLine, q ∈ L) (hb : False → b = false) {Q : Int32 → HS → Prop} {v0 : Nat} {S : HS} (h : P_X4_rainLine v0 Q S) : P_X4_rainLine v0 (fun r T => Q r T ∧ K9 b L S T) S := ky_X4_rainLine_0 hU hL hb h (k9_rf b L S)
abbrev kyL_X4_roadLine : List (Nat × Nat) := []
set_option maxRecDepth 20000 in
set_option maxHeartbeats 1000000 in
theorem ky_X4_roadLine_130 {b : Bool} {L : List (Nat × Nat)} (hU : ∀ q ∈ L, q ∈ nyT) (hL : ∀ q ∈ kyL_X4_roadLine, q ∈ L) (hb : False → b = false) {Q : Int32 → HS → Prop} {v0 : Nat} {S0 S : HS} (h : P_X4_roadLine_130 Q v0 S) (K : K9 b L S0 S) : P_X4_roadLine_130 (fun r T => Q r T ∧ K9 b L S0 T) v0 S := by
  delta P_X4_roadLine_130 at h ⊢
  obtain ⟨c1, h⟩ := h
  refine ⟨c1, ?_⟩
  have o2 := c1
  obtain ⟨b3, e4, h⟩ := h
  refine ⟨b3, e4, ?_⟩
  obtain ⟨c5, h⟩ := h
  refine ⟨c5, ?_⟩
  intro x7 e6
  have h := h x7 e6
  intro x9 e8
  have h := h x9 e8
  intro x11 e10
  have h := h x11 e10
  have K := k9_I K e10
  have o2 := ob_wI o2 e10
  exact ⟨h, K⟩
set_option maxRecDepth 20000 in
set_option maxHeartbeats 1000000 in
theorem ky_X4_roadLine_0 {b : Bool} {L : List (Nat × Nat)} (hU : ∀ q ∈ L, q ∈ nyT) (hL : ∀ q ∈ kyL_X4_roadLine, q ∈ L) (hb : False → b = false) {Q : Int32 → HS → Prop} {v0 : Nat} {S0 S : HS} (h : P_X4_roadLine_0 Q v0 S) (K : K9 b L S0 S) : P_X4_roadLine_0 (fun r T => Q r T ∧ K9 b L S0 T) v0 S := by
  delta P_X4_roadLine_0 at h ⊢
  obtain ⟨c1, h⟩ := h
  refine ⟨c1, ?_⟩
  have o2 := c1
  obtain ⟨b3, e4, h⟩ := h
  refine ⟨b3, e4, ?_⟩
  obtain ⟨c5, h⟩ := h
  refine ⟨c5, ?_⟩
  obtain ⟨b6, e7, h⟩ := h
  refine ⟨b6, e7, ?_⟩
  obtain ⟨b8, e9, h⟩ := h
  refine ⟨b8, e9, ?_⟩
  obtain ⟨c10, h⟩ := h
  refine ⟨c10, ?_⟩
  intro x12 e11
  have h := h x12 e11
  obtain ⟨c13, h⟩ := h
  refine ⟨c13, ?_⟩
  obtain ⟨c14, h⟩ := h
  refine ⟨c14, ?_⟩
  obtain ⟨b15, e16, h⟩ := h
  refine ⟨b15, e16, ?_⟩
  refine cm_X4_placeBut (ky_X4_placeBut (b := b) hU (fun q hq => hL q ((by decide : ∀ q ∈ kyL_X4_placeBut, q ∈ kyL_X4_roadLine) q hq)) (fun z => z.elim) h) h (fun x17 x18 p21 h g19 g20 => ?_)
  have h := h g19 g20
  have K := k9_tr K p21.2
  have o2 := gr_ob p21.2.1 o2
  refine ⟨?_, ?_⟩
  · intro c22
    have h := h.1 c22
    intro x24 e23
    have h := h x24 e23
    obtain ⟨c25, h⟩ := h
    refine ⟨c25, ?_⟩
    intro x27 e26
    have h := h x27 e26
    have K := k9_I K e26
    have o2 := ob_wI o2 e26
    refine cm_X4_side (ky_X4_side (b := b) hU (fun q hq => hL q ((by decide : ∀ q ∈ kyL_X4_side, q ∈ kyL_X4_roadLine) q hq)) (fun z => z.elim) h) h (fun x28 x29 p32 h g30 g31 => ?_)
    have h := h g30 g31
    have K := k9_tr K p32.2
    have o2 := gr_ob p32.2.1 o2
    refine ⟨?_, ?_⟩
    · intro c33
      have h := h.1 c33
      intro x35 e34
      have h := h x35 e34
      intro x37 e36
      have h := h x37 e36
      have K := k9_I K e36
      have o2 := ob_wI o2 e36
      refine cm_X4_whole (ky_X4_whole (b := b) hU (fun q hq => hL q ((by decide : ∀ q ∈ kyL_X4_whole, q ∈ kyL_X4_roadLine) q hq)) (fun z => z.elim) h) h (fun x38 x39 p42 h g40 g41 => ?_)
      have h := h g40 g41
      have K := k9_tr K p42.2
      have o2 := gr_ob p42.2.1 o2
      refine ⟨?_, ?_⟩
      · intro c43
        have h := h.1 c43
        intro x45 e44
        have h := h x45 e44
        intro x47 e46
        have h := h x47 e46
        have K := k9_I K e46
        have o2 := ob_wI o2 e46
        intro x49 e48
        have h := h x49 e48
        refine cm_X4_placeBut (ky_X4_placeBut (b := b) hU (fun q hq => hL q ((by decide : ∀ q ∈ kyL_X4_placeBut, q ∈ kyL_X4_roadLine) q hq)) (fun z => z.elim) h) h (fun x50 x51 p54 h g52 g53 => ?_)
        have h := h g52 g53
        have K := k9_tr K p54.2
        have o2 := gr_ob p54.2.1 o2
        refine ⟨?_, ?_⟩
        · intro c55
          have h := h.1 c55
          intro x57 e56
          have h := h x57 e56
          intro x59 e58
          have h := h x59 e58
          have K := k9_I K e58
          have o2 := ob_wI o2 e58
          intro x61 e60
          have h := h x61 e60
          have K := k9_I K e60
          have o2 := ob_wI o2 e60
          refine cm_X4_is (ky_X4_is (b := b) hU (fun q hq => hL q ((by decide : ∀ q ∈ kyL_X4_is, q ∈ kyL_X4_roadLine) q hq)) (fun z => z.elim) h) h (fun x62 x63 p66 h g64 g65 => ?_)
          have h := h g64 g65
          have K := k9_tr K p66.2
          have o2 := gr_ob p66.2.1 o2
          refine ⟨?_, ?_⟩
          · intro c67
            have h := h.1 c67
            exact ky_X4_roadLine_130 hU hL hb h K
          · intro c68
            have h := h.2 c68
            intro x70 e69
            have h := h x70 e69
            refine cm_X4_wordAndWhole (ky_X4_wordAndWhole (b := b) hU (fun q hq => hL q ((by decide : ∀ q ∈ kyL_X4_wordAndWhole, q ∈ kyL_X4_roadLine) q hq)) (fun z => z.elim) h) h (fun x71 x72 p75 h g73 g74 => ?_)
            have h := h g73 g74
            have K := k9_tr K p75.2
            have o2 := gr_ob p75.2.1 o2
            refine ⟨?_, ?_⟩
            · intro c76
              have h := h.1 c76
              intro x78 e77
              have h := h x78 e77
              intro x80 e79
              have h := h x80 e79
              have K := k9_I K e79
              have o2 := ob_wI o2 e79
              exact ky_X4_roadLine_130 hU hL hb h K
            · intro c81
              have h := h.2 c81
              exact ⟨h, K⟩
        · intro c82
          have h := h.2 c82
          exact ⟨h, K⟩
      · intro c83
        have h := h.2 c83
        exact ⟨h, K⟩
    · intro c84
      have h := h.2 c84
      exact ⟨h, K⟩
  · intro c85
    have h := h.2 c85
    exact ⟨h, K⟩
theorem ky_X4_roadLine {b : Bool} {L : List (Nat × Nat)} (hU : ∀ q ∈ L, q ∈ nyT) (hL : ∀ q ∈ kyL_X4_roadLine, q ∈ L) (hb : False → b = false) {Q : Int32 → HS → Prop} {v0 : Nat} {S : HS} (h : P_X4_roadLine v0 Q S) : P_X4_roadLine v0 (fun r T => Q r T ∧ K9 b L S T) S := ky_X4_roadLine_0 hU hL hb h (k9_rf b L S)
abbrev kyL_X4_sign : List (Nat × Nat) := []
set_option maxRecDepth 20000 in
set_option maxHeartbeats 1000000 in
theorem ky_X4_sign_0 {b : Bool} {L : List (Nat × Nat)} (hU : ∀ q ∈ L, q ∈ nyT) (hL : ∀ q ∈ kyL_X4_sign, q ∈ L) (hb : False → b = false) {Q : Int32 → HS → Prop} {v0 : Nat} {v1 : Int32} {S0 S : HS} (h : P_X4_sign_0 Q v0 v1 S) (K : K9 b L S0 S) : P_X4_sign_0 (fun r T => Q r T ∧ K9 b L S0 T) v0 v1 S := by
  delta P_X4_sign_0 at h ⊢
  obtain ⟨c1, h⟩ := h
  refine ⟨c1, ?_⟩
  intro x3 e2
  have h := h x3 e2
  refine ⟨?_, ?_⟩
  · intro c4
    have h := h.1 c4
    refine cm_X4_next (ky_X4_next (b := b) hU (fun q hq => hL q ((by decide : ∀ q ∈ kyL_X4_next, q ∈ kyL_X4_sign) q hq)) (fun z => z.elim) h) h (fun x5 p7 h g6 => ?_)
    have h := h g6
    have K := k9_tr K p7.2
    exact ⟨h, K⟩
  · intro c8
    have h := h.2 c8
    refine cm_X4_fail (ky_X4_fail (b := b) hU (fun q hq => hL q ((by decide : ∀ q ∈ kyL_X4_fail, q ∈ kyL_X4_sign) q hq)) (fun z => z.elim) h) h (fun x9 x10 p13 h g11 g12 => ?_)
    have h := h g11 g12
    have K := k9_tr K p13.2
    obtain ⟨c14, h⟩ := h
    refine ⟨c14, ?_⟩
    exact ⟨h, K⟩
theorem ky_X4_sign {b : Bool} {L : List (Nat × Nat)} (hU : ∀ q ∈ L, q ∈ nyT) (hL : ∀ q ∈ kyL_X4_sign, q ∈ L) (hb : False → b = false) {Q : Int32 → HS → Prop} {v0 : Nat} {v1 : Int32} {S : HS} (h : P_X4_sign v0 v1 Q S) : P_X4_sign v0 v1 (fun r T => Q r T ∧ K9 b L S T) S := ky_X4_sign_0 hU hL hb h (k9_rf b L S)
abbrev kyL_X4_someWalker : List (Nat × Nat) := []
set_option maxRecDepth 20000 in
set_option maxHeartbeats 1000000 in
theorem ky_X4_someWalker_0 {b : Bool} {L : List (Nat × Nat)} (hU : ∀ q ∈ L, q ∈ nyT) (hL : ∀ q ∈ kyL_X4_someWalker, q ∈ L) (hb : False → b = false) {Q : Int32 → HS → Prop} {v0 : Nat} {S0 S : HS} (h : P_X4_someWalker_0 Q v0 S) (K : K9 b L S0 S) : P_X4_someWalker_0 (fun r T => Q r T ∧ K9 b L S0 T) v0 S := by
  delta P_X4_someWalker_0 at h ⊢
  obtain ⟨c1, h⟩ := h
  refine ⟨c1, ?_⟩
  refine cm_X4_canBeName (ky_X4_canBeName (b := b) hU (fun q hq => hL q ((by decide : ∀ q ∈ kyL_X4_canBeName, q ∈ kyL_X4_someWalker) q hq)) (fun z => z.elim) h) h (fun x2 x3 p6 h g4 g5 => ?_)
  have h := h g4 g5
  have K := k9_tr K p6.2
  refine ⟨?_, ?_⟩
  · intro c7
    have h := h.1 c7
    refine cm_X4_findName (ky_X4_findName (b := b) hU (fun q hq => hL q ((by decide : ∀ q ∈ kyL_X4_findName, q ∈ kyL_X4_someWalker) q hq)) (fun z => z.elim) h) h (fun x8 x9 p11 h g10 => ?_)
    have h := h g10
    have K := k9_tr K p11.2
    refine ⟨?_, ?_⟩
    · intro c12
      have h := h.1 c12
      intro x14 e13
      have h := h x14 e13
      intro x16 e15
      have h := h x16 e15
      have K := k9_I K e15
      refine cm_X4_next (ky_X4_next (b := b) hU (fun q hq => hL q ((by decide : ∀ q ∈ kyL_X4_next, q ∈ kyL_X4_someWalker) q hq)) (fun z => z.elim) h) h (fun x17 p19 h g18 => ?_)
      have h := h g18
      have K := k9_tr K p19.2
      exact ⟨h, K⟩
    · intro c20
      have h := h.2 c20
      refine cm_X4_fail (ky_X4_fail (b := b) hU (fun q hq => hL q ((by decide : ∀ q ∈ kyL_X4_fail, q ∈ kyL_X4_someWalker) q hq)) (fun z => z.elim) h) h (fun x21 x22 p25 h g23 g24 => ?_)
      have h := h g23 g24
      have K := k9_tr K p25.2
      obtain ⟨c26, h⟩ := h
      refine ⟨c26, ?_⟩
      exact ⟨h, K⟩
  · intro c27
    have h := h.2 c27
    refine cm_X4_fail (ky_X4_fail (b := b) hU (fun q hq => hL q ((by decide : ∀ q ∈ kyL_X4_fail, q ∈ kyL_X4_someWalker) q hq)) (fun z => z.elim) h) h (fun x28 x29 p32 h g30 g31 => ?_)
    have h := h g30 g31
    have K := k9_tr K p32.2
    obtain ⟨c33, h⟩ := h
    refine ⟨c33, ?_⟩
    exact ⟨h, K⟩
theorem ky_X4_someWalker {b : Bool} {L : List (Nat × Nat)} (hU : ∀ q ∈ L, q ∈ nyT) (hL : ∀ q ∈ kyL_X4_someWalker, q ∈ L) (hb : False → b = false) {Q : Int32 → HS → Prop} {v0 : Nat} {S : HS} (h : P_X4_someWalker v0 Q S) : P_X4_someWalker v0 (fun r T => Q r T ∧ K9 b L S T) S := ky_X4_someWalker_0 hU hL hb h (k9_rf b L S)
abbrev kyL_X4_seenLine : List (Nat × Nat) := []
set_option maxRecDepth 20000 in
set_option maxHeartbeats 1000000 in
theorem ky_X4_seenLine_47 {b : Bool} {L : List (Nat × Nat)} (hU : ∀ q ∈ L, q ∈ nyT) (hL : ∀ q ∈ kyL_X4_seenLine, q ∈ L) (hb : False → b = false) {Q : Int32 → HS → Prop} {X30 X30_2 : Nat → Int32 → HS → Prop} {v0 : Nat} {v1 : Int32} {S0 S : HS} (h : P_X4_seenLine_47 Q X30 v0 v1 S) (K : K9 b L S0 S) (hX30 : ∀ (u0 : Nat) (u1 : Int32) (u2 : HS), X30 u0 u1 u2 → K9 b L S0 u2 → X30_2 u0 u1 u2) : P_X4_seenLine_47 (fun r T => Q r T ∧ K9 b L S0 T) X30_2 v0 v1 S := by
  delta P_X4_seenLine_47 at h ⊢
  obtain ⟨c1, h⟩ := h
  refine ⟨c1, ?_⟩
  have o2 := c1
  refine cm_X4_whole (ky_X4_whole (b := b) hU (fun q hq => hL q ((by decide : ∀ q ∈ kyL_X4_whole, q ∈ kyL_X4_seenLine) q hq)) (fun z => z.elim) h) h (fun x3 x4 p7 h g5 g6 => ?_)
  have h := h g5 g6
  have K := k9_tr K p7.2
  have o2 := gr_ob p7.2.1 o2
  refine ⟨?_, ?_⟩
  · intro c8
    have h := h.1 c8
    obtain ⟨b9, e10, h⟩ := h
    refine ⟨b9, e10, ?_⟩
    obtain ⟨c11, h⟩ := h
    refine ⟨c11, ?_⟩
    obtain ⟨b12, e13, h⟩ := h
    refine ⟨b12, e13, ?_⟩
    obtain ⟨b14, e15, h⟩ := h
    refine ⟨b14, e15, ?_⟩
    obtain ⟨c16, h⟩ := h
    refine ⟨c16, ?_⟩
    intro x18 e17
    have h := h x18 e17
    intro x20 e19
    have h := h x20 e19
    obtain ⟨c21, h⟩ := h
    refine ⟨c21, ?_⟩
    obtain ⟨c22, h⟩ := h
    refine ⟨c22, ?_⟩
    intro x24 e23
    have h := h x24 e23
    have K := k9_I K e23
    have o2 := ob_wI o2 e23
    intro x26 e25
    have h := h x26 e25
    exact hX30 _ _ _ h K
  · intro c27
    have h := h.2 c27
    exact ⟨h, K⟩
set_option maxRecDepth 20000 in
set_option maxHeartbeats 1000000 in
theorem kyB_X4_seenLine_30 {b : Bool} {L : List (Nat × Nat)} (hU : ∀ q ∈ L, q ∈ nyT) (hL : ∀ q ∈ kyL_X4_seenLine, q ∈ L) (hb : False → b = false) {Q : Int32 → HS → Prop} {X30 X30_2 : Nat → Int32 → HS → Prop} {v0 : Nat} {v1 : Int32} {S0 S : HS} (h : B_X4_seenLine_30 Q X30 v0 v1 S) (K : K9 b L S0 S) (hX30 : ∀ (u0 : Nat) (u1 : Int32) (u2 : HS), X30 u0 u1 u2 → K9 b L S0 u2 → X30_2 u0 u1 u2) : B_X4_seenLine_30 (fun r T => Q r T ∧ K9 b L S0 T) X30_2 v0 v1 S := by
  delta B_X4_seenLine_30 at h ⊢
  refine ⟨?_, ?_⟩
  · intro c1
    have h := h.1 c1
    obtain ⟨c2, h⟩ := h
    refine ⟨c2, ?_⟩
    have o3 := c2
    obtain ⟨b4, e5, h⟩ := h
    refine ⟨b4, e5, ?_⟩
    obtain ⟨c6, h⟩ := h
    refine ⟨c6, ?_⟩
    intro x8 e7
    have h := h x8 e7
    intro x10 e9
    have h := h x10 e9
    intro x12 e11
    have h := h x12 e11
    have K := k9_I K e11
    have o3 := ob_wI o3 e11
    exact ⟨h, K⟩
  · intro c13
    have h := h.2 c13
    refine ⟨?_, ?_⟩
    · intro c14
      have h := h.1 c14
      exact ky_X4_seenLine_47 hU hL hb h K hX30
    · intro c15
      have h := h.2 c15
      obtain ⟨c16, h⟩ := h
      refine ⟨c16, ?_⟩
      have o17 := c16
      refine cm_X4_sign (ky_X4_sign (b := b) hU (fun q hq => hL q ((by decide : ∀ q ∈ kyL_X4_sign, q ∈ kyL_X4_seenLine) q hq)) (fun z => z.elim) h) h (fun x18 x19 p22 h g20 g21 => ?_)
      have h := h g20 g21
      have K := k9_tr K p22.2
      have o17 := gr_ob p22.2.1 o17
      refine ⟨?_, ?_⟩
      · intro c23
        have h := h.1 c23
        exact ⟨h, K⟩
      · intro c24
        have h := h.2 c24
        exact ky_X4_seenLine_47 hU hL hb h K hX30
theorem ky_X4_seenLine_30 {b : Bool} {L : List (Nat × Nat)} (hU : ∀ q ∈ L, q ∈ nyT) (hL : ∀ q ∈ kyL_X4_seenLine, q ∈ L) (hb : False → b = false) {Q : Int32 → HS → Prop} {v0 : Nat} {v1 : Int32} {S0 S : HS} (h : P_X4_seenLine_30 Q v0 v1 S) (K : K9 b L S0 S) : P_X4_seenLine_30 (fun r T => Q r T ∧ K9 b L S0 T) v0 v1 S := h (fun v0 v1 S => K9 b L S0 S → P_X4_seenLine_30 (fun r T => Q r T ∧ K9 b L S0 T) v0 v1 S) (fun v0 v1 S hB K => fd_X4_seenLine_30 (kyB_X4_seenLine_30 hU hL hb hB K (fun _ _ _ hx K => hx K))) K
set_option maxRecDepth 20000 in
set_option maxHeartbeats 1000000 in
theorem ky_X4_seenLine_0 {b : Bool} {L : List (Nat × Nat)} (hU : ∀ q ∈ L, q ∈ nyT) (hL : ∀ q ∈ kyL_X4_seenLine, q ∈ L) (hb : False → b = false) {Q : Int32 → HS → Prop} {v0 : Nat} {S0 S : HS} (h : P_X4_seenLine_0 Q v0 S) (K : K9 b L S0 S) : P_X4_seenLine_0 (fun r T => Q r T ∧ K9 b L S0 T) v0 S := by
  delta P_X4_seenLine_0 at h ⊢
  obtain ⟨c1, h⟩ := h
  refine ⟨c1, ?_⟩
  have o2 := c1
  refine cm_X4_someWalker (ky_X4_someWalker (b := b) hU (fun q hq => hL q ((by decide : ∀ q ∈ kyL_X4_someWalker, q ∈ kyL_X4_seenLine) q hq)) (fun z => z.elim) h) h (fun x3 x4 p7 h g5 g6 => ?_)
  have h := h g5 g6
  have K := k9_tr K p7.2
  have o2 := gr_ob p7.2.1 o2
  refine ⟨?_, ?_⟩
  · intro c8
    have h := h.1 c8
    obtain ⟨b9, e10, h⟩ := h
    refine ⟨b9, e10, ?_⟩
    obtain ⟨c11, h⟩ := h
    refine ⟨c11, ?_⟩
    obtain ⟨b12, e13, h⟩ := h
    refine ⟨b12, e13, ?_⟩
    obtain ⟨b14, e15, h⟩ := h
    refine ⟨b14, e15, ?_⟩
    obtain ⟨c16, h⟩ := h
    refine ⟨c16, ?_⟩
    intro x18 e17
    have h := h x18 e17
    intro x20 e19
    have h := h x20 e19
    obtain ⟨c21, h⟩ := h
    refine ⟨c21, ?_⟩
    obtain ⟨c22, h⟩ := h
    refine ⟨c22, ?_⟩
    intro x24 e23
    have h := h x24 e23
    have K := k9_I K e23
    have o2 := ob_wI o2 e23
    exact ky_X4_seenLine_30 hU hL hb h K
  · intro c25
    have h := h.2 c25
    exact ⟨h, K⟩
theorem ky_X4_seenLine {b : Bool} {L : List (Nat × Nat)} (hU : ∀ q ∈ L, q ∈ nyT) (hL : ∀ q ∈ kyL_X4_seenLine, q ∈ L) (hb : False → b = false) {Q : Int32 → HS → Prop} {v0 : Nat} {S : HS} (h : P_X4_seenLine v0 Q S) : P_X4_seenLine v0 (fun r T => Q r T ∧ K9 b L S T) S := ky_X4_seenLine_0 hU hL hb h (k9_rf b L S)
abbrev kyL_X4_walkerLine : List (Nat × Nat) := [(4, 11)]
set_option maxRecDepth 20000 in
set_option maxHeartbeats 1000000 in
theorem ky_X4_walkerLine_0 {b : Bool} {L : List (Nat × Nat)} (hU : ∀ q ∈ L, q ∈ nyT) (hL : ∀ q ∈ kyL_X4_walkerLine, q ∈ L) (hb : False → b = false) {Q : Int32 → HS → Prop} {v0 : Nat} {S0 S : HS} (h : P_X4_walkerLine_0 Q v0 S) (K : K9 b L S0 S) : P_X4_walkerLine_0 (fun r T => Q r T ∧ K9 b L S0 T) v0 S := by
  delta P_X4_walkerLine_0 at h ⊢
  obtain ⟨c1, h⟩ := h
  refine ⟨c1, ?_⟩
  have o2 := c1
  obtain ⟨b3, e4, h⟩ := h
  refine ⟨b3, e4, ?_⟩
  obtain ⟨c5, h⟩ := h
  refine ⟨c5, ?_⟩
  obtain ⟨b6, e7, h⟩ := h
  refine ⟨b6, e7, ?_⟩
  obtain ⟨b8, e9, h⟩ := h
  refine ⟨b8, e9, ?_⟩
  obtain ⟨c10, h⟩ := h
  refine ⟨c10, ?_⟩
  intro x12 e11
  have h := h x12 e11
  obtain ⟨c13, h⟩ := h
  refine ⟨c13, ?_⟩
  obtain ⟨c14, h⟩ := h
  refine ⟨c14, ?_⟩
  obtain ⟨b15, e16, h⟩ := h
  refine ⟨b15, e16, ?_⟩
  obtain ⟨b17, e18, h⟩ := h
  refine ⟨b17, e18, ?_⟩
  obtain ⟨c19, h⟩ := h
  refine ⟨c19, ?_⟩
  intro x21 e20
  have h := h x21 e20
  refine cm_X4_newName (ky_X4_newName (b := b) hU (fun q hq => hL q ((by decide : ∀ q ∈ kyL_X4_newName, q ∈ kyL_X4_walkerLine) q hq)) (fun z => z.elim) h) h (fun x22 x23 p26 h g24 g25 => ?_)
  have h := h g24 g25
  have K := k9_tr K p26.2
  have o2 := gr_ob p26.2.1 o2
  refine ⟨?_, ?_⟩
  · intro c27
    have h := h.1 c27
    exact ⟨h, K⟩
  · intro c28
    have h := h.2 c28
    refine cm_X4_kindOf (ky_X4_kindOf (b := b) hU (fun q hq => hL q ((by decide : ∀ q ∈ kyL_X4_kindOf, q ∈ kyL_X4_walkerLine) q hq)) (fun z => z.elim) h) h (fun x29 x30 p33 h g31 g32 => ?_)
    have h := h g31 g32
    have K := k9_tr K p33.2
    have o2 := gr_ob p33.2.1 o2
    refine ⟨?_, ?_⟩
    · intro c34
      have h := h.1 c34
      exact ⟨h, K⟩
    · intro c35
      have h := h.2 c35
      refine cm_X4_bodyOf (ky_X4_bodyOf (b := b) hU (fun q hq => hL q ((by decide : ∀ q ∈ kyL_X4_bodyOf, q ∈ kyL_X4_walkerLine) q hq)) (fun z => z.elim) h) h (fun x36 x37 p40 h g38 g39 => ?_)
      have h := h g38 g39
      have K := k9_tr K p40.2
      have o2 := gr_ob p40.2.1 o2
      refine ⟨?_, ?_⟩
      · intro c41
        have h := h.1 c41
        refine cm_X4_wordAndWhole (ky_X4_wordAndWhole (b := b) hU (fun q hq => hL q ((by decide : ∀ q ∈ kyL_X4_wordAndWhole, q ∈ kyL_X4_walkerLine) q hq)) (fun z => z.elim) h) h (fun x42 x43 p46 h g44 g45 => ?_)
        have h := h g44 g45
        have K := k9_tr K p46.2
        have o2 := gr_ob p46.2.1 o2
        refine ⟨?_, ?_⟩
        · intro c47
          have h := h.1 c47
          intro x49 e48
          have h := h x49 e48
          obtain ⟨c50, h⟩ := h
          refine ⟨c50, ?_⟩
          intro x52 e51
          have h := h x52 e51
          have K := k9_I K e51
          have o2 := ob_wI o2 e51
          intro x54 e53
          have h := h x54 e53
          refine cm_X4_wordAndWhole (ky_X4_wordAndWhole (b := b) hU (fun q hq => hL q ((by decide : ∀ q ∈ kyL_X4_wordAndWhole, q ∈ kyL_X4_walkerLine) q hq)) (fun z => z.elim) h) h (fun x55 x56 p59 h g57 g58 => ?_)
          have h := h g57 g58
          have K := k9_tr K p59.2
          have o2 := gr_ob p59.2.1 o2
          refine ⟨?_, ?_⟩
          · intro c60
            have h := h.1 c60
            intro x62 e61
            have h := h x62 e61
            intro x64 e63
            have h := h x64 e63
            have K := k9_I K e63
            have o2 := ob_wI o2 e63
            obtain ⟨b65, e66, h⟩ := h
            refine ⟨b65, e66, ?_⟩
            obtain ⟨c67, h⟩ := h
            refine ⟨c67, ?_⟩
            intro x69 e68
            have h := h x69 e68
            intro x71 e70
            have h := h x71 e70
            intro x73 e72
            have h := h x73 e72
            have K := k9_I K e72
            have o2 := ob_wI o2 e72
            exact ⟨h, K⟩
          · intro c74
            have h := h.2 c74
            exact ⟨h, K⟩
        · intro c75
          have h := h.2 c75
          exact ⟨h, K⟩
      · intro c76
        have h := h.2 c76
        exact ⟨h, K⟩
theorem ky_X4_walkerLine {b : Bool} {L : List (Nat × Nat)} (hU : ∀ q ∈ L, q ∈ nyT) (hL : ∀ q ∈ kyL_X4_walkerLine, q ∈ L) (hb : False → b = false) {Q : Int32 → HS → Prop} {v0 : Nat} {S : HS} (h : P_X4_walkerLine v0 Q S) : P_X4_walkerLine v0 (fun r T => Q r T ∧ K9 b L S T) S := ky_X4_walkerLine_0 hU hL hb h (k9_rf b L S)
abbrev kyL_X4_worldLine : List (Nat × Nat) := []
set_option maxRecDepth 20000 in
set_option maxHeartbeats 1000000 in
theorem ky_X4_worldLine_0 {b : Bool} {L : List (Nat × Nat)} (hU : ∀ q ∈ L, q ∈ nyT) (hL : ∀ q ∈ kyL_X4_worldLine, q ∈ L) (hb : False → b = false) {Q : Int32 → HS → Prop} {v0 : Nat} {S0 S : HS} (h : P_X4_worldLine_0 Q v0 S) (K : K9 b L S0 S) : P_X4_worldLine_0 (fun r T => Q r T ∧ K9 b L S0 T) v0 S := by
  delta P_X4_worldLine_0 at h ⊢
  obtain ⟨c1, h⟩ := h
  refine ⟨c1, ?_⟩
  have o2 := c1
  obtain ⟨b3, e4, h⟩ := h
  refine ⟨b3, e4, ?_⟩
  obtain ⟨c5, h⟩ := h
  refine ⟨c5, ?_⟩
  refine cm_X8_isTold (ky_X8_isTold (b := b) hU (fun q hq => hL q ((by decide : ∀ q ∈ kyL_X8_isTold, q ∈ kyL_X4_worldLine) q hq)) (fun z => z.elim) h) h (fun x6 x7 p10 h g8 g9 => ?_)
  have h := h g8 g9
  have K := k9_tr K p10.2
  have o2 := gr_ob p10.2.1 o2
  refine ⟨?_, ?_⟩
  · intro c11
    have h := h.1 c11
    refine cm_X4_next (ky_X4_next (b := b) hU (fun q hq => hL q ((by decide : ∀ q ∈ kyL_X4_next, q ∈ kyL_X4_worldLine) q hq)) (fun z => z.elim) h) h (fun x12 p14 h g13 => ?_)
    have h := h g13
    have K := k9_tr K p14.2
    have o2 := gr_ob p14.2.1 o2
    refine cm_X4_wordAndWhole (ky_X4_wordAndWhole (b := b) hU (fun q hq => hL q ((by decide : ∀ q ∈ kyL_X4_wordAndWhole, q ∈ kyL_X4_worldLine) q hq)) (fun z => z.elim) h) h (fun x15 x16 p19 h g17 g18 => ?_)
    have h := h g17 g18
    have K := k9_tr K p19.2
    have o2 := gr_ob p19.2.1 o2
    refine ⟨?_, ?_⟩
    · intro c20
      have h := h.1 c20
      obtain ⟨b21, e22, h⟩ := h
      refine ⟨b21, e22, ?_⟩
      intro x24 e23
      have h := h x24 e23
      obtain ⟨c25, h⟩ := h
      refine ⟨c25, ?_⟩
      intro x27 e26
      have h := h x27 e26
      have K := k9_I K e26
      have o2 := ob_wI o2 e26
      exact ⟨h, K⟩
    · intro c28
      have h := h.2 c28
      exact ⟨h, K⟩
  · intro c29
    have h := h.2 c29
    refine cm_X4_fail (ky_X4_fail (b := b) hU (fun q hq => hL q ((by decide : ∀ q ∈ kyL_X4_fail, q ∈ kyL_X4_worldLine) q hq)) (fun z => z.elim) h) h (fun x30 x31 p34 h g32 g33 => ?_)
    have h := h g32 g33
    have K := k9_tr K p34.2
    have o2 := gr_ob p34.2.1 o2
    obtain ⟨c35, h⟩ := h
    refine ⟨c35, ?_⟩
    exact ⟨h, K⟩
theorem ky_X4_worldLine {b : Bool} {L : List (Nat × Nat)} (hU : ∀ q ∈ L, q ∈ nyT) (hL : ∀ q ∈ kyL_X4_worldLine, q ∈ L) (hb : False → b = false) {Q : Int32 → HS → Prop} {v0 : Nat} {S : HS} (h : P_X4_worldLine v0 Q S) : P_X4_worldLine v0 (fun r T => Q r T ∧ K9 b L S T) S := ky_X4_worldLine_0 hU hL hb h (k9_rf b L S)
abbrev kyL_X4_read : List (Nat × Nat) := [(4, 11)]
set_option maxRecDepth 20000 in
set_option maxHeartbeats 1000000 in
theorem ky_X4_read_280 {b : Bool} {L : List (Nat × Nat)} (hU : ∀ q ∈ L, q ∈ nyT) (hL : ∀ q ∈ kyL_X4_read, q ∈ L) (hb : False → b = false) {Q : Int32 → HS → Prop} {v0 : Nat} {S0 S : HS} (h : P_X4_read_280 Q v0 S) (K : K9 b L S0 S) : P_X4_read_280 (fun r T => Q r T ∧ K9 b L S0 T) v0 S := by
  delta P_X4_read_280 at h ⊢
  obtain ⟨c1, h⟩ := h
  refine ⟨c1, ?_⟩
  refine cm_X4_fail (ky_X4_fail (b := b) hU (fun q hq => hL q ((by decide : ∀ q ∈ kyL_X4_fail, q ∈ kyL_X4_read) q hq)) (fun z => z.elim) h) h (fun x2 x3 p6 h g4 g5 => ?_)
  have h := h g4 g5
  have K := k9_tr K p6.2
  refine ⟨?_, ?_⟩
  · intro c7
    have h := h.1 c7
    exact ⟨h, K⟩
  · intro c8
    have h := h.2 c8
    exact ⟨h, K⟩
set_option maxRecDepth 20000 in
set_option maxHeartbeats 1000000 in
theorem ky_X4_read_295 {b : Bool} {L : List (Nat × Nat)} (hU : ∀ q ∈ L, q ∈ nyT) (hL : ∀ q ∈ kyL_X4_read, q ∈ L) (hb : False → b = false) {Q : Int32 → HS → Prop} {X8 X8_2 : Nat → Int32 → HS → Prop} {v0 : Nat} {v3 : Int32} {v4 : Int32} {S0 S : HS} (h : P_X4_read_295 Q X8 v0 v3 v4 S) (K : K9 b L S0 S) (hX8 : ∀ (u0 : Nat) (u1 : Int32) (u2 : HS), X8 u0 u1 u2 → K9 b L S0 u2 → X8_2 u0 u1 u2) : P_X4_read_295 (fun r T => Q r T ∧ K9 b L S0 T) X8_2 v0 v3 v4 S := by
  delta P_X4_read_295 at h ⊢
  refine ⟨?_, ?_⟩
  · intro c1
    have h := h.1 c1
    exact ⟨h, K⟩
  · intro c2
    have h := h.2 c2
    obtain ⟨c3, h⟩ := h
    refine ⟨c3, ?_⟩
    refine cm_X4_sign (ky_X4_sign (b := b) hU (fun q hq => hL q ((by decide : ∀ q ∈ kyL_X4_sign, q ∈ kyL_X4_read) q hq)) (fun z => z.elim) h) h (fun x4 x5 p8 h g6 g7 => ?_)
    have h := h g6 g7
    have K := k9_tr K p8.2
    refine ⟨?_, ?_⟩
    · intro c9
      have h := h.1 c9
      intro x11 e10
      have h := h x11 e10
      exact hX8 _ _ _ h K
    · intro c12
      have h := h.2 c12
      exact ⟨h, K⟩
set_option maxRecDepth 20000 in
set_option maxHeartbeats 1000000 in
theorem ky_X4_read_248 {b : Bool} {L : List (Nat × Nat)} (hU : ∀ q ∈ L, q ∈ nyT) (hL : ∀ q ∈ kyL_X4_read, q ∈ L) (hb : False → b = false) {Q : Int32 → HS → Prop} {X8 X8_2 : Nat → Int32 → HS → Prop} {v0 : Nat} {v3 : Int32} {v4 : Int32} {S0 S : HS} (h : P_X4_read_248 Q X8 v0 v3 v4 S) (K : K9 b L S0 S) (hX8 : ∀ (u0 : Nat) (u1 : Int32) (u2 : HS), X8 u0 u1 u2 → K9 b L S0 u2 → X8_2 u0 u1 u2) : P_X4_read_248 (fun r T => Q r T ∧ K9 b L S0 T) X8_2 v0 v3 v4 S := by
  delta P_X4_read_248 at h ⊢
  refine ⟨?_, ?_⟩
  · intro c1
    have h := h.1 c1
    exact ky_X4_read_295 hU hL hb h K hX8
  · intro c2
    have h := h.2 c2
    obtain ⟨c3, h⟩ := h
    refine ⟨c3, ?_⟩
    have o4 := c3
    intro x6 e5
    have h := h x6 e5
    refine ⟨?_, ?_⟩
    · intro c7
      have h := h.1 c7
      exact ky_X4_read_295 hU hL hb h K hX8
    · intro c8
      have h := h.2 c8
      obtain ⟨b9, e10, h⟩ := h
      refine ⟨b9, e10, ?_⟩
      obtain ⟨c11, h⟩ := h
      refine ⟨c11, ?_⟩
      intro x13 e12
      have h := h x13 e12
      refine ⟨?_, ?_⟩
      · intro c14
        have h := h.1 c14
        exact ky_X4_read_280 hU hL hb h K
      · intro c15
        have h := h.2 c15
        obtain ⟨b16, e17, h⟩ := h
        refine ⟨b16, e17, ?_⟩
        obtain ⟨c18, h⟩ := h
        refine ⟨c18, ?_⟩
        intro x20 e19
        have h := h x20 e19
        refine ⟨?_, ?_⟩
        · intro c21
          have h := h.1 c21
          exact ⟨h, K⟩
        · intro c22
          have h := h.2 c22
          exact ky_X4_read_280 hU hL hb h K
set_option maxRecDepth 20000 in
set_option maxHeartbeats 1000000 in
theorem ky_X4_read_70 {b : Bool} {L : List (Nat × Nat)} (hU : ∀ q ∈ L, q ∈ nyT) (hL : ∀ q ∈ kyL_X4_read, q ∈ L) (hb : False → b = false) {Q : Int32 → HS → Prop} {X8 X8_2 : Nat → Int32 → HS → Prop} {v0 : Nat} {v3 : Int32} {s0 : Int32} {S0 S : HS} (h : P_X4_read_70 Q X8 v0 v3 s0 S) (K : K9 b L S0 S) (hX8 : ∀ (u0 : Nat) (u1 : Int32) (u2 : HS), X8 u0 u1 u2 → K9 b L S0 u2 → X8_2 u0 u1 u2) : P_X4_read_70 (fun r T => Q r T ∧ K9 b L S0 T) X8_2 v0 v3 s0 S := by
  delta P_X4_read_70 at h ⊢
  exact ky_X4_read_248 hU hL hb h K hX8
set_option maxRecDepth 20000 in
set_option maxHeartbeats 1000000 in
theorem ky_X4_read_69 {b : Bool} {L : List (Nat × Nat)} (hU : ∀ q ∈ L, q ∈ nyT) (hL : ∀ q ∈ kyL_X4_read, q ∈ L) (hb : False → b = false) {Q : Int32 → HS → Prop} {X8 X8_2 : Nat → Int32 → HS → Prop} {v0 : Nat} {v3 : Int32} {S0 S : HS} (h : P_X4_read_69 Q X8 v0 v3 S) (K : K9 b L S0 S) (hX8 : ∀ (u0 : Nat) (u1 : Int32) (u2 : HS), X8 u0 u1 u2 → K9 b L S0 u2 → X8_2 u0 u1 u2) : P_X4_read_69 (fun r T => Q r T ∧ K9 b L S0 T) X8_2 v0 v3 S := by
  delta P_X4_read_69 at h ⊢
  exact ky_X4_read_70 hU hL hb h K hX8
set_option maxRecDepth 20000 in
set_option maxHeartbeats 1000000 in
theorem ky_X4_read_112 {b : Bool} {L : List (Nat × Nat)} (hU : ∀ q ∈ L, q ∈ nyT) (hL : ∀ q ∈ kyL_X4_read, q ∈ L) (hb : False → b = false) {Q : Int32 → HS → Prop} {X8 X8_2 : Nat → Int32 → HS → Prop} {v0 : Nat} {v3 : Int32} {s0 : Int32} {S0 S : HS} (h : P_X4_read_112 Q X8 v0 v3 s0 S) (K : K9 b L S0 S) (hX8 : ∀ (u0 : Nat) (u1 : Int32) (u2 : HS), X8 u0 u1 u2 → K9 b L S0 u2 → X8_2 u0 u1 u2) : P_X4_read_112 (fun r T => Q r T ∧ K9 b L S0 T) X8_2 v0 v3 s0 S := by
  delta P_X4_read_112 at h ⊢
  exact ky_X4_read_248 hU hL hb h K hX8
set_option maxRecDepth 20000 in
set_option maxHeartbeats 1000000 in
theorem ky_X4_read_111 {b : Bool} {L : List (Nat × Nat)} (hU : ∀ q ∈ L, q ∈ nyT) (hL : ∀ q ∈ kyL_X4_read, q ∈ L) (hb : False → b = false) {Q : Int32 → HS → Prop} {X8 X8_2 : Nat → Int32 → HS → Prop} {v0 : Nat} {v3 : Int32} {S0 S : HS} (h : P_X4_read_111 Q X8 v0 v3 S) (K : K9 b L S0 S) (hX8 : ∀ (u0 : Nat) (u1 : Int32) (u2 : HS), X8 u0 u1 u2 → K9 b L S0 u2 → X8_2 u0 u1 u2) : P_X4_read_111 (fun r T => Q r T ∧ K9 b L S0 T) X8_2 v0 v3 S := by
  delta P_X4_read_111 at h ⊢
  exact ky_X4_read_112 hU hL hb h K hX8
set_option maxRecDepth 20000 in
set_option maxHeartbeats 1000000 in
theorem ky_X4_read_154 {b : Bool} {L : List (Nat × Nat)} (hU : ∀ q ∈ L, q ∈ nyT) (hL : ∀ q ∈ kyL_X4_read, q ∈ L) (hb : False → b = false) {Q : Int32 → HS → Prop} {X8 X8_2 : Nat → Int32 → HS → Prop} {v0 : Nat} {v3 : Int32} {s0 : Int32} {S0 S : HS} (h : P_X4_read_154 Q X8 v0 v3 s0 S) (K : K9 b L S0 S) (hX8 : ∀ (u0 : Nat) (u1 : Int32) (u2 : HS), X8 u0 u1 u2 → K9 b L S0 u2 → X8_2 u0 u1 u2) : P_X4_read_154 (fun r T => Q r T ∧ K9 b L S0 T) X8_2 v0 v3 s0 S := by
  delta P_X4_read_154 at h ⊢
  exact ky_X4_read_248 hU hL hb h K hX8
set_option maxRecDepth 20000 in
set_option maxHeartbeats 1000000 in
theorem ky_X4_read_153 {b : Bool} {L : List (Nat × Nat)} (hU : ∀ q ∈ L, q ∈ nyT) (hL : ∀ q ∈ kyL_X4_read, q ∈ L) (hb : False → b = false) {Q : Int32 → HS → Prop} {X8 X8_2 : Nat → Int32 → HS → Prop} {v0 : Nat} {v3 : Int32} {S0 S : HS} (h : P_X4_read_153 Q X8 v0 v3 S) (K : K9 b L S0 S) (hX8 : ∀ (u0 : Nat) (u1 : Int32) (u2 : HS), X8 u0 u1 u2 → K9 b L S0 u2 → X8_2 u0 u1 u2) : P_X4_read_153 (fun r T => Q r T ∧ K9 b L S0 T) X8_2 v0 v3 S := by
  delta P_X4_read_153 at h ⊢
  exact ky_X4_read_154 hU hL hb h K hX8
set_option maxRecDepth 20000 in
set_option maxHeartbeats 1000000 in
theorem ky_X4_read_195 {b : Bool} {L : List (Nat × Nat)} (hU : ∀ q ∈ L, q ∈ nyT) (hL : ∀ q ∈ kyL_X4_read, q ∈ L) (hb : False → b = false) {Q : Int32 → HS → Prop} {X8 X8_2 : Nat → Int32 → HS → Prop} {v0 : Nat} {v3 : Int32} {s0 : Int32} {S0 S : HS} (h : P_X4_read_195 Q X8 v0 v3 s0 S) (K : K9 b L S0 S) (hX8 : ∀ (u0 : Nat) (u1 : Int32) (u2 : HS), X8 u0 u1 u2 → K9 b L S0 u2 → X8_2 u0 u1 u2) : P_X4_read_195 (fun r T => Q r T ∧ K9 b L S0 T) X8_2 v0 v3 s0 S := by
  delta P_X4_read_195 at h ⊢
  exact ky_X4_read_248 hU hL hb h K hX8
set_option maxRecDepth 20000 in
set_option maxHeartbeats 1000000 in
theorem ky_X4_read_194 {b : Bool} {L : List (Nat × Nat)} (hU : ∀ q ∈ L, q ∈ nyT) (hL : ∀ q ∈ kyL_X4_read, q ∈ L) (hb : False → b = false) {Q : Int32 → HS → Prop} {X8 X8_2 : Nat → Int32 → HS → Prop} {v0 : Nat} {v3 : Int32} {S0 S : HS} (h : P_X4_read_194 Q X8 v0 v3 S) (K : K9 b L S0 S) (hX8 : ∀ (u0 : Nat) (u1 : Int32) (u2 : HS), X8 u0 u1 u2 → K9 b L S0 u2 → X8_2 u0 u1 u2) : P_X4_read_194 (fun r T => Q r T ∧ K9 b L S0 T) X8_2 v0 v3 S := by
  delta P_X4_read_194 at h ⊢
  exact ky_X4_read_195 hU hL hb h K hX8
set_option maxRecDepth 20000 in
set_option maxHeartbeats 1000000 in
theorem ky_X4_read_236 {b : Bool} {L : List (Nat × Nat)} (hU : ∀ q ∈ L, q ∈ nyT) (hL : ∀ q ∈ kyL_X4_read, q ∈ L) (hb : False → b = false) {Q : Int32 → HS → Prop} {X8 X8_2 : Nat → Int32 → HS → Prop} {v0 : Nat} {v3 : Int32} {s0 : Int32} {S0 S : HS} (h : P_X4_read_236 Q X8 v0 v3 s0 S) (K : K9 b L S0 S) (hX8 : ∀ (u0 : Nat) (u1 : Int32) (u2 : HS), X8 u0 u1 u2 → K9 b L S0 u2 → X8_2 u0 u1 u2) : P_X4_read_236 (fun r T => Q r T ∧ K9 b L S0 T) X8_2 v0 v3 s0 S := by
  delta P_X4_read_236 at h ⊢
  exact ky_X4_read_248 hU hL hb h K hX8
set_option maxRecDepth 20000 in
set_option maxHeartbeats 1000000 in
theorem ky_X4_read_235 {b : Bool} {L : List (Nat × Nat)} (hU : ∀ q ∈ L, q ∈ nyT) (hL : ∀ q ∈ kyL_X4_read, q ∈ L) (hb : False → b = false) {Q : Int32 → HS → Prop} {X8 X8_2 : Nat → Int32 → HS → Prop} {v0 : Nat} {v3 : Int32} {S0 S : HS} (h : P_X4_read_235 Q X8 v0 v3 S) (K : K9 b L S0 S) (hX8 : ∀ (u0 : Nat) (u1 : Int32) (u2 : HS), X8 u0 u1 u2 → K9 b L S0 u2 → X8_2 u0 u1 u2) : P_X4_read_235 (fun r T => Q r T ∧ K9 b L S0 T) X8_2 v0 v3 S := by
  delta P_X4_read_235 at h ⊢
  exact ky_X4_read_236 hU hL hb h K hX8
set_option maxRecDepth 20000 in
set_option maxHeartbeats 1000000 in
theorem kyB_X4_read_8 {b : Bool} {L : List (Nat × Nat)} (hU : ∀ q ∈ L, q ∈ nyT) (hL : ∀ q ∈ kyL_X4_read, q ∈ L) (hb : False → b = false) {Q : Int32 → HS → Prop} {X8 X8_2 : Nat → Int32 → HS → Prop} {v0 : Nat} {v3 : Int32} {S0 S : HS} (h : B_X4_read_8 Q X8 v0 v3 S) (K : K9 b L S0 S) (hX8 : ∀ (u0 : Nat) (u1 : Int32) (u2 : HS), X8 u0 u1 u2 → K9 b L S0 u2 → X8_2 u0 u1 u2) : B_X4_read_8 (fun r T => Q r T ∧ K9 b L S0 T) X8_2 v0 v3 S := by
  delta B_X4_read_8 at h ⊢
  refine ⟨?_, ?_⟩
  · intro c1
    have h := h.1 c1
    obtain ⟨c2, h⟩ := h
    refine ⟨c2, ?_⟩
    have o3 := c2
    refine cm_X4_fail (ky_X4_fail (b := b) hU (fun q hq => hL q ((by decide : ∀ q ∈ kyL_X4_fail, q ∈ kyL_X4_read) q hq)) (fun z => z.elim) h) h (fun x4 x5 p8 h g6 g7 => ?_)
    have h := h g6 g7
    have K := k9_tr K p8.2
    have o3 := gr_ob p8.2.1 o3
    obtain ⟨c9, h⟩ := h
    refine ⟨c9, ?_⟩
    exact ⟨h, K⟩
  · intro c10
    have h := h.2 c10
    obtain ⟨c11, h⟩ := h
    refine ⟨c11, ?_⟩
    have o12 := c11
    refine cm_X4_is (ky_X4_is (b := b) hU (fun q hq => hL q ((by decide : ∀ q ∈ kyL_X4_is, q ∈ kyL_X4_read) q hq)) (fun z => z.elim) h) h (fun x13 x14 p17 h g15 g16 => ?_)
    have h := h g15 g16
    have K := k9_tr K p17.2
    have o12 := gr_ob p17.2.1 o12
    refine ⟨?_, ?_⟩
    · intro c18
      have h := h.1 c18
      refine cm_X4_is (ky_X4_is (b := b) hU (fun q hq => hL q ((by decide : ∀ q ∈ kyL_X4_is, q ∈ kyL_X4_read) q hq)) (fun z => z.elim) h) h (fun x19 x20 p23 h g21 g22 => ?_)
      have h := h g21 g22
      have K := k9_tr K p23.2
      have o12 := gr_ob p23.2.1 o12
      refine ⟨?_, ?_⟩
      · intro c24
        have h := h.1 c24
        refine cm_X4_is (ky_X4_is (b := b) hU (fun q hq => hL q ((by decide : ∀ q ∈ kyL_X4_is, q ∈ kyL_X4_read) q hq)) (fun z => z.elim) h) h (fun x25 x26 p29 h g27 g28 => ?_)
        have h := h g27 g28
        have K := k9_tr K p29.2
        have o12 := gr_ob p29.2.1 o12
        refine ⟨?_, ?_⟩
        · intro c30
          have h := h.1 c30
          refine cm_X4_is (ky_X4_is (b := b) hU (fun q hq => hL q ((by decide : ∀ q ∈ kyL_X4_is, q ∈ kyL_X4_read) q hq)) (fun z => z.elim) h) h (fun x31 x32 p35 h g33 g34 => ?_)
          have h := h g33 g34
          have K := k9_tr K p35.2
          have o12 := gr_ob p35.2.1 o12
          refine ⟨?_, ?_⟩
          · intro c36
            have h := h.1 c36
            refine cm_X4_is (ky_X4_is (b := b) hU (fun q hq => hL q ((by decide : ∀ q ∈ kyL_X4_is, q ∈ kyL_X4_read) q hq)) (fun z => z.elim) h) h (fun x37 x38 p41 h g39 g40 => ?_)
            have h := h g39 g40
            have K := k9_tr K p41.2
            have o12 := gr_ob p41.2.1 o12
            refine ⟨?_, ?_⟩
            · intro c42
              have h := h.1 c42
              refine cm_X4_is (ky_X4_is (b := b) hU (fun q hq => hL q ((by decide : ∀ q ∈ kyL_X4_is, q ∈ kyL_X4_read) q hq)) (fun z => z.elim) h) h (fun x43 x44 p47 h g45 g46 => ?_)
              have h := h g45 g46
              have K := k9_tr K p47.2
              have o12 := gr_ob p47.2.1 o12
              refine ⟨?_, ?_⟩
              · intro c48
                have h := h.1 c48
                refine cm_X4_fail (ky_X4_fail (b := b) hU (fun q hq => hL q ((by decide : ∀ q ∈ kyL_X4_fail, q ∈ kyL_X4_read) q hq)) (fun z => z.elim) h) h (fun x49 x50 p53 h g51 g52 => ?_)
                have h := h g51 g52
                have K := k9_tr K p53.2
                have o12 := gr_ob p53.2.1 o12
                exact ky_X4_read_248 hU hL hb h K hX8
              · intro c54
                have h := h.2 c54
                obtain ⟨b55, e56, h⟩ := h
                refine ⟨b55, e56, ?_⟩
                obtain ⟨c57, h⟩ := h
                refine ⟨c57, ?_⟩
                intro x59 e58
                have h := h x59 e58
                refine cm_X4_hasRoom (ky_X4_hasRoom (b := b) hU (fun q hq => hL q ((by decide : ∀ q ∈ kyL_X4_hasRoom, q ∈ kyL_X4_read) q hq)) (fun z => z.elim) h) h (fun x60 x61 p64 h g62 g63 => ?_)
                have h := h g62 g63
                have K := k9_tr K p64.2
                have o12 := gr_ob p64.2.1 o12
                refine ⟨?_, ?_⟩
                · intro c65
                  have h := h.1 c65
                  exact ky_X4_read_235 hU hL hb h K hX8
                · intro c66
                  have h := h.2 c66
                  refine cm_X4_seenLine (ky_X4_seenLine (b := b) hU (fun q hq => hL q ((by decide : ∀ q ∈ kyL_X4_seenLine, q ∈ kyL_X4_read) q hq)) (fun z => z.elim) h) h (fun x67 x68 p71 h g69 g70 => ?_)
                  have h := h g69 g70
                  have K := k9_tr K p71.2
                  have o12 := gr_ob p71.2.1 o12
                  refine ⟨?_, ?_⟩
                  · intro c72
                    have h := h.1 c72
                    exact ky_X4_read_235 hU hL hb h K hX8
                  · intro c73
                    have h := h.2 c73
                    exact ky_X4_read_236 hU hL hb h K hX8
            · intro c74
              have h := h.2 c74
              obtain ⟨b75, e76, h⟩ := h
              refine ⟨b75, e76, ?_⟩
              obtain ⟨c77, h⟩ := h
              refine ⟨c77, ?_⟩
              intro x79 e78
              have h := h x79 e78
              refine cm_X4_hasRoom (ky_X4_hasRoom (b := b) hU (fun q hq => hL q ((by decide : ∀ q ∈ kyL_X4_hasRoom, q ∈ kyL_X4_read) q hq)) (fun z => z.elim) h) h (fun x80 x81 p84 h g82 g83 => ?_)
              have h := h g82 g83
              have K := k9_tr K p84.2
              have o12 := gr_ob p84.2.1 o12
              refine ⟨?_, ?_⟩
              · intro c85
                have h := h.1 c85
                exact ky_X4_read_194 hU hL hb h K hX8
              · intro c86
                have h := h.2 c86
                refine cm_X4_walkerLine (ky_X4_walkerLine (b := b) hU (fun q hq => hL q ((by decide : ∀ q ∈ kyL_X4_walkerLine, q ∈ kyL_X4_read) q hq)) (fun z => z.elim) h) h (fun x87 x88 p91 h g89 g90 => ?_)
                have h := h g89 g90
                have K := k9_tr K p91.2
                have o12 := gr_ob p91.2.1 o12
                refine ⟨?_, ?_⟩
                · intro c92
                  have h := h.1 c92
                  exact ky_X4_read_194 hU hL hb h K hX8
                · intro c93
                  have h := h.2 c93
                  exact ky_X4_read_195 hU hL hb h K hX8
          · intro c94
            have h := h.2 c94
            obtain ⟨b95, e96, h⟩ := h
            refine ⟨b95, e96, ?_⟩
            obtain ⟨c97, h⟩ := h
            refine ⟨c97, ?_⟩
            intro x99 e98
            have h := h x99 e98
            refine cm_X4_hasRoom (ky_X4_hasRoom (b := b) hU (fun q hq => hL q ((by decide : ∀ q ∈ kyL_X4_hasRoom, q ∈ kyL_X4_read) q hq)) (fun z => z.elim) h) h (fun x100 x101 p104 h g102 g103 => ?_)
            have h := h g102 g103
            have K := k9_tr K p104.2
            have o12 := gr_ob p104.2.1 o12
            refine ⟨?_, ?_⟩
            · intro c105
              have h := h.1 c105
              exact ky_X4_read_153 hU hL hb h K hX8
            · intro c106
              have h := h.2 c106
              refine cm_X4_roadLine (ky_X4_roadLine (b := b) hU (fun q hq => hL q ((by decide : ∀ q ∈ kyL_X4_roadLine, q ∈ kyL_X4_read) q hq)) (fun z => z.elim) h) h (fun x107 x108 p111 h g109 g110 => ?_)
              have h := h g109 g110
              have K := k9_tr K p111.2
              have o12 := gr_ob p111.2.1 o12
              refine ⟨?_, ?_⟩
              · intro c112
                have h := h.1 c112
                exact ky_X4_read_153 hU hL hb h K hX8
              · intro c113
                have h := h.2 c113
                exact ky_X4_read_154 hU hL hb h K hX8
        · intro c114
          have h := h.2 c114
          obtain ⟨b115, e116, h⟩ := h
          refine ⟨b115, e116, ?_⟩
          obtain ⟨c117, h⟩ := h
          refine ⟨c117, ?_⟩
          intro x119 e118
          have h := h x119 e118
          refine cm_X4_hasRoom (ky_X4_hasRoom (b := b) hU (fun q hq => hL q ((by decide : ∀ q ∈ kyL_X4_hasRoom, q ∈ kyL_X4_read) q hq)) (fun z => z.elim) h) h (fun x120 x121 p124 h g122 g123 => ?_)
          have h := h g122 g123
          have K := k9_tr K p124.2
          have o12 := gr_ob p124.2.1 o12
          refine ⟨?_, ?_⟩
          · intro c125
            have h := h.1 c125
            exact ky_X4_read_111 hU hL hb h K hX8
          · intro c126
            have h := h.2 c126
            refine cm_X4_placeLine (ky_X4_placeLine (b := b) hU (fun q hq => hL q ((by decide : ∀ q ∈ kyL_X4_placeLine, q ∈ kyL_X4_read) q hq)) (fun z => z.elim) h) h (fun x127 x128 p131 h g129 g130 => ?_)
            have h := h g129 g130
            have K := k9_tr K p131.2
            have o12 := gr_ob p131.2.1 o12
            refine ⟨?_, ?_⟩
            · intro c132
              have h := h.1 c132
              exact ky_X4_read_111 hU hL hb h K hX8
            · intro c133
              have h := h.2 c133
              exact ky_X4_read_112 hU hL hb h K hX8
      · intro c134
        have h := h.2 c134
        obtain ⟨b135, e136, h⟩ := h
        refine ⟨b135, e136, ?_⟩
        obtain ⟨c137, h⟩ := h
        refine ⟨c137, ?_⟩
        intro x139 e138
        have h := h x139 e138
        refine cm_X4_hasRoom (ky_X4_hasRoom (b := b) hU (fun q hq => hL q ((by decide : ∀ q ∈ kyL_X4_hasRoom, q ∈ kyL_X4_read) q hq)) (fun z => z.elim) h) h (fun x140 x141 p144 h g142 g143 => ?_)
        have h := h g142 g143
        have K := k9_tr K p144.2
        have o12 := gr_ob p144.2.1 o12
        refine ⟨?_, ?_⟩
        · intro c145
          have h := h.1 c145
          exact ky_X4_read_69 hU hL hb h K hX8
        · intro c146
          have h := h.2 c146
          refine cm_X4_rainLine (ky_X4_rainLine (b := b) hU (fun q hq => hL q ((by decide : ∀ q ∈ kyL_X4_rainLine, q ∈ kyL_X4_read) q hq)) (fun z => z.elim) h) h (fun x147 x148 p151 h g149 g150 => ?_)
          have h := h g149 g150
          have K := k9_tr K p151.2
          have o12 := gr_ob p151.2.1 o12
          refine ⟨?_, ?_⟩
          · intro c152
            have h := h.1 c152
            exact ky_X4_read_69 hU hL hb h K hX8
          · intro c153
            have h := h.2 c153
            exact ky_X4_read_70 hU hL hb h K hX8
    · intro c154
      have h := h.2 c154
      refine cm_X4_worldLine (ky_X4_worldLine (b := b) hU (fun q hq => hL q ((by decide : ∀ q ∈ kyL_X4_worldLine, q ∈ kyL_X4_read) q hq)) (fun z => z.elim) h) h (fun x155 x156 p159 h g157 g158 => ?_)
      have h := h g157 g158
      have K := k9_tr K p159.2
      have o12 := gr_ob p159.2.1 o12
      exact ky_X4_read_248 hU hL hb h K hX8
theorem ky_X4_read_8 {b : Bool} {L : List (Nat × Nat)} (hU : ∀ q ∈ L, q ∈ nyT) (hL : ∀ q ∈ kyL_X4_read, q ∈ L) (hb : False → b = false) {Q : Int32 → HS → Prop} {v0 : Nat} {v3 : Int32} {S0 S : HS} (h : P_X4_read_8 Q v0 v3 S) (K : K9 b L S0 S) : P_X4_read_8 (fun r T => Q r T ∧ K9 b L S0 T) v0 v3 S := h (fun v0 v3 S => K9 b L S0 S → P_X4_read_8 (fun r T => Q r T ∧ K9 b L S0 T) v0 v3 S) (fun v0 v3 S hB K => fd_X4_read_8 (kyB_X4_read_8 hU hL hb hB K (fun _ _ _ hx K => hx K))) K
set_option maxRecDepth 20000 in
set_option maxHeartbeats 1000000 in
theorem ky_X4_read_0 {b : Bool} {L : List (Nat × Nat)} (hU : ∀ q ∈ L, q ∈ nyT) (hL : ∀ q ∈ kyL_X4_read, q ∈ L) (hb : False → b = false) {Q : Int32 → HS → Prop} {v0 : Nat} {v1 : Nat} {v2 : Int32} {S0 S : HS} (h : P_X4_read_0 Q v0 v1 v2 S) (K : K9 b L S0 S) : P_X4_read_0 (fun r T => Q r T ∧ K9 b L S0 T) v0 v1 v2 S := by
  delta P_X4_read_0 at h ⊢
  obtain ⟨c1, h⟩ := h
  refine ⟨c1, ?_⟩
  refine cm_X4_open (ky_X4_open (b := b) hU (fun q hq => hL q ((by decide : ∀ q ∈ kyL_X4_open, q ∈ kyL_X4_read) q hq)) (fun z => z.elim) h) h (fun x2 p4 h g3 => ?_)
  have h := h g3
  have K := k9_tr K p4.2
  exact ky_X4_read_8 hU hL hb h K
theorem ky_X4_read {b : Bool} {L : List (Nat × Nat)} (hU : ∀ q ∈ L, q ∈ nyT) (hL : ∀ q ∈ kyL_X4_read, q ∈ L) (hb : False → b = false) {Q : Int32 → HS → Prop} {v0 : Nat} {v1 : Nat} {v2 : Int32} {S : HS} (h : P_X4_read v0 v1 v2 Q S) : P_X4_read v0 v1 v2 (fun r T => Q r T ∧ K9 b L S T) S := ky_X4_read_0 hU hL hb h (k9_rf b L S)
abbrev kyL_X5_endOf : List (Nat × Nat) := []
set_option maxRecDepth 20000 in
set_option maxHeartbeats 1000000 in
theorem ky_X5_endOf_0 {b : Bool} {L : List (Nat × Nat)} (hU : ∀ q ∈ L, q ∈ nyT) (hL : ∀ q ∈ kyL_X5_endOf, q ∈ L) (hb : False → b = false) {Q : Int32 → HS → Prop} {v0 : Nat} {v1 : Int32} {S0 S : HS} (h : P_X5_endOf_0 Q v0 v1 S) (K : K9 b L S0 S) : P_X5_endOf_0 (fun r T => Q r T ∧ K9 b L S0 T) v0 v1 S := by
  delta P_X5_endOf_0 at h ⊢
  refine ⟨?_, ?_⟩
  · intro c1
    have h := h.1 c1
    obtain ⟨c2, h⟩ := h
    refine ⟨c2, ?_⟩
    intro x4 e3
    have h := h x4 e3
    exact ⟨h, K⟩
  · intro c5
    have h := h.2 c5
    obtain ⟨c6, h⟩ := h
    refine ⟨c6, ?_⟩
    intro x8 e7
    have h := h x8 e7
    exact ⟨h, K⟩
theorem ky_X5_endOf {b : Bool} {L : List (Nat × Nat)} (hU : ∀ q ∈ L, q ∈ nyT) (hL : ∀ q ∈ kyL_X5_endOf, q ∈ L) (hb : False → b = false) {Q : Int32 → HS → Prop} {v0 : Nat} {v1 : Int32} {S : HS} (h : P_X5_endOf v0 v1 Q S) : P_X5_endOf v0 v1 (fun r T => Q r T ∧ K9 b L S T) S := ky_X5_endOf_0 hU hL hb h (k9_rf b L S)
abbrev kyL_X5_minutesAt : List (Nat × Nat) := []
set_option maxRecDepth 20000 in
set_option maxHeartbeats 1000000 in
theorem ky_X5_minutesAt_0 {b : Bool} {L : List (Nat × Nat)} (hU : ∀ q ∈ L, q ∈ nyT) (hL : ∀ q ∈ kyL_X5_minutesAt, q ∈ L) (hb : False → b = false) {Q : Int32 → HS → Prop} {v0 : Nat} {v1 : Int32} {S0 S : HS} (h : P_X5_minutesAt_0 Q v0 v1 S) (K : K9 b L S0 S) : P_X5_minutesAt_0 (fun r T => Q r T ∧ K9 b L S0 T) v0 v1 S := by
  delta P_X5_minutesAt_0 at h ⊢
  refine ⟨?_, ?_⟩
  · intro c1
    have h := h.1 c1
    exact ⟨h, K⟩
  · intro c2
    have h := h.2 c2
    obtain ⟨c3, h⟩ := h
    refine ⟨c3, ?_⟩
    intro x5 e4
    have h := h x5 e4
    obtain ⟨c6, h⟩ := h
    refine ⟨c6, ?_⟩
    intro x8 e7
    have h := h x8 e7
    exact ⟨h, K⟩
theorem ky_X5_minutesAt {b : Bool} {L : List (Nat × Nat)} (hU : ∀ q ∈ L, q ∈ nyT) (hL : ∀ q ∈ kyL_X5_minutesAt, q ∈ L) (hb : False → b = false) {Q : Int32 → HS → Prop} {v0 : Nat} {v1 : Int32} {S : HS} (h : P_X5_minutesAt v0 v1 Q S) : P_X5_minutesAt v0 v1 (fun r T => Q r T ∧ K9 b L S T) S := ky_X5_minutesAt_0 hU hL hb h (k9_rf b L S)
abbrev kyL_X5_startOf : List (Nat × Nat) := []
set_option maxRecDepth 20000 in
set_option maxHeartbeats 1000000 in
theorem ky_X5_startOf_0 {b : Bool} {L : List (Nat × Nat)} (hU : ∀ q ∈ L, q ∈ nyT) (hL : ∀ q ∈ kyL_X5_startOf, q ∈ L) (hb : False → b = false) {Q : Int32 → HS → Prop} {v0 : Nat} {v1 : Int32} {S0 S : HS} (h : P_X5_startOf_0 Q v0 v1 S) (K : K9 b L S0 S) : P_X5_startOf_0 (fun r T => Q r T ∧ K9 b L S0 T) v0 v1 S := by
  delta P_X5_startOf_0 at h ⊢
  refine ⟨?_, ?_⟩
  · intro c1
    have h := h.1 c1
    obtain ⟨c2, h⟩ := h
    refine ⟨c2, ?_⟩
    intro x4 e3
    have h := h x4 e3
    exact ⟨h, K⟩
  · intro c5
    have h := h.2 c5
    obtain ⟨c6, h⟩ := h
    refine ⟨c6, ?_⟩
    intro x8 e7
    have h := h x8 e7
    exact ⟨h, K⟩
theorem ky_X5_startOf {b : Bool} {L : List (Nat × Nat)} (hU : ∀ q ∈ L, q ∈ nyT) (hL : ∀ q ∈ kyL_X5_startOf, q ∈ L) (hb : False → b = false) {Q : Int32 → HS → Prop} {v0 : Nat} {v1 : Int32} {S : HS} (h : P_X5_startOf v0 v1 Q S) : P_X5_startOf v0 v1 (fun r T => Q r T ∧ K9 b L S T) S := ky_X5_startOf_0 hU hL hb h (k9_rf b L S)
abbrev kyL_X5_tell : List (Nat × Nat) := []
set_option maxRecDepth 20000 in
set_option maxHeartbeats 1000000 in
theorem ky_X5_tell_0 {b : Bool} {L : List (Nat × Nat)} (hU : ∀ q ∈ L, q ∈ nyT) (hL : ∀ q ∈ kyL_X5_tell, q ∈ L) (hb : False → b = false) {Q : Int32 → HS → Prop} {v0 : Nat} {v1 : Int32} {S0 S : HS} (h : P_X5_tell_0 Q v0 v1 S) (K : K9 b L S0 S) : P_X5_tell_0 (fun r T => Q r T ∧ K9 b L S0 T) v0 v1 S := by
  delta P_X5_tell_0 at h ⊢
  refine ⟨?_, ?_, ?_, ?_, ?_⟩
  · intro c1
    have h := h.1 c1
    obtain ⟨c2, h⟩ := h
    refine ⟨c2, ?_⟩
    intro x4 e3
    have h := h x4 e3
    exact ⟨h, K⟩
  · intro c5
    have h := h.2.1 c5
    obtain ⟨c6, h⟩ := h
    refine ⟨c6, ?_⟩
    intro x8 e7
    have h := h x8 e7
    exact ⟨h, K⟩
  · intro c9
    have h := h.2.2.1 c9
    obtain ⟨c10, h⟩ := h
    refine ⟨c10, ?_⟩
    intro x12 e11
    have h := h x12 e11
    exact ⟨h, K⟩
  · intro c13
    have h := h.2.2.2.1 c13
    obtain ⟨c14, h⟩ := h
    refine ⟨c14, ?_⟩
    intro x16 e15
    have h := h x16 e15
    exact ⟨h, K⟩
  · intro c17
    have h := h.2.2.2.2 c17
    obtain ⟨c18, h⟩ := h
    refine ⟨c18, ?_⟩
    intro x20 e19
    have h := h x20 e19
    exact ⟨h, K⟩
theorem ky_X5_tell {b : Bool} {L : List (Nat × Nat)} (hU : ∀ q ∈ L, q ∈ nyT) (hL : ∀ q ∈ kyL_X5_tell, q ∈ L) (hb : False → b = false) {Q : Int32 → HS → Prop} {v0 : Nat} {v1 : Int32} {S : HS} (h : P_X5_tell v0 v1 Q S) : P_X5_tell v0 v1 (fun r T => Q r T ∧ K9 b L S T) S := ky_X5_tell_0 hU hL hb h (k9_rf b L S)
abbrev kyL_X6_tell : List (Nat × Nat) := []
set_option maxRecDepth 20000 in
set_option maxHeartbeats 1000000 in
theorem ky_X6_tell_0 {b : Bool} {L : List (Nat × Nat)} (hU : ∀ q ∈ L, q ∈ nyT) (hL : ∀ q ∈ kyL_X6_tell, q ∈ L) (hb : False → b = false) {Q : Int32 → HS → Prop} {v0 : Nat} {v1 : Int32} {S0 S : HS} (h : P_X6_tell_0 Q v0 v1 S) (K : K9 b L S0 S) : P_X6_tell_0 (fun r T => Q r T ∧ K9 b L S0 T) v0 v1 S := by
  delta P_X6_tell_0 at h ⊢
  refine ⟨?_, ?_, ?_, ?_, ?_, ?_, ?_⟩
  · intro c1
    have h := h.1 c1
    obtain ⟨c2, h⟩ := h
    refine ⟨c2, ?_⟩
    intro x4 e3
    have h := h x4 e3
    exact ⟨h, K⟩
  · intro c5
    have h := h.2.1 c5
    obtain ⟨c6, h⟩ := h
    refine ⟨c6, ?_⟩
    intro x8 e7
    have h := h x8 e7
    exact ⟨h, K⟩
  · intro c9
    have h := h.2.2.1 c9
    obtain ⟨c10, h⟩ := h
    refine ⟨c10, ?_⟩
    intro x12 e11
    have h := h x12 e11
    exact ⟨h, K⟩
  · intro c13
    have h := h.2.2.2.1 c13
    obtain ⟨c14, h⟩ := h
    refine ⟨c14, ?_⟩
    intro x16 e15
    have h := h x16 e15
    exact ⟨h, K⟩
  · intro c17
    have h := h.2.2.2.2.1 c17
    obtain ⟨c18, h⟩ := h
    refine ⟨c18, ?_⟩
    intro x20 e19
    have h := h x20 e19
    exact ⟨h, K⟩
  · intro c21
    have h := h.2.2.2.2.2.1 c21
    obtain ⟨c22, h⟩ := h
    refine ⟨c22, ?_⟩
    intro x24 e23
    have h := h x24 e23
    exact ⟨h, K⟩
  · intro c25
    have h := h.2.2.2.2.2.2 c25
    obtain ⟨c26, h⟩ := h
    refine ⟨c26, ?_⟩
    intro x28 e27
    have h := h x28 e27
    exact ⟨h, K⟩
theorem ky_X6_tell {b : Bool} {L : List (Nat × Nat)} (hU : ∀ q ∈ L, q ∈ nyT) (hL : ∀ q ∈ kyL_X6_tell, q ∈ L) (hb : False → b = false) {Q : Int32 → HS → Prop} {v0 : Nat} {v1 : Int32} {S : HS} (h : P_X6_tell v0 v1 Q S) : P_X6_tell v0 v1 (fun r T => Q r T ∧ K9 b L S T) S := ky_X6_tell_0 hU hL hb h (k9_rf b L S)
abbrev kyL_X7_addMove : List (Nat × Nat) := [(7, 7)]
set_option maxRecDepth 20000 in
set_option maxHeartbeats 1000000 in
theorem ky_X7_addMove_0 {b : Bool} {L : List (Nat × Nat)} (hU : ∀ q ∈ L, q ∈ nyT) (hL : ∀ q ∈ kyL_X7_addMove, q ∈ L) (hb : False → b = false) {Q : HS → Prop} {v0 : Nat} {v1 : Int32} {v2 : Int32} {v3 : Int32} {v4 : Int64} {v6 : Int32} {S0 S : HS} (h : P_X7_addMove_0 Q v0 v1 v2 v3 v4 v6 S) (K : K9 b L S0 S) : P_X7_addMove_0 (fun T => Q T ∧ K9 b L S0 T) v0 v1 v2 v3 v4 v6 S := by
  delta P_X7_addMove_0 at h ⊢
  obtain ⟨c1, h⟩ := h
  refine ⟨c1, ?_⟩
  have o2 := c1
  intro x4 e3
  have h := h x4 e3
  refine ⟨?_, ?_⟩
  · intro c5
    have h := h.1 c5
    exact ⟨h, K⟩
  · intro c6
    have h := h.2 c6
    intro x8 e7
    have h := h x8 e7
    refine ⟨?_, ?_⟩
    · intro c9
      have h := h.1 c9
      exact ⟨h, K⟩
    · intro c10
      have h := h.2 c10
      intro x12 e11
      have h := h x12 e11
      refine ⟨?_, ?_⟩
      · intro c13
        have h := h.1 c13
        obtain ⟨b14, e15, h⟩ := h
        refine ⟨b14, e15, ?_⟩
        intro x17 e16
        have h := h x17 e16
        obtain ⟨c18, h⟩ := h
        refine ⟨c18, ?_⟩
        intro x20 e19
        have h := h x20 e19
        obtain ⟨c21, h⟩ := h
        refine ⟨c21, ?_⟩
        intro x23 e22
        have h := h x23 e22
        have K := k9_I K e22
        have o2 := ob_wI o2 e22
        obtain ⟨b24, e25, h⟩ := h
        refine ⟨b24, e25, ?_⟩
        intro x27 e26
        have h := h x27 e26
        obtain ⟨c28, h⟩ := h
        refine ⟨c28, ?_⟩
        intro x30 e29
        have h := h x30 e29
        obtain ⟨c31, h⟩ := h
        refine ⟨c31, ?_⟩
        intro x33 e32
        have h := h x33 e32
        have K := k9_I K e32
        have o2 := ob_wI o2 e32
        obtain ⟨b34, e35, h⟩ := h
        refine ⟨b34, e35, ?_⟩
        intro x37 e36
        have h := h x37 e36
        obtain ⟨c38, h⟩ := h
        refine ⟨c38, ?_⟩
        obtain ⟨c39, h⟩ := h
        refine ⟨c39, ?_⟩
        intro x41 e40
        have h := h x41 e40
        have K := k9_I K e40
        have o2 := ob_wI o2 e40
        obtain ⟨b42, e43, h⟩ := h
        refine ⟨b42, e43, ?_⟩
        have n44 := k9_nr K e43 o2 (hL _ (by decide))
        intro x46 e45
        have h := h x46 e45
        obtain ⟨c47, h⟩ := h
        refine ⟨c47, ?_⟩
        intro x49 e48
        have h := h x49 e48
        obtain ⟨c50, h⟩ := h
        refine ⟨c50, ?_⟩
        intro x52 e51
        have h := h x52 e51
        have K := k9_J K e51 n44
        have o2 := ob_wJ o2 e51
        obtain ⟨b53, e54, h⟩ := h
        refine ⟨b53, e54, ?_⟩
        intro x56 e55
        have h := h x56 e55
        obtain ⟨c57, h⟩ := h
        refine ⟨c57, ?_⟩
        obtain ⟨c58, h⟩ := h
        refine ⟨c58, ?_⟩
        intro x60 e59
        have h := h x60 e59
        have K := k9_I K e59
        have o2 := ob_wI o2 e59
        intro x62 e61
        have h := h x62 e61
        intro x64 e63
        have h := h x64 e63
        intro x66 e65
        have h := h x66 e65
        have K := k9_I K e65
        have o2 := ob_wI o2 e65
        exact ⟨h, K⟩
      · intro c67
        have h := h.2 c67
        exact ⟨h, K⟩
theorem ky_X7_addMove {b : Bool} {L : List (Nat × Nat)} (hU : ∀ q ∈ L, q ∈ nyT) (hL : ∀ q ∈ kyL_X7_addMove, q ∈ L) (hb : False → b = false) {Q : HS → Prop} {v0 : Nat} {v1 : Int32} {v2 : Int32} {v3 : Int32} {v4 : Int64} {v6 : Int32} {S : HS} (h : P_X7_addMove v0 v1 v2 v3 v4 v6 Q S) : P_X7_addMove v0 v1 v2 v3 v4 v6 (fun T => Q T ∧ K9 b L S T) S := ky_X7_addMove_0 hU hL hb h (k9_rf b L S)
abbrev kyL_X7_addLeg : List (Nat × Nat) := [(7, 7)]
set_option maxRecDepth 20000 in
set_option maxHeartbeats 1000000 in
theorem ky_X7_addLeg_82 {b : Bool} {L : List (Nat × Nat)} (hU : ∀ q ∈ L, q ∈ nyT) (hL : ∀ q ∈ kyL_X7_addLeg, q ∈ L) (hb : False → b = false) {Q : HS → Prop} {v0 : Nat} {v1 : Nat} {v2 : Int32} {v4 : Int64} {v6 : Int32} {v7 : Int32} {S0 S : HS} (h : P_X7_addLeg_82 Q v0 v1 v2 v4 v6 v7 S) (K : K9 b L S0 S) : P_X7_addLeg_82 (fun T => Q T ∧ K9 b L S0 T) v0 v1 v2 v4 v6 v7 S := by
  delta P_X7_addLeg_82 at h ⊢
  obtain ⟨c1, h⟩ := h
  refine ⟨c1, ?_⟩
  refine cm_X5_startOf (ky_X5_startOf (b := b) hU (fun q hq => hL q ((by decide : ∀ q ∈ kyL_X5_startOf, q ∈ kyL_X7_addLeg) q hq)) (fun z => z.elim) h) h (fun x2 x3 p5 h g4 => ?_)
  have h := h g4
  have K := k9_tr K p5.2
  refine cm_X5_endOf (ky_X5_endOf (b := b) hU (fun q hq => hL q ((by decide : ∀ q ∈ kyL_X5_endOf, q ∈ kyL_X7_addLeg) q hq)) (fun z => z.elim) h) h (fun x6 x7 p9 h g8 => ?_)
  have h := h g8
  have K := k9_tr K p9.2
  obtain ⟨c10, h⟩ := h
  refine ⟨c10, ?_⟩
  refine cm_X7_addMove (ky_X7_addMove (b := b) hU (fun q hq => hL q ((by decide : ∀ q ∈ kyL_X7_addMove, q ∈ kyL_X7_addLeg) q hq)) (fun z => z.elim) h) h (fun x11 p13 h g12 => ?_)
  have h := h g12
  have K := k9_tr K p13.2
  exact ⟨h, K⟩
set_option maxRecDepth 20000 in
set_option maxHeartbeats 1000000 in
theorem ky_X7_addLeg_0 {b : Bool} {L : List (Nat × Nat)} (hU : ∀ q ∈ L, q ∈ nyT) (hL : ∀ q ∈ kyL_X7_addLeg, q ∈ L) (hb : False → b = false) {Q : HS → Prop} {v0 : Nat} {v1 : Nat} {v2 : Int32} {v3 : Int32} {v4 : Int64} {v6 : Int32} {S0 S : HS} (h : P_X7_addLeg_0 Q v0 v1 v2 v3 v4 v6 S) (K : K9 b L S0 S) : P_X7_addLeg_0 (fun T => Q T ∧ K9 b L S0 T) v0 v1 v2 v3 v4 v6 S := by
  delta P_X7_addLeg_0 at h ⊢
  obtain ⟨c1, h⟩ := h
  refine ⟨c1, ?_⟩
  refine cm_X5_minutesAt (ky_X5_minutesAt (b := b) hU (fun q hq => hL q ((by decide : ∀ q ∈ kyL_X5_minutesAt, q ∈ kyL_X7_addLeg) q hq)) (fun z => z.elim) h) h (fun x2 x3 p5 h g4 => ?_)
  have h := h g4
  have K := k9_tr K p5.2
  obtain ⟨c6, h⟩ := h
  refine ⟨c6, ?_⟩
  have o7 := c6
  intro x9 e8
  have h := h x9 e8
  intro x11 e10
  have h := h x11 e10
  refine ⟨?_, ?_⟩
  · intro c12
    have h := h.1 c12
    exact ky_X7_addLeg_82 hU hL hb h K
  · intro c13
    have h := h.2 c13
    refine ⟨?_, ?_⟩
    · intro c14
      have h := h.1 c14
      exact ky_X7_addLeg_82 hU hL hb h K
    · intro c15
      have h := h.2 c15
      obtain ⟨b16, e17, h⟩ := h
      refine ⟨b16, e17, ?_⟩
      obtain ⟨c18, h⟩ := h
      refine ⟨c18, ?_⟩
      obtain ⟨c19, h⟩ := h
      refine ⟨c19, ?_⟩
      intro x21 e20
      have h := h x21 e20
      intro x23 e22
      have h := h x23 e22
      intro x25 e24
      have h := h x25 e24
      refine ⟨?_, ?_⟩
      · intro c26
        have h := h.1 c26
        exact ky_X7_addLeg_82 hU hL hb h K
      · intro c27
        have h := h.2 c27
        obtain ⟨b28, e29, h⟩ := h
        refine ⟨b28, e29, ?_⟩
        obtain ⟨c30, h⟩ := h
        refine ⟨c30, ?_⟩
        obtain ⟨c31, h⟩ := h
        refine ⟨c31, ?_⟩
        intro x33 e32
        have h := h x33 e32
        refine ⟨?_, ?_⟩
        · intro c34
          have h := h.1 c34
          exact ky_X7_addLeg_82 hU hL hb h K
        · intro c35
          have h := h.2 c35
          obtain ⟨b36, e37, h⟩ := h
          refine ⟨b36, e37, ?_⟩
          obtain ⟨c38, h⟩ := h
          refine ⟨c38, ?_⟩
          obtain ⟨c39, h⟩ := h
          refine ⟨c39, ?_⟩
          intro x41 e40
          have h := h x41 e40
          refine ⟨?_, ?_⟩
          · intro c42
            have h := h.1 c42
            intro x44 e43
            have h := h x44 e43
            have K := k9_I K e43
            have o7 := ob_wI o7 e43
            exact ky_X7_addLeg_82 hU hL hb h K
          · intro c45
            have h := h.2 c45
            exact ⟨h, K⟩
theorem ky_X7_addLeg {b : Bool} {L : List (Nat × Nat)} (hU : ∀ q ∈ L, q ∈ nyT) (hL : ∀ q ∈ kyL_X7_addLeg, q ∈ L) (hb : False → b = false) {Q : HS → Prop} {v0 : Nat} {v1 : Nat} {v2 : Int32} {v3 : Int32} {v4 : Int64} {v6 : Int32} {S : HS} (h : P_X7_addLeg v0 v1 v2 v3 v4 v6 Q S) : P_X7_addLeg v0 v1 v2 v3 v4 v6 (fun T => Q T ∧ K9 b L S T) S := ky_X7_addLeg_0 hU hL hb h (k9_rf b L S)
abbrev kyL_X7_keyOf : List (Nat × Nat) := []
set_option maxRecDepth 20000 in
set_option maxHeartbeats 1000000 in
theorem ky_X7_keyOf_0 {b : Bool} {L : List (Nat × Nat)} (hU : ∀ q ∈ L, q ∈ nyT) (hL : ∀ q ∈ kyL_X7_keyOf, q ∈ L) (hb : False → b = false) {Q : Int64 → HS → Prop} {v0 : Nat} {v1 : Int32} {v2 : Int32} {S0 S : HS} (h : P_X7_keyOf_0 Q v0 v1 v2 S) (K : K9 b L S0 S) : P_X7_keyOf_0 (fun r T => Q r T ∧ K9 b L S0 T) v0 v1 v2 S := by
  delta P_X7_keyOf_0 at h ⊢
  intro x2 e1
  have h := h x2 e1
  refine ⟨?_, ?_⟩
  · intro c3
    have h := h.1 c3
    exact ⟨h, K⟩
  · intro c4
    have h := h.2 c4
    obtain ⟨c5, h⟩ := h
    refine ⟨c5, ?_⟩
    have o6 := c5
    obtain ⟨b7, e8, h⟩ := h
    refine ⟨b7, e8, ?_⟩
    obtain ⟨c9, h⟩ := h
    refine ⟨c9, ?_⟩
    refine ⟨?_, ?_⟩
    · intro c10
      have h := h.1 c10
      exact ⟨h, K⟩
    · intro c11
      have h := h.2 c11
      obtain ⟨b12, e13, h⟩ := h
      refine ⟨b12, e13, ?_⟩
      obtain ⟨c14, h⟩ := h
      refine ⟨c14, ?_⟩
      obtain ⟨c15, h⟩ := h
      refine ⟨c15, ?_⟩
      intro x17 e16
      have h := h x17 e16
      exact ⟨h, K⟩
theorem ky_X7_keyOf {b : Bool} {L : List (Nat × Nat)} (hU : ∀ q ∈ L, q ∈ nyT) (hL : ∀ q ∈ kyL_X7_keyOf, q ∈ L) (hb : False → b = false) {Q : Int64 → HS → Prop} {v0 : Nat} {v1 : Int32} {v2 : Int32} {S : HS} (h : P_X7_keyOf v0 v1 v2 Q S) : P_X7_keyOf v0 v1 v2 (fun r T => Q r T ∧ K9 b L S T) S := ky_X7_keyOf_0 hU hL hb h (k9_rf b L S)
abbrev kyL_X7_endFrom : List (Nat × Nat) := []
set_option maxRecDepth 20000 in
set_option maxHeartbeats 1000000 in
theorem ky_X7_endFrom_0 {b : Bool} {L : List (Nat × Nat)} (hU : ∀ q ∈ L, q ∈ nyT) (hL : ∀ q ∈ kyL_X7_endFrom, q ∈ L) (hb : False → b = false) {Q : Int32 → HS → Prop} {v0 : Nat} {v1 : Int32} {v2 : Int32} {S0 S : HS} (h : P_X7_endFrom_0 Q v0 v1 v2 S) (K : K9 b L S0 S) : P_X7_endFrom_0 (fun r T => Q r T ∧ K9 b L S0 T) v0 v1 v2 S := by
  delta P_X7_endFrom_0 at h ⊢
  obtain ⟨c1, h⟩ := h
  refine ⟨c1, ?_⟩
  refine cm_X7_keyOf (ky_X7_keyOf (b := b) hU (fun q hq => hL q ((by decide : ∀ q ∈ kyL_X7_keyOf, q ∈ kyL_X7_endFrom) q hq)) (fun z => z.elim) h) h (fun x2 x3 p5 h g4 => ?_)
  have h := h g4
  have K := k9_tr K p5.2
  intro x7 e6
  have h := h x7 e6
  exact ⟨h, K⟩
theorem ky_X7_endFrom {b : Bool} {L : List (Nat × Nat)} (hU : ∀ q ∈ L, q ∈ nyT) (hL : ∀ q ∈ kyL_X7_endFrom, q ∈ L) (hb : False → b = false) {Q : Int32 → HS → Prop} {v0 : Nat} {v1 : Int32} {v2 : Int32} {S : HS} (h : P_X7_endFrom v0 v1 v2 Q S) : P_X7_endFrom v0 v1 v2 (fun r T => Q r T ∧ K9 b L S T) S := ky_X7_endFrom_0 hU hL hb h (k9_rf b L S)
abbrev kyL_X7_forget : List (Nat × Nat) := []
set_option maxRecDepth 20000 in
set_option maxHeartbeats 1000000 in
theorem ky_X7_forget_0 {b : Bool} {L : List (Nat × Nat)} (hU : ∀ q ∈ L, q ∈ nyT) (hL : ∀ q ∈ kyL_X7_forget, q ∈ L) (hb : False → b = false) {Q : HS → Prop} {v0 : Nat} {S0 S : HS} (h : P_X7_forget_0 Q v0 S) (K : K9 b L S0 S) : P_X7_forget_0 (fun T => Q T ∧ K9 b L S0 T) v0 S := by
  delta P_X7_forget_0 at h ⊢
  obtain ⟨c1, h⟩ := h
  refine ⟨c1, ?_⟩
  intro x3 e2
  have h := h x3 e2
  have K := k9_I K e2
  exact ⟨h, K⟩
theorem ky_X7_forget {b : Bool} {L : List (Nat × Nat)} (hU : ∀ q ∈ L, q ∈ nyT) (hL : ∀ q ∈ kyL_X7_forget, q ∈ L) (hb : False → b = false) {Q : HS → Prop} {v0 : Nat} {S : HS} (h : P_X7_forget v0 Q S) : P_X7_forget v0 (fun T => Q T ∧ K9 b L S T) S := ky_X7_forget_0 hU hL hb h (k9_rf b L S)
abbrev kyL_X7_isOpen : List (Nat × Nat) := []
set_option maxRecDepth 20000 in
set_option maxHeartbeats 1000000 in
theorem ky_X7_isOpen_0 {b : Bool} {L : List (Nat × Nat)} (hU : ∀ q ∈ L, q ∈ nyT) (hL : ∀ q ∈ kyL_X7_isOpen, q ∈ L) (hb : False → b = false) {Q : Int32 → HS → Prop} {v0 : Nat} {v1 : Int32} {v2 : Int32} {S0 S : HS} (h : P_X7_isOpen_0 Q v0 v1 v2 S) (K : K9 b L S0 S) : P_X7_isOpen_0 (fun r T => Q r T ∧ K9 b L S0 T) v0 v1 v2 S := by
  delta P_X7_isOpen_0 at h ⊢
  obtain ⟨c1, h⟩ := h
  refine ⟨c1, ?_⟩
  refine cm_X7_keyOf (ky_X7_keyOf (b := b) hU (fun q hq => hL q ((by decide : ∀ q ∈ kyL_X7_keyOf, q ∈ kyL_X7_isOpen) q hq)) (fun z => z.elim) h) h (fun x2 x3 p5 h g4 => ?_)
  have h := h g4
  have K := k9_tr K p5.2
  refine ⟨?_, ?_⟩
  · intro c6
    have h := h.1 c6
    exact ⟨h, K⟩
  · intro c7
    have h := h.2 c7
    exact ⟨h, K⟩
theorem ky_X7_isOpen {b : Bool} {L : List (Nat × Nat)} (hU : ∀ q ∈ L, q ∈ nyT) (hL : ∀ q ∈ kyL_X7_isOpen, q ∈ L) (hb : False → b = false) {Q : Int32 → HS → Prop} {v0 : Nat} {v1 : Int32} {v2 : Int32} {S : HS} (h : P_X7_isOpen v0 v1 v2 Q S) : P_X7_isOpen v0 v1 v2 (fun r T => Q r T ∧ K9 b L S T) S := ky_X7_isOpen_0 hU hL hb h (k9_rf b L S)
abbrev kyL_X7_makeRows : List (Nat × Nat) := []
set_option maxRecDepth 20000 in
set_option maxHeartbeats 1000000 in
theorem ky_X7_makeRows_0 {b : Bool} {L : List (Nat × Nat)} (hU : ∀ q ∈ L, q ∈ nyT) (hL : ∀ q ∈ kyL_X7_makeRows, q ∈ L) (hb : False → b = false) {Q : HS → Prop} {v0 : Nat} {S0 S : HS} (h : P_X7_makeRows_0 Q v0 S) (K : K9 b L S0 S) : P_X7_makeRows_0 (fun T => Q T ∧ K9 b L S0 T) v0 S := by
  delta P_X7_makeRows_0 at h ⊢
  intro x2 e1
  have h := h x2 e1
  intro x4 e3
  have h := h x4 e3
  have n5 := k9_nf K e1
  have K := k9_W K e1 e3
  have o6 := ob_of_new e3
  obtain ⟨c7, h⟩ := h
  refine ⟨c7, ?_⟩
  have o8 := c7
  intro x10 e9
  have h := h x10 e9
  have K := k9_R K hU e9 o8 (by decide) (by decide)
  have o6 := ob_wR o6 e9
  have o8 := ob_wR o8 e9
  intro x12 e11
  have h := h x12 e11
  intro x14 e13
  have h := h x14 e13
  have n15 := k9_nf K e11
  have K := k9_W K e11 e13
  have o6 := gr_ob (gr_of_new e13 e11) o6
  have o8 := gr_ob (gr_of_new e13 e11) o8
  have o16 := ob_of_new e13
  intro x18 e17
  have h := h x18 e17
  have K := k9_S K e17 o8 n15 (by decide)
  have o6 := ob_wR o6 e17
  have o8 := ob_wR o8 e17
  have o16 := ob_wR o16 e17
  intro x20 e19
  have h := h x20 e19
  intro x22 e21
  have h := h x22 e21
  have n23 := k9_nf K e19
  have K := k9_W K e19 e21
  have o6 := gr_ob (gr_of_new e21 e19) o6
  have o8 := gr_ob (gr_of_new e21 e19) o8
  have o16 := gr_ob (gr_of_new e21 e19) o16
  have o24 := ob_of_new e21
  intro x26 e25
  have h := h x26 e25
  have K := k9_R K hU e25 o8 (by decide) (by decide)
  have o6 := ob_wR o6 e25
  have o8 := ob_wR o8 e25
  have o16 := ob_wR o16 e25
  have o24 := ob_wR o24 e25
  intro x28 e27
  have h := h x28 e27
  intro x30 e29
  have h := h x30 e29
  have n31 := k9_nf K e27
  have K := k9_W K e27 e29
  have o6 := gr_ob (gr_of_new e29 e27) o6
  have o8 := gr_ob (gr_of_new e29 e27) o8
  have o16 := gr_ob (gr_of_new e29 e27) o16
  have o24 := gr_ob (gr_of_new e29 e27) o24
  have o32 := ob_of_new e29
  intro x34 e33
  have h := h x34 e33
  have K := k9_R K hU e33 o8 (by decide) (by decide)
  have o6 := ob_wR o6 e33
  have o8 := ob_wR o8 e33
  have o16 := ob_wR o16 e33
  have o24 := ob_wR o24 e33
  have o32 := ob_wR o32 e33
  intro x36 e35
  have h := h x36 e35
  intro x38 e37
  have h := h x38 e37
  have n39 := k9_nf K e35
  have K := k9_W K e35 e37
  have o6 := gr_ob (gr_of_new e37 e35) o6
  have o8 := gr_ob (gr_of_new e37 e35) o8
  have o16 := gr_ob (gr_of_new e37 e35) o16
  have o24 := gr_ob (gr_of_new e37 e35) o24
  have o32 := gr_ob (gr_of_new e37 e35) o32
  have o40 := ob_of_new e37
  intro x42 e41
  have h := h x42 e41
  have K := k9_R K hU e41 o8 (by decide) (by decide)
  have o6 := ob_wR o6 e41
  have o8 := ob_wR o8 e41
  have o16 := ob_wR o16 e41
  have o24 := ob_wR o24 e41
  have o32 := ob_wR o32 e41
  have o40 := ob_wR o40 e41
  intro x44 e43
  have h := h x44 e43
  intro x46 e45
  have h := h x46 e45
  have n47 := k9_nf K e43
  have K := k9_W K e43 e45
  have o6 := gr_ob (gr_of_new e45 e43) o6
  have o8 := gr_ob (gr_of_new e45 e43) o8
  have o16 := gr_ob (gr_of_new e45 e43) o16
  have o24 := gr_ob (gr_of_new e45 e43) o24
  have o32 := gr_ob (gr_of_new e45 e43) o32
  have o40 := gr_ob (gr_of_new e45 e43) o40
  have o48 := ob_of_new e45
  intro x50 e49
  have h := h x50 e49
  have K := k9_R K hU e49 o8 (by decide) (by decide)
  have o6 := ob_wR o6 e49
  have o8 := ob_wR o8 e49
  have o16 := ob_wR o16 e49
  have o24 := ob_wR o24 e49
  have o32 := ob_wR o32 e49
  have o40 := ob_wR o40 e49
  have o48 := ob_wR o48 e49
  intro x52 e51
  have h := h x52 e51
  intro x54 e53
  have h := h x54 e53
  have n55 := k9_nf K e51
  have K := k9_W K e51 e53
  have o6 := gr_ob (gr_of_new e53 e51) o6
  have o8 := gr_ob (gr_of_new e53 e51) o8
  have o16 := gr_ob (gr_of_new e53 e51) o16
  have o24 := gr_ob (gr_of_new e53 e51) o24
  have o32 := gr_ob (gr_of_new e53 e51) o32
  have o40 := gr_ob (gr_of_new e53 e51) o40
  have o48 := gr_ob (gr_of_new e53 e51) o48
  have o56 := ob_of_new e53
  intro x58 e57
  have h := h x58 e57
  have K := k9_S K e57 o8 n55 (by decide)
  have o6 := ob_wR o6 e57
  have o8 := ob_wR o8 e57
  have o16 := ob_wR o16 e57
  have o24 := ob_wR o24 e57
  have o32 := ob_wR o32 e57
  have o40 := ob_wR o40 e57
  have o48 := ob_wR o48 e57
  have o56 := ob_wR o56 e57
  intro x60 e59
  have h := h x60 e59
  intro x62 e61
  have h := h x62 e61
  have n63 := k9_nf K e59
  have K := k9_W K e59 e61
  have o6 := gr_ob (gr_of_new e61 e59) o6
  have o8 := gr_ob (gr_of_new e61 e59) o8
  have o16 := gr_ob (gr_of_new e61 e59) o16
  have o24 := gr_ob (gr_of_new e61 e59) o24
  have o32 := gr_ob (gr_of_new e61 e59) o32
  have o40 := gr_ob (gr_of_new e61 e59) o40
  have o48 := gr_ob (gr_of_new e61 e59) o48
  have o56 := gr_ob (gr_of_new e61 e59) o56
  have o64 := ob_of_new e61
  intro x66 e65
  have h := h x66 e65
  have K := k9_R K hU e65 o8 (by decide) (by decide)
  have o6 := ob_wR o6 e65
  have o8 := ob_wR o8 e65
  have o16 := ob_wR o16 e65
  have o24 := ob_wR o24 e65
  have o32 := ob_wR o32 e65
  have o40 := ob_wR o40 e65
  have o48 := ob_wR o48 e65
  have o56 := ob_wR o56 e65
  have o64 := ob_wR o64 e65
  exact ⟨h, K⟩
theorem ky_X7_makeRows {b : Bool} {L : List (Nat × Nat)} (hU : ∀ q ∈ L, q ∈ nyT) (hL : ∀ q ∈ kyL_X7_makeRows, q ∈ L) (hb : False → b = false) {Q : HS → Prop} {v0 : Nat} {S : HS} (h : P_X7_makeRows v0 Q S) : P_X7_makeRows v0 (fun T => Q T ∧ K9 b L S T) S := ky_X7_makeRows_0 hU hL hb h (k9_rf b L S)
abbrev kyL_X7_meanFrom : List (Nat × Nat) := []
set_option maxRecDepth 20000 in
set_option maxHeartbeats 1000000 in
theorem ky_X7_meanFrom_0 {b : Bool} {L : List (Nat × Nat)} (hU : ∀ q ∈ L, q ∈ nyT) (hL : ∀ q ∈ kyL_X7_meanFrom, q ∈ L) (hb : False → b = false) {Q : Int64 → HS → Prop} {v0 : Nat} {v1 : Int32} {v2 : Int32} {S0 S : HS} (h : P_X7_meanFrom_0 Q v0 v1 v2 S) (K : K9 b L S0 S) : P_X7_meanFrom_0 (fun r T => Q r T ∧ K9 b L S0 T) v0 v1 v2 S := by
  delta P_X7_meanFrom_0 at h ⊢
  obtain ⟨c1, h⟩ := h
  refine ⟨c1, ?_⟩
  refine cm_X7_keyOf (ky_X7_keyOf (b := b) hU (fun q hq => hL q ((by decide : ∀ q ∈ kyL_X7_keyOf, q ∈ kyL_X7_meanFrom) q hq)) (fun z => z.elim) h) h (fun x2 x3 p5 h g4 => ?_)
  have h := h g4
  have K := k9_tr K p5.2
  intro x7 e6
  have h := h x7 e6
  exact ⟨h, K⟩
theorem ky_X7_meanFrom {b : Bool} {L : List (Nat × Nat)} (hU : ∀ q ∈ L, q ∈ nyT) (hL : ∀ q ∈ kyL_X7_meanFrom, q ∈ L) (hb : False → b = false) {Q : Int64 → HS → Prop} {v0 : Nat} {v1 : Int32} {v2 : Int32} {S : HS} (h : P_X7_meanFrom v0 v1 v2 Q S) : P_X7_meanFrom v0 v1 v2 (fun r T => Q r T ∧ K9 b L S T) S := ky_X7_meanFrom_0 hU hL hb h (k9_rf b L S)
abbrev kyL_X8_hasPlace : List (Nat × Nat) := []
set_option maxRecDepth 20000 in
set_option maxHeartbeats 1000000 in
theorem ky_X8_hasPlace_0 {b : Bool} {L : List (Nat × Nat)} (hU : ∀ q ∈ L, q ∈ nyT) (hL : ∀ q ∈ kyL_X8_hasPlace, q ∈ L) (hb : False → b = false) {Q : Int32 → HS → Prop} {v0 : Nat} {v1 : Int32} {S0 S : HS} (h : P_X8_hasPlace_0 Q v0 v1 S) (K : K9 b L S0 S) : P_X8_hasPlace_0 (fun r T => Q r T ∧ K9 b L S0 T) v0 v1 S := by
  delta P_X8_hasPlace_0 at h ⊢
  refine ⟨?_, ?_⟩
  · intro c1
    have h := h.1 c1
    exact ⟨h, K⟩
  · intro c2
    have h := h.2 c2
    obtain ⟨c3, h⟩ := h
    refine ⟨c3, ?_⟩
    intro x5 e4
    have h := h x5 e4
    refine ⟨?_, ?_⟩
    · intro c6
      have h := h.1 c6
      exact ⟨h, K⟩
    · intro c7
      have h := h.2 c7
      obtain ⟨b8, e9, h⟩ := h
      refine ⟨b8, e9, ?_⟩
      obtain ⟨c10, h⟩ := h
      refine ⟨c10, ?_⟩
      refine ⟨?_, ?_⟩
      · intro c11
        have h := h.1 c11
        exact ⟨h, K⟩
      · intro c12
        have h := h.2 c12
        exact ⟨h, K⟩
theorem ky_X8_hasPlace {b : Bool} {L : List (Nat × Nat)} (hU : ∀ q ∈ L, q ∈ nyT) (hL : ∀ q ∈ kyL_X8_hasPlace, q ∈ L) (hb : False → b = false) {Q : Int32 → HS → Prop} {v0 : Nat} {v1 : Int32} {S : HS} (h : P_X8_hasPlace v0 v1 Q S) : P_X8_hasPlace v0 v1 (fun r T => Q r T ∧ K9 b L S T) S := ky_X8_hasPlace_0 hU hL hb h (k9_rf b L S)
abbrev kyL_X8_canWait : List (Nat × Nat) := []
set_option maxRecDepth 20000 in
set_option maxHeartbeats 1000000 in
theorem ky_X8_canWait_0 {b : Bool} {L : List (Nat × Nat)} (hU : ∀ q ∈ L, q ∈ nyT) (hL : ∀ q ∈ kyL_X8_canWait, q ∈ L) (hb : False → b = false) {Q : Int32 → HS → Prop} {v0 : Nat} {v1 : Int32} {S0 S : HS} (h : P_X8_canWait_0 Q v0 v1 S) (K : K9 b L S0 S) : P_X8_canWait_0 (fun r T => Q r T ∧ K9 b L S0 T) v0 v1 S := by
  delta P_X8_canWait_0 at h ⊢
  obtain ⟨c1, h⟩ := h
  refine ⟨c1, ?_⟩
  refine cm_X8_hasPlace (ky_X8_hasPlace (b := b) hU (fun q hq => hL q ((by decide : ∀ q ∈ kyL_X8_hasPlace, q ∈ kyL_X8_canWait) q hq)) (fun z => z.elim) h) h (fun x2 x3 p6 h g4 g5 => ?_)
  have h := h g4 g5
  have K := k9_tr K p6.2
  refine ⟨?_, ?_⟩
  · intro c7
    have h := h.1 c7
    exact ⟨h, K⟩
  · intro c8
    have h := h.2 c8
    obtain ⟨b9, e10, h⟩ := h
    refine ⟨b9, e10, ?_⟩
    obtain ⟨c11, h⟩ := h
    refine ⟨c11, ?_⟩
    obtain ⟨c12, h⟩ := h
    refine ⟨c12, ?_⟩
    intro x14 e13
    have h := h x14 e13
    refine ⟨?_, ?_⟩
    · intro c15
      have h := h.1 c15
      exact ⟨h, K⟩
    · intro c16
      have h := h.2 c16
      exact ⟨h, K⟩
theorem ky_X8_canWait {b : Bool} {L : List (Nat × Nat)} (hU : ∀ q ∈ L, q ∈ nyT) (hL : ∀ q ∈ kyL_X8_canWait, q ∈ L) (hb : False → b = false) {Q : Int32 → HS → Prop} {v0 : Nat} {v1 : Int32} {S : HS} (h : P_X8_canWait v0 v1 Q S) : P_X8_canWait v0 v1 (fun r T => Q r T ∧ K9 b L S T) S := ky_X8_canWait_0 hU hL hb h (k9_rf b L S)
abbrev kyL_X8_dripOn : List (Nat × Nat) := []
set_option maxRecDepth 20000 in
set_option maxHeartbeats 1000000 in
theorem ky_X8_dripOn_0 {b : Bool} {L : List (Nat × Nat)} (hU : ∀ q ∈ L, q ∈ nyT) (hL : ∀ q ∈ kyL_X8_dripOn, q ∈ L) (hb : False → b = false) {Q : Int32 → HS → Prop} {v0 : Nat} {v1 : Nat} {v2 : Int32} {S0 S : HS} (h : P_X8_dripOn_0 Q v0 v1 v2 S) (K : K9 b L S0 S) : P_X8_dripOn_0 (fun r T => Q r T ∧ K9 b L S0 T) v0 v1 v2 S := by
  delta P_X8_dripOn_0 at h ⊢
  obtain ⟨c1, h⟩ := h
  refine ⟨c1, ?_⟩
  refine cm_X8_canWait (ky_X8_canWait (b := b) hU (fun q hq => hL q ((by decide : ∀ q ∈ kyL_X8_canWait, q ∈ kyL_X8_dripOn) q hq)) (fun z => z.elim) h) h (fun x2 x3 p6 h g4 g5 => ?_)
  have h := h g4 g5
  have K := k9_tr K p6.2
  refine ⟨?_, ?_⟩
  · intro c7
    have h := h.1 c7
    exact ⟨h, K⟩
  · intro c8
    have h := h.2 c8
    obtain ⟨b9, e10, h⟩ := h
    refine ⟨b9, e10, ?_⟩
    obtain ⟨c11, h⟩ := h
    refine ⟨c11, ?_⟩
    obtain ⟨c12, h⟩ := h
    refine ⟨c12, ?_⟩
    intro x14 e13
    have h := h x14 e13
    obtain ⟨c15, h⟩ := h
    refine ⟨c15, ?_⟩
    intro x17 e16
    have h := h x17 e16
    refine cm_X6_shield (ky_X6_shield (b := b) hU (fun q hq => hL q ((by decide : ∀ q ∈ kyL_X6_shield, q ∈ kyL_X8_dripOn) q hq)) (fun z => z.elim) h) h (fun x18 x19 p21 h g20 => ?_)
    have h := h g20
    have K := k9_tr K p21.2
    intro x23 e22
    have h := h x23 e22
    exact ⟨h, K⟩
theorem ky_X8_dripOn {b : Bool} {L : List (Nat × Nat)} (hU : ∀ q ∈ L, q ∈ nyT) (hL : ∀ q ∈ kyL_X8_dripOn, q ∈ L) (hb : False → b = false) {Q : Int32 → HS → Prop} {v0 : Nat} {v1 : Nat} {v2 : Int32} {S : HS} (h : P_X8_dripOn v0 v1 v2 Q S) : P_X8_dripOn v0 v1 v2 (fun r T => Q r T ∧ K9 b L S T) S := ky_X8_dripOn_0 hU hL hb h (k9_rf b L S)
abbrev kyL_X8_hasHour : List (Nat × Nat) := []
set_option maxRecDepth 20000 in
set_option maxHeartbeats 1000000 in
theorem ky_X8_hasHour_0 {b : Bool} {L : List (Nat × Nat)} (hU : ∀ q ∈ L, q ∈ nyT) (hL : ∀ q ∈ kyL_X8_hasHour, q ∈ L) (hb : False → b = false) {Q : Int32 → HS → Prop} {v0 : Nat} {v1 : Int32} {S0 S : HS} (h : P_X8_hasHour_0 Q v0 v1 S) (K : K9 b L S0 S) : P_X8_hasHour_0 (fun r T => Q r T ∧ K9 b L S0 T) v0 v1 S := by
  delta P_X8_hasHour_0 at h ⊢
  refine ⟨?_, ?_⟩
  · intro c1
    have h := h.1 c1
    exact ⟨h, K⟩
  · intro c2
    have h := h.2 c2
    obtain ⟨c3, h⟩ := h
    refine ⟨c3, ?_⟩
    intro x5 e4
    have h := h x5 e4
    refine ⟨?_, ?_⟩
    · intro c6
      have h := h.1 c6
      exact ⟨h, K⟩
    · intro c7
      have h := h.2 c7
      obtain ⟨b8, e9, h⟩ := h
      refine ⟨b8, e9, ?_⟩
      obtain ⟨c10, h⟩ := h
      refine ⟨c10, ?_⟩
      refine ⟨?_, ?_⟩
      · intro c11
        have h := h.1 c11
        exact ⟨h, K⟩
      · intro c12
        have h := h.2 c12
        exact ⟨h, K⟩
theorem ky_X8_hasHour {b : Bool} {L : List (Nat × Nat)} (hU : ∀ q ∈ L, q ∈ nyT) (hL : ∀ q ∈ kyL_X8_hasHour, q ∈ L) (hb : False → b = false) {Q : Int32 → HS → Prop} {v0 : Nat} {v1 : Int32} {S : HS} (h : P_X8_hasHour v0 v1 Q S) : P_X8_hasHour v0 v1 (fun r T => Q r T ∧ K9 b L S T) S := ky_X8_hasHour_0 hU hL hb h (k9_rf b L S)
abbrev kyL_X7_price : List (Nat × Nat) := [(1, 0), (1, 1), (7, 7)]
set_option maxRecDepth 20000 in
set_option maxHeartbeats 1000000 in
theorem ky_X7_price_134 {b : Bool} {L : List (Nat × Nat)} (hU : ∀ q ∈ L, q ∈ nyT) (hL : ∀ q ∈ kyL_X7_price, q ∈ L) (hb : False → b = false) {Q : HS → Prop} {X51 X51_2 : Nat → Nat → Nat → Int32 → Nat → Int32 → Int32 → HS → Prop} {X86 X86_2 : Nat → Nat → Nat → Int32 → Nat → Int32 → Int32 → Nat → Int32 → Int32 → HS → Prop} {v0 : Nat} {v1 : Nat} {v2 : Nat} {v3 : Int32} {v4 : Nat} {v5 : Int32} {v6 : Int32} {v7 : Nat} {v8 : Int32} {v9 : Int32} {s0 : Int64} {S0 S : HS} (h : P_X7_price_134 Q X51 X86 v0 v1 v2 v3 v4 v5 v6 v7 v8 v9 s0 S) (K : K9 b L S0 S) (hX51 : ∀ (u0 : Nat) (u1 : Nat) (u2 : Nat) (u3 : Int32) (u4 : Nat) (u5 : Int32) (u6 : Int32) (u7 : HS), X51 u0 u1 u2 u3 u4 u5 u6 u7 → K9 b L S0 u7 → X51_2 u0 u1 u2 u3 u4 u5 u6 u7) (hX86 : ∀ (u0 : Nat) (u1 : Nat) (u2 : Nat) (u3 : Int32) (u4 : Nat) (u5 : Int32) (u6 : Int32) (u7 : Nat) (u8 : Int32) (u9 : Int32) (u10 : HS), X86 u0 u1 u2 u3 u4 u5 u6 u7 u8 u9 u10 → K9 b L S0 u10 → X86_2 u0 u1 u2 u3 u4 u5 u6 u7 u8 u9 u10) : P_X7_price_134 (fun T => Q T ∧ K9 b L S0 T) X51_2 X86_2 v0 v1 v2 v3 v4 v5 v6 v7 v8 v9 s0 S := by
  delta P_X7_price_134 at h ⊢
  intro x2 e1
  have h := h x2 e1
  obtain ⟨c3, h⟩ := h
  refine ⟨c3, ?_⟩
  refine cm_X7_addLeg (ky_X7_addLeg (b := b) hU (fun q hq => hL q ((by decide : ∀ q ∈ kyL_X7_addLeg, q ∈ kyL_X7_price) q hq)) (fun z => z.elim) h) h (fun x4 p6 h g5 => ?_)
  have h := h g5
  have K := k9_tr K p6.2
  intro x8 e7
  have h := h x8 e7
  exact hX86 _ _ _ _ _ _ _ _ _ _ _ h K
set_option maxRecDepth 20000 in
set_option maxHeartbeats 1000000 in
theorem kyB_X7_price_86 {b : Bool} {L : List (Nat × Nat)} (hU : ∀ q ∈ L, q ∈ nyT) (hL : ∀ q ∈ kyL_X7_price, q ∈ L) (hb : False → b = false) {Q : HS → Prop} {X51 X51_2 : Nat → Nat → Nat → Int32 → Nat → Int32 → Int32 → HS → Prop} {X86 X86_2 : Nat → Nat → Nat → Int32 → Nat → Int32 → Int32 → Nat → Int32 → Int32 → HS → Prop} {v0 : Nat} {v1 : Nat} {v2 : Nat} {v3 : Int32} {v4 : Nat} {v5 : Int32} {v6 : Int32} {v7 : Nat} {v8 : Int32} {v9 : Int32} {S0 S : HS} (h : B_X7_price_86 Q X51 X86 v0 v1 v2 v3 v4 v5 v6 v7 v8 v9 S) (K : K9 b L S0 S) (hX51 : ∀ (u0 : Nat) (u1 : Nat) (u2 : Nat) (u3 : Int32) (u4 : Nat) (u5 : Int32) (u6 : Int32) (u7 : HS), X51 u0 u1 u2 u3 u4 u5 u6 u7 → K9 b L S0 u7 → X51_2 u0 u1 u2 u3 u4 u5 u6 u7) (hX86 : ∀ (u0 : Nat) (u1 : Nat) (u2 : Nat) (u3 : Int32) (u4 : Nat) (u5 : Int32) (u6 : Int32) (u7 : Nat) (u8 : Int32) (u9 : Int32) (u10 : HS), X86 u0 u1 u2 u3 u4 u5 u6 u7 u8 u9 u10 → K9 b L S0 u10 → X86_2 u0 u1 u2 u3 u4 u5 u6 u7 u8 u9 u10) : B_X7_price_86 (fun T => Q T ∧ K9 b L S0 T) X51_2 X86_2 v0 v1 v2 v3 v4 v5 v6 v7 v8 v9 S := by
  delta B_X7_price_86 at h ⊢
  obtain ⟨c1, h⟩ := h
  refine ⟨c1, ?_⟩
  intro x3 e2
  have h := h x3 e2
  refine ⟨?_, ?_⟩
  · intro c4
    have h := h.1 c4
    intro x6 e5
    have h := h x6 e5
    exact hX51 _ _ _ _ _ _ _ _ h K
  · intro c7
    have h := h.2 c7
    refine ⟨?_, ?_⟩
    · intro c8
      have h := h.1 c8
      obtain ⟨c9, h⟩ := h
      refine ⟨c9, ?_⟩
      obtain ⟨b10, e11, h⟩ := h
      refine ⟨b10, e11, ?_⟩
      obtain ⟨c12, h⟩ := h
      refine ⟨c12, ?_⟩
      obtain ⟨c13, h⟩ := h
      refine ⟨c13, ?_⟩
      obtain ⟨b14, e15, h⟩ := h
      refine ⟨b14, e15, ?_⟩
      obtain ⟨c16, h⟩ := h
      refine ⟨c16, ?_⟩
      refine cm_X1_wetOf (ky_X1_wetOf (b := b) hU (fun q hq => hL q ((by decide : ∀ q ∈ kyL_X1_wetOf, q ∈ kyL_X7_price) q hq)) (fun z => z.elim) h) h (fun x17 x18 p20 h g19 => ?_)
      have h := h g19
      have K := k9_tr K p20.2
      obtain ⟨b21, e22, h⟩ := h
      refine ⟨b21, e22, ?_⟩
      obtain ⟨c23, h⟩ := h
      refine ⟨c23, ?_⟩
      obtain ⟨c24, h⟩ := h
      refine ⟨c24, ?_⟩
      obtain ⟨b25, e26, h⟩ := h
      refine ⟨b25, e26, ?_⟩
      obtain ⟨c27, h⟩ := h
      refine ⟨c27, ?_⟩
      intro x29 e28
      have h := h x29 e28
      exact ky_X7_price_134 hU hL hb h K hX51 hX86
    · intro c30
      have h := h.2 c30
      exact ky_X7_price_134 hU hL hb h K hX51 hX86
theorem ky_X7_price_86 {b : Bool} {L : List (Nat × Nat)} (hU : ∀ q ∈ L, q ∈ nyT) (hL : ∀ q ∈ kyL_X7_price, q ∈ L) (hb : False → b = false) {Q : HS → Prop} {X51 X51_2 : Nat → Nat → Nat → Int32 → Nat → Int32 → Int32 → HS → Prop} {v0 : Nat} {v1 : Nat} {v2 : Nat} {v3 : Int32} {v4 : Nat} {v5 : Int32} {v6 : Int32} {v7 : Nat} {v8 : Int32} {v9 : Int32} {S0 S : HS} (h : P_X7_price_86 Q X51 v0 v1 v2 v3 v4 v5 v6 v7 v8 v9 S) (K : K9 b L S0 S) (hX51 : ∀ (u0 : Nat) (u1 : Nat) (u2 : Nat) (u3 : Int32) (u4 : Nat) (u5 : Int32) (u6 : Int32) (u7 : HS), X51 u0 u1 u2 u3 u4 u5 u6 u7 → K9 b L S0 u7 → X51_2 u0 u1 u2 u3 u4 u5 u6 u7) : P_X7_price_86 (fun T => Q T ∧ K9 b L S0 T) X51_2 v0 v1 v2 v3 v4 v5 v6 v7 v8 v9 S := h (fun v0 v1 v2 v3 v4 v5 v6 v7 v8 v9 S => K9 b L S0 S → P_X7_price_86 (fun T => Q T ∧ K9 b L S0 T) X51_2 v0 v1 v2 v3 v4 v5 v6 v7 v8 v9 S) (fun v0 v1 v2 v3 v4 v5 v6 v7 v8 v9 S hB K => fd_X7_price_86 (kyB_X7_price_86 hU hL hb hB K hX51 (fun _ _ _ _ _ _ _ _ _ _ _ hx K => hx K))) K
set_option maxRecDepth 20000 in
set_option maxHeartbeats 1000000 in
theorem ky_X7_price_245 {b : Bool} {L : List (Nat × Nat)} (hU : ∀ q ∈ L, q ∈ nyT) (hL : ∀ q ∈ kyL_X7_price, q ∈ L) (hb : False → b = false) {Q : HS → Prop} {X179 X179_2 : Nat → Nat → Int32 → Nat → Int32 → Int32 → HS → Prop} {v0 : Nat} {v1 : Nat} {v3 : Int32} {v4 : Nat} {v5 : Int32} {v6 : Int32} {S0 S : HS} (h : P_X7_price_245 Q X179 v0 v1 v3 v4 v5 v6 S) (K : K9 b L S0 S) (hX179 : ∀ (u0 : Nat) (u1 : Nat) (u2 : Int32) (u3 : Nat) (u4 : Int32) (u5 : Int32) (u6 : HS), X179 u0 u1 u2 u3 u4 u5 u6 → K9 b L S0 u6 → X179_2 u0 u1 u2 u3 u4 u5 u6) : P_X7_price_245 (fun T => Q T ∧ K9 b L S0 T) X179_2 v0 v1 v3 v4 v5 v6 S := by
  delta P_X7_price_245 at h ⊢
  intro x2 e1
  have h := h x2 e1
  exact hX179 _ _ _ _ _ _ _ h K
set_option maxRecDepth 20000 in
set_option maxHeartbeats 1000000 in
theorem ky_X7_price_230 {b : Bool} {L : List (Nat × Nat)} (hU : ∀ q ∈ L, q ∈ nyT) (hL : ∀ q ∈ kyL_X7_price, q ∈ L) (hb : False → b = false) {Q : HS → Prop} {X179 X179_2 : Nat → Nat → Int32 → Nat → Int32 → Int32 → HS → Prop} {v0 : Nat} {v1 : Nat} {v3 : Int32} {v4 : Nat} {v5 : Int32} {v6 : Int32} {s0 : Int64} {S0 S : HS} (h : P_X7_price_230 Q X179 v0 v1 v3 v4 v5 v6 s0 S) (K : K9 b L S0 S) (hX179 : ∀ (u0 : Nat) (u1 : Nat) (u2 : Int32) (u3 : Nat) (u4 : Int32) (u5 : Int32) (u6 : HS), X179 u0 u1 u2 u3 u4 u5 u6 → K9 b L S0 u6 → X179_2 u0 u1 u2 u3 u4 u5 u6) : P_X7_price_230 (fun T => Q T ∧ K9 b L S0 T) X179_2 v0 v1 v3 v4 v5 v6 s0 S := by
  delta P_X7_price_230 at h ⊢
  obtain ⟨c1, h⟩ := h
  refine ⟨c1, ?_⟩
  refine cm_X7_addMove (ky_X7_addMove (b := b) hU (fun q hq => hL q ((by decide : ∀ q ∈ kyL_X7_addMove, q ∈ kyL_X7_price) q hq)) (fun z => z.elim) h) h (fun x2 p4 h g3 => ?_)
  have h := h g3
  have K := k9_tr K p4.2
  exact ky_X7_price_245 hU hL hb h K hX179
set_option maxRecDepth 20000 in
set_option maxHeartbeats 1000000 in
theorem kyB_X7_price_179 {b : Bool} {L : List (Nat × Nat)} (hU : ∀ q ∈ L, q ∈ nyT) (hL : ∀ q ∈ kyL_X7_price, q ∈ L) (hb : False → b = false) {Q : HS → Prop} {X179 X179_2 : Nat → Nat → Int32 → Nat → Int32 → Int32 → HS → Prop} {v0 : Nat} {v1 : Nat} {v3 : Int32} {v4 : Nat} {v5 : Int32} {v6 : Int32} {S0 S : HS} (h : B_X7_price_179 Q X179 v0 v1 v3 v4 v5 v6 S) (K : K9 b L S0 S) (hX179 : ∀ (u0 : Nat) (u1 : Nat) (u2 : Int32) (u3 : Nat) (u4 : Int32) (u5 : Int32) (u6 : HS), X179 u0 u1 u2 u3 u4 u5 u6 → K9 b L S0 u6 → X179_2 u0 u1 u2 u3 u4 u5 u6) : B_X7_price_179 (fun T => Q T ∧ K9 b L S0 T) X179_2 v0 v1 v3 v4 v5 v6 S := by
  delta B_X7_price_179 at h ⊢
  obtain ⟨c1, h⟩ := h
  refine ⟨c1, ?_⟩
  intro x3 e2
  have h := h x3 e2
  refine ⟨?_, ?_⟩
  · intro c4
    have h := h.1 c4
    exact ⟨h, K⟩
  · intro c5
    have h := h.2 c5
    refine cm_X8_canWait (ky_X8_canWait (b := b) hU (fun q hq => hL q ((by decide : ∀ q ∈ kyL_X8_canWait, q ∈ kyL_X7_price) q hq)) (fun z => z.elim) h) h (fun x6 x7 p10 h g8 g9 => ?_)
    have h := h g8 g9
    have K := k9_tr K p10.2
    refine ⟨?_, ?_⟩
    · intro c11
      have h := h.1 c11
      exact ky_X7_price_245 hU hL hb h K hX179
    · intro c12
      have h := h.2 c12
      refine ⟨?_, ?_⟩
      · intro c13
        have h := h.1 c13
        refine cm_X8_dripOn (ky_X8_dripOn (b := b) hU (fun q hq => hL q ((by decide : ∀ q ∈ kyL_X8_dripOn, q ∈ kyL_X7_price) q hq)) (fun z => z.elim) h) h (fun x14 x15 p17 h g16 => ?_)
        have h := h g16
        have K := k9_tr K p17.2
        obtain ⟨b18, e19, h⟩ := h
        refine ⟨b18, e19, ?_⟩
        obtain ⟨c20, h⟩ := h
        refine ⟨c20, ?_⟩
        obtain ⟨c21, h⟩ := h
        refine ⟨c21, ?_⟩
        obtain ⟨b22, e23, h⟩ := h
        refine ⟨b22, e23, ?_⟩
        obtain ⟨c24, h⟩ := h
        refine ⟨c24, ?_⟩
        intro x26 e25
        have h := h x26 e25
        exact ky_X7_price_230 hU hL hb h K hX179
      · intro c27
        have h := h.2 c27
        exact ky_X7_price_230 hU hL hb h K hX179
theorem ky_X7_price_179 {b : Bool} {L : List (Nat × Nat)} (hU : ∀ q ∈ L, q ∈ nyT) (hL : ∀ q ∈ kyL_X7_price, q ∈ L) (hb : False → b = false) {Q : HS → Prop} {v0 : Nat} {v1 : Nat} {v3 : Int32} {v4 : Nat} {v5 : Int32} {v6 : Int32} {S0 S : HS} (h : P_X7_price_179 Q v0 v1 v3 v4 v5 v6 S) (K : K9 b L S0 S) : P_X7_price_179 (fun T => Q T ∧ K9 b L S0 T) v0 v1 v3 v4 v5 v6 S := h (fun v0 v1 v3 v4 v5 v6 S => K9 b L S0 S → P_X7_price_179 (fun T => Q T ∧ K9 b L S0 T) v0 v1 v3 v4 v5 v6 S) (fun v0 v1 v3 v4 v5 v6 S hB K => fd_X7_price_179 (kyB_X7_price_179 hU hL hb hB K (fun _ _ _ _ _ _ _ hx K => hx K))) K
set_option maxRecDepth 20000 in
set_option maxHeartbeats 1000000 in
theorem kyB_X7_price_51 {b : Bool} {L : List (Nat × Nat)} (hU : ∀ q ∈ L, q ∈ nyT) (hL : ∀ q ∈ kyL_X7_price, q ∈ L) (hb : False → b = false) {Q : HS → Prop} {X51 X51_2 : Nat → Nat → Nat → Int32 → Nat → Int32 → Int32 → HS → Prop} {v0 : Nat} {v1 : Nat} {v2 : Nat} {v3 : Int32} {v4 : Nat} {v5 : Int32} {v6 : Int32} {S0 S : HS} (h : B_X7_price_51 Q X51 v0 v1 v2 v3 v4 v5 v6 S) (K : K9 b L S0 S) (hX51 : ∀ (u0 : Nat) (u1 : Nat) (u2 : Nat) (u3 : Int32) (u4 : Nat) (u5 : Int32) (u6 : Int32) (u7 : HS), X51 u0 u1 u2 u3 u4 u5 u6 u7 → K9 b L S0 u7 → X51_2 u0 u1 u2 u3 u4 u5 u6 u7) : B_X7_price_51 (fun T => Q T ∧ K9 b L S0 T) X51_2 v0 v1 v2 v3 v4 v5 v6 S := by
  delta B_X7_price_51 at h ⊢
  obtain ⟨c1, h⟩ := h
  refine ⟨c1, ?_⟩
  intro x3 e2
  have h := h x3 e2
  refine ⟨?_, ?_⟩
  · intro c4
    have h := h.1 c4
    exact ky_X7_price_179 hU hL hb h K
  · intro c5
    have h := h.2 c5
    obtain ⟨b6, e7, h⟩ := h
    refine ⟨b6, e7, ?_⟩
    intro x9 e8
    have h := h x9 e8
    obtain ⟨c10, h⟩ := h
    refine ⟨c10, ?_⟩
    obtain ⟨c11, h⟩ := h
    refine ⟨c11, ?_⟩
    obtain ⟨b12, e13, h⟩ := h
    refine ⟨b12, e13, ?_⟩
    intro x15 e14
    have h := h x15 e14
    obtain ⟨c16, h⟩ := h
    refine ⟨c16, ?_⟩
    intro x18 e17
    have h := h x18 e17
    exact ky_X7_price_86 hU hL hb h K hX51
theorem ky_X7_price_51 {b : Bool} {L : List (Nat × Nat)} (hU : ∀ q ∈ L, q ∈ nyT) (hL : ∀ q ∈ kyL_X7_price, q ∈ L) (hb : False → b = false) {Q : HS → Prop} {v0 : Nat} {v1 : Nat} {v2 : Nat} {v3 : Int32} {v4 : Nat} {v5 : Int32} {v6 : Int32} {S0 S : HS} (h : P_X7_price_51 Q v0 v1 v2 v3 v4 v5 v6 S) (K : K9 b L S0 S) : P_X7_price_51 (fun T => Q T ∧ K9 b L S0 T) v0 v1 v2 v3 v4 v5 v6 S := h (fun v0 v1 v2 v3 v4 v5 v6 S => K9 b L S0 S → P_X7_price_51 (fun T => Q T ∧ K9 b L S0 T) v0 v1 v2 v3 v4 v5 v6 S) (fun v0 v1 v2 v3 v4 v5 v6 S hB K => fd_X7_price_51 (kyB_X7_price_51 hU hL hb hB K (fun _ _ _ _ _ _ _ _ hx K => hx K))) K
set_option maxRecDepth 20000 in
set_option maxHeartbeats 1000000 in
theorem ky_X7_price_46 {b : Bool} {L : List (Nat × Nat)} (hU : ∀ q ∈ L, q ∈ nyT) (hL : ∀ q ∈ kyL_X7_price, q ∈ L) (hb : False → b = false) {Q : HS → Prop} {v0 : Nat} {v1 : Nat} {v2 : Nat} {v3 : Int32} {v4 : Nat} {s0 : Int32} {S0 S : HS} (h : P_X7_price_46 Q v0 v1 v2 v3 v4 s0 S) (K : K9 b L S0 S) : P_X7_price_46 (fun T => Q T ∧ K9 b L S0 T) v0 v1 v2 v3 v4 s0 S := by
  delta P_X7_price_46 at h ⊢
  exact ky_X7_price_51 hU hL hb h K
set_option maxRecDepth 20000 in
set_option maxHeartbeats 1000000 in
theorem ky_X7_price_0 {b : Bool} {L : List (Nat × Nat)} (hU : ∀ q ∈ L, q ∈ nyT) (hL : ∀ q ∈ kyL_X7_price, q ∈ L) (hb : False → b = false) {Q : HS → Prop} {v0 : Nat} {v1 : Nat} {v2 : Nat} {v3 : Int32} {S0 S : HS} (h : P_X7_price_0 Q v0 v1 v2 v3 S) (K : K9 b L S0 S) : P_X7_price_0 (fun T => Q T ∧ K9 b L S0 T) v0 v1 v2 v3 S := by
  delta P_X7_price_0 at h ⊢
  obtain ⟨c1, h⟩ := h
  refine ⟨c1, ?_⟩
  intro x3 e2
  have h := h x3 e2
  have K := k9_I K e2
  intro x5 e4
  have h := h x5 e4
  have K := k9_I K e4
  intro x7 e6
  have h := h x7 e6
  obtain ⟨c8, h⟩ := h
  refine ⟨c8, ?_⟩
  refine cm_X8_hasWalker (ky_X8_hasWalker (b := b) hU (fun q hq => hL q ((by decide : ∀ q ∈ kyL_X8_hasWalker, q ∈ kyL_X7_price) q hq)) (fun z => z.elim) h) h (fun x9 x10 p13 h g11 g12 => ?_)
  have h := h g11 g12
  have K := k9_tr K p13.2
  refine ⟨?_, ?_⟩
  · intro c14
    have h := h.1 c14
    obtain ⟨b15, e16, h⟩ := h
    refine ⟨b15, e16, ?_⟩
    intro x18 e17
    have h := h x18 e17
    obtain ⟨c19, h⟩ := h
    refine ⟨c19, ?_⟩
    obtain ⟨c20, h⟩ := h
    refine ⟨c20, ?_⟩
    obtain ⟨b21, e22, h⟩ := h
    refine ⟨b21, e22, ?_⟩
    refine cm_X8_hasHour (ky_X8_hasHour (b := b) hU (fun q hq => hL q ((by decide : ∀ q ∈ kyL_X8_hasHour, q ∈ kyL_X7_price) q hq)) (fun z => z.elim) h) h (fun x23 x24 p27 h g25 g26 => ?_)
    have h := h g25 g26
    have K := k9_tr K p27.2
    refine ⟨?_, ?_⟩
    · intro c28
      have h := h.1 c28
      exact ky_X7_price_46 hU hL hb h K
    · intro c29
      have h := h.2 c29
      exact ky_X7_price_46 hU hL hb h K
  · intro c30
    have h := h.2 c30
    exact ⟨h, K⟩
theorem ky_X7_price {b : Bool} {L : List (Nat × Nat)} (hU : ∀ q ∈ L, q ∈ nyT) (hL : ∀ q ∈ kyL_X7_price, q ∈ L) (hb : False → b = false) {Q : HS → Prop} {v0 : Nat} {v1 : Nat} {v2 : Nat} {v3 : Int32} {S : HS} (h : P_X7_price v0 v1 v2 v3 Q S) : P_X7_price v0 v1 v2 v3 (fun T => Q T ∧ K9 b L S T) S := ky_X7_price_0 hU hL hb h (k9_rf b L S)
abbrev kyL_X7_reckonMinute : List (Nat × Nat) := [(7, 1)]
set_option maxRecDepth 20000 in
set_option maxHeartbeats 1000000 in
theorem ky_X7_reckonMinute_40 {b : Bool} {L : List (Nat × Nat)} (hU : ∀ q ∈ L, q ∈ nyT) (hL : ∀ q ∈ kyL_X7_reckonMinute, q ∈ L) (hb : False → b = false) {Q : HS → Prop} {X2 X2_2 : Nat → Int32 → Int32 → Int32 → HS → Prop} {v0 : Nat} {v1 : Int32} {v2 : Int32} {v3 : Int32} {s0 : Nat} {s1 : Int32} {s2 : Int64} {S0 S : HS} (h : P_X7_reckonMinute_40 Q X2 v0 v1 v2 v3 s0 s1 s2 S) (K : K9 b L S0 S) (o_s0 : KN9 L S0 s0) (hX2 : ∀ (u0 : Nat) (u1 : Int32) (u2 : Int32) (u3 : Int32) (u4 : HS), X2 u0 u1 u2 u3 u4 → K9 b L S0 u4 → X2_2 u0 u1 u2 u3 u4) : P_X7_reckonMinute_40 (fun T => Q T ∧ K9 b L S0 T) X2_2 v0 v1 v2 v3 s0 s1 s2 S := by
  delta P_X7_reckonMinute_40 at h ⊢
  obtain ⟨c1, h⟩ := h
  refine ⟨c1, ?_⟩
  obtain ⟨c2, h⟩ := h
  refine ⟨c2, ?_⟩
  intro x4 e3
  have h := h x4 e3
  have K := k9_J K e3 o_s0
  obtain ⟨c5, h⟩ := h
  refine ⟨c5, ?_⟩
  have o6 := c5
  obtain ⟨b7, e8, h⟩ := h
  refine ⟨b7, e8, ?_⟩
  obtain ⟨c9, h⟩ := h
  refine ⟨c9, ?_⟩
  obtain ⟨c10, h⟩ := h
  refine ⟨c10, ?_⟩
  intro x12 e11
  have h := h x12 e11
  have K := k9_I K e11
  have o6 := ob_wI o6 e11
  intro x14 e13
  have h := h x14 e13
  exact hX2 _ _ _ _ _ h K
set_option maxRecDepth 20000 in
set_option maxHeartbeats 1000000 in
theorem ky_X7_reckonMinute_219 {b : Bool} {L : List (Nat × Nat)} (hU : ∀ q ∈ L, q ∈ nyT) (hL : ∀ q ∈ kyL_X7_reckonMinute, q ∈ L) (hb : False → b = false) {Q : HS → Prop} {X62 X62_2 : Nat → Int32 → Int32 → HS → Prop} {v0 : Nat} {v2 : Int32} {v3 : Int32} {S0 S : HS} (h : P_X7_reckonMinute_219 Q X62 v0 v2 v3 S) (K : K9 b L S0 S) (hX62 : ∀ (u0 : Nat) (u1 : Int32) (u2 : Int32) (u3 : HS), X62 u0 u1 u2 u3 → K9 b L S0 u3 → X62_2 u0 u1 u2 u3) : P_X7_reckonMinute_219 (fun T => Q T ∧ K9 b L S0 T) X62_2 v0 v2 v3 S := by
  delta P_X7_reckonMinute_219 at h ⊢
  intro x2 e1
  have h := h x2 e1
  exact hX62 _ _ _ _ h K
set_option maxRecDepth 20000 in
set_option maxHeartbeats 1000000 in
theorem ky_X7_reckonMinute_117 {b : Bool} {L : List (Nat × Nat)} (hU : ∀ q ∈ L, q ∈ nyT) (hL : ∀ q ∈ kyL_X7_reckonMinute, q ∈ L) (hb : False → b = false) {Q : HS → Prop} {X62 X62_2 : Nat → Int32 → Int32 → HS → Prop} {v0 : Nat} {v2 : Int32} {v3 : Int32} {v4 : Int32} {v5 : Int32} {s0 : Int32} {S0 S : HS} (h : P_X7_reckonMinute_117 Q X62 v0 v2 v3 v4 v5 s0 S) (K : K9 b L S0 S) (hX62 : ∀ (u0 : Nat) (u1 : Int32) (u2 : Int32) (u3 : HS), X62 u0 u1 u2 u3 → K9 b L S0 u3 → X62_2 u0 u1 u2 u3) : P_X7_reckonMinute_117 (fun T => Q T ∧ K9 b L S0 T) X62_2 v0 v2 v3 v4 v5 s0 S := by
  delta P_X7_reckonMinute_117 at h ⊢
  refine ⟨?_, ?_⟩
  · intro c1
    have h := h.1 c1
    exact ky_X7_reckonMinute_219 hU hL hb h K hX62
  · intro c2
    have h := h.2 c2
    refine ⟨?_, ?_⟩
    · intro c3
      have h := h.1 c3
      exact ky_X7_reckonMinute_219 hU hL hb h K hX62
    · intro c4
      have h := h.2 c4
      obtain ⟨c5, h⟩ := h
      refine ⟨c5, ?_⟩
      have o6 := c5
      obtain ⟨b7, e8, h⟩ := h
      refine ⟨b7, e8, ?_⟩
      have n9 := k9_nr K e8 o6 (hL _ (by decide))
      obtain ⟨c10, h⟩ := h
      refine ⟨c10, ?_⟩
      refine ⟨?_, ?_⟩
      · intro c11
        have h := h.1 c11
        exact ky_X7_reckonMinute_219 hU hL hb h K hX62
      · intro c12
        have h := h.2 c12
        refine ⟨?_, ?_⟩
        · intro c13
          have h := h.1 c13
          exact ky_X7_reckonMinute_219 hU hL hb h K hX62
        · intro c14
          have h := h.2 c14
          obtain ⟨b15, e16, h⟩ := h
          refine ⟨b15, e16, ?_⟩
          have n17 := k9_nr K e16 o6 (hL _ (by decide))
          obtain ⟨c18, h⟩ := h
          refine ⟨c18, ?_⟩
          refine ⟨?_, ?_⟩
          · intro c19
            have h := h.1 c19
            exact ky_X7_reckonMinute_219 hU hL hb h K hX62
          · intro c20
            have h := h.2 c20
            obtain ⟨b21, e22, h⟩ := h
            refine ⟨b21, e22, ?_⟩
            obtain ⟨c23, h⟩ := h
            refine ⟨c23, ?_⟩
            obtain ⟨c24, h⟩ := h
            refine ⟨c24, ?_⟩
            intro x26 e25
            have h := h x26 e25
            refine ⟨?_, ?_⟩
            · intro c27
              have h := h.1 c27
              exact ky_X7_reckonMinute_219 hU hL hb h K hX62
            · intro c28
              have h := h.2 c28
              obtain ⟨b29, e30, h⟩ := h
              refine ⟨b29, e30, ?_⟩
              obtain ⟨c31, h⟩ := h
              refine ⟨c31, ?_⟩
              obtain ⟨c32, h⟩ := h
              refine ⟨c32, ?_⟩
              intro x34 e33
              have h := h x34 e33
              obtain ⟨b35, e36, h⟩ := h
              refine ⟨b35, e36, ?_⟩
              obtain ⟨c37, h⟩ := h
              refine ⟨c37, ?_⟩
              obtain ⟨c38, h⟩ := h
              refine ⟨c38, ?_⟩
              intro x40 e39
              have h := h x40 e39
              intro x42 e41
              have h := h x42 e41
              obtain ⟨b43, e44, h⟩ := h
              refine ⟨b43, e44, ?_⟩
              obtain ⟨c45, h⟩ := h
              refine ⟨c45, ?_⟩
              obtain ⟨c46, h⟩ := h
              refine ⟨c46, ?_⟩
              intro x48 e47
              have h := h x48 e47
              refine ⟨?_, ?_⟩
              · intro c49
                have h := h.1 c49
                exact ky_X7_reckonMinute_219 hU hL hb h K hX62
              · intro c50
                have h := h.2 c50
                obtain ⟨b51, e52, h⟩ := h
                refine ⟨b51, e52, ?_⟩
                have n53 := k9_nr K e52 o6 (hL _ (by decide))
                obtain ⟨c54, h⟩ := h
                refine ⟨c54, ?_⟩
                obtain ⟨c55, h⟩ := h
                refine ⟨c55, ?_⟩
                intro x57 e56
                have h := h x57 e56
                have K := k9_J K e56 n53
                have o6 := ob_wJ o6 e56
                obtain ⟨b58, e59, h⟩ := h
                refine ⟨b58, e59, ?_⟩
                obtain ⟨b60, e61, h⟩ := h
                refine ⟨b60, e61, ?_⟩
                obtain ⟨c62, h⟩ := h
                refine ⟨c62, ?_⟩
                obtain ⟨c63, h⟩ := h
                refine ⟨c63, ?_⟩
                intro x65 e64
                have h := h x65 e64
                obtain ⟨c66, h⟩ := h
                refine ⟨c66, ?_⟩
                obtain ⟨c67, h⟩ := h
                refine ⟨c67, ?_⟩
                intro x69 e68
                have h := h x69 e68
                have K := k9_I K e68
                have o6 := ob_wI o6 e68
                exact ky_X7_reckonMinute_219 hU hL hb h K hX62
set_option maxRecDepth 20000 in
set_option maxHeartbeats 1000000 in
theorem kyB_X7_reckonMinute_62 {b : Bool} {L : List (Nat × Nat)} (hU : ∀ q ∈ L, q ∈ nyT) (hL : ∀ q ∈ kyL_X7_reckonMinute, q ∈ L) (hb : False → b = false) {Q : HS → Prop} {X62 X62_2 : Nat → Int32 → Int32 → HS → Prop} {v0 : Nat} {v2 : Int32} {v3 : Int32} {S0 S : HS} (h : B_X7_reckonMinute_62 Q X62 v0 v2 v3 S) (K : K9 b L S0 S) (hX62 : ∀ (u0 : Nat) (u1 : Int32) (u2 : Int32) (u3 : HS), X62 u0 u1 u2 u3 → K9 b L S0 u3 → X62_2 u0 u1 u2 u3) : B_X7_reckonMinute_62 (fun T => Q T ∧ K9 b L S0 T) X62_2 v0 v2 v3 S := by
  delta B_X7_reckonMinute_62 at h ⊢
  obtain ⟨c1, h⟩ := h
  refine ⟨c1, ?_⟩
  have o2 := c1
  intro x4 e3
  have h := h x4 e3
  refine ⟨?_, ?_⟩
  · intro c5
    have h := h.1 c5
    exact ⟨h, K⟩
  · intro c6
    have h := h.2 c6
    refine ⟨?_, ?_⟩
    · intro c7
      have h := h.1 c7
      exact ⟨h, K⟩
    · intro c8
      have h := h.2 c8
      obtain ⟨b9, e10, h⟩ := h
      refine ⟨b9, e10, ?_⟩
      obtain ⟨c11, h⟩ := h
      refine ⟨c11, ?_⟩
      obtain ⟨c12, h⟩ := h
      refine ⟨c12, ?_⟩
      intro x14 e13
      have h := h x14 e13
      intro x16 e15
      have h := h x16 e15
      obtain ⟨b17, e18, h⟩ := h
      refine ⟨b17, e18, ?_⟩
      obtain ⟨c19, h⟩ := h
      refine ⟨c19, ?_⟩
      obtain ⟨c20, h⟩ := h
      refine ⟨c20, ?_⟩
      intro x22 e21
      have h := h x22 e21
      intro x24 e23
      have h := h x24 e23
      obtain ⟨b25, e26, h⟩ := h
      refine ⟨b25, e26, ?_⟩
      obtain ⟨c27, h⟩ := h
      refine ⟨c27, ?_⟩
      obtain ⟨c28, h⟩ := h
      refine ⟨c28, ?_⟩
      intro x30 e29
      have h := h x30 e29
      intro x32 e31
      have h := h x32 e31
      refine ⟨?_, ?_⟩
      · intro c33
        have h := h.1 c33
        exact ky_X7_reckonMinute_117 hU hL hb h K hX62
      · intro c34
        have h := h.2 c34
        exact ky_X7_reckonMinute_117 hU hL hb h K hX62
theorem ky_X7_reckonMinute_62 {b : Bool} {L : List (Nat × Nat)} (hU : ∀ q ∈ L, q ∈ nyT) (hL : ∀ q ∈ kyL_X7_reckonMinute, q ∈ L) (hb : False → b = false) {Q : HS → Prop} {v0 : Nat} {v2 : Int32} {v3 : Int32} {S0 S : HS} (h : P_X7_reckonMinute_62 Q v0 v2 v3 S) (K : K9 b L S0 S) : P_X7_reckonMinute_62 (fun T => Q T ∧ K9 b L S0 T) v0 v2 v3 S := h (fun v0 v2 v3 S => K9 b L S0 S → P_X7_reckonMinute_62 (fun T => Q T ∧ K9 b L S0 T) v0 v2 v3 S) (fun v0 v2 v3 S hB K => fd_X7_reckonMinute_62 (kyB_X7_reckonMinute_62 hU hL hb hB K (fun _ _ _ _ hx K => hx K))) K
set_option maxRecDepth 20000 in
set_option maxHeartbeats 1000000 in
theorem ky_X7_reckonMinute_60 {b : Bool} {L : List (Nat × Nat)} (hU : ∀ q ∈ L, q ∈ nyT) (hL : ∀ q ∈ kyL_X7_reckonMinute, q ∈ L) (hb : False → b = false) {Q : HS → Prop} {v0 : Nat} {v2 : Int32} {S0 S : HS} (h : P_X7_reckonMinute_60 Q v0 v2 S) (K : K9 b L S0 S) : P_X7_reckonMinute_60 (fun T => Q T ∧ K9 b L S0 T) v0 v2 S := by
  delta P_X7_reckonMinute_60 at h ⊢
  exact ky_X7_reckonMinute_62 hU hL hb h K
set_option maxRecDepth 20000 in
set_option maxHeartbeats 1000000 in
theorem kyB_X7_reckonMinute_2 {b : Bool} {L : List (Nat × Nat)} (hU : ∀ q ∈ L, q ∈ nyT) (hL : ∀ q ∈ kyL_X7_reckonMinute, q ∈ L) (hb : False → b = false) {Q : HS → Prop} {X2 X2_2 : Nat → Int32 → Int32 → Int32 → HS → Prop} {v0 : Nat} {v1 : Int32} {v2 : Int32} {v3 : Int32} {S0 S : HS} (h : B_X7_reckonMinute_2 Q X2 v0 v1 v2 v3 S) (K : K9 b L S0 S) (hX2 : ∀ (u0 : Nat) (u1 : Int32) (u2 : Int32) (u3 : Int32) (u4 : HS), X2 u0 u1 u2 u3 u4 → K9 b L S0 u4 → X2_2 u0 u1 u2 u3 u4) : B_X7_reckonMinute_2 (fun T => Q T ∧ K9 b L S0 T) X2_2 v0 v1 v2 v3 S := by
  delta B_X7_reckonMinute_2 at h ⊢
  refine ⟨?_, ?_⟩
  · intro c1
    have h := h.1 c1
    exact ky_X7_reckonMinute_60 hU hL hb h K
  · intro c2
    have h := h.2 c2
    refine ⟨?_, ?_⟩
    · intro c3
      have h := h.1 c3
      exact ky_X7_reckonMinute_60 hU hL hb h K
    · intro c4
      have h := h.2 c4
      obtain ⟨c5, h⟩ := h
      refine ⟨c5, ?_⟩
      have o6 := c5
      obtain ⟨b7, e8, h⟩ := h
      refine ⟨b7, e8, ?_⟩
      have n9 := k9_nr K e8 o6 (hL _ (by decide))
      intro x11 e10
      have h := h x11 e10
      refine ⟨?_, ?_⟩
      · intro c12
        have h := h.1 c12
        exact ky_X7_reckonMinute_40 hU hL hb h K n9 hX2
      · intro c13
        have h := h.2 c13
        exact ky_X7_reckonMinute_40 hU hL hb h K n9 hX2
theorem ky_X7_reckonMinute_2 {b : Bool} {L : List (Nat × Nat)} (hU : ∀ q ∈ L, q ∈ nyT) (hL : ∀ q ∈ kyL_X7_reckonMinute, q ∈ L) (hb : False → b = false) {Q : HS → Prop} {v0 : Nat} {v1 : Int32} {v2 : Int32} {v3 : Int32} {S0 S : HS} (h : P_X7_reckonMinute_2 Q v0 v1 v2 v3 S) (K : K9 b L S0 S) : P_X7_reckonMinute_2 (fun T => Q T ∧ K9 b L S0 T) v0 v1 v2 v3 S := h (fun v0 v1 v2 v3 S => K9 b L S0 S → P_X7_reckonMinute_2 (fun T => Q T ∧ K9 b L S0 T) v0 v1 v2 v3 S) (fun v0 v1 v2 v3 S hB K => fd_X7_reckonMinute_2 (kyB_X7_reckonMinute_2 hU hL hb hB K (fun _ _ _ _ _ hx K => hx K))) K
set_option maxRecDepth 20000 in
set_option maxHeartbeats 1000000 in
theorem ky_X7_reckonMinute_0 {b : Bool} {L : List (Nat × Nat)} (hU : ∀ q ∈ L, q ∈ nyT) (hL : ∀ q ∈ kyL_X7_reckonMinute, q ∈ L) (hb : False → b = false) {Q : HS → Prop} {v0 : Nat} {v1 : Int32} {v2 : Int32} {S0 S : HS} (h : P_X7_reckonMinute_0 Q v0 v1 v2 S) (K : K9 b L S0 S) : P_X7_reckonMinute_0 (fun T => Q T ∧ K9 b L S0 T) v0 v1 v2 S := by
  delta P_X7_reckonMinute_0 at h ⊢
  exact ky_X7_reckonMinute_2 hU hL hb h K
theorem ky_X7_reckonMinute {b : Bool} {L : List (Nat × Nat)} (hU : ∀ q ∈ L, q ∈ nyT) (hL : ∀ q ∈ kyL_X7_reckonMinute, q ∈ L) (hb : False → b = false) {Q : HS → Prop} {v0 : Nat} {v1 : Int32} {v2 : Int32} {S : HS} (h : P_X7_reckonMinute v0 v1 v2 Q S) : P_X7_reckonMinute v0 v1 v2 (fun T => Q T ∧ K9 b L S T) S := ky_X7_reckonMinute_0 hU hL hb h (k9_rf b L S)
abbrev kyL_X8_hourOf : List (Nat × Nat) := []
set_option maxRecDepth 20000 in
set_option maxHeartbeats 1000000 in
theorem ky_X8_hourOf_0 {b : Bool} {L : List (Nat × Nat)} (hU : ∀ q ∈ L, q ∈ nyT) (hL : ∀ q ∈ kyL_X8_hourOf, q ∈ L) (hb : False → b = false) {Q : Int32 → HS → Prop} {v0 : Nat} {v1 : Int32} {S0 S : HS} (h : P_X8_hourOf_0 Q v0 v1 S) (K : K9 b L S0 S) : P_X8_hourOf_0 (fun r T => Q r T ∧ K9 b L S0 T) v0 v1 S := by
  delta P_X8_hourOf_0 at h ⊢
  obtain ⟨c1, h⟩ := h
  refine ⟨c1, ?_⟩
  intro x3 e2
  have h := h x3 e2
  refine ⟨?_, ?_⟩
  · intro c4
    have h := h.1 c4
    exact ⟨h, K⟩
  · intro c5
    have h := h.2 c5
    intro x7 e6
    have h := h x7 e6
    obtain ⟨c8, h⟩ := h
    refine ⟨c8, ?_⟩
    intro x10 e9
    have h := h x10 e9
    exact ⟨h, K⟩
theorem ky_X8_hourOf {b : Bool} {L : List (Nat × Nat)} (hU : ∀ q ∈ L, q ∈ nyT) (hL : ∀ q ∈ kyL_X8_hourOf, q ∈ L) (hb : False → b = false) {Q : Int32 → HS → Prop} {v0 : Nat} {v1 : Int32} {S : HS} (h : P_X8_hourOf v0 v1 Q S) : P_X8_hourOf v0 v1 (fun r T => Q r T ∧ K9 b L S T) S := ky_X8_hourOf_0 hU hL hb h (k9_rf b L S)
abbrev kyL_X7_reckon : List (Nat × Nat) := [(1, 0), (1, 1), (7, 1), (7, 7)]
set_option maxRecDepth 20000 in
set_option maxHeartbeats 1000000 in
theorem ky_X7_reckon_120 {b : Bool} {L : List (Nat × Nat)} (hU : ∀ q ∈ L, q ∈ nyT) (hL : ∀ q ∈ kyL_X7_reckon, q ∈ L) (hb : False → b = false) {Q : HS → Prop} {X76 X76_2 : Nat → Nat → Nat → Int32 → Int32 → HS → Prop} {v0 : Nat} {v1 : Nat} {v2 : Nat} {v6 : Int32} {v7 : Int32} {S0 S : HS} (h : P_X7_reckon_120 Q X76 v0 v1 v2 v6 v7 S) (K : K9 b L S0 S) (hX76 : ∀ (u0 : Nat) (u1 : Nat) (u2 : Nat) (u3 : Int32) (u4 : Int32) (u5 : HS), X76 u0 u1 u2 u3 u4 u5 → K9 b L S0 u5 → X76_2 u0 u1 u2 u3 u4 u5) : P_X7_reckon_120 (fun T => Q T ∧ K9 b L S0 T) X76_2 v0 v1 v2 v6 v7 S := by
  delta P_X7_reckon_120 at h ⊢
  obtain ⟨c1, h⟩ := h
  refine ⟨c1, ?_⟩
  intro x3 e2
  have h := h x3 e2
  obtain ⟨c4, h⟩ := h
  refine ⟨c4, ?_⟩
  refine cm_X7_reckonMinute (ky_X7_reckonMinute (b := b) hU (fun q hq => hL q ((by decide : ∀ q ∈ kyL_X7_reckonMinute, q ∈ kyL_X7_reckon) q hq)) (fun z => z.elim) h) h (fun x5 p7 h g6 => ?_)
  have h := h g6
  have K := k9_tr K p7.2
  intro x9 e8
  have h := h x9 e8
  have K := k9_I K e8
  intro x11 e10
  have h := h x11 e10
  exact hX76 _ _ _ _ _ _ h K
set_option maxRecDepth 20000 in
set_option maxHeartbeats 1000000 in
theorem kyB_X7_reckon_76 {b : Bool} {L : List (Nat × Nat)} (hU : ∀ q ∈ L, q ∈ nyT) (hL : ∀ q ∈ kyL_X7_reckon, q ∈ L) (hb : False → b = false) {Q : HS → Prop} {X76 X76_2 : Nat → Nat → Nat → Int32 → Int32 → HS → Prop} {v0 : Nat} {v1 : Nat} {v2 : Nat} {v6 : Int32} {v7 : Int32} {S0 S : HS} (h : B_X7_reckon_76 Q X76 v0 v1 v2 v6 v7 S) (K : K9 b L S0 S) (hX76 : ∀ (u0 : Nat) (u1 : Nat) (u2 : Nat) (u3 : Int32) (u4 : Int32) (u5 : HS), X76 u0 u1 u2 u3 u4 u5 → K9 b L S0 u5 → X76_2 u0 u1 u2 u3 u4 u5) : B_X7_reckon_76 (fun T => Q T ∧ K9 b L S0 T) X76_2 v0 v1 v2 v6 v7 S := by
  delta B_X7_reckon_76 at h ⊢
  refine ⟨?_, ?_⟩
  · intro c1
    have h := h.1 c1
    exact ⟨h, K⟩
  · intro c2
    have h := h.2 c2
    refine ⟨?_, ?_⟩
    · intro c3
      have h := h.1 c3
      exact ⟨h, K⟩
    · intro c4
      have h := h.2 c4
      obtain ⟨c5, h⟩ := h
      refine ⟨c5, ?_⟩
      refine cm_X8_hourOf (ky_X8_hourOf (b := b) hU (fun q hq => hL q ((by decide : ∀ q ∈ kyL_X8_hourOf, q ∈ kyL_X7_reckon) q hq)) (fun z => z.elim) h) h (fun x6 x7 p9 h g8 => ?_)
      have h := h g8
      have K := k9_tr K p9.2
      intro x11 e10
      have h := h x11 e10
      intro x13 e12
      have h := h x13 e12
      obtain ⟨c14, h⟩ := h
      refine ⟨c14, ?_⟩
      intro x16 e15
      have h := h x16 e15
      refine ⟨?_, ?_⟩
      · intro c17
        have h := h.1 c17
        exact ky_X7_reckon_120 hU hL hb h K hX76
      · intro c18
        have h := h.2 c18
        refine cm_X7_price (ky_X7_price (b := b) hU (fun q hq => hL q ((by decide : ∀ q ∈ kyL_X7_price, q ∈ kyL_X7_reckon) q hq)) (fun z => z.elim) h) h (fun x19 p21 h g20 => ?_)
        have h := h g20
        have K := k9_tr K p21.2
        exact ky_X7_reckon_120 hU hL hb h K hX76
theorem ky_X7_reckon_76 {b : Bool} {L : List (Nat × Nat)} (hU : ∀ q ∈ L, q ∈ nyT) (hL : ∀ q ∈ kyL_X7_reckon, q ∈ L) (hb : False → b = false) {Q : HS → Prop} {v0 : Nat} {v1 : Nat} {v2 : Nat} {v6 : Int32} {v7 : Int32} {S0 S : HS} (h : P_X7_reckon_76 Q v0 v1 v2 v6 v7 S) (K : K9 b L S0 S) : P_X7_reckon_76 (fun T => Q T ∧ K9 b L S0 T) v0 v1 v2 v6 v7 S := h (fun v0 v1 v2 v6 v7 S => K9 b L S0 S → P_X7_reckon_76 (fun T => Q T ∧ K9 b L S0 T) v0 v1 v2 v6 v7 S) (fun v0 v1 v2 v6 v7 S hB K => fd_X7_reckon_76 (kyB_X7_reckon_76 hU hL hb hB K (fun _ _ _ _ _ _ hx K => hx K))) K
set_option maxRecDepth 20000 in
set_option maxHeartbeats 1000000 in
theorem ky_X7_reckon_68 {b : Bool} {L : List (Nat × Nat)} (hU : ∀ q ∈ L, q ∈ nyT) (hL : ∀ q ∈ kyL_X7_reckon, q ∈ L) (hb : False → b = false) {Q : HS → Prop} {v0 : Nat} {v1 : Nat} {v2 : Nat} {v6 : Int32} {S0 S : HS} (h : P_X7_reckon_68 Q v0 v1 v2 v6 S) (K : K9 b L S0 S) : P_X7_reckon_68 (fun T => Q T ∧ K9 b L S0 T) v0 v1 v2 v6 S := by
  delta P_X7_reckon_68 at h ⊢
  obtain ⟨c1, h⟩ := h
  refine ⟨c1, ?_⟩
  intro x3 e2
  have h := h x3 e2
  intro x5 e4
  have h := h x5 e4
  exact ky_X7_reckon_76 hU hL hb h K
set_option maxRecDepth 20000 in
set_option maxHeartbeats 1000000 in
theorem ky_X7_reckon_38 {b : Bool} {L : List (Nat × Nat)} (hU : ∀ q ∈ L, q ∈ nyT) (hL : ∀ q ∈ kyL_X7_reckon, q ∈ L) (hb : False → b = false) {Q : HS → Prop} {v0 : Nat} {v1 : Nat} {v2 : Nat} {v3 : Int32} {v4 : Int32} {v5 : Int32} {v6 : Int32} {S0 S : HS} (h : P_X7_reckon_38 Q v0 v1 v2 v3 v4 v5 v6 S) (K : K9 b L S0 S) : P_X7_reckon_38 (fun T => Q T ∧ K9 b L S0 T) v0 v1 v2 v3 v4 v5 v6 S := by
  delta P_X7_reckon_38 at h ⊢
  obtain ⟨c1, h⟩ := h
  refine ⟨c1, ?_⟩
  intro x3 e2
  have h := h x3 e2
  have K := k9_I K e2
  intro x5 e4
  have h := h x5 e4
  have K := k9_I K e4
  intro x7 e6
  have h := h x7 e6
  have K := k9_I K e6
  intro x9 e8
  have h := h x9 e8
  intro x11 e10
  have h := h x11 e10
  have K := k9_I K e10
  intro x13 e12
  have h := h x13 e12
  have K := k9_I K e12
  exact ky_X7_reckon_68 hU hL hb h K
set_option maxRecDepth 20000 in
set_option maxHeartbeats 1000000 in
theorem ky_X7_reckon_12 {b : Bool} {L : List (Nat × Nat)} (hU : ∀ q ∈ L, q ∈ nyT) (hL : ∀ q ∈ kyL_X7_reckon, q ∈ L) (hb : False → b = false) {Q : HS → Prop} {v0 : Nat} {v1 : Nat} {v2 : Nat} {v3 : Int32} {v4 : Int32} {v5 : Int32} {v6 : Int32} {S0 S : HS} (h : P_X7_reckon_12 Q v0 v1 v2 v3 v4 v5 v6 S) (K : K9 b L S0 S) : P_X7_reckon_12 (fun T => Q T ∧ K9 b L S0 T) v0 v1 v2 v3 v4 v5 v6 S := by
  delta P_X7_reckon_12 at h ⊢
  obtain ⟨c1, h⟩ := h
  refine ⟨c1, ?_⟩
  intro x3 e2
  have h := h x3 e2
  refine ⟨?_, ?_⟩
  · intro c4
    have h := h.1 c4
    exact ky_X7_reckon_38 hU hL hb h K
  · intro c5
    have h := h.2 c5
    intro x7 e6
    have h := h x7 e6
    refine ⟨?_, ?_⟩
    · intro c8
      have h := h.1 c8
      exact ky_X7_reckon_38 hU hL hb h K
    · intro c9
      have h := h.2 c9
      intro x11 e10
      have h := h x11 e10
      refine ⟨?_, ?_⟩
      · intro c12
        have h := h.1 c12
        exact ky_X7_reckon_68 hU hL hb h K
      · intro c13
        have h := h.2 c13
        exact ky_X7_reckon_38 hU hL hb h K
set_option maxRecDepth 20000 in
set_option maxHeartbeats 1000000 in
theorem ky_X7_reckon_0 {b : Bool} {L : List (Nat × Nat)} (hU : ∀ q ∈ L, q ∈ nyT) (hL : ∀ q ∈ kyL_X7_reckon, q ∈ L) (hb : False → b = false) {Q : HS → Prop} {v0 : Nat} {v1 : Nat} {v2 : Nat} {v3 : Int32} {v4 : Int32} {v5 : Int32} {v6 : Int32} {S0 S : HS} (h : P_X7_reckon_0 Q v0 v1 v2 v3 v4 v5 v6 S) (K : K9 b L S0 S) : P_X7_reckon_0 (fun T => Q T ∧ K9 b L S0 T) v0 v1 v2 v3 v4 v5 v6 S := by
  delta P_X7_reckon_0 at h ⊢
  obtain ⟨c1, h⟩ := h
  refine ⟨c1, ?_⟩
  have o2 := c1
  obtain ⟨b3, e4, h⟩ := h
  refine ⟨b3, e4, ?_⟩
  have n5 := k9_nr K e4 o2 (hL _ (by decide))
  obtain ⟨c6, h⟩ := h
  refine ⟨c6, ?_⟩
  refine ⟨?_, ?_⟩
  · intro c7
    have h := h.1 c7
    exact ky_X7_reckon_12 hU hL hb h K
  · intro c8
    have h := h.2 c8
    refine cm_X7_makeRows (ky_X7_makeRows (b := b) hU (fun q hq => hL q ((by decide : ∀ q ∈ kyL_X7_makeRows, q ∈ kyL_X7_reckon) q hq)) (fun z => z.elim) h) h (fun x9 p11 h g10 => ?_)
    have h := h g10
    have K := k9_tr K p11.2
    have o2 := gr_ob p11.2.1 o2
    exact ky_X7_reckon_12 hU hL hb h K
theorem ky_X7_reckon {b : Bool} {L : List (Nat × Nat)} (hU : ∀ q ∈ L, q ∈ nyT) (hL : ∀ q ∈ kyL_X7_reckon, q ∈ L) (hb : False → b = false) {Q : HS → Prop} {v0 : Nat} {v1 : Nat} {v2 : Nat} {v3 : Int32} {v4 : Int32} {v5 : Int32} {v6 : Int32} {S : HS} (h : P_X7_reckon v0 v1 v2 v3 v4 v5 v6 Q S) : P_X7_reckon v0 v1 v2 v3 v4 v5 v6 (fun T => Q T ∧ K9 b L S T) S := ky_X7_reckon_0 hU hL hb h (k9_rf b L S)
abbrev kyL_X7_trace : List (Nat × Nat) := []
set_option maxRecDepth 20000 in
set_option maxHeartbeats 1000000 in
theorem ky_X7_trace_143 {b : Bool} {L : List (Nat × Nat)} (hU : ∀ q ∈ L, q ∈ nyT) (hL : ∀ q ∈ kyL_X7_trace, q ∈ L) (hb : False → b = false) {Q : Int32 → HS → Prop} {X9 X9_2 : Nat → Nat → Int32 → Int32 → Int32 → HS → Prop} {v0 : Nat} {v1 : Nat} {v4 : Int32} {v5 : Int32} {v6 : Int32} {S0 S : HS} (h : P_X7_trace_143 Q X9 v0 v1 v4 v5 v6 S) (K : K9 b L S0 S) (hX9 : ∀ (u0 : Nat) (u1 : Nat) (u2 : Int32) (u3 : Int32) (u4 : Int32) (u5 : HS), X9 u0 u1 u2 u3 u4 u5 → K9 b L S0 u5 → X9_2 u0 u1 u2 u3 u4 u5) : P_X7_trace_143 (fun r T => Q r T ∧ K9 b L S0 T) X9_2 v0 v1 v4 v5 v6 S := by
  delta P_X7_trace_143 at h ⊢
  intro x2 e1
  have h := h x2 e1
  exact hX9 _ _ _ _ _ _ h K
set_option maxRecDepth 20000 in
set_option maxHeartbeats 1000000 in
theorem ky_X7_trace_56 {b : Bool} {L : List (Nat × Nat)} (hU : ∀ q ∈ L, q ∈ nyT) (hL : ∀ q ∈ kyL_X7_trace, q ∈ L) (hb : False → b = false) {Q : Int32 → HS → Prop} {X9 X9_2 : Nat → Nat → Int32 → Int32 → Int32 → HS → Prop} {v0 : Nat} {v1 : Nat} {v4 : Int32} {v5 : Int32} {v6 : Int32} {s0 : Int32} {S0 S : HS} (h : P_X7_trace_56 Q X9 v0 v1 v4 v5 v6 s0 S) (K : K9 b L S0 S) (hX9 : ∀ (u0 : Nat) (u1 : Nat) (u2 : Int32) (u3 : Int32) (u4 : Int32) (u5 : HS), X9 u0 u1 u2 u3 u4 u5 → K9 b L S0 u5 → X9_2 u0 u1 u2 u3 u4 u5) : P_X7_trace_56 (fun r T => Q r T ∧ K9 b L S0 T) X9_2 v0 v1 v4 v5 v6 s0 S := by
  delta P_X7_trace_56 at h ⊢
  refine ⟨?_, ?_⟩
  · intro c1
    have h := h.1 c1
    obtain ⟨c2, h⟩ := h
    refine ⟨c2, ?_⟩
    have o3 := c2
    obtain ⟨b4, e5, h⟩ := h
    refine ⟨b4, e5, ?_⟩
    obtain ⟨c6, h⟩ := h
    refine ⟨c6, ?_⟩
    obtain ⟨c7, h⟩ := h
    refine ⟨c7, ?_⟩
    intro x9 e8
    have h := h x9 e8
    have K := k9_I K e8
    have o3 := ob_wI o3 e8
    refine ⟨?_, ?_⟩
    · intro c10
      have h := h.1 c10
      intro x12 e11
      have h := h x12 e11
      obtain ⟨c13, h⟩ := h
      refine ⟨c13, ?_⟩
      refine cm_X8_hasRoad (ky_X8_hasRoad (b := b) hU (fun q hq => hL q ((by decide : ∀ q ∈ kyL_X8_hasRoad, q ∈ kyL_X7_trace) q hq)) (fun z => z.elim) h) h (fun x14 x15 p18 h g16 g17 => ?_)
      have h := h g16 g17
      have K := k9_tr K p18.2
      have o3 := gr_ob p18.2.1 o3
      refine ⟨?_, ?_⟩
      · intro c19
        have h := h.1 c19
        exact ky_X7_trace_143 hU hL hb h K hX9
      · intro c20
        have h := h.2 c20
        obtain ⟨b21, e22, h⟩ := h
        refine ⟨b21, e22, ?_⟩
        intro x24 e23
        have h := h x24 e23
        obtain ⟨c25, h⟩ := h
        refine ⟨c25, ?_⟩
        obtain ⟨c26, h⟩ := h
        refine ⟨c26, ?_⟩
        obtain ⟨b27, e28, h⟩ := h
        refine ⟨b27, e28, ?_⟩
        intro x30 e29
        have h := h x30 e29
        intro x32 e31
        have h := h x32 e31
        obtain ⟨c33, h⟩ := h
        refine ⟨c33, ?_⟩
        refine cm_X5_endOf (ky_X5_endOf (b := b) hU (fun q hq => hL q ((by decide : ∀ q ∈ kyL_X5_endOf, q ∈ kyL_X7_trace) q hq)) (fun z => z.elim) h) h (fun x34 x35 p37 h g36 => ?_)
        have h := h g36
        have K := k9_tr K p37.2
        have o3 := gr_ob p37.2.1 o3
        intro x39 e38
        have h := h x39 e38
        refine cm_X5_minutesAt (ky_X5_minutesAt (b := b) hU (fun q hq => hL q ((by decide : ∀ q ∈ kyL_X5_minutesAt, q ∈ kyL_X7_trace) q hq)) (fun z => z.elim) h) h (fun x40 x41 p43 h g42 => ?_)
        have h := h g42
        have K := k9_tr K p43.2
        have o3 := gr_ob p43.2.1 o3
        intro x45 e44
        have h := h x45 e44
        exact ky_X7_trace_143 hU hL hb h K hX9
    · intro c46
      have h := h.2 c46
      intro x48 e47
      have h := h x48 e47
      exact ky_X7_trace_143 hU hL hb h K hX9
  · intro c49
    have h := h.2 c49
    exact ⟨h, K⟩
set_option maxRecDepth 20000 in
set_option maxHeartbeats 1000000 in
theorem ky_X7_trace_55 {b : Bool} {L : List (Nat × Nat)} (hU : ∀ q ∈ L, q ∈ nyT) (hL : ∀ q ∈ kyL_X7_trace, q ∈ L) (hb : False → b = false) {Q : Int32 → HS → Prop} {X9 X9_2 : Nat → Nat → Int32 → Int32 → Int32 → HS → Prop} {v0 : Nat} {v1 : Nat} {v4 : Int32} {v5 : Int32} {v6 : Int32} {S0 S : HS} (h : P_X7_trace_55 Q X9 v0 v1 v4 v5 v6 S) (K : K9 b L S0 S) (hX9 : ∀ (u0 : Nat) (u1 : Nat) (u2 : Int32) (u3 : Int32) (u4 : Int32) (u5 : HS), X9 u0 u1 u2 u3 u4 u5 → K9 b L S0 u5 → X9_2 u0 u1 u2 u3 u4 u5) : P_X7_trace_55 (fun r T => Q r T ∧ K9 b L S0 T) X9_2 v0 v1 v4 v5 v6 S := by
  delta P_X7_trace_55 at h ⊢
  exact ky_X7_trace_56 hU hL hb h K hX9
set_option maxRecDepth 20000 in
set_option maxHeartbeats 1000000 in
theorem kyB_X7_trace_9 {b : Bool} {L : List (Nat × Nat)} (hU : ∀ q ∈ L, q ∈ nyT) (hL : ∀ q ∈ kyL_X7_trace, q ∈ L) (hb : False → b = false) {Q : Int32 → HS → Prop} {X9 X9_2 : Nat → Nat → Int32 → Int32 → Int32 → HS → Prop} {v0 : Nat} {v1 : Nat} {v4 : Int32} {v5 : Int32} {v6 : Int32} {S0 S : HS} (h : B_X7_trace_9 Q X9 v0 v1 v4 v5 v6 S) (K : K9 b L S0 S) (hX9 : ∀ (u0 : Nat) (u1 : Nat) (u2 : Int32) (u3 : Int32) (u4 : Int32) (u5 : HS), X9 u0 u1 u2 u3 u4 u5 → K9 b L S0 u5 → X9_2 u0 u1 u2 u3 u4 u5) : B_X7_trace_9 (fun r T => Q r T ∧ K9 b L S0 T) X9_2 v0 v1 v4 v5 v6 S := by
  delta B_X7_trace_9 at h ⊢
  obtain ⟨c1, h⟩ := h
  refine ⟨c1, ?_⟩
  have o2 := c1
  obtain ⟨b3, e4, h⟩ := h
  refine ⟨b3, e4, ?_⟩
  obtain ⟨c5, h⟩ := h
  refine ⟨c5, ?_⟩
  refine ⟨?_, ?_⟩
  · intro c6
    have h := h.1 c6
    obtain ⟨b7, e8, h⟩ := h
    refine ⟨b7, e8, ?_⟩
    obtain ⟨c9, h⟩ := h
    refine ⟨c9, ?_⟩
    exact ⟨h, K⟩
  · intro c10
    have h := h.2 c10
    intro x12 e11
    have h := h x12 e11
    refine ⟨?_, ?_⟩
    · intro c13
      have h := h.1 c13
      exact ky_X7_trace_55 hU hL hb h K hX9
    · intro c14
      have h := h.2 c14
      obtain ⟨b15, e16, h⟩ := h
      refine ⟨b15, e16, ?_⟩
      obtain ⟨c17, h⟩ := h
      refine ⟨c17, ?_⟩
      refine ⟨?_, ?_⟩
      · intro c18
        have h := h.1 c18
        exact ky_X7_trace_55 hU hL hb h K hX9
      · intro c19
        have h := h.2 c19
        obtain ⟨b20, e21, h⟩ := h
        refine ⟨b20, e21, ?_⟩
        obtain ⟨c22, h⟩ := h
        refine ⟨c22, ?_⟩
        obtain ⟨c23, h⟩ := h
        refine ⟨c23, ?_⟩
        intro x25 e24
        have h := h x25 e24
        exact ky_X7_trace_56 hU hL hb h K hX9
theorem ky_X7_trace_9 {b : Bool} {L : List (Nat × Nat)} (hU : ∀ q ∈ L, q ∈ nyT) (hL : ∀ q ∈ kyL_X7_trace, q ∈ L) (hb : False → b = false) {Q : Int32 → HS → Prop} {v0 : Nat} {v1 : Nat} {v4 : Int32} {v5 : Int32} {v6 : Int32} {S0 S : HS} (h : P_X7_trace_9 Q v0 v1 v4 v5 v6 S) (K : K9 b L S0 S) : P_X7_trace_9 (fun r T => Q r T ∧ K9 b L S0 T) v0 v1 v4 v5 v6 S := h (fun v0 v1 v4 v5 v6 S => K9 b L S0 S → P_X7_trace_9 (fun r T => Q r T ∧ K9 b L S0 T) v0 v1 v4 v5 v6 S) (fun v0 v1 v4 v5 v6 S hB K => fd_X7_trace_9 (kyB_X7_trace_9 hU hL hb hB K (fun _ _ _ _ _ _ hx K => hx K))) K
set_option maxRecDepth 20000 in
set_option maxHeartbeats 1000000 in
theorem ky_X7_trace_0 {b : Bool} {L : List (Nat × Nat)} (hU : ∀ q ∈ L, q ∈ nyT) (hL : ∀ q ∈ kyL_X7_trace, q ∈ L) (hb : False → b = false) {Q : Int32 → HS → Prop} {v0 : Nat} {v1 : Nat} {v2 : Int32} {v3 : Int32} {S0 S : HS} (h : P_X7_trace_0 Q v0 v1 v2 v3 S) (K : K9 b L S0 S) : P_X7_trace_0 (fun r T => Q r T ∧ K9 b L S0 T) v0 v1 v2 v3 S := by
  delta P_X7_trace_0 at h ⊢
  exact ky_X7_trace_9 hU hL hb h K
theorem ky_X7_trace {b : Bool} {L : List (Nat × Nat)} (hU : ∀ q ∈ L, q ∈ nyT) (hL : ∀ q ∈ kyL_X7_trace, q ∈ L) (hb : False → b = false) {Q : Int32 → HS → Prop} {v0 : Nat} {v1 : Nat} {v2 : Int32} {v3 : Int32} {S : HS} (h : P_X7_trace v0 v1 v2 v3 Q S) : P_X7_trace v0 v1 v2 v3 (fun r T => Q r T ∧ K9 b L S T) S := ky_X7_trace_0 hU hL hb h (k9_rf b L S)
end
