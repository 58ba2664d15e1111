section
abbrev kyL_X9_grant : List (Nat × Nat) := []
set_option maxRecDepth 20000 in
set_option maxHeartbeats 1000000 in
theorem ky_X9_grant_0 {b : Bool} {L : List (Nat × Nat)} (hU : ∀ q ∈ L, q ∈ nyT) (hL : ∀ q ∈ kyL_X9_grant, q ∈ L) (hb : False → b = false) {Q : Int32 → HS → Prop} {v0 : Nat} {v1 : Int32} {S0 S : HS} (h : P_X9_grant_0 Q v0 v1 S) (K : K9 b L S0 S) : P_X9_grant_0 (fun r T => Q r T ∧ K9 b L S0 T) v0 v1 S := by
  delta P_X9_grant_0 at h ⊢
  obtain ⟨c1, h⟩ := h
  refine ⟨c1, ?_⟩
  intro x3 e2
  have h := h x3 e2
  have K := k9_I K e2
  exact ⟨h, K⟩
theorem ky_X9_grant {b : Bool} {L : List (Nat × Nat)} (hU : ∀ q ∈ L, q ∈ nyT) (hL : ∀ q ∈ kyL_X9_grant, q ∈ L) (hb : False → b = false) {Q : Int32 → HS → Prop} {v0 : Nat} {v1 : Int32} {S : HS} (h : P_X9_grant v0 v1 Q S) : P_X9_grant v0 v1 (fun r T => Q r T ∧ K9 b L S T) S := ky_X9_grant_0 hU hL hb h (k9_rf b L S)
abbrev kyL_X9_isWay : List (Nat × Nat) := []
set_option maxRecDepth 20000 in
set_option maxHeartbeats 1000000 in
theorem ky_X9_isWay_0 {b : Bool} {L : List (Nat × Nat)} (hU : ∀ q ∈ L, q ∈ nyT) (hL : ∀ q ∈ kyL_X9_isWay, q ∈ L) (hb : False → b = false) {Q : Int32 → HS → Prop} {v0 : Int32} {S0 S : HS} (h : P_X9_isWay_0 Q v0 S) (K : K9 b L S0 S) : P_X9_isWay_0 (fun r T => Q r T ∧ K9 b L S0 T) v0 S := by
  delta P_X9_isWay_0 at h ⊢
  refine ⟨?_, ?_⟩
  · intro c1
    have h := h.1 c1
    exact ⟨h, K⟩
  · intro c2
    have h := h.2 c2
    refine ⟨?_, ?_⟩
    · intro c3
      have h := h.1 c3
      exact ⟨h, K⟩
    · intro c4
      have h := h.2 c4
      exact ⟨h, K⟩
theorem ky_X9_isWay {b : Bool} {L : List (Nat × Nat)} (hU : ∀ q ∈ L, q ∈ nyT) (hL : ∀ q ∈ kyL_X9_isWay, q ∈ L) (hb : False → b = false) {Q : Int32 → HS → Prop} {v0 : Int32} {S : HS} (h : P_X9_isWay v0 Q S) : P_X9_isWay v0 (fun r T => Q r T ∧ K9 b L S T) S := ky_X9_isWay_0 hU hL hb h (k9_rf b L S)
abbrev kyL_X9_air : List (Nat × Nat) := []
set_option maxRecDepth 20000 in
set_option maxHeartbeats 1000000 in
theorem ky_X9_air_0 {b : Bool} {L : List (Nat × Nat)} (hU : ∀ q ∈ L, q ∈ nyT) (hL : ∀ q ∈ kyL_X9_air, q ∈ L) (hb : False → b = false) {Q : Int32 → HS → Prop} {v0 : Nat} {v1 : Int32} {v2 : Int32} {v3 : Int32} {S0 S : HS} (h : P_X9_air_0 Q v0 v1 v2 v3 S) (K : K9 b L S0 S) : P_X9_air_0 (fun r T => Q r T ∧ K9 b L S0 T) v0 v1 v2 v3 S := by
  delta P_X9_air_0 at h ⊢
  obtain ⟨c1, h⟩ := h
  refine ⟨c1, ?_⟩
  obtain ⟨b2, e3, h⟩ := h
  refine ⟨b2, e3, ?_⟩
  obtain ⟨c4, h⟩ := h
  refine ⟨c4, ?_⟩
  refine cm_X8_hasRoad (ky_X8_hasRoad (b := b) hU (fun q hq => hL q ((by decide : ∀ q ∈ kyL_X8_hasRoad, q ∈ kyL_X9_air) q hq)) (fun z => z.elim) h) h (fun x5 x6 p9 h g7 g8 => ?_)
  have h := h g7 g8
  have K := k9_tr K p9.2
  refine ⟨?_, ?_⟩
  · intro c10
    have h := h.1 c10
    intro x12 e11
    have h := h x12 e11
    have K := k9_I K e11
    exact ⟨h, K⟩
  · intro c13
    have h := h.2 c13
    refine cm_X9_isWay (ky_X9_isWay (b := b) hU (fun q hq => hL q ((by decide : ∀ q ∈ kyL_X9_isWay, q ∈ kyL_X9_air) q hq)) (fun z => z.elim) h) h (fun x14 x15 p18 h g16 g17 => ?_)
    have h := h g16 g17
    have K := k9_tr K p18.2
    refine ⟨?_, ?_⟩
    · intro c19
      have h := h.1 c19
      intro x21 e20
      have h := h x21 e20
      have K := k9_I K e20
      exact ⟨h, K⟩
    · intro c22
      have h := h.2 c22
      obtain ⟨b23, e24, h⟩ := h
      refine ⟨b23, e24, ?_⟩
      obtain ⟨c25, h⟩ := h
      refine ⟨c25, ?_⟩
      refine cm_X8_hasHour (ky_X8_hasHour (b := b) hU (fun q hq => hL q ((by decide : ∀ q ∈ kyL_X8_hasHour, q ∈ kyL_X9_air) q hq)) (fun z => z.elim) h) h (fun x26 x27 p30 h g28 g29 => ?_)
      have h := h g28 g29
      have K := k9_tr K p30.2
      refine ⟨?_, ?_⟩
      · intro c31
        have h := h.1 c31
        obtain ⟨b32, e33, h⟩ := h
        refine ⟨b32, e33, ?_⟩
        obtain ⟨c34, h⟩ := h
        refine ⟨c34, ?_⟩
        obtain ⟨b35, e36, h⟩ := h
        refine ⟨b35, e36, ?_⟩
        obtain ⟨c37, h⟩ := h
        refine ⟨c37, ?_⟩
        obtain ⟨c38, h⟩ := h
        refine ⟨c38, ?_⟩
        obtain ⟨b39, e40, h⟩ := h
        refine ⟨b39, e40, ?_⟩
        obtain ⟨b41, e42, h⟩ := h
        refine ⟨b41, e42, ?_⟩
        obtain ⟨c43, h⟩ := h
        refine ⟨c43, ?_⟩
        obtain ⟨b44, e45, h⟩ := h
        refine ⟨b44, e45, ?_⟩
        obtain ⟨c46, h⟩ := h
        refine ⟨c46, ?_⟩
        obtain ⟨c47, h⟩ := h
        refine ⟨c47, ?_⟩
        obtain ⟨b48, e49, h⟩ := h
        refine ⟨b48, e49, ?_⟩
        obtain ⟨c50, h⟩ := h
        refine ⟨c50, ?_⟩
        refine cm_X5_airAlong (ky_X5_airAlong (b := b) hU (fun q hq => hL q ((by decide : ∀ q ∈ kyL_X5_airAlong, q ∈ kyL_X9_air) q hq)) (fun z => z.elim) h) h (fun x51 x52 p54 h g53 => ?_)
        have h := h g53
        have K := k9_tr K p54.2
        refine cm_X9_grant (ky_X9_grant (b := b) hU (fun q hq => hL q ((by decide : ∀ q ∈ kyL_X9_grant, q ∈ kyL_X9_air) q hq)) (fun z => z.elim) h) h (fun x55 x56 p58 h g57 => ?_)
        have h := h g57
        have K := k9_tr K p58.2
        exact ⟨h, K⟩
      · intro c59
        have h := h.2 c59
        intro x61 e60
        have h := h x61 e60
        have K := k9_I K e60
        exact ⟨h, K⟩
theorem ky_X9_air {b : Bool} {L : List (Nat × Nat)} (hU : ∀ q ∈ L, q ∈ nyT) (hL : ∀ q ∈ kyL_X9_air, q ∈ L) (hb : False → b = false) {Q : Int32 → HS → Prop} {v0 : Nat} {v1 : Int32} {v2 : Int32} {v3 : Int32} {S : HS} (h : P_X9_air v0 v1 v2 v3 Q S) : P_X9_air v0 v1 v2 v3 (fun r T => Q r T ∧ K9 b L S T) S := ky_X9_air_0 hU hL hb h (k9_rf b L S)
abbrev kyL_X9_refusedBy : List (Nat × Nat) := []
set_option maxRecDepth 20000 in
set_option maxHeartbeats 1000000 in
theorem ky_X9_refusedBy_0 {b : Bool} {L : List (Nat × Nat)} (hU : ∀ q ∈ L, q ∈ nyT) (hL : ∀ q ∈ kyL_X9_refusedBy, q ∈ L) (hb : False → b = false) {Q : Int32 → HS → Prop} {v0 : Nat} {v1 : Int32} {S0 S : HS} (h : P_X9_refusedBy_0 Q v0 v1 S) (K : K9 b L S0 S) : P_X9_refusedBy_0 (fun r T => Q r T ∧ K9 b L S0 T) v0 v1 S := by
  delta P_X9_refusedBy_0 at h ⊢
  obtain ⟨c1, h⟩ := h
  refine ⟨c1, ?_⟩
  intro x3 e2
  have h := h x3 e2
  have K := k9_I K e2
  refine ⟨?_, ?_⟩
  · intro c4
    have h := h.1 c4
    exact ⟨h, K⟩
  · intro c5
    have h := h.2 c5
    exact ⟨h, K⟩
theorem ky_X9_refusedBy {b : Bool} {L : List (Nat × Nat)} (hU : ∀ q ∈ L, q ∈ nyT) (hL : ∀ q ∈ kyL_X9_refusedBy, q ∈ L) (hb : False → b = false) {Q : Int32 → HS → Prop} {v0 : Nat} {v1 : Int32} {S : HS} (h : P_X9_refusedBy v0 v1 Q S) : P_X9_refusedBy v0 v1 (fun r T => Q r T ∧ K9 b L S T) S := ky_X9_refusedBy_0 hU hL hb h (k9_rf b L S)
abbrev kyL_X9_back : List (Nat × Nat) := [(2, 2)]
set_option maxRecDepth 20000 in
set_option maxHeartbeats 1000000 in
theorem ky_X9_back_17 {b : Bool} {L : List (Nat × Nat)} (hU : ∀ q ∈ L, q ∈ nyT) (hL : ∀ q ∈ kyL_X9_back, q ∈ L) (hb : False → b = false) {Q : Int32 → HS → Prop} {s0 : Nat} {s1 : Int32} {S0 S : HS} (h : P_X9_back_17 Q s0 s1 S) (K : K9 b L S0 S) : P_X9_back_17 (fun r T => Q r T ∧ K9 b L S0 T) s0 s1 S := by
  delta P_X9_back_17 at h ⊢
  obtain ⟨c1, h⟩ := h
  refine ⟨c1, ?_⟩
  refine cm_X9_refusedBy (ky_X9_refusedBy (b := b) hU (fun q hq => hL q ((by decide : ∀ q ∈ kyL_X9_refusedBy, q ∈ kyL_X9_back) q hq)) (fun z => z.elim) h) h (fun x2 x3 p6 h g4 g5 => ?_)
  have h := h g4 g5
  have K := k9_tr K p6.2
  refine ⟨?_, ?_⟩
  · intro c7
    have h := h.1 c7
    exact ⟨h, K⟩
  · intro c8
    have h := h.2 c8
    exact ⟨h, K⟩
set_option maxRecDepth 20000 in
set_option maxHeartbeats 1000000 in
theorem ky_X9_back_0 {b : Bool} {L : List (Nat × Nat)} (hU : ∀ q ∈ L, q ∈ nyT) (hL : ∀ q ∈ kyL_X9_back, q ∈ L) (hb : False → b = false) {Q : Int32 → HS → Prop} {v0 : Nat} {v1 : Int32} {S0 S : HS} (h : P_X9_back_0 Q v0 v1 S) (K : K9 b L S0 S) : P_X9_back_0 (fun r T => Q r T ∧ K9 b L S0 T) v0 v1 S := by
  delta P_X9_back_0 at h ⊢
  obtain ⟨c1, h⟩ := h
  refine ⟨c1, ?_⟩
  obtain ⟨b2, e3, h⟩ := h
  refine ⟨b2, e3, ?_⟩
  obtain ⟨c4, h⟩ := h
  refine ⟨c4, ?_⟩
  refine cm_X0_returnTo (ky_X0_returnTo (b := b) hU (fun q hq => hL q ((by decide : ∀ q ∈ kyL_X0_returnTo, q ∈ kyL_X9_back) q hq)) (fun z => z.elim) h) h (fun x5 x6 p9 h g7 g8 => ?_)
  have h := h g7 g8
  have K := k9_tr K p9.2
  refine ⟨?_, ?_⟩
  · intro c10
    have h := h.1 c10
    exact ky_X9_back_17 hU hL hb h K
  · intro c11
    have h := h.2 c11
    exact ky_X9_back_17 hU hL hb h K
theorem ky_X9_back {b : Bool} {L : List (Nat × Nat)} (hU : ∀ q ∈ L, q ∈ nyT) (hL : ∀ q ∈ kyL_X9_back, q ∈ L) (hb : False → b = false) {Q : Int32 → HS → Prop} {v0 : Nat} {v1 : Int32} {S : HS} (h : P_X9_back v0 v1 Q S) : P_X9_back v0 v1 (fun r T => Q r T ∧ K9 b L S T) S := ky_X9_back_0 hU hL hb h (k9_rf b L S)
abbrev kyL_X9_tripTrouble : List (Nat × Nat) := []
set_option maxRecDepth 20000 in
set_option maxHeartbeats 1000000 in
theorem ky_X9_tripTrouble_46 {b : Bool} {L : List (Nat × Nat)} (hU : ∀ q ∈ L, q ∈ nyT) (hL : ∀ q ∈ kyL_X9_tripTrouble, q ∈ L) (hb : False → b = false) {Q : Int32 → HS → Prop} {s0 : Int32} {S0 S : HS} (h : P_X9_tripTrouble_46 Q s0 S) (K : K9 b L S0 S) : P_X9_tripTrouble_46 (fun r T => Q r T ∧ K9 b L S0 T) s0 S := by
  delta P_X9_tripTrouble_46 at h ⊢
  refine ⟨?_, ?_⟩
  · intro c1
    have h := h.1 c1
    exact ⟨h, K⟩
  · intro c2
    have h := h.2 c2
    exact ⟨h, K⟩
set_option maxRecDepth 20000 in
set_option maxHeartbeats 1000000 in
theorem ky_X9_tripTrouble_45 {b : Bool} {L : List (Nat × Nat)} (hU : ∀ q ∈ L, q ∈ nyT) (hL : ∀ q ∈ kyL_X9_tripTrouble, q ∈ L) (hb : False → b = false) {Q : Int32 → HS → Prop} {S0 S : HS} (h : P_X9_tripTrouble_45 Q S) (K : K9 b L S0 S) : P_X9_tripTrouble_45 (fun r T => Q r T ∧ K9 b L S0 T) S := by
  delta P_X9_tripTrouble_45 at h ⊢
  exact ky_X9_tripTrouble_46 hU hL hb h K
set_option maxRecDepth 20000 in
set_option maxHeartbeats 1000000 in
theorem ky_X9_tripTrouble_0 {b : Bool} {L : List (Nat × Nat)} (hU : ∀ q ∈ L, q ∈ nyT) (hL : ∀ q ∈ kyL_X9_tripTrouble, q ∈ L) (hb : False → b = false) {Q : Int32 → HS → Prop} {v0 : Nat} {v1 : Int32} {v2 : Int32} {v3 : Int32} {v4 : Int32} {S0 S : HS} (h : P_X9_tripTrouble_0 Q v0 v1 v2 v3 v4 S) (K : K9 b L S0 S) : P_X9_tripTrouble_0 (fun r T => Q r T ∧ K9 b L S0 T) v0 v1 v2 v3 v4 S := by
  delta P_X9_tripTrouble_0 at h ⊢
  obtain ⟨c1, h⟩ := h
  refine ⟨c1, ?_⟩
  obtain ⟨b2, e3, h⟩ := h
  refine ⟨b2, e3, ?_⟩
  obtain ⟨c4, h⟩ := h
  refine ⟨c4, ?_⟩
  refine cm_X8_hasWalker (ky_X8_hasWalker (b := b) hU (fun q hq => hL q ((by decide : ∀ q ∈ kyL_X8_hasWalker, q ∈ kyL_X9_tripTrouble) q hq)) (fun z => z.elim) h) h (fun x5 x6 p9 h g7 g8 => ?_)
  have h := h g7 g8
  have K := k9_tr K p9.2
  refine ⟨?_, ?_⟩
  · intro c10
    have h := h.1 c10
    exact ky_X9_tripTrouble_45 hU hL hb h K
  · intro c11
    have h := h.2 c11
    obtain ⟨b12, e13, h⟩ := h
    refine ⟨b12, e13, ?_⟩
    obtain ⟨c14, h⟩ := h
    refine ⟨c14, ?_⟩
    refine cm_X8_hasRoad (ky_X8_hasRoad (b := b) hU (fun q hq => hL q ((by decide : ∀ q ∈ kyL_X8_hasRoad, q ∈ kyL_X9_tripTrouble) q hq)) (fun z => z.elim) h) h (fun x15 x16 p19 h g17 g18 => ?_)
    have h := h g17 g18
    have K := k9_tr K p19.2
    refine ⟨?_, ?_⟩
    · intro c20
      have h := h.1 c20
      exact ky_X9_tripTrouble_45 hU hL hb h K
    · intro c21
      have h := h.2 c21
      refine cm_X9_isWay (ky_X9_isWay (b := b) hU (fun q hq => hL q ((by decide : ∀ q ∈ kyL_X9_isWay, q ∈ kyL_X9_tripTrouble) q hq)) (fun z => z.elim) h) h (fun x22 x23 p26 h g24 g25 => ?_)
      have h := h g24 g25
      have K := k9_tr K p26.2
      refine ⟨?_, ?_⟩
      · intro c27
        have h := h.1 c27
        exact ky_X9_tripTrouble_45 hU hL hb h K
      · intro c28
        have h := h.2 c28
        obtain ⟨b29, e30, h⟩ := h
        refine ⟨b29, e30, ?_⟩
        obtain ⟨c31, h⟩ := h
        refine ⟨c31, ?_⟩
        refine cm_X8_hasHour (ky_X8_hasHour (b := b) hU (fun q hq => hL q ((by decide : ∀ q ∈ kyL_X8_hasHour, q ∈ kyL_X9_tripTrouble) q hq)) (fun z => z.elim) h) h (fun x32 x33 p36 h g34 g35 => ?_)
        have h := h g34 g35
        have K := k9_tr K p36.2
        refine ⟨?_, ?_⟩
        · intro c37
          have h := h.1 c37
          exact ky_X9_tripTrouble_45 hU hL hb h K
        · intro c38
          have h := h.2 c38
          exact ky_X9_tripTrouble_46 hU hL hb h K
theorem ky_X9_tripTrouble {b : Bool} {L : List (Nat × Nat)} (hU : ∀ q ∈ L, q ∈ nyT) (hL : ∀ q ∈ kyL_X9_tripTrouble, q ∈ L) (hb : False → b = false) {Q : Int32 → HS → Prop} {v0 : Nat} {v1 : Int32} {v2 : Int32} {v3 : Int32} {v4 : Int32} {S : HS} (h : P_X9_tripTrouble v0 v1 v2 v3 v4 Q S) : P_X9_tripTrouble v0 v1 v2 v3 v4 (fun r T => Q r T ∧ K9 b L S T) S := ky_X9_tripTrouble_0 hU hL hb h (k9_rf b L S)
abbrev kyL_X9_best : List (Nat × Nat) := [(1, 0), (1, 1)]
set_option maxRecDepth 20000 in
set_option maxHeartbeats 1000000 in
theorem ky_X9_best_0 {b : Bool} {L : List (Nat × Nat)} (hU : ∀ q ∈ L, q ∈ nyT) (hL : ∀ q ∈ kyL_X9_best, q ∈ L) (hb : False → b = false) {Q : Int32 → HS → Prop} {v0 : Nat} {v1 : Int32} {v2 : Int32} {v3 : Int32} {v4 : Int32} {S0 S : HS} (h : P_X9_best_0 Q v0 v1 v2 v3 v4 S) (K : K9 b L S0 S) : P_X9_best_0 (fun r T => Q r T ∧ K9 b L S0 T) v0 v1 v2 v3 v4 S := by
  delta P_X9_best_0 at h ⊢
  obtain ⟨c1, h⟩ := h
  refine ⟨c1, ?_⟩
  refine cm_X9_tripTrouble (ky_X9_tripTrouble (b := b) hU (fun q hq => hL q ((by decide : ∀ q ∈ kyL_X9_tripTrouble, q ∈ kyL_X9_best) q hq)) (fun z => z.elim) h) h (fun x2 x3 p5 h g4 => ?_)
  have h := h g4
  have K := k9_tr K p5.2
  refine cm_X9_refusedBy (ky_X9_refusedBy (b := b) hU (fun q hq => hL q ((by decide : ∀ q ∈ kyL_X9_refusedBy, q ∈ kyL_X9_best) q hq)) (fun z => z.elim) h) h (fun x6 x7 p10 h g8 g9 => ?_)
  have h := h g8 g9
  have K := k9_tr K p10.2
  refine ⟨?_, ?_⟩
  · intro c11
    have h := h.1 c11
    obtain ⟨b12, e13, h⟩ := h
    refine ⟨b12, e13, ?_⟩
    obtain ⟨b14, e15, h⟩ := h
    refine ⟨b14, e15, ?_⟩
    obtain ⟨c16, h⟩ := h
    refine ⟨c16, ?_⟩
    obtain ⟨b17, e18, h⟩ := h
    refine ⟨b17, e18, ?_⟩
    obtain ⟨c19, h⟩ := h
    refine ⟨c19, ?_⟩
    obtain ⟨c20, h⟩ := h
    refine ⟨c20, ?_⟩
    obtain ⟨b21, e22, h⟩ := h
    refine ⟨b21, e22, ?_⟩
    obtain ⟨b23, e24, h⟩ := h
    refine ⟨b23, e24, ?_⟩
    obtain ⟨c25, h⟩ := h
    refine ⟨c25, ?_⟩
    obtain ⟨b26, e27, h⟩ := h
    refine ⟨b26, e27, ?_⟩
    obtain ⟨c28, h⟩ := h
    refine ⟨c28, ?_⟩
    obtain ⟨c29, h⟩ := h
    refine ⟨c29, ?_⟩
    obtain ⟨b30, e31, h⟩ := h
    refine ⟨b30, e31, ?_⟩
    obtain ⟨b32, e33, h⟩ := h
    refine ⟨b32, e33, ?_⟩
    obtain ⟨c34, h⟩ := h
    refine ⟨c34, ?_⟩
    obtain ⟨b35, e36, h⟩ := h
    refine ⟨b35, e36, ?_⟩
    obtain ⟨c37, h⟩ := h
    refine ⟨c37, ?_⟩
    obtain ⟨c38, h⟩ := h
    refine ⟨c38, ?_⟩
    obtain ⟨b39, e40, h⟩ := h
    refine ⟨b39, e40, ?_⟩
    obtain ⟨c41, h⟩ := h
    refine ⟨c41, ?_⟩
    refine cm_X1_bestSpeed (ky_X1_bestSpeed (b := b) hU (fun q hq => hL q ((by decide : ∀ q ∈ kyL_X1_bestSpeed, q ∈ kyL_X9_best) q hq)) (fun z => z.elim) h) h (fun x42 x43 p45 h g44 => ?_)
    have h := h g44
    have K := k9_tr K p45.2
    exact ⟨h, K⟩
  · intro c46
    have h := h.2 c46
    exact ⟨h, K⟩
theorem ky_X9_best {b : Bool} {L : List (Nat × Nat)} (hU : ∀ q ∈ L, q ∈ nyT) (hL : ∀ q ∈ kyL_X9_best, q ∈ L) (hb : False → b = false) {Q : Int32 → HS → Prop} {v0 : Nat} {v1 : Int32} {v2 : Int32} {v3 : Int32} {v4 : Int32} {S : HS} (h : P_X9_best v0 v1 v2 v3 v4 Q S) : P_X9_best v0 v1 v2 v3 v4 (fun r T => Q r T ∧ K9 b L S T) S := ky_X9_best_0 hU hL hb h (k9_rf b L S)
abbrev kyL_X9_coatParts : List (Nat × Nat) := []
set_option maxRecDepth 20000 in
set_option maxHeartbeats 1000000 in
theorem ky_X9_coatParts_0 {b : Bool} {L : List (Nat × Nat)} (hU : ∀ q ∈ L, q ∈ nyT) (hL : ∀ q ∈ kyL_X9_coatParts, q ∈ L) (hb : False → b = false) {Q : Int64 → HS → Prop} {v0 : Nat} {S0 S : HS} (h : P_X9_coatParts_0 Q v0 S) (K : K9 b L S0 S) : P_X9_coatParts_0 (fun r T => Q r T ∧ K9 b L S0 T) v0 S := by
  delta P_X9_coatParts_0 at h ⊢
  obtain ⟨c1, h⟩ := h
  refine ⟨c1, ?_⟩
  intro x3 e2
  have h := h x3 e2
  refine ⟨?_, ?_⟩
  · intro c4
    have h := h.1 c4
    exact ⟨h, K⟩
  · intro c5
    have h := h.2 c5
    intro x7 e6
    have h := h x7 e6
    exact ⟨h, K⟩
theorem ky_X9_coatParts {b : Bool} {L : List (Nat × Nat)} (hU : ∀ q ∈ L, q ∈ nyT) (hL : ∀ q ∈ kyL_X9_coatParts, q ∈ L) (hb : False → b = false) {Q : Int64 → HS → Prop} {v0 : Nat} {S : HS} (h : P_X9_coatParts v0 Q S) : P_X9_coatParts v0 (fun r T => Q r T ∧ K9 b L S T) S := ky_X9_coatParts_0 hU hL hb h (k9_rf b L S)
abbrev kyL_X9_commonDivisor : List (Nat × Nat) := []
set_option maxRecDepth 20000 in
set_option maxHeartbeats 1000000 in
theorem kyB_X9_commonDivisor_9 {b : Bool} {L : List (Nat × Nat)} (hU : ∀ q ∈ L, q ∈ nyT) (hL : ∀ q ∈ kyL_X9_commonDivisor, q ∈ L) (hb : False → b = false) {Q : Int64 → HS → Prop} {X9 X9_2 : Int64 → Int64 → Int32 → HS → Prop} {v4 : Int64} {v6 : Int64} {v8 : Int32} {S0 S : HS} (h : B_X9_commonDivisor_9 Q X9 v4 v6 v8 S) (K : K9 b L S0 S) (hX9 : ∀ (u0 : Int64) (u1 : Int64) (u2 : Int32) (u3 : HS), X9 u0 u1 u2 u3 → K9 b L S0 u3 → X9_2 u0 u1 u2 u3) : B_X9_commonDivisor_9 (fun r T => Q r T ∧ K9 b L S0 T) X9_2 v4 v6 v8 S := by
  delta B_X9_commonDivisor_9 at h ⊢
  refine ⟨?_, ?_⟩
  · intro c1
    have h := h.1 c1
    exact ⟨h, K⟩
  · intro c2
    have h := h.2 c2
    refine ⟨?_, ?_⟩
    · intro c3
      have h := h.1 c3
      exact ⟨h, K⟩
    · intro c4
      have h := h.2 c4
      obtain ⟨c5, h⟩ := h
      refine ⟨c5, ?_⟩
      intro x7 e6
      have h := h x7 e6
      intro x9 e8
      have h := h x9 e8
      exact hX9 _ _ _ _ h K
theorem ky_X9_commonDivisor_9 {b : Bool} {L : List (Nat × Nat)} (hU : ∀ q ∈ L, q ∈ nyT) (hL : ∀ q ∈ kyL_X9_commonDivisor, q ∈ L) (hb : False → b = false) {Q : Int64 → HS → Prop} {v4 : Int64} {v6 : Int64} {v8 : Int32} {S0 S : HS} (h : P_X9_commonDivisor_9 Q v4 v6 v8 S) (K : K9 b L S0 S) : P_X9_commonDivisor_9 (fun r T => Q r T ∧ K9 b L S0 T) v4 v6 v8 S := h (fun v4 v6 v8 S => K9 b L S0 S → P_X9_commonDivisor_9 (fun r T => Q r T ∧ K9 b L S0 T) v4 v6 v8 S) (fun v4 v6 v8 S hB K => fd_X9_commonDivisor_9 (kyB_X9_commonDivisor_9 hU hL hb hB K (fun _ _ _ _ hx K => hx K))) K
set_option maxRecDepth 20000 in
set_option maxHeartbeats 1000000 in
theorem ky_X9_commonDivisor_0 {b : Bool} {L : List (Nat × Nat)} (hU : ∀ q ∈ L, q ∈ nyT) (hL : ∀ q ∈ kyL_X9_commonDivisor, q ∈ L) (hb : False → b = false) {Q : Int64 → HS → Prop} {v0 : Int64} {v2 : Int64} {S0 S : HS} (h : P_X9_commonDivisor_0 Q v0 v2 S) (K : K9 b L S0 S) : P_X9_commonDivisor_0 (fun r T => Q r T ∧ K9 b L S0 T) v0 v2 S := by
  delta P_X9_commonDivisor_0 at h ⊢
  exact ky_X9_commonDivisor_9 hU hL hb h K
theorem ky_X9_commonDivisor {b : Bool} {L : List (Nat × Nat)} (hU : ∀ q ∈ L, q ∈ nyT) (hL : ∀ q ∈ kyL_X9_commonDivisor, q ∈ L) (hb : False → b = false) {Q : Int64 → HS → Prop} {v0 : Int64} {v2 : Int64} {S : HS} (h : P_X9_commonDivisor v0 v2 Q S) : P_X9_commonDivisor v0 v2 (fun r T => Q r T ∧ K9 b L S T) S := ky_X9_commonDivisor_0 hU hL hb h (k9_rf b L S)
abbrev kyL_X9_refuse : List (Nat × Nat) := []
set_option maxRecDepth 20000 in
set_option maxHeartbeats 1000000 in
theorem ky_X9_refuse_0 {b : Bool} {L : List (Nat × Nat)} (hU : ∀ q ∈ L, q ∈ nyT) (hL : ∀ q ∈ kyL_X9_refuse, q ∈ L) (hb : False → b = false) {Q : Int32 → HS → Prop} {v0 : Nat} {v1 : Int32} {S0 S : HS} (h : P_X9_refuse_0 Q v0 v1 S) (K : K9 b L S0 S) : P_X9_refuse_0 (fun r T => Q r T ∧ K9 b L S0 T) v0 v1 S := by
  delta P_X9_refuse_0 at h ⊢
  obtain ⟨c1, h⟩ := h
  refine ⟨c1, ?_⟩
  intro x3 e2
  have h := h x3 e2
  have K := k9_I K e2
  exact ⟨h, K⟩
theorem ky_X9_refuse {b : Bool} {L : List (Nat × Nat)} (hU : ∀ q ∈ L, q ∈ nyT) (hL : ∀ q ∈ kyL_X9_refuse, q ∈ L) (hb : False → b = false) {Q : Int32 → HS → Prop} {v0 : Nat} {v1 : Int32} {S : HS} (h : P_X9_refuse v0 v1 Q S) : P_X9_refuse v0 v1 (fun r T => Q r T ∧ K9 b L S T) S := ky_X9_refuse_0 hU hL hb h (k9_rf b L S)
abbrev kyL_X9_day : List (Nat × Nat) := [(2, 2)]
set_option maxRecDepth 20000 in
set_option maxHeartbeats 1000000 in
theorem ky_X9_day_22 {b : Bool} {L : List (Nat × Nat)} (hU : ∀ q ∈ L, q ∈ nyT) (hL : ∀ q ∈ kyL_X9_day, q ∈ L) (hb : False → b = false) {Q : Int32 → HS → Prop} {v0 : Nat} {S0 S : HS} (h : P_X9_day_22 Q v0 S) (K : K9 b L S0 S) : P_X9_day_22 (fun r T => Q r T ∧ K9 b L S0 T) v0 S := by
  delta P_X9_day_22 at h ⊢
  obtain ⟨c1, h⟩ := h
  refine ⟨c1, ?_⟩
  refine cm_X9_refuse (ky_X9_refuse (b := b) hU (fun q hq => hL q ((by decide : ∀ q ∈ kyL_X9_refuse, q ∈ kyL_X9_day) q hq)) (fun z => z.elim) h) h (fun x2 x3 p5 h g4 => ?_)
  have h := h g4
  have K := k9_tr K p5.2
  exact ⟨h, K⟩
set_option maxRecDepth 20000 in
set_option maxHeartbeats 1000000 in
theorem ky_X9_day_52 {b : Bool} {L : List (Nat × Nat)} (hU : ∀ q ∈ L, q ∈ nyT) (hL : ∀ q ∈ kyL_X9_day, q ∈ L) (hb : False → b = false) {Q : Int32 → HS → Prop} {v0 : Nat} {S0 S : HS} (h : P_X9_day_52 Q v0 S) (K : K9 b L S0 S) : P_X9_day_52 (fun r T => Q r T ∧ K9 b L S0 T) v0 S := by
  delta P_X9_day_52 at h ⊢
  obtain ⟨c1, h⟩ := h
  refine ⟨c1, ?_⟩
  refine cm_X9_refuse (ky_X9_refuse (b := b) hU (fun q hq => hL q ((by decide : ∀ q ∈ kyL_X9_refuse, q ∈ kyL_X9_day) q hq)) (fun z => z.elim) h) h (fun x2 x3 p5 h g4 => ?_)
  have h := h g4
  have K := k9_tr K p5.2
  exact ⟨h, K⟩
set_option maxRecDepth 20000 in
set_option maxHeartbeats 1000000 in
theorem ky_X9_day_0 {b : Bool} {L : List (Nat × Nat)} (hU : ∀ q ∈ L, q ∈ nyT) (hL : ∀ q ∈ kyL_X9_day, q ∈ L) (hb : False → b = false) {Q : Int32 → HS → Prop} {v0 : Nat} {v1 : Int32} {v2 : Int32} {v3 : Int32} {v4 : Int32} {S0 S : HS} (h : P_X9_day_0 Q v0 v1 v2 v3 v4 S) (K : K9 b L S0 S) : P_X9_day_0 (fun r T => Q r T ∧ K9 b L S0 T) v0 v1 v2 v3 v4 S := by
  delta P_X9_day_0 at h ⊢
  obtain ⟨c1, h⟩ := h
  refine ⟨c1, ?_⟩
  obtain ⟨b2, e3, h⟩ := h
  refine ⟨b2, e3, ?_⟩
  obtain ⟨c4, h⟩ := h
  refine ⟨c4, ?_⟩
  refine cm_X8_hasWalker (ky_X8_hasWalker (b := b) hU (fun q hq => hL q ((by decide : ∀ q ∈ kyL_X8_hasWalker, q ∈ kyL_X9_day) q hq)) (fun z => z.elim) h) h (fun x5 x6 p9 h g7 g8 => ?_)
  have h := h g7 g8
  have K := k9_tr K p9.2
  refine ⟨?_, ?_⟩
  · intro c10
    have h := h.1 c10
    exact ky_X9_day_22 hU hL hb h K
  · intro c11
    have h := h.2 c11
    obtain ⟨b12, e13, h⟩ := h
    refine ⟨b12, e13, ?_⟩
    obtain ⟨c14, h⟩ := h
    refine ⟨c14, ?_⟩
    refine cm_X8_hasPlace (ky_X8_hasPlace (b := b) hU (fun q hq => hL q ((by decide : ∀ q ∈ kyL_X8_hasPlace, q ∈ kyL_X9_day) q hq)) (fun z => z.elim) h) h (fun x15 x16 p19 h g17 g18 => ?_)
    have h := h g17 g18
    have K := k9_tr K p19.2
    refine ⟨?_, ?_⟩
    · intro c20
      have h := h.1 c20
      refine ⟨?_, ?_⟩
      · intro c21
        have h := h.1 c21
        exact ky_X9_day_52 hU hL hb h K
      · intro c22
        have h := h.2 c22
        refine ⟨?_, ?_⟩
        · intro c23
          have h := h.1 c23
          exact ky_X9_day_52 hU hL hb h K
        · intro c24
          have h := h.2 c24
          refine ⟨?_, ?_⟩
          · intro c25
            have h := h.1 c25
            exact ky_X9_day_52 hU hL hb h K
          · intro c26
            have h := h.2 c26
            refine ⟨?_, ?_⟩
            · intro c27
              have h := h.1 c27
              obtain ⟨b28, e29, h⟩ := h
              refine ⟨b28, e29, ?_⟩
              obtain ⟨c30, h⟩ := h
              refine ⟨c30, ?_⟩
              refine cm_X0_begin (ky_X0_begin (b := b) hU (fun q hq => hL q ((by decide : ∀ q ∈ kyL_X0_begin, q ∈ kyL_X9_day) q hq)) (fun z => z.elim) h) h (fun x31 p33 h g32 => ?_)
              have h := h g32
              have K := k9_tr K p33.2
              obtain ⟨b34, e35, h⟩ := h
              refine ⟨b34, e35, ?_⟩
              obtain ⟨b36, e37, h⟩ := h
              refine ⟨b36, e37, ?_⟩
              obtain ⟨c38, h⟩ := h
              refine ⟨c38, ?_⟩
              refine cm_X0_draw (ky_X0_draw (b := b) hU (fun q hq => hL q ((by decide : ∀ q ∈ kyL_X0_draw, q ∈ kyL_X9_day) q hq)) (fun z => z.elim) h) h (fun x39 p41 h g40 => ?_)
              have h := h g40
              have K := k9_tr K p41.2
              obtain ⟨b42, e43, h⟩ := h
              refine ⟨b42, e43, ?_⟩
              obtain ⟨c44, h⟩ := h
              refine ⟨c44, ?_⟩
              intro x46 e45
              have h := h x46 e45
              refine cm_X9_grant (ky_X9_grant (b := b) hU (fun q hq => hL q ((by decide : ∀ q ∈ kyL_X9_grant, q ∈ kyL_X9_day) q hq)) (fun z => z.elim) h) h (fun x47 x48 p50 h g49 => ?_)
              have h := h g49
              have K := k9_tr K p50.2
              exact ⟨h, K⟩
            · intro c51
              have h := h.2 c51
              exact ky_X9_day_52 hU hL hb h K
    · intro c52
      have h := h.2 c52
      exact ky_X9_day_22 hU hL hb h K
theorem ky_X9_day {b : Bool} {L : List (Nat × Nat)} (hU : ∀ q ∈ L, q ∈ nyT) (hL : ∀ q ∈ kyL_X9_day, q ∈ L) (hb : False → b = false) {Q : Int32 → HS → Prop} {v0 : Nat} {v1 : Int32} {v2 : Int32} {v3 : Int32} {v4 : Int32} {S : HS} (h : P_X9_day v0 v1 v2 v3 v4 Q S) : P_X9_day v0 v1 v2 v3 v4 (fun r T => Q r T ∧ K9 b L S T) S := ky_X9_day_0 hU hL hb h (k9_rf b L S)
abbrev kyL_X9_driest : List (Nat × Nat) := [(1, 0), (1, 1)]
set_option maxRecDepth 20000 in
set_option maxHeartbeats 1000000 in
theorem ky_X9_driest_29 {b : Bool} {L : List (Nat × Nat)} (hU : ∀ q ∈ L, q ∈ nyT) (hL : ∀ q ∈ kyL_X9_driest, q ∈ L) (hb : False → b = false) {Q : Int32 → HS → Prop} {v0 : Nat} {S0 S : HS} (h : P_X9_driest_29 Q v0 S) (K : K9 b L S0 S) : P_X9_driest_29 (fun r T => Q r T ∧ K9 b L S0 T) v0 S := by
  delta P_X9_driest_29 at h ⊢
  obtain ⟨c1, h⟩ := h
  refine ⟨c1, ?_⟩
  refine cm_X9_refuse (ky_X9_refuse (b := b) hU (fun q hq => hL q ((by decide : ∀ q ∈ kyL_X9_refuse, q ∈ kyL_X9_driest) q hq)) (fun z => z.elim) h) h (fun x2 x3 p5 h g4 => ?_)
  have h := h g4
  have K := k9_tr K p5.2
  exact ⟨h, K⟩
set_option maxRecDepth 20000 in
set_option maxHeartbeats 1000000 in
theorem ky_X9_driest_140 {b : Bool} {L : List (Nat × Nat)} (hU : ∀ q ∈ L, q ∈ nyT) (hL : ∀ q ∈ kyL_X9_driest, q ∈ L) (hb : False → b = false) {Q : Int32 → HS → Prop} {X63 X63_2 : Nat → Int32 → Int32 → Int32 → Int32 → Int64 → Int32 → HS → Prop} {v0 : Nat} {v1 : Int32} {v2 : Int32} {v3 : Int32} {v4 : Int32} {v5 : Int64} {v7 : Int32} {S0 S : HS} (h : P_X9_driest_140 Q X63 v0 v1 v2 v3 v4 v5 v7 S) (K : K9 b L S0 S) (hX63 : ∀ (u0 : Nat) (u1 : Int32) (u2 : Int32) (u3 : Int32) (u4 : Int32) (u5 : Int64) (u6 : Int32) (u7 : HS), X63 u0 u1 u2 u3 u4 u5 u6 u7 → K9 b L S0 u7 → X63_2 u0 u1 u2 u3 u4 u5 u6 u7) : P_X9_driest_140 (fun r T => Q r T ∧ K9 b L S0 T) X63_2 v0 v1 v2 v3 v4 v5 v7 S := by
  delta P_X9_driest_140 at h ⊢
  intro x2 e1
  have h := h x2 e1
  exact hX63 _ _ _ _ _ _ _ _ h K
set_option maxRecDepth 20000 in
set_option maxHeartbeats 1000000 in
theorem kyB_X9_driest_63 {b : Bool} {L : List (Nat × Nat)} (hU : ∀ q ∈ L, q ∈ nyT) (hL : ∀ q ∈ kyL_X9_driest, q ∈ L) (hb : False → b = false) {Q : Int32 → HS → Prop} {X63 X63_2 : Nat → Int32 → Int32 → Int32 → Int32 → Int64 → Int32 → HS → Prop} {v0 : Nat} {v1 : Int32} {v2 : Int32} {v3 : Int32} {v4 : Int32} {v5 : Int64} {v7 : Int32} {S0 S : HS} (h : B_X9_driest_63 Q X63 v0 v1 v2 v3 v4 v5 v7 S) (K : K9 b L S0 S) (hX63 : ∀ (u0 : Nat) (u1 : Int32) (u2 : Int32) (u3 : Int32) (u4 : Int32) (u5 : Int64) (u6 : Int32) (u7 : HS), X63 u0 u1 u2 u3 u4 u5 u6 u7 → K9 b L S0 u7 → X63_2 u0 u1 u2 u3 u4 u5 u6 u7) : B_X9_driest_63 (fun r T => Q r T ∧ K9 b L S0 T) X63_2 v0 v1 v2 v3 v4 v5 v7 S := by
  delta B_X9_driest_63 at h ⊢
  obtain ⟨c1, h⟩ := h
  refine ⟨c1, ?_⟩
  obtain ⟨b2, e3, h⟩ := h
  refine ⟨b2, e3, ?_⟩
  obtain ⟨c4, h⟩ := h
  refine ⟨c4, ?_⟩
  intro x6 e5
  have h := h x6 e5
  refine ⟨?_, ?_⟩
  · intro c7
    have h := h.1 c7
    refine cm_X9_grant (ky_X9_grant (b := b) hU (fun q hq => hL q ((by decide : ∀ q ∈ kyL_X9_grant, q ∈ kyL_X9_driest) q hq)) (fun z => z.elim) h) h (fun x8 x9 p11 h g10 => ?_)
    have h := h g10
    have K := k9_tr K p11.2
    exact ⟨h, K⟩
  · intro c12
    have h := h.2 c12
    obtain ⟨b13, e14, h⟩ := h
    refine ⟨b13, e14, ?_⟩
    obtain ⟨c15, h⟩ := h
    refine ⟨c15, ?_⟩
    obtain ⟨b16, e17, h⟩ := h
    refine ⟨b16, e17, ?_⟩
    obtain ⟨c18, h⟩ := h
    refine ⟨c18, ?_⟩
    obtain ⟨c19, h⟩ := h
    refine ⟨c19, ?_⟩
    obtain ⟨b20, e21, h⟩ := h
    refine ⟨b20, e21, ?_⟩
    obtain ⟨b22, e23, h⟩ := h
    refine ⟨b22, e23, ?_⟩
    obtain ⟨b24, e25, h⟩ := h
    refine ⟨b24, e25, ?_⟩
    obtain ⟨c26, h⟩ := h
    refine ⟨c26, ?_⟩
    obtain ⟨b27, e28, h⟩ := h
    refine ⟨b27, e28, ?_⟩
    obtain ⟨c29, h⟩ := h
    refine ⟨c29, ?_⟩
    obtain ⟨c30, h⟩ := h
    refine ⟨c30, ?_⟩
    obtain ⟨b31, e32, h⟩ := h
    refine ⟨b31, e32, ?_⟩
    obtain ⟨b33, e34, h⟩ := h
    refine ⟨b33, e34, ?_⟩
    obtain ⟨c35, h⟩ := h
    refine ⟨c35, ?_⟩
    obtain ⟨b36, e37, h⟩ := h
    refine ⟨b36, e37, ?_⟩
    obtain ⟨c38, h⟩ := h
    refine ⟨c38, ?_⟩
    obtain ⟨c39, h⟩ := h
    refine ⟨c39, ?_⟩
    obtain ⟨b40, e41, h⟩ := h
    refine ⟨b40, e41, ?_⟩
    obtain ⟨c42, h⟩ := h
    refine ⟨c42, ?_⟩
    refine cm_X1_leastWet (ky_X1_leastWet (b := b) hU (fun q hq => hL q ((by decide : ∀ q ∈ kyL_X1_leastWet, q ∈ kyL_X9_driest) q hq)) (fun z => z.elim) h) h (fun x43 x44 p46 h g45 => ?_)
    have h := h g45
    have K := k9_tr K p46.2
    obtain ⟨c47, h⟩ := h
    refine ⟨c47, ?_⟩
    intro x49 e48
    have h := h x49 e48
    intro x51 e50
    have h := h x51 e50
    refine ⟨?_, ?_⟩
    · intro c52
      have h := h.1 c52
      exact ky_X9_driest_140 hU hL hb h K hX63
    · intro c53
      have h := h.2 c53
      exact ky_X9_driest_140 hU hL hb h K hX63
theorem ky_X9_driest_63 {b : Bool} {L : List (Nat × Nat)} (hU : ∀ q ∈ L, q ∈ nyT) (hL : ∀ q ∈ kyL_X9_driest, q ∈ L) (hb : False → b = false) {Q : Int32 → HS → Prop} {v0 : Nat} {v1 : Int32} {v2 : Int32} {v3 : Int32} {v4 : Int32} {v5 : Int64} {v7 : Int32} {S0 S : HS} (h : P_X9_driest_63 Q v0 v1 v2 v3 v4 v5 v7 S) (K : K9 b L S0 S) : P_X9_driest_63 (fun r T => Q r T ∧ K9 b L S0 T) v0 v1 v2 v3 v4 v5 v7 S := h (fun v0 v1 v2 v3 v4 v5 v7 S => K9 b L S0 S → P_X9_driest_63 (fun r T => Q r T ∧ K9 b L S0 T) v0 v1 v2 v3 v4 v5 v7 S) (fun v0 v1 v2 v3 v4 v5 v7 S hB K => fd_X9_driest_63 (kyB_X9_driest_63 hU hL hb hB K (fun _ _ _ _ _ _ _ _ hx K => hx K))) K
set_option maxRecDepth 20000 in
set_option maxHeartbeats 1000000 in
theorem ky_X9_driest_0 {b : Bool} {L : List (Nat × Nat)} (hU : ∀ q ∈ L, q ∈ nyT) (hL : ∀ q ∈ kyL_X9_driest, q ∈ L) (hb : False → b = false) {Q : Int32 → HS → Prop} {v0 : Nat} {v1 : Int32} {v2 : Int32} {v3 : Int32} {S0 S : HS} (h : P_X9_driest_0 Q v0 v1 v2 v3 S) (K : K9 b L S0 S) : P_X9_driest_0 (fun r T => Q r T ∧ K9 b L S0 T) v0 v1 v2 v3 S := by
  delta P_X9_driest_0 at h ⊢
  obtain ⟨c1, h⟩ := h
  refine ⟨c1, ?_⟩
  obtain ⟨b2, e3, h⟩ := h
  refine ⟨b2, e3, ?_⟩
  obtain ⟨c4, h⟩ := h
  refine ⟨c4, ?_⟩
  refine cm_X8_hasWalker (ky_X8_hasWalker (b := b) hU (fun q hq => hL q ((by decide : ∀ q ∈ kyL_X8_hasWalker, q ∈ kyL_X9_driest) q hq)) (fun z => z.elim) h) h (fun x5 x6 p9 h g7 g8 => ?_)
  have h := h g7 g8
  have K := k9_tr K p9.2
  refine ⟨?_, ?_⟩
  · intro c10
    have h := h.1 c10
    exact ky_X9_driest_29 hU hL hb h K
  · intro c11
    have h := h.2 c11
    obtain ⟨b12, e13, h⟩ := h
    refine ⟨b12, e13, ?_⟩
    obtain ⟨c14, h⟩ := h
    refine ⟨c14, ?_⟩
    refine cm_X8_hasRoad (ky_X8_hasRoad (b := b) hU (fun q hq => hL q ((by decide : ∀ q ∈ kyL_X8_hasRoad, q ∈ kyL_X9_driest) q hq)) (fun z => z.elim) h) h (fun x15 x16 p19 h g17 g18 => ?_)
    have h := h g17 g18
    have K := k9_tr K p19.2
    refine ⟨?_, ?_⟩
    · intro c20
      have h := h.1 c20
      exact ky_X9_driest_29 hU hL hb h K
    · intro c21
      have h := h.2 c21
      refine cm_X9_isWay (ky_X9_isWay (b := b) hU (fun q hq => hL q ((by decide : ∀ q ∈ kyL_X9_isWay, q ∈ kyL_X9_driest) q hq)) (fun z => z.elim) h) h (fun x22 x23 p26 h g24 g25 => ?_)
      have h := h g24 g25
      have K := k9_tr K p26.2
      refine ⟨?_, ?_⟩
      · intro c27
        have h := h.1 c27
        obtain ⟨b28, e29, h⟩ := h
        refine ⟨b28, e29, ?_⟩
        obtain ⟨c30, h⟩ := h
        refine ⟨c30, ?_⟩
        intro x32 e31
        have h := h x32 e31
        refine ⟨?_, ?_⟩
        · intro c33
          have h := h.1 c33
          exact ky_X9_driest_63 hU hL hb h K
        · intro c34
          have h := h.2 c34
          refine cm_X9_refuse (ky_X9_refuse (b := b) hU (fun q hq => hL q ((by decide : ∀ q ∈ kyL_X9_refuse, q ∈ kyL_X9_driest) q hq)) (fun z => z.elim) h) h (fun x35 x36 p38 h g37 => ?_)
          have h := h g37
          have K := k9_tr K p38.2
          exact ⟨h, K⟩
      · intro c39
        have h := h.2 c39
        exact ky_X9_driest_29 hU hL hb h K
theorem ky_X9_driest {b : Bool} {L : List (Nat × Nat)} (hU : ∀ q ∈ L, q ∈ nyT) (hL : ∀ q ∈ kyL_X9_driest, q ∈ L) (hb : False → b = false) {Q : Int32 → HS → Prop} {v0 : Nat} {v1 : Int32} {v2 : Int32} {v3 : Int32} {S : HS} (h : P_X9_driest v0 v1 v2 v3 Q S) : P_X9_driest v0 v1 v2 v3 (fun r T => Q r T ∧ K9 b L S T) S := ky_X9_driest_0 hU hL hb h (k9_rf b L S)
abbrev kyL_X9_even : List (Nat × Nat) := [(1, 0), (1, 1)]
set_option maxRecDepth 20000 in
set_option maxHeartbeats 1000000 in
theorem ky_X9_even_0 {b : Bool} {L : List (Nat × Nat)} (hU : ∀ q ∈ L, q ∈ nyT) (hL : ∀ q ∈ kyL_X9_even, q ∈ L) (hb : False → b = false) {Q : Int32 → HS → Prop} {v0 : Nat} {v1 : Int32} {v2 : Int32} {v3 : Int32} {v4 : Int32} {S0 S : HS} (h : P_X9_even_0 Q v0 v1 v2 v3 v4 S) (K : K9 b L S0 S) : P_X9_even_0 (fun r T => Q r T ∧ K9 b L S0 T) v0 v1 v2 v3 v4 S := by
  delta P_X9_even_0 at h ⊢
  obtain ⟨c1, h⟩ := h
  refine ⟨c1, ?_⟩
  refine cm_X9_tripTrouble (ky_X9_tripTrouble (b := b) hU (fun q hq => hL q ((by decide : ∀ q ∈ kyL_X9_tripTrouble, q ∈ kyL_X9_even) q hq)) (fun z => z.elim) h) h (fun x2 x3 p5 h g4 => ?_)
  have h := h g4
  have K := k9_tr K p5.2
  refine cm_X9_refusedBy (ky_X9_refusedBy (b := b) hU (fun q hq => hL q ((by decide : ∀ q ∈ kyL_X9_refusedBy, q ∈ kyL_X9_even) q hq)) (fun z => z.elim) h) h (fun x6 x7 p10 h g8 g9 => ?_)
  have h := h g8 g9
  have K := k9_tr K p10.2
  refine ⟨?_, ?_⟩
  · intro c11
    have h := h.1 c11
    obtain ⟨b12, e13, h⟩ := h
    refine ⟨b12, e13, ?_⟩
    obtain ⟨c14, h⟩ := h
    refine ⟨c14, ?_⟩
    obtain ⟨b15, e16, h⟩ := h
    refine ⟨b15, e16, ?_⟩
    obtain ⟨c17, h⟩ := h
    refine ⟨c17, ?_⟩
    obtain ⟨c18, h⟩ := h
    refine ⟨c18, ?_⟩
    obtain ⟨b19, e20, h⟩ := h
    refine ⟨b19, e20, ?_⟩
    obtain ⟨b21, e22, h⟩ := h
    refine ⟨b21, e22, ?_⟩
    obtain ⟨b23, e24, h⟩ := h
    refine ⟨b23, e24, ?_⟩
    obtain ⟨c25, h⟩ := h
    refine ⟨c25, ?_⟩
    obtain ⟨b26, e27, h⟩ := h
    refine ⟨b26, e27, ?_⟩
    obtain ⟨c28, h⟩ := h
    refine ⟨c28, ?_⟩
    obtain ⟨c29, h⟩ := h
    refine ⟨c29, ?_⟩
    obtain ⟨b30, e31, h⟩ := h
    refine ⟨b30, e31, ?_⟩
    obtain ⟨b32, e33, h⟩ := h
    refine ⟨b32, e33, ?_⟩
    obtain ⟨c34, h⟩ := h
    refine ⟨c34, ?_⟩
    obtain ⟨b35, e36, h⟩ := h
    refine ⟨b35, e36, ?_⟩
    obtain ⟨c37, h⟩ := h
    refine ⟨c37, ?_⟩
    obtain ⟨c38, h⟩ := h
    refine ⟨c38, ?_⟩
    obtain ⟨b39, e40, h⟩ := h
    refine ⟨b39, e40, ?_⟩
    obtain ⟨c41, h⟩ := h
    refine ⟨c41, ?_⟩
    refine cm_X1_worstSpeed (ky_X1_worstSpeed (b := b) hU (fun q hq => hL q ((by decide : ∀ q ∈ kyL_X1_worstSpeed, q ∈ kyL_X9_even) q hq)) (fun z => z.elim) h) h (fun x42 x43 p45 h g44 => ?_)
    have h := h g44
    have K := k9_tr K p45.2
    obtain ⟨b46, e47, h⟩ := h
    refine ⟨b46, e47, ?_⟩
    obtain ⟨b48, e49, h⟩ := h
    refine ⟨b48, e49, ?_⟩
    obtain ⟨c50, h⟩ := h
    refine ⟨c50, ?_⟩
    obtain ⟨b51, e52, h⟩ := h
    refine ⟨b51, e52, ?_⟩
    obtain ⟨c53, h⟩ := h
    refine ⟨c53, ?_⟩
    obtain ⟨c54, h⟩ := h
    refine ⟨c54, ?_⟩
    obtain ⟨b55, e56, h⟩ := h
    refine ⟨b55, e56, ?_⟩
    obtain ⟨b57, e58, h⟩ := h
    refine ⟨b57, e58, ?_⟩
    obtain ⟨c59, h⟩ := h
    refine ⟨c59, ?_⟩
    obtain ⟨b60, e61, h⟩ := h
    refine ⟨b60, e61, ?_⟩
    obtain ⟨c62, h⟩ := h
    refine ⟨c62, ?_⟩
    obtain ⟨c63, h⟩ := h
    refine ⟨c63, ?_⟩
    obtain ⟨b64, e65, h⟩ := h
    refine ⟨b64, e65, ?_⟩
    obtain ⟨c66, h⟩ := h
    refine ⟨c66, ?_⟩
    refine cm_X1_leastWet (ky_X1_leastWet (b := b) hU (fun q hq => hL q ((by decide : ∀ q ∈ kyL_X1_leastWet, q ∈ kyL_X9_even) q hq)) (fun z => z.elim) h) h (fun x67 x68 p70 h g69 => ?_)
    have h := h g69
    have K := k9_tr K p70.2
    obtain ⟨b71, e72, h⟩ := h
    refine ⟨b71, e72, ?_⟩
    obtain ⟨b73, e74, h⟩ := h
    refine ⟨b73, e74, ?_⟩
    obtain ⟨c75, h⟩ := h
    refine ⟨c75, ?_⟩
    obtain ⟨b76, e77, h⟩ := h
    refine ⟨b76, e77, ?_⟩
    obtain ⟨c78, h⟩ := h
    refine ⟨c78, ?_⟩
    obtain ⟨c79, h⟩ := h
    refine ⟨c79, ?_⟩
    obtain ⟨b80, e81, h⟩ := h
    refine ⟨b80, e81, ?_⟩
    obtain ⟨b82, e83, h⟩ := h
    refine ⟨b82, e83, ?_⟩
    obtain ⟨c84, h⟩ := h
    refine ⟨c84, ?_⟩
    obtain ⟨b85, e86, h⟩ := h
    refine ⟨b85, e86, ?_⟩
    obtain ⟨c87, h⟩ := h
    refine ⟨c87, ?_⟩
    obtain ⟨c88, h⟩ := h
    refine ⟨c88, ?_⟩
    obtain ⟨b89, e90, h⟩ := h
    refine ⟨b89, e90, ?_⟩
    obtain ⟨c91, h⟩ := h
    refine ⟨c91, ?_⟩
    refine cm_X1_wetOf (ky_X1_wetOf (b := b) hU (fun q hq => hL q ((by decide : ∀ q ∈ kyL_X1_wetOf, q ∈ kyL_X9_even) q hq)) (fun z => z.elim) h) h (fun x92 x93 p95 h g94 => ?_)
    have h := h g94
    have K := k9_tr K p95.2
    refine ⟨?_, ?_⟩
    · intro c96
      have h := h.1 c96
      exact ⟨h, K⟩
    · intro c97
      have h := h.2 c97
      exact ⟨h, K⟩
  · intro c98
    have h := h.2 c98
    exact ⟨h, K⟩
theorem ky_X9_even {b : Bool} {L : List (Nat × Nat)} (hU : ∀ q ∈ L, q ∈ nyT) (hL : ∀ q ∈ kyL_X9_even, q ∈ L) (hb : False → b = false) {Q : Int32 → HS → Prop} {v0 : Nat} {v1 : Int32} {v2 : Int32} {v3 : Int32} {v4 : Int32} {S : HS} (h : P_X9_even v0 v1 v2 v3 v4 Q S) : P_X9_even v0 v1 v2 v3 v4 (fun r T => Q r T ∧ K9 b L S T) S := ky_X9_even_0 hU hL hb h (k9_rf b L S)
abbrev kyL_X9_fraction : List (Nat × Nat) := []
set_option maxRecDepth 20000 in
set_option maxHeartbeats 1000000 in
theorem ky_X9_fraction_0 {b : Bool} {L : List (Nat × Nat)} (hU : ∀ q ∈ L, q ∈ nyT) (hL : ∀ q ∈ kyL_X9_fraction, q ∈ L) (hb : False → b = false) {Q : Int64 → HS → Prop} {v0 : Int64} {v2 : Int64} {v4 : Int32} {S0 S : HS} (h : P_X9_fraction_0 Q v0 v2 v4 S) (K : K9 b L S0 S) : P_X9_fraction_0 (fun r T => Q r T ∧ K9 b L S0 T) v0 v2 v4 S := by
  delta P_X9_fraction_0 at h ⊢
  refine cm_X9_commonDivisor (ky_X9_commonDivisor (b := b) hU (fun q hq => hL q ((by decide : ∀ q ∈ kyL_X9_commonDivisor, q ∈ kyL_X9_fraction) q hq)) (fun z => z.elim) h) h (fun x1 x2 p4 h g3 => ?_)
  have h := h g3
  have K := k9_tr K p4.2
  refine ⟨?_, ?_⟩
  · intro c5
    have h := h.1 c5
    refine ⟨?_, ?_⟩
    · intro c6
      have h := h.1 c6
      obtain ⟨c7, h⟩ := h
      refine ⟨c7, ?_⟩
      intro x9 e8
      have h := h x9 e8
      exact ⟨h, K⟩
    · intro c10
      have h := h.2 c10
      obtain ⟨c11, h⟩ := h
      refine ⟨c11, ?_⟩
      intro x13 e12
      have h := h x13 e12
      exact ⟨h, K⟩
  · intro c14
    have h := h.2 c14
    refine ⟨?_, ?_⟩
    · intro c15
      have h := h.1 c15
      exact ⟨h, K⟩
    · intro c16
      have h := h.2 c16
      exact ⟨h, K⟩
theorem ky_X9_fraction {b : Bool} {L : List (Nat × Nat)} (hU : ∀ q ∈ L, q ∈ nyT) (hL : ∀ q ∈ kyL_X9_fraction, q ∈ L) (hb : False → b = false) {Q : Int64 → HS → Prop} {v0 : Int64} {v2 : Int64} {v4 : Int32} {S : HS} (h : P_X9_fraction v0 v2 v4 Q S) : P_X9_fraction v0 v2 v4 (fun r T => Q r T ∧ K9 b L S T) S := ky_X9_fraction_0 hU hL hb h (k9_rf b L S)
abbrev kyL_X9_isFace : List (Nat × Nat) := []
set_option maxRecDepth 20000 in
set_option maxHeartbeats 1000000 in
theorem ky_X9_isFace_0 {b : Bool} {L : List (Nat × Nat)} (hU : ∀ q ∈ L, q ∈ nyT) (hL : ∀ q ∈ kyL_X9_isFace, q ∈ L) (hb : False → b = false) {Q : Int32 → HS → Prop} {v0 : Int32} {S0 S : HS} (h : P_X9_isFace_0 Q v0 S) (K : K9 b L S0 S) : P_X9_isFace_0 (fun r T => Q r T ∧ K9 b L S0 T) v0 S := by
  delta P_X9_isFace_0 at h ⊢
  refine ⟨?_, ?_⟩
  · intro c1
    have h := h.1 c1
    exact ⟨h, K⟩
  · intro c2
    have h := h.2 c2
    refine ⟨?_, ?_⟩
    · intro c3
      have h := h.1 c3
      exact ⟨h, K⟩
    · intro c4
      have h := h.2 c4
      exact ⟨h, K⟩
theorem ky_X9_isFace {b : Bool} {L : List (Nat × Nat)} (hU : ∀ q ∈ L, q ∈ nyT) (hL : ∀ q ∈ kyL_X9_isFace, q ∈ L) (hb : False → b = false) {Q : Int32 → HS → Prop} {v0 : Int32} {S : HS} (h : P_X9_isFace v0 Q S) : P_X9_isFace v0 (fun r T => Q r T ∧ K9 b L S T) S := ky_X9_isFace_0 hU hL hb h (k9_rf b L S)
abbrev kyL_X9_legTrouble : List (Nat × Nat) := []
set_option maxRecDepth 20000 in
set_option maxHeartbeats 1000000 in
theorem ky_X9_legTrouble_0 {b : Bool} {L : List (Nat × Nat)} (hU : ∀ q ∈ L, q ∈ nyT) (hL : ∀ q ∈ kyL_X9_legTrouble, q ∈ L) (hb : False → b = false) {Q : Int32 → HS → Prop} {v0 : Nat} {v1 : Int32} {v2 : Int32} {v3 : Int32} {v4 : Int32} {v5 : Int32} {S0 S : HS} (h : P_X9_legTrouble_0 Q v0 v1 v2 v3 v4 v5 S) (K : K9 b L S0 S) : P_X9_legTrouble_0 (fun r T => Q r T ∧ K9 b L S0 T) v0 v1 v2 v3 v4 v5 S := by
  delta P_X9_legTrouble_0 at h ⊢
  obtain ⟨c1, h⟩ := h
  refine ⟨c1, ?_⟩
  refine cm_X9_tripTrouble (ky_X9_tripTrouble (b := b) hU (fun q hq => hL q ((by decide : ∀ q ∈ kyL_X9_tripTrouble, q ∈ kyL_X9_legTrouble) q hq)) (fun z => z.elim) h) h (fun x2 x3 p5 h g4 => ?_)
  have h := h g4
  have K := k9_tr K p5.2
  refine ⟨?_, ?_⟩
  · intro c6
    have h := h.1 c6
    obtain ⟨b7, e8, h⟩ := h
    refine ⟨b7, e8, ?_⟩
    obtain ⟨c9, h⟩ := h
    refine ⟨c9, ?_⟩
    obtain ⟨b10, e11, h⟩ := h
    refine ⟨b10, e11, ?_⟩
    obtain ⟨c12, h⟩ := h
    refine ⟨c12, ?_⟩
    obtain ⟨c13, h⟩ := h
    refine ⟨c13, ?_⟩
    obtain ⟨b14, e15, h⟩ := h
    refine ⟨b14, e15, ?_⟩
    obtain ⟨c16, h⟩ := h
    refine ⟨c16, ?_⟩
    refine cm_X6_canGo (ky_X6_canGo (b := b) hU (fun q hq => hL q ((by decide : ∀ q ∈ kyL_X6_canGo, q ∈ kyL_X9_legTrouble) q hq)) (fun z => z.elim) h) h (fun x17 x18 p21 h g19 g20 => ?_)
    have h := h g19 g20
    have K := k9_tr K p21.2
    refine ⟨?_, ?_⟩
    · intro c22
      have h := h.1 c22
      exact ⟨h, K⟩
    · intro c23
      have h := h.2 c23
      exact ⟨h, K⟩
  · intro c24
    have h := h.2 c24
    exact ⟨h, K⟩
theorem ky_X9_legTrouble {b : Bool} {L : List (Nat × Nat)} (hU : ∀ q ∈ L, q ∈ nyT) (hL : ∀ q ∈ kyL_X9_legTrouble, q ∈ L) (hb : False → b = false) {Q : Int32 → HS → Prop} {v0 : Nat} {v1 : Int32} {v2 : Int32} {v3 : Int32} {v4 : Int32} {v5 : Int32} {S : HS} (h : P_X9_legTrouble v0 v1 v2 v3 v4 v5 Q S) : P_X9_legTrouble v0 v1 v2 v3 v4 v5 (fun r T => Q r T ∧ K9 b L S T) S := ky_X9_legTrouble_0 hU hL hb h (k9_rf b L S)
abbrev kyL_X9_face : List (Nat × Nat) := [(1, 0), (1, 1)]
set_option maxRecDepth 20000 in
set_option maxHeartbeats 1000000 in
theorem ky_X9_face_23 {b : Bool} {L : List (Nat × Nat)} (hU : ∀ q ∈ L, q ∈ nyT) (hL : ∀ q ∈ kyL_X9_face, q ∈ L) (hb : False → b = false) {Q : Int64 → HS → Prop} {v0 : Nat} {v1 : Int32} {v2 : Int32} {v3 : Int32} {v4 : Int32} {v5 : Int32} {v6 : Int32} {v7 : Int32} {s0 : Int32} {S0 S : HS} (h : P_X9_face_23 Q v0 v1 v2 v3 v4 v5 v6 v7 s0 S) (K : K9 b L S0 S) : P_X9_face_23 (fun r T => Q r T ∧ K9 b L S0 T) v0 v1 v2 v3 v4 v5 v6 v7 s0 S := by
  delta P_X9_face_23 at h ⊢
  obtain ⟨c1, h⟩ := h
  refine ⟨c1, ?_⟩
  refine cm_X9_refusedBy (ky_X9_refusedBy (b := b) hU (fun q hq => hL q ((by decide : ∀ q ∈ kyL_X9_refusedBy, q ∈ kyL_X9_face) q hq)) (fun z => z.elim) h) h (fun x2 x3 p6 h g4 g5 => ?_)
  have h := h g4 g5
  have K := k9_tr K p6.2
  refine ⟨?_, ?_⟩
  · intro c7
    have h := h.1 c7
    obtain ⟨b8, e9, h⟩ := h
    refine ⟨b8, e9, ?_⟩
    obtain ⟨b10, e11, h⟩ := h
    refine ⟨b10, e11, ?_⟩
    obtain ⟨c12, h⟩ := h
    refine ⟨c12, ?_⟩
    obtain ⟨b13, e14, h⟩ := h
    refine ⟨b13, e14, ?_⟩
    obtain ⟨c15, h⟩ := h
    refine ⟨c15, ?_⟩
    obtain ⟨c16, h⟩ := h
    refine ⟨c16, ?_⟩
    obtain ⟨b17, e18, h⟩ := h
    refine ⟨b17, e18, ?_⟩
    obtain ⟨b19, e20, h⟩ := h
    refine ⟨b19, e20, ?_⟩
    obtain ⟨c21, h⟩ := h
    refine ⟨c21, ?_⟩
    obtain ⟨b22, e23, h⟩ := h
    refine ⟨b22, e23, ?_⟩
    obtain ⟨c24, h⟩ := h
    refine ⟨c24, ?_⟩
    obtain ⟨c25, h⟩ := h
    refine ⟨c25, ?_⟩
    obtain ⟨b26, e27, h⟩ := h
    refine ⟨b26, e27, ?_⟩
    obtain ⟨b28, e29, h⟩ := h
    refine ⟨b28, e29, ?_⟩
    obtain ⟨c30, h⟩ := h
    refine ⟨c30, ?_⟩
    obtain ⟨b31, e32, h⟩ := h
    refine ⟨b31, e32, ?_⟩
    obtain ⟨c33, h⟩ := h
    refine ⟨c33, ?_⟩
    obtain ⟨c34, h⟩ := h
    refine ⟨c34, ?_⟩
    obtain ⟨b35, e36, h⟩ := h
    refine ⟨b35, e36, ?_⟩
    obtain ⟨c37, h⟩ := h
    refine ⟨c37, ?_⟩
    refine cm_X1_wetOf (ky_X1_wetOf (b := b) hU (fun q hq => hL q ((by decide : ∀ q ∈ kyL_X1_wetOf, q ∈ kyL_X9_face) q hq)) (fun z => z.elim) h) h (fun x38 x39 p41 h g40 => ?_)
    have h := h g40
    have K := k9_tr K p41.2
    obtain ⟨b42, e43, h⟩ := h
    refine ⟨b42, e43, ?_⟩
    obtain ⟨c44, h⟩ := h
    refine ⟨c44, ?_⟩
    have o45 := c44
    obtain ⟨b46, e47, h⟩ := h
    refine ⟨b46, e47, ?_⟩
    obtain ⟨c48, h⟩ := h
    refine ⟨c48, ?_⟩
    obtain ⟨c49, h⟩ := h
    refine ⟨c49, ?_⟩
    intro x51 e50
    have h := h x51 e50
    refine cm_X9_fraction (ky_X9_fraction (b := b) hU (fun q hq => hL q ((by decide : ∀ q ∈ kyL_X9_fraction, q ∈ kyL_X9_face) q hq)) (fun z => z.elim) h) h (fun x52 x53 p55 h g54 => ?_)
    have h := h g54
    have K := k9_tr K p55.2
    have o45 := gr_ob p55.2.1 o45
    exact ⟨h, K⟩
  · intro c56
    have h := h.2 c56
    exact ⟨h, K⟩
set_option maxRecDepth 20000 in
set_option maxHeartbeats 1000000 in
theorem ky_X9_face_0 {b : Bool} {L : List (Nat × Nat)} (hU : ∀ q ∈ L, q ∈ nyT) (hL : ∀ q ∈ kyL_X9_face, q ∈ L) (hb : False → b = false) {Q : Int64 → HS → Prop} {v0 : Nat} {v1 : Int32} {v2 : Int32} {v3 : Int32} {v4 : Int32} {v5 : Int32} {v6 : Int32} {v7 : Int32} {S0 S : HS} (h : P_X9_face_0 Q v0 v1 v2 v3 v4 v5 v6 v7 S) (K : K9 b L S0 S) : P_X9_face_0 (fun r T => Q r T ∧ K9 b L S0 T) v0 v1 v2 v3 v4 v5 v6 v7 S := by
  delta P_X9_face_0 at h ⊢
  refine cm_X9_isFace (ky_X9_isFace (b := b) hU (fun q hq => hL q ((by decide : ∀ q ∈ kyL_X9_isFace, q ∈ kyL_X9_face) q hq)) (fun z => z.elim) h) h (fun x1 x2 p5 h g3 g4 => ?_)
  have h := h g3 g4
  have K := k9_tr K p5.2
  refine ⟨?_, ?_⟩
  · intro c6
    have h := h.1 c6
    exact ky_X9_face_23 hU hL hb h K
  · intro c7
    have h := h.2 c7
    obtain ⟨c8, h⟩ := h
    refine ⟨c8, ?_⟩
    refine cm_X9_legTrouble (ky_X9_legTrouble (b := b) hU (fun q hq => hL q ((by decide : ∀ q ∈ kyL_X9_legTrouble, q ∈ kyL_X9_face) q hq)) (fun z => z.elim) h) h (fun x9 x10 p12 h g11 => ?_)
    have h := h g11
    have K := k9_tr K p12.2
    exact ky_X9_face_23 hU hL hb h K
theorem ky_X9_face {b : Bool} {L : List (Nat × Nat)} (hU : ∀ q ∈ L, q ∈ nyT) (hL : ∀ q ∈ kyL_X9_face, q ∈ L) (hb : False → b = false) {Q : Int64 → HS → Prop} {v0 : Nat} {v1 : Int32} {v2 : Int32} {v3 : Int32} {v4 : Int32} {v5 : Int32} {v6 : Int32} {v7 : Int32} {S : HS} (h : P_X9_face v0 v1 v2 v3 v4 v5 v6 v7 Q S) : P_X9_face v0 v1 v2 v3 v4 v5 v6 v7 (fun r T => Q r T ∧ K9 b L S T) S := ky_X9_face_0 hU hL hb h (k9_rf b L S)
abbrev kyL_X9_putBytes : List (Nat × Nat) := []
set_option maxRecDepth 20000 in
set_option maxHeartbeats 1000000 in
theorem ky_X9_putBytes_49 {b : Bool} {L : List (Nat × Nat)} (hU : ∀ q ∈ L, q ∈ nyT) (hL : ∀ q ∈ kyL_X9_putBytes, q ∈ L) (hb : False → b = false) {Q : HS → Prop} {X3 X3_2 : Nat → Int32 → Int32 → HS → Prop} {v0 : Nat} {v1 : Int32} {v2 : Int32} {S0 S : HS} (h : P_X9_putBytes_49 Q X3 v0 v1 v2 S) (K : K9 b L S0 S) (hX3 : ∀ (u0 : Nat) (u1 : Int32) (u2 : Int32) (u3 : HS), X3 u0 u1 u2 u3 → K9 b L S0 u3 → X3_2 u0 u1 u2 u3) : P_X9_putBytes_49 (fun T => Q T ∧ K9 b L S0 T) X3_2 v0 v1 v2 S := by
  delta P_X9_putBytes_49 at h ⊢
  intro x2 e1
  have h := h x2 e1
  exact hX3 _ _ _ _ h K
set_option maxRecDepth 20000 in
set_option maxHeartbeats 1000000 in
theorem kyB_X9_putBytes_3 {b : Bool} {L : List (Nat × Nat)} (hU : ∀ q ∈ L, q ∈ nyT) (hL : ∀ q ∈ kyL_X9_putBytes, q ∈ L) (hb : False → b = false) {Q : HS → Prop} {X3 X3_2 : Nat → Int32 → Int32 → HS → Prop} {v0 : Nat} {v1 : Int32} {v2 : Int32} {S0 S : HS} (h : B_X9_putBytes_3 Q X3 v0 v1 v2 S) (K : K9 b L S0 S) (hX3 : ∀ (u0 : Nat) (u1 : Int32) (u2 : Int32) (u3 : HS), X3 u0 u1 u2 u3 → K9 b L S0 u3 → X3_2 u0 u1 u2 u3) : B_X9_putBytes_3 (fun T => Q T ∧ K9 b L S0 T) X3_2 v0 v1 v2 S := by
  delta B_X9_putBytes_3 at h ⊢
  refine ⟨?_, ?_⟩
  · intro c1
    have h := h.1 c1
    exact ⟨h, K⟩
  · intro c2
    have h := h.2 c2
    obtain ⟨c3, h⟩ := h
    refine ⟨c3, ?_⟩
    intro x5 e4
    have h := h x5 e4
    refine ⟨?_, ?_⟩
    · intro c6
      have h := h.1 c6
      exact ky_X9_putBytes_49 hU hL hb h K hX3
    · intro c7
      have h := h.2 c7
      intro x9 e8
      have h := h x9 e8
      obtain ⟨b10, e11, h⟩ := h
      refine ⟨b10, e11, ?_⟩
      obtain ⟨c12, h⟩ := h
      refine ⟨c12, ?_⟩
      refine ⟨?_, ?_⟩
      · intro c13
        have h := h.1 c13
        exact ky_X9_putBytes_49 hU hL hb h K hX3
      · intro c14
        have h := h.2 c14
        obtain ⟨b15, e16, h⟩ := h
        refine ⟨b15, e16, ?_⟩
        intro x18 e17
        have h := h x18 e17
        obtain ⟨c19, h⟩ := h
        refine ⟨c19, ?_⟩
        intro x21 e20
        have h := h x21 e20
        obtain ⟨c22, h⟩ := h
        refine ⟨c22, ?_⟩
        intro x24 e23
        have h := h x24 e23
        have K := k9_I K e23
        intro x26 e25
        have h := h x26 e25
        intro x28 e27
        have h := h x28 e27
        intro x30 e29
        have h := h x30 e29
        have K := k9_I K e29
        exact ky_X9_putBytes_49 hU hL hb h K hX3
theorem ky_X9_putBytes_3 {b : Bool} {L : List (Nat × Nat)} (hU : ∀ q ∈ L, q ∈ nyT) (hL : ∀ q ∈ kyL_X9_putBytes, q ∈ L) (hb : False → b = false) {Q : HS → Prop} {v0 : Nat} {v1 : Int32} {v2 : Int32} {S0 S : HS} (h : P_X9_putBytes_3 Q v0 v1 v2 S) (K : K9 b L S0 S) : P_X9_putBytes_3 (fun T => Q T ∧ K9 b L S0 T) v0 v1 v2 S := h (fun v0 v1 v2 S => K9 b L S0 S → P_X9_putBytes_3 (fun T => Q T ∧ K9 b L S0 T) v0 v1 v2 S) (fun v0 v1 v2 S hB K => fd_X9_putBytes_3 (kyB_X9_putBytes_3 hU hL hb hB K (fun _ _ _ _ hx K => hx K))) K
set_option maxRecDepth 20000 in
set_option maxHeartbeats 1000000 in
theorem ky_X9_putBytes_0 {b : Bool} {L : List (Nat × Nat)} (hU : ∀ q ∈ L, q ∈ nyT) (hL : ∀ q ∈ kyL_X9_putBytes, q ∈ L) (hb : False → b = false) {Q : HS → Prop} {v0 : Nat} {v1 : Int32} {S0 S : HS} (h : P_X9_putBytes_0 Q v0 v1 S) (K : K9 b L S0 S) : P_X9_putBytes_0 (fun T => Q T ∧ K9 b L S0 T) v0 v1 S := by
  delta P_X9_putBytes_0 at h ⊢
  exact ky_X9_putBytes_3 hU hL hb h K
theorem ky_X9_putBytes {b : Bool} {L : List (Nat × Nat)} (hU : ∀ q ∈ L, q ∈ nyT) (hL : ∀ q ∈ kyL_X9_putBytes, q ∈ L) (hb : False → b = false) {Q : HS → Prop} {v0 : Nat} {v1 : Int32} {S : HS} (h : P_X9_putBytes v0 v1 Q S) : P_X9_putBytes v0 v1 (fun T => Q T ∧ K9 b L S T) S := ky_X9_putBytes_0 hU hL hb h (k9_rf b L S)
abbrev kyL_X9_feed : List (Nat × Nat) := []
set_option maxRecDepth 20000 in
set_option maxHeartbeats 1000000 in
theorem ky_X9_feed_0 {b : Bool} {L : List (Nat × Nat)} (hU : ∀ q ∈ L, q ∈ nyT) (hL : ∀ q ∈ kyL_X9_feed, q ∈ L) (hb : False → b = false) {Q : Int32 → HS → Prop} {v0 : Nat} {v1 : Int32} {v2 : Int32} {v3 : Int32} {v4 : Int32} {v5 : Int32} {S0 S : HS} (h : P_X9_feed_0 Q v0 v1 v2 v3 v4 v5 S) (K : K9 b L S0 S) : P_X9_feed_0 (fun r T => Q r T ∧ K9 b L S0 T) v0 v1 v2 v3 v4 v5 S := by
  delta P_X9_feed_0 at h ⊢
  obtain ⟨c1, h⟩ := h
  refine ⟨c1, ?_⟩
  intro x3 e2
  have h := h x3 e2
  refine ⟨?_, ?_⟩
  · intro c4
    have h := h.1 c4
    refine cm_X9_putBytes (ky_X9_putBytes (b := b) hU (fun q hq => hL q ((by decide : ∀ q ∈ kyL_X9_putBytes, q ∈ kyL_X9_feed) q hq)) (fun z => z.elim) h) h (fun x5 p7 h g6 => ?_)
    have h := h g6
    have K := k9_tr K p7.2
    refine cm_X9_putBytes (ky_X9_putBytes (b := b) hU (fun q hq => hL q ((by decide : ∀ q ∈ kyL_X9_putBytes, q ∈ kyL_X9_feed) q hq)) (fun z => z.elim) h) h (fun x8 p10 h g9 => ?_)
    have h := h g9
    have K := k9_tr K p10.2
    refine cm_X9_putBytes (ky_X9_putBytes (b := b) hU (fun q hq => hL q ((by decide : ∀ q ∈ kyL_X9_putBytes, q ∈ kyL_X9_feed) q hq)) (fun z => z.elim) h) h (fun x11 p13 h g12 => ?_)
    have h := h g12
    have K := k9_tr K p13.2
    refine cm_X9_putBytes (ky_X9_putBytes (b := b) hU (fun q hq => hL q ((by decide : ∀ q ∈ kyL_X9_putBytes, q ∈ kyL_X9_feed) q hq)) (fun z => z.elim) h) h (fun x14 p16 h g15 => ?_)
    have h := h g15
    have K := k9_tr K p16.2
    refine cm_X9_putBytes (ky_X9_putBytes (b := b) hU (fun q hq => hL q ((by decide : ∀ q ∈ kyL_X9_putBytes, q ∈ kyL_X9_feed) q hq)) (fun z => z.elim) h) h (fun x17 p19 h g18 => ?_)
    have h := h g18
    have K := k9_tr K p19.2
    intro x21 e20
    have h := h x21 e20
    exact ⟨h, K⟩
  · intro c22
    have h := h.2 c22
    exact ⟨h, K⟩
theorem ky_X9_feed {b : Bool} {L : List (Nat × Nat)} (hU : ∀ q ∈ L, q ∈ nyT) (hL : ∀ q ∈ kyL_X9_feed, q ∈ L) (hb : False → b = false) {Q : Int32 → HS → Prop} {v0 : Nat} {v1 : Int32} {v2 : Int32} {v3 : Int32} {v4 : Int32} {v5 : Int32} {S : HS} (h : P_X9_feed v0 v1 v2 v3 v4 v5 Q S) : P_X9_feed v0 v1 v2 v3 v4 v5 (fun r T => Q r T ∧ K9 b L S T) S := ky_X9_feed_0 hU hL hb h (k9_rf b L S)
abbrev kyL_X9_leeTrouble : List (Nat × Nat) := []
set_option maxRecDepth 20000 in
set_option maxHeartbeats 1000000 in
theorem ky_X9_leeTrouble_0 {b : Bool} {L : List (Nat × Nat)} (hU : ∀ q ∈ L, q ∈ nyT) (hL : ∀ q ∈ kyL_X9_leeTrouble, q ∈ L) (hb : False → b = false) {Q : Int32 → HS → Prop} {v0 : Nat} {v1 : Int32} {v2 : Int32} {v3 : Int32} {v4 : Int32} {v5 : Int32} {v6 : Int32} {S0 S : HS} (h : P_X9_leeTrouble_0 Q v0 v1 v2 v3 v4 v5 v6 S) (K : K9 b L S0 S) : P_X9_leeTrouble_0 (fun r T => Q r T ∧ K9 b L S0 T) v0 v1 v2 v3 v4 v5 v6 S := by
  delta P_X9_leeTrouble_0 at h ⊢
  refine ⟨?_, ?_⟩
  · intro c1
    have h := h.1 c1
    exact ⟨h, K⟩
  · intro c2
    have h := h.2 c2
    obtain ⟨c3, h⟩ := h
    refine ⟨c3, ?_⟩
    obtain ⟨b4, e5, h⟩ := h
    refine ⟨b4, e5, ?_⟩
    obtain ⟨c6, h⟩ := h
    refine ⟨c6, ?_⟩
    refine cm_X8_hasWalker (ky_X8_hasWalker (b := b) hU (fun q hq => hL q ((by decide : ∀ q ∈ kyL_X8_hasWalker, q ∈ kyL_X9_leeTrouble) q hq)) (fun z => z.elim) h) h (fun x7 x8 p11 h g9 g10 => ?_)
    have h := h g9 g10
    have K := k9_tr K p11.2
    refine ⟨?_, ?_⟩
    · intro c12
      have h := h.1 c12
      exact ⟨h, K⟩
    · intro c13
      have h := h.2 c13
      obtain ⟨b14, e15, h⟩ := h
      refine ⟨b14, e15, ?_⟩
      obtain ⟨c16, h⟩ := h
      refine ⟨c16, ?_⟩
      refine cm_X8_hasWalker (ky_X8_hasWalker (b := b) hU (fun q hq => hL q ((by decide : ∀ q ∈ kyL_X8_hasWalker, q ∈ kyL_X9_leeTrouble) q hq)) (fun z => z.elim) h) h (fun x17 x18 p21 h g19 g20 => ?_)
      have h := h g19 g20
      have K := k9_tr K p21.2
      refine ⟨?_, ?_⟩
      · intro c22
        have h := h.1 c22
        refine cm_X9_legTrouble (ky_X9_legTrouble (b := b) hU (fun q hq => hL q ((by decide : ∀ q ∈ kyL_X9_legTrouble, q ∈ kyL_X9_leeTrouble) q hq)) (fun z => z.elim) h) h (fun x23 x24 p26 h g25 => ?_)
        have h := h g25
        have K := k9_tr K p26.2
        refine ⟨?_, ?_⟩
        · intro c27
          have h := h.1 c27
          obtain ⟨b28, e29, h⟩ := h
          refine ⟨b28, e29, ?_⟩
          obtain ⟨c30, h⟩ := h
          refine ⟨c30, ?_⟩
          obtain ⟨b31, e32, h⟩ := h
          refine ⟨b31, e32, ?_⟩
          obtain ⟨c33, h⟩ := h
          refine ⟨c33, ?_⟩
          obtain ⟨c34, h⟩ := h
          refine ⟨c34, ?_⟩
          obtain ⟨b35, e36, h⟩ := h
          refine ⟨b35, e36, ?_⟩
          obtain ⟨c37, h⟩ := h
          refine ⟨c37, ?_⟩
          refine cm_X6_canGo (ky_X6_canGo (b := b) hU (fun q hq => hL q ((by decide : ∀ q ∈ kyL_X6_canGo, q ∈ kyL_X9_leeTrouble) q hq)) (fun z => z.elim) h) h (fun x38 x39 p42 h g40 g41 => ?_)
          have h := h g40 g41
          have K := k9_tr K p42.2
          refine ⟨?_, ?_⟩
          · intro c43
            have h := h.1 c43
            exact ⟨h, K⟩
          · intro c44
            have h := h.2 c44
            exact ⟨h, K⟩
        · intro c45
          have h := h.2 c45
          exact ⟨h, K⟩
      · intro c46
        have h := h.2 c46
        exact ⟨h, K⟩
theorem ky_X9_leeTrouble {b : Bool} {L : List (Nat × Nat)} (hU : ∀ q ∈ L, q ∈ nyT) (hL : ∀ q ∈ kyL_X9_leeTrouble, q ∈ L) (hb : False → b = false) {Q : Int32 → HS → Prop} {v0 : Nat} {v1 : Int32} {v2 : Int32} {v3 : Int32} {v4 : Int32} {v5 : Int32} {v6 : Int32} {S : HS} (h : P_X9_leeTrouble v0 v1 v2 v3 v4 v5 v6 Q S) : P_X9_leeTrouble v0 v1 v2 v3 v4 v5 v6 (fun r T => Q r T ∧ K9 b L S T) S := ky_X9_leeTrouble_0 hU hL hb h (k9_rf b L S)
abbrev kyL_X9_first : List (Nat × Nat) := [(1, 0), (1, 1)]
set_option maxRecDepth 20000 in
set_option maxHeartbeats 1000000 in
theorem ky_X9_first_0 {b : Bool} {L : List (Nat × Nat)} (hU : ∀ q ∈ L, q ∈ nyT) (hL : ∀ q ∈ kyL_X9_first, q ∈ L) (hb : False → b = false) {Q : Int32 → HS → Prop} {v0 : Nat} {v1 : Int32} {v2 : Int32} {v3 : Int32} {v4 : Int32} {v5 : Int32} {v6 : Int32} {S0 S : HS} (h : P_X9_first_0 Q v0 v1 v2 v3 v4 v5 v6 S) (K : K9 b L S0 S) : P_X9_first_0 (fun r T => Q r T ∧ K9 b L S0 T) v0 v1 v2 v3 v4 v5 v6 S := by
  delta P_X9_first_0 at h ⊢
  obtain ⟨c1, h⟩ := h
  refine ⟨c1, ?_⟩
  refine cm_X9_leeTrouble (ky_X9_leeTrouble (b := b) hU (fun q hq => hL q ((by decide : ∀ q ∈ kyL_X9_leeTrouble, q ∈ kyL_X9_first) q hq)) (fun z => z.elim) h) h (fun x2 x3 p5 h g4 => ?_)
  have h := h g4
  have K := k9_tr K p5.2
  refine cm_X9_refusedBy (ky_X9_refusedBy (b := b) hU (fun q hq => hL q ((by decide : ∀ q ∈ kyL_X9_refusedBy, q ∈ kyL_X9_first) q hq)) (fun z => z.elim) h) h (fun x6 x7 p10 h g8 g9 => ?_)
  have h := h g8 g9
  have K := k9_tr K p10.2
  refine ⟨?_, ?_⟩
  · intro c11
    have h := h.1 c11
    obtain ⟨b12, e13, h⟩ := h
    refine ⟨b12, e13, ?_⟩
    obtain ⟨b14, e15, h⟩ := h
    refine ⟨b14, e15, ?_⟩
    obtain ⟨c16, h⟩ := h
    refine ⟨c16, ?_⟩
    obtain ⟨b17, e18, h⟩ := h
    refine ⟨b17, e18, ?_⟩
    obtain ⟨c19, h⟩ := h
    refine ⟨c19, ?_⟩
    obtain ⟨c20, h⟩ := h
    refine ⟨c20, ?_⟩
    obtain ⟨b21, e22, h⟩ := h
    refine ⟨b21, e22, ?_⟩
    obtain ⟨b23, e24, h⟩ := h
    refine ⟨b23, e24, ?_⟩
    obtain ⟨c25, h⟩ := h
    refine ⟨c25, ?_⟩
    obtain ⟨b26, e27, h⟩ := h
    refine ⟨b26, e27, ?_⟩
    obtain ⟨c28, h⟩ := h
    refine ⟨c28, ?_⟩
    obtain ⟨c29, h⟩ := h
    refine ⟨c29, ?_⟩
    obtain ⟨b30, e31, h⟩ := h
    refine ⟨b30, e31, ?_⟩
    obtain ⟨c32, h⟩ := h
    refine ⟨c32, ?_⟩
    refine cm_X1_lay (ky_X1_lay (b := b) hU (fun q hq => hL q ((by decide : ∀ q ∈ kyL_X1_lay, q ∈ kyL_X9_first) q hq)) (fun z => z.elim) h) h (fun x33 p35 h g34 => ?_)
    have h := h g34
    have K := k9_tr K p35.2
    obtain ⟨b36, e37, h⟩ := h
    refine ⟨b36, e37, ?_⟩
    obtain ⟨b38, e39, h⟩ := h
    refine ⟨b38, e39, ?_⟩
    obtain ⟨c40, h⟩ := h
    refine ⟨c40, ?_⟩
    obtain ⟨b41, e42, h⟩ := h
    refine ⟨b41, e42, ?_⟩
    obtain ⟨c43, h⟩ := h
    refine ⟨c43, ?_⟩
    obtain ⟨c44, h⟩ := h
    refine ⟨c44, ?_⟩
    obtain ⟨b45, e46, h⟩ := h
    refine ⟨b45, e46, ?_⟩
    obtain ⟨b47, e48, h⟩ := h
    refine ⟨b47, e48, ?_⟩
    obtain ⟨c49, h⟩ := h
    refine ⟨c49, ?_⟩
    obtain ⟨b50, e51, h⟩ := h
    refine ⟨b50, e51, ?_⟩
    obtain ⟨c52, h⟩ := h
    refine ⟨c52, ?_⟩
    obtain ⟨c53, h⟩ := h
    refine ⟨c53, ?_⟩
    obtain ⟨b54, e55, h⟩ := h
    refine ⟨b54, e55, ?_⟩
    obtain ⟨c56, h⟩ := h
    refine ⟨c56, ?_⟩
    refine cm_X1_wetInLee (ky_X1_wetInLee (b := b) hU (fun q hq => hL q ((by decide : ∀ q ∈ kyL_X1_wetInLee, q ∈ kyL_X9_first) q hq)) (fun z => z.elim) h) h (fun x57 x58 p60 h g59 => ?_)
    have h := h g59
    have K := k9_tr K p60.2
    obtain ⟨b61, e62, h⟩ := h
    refine ⟨b61, e62, ?_⟩
    obtain ⟨b63, e64, h⟩ := h
    refine ⟨b63, e64, ?_⟩
    obtain ⟨c65, h⟩ := h
    refine ⟨c65, ?_⟩
    obtain ⟨b66, e67, h⟩ := h
    refine ⟨b66, e67, ?_⟩
    obtain ⟨c68, h⟩ := h
    refine ⟨c68, ?_⟩
    obtain ⟨c69, h⟩ := h
    refine ⟨c69, ?_⟩
    obtain ⟨b70, e71, h⟩ := h
    refine ⟨b70, e71, ?_⟩
    obtain ⟨b72, e73, h⟩ := h
    refine ⟨b72, e73, ?_⟩
    obtain ⟨c74, h⟩ := h
    refine ⟨c74, ?_⟩
    obtain ⟨b75, e76, h⟩ := h
    refine ⟨b75, e76, ?_⟩
    obtain ⟨c77, h⟩ := h
    refine ⟨c77, ?_⟩
    obtain ⟨c78, h⟩ := h
    refine ⟨c78, ?_⟩
    obtain ⟨b79, e80, h⟩ := h
    refine ⟨b79, e80, ?_⟩
    obtain ⟨c81, h⟩ := h
    refine ⟨c81, ?_⟩
    refine cm_X1_wetInLee (ky_X1_wetInLee (b := b) hU (fun q hq => hL q ((by decide : ∀ q ∈ kyL_X1_wetInLee, q ∈ kyL_X9_first) q hq)) (fun z => z.elim) h) h (fun x82 x83 p85 h g84 => ?_)
    have h := h g84
    have K := k9_tr K p85.2
    refine ⟨?_, ?_⟩
    · intro c86
      have h := h.1 c86
      refine ⟨?_, ?_⟩
      · intro c87
        have h := h.1 c87
        exact ⟨h, K⟩
      · intro c88
        have h := h.2 c88
        exact ⟨h, K⟩
    · intro c89
      have h := h.2 c89
      exact ⟨h, K⟩
  · intro c90
    have h := h.2 c90
    exact ⟨h, K⟩
theorem ky_X9_first {b : Bool} {L : List (Nat × Nat)} (hU : ∀ q ∈ L, q ∈ nyT) (hL : ∀ q ∈ kyL_X9_first, q ∈ L) (hb : False → b = false) {Q : Int32 → HS → Prop} {v0 : Nat} {v1 : Int32} {v2 : Int32} {v3 : Int32} {v4 : Int32} {v5 : Int32} {v6 : Int32} {S : HS} (h : P_X9_first v0 v1 v2 v3 v4 v5 v6 Q S) : P_X9_first v0 v1 v2 v3 v4 v5 v6 (fun r T => Q r T ∧ K9 b L S T) S := ky_X9_first_0 hU hL hb h (k9_rf b L S)
abbrev kyL_X9_fit : List (Nat × Nat) := [(1, 0), (1, 1)]
set_option maxRecDepth 20000 in
set_option maxHeartbeats 1000000 in
theorem ky_X9_fit_15 {b : Bool} {L : List (Nat × Nat)} (hU : ∀ q ∈ L, q ∈ nyT) (hL : ∀ q ∈ kyL_X9_fit, q ∈ L) (hb : False → b = false) {Q : Int32 → HS → Prop} {v0 : Nat} {S0 S : HS} (h : P_X9_fit_15 Q v0 S) (K : K9 b L S0 S) : P_X9_fit_15 (fun r T => Q r T ∧ K9 b L S0 T) v0 S := by
  delta P_X9_fit_15 at h ⊢
  obtain ⟨c1, h⟩ := h
  refine ⟨c1, ?_⟩
  refine cm_X9_refuse (ky_X9_refuse (b := b) hU (fun q hq => hL q ((by decide : ∀ q ∈ kyL_X9_refuse, q ∈ kyL_X9_fit) q hq)) (fun z => z.elim) h) h (fun x2 x3 p5 h g4 => ?_)
  have h := h g4
  have K := k9_tr K p5.2
  exact ⟨h, K⟩
set_option maxRecDepth 20000 in
set_option maxHeartbeats 1000000 in
theorem ky_X9_fit_0 {b : Bool} {L : List (Nat × Nat)} (hU : ∀ q ∈ L, q ∈ nyT) (hL : ∀ q ∈ kyL_X9_fit, q ∈ L) (hb : False → b = false) {Q : Int32 → HS → Prop} {v0 : Nat} {v1 : Int32} {v2 : Int32} {S0 S : HS} (h : P_X9_fit_0 Q v0 v1 v2 S) (K : K9 b L S0 S) : P_X9_fit_0 (fun r T => Q r T ∧ K9 b L S0 T) v0 v1 v2 S := by
  delta P_X9_fit_0 at h ⊢
  obtain ⟨c1, h⟩ := h
  refine ⟨c1, ?_⟩
  obtain ⟨b2, e3, h⟩ := h
  refine ⟨b2, e3, ?_⟩
  obtain ⟨c4, h⟩ := h
  refine ⟨c4, ?_⟩
  refine cm_X8_hasSeen (ky_X8_hasSeen (b := b) hU (fun q hq => hL q ((by decide : ∀ q ∈ kyL_X8_hasSeen, q ∈ kyL_X9_fit) q hq)) (fun z => z.elim) h) h (fun x5 x6 p9 h g7 g8 => ?_)
  have h := h g7 g8
  have K := k9_tr K p9.2
  refine ⟨?_, ?_⟩
  · intro c10
    have h := h.1 c10
    exact ky_X9_fit_15 hU hL hb h K
  · intro c11
    have h := h.2 c11
    refine ⟨?_, ?_⟩
    · intro c12
      have h := h.1 c12
      obtain ⟨b13, e14, h⟩ := h
      refine ⟨b13, e14, ?_⟩
      obtain ⟨b15, e16, h⟩ := h
      refine ⟨b15, e16, ?_⟩
      obtain ⟨c17, h⟩ := h
      refine ⟨c17, ?_⟩
      refine cm_X1_findFit (ky_X1_findFit (b := b) hU (fun q hq => hL q ((by decide : ∀ q ∈ kyL_X1_findFit, q ∈ kyL_X9_fit) q hq)) (fun z => z.elim) h) h (fun x18 x19 p21 h g20 => ?_)
      have h := h g20
      have K := k9_tr K p21.2
      refine ⟨?_, ?_⟩
      · intro c22
        have h := h.1 c22
        refine cm_X9_grant (ky_X9_grant (b := b) hU (fun q hq => hL q ((by decide : ∀ q ∈ kyL_X9_grant, q ∈ kyL_X9_fit) q hq)) (fun z => z.elim) h) h (fun x23 x24 p26 h g25 => ?_)
        have h := h g25
        have K := k9_tr K p26.2
        exact ⟨h, K⟩
      · intro c27
        have h := h.2 c27
        refine cm_X9_refuse (ky_X9_refuse (b := b) hU (fun q hq => hL q ((by decide : ∀ q ∈ kyL_X9_refuse, q ∈ kyL_X9_fit) q hq)) (fun z => z.elim) h) h (fun x28 x29 p31 h g30 => ?_)
        have h := h g30
        have K := k9_tr K p31.2
        exact ⟨h, K⟩
    · intro c32
      have h := h.2 c32
      exact ky_X9_fit_15 hU hL hb h K
theorem ky_X9_fit {b : Bool} {L : List (Nat × Nat)} (hU : ∀ q ∈ L, q ∈ nyT) (hL : ∀ q ∈ kyL_X9_fit, q ∈ L) (hb : False → b = false) {Q : Int32 → HS → Prop} {v0 : Nat} {v1 : Int32} {v2 : Int32} {S : HS} (h : P_X9_fit v0 v1 v2 Q S) : P_X9_fit v0 v1 v2 (fun r T => Q r T ∧ K9 b L S T) S := ky_X9_fit_0 hU hL hb h (k9_rf b L S)
abbrev kyL_X9_fits : List (Nat × Nat) := [(1, 0), (1, 1)]
set_option maxRecDepth 20000 in
set_option maxHeartbeats 1000000 in
theorem ky_X9_fits_0 {b : Bool} {L : List (Nat × Nat)} (hU : ∀ q ∈ L, q ∈ nyT) (hL : ∀ q ∈ kyL_X9_fits, q ∈ L) (hb : False → b = false) {Q : Int32 → HS → Prop} {v0 : Nat} {v1 : Int32} {S0 S : HS} (h : P_X9_fits_0 Q v0 v1 S) (K : K9 b L S0 S) : P_X9_fits_0 (fun r T => Q r T ∧ K9 b L S0 T) v0 v1 S := by
  delta P_X9_fits_0 at h ⊢
  obtain ⟨c1, h⟩ := h
  refine ⟨c1, ?_⟩
  obtain ⟨b2, e3, h⟩ := h
  refine ⟨b2, e3, ?_⟩
  obtain ⟨c4, h⟩ := h
  refine ⟨c4, ?_⟩
  refine cm_X8_hasSeen (ky_X8_hasSeen (b := b) hU (fun q hq => hL q ((by decide : ∀ q ∈ kyL_X8_hasSeen, q ∈ kyL_X9_fits) q hq)) (fun z => z.elim) h) h (fun x5 x6 p9 h g7 g8 => ?_)
  have h := h g7 g8
  have K := k9_tr K p9.2
  refine ⟨?_, ?_⟩
  · intro c10
    have h := h.1 c10
    obtain ⟨b11, e12, h⟩ := h
    refine ⟨b11, e12, ?_⟩
    obtain ⟨b13, e14, h⟩ := h
    refine ⟨b13, e14, ?_⟩
    obtain ⟨c15, h⟩ := h
    refine ⟨c15, ?_⟩
    refine cm_X1_countFits (ky_X1_countFits (b := b) hU (fun q hq => hL q ((by decide : ∀ q ∈ kyL_X1_countFits, q ∈ kyL_X9_fits) q hq)) (fun z => z.elim) h) h (fun x16 x17 p19 h g18 => ?_)
    have h := h g18
    have K := k9_tr K p19.2
    refine cm_X9_grant (ky_X9_grant (b := b) hU (fun q hq => hL q ((by decide : ∀ q ∈ kyL_X9_grant, q ∈ kyL_X9_fits) q hq)) (fun z => z.elim) h) h (fun x20 x21 p23 h g22 => ?_)
    have h := h g22
    have K := k9_tr K p23.2
    exact ⟨h, K⟩
  · intro c24
    have h := h.2 c24
    refine cm_X9_refuse (ky_X9_refuse (b := b) hU (fun q hq => hL q ((by decide : ∀ q ∈ kyL_X9_refuse, q ∈ kyL_X9_fits) q hq)) (fun z => z.elim) h) h (fun x25 x26 p28 h g27 => ?_)
    have h := h g27
    have K := k9_tr K p28.2
    exact ⟨h, K⟩
theorem ky_X9_fits {b : Bool} {L : List (Nat × Nat)} (hU : ∀ q ∈ L, q ∈ nyT) (hL : ∀ q ∈ kyL_X9_fits, q ∈ L) (hb : False → b = false) {Q : Int32 → HS → Prop} {v0 : Nat} {v1 : Int32} {S : HS} (h : P_X9_fits v0 v1 Q S) : P_X9_fits v0 v1 (fun r T => Q r T ∧ K9 b L S T) S := ky_X9_fits_0 hU hL hb h (k9_rf b L S)
abbrev kyL_X9_go : List (Nat × Nat) := [(1, 0), (1, 1), (2, 2)]
set_option maxRecDepth 20000 in
set_option maxHeartbeats 1000000 in
theorem ky_X9_go_45 {b : Bool} {L : List (Nat × Nat)} (hU : ∀ q ∈ L, q ∈ nyT) (hL : ∀ q ∈ kyL_X9_go, q ∈ L) (hb : True → b = false) {Q : Int32 → HS → Prop} {v0 : Nat} {S0 S : HS} (h : P_X9_go_45 Q v0 S) (K : K9 b L S0 S) : P_X9_go_45 (fun r T => Q r T ∧ K9 b L S0 T) v0 S := by
  delta P_X9_go_45 at h ⊢
  obtain ⟨c1, h⟩ := h
  refine ⟨c1, ?_⟩
  refine cm_X9_refuse (ky_X9_refuse (b := b) hU (fun q hq => hL q ((by decide : ∀ q ∈ kyL_X9_refuse, q ∈ kyL_X9_go) q hq)) (fun z => z.elim) h) h (fun x2 x3 p5 h g4 => ?_)
  have h := h g4
  have K := k9_tr K p5.2
  exact ⟨h, K⟩
set_option maxRecDepth 20000 in
set_option maxHeartbeats 1000000 in
theorem ky_X9_go_243 {b : Bool} {L : List (Nat × Nat)} (hU : ∀ q ∈ L, q ∈ nyT) (hL : ∀ q ∈ kyL_X9_go, q ∈ L) (hb : True → b = false) {Q : Int32 → HS → Prop} {v0 : Nat} {v2 : Int32} {v5 : Nat} {v6 : Int32} {S0 S : HS} (h : P_X9_go_243 Q v0 v2 v5 v6 S) (K : K9 b L S0 S) : P_X9_go_243 (fun r T => Q r T ∧ K9 b L S0 T) v0 v2 v5 v6 S := by
  delta P_X9_go_243 at h ⊢
  obtain ⟨c1, h⟩ := h
  refine ⟨c1, ?_⟩
  obtain ⟨b2, e3, h⟩ := h
  refine ⟨b2, e3, ?_⟩
  obtain ⟨c4, h⟩ := h
  refine ⟨c4, ?_⟩
  obtain ⟨b5, e6, h⟩ := h
  refine ⟨b5, e6, ?_⟩
  obtain ⟨c7, h⟩ := h
  refine ⟨c7, ?_⟩
  refine cm_X5_endOf (ky_X5_endOf (b := b) hU (fun q hq => hL q ((by decide : ∀ q ∈ kyL_X5_endOf, q ∈ kyL_X9_go) q hq)) (fun z => z.elim) h) h (fun x8 x9 p11 h g10 => ?_)
  have h := h g10
  have K := k9_tr K p11.2
  obtain ⟨c12, h⟩ := h
  refine ⟨c12, ?_⟩
  intro x14 e13
  have h := h x14 e13
  have K := k9_I K e13
  obtain ⟨b15, e16, h⟩ := h
  refine ⟨b15, e16, ?_⟩
  obtain ⟨c17, h⟩ := h
  refine ⟨c17, ?_⟩
  obtain ⟨b18, e19, h⟩ := h
  refine ⟨b18, e19, ?_⟩
  obtain ⟨c20, h⟩ := h
  refine ⟨c20, ?_⟩
  intro x22 e21
  have h := h x22 e21
  have K := k9_I K e21
  refine cm_X9_grant (ky_X9_grant (b := b) hU (fun q hq => hL q ((by decide : ∀ q ∈ kyL_X9_grant, q ∈ kyL_X9_go) q hq)) (fun z => z.elim) h) h (fun x23 x24 p26 h g25 => ?_)
  have h := h g25
  have K := k9_tr K p26.2
  exact ⟨h, K⟩
set_option maxRecDepth 20000 in
set_option maxHeartbeats 1000000 in
theorem ky_X9_go_0 {b : Bool} {L : List (Nat × Nat)} (hU : ∀ q ∈ L, q ∈ nyT) (hL : ∀ q ∈ kyL_X9_go, q ∈ L) (hb : True → b = false) {Q : Int32 → HS → Prop} {v0 : Nat} {v1 : Int32} {v2 : Int32} {v3 : Int32} {S0 S : HS} (h : P_X9_go_0 Q v0 v1 v2 v3 S) (K : K9 b L S0 S) : P_X9_go_0 (fun r T => Q r T ∧ K9 b L S0 T) v0 v1 v2 v3 S := by
  delta P_X9_go_0 at h ⊢
  obtain ⟨c1, h⟩ := h
  refine ⟨c1, ?_⟩
  obtain ⟨b2, e3, h⟩ := h
  refine ⟨b2, e3, ?_⟩
  obtain ⟨c4, h⟩ := h
  refine ⟨c4, ?_⟩
  refine cm_X0_isOn (ky_X0_isOn (b := b) hU (fun q hq => hL q ((by decide : ∀ q ∈ kyL_X0_isOn, q ∈ kyL_X9_go) q hq)) (fun z => z.elim) h) h (fun x5 x6 p9 h g7 g8 => ?_)
  have h := h g7 g8
  have K := k9_tr K p9.2
  refine ⟨?_, ?_⟩
  · intro c10
    have h := h.1 c10
    exact ky_X9_go_45 hU hL hb h K
  · intro c11
    have h := h.2 c11
    obtain ⟨b12, e13, h⟩ := h
    refine ⟨b12, e13, ?_⟩
    obtain ⟨b14, e15, h⟩ := h
    refine ⟨b14, e15, ?_⟩
    obtain ⟨c16, h⟩ := h
    refine ⟨c16, ?_⟩
    intro x18 e17
    have h := h x18 e17
    obtain ⟨c19, h⟩ := h
    refine ⟨c19, ?_⟩
    refine cm_X8_hasWalker (ky_X8_hasWalker (b := b) hU (fun q hq => hL q ((by decide : ∀ q ∈ kyL_X8_hasWalker, q ∈ kyL_X9_go) q hq)) (fun z => z.elim) h) h (fun x20 x21 p24 h g22 g23 => ?_)
    have h := h g22 g23
    have K := k9_tr K p24.2
    refine ⟨?_, ?_⟩
    · intro c25
      have h := h.1 c25
      exact ky_X9_go_45 hU hL hb h K
    · intro c26
      have h := h.2 c26
      obtain ⟨b27, e28, h⟩ := h
      refine ⟨b27, e28, ?_⟩
      obtain ⟨c29, h⟩ := h
      refine ⟨c29, ?_⟩
      refine cm_X8_hasRoad (ky_X8_hasRoad (b := b) hU (fun q hq => hL q ((by decide : ∀ q ∈ kyL_X8_hasRoad, q ∈ kyL_X9_go) q hq)) (fun z => z.elim) h) h (fun x30 x31 p34 h g32 g33 => ?_)
      have h := h g32 g33
      have K := k9_tr K p34.2
      refine ⟨?_, ?_⟩
      · intro c35
        have h := h.1 c35
        exact ky_X9_go_45 hU hL hb h K
      · intro c36
        have h := h.2 c36
        refine cm_X9_isWay (ky_X9_isWay (b := b) hU (fun q hq => hL q ((by decide : ∀ q ∈ kyL_X9_isWay, q ∈ kyL_X9_go) q hq)) (fun z => z.elim) h) h (fun x37 x38 p41 h g39 g40 => ?_)
        have h := h g39 g40
        have K := k9_tr K p41.2
        refine ⟨?_, ?_⟩
        · intro c42
          have h := h.1 c42
          obtain ⟨b43, e44, h⟩ := h
          refine ⟨b43, e44, ?_⟩
          obtain ⟨c45, h⟩ := h
          refine ⟨c45, ?_⟩
          obtain ⟨b46, e47, h⟩ := h
          refine ⟨b46, e47, ?_⟩
          obtain ⟨b48, e49, h⟩ := h
          refine ⟨b48, e49, ?_⟩
          obtain ⟨c50, h⟩ := h
          refine ⟨c50, ?_⟩
          intro x52 e51
          have h := h x52 e51
          obtain ⟨c53, h⟩ := h
          refine ⟨c53, ?_⟩
          obtain ⟨c54, h⟩ := h
          refine ⟨c54, ?_⟩
          obtain ⟨b55, e56, h⟩ := h
          refine ⟨b55, e56, ?_⟩
          obtain ⟨b57, e58, h⟩ := h
          refine ⟨b57, e58, ?_⟩
          obtain ⟨c59, h⟩ := h
          refine ⟨c59, ?_⟩
          obtain ⟨b60, e61, h⟩ := h
          refine ⟨b60, e61, ?_⟩
          obtain ⟨c62, h⟩ := h
          refine ⟨c62, ?_⟩
          obtain ⟨c63, h⟩ := h
          refine ⟨c63, ?_⟩
          obtain ⟨b64, e65, h⟩ := h
          refine ⟨b64, e65, ?_⟩
          obtain ⟨c66, h⟩ := h
          refine ⟨c66, ?_⟩
          refine cm_X6_canGo (ky_X6_canGo (b := b) hU (fun q hq => hL q ((by decide : ∀ q ∈ kyL_X6_canGo, q ∈ kyL_X9_go) q hq)) (fun z => z.elim) h) h (fun x67 x68 p71 h g69 g70 => ?_)
          have h := h g69 g70
          have K := k9_tr K p71.2
          refine ⟨?_, ?_⟩
          · intro c72
            have h := h.1 c72
            obtain ⟨c73, h⟩ := h
            refine ⟨c73, ?_⟩
            refine cm_X5_startOf (ky_X5_startOf (b := b) hU (fun q hq => hL q ((by decide : ∀ q ∈ kyL_X5_startOf, q ∈ kyL_X9_go) q hq)) (fun z => z.elim) h) h (fun x74 x75 p77 h g76 => ?_)
            have h := h g76
            have K := k9_tr K p77.2
            obtain ⟨b78, e79, h⟩ := h
            refine ⟨b78, e79, ?_⟩
            obtain ⟨c80, h⟩ := h
            refine ⟨c80, ?_⟩
            obtain ⟨b81, e82, h⟩ := h
            refine ⟨b81, e82, ?_⟩
            obtain ⟨c83, h⟩ := h
            refine ⟨c83, ?_⟩
            intro x85 e84
            have h := h x85 e84
            refine ⟨?_, ?_⟩
            · intro c86
              have h := h.1 c86
              obtain ⟨b87, e88, h⟩ := h
              refine ⟨b87, e88, ?_⟩
              obtain ⟨c89, h⟩ := h
              refine ⟨c89, ?_⟩
              obtain ⟨b90, e91, h⟩ := h
              refine ⟨b90, e91, ?_⟩
              obtain ⟨c92, h⟩ := h
              refine ⟨c92, ?_⟩
              intro x94 e93
              have h := h x94 e93
              refine cm_X5_minutesAt (ky_X5_minutesAt (b := b) hU (fun q hq => hL q ((by decide : ∀ q ∈ kyL_X5_minutesAt, q ∈ kyL_X9_go) q hq)) (fun z => z.elim) h) h (fun x95 x96 p98 h g97 => ?_)
              have h := h g97
              have K := k9_tr K p98.2
              intro x100 e99
              have h := h x100 e99
              refine ⟨?_, ?_⟩
              · intro c101
                have h := h.1 c101
                obtain ⟨b102, e103, h⟩ := h
                refine ⟨b102, e103, ?_⟩
                obtain ⟨c104, h⟩ := h
                refine ⟨c104, ?_⟩
                refine cm_X0_keepForUndo (ky_X0_keepForUndo (b := b) hU (fun q hq => hL q ((by decide : ∀ q ∈ kyL_X0_keepForUndo, q ∈ kyL_X9_go) q hq)) (fun z => hb trivial) h) h (fun x105 p107 h g106 => ?_)
                have h := h g106
                have K := k9_tr K p107.2
                obtain ⟨b108, e109, h⟩ := h
                refine ⟨b108, e109, ?_⟩
                obtain ⟨b110, e111, h⟩ := h
                refine ⟨b110, e111, ?_⟩
                obtain ⟨c112, h⟩ := h
                refine ⟨c112, ?_⟩
                obtain ⟨b113, e114, h⟩ := h
                refine ⟨b113, e114, ?_⟩
                obtain ⟨c115, h⟩ := h
                refine ⟨c115, ?_⟩
                intro x117 e116
                have h := h x117 e116
                obtain ⟨c118, h⟩ := h
                refine ⟨c118, ?_⟩
                refine cm_X8_hourOf (ky_X8_hourOf (b := b) hU (fun q hq => hL q ((by decide : ∀ q ∈ kyL_X8_hourOf, q ∈ kyL_X9_go) q hq)) (fun z => z.elim) h) h (fun x119 x120 p122 h g121 => ?_)
                have h := h g121
                have K := k9_tr K p122.2
                obtain ⟨b123, e124, h⟩ := h
                refine ⟨b123, e124, ?_⟩
                obtain ⟨c125, h⟩ := h
                refine ⟨c125, ?_⟩
                refine cm_X8_hasHour (ky_X8_hasHour (b := b) hU (fun q hq => hL q ((by decide : ∀ q ∈ kyL_X8_hasHour, q ∈ kyL_X9_go) q hq)) (fun z => z.elim) h) h (fun x126 x127 p130 h g128 g129 => ?_)
                have h := h g128 g129
                have K := k9_tr K p130.2
                refine ⟨?_, ?_⟩
                · intro c131
                  have h := h.1 c131
                  exact ky_X9_go_243 hU hL hb h K
                · intro c132
                  have h := h.2 c132
                  obtain ⟨b133, e134, h⟩ := h
                  refine ⟨b133, e134, ?_⟩
                  obtain ⟨c135, h⟩ := h
                  refine ⟨c135, ?_⟩
                  refine cm_X0_rainsIn (ky_X0_rainsIn (b := b) hU (fun q hq => hL q ((by decide : ∀ q ∈ kyL_X0_rainsIn, q ∈ kyL_X9_go) q hq)) (fun z => z.elim) h) h (fun x136 x137 p140 h g138 g139 => ?_)
                  have h := h g138 g139
                  have K := k9_tr K p140.2
                  refine ⟨?_, ?_⟩
                  · intro c141
                    have h := h.1 c141
                    exact ky_X9_go_243 hU hL hb h K
                  · intro c142
                    have h := h.2 c142
                    obtain ⟨b143, e144, h⟩ := h
                    refine ⟨b143, e144, ?_⟩
                    obtain ⟨b145, e146, h⟩ := h
                    refine ⟨b145, e146, ?_⟩
                    obtain ⟨c147, h⟩ := h
                    refine ⟨c147, ?_⟩
                    obtain ⟨b148, e149, h⟩ := h
                    refine ⟨b148, e149, ?_⟩
                    obtain ⟨c150, h⟩ := h
                    refine ⟨c150, ?_⟩
                    obtain ⟨c151, h⟩ := h
                    refine ⟨c151, ?_⟩
                    obtain ⟨b152, e153, h⟩ := h
                    refine ⟨b152, e153, ?_⟩
                    obtain ⟨c154, h⟩ := h
                    refine ⟨c154, ?_⟩
                    refine cm_X1_wetOf (ky_X1_wetOf (b := b) hU (fun q hq => hL q ((by decide : ∀ q ∈ kyL_X1_wetOf, q ∈ kyL_X9_go) q hq)) (fun z => z.elim) h) h (fun x155 x156 p158 h g157 => ?_)
                    have h := h g157
                    have K := k9_tr K p158.2
                    obtain ⟨b159, e160, h⟩ := h
                    refine ⟨b159, e160, ?_⟩
                    obtain ⟨c161, h⟩ := h
                    refine ⟨c161, ?_⟩
                    obtain ⟨b162, e163, h⟩ := h
                    refine ⟨b162, e163, ?_⟩
                    obtain ⟨b164, e165, h⟩ := h
                    refine ⟨b164, e165, ?_⟩
                    obtain ⟨c166, h⟩ := h
                    refine ⟨c166, ?_⟩
                    have o167 := c166
                    obtain ⟨b168, e169, h⟩ := h
                    refine ⟨b168, e169, ?_⟩
                    obtain ⟨c170, h⟩ := h
                    refine ⟨c170, ?_⟩
                    refine cm_X2_addFaces (ky_X2_addFaces (b := b) hU (fun q hq => hL q ((by decide : ∀ q ∈ kyL_X2_addFaces, q ∈ kyL_X9_go) q hq)) (fun z => z.elim) h) h (fun x171 p173 h g172 => ?_)
                    have h := h g172
                    have K := k9_tr K p173.2
                    have o167 := gr_ob p173.2.1 o167
                    exact ky_X9_go_243 hU hL hb h K
              · intro c174
                have h := h.2 c174
                refine cm_X9_refuse (ky_X9_refuse (b := b) hU (fun q hq => hL q ((by decide : ∀ q ∈ kyL_X9_refuse, q ∈ kyL_X9_go) q hq)) (fun z => z.elim) h) h (fun x175 x176 p178 h g177 => ?_)
                have h := h g177
                have K := k9_tr K p178.2
                exact ⟨h, K⟩
            · intro c179
              have h := h.2 c179
              refine cm_X9_refuse (ky_X9_refuse (b := b) hU (fun q hq => hL q ((by decide : ∀ q ∈ kyL_X9_refuse, q ∈ kyL_X9_go) q hq)) (fun z => z.elim) h) h (fun x180 x181 p183 h g182 => ?_)
              have h := h g182
              have K := k9_tr K p183.2
              exact ⟨h, K⟩
          · intro c184
            have h := h.2 c184
            refine cm_X9_refuse (ky_X9_refuse (b := b) hU (fun q hq => hL q ((by decide : ∀ q ∈ kyL_X9_refuse, q ∈ kyL_X9_go) q hq)) (fun z => z.elim) h) h (fun x185 x186 p188 h g187 => ?_)
            have h := h g187
            have K := k9_tr K p188.2
            exact ⟨h, K⟩
        · intro c189
          have h := h.2 c189
          exact ky_X9_go_45 hU hL hb h K
theorem ky_X9_go {b : Bool} {L : List (Nat × Nat)} (hU : ∀ q ∈ L, q ∈ nyT) (hL : ∀ q ∈ kyL_X9_go, q ∈ L) (hb : True → b = false) {Q : Int32 → HS → Prop} {v0 : Nat} {v1 : Int32} {v2 : Int32} {v3 : Int32} {S : HS} (h : P_X9_go v0 v1 v2 v3 Q S) : P_X9_go v0 v1 v2 v3 (fun r T => Q r T ∧ K9 b L S T) S := ky_X9_go_0 hU hL hb h (k9_rf b L S)
abbrev kyL_X9_got : List (Nat × Nat) := []
set_option maxRecDepth 20000 in
set_option maxHeartbeats 1000000 in
theorem ky_X9_got_17 {b : Bool} {L : List (Nat × Nat)} (hU : ∀ q ∈ L, q ∈ nyT) (hL : ∀ q ∈ kyL_X9_got, q ∈ L) (hb : False → b = false) {Q : Int64 → HS → Prop} {v0 : Nat} {S0 S : HS} (h : P_X9_got_17 Q v0 S) (K : K9 b L S0 S) : P_X9_got_17 (fun r T => Q r T ∧ K9 b L S0 T) v0 S := by
  delta P_X9_got_17 at h ⊢
  obtain ⟨c1, h⟩ := h
  refine ⟨c1, ?_⟩
  refine cm_X9_refuse (ky_X9_refuse (b := b) hU (fun q hq => hL q ((by decide : ∀ q ∈ kyL_X9_refuse, q ∈ kyL_X9_got) q hq)) (fun z => z.elim) h) h (fun x2 x3 p5 h g4 => ?_)
  have h := h g4
  have K := k9_tr K p5.2
  exact ⟨h, K⟩
set_option maxRecDepth 20000 in
set_option maxHeartbeats 1000000 in
theorem ky_X9_got_0 {b : Bool} {L : List (Nat × Nat)} (hU : ∀ q ∈ L, q ∈ nyT) (hL : ∀ q ∈ kyL_X9_got, q ∈ L) (hb : False → b = false) {Q : Int64 → HS → Prop} {v0 : Nat} {v1 : Int32} {v2 : Int32} {S0 S : HS} (h : P_X9_got_0 Q v0 v1 v2 S) (K : K9 b L S0 S) : P_X9_got_0 (fun r T => Q r T ∧ K9 b L S0 T) v0 v1 v2 S := by
  delta P_X9_got_0 at h ⊢
  obtain ⟨c1, h⟩ := h
  refine ⟨c1, ?_⟩
  obtain ⟨b2, e3, h⟩ := h
  refine ⟨b2, e3, ?_⟩
  obtain ⟨c4, h⟩ := h
  refine ⟨c4, ?_⟩
  refine cm_X0_isOn (ky_X0_isOn (b := b) hU (fun q hq => hL q ((by decide : ∀ q ∈ kyL_X0_isOn, q ∈ kyL_X9_got) q hq)) (fun z => z.elim) h) h (fun x5 x6 p9 h g7 g8 => ?_)
  have h := h g7 g8
  have K := k9_tr K p9.2
  refine ⟨?_, ?_⟩
  · intro c10
    have h := h.1 c10
    exact ky_X9_got_17 hU hL hb h K
  · intro c11
    have h := h.2 c11
    refine cm_X9_isFace (ky_X9_isFace (b := b) hU (fun q hq => hL q ((by decide : ∀ q ∈ kyL_X9_isFace, q ∈ kyL_X9_got) q hq)) (fun z => z.elim) h) h (fun x12 x13 p16 h g14 g15 => ?_)
    have h := h g14 g15
    have K := k9_tr K p16.2
    refine ⟨?_, ?_⟩
    · intro c17
      have h := h.1 c17
      intro x19 e18
      have h := h x19 e18
      have K := k9_I K e18
      obtain ⟨b20, e21, h⟩ := h
      refine ⟨b20, e21, ?_⟩
      obtain ⟨c22, h⟩ := h
      refine ⟨c22, ?_⟩
      obtain ⟨b23, e24, h⟩ := h
      refine ⟨b23, e24, ?_⟩
      obtain ⟨c25, h⟩ := h
      refine ⟨c25, ?_⟩
      have o26 := c25
      obtain ⟨b27, e28, h⟩ := h
      refine ⟨b27, e28, ?_⟩
      obtain ⟨c29, h⟩ := h
      refine ⟨c29, ?_⟩
      obtain ⟨c30, h⟩ := h
      refine ⟨c30, ?_⟩
      intro x32 e31
      have h := h x32 e31
      refine cm_X9_fraction (ky_X9_fraction (b := b) hU (fun q hq => hL q ((by decide : ∀ q ∈ kyL_X9_fraction, q ∈ kyL_X9_got) q hq)) (fun z => z.elim) h) h (fun x33 x34 p36 h g35 => ?_)
      have h := h g35
      have K := k9_tr K p36.2
      have o26 := gr_ob p36.2.1 o26
      exact ⟨h, K⟩
    · intro c37
      have h := h.2 c37
      exact ky_X9_got_17 hU hL hb h K
theorem ky_X9_got {b : Bool} {L : List (Nat × Nat)} (hU : ∀ q ∈ L, q ∈ nyT) (hL : ∀ q ∈ kyL_X9_got, q ∈ L) (hb : False → b = false) {Q : Int64 → HS → Prop} {v0 : Nat} {v1 : Int32} {v2 : Int32} {S : HS} (h : P_X9_got v0 v1 v2 Q S) : P_X9_got v0 v1 v2 (fun r T => Q r T ∧ K9 b L S T) S := ky_X9_got_0 hU hL hb h (k9_rf b L S)
abbrev kyL_X9_held : List (Nat × Nat) := [(1, 1)]
set_option maxRecDepth 20000 in
set_option maxHeartbeats 1000000 in
theorem ky_X9_held_0 {b : Bool} {L : List (Nat × Nat)} (hU : ∀ q ∈ L, q ∈ nyT) (hL : ∀ q ∈ kyL_X9_held, q ∈ L) (hb : False → b = false) {Q : Int32 → HS → Prop} {v0 : Nat} {v1 : Int32} {v2 : Int32} {v3 : Int32} {v4 : Int32} {v5 : Int32} {S0 S : HS} (h : P_X9_held_0 Q v0 v1 v2 v3 v4 v5 S) (K : K9 b L S0 S) : P_X9_held_0 (fun r T => Q r T ∧ K9 b L S0 T) v0 v1 v2 v3 v4 v5 S := by
  delta P_X9_held_0 at h ⊢
  obtain ⟨c1, h⟩ := h
  refine ⟨c1, ?_⟩
  refine cm_X9_legTrouble (ky_X9_legTrouble (b := b) hU (fun q hq => hL q ((by decide : ∀ q ∈ kyL_X9_legTrouble, q ∈ kyL_X9_held) q hq)) (fun z => z.elim) h) h (fun x2 x3 p5 h g4 => ?_)
  have h := h g4
  have K := k9_tr K p5.2
  refine cm_X9_refusedBy (ky_X9_refusedBy (b := b) hU (fun q hq => hL q ((by decide : ∀ q ∈ kyL_X9_refusedBy, q ∈ kyL_X9_held) q hq)) (fun z => z.elim) h) h (fun x6 x7 p10 h g8 g9 => ?_)
  have h := h g8 g9
  have K := k9_tr K p10.2
  refine ⟨?_, ?_⟩
  · intro c11
    have h := h.1 c11
    obtain ⟨b12, e13, h⟩ := h
    refine ⟨b12, e13, ?_⟩
    obtain ⟨c14, h⟩ := h
    refine ⟨c14, ?_⟩
    obtain ⟨b15, e16, h⟩ := h
    refine ⟨b15, e16, ?_⟩
    obtain ⟨c17, h⟩ := h
    refine ⟨c17, ?_⟩
    obtain ⟨c18, h⟩ := h
    refine ⟨c18, ?_⟩
    obtain ⟨b19, e20, h⟩ := h
    refine ⟨b19, e20, ?_⟩
    obtain ⟨c21, h⟩ := h
    refine ⟨c21, ?_⟩
    intro x23 e22
    have h := h x23 e22
    refine ⟨?_, ?_⟩
    · intro c24
      have h := h.1 c24
      obtain ⟨b25, e26, h⟩ := h
      refine ⟨b25, e26, ?_⟩
      obtain ⟨b27, e28, h⟩ := h
      refine ⟨b27, e28, ?_⟩
      obtain ⟨c29, h⟩ := h
      refine ⟨c29, ?_⟩
      obtain ⟨b30, e31, h⟩ := h
      refine ⟨b30, e31, ?_⟩
      obtain ⟨c32, h⟩ := h
      refine ⟨c32, ?_⟩
      obtain ⟨c33, h⟩ := h
      refine ⟨c33, ?_⟩
      obtain ⟨b34, e35, h⟩ := h
      refine ⟨b34, e35, ?_⟩
      obtain ⟨b36, e37, h⟩ := h
      refine ⟨b36, e37, ?_⟩
      obtain ⟨c38, h⟩ := h
      refine ⟨c38, ?_⟩
      obtain ⟨b39, e40, h⟩ := h
      refine ⟨b39, e40, ?_⟩
      obtain ⟨c41, h⟩ := h
      refine ⟨c41, ?_⟩
      obtain ⟨c42, h⟩ := h
      refine ⟨c42, ?_⟩
      obtain ⟨b43, e44, h⟩ := h
      refine ⟨b43, e44, ?_⟩
      obtain ⟨c45, h⟩ := h
      refine ⟨c45, ?_⟩
      refine cm_X1_lay (ky_X1_lay (b := b) hU (fun q hq => hL q ((by decide : ∀ q ∈ kyL_X1_lay, q ∈ kyL_X9_held) q hq)) (fun z => z.elim) h) h (fun x46 p48 h g47 => ?_)
      have h := h g47
      have K := k9_tr K p48.2
      obtain ⟨b49, e50, h⟩ := h
      refine ⟨b49, e50, ?_⟩
      obtain ⟨b51, e52, h⟩ := h
      refine ⟨b51, e52, ?_⟩
      obtain ⟨c53, h⟩ := h
      refine ⟨c53, ?_⟩
      obtain ⟨b54, e55, h⟩ := h
      refine ⟨b54, e55, ?_⟩
      obtain ⟨c56, h⟩ := h
      refine ⟨c56, ?_⟩
      obtain ⟨c57, h⟩ := h
      refine ⟨c57, ?_⟩
      obtain ⟨b58, e59, h⟩ := h
      refine ⟨b58, e59, ?_⟩
      obtain ⟨c60, h⟩ := h
      refine ⟨c60, ?_⟩
      refine cm_X1_isForward (ky_X1_isForward (b := b) hU (fun q hq => hL q ((by decide : ∀ q ∈ kyL_X1_isForward, q ∈ kyL_X9_held) q hq)) (fun z => z.elim) h) h (fun x61 x62 p65 h g63 g64 => ?_)
      have h := h g63 g64
      have K := k9_tr K p65.2
      refine ⟨?_, ?_⟩
      · intro c66
        have h := h.1 c66
        exact ⟨h, K⟩
      · intro c67
        have h := h.2 c67
        exact ⟨h, K⟩
    · intro c68
      have h := h.2 c68
      exact ⟨h, K⟩
  · intro c69
    have h := h.2 c69
    exact ⟨h, K⟩
theorem ky_X9_held {b : Bool} {L : List (Nat × Nat)} (hU : ∀ q ∈ L, q ∈ nyT) (hL : ∀ q ∈ kyL_X9_held, q ∈ L) (hb : False → b = false) {Q : Int32 → HS → Prop} {v0 : Nat} {v1 : Int32} {v2 : Int32} {v3 : Int32} {v4 : Int32} {v5 : Int32} {S : HS} (h : P_X9_held v0 v1 v2 v3 v4 v5 Q S) : P_X9_held v0 v1 v2 v3 v4 v5 (fun r T => Q r T ∧ K9 b L S T) S := ky_X9_held_0 hU hL hb h (k9_rf b L S)
abbrev kyL_X9_isTill : List (Nat × Nat) := []
set_option maxRecDepth 20000 in
set_option maxHeartbeats 1000000 in
theorem ky_X9_isTill_0 {b : Bool} {L : List (Nat × Nat)} (hU : ∀ q ∈ L, q ∈ nyT) (hL : ∀ q ∈ kyL_X9_isTill, q ∈ L) (hb : False → b = false) {Q : Int32 → HS → Prop} {v0 : Int32} {S0 S : HS} (h : P_X9_isTill_0 Q v0 S) (K : K9 b L S0 S) : P_X9_isTill_0 (fun r T => Q r T ∧ K9 b L S0 T) v0 S := by
  delta P_X9_isTill_0 at h ⊢
  refine ⟨?_, ?_⟩
  · intro c1
    have h := h.1 c1
    exact ⟨h, K⟩
  · intro c2
    have h := h.2 c2
    refine ⟨?_, ?_⟩
    · intro c3
      have h := h.1 c3
      exact ⟨h, K⟩
    · intro c4
      have h := h.2 c4
      exact ⟨h, K⟩
theorem ky_X9_isTill {b : Bool} {L : List (Nat × Nat)} (hU : ∀ q ∈ L, q ∈ nyT) (hL : ∀ q ∈ kyL_X9_isTill, q ∈ L) (hb : False → b = false) {Q : Int32 → HS → Prop} {v0 : Int32} {S : HS} (h : P_X9_isTill v0 Q S) : P_X9_isTill v0 (fun r T => Q r T ∧ K9 b L S T) S := ky_X9_isTill_0 hU hL hb h (k9_rf b L S)
abbrev kyL_X9_placesTrouble : List (Nat × Nat) := []
set_option maxRecDepth 20000 in
set_option maxHeartbeats 1000000 in
theorem ky_X9_placesTrouble_38 {b : Bool} {L : List (Nat × Nat)} (hU : ∀ q ∈ L, q ∈ nyT) (hL : ∀ q ∈ kyL_X9_placesTrouble, q ∈ L) (hb : False → b = false) {Q : Int32 → HS → Prop} {s0 : Int32} {S0 S : HS} (h : P_X9_placesTrouble_38 Q s0 S) (K : K9 b L S0 S) : P_X9_placesTrouble_38 (fun r T => Q r T ∧ K9 b L S0 T) s0 S := by
  delta P_X9_placesTrouble_38 at h ⊢
  refine ⟨?_, ?_⟩
  · intro c1
    have h := h.1 c1
    exact ⟨h, K⟩
  · intro c2
    have h := h.2 c2
    exact ⟨h, K⟩
set_option maxRecDepth 20000 in
set_option maxHeartbeats 1000000 in
theorem ky_X9_placesTrouble_37 {b : Bool} {L : List (Nat × Nat)} (hU : ∀ q ∈ L, q ∈ nyT) (hL : ∀ q ∈ kyL_X9_placesTrouble, q ∈ L) (hb : False → b = false) {Q : Int32 → HS → Prop} {S0 S : HS} (h : P_X9_placesTrouble_37 Q S) (K : K9 b L S0 S) : P_X9_placesTrouble_37 (fun r T => Q r T ∧ K9 b L S0 T) S := by
  delta P_X9_placesTrouble_37 at h ⊢
  exact ky_X9_placesTrouble_38 hU hL hb h K
set_option maxRecDepth 20000 in
set_option maxHeartbeats 1000000 in
theorem ky_X9_placesTrouble_0 {b : Bool} {L : List (Nat × Nat)} (hU : ∀ q ∈ L, q ∈ nyT) (hL : ∀ q ∈ kyL_X9_placesTrouble, q ∈ L) (hb : False → b = false) {Q : Int32 → HS → Prop} {v0 : Nat} {v1 : Int32} {v2 : Int32} {v3 : Int32} {S0 S : HS} (h : P_X9_placesTrouble_0 Q v0 v1 v2 v3 S) (K : K9 b L S0 S) : P_X9_placesTrouble_0 (fun r T => Q r T ∧ K9 b L S0 T) v0 v1 v2 v3 S := by
  delta P_X9_placesTrouble_0 at h ⊢
  obtain ⟨c1, h⟩ := h
  refine ⟨c1, ?_⟩
  obtain ⟨b2, e3, h⟩ := h
  refine ⟨b2, e3, ?_⟩
  obtain ⟨c4, h⟩ := h
  refine ⟨c4, ?_⟩
  refine cm_X8_hasWalker (ky_X8_hasWalker (b := b) hU (fun q hq => hL q ((by decide : ∀ q ∈ kyL_X8_hasWalker, q ∈ kyL_X9_placesTrouble) q hq)) (fun z => z.elim) h) h (fun x5 x6 p9 h g7 g8 => ?_)
  have h := h g7 g8
  have K := k9_tr K p9.2
  refine ⟨?_, ?_⟩
  · intro c10
    have h := h.1 c10
    exact ky_X9_placesTrouble_37 hU hL hb h K
  · intro c11
    have h := h.2 c11
    obtain ⟨b12, e13, h⟩ := h
    refine ⟨b12, e13, ?_⟩
    obtain ⟨c14, h⟩ := h
    refine ⟨c14, ?_⟩
    refine cm_X8_hasPlace (ky_X8_hasPlace (b := b) hU (fun q hq => hL q ((by decide : ∀ q ∈ kyL_X8_hasPlace, q ∈ kyL_X9_placesTrouble) q hq)) (fun z => z.elim) h) h (fun x15 x16 p19 h g17 g18 => ?_)
    have h := h g17 g18
    have K := k9_tr K p19.2
    refine ⟨?_, ?_⟩
    · intro c20
      have h := h.1 c20
      exact ky_X9_placesTrouble_37 hU hL hb h K
    · intro c21
      have h := h.2 c21
      obtain ⟨b22, e23, h⟩ := h
      refine ⟨b22, e23, ?_⟩
      obtain ⟨c24, h⟩ := h
      refine ⟨c24, ?_⟩
      refine cm_X8_hasPlace (ky_X8_hasPlace (b := b) hU (fun q hq => hL q ((by decide : ∀ q ∈ kyL_X8_hasPlace, q ∈ kyL_X9_placesTrouble) q hq)) (fun z => z.elim) h) h (fun x25 x26 p29 h g27 g28 => ?_)
      have h := h g27 g28
      have K := k9_tr K p29.2
      refine ⟨?_, ?_⟩
      · intro c30
        have h := h.1 c30
        exact ky_X9_placesTrouble_37 hU hL hb h K
      · intro c31
        have h := h.2 c31
        exact ky_X9_placesTrouble_38 hU hL hb h K
theorem ky_X9_placesTrouble {b : Bool} {L : List (Nat × Nat)} (hU : ∀ q ∈ L, q ∈ nyT) (hL : ∀ q ∈ kyL_X9_placesTrouble, q ∈ L) (hb : False → b = false) {Q : Int32 → HS → Prop} {v0 : Nat} {v1 : Int32} {v2 : Int32} {v3 : Int32} {S : HS} (h : P_X9_placesTrouble v0 v1 v2 v3 Q S) : P_X9_placesTrouble v0 v1 v2 v3 (fun r T => Q r T ∧ K9 b L S T) S := ky_X9_placesTrouble_0 hU hL hb h (k9_rf b L S)
abbrev kyL_X9_wayTrouble : List (Nat × Nat) := [(1, 0), (1, 1), (7, 1), (7, 7)]
set_option maxRecDepth 20000 in
set_option maxHeartbeats 1000000 in
theorem ky_X9_wayTrouble_0 {b : Bool} {L : List (Nat × Nat)} (hU : ∀ q ∈ L, q ∈ nyT) (hL : ∀ q ∈ kyL_X9_wayTrouble, q ∈ L) (hb : False → b = false) {Q : Int32 → HS → Prop} {v0 : Nat} {v1 : Int32} {v2 : Int32} {v3 : Int32} {v4 : Int32} {v5 : Int32} {S0 S : HS} (h : P_X9_wayTrouble_0 Q v0 v1 v2 v3 v4 v5 S) (K : K9 b L S0 S) : P_X9_wayTrouble_0 (fun r T => Q r T ∧ K9 b L S0 T) v0 v1 v2 v3 v4 v5 S := by
  delta P_X9_wayTrouble_0 at h ⊢
  obtain ⟨c1, h⟩ := h
  refine ⟨c1, ?_⟩
  refine cm_X9_placesTrouble (ky_X9_placesTrouble (b := b) hU (fun q hq => hL q ((by decide : ∀ q ∈ kyL_X9_placesTrouble, q ∈ kyL_X9_wayTrouble) q hq)) (fun z => z.elim) h) h (fun x2 x3 p5 h g4 => ?_)
  have h := h g4
  have K := k9_tr K p5.2
  refine ⟨?_, ?_⟩
  · intro c6
    have h := h.1 c6
    refine cm_X9_isTill (ky_X9_isTill (b := b) hU (fun q hq => hL q ((by decide : ∀ q ∈ kyL_X9_isTill, q ∈ kyL_X9_wayTrouble) q hq)) (fun z => z.elim) h) h (fun x7 x8 p11 h g9 g10 => ?_)
    have h := h g9 g10
    have K := k9_tr K p11.2
    refine ⟨?_, ?_⟩
    · intro c12
      have h := h.1 c12
      exact ⟨h, K⟩
    · intro c13
      have h := h.2 c13
      refine ⟨?_, ?_⟩
      · intro c14
        have h := h.1 c14
        exact ⟨h, K⟩
      · intro c15
        have h := h.2 c15
        refine ⟨?_, ?_⟩
        · intro c16
          have h := h.1 c16
          obtain ⟨b17, e18, h⟩ := h
          refine ⟨b17, e18, ?_⟩
          obtain ⟨b19, e20, h⟩ := h
          refine ⟨b19, e20, ?_⟩
          obtain ⟨b21, e22, h⟩ := h
          refine ⟨b21, e22, ?_⟩
          obtain ⟨c23, h⟩ := h
          refine ⟨c23, ?_⟩
          refine cm_X7_reckon (ky_X7_reckon (b := b) hU (fun q hq => hL q ((by decide : ∀ q ∈ kyL_X7_reckon, q ∈ kyL_X9_wayTrouble) q hq)) (fun z => z.elim) h) h (fun x24 p26 h g25 => ?_)
          have h := h g25
          have K := k9_tr K p26.2
          obtain ⟨b27, e28, h⟩ := h
          refine ⟨b27, e28, ?_⟩
          obtain ⟨c29, h⟩ := h
          refine ⟨c29, ?_⟩
          refine cm_X7_isOpen (ky_X7_isOpen (b := b) hU (fun q hq => hL q ((by decide : ∀ q ∈ kyL_X7_isOpen, q ∈ kyL_X9_wayTrouble) q hq)) (fun z => z.elim) h) h (fun x30 x31 p34 h g32 g33 => ?_)
          have h := h g32 g33
          have K := k9_tr K p34.2
          refine ⟨?_, ?_⟩
          · intro c35
            have h := h.1 c35
            exact ⟨h, K⟩
          · intro c36
            have h := h.2 c36
            exact ⟨h, K⟩
        · intro c37
          have h := h.2 c37
          exact ⟨h, K⟩
  · intro c38
    have h := h.2 c38
    exact ⟨h, K⟩
theorem ky_X9_wayTrouble {b : Bool} {L : List (Nat × Nat)} (hU : ∀ q ∈ L, q ∈ nyT) (hL : ∀ q ∈ kyL_X9_wayTrouble, q ∈ L) (hb : False → b = false) {Q : Int32 → HS → Prop} {v0 : Nat} {v1 : Int32} {v2 : Int32} {v3 : Int32} {v4 : Int32} {v5 : Int32} {S : HS} (h : P_X9_wayTrouble v0 v1 v2 v3 v4 v5 Q S) : P_X9_wayTrouble v0 v1 v2 v3 v4 v5 (fun r T => Q r T ∧ K9 b L S T) S := ky_X9_wayTrouble_0 hU hL hb h (k9_rf b L S)
abbrev kyL_X9_least : List (Nat × Nat) := [(1, 0), (1, 1), (7, 1), (7, 7)]
set_option maxRecDepth 20000 in
set_option maxHeartbeats 1000000 in
theorem ky_X9_least_0 {b : Bool} {L : List (Nat × Nat)} (hU : ∀ q ∈ L, q ∈ nyT) (hL : ∀ q ∈ kyL_X9_least, q ∈ L) (hb : False → b = false) {Q : Int64 → HS → Prop} {v0 : Nat} {v1 : Int32} {v2 : Int32} {v3 : Int32} {v4 : Int32} {v5 : Int32} {v6 : Int32} {S0 S : HS} (h : P_X9_least_0 Q v0 v1 v2 v3 v4 v5 v6 S) (K : K9 b L S0 S) : P_X9_least_0 (fun r T => Q r T ∧ K9 b L S0 T) v0 v1 v2 v3 v4 v5 v6 S := by
  delta P_X9_least_0 at h ⊢
  obtain ⟨c1, h⟩ := h
  refine ⟨c1, ?_⟩
  refine cm_X9_wayTrouble (ky_X9_wayTrouble (b := b) hU (fun q hq => hL q ((by decide : ∀ q ∈ kyL_X9_wayTrouble, q ∈ kyL_X9_least) q hq)) (fun z => z.elim) h) h (fun x2 x3 p5 h g4 => ?_)
  have h := h g4
  have K := k9_tr K p5.2
  refine cm_X9_refusedBy (ky_X9_refusedBy (b := b) hU (fun q hq => hL q ((by decide : ∀ q ∈ kyL_X9_refusedBy, q ∈ kyL_X9_least) q hq)) (fun z => z.elim) h) h (fun x6 x7 p10 h g8 g9 => ?_)
  have h := h g8 g9
  have K := k9_tr K p10.2
  refine ⟨?_, ?_⟩
  · intro c11
    have h := h.1 c11
    obtain ⟨b12, e13, h⟩ := h
    refine ⟨b12, e13, ?_⟩
    obtain ⟨c14, h⟩ := h
    refine ⟨c14, ?_⟩
    refine cm_X7_meanFrom (ky_X7_meanFrom (b := b) hU (fun q hq => hL q ((by decide : ∀ q ∈ kyL_X7_meanFrom, q ∈ kyL_X9_least) q hq)) (fun z => z.elim) h) h (fun x15 x16 p18 h g17 => ?_)
    have h := h g17
    have K := k9_tr K p18.2
    refine cm_X9_fraction (ky_X9_fraction (b := b) hU (fun q hq => hL q ((by decide : ∀ q ∈ kyL_X9_fraction, q ∈ kyL_X9_least) q hq)) (fun z => z.elim) h) h (fun x19 x20 p22 h g21 => ?_)
    have h := h g21
    have K := k9_tr K p22.2
    exact ⟨h, K⟩
  · intro c23
    have h := h.2 c23
    exact ⟨h, K⟩
theorem ky_X9_least {b : Bool} {L : List (Nat × Nat)} (hU : ∀ q ∈ L, q ∈ nyT) (hL : ∀ q ∈ kyL_X9_least, q ∈ L) (hb : False → b = false) {Q : Int64 → HS → Prop} {v0 : Nat} {v1 : Int32} {v2 : Int32} {v3 : Int32} {v4 : Int32} {v5 : Int32} {v6 : Int32} {S : HS} (h : P_X9_least v0 v1 v2 v3 v4 v5 v6 Q S) : P_X9_least v0 v1 v2 v3 v4 v5 v6 (fun r T => Q r T ∧ K9 b L S T) S := ky_X9_least_0 hU hL hb h (k9_rf b L S)
abbrev kyL_X9_lee : List (Nat × Nat) := [(1, 0), (1, 1)]
set_option maxRecDepth 20000 in
set_option maxHeartbeats 1000000 in
theorem ky_X9_lee_0 {b : Bool} {L : List (Nat × Nat)} (hU : ∀ q ∈ L, q ∈ nyT) (hL : ∀ q ∈ kyL_X9_lee, q ∈ L) (hb : False → b = false) {Q : Int64 → HS → Prop} {v0 : Nat} {v1 : Int32} {v2 : Int32} {v3 : Int32} {v4 : Int32} {v5 : Int32} {v6 : Int32} {v7 : Int32} {S0 S : HS} (h : P_X9_lee_0 Q v0 v1 v2 v3 v4 v5 v6 v7 S) (K : K9 b L S0 S) : P_X9_lee_0 (fun r T => Q r T ∧ K9 b L S0 T) v0 v1 v2 v3 v4 v5 v6 v7 S := by
  delta P_X9_lee_0 at h ⊢
  obtain ⟨c1, h⟩ := h
  refine ⟨c1, ?_⟩
  refine cm_X9_leeTrouble (ky_X9_leeTrouble (b := b) hU (fun q hq => hL q ((by decide : ∀ q ∈ kyL_X9_leeTrouble, q ∈ kyL_X9_lee) q hq)) (fun z => z.elim) h) h (fun x2 x3 p5 h g4 => ?_)
  have h := h g4
  have K := k9_tr K p5.2
  refine cm_X9_refusedBy (ky_X9_refusedBy (b := b) hU (fun q hq => hL q ((by decide : ∀ q ∈ kyL_X9_refusedBy, q ∈ kyL_X9_lee) q hq)) (fun z => z.elim) h) h (fun x6 x7 p10 h g8 g9 => ?_)
  have h := h g8 g9
  have K := k9_tr K p10.2
  refine ⟨?_, ?_⟩
  · intro c11
    have h := h.1 c11
    obtain ⟨b12, e13, h⟩ := h
    refine ⟨b12, e13, ?_⟩
    obtain ⟨b14, e15, h⟩ := h
    refine ⟨b14, e15, ?_⟩
    obtain ⟨c16, h⟩ := h
    refine ⟨c16, ?_⟩
    obtain ⟨b17, e18, h⟩ := h
    refine ⟨b17, e18, ?_⟩
    obtain ⟨c19, h⟩ := h
    refine ⟨c19, ?_⟩
    obtain ⟨c20, h⟩ := h
    refine ⟨c20, ?_⟩
    obtain ⟨b21, e22, h⟩ := h
    refine ⟨b21, e22, ?_⟩
    obtain ⟨b23, e24, h⟩ := h
    refine ⟨b23, e24, ?_⟩
    obtain ⟨c25, h⟩ := h
    refine ⟨c25, ?_⟩
    obtain ⟨b26, e27, h⟩ := h
    refine ⟨b26, e27, ?_⟩
    obtain ⟨c28, h⟩ := h
    refine ⟨c28, ?_⟩
    obtain ⟨c29, h⟩ := h
    refine ⟨c29, ?_⟩
    obtain ⟨b30, e31, h⟩ := h
    refine ⟨b30, e31, ?_⟩
    obtain ⟨c32, h⟩ := h
    refine ⟨c32, ?_⟩
    refine cm_X1_lay (ky_X1_lay (b := b) hU (fun q hq => hL q ((by decide : ∀ q ∈ kyL_X1_lay, q ∈ kyL_X9_lee) q hq)) (fun z => z.elim) h) h (fun x33 p35 h g34 => ?_)
    have h := h g34
    have K := k9_tr K p35.2
    obtain ⟨b36, e37, h⟩ := h
    refine ⟨b36, e37, ?_⟩
    obtain ⟨b38, e39, h⟩ := h
    refine ⟨b38, e39, ?_⟩
    obtain ⟨c40, h⟩ := h
    refine ⟨c40, ?_⟩
    obtain ⟨b41, e42, h⟩ := h
    refine ⟨b41, e42, ?_⟩
    obtain ⟨c43, h⟩ := h
    refine ⟨c43, ?_⟩
    obtain ⟨c44, h⟩ := h
    refine ⟨c44, ?_⟩
    obtain ⟨b45, e46, h⟩ := h
    refine ⟨b45, e46, ?_⟩
    obtain ⟨b47, e48, h⟩ := h
    refine ⟨b47, e48, ?_⟩
    obtain ⟨c49, h⟩ := h
    refine ⟨c49, ?_⟩
    obtain ⟨b50, e51, h⟩ := h
    refine ⟨b50, e51, ?_⟩
    obtain ⟨c52, h⟩ := h
    refine ⟨c52, ?_⟩
    obtain ⟨c53, h⟩ := h
    refine ⟨c53, ?_⟩
    obtain ⟨b54, e55, h⟩ := h
    refine ⟨b54, e55, ?_⟩
    obtain ⟨c56, h⟩ := h
    refine ⟨c56, ?_⟩
    refine cm_X1_wetInLee (ky_X1_wetInLee (b := b) hU (fun q hq => hL q ((by decide : ∀ q ∈ kyL_X1_wetInLee, q ∈ kyL_X9_lee) q hq)) (fun z => z.elim) h) h (fun x57 x58 p60 h g59 => ?_)
    have h := h g59
    have K := k9_tr K p60.2
    refine cm_X9_fraction (ky_X9_fraction (b := b) hU (fun q hq => hL q ((by decide : ∀ q ∈ kyL_X9_fraction, q ∈ kyL_X9_lee) q hq)) (fun z => z.elim) h) h (fun x61 x62 p64 h g63 => ?_)
    have h := h g63
    have K := k9_tr K p64.2
    exact ⟨h, K⟩
  · intro c65
    have h := h.2 c65
    exact ⟨h, K⟩
theorem ky_X9_lee {b : Bool} {L : List (Nat × Nat)} (hU : ∀ q ∈ L, q ∈ nyT) (hL : ∀ q ∈ kyL_X9_lee, q ∈ L) (hb : False → b = false) {Q : Int64 → HS → Prop} {v0 : Nat} {v1 : Int32} {v2 : Int32} {v3 : Int32} {v4 : Int32} {v5 : Int32} {v6 : Int32} {v7 : Int32} {S : HS} (h : P_X9_lee v0 v1 v2 v3 v4 v5 v6 v7 Q S) : P_X9_lee v0 v1 v2 v3 v4 v5 v6 v7 (fun r T => Q r T ∧ K9 b L S T) S := ky_X9_lee_0 hU hL hb h (k9_rf b L S)
abbrev kyL_X9_lies : List (Nat × Nat) := [(1, 0), (1, 1)]
set_option maxRecDepth 20000 in
set_option maxHeartbeats 1000000 in
theorem ky_X9_lies_54 {b : Bool} {L : List (Nat × Nat)} (hU : ∀ q ∈ L, q ∈ nyT) (hL : ∀ q ∈ kyL_X9_lies, q ∈ L) (hb : False → b = false) {Q : Int32 → HS → Prop} {X20 X20_2 : Nat → Int32 → Int32 → HS → Prop} {v0 : Nat} {v1 : Int32} {v2 : Int32} {S0 S : HS} (h : P_X9_lies_54 Q X20 v0 v1 v2 S) (K : K9 b L S0 S) (hX20 : ∀ (u0 : Nat) (u1 : Int32) (u2 : Int32) (u3 : HS), X20 u0 u1 u2 u3 → K9 b L S0 u3 → X20_2 u0 u1 u2 u3) : P_X9_lies_54 (fun r T => Q r T ∧ K9 b L S0 T) X20_2 v0 v1 v2 S := by
  delta P_X9_lies_54 at h ⊢
  intro x2 e1
  have h := h x2 e1
  exact hX20 _ _ _ _ h K
set_option maxRecDepth 20000 in
set_option maxHeartbeats 1000000 in
theorem kyB_X9_lies_20 {b : Bool} {L : List (Nat × Nat)} (hU : ∀ q ∈ L, q ∈ nyT) (hL : ∀ q ∈ kyL_X9_lies, q ∈ L) (hb : False → b = false) {Q : Int32 → HS → Prop} {X20 X20_2 : Nat → Int32 → Int32 → HS → Prop} {v0 : Nat} {v1 : Int32} {v2 : Int32} {S0 S : HS} (h : B_X9_lies_20 Q X20 v0 v1 v2 S) (K : K9 b L S0 S) (hX20 : ∀ (u0 : Nat) (u1 : Int32) (u2 : Int32) (u3 : HS), X20 u0 u1 u2 u3 → K9 b L S0 u3 → X20_2 u0 u1 u2 u3) : B_X9_lies_20 (fun r T => Q r T ∧ K9 b L S0 T) X20_2 v0 v1 v2 S := by
  delta B_X9_lies_20 at h ⊢
  obtain ⟨c1, h⟩ := h
  refine ⟨c1, ?_⟩
  obtain ⟨b2, e3, h⟩ := h
  refine ⟨b2, e3, ?_⟩
  obtain ⟨c4, h⟩ := h
  refine ⟨c4, ?_⟩
  intro x6 e5
  have h := h x6 e5
  refine ⟨?_, ?_⟩
  · intro c7
    have h := h.1 c7
    refine cm_X9_grant (ky_X9_grant (b := b) hU (fun q hq => hL q ((by decide : ∀ q ∈ kyL_X9_grant, q ∈ kyL_X9_lies) q hq)) (fun z => z.elim) h) h (fun x8 x9 p11 h g10 => ?_)
    have h := h g10
    have K := k9_tr K p11.2
    exact ⟨h, K⟩
  · intro c12
    have h := h.2 c12
    obtain ⟨b13, e14, h⟩ := h
    refine ⟨b13, e14, ?_⟩
    obtain ⟨b15, e16, h⟩ := h
    refine ⟨b15, e16, ?_⟩
    obtain ⟨c17, h⟩ := h
    refine ⟨c17, ?_⟩
    refine cm_X1_findFit (ky_X1_findFit (b := b) hU (fun q hq => hL q ((by decide : ∀ q ∈ kyL_X1_findFit, q ∈ kyL_X9_lies) q hq)) (fun z => z.elim) h) h (fun x18 x19 p21 h g20 => ?_)
    have h := h g20
    have K := k9_tr K p21.2
    refine ⟨?_, ?_⟩
    · intro c22
      have h := h.1 c22
      exact ky_X9_lies_54 hU hL hb h K hX20
    · intro c23
      have h := h.2 c23
      intro x25 e24
      have h := h x25 e24
      exact ky_X9_lies_54 hU hL hb h K hX20
theorem ky_X9_lies_20 {b : Bool} {L : List (Nat × Nat)} (hU : ∀ q ∈ L, q ∈ nyT) (hL : ∀ q ∈ kyL_X9_lies, q ∈ L) (hb : False → b = false) {Q : Int32 → HS → Prop} {v0 : Nat} {v1 : Int32} {v2 : Int32} {S0 S : HS} (h : P_X9_lies_20 Q v0 v1 v2 S) (K : K9 b L S0 S) : P_X9_lies_20 (fun r T => Q r T ∧ K9 b L S0 T) v0 v1 v2 S := h (fun v0 v1 v2 S => K9 b L S0 S → P_X9_lies_20 (fun r T => Q r T ∧ K9 b L S0 T) v0 v1 v2 S) (fun v0 v1 v2 S hB K => fd_X9_lies_20 (kyB_X9_lies_20 hU hL hb hB K (fun _ _ _ _ hx K => hx K))) K
set_option maxRecDepth 20000 in
set_option maxHeartbeats 1000000 in
theorem ky_X9_lies_0 {b : Bool} {L : List (Nat × Nat)} (hU : ∀ q ∈ L, q ∈ nyT) (hL : ∀ q ∈ kyL_X9_lies, q ∈ L) (hb : False → b = false) {Q : Int32 → HS → Prop} {v0 : Nat} {S0 S : HS} (h : P_X9_lies_0 Q v0 S) (K : K9 b L S0 S) : P_X9_lies_0 (fun r T => Q r T ∧ K9 b L S0 T) v0 S := by
  delta P_X9_lies_0 at h ⊢
  obtain ⟨c1, h⟩ := h
  refine ⟨c1, ?_⟩
  obtain ⟨b2, e3, h⟩ := h
  refine ⟨b2, e3, ?_⟩
  obtain ⟨c4, h⟩ := h
  refine ⟨c4, ?_⟩
  refine cm_X8_isTold (ky_X8_isTold (b := b) hU (fun q hq => hL q ((by decide : ∀ q ∈ kyL_X8_isTold, q ∈ kyL_X9_lies) q hq)) (fun z => z.elim) h) h (fun x5 x6 p9 h g7 g8 => ?_)
  have h := h g7 g8
  have K := k9_tr K p9.2
  refine ⟨?_, ?_⟩
  · intro c10
    have h := h.1 c10
    exact ky_X9_lies_20 hU hL hb h K
  · intro c11
    have h := h.2 c11
    refine cm_X9_refuse (ky_X9_refuse (b := b) hU (fun q hq => hL q ((by decide : ∀ q ∈ kyL_X9_refuse, q ∈ kyL_X9_lies) q hq)) (fun z => z.elim) h) h (fun x12 x13 p15 h g14 => ?_)
    have h := h g14
    have K := k9_tr K p15.2
    exact ⟨h, K⟩
theorem ky_X9_lies {b : Bool} {L : List (Nat × Nat)} (hU : ∀ q ∈ L, q ∈ nyT) (hL : ∀ q ∈ kyL_X9_lies, q ∈ L) (hb : False → b = false) {Q : Int32 → HS → Prop} {v0 : Nat} {S : HS} (h : P_X9_lies v0 Q S) : P_X9_lies v0 (fun r T => Q r T ∧ K9 b L S T) S := ky_X9_lies_0 hU hL hb h (k9_rf b L S)
abbrev kyL_X9_mark : List (Nat × Nat) := [(2, 2)]
set_option maxRecDepth 20000 in
set_option maxHeartbeats 1000000 in
theorem ky_X9_mark_0 {b : Bool} {L : List (Nat × Nat)} (hU : ∀ q ∈ L, q ∈ nyT) (hL : ∀ q ∈ kyL_X9_mark, q ∈ L) (hb : False → b = false) {Q : Int32 → HS → Prop} {v0 : Nat} {S0 S : HS} (h : P_X9_mark_0 Q v0 S) (K : K9 b L S0 S) : P_X9_mark_0 (fun r T => Q r T ∧ K9 b L S0 T) v0 S := by
  delta P_X9_mark_0 at h ⊢
  obtain ⟨c1, h⟩ := h
  refine ⟨c1, ?_⟩
  obtain ⟨b2, e3, h⟩ := h
  refine ⟨b2, e3, ?_⟩
  obtain ⟨c4, h⟩ := h
  refine ⟨c4, ?_⟩
  refine cm_X0_isOn (ky_X0_isOn (b := b) hU (fun q hq => hL q ((by decide : ∀ q ∈ kyL_X0_isOn, q ∈ kyL_X9_mark) q hq)) (fun z => z.elim) h) h (fun x5 x6 p9 h g7 g8 => ?_)
  have h := h g7 g8
  have K := k9_tr K p9.2
  refine ⟨?_, ?_⟩
  · intro c10
    have h := h.1 c10
    obtain ⟨b11, e12, h⟩ := h
    refine ⟨b11, e12, ?_⟩
    obtain ⟨c13, h⟩ := h
    refine ⟨c13, ?_⟩
    refine cm_X0_setMark (ky_X0_setMark (b := b) hU (fun q hq => hL q ((by decide : ∀ q ∈ kyL_X0_setMark, q ∈ kyL_X9_mark) q hq)) (fun z => z.elim) h) h (fun x14 x15 p17 h g16 => ?_)
    have h := h g16
    have K := k9_tr K p17.2
    refine ⟨?_, ?_⟩
    · intro c18
      have h := h.1 c18
      refine cm_X9_grant (ky_X9_grant (b := b) hU (fun q hq => hL q ((by decide : ∀ q ∈ kyL_X9_grant, q ∈ kyL_X9_mark) q hq)) (fun z => z.elim) h) h (fun x19 x20 p22 h g21 => ?_)
      have h := h g21
      have K := k9_tr K p22.2
      exact ⟨h, K⟩
    · intro c23
      have h := h.2 c23
      refine cm_X9_refuse (ky_X9_refuse (b := b) hU (fun q hq => hL q ((by decide : ∀ q ∈ kyL_X9_refuse, q ∈ kyL_X9_mark) q hq)) (fun z => z.elim) h) h (fun x24 x25 p27 h g26 => ?_)
      have h := h g26
      have K := k9_tr K p27.2
      exact ⟨h, K⟩
  · intro c28
    have h := h.2 c28
    refine cm_X9_refuse (ky_X9_refuse (b := b) hU (fun q hq => hL q ((by decide : ∀ q ∈ kyL_X9_refuse, q ∈ kyL_X9_mark) q hq)) (fun z => z.elim) h) h (fun x29 x30 p32 h g31 => ?_)
    have h := h g31
    have K := k9_tr K p32.2
    exact ⟨h, K⟩
theorem ky_X9_mark {b : Bool} {L : List (Nat × Nat)} (hU : ∀ q ∈ L, q ∈ nyT) (hL : ∀ q ∈ kyL_X9_mark, q ∈ L) (hb : False → b = false) {Q : Int32 → HS → Prop} {v0 : Nat} {S : HS} (h : P_X9_mark v0 Q S) : P_X9_mark v0 (fun r T => Q r T ∧ K9 b L S T) S := ky_X9_mark_0 hU hL hb h (k9_rf b L S)
abbrev kyL_X9_mean : List (Nat × Nat) := [(1, 0), (1, 1)]
set_option maxRecDepth 20000 in
set_option maxHeartbeats 1000000 in
theorem ky_X9_mean_0 {b : Bool} {L : List (Nat × Nat)} (hU : ∀ q ∈ L, q ∈ nyT) (hL : ∀ q ∈ kyL_X9_mean, q ∈ L) (hb : False → b = false) {Q : Int64 → HS → Prop} {v0 : Nat} {v1 : Int32} {v2 : Int32} {v3 : Int32} {v4 : Int32} {v5 : Int32} {v6 : Int32} {S0 S : HS} (h : P_X9_mean_0 Q v0 v1 v2 v3 v4 v5 v6 S) (K : K9 b L S0 S) : P_X9_mean_0 (fun r T => Q r T ∧ K9 b L S0 T) v0 v1 v2 v3 v4 v5 v6 S := by
  delta P_X9_mean_0 at h ⊢
  obtain ⟨c1, h⟩ := h
  refine ⟨c1, ?_⟩
  refine cm_X9_legTrouble (ky_X9_legTrouble (b := b) hU (fun q hq => hL q ((by decide : ∀ q ∈ kyL_X9_legTrouble, q ∈ kyL_X9_mean) q hq)) (fun z => z.elim) h) h (fun x2 x3 p5 h g4 => ?_)
  have h := h g4
  have K := k9_tr K p5.2
  refine cm_X9_refusedBy (ky_X9_refusedBy (b := b) hU (fun q hq => hL q ((by decide : ∀ q ∈ kyL_X9_refusedBy, q ∈ kyL_X9_mean) q hq)) (fun z => z.elim) h) h (fun x6 x7 p10 h g8 g9 => ?_)
  have h := h g8 g9
  have K := k9_tr K p10.2
  refine ⟨?_, ?_⟩
  · intro c11
    have h := h.1 c11
    obtain ⟨b12, e13, h⟩ := h
    refine ⟨b12, e13, ?_⟩
    obtain ⟨b14, e15, h⟩ := h
    refine ⟨b14, e15, ?_⟩
    obtain ⟨c16, h⟩ := h
    refine ⟨c16, ?_⟩
    obtain ⟨b17, e18, h⟩ := h
    refine ⟨b17, e18, ?_⟩
    obtain ⟨c19, h⟩ := h
    refine ⟨c19, ?_⟩
    obtain ⟨c20, h⟩ := h
    refine ⟨c20, ?_⟩
    obtain ⟨b21, e22, h⟩ := h
    refine ⟨b21, e22, ?_⟩
    obtain ⟨b23, e24, h⟩ := h
    refine ⟨b23, e24, ?_⟩
    obtain ⟨c25, h⟩ := h
    refine ⟨c25, ?_⟩
    obtain ⟨b26, e27, h⟩ := h
    refine ⟨b26, e27, ?_⟩
    obtain ⟨c28, h⟩ := h
    refine ⟨c28, ?_⟩
    obtain ⟨c29, h⟩ := h
    refine ⟨c29, ?_⟩
    obtain ⟨b30, e31, h⟩ := h
    refine ⟨b30, e31, ?_⟩
    obtain ⟨b32, e33, h⟩ := h
    refine ⟨b32, e33, ?_⟩
    obtain ⟨c34, h⟩ := h
    refine ⟨c34, ?_⟩
    obtain ⟨b35, e36, h⟩ := h
    refine ⟨b35, e36, ?_⟩
    obtain ⟨c37, h⟩ := h
    refine ⟨c37, ?_⟩
    obtain ⟨c38, h⟩ := h
    refine ⟨c38, ?_⟩
    obtain ⟨b39, e40, h⟩ := h
    refine ⟨b39, e40, ?_⟩
    obtain ⟨c41, h⟩ := h
    refine ⟨c41, ?_⟩
    refine cm_X1_wetOf (ky_X1_wetOf (b := b) hU (fun q hq => hL q ((by decide : ∀ q ∈ kyL_X1_wetOf, q ∈ kyL_X9_mean) q hq)) (fun z => z.elim) h) h (fun x42 x43 p45 h g44 => ?_)
    have h := h g44
    have K := k9_tr K p45.2
    obtain ⟨b46, e47, h⟩ := h
    refine ⟨b46, e47, ?_⟩
    obtain ⟨c48, h⟩ := h
    refine ⟨c48, ?_⟩
    obtain ⟨b49, e50, h⟩ := h
    refine ⟨b49, e50, ?_⟩
    obtain ⟨c51, h⟩ := h
    refine ⟨c51, ?_⟩
    obtain ⟨c52, h⟩ := h
    refine ⟨c52, ?_⟩
    obtain ⟨b53, e54, h⟩ := h
    refine ⟨b53, e54, ?_⟩
    obtain ⟨c55, h⟩ := h
    refine ⟨c55, ?_⟩
    intro x57 e56
    have h := h x57 e56
    refine cm_X9_fraction (ky_X9_fraction (b := b) hU (fun q hq => hL q ((by decide : ∀ q ∈ kyL_X9_fraction, q ∈ kyL_X9_mean) q hq)) (fun z => z.elim) h) h (fun x58 x59 p61 h g60 => ?_)
    have h := h g60
    have K := k9_tr K p61.2
    exact ⟨h, K⟩
  · intro c62
    have h := h.2 c62
    exact ⟨h, K⟩
theorem ky_X9_mean {b : Bool} {L : List (Nat × Nat)} (hU : ∀ q ∈ L, q ∈ nyT) (hL : ∀ q ∈ kyL_X9_mean, q ∈ L) (hb : False → b = false) {Q : Int64 → HS → Prop} {v0 : Nat} {v1 : Int32} {v2 : Int32} {v3 : Int32} {v4 : Int32} {v5 : Int32} {v6 : Int32} {S : HS} (h : P_X9_mean v0 v1 v2 v3 v4 v5 v6 Q S) : P_X9_mean v0 v1 v2 v3 v4 v5 v6 (fun r T => Q r T ∧ K9 b L S T) S := ky_X9_mean_0 hU hL hb h (k9_rf b L S)
abbrev kyL_X9_minutes : List (Nat × Nat) := []
set_option maxRecDepth 20000 in
set_option maxHeartbeats 1000000 in
theorem ky_X9_minutes_22 {b : Bool} {L : List (Nat × Nat)} (hU : ∀ q ∈ L, q ∈ nyT) (hL : ∀ q ∈ kyL_X9_minutes, q ∈ L) (hb : False → b = false) {Q : Int32 → HS → Prop} {v0 : Nat} {S0 S : HS} (h : P_X9_minutes_22 Q v0 S) (K : K9 b L S0 S) : P_X9_minutes_22 (fun r T => Q r T ∧ K9 b L S0 T) v0 S := by
  delta P_X9_minutes_22 at h ⊢
  obtain ⟨c1, h⟩ := h
  refine ⟨c1, ?_⟩
  refine cm_X9_refuse (ky_X9_refuse (b := b) hU (fun q hq => hL q ((by decide : ∀ q ∈ kyL_X9_refuse, q ∈ kyL_X9_minutes) q hq)) (fun z => z.elim) h) h (fun x2 x3 p5 h g4 => ?_)
  have h := h g4
  have K := k9_tr K p5.2
  exact ⟨h, K⟩
set_option maxRecDepth 20000 in
set_option maxHeartbeats 1000000 in
theorem ky_X9_minutes_0 {b : Bool} {L : List (Nat × Nat)} (hU : ∀ q ∈ L, q ∈ nyT) (hL : ∀ q ∈ kyL_X9_minutes, q ∈ L) (hb : False → b = false) {Q : Int32 → HS → Prop} {v0 : Nat} {v1 : Int32} {v2 : Int32} {v3 : Int32} {S0 S : HS} (h : P_X9_minutes_0 Q v0 v1 v2 v3 S) (K : K9 b L S0 S) : P_X9_minutes_0 (fun r T => Q r T ∧ K9 b L S0 T) v0 v1 v2 v3 S := by
  delta P_X9_minutes_0 at h ⊢
  obtain ⟨c1, h⟩ := h
  refine ⟨c1, ?_⟩
  obtain ⟨b2, e3, h⟩ := h
  refine ⟨b2, e3, ?_⟩
  obtain ⟨c4, h⟩ := h
  refine ⟨c4, ?_⟩
  refine cm_X8_hasWalker (ky_X8_hasWalker (b := b) hU (fun q hq => hL q ((by decide : ∀ q ∈ kyL_X8_hasWalker, q ∈ kyL_X9_minutes) q hq)) (fun z => z.elim) h) h (fun x5 x6 p9 h g7 g8 => ?_)
  have h := h g7 g8
  have K := k9_tr K p9.2
  refine ⟨?_, ?_⟩
  · intro c10
    have h := h.1 c10
    exact ky_X9_minutes_22 hU hL hb h K
  · intro c11
    have h := h.2 c11
    obtain ⟨b12, e13, h⟩ := h
    refine ⟨b12, e13, ?_⟩
    obtain ⟨c14, h⟩ := h
    refine ⟨c14, ?_⟩
    refine cm_X8_hasRoad (ky_X8_hasRoad (b := b) hU (fun q hq => hL q ((by decide : ∀ q ∈ kyL_X8_hasRoad, q ∈ kyL_X9_minutes) q hq)) (fun z => z.elim) h) h (fun x15 x16 p19 h g17 g18 => ?_)
    have h := h g17 g18
    have K := k9_tr K p19.2
    refine ⟨?_, ?_⟩
    · intro c20
      have h := h.1 c20
      obtain ⟨b21, e22, h⟩ := h
      refine ⟨b21, e22, ?_⟩
      obtain ⟨c23, h⟩ := h
      refine ⟨c23, ?_⟩
      obtain ⟨b24, e25, h⟩ := h
      refine ⟨b24, e25, ?_⟩
      obtain ⟨c26, h⟩ := h
      refine ⟨c26, ?_⟩
      obtain ⟨c27, h⟩ := h
      refine ⟨c27, ?_⟩
      obtain ⟨b28, e29, h⟩ := h
      refine ⟨b28, e29, ?_⟩
      obtain ⟨c30, h⟩ := h
      refine ⟨c30, ?_⟩
      refine cm_X6_canGo (ky_X6_canGo (b := b) hU (fun q hq => hL q ((by decide : ∀ q ∈ kyL_X6_canGo, q ∈ kyL_X9_minutes) q hq)) (fun z => z.elim) h) h (fun x31 x32 p35 h g33 g34 => ?_)
      have h := h g33 g34
      have K := k9_tr K p35.2
      refine ⟨?_, ?_⟩
      · intro c36
        have h := h.1 c36
        obtain ⟨b37, e38, h⟩ := h
        refine ⟨b37, e38, ?_⟩
        obtain ⟨c39, h⟩ := h
        refine ⟨c39, ?_⟩
        obtain ⟨b40, e41, h⟩ := h
        refine ⟨b40, e41, ?_⟩
        obtain ⟨c42, h⟩ := h
        refine ⟨c42, ?_⟩
        obtain ⟨c43, h⟩ := h
        refine ⟨c43, ?_⟩
        obtain ⟨b44, e45, h⟩ := h
        refine ⟨b44, e45, ?_⟩
        obtain ⟨c46, h⟩ := h
        refine ⟨c46, ?_⟩
        refine cm_X5_minutesAt (ky_X5_minutesAt (b := b) hU (fun q hq => hL q ((by decide : ∀ q ∈ kyL_X5_minutesAt, q ∈ kyL_X9_minutes) q hq)) (fun z => z.elim) h) h (fun x47 x48 p50 h g49 => ?_)
        have h := h g49
        have K := k9_tr K p50.2
        refine cm_X9_grant (ky_X9_grant (b := b) hU (fun q hq => hL q ((by decide : ∀ q ∈ kyL_X9_grant, q ∈ kyL_X9_minutes) q hq)) (fun z => z.elim) h) h (fun x51 x52 p54 h g53 => ?_)
        have h := h g53
        have K := k9_tr K p54.2
        exact ⟨h, K⟩
      · intro c55
        have h := h.2 c55
        refine cm_X9_refuse (ky_X9_refuse (b := b) hU (fun q hq => hL q ((by decide : ∀ q ∈ kyL_X9_refuse, q ∈ kyL_X9_minutes) q hq)) (fun z => z.elim) h) h (fun x56 x57 p59 h g58 => ?_)
        have h := h g58
        have K := k9_tr K p59.2
        exact ⟨h, K⟩
    · intro c60
      have h := h.2 c60
      exact ky_X9_minutes_22 hU hL hb h K
theorem ky_X9_minutes {b : Bool} {L : List (Nat × Nat)} (hU : ∀ q ∈ L, q ∈ nyT) (hL : ∀ q ∈ kyL_X9_minutes, q ∈ L) (hb : False → b = false) {Q : Int32 → HS → Prop} {v0 : Nat} {v1 : Int32} {v2 : Int32} {v3 : Int32} {S : HS} (h : P_X9_minutes v0 v1 v2 v3 Q S) : P_X9_minutes v0 v1 v2 v3 (fun r T => Q r T ∧ K9 b L S T) S := ky_X9_minutes_0 hU hL hb h (k9_rf b L S)
abbrev kyL_X9_off : List (Nat × Nat) := [(1, 0), (1, 1), (7, 1), (7, 7)]
set_option maxRecDepth 20000 in
set_option maxHeartbeats 1000000 in
theorem ky_X9_off_128 {b : Bool} {L : List (Nat × Nat)} (hU : ∀ q ∈ L, q ∈ nyT) (hL : ∀ q ∈ kyL_X9_off, q ∈ L) (hb : False → b = false) {Q : Int32 → HS → Prop} {X62 X62_2 : Nat → Int32 → Int32 → Int32 → Int32 → HS → Prop} {v0 : Nat} {v2 : Int32} {v4 : Int32} {v6 : Int32} {v7 : Int32} {S0 S : HS} (h : P_X9_off_128 Q X62 v0 v2 v4 v6 v7 S) (K : K9 b L S0 S) (hX62 : ∀ (u0 : Nat) (u1 : Int32) (u2 : Int32) (u3 : Int32) (u4 : Int32) (u5 : HS), X62 u0 u1 u2 u3 u4 u5 → K9 b L S0 u5 → X62_2 u0 u1 u2 u3 u4 u5) : P_X9_off_128 (fun r T => Q r T ∧ K9 b L S0 T) X62_2 v0 v2 v4 v6 v7 S := by
  delta P_X9_off_128 at h ⊢
  intro x2 e1
  have h := h x2 e1
  exact hX62 _ _ _ _ _ _ h K
set_option maxRecDepth 20000 in
set_option maxHeartbeats 1000000 in
theorem ky_X9_off_104 {b : Bool} {L : List (Nat × Nat)} (hU : ∀ q ∈ L, q ∈ nyT) (hL : ∀ q ∈ kyL_X9_off, q ∈ L) (hb : False → b = false) {Q : Int32 → HS → Prop} {X62 X62_2 : Nat → Int32 → Int32 → Int32 → Int32 → HS → Prop} {v0 : Nat} {v2 : Int32} {v4 : Int32} {v6 : Int32} {v7 : Int32} {s0 : Int32} {S0 S : HS} (h : P_X9_off_104 Q X62 v0 v2 v4 v6 v7 s0 S) (K : K9 b L S0 S) (hX62 : ∀ (u0 : Nat) (u1 : Int32) (u2 : Int32) (u3 : Int32) (u4 : Int32) (u5 : HS), X62 u0 u1 u2 u3 u4 u5 → K9 b L S0 u5 → X62_2 u0 u1 u2 u3 u4 u5) : P_X9_off_104 (fun r T => Q r T ∧ K9 b L S0 T) X62_2 v0 v2 v4 v6 v7 s0 S := by
  delta P_X9_off_104 at h ⊢
  obtain ⟨c1, h⟩ := h
  refine ⟨c1, ?_⟩
  obtain ⟨b2, e3, h⟩ := h
  refine ⟨b2, e3, ?_⟩
  obtain ⟨c4, h⟩ := h
  refine ⟨c4, ?_⟩
  refine cm_X7_isOpen (ky_X7_isOpen (b := b) hU (fun q hq => hL q ((by decide : ∀ q ∈ kyL_X7_isOpen, q ∈ kyL_X9_off) q hq)) (fun z => z.elim) h) h (fun x5 x6 p9 h g7 g8 => ?_)
  have h := h g7 g8
  have K := k9_tr K p9.2
  refine ⟨?_, ?_⟩
  · intro c10
    have h := h.1 c10
    exact ky_X9_off_128 hU hL hb h K hX62
  · intro c11
    have h := h.2 c11
    refine ⟨?_, ?_⟩
    · intro c12
      have h := h.1 c12
      exact ky_X9_off_128 hU hL hb h K hX62
    · intro c13
      have h := h.2 c13
      exact ky_X9_off_128 hU hL hb h K hX62
set_option maxRecDepth 20000 in
set_option maxHeartbeats 1000000 in
theorem ky_X9_off_99 {b : Bool} {L : List (Nat × Nat)} (hU : ∀ q ∈ L, q ∈ nyT) (hL : ∀ q ∈ kyL_X9_off, q ∈ L) (hb : False → b = false) {Q : Int32 → HS → Prop} {X62 X62_2 : Nat → Int32 → Int32 → Int32 → Int32 → HS → Prop} {v0 : Nat} {v2 : Int32} {v4 : Int32} {v6 : Int32} {v7 : Int32} {S0 S : HS} (h : P_X9_off_99 Q X62 v0 v2 v4 v6 v7 S) (K : K9 b L S0 S) (hX62 : ∀ (u0 : Nat) (u1 : Int32) (u2 : Int32) (u3 : Int32) (u4 : Int32) (u5 : HS), X62 u0 u1 u2 u3 u4 u5 → K9 b L S0 u5 → X62_2 u0 u1 u2 u3 u4 u5) : P_X9_off_99 (fun r T => Q r T ∧ K9 b L S0 T) X62_2 v0 v2 v4 v6 v7 S := by
  delta P_X9_off_99 at h ⊢
  exact ky_X9_off_104 hU hL hb h K hX62
set_option maxRecDepth 20000 in
set_option maxHeartbeats 1000000 in
theorem kyB_X9_off_62 {b : Bool} {L : List (Nat × Nat)} (hU : ∀ q ∈ L, q ∈ nyT) (hL : ∀ q ∈ kyL_X9_off, q ∈ L) (hb : False → b = false) {Q : Int32 → HS → Prop} {X62 X62_2 : Nat → Int32 → Int32 → Int32 → Int32 → HS → Prop} {v0 : Nat} {v2 : Int32} {v4 : Int32} {v6 : Int32} {v7 : Int32} {S0 S : HS} (h : B_X9_off_62 Q X62 v0 v2 v4 v6 v7 S) (K : K9 b L S0 S) (hX62 : ∀ (u0 : Nat) (u1 : Int32) (u2 : Int32) (u3 : Int32) (u4 : Int32) (u5 : HS), X62 u0 u1 u2 u3 u4 u5 → K9 b L S0 u5 → X62_2 u0 u1 u2 u3 u4 u5) : B_X9_off_62 (fun r T => Q r T ∧ K9 b L S0 T) X62_2 v0 v2 v4 v6 v7 S := by
  delta B_X9_off_62 at h ⊢
  refine ⟨?_, ?_⟩
  · intro c1
    have h := h.1 c1
    refine ⟨?_, ?_⟩
    · intro c2
      have h := h.1 c2
      exact ⟨h, K⟩
    · intro c3
      have h := h.2 c3
      obtain ⟨c4, h⟩ := h
      refine ⟨c4, ?_⟩
      refine cm_X9_refuse (ky_X9_refuse (b := b) hU (fun q hq => hL q ((by decide : ∀ q ∈ kyL_X9_refuse, q ∈ kyL_X9_off) q hq)) (fun z => z.elim) h) h (fun x5 x6 p8 h g7 => ?_)
      have h := h g7
      have K := k9_tr K p8.2
      exact ⟨h, K⟩
  · intro c9
    have h := h.2 c9
    refine ⟨?_, ?_⟩
    · intro c10
      have h := h.1 c10
      exact ky_X9_off_99 hU hL hb h K hX62
    · intro c11
      have h := h.2 c11
      obtain ⟨c12, h⟩ := h
      refine ⟨c12, ?_⟩
      obtain ⟨b13, e14, h⟩ := h
      refine ⟨b13, e14, ?_⟩
      obtain ⟨c15, h⟩ := h
      refine ⟨c15, ?_⟩
      refine cm_X7_meanFrom (ky_X7_meanFrom (b := b) hU (fun q hq => hL q ((by decide : ∀ q ∈ kyL_X7_meanFrom, q ∈ kyL_X9_off) q hq)) (fun z => z.elim) h) h (fun x16 x17 p19 h g18 => ?_)
      have h := h g18
      have K := k9_tr K p19.2
      obtain ⟨b20, e21, h⟩ := h
      refine ⟨b20, e21, ?_⟩
      obtain ⟨c22, h⟩ := h
      refine ⟨c22, ?_⟩
      refine cm_X7_meanFrom (ky_X7_meanFrom (b := b) hU (fun q hq => hL q ((by decide : ∀ q ∈ kyL_X7_meanFrom, q ∈ kyL_X9_off) q hq)) (fun z => z.elim) h) h (fun x23 x24 p26 h g25 => ?_)
      have h := h g25
      have K := k9_tr K p26.2
      refine ⟨?_, ?_⟩
      · intro c27
        have h := h.1 c27
        exact ky_X9_off_104 hU hL hb h K hX62
      · intro c28
        have h := h.2 c28
        exact ky_X9_off_99 hU hL hb h K hX62
theorem ky_X9_off_62 {b : Bool} {L : List (Nat × Nat)} (hU : ∀ q ∈ L, q ∈ nyT) (hL : ∀ q ∈ kyL_X9_off, q ∈ L) (hb : False → b = false) {Q : Int32 → HS → Prop} {v0 : Nat} {v2 : Int32} {v4 : Int32} {v6 : Int32} {v7 : Int32} {S0 S : HS} (h : P_X9_off_62 Q v0 v2 v4 v6 v7 S) (K : K9 b L S0 S) : P_X9_off_62 (fun r T => Q r T ∧ K9 b L S0 T) v0 v2 v4 v6 v7 S := h (fun v0 v2 v4 v6 v7 S => K9 b L S0 S → P_X9_off_62 (fun r T => Q r T ∧ K9 b L S0 T) v0 v2 v4 v6 v7 S) (fun v0 v2 v4 v6 v7 S hB K => fd_X9_off_62 (kyB_X9_off_62 hU hL hb hB K (fun _ _ _ _ _ _ hx K => hx K))) K
set_option maxRecDepth 20000 in
set_option maxHeartbeats 1000000 in
theorem ky_X9_off_25 {b : Bool} {L : List (Nat × Nat)} (hU : ∀ q ∈ L, q ∈ nyT) (hL : ∀ q ∈ kyL_X9_off, q ∈ L) (hb : False → b = false) {Q : Int32 → HS → Prop} {v0 : Nat} {v1 : Int32} {v2 : Int32} {v3 : Int32} {v4 : Int32} {v5 : Int32} {S0 S : HS} (h : P_X9_off_25 Q v0 v1 v2 v3 v4 v5 S) (K : K9 b L S0 S) : P_X9_off_25 (fun r T => Q r T ∧ K9 b L S0 T) v0 v1 v2 v3 v4 v5 S := by
  delta P_X9_off_25 at h ⊢
  obtain ⟨c1, h⟩ := h
  refine ⟨c1, ?_⟩
  refine cm_X9_refusedBy (ky_X9_refusedBy (b := b) hU (fun q hq => hL q ((by decide : ∀ q ∈ kyL_X9_refusedBy, q ∈ kyL_X9_off) q hq)) (fun z => z.elim) h) h (fun x2 x3 p6 h g4 g5 => ?_)
  have h := h g4 g5
  have K := k9_tr K p6.2
  refine ⟨?_, ?_⟩
  · intro c7
    have h := h.1 c7
    obtain ⟨b8, e9, h⟩ := h
    refine ⟨b8, e9, ?_⟩
    obtain ⟨b10, e11, h⟩ := h
    refine ⟨b10, e11, ?_⟩
    obtain ⟨b12, e13, h⟩ := h
    refine ⟨b12, e13, ?_⟩
    obtain ⟨c14, h⟩ := h
    refine ⟨c14, ?_⟩
    refine cm_X7_reckon (ky_X7_reckon (b := b) hU (fun q hq => hL q ((by decide : ∀ q ∈ kyL_X7_reckon, q ∈ kyL_X9_off) q hq)) (fun z => z.elim) h) h (fun x15 p17 h g16 => ?_)
    have h := h g16
    have K := k9_tr K p17.2
    exact ky_X9_off_62 hU hL hb h K
  · intro c18
    have h := h.2 c18
    exact ⟨h, K⟩
set_option maxRecDepth 20000 in
set_option maxHeartbeats 1000000 in
theorem ky_X9_off_0 {b : Bool} {L : List (Nat × Nat)} (hU : ∀ q ∈ L, q ∈ nyT) (hL : ∀ q ∈ kyL_X9_off, q ∈ L) (hb : False → b = false) {Q : Int32 → HS → Prop} {v0 : Nat} {v1 : Int32} {v2 : Int32} {v3 : Int32} {v4 : Int32} {S0 S : HS} (h : P_X9_off_0 Q v0 v1 v2 v3 v4 S) (K : K9 b L S0 S) : P_X9_off_0 (fun r T => Q r T ∧ K9 b L S0 T) v0 v1 v2 v3 v4 S := by
  delta P_X9_off_0 at h ⊢
  obtain ⟨c1, h⟩ := h
  refine ⟨c1, ?_⟩
  refine cm_X9_placesTrouble (ky_X9_placesTrouble (b := b) hU (fun q hq => hL q ((by decide : ∀ q ∈ kyL_X9_placesTrouble, q ∈ kyL_X9_off) q hq)) (fun z => z.elim) h) h (fun x2 x3 p5 h g4 => ?_)
  have h := h g4
  have K := k9_tr K p5.2
  refine ⟨?_, ?_⟩
  · intro c6
    have h := h.1 c6
    exact ky_X9_off_25 hU hL hb h K
  · intro c7
    have h := h.2 c7
    refine cm_X9_isTill (ky_X9_isTill (b := b) hU (fun q hq => hL q ((by decide : ∀ q ∈ kyL_X9_isTill, q ∈ kyL_X9_off) q hq)) (fun z => z.elim) h) h (fun x8 x9 p12 h g10 g11 => ?_)
    have h := h g10 g11
    have K := k9_tr K p12.2
    refine ⟨?_, ?_⟩
    · intro c13
      have h := h.1 c13
      exact ky_X9_off_25 hU hL hb h K
    · intro c14
      have h := h.2 c14
      exact ky_X9_off_25 hU hL hb h K
theorem ky_X9_off {b : Bool} {L : List (Nat × Nat)} (hU : ∀ q ∈ L, q ∈ nyT) (hL : ∀ q ∈ kyL_X9_off, q ∈ L) (hb : False → b = false) {Q : Int32 → HS → Prop} {v0 : Nat} {v1 : Int32} {v2 : Int32} {v3 : Int32} {v4 : Int32} {S : HS} (h : P_X9_off v0 v1 v2 v3 v4 Q S) : P_X9_off v0 v1 v2 v3 v4 (fun r T => Q r T ∧ K9 b L S T) S := ky_X9_off_0 hU hL hb h (k9_rf b L S)
abbrev kyL_X9_road : List (Nat × Nat) := []
set_option maxRecDepth 20000 in
set_option maxHeartbeats 1000000 in
theorem ky_X9_road_20 {b : Bool} {L : List (Nat × Nat)} (hU : ∀ q ∈ L, q ∈ nyT) (hL : ∀ q ∈ kyL_X9_road, q ∈ L) (hb : False → b = false) {Q : Int32 → HS → Prop} {v0 : Nat} {S0 S : HS} (h : P_X9_road_20 Q v0 S) (K : K9 b L S0 S) : P_X9_road_20 (fun r T => Q r T ∧ K9 b L S0 T) v0 S := by
  delta P_X9_road_20 at h ⊢
  obtain ⟨c1, h⟩ := h
  refine ⟨c1, ?_⟩
  refine cm_X9_refuse (ky_X9_refuse (b := b) hU (fun q hq => hL q ((by decide : ∀ q ∈ kyL_X9_refuse, q ∈ kyL_X9_road) q hq)) (fun z => z.elim) h) h (fun x2 x3 p5 h g4 => ?_)
  have h := h g4
  have K := k9_tr K p5.2
  exact ⟨h, K⟩
set_option maxRecDepth 20000 in
set_option maxHeartbeats 1000000 in
theorem ky_X9_road_0 {b : Bool} {L : List (Nat × Nat)} (hU : ∀ q ∈ L, q ∈ nyT) (hL : ∀ q ∈ kyL_X9_road, q ∈ L) (hb : False → b = false) {Q : Int32 → HS → Prop} {v0 : Nat} {v1 : Int32} {v2 : Int32} {S0 S : HS} (h : P_X9_road_0 Q v0 v1 v2 S) (K : K9 b L S0 S) : P_X9_road_0 (fun r T => Q r T ∧ K9 b L S0 T) v0 v1 v2 S := by
  delta P_X9_road_0 at h ⊢
  obtain ⟨c1, h⟩ := h
  refine ⟨c1, ?_⟩
  obtain ⟨b2, e3, h⟩ := h
  refine ⟨b2, e3, ?_⟩
  obtain ⟨c4, h⟩ := h
  refine ⟨c4, ?_⟩
  refine cm_X8_hasRoad (ky_X8_hasRoad (b := b) hU (fun q hq => hL q ((by decide : ∀ q ∈ kyL_X8_hasRoad, q ∈ kyL_X9_road) q hq)) (fun z => z.elim) h) h (fun x5 x6 p9 h g7 g8 => ?_)
  have h := h g7 g8
  have K := k9_tr K p9.2
  refine ⟨?_, ?_⟩
  · intro c10
    have h := h.1 c10
    exact ky_X9_road_20 hU hL hb h K
  · intro c11
    have h := h.2 c11
    refine ⟨?_, ?_⟩
    · intro c12
      have h := h.1 c12
      exact ky_X9_road_20 hU hL hb h K
    · intro c13
      have h := h.2 c13
      refine ⟨?_, ?_⟩
      · intro c14
        have h := h.1 c14
        obtain ⟨b15, e16, h⟩ := h
        refine ⟨b15, e16, ?_⟩
        obtain ⟨c17, h⟩ := h
        refine ⟨c17, ?_⟩
        obtain ⟨b18, e19, h⟩ := h
        refine ⟨b18, e19, ?_⟩
        obtain ⟨c20, h⟩ := h
        refine ⟨c20, ?_⟩
        obtain ⟨c21, h⟩ := h
        refine ⟨c21, ?_⟩
        obtain ⟨b22, e23, h⟩ := h
        refine ⟨b22, e23, ?_⟩
        obtain ⟨c24, h⟩ := h
        refine ⟨c24, ?_⟩
        refine cm_X5_tell (ky_X5_tell (b := b) hU (fun q hq => hL q ((by decide : ∀ q ∈ kyL_X5_tell, q ∈ kyL_X9_road) q hq)) (fun z => z.elim) h) h (fun x25 x26 p28 h g27 => ?_)
        have h := h g27
        have K := k9_tr K p28.2
        refine cm_X9_grant (ky_X9_grant (b := b) hU (fun q hq => hL q ((by decide : ∀ q ∈ kyL_X9_grant, q ∈ kyL_X9_road) q hq)) (fun z => z.elim) h) h (fun x29 x30 p32 h g31 => ?_)
        have h := h g31
        have K := k9_tr K p32.2
        exact ⟨h, K⟩
      · intro c33
        have h := h.2 c33
        exact ky_X9_road_20 hU hL hb h K
theorem ky_X9_road {b : Bool} {L : List (Nat × Nat)} (hU : ∀ q ∈ L, q ∈ nyT) (hL : ∀ q ∈ kyL_X9_road, q ∈ L) (hb : False → b = false) {Q : Int32 → HS → Prop} {v0 : Nat} {v1 : Int32} {v2 : Int32} {S : HS} (h : P_X9_road v0 v1 v2 Q S) : P_X9_road v0 v1 v2 (fun r T => Q r T ∧ K9 b L S T) S := ky_X9_road_0 hU hL hb h (k9_rf b L S)
abbrev kyL_X9_round : List (Nat × Nat) := [(1, 0), (1, 1)]
set_option maxRecDepth 20000 in
set_option maxHeartbeats 1000000 in
theorem ky_X9_round_0 {b : Bool} {L : List (Nat × Nat)} (hU : ∀ q ∈ L, q ∈ nyT) (hL : ∀ q ∈ kyL_X9_round, q ∈ L) (hb : False → b = false) {Q : Int64 → HS → Prop} {v0 : Nat} {v1 : Int32} {v2 : Int32} {v3 : Int32} {v4 : Int32} {S0 S : HS} (h : P_X9_round_0 Q v0 v1 v2 v3 v4 S) (K : K9 b L S0 S) : P_X9_round_0 (fun r T => Q r T ∧ K9 b L S0 T) v0 v1 v2 v3 v4 S := by
  delta P_X9_round_0 at h ⊢
  obtain ⟨c1, h⟩ := h
  refine ⟨c1, ?_⟩
  refine cm_X9_tripTrouble (ky_X9_tripTrouble (b := b) hU (fun q hq => hL q ((by decide : ∀ q ∈ kyL_X9_tripTrouble, q ∈ kyL_X9_round) q hq)) (fun z => z.elim) h) h (fun x2 x3 p5 h g4 => ?_)
  have h := h g4
  have K := k9_tr K p5.2
  refine cm_X9_refusedBy (ky_X9_refusedBy (b := b) hU (fun q hq => hL q ((by decide : ∀ q ∈ kyL_X9_refusedBy, q ∈ kyL_X9_round) q hq)) (fun z => z.elim) h) h (fun x6 x7 p10 h g8 g9 => ?_)
  have h := h g8 g9
  have K := k9_tr K p10.2
  refine ⟨?_, ?_⟩
  · intro c11
    have h := h.1 c11
    obtain ⟨b12, e13, h⟩ := h
    refine ⟨b12, e13, ?_⟩
    obtain ⟨b14, e15, h⟩ := h
    refine ⟨b14, e15, ?_⟩
    obtain ⟨c16, h⟩ := h
    refine ⟨c16, ?_⟩
    obtain ⟨b17, e18, h⟩ := h
    refine ⟨b17, e18, ?_⟩
    obtain ⟨c19, h⟩ := h
    refine ⟨c19, ?_⟩
    obtain ⟨c20, h⟩ := h
    refine ⟨c20, ?_⟩
    obtain ⟨b21, e22, h⟩ := h
    refine ⟨b21, e22, ?_⟩
    obtain ⟨b23, e24, h⟩ := h
    refine ⟨b23, e24, ?_⟩
    obtain ⟨c25, h⟩ := h
    refine ⟨c25, ?_⟩
    obtain ⟨b26, e27, h⟩ := h
    refine ⟨b26, e27, ?_⟩
    obtain ⟨c28, h⟩ := h
    refine ⟨c28, ?_⟩
    obtain ⟨c29, h⟩ := h
    refine ⟨c29, ?_⟩
    obtain ⟨b30, e31, h⟩ := h
    refine ⟨b30, e31, ?_⟩
    obtain ⟨b32, e33, h⟩ := h
    refine ⟨b32, e33, ?_⟩
    obtain ⟨c34, h⟩ := h
    refine ⟨c34, ?_⟩
    obtain ⟨b35, e36, h⟩ := h
    refine ⟨b35, e36, ?_⟩
    obtain ⟨c37, h⟩ := h
    refine ⟨c37, ?_⟩
    obtain ⟨c38, h⟩ := h
    refine ⟨c38, ?_⟩
    obtain ⟨b39, e40, h⟩ := h
    refine ⟨b39, e40, ?_⟩
    obtain ⟨c41, h⟩ := h
    refine ⟨c41, ?_⟩
    refine cm_X1_leastWet (ky_X1_leastWet (b := b) hU (fun q hq => hL q ((by decide : ∀ q ∈ kyL_X1_leastWet, q ∈ kyL_X9_round) q hq)) (fun z => z.elim) h) h (fun x42 x43 p45 h g44 => ?_)
    have h := h g44
    have K := k9_tr K p45.2
    obtain ⟨b46, e47, h⟩ := h
    refine ⟨b46, e47, ?_⟩
    obtain ⟨b48, e49, h⟩ := h
    refine ⟨b48, e49, ?_⟩
    obtain ⟨c50, h⟩ := h
    refine ⟨c50, ?_⟩
    obtain ⟨b51, e52, h⟩ := h
    refine ⟨b51, e52, ?_⟩
    obtain ⟨c53, h⟩ := h
    refine ⟨c53, ?_⟩
    obtain ⟨c54, h⟩ := h
    refine ⟨c54, ?_⟩
    obtain ⟨b55, e56, h⟩ := h
    refine ⟨b55, e56, ?_⟩
    obtain ⟨b57, e58, h⟩ := h
    refine ⟨b57, e58, ?_⟩
    obtain ⟨c59, h⟩ := h
    refine ⟨c59, ?_⟩
    obtain ⟨b60, e61, h⟩ := h
    refine ⟨b60, e61, ?_⟩
    obtain ⟨c62, h⟩ := h
    refine ⟨c62, ?_⟩
    obtain ⟨c63, h⟩ := h
    refine ⟨c63, ?_⟩
    obtain ⟨b64, e65, h⟩ := h
    refine ⟨b64, e65, ?_⟩
    obtain ⟨b66, e67, h⟩ := h
    refine ⟨b66, e67, ?_⟩
    obtain ⟨c68, h⟩ := h
    refine ⟨c68, ?_⟩
    obtain ⟨b69, e70, h⟩ := h
    refine ⟨b69, e70, ?_⟩
    obtain ⟨c71, h⟩ := h
    refine ⟨c71, ?_⟩
    obtain ⟨c72, h⟩ := h
    refine ⟨c72, ?_⟩
    obtain ⟨b73, e74, h⟩ := h
    refine ⟨b73, e74, ?_⟩
    obtain ⟨c75, h⟩ := h
    refine ⟨c75, ?_⟩
    refine cm_X1_leastWet (ky_X1_leastWet (b := b) hU (fun q hq => hL q ((by decide : ∀ q ∈ kyL_X1_leastWet, q ∈ kyL_X9_round) q hq)) (fun z => z.elim) h) h (fun x76 x77 p79 h g78 => ?_)
    have h := h g78
    have K := k9_tr K p79.2
    refine cm_X9_fraction (ky_X9_fraction (b := b) hU (fun q hq => hL q ((by decide : ∀ q ∈ kyL_X9_fraction, q ∈ kyL_X9_round) q hq)) (fun z => z.elim) h) h (fun x80 x81 p83 h g82 => ?_)
    have h := h g82
    have K := k9_tr K p83.2
    exact ⟨h, K⟩
  · intro c84
    have h := h.2 c84
    exact ⟨h, K⟩
theorem ky_X9_round {b : Bool} {L : List (Nat × Nat)} (hU : ∀ q ∈ L, q ∈ nyT) (hL : ∀ q ∈ kyL_X9_round, q ∈ L) (hb : False → b = false) {Q : Int64 → HS → Prop} {v0 : Nat} {v1 : Int32} {v2 : Int32} {v3 : Int32} {v4 : Int32} {S : HS} (h : P_X9_round v0 v1 v2 v3 v4 Q S) : P_X9_round v0 v1 v2 v3 v4 (fun r T => Q r T ∧ K9 b L S T) S := ky_X9_round_0 hU hL hb h (k9_rf b L S)
abbrev kyL_X9_saves : List (Nat × Nat) := [(1, 0), (1, 1)]
set_option maxRecDepth 20000 in
set_option maxHeartbeats 1000000 in
theorem ky_X9_saves_0 {b : Bool} {L : List (Nat × Nat)} (hU : ∀ q ∈ L, q ∈ nyT) (hL : ∀ q ∈ kyL_X9_saves, q ∈ L) (hb : False → b = false) {Q : Int64 → HS → Prop} {v0 : Nat} {v1 : Int32} {v2 : Int32} {v3 : Int32} {v4 : Int32} {v5 : Int32} {S0 S : HS} (h : P_X9_saves_0 Q v0 v1 v2 v3 v4 v5 S) (K : K9 b L S0 S) : P_X9_saves_0 (fun r T => Q r T ∧ K9 b L S0 T) v0 v1 v2 v3 v4 v5 S := by
  delta P_X9_saves_0 at h ⊢
  obtain ⟨c1, h⟩ := h
  refine ⟨c1, ?_⟩
  refine cm_X9_tripTrouble (ky_X9_tripTrouble (b := b) hU (fun q hq => hL q ((by decide : ∀ q ∈ kyL_X9_tripTrouble, q ∈ kyL_X9_saves) q hq)) (fun z => z.elim) h) h (fun x2 x3 p5 h g4 => ?_)
  have h := h g4
  have K := k9_tr K p5.2
  refine cm_X9_refusedBy (ky_X9_refusedBy (b := b) hU (fun q hq => hL q ((by decide : ∀ q ∈ kyL_X9_refusedBy, q ∈ kyL_X9_saves) q hq)) (fun z => z.elim) h) h (fun x6 x7 p10 h g8 g9 => ?_)
  have h := h g8 g9
  have K := k9_tr K p10.2
  refine ⟨?_, ?_⟩
  · intro c11
    have h := h.1 c11
    obtain ⟨b12, e13, h⟩ := h
    refine ⟨b12, e13, ?_⟩
    obtain ⟨c14, h⟩ := h
    refine ⟨c14, ?_⟩
    obtain ⟨b15, e16, h⟩ := h
    refine ⟨b15, e16, ?_⟩
    obtain ⟨c17, h⟩ := h
    refine ⟨c17, ?_⟩
    obtain ⟨c18, h⟩ := h
    refine ⟨c18, ?_⟩
    obtain ⟨b19, e20, h⟩ := h
    refine ⟨b19, e20, ?_⟩
    obtain ⟨b21, e22, h⟩ := h
    refine ⟨b21, e22, ?_⟩
    obtain ⟨b23, e24, h⟩ := h
    refine ⟨b23, e24, ?_⟩
    obtain ⟨c25, h⟩ := h
    refine ⟨c25, ?_⟩
    obtain ⟨b26, e27, h⟩ := h
    refine ⟨b26, e27, ?_⟩
    obtain ⟨c28, h⟩ := h
    refine ⟨c28, ?_⟩
    obtain ⟨c29, h⟩ := h
    refine ⟨c29, ?_⟩
    obtain ⟨b30, e31, h⟩ := h
    refine ⟨b30, e31, ?_⟩
    obtain ⟨b32, e33, h⟩ := h
    refine ⟨b32, e33, ?_⟩
    obtain ⟨c34, h⟩ := h
    refine ⟨c34, ?_⟩
    obtain ⟨b35, e36, h⟩ := h
    refine ⟨b35, e36, ?_⟩
    obtain ⟨c37, h⟩ := h
    refine ⟨c37, ?_⟩
    obtain ⟨c38, h⟩ := h
    refine ⟨c38, ?_⟩
    obtain ⟨b39, e40, h⟩ := h
    refine ⟨b39, e40, ?_⟩
    obtain ⟨c41, h⟩ := h
    refine ⟨c41, ?_⟩
    intro x43 e42
    have h := h x43 e42
    obtain ⟨c44, h⟩ := h
    refine ⟨c44, ?_⟩
    refine cm_X1_wetOf (ky_X1_wetOf (b := b) hU (fun q hq => hL q ((by decide : ∀ q ∈ kyL_X1_wetOf, q ∈ kyL_X9_saves) q hq)) (fun z => z.elim) h) h (fun x45 x46 p48 h g47 => ?_)
    have h := h g47
    have K := k9_tr K p48.2
    obtain ⟨b49, e50, h⟩ := h
    refine ⟨b49, e50, ?_⟩
    obtain ⟨b51, e52, h⟩ := h
    refine ⟨b51, e52, ?_⟩
    obtain ⟨c53, h⟩ := h
    refine ⟨c53, ?_⟩
    obtain ⟨b54, e55, h⟩ := h
    refine ⟨b54, e55, ?_⟩
    obtain ⟨c56, h⟩ := h
    refine ⟨c56, ?_⟩
    obtain ⟨c57, h⟩ := h
    refine ⟨c57, ?_⟩
    obtain ⟨b58, e59, h⟩ := h
    refine ⟨b58, e59, ?_⟩
    obtain ⟨b60, e61, h⟩ := h
    refine ⟨b60, e61, ?_⟩
    obtain ⟨c62, h⟩ := h
    refine ⟨c62, ?_⟩
    obtain ⟨b63, e64, h⟩ := h
    refine ⟨b63, e64, ?_⟩
    obtain ⟨c65, h⟩ := h
    refine ⟨c65, ?_⟩
    obtain ⟨c66, h⟩ := h
    refine ⟨c66, ?_⟩
    obtain ⟨b67, e68, h⟩ := h
    refine ⟨b67, e68, ?_⟩
    obtain ⟨c69, h⟩ := h
    refine ⟨c69, ?_⟩
    refine cm_X1_leastWet (ky_X1_leastWet (b := b) hU (fun q hq => hL q ((by decide : ∀ q ∈ kyL_X1_leastWet, q ∈ kyL_X9_saves) q hq)) (fun z => z.elim) h) h (fun x70 x71 p73 h g72 => ?_)
    have h := h g72
    have K := k9_tr K p73.2
    refine cm_X9_fraction (ky_X9_fraction (b := b) hU (fun q hq => hL q ((by decide : ∀ q ∈ kyL_X9_fraction, q ∈ kyL_X9_saves) q hq)) (fun z => z.elim) h) h (fun x74 x75 p77 h g76 => ?_)
    have h := h g76
    have K := k9_tr K p77.2
    exact ⟨h, K⟩
  · intro c78
    have h := h.2 c78
    exact ⟨h, K⟩
theorem ky_X9_saves {b : Bool} {L : List (Nat × Nat)} (hU : ∀ q ∈ L, q ∈ nyT) (hL : ∀ q ∈ kyL_X9_saves, q ∈ L) (hb : False → b = false) {Q : Int64 → HS → Prop} {v0 : Nat} {v1 : Int32} {v2 : Int32} {v3 : Int32} {v4 : Int32} {v5 : Int32} {S : HS} (h : P_X9_saves v0 v1 v2 v3 v4 v5 Q S) : P_X9_saves v0 v1 v2 v3 v4 v5 (fun r T => Q r T ∧ K9 b L S T) S := ky_X9_saves_0 hU hL hb h (k9_rf b L S)
abbrev kyL_X9_soaked : List (Nat × Nat) := []
set_option maxRecDepth 20000 in
set_option maxHeartbeats 1000000 in
theorem ky_X9_soaked_27 {b : Bool} {L : List (Nat × Nat)} (hU : ∀ q ∈ L, q ∈ nyT) (hL : ∀ q ∈ kyL_X9_soaked, q ∈ L) (hb : False → b = false) {Q : Int32 → HS → Prop} {v0 : Nat} {S0 S : HS} (h : P_X9_soaked_27 Q v0 S) (K : K9 b L S0 S) : P_X9_soaked_27 (fun r T => Q r T ∧ K9 b L S0 T) v0 S := by
  delta P_X9_soaked_27 at h ⊢
  obtain ⟨c1, h⟩ := h
  refine ⟨c1, ?_⟩
  refine cm_X9_refuse (ky_X9_refuse (b := b) hU (fun q hq => hL q ((by decide : ∀ q ∈ kyL_X9_refuse, q ∈ kyL_X9_soaked) q hq)) (fun z => z.elim) h) h (fun x2 x3 p5 h g4 => ?_)
  have h := h g4
  have K := k9_tr K p5.2
  exact ⟨h, K⟩
set_option maxRecDepth 20000 in
set_option maxHeartbeats 1000000 in
theorem ky_X9_soaked_88 {b : Bool} {L : List (Nat × Nat)} (hU : ∀ q ∈ L, q ∈ nyT) (hL : ∀ q ∈ kyL_X9_soaked, q ∈ L) (hb : False → b = false) {Q : Int32 → HS → Prop} {s0 : Nat} {s1 : Int32} {S0 S : HS} (h : P_X9_soaked_88 Q s0 s1 S) (K : K9 b L S0 S) : P_X9_soaked_88 (fun r T => Q r T ∧ K9 b L S0 T) s0 s1 S := by
  delta P_X9_soaked_88 at h ⊢
  obtain ⟨c1, h⟩ := h
  refine ⟨c1, ?_⟩
  refine cm_X9_grant (ky_X9_grant (b := b) hU (fun q hq => hL q ((by decide : ∀ q ∈ kyL_X9_grant, q ∈ kyL_X9_soaked) q hq)) (fun z => z.elim) h) h (fun x2 x3 p5 h g4 => ?_)
  have h := h g4
  have K := k9_tr K p5.2
  exact ⟨h, K⟩
set_option maxRecDepth 20000 in
set_option maxHeartbeats 1000000 in
theorem ky_X9_soaked_0 {b : Bool} {L : List (Nat × Nat)} (hU : ∀ q ∈ L, q ∈ nyT) (hL : ∀ q ∈ kyL_X9_soaked, q ∈ L) (hb : False → b = false) {Q : Int32 → HS → Prop} {v0 : Nat} {S0 S : HS} (h : P_X9_soaked_0 Q v0 S) (K : K9 b L S0 S) : P_X9_soaked_0 (fun r T => Q r T ∧ K9 b L S0 T) v0 S := by
  delta P_X9_soaked_0 at h ⊢
  obtain ⟨c1, h⟩ := h
  refine ⟨c1, ?_⟩
  obtain ⟨b2, e3, h⟩ := h
  refine ⟨b2, e3, ?_⟩
  obtain ⟨c4, h⟩ := h
  refine ⟨c4, ?_⟩
  refine cm_X0_isOn (ky_X0_isOn (b := b) hU (fun q hq => hL q ((by decide : ∀ q ∈ kyL_X0_isOn, q ∈ kyL_X9_soaked) q hq)) (fun z => z.elim) h) h (fun x5 x6 p9 h g7 g8 => ?_)
  have h := h g7 g8
  have K := k9_tr K p9.2
  refine ⟨?_, ?_⟩
  · intro c10
    have h := h.1 c10
    exact ky_X9_soaked_27 hU hL hb h K
  · intro c11
    have h := h.2 c11
    obtain ⟨b12, e13, h⟩ := h
    refine ⟨b12, e13, ?_⟩
    obtain ⟨b14, e15, h⟩ := h
    refine ⟨b14, e15, ?_⟩
    obtain ⟨c16, h⟩ := h
    refine ⟨c16, ?_⟩
    intro x18 e17
    have h := h x18 e17
    obtain ⟨c19, h⟩ := h
    refine ⟨c19, ?_⟩
    refine cm_X8_hasWalker (ky_X8_hasWalker (b := b) hU (fun q hq => hL q ((by decide : ∀ q ∈ kyL_X8_hasWalker, q ∈ kyL_X9_soaked) q hq)) (fun z => z.elim) h) h (fun x20 x21 p24 h g22 g23 => ?_)
    have h := h g22 g23
    have K := k9_tr K p24.2
    refine ⟨?_, ?_⟩
    · intro c25
      have h := h.1 c25
      obtain ⟨b26, e27, h⟩ := h
      refine ⟨b26, e27, ?_⟩
      obtain ⟨c28, h⟩ := h
      refine ⟨c28, ?_⟩
      obtain ⟨b29, e30, h⟩ := h
      refine ⟨b29, e30, ?_⟩
      obtain ⟨b31, e32, h⟩ := h
      refine ⟨b31, e32, ?_⟩
      obtain ⟨c33, h⟩ := h
      refine ⟨c33, ?_⟩
      intro x35 e34
      have h := h x35 e34
      obtain ⟨c36, h⟩ := h
      refine ⟨c36, ?_⟩
      obtain ⟨c37, h⟩ := h
      refine ⟨c37, ?_⟩
      obtain ⟨b38, e39, h⟩ := h
      refine ⟨b38, e39, ?_⟩
      obtain ⟨c40, h⟩ := h
      refine ⟨c40, ?_⟩
      intro x42 e41
      have h := h x42 e41
      refine ⟨?_, ?_⟩
      · intro c43
        have h := h.1 c43
        obtain ⟨b44, e45, h⟩ := h
        refine ⟨b44, e45, ?_⟩
        obtain ⟨c46, h⟩ := h
        refine ⟨c46, ?_⟩
        obtain ⟨b47, e48, h⟩ := h
        refine ⟨b47, e48, ?_⟩
        obtain ⟨c49, h⟩ := h
        refine ⟨c49, ?_⟩
        refine cm_X2_allGot (ky_X2_allGot (b := b) hU (fun q hq => hL q ((by decide : ∀ q ∈ kyL_X2_allGot, q ∈ kyL_X9_soaked) q hq)) (fun z => z.elim) h) h (fun x50 x51 p53 h g52 => ?_)
        have h := h g52
        have K := k9_tr K p53.2
        refine cm_X9_coatParts (ky_X9_coatParts (b := b) hU (fun q hq => hL q ((by decide : ∀ q ∈ kyL_X9_coatParts, q ∈ kyL_X9_soaked) q hq)) (fun z => z.elim) h) h (fun x54 x55 p57 h g56 => ?_)
        have h := h g56
        have K := k9_tr K p57.2
        refine ⟨?_, ?_⟩
        · intro c58
          have h := h.1 c58
          exact ky_X9_soaked_88 hU hL hb h K
        · intro c59
          have h := h.2 c59
          exact ky_X9_soaked_88 hU hL hb h K
      · intro c60
        have h := h.2 c60
        refine cm_X9_grant (ky_X9_grant (b := b) hU (fun q hq => hL q ((by decide : ∀ q ∈ kyL_X9_grant, q ∈ kyL_X9_soaked) q hq)) (fun z => z.elim) h) h (fun x61 x62 p64 h g63 => ?_)
        have h := h g63
        have K := k9_tr K p64.2
        exact ⟨h, K⟩
    · intro c65
      have h := h.2 c65
      exact ky_X9_soaked_27 hU hL hb h K
theorem ky_X9_soaked {b : Bool} {L : List (Nat × Nat)} (hU : ∀ q ∈ L, q ∈ nyT) (hL : ∀ q ∈ kyL_X9_soaked, q ∈ L) (hb : False → b = false) {Q : Int32 → HS → Prop} {v0 : Nat} {S : HS} (h : P_X9_soaked v0 Q S) : P_X9_soaked v0 (fun r T => Q r T ∧ K9 b L S T) S := ky_X9_soaked_0 hU hL hb h (k9_rf b L S)
end
section
abbrev kyL_X9_stayTrouble : List (Nat × Nat) := []
set_option maxRecDepth 20000 in
set_option maxHeartbeats 1000000 in
theorem ky_X9_stayTrouble_0 {b : Bool} {L : List (Nat × Nat)} (hU : ∀ q ∈ L, q ∈ nyT) (hL : ∀ q ∈ kyL_X9_stayTrouble, q ∈ L) (hb : False → b = false) {Q : Int32 → HS → Prop} {v0 : Nat} {v1 : Int32} {S0 S : HS} (h : P_X9_stayTrouble_0 Q v0 v1 S) (K : K9 b L S0 S) : P_X9_stayTrouble_0 (fun r T => Q r T ∧ K9 b L S0 T) v0 v1 S := by
  delta P_X9_stayTrouble_0 at h ⊢
  obtain ⟨c1, h⟩ := h
  refine ⟨c1, ?_⟩
  obtain ⟨b2, e3, h⟩ := h
  refine ⟨b2, e3, ?_⟩
  obtain ⟨c4, h⟩ := h
  refine ⟨c4, ?_⟩
  refine cm_X0_isOn (ky_X0_isOn (b := b) hU (fun q hq => hL q ((by decide : ∀ q ∈ kyL_X0_isOn, q ∈ kyL_X9_stayTrouble) q hq)) (fun z => z.elim) h) h (fun x5 x6 p9 h g7 g8 => ?_)
  have h := h g7 g8
  have K := k9_tr K p9.2
  refine ⟨?_, ?_⟩
  · intro c10
    have h := h.1 c10
    exact ⟨h, K⟩
  · intro c11
    have h := h.2 c11
    obtain ⟨b12, e13, h⟩ := h
    refine ⟨b12, e13, ?_⟩
    obtain ⟨b14, e15, h⟩ := h
    refine ⟨b14, e15, ?_⟩
    obtain ⟨c16, h⟩ := h
    refine ⟨c16, ?_⟩
    intro x18 e17
    have h := h x18 e17
    obtain ⟨c19, h⟩ := h
    refine ⟨c19, ?_⟩
    refine cm_X8_hasWalker (ky_X8_hasWalker (b := b) hU (fun q hq => hL q ((by decide : ∀ q ∈ kyL_X8_hasWalker, q ∈ kyL_X9_stayTrouble) q hq)) (fun z => z.elim) h) h (fun x20 x21 p24 h g22 g23 => ?_)
    have h := h g22 g23
    have K := k9_tr K p24.2
    refine ⟨?_, ?_⟩
    · intro c25
      have h := h.1 c25
      refine ⟨?_, ?_⟩
      · intro c26
        have h := h.1 c26
        exact ⟨h, K⟩
      · intro c27
        have h := h.2 c27
        refine ⟨?_, ?_⟩
        · intro c28
          have h := h.1 c28
          obtain ⟨b29, e30, h⟩ := h
          refine ⟨b29, e30, ?_⟩
          obtain ⟨b31, e32, h⟩ := h
          refine ⟨b31, e32, ?_⟩
          obtain ⟨c33, h⟩ := h
          refine ⟨c33, ?_⟩
          obtain ⟨b34, e35, h⟩ := h
          refine ⟨b34, e35, ?_⟩
          obtain ⟨c36, h⟩ := h
          refine ⟨c36, ?_⟩
          intro x38 e37
          have h := h x38 e37
          obtain ⟨c39, h⟩ := h
          refine ⟨c39, ?_⟩
          refine cm_X8_canWait (ky_X8_canWait (b := b) hU (fun q hq => hL q ((by decide : ∀ q ∈ kyL_X8_canWait, q ∈ kyL_X9_stayTrouble) q hq)) (fun z => z.elim) h) h (fun x40 x41 p44 h g42 g43 => ?_)
          have h := h g42 g43
          have K := k9_tr K p44.2
          refine ⟨?_, ?_⟩
          · intro c45
            have h := h.1 c45
            obtain ⟨b46, e47, h⟩ := h
            refine ⟨b46, e47, ?_⟩
            obtain ⟨c48, h⟩ := h
            refine ⟨c48, ?_⟩
            obtain ⟨b49, e50, h⟩ := h
            refine ⟨b49, e50, ?_⟩
            obtain ⟨c51, h⟩ := h
            refine ⟨c51, ?_⟩
            intro x53 e52
            have h := h x53 e52
            refine ⟨?_, ?_⟩
            · intro c54
              have h := h.1 c54
              exact ⟨h, K⟩
            · intro c55
              have h := h.2 c55
              exact ⟨h, K⟩
          · intro c56
            have h := h.2 c56
            exact ⟨h, K⟩
        · intro c57
          have h := h.2 c57
          exact ⟨h, K⟩
    · intro c58
      have h := h.2 c58
      exact ⟨h, K⟩
theorem ky_X9_stayTrouble {b : Bool} {L : List (Nat × Nat)} (hU : ∀ q ∈ L, q ∈ nyT) (hL : ∀ q ∈ kyL_X9_stayTrouble, q ∈ L) (hb : False → b = false) {Q : Int32 → HS → Prop} {v0 : Nat} {v1 : Int32} {S : HS} (h : P_X9_stayTrouble v0 v1 Q S) : P_X9_stayTrouble v0 v1 (fun r T => Q r T ∧ K9 b L S T) S := ky_X9_stayTrouble_0 hU hL hb h (k9_rf b L S)
abbrev kyL_X9_stay : List (Nat × Nat) := [(2, 2)]
set_option maxRecDepth 20000 in
set_option maxHeartbeats 1000000 in
theorem ky_X9_stay_111 {b : Bool} {L : List (Nat × Nat)} (hU : ∀ q ∈ L, q ∈ nyT) (hL : ∀ q ∈ kyL_X9_stay, q ∈ L) (hb : True → b = false) {Q : Int32 → HS → Prop} {X58 X58_2 : Nat → Int32 → Int64 → Int32 → HS → Prop} {v0 : Nat} {v1 : Int32} {v2 : Int64} {v4 : Int32} {S0 S : HS} (h : P_X9_stay_111 Q X58 v0 v1 v2 v4 S) (K : K9 b L S0 S) (hX58 : ∀ (u0 : Nat) (u1 : Int32) (u2 : Int64) (u3 : Int32) (u4 : HS), X58 u0 u1 u2 u3 u4 → K9 b L S0 u4 → X58_2 u0 u1 u2 u3 u4) : P_X9_stay_111 (fun r T => Q r T ∧ K9 b L S0 T) X58_2 v0 v1 v2 v4 S := by
  delta P_X9_stay_111 at h ⊢
  obtain ⟨c1, h⟩ := h
  refine ⟨c1, ?_⟩
  obtain ⟨b2, e3, h⟩ := h
  refine ⟨b2, e3, ?_⟩
  obtain ⟨c4, h⟩ := h
  refine ⟨c4, ?_⟩
  obtain ⟨b5, e6, h⟩ := h
  refine ⟨b5, e6, ?_⟩
  obtain ⟨c7, h⟩ := h
  refine ⟨c7, ?_⟩
  intro x9 e8
  have h := h x9 e8
  intro x11 e10
  have h := h x11 e10
  intro x13 e12
  have h := h x13 e12
  have K := k9_I K e12
  intro x15 e14
  have h := h x15 e14
  exact hX58 _ _ _ _ _ h K
set_option maxRecDepth 20000 in
set_option maxHeartbeats 1000000 in
theorem kyB_X9_stay_58 {b : Bool} {L : List (Nat × Nat)} (hU : ∀ q ∈ L, q ∈ nyT) (hL : ∀ q ∈ kyL_X9_stay, q ∈ L) (hb : True → b = false) {Q : Int32 → HS → Prop} {X58 X58_2 : Nat → Int32 → Int64 → Int32 → HS → Prop} {v0 : Nat} {v1 : Int32} {v2 : Int64} {v4 : Int32} {S0 S : HS} (h : B_X9_stay_58 Q X58 v0 v1 v2 v4 S) (K : K9 b L S0 S) (hX58 : ∀ (u0 : Nat) (u1 : Int32) (u2 : Int64) (u3 : Int32) (u4 : HS), X58 u0 u1 u2 u3 u4 → K9 b L S0 u4 → X58_2 u0 u1 u2 u3 u4) : B_X9_stay_58 (fun r T => Q r T ∧ K9 b L S0 T) X58_2 v0 v1 v2 v4 S := by
  delta B_X9_stay_58 at h ⊢
  refine ⟨?_, ?_⟩
  · intro c1
    have h := h.1 c1
    exact ⟨h, K⟩
  · intro c2
    have h := h.2 c2
    obtain ⟨c3, h⟩ := h
    refine ⟨c3, ?_⟩
    obtain ⟨b4, e5, h⟩ := h
    refine ⟨b4, e5, ?_⟩
    obtain ⟨b6, e7, h⟩ := h
    refine ⟨b6, e7, ?_⟩
    obtain ⟨b8, e9, h⟩ := h
    refine ⟨b8, e9, ?_⟩
    obtain ⟨c10, h⟩ := h
    refine ⟨c10, ?_⟩
    obtain ⟨b11, e12, h⟩ := h
    refine ⟨b11, e12, ?_⟩
    obtain ⟨c13, h⟩ := h
    refine ⟨c13, ?_⟩
    intro x15 e14
    have h := h x15 e14
    obtain ⟨c16, h⟩ := h
    refine ⟨c16, ?_⟩
    refine cm_X8_hourOf (ky_X8_hourOf (b := b) hU (fun q hq => hL q ((by decide : ∀ q ∈ kyL_X8_hourOf, q ∈ kyL_X9_stay) q hq)) (fun z => z.elim) h) h (fun x17 x18 p20 h g19 => ?_)
    have h := h g19
    have K := k9_tr K p20.2
    obtain ⟨c21, h⟩ := h
    refine ⟨c21, ?_⟩
    refine cm_X0_rainsIn (ky_X0_rainsIn (b := b) hU (fun q hq => hL q ((by decide : ∀ q ∈ kyL_X0_rainsIn, q ∈ kyL_X9_stay) q hq)) (fun z => z.elim) h) h (fun x22 x23 p26 h g24 g25 => ?_)
    have h := h g24 g25
    have K := k9_tr K p26.2
    refine ⟨?_, ?_⟩
    · intro c27
      have h := h.1 c27
      exact ky_X9_stay_111 hU hL hb h K hX58
    · intro c28
      have h := h.2 c28
      obtain ⟨b29, e30, h⟩ := h
      refine ⟨b29, e30, ?_⟩
      obtain ⟨c31, h⟩ := h
      refine ⟨c31, ?_⟩
      obtain ⟨b32, e33, h⟩ := h
      refine ⟨b32, e33, ?_⟩
      obtain ⟨c34, h⟩ := h
      refine ⟨c34, ?_⟩
      have o35 := c34
      obtain ⟨b36, e37, h⟩ := h
      refine ⟨b36, e37, ?_⟩
      have n38 := k9_nr K e37 o35 (hL _ (by decide))
      obtain ⟨c39, h⟩ := h
      refine ⟨c39, ?_⟩
      obtain ⟨c40, h⟩ := h
      refine ⟨c40, ?_⟩
      intro x42 e41
      have h := h x42 e41
      intro x44 e43
      have h := h x44 e43
      obtain ⟨c45, h⟩ := h
      refine ⟨c45, ?_⟩
      intro x47 e46
      have h := h x47 e46
      have K := k9_J K e46 n38
      have o35 := ob_wJ o35 e46
      exact ky_X9_stay_111 hU hL hb h K hX58
theorem ky_X9_stay_58 {b : Bool} {L : List (Nat × Nat)} (hU : ∀ q ∈ L, q ∈ nyT) (hL : ∀ q ∈ kyL_X9_stay, q ∈ L) (hb : True → b = false) {Q : Int32 → HS → Prop} {v0 : Nat} {v1 : Int32} {v2 : Int64} {v4 : Int32} {S0 S : HS} (h : P_X9_stay_58 Q v0 v1 v2 v4 S) (K : K9 b L S0 S) : P_X9_stay_58 (fun r T => Q r T ∧ K9 b L S0 T) v0 v1 v2 v4 S := h (fun v0 v1 v2 v4 S => K9 b L S0 S → P_X9_stay_58 (fun r T => Q r T ∧ K9 b L S0 T) v0 v1 v2 v4 S) (fun v0 v1 v2 v4 S hB K => fd_X9_stay_58 (kyB_X9_stay_58 hU hL hb hB K (fun _ _ _ _ _ hx K => hx K))) K
set_option maxRecDepth 20000 in
set_option maxHeartbeats 1000000 in
theorem ky_X9_stay_0 {b : Bool} {L : List (Nat × Nat)} (hU : ∀ q ∈ L, q ∈ nyT) (hL : ∀ q ∈ kyL_X9_stay, q ∈ L) (hb : True → b = false) {Q : Int32 → HS → Prop} {v0 : Nat} {v1 : Int32} {S0 S : HS} (h : P_X9_stay_0 Q v0 v1 S) (K : K9 b L S0 S) : P_X9_stay_0 (fun r T => Q r T ∧ K9 b L S0 T) v0 v1 S := by
  delta P_X9_stay_0 at h ⊢
  obtain ⟨c1, h⟩ := h
  refine ⟨c1, ?_⟩
  refine cm_X9_stayTrouble (ky_X9_stayTrouble (b := b) hU (fun q hq => hL q ((by decide : ∀ q ∈ kyL_X9_stayTrouble, q ∈ kyL_X9_stay) q hq)) (fun z => z.elim) h) h (fun x2 x3 p5 h g4 => ?_)
  have h := h g4
  have K := k9_tr K p5.2
  refine cm_X9_refusedBy (ky_X9_refusedBy (b := b) hU (fun q hq => hL q ((by decide : ∀ q ∈ kyL_X9_refusedBy, q ∈ kyL_X9_stay) q hq)) (fun z => z.elim) h) h (fun x6 x7 p10 h g8 g9 => ?_)
  have h := h g8 g9
  have K := k9_tr K p10.2
  refine ⟨?_, ?_⟩
  · intro c11
    have h := h.1 c11
    obtain ⟨b12, e13, h⟩ := h
    refine ⟨b12, e13, ?_⟩
    obtain ⟨c14, h⟩ := h
    refine ⟨c14, ?_⟩
    refine cm_X0_keepForUndo (ky_X0_keepForUndo (b := b) hU (fun q hq => hL q ((by decide : ∀ q ∈ kyL_X0_keepForUndo, q ∈ kyL_X9_stay) q hq)) (fun z => hb trivial) h) h (fun x15 p17 h g16 => ?_)
    have h := h g16
    have K := k9_tr K p17.2
    obtain ⟨b18, e19, h⟩ := h
    refine ⟨b18, e19, ?_⟩
    obtain ⟨b20, e21, h⟩ := h
    refine ⟨b20, e21, ?_⟩
    obtain ⟨c22, h⟩ := h
    refine ⟨c22, ?_⟩
    obtain ⟨b23, e24, h⟩ := h
    refine ⟨b23, e24, ?_⟩
    obtain ⟨b25, e26, h⟩ := h
    refine ⟨b25, e26, ?_⟩
    obtain ⟨c27, h⟩ := h
    refine ⟨c27, ?_⟩
    intro x29 e28
    have h := h x29 e28
    obtain ⟨c30, h⟩ := h
    refine ⟨c30, ?_⟩
    obtain ⟨c31, h⟩ := h
    refine ⟨c31, ?_⟩
    obtain ⟨b32, e33, h⟩ := h
    refine ⟨b32, e33, ?_⟩
    obtain ⟨b34, e35, h⟩ := h
    refine ⟨b34, e35, ?_⟩
    obtain ⟨c36, h⟩ := h
    refine ⟨c36, ?_⟩
    obtain ⟨b37, e38, h⟩ := h
    refine ⟨b37, e38, ?_⟩
    obtain ⟨c39, h⟩ := h
    refine ⟨c39, ?_⟩
    intro x41 e40
    have h := h x41 e40
    obtain ⟨c42, h⟩ := h
    refine ⟨c42, ?_⟩
    refine cm_X8_dripOn (ky_X8_dripOn (b := b) hU (fun q hq => hL q ((by decide : ∀ q ∈ kyL_X8_dripOn, q ∈ kyL_X9_stay) q hq)) (fun z => z.elim) h) h (fun x43 x44 p46 h g45 => ?_)
    have h := h g45
    have K := k9_tr K p46.2
    intro x48 e47
    have h := h x48 e47
    exact ky_X9_stay_58 hU hL hb h K
  · intro c49
    have h := h.2 c49
    exact ⟨h, K⟩
theorem ky_X9_stay {b : Bool} {L : List (Nat × Nat)} (hU : ∀ q ∈ L, q ∈ nyT) (hL : ∀ q ∈ kyL_X9_stay, q ∈ L) (hb : True → b = false) {Q : Int32 → HS → Prop} {v0 : Nat} {v1 : Int32} {S : HS} (h : P_X9_stay v0 v1 Q S) : P_X9_stay v0 v1 (fun r T => Q r T ∧ K9 b L S T) S := ky_X9_stay_0 hU hL hb h (k9_rf b L S)
abbrev kyL_X9_step : List (Nat × Nat) := [(1, 0), (1, 1), (7, 1), (7, 7)]
set_option maxRecDepth 20000 in
set_option maxHeartbeats 1000000 in
theorem ky_X9_step_61 {b : Bool} {L : List (Nat × Nat)} (hU : ∀ q ∈ L, q ∈ nyT) (hL : ∀ q ∈ kyL_X9_step, q ∈ L) (hb : False → b = false) {Q : Int32 → HS → Prop} {v0 : Nat} {S0 S : HS} (h : P_X9_step_61 Q v0 S) (K : K9 b L S0 S) : P_X9_step_61 (fun r T => Q r T ∧ K9 b L S0 T) v0 S := by
  delta P_X9_step_61 at h ⊢
  obtain ⟨c1, h⟩ := h
  refine ⟨c1, ?_⟩
  refine cm_X9_refuse (ky_X9_refuse (b := b) hU (fun q hq => hL q ((by decide : ∀ q ∈ kyL_X9_refuse, q ∈ kyL_X9_step) q hq)) (fun z => z.elim) h) h (fun x2 x3 p5 h g4 => ?_)
  have h := h g4
  have K := k9_tr K p5.2
  exact ⟨h, K⟩
set_option maxRecDepth 20000 in
set_option maxHeartbeats 1000000 in
theorem ky_X9_step_0 {b : Bool} {L : List (Nat × Nat)} (hU : ∀ q ∈ L, q ∈ nyT) (hL : ∀ q ∈ kyL_X9_step, q ∈ L) (hb : False → b = false) {Q : Int32 → HS → Prop} {v0 : Nat} {v1 : Int32} {v2 : Int32} {v3 : Int32} {v4 : Int32} {v5 : Int32} {v6 : Int32} {S0 S : HS} (h : P_X9_step_0 Q v0 v1 v2 v3 v4 v5 v6 S) (K : K9 b L S0 S) : P_X9_step_0 (fun r T => Q r T ∧ K9 b L S0 T) v0 v1 v2 v3 v4 v5 v6 S := by
  delta P_X9_step_0 at h ⊢
  obtain ⟨c1, h⟩ := h
  refine ⟨c1, ?_⟩
  refine cm_X9_wayTrouble (ky_X9_wayTrouble (b := b) hU (fun q hq => hL q ((by decide : ∀ q ∈ kyL_X9_wayTrouble, q ∈ kyL_X9_step) q hq)) (fun z => z.elim) h) h (fun x2 x3 p5 h g4 => ?_)
  have h := h g4
  have K := k9_tr K p5.2
  refine cm_X9_refusedBy (ky_X9_refusedBy (b := b) hU (fun q hq => hL q ((by decide : ∀ q ∈ kyL_X9_refusedBy, q ∈ kyL_X9_step) q hq)) (fun z => z.elim) h) h (fun x6 x7 p10 h g8 g9 => ?_)
  have h := h g8 g9
  have K := k9_tr K p10.2
  refine ⟨?_, ?_⟩
  · intro c11
    have h := h.1 c11
    obtain ⟨b12, e13, h⟩ := h
    refine ⟨b12, e13, ?_⟩
    obtain ⟨b14, e15, h⟩ := h
    refine ⟨b14, e15, ?_⟩
    obtain ⟨c16, h⟩ := h
    refine ⟨c16, ?_⟩
    refine cm_X7_trace (ky_X7_trace (b := b) hU (fun q hq => hL q ((by decide : ∀ q ∈ kyL_X7_trace, q ∈ kyL_X9_step) q hq)) (fun z => z.elim) h) h (fun x17 x18 p20 h g19 => ?_)
    have h := h g19
    have K := k9_tr K p20.2
    refine ⟨?_, ?_⟩
    · intro c21
      have h := h.1 c21
      exact ky_X9_step_61 hU hL hb h K
    · intro c22
      have h := h.2 c22
      refine ⟨?_, ?_⟩
      · intro c23
        have h := h.1 c23
        exact ky_X9_step_61 hU hL hb h K
      · intro c24
        have h := h.2 c24
        obtain ⟨b25, e26, h⟩ := h
        refine ⟨b25, e26, ?_⟩
        obtain ⟨c27, h⟩ := h
        refine ⟨c27, ?_⟩
        have o28 := c27
        obtain ⟨b29, e30, h⟩ := h
        refine ⟨b29, e30, ?_⟩
        obtain ⟨c31, h⟩ := h
        refine ⟨c31, ?_⟩
        refine ⟨?_, ?_⟩
        · intro c32
          have h := h.1 c32
          obtain ⟨b33, e34, h⟩ := h
          refine ⟨b33, e34, ?_⟩
          obtain ⟨c35, h⟩ := h
          refine ⟨c35, ?_⟩
          have o36 := c35
          obtain ⟨b37, e38, h⟩ := h
          refine ⟨b37, e38, ?_⟩
          obtain ⟨c39, h⟩ := h
          refine ⟨c39, ?_⟩
          obtain ⟨c40, h⟩ := h
          refine ⟨c40, ?_⟩
          intro x42 e41
          have h := h x42 e41
          exact ⟨h, K⟩
        · intro c43
          have h := h.2 c43
          exact ky_X9_step_61 hU hL hb h K
  · intro c44
    have h := h.2 c44
    exact ⟨h, K⟩
theorem ky_X9_step {b : Bool} {L : List (Nat × Nat)} (hU : ∀ q ∈ L, q ∈ nyT) (hL : ∀ q ∈ kyL_X9_step, q ∈ L) (hb : False → b = false) {Q : Int32 → HS → Prop} {v0 : Nat} {v1 : Int32} {v2 : Int32} {v3 : Int32} {v4 : Int32} {v5 : Int32} {v6 : Int32} {S : HS} (h : P_X9_step v0 v1 v2 v3 v4 v5 v6 Q S) : P_X9_step v0 v1 v2 v3 v4 v5 v6 (fun r T => Q r T ∧ K9 b L S T) S := ky_X9_step_0 hU hL hb h (k9_rf b L S)
abbrev kyL_X9_steps : List (Nat × Nat) := [(1, 0), (1, 1), (7, 1), (7, 7)]
set_option maxRecDepth 20000 in
set_option maxHeartbeats 1000000 in
theorem ky_X9_steps_0 {b : Bool} {L : List (Nat × Nat)} (hU : ∀ q ∈ L, q ∈ nyT) (hL : ∀ q ∈ kyL_X9_steps, q ∈ L) (hb : False → b = false) {Q : Int32 → HS → Prop} {v0 : Nat} {v1 : Int32} {v2 : Int32} {v3 : Int32} {v4 : Int32} {v5 : Int32} {S0 S : HS} (h : P_X9_steps_0 Q v0 v1 v2 v3 v4 v5 S) (K : K9 b L S0 S) : P_X9_steps_0 (fun r T => Q r T ∧ K9 b L S0 T) v0 v1 v2 v3 v4 v5 S := by
  delta P_X9_steps_0 at h ⊢
  obtain ⟨c1, h⟩ := h
  refine ⟨c1, ?_⟩
  refine cm_X9_wayTrouble (ky_X9_wayTrouble (b := b) hU (fun q hq => hL q ((by decide : ∀ q ∈ kyL_X9_wayTrouble, q ∈ kyL_X9_steps) q hq)) (fun z => z.elim) h) h (fun x2 x3 p5 h g4 => ?_)
  have h := h g4
  have K := k9_tr K p5.2
  refine cm_X9_refusedBy (ky_X9_refusedBy (b := b) hU (fun q hq => hL q ((by decide : ∀ q ∈ kyL_X9_refusedBy, q ∈ kyL_X9_steps) q hq)) (fun z => z.elim) h) h (fun x6 x7 p10 h g8 g9 => ?_)
  have h := h g8 g9
  have K := k9_tr K p10.2
  refine ⟨?_, ?_⟩
  · intro c11
    have h := h.1 c11
    obtain ⟨b12, e13, h⟩ := h
    refine ⟨b12, e13, ?_⟩
    obtain ⟨b14, e15, h⟩ := h
    refine ⟨b14, e15, ?_⟩
    obtain ⟨c16, h⟩ := h
    refine ⟨c16, ?_⟩
    refine cm_X7_trace (ky_X7_trace (b := b) hU (fun q hq => hL q ((by decide : ∀ q ∈ kyL_X7_trace, q ∈ kyL_X9_steps) q hq)) (fun z => z.elim) h) h (fun x17 x18 p20 h g19 => ?_)
    have h := h g19
    have K := k9_tr K p20.2
    exact ⟨h, K⟩
  · intro c21
    have h := h.2 c21
    exact ⟨h, K⟩
theorem ky_X9_steps {b : Bool} {L : List (Nat × Nat)} (hU : ∀ q ∈ L, q ∈ nyT) (hL : ∀ q ∈ kyL_X9_steps, q ∈ L) (hb : False → b = false) {Q : Int32 → HS → Prop} {v0 : Nat} {v1 : Int32} {v2 : Int32} {v3 : Int32} {v4 : Int32} {v5 : Int32} {S : HS} (h : P_X9_steps v0 v1 v2 v3 v4 v5 Q S) : P_X9_steps v0 v1 v2 v3 v4 v5 (fun r T => Q r T ∧ K9 b L S T) S := ky_X9_steps_0 hU hL hb h (k9_rf b L S)
abbrev kyL_X9_there : List (Nat × Nat) := [(1, 0), (1, 1), (7, 1), (7, 7)]
set_option maxRecDepth 20000 in
set_option maxHeartbeats 1000000 in
theorem ky_X9_there_0 {b : Bool} {L : List (Nat × Nat)} (hU : ∀ q ∈ L, q ∈ nyT) (hL : ∀ q ∈ kyL_X9_there, q ∈ L) (hb : False → b = false) {Q : Int32 → HS → Prop} {v0 : Nat} {v1 : Int32} {v2 : Int32} {v3 : Int32} {v4 : Int32} {v5 : Int32} {S0 S : HS} (h : P_X9_there_0 Q v0 v1 v2 v3 v4 v5 S) (K : K9 b L S0 S) : P_X9_there_0 (fun r T => Q r T ∧ K9 b L S0 T) v0 v1 v2 v3 v4 v5 S := by
  delta P_X9_there_0 at h ⊢
  obtain ⟨c1, h⟩ := h
  refine ⟨c1, ?_⟩
  refine cm_X9_wayTrouble (ky_X9_wayTrouble (b := b) hU (fun q hq => hL q ((by decide : ∀ q ∈ kyL_X9_wayTrouble, q ∈ kyL_X9_there) q hq)) (fun z => z.elim) h) h (fun x2 x3 p5 h g4 => ?_)
  have h := h g4
  have K := k9_tr K p5.2
  refine cm_X9_refusedBy (ky_X9_refusedBy (b := b) hU (fun q hq => hL q ((by decide : ∀ q ∈ kyL_X9_refusedBy, q ∈ kyL_X9_there) q hq)) (fun z => z.elim) h) h (fun x6 x7 p10 h g8 g9 => ?_)
  have h := h g8 g9
  have K := k9_tr K p10.2
  refine ⟨?_, ?_⟩
  · intro c11
    have h := h.1 c11
    obtain ⟨b12, e13, h⟩ := h
    refine ⟨b12, e13, ?_⟩
    obtain ⟨c14, h⟩ := h
    refine ⟨c14, ?_⟩
    refine cm_X7_endFrom (ky_X7_endFrom (b := b) hU (fun q hq => hL q ((by decide : ∀ q ∈ kyL_X7_endFrom, q ∈ kyL_X9_there) q hq)) (fun z => z.elim) h) h (fun x15 x16 p18 h g17 => ?_)
    have h := h g17
    have K := k9_tr K p18.2
    exact ⟨h, K⟩
  · intro c19
    have h := h.2 c19
    exact ⟨h, K⟩
theorem ky_X9_there {b : Bool} {L : List (Nat × Nat)} (hU : ∀ q ∈ L, q ∈ nyT) (hL : ∀ q ∈ kyL_X9_there, q ∈ L) (hb : False → b = false) {Q : Int32 → HS → Prop} {v0 : Nat} {v1 : Int32} {v2 : Int32} {v3 : Int32} {v4 : Int32} {v5 : Int32} {S : HS} (h : P_X9_there v0 v1 v2 v3 v4 v5 Q S) : P_X9_there v0 v1 v2 v3 v4 v5 (fun r T => Q r T ∧ K9 b L S T) S := ky_X9_there_0 hU hL hb h (k9_rf b L S)
abbrev kyL_X9_undo : List (Nat × Nat) := [(2, 2)]
set_option maxRecDepth 20000 in
set_option maxHeartbeats 1000000 in
theorem ky_X9_undo_17 {b : Bool} {L : List (Nat × Nat)} (hU : ∀ q ∈ L, q ∈ nyT) (hL : ∀ q ∈ kyL_X9_undo, q ∈ L) (hb : False → b = false) {Q : Int32 → HS → Prop} {s0 : Nat} {s1 : Int32} {S0 S : HS} (h : P_X9_undo_17 Q s0 s1 S) (K : K9 b L S0 S) : P_X9_undo_17 (fun r T => Q r T ∧ K9 b L S0 T) s0 s1 S := by
  delta P_X9_undo_17 at h ⊢
  obtain ⟨c1, h⟩ := h
  refine ⟨c1, ?_⟩
  refine cm_X9_refusedBy (ky_X9_refusedBy (b := b) hU (fun q hq => hL q ((by decide : ∀ q ∈ kyL_X9_refusedBy, q ∈ kyL_X9_undo) q hq)) (fun z => z.elim) h) h (fun x2 x3 p6 h g4 g5 => ?_)
  have h := h g4 g5
  have K := k9_tr K p6.2
  refine ⟨?_, ?_⟩
  · intro c7
    have h := h.1 c7
    exact ⟨h, K⟩
  · intro c8
    have h := h.2 c8
    exact ⟨h, K⟩
set_option maxRecDepth 20000 in
set_option maxHeartbeats 1000000 in
theorem ky_X9_undo_0 {b : Bool} {L : List (Nat × Nat)} (hU : ∀ q ∈ L, q ∈ nyT) (hL : ∀ q ∈ kyL_X9_undo, q ∈ L) (hb : False → b = false) {Q : Int32 → HS → Prop} {v0 : Nat} {S0 S : HS} (h : P_X9_undo_0 Q v0 S) (K : K9 b L S0 S) : P_X9_undo_0 (fun r T => Q r T ∧ K9 b L S0 T) v0 S := by
  delta P_X9_undo_0 at h ⊢
  obtain ⟨c1, h⟩ := h
  refine ⟨c1, ?_⟩
  obtain ⟨b2, e3, h⟩ := h
  refine ⟨b2, e3, ?_⟩
  obtain ⟨c4, h⟩ := h
  refine ⟨c4, ?_⟩
  refine cm_X0_takeBack (ky_X0_takeBack (b := b) hU (fun q hq => hL q ((by decide : ∀ q ∈ kyL_X0_takeBack, q ∈ kyL_X9_undo) q hq)) (fun z => z.elim) h) h (fun x5 x6 p9 h g7 g8 => ?_)
  have h := h g7 g8
  have K := k9_tr K p9.2
  refine ⟨?_, ?_⟩
  · intro c10
    have h := h.1 c10
    exact ky_X9_undo_17 hU hL hb h K
  · intro c11
    have h := h.2 c11
    exact ky_X9_undo_17 hU hL hb h K
theorem ky_X9_undo {b : Bool} {L : List (Nat × Nat)} (hU : ∀ q ∈ L, q ∈ nyT) (hL : ∀ q ∈ kyL_X9_undo, q ∈ L) (hb : False → b = false) {Q : Int32 → HS → Prop} {v0 : Nat} {S : HS} (h : P_X9_undo v0 Q S) : P_X9_undo v0 (fun r T => Q r T ∧ K9 b L S T) S := ky_X9_undo_0 hU hL hb h (k9_rf b L S)
abbrev kyL_X9_walker : List (Nat × Nat) := []
set_option maxRecDepth 20000 in
set_option maxHeartbeats 1000000 in
theorem ky_X9_walker_21 {b : Bool} {L : List (Nat × Nat)} (hU : ∀ q ∈ L, q ∈ nyT) (hL : ∀ q ∈ kyL_X9_walker, q ∈ L) (hb : False → b = false) {Q : Int32 → HS → Prop} {v0 : Nat} {S0 S : HS} (h : P_X9_walker_21 Q v0 S) (K : K9 b L S0 S) : P_X9_walker_21 (fun r T => Q r T ∧ K9 b L S0 T) v0 S := by
  delta P_X9_walker_21 at h ⊢
  obtain ⟨c1, h⟩ := h
  refine ⟨c1, ?_⟩
  refine cm_X9_refuse (ky_X9_refuse (b := b) hU (fun q hq => hL q ((by decide : ∀ q ∈ kyL_X9_refuse, q ∈ kyL_X9_walker) q hq)) (fun z => z.elim) h) h (fun x2 x3 p5 h g4 => ?_)
  have h := h g4
  have K := k9_tr K p5.2
  exact ⟨h, K⟩
set_option maxRecDepth 20000 in
set_option maxHeartbeats 1000000 in
theorem ky_X9_walker_0 {b : Bool} {L : List (Nat × Nat)} (hU : ∀ q ∈ L, q ∈ nyT) (hL : ∀ q ∈ kyL_X9_walker, q ∈ L) (hb : False → b = false) {Q : Int32 → HS → Prop} {v0 : Nat} {v1 : Int32} {v2 : Int32} {S0 S : HS} (h : P_X9_walker_0 Q v0 v1 v2 S) (K : K9 b L S0 S) : P_X9_walker_0 (fun r T => Q r T ∧ K9 b L S0 T) v0 v1 v2 S := by
  delta P_X9_walker_0 at h ⊢
  obtain ⟨c1, h⟩ := h
  refine ⟨c1, ?_⟩
  obtain ⟨b2, e3, h⟩ := h
  refine ⟨b2, e3, ?_⟩
  obtain ⟨c4, h⟩ := h
  refine ⟨c4, ?_⟩
  refine cm_X8_hasWalker (ky_X8_hasWalker (b := b) hU (fun q hq => hL q ((by decide : ∀ q ∈ kyL_X8_hasWalker, q ∈ kyL_X9_walker) q hq)) (fun z => z.elim) h) h (fun x5 x6 p9 h g7 g8 => ?_)
  have h := h g7 g8
  have K := k9_tr K p9.2
  refine ⟨?_, ?_⟩
  · intro c10
    have h := h.1 c10
    exact ky_X9_walker_21 hU hL hb h K
  · intro c11
    have h := h.2 c11
    refine ⟨?_, ?_⟩
    · intro c12
      have h := h.1 c12
      exact ky_X9_walker_21 hU hL hb h K
    · intro c13
      have h := h.2 c13
      refine ⟨?_, ?_⟩
      · intro c14
        have h := h.1 c14
        obtain ⟨b15, e16, h⟩ := h
        refine ⟨b15, e16, ?_⟩
        obtain ⟨c17, h⟩ := h
        refine ⟨c17, ?_⟩
        obtain ⟨b18, e19, h⟩ := h
        refine ⟨b18, e19, ?_⟩
        obtain ⟨c20, h⟩ := h
        refine ⟨c20, ?_⟩
        obtain ⟨c21, h⟩ := h
        refine ⟨c21, ?_⟩
        obtain ⟨b22, e23, h⟩ := h
        refine ⟨b22, e23, ?_⟩
        obtain ⟨c24, h⟩ := h
        refine ⟨c24, ?_⟩
        refine cm_X6_tell (ky_X6_tell (b := b) hU (fun q hq => hL q ((by decide : ∀ q ∈ kyL_X6_tell, q ∈ kyL_X9_walker) q hq)) (fun z => z.elim) h) h (fun x25 x26 p28 h g27 => ?_)
        have h := h g27
        have K := k9_tr K p28.2
        refine cm_X9_grant (ky_X9_grant (b := b) hU (fun q hq => hL q ((by decide : ∀ q ∈ kyL_X9_grant, q ∈ kyL_X9_walker) q hq)) (fun z => z.elim) h) h (fun x29 x30 p32 h g31 => ?_)
        have h := h g31
        have K := k9_tr K p32.2
        exact ⟨h, K⟩
      · intro c33
        have h := h.2 c33
        exact ky_X9_walker_21 hU hL hb h K
theorem ky_X9_walker {b : Bool} {L : List (Nat × Nat)} (hU : ∀ q ∈ L, q ∈ nyT) (hL : ∀ q ∈ kyL_X9_walker, q ∈ L) (hb : False → b = false) {Q : Int32 → HS → Prop} {v0 : Nat} {v1 : Int32} {v2 : Int32} {S : HS} (h : P_X9_walker v0 v1 v2 Q S) : P_X9_walker v0 v1 v2 (fun r T => Q r T ∧ K9 b L S T) S := ky_X9_walker_0 hU hL hb h (k9_rf b L S)
abbrev kyL_X9_wet : List (Nat × Nat) := [(1, 0), (1, 1)]
set_option maxRecDepth 20000 in
set_option maxHeartbeats 1000000 in
theorem ky_X9_wet_0 {b : Bool} {L : List (Nat × Nat)} (hU : ∀ q ∈ L, q ∈ nyT) (hL : ∀ q ∈ kyL_X9_wet, q ∈ L) (hb : False → b = false) {Q : Int64 → HS → Prop} {v0 : Nat} {v1 : Int32} {v2 : Int32} {v3 : Int32} {v4 : Int32} {v5 : Int32} {v6 : Int32} {S0 S : HS} (h : P_X9_wet_0 Q v0 v1 v2 v3 v4 v5 v6 S) (K : K9 b L S0 S) : P_X9_wet_0 (fun r T => Q r T ∧ K9 b L S0 T) v0 v1 v2 v3 v4 v5 v6 S := by
  delta P_X9_wet_0 at h ⊢
  obtain ⟨c1, h⟩ := h
  refine ⟨c1, ?_⟩
  refine cm_X9_legTrouble (ky_X9_legTrouble (b := b) hU (fun q hq => hL q ((by decide : ∀ q ∈ kyL_X9_legTrouble, q ∈ kyL_X9_wet) q hq)) (fun z => z.elim) h) h (fun x2 x3 p5 h g4 => ?_)
  have h := h g4
  have K := k9_tr K p5.2
  refine cm_X9_refusedBy (ky_X9_refusedBy (b := b) hU (fun q hq => hL q ((by decide : ∀ q ∈ kyL_X9_refusedBy, q ∈ kyL_X9_wet) q hq)) (fun z => z.elim) h) h (fun x6 x7 p10 h g8 g9 => ?_)
  have h := h g8 g9
  have K := k9_tr K p10.2
  refine ⟨?_, ?_⟩
  · intro c11
    have h := h.1 c11
    obtain ⟨b12, e13, h⟩ := h
    refine ⟨b12, e13, ?_⟩
    obtain ⟨b14, e15, h⟩ := h
    refine ⟨b14, e15, ?_⟩
    obtain ⟨c16, h⟩ := h
    refine ⟨c16, ?_⟩
    obtain ⟨b17, e18, h⟩ := h
    refine ⟨b17, e18, ?_⟩
    obtain ⟨c19, h⟩ := h
    refine ⟨c19, ?_⟩
    obtain ⟨c20, h⟩ := h
    refine ⟨c20, ?_⟩
    obtain ⟨b21, e22, h⟩ := h
    refine ⟨b21, e22, ?_⟩
    obtain ⟨b23, e24, h⟩ := h
    refine ⟨b23, e24, ?_⟩
    obtain ⟨c25, h⟩ := h
    refine ⟨c25, ?_⟩
    obtain ⟨b26, e27, h⟩ := h
    refine ⟨b26, e27, ?_⟩
    obtain ⟨c28, h⟩ := h
    refine ⟨c28, ?_⟩
    obtain ⟨c29, h⟩ := h
    refine ⟨c29, ?_⟩
    obtain ⟨b30, e31, h⟩ := h
    refine ⟨b30, e31, ?_⟩
    obtain ⟨b32, e33, h⟩ := h
    refine ⟨b32, e33, ?_⟩
    obtain ⟨c34, h⟩ := h
    refine ⟨c34, ?_⟩
    obtain ⟨b35, e36, h⟩ := h
    refine ⟨b35, e36, ?_⟩
    obtain ⟨c37, h⟩ := h
    refine ⟨c37, ?_⟩
    obtain ⟨c38, h⟩ := h
    refine ⟨c38, ?_⟩
    obtain ⟨b39, e40, h⟩ := h
    refine ⟨b39, e40, ?_⟩
    obtain ⟨c41, h⟩ := h
    refine ⟨c41, ?_⟩
    refine cm_X1_wetOf (ky_X1_wetOf (b := b) hU (fun q hq => hL q ((by decide : ∀ q ∈ kyL_X1_wetOf, q ∈ kyL_X9_wet) q hq)) (fun z => z.elim) h) h (fun x42 x43 p45 h g44 => ?_)
    have h := h g44
    have K := k9_tr K p45.2
    refine cm_X9_fraction (ky_X9_fraction (b := b) hU (fun q hq => hL q ((by decide : ∀ q ∈ kyL_X9_fraction, q ∈ kyL_X9_wet) q hq)) (fun z => z.elim) h) h (fun x46 x47 p49 h g48 => ?_)
    have h := h g48
    have K := k9_tr K p49.2
    exact ⟨h, K⟩
  · intro c50
    have h := h.2 c50
    exact ⟨h, K⟩
theorem ky_X9_wet {b : Bool} {L : List (Nat × Nat)} (hU : ∀ q ∈ L, q ∈ nyT) (hL : ∀ q ∈ kyL_X9_wet, q ∈ L) (hb : False → b = false) {Q : Int64 → HS → Prop} {v0 : Nat} {v1 : Int32} {v2 : Int32} {v3 : Int32} {v4 : Int32} {v5 : Int32} {v6 : Int32} {S : HS} (h : P_X9_wet v0 v1 v2 v3 v4 v5 v6 Q S) : P_X9_wet v0 v1 v2 v3 v4 v5 v6 (fun r T => Q r T ∧ K9 b L S T) S := ky_X9_wet_0 hU hL hb h (k9_rf b L S)
abbrev kyL_X9_wetness : List (Nat × Nat) := []
set_option maxRecDepth 20000 in
set_option maxHeartbeats 1000000 in
theorem ky_X9_wetness_27 {b : Bool} {L : List (Nat × Nat)} (hU : ∀ q ∈ L, q ∈ nyT) (hL : ∀ q ∈ kyL_X9_wetness, q ∈ L) (hb : False → b = false) {Q : Int64 → HS → Prop} {v0 : Nat} {S0 S : HS} (h : P_X9_wetness_27 Q v0 S) (K : K9 b L S0 S) : P_X9_wetness_27 (fun r T => Q r T ∧ K9 b L S0 T) v0 S := by
  delta P_X9_wetness_27 at h ⊢
  obtain ⟨c1, h⟩ := h
  refine ⟨c1, ?_⟩
  refine cm_X9_refuse (ky_X9_refuse (b := b) hU (fun q hq => hL q ((by decide : ∀ q ∈ kyL_X9_refuse, q ∈ kyL_X9_wetness) q hq)) (fun z => z.elim) h) h (fun x2 x3 p5 h g4 => ?_)
  have h := h g4
  have K := k9_tr K p5.2
  exact ⟨h, K⟩
set_option maxRecDepth 20000 in
set_option maxHeartbeats 1000000 in
theorem ky_X9_wetness_0 {b : Bool} {L : List (Nat × Nat)} (hU : ∀ q ∈ L, q ∈ nyT) (hL : ∀ q ∈ kyL_X9_wetness, q ∈ L) (hb : False → b = false) {Q : Int64 → HS → Prop} {v0 : Nat} {v1 : Int32} {S0 S : HS} (h : P_X9_wetness_0 Q v0 v1 S) (K : K9 b L S0 S) : P_X9_wetness_0 (fun r T => Q r T ∧ K9 b L S0 T) v0 v1 S := by
  delta P_X9_wetness_0 at h ⊢
  obtain ⟨c1, h⟩ := h
  refine ⟨c1, ?_⟩
  obtain ⟨b2, e3, h⟩ := h
  refine ⟨b2, e3, ?_⟩
  obtain ⟨c4, h⟩ := h
  refine ⟨c4, ?_⟩
  refine cm_X0_isOn (ky_X0_isOn (b := b) hU (fun q hq => hL q ((by decide : ∀ q ∈ kyL_X0_isOn, q ∈ kyL_X9_wetness) q hq)) (fun z => z.elim) h) h (fun x5 x6 p9 h g7 g8 => ?_)
  have h := h g7 g8
  have K := k9_tr K p9.2
  refine ⟨?_, ?_⟩
  · intro c10
    have h := h.1 c10
    exact ky_X9_wetness_27 hU hL hb h K
  · intro c11
    have h := h.2 c11
    obtain ⟨b12, e13, h⟩ := h
    refine ⟨b12, e13, ?_⟩
    obtain ⟨b14, e15, h⟩ := h
    refine ⟨b14, e15, ?_⟩
    obtain ⟨c16, h⟩ := h
    refine ⟨c16, ?_⟩
    intro x18 e17
    have h := h x18 e17
    obtain ⟨c19, h⟩ := h
    refine ⟨c19, ?_⟩
    refine cm_X8_hasWalker (ky_X8_hasWalker (b := b) hU (fun q hq => hL q ((by decide : ∀ q ∈ kyL_X8_hasWalker, q ∈ kyL_X9_wetness) q hq)) (fun z => z.elim) h) h (fun x20 x21 p24 h g22 g23 => ?_)
    have h := h g22 g23
    have K := k9_tr K p24.2
    refine ⟨?_, ?_⟩
    · intro c25
      have h := h.1 c25
      intro x27 e26
      have h := h x27 e26
      have K := k9_I K e26
      obtain ⟨b28, e29, h⟩ := h
      refine ⟨b28, e29, ?_⟩
      obtain ⟨c30, h⟩ := h
      refine ⟨c30, ?_⟩
      obtain ⟨b31, e32, h⟩ := h
      refine ⟨b31, e32, ?_⟩
      obtain ⟨c33, h⟩ := h
      refine ⟨c33, ?_⟩
      refine cm_X2_allGot (ky_X2_allGot (b := b) hU (fun q hq => hL q ((by decide : ∀ q ∈ kyL_X2_allGot, q ∈ kyL_X9_wetness) q hq)) (fun z => z.elim) h) h (fun x34 x35 p37 h g36 => ?_)
      have h := h g36
      have K := k9_tr K p37.2
      obtain ⟨b38, e39, h⟩ := h
      refine ⟨b38, e39, ?_⟩
      obtain ⟨c40, h⟩ := h
      refine ⟨c40, ?_⟩
      obtain ⟨b41, e42, h⟩ := h
      refine ⟨b41, e42, ?_⟩
      obtain ⟨b43, e44, h⟩ := h
      refine ⟨b43, e44, ?_⟩
      obtain ⟨c45, h⟩ := h
      refine ⟨c45, ?_⟩
      intro x47 e46
      have h := h x47 e46
      obtain ⟨c48, h⟩ := h
      refine ⟨c48, ?_⟩
      obtain ⟨c49, h⟩ := h
      refine ⟨c49, ?_⟩
      obtain ⟨b50, e51, h⟩ := h
      refine ⟨b50, e51, ?_⟩
      refine cm_X9_coatParts (ky_X9_coatParts (b := b) hU (fun q hq => hL q ((by decide : ∀ q ∈ kyL_X9_coatParts, q ∈ kyL_X9_wetness) q hq)) (fun z => z.elim) h) h (fun x52 x53 p55 h g54 => ?_)
      have h := h g54
      have K := k9_tr K p55.2
      intro x57 e56
      have h := h x57 e56
      intro x59 e58
      have h := h x59 e58
      refine cm_X9_fraction (ky_X9_fraction (b := b) hU (fun q hq => hL q ((by decide : ∀ q ∈ kyL_X9_fraction, q ∈ kyL_X9_wetness) q hq)) (fun z => z.elim) h) h (fun x60 x61 p63 h g62 => ?_)
      have h := h g62
      have K := k9_tr K p63.2
      exact ⟨h, K⟩
    · intro c64
      have h := h.2 c64
      exact ky_X9_wetness_27 hU hL hb h K
theorem ky_X9_wetness {b : Bool} {L : List (Nat × Nat)} (hU : ∀ q ∈ L, q ∈ nyT) (hL : ∀ q ∈ kyL_X9_wetness, q ∈ L) (hb : False → b = false) {Q : Int64 → HS → Prop} {v0 : Nat} {v1 : Int32} {S : HS} (h : P_X9_wetness v0 v1 Q S) : P_X9_wetness v0 v1 (fun r T => Q r T ∧ K9 b L S T) S := ky_X9_wetness_0 hU hL hb h (k9_rf b L S)
abbrev kyL_X9_world : List (Nat × Nat) := [(4, 11)]
set_option maxRecDepth 20000 in
set_option maxHeartbeats 1000000 in
theorem ky_X9_world_12 {b : Bool} {L : List (Nat × Nat)} (hU : ∀ q ∈ L, q ∈ nyT) (hL : ∀ q ∈ kyL_X9_world, q ∈ L) (hb : False → b = false) {Q : Int32 → HS → Prop} {v0 : Nat} {S0 S : HS} (h : P_X9_world_12 Q v0 S) (K : K9 b L S0 S) : P_X9_world_12 (fun r T => Q r T ∧ K9 b L S0 T) v0 S := by
  delta P_X9_world_12 at h ⊢
  obtain ⟨c1, h⟩ := h
  refine ⟨c1, ?_⟩
  refine cm_X9_refuse (ky_X9_refuse (b := b) hU (fun q hq => hL q ((by decide : ∀ q ∈ kyL_X9_refuse, q ∈ kyL_X9_world) q hq)) (fun z => z.elim) h) h (fun x2 x3 p5 h g4 => ?_)
  have h := h g4
  have K := k9_tr K p5.2
  exact ⟨h, K⟩
set_option maxRecDepth 20000 in
set_option maxHeartbeats 1000000 in
theorem ky_X9_world_0 {b : Bool} {L : List (Nat × Nat)} (hU : ∀ q ∈ L, q ∈ nyT) (hL : ∀ q ∈ kyL_X9_world, q ∈ L) (hb : False → b = false) {Q : Int32 → HS → Prop} {v0 : Nat} {v1 : Int32} {S0 S : HS} (h : P_X9_world_0 Q v0 v1 S) (K : K9 b L S0 S) : P_X9_world_0 (fun r T => Q r T ∧ K9 b L S0 T) v0 v1 S := by
  delta P_X9_world_0 at h ⊢
  refine ⟨?_, ?_⟩
  · intro c1
    have h := h.1 c1
    exact ky_X9_world_12 hU hL hb h K
  · intro c2
    have h := h.2 c2
    obtain ⟨c3, h⟩ := h
    refine ⟨c3, ?_⟩
    have o4 := c3
    intro x6 e5
    have h := h x6 e5
    refine ⟨?_, ?_⟩
    · intro c7
      have h := h.1 c7
      obtain ⟨b8, e9, h⟩ := h
      refine ⟨b8, e9, ?_⟩
      obtain ⟨b10, e11, h⟩ := h
      refine ⟨b10, e11, ?_⟩
      obtain ⟨c12, h⟩ := h
      refine ⟨c12, ?_⟩
      refine cm_X4_read (ky_X4_read (b := b) hU (fun q hq => hL q ((by decide : ∀ q ∈ kyL_X4_read, q ∈ kyL_X9_world) q hq)) (fun z => z.elim) h) h (fun x13 x14 p17 h g15 g16 => ?_)
      have h := h g15 g16
      have K := k9_tr K p17.2
      have o4 := gr_ob p17.2.1 o4
      intro x19 e18
      have h := h x19 e18
      have K := k9_I K e18
      have o4 := ob_wI o4 e18
      obtain ⟨b20, e21, h⟩ := h
      refine ⟨b20, e21, ?_⟩
      obtain ⟨c22, h⟩ := h
      refine ⟨c22, ?_⟩
      intro x24 e23
      have h := h x24 e23
      intro x26 e25
      have h := h x26 e25
      have K := k9_I K e25
      have o4 := ob_wI o4 e25
      obtain ⟨b27, e28, h⟩ := h
      refine ⟨b27, e28, ?_⟩
      obtain ⟨c29, h⟩ := h
      refine ⟨c29, ?_⟩
      intro x31 e30
      have h := h x31 e30
      intro x33 e32
      have h := h x33 e32
      have K := k9_I K e32
      have o4 := ob_wI o4 e32
      refine ⟨?_, ?_⟩
      · intro c34
        have h := h.1 c34
        obtain ⟨b35, e36, h⟩ := h
        refine ⟨b35, e36, ?_⟩
        obtain ⟨b37, e38, h⟩ := h
        refine ⟨b37, e38, ?_⟩
        obtain ⟨c39, h⟩ := h
        refine ⟨c39, ?_⟩
        refine cm_X4_exchange (ky_X4_exchange (b := b) hU (fun q hq => hL q ((by decide : ∀ q ∈ kyL_X4_exchange, q ∈ kyL_X9_world) q hq)) (fun z => z.elim) h) h (fun x40 x41 p43 h g42 => ?_)
        have h := h g42
        have K := k9_tr K p43.2
        have o4 := gr_ob p43.2.1 o4
        intro x45 e44
        have h := h x45 e44
        have K := k9_R K hU e44 o4 (by decide) (by decide)
        have o4 := ob_wR o4 e44
        obtain ⟨b46, e47, h⟩ := h
        refine ⟨b46, e47, ?_⟩
        obtain ⟨c48, h⟩ := h
        refine ⟨c48, ?_⟩
        refine cm_X7_forget (ky_X7_forget (b := b) hU (fun q hq => hL q ((by decide : ∀ q ∈ kyL_X7_forget, q ∈ kyL_X9_world) q hq)) (fun z => z.elim) h) h (fun x49 p51 h g50 => ?_)
        have h := h g50
        have K := k9_tr K p51.2
        have o4 := gr_ob p51.2.1 o4
        obtain ⟨b52, e53, h⟩ := h
        refine ⟨b52, e53, ?_⟩
        obtain ⟨c54, h⟩ := h
        refine ⟨c54, ?_⟩
        refine cm_X0_end (ky_X0_end (b := b) hU (fun q hq => hL q ((by decide : ∀ q ∈ kyL_X0_end, q ∈ kyL_X9_world) q hq)) (fun z => z.elim) h) h (fun x55 p57 h g56 => ?_)
        have h := h g56
        have K := k9_tr K p57.2
        have o4 := gr_ob p57.2.1 o4
        obtain ⟨b58, e59, h⟩ := h
        refine ⟨b58, e59, ?_⟩
        obtain ⟨c60, h⟩ := h
        refine ⟨c60, ?_⟩
        intro x62 e61
        have h := h x62 e61
        refine cm_X9_grant (ky_X9_grant (b := b) hU (fun q hq => hL q ((by decide : ∀ q ∈ kyL_X9_grant, q ∈ kyL_X9_world) q hq)) (fun z => z.elim) h) h (fun x63 x64 p66 h g65 => ?_)
        have h := h g65
        have K := k9_tr K p66.2
        have o4 := gr_ob p66.2.1 o4
        exact ⟨h, K⟩
      · intro c67
        have h := h.2 c67
        refine cm_X9_refuse (ky_X9_refuse (b := b) hU (fun q hq => hL q ((by decide : ∀ q ∈ kyL_X9_refuse, q ∈ kyL_X9_world) q hq)) (fun z => z.elim) h) h (fun x68 x69 p71 h g70 => ?_)
        have h := h g70
        have K := k9_tr K p71.2
        have o4 := gr_ob p71.2.1 o4
        exact ⟨h, K⟩
    · intro c72
      have h := h.2 c72
      exact ky_X9_world_12 hU hL hb h K
theorem ky_X9_world {b : Bool} {L : List (Nat × Nat)} (hU : ∀ q ∈ L, q ∈ nyT) (hL : ∀ q ∈ kyL_X9_world, q ∈ L) (hb : False → b = false) {Q : Int32 → HS → Prop} {v0 : Nat} {v1 : Int32} {S : HS} (h : P_X9_world v0 v1 Q S) : P_X9_world v0 v1 (fun r T => Q r T ∧ K9 b L S T) S := ky_X9_world_0 hU hL hb h (k9_rf b L S)
abbrev kyL_X9_worst : List (Nat × Nat) := [(1, 0), (1, 1)]
set_option maxRecDepth 20000 in
set_option maxHeartbeats 1000000 in
theorem ky_X9_worst_0 {b : Bool} {L : List (Nat × Nat)} (hU : ∀ q ∈ L, q ∈ nyT) (hL : ∀ q ∈ kyL_X9_worst, q ∈ L) (hb : False → b = false) {Q : Int32 → HS → Prop} {v0 : Nat} {v1 : Int32} {v2 : Int32} {v3 : Int32} {v4 : Int32} {S0 S : HS} (h : P_X9_worst_0 Q v0 v1 v2 v3 v4 S) (K : K9 b L S0 S) : P_X9_worst_0 (fun r T => Q r T ∧ K9 b L S0 T) v0 v1 v2 v3 v4 S := by
  delta P_X9_worst_0 at h ⊢
  obtain ⟨c1, h⟩ := h
  refine ⟨c1, ?_⟩
  refine cm_X9_tripTrouble (ky_X9_tripTrouble (b := b) hU (fun q hq => hL q ((by decide : ∀ q ∈ kyL_X9_tripTrouble, q ∈ kyL_X9_worst) q hq)) (fun z => z.elim) h) h (fun x2 x3 p5 h g4 => ?_)
  have h := h g4
  have K := k9_tr K p5.2
  refine cm_X9_refusedBy (ky_X9_refusedBy (b := b) hU (fun q hq => hL q ((by decide : ∀ q ∈ kyL_X9_refusedBy, q ∈ kyL_X9_worst) q hq)) (fun z => z.elim) h) h (fun x6 x7 p10 h g8 g9 => ?_)
  have h := h g8 g9
  have K := k9_tr K p10.2
  refine ⟨?_, ?_⟩
  · intro c11
    have h := h.1 c11
    obtain ⟨b12, e13, h⟩ := h
    refine ⟨b12, e13, ?_⟩
    obtain ⟨b14, e15, h⟩ := h
    refine ⟨b14, e15, ?_⟩
    obtain ⟨c16, h⟩ := h
    refine ⟨c16, ?_⟩
    obtain ⟨b17, e18, h⟩ := h
    refine ⟨b17, e18, ?_⟩
    obtain ⟨c19, h⟩ := h
    refine ⟨c19, ?_⟩
    obtain ⟨c20, h⟩ := h
    refine ⟨c20, ?_⟩
    obtain ⟨b21, e22, h⟩ := h
    refine ⟨b21, e22, ?_⟩
    obtain ⟨b23, e24, h⟩ := h
    refine ⟨b23, e24, ?_⟩
    obtain ⟨c25, h⟩ := h
    refine ⟨c25, ?_⟩
    obtain ⟨b26, e27, h⟩ := h
    refine ⟨b26, e27, ?_⟩
    obtain ⟨c28, h⟩ := h
    refine ⟨c28, ?_⟩
    obtain ⟨c29, h⟩ := h
    refine ⟨c29, ?_⟩
    obtain ⟨b30, e31, h⟩ := h
    refine ⟨b30, e31, ?_⟩
    obtain ⟨b32, e33, h⟩ := h
    refine ⟨b32, e33, ?_⟩
    obtain ⟨c34, h⟩ := h
    refine ⟨c34, ?_⟩
    obtain ⟨b35, e36, h⟩ := h
    refine ⟨b35, e36, ?_⟩
    obtain ⟨c37, h⟩ := h
    refine ⟨c37, ?_⟩
    obtain ⟨c38, h⟩ := h
    refine ⟨c38, ?_⟩
    obtain ⟨b39, e40, h⟩ := h
    refine ⟨b39, e40, ?_⟩
    obtain ⟨c41, h⟩ := h
    refine ⟨c41, ?_⟩
    refine cm_X1_worstSpeed (ky_X1_worstSpeed (b := b) hU (fun q hq => hL q ((by decide : ∀ q ∈ kyL_X1_worstSpeed, q ∈ kyL_X9_worst) q hq)) (fun z => z.elim) h) h (fun x42 x43 p45 h g44 => ?_)
    have h := h g44
    have K := k9_tr K p45.2
    exact ⟨h, K⟩
  · intro c46
    have h := h.2 c46
    exact ⟨h, K⟩
theorem ky_X9_worst {b : Bool} {L : List (Nat × Nat)} (hU : ∀ q ∈ L, q ∈ nyT) (hL : ∀ q ∈ kyL_X9_worst, q ∈ L) (hb : False → b = false) {Q : Int32 → HS → Prop} {v0 : Nat} {v1 : Int32} {v2 : Int32} {v3 : Int32} {v4 : Int32} {S : HS} (h : P_X9_worst v0 v1 v2 v3 v4 Q S) : P_X9_worst v0 v1 v2 v3 v4 (fun r T => Q r T ∧ K9 b L S T) S := ky_X9_worst_0 hU hL hb h (k9_rf b L S)
end
section
/-! what the readers leave as it was: the day's own ints -/
abbrev pD : List (Nat × Nat) := [(0, 0), (0, 1), (0, 2), (0, 3), (11, 19), (11, 20), (11, 24), (11, 25)]
def KD5 (S T : HS) : Prop := Gr S T ∧ ∀ q ∈ pD, ∀ a, ob S a q.1 → fI T a q.2 = fI S a q.2
section KD5s
variable {S T U : HS} {a k j : Nat}
theorem kd5_rf (S : HS) : KD5 S S := ⟨gr_rf S, fun _ _ _ _ => rfl⟩
theorem kd5_tr (h : KD5 S T) (g : KD5 T U) : KD5 S U := ⟨gr_tr h.1 g.1, fun q hq a o => (g.2 q hq a (gr_ob h.1 o)).trans (h.2 q hq a o)⟩
theorem kd5_ne (h : KD5 S T) (o : ob T a k) : KN S a k := fun b i ob hi z => hi (ob_inj (gr_ob h.1 ob) (z ▸ o))
theorem kd5_I {v : Int32} (h : KD5 S T) (e : U = sI T a j v) (hn : KN S a k) (hj : (k, j) ∉ pD) : KD5 S U := by
  rw [e]
  refine ⟨h.1, fun q hq b o => ?_⟩
  refine Eq.trans ?_ (h.2 q hq b o)
  by_cases hk : q.1 = k
  · exact u2_ne _ _ (fun z => hj (by rw [← hk, ← z.2]; exact hq))
  · exact u2_ne _ _ (fun z => hn b q.1 o hk z.1)
theorem kd5_A {v : Int32} (h : KD5 S T) (e : U = sI T a j v) (hn : KN S a k) (hk : ∀ q ∈ pD, q.1 ≠ k) : KD5 S U := by
  rw [e]
  refine ⟨h.1, fun q hq b o => ?_⟩
  refine Eq.trans ?_ (h.2 q hq b o)
  exact u2_ne _ _ (fun z => hn b q.1 o (hk q hq) z.1)
theorem kd5_J {v : Int64} (h : KD5 S T) (e : U = sJ T a j v) : KD5 S U := by
  rw [e]
  exact h
theorem kd5_R {v : Option Nat} (h : KD5 S T) (e : U = sR T a j v) : KD5 S U := by
  rw [e]
  exact h
theorem kd5_W {n : Nat} (h : KD5 S T) (ha : a ∉ hL T) (e : U = nW T a k n) : KD5 S U := by
  refine kd5_tr h ⟨gr_of_new e ha, fun q _ b o => ?_⟩
  have q9 : fI U b = fI T b := by
    rw [e]
    exact va_up_ne _ _ (fun z => ha (z ▸ o.1))
  rw [q9]
end KD5s
set_option maxRecDepth 20000 in
set_option maxHeartbeats 1000000 in
theorem kdB_X10_find_2 {Q : Int32 → HS → Prop} {X2 X2_2 : Nat → Int64 → Int32 → HS → Prop} {v0 : Nat} {v1 : Int64} {v3 : Int32} {S0 S : HS} (h : B_X10_find_2 Q X2 v0 v1 v3 S) (K : KD5 S0 S) (hX2 : ∀ (u0 : Nat) (u1 : Int64) (u2 : Int32) (u3 : HS), X2 u0 u1 u2 u3 → KD5 S0 u3 → X2_2 u0 u1 u2 u3) : B_X10_find_2 (fun r T => Q r T ∧ KD5 S0 T) X2_2 v0 v1 v3 S := by
  delta B_X10_find_2 at h ⊢
  obtain ⟨c1, h⟩ := h
  refine ⟨c1, ?_⟩
  have n2 := kd5_ne K c1
  intro x4 e3
  have h := h x4 e3
  refine ⟨?_, ?_⟩
  · intro c5
    have h := h.1 c5
    exact ⟨h, K⟩
  · intro c6
    have h := h.2 c6
    obtain ⟨b7, e8, h⟩ := h
    refine ⟨b7, e8, ?_⟩
    obtain ⟨c9, h⟩ := h
    refine ⟨c9, ?_⟩
    have n10 := kd5_ne K c9
    obtain ⟨c11, h⟩ := h
    refine ⟨c11, ?_⟩
    intro x13 e12
    have h := h x13 e12
    refine ⟨?_, ?_⟩
    · intro c14
      have h := h.1 c14
      intro x16 e15
      have h := h x16 e15
      exact hX2 _ _ _ _ h K
    · intro c17
      have h := h.2 c17
      exact ⟨h, K⟩
theorem kd_X10_find_2 {Q : Int32 → HS → Prop} {v0 : Nat} {v1 : Int64} {v3 : Int32} {S0 S : HS} (h : P_X10_find_2 Q v0 v1 v3 S) (K : KD5 S0 S) : P_X10_find_2 (fun r T => Q r T ∧ KD5 S0 T) v0 v1 v3 S := h (fun v0 v1 v3 S => KD5 S0 S → P_X10_find_2 (fun r T => Q r T ∧ KD5 S0 T) v0 v1 v3 S) (fun v0 v1 v3 S hB K => fd_X10_find_2 (kdB_X10_find_2 hB K (fun _ _ _ _ hx K => hx K))) K
set_option maxRecDepth 20000 in
set_option maxHeartbeats 1000000 in
theorem kd_X10_find_0 {Q : Int32 → HS → Prop} {v0 : Nat} {v1 : Int64} {S0 S : HS} (h : P_X10_find_0 Q v0 v1 S) (K : KD5 S0 S) : P_X10_find_0 (fun r T => Q r T ∧ KD5 S0 T) v0 v1 S := by
  delta P_X10_find_0 at h ⊢
  exact kd_X10_find_2 h K
theorem kd_X10_find {Q : Int32 → HS → Prop} {v0 : Nat} {v1 : Int64} {S : HS} (h : P_X10_find v0 v1 Q S) : P_X10_find v0 v1 (fun r T => Q r T ∧ KD5 S T) S := kd_X10_find_0 h (kd5_rf S)
set_option maxRecDepth 20000 in
set_option maxHeartbeats 1000000 in
theorem kd_X10_init_0 {Q : HS → Prop} {v0 : Nat} {S0 S : HS} (h : P_X10_init_0 Q v0 S) (K : KD5 S0 S) : P_X10_init_0 (fun T => Q T ∧ KD5 S0 T) v0 S := by
  delta P_X10_init_0 at h ⊢
  intro x2 e1
  have h := h x2 e1
  intro x4 e3
  have h := h x4 e3
  have K := kd5_W K e1 e3
  obtain ⟨c5, h⟩ := h
  refine ⟨c5, ?_⟩
  have n6 := kd5_ne K c5
  intro x8 e7
  have h := h x8 e7
  have K := kd5_R K e7
  intro x10 e9
  have h := h x10 e9
  intro x12 e11
  have h := h x12 e11
  have K := kd5_W K e9 e11
  intro x14 e13
  have h := h x14 e13
  have K := kd5_R K e13
  intro x16 e15
  have h := h x16 e15
  intro x18 e17
  have h := h x18 e17
  have K := kd5_W K e15 e17
  intro x20 e19
  have h := h x20 e19
  have K := kd5_R K e19
  intro x22 e21
  have h := h x22 e21
  intro x24 e23
  have h := h x24 e23
  have K := kd5_W K e21 e23
  intro x26 e25
  have h := h x26 e25
  have K := kd5_R K e25
  intro x28 e27
  have h := h x28 e27
  intro x30 e29
  have h := h x30 e29
  have K := kd5_W K e27 e29
  intro x32 e31
  have h := h x32 e31
  have K := kd5_R K e31
  intro x34 e33
  have h := h x34 e33
  intro x36 e35
  have h := h x36 e35
  have K := kd5_W K e33 e35
  intro x38 e37
  have h := h x38 e37
  have K := kd5_R K e37
  intro x40 e39
  have h := h x40 e39
  intro x42 e41
  have h := h x42 e41
  have K := kd5_W K e39 e41
  intro x44 e43
  have h := h x44 e43
  have K := kd5_R K e43
  intro x46 e45
  have h := h x46 e45
  intro x48 e47
  have h := h x48 e47
  have K := kd5_W K e45 e47
  intro x50 e49
  have h := h x50 e49
  have K := kd5_R K e49
  intro x52 e51
  have h := h x52 e51
  intro x54 e53
  have h := h x54 e53
  have K := kd5_W K e51 e53
  intro x56 e55
  have h := h x56 e55
  have K := kd5_R K e55
  intro x58 e57
  have h := h x58 e57
  intro x60 e59
  have h := h x60 e59
  have K := kd5_W K e57 e59
  intro x62 e61
  have h := h x62 e61
  have K := kd5_R K e61
  intro x64 e63
  have h := h x64 e63
  intro x66 e65
  have h := h x66 e65
  have K := kd5_W K e63 e65
  intro x68 e67
  have h := h x68 e67
  have K := kd5_R K e67
  intro x70 e69
  have h := h x70 e69
  intro x72 e71
  have h := h x72 e71
  have K := kd5_W K e69 e71
  intro x74 e73
  have h := h x74 e73
  have K := kd5_R K e73
  intro x76 e75
  have h := h x76 e75
  intro x78 e77
  have h := h x78 e77
  have K := kd5_W K e75 e77
  intro x80 e79
  have h := h x80 e79
  have K := kd5_R K e79
  intro x82 e81
  have h := h x82 e81
  intro x84 e83
  have h := h x84 e83
  have K := kd5_W K e81 e83
  intro x86 e85
  have h := h x86 e85
  have K := kd5_R K e85
  intro x88 e87
  have h := h x88 e87
  intro x90 e89
  have h := h x90 e89
  have K := kd5_W K e87 e89
  intro x92 e91
  have h := h x92 e91
  have K := kd5_R K e91
  intro x94 e93
  have h := h x94 e93
  intro x96 e95
  have h := h x96 e95
  have K := kd5_W K e93 e95
  intro x98 e97
  have h := h x98 e97
  have K := kd5_R K e97
  intro x100 e99
  have h := h x100 e99
  intro x102 e101
  have h := h x102 e101
  have K := kd5_W K e99 e101
  intro x104 e103
  have h := h x104 e103
  have K := kd5_R K e103
  intro x106 e105
  have h := h x106 e105
  intro x108 e107
  have h := h x108 e107
  have K := kd5_W K e105 e107
  intro x110 e109
  have h := h x110 e109
  have K := kd5_R K e109
  intro x112 e111
  have h := h x112 e111
  intro x114 e113
  have h := h x114 e113
  have K := kd5_W K e111 e113
  intro x116 e115
  have h := h x116 e115
  have K := kd5_R K e115
  intro x118 e117
  have h := h x118 e117
  intro x120 e119
  have h := h x120 e119
  have K := kd5_W K e117 e119
  intro x122 e121
  have h := h x122 e121
  have K := kd5_R K e121
  intro x124 e123
  have h := h x124 e123
  intro x126 e125
  have h := h x126 e125
  have K := kd5_W K e123 e125
  intro x128 e127
  have h := h x128 e127
  have K := kd5_R K e127
  intro x130 e129
  have h := h x130 e129
  intro x132 e131
  have h := h x132 e131
  have K := kd5_W K e129 e131
  intro x134 e133
  have h := h x134 e133
  have K := kd5_R K e133
  intro x136 e135
  have h := h x136 e135
  intro x138 e137
  have h := h x138 e137
  have K := kd5_W K e135 e137
  intro x140 e139
  have h := h x140 e139
  have K := kd5_R K e139
  intro x142 e141
  have h := h x142 e141
  intro x144 e143
  have h := h x144 e143
  have K := kd5_W K e141 e143
  intro x146 e145
  have h := h x146 e145
  have K := kd5_R K e145
  exact ⟨h, K⟩
theorem kd_X10_init {Q : HS → Prop} {v0 : Nat} {S : HS} (h : P_X10_init v0 Q S) : P_X10_init v0 (fun T => Q T ∧ KD5 S T) S := kd_X10_init_0 h (kd5_rf S)
set_option maxRecDepth 20000 in
set_option maxHeartbeats 1000000 in
theorem kd_X11_in_0 {Q : Int32 → HS → Prop} {v0 : Int32} {v1 : Int32} {v2 : Int32} {S0 S : HS} (h : P_X11_in_0 Q v0 v1 v2 S) (K : KD5 S0 S) : P_X11_in_0 (fun r T => Q r T ∧ KD5 S0 T) v0 v1 v2 S := by
  delta P_X11_in_0 at h ⊢
  refine ⟨?_, ?_⟩
  · intro c1
    have h := h.1 c1
    exact ⟨h, K⟩
  · intro c2
    have h := h.2 c2
    refine ⟨?_, ?_⟩
    · intro c3
      have h := h.1 c3
      exact ⟨h, K⟩
    · intro c4
      have h := h.2 c4
      exact ⟨h, K⟩
theorem kd_X11_in {Q : Int32 → HS → Prop} {v0 : Int32} {v1 : Int32} {v2 : Int32} {S : HS} (h : P_X11_in v0 v1 v2 Q S) : P_X11_in v0 v1 v2 (fun r T => Q r T ∧ KD5 S T) S := kd_X11_in_0 h (kd5_rf S)
set_option maxRecDepth 20000 in
set_option maxHeartbeats 1000000 in
theorem kd_X11_flaw_0 {Q : HS → Prop} {v0 : Nat} {v1 : Int32} {S0 S : HS} (h : P_X11_flaw_0 Q v0 v1 S) (K : KD5 S0 S) : P_X11_flaw_0 (fun T => Q T ∧ KD5 S0 T) v0 v1 S := by
  delta P_X11_flaw_0 at h ⊢
  obtain ⟨c1, h⟩ := h
  refine ⟨c1, ?_⟩
  have n2 := kd5_ne K c1
  intro x4 e3
  have h := h x4 e3
  refine ⟨?_, ?_⟩
  · intro c5
    have h := h.1 c5
    intro x7 e6
    have h := h x7 e6
    have K := kd5_I K e6 n2 (by decide)
    intro x9 e8
    have h := h x9 e8
    intro x11 e10
    have h := h x11 e10
    have K := kd5_I K e10 n2 (by decide)
    intro x13 e12
    have h := h x13 e12
    have K := kd5_I K e12 n2 (by decide)
    exact ⟨h, K⟩
  · intro c14
    have h := h.2 c14
    exact ⟨h, K⟩
theorem kd_X11_flaw {Q : HS → Prop} {v0 : Nat} {v1 : Int32} {S : HS} (h : P_X11_flaw v0 v1 Q S) : P_X11_flaw v0 v1 (fun T => Q T ∧ KD5 S T) S := kd_X11_flaw_0 h (kd5_rf S)
set_option maxRecDepth 20000 in
set_option maxHeartbeats 1000000 in
theorem kd_X11_byteAt_0 {Q : Int32 → HS → Prop} {v0 : Nat} {v1 : Int32} {S0 S : HS} (h : P_X11_byteAt_0 Q v0 v1 S) (K : KD5 S0 S) : P_X11_byteAt_0 (fun r T => Q r T ∧ KD5 S0 T) v0 v1 S := by
  delta P_X11_byteAt_0 at h ⊢
  obtain ⟨c1, h⟩ := h
  refine ⟨c1, ?_⟩
  have n2 := kd5_ne K c1
  intro x4 e3
  have h := h x4 e3
  refine ⟨?_, ?_⟩
  · intro c5
    have h := h.1 c5
    exact ⟨h, K⟩
  · intro c6
    have h := h.2 c6
    obtain ⟨b7, e8, h⟩ := h
    refine ⟨b7, e8, ?_⟩
    obtain ⟨c9, h⟩ := h
    refine ⟨c9, ?_⟩
    have n10 := kd5_ne K c9
    obtain ⟨c11, h⟩ := h
    refine ⟨c11, ?_⟩
    intro x13 e12
    have h := h x13 e12
    exact ⟨h, K⟩
theorem kd_X11_byteAt {Q : Int32 → HS → Prop} {v0 : Nat} {v1 : Int32} {S : HS} (h : P_X11_byteAt v0 v1 Q S) : P_X11_byteAt v0 v1 (fun r T => Q r T ∧ KD5 S T) S := kd_X11_byteAt_0 h (kd5_rf S)
set_option maxRecDepth 20000 in
set_option maxHeartbeats 1000000 in
theorem kd_X11_isDigit_0 {Q : Int32 → HS → Prop} {v0 : Int32} {S0 S : HS} (h : P_X11_isDigit_0 Q v0 S) (K : KD5 S0 S) : P_X11_isDigit_0 (fun r T => Q r T ∧ KD5 S0 T) v0 S := by
  delta P_X11_isDigit_0 at h ⊢
  refine ⟨?_, ?_⟩
  · intro c1
    have h := h.1 c1
    exact ⟨h, K⟩
  · intro c2
    have h := h.2 c2
    refine ⟨?_, ?_⟩
    · intro c3
      have h := h.1 c3
      exact ⟨h, K⟩
    · intro c4
      have h := h.2 c4
      exact ⟨h, K⟩
theorem kd_X11_isDigit {Q : Int32 → HS → Prop} {v0 : Int32} {S : HS} (h : P_X11_isDigit v0 Q S) : P_X11_isDigit v0 (fun r T => Q r T ∧ KD5 S T) S := kd_X11_isDigit_0 h (kd5_rf S)
set_option maxRecDepth 20000 in
set_option maxHeartbeats 1000000 in
theorem kd_X11_isLetter_0 {Q : Int32 → HS → Prop} {v0 : Int32} {S0 S : HS} (h : P_X11_isLetter_0 Q v0 S) (K : KD5 S0 S) : P_X11_isLetter_0 (fun r T => Q r T ∧ KD5 S0 T) v0 S := by
  delta P_X11_isLetter_0 at h ⊢
  refine ⟨?_, ?_⟩
  · intro c1
    have h := h.1 c1
    exact ⟨h, K⟩
  · intro c2
    have h := h.2 c2
    refine ⟨?_, ?_⟩
    · intro c3
      have h := h.1 c3
      exact ⟨h, K⟩
    · intro c4
      have h := h.2 c4
      exact ⟨h, K⟩
theorem kd_X11_isLetter {Q : Int32 → HS → Prop} {v0 : Int32} {S : HS} (h : P_X11_isLetter v0 Q S) : P_X11_isLetter v0 (fun r T => Q r T ∧ KD5 S T) S := kd_X11_isLetter_0 h (kd5_rf S)
set_option maxRecDepth 20000 in
set_option maxHeartbeats 1000000 in
theorem kd_X11_goesOn_136 {Q : HS → Prop} {X89 X89_2 : Nat → Int32 → HS → Prop} {v0 : Nat} {v2 : Int32} {S0 S : HS} (h : P_X11_goesOn_136 Q X89 v0 v2 S) (K : KD5 S0 S) (hX89 : ∀ (u0 : Nat) (u1 : Int32) (u2 : HS), X89 u0 u1 u2 → KD5 S0 u2 → X89_2 u0 u1 u2) : P_X11_goesOn_136 (fun T => Q T ∧ KD5 S0 T) X89_2 v0 v2 S := by
  delta P_X11_goesOn_136 at h ⊢
  intro x2 e1
  have h := h x2 e1
  obtain ⟨c3, h⟩ := h
  refine ⟨c3, ?_⟩
  have n4 := kd5_ne K c3
  intro x6 e5
  have h := h x6 e5
  intro x8 e7
  have h := h x8 e7
  intro x10 e9
  have h := h x10 e9
  have K := kd5_I K e9 n4 (by decide)
  exact hX89 _ _ _ h K
set_option maxRecDepth 20000 in
set_option maxHeartbeats 1000000 in
theorem kdB_X11_goesOn_89 {Q : HS → Prop} {X89 X89_2 : Nat → Int32 → HS → Prop} {v0 : Nat} {v2 : Int32} {S0 S : HS} (h : B_X11_goesOn_89 Q X89 v0 v2 S) (K : KD5 S0 S) (hX89 : ∀ (u0 : Nat) (u1 : Int32) (u2 : HS), X89 u0 u1 u2 → KD5 S0 u2 → X89_2 u0 u1 u2) : B_X11_goesOn_89 (fun T => Q T ∧ KD5 S0 T) X89_2 v0 v2 S := by
  delta B_X11_goesOn_89 at h ⊢
  obtain ⟨c1, h⟩ := h
  refine ⟨c1, ?_⟩
  have n2 := kd5_ne K c1
  intro x4 e3
  have h := h x4 e3
  refine cm_X11_byteAt (kd_X11_byteAt h) h (fun x5 x6 hp h g7 => ?_)
  have h := h g7
  have K := kd5_tr K hp.2
  refine cm_X11_isLetter (kd_X11_isLetter h) h (fun x8 x9 hp h g10 g11 => ?_)
  have h := h g10 g11
  have K := kd5_tr K hp.2
  refine ⟨?_, ?_⟩
  · intro c12
    have h := h.1 c12
    refine ⟨?_, ?_⟩
    · intro c13
      have h := h.1 c13
      exact ⟨h, K⟩
    · intro c14
      have h := h.2 c14
      intro x16 e15
      have h := h x16 e15
      have K := kd5_I K e15 n2 (by decide)
      exact ⟨h, K⟩
  · intro c17
    have h := h.2 c17
    refine ⟨?_, ?_⟩
    · intro c18
      have h := h.1 c18
      exact kd_X11_goesOn_136 h K hX89
    · intro c19
      have h := h.2 c19
      intro x21 e20
      have h := h x21 e20
      intro x23 e22
      have h := h x23 e22
      refine cm_X11_byteAt (kd_X11_byteAt h) h (fun x24 x25 hp h g26 => ?_)
      have h := h g26
      have K := kd5_tr K hp.2
      intro x28 e27
      have h := h x28 e27
      intro x30 e29
      have h := h x30 e29
      have K := kd5_J K e29
      exact kd_X11_goesOn_136 h K hX89
theorem kd_X11_goesOn_89 {Q : HS → Prop} {v0 : Nat} {v2 : Int32} {S0 S : HS} (h : P_X11_goesOn_89 Q v0 v2 S) (K : KD5 S0 S) : P_X11_goesOn_89 (fun T => Q T ∧ KD5 S0 T) v0 v2 S := h (fun v0 v2 S => KD5 S0 S → P_X11_goesOn_89 (fun T => Q T ∧ KD5 S0 T) v0 v2 S) (fun v0 v2 S hB K => fd_X11_goesOn_89 (kdB_X11_goesOn_89 hB K (fun _ _ _ hx K => hx K))) K
set_option maxRecDepth 20000 in
set_option maxHeartbeats 1000000 in
theorem kd_X11_goesOn_220 {Q : HS → Prop} {X178 X178_2 : Nat → Int32 → HS → Prop} {v0 : Nat} {v2 : Int32} {S0 S : HS} (h : P_X11_goesOn_220 Q X178 v0 v2 S) (K : KD5 S0 S) (hX178 : ∀ (u0 : Nat) (u1 : Int32) (u2 : HS), X178 u0 u1 u2 → KD5 S0 u2 → X178_2 u0 u1 u2) : P_X11_goesOn_220 (fun T => Q T ∧ KD5 S0 T) X178_2 v0 v2 S := by
  delta P_X11_goesOn_220 at h ⊢
  intro x2 e1
  have h := h x2 e1
  obtain ⟨c3, h⟩ := h
  refine ⟨c3, ?_⟩
  have n4 := kd5_ne K c3
  intro x6 e5
  have h := h x6 e5
  intro x8 e7
  have h := h x8 e7
  intro x10 e9
  have h := h x10 e9
  have K := kd5_I K e9 n4 (by decide)
  exact hX178 _ _ _ h K
set_option maxRecDepth 20000 in
set_option maxHeartbeats 1000000 in
theorem kdB_X11_goesOn_178 {Q : HS → Prop} {X178 X178_2 : Nat → Int32 → HS → Prop} {v0 : Nat} {v2 : Int32} {S0 S : HS} (h : B_X11_goesOn_178 Q X178 v0 v2 S) (K : KD5 S0 S) (hX178 : ∀ (u0 : Nat) (u1 : Int32) (u2 : HS), X178 u0 u1 u2 → KD5 S0 u2 → X178_2 u0 u1 u2) : B_X11_goesOn_178 (fun T => Q T ∧ KD5 S0 T) X178_2 v0 v2 S := by
  delta B_X11_goesOn_178 at h ⊢
  obtain ⟨c1, h⟩ := h
  refine ⟨c1, ?_⟩
  have n2 := kd5_ne K c1
  intro x4 e3
  have h := h x4 e3
  refine cm_X11_byteAt (kd_X11_byteAt h) h (fun x5 x6 hp h g7 => ?_)
  have h := h g7
  have K := kd5_tr K hp.2
  refine cm_X11_isDigit (kd_X11_isDigit h) h (fun x8 x9 hp h g10 g11 => ?_)
  have h := h g10 g11
  have K := kd5_tr K hp.2
  refine ⟨?_, ?_⟩
  · intro c12
    have h := h.1 c12
    refine ⟨?_, ?_⟩
    · intro c13
      have h := h.1 c13
      exact ⟨h, K⟩
    · intro c14
      have h := h.2 c14
      intro x16 e15
      have h := h x16 e15
      have K := kd5_I K e15 n2 (by decide)
      exact ⟨h, K⟩
  · intro c17
    have h := h.2 c17
    refine ⟨?_, ?_⟩
    · intro c18
      have h := h.1 c18
      exact kd_X11_goesOn_220 h K hX178
    · intro c19
      have h := h.2 c19
      intro x21 e20
      have h := h x21 e20
      intro x23 e22
      have h := h x23 e22
      refine cm_X11_byteAt (kd_X11_byteAt h) h (fun x24 x25 hp h g26 => ?_)
      have h := h g26
      have K := kd5_tr K hp.2
      intro x28 e27
      have h := h x28 e27
      intro x30 e29
      have h := h x30 e29
      have K := kd5_I K e29 n2 (by decide)
      exact kd_X11_goesOn_220 h K hX178
theorem kd_X11_goesOn_178 {Q : HS → Prop} {v0 : Nat} {v2 : Int32} {S0 S : HS} (h : P_X11_goesOn_178 Q v0 v2 S) (K : KD5 S0 S) : P_X11_goesOn_178 (fun T => Q T ∧ KD5 S0 T) v0 v2 S := h (fun v0 v2 S => KD5 S0 S → P_X11_goesOn_178 (fun T => Q T ∧ KD5 S0 T) v0 v2 S) (fun v0 v2 S hB K => fd_X11_goesOn_178 (kdB_X11_goesOn_178 hB K (fun _ _ _ hx K => hx K))) K
set_option maxRecDepth 20000 in
set_option maxHeartbeats 1000000 in
theorem kd_X11_goesOn_261 {Q : HS → Prop} {v0 : Nat} {v1 : Int32} {S0 S : HS} (h : P_X11_goesOn_261 Q v0 v1 S) (K : KD5 S0 S) : P_X11_goesOn_261 (fun T => Q T ∧ KD5 S0 T) v0 v1 S := by
  delta P_X11_goesOn_261 at h ⊢
  obtain ⟨c1, h⟩ := h
  refine ⟨c1, ?_⟩
  have n2 := kd5_ne K c1
  intro x4 e3
  have h := h x4 e3
  have K := kd5_I K e3 n2 (by decide)
  intro x6 e5
  have h := h x6 e5
  have K := kd5_I K e5 n2 (by decide)
  intro x8 e7
  have h := h x8 e7
  intro x10 e9
  have h := h x10 e9
  intro x12 e11
  have h := h x12 e11
  have K := kd5_I K e11 n2 (by decide)
  exact ⟨h, K⟩
set_option maxRecDepth 20000 in
set_option maxHeartbeats 1000000 in
theorem kdB_X11_goesOn_9 {Q : HS → Prop} {X9 X9_2 : Nat → HS → Prop} {v0 : Nat} {S0 S : HS} (h : B_X11_goesOn_9 Q X9 v0 S) (K : KD5 S0 S) (hX9 : ∀ (u0 : Nat) (u1 : HS), X9 u0 u1 → KD5 S0 u1 → X9_2 u0 u1) : B_X11_goesOn_9 (fun T => Q T ∧ KD5 S0 T) X9_2 v0 S := by
  delta B_X11_goesOn_9 at h ⊢
  obtain ⟨c1, h⟩ := h
  refine ⟨c1, ?_⟩
  have n2 := kd5_ne K c1
  intro x4 e3
  have h := h x4 e3
  refine cm_X11_byteAt (kd_X11_byteAt h) h (fun x5 x6 hp h g7 => ?_)
  have h := h g7
  have K := kd5_tr K hp.2
  refine ⟨?_, ?_⟩
  · intro c8
    have h := h.1 c8
    intro x10 e9
    have h := h x10 e9
    intro x12 e11
    have h := h x12 e11
    have K := kd5_I K e11 n2 (by decide)
    intro x14 e13
    have h := h x14 e13
    have K := kd5_I K e13 n2 (by decide)
    intro x16 e15
    have h := h x16 e15
    have K := kd5_I K e15 n2 (by decide)
    intro x18 e17
    have h := h x18 e17
    refine cm_X11_byteAt (kd_X11_byteAt h) h (fun x19 x20 hp h g21 => ?_)
    have h := h g21
    have K := kd5_tr K hp.2
    refine ⟨?_, ?_⟩
    · intro c22
      have h := h.1 c22
      refine cm_X11_isLetter (kd_X11_isLetter h) h (fun x23 x24 hp h g25 g26 => ?_)
      have h := h g25 g26
      have K := kd5_tr K hp.2
      refine ⟨?_, ?_⟩
      · intro c27
        have h := h.1 c27
        refine cm_X11_isDigit (kd_X11_isDigit h) h (fun x28 x29 hp h g30 g31 => ?_)
        have h := h g30 g31
        have K := kd5_tr K hp.2
        refine ⟨?_, ?_⟩
        · intro c32
          have h := h.1 c32
          refine ⟨?_, ?_⟩
          · intro c33
            have h := h.1 c33
            exact kd_X11_goesOn_261 h K
          · intro c34
            have h := h.2 c34
            refine ⟨?_, ?_⟩
            · intro c35
              have h := h.1 c35
              exact ⟨h, K⟩
            · intro c36
              have h := h.2 c36
              exact kd_X11_goesOn_261 h K
        · intro c37
          have h := h.2 c37
          intro x39 e38
          have h := h x39 e38
          have K := kd5_I K e38 n2 (by decide)
          exact kd_X11_goesOn_178 h K
      · intro c40
        have h := h.2 c40
        intro x42 e41
        have h := h x42 e41
        have K := kd5_J K e41
        exact kd_X11_goesOn_89 h K
    · intro c43
      have h := h.2 c43
      intro x45 e44
      have h := h x45 e44
      have K := kd5_I K e44 n2 (by decide)
      exact ⟨h, K⟩
  · intro c46
    have h := h.2 c46
    intro x48 e47
    have h := h x48 e47
    intro x50 e49
    have h := h x50 e49
    intro x52 e51
    have h := h x52 e51
    have K := kd5_I K e51 n2 (by decide)
    exact hX9 _ _ h K
theorem kd_X11_goesOn_9 {Q : HS → Prop} {v0 : Nat} {S0 S : HS} (h : P_X11_goesOn_9 Q v0 S) (K : KD5 S0 S) : P_X11_goesOn_9 (fun T => Q T ∧ KD5 S0 T) v0 S := h (fun v0 S => KD5 S0 S → P_X11_goesOn_9 (fun T => Q T ∧ KD5 S0 T) v0 S) (fun v0 S hB K => fd_X11_goesOn_9 (kdB_X11_goesOn_9 hB K (fun _ _ hx K => hx K))) K
set_option maxRecDepth 20000 in
set_option maxHeartbeats 1000000 in
theorem kd_X11_goesOn_0 {Q : HS → Prop} {v0 : Nat} {S0 S : HS} (h : P_X11_goesOn_0 Q v0 S) (K : KD5 S0 S) : P_X11_goesOn_0 (fun T => Q T ∧ KD5 S0 T) v0 S := by
  delta P_X11_goesOn_0 at h ⊢
  obtain ⟨c1, h⟩ := h
  refine ⟨c1, ?_⟩
  have n2 := kd5_ne K c1
  intro x4 e3
  have h := h x4 e3
  refine ⟨?_, ?_⟩
  · intro c5
    have h := h.1 c5
    exact kd_X11_goesOn_9 h K
  · intro c6
    have h := h.2 c6
    exact ⟨h, K⟩
theorem kd_X11_goesOn {Q : HS → Prop} {v0 : Nat} {S : HS} (h : P_X11_goesOn v0 Q S) : P_X11_goesOn v0 (fun T => Q T ∧ KD5 S T) S := kd_X11_goesOn_0 h (kd5_rf S)
set_option maxRecDepth 20000 in
set_option maxHeartbeats 1000000 in
theorem kd_X11_begins_26 {Q : HS → Prop} {v0 : Nat} {S0 S : HS} (h : P_X11_begins_26 Q v0 S) (K : KD5 S0 S) : P_X11_begins_26 (fun T => Q T ∧ KD5 S0 T) v0 S := by
  delta P_X11_begins_26 at h ⊢
  obtain ⟨c1, h⟩ := h
  refine ⟨c1, ?_⟩
  have n2 := kd5_ne K c1
  refine cm_X11_goesOn (kd_X11_goesOn h) h (fun x3 hp h g4 => ?_)
  have h := h g4
  have K := kd5_tr K hp.2
  exact ⟨h, K⟩
set_option maxRecDepth 20000 in
set_option maxHeartbeats 1000000 in
theorem kd_X11_begins_10 {Q : HS → Prop} {v0 : Nat} {S0 S : HS} (h : P_X11_begins_10 Q v0 S) (K : KD5 S0 S) : P_X11_begins_10 (fun T => Q T ∧ KD5 S0 T) v0 S := by
  delta P_X11_begins_10 at h ⊢
  obtain ⟨c1, h⟩ := h
  refine ⟨c1, ?_⟩
  have n2 := kd5_ne K c1
  obtain ⟨b3, e4, h⟩ := h
  refine ⟨b3, e4, ?_⟩
  obtain ⟨c5, h⟩ := h
  refine ⟨c5, ?_⟩
  have n6 := kd5_ne K c5
  intro x8 e7
  have h := h x8 e7
  refine ⟨?_, ?_⟩
  · intro c9
    have h := h.1 c9
    exact kd_X11_begins_26 h K
  · intro c10
    have h := h.2 c10
    refine cm_X11_flaw (kd_X11_flaw h) h (fun x11 hp h g12 => ?_)
    have h := h g12
    have K := kd5_tr K hp.2
    exact kd_X11_begins_26 h K
set_option maxRecDepth 20000 in
set_option maxHeartbeats 1000000 in
theorem kd_X11_begins_0 {Q : HS → Prop} {v0 : Nat} {v1 : Int32} {v2 : Int32} {S0 S : HS} (h : P_X11_begins_0 Q v0 v1 v2 S) (K : KD5 S0 S) : P_X11_begins_0 (fun T => Q T ∧ KD5 S0 T) v0 v1 v2 S := by
  delta P_X11_begins_0 at h ⊢
  refine ⟨?_, ?_⟩
  · intro c1
    have h := h.1 c1
    exact kd_X11_begins_10 h K
  · intro c2
    have h := h.2 c2
    obtain ⟨c3, h⟩ := h
    refine ⟨c3, ?_⟩
    have n4 := kd5_ne K c3
    refine cm_X11_flaw (kd_X11_flaw h) h (fun x5 hp h g6 => ?_)
    have h := h g6
    have K := kd5_tr K hp.2
    exact kd_X11_begins_10 h K
theorem kd_X11_begins {Q : HS → Prop} {v0 : Nat} {v1 : Int32} {v2 : Int32} {S : HS} (h : P_X11_begins v0 v1 v2 Q S) : P_X11_begins v0 v1 v2 (fun T => Q T ∧ KD5 S T) S := kd_X11_begins_0 h (kd5_rf S)
set_option maxRecDepth 20000 in
set_option maxHeartbeats 1000000 in
theorem kd_X11_eatsSign_21 {Q : Int32 → HS → Prop} {v0 : Nat} {s0 : Int32} {S0 S : HS} (h : P_X11_eatsSign_21 Q v0 s0 S) (K : KD5 S0 S) : P_X11_eatsSign_21 (fun r T => Q r T ∧ KD5 S0 T) v0 s0 S := by
  delta P_X11_eatsSign_21 at h ⊢
  refine ⟨?_, ?_⟩
  · intro c1
    have h := h.1 c1
    obtain ⟨c2, h⟩ := h
    refine ⟨c2, ?_⟩
    exact ⟨h, K⟩
  · intro c3
    have h := h.2 c3
    obtain ⟨c4, h⟩ := h
    refine ⟨c4, ?_⟩
    have n5 := kd5_ne K c4
    refine cm_X11_goesOn (kd_X11_goesOn h) h (fun x6 hp h g7 => ?_)
    have h := h g7
    have K := kd5_tr K hp.2
    obtain ⟨c8, h⟩ := h
    refine ⟨c8, ?_⟩
    exact ⟨h, K⟩
set_option maxRecDepth 20000 in
set_option maxHeartbeats 1000000 in
theorem kd_X11_eatsSign_20 {Q : Int32 → HS → Prop} {v0 : Nat} {S0 S : HS} (h : P_X11_eatsSign_20 Q v0 S) (K : KD5 S0 S) : P_X11_eatsSign_20 (fun r T => Q r T ∧ KD5 S0 T) v0 S := by
  delta P_X11_eatsSign_20 at h ⊢
  exact kd_X11_eatsSign_21 h K
set_option maxRecDepth 20000 in
set_option maxHeartbeats 1000000 in
theorem kd_X11_eatsSign_0 {Q : Int32 → HS → Prop} {v0 : Nat} {v1 : Int32} {S0 S : HS} (h : P_X11_eatsSign_0 Q v0 v1 S) (K : KD5 S0 S) : P_X11_eatsSign_0 (fun r T => Q r T ∧ KD5 S0 T) v0 v1 S := by
  delta P_X11_eatsSign_0 at h ⊢
  obtain ⟨c1, h⟩ := h
  refine ⟨c1, ?_⟩
  have n2 := kd5_ne K c1
  intro x4 e3
  have h := h x4 e3
  refine ⟨?_, ?_⟩
  · intro c5
    have h := h.1 c5
    exact kd_X11_eatsSign_20 h K
  · intro c6
    have h := h.2 c6
    intro x8 e7
    have h := h x8 e7
    refine ⟨?_, ?_⟩
    · intro c9
      have h := h.1 c9
      exact kd_X11_eatsSign_20 h K
    · intro c10
      have h := h.2 c10
      exact kd_X11_eatsSign_21 h K
theorem kd_X11_eatsSign {Q : Int32 → HS → Prop} {v0 : Nat} {v1 : Int32} {S : HS} (h : P_X11_eatsSign v0 v1 Q S) : P_X11_eatsSign v0 v1 (fun r T => Q r T ∧ KD5 S T) S := kd_X11_eatsSign_0 h (kd5_rf S)
set_option maxRecDepth 20000 in
set_option maxHeartbeats 1000000 in
theorem kdB_X11_wordOf_4 {Q : Int64 → HS → Prop} {X4 X4_2 : Nat → Int64 → Int32 → HS → Prop} {v0 : Nat} {v1 : Int64} {v3 : Int32} {S0 S : HS} (h : B_X11_wordOf_4 Q X4 v0 v1 v3 S) (K : KD5 S0 S) (hX4 : ∀ (u0 : Nat) (u1 : Int64) (u2 : Int32) (u3 : HS), X4 u0 u1 u2 u3 → KD5 S0 u3 → X4_2 u0 u1 u2 u3) : B_X11_wordOf_4 (fun r T => Q r T ∧ KD5 S0 T) X4_2 v0 v1 v3 S := by
  delta B_X11_wordOf_4 at h ⊢
  obtain ⟨c1, h⟩ := h
  refine ⟨c1, ?_⟩
  intro x3 e2
  have h := h x3 e2
  refine ⟨?_, ?_⟩
  · intro c4
    have h := h.1 c4
    exact ⟨h, K⟩
  · intro c5
    have h := h.2 c5
    obtain ⟨c6, h⟩ := h
    refine ⟨c6, ?_⟩
    obtain ⟨c7, h⟩ := h
    refine ⟨c7, ?_⟩
    intro x9 e8
    have h := h x9 e8
    intro x11 e10
    have h := h x11 e10
    intro x13 e12
    have h := h x13 e12
    exact hX4 _ _ _ _ h K
theorem kd_X11_wordOf_4 {Q : Int64 → HS → Prop} {v0 : Nat} {v1 : Int64} {v3 : Int32} {S0 S : HS} (h : P_X11_wordOf_4 Q v0 v1 v3 S) (K : KD5 S0 S) : P_X11_wordOf_4 (fun r T => Q r T ∧ KD5 S0 T) v0 v1 v3 S := h (fun v0 v1 v3 S => KD5 S0 S → P_X11_wordOf_4 (fun r T => Q r T ∧ KD5 S0 T) v0 v1 v3 S) (fun v0 v1 v3 S hB K => fd_X11_wordOf_4 (kdB_X11_wordOf_4 hB K (fun _ _ _ _ hx K => hx K))) K
set_option maxRecDepth 20000 in
set_option maxHeartbeats 1000000 in
theorem kd_X11_wordOf_0 {Q : Int64 → HS → Prop} {v0 : Nat} {S0 S : HS} (h : P_X11_wordOf_0 Q v0 S) (K : KD5 S0 S) : P_X11_wordOf_0 (fun r T => Q r T ∧ KD5 S0 T) v0 S := by
  delta P_X11_wordOf_0 at h ⊢
  exact kd_X11_wordOf_4 h K
theorem kd_X11_wordOf {Q : Int64 → HS → Prop} {v0 : Nat} {S : HS} (h : P_X11_wordOf v0 Q S) : P_X11_wordOf v0 (fun r T => Q r T ∧ KD5 S T) S := kd_X11_wordOf_0 h (kd5_rf S)
set_option maxRecDepth 20000 in
set_option maxHeartbeats 1000000 in
theorem kd_X11_isWord_0 {Q : Int32 → HS → Prop} {v0 : Nat} {v1 : Nat} {S0 S : HS} (h : P_X11_isWord_0 Q v0 v1 S) (K : KD5 S0 S) : P_X11_isWord_0 (fun r T => Q r T ∧ KD5 S0 T) v0 v1 S := by
  delta P_X11_isWord_0 at h ⊢
  obtain ⟨c1, h⟩ := h
  refine ⟨c1, ?_⟩
  have n2 := kd5_ne K c1
  intro x4 e3
  have h := h x4 e3
  refine ⟨?_, ?_⟩
  · intro c5
    have h := h.1 c5
    exact ⟨h, K⟩
  · intro c6
    have h := h.2 c6
    intro x8 e7
    have h := h x8 e7
    refine cm_X11_wordOf (kd_X11_wordOf h) h (fun x9 x10 hp h g11 => ?_)
    have h := h g11
    have K := kd5_tr K hp.2
    refine ⟨?_, ?_⟩
    · intro c12
      have h := h.1 c12
      exact ⟨h, K⟩
    · intro c13
      have h := h.2 c13
      exact ⟨h, K⟩
theorem kd_X11_isWord {Q : Int32 → HS → Prop} {v0 : Nat} {v1 : Nat} {S : HS} (h : P_X11_isWord v0 v1 Q S) : P_X11_isWord v0 v1 (fun r T => Q r T ∧ KD5 S T) S := kd_X11_isWord_0 h (kd5_rf S)
set_option maxRecDepth 20000 in
set_option maxHeartbeats 1000000 in
theorem kd_X11_eatsWord_0 {Q : Int32 → HS → Prop} {v0 : Nat} {v1 : Nat} {S0 S : HS} (h : P_X11_eatsWord_0 Q v0 v1 S) (K : KD5 S0 S) : P_X11_eatsWord_0 (fun r T => Q r T ∧ KD5 S0 T) v0 v1 S := by
  delta P_X11_eatsWord_0 at h ⊢
  obtain ⟨c1, h⟩ := h
  refine ⟨c1, ?_⟩
  have n2 := kd5_ne K c1
  refine cm_X11_isWord (kd_X11_isWord h) h (fun x3 x4 hp h g5 g6 => ?_)
  have h := h g5 g6
  have K := kd5_tr K hp.2
  refine ⟨?_, ?_⟩
  · intro c7
    have h := h.1 c7
    obtain ⟨c8, h⟩ := h
    refine ⟨c8, ?_⟩
    exact ⟨h, K⟩
  · intro c9
    have h := h.2 c9
    refine cm_X11_goesOn (kd_X11_goesOn h) h (fun x10 hp h g11 => ?_)
    have h := h g11
    have K := kd5_tr K hp.2
    obtain ⟨c12, h⟩ := h
    refine ⟨c12, ?_⟩
    exact ⟨h, K⟩
theorem kd_X11_eatsWord {Q : Int32 → HS → Prop} {v0 : Nat} {v1 : Nat} {S : HS} (h : P_X11_eatsWord v0 v1 Q S) : P_X11_eatsWord v0 v1 (fun r T => Q r T ∧ KD5 S T) S := kd_X11_eatsWord_0 h (kd5_rf S)
set_option maxRecDepth 20000 in
set_option maxHeartbeats 1000000 in
theorem kd_X11_isName_0 {Q : Int32 → HS → Prop} {v0 : Nat} {S0 S : HS} (h : P_X11_isName_0 Q v0 S) (K : KD5 S0 S) : P_X11_isName_0 (fun r T => Q r T ∧ KD5 S0 T) v0 S := by
  delta P_X11_isName_0 at h ⊢
  obtain ⟨c1, h⟩ := h
  refine ⟨c1, ?_⟩
  have n2 := kd5_ne K c1
  intro x4 e3
  have h := h x4 e3
  refine ⟨?_, ?_⟩
  · intro c5
    have h := h.1 c5
    exact ⟨h, K⟩
  · intro c6
    have h := h.2 c6
    refine cm_X11_isWord (kd_X11_isWord h) h (fun x7 x8 hp h g9 g10 => ?_)
    have h := h g9 g10
    have K := kd5_tr K hp.2
    refine ⟨?_, ?_⟩
    · intro c11
      have h := h.1 c11
      exact ⟨h, K⟩
    · intro c12
      have h := h.2 c12
      refine cm_X11_isWord (kd_X11_isWord h) h (fun x13 x14 hp h g15 g16 => ?_)
      have h := h g15 g16
      have K := kd5_tr K hp.2
      refine ⟨?_, ?_⟩
      · intro c17
        have h := h.1 c17
        exact ⟨h, K⟩
      · intro c18
        have h := h.2 c18
        refine cm_X11_isWord (kd_X11_isWord h) h (fun x19 x20 hp h g21 g22 => ?_)
        have h := h g21 g22
        have K := kd5_tr K hp.2
        refine ⟨?_, ?_⟩
        · intro c23
          have h := h.1 c23
          exact ⟨h, K⟩
        · intro c24
          have h := h.2 c24
          refine cm_X11_isWord (kd_X11_isWord h) h (fun x25 x26 hp h g27 g28 => ?_)
          have h := h g27 g28
          have K := kd5_tr K hp.2
          refine ⟨?_, ?_⟩
          · intro c29
            have h := h.1 c29
            refine cm_X11_isWord (kd_X11_isWord h) h (fun x30 x31 hp h g32 g33 => ?_)
            have h := h g32 g33
            have K := kd5_tr K hp.2
            refine ⟨?_, ?_⟩
            · intro c34
              have h := h.1 c34
              exact ⟨h, K⟩
            · intro c35
              have h := h.2 c35
              refine cm_X11_isWord (kd_X11_isWord h) h (fun x36 x37 hp h g38 g39 => ?_)
              have h := h g38 g39
              have K := kd5_tr K hp.2
              refine ⟨?_, ?_⟩
              · intro c40
                have h := h.1 c40
                exact ⟨h, K⟩
              · intro c41
                have h := h.2 c41
                refine cm_X11_isWord (kd_X11_isWord h) h (fun x42 x43 hp h g44 g45 => ?_)
                have h := h g44 g45
                have K := kd5_tr K hp.2
                refine ⟨?_, ?_⟩
                · intro c46
                  have h := h.1 c46
                  exact ⟨h, K⟩
                · intro c47
                  have h := h.2 c47
                  refine cm_X11_isWord (kd_X11_isWord h) h (fun x48 x49 hp h g50 g51 => ?_)
                  have h := h g50 g51
                  have K := kd5_tr K hp.2
                  refine ⟨?_, ?_⟩
                  · intro c52
                    have h := h.1 c52
                    exact ⟨h, K⟩
                  · intro c53
                    have h := h.2 c53
                    refine cm_X11_isWord (kd_X11_isWord h) h (fun x54 x55 hp h g56 g57 => ?_)
                    have h := h g56 g57
                    have K := kd5_tr K hp.2
                    refine ⟨?_, ?_⟩
                    · intro c58
                      have h := h.1 c58
                      exact ⟨h, K⟩
                    · intro c59
                      have h := h.2 c59
                      exact ⟨h, K⟩
          · intro c60
            have h := h.2 c60
            exact ⟨h, K⟩
theorem kd_X11_isName {Q : Int32 → HS → Prop} {v0 : Nat} {S : HS} (h : P_X11_isName v0 Q S) : P_X11_isName v0 (fun r T => Q r T ∧ KD5 S T) S := kd_X11_isName_0 h (kd5_rf S)
set_option maxRecDepth 20000 in
set_option maxHeartbeats 1000000 in
theorem kd_X11_known_47 {Q : Int32 → HS → Prop} {v0 : Nat} {v2 : Int32} {S0 S : HS} (h : P_X11_known_47 Q v0 v2 S) (K : KD5 S0 S) : P_X11_known_47 (fun r T => Q r T ∧ KD5 S0 T) v0 v2 S := by
  delta P_X11_known_47 at h ⊢
  obtain ⟨c1, h⟩ := h
  refine ⟨c1, ?_⟩
  have n2 := kd5_ne K c1
  intro x4 e3
  have h := h x4 e3
  refine ⟨?_, ?_⟩
  · intro c5
    have h := h.1 c5
    obtain ⟨b6, e7, h⟩ := h
    refine ⟨b6, e7, ?_⟩
    obtain ⟨c8, h⟩ := h
    refine ⟨c8, ?_⟩
    have n9 := kd5_ne K c8
    obtain ⟨b10, e11, h⟩ := h
    refine ⟨b10, e11, ?_⟩
    obtain ⟨c12, h⟩ := h
    refine ⟨c12, ?_⟩
    have n13 := kd5_ne K c12
    obtain ⟨c14, h⟩ := h
    refine ⟨c14, ?_⟩
    intro x16 e15
    have h := h x16 e15
    exact ⟨h, K⟩
  · intro c17
    have h := h.2 c17
    exact ⟨h, K⟩
set_option maxRecDepth 20000 in
set_option maxHeartbeats 1000000 in
theorem kd_X11_known_42 {Q : Int32 → HS → Prop} {v0 : Nat} {v2 : Int32} {S0 S : HS} (h : P_X11_known_42 Q v0 v2 S) (K : KD5 S0 S) : P_X11_known_42 (fun r T => Q r T ∧ KD5 S0 T) v0 v2 S := by
  delta P_X11_known_42 at h ⊢
  obtain ⟨c1, h⟩ := h
  refine ⟨c1, ?_⟩
  have n2 := kd5_ne K c1
  refine cm_X11_flaw (kd_X11_flaw h) h (fun x3 hp h g4 => ?_)
  have h := h g4
  have K := kd5_tr K hp.2
  exact kd_X11_known_47 h K
set_option maxRecDepth 20000 in
set_option maxHeartbeats 1000000 in
theorem kd_X11_known_12 {Q : Int32 → HS → Prop} {v0 : Nat} {v1 : Int32} {S0 S : HS} (h : P_X11_known_12 Q v0 v1 S) (K : KD5 S0 S) : P_X11_known_12 (fun r T => Q r T ∧ KD5 S0 T) v0 v1 S := by
  delta P_X11_known_12 at h ⊢
  obtain ⟨c1, h⟩ := h
  refine ⟨c1, ?_⟩
  have n2 := kd5_ne K c1
  obtain ⟨b3, e4, h⟩ := h
  refine ⟨b3, e4, ?_⟩
  intro x6 e5
  have h := h x6 e5
  obtain ⟨c7, h⟩ := h
  refine ⟨c7, ?_⟩
  have n8 := kd5_ne K c7
  refine cm_X10_find (kd_X10_find h) h (fun x9 x10 hp h g11 => ?_)
  have h := h g11
  have K := kd5_tr K hp.2
  refine ⟨?_, ?_⟩
  · intro c12
    have h := h.1 c12
    exact kd_X11_known_42 h K
  · intro c13
    have h := h.2 c13
    obtain ⟨b14, e15, h⟩ := h
    refine ⟨b14, e15, ?_⟩
    obtain ⟨c16, h⟩ := h
    refine ⟨c16, ?_⟩
    have n17 := kd5_ne K c16
    obtain ⟨b18, e19, h⟩ := h
    refine ⟨b18, e19, ?_⟩
    obtain ⟨c20, h⟩ := h
    refine ⟨c20, ?_⟩
    have n21 := kd5_ne K c20
    obtain ⟨c22, h⟩ := h
    refine ⟨c22, ?_⟩
    intro x24 e23
    have h := h x24 e23
    refine ⟨?_, ?_⟩
    · intro c25
      have h := h.1 c25
      exact kd_X11_known_47 h K
    · intro c26
      have h := h.2 c26
      exact kd_X11_known_42 h K
set_option maxRecDepth 20000 in
set_option maxHeartbeats 1000000 in
theorem kd_X11_known_0 {Q : Int32 → HS → Prop} {v0 : Nat} {v1 : Int32} {S0 S : HS} (h : P_X11_known_0 Q v0 v1 S) (K : KD5 S0 S) : P_X11_known_0 (fun r T => Q r T ∧ KD5 S0 T) v0 v1 S := by
  delta P_X11_known_0 at h ⊢
  obtain ⟨c1, h⟩ := h
  refine ⟨c1, ?_⟩
  have n2 := kd5_ne K c1
  refine cm_X11_isName (kd_X11_isName h) h (fun x3 x4 hp h g5 g6 => ?_)
  have h := h g5 g6
  have K := kd5_tr K hp.2
  refine ⟨?_, ?_⟩
  · intro c7
    have h := h.1 c7
    exact kd_X11_known_12 h K
  · intro c8
    have h := h.2 c8
    refine cm_X11_flaw (kd_X11_flaw h) h (fun x9 hp h g10 => ?_)
    have h := h g10
    have K := kd5_tr K hp.2
    exact kd_X11_known_12 h K
theorem kd_X11_known {Q : Int32 → HS → Prop} {v0 : Nat} {v1 : Int32} {S : HS} (h : P_X11_known v0 v1 Q S) : P_X11_known v0 v1 (fun r T => Q r T ∧ KD5 S T) S := kd_X11_known_0 h (kd5_rf S)
set_option maxRecDepth 20000 in
set_option maxHeartbeats 1000000 in
theorem kd_X11_names_0 {Q : HS → Prop} {v0 : Nat} {v1 : Int64} {v3 : Int32} {v4 : Int32} {S0 S : HS} (h : P_X11_names_0 Q v0 v1 v3 v4 S) (K : KD5 S0 S) : P_X11_names_0 (fun T => Q T ∧ KD5 S0 T) v0 v1 v3 v4 S := by
  delta P_X11_names_0 at h ⊢
  obtain ⟨c1, h⟩ := h
  refine ⟨c1, ?_⟩
  have n2 := kd5_ne K c1
  obtain ⟨b3, e4, h⟩ := h
  refine ⟨b3, e4, ?_⟩
  obtain ⟨c5, h⟩ := h
  refine ⟨c5, ?_⟩
  have n6 := kd5_ne K c5
  obtain ⟨b7, e8, h⟩ := h
  refine ⟨b7, e8, ?_⟩
  obtain ⟨b9, e10, h⟩ := h
  refine ⟨b9, e10, ?_⟩
  obtain ⟨c11, h⟩ := h
  refine ⟨c11, ?_⟩
  have n12 := kd5_ne K c11
  intro x14 e13
  have h := h x14 e13
  obtain ⟨c15, h⟩ := h
  refine ⟨c15, ?_⟩
  have n16 := kd5_ne K c15
  obtain ⟨c17, h⟩ := h
  refine ⟨c17, ?_⟩
  intro x19 e18
  have h := h x19 e18
  have K := kd5_J K e18
  obtain ⟨b20, e21, h⟩ := h
  refine ⟨b20, e21, ?_⟩
  obtain ⟨c22, h⟩ := h
  refine ⟨c22, ?_⟩
  have n23 := kd5_ne K c22
  obtain ⟨b24, e25, h⟩ := h
  refine ⟨b24, e25, ?_⟩
  obtain ⟨b26, e27, h⟩ := h
  refine ⟨b26, e27, ?_⟩
  obtain ⟨c28, h⟩ := h
  refine ⟨c28, ?_⟩
  have n29 := kd5_ne K c28
  intro x31 e30
  have h := h x31 e30
  obtain ⟨c32, h⟩ := h
  refine ⟨c32, ?_⟩
  have n33 := kd5_ne K c32
  obtain ⟨c34, h⟩ := h
  refine ⟨c34, ?_⟩
  intro x36 e35
  have h := h x36 e35
  have K := kd5_A K e35 n33 (by decide)
  obtain ⟨b37, e38, h⟩ := h
  refine ⟨b37, e38, ?_⟩
  obtain ⟨c39, h⟩ := h
  refine ⟨c39, ?_⟩
  have n40 := kd5_ne K c39
  obtain ⟨b41, e42, h⟩ := h
  refine ⟨b41, e42, ?_⟩
  obtain ⟨b43, e44, h⟩ := h
  refine ⟨b43, e44, ?_⟩
  obtain ⟨c45, h⟩ := h
  refine ⟨c45, ?_⟩
  have n46 := kd5_ne K c45
  intro x48 e47
  have h := h x48 e47
  obtain ⟨c49, h⟩ := h
  refine ⟨c49, ?_⟩
  have n50 := kd5_ne K c49
  obtain ⟨c51, h⟩ := h
  refine ⟨c51, ?_⟩
  intro x53 e52
  have h := h x53 e52
  have K := kd5_A K e52 n50 (by decide)
  obtain ⟨b54, e55, h⟩ := h
  refine ⟨b54, e55, ?_⟩
  obtain ⟨c56, h⟩ := h
  refine ⟨c56, ?_⟩
  have n57 := kd5_ne K c56
  intro x59 e58
  have h := h x59 e58
  intro x61 e60
  have h := h x61 e60
  intro x63 e62
  have h := h x63 e62
  have K := kd5_I K e62 n57 (by decide)
  exact ⟨h, K⟩
theorem kd_X11_names {Q : HS → Prop} {v0 : Nat} {v1 : Int64} {v3 : Int32} {v4 : Int32} {S : HS} (h : P_X11_names v0 v1 v3 v4 Q S) : P_X11_names v0 v1 v3 v4 (fun T => Q T ∧ KD5 S T) S := kd_X11_names_0 h (kd5_rf S)
set_option maxRecDepth 20000 in
set_option maxHeartbeats 1000000 in
theorem kd_X11_needs_13 {Q : HS → Prop} {v0 : Nat} {S0 S : HS} (h : P_X11_needs_13 Q v0 S) (K : KD5 S0 S) : P_X11_needs_13 (fun T => Q T ∧ KD5 S0 T) v0 S := by
  delta P_X11_needs_13 at h ⊢
  obtain ⟨c1, h⟩ := h
  refine ⟨c1, ?_⟩
  have n2 := kd5_ne K c1
  refine cm_X11_goesOn (kd_X11_goesOn h) h (fun x3 hp h g4 => ?_)
  have h := h g4
  have K := kd5_tr K hp.2
  exact ⟨h, K⟩
set_option maxRecDepth 20000 in
set_option maxHeartbeats 1000000 in
theorem kd_X11_needs_0 {Q : HS → Prop} {v0 : Nat} {v1 : Nat} {S0 S : HS} (h : P_X11_needs_0 Q v0 v1 S) (K : KD5 S0 S) : P_X11_needs_0 (fun T => Q T ∧ KD5 S0 T) v0 v1 S := by
  delta P_X11_needs_0 at h ⊢
  obtain ⟨c1, h⟩ := h
  refine ⟨c1, ?_⟩
  have n2 := kd5_ne K c1
  refine cm_X11_isWord (kd_X11_isWord h) h (fun x3 x4 hp h g5 g6 => ?_)
  have h := h g5 g6
  have K := kd5_tr K hp.2
  refine ⟨?_, ?_⟩
  · intro c7
    have h := h.1 c7
    exact kd_X11_needs_13 h K
  · intro c8
    have h := h.2 c8
    refine cm_X11_flaw (kd_X11_flaw h) h (fun x9 hp h g10 => ?_)
    have h := h g10
    have K := kd5_tr K hp.2
    exact kd_X11_needs_13 h K
theorem kd_X11_needs {Q : HS → Prop} {v0 : Nat} {v1 : Nat} {S : HS} (h : P_X11_needs v0 v1 Q S) : P_X11_needs v0 v1 (fun T => Q T ∧ KD5 S T) S := kd_X11_needs_0 h (kd5_rf S)
set_option maxRecDepth 20000 in
set_option maxHeartbeats 1000000 in
theorem kd_X11_readFresh_32 {Q : Int64 → HS → Prop} {v0 : Nat} {S0 S : HS} (h : P_X11_readFresh_32 Q v0 S) (K : KD5 S0 S) : P_X11_readFresh_32 (fun r T => Q r T ∧ KD5 S0 T) v0 S := by
  delta P_X11_readFresh_32 at h ⊢
  obtain ⟨c1, h⟩ := h
  refine ⟨c1, ?_⟩
  have n2 := kd5_ne K c1
  intro x4 e3
  have h := h x4 e3
  refine cm_X11_goesOn (kd_X11_goesOn h) h (fun x5 hp h g6 => ?_)
  have h := h g6
  have K := kd5_tr K hp.2
  exact ⟨h, K⟩
set_option maxRecDepth 20000 in
set_option maxHeartbeats 1000000 in
theorem kd_X11_readFresh_12 {Q : Int64 → HS → Prop} {v0 : Nat} {S0 S : HS} (h : P_X11_readFresh_12 Q v0 S) (K : KD5 S0 S) : P_X11_readFresh_12 (fun r T => Q r T ∧ KD5 S0 T) v0 S := by
  delta P_X11_readFresh_12 at h ⊢
  obtain ⟨c1, h⟩ := h
  refine ⟨c1, ?_⟩
  have n2 := kd5_ne K c1
  obtain ⟨b3, e4, h⟩ := h
  refine ⟨b3, e4, ?_⟩
  intro x6 e5
  have h := h x6 e5
  obtain ⟨c7, h⟩ := h
  refine ⟨c7, ?_⟩
  have n8 := kd5_ne K c7
  refine cm_X10_find (kd_X10_find h) h (fun x9 x10 hp h g11 => ?_)
  have h := h g11
  have K := kd5_tr K hp.2
  refine ⟨?_, ?_⟩
  · intro c12
    have h := h.1 c12
    exact kd_X11_readFresh_32 h K
  · intro c13
    have h := h.2 c13
    refine cm_X11_flaw (kd_X11_flaw h) h (fun x14 hp h g15 => ?_)
    have h := h g15
    have K := kd5_tr K hp.2
    exact kd_X11_readFresh_32 h K
set_option maxRecDepth 20000 in
set_option maxHeartbeats 1000000 in
theorem kd_X11_readFresh_0 {Q : Int64 → HS → Prop} {v0 : Nat} {S0 S : HS} (h : P_X11_readFresh_0 Q v0 S) (K : KD5 S0 S) : P_X11_readFresh_0 (fun r T => Q r T ∧ KD5 S0 T) v0 S := by
  delta P_X11_readFresh_0 at h ⊢
  obtain ⟨c1, h⟩ := h
  refine ⟨c1, ?_⟩
  have n2 := kd5_ne K c1
  refine cm_X11_isName (kd_X11_isName h) h (fun x3 x4 hp h g5 g6 => ?_)
  have h := h g5 g6
  have K := kd5_tr K hp.2
  refine ⟨?_, ?_⟩
  · intro c7
    have h := h.1 c7
    exact kd_X11_readFresh_12 h K
  · intro c8
    have h := h.2 c8
    refine cm_X11_flaw (kd_X11_flaw h) h (fun x9 hp h g10 => ?_)
    have h := h g10
    have K := kd5_tr K hp.2
    exact kd_X11_readFresh_12 h K
theorem kd_X11_readFresh {Q : Int64 → HS → Prop} {v0 : Nat} {S : HS} (h : P_X11_readFresh v0 Q S) : P_X11_readFresh v0 (fun r T => Q r T ∧ KD5 S T) S := kd_X11_readFresh_0 h (kd5_rf S)
set_option maxRecDepth 20000 in
set_option maxHeartbeats 1000000 in
theorem kd_X11_readWhole_49 {Q : Int32 → HS → Prop} {v0 : Nat} {s0 : Int32} {S0 S : HS} (h : P_X11_readWhole_49 Q v0 s0 S) (K : KD5 S0 S) : P_X11_readWhole_49 (fun r T => Q r T ∧ KD5 S0 T) v0 s0 S := by
  delta P_X11_readWhole_49 at h ⊢
  obtain ⟨c1, h⟩ := h
  refine ⟨c1, ?_⟩
  have n2 := kd5_ne K c1
  refine cm_X11_goesOn (kd_X11_goesOn h) h (fun x3 hp h g4 => ?_)
  have h := h g4
  have K := kd5_tr K hp.2
  exact ⟨h, K⟩
set_option maxRecDepth 20000 in
set_option maxHeartbeats 1000000 in
theorem kd_X11_readWhole_33 {Q : Int32 → HS → Prop} {v0 : Nat} {v1 : Int32} {S0 S : HS} (h : P_X11_readWhole_33 Q v0 v1 S) (K : KD5 S0 S) : P_X11_readWhole_33 (fun r T => Q r T ∧ KD5 S0 T) v0 v1 S := by
  delta P_X11_readWhole_33 at h ⊢
  obtain ⟨c1, h⟩ := h
  refine ⟨c1, ?_⟩
  have n2 := kd5_ne K c1
  intro x4 e3
  have h := h x4 e3
  refine ⟨?_, ?_⟩
  · intro c5
    have h := h.1 c5
    intro x7 e6
    have h := h x7 e6
    exact kd_X11_readWhole_49 h K
  · intro c8
    have h := h.2 c8
    exact kd_X11_readWhole_49 h K
set_option maxRecDepth 20000 in
set_option maxHeartbeats 1000000 in
theorem kd_X11_readWhole_0 {Q : Int32 → HS → Prop} {v0 : Nat} {v1 : Int32} {v2 : Int32} {S0 S : HS} (h : P_X11_readWhole_0 Q v0 v1 v2 S) (K : KD5 S0 S) : P_X11_readWhole_0 (fun r T => Q r T ∧ KD5 S0 T) v0 v1 v2 S := by
  delta P_X11_readWhole_0 at h ⊢
  obtain ⟨c1, h⟩ := h
  refine ⟨c1, ?_⟩
  have n2 := kd5_ne K c1
  intro x4 e3
  have h := h x4 e3
  refine ⟨?_, ?_⟩
  · intro c5
    have h := h.1 c5
    intro x7 e6
    have h := h x7 e6
    refine cm_X11_in (kd_X11_in h) h (fun x8 x9 hp h g10 g11 => ?_)
    have h := h g10 g11
    have K := kd5_tr K hp.2
    refine ⟨?_, ?_⟩
    · intro c12
      have h := h.1 c12
      exact kd_X11_readWhole_33 h K
    · intro c13
      have h := h.2 c13
      refine cm_X11_flaw (kd_X11_flaw h) h (fun x14 hp h g15 => ?_)
      have h := h g15
      have K := kd5_tr K hp.2
      exact kd_X11_readWhole_33 h K
  · intro c16
    have h := h.2 c16
    refine cm_X11_flaw (kd_X11_flaw h) h (fun x17 hp h g18 => ?_)
    have h := h g18
    have K := kd5_tr K hp.2
    exact kd_X11_readWhole_33 h K
theorem kd_X11_readWhole {Q : Int32 → HS → Prop} {v0 : Nat} {v1 : Int32} {v2 : Int32} {S : HS} (h : P_X11_readWhole v0 v1 v2 Q S) : P_X11_readWhole v0 v1 v2 (fun r T => Q r T ∧ KD5 S T) S := kd_X11_readWhole_0 h (kd5_rf S)
set_option maxRecDepth 20000 in
set_option maxHeartbeats 1000000 in
theorem kd_X11_readPlace_50 {Q : HS → Prop} {v0 : Nat} {v1 : Int64} {v3 : Int32} {s0 : Int32} {S0 S : HS} (h : P_X11_readPlace_50 Q v0 v1 v3 s0 S) (K : KD5 S0 S) : P_X11_readPlace_50 (fun T => Q T ∧ KD5 S0 T) v0 v1 v3 s0 S := by
  delta P_X11_readPlace_50 at h ⊢
  obtain ⟨c1, h⟩ := h
  refine ⟨c1, ?_⟩
  have n2 := kd5_ne K c1
  intro x4 e3
  have h := h x4 e3
  refine ⟨?_, ?_⟩
  · intro c5
    have h := h.1 c5
    obtain ⟨b6, e7, h⟩ := h
    refine ⟨b6, e7, ?_⟩
    obtain ⟨c8, h⟩ := h
    refine ⟨c8, ?_⟩
    have n9 := kd5_ne K c8
    intro x11 e10
    have h := h x11 e10
    refine cm_X11_names (kd_X11_names h) h (fun x12 hp h g13 => ?_)
    have h := h g13
    have K := kd5_tr K hp.2
    obtain ⟨b14, e15, h⟩ := h
    refine ⟨b14, e15, ?_⟩
    obtain ⟨c16, h⟩ := h
    refine ⟨c16, ?_⟩
    have n17 := kd5_ne K c16
    obtain ⟨b18, e19, h⟩ := h
    refine ⟨b18, e19, ?_⟩
    obtain ⟨b20, e21, h⟩ := h
    refine ⟨b20, e21, ?_⟩
    obtain ⟨c22, h⟩ := h
    refine ⟨c22, ?_⟩
    have n23 := kd5_ne K c22
    intro x25 e24
    have h := h x25 e24
    obtain ⟨c26, h⟩ := h
    refine ⟨c26, ?_⟩
    have n27 := kd5_ne K c26
    obtain ⟨c28, h⟩ := h
    refine ⟨c28, ?_⟩
    intro x30 e29
    have h := h x30 e29
    have K := kd5_A K e29 n27 (by decide)
    obtain ⟨b31, e32, h⟩ := h
    refine ⟨b31, e32, ?_⟩
    obtain ⟨c33, h⟩ := h
    refine ⟨c33, ?_⟩
    have n34 := kd5_ne K c33
    obtain ⟨b35, e36, h⟩ := h
    refine ⟨b35, e36, ?_⟩
    obtain ⟨b37, e38, h⟩ := h
    refine ⟨b37, e38, ?_⟩
    obtain ⟨c39, h⟩ := h
    refine ⟨c39, ?_⟩
    have n40 := kd5_ne K c39
    intro x42 e41
    have h := h x42 e41
    obtain ⟨c43, h⟩ := h
    refine ⟨c43, ?_⟩
    have n44 := kd5_ne K c43
    obtain ⟨c45, h⟩ := h
    refine ⟨c45, ?_⟩
    intro x47 e46
    have h := h x47 e46
    have K := kd5_A K e46 n44 (by decide)
    obtain ⟨b48, e49, h⟩ := h
    refine ⟨b48, e49, ?_⟩
    obtain ⟨c50, h⟩ := h
    refine ⟨c50, ?_⟩
    have n51 := kd5_ne K c50
    intro x53 e52
    have h := h x53 e52
    intro x55 e54
    have h := h x55 e54
    intro x57 e56
    have h := h x57 e56
    have K := kd5_I K e56 n51 (by decide)
    exact ⟨h, K⟩
  · intro c58
    have h := h.2 c58
    exact ⟨h, K⟩
set_option maxRecDepth 20000 in
set_option maxHeartbeats 1000000 in
theorem kd_X11_readPlace_48 {Q : HS → Prop} {v0 : Nat} {v1 : Int64} {v3 : Int32} {S0 S : HS} (h : P_X11_readPlace_48 Q v0 v1 v3 S) (K : KD5 S0 S) : P_X11_readPlace_48 (fun T => Q T ∧ KD5 S0 T) v0 v1 v3 S := by
  delta P_X11_readPlace_48 at h ⊢
  exact kd_X11_readPlace_50 h K
set_option maxRecDepth 20000 in
set_option maxHeartbeats 1000000 in
theorem kd_X11_readPlace_0 {Q : HS → Prop} {v0 : Nat} {S0 S : HS} (h : P_X11_readPlace_0 Q v0 S) (K : KD5 S0 S) : P_X11_readPlace_0 (fun T => Q T ∧ KD5 S0 T) v0 S := by
  delta P_X11_readPlace_0 at h ⊢
  obtain ⟨c1, h⟩ := h
  refine ⟨c1, ?_⟩
  have n2 := kd5_ne K c1
  obtain ⟨b3, e4, h⟩ := h
  refine ⟨b3, e4, ?_⟩
  obtain ⟨c5, h⟩ := h
  refine ⟨c5, ?_⟩
  have n6 := kd5_ne K c5
  intro x8 e7
  have h := h x8 e7
  refine cm_X11_begins (kd_X11_begins h) h (fun x9 hp h g10 => ?_)
  have h := h g10
  have K := kd5_tr K hp.2
  refine cm_X11_readFresh (kd_X11_readFresh h) h (fun x11 x12 hp h g13 => ?_)
  have h := h g13
  have K := kd5_tr K hp.2
  refine cm_X11_eatsWord (kd_X11_eatsWord h) h (fun x14 x15 hp h g16 g17 => ?_)
  have h := h g16 g17
  have K := kd5_tr K hp.2
  refine ⟨?_, ?_⟩
  · intro c18
    have h := h.1 c18
    exact kd_X11_readPlace_48 h K
  · intro c19
    have h := h.2 c19
    refine cm_X11_eatsWord (kd_X11_eatsWord h) h (fun x20 x21 hp h g22 g23 => ?_)
    have h := h g22 g23
    have K := kd5_tr K hp.2
    refine ⟨?_, ?_⟩
    · intro c24
      have h := h.1 c24
      exact kd_X11_readPlace_48 h K
    · intro c25
      have h := h.2 c25
      refine cm_X11_readWhole (kd_X11_readWhole h) h (fun x26 x27 hp h g28 => ?_)
      have h := h g28
      have K := kd5_tr K hp.2
      exact kd_X11_readPlace_50 h K
theorem kd_X11_readPlace {Q : HS → Prop} {v0 : Nat} {S : HS} (h : P_X11_readPlace v0 Q S) : P_X11_readPlace v0 (fun T => Q T ∧ KD5 S T) S := kd_X11_readPlace_0 h (kd5_rf S)
set_option maxRecDepth 20000 in
set_option maxHeartbeats 1000000 in
theorem kd_X11_readPart_0 {Q : Int32 → HS → Prop} {v0 : Nat} {v1 : Nat} {v2 : Int32} {v3 : Int32} {S0 S : HS} (h : P_X11_readPart_0 Q v0 v1 v2 v3 S) (K : KD5 S0 S) : P_X11_readPart_0 (fun r T => Q r T ∧ KD5 S0 T) v0 v1 v2 v3 S := by
  delta P_X11_readPart_0 at h ⊢
  obtain ⟨c1, h⟩ := h
  refine ⟨c1, ?_⟩
  have n2 := kd5_ne K c1
  refine cm_X11_needs (kd_X11_needs h) h (fun x3 hp h g4 => ?_)
  have h := h g4
  have K := kd5_tr K hp.2
  refine cm_X11_readWhole (kd_X11_readWhole h) h (fun x5 x6 hp h g7 => ?_)
  have h := h g7
  have K := kd5_tr K hp.2
  exact ⟨h, K⟩
theorem kd_X11_readPart {Q : Int32 → HS → Prop} {v0 : Nat} {v1 : Nat} {v2 : Int32} {v3 : Int32} {S : HS} (h : P_X11_readPart v0 v1 v2 v3 Q S) : P_X11_readPart v0 v1 v2 v3 (fun r T => Q r T ∧ KD5 S T) S := kd_X11_readPart_0 h (kd5_rf S)
set_option maxRecDepth 20000 in
set_option maxHeartbeats 1000000 in
theorem kd_X11_readSide_64 {Q : Int32 → HS → Prop} {v0 : Nat} {v1 : Int32} {S0 S : HS} (h : P_X11_readSide_64 Q v0 v1 S) (K : KD5 S0 S) : P_X11_readSide_64 (fun r T => Q r T ∧ KD5 S0 T) v0 v1 S := by
  delta P_X11_readSide_64 at h ⊢
  obtain ⟨c1, h⟩ := h
  refine ⟨c1, ?_⟩
  have n2 := kd5_ne K c1
  refine cm_X11_goesOn (kd_X11_goesOn h) h (fun x3 hp h g4 => ?_)
  have h := h g4
  have K := kd5_tr K hp.2
  exact ⟨h, K⟩
set_option maxRecDepth 20000 in
set_option maxHeartbeats 1000000 in
theorem kd_X11_readSide_53 {Q : Int32 → HS → Prop} {v0 : Nat} {s0 : Int32} {S0 S : HS} (h : P_X11_readSide_53 Q v0 s0 S) (K : KD5 S0 S) : P_X11_readSide_53 (fun r T => Q r T ∧ KD5 S0 T) v0 s0 S := by
  delta P_X11_readSide_53 at h ⊢
  refine ⟨?_, ?_⟩
  · intro c1
    have h := h.1 c1
    exact kd_X11_readSide_64 h K
  · intro c2
    have h := h.2 c2
    obtain ⟨c3, h⟩ := h
    refine ⟨c3, ?_⟩
    have n4 := kd5_ne K c3
    refine cm_X11_flaw (kd_X11_flaw h) h (fun x5 hp h g6 => ?_)
    have h := h g6
    have K := kd5_tr K hp.2
    exact kd_X11_readSide_64 h K
set_option maxRecDepth 20000 in
set_option maxHeartbeats 1000000 in
theorem kd_X11_readSide_0 {Q : Int32 → HS → Prop} {v0 : Nat} {S0 S : HS} (h : P_X11_readSide_0 Q v0 S) (K : KD5 S0 S) : P_X11_readSide_0 (fun r T => Q r T ∧ KD5 S0 T) v0 S := by
  delta P_X11_readSide_0 at h ⊢
  obtain ⟨c1, h⟩ := h
  refine ⟨c1, ?_⟩
  have n2 := kd5_ne K c1
  refine cm_X11_isWord (kd_X11_isWord h) h (fun x3 x4 hp h g5 g6 => ?_)
  have h := h g5 g6
  have K := kd5_tr K hp.2
  refine ⟨?_, ?_⟩
  · intro c7
    have h := h.1 c7
    refine cm_X11_isWord (kd_X11_isWord h) h (fun x8 x9 hp h g10 g11 => ?_)
    have h := h g10 g11
    have K := kd5_tr K hp.2
    refine ⟨?_, ?_⟩
    · intro c12
      have h := h.1 c12
      refine cm_X11_isWord (kd_X11_isWord h) h (fun x13 x14 hp h g15 g16 => ?_)
      have h := h g15 g16
      have K := kd5_tr K hp.2
      refine ⟨?_, ?_⟩
      · intro c17
        have h := h.1 c17
        refine cm_X11_isWord (kd_X11_isWord h) h (fun x18 x19 hp h g20 g21 => ?_)
        have h := h g20 g21
        have K := kd5_tr K hp.2
        refine ⟨?_, ?_⟩
        · intro c22
          have h := h.1 c22
          exact kd_X11_readSide_53 h K
        · intro c23
          have h := h.2 c23
          exact kd_X11_readSide_53 h K
      · intro c24
        have h := h.2 c24
        exact kd_X11_readSide_53 h K
    · intro c25
      have h := h.2 c25
      exact kd_X11_readSide_53 h K
  · intro c26
    have h := h.2 c26
    exact kd_X11_readSide_53 h K
theorem kd_X11_readSide {Q : Int32 → HS → Prop} {v0 : Nat} {S : HS} (h : P_X11_readSide v0 Q S) : P_X11_readSide v0 (fun r T => Q r T ∧ KD5 S T) S := kd_X11_readSide_0 h (kd5_rf S)
set_option maxRecDepth 20000 in
set_option maxHeartbeats 1000000 in
theorem kd_X11_readRain_0 {Q : HS → Prop} {v0 : Nat} {S0 S : HS} (h : P_X11_readRain_0 Q v0 S) (K : KD5 S0 S) : P_X11_readRain_0 (fun T => Q T ∧ KD5 S0 T) v0 S := by
  delta P_X11_readRain_0 at h ⊢
  obtain ⟨c1, h⟩ := h
  refine ⟨c1, ?_⟩
  have n2 := kd5_ne K c1
  obtain ⟨b3, e4, h⟩ := h
  refine ⟨b3, e4, ?_⟩
  obtain ⟨c5, h⟩ := h
  refine ⟨c5, ?_⟩
  have n6 := kd5_ne K c5
  intro x8 e7
  have h := h x8 e7
  refine cm_X11_begins (kd_X11_begins h) h (fun x9 hp h g10 => ?_)
  have h := h g10
  have K := kd5_tr K hp.2
  refine cm_X11_readPart (kd_X11_readPart h) h (fun x11 x12 hp h g13 => ?_)
  have h := h g13
  have K := kd5_tr K hp.2
  refine cm_X11_readPart (kd_X11_readPart h) h (fun x14 x15 hp h g16 => ?_)
  have h := h g16
  have K := kd5_tr K hp.2
  refine cm_X11_needs (kd_X11_needs h) h (fun x17 hp h g18 => ?_)
  have h := h g18
  have K := kd5_tr K hp.2
  refine cm_X11_readSide (kd_X11_readSide h) h (fun x19 x20 hp h g21 => ?_)
  have h := h g21
  have K := kd5_tr K hp.2
  refine cm_X11_readWhole (kd_X11_readWhole h) h (fun x22 x23 hp h g24 => ?_)
  have h := h g24
  have K := kd5_tr K hp.2
  refine cm_X11_readPart (kd_X11_readPart h) h (fun x25 x26 hp h g27 => ?_)
  have h := h g27
  have K := kd5_tr K hp.2
  intro x29 e28
  have h := h x29 e28
  refine ⟨?_, ?_⟩
  · intro c30
    have h := h.1 c30
    obtain ⟨b31, e32, h⟩ := h
    refine ⟨b31, e32, ?_⟩
    obtain ⟨c33, h⟩ := h
    refine ⟨c33, ?_⟩
    have n34 := kd5_ne K c33
    obtain ⟨b35, e36, h⟩ := h
    refine ⟨b35, e36, ?_⟩
    obtain ⟨b37, e38, h⟩ := h
    refine ⟨b37, e38, ?_⟩
    obtain ⟨c39, h⟩ := h
    refine ⟨c39, ?_⟩
    have n40 := kd5_ne K c39
    intro x42 e41
    have h := h x42 e41
    obtain ⟨c43, h⟩ := h
    refine ⟨c43, ?_⟩
    have n44 := kd5_ne K c43
    obtain ⟨c45, h⟩ := h
    refine ⟨c45, ?_⟩
    intro x47 e46
    have h := h x47 e46
    have K := kd5_A K e46 n44 (by decide)
    obtain ⟨b48, e49, h⟩ := h
    refine ⟨b48, e49, ?_⟩
    obtain ⟨c50, h⟩ := h
    refine ⟨c50, ?_⟩
    have n51 := kd5_ne K c50
    obtain ⟨b52, e53, h⟩ := h
    refine ⟨b52, e53, ?_⟩
    obtain ⟨b54, e55, h⟩ := h
    refine ⟨b54, e55, ?_⟩
    obtain ⟨c56, h⟩ := h
    refine ⟨c56, ?_⟩
    have n57 := kd5_ne K c56
    intro x59 e58
    have h := h x59 e58
    obtain ⟨c60, h⟩ := h
    refine ⟨c60, ?_⟩
    have n61 := kd5_ne K c60
    obtain ⟨c62, h⟩ := h
    refine ⟨c62, ?_⟩
    intro x64 e63
    have h := h x64 e63
    have K := kd5_A K e63 n61 (by decide)
    obtain ⟨b65, e66, h⟩ := h
    refine ⟨b65, e66, ?_⟩
    obtain ⟨c67, h⟩ := h
    refine ⟨c67, ?_⟩
    have n68 := kd5_ne K c67
    obtain ⟨b69, e70, h⟩ := h
    refine ⟨b69, e70, ?_⟩
    obtain ⟨b71, e72, h⟩ := h
    refine ⟨b71, e72, ?_⟩
    obtain ⟨c73, h⟩ := h
    refine ⟨c73, ?_⟩
    have n74 := kd5_ne K c73
    intro x76 e75
    have h := h x76 e75
    obtain ⟨c77, h⟩ := h
    refine ⟨c77, ?_⟩
    have n78 := kd5_ne K c77
    obtain ⟨c79, h⟩ := h
    refine ⟨c79, ?_⟩
    intro x81 e80
    have h := h x81 e80
    have K := kd5_A K e80 n78 (by decide)
    obtain ⟨b82, e83, h⟩ := h
    refine ⟨b82, e83, ?_⟩
    obtain ⟨c84, h⟩ := h
    refine ⟨c84, ?_⟩
    have n85 := kd5_ne K c84
    obtain ⟨b86, e87, h⟩ := h
    refine ⟨b86, e87, ?_⟩
    obtain ⟨b88, e89, h⟩ := h
    refine ⟨b88, e89, ?_⟩
    obtain ⟨c90, h⟩ := h
    refine ⟨c90, ?_⟩
    have n91 := kd5_ne K c90
    intro x93 e92
    have h := h x93 e92
    obtain ⟨c94, h⟩ := h
    refine ⟨c94, ?_⟩
    have n95 := kd5_ne K c94
    obtain ⟨c96, h⟩ := h
    refine ⟨c96, ?_⟩
    intro x98 e97
    have h := h x98 e97
    have K := kd5_A K e97 n95 (by decide)
    obtain ⟨b99, e100, h⟩ := h
    refine ⟨b99, e100, ?_⟩
    obtain ⟨c101, h⟩ := h
    refine ⟨c101, ?_⟩
    have n102 := kd5_ne K c101
    obtain ⟨b103, e104, h⟩ := h
    refine ⟨b103, e104, ?_⟩
    obtain ⟨b105, e106, h⟩ := h
    refine ⟨b105, e106, ?_⟩
    obtain ⟨c107, h⟩ := h
    refine ⟨c107, ?_⟩
    have n108 := kd5_ne K c107
    intro x110 e109
    have h := h x110 e109
    obtain ⟨c111, h⟩ := h
    refine ⟨c111, ?_⟩
    have n112 := kd5_ne K c111
    obtain ⟨c113, h⟩ := h
    refine ⟨c113, ?_⟩
    intro x115 e114
    have h := h x115 e114
    have K := kd5_A K e114 n112 (by decide)
    obtain ⟨b116, e117, h⟩ := h
    refine ⟨b116, e117, ?_⟩
    obtain ⟨c118, h⟩ := h
    refine ⟨c118, ?_⟩
    have n119 := kd5_ne K c118
    intro x121 e120
    have h := h x121 e120
    intro x123 e122
    have h := h x123 e122
    intro x125 e124
    have h := h x125 e124
    have K := kd5_I K e124 n119 (by decide)
    exact ⟨h, K⟩
  · intro c126
    have h := h.2 c126
    exact ⟨h, K⟩
theorem kd_X11_readRain {Q : HS → Prop} {v0 : Nat} {S : HS} (h : P_X11_readRain v0 Q S) : P_X11_readRain v0 (fun T => Q T ∧ KD5 S T) S := kd_X11_readRain_0 h (kd5_rf S)
set_option maxRecDepth 20000 in
set_option maxHeartbeats 1000000 in
theorem kd_X11_readRoad_85 {Q : HS → Prop} {v0 : Nat} {v1 : Int32} {v2 : Int32} {v3 : Int32} {v4 : Int32} {s0 : Int32} {S0 S : HS} (h : P_X11_readRoad_85 Q v0 v1 v2 v3 v4 s0 S) (K : KD5 S0 S) : P_X11_readRoad_85 (fun T => Q T ∧ KD5 S0 T) v0 v1 v2 v3 v4 s0 S := by
  delta P_X11_readRoad_85 at h ⊢
  obtain ⟨c1, h⟩ := h
  refine ⟨c1, ?_⟩
  have n2 := kd5_ne K c1
  intro x4 e3
  have h := h x4 e3
  refine ⟨?_, ?_⟩
  · intro c5
    have h := h.1 c5
    obtain ⟨b6, e7, h⟩ := h
    refine ⟨b6, e7, ?_⟩
    obtain ⟨c8, h⟩ := h
    refine ⟨c8, ?_⟩
    have n9 := kd5_ne K c8
    intro x11 e10
    have h := h x11 e10
    obtain ⟨b12, e13, h⟩ := h
    refine ⟨b12, e13, ?_⟩
    obtain ⟨c14, h⟩ := h
    refine ⟨c14, ?_⟩
    have n15 := kd5_ne K c14
    obtain ⟨b16, e17, h⟩ := h
    refine ⟨b16, e17, ?_⟩
    obtain ⟨c18, h⟩ := h
    refine ⟨c18, ?_⟩
    have n19 := kd5_ne K c18
    obtain ⟨c20, h⟩ := h
    refine ⟨c20, ?_⟩
    intro x22 e21
    have h := h x22 e21
    have K := kd5_A K e21 n19 (by decide)
    obtain ⟨b23, e24, h⟩ := h
    refine ⟨b23, e24, ?_⟩
    obtain ⟨c25, h⟩ := h
    refine ⟨c25, ?_⟩
    have n26 := kd5_ne K c25
    obtain ⟨b27, e28, h⟩ := h
    refine ⟨b27, e28, ?_⟩
    obtain ⟨c29, h⟩ := h
    refine ⟨c29, ?_⟩
    have n30 := kd5_ne K c29
    obtain ⟨c31, h⟩ := h
    refine ⟨c31, ?_⟩
    intro x33 e32
    have h := h x33 e32
    have K := kd5_A K e32 n30 (by decide)
    obtain ⟨b34, e35, h⟩ := h
    refine ⟨b34, e35, ?_⟩
    obtain ⟨c36, h⟩ := h
    refine ⟨c36, ?_⟩
    have n37 := kd5_ne K c36
    obtain ⟨b38, e39, h⟩ := h
    refine ⟨b38, e39, ?_⟩
    obtain ⟨c40, h⟩ := h
    refine ⟨c40, ?_⟩
    have n41 := kd5_ne K c40
    obtain ⟨c42, h⟩ := h
    refine ⟨c42, ?_⟩
    intro x44 e43
    have h := h x44 e43
    have K := kd5_A K e43 n41 (by decide)
    obtain ⟨b45, e46, h⟩ := h
    refine ⟨b45, e46, ?_⟩
    obtain ⟨c47, h⟩ := h
    refine ⟨c47, ?_⟩
    have n48 := kd5_ne K c47
    obtain ⟨b49, e50, h⟩ := h
    refine ⟨b49, e50, ?_⟩
    obtain ⟨c51, h⟩ := h
    refine ⟨c51, ?_⟩
    have n52 := kd5_ne K c51
    obtain ⟨c53, h⟩ := h
    refine ⟨c53, ?_⟩
    intro x55 e54
    have h := h x55 e54
    have K := kd5_A K e54 n52 (by decide)
    obtain ⟨b56, e57, h⟩ := h
    refine ⟨b56, e57, ?_⟩
    obtain ⟨c58, h⟩ := h
    refine ⟨c58, ?_⟩
    have n59 := kd5_ne K c58
    obtain ⟨b60, e61, h⟩ := h
    refine ⟨b60, e61, ?_⟩
    obtain ⟨c62, h⟩ := h
    refine ⟨c62, ?_⟩
    have n63 := kd5_ne K c62
    obtain ⟨c64, h⟩ := h
    refine ⟨c64, ?_⟩
    intro x66 e65
    have h := h x66 e65
    have K := kd5_A K e65 n63 (by decide)
    obtain ⟨b67, e68, h⟩ := h
    refine ⟨b67, e68, ?_⟩
    obtain ⟨c69, h⟩ := h
    refine ⟨c69, ?_⟩
    have n70 := kd5_ne K c69
    intro x72 e71
    have h := h x72 e71
    intro x74 e73
    have h := h x74 e73
    intro x76 e75
    have h := h x76 e75
    have K := kd5_I K e75 n70 (by decide)
    exact ⟨h, K⟩
  · intro c77
    have h := h.2 c77
    exact ⟨h, K⟩
set_option maxRecDepth 20000 in
set_option maxHeartbeats 1000000 in
theorem kd_X11_readRoad_62 {Q : HS → Prop} {v0 : Nat} {v1 : Int32} {v2 : Int32} {v3 : Int32} {v4 : Int32} {S0 S : HS} (h : P_X11_readRoad_62 Q v0 v1 v2 v3 v4 S) (K : KD5 S0 S) : P_X11_readRoad_62 (fun T => Q T ∧ KD5 S0 T) v0 v1 v2 v3 v4 S := by
  delta P_X11_readRoad_62 at h ⊢
  obtain ⟨c1, h⟩ := h
  refine ⟨c1, ?_⟩
  have n2 := kd5_ne K c1
  refine cm_X11_goesOn (kd_X11_goesOn h) h (fun x3 hp h g4 => ?_)
  have h := h g4
  have K := kd5_tr K hp.2
  refine cm_X11_eatsWord (kd_X11_eatsWord h) h (fun x5 x6 hp h g7 g8 => ?_)
  have h := h g7 g8
  have K := kd5_tr K hp.2
  refine ⟨?_, ?_⟩
  · intro c9
    have h := h.1 c9
    exact kd_X11_readRoad_85 h K
  · intro c10
    have h := h.2 c10
    refine cm_X11_readWhole (kd_X11_readWhole h) h (fun x11 x12 hp h g13 => ?_)
    have h := h g13
    have K := kd5_tr K hp.2
    exact kd_X11_readRoad_85 h K
set_option maxRecDepth 20000 in
set_option maxHeartbeats 1000000 in
theorem kd_X11_readRoad_0 {Q : HS → Prop} {v0 : Nat} {S0 S : HS} (h : P_X11_readRoad_0 Q v0 S) (K : KD5 S0 S) : P_X11_readRoad_0 (fun T => Q T ∧ KD5 S0 T) v0 S := by
  delta P_X11_readRoad_0 at h ⊢
  obtain ⟨c1, h⟩ := h
  refine ⟨c1, ?_⟩
  have n2 := kd5_ne K c1
  obtain ⟨b3, e4, h⟩ := h
  refine ⟨b3, e4, ?_⟩
  obtain ⟨c5, h⟩ := h
  refine ⟨c5, ?_⟩
  have n6 := kd5_ne K c5
  intro x8 e7
  have h := h x8 e7
  refine cm_X11_begins (kd_X11_begins h) h (fun x9 hp h g10 => ?_)
  have h := h g10
  have K := kd5_tr K hp.2
  refine cm_X11_known (kd_X11_known h) h (fun x11 x12 hp h g13 => ?_)
  have h := h g13
  have K := kd5_tr K hp.2
  refine cm_X11_goesOn (kd_X11_goesOn h) h (fun x14 hp h g15 => ?_)
  have h := h g15
  have K := kd5_tr K hp.2
  refine cm_X11_readSide (kd_X11_readSide h) h (fun x16 x17 hp h g18 => ?_)
  have h := h g18
  have K := kd5_tr K hp.2
  refine cm_X11_readWhole (kd_X11_readWhole h) h (fun x19 x20 hp h g21 => ?_)
  have h := h g21
  have K := kd5_tr K hp.2
  refine cm_X11_known (kd_X11_known h) h (fun x22 x23 hp h g24 => ?_)
  have h := h g24
  have K := kd5_tr K hp.2
  intro x26 e25
  have h := h x26 e25
  refine ⟨?_, ?_⟩
  · intro c27
    have h := h.1 c27
    exact kd_X11_readRoad_62 h K
  · intro c28
    have h := h.2 c28
    refine ⟨?_, ?_⟩
    · intro c29
      have h := h.1 c29
      exact kd_X11_readRoad_62 h K
    · intro c30
      have h := h.2 c30
      refine cm_X11_flaw (kd_X11_flaw h) h (fun x31 hp h g32 => ?_)
      have h := h g32
      have K := kd5_tr K hp.2
      exact kd_X11_readRoad_62 h K
theorem kd_X11_readRoad {Q : HS → Prop} {v0 : Nat} {S : HS} (h : P_X11_readRoad v0 Q S) : P_X11_readRoad v0 (fun T => Q T ∧ KD5 S T) S := kd_X11_readRoad_0 h (kd5_rf S)
set_option maxRecDepth 20000 in
set_option maxHeartbeats 1000000 in
theorem kd_X11_readSeen_47 {Q : HS → Prop} {X24 X24_2 : Nat → Int32 → Int32 → HS → Prop} {v0 : Nat} {v1 : Int32} {v2 : Int32} {S0 S : HS} (h : P_X11_readSeen_47 Q X24 v0 v1 v2 S) (K : KD5 S0 S) (hX24 : ∀ (u0 : Nat) (u1 : Int32) (u2 : Int32) (u3 : HS), X24 u0 u1 u2 u3 → KD5 S0 u3 → X24_2 u0 u1 u2 u3) : P_X11_readSeen_47 (fun T => Q T ∧ KD5 S0 T) X24_2 v0 v1 v2 S := by
  delta P_X11_readSeen_47 at h ⊢
  obtain ⟨c1, h⟩ := h
  refine ⟨c1, ?_⟩
  have n2 := kd5_ne K c1
  refine cm_X11_readWhole (kd_X11_readWhole h) h (fun x3 x4 hp h g5 => ?_)
  have h := h g5
  have K := kd5_tr K hp.2
  intro x7 e6
  have h := h x7 e6
  refine ⟨?_, ?_⟩
  · intro c8
    have h := h.1 c8
    obtain ⟨b9, e10, h⟩ := h
    refine ⟨b9, e10, ?_⟩
    obtain ⟨c11, h⟩ := h
    refine ⟨c11, ?_⟩
    have n12 := kd5_ne K c11
    obtain ⟨b13, e14, h⟩ := h
    refine ⟨b13, e14, ?_⟩
    obtain ⟨b15, e16, h⟩ := h
    refine ⟨b15, e16, ?_⟩
    obtain ⟨c17, h⟩ := h
    refine ⟨c17, ?_⟩
    have n18 := kd5_ne K c17
    intro x20 e19
    have h := h x20 e19
    obtain ⟨c21, h⟩ := h
    refine ⟨c21, ?_⟩
    have n22 := kd5_ne K c21
    obtain ⟨c23, h⟩ := h
    refine ⟨c23, ?_⟩
    intro x25 e24
    have h := h x25 e24
    have K := kd5_A K e24 n22 (by decide)
    intro x27 e26
    have h := h x27 e26
    exact hX24 _ _ _ _ h K
  · intro c28
    have h := h.2 c28
    exact ⟨h, K⟩
set_option maxRecDepth 20000 in
set_option maxHeartbeats 1000000 in
theorem kdB_X11_readSeen_24 {Q : HS → Prop} {X24 X24_2 : Nat → Int32 → Int32 → HS → Prop} {v0 : Nat} {v1 : Int32} {v2 : Int32} {S0 S : HS} (h : B_X11_readSeen_24 Q X24 v0 v1 v2 S) (K : KD5 S0 S) (hX24 : ∀ (u0 : Nat) (u1 : Int32) (u2 : Int32) (u3 : HS), X24 u0 u1 u2 u3 → KD5 S0 u3 → X24_2 u0 u1 u2 u3) : B_X11_readSeen_24 (fun T => Q T ∧ KD5 S0 T) X24_2 v0 v1 v2 S := by
  delta B_X11_readSeen_24 at h ⊢
  refine ⟨?_, ?_⟩
  · intro c1
    have h := h.1 c1
    obtain ⟨c2, h⟩ := h
    refine ⟨c2, ?_⟩
    have n3 := kd5_ne K c2
    obtain ⟨b4, e5, h⟩ := h
    refine ⟨b4, e5, ?_⟩
    obtain ⟨c6, h⟩ := h
    refine ⟨c6, ?_⟩
    have n7 := kd5_ne K c6
    obtain ⟨b8, e9, h⟩ := h
    refine ⟨b8, e9, ?_⟩
    obtain ⟨b10, e11, h⟩ := h
    refine ⟨b10, e11, ?_⟩
    obtain ⟨c12, h⟩ := h
    refine ⟨c12, ?_⟩
    have n13 := kd5_ne K c12
    intro x15 e14
    have h := h x15 e14
    obtain ⟨c16, h⟩ := h
    refine ⟨c16, ?_⟩
    have n17 := kd5_ne K c16
    obtain ⟨c18, h⟩ := h
    refine ⟨c18, ?_⟩
    intro x20 e19
    have h := h x20 e19
    have K := kd5_A K e19 n17 (by decide)
    obtain ⟨b21, e22, h⟩ := h
    refine ⟨b21, e22, ?_⟩
    obtain ⟨c23, h⟩ := h
    refine ⟨c23, ?_⟩
    have n24 := kd5_ne K c23
    intro x26 e25
    have h := h x26 e25
    intro x28 e27
    have h := h x28 e27
    intro x30 e29
    have h := h x30 e29
    have K := kd5_I K e29 n24 (by decide)
    exact ⟨h, K⟩
  · intro c31
    have h := h.2 c31
    refine ⟨?_, ?_⟩
    · intro c32
      have h := h.1 c32
      exact kd_X11_readSeen_47 h K hX24
    · intro c33
      have h := h.2 c33
      obtain ⟨c34, h⟩ := h
      refine ⟨c34, ?_⟩
      have n35 := kd5_ne K c34
      refine cm_X11_eatsSign (kd_X11_eatsSign h) h (fun x36 x37 hp h g38 g39 => ?_)
      have h := h g38 g39
      have K := kd5_tr K hp.2
      refine ⟨?_, ?_⟩
      · intro c40
        have h := h.1 c40
        exact kd_X11_readSeen_47 h K hX24
      · intro c41
        have h := h.2 c41
        refine cm_X11_flaw (kd_X11_flaw h) h (fun x42 hp h g43 => ?_)
        have h := h g43
        have K := kd5_tr K hp.2
        exact kd_X11_readSeen_47 h K hX24
theorem kd_X11_readSeen_24 {Q : HS → Prop} {v0 : Nat} {v1 : Int32} {v2 : Int32} {S0 S : HS} (h : P_X11_readSeen_24 Q v0 v1 v2 S) (K : KD5 S0 S) : P_X11_readSeen_24 (fun T => Q T ∧ KD5 S0 T) v0 v1 v2 S := h (fun v0 v1 v2 S => KD5 S0 S → P_X11_readSeen_24 (fun T => Q T ∧ KD5 S0 T) v0 v1 v2 S) (fun v0 v1 v2 S hB K => fd_X11_readSeen_24 (kdB_X11_readSeen_24 hB K (fun _ _ _ _ hx K => hx K))) K
set_option maxRecDepth 20000 in
set_option maxHeartbeats 1000000 in
theorem kd_X11_readSeen_0 {Q : HS → Prop} {v0 : Nat} {S0 S : HS} (h : P_X11_readSeen_0 Q v0 S) (K : KD5 S0 S) : P_X11_readSeen_0 (fun T => Q T ∧ KD5 S0 T) v0 S := by
  delta P_X11_readSeen_0 at h ⊢
  obtain ⟨c1, h⟩ := h
  refine ⟨c1, ?_⟩
  have n2 := kd5_ne K c1
  obtain ⟨b3, e4, h⟩ := h
  refine ⟨b3, e4, ?_⟩
  obtain ⟨c5, h⟩ := h
  refine ⟨c5, ?_⟩
  have n6 := kd5_ne K c5
  intro x8 e7
  have h := h x8 e7
  refine cm_X11_begins (kd_X11_begins h) h (fun x9 hp h g10 => ?_)
  have h := h g10
  have K := kd5_tr K hp.2
  refine cm_X11_known (kd_X11_known h) h (fun x11 x12 hp h g13 => ?_)
  have h := h g13
  have K := kd5_tr K hp.2
  refine cm_X11_goesOn (kd_X11_goesOn h) h (fun x14 hp h g15 => ?_)
  have h := h g15
  have K := kd5_tr K hp.2
  exact kd_X11_readSeen_24 h K
theorem kd_X11_readSeen {Q : HS → Prop} {v0 : Nat} {S : HS} (h : P_X11_readSeen v0 Q S) : P_X11_readSeen v0 (fun T => Q T ∧ KD5 S T) S := kd_X11_readSeen_0 h (kd5_rf S)
set_option maxRecDepth 20000 in
set_option maxHeartbeats 1000000 in
theorem kd_X11_readWalker_149 {Q : HS → Prop} {v0 : Nat} {v1 : Int64} {v3 : Int32} {v4 : Int32} {s0 : Int32} {S0 S : HS} (h : P_X11_readWalker_149 Q v0 v1 v3 v4 s0 S) (K : KD5 S0 S) : P_X11_readWalker_149 (fun T => Q T ∧ KD5 S0 T) v0 v1 v3 v4 s0 S := by
  delta P_X11_readWalker_149 at h ⊢
  obtain ⟨c1, h⟩ := h
  refine ⟨c1, ?_⟩
  have n2 := kd5_ne K c1
  refine cm_X11_readPart (kd_X11_readPart h) h (fun x3 x4 hp h g5 => ?_)
  have h := h g5
  have K := kd5_tr K hp.2
  refine cm_X11_readPart (kd_X11_readPart h) h (fun x6 x7 hp h g8 => ?_)
  have h := h g8
  have K := kd5_tr K hp.2
  refine cm_X11_readPart (kd_X11_readPart h) h (fun x9 x10 hp h g11 => ?_)
  have h := h g11
  have K := kd5_tr K hp.2
  refine cm_X11_readPart (kd_X11_readPart h) h (fun x12 x13 hp h g14 => ?_)
  have h := h g14
  have K := kd5_tr K hp.2
  refine cm_X11_readPart (kd_X11_readPart h) h (fun x15 x16 hp h g17 => ?_)
  have h := h g17
  have K := kd5_tr K hp.2
  intro x19 e18
  have h := h x19 e18
  refine ⟨?_, ?_⟩
  · intro c20
    have h := h.1 c20
    obtain ⟨b21, e22, h⟩ := h
    refine ⟨b21, e22, ?_⟩
    obtain ⟨c23, h⟩ := h
    refine ⟨c23, ?_⟩
    have n24 := kd5_ne K c23
    intro x26 e25
    have h := h x26 e25
    refine cm_X11_names (kd_X11_names h) h (fun x27 hp h g28 => ?_)
    have h := h g28
    have K := kd5_tr K hp.2
    obtain ⟨b29, e30, h⟩ := h
    refine ⟨b29, e30, ?_⟩
    obtain ⟨c31, h⟩ := h
    refine ⟨c31, ?_⟩
    have n32 := kd5_ne K c31
    obtain ⟨b33, e34, h⟩ := h
    refine ⟨b33, e34, ?_⟩
    obtain ⟨c35, h⟩ := h
    refine ⟨c35, ?_⟩
    have n36 := kd5_ne K c35
    obtain ⟨c37, h⟩ := h
    refine ⟨c37, ?_⟩
    intro x39 e38
    have h := h x39 e38
    have K := kd5_A K e38 n36 (by decide)
    obtain ⟨b40, e41, h⟩ := h
    refine ⟨b40, e41, ?_⟩
    obtain ⟨c42, h⟩ := h
    refine ⟨c42, ?_⟩
    have n43 := kd5_ne K c42
    obtain ⟨b44, e45, h⟩ := h
    refine ⟨b44, e45, ?_⟩
    obtain ⟨c46, h⟩ := h
    refine ⟨c46, ?_⟩
    have n47 := kd5_ne K c46
    obtain ⟨c48, h⟩ := h
    refine ⟨c48, ?_⟩
    intro x50 e49
    have h := h x50 e49
    have K := kd5_A K e49 n47 (by decide)
    obtain ⟨b51, e52, h⟩ := h
    refine ⟨b51, e52, ?_⟩
    obtain ⟨c53, h⟩ := h
    refine ⟨c53, ?_⟩
    have n54 := kd5_ne K c53
    obtain ⟨b55, e56, h⟩ := h
    refine ⟨b55, e56, ?_⟩
    obtain ⟨c57, h⟩ := h
    refine ⟨c57, ?_⟩
    have n58 := kd5_ne K c57
    intro x60 e59
    have h := h x60 e59
    obtain ⟨c61, h⟩ := h
    refine ⟨c61, ?_⟩
    intro x63 e62
    have h := h x63 e62
    have K := kd5_A K e62 n58 (by decide)
    obtain ⟨b64, e65, h⟩ := h
    refine ⟨b64, e65, ?_⟩
    obtain ⟨c66, h⟩ := h
    refine ⟨c66, ?_⟩
    have n67 := kd5_ne K c66
    obtain ⟨b68, e69, h⟩ := h
    refine ⟨b68, e69, ?_⟩
    obtain ⟨c70, h⟩ := h
    refine ⟨c70, ?_⟩
    have n71 := kd5_ne K c70
    intro x73 e72
    have h := h x73 e72
    obtain ⟨c74, h⟩ := h
    refine ⟨c74, ?_⟩
    intro x76 e75
    have h := h x76 e75
    have K := kd5_A K e75 n71 (by decide)
    obtain ⟨b77, e78, h⟩ := h
    refine ⟨b77, e78, ?_⟩
    obtain ⟨c79, h⟩ := h
    refine ⟨c79, ?_⟩
    have n80 := kd5_ne K c79
    obtain ⟨b81, e82, h⟩ := h
    refine ⟨b81, e82, ?_⟩
    obtain ⟨c83, h⟩ := h
    refine ⟨c83, ?_⟩
    have n84 := kd5_ne K c83
    intro x86 e85
    have h := h x86 e85
    obtain ⟨c87, h⟩ := h
    refine ⟨c87, ?_⟩
    intro x89 e88
    have h := h x89 e88
    have K := kd5_A K e88 n84 (by decide)
    obtain ⟨b90, e91, h⟩ := h
    refine ⟨b90, e91, ?_⟩
    obtain ⟨c92, h⟩ := h
    refine ⟨c92, ?_⟩
    have n93 := kd5_ne K c92
    obtain ⟨b94, e95, h⟩ := h
    refine ⟨b94, e95, ?_⟩
    obtain ⟨c96, h⟩ := h
    refine ⟨c96, ?_⟩
    have n97 := kd5_ne K c96
    obtain ⟨c98, h⟩ := h
    refine ⟨c98, ?_⟩
    intro x100 e99
    have h := h x100 e99
    have K := kd5_A K e99 n97 (by decide)
    obtain ⟨b101, e102, h⟩ := h
    refine ⟨b101, e102, ?_⟩
    obtain ⟨c103, h⟩ := h
    refine ⟨c103, ?_⟩
    have n104 := kd5_ne K c103
    obtain ⟨b105, e106, h⟩ := h
    refine ⟨b105, e106, ?_⟩
    obtain ⟨c107, h⟩ := h
    refine ⟨c107, ?_⟩
    have n108 := kd5_ne K c107
    obtain ⟨c109, h⟩ := h
    refine ⟨c109, ?_⟩
    intro x111 e110
    have h := h x111 e110
    have K := kd5_A K e110 n108 (by decide)
    obtain ⟨b112, e113, h⟩ := h
    refine ⟨b112, e113, ?_⟩
    obtain ⟨c114, h⟩ := h
    refine ⟨c114, ?_⟩
    have n115 := kd5_ne K c114
    intro x117 e116
    have h := h x117 e116
    intro x119 e118
    have h := h x119 e118
    intro x121 e120
    have h := h x121 e120
    have K := kd5_I K e120 n115 (by decide)
    exact ⟨h, K⟩
  · intro c122
    have h := h.2 c122
    exact ⟨h, K⟩
set_option maxRecDepth 20000 in
set_option maxHeartbeats 1000000 in
theorem kd_X11_readWalker_136 {Q : HS → Prop} {v0 : Nat} {v1 : Int64} {v3 : Int32} {s0 : Int32} {S0 S : HS} (h : P_X11_readWalker_136 Q v0 v1 v3 s0 S) (K : KD5 S0 S) : P_X11_readWalker_136 (fun T => Q T ∧ KD5 S0 T) v0 v1 v3 s0 S := by
  delta P_X11_readWalker_136 at h ⊢
  refine ⟨?_, ?_⟩
  · intro c1
    have h := h.1 c1
    exact kd_X11_readWalker_149 h K
  · intro c2
    have h := h.2 c2
    exact kd_X11_readWalker_149 h K
set_option maxRecDepth 20000 in
set_option maxHeartbeats 1000000 in
theorem kd_X11_readWalker_85 {Q : HS → Prop} {v0 : Nat} {v1 : Int64} {v3 : Int32} {S0 S : HS} (h : P_X11_readWalker_85 Q v0 v1 v3 S) (K : KD5 S0 S) : P_X11_readWalker_85 (fun T => Q T ∧ KD5 S0 T) v0 v1 v3 S := by
  delta P_X11_readWalker_85 at h ⊢
  obtain ⟨c1, h⟩ := h
  refine ⟨c1, ?_⟩
  have n2 := kd5_ne K c1
  refine cm_X11_goesOn (kd_X11_goesOn h) h (fun x3 hp h g4 => ?_)
  have h := h g4
  have K := kd5_tr K hp.2
  refine ⟨?_, ?_⟩
  · intro c5
    have h := h.1 c5
    refine ⟨?_, ?_⟩
    · intro c6
      have h := h.1 c6
      refine ⟨?_, ?_⟩
      · intro c7
        have h := h.1 c7
        exact kd_X11_readWalker_136 h K
      · intro c8
        have h := h.2 c8
        refine cm_X11_readWhole (kd_X11_readWhole h) h (fun x9 x10 hp h g11 => ?_)
        have h := h g11
        have K := kd5_tr K hp.2
        exact kd_X11_readWalker_136 h K
    · intro c12
      have h := h.2 c12
      refine cm_X11_readWhole (kd_X11_readWhole h) h (fun x13 x14 hp h g15 => ?_)
      have h := h g15
      have K := kd5_tr K hp.2
      exact kd_X11_readWalker_136 h K
  · intro c16
    have h := h.2 c16
    refine cm_X11_readWhole (kd_X11_readWhole h) h (fun x17 x18 hp h g19 => ?_)
    have h := h g19
    have K := kd5_tr K hp.2
    exact kd_X11_readWalker_136 h K
set_option maxRecDepth 20000 in
set_option maxHeartbeats 1000000 in
theorem kd_X11_readWalker_74 {Q : HS → Prop} {v0 : Nat} {v1 : Int64} {s0 : Int32} {S0 S : HS} (h : P_X11_readWalker_74 Q v0 v1 s0 S) (K : KD5 S0 S) : P_X11_readWalker_74 (fun T => Q T ∧ KD5 S0 T) v0 v1 s0 S := by
  delta P_X11_readWalker_74 at h ⊢
  refine ⟨?_, ?_⟩
  · intro c1
    have h := h.1 c1
    exact kd_X11_readWalker_85 h K
  · intro c2
    have h := h.2 c2
    obtain ⟨c3, h⟩ := h
    refine ⟨c3, ?_⟩
    have n4 := kd5_ne K c3
    refine cm_X11_flaw (kd_X11_flaw h) h (fun x5 hp h g6 => ?_)
    have h := h g6
    have K := kd5_tr K hp.2
    exact kd_X11_readWalker_85 h K
set_option maxRecDepth 20000 in
set_option maxHeartbeats 1000000 in
theorem kd_X11_readWalker_0 {Q : HS → Prop} {v0 : Nat} {S0 S : HS} (h : P_X11_readWalker_0 Q v0 S) (K : KD5 S0 S) : P_X11_readWalker_0 (fun T => Q T ∧ KD5 S0 T) v0 S := by
  delta P_X11_readWalker_0 at h ⊢
  obtain ⟨c1, h⟩ := h
  refine ⟨c1, ?_⟩
  have n2 := kd5_ne K c1
  obtain ⟨b3, e4, h⟩ := h
  refine ⟨b3, e4, ?_⟩
  obtain ⟨c5, h⟩ := h
  refine ⟨c5, ?_⟩
  have n6 := kd5_ne K c5
  intro x8 e7
  have h := h x8 e7
  refine cm_X11_begins (kd_X11_begins h) h (fun x9 hp h g10 => ?_)
  have h := h g10
  have K := kd5_tr K hp.2
  refine cm_X11_readFresh (kd_X11_readFresh h) h (fun x11 x12 hp h g13 => ?_)
  have h := h g13
  have K := kd5_tr K hp.2
  refine cm_X11_isWord (kd_X11_isWord h) h (fun x14 x15 hp h g16 g17 => ?_)
  have h := h g16 g17
  have K := kd5_tr K hp.2
  refine ⟨?_, ?_⟩
  · intro c18
    have h := h.1 c18
    refine cm_X11_isWord (kd_X11_isWord h) h (fun x19 x20 hp h g21 g22 => ?_)
    have h := h g21 g22
    have K := kd5_tr K hp.2
    refine ⟨?_, ?_⟩
    · intro c23
      have h := h.1 c23
      refine cm_X11_isWord (kd_X11_isWord h) h (fun x24 x25 hp h g26 g27 => ?_)
      have h := h g26 g27
      have K := kd5_tr K hp.2
      refine ⟨?_, ?_⟩
      · intro c28
        have h := h.1 c28
        refine cm_X11_isWord (kd_X11_isWord h) h (fun x29 x30 hp h g31 g32 => ?_)
        have h := h g31 g32
        have K := kd5_tr K hp.2
        refine ⟨?_, ?_⟩
        · intro c33
          have h := h.1 c33
          exact kd_X11_readWalker_74 h K
        · intro c34
          have h := h.2 c34
          exact kd_X11_readWalker_74 h K
      · intro c35
        have h := h.2 c35
        exact kd_X11_readWalker_74 h K
    · intro c36
      have h := h.2 c36
      exact kd_X11_readWalker_74 h K
  · intro c37
    have h := h.2 c37
    exact kd_X11_readWalker_74 h K
theorem kd_X11_readWalker {Q : HS → Prop} {v0 : Nat} {S : HS} (h : P_X11_readWalker v0 Q S) : P_X11_readWalker v0 (fun T => Q T ∧ KD5 S T) S := kd_X11_readWalker_0 h (kd5_rf S)
set_option maxRecDepth 20000 in
set_option maxHeartbeats 1000000 in
theorem kd_X11_readWorld_15 {Q : HS → Prop} {v0 : Nat} {S0 S : HS} (h : P_X11_readWorld_15 Q v0 S) (K : KD5 S0 S) : P_X11_readWorld_15 (fun T => Q T ∧ KD5 S0 T) v0 S := by
  delta P_X11_readWorld_15 at h ⊢
  obtain ⟨c1, h⟩ := h
  refine ⟨c1, ?_⟩
  have n2 := kd5_ne K c1
  refine cm_X11_goesOn (kd_X11_goesOn h) h (fun x3 hp h g4 => ?_)
  have h := h g4
  have K := kd5_tr K hp.2
  refine cm_X11_readPart (kd_X11_readPart h) h (fun x5 x6 hp h g7 => ?_)
  have h := h g7
  have K := kd5_tr K hp.2
  intro x9 e8
  have h := h x9 e8
  refine ⟨?_, ?_⟩
  · intro c10
    have h := h.1 c10
    exact ⟨h, K⟩
  · intro c11
    have h := h.2 c11
    obtain ⟨b12, e13, h⟩ := h
    refine ⟨b12, e13, ?_⟩
    obtain ⟨c14, h⟩ := h
    refine ⟨c14, ?_⟩
    have n15 := kd5_ne K c14
    intro x17 e16
    have h := h x17 e16
    have K := kd5_I K e16 n15 (by decide)
    exact ⟨h, K⟩
set_option maxRecDepth 20000 in
set_option maxHeartbeats 1000000 in
theorem kd_X11_readWorld_0 {Q : HS → Prop} {v0 : Nat} {S0 S : HS} (h : P_X11_readWorld_0 Q v0 S) (K : KD5 S0 S) : P_X11_readWorld_0 (fun T => Q T ∧ KD5 S0 T) v0 S := by
  delta P_X11_readWorld_0 at h ⊢
  obtain ⟨c1, h⟩ := h
  refine ⟨c1, ?_⟩
  have n2 := kd5_ne K c1
  obtain ⟨b3, e4, h⟩ := h
  refine ⟨b3, e4, ?_⟩
  obtain ⟨c5, h⟩ := h
  refine ⟨c5, ?_⟩
  have n6 := kd5_ne K c5
  intro x8 e7
  have h := h x8 e7
  refine ⟨?_, ?_⟩
  · intro c9
    have h := h.1 c9
    exact kd_X11_readWorld_15 h K
  · intro c10
    have h := h.2 c10
    refine cm_X11_flaw (kd_X11_flaw h) h (fun x11 hp h g12 => ?_)
    have h := h g12
    have K := kd5_tr K hp.2
    exact kd_X11_readWorld_15 h K
theorem kd_X11_readWorld {Q : HS → Prop} {v0 : Nat} {S : HS} (h : P_X11_readWorld v0 Q S) : P_X11_readWorld v0 (fun T => Q T ∧ KD5 S T) S := kd_X11_readWorld_0 h (kd5_rf S)
set_option maxRecDepth 20000 in
set_option maxHeartbeats 1000000 in
theorem kd_X11_readLine_0 {Q : HS → Prop} {v0 : Nat} {S0 S : HS} (h : P_X11_readLine_0 Q v0 S) (K : KD5 S0 S) : P_X11_readLine_0 (fun T => Q T ∧ KD5 S0 T) v0 S := by
  delta P_X11_readLine_0 at h ⊢
  obtain ⟨c1, h⟩ := h
  refine ⟨c1, ?_⟩
  have n2 := kd5_ne K c1
  refine cm_X11_isWord (kd_X11_isWord h) h (fun x3 x4 hp h g5 g6 => ?_)
  have h := h g5 g6
  have K := kd5_tr K hp.2
  refine ⟨?_, ?_⟩
  · intro c7
    have h := h.1 c7
    refine cm_X11_isWord (kd_X11_isWord h) h (fun x8 x9 hp h g10 g11 => ?_)
    have h := h g10 g11
    have K := kd5_tr K hp.2
    refine ⟨?_, ?_⟩
    · intro c12
      have h := h.1 c12
      refine cm_X11_isWord (kd_X11_isWord h) h (fun x13 x14 hp h g15 g16 => ?_)
      have h := h g15 g16
      have K := kd5_tr K hp.2
      refine ⟨?_, ?_⟩
      · intro c17
        have h := h.1 c17
        refine cm_X11_isWord (kd_X11_isWord h) h (fun x18 x19 hp h g20 g21 => ?_)
        have h := h g20 g21
        have K := kd5_tr K hp.2
        refine ⟨?_, ?_⟩
        · intro c22
          have h := h.1 c22
          refine cm_X11_isWord (kd_X11_isWord h) h (fun x23 x24 hp h g25 g26 => ?_)
          have h := h g25 g26
          have K := kd5_tr K hp.2
          refine ⟨?_, ?_⟩
          · intro c27
            have h := h.1 c27
            refine cm_X11_isWord (kd_X11_isWord h) h (fun x28 x29 hp h g30 g31 => ?_)
            have h := h g30 g31
            have K := kd5_tr K hp.2
            refine ⟨?_, ?_⟩
            · intro c32
              have h := h.1 c32
              refine cm_X11_flaw (kd_X11_flaw h) h (fun x33 hp h g34 => ?_)
              have h := h g34
              have K := kd5_tr K hp.2
              exact ⟨h, K⟩
            · intro c35
              have h := h.2 c35
              refine cm_X11_readSeen (kd_X11_readSeen h) h (fun x36 hp h g37 => ?_)
              have h := h g37
              have K := kd5_tr K hp.2
              exact ⟨h, K⟩
          · intro c38
            have h := h.2 c38
            refine cm_X11_readWalker (kd_X11_readWalker h) h (fun x39 hp h g40 => ?_)
            have h := h g40
            have K := kd5_tr K hp.2
            exact ⟨h, K⟩
        · intro c41
          have h := h.2 c41
          refine cm_X11_readRoad (kd_X11_readRoad h) h (fun x42 hp h g43 => ?_)
          have h := h g43
          have K := kd5_tr K hp.2
          exact ⟨h, K⟩
      · intro c44
        have h := h.2 c44
        refine cm_X11_readPlace (kd_X11_readPlace h) h (fun x45 hp h g46 => ?_)
        have h := h g46
        have K := kd5_tr K hp.2
        exact ⟨h, K⟩
    · intro c47
      have h := h.2 c47
      refine cm_X11_readRain (kd_X11_readRain h) h (fun x48 hp h g49 => ?_)
      have h := h g49
      have K := kd5_tr K hp.2
      exact ⟨h, K⟩
  · intro c50
    have h := h.2 c50
    refine cm_X11_readWorld (kd_X11_readWorld h) h (fun x51 hp h g52 => ?_)
    have h := h g52
    have K := kd5_tr K hp.2
    exact ⟨h, K⟩
theorem kd_X11_readLine {Q : HS → Prop} {v0 : Nat} {S : HS} (h : P_X11_readLine v0 Q S) : P_X11_readLine v0 (fun T => Q T ∧ KD5 S T) S := kd_X11_readLine_0 h (kd5_rf S)
set_option maxRecDepth 20000 in
set_option maxHeartbeats 1000000 in
theorem kd_X11_readAll_63 {Q : HS → Prop} {v0 : Nat} {S0 S : HS} (h : P_X11_readAll_63 Q v0 S) (K : KD5 S0 S) : P_X11_readAll_63 (fun T => Q T ∧ KD5 S0 T) v0 S := by
  delta P_X11_readAll_63 at h ⊢
  obtain ⟨c1, h⟩ := h
  refine ⟨c1, ?_⟩
  have n2 := kd5_ne K c1
  refine cm_X11_flaw (kd_X11_flaw h) h (fun x3 hp h g4 => ?_)
  have h := h g4
  have K := kd5_tr K hp.2
  exact ⟨h, K⟩
set_option maxRecDepth 20000 in
set_option maxHeartbeats 1000000 in
theorem kd_X11_readAll_33 {Q : HS → Prop} {v0 : Nat} {S0 S : HS} (h : P_X11_readAll_33 Q v0 S) (K : KD5 S0 S) : P_X11_readAll_33 (fun T => Q T ∧ KD5 S0 T) v0 S := by
  delta P_X11_readAll_33 at h ⊢
  obtain ⟨c1, h⟩ := h
  refine ⟨c1, ?_⟩
  have n2 := kd5_ne K c1
  obtain ⟨b3, e4, h⟩ := h
  refine ⟨b3, e4, ?_⟩
  obtain ⟨c5, h⟩ := h
  refine ⟨c5, ?_⟩
  have n6 := kd5_ne K c5
  intro x8 e7
  have h := h x8 e7
  refine ⟨?_, ?_⟩
  · intro c9
    have h := h.1 c9
    exact kd_X11_readAll_63 h K
  · intro c10
    have h := h.2 c10
    obtain ⟨b11, e12, h⟩ := h
    refine ⟨b11, e12, ?_⟩
    obtain ⟨c13, h⟩ := h
    refine ⟨c13, ?_⟩
    have n14 := kd5_ne K c13
    intro x16 e15
    have h := h x16 e15
    refine ⟨?_, ?_⟩
    · intro c17
      have h := h.1 c17
      exact kd_X11_readAll_63 h K
    · intro c18
      have h := h.2 c18
      obtain ⟨b19, e20, h⟩ := h
      refine ⟨b19, e20, ?_⟩
      obtain ⟨c21, h⟩ := h
      refine ⟨c21, ?_⟩
      have n22 := kd5_ne K c21
      intro x24 e23
      have h := h x24 e23
      refine ⟨?_, ?_⟩
      · intro c25
        have h := h.1 c25
        exact ⟨h, K⟩
      · intro c26
        have h := h.2 c26
        exact kd_X11_readAll_63 h K
set_option maxRecDepth 20000 in
set_option maxHeartbeats 1000000 in
theorem kdB_X11_readAll_2 {Q : HS → Prop} {X2 X2_2 : Nat → Int32 → HS → Prop} {v0 : Nat} {v1 : Int32} {S0 S : HS} (h : B_X11_readAll_2 Q X2 v0 v1 S) (K : KD5 S0 S) (hX2 : ∀ (u0 : Nat) (u1 : Int32) (u2 : HS), X2 u0 u1 u2 → KD5 S0 u2 → X2_2 u0 u1 u2) : B_X11_readAll_2 (fun T => Q T ∧ KD5 S0 T) X2_2 v0 v1 S := by
  delta B_X11_readAll_2 at h ⊢
  refine ⟨?_, ?_⟩
  · intro c1
    have h := h.1 c1
    obtain ⟨c2, h⟩ := h
    refine ⟨c2, ?_⟩
    have n3 := kd5_ne K c2
    intro x5 e4
    have h := h x5 e4
    refine ⟨?_, ?_⟩
    · intro c6
      have h := h.1 c6
      exact kd_X11_readAll_33 h K
    · intro c7
      have h := h.2 c7
      refine cm_X11_flaw (kd_X11_flaw h) h (fun x8 hp h g9 => ?_)
      have h := h g9
      have K := kd5_tr K hp.2
      exact kd_X11_readAll_33 h K
  · intro c10
    have h := h.2 c10
    obtain ⟨c11, h⟩ := h
    refine ⟨c11, ?_⟩
    have n12 := kd5_ne K c11
    refine cm_X11_readLine (kd_X11_readLine h) h (fun x13 hp h g14 => ?_)
    have h := h g14
    have K := kd5_tr K hp.2
    refine cm_X11_eatsSign (kd_X11_eatsSign h) h (fun x15 x16 hp h g17 g18 => ?_)
    have h := h g17 g18
    have K := kd5_tr K hp.2
    exact hX2 _ _ _ h K
theorem kd_X11_readAll_2 {Q : HS → Prop} {v0 : Nat} {v1 : Int32} {S0 S : HS} (h : P_X11_readAll_2 Q v0 v1 S) (K : KD5 S0 S) : P_X11_readAll_2 (fun T => Q T ∧ KD5 S0 T) v0 v1 S := h (fun v0 v1 S => KD5 S0 S → P_X11_readAll_2 (fun T => Q T ∧ KD5 S0 T) v0 v1 S) (fun v0 v1 S hB K => fd_X11_readAll_2 (kdB_X11_readAll_2 hB K (fun _ _ _ hx K => hx K))) K
set_option maxRecDepth 20000 in
set_option maxHeartbeats 1000000 in
theorem kd_X11_readAll_0 {Q : HS → Prop} {v0 : Nat} {S0 S : HS} (h : P_X11_readAll_0 Q v0 S) (K : KD5 S0 S) : P_X11_readAll_0 (fun T => Q T ∧ KD5 S0 T) v0 S := by
  delta P_X11_readAll_0 at h ⊢
  exact kd_X11_readAll_2 h K
theorem kd_X11_readAll {Q : HS → Prop} {v0 : Nat} {S : HS} (h : P_X11_readAll v0 Q S) : P_X11_readAll v0 (fun T => Q T ∧ KD5 S T) S := kd_X11_readAll_0 h (kd5_rf S)
set_option maxRecDepth 20000 in
set_option maxHeartbeats 1000000 in
theorem kd_X4_fail_0 {Q : Int32 → HS → Prop} {v0 : Nat} {v1 : Int32} {S0 S : HS} (h : P_X4_fail_0 Q v0 v1 S) (K : KD5 S0 S) : P_X4_fail_0 (fun r T => Q r T ∧ KD5 S0 T) v0 v1 S := by
  delta P_X4_fail_0 at h ⊢
  obtain ⟨c1, h⟩ := h
  refine ⟨c1, ?_⟩
  have n2 := kd5_ne K c1
  intro x4 e3
  have h := h x4 e3
  have K := kd5_I K e3 n2 (by decide)
  intro x6 e5
  have h := h x6 e5
  intro x8 e7
  have h := h x8 e7
  have K := kd5_I K e7 n2 (by decide)
  exact ⟨h, K⟩
theorem kd_X4_fail {Q : Int32 → HS → Prop} {v0 : Nat} {v1 : Int32} {S : HS} (h : P_X4_fail v0 v1 Q S) : P_X4_fail v0 v1 (fun r T => Q r T ∧ KD5 S T) S := kd_X4_fail_0 h (kd5_rf S)
set_option maxRecDepth 20000 in
set_option maxHeartbeats 1000000 in
theorem kd_X4_sortAt_58 {Q : Int32 → HS → Prop} {v2 : Int32} {S0 S : HS} (h : P_X4_sortAt_58 Q v2 S) (K : KD5 S0 S) : P_X4_sortAt_58 (fun r T => Q r T ∧ KD5 S0 T) v2 S := by
  delta P_X4_sortAt_58 at h ⊢
  refine ⟨?_, ?_, ?_, ?_⟩
  · intro c1
    have h := h.1 c1
    exact ⟨h, K⟩
  · intro c2
    have h := h.2.1 c2
    exact ⟨h, K⟩
  · intro c3
    have h := h.2.2.1 c3
    exact ⟨h, K⟩
  · intro c4
    have h := h.2.2.2 c4
    exact ⟨h, K⟩
set_option maxRecDepth 20000 in
set_option maxHeartbeats 1000000 in
theorem kd_X4_sortAt_44 {Q : Int32 → HS → Prop} {v2 : Int32} {S0 S : HS} (h : P_X4_sortAt_44 Q v2 S) (K : KD5 S0 S) : P_X4_sortAt_44 (fun r T => Q r T ∧ KD5 S0 T) v2 S := by
  delta P_X4_sortAt_44 at h ⊢
  refine ⟨?_, ?_⟩
  · intro c1
    have h := h.1 c1
    exact kd_X4_sortAt_58 h K
  · intro c2
    have h := h.2 c2
    refine ⟨?_, ?_⟩
    · intro c3
      have h := h.1 c3
      exact kd_X4_sortAt_58 h K
    · intro c4
      have h := h.2 c4
      exact ⟨h, K⟩
set_option maxRecDepth 20000 in
set_option maxHeartbeats 1000000 in
theorem kd_X4_sortAt_0 {Q : Int32 → HS → Prop} {v0 : Nat} {v1 : Int32} {S0 S : HS} (h : P_X4_sortAt_0 Q v0 v1 S) (K : KD5 S0 S) : P_X4_sortAt_0 (fun r T => Q r T ∧ KD5 S0 T) v0 v1 S := by
  delta P_X4_sortAt_0 at h ⊢
  refine ⟨?_, ?_⟩
  · intro c1
    have h := h.1 c1
    exact ⟨h, K⟩
  · intro c2
    have h := h.2 c2
    obtain ⟨c3, h⟩ := h
    refine ⟨c3, ?_⟩
    have n4 := kd5_ne K c3
    intro x6 e5
    have h := h x6 e5
    refine ⟨?_, ?_⟩
    · intro c7
      have h := h.1 c7
      exact ⟨h, K⟩
    · intro c8
      have h := h.2 c8
      obtain ⟨b9, e10, h⟩ := h
      refine ⟨b9, e10, ?_⟩
      obtain ⟨c11, h⟩ := h
      refine ⟨c11, ?_⟩
      have n12 := kd5_ne K c11
      refine ⟨?_, ?_⟩
      · intro c13
        have h := h.1 c13
        obtain ⟨b14, e15, h⟩ := h
        refine ⟨b14, e15, ?_⟩
        obtain ⟨c16, h⟩ := h
        refine ⟨c16, ?_⟩
        have n17 := kd5_ne K c16
        obtain ⟨c18, h⟩ := h
        refine ⟨c18, ?_⟩
        intro x20 e19
        have h := h x20 e19
        refine ⟨?_, ?_⟩
        · intro c21
          have h := h.1 c21
          exact kd_X4_sortAt_44 h K
        · intro c22
          have h := h.2 c22
          refine ⟨?_, ?_⟩
          · intro c23
            have h := h.1 c23
            exact kd_X4_sortAt_44 h K
          · intro c24
            have h := h.2 c24
            exact ⟨h, K⟩
      · intro c25
        have h := h.2 c25
        exact ⟨h, K⟩
theorem kd_X4_sortAt {Q : Int32 → HS → Prop} {v0 : Nat} {v1 : Int32} {S : HS} (h : P_X4_sortAt v0 v1 Q S) : P_X4_sortAt v0 v1 (fun r T => Q r T ∧ KD5 S T) S := kd_X4_sortAt_0 h (kd5_rf S)
set_option maxRecDepth 20000 in
set_option maxHeartbeats 1000000 in
theorem kd_X4_next_201 {Q : HS → Prop} {X118 X118_2 : Nat → Int32 → Int32 → Int32 → Int32 → HS → Prop} {v0 : Nat} {v1 : Int32} {v2 : Int32} {v3 : Int32} {v4 : Int32} {S0 S : HS} (h : P_X4_next_201 Q X118 v0 v1 v2 v3 v4 S) (K : KD5 S0 S) (hX118 : ∀ (u0 : Nat) (u1 : Int32) (u2 : Int32) (u3 : Int32) (u4 : Int32) (u5 : HS), X118 u0 u1 u2 u3 u4 u5 → KD5 S0 u5 → X118_2 u0 u1 u2 u3 u4 u5) : P_X4_next_201 (fun T => Q T ∧ KD5 S0 T) X118_2 v0 v1 v2 v3 v4 S := by
  delta P_X4_next_201 at h ⊢
  obtain ⟨c1, h⟩ := h
  refine ⟨c1, ?_⟩
  have n2 := kd5_ne K c1
  intro x4 e3
  have h := h x4 e3
  intro x6 e5
  have h := h x6 e5
  intro x8 e7
  have h := h x8 e7
  have K := kd5_I K e7 n2 (by decide)
  intro x10 e9
  have h := h x10 e9
  exact hX118 _ _ _ _ _ _ h K
set_option maxRecDepth 20000 in
set_option maxHeartbeats 1000000 in
theorem kd_X4_next_195 {Q : HS → Prop} {X118 X118_2 : Nat → Int32 → Int32 → Int32 → Int32 → HS → Prop} {v0 : Nat} {v1 : Int32} {v2 : Int32} {v3 : Int32} {v4 : Int32} {s0 : Nat} {s1 : Int64} {s2 : Int32} {s3 : Int32} {S0 S : HS} (h : P_X4_next_195 Q X118 v0 v1 v2 v3 v4 s0 s1 s2 s3 S) (K : KD5 S0 S) (hX118 : ∀ (u0 : Nat) (u1 : Int32) (u2 : Int32) (u3 : Int32) (u4 : Int32) (u5 : HS), X118 u0 u1 u2 u3 u4 u5 → KD5 S0 u5 → X118_2 u0 u1 u2 u3 u4 u5) : P_X4_next_195 (fun T => Q T ∧ KD5 S0 T) X118_2 v0 v1 v2 v3 v4 s0 s1 s2 s3 S := by
  delta P_X4_next_195 at h ⊢
  obtain ⟨c1, h⟩ := h
  refine ⟨c1, ?_⟩
  have n2 := kd5_ne K c1
  intro x4 e3
  have h := h x4 e3
  intro x6 e5
  have h := h x6 e5
  have K := kd5_J K e5
  exact kd_X4_next_201 h K hX118
set_option maxRecDepth 20000 in
set_option maxHeartbeats 1000000 in
theorem kd_X4_next_240 {Q : HS → Prop} {v0 : Nat} {v1 : Int32} {S0 S : HS} (h : P_X4_next_240 Q v0 v1 S) (K : KD5 S0 S) : P_X4_next_240 (fun T => Q T ∧ KD5 S0 T) v0 v1 S := by
  delta P_X4_next_240 at h ⊢
  refine ⟨?_, ?_⟩
  · intro c1
    have h := h.1 c1
    exact ⟨h, K⟩
  · intro c2
    have h := h.2 c2
    obtain ⟨c3, h⟩ := h
    refine ⟨c3, ?_⟩
    have n4 := kd5_ne K c3
    intro x6 e5
    have h := h x6 e5
    refine ⟨?_, ?_⟩
    · intro c7
      have h := h.1 c7
      exact ⟨h, K⟩
    · intro c8
      have h := h.2 c8
      intro x10 e9
      have h := h x10 e9
      intro x12 e11
      have h := h x12 e11
      intro x14 e13
      have h := h x14 e13
      have K := kd5_I K e13 n4 (by decide)
      exact ⟨h, K⟩
set_option maxRecDepth 20000 in
set_option maxHeartbeats 1000000 in
theorem kd_X4_next_217 {Q : HS → Prop} {v0 : Nat} {v1 : Int32} {v2 : Int32} {S0 S : HS} (h : P_X4_next_217 Q v0 v1 v2 S) (K : KD5 S0 S) : P_X4_next_217 (fun T => Q T ∧ KD5 S0 T) v0 v1 v2 S := by
  delta P_X4_next_217 at h ⊢
  refine ⟨?_, ?_⟩
  · intro c1
    have h := h.1 c1
    exact kd_X4_next_240 h K
  · intro c2
    have h := h.2 c2
    obtain ⟨c3, h⟩ := h
    refine ⟨c3, ?_⟩
    have n4 := kd5_ne K c3
    intro x6 e5
    have h := h x6 e5
    intro x8 e7
    have h := h x8 e7
    refine ⟨?_, ?_⟩
    · intro c9
      have h := h.1 c9
      exact kd_X4_next_240 h K
    · intro c10
      have h := h.2 c10
      intro x12 e11
      have h := h x12 e11
      have K := kd5_I K e11 n4 (by decide)
      exact kd_X4_next_240 h K
set_option maxRecDepth 20000 in
set_option maxHeartbeats 1000000 in
theorem kdB_X4_next_118 {Q : HS → Prop} {X118 X118_2 : Nat → Int32 → Int32 → Int32 → Int32 → HS → Prop} {v0 : Nat} {v1 : Int32} {v2 : Int32} {v3 : Int32} {v4 : Int32} {S0 S : HS} (h : B_X4_next_118 Q X118 v0 v1 v2 v3 v4 S) (K : KD5 S0 S) (hX118 : ∀ (u0 : Nat) (u1 : Int32) (u2 : Int32) (u3 : Int32) (u4 : Int32) (u5 : HS), X118 u0 u1 u2 u3 u4 u5 → KD5 S0 u5 → X118_2 u0 u1 u2 u3 u4 u5) : B_X4_next_118 (fun T => Q T ∧ KD5 S0 T) X118_2 v0 v1 v2 v3 v4 S := by
  delta B_X4_next_118 at h ⊢
  refine ⟨?_, ?_⟩
  · intro c1
    have h := h.1 c1
    exact kd_X4_next_217 h K
  · intro c2
    have h := h.2 c2
    refine ⟨?_, ?_⟩
    · intro c3
      have h := h.1 c3
      exact kd_X4_next_217 h K
    · intro c4
      have h := h.2 c4
      obtain ⟨c5, h⟩ := h
      refine ⟨c5, ?_⟩
      have n6 := kd5_ne K c5
      intro x8 e7
      have h := h x8 e7
      refine cm_X4_sortAt (kd_X4_sortAt h) h (fun x9 x10 hp h g11 => ?_)
      have h := h g11
      have K := kd5_tr K hp.2
      intro x13 e12
      have h := h x13 e12
      refine ⟨?_, ?_⟩
      · intro c14
        have h := h.1 c14
        exact kd_X4_next_217 h K
      · intro c15
        have h := h.2 c15
        refine ⟨?_, ?_⟩
        · intro c16
          have h := h.1 c16
          exact kd_X4_next_201 h K hX118
        · intro c17
          have h := h.2 c17
          intro x19 e18
          have h := h x19 e18
          obtain ⟨b20, e21, h⟩ := h
          refine ⟨b20, e21, ?_⟩
          obtain ⟨c22, h⟩ := h
          refine ⟨c22, ?_⟩
          have n23 := kd5_ne K c22
          refine ⟨?_, ?_⟩
          · intro c24
            have h := h.1 c24
            exact kd_X4_next_201 h K hX118
          · intro c25
            have h := h.2 c25
            intro x27 e26
            have h := h x27 e26
            obtain ⟨b28, e29, h⟩ := h
            refine ⟨b28, e29, ?_⟩
            intro x31 e30
            have h := h x31 e30
            obtain ⟨c32, h⟩ := h
            refine ⟨c32, ?_⟩
            have n33 := kd5_ne K c32
            obtain ⟨c34, h⟩ := h
            refine ⟨c34, ?_⟩
            intro x36 e35
            have h := h x36 e35
            intro x38 e37
            have h := h x38 e37
            refine ⟨?_, ?_⟩
            · intro c39
              have h := h.1 c39
              exact kd_X4_next_195 h K hX118
            · intro c40
              have h := h.2 c40
              exact kd_X4_next_195 h K hX118
theorem kd_X4_next_118 {Q : HS → Prop} {v0 : Nat} {v1 : Int32} {v2 : Int32} {v3 : Int32} {v4 : Int32} {S0 S : HS} (h : P_X4_next_118 Q v0 v1 v2 v3 v4 S) (K : KD5 S0 S) : P_X4_next_118 (fun T => Q T ∧ KD5 S0 T) v0 v1 v2 v3 v4 S := h (fun v0 v1 v2 v3 v4 S => KD5 S0 S → P_X4_next_118 (fun T => Q T ∧ KD5 S0 T) v0 v1 v2 v3 v4 S) (fun v0 v1 v2 v3 v4 S hB K => fd_X4_next_118 (kdB_X4_next_118 hB K (fun _ _ _ _ _ _ hx K => hx K))) K
set_option maxRecDepth 20000 in
set_option maxHeartbeats 1000000 in
theorem kd_X4_next_114 {Q : HS → Prop} {v0 : Nat} {v1 : Int32} {v2 : Int32} {s0 : Int32} {S0 S : HS} (h : P_X4_next_114 Q v0 v1 v2 s0 S) (K : KD5 S0 S) : P_X4_next_114 (fun T => Q T ∧ KD5 S0 T) v0 v1 v2 s0 S := by
  delta P_X4_next_114 at h ⊢
  exact kd_X4_next_118 h K
set_option maxRecDepth 20000 in
set_option maxHeartbeats 1000000 in
theorem kd_X4_next_98 {Q : HS → Prop} {v0 : Nat} {v1 : Int32} {s0 : Int32} {S0 S : HS} (h : P_X4_next_98 Q v0 v1 s0 S) (K : KD5 S0 S) : P_X4_next_98 (fun T => Q T ∧ KD5 S0 T) v0 v1 s0 S := by
  delta P_X4_next_98 at h ⊢
  obtain ⟨c1, h⟩ := h
  refine ⟨c1, ?_⟩
  have n2 := kd5_ne K c1
  intro x4 e3
  have h := h x4 e3
  refine ⟨?_, ?_⟩
  · intro c5
    have h := h.1 c5
    exact kd_X4_next_114 h K
  · intro c6
    have h := h.2 c6
    exact kd_X4_next_114 h K
set_option maxRecDepth 20000 in
set_option maxHeartbeats 1000000 in
theorem kd_X4_next_83 {Q : HS → Prop} {v0 : Nat} {s0 : Int32} {S0 S : HS} (h : P_X4_next_83 Q v0 s0 S) (K : KD5 S0 S) : P_X4_next_83 (fun T => Q T ∧ KD5 S0 T) v0 s0 S := by
  delta P_X4_next_83 at h ⊢
  obtain ⟨c1, h⟩ := h
  refine ⟨c1, ?_⟩
  have n2 := kd5_ne K c1
  intro x4 e3
  have h := h x4 e3
  refine ⟨?_, ?_⟩
  · intro c5
    have h := h.1 c5
    exact kd_X4_next_98 h K
  · intro c6
    have h := h.2 c6
    exact kd_X4_next_98 h K
set_option maxRecDepth 20000 in
set_option maxHeartbeats 1000000 in
theorem kd_X4_next_78 {Q : HS → Prop} {v0 : Nat} {S0 S : HS} (h : P_X4_next_78 Q v0 S) (K : KD5 S0 S) : P_X4_next_78 (fun T => Q T ∧ KD5 S0 T) v0 S := by
  delta P_X4_next_78 at h ⊢
  exact kd_X4_next_83 h K
set_option maxRecDepth 20000 in
set_option maxHeartbeats 1000000 in
theorem kd_X4_next_37 {Q : HS → Prop} {v0 : Nat} {S0 S : HS} (h : P_X4_next_37 Q v0 S) (K : KD5 S0 S) : P_X4_next_37 (fun T => Q T ∧ KD5 S0 T) v0 S := by
  delta P_X4_next_37 at h ⊢
  obtain ⟨c1, h⟩ := h
  refine ⟨c1, ?_⟩
  have n2 := kd5_ne K c1
  intro x4 e3
  have h := h x4 e3
  intro x6 e5
  have h := h x6 e5
  have K := kd5_I K e5 n2 (by decide)
  intro x8 e7
  have h := h x8 e7
  refine cm_X4_sortAt (kd_X4_sortAt h) h (fun x9 x10 hp h g11 => ?_)
  have h := h g11
  have K := kd5_tr K hp.2
  intro x13 e12
  have h := h x13 e12
  have K := kd5_I K e12 n2 (by decide)
  intro x15 e14
  have h := h x15 e14
  have K := kd5_J K e14
  intro x17 e16
  have h := h x17 e16
  refine ⟨?_, ?_⟩
  · intro c18
    have h := h.1 c18
    exact kd_X4_next_78 h K
  · intro c19
    have h := h.2 c19
    intro x21 e20
    have h := h x21 e20
    refine ⟨?_, ?_⟩
    · intro c22
      have h := h.1 c22
      exact kd_X4_next_83 h K
    · intro c23
      have h := h.2 c23
      exact kd_X4_next_78 h K
set_option maxRecDepth 20000 in
set_option maxHeartbeats 1000000 in
theorem kdB_X4_next_2 {Q : HS → Prop} {X2 X2_2 : Nat → Int32 → HS → Prop} {v0 : Nat} {v1 : Int32} {S0 S : HS} (h : B_X4_next_2 Q X2 v0 v1 S) (K : KD5 S0 S) (hX2 : ∀ (u0 : Nat) (u1 : Int32) (u2 : HS), X2 u0 u1 u2 → KD5 S0 u2 → X2_2 u0 u1 u2) : B_X4_next_2 (fun T => Q T ∧ KD5 S0 T) X2_2 v0 v1 S := by
  delta B_X4_next_2 at h ⊢
  refine ⟨?_, ?_⟩
  · intro c1
    have h := h.1 c1
    exact kd_X4_next_37 h K
  · intro c2
    have h := h.2 c2
    obtain ⟨c3, h⟩ := h
    refine ⟨c3, ?_⟩
    have n4 := kd5_ne K c3
    intro x6 e5
    have h := h x6 e5
    refine cm_X4_sortAt (kd_X4_sortAt h) h (fun x7 x8 hp h g9 => ?_)
    have h := h g9
    have K := kd5_tr K hp.2
    refine ⟨?_, ?_⟩
    · intro c10
      have h := h.1 c10
      exact kd_X4_next_37 h K
    · intro c11
      have h := h.2 c11
      intro x13 e12
      have h := h x13 e12
      intro x15 e14
      have h := h x15 e14
      intro x17 e16
      have h := h x17 e16
      have K := kd5_I K e16 n4 (by decide)
      intro x19 e18
      have h := h x19 e18
      exact hX2 _ _ _ h K
theorem kd_X4_next_2 {Q : HS → Prop} {v0 : Nat} {v1 : Int32} {S0 S : HS} (h : P_X4_next_2 Q v0 v1 S) (K : KD5 S0 S) : P_X4_next_2 (fun T => Q T ∧ KD5 S0 T) v0 v1 S := h (fun v0 v1 S => KD5 S0 S → P_X4_next_2 (fun T => Q T ∧ KD5 S0 T) v0 v1 S) (fun v0 v1 S hB K => fd_X4_next_2 (kdB_X4_next_2 hB K (fun _ _ _ hx K => hx K))) K
set_option maxRecDepth 20000 in
set_option maxHeartbeats 1000000 in
theorem kd_X4_next_0 {Q : HS → Prop} {v0 : Nat} {S0 S : HS} (h : P_X4_next_0 Q v0 S) (K : KD5 S0 S) : P_X4_next_0 (fun T => Q T ∧ KD5 S0 T) v0 S := by
  delta P_X4_next_0 at h ⊢
  exact kd_X4_next_2 h K
theorem kd_X4_next {Q : HS → Prop} {v0 : Nat} {S : HS} (h : P_X4_next v0 Q S) : P_X4_next v0 (fun T => Q T ∧ KD5 S T) S := kd_X4_next_0 h (kd5_rf S)
set_option maxRecDepth 20000 in
set_option maxHeartbeats 1000000 in
theorem kd_X4_whole_34 {Q : Int32 → HS → Prop} {v0 : Nat} {S0 S : HS} (h : P_X4_whole_34 Q v0 S) (K : KD5 S0 S) : P_X4_whole_34 (fun r T => Q r T ∧ KD5 S0 T) v0 S := by
  delta P_X4_whole_34 at h ⊢
  obtain ⟨c1, h⟩ := h
  refine ⟨c1, ?_⟩
  have n2 := kd5_ne K c1
  refine cm_X4_fail (kd_X4_fail h) h (fun x3 x4 hp h g5 g6 => ?_)
  have h := h g5 g6
  have K := kd5_tr K hp.2
  obtain ⟨c7, h⟩ := h
  refine ⟨c7, ?_⟩
  exact ⟨h, K⟩
set_option maxRecDepth 20000 in
set_option maxHeartbeats 1000000 in
theorem kd_X4_whole_0 {Q : Int32 → HS → Prop} {v0 : Nat} {v1 : Int32} {v2 : Int32} {S0 S : HS} (h : P_X4_whole_0 Q v0 v1 v2 S) (K : KD5 S0 S) : P_X4_whole_0 (fun r T => Q r T ∧ KD5 S0 T) v0 v1 v2 S := by
  delta P_X4_whole_0 at h ⊢
  obtain ⟨c1, h⟩ := h
  refine ⟨c1, ?_⟩
  have n2 := kd5_ne K c1
  intro x4 e3
  have h := h x4 e3
  refine ⟨?_, ?_⟩
  · intro c5
    have h := h.1 c5
    intro x7 e6
    have h := h x7 e6
    refine ⟨?_, ?_⟩
    · intro c8
      have h := h.1 c8
      exact kd_X4_whole_34 h K
    · intro c9
      have h := h.2 c9
      intro x11 e10
      have h := h x11 e10
      refine ⟨?_, ?_⟩
      · intro c12
        have h := h.1 c12
        intro x14 e13
        have h := h x14 e13
        intro x16 e15
        have h := h x16 e15
        intro x18 e17
        have h := h x18 e17
        have K := kd5_I K e17 n2 (by decide)
        refine cm_X4_next (kd_X4_next h) h (fun x19 hp h g20 => ?_)
        have h := h g20
        have K := kd5_tr K hp.2
        exact ⟨h, K⟩
      · intro c21
        have h := h.2 c21
        exact kd_X4_whole_34 h K
  · intro c22
    have h := h.2 c22
    refine cm_X4_fail (kd_X4_fail h) h (fun x23 x24 hp h g25 g26 => ?_)
    have h := h g25 g26
    have K := kd5_tr K hp.2
    obtain ⟨c27, h⟩ := h
    refine ⟨c27, ?_⟩
    exact ⟨h, K⟩
theorem kd_X4_whole {Q : Int32 → HS → Prop} {v0 : Nat} {v1 : Int32} {v2 : Int32} {S : HS} (h : P_X4_whole v0 v1 v2 Q S) : P_X4_whole v0 v1 v2 (fun r T => Q r T ∧ KD5 S T) S := kd_X4_whole_0 h (kd5_rf S)
set_option maxRecDepth 20000 in
set_option maxHeartbeats 1000000 in
theorem kdB_X4_is_15 {Q : Int32 → HS → Prop} {X15 X15_2 : Nat → Nat → Int64 → Int32 → HS → Prop} {v0 : Nat} {v1 : Nat} {v2 : Int64} {v4 : Int32} {S0 S : HS} (h : B_X4_is_15 Q X15 v0 v1 v2 v4 S) (K : KD5 S0 S) (hX15 : ∀ (u0 : Nat) (u1 : Nat) (u2 : Int64) (u3 : Int32) (u4 : HS), X15 u0 u1 u2 u3 u4 → KD5 S0 u4 → X15_2 u0 u1 u2 u3 u4) : B_X4_is_15 (fun r T => Q r T ∧ KD5 S0 T) X15_2 v0 v1 v2 v4 S := by
  delta B_X4_is_15 at h ⊢
  obtain ⟨c1, h⟩ := h
  refine ⟨c1, ?_⟩
  intro x3 e2
  have h := h x3 e2
  refine ⟨?_, ?_⟩
  · intro c4
    have h := h.1 c4
    obtain ⟨c5, h⟩ := h
    refine ⟨c5, ?_⟩
    have n6 := kd5_ne K c5
    intro x8 e7
    have h := h x8 e7
    refine ⟨?_, ?_⟩
    · intro c9
      have h := h.1 c9
      exact ⟨h, K⟩
    · intro c10
      have h := h.2 c10
      exact ⟨h, K⟩
  · intro c11
    have h := h.2 c11
    obtain ⟨c12, h⟩ := h
    refine ⟨c12, ?_⟩
    obtain ⟨c13, h⟩ := h
    refine ⟨c13, ?_⟩
    intro x15 e14
    have h := h x15 e14
    intro x17 e16
    have h := h x17 e16
    intro x19 e18
    have h := h x19 e18
    exact hX15 _ _ _ _ _ h K
theorem kd_X4_is_15 {Q : Int32 → HS → Prop} {v0 : Nat} {v1 : Nat} {v2 : Int64} {v4 : Int32} {S0 S : HS} (h : P_X4_is_15 Q v0 v1 v2 v4 S) (K : KD5 S0 S) : P_X4_is_15 (fun r T => Q r T ∧ KD5 S0 T) v0 v1 v2 v4 S := h (fun v0 v1 v2 v4 S => KD5 S0 S → P_X4_is_15 (fun r T => Q r T ∧ KD5 S0 T) v0 v1 v2 v4 S) (fun v0 v1 v2 v4 S hB K => fd_X4_is_15 (kdB_X4_is_15 hB K (fun _ _ _ _ _ hx K => hx K))) K
set_option maxRecDepth 20000 in
set_option maxHeartbeats 1000000 in
theorem kd_X4_is_0 {Q : Int32 → HS → Prop} {v0 : Nat} {v1 : Nat} {S0 S : HS} (h : P_X4_is_0 Q v0 v1 S) (K : KD5 S0 S) : P_X4_is_0 (fun r T => Q r T ∧ KD5 S0 T) v0 v1 S := by
  delta P_X4_is_0 at h ⊢
  obtain ⟨c1, h⟩ := h
  refine ⟨c1, ?_⟩
  have n2 := kd5_ne K c1
  intro x4 e3
  have h := h x4 e3
  refine ⟨?_, ?_⟩
  · intro c5
    have h := h.1 c5
    exact kd_X4_is_15 h K
  · intro c6
    have h := h.2 c6
    exact ⟨h, K⟩
theorem kd_X4_is {Q : Int32 → HS → Prop} {v0 : Nat} {v1 : Nat} {S : HS} (h : P_X4_is v0 v1 Q S) : P_X4_is v0 v1 (fun r T => Q r T ∧ KD5 S T) S := kd_X4_is_0 h (kd5_rf S)
set_option maxRecDepth 20000 in
set_option maxHeartbeats 1000000 in
theorem kd_X4_word_0 {Q : Int32 → HS → Prop} {v0 : Nat} {v1 : Nat} {S0 S : HS} (h : P_X4_word_0 Q v0 v1 S) (K : KD5 S0 S) : P_X4_word_0 (fun r T => Q r T ∧ KD5 S0 T) v0 v1 S := by
  delta P_X4_word_0 at h ⊢
  obtain ⟨c1, h⟩ := h
  refine ⟨c1, ?_⟩
  have n2 := kd5_ne K c1
  refine cm_X4_is (kd_X4_is h) h (fun x3 x4 hp h g5 g6 => ?_)
  have h := h g5 g6
  have K := kd5_tr K hp.2
  refine ⟨?_, ?_⟩
  · intro c7
    have h := h.1 c7
    refine cm_X4_next (kd_X4_next h) h (fun x8 hp h g9 => ?_)
    have h := h g9
    have K := kd5_tr K hp.2
    exact ⟨h, K⟩
  · intro c10
    have h := h.2 c10
    refine cm_X4_fail (kd_X4_fail h) h (fun x11 x12 hp h g13 g14 => ?_)
    have h := h g13 g14
    have K := kd5_tr K hp.2
    obtain ⟨c15, h⟩ := h
    refine ⟨c15, ?_⟩
    exact ⟨h, K⟩
theorem kd_X4_word {Q : Int32 → HS → Prop} {v0 : Nat} {v1 : Nat} {S : HS} (h : P_X4_word v0 v1 Q S) : P_X4_word v0 v1 (fun r T => Q r T ∧ KD5 S T) S := kd_X4_word_0 h (kd5_rf S)
set_option maxRecDepth 20000 in
set_option maxHeartbeats 1000000 in
theorem kd_X4_wordAndWhole_0 {Q : Int32 → HS → Prop} {v0 : Nat} {v1 : Nat} {v2 : Int32} {v3 : Int32} {S0 S : HS} (h : P_X4_wordAndWhole_0 Q v0 v1 v2 v3 S) (K : KD5 S0 S) : P_X4_wordAndWhole_0 (fun r T => Q r T ∧ KD5 S0 T) v0 v1 v2 v3 S := by
  delta P_X4_wordAndWhole_0 at h ⊢
  obtain ⟨c1, h⟩ := h
  refine ⟨c1, ?_⟩
  have n2 := kd5_ne K c1
  refine cm_X4_word (kd_X4_word h) h (fun x3 x4 hp h g5 g6 => ?_)
  have h := h g5 g6
  have K := kd5_tr K hp.2
  refine ⟨?_, ?_⟩
  · intro c7
    have h := h.1 c7
    exact ⟨h, K⟩
  · intro c8
    have h := h.2 c8
    refine cm_X4_whole (kd_X4_whole h) h (fun x9 x10 hp h g11 g12 => ?_)
    have h := h g11 g12
    have K := kd5_tr K hp.2
    refine ⟨?_, ?_⟩
    · intro c13
      have h := h.1 c13
      exact ⟨h, K⟩
    · intro c14
      have h := h.2 c14
      exact ⟨h, K⟩
theorem kd_X4_wordAndWhole {Q : Int32 → HS → Prop} {v0 : Nat} {v1 : Nat} {v2 : Int32} {v3 : Int32} {S : HS} (h : P_X4_wordAndWhole v0 v1 v2 v3 Q S) : P_X4_wordAndWhole v0 v1 v2 v3 (fun r T => Q r T ∧ KD5 S T) S := kd_X4_wordAndWhole_0 h (kd5_rf S)
set_option maxRecDepth 20000 in
set_option maxHeartbeats 1000000 in
theorem kd_X6_shape_16 {Q : HS → Prop} {v0 : Nat} {v1 : Int32} {v2 : Int32} {v3 : Int32} {s0 : Int32} {S0 S : HS} (h : P_X6_shape_16 Q v0 v1 v2 v3 s0 S) (K : KD5 S0 S) : P_X6_shape_16 (fun T => Q T ∧ KD5 S0 T) v0 v1 v2 v3 s0 S := by
  delta P_X6_shape_16 at h ⊢
  obtain ⟨c1, h⟩ := h
  refine ⟨c1, ?_⟩
  have n2 := kd5_ne K c1
  intro x4 e3
  have h := h x4 e3
  intro x6 e5
  have h := h x6 e5
  have K := kd5_I K e5 n2 (by decide)
  intro x8 e7
  have h := h x8 e7
  intro x10 e9
  have h := h x10 e9
  have K := kd5_I K e9 n2 (by decide)
  intro x12 e11
  have h := h x12 e11
  intro x14 e13
  have h := h x14 e13
  have K := kd5_I K e13 n2 (by decide)
  exact ⟨h, K⟩
set_option maxRecDepth 20000 in
set_option maxHeartbeats 1000000 in
theorem kd_X6_shape_0 {Q : HS → Prop} {v0 : Nat} {v1 : Int32} {v2 : Int32} {v3 : Int32} {S0 S : HS} (h : P_X6_shape_0 Q v0 v1 v2 v3 S) (K : KD5 S0 S) : P_X6_shape_0 (fun T => Q T ∧ KD5 S0 T) v0 v1 v2 v3 S := by
  delta P_X6_shape_0 at h ⊢
  obtain ⟨c1, h⟩ := h
  refine ⟨c1, ?_⟩
  have n2 := kd5_ne K c1
  intro x4 e3
  have h := h x4 e3
  refine ⟨?_, ?_⟩
  · intro c5
    have h := h.1 c5
    exact kd_X6_shape_16 h K
  · intro c6
    have h := h.2 c6
    intro x8 e7
    have h := h x8 e7
    exact kd_X6_shape_16 h K
theorem kd_X6_shape {Q : HS → Prop} {v0 : Nat} {v1 : Int32} {v2 : Int32} {v3 : Int32} {S : HS} (h : P_X6_shape v0 v1 v2 v3 Q S) : P_X6_shape v0 v1 v2 v3 (fun T => Q T ∧ KD5 S T) S := kd_X6_shape_0 h (kd5_rf S)
set_option maxRecDepth 20000 in
set_option maxHeartbeats 1000000 in
theorem kd_X4_bodyOf_58 {Q : Int32 → HS → Prop} {v0 : Nat} {v1 : Nat} {v2 : Int32} {v3 : Int32} {s0 : Int32} {S0 S : HS} (h : P_X4_bodyOf_58 Q v0 v1 v2 v3 s0 S) (K : KD5 S0 S) : P_X4_bodyOf_58 (fun r T => Q r T ∧ KD5 S0 T) v0 v1 v2 v3 s0 S := by
  delta P_X4_bodyOf_58 at h ⊢
  obtain ⟨c1, h⟩ := h
  refine ⟨c1, ?_⟩
  have n2 := kd5_ne K c1
  refine cm_X4_wordAndWhole (kd_X4_wordAndWhole h) h (fun x3 x4 hp h g5 g6 => ?_)
  have h := h g5 g6
  have K := kd5_tr K hp.2
  refine ⟨?_, ?_⟩
  · intro c7
    have h := h.1 c7
    intro x9 e8
    have h := h x9 e8
    obtain ⟨c10, h⟩ := h
    refine ⟨c10, ?_⟩
    have n11 := kd5_ne K c10
    refine cm_X6_shape (kd_X6_shape h) h (fun x12 hp h g13 => ?_)
    have h := h g13
    have K := kd5_tr K hp.2
    exact ⟨h, K⟩
  · intro c14
    have h := h.2 c14
    exact ⟨h, K⟩
set_option maxRecDepth 20000 in
set_option maxHeartbeats 1000000 in
theorem kd_X4_bodyOf_0 {Q : Int32 → HS → Prop} {v0 : Nat} {v1 : Nat} {S0 S : HS} (h : P_X4_bodyOf_0 Q v0 v1 S) (K : KD5 S0 S) : P_X4_bodyOf_0 (fun r T => Q r T ∧ KD5 S0 T) v0 v1 S := by
  delta P_X4_bodyOf_0 at h ⊢
  obtain ⟨c1, h⟩ := h
  refine ⟨c1, ?_⟩
  have n2 := kd5_ne K c1
  refine cm_X4_wordAndWhole (kd_X4_wordAndWhole h) h (fun x3 x4 hp h g5 g6 => ?_)
  have h := h g5 g6
  have K := kd5_tr K hp.2
  refine ⟨?_, ?_⟩
  · intro c7
    have h := h.1 c7
    intro x9 e8
    have h := h x9 e8
    refine cm_X4_wordAndWhole (kd_X4_wordAndWhole h) h (fun x10 x11 hp h g12 g13 => ?_)
    have h := h g12 g13
    have K := kd5_tr K hp.2
    refine ⟨?_, ?_⟩
    · intro c14
      have h := h.1 c14
      intro x16 e15
      have h := h x16 e15
      obtain ⟨c17, h⟩ := h
      refine ⟨c17, ?_⟩
      have n18 := kd5_ne K c17
      intro x20 e19
      have h := h x20 e19
      refine ⟨?_, ?_⟩
      · intro c21
        have h := h.1 c21
        exact kd_X4_bodyOf_58 h K
      · intro c22
        have h := h.2 c22
        intro x24 e23
        have h := h x24 e23
        exact kd_X4_bodyOf_58 h K
    · intro c25
      have h := h.2 c25
      exact ⟨h, K⟩
  · intro c26
    have h := h.2 c26
    exact ⟨h, K⟩
theorem kd_X4_bodyOf {Q : Int32 → HS → Prop} {v0 : Nat} {v1 : Nat} {S : HS} (h : P_X4_bodyOf v0 v1 Q S) : P_X4_bodyOf v0 v1 (fun r T => Q r T ∧ KD5 S T) S := kd_X4_bodyOf_0 h (kd5_rf S)
set_option maxRecDepth 20000 in
set_option maxHeartbeats 1000000 in
theorem kd_X4_canBeName_86 {Q : Int32 → HS → Prop} {v0 : Nat} {s0 : Int32} {S0 S : HS} (h : P_X4_canBeName_86 Q v0 s0 S) (K : KD5 S0 S) : P_X4_canBeName_86 (fun r T => Q r T ∧ KD5 S0 T) v0 s0 S := by
  delta P_X4_canBeName_86 at h ⊢
  obtain ⟨c1, h⟩ := h
  refine ⟨c1, ?_⟩
  have n2 := kd5_ne K c1
  intro x4 e3
  have h := h x4 e3
  refine ⟨?_, ?_⟩
  · intro c5
    have h := h.1 c5
    exact ⟨h, K⟩
  · intro c6
    have h := h.2 c6
    refine ⟨?_, ?_⟩
    · intro c7
      have h := h.1 c7
      exact ⟨h, K⟩
    · intro c8
      have h := h.2 c8
      exact ⟨h, K⟩
set_option maxRecDepth 20000 in
set_option maxHeartbeats 1000000 in
theorem kd_X4_canBeName_81 {Q : Int32 → HS → Prop} {v0 : Nat} {S0 S : HS} (h : P_X4_canBeName_81 Q v0 S) (K : KD5 S0 S) : P_X4_canBeName_81 (fun r T => Q r T ∧ KD5 S0 T) v0 S := by
  delta P_X4_canBeName_81 at h ⊢
  exact kd_X4_canBeName_86 h K
set_option maxRecDepth 20000 in
set_option maxHeartbeats 1000000 in
theorem kd_X4_canBeName_0 {Q : Int32 → HS → Prop} {v0 : Nat} {S0 S : HS} (h : P_X4_canBeName_0 Q v0 S) (K : KD5 S0 S) : P_X4_canBeName_0 (fun r T => Q r T ∧ KD5 S0 T) v0 S := by
  delta P_X4_canBeName_0 at h ⊢
  obtain ⟨c1, h⟩ := h
  refine ⟨c1, ?_⟩
  have n2 := kd5_ne K c1
  refine cm_X4_is (kd_X4_is h) h (fun x3 x4 hp h g5 g6 => ?_)
  have h := h g5 g6
  have K := kd5_tr K hp.2
  refine ⟨?_, ?_⟩
  · intro c7
    have h := h.1 c7
    exact kd_X4_canBeName_81 h K
  · intro c8
    have h := h.2 c8
    refine cm_X4_is (kd_X4_is h) h (fun x9 x10 hp h g11 g12 => ?_)
    have h := h g11 g12
    have K := kd5_tr K hp.2
    refine ⟨?_, ?_⟩
    · intro c13
      have h := h.1 c13
      exact kd_X4_canBeName_81 h K
    · intro c14
      have h := h.2 c14
      refine cm_X4_is (kd_X4_is h) h (fun x15 x16 hp h g17 g18 => ?_)
      have h := h g17 g18
      have K := kd5_tr K hp.2
      refine ⟨?_, ?_⟩
      · intro c19
        have h := h.1 c19
        exact kd_X4_canBeName_81 h K
      · intro c20
        have h := h.2 c20
        refine cm_X4_is (kd_X4_is h) h (fun x21 x22 hp h g23 g24 => ?_)
        have h := h g23 g24
        have K := kd5_tr K hp.2
        refine ⟨?_, ?_⟩
        · intro c25
          have h := h.1 c25
          exact kd_X4_canBeName_81 h K
        · intro c26
          have h := h.2 c26
          refine cm_X4_is (kd_X4_is h) h (fun x27 x28 hp h g29 g30 => ?_)
          have h := h g29 g30
          have K := kd5_tr K hp.2
          refine ⟨?_, ?_⟩
          · intro c31
            have h := h.1 c31
            exact kd_X4_canBeName_81 h K
          · intro c32
            have h := h.2 c32
            refine cm_X4_is (kd_X4_is h) h (fun x33 x34 hp h g35 g36 => ?_)
            have h := h g35 g36
            have K := kd5_tr K hp.2
            refine ⟨?_, ?_⟩
            · intro c37
              have h := h.1 c37
              exact kd_X4_canBeName_81 h K
            · intro c38
              have h := h.2 c38
              refine cm_X4_is (kd_X4_is h) h (fun x39 x40 hp h g41 g42 => ?_)
              have h := h g41 g42
              have K := kd5_tr K hp.2
              refine ⟨?_, ?_⟩
              · intro c43
                have h := h.1 c43
                exact kd_X4_canBeName_81 h K
              · intro c44
                have h := h.2 c44
                refine cm_X4_is (kd_X4_is h) h (fun x45 x46 hp h g47 g48 => ?_)
                have h := h g47 g48
                have K := kd5_tr K hp.2
                refine ⟨?_, ?_⟩
                · intro c49
                  have h := h.1 c49
                  exact kd_X4_canBeName_81 h K
                · intro c50
                  have h := h.2 c50
                  refine cm_X4_is (kd_X4_is h) h (fun x51 x52 hp h g53 g54 => ?_)
                  have h := h g53 g54
                  have K := kd5_tr K hp.2
                  refine ⟨?_, ?_⟩
                  · intro c55
                    have h := h.1 c55
                    exact kd_X4_canBeName_86 h K
                  · intro c56
                    have h := h.2 c56
                    exact kd_X4_canBeName_81 h K
theorem kd_X4_canBeName {Q : Int32 → HS → Prop} {v0 : Nat} {S : HS} (h : P_X4_canBeName v0 Q S) : P_X4_canBeName v0 (fun r T => Q r T ∧ KD5 S T) S := kd_X4_canBeName_0 h (kd5_rf S)
set_option maxRecDepth 20000 in
set_option maxHeartbeats 1000000 in
theorem kdB_X4_findName_2 {Q : Int32 → HS → Prop} {X2 X2_2 : Nat → Int32 → HS → Prop} {v0 : Nat} {v1 : Int32} {S0 S : HS} (h : B_X4_findName_2 Q X2 v0 v1 S) (K : KD5 S0 S) (hX2 : ∀ (u0 : Nat) (u1 : Int32) (u2 : HS), X2 u0 u1 u2 → KD5 S0 u2 → X2_2 u0 u1 u2) : B_X4_findName_2 (fun r T => Q r T ∧ KD5 S0 T) X2_2 v0 v1 S := by
  delta B_X4_findName_2 at h ⊢
  obtain ⟨c1, h⟩ := h
  refine ⟨c1, ?_⟩
  have n2 := kd5_ne K c1
  intro x4 e3
  have h := h x4 e3
  refine ⟨?_, ?_⟩
  · intro c5
    have h := h.1 c5
    exact ⟨h, K⟩
  · intro c6
    have h := h.2 c6
    refine ⟨?_, ?_⟩
    · intro c7
      have h := h.1 c7
      exact ⟨h, K⟩
    · intro c8
      have h := h.2 c8
      obtain ⟨b9, e10, h⟩ := h
      refine ⟨b9, e10, ?_⟩
      obtain ⟨c11, h⟩ := h
      refine ⟨c11, ?_⟩
      have n12 := kd5_ne K c11
      obtain ⟨c13, h⟩ := h
      refine ⟨c13, ?_⟩
      intro x15 e14
      have h := h x15 e14
      intro x17 e16
      have h := h x17 e16
      refine ⟨?_, ?_⟩
      · intro c18
        have h := h.1 c18
        intro x20 e19
        have h := h x20 e19
        exact hX2 _ _ _ h K
      · intro c21
        have h := h.2 c21
        obtain ⟨b22, e23, h⟩ := h
        refine ⟨b22, e23, ?_⟩
        obtain ⟨c24, h⟩ := h
        refine ⟨c24, ?_⟩
        have n25 := kd5_ne K c24
        obtain ⟨c26, h⟩ := h
        refine ⟨c26, ?_⟩
        intro x28 e27
        have h := h x28 e27
        exact ⟨h, K⟩
theorem kd_X4_findName_2 {Q : Int32 → HS → Prop} {v0 : Nat} {v1 : Int32} {S0 S : HS} (h : P_X4_findName_2 Q v0 v1 S) (K : KD5 S0 S) : P_X4_findName_2 (fun r T => Q r T ∧ KD5 S0 T) v0 v1 S := h (fun v0 v1 S => KD5 S0 S → P_X4_findName_2 (fun r T => Q r T ∧ KD5 S0 T) v0 v1 S) (fun v0 v1 S hB K => fd_X4_findName_2 (kdB_X4_findName_2 hB K (fun _ _ _ hx K => hx K))) K
set_option maxRecDepth 20000 in
set_option maxHeartbeats 1000000 in
theorem kd_X4_findName_0 {Q : Int32 → HS → Prop} {v0 : Nat} {S0 S : HS} (h : P_X4_findName_0 Q v0 S) (K : KD5 S0 S) : P_X4_findName_0 (fun r T => Q r T ∧ KD5 S0 T) v0 S := by
  delta P_X4_findName_0 at h ⊢
  exact kd_X4_findName_2 h K
theorem kd_X4_findName {Q : Int32 → HS → Prop} {v0 : Nat} {S : HS} (h : P_X4_findName v0 Q S) : P_X4_findName v0 (fun r T => Q r T ∧ KD5 S T) S := kd_X4_findName_0 h (kd5_rf S)
set_option maxRecDepth 20000 in
set_option maxHeartbeats 1000000 in
theorem kd_X8_isTold_0 {Q : Int32 → HS → Prop} {v0 : Nat} {S0 S : HS} (h : P_X8_isTold_0 Q v0 S) (K : KD5 S0 S) : P_X8_isTold_0 (fun r T => Q r T ∧ KD5 S0 T) v0 S := by
  delta P_X8_isTold_0 at h ⊢
  obtain ⟨c1, h⟩ := h
  refine ⟨c1, ?_⟩
  have n2 := kd5_ne K c1
  intro x4 e3
  have h := h x4 e3
  refine ⟨?_, ?_⟩
  · intro c5
    have h := h.1 c5
    exact ⟨h, K⟩
  · intro c6
    have h := h.2 c6
    exact ⟨h, K⟩
theorem kd_X8_isTold {Q : Int32 → HS → Prop} {v0 : Nat} {S : HS} (h : P_X8_isTold v0 Q S) : P_X8_isTold v0 (fun r T => Q r T ∧ KD5 S T) S := kd_X8_isTold_0 h (kd5_rf S)
set_option maxRecDepth 20000 in
set_option maxHeartbeats 1000000 in
theorem kd_X4_hasRoom_0 {Q : Int32 → HS → Prop} {v0 : Nat} {v1 : Int32} {v2 : Int32} {S0 S : HS} (h : P_X4_hasRoom_0 Q v0 v1 v2 S) (K : KD5 S0 S) : P_X4_hasRoom_0 (fun r T => Q r T ∧ KD5 S0 T) v0 v1 v2 S := by
  delta P_X4_hasRoom_0 at h ⊢
  obtain ⟨c1, h⟩ := h
  refine ⟨c1, ?_⟩
  have n2 := kd5_ne K c1
  obtain ⟨b3, e4, h⟩ := h
  refine ⟨b3, e4, ?_⟩
  obtain ⟨c5, h⟩ := h
  refine ⟨c5, ?_⟩
  have n6 := kd5_ne K c5
  refine cm_X8_isTold (kd_X8_isTold h) h (fun x7 x8 hp h g9 g10 => ?_)
  have h := h g9 g10
  have K := kd5_tr K hp.2
  refine ⟨?_, ?_⟩
  · intro c11
    have h := h.1 c11
    refine ⟨?_, ?_⟩
    · intro c12
      have h := h.1 c12
      refine cm_X4_next (kd_X4_next h) h (fun x13 hp h g14 => ?_)
      have h := h g14
      have K := kd5_tr K hp.2
      exact ⟨h, K⟩
    · intro c15
      have h := h.2 c15
      refine cm_X4_fail (kd_X4_fail h) h (fun x16 x17 hp h g18 g19 => ?_)
      have h := h g18 g19
      have K := kd5_tr K hp.2
      obtain ⟨c20, h⟩ := h
      refine ⟨c20, ?_⟩
      exact ⟨h, K⟩
  · intro c21
    have h := h.2 c21
    refine cm_X4_fail (kd_X4_fail h) h (fun x22 x23 hp h g24 g25 => ?_)
    have h := h g24 g25
    have K := kd5_tr K hp.2
    obtain ⟨c26, h⟩ := h
    refine ⟨c26, ?_⟩
    exact ⟨h, K⟩
theorem kd_X4_hasRoom {Q : Int32 → HS → Prop} {v0 : Nat} {v1 : Int32} {v2 : Int32} {S : HS} (h : P_X4_hasRoom v0 v1 v2 Q S) : P_X4_hasRoom v0 v1 v2 (fun r T => Q r T ∧ KD5 S T) S := kd_X4_hasRoom_0 h (kd5_rf S)
set_option maxRecDepth 20000 in
set_option maxHeartbeats 1000000 in
theorem kd_X4_kindOf_0 {Q : Int32 → HS → Prop} {v0 : Nat} {v1 : Nat} {S0 S : HS} (h : P_X4_kindOf_0 Q v0 v1 S) (K : KD5 S0 S) : P_X4_kindOf_0 (fun r T => Q r T ∧ KD5 S0 T) v0 v1 S := by
  delta P_X4_kindOf_0 at h ⊢
  obtain ⟨c1, h⟩ := h
  refine ⟨c1, ?_⟩
  have n2 := kd5_ne K c1
  intro x4 e3
  have h := h x4 e3
  have K := kd5_I K e3 n2 (by decide)
  refine cm_X4_is (kd_X4_is h) h (fun x5 x6 hp h g7 g8 => ?_)
  have h := h g7 g8
  have K := kd5_tr K hp.2
  refine ⟨?_, ?_⟩
  · intro c9
    have h := h.1 c9
    refine cm_X4_is (kd_X4_is h) h (fun x10 x11 hp h g12 g13 => ?_)
    have h := h g12 g13
    have K := kd5_tr K hp.2
    refine ⟨?_, ?_⟩
    · intro c14
      have h := h.1 c14
      refine cm_X4_is (kd_X4_is h) h (fun x15 x16 hp h g17 g18 => ?_)
      have h := h g17 g18
      have K := kd5_tr K hp.2
      refine ⟨?_, ?_⟩
      · intro c19
        have h := h.1 c19
        obtain ⟨c20, h⟩ := h
        refine ⟨c20, ?_⟩
        have n21 := kd5_ne K c20
        intro x23 e22
        have h := h x23 e22
        have K := kd5_I K e22 n21 (by decide)
        refine cm_X4_word (kd_X4_word h) h (fun x24 x25 hp h g26 g27 => ?_)
        have h := h g26 g27
        have K := kd5_tr K hp.2
        intro x29 e28
        have h := h x29 e28
        intro x31 e30
        have h := h x31 e30
        have K := kd5_I K e30 n21 (by decide)
        obtain ⟨c32, h⟩ := h
        refine ⟨c32, ?_⟩
        exact ⟨h, K⟩
      · intro c33
        have h := h.2 c33
        obtain ⟨c34, h⟩ := h
        refine ⟨c34, ?_⟩
        have n35 := kd5_ne K c34
        intro x37 e36
        have h := h x37 e36
        have K := kd5_I K e36 n35 (by decide)
        refine cm_X4_wordAndWhole (kd_X4_wordAndWhole h) h (fun x38 x39 hp h g40 g41 => ?_)
        have h := h g40 g41
        have K := kd5_tr K hp.2
        intro x43 e42
        have h := h x43 e42
        intro x45 e44
        have h := h x45 e44
        have K := kd5_I K e44 n35 (by decide)
        obtain ⟨c46, h⟩ := h
        refine ⟨c46, ?_⟩
        exact ⟨h, K⟩
    · intro c47
      have h := h.2 c47
      obtain ⟨c48, h⟩ := h
      refine ⟨c48, ?_⟩
      have n49 := kd5_ne K c48
      intro x51 e50
      have h := h x51 e50
      have K := kd5_I K e50 n49 (by decide)
      refine cm_X4_wordAndWhole (kd_X4_wordAndWhole h) h (fun x52 x53 hp h g54 g55 => ?_)
      have h := h g54 g55
      have K := kd5_tr K hp.2
      intro x57 e56
      have h := h x57 e56
      intro x59 e58
      have h := h x59 e58
      have K := kd5_I K e58 n49 (by decide)
      obtain ⟨c60, h⟩ := h
      refine ⟨c60, ?_⟩
      exact ⟨h, K⟩
  · intro c61
    have h := h.2 c61
    obtain ⟨c62, h⟩ := h
    refine ⟨c62, ?_⟩
    have n63 := kd5_ne K c62
    intro x65 e64
    have h := h x65 e64
    have K := kd5_I K e64 n63 (by decide)
    refine cm_X4_wordAndWhole (kd_X4_wordAndWhole h) h (fun x66 x67 hp h g68 g69 => ?_)
    have h := h g68 g69
    have K := kd5_tr K hp.2
    intro x71 e70
    have h := h x71 e70
    intro x73 e72
    have h := h x73 e72
    have K := kd5_I K e72 n63 (by decide)
    obtain ⟨c74, h⟩ := h
    refine ⟨c74, ?_⟩
    exact ⟨h, K⟩
theorem kd_X4_kindOf {Q : Int32 → HS → Prop} {v0 : Nat} {v1 : Nat} {S : HS} (h : P_X4_kindOf v0 v1 Q S) : P_X4_kindOf v0 v1 (fun r T => Q r T ∧ KD5 S T) S := kd_X4_kindOf_0 h (kd5_rf S)
set_option maxRecDepth 20000 in
set_option maxHeartbeats 1000000 in
theorem kd_X4_newName_69 {Q : Int32 → HS → Prop} {v0 : Nat} {S0 S : HS} (h : P_X4_newName_69 Q v0 S) (K : KD5 S0 S) : P_X4_newName_69 (fun r T => Q r T ∧ KD5 S0 T) v0 S := by
  delta P_X4_newName_69 at h ⊢
  obtain ⟨c1, h⟩ := h
  refine ⟨c1, ?_⟩
  have n2 := kd5_ne K c1
  refine cm_X4_next (kd_X4_next h) h (fun x3 hp h g4 => ?_)
  have h := h g4
  have K := kd5_tr K hp.2
  exact ⟨h, K⟩
set_option maxRecDepth 20000 in
set_option maxHeartbeats 1000000 in
theorem kd_X4_newName_0 {Q : Int32 → HS → Prop} {v0 : Nat} {v1 : Int32} {S0 S : HS} (h : P_X4_newName_0 Q v0 v1 S) (K : KD5 S0 S) : P_X4_newName_0 (fun r T => Q r T ∧ KD5 S0 T) v0 v1 S := by
  delta P_X4_newName_0 at h ⊢
  obtain ⟨c1, h⟩ := h
  refine ⟨c1, ?_⟩
  have n2 := kd5_ne K c1
  refine cm_X4_canBeName (kd_X4_canBeName h) h (fun x3 x4 hp h g5 g6 => ?_)
  have h := h g5 g6
  have K := kd5_tr K hp.2
  refine ⟨?_, ?_⟩
  · intro c7
    have h := h.1 c7
    refine cm_X4_findName (kd_X4_findName h) h (fun x8 x9 hp h g10 => ?_)
    have h := h g10
    have K := kd5_tr K hp.2
    refine ⟨?_, ?_⟩
    · intro c11
      have h := h.1 c11
      intro x13 e12
      have h := h x13 e12
      refine ⟨?_, ?_⟩
      · intro c14
        have h := h.1 c14
        exact kd_X4_newName_69 h K
      · intro c15
        have h := h.2 c15
        obtain ⟨b16, e17, h⟩ := h
        refine ⟨b16, e17, ?_⟩
        intro x19 e18
        have h := h x19 e18
        intro x21 e20
        have h := h x21 e20
        obtain ⟨c22, h⟩ := h
        refine ⟨c22, ?_⟩
        have n23 := kd5_ne K c22
        obtain ⟨c24, h⟩ := h
        refine ⟨c24, ?_⟩
        intro x26 e25
        have h := h x26 e25
        have K := kd5_J K e25
        obtain ⟨b27, e28, h⟩ := h
        refine ⟨b27, e28, ?_⟩
        intro x30 e29
        have h := h x30 e29
        obtain ⟨c31, h⟩ := h
        refine ⟨c31, ?_⟩
        have n32 := kd5_ne K c31
        obtain ⟨c33, h⟩ := h
        refine ⟨c33, ?_⟩
        intro x35 e34
        have h := h x35 e34
        have K := kd5_A K e34 n32 (by decide)
        intro x37 e36
        have h := h x37 e36
        intro x39 e38
        have h := h x39 e38
        intro x41 e40
        have h := h x41 e40
        have K := kd5_I K e40 n2 (by decide)
        exact kd_X4_newName_69 h K
    · intro c42
      have h := h.2 c42
      refine cm_X4_fail (kd_X4_fail h) h (fun x43 x44 hp h g45 g46 => ?_)
      have h := h g45 g46
      have K := kd5_tr K hp.2
      obtain ⟨c47, h⟩ := h
      refine ⟨c47, ?_⟩
      exact ⟨h, K⟩
  · intro c48
    have h := h.2 c48
    refine cm_X4_fail (kd_X4_fail h) h (fun x49 x50 hp h g51 g52 => ?_)
    have h := h g51 g52
    have K := kd5_tr K hp.2
    obtain ⟨c53, h⟩ := h
    refine ⟨c53, ?_⟩
    exact ⟨h, K⟩
theorem kd_X4_newName {Q : Int32 → HS → Prop} {v0 : Nat} {v1 : Int32} {S : HS} (h : P_X4_newName v0 v1 Q S) : P_X4_newName v0 v1 (fun r T => Q r T ∧ KD5 S T) S := kd_X4_newName_0 h (kd5_rf S)
set_option maxRecDepth 20000 in
set_option maxHeartbeats 1000000 in
theorem kd_X8_clear_0 {Q : HS → Prop} {v0 : Nat} {S0 S : HS} (h : P_X8_clear_0 Q v0 S) (K : KD5 S0 S) : P_X8_clear_0 (fun T => Q T ∧ KD5 S0 T) v0 S := by
  delta P_X8_clear_0 at h ⊢
  obtain ⟨c1, h⟩ := h
  refine ⟨c1, ?_⟩
  have n2 := kd5_ne K c1
  intro x4 e3
  have h := h x4 e3
  have K := kd5_I K e3 n2 (by decide)
  intro x6 e5
  have h := h x6 e5
  have K := kd5_I K e5 n2 (by decide)
  intro x8 e7
  have h := h x8 e7
  have K := kd5_I K e7 n2 (by decide)
  intro x10 e9
  have h := h x10 e9
  have K := kd5_I K e9 n2 (by decide)
  intro x12 e11
  have h := h x12 e11
  have K := kd5_I K e11 n2 (by decide)
  intro x14 e13
  have h := h x14 e13
  have K := kd5_I K e13 n2 (by decide)
  exact ⟨h, K⟩
theorem kd_X8_clear {Q : HS → Prop} {v0 : Nat} {S : HS} (h : P_X8_clear v0 Q S) : P_X8_clear v0 (fun T => Q T ∧ KD5 S T) S := kd_X8_clear_0 h (kd5_rf S)
set_option maxRecDepth 20000 in
set_option maxHeartbeats 1000000 in
theorem kd_X4_open_0 {Q : HS → Prop} {v0 : Nat} {v1 : Nat} {v2 : Int32} {S0 S : HS} (h : P_X4_open_0 Q v0 v1 v2 S) (K : KD5 S0 S) : P_X4_open_0 (fun T => Q T ∧ KD5 S0 T) v0 v1 v2 S := by
  delta P_X4_open_0 at h ⊢
  obtain ⟨c1, h⟩ := h
  refine ⟨c1, ?_⟩
  have n2 := kd5_ne K c1
  intro x4 e3
  have h := h x4 e3
  have K := kd5_R K e3
  obtain ⟨c5, h⟩ := h
  refine ⟨c5, ?_⟩
  have n6 := kd5_ne K c5
  intro x8 e7
  have h := h x8 e7
  intro x10 e9
  have h := h x10 e9
  have K := kd5_I K e9 n2 (by decide)
  intro x12 e11
  have h := h x12 e11
  have K := kd5_I K e11 n2 (by decide)
  intro x14 e13
  have h := h x14 e13
  have K := kd5_I K e13 n2 (by decide)
  intro x16 e15
  have h := h x16 e15
  have K := kd5_I K e15 n2 (by decide)
  intro x18 e17
  have h := h x18 e17
  have K := kd5_I K e17 n2 (by decide)
  obtain ⟨b19, e20, h⟩ := h
  refine ⟨b19, e20, ?_⟩
  obtain ⟨c21, h⟩ := h
  refine ⟨c21, ?_⟩
  have n22 := kd5_ne K c21
  refine cm_X8_clear (kd_X8_clear h) h (fun x23 hp h g24 => ?_)
  have h := h g24
  have K := kd5_tr K hp.2
  refine cm_X4_next (kd_X4_next h) h (fun x25 hp h g26 => ?_)
  have h := h g26
  have K := kd5_tr K hp.2
  exact ⟨h, K⟩
theorem kd_X4_open {Q : HS → Prop} {v0 : Nat} {v1 : Nat} {v2 : Int32} {S : HS} (h : P_X4_open v0 v1 v2 Q S) : P_X4_open v0 v1 v2 (fun T => Q T ∧ KD5 S T) S := kd_X4_open_0 h (kd5_rf S)
set_option maxRecDepth 20000 in
set_option maxHeartbeats 1000000 in
theorem kd_X4_placeBut_29 {Q : Int32 → HS → Prop} {v0 : Nat} {S0 S : HS} (h : P_X4_placeBut_29 Q v0 S) (K : KD5 S0 S) : P_X4_placeBut_29 (fun r T => Q r T ∧ KD5 S0 T) v0 S := by
  delta P_X4_placeBut_29 at h ⊢
  obtain ⟨c1, h⟩ := h
  refine ⟨c1, ?_⟩
  have n2 := kd5_ne K c1
  refine cm_X4_fail (kd_X4_fail h) h (fun x3 x4 hp h g5 g6 => ?_)
  have h := h g5 g6
  have K := kd5_tr K hp.2
  obtain ⟨c7, h⟩ := h
  refine ⟨c7, ?_⟩
  exact ⟨h, K⟩
set_option maxRecDepth 20000 in
set_option maxHeartbeats 1000000 in
theorem kd_X4_placeBut_0 {Q : Int32 → HS → Prop} {v0 : Nat} {v1 : Int32} {S0 S : HS} (h : P_X4_placeBut_0 Q v0 v1 S) (K : KD5 S0 S) : P_X4_placeBut_0 (fun r T => Q r T ∧ KD5 S0 T) v0 v1 S := by
  delta P_X4_placeBut_0 at h ⊢
  obtain ⟨c1, h⟩ := h
  refine ⟨c1, ?_⟩
  have n2 := kd5_ne K c1
  refine cm_X4_canBeName (kd_X4_canBeName h) h (fun x3 x4 hp h g5 g6 => ?_)
  have h := h g5 g6
  have K := kd5_tr K hp.2
  refine ⟨?_, ?_⟩
  · intro c7
    have h := h.1 c7
    refine cm_X4_findName (kd_X4_findName h) h (fun x8 x9 hp h g10 => ?_)
    have h := h g10
    have K := kd5_tr K hp.2
    refine ⟨?_, ?_⟩
    · intro c11
      have h := h.1 c11
      exact kd_X4_placeBut_29 h K
    · intro c12
      have h := h.2 c12
      refine ⟨?_, ?_⟩
      · intro c13
        have h := h.1 c13
        refine ⟨?_, ?_⟩
        · intro c14
          have h := h.1 c14
          intro x16 e15
          have h := h x16 e15
          have K := kd5_I K e15 n2 (by decide)
          refine cm_X4_next (kd_X4_next h) h (fun x17 hp h g18 => ?_)
          have h := h g18
          have K := kd5_tr K hp.2
          exact ⟨h, K⟩
        · intro c19
          have h := h.2 c19
          refine cm_X4_fail (kd_X4_fail h) h (fun x20 x21 hp h g22 g23 => ?_)
          have h := h g22 g23
          have K := kd5_tr K hp.2
          obtain ⟨c24, h⟩ := h
          refine ⟨c24, ?_⟩
          exact ⟨h, K⟩
      · intro c25
        have h := h.2 c25
        exact kd_X4_placeBut_29 h K
  · intro c26
    have h := h.2 c26
    refine cm_X4_fail (kd_X4_fail h) h (fun x27 x28 hp h g29 g30 => ?_)
    have h := h g29 g30
    have K := kd5_tr K hp.2
    obtain ⟨c31, h⟩ := h
    refine ⟨c31, ?_⟩
    exact ⟨h, K⟩
theorem kd_X4_placeBut {Q : Int32 → HS → Prop} {v0 : Nat} {v1 : Int32} {S : HS} (h : P_X4_placeBut v0 v1 Q S) : P_X4_placeBut v0 v1 (fun r T => Q r T ∧ KD5 S T) S := kd_X4_placeBut_0 h (kd5_rf S)
set_option maxRecDepth 20000 in
set_option maxHeartbeats 1000000 in
theorem kd_X4_placeLine_64 {Q : Int32 → HS → Prop} {v0 : Nat} {v1 : Int32} {S0 S : HS} (h : P_X4_placeLine_64 Q v0 v1 S) (K : KD5 S0 S) : P_X4_placeLine_64 (fun r T => Q r T ∧ KD5 S0 T) v0 v1 S := by
  delta P_X4_placeLine_64 at h ⊢
  obtain ⟨c1, h⟩ := h
  refine ⟨c1, ?_⟩
  have n2 := kd5_ne K c1
  obtain ⟨b3, e4, h⟩ := h
  refine ⟨b3, e4, ?_⟩
  obtain ⟨c5, h⟩ := h
  refine ⟨c5, ?_⟩
  have n6 := kd5_ne K c5
  obtain ⟨b7, e8, h⟩ := h
  refine ⟨b7, e8, ?_⟩
  obtain ⟨b9, e10, h⟩ := h
  refine ⟨b9, e10, ?_⟩
  obtain ⟨c11, h⟩ := h
  refine ⟨c11, ?_⟩
  have n12 := kd5_ne K c11
  intro x14 e13
  have h := h x14 e13
  obtain ⟨c15, h⟩ := h
  refine ⟨c15, ?_⟩
  have n16 := kd5_ne K c15
  obtain ⟨c17, h⟩ := h
  refine ⟨c17, ?_⟩
  intro x19 e18
  have h := h x19 e18
  have K := kd5_A K e18 n16 (by decide)
  obtain ⟨b20, e21, h⟩ := h
  refine ⟨b20, e21, ?_⟩
  obtain ⟨c22, h⟩ := h
  refine ⟨c22, ?_⟩
  have n23 := kd5_ne K c22
  intro x25 e24
  have h := h x25 e24
  intro x27 e26
  have h := h x27 e26
  intro x29 e28
  have h := h x29 e28
  have K := kd5_I K e28 n23 (by decide)
  exact ⟨h, K⟩
set_option maxRecDepth 20000 in
set_option maxHeartbeats 1000000 in
theorem kd_X4_placeLine_0 {Q : Int32 → HS → Prop} {v0 : Nat} {S0 S : HS} (h : P_X4_placeLine_0 Q v0 S) (K : KD5 S0 S) : P_X4_placeLine_0 (fun r T => Q r T ∧ KD5 S0 T) v0 S := by
  delta P_X4_placeLine_0 at h ⊢
  obtain ⟨c1, h⟩ := h
  refine ⟨c1, ?_⟩
  have n2 := kd5_ne K c1
  obtain ⟨b3, e4, h⟩ := h
  refine ⟨b3, e4, ?_⟩
  obtain ⟨c5, h⟩ := h
  refine ⟨c5, ?_⟩
  have n6 := kd5_ne K c5
  intro x8 e7
  have h := h x8 e7
  refine cm_X4_newName (kd_X4_newName h) h (fun x9 x10 hp h g11 g12 => ?_)
  have h := h g11 g12
  have K := kd5_tr K hp.2
  refine ⟨?_, ?_⟩
  · intro c13
    have h := h.1 c13
    refine cm_X4_is (kd_X4_is h) h (fun x14 x15 hp h g16 g17 => ?_)
    have h := h g16 g17
    have K := kd5_tr K hp.2
    refine ⟨?_, ?_⟩
    · intro c18
      have h := h.1 c18
      refine cm_X4_is (kd_X4_is h) h (fun x19 x20 hp h g21 g22 => ?_)
      have h := h g21 g22
      have K := kd5_tr K hp.2
      refine ⟨?_, ?_⟩
      · intro c23
        have h := h.1 c23
        exact kd_X4_placeLine_64 h K
      · intro c24
        have h := h.2 c24
        refine cm_X4_wordAndWhole (kd_X4_wordAndWhole h) h (fun x25 x26 hp h g27 g28 => ?_)
        have h := h g27 g28
        have K := kd5_tr K hp.2
        refine ⟨?_, ?_⟩
        · intro c29
          have h := h.1 c29
          intro x31 e30
          have h := h x31 e30
          exact kd_X4_placeLine_64 h K
        · intro c32
          have h := h.2 c32
          exact ⟨h, K⟩
    · intro c33
      have h := h.2 c33
      refine cm_X4_next (kd_X4_next h) h (fun x34 hp h g35 => ?_)
      have h := h g35
      have K := kd5_tr K hp.2
      exact kd_X4_placeLine_64 h K
  · intro c36
    have h := h.2 c36
    exact ⟨h, K⟩
theorem kd_X4_placeLine {Q : Int32 → HS → Prop} {v0 : Nat} {S : HS} (h : P_X4_placeLine v0 Q S) : P_X4_placeLine v0 (fun r T => Q r T ∧ KD5 S T) S := kd_X4_placeLine_0 h (kd5_rf S)
set_option maxRecDepth 20000 in
set_option maxHeartbeats 1000000 in
theorem kd_X4_side_74 {Q : Int32 → HS → Prop} {v0 : Nat} {S0 S : HS} (h : P_X4_side_74 Q v0 S) (K : KD5 S0 S) : P_X4_side_74 (fun r T => Q r T ∧ KD5 S0 T) v0 S := by
  delta P_X4_side_74 at h ⊢
  obtain ⟨c1, h⟩ := h
  refine ⟨c1, ?_⟩
  have n2 := kd5_ne K c1
  refine cm_X4_next (kd_X4_next h) h (fun x3 hp h g4 => ?_)
  have h := h g4
  have K := kd5_tr K hp.2
  exact ⟨h, K⟩
set_option maxRecDepth 20000 in
set_option maxHeartbeats 1000000 in
theorem kd_X4_side_0 {Q : Int32 → HS → Prop} {v0 : Nat} {S0 S : HS} (h : P_X4_side_0 Q v0 S) (K : KD5 S0 S) : P_X4_side_0 (fun r T => Q r T ∧ KD5 S0 T) v0 S := by
  delta P_X4_side_0 at h ⊢
  obtain ⟨c1, h⟩ := h
  refine ⟨c1, ?_⟩
  have n2 := kd5_ne K c1
  refine cm_X4_is (kd_X4_is h) h (fun x3 x4 hp h g5 g6 => ?_)
  have h := h g5 g6
  have K := kd5_tr K hp.2
  refine ⟨?_, ?_⟩
  · intro c7
    have h := h.1 c7
    refine cm_X4_is (kd_X4_is h) h (fun x8 x9 hp h g10 g11 => ?_)
    have h := h g10 g11
    have K := kd5_tr K hp.2
    refine ⟨?_, ?_⟩
    · intro c12
      have h := h.1 c12
      refine cm_X4_is (kd_X4_is h) h (fun x13 x14 hp h g15 g16 => ?_)
      have h := h g15 g16
      have K := kd5_tr K hp.2
      refine ⟨?_, ?_⟩
      · intro c17
        have h := h.1 c17
        refine cm_X4_is (kd_X4_is h) h (fun x18 x19 hp h g20 g21 => ?_)
        have h := h g20 g21
        have K := kd5_tr K hp.2
        refine ⟨?_, ?_⟩
        · intro c22
          have h := h.1 c22
          refine cm_X4_fail (kd_X4_fail h) h (fun x23 x24 hp h g25 g26 => ?_)
          have h := h g25 g26
          have K := kd5_tr K hp.2
          obtain ⟨c27, h⟩ := h
          refine ⟨c27, ?_⟩
          exact ⟨h, K⟩
        · intro c28
          have h := h.2 c28
          intro x30 e29
          have h := h x30 e29
          have K := kd5_I K e29 n2 (by decide)
          exact kd_X4_side_74 h K
      · intro c31
        have h := h.2 c31
        intro x33 e32
        have h := h x33 e32
        have K := kd5_I K e32 n2 (by decide)
        exact kd_X4_side_74 h K
    · intro c34
      have h := h.2 c34
      intro x36 e35
      have h := h x36 e35
      have K := kd5_I K e35 n2 (by decide)
      exact kd_X4_side_74 h K
  · intro c37
    have h := h.2 c37
    intro x39 e38
    have h := h x39 e38
    have K := kd5_I K e38 n2 (by decide)
    exact kd_X4_side_74 h K
theorem kd_X4_side {Q : Int32 → HS → Prop} {v0 : Nat} {S : HS} (h : P_X4_side v0 Q S) : P_X4_side v0 (fun r T => Q r T ∧ KD5 S T) S := kd_X4_side_0 h (kd5_rf S)
set_option maxRecDepth 20000 in
set_option maxHeartbeats 1000000 in
theorem kd_X4_rainLine_0 {Q : Int32 → HS → Prop} {v0 : Nat} {S0 S : HS} (h : P_X4_rainLine_0 Q v0 S) (K : KD5 S0 S) : P_X4_rainLine_0 (fun r T => Q r T ∧ KD5 S0 T) v0 S := by
  delta P_X4_rainLine_0 at h ⊢
  obtain ⟨c1, h⟩ := h
  refine ⟨c1, ?_⟩
  have n2 := kd5_ne K c1
  obtain ⟨b3, e4, h⟩ := h
  refine ⟨b3, e4, ?_⟩
  obtain ⟨c5, h⟩ := h
  refine ⟨c5, ?_⟩
  have n6 := kd5_ne K c5
  obtain ⟨b7, e8, h⟩ := h
  refine ⟨b7, e8, ?_⟩
  obtain ⟨b9, e10, h⟩ := h
  refine ⟨b9, e10, ?_⟩
  obtain ⟨c11, h⟩ := h
  refine ⟨c11, ?_⟩
  have n12 := kd5_ne K c11
  intro x14 e13
  have h := h x14 e13
  obtain ⟨c15, h⟩ := h
  refine ⟨c15, ?_⟩
  have n16 := kd5_ne K c15
  obtain ⟨c17, h⟩ := h
  refine ⟨c17, ?_⟩
  obtain ⟨b18, e19, h⟩ := h
  refine ⟨b18, e19, ?_⟩
  refine cm_X4_wordAndWhole (kd_X4_wordAndWhole h) h (fun x20 x21 hp h g22 g23 => ?_)
  have h := h g22 g23
  have K := kd5_tr K hp.2
  refine ⟨?_, ?_⟩
  · intro c24
    have h := h.1 c24
    intro x26 e25
    have h := h x26 e25
    obtain ⟨c27, h⟩ := h
    refine ⟨c27, ?_⟩
    have n28 := kd5_ne K c27
    intro x30 e29
    have h := h x30 e29
    have K := kd5_I K e29 n28 (by decide)
    refine cm_X4_wordAndWhole (kd_X4_wordAndWhole h) h (fun x31 x32 hp h g33 g34 => ?_)
    have h := h g33 g34
    have K := kd5_tr K hp.2
    refine ⟨?_, ?_⟩
    · intro c35
      have h := h.1 c35
      intro x37 e36
      have h := h x37 e36
      intro x39 e38
      have h := h x39 e38
      have K := kd5_I K e38 n28 (by decide)
      refine cm_X4_word (kd_X4_word h) h (fun x40 x41 hp h g42 g43 => ?_)
      have h := h g42 g43
      have K := kd5_tr K hp.2
      refine ⟨?_, ?_⟩
      · intro c44
        have h := h.1 c44
        exact ⟨h, K⟩
      · intro c45
        have h := h.2 c45
        refine cm_X4_side (kd_X4_side h) h (fun x46 x47 hp h g48 g49 => ?_)
        have h := h g48 g49
        have K := kd5_tr K hp.2
        refine ⟨?_, ?_⟩
        · intro c50
          have h := h.1 c50
          intro x52 e51
          have h := h x52 e51
          intro x54 e53
          have h := h x54 e53
          have K := kd5_I K e53 n28 (by decide)
          refine cm_X4_whole (kd_X4_whole h) h (fun x55 x56 hp h g57 g58 => ?_)
          have h := h g57 g58
          have K := kd5_tr K hp.2
          refine ⟨?_, ?_⟩
          · intro c59
            have h := h.1 c59
            intro x61 e60
            have h := h x61 e60
            intro x63 e62
            have h := h x63 e62
            have K := kd5_I K e62 n28 (by decide)
            refine cm_X4_wordAndWhole (kd_X4_wordAndWhole h) h (fun x64 x65 hp h g66 g67 => ?_)
            have h := h g66 g67
            have K := kd5_tr K hp.2
            refine ⟨?_, ?_⟩
            · intro c68
              have h := h.1 c68
              intro x70 e69
              have h := h x70 e69
              intro x72 e71
              have h := h x72 e71
              have K := kd5_I K e71 n28 (by decide)
              obtain ⟨b73, e74, h⟩ := h
              refine ⟨b73, e74, ?_⟩
              obtain ⟨c75, h⟩ := h
              refine ⟨c75, ?_⟩
              have n76 := kd5_ne K c75
              intro x78 e77
              have h := h x78 e77
              intro x80 e79
              have h := h x80 e79
              intro x82 e81
              have h := h x82 e81
              have K := kd5_I K e81 n76 (by decide)
              exact ⟨h, K⟩
            · intro c83
              have h := h.2 c83
              exact ⟨h, K⟩
          · intro c84
            have h := h.2 c84
            exact ⟨h, K⟩
        · intro c85
          have h := h.2 c85
          exact ⟨h, K⟩
    · intro c86
      have h := h.2 c86
      exact ⟨h, K⟩
  · intro c87
    have h := h.2 c87
    exact ⟨h, K⟩
theorem kd_X4_rainLine {Q : Int32 → HS → Prop} {v0 : Nat} {S : HS} (h : P_X4_rainLine v0 Q S) : P_X4_rainLine v0 (fun r T => Q r T ∧ KD5 S T) S := kd_X4_rainLine_0 h (kd5_rf S)
set_option maxRecDepth 20000 in
set_option maxHeartbeats 1000000 in
theorem kd_X4_roadLine_130 {Q : Int32 → HS → Prop} {v0 : Nat} {S0 S : HS} (h : P_X4_roadLine_130 Q v0 S) (K : KD5 S0 S) : P_X4_roadLine_130 (fun r T => Q r T ∧ KD5 S0 T) v0 S := by
  delta P_X4_roadLine_130 at h ⊢
  obtain ⟨c1, h⟩ := h
  refine ⟨c1, ?_⟩
  have n2 := kd5_ne K c1
  obtain ⟨b3, e4, h⟩ := h
  refine ⟨b3, e4, ?_⟩
  obtain ⟨c5, h⟩ := h
  refine ⟨c5, ?_⟩
  have n6 := kd5_ne K c5
  intro x8 e7
  have h := h x8 e7
  intro x10 e9
  have h := h x10 e9
  intro x12 e11
  have h := h x12 e11
  have K := kd5_I K e11 n6 (by decide)
  exact ⟨h, K⟩
set_option maxRecDepth 20000 in
set_option maxHeartbeats 1000000 in
theorem kd_X4_roadLine_0 {Q : Int32 → HS → Prop} {v0 : Nat} {S0 S : HS} (h : P_X4_roadLine_0 Q v0 S) (K : KD5 S0 S) : P_X4_roadLine_0 (fun r T => Q r T ∧ KD5 S0 T) v0 S := by
  delta P_X4_roadLine_0 at h ⊢
  obtain ⟨c1, h⟩ := h
  refine ⟨c1, ?_⟩
  have n2 := kd5_ne K c1
  obtain ⟨b3, e4, h⟩ := h
  refine ⟨b3, e4, ?_⟩
  obtain ⟨c5, h⟩ := h
  refine ⟨c5, ?_⟩
  have n6 := kd5_ne K c5
  obtain ⟨b7, e8, h⟩ := h
  refine ⟨b7, e8, ?_⟩
  obtain ⟨b9, e10, h⟩ := h
  refine ⟨b9, e10, ?_⟩
  obtain ⟨c11, h⟩ := h
  refine ⟨c11, ?_⟩
  have n12 := kd5_ne K c11
  intro x14 e13
  have h := h x14 e13
  obtain ⟨c15, h⟩ := h
  refine ⟨c15, ?_⟩
  have n16 := kd5_ne K c15
  obtain ⟨c17, h⟩ := h
  refine ⟨c17, ?_⟩
  obtain ⟨b18, e19, h⟩ := h
  refine ⟨b18, e19, ?_⟩
  refine cm_X4_placeBut (kd_X4_placeBut h) h (fun x20 x21 hp h g22 g23 => ?_)
  have h := h g22 g23
  have K := kd5_tr K hp.2
  refine ⟨?_, ?_⟩
  · intro c24
    have h := h.1 c24
    intro x26 e25
    have h := h x26 e25
    obtain ⟨c27, h⟩ := h
    refine ⟨c27, ?_⟩
    have n28 := kd5_ne K c27
    intro x30 e29
    have h := h x30 e29
    have K := kd5_I K e29 n28 (by decide)
    refine cm_X4_side (kd_X4_side h) h (fun x31 x32 hp h g33 g34 => ?_)
    have h := h g33 g34
    have K := kd5_tr K hp.2
    refine ⟨?_, ?_⟩
    · intro c35
      have h := h.1 c35
      intro x37 e36
      have h := h x37 e36
      intro x39 e38
      have h := h x39 e38
      have K := kd5_I K e38 n28 (by decide)
      refine cm_X4_whole (kd_X4_whole h) h (fun x40 x41 hp h g42 g43 => ?_)
      have h := h g42 g43
      have K := kd5_tr K hp.2
      refine ⟨?_, ?_⟩
      · intro c44
        have h := h.1 c44
        intro x46 e45
        have h := h x46 e45
        intro x48 e47
        have h := h x48 e47
        have K := kd5_I K e47 n28 (by decide)
        intro x50 e49
        have h := h x50 e49
        refine cm_X4_placeBut (kd_X4_placeBut h) h (fun x51 x52 hp h g53 g54 => ?_)
        have h := h g53 g54
        have K := kd5_tr K hp.2
        refine ⟨?_, ?_⟩
        · intro c55
          have h := h.1 c55
          intro x57 e56
          have h := h x57 e56
          intro x59 e58
          have h := h x59 e58
          have K := kd5_I K e58 n28 (by decide)
          intro x61 e60
          have h := h x61 e60
          have K := kd5_I K e60 n28 (by decide)
          refine cm_X4_is (kd_X4_is h) h (fun x62 x63 hp h g64 g65 => ?_)
          have h := h g64 g65
          have K := kd5_tr K hp.2
          refine ⟨?_, ?_⟩
          · intro c66
            have h := h.1 c66
            exact kd_X4_roadLine_130 h K
          · intro c67
            have h := h.2 c67
            intro x69 e68
            have h := h x69 e68
            refine cm_X4_wordAndWhole (kd_X4_wordAndWhole h) h (fun x70 x71 hp h g72 g73 => ?_)
            have h := h g72 g73
            have K := kd5_tr K hp.2
            refine ⟨?_, ?_⟩
            · intro c74
              have h := h.1 c74
              intro x76 e75
              have h := h x76 e75
              intro x78 e77
              have h := h x78 e77
              have K := kd5_I K e77 n28 (by decide)
              exact kd_X4_roadLine_130 h K
            · intro c79
              have h := h.2 c79
              exact ⟨h, K⟩
        · intro c80
          have h := h.2 c80
          exact ⟨h, K⟩
      · intro c81
        have h := h.2 c81
        exact ⟨h, K⟩
    · intro c82
      have h := h.2 c82
      exact ⟨h, K⟩
  · intro c83
    have h := h.2 c83
    exact ⟨h, K⟩
theorem kd_X4_roadLine {Q : Int32 → HS → Prop} {v0 : Nat} {S : HS} (h : P_X4_roadLine v0 Q S) : P_X4_roadLine v0 (fun r T => Q r T ∧ KD5 S T) S := kd_X4_roadLine_0 h (kd5_rf S)
set_option maxRecDepth 20000 in
set_option maxHeartbeats 1000000 in
theorem kd_X4_sign_0 {Q : Int32 → HS → Prop} {v0 : Nat} {v1 : Int32} {S0 S : HS} (h : P_X4_sign_0 Q v0 v1 S) (K : KD5 S0 S) : P_X4_sign_0 (fun r T => Q r T ∧ KD5 S0 T) v0 v1 S := by
  delta P_X4_sign_0 at h ⊢
  obtain ⟨c1, h⟩ := h
  refine ⟨c1, ?_⟩
  have n2 := kd5_ne K c1
  intro x4 e3
  have h := h x4 e3
  refine ⟨?_, ?_⟩
  · intro c5
    have h := h.1 c5
    refine cm_X4_next (kd_X4_next h) h (fun x6 hp h g7 => ?_)
    have h := h g7
    have K := kd5_tr K hp.2
    exact ⟨h, K⟩
  · intro c8
    have h := h.2 c8
    refine cm_X4_fail (kd_X4_fail h) h (fun x9 x10 hp h g11 g12 => ?_)
    have h := h g11 g12
    have K := kd5_tr K hp.2
    obtain ⟨c13, h⟩ := h
    refine ⟨c13, ?_⟩
    exact ⟨h, K⟩
theorem kd_X4_sign {Q : Int32 → HS → Prop} {v0 : Nat} {v1 : Int32} {S : HS} (h : P_X4_sign v0 v1 Q S) : P_X4_sign v0 v1 (fun r T => Q r T ∧ KD5 S T) S := kd_X4_sign_0 h (kd5_rf S)
set_option maxRecDepth 20000 in
set_option maxHeartbeats 1000000 in
theorem kd_X4_someWalker_0 {Q : Int32 → HS → Prop} {v0 : Nat} {S0 S : HS} (h : P_X4_someWalker_0 Q v0 S) (K : KD5 S0 S) : P_X4_someWalker_0 (fun r T => Q r T ∧ KD5 S0 T) v0 S := by
  delta P_X4_someWalker_0 at h ⊢
  obtain ⟨c1, h⟩ := h
  refine ⟨c1, ?_⟩
  have n2 := kd5_ne K c1
  refine cm_X4_canBeName (kd_X4_canBeName h) h (fun x3 x4 hp h g5 g6 => ?_)
  have h := h g5 g6
  have K := kd5_tr K hp.2
  refine ⟨?_, ?_⟩
  · intro c7
    have h := h.1 c7
    refine cm_X4_findName (kd_X4_findName h) h (fun x8 x9 hp h g10 => ?_)
    have h := h g10
    have K := kd5_tr K hp.2
    refine ⟨?_, ?_⟩
    · intro c11
      have h := h.1 c11
      intro x13 e12
      have h := h x13 e12
      intro x15 e14
      have h := h x15 e14
      have K := kd5_I K e14 n2 (by decide)
      refine cm_X4_next (kd_X4_next h) h (fun x16 hp h g17 => ?_)
      have h := h g17
      have K := kd5_tr K hp.2
      exact ⟨h, K⟩
    · intro c18
      have h := h.2 c18
      refine cm_X4_fail (kd_X4_fail h) h (fun x19 x20 hp h g21 g22 => ?_)
      have h := h g21 g22
      have K := kd5_tr K hp.2
      obtain ⟨c23, h⟩ := h
      refine ⟨c23, ?_⟩
      exact ⟨h, K⟩
  · intro c24
    have h := h.2 c24
    refine cm_X4_fail (kd_X4_fail h) h (fun x25 x26 hp h g27 g28 => ?_)
    have h := h g27 g28
    have K := kd5_tr K hp.2
    obtain ⟨c29, h⟩ := h
    refine ⟨c29, ?_⟩
    exact ⟨h, K⟩
theorem kd_X4_someWalker {Q : Int32 → HS → Prop} {v0 : Nat} {S : HS} (h : P_X4_someWalker v0 Q S) : P_X4_someWalker v0 (fun r T => Q r T ∧ KD5 S T) S := kd_X4_someWalker_0 h (kd5_rf S)
set_option maxRecDepth 20000 in
set_option maxHeartbeats 1000000 in
theorem kd_X4_seenLine_47 {Q : Int32 → HS → Prop} {X30 X30_2 : Nat → Int32 → HS → Prop} {v0 : Nat} {v1 : Int32} {S0 S : HS} (h : P_X4_seenLine_47 Q X30 v0 v1 S) (K : KD5 S0 S) (hX30 : ∀ (u0 : Nat) (u1 : Int32) (u2 : HS), X30 u0 u1 u2 → KD5 S0 u2 → X30_2 u0 u1 u2) : P_X4_seenLine_47 (fun r T => Q r T ∧ KD5 S0 T) X30_2 v0 v1 S := by
  delta P_X4_seenLine_47 at h ⊢
  obtain ⟨c1, h⟩ := h
  refine ⟨c1, ?_⟩
  have n2 := kd5_ne K c1
  refine cm_X4_whole (kd_X4_whole h) h (fun x3 x4 hp h g5 g6 => ?_)
  have h := h g5 g6
  have K := kd5_tr K hp.2
  refine ⟨?_, ?_⟩
  · intro c7
    have h := h.1 c7
    obtain ⟨b8, e9, h⟩ := h
    refine ⟨b8, e9, ?_⟩
    obtain ⟨c10, h⟩ := h
    refine ⟨c10, ?_⟩
    have n11 := kd5_ne K c10
    obtain ⟨b12, e13, h⟩ := h
    refine ⟨b12, e13, ?_⟩
    obtain ⟨b14, e15, h⟩ := h
    refine ⟨b14, e15, ?_⟩
    obtain ⟨c16, h⟩ := h
    refine ⟨c16, ?_⟩
    have n17 := kd5_ne K c16
    intro x19 e18
    have h := h x19 e18
    intro x21 e20
    have h := h x21 e20
    obtain ⟨c22, h⟩ := h
    refine ⟨c22, ?_⟩
    have n23 := kd5_ne K c22
    obtain ⟨c24, h⟩ := h
    refine ⟨c24, ?_⟩
    intro x26 e25
    have h := h x26 e25
    have K := kd5_A K e25 n23 (by decide)
    intro x28 e27
    have h := h x28 e27
    exact hX30 _ _ _ h K
  · intro c29
    have h := h.2 c29
    exact ⟨h, K⟩
set_option maxRecDepth 20000 in
set_option maxHeartbeats 1000000 in
theorem kdB_X4_seenLine_30 {Q : Int32 → HS → Prop} {X30 X30_2 : Nat → Int32 → HS → Prop} {v0 : Nat} {v1 : Int32} {S0 S : HS} (h : B_X4_seenLine_30 Q X30 v0 v1 S) (K : KD5 S0 S) (hX30 : ∀ (u0 : Nat) (u1 : Int32) (u2 : HS), X30 u0 u1 u2 → KD5 S0 u2 → X30_2 u0 u1 u2) : B_X4_seenLine_30 (fun r T => Q r T ∧ KD5 S0 T) X30_2 v0 v1 S := by
  delta B_X4_seenLine_30 at h ⊢
  refine ⟨?_, ?_⟩
  · intro c1
    have h := h.1 c1
    obtain ⟨c2, h⟩ := h
    refine ⟨c2, ?_⟩
    have n3 := kd5_ne K c2
    obtain ⟨b4, e5, h⟩ := h
    refine ⟨b4, e5, ?_⟩
    obtain ⟨c6, h⟩ := h
    refine ⟨c6, ?_⟩
    have n7 := kd5_ne K c6
    intro x9 e8
    have h := h x9 e8
    intro x11 e10
    have h := h x11 e10
    intro x13 e12
    have h := h x13 e12
    have K := kd5_I K e12 n7 (by decide)
    exact ⟨h, K⟩
  · intro c14
    have h := h.2 c14
    refine ⟨?_, ?_⟩
    · intro c15
      have h := h.1 c15
      exact kd_X4_seenLine_47 h K hX30
    · intro c16
      have h := h.2 c16
      obtain ⟨c17, h⟩ := h
      refine ⟨c17, ?_⟩
      have n18 := kd5_ne K c17
      refine cm_X4_sign (kd_X4_sign h) h (fun x19 x20 hp h g21 g22 => ?_)
      have h := h g21 g22
      have K := kd5_tr K hp.2
      refine ⟨?_, ?_⟩
      · intro c23
        have h := h.1 c23
        exact ⟨h, K⟩
      · intro c24
        have h := h.2 c24
        exact kd_X4_seenLine_47 h K hX30
theorem kd_X4_seenLine_30 {Q : Int32 → HS → Prop} {v0 : Nat} {v1 : Int32} {S0 S : HS} (h : P_X4_seenLine_30 Q v0 v1 S) (K : KD5 S0 S) : P_X4_seenLine_30 (fun r T => Q r T ∧ KD5 S0 T) v0 v1 S := h (fun v0 v1 S => KD5 S0 S → P_X4_seenLine_30 (fun r T => Q r T ∧ KD5 S0 T) v0 v1 S) (fun v0 v1 S hB K => fd_X4_seenLine_30 (kdB_X4_seenLine_30 hB K (fun _ _ _ hx K => hx K))) K
set_option maxRecDepth 20000 in
set_option maxHeartbeats 1000000 in
theorem kd_X4_seenLine_0 {Q : Int32 → HS → Prop} {v0 : Nat} {S0 S : HS} (h : P_X4_seenLine_0 Q v0 S) (K : KD5 S0 S) : P_X4_seenLine_0 (fun r T => Q r T ∧ KD5 S0 T) v0 S := by
  delta P_X4_seenLine_0 at h ⊢
  obtain ⟨c1, h⟩ := h
  refine ⟨c1, ?_⟩
  have n2 := kd5_ne K c1
  refine cm_X4_someWalker (kd_X4_someWalker h) h (fun x3 x4 hp h g5 g6 => ?_)
  have h := h g5 g6
  have K := kd5_tr K hp.2
  refine ⟨?_, ?_⟩
  · intro c7
    have h := h.1 c7
    obtain ⟨b8, e9, h⟩ := h
    refine ⟨b8, e9, ?_⟩
    obtain ⟨c10, h⟩ := h
    refine ⟨c10, ?_⟩
    have n11 := kd5_ne K c10
    obtain ⟨b12, e13, h⟩ := h
    refine ⟨b12, e13, ?_⟩
    obtain ⟨b14, e15, h⟩ := h
    refine ⟨b14, e15, ?_⟩
    obtain ⟨c16, h⟩ := h
    refine ⟨c16, ?_⟩
    have n17 := kd5_ne K c16
    intro x19 e18
    have h := h x19 e18
    intro x21 e20
    have h := h x21 e20
    obtain ⟨c22, h⟩ := h
    refine ⟨c22, ?_⟩
    have n23 := kd5_ne K c22
    obtain ⟨c24, h⟩ := h
    refine ⟨c24, ?_⟩
    intro x26 e25
    have h := h x26 e25
    have K := kd5_A K e25 n23 (by decide)
    exact kd_X4_seenLine_30 h K
  · intro c27
    have h := h.2 c27
    exact ⟨h, K⟩
theorem kd_X4_seenLine {Q : Int32 → HS → Prop} {v0 : Nat} {S : HS} (h : P_X4_seenLine v0 Q S) : P_X4_seenLine v0 (fun r T => Q r T ∧ KD5 S T) S := kd_X4_seenLine_0 h (kd5_rf S)
set_option maxRecDepth 20000 in
set_option maxHeartbeats 1000000 in
theorem kd_X4_walkerLine_0 {Q : Int32 → HS → Prop} {v0 : Nat} {S0 S : HS} (h : P_X4_walkerLine_0 Q v0 S) (K : KD5 S0 S) : P_X4_walkerLine_0 (fun r T => Q r T ∧ KD5 S0 T) v0 S := by
  delta P_X4_walkerLine_0 at h ⊢
  obtain ⟨c1, h⟩ := h
  refine ⟨c1, ?_⟩
  have n2 := kd5_ne K c1
  obtain ⟨b3, e4, h⟩ := h
  refine ⟨b3, e4, ?_⟩
  obtain ⟨c5, h⟩ := h
  refine ⟨c5, ?_⟩
  have n6 := kd5_ne K c5
  obtain ⟨b7, e8, h⟩ := h
  refine ⟨b7, e8, ?_⟩
  obtain ⟨b9, e10, h⟩ := h
  refine ⟨b9, e10, ?_⟩
  obtain ⟨c11, h⟩ := h
  refine ⟨c11, ?_⟩
  have n12 := kd5_ne K c11
  intro x14 e13
  have h := h x14 e13
  obtain ⟨c15, h⟩ := h
  refine ⟨c15, ?_⟩
  have n16 := kd5_ne K c15
  obtain ⟨c17, h⟩ := h
  refine ⟨c17, ?_⟩
  obtain ⟨b18, e19, h⟩ := h
  refine ⟨b18, e19, ?_⟩
  obtain ⟨b20, e21, h⟩ := h
  refine ⟨b20, e21, ?_⟩
  obtain ⟨c22, h⟩ := h
  refine ⟨c22, ?_⟩
  have n23 := kd5_ne K c22
  intro x25 e24
  have h := h x25 e24
  refine cm_X4_newName (kd_X4_newName h) h (fun x26 x27 hp h g28 g29 => ?_)
  have h := h g28 g29
  have K := kd5_tr K hp.2
  refine ⟨?_, ?_⟩
  · intro c30
    have h := h.1 c30
    exact ⟨h, K⟩
  · intro c31
    have h := h.2 c31
    refine cm_X4_kindOf (kd_X4_kindOf h) h (fun x32 x33 hp h g34 g35 => ?_)
    have h := h g34 g35
    have K := kd5_tr K hp.2
    refine ⟨?_, ?_⟩
    · intro c36
      have h := h.1 c36
      exact ⟨h, K⟩
    · intro c37
      have h := h.2 c37
      refine cm_X4_bodyOf (kd_X4_bodyOf h) h (fun x38 x39 hp h g40 g41 => ?_)
      have h := h g40 g41
      have K := kd5_tr K hp.2
      refine ⟨?_, ?_⟩
      · intro c42
        have h := h.1 c42
        refine cm_X4_wordAndWhole (kd_X4_wordAndWhole h) h (fun x43 x44 hp h g45 g46 => ?_)
        have h := h g45 g46
        have K := kd5_tr K hp.2
        refine ⟨?_, ?_⟩
        · intro c47
          have h := h.1 c47
          intro x49 e48
          have h := h x49 e48
          obtain ⟨c50, h⟩ := h
          refine ⟨c50, ?_⟩
          have n51 := kd5_ne K c50
          intro x53 e52
          have h := h x53 e52
          have K := kd5_I K e52 n51 (by decide)
          intro x55 e54
          have h := h x55 e54
          refine cm_X4_wordAndWhole (kd_X4_wordAndWhole h) h (fun x56 x57 hp h g58 g59 => ?_)
          have h := h g58 g59
          have K := kd5_tr K hp.2
          refine ⟨?_, ?_⟩
          · intro c60
            have h := h.1 c60
            intro x62 e61
            have h := h x62 e61
            intro x64 e63
            have h := h x64 e63
            have K := kd5_I K e63 n51 (by decide)
            obtain ⟨b65, e66, h⟩ := h
            refine ⟨b65, e66, ?_⟩
            obtain ⟨c67, h⟩ := h
            refine ⟨c67, ?_⟩
            have n68 := kd5_ne K c67
            intro x70 e69
            have h := h x70 e69
            intro x72 e71
            have h := h x72 e71
            intro x74 e73
            have h := h x74 e73
            have K := kd5_I K e73 n68 (by decide)
            exact ⟨h, K⟩
          · intro c75
            have h := h.2 c75
            exact ⟨h, K⟩
        · intro c76
          have h := h.2 c76
          exact ⟨h, K⟩
      · intro c77
        have h := h.2 c77
        exact ⟨h, K⟩
theorem kd_X4_walkerLine {Q : Int32 → HS → Prop} {v0 : Nat} {S : HS} (h : P_X4_walkerLine v0 Q S) : P_X4_walkerLine v0 (fun r T => Q r T ∧ KD5 S T) S := kd_X4_walkerLine_0 h (kd5_rf S)
set_option maxRecDepth 20000 in
set_option maxHeartbeats 1000000 in
theorem kd_X4_worldLine_0 {Q : Int32 → HS → Prop} {v0 : Nat} {S0 S : HS} (h : P_X4_worldLine_0 Q v0 S) (K : KD5 S0 S) : P_X4_worldLine_0 (fun r T => Q r T ∧ KD5 S0 T) v0 S := by
  delta P_X4_worldLine_0 at h ⊢
  obtain ⟨c1, h⟩ := h
  refine ⟨c1, ?_⟩
  have n2 := kd5_ne K c1
  obtain ⟨b3, e4, h⟩ := h
  refine ⟨b3, e4, ?_⟩
  obtain ⟨c5, h⟩ := h
  refine ⟨c5, ?_⟩
  have n6 := kd5_ne K c5
  refine cm_X8_isTold (kd_X8_isTold h) h (fun x7 x8 hp h g9 g10 => ?_)
  have h := h g9 g10
  have K := kd5_tr K hp.2
  refine ⟨?_, ?_⟩
  · intro c11
    have h := h.1 c11
    refine cm_X4_next (kd_X4_next h) h (fun x12 hp h g13 => ?_)
    have h := h g13
    have K := kd5_tr K hp.2
    refine cm_X4_wordAndWhole (kd_X4_wordAndWhole h) h (fun x14 x15 hp h g16 g17 => ?_)
    have h := h g16 g17
    have K := kd5_tr K hp.2
    refine ⟨?_, ?_⟩
    · intro c18
      have h := h.1 c18
      obtain ⟨b19, e20, h⟩ := h
      refine ⟨b19, e20, ?_⟩
      intro x22 e21
      have h := h x22 e21
      obtain ⟨c23, h⟩ := h
      refine ⟨c23, ?_⟩
      have n24 := kd5_ne K c23
      intro x26 e25
      have h := h x26 e25
      have K := kd5_I K e25 n24 (by decide)
      exact ⟨h, K⟩
    · intro c27
      have h := h.2 c27
      exact ⟨h, K⟩
  · intro c28
    have h := h.2 c28
    refine cm_X4_fail (kd_X4_fail h) h (fun x29 x30 hp h g31 g32 => ?_)
    have h := h g31 g32
    have K := kd5_tr K hp.2
    obtain ⟨c33, h⟩ := h
    refine ⟨c33, ?_⟩
    exact ⟨h, K⟩
theorem kd_X4_worldLine {Q : Int32 → HS → Prop} {v0 : Nat} {S : HS} (h : P_X4_worldLine v0 Q S) : P_X4_worldLine v0 (fun r T => Q r T ∧ KD5 S T) S := kd_X4_worldLine_0 h (kd5_rf S)
set_option maxRecDepth 20000 in
set_option maxHeartbeats 1000000 in
theorem kd_X4_read_280 {Q : Int32 → HS → Prop} {v0 : Nat} {S0 S : HS} (h : P_X4_read_280 Q v0 S) (K : KD5 S0 S) : P_X4_read_280 (fun r T => Q r T ∧ KD5 S0 T) v0 S := by
  delta P_X4_read_280 at h ⊢
  obtain ⟨c1, h⟩ := h
  refine ⟨c1, ?_⟩
  have n2 := kd5_ne K c1
  refine cm_X4_fail (kd_X4_fail h) h (fun x3 x4 hp h g5 g6 => ?_)
  have h := h g5 g6
  have K := kd5_tr K hp.2
  refine ⟨?_, ?_⟩
  · intro c7
    have h := h.1 c7
    exact ⟨h, K⟩
  · intro c8
    have h := h.2 c8
    exact ⟨h, K⟩
set_option maxRecDepth 20000 in
set_option maxHeartbeats 1000000 in
theorem kd_X4_read_295 {Q : Int32 → HS → Prop} {X8 X8_2 : Nat → Int32 → HS → Prop} {v0 : Nat} {v3 : Int32} {v4 : Int32} {S0 S : HS} (h : P_X4_read_295 Q X8 v0 v3 v4 S) (K : KD5 S0 S) (hX8 : ∀ (u0 : Nat) (u1 : Int32) (u2 : HS), X8 u0 u1 u2 → KD5 S0 u2 → X8_2 u0 u1 u2) : P_X4_read_295 (fun r T => Q r T ∧ KD5 S0 T) X8_2 v0 v3 v4 S := by
  delta P_X4_read_295 at h ⊢
  refine ⟨?_, ?_⟩
  · intro c1
    have h := h.1 c1
    exact ⟨h, K⟩
  · intro c2
    have h := h.2 c2
    obtain ⟨c3, h⟩ := h
    refine ⟨c3, ?_⟩
    have n4 := kd5_ne K c3
    refine cm_X4_sign (kd_X4_sign h) h (fun x5 x6 hp h g7 g8 => ?_)
    have h := h g7 g8
    have K := kd5_tr K hp.2
    refine ⟨?_, ?_⟩
    · intro c9
      have h := h.1 c9
      intro x11 e10
      have h := h x11 e10
      exact hX8 _ _ _ h K
    · intro c12
      have h := h.2 c12
      exact ⟨h, K⟩
set_option maxRecDepth 20000 in
set_option maxHeartbeats 1000000 in
theorem kd_X4_read_248 {Q : Int32 → HS → Prop} {X8 X8_2 : Nat → Int32 → HS → Prop} {v0 : Nat} {v3 : Int32} {v4 : Int32} {S0 S : HS} (h : P_X4_read_248 Q X8 v0 v3 v4 S) (K : KD5 S0 S) (hX8 : ∀ (u0 : Nat) (u1 : Int32) (u2 : HS), X8 u0 u1 u2 → KD5 S0 u2 → X8_2 u0 u1 u2) : P_X4_read_248 (fun r T => Q r T ∧ KD5 S0 T) X8_2 v0 v3 v4 S := by
  delta P_X4_read_248 at h ⊢
  refine ⟨?_, ?_⟩
  · intro c1
    have h := h.1 c1
    exact kd_X4_read_295 h K hX8
  · intro c2
    have h := h.2 c2
    obtain ⟨c3, h⟩ := h
    refine ⟨c3, ?_⟩
    have n4 := kd5_ne K c3
    intro x6 e5
    have h := h x6 e5
    refine ⟨?_, ?_⟩
    · intro c7
      have h := h.1 c7
      exact kd_X4_read_295 h K hX8
    · intro c8
      have h := h.2 c8
      obtain ⟨b9, e10, h⟩ := h
      refine ⟨b9, e10, ?_⟩
      obtain ⟨c11, h⟩ := h
      refine ⟨c11, ?_⟩
      have n12 := kd5_ne K c11
      intro x14 e13
      have h := h x14 e13
      refine ⟨?_, ?_⟩
      · intro c15
        have h := h.1 c15
        exact kd_X4_read_280 h K
      · intro c16
        have h := h.2 c16
        obtain ⟨b17, e18, h⟩ := h
        refine ⟨b17, e18, ?_⟩
        obtain ⟨c19, h⟩ := h
        refine ⟨c19, ?_⟩
        have n20 := kd5_ne K c19
        intro x22 e21
        have h := h x22 e21
        refine ⟨?_, ?_⟩
        · intro c23
          have h := h.1 c23
          exact ⟨h, K⟩
        · intro c24
          have h := h.2 c24
          exact kd_X4_read_280 h K
set_option maxRecDepth 20000 in
set_option maxHeartbeats 1000000 in
theorem kd_X4_read_70 {Q : Int32 → HS → Prop} {X8 X8_2 : Nat → Int32 → HS → Prop} {v0 : Nat} {v3 : Int32} {s0 : Int32} {S0 S : HS} (h : P_X4_read_70 Q X8 v0 v3 s0 S) (K : KD5 S0 S) (hX8 : ∀ (u0 : Nat) (u1 : Int32) (u2 : HS), X8 u0 u1 u2 → KD5 S0 u2 → X8_2 u0 u1 u2) : P_X4_read_70 (fun r T => Q r T ∧ KD5 S0 T) X8_2 v0 v3 s0 S := by
  delta P_X4_read_70 at h ⊢
  exact kd_X4_read_248 h K hX8
set_option maxRecDepth 20000 in
set_option maxHeartbeats 1000000 in
theorem kd_X4_read_69 {Q : Int32 → HS → Prop} {X8 X8_2 : Nat → Int32 → HS → Prop} {v0 : Nat} {v3 : Int32} {S0 S : HS} (h : P_X4_read_69 Q X8 v0 v3 S) (K : KD5 S0 S) (hX8 : ∀ (u0 : Nat) (u1 : Int32) (u2 : HS), X8 u0 u1 u2 → KD5 S0 u2 → X8_2 u0 u1 u2) : P_X4_read_69 (fun r T => Q r T ∧ KD5 S0 T) X8_2 v0 v3 S := by
  delta P_X4_read_69 at h ⊢
  exact kd_X4_read_70 h K hX8
set_option maxRecDepth 20000 in
set_option maxHeartbeats 1000000 in
theorem kd_X4_read_112 {Q : Int32 → HS → Prop} {X8 X8_2 : Nat → Int32 → HS → Prop} {v0 : Nat} {v3 : Int32} {s0 : Int32} {S0 S : HS} (h : P_X4_read_112 Q X8 v0 v3 s0 S) (K : KD5 S0 S) (hX8 : ∀ (u0 : Nat) (u1 : Int32) (u2 : HS), X8 u0 u1 u2 → KD5 S0 u2 → X8_2 u0 u1 u2) : P_X4_read_112 (fun r T => Q r T ∧ KD5 S0 T) X8_2 v0 v3 s0 S := by
  delta P_X4_read_112 at h ⊢
  exact kd_X4_read_248 h K hX8
set_option maxRecDepth 20000 in
set_option maxHeartbeats 1000000 in
theorem kd_X4_read_111 {Q : Int32 → HS → Prop} {X8 X8_2 : Nat → Int32 → HS → Prop} {v0 : Nat} {v3 : Int32} {S0 S : HS} (h : P_X4_read_111 Q X8 v0 v3 S) (K : KD5 S0 S) (hX8 : ∀ (u0 : Nat) (u1 : Int32) (u2 : HS), X8 u0 u1 u2 → KD5 S0 u2 → X8_2 u0 u1 u2) : P_X4_read_111 (fun r T => Q r T ∧ KD5 S0 T) X8_2 v0 v3 S := by
  delta P_X4_read_111 at h ⊢
  exact kd_X4_read_112 h K hX8
set_option maxRecDepth 20000 in
set_option maxHeartbeats 1000000 in
theorem kd_X4_read_154 {Q : Int32 → HS → Prop} {X8 X8_2 : Nat → Int32 → HS → Prop} {v0 : Nat} {v3 : Int32} {s0 : Int32} {S0 S : HS} (h : P_X4_read_154 Q X8 v0 v3 s0 S) (K : KD5 S0 S) (hX8 : ∀ (u0 : Nat) (u1 : Int32) (u2 : HS), X8 u0 u1 u2 → KD5 S0 u2 → X8_2 u0 u1 u2) : P_X4_read_154 (fun r T => Q r T ∧ KD5 S0 T) X8_2 v0 v3 s0 S := by
  delta P_X4_read_154 at h ⊢
  exact kd_X4_read_248 h K hX8
set_option maxRecDepth 20000 in
set_option maxHeartbeats 1000000 in
theorem kd_X4_read_153 {Q : Int32 → HS → Prop} {X8 X8_2 : Nat → Int32 → HS → Prop} {v0 : Nat} {v3 : Int32} {S0 S : HS} (h : P_X4_read_153 Q X8 v0 v3 S) (K : KD5 S0 S) (hX8 : ∀ (u0 : Nat) (u1 : Int32) (u2 : HS), X8 u0 u1 u2 → KD5 S0 u2 → X8_2 u0 u1 u2) : P_X4_read_153 (fun r T => Q r T ∧ KD5 S0 T) X8_2 v0 v3 S := by
  delta P_X4_read_153 at h ⊢
  exact kd_X4_read_154 h K hX8
set_option maxRecDepth 20000 in
set_option maxHeartbeats 1000000 in
theorem kd_X4_read_195 {Q : Int32 → HS → Prop} {X8 X8_2 : Nat → Int32 → HS → Prop} {v0 : Nat} {v3 : Int32} {s0 : Int32} {S0 S : HS} (h : P_X4_read_195 Q X8 v0 v3 s0 S) (K : KD5 S0 S) (hX8 : ∀ (u0 : Nat) (u1 : Int32) (u2 : HS), X8 u0 u1 u2 → KD5 S0 u2 → X8_2 u0 u1 u2) : P_X4_read_195 (fun r T => Q r T ∧ KD5 S0 T) X8_2 v0 v3 s0 S := by
  delta P_X4_read_195 at h ⊢
  exact kd_X4_read_248 h K hX8
set_option maxRecDepth 20000 in
set_option maxHeartbeats 1000000 in
theorem kd_X4_read_194 {Q : Int32 → HS → Prop} {X8 X8_2 : Nat → Int32 → HS → Prop} {v0 : Nat} {v3 : Int32} {S0 S : HS} (h : P_X4_read_194 Q X8 v0 v3 S) (K : KD5 S0 S) (hX8 : ∀ (u0 : Nat) (u1 : Int32) (u2 : HS), X8 u0 u1 u2 → KD5 S0 u2 → X8_2 u0 u1 u2) : P_X4_read_194 (fun r T => Q r T ∧ KD5 S0 T) X8_2 v0 v3 S := by
  delta P_X4_read_194 at h ⊢
  exact kd_X4_read_195 h K hX8
set_option maxRecDepth 20000 in
set_option maxHeartbeats 1000000 in
theorem kd_X4_read_236 {Q : Int32 → HS → Prop} {X8 X8_2 : Nat → Int32 → HS → Prop} {v0 : Nat} {v3 : Int32} {s0 : Int32} {S0 S : HS} (h : P_X4_read_236 Q X8 v0 v3 s0 S) (K : KD5 S0 S) (hX8 : ∀ (u0 : Nat) (u1 : Int32) (u2 : HS), X8 u0 u1 u2 → KD5 S0 u2 → X8_2 u0 u1 u2) : P_X4_read_236 (fun r T => Q r T ∧ KD5 S0 T) X8_2 v0 v3 s0 S := by
  delta P_X4_read_236 at h ⊢
  exact kd_X4_read_248 h K hX8
set_option maxRecDepth 20000 in
set_option maxHeartbeats 1000000 in
theorem kd_X4_read_235 {Q : Int32 → HS → Prop} {X8 X8_2 : Nat → Int32 → HS → Prop} {v0 : Nat} {v3 : Int32} {S0 S : HS} (h : P_X4_read_235 Q X8 v0 v3 S) (K : KD5 S0 S) (hX8 : ∀ (u0 : Nat) (u1 : Int32) (u2 : HS), X8 u0 u1 u2 → KD5 S0 u2 → X8_2 u0 u1 u2) : P_X4_read_235 (fun r T => Q r T ∧ KD5 S0 T) X8_2 v0 v3 S := by
  delta P_X4_read_235 at h ⊢
  exact kd_X4_read_236 h K hX8
set_option maxRecDepth 20000 in
set_option maxHeartbeats 1000000 in
theorem kdB_X4_read_8 {Q : Int32 → HS → Prop} {X8 X8_2 : Nat → Int32 → HS → Prop} {v0 : Nat} {v3 : Int32} {S0 S : HS} (h : B_X4_read_8 Q X8 v0 v3 S) (K : KD5 S0 S) (hX8 : ∀ (u0 : Nat) (u1 : Int32) (u2 : HS), X8 u0 u1 u2 → KD5 S0 u2 → X8_2 u0 u1 u2) : B_X4_read_8 (fun r T => Q r T ∧ KD5 S0 T) X8_2 v0 v3 S := by
  delta B_X4_read_8 at h ⊢
  refine ⟨?_, ?_⟩
  · intro c1
    have h := h.1 c1
    obtain ⟨c2, h⟩ := h
    refine ⟨c2, ?_⟩
    have n3 := kd5_ne K c2
    refine cm_X4_fail (kd_X4_fail h) h (fun x4 x5 hp h g6 g7 => ?_)
    have h := h g6 g7
    have K := kd5_tr K hp.2
    obtain ⟨c8, h⟩ := h
    refine ⟨c8, ?_⟩
    exact ⟨h, K⟩
  · intro c9
    have h := h.2 c9
    obtain ⟨c10, h⟩ := h
    refine ⟨c10, ?_⟩
    have n11 := kd5_ne K c10
    refine cm_X4_is (kd_X4_is h) h (fun x12 x13 hp h g14 g15 => ?_)
    have h := h g14 g15
    have K := kd5_tr K hp.2
    refine ⟨?_, ?_⟩
    · intro c16
      have h := h.1 c16
      refine cm_X4_is (kd_X4_is h) h (fun x17 x18 hp h g19 g20 => ?_)
      have h := h g19 g20
      have K := kd5_tr K hp.2
      refine ⟨?_, ?_⟩
      · intro c21
        have h := h.1 c21
        refine cm_X4_is (kd_X4_is h) h (fun x22 x23 hp h g24 g25 => ?_)
        have h := h g24 g25
        have K := kd5_tr K hp.2
        refine ⟨?_, ?_⟩
        · intro c26
          have h := h.1 c26
          refine cm_X4_is (kd_X4_is h) h (fun x27 x28 hp h g29 g30 => ?_)
          have h := h g29 g30
          have K := kd5_tr K hp.2
          refine ⟨?_, ?_⟩
          · intro c31
            have h := h.1 c31
            refine cm_X4_is (kd_X4_is h) h (fun x32 x33 hp h g34 g35 => ?_)
            have h := h g34 g35
            have K := kd5_tr K hp.2
            refine ⟨?_, ?_⟩
            · intro c36
              have h := h.1 c36
              refine cm_X4_is (kd_X4_is h) h (fun x37 x38 hp h g39 g40 => ?_)
              have h := h g39 g40
              have K := kd5_tr K hp.2
              refine ⟨?_, ?_⟩
              · intro c41
                have h := h.1 c41
                refine cm_X4_fail (kd_X4_fail h) h (fun x42 x43 hp h g44 g45 => ?_)
                have h := h g44 g45
                have K := kd5_tr K hp.2
                exact kd_X4_read_248 h K hX8
              · intro c46
                have h := h.2 c46
                obtain ⟨b47, e48, h⟩ := h
                refine ⟨b47, e48, ?_⟩
                obtain ⟨c49, h⟩ := h
                refine ⟨c49, ?_⟩
                have n50 := kd5_ne K c49
                intro x52 e51
                have h := h x52 e51
                refine cm_X4_hasRoom (kd_X4_hasRoom h) h (fun x53 x54 hp h g55 g56 => ?_)
                have h := h g55 g56
                have K := kd5_tr K hp.2
                refine ⟨?_, ?_⟩
                · intro c57
                  have h := h.1 c57
                  exact kd_X4_read_235 h K hX8
                · intro c58
                  have h := h.2 c58
                  refine cm_X4_seenLine (kd_X4_seenLine h) h (fun x59 x60 hp h g61 g62 => ?_)
                  have h := h g61 g62
                  have K := kd5_tr K hp.2
                  refine ⟨?_, ?_⟩
                  · intro c63
                    have h := h.1 c63
                    exact kd_X4_read_235 h K hX8
                  · intro c64
                    have h := h.2 c64
                    exact kd_X4_read_236 h K hX8
            · intro c65
              have h := h.2 c65
              obtain ⟨b66, e67, h⟩ := h
              refine ⟨b66, e67, ?_⟩
              obtain ⟨c68, h⟩ := h
              refine ⟨c68, ?_⟩
              have n69 := kd5_ne K c68
              intro x71 e70
              have h := h x71 e70
              refine cm_X4_hasRoom (kd_X4_hasRoom h) h (fun x72 x73 hp h g74 g75 => ?_)
              have h := h g74 g75
              have K := kd5_tr K hp.2
              refine ⟨?_, ?_⟩
              · intro c76
                have h := h.1 c76
                exact kd_X4_read_194 h K hX8
              · intro c77
                have h := h.2 c77
                refine cm_X4_walkerLine (kd_X4_walkerLine h) h (fun x78 x79 hp h g80 g81 => ?_)
                have h := h g80 g81
                have K := kd5_tr K hp.2
                refine ⟨?_, ?_⟩
                · intro c82
                  have h := h.1 c82
                  exact kd_X4_read_194 h K hX8
                · intro c83
                  have h := h.2 c83
                  exact kd_X4_read_195 h K hX8
          · intro c84
            have h := h.2 c84
            obtain ⟨b85, e86, h⟩ := h
            refine ⟨b85, e86, ?_⟩
            obtain ⟨c87, h⟩ := h
            refine ⟨c87, ?_⟩
            have n88 := kd5_ne K c87
            intro x90 e89
            have h := h x90 e89
            refine cm_X4_hasRoom (kd_X4_hasRoom h) h (fun x91 x92 hp h g93 g94 => ?_)
            have h := h g93 g94
            have K := kd5_tr K hp.2
            refine ⟨?_, ?_⟩
            · intro c95
              have h := h.1 c95
              exact kd_X4_read_153 h K hX8
            · intro c96
              have h := h.2 c96
              refine cm_X4_roadLine (kd_X4_roadLine h) h (fun x97 x98 hp h g99 g100 => ?_)
              have h := h g99 g100
              have K := kd5_tr K hp.2
              refine ⟨?_, ?_⟩
              · intro c101
                have h := h.1 c101
                exact kd_X4_read_153 h K hX8
              · intro c102
                have h := h.2 c102
                exact kd_X4_read_154 h K hX8
        · intro c103
          have h := h.2 c103
          obtain ⟨b104, e105, h⟩ := h
          refine ⟨b104, e105, ?_⟩
          obtain ⟨c106, h⟩ := h
          refine ⟨c106, ?_⟩
          have n107 := kd5_ne K c106
          intro x109 e108
          have h := h x109 e108
          refine cm_X4_hasRoom (kd_X4_hasRoom h) h (fun x110 x111 hp h g112 g113 => ?_)
          have h := h g112 g113
          have K := kd5_tr K hp.2
          refine ⟨?_, ?_⟩
          · intro c114
            have h := h.1 c114
            exact kd_X4_read_111 h K hX8
          · intro c115
            have h := h.2 c115
            refine cm_X4_placeLine (kd_X4_placeLine h) h (fun x116 x117 hp h g118 g119 => ?_)
            have h := h g118 g119
            have K := kd5_tr K hp.2
            refine ⟨?_, ?_⟩
            · intro c120
              have h := h.1 c120
              exact kd_X4_read_111 h K hX8
            · intro c121
              have h := h.2 c121
              exact kd_X4_read_112 h K hX8
      · intro c122
        have h := h.2 c122
        obtain ⟨b123, e124, h⟩ := h
        refine ⟨b123, e124, ?_⟩
        obtain ⟨c125, h⟩ := h
        refine ⟨c125, ?_⟩
        have n126 := kd5_ne K c125
        intro x128 e127
        have h := h x128 e127
        refine cm_X4_hasRoom (kd_X4_hasRoom h) h (fun x129 x130 hp h g131 g132 => ?_)
        have h := h g131 g132
        have K := kd5_tr K hp.2
        refine ⟨?_, ?_⟩
        · intro c133
          have h := h.1 c133
          exact kd_X4_read_69 h K hX8
        · intro c134
          have h := h.2 c134
          refine cm_X4_rainLine (kd_X4_rainLine h) h (fun x135 x136 hp h g137 g138 => ?_)
          have h := h g137 g138
          have K := kd5_tr K hp.2
          refine ⟨?_, ?_⟩
          · intro c139
            have h := h.1 c139
            exact kd_X4_read_69 h K hX8
          · intro c140
            have h := h.2 c140
            exact kd_X4_read_70 h K hX8
    · intro c141
      have h := h.2 c141
      refine cm_X4_worldLine (kd_X4_worldLine h) h (fun x142 x143 hp h g144 g145 => ?_)
      have h := h g144 g145
      have K := kd5_tr K hp.2
      exact kd_X4_read_248 h K hX8
theorem kd_X4_read_8 {Q : Int32 → HS → Prop} {v0 : Nat} {v3 : Int32} {S0 S : HS} (h : P_X4_read_8 Q v0 v3 S) (K : KD5 S0 S) : P_X4_read_8 (fun r T => Q r T ∧ KD5 S0 T) v0 v3 S := h (fun v0 v3 S => KD5 S0 S → P_X4_read_8 (fun r T => Q r T ∧ KD5 S0 T) v0 v3 S) (fun v0 v3 S hB K => fd_X4_read_8 (kdB_X4_read_8 hB K (fun _ _ _ hx K => hx K))) K
set_option maxRecDepth 20000 in
set_option maxHeartbeats 1000000 in
theorem kd_X4_read_0 {Q : Int32 → HS → Prop} {v0 : Nat} {v1 : Nat} {v2 : Int32} {S0 S : HS} (h : P_X4_read_0 Q v0 v1 v2 S) (K : KD5 S0 S) : P_X4_read_0 (fun r T => Q r T ∧ KD5 S0 T) v0 v1 v2 S := by
  delta P_X4_read_0 at h ⊢
  obtain ⟨c1, h⟩ := h
  refine ⟨c1, ?_⟩
  have n2 := kd5_ne K c1
  refine cm_X4_open (kd_X4_open h) h (fun x3 hp h g4 => ?_)
  have h := h g4
  have K := kd5_tr K hp.2
  exact kd_X4_read_8 h K
theorem kd_X4_read {Q : Int32 → HS → Prop} {v0 : Nat} {v1 : Nat} {v2 : Int32} {S : HS} (h : P_X4_read v0 v1 v2 Q S) : P_X4_read v0 v1 v2 (fun r T => Q r T ∧ KD5 S T) S := kd_X4_read_0 h (kd5_rf S)
end
section
/-! the start: what is 0 -/
def ZV (S : HS) : Prop := (∀ x j, fJ S x j = 0) ∧ (∀ x, ob S x 2 → ∀ j, fI S x j = 0) ∧ ∀ x, ob S x 0 → ∀ j, j ≠ 0 → fI S x j = 0
section KVs
variable {T U : HS} {k j x n : Nat}
theorem kzz_I {v : Int32} (h : ZV T) (e : U = sI T x j v) (o : ob T x k) (hk : k ≠ 2 ∧ (k = 0 → j = 0)) : ZV U := by
  rw [e]
  refine ⟨h.1, fun y oy i => ?_, fun y oy i hi => ?_⟩
  · have hne : y ≠ x := fun z => hk.1 (ob_inj o (z ▸ oy))
    exact (congrFun (u2_row _ _ hne) i).trans (h.2.1 y oy i)
  · by_cases z : y = x
    · have k0 : k = 0 := ob_inj o (z ▸ oy)
      exact (u2_ne _ _ (fun q => hi (q.2.trans (hk.2 k0)))).trans (h.2.2 y oy i hi)
    · exact (congrFun (u2_row _ _ z) i).trans (h.2.2 y oy i hi)
theorem kzz_R {v : Option Nat} (h : ZV T) (e : U = sR T x j v) : ZV U := by
  rw [e]
  exact h
theorem kzz_W (h : ZV T) (ha : x ∉ hL T) (e : U = nW T x k n) : ZV U := by
  have r : ∀ y, y ≠ x → fI U y = fI T y ∧ fJ U y = fJ T y := fun y hy => by rw [e]; exact ⟨va_up_ne _ _ hy, va_up_ne _ _ hy⟩
  have z : fI U x = (fun _ => 0) ∧ fJ U x = fun _ => 0 := by rw [e]; exact ⟨va_up_self _ _ _, va_up_self _ _ _⟩
  have b : ∀ {y q}, ob U y q → y ≠ x → ob T y q := fun {y q} oy c => by
    rw [e] at oy
    obtain ⟨o1, o2⟩ := oy
    refine ⟨?_, ?_⟩
    · have o1 : y ∈ hL T ++ [x] := o1
      rcases List.mem_append.mp o1 with q | q
      · exact q
      · exact absurd (List.mem_singleton.mp q) c
    · have o2 : va_up (hK T) x k y = _ := o2
      rw [va_up_ne _ _ c] at o2
      exact o2
  refine ⟨fun y i => ?_, fun y oy i => ?_, fun y oy i hi => ?_⟩
  · by_cases c : y = x
    · rw [c, z.2]
    · rw [(r y c).2]; exact h.1 y i
  · by_cases c : y = x
    · rw [c, z.1]
    · rw [(r y c).1]; exact h.2.1 y (b oy c) i
  · by_cases c : y = x
    · rw [c, z.1]
    · rw [(r y c).1]; exact h.2.2 y (b oy c) i hi
end KVs
set_option maxRecDepth 20000 in
set_option maxHeartbeats 1000000 in
theorem kzz_X2_init_0 {Q : HS → Prop} {v0 : Nat} {S : HS} (h : P_X2_init_0 Q v0 S) (K : ZV S) : P_X2_init_0 (fun T => Q T ∧ ZV T) v0 S := by
  delta P_X2_init_0 at h ⊢
  intro x2 e1
  have h := h x2 e1
  intro x4 e3
  have h := h x4 e3
  have K := kzz_W K e1 e3
  obtain ⟨c5, h⟩ := h
  refine ⟨c5, ?_⟩
  have o6 := c5
  intro x8 e7
  have h := h x8 e7
  have K := kzz_R K e7
  have o6 := ob_wR o6 e7
  exact ⟨h, K⟩
theorem kzz_X2_init {Q : HS → Prop} {v0 : Nat} {S : HS} (h : P_X2_init v0 Q S) (u : ZV S) : P_X2_init v0 (fun T => Q T ∧ ZV T) S := kzz_X2_init_0 h u
set_option maxRecDepth 20000 in
set_option maxHeartbeats 1000000 in
theorem kzzB_X0_init_69 {Q : HS → Prop} {X69 X69_2 : Nat → Int32 → Nat → Nat → HS → Prop} {v0 : Nat} {v1 : Int32} {kk : Nat} {nn : Nat} {S : HS} (h : B_X0_init_69 Q X69 v0 v1 kk nn S) (K : ZV S) (hX69 : ∀ (u0 : Nat) (u1 : Int32) (u2 : Nat) (u3 : Nat) (u4 : HS), X69 u0 u1 u2 u3 u4 → ZV u4 → X69_2 u0 u1 u2 u3 u4) : B_X0_init_69 (fun T => Q T ∧ ZV T) X69_2 v0 v1 kk nn S := by
  delta B_X0_init_69 at h ⊢
  obtain ⟨c1, h⟩ := h
  refine ⟨c1, ?_⟩
  have o2 := c1
  obtain ⟨b3, e4, h⟩ := h
  refine ⟨b3, e4, ?_⟩
  obtain ⟨c5, h⟩ := h
  refine ⟨c5, ?_⟩
  have o6 := c5
  refine ⟨?_, ?_⟩
  · intro c7
    have h := h.1 c7
    obtain ⟨c8, h⟩ := h
    refine ⟨c8, ?_⟩
    obtain ⟨c9, h⟩ := h
    refine ⟨c9, ?_⟩
    exact ⟨h, K⟩
  · intro c10
    have h := h.2 c10
    obtain ⟨b11, e12, h⟩ := h
    refine ⟨b11, e12, ?_⟩
    obtain ⟨c13, h⟩ := h
    refine ⟨c13, ?_⟩
    obtain ⟨c14, h⟩ := h
    refine ⟨c14, ?_⟩
    intro x16 e15
    have h := h x16 e15
    intro x18 e17
    have h := h x18 e17
    have K := kzz_W K e15 e17
    have o2 := gr_ob (gr_of_new e17 e15) o2
    have o6 := gr_ob (gr_of_new e17 e15) o6
    obtain ⟨c19, h⟩ := h
    refine ⟨c19, ?_⟩
    obtain ⟨c20, h⟩ := h
    refine ⟨c20, ?_⟩
    refine cm_X2_init (kzz_X2_init h K) h (fun x21 p23 h g22 => ?_)
    have h := h g22
    have K := p23.2
    have o2 := gr_ob g22 o2
    have o6 := gr_ob g22 o6
    obtain ⟨c24, h⟩ := h
    refine ⟨c24, ?_⟩
    have o25 := c24
    obtain ⟨c26, h⟩ := h
    refine ⟨c26, ?_⟩
    intro x28 e27
    have h := h x28 e27
    have K := kzz_R K e27
    have o2 := ob_wR o2 e27
    have o6 := ob_wR o6 e27
    have o25 := ob_wR o25 e27
    intro x30 e29
    have h := h x30 e29
    exact hX69 _ _ _ _ _ h K
theorem kzz_X0_init_69 {Q : HS → Prop} {v0 : Nat} {v1 : Int32} {kk : Nat} {nn : Nat} {S : HS} (h : P_X0_init_69 Q v0 v1 kk nn S) (K : ZV S) : P_X0_init_69 (fun T => Q T ∧ ZV T) v0 v1 kk nn S := h (fun v0 v1 kk nn S => ZV S → P_X0_init_69 (fun T => Q T ∧ ZV T) v0 v1 kk nn S) (fun v0 v1 kk nn S hB K => fd_X0_init_69 (kzzB_X0_init_69 hB K (fun _ _ _ _ _ hx K => hx K))) K
set_option maxRecDepth 20000 in
set_option maxHeartbeats 1000000 in
theorem kzzB_X0_init_39 {Q : HS → Prop} {X39 X39_2 : Nat → Int32 → Nat → Nat → HS → Prop} {v0 : Nat} {v1 : Int32} {kk : Nat} {nn : Nat} {S : HS} (h : B_X0_init_39 Q X39 v0 v1 kk nn S) (K : ZV S) (hX39 : ∀ (u0 : Nat) (u1 : Int32) (u2 : Nat) (u3 : Nat) (u4 : HS), X39 u0 u1 u2 u3 u4 → ZV u4 → X39_2 u0 u1 u2 u3 u4) : B_X0_init_39 (fun T => Q T ∧ ZV T) X39_2 v0 v1 kk nn S := by
  delta B_X0_init_39 at h ⊢
  obtain ⟨c1, h⟩ := h
  refine ⟨c1, ?_⟩
  have o2 := c1
  obtain ⟨b3, e4, h⟩ := h
  refine ⟨b3, e4, ?_⟩
  obtain ⟨c5, h⟩ := h
  refine ⟨c5, ?_⟩
  have o6 := c5
  refine ⟨?_, ?_⟩
  · intro c7
    have h := h.1 c7
    exact kzz_X0_init_69 h K
  · intro c8
    have h := h.2 c8
    obtain ⟨b9, e10, h⟩ := h
    refine ⟨b9, e10, ?_⟩
    obtain ⟨c11, h⟩ := h
    refine ⟨c11, ?_⟩
    obtain ⟨c12, h⟩ := h
    refine ⟨c12, ?_⟩
    intro x14 e13
    have h := h x14 e13
    intro x16 e15
    have h := h x16 e15
    have K := kzz_W K e13 e15
    have o2 := gr_ob (gr_of_new e15 e13) o2
    have o6 := gr_ob (gr_of_new e15 e13) o6
    obtain ⟨c17, h⟩ := h
    refine ⟨c17, ?_⟩
    obtain ⟨c18, h⟩ := h
    refine ⟨c18, ?_⟩
    refine cm_X2_init (kzz_X2_init h K) h (fun x19 p21 h g20 => ?_)
    have h := h g20
    have K := p21.2
    have o2 := gr_ob g20 o2
    have o6 := gr_ob g20 o6
    obtain ⟨c22, h⟩ := h
    refine ⟨c22, ?_⟩
    have o23 := c22
    obtain ⟨c24, h⟩ := h
    refine ⟨c24, ?_⟩
    intro x26 e25
    have h := h x26 e25
    have K := kzz_R K e25
    have o2 := ob_wR o2 e25
    have o6 := ob_wR o6 e25
    have o23 := ob_wR o23 e25
    intro x28 e27
    have h := h x28 e27
    exact hX39 _ _ _ _ _ h K
theorem kzz_X0_init_39 {Q : HS → Prop} {v0 : Nat} {v1 : Int32} {kk : Nat} {nn : Nat} {S : HS} (h : P_X0_init_39 Q v0 v1 kk nn S) (K : ZV S) : P_X0_init_39 (fun T => Q T ∧ ZV T) v0 v1 kk nn S := h (fun v0 v1 kk nn S => ZV S → P_X0_init_39 (fun T => Q T ∧ ZV T) v0 v1 kk nn S) (fun v0 v1 kk nn S hB K => fd_X0_init_39 (kzzB_X0_init_39 hB K (fun _ _ _ _ _ hx K => hx K))) K
set_option maxRecDepth 20000 in
set_option maxHeartbeats 1000000 in
theorem kzz_X0_init_0 {Q : HS → Prop} {v0 : Nat} {kk : Nat} {nn : Nat} {S : HS} (h : P_X0_init_0 Q v0 kk nn S) (K : ZV S) : P_X0_init_0 (fun T => Q T ∧ ZV T) v0 kk nn S := by
  delta P_X0_init_0 at h ⊢
  obtain ⟨c1, h⟩ := h
  refine ⟨c1, ?_⟩
  have o2 := c1
  intro x4 e3
  have h := h x4 e3
  have K := kzz_I K e3 o2 (by decide)
  have o2 := ob_wI o2 e3
  obtain ⟨c5, h⟩ := h
  refine ⟨c5, ?_⟩
  obtain ⟨c6, h⟩ := h
  refine ⟨c6, ?_⟩
  intro x8 e7
  have h := h x8 e7
  intro x10 e9
  have h := h x10 e9
  have K := kzz_W K e7 e9
  have o2 := gr_ob (gr_of_new e9 e7) o2
  obtain ⟨c11, h⟩ := h
  refine ⟨c11, ?_⟩
  obtain ⟨c12, h⟩ := h
  refine ⟨c12, ?_⟩
  refine cm_X2_init (kzz_X2_init h K) h (fun x13 p15 h g14 => ?_)
  have h := h g14
  have K := p15.2
  have o2 := gr_ob g14 o2
  intro x17 e16
  have h := h x17 e16
  have K := kzz_R K e16
  have o2 := ob_wR o2 e16
  obtain ⟨c18, h⟩ := h
  refine ⟨c18, ?_⟩
  obtain ⟨c19, h⟩ := h
  refine ⟨c19, ?_⟩
  intro x21 e20
  have h := h x21 e20
  intro x23 e22
  have h := h x23 e22
  have K := kzz_W K e20 e22
  have o2 := gr_ob (gr_of_new e22 e20) o2
  intro x25 e24
  have h := h x25 e24
  have K := kzz_R K e24
  have o2 := ob_wR o2 e24
  obtain ⟨c26, h⟩ := h
  refine ⟨c26, ?_⟩
  obtain ⟨c27, h⟩ := h
  refine ⟨c27, ?_⟩
  intro x29 e28
  have h := h x29 e28
  intro x31 e30
  have h := h x31 e30
  have K := kzz_W K e28 e30
  have o2 := gr_ob (gr_of_new e30 e28) o2
  intro x33 e32
  have h := h x33 e32
  have K := kzz_R K e32
  have o2 := ob_wR o2 e32
  exact kzz_X0_init_39 h K
theorem kzz_X0_init {Q : HS → Prop} {v0 : Nat} {S : HS} (h : P_X0_init v0 Q S) (u : ZV S) : P_X0_init v0 (fun T => Q T ∧ ZV T) S := kzz_X0_init_0 h u
set_option maxRecDepth 20000 in
set_option maxHeartbeats 1000000 in
theorem kzz_X1_init_0 {Q : HS → Prop} {v0 : Nat} {S : HS} (h : P_X1_init_0 Q v0 S) (K : ZV S) : P_X1_init_0 (fun T => Q T ∧ ZV T) v0 S := by
  delta P_X1_init_0 at h ⊢
  intro x2 e1
  have h := h x2 e1
  intro x4 e3
  have h := h x4 e3
  have K := kzz_W K e1 e3
  obtain ⟨c5, h⟩ := h
  refine ⟨c5, ?_⟩
  have o6 := c5
  intro x8 e7
  have h := h x8 e7
  have K := kzz_R K e7
  have o6 := ob_wR o6 e7
  intro x10 e9
  have h := h x10 e9
  intro x12 e11
  have h := h x12 e11
  have K := kzz_W K e9 e11
  have o6 := gr_ob (gr_of_new e11 e9) o6
  intro x14 e13
  have h := h x14 e13
  have K := kzz_R K e13
  have o6 := ob_wR o6 e13
  exact ⟨h, K⟩
theorem kzz_X1_init {Q : HS → Prop} {v0 : Nat} {S : HS} (h : P_X1_init v0 Q S) (u : ZV S) : P_X1_init v0 (fun T => Q T ∧ ZV T) S := kzz_X1_init_0 h u
set_option maxRecDepth 20000 in
set_option maxHeartbeats 1000000 in
theorem kzz_X3_init_0 {Q : HS → Prop} {v0 : Nat} {S : HS} (h : P_X3_init_0 Q v0 S) (K : ZV S) : P_X3_init_0 (fun T => Q T ∧ ZV T) v0 S := by
  delta P_X3_init_0 at h ⊢
  exact ⟨h, K⟩
theorem kzz_X3_init {Q : HS → Prop} {v0 : Nat} {S : HS} (h : P_X3_init v0 Q S) (u : ZV S) : P_X3_init v0 (fun T => Q T ∧ ZV T) S := kzz_X3_init_0 h u
set_option maxRecDepth 20000 in
set_option maxHeartbeats 1000000 in
theorem kzz_X5_init_0 {Q : HS → Prop} {v0 : Nat} {S : HS} (h : P_X5_init_0 Q v0 S) (K : ZV S) : P_X5_init_0 (fun T => Q T ∧ ZV T) v0 S := by
  delta P_X5_init_0 at h ⊢
  exact ⟨h, K⟩
theorem kzz_X5_init {Q : HS → Prop} {v0 : Nat} {S : HS} (h : P_X5_init v0 Q S) (u : ZV S) : P_X5_init v0 (fun T => Q T ∧ ZV T) S := kzz_X5_init_0 h u
set_option maxRecDepth 20000 in
set_option maxHeartbeats 1000000 in
theorem kzz_X6_init_0 {Q : HS → Prop} {v0 : Nat} {S : HS} (h : P_X6_init_0 Q v0 S) (K : ZV S) : P_X6_init_0 (fun T => Q T ∧ ZV T) v0 S := by
  delta P_X6_init_0 at h ⊢
  exact ⟨h, K⟩
theorem kzz_X6_init {Q : HS → Prop} {v0 : Nat} {S : HS} (h : P_X6_init v0 Q S) (u : ZV S) : P_X6_init v0 (fun T => Q T ∧ ZV T) S := kzz_X6_init_0 h u
set_option maxRecDepth 20000 in
set_option maxHeartbeats 1000000 in
theorem kzzB_X8_init_115 {Q : HS → Prop} {X115 X115_2 : Nat → Int32 → Nat → Nat → HS → Prop} {v0 : Nat} {v1 : Int32} {kk : Nat} {nn : Nat} {S : HS} (h : B_X8_init_115 Q X115 v0 v1 kk nn S) (K : ZV S) (hX115 : ∀ (u0 : Nat) (u1 : Int32) (u2 : Nat) (u3 : Nat) (u4 : HS), X115 u0 u1 u2 u3 u4 → ZV u4 → X115_2 u0 u1 u2 u3 u4) : B_X8_init_115 (fun T => Q T ∧ ZV T) X115_2 v0 v1 kk nn S := by
  delta B_X8_init_115 at h ⊢
  obtain ⟨c1, h⟩ := h
  refine ⟨c1, ?_⟩
  have o2 := c1
  obtain ⟨b3, e4, h⟩ := h
  refine ⟨b3, e4, ?_⟩
  obtain ⟨c5, h⟩ := h
  refine ⟨c5, ?_⟩
  have o6 := c5
  refine ⟨?_, ?_⟩
  · intro c7
    have h := h.1 c7
    obtain ⟨c8, h⟩ := h
    refine ⟨c8, ?_⟩
    obtain ⟨c9, h⟩ := h
    refine ⟨c9, ?_⟩
    exact ⟨h, K⟩
  · intro c10
    have h := h.2 c10
    obtain ⟨b11, e12, h⟩ := h
    refine ⟨b11, e12, ?_⟩
    obtain ⟨c13, h⟩ := h
    refine ⟨c13, ?_⟩
    obtain ⟨c14, h⟩ := h
    refine ⟨c14, ?_⟩
    intro x16 e15
    have h := h x16 e15
    intro x18 e17
    have h := h x18 e17
    have K := kzz_W K e15 e17
    have o2 := gr_ob (gr_of_new e17 e15) o2
    have o6 := gr_ob (gr_of_new e17 e15) o6
    obtain ⟨c19, h⟩ := h
    refine ⟨c19, ?_⟩
    obtain ⟨c20, h⟩ := h
    refine ⟨c20, ?_⟩
    refine cm_X6_init (kzz_X6_init h K) h (fun x21 p23 h g22 => ?_)
    have h := h g22
    have K := p23.2
    have o2 := gr_ob g22 o2
    have o6 := gr_ob g22 o6
    obtain ⟨c24, h⟩ := h
    refine ⟨c24, ?_⟩
    have o25 := c24
    obtain ⟨c26, h⟩ := h
    refine ⟨c26, ?_⟩
    intro x28 e27
    have h := h x28 e27
    have K := kzz_R K e27
    have o2 := ob_wR o2 e27
    have o6 := ob_wR o6 e27
    have o25 := ob_wR o25 e27
    intro x30 e29
    have h := h x30 e29
    exact hX115 _ _ _ _ _ h K
theorem kzz_X8_init_115 {Q : HS → Prop} {v0 : Nat} {v1 : Int32} {kk : Nat} {nn : Nat} {S : HS} (h : P_X8_init_115 Q v0 v1 kk nn S) (K : ZV S) : P_X8_init_115 (fun T => Q T ∧ ZV T) v0 v1 kk nn S := h (fun v0 v1 kk nn S => ZV S → P_X8_init_115 (fun T => Q T ∧ ZV T) v0 v1 kk nn S) (fun v0 v1 kk nn S hB K => fd_X8_init_115 (kzzB_X8_init_115 hB K (fun _ _ _ _ _ hx K => hx K))) K
set_option maxRecDepth 20000 in
set_option maxHeartbeats 1000000 in
theorem kzzB_X8_init_85 {Q : HS → Prop} {X85 X85_2 : Nat → Int32 → Nat → Nat → HS → Prop} {v0 : Nat} {v1 : Int32} {kk : Nat} {nn : Nat} {S : HS} (h : B_X8_init_85 Q X85 v0 v1 kk nn S) (K : ZV S) (hX85 : ∀ (u0 : Nat) (u1 : Int32) (u2 : Nat) (u3 : Nat) (u4 : HS), X85 u0 u1 u2 u3 u4 → ZV u4 → X85_2 u0 u1 u2 u3 u4) : B_X8_init_85 (fun T => Q T ∧ ZV T) X85_2 v0 v1 kk nn S := by
  delta B_X8_init_85 at h ⊢
  obtain ⟨c1, h⟩ := h
  refine ⟨c1, ?_⟩
  have o2 := c1
  obtain ⟨b3, e4, h⟩ := h
  refine ⟨b3, e4, ?_⟩
  obtain ⟨c5, h⟩ := h
  refine ⟨c5, ?_⟩
  have o6 := c5
  refine ⟨?_, ?_⟩
  · intro c7
    have h := h.1 c7
    exact kzz_X8_init_115 h K
  · intro c8
    have h := h.2 c8
    obtain ⟨b9, e10, h⟩ := h
    refine ⟨b9, e10, ?_⟩
    obtain ⟨c11, h⟩ := h
    refine ⟨c11, ?_⟩
    obtain ⟨c12, h⟩ := h
    refine ⟨c12, ?_⟩
    intro x14 e13
    have h := h x14 e13
    intro x16 e15
    have h := h x16 e15
    have K := kzz_W K e13 e15
    have o2 := gr_ob (gr_of_new e15 e13) o2
    have o6 := gr_ob (gr_of_new e15 e13) o6
    obtain ⟨c17, h⟩ := h
    refine ⟨c17, ?_⟩
    obtain ⟨c18, h⟩ := h
    refine ⟨c18, ?_⟩
    refine cm_X5_init (kzz_X5_init h K) h (fun x19 p21 h g20 => ?_)
    have h := h g20
    have K := p21.2
    have o2 := gr_ob g20 o2
    have o6 := gr_ob g20 o6
    obtain ⟨c22, h⟩ := h
    refine ⟨c22, ?_⟩
    have o23 := c22
    obtain ⟨c24, h⟩ := h
    refine ⟨c24, ?_⟩
    intro x26 e25
    have h := h x26 e25
    have K := kzz_R K e25
    have o2 := ob_wR o2 e25
    have o6 := ob_wR o6 e25
    have o23 := ob_wR o23 e25
    intro x28 e27
    have h := h x28 e27
    exact hX85 _ _ _ _ _ h K
theorem kzz_X8_init_85 {Q : HS → Prop} {v0 : Nat} {v1 : Int32} {kk : Nat} {nn : Nat} {S : HS} (h : P_X8_init_85 Q v0 v1 kk nn S) (K : ZV S) : P_X8_init_85 (fun T => Q T ∧ ZV T) v0 v1 kk nn S := h (fun v0 v1 kk nn S => ZV S → P_X8_init_85 (fun T => Q T ∧ ZV T) v0 v1 kk nn S) (fun v0 v1 kk nn S hB K => fd_X8_init_85 (kzzB_X8_init_85 hB K (fun _ _ _ _ _ hx K => hx K))) K
set_option maxRecDepth 20000 in
set_option maxHeartbeats 1000000 in
theorem kzzB_X8_init_55 {Q : HS → Prop} {X55 X55_2 : Nat → Int32 → Nat → Nat → HS → Prop} {v0 : Nat} {v1 : Int32} {kk : Nat} {nn : Nat} {S : HS} (h : B_X8_init_55 Q X55 v0 v1 kk nn S) (K : ZV S) (hX55 : ∀ (u0 : Nat) (u1 : Int32) (u2 : Nat) (u3 : Nat) (u4 : HS), X55 u0 u1 u2 u3 u4 → ZV u4 → X55_2 u0 u1 u2 u3 u4) : B_X8_init_55 (fun T => Q T ∧ ZV T) X55_2 v0 v1 kk nn S := by
  delta B_X8_init_55 at h ⊢
  obtain ⟨c1, h⟩ := h
  refine ⟨c1, ?_⟩
  have o2 := c1
  obtain ⟨b3, e4, h⟩ := h
  refine ⟨b3, e4, ?_⟩
  obtain ⟨c5, h⟩ := h
  refine ⟨c5, ?_⟩
  have o6 := c5
  refine ⟨?_, ?_⟩
  · intro c7
    have h := h.1 c7
    exact kzz_X8_init_85 h K
  · intro c8
    have h := h.2 c8
    obtain ⟨b9, e10, h⟩ := h
    refine ⟨b9, e10, ?_⟩
    obtain ⟨c11, h⟩ := h
    refine ⟨c11, ?_⟩
    obtain ⟨c12, h⟩ := h
    refine ⟨c12, ?_⟩
    intro x14 e13
    have h := h x14 e13
    intro x16 e15
    have h := h x16 e15
    have K := kzz_W K e13 e15
    have o2 := gr_ob (gr_of_new e15 e13) o2
    have o6 := gr_ob (gr_of_new e15 e13) o6
    obtain ⟨c17, h⟩ := h
    refine ⟨c17, ?_⟩
    obtain ⟨c18, h⟩ := h
    refine ⟨c18, ?_⟩
    refine cm_X3_init (kzz_X3_init h K) h (fun x19 p21 h g20 => ?_)
    have h := h g20
    have K := p21.2
    have o2 := gr_ob g20 o2
    have o6 := gr_ob g20 o6
    obtain ⟨c22, h⟩ := h
    refine ⟨c22, ?_⟩
    have o23 := c22
    obtain ⟨c24, h⟩ := h
    refine ⟨c24, ?_⟩
    intro x26 e25
    have h := h x26 e25
    have K := kzz_R K e25
    have o2 := ob_wR o2 e25
    have o6 := ob_wR o6 e25
    have o23 := ob_wR o23 e25
    intro x28 e27
    have h := h x28 e27
    exact hX55 _ _ _ _ _ h K
theorem kzz_X8_init_55 {Q : HS → Prop} {v0 : Nat} {v1 : Int32} {kk : Nat} {nn : Nat} {S : HS} (h : P_X8_init_55 Q v0 v1 kk nn S) (K : ZV S) : P_X8_init_55 (fun T => Q T ∧ ZV T) v0 v1 kk nn S := h (fun v0 v1 kk nn S => ZV S → P_X8_init_55 (fun T => Q T ∧ ZV T) v0 v1 kk nn S) (fun v0 v1 kk nn S hB K => fd_X8_init_55 (kzzB_X8_init_55 hB K (fun _ _ _ _ _ hx K => hx K))) K
set_option maxRecDepth 20000 in
set_option maxHeartbeats 1000000 in
theorem kzz_X8_init_0 {Q : HS → Prop} {v0 : Nat} {kk : Nat} {nn : Nat} {S : HS} (h : P_X8_init_0 Q v0 kk nn S) (K : ZV S) : P_X8_init_0 (fun T => Q T ∧ ZV T) v0 kk nn S := by
  delta P_X8_init_0 at h ⊢
  obtain ⟨c1, h⟩ := h
  refine ⟨c1, ?_⟩
  obtain ⟨c2, h⟩ := h
  refine ⟨c2, ?_⟩
  intro x4 e3
  have h := h x4 e3
  intro x6 e5
  have h := h x6 e5
  have K := kzz_W K e3 e5
  obtain ⟨c7, h⟩ := h
  refine ⟨c7, ?_⟩
  have o8 := c7
  intro x10 e9
  have h := h x10 e9
  have K := kzz_R K e9
  have o8 := ob_wR o8 e9
  obtain ⟨c11, h⟩ := h
  refine ⟨c11, ?_⟩
  obtain ⟨c12, h⟩ := h
  refine ⟨c12, ?_⟩
  intro x14 e13
  have h := h x14 e13
  intro x16 e15
  have h := h x16 e15
  have K := kzz_W K e13 e15
  have o8 := gr_ob (gr_of_new e15 e13) o8
  intro x18 e17
  have h := h x18 e17
  have K := kzz_R K e17
  have o8 := ob_wR o8 e17
  obtain ⟨c19, h⟩ := h
  refine ⟨c19, ?_⟩
  obtain ⟨c20, h⟩ := h
  refine ⟨c20, ?_⟩
  intro x22 e21
  have h := h x22 e21
  intro x24 e23
  have h := h x24 e23
  have K := kzz_W K e21 e23
  have o8 := gr_ob (gr_of_new e23 e21) o8
  intro x26 e25
  have h := h x26 e25
  have K := kzz_R K e25
  have o8 := ob_wR o8 e25
  obtain ⟨c27, h⟩ := h
  refine ⟨c27, ?_⟩
  obtain ⟨c28, h⟩ := h
  refine ⟨c28, ?_⟩
  intro x30 e29
  have h := h x30 e29
  intro x32 e31
  have h := h x32 e31
  have K := kzz_W K e29 e31
  have o8 := gr_ob (gr_of_new e31 e29) o8
  intro x34 e33
  have h := h x34 e33
  have K := kzz_R K e33
  have o8 := ob_wR o8 e33
  obtain ⟨c35, h⟩ := h
  refine ⟨c35, ?_⟩
  obtain ⟨c36, h⟩ := h
  refine ⟨c36, ?_⟩
  intro x38 e37
  have h := h x38 e37
  intro x40 e39
  have h := h x40 e39
  have K := kzz_W K e37 e39
  have o8 := gr_ob (gr_of_new e39 e37) o8
  intro x42 e41
  have h := h x42 e41
  have K := kzz_R K e41
  have o8 := ob_wR o8 e41
  obtain ⟨c43, h⟩ := h
  refine ⟨c43, ?_⟩
  obtain ⟨c44, h⟩ := h
  refine ⟨c44, ?_⟩
  intro x46 e45
  have h := h x46 e45
  intro x48 e47
  have h := h x48 e47
  have K := kzz_W K e45 e47
  have o8 := gr_ob (gr_of_new e47 e45) o8
  intro x50 e49
  have h := h x50 e49
  have K := kzz_R K e49
  have o8 := ob_wR o8 e49
  exact kzz_X8_init_55 h K
theorem kzz_X8_init {Q : HS → Prop} {v0 : Nat} {S : HS} (h : P_X8_init v0 Q S) (u : ZV S) : P_X8_init v0 (fun T => Q T ∧ ZV T) S := kzz_X8_init_0 h u
set_option maxRecDepth 20000 in
set_option maxHeartbeats 1000000 in
theorem kzz_X4_init_0 {Q : HS → Prop} {v0 : Nat} {S : HS} (h : P_X4_init_0 Q v0 S) (K : ZV S) : P_X4_init_0 (fun T => Q T ∧ ZV T) v0 S := by
  delta P_X4_init_0 at h ⊢
  intro x2 e1
  have h := h x2 e1
  intro x4 e3
  have h := h x4 e3
  have K := kzz_W K e1 e3
  obtain ⟨c5, h⟩ := h
  refine ⟨c5, ?_⟩
  have o6 := c5
  intro x8 e7
  have h := h x8 e7
  have K := kzz_R K e7
  have o6 := ob_wR o6 e7
  intro x10 e9
  have h := h x10 e9
  intro x12 e11
  have h := h x12 e11
  have K := kzz_W K e9 e11
  have o6 := gr_ob (gr_of_new e11 e9) o6
  refine cm_X8_init (kzz_X8_init h K) h (fun x13 p15 h g14 => ?_)
  have h := h g14
  have K := p15.2
  have o6 := gr_ob g14 o6
  intro x17 e16
  have h := h x17 e16
  have K := kzz_R K e16
  have o6 := ob_wR o6 e16
  intro x19 e18
  have h := h x19 e18
  intro x21 e20
  have h := h x21 e20
  have K := kzz_W K e18 e20
  have o6 := gr_ob (gr_of_new e20 e18) o6
  intro x23 e22
  have h := h x23 e22
  have K := kzz_R K e22
  have o6 := ob_wR o6 e22
  intro x25 e24
  have h := h x25 e24
  intro x27 e26
  have h := h x27 e26
  have K := kzz_W K e24 e26
  have o6 := gr_ob (gr_of_new e26 e24) o6
  intro x29 e28
  have h := h x29 e28
  have K := kzz_R K e28
  have o6 := ob_wR o6 e28
  exact ⟨h, K⟩
theorem kzz_X4_init {Q : HS → Prop} {v0 : Nat} {S : HS} (h : P_X4_init v0 Q S) (u : ZV S) : P_X4_init v0 (fun T => Q T ∧ ZV T) S := kzz_X4_init_0 h u
set_option maxRecDepth 20000 in
set_option maxHeartbeats 1000000 in
theorem kzz_X7_init_0 {Q : HS → Prop} {v0 : Nat} {S : HS} (h : P_X7_init_0 Q v0 S) (K : ZV S) : P_X7_init_0 (fun T => Q T ∧ ZV T) v0 S := by
  delta P_X7_init_0 at h ⊢
  intro x2 e1
  have h := h x2 e1
  intro x4 e3
  have h := h x4 e3
  have K := kzz_W K e1 e3
  obtain ⟨c5, h⟩ := h
  refine ⟨c5, ?_⟩
  have o6 := c5
  intro x8 e7
  have h := h x8 e7
  have K := kzz_R K e7
  have o6 := ob_wR o6 e7
  intro x10 e9
  have h := h x10 e9
  intro x12 e11
  have h := h x12 e11
  have K := kzz_W K e9 e11
  have o6 := gr_ob (gr_of_new e11 e9) o6
  intro x14 e13
  have h := h x14 e13
  have K := kzz_R K e13
  have o6 := ob_wR o6 e13
  intro x16 e15
  have h := h x16 e15
  intro x18 e17
  have h := h x18 e17
  have K := kzz_W K e15 e17
  have o6 := gr_ob (gr_of_new e17 e15) o6
  intro x20 e19
  have h := h x20 e19
  have K := kzz_R K e19
  have o6 := ob_wR o6 e19
  intro x22 e21
  have h := h x22 e21
  intro x24 e23
  have h := h x24 e23
  have K := kzz_W K e21 e23
  have o6 := gr_ob (gr_of_new e23 e21) o6
  intro x26 e25
  have h := h x26 e25
  have K := kzz_R K e25
  have o6 := ob_wR o6 e25
  intro x28 e27
  have h := h x28 e27
  intro x30 e29
  have h := h x30 e29
  have K := kzz_W K e27 e29
  have o6 := gr_ob (gr_of_new e29 e27) o6
  intro x32 e31
  have h := h x32 e31
  have K := kzz_R K e31
  have o6 := ob_wR o6 e31
  intro x34 e33
  have h := h x34 e33
  intro x36 e35
  have h := h x36 e35
  have K := kzz_W K e33 e35
  have o6 := gr_ob (gr_of_new e35 e33) o6
  intro x38 e37
  have h := h x38 e37
  have K := kzz_R K e37
  have o6 := ob_wR o6 e37
  intro x40 e39
  have h := h x40 e39
  intro x42 e41
  have h := h x42 e41
  have K := kzz_W K e39 e41
  have o6 := gr_ob (gr_of_new e41 e39) o6
  intro x44 e43
  have h := h x44 e43
  have K := kzz_R K e43
  have o6 := ob_wR o6 e43
  intro x46 e45
  have h := h x46 e45
  intro x48 e47
  have h := h x48 e47
  have K := kzz_W K e45 e47
  have o6 := gr_ob (gr_of_new e47 e45) o6
  intro x50 e49
  have h := h x50 e49
  have K := kzz_R K e49
  have o6 := ob_wR o6 e49
  intro x52 e51
  have h := h x52 e51
  have K := kzz_I K e51 o6 (by decide)
  have o6 := ob_wI o6 e51
  intro x54 e53
  have h := h x54 e53
  have K := kzz_I K e53 o6 (by decide)
  have o6 := ob_wI o6 e53
  intro x56 e55
  have h := h x56 e55
  have K := kzz_I K e55 o6 (by decide)
  have o6 := ob_wI o6 e55
  intro x58 e57
  have h := h x58 e57
  have K := kzz_I K e57 o6 (by decide)
  have o6 := ob_wI o6 e57
  exact ⟨h, K⟩
theorem kzz_X7_init {Q : HS → Prop} {v0 : Nat} {S : HS} (h : P_X7_init v0 Q S) (u : ZV S) : P_X7_init v0 (fun T => Q T ∧ ZV T) S := kzz_X7_init_0 h u
set_option maxRecDepth 20000 in
set_option maxHeartbeats 1000000 in
theorem kzz_X9_init_0 {Q : HS → Prop} {v0 : Nat} {S : HS} (h : P_X9_init_0 Q v0 S) (K : ZV S) : P_X9_init_0 (fun T => Q T ∧ ZV T) v0 S := by
  delta P_X9_init_0 at h ⊢
  intro x2 e1
  have h := h x2 e1
  intro x4 e3
  have h := h x4 e3
  have K := kzz_W K e1 e3
  obtain ⟨c5, h⟩ := h
  refine ⟨c5, ?_⟩
  have o6 := c5
  intro x8 e7
  have h := h x8 e7
  have K := kzz_R K e7
  have o6 := ob_wR o6 e7
  intro x10 e9
  have h := h x10 e9
  intro x12 e11
  have h := h x12 e11
  have K := kzz_W K e9 e11
  have o6 := gr_ob (gr_of_new e11 e9) o6
  refine cm_X8_init (kzz_X8_init h K) h (fun x13 p15 h g14 => ?_)
  have h := h g14
  have K := p15.2
  have o6 := gr_ob g14 o6
  intro x17 e16
  have h := h x17 e16
  have K := kzz_R K e16
  have o6 := ob_wR o6 e16
  intro x19 e18
  have h := h x19 e18
  intro x21 e20
  have h := h x21 e20
  have K := kzz_W K e18 e20
  have o6 := gr_ob (gr_of_new e20 e18) o6
  refine cm_X4_init (kzz_X4_init h K) h (fun x22 p24 h g23 => ?_)
  have h := h g23
  have K := p24.2
  have o6 := gr_ob g23 o6
  intro x26 e25
  have h := h x26 e25
  have K := kzz_R K e25
  have o6 := ob_wR o6 e25
  intro x28 e27
  have h := h x28 e27
  intro x30 e29
  have h := h x30 e29
  have K := kzz_W K e27 e29
  have o6 := gr_ob (gr_of_new e29 e27) o6
  refine cm_X1_init (kzz_X1_init h K) h (fun x31 p33 h g32 => ?_)
  have h := h g32
  have K := p33.2
  have o6 := gr_ob g32 o6
  intro x35 e34
  have h := h x35 e34
  have K := kzz_R K e34
  have o6 := ob_wR o6 e34
  intro x37 e36
  have h := h x37 e36
  intro x39 e38
  have h := h x39 e38
  have K := kzz_W K e36 e38
  have o6 := gr_ob (gr_of_new e38 e36) o6
  refine cm_X7_init (kzz_X7_init h K) h (fun x40 p42 h g41 => ?_)
  have h := h g41
  have K := p42.2
  have o6 := gr_ob g41 o6
  intro x44 e43
  have h := h x44 e43
  have K := kzz_R K e43
  have o6 := ob_wR o6 e43
  intro x46 e45
  have h := h x46 e45
  intro x48 e47
  have h := h x48 e47
  have K := kzz_W K e45 e47
  have o6 := gr_ob (gr_of_new e47 e45) o6
  refine cm_X0_init (kzz_X0_init h K) h (fun x49 p51 h g50 => ?_)
  have h := h g50
  have K := p51.2
  have o6 := gr_ob g50 o6
  intro x53 e52
  have h := h x53 e52
  have K := kzz_R K e52
  have o6 := ob_wR o6 e52
  exact ⟨h, K⟩
theorem kzz_X9_init {Q : HS → Prop} {v0 : Nat} {S : HS} (h : P_X9_init v0 Q S) (u : ZV S) : P_X9_init v0 (fun T => Q T ∧ ZV T) S := kzz_X9_init_0 h u
end
section
/-! the day: what it holds, and the class's moments -/
abbrev MO : Type := Int32 × Int32 × (Nat → Int64)
abbrev DY : Type := Int32 × Int32 × Nat × Nat × MO × (Nat → MO) × (Nat → MO)
def dW (D : DY) : Int32 := D.1
def dR (D : DY) : Int32 := D.2.1
def dU (D : DY) : Nat := D.2.2.1
def dK (D : DY) : Nat := D.2.2.2.1
def dN (D : DY) : MO := D.2.2.2.2.1
def dP (D : DY) : Nat → MO := D.2.2.2.2.2.1
def dM (D : DY) : Nat → MO := D.2.2.2.2.2.2
def rnD (D : DY) (x : Int32) : DY := (dW D, x, D.2.2)
def nwD (D : DY) (v : MO) : DY := (dW D, dR D, dU D, dK D, v, dP D, dM D)
def bgD (D : DY) (w p t : Int32) : DY := (w, dR D, 0, 0, (p, t, fun _ => 0), dP D, dM D)
def offD (D : DY) : DY := (-1, dR D, 0, 0, dN D, dP D, dM D)
def tbD (D : DY) : DY := (dW D, dR D, dU D - 1, dK D, dP D (dU D - 1), dP D, dM D)
def mkD (D : DY) : DY := (dW D, dR D, dU D, dK D + 1, dN D, dP D, fun i => if i = dK D then dN D else dM D i)
def bkD (D : DY) (k : Nat) : DY := (dW D, dR D, 0, dK D, dM D k, dP D, dM D)
abbrev LB : List (Nat × Nat) := [(1, 0), (1, 1), (4, 11), (7, 1), (7, 7), (10, 28), (11, 16), (11, 21), (11, 22), (11, 23)]
abbrev LA : List (Nat × Nat) := [(1, 0), (1, 1), (2, 2), (4, 11), (7, 1), (7, 7), (10, 28), (11, 16)]
def VM (S : HS) (o g : Nat) (v : MO) : Prop := fI S o 0 = v.1 ∧ fI S o 1 = v.2.1 ∧ ∀ f, f < 5 → fJ S g f = v.2.2 f
def DCs (dy pa ma : Nat) (mo go : Nat → Nat) (S : HS) : Prop := fR S dy 4 = some (mo 0) ∧ fR S dy 5 = some pa ∧ fR S dy 6 = some ma ∧ ob S pa 16 ∧ pa ≠ ma ∧ (∀ i, i < 16 → fR S pa i = some (mo (1 + i))) ∧ (∀ i, i < 3 → fR S ma i = some (mo (17 + i))) ∧ (∀ i, i < 20 → ob S (mo i) 2 ∧ fR S (mo i) 2 = some (go i) ∧ ob S (go i) 14 ∧ NW9 LB S (go i)) ∧ (∀ i j, i < 20 → j < 20 → mo i = mo j → i = j) ∧ ∀ i j, i < 20 → j < 20 → go i = go j → i = j
def DCv (dy : Nat) (mo go : Nat → Nat) (D : DY) (S : HS) : Prop := fI S dy 0 = dW D ∧ fI S dy 1 = dR D ∧ fI S dy 2 = nI (dU D) ∧ fI S dy 3 = nI (dK D) ∧ dU D ≤ 16 ∧ dK D ≤ 3 ∧ VM S (mo 0) (go 0) (dN D) ∧ (∀ i, i < dU D → VM S (mo (1 + i)) (go (1 + i)) (dP D i)) ∧ ∀ i, i < dK D → VM S (mo (17 + i)) (go (17 + i)) (dM D i)
/-- the class's day -/
def CDd (dy : Nat) (D : DY) (S : HS) : Prop := ob S dy 0 ∧ ∃ pa ma mo go, DCs dy pa ma mo go S ∧ DCv dy mo go D S
/-- what the day's own methods leave -/
def DS (c : Nat) (S T : HS) : Prop := hL T = hL S ∧ hK T = hK S ∧ hN T = hN S ∧ (∀ x, hK S x ≠ 16 → fR T x = fR S x) ∧ ∀ x, x ≠ c → hK S x ≠ 0 → hK S x ≠ 2 → fI T x = fI S x
def wA (S : HS) (f : Nat → Nat → Int32) (g : Nat → Nat → Int64) : HS := (hL S, hK S, hN S, f, g, fR S)
section C43
variable {c dy pa ma a b ga gb : Nat} {mo go : Nat → Nat} {D : DY} {S T U : HS} {v x y : Int32} {Q : Int32 → HS → Prop} {QJ : Int64 → HS → Prop} {Q0 : HS → Prop}
theorem ds_rf (c : Nat) (S : HS) : DS c S S := ⟨rfl, rfl, rfl, fun _ _ => rfl, fun _ _ _ _ => rfl⟩
theorem ds_tr (h : DS c S T) (g : DS c T U) : DS c S U := by
  obtain ⟨h1, h2, h3, h4, h5⟩ := h
  obtain ⟨g1, g2, g3, g4, g5⟩ := g
  refine ⟨g1.trans h1, g2.trans h2, g3.trans h3, fun x q => ?_, fun x q0 q1 q2 => ?_⟩
  · exact (g4 x (by rw [h2]; exact q)).trans (h4 x q)
  · exact (g5 x q0 (by rw [h2]; exact q1) (by rw [h2]; exact q2)).trans (h5 x q0 q1 q2)
theorem ds_o (h : DS c S T) {q k : Nat} (o : ob S q k) : ob T q k := by
  unfold ob
  rw [h.1, h.2.1]
  exact o
theorem ds_wJ (g : Nat → Nat → Int64) : DS c S (wJ S g) := ⟨rfl, rfl, rfl, fun _ _ => rfl, fun _ _ _ _ => rfl⟩
theorem ds_I {j k : Nat} (e : T = sI S a j v) (o : ob S a k) (hk : k = 0 ∨ k = 2) : DS c S T := by
  rw [e]
  refine ⟨rfl, rfl, rfl, fun _ _ => rfl, fun x _ h0 h2 => u2_row _ _ (fun z => ?_)⟩
  have := o.2
  rw [z] at h0 h2
  omega
theorem ds_c {j : Nat} (e : T = sI S c j v) : DS c S T := by
  rw [e]
  exact ⟨rfl, rfl, rfl, fun _ _ => rfl, fun x h _ _ => u2_row _ _ h⟩
theorem vm_mv {o g : Nat} {w : MO} (h : VM S o g w) (e0 : fI T o 0 = fI S o 0) (e1 : fI T o 1 = fI S o 1) (eg : fJ T g = fJ S g) : VM T o g w := ⟨e0.trans h.1, e1.trans h.2.1, fun f hf => by rw [eg]; exact h.2.2 f hf⟩
theorem cs_mv (h : DCs dy pa ma mo go S) (h1 : hL T = hL S) (h2 : hK T = hK S) (h3 : fR T = fR S) : DCs dy pa ma mo go T := by
  unfold DCs NW9 ob at h ⊢
  rw [h1, h2, h3]
  exact h
/-- a moment is copied upon another -/
theorem sd_X2_copy18 (ea : fR S a 2 = some ga) (eb : fR S b 2 = some gb) (ng : gb ≠ ga) (h : P_X2_copy_18 Q0 a b 0 S) : P_X2_copy_18 (fun T => Q0 T ∧ ∃ g, T = wJ S g ∧ (∀ d, d ≠ ga → g d = fJ S d) ∧ ∀ k, k < 5 → g ga k = fJ S gb k) a b 0 S := by
  intro X hX
  refine h (fun a0 a1 v2 T => (a0 = a ∧ a1 = b ∧ ∃ k g, k ≤ 5 ∧ v2 = nI k ∧ T = wJ S g ∧ (∀ d, d ≠ ga → g d = fJ S d) ∧ ∀ j, j < k → g ga j = fJ S gb j) → X a0 a1 v2 T) ?_ ⟨rfl, rfl, 0, fJ S, by decide, rfl, rfl, fun _ _ => rfl, fun j hj => absurd hj (Nat.not_lt_zero j)⟩
  rintro a0 a1 v2 T h ⟨rfl, rfl, k, g, hk, rfl, rfl, hd, hj⟩
  apply hX
  have e5 : (5 : Int32).toInt = 5 := by decide
  have nk : (nI k).toInt = (k : Int) := nI_i (by omega)
  have ck : (nI k).toNatClampNeg = k := nI_cl (by omega)
  refine ⟨fun cc => ⟨h.1 cc, g, rfl, hd, fun j h5 => hj j (by have := le_i cc; omega)⟩, fun cc => ?_⟩
  have h := h.2 cc
  have lt := nle_i cc
  obtain ⟨o1, a2, e2, o2, a3, e3, o3, i3, h⟩ := h
  cases ea.symm.trans e2
  cases eb.symm.trans e3
  refine ⟨o1, _, e2, o2, _, e3, o3, i3, fun x5 q5 => ?_⟩
  obtain ⟨o4, i4, h⟩ := h x5 q5
  refine ⟨o4, i4, fun S7 q7 x8 q8 => h S7 q7 x8 q8 ⟨rfl, rfl, k + 1, u2 g ga k x5, by omega, by rw [q8]; exact nI_add k 1, by rw [q7, ck]; rfl, fun d hd' => (u2_row _ _ hd').trans (hd d hd'), fun j hj' => ?_⟩⟩
  have q5 : x5 = g gb (nI k).toNatClampNeg := q5
  rw [ck] at q5
  by_cases z : j = k
  · rw [z, u2_self, q5, hd gb ng]
  · rw [u2_ne _ _ (fun q => z q.2)]
    exact hj j (by omega)
theorem sd_X2_copy (ea : fR S a 2 = some ga) (eb : fR S b 2 = some gb) (nab : b ≠ a) (ng : gb ≠ ga) (h : P_X2_copy a b Q0 S) : P_X2_copy a b (fun T => Q0 T ∧ ∃ f g, T = wA S f g ∧ (∀ d, d ≠ a → f d = fI S d) ∧ f a 0 = fI S b 0 ∧ f a 1 = fI S b 1 ∧ (∀ d, d ≠ ga → g d = fJ S d) ∧ ∀ k, k < 5 → g ga k = fJ S gb k) S := by
  delta P_X2_copy P_X2_copy_0
  obtain ⟨o1, h⟩ := h
  refine ⟨o1, fun x1 q1 => ?_⟩
  obtain ⟨o2, h⟩ := h x1 q1
  refine ⟨o2, fun S2 q2 x3 q3 S4 q4 => ?_⟩
  have h := h S2 q2 x3 q3 S4 q4
  subst q4
  subst q2
  have e3 : x3 = fI S b 1 := by
    rw [q3]
    show u2 (fI S) a 0 x1 b 1 = _
    rw [u2_row _ _ nab]
  refine cm_X2_copy_18 (sd_X2_copy18 (S := sI (sI S a 0 x1) a 1 x3) ea eb ng h) h (fun T hp _ => ?_)
  obtain ⟨hq, g, e, hd, hk⟩ := hp
  refine ⟨hq, fI (sI (sI S a 0 x1) a 1 x3), g, e, fun d hd' => (u2_row _ _ hd').trans (u2_row _ _ hd'), ?_, ?_, hd, hk⟩
  · show u2 (u2 (fI S) a 0 x1) a 1 x3 a 0 = _
    rw [u2_ne _ _ (by omega), u2_self, q1]
  · show u2 (u2 (fI S) a 0 x1) a 1 x3 a 1 = _
    rw [u2_self, e3]
end C43
/-! the class's day, method by method -/
def kpE (D : DY) : DY := (dW D, dR D, dU D + 1, dK D, dN D, (fun i => if i = dU D then dN D else dP D i), dM D)
def rotD (D : DY) : DY := (dW D, dR D, 15, dK D, dN D, (fun i => dP D (i + 1)), dM D)
def kpF (D : DY) : DY := if dU D = 16 then kpE (rotD D) else kpE D
section C44
variable {c dy pa ma a b ga gb i j : Nat} {mo go : Nat → Nat} {D : DY} {S T U : HS} {v x y : Int32} {Q : Int32 → HS → Prop} {QJ : Int64 → HS → Prop} {Q0 : HS → Prop} {f : Nat → Nat → Int32} {g : Nat → Nat → Int64}
theorem mo_ne (cs : DCs dy pa ma mo go S) (hi : i < 20) (hj : j < 20) (h : i ≠ j) : mo i ≠ mo j := fun z => h (cs.2.2.2.2.2.2.2.2.1 i j hi hj z)
theorem go_ne (cs : DCs dy pa ma mo go S) (hi : i < 20) (hj : j < 20) (h : i ≠ j) : go i ≠ go j := fun z => h (cs.2.2.2.2.2.2.2.2.2 i j hi hj z)
theorem mo_at (cs : DCs dy pa ma mo go S) (hi : i < 20) : ob S (mo i) 2 ∧ fR S (mo i) 2 = some (go i) ∧ ob S (go i) 14 ∧ NW9 LB S (go i) := cs.2.2.2.2.2.2.2.1 i hi
theorem cp_st (cs : DCs dy pa ma mo go S) (od : ob S dy 0) (hi : i < 20) (hj : j < 20) (hij : i ≠ j) (e : T = wA S f g) (hf : ∀ d, d ≠ mo i → f d = fI S d) (f0 : f (mo i) 0 = fI S (mo j) 0) (f1 : f (mo i) 1 = fI S (mo j) 1) (hg : ∀ d, d ≠ go i → g d = fJ S d) (gk : ∀ k, k < 5 → g (go i) k = fJ S (go j) k) : DCs dy pa ma mo go T ∧ ob T dy 0 ∧ DS c S T ∧ fI T dy = fI S dy ∧ (∀ n, n < 20 → n ≠ i → ∀ v, VM S (mo n) (go n) v → VM T (mo n) (go n) v) ∧ ∀ v, VM S (mo j) (go j) v → VM T (mo i) (go i) v := by
  subst e
  have oi := (mo_at cs hi).1
  refine ⟨cs_mv cs rfl rfl rfl, od, ⟨rfl, rfl, rfl, fun _ _ => rfl, fun x _ h0 h2 => hf x (fun z => ?_)⟩, hf dy (ob_ne od oi (by decide)), fun n hn hni v h => vm_mv h ?_ ?_ (hg _ (go_ne cs hn hi hni)), fun v h => ⟨f0.trans h.1, f1.trans h.2.1, fun k hk => (gk k hk).trans (h.2.2 k hk)⟩⟩
  · have := oi.2
    rw [z] at h2
    exact h2 this
  · exact congrFun (hf _ (mo_ne cs hn hi hni)) 0
  · exact congrFun (hf _ (mo_ne cs hn hi hni)) 1
/-- an int of the day itself is written -/
theorem dy_st (cs : DCs dy pa ma mo go S) (od : ob S dy 0) {k : Nat} (e : T = sI S dy k v) : DCs dy pa ma mo go T ∧ ob T dy 0 ∧ DS c S T ∧ fI T dy = va_up (fI S dy) k v ∧ ∀ n, n < 20 → ∀ w, VM S (mo n) (go n) w → VM T (mo n) (go n) w := by
  refine ⟨cs_mv cs (by rw [e]; rfl) (by rw [e]; rfl) (by rw [e]; rfl), by rw [e]; exact od, ds_I e od (Or.inl rfl), row_I e, fun n hn w h => ?_⟩
  have q : fI T (mo n) = fI S (mo n) := row_o e (ob_ne (mo_at cs hn).1 od (by decide))
  exact vm_mv h (congrFun q 0) (congrFun q 1) (by rw [e]; rfl)
theorem sd_X0_isOn (cd : CDd dy D S) (h : P_X0_isOn dy Q S) : P_X0_isOn dy (fun x T => Q x T ∧ S = T ∧ ans (¬ dW D = -1) x) S := by
  obtain ⟨od, pa, ma, mo, go, cs, cv⟩ := cd
  delta P_X0_isOn P_X0_isOn_0
  obtain ⟨o1, h⟩ := h
  refine ⟨o1, fun x1 q1 => ?_⟩
  have h := h x1 q1
  replace q1 := q1.trans cv.1
  exact ⟨fun cc => ⟨h.1 cc, rfl, Or.inr ⟨fun z => z (q1.symm.trans cc), rfl⟩⟩, fun cc => ⟨h.2 cc, rfl, Or.inl ⟨fun z => cc (q1.trans z), rfl⟩⟩⟩
theorem sd_X0_rainsIn (cd : CDd dy D S) (h : P_X0_rainsIn dy v Q S) : P_X0_rainsIn dy v (fun x T => Q x T ∧ S = T ∧ ans (¬ v < 0 ∧ v < 6 ∧ ((dR D >>> (v &&& 31)) &&& (1 : Int32)) = 1) x) S := by
  obtain ⟨od, pa, ma, mo, go, cs, cv⟩ := cd
  delta P_X0_rainsIn P_X0_rainsIn_0
  refine ⟨fun cc => ⟨h.1 cc, rfl, Or.inr ⟨fun z => z.1 cc, rfl⟩⟩, fun c1 => ?_⟩
  have h := h.2 c1
  refine ⟨fun cc => ⟨h.1 cc, rfl, Or.inr ⟨fun z => absurd z.2.1 (Int32.not_lt.mpr cc), rfl⟩⟩, fun c2 => ?_⟩
  obtain ⟨o1, h⟩ := h.2 c2
  refine ⟨o1, fun x1 q1 => ?_⟩
  have h := h x1 q1
  replace q1 := q1.trans cv.2.1
  rw [q1] at h ⊢
  exact ⟨fun cc => ⟨h.1 cc, rfl, Or.inr ⟨fun z => cc z.2.2, rfl⟩⟩, fun cc => ⟨h.2 cc, rfl, Or.inl ⟨⟨c1, Int32.not_le.mp c2, cc⟩, rfl⟩⟩⟩
theorem sd_X0_end (cd : CDd dy D S) (h : P_X0_end dy Q0 S) : P_X0_end dy (fun T => Q0 T ∧ CDd dy (offD D) T ∧ DS c S T) S := by
  obtain ⟨od, pa, ma, mo, go, cs, cv⟩ := cd
  delta P_X0_end P_X0_end_0
  obtain ⟨o1, h⟩ := h
  refine ⟨o1, fun S2 q2 S3 q3 S4 q4 => ⟨h S2 q2 S3 q3 S4 q4, ?_⟩⟩
  obtain ⟨cs2, od2, d2, r2, m2⟩ := dy_st (c := c) cs od q2
  obtain ⟨cs3, od3, d3, r3, m3⟩ := dy_st (c := c) cs2 od2 q3
  obtain ⟨cs4, od4, d4, r4, m4⟩ := dy_st (c := c) cs3 od3 q4
  refine ⟨⟨od4, pa, ma, mo, go, cs4, ?_⟩, ds_tr d2 (ds_tr d3 d4)⟩
  rw [r3, r2] at r4
  refine ⟨?_, ?_, ?_, ?_, by show 0 ≤ 16; omega, by show 0 ≤ 3; omega, m4 0 (by decide) _ (m3 0 (by decide) _ (m2 0 (by decide) _ cv.2.2.2.2.2.2.1)), fun i hi => absurd hi (Nat.not_lt_zero i), fun i hi => absurd hi (Nat.not_lt_zero i)⟩
  · rw [r4]; rfl
  · rw [r4]; exact cv.2.1
  · rw [r4]; rfl
  · rw [r4]; rfl
theorem lp_X0_begin (cd : CDd dy D S) (h : P_X0_begin_28 Q0 dy 0 S) : P_X0_begin_28 (fun T => Q0 T ∧ CDd dy (nwD D ((dN D).1, (dN D).2.1, fun _ => 0)) T ∧ DS c S T) dy 0 S := by
  obtain ⟨od, pa, ma, mo, go, cs, cv⟩ := cd
  intro X hX
  refine h (fun a0 v4 T => (a0 = dy ∧ ∃ k g, k ≤ 5 ∧ v4 = nI k ∧ T = wJ S g ∧ (∀ d, d ≠ go 0 → g d = fJ S d) ∧ ∀ j, j < k → g (go 0) j = 0) → X a0 v4 T) ?_ ⟨rfl, 0, fJ S, by decide, rfl, rfl, fun _ _ => rfl, fun j hj => absurd hj (Nat.not_lt_zero j)⟩
  rintro a0 v4 T h ⟨rfl, k, g, hk, rfl, rfl, hd, hj⟩
  apply hX
  have e5 : (5 : Int32).toInt = 5 := by decide
  have nk : (nI k).toInt = (k : Int) := nI_i (by omega)
  have ck : (nI k).toNatClampNeg = k := nI_cl (by omega)
  refine ⟨fun cc => ⟨h.1 cc, ⟨od, pa, ma, mo, go, cs_mv cs rfl rfl rfl, cv.1, cv.2.1, cv.2.2.1, cv.2.2.2.1, cv.2.2.2.2.1, cv.2.2.2.2.2.1, ⟨cv.2.2.2.2.2.2.1.1, cv.2.2.2.2.2.2.1.2.1, fun f hf => hj f (by have := le_i cc; omega)⟩, fun i hi => ?_, fun i hi => ?_⟩, ds_wJ g⟩, fun cc => ?_⟩
  · have hi : i < dU D := hi
    have u := cv.2.2.2.2.1
    exact vm_mv (cv.2.2.2.2.2.2.2.1 i hi) rfl rfl (hd _ (go_ne cs (by omega) (by decide) (by omega)))
  · have hi : i < dK D := hi
    have u := cv.2.2.2.2.2.1
    exact vm_mv (cv.2.2.2.2.2.2.2.2 i hi) rfl rfl (hd _ (go_ne cs (by omega) (by decide) (by omega)))
  have h := h.2 cc
  have lt := nle_i cc
  obtain ⟨o1, a2, e2, o2, a3, e3, o3, i3, h⟩ := h
  cases cs.1.symm.trans e2
  cases (mo_at cs (i := 0) (by decide)).2.1.symm.trans e3
  refine ⟨o1, _, e2, o2, _, e3, o3, i3, fun S5 q5 x6 q6 => h S5 q5 x6 q6 ⟨rfl, k + 1, u2 g (go 0) k 0, by omega, by rw [q6]; exact nI_add k 1, by rw [q5, ck]; rfl, fun d hd' => (u2_row _ _ hd').trans (hd d hd'), fun j hj' => ?_⟩⟩
  by_cases z : j = k
  · rw [z, u2_self]
  · rw [u2_ne _ _ (fun q => z q.2)]
    exact hj j (by omega)
/-- now's place or minute is written -/
theorem nw_st (cd : CDd dy D S) (ea : fR S dy 4 = some a) (e : T = sI S a 0 v) : CDd dy (nwD D (v, (dN D).2)) T ∧ DS c S T := by
  obtain ⟨od, pa, ma, mo, go, cs, cv⟩ := cd
  cases cs.1.symm.trans ea
  have o0 := (mo_at cs (i := 0) (by decide)).1
  have rw0 : fI T (mo 0) = va_up (fI S (mo 0)) 0 v := row_I e
  have ro : ∀ x, x ≠ mo 0 → fI T x = fI S x := fun x hx => row_o e hx
  have rj : fJ T = fJ S := by rw [e]; rfl
  refine ⟨⟨by rw [e]; exact od, pa, ma, mo, go, cs_mv cs (by rw [e]; rfl) (by rw [e]; rfl) (by rw [e]; rfl), ?_⟩, ds_I e o0 (Or.inr rfl)⟩
  have rd := ro dy (ob_ne od o0 (by decide))
  refine ⟨by rw [rd]; exact cv.1, by rw [rd]; exact cv.2.1, by rw [rd]; exact cv.2.2.1, by rw [rd]; exact cv.2.2.2.1, cv.2.2.2.2.1, cv.2.2.2.2.2.1, ⟨by rw [rw0]; rfl, by rw [rw0]; exact cv.2.2.2.2.2.2.1.2.1, fun f hf => by rw [rj]; exact cv.2.2.2.2.2.2.1.2.2 f hf⟩, fun i hi => ?_, fun i hi => ?_⟩
  · have hi : i < dU D := hi
    have u := cv.2.2.2.2.1
    have q := ro (mo (1 + i)) (mo_ne cs (by omega) (by decide) (by omega))
    exact vm_mv (cv.2.2.2.2.2.2.2.1 i hi) (congrFun q 0) (congrFun q 1) (congrFun rj _)
  · have hi : i < dK D := hi
    have u := cv.2.2.2.2.2.1
    have q := ro (mo (17 + i)) (mo_ne cs (by omega) (by decide) (by omega))
    exact vm_mv (cv.2.2.2.2.2.2.2.2 i hi) (congrFun q 0) (congrFun q 1) (congrFun rj _)
theorem nt_st (cd : CDd dy D S) (ea : fR S dy 4 = some a) (e : T = sI S a 1 v) : CDd dy (nwD D ((dN D).1, v, (dN D).2.2)) T ∧ DS c S T := by
  obtain ⟨od, pa, ma, mo, go, cs, cv⟩ := cd
  cases cs.1.symm.trans ea
  have o0 := (mo_at cs (i := 0) (by decide)).1
  have rw0 : fI T (mo 0) = va_up (fI S (mo 0)) 1 v := row_I e
  have ro : ∀ x, x ≠ mo 0 → fI T x = fI S x := fun x hx => row_o e hx
  have rj : fJ T = fJ S := by rw [e]; rfl
  refine ⟨⟨by rw [e]; exact od, pa, ma, mo, go, cs_mv cs (by rw [e]; rfl) (by rw [e]; rfl) (by rw [e]; rfl), ?_⟩, ds_I e o0 (Or.inr rfl)⟩
  have rd := ro dy (ob_ne od o0 (by decide))
  refine ⟨by rw [rd]; exact cv.1, by rw [rd]; exact cv.2.1, by rw [rd]; exact cv.2.2.1, by rw [rd]; exact cv.2.2.2.1, cv.2.2.2.2.1, cv.2.2.2.2.2.1, ⟨by rw [rw0]; exact cv.2.2.2.2.2.2.1.1, by rw [rw0]; rfl, fun f hf => by rw [rj]; exact cv.2.2.2.2.2.2.1.2.2 f hf⟩, fun i hi => ?_, fun i hi => ?_⟩
  · have hi : i < dU D := hi
    have u := cv.2.2.2.2.1
    have q := ro (mo (1 + i)) (mo_ne cs (by omega) (by decide) (by omega))
    exact vm_mv (cv.2.2.2.2.2.2.2.1 i hi) (congrFun q 0) (congrFun q 1) (congrFun rj _)
  · have hi : i < dK D := hi
    have u := cv.2.2.2.2.2.1
    have q := ro (mo (17 + i)) (mo_ne cs (by omega) (by decide) (by omega))
    exact vm_mv (cv.2.2.2.2.2.2.2.2 i hi) (congrFun q 0) (congrFun q 1) (congrFun rj _)
/-- one of the day's own ints is written: who, the rain's bits -/
theorem dw_st (cd : CDd dy D S) (e : T = sI S dy 0 v) : CDd dy (v, D.2) T ∧ DS c S T := by
  obtain ⟨od, pa, ma, mo, go, cs, cv⟩ := cd
  obtain ⟨cs2, od2, d2, r2, m2⟩ := dy_st (c := c) cs od e
  have u := cv.2.2.2.2.1
  have k := cv.2.2.2.2.2.1
  exact ⟨⟨od2, pa, ma, mo, go, cs2, by rw [r2]; rfl, by rw [r2]; exact cv.2.1, by rw [r2]; exact cv.2.2.1, by rw [r2]; exact cv.2.2.2.1, u, k, m2 0 (by decide) _ cv.2.2.2.2.2.2.1, fun i hi => m2 _ (by have hi : i < dU D := hi; omega) _ (cv.2.2.2.2.2.2.2.1 i hi), fun i hi => m2 _ (by have hi : i < dK D := hi; omega) _ (cv.2.2.2.2.2.2.2.2 i hi)⟩, d2⟩
theorem dr_st (cd : CDd dy D S) (e : T = sI S dy 1 v) : CDd dy (rnD D v) T ∧ DS c S T := by
  obtain ⟨od, pa, ma, mo, go, cs, cv⟩ := cd
  obtain ⟨cs2, od2, d2, r2, m2⟩ := dy_st (c := c) cs od e
  have u := cv.2.2.2.2.1
  have k := cv.2.2.2.2.2.1
  exact ⟨⟨od2, pa, ma, mo, go, cs2, by rw [r2]; exact cv.1, by rw [r2]; rfl, by rw [r2]; exact cv.2.2.1, by rw [r2]; exact cv.2.2.2.1, u, k, m2 0 (by decide) _ cv.2.2.2.2.2.2.1, fun i hi => m2 _ (by have hi : i < dU D := hi; omega) _ (cv.2.2.2.2.2.2.2.1 i hi), fun i hi => m2 _ (by have hi : i < dK D := hi; omega) _ (cv.2.2.2.2.2.2.2.2 i hi)⟩, d2⟩
theorem sd_X0_begin {w p t : Int32} (cd : CDd dy D S) (h : P_X0_begin dy w p t Q0 S) : P_X0_begin dy w p t (fun T => Q0 T ∧ CDd dy (bgD D w p t) T ∧ DS c S T) S := by
  delta P_X0_begin P_X0_begin_0
  obtain ⟨o1, h⟩ := h
  refine ⟨o1, ?_⟩
  refine cm_X0_end (sd_X0_end (c := c) cd h) h (fun S2 hp h g => ?_)
  have h := h g
  obtain ⟨-, cd2, d2⟩ := hp
  intro S4 q4
  obtain ⟨a5, e5, o5, h⟩ := h S4 q4
  obtain ⟨cd4, d4⟩ := dw_st (c := c) cd2 q4
  refine ⟨a5, e5, o5, fun S6 q6 => ?_⟩
  obtain ⟨a7, e7, o7, h⟩ := h S6 q6
  obtain ⟨cd6, d6⟩ := nw_st (c := c) cd4 e5 q6
  refine ⟨a7, e7, o7, fun S8 q8 => ?_⟩
  have h := h S8 q8
  obtain ⟨cd8, d8⟩ := nt_st (c := c) cd6 e7 q8
  refine cm_X0_begin_28 (lp_X0_begin (c := c) cd8 h) h (fun T hp _ => ⟨hp.1, hp.2.1, ds_tr d2 (ds_tr d4 (ds_tr d6 (ds_tr d8 hp.2.2)))⟩)
end C44
/-! the class's day: undoing and marks -/
section C45
variable {c dy pa ma a b ga gb i j : Nat} {mo go : Nat → Nat} {D : DY} {S T U : HS} {v x y : Int32} {Q : Int32 → HS → Prop} {QJ : Int64 → HS → Prop} {Q0 : HS → Prop} {f : Nat → Nat → Int32} {g : Nat → Nat → Int64}
theorem kp58 (cd : CDd dy D S) (hu : dU D < 16) (h : P_X0_keepForUndo_58 Q0 dy S) : P_X0_keepForUndo_58 (fun T => Q0 T ∧ CDd dy (kpE D) T ∧ DS c S T) dy S := by
  obtain ⟨od, pa, ma, mo, go, cs, cv⟩ := cd
  have cu : (nI (dU D)).toNatClampNeg = dU D := nI_cl (by omega)
  delta P_X0_keepForUndo_58
  obtain ⟨o1, a1, e1, h⟩ := h
  cases cs.2.1.symm.trans e1
  refine ⟨o1, _, e1, fun x2 q2 => ?_⟩
  obtain ⟨o2, i2, a4, e4, a5, e5, o5, h⟩ := h x2 q2
  refine ⟨o2, i2, a4, e4, a5, e5, o5, ?_⟩
  have q2' := q2.trans cv.2.2.1
  rw [q2', cu] at e4
  cases (cs.2.2.2.2.2.1 (dU D) hu).symm.trans e4
  cases cs.1.symm.trans e5
  have m1 := mo_at cs (i := 1 + dU D) (by omega)
  have m0 := mo_at cs (i := 0) (by decide)
  refine cm_X2_copy (sd_X2_copy m1.2.1 m0.2.1 (mo_ne cs (by decide) (by omega) (by omega)) (go_ne cs (by decide) (by omega) (by omega)) h) h (fun S6 hp h g => ?_)
  have h := h g
  obtain ⟨-, f, gg, e, hf, f0, f1, hg, gk⟩ := hp
  obtain ⟨cs6, od6, d6, r6, mm6, mj6⟩ := cp_st (c := c) cs od (i := 1 + dU D) (j := 0) (by omega) (by decide) (by omega) e hf f0 f1 hg gk
  intro x9 q9 x10 q10 S11 q11
  refine ⟨h x9 q9 x10 q10 S11 q11, ?_⟩
  obtain ⟨cs7, od7, d7, r7, m7⟩ := dy_st (c := c) cs6 od6 q11
  refine ⟨⟨od7, pa, ma, mo, go, cs7, ?_⟩, ds_tr d6 d7⟩
  rw [r6] at r7
  have k := cv.2.2.2.2.2.1
  refine ⟨by rw [r7]; exact cv.1, by rw [r7]; exact cv.2.1, ?_, by rw [r7]; exact cv.2.2.2.1, by show dU D + 1 ≤ 16; omega, k, m7 0 (by decide) _ (mm6 0 (by decide) (by omega) _ cv.2.2.2.2.2.2.1), fun i hi => ?_, fun i hi => ?_⟩
  · rw [r7, va_up_self, q10, q9, r6, cv.2.2.1]
    exact nI_add (dU D) 1
  · have hi : i < dU D + 1 := hi
    refine m7 _ (by omega) _ ?_
    show VM S6 (mo (1 + i)) (go (1 + i)) (if i = dU D then dN D else dP D i)
    by_cases z : i = dU D
    · rw [if_pos z, z]
      exact mj6 _ cv.2.2.2.2.2.2.1
    · rw [if_neg z]
      exact mm6 _ (by omega) (by omega) _ (cv.2.2.2.2.2.2.2.1 i (by omega))
  · have hi : i < dK D := hi
    exact m7 _ (by omega) _ (mm6 _ (by omega) (by omega) _ (cv.2.2.2.2.2.2.2.2 i hi))
def sg (i : Nat) : Nat := if i = 0 then 0 else if i < 16 then i + 1 else if i = 16 then 1 else i
theorem sg_lt (h : i < 20) : sg i < 20 := by
  unfold sg
  split
  · omega
  · split
    · omega
    · split <;> omega
theorem sg_inj (h : sg i = sg j) : i = j := by
  unfold sg at h
  split at h <;> split at h <;> first | omega | (split at h <;> first | omega | (split at h <;> first | omega | (split at h <;> first | omega | (split at h <;> omega))))
def wR (S : HS) (r : Nat → Nat → Option Nat) : HS := (hL S, hK S, hN S, fI S, fJ S, r)
theorem rot_st {r : Nat → Nat → Option Nat} (cs : DCs dy pa ma mo go S) (od : ob S dy 0) (e : T = wR S r) (hr : ∀ x, x ≠ pa → r x = fR S x) (hp : ∀ i, i < 16 → r pa i = some (mo (sg (1 + i)))) : DCs dy pa ma (fun i => mo (sg i)) (fun i => go (sg i)) T ∧ ob T dy 0 ∧ DS c S T := by
  subst e
  have op := cs.2.2.2.1
  have ne : ∀ {x k : Nat}, ob S x k → k ≠ 16 → x ≠ pa := fun o hk z => hk (ob_inj o (z ▸ op))
  have rd := hr dy (ne od (by decide))
  have g4 : r dy 4 = fR S dy 4 := by rw [rd]
  have g5 : r dy 5 = fR S dy 5 := by rw [rd]
  have g6 : r dy 6 = fR S dy 6 := by rw [rd]
  refine ⟨⟨g4.trans cs.1, g5.trans cs.2.1, g6.trans cs.2.2.1, op, cs.2.2.2.2.1, hp, fun i hi => ?_, fun i hi => ?_, fun i j hi hj z => sg_inj (cs.2.2.2.2.2.2.2.2.1 _ _ (sg_lt hi) (sg_lt hj) z), fun i j hi hj z => sg_inj (cs.2.2.2.2.2.2.2.2.2 _ _ (sg_lt hi) (sg_lt hj) z)⟩, od, rfl, rfl, rfl, fun x hx => hr x (fun z => hx (z ▸ op.2)), fun _ _ _ _ => rfl⟩
  · have g : r ma i = fR S ma i := by rw [hr ma (fun z => cs.2.2.2.2.1 z.symm)]
    have q : sg (17 + i) = 17 + i := by
      unfold sg
      rw [if_neg (by omega), if_neg (by omega), if_neg (by omega)]
    show r ma i = some (mo (sg (17 + i)))
    rw [q]
    exact g.trans (cs.2.2.2.2.2.2.1 i hi)
  · obtain ⟨q1, q2, q3, q4⟩ := mo_at cs (sg_lt hi)
    refine ⟨q1, ?_, q3, fun q hq x ox z => ?_⟩
    · have g : r (mo (sg i)) 2 = fR S (mo (sg i)) 2 := by rw [hr _ (ne q1 (by decide))]
      exact g.trans q2
    · have hk : q.1 ≠ 16 := by
        simp only [List.mem_cons, List.not_mem_nil, or_false] at hq
        rcases hq with rfl | rfl | rfl | rfl | rfl | rfl | rfl | rfl | rfl | rfl <;> decide
      have g : r x q.2 = fR S x q.2 := by rw [hr x (ne (k := q.1) ox hk)]
      exact q4 q hq x ox (g.symm.trans z)
theorem kp18 (cd : CDd dy D S) (hu : dU D = 16) (e5 : fR S dy 5 = some pa) (ea : fR S pa 0 = some a) (h : P_X0_keepForUndo_18 Q0 dy a 1 S) : P_X0_keepForUndo_18 (fun T => Q0 T ∧ CDd dy (kpE (rotD D)) T ∧ DS c S T) dy a 1 S := by
  obtain ⟨od, pa', ma, mo, go, cs, cv⟩ := cd
  cases cs.2.1.symm.trans e5
  cases (cs.2.2.2.2.2.1 0 (by decide)).symm.trans ea
  intro X hX
  refine h (fun a0 a1 v2 T => (a0 = dy ∧ a1 = mo 1 ∧ ∃ k r, 1 ≤ k ∧ k ≤ 16 ∧ v2 = nI k ∧ T = wR S r ∧ (∀ x, x ≠ pa → r x = fR S x) ∧ ∀ i, i < 16 → r pa i = some (if i + 1 < k then mo (2 + i) else mo (1 + i))) → X a0 a1 v2 T) ?_ ⟨rfl, rfl, 1, fR S, by decide, by decide, rfl, rfl, fun _ _ => rfl, fun i hi => by rw [if_neg (by omega)]; exact cs.2.2.2.2.2.1 i hi⟩
  rintro a0 a1 v2 T h ⟨rfl, rfl, k, r, hk1, hk, rfl, rfl, hr, hp⟩
  apply hX
  have e16 : (16 : Int32).toInt = 16 := by decide
  have nk : (nI k).toInt = (k : Int) := nI_i (by omega)
  have ck : (nI k).toNatClampNeg = k := nI_cl (by omega)
  have ne : a0 ≠ pa := ob_ne od cs.2.2.2.1 (by decide)
  refine ⟨fun cc => ?_, fun cc => ?_⟩
  · have h := h.1 cc
    have kk : k = 16 := by have := le_i cc; omega
    rw [kk] at hp
    obtain ⟨o1, a2, e2, o2, o3, i3, h⟩ := h
    have e2' := e2
    have e2 : r a0 5 = some a2 := e2
    rw [hr a0 ne] at e2
    cases cs.2.1.symm.trans e2
    refine ⟨o1, _, e2', o2, o3, i3, fun S4 q4 S5 q5 => ?_⟩
    have h := h S4 q4 S5 q5
    have c15 : (15 : Int32).toNatClampNeg = 15 := by decide
    rw [c15] at q4
    have rt := rot_st (c := c) (r := u2 r pa 15 (some (mo 1))) (T := S4) cs od q4 (fun x hx => (u2_row _ _ hx).trans (hr x hx)) (fun i hi => by
      by_cases z : i = 15
      · rw [z, u2_self]
        rfl
      · rw [u2_ne _ _ (fun q => z q.2), hp i hi, if_pos (by omega)]
        unfold sg
        rw [if_neg (by omega), if_pos (by omega)]
        have w : 1 + i + 1 = 2 + i := by omega
        rw [w])
    obtain ⟨cs4, od4, d4⟩ := rt
    obtain ⟨cs5, od5, d5, r5, m5⟩ := dy_st (c := c) cs4 od4 q5
    have i4 : fI S4 = fI S ∧ fJ S4 = fJ S := by rw [q4]; exact ⟨rfl, rfl⟩
    have vm4 : ∀ o g w, VM S o g w → VM S4 o g w := fun o g w h => vm_mv h (by rw [i4.1]) (by rw [i4.1]) (by rw [i4.2])
    rw [i4.1] at r5
    have cd5 : CDd a0 (rotD D) S5 := by
      refine ⟨od5, pa, ma, _, _, cs5, by rw [r5]; exact cv.1, by rw [r5]; exact cv.2.1, by rw [r5]; rfl, by rw [r5]; exact cv.2.2.2.1, by show 15 ≤ 16; omega, cv.2.2.2.2.2.1, m5 0 (by decide) _ (vm4 _ _ _ cv.2.2.2.2.2.2.1), fun i hi => ?_, fun i hi => ?_⟩
      · have hi : i < 15 := hi
        refine m5 _ (by omega) _ (vm4 _ _ _ ?_)
        have q : sg (1 + i) = 1 + (i + 1) := by
          unfold sg
          rw [if_neg (by omega), if_pos (by omega)]
          omega
        show VM S (mo (sg (1 + i))) (go (sg (1 + i))) (dP D (i + 1))
        rw [q]
        exact cv.2.2.2.2.2.2.2.1 (i + 1) (by omega)
      · have hi : i < dK D := hi
        have k3 := cv.2.2.2.2.2.1
        refine m5 _ (by omega) _ (vm4 _ _ _ ?_)
        have q : sg (17 + i) = 17 + i := by
          unfold sg
          rw [if_neg (by omega), if_neg (by omega), if_neg (by omega)]
        show VM S (mo (sg (17 + i))) (go (sg (17 + i))) (dM D i)
        rw [q]
        exact cv.2.2.2.2.2.2.2.2 i hi
    refine cm_X0_keepForUndo_58 (kp58 (c := c) cd5 (by show 15 < 16; omega) h) h (fun T hp _ => ⟨hp.1, hp.2.1, ds_tr d4 (ds_tr d5 hp.2.2)⟩)
  · have h := h.2 cc
    have lt := nle_i cc
    obtain ⟨o1, a6, e6, a7, e7, o7, i7, a9, e9, o9, o10, i10, h⟩ := h
    have e6' := e6
    have e7' := e7
    have e6 : r a0 5 = some a6 := e6
    have e7 : r a0 5 = some a7 := e7
    rw [hr a0 ne] at e6 e7
    cases cs.2.1.symm.trans e6
    cases cs.2.1.symm.trans e7
    refine ⟨o1, _, e6', _, e7', o7, i7, a9, e9, o9, o10, i10, fun S11 q11 x12 q12 => h S11 q11 x12 q12 ⟨rfl, rfl, k + 1, u2 r pa (k - 1) (some a9), by omega, by omega, by rw [q12]; exact nI_add k 1, ?_, fun x hx => (u2_row _ _ hx).trans (hr x hx), fun i hi => ?_⟩⟩
    · have ek : (nI k - (1 : Int32)).toNatClampNeg = k - 1 := by
        have : nI k - (1 : Int32) = nI (k - 1) := by
          have w : nI k = nI (k - 1) + (1 : Int32) := by
            have := nI_add (k - 1) 1
            rw [show k - 1 + 1 = k by omega] at this
            exact this.symm
          rw [w, Int32.add_sub_cancel]
        rw [this, nI_cl (by omega)]
      rw [q11, ek]
      rfl
    · have e9 : r pa (nI k).toNatClampNeg = some a9 := e9
      rw [ck, hp k (by omega), if_neg (by omega)] at e9
      by_cases z : i = k - 1
      · rw [z, u2_self, if_pos (by omega), ← e9]
        congr 2
        omega
      · rw [u2_ne _ _ (fun q => z q.2), hp i hi]
        by_cases z2 : i + 1 < k
        · rw [if_pos z2, if_pos (by omega)]
        · rw [if_neg z2, if_neg (by omega)]
theorem sd_X0_keepForUndo (cd : CDd dy D S) (h : P_X0_keepForUndo dy Q0 S) : P_X0_keepForUndo dy (fun T => Q0 T ∧ CDd dy (kpF D) T ∧ DS c S T) S := by
  have cd0 := cd
  obtain ⟨od, pa, ma, mo, go, cs, cv⟩ := cd0
  have u := cv.2.2.2.2.1
  have e16 : (16 : Int32).toInt = 16 := by decide
  delta P_X0_keepForUndo P_X0_keepForUndo_0
  obtain ⟨o1, h⟩ := h
  refine ⟨o1, fun x1 q1 => ?_⟩
  have h := h x1 q1
  replace q1 := q1.trans cv.2.2.1
  have n1 : x1.toInt = (dU D : Int) := by rw [q1, nI_i (by omega)]
  unfold kpF
  refine ⟨fun cc => ?_, fun cc => ?_⟩
  · have := lt_i cc
    rw [if_neg (by omega)]
    exact kp58 cd (by omega) (h.1 cc)
  · have := nlt_i cc
    have hu : dU D = 16 := by omega
    obtain ⟨a3, e3, o3, i3, a5, e5, h⟩ := h.2 cc
    refine ⟨a3, e3, o3, i3, a5, e5, ?_⟩
    rw [if_pos hu]
    exact kp18 cd hu e3 e5 h
theorem sd_X0_takeBack (cd : CDd dy D S) (h : P_X0_takeBack dy Q S) : P_X0_takeBack dy (fun x T => Q x T ∧ ans (0 < dU D) x ∧ CDd dy (if 0 < dU D then tbD D else D) T ∧ DS c S T) S := by
  have cd0 := cd
  obtain ⟨od, pa, ma, mo, go, cs, cv⟩ := cd
  have u := cv.2.2.2.2.1
  have k3 := cv.2.2.2.2.2.1
  have e0 : (0 : Int32).toInt = 0 := by decide
  delta P_X0_takeBack P_X0_takeBack_0
  obtain ⟨o1, h⟩ := h
  refine ⟨o1, fun x1 q1 => ?_⟩
  have h := h x1 q1
  replace q1 := q1.trans cv.2.2.1
  have n1 : x1.toInt = (dU D : Int) := by rw [q1, nI_i (by omega)]
  refine ⟨fun cc => ?_, fun cc => ?_⟩
  · have := lt_i cc
    have hu : 0 < dU D := by omega
    have h := h.1 cc
    intro x3 q3 x4 q4 S5 q5
    obtain ⟨a6, e6, a7, e7, h⟩ := h x3 q3 x4 q4 S5 q5
    obtain ⟨cs5, od5, d5, r5, m5⟩ := dy_st (c := c) cs od q5
    cases cs5.1.symm.trans e6
    cases cs5.2.1.symm.trans e7
    refine ⟨_, e6, _, e7, fun x8 q8 => ?_⟩
    obtain ⟨o8, i8, a10, e10, o10, h⟩ := h x8 q8
    have ek : x8 = nI (dU D - 1) := by
      rw [q8, r5, va_up_self, q4, q3, cv.2.2.1]
      have w : nI (dU D) = nI (dU D - 1) + (1 : Int32) := by
        have := nI_add (dU D - 1) 1
        rw [show dU D - 1 + 1 = dU D by omega] at this
        exact this.symm
      rw [w, Int32.add_sub_cancel]
    refine ⟨o8, i8, a10, e10, o10, ?_⟩
    rw [ek, nI_cl (by omega)] at e10
    cases (cs5.2.2.2.2.2.1 (dU D - 1) (by omega)).symm.trans e10
    have m1 := mo_at cs5 (i := 1 + (dU D - 1)) (by omega)
    have m0 := mo_at cs5 (i := 0) (by decide)
    refine cm_X2_copy (sd_X2_copy m0.2.1 m1.2.1 (mo_ne cs5 (by omega) (by decide) (by omega)) (go_ne cs5 (by omega) (by decide) (by omega)) h) h (fun S6 hp h g => ?_)
    have h := h g
    obtain ⟨-, f, gg, e, hf, f0, f1, hg, gk⟩ := hp
    obtain ⟨cs6, od6, d6, r6, mm6, mj6⟩ := cp_st (c := c) cs5 od5 (i := 0) (j := 1 + (dU D - 1)) (by decide) (by omega) (by omega) e hf f0 f1 hg gk
    rw [if_pos hu]
    refine ⟨h, Or.inl ⟨hu, rfl⟩, ⟨od6, pa, ma, mo, go, cs6, ?_⟩, ds_tr d5 d6⟩
    rw [r5] at r6
    refine ⟨by rw [r6]; exact cv.1, by rw [r6]; exact cv.2.1, ?_, by rw [r6]; exact cv.2.2.2.1, by show dU D - 1 ≤ 16; omega, k3, mj6 _ (m5 _ (by omega) _ (cv.2.2.2.2.2.2.2.1 (dU D - 1) (by omega))), fun i hi => ?_, fun i hi => ?_⟩
    · show fI S6 dy 2 = nI (dU D - 1)
      rw [← ek, q8, r5, r6]
    · have hi : i < dU D - 1 := hi
      exact mm6 _ (by omega) (by omega) _ (m5 _ (by omega) _ (cv.2.2.2.2.2.2.2.1 i (by omega)))
    · have hi : i < dK D := hi
      exact mm6 _ (by omega) (by omega) _ (m5 _ (by omega) _ (cv.2.2.2.2.2.2.2.2 i hi))
  · have := nlt_i cc
    have hu : ¬ 0 < dU D := by omega
    rw [if_neg hu]
    exact ⟨h.2 cc, Or.inr ⟨hu, rfl⟩, cd0, ds_rf c S⟩
theorem sd_X0_setMark (cd : CDd dy D S) (h : P_X0_setMark dy Q S) : P_X0_setMark dy (fun x T => Q x T ∧ x = (if dK D < 3 then nI (dK D) else -1) ∧ CDd dy (if dK D < 3 then mkD D else D) T ∧ DS c S T) S := by
  have cd0 := cd
  obtain ⟨od, pa, ma, mo, go, cs, cv⟩ := cd
  have u := cv.2.2.2.2.1
  have k3 := cv.2.2.2.2.2.1
  have e3 : (3 : Int32).toInt = 3 := by decide
  delta P_X0_setMark P_X0_setMark_0
  obtain ⟨o1, h⟩ := h
  refine ⟨o1, fun x1 q1 => ?_⟩
  have h := h x1 q1
  replace q1 := q1.trans cv.2.2.2.1
  have n1 : x1.toInt = (dK D : Int) := by rw [q1, nI_i (by omega)]
  refine ⟨fun cc => ?_, fun cc => ?_⟩
  · have := lt_i cc
    have hk : dK D < 3 := by omega
    obtain ⟨a3, e3, h⟩ := h.1 cc
    cases cs.2.2.1.symm.trans e3
    refine ⟨_, e3, fun x4 q4 => ?_⟩
    obtain ⟨o4, i4, a6, e6, a7, e7, o7, h⟩ := h x4 q4
    refine ⟨o4, i4, a6, e6, a7, e7, o7, ?_⟩
    rw [q4, cv.2.2.2.1, nI_cl (by omega)] at e6
    cases (cs.2.2.2.2.2.2.1 (dK D) hk).symm.trans e6
    cases cs.1.symm.trans e7
    have m1 := mo_at cs (i := 17 + dK D) (by omega)
    have m0 := mo_at cs (i := 0) (by decide)
    refine cm_X2_copy (sd_X2_copy m1.2.1 m0.2.1 (mo_ne cs (by decide) (by omega) (by omega)) (go_ne cs (by decide) (by omega) (by omega)) h) h (fun S6 hp h g => ?_)
    have h := h g
    obtain ⟨-, f, gg, e, hf, f0, f1, hg, gk⟩ := hp
    obtain ⟨cs6, od6, d6, r6, mm6, mj6⟩ := cp_st (c := c) cs od (i := 17 + dK D) (j := 0) (by omega) (by decide) (by omega) e hf f0 f1 hg gk
    intro x11 q11 x12 q12 S13 q13 x14 q14
    obtain ⟨cs7, od7, d7, r7, m7⟩ := dy_st (c := c) cs6 od6 q13
    have e12 : x12 = nI (dK D + 1) := by
      rw [q12, q11, r6, cv.2.2.2.1]
      exact nI_add (dK D) 1
    rw [if_pos hk, if_pos hk]
    refine ⟨h x11 q11 x12 q12 S13 q13 x14 q14, ?_, ⟨od7, pa, ma, mo, go, cs7, ?_⟩, ds_tr d6 d7⟩
    · rw [q14, r7, va_up_self, e12]
      have w : nI (dK D + 1) = nI (dK D) + (1 : Int32) := (nI_add (dK D) 1).symm
      rw [w, Int32.add_sub_cancel]
    rw [r6] at r7
    refine ⟨by rw [r7]; exact cv.1, by rw [r7]; exact cv.2.1, by rw [r7]; exact cv.2.2.1, by rw [r7, va_up_self, e12]; rfl, u, by show dK D + 1 ≤ 3; omega, m7 0 (by decide) _ (mm6 0 (by decide) (by omega) _ cv.2.2.2.2.2.2.1), fun i hi => ?_, fun i hi => ?_⟩
    · have hi : i < dU D := hi
      exact m7 _ (by omega) _ (mm6 _ (by omega) (by omega) _ (cv.2.2.2.2.2.2.2.1 i hi))
    · have hi : i < dK D + 1 := hi
      refine m7 _ (by omega) _ ?_
      show VM S6 (mo (17 + i)) (go (17 + i)) (if i = dK D then dN D else dM D i)
      by_cases z : i = dK D
      · rw [if_pos z, z]
        exact mj6 _ cv.2.2.2.2.2.2.1
      · rw [if_neg z]
        exact mm6 _ (by omega) (by omega) _ (cv.2.2.2.2.2.2.2.2 i (by omega))
  · have := nlt_i cc
    have hk : ¬ dK D < 3 := by omega
    rw [if_neg hk, if_neg hk]
    exact ⟨h.2 cc, rfl, cd0, ds_rf c S⟩
noncomputable def bkF (D : DY) (v : Int32) : DY := dc (¬ v < 0 ∧ v < nI (dK D)) (bkD D v.toNatClampNeg) D
theorem sd_X0_returnTo (cd : CDd dy D S) (h : P_X0_returnTo dy v Q S) : P_X0_returnTo dy v (fun x T => Q x T ∧ ans (¬ v < 0 ∧ v < nI (dK D)) x ∧ CDd dy (bkF D v) T ∧ DS c S T) S := by
  have cd0 := cd
  obtain ⟨od, pa, ma, mo, go, cs, cv⟩ := cd
  have u := cv.2.2.2.2.1
  have k3 := cv.2.2.2.2.2.1
  delta P_X0_returnTo P_X0_returnTo_0
  refine ⟨fun c1 => ?_, fun c1 => ?_⟩
  · have n : ¬ (¬ v < 0 ∧ v < nI (dK D)) := fun z => z.1 c1
    unfold bkF
    rw [dc_n n]
    exact ⟨h.1 c1, Or.inr ⟨n, rfl⟩, cd0, ds_rf c S⟩
  obtain ⟨o1, h⟩ := h.2 c1
  refine ⟨o1, fun x2 q2 => ?_⟩
  have h := h x2 q2
  replace q2 := q2.trans cv.2.2.2.1
  refine ⟨fun cc => ?_, fun cc => ?_⟩
  · have ok : ¬ v < 0 ∧ v < nI (dK D) := ⟨c1, by rw [← q2]; exact cc⟩
    have hv := ix_lt (by omega) ok
    obtain ⟨a4, e4, a5, e5, o5, i5, a7, e7, o7, h⟩ := h.1 cc
    refine ⟨a4, e4, a5, e5, o5, i5, a7, e7, o7, ?_⟩
    cases cs.1.symm.trans e4
    cases cs.2.2.1.symm.trans e5
    cases (cs.2.2.2.2.2.2.1 v.toNatClampNeg (by omega)).symm.trans e7
    have m1 := mo_at cs (i := 17 + v.toNatClampNeg) (by omega)
    have m0 := mo_at cs (i := 0) (by decide)
    refine cm_X2_copy (sd_X2_copy m0.2.1 m1.2.1 (mo_ne cs (by omega) (by decide) (by omega)) (go_ne cs (by omega) (by decide) (by omega)) h) h (fun S6 hp h g => ?_)
    have h := h g
    obtain ⟨-, f, gg, e, hf, f0, f1, hg, gk⟩ := hp
    obtain ⟨cs6, od6, d6, r6, mm6, mj6⟩ := cp_st (c := c) cs od (i := 0) (j := 17 + v.toNatClampNeg) (by decide) (by omega) (by omega) e hf f0 f1 hg gk
    intro S11 q11
    obtain ⟨cs7, od7, d7, r7, m7⟩ := dy_st (c := c) cs6 od6 q11
    unfold bkF
    rw [dc_y ok]
    refine ⟨h S11 q11, Or.inl ⟨ok, rfl⟩, ⟨od7, pa, ma, mo, go, cs7, ?_⟩, ds_tr d6 d7⟩
    rw [r6] at r7
    refine ⟨by rw [r7]; exact cv.1, by rw [r7]; exact cv.2.1, by rw [r7]; rfl, by rw [r7]; exact cv.2.2.2.1, by show 0 ≤ 16; omega, k3, m7 0 (by decide) _ (mj6 _ (cv.2.2.2.2.2.2.2.2 v.toNatClampNeg hv)), fun i hi => absurd hi (Nat.not_lt_zero i), fun i hi => ?_⟩
    have hi : i < dK D := hi
    exact m7 _ (by omega) _ (mm6 _ (by omega) (by omega) _ (cv.2.2.2.2.2.2.2.2 i hi))
  · have n : ¬ (¬ v < 0 ∧ v < nI (dK D)) := fun z => cc (by rw [q2]; exact z.2)
    unfold bkF
    rw [dc_n n]
    exact ⟨h.2 cc, Or.inr ⟨n, rfl⟩, cd0, ds_rf c S⟩
end C45
/-! the class's day: over the world that is told -/
def WT (w : Nat) (A : AS) (G : GC) (S : HS) : Prop := ob S w 8 ∧ Cnt w A S ∧ (∀ a, fR S w 6 = some a → ob S a 17 ∧ hN S a = 6 ∧ ∀ i o, i < aHs A → fR S a i = some o → ob S o 3 ∧ ∀ j, j < 5 → fI S o j = gRn G i j) ∧ (∀ a, fR S w 8 = some a → ob S a 18 ∧ hN S a = 12 ∧ ∀ i o, i < aR A → fR S a i = some o → ob S o 5 ∧ ∀ j, j < 5 → fI S o j = gRd G i j) ∧ (∀ a, fR S w 9 = some a → ob S a 19 ∧ hN S a = 4 ∧ ∀ i o, i < aW A → fR S a i = some o → ob S o 6 ∧ ∀ j, j < 7 → fI S o j = gWk G i j) ∧ ∀ a, fR S w 7 = some a → ob S a 13 ∧ hN S a = 8 ∧ ∀ i, i < aP A → fI S a i = dripOf (gPk G i) (gPv G i)
def hrO (A : AS) (v : Int32) : Int32 := if aH A = 0 then 0 else v / nI (aH A)
def cwO (A : AS) (G : GC) (v : Int32) : Prop := (¬ v < 0 ∧ v < nI (aP A)) ∧ ¬ dripOf (gPk G v.toNatClampNeg) (gPv G v.toNatClampNeg) = -1
noncomputable def drpO (A : AS) (G : GC) (wk : Nat → Int32) (v : Int32) : Int32 := dc (cwO A G v) (dripOf (gPk G v.toNatClampNeg) (gPv G v.toNatClampNeg) * mx0 (wk 2 - shO wk)) 0
def rm7 (x : Int32) : Int32 := x - x / (65537 : Int32) * (65537 : Int32)
def rm1 (x : Int32) : Int32 := x - x / (100 : Int32) * (100 : Int32)
def drS : Nat → Int32 → Int32
  | 0, s => s
  | k + 1, s => rm7 ((75 : Int32) * drS k s + (74 : Int32))
def drB (G : GC) : Nat → Int32 → Int32
  | 0, _ => 0
  | k + 1, s => if gRn G k 4 ≤ rm1 (drS (k + 1) s) then drB G k s else drB G k s ||| ((1 : Int32) <<< (nI k &&& 31))
section C46
variable {c w dy a b l : Nat} {A : AS} {G : GC} {D : DY} {S T U : HS} {v x y : Int32} {Q : Int32 → HS → Prop} {QJ : Int64 → HS → Prop} {Q0 : HS → Prop}
theorem wt_of {r w1 w2 : Nat} (hI : IV S) (J : CJ c r w1 w2 S) (hc : Cnt w1 A S) (ct : CtB w1 A G S S) (ab : ABd A) : WT w1 A G S := by
  have ow := J.2.2.2.2.2.1
  have el : ∀ fl k M N cnt g q, (8, fl, q, M) ∈ shT → aeK q = k → 16 ≤ q → q < 20 → M ≠ 0 → cnt ≤ M → ElC fl N w1 cnt g S S → ∀ a, fR S w1 fl = some a → ob S a q ∧ hN S a = M ∧ ∀ i o, i < cnt → fR S a i = some o → ob S o k ∧ ∀ j, j < N → fI S o j = g i j := by
    intro fl k M N cnt g q hq hk q1 q2 hM hc h a e
    obtain ⟨a', e', o', n'⟩ := hI.1 _ hq w1 ow
    cases e'.symm.trans e
    have n' : hN S a = M := n'.resolve_left hM
    refine ⟨o', n', fun i o hi ho => ?_⟩
    obtain ⟨o2, p1, p2⟩ := h a e i hi
    cases p1.symm.trans ho
    obtain ⟨y, y1, y2⟩ := hI.2.1 q q1 q2 a o' i (by omega)
    cases y1.symm.trans ho
    exact ⟨hk ▸ y2, p2⟩
  refine ⟨ow, hc, el 6 3 6 5 _ _ 17 (by decide) rfl (by decide) (by decide) (by decide) ab.2.1 ct.1, el 8 5 12 5 _ _ 18 (by decide) rfl (by decide) (by decide) (by decide) ab.2.2.2.1 ct.2.2.1, el 9 6 4 7 _ _ 19 (by decide) rfl (by decide) (by decide) (by decide) ab.2.2.2.2.1 ct.2.2.2.1, fun a e => ?_⟩
  obtain ⟨a', e', o', n'⟩ := hI.1 (8, 7, 13, 8) (by decide) w1 ow
  cases e'.symm.trans e
  exact ⟨o', n'.resolve_left (by decide), ct.2.1 a e⟩
theorem wt_ds (oc : ob S c 9) (d : DS c S T) (h : WT w A G S) : WT w A G T := by
  obtain ⟨h1, h2, h3, h4, h5, h6⟩ := h
  have k8 : ∀ {x k : Nat}, ob S x k → k ≠ 16 → fR T x = fR S x := fun o hk => d.2.2.2.1 _ (by rw [o.2]; exact hk)
  have ki : ∀ {x k : Nat}, ob S x k → k ≠ 9 → k ≠ 0 → k ≠ 2 → fI T x = fI S x := fun o h9 h0 h2 => d.2.2.2.2 _ (ob_ne o oc h9) (by rw [o.2]; exact h0) (by rw [o.2]; exact h2)
  have rw8 := k8 h1 (by decide)
  have iw8 := ki h1 (by decide) (by decide) (by decide)
  refine ⟨ds_o d h1, ?_, fun a e => ?_, fun a e => ?_, fun a e => ?_, fun a e => ?_⟩
  · unfold Cnt
    rw [iw8]
    exact h2
  · rw [rw8] at e
    obtain ⟨o, n, q⟩ := h3 a e
    refine ⟨ds_o d o, by rw [d.2.2.1]; exact n, fun i p hi hp => ?_⟩
    rw [k8 o (by decide)] at hp
    obtain ⟨o2, q2⟩ := q i p hi hp
    exact ⟨ds_o d o2, fun j hj => by rw [ki o2 (by decide) (by decide) (by decide)]; exact q2 j hj⟩
  · rw [rw8] at e
    obtain ⟨o, n, q⟩ := h4 a e
    refine ⟨ds_o d o, by rw [d.2.2.1]; exact n, fun i p hi hp => ?_⟩
    rw [k8 o (by decide)] at hp
    obtain ⟨o2, q2⟩ := q i p hi hp
    exact ⟨ds_o d o2, fun j hj => by rw [ki o2 (by decide) (by decide) (by decide)]; exact q2 j hj⟩
  · rw [rw8] at e
    obtain ⟨o, n, q⟩ := h5 a e
    refine ⟨ds_o d o, by rw [d.2.2.1]; exact n, fun i p hi hp => ?_⟩
    rw [k8 o (by decide)] at hp
    obtain ⟨o2, q2⟩ := q i p hi hp
    exact ⟨ds_o d o2, fun j hj => by rw [ki o2 (by decide) (by decide) (by decide)]; exact q2 j hj⟩
  · rw [rw8] at e
    obtain ⟨o, n, q⟩ := h6 a e
    refine ⟨ds_o d o, by rw [d.2.2.1]; exact n, fun i hi => ?_⟩
    rw [ki o (by decide) (by decide) (by decide)]
    exact q i hi
theorem sw_X8_hasWalker (h8 : WT w A G S) (ab : ABd A) (h : P_X8_hasWalker w v Q S) : P_X8_hasWalker w v (fun x T => Q x T ∧ S = T ∧ ans (¬ v < 0 ∧ v < nI (aW A)) x) S := by
  have hb := ab.2.2.2.2.1
  delta P_X8_hasWalker P_X8_hasWalker_0
  refine ⟨fun c1 => ⟨h.1 c1, rfl, Or.inr ⟨fun z => z.1 c1, rfl⟩⟩, fun c1 => ?_⟩
  obtain ⟨o, h⟩ := h.2 c1
  refine ⟨o, fun x2 e2 => ?_⟩
  have h := h x2 e2
  have e2 := e2.trans h8.2.1.2.2.2.2.1
  rw [e2] at h ⊢
  refine ⟨fun c2 => ⟨h.1 c2, rfl, Or.inr ⟨fun z => absurd z.2 (Int32.not_lt.mpr c2), rfl⟩⟩, fun c2 => ?_⟩
  obtain ⟨a4, e4, o4, h⟩ := h.2 c2
  have n := (h8.2.2.2.2.1 a4 e4).2.1
  refine ⟨a4, e4, o4, fun c3 => ?_, fun c3 => ⟨h.2 c3, rfl, Or.inl ⟨⟨c1, Int32.not_le.mp c2⟩, rfl⟩⟩⟩
  rw [n] at c3
  have q1 := le_i c3
  have q2 := nle_i c2
  rw [nI_i (by omega)] at q1 q2
  omega
theorem sw_X8_hasRoad (h8 : WT w A G S) (ab : ABd A) (h : P_X8_hasRoad w v Q S) : P_X8_hasRoad w v (fun x T => Q x T ∧ S = T ∧ ans (¬ v < 0 ∧ v < nI (aR A)) x) S := by
  have hb := ab.2.2.2.1
  delta P_X8_hasRoad P_X8_hasRoad_0
  refine ⟨fun c1 => ⟨h.1 c1, rfl, Or.inr ⟨fun z => z.1 c1, rfl⟩⟩, fun c1 => ?_⟩
  obtain ⟨o, h⟩ := h.2 c1
  refine ⟨o, fun x2 e2 => ?_⟩
  have h := h x2 e2
  have e2 := e2.trans h8.2.1.2.2.2.1
  rw [e2] at h ⊢
  refine ⟨fun c2 => ⟨h.1 c2, rfl, Or.inr ⟨fun z => absurd z.2 (Int32.not_lt.mpr c2), rfl⟩⟩, fun c2 => ?_⟩
  obtain ⟨a4, e4, o4, h⟩ := h.2 c2
  have n := (h8.2.2.2.1 a4 e4).2.1
  refine ⟨a4, e4, o4, fun c3 => ?_, fun c3 => ⟨h.2 c3, rfl, Or.inl ⟨⟨c1, Int32.not_le.mp c2⟩, rfl⟩⟩⟩
  rw [n] at c3
  have q1 := le_i c3
  have q2 := nle_i c2
  rw [nI_i (by omega)] at q1 q2
  omega
theorem sw_X8_hasHour (h8 : WT w A G S) (ab : ABd A) (h : P_X8_hasHour w v Q S) : P_X8_hasHour w v (fun x T => Q x T ∧ S = T ∧ ans (¬ v < 0 ∧ v < nI (aHs A)) x) S := by
  have hb := ab.2.1
  delta P_X8_hasHour P_X8_hasHour_0
  refine ⟨fun c1 => ⟨h.1 c1, rfl, Or.inr ⟨fun z => z.1 c1, rfl⟩⟩, fun c1 => ?_⟩
  obtain ⟨o, h⟩ := h.2 c1
  refine ⟨o, fun x2 e2 => ?_⟩
  have h := h x2 e2
  have e2 := e2.trans h8.2.1.2.1
  rw [e2] at h ⊢
  refine ⟨fun c2 => ⟨h.1 c2, rfl, Or.inr ⟨fun z => absurd z.2 (Int32.not_lt.mpr c2), rfl⟩⟩, fun c2 => ?_⟩
  obtain ⟨a4, e4, o4, h⟩ := h.2 c2
  have n := (h8.2.2.1 a4 e4).2.1
  refine ⟨a4, e4, o4, fun c3 => ?_, fun c3 => ⟨h.2 c3, rfl, Or.inl ⟨⟨c1, Int32.not_le.mp c2⟩, rfl⟩⟩⟩
  rw [n] at c3
  have q1 := le_i c3
  have q2 := nle_i c2
  rw [nI_i (by omega)] at q1 q2
  omega
theorem sw_X8_hasPlace (h8 : WT w A G S) (ab : ABd A) (h : P_X8_hasPlace w v Q S) : P_X8_hasPlace w v (fun x T => Q x T ∧ S = T ∧ ans (¬ v < 0 ∧ v < nI (aP A)) x) S := by
  have hb := ab.2.2.1
  delta P_X8_hasPlace P_X8_hasPlace_0
  refine ⟨fun c1 => ⟨h.1 c1, rfl, Or.inr ⟨fun z => z.1 c1, rfl⟩⟩, fun c1 => ?_⟩
  obtain ⟨o, h⟩ := h.2 c1
  refine ⟨o, fun x2 e2 => ?_⟩
  have h := h x2 e2
  have e2 := e2.trans h8.2.1.2.2.1
  rw [e2] at h ⊢
  refine ⟨fun c2 => ⟨h.1 c2, rfl, Or.inr ⟨fun z => absurd z.2 (Int32.not_lt.mpr c2), rfl⟩⟩, fun c2 => ?_⟩
  obtain ⟨a4, e4, o4, h⟩ := h.2 c2
  have n := (h8.2.2.2.2.2 a4 e4).2.1
  refine ⟨a4, e4, o4, fun c3 => ?_, fun c3 => ⟨h.2 c3, rfl, Or.inl ⟨⟨c1, Int32.not_le.mp c2⟩, rfl⟩⟩⟩
  rw [n] at c3
  have q1 := le_i c3
  have q2 := nle_i c2
  rw [nI_i (by omega)] at q1 q2
  omega
theorem sw_X8_hourOf (h8 : WT w A G S) (ab : ABd A) (h : P_X8_hourOf w v Q S) : P_X8_hourOf w v (fun x T => Q x T ∧ S = T ∧ x = hrO A v) S := by
  have hb := ab.1
  have e0 : (0 : Int32).toInt = 0 := by decide
  delta P_X8_hourOf P_X8_hourOf_0
  obtain ⟨o, h⟩ := h
  refine ⟨o, fun x1 e1 => ?_⟩
  have h := h x1 e1
  have e1 := e1.trans h8.2.1.1
  have n1 : x1.toInt = (aH A : Int) := by rw [e1, nI_i (by omega)]
  unfold hrO
  refine ⟨fun cc => ⟨h.1 cc, rfl, ?_⟩, fun cc x3 e3 => ?_⟩
  · have := le_i cc
    rw [if_pos (by omega)]
  · have := nle_i cc
    obtain ⟨n0, h⟩ := h.2 cc x3 e3
    refine ⟨n0, fun x5 e5 => ⟨h x5 e5, rfl, ?_⟩⟩
    rw [if_neg (by omega), e5, e3, h8.2.1.1]
theorem sw_X8_canWait (h8 : WT w A G S) (ab : ABd A) (h : P_X8_canWait w v Q S) : P_X8_canWait w v (fun x T => Q x T ∧ S = T ∧ ans (cwO A G v) x) S := by
  delta P_X8_canWait P_X8_canWait_0
  obtain ⟨o, h⟩ := h
  refine ⟨o, ?_⟩
  refine cm_X8_hasPlace (sw_X8_hasPlace h8 ab h) h (fun x3 S1 hp h g b => ?_)
  have h := h g b
  obtain ⟨-, hS, hx⟩ := hp
  subst hS
  refine ⟨fun cc => ⟨h.1 cc, rfl, Or.inr ⟨fun z => an0 hx cc z.1, rfl⟩⟩, fun cc => ?_⟩
  have ok := an1 hx cc
  obtain ⟨a5, e5, o5, i5, h⟩ := h.2 cc
  refine ⟨a5, e5, o5, i5, fun x7 e7 => ?_⟩
  have h := h x7 e7
  have e7 := e7.trans ((h8.2.2.2.2.2 a5 e5).2.2 _ (ix_lt (by have := ab.2.2.1; omega) ok))
  rw [e7] at h ⊢
  exact ⟨fun c2 => ⟨h.1 c2, rfl, Or.inr ⟨fun z => z.2 c2, rfl⟩⟩, fun c2 => ⟨h.2 c2, rfl, Or.inl ⟨⟨ok, c2⟩, rfl⟩⟩⟩
theorem sw_X8_dripOn (h8 : WT w A G S) (ab : ABd A) (h : P_X8_dripOn w a v Q S) : P_X8_dripOn w a v (fun x T => Q x T ∧ S = T ∧ x = drpO A G (fI S a) v) S := by
  delta P_X8_dripOn P_X8_dripOn_0
  obtain ⟨o, h⟩ := h
  refine ⟨o, ?_⟩
  refine cm_X8_canWait (sw_X8_canWait h8 ab h) h (fun x3 S1 hp h g b => ?_)
  have h := h g b
  obtain ⟨-, hS, hx⟩ := hp
  subst hS
  unfold drpO
  refine ⟨fun cc => ⟨h.1 cc, rfl, by rw [dc_n (an0 hx cc)]⟩, fun cc => ?_⟩
  have ok := an1 hx cc
  obtain ⟨a5, e5, o5, i5, h⟩ := h.2 cc
  refine ⟨a5, e5, o5, i5, fun x7 e7 => ?_⟩
  obtain ⟨o7, h⟩ := h x7 e7
  refine ⟨o7, fun x8 e8 => ?_⟩
  have h := h x8 e8
  refine cm_X6_shield (sp_X6_shield h) h (fun x11 S9 hp h g => ?_)
  have h := h g
  obtain ⟨-, hS, h11⟩ := hp
  subst hS
  intro x12 e12
  refine ⟨h x12 e12, rfl, ?_⟩
  rw [dc_y ok, e12, e8, h11, e7, (h8.2.2.2.2.2 a5 e5).2.2 _ (ix_lt (by have := ab.2.2.1; omega) ok.1)]
  rfl
theorem sw_X5_startOf (h : P_X5_startOf a v Q S) : P_X5_startOf a v (fun x T => Q x T ∧ S = T ∧ x = if v = 0 then fI S a 0 else fI S a 1) S := by
  delta P_X5_startOf P_X5_startOf_0
  exact ⟨fun cc => ⟨(h.1 cc).1, fun x e => ⟨(h.1 cc).2 x e, rfl, by rw [if_neg cc, e]⟩⟩, fun cc => ⟨(h.2 cc).1, fun x e => ⟨(h.2 cc).2 x e, rfl, by rw [if_pos cc, e]⟩⟩⟩
theorem sw_X5_endOf (h : P_X5_endOf a v Q S) : P_X5_endOf a v (fun x T => Q x T ∧ S = T ∧ x = if v = 0 then fI S a 1 else fI S a 0) S := by
  delta P_X5_endOf P_X5_endOf_0
  exact ⟨fun cc => ⟨(h.1 cc).1, fun x e => ⟨(h.1 cc).2 x e, rfl, by rw [if_neg cc, e]⟩⟩, fun cc => ⟨(h.2 cc).1, fun x e => ⟨(h.2 cc).2 x e, rfl, by rw [if_pos cc, e]⟩⟩⟩
theorem sw_X0_draw (oc : ob S c 9) (cd : CDd dy D S) (h8 : WT w A G S) (ab : ABd A) (h : P_X0_draw dy w v Q0 S) : P_X0_draw dy w v (fun T => Q0 T ∧ CDd dy (rnD D (drB G (aHs A) v)) T ∧ DS c S T) S := by
  have hb := ab.2.1
  delta P_X0_draw P_X0_draw_0
  obtain ⟨o, h⟩ := h
  refine ⟨o, fun S1 e1 => ?_⟩
  have h := h S1 e1
  obtain ⟨cd1, d1⟩ := dr_st (c := c) cd e1
  intro X hX
  refine h (fun a0 a1 v3 v4 T => (a0 = dy ∧ a1 = w ∧ ∃ k, k ≤ aHs A ∧ v4 = nI k ∧ v3 = drS k v ∧ CDd dy (rnD D (drB G k v)) T ∧ DS c S T) → X a0 a1 v3 v4 T) ?_ ⟨rfl, rfl, 0, Nat.zero_le _, rfl, rfl, cd1, d1⟩
  rintro a0 a1 v3 v4 T h ⟨rfl, rfl, k, hk, rfl, rfl, cdT, dT⟩
  apply hX
  have h8T := wt_ds oc dT h8
  obtain ⟨o1, h⟩ := h
  refine ⟨o1, fun x1 q1 => ?_⟩
  have h := h x1 q1
  have q1 := q1.trans h8T.2.1.2.1
  have n1 : x1.toInt = (aHs A : Int) := by rw [q1, nI_i (by omega)]
  have nk : (nI k).toInt = (k : Int) := nI_i (by omega)
  have ck : (nI k).toNatClampNeg = k := nI_cl (by omega)
  refine ⟨fun cc => ?_, fun cc => ?_⟩
  · have := le_i cc
    have kk : k = aHs A := by omega
    refine ⟨h.1 cc, ?_, dT⟩
    rw [← kk]
    exact cdT
  have lt := nle_i cc
  have h := h.2 cc
  intro x3 q3 x4 q4
  obtain ⟨a5, e5, o5, i5, a7, e7, o7, h⟩ := h x3 q3 x4 q4
  refine ⟨a5, e5, o5, i5, a7, e7, o7, fun x8 q8 => ?_⟩
  have h := h x8 q8
  rw [ck] at e7
  have q8 := q8.trans (((h8T.2.2.1 a5 e5).2.2 k a7 (by omega) e7).2 4 (by decide))
  have q3 : x3 = drS (k + 1) v := q3
  have q4 : x4 = rm1 (drS (k + 1) v) := by rw [q4, q3]; rfl
  rw [q8, q4] at h ⊢
  refine ⟨fun c2 => ?_, fun c2 => ?_⟩
  · have h := h.1 c2
    intro x1 q1
    refine h x1 q1 ⟨rfl, rfl, k + 1, by omega, by rw [q1]; exact nI_add k 1, q3, ?_, dT⟩
    show CDd a0 (rnD D (if gRn G k 4 ≤ rm1 (drS (k + 1) v) then drB G k v else drB G k v ||| ((1 : Int32) <<< (nI k &&& 31)))) T
    rw [if_pos c2]
    exact cdT
  · obtain ⟨o8, h⟩ := h.2 c2
    refine ⟨o8, fun x10 q10 x11 q11 S12 q12 => ?_⟩
    have h := h x10 q10 x11 q11 S12 q12
    obtain ⟨cd2, d2⟩ := dr_st (c := c) cdT q12
    intro x1 q1
    refine h x1 q1 ⟨rfl, rfl, k + 1, by omega, by rw [q1]; exact nI_add k 1, q3, ?_, ds_tr dT d2⟩
    have e10 : x10 = drB G k v := by
      obtain ⟨_, _, _, _, _, _, cv⟩ := cdT
      exact q10.trans cv.2.1
    show CDd a0 (rnD D (if gRn G k 4 ≤ rm1 (drS (k + 1) v) then drB G k v else drB G k v ||| ((1 : Int32) <<< (nI k &&& 31)))) S12
    rw [if_neg c2, ← e10, ← q11]
    exact cd2
/-- now's got is written upon -/
theorem ng_st {g : Nat → Nat → Int64} {gg : Nat} {f : Nat → Int64} (cd : CDd dy D S) (ea : fR S dy 4 = some a) (eg : fR S a 2 = some gg) (e : T = wJ S g) (hd : ∀ d, d ≠ gg → g d = fJ S d) (hf : ∀ k, k < 5 → g gg k = f k) : CDd dy (nwD D ((dN D).1, (dN D).2.1, f)) T ∧ DS c S T := by
  obtain ⟨od, pa, ma, mo, go, cs, cv⟩ := cd
  cases cs.1.symm.trans ea
  cases (mo_at cs (i := 0) (by decide)).2.1.symm.trans eg
  subst e
  refine ⟨⟨od, pa, ma, mo, go, cs_mv cs rfl rfl rfl, cv.1, cv.2.1, cv.2.2.1, cv.2.2.2.1, cv.2.2.2.2.1, cv.2.2.2.2.2.1, ⟨cv.2.2.2.2.2.2.1.1, cv.2.2.2.2.2.2.1.2.1, hf⟩, fun i hi => ?_, fun i hi => ?_⟩, ds_wJ g⟩
  · have hi : i < dU D := hi
    have u := cv.2.2.2.2.1
    exact vm_mv (cv.2.2.2.2.2.2.2.1 i hi) rfl rfl (hd _ (go_ne cs (by omega) (by decide) (by omega)))
  · have hi : i < dK D := hi
    have u := cv.2.2.2.2.2.1
    exact vm_mv (cv.2.2.2.2.2.2.2.2 i hi) rfl rfl (hd _ (go_ne cs (by omega) (by decide) (by omega)))
theorem nw_got (cd : CDd dy D S) (ea : fR S dy 4 = some a) : ob S a 2 ∧ ∃ gg, fR S a 2 = some gg ∧ ob S gg 14 ∧ NW9 LB S gg ∧ fI S a 0 = (dN D).1 ∧ fI S a 1 = (dN D).2.1 ∧ ∀ k, k < 5 → fJ S gg k = (dN D).2.2 k := by
  obtain ⟨od, pa, ma, mo, go, cs, cv⟩ := cd
  cases cs.1.symm.trans ea
  obtain ⟨q1, q2, q3, q4⟩ := mo_at cs (i := 0) (by decide)
  exact ⟨q1, _, q2, q3, q4, cv.2.2.2.2.2.2.1⟩
/-- the leg's rows are none of the day's -/
theorem cd_leg {f : Nat → Nat → Int64} {b0 b1 : Nat} (cd : CDd dy D S) (ol : ob S l 1) (e0 : fR S l 0 = some b0) (e1 : fR S l 1 = some b1) (hf : ∀ d, d ≠ b0 → d ≠ b1 → f d = fJ S d) (e : T = wJ S f) : CDd dy D T ∧ DS c S T := by
  obtain ⟨od, pa, ma, mo, go, cs, cv⟩ := cd
  subst e
  have ng : ∀ i, i < 20 → f (go i) = fJ S (go i) := fun i hi => by
    have q := (mo_at cs hi).2.2.2
    refine hf _ (fun z => ?_) (fun z => ?_)
    · exact q (1, 0) (by decide) l ol (by rw [z]; exact e0)
    · exact q (1, 1) (by decide) l ol (by rw [z]; exact e1)
  have u := cv.2.2.2.2.1
  have k := cv.2.2.2.2.2.1
  exact ⟨⟨od, pa, ma, mo, go, cs_mv cs rfl rfl rfl, cv.1, cv.2.1, cv.2.2.1, cv.2.2.2.1, u, k, vm_mv cv.2.2.2.2.2.2.1 rfl rfl (ng 0 (by decide)), fun i hi => vm_mv (cv.2.2.2.2.2.2.2.1 i hi) rfl rfl (ng _ (by omega)), fun i hi => vm_mv (cv.2.2.2.2.2.2.2.2 i hi) rfl rfl (ng _ (by omega))⟩, ds_wJ f⟩
theorem sd_X2_addFaces (cd : CDd dy D S) (ea : fR S dy 4 = some a) (hb : hN S b = 5) (nb : ∀ gg, fR S a 2 = some gg → b ≠ gg) (h : P_X2_addFaces a b Q0 S) : P_X2_addFaces a b (fun T => Q0 T ∧ CDd dy (nwD D ((dN D).1, (dN D).2.1, fun k => (dN D).2.2 k + fJ S b k)) T ∧ DS c S T) S := by
  obtain ⟨oa, gg, eg, og, -, -, -, vg⟩ := nw_got cd ea
  have nb2 := nb gg eg
  delta P_X2_addFaces P_X2_addFaces_0
  intro X hX
  refine h (fun a0 a1 v2 T => (a0 = a ∧ a1 = b ∧ ∃ k g, k ≤ 5 ∧ v2 = nI k ∧ T = wJ S g ∧ (∀ d, d ≠ gg → g d = fJ S d) ∧ (∀ j, j < 5 → k ≤ j → g gg j = fJ S gg j) ∧ ∀ j, j < k → g gg j = fJ S gg j + fJ S b j) → X a0 a1 v2 T) ?_ ⟨rfl, rfl, 0, fJ S, by decide, rfl, rfl, fun _ _ => rfl, fun _ _ _ => rfl, fun j hj => absurd hj (Nat.not_lt_zero j)⟩
  rintro a0 a1 v2 T h ⟨rfl, rfl, k, g, hk, rfl, rfl, hd, hlt, hj⟩
  apply hX
  have e5 : (5 : Int32).toInt = 5 := by decide
  have nk : (nI k).toInt = (k : Int) := nI_i (by omega)
  have ck : (nI k).toNatClampNeg = k := nI_cl (by omega)
  refine ⟨fun cc => ⟨h.1 cc, ng_st cd ea eg rfl hd (fun j h5 => ?_)⟩, fun cc => ?_⟩
  · rw [hj j (by have := le_i cc; omega), vg j h5]
  obtain ⟨o1, h⟩ := h.2 cc
  have lt := nle_i cc
  refine ⟨o1, fun c2 => ?_, fun c2 => ?_⟩
  · have c2 : nI (hN S a1) ≤ nI k := c2
    rw [hb] at c2
    have := le_i c2
    rw [nI_i (by omega)] at this
    omega
  obtain ⟨o2, a3, e3, o3, i3, h⟩ := h.2 c2
  cases eg.symm.trans e3
  refine ⟨o2, _, e3, o3, i3, fun x5 q5 => ?_⟩
  obtain ⟨i5, h⟩ := h x5 q5
  refine ⟨i5, fun x7 q7 x9 q9 => ?_⟩
  obtain ⟨i9, h⟩ := h x7 q7 x9 q9
  have q5 : x5 = g gg (nI k).toNatClampNeg := q5
  have q7 : x7 = g a1 (nI k).toNatClampNeg := q7
  rw [ck] at q5 q7
  refine ⟨i9, fun S10 q10 x11 q11 => h S10 q10 x11 q11 ⟨rfl, rfl, k + 1, u2 g gg k x9, by omega, by rw [q11]; exact nI_add k 1, by rw [q10, ck]; rfl, fun d hd' => (u2_row _ _ hd').trans (hd d hd'), fun j h5 hj' => ?_, fun j hj' => ?_⟩⟩
  · rw [u2_ne _ _ (by omega)]
    exact hlt j h5 (by omega)
  · by_cases z : j = k
    · rw [z, u2_self, q9, q5, q7, hd a1 nb2, hlt k (by omega) (Nat.le_refl k)]
    · rw [u2_ne _ _ (fun q => z q.2)]
      exact hj j (by omega)
end C46
/-! what the day's calls tell, and what they leave of the day -/
def onD (D : DY) : Prop := ¬ dW D = -1
def MB (A : AS) (v : MO) : Prop := 0 ≤ v.1.toInt ∧ v.1.toInt < (aP A : Int) ∧ 0 ≤ v.2.1.toInt ∧ v.2.1.toInt ≤ 999 ∧ ∀ f, f < 5 → 0 ≤ (v.2.2 f).toInt ∧ (v.2.2 f).toInt ≤ v.2.1.toInt * 3747643200
def DBd (A : AS) (D : DY) : Prop := (dW D = -1 ∧ dU D = 0 ∧ dK D = 0) ∨ (onD D ∧ (¬ dW D < 0 ∧ dW D < nI (aW A)) ∧ (∃ b, dR D = nI b ∧ b < 2 ^ aHs A) ∧ MB A (dN D) ∧ (∀ i, i < dU D → MB A (dP D i)) ∧ ∀ i, i < dK D → MB A (dM D i))
def dayOK (A : AS) (v1 v2 v3 v4 : Int32) : Prop := ((¬ v1 < 0 ∧ v1 < nI (aW A)) ∧ (¬ v2 < 0 ∧ v2 < nI (aP A))) ∧ ¬ (v3 < 0 ∨ 400 < v3) ∧ ¬ (v4 < 0 ∨ 65536 < v4)
noncomputable def tellday (A : AS) (G : GC) (v1 v2 v3 v4 : Int32) : Int32 := dc (dayOK A v1 v2 v3 v4) (drB G (aHs A) v4) (-1)
noncomputable def nxday (A : AS) (G : GC) (D : DY) (v1 v2 v3 v4 : Int32) : DY := dc (dayOK A v1 v2 v3 v4) (rnD (bgD D v1 v2 v3) (drB G (aHs A) v4)) D
noncomputable def tellmark (D : DY) : Int32 := dc (onD D) (if dK D < 3 then nI (dK D) else -1) (-1)
noncomputable def nxmark (D : DY) : DY := dc (onD D) (if dK D < 3 then mkD D else D) D
def nxundo (D : DY) : DY := if 0 < dU D then tbD D else D
section C47
variable {c r w w1 w2 dy a b l b0 b1 : Nat} {A : AS} {G : GC} {D : DY} {S T U : HS} {v v1 v2 v3 v4 x y : Int32} {Q : Int32 → HS → Prop} {QJ : Int64 → HS → Prop} {Q0 : HS → Prop}
theorem cd_c {j : Nat} (oc : ob S c 9) (cd : CDd dy D S) (e : T = sI S c j v) : CDd dy D T := by
  obtain ⟨od, pa, ma, mo, go, cs, cv⟩ := cd
  have u := cv.2.2.2.2.1
  have k := cv.2.2.2.2.2.1
  have ro : ∀ {x q : Nat}, ob S x q → q ≠ 9 → fI T x = fI S x := fun o hq => row_o e (ob_ne o oc hq)
  have rj : fJ T = fJ S := by rw [e]; rfl
  have rd := ro od (by decide)
  have vm : ∀ i, i < 20 → ∀ w, VM S (mo i) (go i) w → VM T (mo i) (go i) w := fun i hi w h => vm_mv h (congrFun (ro (mo_at cs hi).1 (by decide)) 0) (congrFun (ro (mo_at cs hi).1 (by decide)) 1) (congrFun rj _)
  exact ⟨by rw [e]; exact od, pa, ma, mo, go, cs_mv cs (by rw [e]; rfl) (by rw [e]; rfl) (by rw [e]; rfl), by rw [rd]; exact cv.1, by rw [rd]; exact cv.2.1, by rw [rd]; exact cv.2.2.1, by rw [rd]; exact cv.2.2.2.1, u, k, vm 0 (by decide) _ cv.2.2.2.2.2.2.1, fun i hi => vm _ (by omega) _ (cv.2.2.2.2.2.2.2.1 i hi), fun i hi => vm _ (by omega) _ (cv.2.2.2.2.2.2.2.2 i hi)⟩
theorem cd_wh (cd : CDd dy D S) : fI S dy 0 = dW D := by
  obtain ⟨_, _, _, _, _, _, cv⟩ := cd
  exact cv.1
theorem ds_r {k j : Nat} (d : DS c S T) (o : ob S a k) (hk : k ≠ 16) (e : fR S a j = some b) : fR T a j = some b := by
  rw [d.2.2.2.1 a (by rw [o.2]; exact hk)]
  exact e
theorem tl_X9_day (hI : IV S) (J : CJ c r w1 w2 S) (hc : Cnt w1 A S) (ct : CtB w1 A G S S) (ab : ABd A) (e6 : fR S c 6 = some dy) (cd : CDd dy D S) (h : P_X9_day c v1 v2 v3 v4 Q S) : P_X9_day c v1 v2 v3 v4 (fun x T => Q x T ∧ x = tellday A G v1 v2 v3 v4 ∧ CDd dy (nxday A G D v1 v2 v3 v4) T) S := by
  have oc := J.2.2.2.1
  have od := cd.1
  have h8 := wt_of hI J hc ct ab
  have no1 : ¬ dayOK A v1 v2 v3 v4 → P_X9_day_22 Q c S → P_X9_day_22 (fun x T => Q x T ∧ x = tellday A G v1 v2 v3 v4 ∧ CDd dy (nxday A G D v1 v2 v3 v4) T) c S := by
    intro hn h
    delta P_X9_day_22
    obtain ⟨o1, h⟩ := h
    refine ⟨o1, ?_⟩
    refine cm_X9_refuse (sp_X9_refuse h) h (fun x U hp h g => ⟨h g, ?_⟩)
    unfold tellday nxday
    rw [dc_n hn, dc_n hn]
    exact ⟨hp.2.1, cd_c oc cd hp.2.2⟩
  have no2 : ¬ dayOK A v1 v2 v3 v4 → P_X9_day_52 Q c S → P_X9_day_52 (fun x T => Q x T ∧ x = tellday A G v1 v2 v3 v4 ∧ CDd dy (nxday A G D v1 v2 v3 v4) T) c S := by
    intro hn h
    delta P_X9_day_52
    obtain ⟨o1, h⟩ := h
    refine ⟨o1, ?_⟩
    refine cm_X9_refuse (sp_X9_refuse h) h (fun x U hp h g => ⟨h g, ?_⟩)
    unfold tellday nxday
    rw [dc_n hn, dc_n hn]
    exact ⟨hp.2.1, cd_c oc cd hp.2.2⟩
  delta P_X9_day P_X9_day_0
  obtain ⟨o1, a2, e2, o3, h⟩ := h
  cases J.1.symm.trans e2
  refine ⟨o1, _, e2, o3, ?_⟩
  refine cm_X8_hasWalker (sw_X8_hasWalker h8 ab h) h (fun x4 S5 hp h g b => ?_)
  have h := h g b
  obtain ⟨-, hS, hx4⟩ := hp
  subst hS
  refine ⟨fun cc => no1 (fun z => an0 hx4 cc z.1.1) (h.1 cc), fun cc => ?_⟩
  have k1 := an1 hx4 cc
  obtain ⟨a14, e14, o15, h⟩ := h.2 cc
  cases J.1.symm.trans e14
  refine ⟨_, e14, o15, ?_⟩
  refine cm_X8_hasPlace (sw_X8_hasPlace h8 ab h) h (fun x16 S17 hp h g b => ?_)
  have h := h g b
  obtain ⟨-, hS, hx16⟩ := hp
  subst hS
  refine Iff.mp and_comm ⟨fun cc => no1 (fun z => an0 hx16 cc z.1.2) (h.2 cc), fun cc => ?_⟩
  have k2 := an1 hx16 cc
  have h := h.1 cc
  refine ⟨fun c3 => no2 (fun z => z.2.1 (Or.inl c3)) (h.1 c3), fun c3 => ?_⟩
  have h := h.2 c3
  refine ⟨fun c4 => no2 (fun z => z.2.1 (Or.inr c4)) (h.1 c4), fun c4 => ?_⟩
  have h := h.2 c4
  refine ⟨fun c5 => no2 (fun z => z.2.2 (Or.inl c5)) (h.1 c5), fun c5 => ?_⟩
  have h := h.2 c5
  have e7 : (65537 : Int32).toInt = 65537 := by decide
  have e8 : (65536 : Int32).toInt = 65536 := by decide
  refine Iff.mp and_comm ⟨fun c6 => no2 (fun z => z.2.2 (Or.inr (Int32.lt_iff_toInt_lt.mpr (by have := nlt_i c6; omega)))) (h.2 c6), fun c6 => ?_⟩
  obtain ⟨a40, e40, o41, h⟩ := h.1 c6
  cases e6.symm.trans e40
  refine ⟨_, e40, o41, ?_⟩
  have ok : dayOK A v1 v2 v3 v4 := ⟨⟨k1, k2⟩, fun z => z.elim c3 c4, fun z => z.elim c5 (fun q => by have := lt_i q; have := lt_i c6; omega)⟩
  refine cm_X0_begin (sd_X0_begin (c := c) cd h) h (fun S42 hp h g => ?_)
  have h := h g
  obtain ⟨-, cd2, d2⟩ := hp
  obtain ⟨a44, e44, a45, e45, o46, h⟩ := h
  cases (ds_r d2 oc (by decide) e6).symm.trans e44
  cases (ds_r d2 oc (by decide) J.1).symm.trans e45
  refine ⟨_, e44, _, e45, o46, ?_⟩
  have oc2 := ds_o d2 oc
  refine cm_X0_draw (sw_X0_draw oc2 cd2 (wt_ds oc d2 h8) ab h) h (fun S47 hp h g => ?_)
  have h := h g
  obtain ⟨-, cd3, d3⟩ := hp
  have d3 := ds_tr d2 d3
  obtain ⟨a49, e49, o50, h⟩ := h
  cases (ds_r d3 oc (by decide) e6).symm.trans e49
  refine ⟨_, e49, o50, fun x51 q51 => ?_⟩
  have h := h x51 q51
  refine cm_X9_grant (sp_X9_grant h) h (fun x U hp h g => ⟨h g, ?_⟩)
  unfold tellday nxday
  rw [dc_y ok, dc_y ok]
  refine ⟨?_, cd_c (ds_o d3 oc) cd3 hp.2.2⟩
  obtain ⟨_, _, _, _, _, _, cv⟩ := cd3
  rw [hp.2.1, q51]
  exact cv.2.1
theorem tl_X9_undo (oc : ob S c 9) (e6 : fR S c 6 = some dy) (cd : CDd dy D S) (h : P_X9_undo c Q S) : P_X9_undo c (fun x T => Q x T ∧ ans (0 < dU D) x ∧ CDd dy (nxundo D) T) S := by
  delta P_X9_undo P_X9_undo_0
  obtain ⟨o1, a1, e1, o2, h⟩ := h
  cases e6.symm.trans e1
  refine ⟨o1, _, e1, o2, ?_⟩
  refine cm_X0_takeBack (sd_X0_takeBack (c := c) cd h) h (fun x4 S2 hp h g b => ?_)
  have h := h g b
  obtain ⟨-, hx, cd2, d2⟩ := hp
  have en : ∀ {z : Int32}, (z = 0 ↔ 0 < dU D) → P_X9_undo_17 Q c z S2 → P_X9_undo_17 (fun x T => Q x T ∧ ans (0 < dU D) x ∧ CDd dy (nxundo D) T) c z S2 := by
    intro z hz h
    delta P_X9_undo_17
    obtain ⟨o3, h⟩ := h
    refine ⟨o3, ?_⟩
    refine cm_X9_refusedBy (sp_X9_refusedBy h) h (fun x3 S1 hp h g b => ?_)
    have h := h g b
    obtain ⟨-, hS, ha⟩ := hp
    exact ⟨fun cc => ⟨h.1 cc, Or.inr ⟨fun q => an1 ha cc (hz.mpr q), rfl⟩, cd_c (ds_o d2 oc) cd2 hS⟩, fun cc => ⟨h.2 cc, Or.inl ⟨hz.mp (Classical.byContradiction (an0 ha cc)), rfl⟩, cd_c (ds_o d2 oc) cd2 hS⟩⟩
  exact ⟨fun cc => en ⟨fun z => absurd z (by decide), fun z => absurd z (an0 hx cc)⟩ (h.1 cc), fun cc => en ⟨fun _ => an1 hx cc, fun _ => rfl⟩ (h.2 cc)⟩
theorem tl_X9_back (oc : ob S c 9) (e6 : fR S c 6 = some dy) (cd : CDd dy D S) (h : P_X9_back c v Q S) : P_X9_back c v (fun x T => Q x T ∧ ans (¬ v < 0 ∧ v < nI (dK D)) x ∧ CDd dy (bkF D v) T) S := by
  delta P_X9_back P_X9_back_0
  obtain ⟨o1, a1, e1, o2, h⟩ := h
  cases e6.symm.trans e1
  refine ⟨o1, _, e1, o2, ?_⟩
  refine cm_X0_returnTo (sd_X0_returnTo (c := c) cd h) h (fun x4 S2 hp h g b => ?_)
  have h := h g b
  obtain ⟨-, hx, cd2, d2⟩ := hp
  have en : ∀ {z : Int32}, (z = 0 ↔ (¬ v < 0 ∧ v < nI (dK D))) → P_X9_back_17 Q c z S2 → P_X9_back_17 (fun x T => Q x T ∧ ans (¬ v < 0 ∧ v < nI (dK D)) x ∧ CDd dy (bkF D v) T) c z S2 := by
    intro z hz h
    delta P_X9_back_17
    obtain ⟨o3, h⟩ := h
    refine ⟨o3, ?_⟩
    refine cm_X9_refusedBy (sp_X9_refusedBy h) h (fun x3 S1 hp h g b => ?_)
    have h := h g b
    obtain ⟨-, hS, ha⟩ := hp
    exact ⟨fun cc => ⟨h.1 cc, Or.inr ⟨fun q => an1 ha cc (hz.mpr q), rfl⟩, cd_c (ds_o d2 oc) cd2 hS⟩, fun cc => ⟨h.2 cc, Or.inl ⟨hz.mp (Classical.byContradiction (an0 ha cc)), rfl⟩, cd_c (ds_o d2 oc) cd2 hS⟩⟩
  exact ⟨fun cc => en ⟨fun z => absurd z (by decide), fun z => absurd z (an0 hx cc)⟩ (h.1 cc), fun cc => en ⟨fun _ => an1 hx cc, fun _ => rfl⟩ (h.2 cc)⟩
theorem nI_nm1 {k : Nat} (h : k < 100000) : ¬ nI k = (-1 : Int32) := fun z => by
  have e : (nI k).toInt = (k : Int) := nI_i h
  rw [z] at e
  have : (-1 : Int32).toInt = -1 := by decide
  omega
theorem tl_X9_mark (oc : ob S c 9) (e6 : fR S c 6 = some dy) (cd : CDd dy D S) (h : P_X9_mark c Q S) : P_X9_mark c (fun x T => Q x T ∧ x = tellmark D ∧ CDd dy (nxmark D) T) S := by
  delta P_X9_mark P_X9_mark_0
  obtain ⟨o1, a1, e1, o2, h⟩ := h
  cases e6.symm.trans e1
  refine ⟨o1, _, e1, o2, ?_⟩
  refine cm_X0_isOn (sd_X0_isOn cd h) h (fun x4 S2 hp h g b => ?_)
  have h := h g b
  obtain ⟨-, hS, hx⟩ := hp
  subst hS
  refine Iff.mp and_comm ⟨fun cc => ?_, fun cc => ?_⟩
  · have h := h.2 cc
    have hn : ¬ onD D := an0 hx cc
    refine cm_X9_refuse (sp_X9_refuse h) h (fun x U hp h g => ⟨h g, ?_⟩)
    unfold tellmark nxmark
    rw [dc_n hn, dc_n hn]
    exact ⟨hp.2.1, cd_c oc cd hp.2.2⟩
  · have on : onD D := an1 hx cc
    obtain ⟨a6, e6', o6, h⟩ := h.1 cc
    cases e6.symm.trans e6'
    refine ⟨_, e6', o6, ?_⟩
    refine cm_X0_setMark (sd_X0_setMark (c := c) cd h) h (fun x9 S7 hp h g => ?_)
    have h := h g
    obtain ⟨-, hx9, cd7, d7⟩ := hp
    unfold tellmark nxmark
    rw [dc_y on, dc_y on]
    refine ⟨fun c2 => ?_, fun c2 => ?_⟩
    · have h := h.1 c2
      refine cm_X9_grant (sp_X9_grant h) h (fun x U hp h g => ⟨h g, hp.2.1.trans hx9, cd_c (ds_o d7 oc) cd7 hp.2.2⟩)
    · have h := h.2 c2
      refine cm_X9_refuse (sp_X9_refuse h) h (fun x U hp h g => ⟨h g, hp.2.1.trans (c2.symm.trans hx9), cd_c (ds_o d7 oc) cd7 hp.2.2⟩)
end C47
end
section
/-! what got, wetness and soaked tell, in the class -/
section C48
variable {c r w w1 w2 dy a b l b0 b1 : Nat} {A : AS} {G : GC} {D : DY} {S T U : HS} {v v1 v2 v3 v4 x y : Int32} {Q : Int32 → HS → Prop} {QJ : Int64 → HS → Prop} {Q0 : HS → Prop}
theorem db_on (db : DBd A D) (on : onD D) : (¬ dW D < 0 ∧ dW D < nI (aW A)) ∧ (∃ b, dR D = nI b ∧ b < 2 ^ aHs A) ∧ MB A (dN D) ∧ (∀ i, i < dU D → MB A (dP D i)) ∧ ∀ i, i < dK D → MB A (dM D i) := db.elim (fun z => absurd z.1 on) (fun z => z.2)
end C48
/-! what go tells, and leaves, in the class -/
def goB (G : GC) (v1 v2 : Int32) : Int32 := if v2 = 0 then gRd G v1.toNatClampNeg 0 else gRd G v1.toNatClampNeg 1
def goT (G : GC) (v1 v2 : Int32) : Int32 := if v2 = 0 then gRd G v1.toNatClampNeg 1 else gRd G v1.toNatClampNeg 0
def goM (G : GC) (v1 v3 : Int32) : Int32 := (gRd G v1.toNatClampNeg 3 + v3 - 1) / v3
def goC (A : AS) (G : GC) (D : DY) (v1 v2 v3 : Int32) : Prop := (onD D ∧ (¬ v1 < 0 ∧ v1 < nI (aR A)) ∧ (v2 = 0 ∨ v2 = 1)) ∧ spOK G (dW D) v3 ∧ goB G v1 v2 = (dN D).1 ∧ (dN D).2.1 + goM G v1 v3 ≤ 999
def rnO (A : AS) (D : DY) (t : Int32) : Prop := (¬ hrO A t < 0 ∧ hrO A t < nI (aHs A)) ∧ ((dR D >>> (hrO A t &&& 31)) &&& (1 : Int32)) = 1
noncomputable def goG (A : AS) (G : GC) (D : DY) (v1 v2 v3 : Int32) : Nat → Int64 := fun k => dc (rnO A D (dN D).2.1) ((dN D).2.2 k + ptM (gRn G (hrO A (dN D).2.1).toNatClampNeg) (gRd G v1.toNatClampNeg) (gWk G (dW D).toNatClampNeg) v2 v3 k) ((dN D).2.2 k)
noncomputable def tellgo (A : AS) (G : GC) (D : DY) (v1 v2 v3 : Int32) : Int32 := dc (goC A G D v1 v2 v3) ((dN D).2.1 + goM G v1 v3) (-1)
noncomputable def nxgo (A : AS) (G : GC) (D : DY) (v1 v2 v3 : Int32) : DY := dc (goC A G D v1 v2 v3) (nwD (kpF D) (goT G v1 v2, (dN D).2.1 + goM G v1 v3, goG A G D v1 v2 v3)) D
section C49
variable {c r w w1 w2 dy a b l b0 b1 : Nat} {A : AS} {G : GC} {D : DY} {S T U : HS} {v v1 v2 v3 v4 x y : Int32} {Q : Int32 → HS → Prop} {QJ : Int64 → HS → Prop} {Q0 : HS → Prop}
theorem kpF_N (D : DY) : dN (kpF D) = dN D ∧ dW (kpF D) = dW D ∧ dR (kpF D) = dR D ∧ dK (kpF D) = dK D ∧ dM (kpF D) = dM D := by
  unfold kpF
  by_cases h : dU D = 16
  · rw [if_pos h]; exact ⟨rfl, rfl, rfl, rfl, rfl⟩
  · rw [if_neg h]; exact ⟨rfl, rfl, rfl, rfl, rfl⟩
theorem cd_g {p t : Int32} {f f' : Nat → Int64} (h : ∀ k, k < 5 → f k = f' k) (cd : CDd dy (nwD D (p, t, f)) S) : CDd dy (nwD D (p, t, f')) S := by
  obtain ⟨od, pa, ma, mo, go, cs, h1, h2, h3, h4, h5, h6, h7, h8, h9⟩ := cd
  exact ⟨od, pa, ma, mo, go, cs, h1, h2, h3, h4, h5, h6, ⟨h7.1, h7.2.1, fun k hk => (h7.2.2 k hk).trans (h k hk)⟩, h8, h9⟩
theorem go243 {o : Nat} {e : Int32} (oc : ob S c 9) (oo : ob S o 5) (e6 : fR S c 6 = some dy) (cd : CDd dy D S) (h : P_X9_go_243 Q c v2 o e S) : P_X9_go_243 (fun x T => Q x T ∧ x = e ∧ CDd dy (nwD D ((if v2 = 0 then fI S o 1 else fI S o 0), e, (dN D).2.2)) T) c v2 o e S := by
  delta P_X9_go_243
  obtain ⟨o1, a1, e1, o2, a2, e2, o3, h⟩ := h
  cases e6.symm.trans e1
  refine ⟨o1, _, e1, o2, _, e2, o3, ?_⟩
  refine cm_X5_endOf (sw_X5_endOf h) h (fun x5 S3 hp h g => ?_)
  have h := h g
  obtain ⟨-, hS, h5⟩ := hp
  subst hS
  obtain ⟨o4, h⟩ := h
  refine ⟨o4, fun S6 q6 => ?_⟩
  obtain ⟨a7, e7, o7, a8, e8, o8, h⟩ := h S6 q6
  obtain ⟨cd6, d6⟩ := nw_st (c := c) cd e2 q6
  cases (ds_r d6 oc (by decide) e6).symm.trans e7
  refine ⟨_, e7, o7, _, e8, o8, fun S9 q9 => ?_⟩
  have h := h S9 q9
  obtain ⟨cd9, d9⟩ := nt_st (c := c) cd6 e8 q9
  refine cm_X9_grant (sp_X9_grant h) h (fun x U hp h g => ⟨h g, hp.2.1, ?_⟩)
  rw [← h5]
  exact cd_c (ds_o d9 (ds_o d6 oc)) cd9 hp.2.2
theorem tl_X9_go (hI : IV S) (J : CJ c r w1 w2 S) (hc : Cnt w1 A S) (ct : CtB w1 A G S S) (ab : ABd A) (gb : GBd A G) (lg : LG c l b0 b1 S) (e6 : fR S c 6 = some dy) (cd : CDd dy D S) (db : DBd A D) (h : P_X9_go c v1 v2 v3 Q S) : P_X9_go c v1 v2 v3 (fun x T => Q x T ∧ x = tellgo A G D v1 v2 v3 ∧ CDd dy (nxgo A G D v1 v2 v3) T) S := by
  have oc := J.2.2.2.1
  have h8 := wt_of hI J hc ct ab
  have no0 : ∀ {k : Int32} {Q1 : Int32 → HS → Prop}, ¬ goC A G D v1 v2 v3 → P_X9_refuse c k (fun x3 S1 => Gr S S1 → Q1 x3 S1) S → P_X9_refuse c k (fun x3 S1 => Gr S S1 → (Q1 x3 S1 ∧ x3 = tellgo A G D v1 v2 v3 ∧ CDd dy (nxgo A G D v1 v2 v3) S1)) S := by
    intro k Q1 hn h
    refine cm_X9_refuse (sp_X9_refuse h) h (fun x U hp h g => ⟨h g, ?_⟩)
    unfold tellgo nxgo
    rw [dc_n hn, dc_n hn]
    exact ⟨hp.2.1, cd_c oc cd hp.2.2⟩
  have no : ¬ goC A G D v1 v2 v3 → P_X9_go_45 Q c S → P_X9_go_45 (fun x T => Q x T ∧ x = tellgo A G D v1 v2 v3 ∧ CDd dy (nxgo A G D v1 v2 v3) T) c S := by
    intro hn h
    delta P_X9_go_45
    obtain ⟨o1, h⟩ := h
    exact ⟨o1, no0 hn h⟩
  delta P_X9_go P_X9_go_0
  obtain ⟨o1, a2, e2, o3, h⟩ := h
  cases e6.symm.trans e2
  refine ⟨o1, _, e2, o3, ?_⟩
  refine cm_X0_isOn (sd_X0_isOn cd h) h (fun x4 S5 hp h g b => ?_)
  have h := h g b
  obtain ⟨-, hS, hx⟩ := hp
  subst hS
  refine ⟨fun cc => no (fun z => an0 hx cc z.1.1) (h.1 cc), fun cc => ?_⟩
  have on : onD D := an1 hx cc
  have dbo := db_on db on
  obtain ⟨a14, e14, a15, e15, o16, h⟩ := h.2 cc
  cases J.1.symm.trans e14
  cases e6.symm.trans e15
  refine ⟨_, e14, _, e15, o16, fun x17 q17 => ?_⟩
  obtain ⟨o18, h⟩ := h x17 q17
  have q17 := q17.trans (cd_wh cd)
  refine ⟨o18, ?_⟩
  refine cm_X8_hasWalker (sw_X8_hasWalker h8 ab h) h (fun x19 S20 hp h g b => ?_)
  have h := h g b
  obtain ⟨-, hS, hx19⟩ := hp
  subst hS
  rw [q17] at hx19
  refine ⟨fun c2 => absurd dbo.1 (an0 hx19 c2), fun c2 => ?_⟩
  obtain ⟨a29, e29, o30, h⟩ := h.2 c2
  cases J.1.symm.trans e29
  refine ⟨_, e29, o30, ?_⟩
  refine cm_X8_hasRoad (sw_X8_hasRoad h8 ab h) h (fun x31 S32 hp h g b => ?_)
  have h := h g b
  obtain ⟨-, hS, hx31⟩ := hp
  subst hS
  refine ⟨fun c3 => no (fun z => an0 hx31 c3 z.1.2.1) (h.1 c3), fun c3 => ?_⟩
  have kr := an1 hx31 c3
  have h := h.2 c3
  refine cm_X9_isWay (sp_X9_isWay h) h (fun x41 S42 hp h g b => ?_)
  have h := h g b
  obtain ⟨-, hS, hx41⟩ := hp
  subst hS
  refine Iff.mp and_comm ⟨fun c4 => no (fun z => an0 hx41 c4 z.1.2.2) (h.2 c4), fun c4 => ?_⟩
  have kw := an1 hx41 c4
  have h := h.1 c4
  obtain ⟨a46, e46, o47, a48, e48, a49, e49, o50, h⟩ := h
  cases J.1.symm.trans e46
  cases e6.symm.trans e49
  refine ⟨_, e46, o47, _, e48, _, e49, o50, fun x51 q51 => ?_⟩
  obtain ⟨o52, i53, a54, e54, a55, e55, o56, a57, e57, o58, i59, a60, e60, o61, h⟩ := h x51 q51
  have q51 := q51.trans (cd_wh cd)
  cases J.1.symm.trans e55
  refine ⟨o52, i53, _, e54, _, e55, o56, _, e57, o58, i59, _, e60, o61, ?_⟩
  rw [q51] at e54
  have iw := ix_lt (by have := ab.2.2.2.2.1; omega) dbo.1
  have ir := ix_lt (by have := ab.2.2.2.1; omega) kr
  have wk := ((h8.2.2.2.2.1 _ e48).2.2 _ _ iw e54)
  have rd := ((h8.2.2.2.1 _ e57).2.2 _ _ ir e60)
  have bw := gb.2.2.2 _ iw
  have bd := gb.2.2.1 _ ir
  have w5 := wk.2 5 (by decide)
  have w6 := wk.2 6 (by decide)
  refine cm_X6_canGo (sp_X6_canGo (by rw [w5]; exact bw.2.2.2.2.2.1.1) (by rw [w6]; exact bw.2.2.2.2.2.2.2) h) h (fun x62 S63 hp h g b => ?_)
  have h := h g b
  obtain ⟨-, hS, hx62⟩ := hp
  subst hS
  rw [w5, w6] at hx62
  replace hx62 : ans (spOK G (dW D) v3) x62 := hx62
  refine Iff.mp and_comm ⟨fun c5 => no0 (fun z => an0 hx62 c5 z.2.1) (h.2 c5), fun c5 => ?_⟩
  have ks := an1 hx62 c5
  obtain ⟨s1, s9, sv⟩ := ok_v bw ks
  obtain ⟨o67, h⟩ := h.1 c5
  refine ⟨o67, ?_⟩
  refine cm_X5_startOf (sw_X5_startOf h) h (fun x68 S69 hp h g => ?_)
  have h := h g
  obtain ⟨-, hS, h68⟩ := hp
  subst hS
  have h68 : x68 = goB G v1 v2 := by
    rw [h68, rd.2 0 (by decide), rd.2 1 (by decide)]
    rfl
  obtain ⟨a71, e71, o72, a73, e73, o74, h⟩ := h
  cases e6.symm.trans e71
  obtain ⟨-, gg, eg, og, ng, vp, vt, vg⟩ := nw_got cd e73
  refine ⟨_, e71, o72, _, e73, o74, fun x75 q75 => ?_⟩
  have h := h x75 q75
  have q75 := q75.trans vp
  rw [h68, q75] at h ⊢
  refine Iff.mp and_comm ⟨fun c6 => no0 (fun z => c6 z.2.2.1) (h.2 c6), fun c6 => ?_⟩
  have h := h.1 c6
  obtain ⟨a77, e77, o78, a79, e79, o80, h⟩ := h
  cases e6.symm.trans e77
  cases e73.symm.trans e79
  refine ⟨_, e77, o78, _, e79, o80, fun x81 q81 => ?_⟩
  have h := h x81 q81
  have q81 := q81.trans vt
  refine cm_X5_minutesAt (sp_X5_minutesAt s1 h) h (fun x82 S83 hp h g => ?_)
  have h := h g
  obtain ⟨-, hS, h82⟩ := hp
  subst hS
  have h82 : x82 = goM G v1 v3 := by
    rw [h82, rd.2 3 (by decide)]
    rfl
  intro x85 q85
  have h := h x85 q85
  have q85 : x85 = (dN D).2.1 + goM G v1 v3 := by rw [q85, q81, h82]
  refine Iff.mp and_comm ⟨fun c7 => no0 (fun z => c7 (by rw [q85]; exact z.2.2.2)) (h.2 c7), fun c7 => ?_⟩
  have ok : goC A G D v1 v2 v3 := ⟨⟨on, kr, kw⟩, ks, c6, by rw [← q85]; exact c7⟩
  obtain ⟨a87, e87, o88, h⟩ := h.1 c7
  cases e6.symm.trans e87
  refine ⟨_, e87, o88, ?_⟩
  refine cm_X0_keepForUndo (sd_X0_keepForUndo (c := c) cd h) h (fun S89 hp h g => ?_)
  have h := h g
  obtain ⟨-, cd9, d9⟩ := hp
  have oc9 := ds_o d9 oc
  have h89 := wt_ds oc d9 h8
  obtain ⟨kN, kW, kR, -, -⟩ := kpF_N D
  have e69 := ds_r d9 oc (by decide) e6
  have e29' := ds_r d9 oc (by decide) J.1
  obtain ⟨a91, e91, a92, e92, o93, a94, e94, o95, h⟩ := h
  cases e29'.symm.trans e91
  cases e69.symm.trans e92
  obtain ⟨-, gg9, eg9, og9, ng9, vp9, vt9, vg9⟩ := nw_got cd9 e94
  refine ⟨_, e91, _, e92, o93, _, e94, o95, fun x96 q96 => ?_⟩
  obtain ⟨o97, h⟩ := h x96 q96
  have q96 : x96 = (dN D).2.1 := by rw [q96, vt9, kN]
  refine ⟨o97, ?_⟩
  refine cm_X8_hourOf (sw_X8_hourOf h89 ab h) h (fun x98 S99 hp h g => ?_)
  have h := h g
  obtain ⟨-, hS, h98⟩ := hp
  subst hS
  rw [q96] at h98
  obtain ⟨a101, e101, o102, h⟩ := h
  cases e29'.symm.trans e101
  refine ⟨_, e101, o102, ?_⟩
  refine cm_X8_hasHour (sw_X8_hasHour h89 ab h) h (fun x103 S104 hp h g b => ?_)
  have h := h g b
  obtain ⟨-, hS, hx103⟩ := hp
  subst hS
  rw [h98] at hx103
  have rd9 : fI S89 a60 = fI S a60 := d9.2.2.2.2 _ (ob_ne rd.1 oc (by decide)) (by rw [rd.1.2]; decide) (by rw [rd.1.2]; decide)
  have ot9 : (if v2 = 0 then fI S89 a60 1 else fI S89 a60 0) = goT G v1 v2 := by
    rw [rd9, rd.2 0 (by decide), rd.2 1 (by decide)]
    rfl
  have dry : ¬ rnO A D (dN D).2.1 → P_X9_go_243 Q c v2 a60 x85 S89 → P_X9_go_243 (fun x T => Q x T ∧ x = tellgo A G D v1 v2 v3 ∧ CDd dy (nxgo A G D v1 v2 v3) T) c v2 a60 x85 S89 := by
    intro hn h
    refine cm_X9_go_243 (go243 oc9 (ds_o d9 rd.1) e69 cd9 h) h (fun x T hp hq => ⟨hq, ?_, ?_⟩)
    · unfold tellgo
      rw [dc_y ok, hp.2.1, q85]
    · have hp := hp.2.2
      rw [ot9, q85, kN] at hp
      unfold nxgo
      rw [dc_y ok]
      refine cd_g (fun k hk => ?_) hp
      unfold goG
      rw [dc_n hn]
  refine ⟨fun c8 => dry (fun z => an0 hx103 c8 z.1) (h.1 c8), fun c8 => ?_⟩
  have kh := an1 hx103 c8
  obtain ⟨a127, e127, o128, h⟩ := h.2 c8
  cases e69.symm.trans e127
  refine ⟨_, e127, o128, ?_⟩
  refine cm_X0_rainsIn (sd_X0_rainsIn cd9 h) h (fun x129 S130 hp h g b => ?_)
  have h := h g b
  obtain ⟨-, hS, hx129⟩ := hp
  subst hS
  rw [h98, kR] at hx129
  refine ⟨fun c9 => dry (fun z => an0 hx129 c9 ⟨z.1.1, Int32.lt_iff_toInt_lt.mpr ?_, z.2⟩) (h.1 c9), fun c9 => ?_⟩
  · have q := lt_i z.1.2
    have := ab.2.1
    rw [nI_i (by omega)] at q
    have e6 : (6 : Int32).toInt = 6 := by decide
    omega
  have rn : rnO A D (dN D).2.1 := ⟨kh, (an1 hx129 c9).2.2⟩
  have h := h.2 c9
  have ol := lg.2.1
  obtain ⟨a153, e153, a154, e154, o155, a156, e156, o157, i158, a159, e159, o160, h⟩ := h
  cases (ds_r d9 oc (by decide) lg.1).symm.trans e153
  cases e29'.symm.trans e154
  refine ⟨_, e153, _, e154, o155, _, e156, o157, i158, _, e159, o160, ?_⟩
  have ih := ix_lt (by have := ab.2.1; omega) kh
  rw [h98] at e159
  have rn9 := ((h89.2.2.1 _ e156).2.2 _ _ ih e159)
  have wk9 : fI S89 a54 = fI S a54 := d9.2.2.2.2 _ (ob_ne wk.1 oc (by decide)) (by rw [wk.1.2]; decide) (by rw [wk.1.2]; decide)
  have l0 := ds_r d9 ol (by decide) lg.2.2.1
  have l1 := ds_r d9 ol (by decide) lg.2.2.2.1
  have ol9 := ds_o d9 ol
  refine cm_X1_wetOf (sp_X1_wetOf sv l0 l1 lg.2.2.2.2 h) h (fun x161 S162 hp h g => ?_)
  have h := h g
  obtain ⟨-, f, hS, fo, fk, -⟩ := hp
  have wq : ∀ k, k < 5 → f b0 k = ptM (gRn G (hrO A (dN D).2.1).toNatClampNeg) (gRd G v1.toNatClampNeg) (gWk G (dW D).toNatClampNeg) v2 v3 k := fun k hk => by
    rw [fk k hk, wtJ_c (rn' := gRn G (hrO A (dN D).2.1).toNatClampNeg) (rd' := gRd G v1.toNatClampNeg) (wk' := gWk G (dW D).toNatClampNeg) rn9.2 (fun j hj => by rw [rd9]; exact rd.2 j hj) (fun j hj => by rw [wk9]; exact wk.2 j hj)]
    exact wt_pt (gb.1 _ ih) bd bw s1 s9 k hk
  obtain ⟨cd10, d10⟩ := cd_leg (c := c) cd9 ol9 l0 l1 fo hS
  have oc10 := ds_o d10 oc9
  have e610 := ds_r d10 oc9 (by decide) e69
  obtain ⟨a164, e164, o165, a166, e166, a167, e167, o168, a169, e169, o170, h⟩ := h
  cases e610.symm.trans e164
  cases (ds_r d10 oc9 (by decide) (ds_r d9 oc (by decide) lg.1)).symm.trans e167
  cases (ds_r d10 ol9 (by decide) l0).symm.trans e169
  refine ⟨_, e164, o165, _, e166, _, e167, o168, _, e169, o170, ?_⟩
  have n5 : hN S162 b0 = 5 := by
    obtain ⟨b', k0, -, n0⟩ := hI.1 (1, 0, 14, 5) (by decide) l ol
    cases k0.symm.trans lg.2.2.1
    rw [d10.2.2.1, d9.2.2.1]
    exact n0.resolve_left (by decide)
  have nb : ∀ gg, fR S162 a166 2 = some gg → b0 ≠ gg := fun gg e z => by
    obtain ⟨-, gg', eg', -, ng', -⟩ := nw_got cd10 e166
    cases eg'.symm.trans e
    exact ng' (1, 0) (by decide) l (ds_o d10 ol9) (by rw [← z]; exact e169)
  refine cm_X2_addFaces (sd_X2_addFaces (c := c) cd10 e166 n5 nb h) h (fun S171 hp h g => ?_)
  have h := h g
  obtain ⟨-, cd11, d11⟩ := hp
  have d911 := ds_tr d10 d11
  have oc11 := ds_o d911 oc9
  have rd11 : fI S171 a60 = fI S89 a60 := d911.2.2.2.2 _ (ob_ne rd.1 oc (by decide)) (by rw [(ds_o d9 rd.1).2]; decide) (by rw [(ds_o d9 rd.1).2]; decide)
  refine cm_X9_go_243 (go243 oc11 (ds_o d911 (ds_o d9 rd.1)) (ds_r d911 oc9 (by decide) e69) cd11 h) h (fun x T hp hq => ⟨hq, ?_, ?_⟩)
  · unfold tellgo
    rw [dc_y ok, hp.2.1, q85]
  · have hp := hp.2.2
    rw [rd11, ot9, q85] at hp
    unfold nxgo
    rw [dc_y ok]
    refine cd_g (D := kpF D) (fun k hk => ?_) hp
    show (dN (kpF D)).2.2 k + fJ S162 b0 k = goG A G D v1 v2 v3 k
    unfold goG
    rw [dc_y rn, kN, hS]
    show (dN D).2.2 k + f b0 k = _
    rw [wq k hk]
end C49
/-! what stay answers, and leaves, in the class -/
def stC (A : AS) (G : GC) (D : DY) (n : Int32) : Prop := onD D ∧ ¬ (n < 1 ∨ 60 < n) ∧ cwO A G (dN D).1 ∧ (dN D).2.1 + n ≤ 999
noncomputable def stX (A : AS) (G : GC) (D : DY) : Int64 := (drpO A G (gWk G (dW D).toNatClampNeg) (dN D).1).toInt64 * 2520
noncomputable def stJ (A : AS) (D : DY) (x : Int64) (t : Int32) : Nat → Int64 → Int64
  | 0, g => g
  | k + 1, g => dc (rnO A D (t + nI k)) (stJ A D x t k g + x) (stJ A D x t k g)
noncomputable def stG (A : AS) (G : GC) (D : DY) (k : Nat) : Nat → Int64 := fun f => if f = 0 then stJ A D (stX A G D) (dN D).2.1 k ((dN D).2.2 0) else (dN D).2.2 f
noncomputable def nxstay (A : AS) (G : GC) (D : DY) (n : Int32) : DY := dc (stC A G D n) (nwD (kpF D) ((dN D).1, (dN D).2.1 + n, stG A G D n.toNatClampNeg)) D
section C50
variable {c r w w1 w2 dy a b l b0 b1 : Nat} {A : AS} {G : GC} {D : DY} {S T U : HS} {v v1 v2 v3 v4 x y : Int32} {Q : Int32 → HS → Prop} {QJ : Int64 → HS → Prop} {Q0 : HS → Prop}
theorem bt_lt : ∀ m : Fin 64, ∀ h : Fin 6, ((nI m.1 >>> (nI h.1 &&& 31)) &&& (1 : Int32)) = 1 → ¬ m.1 < 2 ^ h.1 := by decide +kernel
theorem rn_6 (ab : ABd A) (hb : ∃ b, dR D = nI b ∧ b < 2 ^ aHs A) {t : Int32} (h0 : ¬ hrO A t < 0) (h6 : hrO A t < 6) (hq : ((dR D >>> (hrO A t &&& 31)) &&& (1 : Int32)) = 1) : rnO A D t := by
  obtain ⟨m, e, lt⟩ := hb
  have a6 := ab.2.1
  have e6 : (6 : Int32).toInt = 6 := by decide
  have e0 : (0 : Int32).toInt = 0 := by decide
  have q0 := nlt_i h0
  have q6 := lt_i h6
  have m64 : m < 64 := Nat.lt_of_lt_of_le lt (by
    have : 2 ^ aHs A ≤ 2 ^ 6 := Nat.pow_le_pow_right (by decide) a6
    exact this)
  have hk : (hrO A t).toNatClampNeg < 6 := ix_lt (k := 6) (by decide) ⟨h0, h6⟩
  have ek : hrO A t = nI (hrO A t).toNatClampNeg := by
    apply Int32.toInt_inj.mp
    rw [nI_i (by omega)]
    have : ((hrO A t).toNatClampNeg : Int) = (hrO A t).toInt := by
      rw [Int32.toNatClampNeg]
      omega
    exact this.symm
  refine ⟨⟨h0, Int32.lt_iff_toInt_lt.mpr ?_⟩, hq⟩
  rw [nI_i (by omega)]
  rw [e, ek] at hq
  have z := bt_lt ⟨m, m64⟩ ⟨(hrO A t).toNatClampNeg, hk⟩ hq
  have z : ¬ m < 2 ^ (hrO A t).toNatClampNeg := z
  have : (hrO A t).toNatClampNeg < aHs A := by
    rcases Nat.lt_or_ge (hrO A t).toNatClampNeg (aHs A) with q | q
    · exact q
    · exact absurd (Nat.lt_of_lt_of_le lt (Nat.pow_le_pow_right (by decide) q)) z
  have e3 : (hrO A t).toInt = (((hrO A t).toNatClampNeg : Nat) : Int) := by
    rw [Int32.toNatClampNeg]
    omega
  omega
theorem sw_X9_stayTrouble (oc : ob S c 9) (eW : fR S c 2 = some w) (h8 : WT w A G S) (ab : ABd A) (e6 : fR S c 6 = some dy) (cd : CDd dy D S) (db : DBd A D) (h : P_X9_stayTrouble c v Q S) : P_X9_stayTrouble c v (fun x T => Q x T ∧ S = T ∧ (x = 0 ↔ stC A G D v)) S := by
  delta P_X9_stayTrouble P_X9_stayTrouble_0
  obtain ⟨o1, a1, e1, o2, h⟩ := h
  cases e6.symm.trans e1
  refine ⟨o1, _, e1, o2, ?_⟩
  refine cm_X0_isOn (sd_X0_isOn cd h) h (fun x4 S2 hp h g b => ?_)
  have h := h g b
  obtain ⟨-, hS, hx⟩ := hp
  subst hS
  refine ⟨fun cc => ⟨h.1 cc, rfl, fun z => absurd z (by decide), fun z => absurd z.1 (an0 hx cc)⟩, fun cc => ?_⟩
  have on : onD D := an1 hx cc
  have dbo := db_on db on
  obtain ⟨a6, e6a, a7, e7, o7, h⟩ := h.2 cc
  cases eW.symm.trans e6a
  cases e6.symm.trans e7
  refine ⟨_, e6a, _, e7, o7, fun x8 q8 => ?_⟩
  obtain ⟨o8, h⟩ := h x8 q8
  have q8 := q8.trans (cd_wh cd)
  refine ⟨o8, ?_⟩
  refine cm_X8_hasWalker (sw_X8_hasWalker h8 ab h) h (fun x11 S9 hp h g b => ?_)
  have h := h g b
  obtain ⟨-, hS, hx11⟩ := hp
  subst hS
  rw [q8] at hx11
  refine Iff.mp and_comm ⟨fun c2 => absurd dbo.1 (an0 hx11 c2), fun c2 => ?_⟩
  have h := h.1 c2
  refine ⟨fun c3 => ⟨h.1 c3, rfl, fun z => absurd z (by decide), fun z => absurd (Or.inl c3) z.2.1⟩, fun c3 => ?_⟩
  have h := h.2 c3
  refine Iff.mp and_comm ⟨fun c4 => ⟨h.2 c4, rfl, fun z => absurd z (by decide), fun z => absurd (Or.inr (Int32.not_le.mp c4)) z.2.1⟩, fun c4 => ?_⟩
  have nm : ¬ (v < 1 ∨ 60 < v) := fun z => z.elim c3 (fun q => absurd c4 (Int32.not_le.mpr q))
  have h := h.1 c4
  obtain ⟨a15, e15, a16, e16, o16, a17, e17, o17, h⟩ := h
  cases eW.symm.trans e15
  cases e6.symm.trans e16
  obtain ⟨-, gg, eg, og, ng, vp, vt, vg⟩ := nw_got cd e17
  refine ⟨_, e15, _, e16, o16, _, e17, o17, fun x18 q18 => ?_⟩
  obtain ⟨o18, h⟩ := h x18 q18
  have q18 := q18.trans vp
  refine ⟨o18, ?_⟩
  refine cm_X8_canWait (sw_X8_canWait h8 ab h) h (fun x21 S19 hp h g b => ?_)
  have h := h g b
  obtain ⟨-, hS, hx21⟩ := hp
  subst hS
  rw [q18] at hx21
  refine Iff.mp and_comm ⟨fun c5 => ⟨h.2 c5, rfl, fun z => absurd z (by decide), fun z => absurd z.2.2.1 (an0 hx21 c5)⟩, fun c5 => ?_⟩
  have cw := an1 hx21 c5
  have h := h.1 c5
  obtain ⟨a23, e23, o23, a24, e24, o24, h⟩ := h
  cases e6.symm.trans e23
  cases e17.symm.trans e24
  refine ⟨_, e23, o23, _, e24, o24, fun x25 q25 => ?_⟩
  have h := h x25 q25
  have q25 := q25.trans vt
  rw [q25] at h ⊢
  exact ⟨fun c6 => ⟨h.1 c6, rfl, fun _ => ⟨on, nm, cw, c6⟩, fun _ => rfl⟩, fun c6 => ⟨h.2 c6, rfl, fun z => absurd z (by decide), fun z => absurd z.2.2.2 c6⟩⟩
theorem st111 {X58 X' : Nat → Int32 → Int64 → Int32 → HS → Prop} {Q' : Int32 → HS → Prop} {n : Int32} {xx : Int64} {v4 : Int32} (oc : ob S c 9) (e6 : fR S c 6 = some dy) (cd : CDd dy D S) (hX : ∀ T x6, x6 = v4 + 1 → CDd dy (nwD D ((dN D).1, (dN D).2.1 + 1, (dN D).2.2)) T → DS c S T → X58 c n xx x6 T → X' c n xx x6 T) (h : P_X9_stay_111 Q X58 c n xx v4 S) : P_X9_stay_111 Q' X' c n xx v4 S := by
  delta P_X9_stay_111
  obtain ⟨o1, a1, e1, o2, a2, e2, o3, h⟩ := h
  cases e6.symm.trans e1
  obtain ⟨-, gg, eg, og, ng, vp, vt, vg⟩ := nw_got cd e2
  refine ⟨o1, _, e1, o2, _, e2, o3, fun x3 q3 x4 q4 S5 q5 x6 q6 => ?_⟩
  have h := h x3 q3 x4 q4 S5 q5 x6 q6
  obtain ⟨cd5, d5⟩ := nt_st (c := c) cd e2 q5
  refine hX S5 x6 q6 ?_ d5 h
  rw [q4, q3, vt] at cd5
  exact cd5
theorem lp_X9_stay {n : Int32} {xx : Int64} (oc : ob S c 9) (eW : fR S c 2 = some w) (h8 : WT w A G S) (ab : ABd A) (e6 : fR S c 6 = some dy) (cd : CDd dy (kpF D) S) (hb : ∃ b, dR D = nI b ∧ b < 2 ^ aHs A) (hn : 1 ≤ n.toInt ∧ n.toInt ≤ 60) (hx : xx * 2520 = stX A G D) (h : P_X9_stay_58 Q c n xx 0 S) : P_X9_stay_58 (fun x T => Q x T ∧ x = 1 ∧ CDd dy (nwD (kpF D) ((dN D).1, (dN D).2.1 + n, stG A G D n.toNatClampNeg)) T) c n xx 0 S := by
  obtain ⟨kN, kW, kR, -, -⟩ := kpF_N D
  have cn : n = nI n.toNatClampNeg := by
    apply Int32.toInt_inj.mp
    have : (n.toNatClampNeg : Int) = n.toInt := by
      rw [Int32.toNatClampNeg]
      omega
    rw [nI_i (by omega), this]
  have nn : (n.toNatClampNeg : Int) = n.toInt := by
    rw [Int32.toNatClampNeg]
    omega
  intro X hX
  refine h (fun a0 a1 a2 v4 T => (a0 = c ∧ a1 = n ∧ a2 = xx ∧ ∃ k, k ≤ n.toNatClampNeg ∧ v4 = nI k ∧ CDd dy (nwD (kpF D) ((dN D).1, (dN D).2.1 + nI k, stG A G D k)) T ∧ DS c S T) → X a0 a1 a2 v4 T) ?_ ⟨rfl, rfl, rfl, 0, Nat.zero_le _, rfl, ?_, ds_rf c S⟩
  · rintro a0 a1 a2 v4 T h ⟨rfl, rfl, rfl, k, hk, rfl, cdT, dT⟩
    apply hX
    have nk : (nI k).toInt = (k : Int) := nI_i (by omega)
    refine ⟨fun cc => ?_, fun cc => ?_⟩
    · have := le_i cc
      have kk : k = a1.toNatClampNeg := by omega
      refine ⟨h.1 cc, rfl, ?_⟩
      rw [kk, ← cn] at cdT
      exact cdT
    have lt := nle_i cc
    have ocT := ds_o dT oc
    have e6T := ds_r dT oc (by decide) e6
    have eWT := ds_r dT oc (by decide) eW
    have h8T := wt_ds oc dT h8
    obtain ⟨o1, a2', e2, a3, e3, a4, e4, o4, a5, e5, o5, h⟩ := h.2 cc
    cases e6T.symm.trans e2
    cases eWT.symm.trans e3
    cases e6T.symm.trans e4
    obtain ⟨-, gg, eg, og, ng, vp, vt, vg⟩ := nw_got cdT e5
    refine ⟨o1, _, e2, _, e3, _, e4, o4, _, e5, o5, fun x6 q6 => ?_⟩
    obtain ⟨o6, h⟩ := h x6 q6
    have q6 : x6 = (dN D).2.1 + nI k := q6.trans vt
    refine ⟨o6, ?_⟩
    refine cm_X8_hourOf (sw_X8_hourOf h8T ab h) h (fun x9 S7 hp h g => ?_)
    have h := h g
    obtain ⟨-, hS, h9⟩ := hp
    subst hS
    rw [q6] at h9
    obtain ⟨o9, h⟩ := h
    refine ⟨o9, ?_⟩
    refine cm_X0_rainsIn (sd_X0_rainsIn cdT h) h (fun x12 S10 hp h g b => ?_)
    have h := h g b
    obtain ⟨-, hS, hx12⟩ := hp
    subst hS
    have dR' : dR (nwD (kpF D) ((dN D).1, (dN D).2.1 + nI k, stG A G D k)) = dR D := kR
    rw [dR', h9] at hx12
    have fin : ∀ (g : Nat → Int64), (∀ f, f < 5 → g f = stG A G D (k + 1) f) → ∀ U, CDd dy (nwD (kpF D) ((dN D).1, (dN D).2.1 + nI k, g)) U → DS a0 S U → P_X9_stay_111 Q (fun a0_1 a1_1 a2_1 v4 T => (a0_1 = a0 ∧ a1_1 = a1 ∧ a2_1 = a2 ∧ ∃ k, k ≤ a1.toNatClampNeg ∧ v4 = nI k ∧ CDd dy (nwD (kpF D) ((dN D).1, (dN D).2.1 + nI k, stG A G D k)) T ∧ DS a0 S T) → X a0_1 a1_1 a2_1 v4 T) a0 a1 a2 (nI k) U → P_X9_stay_111 (fun x T => Q x T ∧ x = 1 ∧ CDd dy (nwD (kpF D) ((dN D).1, (dN D).2.1 + a1, stG A G D a1.toNatClampNeg)) T) X a0 a1 a2 (nI k) U := by
      intro g hg U cdU dU h
      refine st111 (ds_o dU oc) (ds_r dU oc (by decide) e6) cdU (fun T x6 q6 cdT dT' h => h ⟨rfl, rfl, rfl, k + 1, by omega, by rw [q6]; exact nI_add k 1, ?_, ds_tr dU dT'⟩) h
      have e : (dN D).2.1 + nI k + 1 = (dN D).2.1 + nI (k + 1) := by
        rw [Int32.add_assoc]
        exact congrArg _ (nI_add k 1)
      have cdT : CDd dy (nwD (kpF D) ((dN D).1, (dN D).2.1 + nI k + 1, g)) T := cdT
      rw [e] at cdT
      exact cd_g hg cdT
    refine ⟨fun c2 => fin _ (fun f hf => ?_) _ cdT dT (h.1 c2), fun c2 => ?_⟩
    · have nr : ¬ rnO A D ((dN D).2.1 + nI k) := fun z => an0 hx12 c2 ⟨z.1.1, Int32.lt_iff_toInt_lt.mpr (by
        have q := lt_i z.1.2
        have := ab.2.1
        rw [nI_i (by omega)] at q
        have e6 : (6 : Int32).toInt = 6 := by decide
        omega), z.2⟩
      unfold stG
      show _ = if f = 0 then dc (rnO A D ((dN D).2.1 + nI k)) _ _ else _
      rw [dc_n nr]
    · have hr := an1 hx12 c2
      have rn := rn_6 ab hb hr.1 hr.2.1 hr.2.2
      have h := h.2 c2
      obtain ⟨a14, e14, o14, a15, e15, o15, a16, e16, o16, i16, h⟩ := h
      cases e6T.symm.trans e14
      cases e5.symm.trans e15
      cases eg.symm.trans e16
      refine ⟨_, e14, o14, _, e15, o15, _, e16, o16, i16, fun x18 q18 x20 q20 => ?_⟩
      obtain ⟨i20, h⟩ := h x18 q18 x20 q20
      refine ⟨i20, fun S21 q21 => ?_⟩
      have h := h S21 q21
      have c0 : (0 : Int32).toNatClampNeg = 0 := by decide
      rw [c0] at q18 q21
      have q18 : x18 = stG A G D k 0 := q18.trans (vg 0 (by decide))
      have es := ng_st (c := a0) (g := u2 (fJ T) gg 0 x20) (f := fun f => if f = 0 then x20 else stG A G D k f) cdT e5 eg (T := S21) (by rw [q21]; rfl) (fun d hd => u2_row _ _ hd) (fun f hf => by
        by_cases z : f = 0
        · rw [z, u2_self, if_pos rfl]
        · rw [u2_ne _ _ (fun q => z q.2), if_neg z]
          exact vg f hf)
      refine fin (fun f => if f = 0 then x20 else stG A G D k f) (fun f hf => ?_) S21 es.1 (ds_tr dT es.2) h
      unfold stG
      show _ = if f = 0 then dc (rnO A D ((dN D).2.1 + nI k)) _ _ else _
      rw [dc_y rn]
      by_cases z : f = 0
      · rw [if_pos z, if_pos z, q20, q18, hx]
        rfl
      · rw [if_neg z, if_neg z, if_neg z]
  · have e : (dN D).2.1 + nI 0 = (dN D).2.1 := by
      rw [nI_0, Int32.add_zero]
    rw [e]
    have g0 : stG A G D 0 = (dN D).2.2 := by
      funext f
      unfold stG
      by_cases z : f = 0
      · rw [if_pos z, z]; rfl
      · rw [if_neg z]
    rw [g0]
    have q : nwD (kpF D) ((dN D).1, (dN D).2.1, (dN D).2.2) = kpF D := by
      show nwD (kpF D) (dN D) = kpF D
      rw [← kN]
      rfl
    rw [q]
    exact cd
theorem tl_X9_stay (hI : IV S) (J : CJ c r w1 w2 S) (hc : Cnt w1 A S) (ct : CtB w1 A G S S) (ab : ABd A) (e6 : fR S c 6 = some dy) (cd : CDd dy D S) (db : DBd A D) (h : P_X9_stay c v Q S) : P_X9_stay c v (fun x T => Q x T ∧ ans (stC A G D v) x ∧ CDd dy (nxstay A G D v) T) S := by
  have oc := J.2.2.2.1
  have h8 := wt_of hI J hc ct ab
  delta P_X9_stay P_X9_stay_0
  obtain ⟨o1, h⟩ := h
  refine ⟨o1, ?_⟩
  refine cm_X9_stayTrouble (sw_X9_stayTrouble oc J.1 h8 ab e6 cd db h) h (fun x3 S1 hp h g => ?_)
  have h := h g
  obtain ⟨-, hS, h3⟩ := hp
  subst hS
  refine cm_X9_refusedBy (sp_X9_refusedBy h) h (fun x6 S4 hp h g b => ?_)
  have h := h g b
  obtain ⟨-, hS, h6⟩ := hp
  have cd4 := cd_c oc cd hS
  have d4 : DS c S S4 := ds_c hS
  refine Iff.mp and_comm ⟨fun cc => ?_, fun cc => ?_⟩
  · have hn : ¬ stC A G D v := fun z => an1 h6 cc (h3.mpr z)
    unfold nxstay
    rw [dc_n hn]
    exact ⟨h.2 cc, Or.inr ⟨hn, rfl⟩, cd4⟩
  have ok : stC A G D v := h3.mp (Classical.byContradiction (an0 h6 cc))
  have on := ok.1
  have dbo := db_on db on
  have oc4 := ds_o d4 oc
  have e64 := ds_r d4 oc (by decide) e6
  have h := h.1 cc
  obtain ⟨a8, e8, o8, h⟩ := h
  cases e64.symm.trans e8
  refine ⟨_, e8, o8, ?_⟩
  refine cm_X0_keepForUndo (sd_X0_keepForUndo (c := c) cd4 h) h (fun S9 hp h g => ?_)
  have h := h g
  obtain ⟨-, cd9, d9⟩ := hp
  have d9 := ds_tr d4 d9
  have oc9 := ds_o d9 oc
  have h89 := wt_ds oc d9 h8
  obtain ⟨kN, kW, kR, -, -⟩ := kpF_N D
  have e69 := ds_r d9 oc (by decide) e6
  have eW9 := ds_r d9 oc (by decide) J.1
  obtain ⟨a12, e12, a13, e13, o13, a14, e14, a15, e15, o15, h⟩ := h
  cases eW9.symm.trans e12
  cases eW9.symm.trans e13
  cases e69.symm.trans e15
  refine ⟨_, e12, _, e13, o13, _, e14, _, e15, o15, fun x16 q16 => ?_⟩
  obtain ⟨o16, i16, a18, e18, a19, e19, o19, a20, e20, o20, h⟩ := h x16 q16
  have q16 := (q16.trans (cd_wh cd9)).trans kW
  cases e69.symm.trans e19
  refine ⟨o16, i16, _, e18, _, e19, o19, _, e20, o20, fun x21 q21 => ?_⟩
  obtain ⟨o21, h⟩ := h x21 q21
  obtain ⟨-, gg, eg, og, ng, vp, vt, vg⟩ := nw_got cd9 e20
  have q21 : x21 = (dN D).1 := by rw [q21, vp, kN]
  refine ⟨o21, ?_⟩
  rw [q16] at e18
  have iw := ix_lt (by have := ab.2.2.2.2.1; omega) dbo.1
  have wk := ((h89.2.2.2.2.1 _ e14).2.2 _ _ iw e18).2
  refine cm_X8_dripOn (sw_X8_dripOn h89 ab h) h (fun x24 S22 hp h g => ?_)
  have h := h g
  obtain ⟨-, hS, h24⟩ := hp
  subst hS
  intro x25 q25
  have h := h x25 q25
  have e1 : (1 : Int32).toInt = 1 := by decide
  have e60 : (60 : Int32).toInt = 60 := by decide
  have n1 := nlt_i (fun z => ok.2.1 (Or.inl z))
  have n2 := nlt_i (fun z => ok.2.1 (Or.inr z))
  have hx : x25 * 2520 = stX A G D := by
    unfold stX drpO
    rw [q25, h24, q21]
    unfold drpO
    rw [shO_c wk, wk 2 (by decide)]
  refine cm_X9_stay_58 (lp_X9_stay oc9 eW9 h89 ab e69 cd9 dbo.2.1 ⟨by omega, by omega⟩ hx h) h (fun x T hp hq => ⟨hq, Or.inl ⟨ok, hp.2.1⟩, ?_⟩)
  unfold nxstay
  rw [dc_y ok]
  exact hp.2.2
end C50
end
