section
abbrev kjL_X11_led : List (Nat × Nat) := []
set_option maxRecDepth 20000 in
set_option maxHeartbeats 1000000 in
theorem kj_X11_led_80 {L : List (Nat × Nat)} (hU : ∀ q ∈ L, q ∈ njT) (hL : ∀ q ∈ kjL_X11_led, q ∈ L) {Q : Int32 → HS → Prop} {X9 X9_2 : Nat → Int32 → Int32 → Int32 → HS → Prop} {v0 : Nat} {v1 : Int32} {v2 : Int32} {v3 : Int32} {S0 S : HS} (h : P_X11_led_80 Q X9 v0 v1 v2 v3 S) (K : KJ L S0 S) (hX9 : ∀ (u0 : Nat) (u1 : Int32) (u2 : Int32) (u3 : Int32) (u4 : HS), X9 u0 u1 u2 u3 u4 → KJ L S0 u4 → X9_2 u0 u1 u2 u3 u4) : P_X11_led_80 (fun r T => Q r T ∧ KJ L S0 T) X9_2 v0 v1 v2 v3 S := by
  delta P_X11_led_80 at h ⊢
  intro x2 e1
  have h := h x2 e1
  exact hX9 _ _ _ _ _ h K
set_option maxRecDepth 20000 in
set_option maxHeartbeats 1000000 in
theorem kj_X11_led_70 {L : List (Nat × Nat)} (hU : ∀ q ∈ L, q ∈ njT) (hL : ∀ q ∈ kjL_X11_led, q ∈ L) {Q : Int32 → HS → Prop} {X9 X9_2 : Nat → Int32 → Int32 → Int32 → HS → Prop} {v0 : Nat} {v1 : Int32} {v2 : Int32} {v3 : Int32} {S0 S : HS} (h : P_X11_led_70 Q X9 v0 v1 v2 v3 S) (K : KJ L S0 S) (hX9 : ∀ (u0 : Nat) (u1 : Int32) (u2 : Int32) (u3 : Int32) (u4 : HS), X9 u0 u1 u2 u3 u4 → KJ L S0 u4 → X9_2 u0 u1 u2 u3 u4) : P_X11_led_70 (fun r T => Q r T ∧ KJ L S0 T) X9_2 v0 v1 v2 v3 S := by
  delta P_X11_led_70 at h ⊢
  refine ⟨?_, ?_⟩
  · intro c1
    have h := h.1 c1
    intro x3 e2
    have h := h x3 e2
    exact kj_X11_led_80 hU hL h K hX9
  · intro c4
    have h := h.2 c4
    exact ⟨h, K⟩
set_option maxRecDepth 20000 in
set_option maxHeartbeats 1000000 in
theorem kjB_X11_led_9 {L : List (Nat × Nat)} (hU : ∀ q ∈ L, q ∈ njT) (hL : ∀ q ∈ kjL_X11_led, q ∈ L) {Q : Int32 → HS → Prop} {X9 X9_2 : Nat → Int32 → Int32 → Int32 → HS → Prop} {v0 : Nat} {v1 : Int32} {v2 : Int32} {v3 : Int32} {S0 S : HS} (h : B_X11_led_9 Q X9 v0 v1 v2 v3 S) (K : KJ L S0 S) (hX9 : ∀ (u0 : Nat) (u1 : Int32) (u2 : Int32) (u3 : Int32) (u4 : HS), X9 u0 u1 u2 u3 u4 → KJ L S0 u4 → X9_2 u0 u1 u2 u3 u4) : B_X11_led_9 (fun r T => Q r T ∧ KJ L S0 T) X9_2 v0 v1 v2 v3 S := by
  delta B_X11_led_9 at h ⊢
  obtain ⟨c1, h⟩ := h
  refine ⟨c1, ?_⟩
  have n2 := kj9_nk K c1 (by decide)
  have o3 := c1
  refine cm_X11_isDay (kj_X11_isDay hU (fun q hq => hL q ((by decide : ∀ q ∈ kjL_X11_isDay, q ∈ kjL_X11_led) q hq)) h) h (fun x4 x5 p8 h g6 g7 => ?_)
  have h := h g6 g7
  have K := kj9_tr K p8.2
  have o3 := gr_ob p8.2.1 o3
  refine ⟨?_, ?_⟩
  · intro c9
    have h := h.1 c9
    intro x11 e10
    have h := h x11 e10
    have K := kj9_I K e10 n2
    have o3 := ob_wI o3 e10
    exact ⟨h, K⟩
  · intro c12
    have h := h.2 c12
    obtain ⟨b13, e14, h⟩ := h
    refine ⟨b13, e14, ?_⟩
    obtain ⟨c15, h⟩ := h
    refine ⟨c15, ?_⟩
    intro x17 e16
    have h := h x17 e16
    refine ⟨?_, ?_⟩
    · intro c18
      have h := h.1 c18
      intro x20 e19
      have h := h x20 e19
      have K := kj9_I K e19 n2
      have o3 := ob_wI o3 e19
      exact ⟨h, K⟩
    · intro c21
      have h := h.2 c21
      obtain ⟨b22, e23, h⟩ := h
      refine ⟨b22, e23, ?_⟩
      obtain ⟨c24, h⟩ := h
      refine ⟨c24, ?_⟩
      have o25 := c24
      obtain ⟨b26, e27, h⟩ := h
      refine ⟨b26, e27, ?_⟩
      obtain ⟨c28, h⟩ := h
      refine ⟨c28, ?_⟩
      obtain ⟨c29, h⟩ := h
      refine ⟨c29, ?_⟩
      intro x31 e30
      have h := h x31 e30
      obtain ⟨b32, e33, h⟩ := h
      refine ⟨b32, e33, ?_⟩
      obtain ⟨c34, h⟩ := h
      refine ⟨c34, ?_⟩
      obtain ⟨c35, h⟩ := h
      refine ⟨c35, ?_⟩
      intro x37 e36
      have h := h x37 e36
      refine ⟨?_, ?_⟩
      · intro c38
        have h := h.1 c38
        exact kj_X11_led_70 hU hL h K hX9
      · intro c39
        have h := h.2 c39
        obtain ⟨b40, e41, h⟩ := h
        refine ⟨b40, e41, ?_⟩
        obtain ⟨c42, h⟩ := h
        refine ⟨c42, ?_⟩
        have o43 := c42
        obtain ⟨b44, e45, h⟩ := h
        refine ⟨b44, e45, ?_⟩
        obtain ⟨c46, h⟩ := h
        refine ⟨c46, ?_⟩
        obtain ⟨c47, h⟩ := h
        refine ⟨c47, ?_⟩
        intro x49 e48
        have h := h x49 e48
        obtain ⟨b50, e51, h⟩ := h
        refine ⟨b50, e51, ?_⟩
        obtain ⟨c52, h⟩ := h
        refine ⟨c52, ?_⟩
        obtain ⟨c53, h⟩ := h
        refine ⟨c53, ?_⟩
        intro x55 e54
        have h := h x55 e54
        refine ⟨?_, ?_⟩
        · intro c56
          have h := h.1 c56
          exact kj_X11_led_70 hU hL h K hX9
        · intro c57
          have h := h.2 c57
          exact kj_X11_led_80 hU hL h K hX9
theorem kj_X11_led_9 {L : List (Nat × Nat)} (hU : ∀ q ∈ L, q ∈ njT) (hL : ∀ q ∈ kjL_X11_led, q ∈ L) {Q : Int32 → HS → Prop} {v0 : Nat} {v1 : Int32} {v2 : Int32} {v3 : Int32} {S0 S : HS} (h : P_X11_led_9 Q v0 v1 v2 v3 S) (K : KJ L S0 S) : P_X11_led_9 (fun r T => Q r T ∧ KJ L S0 T) v0 v1 v2 v3 S := h (fun v0 v1 v2 v3 S => KJ L S0 S → P_X11_led_9 (fun r T => Q r T ∧ KJ L S0 T) v0 v1 v2 v3 S) (fun v0 v1 v2 v3 S hB K => fd_X11_led_9 (kjB_X11_led_9 hU hL hB K (fun _ _ _ _ _ hx K => hx K))) K
set_option maxRecDepth 20000 in
set_option maxHeartbeats 1000000 in
theorem kj_X11_led_0 {L : List (Nat × Nat)} (hU : ∀ q ∈ L, q ∈ njT) (hL : ∀ q ∈ kjL_X11_led, q ∈ L) {Q : Int32 → HS → Prop} {v0 : Nat} {v1 : Int32} {S0 S : HS} (h : P_X11_led_0 Q v0 v1 S) (K : KJ L S0 S) : P_X11_led_0 (fun r T => Q r T ∧ KJ L S0 T) v0 v1 S := by
  delta P_X11_led_0 at h ⊢
  obtain ⟨c1, h⟩ := h
  refine ⟨c1, ?_⟩
  have n2 := kj9_nk K c1 (by decide)
  intro x4 e3
  have h := h x4 e3
  have K := kj9_I K e3 n2
  exact kj_X11_led_9 hU hL h K
theorem kj_X11_led {L : List (Nat × Nat)} (hU : ∀ q ∈ L, q ∈ njT) (hL : ∀ q ∈ kjL_X11_led, q ∈ L) {Q : Int32 → HS → Prop} {v0 : Nat} {v1 : Int32} {S : HS} (h : P_X11_led v0 v1 Q S) : P_X11_led v0 v1 (fun r T => Q r T ∧ KJ L S T) S := kj_X11_led_0 hU hL h (kj9_rf L S)
abbrev kjL_X11_lee : List (Nat × Nat) := []
set_option maxRecDepth 20000 in
set_option maxHeartbeats 1000000 in
theorem kj_X11_lee_0 {L : List (Nat × Nat)} (hU : ∀ q ∈ L, q ∈ njT) (hL : ∀ q ∈ kjL_X11_lee, q ∈ L) {Q : Int64 → HS → Prop} {v0 : Nat} {v1 : Int32} {v2 : Int32} {v3 : Int32} {v4 : Int32} {v5 : Int32} {v6 : Int32} {v7 : Int32} {S0 S : HS} (h : P_X11_lee_0 Q v0 v1 v2 v3 v4 v5 v6 v7 S) (K : KJ L S0 S) : P_X11_lee_0 (fun r T => Q r T ∧ KJ L S0 T) v0 v1 v2 v3 v4 v5 v6 v7 S := by
  delta P_X11_lee_0 at h ⊢
  obtain ⟨c1, h⟩ := h
  refine ⟨c1, ?_⟩
  have n2 := kj9_nk K c1 (by decide)
  intro x4 e3
  have h := h x4 e3
  have K := kj9_I K e3 n2
  refine cm_X11_refusesTwo (kj_X11_refusesTwo hU (fun q hq => hL q ((by decide : ∀ q ∈ kjL_X11_refusesTwo, q ∈ kjL_X11_lee) q hq)) h) h (fun x5 x6 p8 h g7 => ?_)
  have h := h g7
  have K := kj9_tr K p8.2
  refine ⟨?_, ?_⟩
  · intro c9
    have h := h.1 c9
    refine cm_X11_together (kj_X11_together hU (fun q hq => hL q ((by decide : ∀ q ∈ kjL_X11_together, q ∈ kjL_X11_lee) q hq)) h) h (fun x10 x11 p13 h g12 => ?_)
    have h := h g12
    have K := kj9_tr K p13.2
    refine cm_X11_told (kj_X11_told hU (fun q hq => hL q ((by decide : ∀ q ∈ kjL_X11_told, q ∈ kjL_X11_lee) q hq)) h) h (fun x14 x15 p17 h g16 => ?_)
    have h := h g16
    have K := kj9_tr K p17.2
    exact ⟨h, K⟩
  · intro c18
    have h := h.2 c18
    refine cm_X11_refused (kj_X11_refused hU (fun q hq => hL q ((by decide : ∀ q ∈ kjL_X11_refused, q ∈ kjL_X11_lee) q hq)) h) h (fun x19 x20 p22 h g21 => ?_)
    have h := h g21
    have K := kj9_tr K p22.2
    exact ⟨h, K⟩
theorem kj_X11_lee {L : List (Nat × Nat)} (hU : ∀ q ∈ L, q ∈ njT) (hL : ∀ q ∈ kjL_X11_lee, q ∈ L) {Q : Int64 → HS → Prop} {v0 : Nat} {v1 : Int32} {v2 : Int32} {v3 : Int32} {v4 : Int32} {v5 : Int32} {v6 : Int32} {v7 : Int32} {S : HS} (h : P_X11_lee v0 v1 v2 v3 v4 v5 v6 v7 Q S) : P_X11_lee v0 v1 v2 v3 v4 v5 v6 v7 (fun r T => Q r T ∧ KJ L S T) S := kj_X11_lee_0 hU hL h (kj9_rf L S)
abbrev kjL_X11_lies : List (Nat × Nat) := []
set_option maxRecDepth 20000 in
set_option maxHeartbeats 1000000 in
theorem kj_X11_lies_50 {L : List (Nat × Nat)} (hU : ∀ q ∈ L, q ∈ njT) (hL : ∀ q ∈ kjL_X11_lies, q ∈ L) {Q : Int32 → HS → Prop} {X22 X22_2 : Nat → Int32 → Int32 → HS → Prop} {v0 : Nat} {v2 : Int32} {s0 : Int32} {s1 : Int32} {S0 S : HS} (h : P_X11_lies_50 Q X22 v0 v2 s0 s1 S) (K : KJ L S0 S) (hX22 : ∀ (u0 : Nat) (u1 : Int32) (u2 : Int32) (u3 : HS), X22 u0 u1 u2 u3 → KJ L S0 u3 → X22_2 u0 u1 u2 u3) : P_X11_lies_50 (fun r T => Q r T ∧ KJ L S0 T) X22_2 v0 v2 s0 s1 S := by
  delta P_X11_lies_50 at h ⊢
  intro x2 e1
  have h := h x2 e1
  intro x4 e3
  have h := h x4 e3
  exact hX22 _ _ _ _ h K
set_option maxRecDepth 20000 in
set_option maxHeartbeats 1000000 in
theorem kjB_X11_lies_22 {L : List (Nat × Nat)} (hU : ∀ q ∈ L, q ∈ njT) (hL : ∀ q ∈ kjL_X11_lies, q ∈ L) {Q : Int32 → HS → Prop} {X22 X22_2 : Nat → Int32 → Int32 → HS → Prop} {v0 : Nat} {v1 : Int32} {v2 : Int32} {S0 S : HS} (h : B_X11_lies_22 Q X22 v0 v1 v2 S) (K : KJ L S0 S) (hX22 : ∀ (u0 : Nat) (u1 : Int32) (u2 : Int32) (u3 : HS), X22 u0 u1 u2 u3 → KJ L S0 u3 → X22_2 u0 u1 u2 u3) : B_X11_lies_22 (fun r T => Q r T ∧ KJ L S0 T) X22_2 v0 v1 v2 S := by
  delta B_X11_lies_22 at h ⊢
  obtain ⟨c1, h⟩ := h
  refine ⟨c1, ?_⟩
  have o2 := c1
  obtain ⟨b3, e4, h⟩ := h
  refine ⟨b3, e4, ?_⟩
  obtain ⟨c5, h⟩ := h
  refine ⟨c5, ?_⟩
  intro x7 e6
  have h := h x7 e6
  refine ⟨?_, ?_⟩
  · intro c8
    have h := h.1 c8
    refine cm_X11_good (kj_X11_good hU (fun q hq => hL q ((by decide : ∀ q ∈ kjL_X11_good, q ∈ kjL_X11_lies) q hq)) h) h (fun x9 x10 p12 h g11 => ?_)
    have h := h g11
    have K := kj9_tr K p12.2
    have o2 := gr_ob p12.2.1 o2
    exact ⟨h, K⟩
  · intro c13
    have h := h.2 c13
    refine cm_X11_fitOf (kj_X11_fitOf hU (fun q hq => hL q ((by decide : ∀ q ∈ kjL_X11_fitOf, q ∈ kjL_X11_lies) q hq)) h) h (fun x14 x15 p17 h g16 => ?_)
    have h := h g16
    have K := kj9_tr K p17.2
    have o2 := gr_ob p17.2.1 o2
    refine ⟨?_, ?_⟩
    · intro c18
      have h := h.1 c18
      exact kj_X11_lies_50 hU hL h K hX22
    · intro c19
      have h := h.2 c19
      exact kj_X11_lies_50 hU hL h K hX22
theorem kj_X11_lies_22 {L : List (Nat × Nat)} (hU : ∀ q ∈ L, q ∈ njT) (hL : ∀ q ∈ kjL_X11_lies, q ∈ L) {Q : Int32 → HS → Prop} {v0 : Nat} {v1 : Int32} {v2 : Int32} {S0 S : HS} (h : P_X11_lies_22 Q v0 v1 v2 S) (K : KJ L S0 S) : P_X11_lies_22 (fun r T => Q r T ∧ KJ L S0 T) v0 v1 v2 S := h (fun v0 v1 v2 S => KJ L S0 S → P_X11_lies_22 (fun r T => Q r T ∧ KJ L S0 T) v0 v1 v2 S) (fun v0 v1 v2 S hB K => fd_X11_lies_22 (kjB_X11_lies_22 hU hL hB K (fun _ _ _ _ hx K => hx K))) K
set_option maxRecDepth 20000 in
set_option maxHeartbeats 1000000 in
theorem kj_X11_lies_0 {L : List (Nat × Nat)} (hU : ∀ q ∈ L, q ∈ njT) (hL : ∀ q ∈ kjL_X11_lies, q ∈ L) {Q : Int32 → HS → Prop} {v0 : Nat} {S0 S : HS} (h : P_X11_lies_0 Q v0 S) (K : KJ L S0 S) : P_X11_lies_0 (fun r T => Q r T ∧ KJ L S0 T) v0 S := by
  delta P_X11_lies_0 at h ⊢
  obtain ⟨c1, h⟩ := h
  refine ⟨c1, ?_⟩
  have n2 := kj9_nk K c1 (by decide)
  have o3 := c1
  intro x5 e4
  have h := h x5 e4
  have K := kj9_I K e4 n2
  have o3 := ob_wI o3 e4
  refine ⟨?_, ?_⟩
  · intro c6
    have h := h.1 c6
    refine cm_X11_refused (kj_X11_refused hU (fun q hq => hL q ((by decide : ∀ q ∈ kjL_X11_refused, q ∈ kjL_X11_lies) q hq)) h) h (fun x7 x8 p10 h g9 => ?_)
    have h := h g9
    have K := kj9_tr K p10.2
    have o3 := gr_ob p10.2.1 o3
    exact ⟨h, K⟩
  · intro x11 c12
    have h := h.2 x11 c12
    exact kj_X11_lies_22 hU hL h K
theorem kj_X11_lies {L : List (Nat × Nat)} (hU : ∀ q ∈ L, q ∈ njT) (hL : ∀ q ∈ kjL_X11_lies, q ∈ L) {Q : Int32 → HS → Prop} {v0 : Nat} {S : HS} (h : P_X11_lies v0 Q S) : P_X11_lies v0 (fun r T => Q r T ∧ KJ L S T) S := kj_X11_lies_0 hU hL h (kj9_rf L S)
abbrev kjL_X11_mark : List (Nat × Nat) := []
set_option maxRecDepth 20000 in
set_option maxHeartbeats 1000000 in
theorem kjB_X11_mark_34 {L : List (Nat × Nat)} (hU : ∀ q ∈ L, q ∈ njT) (hL : ∀ q ∈ kjL_X11_mark, q ∈ L) {Q : Int32 → HS → Prop} {X34 X34_2 : Nat → Int32 → HS → Prop} {v0 : Nat} {v1 : Int32} {S0 S : HS} (h : B_X11_mark_34 Q X34 v0 v1 S) (K : KJ L S0 S) (hX34 : ∀ (u0 : Nat) (u1 : Int32) (u2 : HS), X34 u0 u1 u2 → KJ L S0 u2 → X34_2 u0 u1 u2) : B_X11_mark_34 (fun r T => Q r T ∧ KJ L S0 T) X34_2 v0 v1 S := by
  delta B_X11_mark_34 at h ⊢
  refine ⟨?_, ?_⟩
  · intro c1
    have h := h.1 c1
    obtain ⟨c2, h⟩ := h
    refine ⟨c2, ?_⟩
    have n3 := kj9_nk K c2 (by decide)
    have o4 := c2
    intro x6 e5
    have h := h x6 e5
    intro x8 e7
    have h := h x8 e7
    intro x10 e9
    have h := h x10 e9
    have K := kj9_I K e9 n3
    have o4 := ob_wI o4 e9
    intro x12 e11
    have h := h x12 e11
    refine cm_X11_good (kj_X11_good hU (fun q hq => hL q ((by decide : ∀ q ∈ kjL_X11_good, q ∈ kjL_X11_mark) q hq)) h) h (fun x13 x14 p16 h g15 => ?_)
    have h := h g15
    have K := kj9_tr K p16.2
    have o4 := gr_ob p16.2.1 o4
    exact ⟨h, K⟩
  · intro c17
    have h := h.2 c17
    obtain ⟨c18, h⟩ := h
    refine ⟨c18, ?_⟩
    have n19 := kj9_nk K c18 (by decide)
    have o20 := c18
    obtain ⟨b21, e22, h⟩ := h
    refine ⟨b21, e22, ?_⟩
    intro x24 e23
    have h := h x24 e23
    obtain ⟨b25, e26, h⟩ := h
    refine ⟨b25, e26, ?_⟩
    obtain ⟨c27, h⟩ := h
    refine ⟨c27, ?_⟩
    obtain ⟨c28, h⟩ := h
    refine ⟨c28, ?_⟩
    intro x30 e29
    have h := h x30 e29
    obtain ⟨c31, h⟩ := h
    refine ⟨c31, ?_⟩
    obtain ⟨c32, h⟩ := h
    refine ⟨c32, ?_⟩
    intro x34 e33
    have h := h x34 e33
    have K := kj9_J K e33
    have o20 := ob_wJ o20 e33
    intro x36 e35
    have h := h x36 e35
    exact hX34 _ _ _ h K
theorem kj_X11_mark_34 {L : List (Nat × Nat)} (hU : ∀ q ∈ L, q ∈ njT) (hL : ∀ q ∈ kjL_X11_mark, q ∈ L) {Q : Int32 → HS → Prop} {v0 : Nat} {v1 : Int32} {S0 S : HS} (h : P_X11_mark_34 Q v0 v1 S) (K : KJ L S0 S) : P_X11_mark_34 (fun r T => Q r T ∧ KJ L S0 T) v0 v1 S := h (fun v0 v1 S => KJ L S0 S → P_X11_mark_34 (fun r T => Q r T ∧ KJ L S0 T) v0 v1 S) (fun v0 v1 S hB K => fd_X11_mark_34 (kjB_X11_mark_34 hU hL hB K (fun _ _ _ hx K => hx K))) K
set_option maxRecDepth 20000 in
set_option maxHeartbeats 1000000 in
theorem kj_X11_mark_0 {L : List (Nat × Nat)} (hU : ∀ q ∈ L, q ∈ njT) (hL : ∀ q ∈ kjL_X11_mark, q ∈ L) {Q : Int32 → HS → Prop} {v0 : Nat} {S0 S : HS} (h : P_X11_mark_0 Q v0 S) (K : KJ L S0 S) : P_X11_mark_0 (fun r T => Q r T ∧ KJ L S0 T) v0 S := by
  delta P_X11_mark_0 at h ⊢
  obtain ⟨c1, h⟩ := h
  refine ⟨c1, ?_⟩
  have n2 := kj9_nk K c1 (by decide)
  intro x4 e3
  have h := h x4 e3
  have K := kj9_I K e3 n2
  refine cm_X11_isDay (kj_X11_isDay hU (fun q hq => hL q ((by decide : ∀ q ∈ kjL_X11_isDay, q ∈ kjL_X11_mark) q hq)) h) h (fun x5 x6 p9 h g7 g8 => ?_)
  have h := h g7 g8
  have K := kj9_tr K p9.2
  refine ⟨?_, ?_⟩
  · intro c10
    have h := h.1 c10
    intro x12 e11
    have h := h x12 e11
    refine ⟨?_, ?_⟩
    · intro c13
      have h := h.1 c13
      exact kj_X11_mark_34 hU hL h K
    · intro c14
      have h := h.2 c14
      refine cm_X11_refused (kj_X11_refused hU (fun q hq => hL q ((by decide : ∀ q ∈ kjL_X11_refused, q ∈ kjL_X11_mark) q hq)) h) h (fun x15 x16 p18 h g17 => ?_)
      have h := h g17
      have K := kj9_tr K p18.2
      exact ⟨h, K⟩
  · intro c19
    have h := h.2 c19
    refine cm_X11_refused (kj_X11_refused hU (fun q hq => hL q ((by decide : ∀ q ∈ kjL_X11_refused, q ∈ kjL_X11_mark) q hq)) h) h (fun x20 x21 p23 h g22 => ?_)
    have h := h g22
    have K := kj9_tr K p23.2
    exact ⟨h, K⟩
theorem kj_X11_mark {L : List (Nat × Nat)} (hU : ∀ q ∈ L, q ∈ njT) (hL : ∀ q ∈ kjL_X11_mark, q ∈ L) {Q : Int32 → HS → Prop} {v0 : Nat} {S : HS} (h : P_X11_mark v0 Q S) : P_X11_mark v0 (fun r T => Q r T ∧ KJ L S T) S := kj_X11_mark_0 hU hL h (kj9_rf L S)
abbrev kjL_X11_mean : List (Nat × Nat) := []
set_option maxRecDepth 20000 in
set_option maxHeartbeats 1000000 in
theorem kj_X11_mean_0 {L : List (Nat × Nat)} (hU : ∀ q ∈ L, q ∈ njT) (hL : ∀ q ∈ kjL_X11_mean, q ∈ L) {Q : Int64 → HS → Prop} {v0 : Nat} {v1 : Int32} {v2 : Int32} {v3 : Int32} {v4 : Int32} {v5 : Int32} {v6 : Int32} {S0 S : HS} (h : P_X11_mean_0 Q v0 v1 v2 v3 v4 v5 v6 S) (K : KJ L S0 S) : P_X11_mean_0 (fun r T => Q r T ∧ KJ L S0 T) v0 v1 v2 v3 v4 v5 v6 S := by
  delta P_X11_mean_0 at h ⊢
  obtain ⟨c1, h⟩ := h
  refine ⟨c1, ?_⟩
  have n2 := kj9_nk K c1 (by decide)
  have o3 := c1
  intro x5 e4
  have h := h x5 e4
  have K := kj9_I K e4 n2
  have o3 := ob_wI o3 e4
  refine cm_X11_refuses (kj_X11_refuses hU (fun q hq => hL q ((by decide : ∀ q ∈ kjL_X11_refuses, q ∈ kjL_X11_mean) q hq)) h) h (fun x6 x7 p9 h g8 => ?_)
  have h := h g8
  have K := kj9_tr K p9.2
  have o3 := gr_ob p9.2.1 o3
  refine ⟨?_, ?_⟩
  · intro c10
    have h := h.1 c10
    refine cm_X11_wetOf (kj_X11_wetOf hU (fun q hq => hL q ((by decide : ∀ q ∈ kjL_X11_wetOf, q ∈ kjL_X11_mean) q hq)) h) h (fun x11 x12 p14 h g13 => ?_)
    have h := h g13
    have K := kj9_tr K p14.2
    have o3 := gr_ob p14.2.1 o3
    obtain ⟨b15, e16, h⟩ := h
    refine ⟨b15, e16, ?_⟩
    obtain ⟨c17, h⟩ := h
    refine ⟨c17, ?_⟩
    have o18 := c17
    obtain ⟨b19, e20, h⟩ := h
    refine ⟨b19, e20, ?_⟩
    obtain ⟨c21, h⟩ := h
    refine ⟨c21, ?_⟩
    obtain ⟨c22, h⟩ := h
    refine ⟨c22, ?_⟩
    intro x24 e23
    have h := h x24 e23
    refine cm_X11_told (kj_X11_told hU (fun q hq => hL q ((by decide : ∀ q ∈ kjL_X11_told, q ∈ kjL_X11_mean) q hq)) h) h (fun x25 x26 p28 h g27 => ?_)
    have h := h g27
    have K := kj9_tr K p28.2
    have o3 := gr_ob p28.2.1 o3
    have o18 := gr_ob p28.2.1 o18
    exact ⟨h, K⟩
  · intro c29
    have h := h.2 c29
    refine cm_X11_refused (kj_X11_refused hU (fun q hq => hL q ((by decide : ∀ q ∈ kjL_X11_refused, q ∈ kjL_X11_mean) q hq)) h) h (fun x30 x31 p33 h g32 => ?_)
    have h := h g32
    have K := kj9_tr K p33.2
    have o3 := gr_ob p33.2.1 o3
    exact ⟨h, K⟩
theorem kj_X11_mean {L : List (Nat × Nat)} (hU : ∀ q ∈ L, q ∈ njT) (hL : ∀ q ∈ kjL_X11_mean, q ∈ L) {Q : Int64 → HS → Prop} {v0 : Nat} {v1 : Int32} {v2 : Int32} {v3 : Int32} {v4 : Int32} {v5 : Int32} {v6 : Int32} {S : HS} (h : P_X11_mean v0 v1 v2 v3 v4 v5 v6 Q S) : P_X11_mean v0 v1 v2 v3 v4 v5 v6 (fun r T => Q r T ∧ KJ L S T) S := kj_X11_mean_0 hU hL h (kj9_rf L S)
abbrev kjL_X11_minutes : List (Nat × Nat) := []
set_option maxRecDepth 20000 in
set_option maxHeartbeats 1000000 in
theorem kj_X11_minutes_21 {L : List (Nat × Nat)} (hU : ∀ q ∈ L, q ∈ njT) (hL : ∀ q ∈ kjL_X11_minutes, q ∈ L) {Q : Int32 → HS → Prop} {v0 : Nat} {S0 S : HS} (h : P_X11_minutes_21 Q v0 S) (K : KJ L S0 S) : P_X11_minutes_21 (fun r T => Q r T ∧ KJ L S0 T) v0 S := by
  delta P_X11_minutes_21 at h ⊢
  obtain ⟨c1, h⟩ := h
  refine ⟨c1, ?_⟩
  refine cm_X11_refused (kj_X11_refused hU (fun q hq => hL q ((by decide : ∀ q ∈ kjL_X11_refused, q ∈ kjL_X11_minutes) q hq)) h) h (fun x2 x3 p5 h g4 => ?_)
  have h := h g4
  have K := kj9_tr K p5.2
  exact ⟨h, K⟩
set_option maxRecDepth 20000 in
set_option maxHeartbeats 1000000 in
theorem kj_X11_minutes_0 {L : List (Nat × Nat)} (hU : ∀ q ∈ L, q ∈ njT) (hL : ∀ q ∈ kjL_X11_minutes, q ∈ L) {Q : Int32 → HS → Prop} {v0 : Nat} {v1 : Int32} {v2 : Int32} {v3 : Int32} {S0 S : HS} (h : P_X11_minutes_0 Q v0 v1 v2 v3 S) (K : KJ L S0 S) : P_X11_minutes_0 (fun r T => Q r T ∧ KJ L S0 T) v0 v1 v2 v3 S := by
  delta P_X11_minutes_0 at h ⊢
  obtain ⟨c1, h⟩ := h
  refine ⟨c1, ?_⟩
  have n2 := kj9_nk K c1 (by decide)
  have o3 := c1
  intro x5 e4
  have h := h x5 e4
  have K := kj9_I K e4 n2
  have o3 := ob_wI o3 e4
  refine cm_X11_isWalker (kj_X11_isWalker hU (fun q hq => hL q ((by decide : ∀ q ∈ kjL_X11_isWalker, q ∈ kjL_X11_minutes) q hq)) h) h (fun x6 x7 p10 h g8 g9 => ?_)
  have h := h g8 g9
  have K := kj9_tr K p10.2
  have o3 := gr_ob p10.2.1 o3
  refine ⟨?_, ?_⟩
  · intro c11
    have h := h.1 c11
    exact kj_X11_minutes_21 hU hL h K
  · intro c12
    have h := h.2 c12
    refine cm_X11_isRoad (kj_X11_isRoad hU (fun q hq => hL q ((by decide : ∀ q ∈ kjL_X11_isRoad, q ∈ kjL_X11_minutes) q hq)) h) h (fun x13 x14 p17 h g15 g16 => ?_)
    have h := h g15 g16
    have K := kj9_tr K p17.2
    have o3 := gr_ob p17.2.1 o3
    refine ⟨?_, ?_⟩
    · intro c18
      have h := h.1 c18
      refine cm_X11_isSpeed (kj_X11_isSpeed hU (fun q hq => hL q ((by decide : ∀ q ∈ kjL_X11_isSpeed, q ∈ kjL_X11_minutes) q hq)) h) h (fun x19 x20 p23 h g21 g22 => ?_)
      have h := h g21 g22
      have K := kj9_tr K p23.2
      have o3 := gr_ob p23.2.1 o3
      refine ⟨?_, ?_⟩
      · intro c24
        have h := h.1 c24
        refine cm_X11_refused (kj_X11_refused hU (fun q hq => hL q ((by decide : ∀ q ∈ kjL_X11_refused, q ∈ kjL_X11_minutes) q hq)) h) h (fun x25 x26 p28 h g27 => ?_)
        have h := h g27
        have K := kj9_tr K p28.2
        have o3 := gr_ob p28.2.1 o3
        exact ⟨h, K⟩
      · intro c29
        have h := h.2 c29
        obtain ⟨b30, e31, h⟩ := h
        refine ⟨b30, e31, ?_⟩
        obtain ⟨c32, h⟩ := h
        refine ⟨c32, ?_⟩
        refine cm_X10_minutes (kj_X10_minutes hU (fun q hq => hL q ((by decide : ∀ q ∈ kjL_X10_minutes, q ∈ kjL_X11_minutes) q hq)) h) h (fun x33 x34 p36 h g35 => ?_)
        have h := h g35
        have K := kj9_tr K p36.2
        have o3 := gr_ob p36.2.1 o3
        refine cm_X11_good (kj_X11_good hU (fun q hq => hL q ((by decide : ∀ q ∈ kjL_X11_good, q ∈ kjL_X11_minutes) q hq)) h) h (fun x37 x38 p40 h g39 => ?_)
        have h := h g39
        have K := kj9_tr K p40.2
        have o3 := gr_ob p40.2.1 o3
        exact ⟨h, K⟩
    · intro c41
      have h := h.2 c41
      exact kj_X11_minutes_21 hU hL h K
theorem kj_X11_minutes {L : List (Nat × Nat)} (hU : ∀ q ∈ L, q ∈ njT) (hL : ∀ q ∈ kjL_X11_minutes, q ∈ L) {Q : Int32 → HS → Prop} {v0 : Nat} {v1 : Int32} {v2 : Int32} {v3 : Int32} {S : HS} (h : P_X11_minutes v0 v1 v2 v3 Q S) : P_X11_minutes v0 v1 v2 v3 (fun r T => Q r T ∧ KJ L S T) S := kj_X11_minutes_0 hU hL h (kj9_rf L S)
abbrev kjL_X11_names : List (Nat × Nat) := [(10, 29), (10, 30)]
set_option maxRecDepth 20000 in
set_option maxHeartbeats 1000000 in
theorem kj_X11_names_0 {L : List (Nat × Nat)} (hU : ∀ q ∈ L, q ∈ njT) (hL : ∀ q ∈ kjL_X11_names, q ∈ L) {Q : HS → Prop} {v0 : Nat} {v1 : Int64} {v3 : Int32} {v4 : Int32} {S0 S : HS} (h : P_X11_names_0 Q v0 v1 v3 v4 S) (K : KJ L S0 S) : P_X11_names_0 (fun T => Q T ∧ KJ L S0 T) v0 v1 v3 v4 S := by
  delta P_X11_names_0 at h ⊢
  obtain ⟨c1, h⟩ := h
  refine ⟨c1, ?_⟩
  have o2 := c1
  obtain ⟨b3, e4, h⟩ := h
  refine ⟨b3, e4, ?_⟩
  obtain ⟨c5, h⟩ := h
  refine ⟨c5, ?_⟩
  have o6 := c5
  obtain ⟨b7, e8, h⟩ := h
  refine ⟨b7, e8, ?_⟩
  obtain ⟨b9, e10, h⟩ := h
  refine ⟨b9, e10, ?_⟩
  obtain ⟨c11, h⟩ := h
  refine ⟨c11, ?_⟩
  intro x13 e12
  have h := h x13 e12
  obtain ⟨c14, h⟩ := h
  refine ⟨c14, ?_⟩
  obtain ⟨c15, h⟩ := h
  refine ⟨c15, ?_⟩
  intro x17 e16
  have h := h x17 e16
  have K := kj9_J K e16
  have o2 := ob_wJ o2 e16
  have o6 := ob_wJ o6 e16
  obtain ⟨b18, e19, h⟩ := h
  refine ⟨b18, e19, ?_⟩
  obtain ⟨c20, h⟩ := h
  refine ⟨c20, ?_⟩
  have o21 := c20
  obtain ⟨b22, e23, h⟩ := h
  refine ⟨b22, e23, ?_⟩
  have n24 := kj9_nr K e23 o21 (hL _ (by decide))
  obtain ⟨b25, e26, h⟩ := h
  refine ⟨b25, e26, ?_⟩
  obtain ⟨c27, h⟩ := h
  refine ⟨c27, ?_⟩
  intro x29 e28
  have h := h x29 e28
  obtain ⟨c30, h⟩ := h
  refine ⟨c30, ?_⟩
  obtain ⟨c31, h⟩ := h
  refine ⟨c31, ?_⟩
  intro x33 e32
  have h := h x33 e32
  have K := kj9_I K e32 n24
  have o2 := ob_wI o2 e32
  have o6 := ob_wI o6 e32
  have o21 := ob_wI o21 e32
  obtain ⟨b34, e35, h⟩ := h
  refine ⟨b34, e35, ?_⟩
  obtain ⟨c36, h⟩ := h
  refine ⟨c36, ?_⟩
  have o37 := c36
  obtain ⟨b38, e39, h⟩ := h
  refine ⟨b38, e39, ?_⟩
  have n40 := kj9_nr K e39 o37 (hL _ (by decide))
  obtain ⟨b41, e42, h⟩ := h
  refine ⟨b41, e42, ?_⟩
  obtain ⟨c43, h⟩ := h
  refine ⟨c43, ?_⟩
  intro x45 e44
  have h := h x45 e44
  obtain ⟨c46, h⟩ := h
  refine ⟨c46, ?_⟩
  obtain ⟨c47, h⟩ := h
  refine ⟨c47, ?_⟩
  intro x49 e48
  have h := h x49 e48
  have K := kj9_I K e48 n40
  have o2 := ob_wI o2 e48
  have o6 := ob_wI o6 e48
  have o21 := ob_wI o21 e48
  have o37 := ob_wI o37 e48
  obtain ⟨b50, e51, h⟩ := h
  refine ⟨b50, e51, ?_⟩
  obtain ⟨c52, h⟩ := h
  refine ⟨c52, ?_⟩
  have n53 := kj9_nk K c52 (by decide)
  intro x55 e54
  have h := h x55 e54
  intro x57 e56
  have h := h x57 e56
  intro x59 e58
  have h := h x59 e58
  have K := kj9_I K e58 n53
  have o2 := ob_wI o2 e58
  have o6 := ob_wI o6 e58
  have o21 := ob_wI o21 e58
  have o37 := ob_wI o37 e58
  exact ⟨h, K⟩
theorem kj_X11_names {L : List (Nat × Nat)} (hU : ∀ q ∈ L, q ∈ njT) (hL : ∀ q ∈ kjL_X11_names, q ∈ L) {Q : HS → Prop} {v0 : Nat} {v1 : Int64} {v3 : Int32} {v4 : Int32} {S : HS} (h : P_X11_names v0 v1 v3 v4 Q S) : P_X11_names v0 v1 v3 v4 (fun T => Q T ∧ KJ L S T) S := kj_X11_names_0 hU hL h (kj9_rf L S)
abbrev kjL_X11_needs : List (Nat × Nat) := []
set_option maxRecDepth 20000 in
set_option maxHeartbeats 1000000 in
theorem kj_X11_needs_13 {L : List (Nat × Nat)} (hU : ∀ q ∈ L, q ∈ njT) (hL : ∀ q ∈ kjL_X11_needs, q ∈ L) {Q : HS → Prop} {v0 : Nat} {S0 S : HS} (h : P_X11_needs_13 Q v0 S) (K : KJ L S0 S) : P_X11_needs_13 (fun T => Q T ∧ KJ L S0 T) v0 S := by
  delta P_X11_needs_13 at h ⊢
  obtain ⟨c1, h⟩ := h
  refine ⟨c1, ?_⟩
  refine cm_X11_goesOn (kj_X11_goesOn hU (fun q hq => hL q ((by decide : ∀ q ∈ kjL_X11_goesOn, q ∈ kjL_X11_needs) q hq)) h) h (fun x2 p4 h g3 => ?_)
  have h := h g3
  have K := kj9_tr K p4.2
  exact ⟨h, K⟩
set_option maxRecDepth 20000 in
set_option maxHeartbeats 1000000 in
theorem kj_X11_needs_0 {L : List (Nat × Nat)} (hU : ∀ q ∈ L, q ∈ njT) (hL : ∀ q ∈ kjL_X11_needs, q ∈ L) {Q : HS → Prop} {v0 : Nat} {v1 : Nat} {S0 S : HS} (h : P_X11_needs_0 Q v0 v1 S) (K : KJ L S0 S) : P_X11_needs_0 (fun T => Q T ∧ KJ L S0 T) v0 v1 S := by
  delta P_X11_needs_0 at h ⊢
  obtain ⟨c1, h⟩ := h
  refine ⟨c1, ?_⟩
  refine cm_X11_isWord (kj_X11_isWord hU (fun q hq => hL q ((by decide : ∀ q ∈ kjL_X11_isWord, q ∈ kjL_X11_needs) q hq)) h) h (fun x2 x3 p6 h g4 g5 => ?_)
  have h := h g4 g5
  have K := kj9_tr K p6.2
  refine ⟨?_, ?_⟩
  · intro c7
    have h := h.1 c7
    exact kj_X11_needs_13 hU hL h K
  · intro c8
    have h := h.2 c8
    refine cm_X11_flaw (kj_X11_flaw hU (fun q hq => hL q ((by decide : ∀ q ∈ kjL_X11_flaw, q ∈ kjL_X11_needs) q hq)) h) h (fun x9 p11 h g10 => ?_)
    have h := h g10
    have K := kj9_tr K p11.2
    exact kj_X11_needs_13 hU hL h K
theorem kj_X11_needs {L : List (Nat × Nat)} (hU : ∀ q ∈ L, q ∈ njT) (hL : ∀ q ∈ kjL_X11_needs, q ∈ L) {Q : HS → Prop} {v0 : Nat} {v1 : Nat} {S : HS} (h : P_X11_needs v0 v1 Q S) : P_X11_needs v0 v1 (fun T => Q T ∧ KJ L S T) S := kj_X11_needs_0 hU hL h (kj9_rf L S)
abbrev kjL_X11_off : List (Nat × Nat) := [(11, 17), (11, 18)]
set_option maxRecDepth 20000 in
set_option maxHeartbeats 1000000 in
theorem kj_X11_off_29 {L : List (Nat × Nat)} (hU : ∀ q ∈ L, q ∈ njT) (hL : ∀ q ∈ kjL_X11_off, q ∈ L) {Q : Int32 → HS → Prop} {v0 : Nat} {S0 S : HS} (h : P_X11_off_29 Q v0 S) (K : KJ L S0 S) : P_X11_off_29 (fun r T => Q r T ∧ KJ L S0 T) v0 S := by
  delta P_X11_off_29 at h ⊢
  obtain ⟨c1, h⟩ := h
  refine ⟨c1, ?_⟩
  refine cm_X11_refused (kj_X11_refused hU (fun q hq => hL q ((by decide : ∀ q ∈ kjL_X11_refused, q ∈ kjL_X11_off) q hq)) h) h (fun x2 x3 p5 h g4 => ?_)
  have h := h g4
  have K := kj9_tr K p5.2
  exact ⟨h, K⟩
set_option maxRecDepth 20000 in
set_option maxHeartbeats 1000000 in
theorem kj_X11_off_128 {L : List (Nat × Nat)} (hU : ∀ q ∈ L, q ∈ njT) (hL : ∀ q ∈ kjL_X11_off, q ∈ L) {Q : Int32 → HS → Prop} {X67 X67_2 : Nat → Int32 → Int32 → Int32 → Int32 → HS → Prop} {v0 : Nat} {v2 : Int32} {v4 : Int32} {v5 : Int32} {v6 : Int32} {S0 S : HS} (h : P_X11_off_128 Q X67 v0 v2 v4 v5 v6 S) (K : KJ L S0 S) (hX67 : ∀ (u0 : Nat) (u1 : Int32) (u2 : Int32) (u3 : Int32) (u4 : Int32) (u5 : HS), X67 u0 u1 u2 u3 u4 u5 → KJ L S0 u5 → X67_2 u0 u1 u2 u3 u4 u5) : P_X11_off_128 (fun r T => Q r T ∧ KJ L S0 T) X67_2 v0 v2 v4 v5 v6 S := by
  delta P_X11_off_128 at h ⊢
  intro x2 e1
  have h := h x2 e1
  exact hX67 _ _ _ _ _ _ h K
set_option maxRecDepth 20000 in
set_option maxHeartbeats 1000000 in
theorem kj_X11_off_124 {L : List (Nat × Nat)} (hU : ∀ q ∈ L, q ∈ njT) (hL : ∀ q ∈ kjL_X11_off, q ∈ L) {Q : Int32 → HS → Prop} {X67 X67_2 : Nat → Int32 → Int32 → Int32 → Int32 → HS → Prop} {v0 : Nat} {v2 : Int32} {v4 : Int32} {v6 : Int32} {S0 S : HS} (h : P_X11_off_124 Q X67 v0 v2 v4 v6 S) (K : KJ L S0 S) (hX67 : ∀ (u0 : Nat) (u1 : Int32) (u2 : Int32) (u3 : Int32) (u4 : Int32) (u5 : HS), X67 u0 u1 u2 u3 u4 u5 → KJ L S0 u5 → X67_2 u0 u1 u2 u3 u4 u5) : P_X11_off_124 (fun r T => Q r T ∧ KJ L S0 T) X67_2 v0 v2 v4 v6 S := by
  delta P_X11_off_124 at h ⊢
  exact kj_X11_off_128 hU hL h K hX67
set_option maxRecDepth 20000 in
set_option maxHeartbeats 1000000 in
theorem kjB_X11_off_67 {L : List (Nat × Nat)} (hU : ∀ q ∈ L, q ∈ njT) (hL : ∀ q ∈ kjL_X11_off, q ∈ L) {Q : Int32 → HS → Prop} {X67 X67_2 : Nat → Int32 → Int32 → Int32 → Int32 → HS → Prop} {v0 : Nat} {v2 : Int32} {v4 : Int32} {v5 : Int32} {v6 : Int32} {S0 S : HS} (h : B_X11_off_67 Q X67 v0 v2 v4 v5 v6 S) (K : KJ L S0 S) (hX67 : ∀ (u0 : Nat) (u1 : Int32) (u2 : Int32) (u3 : Int32) (u4 : Int32) (u5 : HS), X67 u0 u1 u2 u3 u4 u5 → KJ L S0 u5 → X67_2 u0 u1 u2 u3 u4 u5) : B_X11_off_67 (fun r T => Q r T ∧ KJ L S0 T) X67_2 v0 v2 v4 v5 v6 S := by
  delta B_X11_off_67 at h ⊢
  refine ⟨?_, ?_⟩
  · intro c1
    have h := h.1 c1
    refine ⟨?_, ?_⟩
    · intro c2
      have h := h.1 c2
      obtain ⟨c3, h⟩ := h
      refine ⟨c3, ?_⟩
      have o4 := c3
      refine cm_X11_good (kj_X11_good hU (fun q hq => hL q ((by decide : ∀ q ∈ kjL_X11_good, q ∈ kjL_X11_off) q hq)) h) h (fun x5 x6 p8 h g7 => ?_)
      have h := h g7
      have K := kj9_tr K p8.2
      have o4 := gr_ob p8.2.1 o4
      exact ⟨h, K⟩
    · intro c9
      have h := h.2 c9
      obtain ⟨c10, h⟩ := h
      refine ⟨c10, ?_⟩
      have o11 := c10
      refine cm_X11_refused (kj_X11_refused hU (fun q hq => hL q ((by decide : ∀ q ∈ kjL_X11_refused, q ∈ kjL_X11_off) q hq)) h) h (fun x12 x13 p15 h g14 => ?_)
      have h := h g14
      have K := kj9_tr K p15.2
      have o11 := gr_ob p15.2.1 o11
      exact ⟨h, K⟩
  · intro c16
    have h := h.2 c16
    obtain ⟨c17, h⟩ := h
    refine ⟨c17, ?_⟩
    have o18 := c17
    obtain ⟨b19, e20, h⟩ := h
    refine ⟨b19, e20, ?_⟩
    refine cm_X11_spotOf (kj_X11_spotOf hU (fun q hq => hL q ((by decide : ∀ q ∈ kjL_X11_spotOf, q ∈ kjL_X11_off) q hq)) h) h (fun x21 x22 p24 h g23 => ?_)
    have h := h g23
    have K := kj9_tr K p24.2
    have o18 := gr_ob p24.2.1 o18
    obtain ⟨c25, h⟩ := h
    refine ⟨c25, ?_⟩
    obtain ⟨c26, h⟩ := h
    refine ⟨c26, ?_⟩
    intro x28 e27
    have h := h x28 e27
    refine ⟨?_, ?_⟩
    · intro c29
      have h := h.1 c29
      exact kj_X11_off_128 hU hL h K hX67
    · intro c30
      have h := h.2 c30
      refine ⟨?_, ?_⟩
      · intro c31
        have h := h.1 c31
        exact kj_X11_off_124 hU hL h K hX67
      · intro c32
        have h := h.2 c32
        obtain ⟨b33, e34, h⟩ := h
        refine ⟨b33, e34, ?_⟩
        refine cm_X11_spotOf (kj_X11_spotOf hU (fun q hq => hL q ((by decide : ∀ q ∈ kjL_X11_spotOf, q ∈ kjL_X11_off) q hq)) h) h (fun x35 x36 p38 h g37 => ?_)
        have h := h g37
        have K := kj9_tr K p38.2
        have o18 := gr_ob p38.2.1 o18
        obtain ⟨c39, h⟩ := h
        refine ⟨c39, ?_⟩
        obtain ⟨c40, h⟩ := h
        refine ⟨c40, ?_⟩
        intro x42 e41
        have h := h x42 e41
        obtain ⟨b43, e44, h⟩ := h
        refine ⟨b43, e44, ?_⟩
        refine cm_X11_spotOf (kj_X11_spotOf hU (fun q hq => hL q ((by decide : ∀ q ∈ kjL_X11_spotOf, q ∈ kjL_X11_off) q hq)) h) h (fun x45 x46 p48 h g47 => ?_)
        have h := h g47
        have K := kj9_tr K p48.2
        have o18 := gr_ob p48.2.1 o18
        obtain ⟨c49, h⟩ := h
        refine ⟨c49, ?_⟩
        obtain ⟨c50, h⟩ := h
        refine ⟨c50, ?_⟩
        intro x52 e51
        have h := h x52 e51
        refine ⟨?_, ?_⟩
        · intro c53
          have h := h.1 c53
          exact kj_X11_off_128 hU hL h K hX67
        · intro c54
          have h := h.2 c54
          exact kj_X11_off_124 hU hL h K hX67
theorem kj_X11_off_67 {L : List (Nat × Nat)} (hU : ∀ q ∈ L, q ∈ njT) (hL : ∀ q ∈ kjL_X11_off, q ∈ L) {Q : Int32 → HS → Prop} {v0 : Nat} {v2 : Int32} {v4 : Int32} {v5 : Int32} {v6 : Int32} {S0 S : HS} (h : P_X11_off_67 Q v0 v2 v4 v5 v6 S) (K : KJ L S0 S) : P_X11_off_67 (fun r T => Q r T ∧ KJ L S0 T) v0 v2 v4 v5 v6 S := h (fun v0 v2 v4 v5 v6 S => KJ L S0 S → P_X11_off_67 (fun r T => Q r T ∧ KJ L S0 T) v0 v2 v4 v5 v6 S) (fun v0 v2 v4 v5 v6 S hB K => fd_X11_off_67 (kjB_X11_off_67 hU hL hB K (fun _ _ _ _ _ _ hx K => hx K))) K
set_option maxRecDepth 20000 in
set_option maxHeartbeats 1000000 in
theorem kj_X11_off_0 {L : List (Nat × Nat)} (hU : ∀ q ∈ L, q ∈ njT) (hL : ∀ q ∈ kjL_X11_off, q ∈ L) {Q : Int32 → HS → Prop} {v0 : Nat} {v1 : Int32} {v2 : Int32} {v3 : Int32} {v4 : Int32} {S0 S : HS} (h : P_X11_off_0 Q v0 v1 v2 v3 v4 S) (K : KJ L S0 S) : P_X11_off_0 (fun r T => Q r T ∧ KJ L S0 T) v0 v1 v2 v3 v4 S := by
  delta P_X11_off_0 at h ⊢
  obtain ⟨c1, h⟩ := h
  refine ⟨c1, ?_⟩
  have n2 := kj9_nk K c1 (by decide)
  intro x4 e3
  have h := h x4 e3
  have K := kj9_I K e3 n2
  refine cm_X11_isWalker (kj_X11_isWalker hU (fun q hq => hL q ((by decide : ∀ q ∈ kjL_X11_isWalker, q ∈ kjL_X11_off) q hq)) h) h (fun x5 x6 p9 h g7 g8 => ?_)
  have h := h g7 g8
  have K := kj9_tr K p9.2
  refine ⟨?_, ?_⟩
  · intro c10
    have h := h.1 c10
    exact kj_X11_off_29 hU hL h K
  · intro c11
    have h := h.2 c11
    refine cm_X11_isPlace (kj_X11_isPlace hU (fun q hq => hL q ((by decide : ∀ q ∈ kjL_X11_isPlace, q ∈ kjL_X11_off) q hq)) h) h (fun x12 x13 p16 h g14 g15 => ?_)
    have h := h g14 g15
    have K := kj9_tr K p16.2
    refine ⟨?_, ?_⟩
    · intro c17
      have h := h.1 c17
      exact kj_X11_off_29 hU hL h K
    · intro c18
      have h := h.2 c18
      refine cm_X11_isPlace (kj_X11_isPlace hU (fun q hq => hL q ((by decide : ∀ q ∈ kjL_X11_isPlace, q ∈ kjL_X11_off) q hq)) h) h (fun x19 x20 p23 h g21 g22 => ?_)
      have h := h g21 g22
      have K := kj9_tr K p23.2
      refine ⟨?_, ?_⟩
      · intro c24
        have h := h.1 c24
        refine cm_X11_in (kj_X11_in hU (fun q hq => hL q ((by decide : ∀ q ∈ kjL_X11_in, q ∈ kjL_X11_off) q hq)) h) h (fun x25 x26 p29 h g27 g28 => ?_)
        have h := h g27 g28
        have K := kj9_tr K p29.2
        refine ⟨?_, ?_⟩
        · intro c30
          have h := h.1 c30
          refine cm_X11_laysWays (kj_X11_laysWays hU (fun q hq => hL q ((by decide : ∀ q ∈ kjL_X11_laysWays, q ∈ kjL_X11_off) q hq)) h) h (fun x31 p33 h g32 => ?_)
          have h := h g32
          have K := kj9_tr K p33.2
          exact kj_X11_off_67 hU hL h K
        · intro c34
          have h := h.2 c34
          refine cm_X11_refused (kj_X11_refused hU (fun q hq => hL q ((by decide : ∀ q ∈ kjL_X11_refused, q ∈ kjL_X11_off) q hq)) h) h (fun x35 x36 p38 h g37 => ?_)
          have h := h g37
          have K := kj9_tr K p38.2
          exact ⟨h, K⟩
      · intro c39
        have h := h.2 c39
        exact kj_X11_off_29 hU hL h K
theorem kj_X11_off {L : List (Nat × Nat)} (hU : ∀ q ∈ L, q ∈ njT) (hL : ∀ q ∈ kjL_X11_off, q ∈ L) {Q : Int32 → HS → Prop} {v0 : Nat} {v1 : Int32} {v2 : Int32} {v3 : Int32} {v4 : Int32} {S : HS} (h : P_X11_off v0 v1 v2 v3 v4 Q S) : P_X11_off v0 v1 v2 v3 v4 (fun r T => Q r T ∧ KJ L S T) S := kj_X11_off_0 hU hL h (kj9_rf L S)
abbrev kjL_X11_readFresh : List (Nat × Nat) := []
set_option maxRecDepth 20000 in
set_option maxHeartbeats 1000000 in
theorem kj_X11_readFresh_32 {L : List (Nat × Nat)} (hU : ∀ q ∈ L, q ∈ njT) (hL : ∀ q ∈ kjL_X11_readFresh, q ∈ L) {Q : Int64 → HS → Prop} {v0 : Nat} {S0 S : HS} (h : P_X11_readFresh_32 Q v0 S) (K : KJ L S0 S) : P_X11_readFresh_32 (fun r T => Q r T ∧ KJ L S0 T) v0 S := by
  delta P_X11_readFresh_32 at h ⊢
  obtain ⟨c1, h⟩ := h
  refine ⟨c1, ?_⟩
  intro x3 e2
  have h := h x3 e2
  refine cm_X11_goesOn (kj_X11_goesOn hU (fun q hq => hL q ((by decide : ∀ q ∈ kjL_X11_goesOn, q ∈ kjL_X11_readFresh) q hq)) h) h (fun x4 p6 h g5 => ?_)
  have h := h g5
  have K := kj9_tr K p6.2
  exact ⟨h, K⟩
set_option maxRecDepth 20000 in
set_option maxHeartbeats 1000000 in
theorem kj_X11_readFresh_12 {L : List (Nat × Nat)} (hU : ∀ q ∈ L, q ∈ njT) (hL : ∀ q ∈ kjL_X11_readFresh, q ∈ L) {Q : Int64 → HS → Prop} {v0 : Nat} {S0 S : HS} (h : P_X11_readFresh_12 Q v0 S) (K : KJ L S0 S) : P_X11_readFresh_12 (fun r T => Q r T ∧ KJ L S0 T) v0 S := by
  delta P_X11_readFresh_12 at h ⊢
  obtain ⟨c1, h⟩ := h
  refine ⟨c1, ?_⟩
  have o2 := c1
  obtain ⟨b3, e4, h⟩ := h
  refine ⟨b3, e4, ?_⟩
  intro x6 e5
  have h := h x6 e5
  obtain ⟨c7, h⟩ := h
  refine ⟨c7, ?_⟩
  refine cm_X10_find (kj_X10_find hU (fun q hq => hL q ((by decide : ∀ q ∈ kjL_X10_find, q ∈ kjL_X11_readFresh) q hq)) h) h (fun x8 x9 p11 h g10 => ?_)
  have h := h g10
  have K := kj9_tr K p11.2
  have o2 := gr_ob p11.2.1 o2
  refine ⟨?_, ?_⟩
  · intro c12
    have h := h.1 c12
    exact kj_X11_readFresh_32 hU hL h K
  · intro c13
    have h := h.2 c13
    refine cm_X11_flaw (kj_X11_flaw hU (fun q hq => hL q ((by decide : ∀ q ∈ kjL_X11_flaw, q ∈ kjL_X11_readFresh) q hq)) h) h (fun x14 p16 h g15 => ?_)
    have h := h g15
    have K := kj9_tr K p16.2
    have o2 := gr_ob p16.2.1 o2
    exact kj_X11_readFresh_32 hU hL h K
set_option maxRecDepth 20000 in
set_option maxHeartbeats 1000000 in
theorem kj_X11_readFresh_0 {L : List (Nat × Nat)} (hU : ∀ q ∈ L, q ∈ njT) (hL : ∀ q ∈ kjL_X11_readFresh, q ∈ L) {Q : Int64 → HS → Prop} {v0 : Nat} {S0 S : HS} (h : P_X11_readFresh_0 Q v0 S) (K : KJ L S0 S) : P_X11_readFresh_0 (fun r T => Q r T ∧ KJ L S0 T) v0 S := by
  delta P_X11_readFresh_0 at h ⊢
  obtain ⟨c1, h⟩ := h
  refine ⟨c1, ?_⟩
  refine cm_X11_isName (kj_X11_isName hU (fun q hq => hL q ((by decide : ∀ q ∈ kjL_X11_isName, q ∈ kjL_X11_readFresh) q hq)) h) h (fun x2 x3 p6 h g4 g5 => ?_)
  have h := h g4 g5
  have K := kj9_tr K p6.2
  refine ⟨?_, ?_⟩
  · intro c7
    have h := h.1 c7
    exact kj_X11_readFresh_12 hU hL h K
  · intro c8
    have h := h.2 c8
    refine cm_X11_flaw (kj_X11_flaw hU (fun q hq => hL q ((by decide : ∀ q ∈ kjL_X11_flaw, q ∈ kjL_X11_readFresh) q hq)) h) h (fun x9 p11 h g10 => ?_)
    have h := h g10
    have K := kj9_tr K p11.2
    exact kj_X11_readFresh_12 hU hL h K
theorem kj_X11_readFresh {L : List (Nat × Nat)} (hU : ∀ q ∈ L, q ∈ njT) (hL : ∀ q ∈ kjL_X11_readFresh, q ∈ L) {Q : Int64 → HS → Prop} {v0 : Nat} {S : HS} (h : P_X11_readFresh v0 Q S) : P_X11_readFresh v0 (fun r T => Q r T ∧ KJ L S T) S := kj_X11_readFresh_0 hU hL h (kj9_rf L S)
abbrev kjL_X11_readWhole : List (Nat × Nat) := []
set_option maxRecDepth 20000 in
set_option maxHeartbeats 1000000 in
theorem kj_X11_readWhole_49 {L : List (Nat × Nat)} (hU : ∀ q ∈ L, q ∈ njT) (hL : ∀ q ∈ kjL_X11_readWhole, q ∈ L) {Q : Int32 → HS → Prop} {v0 : Nat} {s0 : Int32} {S0 S : HS} (h : P_X11_readWhole_49 Q v0 s0 S) (K : KJ L S0 S) : P_X11_readWhole_49 (fun r T => Q r T ∧ KJ L S0 T) v0 s0 S := by
  delta P_X11_readWhole_49 at h ⊢
  obtain ⟨c1, h⟩ := h
  refine ⟨c1, ?_⟩
  refine cm_X11_goesOn (kj_X11_goesOn hU (fun q hq => hL q ((by decide : ∀ q ∈ kjL_X11_goesOn, q ∈ kjL_X11_readWhole) q hq)) h) h (fun x2 p4 h g3 => ?_)
  have h := h g3
  have K := kj9_tr K p4.2
  exact ⟨h, K⟩
set_option maxRecDepth 20000 in
set_option maxHeartbeats 1000000 in
theorem kj_X11_readWhole_33 {L : List (Nat × Nat)} (hU : ∀ q ∈ L, q ∈ njT) (hL : ∀ q ∈ kjL_X11_readWhole, q ∈ L) {Q : Int32 → HS → Prop} {v0 : Nat} {v1 : Int32} {S0 S : HS} (h : P_X11_readWhole_33 Q v0 v1 S) (K : KJ L S0 S) : P_X11_readWhole_33 (fun r T => Q r T ∧ KJ L S0 T) v0 v1 S := by
  delta P_X11_readWhole_33 at h ⊢
  obtain ⟨c1, h⟩ := h
  refine ⟨c1, ?_⟩
  intro x3 e2
  have h := h x3 e2
  refine ⟨?_, ?_⟩
  · intro c4
    have h := h.1 c4
    intro x6 e5
    have h := h x6 e5
    exact kj_X11_readWhole_49 hU hL h K
  · intro c7
    have h := h.2 c7
    exact kj_X11_readWhole_49 hU hL h K
set_option maxRecDepth 20000 in
set_option maxHeartbeats 1000000 in
theorem kj_X11_readWhole_0 {L : List (Nat × Nat)} (hU : ∀ q ∈ L, q ∈ njT) (hL : ∀ q ∈ kjL_X11_readWhole, q ∈ L) {Q : Int32 → HS → Prop} {v0 : Nat} {v1 : Int32} {v2 : Int32} {S0 S : HS} (h : P_X11_readWhole_0 Q v0 v1 v2 S) (K : KJ L S0 S) : P_X11_readWhole_0 (fun r T => Q r T ∧ KJ L S0 T) v0 v1 v2 S := by
  delta P_X11_readWhole_0 at h ⊢
  obtain ⟨c1, h⟩ := h
  refine ⟨c1, ?_⟩
  intro x3 e2
  have h := h x3 e2
  refine ⟨?_, ?_⟩
  · intro c4
    have h := h.1 c4
    intro x6 e5
    have h := h x6 e5
    refine cm_X11_in (kj_X11_in hU (fun q hq => hL q ((by decide : ∀ q ∈ kjL_X11_in, q ∈ kjL_X11_readWhole) q hq)) h) h (fun x7 x8 p11 h g9 g10 => ?_)
    have h := h g9 g10
    have K := kj9_tr K p11.2
    refine ⟨?_, ?_⟩
    · intro c12
      have h := h.1 c12
      exact kj_X11_readWhole_33 hU hL h K
    · intro c13
      have h := h.2 c13
      refine cm_X11_flaw (kj_X11_flaw hU (fun q hq => hL q ((by decide : ∀ q ∈ kjL_X11_flaw, q ∈ kjL_X11_readWhole) q hq)) h) h (fun x14 p16 h g15 => ?_)
      have h := h g15
      have K := kj9_tr K p16.2
      exact kj_X11_readWhole_33 hU hL h K
  · intro c17
    have h := h.2 c17
    refine cm_X11_flaw (kj_X11_flaw hU (fun q hq => hL q ((by decide : ∀ q ∈ kjL_X11_flaw, q ∈ kjL_X11_readWhole) q hq)) h) h (fun x18 p20 h g19 => ?_)
    have h := h g19
    have K := kj9_tr K p20.2
    exact kj_X11_readWhole_33 hU hL h K
theorem kj_X11_readWhole {L : List (Nat × Nat)} (hU : ∀ q ∈ L, q ∈ njT) (hL : ∀ q ∈ kjL_X11_readWhole, q ∈ L) {Q : Int32 → HS → Prop} {v0 : Nat} {v1 : Int32} {v2 : Int32} {S : HS} (h : P_X11_readWhole v0 v1 v2 Q S) : P_X11_readWhole v0 v1 v2 (fun r T => Q r T ∧ KJ L S T) S := kj_X11_readWhole_0 hU hL h (kj9_rf L S)
abbrev kjL_X11_readPlace : List (Nat × Nat) := [(10, 12), (10, 18), (10, 29), (10, 30)]
set_option maxRecDepth 20000 in
set_option maxHeartbeats 1000000 in
theorem kj_X11_readPlace_50 {L : List (Nat × Nat)} (hU : ∀ q ∈ L, q ∈ njT) (hL : ∀ q ∈ kjL_X11_readPlace, q ∈ L) {Q : HS → Prop} {v0 : Nat} {v1 : Int64} {v3 : Int32} {s0 : Int32} {S0 S : HS} (h : P_X11_readPlace_50 Q v0 v1 v3 s0 S) (K : KJ L S0 S) : P_X11_readPlace_50 (fun T => Q T ∧ KJ L S0 T) v0 v1 v3 s0 S := by
  delta P_X11_readPlace_50 at h ⊢
  obtain ⟨c1, h⟩ := h
  refine ⟨c1, ?_⟩
  have o2 := c1
  intro x4 e3
  have h := h x4 e3
  refine ⟨?_, ?_⟩
  · intro c5
    have h := h.1 c5
    obtain ⟨b6, e7, h⟩ := h
    refine ⟨b6, e7, ?_⟩
    obtain ⟨c8, h⟩ := h
    refine ⟨c8, ?_⟩
    intro x10 e9
    have h := h x10 e9
    refine cm_X11_names (kj_X11_names hU (fun q hq => hL q ((by decide : ∀ q ∈ kjL_X11_names, q ∈ kjL_X11_readPlace) q hq)) h) h (fun x11 p13 h g12 => ?_)
    have h := h g12
    have K := kj9_tr K p13.2
    have o2 := gr_ob p13.2.1 o2
    obtain ⟨b14, e15, h⟩ := h
    refine ⟨b14, e15, ?_⟩
    obtain ⟨c16, h⟩ := h
    refine ⟨c16, ?_⟩
    have o17 := c16
    obtain ⟨b18, e19, h⟩ := h
    refine ⟨b18, e19, ?_⟩
    have n20 := kj9_nr K e19 o17 (hL _ (by decide))
    obtain ⟨b21, e22, h⟩ := h
    refine ⟨b21, e22, ?_⟩
    obtain ⟨c23, h⟩ := h
    refine ⟨c23, ?_⟩
    intro x25 e24
    have h := h x25 e24
    obtain ⟨c26, h⟩ := h
    refine ⟨c26, ?_⟩
    obtain ⟨c27, h⟩ := h
    refine ⟨c27, ?_⟩
    intro x29 e28
    have h := h x29 e28
    have K := kj9_I K e28 n20
    have o2 := ob_wI o2 e28
    have o17 := ob_wI o17 e28
    obtain ⟨b30, e31, h⟩ := h
    refine ⟨b30, e31, ?_⟩
    obtain ⟨c32, h⟩ := h
    refine ⟨c32, ?_⟩
    have o33 := c32
    obtain ⟨b34, e35, h⟩ := h
    refine ⟨b34, e35, ?_⟩
    have n36 := kj9_nr K e35 o33 (hL _ (by decide))
    obtain ⟨b37, e38, h⟩ := h
    refine ⟨b37, e38, ?_⟩
    obtain ⟨c39, h⟩ := h
    refine ⟨c39, ?_⟩
    intro x41 e40
    have h := h x41 e40
    obtain ⟨c42, h⟩ := h
    refine ⟨c42, ?_⟩
    obtain ⟨c43, h⟩ := h
    refine ⟨c43, ?_⟩
    intro x45 e44
    have h := h x45 e44
    have K := kj9_I K e44 n36
    have o2 := ob_wI o2 e44
    have o17 := ob_wI o17 e44
    have o33 := ob_wI o33 e44
    obtain ⟨b46, e47, h⟩ := h
    refine ⟨b46, e47, ?_⟩
    obtain ⟨c48, h⟩ := h
    refine ⟨c48, ?_⟩
    have n49 := kj9_nk K c48 (by decide)
    intro x51 e50
    have h := h x51 e50
    intro x53 e52
    have h := h x53 e52
    intro x55 e54
    have h := h x55 e54
    have K := kj9_I K e54 n49
    have o2 := ob_wI o2 e54
    have o17 := ob_wI o17 e54
    have o33 := ob_wI o33 e54
    exact ⟨h, K⟩
  · intro c56
    have h := h.2 c56
    exact ⟨h, K⟩
set_option maxRecDepth 20000 in
set_option maxHeartbeats 1000000 in
theorem kj_X11_readPlace_48 {L : List (Nat × Nat)} (hU : ∀ q ∈ L, q ∈ njT) (hL : ∀ q ∈ kjL_X11_readPlace, q ∈ L) {Q : HS → Prop} {v0 : Nat} {v1 : Int64} {v3 : Int32} {S0 S : HS} (h : P_X11_readPlace_48 Q v0 v1 v3 S) (K : KJ L S0 S) : P_X11_readPlace_48 (fun T => Q T ∧ KJ L S0 T) v0 v1 v3 S := by
  delta P_X11_readPlace_48 at h ⊢
  exact kj_X11_readPlace_50 hU hL h K
set_option maxRecDepth 20000 in
set_option maxHeartbeats 1000000 in
theorem kj_X11_readPlace_0 {L : List (Nat × Nat)} (hU : ∀ q ∈ L, q ∈ njT) (hL : ∀ q ∈ kjL_X11_readPlace, q ∈ L) {Q : HS → Prop} {v0 : Nat} {S0 S : HS} (h : P_X11_readPlace_0 Q v0 S) (K : KJ L S0 S) : P_X11_readPlace_0 (fun T => Q T ∧ KJ L S0 T) v0 S := by
  delta P_X11_readPlace_0 at h ⊢
  obtain ⟨c1, h⟩ := h
  refine ⟨c1, ?_⟩
  have o2 := c1
  obtain ⟨b3, e4, h⟩ := h
  refine ⟨b3, e4, ?_⟩
  obtain ⟨c5, h⟩ := h
  refine ⟨c5, ?_⟩
  intro x7 e6
  have h := h x7 e6
  refine cm_X11_begins (kj_X11_begins hU (fun q hq => hL q ((by decide : ∀ q ∈ kjL_X11_begins, q ∈ kjL_X11_readPlace) q hq)) h) h (fun x8 p10 h g9 => ?_)
  have h := h g9
  have K := kj9_tr K p10.2
  have o2 := gr_ob p10.2.1 o2
  refine cm_X11_readFresh (kj_X11_readFresh hU (fun q hq => hL q ((by decide : ∀ q ∈ kjL_X11_readFresh, q ∈ kjL_X11_readPlace) q hq)) h) h (fun x11 x12 p14 h g13 => ?_)
  have h := h g13
  have K := kj9_tr K p14.2
  have o2 := gr_ob p14.2.1 o2
  refine cm_X11_eatsWord (kj_X11_eatsWord hU (fun q hq => hL q ((by decide : ∀ q ∈ kjL_X11_eatsWord, q ∈ kjL_X11_readPlace) q hq)) h) h (fun x15 x16 p19 h g17 g18 => ?_)
  have h := h g17 g18
  have K := kj9_tr K p19.2
  have o2 := gr_ob p19.2.1 o2
  refine ⟨?_, ?_⟩
  · intro c20
    have h := h.1 c20
    exact kj_X11_readPlace_48 hU hL h K
  · intro c21
    have h := h.2 c21
    refine cm_X11_eatsWord (kj_X11_eatsWord hU (fun q hq => hL q ((by decide : ∀ q ∈ kjL_X11_eatsWord, q ∈ kjL_X11_readPlace) q hq)) h) h (fun x22 x23 p26 h g24 g25 => ?_)
    have h := h g24 g25
    have K := kj9_tr K p26.2
    have o2 := gr_ob p26.2.1 o2
    refine ⟨?_, ?_⟩
    · intro c27
      have h := h.1 c27
      exact kj_X11_readPlace_48 hU hL h K
    · intro c28
      have h := h.2 c28
      refine cm_X11_readWhole (kj_X11_readWhole hU (fun q hq => hL q ((by decide : ∀ q ∈ kjL_X11_readWhole, q ∈ kjL_X11_readPlace) q hq)) h) h (fun x29 x30 p32 h g31 => ?_)
      have h := h g31
      have K := kj9_tr K p32.2
      have o2 := gr_ob p32.2.1 o2
      exact kj_X11_readPlace_50 hU hL h K
theorem kj_X11_readPlace {L : List (Nat × Nat)} (hU : ∀ q ∈ L, q ∈ njT) (hL : ∀ q ∈ kjL_X11_readPlace, q ∈ L) {Q : HS → Prop} {v0 : Nat} {S : HS} (h : P_X11_readPlace v0 Q S) : P_X11_readPlace v0 (fun T => Q T ∧ KJ L S T) S := kj_X11_readPlace_0 hU hL h (kj9_rf L S)
abbrev kjL_X11_readPart : List (Nat × Nat) := []
set_option maxRecDepth 20000 in
set_option maxHeartbeats 1000000 in
theorem kj_X11_readPart_0 {L : List (Nat × Nat)} (hU : ∀ q ∈ L, q ∈ njT) (hL : ∀ q ∈ kjL_X11_readPart, q ∈ L) {Q : Int32 → HS → Prop} {v0 : Nat} {v1 : Nat} {v2 : Int32} {v3 : Int32} {S0 S : HS} (h : P_X11_readPart_0 Q v0 v1 v2 v3 S) (K : KJ L S0 S) : P_X11_readPart_0 (fun r T => Q r T ∧ KJ L S0 T) v0 v1 v2 v3 S := by
  delta P_X11_readPart_0 at h ⊢
  obtain ⟨c1, h⟩ := h
  refine ⟨c1, ?_⟩
  refine cm_X11_needs (kj_X11_needs hU (fun q hq => hL q ((by decide : ∀ q ∈ kjL_X11_needs, q ∈ kjL_X11_readPart) q hq)) h) h (fun x2 p4 h g3 => ?_)
  have h := h g3
  have K := kj9_tr K p4.2
  refine cm_X11_readWhole (kj_X11_readWhole hU (fun q hq => hL q ((by decide : ∀ q ∈ kjL_X11_readWhole, q ∈ kjL_X11_readPart) q hq)) h) h (fun x5 x6 p8 h g7 => ?_)
  have h := h g7
  have K := kj9_tr K p8.2
  exact ⟨h, K⟩
theorem kj_X11_readPart {L : List (Nat × Nat)} (hU : ∀ q ∈ L, q ∈ njT) (hL : ∀ q ∈ kjL_X11_readPart, q ∈ L) {Q : Int32 → HS → Prop} {v0 : Nat} {v1 : Nat} {v2 : Int32} {v3 : Int32} {S : HS} (h : P_X11_readPart v0 v1 v2 v3 Q S) : P_X11_readPart v0 v1 v2 v3 (fun r T => Q r T ∧ KJ L S T) S := kj_X11_readPart_0 hU hL h (kj9_rf L S)
abbrev kjL_X11_readSide : List (Nat × Nat) := []
set_option maxRecDepth 20000 in
set_option maxHeartbeats 1000000 in
theorem kj_X11_readSide_64 {L : List (Nat × Nat)} (hU : ∀ q ∈ L, q ∈ njT) (hL : ∀ q ∈ kjL_X11_readSide, q ∈ L) {Q : Int32 → HS → Prop} {v0 : Nat} {v1 : Int32} {S0 S : HS} (h : P_X11_readSide_64 Q v0 v1 S) (K : KJ L S0 S) : P_X11_readSide_64 (fun r T => Q r T ∧ KJ L S0 T) v0 v1 S := by
  delta P_X11_readSide_64 at h ⊢
  obtain ⟨c1, h⟩ := h
  refine ⟨c1, ?_⟩
  refine cm_X11_goesOn (kj_X11_goesOn hU (fun q hq => hL q ((by decide : ∀ q ∈ kjL_X11_goesOn, q ∈ kjL_X11_readSide) q hq)) h) h (fun x2 p4 h g3 => ?_)
  have h := h g3
  have K := kj9_tr K p4.2
  exact ⟨h, K⟩
set_option maxRecDepth 20000 in
set_option maxHeartbeats 1000000 in
theorem kj_X11_readSide_53 {L : List (Nat × Nat)} (hU : ∀ q ∈ L, q ∈ njT) (hL : ∀ q ∈ kjL_X11_readSide, q ∈ L) {Q : Int32 → HS → Prop} {v0 : Nat} {s0 : Int32} {S0 S : HS} (h : P_X11_readSide_53 Q v0 s0 S) (K : KJ L S0 S) : P_X11_readSide_53 (fun r T => Q r T ∧ KJ L S0 T) v0 s0 S := by
  delta P_X11_readSide_53 at h ⊢
  refine ⟨?_, ?_⟩
  · intro c1
    have h := h.1 c1
    exact kj_X11_readSide_64 hU hL h K
  · intro c2
    have h := h.2 c2
    obtain ⟨c3, h⟩ := h
    refine ⟨c3, ?_⟩
    refine cm_X11_flaw (kj_X11_flaw hU (fun q hq => hL q ((by decide : ∀ q ∈ kjL_X11_flaw, q ∈ kjL_X11_readSide) q hq)) h) h (fun x4 p6 h g5 => ?_)
    have h := h g5
    have K := kj9_tr K p6.2
    exact kj_X11_readSide_64 hU hL h K
set_option maxRecDepth 20000 in
set_option maxHeartbeats 1000000 in
theorem kj_X11_readSide_0 {L : List (Nat × Nat)} (hU : ∀ q ∈ L, q ∈ njT) (hL : ∀ q ∈ kjL_X11_readSide, q ∈ L) {Q : Int32 → HS → Prop} {v0 : Nat} {S0 S : HS} (h : P_X11_readSide_0 Q v0 S) (K : KJ L S0 S) : P_X11_readSide_0 (fun r T => Q r T ∧ KJ L S0 T) v0 S := by
  delta P_X11_readSide_0 at h ⊢
  obtain ⟨c1, h⟩ := h
  refine ⟨c1, ?_⟩
  refine cm_X11_isWord (kj_X11_isWord hU (fun q hq => hL q ((by decide : ∀ q ∈ kjL_X11_isWord, q ∈ kjL_X11_readSide) q hq)) h) h (fun x2 x3 p6 h g4 g5 => ?_)
  have h := h g4 g5
  have K := kj9_tr K p6.2
  refine ⟨?_, ?_⟩
  · intro c7
    have h := h.1 c7
    refine cm_X11_isWord (kj_X11_isWord hU (fun q hq => hL q ((by decide : ∀ q ∈ kjL_X11_isWord, q ∈ kjL_X11_readSide) q hq)) h) h (fun x8 x9 p12 h g10 g11 => ?_)
    have h := h g10 g11
    have K := kj9_tr K p12.2
    refine ⟨?_, ?_⟩
    · intro c13
      have h := h.1 c13
      refine cm_X11_isWord (kj_X11_isWord hU (fun q hq => hL q ((by decide : ∀ q ∈ kjL_X11_isWord, q ∈ kjL_X11_readSide) q hq)) h) h (fun x14 x15 p18 h g16 g17 => ?_)
      have h := h g16 g17
      have K := kj9_tr K p18.2
      refine ⟨?_, ?_⟩
      · intro c19
        have h := h.1 c19
        refine cm_X11_isWord (kj_X11_isWord hU (fun q hq => hL q ((by decide : ∀ q ∈ kjL_X11_isWord, q ∈ kjL_X11_readSide) q hq)) h) h (fun x20 x21 p24 h g22 g23 => ?_)
        have h := h g22 g23
        have K := kj9_tr K p24.2
        refine ⟨?_, ?_⟩
        · intro c25
          have h := h.1 c25
          exact kj_X11_readSide_53 hU hL h K
        · intro c26
          have h := h.2 c26
          exact kj_X11_readSide_53 hU hL h K
      · intro c27
        have h := h.2 c27
        exact kj_X11_readSide_53 hU hL h K
    · intro c28
      have h := h.2 c28
      exact kj_X11_readSide_53 hU hL h K
  · intro c29
    have h := h.2 c29
    exact kj_X11_readSide_53 hU hL h K
theorem kj_X11_readSide {L : List (Nat × Nat)} (hU : ∀ q ∈ L, q ∈ njT) (hL : ∀ q ∈ kjL_X11_readSide, q ∈ L) {Q : Int32 → HS → Prop} {v0 : Nat} {S : HS} (h : P_X11_readSide v0 Q S) : P_X11_readSide v0 (fun r T => Q r T ∧ KJ L S T) S := kj_X11_readSide_0 hU hL h (kj9_rf L S)
abbrev kjL_X11_readRain : List (Nat × Nat) := [(10, 7), (10, 8), (10, 9), (10, 10), (10, 11)]
set_option maxRecDepth 20000 in
set_option maxHeartbeats 1000000 in
theorem kj_X11_readRain_0 {L : List (Nat × Nat)} (hU : ∀ q ∈ L, q ∈ njT) (hL : ∀ q ∈ kjL_X11_readRain, q ∈ L) {Q : HS → Prop} {v0 : Nat} {S0 S : HS} (h : P_X11_readRain_0 Q v0 S) (K : KJ L S0 S) : P_X11_readRain_0 (fun T => Q T ∧ KJ L S0 T) v0 S := by
  delta P_X11_readRain_0 at h ⊢
  obtain ⟨c1, h⟩ := h
  refine ⟨c1, ?_⟩
  have o2 := c1
  obtain ⟨b3, e4, h⟩ := h
  refine ⟨b3, e4, ?_⟩
  obtain ⟨c5, h⟩ := h
  refine ⟨c5, ?_⟩
  intro x7 e6
  have h := h x7 e6
  refine cm_X11_begins (kj_X11_begins hU (fun q hq => hL q ((by decide : ∀ q ∈ kjL_X11_begins, q ∈ kjL_X11_readRain) q hq)) h) h (fun x8 p10 h g9 => ?_)
  have h := h g9
  have K := kj9_tr K p10.2
  have o2 := gr_ob p10.2.1 o2
  refine cm_X11_readPart (kj_X11_readPart hU (fun q hq => hL q ((by decide : ∀ q ∈ kjL_X11_readPart, q ∈ kjL_X11_readRain) q hq)) h) h (fun x11 x12 p14 h g13 => ?_)
  have h := h g13
  have K := kj9_tr K p14.2
  have o2 := gr_ob p14.2.1 o2
  refine cm_X11_readPart (kj_X11_readPart hU (fun q hq => hL q ((by decide : ∀ q ∈ kjL_X11_readPart, q ∈ kjL_X11_readRain) q hq)) h) h (fun x15 x16 p18 h g17 => ?_)
  have h := h g17
  have K := kj9_tr K p18.2
  have o2 := gr_ob p18.2.1 o2
  refine cm_X11_needs (kj_X11_needs hU (fun q hq => hL q ((by decide : ∀ q ∈ kjL_X11_needs, q ∈ kjL_X11_readRain) q hq)) h) h (fun x19 p21 h g20 => ?_)
  have h := h g20
  have K := kj9_tr K p21.2
  have o2 := gr_ob p21.2.1 o2
  refine cm_X11_readSide (kj_X11_readSide hU (fun q hq => hL q ((by decide : ∀ q ∈ kjL_X11_readSide, q ∈ kjL_X11_readRain) q hq)) h) h (fun x22 x23 p25 h g24 => ?_)
  have h := h g24
  have K := kj9_tr K p25.2
  have o2 := gr_ob p25.2.1 o2
  refine cm_X11_readWhole (kj_X11_readWhole hU (fun q hq => hL q ((by decide : ∀ q ∈ kjL_X11_readWhole, q ∈ kjL_X11_readRain) q hq)) h) h (fun x26 x27 p29 h g28 => ?_)
  have h := h g28
  have K := kj9_tr K p29.2
  have o2 := gr_ob p29.2.1 o2
  refine cm_X11_readPart (kj_X11_readPart hU (fun q hq => hL q ((by decide : ∀ q ∈ kjL_X11_readPart, q ∈ kjL_X11_readRain) q hq)) h) h (fun x30 x31 p33 h g32 => ?_)
  have h := h g32
  have K := kj9_tr K p33.2
  have o2 := gr_ob p33.2.1 o2
  intro x35 e34
  have h := h x35 e34
  refine ⟨?_, ?_⟩
  · intro c36
    have h := h.1 c36
    obtain ⟨b37, e38, h⟩ := h
    refine ⟨b37, e38, ?_⟩
    obtain ⟨c39, h⟩ := h
    refine ⟨c39, ?_⟩
    have o40 := c39
    obtain ⟨b41, e42, h⟩ := h
    refine ⟨b41, e42, ?_⟩
    have n43 := kj9_nr K e42 o40 (hL _ (by decide))
    obtain ⟨b44, e45, h⟩ := h
    refine ⟨b44, e45, ?_⟩
    obtain ⟨c46, h⟩ := h
    refine ⟨c46, ?_⟩
    intro x48 e47
    have h := h x48 e47
    obtain ⟨c49, h⟩ := h
    refine ⟨c49, ?_⟩
    obtain ⟨c50, h⟩ := h
    refine ⟨c50, ?_⟩
    intro x52 e51
    have h := h x52 e51
    have K := kj9_I K e51 n43
    have o2 := ob_wI o2 e51
    have o40 := ob_wI o40 e51
    obtain ⟨b53, e54, h⟩ := h
    refine ⟨b53, e54, ?_⟩
    obtain ⟨c55, h⟩ := h
    refine ⟨c55, ?_⟩
    have o56 := c55
    obtain ⟨b57, e58, h⟩ := h
    refine ⟨b57, e58, ?_⟩
    have n59 := kj9_nr K e58 o56 (hL _ (by decide))
    obtain ⟨b60, e61, h⟩ := h
    refine ⟨b60, e61, ?_⟩
    obtain ⟨c62, h⟩ := h
    refine ⟨c62, ?_⟩
    intro x64 e63
    have h := h x64 e63
    obtain ⟨c65, h⟩ := h
    refine ⟨c65, ?_⟩
    obtain ⟨c66, h⟩ := h
    refine ⟨c66, ?_⟩
    intro x68 e67
    have h := h x68 e67
    have K := kj9_I K e67 n59
    have o2 := ob_wI o2 e67
    have o40 := ob_wI o40 e67
    have o56 := ob_wI o56 e67
    obtain ⟨b69, e70, h⟩ := h
    refine ⟨b69, e70, ?_⟩
    obtain ⟨c71, h⟩ := h
    refine ⟨c71, ?_⟩
    have o72 := c71
    obtain ⟨b73, e74, h⟩ := h
    refine ⟨b73, e74, ?_⟩
    have n75 := kj9_nr K e74 o72 (hL _ (by decide))
    obtain ⟨b76, e77, h⟩ := h
    refine ⟨b76, e77, ?_⟩
    obtain ⟨c78, h⟩ := h
    refine ⟨c78, ?_⟩
    intro x80 e79
    have h := h x80 e79
    obtain ⟨c81, h⟩ := h
    refine ⟨c81, ?_⟩
    obtain ⟨c82, h⟩ := h
    refine ⟨c82, ?_⟩
    intro x84 e83
    have h := h x84 e83
    have K := kj9_I K e83 n75
    have o2 := ob_wI o2 e83
    have o40 := ob_wI o40 e83
    have o56 := ob_wI o56 e83
    have o72 := ob_wI o72 e83
    obtain ⟨b85, e86, h⟩ := h
    refine ⟨b85, e86, ?_⟩
    obtain ⟨c87, h⟩ := h
    refine ⟨c87, ?_⟩
    have o88 := c87
    obtain ⟨b89, e90, h⟩ := h
    refine ⟨b89, e90, ?_⟩
    have n91 := kj9_nr K e90 o88 (hL _ (by decide))
    obtain ⟨b92, e93, h⟩ := h
    refine ⟨b92, e93, ?_⟩
    obtain ⟨c94, h⟩ := h
    refine ⟨c94, ?_⟩
    intro x96 e95
    have h := h x96 e95
    obtain ⟨c97, h⟩ := h
    refine ⟨c97, ?_⟩
    obtain ⟨c98, h⟩ := h
    refine ⟨c98, ?_⟩
    intro x100 e99
    have h := h x100 e99
    have K := kj9_I K e99 n91
    have o2 := ob_wI o2 e99
    have o40 := ob_wI o40 e99
    have o56 := ob_wI o56 e99
    have o72 := ob_wI o72 e99
    have o88 := ob_wI o88 e99
    obtain ⟨b101, e102, h⟩ := h
    refine ⟨b101, e102, ?_⟩
    obtain ⟨c103, h⟩ := h
    refine ⟨c103, ?_⟩
    have o104 := c103
    obtain ⟨b105, e106, h⟩ := h
    refine ⟨b105, e106, ?_⟩
    have n107 := kj9_nr K e106 o104 (hL _ (by decide))
    obtain ⟨b108, e109, h⟩ := h
    refine ⟨b108, e109, ?_⟩
    obtain ⟨c110, h⟩ := h
    refine ⟨c110, ?_⟩
    intro x112 e111
    have h := h x112 e111
    obtain ⟨c113, h⟩ := h
    refine ⟨c113, ?_⟩
    obtain ⟨c114, h⟩ := h
    refine ⟨c114, ?_⟩
    intro x116 e115
    have h := h x116 e115
    have K := kj9_I K e115 n107
    have o2 := ob_wI o2 e115
    have o40 := ob_wI o40 e115
    have o56 := ob_wI o56 e115
    have o72 := ob_wI o72 e115
    have o88 := ob_wI o88 e115
    have o104 := ob_wI o104 e115
    obtain ⟨b117, e118, h⟩ := h
    refine ⟨b117, e118, ?_⟩
    obtain ⟨c119, h⟩ := h
    refine ⟨c119, ?_⟩
    have n120 := kj9_nk K c119 (by decide)
    intro x122 e121
    have h := h x122 e121
    intro x124 e123
    have h := h x124 e123
    intro x126 e125
    have h := h x126 e125
    have K := kj9_I K e125 n120
    have o2 := ob_wI o2 e125
    have o40 := ob_wI o40 e125
    have o56 := ob_wI o56 e125
    have o72 := ob_wI o72 e125
    have o88 := ob_wI o88 e125
    have o104 := ob_wI o104 e125
    exact ⟨h, K⟩
  · intro c127
    have h := h.2 c127
    exact ⟨h, K⟩
theorem kj_X11_readRain {L : List (Nat × Nat)} (hU : ∀ q ∈ L, q ∈ njT) (hL : ∀ q ∈ kjL_X11_readRain, q ∈ L) {Q : HS → Prop} {v0 : Nat} {S : HS} (h : P_X11_readRain v0 Q S) : P_X11_readRain v0 (fun T => Q T ∧ KJ L S T) S := kj_X11_readRain_0 hU hL h (kj9_rf L S)
abbrev kjL_X11_readRoad : List (Nat × Nat) := [(10, 13), (10, 14), (10, 15), (10, 16), (10, 17)]
set_option maxRecDepth 20000 in
set_option maxHeartbeats 1000000 in
theorem kj_X11_readRoad_85 {L : List (Nat × Nat)} (hU : ∀ q ∈ L, q ∈ njT) (hL : ∀ q ∈ kjL_X11_readRoad, q ∈ L) {Q : HS → Prop} {v0 : Nat} {v1 : Int32} {v2 : Int32} {v3 : Int32} {v4 : Int32} {s0 : Int32} {S0 S : HS} (h : P_X11_readRoad_85 Q v0 v1 v2 v3 v4 s0 S) (K : KJ L S0 S) : P_X11_readRoad_85 (fun T => Q T ∧ KJ L S0 T) v0 v1 v2 v3 v4 s0 S := by
  delta P_X11_readRoad_85 at h ⊢
  obtain ⟨c1, h⟩ := h
  refine ⟨c1, ?_⟩
  have o2 := c1
  intro x4 e3
  have h := h x4 e3
  refine ⟨?_, ?_⟩
  · intro c5
    have h := h.1 c5
    obtain ⟨b6, e7, h⟩ := h
    refine ⟨b6, e7, ?_⟩
    obtain ⟨c8, h⟩ := h
    refine ⟨c8, ?_⟩
    intro x10 e9
    have h := h x10 e9
    obtain ⟨b11, e12, h⟩ := h
    refine ⟨b11, e12, ?_⟩
    obtain ⟨c13, h⟩ := h
    refine ⟨c13, ?_⟩
    have o14 := c13
    obtain ⟨b15, e16, h⟩ := h
    refine ⟨b15, e16, ?_⟩
    have n17 := kj9_nr K e16 o14 (hL _ (by decide))
    obtain ⟨c18, h⟩ := h
    refine ⟨c18, ?_⟩
    obtain ⟨c19, h⟩ := h
    refine ⟨c19, ?_⟩
    intro x21 e20
    have h := h x21 e20
    have K := kj9_I K e20 n17
    have o2 := ob_wI o2 e20
    have o14 := ob_wI o14 e20
    obtain ⟨b22, e23, h⟩ := h
    refine ⟨b22, e23, ?_⟩
    obtain ⟨c24, h⟩ := h
    refine ⟨c24, ?_⟩
    have o25 := c24
    obtain ⟨b26, e27, h⟩ := h
    refine ⟨b26, e27, ?_⟩
    have n28 := kj9_nr K e27 o25 (hL _ (by decide))
    obtain ⟨c29, h⟩ := h
    refine ⟨c29, ?_⟩
    obtain ⟨c30, h⟩ := h
    refine ⟨c30, ?_⟩
    intro x32 e31
    have h := h x32 e31
    have K := kj9_I K e31 n28
    have o2 := ob_wI o2 e31
    have o14 := ob_wI o14 e31
    have o25 := ob_wI o25 e31
    obtain ⟨b33, e34, h⟩ := h
    refine ⟨b33, e34, ?_⟩
    obtain ⟨c35, h⟩ := h
    refine ⟨c35, ?_⟩
    have o36 := c35
    obtain ⟨b37, e38, h⟩ := h
    refine ⟨b37, e38, ?_⟩
    have n39 := kj9_nr K e38 o36 (hL _ (by decide))
    obtain ⟨c40, h⟩ := h
    refine ⟨c40, ?_⟩
    obtain ⟨c41, h⟩ := h
    refine ⟨c41, ?_⟩
    intro x43 e42
    have h := h x43 e42
    have K := kj9_I K e42 n39
    have o2 := ob_wI o2 e42
    have o14 := ob_wI o14 e42
    have o25 := ob_wI o25 e42
    have o36 := ob_wI o36 e42
    obtain ⟨b44, e45, h⟩ := h
    refine ⟨b44, e45, ?_⟩
    obtain ⟨c46, h⟩ := h
    refine ⟨c46, ?_⟩
    have o47 := c46
    obtain ⟨b48, e49, h⟩ := h
    refine ⟨b48, e49, ?_⟩
    have n50 := kj9_nr K e49 o47 (hL _ (by decide))
    obtain ⟨c51, h⟩ := h
    refine ⟨c51, ?_⟩
    obtain ⟨c52, h⟩ := h
    refine ⟨c52, ?_⟩
    intro x54 e53
    have h := h x54 e53
    have K := kj9_I K e53 n50
    have o2 := ob_wI o2 e53
    have o14 := ob_wI o14 e53
    have o25 := ob_wI o25 e53
    have o36 := ob_wI o36 e53
    have o47 := ob_wI o47 e53
    obtain ⟨b55, e56, h⟩ := h
    refine ⟨b55, e56, ?_⟩
    obtain ⟨c57, h⟩ := h
    refine ⟨c57, ?_⟩
    have o58 := c57
    obtain ⟨b59, e60, h⟩ := h
    refine ⟨b59, e60, ?_⟩
    have n61 := kj9_nr K e60 o58 (hL _ (by decide))
    obtain ⟨c62, h⟩ := h
    refine ⟨c62, ?_⟩
    obtain ⟨c63, h⟩ := h
    refine ⟨c63, ?_⟩
    intro x65 e64
    have h := h x65 e64
    have K := kj9_I K e64 n61
    have o2 := ob_wI o2 e64
    have o14 := ob_wI o14 e64
    have o25 := ob_wI o25 e64
    have o36 := ob_wI o36 e64
    have o47 := ob_wI o47 e64
    have o58 := ob_wI o58 e64
    obtain ⟨b66, e67, h⟩ := h
    refine ⟨b66, e67, ?_⟩
    obtain ⟨c68, h⟩ := h
    refine ⟨c68, ?_⟩
    have n69 := kj9_nk K c68 (by decide)
    intro x71 e70
    have h := h x71 e70
    intro x73 e72
    have h := h x73 e72
    intro x75 e74
    have h := h x75 e74
    have K := kj9_I K e74 n69
    have o2 := ob_wI o2 e74
    have o14 := ob_wI o14 e74
    have o25 := ob_wI o25 e74
    have o36 := ob_wI o36 e74
    have o47 := ob_wI o47 e74
    have o58 := ob_wI o58 e74
    exact ⟨h, K⟩
  · intro c76
    have h := h.2 c76
    exact ⟨h, K⟩
set_option maxRecDepth 20000 in
set_option maxHeartbeats 1000000 in
theorem kj_X11_readRoad_62 {L : List (Nat × Nat)} (hU : ∀ q ∈ L, q ∈ njT) (hL : ∀ q ∈ kjL_X11_readRoad, q ∈ L) {Q : HS → Prop} {v0 : Nat} {v1 : Int32} {v2 : Int32} {v3 : Int32} {v4 : Int32} {S0 S : HS} (h : P_X11_readRoad_62 Q v0 v1 v2 v3 v4 S) (K : KJ L S0 S) : P_X11_readRoad_62 (fun T => Q T ∧ KJ L S0 T) v0 v1 v2 v3 v4 S := by
  delta P_X11_readRoad_62 at h ⊢
  obtain ⟨c1, h⟩ := h
  refine ⟨c1, ?_⟩
  refine cm_X11_goesOn (kj_X11_goesOn hU (fun q hq => hL q ((by decide : ∀ q ∈ kjL_X11_goesOn, q ∈ kjL_X11_readRoad) q hq)) h) h (fun x2 p4 h g3 => ?_)
  have h := h g3
  have K := kj9_tr K p4.2
  refine cm_X11_eatsWord (kj_X11_eatsWord hU (fun q hq => hL q ((by decide : ∀ q ∈ kjL_X11_eatsWord, q ∈ kjL_X11_readRoad) q hq)) h) h (fun x5 x6 p9 h g7 g8 => ?_)
  have h := h g7 g8
  have K := kj9_tr K p9.2
  refine ⟨?_, ?_⟩
  · intro c10
    have h := h.1 c10
    exact kj_X11_readRoad_85 hU hL h K
  · intro c11
    have h := h.2 c11
    refine cm_X11_readWhole (kj_X11_readWhole hU (fun q hq => hL q ((by decide : ∀ q ∈ kjL_X11_readWhole, q ∈ kjL_X11_readRoad) q hq)) h) h (fun x12 x13 p15 h g14 => ?_)
    have h := h g14
    have K := kj9_tr K p15.2
    exact kj_X11_readRoad_85 hU hL h K
set_option maxRecDepth 20000 in
set_option maxHeartbeats 1000000 in
theorem kj_X11_readRoad_0 {L : List (Nat × Nat)} (hU : ∀ q ∈ L, q ∈ njT) (hL : ∀ q ∈ kjL_X11_readRoad, q ∈ L) {Q : HS → Prop} {v0 : Nat} {S0 S : HS} (h : P_X11_readRoad_0 Q v0 S) (K : KJ L S0 S) : P_X11_readRoad_0 (fun T => Q T ∧ KJ L S0 T) v0 S := by
  delta P_X11_readRoad_0 at h ⊢
  obtain ⟨c1, h⟩ := h
  refine ⟨c1, ?_⟩
  have o2 := c1
  obtain ⟨b3, e4, h⟩ := h
  refine ⟨b3, e4, ?_⟩
  obtain ⟨c5, h⟩ := h
  refine ⟨c5, ?_⟩
  intro x7 e6
  have h := h x7 e6
  refine cm_X11_begins (kj_X11_begins hU (fun q hq => hL q ((by decide : ∀ q ∈ kjL_X11_begins, q ∈ kjL_X11_readRoad) q hq)) h) h (fun x8 p10 h g9 => ?_)
  have h := h g9
  have K := kj9_tr K p10.2
  have o2 := gr_ob p10.2.1 o2
  refine cm_X11_known (kj_X11_known hU (fun q hq => hL q ((by decide : ∀ q ∈ kjL_X11_known, q ∈ kjL_X11_readRoad) q hq)) h) h (fun x11 x12 p14 h g13 => ?_)
  have h := h g13
  have K := kj9_tr K p14.2
  have o2 := gr_ob p14.2.1 o2
  refine cm_X11_goesOn (kj_X11_goesOn hU (fun q hq => hL q ((by decide : ∀ q ∈ kjL_X11_goesOn, q ∈ kjL_X11_readRoad) q hq)) h) h (fun x15 p17 h g16 => ?_)
  have h := h g16
  have K := kj9_tr K p17.2
  have o2 := gr_ob p17.2.1 o2
  refine cm_X11_readSide (kj_X11_readSide hU (fun q hq => hL q ((by decide : ∀ q ∈ kjL_X11_readSide, q ∈ kjL_X11_readRoad) q hq)) h) h (fun x18 x19 p21 h g20 => ?_)
  have h := h g20
  have K := kj9_tr K p21.2
  have o2 := gr_ob p21.2.1 o2
  refine cm_X11_readWhole (kj_X11_readWhole hU (fun q hq => hL q ((by decide : ∀ q ∈ kjL_X11_readWhole, q ∈ kjL_X11_readRoad) q hq)) h) h (fun x22 x23 p25 h g24 => ?_)
  have h := h g24
  have K := kj9_tr K p25.2
  have o2 := gr_ob p25.2.1 o2
  refine cm_X11_known (kj_X11_known hU (fun q hq => hL q ((by decide : ∀ q ∈ kjL_X11_known, q ∈ kjL_X11_readRoad) q hq)) h) h (fun x26 x27 p29 h g28 => ?_)
  have h := h g28
  have K := kj9_tr K p29.2
  have o2 := gr_ob p29.2.1 o2
  intro x31 e30
  have h := h x31 e30
  refine ⟨?_, ?_⟩
  · intro c32
    have h := h.1 c32
    exact kj_X11_readRoad_62 hU hL h K
  · intro c33
    have h := h.2 c33
    refine ⟨?_, ?_⟩
    · intro c34
      have h := h.1 c34
      exact kj_X11_readRoad_62 hU hL h K
    · intro c35
      have h := h.2 c35
      refine cm_X11_flaw (kj_X11_flaw hU (fun q hq => hL q ((by decide : ∀ q ∈ kjL_X11_flaw, q ∈ kjL_X11_readRoad) q hq)) h) h (fun x36 p38 h g37 => ?_)
      have h := h g37
      have K := kj9_tr K p38.2
      have o2 := gr_ob p38.2.1 o2
      exact kj_X11_readRoad_62 hU hL h K
theorem kj_X11_readRoad {L : List (Nat × Nat)} (hU : ∀ q ∈ L, q ∈ njT) (hL : ∀ q ∈ kjL_X11_readRoad, q ∈ L) {Q : HS → Prop} {v0 : Nat} {S : HS} (h : P_X11_readRoad v0 Q S) : P_X11_readRoad v0 (fun T => Q T ∧ KJ L S T) S := kj_X11_readRoad_0 hU hL h (kj9_rf L S)
abbrev kjL_X11_readSeen : List (Nat × Nat) := [(10, 26), (10, 27)]
set_option maxRecDepth 20000 in
set_option maxHeartbeats 1000000 in
theorem kj_X11_readSeen_47 {L : List (Nat × Nat)} (hU : ∀ q ∈ L, q ∈ njT) (hL : ∀ q ∈ kjL_X11_readSeen, q ∈ L) {Q : HS → Prop} {X24 X24_2 : Nat → Int32 → Int32 → HS → Prop} {v0 : Nat} {v1 : Int32} {v2 : Int32} {S0 S : HS} (h : P_X11_readSeen_47 Q X24 v0 v1 v2 S) (K : KJ L S0 S) (hX24 : ∀ (u0 : Nat) (u1 : Int32) (u2 : Int32) (u3 : HS), X24 u0 u1 u2 u3 → KJ L S0 u3 → X24_2 u0 u1 u2 u3) : P_X11_readSeen_47 (fun T => Q T ∧ KJ L S0 T) X24_2 v0 v1 v2 S := by
  delta P_X11_readSeen_47 at h ⊢
  obtain ⟨c1, h⟩ := h
  refine ⟨c1, ?_⟩
  have o2 := c1
  refine cm_X11_readWhole (kj_X11_readWhole hU (fun q hq => hL q ((by decide : ∀ q ∈ kjL_X11_readWhole, q ∈ kjL_X11_readSeen) q hq)) h) h (fun x3 x4 p6 h g5 => ?_)
  have h := h g5
  have K := kj9_tr K p6.2
  have o2 := gr_ob p6.2.1 o2
  intro x8 e7
  have h := h x8 e7
  refine ⟨?_, ?_⟩
  · intro c9
    have h := h.1 c9
    obtain ⟨b10, e11, h⟩ := h
    refine ⟨b10, e11, ?_⟩
    obtain ⟨c12, h⟩ := h
    refine ⟨c12, ?_⟩
    have o13 := c12
    obtain ⟨b14, e15, h⟩ := h
    refine ⟨b14, e15, ?_⟩
    have n16 := kj9_nr K e15 o13 (hL _ (by decide))
    obtain ⟨b17, e18, h⟩ := h
    refine ⟨b17, e18, ?_⟩
    obtain ⟨c19, h⟩ := h
    refine ⟨c19, ?_⟩
    intro x21 e20
    have h := h x21 e20
    obtain ⟨c22, h⟩ := h
    refine ⟨c22, ?_⟩
    obtain ⟨c23, h⟩ := h
    refine ⟨c23, ?_⟩
    intro x25 e24
    have h := h x25 e24
    have K := kj9_I K e24 n16
    have o2 := ob_wI o2 e24
    have o13 := ob_wI o13 e24
    intro x27 e26
    have h := h x27 e26
    exact hX24 _ _ _ _ h K
  · intro c28
    have h := h.2 c28
    exact ⟨h, K⟩
set_option maxRecDepth 20000 in
set_option maxHeartbeats 1000000 in
theorem kjB_X11_readSeen_24 {L : List (Nat × Nat)} (hU : ∀ q ∈ L, q ∈ njT) (hL : ∀ q ∈ kjL_X11_readSeen, q ∈ L) {Q : HS → Prop} {X24 X24_2 : Nat → Int32 → Int32 → HS → Prop} {v0 : Nat} {v1 : Int32} {v2 : Int32} {S0 S : HS} (h : B_X11_readSeen_24 Q X24 v0 v1 v2 S) (K : KJ L S0 S) (hX24 : ∀ (u0 : Nat) (u1 : Int32) (u2 : Int32) (u3 : HS), X24 u0 u1 u2 u3 → KJ L S0 u3 → X24_2 u0 u1 u2 u3) : B_X11_readSeen_24 (fun T => Q T ∧ KJ L S0 T) X24_2 v0 v1 v2 S := by
  delta B_X11_readSeen_24 at h ⊢
  refine ⟨?_, ?_⟩
  · intro c1
    have h := h.1 c1
    obtain ⟨c2, h⟩ := h
    refine ⟨c2, ?_⟩
    have o3 := c2
    obtain ⟨b4, e5, h⟩ := h
    refine ⟨b4, e5, ?_⟩
    obtain ⟨c6, h⟩ := h
    refine ⟨c6, ?_⟩
    have o7 := c6
    obtain ⟨b8, e9, h⟩ := h
    refine ⟨b8, e9, ?_⟩
    have n10 := kj9_nr K e9 o7 (hL _ (by decide))
    obtain ⟨b11, e12, h⟩ := h
    refine ⟨b11, e12, ?_⟩
    obtain ⟨c13, h⟩ := h
    refine ⟨c13, ?_⟩
    intro x15 e14
    have h := h x15 e14
    obtain ⟨c16, h⟩ := h
    refine ⟨c16, ?_⟩
    obtain ⟨c17, h⟩ := h
    refine ⟨c17, ?_⟩
    intro x19 e18
    have h := h x19 e18
    have K := kj9_I K e18 n10
    have o3 := ob_wI o3 e18
    have o7 := ob_wI o7 e18
    obtain ⟨b20, e21, h⟩ := h
    refine ⟨b20, e21, ?_⟩
    obtain ⟨c22, h⟩ := h
    refine ⟨c22, ?_⟩
    have n23 := kj9_nk K c22 (by decide)
    intro x25 e24
    have h := h x25 e24
    intro x27 e26
    have h := h x27 e26
    intro x29 e28
    have h := h x29 e28
    have K := kj9_I K e28 n23
    have o3 := ob_wI o3 e28
    have o7 := ob_wI o7 e28
    exact ⟨h, K⟩
  · intro c30
    have h := h.2 c30
    refine ⟨?_, ?_⟩
    · intro c31
      have h := h.1 c31
      exact kj_X11_readSeen_47 hU hL h K hX24
    · intro c32
      have h := h.2 c32
      obtain ⟨c33, h⟩ := h
      refine ⟨c33, ?_⟩
      have o34 := c33
      refine cm_X11_eatsSign (kj_X11_eatsSign hU (fun q hq => hL q ((by decide : ∀ q ∈ kjL_X11_eatsSign, q ∈ kjL_X11_readSeen) q hq)) h) h (fun x35 x36 p39 h g37 g38 => ?_)
      have h := h g37 g38
      have K := kj9_tr K p39.2
      have o34 := gr_ob p39.2.1 o34
      refine ⟨?_, ?_⟩
      · intro c40
        have h := h.1 c40
        exact kj_X11_readSeen_47 hU hL h K hX24
      · intro c41
        have h := h.2 c41
        refine cm_X11_flaw (kj_X11_flaw hU (fun q hq => hL q ((by decide : ∀ q ∈ kjL_X11_flaw, q ∈ kjL_X11_readSeen) q hq)) h) h (fun x42 p44 h g43 => ?_)
        have h := h g43
        have K := kj9_tr K p44.2
        have o34 := gr_ob p44.2.1 o34
        exact kj_X11_readSeen_47 hU hL h K hX24
theorem kj_X11_readSeen_24 {L : List (Nat × Nat)} (hU : ∀ q ∈ L, q ∈ njT) (hL : ∀ q ∈ kjL_X11_readSeen, q ∈ L) {Q : HS → Prop} {v0 : Nat} {v1 : Int32} {v2 : Int32} {S0 S : HS} (h : P_X11_readSeen_24 Q v0 v1 v2 S) (K : KJ L S0 S) : P_X11_readSeen_24 (fun T => Q T ∧ KJ L S0 T) v0 v1 v2 S := h (fun v0 v1 v2 S => KJ L S0 S → P_X11_readSeen_24 (fun T => Q T ∧ KJ L S0 T) v0 v1 v2 S) (fun v0 v1 v2 S hB K => fd_X11_readSeen_24 (kjB_X11_readSeen_24 hU hL hB K (fun _ _ _ _ hx K => hx K))) K
set_option maxRecDepth 20000 in
set_option maxHeartbeats 1000000 in
theorem kj_X11_readSeen_0 {L : List (Nat × Nat)} (hU : ∀ q ∈ L, q ∈ njT) (hL : ∀ q ∈ kjL_X11_readSeen, q ∈ L) {Q : HS → Prop} {v0 : Nat} {S0 S : HS} (h : P_X11_readSeen_0 Q v0 S) (K : KJ L S0 S) : P_X11_readSeen_0 (fun T => Q T ∧ KJ L S0 T) v0 S := by
  delta P_X11_readSeen_0 at h ⊢
  obtain ⟨c1, h⟩ := h
  refine ⟨c1, ?_⟩
  have o2 := c1
  obtain ⟨b3, e4, h⟩ := h
  refine ⟨b3, e4, ?_⟩
  obtain ⟨c5, h⟩ := h
  refine ⟨c5, ?_⟩
  intro x7 e6
  have h := h x7 e6
  refine cm_X11_begins (kj_X11_begins hU (fun q hq => hL q ((by decide : ∀ q ∈ kjL_X11_begins, q ∈ kjL_X11_readSeen) q hq)) h) h (fun x8 p10 h g9 => ?_)
  have h := h g9
  have K := kj9_tr K p10.2
  have o2 := gr_ob p10.2.1 o2
  refine cm_X11_known (kj_X11_known hU (fun q hq => hL q ((by decide : ∀ q ∈ kjL_X11_known, q ∈ kjL_X11_readSeen) q hq)) h) h (fun x11 x12 p14 h g13 => ?_)
  have h := h g13
  have K := kj9_tr K p14.2
  have o2 := gr_ob p14.2.1 o2
  refine cm_X11_goesOn (kj_X11_goesOn hU (fun q hq => hL q ((by decide : ∀ q ∈ kjL_X11_goesOn, q ∈ kjL_X11_readSeen) q hq)) h) h (fun x15 p17 h g16 => ?_)
  have h := h g16
  have K := kj9_tr K p17.2
  have o2 := gr_ob p17.2.1 o2
  exact kj_X11_readSeen_24 hU hL h K
theorem kj_X11_readSeen {L : List (Nat × Nat)} (hU : ∀ q ∈ L, q ∈ njT) (hL : ∀ q ∈ kjL_X11_readSeen, q ∈ L) {Q : HS → Prop} {v0 : Nat} {S : HS} (h : P_X11_readSeen v0 Q S) : P_X11_readSeen v0 (fun T => Q T ∧ KJ L S T) S := kj_X11_readSeen_0 hU hL h (kj9_rf L S)
abbrev kjL_X11_readWalker : List (Nat × Nat) := [(10, 19), (10, 20), (10, 21), (10, 22), (10, 23), (10, 24), (10, 25), (10, 29), (10, 30)]
set_option maxRecDepth 20000 in
set_option maxHeartbeats 1000000 in
theorem kj_X11_readWalker_149 {L : List (Nat × Nat)} (hU : ∀ q ∈ L, q ∈ njT) (hL : ∀ q ∈ kjL_X11_readWalker, q ∈ L) {Q : HS → Prop} {v0 : Nat} {v1 : Int64} {v3 : Int32} {v4 : Int32} {s0 : Int32} {S0 S : HS} (h : P_X11_readWalker_149 Q v0 v1 v3 v4 s0 S) (K : KJ L S0 S) : P_X11_readWalker_149 (fun T => Q T ∧ KJ L S0 T) v0 v1 v3 v4 s0 S := by
  delta P_X11_readWalker_149 at h ⊢
  obtain ⟨c1, h⟩ := h
  refine ⟨c1, ?_⟩
  have o2 := c1
  refine cm_X11_readPart (kj_X11_readPart hU (fun q hq => hL q ((by decide : ∀ q ∈ kjL_X11_readPart, q ∈ kjL_X11_readWalker) q hq)) h) h (fun x3 x4 p6 h g5 => ?_)
  have h := h g5
  have K := kj9_tr K p6.2
  have o2 := gr_ob p6.2.1 o2
  refine cm_X11_readPart (kj_X11_readPart hU (fun q hq => hL q ((by decide : ∀ q ∈ kjL_X11_readPart, q ∈ kjL_X11_readWalker) q hq)) h) h (fun x7 x8 p10 h g9 => ?_)
  have h := h g9
  have K := kj9_tr K p10.2
  have o2 := gr_ob p10.2.1 o2
  refine cm_X11_readPart (kj_X11_readPart hU (fun q hq => hL q ((by decide : ∀ q ∈ kjL_X11_readPart, q ∈ kjL_X11_readWalker) q hq)) h) h (fun x11 x12 p14 h g13 => ?_)
  have h := h g13
  have K := kj9_tr K p14.2
  have o2 := gr_ob p14.2.1 o2
  refine cm_X11_readPart (kj_X11_readPart hU (fun q hq => hL q ((by decide : ∀ q ∈ kjL_X11_readPart, q ∈ kjL_X11_readWalker) q hq)) h) h (fun x15 x16 p18 h g17 => ?_)
  have h := h g17
  have K := kj9_tr K p18.2
  have o2 := gr_ob p18.2.1 o2
  refine cm_X11_readPart (kj_X11_readPart hU (fun q hq => hL q ((by decide : ∀ q ∈ kjL_X11_readPart, q ∈ kjL_X11_readWalker) q hq)) h) h (fun x19 x20 p22 h g21 => ?_)
  have h := h g21
  have K := kj9_tr K p22.2
  have o2 := gr_ob p22.2.1 o2
  intro x24 e23
  have h := h x24 e23
  refine ⟨?_, ?_⟩
  · intro c25
    have h := h.1 c25
    obtain ⟨b26, e27, h⟩ := h
    refine ⟨b26, e27, ?_⟩
    obtain ⟨c28, h⟩ := h
    refine ⟨c28, ?_⟩
    intro x30 e29
    have h := h x30 e29
    refine cm_X11_names (kj_X11_names hU (fun q hq => hL q ((by decide : ∀ q ∈ kjL_X11_names, q ∈ kjL_X11_readWalker) q hq)) h) h (fun x31 p33 h g32 => ?_)
    have h := h g32
    have K := kj9_tr K p33.2
    have o2 := gr_ob p33.2.1 o2
    obtain ⟨b34, e35, h⟩ := h
    refine ⟨b34, e35, ?_⟩
    obtain ⟨c36, h⟩ := h
    refine ⟨c36, ?_⟩
    have o37 := c36
    obtain ⟨b38, e39, h⟩ := h
    refine ⟨b38, e39, ?_⟩
    have n40 := kj9_nr K e39 o37 (hL _ (by decide))
    obtain ⟨c41, h⟩ := h
    refine ⟨c41, ?_⟩
    obtain ⟨c42, h⟩ := h
    refine ⟨c42, ?_⟩
    intro x44 e43
    have h := h x44 e43
    have K := kj9_I K e43 n40
    have o2 := ob_wI o2 e43
    have o37 := ob_wI o37 e43
    obtain ⟨b45, e46, h⟩ := h
    refine ⟨b45, e46, ?_⟩
    obtain ⟨c47, h⟩ := h
    refine ⟨c47, ?_⟩
    have o48 := c47
    obtain ⟨b49, e50, h⟩ := h
    refine ⟨b49, e50, ?_⟩
    have n51 := kj9_nr K e50 o48 (hL _ (by decide))
    obtain ⟨c52, h⟩ := h
    refine ⟨c52, ?_⟩
    obtain ⟨c53, h⟩ := h
    refine ⟨c53, ?_⟩
    intro x55 e54
    have h := h x55 e54
    have K := kj9_I K e54 n51
    have o2 := ob_wI o2 e54
    have o37 := ob_wI o37 e54
    have o48 := ob_wI o48 e54
    obtain ⟨b56, e57, h⟩ := h
    refine ⟨b56, e57, ?_⟩
    obtain ⟨c58, h⟩ := h
    refine ⟨c58, ?_⟩
    have o59 := c58
    obtain ⟨b60, e61, h⟩ := h
    refine ⟨b60, e61, ?_⟩
    have n62 := kj9_nr K e61 o59 (hL _ (by decide))
    obtain ⟨c63, h⟩ := h
    refine ⟨c63, ?_⟩
    intro x65 e64
    have h := h x65 e64
    obtain ⟨c66, h⟩ := h
    refine ⟨c66, ?_⟩
    intro x68 e67
    have h := h x68 e67
    have K := kj9_I K e67 n62
    have o2 := ob_wI o2 e67
    have o37 := ob_wI o37 e67
    have o48 := ob_wI o48 e67
    have o59 := ob_wI o59 e67
    obtain ⟨b69, e70, h⟩ := h
    refine ⟨b69, e70, ?_⟩
    obtain ⟨c71, h⟩ := h
    refine ⟨c71, ?_⟩
    have o72 := c71
    obtain ⟨b73, e74, h⟩ := h
    refine ⟨b73, e74, ?_⟩
    have n75 := kj9_nr K e74 o72 (hL _ (by decide))
    obtain ⟨c76, h⟩ := h
    refine ⟨c76, ?_⟩
    intro x78 e77
    have h := h x78 e77
    obtain ⟨c79, h⟩ := h
    refine ⟨c79, ?_⟩
    intro x81 e80
    have h := h x81 e80
    have K := kj9_I K e80 n75
    have o2 := ob_wI o2 e80
    have o37 := ob_wI o37 e80
    have o48 := ob_wI o48 e80
    have o59 := ob_wI o59 e80
    have o72 := ob_wI o72 e80
    obtain ⟨b82, e83, h⟩ := h
    refine ⟨b82, e83, ?_⟩
    obtain ⟨c84, h⟩ := h
    refine ⟨c84, ?_⟩
    have o85 := c84
    obtain ⟨b86, e87, h⟩ := h
    refine ⟨b86, e87, ?_⟩
    have n88 := kj9_nr K e87 o85 (hL _ (by decide))
    obtain ⟨c89, h⟩ := h
    refine ⟨c89, ?_⟩
    intro x91 e90
    have h := h x91 e90
    obtain ⟨c92, h⟩ := h
    refine ⟨c92, ?_⟩
    intro x94 e93
    have h := h x94 e93
    have K := kj9_I K e93 n88
    have o2 := ob_wI o2 e93
    have o37 := ob_wI o37 e93
    have o48 := ob_wI o48 e93
    have o59 := ob_wI o59 e93
    have o72 := ob_wI o72 e93
    have o85 := ob_wI o85 e93
    obtain ⟨b95, e96, h⟩ := h
    refine ⟨b95, e96, ?_⟩
    obtain ⟨c97, h⟩ := h
    refine ⟨c97, ?_⟩
    have o98 := c97
    obtain ⟨b99, e100, h⟩ := h
    refine ⟨b99, e100, ?_⟩
    have n101 := kj9_nr K e100 o98 (hL _ (by decide))
    obtain ⟨c102, h⟩ := h
    refine ⟨c102, ?_⟩
    obtain ⟨c103, h⟩ := h
    refine ⟨c103, ?_⟩
    intro x105 e104
    have h := h x105 e104
    have K := kj9_I K e104 n101
    have o2 := ob_wI o2 e104
    have o37 := ob_wI o37 e104
    have o48 := ob_wI o48 e104
    have o59 := ob_wI o59 e104
    have o72 := ob_wI o72 e104
    have o85 := ob_wI o85 e104
    have o98 := ob_wI o98 e104
    obtain ⟨b106, e107, h⟩ := h
    refine ⟨b106, e107, ?_⟩
    obtain ⟨c108, h⟩ := h
    refine ⟨c108, ?_⟩
    have o109 := c108
    obtain ⟨b110, e111, h⟩ := h
    refine ⟨b110, e111, ?_⟩
    have n112 := kj9_nr K e111 o109 (hL _ (by decide))
    obtain ⟨c113, h⟩ := h
    refine ⟨c113, ?_⟩
    obtain ⟨c114, h⟩ := h
    refine ⟨c114, ?_⟩
    intro x116 e115
    have h := h x116 e115
    have K := kj9_I K e115 n112
    have o2 := ob_wI o2 e115
    have o37 := ob_wI o37 e115
    have o48 := ob_wI o48 e115
    have o59 := ob_wI o59 e115
    have o72 := ob_wI o72 e115
    have o85 := ob_wI o85 e115
    have o98 := ob_wI o98 e115
    have o109 := ob_wI o109 e115
    obtain ⟨b117, e118, h⟩ := h
    refine ⟨b117, e118, ?_⟩
    obtain ⟨c119, h⟩ := h
    refine ⟨c119, ?_⟩
    have n120 := kj9_nk K c119 (by decide)
    intro x122 e121
    have h := h x122 e121
    intro x124 e123
    have h := h x124 e123
    intro x126 e125
    have h := h x126 e125
    have K := kj9_I K e125 n120
    have o2 := ob_wI o2 e125
    have o37 := ob_wI o37 e125
    have o48 := ob_wI o48 e125
    have o59 := ob_wI o59 e125
    have o72 := ob_wI o72 e125
    have o85 := ob_wI o85 e125
    have o98 := ob_wI o98 e125
    have o109 := ob_wI o109 e125
    exact ⟨h, K⟩
  · intro c127
    have h := h.2 c127
    exact ⟨h, K⟩
set_option maxRecDepth 20000 in
set_option maxHeartbeats 1000000 in
theorem kj_X11_readWalker_136 {L : List (Nat × Nat)} (hU : ∀ q ∈ L, q ∈ njT) (hL : ∀ q ∈ kjL_X11_readWalker, q ∈ L) {Q : HS → Prop} {v0 : Nat} {v1 : Int64} {v3 : Int32} {s0 : Int32} {S0 S : HS} (h : P_X11_readWalker_136 Q v0 v1 v3 s0 S) (K : KJ L S0 S) : P_X11_readWalker_136 (fun T => Q T ∧ KJ L S0 T) v0 v1 v3 s0 S := by
  delta P_X11_readWalker_136 at h ⊢
  refine ⟨?_, ?_⟩
  · intro c1
    have h := h.1 c1
    exact kj_X11_readWalker_149 hU hL h K
  · intro c2
    have h := h.2 c2
    exact kj_X11_readWalker_149 hU hL h K
set_option maxRecDepth 20000 in
set_option maxHeartbeats 1000000 in
theorem kj_X11_readWalker_85 {L : List (Nat × Nat)} (hU : ∀ q ∈ L, q ∈ njT) (hL : ∀ q ∈ kjL_X11_readWalker, q ∈ L) {Q : HS → Prop} {v0 : Nat} {v1 : Int64} {v3 : Int32} {S0 S : HS} (h : P_X11_readWalker_85 Q v0 v1 v3 S) (K : KJ L S0 S) : P_X11_readWalker_85 (fun T => Q T ∧ KJ L S0 T) v0 v1 v3 S := by
  delta P_X11_readWalker_85 at h ⊢
  obtain ⟨c1, h⟩ := h
  refine ⟨c1, ?_⟩
  refine cm_X11_goesOn (kj_X11_goesOn hU (fun q hq => hL q ((by decide : ∀ q ∈ kjL_X11_goesOn, q ∈ kjL_X11_readWalker) q hq)) h) h (fun x2 p4 h g3 => ?_)
  have h := h g3
  have K := kj9_tr K p4.2
  refine ⟨?_, ?_⟩
  · intro c5
    have h := h.1 c5
    refine ⟨?_, ?_⟩
    · intro c6
      have h := h.1 c6
      refine ⟨?_, ?_⟩
      · intro c7
        have h := h.1 c7
        exact kj_X11_readWalker_136 hU hL h K
      · intro c8
        have h := h.2 c8
        refine cm_X11_readWhole (kj_X11_readWhole hU (fun q hq => hL q ((by decide : ∀ q ∈ kjL_X11_readWhole, q ∈ kjL_X11_readWalker) q hq)) h) h (fun x9 x10 p12 h g11 => ?_)
        have h := h g11
        have K := kj9_tr K p12.2
        exact kj_X11_readWalker_136 hU hL h K
    · intro c13
      have h := h.2 c13
      refine cm_X11_readWhole (kj_X11_readWhole hU (fun q hq => hL q ((by decide : ∀ q ∈ kjL_X11_readWhole, q ∈ kjL_X11_readWalker) q hq)) h) h (fun x14 x15 p17 h g16 => ?_)
      have h := h g16
      have K := kj9_tr K p17.2
      exact kj_X11_readWalker_136 hU hL h K
  · intro c18
    have h := h.2 c18
    refine cm_X11_readWhole (kj_X11_readWhole hU (fun q hq => hL q ((by decide : ∀ q ∈ kjL_X11_readWhole, q ∈ kjL_X11_readWalker) q hq)) h) h (fun x19 x20 p22 h g21 => ?_)
    have h := h g21
    have K := kj9_tr K p22.2
    exact kj_X11_readWalker_136 hU hL h K
set_option maxRecDepth 20000 in
set_option maxHeartbeats 1000000 in
theorem kj_X11_readWalker_74 {L : List (Nat × Nat)} (hU : ∀ q ∈ L, q ∈ njT) (hL : ∀ q ∈ kjL_X11_readWalker, q ∈ L) {Q : HS → Prop} {v0 : Nat} {v1 : Int64} {s0 : Int32} {S0 S : HS} (h : P_X11_readWalker_74 Q v0 v1 s0 S) (K : KJ L S0 S) : P_X11_readWalker_74 (fun T => Q T ∧ KJ L S0 T) v0 v1 s0 S := by
  delta P_X11_readWalker_74 at h ⊢
  refine ⟨?_, ?_⟩
  · intro c1
    have h := h.1 c1
    exact kj_X11_readWalker_85 hU hL h K
  · intro c2
    have h := h.2 c2
    obtain ⟨c3, h⟩ := h
    refine ⟨c3, ?_⟩
    refine cm_X11_flaw (kj_X11_flaw hU (fun q hq => hL q ((by decide : ∀ q ∈ kjL_X11_flaw, q ∈ kjL_X11_readWalker) q hq)) h) h (fun x4 p6 h g5 => ?_)
    have h := h g5
    have K := kj9_tr K p6.2
    exact kj_X11_readWalker_85 hU hL h K
set_option maxRecDepth 20000 in
set_option maxHeartbeats 1000000 in
theorem kj_X11_readWalker_0 {L : List (Nat × Nat)} (hU : ∀ q ∈ L, q ∈ njT) (hL : ∀ q ∈ kjL_X11_readWalker, q ∈ L) {Q : HS → Prop} {v0 : Nat} {S0 S : HS} (h : P_X11_readWalker_0 Q v0 S) (K : KJ L S0 S) : P_X11_readWalker_0 (fun T => Q T ∧ KJ L S0 T) v0 S := by
  delta P_X11_readWalker_0 at h ⊢
  obtain ⟨c1, h⟩ := h
  refine ⟨c1, ?_⟩
  have o2 := c1
  obtain ⟨b3, e4, h⟩ := h
  refine ⟨b3, e4, ?_⟩
  obtain ⟨c5, h⟩ := h
  refine ⟨c5, ?_⟩
  intro x7 e6
  have h := h x7 e6
  refine cm_X11_begins (kj_X11_begins hU (fun q hq => hL q ((by decide : ∀ q ∈ kjL_X11_begins, q ∈ kjL_X11_readWalker) q hq)) h) h (fun x8 p10 h g9 => ?_)
  have h := h g9
  have K := kj9_tr K p10.2
  have o2 := gr_ob p10.2.1 o2
  refine cm_X11_readFresh (kj_X11_readFresh hU (fun q hq => hL q ((by decide : ∀ q ∈ kjL_X11_readFresh, q ∈ kjL_X11_readWalker) q hq)) h) h (fun x11 x12 p14 h g13 => ?_)
  have h := h g13
  have K := kj9_tr K p14.2
  have o2 := gr_ob p14.2.1 o2
  refine cm_X11_isWord (kj_X11_isWord hU (fun q hq => hL q ((by decide : ∀ q ∈ kjL_X11_isWord, q ∈ kjL_X11_readWalker) q hq)) h) h (fun x15 x16 p19 h g17 g18 => ?_)
  have h := h g17 g18
  have K := kj9_tr K p19.2
  have o2 := gr_ob p19.2.1 o2
  refine ⟨?_, ?_⟩
  · intro c20
    have h := h.1 c20
    refine cm_X11_isWord (kj_X11_isWord hU (fun q hq => hL q ((by decide : ∀ q ∈ kjL_X11_isWord, q ∈ kjL_X11_readWalker) q hq)) h) h (fun x21 x22 p25 h g23 g24 => ?_)
    have h := h g23 g24
    have K := kj9_tr K p25.2
    have o2 := gr_ob p25.2.1 o2
    refine ⟨?_, ?_⟩
    · intro c26
      have h := h.1 c26
      refine cm_X11_isWord (kj_X11_isWord hU (fun q hq => hL q ((by decide : ∀ q ∈ kjL_X11_isWord, q ∈ kjL_X11_readWalker) q hq)) h) h (fun x27 x28 p31 h g29 g30 => ?_)
      have h := h g29 g30
      have K := kj9_tr K p31.2
      have o2 := gr_ob p31.2.1 o2
      refine ⟨?_, ?_⟩
      · intro c32
        have h := h.1 c32
        refine cm_X11_isWord (kj_X11_isWord hU (fun q hq => hL q ((by decide : ∀ q ∈ kjL_X11_isWord, q ∈ kjL_X11_readWalker) q hq)) h) h (fun x33 x34 p37 h g35 g36 => ?_)
        have h := h g35 g36
        have K := kj9_tr K p37.2
        have o2 := gr_ob p37.2.1 o2
        refine ⟨?_, ?_⟩
        · intro c38
          have h := h.1 c38
          exact kj_X11_readWalker_74 hU hL h K
        · intro c39
          have h := h.2 c39
          exact kj_X11_readWalker_74 hU hL h K
      · intro c40
        have h := h.2 c40
        exact kj_X11_readWalker_74 hU hL h K
    · intro c41
      have h := h.2 c41
      exact kj_X11_readWalker_74 hU hL h K
  · intro c42
    have h := h.2 c42
    exact kj_X11_readWalker_74 hU hL h K
theorem kj_X11_readWalker {L : List (Nat × Nat)} (hU : ∀ q ∈ L, q ∈ njT) (hL : ∀ q ∈ kjL_X11_readWalker, q ∈ L) {Q : HS → Prop} {v0 : Nat} {S : HS} (h : P_X11_readWalker v0 Q S) : P_X11_readWalker v0 (fun T => Q T ∧ KJ L S T) S := kj_X11_readWalker_0 hU hL h (kj9_rf L S)
abbrev kjL_X11_readWorld : List (Nat × Nat) := []
set_option maxRecDepth 20000 in
set_option maxHeartbeats 1000000 in
theorem kj_X11_readWorld_15 {L : List (Nat × Nat)} (hU : ∀ q ∈ L, q ∈ njT) (hL : ∀ q ∈ kjL_X11_readWorld, q ∈ L) {Q : HS → Prop} {v0 : Nat} {S0 S : HS} (h : P_X11_readWorld_15 Q v0 S) (K : KJ L S0 S) : P_X11_readWorld_15 (fun T => Q T ∧ KJ L S0 T) v0 S := by
  delta P_X11_readWorld_15 at h ⊢
  obtain ⟨c1, h⟩ := h
  refine ⟨c1, ?_⟩
  have o2 := c1
  refine cm_X11_goesOn (kj_X11_goesOn hU (fun q hq => hL q ((by decide : ∀ q ∈ kjL_X11_goesOn, q ∈ kjL_X11_readWorld) q hq)) h) h (fun x3 p5 h g4 => ?_)
  have h := h g4
  have K := kj9_tr K p5.2
  have o2 := gr_ob p5.2.1 o2
  refine cm_X11_readPart (kj_X11_readPart hU (fun q hq => hL q ((by decide : ∀ q ∈ kjL_X11_readPart, q ∈ kjL_X11_readWorld) q hq)) h) h (fun x6 x7 p9 h g8 => ?_)
  have h := h g8
  have K := kj9_tr K p9.2
  have o2 := gr_ob p9.2.1 o2
  intro x11 e10
  have h := h x11 e10
  refine ⟨?_, ?_⟩
  · intro c12
    have h := h.1 c12
    exact ⟨h, K⟩
  · intro c13
    have h := h.2 c13
    obtain ⟨b14, e15, h⟩ := h
    refine ⟨b14, e15, ?_⟩
    obtain ⟨c16, h⟩ := h
    refine ⟨c16, ?_⟩
    have n17 := kj9_nk K c16 (by decide)
    intro x19 e18
    have h := h x19 e18
    have K := kj9_I K e18 n17
    have o2 := ob_wI o2 e18
    exact ⟨h, K⟩
set_option maxRecDepth 20000 in
set_option maxHeartbeats 1000000 in
theorem kj_X11_readWorld_0 {L : List (Nat × Nat)} (hU : ∀ q ∈ L, q ∈ njT) (hL : ∀ q ∈ kjL_X11_readWorld, q ∈ L) {Q : HS → Prop} {v0 : Nat} {S0 S : HS} (h : P_X11_readWorld_0 Q v0 S) (K : KJ L S0 S) : P_X11_readWorld_0 (fun T => Q T ∧ KJ L S0 T) v0 S := by
  delta P_X11_readWorld_0 at h ⊢
  obtain ⟨c1, h⟩ := h
  refine ⟨c1, ?_⟩
  have o2 := c1
  obtain ⟨b3, e4, h⟩ := h
  refine ⟨b3, e4, ?_⟩
  obtain ⟨c5, h⟩ := h
  refine ⟨c5, ?_⟩
  intro x7 e6
  have h := h x7 e6
  refine ⟨?_, ?_⟩
  · intro c8
    have h := h.1 c8
    exact kj_X11_readWorld_15 hU hL h K
  · intro c9
    have h := h.2 c9
    refine cm_X11_flaw (kj_X11_flaw hU (fun q hq => hL q ((by decide : ∀ q ∈ kjL_X11_flaw, q ∈ kjL_X11_readWorld) q hq)) h) h (fun x10 p12 h g11 => ?_)
    have h := h g11
    have K := kj9_tr K p12.2
    have o2 := gr_ob p12.2.1 o2
    exact kj_X11_readWorld_15 hU hL h K
theorem kj_X11_readWorld {L : List (Nat × Nat)} (hU : ∀ q ∈ L, q ∈ njT) (hL : ∀ q ∈ kjL_X11_readWorld, q ∈ L) {Q : HS → Prop} {v0 : Nat} {S : HS} (h : P_X11_readWorld v0 Q S) : P_X11_readWorld v0 (fun T => Q T ∧ KJ L S T) S := kj_X11_readWorld_0 hU hL h (kj9_rf L S)
abbrev kjL_X11_readLine : List (Nat × Nat) := [(10, 7), (10, 8), (10, 9), (10, 10), (10, 11), (10, 12), (10, 13), (10, 14), (10, 15), (10, 16), (10, 17), (10, 18), (10, 19), (10, 20), (10, 21), (10, 22), (10, 23), (10, 24), (10, 25), (10, 26), (10, 27), (10, 29), (10, 30)]
set_option maxRecDepth 20000 in
set_option maxHeartbeats 1000000 in
theorem kj_X11_readLine_0 {L : List (Nat × Nat)} (hU : ∀ q ∈ L, q ∈ njT) (hL : ∀ q ∈ kjL_X11_readLine, q ∈ L) {Q : HS → Prop} {v0 : Nat} {S0 S : HS} (h : P_X11_readLine_0 Q v0 S) (K : KJ L S0 S) : P_X11_readLine_0 (fun T => Q T ∧ KJ L S0 T) v0 S := by
  delta P_X11_readLine_0 at h ⊢
  obtain ⟨c1, h⟩ := h
  refine ⟨c1, ?_⟩
  refine cm_X11_isWord (kj_X11_isWord hU (fun q hq => hL q ((by decide : ∀ q ∈ kjL_X11_isWord, q ∈ kjL_X11_readLine) q hq)) h) h (fun x2 x3 p6 h g4 g5 => ?_)
  have h := h g4 g5
  have K := kj9_tr K p6.2
  refine ⟨?_, ?_⟩
  · intro c7
    have h := h.1 c7
    refine cm_X11_isWord (kj_X11_isWord hU (fun q hq => hL q ((by decide : ∀ q ∈ kjL_X11_isWord, q ∈ kjL_X11_readLine) q hq)) h) h (fun x8 x9 p12 h g10 g11 => ?_)
    have h := h g10 g11
    have K := kj9_tr K p12.2
    refine ⟨?_, ?_⟩
    · intro c13
      have h := h.1 c13
      refine cm_X11_isWord (kj_X11_isWord hU (fun q hq => hL q ((by decide : ∀ q ∈ kjL_X11_isWord, q ∈ kjL_X11_readLine) q hq)) h) h (fun x14 x15 p18 h g16 g17 => ?_)
      have h := h g16 g17
      have K := kj9_tr K p18.2
      refine ⟨?_, ?_⟩
      · intro c19
        have h := h.1 c19
        refine cm_X11_isWord (kj_X11_isWord hU (fun q hq => hL q ((by decide : ∀ q ∈ kjL_X11_isWord, q ∈ kjL_X11_readLine) q hq)) h) h (fun x20 x21 p24 h g22 g23 => ?_)
        have h := h g22 g23
        have K := kj9_tr K p24.2
        refine ⟨?_, ?_⟩
        · intro c25
          have h := h.1 c25
          refine cm_X11_isWord (kj_X11_isWord hU (fun q hq => hL q ((by decide : ∀ q ∈ kjL_X11_isWord, q ∈ kjL_X11_readLine) q hq)) h) h (fun x26 x27 p30 h g28 g29 => ?_)
          have h := h g28 g29
          have K := kj9_tr K p30.2
          refine ⟨?_, ?_⟩
          · intro c31
            have h := h.1 c31
            refine cm_X11_isWord (kj_X11_isWord hU (fun q hq => hL q ((by decide : ∀ q ∈ kjL_X11_isWord, q ∈ kjL_X11_readLine) q hq)) h) h (fun x32 x33 p36 h g34 g35 => ?_)
            have h := h g34 g35
            have K := kj9_tr K p36.2
            refine ⟨?_, ?_⟩
            · intro c37
              have h := h.1 c37
              refine cm_X11_flaw (kj_X11_flaw hU (fun q hq => hL q ((by decide : ∀ q ∈ kjL_X11_flaw, q ∈ kjL_X11_readLine) q hq)) h) h (fun x38 p40 h g39 => ?_)
              have h := h g39
              have K := kj9_tr K p40.2
              exact ⟨h, K⟩
            · intro c41
              have h := h.2 c41
              refine cm_X11_readSeen (kj_X11_readSeen hU (fun q hq => hL q ((by decide : ∀ q ∈ kjL_X11_readSeen, q ∈ kjL_X11_readLine) q hq)) h) h (fun x42 p44 h g43 => ?_)
              have h := h g43
              have K := kj9_tr K p44.2
              exact ⟨h, K⟩
          · intro c45
            have h := h.2 c45
            refine cm_X11_readWalker (kj_X11_readWalker hU (fun q hq => hL q ((by decide : ∀ q ∈ kjL_X11_readWalker, q ∈ kjL_X11_readLine) q hq)) h) h (fun x46 p48 h g47 => ?_)
            have h := h g47
            have K := kj9_tr K p48.2
            exact ⟨h, K⟩
        · intro c49
          have h := h.2 c49
          refine cm_X11_readRoad (kj_X11_readRoad hU (fun q hq => hL q ((by decide : ∀ q ∈ kjL_X11_readRoad, q ∈ kjL_X11_readLine) q hq)) h) h (fun x50 p52 h g51 => ?_)
          have h := h g51
          have K := kj9_tr K p52.2
          exact ⟨h, K⟩
      · intro c53
        have h := h.2 c53
        refine cm_X11_readPlace (kj_X11_readPlace hU (fun q hq => hL q ((by decide : ∀ q ∈ kjL_X11_readPlace, q ∈ kjL_X11_readLine) q hq)) h) h (fun x54 p56 h g55 => ?_)
        have h := h g55
        have K := kj9_tr K p56.2
        exact ⟨h, K⟩
    · intro c57
      have h := h.2 c57
      refine cm_X11_readRain (kj_X11_readRain hU (fun q hq => hL q ((by decide : ∀ q ∈ kjL_X11_readRain, q ∈ kjL_X11_readLine) q hq)) h) h (fun x58 p60 h g59 => ?_)
      have h := h g59
      have K := kj9_tr K p60.2
      exact ⟨h, K⟩
  · intro c61
    have h := h.2 c61
    refine cm_X11_readWorld (kj_X11_readWorld hU (fun q hq => hL q ((by decide : ∀ q ∈ kjL_X11_readWorld, q ∈ kjL_X11_readLine) q hq)) h) h (fun x62 p64 h g63 => ?_)
    have h := h g63
    have K := kj9_tr K p64.2
    exact ⟨h, K⟩
theorem kj_X11_readLine {L : List (Nat × Nat)} (hU : ∀ q ∈ L, q ∈ njT) (hL : ∀ q ∈ kjL_X11_readLine, q ∈ L) {Q : HS → Prop} {v0 : Nat} {S : HS} (h : P_X11_readLine v0 Q S) : P_X11_readLine v0 (fun T => Q T ∧ KJ L S T) S := kj_X11_readLine_0 hU hL h (kj9_rf L S)
abbrev kjL_X11_readAll : List (Nat × Nat) := [(10, 7), (10, 8), (10, 9), (10, 10), (10, 11), (10, 12), (10, 13), (10, 14), (10, 15), (10, 16), (10, 17), (10, 18), (10, 19), (10, 20), (10, 21), (10, 22), (10, 23), (10, 24), (10, 25), (10, 26), (10, 27), (10, 29), (10, 30)]
set_option maxRecDepth 20000 in
set_option maxHeartbeats 1000000 in
theorem kj_X11_readAll_63 {L : List (Nat × Nat)} (hU : ∀ q ∈ L, q ∈ njT) (hL : ∀ q ∈ kjL_X11_readAll, q ∈ L) {Q : HS → Prop} {v0 : Nat} {S0 S : HS} (h : P_X11_readAll_63 Q v0 S) (K : KJ L S0 S) : P_X11_readAll_63 (fun T => Q T ∧ KJ L S0 T) v0 S := by
  delta P_X11_readAll_63 at h ⊢
  obtain ⟨c1, h⟩ := h
  refine ⟨c1, ?_⟩
  refine cm_X11_flaw (kj_X11_flaw hU (fun q hq => hL q ((by decide : ∀ q ∈ kjL_X11_flaw, q ∈ kjL_X11_readAll) q hq)) h) h (fun x2 p4 h g3 => ?_)
  have h := h g3
  have K := kj9_tr K p4.2
  exact ⟨h, K⟩
set_option maxRecDepth 20000 in
set_option maxHeartbeats 1000000 in
theorem kj_X11_readAll_33 {L : List (Nat × Nat)} (hU : ∀ q ∈ L, q ∈ njT) (hL : ∀ q ∈ kjL_X11_readAll, q ∈ L) {Q : HS → Prop} {v0 : Nat} {S0 S : HS} (h : P_X11_readAll_33 Q v0 S) (K : KJ L S0 S) : P_X11_readAll_33 (fun T => Q T ∧ KJ L S0 T) v0 S := by
  delta P_X11_readAll_33 at h ⊢
  obtain ⟨c1, h⟩ := h
  refine ⟨c1, ?_⟩
  have o2 := c1
  obtain ⟨b3, e4, h⟩ := h
  refine ⟨b3, e4, ?_⟩
  obtain ⟨c5, h⟩ := h
  refine ⟨c5, ?_⟩
  intro x7 e6
  have h := h x7 e6
  refine ⟨?_, ?_⟩
  · intro c8
    have h := h.1 c8
    exact kj_X11_readAll_63 hU hL h K
  · intro c9
    have h := h.2 c9
    obtain ⟨b10, e11, h⟩ := h
    refine ⟨b10, e11, ?_⟩
    obtain ⟨c12, h⟩ := h
    refine ⟨c12, ?_⟩
    intro x14 e13
    have h := h x14 e13
    refine ⟨?_, ?_⟩
    · intro c15
      have h := h.1 c15
      exact kj_X11_readAll_63 hU hL h K
    · intro c16
      have h := h.2 c16
      obtain ⟨b17, e18, h⟩ := h
      refine ⟨b17, e18, ?_⟩
      obtain ⟨c19, h⟩ := h
      refine ⟨c19, ?_⟩
      intro x21 e20
      have h := h x21 e20
      refine ⟨?_, ?_⟩
      · intro c22
        have h := h.1 c22
        exact ⟨h, K⟩
      · intro c23
        have h := h.2 c23
        exact kj_X11_readAll_63 hU hL h K
set_option maxRecDepth 20000 in
set_option maxHeartbeats 1000000 in
theorem kjB_X11_readAll_2 {L : List (Nat × Nat)} (hU : ∀ q ∈ L, q ∈ njT) (hL : ∀ q ∈ kjL_X11_readAll, q ∈ L) {Q : HS → Prop} {X2 X2_2 : Nat → Int32 → HS → Prop} {v0 : Nat} {v1 : Int32} {S0 S : HS} (h : B_X11_readAll_2 Q X2 v0 v1 S) (K : KJ L S0 S) (hX2 : ∀ (u0 : Nat) (u1 : Int32) (u2 : HS), X2 u0 u1 u2 → KJ L S0 u2 → X2_2 u0 u1 u2) : B_X11_readAll_2 (fun T => Q T ∧ KJ L S0 T) X2_2 v0 v1 S := by
  delta B_X11_readAll_2 at h ⊢
  refine ⟨?_, ?_⟩
  · intro c1
    have h := h.1 c1
    obtain ⟨c2, h⟩ := h
    refine ⟨c2, ?_⟩
    intro x4 e3
    have h := h x4 e3
    refine ⟨?_, ?_⟩
    · intro c5
      have h := h.1 c5
      exact kj_X11_readAll_33 hU hL h K
    · intro c6
      have h := h.2 c6
      refine cm_X11_flaw (kj_X11_flaw hU (fun q hq => hL q ((by decide : ∀ q ∈ kjL_X11_flaw, q ∈ kjL_X11_readAll) q hq)) h) h (fun x7 p9 h g8 => ?_)
      have h := h g8
      have K := kj9_tr K p9.2
      exact kj_X11_readAll_33 hU hL h K
  · intro c10
    have h := h.2 c10
    obtain ⟨c11, h⟩ := h
    refine ⟨c11, ?_⟩
    refine cm_X11_readLine (kj_X11_readLine hU (fun q hq => hL q ((by decide : ∀ q ∈ kjL_X11_readLine, q ∈ kjL_X11_readAll) q hq)) h) h (fun x12 p14 h g13 => ?_)
    have h := h g13
    have K := kj9_tr K p14.2
    refine cm_X11_eatsSign (kj_X11_eatsSign hU (fun q hq => hL q ((by decide : ∀ q ∈ kjL_X11_eatsSign, q ∈ kjL_X11_readAll) q hq)) h) h (fun x15 x16 p19 h g17 g18 => ?_)
    have h := h g17 g18
    have K := kj9_tr K p19.2
    exact hX2 _ _ _ h K
theorem kj_X11_readAll_2 {L : List (Nat × Nat)} (hU : ∀ q ∈ L, q ∈ njT) (hL : ∀ q ∈ kjL_X11_readAll, q ∈ L) {Q : HS → Prop} {v0 : Nat} {v1 : Int32} {S0 S : HS} (h : P_X11_readAll_2 Q v0 v1 S) (K : KJ L S0 S) : P_X11_readAll_2 (fun T => Q T ∧ KJ L S0 T) v0 v1 S := h (fun v0 v1 S => KJ L S0 S → P_X11_readAll_2 (fun T => Q T ∧ KJ L S0 T) v0 v1 S) (fun v0 v1 S hB K => fd_X11_readAll_2 (kjB_X11_readAll_2 hU hL hB K (fun _ _ _ hx K => hx K))) K
set_option maxRecDepth 20000 in
set_option maxHeartbeats 1000000 in
theorem kj_X11_readAll_0 {L : List (Nat × Nat)} (hU : ∀ q ∈ L, q ∈ njT) (hL : ∀ q ∈ kjL_X11_readAll, q ∈ L) {Q : HS → Prop} {v0 : Nat} {S0 S : HS} (h : P_X11_readAll_0 Q v0 S) (K : KJ L S0 S) : P_X11_readAll_0 (fun T => Q T ∧ KJ L S0 T) v0 S := by
  delta P_X11_readAll_0 at h ⊢
  exact kj_X11_readAll_2 hU hL h K
theorem kj_X11_readAll {L : List (Nat × Nat)} (hU : ∀ q ∈ L, q ∈ njT) (hL : ∀ q ∈ kjL_X11_readAll, q ∈ L) {Q : HS → Prop} {v0 : Nat} {S : HS} (h : P_X11_readAll v0 Q S) : P_X11_readAll v0 (fun T => Q T ∧ KJ L S T) S := kj_X11_readAll_0 hU hL h (kj9_rf L S)
abbrev kjL_X11_road : List (Nat × Nat) := []
set_option maxRecDepth 20000 in
set_option maxHeartbeats 1000000 in
theorem kj_X11_road_22 {L : List (Nat × Nat)} (hU : ∀ q ∈ L, q ∈ njT) (hL : ∀ q ∈ kjL_X11_road, q ∈ L) {Q : Int32 → HS → Prop} {v0 : Nat} {S0 S : HS} (h : P_X11_road_22 Q v0 S) (K : KJ L S0 S) : P_X11_road_22 (fun r T => Q r T ∧ KJ L S0 T) v0 S := by
  delta P_X11_road_22 at h ⊢
  obtain ⟨c1, h⟩ := h
  refine ⟨c1, ?_⟩
  refine cm_X11_refused (kj_X11_refused hU (fun q hq => hL q ((by decide : ∀ q ∈ kjL_X11_refused, q ∈ kjL_X11_road) q hq)) h) h (fun x2 x3 p5 h g4 => ?_)
  have h := h g4
  have K := kj9_tr K p5.2
  exact ⟨h, K⟩
set_option maxRecDepth 20000 in
set_option maxHeartbeats 1000000 in
theorem kj_X11_road_0 {L : List (Nat × Nat)} (hU : ∀ q ∈ L, q ∈ njT) (hL : ∀ q ∈ kjL_X11_road, q ∈ L) {Q : Int32 → HS → Prop} {v0 : Nat} {v1 : Int32} {v2 : Int32} {S0 S : HS} (h : P_X11_road_0 Q v0 v1 v2 S) (K : KJ L S0 S) : P_X11_road_0 (fun r T => Q r T ∧ KJ L S0 T) v0 v1 v2 S := by
  delta P_X11_road_0 at h ⊢
  obtain ⟨c1, h⟩ := h
  refine ⟨c1, ?_⟩
  have n2 := kj9_nk K c1 (by decide)
  have o3 := c1
  intro x5 e4
  have h := h x5 e4
  have K := kj9_I K e4 n2
  have o3 := ob_wI o3 e4
  refine cm_X11_isRoad (kj_X11_isRoad hU (fun q hq => hL q ((by decide : ∀ q ∈ kjL_X11_isRoad, q ∈ kjL_X11_road) q hq)) h) h (fun x6 x7 p10 h g8 g9 => ?_)
  have h := h g8 g9
  have K := kj9_tr K p10.2
  have o3 := gr_ob p10.2.1 o3
  refine ⟨?_, ?_⟩
  · intro c11
    have h := h.1 c11
    exact kj_X11_road_22 hU hL h K
  · intro c12
    have h := h.2 c12
    refine cm_X11_in (kj_X11_in hU (fun q hq => hL q ((by decide : ∀ q ∈ kjL_X11_in, q ∈ kjL_X11_road) q hq)) h) h (fun x13 x14 p17 h g15 g16 => ?_)
    have h := h g15 g16
    have K := kj9_tr K p17.2
    have o3 := gr_ob p17.2.1 o3
    refine ⟨?_, ?_⟩
    · intro c18
      have h := h.1 c18
      refine ⟨?_, ?_, ?_, ?_, ?_⟩
      · intro c19
        have h := h.1 c19
        obtain ⟨b20, e21, h⟩ := h
        refine ⟨b20, e21, ?_⟩
        obtain ⟨c22, h⟩ := h
        refine ⟨c22, ?_⟩
        have o23 := c22
        obtain ⟨b24, e25, h⟩ := h
        refine ⟨b24, e25, ?_⟩
        obtain ⟨c26, h⟩ := h
        refine ⟨c26, ?_⟩
        obtain ⟨c27, h⟩ := h
        refine ⟨c27, ?_⟩
        intro x29 e28
        have h := h x29 e28
        refine cm_X11_good (kj_X11_good hU (fun q hq => hL q ((by decide : ∀ q ∈ kjL_X11_good, q ∈ kjL_X11_road) q hq)) h) h (fun x30 x31 p33 h g32 => ?_)
        have h := h g32
        have K := kj9_tr K p33.2
        have o3 := gr_ob p33.2.1 o3
        have o23 := gr_ob p33.2.1 o23
        exact ⟨h, K⟩
      · intro c34
        have h := h.2.1 c34
        obtain ⟨b35, e36, h⟩ := h
        refine ⟨b35, e36, ?_⟩
        obtain ⟨c37, h⟩ := h
        refine ⟨c37, ?_⟩
        have o38 := c37
        obtain ⟨b39, e40, h⟩ := h
        refine ⟨b39, e40, ?_⟩
        obtain ⟨c41, h⟩ := h
        refine ⟨c41, ?_⟩
        obtain ⟨c42, h⟩ := h
        refine ⟨c42, ?_⟩
        intro x44 e43
        have h := h x44 e43
        refine cm_X11_good (kj_X11_good hU (fun q hq => hL q ((by decide : ∀ q ∈ kjL_X11_good, q ∈ kjL_X11_road) q hq)) h) h (fun x45 x46 p48 h g47 => ?_)
        have h := h g47
        have K := kj9_tr K p48.2
        have o3 := gr_ob p48.2.1 o3
        have o38 := gr_ob p48.2.1 o38
        exact ⟨h, K⟩
      · intro c49
        have h := h.2.2.1 c49
        obtain ⟨b50, e51, h⟩ := h
        refine ⟨b50, e51, ?_⟩
        obtain ⟨c52, h⟩ := h
        refine ⟨c52, ?_⟩
        have o53 := c52
        obtain ⟨b54, e55, h⟩ := h
        refine ⟨b54, e55, ?_⟩
        obtain ⟨c56, h⟩ := h
        refine ⟨c56, ?_⟩
        obtain ⟨c57, h⟩ := h
        refine ⟨c57, ?_⟩
        intro x59 e58
        have h := h x59 e58
        refine cm_X11_good (kj_X11_good hU (fun q hq => hL q ((by decide : ∀ q ∈ kjL_X11_good, q ∈ kjL_X11_road) q hq)) h) h (fun x60 x61 p63 h g62 => ?_)
        have h := h g62
        have K := kj9_tr K p63.2
        have o3 := gr_ob p63.2.1 o3
        have o53 := gr_ob p63.2.1 o53
        exact ⟨h, K⟩
      · intro c64
        have h := h.2.2.2.1 c64
        obtain ⟨b65, e66, h⟩ := h
        refine ⟨b65, e66, ?_⟩
        obtain ⟨c67, h⟩ := h
        refine ⟨c67, ?_⟩
        have o68 := c67
        obtain ⟨b69, e70, h⟩ := h
        refine ⟨b69, e70, ?_⟩
        obtain ⟨c71, h⟩ := h
        refine ⟨c71, ?_⟩
        obtain ⟨c72, h⟩ := h
        refine ⟨c72, ?_⟩
        intro x74 e73
        have h := h x74 e73
        refine cm_X11_good (kj_X11_good hU (fun q hq => hL q ((by decide : ∀ q ∈ kjL_X11_good, q ∈ kjL_X11_road) q hq)) h) h (fun x75 x76 p78 h g77 => ?_)
        have h := h g77
        have K := kj9_tr K p78.2
        have o3 := gr_ob p78.2.1 o3
        have o68 := gr_ob p78.2.1 o68
        exact ⟨h, K⟩
      · intro c79
        have h := h.2.2.2.2 c79
        obtain ⟨b80, e81, h⟩ := h
        refine ⟨b80, e81, ?_⟩
        obtain ⟨c82, h⟩ := h
        refine ⟨c82, ?_⟩
        have o83 := c82
        obtain ⟨b84, e85, h⟩ := h
        refine ⟨b84, e85, ?_⟩
        obtain ⟨c86, h⟩ := h
        refine ⟨c86, ?_⟩
        obtain ⟨c87, h⟩ := h
        refine ⟨c87, ?_⟩
        intro x89 e88
        have h := h x89 e88
        refine cm_X11_good (kj_X11_good hU (fun q hq => hL q ((by decide : ∀ q ∈ kjL_X11_good, q ∈ kjL_X11_road) q hq)) h) h (fun x90 x91 p93 h g92 => ?_)
        have h := h g92
        have K := kj9_tr K p93.2
        have o3 := gr_ob p93.2.1 o3
        have o83 := gr_ob p93.2.1 o83
        exact ⟨h, K⟩
    · intro c94
      have h := h.2 c94
      exact kj_X11_road_22 hU hL h K
theorem kj_X11_road {L : List (Nat × Nat)} (hU : ∀ q ∈ L, q ∈ njT) (hL : ∀ q ∈ kjL_X11_road, q ∈ L) {Q : Int32 → HS → Prop} {v0 : Nat} {v1 : Int32} {v2 : Int32} {S : HS} (h : P_X11_road v0 v1 v2 Q S) : P_X11_road v0 v1 v2 (fun r T => Q r T ∧ KJ L S T) S := kj_X11_road_0 hU hL h (kj9_rf L S)
abbrev kjL_X11_round : List (Nat × Nat) := []
set_option maxRecDepth 20000 in
set_option maxHeartbeats 1000000 in
theorem kj_X11_round_29 {L : List (Nat × Nat)} (hU : ∀ q ∈ L, q ∈ njT) (hL : ∀ q ∈ kjL_X11_round, q ∈ L) {Q : Int64 → HS → Prop} {v0 : Nat} {S0 S : HS} (h : P_X11_round_29 Q v0 S) (K : KJ L S0 S) : P_X11_round_29 (fun r T => Q r T ∧ KJ L S0 T) v0 S := by
  delta P_X11_round_29 at h ⊢
  obtain ⟨c1, h⟩ := h
  refine ⟨c1, ?_⟩
  refine cm_X11_refused (kj_X11_refused hU (fun q hq => hL q ((by decide : ∀ q ∈ kjL_X11_refused, q ∈ kjL_X11_round) q hq)) h) h (fun x2 x3 p5 h g4 => ?_)
  have h := h g4
  have K := kj9_tr K p5.2
  exact ⟨h, K⟩
set_option maxRecDepth 20000 in
set_option maxHeartbeats 1000000 in
theorem kj_X11_round_0 {L : List (Nat × Nat)} (hU : ∀ q ∈ L, q ∈ njT) (hL : ∀ q ∈ kjL_X11_round, q ∈ L) {Q : Int64 → HS → Prop} {v0 : Nat} {v1 : Int32} {v2 : Int32} {v3 : Int32} {v4 : Int32} {S0 S : HS} (h : P_X11_round_0 Q v0 v1 v2 v3 v4 S) (K : KJ L S0 S) : P_X11_round_0 (fun r T => Q r T ∧ KJ L S0 T) v0 v1 v2 v3 v4 S := by
  delta P_X11_round_0 at h ⊢
  obtain ⟨c1, h⟩ := h
  refine ⟨c1, ?_⟩
  have n2 := kj9_nk K c1 (by decide)
  intro x4 e3
  have h := h x4 e3
  have K := kj9_I K e3 n2
  refine cm_X11_isWalker (kj_X11_isWalker hU (fun q hq => hL q ((by decide : ∀ q ∈ kjL_X11_isWalker, q ∈ kjL_X11_round) q hq)) h) h (fun x5 x6 p9 h g7 g8 => ?_)
  have h := h g7 g8
  have K := kj9_tr K p9.2
  refine ⟨?_, ?_⟩
  · intro c10
    have h := h.1 c10
    exact kj_X11_round_29 hU hL h K
  · intro c11
    have h := h.2 c11
    refine cm_X11_isRoad (kj_X11_isRoad hU (fun q hq => hL q ((by decide : ∀ q ∈ kjL_X11_isRoad, q ∈ kjL_X11_round) q hq)) h) h (fun x12 x13 p16 h g14 g15 => ?_)
    have h := h g14 g15
    have K := kj9_tr K p16.2
    refine ⟨?_, ?_⟩
    · intro c17
      have h := h.1 c17
      exact kj_X11_round_29 hU hL h K
    · intro c18
      have h := h.2 c18
      refine cm_X11_isHour (kj_X11_isHour hU (fun q hq => hL q ((by decide : ∀ q ∈ kjL_X11_isHour, q ∈ kjL_X11_round) q hq)) h) h (fun x19 x20 p23 h g21 g22 => ?_)
      have h := h g21 g22
      have K := kj9_tr K p23.2
      refine ⟨?_, ?_⟩
      · intro c24
        have h := h.1 c24
        refine cm_X11_wetAtBest (kj_X11_wetAtBest hU (fun q hq => hL q ((by decide : ∀ q ∈ kjL_X11_wetAtBest, q ∈ kjL_X11_round) q hq)) h) h (fun x25 x26 p28 h g27 => ?_)
        have h := h g27
        have K := kj9_tr K p28.2
        refine cm_X11_wetAtBest (kj_X11_wetAtBest hU (fun q hq => hL q ((by decide : ∀ q ∈ kjL_X11_wetAtBest, q ∈ kjL_X11_round) q hq)) h) h (fun x29 x30 p32 h g31 => ?_)
        have h := h g31
        have K := kj9_tr K p32.2
        refine cm_X11_told (kj_X11_told hU (fun q hq => hL q ((by decide : ∀ q ∈ kjL_X11_told, q ∈ kjL_X11_round) q hq)) h) h (fun x33 x34 p36 h g35 => ?_)
        have h := h g35
        have K := kj9_tr K p36.2
        exact ⟨h, K⟩
      · intro c37
        have h := h.2 c37
        exact kj_X11_round_29 hU hL h K
theorem kj_X11_round {L : List (Nat × Nat)} (hU : ∀ q ∈ L, q ∈ njT) (hL : ∀ q ∈ kjL_X11_round, q ∈ L) {Q : Int64 → HS → Prop} {v0 : Nat} {v1 : Int32} {v2 : Int32} {v3 : Int32} {v4 : Int32} {S : HS} (h : P_X11_round v0 v1 v2 v3 v4 Q S) : P_X11_round v0 v1 v2 v3 v4 (fun r T => Q r T ∧ KJ L S T) S := kj_X11_round_0 hU hL h (kj9_rf L S)
abbrev kjL_X11_saves : List (Nat × Nat) := []
set_option maxRecDepth 20000 in
set_option maxHeartbeats 1000000 in
theorem kj_X11_saves_39 {L : List (Nat × Nat)} (hU : ∀ q ∈ L, q ∈ njT) (hL : ∀ q ∈ kjL_X11_saves, q ∈ L) {Q : Int64 → HS → Prop} {v0 : Nat} {S0 S : HS} (h : P_X11_saves_39 Q v0 S) (K : KJ L S0 S) : P_X11_saves_39 (fun r T => Q r T ∧ KJ L S0 T) v0 S := by
  delta P_X11_saves_39 at h ⊢
  obtain ⟨c1, h⟩ := h
  refine ⟨c1, ?_⟩
  refine cm_X11_refused (kj_X11_refused hU (fun q hq => hL q ((by decide : ∀ q ∈ kjL_X11_refused, q ∈ kjL_X11_saves) q hq)) h) h (fun x2 x3 p5 h g4 => ?_)
  have h := h g4
  have K := kj9_tr K p5.2
  exact ⟨h, K⟩
set_option maxRecDepth 20000 in
set_option maxHeartbeats 1000000 in
theorem kj_X11_saves_0 {L : List (Nat × Nat)} (hU : ∀ q ∈ L, q ∈ njT) (hL : ∀ q ∈ kjL_X11_saves, q ∈ L) {Q : Int64 → HS → Prop} {v0 : Nat} {v1 : Int32} {v2 : Int32} {v3 : Int32} {v4 : Int32} {v5 : Int32} {S0 S : HS} (h : P_X11_saves_0 Q v0 v1 v2 v3 v4 v5 S) (K : KJ L S0 S) : P_X11_saves_0 (fun r T => Q r T ∧ KJ L S0 T) v0 v1 v2 v3 v4 v5 S := by
  delta P_X11_saves_0 at h ⊢
  obtain ⟨c1, h⟩ := h
  refine ⟨c1, ?_⟩
  have n2 := kj9_nk K c1 (by decide)
  have o3 := c1
  intro x5 e4
  have h := h x5 e4
  have K := kj9_I K e4 n2
  have o3 := ob_wI o3 e4
  refine cm_X11_isWalker (kj_X11_isWalker hU (fun q hq => hL q ((by decide : ∀ q ∈ kjL_X11_isWalker, q ∈ kjL_X11_saves) q hq)) h) h (fun x6 x7 p10 h g8 g9 => ?_)
  have h := h g8 g9
  have K := kj9_tr K p10.2
  have o3 := gr_ob p10.2.1 o3
  refine ⟨?_, ?_⟩
  · intro c11
    have h := h.1 c11
    exact kj_X11_saves_39 hU hL h K
  · intro c12
    have h := h.2 c12
    refine cm_X11_isRoad (kj_X11_isRoad hU (fun q hq => hL q ((by decide : ∀ q ∈ kjL_X11_isRoad, q ∈ kjL_X11_saves) q hq)) h) h (fun x13 x14 p17 h g15 g16 => ?_)
    have h := h g15 g16
    have K := kj9_tr K p17.2
    have o3 := gr_ob p17.2.1 o3
    refine ⟨?_, ?_⟩
    · intro c18
      have h := h.1 c18
      exact kj_X11_saves_39 hU hL h K
    · intro c19
      have h := h.2 c19
      refine cm_X11_in (kj_X11_in hU (fun q hq => hL q ((by decide : ∀ q ∈ kjL_X11_in, q ∈ kjL_X11_saves) q hq)) h) h (fun x20 x21 p24 h g22 g23 => ?_)
      have h := h g22 g23
      have K := kj9_tr K p24.2
      have o3 := gr_ob p24.2.1 o3
      refine ⟨?_, ?_⟩
      · intro c25
        have h := h.1 c25
        exact kj_X11_saves_39 hU hL h K
      · intro c26
        have h := h.2 c26
        refine cm_X11_isHour (kj_X11_isHour hU (fun q hq => hL q ((by decide : ∀ q ∈ kjL_X11_isHour, q ∈ kjL_X11_saves) q hq)) h) h (fun x27 x28 p31 h g29 g30 => ?_)
        have h := h g29 g30
        have K := kj9_tr K p31.2
        have o3 := gr_ob p31.2.1 o3
        refine ⟨?_, ?_⟩
        · intro c32
          have h := h.1 c32
          obtain ⟨b33, e34, h⟩ := h
          refine ⟨b33, e34, ?_⟩
          obtain ⟨c35, h⟩ := h
          refine ⟨c35, ?_⟩
          have o36 := c35
          obtain ⟨b37, e38, h⟩ := h
          refine ⟨b37, e38, ?_⟩
          obtain ⟨c39, h⟩ := h
          refine ⟨c39, ?_⟩
          obtain ⟨c40, h⟩ := h
          refine ⟨c40, ?_⟩
          intro x42 e41
          have h := h x42 e41
          refine cm_X11_wetOf (kj_X11_wetOf hU (fun q hq => hL q ((by decide : ∀ q ∈ kjL_X11_wetOf, q ∈ kjL_X11_saves) q hq)) h) h (fun x43 x44 p46 h g45 => ?_)
          have h := h g45
          have K := kj9_tr K p46.2
          have o3 := gr_ob p46.2.1 o3
          have o36 := gr_ob p46.2.1 o36
          refine cm_X11_bestOf (kj_X11_bestOf hU (fun q hq => hL q ((by decide : ∀ q ∈ kjL_X11_bestOf, q ∈ kjL_X11_saves) q hq)) h) h (fun x47 x48 p50 h g49 => ?_)
          have h := h g49
          have K := kj9_tr K p50.2
          have o3 := gr_ob p50.2.1 o3
          have o36 := gr_ob p50.2.1 o36
          refine cm_X11_wetOf (kj_X11_wetOf hU (fun q hq => hL q ((by decide : ∀ q ∈ kjL_X11_wetOf, q ∈ kjL_X11_saves) q hq)) h) h (fun x51 x52 p54 h g53 => ?_)
          have h := h g53
          have K := kj9_tr K p54.2
          have o3 := gr_ob p54.2.1 o3
          have o36 := gr_ob p54.2.1 o36
          refine cm_X11_told (kj_X11_told hU (fun q hq => hL q ((by decide : ∀ q ∈ kjL_X11_told, q ∈ kjL_X11_saves) q hq)) h) h (fun x55 x56 p58 h g57 => ?_)
          have h := h g57
          have K := kj9_tr K p58.2
          have o3 := gr_ob p58.2.1 o3
          have o36 := gr_ob p58.2.1 o36
          exact ⟨h, K⟩
        · intro c59
          have h := h.2 c59
          exact kj_X11_saves_39 hU hL h K
theorem kj_X11_saves {L : List (Nat × Nat)} (hU : ∀ q ∈ L, q ∈ njT) (hL : ∀ q ∈ kjL_X11_saves, q ∈ L) {Q : Int64 → HS → Prop} {v0 : Nat} {v1 : Int32} {v2 : Int32} {v3 : Int32} {v4 : Int32} {v5 : Int32} {S : HS} (h : P_X11_saves v0 v1 v2 v3 v4 v5 Q S) : P_X11_saves v0 v1 v2 v3 v4 v5 (fun r T => Q r T ∧ KJ L S T) S := kj_X11_saves_0 hU hL h (kj9_rf L S)
abbrev kjL_X11_size : List (Nat × Nat) := []
set_option maxRecDepth 20000 in
set_option maxHeartbeats 1000000 in
theorem kj_X11_size_0 {L : List (Nat × Nat)} (hU : ∀ q ∈ L, q ∈ njT) (hL : ∀ q ∈ kjL_X11_size, q ∈ L) {Q : Int32 → HS → Prop} {v0 : Nat} {v1 : Int32} {S0 S : HS} (h : P_X11_size_0 Q v0 v1 S) (K : KJ L S0 S) : P_X11_size_0 (fun r T => Q r T ∧ KJ L S0 T) v0 v1 S := by
  delta P_X11_size_0 at h ⊢
  obtain ⟨c1, h⟩ := h
  refine ⟨c1, ?_⟩
  have n2 := kj9_nk K c1 (by decide)
  have o3 := c1
  intro x5 e4
  have h := h x5 e4
  have K := kj9_I K e4 n2
  have o3 := ob_wI o3 e4
  refine ⟨?_, ?_⟩
  · intro c6
    have h := h.1 c6
    refine cm_X11_in (kj_X11_in hU (fun q hq => hL q ((by decide : ∀ q ∈ kjL_X11_in, q ∈ kjL_X11_size) q hq)) h) h (fun x7 x8 p11 h g9 g10 => ?_)
    have h := h g9 g10
    have K := kj9_tr K p11.2
    have o3 := gr_ob p11.2.1 o3
    refine ⟨?_, ?_⟩
    · intro c12
      have h := h.1 c12
      refine ⟨?_, ?_⟩
      · intro c13
        have h := h.1 c13
        exact ⟨h, K⟩
      · intro x14 c15
        have h := h.2 x14 c15
        refine ⟨?_, ?_, ?_, ?_, ?_, ?_, ?_, ?_, ?_, ?_, ?_⟩
        · intro c16
          have h := h.1 c16
          intro x18 e17
          have h := h x18 e17
          exact ⟨h, K⟩
        · intro c19
          have h := h.2.1 c19
          obtain ⟨b20, e21, h⟩ := h
          refine ⟨b20, e21, ?_⟩
          obtain ⟨c22, h⟩ := h
          refine ⟨c22, ?_⟩
          intro x24 e23
          have h := h x24 e23
          exact ⟨h, K⟩
        · intro c25
          have h := h.2.2.1 c25
          obtain ⟨b26, e27, h⟩ := h
          refine ⟨b26, e27, ?_⟩
          obtain ⟨c28, h⟩ := h
          refine ⟨c28, ?_⟩
          intro x30 e29
          have h := h x30 e29
          exact ⟨h, K⟩
        · intro c31
          have h := h.2.2.2.1 c31
          obtain ⟨b32, e33, h⟩ := h
          refine ⟨b32, e33, ?_⟩
          obtain ⟨c34, h⟩ := h
          refine ⟨c34, ?_⟩
          intro x36 e35
          have h := h x36 e35
          exact ⟨h, K⟩
        · intro c37
          have h := h.2.2.2.2.1 c37
          obtain ⟨b38, e39, h⟩ := h
          refine ⟨b38, e39, ?_⟩
          obtain ⟨c40, h⟩ := h
          refine ⟨c40, ?_⟩
          intro x42 e41
          have h := h x42 e41
          exact ⟨h, K⟩
        · intro c43
          have h := h.2.2.2.2.2.1 c43
          obtain ⟨b44, e45, h⟩ := h
          refine ⟨b44, e45, ?_⟩
          obtain ⟨c46, h⟩ := h
          refine ⟨c46, ?_⟩
          intro x48 e47
          have h := h x48 e47
          exact ⟨h, K⟩
        · intro c49
          have h := h.2.2.2.2.2.2.1 c49
          obtain ⟨b50, e51, h⟩ := h
          refine ⟨b50, e51, ?_⟩
          obtain ⟨c52, h⟩ := h
          refine ⟨c52, ?_⟩
          intro x54 e53
          have h := h x54 e53
          exact ⟨h, K⟩
        · intro c55
          have h := h.2.2.2.2.2.2.2.1 c55
          intro x57 e56
          have h := h x57 e56
          exact ⟨h, K⟩
        · intro c58
          have h := h.2.2.2.2.2.2.2.2.1 c58
          refine cm_X11_isDay (kj_X11_isDay hU (fun q hq => hL q ((by decide : ∀ q ∈ kjL_X11_isDay, q ∈ kjL_X11_size) q hq)) h) h (fun x59 x60 p63 h g61 g62 => ?_)
          have h := h g61 g62
          have K := kj9_tr K p63.2
          have o3 := gr_ob p63.2.1 o3
          refine ⟨?_, ?_⟩
          · intro c64
            have h := h.1 c64
            exact ⟨h, K⟩
          · intro c65
            have h := h.2 c65
            obtain ⟨b66, e67, h⟩ := h
            refine ⟨b66, e67, ?_⟩
            obtain ⟨c68, h⟩ := h
            refine ⟨c68, ?_⟩
            obtain ⟨c69, h⟩ := h
            refine ⟨c69, ?_⟩
            intro x71 e70
            have h := h x71 e70
            exact ⟨h, K⟩
        · intro c72
          have h := h.2.2.2.2.2.2.2.2.2.1 c72
          refine cm_X11_isDay (kj_X11_isDay hU (fun q hq => hL q ((by decide : ∀ q ∈ kjL_X11_isDay, q ∈ kjL_X11_size) q hq)) h) h (fun x73 x74 p77 h g75 g76 => ?_)
          have h := h g75 g76
          have K := kj9_tr K p77.2
          have o3 := gr_ob p77.2.1 o3
          refine ⟨?_, ?_⟩
          · intro c78
            have h := h.1 c78
            exact ⟨h, K⟩
          · intro c79
            have h := h.2 c79
            obtain ⟨b80, e81, h⟩ := h
            refine ⟨b80, e81, ?_⟩
            obtain ⟨c82, h⟩ := h
            refine ⟨c82, ?_⟩
            obtain ⟨c83, h⟩ := h
            refine ⟨c83, ?_⟩
            intro x85 e84
            have h := h x85 e84
            exact ⟨h, K⟩
        · intro c86
          have h := h.2.2.2.2.2.2.2.2.2.2 c86
          intro x88 e87
          have h := h x88 e87
          exact ⟨h, K⟩
    · intro c89
      have h := h.2 c89
      exact ⟨h, K⟩
  · intro c90
    have h := h.2 c90
    intro x92 e91
    have h := h x92 e91
    exact ⟨h, K⟩
theorem kj_X11_size {L : List (Nat × Nat)} (hU : ∀ q ∈ L, q ∈ njT) (hL : ∀ q ∈ kjL_X11_size, q ∈ L) {Q : Int32 → HS → Prop} {v0 : Nat} {v1 : Int32} {S : HS} (h : P_X11_size v0 v1 Q S) : P_X11_size v0 v1 (fun r T => Q r T ∧ KJ L S T) S := kj_X11_size_0 hU hL h (kj9_rf L S)
abbrev kjL_X11_soaked : List (Nat × Nat) := []
set_option maxRecDepth 20000 in
set_option maxHeartbeats 1000000 in
theorem kj_X11_soaked_57 {L : List (Nat × Nat)} (hU : ∀ q ∈ L, q ∈ njT) (hL : ∀ q ∈ kjL_X11_soaked, q ∈ L) {Q : Int32 → HS → Prop} {s0 : Nat} {s1 : Int32} {S0 S : HS} (h : P_X11_soaked_57 Q s0 s1 S) (K : KJ L S0 S) : P_X11_soaked_57 (fun r T => Q r T ∧ KJ L S0 T) s0 s1 S := by
  delta P_X11_soaked_57 at h ⊢
  obtain ⟨c1, h⟩ := h
  refine ⟨c1, ?_⟩
  refine cm_X11_good (kj_X11_good hU (fun q hq => hL q ((by decide : ∀ q ∈ kjL_X11_good, q ∈ kjL_X11_soaked) q hq)) h) h (fun x2 x3 p5 h g4 => ?_)
  have h := h g4
  have K := kj9_tr K p5.2
  exact ⟨h, K⟩
set_option maxRecDepth 20000 in
set_option maxHeartbeats 1000000 in
theorem kj_X11_soaked_0 {L : List (Nat × Nat)} (hU : ∀ q ∈ L, q ∈ njT) (hL : ∀ q ∈ kjL_X11_soaked, q ∈ L) {Q : Int32 → HS → Prop} {v0 : Nat} {S0 S : HS} (h : P_X11_soaked_0 Q v0 S) (K : KJ L S0 S) : P_X11_soaked_0 (fun r T => Q r T ∧ KJ L S0 T) v0 S := by
  delta P_X11_soaked_0 at h ⊢
  obtain ⟨c1, h⟩ := h
  refine ⟨c1, ?_⟩
  have n2 := kj9_nk K c1 (by decide)
  have o3 := c1
  intro x5 e4
  have h := h x5 e4
  have K := kj9_I K e4 n2
  have o3 := ob_wI o3 e4
  refine cm_X11_isDay (kj_X11_isDay hU (fun q hq => hL q ((by decide : ∀ q ∈ kjL_X11_isDay, q ∈ kjL_X11_soaked) q hq)) h) h (fun x6 x7 p10 h g8 g9 => ?_)
  have h := h g8 g9
  have K := kj9_tr K p10.2
  have o3 := gr_ob p10.2.1 o3
  refine ⟨?_, ?_⟩
  · intro c11
    have h := h.1 c11
    obtain ⟨b12, e13, h⟩ := h
    refine ⟨b12, e13, ?_⟩
    obtain ⟨c14, h⟩ := h
    refine ⟨c14, ?_⟩
    have o15 := c14
    obtain ⟨b16, e17, h⟩ := h
    refine ⟨b16, e17, ?_⟩
    intro x19 e18
    have h := h x19 e18
    obtain ⟨c20, h⟩ := h
    refine ⟨c20, ?_⟩
    obtain ⟨c21, h⟩ := h
    refine ⟨c21, ?_⟩
    intro x23 e22
    have h := h x23 e22
    refine ⟨?_, ?_⟩
    · intro c24
      have h := h.1 c24
      refine cm_X11_gotInAll (kj_X11_gotInAll hU (fun q hq => hL q ((by decide : ∀ q ∈ kjL_X11_gotInAll, q ∈ kjL_X11_soaked) q hq)) h) h (fun x25 x26 p28 h g27 => ?_)
      have h := h g27
      have K := kj9_tr K p28.2
      have o3 := gr_ob p28.2.1 o3
      have o15 := gr_ob p28.2.1 o15
      refine cm_X11_holds (kj_X11_holds hU (fun q hq => hL q ((by decide : ∀ q ∈ kjL_X11_holds, q ∈ kjL_X11_soaked) q hq)) h) h (fun x29 x30 p32 h g31 => ?_)
      have h := h g31
      have K := kj9_tr K p32.2
      have o3 := gr_ob p32.2.1 o3
      have o15 := gr_ob p32.2.1 o15
      refine ⟨?_, ?_⟩
      · intro c33
        have h := h.1 c33
        exact kj_X11_soaked_57 hU hL h K
      · intro c34
        have h := h.2 c34
        exact kj_X11_soaked_57 hU hL h K
    · intro c35
      have h := h.2 c35
      exact kj_X11_soaked_57 hU hL h K
  · intro c36
    have h := h.2 c36
    refine cm_X11_refused (kj_X11_refused hU (fun q hq => hL q ((by decide : ∀ q ∈ kjL_X11_refused, q ∈ kjL_X11_soaked) q hq)) h) h (fun x37 x38 p40 h g39 => ?_)
    have h := h g39
    have K := kj9_tr K p40.2
    have o3 := gr_ob p40.2.1 o3
    exact ⟨h, K⟩
theorem kj_X11_soaked {L : List (Nat × Nat)} (hU : ∀ q ∈ L, q ∈ njT) (hL : ∀ q ∈ kjL_X11_soaked, q ∈ L) {Q : Int32 → HS → Prop} {v0 : Nat} {S : HS} (h : P_X11_soaked v0 Q S) : P_X11_soaked v0 (fun r T => Q r T ∧ KJ L S T) S := kj_X11_soaked_0 hU hL h (kj9_rf L S)
abbrev kjL_X11_stay : List (Nat × Nat) := []
set_option maxRecDepth 20000 in
set_option maxHeartbeats 1000000 in
theorem kj_X11_stay_133 {L : List (Nat × Nat)} (hU : ∀ q ∈ L, q ∈ njT) (hL : ∀ q ∈ kjL_X11_stay, q ∈ L) {Q : Int32 → HS → Prop} {X84 X84_2 : Nat → Int32 → Int32 → Int32 → HS → Prop} {v0 : Nat} {v1 : Int32} {v2 : Int32} {v3 : Int32} {S0 S : HS} (h : P_X11_stay_133 Q X84 v0 v1 v2 v3 S) (K : KJ L S0 S) (hX84 : ∀ (u0 : Nat) (u1 : Int32) (u2 : Int32) (u3 : Int32) (u4 : HS), X84 u0 u1 u2 u3 u4 → KJ L S0 u4 → X84_2 u0 u1 u2 u3 u4) : P_X11_stay_133 (fun r T => Q r T ∧ KJ L S0 T) X84_2 v0 v1 v2 v3 S := by
  delta P_X11_stay_133 at h ⊢
  obtain ⟨c1, h⟩ := h
  refine ⟨c1, ?_⟩
  have o2 := c1
  obtain ⟨b3, e4, h⟩ := h
  refine ⟨b3, e4, ?_⟩
  obtain ⟨c5, h⟩ := h
  refine ⟨c5, ?_⟩
  obtain ⟨c6, h⟩ := h
  refine ⟨c6, ?_⟩
  intro x8 e7
  have h := h x8 e7
  intro x10 e9
  have h := h x10 e9
  obtain ⟨c11, h⟩ := h
  refine ⟨c11, ?_⟩
  intro x13 e12
  have h := h x13 e12
  have K := kj9_J K e12
  have o2 := ob_wJ o2 e12
  intro x15 e14
  have h := h x15 e14
  exact hX84 _ _ _ _ _ h K
set_option maxRecDepth 20000 in
set_option maxHeartbeats 1000000 in
theorem kjB_X11_stay_84 {L : List (Nat × Nat)} (hU : ∀ q ∈ L, q ∈ njT) (hL : ∀ q ∈ kjL_X11_stay, q ∈ L) {Q : Int32 → HS → Prop} {X84 X84_2 : Nat → Int32 → Int32 → Int32 → HS → Prop} {v0 : Nat} {v1 : Int32} {v2 : Int32} {v3 : Int32} {S0 S : HS} (h : B_X11_stay_84 Q X84 v0 v1 v2 v3 S) (K : KJ L S0 S) (hX84 : ∀ (u0 : Nat) (u1 : Int32) (u2 : Int32) (u3 : Int32) (u4 : HS), X84 u0 u1 u2 u3 u4 → KJ L S0 u4 → X84_2 u0 u1 u2 u3 u4) : B_X11_stay_84 (fun r T => Q r T ∧ KJ L S0 T) X84_2 v0 v1 v2 v3 S := by
  delta B_X11_stay_84 at h ⊢
  refine ⟨?_, ?_⟩
  · intro c1
    have h := h.1 c1
    obtain ⟨c2, h⟩ := h
    refine ⟨c2, ?_⟩
    have o3 := c2
    refine cm_X11_granted (kj_X11_granted hU (fun q hq => hL q ((by decide : ∀ q ∈ kjL_X11_granted, q ∈ kjL_X11_stay) q hq)) h) h (fun x4 x5 p8 h g6 g7 => ?_)
    have h := h g6 g7
    have K := kj9_tr K p8.2
    have o3 := gr_ob p8.2.1 o3
    obtain ⟨c9, h⟩ := h
    refine ⟨c9, ?_⟩
    exact ⟨h, K⟩
  · intro c10
    have h := h.2 c10
    obtain ⟨c11, h⟩ := h
    refine ⟨c11, ?_⟩
    have o12 := c11
    obtain ⟨b13, e14, h⟩ := h
    refine ⟨b13, e14, ?_⟩
    obtain ⟨c15, h⟩ := h
    refine ⟨c15, ?_⟩
    have o16 := c15
    obtain ⟨b17, e18, h⟩ := h
    refine ⟨b17, e18, ?_⟩
    obtain ⟨c19, h⟩ := h
    refine ⟨c19, ?_⟩
    obtain ⟨c20, h⟩ := h
    refine ⟨c20, ?_⟩
    intro x22 e21
    have h := h x22 e21
    refine ⟨?_, ?_⟩
    · intro c23
      have h := h.1 c23
      exact kj_X11_stay_133 hU hL h K hX84
    · intro c24
      have h := h.2 c24
      obtain ⟨b25, e26, h⟩ := h
      refine ⟨b25, e26, ?_⟩
      obtain ⟨c27, h⟩ := h
      refine ⟨c27, ?_⟩
      obtain ⟨c28, h⟩ := h
      refine ⟨c28, ?_⟩
      intro x30 e29
      have h := h x30 e29
      refine cm_X11_rainsIn (kj_X11_rainsIn hU (fun q hq => hL q ((by decide : ∀ q ∈ kjL_X11_rainsIn, q ∈ kjL_X11_stay) q hq)) h) h (fun x31 x32 p35 h g33 g34 => ?_)
      have h := h g33 g34
      have K := kj9_tr K p35.2
      have o12 := gr_ob p35.2.1 o12
      have o16 := gr_ob p35.2.1 o16
      refine ⟨?_, ?_⟩
      · intro c36
        have h := h.1 c36
        exact kj_X11_stay_133 hU hL h K hX84
      · intro c37
        have h := h.2 c37
        obtain ⟨b38, e39, h⟩ := h
        refine ⟨b38, e39, ?_⟩
        obtain ⟨c40, h⟩ := h
        refine ⟨c40, ?_⟩
        obtain ⟨c41, h⟩ := h
        refine ⟨c41, ?_⟩
        intro x43 e42
        have h := h x43 e42
        intro x45 e44
        have h := h x45 e44
        refine cm_X11_drips (kj_X11_drips hU (fun q hq => hL q ((by decide : ∀ q ∈ kjL_X11_drips, q ∈ kjL_X11_stay) q hq)) h) h (fun x46 x47 p49 h g48 => ?_)
        have h := h g48
        have K := kj9_tr K p49.2
        have o12 := gr_ob p49.2.1 o12
        have o16 := gr_ob p49.2.1 o16
        intro x51 e50
        have h := h x51 e50
        obtain ⟨c52, h⟩ := h
        refine ⟨c52, ?_⟩
        intro x54 e53
        have h := h x54 e53
        have K := kj9_J K e53
        have o12 := ob_wJ o12 e53
        have o16 := ob_wJ o16 e53
        exact kj_X11_stay_133 hU hL h K hX84
theorem kj_X11_stay_84 {L : List (Nat × Nat)} (hU : ∀ q ∈ L, q ∈ njT) (hL : ∀ q ∈ kjL_X11_stay, q ∈ L) {Q : Int32 → HS → Prop} {v0 : Nat} {v1 : Int32} {v2 : Int32} {v3 : Int32} {S0 S : HS} (h : P_X11_stay_84 Q v0 v1 v2 v3 S) (K : KJ L S0 S) : P_X11_stay_84 (fun r T => Q r T ∧ KJ L S0 T) v0 v1 v2 v3 S := h (fun v0 v1 v2 v3 S => KJ L S0 S → P_X11_stay_84 (fun r T => Q r T ∧ KJ L S0 T) v0 v1 v2 v3 S) (fun v0 v1 v2 v3 S hB K => fd_X11_stay_84 (kjB_X11_stay_84 hU hL hB K (fun _ _ _ _ _ hx K => hx K))) K
set_option maxRecDepth 20000 in
set_option maxHeartbeats 1000000 in
theorem kj_X11_stay_0 {L : List (Nat × Nat)} (hU : ∀ q ∈ L, q ∈ njT) (hL : ∀ q ∈ kjL_X11_stay, q ∈ L) {Q : Int32 → HS → Prop} {v0 : Nat} {v1 : Int32} {S0 S : HS} (h : P_X11_stay_0 Q v0 v1 S) (K : KJ L S0 S) : P_X11_stay_0 (fun r T => Q r T ∧ KJ L S0 T) v0 v1 S := by
  delta P_X11_stay_0 at h ⊢
  obtain ⟨c1, h⟩ := h
  refine ⟨c1, ?_⟩
  have n2 := kj9_nk K c1 (by decide)
  have o3 := c1
  intro x5 e4
  have h := h x5 e4
  have K := kj9_I K e4 n2
  have o3 := ob_wI o3 e4
  refine cm_X11_isDay (kj_X11_isDay hU (fun q hq => hL q ((by decide : ∀ q ∈ kjL_X11_isDay, q ∈ kjL_X11_stay) q hq)) h) h (fun x6 x7 p10 h g8 g9 => ?_)
  have h := h g8 g9
  have K := kj9_tr K p10.2
  have o3 := gr_ob p10.2.1 o3
  refine ⟨?_, ?_⟩
  · intro c11
    have h := h.1 c11
    refine cm_X11_in (kj_X11_in hU (fun q hq => hL q ((by decide : ∀ q ∈ kjL_X11_in, q ∈ kjL_X11_stay) q hq)) h) h (fun x12 x13 p16 h g14 g15 => ?_)
    have h := h g14 g15
    have K := kj9_tr K p16.2
    have o3 := gr_ob p16.2.1 o3
    refine ⟨?_, ?_⟩
    · intro c17
      have h := h.1 c17
      obtain ⟨b18, e19, h⟩ := h
      refine ⟨b18, e19, ?_⟩
      obtain ⟨c20, h⟩ := h
      refine ⟨c20, ?_⟩
      obtain ⟨c21, h⟩ := h
      refine ⟨c21, ?_⟩
      intro x23 e22
      have h := h x23 e22
      intro x25 e24
      have h := h x25 e24
      refine cm_X11_canWait (kj_X11_canWait hU (fun q hq => hL q ((by decide : ∀ q ∈ kjL_X11_canWait, q ∈ kjL_X11_stay) q hq)) h) h (fun x26 x27 p30 h g28 g29 => ?_)
      have h := h g28 g29
      have K := kj9_tr K p30.2
      have o3 := gr_ob p30.2.1 o3
      refine ⟨?_, ?_⟩
      · intro c31
        have h := h.1 c31
        obtain ⟨b32, e33, h⟩ := h
        refine ⟨b32, e33, ?_⟩
        obtain ⟨c34, h⟩ := h
        refine ⟨c34, ?_⟩
        obtain ⟨c35, h⟩ := h
        refine ⟨c35, ?_⟩
        intro x37 e36
        have h := h x37 e36
        refine ⟨?_, ?_⟩
        · intro c38
          have h := h.1 c38
          refine cm_X11_keeps (kj_X11_keeps hU (fun q hq => hL q ((by decide : ∀ q ∈ kjL_X11_keeps, q ∈ kjL_X11_stay) q hq)) h) h (fun x39 p41 h g40 => ?_)
          have h := h g40
          have K := kj9_tr K p41.2
          have o3 := gr_ob p41.2.1 o3
          exact kj_X11_stay_84 hU hL h K
        · intro c42
          have h := h.2 c42
          refine cm_X11_denied (kj_X11_denied hU (fun q hq => hL q ((by decide : ∀ q ∈ kjL_X11_denied, q ∈ kjL_X11_stay) q hq)) h) h (fun x43 x44 p47 h g45 g46 => ?_)
          have h := h g45 g46
          have K := kj9_tr K p47.2
          have o3 := gr_ob p47.2.1 o3
          obtain ⟨c48, h⟩ := h
          refine ⟨c48, ?_⟩
          exact ⟨h, K⟩
      · intro c49
        have h := h.2 c49
        refine cm_X11_denied (kj_X11_denied hU (fun q hq => hL q ((by decide : ∀ q ∈ kjL_X11_denied, q ∈ kjL_X11_stay) q hq)) h) h (fun x50 x51 p54 h g52 g53 => ?_)
        have h := h g52 g53
        have K := kj9_tr K p54.2
        have o3 := gr_ob p54.2.1 o3
        obtain ⟨c55, h⟩ := h
        refine ⟨c55, ?_⟩
        exact ⟨h, K⟩
    · intro c56
      have h := h.2 c56
      refine cm_X11_denied (kj_X11_denied hU (fun q hq => hL q ((by decide : ∀ q ∈ kjL_X11_denied, q ∈ kjL_X11_stay) q hq)) h) h (fun x57 x58 p61 h g59 g60 => ?_)
      have h := h g59 g60
      have K := kj9_tr K p61.2
      have o3 := gr_ob p61.2.1 o3
      obtain ⟨c62, h⟩ := h
      refine ⟨c62, ?_⟩
      exact ⟨h, K⟩
  · intro c63
    have h := h.2 c63
    refine cm_X11_denied (kj_X11_denied hU (fun q hq => hL q ((by decide : ∀ q ∈ kjL_X11_denied, q ∈ kjL_X11_stay) q hq)) h) h (fun x64 x65 p68 h g66 g67 => ?_)
    have h := h g66 g67
    have K := kj9_tr K p68.2
    have o3 := gr_ob p68.2.1 o3
    obtain ⟨c69, h⟩ := h
    refine ⟨c69, ?_⟩
    exact ⟨h, K⟩
theorem kj_X11_stay {L : List (Nat × Nat)} (hU : ∀ q ∈ L, q ∈ njT) (hL : ∀ q ∈ kjL_X11_stay, q ∈ L) {Q : Int32 → HS → Prop} {v0 : Nat} {v1 : Int32} {S : HS} (h : P_X11_stay v0 v1 Q S) : P_X11_stay v0 v1 (fun r T => Q r T ∧ KJ L S T) S := kj_X11_stay_0 hU hL h (kj9_rf L S)
abbrev kjL_X11_stepOf : List (Nat × Nat) := []
set_option maxRecDepth 20000 in
set_option maxHeartbeats 1000000 in
theorem kj_X11_stepOf_117 {L : List (Nat × Nat)} (hU : ∀ q ∈ L, q ∈ njT) (hL : ∀ q ∈ kjL_X11_stepOf, q ∈ L) {Q : Int32 → HS → Prop} {X9 X9_2 : Nat → Int32 → Int32 → Int32 → Int32 → HS → Prop} {v0 : Nat} {v4 : Int32} {v6 : Int32} {v7 : Int32} {s0 : Int32} {S0 S : HS} (h : P_X11_stepOf_117 Q X9 v0 v4 v6 v7 s0 S) (K : KJ L S0 S) (hX9 : ∀ (u0 : Nat) (u1 : Int32) (u2 : Int32) (u3 : Int32) (u4 : Int32) (u5 : HS), X9 u0 u1 u2 u3 u4 u5 → KJ L S0 u5 → X9_2 u0 u1 u2 u3 u4 u5) : P_X11_stepOf_117 (fun r T => Q r T ∧ KJ L S0 T) X9_2 v0 v4 v6 v7 s0 S := by
  delta P_X11_stepOf_117 at h ⊢
  exact hX9 _ _ _ _ _ _ h K
set_option maxRecDepth 20000 in
set_option maxHeartbeats 1000000 in
theorem kj_X11_stepOf_82 {L : List (Nat × Nat)} (hU : ∀ q ∈ L, q ∈ njT) (hL : ∀ q ∈ kjL_X11_stepOf, q ∈ L) {Q : Int32 → HS → Prop} {X9 X9_2 : Nat → Int32 → Int32 → Int32 → Int32 → HS → Prop} {v0 : Nat} {v4 : Int32} {v5 : Int32} {v7 : Int32} {v8 : Int32} {s0 : Int32} {s1 : Int32} {S0 S : HS} (h : P_X11_stepOf_82 Q X9 v0 v4 v5 v7 v8 s0 s1 S) (K : KJ L S0 S) (hX9 : ∀ (u0 : Nat) (u1 : Int32) (u2 : Int32) (u3 : Int32) (u4 : Int32) (u5 : HS), X9 u0 u1 u2 u3 u4 u5 → KJ L S0 u5 → X9_2 u0 u1 u2 u3 u4 u5) : P_X11_stepOf_82 (fun r T => Q r T ∧ KJ L S0 T) X9_2 v0 v4 v5 v7 v8 s0 s1 S := by
  delta P_X11_stepOf_82 at h ⊢
  intro x2 e1
  have h := h x2 e1
  refine ⟨?_, ?_⟩
  · intro c3
    have h := h.1 c3
    obtain ⟨c4, h⟩ := h
    refine ⟨c4, ?_⟩
    have o5 := c4
    obtain ⟨b6, e7, h⟩ := h
    refine ⟨b6, e7, ?_⟩
    intro x9 e8
    have h := h x9 e8
    intro x11 e10
    have h := h x11 e10
    intro x13 e12
    have h := h x13 e12
    obtain ⟨c14, h⟩ := h
    refine ⟨c14, ?_⟩
    refine cm_X10_ends (kj_X10_ends hU (fun q hq => hL q ((by decide : ∀ q ∈ kjL_X10_ends, q ∈ kjL_X11_stepOf) q hq)) h) h (fun x15 x16 p18 h g17 => ?_)
    have h := h g17
    have K := kj9_tr K p18.2
    have o5 := gr_ob p18.2.1 o5
    exact kj_X11_stepOf_117 hU hL h K hX9
  · intro c19
    have h := h.2 c19
    exact kj_X11_stepOf_117 hU hL h K hX9
set_option maxRecDepth 20000 in
set_option maxHeartbeats 1000000 in
theorem kjB_X11_stepOf_9 {L : List (Nat × Nat)} (hU : ∀ q ∈ L, q ∈ njT) (hL : ∀ q ∈ kjL_X11_stepOf, q ∈ L) {Q : Int32 → HS → Prop} {X9 X9_2 : Nat → Int32 → Int32 → Int32 → Int32 → HS → Prop} {v0 : Nat} {v4 : Int32} {v5 : Int32} {v6 : Int32} {v7 : Int32} {S0 S : HS} (h : B_X11_stepOf_9 Q X9 v0 v4 v5 v6 v7 S) (K : KJ L S0 S) (hX9 : ∀ (u0 : Nat) (u1 : Int32) (u2 : Int32) (u3 : Int32) (u4 : Int32) (u5 : HS), X9 u0 u1 u2 u3 u4 u5 → KJ L S0 u5 → X9_2 u0 u1 u2 u3 u4 u5) : B_X11_stepOf_9 (fun r T => Q r T ∧ KJ L S0 T) X9_2 v0 v4 v5 v6 v7 S := by
  delta B_X11_stepOf_9 at h ⊢
  obtain ⟨c1, h⟩ := h
  refine ⟨c1, ?_⟩
  have o2 := c1
  obtain ⟨b3, e4, h⟩ := h
  refine ⟨b3, e4, ?_⟩
  refine cm_X11_spotOf (kj_X11_spotOf hU (fun q hq => hL q ((by decide : ∀ q ∈ kjL_X11_spotOf, q ∈ kjL_X11_stepOf) q hq)) h) h (fun x5 x6 p8 h g7 => ?_)
  have h := h g7
  have K := kj9_tr K p8.2
  have o2 := gr_ob p8.2.1 o2
  obtain ⟨c9, h⟩ := h
  refine ⟨c9, ?_⟩
  obtain ⟨c10, h⟩ := h
  refine ⟨c10, ?_⟩
  intro x12 e11
  have h := h x12 e11
  refine ⟨?_, ?_⟩
  · intro c13
    have h := h.1 c13
    refine ⟨?_, ?_⟩
    · intro c14
      have h := h.1 c14
      exact ⟨h, K⟩
    · intro c15
      have h := h.2 c15
      exact ⟨h, K⟩
  · intro c16
    have h := h.2 c16
    obtain ⟨b17, e18, h⟩ := h
    refine ⟨b17, e18, ?_⟩
    refine cm_X11_spotOf (kj_X11_spotOf hU (fun q hq => hL q ((by decide : ∀ q ∈ kjL_X11_spotOf, q ∈ kjL_X11_stepOf) q hq)) h) h (fun x19 x20 p22 h g21 => ?_)
    have h := h g21
    have K := kj9_tr K p22.2
    have o2 := gr_ob p22.2.1 o2
    obtain ⟨c23, h⟩ := h
    refine ⟨c23, ?_⟩
    obtain ⟨c24, h⟩ := h
    refine ⟨c24, ?_⟩
    intro x26 e25
    have h := h x26 e25
    refine ⟨?_, ?_⟩
    · intro c27
      have h := h.1 c27
      intro x29 e28
      have h := h x29 e28
      refine ⟨?_, ?_⟩
      · intro c30
        have h := h.1 c30
        obtain ⟨b31, e32, h⟩ := h
        refine ⟨b31, e32, ?_⟩
        intro x34 e33
        have h := h x34 e33
        intro x36 e35
        have h := h x36 e35
        obtain ⟨c37, h⟩ := h
        refine ⟨c37, ?_⟩
        refine cm_X10_minutes (kj_X10_minutes hU (fun q hq => hL q ((by decide : ∀ q ∈ kjL_X10_minutes, q ∈ kjL_X11_stepOf) q hq)) h) h (fun x38 x39 p41 h g40 => ?_)
        have h := h g40
        have K := kj9_tr K p41.2
        have o2 := gr_ob p41.2.1 o2
        exact kj_X11_stepOf_82 hU hL h K hX9
      · intro c42
        have h := h.2 c42
        exact kj_X11_stepOf_82 hU hL h K hX9
    · intro c43
      have h := h.2 c43
      exact ⟨h, K⟩
theorem kj_X11_stepOf_9 {L : List (Nat × Nat)} (hU : ∀ q ∈ L, q ∈ njT) (hL : ∀ q ∈ kjL_X11_stepOf, q ∈ L) {Q : Int32 → HS → Prop} {v0 : Nat} {v4 : Int32} {v5 : Int32} {v6 : Int32} {v7 : Int32} {S0 S : HS} (h : P_X11_stepOf_9 Q v0 v4 v5 v6 v7 S) (K : KJ L S0 S) : P_X11_stepOf_9 (fun r T => Q r T ∧ KJ L S0 T) v0 v4 v5 v6 v7 S := h (fun v0 v4 v5 v6 v7 S => KJ L S0 S → P_X11_stepOf_9 (fun r T => Q r T ∧ KJ L S0 T) v0 v4 v5 v6 v7 S) (fun v0 v4 v5 v6 v7 S hB K => fd_X11_stepOf_9 (kjB_X11_stepOf_9 hU hL hB K (fun _ _ _ _ _ _ hx K => hx K))) K
set_option maxRecDepth 20000 in
set_option maxHeartbeats 1000000 in
theorem kj_X11_stepOf_0 {L : List (Nat × Nat)} (hU : ∀ q ∈ L, q ∈ njT) (hL : ∀ q ∈ kjL_X11_stepOf, q ∈ L) {Q : Int32 → HS → Prop} {v0 : Nat} {v2 : Int32} {v3 : Int32} {v4 : Int32} {S0 S : HS} (h : P_X11_stepOf_0 Q v0 v2 v3 v4 S) (K : KJ L S0 S) : P_X11_stepOf_0 (fun r T => Q r T ∧ KJ L S0 T) v0 v2 v3 v4 S := by
  delta P_X11_stepOf_0 at h ⊢
  exact kj_X11_stepOf_9 hU hL h K
theorem kj_X11_stepOf {L : List (Nat × Nat)} (hU : ∀ q ∈ L, q ∈ njT) (hL : ∀ q ∈ kjL_X11_stepOf, q ∈ L) {Q : Int32 → HS → Prop} {v0 : Nat} {v1 : Int32} {v2 : Int32} {v3 : Int32} {v4 : Int32} {S : HS} (h : P_X11_stepOf v0 v1 v2 v3 v4 Q S) : P_X11_stepOf v0 v1 v2 v3 v4 (fun r T => Q r T ∧ KJ L S T) S := kj_X11_stepOf_0 hU hL h (kj9_rf L S)
abbrev kjL_X11_step : List (Nat × Nat) := [(11, 17), (11, 18)]
set_option maxRecDepth 20000 in
set_option maxHeartbeats 1000000 in
theorem kj_X11_step_49 {L : List (Nat × Nat)} (hU : ∀ q ∈ L, q ∈ njT) (hL : ∀ q ∈ kjL_X11_step, q ∈ L) {Q : Int32 → HS → Prop} {v0 : Nat} {s0 : Int32} {S0 S : HS} (h : P_X11_step_49 Q v0 s0 S) (K : KJ L S0 S) : P_X11_step_49 (fun r T => Q r T ∧ KJ L S0 T) v0 s0 S := by
  delta P_X11_step_49 at h ⊢
  refine ⟨?_, ?_⟩
  · intro c1
    have h := h.1 c1
    obtain ⟨c2, h⟩ := h
    refine ⟨c2, ?_⟩
    refine cm_X11_good (kj_X11_good hU (fun q hq => hL q ((by decide : ∀ q ∈ kjL_X11_good, q ∈ kjL_X11_step) q hq)) h) h (fun x3 x4 p6 h g5 => ?_)
    have h := h g5
    have K := kj9_tr K p6.2
    exact ⟨h, K⟩
  · intro c7
    have h := h.2 c7
    obtain ⟨c8, h⟩ := h
    refine ⟨c8, ?_⟩
    refine cm_X11_refused (kj_X11_refused hU (fun q hq => hL q ((by decide : ∀ q ∈ kjL_X11_refused, q ∈ kjL_X11_step) q hq)) h) h (fun x9 x10 p12 h g11 => ?_)
    have h := h g11
    have K := kj9_tr K p12.2
    exact ⟨h, K⟩
set_option maxRecDepth 20000 in
set_option maxHeartbeats 1000000 in
theorem kj_X11_step_0 {L : List (Nat × Nat)} (hU : ∀ q ∈ L, q ∈ njT) (hL : ∀ q ∈ kjL_X11_step, q ∈ L) {Q : Int32 → HS → Prop} {v0 : Nat} {v1 : Int32} {v2 : Int32} {v3 : Int32} {v4 : Int32} {v5 : Int32} {v6 : Int32} {S0 S : HS} (h : P_X11_step_0 Q v0 v1 v2 v3 v4 v5 v6 S) (K : KJ L S0 S) : P_X11_step_0 (fun r T => Q r T ∧ KJ L S0 T) v0 v1 v2 v3 v4 v5 v6 S := by
  delta P_X11_step_0 at h ⊢
  obtain ⟨c1, h⟩ := h
  refine ⟨c1, ?_⟩
  have n2 := kj9_nk K c1 (by decide)
  intro x4 e3
  have h := h x4 e3
  have K := kj9_I K e3 n2
  refine cm_X11_refusesWay (kj_X11_refusesWay hU (fun q hq => hL q ((by decide : ∀ q ∈ kjL_X11_refusesWay, q ∈ kjL_X11_step) q hq)) h) h (fun x5 x6 p8 h g7 => ?_)
  have h := h g7
  have K := kj9_tr K p8.2
  refine ⟨?_, ?_⟩
  · intro c9
    have h := h.1 c9
    refine ⟨?_, ?_⟩
    · intro c10
      have h := h.1 c10
      refine cm_X11_stepOf (kj_X11_stepOf hU (fun q hq => hL q ((by decide : ∀ q ∈ kjL_X11_stepOf, q ∈ kjL_X11_step) q hq)) h) h (fun x11 x12 p14 h g13 => ?_)
      have h := h g13
      have K := kj9_tr K p14.2
      exact kj_X11_step_49 hU hL h K
    · intro c15
      have h := h.2 c15
      exact kj_X11_step_49 hU hL h K
  · intro c16
    have h := h.2 c16
    refine cm_X11_refused (kj_X11_refused hU (fun q hq => hL q ((by decide : ∀ q ∈ kjL_X11_refused, q ∈ kjL_X11_step) q hq)) h) h (fun x17 x18 p20 h g19 => ?_)
    have h := h g19
    have K := kj9_tr K p20.2
    exact ⟨h, K⟩
theorem kj_X11_step {L : List (Nat × Nat)} (hU : ∀ q ∈ L, q ∈ njT) (hL : ∀ q ∈ kjL_X11_step, q ∈ L) {Q : Int32 → HS → Prop} {v0 : Nat} {v1 : Int32} {v2 : Int32} {v3 : Int32} {v4 : Int32} {v5 : Int32} {v6 : Int32} {S : HS} (h : P_X11_step v0 v1 v2 v3 v4 v5 v6 Q S) : P_X11_step v0 v1 v2 v3 v4 v5 v6 (fun r T => Q r T ∧ KJ L S T) S := kj_X11_step_0 hU hL h (kj9_rf L S)
abbrev kjL_X11_steps : List (Nat × Nat) := [(11, 17), (11, 18)]
set_option maxRecDepth 20000 in
set_option maxHeartbeats 1000000 in
theorem kj_X11_steps_0 {L : List (Nat × Nat)} (hU : ∀ q ∈ L, q ∈ njT) (hL : ∀ q ∈ kjL_X11_steps, q ∈ L) {Q : Int32 → HS → Prop} {v0 : Nat} {v1 : Int32} {v2 : Int32} {v3 : Int32} {v4 : Int32} {v5 : Int32} {S0 S : HS} (h : P_X11_steps_0 Q v0 v1 v2 v3 v4 v5 S) (K : KJ L S0 S) : P_X11_steps_0 (fun r T => Q r T ∧ KJ L S0 T) v0 v1 v2 v3 v4 v5 S := by
  delta P_X11_steps_0 at h ⊢
  obtain ⟨c1, h⟩ := h
  refine ⟨c1, ?_⟩
  have n2 := kj9_nk K c1 (by decide)
  intro x4 e3
  have h := h x4 e3
  have K := kj9_I K e3 n2
  refine cm_X11_refusesWay (kj_X11_refusesWay hU (fun q hq => hL q ((by decide : ∀ q ∈ kjL_X11_refusesWay, q ∈ kjL_X11_steps) q hq)) h) h (fun x5 x6 p8 h g7 => ?_)
  have h := h g7
  have K := kj9_tr K p8.2
  refine ⟨?_, ?_⟩
  · intro c9
    have h := h.1 c9
    refine cm_X11_stepOf (kj_X11_stepOf hU (fun q hq => hL q ((by decide : ∀ q ∈ kjL_X11_stepOf, q ∈ kjL_X11_steps) q hq)) h) h (fun x10 x11 p13 h g12 => ?_)
    have h := h g12
    have K := kj9_tr K p13.2
    refine cm_X11_good (kj_X11_good hU (fun q hq => hL q ((by decide : ∀ q ∈ kjL_X11_good, q ∈ kjL_X11_steps) q hq)) h) h (fun x14 x15 p17 h g16 => ?_)
    have h := h g16
    have K := kj9_tr K p17.2
    exact ⟨h, K⟩
  · intro c18
    have h := h.2 c18
    refine cm_X11_refused (kj_X11_refused hU (fun q hq => hL q ((by decide : ∀ q ∈ kjL_X11_refused, q ∈ kjL_X11_steps) q hq)) h) h (fun x19 x20 p22 h g21 => ?_)
    have h := h g21
    have K := kj9_tr K p22.2
    exact ⟨h, K⟩
theorem kj_X11_steps {L : List (Nat × Nat)} (hU : ∀ q ∈ L, q ∈ njT) (hL : ∀ q ∈ kjL_X11_steps, q ∈ L) {Q : Int32 → HS → Prop} {v0 : Nat} {v1 : Int32} {v2 : Int32} {v3 : Int32} {v4 : Int32} {v5 : Int32} {S : HS} (h : P_X11_steps v0 v1 v2 v3 v4 v5 Q S) : P_X11_steps v0 v1 v2 v3 v4 v5 (fun r T => Q r T ∧ KJ L S T) S := kj_X11_steps_0 hU hL h (kj9_rf L S)
abbrev kjL_X11_there : List (Nat × Nat) := [(11, 17), (11, 18)]
set_option maxRecDepth 20000 in
set_option maxHeartbeats 1000000 in
theorem kj_X11_there_0 {L : List (Nat × Nat)} (hU : ∀ q ∈ L, q ∈ njT) (hL : ∀ q ∈ kjL_X11_there, q ∈ L) {Q : Int32 → HS → Prop} {v0 : Nat} {v1 : Int32} {v2 : Int32} {v3 : Int32} {v4 : Int32} {v5 : Int32} {S0 S : HS} (h : P_X11_there_0 Q v0 v1 v2 v3 v4 v5 S) (K : KJ L S0 S) : P_X11_there_0 (fun r T => Q r T ∧ KJ L S0 T) v0 v1 v2 v3 v4 v5 S := by
  delta P_X11_there_0 at h ⊢
  obtain ⟨c1, h⟩ := h
  refine ⟨c1, ?_⟩
  have n2 := kj9_nk K c1 (by decide)
  have o3 := c1
  intro x5 e4
  have h := h x5 e4
  have K := kj9_I K e4 n2
  have o3 := ob_wI o3 e4
  refine cm_X11_refusesWay (kj_X11_refusesWay hU (fun q hq => hL q ((by decide : ∀ q ∈ kjL_X11_refusesWay, q ∈ kjL_X11_there) q hq)) h) h (fun x6 x7 p9 h g8 => ?_)
  have h := h g8
  have K := kj9_tr K p9.2
  have o3 := gr_ob p9.2.1 o3
  refine ⟨?_, ?_⟩
  · intro c10
    have h := h.1 c10
    obtain ⟨b11, e12, h⟩ := h
    refine ⟨b11, e12, ?_⟩
    refine cm_X11_spotOf (kj_X11_spotOf hU (fun q hq => hL q ((by decide : ∀ q ∈ kjL_X11_spotOf, q ∈ kjL_X11_there) q hq)) h) h (fun x13 x14 p16 h g15 => ?_)
    have h := h g15
    have K := kj9_tr K p16.2
    have o3 := gr_ob p16.2.1 o3
    obtain ⟨c17, h⟩ := h
    refine ⟨c17, ?_⟩
    obtain ⟨c18, h⟩ := h
    refine ⟨c18, ?_⟩
    intro x20 e19
    have h := h x20 e19
    refine cm_X11_good (kj_X11_good hU (fun q hq => hL q ((by decide : ∀ q ∈ kjL_X11_good, q ∈ kjL_X11_there) q hq)) h) h (fun x21 x22 p24 h g23 => ?_)
    have h := h g23
    have K := kj9_tr K p24.2
    have o3 := gr_ob p24.2.1 o3
    exact ⟨h, K⟩
  · intro c25
    have h := h.2 c25
    refine cm_X11_refused (kj_X11_refused hU (fun q hq => hL q ((by decide : ∀ q ∈ kjL_X11_refused, q ∈ kjL_X11_there) q hq)) h) h (fun x26 x27 p29 h g28 => ?_)
    have h := h g28
    have K := kj9_tr K p29.2
    have o3 := gr_ob p29.2.1 o3
    exact ⟨h, K⟩
theorem kj_X11_there {L : List (Nat × Nat)} (hU : ∀ q ∈ L, q ∈ njT) (hL : ∀ q ∈ kjL_X11_there, q ∈ L) {Q : Int32 → HS → Prop} {v0 : Nat} {v1 : Int32} {v2 : Int32} {v3 : Int32} {v4 : Int32} {v5 : Int32} {S : HS} (h : P_X11_there v0 v1 v2 v3 v4 v5 Q S) : P_X11_there v0 v1 v2 v3 v4 v5 (fun r T => Q r T ∧ KJ L S T) S := kj_X11_there_0 hU hL h (kj9_rf L S)
abbrev kjL_X11_trouble : List (Nat × Nat) := []
set_option maxRecDepth 20000 in
set_option maxHeartbeats 1000000 in
theorem kj_X11_trouble_0 {L : List (Nat × Nat)} (hU : ∀ q ∈ L, q ∈ njT) (hL : ∀ q ∈ kjL_X11_trouble, q ∈ L) {Q : Int32 → HS → Prop} {v0 : Nat} {S0 S : HS} (h : P_X11_trouble_0 Q v0 S) (K : KJ L S0 S) : P_X11_trouble_0 (fun r T => Q r T ∧ KJ L S0 T) v0 S := by
  delta P_X11_trouble_0 at h ⊢
  obtain ⟨c1, h⟩ := h
  refine ⟨c1, ?_⟩
  have n2 := kj9_nk K c1 (by decide)
  intro x4 e3
  have h := h x4 e3
  have K := kj9_I K e3 n2
  intro x6 e5
  have h := h x6 e5
  exact ⟨h, K⟩
theorem kj_X11_trouble {L : List (Nat × Nat)} (hU : ∀ q ∈ L, q ∈ njT) (hL : ∀ q ∈ kjL_X11_trouble, q ∈ L) {Q : Int32 → HS → Prop} {v0 : Nat} {S : HS} (h : P_X11_trouble v0 Q S) : P_X11_trouble v0 (fun r T => Q r T ∧ KJ L S T) S := kj_X11_trouble_0 hU hL h (kj9_rf L S)
abbrev kjL_X11_undo : List (Nat × Nat) := []
set_option maxRecDepth 20000 in
set_option maxHeartbeats 1000000 in
theorem kj_X11_undo_19 {L : List (Nat × Nat)} (hU : ∀ q ∈ L, q ∈ njT) (hL : ∀ q ∈ kjL_X11_undo, q ∈ L) {Q : Int32 → HS → Prop} {v0 : Nat} {S0 S : HS} (h : P_X11_undo_19 Q v0 S) (K : KJ L S0 S) : P_X11_undo_19 (fun r T => Q r T ∧ KJ L S0 T) v0 S := by
  delta P_X11_undo_19 at h ⊢
  obtain ⟨c1, h⟩ := h
  refine ⟨c1, ?_⟩
  refine cm_X11_denied (kj_X11_denied hU (fun q hq => hL q ((by decide : ∀ q ∈ kjL_X11_denied, q ∈ kjL_X11_undo) q hq)) h) h (fun x2 x3 p6 h g4 g5 => ?_)
  have h := h g4 g5
  have K := kj9_tr K p6.2
  obtain ⟨c7, h⟩ := h
  refine ⟨c7, ?_⟩
  exact ⟨h, K⟩
set_option maxRecDepth 20000 in
set_option maxHeartbeats 1000000 in
theorem kjB_X11_undo_38 {L : List (Nat × Nat)} (hU : ∀ q ∈ L, q ∈ njT) (hL : ∀ q ∈ kjL_X11_undo, q ∈ L) {Q : Int32 → HS → Prop} {X38 X38_2 : Nat → Int32 → HS → Prop} {v0 : Nat} {v1 : Int32} {S0 S : HS} (h : B_X11_undo_38 Q X38 v0 v1 S) (K : KJ L S0 S) (hX38 : ∀ (u0 : Nat) (u1 : Int32) (u2 : HS), X38 u0 u1 u2 → KJ L S0 u2 → X38_2 u0 u1 u2) : B_X11_undo_38 (fun r T => Q r T ∧ KJ L S0 T) X38_2 v0 v1 S := by
  delta B_X11_undo_38 at h ⊢
  refine ⟨?_, ?_⟩
  · intro c1
    have h := h.1 c1
    obtain ⟨c2, h⟩ := h
    refine ⟨c2, ?_⟩
    have o3 := c2
    refine cm_X11_granted (kj_X11_granted hU (fun q hq => hL q ((by decide : ∀ q ∈ kjL_X11_granted, q ∈ kjL_X11_undo) q hq)) h) h (fun x4 x5 p8 h g6 g7 => ?_)
    have h := h g6 g7
    have K := kj9_tr K p8.2
    have o3 := gr_ob p8.2.1 o3
    obtain ⟨c9, h⟩ := h
    refine ⟨c9, ?_⟩
    exact ⟨h, K⟩
  · intro c10
    have h := h.2 c10
    obtain ⟨c11, h⟩ := h
    refine ⟨c11, ?_⟩
    have o12 := c11
    obtain ⟨b13, e14, h⟩ := h
    refine ⟨b13, e14, ?_⟩
    obtain ⟨b15, e16, h⟩ := h
    refine ⟨b15, e16, ?_⟩
    intro x18 e17
    have h := h x18 e17
    obtain ⟨c19, h⟩ := h
    refine ⟨c19, ?_⟩
    intro x21 e20
    have h := h x21 e20
    obtain ⟨c22, h⟩ := h
    refine ⟨c22, ?_⟩
    intro x24 e23
    have h := h x24 e23
    obtain ⟨c25, h⟩ := h
    refine ⟨c25, ?_⟩
    obtain ⟨c26, h⟩ := h
    refine ⟨c26, ?_⟩
    intro x28 e27
    have h := h x28 e27
    have K := kj9_J K e27
    have o12 := ob_wJ o12 e27
    intro x30 e29
    have h := h x30 e29
    exact hX38 _ _ _ h K
theorem kj_X11_undo_38 {L : List (Nat × Nat)} (hU : ∀ q ∈ L, q ∈ njT) (hL : ∀ q ∈ kjL_X11_undo, q ∈ L) {Q : Int32 → HS → Prop} {v0 : Nat} {v1 : Int32} {S0 S : HS} (h : P_X11_undo_38 Q v0 v1 S) (K : KJ L S0 S) : P_X11_undo_38 (fun r T => Q r T ∧ KJ L S0 T) v0 v1 S := h (fun v0 v1 S => KJ L S0 S → P_X11_undo_38 (fun r T => Q r T ∧ KJ L S0 T) v0 v1 S) (fun v0 v1 S hB K => fd_X11_undo_38 (kjB_X11_undo_38 hU hL hB K (fun _ _ _ hx K => hx K))) K
set_option maxRecDepth 20000 in
set_option maxHeartbeats 1000000 in
theorem kj_X11_undo_0 {L : List (Nat × Nat)} (hU : ∀ q ∈ L, q ∈ njT) (hL : ∀ q ∈ kjL_X11_undo, q ∈ L) {Q : Int32 → HS → Prop} {v0 : Nat} {S0 S : HS} (h : P_X11_undo_0 Q v0 S) (K : KJ L S0 S) : P_X11_undo_0 (fun r T => Q r T ∧ KJ L S0 T) v0 S := by
  delta P_X11_undo_0 at h ⊢
  obtain ⟨c1, h⟩ := h
  refine ⟨c1, ?_⟩
  have n2 := kj9_nk K c1 (by decide)
  intro x4 e3
  have h := h x4 e3
  have K := kj9_I K e3 n2
  refine cm_X11_isDay (kj_X11_isDay hU (fun q hq => hL q ((by decide : ∀ q ∈ kjL_X11_isDay, q ∈ kjL_X11_undo) q hq)) h) h (fun x5 x6 p9 h g7 g8 => ?_)
  have h := h g7 g8
  have K := kj9_tr K p9.2
  refine ⟨?_, ?_⟩
  · intro c10
    have h := h.1 c10
    exact kj_X11_undo_19 hU hL h K
  · intro c11
    have h := h.2 c11
    intro x13 e12
    have h := h x13 e12
    refine ⟨?_, ?_⟩
    · intro c14
      have h := h.1 c14
      intro x16 e15
      have h := h x16 e15
      intro x18 e17
      have h := h x18 e17
      intro x20 e19
      have h := h x20 e19
      have K := kj9_I K e19 n2
      exact kj_X11_undo_38 hU hL h K
    · intro c21
      have h := h.2 c21
      exact kj_X11_undo_19 hU hL h K
theorem kj_X11_undo {L : List (Nat × Nat)} (hU : ∀ q ∈ L, q ∈ njT) (hL : ∀ q ∈ kjL_X11_undo, q ∈ L) {Q : Int32 → HS → Prop} {v0 : Nat} {S : HS} (h : P_X11_undo v0 Q S) : P_X11_undo v0 (fun r T => Q r T ∧ KJ L S T) S := kj_X11_undo_0 hU hL h (kj9_rf L S)
abbrev kjL_X11_walker : List (Nat × Nat) := []
set_option maxRecDepth 20000 in
set_option maxHeartbeats 1000000 in
theorem kj_X11_walker_23 {L : List (Nat × Nat)} (hU : ∀ q ∈ L, q ∈ njT) (hL : ∀ q ∈ kjL_X11_walker, q ∈ L) {Q : Int32 → HS → Prop} {v0 : Nat} {S0 S : HS} (h : P_X11_walker_23 Q v0 S) (K : KJ L S0 S) : P_X11_walker_23 (fun r T => Q r T ∧ KJ L S0 T) v0 S := by
  delta P_X11_walker_23 at h ⊢
  obtain ⟨c1, h⟩ := h
  refine ⟨c1, ?_⟩
  refine cm_X11_refused (kj_X11_refused hU (fun q hq => hL q ((by decide : ∀ q ∈ kjL_X11_refused, q ∈ kjL_X11_walker) q hq)) h) h (fun x2 x3 p5 h g4 => ?_)
  have h := h g4
  have K := kj9_tr K p5.2
  exact ⟨h, K⟩
set_option maxRecDepth 20000 in
set_option maxHeartbeats 1000000 in
theorem kj_X11_walker_0 {L : List (Nat × Nat)} (hU : ∀ q ∈ L, q ∈ njT) (hL : ∀ q ∈ kjL_X11_walker, q ∈ L) {Q : Int32 → HS → Prop} {v0 : Nat} {v1 : Int32} {v2 : Int32} {S0 S : HS} (h : P_X11_walker_0 Q v0 v1 v2 S) (K : KJ L S0 S) : P_X11_walker_0 (fun r T => Q r T ∧ KJ L S0 T) v0 v1 v2 S := by
  delta P_X11_walker_0 at h ⊢
  obtain ⟨c1, h⟩ := h
  refine ⟨c1, ?_⟩
  have n2 := kj9_nk K c1 (by decide)
  have o3 := c1
  intro x5 e4
  have h := h x5 e4
  have K := kj9_I K e4 n2
  have o3 := ob_wI o3 e4
  refine cm_X11_isWalker (kj_X11_isWalker hU (fun q hq => hL q ((by decide : ∀ q ∈ kjL_X11_isWalker, q ∈ kjL_X11_walker) q hq)) h) h (fun x6 x7 p10 h g8 g9 => ?_)
  have h := h g8 g9
  have K := kj9_tr K p10.2
  have o3 := gr_ob p10.2.1 o3
  refine ⟨?_, ?_⟩
  · intro c11
    have h := h.1 c11
    exact kj_X11_walker_23 hU hL h K
  · intro c12
    have h := h.2 c12
    refine cm_X11_in (kj_X11_in hU (fun q hq => hL q ((by decide : ∀ q ∈ kjL_X11_in, q ∈ kjL_X11_walker) q hq)) h) h (fun x13 x14 p17 h g15 g16 => ?_)
    have h := h g15 g16
    have K := kj9_tr K p17.2
    have o3 := gr_ob p17.2.1 o3
    refine ⟨?_, ?_⟩
    · intro c18
      have h := h.1 c18
      refine ⟨?_, ?_, ?_, ?_, ?_, ?_, ?_⟩
      · intro c19
        have h := h.1 c19
        obtain ⟨b20, e21, h⟩ := h
        refine ⟨b20, e21, ?_⟩
        obtain ⟨c22, h⟩ := h
        refine ⟨c22, ?_⟩
        have o23 := c22
        obtain ⟨b24, e25, h⟩ := h
        refine ⟨b24, e25, ?_⟩
        obtain ⟨c26, h⟩ := h
        refine ⟨c26, ?_⟩
        obtain ⟨c27, h⟩ := h
        refine ⟨c27, ?_⟩
        intro x29 e28
        have h := h x29 e28
        refine cm_X11_good (kj_X11_good hU (fun q hq => hL q ((by decide : ∀ q ∈ kjL_X11_good, q ∈ kjL_X11_walker) q hq)) h) h (fun x30 x31 p33 h g32 => ?_)
        have h := h g32
        have K := kj9_tr K p33.2
        have o3 := gr_ob p33.2.1 o3
        have o23 := gr_ob p33.2.1 o23
        exact ⟨h, K⟩
      · intro c34
        have h := h.2.1 c34
        obtain ⟨b35, e36, h⟩ := h
        refine ⟨b35, e36, ?_⟩
        obtain ⟨c37, h⟩ := h
        refine ⟨c37, ?_⟩
        have o38 := c37
        obtain ⟨b39, e40, h⟩ := h
        refine ⟨b39, e40, ?_⟩
        obtain ⟨c41, h⟩ := h
        refine ⟨c41, ?_⟩
        obtain ⟨c42, h⟩ := h
        refine ⟨c42, ?_⟩
        intro x44 e43
        have h := h x44 e43
        refine cm_X11_good (kj_X11_good hU (fun q hq => hL q ((by decide : ∀ q ∈ kjL_X11_good, q ∈ kjL_X11_walker) q hq)) h) h (fun x45 x46 p48 h g47 => ?_)
        have h := h g47
        have K := kj9_tr K p48.2
        have o3 := gr_ob p48.2.1 o3
        have o38 := gr_ob p48.2.1 o38
        exact ⟨h, K⟩
      · intro c49
        have h := h.2.2.1 c49
        obtain ⟨b50, e51, h⟩ := h
        refine ⟨b50, e51, ?_⟩
        obtain ⟨c52, h⟩ := h
        refine ⟨c52, ?_⟩
        have o53 := c52
        obtain ⟨b54, e55, h⟩ := h
        refine ⟨b54, e55, ?_⟩
        obtain ⟨c56, h⟩ := h
        refine ⟨c56, ?_⟩
        obtain ⟨c57, h⟩ := h
        refine ⟨c57, ?_⟩
        intro x59 e58
        have h := h x59 e58
        refine cm_X11_good (kj_X11_good hU (fun q hq => hL q ((by decide : ∀ q ∈ kjL_X11_good, q ∈ kjL_X11_walker) q hq)) h) h (fun x60 x61 p63 h g62 => ?_)
        have h := h g62
        have K := kj9_tr K p63.2
        have o3 := gr_ob p63.2.1 o3
        have o53 := gr_ob p63.2.1 o53
        exact ⟨h, K⟩
      · intro c64
        have h := h.2.2.2.1 c64
        obtain ⟨b65, e66, h⟩ := h
        refine ⟨b65, e66, ?_⟩
        obtain ⟨c67, h⟩ := h
        refine ⟨c67, ?_⟩
        have o68 := c67
        obtain ⟨b69, e70, h⟩ := h
        refine ⟨b69, e70, ?_⟩
        obtain ⟨c71, h⟩ := h
        refine ⟨c71, ?_⟩
        obtain ⟨c72, h⟩ := h
        refine ⟨c72, ?_⟩
        intro x74 e73
        have h := h x74 e73
        refine cm_X11_good (kj_X11_good hU (fun q hq => hL q ((by decide : ∀ q ∈ kjL_X11_good, q ∈ kjL_X11_walker) q hq)) h) h (fun x75 x76 p78 h g77 => ?_)
        have h := h g77
        have K := kj9_tr K p78.2
        have o3 := gr_ob p78.2.1 o3
        have o68 := gr_ob p78.2.1 o68
        exact ⟨h, K⟩
      · intro c79
        have h := h.2.2.2.2.1 c79
        obtain ⟨b80, e81, h⟩ := h
        refine ⟨b80, e81, ?_⟩
        obtain ⟨c82, h⟩ := h
        refine ⟨c82, ?_⟩
        have o83 := c82
        obtain ⟨b84, e85, h⟩ := h
        refine ⟨b84, e85, ?_⟩
        obtain ⟨c86, h⟩ := h
        refine ⟨c86, ?_⟩
        obtain ⟨c87, h⟩ := h
        refine ⟨c87, ?_⟩
        intro x89 e88
        have h := h x89 e88
        refine cm_X11_good (kj_X11_good hU (fun q hq => hL q ((by decide : ∀ q ∈ kjL_X11_good, q ∈ kjL_X11_walker) q hq)) h) h (fun x90 x91 p93 h g92 => ?_)
        have h := h g92
        have K := kj9_tr K p93.2
        have o3 := gr_ob p93.2.1 o3
        have o83 := gr_ob p93.2.1 o83
        exact ⟨h, K⟩
      · intro c94
        have h := h.2.2.2.2.2.1 c94
        obtain ⟨b95, e96, h⟩ := h
        refine ⟨b95, e96, ?_⟩
        obtain ⟨c97, h⟩ := h
        refine ⟨c97, ?_⟩
        have o98 := c97
        obtain ⟨b99, e100, h⟩ := h
        refine ⟨b99, e100, ?_⟩
        obtain ⟨c101, h⟩ := h
        refine ⟨c101, ?_⟩
        obtain ⟨c102, h⟩ := h
        refine ⟨c102, ?_⟩
        intro x104 e103
        have h := h x104 e103
        refine cm_X11_good (kj_X11_good hU (fun q hq => hL q ((by decide : ∀ q ∈ kjL_X11_good, q ∈ kjL_X11_walker) q hq)) h) h (fun x105 x106 p108 h g107 => ?_)
        have h := h g107
        have K := kj9_tr K p108.2
        have o3 := gr_ob p108.2.1 o3
        have o98 := gr_ob p108.2.1 o98
        exact ⟨h, K⟩
      · intro c109
        have h := h.2.2.2.2.2.2 c109
        obtain ⟨b110, e111, h⟩ := h
        refine ⟨b110, e111, ?_⟩
        obtain ⟨c112, h⟩ := h
        refine ⟨c112, ?_⟩
        have o113 := c112
        obtain ⟨b114, e115, h⟩ := h
        refine ⟨b114, e115, ?_⟩
        obtain ⟨c116, h⟩ := h
        refine ⟨c116, ?_⟩
        obtain ⟨c117, h⟩ := h
        refine ⟨c117, ?_⟩
        intro x119 e118
        have h := h x119 e118
        refine cm_X11_good (kj_X11_good hU (fun q hq => hL q ((by decide : ∀ q ∈ kjL_X11_good, q ∈ kjL_X11_walker) q hq)) h) h (fun x120 x121 p123 h g122 => ?_)
        have h := h g122
        have K := kj9_tr K p123.2
        have o3 := gr_ob p123.2.1 o3
        have o113 := gr_ob p123.2.1 o113
        exact ⟨h, K⟩
    · intro c124
      have h := h.2 c124
      exact kj_X11_walker_23 hU hL h K
theorem kj_X11_walker {L : List (Nat × Nat)} (hU : ∀ q ∈ L, q ∈ njT) (hL : ∀ q ∈ kjL_X11_walker, q ∈ L) {Q : Int32 → HS → Prop} {v0 : Nat} {v1 : Int32} {v2 : Int32} {S : HS} (h : P_X11_walker v0 v1 v2 Q S) : P_X11_walker v0 v1 v2 (fun r T => Q r T ∧ KJ L S T) S := kj_X11_walker_0 hU hL h (kj9_rf L S)
end
section
abbrev kjL_X11_wet : List (Nat × Nat) := []
set_option maxRecDepth 20000 in
set_option maxHeartbeats 1000000 in
theorem kj_X11_wet_0 {L : List (Nat × Nat)} (hU : ∀ q ∈ L, q ∈ njT) (hL : ∀ q ∈ kjL_X11_wet, q ∈ L) {Q : Int64 → HS → Prop} {v0 : Nat} {v1 : Int32} {v2 : Int32} {v3 : Int32} {v4 : Int32} {v5 : Int32} {v6 : Int32} {S0 S : HS} (h : P_X11_wet_0 Q v0 v1 v2 v3 v4 v5 v6 S) (K : KJ L S0 S) : P_X11_wet_0 (fun r T => Q r T ∧ KJ L S0 T) v0 v1 v2 v3 v4 v5 v6 S := by
  delta P_X11_wet_0 at h ⊢
  obtain ⟨c1, h⟩ := h
  refine ⟨c1, ?_⟩
  have n2 := kj9_nk K c1 (by decide)
  intro x4 e3
  have h := h x4 e3
  have K := kj9_I K e3 n2
  refine cm_X11_refuses (kj_X11_refuses hU (fun q hq => hL q ((by decide : ∀ q ∈ kjL_X11_refuses, q ∈ kjL_X11_wet) q hq)) h) h (fun x5 x6 p8 h g7 => ?_)
  have h := h g7
  have K := kj9_tr K p8.2
  refine ⟨?_, ?_⟩
  · intro c9
    have h := h.1 c9
    refine cm_X11_wetOf (kj_X11_wetOf hU (fun q hq => hL q ((by decide : ∀ q ∈ kjL_X11_wetOf, q ∈ kjL_X11_wet) q hq)) h) h (fun x10 x11 p13 h g12 => ?_)
    have h := h g12
    have K := kj9_tr K p13.2
    refine cm_X11_told (kj_X11_told hU (fun q hq => hL q ((by decide : ∀ q ∈ kjL_X11_told, q ∈ kjL_X11_wet) q hq)) h) h (fun x14 x15 p17 h g16 => ?_)
    have h := h g16
    have K := kj9_tr K p17.2
    exact ⟨h, K⟩
  · intro c18
    have h := h.2 c18
    refine cm_X11_refused (kj_X11_refused hU (fun q hq => hL q ((by decide : ∀ q ∈ kjL_X11_refused, q ∈ kjL_X11_wet) q hq)) h) h (fun x19 x20 p22 h g21 => ?_)
    have h := h g21
    have K := kj9_tr K p22.2
    exact ⟨h, K⟩
theorem kj_X11_wet {L : List (Nat × Nat)} (hU : ∀ q ∈ L, q ∈ njT) (hL : ∀ q ∈ kjL_X11_wet, q ∈ L) {Q : Int64 → HS → Prop} {v0 : Nat} {v1 : Int32} {v2 : Int32} {v3 : Int32} {v4 : Int32} {v5 : Int32} {v6 : Int32} {S : HS} (h : P_X11_wet v0 v1 v2 v3 v4 v5 v6 Q S) : P_X11_wet v0 v1 v2 v3 v4 v5 v6 (fun r T => Q r T ∧ KJ L S T) S := kj_X11_wet_0 hU hL h (kj9_rf L S)
abbrev kjL_X11_wetness : List (Nat × Nat) := []
set_option maxRecDepth 20000 in
set_option maxHeartbeats 1000000 in
theorem kj_X11_wetness_41 {L : List (Nat × Nat)} (hU : ∀ q ∈ L, q ∈ njT) (hL : ∀ q ∈ kjL_X11_wetness, q ∈ L) {Q : Int64 → HS → Prop} {v1 : Int32} {s0 : Nat} {s1 : Int64} {S0 S : HS} (h : P_X11_wetness_41 Q v1 s0 s1 S) (K : KJ L S0 S) : P_X11_wetness_41 (fun r T => Q r T ∧ KJ L S0 T) v1 s0 s1 S := by
  delta P_X11_wetness_41 at h ⊢
  obtain ⟨c1, h⟩ := h
  refine ⟨c1, ?_⟩
  refine cm_X11_told (kj_X11_told hU (fun q hq => hL q ((by decide : ∀ q ∈ kjL_X11_told, q ∈ kjL_X11_wetness) q hq)) h) h (fun x2 x3 p5 h g4 => ?_)
  have h := h g4
  have K := kj9_tr K p5.2
  exact ⟨h, K⟩
set_option maxRecDepth 20000 in
set_option maxHeartbeats 1000000 in
theorem kj_X11_wetness_0 {L : List (Nat × Nat)} (hU : ∀ q ∈ L, q ∈ njT) (hL : ∀ q ∈ kjL_X11_wetness, q ∈ L) {Q : Int64 → HS → Prop} {v0 : Nat} {v1 : Int32} {S0 S : HS} (h : P_X11_wetness_0 Q v0 v1 S) (K : KJ L S0 S) : P_X11_wetness_0 (fun r T => Q r T ∧ KJ L S0 T) v0 v1 S := by
  delta P_X11_wetness_0 at h ⊢
  obtain ⟨c1, h⟩ := h
  refine ⟨c1, ?_⟩
  have n2 := kj9_nk K c1 (by decide)
  intro x4 e3
  have h := h x4 e3
  have K := kj9_I K e3 n2
  refine cm_X11_isDay (kj_X11_isDay hU (fun q hq => hL q ((by decide : ∀ q ∈ kjL_X11_isDay, q ∈ kjL_X11_wetness) q hq)) h) h (fun x5 x6 p9 h g7 g8 => ?_)
  have h := h g7 g8
  have K := kj9_tr K p9.2
  refine ⟨?_, ?_⟩
  · intro c10
    have h := h.1 c10
    refine cm_X11_gotInAll (kj_X11_gotInAll hU (fun q hq => hL q ((by decide : ∀ q ∈ kjL_X11_gotInAll, q ∈ kjL_X11_wetness) q hq)) h) h (fun x11 x12 p14 h g13 => ?_)
    have h := h g13
    have K := kj9_tr K p14.2
    refine cm_X11_holds (kj_X11_holds hU (fun q hq => hL q ((by decide : ∀ q ∈ kjL_X11_holds, q ∈ kjL_X11_wetness) q hq)) h) h (fun x15 x16 p18 h g17 => ?_)
    have h := h g17
    have K := kj9_tr K p18.2
    intro x20 e19
    have h := h x20 e19
    refine ⟨?_, ?_⟩
    · intro c21
      have h := h.1 c21
      exact kj_X11_wetness_41 hU hL h K
    · intro c22
      have h := h.2 c22
      exact kj_X11_wetness_41 hU hL h K
  · intro c23
    have h := h.2 c23
    refine cm_X11_refused (kj_X11_refused hU (fun q hq => hL q ((by decide : ∀ q ∈ kjL_X11_refused, q ∈ kjL_X11_wetness) q hq)) h) h (fun x24 x25 p27 h g26 => ?_)
    have h := h g26
    have K := kj9_tr K p27.2
    exact ⟨h, K⟩
theorem kj_X11_wetness {L : List (Nat × Nat)} (hU : ∀ q ∈ L, q ∈ njT) (hL : ∀ q ∈ kjL_X11_wetness, q ∈ L) {Q : Int64 → HS → Prop} {v0 : Nat} {v1 : Int32} {S : HS} (h : P_X11_wetness v0 v1 Q S) : P_X11_wetness v0 v1 (fun r T => Q r T ∧ KJ L S T) S := kj_X11_wetness_0 hU hL h (kj9_rf L S)
abbrev kjL_X11_where : List (Nat × Nat) := []
set_option maxRecDepth 20000 in
set_option maxHeartbeats 1000000 in
theorem kj_X11_where_0 {L : List (Nat × Nat)} (hU : ∀ q ∈ L, q ∈ njT) (hL : ∀ q ∈ kjL_X11_where, q ∈ L) {Q : Int32 → HS → Prop} {v0 : Nat} {S0 S : HS} (h : P_X11_where_0 Q v0 S) (K : KJ L S0 S) : P_X11_where_0 (fun r T => Q r T ∧ KJ L S0 T) v0 S := by
  delta P_X11_where_0 at h ⊢
  obtain ⟨c1, h⟩ := h
  refine ⟨c1, ?_⟩
  have n2 := kj9_nk K c1 (by decide)
  intro x4 e3
  have h := h x4 e3
  have K := kj9_I K e3 n2
  intro x6 e5
  have h := h x6 e5
  exact ⟨h, K⟩
theorem kj_X11_where {L : List (Nat × Nat)} (hU : ∀ q ∈ L, q ∈ njT) (hL : ∀ q ∈ kjL_X11_where, q ∈ L) {Q : Int32 → HS → Prop} {v0 : Nat} {S : HS} (h : P_X11_where v0 Q S) : P_X11_where v0 (fun r T => Q r T ∧ KJ L S T) S := kj_X11_where_0 hU hL h (kj9_rf L S)
abbrev kjL_X11_world : List (Nat × Nat) := [(10, 7), (10, 8), (10, 9), (10, 10), (10, 11), (10, 12), (10, 13), (10, 14), (10, 15), (10, 16), (10, 17), (10, 18), (10, 19), (10, 20), (10, 21), (10, 22), (10, 23), (10, 24), (10, 25), (10, 26), (10, 27), (10, 29), (10, 30)]
set_option maxRecDepth 20000 in
set_option maxHeartbeats 1000000 in
theorem kj_X11_world_17 {L : List (Nat × Nat)} (hU : ∀ q ∈ L, q ∈ njT) (hL : ∀ q ∈ kjL_X11_world, q ∈ L) {Q : Int32 → HS → Prop} {v0 : Nat} {S0 S : HS} (h : P_X11_world_17 Q v0 S) (K : KJ L S0 S) : P_X11_world_17 (fun r T => Q r T ∧ KJ L S0 T) v0 S := by
  delta P_X11_world_17 at h ⊢
  obtain ⟨c1, h⟩ := h
  refine ⟨c1, ?_⟩
  refine cm_X11_refused (kj_X11_refused hU (fun q hq => hL q ((by decide : ∀ q ∈ kjL_X11_refused, q ∈ kjL_X11_world) q hq)) h) h (fun x2 x3 p5 h g4 => ?_)
  have h := h g4
  have K := kj9_tr K p5.2
  exact ⟨h, K⟩
set_option maxRecDepth 20000 in
set_option maxHeartbeats 1000000 in
theorem kj_X11_world_0 {L : List (Nat × Nat)} (hU : ∀ q ∈ L, q ∈ njT) (hL : ∀ q ∈ kjL_X11_world, q ∈ L) {Q : Int32 → HS → Prop} {v0 : Nat} {v1 : Int32} {S0 S : HS} (h : P_X11_world_0 Q v0 v1 S) (K : KJ L S0 S) : P_X11_world_0 (fun r T => Q r T ∧ KJ L S0 T) v0 v1 S := by
  delta P_X11_world_0 at h ⊢
  obtain ⟨c1, h⟩ := h
  refine ⟨c1, ?_⟩
  have n2 := kj9_nk K c1 (by decide)
  have o3 := c1
  intro x5 e4
  have h := h x5 e4
  have K := kj9_I K e4 n2
  have o3 := ob_wI o3 e4
  refine ⟨?_, ?_⟩
  · intro c6
    have h := h.1 c6
    exact kj_X11_world_17 hU hL h K
  · intro c7
    have h := h.2 c7
    intro x9 e8
    have h := h x9 e8
    refine ⟨?_, ?_⟩
    · intro c10
      have h := h.1 c10
      intro x12 e11
      have h := h x12 e11
      have K := kj9_I K e11 n2
      have o3 := ob_wI o3 e11
      intro x14 e13
      have h := h x14 e13
      have K := kj9_I K e13 n2
      have o3 := ob_wI o3 e13
      intro x16 e15
      have h := h x16 e15
      have K := kj9_I K e15 n2
      have o3 := ob_wI o3 e15
      intro x18 e17
      have h := h x18 e17
      have K := kj9_I K e17 n2
      have o3 := ob_wI o3 e17
      intro x20 e19
      have h := h x20 e19
      intro x22 e21
      have h := h x22 e21
      have n23 := kj9_nf K e19
      have K := kj9_W K e19 e21
      have o3 := gr_ob (gr_of_new e21 e19) o3
      have o24 := ob_of_new e21
      refine cm_X10_init (kj_X10_init hU (fun q hq => hL q ((by decide : ∀ q ∈ kjL_X10_init, q ∈ kjL_X11_world) q hq)) h) h (fun x25 p27 h g26 => ?_)
      have h := h g26
      have K := kj9_tr K p27.2
      have o3 := gr_ob p27.2.1 o3
      have o24 := gr_ob p27.2.1 o24
      intro x29 e28
      have h := h x29 e28
      have K := kj9_R K hU e28 o3 (by decide)
      have o3 := ob_wR o3 e28
      have o24 := ob_wR o24 e28
      intro x31 e30
      have h := h x31 e30
      have K := kj9_I K e30 n2
      have o3 := ob_wI o3 e30
      have o24 := ob_wI o24 e30
      refine cm_X11_goesOn (kj_X11_goesOn hU (fun q hq => hL q ((by decide : ∀ q ∈ kjL_X11_goesOn, q ∈ kjL_X11_world) q hq)) h) h (fun x32 p34 h g33 => ?_)
      have h := h g33
      have K := kj9_tr K p34.2
      have o3 := gr_ob p34.2.1 o3
      have o24 := gr_ob p34.2.1 o24
      refine cm_X11_readAll (kj_X11_readAll hU (fun q hq => hL q ((by decide : ∀ q ∈ kjL_X11_readAll, q ∈ kjL_X11_world) q hq)) h) h (fun x35 p37 h g36 => ?_)
      have h := h g36
      have K := kj9_tr K p37.2
      have o3 := gr_ob p37.2.1 o3
      have o24 := gr_ob p37.2.1 o24
      intro x39 e38
      have h := h x39 e38
      refine ⟨?_, ?_⟩
      · intro c40
        have h := h.1 c40
        obtain ⟨b41, e42, h⟩ := h
        refine ⟨b41, e42, ?_⟩
        intro x44 e43
        have h := h x44 e43
        have K := kj9_R K hU e43 o3 (by decide)
        have o3 := ob_wR o3 e43
        have o24 := ob_wR o24 e43
        intro x46 e45
        have h := h x46 e45
        have K := kj9_I K e45 n2
        have o3 := ob_wI o3 e45
        have o24 := ob_wI o24 e45
        intro x48 e47
        have h := h x48 e47
        have K := kj9_I K e47 n2
        have o3 := ob_wI o3 e47
        have o24 := ob_wI o24 e47
        intro x50 e49
        have h := h x50 e49
        have K := kj9_I K e49 n2
        have o3 := ob_wI o3 e49
        have o24 := ob_wI o24 e49
        obtain ⟨b51, e52, h⟩ := h
        refine ⟨b51, e52, ?_⟩
        obtain ⟨c53, h⟩ := h
        refine ⟨c53, ?_⟩
        intro x55 e54
        have h := h x55 e54
        refine cm_X11_good (kj_X11_good hU (fun q hq => hL q ((by decide : ∀ q ∈ kjL_X11_good, q ∈ kjL_X11_world) q hq)) h) h (fun x56 x57 p59 h g58 => ?_)
        have h := h g58
        have K := kj9_tr K p59.2
        have o3 := gr_ob p59.2.1 o3
        have o24 := gr_ob p59.2.1 o24
        exact ⟨h, K⟩
      · intro c60
        have h := h.2 c60
        intro x62 e61
        have h := h x62 e61
        have K := kj9_I K e61 n2
        have o3 := ob_wI o3 e61
        have o24 := ob_wI o24 e61
        intro x64 e63
        have h := h x64 e63
        intro x66 e65
        have h := h x66 e65
        have K := kj9_I K e65 n2
        have o3 := ob_wI o3 e65
        have o24 := ob_wI o24 e65
        exact ⟨h, K⟩
    · intro c67
      have h := h.2 c67
      exact kj_X11_world_17 hU hL h K
theorem kj_X11_world {L : List (Nat × Nat)} (hU : ∀ q ∈ L, q ∈ njT) (hL : ∀ q ∈ kjL_X11_world, q ∈ L) {Q : Int32 → HS → Prop} {v0 : Nat} {v1 : Int32} {S : HS} (h : P_X11_world v0 v1 Q S) : P_X11_world v0 v1 (fun r T => Q r T ∧ KJ L S T) S := kj_X11_world_0 hU hL h (kj9_rf L S)
abbrev kjL_X11_worst : List (Nat × Nat) := []
set_option maxRecDepth 20000 in
set_option maxHeartbeats 1000000 in
theorem kj_X11_worst_39 {L : List (Nat × Nat)} (hU : ∀ q ∈ L, q ∈ njT) (hL : ∀ q ∈ kjL_X11_worst, q ∈ L) {Q : Int32 → HS → Prop} {v0 : Nat} {S0 S : HS} (h : P_X11_worst_39 Q v0 S) (K : KJ L S0 S) : P_X11_worst_39 (fun r T => Q r T ∧ KJ L S0 T) v0 S := by
  delta P_X11_worst_39 at h ⊢
  obtain ⟨c1, h⟩ := h
  refine ⟨c1, ?_⟩
  refine cm_X11_refused (kj_X11_refused hU (fun q hq => hL q ((by decide : ∀ q ∈ kjL_X11_refused, q ∈ kjL_X11_worst) q hq)) h) h (fun x2 x3 p5 h g4 => ?_)
  have h := h g4
  have K := kj9_tr K p5.2
  exact ⟨h, K⟩
set_option maxRecDepth 20000 in
set_option maxHeartbeats 1000000 in
theorem kj_X11_worst_106 {L : List (Nat × Nat)} (hU : ∀ q ∈ L, q ∈ njT) (hL : ∀ q ∈ kjL_X11_worst, q ∈ L) {Q : Int32 → HS → Prop} {X62 X62_2 : Nat → Int32 → Int32 → Int32 → Int32 → Int32 → Int32 → HS → Prop} {v0 : Nat} {v1 : Int32} {v2 : Int32} {v3 : Int32} {v4 : Int32} {v5 : Int32} {v6 : Int32} {S0 S : HS} (h : P_X11_worst_106 Q X62 v0 v1 v2 v3 v4 v5 v6 S) (K : KJ L S0 S) (hX62 : ∀ (u0 : Nat) (u1 : Int32) (u2 : Int32) (u3 : Int32) (u4 : Int32) (u5 : Int32) (u6 : Int32) (u7 : HS), X62 u0 u1 u2 u3 u4 u5 u6 u7 → KJ L S0 u7 → X62_2 u0 u1 u2 u3 u4 u5 u6 u7) : P_X11_worst_106 (fun r T => Q r T ∧ KJ L S0 T) X62_2 v0 v1 v2 v3 v4 v5 v6 S := by
  delta P_X11_worst_106 at h ⊢
  intro x2 e1
  have h := h x2 e1
  exact hX62 _ _ _ _ _ _ _ _ h K
set_option maxRecDepth 20000 in
set_option maxHeartbeats 1000000 in
theorem kjB_X11_worst_62 {L : List (Nat × Nat)} (hU : ∀ q ∈ L, q ∈ njT) (hL : ∀ q ∈ kjL_X11_worst, q ∈ L) {Q : Int32 → HS → Prop} {X62 X62_2 : Nat → Int32 → Int32 → Int32 → Int32 → Int32 → Int32 → HS → Prop} {v0 : Nat} {v1 : Int32} {v2 : Int32} {v3 : Int32} {v4 : Int32} {v5 : Int32} {v6 : Int32} {S0 S : HS} (h : B_X11_worst_62 Q X62 v0 v1 v2 v3 v4 v5 v6 S) (K : KJ L S0 S) (hX62 : ∀ (u0 : Nat) (u1 : Int32) (u2 : Int32) (u3 : Int32) (u4 : Int32) (u5 : Int32) (u6 : Int32) (u7 : HS), X62 u0 u1 u2 u3 u4 u5 u6 u7 → KJ L S0 u7 → X62_2 u0 u1 u2 u3 u4 u5 u6 u7) : B_X11_worst_62 (fun r T => Q r T ∧ KJ L S0 T) X62_2 v0 v1 v2 v3 v4 v5 v6 S := by
  delta B_X11_worst_62 at h ⊢
  obtain ⟨c1, h⟩ := h
  refine ⟨c1, ?_⟩
  have o2 := c1
  obtain ⟨b3, e4, h⟩ := h
  refine ⟨b3, e4, ?_⟩
  obtain ⟨c5, h⟩ := h
  refine ⟨c5, ?_⟩
  have o6 := c5
  obtain ⟨b7, e8, h⟩ := h
  refine ⟨b7, e8, ?_⟩
  obtain ⟨c9, h⟩ := h
  refine ⟨c9, ?_⟩
  obtain ⟨c10, h⟩ := h
  refine ⟨c10, ?_⟩
  intro x12 e11
  have h := h x12 e11
  refine ⟨?_, ?_⟩
  · intro c13
    have h := h.1 c13
    refine cm_X11_good (kj_X11_good hU (fun q hq => hL q ((by decide : ∀ q ∈ kjL_X11_good, q ∈ kjL_X11_worst) q hq)) h) h (fun x14 x15 p17 h g16 => ?_)
    have h := h g16
    have K := kj9_tr K p17.2
    have o2 := gr_ob p17.2.1 o2
    have o6 := gr_ob p17.2.1 o6
    exact ⟨h, K⟩
  · intro c18
    have h := h.2 c18
    refine cm_X11_wetOf (kj_X11_wetOf hU (fun q hq => hL q ((by decide : ∀ q ∈ kjL_X11_wetOf, q ∈ kjL_X11_worst) q hq)) h) h (fun x19 x20 p22 h g21 => ?_)
    have h := h g21
    have K := kj9_tr K p22.2
    have o2 := gr_ob p22.2.1 o2
    have o6 := gr_ob p22.2.1 o6
    refine cm_X11_wetOf (kj_X11_wetOf hU (fun q hq => hL q ((by decide : ∀ q ∈ kjL_X11_wetOf, q ∈ kjL_X11_worst) q hq)) h) h (fun x23 x24 p26 h g25 => ?_)
    have h := h g25
    have K := kj9_tr K p26.2
    have o2 := gr_ob p26.2.1 o2
    have o6 := gr_ob p26.2.1 o6
    refine ⟨?_, ?_⟩
    · intro c27
      have h := h.1 c27
      exact kj_X11_worst_106 hU hL h K hX62
    · intro c28
      have h := h.2 c28
      exact kj_X11_worst_106 hU hL h K hX62
theorem kj_X11_worst_62 {L : List (Nat × Nat)} (hU : ∀ q ∈ L, q ∈ njT) (hL : ∀ q ∈ kjL_X11_worst, q ∈ L) {Q : Int32 → HS → Prop} {v0 : Nat} {v1 : Int32} {v2 : Int32} {v3 : Int32} {v4 : Int32} {v5 : Int32} {v6 : Int32} {S0 S : HS} (h : P_X11_worst_62 Q v0 v1 v2 v3 v4 v5 v6 S) (K : KJ L S0 S) : P_X11_worst_62 (fun r T => Q r T ∧ KJ L S0 T) v0 v1 v2 v3 v4 v5 v6 S := h (fun v0 v1 v2 v3 v4 v5 v6 S => KJ L S0 S → P_X11_worst_62 (fun r T => Q r T ∧ KJ L S0 T) v0 v1 v2 v3 v4 v5 v6 S) (fun v0 v1 v2 v3 v4 v5 v6 S hB K => fd_X11_worst_62 (kjB_X11_worst_62 hU hL hB K (fun _ _ _ _ _ _ _ _ hx K => hx K))) K
set_option maxRecDepth 20000 in
set_option maxHeartbeats 1000000 in
theorem kj_X11_worst_0 {L : List (Nat × Nat)} (hU : ∀ q ∈ L, q ∈ njT) (hL : ∀ q ∈ kjL_X11_worst, q ∈ L) {Q : Int32 → HS → Prop} {v0 : Nat} {v1 : Int32} {v2 : Int32} {v3 : Int32} {v4 : Int32} {S0 S : HS} (h : P_X11_worst_0 Q v0 v1 v2 v3 v4 S) (K : KJ L S0 S) : P_X11_worst_0 (fun r T => Q r T ∧ KJ L S0 T) v0 v1 v2 v3 v4 S := by
  delta P_X11_worst_0 at h ⊢
  obtain ⟨c1, h⟩ := h
  refine ⟨c1, ?_⟩
  have n2 := kj9_nk K c1 (by decide)
  have o3 := c1
  intro x5 e4
  have h := h x5 e4
  have K := kj9_I K e4 n2
  have o3 := ob_wI o3 e4
  refine cm_X11_isWalker (kj_X11_isWalker hU (fun q hq => hL q ((by decide : ∀ q ∈ kjL_X11_isWalker, q ∈ kjL_X11_worst) q hq)) h) h (fun x6 x7 p10 h g8 g9 => ?_)
  have h := h g8 g9
  have K := kj9_tr K p10.2
  have o3 := gr_ob p10.2.1 o3
  refine ⟨?_, ?_⟩
  · intro c11
    have h := h.1 c11
    exact kj_X11_worst_39 hU hL h K
  · intro c12
    have h := h.2 c12
    refine cm_X11_isRoad (kj_X11_isRoad hU (fun q hq => hL q ((by decide : ∀ q ∈ kjL_X11_isRoad, q ∈ kjL_X11_worst) q hq)) h) h (fun x13 x14 p17 h g15 g16 => ?_)
    have h := h g15 g16
    have K := kj9_tr K p17.2
    have o3 := gr_ob p17.2.1 o3
    refine ⟨?_, ?_⟩
    · intro c18
      have h := h.1 c18
      exact kj_X11_worst_39 hU hL h K
    · intro c19
      have h := h.2 c19
      refine cm_X11_in (kj_X11_in hU (fun q hq => hL q ((by decide : ∀ q ∈ kjL_X11_in, q ∈ kjL_X11_worst) q hq)) h) h (fun x20 x21 p24 h g22 g23 => ?_)
      have h := h g22 g23
      have K := kj9_tr K p24.2
      have o3 := gr_ob p24.2.1 o3
      refine ⟨?_, ?_⟩
      · intro c25
        have h := h.1 c25
        exact kj_X11_worst_39 hU hL h K
      · intro c26
        have h := h.2 c26
        refine cm_X11_isHour (kj_X11_isHour hU (fun q hq => hL q ((by decide : ∀ q ∈ kjL_X11_isHour, q ∈ kjL_X11_worst) q hq)) h) h (fun x27 x28 p31 h g29 g30 => ?_)
        have h := h g29 g30
        have K := kj9_tr K p31.2
        have o3 := gr_ob p31.2.1 o3
        refine ⟨?_, ?_⟩
        · intro c32
          have h := h.1 c32
          obtain ⟨b33, e34, h⟩ := h
          refine ⟨b33, e34, ?_⟩
          obtain ⟨c35, h⟩ := h
          refine ⟨c35, ?_⟩
          have o36 := c35
          obtain ⟨b37, e38, h⟩ := h
          refine ⟨b37, e38, ?_⟩
          obtain ⟨c39, h⟩ := h
          refine ⟨c39, ?_⟩
          obtain ⟨c40, h⟩ := h
          refine ⟨c40, ?_⟩
          intro x42 e41
          have h := h x42 e41
          intro x44 e43
          have h := h x44 e43
          exact kj_X11_worst_62 hU hL h K
        · intro c45
          have h := h.2 c45
          exact kj_X11_worst_39 hU hL h K
theorem kj_X11_worst {L : List (Nat × Nat)} (hU : ∀ q ∈ L, q ∈ njT) (hL : ∀ q ∈ kjL_X11_worst, q ∈ L) {Q : Int32 → HS → Prop} {v0 : Nat} {v1 : Int32} {v2 : Int32} {v3 : Int32} {v4 : Int32} {S : HS} (h : P_X11_worst v0 v1 v2 v3 v4 Q S) : P_X11_worst v0 v1 v2 v3 v4 (fun r T => Q r T ∧ KJ L S T) S := kj_X11_worst_0 hU hL h (kj9_rf L S)
abbrev kjL_X5_turnOf : List (Nat × Nat) := []
set_option maxRecDepth 20000 in
set_option maxHeartbeats 1000000 in
theorem kj_X5_turnOf_17 {L : List (Nat × Nat)} (hU : ∀ q ∈ L, q ∈ njT) (hL : ∀ q ∈ kjL_X5_turnOf, q ∈ L) {Q : Int32 → HS → Prop} {v2 : Nat} {s0 : Int32} {S0 S : HS} (h : P_X5_turnOf_17 Q v2 s0 S) (K : KJ L S0 S) : P_X5_turnOf_17 (fun r T => Q r T ∧ KJ L S0 T) v2 s0 S := by
  delta P_X5_turnOf_17 at h ⊢
  obtain ⟨c1, h⟩ := h
  refine ⟨c1, ?_⟩
  intro x3 e2
  have h := h x3 e2
  exact ⟨h, K⟩
set_option maxRecDepth 20000 in
set_option maxHeartbeats 1000000 in
theorem kj_X5_turnOf_0 {L : List (Nat × Nat)} (hU : ∀ q ∈ L, q ∈ njT) (hL : ∀ q ∈ kjL_X5_turnOf, q ∈ L) {Q : Int32 → HS → Prop} {v0 : Nat} {v1 : Int32} {v2 : Nat} {S0 S : HS} (h : P_X5_turnOf_0 Q v0 v1 v2 S) (K : KJ L S0 S) : P_X5_turnOf_0 (fun r T => Q r T ∧ KJ L S0 T) v0 v1 v2 S := by
  delta P_X5_turnOf_0 at h ⊢
  refine ⟨?_, ?_⟩
  · intro c1
    have h := h.1 c1
    obtain ⟨c2, h⟩ := h
    refine ⟨c2, ?_⟩
    intro x4 e3
    have h := h x4 e3
    exact kj_X5_turnOf_17 hU hL h K
  · intro c5
    have h := h.2 c5
    obtain ⟨c6, h⟩ := h
    refine ⟨c6, ?_⟩
    intro x8 e7
    have h := h x8 e7
    exact kj_X5_turnOf_17 hU hL h K
theorem kj_X5_turnOf {L : List (Nat × Nat)} (hU : ∀ q ∈ L, q ∈ njT) (hL : ∀ q ∈ kjL_X5_turnOf, q ∈ L) {Q : Int32 → HS → Prop} {v0 : Nat} {v1 : Int32} {v2 : Nat} {S : HS} (h : P_X5_turnOf v0 v1 v2 Q S) : P_X5_turnOf v0 v1 v2 (fun r T => Q r T ∧ KJ L S T) S := kj_X5_turnOf_0 hU hL h (kj9_rf L S)
abbrev kjL_X5_airAlong : List (Nat × Nat) := []
set_option maxRecDepth 20000 in
set_option maxHeartbeats 1000000 in
theorem kj_X5_airAlong_0 {L : List (Nat × Nat)} (hU : ∀ q ∈ L, q ∈ njT) (hL : ∀ q ∈ kjL_X5_airAlong, q ∈ L) {Q : Int32 → HS → Prop} {v0 : Nat} {v1 : Int32} {v2 : Nat} {S0 S : HS} (h : P_X5_airAlong_0 Q v0 v1 v2 S) (K : KJ L S0 S) : P_X5_airAlong_0 (fun r T => Q r T ∧ KJ L S0 T) v0 v1 v2 S := by
  delta P_X5_airAlong_0 at h ⊢
  obtain ⟨c1, h⟩ := h
  refine ⟨c1, ?_⟩
  refine cm_X5_turnOf (kj_X5_turnOf hU (fun q hq => hL q ((by decide : ∀ q ∈ kjL_X5_turnOf, q ∈ kjL_X5_airAlong) q hq)) h) h (fun x2 x3 p5 h g4 => ?_)
  have h := h g4
  have K := kj9_tr K p5.2
  refine ⟨?_, ?_⟩
  · intro c6
    have h := h.1 c6
    refine ⟨?_, ?_⟩
    · intro c7
      have h := h.1 c7
      exact ⟨h, K⟩
    · intro c8
      have h := h.2 c8
      obtain ⟨c9, h⟩ := h
      refine ⟨c9, ?_⟩
      intro x11 e10
      have h := h x11 e10
      exact ⟨h, K⟩
  · intro c12
    have h := h.2 c12
    obtain ⟨c13, h⟩ := h
    refine ⟨c13, ?_⟩
    intro x15 e14
    have h := h x15 e14
    exact ⟨h, K⟩
theorem kj_X5_airAlong {L : List (Nat × Nat)} (hU : ∀ q ∈ L, q ∈ njT) (hL : ∀ q ∈ kjL_X5_airAlong, q ∈ L) {Q : Int32 → HS → Prop} {v0 : Nat} {v1 : Int32} {v2 : Nat} {S : HS} (h : P_X5_airAlong v0 v1 v2 Q S) : P_X5_airAlong v0 v1 v2 (fun r T => Q r T ∧ KJ L S T) S := kj_X5_airAlong_0 hU hL h (kj9_rf L S)
abbrev kjL_X1_lay : List (Nat × Nat) := []
set_option maxRecDepth 20000 in
set_option maxHeartbeats 1000000 in
theorem kj_X1_lay_130 {L : List (Nat × Nat)} (hU : ∀ q ∈ L, q ∈ njT) (hL : ∀ q ∈ kjL_X1_lay, q ∈ L) {Q : HS → Prop} {v0 : Nat} {v3 : Nat} {v7 : Int64} {v9 : Int32} {s0 : Nat} {s1 : Int32} {s2 : Int64} {S0 S : HS} (h : P_X1_lay_130 Q v0 v3 v7 v9 s0 s1 s2 S) (K : KJ L S0 S) : P_X1_lay_130 (fun T => Q T ∧ KJ L S0 T) v0 v3 v7 v9 s0 s1 s2 S := by
  delta P_X1_lay_130 at h ⊢
  obtain ⟨c1, h⟩ := h
  refine ⟨c1, ?_⟩
  obtain ⟨c2, h⟩ := h
  refine ⟨c2, ?_⟩
  intro x4 e3
  have h := h x4 e3
  have K := kj9_J K e3
  obtain ⟨c5, h⟩ := h
  refine ⟨c5, ?_⟩
  obtain ⟨b6, e7, h⟩ := h
  refine ⟨b6, e7, ?_⟩
  refine ⟨?_, ?_⟩
  · intro c8
    have h := h.1 c8
    obtain ⟨c9, h⟩ := h
    refine ⟨c9, ?_⟩
    obtain ⟨c10, h⟩ := h
    refine ⟨c10, ?_⟩
    intro x12 e11
    have h := h x12 e11
    have K := kj9_J K e11
    exact ⟨h, K⟩
  · intro c13
    have h := h.2 c13
    obtain ⟨c14, h⟩ := h
    refine ⟨c14, ?_⟩
    intro x16 e15
    have h := h x16 e15
    obtain ⟨c17, h⟩ := h
    refine ⟨c17, ?_⟩
    intro x19 e18
    have h := h x19 e18
    obtain ⟨c20, h⟩ := h
    refine ⟨c20, ?_⟩
    intro x22 e21
    have h := h x22 e21
    have K := kj9_J K e21
    exact ⟨h, K⟩
set_option maxRecDepth 20000 in
set_option maxHeartbeats 1000000 in
theorem kj_X1_lay_27 {L : List (Nat × Nat)} (hU : ∀ q ∈ L, q ∈ njT) (hL : ∀ q ∈ kjL_X1_lay, q ∈ L) {Q : HS → Prop} {v0 : Nat} {v1 : Nat} {v2 : Int32} {v3 : Nat} {v4 : Int32} {s0 : Int64} {S0 S : HS} (h : P_X1_lay_27 Q v0 v1 v2 v3 v4 s0 S) (K : KJ L S0 S) : P_X1_lay_27 (fun T => Q T ∧ KJ L S0 T) v0 v1 v2 v3 v4 s0 S := by
  delta P_X1_lay_27 at h ⊢
  obtain ⟨c1, h⟩ := h
  refine ⟨c1, ?_⟩
  intro x3 e2
  have h := h x3 e2
  intro x5 e4
  have h := h x5 e4
  obtain ⟨c6, h⟩ := h
  refine ⟨c6, ?_⟩
  refine cm_X5_turnOf (kj_X5_turnOf hU (fun q hq => hL q ((by decide : ∀ q ∈ kjL_X5_turnOf, q ∈ kjL_X1_lay) q hq)) h) h (fun x7 x8 p10 h g9 => ?_)
  have h := h g9
  have K := kj9_tr K p10.2
  refine cm_X5_airAlong (kj_X5_airAlong hU (fun q hq => hL q ((by decide : ∀ q ∈ kjL_X5_airAlong, q ∈ kjL_X1_lay) q hq)) h) h (fun x11 x12 p14 h g13 => ?_)
  have h := h g13
  have K := kj9_tr K p14.2
  obtain ⟨c15, h⟩ := h
  refine ⟨c15, ?_⟩
  obtain ⟨b16, e17, h⟩ := h
  refine ⟨b16, e17, ?_⟩
  intro x19 e18
  have h := h x19 e18
  obtain ⟨c20, h⟩ := h
  refine ⟨c20, ?_⟩
  intro x22 e21
  have h := h x22 e21
  obtain ⟨c23, h⟩ := h
  refine ⟨c23, ?_⟩
  intro x25 e24
  have h := h x25 e24
  have K := kj9_J K e24
  obtain ⟨b26, e27, h⟩ := h
  refine ⟨b26, e27, ?_⟩
  intro x29 e28
  have h := h x29 e28
  obtain ⟨c30, h⟩ := h
  refine ⟨c30, ?_⟩
  intro x32 e31
  have h := h x32 e31
  obtain ⟨c33, h⟩ := h
  refine ⟨c33, ?_⟩
  intro x35 e34
  have h := h x35 e34
  have K := kj9_J K e34
  obtain ⟨b36, e37, h⟩ := h
  refine ⟨b36, e37, ?_⟩
  intro x39 e38
  have h := h x39 e38
  obtain ⟨c40, h⟩ := h
  refine ⟨c40, ?_⟩
  intro x42 e41
  have h := h x42 e41
  obtain ⟨c43, h⟩ := h
  refine ⟨c43, ?_⟩
  intro x45 e44
  have h := h x45 e44
  have K := kj9_J K e44
  obtain ⟨b46, e47, h⟩ := h
  refine ⟨b46, e47, ?_⟩
  refine ⟨?_, ?_⟩
  · intro c48
    have h := h.1 c48
    exact kj_X1_lay_130 hU hL h K
  · intro c49
    have h := h.2 c49
    intro x51 e50
    have h := h x51 e50
    exact kj_X1_lay_130 hU hL h K
set_option maxRecDepth 20000 in
set_option maxHeartbeats 1000000 in
theorem kj_X1_lay_0 {L : List (Nat × Nat)} (hU : ∀ q ∈ L, q ∈ njT) (hL : ∀ q ∈ kjL_X1_lay, q ∈ L) {Q : HS → Prop} {v0 : Nat} {v1 : Nat} {v2 : Int32} {v3 : Nat} {v4 : Int32} {S0 S : HS} (h : P_X1_lay_0 Q v0 v1 v2 v3 v4 S) (K : KJ L S0 S) : P_X1_lay_0 (fun T => Q T ∧ KJ L S0 T) v0 v1 v2 v3 v4 S := by
  delta P_X1_lay_0 at h ⊢
  refine ⟨?_, ?_⟩
  · intro c1
    have h := h.1 c1
    exact kj_X1_lay_27 hU hL h K
  · intro c2
    have h := h.2 c2
    obtain ⟨c3, h⟩ := h
    refine ⟨c3, ?_⟩
    intro x5 e4
    have h := h x5 e4
    intro x7 e6
    have h := h x7 e6
    obtain ⟨c8, h⟩ := h
    refine ⟨c8, ?_⟩
    intro x10 e9
    have h := h x10 e9
    exact kj_X1_lay_27 hU hL h K
theorem kj_X1_lay {L : List (Nat × Nat)} (hU : ∀ q ∈ L, q ∈ njT) (hL : ∀ q ∈ kjL_X1_lay, q ∈ L) {Q : HS → Prop} {v0 : Nat} {v1 : Nat} {v2 : Int32} {v3 : Nat} {v4 : Int32} {S : HS} (h : P_X1_lay v0 v1 v2 v3 v4 Q S) : P_X1_lay v0 v1 v2 v3 v4 (fun T => Q T ∧ KJ L S T) S := kj_X1_lay_0 hU hL h (kj9_rf L S)
abbrev kjL_X6_shield : List (Nat × Nat) := []
set_option maxRecDepth 20000 in
set_option maxHeartbeats 1000000 in
theorem kj_X6_shield_0 {L : List (Nat × Nat)} (hU : ∀ q ∈ L, q ∈ njT) (hL : ∀ q ∈ kjL_X6_shield, q ∈ L) {Q : Int32 → HS → Prop} {v0 : Nat} {S0 S : HS} (h : P_X6_shield_0 Q v0 S) (K : KJ L S0 S) : P_X6_shield_0 (fun r T => Q r T ∧ KJ L S0 T) v0 S := by
  delta P_X6_shield_0 at h ⊢
  obtain ⟨c1, h⟩ := h
  refine ⟨c1, ?_⟩
  intro x3 e2
  have h := h x3 e2
  refine ⟨?_, ?_⟩
  · intro c4
    have h := h.1 c4
    exact ⟨h, K⟩
  · intro c5
    have h := h.2 c5
    intro x7 e6
    have h := h x7 e6
    exact ⟨h, K⟩
theorem kj_X6_shield {L : List (Nat × Nat)} (hU : ∀ q ∈ L, q ∈ njT) (hL : ∀ q ∈ kjL_X6_shield, q ∈ L) {Q : Int32 → HS → Prop} {v0 : Nat} {S : HS} (h : P_X6_shield v0 Q S) : P_X6_shield v0 (fun r T => Q r T ∧ KJ L S T) S := kj_X6_shield_0 hU hL h (kj9_rf L S)
abbrev kjL_X1_isForward : List (Nat × Nat) := []
set_option maxRecDepth 20000 in
set_option maxHeartbeats 1000000 in
theorem kj_X1_isForward_0 {L : List (Nat × Nat)} (hU : ∀ q ∈ L, q ∈ njT) (hL : ∀ q ∈ kjL_X1_isForward, q ∈ L) {Q : Int32 → HS → Prop} {v0 : Nat} {v1 : Nat} {S0 S : HS} (h : P_X1_isForward_0 Q v0 v1 S) (K : KJ L S0 S) : P_X1_isForward_0 (fun r T => Q r T ∧ KJ L S0 T) v0 v1 S := by
  delta P_X1_isForward_0 at h ⊢
  obtain ⟨c1, h⟩ := h
  refine ⟨c1, ?_⟩
  obtain ⟨b2, e3, h⟩ := h
  refine ⟨b2, e3, ?_⟩
  obtain ⟨c4, h⟩ := h
  refine ⟨c4, ?_⟩
  obtain ⟨c5, h⟩ := h
  refine ⟨c5, ?_⟩
  intro x7 e6
  have h := h x7 e6
  obtain ⟨c8, h⟩ := h
  refine ⟨c8, ?_⟩
  refine cm_X6_shield (kj_X6_shield hU (fun q hq => hL q ((by decide : ∀ q ∈ kjL_X6_shield, q ∈ kjL_X1_isForward) q hq)) h) h (fun x9 x10 p12 h g11 => ?_)
  have h := h g11
  have K := kj9_tr K p12.2
  intro x14 e13
  have h := h x14 e13
  intro x16 e15
  have h := h x16 e15
  intro x18 e17
  have h := h x18 e17
  obtain ⟨b19, e20, h⟩ := h
  refine ⟨b19, e20, ?_⟩
  obtain ⟨c21, h⟩ := h
  refine ⟨c21, ?_⟩
  obtain ⟨c22, h⟩ := h
  refine ⟨c22, ?_⟩
  intro x24 e23
  have h := h x24 e23
  refine cm_X6_shield (kj_X6_shield hU (fun q hq => hL q ((by decide : ∀ q ∈ kjL_X6_shield, q ∈ kjL_X1_isForward) q hq)) h) h (fun x25 x26 p28 h g27 => ?_)
  have h := h g27
  have K := kj9_tr K p28.2
  intro x30 e29
  have h := h x30 e29
  intro x32 e31
  have h := h x32 e31
  intro x34 e33
  have h := h x34 e33
  refine ⟨?_, ?_⟩
  · intro c35
    have h := h.1 c35
    exact ⟨h, K⟩
  · intro c36
    have h := h.2 c36
    exact ⟨h, K⟩
theorem kj_X1_isForward {L : List (Nat × Nat)} (hU : ∀ q ∈ L, q ∈ njT) (hL : ∀ q ∈ kjL_X1_isForward, q ∈ L) {Q : Int32 → HS → Prop} {v0 : Nat} {v1 : Nat} {S : HS} (h : P_X1_isForward v0 v1 Q S) : P_X1_isForward v0 v1 (fun r T => Q r T ∧ KJ L S T) S := kj_X1_isForward_0 hU hL h (kj9_rf L S)
abbrev kjL_X1_soak : List (Nat × Nat) := []
set_option maxRecDepth 20000 in
set_option maxHeartbeats 1000000 in
theorem kj_X1_soak_35 {L : List (Nat × Nat)} (hU : ∀ q ∈ L, q ∈ njT) (hL : ∀ q ∈ kjL_X1_soak, q ∈ L) {Q : Int64 → HS → Prop} {v0 : Nat} {v1 : Nat} {v2 : Int32} {v3 : Int32} {v5 : Int32} {s0 : Int32} {S0 S : HS} (h : P_X1_soak_35 Q v0 v1 v2 v3 v5 s0 S) (K : KJ L S0 S) : P_X1_soak_35 (fun r T => Q r T ∧ KJ L S0 T) v0 v1 v2 v3 v5 s0 S := by
  delta P_X1_soak_35 at h ⊢
  obtain ⟨c1, h⟩ := h
  refine ⟨c1, ?_⟩
  obtain ⟨b2, e3, h⟩ := h
  refine ⟨b2, e3, ?_⟩
  obtain ⟨b4, e5, h⟩ := h
  refine ⟨b4, e5, ?_⟩
  obtain ⟨c6, h⟩ := h
  refine ⟨c6, ?_⟩
  obtain ⟨c7, h⟩ := h
  refine ⟨c7, ?_⟩
  intro x9 e8
  have h := h x9 e8
  obtain ⟨c10, h⟩ := h
  refine ⟨c10, ?_⟩
  intro x12 e11
  have h := h x12 e11
  intro x14 e13
  have h := h x14 e13
  obtain ⟨c15, h⟩ := h
  refine ⟨c15, ?_⟩
  intro x17 e16
  have h := h x17 e16
  obtain ⟨c18, h⟩ := h
  refine ⟨c18, ?_⟩
  intro x20 e19
  have h := h x20 e19
  have K := kj9_J K e19
  obtain ⟨b21, e22, h⟩ := h
  refine ⟨b21, e22, ?_⟩
  obtain ⟨b23, e24, h⟩ := h
  refine ⟨b23, e24, ?_⟩
  obtain ⟨c25, h⟩ := h
  refine ⟨c25, ?_⟩
  obtain ⟨c26, h⟩ := h
  refine ⟨c26, ?_⟩
  intro x28 e27
  have h := h x28 e27
  intro x30 e29
  have h := h x30 e29
  intro x32 e31
  have h := h x32 e31
  obtain ⟨c33, h⟩ := h
  refine ⟨c33, ?_⟩
  intro x35 e34
  have h := h x35 e34
  obtain ⟨c36, h⟩ := h
  refine ⟨c36, ?_⟩
  intro x38 e37
  have h := h x38 e37
  have K := kj9_J K e37
  obtain ⟨b39, e40, h⟩ := h
  refine ⟨b39, e40, ?_⟩
  obtain ⟨b41, e42, h⟩ := h
  refine ⟨b41, e42, ?_⟩
  obtain ⟨c43, h⟩ := h
  refine ⟨c43, ?_⟩
  obtain ⟨c44, h⟩ := h
  refine ⟨c44, ?_⟩
  intro x46 e45
  have h := h x46 e45
  intro x48 e47
  have h := h x48 e47
  intro x50 e49
  have h := h x50 e49
  obtain ⟨c51, h⟩ := h
  refine ⟨c51, ?_⟩
  intro x53 e52
  have h := h x53 e52
  obtain ⟨c54, h⟩ := h
  refine ⟨c54, ?_⟩
  intro x56 e55
  have h := h x56 e55
  have K := kj9_J K e55
  obtain ⟨b57, e58, h⟩ := h
  refine ⟨b57, e58, ?_⟩
  obtain ⟨b59, e60, h⟩ := h
  refine ⟨b59, e60, ?_⟩
  obtain ⟨c61, h⟩ := h
  refine ⟨c61, ?_⟩
  obtain ⟨c62, h⟩ := h
  refine ⟨c62, ?_⟩
  intro x64 e63
  have h := h x64 e63
  intro x66 e65
  have h := h x66 e65
  obtain ⟨c67, h⟩ := h
  refine ⟨c67, ?_⟩
  intro x69 e68
  have h := h x69 e68
  obtain ⟨c70, h⟩ := h
  refine ⟨c70, ?_⟩
  intro x72 e71
  have h := h x72 e71
  have K := kj9_J K e71
  obtain ⟨b73, e74, h⟩ := h
  refine ⟨b73, e74, ?_⟩
  obtain ⟨b75, e76, h⟩ := h
  refine ⟨b75, e76, ?_⟩
  obtain ⟨c77, h⟩ := h
  refine ⟨c77, ?_⟩
  obtain ⟨c78, h⟩ := h
  refine ⟨c78, ?_⟩
  intro x80 e79
  have h := h x80 e79
  intro x82 e81
  have h := h x82 e81
  obtain ⟨c83, h⟩ := h
  refine ⟨c83, ?_⟩
  intro x85 e84
  have h := h x85 e84
  obtain ⟨c86, h⟩ := h
  refine ⟨c86, ?_⟩
  intro x88 e87
  have h := h x88 e87
  have K := kj9_J K e87
  obtain ⟨b89, e90, h⟩ := h
  refine ⟨b89, e90, ?_⟩
  obtain ⟨c91, h⟩ := h
  refine ⟨c91, ?_⟩
  obtain ⟨c92, h⟩ := h
  refine ⟨c92, ?_⟩
  intro x94 e93
  have h := h x94 e93
  obtain ⟨b95, e96, h⟩ := h
  refine ⟨b95, e96, ?_⟩
  obtain ⟨c97, h⟩ := h
  refine ⟨c97, ?_⟩
  obtain ⟨c98, h⟩ := h
  refine ⟨c98, ?_⟩
  intro x100 e99
  have h := h x100 e99
  obtain ⟨b101, e102, h⟩ := h
  refine ⟨b101, e102, ?_⟩
  obtain ⟨c103, h⟩ := h
  refine ⟨c103, ?_⟩
  obtain ⟨c104, h⟩ := h
  refine ⟨c104, ?_⟩
  intro x106 e105
  have h := h x106 e105
  obtain ⟨b107, e108, h⟩ := h
  refine ⟨b107, e108, ?_⟩
  obtain ⟨c109, h⟩ := h
  refine ⟨c109, ?_⟩
  obtain ⟨c110, h⟩ := h
  refine ⟨c110, ?_⟩
  intro x112 e111
  have h := h x112 e111
  obtain ⟨b113, e114, h⟩ := h
  refine ⟨b113, e114, ?_⟩
  obtain ⟨c115, h⟩ := h
  refine ⟨c115, ?_⟩
  obtain ⟨c116, h⟩ := h
  refine ⟨c116, ?_⟩
  intro x118 e117
  have h := h x118 e117
  exact ⟨h, K⟩
set_option maxRecDepth 20000 in
set_option maxHeartbeats 1000000 in
theorem kj_X1_soak_20 {L : List (Nat × Nat)} (hU : ∀ q ∈ L, q ∈ njT) (hL : ∀ q ∈ kjL_X1_soak, q ∈ L) {Q : Int64 → HS → Prop} {v0 : Nat} {v1 : Nat} {v2 : Int32} {v3 : Int32} {v4 : Int32} {s0 : Int32} {S0 S : HS} (h : P_X1_soak_20 Q v0 v1 v2 v3 v4 s0 S) (K : KJ L S0 S) : P_X1_soak_20 (fun r T => Q r T ∧ KJ L S0 T) v0 v1 v2 v3 v4 s0 S := by
  delta P_X1_soak_20 at h ⊢
  refine ⟨?_, ?_⟩
  · intro c1
    have h := h.1 c1
    exact kj_X1_soak_35 hU hL h K
  · intro c2
    have h := h.2 c2
    obtain ⟨c3, h⟩ := h
    refine ⟨c3, ?_⟩
    refine cm_X6_shield (kj_X6_shield hU (fun q hq => hL q ((by decide : ∀ q ∈ kjL_X6_shield, q ∈ kjL_X1_soak) q hq)) h) h (fun x4 x5 p7 h g6 => ?_)
    have h := h g6
    have K := kj9_tr K p7.2
    exact kj_X1_soak_35 hU hL h K
set_option maxRecDepth 20000 in
set_option maxHeartbeats 1000000 in
theorem kj_X1_soak_0 {L : List (Nat × Nat)} (hU : ∀ q ∈ L, q ∈ njT) (hL : ∀ q ∈ kjL_X1_soak, q ∈ L) {Q : Int64 → HS → Prop} {v0 : Nat} {v1 : Nat} {v2 : Int32} {v3 : Int32} {S0 S : HS} (h : P_X1_soak_0 Q v0 v1 v2 v3 S) (K : KJ L S0 S) : P_X1_soak_0 (fun r T => Q r T ∧ KJ L S0 T) v0 v1 v2 v3 S := by
  delta P_X1_soak_0 at h ⊢
  obtain ⟨c1, h⟩ := h
  refine ⟨c1, ?_⟩
  refine cm_X1_isForward (kj_X1_isForward hU (fun q hq => hL q ((by decide : ∀ q ∈ kjL_X1_isForward, q ∈ kjL_X1_soak) q hq)) h) h (fun x2 x3 p6 h g4 g5 => ?_)
  have h := h g4 g5
  have K := kj9_tr K p6.2
  refine ⟨?_, ?_⟩
  · intro c7
    have h := h.1 c7
    obtain ⟨c8, h⟩ := h
    refine ⟨c8, ?_⟩
    refine cm_X6_shield (kj_X6_shield hU (fun q hq => hL q ((by decide : ∀ q ∈ kjL_X6_shield, q ∈ kjL_X1_soak) q hq)) h) h (fun x9 x10 p12 h g11 => ?_)
    have h := h g11
    have K := kj9_tr K p12.2
    exact kj_X1_soak_20 hU hL h K
  · intro c13
    have h := h.2 c13
    exact kj_X1_soak_20 hU hL h K
theorem kj_X1_soak {L : List (Nat × Nat)} (hU : ∀ q ∈ L, q ∈ njT) (hL : ∀ q ∈ kjL_X1_soak, q ∈ L) {Q : Int64 → HS → Prop} {v0 : Nat} {v1 : Nat} {v2 : Int32} {v3 : Int32} {S : HS} (h : P_X1_soak v0 v1 v2 v3 Q S) : P_X1_soak v0 v1 v2 v3 (fun r T => Q r T ∧ KJ L S T) S := kj_X1_soak_0 hU hL h (kj9_rf L S)
abbrev kjL_X1_wetOf : List (Nat × Nat) := []
set_option maxRecDepth 20000 in
set_option maxHeartbeats 1000000 in
theorem kj_X1_wetOf_0 {L : List (Nat × Nat)} (hU : ∀ q ∈ L, q ∈ njT) (hL : ∀ q ∈ kjL_X1_wetOf, q ∈ L) {Q : Int64 → HS → Prop} {v0 : Nat} {v1 : Nat} {v2 : Nat} {v3 : Int32} {v4 : Nat} {v5 : Int32} {S0 S : HS} (h : P_X1_wetOf_0 Q v0 v1 v2 v3 v4 v5 S) (K : KJ L S0 S) : P_X1_wetOf_0 (fun r T => Q r T ∧ KJ L S0 T) v0 v1 v2 v3 v4 v5 S := by
  delta P_X1_wetOf_0 at h ⊢
  obtain ⟨c1, h⟩ := h
  refine ⟨c1, ?_⟩
  refine cm_X1_lay (kj_X1_lay hU (fun q hq => hL q ((by decide : ∀ q ∈ kjL_X1_lay, q ∈ kjL_X1_wetOf) q hq)) h) h (fun x2 p4 h g3 => ?_)
  have h := h g3
  have K := kj9_tr K p4.2
  refine cm_X1_soak (kj_X1_soak hU (fun q hq => hL q ((by decide : ∀ q ∈ kjL_X1_soak, q ∈ kjL_X1_wetOf) q hq)) h) h (fun x5 x6 p8 h g7 => ?_)
  have h := h g7
  have K := kj9_tr K p8.2
  exact ⟨h, K⟩
theorem kj_X1_wetOf {L : List (Nat × Nat)} (hU : ∀ q ∈ L, q ∈ njT) (hL : ∀ q ∈ kjL_X1_wetOf, q ∈ L) {Q : Int64 → HS → Prop} {v0 : Nat} {v1 : Nat} {v2 : Nat} {v3 : Int32} {v4 : Nat} {v5 : Int32} {S : HS} (h : P_X1_wetOf v0 v1 v2 v3 v4 v5 Q S) : P_X1_wetOf v0 v1 v2 v3 v4 v5 (fun r T => Q r T ∧ KJ L S T) S := kj_X1_wetOf_0 hU hL h (kj9_rf L S)
abbrev kjL_X1_bestSpeed : List (Nat × Nat) := []
set_option maxRecDepth 20000 in
set_option maxHeartbeats 1000000 in
theorem kj_X1_bestSpeed_55 {L : List (Nat × Nat)} (hU : ∀ q ∈ L, q ∈ njT) (hL : ∀ q ∈ kjL_X1_bestSpeed, q ∈ L) {Q : Int32 → HS → Prop} {X17 X17_2 : Nat → Nat → Nat → Int32 → Nat → Int32 → Int64 → Int32 → HS → Prop} {v0 : Nat} {v1 : Nat} {v2 : Nat} {v3 : Int32} {v4 : Nat} {v5 : Int32} {v6 : Int64} {v8 : Int32} {S0 S : HS} (h : P_X1_bestSpeed_55 Q X17 v0 v1 v2 v3 v4 v5 v6 v8 S) (K : KJ L S0 S) (hX17 : ∀ (u0 : Nat) (u1 : Nat) (u2 : Nat) (u3 : Int32) (u4 : Nat) (u5 : Int32) (u6 : Int64) (u7 : Int32) (u8 : HS), X17 u0 u1 u2 u3 u4 u5 u6 u7 u8 → KJ L S0 u8 → X17_2 u0 u1 u2 u3 u4 u5 u6 u7 u8) : P_X1_bestSpeed_55 (fun r T => Q r T ∧ KJ L S0 T) X17_2 v0 v1 v2 v3 v4 v5 v6 v8 S := by
  delta P_X1_bestSpeed_55 at h ⊢
  intro x2 e1
  have h := h x2 e1
  exact hX17 _ _ _ _ _ _ _ _ _ h K
set_option maxRecDepth 20000 in
set_option maxHeartbeats 1000000 in
theorem kjB_X1_bestSpeed_17 {L : List (Nat × Nat)} (hU : ∀ q ∈ L, q ∈ njT) (hL : ∀ q ∈ kjL_X1_bestSpeed, q ∈ L) {Q : Int32 → HS → Prop} {X17 X17_2 : Nat → Nat → Nat → Int32 → Nat → Int32 → Int64 → Int32 → HS → Prop} {v0 : Nat} {v1 : Nat} {v2 : Nat} {v3 : Int32} {v4 : Nat} {v5 : Int32} {v6 : Int64} {v8 : Int32} {S0 S : HS} (h : B_X1_bestSpeed_17 Q X17 v0 v1 v2 v3 v4 v5 v6 v8 S) (K : KJ L S0 S) (hX17 : ∀ (u0 : Nat) (u1 : Nat) (u2 : Nat) (u3 : Int32) (u4 : Nat) (u5 : Int32) (u6 : Int64) (u7 : Int32) (u8 : HS), X17 u0 u1 u2 u3 u4 u5 u6 u7 u8 → KJ L S0 u8 → X17_2 u0 u1 u2 u3 u4 u5 u6 u7 u8) : B_X1_bestSpeed_17 (fun r T => Q r T ∧ KJ L S0 T) X17_2 v0 v1 v2 v3 v4 v5 v6 v8 S := by
  delta B_X1_bestSpeed_17 at h ⊢
  obtain ⟨c1, h⟩ := h
  refine ⟨c1, ?_⟩
  intro x3 e2
  have h := h x3 e2
  refine ⟨?_, ?_⟩
  · intro c4
    have h := h.1 c4
    exact ⟨h, K⟩
  · intro c5
    have h := h.2 c5
    obtain ⟨c6, h⟩ := h
    refine ⟨c6, ?_⟩
    refine cm_X1_wetOf (kj_X1_wetOf hU (fun q hq => hL q ((by decide : ∀ q ∈ kjL_X1_wetOf, q ∈ kjL_X1_bestSpeed) q hq)) h) h (fun x7 x8 p10 h g9 => ?_)
    have h := h g9
    have K := kj9_tr K p10.2
    refine ⟨?_, ?_⟩
    · intro c11
      have h := h.1 c11
      exact kj_X1_bestSpeed_55 hU hL h K hX17
    · intro c12
      have h := h.2 c12
      exact kj_X1_bestSpeed_55 hU hL h K hX17
theorem kj_X1_bestSpeed_17 {L : List (Nat × Nat)} (hU : ∀ q ∈ L, q ∈ njT) (hL : ∀ q ∈ kjL_X1_bestSpeed, q ∈ L) {Q : Int32 → HS → Prop} {v0 : Nat} {v1 : Nat} {v2 : Nat} {v3 : Int32} {v4 : Nat} {v5 : Int32} {v6 : Int64} {v8 : Int32} {S0 S : HS} (h : P_X1_bestSpeed_17 Q v0 v1 v2 v3 v4 v5 v6 v8 S) (K : KJ L S0 S) : P_X1_bestSpeed_17 (fun r T => Q r T ∧ KJ L S0 T) v0 v1 v2 v3 v4 v5 v6 v8 S := h (fun v0 v1 v2 v3 v4 v5 v6 v8 S => KJ L S0 S → P_X1_bestSpeed_17 (fun r T => Q r T ∧ KJ L S0 T) v0 v1 v2 v3 v4 v5 v6 v8 S) (fun v0 v1 v2 v3 v4 v5 v6 v8 S hB K => fd_X1_bestSpeed_17 (kjB_X1_bestSpeed_17 hU hL hB K (fun _ _ _ _ _ _ _ _ _ hx K => hx K))) K
set_option maxRecDepth 20000 in
set_option maxHeartbeats 1000000 in
theorem kj_X1_bestSpeed_0 {L : List (Nat × Nat)} (hU : ∀ q ∈ L, q ∈ njT) (hL : ∀ q ∈ kjL_X1_bestSpeed, q ∈ L) {Q : Int32 → HS → Prop} {v0 : Nat} {v1 : Nat} {v2 : Nat} {v3 : Int32} {v4 : Nat} {S0 S : HS} (h : P_X1_bestSpeed_0 Q v0 v1 v2 v3 v4 S) (K : KJ L S0 S) : P_X1_bestSpeed_0 (fun r T => Q r T ∧ KJ L S0 T) v0 v1 v2 v3 v4 S := by
  delta P_X1_bestSpeed_0 at h ⊢
  obtain ⟨c1, h⟩ := h
  refine ⟨c1, ?_⟩
  intro x3 e2
  have h := h x3 e2
  intro x5 e4
  have h := h x5 e4
  exact kj_X1_bestSpeed_17 hU hL h K
theorem kj_X1_bestSpeed {L : List (Nat × Nat)} (hU : ∀ q ∈ L, q ∈ njT) (hL : ∀ q ∈ kjL_X1_bestSpeed, q ∈ L) {Q : Int32 → HS → Prop} {v0 : Nat} {v1 : Nat} {v2 : Nat} {v3 : Int32} {v4 : Nat} {S : HS} (h : P_X1_bestSpeed v0 v1 v2 v3 v4 Q S) : P_X1_bestSpeed v0 v1 v2 v3 v4 (fun r T => Q r T ∧ KJ L S T) S := kj_X1_bestSpeed_0 hU hL h (kj9_rf L S)
abbrev kjL_X1_legsOf : List (Nat × Nat) := []
set_option maxRecDepth 20000 in
set_option maxHeartbeats 1000000 in
theorem kj_X1_legsOf_0 {L : List (Nat × Nat)} (hU : ∀ q ∈ L, q ∈ njT) (hL : ∀ q ∈ kjL_X1_legsOf, q ∈ L) {Q : Int32 → HS → Prop} {v0 : Nat} {S0 S : HS} (h : P_X1_legsOf_0 Q v0 S) (K : KJ L S0 S) : P_X1_legsOf_0 (fun r T => Q r T ∧ KJ L S0 T) v0 S := by
  delta P_X1_legsOf_0 at h ⊢
  obtain ⟨c1, h⟩ := h
  refine ⟨c1, ?_⟩
  intro x3 e2
  have h := h x3 e2
  intro x5 e4
  have h := h x5 e4
  exact ⟨h, K⟩
theorem kj_X1_legsOf {L : List (Nat × Nat)} (hU : ∀ q ∈ L, q ∈ njT) (hL : ∀ q ∈ kjL_X1_legsOf, q ∈ L) {Q : Int32 → HS → Prop} {v0 : Nat} {S : HS} (h : P_X1_legsOf v0 Q S) : P_X1_legsOf v0 (fun r T => Q r T ∧ KJ L S T) S := kj_X1_legsOf_0 hU hL h (kj9_rf L S)
abbrev kjL_X6_canGo : List (Nat × Nat) := []
set_option maxRecDepth 20000 in
set_option maxHeartbeats 1000000 in
theorem kj_X6_canGo_0 {L : List (Nat × Nat)} (hU : ∀ q ∈ L, q ∈ njT) (hL : ∀ q ∈ kjL_X6_canGo, q ∈ L) {Q : Int32 → HS → Prop} {v0 : Nat} {v1 : Int32} {S0 S : HS} (h : P_X6_canGo_0 Q v0 v1 S) (K : KJ L S0 S) : P_X6_canGo_0 (fun r T => Q r T ∧ KJ L S0 T) v0 v1 S := by
  delta P_X6_canGo_0 at h ⊢
  obtain ⟨c1, h⟩ := h
  refine ⟨c1, ?_⟩
  intro x3 e2
  have h := h x3 e2
  refine ⟨?_, ?_⟩
  · intro c4
    have h := h.1 c4
    exact ⟨h, K⟩
  · intro c5
    have h := h.2 c5
    intro x7 e6
    have h := h x7 e6
    refine ⟨?_, ?_⟩
    · intro c8
      have h := h.1 c8
      exact ⟨h, K⟩
    · intro c9
      have h := h.2 c9
      refine ⟨?_, ?_⟩
      · intro c10
        have h := h.1 c10
        exact ⟨h, K⟩
      · intro c11
        have h := h.2 c11
        refine ⟨?_, ?_⟩
        · intro c12
          have h := h.1 c12
          exact ⟨h, K⟩
        · intro c13
          have h := h.2 c13
          exact ⟨h, K⟩
theorem kj_X6_canGo {L : List (Nat × Nat)} (hU : ∀ q ∈ L, q ∈ njT) (hL : ∀ q ∈ kjL_X6_canGo, q ∈ L) {Q : Int32 → HS → Prop} {v0 : Nat} {v1 : Int32} {S : HS} (h : P_X6_canGo v0 v1 Q S) : P_X6_canGo v0 v1 (fun r T => Q r T ∧ KJ L S T) S := kj_X6_canGo_0 hU hL h (kj9_rf L S)
abbrev kjL_X8_hasRoad : List (Nat × Nat) := []
set_option maxRecDepth 20000 in
set_option maxHeartbeats 1000000 in
theorem kj_X8_hasRoad_0 {L : List (Nat × Nat)} (hU : ∀ q ∈ L, q ∈ njT) (hL : ∀ q ∈ kjL_X8_hasRoad, q ∈ L) {Q : Int32 → HS → Prop} {v0 : Nat} {v1 : Int32} {S0 S : HS} (h : P_X8_hasRoad_0 Q v0 v1 S) (K : KJ L S0 S) : P_X8_hasRoad_0 (fun r T => Q r T ∧ KJ L S0 T) v0 v1 S := by
  delta P_X8_hasRoad_0 at h ⊢
  refine ⟨?_, ?_⟩
  · intro c1
    have h := h.1 c1
    exact ⟨h, K⟩
  · intro c2
    have h := h.2 c2
    obtain ⟨c3, h⟩ := h
    refine ⟨c3, ?_⟩
    have o4 := c3
    intro x6 e5
    have h := h x6 e5
    refine ⟨?_, ?_⟩
    · intro c7
      have h := h.1 c7
      exact ⟨h, K⟩
    · intro c8
      have h := h.2 c8
      obtain ⟨b9, e10, h⟩ := h
      refine ⟨b9, e10, ?_⟩
      obtain ⟨c11, h⟩ := h
      refine ⟨c11, ?_⟩
      refine ⟨?_, ?_⟩
      · intro c12
        have h := h.1 c12
        exact ⟨h, K⟩
      · intro c13
        have h := h.2 c13
        exact ⟨h, K⟩
theorem kj_X8_hasRoad {L : List (Nat × Nat)} (hU : ∀ q ∈ L, q ∈ njT) (hL : ∀ q ∈ kjL_X8_hasRoad, q ∈ L) {Q : Int32 → HS → Prop} {v0 : Nat} {v1 : Int32} {S : HS} (h : P_X8_hasRoad v0 v1 Q S) : P_X8_hasRoad v0 v1 (fun r T => Q r T ∧ KJ L S T) S := kj_X8_hasRoad_0 hU hL h (kj9_rf L S)
abbrev kjL_X8_hasSeen : List (Nat × Nat) := []
set_option maxRecDepth 20000 in
set_option maxHeartbeats 1000000 in
theorem kj_X8_hasSeen_0 {L : List (Nat × Nat)} (hU : ∀ q ∈ L, q ∈ njT) (hL : ∀ q ∈ kjL_X8_hasSeen, q ∈ L) {Q : Int32 → HS → Prop} {v0 : Nat} {v1 : Int32} {S0 S : HS} (h : P_X8_hasSeen_0 Q v0 v1 S) (K : KJ L S0 S) : P_X8_hasSeen_0 (fun r T => Q r T ∧ KJ L S0 T) v0 v1 S := by
  delta P_X8_hasSeen_0 at h ⊢
  refine ⟨?_, ?_⟩
  · intro c1
    have h := h.1 c1
    exact ⟨h, K⟩
  · intro c2
    have h := h.2 c2
    obtain ⟨c3, h⟩ := h
    refine ⟨c3, ?_⟩
    have o4 := c3
    intro x6 e5
    have h := h x6 e5
    refine ⟨?_, ?_⟩
    · intro c7
      have h := h.1 c7
      exact ⟨h, K⟩
    · intro c8
      have h := h.2 c8
      obtain ⟨b9, e10, h⟩ := h
      refine ⟨b9, e10, ?_⟩
      obtain ⟨c11, h⟩ := h
      refine ⟨c11, ?_⟩
      refine ⟨?_, ?_⟩
      · intro c12
        have h := h.1 c12
        exact ⟨h, K⟩
      · intro c13
        have h := h.2 c13
        exact ⟨h, K⟩
theorem kj_X8_hasSeen {L : List (Nat × Nat)} (hU : ∀ q ∈ L, q ∈ njT) (hL : ∀ q ∈ kjL_X8_hasSeen, q ∈ L) {Q : Int32 → HS → Prop} {v0 : Nat} {v1 : Int32} {S : HS} (h : P_X8_hasSeen v0 v1 Q S) : P_X8_hasSeen v0 v1 (fun r T => Q r T ∧ KJ L S T) S := kj_X8_hasSeen_0 hU hL h (kj9_rf L S)
abbrev kjL_X8_hasWalker : List (Nat × Nat) := []
set_option maxRecDepth 20000 in
set_option maxHeartbeats 1000000 in
theorem kj_X8_hasWalker_0 {L : List (Nat × Nat)} (hU : ∀ q ∈ L, q ∈ njT) (hL : ∀ q ∈ kjL_X8_hasWalker, q ∈ L) {Q : Int32 → HS → Prop} {v0 : Nat} {v1 : Int32} {S0 S : HS} (h : P_X8_hasWalker_0 Q v0 v1 S) (K : KJ L S0 S) : P_X8_hasWalker_0 (fun r T => Q r T ∧ KJ L S0 T) v0 v1 S := by
  delta P_X8_hasWalker_0 at h ⊢
  refine ⟨?_, ?_⟩
  · intro c1
    have h := h.1 c1
    exact ⟨h, K⟩
  · intro c2
    have h := h.2 c2
    obtain ⟨c3, h⟩ := h
    refine ⟨c3, ?_⟩
    have o4 := c3
    intro x6 e5
    have h := h x6 e5
    refine ⟨?_, ?_⟩
    · intro c7
      have h := h.1 c7
      exact ⟨h, K⟩
    · intro c8
      have h := h.2 c8
      obtain ⟨b9, e10, h⟩ := h
      refine ⟨b9, e10, ?_⟩
      obtain ⟨c11, h⟩ := h
      refine ⟨c11, ?_⟩
      refine ⟨?_, ?_⟩
      · intro c12
        have h := h.1 c12
        exact ⟨h, K⟩
      · intro c13
        have h := h.2 c13
        exact ⟨h, K⟩
theorem kj_X8_hasWalker {L : List (Nat × Nat)} (hU : ∀ q ∈ L, q ∈ njT) (hL : ∀ q ∈ kjL_X8_hasWalker, q ∈ L) {Q : Int32 → HS → Prop} {v0 : Nat} {v1 : Int32} {S : HS} (h : P_X8_hasWalker v0 v1 Q S) : P_X8_hasWalker v0 v1 (fun r T => Q r T ∧ KJ L S T) S := kj_X8_hasWalker_0 hU hL h (kj9_rf L S)
abbrev kjL_X1_fitCode : List (Nat × Nat) := []
set_option maxRecDepth 20000 in
set_option maxHeartbeats 1000000 in
theorem kjB_X1_fitCode_141 {L : List (Nat × Nat)} (hU : ∀ q ∈ L, q ∈ njT) (hL : ∀ q ∈ kjL_X1_fitCode, q ∈ L) {Q : Int32 → HS → Prop} {X141 X141_2 : Nat → Nat → Int32 → Int32 → Int32 → Int32 → Int32 → HS → Prop} {v0 : Nat} {v1 : Nat} {v2 : Int32} {v4 : Int32} {v5 : Int32} {v6 : Int32} {v8 : Int32} {S0 S : HS} (h : B_X1_fitCode_141 Q X141 v0 v1 v2 v4 v5 v6 v8 S) (K : KJ L S0 S) (hX141 : ∀ (u0 : Nat) (u1 : Nat) (u2 : Int32) (u3 : Int32) (u4 : Int32) (u5 : Int32) (u6 : Int32) (u7 : HS), X141 u0 u1 u2 u3 u4 u5 u6 u7 → KJ L S0 u7 → X141_2 u0 u1 u2 u3 u4 u5 u6 u7) : B_X1_fitCode_141 (fun r T => Q r T ∧ KJ L S0 T) X141_2 v0 v1 v2 v4 v5 v6 v8 S := by
  delta B_X1_fitCode_141 at h ⊢
  refine ⟨?_, ?_⟩
  · intro c1
    have h := h.1 c1
    intro x3 e2
    have h := h x3 e2
    intro x5 e4
    have h := h x5 e4
    exact ⟨h, K⟩
  · intro c6
    have h := h.2 c6
    obtain ⟨c7, h⟩ := h
    refine ⟨c7, ?_⟩
    obtain ⟨b8, e9, h⟩ := h
    refine ⟨b8, e9, ?_⟩
    obtain ⟨c10, h⟩ := h
    refine ⟨c10, ?_⟩
    obtain ⟨c11, h⟩ := h
    refine ⟨c11, ?_⟩
    intro x13 e12
    have h := h x13 e12
    obtain ⟨c14, h⟩ := h
    refine ⟨c14, ?_⟩
    have o15 := c14
    obtain ⟨b16, e17, h⟩ := h
    refine ⟨b16, e17, ?_⟩
    obtain ⟨c18, h⟩ := h
    refine ⟨c18, ?_⟩
    intro x20 e19
    have h := h x20 e19
    obtain ⟨c21, h⟩ := h
    refine ⟨c21, ?_⟩
    intro x23 e22
    have h := h x23 e22
    refine ⟨?_, ?_⟩
    · intro c24
      have h := h.1 c24
      intro x26 e25
      have h := h x26 e25
      exact hX141 _ _ _ _ _ _ _ _ h K
    · intro c27
      have h := h.2 c27
      exact ⟨h, K⟩
theorem kj_X1_fitCode_141 {L : List (Nat × Nat)} (hU : ∀ q ∈ L, q ∈ njT) (hL : ∀ q ∈ kjL_X1_fitCode, q ∈ L) {Q : Int32 → HS → Prop} {v0 : Nat} {v1 : Nat} {v2 : Int32} {v4 : Int32} {v5 : Int32} {v6 : Int32} {v8 : Int32} {S0 S : HS} (h : P_X1_fitCode_141 Q v0 v1 v2 v4 v5 v6 v8 S) (K : KJ L S0 S) : P_X1_fitCode_141 (fun r T => Q r T ∧ KJ L S0 T) v0 v1 v2 v4 v5 v6 v8 S := h (fun v0 v1 v2 v4 v5 v6 v8 S => KJ L S0 S → P_X1_fitCode_141 (fun r T => Q r T ∧ KJ L S0 T) v0 v1 v2 v4 v5 v6 v8 S) (fun v0 v1 v2 v4 v5 v6 v8 S hB K => fd_X1_fitCode_141 (kjB_X1_fitCode_141 hU hL hB K (fun _ _ _ _ _ _ _ _ hx K => hx K))) K
set_option maxRecDepth 20000 in
set_option maxHeartbeats 1000000 in
theorem kj_X1_fitCode_0 {L : List (Nat × Nat)} (hU : ∀ q ∈ L, q ∈ njT) (hL : ∀ q ∈ kjL_X1_fitCode, q ∈ L) {Q : Int32 → HS → Prop} {v0 : Nat} {v1 : Nat} {v2 : Int32} {v3 : Int32} {S0 S : HS} (h : P_X1_fitCode_0 Q v0 v1 v2 v3 S) (K : KJ L S0 S) : P_X1_fitCode_0 (fun r T => Q r T ∧ KJ L S0 T) v0 v1 v2 v3 S := by
  delta P_X1_fitCode_0 at h ⊢
  refine ⟨?_, ?_⟩
  · intro c1
    have h := h.1 c1
    exact ⟨h, K⟩
  · intro c2
    have h := h.2 c2
    refine cm_X1_legsOf (kj_X1_legsOf hU (fun q hq => hL q ((by decide : ∀ q ∈ kjL_X1_legsOf, q ∈ kjL_X1_fitCode) q hq)) h) h (fun x3 x4 p6 h g5 => ?_)
    have h := h g5
    have K := kj9_tr K p6.2
    refine ⟨?_, ?_⟩
    · intro c7
      have h := h.1 c7
      exact ⟨h, K⟩
    · intro c8
      have h := h.2 c8
      obtain ⟨c9, h⟩ := h
      refine ⟨c9, ?_⟩
      have o10 := c9
      refine cm_X8_hasSeen (kj_X8_hasSeen hU (fun q hq => hL q ((by decide : ∀ q ∈ kjL_X8_hasSeen, q ∈ kjL_X1_fitCode) q hq)) h) h (fun x11 x12 p15 h g13 g14 => ?_)
      have h := h g13 g14
      have K := kj9_tr K p15.2
      have o10 := gr_ob p15.2.1 o10
      refine ⟨?_, ?_⟩
      · intro c16
        have h := h.1 c16
        exact ⟨h, K⟩
      · intro c17
        have h := h.2 c17
        intro x19 e18
        have h := h x19 e18
        refine ⟨?_, ?_⟩
        · intro c20
          have h := h.1 c20
          intro x22 e21
          have h := h x22 e21
          intro x24 e23
          have h := h x24 e23
          intro x26 e25
          have h := h x26 e25
          intro x28 e27
          have h := h x28 e27
          obtain ⟨c29, h⟩ := h
          refine ⟨c29, ?_⟩
          intro x31 e30
          have h := h x31 e30
          intro x33 e32
          have h := h x33 e32
          intro x35 e34
          have h := h x35 e34
          obtain ⟨c36, h⟩ := h
          refine ⟨c36, ?_⟩
          intro x38 e37
          have h := h x38 e37
          obtain ⟨b39, e40, h⟩ := h
          refine ⟨b39, e40, ?_⟩
          obtain ⟨c41, h⟩ := h
          refine ⟨c41, ?_⟩
          obtain ⟨c42, h⟩ := h
          refine ⟨c42, ?_⟩
          intro x44 e43
          have h := h x44 e43
          refine cm_X8_hasWalker (kj_X8_hasWalker hU (fun q hq => hL q ((by decide : ∀ q ∈ kjL_X8_hasWalker, q ∈ kjL_X1_fitCode) q hq)) h) h (fun x45 x46 p49 h g47 g48 => ?_)
          have h := h g47 g48
          have K := kj9_tr K p49.2
          have o10 := gr_ob p49.2.1 o10
          refine ⟨?_, ?_⟩
          · intro c50
            have h := h.1 c50
            exact ⟨h, K⟩
          · intro c51
            have h := h.2 c51
            intro x53 e52
            have h := h x53 e52
            refine cm_X8_hasRoad (kj_X8_hasRoad hU (fun q hq => hL q ((by decide : ∀ q ∈ kjL_X8_hasRoad, q ∈ kjL_X1_fitCode) q hq)) h) h (fun x54 x55 p58 h g56 g57 => ?_)
            have h := h g56 g57
            have K := kj9_tr K p58.2
            have o10 := gr_ob p58.2.1 o10
            refine ⟨?_, ?_⟩
            · intro c59
              have h := h.1 c59
              exact ⟨h, K⟩
            · intro c60
              have h := h.2 c60
              obtain ⟨b61, e62, h⟩ := h
              refine ⟨b61, e62, ?_⟩
              obtain ⟨c63, h⟩ := h
              refine ⟨c63, ?_⟩
              obtain ⟨c64, h⟩ := h
              refine ⟨c64, ?_⟩
              obtain ⟨b65, e66, h⟩ := h
              refine ⟨b65, e66, ?_⟩
              obtain ⟨c67, h⟩ := h
              refine ⟨c67, ?_⟩
              refine cm_X6_canGo (kj_X6_canGo hU (fun q hq => hL q ((by decide : ∀ q ∈ kjL_X6_canGo, q ∈ kjL_X1_fitCode) q hq)) h) h (fun x68 x69 p72 h g70 g71 => ?_)
              have h := h g70 g71
              have K := kj9_tr K p72.2
              have o10 := gr_ob p72.2.1 o10
              refine ⟨?_, ?_⟩
              · intro c73
                have h := h.1 c73
                obtain ⟨b74, e75, h⟩ := h
                refine ⟨b74, e75, ?_⟩
                obtain ⟨c76, h⟩ := h
                refine ⟨c76, ?_⟩
                obtain ⟨c77, h⟩ := h
                refine ⟨c77, ?_⟩
                obtain ⟨b78, e79, h⟩ := h
                refine ⟨b78, e79, ?_⟩
                obtain ⟨b80, e81, h⟩ := h
                refine ⟨b80, e81, ?_⟩
                intro x83 e82
                have h := h x83 e82
                obtain ⟨c84, h⟩ := h
                refine ⟨c84, ?_⟩
                obtain ⟨c85, h⟩ := h
                refine ⟨c85, ?_⟩
                obtain ⟨b86, e87, h⟩ := h
                refine ⟨b86, e87, ?_⟩
                intro x89 e88
                have h := h x89 e88
                obtain ⟨b90, e91, h⟩ := h
                refine ⟨b90, e91, ?_⟩
                obtain ⟨c92, h⟩ := h
                refine ⟨c92, ?_⟩
                obtain ⟨c93, h⟩ := h
                refine ⟨c93, ?_⟩
                obtain ⟨b94, e95, h⟩ := h
                refine ⟨b94, e95, ?_⟩
                obtain ⟨c96, h⟩ := h
                refine ⟨c96, ?_⟩
                refine cm_X1_wetOf (kj_X1_wetOf hU (fun q hq => hL q ((by decide : ∀ q ∈ kjL_X1_wetOf, q ∈ kjL_X1_fitCode) q hq)) h) h (fun x97 x98 p100 h g99 => ?_)
                have h := h g99
                have K := kj9_tr K p100.2
                have o10 := gr_ob p100.2.1 o10
                exact kj_X1_fitCode_141 hU hL h K
              · intro c101
                have h := h.2 c101
                exact ⟨h, K⟩
        · intro c102
          have h := h.2 c102
          exact ⟨h, K⟩
theorem kj_X1_fitCode {L : List (Nat × Nat)} (hU : ∀ q ∈ L, q ∈ njT) (hL : ∀ q ∈ kjL_X1_fitCode, q ∈ L) {Q : Int32 → HS → Prop} {v0 : Nat} {v1 : Nat} {v2 : Int32} {v3 : Int32} {S : HS} (h : P_X1_fitCode v0 v1 v2 v3 Q S) : P_X1_fitCode v0 v1 v2 v3 (fun r T => Q r T ∧ KJ L S T) S := kj_X1_fitCode_0 hU hL h (kj9_rf L S)
abbrev kjL_X1_countFits : List (Nat × Nat) := []
set_option maxRecDepth 20000 in
set_option maxHeartbeats 1000000 in
theorem kj_X1_countFits_29 {L : List (Nat × Nat)} (hU : ∀ q ∈ L, q ∈ njT) (hL : ∀ q ∈ kjL_X1_countFits, q ∈ L) {Q : Int32 → HS → Prop} {X5 X5_2 : Nat → Nat → Int32 → Int32 → Int32 → HS → Prop} {v0 : Nat} {v1 : Nat} {v2 : Int32} {v3 : Int32} {v4 : Int32} {S0 S : HS} (h : P_X1_countFits_29 Q X5 v0 v1 v2 v3 v4 S) (K : KJ L S0 S) (hX5 : ∀ (u0 : Nat) (u1 : Nat) (u2 : Int32) (u3 : Int32) (u4 : Int32) (u5 : HS), X5 u0 u1 u2 u3 u4 u5 → KJ L S0 u5 → X5_2 u0 u1 u2 u3 u4 u5) : P_X1_countFits_29 (fun r T => Q r T ∧ KJ L S0 T) X5_2 v0 v1 v2 v3 v4 S := by
  delta P_X1_countFits_29 at h ⊢
  intro x2 e1
  have h := h x2 e1
  exact hX5 _ _ _ _ _ _ h K
set_option maxRecDepth 20000 in
set_option maxHeartbeats 1000000 in
theorem kjB_X1_countFits_5 {L : List (Nat × Nat)} (hU : ∀ q ∈ L, q ∈ njT) (hL : ∀ q ∈ kjL_X1_countFits, q ∈ L) {Q : Int32 → HS → Prop} {X5 X5_2 : Nat → Nat → Int32 → Int32 → Int32 → HS → Prop} {v0 : Nat} {v1 : Nat} {v2 : Int32} {v3 : Int32} {v4 : Int32} {S0 S : HS} (h : B_X1_countFits_5 Q X5 v0 v1 v2 v3 v4 S) (K : KJ L S0 S) (hX5 : ∀ (u0 : Nat) (u1 : Nat) (u2 : Int32) (u3 : Int32) (u4 : Int32) (u5 : HS), X5 u0 u1 u2 u3 u4 u5 → KJ L S0 u5 → X5_2 u0 u1 u2 u3 u4 u5) : B_X1_countFits_5 (fun r T => Q r T ∧ KJ L S0 T) X5_2 v0 v1 v2 v3 v4 S := by
  delta B_X1_countFits_5 at h ⊢
  refine cm_X1_legsOf (kj_X1_legsOf hU (fun q hq => hL q ((by decide : ∀ q ∈ kjL_X1_legsOf, q ∈ kjL_X1_countFits) q hq)) h) h (fun x1 x2 p4 h g3 => ?_)
  have h := h g3
  have K := kj9_tr K p4.2
  refine ⟨?_, ?_⟩
  · intro c5
    have h := h.1 c5
    exact ⟨h, K⟩
  · intro c6
    have h := h.2 c6
    obtain ⟨c7, h⟩ := h
    refine ⟨c7, ?_⟩
    refine cm_X1_fitCode (kj_X1_fitCode hU (fun q hq => hL q ((by decide : ∀ q ∈ kjL_X1_fitCode, q ∈ kjL_X1_countFits) q hq)) h) h (fun x8 x9 p11 h g10 => ?_)
    have h := h g10
    have K := kj9_tr K p11.2
    refine ⟨?_, ?_⟩
    · intro c12
      have h := h.1 c12
      exact kj_X1_countFits_29 hU hL h K hX5
    · intro c13
      have h := h.2 c13
      intro x15 e14
      have h := h x15 e14
      exact kj_X1_countFits_29 hU hL h K hX5
theorem kj_X1_countFits_5 {L : List (Nat × Nat)} (hU : ∀ q ∈ L, q ∈ njT) (hL : ∀ q ∈ kjL_X1_countFits, q ∈ L) {Q : Int32 → HS → Prop} {v0 : Nat} {v1 : Nat} {v2 : Int32} {v3 : Int32} {v4 : Int32} {S0 S : HS} (h : P_X1_countFits_5 Q v0 v1 v2 v3 v4 S) (K : KJ L S0 S) : P_X1_countFits_5 (fun r T => Q r T ∧ KJ L S0 T) v0 v1 v2 v3 v4 S := h (fun v0 v1 v2 v3 v4 S => KJ L S0 S → P_X1_countFits_5 (fun r T => Q r T ∧ KJ L S0 T) v0 v1 v2 v3 v4 S) (fun v0 v1 v2 v3 v4 S hB K => fd_X1_countFits_5 (kjB_X1_countFits_5 hU hL hB K (fun _ _ _ _ _ _ hx K => hx K))) K
set_option maxRecDepth 20000 in
set_option maxHeartbeats 1000000 in
theorem kj_X1_countFits_0 {L : List (Nat × Nat)} (hU : ∀ q ∈ L, q ∈ njT) (hL : ∀ q ∈ kjL_X1_countFits, q ∈ L) {Q : Int32 → HS → Prop} {v0 : Nat} {v1 : Nat} {v2 : Int32} {S0 S : HS} (h : P_X1_countFits_0 Q v0 v1 v2 S) (K : KJ L S0 S) : P_X1_countFits_0 (fun r T => Q r T ∧ KJ L S0 T) v0 v1 v2 S := by
  delta P_X1_countFits_0 at h ⊢
  exact kj_X1_countFits_5 hU hL h K
theorem kj_X1_countFits {L : List (Nat × Nat)} (hU : ∀ q ∈ L, q ∈ njT) (hL : ∀ q ∈ kjL_X1_countFits, q ∈ L) {Q : Int32 → HS → Prop} {v0 : Nat} {v1 : Nat} {v2 : Int32} {S : HS} (h : P_X1_countFits v0 v1 v2 Q S) : P_X1_countFits v0 v1 v2 (fun r T => Q r T ∧ KJ L S T) S := kj_X1_countFits_0 hU hL h (kj9_rf L S)
abbrev kjL_X1_findFit : List (Nat × Nat) := []
set_option maxRecDepth 20000 in
set_option maxHeartbeats 1000000 in
theorem kj_X1_findFit_48 {L : List (Nat × Nat)} (hU : ∀ q ∈ L, q ∈ njT) (hL : ∀ q ∈ kjL_X1_findFit, q ∈ L) {Q : Int32 → HS → Prop} {X6 X6_2 : Nat → Nat → Int32 → Int32 → Int32 → HS → Prop} {v0 : Nat} {v1 : Nat} {v2 : Int32} {v4 : Int32} {v5 : Int32} {S0 S : HS} (h : P_X1_findFit_48 Q X6 v0 v1 v2 v4 v5 S) (K : KJ L S0 S) (hX6 : ∀ (u0 : Nat) (u1 : Nat) (u2 : Int32) (u3 : Int32) (u4 : Int32) (u5 : HS), X6 u0 u1 u2 u3 u4 u5 → KJ L S0 u5 → X6_2 u0 u1 u2 u3 u4 u5) : P_X1_findFit_48 (fun r T => Q r T ∧ KJ L S0 T) X6_2 v0 v1 v2 v4 v5 S := by
  delta P_X1_findFit_48 at h ⊢
  intro x2 e1
  have h := h x2 e1
  exact hX6 _ _ _ _ _ _ h K
set_option maxRecDepth 20000 in
set_option maxHeartbeats 1000000 in
theorem kj_X1_findFit_39 {L : List (Nat × Nat)} (hU : ∀ q ∈ L, q ∈ njT) (hL : ∀ q ∈ kjL_X1_findFit, q ∈ L) {Q : Int32 → HS → Prop} {X6 X6_2 : Nat → Nat → Int32 → Int32 → Int32 → HS → Prop} {v0 : Nat} {v1 : Nat} {v2 : Int32} {v4 : Int32} {v5 : Int32} {v6 : Int32} {S0 S : HS} (h : P_X1_findFit_39 Q X6 v0 v1 v2 v4 v5 v6 S) (K : KJ L S0 S) (hX6 : ∀ (u0 : Nat) (u1 : Nat) (u2 : Int32) (u3 : Int32) (u4 : Int32) (u5 : HS), X6 u0 u1 u2 u3 u4 u5 → KJ L S0 u5 → X6_2 u0 u1 u2 u3 u4 u5) : P_X1_findFit_39 (fun r T => Q r T ∧ KJ L S0 T) X6_2 v0 v1 v2 v4 v5 v6 S := by
  delta P_X1_findFit_39 at h ⊢
  refine ⟨?_, ?_⟩
  · intro c1
    have h := h.1 c1
    exact kj_X1_findFit_48 hU hL h K hX6
  · intro c2
    have h := h.2 c2
    intro x4 e3
    have h := h x4 e3
    exact kj_X1_findFit_48 hU hL h K hX6
set_option maxRecDepth 20000 in
set_option maxHeartbeats 1000000 in
theorem kjB_X1_findFit_6 {L : List (Nat × Nat)} (hU : ∀ q ∈ L, q ∈ njT) (hL : ∀ q ∈ kjL_X1_findFit, q ∈ L) {Q : Int32 → HS → Prop} {X6 X6_2 : Nat → Nat → Int32 → Int32 → Int32 → HS → Prop} {v0 : Nat} {v1 : Nat} {v2 : Int32} {v4 : Int32} {v5 : Int32} {S0 S : HS} (h : B_X1_findFit_6 Q X6 v0 v1 v2 v4 v5 S) (K : KJ L S0 S) (hX6 : ∀ (u0 : Nat) (u1 : Nat) (u2 : Int32) (u3 : Int32) (u4 : Int32) (u5 : HS), X6 u0 u1 u2 u3 u4 u5 → KJ L S0 u5 → X6_2 u0 u1 u2 u3 u4 u5) : B_X1_findFit_6 (fun r T => Q r T ∧ KJ L S0 T) X6_2 v0 v1 v2 v4 v5 S := by
  delta B_X1_findFit_6 at h ⊢
  refine cm_X1_legsOf (kj_X1_legsOf hU (fun q hq => hL q ((by decide : ∀ q ∈ kjL_X1_legsOf, q ∈ kjL_X1_findFit) q hq)) h) h (fun x1 x2 p4 h g3 => ?_)
  have h := h g3
  have K := kj9_tr K p4.2
  refine ⟨?_, ?_⟩
  · intro c5
    have h := h.1 c5
    exact ⟨h, K⟩
  · intro c6
    have h := h.2 c6
    obtain ⟨c7, h⟩ := h
    refine ⟨c7, ?_⟩
    refine cm_X1_fitCode (kj_X1_fitCode hU (fun q hq => hL q ((by decide : ∀ q ∈ kjL_X1_fitCode, q ∈ kjL_X1_findFit) q hq)) h) h (fun x8 x9 p11 h g10 => ?_)
    have h := h g10
    have K := kj9_tr K p11.2
    refine ⟨?_, ?_⟩
    · intro c12
      have h := h.1 c12
      exact kj_X1_findFit_39 hU hL h K hX6
    · intro c13
      have h := h.2 c13
      refine ⟨?_, ?_⟩
      · intro c14
        have h := h.1 c14
        exact kj_X1_findFit_39 hU hL h K hX6
      · intro c15
        have h := h.2 c15
        exact ⟨h, K⟩
theorem kj_X1_findFit_6 {L : List (Nat × Nat)} (hU : ∀ q ∈ L, q ∈ njT) (hL : ∀ q ∈ kjL_X1_findFit, q ∈ L) {Q : Int32 → HS → Prop} {v0 : Nat} {v1 : Nat} {v2 : Int32} {v4 : Int32} {v5 : Int32} {S0 S : HS} (h : P_X1_findFit_6 Q v0 v1 v2 v4 v5 S) (K : KJ L S0 S) : P_X1_findFit_6 (fun r T => Q r T ∧ KJ L S0 T) v0 v1 v2 v4 v5 S := h (fun v0 v1 v2 v4 v5 S => KJ L S0 S → P_X1_findFit_6 (fun r T => Q r T ∧ KJ L S0 T) v0 v1 v2 v4 v5 S) (fun v0 v1 v2 v4 v5 S hB K => fd_X1_findFit_6 (kjB_X1_findFit_6 hU hL hB K (fun _ _ _ _ _ _ hx K => hx K))) K
set_option maxRecDepth 20000 in
set_option maxHeartbeats 1000000 in
theorem kj_X1_findFit_0 {L : List (Nat × Nat)} (hU : ∀ q ∈ L, q ∈ njT) (hL : ∀ q ∈ kjL_X1_findFit, q ∈ L) {Q : Int32 → HS → Prop} {v0 : Nat} {v1 : Nat} {v2 : Int32} {v3 : Int32} {S0 S : HS} (h : P_X1_findFit_0 Q v0 v1 v2 v3 S) (K : KJ L S0 S) : P_X1_findFit_0 (fun r T => Q r T ∧ KJ L S0 T) v0 v1 v2 v3 S := by
  delta P_X1_findFit_0 at h ⊢
  exact kj_X1_findFit_6 hU hL h K
theorem kj_X1_findFit {L : List (Nat × Nat)} (hU : ∀ q ∈ L, q ∈ njT) (hL : ∀ q ∈ kjL_X1_findFit, q ∈ L) {Q : Int32 → HS → Prop} {v0 : Nat} {v1 : Nat} {v2 : Int32} {v3 : Int32} {S : HS} (h : P_X1_findFit v0 v1 v2 v3 Q S) : P_X1_findFit v0 v1 v2 v3 (fun r T => Q r T ∧ KJ L S T) S := kj_X1_findFit_0 hU hL h (kj9_rf L S)
abbrev kjL_X1_leastWet : List (Nat × Nat) := []
set_option maxRecDepth 20000 in
set_option maxHeartbeats 1000000 in
theorem kj_X1_leastWet_0 {L : List (Nat × Nat)} (hU : ∀ q ∈ L, q ∈ njT) (hL : ∀ q ∈ kjL_X1_leastWet, q ∈ L) {Q : Int64 → HS → Prop} {v0 : Nat} {v1 : Nat} {v2 : Nat} {v3 : Int32} {v4 : Nat} {S0 S : HS} (h : P_X1_leastWet_0 Q v0 v1 v2 v3 v4 S) (K : KJ L S0 S) : P_X1_leastWet_0 (fun r T => Q r T ∧ KJ L S0 T) v0 v1 v2 v3 v4 S := by
  delta P_X1_leastWet_0 at h ⊢
  obtain ⟨c1, h⟩ := h
  refine ⟨c1, ?_⟩
  refine cm_X1_bestSpeed (kj_X1_bestSpeed hU (fun q hq => hL q ((by decide : ∀ q ∈ kjL_X1_bestSpeed, q ∈ kjL_X1_leastWet) q hq)) h) h (fun x2 x3 p5 h g4 => ?_)
  have h := h g4
  have K := kj9_tr K p5.2
  refine cm_X1_wetOf (kj_X1_wetOf hU (fun q hq => hL q ((by decide : ∀ q ∈ kjL_X1_wetOf, q ∈ kjL_X1_leastWet) q hq)) h) h (fun x6 x7 p9 h g8 => ?_)
  have h := h g8
  have K := kj9_tr K p9.2
  exact ⟨h, K⟩
theorem kj_X1_leastWet {L : List (Nat × Nat)} (hU : ∀ q ∈ L, q ∈ njT) (hL : ∀ q ∈ kjL_X1_leastWet, q ∈ L) {Q : Int64 → HS → Prop} {v0 : Nat} {v1 : Nat} {v2 : Nat} {v3 : Int32} {v4 : Nat} {S : HS} (h : P_X1_leastWet v0 v1 v2 v3 v4 Q S) : P_X1_leastWet v0 v1 v2 v3 v4 (fun r T => Q r T ∧ KJ L S T) S := kj_X1_leastWet_0 hU hL h (kj9_rf L S)
abbrev kjL_X1_wetInLee : List (Nat × Nat) := []
set_option maxRecDepth 20000 in
set_option maxHeartbeats 1000000 in
theorem kj_X1_wetInLee_0 {L : List (Nat × Nat)} (hU : ∀ q ∈ L, q ∈ njT) (hL : ∀ q ∈ kjL_X1_wetInLee, q ∈ L) {Q : Int64 → HS → Prop} {v0 : Nat} {v1 : Nat} {v2 : Nat} {S0 S : HS} (h : P_X1_wetInLee_0 Q v0 v1 v2 S) (K : KJ L S0 S) : P_X1_wetInLee_0 (fun r T => Q r T ∧ KJ L S0 T) v0 v1 v2 S := by
  delta P_X1_wetInLee_0 at h ⊢
  obtain ⟨c1, h⟩ := h
  refine ⟨c1, ?_⟩
  intro x3 e2
  have h := h x3 e2
  obtain ⟨c4, h⟩ := h
  refine ⟨c4, ?_⟩
  refine cm_X1_soak (kj_X1_soak hU (fun q hq => hL q ((by decide : ∀ q ∈ kjL_X1_soak, q ∈ kjL_X1_wetInLee) q hq)) h) h (fun x5 x6 p8 h g7 => ?_)
  have h := h g7
  have K := kj9_tr K p8.2
  obtain ⟨c9, h⟩ := h
  refine ⟨c9, ?_⟩
  intro x11 e10
  have h := h x11 e10
  refine cm_X1_soak (kj_X1_soak hU (fun q hq => hL q ((by decide : ∀ q ∈ kjL_X1_soak, q ∈ kjL_X1_wetInLee) q hq)) h) h (fun x12 x13 p15 h g14 => ?_)
  have h := h g14
  have K := kj9_tr K p15.2
  exact ⟨h, K⟩
theorem kj_X1_wetInLee {L : List (Nat × Nat)} (hU : ∀ q ∈ L, q ∈ njT) (hL : ∀ q ∈ kjL_X1_wetInLee, q ∈ L) {Q : Int64 → HS → Prop} {v0 : Nat} {v1 : Nat} {v2 : Nat} {S : HS} (h : P_X1_wetInLee v0 v1 v2 Q S) : P_X1_wetInLee v0 v1 v2 (fun r T => Q r T ∧ KJ L S T) S := kj_X1_wetInLee_0 hU hL h (kj9_rf L S)
abbrev kjL_X1_worstSpeed : List (Nat × Nat) := []
set_option maxRecDepth 20000 in
set_option maxHeartbeats 1000000 in
theorem kj_X1_worstSpeed_55 {L : List (Nat × Nat)} (hU : ∀ q ∈ L, q ∈ njT) (hL : ∀ q ∈ kjL_X1_worstSpeed, q ∈ L) {Q : Int32 → HS → Prop} {X17 X17_2 : Nat → Nat → Nat → Int32 → Nat → Int32 → Int64 → Int32 → HS → Prop} {v0 : Nat} {v1 : Nat} {v2 : Nat} {v3 : Int32} {v4 : Nat} {v5 : Int32} {v6 : Int64} {v8 : Int32} {S0 S : HS} (h : P_X1_worstSpeed_55 Q X17 v0 v1 v2 v3 v4 v5 v6 v8 S) (K : KJ L S0 S) (hX17 : ∀ (u0 : Nat) (u1 : Nat) (u2 : Nat) (u3 : Int32) (u4 : Nat) (u5 : Int32) (u6 : Int64) (u7 : Int32) (u8 : HS), X17 u0 u1 u2 u3 u4 u5 u6 u7 u8 → KJ L S0 u8 → X17_2 u0 u1 u2 u3 u4 u5 u6 u7 u8) : P_X1_worstSpeed_55 (fun r T => Q r T ∧ KJ L S0 T) X17_2 v0 v1 v2 v3 v4 v5 v6 v8 S := by
  delta P_X1_worstSpeed_55 at h ⊢
  intro x2 e1
  have h := h x2 e1
  exact hX17 _ _ _ _ _ _ _ _ _ h K
set_option maxRecDepth 20000 in
set_option maxHeartbeats 1000000 in
theorem kjB_X1_worstSpeed_17 {L : List (Nat × Nat)} (hU : ∀ q ∈ L, q ∈ njT) (hL : ∀ q ∈ kjL_X1_worstSpeed, q ∈ L) {Q : Int32 → HS → Prop} {X17 X17_2 : Nat → Nat → Nat → Int32 → Nat → Int32 → Int64 → Int32 → HS → Prop} {v0 : Nat} {v1 : Nat} {v2 : Nat} {v3 : Int32} {v4 : Nat} {v5 : Int32} {v6 : Int64} {v8 : Int32} {S0 S : HS} (h : B_X1_worstSpeed_17 Q X17 v0 v1 v2 v3 v4 v5 v6 v8 S) (K : KJ L S0 S) (hX17 : ∀ (u0 : Nat) (u1 : Nat) (u2 : Nat) (u3 : Int32) (u4 : Nat) (u5 : Int32) (u6 : Int64) (u7 : Int32) (u8 : HS), X17 u0 u1 u2 u3 u4 u5 u6 u7 u8 → KJ L S0 u8 → X17_2 u0 u1 u2 u3 u4 u5 u6 u7 u8) : B_X1_worstSpeed_17 (fun r T => Q r T ∧ KJ L S0 T) X17_2 v0 v1 v2 v3 v4 v5 v6 v8 S := by
  delta B_X1_worstSpeed_17 at h ⊢
  obtain ⟨c1, h⟩ := h
  refine ⟨c1, ?_⟩
  intro x3 e2
  have h := h x3 e2
  refine ⟨?_, ?_⟩
  · intro c4
    have h := h.1 c4
    exact ⟨h, K⟩
  · intro c5
    have h := h.2 c5
    obtain ⟨c6, h⟩ := h
    refine ⟨c6, ?_⟩
    refine cm_X1_wetOf (kj_X1_wetOf hU (fun q hq => hL q ((by decide : ∀ q ∈ kjL_X1_wetOf, q ∈ kjL_X1_worstSpeed) q hq)) h) h (fun x7 x8 p10 h g9 => ?_)
    have h := h g9
    have K := kj9_tr K p10.2
    refine ⟨?_, ?_⟩
    · intro c11
      have h := h.1 c11
      exact kj_X1_worstSpeed_55 hU hL h K hX17
    · intro c12
      have h := h.2 c12
      exact kj_X1_worstSpeed_55 hU hL h K hX17
theorem kj_X1_worstSpeed_17 {L : List (Nat × Nat)} (hU : ∀ q ∈ L, q ∈ njT) (hL : ∀ q ∈ kjL_X1_worstSpeed, q ∈ L) {Q : Int32 → HS → Prop} {v0 : Nat} {v1 : Nat} {v2 : Nat} {v3 : Int32} {v4 : Nat} {v5 : Int32} {v6 : Int64} {v8 : Int32} {S0 S : HS} (h : P_X1_worstSpeed_17 Q v0 v1 v2 v3 v4 v5 v6 v8 S) (K : KJ L S0 S) : P_X1_worstSpeed_17 (fun r T => Q r T ∧ KJ L S0 T) v0 v1 v2 v3 v4 v5 v6 v8 S := h (fun v0 v1 v2 v3 v4 v5 v6 v8 S => KJ L S0 S → P_X1_worstSpeed_17 (fun r T => Q r T ∧ KJ L S0 T) v0 v1 v2 v3 v4 v5 v6 v8 S) (fun v0 v1 v2 v3 v4 v5 v6 v8 S hB K => fd_X1_worstSpeed_17 (kjB_X1_worstSpeed_17 hU hL hB K (fun _ _ _ _ _ _ _ _ _ hx K => hx K))) K
set_option maxRecDepth 20000 in
set_option maxHeartbeats 1000000 in
theorem kj_X1_worstSpeed_0 {L : List (Nat × Nat)} (hU : ∀ q ∈ L, q ∈ njT) (hL : ∀ q ∈ kjL_X1_worstSpeed, q ∈ L) {Q : Int32 → HS → Prop} {v0 : Nat} {v1 : Nat} {v2 : Nat} {v3 : Int32} {v4 : Nat} {S0 S : HS} (h : P_X1_worstSpeed_0 Q v0 v1 v2 v3 v4 S) (K : KJ L S0 S) : P_X1_worstSpeed_0 (fun r T => Q r T ∧ KJ L S0 T) v0 v1 v2 v3 v4 S := by
  delta P_X1_worstSpeed_0 at h ⊢
  obtain ⟨c1, h⟩ := h
  refine ⟨c1, ?_⟩
  intro x3 e2
  have h := h x3 e2
  intro x5 e4
  have h := h x5 e4
  exact kj_X1_worstSpeed_17 hU hL h K
theorem kj_X1_worstSpeed {L : List (Nat × Nat)} (hU : ∀ q ∈ L, q ∈ njT) (hL : ∀ q ∈ kjL_X1_worstSpeed, q ∈ L) {Q : Int32 → HS → Prop} {v0 : Nat} {v1 : Nat} {v2 : Nat} {v3 : Int32} {v4 : Nat} {S : HS} (h : P_X1_worstSpeed v0 v1 v2 v3 v4 Q S) : P_X1_worstSpeed v0 v1 v2 v3 v4 (fun r T => Q r T ∧ KJ L S T) S := kj_X1_worstSpeed_0 hU hL h (kj9_rf L S)
abbrev kjL_X2_addFaces : List (Nat × Nat) := []
set_option maxRecDepth 20000 in
set_option maxHeartbeats 1000000 in
theorem kjB_X2_addFaces_2 {L : List (Nat × Nat)} (hU : ∀ q ∈ L, q ∈ njT) (hL : ∀ q ∈ kjL_X2_addFaces, q ∈ L) {Q : HS → Prop} {X2 X2_2 : Nat → Nat → Int32 → HS → Prop} {v0 : Nat} {v1 : Nat} {v2 : Int32} {S0 S : HS} (h : B_X2_addFaces_2 Q X2 v0 v1 v2 S) (K : KJ L S0 S) (hX2 : ∀ (u0 : Nat) (u1 : Nat) (u2 : Int32) (u3 : HS), X2 u0 u1 u2 u3 → KJ L S0 u3 → X2_2 u0 u1 u2 u3) : B_X2_addFaces_2 (fun T => Q T ∧ KJ L S0 T) X2_2 v0 v1 v2 S := by
  delta B_X2_addFaces_2 at h ⊢
  refine ⟨?_, ?_⟩
  · intro c1
    have h := h.1 c1
    exact ⟨h, K⟩
  · intro c2
    have h := h.2 c2
    obtain ⟨c3, h⟩ := h
    refine ⟨c3, ?_⟩
    refine ⟨?_, ?_⟩
    · intro c4
      have h := h.1 c4
      exact ⟨h, K⟩
    · intro c5
      have h := h.2 c5
      obtain ⟨c6, h⟩ := h
      refine ⟨c6, ?_⟩
      obtain ⟨b7, e8, h⟩ := h
      refine ⟨b7, e8, ?_⟩
      obtain ⟨c9, h⟩ := h
      refine ⟨c9, ?_⟩
      obtain ⟨c10, h⟩ := h
      refine ⟨c10, ?_⟩
      intro x12 e11
      have h := h x12 e11
      obtain ⟨c13, h⟩ := h
      refine ⟨c13, ?_⟩
      intro x15 e14
      have h := h x15 e14
      intro x17 e16
      have h := h x17 e16
      obtain ⟨c18, h⟩ := h
      refine ⟨c18, ?_⟩
      intro x20 e19
      have h := h x20 e19
      have K := kj9_J K e19
      intro x22 e21
      have h := h x22 e21
      exact hX2 _ _ _ _ h K
theorem kj_X2_addFaces_2 {L : List (Nat × Nat)} (hU : ∀ q ∈ L, q ∈ njT) (hL : ∀ q ∈ kjL_X2_addFaces, q ∈ L) {Q : HS → Prop} {v0 : Nat} {v1 : Nat} {v2 : Int32} {S0 S : HS} (h : P_X2_addFaces_2 Q v0 v1 v2 S) (K : KJ L S0 S) : P_X2_addFaces_2 (fun T => Q T ∧ KJ L S0 T) v0 v1 v2 S := h (fun v0 v1 v2 S => KJ L S0 S → P_X2_addFaces_2 (fun T => Q T ∧ KJ L S0 T) v0 v1 v2 S) (fun v0 v1 v2 S hB K => fd_X2_addFaces_2 (kjB_X2_addFaces_2 hU hL hB K (fun _ _ _ _ hx K => hx K))) K
set_option maxRecDepth 20000 in
set_option maxHeartbeats 1000000 in
theorem kj_X2_addFaces_0 {L : List (Nat × Nat)} (hU : ∀ q ∈ L, q ∈ njT) (hL : ∀ q ∈ kjL_X2_addFaces, q ∈ L) {Q : HS → Prop} {v0 : Nat} {v1 : Nat} {S0 S : HS} (h : P_X2_addFaces_0 Q v0 v1 S) (K : KJ L S0 S) : P_X2_addFaces_0 (fun T => Q T ∧ KJ L S0 T) v0 v1 S := by
  delta P_X2_addFaces_0 at h ⊢
  exact kj_X2_addFaces_2 hU hL h K
theorem kj_X2_addFaces {L : List (Nat × Nat)} (hU : ∀ q ∈ L, q ∈ njT) (hL : ∀ q ∈ kjL_X2_addFaces, q ∈ L) {Q : HS → Prop} {v0 : Nat} {v1 : Nat} {S : HS} (h : P_X2_addFaces v0 v1 Q S) : P_X2_addFaces v0 v1 (fun T => Q T ∧ KJ L S T) S := kj_X2_addFaces_0 hU hL h (kj9_rf L S)
abbrev kjL_X2_allGot : List (Nat × Nat) := []
set_option maxRecDepth 20000 in
set_option maxHeartbeats 1000000 in
theorem kjB_X2_allGot_4 {L : List (Nat × Nat)} (hU : ∀ q ∈ L, q ∈ njT) (hL : ∀ q ∈ kjL_X2_allGot, q ∈ L) {Q : Int64 → HS → Prop} {X4 X4_2 : Nat → Int64 → Int32 → HS → Prop} {v0 : Nat} {v1 : Int64} {v3 : Int32} {S0 S : HS} (h : B_X2_allGot_4 Q X4 v0 v1 v3 S) (K : KJ L S0 S) (hX4 : ∀ (u0 : Nat) (u1 : Int64) (u2 : Int32) (u3 : HS), X4 u0 u1 u2 u3 → KJ L S0 u3 → X4_2 u0 u1 u2 u3) : B_X2_allGot_4 (fun r T => Q r T ∧ KJ L S0 T) X4_2 v0 v1 v3 S := by
  delta B_X2_allGot_4 at h ⊢
  refine ⟨?_, ?_⟩
  · intro c1
    have h := h.1 c1
    exact ⟨h, K⟩
  · intro c2
    have h := h.2 c2
    obtain ⟨c3, h⟩ := h
    refine ⟨c3, ?_⟩
    obtain ⟨b4, e5, h⟩ := h
    refine ⟨b4, e5, ?_⟩
    obtain ⟨c6, h⟩ := h
    refine ⟨c6, ?_⟩
    obtain ⟨c7, h⟩ := h
    refine ⟨c7, ?_⟩
    intro x9 e8
    have h := h x9 e8
    intro x11 e10
    have h := h x11 e10
    intro x13 e12
    have h := h x13 e12
    exact hX4 _ _ _ _ h K
theorem kj_X2_allGot_4 {L : List (Nat × Nat)} (hU : ∀ q ∈ L, q ∈ njT) (hL : ∀ q ∈ kjL_X2_allGot, q ∈ L) {Q : Int64 → HS → Prop} {v0 : Nat} {v1 : Int64} {v3 : Int32} {S0 S : HS} (h : P_X2_allGot_4 Q v0 v1 v3 S) (K : KJ L S0 S) : P_X2_allGot_4 (fun r T => Q r T ∧ KJ L S0 T) v0 v1 v3 S := h (fun v0 v1 v3 S => KJ L S0 S → P_X2_allGot_4 (fun r T => Q r T ∧ KJ L S0 T) v0 v1 v3 S) (fun v0 v1 v3 S hB K => fd_X2_allGot_4 (kjB_X2_allGot_4 hU hL hB K (fun _ _ _ _ hx K => hx K))) K
set_option maxRecDepth 20000 in
set_option maxHeartbeats 1000000 in
theorem kj_X2_allGot_0 {L : List (Nat × Nat)} (hU : ∀ q ∈ L, q ∈ njT) (hL : ∀ q ∈ kjL_X2_allGot, q ∈ L) {Q : Int64 → HS → Prop} {v0 : Nat} {S0 S : HS} (h : P_X2_allGot_0 Q v0 S) (K : KJ L S0 S) : P_X2_allGot_0 (fun r T => Q r T ∧ KJ L S0 T) v0 S := by
  delta P_X2_allGot_0 at h ⊢
  exact kj_X2_allGot_4 hU hL h K
theorem kj_X2_allGot {L : List (Nat × Nat)} (hU : ∀ q ∈ L, q ∈ njT) (hL : ∀ q ∈ kjL_X2_allGot, q ∈ L) {Q : Int64 → HS → Prop} {v0 : Nat} {S : HS} (h : P_X2_allGot v0 Q S) : P_X2_allGot v0 (fun r T => Q r T ∧ KJ L S T) S := kj_X2_allGot_0 hU hL h (kj9_rf L S)
abbrev kjL_X4_fail : List (Nat × Nat) := []
set_option maxRecDepth 20000 in
set_option maxHeartbeats 1000000 in
theorem kj_X4_fail_0 {L : List (Nat × Nat)} (hU : ∀ q ∈ L, q ∈ njT) (hL : ∀ q ∈ kjL_X4_fail, q ∈ L) {Q : Int32 → HS → Prop} {v0 : Nat} {v1 : Int32} {S0 S : HS} (h : P_X4_fail_0 Q v0 v1 S) (K : KJ L S0 S) : P_X4_fail_0 (fun r T => Q r T ∧ KJ L S0 T) v0 v1 S := by
  delta P_X4_fail_0 at h ⊢
  obtain ⟨c1, h⟩ := h
  refine ⟨c1, ?_⟩
  have n2 := kj9_nk K c1 (by decide)
  intro x4 e3
  have h := h x4 e3
  have K := kj9_I K e3 n2
  intro x6 e5
  have h := h x6 e5
  intro x8 e7
  have h := h x8 e7
  have K := kj9_I K e7 n2
  exact ⟨h, K⟩
theorem kj_X4_fail {L : List (Nat × Nat)} (hU : ∀ q ∈ L, q ∈ njT) (hL : ∀ q ∈ kjL_X4_fail, q ∈ L) {Q : Int32 → HS → Prop} {v0 : Nat} {v1 : Int32} {S : HS} (h : P_X4_fail v0 v1 Q S) : P_X4_fail v0 v1 (fun r T => Q r T ∧ KJ L S T) S := kj_X4_fail_0 hU hL h (kj9_rf L S)
abbrev kjL_X4_sortAt : List (Nat × Nat) := []
set_option maxRecDepth 20000 in
set_option maxHeartbeats 1000000 in
theorem kj_X4_sortAt_58 {L : List (Nat × Nat)} (hU : ∀ q ∈ L, q ∈ njT) (hL : ∀ q ∈ kjL_X4_sortAt, q ∈ L) {Q : Int32 → HS → Prop} {v2 : Int32} {S0 S : HS} (h : P_X4_sortAt_58 Q v2 S) (K : KJ L S0 S) : P_X4_sortAt_58 (fun r T => Q r T ∧ KJ L S0 T) v2 S := by
  delta P_X4_sortAt_58 at h ⊢
  refine ⟨?_, ?_, ?_, ?_⟩
  · intro c1
    have h := h.1 c1
    exact ⟨h, K⟩
  · intro c2
    have h := h.2.1 c2
    exact ⟨h, K⟩
  · intro c3
    have h := h.2.2.1 c3
    exact ⟨h, K⟩
  · intro c4
    have h := h.2.2.2 c4
    exact ⟨h, K⟩
set_option maxRecDepth 20000 in
set_option maxHeartbeats 1000000 in
theorem kj_X4_sortAt_44 {L : List (Nat × Nat)} (hU : ∀ q ∈ L, q ∈ njT) (hL : ∀ q ∈ kjL_X4_sortAt, q ∈ L) {Q : Int32 → HS → Prop} {v2 : Int32} {S0 S : HS} (h : P_X4_sortAt_44 Q v2 S) (K : KJ L S0 S) : P_X4_sortAt_44 (fun r T => Q r T ∧ KJ L S0 T) v2 S := by
  delta P_X4_sortAt_44 at h ⊢
  refine ⟨?_, ?_⟩
  · intro c1
    have h := h.1 c1
    exact kj_X4_sortAt_58 hU hL h K
  · intro c2
    have h := h.2 c2
    refine ⟨?_, ?_⟩
    · intro c3
      have h := h.1 c3
      exact kj_X4_sortAt_58 hU hL h K
    · intro c4
      have h := h.2 c4
      exact ⟨h, K⟩
set_option maxRecDepth 20000 in
set_option maxHeartbeats 1000000 in
theorem kj_X4_sortAt_0 {L : List (Nat × Nat)} (hU : ∀ q ∈ L, q ∈ njT) (hL : ∀ q ∈ kjL_X4_sortAt, q ∈ L) {Q : Int32 → HS → Prop} {v0 : Nat} {v1 : Int32} {S0 S : HS} (h : P_X4_sortAt_0 Q v0 v1 S) (K : KJ L S0 S) : P_X4_sortAt_0 (fun r T => Q r T ∧ KJ L S0 T) v0 v1 S := by
  delta P_X4_sortAt_0 at h ⊢
  refine ⟨?_, ?_⟩
  · intro c1
    have h := h.1 c1
    exact ⟨h, K⟩
  · intro c2
    have h := h.2 c2
    obtain ⟨c3, h⟩ := h
    refine ⟨c3, ?_⟩
    have o4 := c3
    intro x6 e5
    have h := h x6 e5
    refine ⟨?_, ?_⟩
    · intro c7
      have h := h.1 c7
      exact ⟨h, K⟩
    · intro c8
      have h := h.2 c8
      obtain ⟨b9, e10, h⟩ := h
      refine ⟨b9, e10, ?_⟩
      obtain ⟨c11, h⟩ := h
      refine ⟨c11, ?_⟩
      refine ⟨?_, ?_⟩
      · intro c12
        have h := h.1 c12
        obtain ⟨b13, e14, h⟩ := h
        refine ⟨b13, e14, ?_⟩
        obtain ⟨c15, h⟩ := h
        refine ⟨c15, ?_⟩
        obtain ⟨c16, h⟩ := h
        refine ⟨c16, ?_⟩
        intro x18 e17
        have h := h x18 e17
        refine ⟨?_, ?_⟩
        · intro c19
          have h := h.1 c19
          exact kj_X4_sortAt_44 hU hL h K
        · intro c20
          have h := h.2 c20
          refine ⟨?_, ?_⟩
          · intro c21
            have h := h.1 c21
            exact kj_X4_sortAt_44 hU hL h K
          · intro c22
            have h := h.2 c22
            exact ⟨h, K⟩
      · intro c23
        have h := h.2 c23
        exact ⟨h, K⟩
theorem kj_X4_sortAt {L : List (Nat × Nat)} (hU : ∀ q ∈ L, q ∈ njT) (hL : ∀ q ∈ kjL_X4_sortAt, q ∈ L) {Q : Int32 → HS → Prop} {v0 : Nat} {v1 : Int32} {S : HS} (h : P_X4_sortAt v0 v1 Q S) : P_X4_sortAt v0 v1 (fun r T => Q r T ∧ KJ L S T) S := kj_X4_sortAt_0 hU hL h (kj9_rf L S)
abbrev kjL_X4_next : List (Nat × Nat) := []
set_option maxRecDepth 20000 in
set_option maxHeartbeats 1000000 in
theorem kj_X4_next_201 {L : List (Nat × Nat)} (hU : ∀ q ∈ L, q ∈ njT) (hL : ∀ q ∈ kjL_X4_next, q ∈ L) {Q : HS → Prop} {X118 X118_2 : Nat → Int32 → Int32 → Int32 → Int32 → HS → Prop} {v0 : Nat} {v1 : Int32} {v2 : Int32} {v3 : Int32} {v4 : Int32} {S0 S : HS} (h : P_X4_next_201 Q X118 v0 v1 v2 v3 v4 S) (K : KJ L S0 S) (hX118 : ∀ (u0 : Nat) (u1 : Int32) (u2 : Int32) (u3 : Int32) (u4 : Int32) (u5 : HS), X118 u0 u1 u2 u3 u4 u5 → KJ L S0 u5 → X118_2 u0 u1 u2 u3 u4 u5) : P_X4_next_201 (fun T => Q T ∧ KJ L S0 T) X118_2 v0 v1 v2 v3 v4 S := by
  delta P_X4_next_201 at h ⊢
  obtain ⟨c1, h⟩ := h
  refine ⟨c1, ?_⟩
  have n2 := kj9_nk K c1 (by decide)
  intro x4 e3
  have h := h x4 e3
  intro x6 e5
  have h := h x6 e5
  intro x8 e7
  have h := h x8 e7
  have K := kj9_I K e7 n2
  intro x10 e9
  have h := h x10 e9
  exact hX118 _ _ _ _ _ _ h K
set_option maxRecDepth 20000 in
set_option maxHeartbeats 1000000 in
theorem kj_X4_next_195 {L : List (Nat × Nat)} (hU : ∀ q ∈ L, q ∈ njT) (hL : ∀ q ∈ kjL_X4_next, q ∈ L) {Q : HS → Prop} {X118 X118_2 : Nat → Int32 → Int32 → Int32 → Int32 → HS → Prop} {v0 : Nat} {v1 : Int32} {v2 : Int32} {v3 : Int32} {v4 : Int32} {s0 : Nat} {s1 : Int64} {s2 : Int32} {s3 : Int32} {S0 S : HS} (h : P_X4_next_195 Q X118 v0 v1 v2 v3 v4 s0 s1 s2 s3 S) (K : KJ L S0 S) (hX118 : ∀ (u0 : Nat) (u1 : Int32) (u2 : Int32) (u3 : Int32) (u4 : Int32) (u5 : HS), X118 u0 u1 u2 u3 u4 u5 → KJ L S0 u5 → X118_2 u0 u1 u2 u3 u4 u5) : P_X4_next_195 (fun T => Q T ∧ KJ L S0 T) X118_2 v0 v1 v2 v3 v4 s0 s1 s2 s3 S := by
  delta P_X4_next_195 at h ⊢
  obtain ⟨c1, h⟩ := h
  refine ⟨c1, ?_⟩
  intro x3 e2
  have h := h x3 e2
  intro x5 e4
  have h := h x5 e4
  have K := kj9_J K e4
  exact kj_X4_next_201 hU hL h K hX118
set_option maxRecDepth 20000 in
set_option maxHeartbeats 1000000 in
theorem kj_X4_next_240 {L : List (Nat × Nat)} (hU : ∀ q ∈ L, q ∈ njT) (hL : ∀ q ∈ kjL_X4_next, q ∈ L) {Q : HS → Prop} {v0 : Nat} {v1 : Int32} {S0 S : HS} (h : P_X4_next_240 Q v0 v1 S) (K : KJ L S0 S) : P_X4_next_240 (fun T => Q T ∧ KJ L S0 T) v0 v1 S := by
  delta P_X4_next_240 at h ⊢
  refine ⟨?_, ?_⟩
  · intro c1
    have h := h.1 c1
    exact ⟨h, K⟩
  · intro c2
    have h := h.2 c2
    obtain ⟨c3, h⟩ := h
    refine ⟨c3, ?_⟩
    have n4 := kj9_nk K c3 (by decide)
    intro x6 e5
    have h := h x6 e5
    refine ⟨?_, ?_⟩
    · intro c7
      have h := h.1 c7
      exact ⟨h, K⟩
    · intro c8
      have h := h.2 c8
      intro x10 e9
      have h := h x10 e9
      intro x12 e11
      have h := h x12 e11
      intro x14 e13
      have h := h x14 e13
      have K := kj9_I K e13 n4
      exact ⟨h, K⟩
set_option maxRecDepth 20000 in
set_option maxHeartbeats 1000000 in
theorem kj_X4_next_217 {L : List (Nat × Nat)} (hU : ∀ q ∈ L, q ∈ njT) (hL : ∀ q ∈ kjL_X4_next, q ∈ L) {Q : HS → Prop} {v0 : Nat} {v1 : Int32} {v2 : Int32} {S0 S : HS} (h : P_X4_next_217 Q v0 v1 v2 S) (K : KJ L S0 S) : P_X4_next_217 (fun T => Q T ∧ KJ L S0 T) v0 v1 v2 S := by
  delta P_X4_next_217 at h ⊢
  refine ⟨?_, ?_⟩
  · intro c1
    have h := h.1 c1
    exact kj_X4_next_240 hU hL h K
  · intro c2
    have h := h.2 c2
    obtain ⟨c3, h⟩ := h
    refine ⟨c3, ?_⟩
    have n4 := kj9_nk K c3 (by decide)
    intro x6 e5
    have h := h x6 e5
    intro x8 e7
    have h := h x8 e7
    refine ⟨?_, ?_⟩
    · intro c9
      have h := h.1 c9
      exact kj_X4_next_240 hU hL h K
    · intro c10
      have h := h.2 c10
      intro x12 e11
      have h := h x12 e11
      have K := kj9_I K e11 n4
      exact kj_X4_next_240 hU hL h K
set_option maxRecDepth 20000 in
set_option maxHeartbeats 1000000 in
theorem kjB_X4_next_118 {L : List (Nat × Nat)} (hU : ∀ q ∈ L, q ∈ njT) (hL : ∀ q ∈ kjL_X4_next, q ∈ L) {Q : HS → Prop} {X118 X118_2 : Nat → Int32 → Int32 → Int32 → Int32 → HS → Prop} {v0 : Nat} {v1 : Int32} {v2 : Int32} {v3 : Int32} {v4 : Int32} {S0 S : HS} (h : B_X4_next_118 Q X118 v0 v1 v2 v3 v4 S) (K : KJ L S0 S) (hX118 : ∀ (u0 : Nat) (u1 : Int32) (u2 : Int32) (u3 : Int32) (u4 : Int32) (u5 : HS), X118 u0 u1 u2 u3 u4 u5 → KJ L S0 u5 → X118_2 u0 u1 u2 u3 u4 u5) : B_X4_next_118 (fun T => Q T ∧ KJ L S0 T) X118_2 v0 v1 v2 v3 v4 S := by
  delta B_X4_next_118 at h ⊢
  refine ⟨?_, ?_⟩
  · intro c1
    have h := h.1 c1
    exact kj_X4_next_217 hU hL h K
  · intro c2
    have h := h.2 c2
    refine ⟨?_, ?_⟩
    · intro c3
      have h := h.1 c3
      exact kj_X4_next_217 hU hL h K
    · intro c4
      have h := h.2 c4
      obtain ⟨c5, h⟩ := h
      refine ⟨c5, ?_⟩
      have o6 := c5
      intro x8 e7
      have h := h x8 e7
      refine cm_X4_sortAt (kj_X4_sortAt hU (fun q hq => hL q ((by decide : ∀ q ∈ kjL_X4_sortAt, q ∈ kjL_X4_next) q hq)) h) h (fun x9 x10 p12 h g11 => ?_)
      have h := h g11
      have K := kj9_tr K p12.2
      have o6 := gr_ob p12.2.1 o6
      intro x14 e13
      have h := h x14 e13
      refine ⟨?_, ?_⟩
      · intro c15
        have h := h.1 c15
        exact kj_X4_next_217 hU hL h K
      · intro c16
        have h := h.2 c16
        refine ⟨?_, ?_⟩
        · intro c17
          have h := h.1 c17
          exact kj_X4_next_201 hU hL h K hX118
        · intro c18
          have h := h.2 c18
          intro x20 e19
          have h := h x20 e19
          obtain ⟨b21, e22, h⟩ := h
          refine ⟨b21, e22, ?_⟩
          obtain ⟨c23, h⟩ := h
          refine ⟨c23, ?_⟩
          refine ⟨?_, ?_⟩
          · intro c24
            have h := h.1 c24
            exact kj_X4_next_201 hU hL h K hX118
          · intro c25
            have h := h.2 c25
            intro x27 e26
            have h := h x27 e26
            obtain ⟨b28, e29, h⟩ := h
            refine ⟨b28, e29, ?_⟩
            intro x31 e30
            have h := h x31 e30
            obtain ⟨c32, h⟩ := h
            refine ⟨c32, ?_⟩
            obtain ⟨c33, h⟩ := h
            refine ⟨c33, ?_⟩
            intro x35 e34
            have h := h x35 e34
            intro x37 e36
            have h := h x37 e36
            refine ⟨?_, ?_⟩
            · intro c38
              have h := h.1 c38
              exact kj_X4_next_195 hU hL h K hX118
            · intro c39
              have h := h.2 c39
              exact kj_X4_next_195 hU hL h K hX118
theorem kj_X4_next_118 {L : List (Nat × Nat)} (hU : ∀ q ∈ L, q ∈ njT) (hL : ∀ q ∈ kjL_X4_next, q ∈ L) {Q : HS → Prop} {v0 : Nat} {v1 : Int32} {v2 : Int32} {v3 : Int32} {v4 : Int32} {S0 S : HS} (h : P_X4_next_118 Q v0 v1 v2 v3 v4 S) (K : KJ L S0 S) : P_X4_next_118 (fun T => Q T ∧ KJ L S0 T) v0 v1 v2 v3 v4 S := h (fun v0 v1 v2 v3 v4 S => KJ L S0 S → P_X4_next_118 (fun T => Q T ∧ KJ L S0 T) v0 v1 v2 v3 v4 S) (fun v0 v1 v2 v3 v4 S hB K => fd_X4_next_118 (kjB_X4_next_118 hU hL hB K (fun _ _ _ _ _ _ hx K => hx K))) K
set_option maxRecDepth 20000 in
set_option maxHeartbeats 1000000 in
theorem kj_X4_next_114 {L : List (Nat × Nat)} (hU : ∀ q ∈ L, q ∈ njT) (hL : ∀ q ∈ kjL_X4_next, q ∈ L) {Q : HS → Prop} {v0 : Nat} {v1 : Int32} {v2 : Int32} {s0 : Int32} {S0 S : HS} (h : P_X4_next_114 Q v0 v1 v2 s0 S) (K : KJ L S0 S) : P_X4_next_114 (fun T => Q T ∧ KJ L S0 T) v0 v1 v2 s0 S := by
  delta P_X4_next_114 at h ⊢
  exact kj_X4_next_118 hU hL h K
set_option maxRecDepth 20000 in
set_option maxHeartbeats 1000000 in
theorem kj_X4_next_98 {L : List (Nat × Nat)} (hU : ∀ q ∈ L, q ∈ njT) (hL : ∀ q ∈ kjL_X4_next, q ∈ L) {Q : HS → Prop} {v0 : Nat} {v1 : Int32} {s0 : Int32} {S0 S : HS} (h : P_X4_next_98 Q v0 v1 s0 S) (K : KJ L S0 S) : P_X4_next_98 (fun T => Q T ∧ KJ L S0 T) v0 v1 s0 S := by
  delta P_X4_next_98 at h ⊢
  obtain ⟨c1, h⟩ := h
  refine ⟨c1, ?_⟩
  intro x3 e2
  have h := h x3 e2
  refine ⟨?_, ?_⟩
  · intro c4
    have h := h.1 c4
    exact kj_X4_next_114 hU hL h K
  · intro c5
    have h := h.2 c5
    exact kj_X4_next_114 hU hL h K
set_option maxRecDepth 20000 in
set_option maxHeartbeats 1000000 in
theorem kj_X4_next_83 {L : List (Nat × Nat)} (hU : ∀ q ∈ L, q ∈ njT) (hL : ∀ q ∈ kjL_X4_next, q ∈ L) {Q : HS → Prop} {v0 : Nat} {s0 : Int32} {S0 S : HS} (h : P_X4_next_83 Q v0 s0 S) (K : KJ L S0 S) : P_X4_next_83 (fun T => Q T ∧ KJ L S0 T) v0 s0 S := by
  delta P_X4_next_83 at h ⊢
  obtain ⟨c1, h⟩ := h
  refine ⟨c1, ?_⟩
  intro x3 e2
  have h := h x3 e2
  refine ⟨?_, ?_⟩
  · intro c4
    have h := h.1 c4
    exact kj_X4_next_98 hU hL h K
  · intro c5
    have h := h.2 c5
    exact kj_X4_next_98 hU hL h K
set_option maxRecDepth 20000 in
set_option maxHeartbeats 1000000 in
theorem kj_X4_next_78 {L : List (Nat × Nat)} (hU : ∀ q ∈ L, q ∈ njT) (hL : ∀ q ∈ kjL_X4_next, q ∈ L) {Q : HS → Prop} {v0 : Nat} {S0 S : HS} (h : P_X4_next_78 Q v0 S) (K : KJ L S0 S) : P_X4_next_78 (fun T => Q T ∧ KJ L S0 T) v0 S := by
  delta P_X4_next_78 at h ⊢
  exact kj_X4_next_83 hU hL h K
set_option maxRecDepth 20000 in
set_option maxHeartbeats 1000000 in
theorem kj_X4_next_37 {L : List (Nat × Nat)} (hU : ∀ q ∈ L, q ∈ njT) (hL : ∀ q ∈ kjL_X4_next, q ∈ L) {Q : HS → Prop} {v0 : Nat} {S0 S : HS} (h : P_X4_next_37 Q v0 S) (K : KJ L S0 S) : P_X4_next_37 (fun T => Q T ∧ KJ L S0 T) v0 S := by
  delta P_X4_next_37 at h ⊢
  obtain ⟨c1, h⟩ := h
  refine ⟨c1, ?_⟩
  have n2 := kj9_nk K c1 (by decide)
  intro x4 e3
  have h := h x4 e3
  intro x6 e5
  have h := h x6 e5
  have K := kj9_I K e5 n2
  intro x8 e7
  have h := h x8 e7
  refine cm_X4_sortAt (kj_X4_sortAt hU (fun q hq => hL q ((by decide : ∀ q ∈ kjL_X4_sortAt, q ∈ kjL_X4_next) q hq)) h) h (fun x9 x10 p12 h g11 => ?_)
  have h := h g11
  have K := kj9_tr K p12.2
  intro x14 e13
  have h := h x14 e13
  have K := kj9_I K e13 n2
  intro x16 e15
  have h := h x16 e15
  have K := kj9_J K e15
  intro x18 e17
  have h := h x18 e17
  refine ⟨?_, ?_⟩
  · intro c19
    have h := h.1 c19
    exact kj_X4_next_78 hU hL h K
  · intro c20
    have h := h.2 c20
    intro x22 e21
    have h := h x22 e21
    refine ⟨?_, ?_⟩
    · intro c23
      have h := h.1 c23
      exact kj_X4_next_83 hU hL h K
    · intro c24
      have h := h.2 c24
      exact kj_X4_next_78 hU hL h K
set_option maxRecDepth 20000 in
set_option maxHeartbeats 1000000 in
theorem kjB_X4_next_2 {L : List (Nat × Nat)} (hU : ∀ q ∈ L, q ∈ njT) (hL : ∀ q ∈ kjL_X4_next, q ∈ L) {Q : HS → Prop} {X2 X2_2 : Nat → Int32 → HS → Prop} {v0 : Nat} {v1 : Int32} {S0 S : HS} (h : B_X4_next_2 Q X2 v0 v1 S) (K : KJ L S0 S) (hX2 : ∀ (u0 : Nat) (u1 : Int32) (u2 : HS), X2 u0 u1 u2 → KJ L S0 u2 → X2_2 u0 u1 u2) : B_X4_next_2 (fun T => Q T ∧ KJ L S0 T) X2_2 v0 v1 S := by
  delta B_X4_next_2 at h ⊢
  refine ⟨?_, ?_⟩
  · intro c1
    have h := h.1 c1
    exact kj_X4_next_37 hU hL h K
  · intro c2
    have h := h.2 c2
    obtain ⟨c3, h⟩ := h
    refine ⟨c3, ?_⟩
    have n4 := kj9_nk K c3 (by decide)
    intro x6 e5
    have h := h x6 e5
    refine cm_X4_sortAt (kj_X4_sortAt hU (fun q hq => hL q ((by decide : ∀ q ∈ kjL_X4_sortAt, q ∈ kjL_X4_next) q hq)) h) h (fun x7 x8 p10 h g9 => ?_)
    have h := h g9
    have K := kj9_tr K p10.2
    refine ⟨?_, ?_⟩
    · intro c11
      have h := h.1 c11
      exact kj_X4_next_37 hU hL h K
    · intro c12
      have h := h.2 c12
      intro x14 e13
      have h := h x14 e13
      intro x16 e15
      have h := h x16 e15
      intro x18 e17
      have h := h x18 e17
      have K := kj9_I K e17 n4
      intro x20 e19
      have h := h x20 e19
      exact hX2 _ _ _ h K
theorem kj_X4_next_2 {L : List (Nat × Nat)} (hU : ∀ q ∈ L, q ∈ njT) (hL : ∀ q ∈ kjL_X4_next, q ∈ L) {Q : HS → Prop} {v0 : Nat} {v1 : Int32} {S0 S : HS} (h : P_X4_next_2 Q v0 v1 S) (K : KJ L S0 S) : P_X4_next_2 (fun T => Q T ∧ KJ L S0 T) v0 v1 S := h (fun v0 v1 S => KJ L S0 S → P_X4_next_2 (fun T => Q T ∧ KJ L S0 T) v0 v1 S) (fun v0 v1 S hB K => fd_X4_next_2 (kjB_X4_next_2 hU hL hB K (fun _ _ _ hx K => hx K))) K
set_option maxRecDepth 20000 in
set_option maxHeartbeats 1000000 in
theorem kj_X4_next_0 {L : List (Nat × Nat)} (hU : ∀ q ∈ L, q ∈ njT) (hL : ∀ q ∈ kjL_X4_next, q ∈ L) {Q : HS → Prop} {v0 : Nat} {S0 S : HS} (h : P_X4_next_0 Q v0 S) (K : KJ L S0 S) : P_X4_next_0 (fun T => Q T ∧ KJ L S0 T) v0 S := by
  delta P_X4_next_0 at h ⊢
  exact kj_X4_next_2 hU hL h K
theorem kj_X4_next {L : List (Nat × Nat)} (hU : ∀ q ∈ L, q ∈ njT) (hL : ∀ q ∈ kjL_X4_next, q ∈ L) {Q : HS → Prop} {v0 : Nat} {S : HS} (h : P_X4_next v0 Q S) : P_X4_next v0 (fun T => Q T ∧ KJ L S T) S := kj_X4_next_0 hU hL h (kj9_rf L S)
abbrev kjL_X4_whole : List (Nat × Nat) := []
set_option maxRecDepth 20000 in
set_option maxHeartbeats 1000000 in
theorem kj_X4_whole_34 {L : List (Nat × Nat)} (hU : ∀ q ∈ L, q ∈ njT) (hL : ∀ q ∈ kjL_X4_whole, q ∈ L) {Q : Int32 → HS → Prop} {v0 : Nat} {S0 S : HS} (h : P_X4_whole_34 Q v0 S) (K : KJ L S0 S) : P_X4_whole_34 (fun r T => Q r T ∧ KJ L S0 T) v0 S := by
  delta P_X4_whole_34 at h ⊢
  obtain ⟨c1, h⟩ := h
  refine ⟨c1, ?_⟩
  refine cm_X4_fail (kj_X4_fail hU (fun q hq => hL q ((by decide : ∀ q ∈ kjL_X4_fail, q ∈ kjL_X4_whole) q hq)) h) h (fun x2 x3 p6 h g4 g5 => ?_)
  have h := h g4 g5
  have K := kj9_tr K p6.2
  obtain ⟨c7, h⟩ := h
  refine ⟨c7, ?_⟩
  exact ⟨h, K⟩
set_option maxRecDepth 20000 in
set_option maxHeartbeats 1000000 in
theorem kj_X4_whole_0 {L : List (Nat × Nat)} (hU : ∀ q ∈ L, q ∈ njT) (hL : ∀ q ∈ kjL_X4_whole, q ∈ L) {Q : Int32 → HS → Prop} {v0 : Nat} {v1 : Int32} {v2 : Int32} {S0 S : HS} (h : P_X4_whole_0 Q v0 v1 v2 S) (K : KJ L S0 S) : P_X4_whole_0 (fun r T => Q r T ∧ KJ L S0 T) v0 v1 v2 S := by
  delta P_X4_whole_0 at h ⊢
  obtain ⟨c1, h⟩ := h
  refine ⟨c1, ?_⟩
  have n2 := kj9_nk K c1 (by decide)
  intro x4 e3
  have h := h x4 e3
  refine ⟨?_, ?_⟩
  · intro c5
    have h := h.1 c5
    intro x7 e6
    have h := h x7 e6
    refine ⟨?_, ?_⟩
    · intro c8
      have h := h.1 c8
      exact kj_X4_whole_34 hU hL h K
    · intro c9
      have h := h.2 c9
      intro x11 e10
      have h := h x11 e10
      refine ⟨?_, ?_⟩
      · intro c12
        have h := h.1 c12
        intro x14 e13
        have h := h x14 e13
        intro x16 e15
        have h := h x16 e15
        intro x18 e17
        have h := h x18 e17
        have K := kj9_I K e17 n2
        refine cm_X4_next (kj_X4_next hU (fun q hq => hL q ((by decide : ∀ q ∈ kjL_X4_next, q ∈ kjL_X4_whole) q hq)) h) h (fun x19 p21 h g20 => ?_)
        have h := h g20
        have K := kj9_tr K p21.2
        exact ⟨h, K⟩
      · intro c22
        have h := h.2 c22
        exact kj_X4_whole_34 hU hL h K
  · intro c23
    have h := h.2 c23
    refine cm_X4_fail (kj_X4_fail hU (fun q hq => hL q ((by decide : ∀ q ∈ kjL_X4_fail, q ∈ kjL_X4_whole) q hq)) h) h (fun x24 x25 p28 h g26 g27 => ?_)
    have h := h g26 g27
    have K := kj9_tr K p28.2
    obtain ⟨c29, h⟩ := h
    refine ⟨c29, ?_⟩
    exact ⟨h, K⟩
theorem kj_X4_whole {L : List (Nat × Nat)} (hU : ∀ q ∈ L, q ∈ njT) (hL : ∀ q ∈ kjL_X4_whole, q ∈ L) {Q : Int32 → HS → Prop} {v0 : Nat} {v1 : Int32} {v2 : Int32} {S : HS} (h : P_X4_whole v0 v1 v2 Q S) : P_X4_whole v0 v1 v2 (fun r T => Q r T ∧ KJ L S T) S := kj_X4_whole_0 hU hL h (kj9_rf L S)
abbrev kjL_X4_is : List (Nat × Nat) := []
set_option maxRecDepth 20000 in
set_option maxHeartbeats 1000000 in
theorem kjB_X4_is_15 {L : List (Nat × Nat)} (hU : ∀ q ∈ L, q ∈ njT) (hL : ∀ q ∈ kjL_X4_is, q ∈ L) {Q : Int32 → HS → Prop} {X15 X15_2 : Nat → Nat → Int64 → Int32 → HS → Prop} {v0 : Nat} {v1 : Nat} {v2 : Int64} {v4 : Int32} {S0 S : HS} (h : B_X4_is_15 Q X15 v0 v1 v2 v4 S) (K : KJ L S0 S) (hX15 : ∀ (u0 : Nat) (u1 : Nat) (u2 : Int64) (u3 : Int32) (u4 : HS), X15 u0 u1 u2 u3 u4 → KJ L S0 u4 → X15_2 u0 u1 u2 u3 u4) : B_X4_is_15 (fun r T => Q r T ∧ KJ L S0 T) X15_2 v0 v1 v2 v4 S := by
  delta B_X4_is_15 at h ⊢
  obtain ⟨c1, h⟩ := h
  refine ⟨c1, ?_⟩
  intro x3 e2
  have h := h x3 e2
  refine ⟨?_, ?_⟩
  · intro c4
    have h := h.1 c4
    obtain ⟨c5, h⟩ := h
    refine ⟨c5, ?_⟩
    intro x7 e6
    have h := h x7 e6
    refine ⟨?_, ?_⟩
    · intro c8
      have h := h.1 c8
      exact ⟨h, K⟩
    · intro c9
      have h := h.2 c9
      exact ⟨h, K⟩
  · intro c10
    have h := h.2 c10
    obtain ⟨c11, h⟩ := h
    refine ⟨c11, ?_⟩
    obtain ⟨c12, h⟩ := h
    refine ⟨c12, ?_⟩
    intro x14 e13
    have h := h x14 e13
    intro x16 e15
    have h := h x16 e15
    intro x18 e17
    have h := h x18 e17
    exact hX15 _ _ _ _ _ h K
theorem kj_X4_is_15 {L : List (Nat × Nat)} (hU : ∀ q ∈ L, q ∈ njT) (hL : ∀ q ∈ kjL_X4_is, q ∈ L) {Q : Int32 → HS → Prop} {v0 : Nat} {v1 : Nat} {v2 : Int64} {v4 : Int32} {S0 S : HS} (h : P_X4_is_15 Q v0 v1 v2 v4 S) (K : KJ L S0 S) : P_X4_is_15 (fun r T => Q r T ∧ KJ L S0 T) v0 v1 v2 v4 S := h (fun v0 v1 v2 v4 S => KJ L S0 S → P_X4_is_15 (fun r T => Q r T ∧ KJ L S0 T) v0 v1 v2 v4 S) (fun v0 v1 v2 v4 S hB K => fd_X4_is_15 (kjB_X4_is_15 hU hL hB K (fun _ _ _ _ _ hx K => hx K))) K
set_option maxRecDepth 20000 in
set_option maxHeartbeats 1000000 in
theorem kj_X4_is_0 {L : List (Nat × Nat)} (hU : ∀ q ∈ L, q ∈ njT) (hL : ∀ q ∈ kjL_X4_is, q ∈ L) {Q : Int32 → HS → Prop} {v0 : Nat} {v1 : Nat} {S0 S : HS} (h : P_X4_is_0 Q v0 v1 S) (K : KJ L S0 S) : P_X4_is_0 (fun r T => Q r T ∧ KJ L S0 T) v0 v1 S := by
  delta P_X4_is_0 at h ⊢
  obtain ⟨c1, h⟩ := h
  refine ⟨c1, ?_⟩
  intro x3 e2
  have h := h x3 e2
  refine ⟨?_, ?_⟩
  · intro c4
    have h := h.1 c4
    exact kj_X4_is_15 hU hL h K
  · intro c5
    have h := h.2 c5
    exact ⟨h, K⟩
theorem kj_X4_is {L : List (Nat × Nat)} (hU : ∀ q ∈ L, q ∈ njT) (hL : ∀ q ∈ kjL_X4_is, q ∈ L) {Q : Int32 → HS → Prop} {v0 : Nat} {v1 : Nat} {S : HS} (h : P_X4_is v0 v1 Q S) : P_X4_is v0 v1 (fun r T => Q r T ∧ KJ L S T) S := kj_X4_is_0 hU hL h (kj9_rf L S)
abbrev kjL_X4_word : List (Nat × Nat) := []
set_option maxRecDepth 20000 in
set_option maxHeartbeats 1000000 in
theorem kj_X4_word_0 {L : List (Nat × Nat)} (hU : ∀ q ∈ L, q ∈ njT) (hL : ∀ q ∈ kjL_X4_word, q ∈ L) {Q : Int32 → HS → Prop} {v0 : Nat} {v1 : Nat} {S0 S : HS} (h : P_X4_word_0 Q v0 v1 S) (K : KJ L S0 S) : P_X4_word_0 (fun r T => Q r T ∧ KJ L S0 T) v0 v1 S := by
  delta P_X4_word_0 at h ⊢
  obtain ⟨c1, h⟩ := h
  refine ⟨c1, ?_⟩
  refine cm_X4_is (kj_X4_is hU (fun q hq => hL q ((by decide : ∀ q ∈ kjL_X4_is, q ∈ kjL_X4_word) q hq)) h) h (fun x2 x3 p6 h g4 g5 => ?_)
  have h := h g4 g5
  have K := kj9_tr K p6.2
  refine ⟨?_, ?_⟩
  · intro c7
    have h := h.1 c7
    refine cm_X4_next (kj_X4_next hU (fun q hq => hL q ((by decide : ∀ q ∈ kjL_X4_next, q ∈ kjL_X4_word) q hq)) h) h (fun x8 p10 h g9 => ?_)
    have h := h g9
    have K := kj9_tr K p10.2
    exact ⟨h, K⟩
  · intro c11
    have h := h.2 c11
    refine cm_X4_fail (kj_X4_fail hU (fun q hq => hL q ((by decide : ∀ q ∈ kjL_X4_fail, q ∈ kjL_X4_word) q hq)) h) h (fun x12 x13 p16 h g14 g15 => ?_)
    have h := h g14 g15
    have K := kj9_tr K p16.2
    obtain ⟨c17, h⟩ := h
    refine ⟨c17, ?_⟩
    exact ⟨h, K⟩
theorem kj_X4_word {L : List (Nat × Nat)} (hU : ∀ q ∈ L, q ∈ njT) (hL : ∀ q ∈ kjL_X4_word, q ∈ L) {Q : Int32 → HS → Prop} {v0 : Nat} {v1 : Nat} {S : HS} (h : P_X4_word v0 v1 Q S) : P_X4_word v0 v1 (fun r T => Q r T ∧ KJ L S T) S := kj_X4_word_0 hU hL h (kj9_rf L S)
abbrev kjL_X4_wordAndWhole : List (Nat × Nat) := []
set_option maxRecDepth 20000 in
set_option maxHeartbeats 1000000 in
theorem kj_X4_wordAndWhole_0 {L : List (Nat × Nat)} (hU : ∀ q ∈ L, q ∈ njT) (hL : ∀ q ∈ kjL_X4_wordAndWhole, q ∈ L) {Q : Int32 → HS → Prop} {v0 : Nat} {v1 : Nat} {v2 : Int32} {v3 : Int32} {S0 S : HS} (h : P_X4_wordAndWhole_0 Q v0 v1 v2 v3 S) (K : KJ L S0 S) : P_X4_wordAndWhole_0 (fun r T => Q r T ∧ KJ L S0 T) v0 v1 v2 v3 S := by
  delta P_X4_wordAndWhole_0 at h ⊢
  obtain ⟨c1, h⟩ := h
  refine ⟨c1, ?_⟩
  refine cm_X4_word (kj_X4_word hU (fun q hq => hL q ((by decide : ∀ q ∈ kjL_X4_word, q ∈ kjL_X4_wordAndWhole) q hq)) h) h (fun x2 x3 p6 h g4 g5 => ?_)
  have h := h g4 g5
  have K := kj9_tr K p6.2
  refine ⟨?_, ?_⟩
  · intro c7
    have h := h.1 c7
    exact ⟨h, K⟩
  · intro c8
    have h := h.2 c8
    refine cm_X4_whole (kj_X4_whole hU (fun q hq => hL q ((by decide : ∀ q ∈ kjL_X4_whole, q ∈ kjL_X4_wordAndWhole) q hq)) h) h (fun x9 x10 p13 h g11 g12 => ?_)
    have h := h g11 g12
    have K := kj9_tr K p13.2
    refine ⟨?_, ?_⟩
    · intro c14
      have h := h.1 c14
      exact ⟨h, K⟩
    · intro c15
      have h := h.2 c15
      exact ⟨h, K⟩
theorem kj_X4_wordAndWhole {L : List (Nat × Nat)} (hU : ∀ q ∈ L, q ∈ njT) (hL : ∀ q ∈ kjL_X4_wordAndWhole, q ∈ L) {Q : Int32 → HS → Prop} {v0 : Nat} {v1 : Nat} {v2 : Int32} {v3 : Int32} {S : HS} (h : P_X4_wordAndWhole v0 v1 v2 v3 Q S) : P_X4_wordAndWhole v0 v1 v2 v3 (fun r T => Q r T ∧ KJ L S T) S := kj_X4_wordAndWhole_0 hU hL h (kj9_rf L S)
abbrev kjL_X6_shape : List (Nat × Nat) := []
set_option maxRecDepth 20000 in
set_option maxHeartbeats 1000000 in
theorem kj_X6_shape_16 {L : List (Nat × Nat)} (hU : ∀ q ∈ L, q ∈ njT) (hL : ∀ q ∈ kjL_X6_shape, q ∈ L) {Q : HS → Prop} {v0 : Nat} {v1 : Int32} {v2 : Int32} {v3 : Int32} {s0 : Int32} {S0 S : HS} (h : P_X6_shape_16 Q v0 v1 v2 v3 s0 S) (K : KJ L S0 S) : P_X6_shape_16 (fun T => Q T ∧ KJ L S0 T) v0 v1 v2 v3 s0 S := by
  delta P_X6_shape_16 at h ⊢
  obtain ⟨c1, h⟩ := h
  refine ⟨c1, ?_⟩
  have n2 := kj9_nk K c1 (by decide)
  intro x4 e3
  have h := h x4 e3
  intro x6 e5
  have h := h x6 e5
  have K := kj9_I K e5 n2
  intro x8 e7
  have h := h x8 e7
  intro x10 e9
  have h := h x10 e9
  have K := kj9_I K e9 n2
  intro x12 e11
  have h := h x12 e11
  intro x14 e13
  have h := h x14 e13
  have K := kj9_I K e13 n2
  exact ⟨h, K⟩
set_option maxRecDepth 20000 in
set_option maxHeartbeats 1000000 in
theorem kj_X6_shape_0 {L : List (Nat × Nat)} (hU : ∀ q ∈ L, q ∈ njT) (hL : ∀ q ∈ kjL_X6_shape, q ∈ L) {Q : HS → Prop} {v0 : Nat} {v1 : Int32} {v2 : Int32} {v3 : Int32} {S0 S : HS} (h : P_X6_shape_0 Q v0 v1 v2 v3 S) (K : KJ L S0 S) : P_X6_shape_0 (fun T => Q T ∧ KJ L S0 T) v0 v1 v2 v3 S := by
  delta P_X6_shape_0 at h ⊢
  obtain ⟨c1, h⟩ := h
  refine ⟨c1, ?_⟩
  intro x3 e2
  have h := h x3 e2
  refine ⟨?_, ?_⟩
  · intro c4
    have h := h.1 c4
    exact kj_X6_shape_16 hU hL h K
  · intro c5
    have h := h.2 c5
    intro x7 e6
    have h := h x7 e6
    exact kj_X6_shape_16 hU hL h K
theorem kj_X6_shape {L : List (Nat × Nat)} (hU : ∀ q ∈ L, q ∈ njT) (hL : ∀ q ∈ kjL_X6_shape, q ∈ L) {Q : HS → Prop} {v0 : Nat} {v1 : Int32} {v2 : Int32} {v3 : Int32} {S : HS} (h : P_X6_shape v0 v1 v2 v3 Q S) : P_X6_shape v0 v1 v2 v3 (fun T => Q T ∧ KJ L S T) S := kj_X6_shape_0 hU hL h (kj9_rf L S)
abbrev kjL_X4_bodyOf : List (Nat × Nat) := []
set_option maxRecDepth 20000 in
set_option maxHeartbeats 1000000 in
theorem kj_X4_bodyOf_58 {L : List (Nat × Nat)} (hU : ∀ q ∈ L, q ∈ njT) (hL : ∀ q ∈ kjL_X4_bodyOf, q ∈ L) {Q : Int32 → HS → Prop} {v0 : Nat} {v1 : Nat} {v2 : Int32} {v3 : Int32} {s0 : Int32} {S0 S : HS} (h : P_X4_bodyOf_58 Q v0 v1 v2 v3 s0 S) (K : KJ L S0 S) : P_X4_bodyOf_58 (fun r T => Q r T ∧ KJ L S0 T) v0 v1 v2 v3 s0 S := by
  delta P_X4_bodyOf_58 at h ⊢
  obtain ⟨c1, h⟩ := h
  refine ⟨c1, ?_⟩
  refine cm_X4_wordAndWhole (kj_X4_wordAndWhole hU (fun q hq => hL q ((by decide : ∀ q ∈ kjL_X4_wordAndWhole, q ∈ kjL_X4_bodyOf) q hq)) h) h (fun x2 x3 p6 h g4 g5 => ?_)
  have h := h g4 g5
  have K := kj9_tr K p6.2
  refine ⟨?_, ?_⟩
  · intro c7
    have h := h.1 c7
    intro x9 e8
    have h := h x9 e8
    obtain ⟨c10, h⟩ := h
    refine ⟨c10, ?_⟩
    refine cm_X6_shape (kj_X6_shape hU (fun q hq => hL q ((by decide : ∀ q ∈ kjL_X6_shape, q ∈ kjL_X4_bodyOf) q hq)) h) h (fun x11 p13 h g12 => ?_)
    have h := h g12
    have K := kj9_tr K p13.2
    exact ⟨h, K⟩
  · intro c14
    have h := h.2 c14
    exact ⟨h, K⟩
set_option maxRecDepth 20000 in
set_option maxHeartbeats 1000000 in
theorem kj_X4_bodyOf_0 {L : List (Nat × Nat)} (hU : ∀ q ∈ L, q ∈ njT) (hL : ∀ q ∈ kjL_X4_bodyOf, q ∈ L) {Q : Int32 → HS → Prop} {v0 : Nat} {v1 : Nat} {S0 S : HS} (h : P_X4_bodyOf_0 Q v0 v1 S) (K : KJ L S0 S) : P_X4_bodyOf_0 (fun r T => Q r T ∧ KJ L S0 T) v0 v1 S := by
  delta P_X4_bodyOf_0 at h ⊢
  obtain ⟨c1, h⟩ := h
  refine ⟨c1, ?_⟩
  refine cm_X4_wordAndWhole (kj_X4_wordAndWhole hU (fun q hq => hL q ((by decide : ∀ q ∈ kjL_X4_wordAndWhole, q ∈ kjL_X4_bodyOf) q hq)) h) h (fun x2 x3 p6 h g4 g5 => ?_)
  have h := h g4 g5
  have K := kj9_tr K p6.2
  refine ⟨?_, ?_⟩
  · intro c7
    have h := h.1 c7
    intro x9 e8
    have h := h x9 e8
    refine cm_X4_wordAndWhole (kj_X4_wordAndWhole hU (fun q hq => hL q ((by decide : ∀ q ∈ kjL_X4_wordAndWhole, q ∈ kjL_X4_bodyOf) q hq)) h) h (fun x10 x11 p14 h g12 g13 => ?_)
    have h := h g12 g13
    have K := kj9_tr K p14.2
    refine ⟨?_, ?_⟩
    · intro c15
      have h := h.1 c15
      intro x17 e16
      have h := h x17 e16
      obtain ⟨c18, h⟩ := h
      refine ⟨c18, ?_⟩
      intro x20 e19
      have h := h x20 e19
      refine ⟨?_, ?_⟩
      · intro c21
        have h := h.1 c21
        exact kj_X4_bodyOf_58 hU hL h K
      · intro c22
        have h := h.2 c22
        intro x24 e23
        have h := h x24 e23
        exact kj_X4_bodyOf_58 hU hL h K
    · intro c25
      have h := h.2 c25
      exact ⟨h, K⟩
  · intro c26
    have h := h.2 c26
    exact ⟨h, K⟩
theorem kj_X4_bodyOf {L : List (Nat × Nat)} (hU : ∀ q ∈ L, q ∈ njT) (hL : ∀ q ∈ kjL_X4_bodyOf, q ∈ L) {Q : Int32 → HS → Prop} {v0 : Nat} {v1 : Nat} {S : HS} (h : P_X4_bodyOf v0 v1 Q S) : P_X4_bodyOf v0 v1 (fun r T => Q r T ∧ KJ L S T) S := kj_X4_bodyOf_0 hU hL h (kj9_rf L S)
abbrev kjL_X4_canBeName : List (Nat × Nat) := []
set_option maxRecDepth 20000 in
set_option maxHeartbeats 1000000 in
theorem kj_X4_canBeName_86 {L : List (Nat × Nat)} (hU : ∀ q ∈ L, q ∈ njT) (hL : ∀ q ∈ kjL_X4_canBeName, q ∈ L) {Q : Int32 → HS → Prop} {v0 : Nat} {s0 : Int32} {S0 S : HS} (h : P_X4_canBeName_86 Q v0 s0 S) (K : KJ L S0 S) : P_X4_canBeName_86 (fun r T => Q r T ∧ KJ L S0 T) v0 s0 S := by
  delta P_X4_canBeName_86 at h ⊢
  obtain ⟨c1, h⟩ := h
  refine ⟨c1, ?_⟩
  intro x3 e2
  have h := h x3 e2
  refine ⟨?_, ?_⟩
  · intro c4
    have h := h.1 c4
    exact ⟨h, K⟩
  · intro c5
    have h := h.2 c5
    refine ⟨?_, ?_⟩
    · intro c6
      have h := h.1 c6
      exact ⟨h, K⟩
    · intro c7
      have h := h.2 c7
      exact ⟨h, K⟩
set_option maxRecDepth 20000 in
set_option maxHeartbeats 1000000 in
theorem kj_X4_canBeName_81 {L : List (Nat × Nat)} (hU : ∀ q ∈ L, q ∈ njT) (hL : ∀ q ∈ kjL_X4_canBeName, q ∈ L) {Q : Int32 → HS → Prop} {v0 : Nat} {S0 S : HS} (h : P_X4_canBeName_81 Q v0 S) (K : KJ L S0 S) : P_X4_canBeName_81 (fun r T => Q r T ∧ KJ L S0 T) v0 S := by
  delta P_X4_canBeName_81 at h ⊢
  exact kj_X4_canBeName_86 hU hL h K
set_option maxRecDepth 20000 in
set_option maxHeartbeats 1000000 in
theorem kj_X4_canBeName_0 {L : List (Nat × Nat)} (hU : ∀ q ∈ L, q ∈ njT) (hL : ∀ q ∈ kjL_X4_canBeName, q ∈ L) {Q : Int32 → HS → Prop} {v0 : Nat} {S0 S : HS} (h : P_X4_canBeName_0 Q v0 S) (K : KJ L S0 S) : P_X4_canBeName_0 (fun r T => Q r T ∧ KJ L S0 T) v0 S := by
  delta P_X4_canBeName_0 at h ⊢
  obtain ⟨c1, h⟩ := h
  refine ⟨c1, ?_⟩
  refine cm_X4_is (kj_X4_is hU (fun q hq => hL q ((by decide : ∀ q ∈ kjL_X4_is, q ∈ kjL_X4_canBeName) q hq)) h) h (fun x2 x3 p6 h g4 g5 => ?_)
  have h := h g4 g5
  have K := kj9_tr K p6.2
  refine ⟨?_, ?_⟩
  · intro c7
    have h := h.1 c7
    exact kj_X4_canBeName_81 hU hL h K
  · intro c8
    have h := h.2 c8
    refine cm_X4_is (kj_X4_is hU (fun q hq => hL q ((by decide : ∀ q ∈ kjL_X4_is, q ∈ kjL_X4_canBeName) q hq)) h) h (fun x9 x10 p13 h g11 g12 => ?_)
    have h := h g11 g12
    have K := kj9_tr K p13.2
    refine ⟨?_, ?_⟩
    · intro c14
      have h := h.1 c14
      exact kj_X4_canBeName_81 hU hL h K
    · intro c15
      have h := h.2 c15
      refine cm_X4_is (kj_X4_is hU (fun q hq => hL q ((by decide : ∀ q ∈ kjL_X4_is, q ∈ kjL_X4_canBeName) q hq)) h) h (fun x16 x17 p20 h g18 g19 => ?_)
      have h := h g18 g19
      have K := kj9_tr K p20.2
      refine ⟨?_, ?_⟩
      · intro c21
        have h := h.1 c21
        exact kj_X4_canBeName_81 hU hL h K
      · intro c22
        have h := h.2 c22
        refine cm_X4_is (kj_X4_is hU (fun q hq => hL q ((by decide : ∀ q ∈ kjL_X4_is, q ∈ kjL_X4_canBeName) q hq)) h) h (fun x23 x24 p27 h g25 g26 => ?_)
        have h := h g25 g26
        have K := kj9_tr K p27.2
        refine ⟨?_, ?_⟩
        · intro c28
          have h := h.1 c28
          exact kj_X4_canBeName_81 hU hL h K
        · intro c29
          have h := h.2 c29
          refine cm_X4_is (kj_X4_is hU (fun q hq => hL q ((by decide : ∀ q ∈ kjL_X4_is, q ∈ kjL_X4_canBeName) q hq)) h) h (fun x30 x31 p34 h g32 g33 => ?_)
          have h := h g32 g33
          have K := kj9_tr K p34.2
          refine ⟨?_, ?_⟩
          · intro c35
            have h := h.1 c35
            exact kj_X4_canBeName_81 hU hL h K
          · intro c36
            have h := h.2 c36
            refine cm_X4_is (kj_X4_is hU (fun q hq => hL q ((by decide : ∀ q ∈ kjL_X4_is, q ∈ kjL_X4_canBeName) q hq)) h) h (fun x37 x38 p41 h g39 g40 => ?_)
            have h := h g39 g40
            have K := kj9_tr K p41.2
            refine ⟨?_, ?_⟩
            · intro c42
              have h := h.1 c42
              exact kj_X4_canBeName_81 hU hL h K
            · intro c43
              have h := h.2 c43
              refine cm_X4_is (kj_X4_is hU (fun q hq => hL q ((by decide : ∀ q ∈ kjL_X4_is, q ∈ kjL_X4_canBeName) q hq)) h) h (fun x44 x45 p48 h g46 g47 => ?_)
              have h := h g46 g47
              have K := kj9_tr K p48.2
              refine ⟨?_, ?_⟩
              · intro c49
                have h := h.1 c49
                exact kj_X4_canBeName_81 hU hL h K
              · intro c50
                have h := h.2 c50
                refine cm_X4_is (kj_X4_is hU (fun q hq => hL q ((by decide : ∀ q ∈ kjL_X4_is, q ∈ kjL_X4_canBeName) q hq)) h) h (fun x51 x52 p55 h g53 g54 => ?_)
                have h := h g53 g54
                have K := kj9_tr K p55.2
                refine ⟨?_, ?_⟩
                · intro c56
                  have h := h.1 c56
                  exact kj_X4_canBeName_81 hU hL h K
                · intro c57
                  have h := h.2 c57
                  refine cm_X4_is (kj_X4_is hU (fun q hq => hL q ((by decide : ∀ q ∈ kjL_X4_is, q ∈ kjL_X4_canBeName) q hq)) h) h (fun x58 x59 p62 h g60 g61 => ?_)
                  have h := h g60 g61
                  have K := kj9_tr K p62.2
                  refine ⟨?_, ?_⟩
                  · intro c63
                    have h := h.1 c63
                    exact kj_X4_canBeName_86 hU hL h K
                  · intro c64
                    have h := h.2 c64
                    exact kj_X4_canBeName_81 hU hL h K
theorem kj_X4_canBeName {L : List (Nat × Nat)} (hU : ∀ q ∈ L, q ∈ njT) (hL : ∀ q ∈ kjL_X4_canBeName, q ∈ L) {Q : Int32 → HS → Prop} {v0 : Nat} {S : HS} (h : P_X4_canBeName v0 Q S) : P_X4_canBeName v0 (fun r T => Q r T ∧ KJ L S T) S := kj_X4_canBeName_0 hU hL h (kj9_rf L S)
abbrev kjL_X4_exchange : List (Nat × Nat) := []
set_option maxRecDepth 20000 in
set_option maxHeartbeats 1000000 in
theorem kj_X4_exchange_0 {L : List (Nat × Nat)} (hU : ∀ q ∈ L, q ∈ njT) (hL : ∀ q ∈ kjL_X4_exchange, q ∈ L) {Q : Nat → HS → Prop} {v0 : Nat} {v1 : Nat} {S0 S : HS} (h : P_X4_exchange_0 Q v0 v1 S) (K : KJ L S0 S) : P_X4_exchange_0 (fun r T => Q r T ∧ KJ L S0 T) v0 v1 S := by
  delta P_X4_exchange_0 at h ⊢
  obtain ⟨c1, h⟩ := h
  refine ⟨c1, ?_⟩
  have o2 := c1
  obtain ⟨b3, e4, h⟩ := h
  refine ⟨b3, e4, ?_⟩
  intro x6 e5
  have h := h x6 e5
  have K := kj9_R K hU e5 o2 (by decide)
  have o2 := ob_wR o2 e5
  exact ⟨h, K⟩
theorem kj_X4_exchange {L : List (Nat × Nat)} (hU : ∀ q ∈ L, q ∈ njT) (hL : ∀ q ∈ kjL_X4_exchange, q ∈ L) {Q : Nat → HS → Prop} {v0 : Nat} {v1 : Nat} {S : HS} (h : P_X4_exchange v0 v1 Q S) : P_X4_exchange v0 v1 (fun r T => Q r T ∧ KJ L S T) S := kj_X4_exchange_0 hU hL h (kj9_rf L S)
abbrev kjL_X4_findName : List (Nat × Nat) := []
set_option maxRecDepth 20000 in
set_option maxHeartbeats 1000000 in
theorem kjB_X4_findName_2 {L : List (Nat × Nat)} (hU : ∀ q ∈ L, q ∈ njT) (hL : ∀ q ∈ kjL_X4_findName, q ∈ L) {Q : Int32 → HS → Prop} {X2 X2_2 : Nat → Int32 → HS → Prop} {v0 : Nat} {v1 : Int32} {S0 S : HS} (h : B_X4_findName_2 Q X2 v0 v1 S) (K : KJ L S0 S) (hX2 : ∀ (u0 : Nat) (u1 : Int32) (u2 : HS), X2 u0 u1 u2 → KJ L S0 u2 → X2_2 u0 u1 u2) : B_X4_findName_2 (fun r T => Q r T ∧ KJ L S0 T) X2_2 v0 v1 S := by
  delta B_X4_findName_2 at h ⊢
  obtain ⟨c1, h⟩ := h
  refine ⟨c1, ?_⟩
  have o2 := c1
  intro x4 e3
  have h := h x4 e3
  refine ⟨?_, ?_⟩
  · intro c5
    have h := h.1 c5
    exact ⟨h, K⟩
  · intro c6
    have h := h.2 c6
    refine ⟨?_, ?_⟩
    · intro c7
      have h := h.1 c7
      exact ⟨h, K⟩
    · intro c8
      have h := h.2 c8
      obtain ⟨b9, e10, h⟩ := h
      refine ⟨b9, e10, ?_⟩
      obtain ⟨c11, h⟩ := h
      refine ⟨c11, ?_⟩
      obtain ⟨c12, h⟩ := h
      refine ⟨c12, ?_⟩
      intro x14 e13
      have h := h x14 e13
      intro x16 e15
      have h := h x16 e15
      refine ⟨?_, ?_⟩
      · intro c17
        have h := h.1 c17
        intro x19 e18
        have h := h x19 e18
        exact hX2 _ _ _ h K
      · intro c20
        have h := h.2 c20
        obtain ⟨b21, e22, h⟩ := h
        refine ⟨b21, e22, ?_⟩
        obtain ⟨c23, h⟩ := h
        refine ⟨c23, ?_⟩
        obtain ⟨c24, h⟩ := h
        refine ⟨c24, ?_⟩
        intro x26 e25
        have h := h x26 e25
        exact ⟨h, K⟩
theorem kj_X4_findName_2 {L : List (Nat × Nat)} (hU : ∀ q ∈ L, q ∈ njT) (hL : ∀ q ∈ kjL_X4_findName, q ∈ L) {Q : Int32 → HS → Prop} {v0 : Nat} {v1 : Int32} {S0 S : HS} (h : P_X4_findName_2 Q v0 v1 S) (K : KJ L S0 S) : P_X4_findName_2 (fun r T => Q r T ∧ KJ L S0 T) v0 v1 S := h (fun v0 v1 S => KJ L S0 S → P_X4_findName_2 (fun r T => Q r T ∧ KJ L S0 T) v0 v1 S) (fun v0 v1 S hB K => fd_X4_findName_2 (kjB_X4_findName_2 hU hL hB K (fun _ _ _ hx K => hx K))) K
set_option maxRecDepth 20000 in
set_option maxHeartbeats 1000000 in
theorem kj_X4_findName_0 {L : List (Nat × Nat)} (hU : ∀ q ∈ L, q ∈ njT) (hL : ∀ q ∈ kjL_X4_findName, q ∈ L) {Q : Int32 → HS → Prop} {v0 : Nat} {S0 S : HS} (h : P_X4_findName_0 Q v0 S) (K : KJ L S0 S) : P_X4_findName_0 (fun r T => Q r T ∧ KJ L S0 T) v0 S := by
  delta P_X4_findName_0 at h ⊢
  exact kj_X4_findName_2 hU hL h K
theorem kj_X4_findName {L : List (Nat × Nat)} (hU : ∀ q ∈ L, q ∈ njT) (hL : ∀ q ∈ kjL_X4_findName, q ∈ L) {Q : Int32 → HS → Prop} {v0 : Nat} {S : HS} (h : P_X4_findName v0 Q S) : P_X4_findName v0 (fun r T => Q r T ∧ KJ L S T) S := kj_X4_findName_0 hU hL h (kj9_rf L S)
abbrev kjL_X8_isTold : List (Nat × Nat) := []
set_option maxRecDepth 20000 in
set_option maxHeartbeats 1000000 in
theorem kj_X8_isTold_0 {L : List (Nat × Nat)} (hU : ∀ q ∈ L, q ∈ njT) (hL : ∀ q ∈ kjL_X8_isTold, q ∈ L) {Q : Int32 → HS → Prop} {v0 : Nat} {S0 S : HS} (h : P_X8_isTold_0 Q v0 S) (K : KJ L S0 S) : P_X8_isTold_0 (fun r T => Q r T ∧ KJ L S0 T) v0 S := by
  delta P_X8_isTold_0 at h ⊢
  obtain ⟨c1, h⟩ := h
  refine ⟨c1, ?_⟩
  intro x3 e2
  have h := h x3 e2
  refine ⟨?_, ?_⟩
  · intro c4
    have h := h.1 c4
    exact ⟨h, K⟩
  · intro c5
    have h := h.2 c5
    exact ⟨h, K⟩
theorem kj_X8_isTold {L : List (Nat × Nat)} (hU : ∀ q ∈ L, q ∈ njT) (hL : ∀ q ∈ kjL_X8_isTold, q ∈ L) {Q : Int32 → HS → Prop} {v0 : Nat} {S : HS} (h : P_X8_isTold v0 Q S) : P_X8_isTold v0 (fun r T => Q r T ∧ KJ L S T) S := kj_X8_isTold_0 hU hL h (kj9_rf L S)
abbrev kjL_X4_hasRoom : List (Nat × Nat) := []
set_option maxRecDepth 20000 in
set_option maxHeartbeats 1000000 in
theorem kj_X4_hasRoom_0 {L : List (Nat × Nat)} (hU : ∀ q ∈ L, q ∈ njT) (hL : ∀ q ∈ kjL_X4_hasRoom, q ∈ L) {Q : Int32 → HS → Prop} {v0 : Nat} {v1 : Int32} {v2 : Int32} {S0 S : HS} (h : P_X4_hasRoom_0 Q v0 v1 v2 S) (K : KJ L S0 S) : P_X4_hasRoom_0 (fun r T => Q r T ∧ KJ L S0 T) v0 v1 v2 S := by
  delta P_X4_hasRoom_0 at h ⊢
  obtain ⟨c1, h⟩ := h
  refine ⟨c1, ?_⟩
  have o2 := c1
  obtain ⟨b3, e4, h⟩ := h
  refine ⟨b3, e4, ?_⟩
  obtain ⟨c5, h⟩ := h
  refine ⟨c5, ?_⟩
  refine cm_X8_isTold (kj_X8_isTold hU (fun q hq => hL q ((by decide : ∀ q ∈ kjL_X8_isTold, q ∈ kjL_X4_hasRoom) q hq)) h) h (fun x6 x7 p10 h g8 g9 => ?_)
  have h := h g8 g9
  have K := kj9_tr K p10.2
  have o2 := gr_ob p10.2.1 o2
  refine ⟨?_, ?_⟩
  · intro c11
    have h := h.1 c11
    refine ⟨?_, ?_⟩
    · intro c12
      have h := h.1 c12
      refine cm_X4_next (kj_X4_next hU (fun q hq => hL q ((by decide : ∀ q ∈ kjL_X4_next, q ∈ kjL_X4_hasRoom) q hq)) h) h (fun x13 p15 h g14 => ?_)
      have h := h g14
      have K := kj9_tr K p15.2
      have o2 := gr_ob p15.2.1 o2
      exact ⟨h, K⟩
    · intro c16
      have h := h.2 c16
      refine cm_X4_fail (kj_X4_fail hU (fun q hq => hL q ((by decide : ∀ q ∈ kjL_X4_fail, q ∈ kjL_X4_hasRoom) q hq)) h) h (fun x17 x18 p21 h g19 g20 => ?_)
      have h := h g19 g20
      have K := kj9_tr K p21.2
      have o2 := gr_ob p21.2.1 o2
      obtain ⟨c22, h⟩ := h
      refine ⟨c22, ?_⟩
      exact ⟨h, K⟩
  · intro c23
    have h := h.2 c23
    refine cm_X4_fail (kj_X4_fail hU (fun q hq => hL q ((by decide : ∀ q ∈ kjL_X4_fail, q ∈ kjL_X4_hasRoom) q hq)) h) h (fun x24 x25 p28 h g26 g27 => ?_)
    have h := h g26 g27
    have K := kj9_tr K p28.2
    have o2 := gr_ob p28.2.1 o2
    obtain ⟨c29, h⟩ := h
    refine ⟨c29, ?_⟩
    exact ⟨h, K⟩
theorem kj_X4_hasRoom {L : List (Nat × Nat)} (hU : ∀ q ∈ L, q ∈ njT) (hL : ∀ q ∈ kjL_X4_hasRoom, q ∈ L) {Q : Int32 → HS → Prop} {v0 : Nat} {v1 : Int32} {v2 : Int32} {S : HS} (h : P_X4_hasRoom v0 v1 v2 Q S) : P_X4_hasRoom v0 v1 v2 (fun r T => Q r T ∧ KJ L S T) S := kj_X4_hasRoom_0 hU hL h (kj9_rf L S)
abbrev kjL_X4_kindOf : List (Nat × Nat) := []
set_option maxRecDepth 20000 in
set_option maxHeartbeats 1000000 in
theorem kj_X4_kindOf_0 {L : List (Nat × Nat)} (hU : ∀ q ∈ L, q ∈ njT) (hL : ∀ q ∈ kjL_X4_kindOf, q ∈ L) {Q : Int32 → HS → Prop} {v0 : Nat} {v1 : Nat} {S0 S : HS} (h : P_X4_kindOf_0 Q v0 v1 S) (K : KJ L S0 S) : P_X4_kindOf_0 (fun r T => Q r T ∧ KJ L S0 T) v0 v1 S := by
  delta P_X4_kindOf_0 at h ⊢
  obtain ⟨c1, h⟩ := h
  refine ⟨c1, ?_⟩
  have n2 := kj9_nk K c1 (by decide)
  intro x4 e3
  have h := h x4 e3
  have K := kj9_I K e3 n2
  refine cm_X4_is (kj_X4_is hU (fun q hq => hL q ((by decide : ∀ q ∈ kjL_X4_is, q ∈ kjL_X4_kindOf) q hq)) h) h (fun x5 x6 p9 h g7 g8 => ?_)
  have h := h g7 g8
  have K := kj9_tr K p9.2
  refine ⟨?_, ?_⟩
  · intro c10
    have h := h.1 c10
    refine cm_X4_is (kj_X4_is hU (fun q hq => hL q ((by decide : ∀ q ∈ kjL_X4_is, q ∈ kjL_X4_kindOf) q hq)) h) h (fun x11 x12 p15 h g13 g14 => ?_)
    have h := h g13 g14
    have K := kj9_tr K p15.2
    refine ⟨?_, ?_⟩
    · intro c16
      have h := h.1 c16
      refine cm_X4_is (kj_X4_is hU (fun q hq => hL q ((by decide : ∀ q ∈ kjL_X4_is, q ∈ kjL_X4_kindOf) q hq)) h) h (fun x17 x18 p21 h g19 g20 => ?_)
      have h := h g19 g20
      have K := kj9_tr K p21.2
      refine ⟨?_, ?_⟩
      · intro c22
        have h := h.1 c22
        obtain ⟨c23, h⟩ := h
        refine ⟨c23, ?_⟩
        have n24 := kj9_nk K c23 (by decide)
        intro x26 e25
        have h := h x26 e25
        have K := kj9_I K e25 n24
        refine cm_X4_word (kj_X4_word hU (fun q hq => hL q ((by decide : ∀ q ∈ kjL_X4_word, q ∈ kjL_X4_kindOf) q hq)) h) h (fun x27 x28 p31 h g29 g30 => ?_)
        have h := h g29 g30
        have K := kj9_tr K p31.2
        intro x33 e32
        have h := h x33 e32
        intro x35 e34
        have h := h x35 e34
        have K := kj9_I K e34 n24
        obtain ⟨c36, h⟩ := h
        refine ⟨c36, ?_⟩
        exact ⟨h, K⟩
      · intro c37
        have h := h.2 c37
        obtain ⟨c38, h⟩ := h
        refine ⟨c38, ?_⟩
        have n39 := kj9_nk K c38 (by decide)
        intro x41 e40
        have h := h x41 e40
        have K := kj9_I K e40 n39
        refine cm_X4_wordAndWhole (kj_X4_wordAndWhole hU (fun q hq => hL q ((by decide : ∀ q ∈ kjL_X4_wordAndWhole, q ∈ kjL_X4_kindOf) q hq)) h) h (fun x42 x43 p46 h g44 g45 => ?_)
        have h := h g44 g45
        have K := kj9_tr K p46.2
        intro x48 e47
        have h := h x48 e47
        intro x50 e49
        have h := h x50 e49
        have K := kj9_I K e49 n39
        obtain ⟨c51, h⟩ := h
        refine ⟨c51, ?_⟩
        exact ⟨h, K⟩
    · intro c52
      have h := h.2 c52
      obtain ⟨c53, h⟩ := h
      refine ⟨c53, ?_⟩
      have n54 := kj9_nk K c53 (by decide)
      intro x56 e55
      have h := h x56 e55
      have K := kj9_I K e55 n54
      refine cm_X4_wordAndWhole (kj_X4_wordAndWhole hU (fun q hq => hL q ((by decide : ∀ q ∈ kjL_X4_wordAndWhole, q ∈ kjL_X4_kindOf) q hq)) h) h (fun x57 x58 p61 h g59 g60 => ?_)
      have h := h g59 g60
      have K := kj9_tr K p61.2
      intro x63 e62
      have h := h x63 e62
      intro x65 e64
      have h := h x65 e64
      have K := kj9_I K e64 n54
      obtain ⟨c66, h⟩ := h
      refine ⟨c66, ?_⟩
      exact ⟨h, K⟩
  · intro c67
    have h := h.2 c67
    obtain ⟨c68, h⟩ := h
    refine ⟨c68, ?_⟩
    have n69 := kj9_nk K c68 (by decide)
    intro x71 e70
    have h := h x71 e70
    have K := kj9_I K e70 n69
    refine cm_X4_wordAndWhole (kj_X4_wordAndWhole hU (fun q hq => hL q ((by decide : ∀ q ∈ kjL_X4_wordAndWhole, q ∈ kjL_X4_kindOf) q hq)) h) h (fun x72 x73 p76 h g74 g75 => ?_)
    have h := h g74 g75
    have K := kj9_tr K p76.2
    intro x78 e77
    have h := h x78 e77
    intro x80 e79
    have h := h x80 e79
    have K := kj9_I K e79 n69
    obtain ⟨c81, h⟩ := h
    refine ⟨c81, ?_⟩
    exact ⟨h, K⟩
theorem kj_X4_kindOf {L : List (Nat × Nat)} (hU : ∀ q ∈ L, q ∈ njT) (hL : ∀ q ∈ kjL_X4_kindOf, q ∈ L) {Q : Int32 → HS → Prop} {v0 : Nat} {v1 : Nat} {S : HS} (h : P_X4_kindOf v0 v1 Q S) : P_X4_kindOf v0 v1 (fun r T => Q r T ∧ KJ L S T) S := kj_X4_kindOf_0 hU hL h (kj9_rf L S)
abbrev kjL_X4_newName : List (Nat × Nat) := [(4, 12)]
set_option maxRecDepth 20000 in
set_option maxHeartbeats 1000000 in
theorem kj_X4_newName_69 {L : List (Nat × Nat)} (hU : ∀ q ∈ L, q ∈ njT) (hL : ∀ q ∈ kjL_X4_newName, q ∈ L) {Q : Int32 → HS → Prop} {v0 : Nat} {S0 S : HS} (h : P_X4_newName_69 Q v0 S) (K : KJ L S0 S) : P_X4_newName_69 (fun r T => Q r T ∧ KJ L S0 T) v0 S := by
  delta P_X4_newName_69 at h ⊢
  obtain ⟨c1, h⟩ := h
  refine ⟨c1, ?_⟩
  refine cm_X4_next (kj_X4_next hU (fun q hq => hL q ((by decide : ∀ q ∈ kjL_X4_next, q ∈ kjL_X4_newName) q hq)) h) h (fun x2 p4 h g3 => ?_)
  have h := h g3
  have K := kj9_tr K p4.2
  exact ⟨h, K⟩
set_option maxRecDepth 20000 in
set_option maxHeartbeats 1000000 in
theorem kj_X4_newName_0 {L : List (Nat × Nat)} (hU : ∀ q ∈ L, q ∈ njT) (hL : ∀ q ∈ kjL_X4_newName, q ∈ L) {Q : Int32 → HS → Prop} {v0 : Nat} {v1 : Int32} {S0 S : HS} (h : P_X4_newName_0 Q v0 v1 S) (K : KJ L S0 S) : P_X4_newName_0 (fun r T => Q r T ∧ KJ L S0 T) v0 v1 S := by
  delta P_X4_newName_0 at h ⊢
  obtain ⟨c1, h⟩ := h
  refine ⟨c1, ?_⟩
  have n2 := kj9_nk K c1 (by decide)
  have o3 := c1
  refine cm_X4_canBeName (kj_X4_canBeName hU (fun q hq => hL q ((by decide : ∀ q ∈ kjL_X4_canBeName, q ∈ kjL_X4_newName) q hq)) h) h (fun x4 x5 p8 h g6 g7 => ?_)
  have h := h g6 g7
  have K := kj9_tr K p8.2
  have o3 := gr_ob p8.2.1 o3
  refine ⟨?_, ?_⟩
  · intro c9
    have h := h.1 c9
    refine cm_X4_findName (kj_X4_findName hU (fun q hq => hL q ((by decide : ∀ q ∈ kjL_X4_findName, q ∈ kjL_X4_newName) q hq)) h) h (fun x10 x11 p13 h g12 => ?_)
    have h := h g12
    have K := kj9_tr K p13.2
    have o3 := gr_ob p13.2.1 o3
    refine ⟨?_, ?_⟩
    · intro c14
      have h := h.1 c14
      intro x16 e15
      have h := h x16 e15
      refine ⟨?_, ?_⟩
      · intro c17
        have h := h.1 c17
        exact kj_X4_newName_69 hU hL h K
      · intro c18
        have h := h.2 c18
        obtain ⟨b19, e20, h⟩ := h
        refine ⟨b19, e20, ?_⟩
        intro x22 e21
        have h := h x22 e21
        intro x24 e23
        have h := h x24 e23
        obtain ⟨c25, h⟩ := h
        refine ⟨c25, ?_⟩
        obtain ⟨c26, h⟩ := h
        refine ⟨c26, ?_⟩
        intro x28 e27
        have h := h x28 e27
        have K := kj9_J K e27
        have o3 := ob_wJ o3 e27
        obtain ⟨b29, e30, h⟩ := h
        refine ⟨b29, e30, ?_⟩
        have n31 := kj9_nr K e30 o3 (hL _ (by decide))
        intro x33 e32
        have h := h x33 e32
        obtain ⟨c34, h⟩ := h
        refine ⟨c34, ?_⟩
        obtain ⟨c35, h⟩ := h
        refine ⟨c35, ?_⟩
        intro x37 e36
        have h := h x37 e36
        have K := kj9_I K e36 n31
        have o3 := ob_wI o3 e36
        intro x39 e38
        have h := h x39 e38
        intro x41 e40
        have h := h x41 e40
        intro x43 e42
        have h := h x43 e42
        have K := kj9_I K e42 n2
        have o3 := ob_wI o3 e42
        exact kj_X4_newName_69 hU hL h K
    · intro c44
      have h := h.2 c44
      refine cm_X4_fail (kj_X4_fail hU (fun q hq => hL q ((by decide : ∀ q ∈ kjL_X4_fail, q ∈ kjL_X4_newName) q hq)) h) h (fun x45 x46 p49 h g47 g48 => ?_)
      have h := h g47 g48
      have K := kj9_tr K p49.2
      have o3 := gr_ob p49.2.1 o3
      obtain ⟨c50, h⟩ := h
      refine ⟨c50, ?_⟩
      exact ⟨h, K⟩
  · intro c51
    have h := h.2 c51
    refine cm_X4_fail (kj_X4_fail hU (fun q hq => hL q ((by decide : ∀ q ∈ kjL_X4_fail, q ∈ kjL_X4_newName) q hq)) h) h (fun x52 x53 p56 h g54 g55 => ?_)
    have h := h g54 g55
    have K := kj9_tr K p56.2
    have o3 := gr_ob p56.2.1 o3
    obtain ⟨c57, h⟩ := h
    refine ⟨c57, ?_⟩
    exact ⟨h, K⟩
theorem kj_X4_newName {L : List (Nat × Nat)} (hU : ∀ q ∈ L, q ∈ njT) (hL : ∀ q ∈ kjL_X4_newName, q ∈ L) {Q : Int32 → HS → Prop} {v0 : Nat} {v1 : Int32} {S : HS} (h : P_X4_newName v0 v1 Q S) : P_X4_newName v0 v1 (fun r T => Q r T ∧ KJ L S T) S := kj_X4_newName_0 hU hL h (kj9_rf L S)
abbrev kjL_X8_clear : List (Nat × Nat) := []
set_option maxRecDepth 20000 in
set_option maxHeartbeats 1000000 in
theorem kj_X8_clear_0 {L : List (Nat × Nat)} (hU : ∀ q ∈ L, q ∈ njT) (hL : ∀ q ∈ kjL_X8_clear, q ∈ L) {Q : HS → Prop} {v0 : Nat} {S0 S : HS} (h : P_X8_clear_0 Q v0 S) (K : KJ L S0 S) : P_X8_clear_0 (fun T => Q T ∧ KJ L S0 T) v0 S := by
  delta P_X8_clear_0 at h ⊢
  obtain ⟨c1, h⟩ := h
  refine ⟨c1, ?_⟩
  have n2 := kj9_nk K c1 (by decide)
  intro x4 e3
  have h := h x4 e3
  have K := kj9_I K e3 n2
  intro x6 e5
  have h := h x6 e5
  have K := kj9_I K e5 n2
  intro x8 e7
  have h := h x8 e7
  have K := kj9_I K e7 n2
  intro x10 e9
  have h := h x10 e9
  have K := kj9_I K e9 n2
  intro x12 e11
  have h := h x12 e11
  have K := kj9_I K e11 n2
  intro x14 e13
  have h := h x14 e13
  have K := kj9_I K e13 n2
  exact ⟨h, K⟩
theorem kj_X8_clear {L : List (Nat × Nat)} (hU : ∀ q ∈ L, q ∈ njT) (hL : ∀ q ∈ kjL_X8_clear, q ∈ L) {Q : HS → Prop} {v0 : Nat} {S : HS} (h : P_X8_clear v0 Q S) : P_X8_clear v0 (fun T => Q T ∧ KJ L S T) S := kj_X8_clear_0 hU hL h (kj9_rf L S)
abbrev kjL_X4_open : List (Nat × Nat) := []
set_option maxRecDepth 20000 in
set_option maxHeartbeats 1000000 in
theorem kj_X4_open_0 {L : List (Nat × Nat)} (hU : ∀ q ∈ L, q ∈ njT) (hL : ∀ q ∈ kjL_X4_open, q ∈ L) {Q : HS → Prop} {v0 : Nat} {v1 : Nat} {v2 : Int32} {S0 S : HS} (h : P_X4_open_0 Q v0 v1 v2 S) (K : KJ L S0 S) : P_X4_open_0 (fun T => Q T ∧ KJ L S0 T) v0 v1 v2 S := by
  delta P_X4_open_0 at h ⊢
  obtain ⟨c1, h⟩ := h
  refine ⟨c1, ?_⟩
  have n2 := kj9_nk K c1 (by decide)
  have o3 := c1
  intro x5 e4
  have h := h x5 e4
  have K := kj9_R K hU e4 o3 (by decide)
  have o3 := ob_wR o3 e4
  obtain ⟨c6, h⟩ := h
  refine ⟨c6, ?_⟩
  intro x8 e7
  have h := h x8 e7
  intro x10 e9
  have h := h x10 e9
  have K := kj9_I K e9 n2
  have o3 := ob_wI o3 e9
  intro x12 e11
  have h := h x12 e11
  have K := kj9_I K e11 n2
  have o3 := ob_wI o3 e11
  intro x14 e13
  have h := h x14 e13
  have K := kj9_I K e13 n2
  have o3 := ob_wI o3 e13
  intro x16 e15
  have h := h x16 e15
  have K := kj9_I K e15 n2
  have o3 := ob_wI o3 e15
  intro x18 e17
  have h := h x18 e17
  have K := kj9_I K e17 n2
  have o3 := ob_wI o3 e17
  obtain ⟨b19, e20, h⟩ := h
  refine ⟨b19, e20, ?_⟩
  obtain ⟨c21, h⟩ := h
  refine ⟨c21, ?_⟩
  refine cm_X8_clear (kj_X8_clear hU (fun q hq => hL q ((by decide : ∀ q ∈ kjL_X8_clear, q ∈ kjL_X4_open) q hq)) h) h (fun x22 p24 h g23 => ?_)
  have h := h g23
  have K := kj9_tr K p24.2
  have o3 := gr_ob p24.2.1 o3
  refine cm_X4_next (kj_X4_next hU (fun q hq => hL q ((by decide : ∀ q ∈ kjL_X4_next, q ∈ kjL_X4_open) q hq)) h) h (fun x25 p27 h g26 => ?_)
  have h := h g26
  have K := kj9_tr K p27.2
  have o3 := gr_ob p27.2.1 o3
  exact ⟨h, K⟩
theorem kj_X4_open {L : List (Nat × Nat)} (hU : ∀ q ∈ L, q ∈ njT) (hL : ∀ q ∈ kjL_X4_open, q ∈ L) {Q : HS → Prop} {v0 : Nat} {v1 : Nat} {v2 : Int32} {S : HS} (h : P_X4_open v0 v1 v2 Q S) : P_X4_open v0 v1 v2 (fun T => Q T ∧ KJ L S T) S := kj_X4_open_0 hU hL h (kj9_rf L S)
abbrev kjL_X4_placeBut : List (Nat × Nat) := []
set_option maxRecDepth 20000 in
set_option maxHeartbeats 1000000 in
theorem kj_X4_placeBut_29 {L : List (Nat × Nat)} (hU : ∀ q ∈ L, q ∈ njT) (hL : ∀ q ∈ kjL_X4_placeBut, q ∈ L) {Q : Int32 → HS → Prop} {v0 : Nat} {S0 S : HS} (h : P_X4_placeBut_29 Q v0 S) (K : KJ L S0 S) : P_X4_placeBut_29 (fun r T => Q r T ∧ KJ L S0 T) v0 S := by
  delta P_X4_placeBut_29 at h ⊢
  obtain ⟨c1, h⟩ := h
  refine ⟨c1, ?_⟩
  refine cm_X4_fail (kj_X4_fail hU (fun q hq => hL q ((by decide : ∀ q ∈ kjL_X4_fail, q ∈ kjL_X4_placeBut) q hq)) h) h (fun x2 x3 p6 h g4 g5 => ?_)
  have h := h g4 g5
  have K := kj9_tr K p6.2
  obtain ⟨c7, h⟩ := h
  refine ⟨c7, ?_⟩
  exact ⟨h, K⟩
set_option maxRecDepth 20000 in
set_option maxHeartbeats 1000000 in
theorem kj_X4_placeBut_0 {L : List (Nat × Nat)} (hU : ∀ q ∈ L, q ∈ njT) (hL : ∀ q ∈ kjL_X4_placeBut, q ∈ L) {Q : Int32 → HS → Prop} {v0 : Nat} {v1 : Int32} {S0 S : HS} (h : P_X4_placeBut_0 Q v0 v1 S) (K : KJ L S0 S) : P_X4_placeBut_0 (fun r T => Q r T ∧ KJ L S0 T) v0 v1 S := by
  delta P_X4_placeBut_0 at h ⊢
  obtain ⟨c1, h⟩ := h
  refine ⟨c1, ?_⟩
  have n2 := kj9_nk K c1 (by decide)
  refine cm_X4_canBeName (kj_X4_canBeName hU (fun q hq => hL q ((by decide : ∀ q ∈ kjL_X4_canBeName, q ∈ kjL_X4_placeBut) q hq)) h) h (fun x3 x4 p7 h g5 g6 => ?_)
  have h := h g5 g6
  have K := kj9_tr K p7.2
  refine ⟨?_, ?_⟩
  · intro c8
    have h := h.1 c8
    refine cm_X4_findName (kj_X4_findName hU (fun q hq => hL q ((by decide : ∀ q ∈ kjL_X4_findName, q ∈ kjL_X4_placeBut) q hq)) h) h (fun x9 x10 p12 h g11 => ?_)
    have h := h g11
    have K := kj9_tr K p12.2
    refine ⟨?_, ?_⟩
    · intro c13
      have h := h.1 c13
      exact kj_X4_placeBut_29 hU hL h K
    · intro c14
      have h := h.2 c14
      refine ⟨?_, ?_⟩
      · intro c15
        have h := h.1 c15
        refine ⟨?_, ?_⟩
        · intro c16
          have h := h.1 c16
          intro x18 e17
          have h := h x18 e17
          have K := kj9_I K e17 n2
          refine cm_X4_next (kj_X4_next hU (fun q hq => hL q ((by decide : ∀ q ∈ kjL_X4_next, q ∈ kjL_X4_placeBut) q hq)) h) h (fun x19 p21 h g20 => ?_)
          have h := h g20
          have K := kj9_tr K p21.2
          exact ⟨h, K⟩
        · intro c22
          have h := h.2 c22
          refine cm_X4_fail (kj_X4_fail hU (fun q hq => hL q ((by decide : ∀ q ∈ kjL_X4_fail, q ∈ kjL_X4_placeBut) q hq)) h) h (fun x23 x24 p27 h g25 g26 => ?_)
          have h := h g25 g26
          have K := kj9_tr K p27.2
          obtain ⟨c28, h⟩ := h
          refine ⟨c28, ?_⟩
          exact ⟨h, K⟩
      · intro c29
        have h := h.2 c29
        exact kj_X4_placeBut_29 hU hL h K
  · intro c30
    have h := h.2 c30
    refine cm_X4_fail (kj_X4_fail hU (fun q hq => hL q ((by decide : ∀ q ∈ kjL_X4_fail, q ∈ kjL_X4_placeBut) q hq)) h) h (fun x31 x32 p35 h g33 g34 => ?_)
    have h := h g33 g34
    have K := kj9_tr K p35.2
    obtain ⟨c36, h⟩ := h
    refine ⟨c36, ?_⟩
    exact ⟨h, K⟩
theorem kj_X4_placeBut {L : List (Nat × Nat)} (hU : ∀ q ∈ L, q ∈ njT) (hL : ∀ q ∈ kjL_X4_placeBut, q ∈ L) {Q : Int32 → HS → Prop} {v0 : Nat} {v1 : Int32} {S : HS} (h : P_X4_placeBut v0 v1 Q S) : P_X4_placeBut v0 v1 (fun r T => Q r T ∧ KJ L S T) S := kj_X4_placeBut_0 hU hL h (kj9_rf L S)
abbrev kjL_X4_placeLine : List (Nat × Nat) := [(4, 12), (8, 7)]
set_option maxRecDepth 20000 in
set_option maxHeartbeats 1000000 in
theorem kj_X4_placeLine_64 {L : List (Nat × Nat)} (hU : ∀ q ∈ L, q ∈ njT) (hL : ∀ q ∈ kjL_X4_placeLine, q ∈ L) {Q : Int32 → HS → Prop} {v0 : Nat} {v1 : Int32} {S0 S : HS} (h : P_X4_placeLine_64 Q v0 v1 S) (K : KJ L S0 S) : P_X4_placeLine_64 (fun r T => Q r T ∧ KJ L S0 T) v0 v1 S := by
  delta P_X4_placeLine_64 at h ⊢
  obtain ⟨c1, h⟩ := h
  refine ⟨c1, ?_⟩
  have o2 := c1
  obtain ⟨b3, e4, h⟩ := h
  refine ⟨b3, e4, ?_⟩
  obtain ⟨c5, h⟩ := h
  refine ⟨c5, ?_⟩
  have o6 := c5
  obtain ⟨b7, e8, h⟩ := h
  refine ⟨b7, e8, ?_⟩
  have n9 := kj9_nr K e8 o6 (hL _ (by decide))
  obtain ⟨b10, e11, h⟩ := h
  refine ⟨b10, e11, ?_⟩
  obtain ⟨c12, h⟩ := h
  refine ⟨c12, ?_⟩
  intro x14 e13
  have h := h x14 e13
  obtain ⟨c15, h⟩ := h
  refine ⟨c15, ?_⟩
  obtain ⟨c16, h⟩ := h
  refine ⟨c16, ?_⟩
  intro x18 e17
  have h := h x18 e17
  have K := kj9_I K e17 n9
  have o2 := ob_wI o2 e17
  have o6 := ob_wI o6 e17
  obtain ⟨b19, e20, h⟩ := h
  refine ⟨b19, e20, ?_⟩
  obtain ⟨c21, h⟩ := h
  refine ⟨c21, ?_⟩
  have n22 := kj9_nk K c21 (by decide)
  intro x24 e23
  have h := h x24 e23
  intro x26 e25
  have h := h x26 e25
  intro x28 e27
  have h := h x28 e27
  have K := kj9_I K e27 n22
  have o2 := ob_wI o2 e27
  have o6 := ob_wI o6 e27
  exact ⟨h, K⟩
set_option maxRecDepth 20000 in
set_option maxHeartbeats 1000000 in
theorem kj_X4_placeLine_0 {L : List (Nat × Nat)} (hU : ∀ q ∈ L, q ∈ njT) (hL : ∀ q ∈ kjL_X4_placeLine, q ∈ L) {Q : Int32 → HS → Prop} {v0 : Nat} {S0 S : HS} (h : P_X4_placeLine_0 Q v0 S) (K : KJ L S0 S) : P_X4_placeLine_0 (fun r T => Q r T ∧ KJ L S0 T) v0 S := by
  delta P_X4_placeLine_0 at h ⊢
  obtain ⟨c1, h⟩ := h
  refine ⟨c1, ?_⟩
  have o2 := c1
  obtain ⟨b3, e4, h⟩ := h
  refine ⟨b3, e4, ?_⟩
  obtain ⟨c5, h⟩ := h
  refine ⟨c5, ?_⟩
  intro x7 e6
  have h := h x7 e6
  refine cm_X4_newName (kj_X4_newName hU (fun q hq => hL q ((by decide : ∀ q ∈ kjL_X4_newName, q ∈ kjL_X4_placeLine) q hq)) h) h (fun x8 x9 p12 h g10 g11 => ?_)
  have h := h g10 g11
  have K := kj9_tr K p12.2
  have o2 := gr_ob p12.2.1 o2
  refine ⟨?_, ?_⟩
  · intro c13
    have h := h.1 c13
    refine cm_X4_is (kj_X4_is hU (fun q hq => hL q ((by decide : ∀ q ∈ kjL_X4_is, q ∈ kjL_X4_placeLine) q hq)) h) h (fun x14 x15 p18 h g16 g17 => ?_)
    have h := h g16 g17
    have K := kj9_tr K p18.2
    have o2 := gr_ob p18.2.1 o2
    refine ⟨?_, ?_⟩
    · intro c19
      have h := h.1 c19
      refine cm_X4_is (kj_X4_is hU (fun q hq => hL q ((by decide : ∀ q ∈ kjL_X4_is, q ∈ kjL_X4_placeLine) q hq)) h) h (fun x20 x21 p24 h g22 g23 => ?_)
      have h := h g22 g23
      have K := kj9_tr K p24.2
      have o2 := gr_ob p24.2.1 o2
      refine ⟨?_, ?_⟩
      · intro c25
        have h := h.1 c25
        exact kj_X4_placeLine_64 hU hL h K
      · intro c26
        have h := h.2 c26
        refine cm_X4_wordAndWhole (kj_X4_wordAndWhole hU (fun q hq => hL q ((by decide : ∀ q ∈ kjL_X4_wordAndWhole, q ∈ kjL_X4_placeLine) q hq)) h) h (fun x27 x28 p31 h g29 g30 => ?_)
        have h := h g29 g30
        have K := kj9_tr K p31.2
        have o2 := gr_ob p31.2.1 o2
        refine ⟨?_, ?_⟩
        · intro c32
          have h := h.1 c32
          intro x34 e33
          have h := h x34 e33
          exact kj_X4_placeLine_64 hU hL h K
        · intro c35
          have h := h.2 c35
          exact ⟨h, K⟩
    · intro c36
      have h := h.2 c36
      refine cm_X4_next (kj_X4_next hU (fun q hq => hL q ((by decide : ∀ q ∈ kjL_X4_next, q ∈ kjL_X4_placeLine) q hq)) h) h (fun x37 p39 h g38 => ?_)
      have h := h g38
      have K := kj9_tr K p39.2
      have o2 := gr_ob p39.2.1 o2
      exact kj_X4_placeLine_64 hU hL h K
  · intro c40
    have h := h.2 c40
    exact ⟨h, K⟩
theorem kj_X4_placeLine {L : List (Nat × Nat)} (hU : ∀ q ∈ L, q ∈ njT) (hL : ∀ q ∈ kjL_X4_placeLine, q ∈ L) {Q : Int32 → HS → Prop} {v0 : Nat} {S : HS} (h : P_X4_placeLine v0 Q S) : P_X4_placeLine v0 (fun r T => Q r T ∧ KJ L S T) S := kj_X4_placeLine_0 hU hL h (kj9_rf L S)
abbrev kjL_X4_side : List (Nat × Nat) := []
set_option maxRecDepth 20000 in
set_option maxHeartbeats 1000000 in
theorem kj_X4_side_74 {L : List (Nat × Nat)} (hU : ∀ q ∈ L, q ∈ njT) (hL : ∀ q ∈ kjL_X4_side, q ∈ L) {Q : Int32 → HS → Prop} {v0 : Nat} {S0 S : HS} (h : P_X4_side_74 Q v0 S) (K : KJ L S0 S) : P_X4_side_74 (fun r T => Q r T ∧ KJ L S0 T) v0 S := by
  delta P_X4_side_74 at h ⊢
  obtain ⟨c1, h⟩ := h
  refine ⟨c1, ?_⟩
  refine cm_X4_next (kj_X4_next hU (fun q hq => hL q ((by decide : ∀ q ∈ kjL_X4_next, q ∈ kjL_X4_side) q hq)) h) h (fun x2 p4 h g3 => ?_)
  have h := h g3
  have K := kj9_tr K p4.2
  exact ⟨h, K⟩
set_option maxRecDepth 20000 in
set_option maxHeartbeats 1000000 in
theorem kj_X4_side_0 {L : List (Nat × Nat)} (hU : ∀ q ∈ L, q ∈ njT) (hL : ∀ q ∈ kjL_X4_side, q ∈ L) {Q : Int32 → HS → Prop} {v0 : Nat} {S0 S : HS} (h : P_X4_side_0 Q v0 S) (K : KJ L S0 S) : P_X4_side_0 (fun r T => Q r T ∧ KJ L S0 T) v0 S := by
  delta P_X4_side_0 at h ⊢
  obtain ⟨c1, h⟩ := h
  refine ⟨c1, ?_⟩
  have n2 := kj9_nk K c1 (by decide)
  refine cm_X4_is (kj_X4_is hU (fun q hq => hL q ((by decide : ∀ q ∈ kjL_X4_is, q ∈ kjL_X4_side) q hq)) h) h (fun x3 x4 p7 h g5 g6 => ?_)
  have h := h g5 g6
  have K := kj9_tr K p7.2
  refine ⟨?_, ?_⟩
  · intro c8
    have h := h.1 c8
    refine cm_X4_is (kj_X4_is hU (fun q hq => hL q ((by decide : ∀ q ∈ kjL_X4_is, q ∈ kjL_X4_side) q hq)) h) h (fun x9 x10 p13 h g11 g12 => ?_)
    have h := h g11 g12
    have K := kj9_tr K p13.2
    refine ⟨?_, ?_⟩
    · intro c14
      have h := h.1 c14
      refine cm_X4_is (kj_X4_is hU (fun q hq => hL q ((by decide : ∀ q ∈ kjL_X4_is, q ∈ kjL_X4_side) q hq)) h) h (fun x15 x16 p19 h g17 g18 => ?_)
      have h := h g17 g18
      have K := kj9_tr K p19.2
      refine ⟨?_, ?_⟩
      · intro c20
        have h := h.1 c20
        refine cm_X4_is (kj_X4_is hU (fun q hq => hL q ((by decide : ∀ q ∈ kjL_X4_is, q ∈ kjL_X4_side) q hq)) h) h (fun x21 x22 p25 h g23 g24 => ?_)
        have h := h g23 g24
        have K := kj9_tr K p25.2
        refine ⟨?_, ?_⟩
        · intro c26
          have h := h.1 c26
          refine cm_X4_fail (kj_X4_fail hU (fun q hq => hL q ((by decide : ∀ q ∈ kjL_X4_fail, q ∈ kjL_X4_side) q hq)) h) h (fun x27 x28 p31 h g29 g30 => ?_)
          have h := h g29 g30
          have K := kj9_tr K p31.2
          obtain ⟨c32, h⟩ := h
          refine ⟨c32, ?_⟩
          exact ⟨h, K⟩
        · intro c33
          have h := h.2 c33
          intro x35 e34
          have h := h x35 e34
          have K := kj9_I K e34 n2
          exact kj_X4_side_74 hU hL h K
      · intro c36
        have h := h.2 c36
        intro x38 e37
        have h := h x38 e37
        have K := kj9_I K e37 n2
        exact kj_X4_side_74 hU hL h K
    · intro c39
      have h := h.2 c39
      intro x41 e40
      have h := h x41 e40
      have K := kj9_I K e40 n2
      exact kj_X4_side_74 hU hL h K
  · intro c42
    have h := h.2 c42
    intro x44 e43
    have h := h x44 e43
    have K := kj9_I K e43 n2
    exact kj_X4_side_74 hU hL h K
theorem kj_X4_side {L : List (Nat × Nat)} (hU : ∀ q ∈ L, q ∈ njT) (hL : ∀ q ∈ kjL_X4_side, q ∈ L) {Q : Int32 → HS → Prop} {v0 : Nat} {S : HS} (h : P_X4_side v0 Q S) : P_X4_side v0 (fun r T => Q r T ∧ KJ L S T) S := kj_X4_side_0 hU hL h (kj9_rf L S)
end
section
abbrev kjL_X4_rainLine : List (Nat × Nat) := []
set_option maxRecDepth 20000 in
set_option maxHeartbeats 1000000 in
theorem kj_X4_rainLine_0 {L : List (Nat × Nat)} (hU : ∀ q ∈ L, q ∈ njT) (hL : ∀ q ∈ kjL_X4_rainLine, q ∈ L) {Q : Int32 → HS → Prop} {v0 : Nat} {S0 S : HS} (h : P_X4_rainLine_0 Q v0 S) (K : KJ L S0 S) : P_X4_rainLine_0 (fun r T => Q r T ∧ KJ L S0 T) v0 S := by
  delta P_X4_rainLine_0 at h ⊢
  obtain ⟨c1, h⟩ := h
  refine ⟨c1, ?_⟩
  have o2 := c1
  obtain ⟨b3, e4, h⟩ := h
  refine ⟨b3, e4, ?_⟩
  obtain ⟨c5, h⟩ := h
  refine ⟨c5, ?_⟩
  have o6 := c5
  obtain ⟨b7, e8, h⟩ := h
  refine ⟨b7, e8, ?_⟩
  obtain ⟨b9, e10, h⟩ := h
  refine ⟨b9, e10, ?_⟩
  obtain ⟨c11, h⟩ := h
  refine ⟨c11, ?_⟩
  intro x13 e12
  have h := h x13 e12
  obtain ⟨c14, h⟩ := h
  refine ⟨c14, ?_⟩
  obtain ⟨c15, h⟩ := h
  refine ⟨c15, ?_⟩
  obtain ⟨b16, e17, h⟩ := h
  refine ⟨b16, e17, ?_⟩
  refine cm_X4_wordAndWhole (kj_X4_wordAndWhole hU (fun q hq => hL q ((by decide : ∀ q ∈ kjL_X4_wordAndWhole, q ∈ kjL_X4_rainLine) q hq)) h) h (fun x18 x19 p22 h g20 g21 => ?_)
  have h := h g20 g21
  have K := kj9_tr K p22.2
  have o2 := gr_ob p22.2.1 o2
  have o6 := gr_ob p22.2.1 o6
  refine ⟨?_, ?_⟩
  · intro c23
    have h := h.1 c23
    intro x25 e24
    have h := h x25 e24
    obtain ⟨c26, h⟩ := h
    refine ⟨c26, ?_⟩
    have n27 := kj9_nk K c26 (by decide)
    intro x29 e28
    have h := h x29 e28
    have K := kj9_I K e28 n27
    have o2 := ob_wI o2 e28
    have o6 := ob_wI o6 e28
    refine cm_X4_wordAndWhole (kj_X4_wordAndWhole hU (fun q hq => hL q ((by decide : ∀ q ∈ kjL_X4_wordAndWhole, q ∈ kjL_X4_rainLine) q hq)) h) h (fun x30 x31 p34 h g32 g33 => ?_)
    have h := h g32 g33
    have K := kj9_tr K p34.2
    have o2 := gr_ob p34.2.1 o2
    have o6 := gr_ob p34.2.1 o6
    refine ⟨?_, ?_⟩
    · intro c35
      have h := h.1 c35
      intro x37 e36
      have h := h x37 e36
      intro x39 e38
      have h := h x39 e38
      have K := kj9_I K e38 n27
      have o2 := ob_wI o2 e38
      have o6 := ob_wI o6 e38
      refine cm_X4_word (kj_X4_word hU (fun q hq => hL q ((by decide : ∀ q ∈ kjL_X4_word, q ∈ kjL_X4_rainLine) q hq)) h) h (fun x40 x41 p44 h g42 g43 => ?_)
      have h := h g42 g43
      have K := kj9_tr K p44.2
      have o2 := gr_ob p44.2.1 o2
      have o6 := gr_ob p44.2.1 o6
      refine ⟨?_, ?_⟩
      · intro c45
        have h := h.1 c45
        exact ⟨h, K⟩
      · intro c46
        have h := h.2 c46
        refine cm_X4_side (kj_X4_side hU (fun q hq => hL q ((by decide : ∀ q ∈ kjL_X4_side, q ∈ kjL_X4_rainLine) q hq)) h) h (fun x47 x48 p51 h g49 g50 => ?_)
        have h := h g49 g50
        have K := kj9_tr K p51.2
        have o2 := gr_ob p51.2.1 o2
        have o6 := gr_ob p51.2.1 o6
        refine ⟨?_, ?_⟩
        · intro c52
          have h := h.1 c52
          intro x54 e53
          have h := h x54 e53
          intro x56 e55
          have h := h x56 e55
          have K := kj9_I K e55 n27
          have o2 := ob_wI o2 e55
          have o6 := ob_wI o6 e55
          refine cm_X4_whole (kj_X4_whole hU (fun q hq => hL q ((by decide : ∀ q ∈ kjL_X4_whole, q ∈ kjL_X4_rainLine) q hq)) h) h (fun x57 x58 p61 h g59 g60 => ?_)
          have h := h g59 g60
          have K := kj9_tr K p61.2
          have o2 := gr_ob p61.2.1 o2
          have o6 := gr_ob p61.2.1 o6
          refine ⟨?_, ?_⟩
          · intro c62
            have h := h.1 c62
            intro x64 e63
            have h := h x64 e63
            intro x66 e65
            have h := h x66 e65
            have K := kj9_I K e65 n27
            have o2 := ob_wI o2 e65
            have o6 := ob_wI o6 e65
            refine cm_X4_wordAndWhole (kj_X4_wordAndWhole hU (fun q hq => hL q ((by decide : ∀ q ∈ kjL_X4_wordAndWhole, q ∈ kjL_X4_rainLine) q hq)) h) h (fun x67 x68 p71 h g69 g70 => ?_)
            have h := h g69 g70
            have K := kj9_tr K p71.2
            have o2 := gr_ob p71.2.1 o2
            have o6 := gr_ob p71.2.1 o6
            refine ⟨?_, ?_⟩
            · intro c72
              have h := h.1 c72
              intro x74 e73
              have h := h x74 e73
              intro x76 e75
              have h := h x76 e75
              have K := kj9_I K e75 n27
              have o2 := ob_wI o2 e75
              have o6 := ob_wI o6 e75
              obtain ⟨b77, e78, h⟩ := h
              refine ⟨b77, e78, ?_⟩
              obtain ⟨c79, h⟩ := h
              refine ⟨c79, ?_⟩
              have n80 := kj9_nk K c79 (by decide)
              intro x82 e81
              have h := h x82 e81
              intro x84 e83
              have h := h x84 e83
              intro x86 e85
              have h := h x86 e85
              have K := kj9_I K e85 n80
              have o2 := ob_wI o2 e85
              have o6 := ob_wI o6 e85
              exact ⟨h, K⟩
            · intro c87
              have h := h.2 c87
              exact ⟨h, K⟩
          · intro c88
            have h := h.2 c88
            exact ⟨h, K⟩
        · intro c89
          have h := h.2 c89
          exact ⟨h, K⟩
    · intro c90
      have h := h.2 c90
      exact ⟨h, K⟩
  · intro c91
    have h := h.2 c91
    exact ⟨h, K⟩
theorem kj_X4_rainLine {L : List (Nat × Nat)} (hU : ∀ q ∈ L, q ∈ njT) (hL : ∀ q ∈ kjL_X4_rainLine, q ∈ L) {Q : Int32 → HS → Prop} {v0 : Nat} {S : HS} (h : P_X4_rainLine v0 Q S) : P_X4_rainLine v0 (fun r T => Q r T ∧ KJ L S T) S := kj_X4_rainLine_0 hU hL h (kj9_rf L S)
abbrev kjL_X4_roadLine : List (Nat × Nat) := []
set_option maxRecDepth 20000 in
set_option maxHeartbeats 1000000 in
theorem kj_X4_roadLine_130 {L : List (Nat × Nat)} (hU : ∀ q ∈ L, q ∈ njT) (hL : ∀ q ∈ kjL_X4_roadLine, q ∈ L) {Q : Int32 → HS → Prop} {v0 : Nat} {S0 S : HS} (h : P_X4_roadLine_130 Q v0 S) (K : KJ L S0 S) : P_X4_roadLine_130 (fun r T => Q r T ∧ KJ L S0 T) v0 S := by
  delta P_X4_roadLine_130 at h ⊢
  obtain ⟨c1, h⟩ := h
  refine ⟨c1, ?_⟩
  have o2 := c1
  obtain ⟨b3, e4, h⟩ := h
  refine ⟨b3, e4, ?_⟩
  obtain ⟨c5, h⟩ := h
  refine ⟨c5, ?_⟩
  have n6 := kj9_nk K c5 (by decide)
  intro x8 e7
  have h := h x8 e7
  intro x10 e9
  have h := h x10 e9
  intro x12 e11
  have h := h x12 e11
  have K := kj9_I K e11 n6
  have o2 := ob_wI o2 e11
  exact ⟨h, K⟩
set_option maxRecDepth 20000 in
set_option maxHeartbeats 1000000 in
theorem kj_X4_roadLine_0 {L : List (Nat × Nat)} (hU : ∀ q ∈ L, q ∈ njT) (hL : ∀ q ∈ kjL_X4_roadLine, q ∈ L) {Q : Int32 → HS → Prop} {v0 : Nat} {S0 S : HS} (h : P_X4_roadLine_0 Q v0 S) (K : KJ L S0 S) : P_X4_roadLine_0 (fun r T => Q r T ∧ KJ L S0 T) v0 S := by
  delta P_X4_roadLine_0 at h ⊢
  obtain ⟨c1, h⟩ := h
  refine ⟨c1, ?_⟩
  have o2 := c1
  obtain ⟨b3, e4, h⟩ := h
  refine ⟨b3, e4, ?_⟩
  obtain ⟨c5, h⟩ := h
  refine ⟨c5, ?_⟩
  have o6 := c5
  obtain ⟨b7, e8, h⟩ := h
  refine ⟨b7, e8, ?_⟩
  obtain ⟨b9, e10, h⟩ := h
  refine ⟨b9, e10, ?_⟩
  obtain ⟨c11, h⟩ := h
  refine ⟨c11, ?_⟩
  intro x13 e12
  have h := h x13 e12
  obtain ⟨c14, h⟩ := h
  refine ⟨c14, ?_⟩
  obtain ⟨c15, h⟩ := h
  refine ⟨c15, ?_⟩
  obtain ⟨b16, e17, h⟩ := h
  refine ⟨b16, e17, ?_⟩
  refine cm_X4_placeBut (kj_X4_placeBut hU (fun q hq => hL q ((by decide : ∀ q ∈ kjL_X4_placeBut, q ∈ kjL_X4_roadLine) q hq)) h) h (fun x18 x19 p22 h g20 g21 => ?_)
  have h := h g20 g21
  have K := kj9_tr K p22.2
  have o2 := gr_ob p22.2.1 o2
  have o6 := gr_ob p22.2.1 o6
  refine ⟨?_, ?_⟩
  · intro c23
    have h := h.1 c23
    intro x25 e24
    have h := h x25 e24
    obtain ⟨c26, h⟩ := h
    refine ⟨c26, ?_⟩
    have n27 := kj9_nk K c26 (by decide)
    intro x29 e28
    have h := h x29 e28
    have K := kj9_I K e28 n27
    have o2 := ob_wI o2 e28
    have o6 := ob_wI o6 e28
    refine cm_X4_side (kj_X4_side hU (fun q hq => hL q ((by decide : ∀ q ∈ kjL_X4_side, q ∈ kjL_X4_roadLine) q hq)) h) h (fun x30 x31 p34 h g32 g33 => ?_)
    have h := h g32 g33
    have K := kj9_tr K p34.2
    have o2 := gr_ob p34.2.1 o2
    have o6 := gr_ob p34.2.1 o6
    refine ⟨?_, ?_⟩
    · intro c35
      have h := h.1 c35
      intro x37 e36
      have h := h x37 e36
      intro x39 e38
      have h := h x39 e38
      have K := kj9_I K e38 n27
      have o2 := ob_wI o2 e38
      have o6 := ob_wI o6 e38
      refine cm_X4_whole (kj_X4_whole hU (fun q hq => hL q ((by decide : ∀ q ∈ kjL_X4_whole, q ∈ kjL_X4_roadLine) q hq)) h) h (fun x40 x41 p44 h g42 g43 => ?_)
      have h := h g42 g43
      have K := kj9_tr K p44.2
      have o2 := gr_ob p44.2.1 o2
      have o6 := gr_ob p44.2.1 o6
      refine ⟨?_, ?_⟩
      · intro c45
        have h := h.1 c45
        intro x47 e46
        have h := h x47 e46
        intro x49 e48
        have h := h x49 e48
        have K := kj9_I K e48 n27
        have o2 := ob_wI o2 e48
        have o6 := ob_wI o6 e48
        intro x51 e50
        have h := h x51 e50
        refine cm_X4_placeBut (kj_X4_placeBut hU (fun q hq => hL q ((by decide : ∀ q ∈ kjL_X4_placeBut, q ∈ kjL_X4_roadLine) q hq)) h) h (fun x52 x53 p56 h g54 g55 => ?_)
        have h := h g54 g55
        have K := kj9_tr K p56.2
        have o2 := gr_ob p56.2.1 o2
        have o6 := gr_ob p56.2.1 o6
        refine ⟨?_, ?_⟩
        · intro c57
          have h := h.1 c57
          intro x59 e58
          have h := h x59 e58
          intro x61 e60
          have h := h x61 e60
          have K := kj9_I K e60 n27
          have o2 := ob_wI o2 e60
          have o6 := ob_wI o6 e60
          intro x63 e62
          have h := h x63 e62
          have K := kj9_I K e62 n27
          have o2 := ob_wI o2 e62
          have o6 := ob_wI o6 e62
          refine cm_X4_is (kj_X4_is hU (fun q hq => hL q ((by decide : ∀ q ∈ kjL_X4_is, q ∈ kjL_X4_roadLine) q hq)) h) h (fun x64 x65 p68 h g66 g67 => ?_)
          have h := h g66 g67
          have K := kj9_tr K p68.2
          have o2 := gr_ob p68.2.1 o2
          have o6 := gr_ob p68.2.1 o6
          refine ⟨?_, ?_⟩
          · intro c69
            have h := h.1 c69
            exact kj_X4_roadLine_130 hU hL h K
          · intro c70
            have h := h.2 c70
            intro x72 e71
            have h := h x72 e71
            refine cm_X4_wordAndWhole (kj_X4_wordAndWhole hU (fun q hq => hL q ((by decide : ∀ q ∈ kjL_X4_wordAndWhole, q ∈ kjL_X4_roadLine) q hq)) h) h (fun x73 x74 p77 h g75 g76 => ?_)
            have h := h g75 g76
            have K := kj9_tr K p77.2
            have o2 := gr_ob p77.2.1 o2
            have o6 := gr_ob p77.2.1 o6
            refine ⟨?_, ?_⟩
            · intro c78
              have h := h.1 c78
              intro x80 e79
              have h := h x80 e79
              intro x82 e81
              have h := h x82 e81
              have K := kj9_I K e81 n27
              have o2 := ob_wI o2 e81
              have o6 := ob_wI o6 e81
              exact kj_X4_roadLine_130 hU hL h K
            · intro c83
              have h := h.2 c83
              exact ⟨h, K⟩
        · intro c84
          have h := h.2 c84
          exact ⟨h, K⟩
      · intro c85
        have h := h.2 c85
        exact ⟨h, K⟩
    · intro c86
      have h := h.2 c86
      exact ⟨h, K⟩
  · intro c87
    have h := h.2 c87
    exact ⟨h, K⟩
theorem kj_X4_roadLine {L : List (Nat × Nat)} (hU : ∀ q ∈ L, q ∈ njT) (hL : ∀ q ∈ kjL_X4_roadLine, q ∈ L) {Q : Int32 → HS → Prop} {v0 : Nat} {S : HS} (h : P_X4_roadLine v0 Q S) : P_X4_roadLine v0 (fun r T => Q r T ∧ KJ L S T) S := kj_X4_roadLine_0 hU hL h (kj9_rf L S)
abbrev kjL_X4_sign : List (Nat × Nat) := []
set_option maxRecDepth 20000 in
set_option maxHeartbeats 1000000 in
theorem kj_X4_sign_0 {L : List (Nat × Nat)} (hU : ∀ q ∈ L, q ∈ njT) (hL : ∀ q ∈ kjL_X4_sign, q ∈ L) {Q : Int32 → HS → Prop} {v0 : Nat} {v1 : Int32} {S0 S : HS} (h : P_X4_sign_0 Q v0 v1 S) (K : KJ L S0 S) : P_X4_sign_0 (fun r T => Q r T ∧ KJ L S0 T) v0 v1 S := by
  delta P_X4_sign_0 at h ⊢
  obtain ⟨c1, h⟩ := h
  refine ⟨c1, ?_⟩
  intro x3 e2
  have h := h x3 e2
  refine ⟨?_, ?_⟩
  · intro c4
    have h := h.1 c4
    refine cm_X4_next (kj_X4_next hU (fun q hq => hL q ((by decide : ∀ q ∈ kjL_X4_next, q ∈ kjL_X4_sign) q hq)) h) h (fun x5 p7 h g6 => ?_)
    have h := h g6
    have K := kj9_tr K p7.2
    exact ⟨h, K⟩
  · intro c8
    have h := h.2 c8
    refine cm_X4_fail (kj_X4_fail hU (fun q hq => hL q ((by decide : ∀ q ∈ kjL_X4_fail, q ∈ kjL_X4_sign) q hq)) h) h (fun x9 x10 p13 h g11 g12 => ?_)
    have h := h g11 g12
    have K := kj9_tr K p13.2
    obtain ⟨c14, h⟩ := h
    refine ⟨c14, ?_⟩
    exact ⟨h, K⟩
theorem kj_X4_sign {L : List (Nat × Nat)} (hU : ∀ q ∈ L, q ∈ njT) (hL : ∀ q ∈ kjL_X4_sign, q ∈ L) {Q : Int32 → HS → Prop} {v0 : Nat} {v1 : Int32} {S : HS} (h : P_X4_sign v0 v1 Q S) : P_X4_sign v0 v1 (fun r T => Q r T ∧ KJ L S T) S := kj_X4_sign_0 hU hL h (kj9_rf L S)
abbrev kjL_X4_someWalker : List (Nat × Nat) := []
set_option maxRecDepth 20000 in
set_option maxHeartbeats 1000000 in
theorem kj_X4_someWalker_0 {L : List (Nat × Nat)} (hU : ∀ q ∈ L, q ∈ njT) (hL : ∀ q ∈ kjL_X4_someWalker, q ∈ L) {Q : Int32 → HS → Prop} {v0 : Nat} {S0 S : HS} (h : P_X4_someWalker_0 Q v0 S) (K : KJ L S0 S) : P_X4_someWalker_0 (fun r T => Q r T ∧ KJ L S0 T) v0 S := by
  delta P_X4_someWalker_0 at h ⊢
  obtain ⟨c1, h⟩ := h
  refine ⟨c1, ?_⟩
  have n2 := kj9_nk K c1 (by decide)
  refine cm_X4_canBeName (kj_X4_canBeName hU (fun q hq => hL q ((by decide : ∀ q ∈ kjL_X4_canBeName, q ∈ kjL_X4_someWalker) q hq)) h) h (fun x3 x4 p7 h g5 g6 => ?_)
  have h := h g5 g6
  have K := kj9_tr K p7.2
  refine ⟨?_, ?_⟩
  · intro c8
    have h := h.1 c8
    refine cm_X4_findName (kj_X4_findName hU (fun q hq => hL q ((by decide : ∀ q ∈ kjL_X4_findName, q ∈ kjL_X4_someWalker) q hq)) h) h (fun x9 x10 p12 h g11 => ?_)
    have h := h g11
    have K := kj9_tr K p12.2
    refine ⟨?_, ?_⟩
    · intro c13
      have h := h.1 c13
      intro x15 e14
      have h := h x15 e14
      intro x17 e16
      have h := h x17 e16
      have K := kj9_I K e16 n2
      refine cm_X4_next (kj_X4_next hU (fun q hq => hL q ((by decide : ∀ q ∈ kjL_X4_next, q ∈ kjL_X4_someWalker) q hq)) h) h (fun x18 p20 h g19 => ?_)
      have h := h g19
      have K := kj9_tr K p20.2
      exact ⟨h, K⟩
    · intro c21
      have h := h.2 c21
      refine cm_X4_fail (kj_X4_fail hU (fun q hq => hL q ((by decide : ∀ q ∈ kjL_X4_fail, q ∈ kjL_X4_someWalker) q hq)) h) h (fun x22 x23 p26 h g24 g25 => ?_)
      have h := h g24 g25
      have K := kj9_tr K p26.2
      obtain ⟨c27, h⟩ := h
      refine ⟨c27, ?_⟩
      exact ⟨h, K⟩
  · intro c28
    have h := h.2 c28
    refine cm_X4_fail (kj_X4_fail hU (fun q hq => hL q ((by decide : ∀ q ∈ kjL_X4_fail, q ∈ kjL_X4_someWalker) q hq)) h) h (fun x29 x30 p33 h g31 g32 => ?_)
    have h := h g31 g32
    have K := kj9_tr K p33.2
    obtain ⟨c34, h⟩ := h
    refine ⟨c34, ?_⟩
    exact ⟨h, K⟩
theorem kj_X4_someWalker {L : List (Nat × Nat)} (hU : ∀ q ∈ L, q ∈ njT) (hL : ∀ q ∈ kjL_X4_someWalker, q ∈ L) {Q : Int32 → HS → Prop} {v0 : Nat} {S : HS} (h : P_X4_someWalker v0 Q S) : P_X4_someWalker v0 (fun r T => Q r T ∧ KJ L S T) S := kj_X4_someWalker_0 hU hL h (kj9_rf L S)
abbrev kjL_X4_seenLine : List (Nat × Nat) := [(8, 10), (8, 11)]
set_option maxRecDepth 20000 in
set_option maxHeartbeats 1000000 in
theorem kj_X4_seenLine_47 {L : List (Nat × Nat)} (hU : ∀ q ∈ L, q ∈ njT) (hL : ∀ q ∈ kjL_X4_seenLine, q ∈ L) {Q : Int32 → HS → Prop} {X30 X30_2 : Nat → Int32 → HS → Prop} {v0 : Nat} {v1 : Int32} {S0 S : HS} (h : P_X4_seenLine_47 Q X30 v0 v1 S) (K : KJ L S0 S) (hX30 : ∀ (u0 : Nat) (u1 : Int32) (u2 : HS), X30 u0 u1 u2 → KJ L S0 u2 → X30_2 u0 u1 u2) : P_X4_seenLine_47 (fun r T => Q r T ∧ KJ L S0 T) X30_2 v0 v1 S := by
  delta P_X4_seenLine_47 at h ⊢
  obtain ⟨c1, h⟩ := h
  refine ⟨c1, ?_⟩
  have o2 := c1
  refine cm_X4_whole (kj_X4_whole hU (fun q hq => hL q ((by decide : ∀ q ∈ kjL_X4_whole, q ∈ kjL_X4_seenLine) q hq)) h) h (fun x3 x4 p7 h g5 g6 => ?_)
  have h := h g5 g6
  have K := kj9_tr K p7.2
  have o2 := gr_ob p7.2.1 o2
  refine ⟨?_, ?_⟩
  · intro c8
    have h := h.1 c8
    obtain ⟨b9, e10, h⟩ := h
    refine ⟨b9, e10, ?_⟩
    obtain ⟨c11, h⟩ := h
    refine ⟨c11, ?_⟩
    have o12 := c11
    obtain ⟨b13, e14, h⟩ := h
    refine ⟨b13, e14, ?_⟩
    have n15 := kj9_nr K e14 o12 (hL _ (by decide))
    obtain ⟨b16, e17, h⟩ := h
    refine ⟨b16, e17, ?_⟩
    obtain ⟨c18, h⟩ := h
    refine ⟨c18, ?_⟩
    intro x20 e19
    have h := h x20 e19
    intro x22 e21
    have h := h x22 e21
    obtain ⟨c23, h⟩ := h
    refine ⟨c23, ?_⟩
    obtain ⟨c24, h⟩ := h
    refine ⟨c24, ?_⟩
    intro x26 e25
    have h := h x26 e25
    have K := kj9_I K e25 n15
    have o2 := ob_wI o2 e25
    have o12 := ob_wI o12 e25
    intro x28 e27
    have h := h x28 e27
    exact hX30 _ _ _ h K
  · intro c29
    have h := h.2 c29
    exact ⟨h, K⟩
set_option maxRecDepth 20000 in
set_option maxHeartbeats 1000000 in
theorem kjB_X4_seenLine_30 {L : List (Nat × Nat)} (hU : ∀ q ∈ L, q ∈ njT) (hL : ∀ q ∈ kjL_X4_seenLine, q ∈ L) {Q : Int32 → HS → Prop} {X30 X30_2 : Nat → Int32 → HS → Prop} {v0 : Nat} {v1 : Int32} {S0 S : HS} (h : B_X4_seenLine_30 Q X30 v0 v1 S) (K : KJ L S0 S) (hX30 : ∀ (u0 : Nat) (u1 : Int32) (u2 : HS), X30 u0 u1 u2 → KJ L S0 u2 → X30_2 u0 u1 u2) : B_X4_seenLine_30 (fun r T => Q r T ∧ KJ L S0 T) X30_2 v0 v1 S := by
  delta B_X4_seenLine_30 at h ⊢
  refine ⟨?_, ?_⟩
  · intro c1
    have h := h.1 c1
    obtain ⟨c2, h⟩ := h
    refine ⟨c2, ?_⟩
    have o3 := c2
    obtain ⟨b4, e5, h⟩ := h
    refine ⟨b4, e5, ?_⟩
    obtain ⟨c6, h⟩ := h
    refine ⟨c6, ?_⟩
    have n7 := kj9_nk K c6 (by decide)
    intro x9 e8
    have h := h x9 e8
    intro x11 e10
    have h := h x11 e10
    intro x13 e12
    have h := h x13 e12
    have K := kj9_I K e12 n7
    have o3 := ob_wI o3 e12
    exact ⟨h, K⟩
  · intro c14
    have h := h.2 c14
    refine ⟨?_, ?_⟩
    · intro c15
      have h := h.1 c15
      exact kj_X4_seenLine_47 hU hL h K hX30
    · intro c16
      have h := h.2 c16
      obtain ⟨c17, h⟩ := h
      refine ⟨c17, ?_⟩
      have o18 := c17
      refine cm_X4_sign (kj_X4_sign hU (fun q hq => hL q ((by decide : ∀ q ∈ kjL_X4_sign, q ∈ kjL_X4_seenLine) q hq)) h) h (fun x19 x20 p23 h g21 g22 => ?_)
      have h := h g21 g22
      have K := kj9_tr K p23.2
      have o18 := gr_ob p23.2.1 o18
      refine ⟨?_, ?_⟩
      · intro c24
        have h := h.1 c24
        exact ⟨h, K⟩
      · intro c25
        have h := h.2 c25
        exact kj_X4_seenLine_47 hU hL h K hX30
theorem kj_X4_seenLine_30 {L : List (Nat × Nat)} (hU : ∀ q ∈ L, q ∈ njT) (hL : ∀ q ∈ kjL_X4_seenLine, q ∈ L) {Q : Int32 → HS → Prop} {v0 : Nat} {v1 : Int32} {S0 S : HS} (h : P_X4_seenLine_30 Q v0 v1 S) (K : KJ L S0 S) : P_X4_seenLine_30 (fun r T => Q r T ∧ KJ L S0 T) v0 v1 S := h (fun v0 v1 S => KJ L S0 S → P_X4_seenLine_30 (fun r T => Q r T ∧ KJ L S0 T) v0 v1 S) (fun v0 v1 S hB K => fd_X4_seenLine_30 (kjB_X4_seenLine_30 hU hL hB K (fun _ _ _ hx K => hx K))) K
set_option maxRecDepth 20000 in
set_option maxHeartbeats 1000000 in
theorem kj_X4_seenLine_0 {L : List (Nat × Nat)} (hU : ∀ q ∈ L, q ∈ njT) (hL : ∀ q ∈ kjL_X4_seenLine, q ∈ L) {Q : Int32 → HS → Prop} {v0 : Nat} {S0 S : HS} (h : P_X4_seenLine_0 Q v0 S) (K : KJ L S0 S) : P_X4_seenLine_0 (fun r T => Q r T ∧ KJ L S0 T) v0 S := by
  delta P_X4_seenLine_0 at h ⊢
  obtain ⟨c1, h⟩ := h
  refine ⟨c1, ?_⟩
  have o2 := c1
  refine cm_X4_someWalker (kj_X4_someWalker hU (fun q hq => hL q ((by decide : ∀ q ∈ kjL_X4_someWalker, q ∈ kjL_X4_seenLine) q hq)) h) h (fun x3 x4 p7 h g5 g6 => ?_)
  have h := h g5 g6
  have K := kj9_tr K p7.2
  have o2 := gr_ob p7.2.1 o2
  refine ⟨?_, ?_⟩
  · intro c8
    have h := h.1 c8
    obtain ⟨b9, e10, h⟩ := h
    refine ⟨b9, e10, ?_⟩
    obtain ⟨c11, h⟩ := h
    refine ⟨c11, ?_⟩
    have o12 := c11
    obtain ⟨b13, e14, h⟩ := h
    refine ⟨b13, e14, ?_⟩
    have n15 := kj9_nr K e14 o12 (hL _ (by decide))
    obtain ⟨b16, e17, h⟩ := h
    refine ⟨b16, e17, ?_⟩
    obtain ⟨c18, h⟩ := h
    refine ⟨c18, ?_⟩
    intro x20 e19
    have h := h x20 e19
    intro x22 e21
    have h := h x22 e21
    obtain ⟨c23, h⟩ := h
    refine ⟨c23, ?_⟩
    obtain ⟨c24, h⟩ := h
    refine ⟨c24, ?_⟩
    intro x26 e25
    have h := h x26 e25
    have K := kj9_I K e25 n15
    have o2 := ob_wI o2 e25
    have o12 := ob_wI o12 e25
    exact kj_X4_seenLine_30 hU hL h K
  · intro c27
    have h := h.2 c27
    exact ⟨h, K⟩
theorem kj_X4_seenLine {L : List (Nat × Nat)} (hU : ∀ q ∈ L, q ∈ njT) (hL : ∀ q ∈ kjL_X4_seenLine, q ∈ L) {Q : Int32 → HS → Prop} {v0 : Nat} {S : HS} (h : P_X4_seenLine v0 Q S) : P_X4_seenLine v0 (fun r T => Q r T ∧ KJ L S T) S := kj_X4_seenLine_0 hU hL h (kj9_rf L S)
abbrev kjL_X4_walkerLine : List (Nat × Nat) := [(4, 12)]
set_option maxRecDepth 20000 in
set_option maxHeartbeats 1000000 in
theorem kj_X4_walkerLine_0 {L : List (Nat × Nat)} (hU : ∀ q ∈ L, q ∈ njT) (hL : ∀ q ∈ kjL_X4_walkerLine, q ∈ L) {Q : Int32 → HS → Prop} {v0 : Nat} {S0 S : HS} (h : P_X4_walkerLine_0 Q v0 S) (K : KJ L S0 S) : P_X4_walkerLine_0 (fun r T => Q r T ∧ KJ L S0 T) v0 S := by
  delta P_X4_walkerLine_0 at h ⊢
  obtain ⟨c1, h⟩ := h
  refine ⟨c1, ?_⟩
  have o2 := c1
  obtain ⟨b3, e4, h⟩ := h
  refine ⟨b3, e4, ?_⟩
  obtain ⟨c5, h⟩ := h
  refine ⟨c5, ?_⟩
  have o6 := c5
  obtain ⟨b7, e8, h⟩ := h
  refine ⟨b7, e8, ?_⟩
  obtain ⟨b9, e10, h⟩ := h
  refine ⟨b9, e10, ?_⟩
  obtain ⟨c11, h⟩ := h
  refine ⟨c11, ?_⟩
  intro x13 e12
  have h := h x13 e12
  obtain ⟨c14, h⟩ := h
  refine ⟨c14, ?_⟩
  obtain ⟨c15, h⟩ := h
  refine ⟨c15, ?_⟩
  obtain ⟨b16, e17, h⟩ := h
  refine ⟨b16, e17, ?_⟩
  obtain ⟨b18, e19, h⟩ := h
  refine ⟨b18, e19, ?_⟩
  obtain ⟨c20, h⟩ := h
  refine ⟨c20, ?_⟩
  intro x22 e21
  have h := h x22 e21
  refine cm_X4_newName (kj_X4_newName hU (fun q hq => hL q ((by decide : ∀ q ∈ kjL_X4_newName, q ∈ kjL_X4_walkerLine) q hq)) h) h (fun x23 x24 p27 h g25 g26 => ?_)
  have h := h g25 g26
  have K := kj9_tr K p27.2
  have o2 := gr_ob p27.2.1 o2
  have o6 := gr_ob p27.2.1 o6
  refine ⟨?_, ?_⟩
  · intro c28
    have h := h.1 c28
    exact ⟨h, K⟩
  · intro c29
    have h := h.2 c29
    refine cm_X4_kindOf (kj_X4_kindOf hU (fun q hq => hL q ((by decide : ∀ q ∈ kjL_X4_kindOf, q ∈ kjL_X4_walkerLine) q hq)) h) h (fun x30 x31 p34 h g32 g33 => ?_)
    have h := h g32 g33
    have K := kj9_tr K p34.2
    have o2 := gr_ob p34.2.1 o2
    have o6 := gr_ob p34.2.1 o6
    refine ⟨?_, ?_⟩
    · intro c35
      have h := h.1 c35
      exact ⟨h, K⟩
    · intro c36
      have h := h.2 c36
      refine cm_X4_bodyOf (kj_X4_bodyOf hU (fun q hq => hL q ((by decide : ∀ q ∈ kjL_X4_bodyOf, q ∈ kjL_X4_walkerLine) q hq)) h) h (fun x37 x38 p41 h g39 g40 => ?_)
      have h := h g39 g40
      have K := kj9_tr K p41.2
      have o2 := gr_ob p41.2.1 o2
      have o6 := gr_ob p41.2.1 o6
      refine ⟨?_, ?_⟩
      · intro c42
        have h := h.1 c42
        refine cm_X4_wordAndWhole (kj_X4_wordAndWhole hU (fun q hq => hL q ((by decide : ∀ q ∈ kjL_X4_wordAndWhole, q ∈ kjL_X4_walkerLine) q hq)) h) h (fun x43 x44 p47 h g45 g46 => ?_)
        have h := h g45 g46
        have K := kj9_tr K p47.2
        have o2 := gr_ob p47.2.1 o2
        have o6 := gr_ob p47.2.1 o6
        refine ⟨?_, ?_⟩
        · intro c48
          have h := h.1 c48
          intro x50 e49
          have h := h x50 e49
          obtain ⟨c51, h⟩ := h
          refine ⟨c51, ?_⟩
          have n52 := kj9_nk K c51 (by decide)
          intro x54 e53
          have h := h x54 e53
          have K := kj9_I K e53 n52
          have o2 := ob_wI o2 e53
          have o6 := ob_wI o6 e53
          intro x56 e55
          have h := h x56 e55
          refine cm_X4_wordAndWhole (kj_X4_wordAndWhole hU (fun q hq => hL q ((by decide : ∀ q ∈ kjL_X4_wordAndWhole, q ∈ kjL_X4_walkerLine) q hq)) h) h (fun x57 x58 p61 h g59 g60 => ?_)
          have h := h g59 g60
          have K := kj9_tr K p61.2
          have o2 := gr_ob p61.2.1 o2
          have o6 := gr_ob p61.2.1 o6
          refine ⟨?_, ?_⟩
          · intro c62
            have h := h.1 c62
            intro x64 e63
            have h := h x64 e63
            intro x66 e65
            have h := h x66 e65
            have K := kj9_I K e65 n52
            have o2 := ob_wI o2 e65
            have o6 := ob_wI o6 e65
            obtain ⟨b67, e68, h⟩ := h
            refine ⟨b67, e68, ?_⟩
            obtain ⟨c69, h⟩ := h
            refine ⟨c69, ?_⟩
            have n70 := kj9_nk K c69 (by decide)
            intro x72 e71
            have h := h x72 e71
            intro x74 e73
            have h := h x74 e73
            intro x76 e75
            have h := h x76 e75
            have K := kj9_I K e75 n70
            have o2 := ob_wI o2 e75
            have o6 := ob_wI o6 e75
            exact ⟨h, K⟩
          · intro c77
            have h := h.2 c77
            exact ⟨h, K⟩
        · intro c78
          have h := h.2 c78
          exact ⟨h, K⟩
      · intro c79
        have h := h.2 c79
        exact ⟨h, K⟩
theorem kj_X4_walkerLine {L : List (Nat × Nat)} (hU : ∀ q ∈ L, q ∈ njT) (hL : ∀ q ∈ kjL_X4_walkerLine, q ∈ L) {Q : Int32 → HS → Prop} {v0 : Nat} {S : HS} (h : P_X4_walkerLine v0 Q S) : P_X4_walkerLine v0 (fun r T => Q r T ∧ KJ L S T) S := kj_X4_walkerLine_0 hU hL h (kj9_rf L S)
abbrev kjL_X4_worldLine : List (Nat × Nat) := []
set_option maxRecDepth 20000 in
set_option maxHeartbeats 1000000 in
theorem kj_X4_worldLine_0 {L : List (Nat × Nat)} (hU : ∀ q ∈ L, q ∈ njT) (hL : ∀ q ∈ kjL_X4_worldLine, q ∈ L) {Q : Int32 → HS → Prop} {v0 : Nat} {S0 S : HS} (h : P_X4_worldLine_0 Q v0 S) (K : KJ L S0 S) : P_X4_worldLine_0 (fun r T => Q r T ∧ KJ L S0 T) v0 S := by
  delta P_X4_worldLine_0 at h ⊢
  obtain ⟨c1, h⟩ := h
  refine ⟨c1, ?_⟩
  have o2 := c1
  obtain ⟨b3, e4, h⟩ := h
  refine ⟨b3, e4, ?_⟩
  obtain ⟨c5, h⟩ := h
  refine ⟨c5, ?_⟩
  refine cm_X8_isTold (kj_X8_isTold hU (fun q hq => hL q ((by decide : ∀ q ∈ kjL_X8_isTold, q ∈ kjL_X4_worldLine) q hq)) h) h (fun x6 x7 p10 h g8 g9 => ?_)
  have h := h g8 g9
  have K := kj9_tr K p10.2
  have o2 := gr_ob p10.2.1 o2
  refine ⟨?_, ?_⟩
  · intro c11
    have h := h.1 c11
    refine cm_X4_next (kj_X4_next hU (fun q hq => hL q ((by decide : ∀ q ∈ kjL_X4_next, q ∈ kjL_X4_worldLine) q hq)) h) h (fun x12 p14 h g13 => ?_)
    have h := h g13
    have K := kj9_tr K p14.2
    have o2 := gr_ob p14.2.1 o2
    refine cm_X4_wordAndWhole (kj_X4_wordAndWhole hU (fun q hq => hL q ((by decide : ∀ q ∈ kjL_X4_wordAndWhole, q ∈ kjL_X4_worldLine) q hq)) h) h (fun x15 x16 p19 h g17 g18 => ?_)
    have h := h g17 g18
    have K := kj9_tr K p19.2
    have o2 := gr_ob p19.2.1 o2
    refine ⟨?_, ?_⟩
    · intro c20
      have h := h.1 c20
      obtain ⟨b21, e22, h⟩ := h
      refine ⟨b21, e22, ?_⟩
      intro x24 e23
      have h := h x24 e23
      obtain ⟨c25, h⟩ := h
      refine ⟨c25, ?_⟩
      have n26 := kj9_nk K c25 (by decide)
      intro x28 e27
      have h := h x28 e27
      have K := kj9_I K e27 n26
      have o2 := ob_wI o2 e27
      exact ⟨h, K⟩
    · intro c29
      have h := h.2 c29
      exact ⟨h, K⟩
  · intro c30
    have h := h.2 c30
    refine cm_X4_fail (kj_X4_fail hU (fun q hq => hL q ((by decide : ∀ q ∈ kjL_X4_fail, q ∈ kjL_X4_worldLine) q hq)) h) h (fun x31 x32 p35 h g33 g34 => ?_)
    have h := h g33 g34
    have K := kj9_tr K p35.2
    have o2 := gr_ob p35.2.1 o2
    obtain ⟨c36, h⟩ := h
    refine ⟨c36, ?_⟩
    exact ⟨h, K⟩
theorem kj_X4_worldLine {L : List (Nat × Nat)} (hU : ∀ q ∈ L, q ∈ njT) (hL : ∀ q ∈ kjL_X4_worldLine, q ∈ L) {Q : Int32 → HS → Prop} {v0 : Nat} {S : HS} (h : P_X4_worldLine v0 Q S) : P_X4_worldLine v0 (fun r T => Q r T ∧ KJ L S T) S := kj_X4_worldLine_0 hU hL h (kj9_rf L S)
abbrev kjL_X4_read : List (Nat × Nat) := [(4, 12), (8, 7), (8, 10), (8, 11)]
set_option maxRecDepth 20000 in
set_option maxHeartbeats 1000000 in
theorem kj_X4_read_280 {L : List (Nat × Nat)} (hU : ∀ q ∈ L, q ∈ njT) (hL : ∀ q ∈ kjL_X4_read, q ∈ L) {Q : Int32 → HS → Prop} {v0 : Nat} {S0 S : HS} (h : P_X4_read_280 Q v0 S) (K : KJ L S0 S) : P_X4_read_280 (fun r T => Q r T ∧ KJ L S0 T) v0 S := by
  delta P_X4_read_280 at h ⊢
  obtain ⟨c1, h⟩ := h
  refine ⟨c1, ?_⟩
  refine cm_X4_fail (kj_X4_fail hU (fun q hq => hL q ((by decide : ∀ q ∈ kjL_X4_fail, q ∈ kjL_X4_read) q hq)) h) h (fun x2 x3 p6 h g4 g5 => ?_)
  have h := h g4 g5
  have K := kj9_tr K p6.2
  refine ⟨?_, ?_⟩
  · intro c7
    have h := h.1 c7
    exact ⟨h, K⟩
  · intro c8
    have h := h.2 c8
    exact ⟨h, K⟩
set_option maxRecDepth 20000 in
set_option maxHeartbeats 1000000 in
theorem kj_X4_read_295 {L : List (Nat × Nat)} (hU : ∀ q ∈ L, q ∈ njT) (hL : ∀ q ∈ kjL_X4_read, q ∈ L) {Q : Int32 → HS → Prop} {X8 X8_2 : Nat → Int32 → HS → Prop} {v0 : Nat} {v3 : Int32} {v4 : Int32} {S0 S : HS} (h : P_X4_read_295 Q X8 v0 v3 v4 S) (K : KJ L S0 S) (hX8 : ∀ (u0 : Nat) (u1 : Int32) (u2 : HS), X8 u0 u1 u2 → KJ L S0 u2 → X8_2 u0 u1 u2) : P_X4_read_295 (fun r T => Q r T ∧ KJ L S0 T) X8_2 v0 v3 v4 S := by
  delta P_X4_read_295 at h ⊢
  refine ⟨?_, ?_⟩
  · intro c1
    have h := h.1 c1
    exact ⟨h, K⟩
  · intro c2
    have h := h.2 c2
    obtain ⟨c3, h⟩ := h
    refine ⟨c3, ?_⟩
    refine cm_X4_sign (kj_X4_sign hU (fun q hq => hL q ((by decide : ∀ q ∈ kjL_X4_sign, q ∈ kjL_X4_read) q hq)) h) h (fun x4 x5 p8 h g6 g7 => ?_)
    have h := h g6 g7
    have K := kj9_tr K p8.2
    refine ⟨?_, ?_⟩
    · intro c9
      have h := h.1 c9
      intro x11 e10
      have h := h x11 e10
      exact hX8 _ _ _ h K
    · intro c12
      have h := h.2 c12
      exact ⟨h, K⟩
set_option maxRecDepth 20000 in
set_option maxHeartbeats 1000000 in
theorem kj_X4_read_248 {L : List (Nat × Nat)} (hU : ∀ q ∈ L, q ∈ njT) (hL : ∀ q ∈ kjL_X4_read, q ∈ L) {Q : Int32 → HS → Prop} {X8 X8_2 : Nat → Int32 → HS → Prop} {v0 : Nat} {v3 : Int32} {v4 : Int32} {S0 S : HS} (h : P_X4_read_248 Q X8 v0 v3 v4 S) (K : KJ L S0 S) (hX8 : ∀ (u0 : Nat) (u1 : Int32) (u2 : HS), X8 u0 u1 u2 → KJ L S0 u2 → X8_2 u0 u1 u2) : P_X4_read_248 (fun r T => Q r T ∧ KJ L S0 T) X8_2 v0 v3 v4 S := by
  delta P_X4_read_248 at h ⊢
  refine ⟨?_, ?_⟩
  · intro c1
    have h := h.1 c1
    exact kj_X4_read_295 hU hL h K hX8
  · intro c2
    have h := h.2 c2
    obtain ⟨c3, h⟩ := h
    refine ⟨c3, ?_⟩
    have o4 := c3
    intro x6 e5
    have h := h x6 e5
    refine ⟨?_, ?_⟩
    · intro c7
      have h := h.1 c7
      exact kj_X4_read_295 hU hL h K hX8
    · intro c8
      have h := h.2 c8
      obtain ⟨b9, e10, h⟩ := h
      refine ⟨b9, e10, ?_⟩
      obtain ⟨c11, h⟩ := h
      refine ⟨c11, ?_⟩
      intro x13 e12
      have h := h x13 e12
      refine ⟨?_, ?_⟩
      · intro c14
        have h := h.1 c14
        exact kj_X4_read_280 hU hL h K
      · intro c15
        have h := h.2 c15
        obtain ⟨b16, e17, h⟩ := h
        refine ⟨b16, e17, ?_⟩
        obtain ⟨c18, h⟩ := h
        refine ⟨c18, ?_⟩
        intro x20 e19
        have h := h x20 e19
        refine ⟨?_, ?_⟩
        · intro c21
          have h := h.1 c21
          exact ⟨h, K⟩
        · intro c22
          have h := h.2 c22
          exact kj_X4_read_280 hU hL h K
set_option maxRecDepth 20000 in
set_option maxHeartbeats 1000000 in
theorem kj_X4_read_70 {L : List (Nat × Nat)} (hU : ∀ q ∈ L, q ∈ njT) (hL : ∀ q ∈ kjL_X4_read, q ∈ L) {Q : Int32 → HS → Prop} {X8 X8_2 : Nat → Int32 → HS → Prop} {v0 : Nat} {v3 : Int32} {s0 : Int32} {S0 S : HS} (h : P_X4_read_70 Q X8 v0 v3 s0 S) (K : KJ L S0 S) (hX8 : ∀ (u0 : Nat) (u1 : Int32) (u2 : HS), X8 u0 u1 u2 → KJ L S0 u2 → X8_2 u0 u1 u2) : P_X4_read_70 (fun r T => Q r T ∧ KJ L S0 T) X8_2 v0 v3 s0 S := by
  delta P_X4_read_70 at h ⊢
  exact kj_X4_read_248 hU hL h K hX8
set_option maxRecDepth 20000 in
set_option maxHeartbeats 1000000 in
theorem kj_X4_read_69 {L : List (Nat × Nat)} (hU : ∀ q ∈ L, q ∈ njT) (hL : ∀ q ∈ kjL_X4_read, q ∈ L) {Q : Int32 → HS → Prop} {X8 X8_2 : Nat → Int32 → HS → Prop} {v0 : Nat} {v3 : Int32} {S0 S : HS} (h : P_X4_read_69 Q X8 v0 v3 S) (K : KJ L S0 S) (hX8 : ∀ (u0 : Nat) (u1 : Int32) (u2 : HS), X8 u0 u1 u2 → KJ L S0 u2 → X8_2 u0 u1 u2) : P_X4_read_69 (fun r T => Q r T ∧ KJ L S0 T) X8_2 v0 v3 S := by
  delta P_X4_read_69 at h ⊢
  exact kj_X4_read_70 hU hL h K hX8
set_option maxRecDepth 20000 in
set_option maxHeartbeats 1000000 in
theorem kj_X4_read_112 {L : List (Nat × Nat)} (hU : ∀ q ∈ L, q ∈ njT) (hL : ∀ q ∈ kjL_X4_read, q ∈ L) {Q : Int32 → HS → Prop} {X8 X8_2 : Nat → Int32 → HS → Prop} {v0 : Nat} {v3 : Int32} {s0 : Int32} {S0 S : HS} (h : P_X4_read_112 Q X8 v0 v3 s0 S) (K : KJ L S0 S) (hX8 : ∀ (u0 : Nat) (u1 : Int32) (u2 : HS), X8 u0 u1 u2 → KJ L S0 u2 → X8_2 u0 u1 u2) : P_X4_read_112 (fun r T => Q r T ∧ KJ L S0 T) X8_2 v0 v3 s0 S := by
  delta P_X4_read_112 at h ⊢
  exact kj_X4_read_248 hU hL h K hX8
set_option maxRecDepth 20000 in
set_option maxHeartbeats 1000000 in
theorem kj_X4_read_111 {L : List (Nat × Nat)} (hU : ∀ q ∈ L, q ∈ njT) (hL : ∀ q ∈ kjL_X4_read, q ∈ L) {Q : Int32 → HS → Prop} {X8 X8_2 : Nat → Int32 → HS → Prop} {v0 : Nat} {v3 : Int32} {S0 S : HS} (h : P_X4_read_111 Q X8 v0 v3 S) (K : KJ L S0 S) (hX8 : ∀ (u0 : Nat) (u1 : Int32) (u2 : HS), X8 u0 u1 u2 → KJ L S0 u2 → X8_2 u0 u1 u2) : P_X4_read_111 (fun r T => Q r T ∧ KJ L S0 T) X8_2 v0 v3 S := by
  delta P_X4_read_111 at h ⊢
  exact kj_X4_read_112 hU hL h K hX8
set_option maxRecDepth 20000 in
set_option maxHeartbeats 1000000 in
theorem kj_X4_read_154 {L : List (Nat × Nat)} (hU : ∀ q ∈ L, q ∈ njT) (hL : ∀ q ∈ kjL_X4_read, q ∈ L) {Q : Int32 → HS → Prop} {X8 X8_2 : Nat → Int32 → HS → Prop} {v0 : Nat} {v3 : Int32} {s0 : Int32} {S0 S : HS} (h : P_X4_read_154 Q X8 v0 v3 s0 S) (K : KJ L S0 S) (hX8 : ∀ (u0 : Nat) (u1 : Int32) (u2 : HS), X8 u0 u1 u2 → KJ L S0 u2 → X8_2 u0 u1 u2) : P_X4_read_154 (fun r T => Q r T ∧ KJ L S0 T) X8_2 v0 v3 s0 S := by
  delta P_X4_read_154 at h ⊢
  exact kj_X4_read_248 hU hL h K hX8
set_option maxRecDepth 20000 in
set_option maxHeartbeats 1000000 in
theorem kj_X4_read_153 {L : List (Nat × Nat)} (hU : ∀ q ∈ L, q ∈ njT) (hL : ∀ q ∈ kjL_X4_read, q ∈ L) {Q : Int32 → HS → Prop} {X8 X8_2 : Nat → Int32 → HS → Prop} {v0 : Nat} {v3 : Int32} {S0 S : HS} (h : P_X4_read_153 Q X8 v0 v3 S) (K : KJ L S0 S) (hX8 : ∀ (u0 : Nat) (u1 : Int32) (u2 : HS), X8 u0 u1 u2 → KJ L S0 u2 → X8_2 u0 u1 u2) : P_X4_read_153 (fun r T => Q r T ∧ KJ L S0 T) X8_2 v0 v3 S := by
  delta P_X4_read_153 at h ⊢
  exact kj_X4_read_154 hU hL h K hX8
set_option maxRecDepth 20000 in
set_option maxHeartbeats 1000000 in
theorem kj_X4_read_195 {L : List (Nat × Nat)} (hU : ∀ q ∈ L, q ∈ njT) (hL : ∀ q ∈ kjL_X4_read, q ∈ L) {Q : Int32 → HS → Prop} {X8 X8_2 : Nat → Int32 → HS → Prop} {v0 : Nat} {v3 : Int32} {s0 : Int32} {S0 S : HS} (h : P_X4_read_195 Q X8 v0 v3 s0 S) (K : KJ L S0 S) (hX8 : ∀ (u0 : Nat) (u1 : Int32) (u2 : HS), X8 u0 u1 u2 → KJ L S0 u2 → X8_2 u0 u1 u2) : P_X4_read_195 (fun r T => Q r T ∧ KJ L S0 T) X8_2 v0 v3 s0 S := by
  delta P_X4_read_195 at h ⊢
  exact kj_X4_read_248 hU hL h K hX8
set_option maxRecDepth 20000 in
set_option maxHeartbeats 1000000 in
theorem kj_X4_read_194 {L : List (Nat × Nat)} (hU : ∀ q ∈ L, q ∈ njT) (hL : ∀ q ∈ kjL_X4_read, q ∈ L) {Q : Int32 → HS → Prop} {X8 X8_2 : Nat → Int32 → HS → Prop} {v0 : Nat} {v3 : Int32} {S0 S : HS} (h : P_X4_read_194 Q X8 v0 v3 S) (K : KJ L S0 S) (hX8 : ∀ (u0 : Nat) (u1 : Int32) (u2 : HS), X8 u0 u1 u2 → KJ L S0 u2 → X8_2 u0 u1 u2) : P_X4_read_194 (fun r T => Q r T ∧ KJ L S0 T) X8_2 v0 v3 S := by
  delta P_X4_read_194 at h ⊢
  exact kj_X4_read_195 hU hL h K hX8
set_option maxRecDepth 20000 in
set_option maxHeartbeats 1000000 in
theorem kj_X4_read_236 {L : List (Nat × Nat)} (hU : ∀ q ∈ L, q ∈ njT) (hL : ∀ q ∈ kjL_X4_read, q ∈ L) {Q : Int32 → HS → Prop} {X8 X8_2 : Nat → Int32 → HS → Prop} {v0 : Nat} {v3 : Int32} {s0 : Int32} {S0 S : HS} (h : P_X4_read_236 Q X8 v0 v3 s0 S) (K : KJ L S0 S) (hX8 : ∀ (u0 : Nat) (u1 : Int32) (u2 : HS), X8 u0 u1 u2 → KJ L S0 u2 → X8_2 u0 u1 u2) : P_X4_read_236 (fun r T => Q r T ∧ KJ L S0 T) X8_2 v0 v3 s0 S := by
  delta P_X4_read_236 at h ⊢
  exact kj_X4_read_248 hU hL h K hX8
set_option maxRecDepth 20000 in
set_option maxHeartbeats 1000000 in
theorem kj_X4_read_235 {L : List (Nat × Nat)} (hU : ∀ q ∈ L, q ∈ njT) (hL : ∀ q ∈ kjL_X4_read, q ∈ L) {Q : Int32 → HS → Prop} {X8 X8_2 : Nat → Int32 → HS → Prop} {v0 : Nat} {v3 : Int32} {S0 S : HS} (h : P_X4_read_235 Q X8 v0 v3 S) (K : KJ L S0 S) (hX8 : ∀ (u0 : Nat) (u1 : Int32) (u2 : HS), X8 u0 u1 u2 → KJ L S0 u2 → X8_2 u0 u1 u2) : P_X4_read_235 (fun r T => Q r T ∧ KJ L S0 T) X8_2 v0 v3 S := by
  delta P_X4_read_235 at h ⊢
  exact kj_X4_read_236 hU hL h K hX8
set_option maxRecDepth 20000 in
set_option maxHeartbeats 1000000 in
theorem kjB_X4_read_8 {L : List (Nat × Nat)} (hU : ∀ q ∈ L, q ∈ njT) (hL : ∀ q ∈ kjL_X4_read, q ∈ L) {Q : Int32 → HS → Prop} {X8 X8_2 : Nat → Int32 → HS → Prop} {v0 : Nat} {v3 : Int32} {S0 S : HS} (h : B_X4_read_8 Q X8 v0 v3 S) (K : KJ L S0 S) (hX8 : ∀ (u0 : Nat) (u1 : Int32) (u2 : HS), X8 u0 u1 u2 → KJ L S0 u2 → X8_2 u0 u1 u2) : B_X4_read_8 (fun r T => Q r T ∧ KJ L S0 T) X8_2 v0 v3 S := by
  delta B_X4_read_8 at h ⊢
  refine ⟨?_, ?_⟩
  · intro c1
    have h := h.1 c1
    obtain ⟨c2, h⟩ := h
    refine ⟨c2, ?_⟩
    have o3 := c2
    refine cm_X4_fail (kj_X4_fail hU (fun q hq => hL q ((by decide : ∀ q ∈ kjL_X4_fail, q ∈ kjL_X4_read) q hq)) h) h (fun x4 x5 p8 h g6 g7 => ?_)
    have h := h g6 g7
    have K := kj9_tr K p8.2
    have o3 := gr_ob p8.2.1 o3
    obtain ⟨c9, h⟩ := h
    refine ⟨c9, ?_⟩
    exact ⟨h, K⟩
  · intro c10
    have h := h.2 c10
    obtain ⟨c11, h⟩ := h
    refine ⟨c11, ?_⟩
    have o12 := c11
    refine cm_X4_is (kj_X4_is hU (fun q hq => hL q ((by decide : ∀ q ∈ kjL_X4_is, q ∈ kjL_X4_read) q hq)) h) h (fun x13 x14 p17 h g15 g16 => ?_)
    have h := h g15 g16
    have K := kj9_tr K p17.2
    have o12 := gr_ob p17.2.1 o12
    refine ⟨?_, ?_⟩
    · intro c18
      have h := h.1 c18
      refine cm_X4_is (kj_X4_is hU (fun q hq => hL q ((by decide : ∀ q ∈ kjL_X4_is, q ∈ kjL_X4_read) q hq)) h) h (fun x19 x20 p23 h g21 g22 => ?_)
      have h := h g21 g22
      have K := kj9_tr K p23.2
      have o12 := gr_ob p23.2.1 o12
      refine ⟨?_, ?_⟩
      · intro c24
        have h := h.1 c24
        refine cm_X4_is (kj_X4_is hU (fun q hq => hL q ((by decide : ∀ q ∈ kjL_X4_is, q ∈ kjL_X4_read) q hq)) h) h (fun x25 x26 p29 h g27 g28 => ?_)
        have h := h g27 g28
        have K := kj9_tr K p29.2
        have o12 := gr_ob p29.2.1 o12
        refine ⟨?_, ?_⟩
        · intro c30
          have h := h.1 c30
          refine cm_X4_is (kj_X4_is hU (fun q hq => hL q ((by decide : ∀ q ∈ kjL_X4_is, q ∈ kjL_X4_read) q hq)) h) h (fun x31 x32 p35 h g33 g34 => ?_)
          have h := h g33 g34
          have K := kj9_tr K p35.2
          have o12 := gr_ob p35.2.1 o12
          refine ⟨?_, ?_⟩
          · intro c36
            have h := h.1 c36
            refine cm_X4_is (kj_X4_is hU (fun q hq => hL q ((by decide : ∀ q ∈ kjL_X4_is, q ∈ kjL_X4_read) q hq)) h) h (fun x37 x38 p41 h g39 g40 => ?_)
            have h := h g39 g40
            have K := kj9_tr K p41.2
            have o12 := gr_ob p41.2.1 o12
            refine ⟨?_, ?_⟩
            · intro c42
              have h := h.1 c42
              refine cm_X4_is (kj_X4_is hU (fun q hq => hL q ((by decide : ∀ q ∈ kjL_X4_is, q ∈ kjL_X4_read) q hq)) h) h (fun x43 x44 p47 h g45 g46 => ?_)
              have h := h g45 g46
              have K := kj9_tr K p47.2
              have o12 := gr_ob p47.2.1 o12
              refine ⟨?_, ?_⟩
              · intro c48
                have h := h.1 c48
                refine cm_X4_fail (kj_X4_fail hU (fun q hq => hL q ((by decide : ∀ q ∈ kjL_X4_fail, q ∈ kjL_X4_read) q hq)) h) h (fun x49 x50 p53 h g51 g52 => ?_)
                have h := h g51 g52
                have K := kj9_tr K p53.2
                have o12 := gr_ob p53.2.1 o12
                exact kj_X4_read_248 hU hL h K hX8
              · intro c54
                have h := h.2 c54
                obtain ⟨b55, e56, h⟩ := h
                refine ⟨b55, e56, ?_⟩
                obtain ⟨c57, h⟩ := h
                refine ⟨c57, ?_⟩
                intro x59 e58
                have h := h x59 e58
                refine cm_X4_hasRoom (kj_X4_hasRoom hU (fun q hq => hL q ((by decide : ∀ q ∈ kjL_X4_hasRoom, q ∈ kjL_X4_read) q hq)) h) h (fun x60 x61 p64 h g62 g63 => ?_)
                have h := h g62 g63
                have K := kj9_tr K p64.2
                have o12 := gr_ob p64.2.1 o12
                refine ⟨?_, ?_⟩
                · intro c65
                  have h := h.1 c65
                  exact kj_X4_read_235 hU hL h K hX8
                · intro c66
                  have h := h.2 c66
                  refine cm_X4_seenLine (kj_X4_seenLine hU (fun q hq => hL q ((by decide : ∀ q ∈ kjL_X4_seenLine, q ∈ kjL_X4_read) q hq)) h) h (fun x67 x68 p71 h g69 g70 => ?_)
                  have h := h g69 g70
                  have K := kj9_tr K p71.2
                  have o12 := gr_ob p71.2.1 o12
                  refine ⟨?_, ?_⟩
                  · intro c72
                    have h := h.1 c72
                    exact kj_X4_read_235 hU hL h K hX8
                  · intro c73
                    have h := h.2 c73
                    exact kj_X4_read_236 hU hL h K hX8
            · intro c74
              have h := h.2 c74
              obtain ⟨b75, e76, h⟩ := h
              refine ⟨b75, e76, ?_⟩
              obtain ⟨c77, h⟩ := h
              refine ⟨c77, ?_⟩
              intro x79 e78
              have h := h x79 e78
              refine cm_X4_hasRoom (kj_X4_hasRoom hU (fun q hq => hL q ((by decide : ∀ q ∈ kjL_X4_hasRoom, q ∈ kjL_X4_read) q hq)) h) h (fun x80 x81 p84 h g82 g83 => ?_)
              have h := h g82 g83
              have K := kj9_tr K p84.2
              have o12 := gr_ob p84.2.1 o12
              refine ⟨?_, ?_⟩
              · intro c85
                have h := h.1 c85
                exact kj_X4_read_194 hU hL h K hX8
              · intro c86
                have h := h.2 c86
                refine cm_X4_walkerLine (kj_X4_walkerLine hU (fun q hq => hL q ((by decide : ∀ q ∈ kjL_X4_walkerLine, q ∈ kjL_X4_read) q hq)) h) h (fun x87 x88 p91 h g89 g90 => ?_)
                have h := h g89 g90
                have K := kj9_tr K p91.2
                have o12 := gr_ob p91.2.1 o12
                refine ⟨?_, ?_⟩
                · intro c92
                  have h := h.1 c92
                  exact kj_X4_read_194 hU hL h K hX8
                · intro c93
                  have h := h.2 c93
                  exact kj_X4_read_195 hU hL h K hX8
          · intro c94
            have h := h.2 c94
            obtain ⟨b95, e96, h⟩ := h
            refine ⟨b95, e96, ?_⟩
            obtain ⟨c97, h⟩ := h
            refine ⟨c97, ?_⟩
            intro x99 e98
            have h := h x99 e98
            refine cm_X4_hasRoom (kj_X4_hasRoom hU (fun q hq => hL q ((by decide : ∀ q ∈ kjL_X4_hasRoom, q ∈ kjL_X4_read) q hq)) h) h (fun x100 x101 p104 h g102 g103 => ?_)
            have h := h g102 g103
            have K := kj9_tr K p104.2
            have o12 := gr_ob p104.2.1 o12
            refine ⟨?_, ?_⟩
            · intro c105
              have h := h.1 c105
              exact kj_X4_read_153 hU hL h K hX8
            · intro c106
              have h := h.2 c106
              refine cm_X4_roadLine (kj_X4_roadLine hU (fun q hq => hL q ((by decide : ∀ q ∈ kjL_X4_roadLine, q ∈ kjL_X4_read) q hq)) h) h (fun x107 x108 p111 h g109 g110 => ?_)
              have h := h g109 g110
              have K := kj9_tr K p111.2
              have o12 := gr_ob p111.2.1 o12
              refine ⟨?_, ?_⟩
              · intro c112
                have h := h.1 c112
                exact kj_X4_read_153 hU hL h K hX8
              · intro c113
                have h := h.2 c113
                exact kj_X4_read_154 hU hL h K hX8
        · intro c114
          have h := h.2 c114
          obtain ⟨b115, e116, h⟩ := h
          refine ⟨b115, e116, ?_⟩
          obtain ⟨c117, h⟩ := h
          refine ⟨c117, ?_⟩
          intro x119 e118
          have h := h x119 e118
          refine cm_X4_hasRoom (kj_X4_hasRoom hU (fun q hq => hL q ((by decide : ∀ q ∈ kjL_X4_hasRoom, q ∈ kjL_X4_read) q hq)) h) h (fun x120 x121 p124 h g122 g123 => ?_)
          have h := h g122 g123
          have K := kj9_tr K p124.2
          have o12 := gr_ob p124.2.1 o12
          refine ⟨?_, ?_⟩
          · intro c125
            have h := h.1 c125
            exact kj_X4_read_111 hU hL h K hX8
          · intro c126
            have h := h.2 c126
            refine cm_X4_placeLine (kj_X4_placeLine hU (fun q hq => hL q ((by decide : ∀ q ∈ kjL_X4_placeLine, q ∈ kjL_X4_read) q hq)) h) h (fun x127 x128 p131 h g129 g130 => ?_)
            have h := h g129 g130
            have K := kj9_tr K p131.2
            have o12 := gr_ob p131.2.1 o12
            refine ⟨?_, ?_⟩
            · intro c132
              have h := h.1 c132
              exact kj_X4_read_111 hU hL h K hX8
            · intro c133
              have h := h.2 c133
              exact kj_X4_read_112 hU hL h K hX8
      · intro c134
        have h := h.2 c134
        obtain ⟨b135, e136, h⟩ := h
        refine ⟨b135, e136, ?_⟩
        obtain ⟨c137, h⟩ := h
        refine ⟨c137, ?_⟩
        intro x139 e138
        have h := h x139 e138
        refine cm_X4_hasRoom (kj_X4_hasRoom hU (fun q hq => hL q ((by decide : ∀ q ∈ kjL_X4_hasRoom, q ∈ kjL_X4_read) q hq)) h) h (fun x140 x141 p144 h g142 g143 => ?_)
        have h := h g142 g143
        have K := kj9_tr K p144.2
        have o12 := gr_ob p144.2.1 o12
        refine ⟨?_, ?_⟩
        · intro c145
          have h := h.1 c145
          exact kj_X4_read_69 hU hL h K hX8
        · intro c146
          have h := h.2 c146
          refine cm_X4_rainLine (kj_X4_rainLine hU (fun q hq => hL q ((by decide : ∀ q ∈ kjL_X4_rainLine, q ∈ kjL_X4_read) q hq)) h) h (fun x147 x148 p151 h g149 g150 => ?_)
          have h := h g149 g150
          have K := kj9_tr K p151.2
          have o12 := gr_ob p151.2.1 o12
          refine ⟨?_, ?_⟩
          · intro c152
            have h := h.1 c152
            exact kj_X4_read_69 hU hL h K hX8
          · intro c153
            have h := h.2 c153
            exact kj_X4_read_70 hU hL h K hX8
    · intro c154
      have h := h.2 c154
      refine cm_X4_worldLine (kj_X4_worldLine hU (fun q hq => hL q ((by decide : ∀ q ∈ kjL_X4_worldLine, q ∈ kjL_X4_read) q hq)) h) h (fun x155 x156 p159 h g157 g158 => ?_)
      have h := h g157 g158
      have K := kj9_tr K p159.2
      have o12 := gr_ob p159.2.1 o12
      exact kj_X4_read_248 hU hL h K hX8
theorem kj_X4_read_8 {L : List (Nat × Nat)} (hU : ∀ q ∈ L, q ∈ njT) (hL : ∀ q ∈ kjL_X4_read, q ∈ L) {Q : Int32 → HS → Prop} {v0 : Nat} {v3 : Int32} {S0 S : HS} (h : P_X4_read_8 Q v0 v3 S) (K : KJ L S0 S) : P_X4_read_8 (fun r T => Q r T ∧ KJ L S0 T) v0 v3 S := h (fun v0 v3 S => KJ L S0 S → P_X4_read_8 (fun r T => Q r T ∧ KJ L S0 T) v0 v3 S) (fun v0 v3 S hB K => fd_X4_read_8 (kjB_X4_read_8 hU hL hB K (fun _ _ _ hx K => hx K))) K
set_option maxRecDepth 20000 in
set_option maxHeartbeats 1000000 in
theorem kj_X4_read_0 {L : List (Nat × Nat)} (hU : ∀ q ∈ L, q ∈ njT) (hL : ∀ q ∈ kjL_X4_read, q ∈ L) {Q : Int32 → HS → Prop} {v0 : Nat} {v1 : Nat} {v2 : Int32} {S0 S : HS} (h : P_X4_read_0 Q v0 v1 v2 S) (K : KJ L S0 S) : P_X4_read_0 (fun r T => Q r T ∧ KJ L S0 T) v0 v1 v2 S := by
  delta P_X4_read_0 at h ⊢
  obtain ⟨c1, h⟩ := h
  refine ⟨c1, ?_⟩
  refine cm_X4_open (kj_X4_open hU (fun q hq => hL q ((by decide : ∀ q ∈ kjL_X4_open, q ∈ kjL_X4_read) q hq)) h) h (fun x2 p4 h g3 => ?_)
  have h := h g3
  have K := kj9_tr K p4.2
  exact kj_X4_read_8 hU hL h K
theorem kj_X4_read {L : List (Nat × Nat)} (hU : ∀ q ∈ L, q ∈ njT) (hL : ∀ q ∈ kjL_X4_read, q ∈ L) {Q : Int32 → HS → Prop} {v0 : Nat} {v1 : Nat} {v2 : Int32} {S : HS} (h : P_X4_read v0 v1 v2 Q S) : P_X4_read v0 v1 v2 (fun r T => Q r T ∧ KJ L S T) S := kj_X4_read_0 hU hL h (kj9_rf L S)
abbrev kjL_X5_endOf : List (Nat × Nat) := []
set_option maxRecDepth 20000 in
set_option maxHeartbeats 1000000 in
theorem kj_X5_endOf_0 {L : List (Nat × Nat)} (hU : ∀ q ∈ L, q ∈ njT) (hL : ∀ q ∈ kjL_X5_endOf, q ∈ L) {Q : Int32 → HS → Prop} {v0 : Nat} {v1 : Int32} {S0 S : HS} (h : P_X5_endOf_0 Q v0 v1 S) (K : KJ L S0 S) : P_X5_endOf_0 (fun r T => Q r T ∧ KJ L S0 T) v0 v1 S := by
  delta P_X5_endOf_0 at h ⊢
  refine ⟨?_, ?_⟩
  · intro c1
    have h := h.1 c1
    obtain ⟨c2, h⟩ := h
    refine ⟨c2, ?_⟩
    intro x4 e3
    have h := h x4 e3
    exact ⟨h, K⟩
  · intro c5
    have h := h.2 c5
    obtain ⟨c6, h⟩ := h
    refine ⟨c6, ?_⟩
    intro x8 e7
    have h := h x8 e7
    exact ⟨h, K⟩
theorem kj_X5_endOf {L : List (Nat × Nat)} (hU : ∀ q ∈ L, q ∈ njT) (hL : ∀ q ∈ kjL_X5_endOf, q ∈ L) {Q : Int32 → HS → Prop} {v0 : Nat} {v1 : Int32} {S : HS} (h : P_X5_endOf v0 v1 Q S) : P_X5_endOf v0 v1 (fun r T => Q r T ∧ KJ L S T) S := kj_X5_endOf_0 hU hL h (kj9_rf L S)
abbrev kjL_X5_minutesAt : List (Nat × Nat) := []
set_option maxRecDepth 20000 in
set_option maxHeartbeats 1000000 in
theorem kj_X5_minutesAt_0 {L : List (Nat × Nat)} (hU : ∀ q ∈ L, q ∈ njT) (hL : ∀ q ∈ kjL_X5_minutesAt, q ∈ L) {Q : Int32 → HS → Prop} {v0 : Nat} {v1 : Int32} {S0 S : HS} (h : P_X5_minutesAt_0 Q v0 v1 S) (K : KJ L S0 S) : P_X5_minutesAt_0 (fun r T => Q r T ∧ KJ L S0 T) v0 v1 S := by
  delta P_X5_minutesAt_0 at h ⊢
  refine ⟨?_, ?_⟩
  · intro c1
    have h := h.1 c1
    exact ⟨h, K⟩
  · intro c2
    have h := h.2 c2
    obtain ⟨c3, h⟩ := h
    refine ⟨c3, ?_⟩
    intro x5 e4
    have h := h x5 e4
    obtain ⟨c6, h⟩ := h
    refine ⟨c6, ?_⟩
    intro x8 e7
    have h := h x8 e7
    exact ⟨h, K⟩
theorem kj_X5_minutesAt {L : List (Nat × Nat)} (hU : ∀ q ∈ L, q ∈ njT) (hL : ∀ q ∈ kjL_X5_minutesAt, q ∈ L) {Q : Int32 → HS → Prop} {v0 : Nat} {v1 : Int32} {S : HS} (h : P_X5_minutesAt v0 v1 Q S) : P_X5_minutesAt v0 v1 (fun r T => Q r T ∧ KJ L S T) S := kj_X5_minutesAt_0 hU hL h (kj9_rf L S)
abbrev kjL_X5_startOf : List (Nat × Nat) := []
set_option maxRecDepth 20000 in
set_option maxHeartbeats 1000000 in
theorem kj_X5_startOf_0 {L : List (Nat × Nat)} (hU : ∀ q ∈ L, q ∈ njT) (hL : ∀ q ∈ kjL_X5_startOf, q ∈ L) {Q : Int32 → HS → Prop} {v0 : Nat} {v1 : Int32} {S0 S : HS} (h : P_X5_startOf_0 Q v0 v1 S) (K : KJ L S0 S) : P_X5_startOf_0 (fun r T => Q r T ∧ KJ L S0 T) v0 v1 S := by
  delta P_X5_startOf_0 at h ⊢
  refine ⟨?_, ?_⟩
  · intro c1
    have h := h.1 c1
    obtain ⟨c2, h⟩ := h
    refine ⟨c2, ?_⟩
    intro x4 e3
    have h := h x4 e3
    exact ⟨h, K⟩
  · intro c5
    have h := h.2 c5
    obtain ⟨c6, h⟩ := h
    refine ⟨c6, ?_⟩
    intro x8 e7
    have h := h x8 e7
    exact ⟨h, K⟩
theorem kj_X5_startOf {L : List (Nat × Nat)} (hU : ∀ q ∈ L, q ∈ njT) (hL : ∀ q ∈ kjL_X5_startOf, q ∈ L) {Q : Int32 → HS → Prop} {v0 : Nat} {v1 : Int32} {S : HS} (h : P_X5_startOf v0 v1 Q S) : P_X5_startOf v0 v1 (fun r T => Q r T ∧ KJ L S T) S := kj_X5_startOf_0 hU hL h (kj9_rf L S)
abbrev kjL_X5_tell : List (Nat × Nat) := []
set_option maxRecDepth 20000 in
set_option maxHeartbeats 1000000 in
theorem kj_X5_tell_0 {L : List (Nat × Nat)} (hU : ∀ q ∈ L, q ∈ njT) (hL : ∀ q ∈ kjL_X5_tell, q ∈ L) {Q : Int32 → HS → Prop} {v0 : Nat} {v1 : Int32} {S0 S : HS} (h : P_X5_tell_0 Q v0 v1 S) (K : KJ L S0 S) : P_X5_tell_0 (fun r T => Q r T ∧ KJ L S0 T) v0 v1 S := by
  delta P_X5_tell_0 at h ⊢
  refine ⟨?_, ?_, ?_, ?_, ?_⟩
  · intro c1
    have h := h.1 c1
    obtain ⟨c2, h⟩ := h
    refine ⟨c2, ?_⟩
    intro x4 e3
    have h := h x4 e3
    exact ⟨h, K⟩
  · intro c5
    have h := h.2.1 c5
    obtain ⟨c6, h⟩ := h
    refine ⟨c6, ?_⟩
    intro x8 e7
    have h := h x8 e7
    exact ⟨h, K⟩
  · intro c9
    have h := h.2.2.1 c9
    obtain ⟨c10, h⟩ := h
    refine ⟨c10, ?_⟩
    intro x12 e11
    have h := h x12 e11
    exact ⟨h, K⟩
  · intro c13
    have h := h.2.2.2.1 c13
    obtain ⟨c14, h⟩ := h
    refine ⟨c14, ?_⟩
    intro x16 e15
    have h := h x16 e15
    exact ⟨h, K⟩
  · intro c17
    have h := h.2.2.2.2 c17
    obtain ⟨c18, h⟩ := h
    refine ⟨c18, ?_⟩
    intro x20 e19
    have h := h x20 e19
    exact ⟨h, K⟩
theorem kj_X5_tell {L : List (Nat × Nat)} (hU : ∀ q ∈ L, q ∈ njT) (hL : ∀ q ∈ kjL_X5_tell, q ∈ L) {Q : Int32 → HS → Prop} {v0 : Nat} {v1 : Int32} {S : HS} (h : P_X5_tell v0 v1 Q S) : P_X5_tell v0 v1 (fun r T => Q r T ∧ KJ L S T) S := kj_X5_tell_0 hU hL h (kj9_rf L S)
abbrev kjL_X6_tell : List (Nat × Nat) := []
set_option maxRecDepth 20000 in
set_option maxHeartbeats 1000000 in
theorem kj_X6_tell_0 {L : List (Nat × Nat)} (hU : ∀ q ∈ L, q ∈ njT) (hL : ∀ q ∈ kjL_X6_tell, q ∈ L) {Q : Int32 → HS → Prop} {v0 : Nat} {v1 : Int32} {S0 S : HS} (h : P_X6_tell_0 Q v0 v1 S) (K : KJ L S0 S) : P_X6_tell_0 (fun r T => Q r T ∧ KJ L S0 T) v0 v1 S := by
  delta P_X6_tell_0 at h ⊢
  refine ⟨?_, ?_, ?_, ?_, ?_, ?_, ?_⟩
  · intro c1
    have h := h.1 c1
    obtain ⟨c2, h⟩ := h
    refine ⟨c2, ?_⟩
    intro x4 e3
    have h := h x4 e3
    exact ⟨h, K⟩
  · intro c5
    have h := h.2.1 c5
    obtain ⟨c6, h⟩ := h
    refine ⟨c6, ?_⟩
    intro x8 e7
    have h := h x8 e7
    exact ⟨h, K⟩
  · intro c9
    have h := h.2.2.1 c9
    obtain ⟨c10, h⟩ := h
    refine ⟨c10, ?_⟩
    intro x12 e11
    have h := h x12 e11
    exact ⟨h, K⟩
  · intro c13
    have h := h.2.2.2.1 c13
    obtain ⟨c14, h⟩ := h
    refine ⟨c14, ?_⟩
    intro x16 e15
    have h := h x16 e15
    exact ⟨h, K⟩
  · intro c17
    have h := h.2.2.2.2.1 c17
    obtain ⟨c18, h⟩ := h
    refine ⟨c18, ?_⟩
    intro x20 e19
    have h := h x20 e19
    exact ⟨h, K⟩
  · intro c21
    have h := h.2.2.2.2.2.1 c21
    obtain ⟨c22, h⟩ := h
    refine ⟨c22, ?_⟩
    intro x24 e23
    have h := h x24 e23
    exact ⟨h, K⟩
  · intro c25
    have h := h.2.2.2.2.2.2 c25
    obtain ⟨c26, h⟩ := h
    refine ⟨c26, ?_⟩
    intro x28 e27
    have h := h x28 e27
    exact ⟨h, K⟩
theorem kj_X6_tell {L : List (Nat × Nat)} (hU : ∀ q ∈ L, q ∈ njT) (hL : ∀ q ∈ kjL_X6_tell, q ∈ L) {Q : Int32 → HS → Prop} {v0 : Nat} {v1 : Int32} {S : HS} (h : P_X6_tell v0 v1 Q S) : P_X6_tell v0 v1 (fun r T => Q r T ∧ KJ L S T) S := kj_X6_tell_0 hU hL h (kj9_rf L S)
abbrev kjL_X7_forget : List (Nat × Nat) := []
set_option maxRecDepth 20000 in
set_option maxHeartbeats 1000000 in
theorem kj_X7_forget_0 {L : List (Nat × Nat)} (hU : ∀ q ∈ L, q ∈ njT) (hL : ∀ q ∈ kjL_X7_forget, q ∈ L) {Q : HS → Prop} {v0 : Nat} {S0 S : HS} (h : P_X7_forget_0 Q v0 S) (K : KJ L S0 S) : P_X7_forget_0 (fun T => Q T ∧ KJ L S0 T) v0 S := by
  delta P_X7_forget_0 at h ⊢
  obtain ⟨c1, h⟩ := h
  refine ⟨c1, ?_⟩
  have n2 := kj9_nk K c1 (by decide)
  intro x4 e3
  have h := h x4 e3
  have K := kj9_I K e3 n2
  exact ⟨h, K⟩
theorem kj_X7_forget {L : List (Nat × Nat)} (hU : ∀ q ∈ L, q ∈ njT) (hL : ∀ q ∈ kjL_X7_forget, q ∈ L) {Q : HS → Prop} {v0 : Nat} {S : HS} (h : P_X7_forget v0 Q S) : P_X7_forget v0 (fun T => Q T ∧ KJ L S T) S := kj_X7_forget_0 hU hL h (kj9_rf L S)
abbrev kjL_X8_hasPlace : List (Nat × Nat) := []
set_option maxRecDepth 20000 in
set_option maxHeartbeats 1000000 in
theorem kj_X8_hasPlace_0 {L : List (Nat × Nat)} (hU : ∀ q ∈ L, q ∈ njT) (hL : ∀ q ∈ kjL_X8_hasPlace, q ∈ L) {Q : Int32 → HS → Prop} {v0 : Nat} {v1 : Int32} {S0 S : HS} (h : P_X8_hasPlace_0 Q v0 v1 S) (K : KJ L S0 S) : P_X8_hasPlace_0 (fun r T => Q r T ∧ KJ L S0 T) v0 v1 S := by
  delta P_X8_hasPlace_0 at h ⊢
  refine ⟨?_, ?_⟩
  · intro c1
    have h := h.1 c1
    exact ⟨h, K⟩
  · intro c2
    have h := h.2 c2
    obtain ⟨c3, h⟩ := h
    refine ⟨c3, ?_⟩
    have o4 := c3
    intro x6 e5
    have h := h x6 e5
    refine ⟨?_, ?_⟩
    · intro c7
      have h := h.1 c7
      exact ⟨h, K⟩
    · intro c8
      have h := h.2 c8
      obtain ⟨b9, e10, h⟩ := h
      refine ⟨b9, e10, ?_⟩
      obtain ⟨c11, h⟩ := h
      refine ⟨c11, ?_⟩
      refine ⟨?_, ?_⟩
      · intro c12
        have h := h.1 c12
        exact ⟨h, K⟩
      · intro c13
        have h := h.2 c13
        exact ⟨h, K⟩
theorem kj_X8_hasPlace {L : List (Nat × Nat)} (hU : ∀ q ∈ L, q ∈ njT) (hL : ∀ q ∈ kjL_X8_hasPlace, q ∈ L) {Q : Int32 → HS → Prop} {v0 : Nat} {v1 : Int32} {S : HS} (h : P_X8_hasPlace v0 v1 Q S) : P_X8_hasPlace v0 v1 (fun r T => Q r T ∧ KJ L S T) S := kj_X8_hasPlace_0 hU hL h (kj9_rf L S)
abbrev kjL_X8_canWait : List (Nat × Nat) := []
set_option maxRecDepth 20000 in
set_option maxHeartbeats 1000000 in
theorem kj_X8_canWait_0 {L : List (Nat × Nat)} (hU : ∀ q ∈ L, q ∈ njT) (hL : ∀ q ∈ kjL_X8_canWait, q ∈ L) {Q : Int32 → HS → Prop} {v0 : Nat} {v1 : Int32} {S0 S : HS} (h : P_X8_canWait_0 Q v0 v1 S) (K : KJ L S0 S) : P_X8_canWait_0 (fun r T => Q r T ∧ KJ L S0 T) v0 v1 S := by
  delta P_X8_canWait_0 at h ⊢
  obtain ⟨c1, h⟩ := h
  refine ⟨c1, ?_⟩
  have o2 := c1
  refine cm_X8_hasPlace (kj_X8_hasPlace hU (fun q hq => hL q ((by decide : ∀ q ∈ kjL_X8_hasPlace, q ∈ kjL_X8_canWait) q hq)) h) h (fun x3 x4 p7 h g5 g6 => ?_)
  have h := h g5 g6
  have K := kj9_tr K p7.2
  have o2 := gr_ob p7.2.1 o2
  refine ⟨?_, ?_⟩
  · intro c8
    have h := h.1 c8
    exact ⟨h, K⟩
  · intro c9
    have h := h.2 c9
    obtain ⟨b10, e11, h⟩ := h
    refine ⟨b10, e11, ?_⟩
    obtain ⟨c12, h⟩ := h
    refine ⟨c12, ?_⟩
    obtain ⟨c13, h⟩ := h
    refine ⟨c13, ?_⟩
    intro x15 e14
    have h := h x15 e14
    refine ⟨?_, ?_⟩
    · intro c16
      have h := h.1 c16
      exact ⟨h, K⟩
    · intro c17
      have h := h.2 c17
      exact ⟨h, K⟩
theorem kj_X8_canWait {L : List (Nat × Nat)} (hU : ∀ q ∈ L, q ∈ njT) (hL : ∀ q ∈ kjL_X8_canWait, q ∈ L) {Q : Int32 → HS → Prop} {v0 : Nat} {v1 : Int32} {S : HS} (h : P_X8_canWait v0 v1 Q S) : P_X8_canWait v0 v1 (fun r T => Q r T ∧ KJ L S T) S := kj_X8_canWait_0 hU hL h (kj9_rf L S)
abbrev kjL_X8_dripOn : List (Nat × Nat) := []
set_option maxRecDepth 20000 in
set_option maxHeartbeats 1000000 in
theorem kj_X8_dripOn_0 {L : List (Nat × Nat)} (hU : ∀ q ∈ L, q ∈ njT) (hL : ∀ q ∈ kjL_X8_dripOn, q ∈ L) {Q : Int32 → HS → Prop} {v0 : Nat} {v1 : Nat} {v2 : Int32} {S0 S : HS} (h : P_X8_dripOn_0 Q v0 v1 v2 S) (K : KJ L S0 S) : P_X8_dripOn_0 (fun r T => Q r T ∧ KJ L S0 T) v0 v1 v2 S := by
  delta P_X8_dripOn_0 at h ⊢
  obtain ⟨c1, h⟩ := h
  refine ⟨c1, ?_⟩
  have o2 := c1
  refine cm_X8_canWait (kj_X8_canWait hU (fun q hq => hL q ((by decide : ∀ q ∈ kjL_X8_canWait, q ∈ kjL_X8_dripOn) q hq)) h) h (fun x3 x4 p7 h g5 g6 => ?_)
  have h := h g5 g6
  have K := kj9_tr K p7.2
  have o2 := gr_ob p7.2.1 o2
  refine ⟨?_, ?_⟩
  · intro c8
    have h := h.1 c8
    exact ⟨h, K⟩
  · intro c9
    have h := h.2 c9
    obtain ⟨b10, e11, h⟩ := h
    refine ⟨b10, e11, ?_⟩
    obtain ⟨c12, h⟩ := h
    refine ⟨c12, ?_⟩
    obtain ⟨c13, h⟩ := h
    refine ⟨c13, ?_⟩
    intro x15 e14
    have h := h x15 e14
    obtain ⟨c16, h⟩ := h
    refine ⟨c16, ?_⟩
    intro x18 e17
    have h := h x18 e17
    refine cm_X6_shield (kj_X6_shield hU (fun q hq => hL q ((by decide : ∀ q ∈ kjL_X6_shield, q ∈ kjL_X8_dripOn) q hq)) h) h (fun x19 x20 p22 h g21 => ?_)
    have h := h g21
    have K := kj9_tr K p22.2
    have o2 := gr_ob p22.2.1 o2
    intro x24 e23
    have h := h x24 e23
    exact ⟨h, K⟩
theorem kj_X8_dripOn {L : List (Nat × Nat)} (hU : ∀ q ∈ L, q ∈ njT) (hL : ∀ q ∈ kjL_X8_dripOn, q ∈ L) {Q : Int32 → HS → Prop} {v0 : Nat} {v1 : Nat} {v2 : Int32} {S : HS} (h : P_X8_dripOn v0 v1 v2 Q S) : P_X8_dripOn v0 v1 v2 (fun r T => Q r T ∧ KJ L S T) S := kj_X8_dripOn_0 hU hL h (kj9_rf L S)
abbrev kjL_X8_hasHour : List (Nat × Nat) := []
set_option maxRecDepth 20000 in
set_option maxHeartbeats 1000000 in
theorem kj_X8_hasHour_0 {L : List (Nat × Nat)} (hU : ∀ q ∈ L, q ∈ njT) (hL : ∀ q ∈ kjL_X8_hasHour, q ∈ L) {Q : Int32 → HS → Prop} {v0 : Nat} {v1 : Int32} {S0 S : HS} (h : P_X8_hasHour_0 Q v0 v1 S) (K : KJ L S0 S) : P_X8_hasHour_0 (fun r T => Q r T ∧ KJ L S0 T) v0 v1 S := by
  delta P_X8_hasHour_0 at h ⊢
  refine ⟨?_, ?_⟩
  · intro c1
    have h := h.1 c1
    exact ⟨h, K⟩
  · intro c2
    have h := h.2 c2
    obtain ⟨c3, h⟩ := h
    refine ⟨c3, ?_⟩
    have o4 := c3
    intro x6 e5
    have h := h x6 e5
    refine ⟨?_, ?_⟩
    · intro c7
      have h := h.1 c7
      exact ⟨h, K⟩
    · intro c8
      have h := h.2 c8
      obtain ⟨b9, e10, h⟩ := h
      refine ⟨b9, e10, ?_⟩
      obtain ⟨c11, h⟩ := h
      refine ⟨c11, ?_⟩
      refine ⟨?_, ?_⟩
      · intro c12
        have h := h.1 c12
        exact ⟨h, K⟩
      · intro c13
        have h := h.2 c13
        exact ⟨h, K⟩
theorem kj_X8_hasHour {L : List (Nat × Nat)} (hU : ∀ q ∈ L, q ∈ njT) (hL : ∀ q ∈ kjL_X8_hasHour, q ∈ L) {Q : Int32 → HS → Prop} {v0 : Nat} {v1 : Int32} {S : HS} (h : P_X8_hasHour v0 v1 Q S) : P_X8_hasHour v0 v1 (fun r T => Q r T ∧ KJ L S T) S := kj_X8_hasHour_0 hU hL h (kj9_rf L S)
abbrev kjL_X8_hourOf : List (Nat × Nat) := []
set_option maxRecDepth 20000 in
set_option maxHeartbeats 1000000 in
theorem kj_X8_hourOf_0 {L : List (Nat × Nat)} (hU : ∀ q ∈ L, q ∈ njT) (hL : ∀ q ∈ kjL_X8_hourOf, q ∈ L) {Q : Int32 → HS → Prop} {v0 : Nat} {v1 : Int32} {S0 S : HS} (h : P_X8_hourOf_0 Q v0 v1 S) (K : KJ L S0 S) : P_X8_hourOf_0 (fun r T => Q r T ∧ KJ L S0 T) v0 v1 S := by
  delta P_X8_hourOf_0 at h ⊢
  obtain ⟨c1, h⟩ := h
  refine ⟨c1, ?_⟩
  intro x3 e2
  have h := h x3 e2
  refine ⟨?_, ?_⟩
  · intro c4
    have h := h.1 c4
    exact ⟨h, K⟩
  · intro c5
    have h := h.2 c5
    intro x7 e6
    have h := h x7 e6
    obtain ⟨c8, h⟩ := h
    refine ⟨c8, ?_⟩
    intro x10 e9
    have h := h x10 e9
    exact ⟨h, K⟩
theorem kj_X8_hourOf {L : List (Nat × Nat)} (hU : ∀ q ∈ L, q ∈ njT) (hL : ∀ q ∈ kjL_X8_hourOf, q ∈ L) {Q : Int32 → HS → Prop} {v0 : Nat} {v1 : Int32} {S : HS} (h : P_X8_hourOf v0 v1 Q S) : P_X8_hourOf v0 v1 (fun r T => Q r T ∧ KJ L S T) S := kj_X8_hourOf_0 hU hL h (kj9_rf L S)
abbrev kjL_X9_grant : List (Nat × Nat) := []
set_option maxRecDepth 20000 in
set_option maxHeartbeats 1000000 in
theorem kj_X9_grant_0 {L : List (Nat × Nat)} (hU : ∀ q ∈ L, q ∈ njT) (hL : ∀ q ∈ kjL_X9_grant, q ∈ L) {Q : Int32 → HS → Prop} {v0 : Nat} {v1 : Int32} {S0 S : HS} (h : P_X9_grant_0 Q v0 v1 S) (K : KJ L S0 S) : P_X9_grant_0 (fun r T => Q r T ∧ KJ L S0 T) v0 v1 S := by
  delta P_X9_grant_0 at h ⊢
  obtain ⟨c1, h⟩ := h
  refine ⟨c1, ?_⟩
  have n2 := kj9_nk K c1 (by decide)
  intro x4 e3
  have h := h x4 e3
  have K := kj9_I K e3 n2
  exact ⟨h, K⟩
theorem kj_X9_grant {L : List (Nat × Nat)} (hU : ∀ q ∈ L, q ∈ njT) (hL : ∀ q ∈ kjL_X9_grant, q ∈ L) {Q : Int32 → HS → Prop} {v0 : Nat} {v1 : Int32} {S : HS} (h : P_X9_grant v0 v1 Q S) : P_X9_grant v0 v1 (fun r T => Q r T ∧ KJ L S T) S := kj_X9_grant_0 hU hL h (kj9_rf L S)
abbrev kjL_X9_isWay : List (Nat × Nat) := []
set_option maxRecDepth 20000 in
set_option maxHeartbeats 1000000 in
theorem kj_X9_isWay_0 {L : List (Nat × Nat)} (hU : ∀ q ∈ L, q ∈ njT) (hL : ∀ q ∈ kjL_X9_isWay, q ∈ L) {Q : Int32 → HS → Prop} {v0 : Int32} {S0 S : HS} (h : P_X9_isWay_0 Q v0 S) (K : KJ L S0 S) : P_X9_isWay_0 (fun r T => Q r T ∧ KJ L S0 T) v0 S := by
  delta P_X9_isWay_0 at h ⊢
  refine ⟨?_, ?_⟩
  · intro c1
    have h := h.1 c1
    exact ⟨h, K⟩
  · intro c2
    have h := h.2 c2
    refine ⟨?_, ?_⟩
    · intro c3
      have h := h.1 c3
      exact ⟨h, K⟩
    · intro c4
      have h := h.2 c4
      exact ⟨h, K⟩
theorem kj_X9_isWay {L : List (Nat × Nat)} (hU : ∀ q ∈ L, q ∈ njT) (hL : ∀ q ∈ kjL_X9_isWay, q ∈ L) {Q : Int32 → HS → Prop} {v0 : Int32} {S : HS} (h : P_X9_isWay v0 Q S) : P_X9_isWay v0 (fun r T => Q r T ∧ KJ L S T) S := kj_X9_isWay_0 hU hL h (kj9_rf L S)
abbrev kjL_X9_air : List (Nat × Nat) := []
set_option maxRecDepth 20000 in
set_option maxHeartbeats 1000000 in
theorem kj_X9_air_0 {L : List (Nat × Nat)} (hU : ∀ q ∈ L, q ∈ njT) (hL : ∀ q ∈ kjL_X9_air, q ∈ L) {Q : Int32 → HS → Prop} {v0 : Nat} {v1 : Int32} {v2 : Int32} {v3 : Int32} {S0 S : HS} (h : P_X9_air_0 Q v0 v1 v2 v3 S) (K : KJ L S0 S) : P_X9_air_0 (fun r T => Q r T ∧ KJ L S0 T) v0 v1 v2 v3 S := by
  delta P_X9_air_0 at h ⊢
  obtain ⟨c1, h⟩ := h
  refine ⟨c1, ?_⟩
  have n2 := kj9_nk K c1 (by decide)
  obtain ⟨b3, e4, h⟩ := h
  refine ⟨b3, e4, ?_⟩
  obtain ⟨c5, h⟩ := h
  refine ⟨c5, ?_⟩
  refine cm_X8_hasRoad (kj_X8_hasRoad hU (fun q hq => hL q ((by decide : ∀ q ∈ kjL_X8_hasRoad, q ∈ kjL_X9_air) q hq)) h) h (fun x6 x7 p10 h g8 g9 => ?_)
  have h := h g8 g9
  have K := kj9_tr K p10.2
  refine ⟨?_, ?_⟩
  · intro c11
    have h := h.1 c11
    intro x13 e12
    have h := h x13 e12
    have K := kj9_I K e12 n2
    exact ⟨h, K⟩
  · intro c14
    have h := h.2 c14
    refine cm_X9_isWay (kj_X9_isWay hU (fun q hq => hL q ((by decide : ∀ q ∈ kjL_X9_isWay, q ∈ kjL_X9_air) q hq)) h) h (fun x15 x16 p19 h g17 g18 => ?_)
    have h := h g17 g18
    have K := kj9_tr K p19.2
    refine ⟨?_, ?_⟩
    · intro c20
      have h := h.1 c20
      intro x22 e21
      have h := h x22 e21
      have K := kj9_I K e21 n2
      exact ⟨h, K⟩
    · intro c23
      have h := h.2 c23
      obtain ⟨b24, e25, h⟩ := h
      refine ⟨b24, e25, ?_⟩
      obtain ⟨c26, h⟩ := h
      refine ⟨c26, ?_⟩
      refine cm_X8_hasHour (kj_X8_hasHour hU (fun q hq => hL q ((by decide : ∀ q ∈ kjL_X8_hasHour, q ∈ kjL_X9_air) q hq)) h) h (fun x27 x28 p31 h g29 g30 => ?_)
      have h := h g29 g30
      have K := kj9_tr K p31.2
      refine ⟨?_, ?_⟩
      · intro c32
        have h := h.1 c32
        obtain ⟨b33, e34, h⟩ := h
        refine ⟨b33, e34, ?_⟩
        obtain ⟨c35, h⟩ := h
        refine ⟨c35, ?_⟩
        have o36 := c35
        obtain ⟨b37, e38, h⟩ := h
        refine ⟨b37, e38, ?_⟩
        obtain ⟨c39, h⟩ := h
        refine ⟨c39, ?_⟩
        obtain ⟨c40, h⟩ := h
        refine ⟨c40, ?_⟩
        obtain ⟨b41, e42, h⟩ := h
        refine ⟨b41, e42, ?_⟩
        obtain ⟨b43, e44, h⟩ := h
        refine ⟨b43, e44, ?_⟩
        obtain ⟨c45, h⟩ := h
        refine ⟨c45, ?_⟩
        have o46 := c45
        obtain ⟨b47, e48, h⟩ := h
        refine ⟨b47, e48, ?_⟩
        obtain ⟨c49, h⟩ := h
        refine ⟨c49, ?_⟩
        obtain ⟨c50, h⟩ := h
        refine ⟨c50, ?_⟩
        obtain ⟨b51, e52, h⟩ := h
        refine ⟨b51, e52, ?_⟩
        obtain ⟨c53, h⟩ := h
        refine ⟨c53, ?_⟩
        refine cm_X5_airAlong (kj_X5_airAlong hU (fun q hq => hL q ((by decide : ∀ q ∈ kjL_X5_airAlong, q ∈ kjL_X9_air) q hq)) h) h (fun x54 x55 p57 h g56 => ?_)
        have h := h g56
        have K := kj9_tr K p57.2
        have o36 := gr_ob p57.2.1 o36
        have o46 := gr_ob p57.2.1 o46
        refine cm_X9_grant (kj_X9_grant hU (fun q hq => hL q ((by decide : ∀ q ∈ kjL_X9_grant, q ∈ kjL_X9_air) q hq)) h) h (fun x58 x59 p61 h g60 => ?_)
        have h := h g60
        have K := kj9_tr K p61.2
        have o36 := gr_ob p61.2.1 o36
        have o46 := gr_ob p61.2.1 o46
        exact ⟨h, K⟩
      · intro c62
        have h := h.2 c62
        intro x64 e63
        have h := h x64 e63
        have K := kj9_I K e63 n2
        exact ⟨h, K⟩
theorem kj_X9_air {L : List (Nat × Nat)} (hU : ∀ q ∈ L, q ∈ njT) (hL : ∀ q ∈ kjL_X9_air, q ∈ L) {Q : Int32 → HS → Prop} {v0 : Nat} {v1 : Int32} {v2 : Int32} {v3 : Int32} {S : HS} (h : P_X9_air v0 v1 v2 v3 Q S) : P_X9_air v0 v1 v2 v3 (fun r T => Q r T ∧ KJ L S T) S := kj_X9_air_0 hU hL h (kj9_rf L S)
abbrev kjL_X9_refusedBy : List (Nat × Nat) := []
set_option maxRecDepth 20000 in
set_option maxHeartbeats 1000000 in
theorem kj_X9_refusedBy_0 {L : List (Nat × Nat)} (hU : ∀ q ∈ L, q ∈ njT) (hL : ∀ q ∈ kjL_X9_refusedBy, q ∈ L) {Q : Int32 → HS → Prop} {v0 : Nat} {v1 : Int32} {S0 S : HS} (h : P_X9_refusedBy_0 Q v0 v1 S) (K : KJ L S0 S) : P_X9_refusedBy_0 (fun r T => Q r T ∧ KJ L S0 T) v0 v1 S := by
  delta P_X9_refusedBy_0 at h ⊢
  obtain ⟨c1, h⟩ := h
  refine ⟨c1, ?_⟩
  have n2 := kj9_nk K c1 (by decide)
  intro x4 e3
  have h := h x4 e3
  have K := kj9_I K e3 n2
  refine ⟨?_, ?_⟩
  · intro c5
    have h := h.1 c5
    exact ⟨h, K⟩
  · intro c6
    have h := h.2 c6
    exact ⟨h, K⟩
theorem kj_X9_refusedBy {L : List (Nat × Nat)} (hU : ∀ q ∈ L, q ∈ njT) (hL : ∀ q ∈ kjL_X9_refusedBy, q ∈ L) {Q : Int32 → HS → Prop} {v0 : Nat} {v1 : Int32} {S : HS} (h : P_X9_refusedBy v0 v1 Q S) : P_X9_refusedBy v0 v1 (fun r T => Q r T ∧ KJ L S T) S := kj_X9_refusedBy_0 hU hL h (kj9_rf L S)
abbrev kjL_X9_back : List (Nat × Nat) := []
set_option maxRecDepth 20000 in
set_option maxHeartbeats 1000000 in
theorem kj_X9_back_17 {L : List (Nat × Nat)} (hU : ∀ q ∈ L, q ∈ njT) (hL : ∀ q ∈ kjL_X9_back, q ∈ L) {Q : Int32 → HS → Prop} {s0 : Nat} {s1 : Int32} {S0 S : HS} (h : P_X9_back_17 Q s0 s1 S) (K : KJ L S0 S) : P_X9_back_17 (fun r T => Q r T ∧ KJ L S0 T) s0 s1 S := by
  delta P_X9_back_17 at h ⊢
  obtain ⟨c1, h⟩ := h
  refine ⟨c1, ?_⟩
  refine cm_X9_refusedBy (kj_X9_refusedBy hU (fun q hq => hL q ((by decide : ∀ q ∈ kjL_X9_refusedBy, q ∈ kjL_X9_back) q hq)) h) h (fun x2 x3 p6 h g4 g5 => ?_)
  have h := h g4 g5
  have K := kj9_tr K p6.2
  refine ⟨?_, ?_⟩
  · intro c7
    have h := h.1 c7
    exact ⟨h, K⟩
  · intro c8
    have h := h.2 c8
    exact ⟨h, K⟩
set_option maxRecDepth 20000 in
set_option maxHeartbeats 1000000 in
theorem kj_X9_back_0 {L : List (Nat × Nat)} (hU : ∀ q ∈ L, q ∈ njT) (hL : ∀ q ∈ kjL_X9_back, q ∈ L) {Q : Int32 → HS → Prop} {v0 : Nat} {v1 : Int32} {S0 S : HS} (h : P_X9_back_0 Q v0 v1 S) (K : KJ L S0 S) : P_X9_back_0 (fun r T => Q r T ∧ KJ L S0 T) v0 v1 S := by
  delta P_X9_back_0 at h ⊢
  obtain ⟨c1, h⟩ := h
  refine ⟨c1, ?_⟩
  obtain ⟨b2, e3, h⟩ := h
  refine ⟨b2, e3, ?_⟩
  obtain ⟨c4, h⟩ := h
  refine ⟨c4, ?_⟩
  refine cm_X0_returnTo (kj_X0_returnTo hU (fun q hq => hL q ((by decide : ∀ q ∈ kjL_X0_returnTo, q ∈ kjL_X9_back) q hq)) h) h (fun x5 x6 p9 h g7 g8 => ?_)
  have h := h g7 g8
  have K := kj9_tr K p9.2
  refine ⟨?_, ?_⟩
  · intro c10
    have h := h.1 c10
    exact kj_X9_back_17 hU hL h K
  · intro c11
    have h := h.2 c11
    exact kj_X9_back_17 hU hL h K
theorem kj_X9_back {L : List (Nat × Nat)} (hU : ∀ q ∈ L, q ∈ njT) (hL : ∀ q ∈ kjL_X9_back, q ∈ L) {Q : Int32 → HS → Prop} {v0 : Nat} {v1 : Int32} {S : HS} (h : P_X9_back v0 v1 Q S) : P_X9_back v0 v1 (fun r T => Q r T ∧ KJ L S T) S := kj_X9_back_0 hU hL h (kj9_rf L S)
abbrev kjL_X9_tripTrouble : List (Nat × Nat) := []
set_option maxRecDepth 20000 in
set_option maxHeartbeats 1000000 in
theorem kj_X9_tripTrouble_46 {L : List (Nat × Nat)} (hU : ∀ q ∈ L, q ∈ njT) (hL : ∀ q ∈ kjL_X9_tripTrouble, q ∈ L) {Q : Int32 → HS → Prop} {s0 : Int32} {S0 S : HS} (h : P_X9_tripTrouble_46 Q s0 S) (K : KJ L S0 S) : P_X9_tripTrouble_46 (fun r T => Q r T ∧ KJ L S0 T) s0 S := by
  delta P_X9_tripTrouble_46 at h ⊢
  refine ⟨?_, ?_⟩
  · intro c1
    have h := h.1 c1
    exact ⟨h, K⟩
  · intro c2
    have h := h.2 c2
    exact ⟨h, K⟩
set_option maxRecDepth 20000 in
set_option maxHeartbeats 1000000 in
theorem kj_X9_tripTrouble_45 {L : List (Nat × Nat)} (hU : ∀ q ∈ L, q ∈ njT) (hL : ∀ q ∈ kjL_X9_tripTrouble, q ∈ L) {Q : Int32 → HS → Prop} {S0 S : HS} (h : P_X9_tripTrouble_45 Q S) (K : KJ L S0 S) : P_X9_tripTrouble_45 (fun r T => Q r T ∧ KJ L S0 T) S := by
  delta P_X9_tripTrouble_45 at h ⊢
  exact kj_X9_tripTrouble_46 hU hL h K
set_option maxRecDepth 20000 in
set_option maxHeartbeats 1000000 in
theorem kj_X9_tripTrouble_0 {L : List (Nat × Nat)} (hU : ∀ q ∈ L, q ∈ njT) (hL : ∀ q ∈ kjL_X9_tripTrouble, q ∈ L) {Q : Int32 → HS → Prop} {v0 : Nat} {v1 : Int32} {v2 : Int32} {v3 : Int32} {v4 : Int32} {S0 S : HS} (h : P_X9_tripTrouble_0 Q v0 v1 v2 v3 v4 S) (K : KJ L S0 S) : P_X9_tripTrouble_0 (fun r T => Q r T ∧ KJ L S0 T) v0 v1 v2 v3 v4 S := by
  delta P_X9_tripTrouble_0 at h ⊢
  obtain ⟨c1, h⟩ := h
  refine ⟨c1, ?_⟩
  obtain ⟨b2, e3, h⟩ := h
  refine ⟨b2, e3, ?_⟩
  obtain ⟨c4, h⟩ := h
  refine ⟨c4, ?_⟩
  refine cm_X8_hasWalker (kj_X8_hasWalker hU (fun q hq => hL q ((by decide : ∀ q ∈ kjL_X8_hasWalker, q ∈ kjL_X9_tripTrouble) q hq)) h) h (fun x5 x6 p9 h g7 g8 => ?_)
  have h := h g7 g8
  have K := kj9_tr K p9.2
  refine ⟨?_, ?_⟩
  · intro c10
    have h := h.1 c10
    exact kj_X9_tripTrouble_45 hU hL h K
  · intro c11
    have h := h.2 c11
    obtain ⟨b12, e13, h⟩ := h
    refine ⟨b12, e13, ?_⟩
    obtain ⟨c14, h⟩ := h
    refine ⟨c14, ?_⟩
    refine cm_X8_hasRoad (kj_X8_hasRoad hU (fun q hq => hL q ((by decide : ∀ q ∈ kjL_X8_hasRoad, q ∈ kjL_X9_tripTrouble) q hq)) h) h (fun x15 x16 p19 h g17 g18 => ?_)
    have h := h g17 g18
    have K := kj9_tr K p19.2
    refine ⟨?_, ?_⟩
    · intro c20
      have h := h.1 c20
      exact kj_X9_tripTrouble_45 hU hL h K
    · intro c21
      have h := h.2 c21
      refine cm_X9_isWay (kj_X9_isWay hU (fun q hq => hL q ((by decide : ∀ q ∈ kjL_X9_isWay, q ∈ kjL_X9_tripTrouble) q hq)) h) h (fun x22 x23 p26 h g24 g25 => ?_)
      have h := h g24 g25
      have K := kj9_tr K p26.2
      refine ⟨?_, ?_⟩
      · intro c27
        have h := h.1 c27
        exact kj_X9_tripTrouble_45 hU hL h K
      · intro c28
        have h := h.2 c28
        obtain ⟨b29, e30, h⟩ := h
        refine ⟨b29, e30, ?_⟩
        obtain ⟨c31, h⟩ := h
        refine ⟨c31, ?_⟩
        refine cm_X8_hasHour (kj_X8_hasHour hU (fun q hq => hL q ((by decide : ∀ q ∈ kjL_X8_hasHour, q ∈ kjL_X9_tripTrouble) q hq)) h) h (fun x32 x33 p36 h g34 g35 => ?_)
        have h := h g34 g35
        have K := kj9_tr K p36.2
        refine ⟨?_, ?_⟩
        · intro c37
          have h := h.1 c37
          exact kj_X9_tripTrouble_45 hU hL h K
        · intro c38
          have h := h.2 c38
          exact kj_X9_tripTrouble_46 hU hL h K
theorem kj_X9_tripTrouble {L : List (Nat × Nat)} (hU : ∀ q ∈ L, q ∈ njT) (hL : ∀ q ∈ kjL_X9_tripTrouble, q ∈ L) {Q : Int32 → HS → Prop} {v0 : Nat} {v1 : Int32} {v2 : Int32} {v3 : Int32} {v4 : Int32} {S : HS} (h : P_X9_tripTrouble v0 v1 v2 v3 v4 Q S) : P_X9_tripTrouble v0 v1 v2 v3 v4 (fun r T => Q r T ∧ KJ L S T) S := kj_X9_tripTrouble_0 hU hL h (kj9_rf L S)
abbrev kjL_X9_best : List (Nat × Nat) := []
set_option maxRecDepth 20000 in
set_option maxHeartbeats 1000000 in
theorem kj_X9_best_0 {L : List (Nat × Nat)} (hU : ∀ q ∈ L, q ∈ njT) (hL : ∀ q ∈ kjL_X9_best, q ∈ L) {Q : Int32 → HS → Prop} {v0 : Nat} {v1 : Int32} {v2 : Int32} {v3 : Int32} {v4 : Int32} {S0 S : HS} (h : P_X9_best_0 Q v0 v1 v2 v3 v4 S) (K : KJ L S0 S) : P_X9_best_0 (fun r T => Q r T ∧ KJ L S0 T) v0 v1 v2 v3 v4 S := by
  delta P_X9_best_0 at h ⊢
  obtain ⟨c1, h⟩ := h
  refine ⟨c1, ?_⟩
  refine cm_X9_tripTrouble (kj_X9_tripTrouble hU (fun q hq => hL q ((by decide : ∀ q ∈ kjL_X9_tripTrouble, q ∈ kjL_X9_best) q hq)) h) h (fun x2 x3 p5 h g4 => ?_)
  have h := h g4
  have K := kj9_tr K p5.2
  refine cm_X9_refusedBy (kj_X9_refusedBy hU (fun q hq => hL q ((by decide : ∀ q ∈ kjL_X9_refusedBy, q ∈ kjL_X9_best) q hq)) h) h (fun x6 x7 p10 h g8 g9 => ?_)
  have h := h g8 g9
  have K := kj9_tr K p10.2
  refine ⟨?_, ?_⟩
  · intro c11
    have h := h.1 c11
    obtain ⟨b12, e13, h⟩ := h
    refine ⟨b12, e13, ?_⟩
    obtain ⟨b14, e15, h⟩ := h
    refine ⟨b14, e15, ?_⟩
    obtain ⟨c16, h⟩ := h
    refine ⟨c16, ?_⟩
    have o17 := c16
    obtain ⟨b18, e19, h⟩ := h
    refine ⟨b18, e19, ?_⟩
    obtain ⟨c20, h⟩ := h
    refine ⟨c20, ?_⟩
    obtain ⟨c21, h⟩ := h
    refine ⟨c21, ?_⟩
    obtain ⟨b22, e23, h⟩ := h
    refine ⟨b22, e23, ?_⟩
    obtain ⟨b24, e25, h⟩ := h
    refine ⟨b24, e25, ?_⟩
    obtain ⟨c26, h⟩ := h
    refine ⟨c26, ?_⟩
    have o27 := c26
    obtain ⟨b28, e29, h⟩ := h
    refine ⟨b28, e29, ?_⟩
    obtain ⟨c30, h⟩ := h
    refine ⟨c30, ?_⟩
    obtain ⟨c31, h⟩ := h
    refine ⟨c31, ?_⟩
    obtain ⟨b32, e33, h⟩ := h
    refine ⟨b32, e33, ?_⟩
    obtain ⟨b34, e35, h⟩ := h
    refine ⟨b34, e35, ?_⟩
    obtain ⟨c36, h⟩ := h
    refine ⟨c36, ?_⟩
    have o37 := c36
    obtain ⟨b38, e39, h⟩ := h
    refine ⟨b38, e39, ?_⟩
    obtain ⟨c40, h⟩ := h
    refine ⟨c40, ?_⟩
    obtain ⟨c41, h⟩ := h
    refine ⟨c41, ?_⟩
    obtain ⟨b42, e43, h⟩ := h
    refine ⟨b42, e43, ?_⟩
    obtain ⟨c44, h⟩ := h
    refine ⟨c44, ?_⟩
    refine cm_X1_bestSpeed (kj_X1_bestSpeed hU (fun q hq => hL q ((by decide : ∀ q ∈ kjL_X1_bestSpeed, q ∈ kjL_X9_best) q hq)) h) h (fun x45 x46 p48 h g47 => ?_)
    have h := h g47
    have K := kj9_tr K p48.2
    have o17 := gr_ob p48.2.1 o17
    have o27 := gr_ob p48.2.1 o27
    have o37 := gr_ob p48.2.1 o37
    exact ⟨h, K⟩
  · intro c49
    have h := h.2 c49
    exact ⟨h, K⟩
theorem kj_X9_best {L : List (Nat × Nat)} (hU : ∀ q ∈ L, q ∈ njT) (hL : ∀ q ∈ kjL_X9_best, q ∈ L) {Q : Int32 → HS → Prop} {v0 : Nat} {v1 : Int32} {v2 : Int32} {v3 : Int32} {v4 : Int32} {S : HS} (h : P_X9_best v0 v1 v2 v3 v4 Q S) : P_X9_best v0 v1 v2 v3 v4 (fun r T => Q r T ∧ KJ L S T) S := kj_X9_best_0 hU hL h (kj9_rf L S)
abbrev kjL_X9_coatParts : List (Nat × Nat) := []
set_option maxRecDepth 20000 in
set_option maxHeartbeats 1000000 in
theorem kj_X9_coatParts_0 {L : List (Nat × Nat)} (hU : ∀ q ∈ L, q ∈ njT) (hL : ∀ q ∈ kjL_X9_coatParts, q ∈ L) {Q : Int64 → HS → Prop} {v0 : Nat} {S0 S : HS} (h : P_X9_coatParts_0 Q v0 S) (K : KJ L S0 S) : P_X9_coatParts_0 (fun r T => Q r T ∧ KJ L S0 T) v0 S := by
  delta P_X9_coatParts_0 at h ⊢
  obtain ⟨c1, h⟩ := h
  refine ⟨c1, ?_⟩
  intro x3 e2
  have h := h x3 e2
  refine ⟨?_, ?_⟩
  · intro c4
    have h := h.1 c4
    exact ⟨h, K⟩
  · intro c5
    have h := h.2 c5
    intro x7 e6
    have h := h x7 e6
    exact ⟨h, K⟩
theorem kj_X9_coatParts {L : List (Nat × Nat)} (hU : ∀ q ∈ L, q ∈ njT) (hL : ∀ q ∈ kjL_X9_coatParts, q ∈ L) {Q : Int64 → HS → Prop} {v0 : Nat} {S : HS} (h : P_X9_coatParts v0 Q S) : P_X9_coatParts v0 (fun r T => Q r T ∧ KJ L S T) S := kj_X9_coatParts_0 hU hL h (kj9_rf L S)
abbrev kjL_X9_commonDivisor : List (Nat × Nat) := []
set_option maxRecDepth 20000 in
set_option maxHeartbeats 1000000 in
theorem kjB_X9_commonDivisor_9 {L : List (Nat × Nat)} (hU : ∀ q ∈ L, q ∈ njT) (hL : ∀ q ∈ kjL_X9_commonDivisor, q ∈ L) {Q : Int64 → HS → Prop} {X9 X9_2 : Int64 → Int64 → Int32 → HS → Prop} {v4 : Int64} {v6 : Int64} {v8 : Int32} {S0 S : HS} (h : B_X9_commonDivisor_9 Q X9 v4 v6 v8 S) (K : KJ L S0 S) (hX9 : ∀ (u0 : Int64) (u1 : Int64) (u2 : Int32) (u3 : HS), X9 u0 u1 u2 u3 → KJ L S0 u3 → X9_2 u0 u1 u2 u3) : B_X9_commonDivisor_9 (fun r T => Q r T ∧ KJ L S0 T) X9_2 v4 v6 v8 S := by
  delta B_X9_commonDivisor_9 at h ⊢
  refine ⟨?_, ?_⟩
  · intro c1
    have h := h.1 c1
    exact ⟨h, K⟩
  · intro c2
    have h := h.2 c2
    refine ⟨?_, ?_⟩
    · intro c3
      have h := h.1 c3
      exact ⟨h, K⟩
    · intro c4
      have h := h.2 c4
      obtain ⟨c5, h⟩ := h
      refine ⟨c5, ?_⟩
      intro x7 e6
      have h := h x7 e6
      intro x9 e8
      have h := h x9 e8
      exact hX9 _ _ _ _ h K
theorem kj_X9_commonDivisor_9 {L : List (Nat × Nat)} (hU : ∀ q ∈ L, q ∈ njT) (hL : ∀ q ∈ kjL_X9_commonDivisor, q ∈ L) {Q : Int64 → HS → Prop} {v4 : Int64} {v6 : Int64} {v8 : Int32} {S0 S : HS} (h : P_X9_commonDivisor_9 Q v4 v6 v8 S) (K : KJ L S0 S) : P_X9_commonDivisor_9 (fun r T => Q r T ∧ KJ L S0 T) v4 v6 v8 S := h (fun v4 v6 v8 S => KJ L S0 S → P_X9_commonDivisor_9 (fun r T => Q r T ∧ KJ L S0 T) v4 v6 v8 S) (fun v4 v6 v8 S hB K => fd_X9_commonDivisor_9 (kjB_X9_commonDivisor_9 hU hL hB K (fun _ _ _ _ hx K => hx K))) K
set_option maxRecDepth 20000 in
set_option maxHeartbeats 1000000 in
theorem kj_X9_commonDivisor_0 {L : List (Nat × Nat)} (hU : ∀ q ∈ L, q ∈ njT) (hL : ∀ q ∈ kjL_X9_commonDivisor, q ∈ L) {Q : Int64 → HS → Prop} {v0 : Int64} {v2 : Int64} {S0 S : HS} (h : P_X9_commonDivisor_0 Q v0 v2 S) (K : KJ L S0 S) : P_X9_commonDivisor_0 (fun r T => Q r T ∧ KJ L S0 T) v0 v2 S := by
  delta P_X9_commonDivisor_0 at h ⊢
  exact kj_X9_commonDivisor_9 hU hL h K
theorem kj_X9_commonDivisor {L : List (Nat × Nat)} (hU : ∀ q ∈ L, q ∈ njT) (hL : ∀ q ∈ kjL_X9_commonDivisor, q ∈ L) {Q : Int64 → HS → Prop} {v0 : Int64} {v2 : Int64} {S : HS} (h : P_X9_commonDivisor v0 v2 Q S) : P_X9_commonDivisor v0 v2 (fun r T => Q r T ∧ KJ L S T) S := kj_X9_commonDivisor_0 hU hL h (kj9_rf L S)
abbrev kjL_X9_refuse : List (Nat × Nat) := []
set_option maxRecDepth 20000 in
set_option maxHeartbeats 1000000 in
theorem kj_X9_refuse_0 {L : List (Nat × Nat)} (hU : ∀ q ∈ L, q ∈ njT) (hL : ∀ q ∈ kjL_X9_refuse, q ∈ L) {Q : Int32 → HS → Prop} {v0 : Nat} {v1 : Int32} {S0 S : HS} (h : P_X9_refuse_0 Q v0 v1 S) (K : KJ L S0 S) : P_X9_refuse_0 (fun r T => Q r T ∧ KJ L S0 T) v0 v1 S := by
  delta P_X9_refuse_0 at h ⊢
  obtain ⟨c1, h⟩ := h
  refine ⟨c1, ?_⟩
  have n2 := kj9_nk K c1 (by decide)
  intro x4 e3
  have h := h x4 e3
  have K := kj9_I K e3 n2
  exact ⟨h, K⟩
theorem kj_X9_refuse {L : List (Nat × Nat)} (hU : ∀ q ∈ L, q ∈ njT) (hL : ∀ q ∈ kjL_X9_refuse, q ∈ L) {Q : Int32 → HS → Prop} {v0 : Nat} {v1 : Int32} {S : HS} (h : P_X9_refuse v0 v1 Q S) : P_X9_refuse v0 v1 (fun r T => Q r T ∧ KJ L S T) S := kj_X9_refuse_0 hU hL h (kj9_rf L S)
abbrev kjL_X9_day : List (Nat × Nat) := []
set_option maxRecDepth 20000 in
set_option maxHeartbeats 1000000 in
theorem kj_X9_day_22 {L : List (Nat × Nat)} (hU : ∀ q ∈ L, q ∈ njT) (hL : ∀ q ∈ kjL_X9_day, q ∈ L) {Q : Int32 → HS → Prop} {v0 : Nat} {S0 S : HS} (h : P_X9_day_22 Q v0 S) (K : KJ L S0 S) : P_X9_day_22 (fun r T => Q r T ∧ KJ L S0 T) v0 S := by
  delta P_X9_day_22 at h ⊢
  obtain ⟨c1, h⟩ := h
  refine ⟨c1, ?_⟩
  refine cm_X9_refuse (kj_X9_refuse hU (fun q hq => hL q ((by decide : ∀ q ∈ kjL_X9_refuse, q ∈ kjL_X9_day) q hq)) h) h (fun x2 x3 p5 h g4 => ?_)
  have h := h g4
  have K := kj9_tr K p5.2
  exact ⟨h, K⟩
set_option maxRecDepth 20000 in
set_option maxHeartbeats 1000000 in
theorem kj_X9_day_52 {L : List (Nat × Nat)} (hU : ∀ q ∈ L, q ∈ njT) (hL : ∀ q ∈ kjL_X9_day, q ∈ L) {Q : Int32 → HS → Prop} {v0 : Nat} {S0 S : HS} (h : P_X9_day_52 Q v0 S) (K : KJ L S0 S) : P_X9_day_52 (fun r T => Q r T ∧ KJ L S0 T) v0 S := by
  delta P_X9_day_52 at h ⊢
  obtain ⟨c1, h⟩ := h
  refine ⟨c1, ?_⟩
  refine cm_X9_refuse (kj_X9_refuse hU (fun q hq => hL q ((by decide : ∀ q ∈ kjL_X9_refuse, q ∈ kjL_X9_day) q hq)) h) h (fun x2 x3 p5 h g4 => ?_)
  have h := h g4
  have K := kj9_tr K p5.2
  exact ⟨h, K⟩
set_option maxRecDepth 20000 in
set_option maxHeartbeats 1000000 in
theorem kj_X9_day_0 {L : List (Nat × Nat)} (hU : ∀ q ∈ L, q ∈ njT) (hL : ∀ q ∈ kjL_X9_day, q ∈ L) {Q : Int32 → HS → Prop} {v0 : Nat} {v1 : Int32} {v2 : Int32} {v3 : Int32} {v4 : Int32} {S0 S : HS} (h : P_X9_day_0 Q v0 v1 v2 v3 v4 S) (K : KJ L S0 S) : P_X9_day_0 (fun r T => Q r T ∧ KJ L S0 T) v0 v1 v2 v3 v4 S := by
  delta P_X9_day_0 at h ⊢
  obtain ⟨c1, h⟩ := h
  refine ⟨c1, ?_⟩
  obtain ⟨b2, e3, h⟩ := h
  refine ⟨b2, e3, ?_⟩
  obtain ⟨c4, h⟩ := h
  refine ⟨c4, ?_⟩
  refine cm_X8_hasWalker (kj_X8_hasWalker hU (fun q hq => hL q ((by decide : ∀ q ∈ kjL_X8_hasWalker, q ∈ kjL_X9_day) q hq)) h) h (fun x5 x6 p9 h g7 g8 => ?_)
  have h := h g7 g8
  have K := kj9_tr K p9.2
  refine ⟨?_, ?_⟩
  · intro c10
    have h := h.1 c10
    exact kj_X9_day_22 hU hL h K
  · intro c11
    have h := h.2 c11
    obtain ⟨b12, e13, h⟩ := h
    refine ⟨b12, e13, ?_⟩
    obtain ⟨c14, h⟩ := h
    refine ⟨c14, ?_⟩
    refine cm_X8_hasPlace (kj_X8_hasPlace hU (fun q hq => hL q ((by decide : ∀ q ∈ kjL_X8_hasPlace, q ∈ kjL_X9_day) q hq)) h) h (fun x15 x16 p19 h g17 g18 => ?_)
    have h := h g17 g18
    have K := kj9_tr K p19.2
    refine ⟨?_, ?_⟩
    · intro c20
      have h := h.1 c20
      refine ⟨?_, ?_⟩
      · intro c21
        have h := h.1 c21
        exact kj_X9_day_52 hU hL h K
      · intro c22
        have h := h.2 c22
        refine ⟨?_, ?_⟩
        · intro c23
          have h := h.1 c23
          exact kj_X9_day_52 hU hL h K
        · intro c24
          have h := h.2 c24
          refine ⟨?_, ?_⟩
          · intro c25
            have h := h.1 c25
            exact kj_X9_day_52 hU hL h K
          · intro c26
            have h := h.2 c26
            refine ⟨?_, ?_⟩
            · intro c27
              have h := h.1 c27
              obtain ⟨b28, e29, h⟩ := h
              refine ⟨b28, e29, ?_⟩
              obtain ⟨c30, h⟩ := h
              refine ⟨c30, ?_⟩
              refine cm_X0_begin (kj_X0_begin hU (fun q hq => hL q ((by decide : ∀ q ∈ kjL_X0_begin, q ∈ kjL_X9_day) q hq)) h) h (fun x31 p33 h g32 => ?_)
              have h := h g32
              have K := kj9_tr K p33.2
              obtain ⟨b34, e35, h⟩ := h
              refine ⟨b34, e35, ?_⟩
              obtain ⟨b36, e37, h⟩ := h
              refine ⟨b36, e37, ?_⟩
              obtain ⟨c38, h⟩ := h
              refine ⟨c38, ?_⟩
              refine cm_X0_draw (kj_X0_draw hU (fun q hq => hL q ((by decide : ∀ q ∈ kjL_X0_draw, q ∈ kjL_X9_day) q hq)) h) h (fun x39 p41 h g40 => ?_)
              have h := h g40
              have K := kj9_tr K p41.2
              obtain ⟨b42, e43, h⟩ := h
              refine ⟨b42, e43, ?_⟩
              obtain ⟨c44, h⟩ := h
              refine ⟨c44, ?_⟩
              intro x46 e45
              have h := h x46 e45
              refine cm_X9_grant (kj_X9_grant hU (fun q hq => hL q ((by decide : ∀ q ∈ kjL_X9_grant, q ∈ kjL_X9_day) q hq)) h) h (fun x47 x48 p50 h g49 => ?_)
              have h := h g49
              have K := kj9_tr K p50.2
              exact ⟨h, K⟩
            · intro c51
              have h := h.2 c51
              exact kj_X9_day_52 hU hL h K
    · intro c52
      have h := h.2 c52
      exact kj_X9_day_22 hU hL h K
theorem kj_X9_day {L : List (Nat × Nat)} (hU : ∀ q ∈ L, q ∈ njT) (hL : ∀ q ∈ kjL_X9_day, q ∈ L) {Q : Int32 → HS → Prop} {v0 : Nat} {v1 : Int32} {v2 : Int32} {v3 : Int32} {v4 : Int32} {S : HS} (h : P_X9_day v0 v1 v2 v3 v4 Q S) : P_X9_day v0 v1 v2 v3 v4 (fun r T => Q r T ∧ KJ L S T) S := kj_X9_day_0 hU hL h (kj9_rf L S)
abbrev kjL_X9_driest : List (Nat × Nat) := []
set_option maxRecDepth 20000 in
set_option maxHeartbeats 1000000 in
theorem kj_X9_driest_29 {L : List (Nat × Nat)} (hU : ∀ q ∈ L, q ∈ njT) (hL : ∀ q ∈ kjL_X9_driest, q ∈ L) {Q : Int32 → HS → Prop} {v0 : Nat} {S0 S : HS} (h : P_X9_driest_29 Q v0 S) (K : KJ L S0 S) : P_X9_driest_29 (fun r T => Q r T ∧ KJ L S0 T) v0 S := by
  delta P_X9_driest_29 at h ⊢
  obtain ⟨c1, h⟩ := h
  refine ⟨c1, ?_⟩
  refine cm_X9_refuse (kj_X9_refuse hU (fun q hq => hL q ((by decide : ∀ q ∈ kjL_X9_refuse, q ∈ kjL_X9_driest) q hq)) h) h (fun x2 x3 p5 h g4 => ?_)
  have h := h g4
  have K := kj9_tr K p5.2
  exact ⟨h, K⟩
set_option maxRecDepth 20000 in
set_option maxHeartbeats 1000000 in
theorem kj_X9_driest_140 {L : List (Nat × Nat)} (hU : ∀ q ∈ L, q ∈ njT) (hL : ∀ q ∈ kjL_X9_driest, q ∈ L) {Q : Int32 → HS → Prop} {X63 X63_2 : Nat → Int32 → Int32 → Int32 → Int32 → Int64 → Int32 → HS → Prop} {v0 : Nat} {v1 : Int32} {v2 : Int32} {v3 : Int32} {v4 : Int32} {v5 : Int64} {v7 : Int32} {S0 S : HS} (h : P_X9_driest_140 Q X63 v0 v1 v2 v3 v4 v5 v7 S) (K : KJ L S0 S) (hX63 : ∀ (u0 : Nat) (u1 : Int32) (u2 : Int32) (u3 : Int32) (u4 : Int32) (u5 : Int64) (u6 : Int32) (u7 : HS), X63 u0 u1 u2 u3 u4 u5 u6 u7 → KJ L S0 u7 → X63_2 u0 u1 u2 u3 u4 u5 u6 u7) : P_X9_driest_140 (fun r T => Q r T ∧ KJ L S0 T) X63_2 v0 v1 v2 v3 v4 v5 v7 S := by
  delta P_X9_driest_140 at h ⊢
  intro x2 e1
  have h := h x2 e1
  exact hX63 _ _ _ _ _ _ _ _ h K
set_option maxRecDepth 20000 in
set_option maxHeartbeats 1000000 in
theorem kjB_X9_driest_63 {L : List (Nat × Nat)} (hU : ∀ q ∈ L, q ∈ njT) (hL : ∀ q ∈ kjL_X9_driest, q ∈ L) {Q : Int32 → HS → Prop} {X63 X63_2 : Nat → Int32 → Int32 → Int32 → Int32 → Int64 → Int32 → HS → Prop} {v0 : Nat} {v1 : Int32} {v2 : Int32} {v3 : Int32} {v4 : Int32} {v5 : Int64} {v7 : Int32} {S0 S : HS} (h : B_X9_driest_63 Q X63 v0 v1 v2 v3 v4 v5 v7 S) (K : KJ L S0 S) (hX63 : ∀ (u0 : Nat) (u1 : Int32) (u2 : Int32) (u3 : Int32) (u4 : Int32) (u5 : Int64) (u6 : Int32) (u7 : HS), X63 u0 u1 u2 u3 u4 u5 u6 u7 → KJ L S0 u7 → X63_2 u0 u1 u2 u3 u4 u5 u6 u7) : B_X9_driest_63 (fun r T => Q r T ∧ KJ L S0 T) X63_2 v0 v1 v2 v3 v4 v5 v7 S := by
  delta B_X9_driest_63 at h ⊢
  obtain ⟨c1, h⟩ := h
  refine ⟨c1, ?_⟩
  obtain ⟨b2, e3, h⟩ := h
  refine ⟨b2, e3, ?_⟩
  obtain ⟨c4, h⟩ := h
  refine ⟨c4, ?_⟩
  intro x6 e5
  have h := h x6 e5
  refine ⟨?_, ?_⟩
  · intro c7
    have h := h.1 c7
    refine cm_X9_grant (kj_X9_grant hU (fun q hq => hL q ((by decide : ∀ q ∈ kjL_X9_grant, q ∈ kjL_X9_driest) q hq)) h) h (fun x8 x9 p11 h g10 => ?_)
    have h := h g10
    have K := kj9_tr K p11.2
    exact ⟨h, K⟩
  · intro c12
    have h := h.2 c12
    obtain ⟨b13, e14, h⟩ := h
    refine ⟨b13, e14, ?_⟩
    obtain ⟨c15, h⟩ := h
    refine ⟨c15, ?_⟩
    have o16 := c15
    obtain ⟨b17, e18, h⟩ := h
    refine ⟨b17, e18, ?_⟩
    obtain ⟨c19, h⟩ := h
    refine ⟨c19, ?_⟩
    obtain ⟨c20, h⟩ := h
    refine ⟨c20, ?_⟩
    obtain ⟨b21, e22, h⟩ := h
    refine ⟨b21, e22, ?_⟩
    obtain ⟨b23, e24, h⟩ := h
    refine ⟨b23, e24, ?_⟩
    obtain ⟨b25, e26, h⟩ := h
    refine ⟨b25, e26, ?_⟩
    obtain ⟨c27, h⟩ := h
    refine ⟨c27, ?_⟩
    have o28 := c27
    obtain ⟨b29, e30, h⟩ := h
    refine ⟨b29, e30, ?_⟩
    obtain ⟨c31, h⟩ := h
    refine ⟨c31, ?_⟩
    obtain ⟨c32, h⟩ := h
    refine ⟨c32, ?_⟩
    obtain ⟨b33, e34, h⟩ := h
    refine ⟨b33, e34, ?_⟩
    obtain ⟨b35, e36, h⟩ := h
    refine ⟨b35, e36, ?_⟩
    obtain ⟨c37, h⟩ := h
    refine ⟨c37, ?_⟩
    have o38 := c37
    obtain ⟨b39, e40, h⟩ := h
    refine ⟨b39, e40, ?_⟩
    obtain ⟨c41, h⟩ := h
    refine ⟨c41, ?_⟩
    obtain ⟨c42, h⟩ := h
    refine ⟨c42, ?_⟩
    obtain ⟨b43, e44, h⟩ := h
    refine ⟨b43, e44, ?_⟩
    obtain ⟨c45, h⟩ := h
    refine ⟨c45, ?_⟩
    refine cm_X1_leastWet (kj_X1_leastWet hU (fun q hq => hL q ((by decide : ∀ q ∈ kjL_X1_leastWet, q ∈ kjL_X9_driest) q hq)) h) h (fun x46 x47 p49 h g48 => ?_)
    have h := h g48
    have K := kj9_tr K p49.2
    have o16 := gr_ob p49.2.1 o16
    have o28 := gr_ob p49.2.1 o28
    have o38 := gr_ob p49.2.1 o38
    obtain ⟨c50, h⟩ := h
    refine ⟨c50, ?_⟩
    intro x52 e51
    have h := h x52 e51
    intro x54 e53
    have h := h x54 e53
    refine ⟨?_, ?_⟩
    · intro c55
      have h := h.1 c55
      exact kj_X9_driest_140 hU hL h K hX63
    · intro c56
      have h := h.2 c56
      exact kj_X9_driest_140 hU hL h K hX63
theorem kj_X9_driest_63 {L : List (Nat × Nat)} (hU : ∀ q ∈ L, q ∈ njT) (hL : ∀ q ∈ kjL_X9_driest, q ∈ L) {Q : Int32 → HS → Prop} {v0 : Nat} {v1 : Int32} {v2 : Int32} {v3 : Int32} {v4 : Int32} {v5 : Int64} {v7 : Int32} {S0 S : HS} (h : P_X9_driest_63 Q v0 v1 v2 v3 v4 v5 v7 S) (K : KJ L S0 S) : P_X9_driest_63 (fun r T => Q r T ∧ KJ L S0 T) v0 v1 v2 v3 v4 v5 v7 S := h (fun v0 v1 v2 v3 v4 v5 v7 S => KJ L S0 S → P_X9_driest_63 (fun r T => Q r T ∧ KJ L S0 T) v0 v1 v2 v3 v4 v5 v7 S) (fun v0 v1 v2 v3 v4 v5 v7 S hB K => fd_X9_driest_63 (kjB_X9_driest_63 hU hL hB K (fun _ _ _ _ _ _ _ _ hx K => hx K))) K
set_option maxRecDepth 20000 in
set_option maxHeartbeats 1000000 in
theorem kj_X9_driest_0 {L : List (Nat × Nat)} (hU : ∀ q ∈ L, q ∈ njT) (hL : ∀ q ∈ kjL_X9_driest, q ∈ L) {Q : Int32 → HS → Prop} {v0 : Nat} {v1 : Int32} {v2 : Int32} {v3 : Int32} {S0 S : HS} (h : P_X9_driest_0 Q v0 v1 v2 v3 S) (K : KJ L S0 S) : P_X9_driest_0 (fun r T => Q r T ∧ KJ L S0 T) v0 v1 v2 v3 S := by
  delta P_X9_driest_0 at h ⊢
  obtain ⟨c1, h⟩ := h
  refine ⟨c1, ?_⟩
  obtain ⟨b2, e3, h⟩ := h
  refine ⟨b2, e3, ?_⟩
  obtain ⟨c4, h⟩ := h
  refine ⟨c4, ?_⟩
  refine cm_X8_hasWalker (kj_X8_hasWalker hU (fun q hq => hL q ((by decide : ∀ q ∈ kjL_X8_hasWalker, q ∈ kjL_X9_driest) q hq)) h) h (fun x5 x6 p9 h g7 g8 => ?_)
  have h := h g7 g8
  have K := kj9_tr K p9.2
  refine ⟨?_, ?_⟩
  · intro c10
    have h := h.1 c10
    exact kj_X9_driest_29 hU hL h K
  · intro c11
    have h := h.2 c11
    obtain ⟨b12, e13, h⟩ := h
    refine ⟨b12, e13, ?_⟩
    obtain ⟨c14, h⟩ := h
    refine ⟨c14, ?_⟩
    refine cm_X8_hasRoad (kj_X8_hasRoad hU (fun q hq => hL q ((by decide : ∀ q ∈ kjL_X8_hasRoad, q ∈ kjL_X9_driest) q hq)) h) h (fun x15 x16 p19 h g17 g18 => ?_)
    have h := h g17 g18
    have K := kj9_tr K p19.2
    refine ⟨?_, ?_⟩
    · intro c20
      have h := h.1 c20
      exact kj_X9_driest_29 hU hL h K
    · intro c21
      have h := h.2 c21
      refine cm_X9_isWay (kj_X9_isWay hU (fun q hq => hL q ((by decide : ∀ q ∈ kjL_X9_isWay, q ∈ kjL_X9_driest) q hq)) h) h (fun x22 x23 p26 h g24 g25 => ?_)
      have h := h g24 g25
      have K := kj9_tr K p26.2
      refine ⟨?_, ?_⟩
      · intro c27
        have h := h.1 c27
        obtain ⟨b28, e29, h⟩ := h
        refine ⟨b28, e29, ?_⟩
        obtain ⟨c30, h⟩ := h
        refine ⟨c30, ?_⟩
        intro x32 e31
        have h := h x32 e31
        refine ⟨?_, ?_⟩
        · intro c33
          have h := h.1 c33
          exact kj_X9_driest_63 hU hL h K
        · intro c34
          have h := h.2 c34
          refine cm_X9_refuse (kj_X9_refuse hU (fun q hq => hL q ((by decide : ∀ q ∈ kjL_X9_refuse, q ∈ kjL_X9_driest) q hq)) h) h (fun x35 x36 p38 h g37 => ?_)
          have h := h g37
          have K := kj9_tr K p38.2
          exact ⟨h, K⟩
      · intro c39
        have h := h.2 c39
        exact kj_X9_driest_29 hU hL h K
theorem kj_X9_driest {L : List (Nat × Nat)} (hU : ∀ q ∈ L, q ∈ njT) (hL : ∀ q ∈ kjL_X9_driest, q ∈ L) {Q : Int32 → HS → Prop} {v0 : Nat} {v1 : Int32} {v2 : Int32} {v3 : Int32} {S : HS} (h : P_X9_driest v0 v1 v2 v3 Q S) : P_X9_driest v0 v1 v2 v3 (fun r T => Q r T ∧ KJ L S T) S := kj_X9_driest_0 hU hL h (kj9_rf L S)
end
section
abbrev kjL_X9_even : List (Nat × Nat) := []
set_option maxRecDepth 20000 in
set_option maxHeartbeats 1000000 in
theorem kj_X9_even_0 {L : List (Nat × Nat)} (hU : ∀ q ∈ L, q ∈ njT) (hL : ∀ q ∈ kjL_X9_even, q ∈ L) {Q : Int32 → HS → Prop} {v0 : Nat} {v1 : Int32} {v2 : Int32} {v3 : Int32} {v4 : Int32} {S0 S : HS} (h : P_X9_even_0 Q v0 v1 v2 v3 v4 S) (K : KJ L S0 S) : P_X9_even_0 (fun r T => Q r T ∧ KJ L S0 T) v0 v1 v2 v3 v4 S := by
  delta P_X9_even_0 at h ⊢
  obtain ⟨c1, h⟩ := h
  refine ⟨c1, ?_⟩
  refine cm_X9_tripTrouble (kj_X9_tripTrouble hU (fun q hq => hL q ((by decide : ∀ q ∈ kjL_X9_tripTrouble, q ∈ kjL_X9_even) q hq)) h) h (fun x2 x3 p5 h g4 => ?_)
  have h := h g4
  have K := kj9_tr K p5.2
  refine cm_X9_refusedBy (kj_X9_refusedBy hU (fun q hq => hL q ((by decide : ∀ q ∈ kjL_X9_refusedBy, q ∈ kjL_X9_even) q hq)) h) h (fun x6 x7 p10 h g8 g9 => ?_)
  have h := h g8 g9
  have K := kj9_tr K p10.2
  refine ⟨?_, ?_⟩
  · intro c11
    have h := h.1 c11
    obtain ⟨b12, e13, h⟩ := h
    refine ⟨b12, e13, ?_⟩
    obtain ⟨c14, h⟩ := h
    refine ⟨c14, ?_⟩
    have o15 := c14
    obtain ⟨b16, e17, h⟩ := h
    refine ⟨b16, e17, ?_⟩
    obtain ⟨c18, h⟩ := h
    refine ⟨c18, ?_⟩
    obtain ⟨c19, h⟩ := h
    refine ⟨c19, ?_⟩
    obtain ⟨b20, e21, h⟩ := h
    refine ⟨b20, e21, ?_⟩
    obtain ⟨b22, e23, h⟩ := h
    refine ⟨b22, e23, ?_⟩
    obtain ⟨b24, e25, h⟩ := h
    refine ⟨b24, e25, ?_⟩
    obtain ⟨c26, h⟩ := h
    refine ⟨c26, ?_⟩
    have o27 := c26
    obtain ⟨b28, e29, h⟩ := h
    refine ⟨b28, e29, ?_⟩
    obtain ⟨c30, h⟩ := h
    refine ⟨c30, ?_⟩
    obtain ⟨c31, h⟩ := h
    refine ⟨c31, ?_⟩
    obtain ⟨b32, e33, h⟩ := h
    refine ⟨b32, e33, ?_⟩
    obtain ⟨b34, e35, h⟩ := h
    refine ⟨b34, e35, ?_⟩
    obtain ⟨c36, h⟩ := h
    refine ⟨c36, ?_⟩
    have o37 := c36
    obtain ⟨b38, e39, h⟩ := h
    refine ⟨b38, e39, ?_⟩
    obtain ⟨c40, h⟩ := h
    refine ⟨c40, ?_⟩
    obtain ⟨c41, h⟩ := h
    refine ⟨c41, ?_⟩
    obtain ⟨b42, e43, h⟩ := h
    refine ⟨b42, e43, ?_⟩
    obtain ⟨c44, h⟩ := h
    refine ⟨c44, ?_⟩
    refine cm_X1_worstSpeed (kj_X1_worstSpeed hU (fun q hq => hL q ((by decide : ∀ q ∈ kjL_X1_worstSpeed, q ∈ kjL_X9_even) q hq)) h) h (fun x45 x46 p48 h g47 => ?_)
    have h := h g47
    have K := kj9_tr K p48.2
    have o15 := gr_ob p48.2.1 o15
    have o27 := gr_ob p48.2.1 o27
    have o37 := gr_ob p48.2.1 o37
    obtain ⟨b49, e50, h⟩ := h
    refine ⟨b49, e50, ?_⟩
    obtain ⟨b51, e52, h⟩ := h
    refine ⟨b51, e52, ?_⟩
    obtain ⟨c53, h⟩ := h
    refine ⟨c53, ?_⟩
    have o54 := c53
    obtain ⟨b55, e56, h⟩ := h
    refine ⟨b55, e56, ?_⟩
    obtain ⟨c57, h⟩ := h
    refine ⟨c57, ?_⟩
    obtain ⟨c58, h⟩ := h
    refine ⟨c58, ?_⟩
    obtain ⟨b59, e60, h⟩ := h
    refine ⟨b59, e60, ?_⟩
    obtain ⟨b61, e62, h⟩ := h
    refine ⟨b61, e62, ?_⟩
    obtain ⟨c63, h⟩ := h
    refine ⟨c63, ?_⟩
    have o64 := c63
    obtain ⟨b65, e66, h⟩ := h
    refine ⟨b65, e66, ?_⟩
    obtain ⟨c67, h⟩ := h
    refine ⟨c67, ?_⟩
    obtain ⟨c68, h⟩ := h
    refine ⟨c68, ?_⟩
    obtain ⟨b69, e70, h⟩ := h
    refine ⟨b69, e70, ?_⟩
    obtain ⟨c71, h⟩ := h
    refine ⟨c71, ?_⟩
    refine cm_X1_leastWet (kj_X1_leastWet hU (fun q hq => hL q ((by decide : ∀ q ∈ kjL_X1_leastWet, q ∈ kjL_X9_even) q hq)) h) h (fun x72 x73 p75 h g74 => ?_)
    have h := h g74
    have K := kj9_tr K p75.2
    have o15 := gr_ob p75.2.1 o15
    have o27 := gr_ob p75.2.1 o27
    have o37 := gr_ob p75.2.1 o37
    have o54 := gr_ob p75.2.1 o54
    have o64 := gr_ob p75.2.1 o64
    obtain ⟨b76, e77, h⟩ := h
    refine ⟨b76, e77, ?_⟩
    obtain ⟨b78, e79, h⟩ := h
    refine ⟨b78, e79, ?_⟩
    obtain ⟨c80, h⟩ := h
    refine ⟨c80, ?_⟩
    have o81 := c80
    obtain ⟨b82, e83, h⟩ := h
    refine ⟨b82, e83, ?_⟩
    obtain ⟨c84, h⟩ := h
    refine ⟨c84, ?_⟩
    obtain ⟨c85, h⟩ := h
    refine ⟨c85, ?_⟩
    obtain ⟨b86, e87, h⟩ := h
    refine ⟨b86, e87, ?_⟩
    obtain ⟨b88, e89, h⟩ := h
    refine ⟨b88, e89, ?_⟩
    obtain ⟨c90, h⟩ := h
    refine ⟨c90, ?_⟩
    have o91 := c90
    obtain ⟨b92, e93, h⟩ := h
    refine ⟨b92, e93, ?_⟩
    obtain ⟨c94, h⟩ := h
    refine ⟨c94, ?_⟩
    obtain ⟨c95, h⟩ := h
    refine ⟨c95, ?_⟩
    obtain ⟨b96, e97, h⟩ := h
    refine ⟨b96, e97, ?_⟩
    obtain ⟨c98, h⟩ := h
    refine ⟨c98, ?_⟩
    refine cm_X1_wetOf (kj_X1_wetOf hU (fun q hq => hL q ((by decide : ∀ q ∈ kjL_X1_wetOf, q ∈ kjL_X9_even) q hq)) h) h (fun x99 x100 p102 h g101 => ?_)
    have h := h g101
    have K := kj9_tr K p102.2
    have o15 := gr_ob p102.2.1 o15
    have o27 := gr_ob p102.2.1 o27
    have o37 := gr_ob p102.2.1 o37
    have o54 := gr_ob p102.2.1 o54
    have o64 := gr_ob p102.2.1 o64
    have o81 := gr_ob p102.2.1 o81
    have o91 := gr_ob p102.2.1 o91
    refine ⟨?_, ?_⟩
    · intro c103
      have h := h.1 c103
      exact ⟨h, K⟩
    · intro c104
      have h := h.2 c104
      exact ⟨h, K⟩
  · intro c105
    have h := h.2 c105
    exact ⟨h, K⟩
theorem kj_X9_even {L : List (Nat × Nat)} (hU : ∀ q ∈ L, q ∈ njT) (hL : ∀ q ∈ kjL_X9_even, q ∈ L) {Q : Int32 → HS → Prop} {v0 : Nat} {v1 : Int32} {v2 : Int32} {v3 : Int32} {v4 : Int32} {S : HS} (h : P_X9_even v0 v1 v2 v3 v4 Q S) : P_X9_even v0 v1 v2 v3 v4 (fun r T => Q r T ∧ KJ L S T) S := kj_X9_even_0 hU hL h (kj9_rf L S)
abbrev kjL_X9_fraction : List (Nat × Nat) := []
set_option maxRecDepth 20000 in
set_option maxHeartbeats 1000000 in
theorem kj_X9_fraction_0 {L : List (Nat × Nat)} (hU : ∀ q ∈ L, q ∈ njT) (hL : ∀ q ∈ kjL_X9_fraction, q ∈ L) {Q : Int64 → HS → Prop} {v0 : Int64} {v2 : Int64} {v4 : Int32} {S0 S : HS} (h : P_X9_fraction_0 Q v0 v2 v4 S) (K : KJ L S0 S) : P_X9_fraction_0 (fun r T => Q r T ∧ KJ L S0 T) v0 v2 v4 S := by
  delta P_X9_fraction_0 at h ⊢
  refine cm_X9_commonDivisor (kj_X9_commonDivisor hU (fun q hq => hL q ((by decide : ∀ q ∈ kjL_X9_commonDivisor, q ∈ kjL_X9_fraction) q hq)) h) h (fun x1 x2 p4 h g3 => ?_)
  have h := h g3
  have K := kj9_tr K p4.2
  refine ⟨?_, ?_⟩
  · intro c5
    have h := h.1 c5
    refine ⟨?_, ?_⟩
    · intro c6
      have h := h.1 c6
      obtain ⟨c7, h⟩ := h
      refine ⟨c7, ?_⟩
      intro x9 e8
      have h := h x9 e8
      exact ⟨h, K⟩
    · intro c10
      have h := h.2 c10
      obtain ⟨c11, h⟩ := h
      refine ⟨c11, ?_⟩
      intro x13 e12
      have h := h x13 e12
      exact ⟨h, K⟩
  · intro c14
    have h := h.2 c14
    refine ⟨?_, ?_⟩
    · intro c15
      have h := h.1 c15
      exact ⟨h, K⟩
    · intro c16
      have h := h.2 c16
      exact ⟨h, K⟩
theorem kj_X9_fraction {L : List (Nat × Nat)} (hU : ∀ q ∈ L, q ∈ njT) (hL : ∀ q ∈ kjL_X9_fraction, q ∈ L) {Q : Int64 → HS → Prop} {v0 : Int64} {v2 : Int64} {v4 : Int32} {S : HS} (h : P_X9_fraction v0 v2 v4 Q S) : P_X9_fraction v0 v2 v4 (fun r T => Q r T ∧ KJ L S T) S := kj_X9_fraction_0 hU hL h (kj9_rf L S)
abbrev kjL_X9_isFace : List (Nat × Nat) := []
set_option maxRecDepth 20000 in
set_option maxHeartbeats 1000000 in
theorem kj_X9_isFace_0 {L : List (Nat × Nat)} (hU : ∀ q ∈ L, q ∈ njT) (hL : ∀ q ∈ kjL_X9_isFace, q ∈ L) {Q : Int32 → HS → Prop} {v0 : Int32} {S0 S : HS} (h : P_X9_isFace_0 Q v0 S) (K : KJ L S0 S) : P_X9_isFace_0 (fun r T => Q r T ∧ KJ L S0 T) v0 S := by
  delta P_X9_isFace_0 at h ⊢
  refine ⟨?_, ?_⟩
  · intro c1
    have h := h.1 c1
    exact ⟨h, K⟩
  · intro c2
    have h := h.2 c2
    refine ⟨?_, ?_⟩
    · intro c3
      have h := h.1 c3
      exact ⟨h, K⟩
    · intro c4
      have h := h.2 c4
      exact ⟨h, K⟩
theorem kj_X9_isFace {L : List (Nat × Nat)} (hU : ∀ q ∈ L, q ∈ njT) (hL : ∀ q ∈ kjL_X9_isFace, q ∈ L) {Q : Int32 → HS → Prop} {v0 : Int32} {S : HS} (h : P_X9_isFace v0 Q S) : P_X9_isFace v0 (fun r T => Q r T ∧ KJ L S T) S := kj_X9_isFace_0 hU hL h (kj9_rf L S)
abbrev kjL_X9_legTrouble : List (Nat × Nat) := []
set_option maxRecDepth 20000 in
set_option maxHeartbeats 1000000 in
theorem kj_X9_legTrouble_0 {L : List (Nat × Nat)} (hU : ∀ q ∈ L, q ∈ njT) (hL : ∀ q ∈ kjL_X9_legTrouble, q ∈ L) {Q : Int32 → HS → Prop} {v0 : Nat} {v1 : Int32} {v2 : Int32} {v3 : Int32} {v4 : Int32} {v5 : Int32} {S0 S : HS} (h : P_X9_legTrouble_0 Q v0 v1 v2 v3 v4 v5 S) (K : KJ L S0 S) : P_X9_legTrouble_0 (fun r T => Q r T ∧ KJ L S0 T) v0 v1 v2 v3 v4 v5 S := by
  delta P_X9_legTrouble_0 at h ⊢
  obtain ⟨c1, h⟩ := h
  refine ⟨c1, ?_⟩
  refine cm_X9_tripTrouble (kj_X9_tripTrouble hU (fun q hq => hL q ((by decide : ∀ q ∈ kjL_X9_tripTrouble, q ∈ kjL_X9_legTrouble) q hq)) h) h (fun x2 x3 p5 h g4 => ?_)
  have h := h g4
  have K := kj9_tr K p5.2
  refine ⟨?_, ?_⟩
  · intro c6
    have h := h.1 c6
    obtain ⟨b7, e8, h⟩ := h
    refine ⟨b7, e8, ?_⟩
    obtain ⟨c9, h⟩ := h
    refine ⟨c9, ?_⟩
    have o10 := c9
    obtain ⟨b11, e12, h⟩ := h
    refine ⟨b11, e12, ?_⟩
    obtain ⟨c13, h⟩ := h
    refine ⟨c13, ?_⟩
    obtain ⟨c14, h⟩ := h
    refine ⟨c14, ?_⟩
    obtain ⟨b15, e16, h⟩ := h
    refine ⟨b15, e16, ?_⟩
    obtain ⟨c17, h⟩ := h
    refine ⟨c17, ?_⟩
    refine cm_X6_canGo (kj_X6_canGo hU (fun q hq => hL q ((by decide : ∀ q ∈ kjL_X6_canGo, q ∈ kjL_X9_legTrouble) q hq)) h) h (fun x18 x19 p22 h g20 g21 => ?_)
    have h := h g20 g21
    have K := kj9_tr K p22.2
    have o10 := gr_ob p22.2.1 o10
    refine ⟨?_, ?_⟩
    · intro c23
      have h := h.1 c23
      exact ⟨h, K⟩
    · intro c24
      have h := h.2 c24
      exact ⟨h, K⟩
  · intro c25
    have h := h.2 c25
    exact ⟨h, K⟩
theorem kj_X9_legTrouble {L : List (Nat × Nat)} (hU : ∀ q ∈ L, q ∈ njT) (hL : ∀ q ∈ kjL_X9_legTrouble, q ∈ L) {Q : Int32 → HS → Prop} {v0 : Nat} {v1 : Int32} {v2 : Int32} {v3 : Int32} {v4 : Int32} {v5 : Int32} {S : HS} (h : P_X9_legTrouble v0 v1 v2 v3 v4 v5 Q S) : P_X9_legTrouble v0 v1 v2 v3 v4 v5 (fun r T => Q r T ∧ KJ L S T) S := kj_X9_legTrouble_0 hU hL h (kj9_rf L S)
abbrev kjL_X9_face : List (Nat × Nat) := []
set_option maxRecDepth 20000 in
set_option maxHeartbeats 1000000 in
theorem kj_X9_face_23 {L : List (Nat × Nat)} (hU : ∀ q ∈ L, q ∈ njT) (hL : ∀ q ∈ kjL_X9_face, q ∈ L) {Q : Int64 → HS → Prop} {v0 : Nat} {v1 : Int32} {v2 : Int32} {v3 : Int32} {v4 : Int32} {v5 : Int32} {v6 : Int32} {v7 : Int32} {s0 : Int32} {S0 S : HS} (h : P_X9_face_23 Q v0 v1 v2 v3 v4 v5 v6 v7 s0 S) (K : KJ L S0 S) : P_X9_face_23 (fun r T => Q r T ∧ KJ L S0 T) v0 v1 v2 v3 v4 v5 v6 v7 s0 S := by
  delta P_X9_face_23 at h ⊢
  obtain ⟨c1, h⟩ := h
  refine ⟨c1, ?_⟩
  refine cm_X9_refusedBy (kj_X9_refusedBy hU (fun q hq => hL q ((by decide : ∀ q ∈ kjL_X9_refusedBy, q ∈ kjL_X9_face) q hq)) h) h (fun x2 x3 p6 h g4 g5 => ?_)
  have h := h g4 g5
  have K := kj9_tr K p6.2
  refine ⟨?_, ?_⟩
  · intro c7
    have h := h.1 c7
    obtain ⟨b8, e9, h⟩ := h
    refine ⟨b8, e9, ?_⟩
    obtain ⟨b10, e11, h⟩ := h
    refine ⟨b10, e11, ?_⟩
    obtain ⟨c12, h⟩ := h
    refine ⟨c12, ?_⟩
    have o13 := c12
    obtain ⟨b14, e15, h⟩ := h
    refine ⟨b14, e15, ?_⟩
    obtain ⟨c16, h⟩ := h
    refine ⟨c16, ?_⟩
    obtain ⟨c17, h⟩ := h
    refine ⟨c17, ?_⟩
    obtain ⟨b18, e19, h⟩ := h
    refine ⟨b18, e19, ?_⟩
    obtain ⟨b20, e21, h⟩ := h
    refine ⟨b20, e21, ?_⟩
    obtain ⟨c22, h⟩ := h
    refine ⟨c22, ?_⟩
    have o23 := c22
    obtain ⟨b24, e25, h⟩ := h
    refine ⟨b24, e25, ?_⟩
    obtain ⟨c26, h⟩ := h
    refine ⟨c26, ?_⟩
    obtain ⟨c27, h⟩ := h
    refine ⟨c27, ?_⟩
    obtain ⟨b28, e29, h⟩ := h
    refine ⟨b28, e29, ?_⟩
    obtain ⟨b30, e31, h⟩ := h
    refine ⟨b30, e31, ?_⟩
    obtain ⟨c32, h⟩ := h
    refine ⟨c32, ?_⟩
    have o33 := c32
    obtain ⟨b34, e35, h⟩ := h
    refine ⟨b34, e35, ?_⟩
    obtain ⟨c36, h⟩ := h
    refine ⟨c36, ?_⟩
    obtain ⟨c37, h⟩ := h
    refine ⟨c37, ?_⟩
    obtain ⟨b38, e39, h⟩ := h
    refine ⟨b38, e39, ?_⟩
    obtain ⟨c40, h⟩ := h
    refine ⟨c40, ?_⟩
    refine cm_X1_wetOf (kj_X1_wetOf hU (fun q hq => hL q ((by decide : ∀ q ∈ kjL_X1_wetOf, q ∈ kjL_X9_face) q hq)) h) h (fun x41 x42 p44 h g43 => ?_)
    have h := h g43
    have K := kj9_tr K p44.2
    have o13 := gr_ob p44.2.1 o13
    have o23 := gr_ob p44.2.1 o23
    have o33 := gr_ob p44.2.1 o33
    obtain ⟨b45, e46, h⟩ := h
    refine ⟨b45, e46, ?_⟩
    obtain ⟨c47, h⟩ := h
    refine ⟨c47, ?_⟩
    obtain ⟨b48, e49, h⟩ := h
    refine ⟨b48, e49, ?_⟩
    obtain ⟨c50, h⟩ := h
    refine ⟨c50, ?_⟩
    obtain ⟨c51, h⟩ := h
    refine ⟨c51, ?_⟩
    intro x53 e52
    have h := h x53 e52
    refine cm_X9_fraction (kj_X9_fraction hU (fun q hq => hL q ((by decide : ∀ q ∈ kjL_X9_fraction, q ∈ kjL_X9_face) q hq)) h) h (fun x54 x55 p57 h g56 => ?_)
    have h := h g56
    have K := kj9_tr K p57.2
    have o13 := gr_ob p57.2.1 o13
    have o23 := gr_ob p57.2.1 o23
    have o33 := gr_ob p57.2.1 o33
    exact ⟨h, K⟩
  · intro c58
    have h := h.2 c58
    exact ⟨h, K⟩
set_option maxRecDepth 20000 in
set_option maxHeartbeats 1000000 in
theorem kj_X9_face_0 {L : List (Nat × Nat)} (hU : ∀ q ∈ L, q ∈ njT) (hL : ∀ q ∈ kjL_X9_face, q ∈ L) {Q : Int64 → HS → Prop} {v0 : Nat} {v1 : Int32} {v2 : Int32} {v3 : Int32} {v4 : Int32} {v5 : Int32} {v6 : Int32} {v7 : Int32} {S0 S : HS} (h : P_X9_face_0 Q v0 v1 v2 v3 v4 v5 v6 v7 S) (K : KJ L S0 S) : P_X9_face_0 (fun r T => Q r T ∧ KJ L S0 T) v0 v1 v2 v3 v4 v5 v6 v7 S := by
  delta P_X9_face_0 at h ⊢
  refine cm_X9_isFace (kj_X9_isFace hU (fun q hq => hL q ((by decide : ∀ q ∈ kjL_X9_isFace, q ∈ kjL_X9_face) q hq)) h) h (fun x1 x2 p5 h g3 g4 => ?_)
  have h := h g3 g4
  have K := kj9_tr K p5.2
  refine ⟨?_, ?_⟩
  · intro c6
    have h := h.1 c6
    exact kj_X9_face_23 hU hL h K
  · intro c7
    have h := h.2 c7
    obtain ⟨c8, h⟩ := h
    refine ⟨c8, ?_⟩
    refine cm_X9_legTrouble (kj_X9_legTrouble hU (fun q hq => hL q ((by decide : ∀ q ∈ kjL_X9_legTrouble, q ∈ kjL_X9_face) q hq)) h) h (fun x9 x10 p12 h g11 => ?_)
    have h := h g11
    have K := kj9_tr K p12.2
    exact kj_X9_face_23 hU hL h K
theorem kj_X9_face {L : List (Nat × Nat)} (hU : ∀ q ∈ L, q ∈ njT) (hL : ∀ q ∈ kjL_X9_face, q ∈ L) {Q : Int64 → HS → Prop} {v0 : Nat} {v1 : Int32} {v2 : Int32} {v3 : Int32} {v4 : Int32} {v5 : Int32} {v6 : Int32} {v7 : Int32} {S : HS} (h : P_X9_face v0 v1 v2 v3 v4 v5 v6 v7 Q S) : P_X9_face v0 v1 v2 v3 v4 v5 v6 v7 (fun r T => Q r T ∧ KJ L S T) S := kj_X9_face_0 hU hL h (kj9_rf L S)
abbrev kjL_X9_putBytes : List (Nat × Nat) := []
set_option maxRecDepth 20000 in
set_option maxHeartbeats 1000000 in
theorem kj_X9_putBytes_49 {L : List (Nat × Nat)} (hU : ∀ q ∈ L, q ∈ njT) (hL : ∀ q ∈ kjL_X9_putBytes, q ∈ L) {Q : HS → Prop} {X3 X3_2 : Nat → Int32 → Int32 → HS → Prop} {v0 : Nat} {v1 : Int32} {v2 : Int32} {S0 S : HS} (h : P_X9_putBytes_49 Q X3 v0 v1 v2 S) (K : KJ L S0 S) (hX3 : ∀ (u0 : Nat) (u1 : Int32) (u2 : Int32) (u3 : HS), X3 u0 u1 u2 u3 → KJ L S0 u3 → X3_2 u0 u1 u2 u3) : P_X9_putBytes_49 (fun T => Q T ∧ KJ L S0 T) X3_2 v0 v1 v2 S := by
  delta P_X9_putBytes_49 at h ⊢
  intro x2 e1
  have h := h x2 e1
  exact hX3 _ _ _ _ h K
set_option maxRecDepth 20000 in
set_option maxHeartbeats 1000000 in
theorem kjB_X9_putBytes_3 {L : List (Nat × Nat)} (hU : ∀ q ∈ L, q ∈ njT) (hL : ∀ q ∈ kjL_X9_putBytes, q ∈ L) {Q : HS → Prop} {X3 X3_2 : Nat → Int32 → Int32 → HS → Prop} {v0 : Nat} {v1 : Int32} {v2 : Int32} {S0 S : HS} (h : B_X9_putBytes_3 Q X3 v0 v1 v2 S) (K : KJ L S0 S) (hX3 : ∀ (u0 : Nat) (u1 : Int32) (u2 : Int32) (u3 : HS), X3 u0 u1 u2 u3 → KJ L S0 u3 → X3_2 u0 u1 u2 u3) : B_X9_putBytes_3 (fun T => Q T ∧ KJ L S0 T) X3_2 v0 v1 v2 S := by
  delta B_X9_putBytes_3 at h ⊢
  refine ⟨?_, ?_⟩
  · intro c1
    have h := h.1 c1
    exact ⟨h, K⟩
  · intro c2
    have h := h.2 c2
    obtain ⟨c3, h⟩ := h
    refine ⟨c3, ?_⟩
    have n4 := kj9_nk K c3 (by decide)
    intro x6 e5
    have h := h x6 e5
    refine ⟨?_, ?_⟩
    · intro c7
      have h := h.1 c7
      exact kj_X9_putBytes_49 hU hL h K hX3
    · intro c8
      have h := h.2 c8
      intro x10 e9
      have h := h x10 e9
      obtain ⟨b11, e12, h⟩ := h
      refine ⟨b11, e12, ?_⟩
      obtain ⟨c13, h⟩ := h
      refine ⟨c13, ?_⟩
      refine ⟨?_, ?_⟩
      · intro c14
        have h := h.1 c14
        exact kj_X9_putBytes_49 hU hL h K hX3
      · intro c15
        have h := h.2 c15
        obtain ⟨b16, e17, h⟩ := h
        refine ⟨b16, e17, ?_⟩
        intro x19 e18
        have h := h x19 e18
        obtain ⟨c20, h⟩ := h
        refine ⟨c20, ?_⟩
        have n21 := kj9_nk K c20 (by decide)
        intro x23 e22
        have h := h x23 e22
        obtain ⟨c24, h⟩ := h
        refine ⟨c24, ?_⟩
        intro x26 e25
        have h := h x26 e25
        have K := kj9_I K e25 n21
        intro x28 e27
        have h := h x28 e27
        intro x30 e29
        have h := h x30 e29
        intro x32 e31
        have h := h x32 e31
        have K := kj9_I K e31 n4
        exact kj_X9_putBytes_49 hU hL h K hX3
theorem kj_X9_putBytes_3 {L : List (Nat × Nat)} (hU : ∀ q ∈ L, q ∈ njT) (hL : ∀ q ∈ kjL_X9_putBytes, q ∈ L) {Q : HS → Prop} {v0 : Nat} {v1 : Int32} {v2 : Int32} {S0 S : HS} (h : P_X9_putBytes_3 Q v0 v1 v2 S) (K : KJ L S0 S) : P_X9_putBytes_3 (fun T => Q T ∧ KJ L S0 T) v0 v1 v2 S := h (fun v0 v1 v2 S => KJ L S0 S → P_X9_putBytes_3 (fun T => Q T ∧ KJ L S0 T) v0 v1 v2 S) (fun v0 v1 v2 S hB K => fd_X9_putBytes_3 (kjB_X9_putBytes_3 hU hL hB K (fun _ _ _ _ hx K => hx K))) K
set_option maxRecDepth 20000 in
set_option maxHeartbeats 1000000 in
theorem kj_X9_putBytes_0 {L : List (Nat × Nat)} (hU : ∀ q ∈ L, q ∈ njT) (hL : ∀ q ∈ kjL_X9_putBytes, q ∈ L) {Q : HS → Prop} {v0 : Nat} {v1 : Int32} {S0 S : HS} (h : P_X9_putBytes_0 Q v0 v1 S) (K : KJ L S0 S) : P_X9_putBytes_0 (fun T => Q T ∧ KJ L S0 T) v0 v1 S := by
  delta P_X9_putBytes_0 at h ⊢
  exact kj_X9_putBytes_3 hU hL h K
theorem kj_X9_putBytes {L : List (Nat × Nat)} (hU : ∀ q ∈ L, q ∈ njT) (hL : ∀ q ∈ kjL_X9_putBytes, q ∈ L) {Q : HS → Prop} {v0 : Nat} {v1 : Int32} {S : HS} (h : P_X9_putBytes v0 v1 Q S) : P_X9_putBytes v0 v1 (fun T => Q T ∧ KJ L S T) S := kj_X9_putBytes_0 hU hL h (kj9_rf L S)
abbrev kjL_X9_feed : List (Nat × Nat) := []
set_option maxRecDepth 20000 in
set_option maxHeartbeats 1000000 in
theorem kj_X9_feed_0 {L : List (Nat × Nat)} (hU : ∀ q ∈ L, q ∈ njT) (hL : ∀ q ∈ kjL_X9_feed, q ∈ L) {Q : Int32 → HS → Prop} {v0 : Nat} {v1 : Int32} {v2 : Int32} {v3 : Int32} {v4 : Int32} {v5 : Int32} {S0 S : HS} (h : P_X9_feed_0 Q v0 v1 v2 v3 v4 v5 S) (K : KJ L S0 S) : P_X9_feed_0 (fun r T => Q r T ∧ KJ L S0 T) v0 v1 v2 v3 v4 v5 S := by
  delta P_X9_feed_0 at h ⊢
  obtain ⟨c1, h⟩ := h
  refine ⟨c1, ?_⟩
  intro x3 e2
  have h := h x3 e2
  refine ⟨?_, ?_⟩
  · intro c4
    have h := h.1 c4
    refine cm_X9_putBytes (kj_X9_putBytes hU (fun q hq => hL q ((by decide : ∀ q ∈ kjL_X9_putBytes, q ∈ kjL_X9_feed) q hq)) h) h (fun x5 p7 h g6 => ?_)
    have h := h g6
    have K := kj9_tr K p7.2
    refine cm_X9_putBytes (kj_X9_putBytes hU (fun q hq => hL q ((by decide : ∀ q ∈ kjL_X9_putBytes, q ∈ kjL_X9_feed) q hq)) h) h (fun x8 p10 h g9 => ?_)
    have h := h g9
    have K := kj9_tr K p10.2
    refine cm_X9_putBytes (kj_X9_putBytes hU (fun q hq => hL q ((by decide : ∀ q ∈ kjL_X9_putBytes, q ∈ kjL_X9_feed) q hq)) h) h (fun x11 p13 h g12 => ?_)
    have h := h g12
    have K := kj9_tr K p13.2
    refine cm_X9_putBytes (kj_X9_putBytes hU (fun q hq => hL q ((by decide : ∀ q ∈ kjL_X9_putBytes, q ∈ kjL_X9_feed) q hq)) h) h (fun x14 p16 h g15 => ?_)
    have h := h g15
    have K := kj9_tr K p16.2
    refine cm_X9_putBytes (kj_X9_putBytes hU (fun q hq => hL q ((by decide : ∀ q ∈ kjL_X9_putBytes, q ∈ kjL_X9_feed) q hq)) h) h (fun x17 p19 h g18 => ?_)
    have h := h g18
    have K := kj9_tr K p19.2
    intro x21 e20
    have h := h x21 e20
    exact ⟨h, K⟩
  · intro c22
    have h := h.2 c22
    exact ⟨h, K⟩
theorem kj_X9_feed {L : List (Nat × Nat)} (hU : ∀ q ∈ L, q ∈ njT) (hL : ∀ q ∈ kjL_X9_feed, q ∈ L) {Q : Int32 → HS → Prop} {v0 : Nat} {v1 : Int32} {v2 : Int32} {v3 : Int32} {v4 : Int32} {v5 : Int32} {S : HS} (h : P_X9_feed v0 v1 v2 v3 v4 v5 Q S) : P_X9_feed v0 v1 v2 v3 v4 v5 (fun r T => Q r T ∧ KJ L S T) S := kj_X9_feed_0 hU hL h (kj9_rf L S)
abbrev kjL_X9_leeTrouble : List (Nat × Nat) := []
set_option maxRecDepth 20000 in
set_option maxHeartbeats 1000000 in
theorem kj_X9_leeTrouble_0 {L : List (Nat × Nat)} (hU : ∀ q ∈ L, q ∈ njT) (hL : ∀ q ∈ kjL_X9_leeTrouble, q ∈ L) {Q : Int32 → HS → Prop} {v0 : Nat} {v1 : Int32} {v2 : Int32} {v3 : Int32} {v4 : Int32} {v5 : Int32} {v6 : Int32} {S0 S : HS} (h : P_X9_leeTrouble_0 Q v0 v1 v2 v3 v4 v5 v6 S) (K : KJ L S0 S) : P_X9_leeTrouble_0 (fun r T => Q r T ∧ KJ L S0 T) v0 v1 v2 v3 v4 v5 v6 S := by
  delta P_X9_leeTrouble_0 at h ⊢
  refine ⟨?_, ?_⟩
  · intro c1
    have h := h.1 c1
    exact ⟨h, K⟩
  · intro c2
    have h := h.2 c2
    obtain ⟨c3, h⟩ := h
    refine ⟨c3, ?_⟩
    obtain ⟨b4, e5, h⟩ := h
    refine ⟨b4, e5, ?_⟩
    obtain ⟨c6, h⟩ := h
    refine ⟨c6, ?_⟩
    refine cm_X8_hasWalker (kj_X8_hasWalker hU (fun q hq => hL q ((by decide : ∀ q ∈ kjL_X8_hasWalker, q ∈ kjL_X9_leeTrouble) q hq)) h) h (fun x7 x8 p11 h g9 g10 => ?_)
    have h := h g9 g10
    have K := kj9_tr K p11.2
    refine ⟨?_, ?_⟩
    · intro c12
      have h := h.1 c12
      exact ⟨h, K⟩
    · intro c13
      have h := h.2 c13
      obtain ⟨b14, e15, h⟩ := h
      refine ⟨b14, e15, ?_⟩
      obtain ⟨c16, h⟩ := h
      refine ⟨c16, ?_⟩
      refine cm_X8_hasWalker (kj_X8_hasWalker hU (fun q hq => hL q ((by decide : ∀ q ∈ kjL_X8_hasWalker, q ∈ kjL_X9_leeTrouble) q hq)) h) h (fun x17 x18 p21 h g19 g20 => ?_)
      have h := h g19 g20
      have K := kj9_tr K p21.2
      refine ⟨?_, ?_⟩
      · intro c22
        have h := h.1 c22
        refine cm_X9_legTrouble (kj_X9_legTrouble hU (fun q hq => hL q ((by decide : ∀ q ∈ kjL_X9_legTrouble, q ∈ kjL_X9_leeTrouble) q hq)) h) h (fun x23 x24 p26 h g25 => ?_)
        have h := h g25
        have K := kj9_tr K p26.2
        refine ⟨?_, ?_⟩
        · intro c27
          have h := h.1 c27
          obtain ⟨b28, e29, h⟩ := h
          refine ⟨b28, e29, ?_⟩
          obtain ⟨c30, h⟩ := h
          refine ⟨c30, ?_⟩
          have o31 := c30
          obtain ⟨b32, e33, h⟩ := h
          refine ⟨b32, e33, ?_⟩
          obtain ⟨c34, h⟩ := h
          refine ⟨c34, ?_⟩
          obtain ⟨c35, h⟩ := h
          refine ⟨c35, ?_⟩
          obtain ⟨b36, e37, h⟩ := h
          refine ⟨b36, e37, ?_⟩
          obtain ⟨c38, h⟩ := h
          refine ⟨c38, ?_⟩
          refine cm_X6_canGo (kj_X6_canGo hU (fun q hq => hL q ((by decide : ∀ q ∈ kjL_X6_canGo, q ∈ kjL_X9_leeTrouble) q hq)) h) h (fun x39 x40 p43 h g41 g42 => ?_)
          have h := h g41 g42
          have K := kj9_tr K p43.2
          have o31 := gr_ob p43.2.1 o31
          refine ⟨?_, ?_⟩
          · intro c44
            have h := h.1 c44
            exact ⟨h, K⟩
          · intro c45
            have h := h.2 c45
            exact ⟨h, K⟩
        · intro c46
          have h := h.2 c46
          exact ⟨h, K⟩
      · intro c47
        have h := h.2 c47
        exact ⟨h, K⟩
theorem kj_X9_leeTrouble {L : List (Nat × Nat)} (hU : ∀ q ∈ L, q ∈ njT) (hL : ∀ q ∈ kjL_X9_leeTrouble, q ∈ L) {Q : Int32 → HS → Prop} {v0 : Nat} {v1 : Int32} {v2 : Int32} {v3 : Int32} {v4 : Int32} {v5 : Int32} {v6 : Int32} {S : HS} (h : P_X9_leeTrouble v0 v1 v2 v3 v4 v5 v6 Q S) : P_X9_leeTrouble v0 v1 v2 v3 v4 v5 v6 (fun r T => Q r T ∧ KJ L S T) S := kj_X9_leeTrouble_0 hU hL h (kj9_rf L S)
abbrev kjL_X9_first : List (Nat × Nat) := []
set_option maxRecDepth 20000 in
set_option maxHeartbeats 1000000 in
theorem kj_X9_first_0 {L : List (Nat × Nat)} (hU : ∀ q ∈ L, q ∈ njT) (hL : ∀ q ∈ kjL_X9_first, q ∈ L) {Q : Int32 → HS → Prop} {v0 : Nat} {v1 : Int32} {v2 : Int32} {v3 : Int32} {v4 : Int32} {v5 : Int32} {v6 : Int32} {S0 S : HS} (h : P_X9_first_0 Q v0 v1 v2 v3 v4 v5 v6 S) (K : KJ L S0 S) : P_X9_first_0 (fun r T => Q r T ∧ KJ L S0 T) v0 v1 v2 v3 v4 v5 v6 S := by
  delta P_X9_first_0 at h ⊢
  obtain ⟨c1, h⟩ := h
  refine ⟨c1, ?_⟩
  refine cm_X9_leeTrouble (kj_X9_leeTrouble hU (fun q hq => hL q ((by decide : ∀ q ∈ kjL_X9_leeTrouble, q ∈ kjL_X9_first) q hq)) h) h (fun x2 x3 p5 h g4 => ?_)
  have h := h g4
  have K := kj9_tr K p5.2
  refine cm_X9_refusedBy (kj_X9_refusedBy hU (fun q hq => hL q ((by decide : ∀ q ∈ kjL_X9_refusedBy, q ∈ kjL_X9_first) q hq)) h) h (fun x6 x7 p10 h g8 g9 => ?_)
  have h := h g8 g9
  have K := kj9_tr K p10.2
  refine ⟨?_, ?_⟩
  · intro c11
    have h := h.1 c11
    obtain ⟨b12, e13, h⟩ := h
    refine ⟨b12, e13, ?_⟩
    obtain ⟨b14, e15, h⟩ := h
    refine ⟨b14, e15, ?_⟩
    obtain ⟨c16, h⟩ := h
    refine ⟨c16, ?_⟩
    have o17 := c16
    obtain ⟨b18, e19, h⟩ := h
    refine ⟨b18, e19, ?_⟩
    obtain ⟨c20, h⟩ := h
    refine ⟨c20, ?_⟩
    obtain ⟨c21, h⟩ := h
    refine ⟨c21, ?_⟩
    obtain ⟨b22, e23, h⟩ := h
    refine ⟨b22, e23, ?_⟩
    obtain ⟨b24, e25, h⟩ := h
    refine ⟨b24, e25, ?_⟩
    obtain ⟨c26, h⟩ := h
    refine ⟨c26, ?_⟩
    have o27 := c26
    obtain ⟨b28, e29, h⟩ := h
    refine ⟨b28, e29, ?_⟩
    obtain ⟨c30, h⟩ := h
    refine ⟨c30, ?_⟩
    obtain ⟨c31, h⟩ := h
    refine ⟨c31, ?_⟩
    obtain ⟨b32, e33, h⟩ := h
    refine ⟨b32, e33, ?_⟩
    obtain ⟨c34, h⟩ := h
    refine ⟨c34, ?_⟩
    refine cm_X1_lay (kj_X1_lay hU (fun q hq => hL q ((by decide : ∀ q ∈ kjL_X1_lay, q ∈ kjL_X9_first) q hq)) h) h (fun x35 p37 h g36 => ?_)
    have h := h g36
    have K := kj9_tr K p37.2
    have o17 := gr_ob p37.2.1 o17
    have o27 := gr_ob p37.2.1 o27
    obtain ⟨b38, e39, h⟩ := h
    refine ⟨b38, e39, ?_⟩
    obtain ⟨b40, e41, h⟩ := h
    refine ⟨b40, e41, ?_⟩
    obtain ⟨c42, h⟩ := h
    refine ⟨c42, ?_⟩
    have o43 := c42
    obtain ⟨b44, e45, h⟩ := h
    refine ⟨b44, e45, ?_⟩
    obtain ⟨c46, h⟩ := h
    refine ⟨c46, ?_⟩
    obtain ⟨c47, h⟩ := h
    refine ⟨c47, ?_⟩
    obtain ⟨b48, e49, h⟩ := h
    refine ⟨b48, e49, ?_⟩
    obtain ⟨b50, e51, h⟩ := h
    refine ⟨b50, e51, ?_⟩
    obtain ⟨c52, h⟩ := h
    refine ⟨c52, ?_⟩
    have o53 := c52
    obtain ⟨b54, e55, h⟩ := h
    refine ⟨b54, e55, ?_⟩
    obtain ⟨c56, h⟩ := h
    refine ⟨c56, ?_⟩
    obtain ⟨c57, h⟩ := h
    refine ⟨c57, ?_⟩
    obtain ⟨b58, e59, h⟩ := h
    refine ⟨b58, e59, ?_⟩
    obtain ⟨c60, h⟩ := h
    refine ⟨c60, ?_⟩
    refine cm_X1_wetInLee (kj_X1_wetInLee hU (fun q hq => hL q ((by decide : ∀ q ∈ kjL_X1_wetInLee, q ∈ kjL_X9_first) q hq)) h) h (fun x61 x62 p64 h g63 => ?_)
    have h := h g63
    have K := kj9_tr K p64.2
    have o17 := gr_ob p64.2.1 o17
    have o27 := gr_ob p64.2.1 o27
    have o43 := gr_ob p64.2.1 o43
    have o53 := gr_ob p64.2.1 o53
    obtain ⟨b65, e66, h⟩ := h
    refine ⟨b65, e66, ?_⟩
    obtain ⟨b67, e68, h⟩ := h
    refine ⟨b67, e68, ?_⟩
    obtain ⟨c69, h⟩ := h
    refine ⟨c69, ?_⟩
    have o70 := c69
    obtain ⟨b71, e72, h⟩ := h
    refine ⟨b71, e72, ?_⟩
    obtain ⟨c73, h⟩ := h
    refine ⟨c73, ?_⟩
    obtain ⟨c74, h⟩ := h
    refine ⟨c74, ?_⟩
    obtain ⟨b75, e76, h⟩ := h
    refine ⟨b75, e76, ?_⟩
    obtain ⟨b77, e78, h⟩ := h
    refine ⟨b77, e78, ?_⟩
    obtain ⟨c79, h⟩ := h
    refine ⟨c79, ?_⟩
    have o80 := c79
    obtain ⟨b81, e82, h⟩ := h
    refine ⟨b81, e82, ?_⟩
    obtain ⟨c83, h⟩ := h
    refine ⟨c83, ?_⟩
    obtain ⟨c84, h⟩ := h
    refine ⟨c84, ?_⟩
    obtain ⟨b85, e86, h⟩ := h
    refine ⟨b85, e86, ?_⟩
    obtain ⟨c87, h⟩ := h
    refine ⟨c87, ?_⟩
    refine cm_X1_wetInLee (kj_X1_wetInLee hU (fun q hq => hL q ((by decide : ∀ q ∈ kjL_X1_wetInLee, q ∈ kjL_X9_first) q hq)) h) h (fun x88 x89 p91 h g90 => ?_)
    have h := h g90
    have K := kj9_tr K p91.2
    have o17 := gr_ob p91.2.1 o17
    have o27 := gr_ob p91.2.1 o27
    have o43 := gr_ob p91.2.1 o43
    have o53 := gr_ob p91.2.1 o53
    have o70 := gr_ob p91.2.1 o70
    have o80 := gr_ob p91.2.1 o80
    refine ⟨?_, ?_⟩
    · intro c92
      have h := h.1 c92
      refine ⟨?_, ?_⟩
      · intro c93
        have h := h.1 c93
        exact ⟨h, K⟩
      · intro c94
        have h := h.2 c94
        exact ⟨h, K⟩
    · intro c95
      have h := h.2 c95
      exact ⟨h, K⟩
  · intro c96
    have h := h.2 c96
    exact ⟨h, K⟩
theorem kj_X9_first {L : List (Nat × Nat)} (hU : ∀ q ∈ L, q ∈ njT) (hL : ∀ q ∈ kjL_X9_first, q ∈ L) {Q : Int32 → HS → Prop} {v0 : Nat} {v1 : Int32} {v2 : Int32} {v3 : Int32} {v4 : Int32} {v5 : Int32} {v6 : Int32} {S : HS} (h : P_X9_first v0 v1 v2 v3 v4 v5 v6 Q S) : P_X9_first v0 v1 v2 v3 v4 v5 v6 (fun r T => Q r T ∧ KJ L S T) S := kj_X9_first_0 hU hL h (kj9_rf L S)
abbrev kjL_X9_fit : List (Nat × Nat) := []
set_option maxRecDepth 20000 in
set_option maxHeartbeats 1000000 in
theorem kj_X9_fit_15 {L : List (Nat × Nat)} (hU : ∀ q ∈ L, q ∈ njT) (hL : ∀ q ∈ kjL_X9_fit, q ∈ L) {Q : Int32 → HS → Prop} {v0 : Nat} {S0 S : HS} (h : P_X9_fit_15 Q v0 S) (K : KJ L S0 S) : P_X9_fit_15 (fun r T => Q r T ∧ KJ L S0 T) v0 S := by
  delta P_X9_fit_15 at h ⊢
  obtain ⟨c1, h⟩ := h
  refine ⟨c1, ?_⟩
  refine cm_X9_refuse (kj_X9_refuse hU (fun q hq => hL q ((by decide : ∀ q ∈ kjL_X9_refuse, q ∈ kjL_X9_fit) q hq)) h) h (fun x2 x3 p5 h g4 => ?_)
  have h := h g4
  have K := kj9_tr K p5.2
  exact ⟨h, K⟩
set_option maxRecDepth 20000 in
set_option maxHeartbeats 1000000 in
theorem kj_X9_fit_0 {L : List (Nat × Nat)} (hU : ∀ q ∈ L, q ∈ njT) (hL : ∀ q ∈ kjL_X9_fit, q ∈ L) {Q : Int32 → HS → Prop} {v0 : Nat} {v1 : Int32} {v2 : Int32} {S0 S : HS} (h : P_X9_fit_0 Q v0 v1 v2 S) (K : KJ L S0 S) : P_X9_fit_0 (fun r T => Q r T ∧ KJ L S0 T) v0 v1 v2 S := by
  delta P_X9_fit_0 at h ⊢
  obtain ⟨c1, h⟩ := h
  refine ⟨c1, ?_⟩
  obtain ⟨b2, e3, h⟩ := h
  refine ⟨b2, e3, ?_⟩
  obtain ⟨c4, h⟩ := h
  refine ⟨c4, ?_⟩
  refine cm_X8_hasSeen (kj_X8_hasSeen hU (fun q hq => hL q ((by decide : ∀ q ∈ kjL_X8_hasSeen, q ∈ kjL_X9_fit) q hq)) h) h (fun x5 x6 p9 h g7 g8 => ?_)
  have h := h g7 g8
  have K := kj9_tr K p9.2
  refine ⟨?_, ?_⟩
  · intro c10
    have h := h.1 c10
    exact kj_X9_fit_15 hU hL h K
  · intro c11
    have h := h.2 c11
    refine ⟨?_, ?_⟩
    · intro c12
      have h := h.1 c12
      obtain ⟨b13, e14, h⟩ := h
      refine ⟨b13, e14, ?_⟩
      obtain ⟨b15, e16, h⟩ := h
      refine ⟨b15, e16, ?_⟩
      obtain ⟨c17, h⟩ := h
      refine ⟨c17, ?_⟩
      refine cm_X1_findFit (kj_X1_findFit hU (fun q hq => hL q ((by decide : ∀ q ∈ kjL_X1_findFit, q ∈ kjL_X9_fit) q hq)) h) h (fun x18 x19 p21 h g20 => ?_)
      have h := h g20
      have K := kj9_tr K p21.2
      refine ⟨?_, ?_⟩
      · intro c22
        have h := h.1 c22
        refine cm_X9_grant (kj_X9_grant hU (fun q hq => hL q ((by decide : ∀ q ∈ kjL_X9_grant, q ∈ kjL_X9_fit) q hq)) h) h (fun x23 x24 p26 h g25 => ?_)
        have h := h g25
        have K := kj9_tr K p26.2
        exact ⟨h, K⟩
      · intro c27
        have h := h.2 c27
        refine cm_X9_refuse (kj_X9_refuse hU (fun q hq => hL q ((by decide : ∀ q ∈ kjL_X9_refuse, q ∈ kjL_X9_fit) q hq)) h) h (fun x28 x29 p31 h g30 => ?_)
        have h := h g30
        have K := kj9_tr K p31.2
        exact ⟨h, K⟩
    · intro c32
      have h := h.2 c32
      exact kj_X9_fit_15 hU hL h K
theorem kj_X9_fit {L : List (Nat × Nat)} (hU : ∀ q ∈ L, q ∈ njT) (hL : ∀ q ∈ kjL_X9_fit, q ∈ L) {Q : Int32 → HS → Prop} {v0 : Nat} {v1 : Int32} {v2 : Int32} {S : HS} (h : P_X9_fit v0 v1 v2 Q S) : P_X9_fit v0 v1 v2 (fun r T => Q r T ∧ KJ L S T) S := kj_X9_fit_0 hU hL h (kj9_rf L S)
abbrev kjL_X9_fits : List (Nat × Nat) := []
set_option maxRecDepth 20000 in
set_option maxHeartbeats 1000000 in
theorem kj_X9_fits_0 {L : List (Nat × Nat)} (hU : ∀ q ∈ L, q ∈ njT) (hL : ∀ q ∈ kjL_X9_fits, q ∈ L) {Q : Int32 → HS → Prop} {v0 : Nat} {v1 : Int32} {S0 S : HS} (h : P_X9_fits_0 Q v0 v1 S) (K : KJ L S0 S) : P_X9_fits_0 (fun r T => Q r T ∧ KJ L S0 T) v0 v1 S := by
  delta P_X9_fits_0 at h ⊢
  obtain ⟨c1, h⟩ := h
  refine ⟨c1, ?_⟩
  obtain ⟨b2, e3, h⟩ := h
  refine ⟨b2, e3, ?_⟩
  obtain ⟨c4, h⟩ := h
  refine ⟨c4, ?_⟩
  refine cm_X8_hasSeen (kj_X8_hasSeen hU (fun q hq => hL q ((by decide : ∀ q ∈ kjL_X8_hasSeen, q ∈ kjL_X9_fits) q hq)) h) h (fun x5 x6 p9 h g7 g8 => ?_)
  have h := h g7 g8
  have K := kj9_tr K p9.2
  refine ⟨?_, ?_⟩
  · intro c10
    have h := h.1 c10
    obtain ⟨b11, e12, h⟩ := h
    refine ⟨b11, e12, ?_⟩
    obtain ⟨b13, e14, h⟩ := h
    refine ⟨b13, e14, ?_⟩
    obtain ⟨c15, h⟩ := h
    refine ⟨c15, ?_⟩
    refine cm_X1_countFits (kj_X1_countFits hU (fun q hq => hL q ((by decide : ∀ q ∈ kjL_X1_countFits, q ∈ kjL_X9_fits) q hq)) h) h (fun x16 x17 p19 h g18 => ?_)
    have h := h g18
    have K := kj9_tr K p19.2
    refine cm_X9_grant (kj_X9_grant hU (fun q hq => hL q ((by decide : ∀ q ∈ kjL_X9_grant, q ∈ kjL_X9_fits) q hq)) h) h (fun x20 x21 p23 h g22 => ?_)
    have h := h g22
    have K := kj9_tr K p23.2
    exact ⟨h, K⟩
  · intro c24
    have h := h.2 c24
    refine cm_X9_refuse (kj_X9_refuse hU (fun q hq => hL q ((by decide : ∀ q ∈ kjL_X9_refuse, q ∈ kjL_X9_fits) q hq)) h) h (fun x25 x26 p28 h g27 => ?_)
    have h := h g27
    have K := kj9_tr K p28.2
    exact ⟨h, K⟩
theorem kj_X9_fits {L : List (Nat × Nat)} (hU : ∀ q ∈ L, q ∈ njT) (hL : ∀ q ∈ kjL_X9_fits, q ∈ L) {Q : Int32 → HS → Prop} {v0 : Nat} {v1 : Int32} {S : HS} (h : P_X9_fits v0 v1 Q S) : P_X9_fits v0 v1 (fun r T => Q r T ∧ KJ L S T) S := kj_X9_fits_0 hU hL h (kj9_rf L S)
abbrev kjL_X9_go : List (Nat × Nat) := []
set_option maxRecDepth 20000 in
set_option maxHeartbeats 1000000 in
theorem kj_X9_go_45 {L : List (Nat × Nat)} (hU : ∀ q ∈ L, q ∈ njT) (hL : ∀ q ∈ kjL_X9_go, q ∈ L) {Q : Int32 → HS → Prop} {v0 : Nat} {S0 S : HS} (h : P_X9_go_45 Q v0 S) (K : KJ L S0 S) : P_X9_go_45 (fun r T => Q r T ∧ KJ L S0 T) v0 S := by
  delta P_X9_go_45 at h ⊢
  obtain ⟨c1, h⟩ := h
  refine ⟨c1, ?_⟩
  refine cm_X9_refuse (kj_X9_refuse hU (fun q hq => hL q ((by decide : ∀ q ∈ kjL_X9_refuse, q ∈ kjL_X9_go) q hq)) h) h (fun x2 x3 p5 h g4 => ?_)
  have h := h g4
  have K := kj9_tr K p5.2
  exact ⟨h, K⟩
set_option maxRecDepth 20000 in
set_option maxHeartbeats 1000000 in
theorem kj_X9_go_243 {L : List (Nat × Nat)} (hU : ∀ q ∈ L, q ∈ njT) (hL : ∀ q ∈ kjL_X9_go, q ∈ L) {Q : Int32 → HS → Prop} {v0 : Nat} {v2 : Int32} {v5 : Nat} {v6 : Int32} {S0 S : HS} (h : P_X9_go_243 Q v0 v2 v5 v6 S) (K : KJ L S0 S) : P_X9_go_243 (fun r T => Q r T ∧ KJ L S0 T) v0 v2 v5 v6 S := by
  delta P_X9_go_243 at h ⊢
  obtain ⟨c1, h⟩ := h
  refine ⟨c1, ?_⟩
  obtain ⟨b2, e3, h⟩ := h
  refine ⟨b2, e3, ?_⟩
  obtain ⟨c4, h⟩ := h
  refine ⟨c4, ?_⟩
  obtain ⟨b5, e6, h⟩ := h
  refine ⟨b5, e6, ?_⟩
  obtain ⟨c7, h⟩ := h
  refine ⟨c7, ?_⟩
  refine cm_X5_endOf (kj_X5_endOf hU (fun q hq => hL q ((by decide : ∀ q ∈ kjL_X5_endOf, q ∈ kjL_X9_go) q hq)) h) h (fun x8 x9 p11 h g10 => ?_)
  have h := h g10
  have K := kj9_tr K p11.2
  obtain ⟨c12, h⟩ := h
  refine ⟨c12, ?_⟩
  have n13 := kj9_nk K c12 (by decide)
  intro x15 e14
  have h := h x15 e14
  have K := kj9_I K e14 n13
  obtain ⟨b16, e17, h⟩ := h
  refine ⟨b16, e17, ?_⟩
  obtain ⟨c18, h⟩ := h
  refine ⟨c18, ?_⟩
  obtain ⟨b19, e20, h⟩ := h
  refine ⟨b19, e20, ?_⟩
  obtain ⟨c21, h⟩ := h
  refine ⟨c21, ?_⟩
  have n22 := kj9_nk K c21 (by decide)
  intro x24 e23
  have h := h x24 e23
  have K := kj9_I K e23 n22
  refine cm_X9_grant (kj_X9_grant hU (fun q hq => hL q ((by decide : ∀ q ∈ kjL_X9_grant, q ∈ kjL_X9_go) q hq)) h) h (fun x25 x26 p28 h g27 => ?_)
  have h := h g27
  have K := kj9_tr K p28.2
  exact ⟨h, K⟩
set_option maxRecDepth 20000 in
set_option maxHeartbeats 1000000 in
theorem kj_X9_go_0 {L : List (Nat × Nat)} (hU : ∀ q ∈ L, q ∈ njT) (hL : ∀ q ∈ kjL_X9_go, q ∈ L) {Q : Int32 → HS → Prop} {v0 : Nat} {v1 : Int32} {v2 : Int32} {v3 : Int32} {S0 S : HS} (h : P_X9_go_0 Q v0 v1 v2 v3 S) (K : KJ L S0 S) : P_X9_go_0 (fun r T => Q r T ∧ KJ L S0 T) v0 v1 v2 v3 S := by
  delta P_X9_go_0 at h ⊢
  obtain ⟨c1, h⟩ := h
  refine ⟨c1, ?_⟩
  obtain ⟨b2, e3, h⟩ := h
  refine ⟨b2, e3, ?_⟩
  obtain ⟨c4, h⟩ := h
  refine ⟨c4, ?_⟩
  refine cm_X0_isOn (kj_X0_isOn hU (fun q hq => hL q ((by decide : ∀ q ∈ kjL_X0_isOn, q ∈ kjL_X9_go) q hq)) h) h (fun x5 x6 p9 h g7 g8 => ?_)
  have h := h g7 g8
  have K := kj9_tr K p9.2
  refine ⟨?_, ?_⟩
  · intro c10
    have h := h.1 c10
    exact kj_X9_go_45 hU hL h K
  · intro c11
    have h := h.2 c11
    obtain ⟨b12, e13, h⟩ := h
    refine ⟨b12, e13, ?_⟩
    obtain ⟨b14, e15, h⟩ := h
    refine ⟨b14, e15, ?_⟩
    obtain ⟨c16, h⟩ := h
    refine ⟨c16, ?_⟩
    intro x18 e17
    have h := h x18 e17
    obtain ⟨c19, h⟩ := h
    refine ⟨c19, ?_⟩
    refine cm_X8_hasWalker (kj_X8_hasWalker hU (fun q hq => hL q ((by decide : ∀ q ∈ kjL_X8_hasWalker, q ∈ kjL_X9_go) q hq)) h) h (fun x20 x21 p24 h g22 g23 => ?_)
    have h := h g22 g23
    have K := kj9_tr K p24.2
    refine ⟨?_, ?_⟩
    · intro c25
      have h := h.1 c25
      exact kj_X9_go_45 hU hL h K
    · intro c26
      have h := h.2 c26
      obtain ⟨b27, e28, h⟩ := h
      refine ⟨b27, e28, ?_⟩
      obtain ⟨c29, h⟩ := h
      refine ⟨c29, ?_⟩
      refine cm_X8_hasRoad (kj_X8_hasRoad hU (fun q hq => hL q ((by decide : ∀ q ∈ kjL_X8_hasRoad, q ∈ kjL_X9_go) q hq)) h) h (fun x30 x31 p34 h g32 g33 => ?_)
      have h := h g32 g33
      have K := kj9_tr K p34.2
      refine ⟨?_, ?_⟩
      · intro c35
        have h := h.1 c35
        exact kj_X9_go_45 hU hL h K
      · intro c36
        have h := h.2 c36
        refine cm_X9_isWay (kj_X9_isWay hU (fun q hq => hL q ((by decide : ∀ q ∈ kjL_X9_isWay, q ∈ kjL_X9_go) q hq)) h) h (fun x37 x38 p41 h g39 g40 => ?_)
        have h := h g39 g40
        have K := kj9_tr K p41.2
        refine ⟨?_, ?_⟩
        · intro c42
          have h := h.1 c42
          obtain ⟨b43, e44, h⟩ := h
          refine ⟨b43, e44, ?_⟩
          obtain ⟨c45, h⟩ := h
          refine ⟨c45, ?_⟩
          have o46 := c45
          obtain ⟨b47, e48, h⟩ := h
          refine ⟨b47, e48, ?_⟩
          obtain ⟨b49, e50, h⟩ := h
          refine ⟨b49, e50, ?_⟩
          obtain ⟨c51, h⟩ := h
          refine ⟨c51, ?_⟩
          intro x53 e52
          have h := h x53 e52
          obtain ⟨c54, h⟩ := h
          refine ⟨c54, ?_⟩
          obtain ⟨c55, h⟩ := h
          refine ⟨c55, ?_⟩
          obtain ⟨b56, e57, h⟩ := h
          refine ⟨b56, e57, ?_⟩
          obtain ⟨b58, e59, h⟩ := h
          refine ⟨b58, e59, ?_⟩
          obtain ⟨c60, h⟩ := h
          refine ⟨c60, ?_⟩
          have o61 := c60
          obtain ⟨b62, e63, h⟩ := h
          refine ⟨b62, e63, ?_⟩
          obtain ⟨c64, h⟩ := h
          refine ⟨c64, ?_⟩
          obtain ⟨c65, h⟩ := h
          refine ⟨c65, ?_⟩
          obtain ⟨b66, e67, h⟩ := h
          refine ⟨b66, e67, ?_⟩
          obtain ⟨c68, h⟩ := h
          refine ⟨c68, ?_⟩
          refine cm_X6_canGo (kj_X6_canGo hU (fun q hq => hL q ((by decide : ∀ q ∈ kjL_X6_canGo, q ∈ kjL_X9_go) q hq)) h) h (fun x69 x70 p73 h g71 g72 => ?_)
          have h := h g71 g72
          have K := kj9_tr K p73.2
          have o46 := gr_ob p73.2.1 o46
          have o61 := gr_ob p73.2.1 o61
          refine ⟨?_, ?_⟩
          · intro c74
            have h := h.1 c74
            obtain ⟨c75, h⟩ := h
            refine ⟨c75, ?_⟩
            refine cm_X5_startOf (kj_X5_startOf hU (fun q hq => hL q ((by decide : ∀ q ∈ kjL_X5_startOf, q ∈ kjL_X9_go) q hq)) h) h (fun x76 x77 p79 h g78 => ?_)
            have h := h g78
            have K := kj9_tr K p79.2
            have o46 := gr_ob p79.2.1 o46
            have o61 := gr_ob p79.2.1 o61
            obtain ⟨b80, e81, h⟩ := h
            refine ⟨b80, e81, ?_⟩
            obtain ⟨c82, h⟩ := h
            refine ⟨c82, ?_⟩
            obtain ⟨b83, e84, h⟩ := h
            refine ⟨b83, e84, ?_⟩
            obtain ⟨c85, h⟩ := h
            refine ⟨c85, ?_⟩
            intro x87 e86
            have h := h x87 e86
            refine ⟨?_, ?_⟩
            · intro c88
              have h := h.1 c88
              obtain ⟨b89, e90, h⟩ := h
              refine ⟨b89, e90, ?_⟩
              obtain ⟨c91, h⟩ := h
              refine ⟨c91, ?_⟩
              obtain ⟨b92, e93, h⟩ := h
              refine ⟨b92, e93, ?_⟩
              obtain ⟨c94, h⟩ := h
              refine ⟨c94, ?_⟩
              intro x96 e95
              have h := h x96 e95
              refine cm_X5_minutesAt (kj_X5_minutesAt hU (fun q hq => hL q ((by decide : ∀ q ∈ kjL_X5_minutesAt, q ∈ kjL_X9_go) q hq)) h) h (fun x97 x98 p100 h g99 => ?_)
              have h := h g99
              have K := kj9_tr K p100.2
              have o46 := gr_ob p100.2.1 o46
              have o61 := gr_ob p100.2.1 o61
              intro x102 e101
              have h := h x102 e101
              refine ⟨?_, ?_⟩
              · intro c103
                have h := h.1 c103
                obtain ⟨b104, e105, h⟩ := h
                refine ⟨b104, e105, ?_⟩
                obtain ⟨c106, h⟩ := h
                refine ⟨c106, ?_⟩
                refine cm_X0_keepForUndo (kj_X0_keepForUndo hU (fun q hq => hL q ((by decide : ∀ q ∈ kjL_X0_keepForUndo, q ∈ kjL_X9_go) q hq)) h) h (fun x107 p109 h g108 => ?_)
                have h := h g108
                have K := kj9_tr K p109.2
                have o46 := gr_ob p109.2.1 o46
                have o61 := gr_ob p109.2.1 o61
                obtain ⟨b110, e111, h⟩ := h
                refine ⟨b110, e111, ?_⟩
                obtain ⟨b112, e113, h⟩ := h
                refine ⟨b112, e113, ?_⟩
                obtain ⟨c114, h⟩ := h
                refine ⟨c114, ?_⟩
                obtain ⟨b115, e116, h⟩ := h
                refine ⟨b115, e116, ?_⟩
                obtain ⟨c117, h⟩ := h
                refine ⟨c117, ?_⟩
                intro x119 e118
                have h := h x119 e118
                obtain ⟨c120, h⟩ := h
                refine ⟨c120, ?_⟩
                refine cm_X8_hourOf (kj_X8_hourOf hU (fun q hq => hL q ((by decide : ∀ q ∈ kjL_X8_hourOf, q ∈ kjL_X9_go) q hq)) h) h (fun x121 x122 p124 h g123 => ?_)
                have h := h g123
                have K := kj9_tr K p124.2
                have o46 := gr_ob p124.2.1 o46
                have o61 := gr_ob p124.2.1 o61
                obtain ⟨b125, e126, h⟩ := h
                refine ⟨b125, e126, ?_⟩
                obtain ⟨c127, h⟩ := h
                refine ⟨c127, ?_⟩
                refine cm_X8_hasHour (kj_X8_hasHour hU (fun q hq => hL q ((by decide : ∀ q ∈ kjL_X8_hasHour, q ∈ kjL_X9_go) q hq)) h) h (fun x128 x129 p132 h g130 g131 => ?_)
                have h := h g130 g131
                have K := kj9_tr K p132.2
                have o46 := gr_ob p132.2.1 o46
                have o61 := gr_ob p132.2.1 o61
                refine ⟨?_, ?_⟩
                · intro c133
                  have h := h.1 c133
                  exact kj_X9_go_243 hU hL h K
                · intro c134
                  have h := h.2 c134
                  obtain ⟨b135, e136, h⟩ := h
                  refine ⟨b135, e136, ?_⟩
                  obtain ⟨c137, h⟩ := h
                  refine ⟨c137, ?_⟩
                  refine cm_X0_rainsIn (kj_X0_rainsIn hU (fun q hq => hL q ((by decide : ∀ q ∈ kjL_X0_rainsIn, q ∈ kjL_X9_go) q hq)) h) h (fun x138 x139 p142 h g140 g141 => ?_)
                  have h := h g140 g141
                  have K := kj9_tr K p142.2
                  have o46 := gr_ob p142.2.1 o46
                  have o61 := gr_ob p142.2.1 o61
                  refine ⟨?_, ?_⟩
                  · intro c143
                    have h := h.1 c143
                    exact kj_X9_go_243 hU hL h K
                  · intro c144
                    have h := h.2 c144
                    obtain ⟨b145, e146, h⟩ := h
                    refine ⟨b145, e146, ?_⟩
                    obtain ⟨b147, e148, h⟩ := h
                    refine ⟨b147, e148, ?_⟩
                    obtain ⟨c149, h⟩ := h
                    refine ⟨c149, ?_⟩
                    have o150 := c149
                    obtain ⟨b151, e152, h⟩ := h
                    refine ⟨b151, e152, ?_⟩
                    obtain ⟨c153, h⟩ := h
                    refine ⟨c153, ?_⟩
                    obtain ⟨c154, h⟩ := h
                    refine ⟨c154, ?_⟩
                    obtain ⟨b155, e156, h⟩ := h
                    refine ⟨b155, e156, ?_⟩
                    obtain ⟨c157, h⟩ := h
                    refine ⟨c157, ?_⟩
                    refine cm_X1_wetOf (kj_X1_wetOf hU (fun q hq => hL q ((by decide : ∀ q ∈ kjL_X1_wetOf, q ∈ kjL_X9_go) q hq)) h) h (fun x158 x159 p161 h g160 => ?_)
                    have h := h g160
                    have K := kj9_tr K p161.2
                    have o46 := gr_ob p161.2.1 o46
                    have o61 := gr_ob p161.2.1 o61
                    have o150 := gr_ob p161.2.1 o150
                    obtain ⟨b162, e163, h⟩ := h
                    refine ⟨b162, e163, ?_⟩
                    obtain ⟨c164, h⟩ := h
                    refine ⟨c164, ?_⟩
                    obtain ⟨b165, e166, h⟩ := h
                    refine ⟨b165, e166, ?_⟩
                    obtain ⟨b167, e168, h⟩ := h
                    refine ⟨b167, e168, ?_⟩
                    obtain ⟨c169, h⟩ := h
                    refine ⟨c169, ?_⟩
                    obtain ⟨b170, e171, h⟩ := h
                    refine ⟨b170, e171, ?_⟩
                    obtain ⟨c172, h⟩ := h
                    refine ⟨c172, ?_⟩
                    refine cm_X2_addFaces (kj_X2_addFaces hU (fun q hq => hL q ((by decide : ∀ q ∈ kjL_X2_addFaces, q ∈ kjL_X9_go) q hq)) h) h (fun x173 p175 h g174 => ?_)
                    have h := h g174
                    have K := kj9_tr K p175.2
                    have o46 := gr_ob p175.2.1 o46
                    have o61 := gr_ob p175.2.1 o61
                    have o150 := gr_ob p175.2.1 o150
                    exact kj_X9_go_243 hU hL h K
              · intro c176
                have h := h.2 c176
                refine cm_X9_refuse (kj_X9_refuse hU (fun q hq => hL q ((by decide : ∀ q ∈ kjL_X9_refuse, q ∈ kjL_X9_go) q hq)) h) h (fun x177 x178 p180 h g179 => ?_)
                have h := h g179
                have K := kj9_tr K p180.2
                have o46 := gr_ob p180.2.1 o46
                have o61 := gr_ob p180.2.1 o61
                exact ⟨h, K⟩
            · intro c181
              have h := h.2 c181
              refine cm_X9_refuse (kj_X9_refuse hU (fun q hq => hL q ((by decide : ∀ q ∈ kjL_X9_refuse, q ∈ kjL_X9_go) q hq)) h) h (fun x182 x183 p185 h g184 => ?_)
              have h := h g184
              have K := kj9_tr K p185.2
              have o46 := gr_ob p185.2.1 o46
              have o61 := gr_ob p185.2.1 o61
              exact ⟨h, K⟩
          · intro c186
            have h := h.2 c186
            refine cm_X9_refuse (kj_X9_refuse hU (fun q hq => hL q ((by decide : ∀ q ∈ kjL_X9_refuse, q ∈ kjL_X9_go) q hq)) h) h (fun x187 x188 p190 h g189 => ?_)
            have h := h g189
            have K := kj9_tr K p190.2
            have o46 := gr_ob p190.2.1 o46
            have o61 := gr_ob p190.2.1 o61
            exact ⟨h, K⟩
        · intro c191
          have h := h.2 c191
          exact kj_X9_go_45 hU hL h K
theorem kj_X9_go {L : List (Nat × Nat)} (hU : ∀ q ∈ L, q ∈ njT) (hL : ∀ q ∈ kjL_X9_go, q ∈ L) {Q : Int32 → HS → Prop} {v0 : Nat} {v1 : Int32} {v2 : Int32} {v3 : Int32} {S : HS} (h : P_X9_go v0 v1 v2 v3 Q S) : P_X9_go v0 v1 v2 v3 (fun r T => Q r T ∧ KJ L S T) S := kj_X9_go_0 hU hL h (kj9_rf L S)
abbrev kjL_X9_got : List (Nat × Nat) := []
set_option maxRecDepth 20000 in
set_option maxHeartbeats 1000000 in
theorem kj_X9_got_17 {L : List (Nat × Nat)} (hU : ∀ q ∈ L, q ∈ njT) (hL : ∀ q ∈ kjL_X9_got, q ∈ L) {Q : Int64 → HS → Prop} {v0 : Nat} {S0 S : HS} (h : P_X9_got_17 Q v0 S) (K : KJ L S0 S) : P_X9_got_17 (fun r T => Q r T ∧ KJ L S0 T) v0 S := by
  delta P_X9_got_17 at h ⊢
  obtain ⟨c1, h⟩ := h
  refine ⟨c1, ?_⟩
  refine cm_X9_refuse (kj_X9_refuse hU (fun q hq => hL q ((by decide : ∀ q ∈ kjL_X9_refuse, q ∈ kjL_X9_got) q hq)) h) h (fun x2 x3 p5 h g4 => ?_)
  have h := h g4
  have K := kj9_tr K p5.2
  exact ⟨h, K⟩
set_option maxRecDepth 20000 in
set_option maxHeartbeats 1000000 in
theorem kj_X9_got_0 {L : List (Nat × Nat)} (hU : ∀ q ∈ L, q ∈ njT) (hL : ∀ q ∈ kjL_X9_got, q ∈ L) {Q : Int64 → HS → Prop} {v0 : Nat} {v1 : Int32} {v2 : Int32} {S0 S : HS} (h : P_X9_got_0 Q v0 v1 v2 S) (K : KJ L S0 S) : P_X9_got_0 (fun r T => Q r T ∧ KJ L S0 T) v0 v1 v2 S := by
  delta P_X9_got_0 at h ⊢
  obtain ⟨c1, h⟩ := h
  refine ⟨c1, ?_⟩
  have n2 := kj9_nk K c1 (by decide)
  obtain ⟨b3, e4, h⟩ := h
  refine ⟨b3, e4, ?_⟩
  obtain ⟨c5, h⟩ := h
  refine ⟨c5, ?_⟩
  refine cm_X0_isOn (kj_X0_isOn hU (fun q hq => hL q ((by decide : ∀ q ∈ kjL_X0_isOn, q ∈ kjL_X9_got) q hq)) h) h (fun x6 x7 p10 h g8 g9 => ?_)
  have h := h g8 g9
  have K := kj9_tr K p10.2
  refine ⟨?_, ?_⟩
  · intro c11
    have h := h.1 c11
    exact kj_X9_got_17 hU hL h K
  · intro c12
    have h := h.2 c12
    refine cm_X9_isFace (kj_X9_isFace hU (fun q hq => hL q ((by decide : ∀ q ∈ kjL_X9_isFace, q ∈ kjL_X9_got) q hq)) h) h (fun x13 x14 p17 h g15 g16 => ?_)
    have h := h g15 g16
    have K := kj9_tr K p17.2
    refine ⟨?_, ?_⟩
    · intro c18
      have h := h.1 c18
      intro x20 e19
      have h := h x20 e19
      have K := kj9_I K e19 n2
      obtain ⟨b21, e22, h⟩ := h
      refine ⟨b21, e22, ?_⟩
      obtain ⟨c23, h⟩ := h
      refine ⟨c23, ?_⟩
      obtain ⟨b24, e25, h⟩ := h
      refine ⟨b24, e25, ?_⟩
      obtain ⟨c26, h⟩ := h
      refine ⟨c26, ?_⟩
      obtain ⟨b27, e28, h⟩ := h
      refine ⟨b27, e28, ?_⟩
      obtain ⟨c29, h⟩ := h
      refine ⟨c29, ?_⟩
      obtain ⟨c30, h⟩ := h
      refine ⟨c30, ?_⟩
      intro x32 e31
      have h := h x32 e31
      refine cm_X9_fraction (kj_X9_fraction hU (fun q hq => hL q ((by decide : ∀ q ∈ kjL_X9_fraction, q ∈ kjL_X9_got) q hq)) h) h (fun x33 x34 p36 h g35 => ?_)
      have h := h g35
      have K := kj9_tr K p36.2
      exact ⟨h, K⟩
    · intro c37
      have h := h.2 c37
      exact kj_X9_got_17 hU hL h K
theorem kj_X9_got {L : List (Nat × Nat)} (hU : ∀ q ∈ L, q ∈ njT) (hL : ∀ q ∈ kjL_X9_got, q ∈ L) {Q : Int64 → HS → Prop} {v0 : Nat} {v1 : Int32} {v2 : Int32} {S : HS} (h : P_X9_got v0 v1 v2 Q S) : P_X9_got v0 v1 v2 (fun r T => Q r T ∧ KJ L S T) S := kj_X9_got_0 hU hL h (kj9_rf L S)
abbrev kjL_X9_held : List (Nat × Nat) := []
set_option maxRecDepth 20000 in
set_option maxHeartbeats 1000000 in
theorem kj_X9_held_0 {L : List (Nat × Nat)} (hU : ∀ q ∈ L, q ∈ njT) (hL : ∀ q ∈ kjL_X9_held, q ∈ L) {Q : Int32 → HS → Prop} {v0 : Nat} {v1 : Int32} {v2 : Int32} {v3 : Int32} {v4 : Int32} {v5 : Int32} {S0 S : HS} (h : P_X9_held_0 Q v0 v1 v2 v3 v4 v5 S) (K : KJ L S0 S) : P_X9_held_0 (fun r T => Q r T ∧ KJ L S0 T) v0 v1 v2 v3 v4 v5 S := by
  delta P_X9_held_0 at h ⊢
  obtain ⟨c1, h⟩ := h
  refine ⟨c1, ?_⟩
  refine cm_X9_legTrouble (kj_X9_legTrouble hU (fun q hq => hL q ((by decide : ∀ q ∈ kjL_X9_legTrouble, q ∈ kjL_X9_held) q hq)) h) h (fun x2 x3 p5 h g4 => ?_)
  have h := h g4
  have K := kj9_tr K p5.2
  refine cm_X9_refusedBy (kj_X9_refusedBy hU (fun q hq => hL q ((by decide : ∀ q ∈ kjL_X9_refusedBy, q ∈ kjL_X9_held) q hq)) h) h (fun x6 x7 p10 h g8 g9 => ?_)
  have h := h g8 g9
  have K := kj9_tr K p10.2
  refine ⟨?_, ?_⟩
  · intro c11
    have h := h.1 c11
    obtain ⟨b12, e13, h⟩ := h
    refine ⟨b12, e13, ?_⟩
    obtain ⟨c14, h⟩ := h
    refine ⟨c14, ?_⟩
    have o15 := c14
    obtain ⟨b16, e17, h⟩ := h
    refine ⟨b16, e17, ?_⟩
    obtain ⟨c18, h⟩ := h
    refine ⟨c18, ?_⟩
    obtain ⟨c19, h⟩ := h
    refine ⟨c19, ?_⟩
    obtain ⟨b20, e21, h⟩ := h
    refine ⟨b20, e21, ?_⟩
    obtain ⟨c22, h⟩ := h
    refine ⟨c22, ?_⟩
    intro x24 e23
    have h := h x24 e23
    refine ⟨?_, ?_⟩
    · intro c25
      have h := h.1 c25
      obtain ⟨b26, e27, h⟩ := h
      refine ⟨b26, e27, ?_⟩
      obtain ⟨b28, e29, h⟩ := h
      refine ⟨b28, e29, ?_⟩
      obtain ⟨c30, h⟩ := h
      refine ⟨c30, ?_⟩
      have o31 := c30
      obtain ⟨b32, e33, h⟩ := h
      refine ⟨b32, e33, ?_⟩
      obtain ⟨c34, h⟩ := h
      refine ⟨c34, ?_⟩
      obtain ⟨c35, h⟩ := h
      refine ⟨c35, ?_⟩
      obtain ⟨b36, e37, h⟩ := h
      refine ⟨b36, e37, ?_⟩
      obtain ⟨b38, e39, h⟩ := h
      refine ⟨b38, e39, ?_⟩
      obtain ⟨c40, h⟩ := h
      refine ⟨c40, ?_⟩
      have o41 := c40
      obtain ⟨b42, e43, h⟩ := h
      refine ⟨b42, e43, ?_⟩
      obtain ⟨c44, h⟩ := h
      refine ⟨c44, ?_⟩
      obtain ⟨c45, h⟩ := h
      refine ⟨c45, ?_⟩
      obtain ⟨b46, e47, h⟩ := h
      refine ⟨b46, e47, ?_⟩
      obtain ⟨c48, h⟩ := h
      refine ⟨c48, ?_⟩
      refine cm_X1_lay (kj_X1_lay hU (fun q hq => hL q ((by decide : ∀ q ∈ kjL_X1_lay, q ∈ kjL_X9_held) q hq)) h) h (fun x49 p51 h g50 => ?_)
      have h := h g50
      have K := kj9_tr K p51.2
      have o15 := gr_ob p51.2.1 o15
      have o31 := gr_ob p51.2.1 o31
      have o41 := gr_ob p51.2.1 o41
      obtain ⟨b52, e53, h⟩ := h
      refine ⟨b52, e53, ?_⟩
      obtain ⟨b54, e55, h⟩ := h
      refine ⟨b54, e55, ?_⟩
      obtain ⟨c56, h⟩ := h
      refine ⟨c56, ?_⟩
      have o57 := c56
      obtain ⟨b58, e59, h⟩ := h
      refine ⟨b58, e59, ?_⟩
      obtain ⟨c60, h⟩ := h
      refine ⟨c60, ?_⟩
      obtain ⟨c61, h⟩ := h
      refine ⟨c61, ?_⟩
      obtain ⟨b62, e63, h⟩ := h
      refine ⟨b62, e63, ?_⟩
      obtain ⟨c64, h⟩ := h
      refine ⟨c64, ?_⟩
      refine cm_X1_isForward (kj_X1_isForward hU (fun q hq => hL q ((by decide : ∀ q ∈ kjL_X1_isForward, q ∈ kjL_X9_held) q hq)) h) h (fun x65 x66 p69 h g67 g68 => ?_)
      have h := h g67 g68
      have K := kj9_tr K p69.2
      have o15 := gr_ob p69.2.1 o15
      have o31 := gr_ob p69.2.1 o31
      have o41 := gr_ob p69.2.1 o41
      have o57 := gr_ob p69.2.1 o57
      refine ⟨?_, ?_⟩
      · intro c70
        have h := h.1 c70
        exact ⟨h, K⟩
      · intro c71
        have h := h.2 c71
        exact ⟨h, K⟩
    · intro c72
      have h := h.2 c72
      exact ⟨h, K⟩
  · intro c73
    have h := h.2 c73
    exact ⟨h, K⟩
theorem kj_X9_held {L : List (Nat × Nat)} (hU : ∀ q ∈ L, q ∈ njT) (hL : ∀ q ∈ kjL_X9_held, q ∈ L) {Q : Int32 → HS → Prop} {v0 : Nat} {v1 : Int32} {v2 : Int32} {v3 : Int32} {v4 : Int32} {v5 : Int32} {S : HS} (h : P_X9_held v0 v1 v2 v3 v4 v5 Q S) : P_X9_held v0 v1 v2 v3 v4 v5 (fun r T => Q r T ∧ KJ L S T) S := kj_X9_held_0 hU hL h (kj9_rf L S)
abbrev kjL_X9_lee : List (Nat × Nat) := []
set_option maxRecDepth 20000 in
set_option maxHeartbeats 1000000 in
theorem kj_X9_lee_0 {L : List (Nat × Nat)} (hU : ∀ q ∈ L, q ∈ njT) (hL : ∀ q ∈ kjL_X9_lee, q ∈ L) {Q : Int64 → HS → Prop} {v0 : Nat} {v1 : Int32} {v2 : Int32} {v3 : Int32} {v4 : Int32} {v5 : Int32} {v6 : Int32} {v7 : Int32} {S0 S : HS} (h : P_X9_lee_0 Q v0 v1 v2 v3 v4 v5 v6 v7 S) (K : KJ L S0 S) : P_X9_lee_0 (fun r T => Q r T ∧ KJ L S0 T) v0 v1 v2 v3 v4 v5 v6 v7 S := by
  delta P_X9_lee_0 at h ⊢
  obtain ⟨c1, h⟩ := h
  refine ⟨c1, ?_⟩
  refine cm_X9_leeTrouble (kj_X9_leeTrouble hU (fun q hq => hL q ((by decide : ∀ q ∈ kjL_X9_leeTrouble, q ∈ kjL_X9_lee) q hq)) h) h (fun x2 x3 p5 h g4 => ?_)
  have h := h g4
  have K := kj9_tr K p5.2
  refine cm_X9_refusedBy (kj_X9_refusedBy hU (fun q hq => hL q ((by decide : ∀ q ∈ kjL_X9_refusedBy, q ∈ kjL_X9_lee) q hq)) h) h (fun x6 x7 p10 h g8 g9 => ?_)
  have h := h g8 g9
  have K := kj9_tr K p10.2
  refine ⟨?_, ?_⟩
  · intro c11
    have h := h.1 c11
    obtain ⟨b12, e13, h⟩ := h
    refine ⟨b12, e13, ?_⟩
    obtain ⟨b14, e15, h⟩ := h
    refine ⟨b14, e15, ?_⟩
    obtain ⟨c16, h⟩ := h
    refine ⟨c16, ?_⟩
    have o17 := c16
    obtain ⟨b18, e19, h⟩ := h
    refine ⟨b18, e19, ?_⟩
    obtain ⟨c20, h⟩ := h
    refine ⟨c20, ?_⟩
    obtain ⟨c21, h⟩ := h
    refine ⟨c21, ?_⟩
    obtain ⟨b22, e23, h⟩ := h
    refine ⟨b22, e23, ?_⟩
    obtain ⟨b24, e25, h⟩ := h
    refine ⟨b24, e25, ?_⟩
    obtain ⟨c26, h⟩ := h
    refine ⟨c26, ?_⟩
    have o27 := c26
    obtain ⟨b28, e29, h⟩ := h
    refine ⟨b28, e29, ?_⟩
    obtain ⟨c30, h⟩ := h
    refine ⟨c30, ?_⟩
    obtain ⟨c31, h⟩ := h
    refine ⟨c31, ?_⟩
    obtain ⟨b32, e33, h⟩ := h
    refine ⟨b32, e33, ?_⟩
    obtain ⟨c34, h⟩ := h
    refine ⟨c34, ?_⟩
    refine cm_X1_lay (kj_X1_lay hU (fun q hq => hL q ((by decide : ∀ q ∈ kjL_X1_lay, q ∈ kjL_X9_lee) q hq)) h) h (fun x35 p37 h g36 => ?_)
    have h := h g36
    have K := kj9_tr K p37.2
    have o17 := gr_ob p37.2.1 o17
    have o27 := gr_ob p37.2.1 o27
    obtain ⟨b38, e39, h⟩ := h
    refine ⟨b38, e39, ?_⟩
    obtain ⟨b40, e41, h⟩ := h
    refine ⟨b40, e41, ?_⟩
    obtain ⟨c42, h⟩ := h
    refine ⟨c42, ?_⟩
    have o43 := c42
    obtain ⟨b44, e45, h⟩ := h
    refine ⟨b44, e45, ?_⟩
    obtain ⟨c46, h⟩ := h
    refine ⟨c46, ?_⟩
    obtain ⟨c47, h⟩ := h
    refine ⟨c47, ?_⟩
    obtain ⟨b48, e49, h⟩ := h
    refine ⟨b48, e49, ?_⟩
    obtain ⟨b50, e51, h⟩ := h
    refine ⟨b50, e51, ?_⟩
    obtain ⟨c52, h⟩ := h
    refine ⟨c52, ?_⟩
    have o53 := c52
    obtain ⟨b54, e55, h⟩ := h
    refine ⟨b54, e55, ?_⟩
    obtain ⟨c56, h⟩ := h
    refine ⟨c56, ?_⟩
    obtain ⟨c57, h⟩ := h
    refine ⟨c57, ?_⟩
    obtain ⟨b58, e59, h⟩ := h
    refine ⟨b58, e59, ?_⟩
    obtain ⟨c60, h⟩ := h
    refine ⟨c60, ?_⟩
    refine cm_X1_wetInLee (kj_X1_wetInLee hU (fun q hq => hL q ((by decide : ∀ q ∈ kjL_X1_wetInLee, q ∈ kjL_X9_lee) q hq)) h) h (fun x61 x62 p64 h g63 => ?_)
    have h := h g63
    have K := kj9_tr K p64.2
    have o17 := gr_ob p64.2.1 o17
    have o27 := gr_ob p64.2.1 o27
    have o43 := gr_ob p64.2.1 o43
    have o53 := gr_ob p64.2.1 o53
    refine cm_X9_fraction (kj_X9_fraction hU (fun q hq => hL q ((by decide : ∀ q ∈ kjL_X9_fraction, q ∈ kjL_X9_lee) q hq)) h) h (fun x65 x66 p68 h g67 => ?_)
    have h := h g67
    have K := kj9_tr K p68.2
    have o17 := gr_ob p68.2.1 o17
    have o27 := gr_ob p68.2.1 o27
    have o43 := gr_ob p68.2.1 o43
    have o53 := gr_ob p68.2.1 o53
    exact ⟨h, K⟩
  · intro c69
    have h := h.2 c69
    exact ⟨h, K⟩
theorem kj_X9_lee {L : List (Nat × Nat)} (hU : ∀ q ∈ L, q ∈ njT) (hL : ∀ q ∈ kjL_X9_lee, q ∈ L) {Q : Int64 → HS → Prop} {v0 : Nat} {v1 : Int32} {v2 : Int32} {v3 : Int32} {v4 : Int32} {v5 : Int32} {v6 : Int32} {v7 : Int32} {S : HS} (h : P_X9_lee v0 v1 v2 v3 v4 v5 v6 v7 Q S) : P_X9_lee v0 v1 v2 v3 v4 v5 v6 v7 (fun r T => Q r T ∧ KJ L S T) S := kj_X9_lee_0 hU hL h (kj9_rf L S)
abbrev kjL_X9_lies : List (Nat × Nat) := []
set_option maxRecDepth 20000 in
set_option maxHeartbeats 1000000 in
theorem kj_X9_lies_54 {L : List (Nat × Nat)} (hU : ∀ q ∈ L, q ∈ njT) (hL : ∀ q ∈ kjL_X9_lies, q ∈ L) {Q : Int32 → HS → Prop} {X20 X20_2 : Nat → Int32 → Int32 → HS → Prop} {v0 : Nat} {v1 : Int32} {v2 : Int32} {S0 S : HS} (h : P_X9_lies_54 Q X20 v0 v1 v2 S) (K : KJ L S0 S) (hX20 : ∀ (u0 : Nat) (u1 : Int32) (u2 : Int32) (u3 : HS), X20 u0 u1 u2 u3 → KJ L S0 u3 → X20_2 u0 u1 u2 u3) : P_X9_lies_54 (fun r T => Q r T ∧ KJ L S0 T) X20_2 v0 v1 v2 S := by
  delta P_X9_lies_54 at h ⊢
  intro x2 e1
  have h := h x2 e1
  exact hX20 _ _ _ _ h K
set_option maxRecDepth 20000 in
set_option maxHeartbeats 1000000 in
theorem kjB_X9_lies_20 {L : List (Nat × Nat)} (hU : ∀ q ∈ L, q ∈ njT) (hL : ∀ q ∈ kjL_X9_lies, q ∈ L) {Q : Int32 → HS → Prop} {X20 X20_2 : Nat → Int32 → Int32 → HS → Prop} {v0 : Nat} {v1 : Int32} {v2 : Int32} {S0 S : HS} (h : B_X9_lies_20 Q X20 v0 v1 v2 S) (K : KJ L S0 S) (hX20 : ∀ (u0 : Nat) (u1 : Int32) (u2 : Int32) (u3 : HS), X20 u0 u1 u2 u3 → KJ L S0 u3 → X20_2 u0 u1 u2 u3) : B_X9_lies_20 (fun r T => Q r T ∧ KJ L S0 T) X20_2 v0 v1 v2 S := by
  delta B_X9_lies_20 at h ⊢
  obtain ⟨c1, h⟩ := h
  refine ⟨c1, ?_⟩
  obtain ⟨b2, e3, h⟩ := h
  refine ⟨b2, e3, ?_⟩
  obtain ⟨c4, h⟩ := h
  refine ⟨c4, ?_⟩
  intro x6 e5
  have h := h x6 e5
  refine ⟨?_, ?_⟩
  · intro c7
    have h := h.1 c7
    refine cm_X9_grant (kj_X9_grant hU (fun q hq => hL q ((by decide : ∀ q ∈ kjL_X9_grant, q ∈ kjL_X9_lies) q hq)) h) h (fun x8 x9 p11 h g10 => ?_)
    have h := h g10
    have K := kj9_tr K p11.2
    exact ⟨h, K⟩
  · intro c12
    have h := h.2 c12
    obtain ⟨b13, e14, h⟩ := h
    refine ⟨b13, e14, ?_⟩
    obtain ⟨b15, e16, h⟩ := h
    refine ⟨b15, e16, ?_⟩
    obtain ⟨c17, h⟩ := h
    refine ⟨c17, ?_⟩
    refine cm_X1_findFit (kj_X1_findFit hU (fun q hq => hL q ((by decide : ∀ q ∈ kjL_X1_findFit, q ∈ kjL_X9_lies) q hq)) h) h (fun x18 x19 p21 h g20 => ?_)
    have h := h g20
    have K := kj9_tr K p21.2
    refine ⟨?_, ?_⟩
    · intro c22
      have h := h.1 c22
      exact kj_X9_lies_54 hU hL h K hX20
    · intro c23
      have h := h.2 c23
      intro x25 e24
      have h := h x25 e24
      exact kj_X9_lies_54 hU hL h K hX20
theorem kj_X9_lies_20 {L : List (Nat × Nat)} (hU : ∀ q ∈ L, q ∈ njT) (hL : ∀ q ∈ kjL_X9_lies, q ∈ L) {Q : Int32 → HS → Prop} {v0 : Nat} {v1 : Int32} {v2 : Int32} {S0 S : HS} (h : P_X9_lies_20 Q v0 v1 v2 S) (K : KJ L S0 S) : P_X9_lies_20 (fun r T => Q r T ∧ KJ L S0 T) v0 v1 v2 S := h (fun v0 v1 v2 S => KJ L S0 S → P_X9_lies_20 (fun r T => Q r T ∧ KJ L S0 T) v0 v1 v2 S) (fun v0 v1 v2 S hB K => fd_X9_lies_20 (kjB_X9_lies_20 hU hL hB K (fun _ _ _ _ hx K => hx K))) K
set_option maxRecDepth 20000 in
set_option maxHeartbeats 1000000 in
theorem kj_X9_lies_0 {L : List (Nat × Nat)} (hU : ∀ q ∈ L, q ∈ njT) (hL : ∀ q ∈ kjL_X9_lies, q ∈ L) {Q : Int32 → HS → Prop} {v0 : Nat} {S0 S : HS} (h : P_X9_lies_0 Q v0 S) (K : KJ L S0 S) : P_X9_lies_0 (fun r T => Q r T ∧ KJ L S0 T) v0 S := by
  delta P_X9_lies_0 at h ⊢
  obtain ⟨c1, h⟩ := h
  refine ⟨c1, ?_⟩
  obtain ⟨b2, e3, h⟩ := h
  refine ⟨b2, e3, ?_⟩
  obtain ⟨c4, h⟩ := h
  refine ⟨c4, ?_⟩
  refine cm_X8_isTold (kj_X8_isTold hU (fun q hq => hL q ((by decide : ∀ q ∈ kjL_X8_isTold, q ∈ kjL_X9_lies) q hq)) h) h (fun x5 x6 p9 h g7 g8 => ?_)
  have h := h g7 g8
  have K := kj9_tr K p9.2
  refine ⟨?_, ?_⟩
  · intro c10
    have h := h.1 c10
    exact kj_X9_lies_20 hU hL h K
  · intro c11
    have h := h.2 c11
    refine cm_X9_refuse (kj_X9_refuse hU (fun q hq => hL q ((by decide : ∀ q ∈ kjL_X9_refuse, q ∈ kjL_X9_lies) q hq)) h) h (fun x12 x13 p15 h g14 => ?_)
    have h := h g14
    have K := kj9_tr K p15.2
    exact ⟨h, K⟩
theorem kj_X9_lies {L : List (Nat × Nat)} (hU : ∀ q ∈ L, q ∈ njT) (hL : ∀ q ∈ kjL_X9_lies, q ∈ L) {Q : Int32 → HS → Prop} {v0 : Nat} {S : HS} (h : P_X9_lies v0 Q S) : P_X9_lies v0 (fun r T => Q r T ∧ KJ L S T) S := kj_X9_lies_0 hU hL h (kj9_rf L S)
abbrev kjL_X9_mark : List (Nat × Nat) := []
set_option maxRecDepth 20000 in
set_option maxHeartbeats 1000000 in
theorem kj_X9_mark_0 {L : List (Nat × Nat)} (hU : ∀ q ∈ L, q ∈ njT) (hL : ∀ q ∈ kjL_X9_mark, q ∈ L) {Q : Int32 → HS → Prop} {v0 : Nat} {S0 S : HS} (h : P_X9_mark_0 Q v0 S) (K : KJ L S0 S) : P_X9_mark_0 (fun r T => Q r T ∧ KJ L S0 T) v0 S := by
  delta P_X9_mark_0 at h ⊢
  obtain ⟨c1, h⟩ := h
  refine ⟨c1, ?_⟩
  obtain ⟨b2, e3, h⟩ := h
  refine ⟨b2, e3, ?_⟩
  obtain ⟨c4, h⟩ := h
  refine ⟨c4, ?_⟩
  refine cm_X0_isOn (kj_X0_isOn hU (fun q hq => hL q ((by decide : ∀ q ∈ kjL_X0_isOn, q ∈ kjL_X9_mark) q hq)) h) h (fun x5 x6 p9 h g7 g8 => ?_)
  have h := h g7 g8
  have K := kj9_tr K p9.2
  refine ⟨?_, ?_⟩
  · intro c10
    have h := h.1 c10
    obtain ⟨b11, e12, h⟩ := h
    refine ⟨b11, e12, ?_⟩
    obtain ⟨c13, h⟩ := h
    refine ⟨c13, ?_⟩
    refine cm_X0_setMark (kj_X0_setMark hU (fun q hq => hL q ((by decide : ∀ q ∈ kjL_X0_setMark, q ∈ kjL_X9_mark) q hq)) h) h (fun x14 x15 p17 h g16 => ?_)
    have h := h g16
    have K := kj9_tr K p17.2
    refine ⟨?_, ?_⟩
    · intro c18
      have h := h.1 c18
      refine cm_X9_grant (kj_X9_grant hU (fun q hq => hL q ((by decide : ∀ q ∈ kjL_X9_grant, q ∈ kjL_X9_mark) q hq)) h) h (fun x19 x20 p22 h g21 => ?_)
      have h := h g21
      have K := kj9_tr K p22.2
      exact ⟨h, K⟩
    · intro c23
      have h := h.2 c23
      refine cm_X9_refuse (kj_X9_refuse hU (fun q hq => hL q ((by decide : ∀ q ∈ kjL_X9_refuse, q ∈ kjL_X9_mark) q hq)) h) h (fun x24 x25 p27 h g26 => ?_)
      have h := h g26
      have K := kj9_tr K p27.2
      exact ⟨h, K⟩
  · intro c28
    have h := h.2 c28
    refine cm_X9_refuse (kj_X9_refuse hU (fun q hq => hL q ((by decide : ∀ q ∈ kjL_X9_refuse, q ∈ kjL_X9_mark) q hq)) h) h (fun x29 x30 p32 h g31 => ?_)
    have h := h g31
    have K := kj9_tr K p32.2
    exact ⟨h, K⟩
theorem kj_X9_mark {L : List (Nat × Nat)} (hU : ∀ q ∈ L, q ∈ njT) (hL : ∀ q ∈ kjL_X9_mark, q ∈ L) {Q : Int32 → HS → Prop} {v0 : Nat} {S : HS} (h : P_X9_mark v0 Q S) : P_X9_mark v0 (fun r T => Q r T ∧ KJ L S T) S := kj_X9_mark_0 hU hL h (kj9_rf L S)
abbrev kjL_X9_mean : List (Nat × Nat) := []
set_option maxRecDepth 20000 in
set_option maxHeartbeats 1000000 in
theorem kj_X9_mean_0 {L : List (Nat × Nat)} (hU : ∀ q ∈ L, q ∈ njT) (hL : ∀ q ∈ kjL_X9_mean, q ∈ L) {Q : Int64 → HS → Prop} {v0 : Nat} {v1 : Int32} {v2 : Int32} {v3 : Int32} {v4 : Int32} {v5 : Int32} {v6 : Int32} {S0 S : HS} (h : P_X9_mean_0 Q v0 v1 v2 v3 v4 v5 v6 S) (K : KJ L S0 S) : P_X9_mean_0 (fun r T => Q r T ∧ KJ L S0 T) v0 v1 v2 v3 v4 v5 v6 S := by
  delta P_X9_mean_0 at h ⊢
  obtain ⟨c1, h⟩ := h
  refine ⟨c1, ?_⟩
  refine cm_X9_legTrouble (kj_X9_legTrouble hU (fun q hq => hL q ((by decide : ∀ q ∈ kjL_X9_legTrouble, q ∈ kjL_X9_mean) q hq)) h) h (fun x2 x3 p5 h g4 => ?_)
  have h := h g4
  have K := kj9_tr K p5.2
  refine cm_X9_refusedBy (kj_X9_refusedBy hU (fun q hq => hL q ((by decide : ∀ q ∈ kjL_X9_refusedBy, q ∈ kjL_X9_mean) q hq)) h) h (fun x6 x7 p10 h g8 g9 => ?_)
  have h := h g8 g9
  have K := kj9_tr K p10.2
  refine ⟨?_, ?_⟩
  · intro c11
    have h := h.1 c11
    obtain ⟨b12, e13, h⟩ := h
    refine ⟨b12, e13, ?_⟩
    obtain ⟨b14, e15, h⟩ := h
    refine ⟨b14, e15, ?_⟩
    obtain ⟨c16, h⟩ := h
    refine ⟨c16, ?_⟩
    have o17 := c16
    obtain ⟨b18, e19, h⟩ := h
    refine ⟨b18, e19, ?_⟩
    obtain ⟨c20, h⟩ := h
    refine ⟨c20, ?_⟩
    obtain ⟨c21, h⟩ := h
    refine ⟨c21, ?_⟩
    obtain ⟨b22, e23, h⟩ := h
    refine ⟨b22, e23, ?_⟩
    obtain ⟨b24, e25, h⟩ := h
    refine ⟨b24, e25, ?_⟩
    obtain ⟨c26, h⟩ := h
    refine ⟨c26, ?_⟩
    have o27 := c26
    obtain ⟨b28, e29, h⟩ := h
    refine ⟨b28, e29, ?_⟩
    obtain ⟨c30, h⟩ := h
    refine ⟨c30, ?_⟩
    obtain ⟨c31, h⟩ := h
    refine ⟨c31, ?_⟩
    obtain ⟨b32, e33, h⟩ := h
    refine ⟨b32, e33, ?_⟩
    obtain ⟨b34, e35, h⟩ := h
    refine ⟨b34, e35, ?_⟩
    obtain ⟨c36, h⟩ := h
    refine ⟨c36, ?_⟩
    have o37 := c36
    obtain ⟨b38, e39, h⟩ := h
    refine ⟨b38, e39, ?_⟩
    obtain ⟨c40, h⟩ := h
    refine ⟨c40, ?_⟩
    obtain ⟨c41, h⟩ := h
    refine ⟨c41, ?_⟩
    obtain ⟨b42, e43, h⟩ := h
    refine ⟨b42, e43, ?_⟩
    obtain ⟨c44, h⟩ := h
    refine ⟨c44, ?_⟩
    refine cm_X1_wetOf (kj_X1_wetOf hU (fun q hq => hL q ((by decide : ∀ q ∈ kjL_X1_wetOf, q ∈ kjL_X9_mean) q hq)) h) h (fun x45 x46 p48 h g47 => ?_)
    have h := h g47
    have K := kj9_tr K p48.2
    have o17 := gr_ob p48.2.1 o17
    have o27 := gr_ob p48.2.1 o27
    have o37 := gr_ob p48.2.1 o37
    obtain ⟨b49, e50, h⟩ := h
    refine ⟨b49, e50, ?_⟩
    obtain ⟨c51, h⟩ := h
    refine ⟨c51, ?_⟩
    have o52 := c51
    obtain ⟨b53, e54, h⟩ := h
    refine ⟨b53, e54, ?_⟩
    obtain ⟨c55, h⟩ := h
    refine ⟨c55, ?_⟩
    obtain ⟨c56, h⟩ := h
    refine ⟨c56, ?_⟩
    obtain ⟨b57, e58, h⟩ := h
    refine ⟨b57, e58, ?_⟩
    obtain ⟨c59, h⟩ := h
    refine ⟨c59, ?_⟩
    intro x61 e60
    have h := h x61 e60
    refine cm_X9_fraction (kj_X9_fraction hU (fun q hq => hL q ((by decide : ∀ q ∈ kjL_X9_fraction, q ∈ kjL_X9_mean) q hq)) h) h (fun x62 x63 p65 h g64 => ?_)
    have h := h g64
    have K := kj9_tr K p65.2
    have o17 := gr_ob p65.2.1 o17
    have o27 := gr_ob p65.2.1 o27
    have o37 := gr_ob p65.2.1 o37
    have o52 := gr_ob p65.2.1 o52
    exact ⟨h, K⟩
  · intro c66
    have h := h.2 c66
    exact ⟨h, K⟩
theorem kj_X9_mean {L : List (Nat × Nat)} (hU : ∀ q ∈ L, q ∈ njT) (hL : ∀ q ∈ kjL_X9_mean, q ∈ L) {Q : Int64 → HS → Prop} {v0 : Nat} {v1 : Int32} {v2 : Int32} {v3 : Int32} {v4 : Int32} {v5 : Int32} {v6 : Int32} {S : HS} (h : P_X9_mean v0 v1 v2 v3 v4 v5 v6 Q S) : P_X9_mean v0 v1 v2 v3 v4 v5 v6 (fun r T => Q r T ∧ KJ L S T) S := kj_X9_mean_0 hU hL h (kj9_rf L S)
abbrev kjL_X9_minutes : List (Nat × Nat) := []
set_option maxRecDepth 20000 in
set_option maxHeartbeats 1000000 in
theorem kj_X9_minutes_22 {L : List (Nat × Nat)} (hU : ∀ q ∈ L, q ∈ njT) (hL : ∀ q ∈ kjL_X9_minutes, q ∈ L) {Q : Int32 → HS → Prop} {v0 : Nat} {S0 S : HS} (h : P_X9_minutes_22 Q v0 S) (K : KJ L S0 S) : P_X9_minutes_22 (fun r T => Q r T ∧ KJ L S0 T) v0 S := by
  delta P_X9_minutes_22 at h ⊢
  obtain ⟨c1, h⟩ := h
  refine ⟨c1, ?_⟩
  refine cm_X9_refuse (kj_X9_refuse hU (fun q hq => hL q ((by decide : ∀ q ∈ kjL_X9_refuse, q ∈ kjL_X9_minutes) q hq)) h) h (fun x2 x3 p5 h g4 => ?_)
  have h := h g4
  have K := kj9_tr K p5.2
  exact ⟨h, K⟩
set_option maxRecDepth 20000 in
set_option maxHeartbeats 1000000 in
theorem kj_X9_minutes_0 {L : List (Nat × Nat)} (hU : ∀ q ∈ L, q ∈ njT) (hL : ∀ q ∈ kjL_X9_minutes, q ∈ L) {Q : Int32 → HS → Prop} {v0 : Nat} {v1 : Int32} {v2 : Int32} {v3 : Int32} {S0 S : HS} (h : P_X9_minutes_0 Q v0 v1 v2 v3 S) (K : KJ L S0 S) : P_X9_minutes_0 (fun r T => Q r T ∧ KJ L S0 T) v0 v1 v2 v3 S := by
  delta P_X9_minutes_0 at h ⊢
  obtain ⟨c1, h⟩ := h
  refine ⟨c1, ?_⟩
  obtain ⟨b2, e3, h⟩ := h
  refine ⟨b2, e3, ?_⟩
  obtain ⟨c4, h⟩ := h
  refine ⟨c4, ?_⟩
  refine cm_X8_hasWalker (kj_X8_hasWalker hU (fun q hq => hL q ((by decide : ∀ q ∈ kjL_X8_hasWalker, q ∈ kjL_X9_minutes) q hq)) h) h (fun x5 x6 p9 h g7 g8 => ?_)
  have h := h g7 g8
  have K := kj9_tr K p9.2
  refine ⟨?_, ?_⟩
  · intro c10
    have h := h.1 c10
    exact kj_X9_minutes_22 hU hL h K
  · intro c11
    have h := h.2 c11
    obtain ⟨b12, e13, h⟩ := h
    refine ⟨b12, e13, ?_⟩
    obtain ⟨c14, h⟩ := h
    refine ⟨c14, ?_⟩
    refine cm_X8_hasRoad (kj_X8_hasRoad hU (fun q hq => hL q ((by decide : ∀ q ∈ kjL_X8_hasRoad, q ∈ kjL_X9_minutes) q hq)) h) h (fun x15 x16 p19 h g17 g18 => ?_)
    have h := h g17 g18
    have K := kj9_tr K p19.2
    refine ⟨?_, ?_⟩
    · intro c20
      have h := h.1 c20
      obtain ⟨b21, e22, h⟩ := h
      refine ⟨b21, e22, ?_⟩
      obtain ⟨c23, h⟩ := h
      refine ⟨c23, ?_⟩
      have o24 := c23
      obtain ⟨b25, e26, h⟩ := h
      refine ⟨b25, e26, ?_⟩
      obtain ⟨c27, h⟩ := h
      refine ⟨c27, ?_⟩
      obtain ⟨c28, h⟩ := h
      refine ⟨c28, ?_⟩
      obtain ⟨b29, e30, h⟩ := h
      refine ⟨b29, e30, ?_⟩
      obtain ⟨c31, h⟩ := h
      refine ⟨c31, ?_⟩
      refine cm_X6_canGo (kj_X6_canGo hU (fun q hq => hL q ((by decide : ∀ q ∈ kjL_X6_canGo, q ∈ kjL_X9_minutes) q hq)) h) h (fun x32 x33 p36 h g34 g35 => ?_)
      have h := h g34 g35
      have K := kj9_tr K p36.2
      have o24 := gr_ob p36.2.1 o24
      refine ⟨?_, ?_⟩
      · intro c37
        have h := h.1 c37
        obtain ⟨b38, e39, h⟩ := h
        refine ⟨b38, e39, ?_⟩
        obtain ⟨c40, h⟩ := h
        refine ⟨c40, ?_⟩
        have o41 := c40
        obtain ⟨b42, e43, h⟩ := h
        refine ⟨b42, e43, ?_⟩
        obtain ⟨c44, h⟩ := h
        refine ⟨c44, ?_⟩
        obtain ⟨c45, h⟩ := h
        refine ⟨c45, ?_⟩
        obtain ⟨b46, e47, h⟩ := h
        refine ⟨b46, e47, ?_⟩
        obtain ⟨c48, h⟩ := h
        refine ⟨c48, ?_⟩
        refine cm_X5_minutesAt (kj_X5_minutesAt hU (fun q hq => hL q ((by decide : ∀ q ∈ kjL_X5_minutesAt, q ∈ kjL_X9_minutes) q hq)) h) h (fun x49 x50 p52 h g51 => ?_)
        have h := h g51
        have K := kj9_tr K p52.2
        have o24 := gr_ob p52.2.1 o24
        have o41 := gr_ob p52.2.1 o41
        refine cm_X9_grant (kj_X9_grant hU (fun q hq => hL q ((by decide : ∀ q ∈ kjL_X9_grant, q ∈ kjL_X9_minutes) q hq)) h) h (fun x53 x54 p56 h g55 => ?_)
        have h := h g55
        have K := kj9_tr K p56.2
        have o24 := gr_ob p56.2.1 o24
        have o41 := gr_ob p56.2.1 o41
        exact ⟨h, K⟩
      · intro c57
        have h := h.2 c57
        refine cm_X9_refuse (kj_X9_refuse hU (fun q hq => hL q ((by decide : ∀ q ∈ kjL_X9_refuse, q ∈ kjL_X9_minutes) q hq)) h) h (fun x58 x59 p61 h g60 => ?_)
        have h := h g60
        have K := kj9_tr K p61.2
        have o24 := gr_ob p61.2.1 o24
        exact ⟨h, K⟩
    · intro c62
      have h := h.2 c62
      exact kj_X9_minutes_22 hU hL h K
theorem kj_X9_minutes {L : List (Nat × Nat)} (hU : ∀ q ∈ L, q ∈ njT) (hL : ∀ q ∈ kjL_X9_minutes, q ∈ L) {Q : Int32 → HS → Prop} {v0 : Nat} {v1 : Int32} {v2 : Int32} {v3 : Int32} {S : HS} (h : P_X9_minutes v0 v1 v2 v3 Q S) : P_X9_minutes v0 v1 v2 v3 (fun r T => Q r T ∧ KJ L S T) S := kj_X9_minutes_0 hU hL h (kj9_rf L S)
abbrev kjL_X9_road : List (Nat × Nat) := []
set_option maxRecDepth 20000 in
set_option maxHeartbeats 1000000 in
theorem kj_X9_road_20 {L : List (Nat × Nat)} (hU : ∀ q ∈ L, q ∈ njT) (hL : ∀ q ∈ kjL_X9_road, q ∈ L) {Q : Int32 → HS → Prop} {v0 : Nat} {S0 S : HS} (h : P_X9_road_20 Q v0 S) (K : KJ L S0 S) : P_X9_road_20 (fun r T => Q r T ∧ KJ L S0 T) v0 S := by
  delta P_X9_road_20 at h ⊢
  obtain ⟨c1, h⟩ := h
  refine ⟨c1, ?_⟩
  refine cm_X9_refuse (kj_X9_refuse hU (fun q hq => hL q ((by decide : ∀ q ∈ kjL_X9_refuse, q ∈ kjL_X9_road) q hq)) h) h (fun x2 x3 p5 h g4 => ?_)
  have h := h g4
  have K := kj9_tr K p5.2
  exact ⟨h, K⟩
set_option maxRecDepth 20000 in
set_option maxHeartbeats 1000000 in
theorem kj_X9_road_0 {L : List (Nat × Nat)} (hU : ∀ q ∈ L, q ∈ njT) (hL : ∀ q ∈ kjL_X9_road, q ∈ L) {Q : Int32 → HS → Prop} {v0 : Nat} {v1 : Int32} {v2 : Int32} {S0 S : HS} (h : P_X9_road_0 Q v0 v1 v2 S) (K : KJ L S0 S) : P_X9_road_0 (fun r T => Q r T ∧ KJ L S0 T) v0 v1 v2 S := by
  delta P_X9_road_0 at h ⊢
  obtain ⟨c1, h⟩ := h
  refine ⟨c1, ?_⟩
  obtain ⟨b2, e3, h⟩ := h
  refine ⟨b2, e3, ?_⟩
  obtain ⟨c4, h⟩ := h
  refine ⟨c4, ?_⟩
  refine cm_X8_hasRoad (kj_X8_hasRoad hU (fun q hq => hL q ((by decide : ∀ q ∈ kjL_X8_hasRoad, q ∈ kjL_X9_road) q hq)) h) h (fun x5 x6 p9 h g7 g8 => ?_)
  have h := h g7 g8
  have K := kj9_tr K p9.2
  refine ⟨?_, ?_⟩
  · intro c10
    have h := h.1 c10
    exact kj_X9_road_20 hU hL h K
  · intro c11
    have h := h.2 c11
    refine ⟨?_, ?_⟩
    · intro c12
      have h := h.1 c12
      exact kj_X9_road_20 hU hL h K
    · intro c13
      have h := h.2 c13
      refine ⟨?_, ?_⟩
      · intro c14
        have h := h.1 c14
        obtain ⟨b15, e16, h⟩ := h
        refine ⟨b15, e16, ?_⟩
        obtain ⟨c17, h⟩ := h
        refine ⟨c17, ?_⟩
        have o18 := c17
        obtain ⟨b19, e20, h⟩ := h
        refine ⟨b19, e20, ?_⟩
        obtain ⟨c21, h⟩ := h
        refine ⟨c21, ?_⟩
        obtain ⟨c22, h⟩ := h
        refine ⟨c22, ?_⟩
        obtain ⟨b23, e24, h⟩ := h
        refine ⟨b23, e24, ?_⟩
        obtain ⟨c25, h⟩ := h
        refine ⟨c25, ?_⟩
        refine cm_X5_tell (kj_X5_tell hU (fun q hq => hL q ((by decide : ∀ q ∈ kjL_X5_tell, q ∈ kjL_X9_road) q hq)) h) h (fun x26 x27 p29 h g28 => ?_)
        have h := h g28
        have K := kj9_tr K p29.2
        have o18 := gr_ob p29.2.1 o18
        refine cm_X9_grant (kj_X9_grant hU (fun q hq => hL q ((by decide : ∀ q ∈ kjL_X9_grant, q ∈ kjL_X9_road) q hq)) h) h (fun x30 x31 p33 h g32 => ?_)
        have h := h g32
        have K := kj9_tr K p33.2
        have o18 := gr_ob p33.2.1 o18
        exact ⟨h, K⟩
      · intro c34
        have h := h.2 c34
        exact kj_X9_road_20 hU hL h K
theorem kj_X9_road {L : List (Nat × Nat)} (hU : ∀ q ∈ L, q ∈ njT) (hL : ∀ q ∈ kjL_X9_road, q ∈ L) {Q : Int32 → HS → Prop} {v0 : Nat} {v1 : Int32} {v2 : Int32} {S : HS} (h : P_X9_road v0 v1 v2 Q S) : P_X9_road v0 v1 v2 (fun r T => Q r T ∧ KJ L S T) S := kj_X9_road_0 hU hL h (kj9_rf L S)
abbrev kjL_X9_round : List (Nat × Nat) := []
set_option maxRecDepth 20000 in
set_option maxHeartbeats 1000000 in
theorem kj_X9_round_0 {L : List (Nat × Nat)} (hU : ∀ q ∈ L, q ∈ njT) (hL : ∀ q ∈ kjL_X9_round, q ∈ L) {Q : Int64 → HS → Prop} {v0 : Nat} {v1 : Int32} {v2 : Int32} {v3 : Int32} {v4 : Int32} {S0 S : HS} (h : P_X9_round_0 Q v0 v1 v2 v3 v4 S) (K : KJ L S0 S) : P_X9_round_0 (fun r T => Q r T ∧ KJ L S0 T) v0 v1 v2 v3 v4 S := by
  delta P_X9_round_0 at h ⊢
  obtain ⟨c1, h⟩ := h
  refine ⟨c1, ?_⟩
  refine cm_X9_tripTrouble (kj_X9_tripTrouble hU (fun q hq => hL q ((by decide : ∀ q ∈ kjL_X9_tripTrouble, q ∈ kjL_X9_round) q hq)) h) h (fun x2 x3 p5 h g4 => ?_)
  have h := h g4
  have K := kj9_tr K p5.2
  refine cm_X9_refusedBy (kj_X9_refusedBy hU (fun q hq => hL q ((by decide : ∀ q ∈ kjL_X9_refusedBy, q ∈ kjL_X9_round) q hq)) h) h (fun x6 x7 p10 h g8 g9 => ?_)
  have h := h g8 g9
  have K := kj9_tr K p10.2
  refine ⟨?_, ?_⟩
  · intro c11
    have h := h.1 c11
    obtain ⟨b12, e13, h⟩ := h
    refine ⟨b12, e13, ?_⟩
    obtain ⟨b14, e15, h⟩ := h
    refine ⟨b14, e15, ?_⟩
    obtain ⟨c16, h⟩ := h
    refine ⟨c16, ?_⟩
    have o17 := c16
    obtain ⟨b18, e19, h⟩ := h
    refine ⟨b18, e19, ?_⟩
    obtain ⟨c20, h⟩ := h
    refine ⟨c20, ?_⟩
    obtain ⟨c21, h⟩ := h
    refine ⟨c21, ?_⟩
    obtain ⟨b22, e23, h⟩ := h
    refine ⟨b22, e23, ?_⟩
    obtain ⟨b24, e25, h⟩ := h
    refine ⟨b24, e25, ?_⟩
    obtain ⟨c26, h⟩ := h
    refine ⟨c26, ?_⟩
    have o27 := c26
    obtain ⟨b28, e29, h⟩ := h
    refine ⟨b28, e29, ?_⟩
    obtain ⟨c30, h⟩ := h
    refine ⟨c30, ?_⟩
    obtain ⟨c31, h⟩ := h
    refine ⟨c31, ?_⟩
    obtain ⟨b32, e33, h⟩ := h
    refine ⟨b32, e33, ?_⟩
    obtain ⟨b34, e35, h⟩ := h
    refine ⟨b34, e35, ?_⟩
    obtain ⟨c36, h⟩ := h
    refine ⟨c36, ?_⟩
    have o37 := c36
    obtain ⟨b38, e39, h⟩ := h
    refine ⟨b38, e39, ?_⟩
    obtain ⟨c40, h⟩ := h
    refine ⟨c40, ?_⟩
    obtain ⟨c41, h⟩ := h
    refine ⟨c41, ?_⟩
    obtain ⟨b42, e43, h⟩ := h
    refine ⟨b42, e43, ?_⟩
    obtain ⟨c44, h⟩ := h
    refine ⟨c44, ?_⟩
    refine cm_X1_leastWet (kj_X1_leastWet hU (fun q hq => hL q ((by decide : ∀ q ∈ kjL_X1_leastWet, q ∈ kjL_X9_round) q hq)) h) h (fun x45 x46 p48 h g47 => ?_)
    have h := h g47
    have K := kj9_tr K p48.2
    have o17 := gr_ob p48.2.1 o17
    have o27 := gr_ob p48.2.1 o27
    have o37 := gr_ob p48.2.1 o37
    obtain ⟨b49, e50, h⟩ := h
    refine ⟨b49, e50, ?_⟩
    obtain ⟨b51, e52, h⟩ := h
    refine ⟨b51, e52, ?_⟩
    obtain ⟨c53, h⟩ := h
    refine ⟨c53, ?_⟩
    have o54 := c53
    obtain ⟨b55, e56, h⟩ := h
    refine ⟨b55, e56, ?_⟩
    obtain ⟨c57, h⟩ := h
    refine ⟨c57, ?_⟩
    obtain ⟨c58, h⟩ := h
    refine ⟨c58, ?_⟩
    obtain ⟨b59, e60, h⟩ := h
    refine ⟨b59, e60, ?_⟩
    obtain ⟨b61, e62, h⟩ := h
    refine ⟨b61, e62, ?_⟩
    obtain ⟨c63, h⟩ := h
    refine ⟨c63, ?_⟩
    have o64 := c63
    obtain ⟨b65, e66, h⟩ := h
    refine ⟨b65, e66, ?_⟩
    obtain ⟨c67, h⟩ := h
    refine ⟨c67, ?_⟩
    obtain ⟨c68, h⟩ := h
    refine ⟨c68, ?_⟩
    obtain ⟨b69, e70, h⟩ := h
    refine ⟨b69, e70, ?_⟩
    obtain ⟨b71, e72, h⟩ := h
    refine ⟨b71, e72, ?_⟩
    obtain ⟨c73, h⟩ := h
    refine ⟨c73, ?_⟩
    have o74 := c73
    obtain ⟨b75, e76, h⟩ := h
    refine ⟨b75, e76, ?_⟩
    obtain ⟨c77, h⟩ := h
    refine ⟨c77, ?_⟩
    obtain ⟨c78, h⟩ := h
    refine ⟨c78, ?_⟩
    obtain ⟨b79, e80, h⟩ := h
    refine ⟨b79, e80, ?_⟩
    obtain ⟨c81, h⟩ := h
    refine ⟨c81, ?_⟩
    refine cm_X1_leastWet (kj_X1_leastWet hU (fun q hq => hL q ((by decide : ∀ q ∈ kjL_X1_leastWet, q ∈ kjL_X9_round) q hq)) h) h (fun x82 x83 p85 h g84 => ?_)
    have h := h g84
    have K := kj9_tr K p85.2
    have o17 := gr_ob p85.2.1 o17
    have o27 := gr_ob p85.2.1 o27
    have o37 := gr_ob p85.2.1 o37
    have o54 := gr_ob p85.2.1 o54
    have o64 := gr_ob p85.2.1 o64
    have o74 := gr_ob p85.2.1 o74
    refine cm_X9_fraction (kj_X9_fraction hU (fun q hq => hL q ((by decide : ∀ q ∈ kjL_X9_fraction, q ∈ kjL_X9_round) q hq)) h) h (fun x86 x87 p89 h g88 => ?_)
    have h := h g88
    have K := kj9_tr K p89.2
    have o17 := gr_ob p89.2.1 o17
    have o27 := gr_ob p89.2.1 o27
    have o37 := gr_ob p89.2.1 o37
    have o54 := gr_ob p89.2.1 o54
    have o64 := gr_ob p89.2.1 o64
    have o74 := gr_ob p89.2.1 o74
    exact ⟨h, K⟩
  · intro c90
    have h := h.2 c90
    exact ⟨h, K⟩
theorem kj_X9_round {L : List (Nat × Nat)} (hU : ∀ q ∈ L, q ∈ njT) (hL : ∀ q ∈ kjL_X9_round, q ∈ L) {Q : Int64 → HS → Prop} {v0 : Nat} {v1 : Int32} {v2 : Int32} {v3 : Int32} {v4 : Int32} {S : HS} (h : P_X9_round v0 v1 v2 v3 v4 Q S) : P_X9_round v0 v1 v2 v3 v4 (fun r T => Q r T ∧ KJ L S T) S := kj_X9_round_0 hU hL h (kj9_rf L S)
abbrev kjL_X9_saves : List (Nat × Nat) := []
set_option maxRecDepth 20000 in
set_option maxHeartbeats 1000000 in
theorem kj_X9_saves_0 {L : List (Nat × Nat)} (hU : ∀ q ∈ L, q ∈ njT) (hL : ∀ q ∈ kjL_X9_saves, q ∈ L) {Q : Int64 → HS → Prop} {v0 : Nat} {v1 : Int32} {v2 : Int32} {v3 : Int32} {v4 : Int32} {v5 : Int32} {S0 S : HS} (h : P_X9_saves_0 Q v0 v1 v2 v3 v4 v5 S) (K : KJ L S0 S) : P_X9_saves_0 (fun r T => Q r T ∧ KJ L S0 T) v0 v1 v2 v3 v4 v5 S := by
  delta P_X9_saves_0 at h ⊢
  obtain ⟨c1, h⟩ := h
  refine ⟨c1, ?_⟩
  refine cm_X9_tripTrouble (kj_X9_tripTrouble hU (fun q hq => hL q ((by decide : ∀ q ∈ kjL_X9_tripTrouble, q ∈ kjL_X9_saves) q hq)) h) h (fun x2 x3 p5 h g4 => ?_)
  have h := h g4
  have K := kj9_tr K p5.2
  refine cm_X9_refusedBy (kj_X9_refusedBy hU (fun q hq => hL q ((by decide : ∀ q ∈ kjL_X9_refusedBy, q ∈ kjL_X9_saves) q hq)) h) h (fun x6 x7 p10 h g8 g9 => ?_)
  have h := h g8 g9
  have K := kj9_tr K p10.2
  refine ⟨?_, ?_⟩
  · intro c11
    have h := h.1 c11
    obtain ⟨b12, e13, h⟩ := h
    refine ⟨b12, e13, ?_⟩
    obtain ⟨c14, h⟩ := h
    refine ⟨c14, ?_⟩
    have o15 := c14
    obtain ⟨b16, e17, h⟩ := h
    refine ⟨b16, e17, ?_⟩
    obtain ⟨c18, h⟩ := h
    refine ⟨c18, ?_⟩
    obtain ⟨c19, h⟩ := h
    refine ⟨c19, ?_⟩
    obtain ⟨b20, e21, h⟩ := h
    refine ⟨b20, e21, ?_⟩
    obtain ⟨b22, e23, h⟩ := h
    refine ⟨b22, e23, ?_⟩
    obtain ⟨b24, e25, h⟩ := h
    refine ⟨b24, e25, ?_⟩
    obtain ⟨c26, h⟩ := h
    refine ⟨c26, ?_⟩
    have o27 := c26
    obtain ⟨b28, e29, h⟩ := h
    refine ⟨b28, e29, ?_⟩
    obtain ⟨c30, h⟩ := h
    refine ⟨c30, ?_⟩
    obtain ⟨c31, h⟩ := h
    refine ⟨c31, ?_⟩
    obtain ⟨b32, e33, h⟩ := h
    refine ⟨b32, e33, ?_⟩
    obtain ⟨b34, e35, h⟩ := h
    refine ⟨b34, e35, ?_⟩
    obtain ⟨c36, h⟩ := h
    refine ⟨c36, ?_⟩
    have o37 := c36
    obtain ⟨b38, e39, h⟩ := h
    refine ⟨b38, e39, ?_⟩
    obtain ⟨c40, h⟩ := h
    refine ⟨c40, ?_⟩
    obtain ⟨c41, h⟩ := h
    refine ⟨c41, ?_⟩
    obtain ⟨b42, e43, h⟩ := h
    refine ⟨b42, e43, ?_⟩
    obtain ⟨c44, h⟩ := h
    refine ⟨c44, ?_⟩
    intro x46 e45
    have h := h x46 e45
    obtain ⟨c47, h⟩ := h
    refine ⟨c47, ?_⟩
    refine cm_X1_wetOf (kj_X1_wetOf hU (fun q hq => hL q ((by decide : ∀ q ∈ kjL_X1_wetOf, q ∈ kjL_X9_saves) q hq)) h) h (fun x48 x49 p51 h g50 => ?_)
    have h := h g50
    have K := kj9_tr K p51.2
    have o15 := gr_ob p51.2.1 o15
    have o27 := gr_ob p51.2.1 o27
    have o37 := gr_ob p51.2.1 o37
    obtain ⟨b52, e53, h⟩ := h
    refine ⟨b52, e53, ?_⟩
    obtain ⟨b54, e55, h⟩ := h
    refine ⟨b54, e55, ?_⟩
    obtain ⟨c56, h⟩ := h
    refine ⟨c56, ?_⟩
    have o57 := c56
    obtain ⟨b58, e59, h⟩ := h
    refine ⟨b58, e59, ?_⟩
    obtain ⟨c60, h⟩ := h
    refine ⟨c60, ?_⟩
    obtain ⟨c61, h⟩ := h
    refine ⟨c61, ?_⟩
    obtain ⟨b62, e63, h⟩ := h
    refine ⟨b62, e63, ?_⟩
    obtain ⟨b64, e65, h⟩ := h
    refine ⟨b64, e65, ?_⟩
    obtain ⟨c66, h⟩ := h
    refine ⟨c66, ?_⟩
    have o67 := c66
    obtain ⟨b68, e69, h⟩ := h
    refine ⟨b68, e69, ?_⟩
    obtain ⟨c70, h⟩ := h
    refine ⟨c70, ?_⟩
    obtain ⟨c71, h⟩ := h
    refine ⟨c71, ?_⟩
    obtain ⟨b72, e73, h⟩ := h
    refine ⟨b72, e73, ?_⟩
    obtain ⟨c74, h⟩ := h
    refine ⟨c74, ?_⟩
    refine cm_X1_leastWet (kj_X1_leastWet hU (fun q hq => hL q ((by decide : ∀ q ∈ kjL_X1_leastWet, q ∈ kjL_X9_saves) q hq)) h) h (fun x75 x76 p78 h g77 => ?_)
    have h := h g77
    have K := kj9_tr K p78.2
    have o15 := gr_ob p78.2.1 o15
    have o27 := gr_ob p78.2.1 o27
    have o37 := gr_ob p78.2.1 o37
    have o57 := gr_ob p78.2.1 o57
    have o67 := gr_ob p78.2.1 o67
    refine cm_X9_fraction (kj_X9_fraction hU (fun q hq => hL q ((by decide : ∀ q ∈ kjL_X9_fraction, q ∈ kjL_X9_saves) q hq)) h) h (fun x79 x80 p82 h g81 => ?_)
    have h := h g81
    have K := kj9_tr K p82.2
    have o15 := gr_ob p82.2.1 o15
    have o27 := gr_ob p82.2.1 o27
    have o37 := gr_ob p82.2.1 o37
    have o57 := gr_ob p82.2.1 o57
    have o67 := gr_ob p82.2.1 o67
    exact ⟨h, K⟩
  · intro c83
    have h := h.2 c83
    exact ⟨h, K⟩
theorem kj_X9_saves {L : List (Nat × Nat)} (hU : ∀ q ∈ L, q ∈ njT) (hL : ∀ q ∈ kjL_X9_saves, q ∈ L) {Q : Int64 → HS → Prop} {v0 : Nat} {v1 : Int32} {v2 : Int32} {v3 : Int32} {v4 : Int32} {v5 : Int32} {S : HS} (h : P_X9_saves v0 v1 v2 v3 v4 v5 Q S) : P_X9_saves v0 v1 v2 v3 v4 v5 (fun r T => Q r T ∧ KJ L S T) S := kj_X9_saves_0 hU hL h (kj9_rf L S)
abbrev kjL_X9_soaked : List (Nat × Nat) := []
set_option maxRecDepth 20000 in
set_option maxHeartbeats 1000000 in
theorem kj_X9_soaked_27 {L : List (Nat × Nat)} (hU : ∀ q ∈ L, q ∈ njT) (hL : ∀ q ∈ kjL_X9_soaked, q ∈ L) {Q : Int32 → HS → Prop} {v0 : Nat} {S0 S : HS} (h : P_X9_soaked_27 Q v0 S) (K : KJ L S0 S) : P_X9_soaked_27 (fun r T => Q r T ∧ KJ L S0 T) v0 S := by
  delta P_X9_soaked_27 at h ⊢
  obtain ⟨c1, h⟩ := h
  refine ⟨c1, ?_⟩
  refine cm_X9_refuse (kj_X9_refuse hU (fun q hq => hL q ((by decide : ∀ q ∈ kjL_X9_refuse, q ∈ kjL_X9_soaked) q hq)) h) h (fun x2 x3 p5 h g4 => ?_)
  have h := h g4
  have K := kj9_tr K p5.2
  exact ⟨h, K⟩
set_option maxRecDepth 20000 in
set_option maxHeartbeats 1000000 in
theorem kj_X9_soaked_88 {L : List (Nat × Nat)} (hU : ∀ q ∈ L, q ∈ njT) (hL : ∀ q ∈ kjL_X9_soaked, q ∈ L) {Q : Int32 → HS → Prop} {s0 : Nat} {s1 : Int32} {S0 S : HS} (h : P_X9_soaked_88 Q s0 s1 S) (K : KJ L S0 S) : P_X9_soaked_88 (fun r T => Q r T ∧ KJ L S0 T) s0 s1 S := by
  delta P_X9_soaked_88 at h ⊢
  obtain ⟨c1, h⟩ := h
  refine ⟨c1, ?_⟩
  refine cm_X9_grant (kj_X9_grant hU (fun q hq => hL q ((by decide : ∀ q ∈ kjL_X9_grant, q ∈ kjL_X9_soaked) q hq)) h) h (fun x2 x3 p5 h g4 => ?_)
  have h := h g4
  have K := kj9_tr K p5.2
  exact ⟨h, K⟩
set_option maxRecDepth 20000 in
set_option maxHeartbeats 1000000 in
theorem kj_X9_soaked_0 {L : List (Nat × Nat)} (hU : ∀ q ∈ L, q ∈ njT) (hL : ∀ q ∈ kjL_X9_soaked, q ∈ L) {Q : Int32 → HS → Prop} {v0 : Nat} {S0 S : HS} (h : P_X9_soaked_0 Q v0 S) (K : KJ L S0 S) : P_X9_soaked_0 (fun r T => Q r T ∧ KJ L S0 T) v0 S := by
  delta P_X9_soaked_0 at h ⊢
  obtain ⟨c1, h⟩ := h
  refine ⟨c1, ?_⟩
  obtain ⟨b2, e3, h⟩ := h
  refine ⟨b2, e3, ?_⟩
  obtain ⟨c4, h⟩ := h
  refine ⟨c4, ?_⟩
  refine cm_X0_isOn (kj_X0_isOn hU (fun q hq => hL q ((by decide : ∀ q ∈ kjL_X0_isOn, q ∈ kjL_X9_soaked) q hq)) h) h (fun x5 x6 p9 h g7 g8 => ?_)
  have h := h g7 g8
  have K := kj9_tr K p9.2
  refine ⟨?_, ?_⟩
  · intro c10
    have h := h.1 c10
    exact kj_X9_soaked_27 hU hL h K
  · intro c11
    have h := h.2 c11
    obtain ⟨b12, e13, h⟩ := h
    refine ⟨b12, e13, ?_⟩
    obtain ⟨b14, e15, h⟩ := h
    refine ⟨b14, e15, ?_⟩
    obtain ⟨c16, h⟩ := h
    refine ⟨c16, ?_⟩
    intro x18 e17
    have h := h x18 e17
    obtain ⟨c19, h⟩ := h
    refine ⟨c19, ?_⟩
    refine cm_X8_hasWalker (kj_X8_hasWalker hU (fun q hq => hL q ((by decide : ∀ q ∈ kjL_X8_hasWalker, q ∈ kjL_X9_soaked) q hq)) h) h (fun x20 x21 p24 h g22 g23 => ?_)
    have h := h g22 g23
    have K := kj9_tr K p24.2
    refine ⟨?_, ?_⟩
    · intro c25
      have h := h.1 c25
      obtain ⟨b26, e27, h⟩ := h
      refine ⟨b26, e27, ?_⟩
      obtain ⟨c28, h⟩ := h
      refine ⟨c28, ?_⟩
      have o29 := c28
      obtain ⟨b30, e31, h⟩ := h
      refine ⟨b30, e31, ?_⟩
      obtain ⟨b32, e33, h⟩ := h
      refine ⟨b32, e33, ?_⟩
      obtain ⟨c34, h⟩ := h
      refine ⟨c34, ?_⟩
      intro x36 e35
      have h := h x36 e35
      obtain ⟨c37, h⟩ := h
      refine ⟨c37, ?_⟩
      obtain ⟨c38, h⟩ := h
      refine ⟨c38, ?_⟩
      obtain ⟨b39, e40, h⟩ := h
      refine ⟨b39, e40, ?_⟩
      obtain ⟨c41, h⟩ := h
      refine ⟨c41, ?_⟩
      intro x43 e42
      have h := h x43 e42
      refine ⟨?_, ?_⟩
      · intro c44
        have h := h.1 c44
        obtain ⟨b45, e46, h⟩ := h
        refine ⟨b45, e46, ?_⟩
        obtain ⟨c47, h⟩ := h
        refine ⟨c47, ?_⟩
        obtain ⟨b48, e49, h⟩ := h
        refine ⟨b48, e49, ?_⟩
        obtain ⟨c50, h⟩ := h
        refine ⟨c50, ?_⟩
        refine cm_X2_allGot (kj_X2_allGot hU (fun q hq => hL q ((by decide : ∀ q ∈ kjL_X2_allGot, q ∈ kjL_X9_soaked) q hq)) h) h (fun x51 x52 p54 h g53 => ?_)
        have h := h g53
        have K := kj9_tr K p54.2
        have o29 := gr_ob p54.2.1 o29
        refine cm_X9_coatParts (kj_X9_coatParts hU (fun q hq => hL q ((by decide : ∀ q ∈ kjL_X9_coatParts, q ∈ kjL_X9_soaked) q hq)) h) h (fun x55 x56 p58 h g57 => ?_)
        have h := h g57
        have K := kj9_tr K p58.2
        have o29 := gr_ob p58.2.1 o29
        refine ⟨?_, ?_⟩
        · intro c59
          have h := h.1 c59
          exact kj_X9_soaked_88 hU hL h K
        · intro c60
          have h := h.2 c60
          exact kj_X9_soaked_88 hU hL h K
      · intro c61
        have h := h.2 c61
        refine cm_X9_grant (kj_X9_grant hU (fun q hq => hL q ((by decide : ∀ q ∈ kjL_X9_grant, q ∈ kjL_X9_soaked) q hq)) h) h (fun x62 x63 p65 h g64 => ?_)
        have h := h g64
        have K := kj9_tr K p65.2
        have o29 := gr_ob p65.2.1 o29
        exact ⟨h, K⟩
    · intro c66
      have h := h.2 c66
      exact kj_X9_soaked_27 hU hL h K
theorem kj_X9_soaked {L : List (Nat × Nat)} (hU : ∀ q ∈ L, q ∈ njT) (hL : ∀ q ∈ kjL_X9_soaked, q ∈ L) {Q : Int32 → HS → Prop} {v0 : Nat} {S : HS} (h : P_X9_soaked v0 Q S) : P_X9_soaked v0 (fun r T => Q r T ∧ KJ L S T) S := kj_X9_soaked_0 hU hL h (kj9_rf L S)
abbrev kjL_X9_stayTrouble : List (Nat × Nat) := []
set_option maxRecDepth 20000 in
set_option maxHeartbeats 1000000 in
theorem kj_X9_stayTrouble_0 {L : List (Nat × Nat)} (hU : ∀ q ∈ L, q ∈ njT) (hL : ∀ q ∈ kjL_X9_stayTrouble, q ∈ L) {Q : Int32 → HS → Prop} {v0 : Nat} {v1 : Int32} {S0 S : HS} (h : P_X9_stayTrouble_0 Q v0 v1 S) (K : KJ L S0 S) : P_X9_stayTrouble_0 (fun r T => Q r T ∧ KJ L S0 T) v0 v1 S := by
  delta P_X9_stayTrouble_0 at h ⊢
  obtain ⟨c1, h⟩ := h
  refine ⟨c1, ?_⟩
  obtain ⟨b2, e3, h⟩ := h
  refine ⟨b2, e3, ?_⟩
  obtain ⟨c4, h⟩ := h
  refine ⟨c4, ?_⟩
  refine cm_X0_isOn (kj_X0_isOn hU (fun q hq => hL q ((by decide : ∀ q ∈ kjL_X0_isOn, q ∈ kjL_X9_stayTrouble) q hq)) h) h (fun x5 x6 p9 h g7 g8 => ?_)
  have h := h g7 g8
  have K := kj9_tr K p9.2
  refine ⟨?_, ?_⟩
  · intro c10
    have h := h.1 c10
    exact ⟨h, K⟩
  · intro c11
    have h := h.2 c11
    obtain ⟨b12, e13, h⟩ := h
    refine ⟨b12, e13, ?_⟩
    obtain ⟨b14, e15, h⟩ := h
    refine ⟨b14, e15, ?_⟩
    obtain ⟨c16, h⟩ := h
    refine ⟨c16, ?_⟩
    intro x18 e17
    have h := h x18 e17
    obtain ⟨c19, h⟩ := h
    refine ⟨c19, ?_⟩
    refine cm_X8_hasWalker (kj_X8_hasWalker hU (fun q hq => hL q ((by decide : ∀ q ∈ kjL_X8_hasWalker, q ∈ kjL_X9_stayTrouble) q hq)) h) h (fun x20 x21 p24 h g22 g23 => ?_)
    have h := h g22 g23
    have K := kj9_tr K p24.2
    refine ⟨?_, ?_⟩
    · intro c25
      have h := h.1 c25
      refine ⟨?_, ?_⟩
      · intro c26
        have h := h.1 c26
        exact ⟨h, K⟩
      · intro c27
        have h := h.2 c27
        refine ⟨?_, ?_⟩
        · intro c28
          have h := h.1 c28
          obtain ⟨b29, e30, h⟩ := h
          refine ⟨b29, e30, ?_⟩
          obtain ⟨b31, e32, h⟩ := h
          refine ⟨b31, e32, ?_⟩
          obtain ⟨c33, h⟩ := h
          refine ⟨c33, ?_⟩
          obtain ⟨b34, e35, h⟩ := h
          refine ⟨b34, e35, ?_⟩
          obtain ⟨c36, h⟩ := h
          refine ⟨c36, ?_⟩
          intro x38 e37
          have h := h x38 e37
          obtain ⟨c39, h⟩ := h
          refine ⟨c39, ?_⟩
          refine cm_X8_canWait (kj_X8_canWait hU (fun q hq => hL q ((by decide : ∀ q ∈ kjL_X8_canWait, q ∈ kjL_X9_stayTrouble) q hq)) h) h (fun x40 x41 p44 h g42 g43 => ?_)
          have h := h g42 g43
          have K := kj9_tr K p44.2
          refine ⟨?_, ?_⟩
          · intro c45
            have h := h.1 c45
            obtain ⟨b46, e47, h⟩ := h
            refine ⟨b46, e47, ?_⟩
            obtain ⟨c48, h⟩ := h
            refine ⟨c48, ?_⟩
            obtain ⟨b49, e50, h⟩ := h
            refine ⟨b49, e50, ?_⟩
            obtain ⟨c51, h⟩ := h
            refine ⟨c51, ?_⟩
            intro x53 e52
            have h := h x53 e52
            refine ⟨?_, ?_⟩
            · intro c54
              have h := h.1 c54
              exact ⟨h, K⟩
            · intro c55
              have h := h.2 c55
              exact ⟨h, K⟩
          · intro c56
            have h := h.2 c56
            exact ⟨h, K⟩
        · intro c57
          have h := h.2 c57
          exact ⟨h, K⟩
    · intro c58
      have h := h.2 c58
      exact ⟨h, K⟩
theorem kj_X9_stayTrouble {L : List (Nat × Nat)} (hU : ∀ q ∈ L, q ∈ njT) (hL : ∀ q ∈ kjL_X9_stayTrouble, q ∈ L) {Q : Int32 → HS → Prop} {v0 : Nat} {v1 : Int32} {S : HS} (h : P_X9_stayTrouble v0 v1 Q S) : P_X9_stayTrouble v0 v1 (fun r T => Q r T ∧ KJ L S T) S := kj_X9_stayTrouble_0 hU hL h (kj9_rf L S)
abbrev kjL_X9_stay : List (Nat × Nat) := []
set_option maxRecDepth 20000 in
set_option maxHeartbeats 1000000 in
theorem kj_X9_stay_111 {L : List (Nat × Nat)} (hU : ∀ q ∈ L, q ∈ njT) (hL : ∀ q ∈ kjL_X9_stay, q ∈ L) {Q : Int32 → HS → Prop} {X58 X58_2 : Nat → Int32 → Int64 → Int32 → HS → Prop} {v0 : Nat} {v1 : Int32} {v2 : Int64} {v4 : Int32} {S0 S : HS} (h : P_X9_stay_111 Q X58 v0 v1 v2 v4 S) (K : KJ L S0 S) (hX58 : ∀ (u0 : Nat) (u1 : Int32) (u2 : Int64) (u3 : Int32) (u4 : HS), X58 u0 u1 u2 u3 u4 → KJ L S0 u4 → X58_2 u0 u1 u2 u3 u4) : P_X9_stay_111 (fun r T => Q r T ∧ KJ L S0 T) X58_2 v0 v1 v2 v4 S := by
  delta P_X9_stay_111 at h ⊢
  obtain ⟨c1, h⟩ := h
  refine ⟨c1, ?_⟩
  obtain ⟨b2, e3, h⟩ := h
  refine ⟨b2, e3, ?_⟩
  obtain ⟨c4, h⟩ := h
  refine ⟨c4, ?_⟩
  obtain ⟨b5, e6, h⟩ := h
  refine ⟨b5, e6, ?_⟩
  obtain ⟨c7, h⟩ := h
  refine ⟨c7, ?_⟩
  have n8 := kj9_nk K c7 (by decide)
  intro x10 e9
  have h := h x10 e9
  intro x12 e11
  have h := h x12 e11
  intro x14 e13
  have h := h x14 e13
  have K := kj9_I K e13 n8
  intro x16 e15
  have h := h x16 e15
  exact hX58 _ _ _ _ _ h K
set_option maxRecDepth 20000 in
set_option maxHeartbeats 1000000 in
theorem kjB_X9_stay_58 {L : List (Nat × Nat)} (hU : ∀ q ∈ L, q ∈ njT) (hL : ∀ q ∈ kjL_X9_stay, q ∈ L) {Q : Int32 → HS → Prop} {X58 X58_2 : Nat → Int32 → Int64 → Int32 → HS → Prop} {v0 : Nat} {v1 : Int32} {v2 : Int64} {v4 : Int32} {S0 S : HS} (h : B_X9_stay_58 Q X58 v0 v1 v2 v4 S) (K : KJ L S0 S) (hX58 : ∀ (u0 : Nat) (u1 : Int32) (u2 : Int64) (u3 : Int32) (u4 : HS), X58 u0 u1 u2 u3 u4 → KJ L S0 u4 → X58_2 u0 u1 u2 u3 u4) : B_X9_stay_58 (fun r T => Q r T ∧ KJ L S0 T) X58_2 v0 v1 v2 v4 S := by
  delta B_X9_stay_58 at h ⊢
  refine ⟨?_, ?_⟩
  · intro c1
    have h := h.1 c1
    exact ⟨h, K⟩
  · intro c2
    have h := h.2 c2
    obtain ⟨c3, h⟩ := h
    refine ⟨c3, ?_⟩
    obtain ⟨b4, e5, h⟩ := h
    refine ⟨b4, e5, ?_⟩
    obtain ⟨b6, e7, h⟩ := h
    refine ⟨b6, e7, ?_⟩
    obtain ⟨b8, e9, h⟩ := h
    refine ⟨b8, e9, ?_⟩
    obtain ⟨c10, h⟩ := h
    refine ⟨c10, ?_⟩
    obtain ⟨b11, e12, h⟩ := h
    refine ⟨b11, e12, ?_⟩
    obtain ⟨c13, h⟩ := h
    refine ⟨c13, ?_⟩
    intro x15 e14
    have h := h x15 e14
    obtain ⟨c16, h⟩ := h
    refine ⟨c16, ?_⟩
    refine cm_X8_hourOf (kj_X8_hourOf hU (fun q hq => hL q ((by decide : ∀ q ∈ kjL_X8_hourOf, q ∈ kjL_X9_stay) q hq)) h) h (fun x17 x18 p20 h g19 => ?_)
    have h := h g19
    have K := kj9_tr K p20.2
    obtain ⟨c21, h⟩ := h
    refine ⟨c21, ?_⟩
    refine cm_X0_rainsIn (kj_X0_rainsIn hU (fun q hq => hL q ((by decide : ∀ q ∈ kjL_X0_rainsIn, q ∈ kjL_X9_stay) q hq)) h) h (fun x22 x23 p26 h g24 g25 => ?_)
    have h := h g24 g25
    have K := kj9_tr K p26.2
    refine ⟨?_, ?_⟩
    · intro c27
      have h := h.1 c27
      exact kj_X9_stay_111 hU hL h K hX58
    · intro c28
      have h := h.2 c28
      obtain ⟨b29, e30, h⟩ := h
      refine ⟨b29, e30, ?_⟩
      obtain ⟨c31, h⟩ := h
      refine ⟨c31, ?_⟩
      obtain ⟨b32, e33, h⟩ := h
      refine ⟨b32, e33, ?_⟩
      obtain ⟨c34, h⟩ := h
      refine ⟨c34, ?_⟩
      obtain ⟨b35, e36, h⟩ := h
      refine ⟨b35, e36, ?_⟩
      obtain ⟨c37, h⟩ := h
      refine ⟨c37, ?_⟩
      obtain ⟨c38, h⟩ := h
      refine ⟨c38, ?_⟩
      intro x40 e39
      have h := h x40 e39
      intro x42 e41
      have h := h x42 e41
      obtain ⟨c43, h⟩ := h
      refine ⟨c43, ?_⟩
      intro x45 e44
      have h := h x45 e44
      have K := kj9_J K e44
      exact kj_X9_stay_111 hU hL h K hX58
theorem kj_X9_stay_58 {L : List (Nat × Nat)} (hU : ∀ q ∈ L, q ∈ njT) (hL : ∀ q ∈ kjL_X9_stay, q ∈ L) {Q : Int32 → HS → Prop} {v0 : Nat} {v1 : Int32} {v2 : Int64} {v4 : Int32} {S0 S : HS} (h : P_X9_stay_58 Q v0 v1 v2 v4 S) (K : KJ L S0 S) : P_X9_stay_58 (fun r T => Q r T ∧ KJ L S0 T) v0 v1 v2 v4 S := h (fun v0 v1 v2 v4 S => KJ L S0 S → P_X9_stay_58 (fun r T => Q r T ∧ KJ L S0 T) v0 v1 v2 v4 S) (fun v0 v1 v2 v4 S hB K => fd_X9_stay_58 (kjB_X9_stay_58 hU hL hB K (fun _ _ _ _ _ hx K => hx K))) K
set_option maxRecDepth 20000 in
set_option maxHeartbeats 1000000 in
theorem kj_X9_stay_0 {L : List (Nat × Nat)} (hU : ∀ q ∈ L, q ∈ njT) (hL : ∀ q ∈ kjL_X9_stay, q ∈ L) {Q : Int32 → HS → Prop} {v0 : Nat} {v1 : Int32} {S0 S : HS} (h : P_X9_stay_0 Q v0 v1 S) (K : KJ L S0 S) : P_X9_stay_0 (fun r T => Q r T ∧ KJ L S0 T) v0 v1 S := by
  delta P_X9_stay_0 at h ⊢
  obtain ⟨c1, h⟩ := h
  refine ⟨c1, ?_⟩
  refine cm_X9_stayTrouble (kj_X9_stayTrouble hU (fun q hq => hL q ((by decide : ∀ q ∈ kjL_X9_stayTrouble, q ∈ kjL_X9_stay) q hq)) h) h (fun x2 x3 p5 h g4 => ?_)
  have h := h g4
  have K := kj9_tr K p5.2
  refine cm_X9_refusedBy (kj_X9_refusedBy hU (fun q hq => hL q ((by decide : ∀ q ∈ kjL_X9_refusedBy, q ∈ kjL_X9_stay) q hq)) h) h (fun x6 x7 p10 h g8 g9 => ?_)
  have h := h g8 g9
  have K := kj9_tr K p10.2
  refine ⟨?_, ?_⟩
  · intro c11
    have h := h.1 c11
    obtain ⟨b12, e13, h⟩ := h
    refine ⟨b12, e13, ?_⟩
    obtain ⟨c14, h⟩ := h
    refine ⟨c14, ?_⟩
    refine cm_X0_keepForUndo (kj_X0_keepForUndo hU (fun q hq => hL q ((by decide : ∀ q ∈ kjL_X0_keepForUndo, q ∈ kjL_X9_stay) q hq)) h) h (fun x15 p17 h g16 => ?_)
    have h := h g16
    have K := kj9_tr K p17.2
    obtain ⟨b18, e19, h⟩ := h
    refine ⟨b18, e19, ?_⟩
    obtain ⟨b20, e21, h⟩ := h
    refine ⟨b20, e21, ?_⟩
    obtain ⟨c22, h⟩ := h
    refine ⟨c22, ?_⟩
    have o23 := c22
    obtain ⟨b24, e25, h⟩ := h
    refine ⟨b24, e25, ?_⟩
    obtain ⟨b26, e27, h⟩ := h
    refine ⟨b26, e27, ?_⟩
    obtain ⟨c28, h⟩ := h
    refine ⟨c28, ?_⟩
    intro x30 e29
    have h := h x30 e29
    obtain ⟨c31, h⟩ := h
    refine ⟨c31, ?_⟩
    obtain ⟨c32, h⟩ := h
    refine ⟨c32, ?_⟩
    obtain ⟨b33, e34, h⟩ := h
    refine ⟨b33, e34, ?_⟩
    obtain ⟨b35, e36, h⟩ := h
    refine ⟨b35, e36, ?_⟩
    obtain ⟨c37, h⟩ := h
    refine ⟨c37, ?_⟩
    obtain ⟨b38, e39, h⟩ := h
    refine ⟨b38, e39, ?_⟩
    obtain ⟨c40, h⟩ := h
    refine ⟨c40, ?_⟩
    intro x42 e41
    have h := h x42 e41
    obtain ⟨c43, h⟩ := h
    refine ⟨c43, ?_⟩
    refine cm_X8_dripOn (kj_X8_dripOn hU (fun q hq => hL q ((by decide : ∀ q ∈ kjL_X8_dripOn, q ∈ kjL_X9_stay) q hq)) h) h (fun x44 x45 p47 h g46 => ?_)
    have h := h g46
    have K := kj9_tr K p47.2
    have o23 := gr_ob p47.2.1 o23
    intro x49 e48
    have h := h x49 e48
    exact kj_X9_stay_58 hU hL h K
  · intro c50
    have h := h.2 c50
    exact ⟨h, K⟩
theorem kj_X9_stay {L : List (Nat × Nat)} (hU : ∀ q ∈ L, q ∈ njT) (hL : ∀ q ∈ kjL_X9_stay, q ∈ L) {Q : Int32 → HS → Prop} {v0 : Nat} {v1 : Int32} {S : HS} (h : P_X9_stay v0 v1 Q S) : P_X9_stay v0 v1 (fun r T => Q r T ∧ KJ L S T) S := kj_X9_stay_0 hU hL h (kj9_rf L S)
abbrev kjL_X9_undo : List (Nat × Nat) := []
set_option maxRecDepth 20000 in
set_option maxHeartbeats 1000000 in
theorem kj_X9_undo_17 {L : List (Nat × Nat)} (hU : ∀ q ∈ L, q ∈ njT) (hL : ∀ q ∈ kjL_X9_undo, q ∈ L) {Q : Int32 → HS → Prop} {s0 : Nat} {s1 : Int32} {S0 S : HS} (h : P_X9_undo_17 Q s0 s1 S) (K : KJ L S0 S) : P_X9_undo_17 (fun r T => Q r T ∧ KJ L S0 T) s0 s1 S := by
  delta P_X9_undo_17 at h ⊢
  obtain ⟨c1, h⟩ := h
  refine ⟨c1, ?_⟩
  refine cm_X9_refusedBy (kj_X9_refusedBy hU (fun q hq => hL q ((by decide : ∀ q ∈ kjL_X9_refusedBy, q ∈ kjL_X9_undo) q hq)) h) h (fun x2 x3 p6 h g4 g5 => ?_)
  have h := h g4 g5
  have K := kj9_tr K p6.2
  refine ⟨?_, ?_⟩
  · intro c7
    have h := h.1 c7
    exact ⟨h, K⟩
  · intro c8
    have h := h.2 c8
    exact ⟨h, K⟩
set_option maxRecDepth 20000 in
set_option maxHeartbeats 1000000 in
theorem kj_X9_undo_0 {L : List (Nat × Nat)} (hU : ∀ q ∈ L, q ∈ njT) (hL : ∀ q ∈ kjL_X9_undo, q ∈ L) {Q : Int32 → HS → Prop} {v0 : Nat} {S0 S : HS} (h : P_X9_undo_0 Q v0 S) (K : KJ L S0 S) : P_X9_undo_0 (fun r T => Q r T ∧ KJ L S0 T) v0 S := by
  delta P_X9_undo_0 at h ⊢
  obtain ⟨c1, h⟩ := h
  refine ⟨c1, ?_⟩
  obtain ⟨b2, e3, h⟩ := h
  refine ⟨b2, e3, ?_⟩
  obtain ⟨c4, h⟩ := h
  refine ⟨c4, ?_⟩
  refine cm_X0_takeBack (kj_X0_takeBack hU (fun q hq => hL q ((by decide : ∀ q ∈ kjL_X0_takeBack, q ∈ kjL_X9_undo) q hq)) h) h (fun x5 x6 p9 h g7 g8 => ?_)
  have h := h g7 g8
  have K := kj9_tr K p9.2
  refine ⟨?_, ?_⟩
  · intro c10
    have h := h.1 c10
    exact kj_X9_undo_17 hU hL h K
  · intro c11
    have h := h.2 c11
    exact kj_X9_undo_17 hU hL h K
theorem kj_X9_undo {L : List (Nat × Nat)} (hU : ∀ q ∈ L, q ∈ njT) (hL : ∀ q ∈ kjL_X9_undo, q ∈ L) {Q : Int32 → HS → Prop} {v0 : Nat} {S : HS} (h : P_X9_undo v0 Q S) : P_X9_undo v0 (fun r T => Q r T ∧ KJ L S T) S := kj_X9_undo_0 hU hL h (kj9_rf L S)
abbrev kjL_X9_walker : List (Nat × Nat) := []
set_option maxRecDepth 20000 in
set_option maxHeartbeats 1000000 in
theorem kj_X9_walker_21 {L : List (Nat × Nat)} (hU : ∀ q ∈ L, q ∈ njT) (hL : ∀ q ∈ kjL_X9_walker, q ∈ L) {Q : Int32 → HS → Prop} {v0 : Nat} {S0 S : HS} (h : P_X9_walker_21 Q v0 S) (K : KJ L S0 S) : P_X9_walker_21 (fun r T => Q r T ∧ KJ L S0 T) v0 S := by
  delta P_X9_walker_21 at h ⊢
  obtain ⟨c1, h⟩ := h
  refine ⟨c1, ?_⟩
  refine cm_X9_refuse (kj_X9_refuse hU (fun q hq => hL q ((by decide : ∀ q ∈ kjL_X9_refuse, q ∈ kjL_X9_walker) q hq)) h) h (fun x2 x3 p5 h g4 => ?_)
  have h := h g4
  have K := kj9_tr K p5.2
  exact ⟨h, K⟩
set_option maxRecDepth 20000 in
set_option maxHeartbeats 1000000 in
theorem kj_X9_walker_0 {L : List (Nat × Nat)} (hU : ∀ q ∈ L, q ∈ njT) (hL : ∀ q ∈ kjL_X9_walker, q ∈ L) {Q : Int32 → HS → Prop} {v0 : Nat} {v1 : Int32} {v2 : Int32} {S0 S : HS} (h : P_X9_walker_0 Q v0 v1 v2 S) (K : KJ L S0 S) : P_X9_walker_0 (fun r T => Q r T ∧ KJ L S0 T) v0 v1 v2 S := by
  delta P_X9_walker_0 at h ⊢
  obtain ⟨c1, h⟩ := h
  refine ⟨c1, ?_⟩
  obtain ⟨b2, e3, h⟩ := h
  refine ⟨b2, e3, ?_⟩
  obtain ⟨c4, h⟩ := h
  refine ⟨c4, ?_⟩
  refine cm_X8_hasWalker (kj_X8_hasWalker hU (fun q hq => hL q ((by decide : ∀ q ∈ kjL_X8_hasWalker, q ∈ kjL_X9_walker) q hq)) h) h (fun x5 x6 p9 h g7 g8 => ?_)
  have h := h g7 g8
  have K := kj9_tr K p9.2
  refine ⟨?_, ?_⟩
  · intro c10
    have h := h.1 c10
    exact kj_X9_walker_21 hU hL h K
  · intro c11
    have h := h.2 c11
    refine ⟨?_, ?_⟩
    · intro c12
      have h := h.1 c12
      exact kj_X9_walker_21 hU hL h K
    · intro c13
      have h := h.2 c13
      refine ⟨?_, ?_⟩
      · intro c14
        have h := h.1 c14
        obtain ⟨b15, e16, h⟩ := h
        refine ⟨b15, e16, ?_⟩
        obtain ⟨c17, h⟩ := h
        refine ⟨c17, ?_⟩
        have o18 := c17
        obtain ⟨b19, e20, h⟩ := h
        refine ⟨b19, e20, ?_⟩
        obtain ⟨c21, h⟩ := h
        refine ⟨c21, ?_⟩
        obtain ⟨c22, h⟩ := h
        refine ⟨c22, ?_⟩
        obtain ⟨b23, e24, h⟩ := h
        refine ⟨b23, e24, ?_⟩
        obtain ⟨c25, h⟩ := h
        refine ⟨c25, ?_⟩
        refine cm_X6_tell (kj_X6_tell hU (fun q hq => hL q ((by decide : ∀ q ∈ kjL_X6_tell, q ∈ kjL_X9_walker) q hq)) h) h (fun x26 x27 p29 h g28 => ?_)
        have h := h g28
        have K := kj9_tr K p29.2
        have o18 := gr_ob p29.2.1 o18
        refine cm_X9_grant (kj_X9_grant hU (fun q hq => hL q ((by decide : ∀ q ∈ kjL_X9_grant, q ∈ kjL_X9_walker) q hq)) h) h (fun x30 x31 p33 h g32 => ?_)
        have h := h g32
        have K := kj9_tr K p33.2
        have o18 := gr_ob p33.2.1 o18
        exact ⟨h, K⟩
      · intro c34
        have h := h.2 c34
        exact kj_X9_walker_21 hU hL h K
theorem kj_X9_walker {L : List (Nat × Nat)} (hU : ∀ q ∈ L, q ∈ njT) (hL : ∀ q ∈ kjL_X9_walker, q ∈ L) {Q : Int32 → HS → Prop} {v0 : Nat} {v1 : Int32} {v2 : Int32} {S : HS} (h : P_X9_walker v0 v1 v2 Q S) : P_X9_walker v0 v1 v2 (fun r T => Q r T ∧ KJ L S T) S := kj_X9_walker_0 hU hL h (kj9_rf L S)
abbrev kjL_X9_wet : List (Nat × Nat) := []
set_option maxRecDepth 20000 in
set_option maxHeartbeats 1000000 in
theorem kj_X9_wet_0 {L : List (Nat × Nat)} (hU : ∀ q ∈ L, q ∈ njT) (hL : ∀ q ∈ kjL_X9_wet, q ∈ L) {Q : Int64 → HS → Prop} {v0 : Nat} {v1 : Int32} {v2 : Int32} {v3 : Int32} {v4 : Int32} {v5 : Int32} {v6 : Int32} {S0 S : HS} (h : P_X9_wet_0 Q v0 v1 v2 v3 v4 v5 v6 S) (K : KJ L S0 S) : P_X9_wet_0 (fun r T => Q r T ∧ KJ L S0 T) v0 v1 v2 v3 v4 v5 v6 S := by
  delta P_X9_wet_0 at h ⊢
  obtain ⟨c1, h⟩ := h
  refine ⟨c1, ?_⟩
  refine cm_X9_legTrouble (kj_X9_legTrouble hU (fun q hq => hL q ((by decide : ∀ q ∈ kjL_X9_legTrouble, q ∈ kjL_X9_wet) q hq)) h) h (fun x2 x3 p5 h g4 => ?_)
  have h := h g4
  have K := kj9_tr K p5.2
  refine cm_X9_refusedBy (kj_X9_refusedBy hU (fun q hq => hL q ((by decide : ∀ q ∈ kjL_X9_refusedBy, q ∈ kjL_X9_wet) q hq)) h) h (fun x6 x7 p10 h g8 g9 => ?_)
  have h := h g8 g9
  have K := kj9_tr K p10.2
  refine ⟨?_, ?_⟩
  · intro c11
    have h := h.1 c11
    obtain ⟨b12, e13, h⟩ := h
    refine ⟨b12, e13, ?_⟩
    obtain ⟨b14, e15, h⟩ := h
    refine ⟨b14, e15, ?_⟩
    obtain ⟨c16, h⟩ := h
    refine ⟨c16, ?_⟩
    have o17 := c16
    obtain ⟨b18, e19, h⟩ := h
    refine ⟨b18, e19, ?_⟩
    obtain ⟨c20, h⟩ := h
    refine ⟨c20, ?_⟩
    obtain ⟨c21, h⟩ := h
    refine ⟨c21, ?_⟩
    obtain ⟨b22, e23, h⟩ := h
    refine ⟨b22, e23, ?_⟩
    obtain ⟨b24, e25, h⟩ := h
    refine ⟨b24, e25, ?_⟩
    obtain ⟨c26, h⟩ := h
    refine ⟨c26, ?_⟩
    have o27 := c26
    obtain ⟨b28, e29, h⟩ := h
    refine ⟨b28, e29, ?_⟩
    obtain ⟨c30, h⟩ := h
    refine ⟨c30, ?_⟩
    obtain ⟨c31, h⟩ := h
    refine ⟨c31, ?_⟩
    obtain ⟨b32, e33, h⟩ := h
    refine ⟨b32, e33, ?_⟩
    obtain ⟨b34, e35, h⟩ := h
    refine ⟨b34, e35, ?_⟩
    obtain ⟨c36, h⟩ := h
    refine ⟨c36, ?_⟩
    have o37 := c36
    obtain ⟨b38, e39, h⟩ := h
    refine ⟨b38, e39, ?_⟩
    obtain ⟨c40, h⟩ := h
    refine ⟨c40, ?_⟩
    obtain ⟨c41, h⟩ := h
    refine ⟨c41, ?_⟩
    obtain ⟨b42, e43, h⟩ := h
    refine ⟨b42, e43, ?_⟩
    obtain ⟨c44, h⟩ := h
    refine ⟨c44, ?_⟩
    refine cm_X1_wetOf (kj_X1_wetOf hU (fun q hq => hL q ((by decide : ∀ q ∈ kjL_X1_wetOf, q ∈ kjL_X9_wet) q hq)) h) h (fun x45 x46 p48 h g47 => ?_)
    have h := h g47
    have K := kj9_tr K p48.2
    have o17 := gr_ob p48.2.1 o17
    have o27 := gr_ob p48.2.1 o27
    have o37 := gr_ob p48.2.1 o37
    refine cm_X9_fraction (kj_X9_fraction hU (fun q hq => hL q ((by decide : ∀ q ∈ kjL_X9_fraction, q ∈ kjL_X9_wet) q hq)) h) h (fun x49 x50 p52 h g51 => ?_)
    have h := h g51
    have K := kj9_tr K p52.2
    have o17 := gr_ob p52.2.1 o17
    have o27 := gr_ob p52.2.1 o27
    have o37 := gr_ob p52.2.1 o37
    exact ⟨h, K⟩
  · intro c53
    have h := h.2 c53
    exact ⟨h, K⟩
theorem kj_X9_wet {L : List (Nat × Nat)} (hU : ∀ q ∈ L, q ∈ njT) (hL : ∀ q ∈ kjL_X9_wet, q ∈ L) {Q : Int64 → HS → Prop} {v0 : Nat} {v1 : Int32} {v2 : Int32} {v3 : Int32} {v4 : Int32} {v5 : Int32} {v6 : Int32} {S : HS} (h : P_X9_wet v0 v1 v2 v3 v4 v5 v6 Q S) : P_X9_wet v0 v1 v2 v3 v4 v5 v6 (fun r T => Q r T ∧ KJ L S T) S := kj_X9_wet_0 hU hL h (kj9_rf L S)
abbrev kjL_X9_wetness : List (Nat × Nat) := []
set_option maxRecDepth 20000 in
set_option maxHeartbeats 1000000 in
theorem kj_X9_wetness_27 {L : List (Nat × Nat)} (hU : ∀ q ∈ L, q ∈ njT) (hL : ∀ q ∈ kjL_X9_wetness, q ∈ L) {Q : Int64 → HS → Prop} {v0 : Nat} {S0 S : HS} (h : P_X9_wetness_27 Q v0 S) (K : KJ L S0 S) : P_X9_wetness_27 (fun r T => Q r T ∧ KJ L S0 T) v0 S := by
  delta P_X9_wetness_27 at h ⊢
  obtain ⟨c1, h⟩ := h
  refine ⟨c1, ?_⟩
  refine cm_X9_refuse (kj_X9_refuse hU (fun q hq => hL q ((by decide : ∀ q ∈ kjL_X9_refuse, q ∈ kjL_X9_wetness) q hq)) h) h (fun x2 x3 p5 h g4 => ?_)
  have h := h g4
  have K := kj9_tr K p5.2
  exact ⟨h, K⟩
set_option maxRecDepth 20000 in
set_option maxHeartbeats 1000000 in
theorem kj_X9_wetness_0 {L : List (Nat × Nat)} (hU : ∀ q ∈ L, q ∈ njT) (hL : ∀ q ∈ kjL_X9_wetness, q ∈ L) {Q : Int64 → HS → Prop} {v0 : Nat} {v1 : Int32} {S0 S : HS} (h : P_X9_wetness_0 Q v0 v1 S) (K : KJ L S0 S) : P_X9_wetness_0 (fun r T => Q r T ∧ KJ L S0 T) v0 v1 S := by
  delta P_X9_wetness_0 at h ⊢
  obtain ⟨c1, h⟩ := h
  refine ⟨c1, ?_⟩
  have n2 := kj9_nk K c1 (by decide)
  obtain ⟨b3, e4, h⟩ := h
  refine ⟨b3, e4, ?_⟩
  obtain ⟨c5, h⟩ := h
  refine ⟨c5, ?_⟩
  refine cm_X0_isOn (kj_X0_isOn hU (fun q hq => hL q ((by decide : ∀ q ∈ kjL_X0_isOn, q ∈ kjL_X9_wetness) q hq)) h) h (fun x6 x7 p10 h g8 g9 => ?_)
  have h := h g8 g9
  have K := kj9_tr K p10.2
  refine ⟨?_, ?_⟩
  · intro c11
    have h := h.1 c11
    exact kj_X9_wetness_27 hU hL h K
  · intro c12
    have h := h.2 c12
    obtain ⟨b13, e14, h⟩ := h
    refine ⟨b13, e14, ?_⟩
    obtain ⟨b15, e16, h⟩ := h
    refine ⟨b15, e16, ?_⟩
    obtain ⟨c17, h⟩ := h
    refine ⟨c17, ?_⟩
    intro x19 e18
    have h := h x19 e18
    obtain ⟨c20, h⟩ := h
    refine ⟨c20, ?_⟩
    refine cm_X8_hasWalker (kj_X8_hasWalker hU (fun q hq => hL q ((by decide : ∀ q ∈ kjL_X8_hasWalker, q ∈ kjL_X9_wetness) q hq)) h) h (fun x21 x22 p25 h g23 g24 => ?_)
    have h := h g23 g24
    have K := kj9_tr K p25.2
    refine ⟨?_, ?_⟩
    · intro c26
      have h := h.1 c26
      intro x28 e27
      have h := h x28 e27
      have K := kj9_I K e27 n2
      obtain ⟨b29, e30, h⟩ := h
      refine ⟨b29, e30, ?_⟩
      obtain ⟨c31, h⟩ := h
      refine ⟨c31, ?_⟩
      obtain ⟨b32, e33, h⟩ := h
      refine ⟨b32, e33, ?_⟩
      obtain ⟨c34, h⟩ := h
      refine ⟨c34, ?_⟩
      refine cm_X2_allGot (kj_X2_allGot hU (fun q hq => hL q ((by decide : ∀ q ∈ kjL_X2_allGot, q ∈ kjL_X9_wetness) q hq)) h) h (fun x35 x36 p38 h g37 => ?_)
      have h := h g37
      have K := kj9_tr K p38.2
      obtain ⟨b39, e40, h⟩ := h
      refine ⟨b39, e40, ?_⟩
      obtain ⟨c41, h⟩ := h
      refine ⟨c41, ?_⟩
      have o42 := c41
      obtain ⟨b43, e44, h⟩ := h
      refine ⟨b43, e44, ?_⟩
      obtain ⟨b45, e46, h⟩ := h
      refine ⟨b45, e46, ?_⟩
      obtain ⟨c47, h⟩ := h
      refine ⟨c47, ?_⟩
      intro x49 e48
      have h := h x49 e48
      obtain ⟨c50, h⟩ := h
      refine ⟨c50, ?_⟩
      obtain ⟨c51, h⟩ := h
      refine ⟨c51, ?_⟩
      obtain ⟨b52, e53, h⟩ := h
      refine ⟨b52, e53, ?_⟩
      refine cm_X9_coatParts (kj_X9_coatParts hU (fun q hq => hL q ((by decide : ∀ q ∈ kjL_X9_coatParts, q ∈ kjL_X9_wetness) q hq)) h) h (fun x54 x55 p57 h g56 => ?_)
      have h := h g56
      have K := kj9_tr K p57.2
      have o42 := gr_ob p57.2.1 o42
      intro x59 e58
      have h := h x59 e58
      intro x61 e60
      have h := h x61 e60
      refine cm_X9_fraction (kj_X9_fraction hU (fun q hq => hL q ((by decide : ∀ q ∈ kjL_X9_fraction, q ∈ kjL_X9_wetness) q hq)) h) h (fun x62 x63 p65 h g64 => ?_)
      have h := h g64
      have K := kj9_tr K p65.2
      have o42 := gr_ob p65.2.1 o42
      exact ⟨h, K⟩
    · intro c66
      have h := h.2 c66
      exact kj_X9_wetness_27 hU hL h K
theorem kj_X9_wetness {L : List (Nat × Nat)} (hU : ∀ q ∈ L, q ∈ njT) (hL : ∀ q ∈ kjL_X9_wetness, q ∈ L) {Q : Int64 → HS → Prop} {v0 : Nat} {v1 : Int32} {S : HS} (h : P_X9_wetness v0 v1 Q S) : P_X9_wetness v0 v1 (fun r T => Q r T ∧ KJ L S T) S := kj_X9_wetness_0 hU hL h (kj9_rf L S)
abbrev kjL_X9_world : List (Nat × Nat) := [(4, 12), (8, 7), (8, 10), (8, 11)]
set_option maxRecDepth 20000 in
set_option maxHeartbeats 1000000 in
theorem kj_X9_world_12 {L : List (Nat × Nat)} (hU : ∀ q ∈ L, q ∈ njT) (hL : ∀ q ∈ kjL_X9_world, q ∈ L) {Q : Int32 → HS → Prop} {v0 : Nat} {S0 S : HS} (h : P_X9_world_12 Q v0 S) (K : KJ L S0 S) : P_X9_world_12 (fun r T => Q r T ∧ KJ L S0 T) v0 S := by
  delta P_X9_world_12 at h ⊢
  obtain ⟨c1, h⟩ := h
  refine ⟨c1, ?_⟩
  refine cm_X9_refuse (kj_X9_refuse hU (fun q hq => hL q ((by decide : ∀ q ∈ kjL_X9_refuse, q ∈ kjL_X9_world) q hq)) h) h (fun x2 x3 p5 h g4 => ?_)
  have h := h g4
  have K := kj9_tr K p5.2
  exact ⟨h, K⟩
set_option maxRecDepth 20000 in
set_option maxHeartbeats 1000000 in
theorem kj_X9_world_0 {L : List (Nat × Nat)} (hU : ∀ q ∈ L, q ∈ njT) (hL : ∀ q ∈ kjL_X9_world, q ∈ L) {Q : Int32 → HS → Prop} {v0 : Nat} {v1 : Int32} {S0 S : HS} (h : P_X9_world_0 Q v0 v1 S) (K : KJ L S0 S) : P_X9_world_0 (fun r T => Q r T ∧ KJ L S0 T) v0 v1 S := by
  delta P_X9_world_0 at h ⊢
  refine ⟨?_, ?_⟩
  · intro c1
    have h := h.1 c1
    exact kj_X9_world_12 hU hL h K
  · intro c2
    have h := h.2 c2
    obtain ⟨c3, h⟩ := h
    refine ⟨c3, ?_⟩
    have n4 := kj9_nk K c3 (by decide)
    have o5 := c3
    intro x7 e6
    have h := h x7 e6
    refine ⟨?_, ?_⟩
    · intro c8
      have h := h.1 c8
      obtain ⟨b9, e10, h⟩ := h
      refine ⟨b9, e10, ?_⟩
      obtain ⟨b11, e12, h⟩ := h
      refine ⟨b11, e12, ?_⟩
      obtain ⟨c13, h⟩ := h
      refine ⟨c13, ?_⟩
      refine cm_X4_read (kj_X4_read hU (fun q hq => hL q ((by decide : ∀ q ∈ kjL_X4_read, q ∈ kjL_X9_world) q hq)) h) h (fun x14 x15 p18 h g16 g17 => ?_)
      have h := h g16 g17
      have K := kj9_tr K p18.2
      have o5 := gr_ob p18.2.1 o5
      intro x20 e19
      have h := h x20 e19
      have K := kj9_I K e19 n4
      have o5 := ob_wI o5 e19
      obtain ⟨b21, e22, h⟩ := h
      refine ⟨b21, e22, ?_⟩
      obtain ⟨c23, h⟩ := h
      refine ⟨c23, ?_⟩
      intro x25 e24
      have h := h x25 e24
      intro x27 e26
      have h := h x27 e26
      have K := kj9_I K e26 n4
      have o5 := ob_wI o5 e26
      obtain ⟨b28, e29, h⟩ := h
      refine ⟨b28, e29, ?_⟩
      obtain ⟨c30, h⟩ := h
      refine ⟨c30, ?_⟩
      intro x32 e31
      have h := h x32 e31
      intro x34 e33
      have h := h x34 e33
      have K := kj9_I K e33 n4
      have o5 := ob_wI o5 e33
      refine ⟨?_, ?_⟩
      · intro c35
        have h := h.1 c35
        obtain ⟨b36, e37, h⟩ := h
        refine ⟨b36, e37, ?_⟩
        obtain ⟨b38, e39, h⟩ := h
        refine ⟨b38, e39, ?_⟩
        obtain ⟨c40, h⟩ := h
        refine ⟨c40, ?_⟩
        refine cm_X4_exchange (kj_X4_exchange hU (fun q hq => hL q ((by decide : ∀ q ∈ kjL_X4_exchange, q ∈ kjL_X9_world) q hq)) h) h (fun x41 x42 p44 h g43 => ?_)
        have h := h g43
        have K := kj9_tr K p44.2
        have o5 := gr_ob p44.2.1 o5
        intro x46 e45
        have h := h x46 e45
        have K := kj9_R K hU e45 o5 (by decide)
        have o5 := ob_wR o5 e45
        obtain ⟨b47, e48, h⟩ := h
        refine ⟨b47, e48, ?_⟩
        obtain ⟨c49, h⟩ := h
        refine ⟨c49, ?_⟩
        refine cm_X7_forget (kj_X7_forget hU (fun q hq => hL q ((by decide : ∀ q ∈ kjL_X7_forget, q ∈ kjL_X9_world) q hq)) h) h (fun x50 p52 h g51 => ?_)
        have h := h g51
        have K := kj9_tr K p52.2
        have o5 := gr_ob p52.2.1 o5
        obtain ⟨b53, e54, h⟩ := h
        refine ⟨b53, e54, ?_⟩
        obtain ⟨c55, h⟩ := h
        refine ⟨c55, ?_⟩
        refine cm_X0_end (kj_X0_end hU (fun q hq => hL q ((by decide : ∀ q ∈ kjL_X0_end, q ∈ kjL_X9_world) q hq)) h) h (fun x56 p58 h g57 => ?_)
        have h := h g57
        have K := kj9_tr K p58.2
        have o5 := gr_ob p58.2.1 o5
        obtain ⟨b59, e60, h⟩ := h
        refine ⟨b59, e60, ?_⟩
        obtain ⟨c61, h⟩ := h
        refine ⟨c61, ?_⟩
        intro x63 e62
        have h := h x63 e62
        refine cm_X9_grant (kj_X9_grant hU (fun q hq => hL q ((by decide : ∀ q ∈ kjL_X9_grant, q ∈ kjL_X9_world) q hq)) h) h (fun x64 x65 p67 h g66 => ?_)
        have h := h g66
        have K := kj9_tr K p67.2
        have o5 := gr_ob p67.2.1 o5
        exact ⟨h, K⟩
      · intro c68
        have h := h.2 c68
        refine cm_X9_refuse (kj_X9_refuse hU (fun q hq => hL q ((by decide : ∀ q ∈ kjL_X9_refuse, q ∈ kjL_X9_world) q hq)) h) h (fun x69 x70 p72 h g71 => ?_)
        have h := h g71
        have K := kj9_tr K p72.2
        have o5 := gr_ob p72.2.1 o5
        exact ⟨h, K⟩
    · intro c73
      have h := h.2 c73
      exact kj_X9_world_12 hU hL h K
theorem kj_X9_world {L : List (Nat × Nat)} (hU : ∀ q ∈ L, q ∈ njT) (hL : ∀ q ∈ kjL_X9_world, q ∈ L) {Q : Int32 → HS → Prop} {v0 : Nat} {v1 : Int32} {S : HS} (h : P_X9_world v0 v1 Q S) : P_X9_world v0 v1 (fun r T => Q r T ∧ KJ L S T) S := kj_X9_world_0 hU hL h (kj9_rf L S)
end
section
abbrev kjL_X9_worst : List (Nat × Nat) := []
set_option maxRecDepth 20000 in
set_option maxHeartbeats 1000000 in
theorem kj_X9_worst_0 {L : List (Nat × Nat)} (hU : ∀ q ∈ L, q ∈ njT) (hL : ∀ q ∈ kjL_X9_worst, q ∈ L) {Q : Int32 → HS → Prop} {v0 : Nat} {v1 : Int32} {v2 : Int32} {v3 : Int32} {v4 : Int32} {S0 S : HS} (h : P_X9_worst_0 Q v0 v1 v2 v3 v4 S) (K : KJ L S0 S) : P_X9_worst_0 (fun r T => Q r T ∧ KJ L S0 T) v0 v1 v2 v3 v4 S := by
  delta P_X9_worst_0 at h ⊢
  obtain ⟨c1, h⟩ := h
  refine ⟨c1, ?_⟩
  refine cm_X9_tripTrouble (kj_X9_tripTrouble hU (fun q hq => hL q ((by decide : ∀ q ∈ kjL_X9_tripTrouble, q ∈ kjL_X9_worst) q hq)) h) h (fun x2 x3 p5 h g4 => ?_)
  have h := h g4
  have K := kj9_tr K p5.2
  refine cm_X9_refusedBy (kj_X9_refusedBy hU (fun q hq => hL q ((by decide : ∀ q ∈ kjL_X9_refusedBy, q ∈ kjL_X9_worst) q hq)) h) h (fun x6 x7 p10 h g8 g9 => ?_)
  have h := h g8 g9
  have K := kj9_tr K p10.2
  refine ⟨?_, ?_⟩
  · intro c11
    have h := h.1 c11
    obtain ⟨b12, e13, h⟩ := h
    refine ⟨b12, e13, ?_⟩
    obtain ⟨b14, e15, h⟩ := h
    refine ⟨b14, e15, ?_⟩
    obtain ⟨c16, h⟩ := h
    refine ⟨c16, ?_⟩
    have o17 := c16
    obtain ⟨b18, e19, h⟩ := h
    refine ⟨b18, e19, ?_⟩
    obtain ⟨c20, h⟩ := h
    refine ⟨c20, ?_⟩
    obtain ⟨c21, h⟩ := h
    refine ⟨c21, ?_⟩
    obtain ⟨b22, e23, h⟩ := h
    refine ⟨b22, e23, ?_⟩
    obtain ⟨b24, e25, h⟩ := h
    refine ⟨b24, e25, ?_⟩
    obtain ⟨c26, h⟩ := h
    refine ⟨c26, ?_⟩
    have o27 := c26
    obtain ⟨b28, e29, h⟩ := h
    refine ⟨b28, e29, ?_⟩
    obtain ⟨c30, h⟩ := h
    refine ⟨c30, ?_⟩
    obtain ⟨c31, h⟩ := h
    refine ⟨c31, ?_⟩
    obtain ⟨b32, e33, h⟩ := h
    refine ⟨b32, e33, ?_⟩
    obtain ⟨b34, e35, h⟩ := h
    refine ⟨b34, e35, ?_⟩
    obtain ⟨c36, h⟩ := h
    refine ⟨c36, ?_⟩
    have o37 := c36
    obtain ⟨b38, e39, h⟩ := h
    refine ⟨b38, e39, ?_⟩
    obtain ⟨c40, h⟩ := h
    refine ⟨c40, ?_⟩
    obtain ⟨c41, h⟩ := h
    refine ⟨c41, ?_⟩
    obtain ⟨b42, e43, h⟩ := h
    refine ⟨b42, e43, ?_⟩
    obtain ⟨c44, h⟩ := h
    refine ⟨c44, ?_⟩
    refine cm_X1_worstSpeed (kj_X1_worstSpeed hU (fun q hq => hL q ((by decide : ∀ q ∈ kjL_X1_worstSpeed, q ∈ kjL_X9_worst) q hq)) h) h (fun x45 x46 p48 h g47 => ?_)
    have h := h g47
    have K := kj9_tr K p48.2
    have o17 := gr_ob p48.2.1 o17
    have o27 := gr_ob p48.2.1 o27
    have o37 := gr_ob p48.2.1 o37
    exact ⟨h, K⟩
  · intro c49
    have h := h.2 c49
    exact ⟨h, K⟩
theorem kj_X9_worst {L : List (Nat × Nat)} (hU : ∀ q ∈ L, q ∈ njT) (hL : ∀ q ∈ kjL_X9_worst, q ∈ L) {Q : Int32 → HS → Prop} {v0 : Nat} {v1 : Int32} {v2 : Int32} {v3 : Int32} {v4 : Int32} {S : HS} (h : P_X9_worst v0 v1 v2 v3 v4 Q S) : P_X9_worst v0 v1 v2 v3 v4 (fun r T => Q r T ∧ KJ L S T) S := kj_X9_worst_0 hU hL h (kj9_rf L S)
end
