set_option maxRecDepth 20000 in
set_option maxHeartbeats 1000000 in
theorem kf_X9_fit_15 {Q : Int32 → HS → Prop} {v0 : Nat} {S0 S : HS} (h : P_X9_fit_15 Q v0 S) (K : K2 S0 S) : P_X9_fit_15 (fun r T => Q r T ∧ K2 S0 T) v0 S := by
  delta P_X9_fit_15 at h ⊢
  obtain ⟨c1, h⟩ := h
  refine ⟨c1, ?_⟩
  have n2 := k2_ne K c1 (by decide)
  refine cm_X9_refuse (kf_X9_refuse h) h (fun x3 x4 hp h g5 => ?_)
  have h := h g5
  have K := k2_tr K hp.2
  exact ⟨h, K⟩
set_option maxRecDepth 20000 in
set_option maxHeartbeats 1000000 in
theorem kf_X9_fit_0 {Q : Int32 → HS → Prop} {v0 : Nat} {v1 : Int32} {v2 : Int32} {S0 S : HS} (h : P_X9_fit_0 Q v0 v1 v2 S) (K : K2 S0 S) : P_X9_fit_0 (fun r T => Q r T ∧ K2 S0 T) v0 v1 v2 S := by
  delta P_X9_fit_0 at h ⊢
  obtain ⟨c1, h⟩ := h
  refine ⟨c1, ?_⟩
  have n2 := k2_ne K c1 (by decide)
  obtain ⟨b3, e4, h⟩ := h
  refine ⟨b3, e4, ?_⟩
  obtain ⟨c5, h⟩ := h
  refine ⟨c5, ?_⟩
  have n6 := k2_ne K c5 (by decide)
  refine cm_X8_hasSeen (kf_X8_hasSeen h) h (fun x7 x8 hp h g9 g10 => ?_)
  have h := h g9 g10
  have K := k2_tr K hp.2
  refine ⟨?_, ?_⟩
  · intro c11
    have h := h.1 c11
    exact kf_X9_fit_15 h K
  · intro c12
    have h := h.2 c12
    refine ⟨?_, ?_⟩
    · intro c13
      have h := h.1 c13
      obtain ⟨b14, e15, h⟩ := h
      refine ⟨b14, e15, ?_⟩
      obtain ⟨b16, e17, h⟩ := h
      refine ⟨b16, e17, ?_⟩
      obtain ⟨c18, h⟩ := h
      refine ⟨c18, ?_⟩
      have n19 := k2_ne K c18 (by decide)
      refine cm_X1_findFit (kf_X1_findFit h) h (fun x20 x21 hp h g22 => ?_)
      have h := h g22
      have K := k2_tr K hp.2
      refine ⟨?_, ?_⟩
      · intro c23
        have h := h.1 c23
        refine cm_X9_grant (kf_X9_grant h) h (fun x24 x25 hp h g26 => ?_)
        have h := h g26
        have K := k2_tr K hp.2
        exact ⟨h, K⟩
      · intro c27
        have h := h.2 c27
        refine cm_X9_refuse (kf_X9_refuse h) h (fun x28 x29 hp h g30 => ?_)
        have h := h g30
        have K := k2_tr K hp.2
        exact ⟨h, K⟩
    · intro c31
      have h := h.2 c31
      exact kf_X9_fit_15 h K
theorem kf_X9_fit {Q : Int32 → HS → Prop} {v0 : Nat} {v1 : Int32} {v2 : Int32} {S : HS} (h : P_X9_fit v0 v1 v2 Q S) : P_X9_fit v0 v1 v2 (fun r T => Q r T ∧ K2 S T) S := kf_X9_fit_0 h (k2_rf S)
set_option maxRecDepth 20000 in
set_option maxHeartbeats 1000000 in
theorem kf_X9_fits_0 {Q : Int32 → HS → Prop} {v0 : Nat} {v1 : Int32} {S0 S : HS} (h : P_X9_fits_0 Q v0 v1 S) (K : K2 S0 S) : P_X9_fits_0 (fun r T => Q r T ∧ K2 S0 T) v0 v1 S := by
  delta P_X9_fits_0 at h ⊢
  obtain ⟨c1, h⟩ := h
  refine ⟨c1, ?_⟩
  have n2 := k2_ne K c1 (by decide)
  obtain ⟨b3, e4, h⟩ := h
  refine ⟨b3, e4, ?_⟩
  obtain ⟨c5, h⟩ := h
  refine ⟨c5, ?_⟩
  have n6 := k2_ne K c5 (by decide)
  refine cm_X8_hasSeen (kf_X8_hasSeen h) h (fun x7 x8 hp h g9 g10 => ?_)
  have h := h g9 g10
  have K := k2_tr K hp.2
  refine ⟨?_, ?_⟩
  · intro c11
    have h := h.1 c11
    obtain ⟨b12, e13, h⟩ := h
    refine ⟨b12, e13, ?_⟩
    obtain ⟨b14, e15, h⟩ := h
    refine ⟨b14, e15, ?_⟩
    obtain ⟨c16, h⟩ := h
    refine ⟨c16, ?_⟩
    have n17 := k2_ne K c16 (by decide)
    refine cm_X1_countFits (kf_X1_countFits h) h (fun x18 x19 hp h g20 => ?_)
    have h := h g20
    have K := k2_tr K hp.2
    refine cm_X9_grant (kf_X9_grant h) h (fun x21 x22 hp h g23 => ?_)
    have h := h g23
    have K := k2_tr K hp.2
    exact ⟨h, K⟩
  · intro c24
    have h := h.2 c24
    refine cm_X9_refuse (kf_X9_refuse h) h (fun x25 x26 hp h g27 => ?_)
    have h := h g27
    have K := k2_tr K hp.2
    exact ⟨h, K⟩
theorem kf_X9_fits {Q : Int32 → HS → Prop} {v0 : Nat} {v1 : Int32} {S : HS} (h : P_X9_fits v0 v1 Q S) : P_X9_fits v0 v1 (fun r T => Q r T ∧ K2 S T) S := kf_X9_fits_0 h (k2_rf S)
set_option maxRecDepth 20000 in
set_option maxHeartbeats 1000000 in
theorem kf_X9_go_45 {Q : Int32 → HS → Prop} {v0 : Nat} {S0 S : HS} (h : P_X9_go_45 Q v0 S) (K : K2 S0 S) : P_X9_go_45 (fun r T => Q r T ∧ K2 S0 T) v0 S := by
  delta P_X9_go_45 at h ⊢
  obtain ⟨c1, h⟩ := h
  refine ⟨c1, ?_⟩
  have n2 := k2_ne K c1 (by decide)
  refine cm_X9_refuse (kf_X9_refuse h) h (fun x3 x4 hp h g5 => ?_)
  have h := h g5
  have K := k2_tr K hp.2
  exact ⟨h, K⟩
set_option maxRecDepth 20000 in
set_option maxHeartbeats 1000000 in
theorem kf_X9_go_243 {Q : Int32 → HS → Prop} {v0 : Nat} {v2 : Int32} {v5 : Nat} {v6 : Int32} {S0 S : HS} (h : P_X9_go_243 Q v0 v2 v5 v6 S) (K : K2 S0 S) : P_X9_go_243 (fun r T => Q r T ∧ K2 S0 T) v0 v2 v5 v6 S := by
  delta P_X9_go_243 at h ⊢
  obtain ⟨c1, h⟩ := h
  refine ⟨c1, ?_⟩
  have n2 := k2_ne K c1 (by decide)
  obtain ⟨b3, e4, h⟩ := h
  refine ⟨b3, e4, ?_⟩
  obtain ⟨c5, h⟩ := h
  refine ⟨c5, ?_⟩
  have n6 := k2_ne K c5 (by decide)
  obtain ⟨b7, e8, h⟩ := h
  refine ⟨b7, e8, ?_⟩
  obtain ⟨c9, h⟩ := h
  refine ⟨c9, ?_⟩
  have n10 := k2_ne K c9 (by decide)
  refine cm_X5_endOf (kf_X5_endOf h) h (fun x11 x12 hp h g13 => ?_)
  have h := h g13
  have K := k2_tr K hp.2
  obtain ⟨c14, h⟩ := h
  refine ⟨c14, ?_⟩
  have n15 := k2_ne K c14 (by decide)
  intro x17 e16
  have h := h x17 e16
  have K := k2_I K e16 n15
  obtain ⟨b18, e19, h⟩ := h
  refine ⟨b18, e19, ?_⟩
  obtain ⟨c20, h⟩ := h
  refine ⟨c20, ?_⟩
  have n21 := k2_ne K c20 (by decide)
  obtain ⟨b22, e23, h⟩ := h
  refine ⟨b22, e23, ?_⟩
  obtain ⟨c24, h⟩ := h
  refine ⟨c24, ?_⟩
  have n25 := k2_ne K c24 (by decide)
  intro x27 e26
  have h := h x27 e26
  have K := k2_I K e26 n25
  refine cm_X9_grant (kf_X9_grant h) h (fun x28 x29 hp h g30 => ?_)
  have h := h g30
  have K := k2_tr K hp.2
  exact ⟨h, K⟩
set_option maxRecDepth 20000 in
set_option maxHeartbeats 1000000 in
theorem kf_X9_go_0 {Q : Int32 → HS → Prop} {v0 : Nat} {v1 : Int32} {v2 : Int32} {v3 : Int32} {S0 S : HS} (h : P_X9_go_0 Q v0 v1 v2 v3 S) (K : K2 S0 S) : P_X9_go_0 (fun r T => Q r T ∧ K2 S0 T) v0 v1 v2 v3 S := by
  delta P_X9_go_0 at h ⊢
  obtain ⟨c1, h⟩ := h
  refine ⟨c1, ?_⟩
  have n2 := k2_ne K c1 (by decide)
  obtain ⟨b3, e4, h⟩ := h
  refine ⟨b3, e4, ?_⟩
  obtain ⟨c5, h⟩ := h
  refine ⟨c5, ?_⟩
  have n6 := k2_ne K c5 (by decide)
  refine cm_X0_isOn (kf_X0_isOn h) h (fun x7 x8 hp h g9 g10 => ?_)
  have h := h g9 g10
  have K := k2_tr K hp.2
  refine ⟨?_, ?_⟩
  · intro c11
    have h := h.1 c11
    exact kf_X9_go_45 h K
  · intro c12
    have h := h.2 c12
    obtain ⟨b13, e14, h⟩ := h
    refine ⟨b13, e14, ?_⟩
    obtain ⟨b15, e16, h⟩ := h
    refine ⟨b15, e16, ?_⟩
    obtain ⟨c17, h⟩ := h
    refine ⟨c17, ?_⟩
    have n18 := k2_ne K c17 (by decide)
    intro x20 e19
    have h := h x20 e19
    obtain ⟨c21, h⟩ := h
    refine ⟨c21, ?_⟩
    have n22 := k2_ne K c21 (by decide)
    refine cm_X8_hasWalker (kf_X8_hasWalker h) h (fun x23 x24 hp h g25 g26 => ?_)
    have h := h g25 g26
    have K := k2_tr K hp.2
    refine ⟨?_, ?_⟩
    · intro c27
      have h := h.1 c27
      exact kf_X9_go_45 h K
    · intro c28
      have h := h.2 c28
      obtain ⟨b29, e30, h⟩ := h
      refine ⟨b29, e30, ?_⟩
      obtain ⟨c31, h⟩ := h
      refine ⟨c31, ?_⟩
      have n32 := k2_ne K c31 (by decide)
      refine cm_X8_hasRoad (kf_X8_hasRoad h) h (fun x33 x34 hp h g35 g36 => ?_)
      have h := h g35 g36
      have K := k2_tr K hp.2
      refine ⟨?_, ?_⟩
      · intro c37
        have h := h.1 c37
        exact kf_X9_go_45 h K
      · intro c38
        have h := h.2 c38
        refine cm_X9_isWay (kf_X9_isWay h) h (fun x39 x40 hp h g41 g42 => ?_)
        have h := h g41 g42
        have K := k2_tr K hp.2
        refine ⟨?_, ?_⟩
        · intro c43
          have h := h.1 c43
          obtain ⟨b44, e45, h⟩ := h
          refine ⟨b44, e45, ?_⟩
          obtain ⟨c46, h⟩ := h
          refine ⟨c46, ?_⟩
          have n47 := k2_ne K c46 (by decide)
          obtain ⟨b48, e49, h⟩ := h
          refine ⟨b48, e49, ?_⟩
          obtain ⟨b50, e51, h⟩ := h
          refine ⟨b50, e51, ?_⟩
          obtain ⟨c52, h⟩ := h
          refine ⟨c52, ?_⟩
          have n53 := k2_ne K c52 (by decide)
          intro x55 e54
          have h := h x55 e54
          obtain ⟨c56, h⟩ := h
          refine ⟨c56, ?_⟩
          have n57 := k2_ne K c56 (by decide)
          obtain ⟨c58, h⟩ := h
          refine ⟨c58, ?_⟩
          obtain ⟨b59, e60, h⟩ := h
          refine ⟨b59, e60, ?_⟩
          obtain ⟨b61, e62, h⟩ := h
          refine ⟨b61, e62, ?_⟩
          obtain ⟨c63, h⟩ := h
          refine ⟨c63, ?_⟩
          have n64 := k2_ne K c63 (by decide)
          obtain ⟨b65, e66, h⟩ := h
          refine ⟨b65, e66, ?_⟩
          obtain ⟨c67, h⟩ := h
          refine ⟨c67, ?_⟩
          have n68 := k2_ne K c67 (by decide)
          obtain ⟨c69, h⟩ := h
          refine ⟨c69, ?_⟩
          obtain ⟨b70, e71, h⟩ := h
          refine ⟨b70, e71, ?_⟩
          obtain ⟨c72, h⟩ := h
          refine ⟨c72, ?_⟩
          have n73 := k2_ne K c72 (by decide)
          refine cm_X6_canGo (kf_X6_canGo h) h (fun x74 x75 hp h g76 g77 => ?_)
          have h := h g76 g77
          have K := k2_tr K hp.2
          refine ⟨?_, ?_⟩
          · intro c78
            have h := h.1 c78
            obtain ⟨c79, h⟩ := h
            refine ⟨c79, ?_⟩
            have n80 := k2_ne K c79 (by decide)
            refine cm_X5_startOf (kf_X5_startOf h) h (fun x81 x82 hp h g83 => ?_)
            have h := h g83
            have K := k2_tr K hp.2
            obtain ⟨b84, e85, h⟩ := h
            refine ⟨b84, e85, ?_⟩
            obtain ⟨c86, h⟩ := h
            refine ⟨c86, ?_⟩
            have n87 := k2_ne K c86 (by decide)
            obtain ⟨b88, e89, h⟩ := h
            refine ⟨b88, e89, ?_⟩
            obtain ⟨c90, h⟩ := h
            refine ⟨c90, ?_⟩
            have n91 := k2_ne K c90 (by decide)
            intro x93 e92
            have h := h x93 e92
            refine ⟨?_, ?_⟩
            · intro c94
              have h := h.1 c94
              obtain ⟨b95, e96, h⟩ := h
              refine ⟨b95, e96, ?_⟩
              obtain ⟨c97, h⟩ := h
              refine ⟨c97, ?_⟩
              have n98 := k2_ne K c97 (by decide)
              obtain ⟨b99, e100, h⟩ := h
              refine ⟨b99, e100, ?_⟩
              obtain ⟨c101, h⟩ := h
              refine ⟨c101, ?_⟩
              have n102 := k2_ne K c101 (by decide)
              intro x104 e103
              have h := h x104 e103
              refine cm_X5_minutesAt (kf_X5_minutesAt h) h (fun x105 x106 hp h g107 => ?_)
              have h := h g107
              have K := k2_tr K hp.2
              intro x109 e108
              have h := h x109 e108
              refine ⟨?_, ?_⟩
              · intro c110
                have h := h.1 c110
                obtain ⟨b111, e112, h⟩ := h
                refine ⟨b111, e112, ?_⟩
                obtain ⟨c113, h⟩ := h
                refine ⟨c113, ?_⟩
                have n114 := k2_ne K c113 (by decide)
                refine cm_X0_keepForUndo (kf_X0_keepForUndo h) h (fun x115 hp h g116 => ?_)
                have h := h g116
                have K := k2_tr K hp.2
                obtain ⟨b117, e118, h⟩ := h
                refine ⟨b117, e118, ?_⟩
                obtain ⟨b119, e120, h⟩ := h
                refine ⟨b119, e120, ?_⟩
                obtain ⟨c121, h⟩ := h
                refine ⟨c121, ?_⟩
                have n122 := k2_ne K c121 (by decide)
                obtain ⟨b123, e124, h⟩ := h
                refine ⟨b123, e124, ?_⟩
                obtain ⟨c125, h⟩ := h
                refine ⟨c125, ?_⟩
                have n126 := k2_ne K c125 (by decide)
                intro x128 e127
                have h := h x128 e127
                obtain ⟨c129, h⟩ := h
                refine ⟨c129, ?_⟩
                have n130 := k2_ne K c129 (by decide)
                refine cm_X8_hourOf (kf_X8_hourOf h) h (fun x131 x132 hp h g133 => ?_)
                have h := h g133
                have K := k2_tr K hp.2
                obtain ⟨b134, e135, h⟩ := h
                refine ⟨b134, e135, ?_⟩
                obtain ⟨c136, h⟩ := h
                refine ⟨c136, ?_⟩
                have n137 := k2_ne K c136 (by decide)
                refine cm_X8_hasHour (kf_X8_hasHour h) h (fun x138 x139 hp h g140 g141 => ?_)
                have h := h g140 g141
                have K := k2_tr K hp.2
                refine ⟨?_, ?_⟩
                · intro c142
                  have h := h.1 c142
                  exact kf_X9_go_243 h K
                · intro c143
                  have h := h.2 c143
                  obtain ⟨b144, e145, h⟩ := h
                  refine ⟨b144, e145, ?_⟩
                  obtain ⟨c146, h⟩ := h
                  refine ⟨c146, ?_⟩
                  have n147 := k2_ne K c146 (by decide)
                  refine cm_X0_rainsIn (kf_X0_rainsIn h) h (fun x148 x149 hp h g150 g151 => ?_)
                  have h := h g150 g151
                  have K := k2_tr K hp.2
                  refine ⟨?_, ?_⟩
                  · intro c152
                    have h := h.1 c152
                    exact kf_X9_go_243 h K
                  · intro c153
                    have h := h.2 c153
                    obtain ⟨b154, e155, h⟩ := h
                    refine ⟨b154, e155, ?_⟩
                    obtain ⟨b156, e157, h⟩ := h
                    refine ⟨b156, e157, ?_⟩
                    obtain ⟨c158, h⟩ := h
                    refine ⟨c158, ?_⟩
                    have n159 := k2_ne K c158 (by decide)
                    obtain ⟨b160, e161, h⟩ := h
                    refine ⟨b160, e161, ?_⟩
                    obtain ⟨c162, h⟩ := h
                    refine ⟨c162, ?_⟩
                    have n163 := k2_ne K c162 (by decide)
                    obtain ⟨c164, h⟩ := h
                    refine ⟨c164, ?_⟩
                    obtain ⟨b165, e166, h⟩ := h
                    refine ⟨b165, e166, ?_⟩
                    obtain ⟨c167, h⟩ := h
                    refine ⟨c167, ?_⟩
                    have n168 := k2_ne K c167 (by decide)
                    refine cm_X1_wetOf (kf_X1_wetOf h) h (fun x169 x170 hp h g171 => ?_)
                    have h := h g171
                    have K := k2_tr K hp.2
                    obtain ⟨b172, e173, h⟩ := h
                    refine ⟨b172, e173, ?_⟩
                    obtain ⟨c174, h⟩ := h
                    refine ⟨c174, ?_⟩
                    have n175 := k2_ne K c174 (by decide)
                    obtain ⟨b176, e177, h⟩ := h
                    refine ⟨b176, e177, ?_⟩
                    obtain ⟨b178, e179, h⟩ := h
                    refine ⟨b178, e179, ?_⟩
                    obtain ⟨c180, h⟩ := h
                    refine ⟨c180, ?_⟩
                    have n181 := k2_ne K c180 (by decide)
                    obtain ⟨b182, e183, h⟩ := h
                    refine ⟨b182, e183, ?_⟩
                    obtain ⟨c184, h⟩ := h
                    refine ⟨c184, ?_⟩
                    have n185 := k2_ne K c184 (by decide)
                    refine cm_X2_addFaces (kf_X2_addFaces h) h (fun x186 hp h g187 => ?_)
                    have h := h g187
                    have K := k2_tr K hp.2
                    exact kf_X9_go_243 h K
              · intro c188
                have h := h.2 c188
                refine cm_X9_refuse (kf_X9_refuse h) h (fun x189 x190 hp h g191 => ?_)
                have h := h g191
                have K := k2_tr K hp.2
                exact ⟨h, K⟩
            · intro c192
              have h := h.2 c192
              refine cm_X9_refuse (kf_X9_refuse h) h (fun x193 x194 hp h g195 => ?_)
              have h := h g195
              have K := k2_tr K hp.2
              exact ⟨h, K⟩
          · intro c196
            have h := h.2 c196
            refine cm_X9_refuse (kf_X9_refuse h) h (fun x197 x198 hp h g199 => ?_)
            have h := h g199
            have K := k2_tr K hp.2
            exact ⟨h, K⟩
        · intro c200
          have h := h.2 c200
          exact kf_X9_go_45 h K
theorem kf_X9_go {Q : Int32 → HS → Prop} {v0 : Nat} {v1 : Int32} {v2 : Int32} {v3 : Int32} {S : HS} (h : P_X9_go v0 v1 v2 v3 Q S) : P_X9_go v0 v1 v2 v3 (fun r T => Q r T ∧ K2 S T) S := kf_X9_go_0 h (k2_rf S)
set_option maxRecDepth 20000 in
set_option maxHeartbeats 1000000 in
theorem kf_X9_got_17 {Q : Int64 → HS → Prop} {v0 : Nat} {S0 S : HS} (h : P_X9_got_17 Q v0 S) (K : K2 S0 S) : P_X9_got_17 (fun r T => Q r T ∧ K2 S0 T) v0 S := by
  delta P_X9_got_17 at h ⊢
  obtain ⟨c1, h⟩ := h
  refine ⟨c1, ?_⟩
  have n2 := k2_ne K c1 (by decide)
  refine cm_X9_refuse (kf_X9_refuse h) h (fun x3 x4 hp h g5 => ?_)
  have h := h g5
  have K := k2_tr K hp.2
  exact ⟨h, K⟩
set_option maxRecDepth 20000 in
set_option maxHeartbeats 1000000 in
theorem kf_X9_got_0 {Q : Int64 → HS → Prop} {v0 : Nat} {v1 : Int32} {v2 : Int32} {S0 S : HS} (h : P_X9_got_0 Q v0 v1 v2 S) (K : K2 S0 S) : P_X9_got_0 (fun r T => Q r T ∧ K2 S0 T) v0 v1 v2 S := by
  delta P_X9_got_0 at h ⊢
  obtain ⟨c1, h⟩ := h
  refine ⟨c1, ?_⟩
  have n2 := k2_ne K c1 (by decide)
  obtain ⟨b3, e4, h⟩ := h
  refine ⟨b3, e4, ?_⟩
  obtain ⟨c5, h⟩ := h
  refine ⟨c5, ?_⟩
  have n6 := k2_ne K c5 (by decide)
  refine cm_X0_isOn (kf_X0_isOn h) h (fun x7 x8 hp h g9 g10 => ?_)
  have h := h g9 g10
  have K := k2_tr K hp.2
  refine ⟨?_, ?_⟩
  · intro c11
    have h := h.1 c11
    exact kf_X9_got_17 h K
  · intro c12
    have h := h.2 c12
    refine cm_X9_isFace (kf_X9_isFace h) h (fun x13 x14 hp h g15 g16 => ?_)
    have h := h g15 g16
    have K := k2_tr K hp.2
    refine ⟨?_, ?_⟩
    · intro c17
      have h := h.1 c17
      intro x19 e18
      have h := h x19 e18
      have K := k2_I K e18 n2
      obtain ⟨b20, e21, h⟩ := h
      refine ⟨b20, e21, ?_⟩
      obtain ⟨c22, h⟩ := h
      refine ⟨c22, ?_⟩
      have n23 := k2_ne K c22 (by decide)
      obtain ⟨b24, e25, h⟩ := h
      refine ⟨b24, e25, ?_⟩
      obtain ⟨c26, h⟩ := h
      refine ⟨c26, ?_⟩
      have n27 := k2_ne K c26 (by decide)
      obtain ⟨b28, e29, h⟩ := h
      refine ⟨b28, e29, ?_⟩
      obtain ⟨c30, h⟩ := h
      refine ⟨c30, ?_⟩
      have n31 := k2_ne K c30 (by decide)
      obtain ⟨c32, h⟩ := h
      refine ⟨c32, ?_⟩
      intro x34 e33
      have h := h x34 e33
      refine cm_X9_fraction (kf_X9_fraction h) h (fun x35 x36 hp h g37 => ?_)
      have h := h g37
      have K := k2_tr K hp.2
      exact ⟨h, K⟩
    · intro c38
      have h := h.2 c38
      exact kf_X9_got_17 h K
theorem kf_X9_got {Q : Int64 → HS → Prop} {v0 : Nat} {v1 : Int32} {v2 : Int32} {S : HS} (h : P_X9_got v0 v1 v2 Q S) : P_X9_got v0 v1 v2 (fun r T => Q r T ∧ K2 S T) S := kf_X9_got_0 h (k2_rf S)
set_option maxRecDepth 20000 in
set_option maxHeartbeats 1000000 in
theorem kf_X9_held_0 {Q : Int32 → HS → Prop} {v0 : Nat} {v1 : Int32} {v2 : Int32} {v3 : Int32} {v4 : Int32} {v5 : Int32} {S0 S : HS} (h : P_X9_held_0 Q v0 v1 v2 v3 v4 v5 S) (K : K2 S0 S) : P_X9_held_0 (fun r T => Q r T ∧ K2 S0 T) v0 v1 v2 v3 v4 v5 S := by
  delta P_X9_held_0 at h ⊢
  obtain ⟨c1, h⟩ := h
  refine ⟨c1, ?_⟩
  have n2 := k2_ne K c1 (by decide)
  refine cm_X9_legTrouble (kf_X9_legTrouble h) h (fun x3 x4 hp h g5 => ?_)
  have h := h g5
  have K := k2_tr K hp.2
  refine cm_X9_refusedBy (kf_X9_refusedBy h) h (fun x6 x7 hp h g8 g9 => ?_)
  have h := h g8 g9
  have K := k2_tr K hp.2
  refine ⟨?_, ?_⟩
  · intro c10
    have h := h.1 c10
    obtain ⟨b11, e12, h⟩ := h
    refine ⟨b11, e12, ?_⟩
    obtain ⟨c13, h⟩ := h
    refine ⟨c13, ?_⟩
    have n14 := k2_ne K c13 (by decide)
    obtain ⟨b15, e16, h⟩ := h
    refine ⟨b15, e16, ?_⟩
    obtain ⟨c17, h⟩ := h
    refine ⟨c17, ?_⟩
    have n18 := k2_ne K c17 (by decide)
    obtain ⟨c19, h⟩ := h
    refine ⟨c19, ?_⟩
    obtain ⟨b20, e21, h⟩ := h
    refine ⟨b20, e21, ?_⟩
    obtain ⟨c22, h⟩ := h
    refine ⟨c22, ?_⟩
    have n23 := k2_ne K c22 (by decide)
    intro x25 e24
    have h := h x25 e24
    refine ⟨?_, ?_⟩
    · intro c26
      have h := h.1 c26
      obtain ⟨b27, e28, h⟩ := h
      refine ⟨b27, e28, ?_⟩
      obtain ⟨b29, e30, h⟩ := h
      refine ⟨b29, e30, ?_⟩
      obtain ⟨c31, h⟩ := h
      refine ⟨c31, ?_⟩
      have n32 := k2_ne K c31 (by decide)
      obtain ⟨b33, e34, h⟩ := h
      refine ⟨b33, e34, ?_⟩
      obtain ⟨c35, h⟩ := h
      refine ⟨c35, ?_⟩
      have n36 := k2_ne K c35 (by decide)
      obtain ⟨c37, h⟩ := h
      refine ⟨c37, ?_⟩
      obtain ⟨b38, e39, h⟩ := h
      refine ⟨b38, e39, ?_⟩
      obtain ⟨b40, e41, h⟩ := h
      refine ⟨b40, e41, ?_⟩
      obtain ⟨c42, h⟩ := h
      refine ⟨c42, ?_⟩
      have n43 := k2_ne K c42 (by decide)
      obtain ⟨b44, e45, h⟩ := h
      refine ⟨b44, e45, ?_⟩
      obtain ⟨c46, h⟩ := h
      refine ⟨c46, ?_⟩
      have n47 := k2_ne K c46 (by decide)
      obtain ⟨c48, h⟩ := h
      refine ⟨c48, ?_⟩
      obtain ⟨b49, e50, h⟩ := h
      refine ⟨b49, e50, ?_⟩
      obtain ⟨c51, h⟩ := h
      refine ⟨c51, ?_⟩
      have n52 := k2_ne K c51 (by decide)
      refine cm_X1_lay (kf_X1_lay h) h (fun x53 hp h g54 => ?_)
      have h := h g54
      have K := k2_tr K hp.2
      obtain ⟨b55, e56, h⟩ := h
      refine ⟨b55, e56, ?_⟩
      obtain ⟨b57, e58, h⟩ := h
      refine ⟨b57, e58, ?_⟩
      obtain ⟨c59, h⟩ := h
      refine ⟨c59, ?_⟩
      have n60 := k2_ne K c59 (by decide)
      obtain ⟨b61, e62, h⟩ := h
      refine ⟨b61, e62, ?_⟩
      obtain ⟨c63, h⟩ := h
      refine ⟨c63, ?_⟩
      have n64 := k2_ne K c63 (by decide)
      obtain ⟨c65, h⟩ := h
      refine ⟨c65, ?_⟩
      obtain ⟨b66, e67, h⟩ := h
      refine ⟨b66, e67, ?_⟩
      obtain ⟨c68, h⟩ := h
      refine ⟨c68, ?_⟩
      have n69 := k2_ne K c68 (by decide)
      refine cm_X1_isForward (kf_X1_isForward h) h (fun x70 x71 hp h g72 g73 => ?_)
      have h := h g72 g73
      have K := k2_tr K hp.2
      refine ⟨?_, ?_⟩
      · intro c74
        have h := h.1 c74
        exact ⟨h, K⟩
      · intro c75
        have h := h.2 c75
        exact ⟨h, K⟩
    · intro c76
      have h := h.2 c76
      exact ⟨h, K⟩
  · intro c77
    have h := h.2 c77
    exact ⟨h, K⟩
theorem kf_X9_held {Q : Int32 → HS → Prop} {v0 : Nat} {v1 : Int32} {v2 : Int32} {v3 : Int32} {v4 : Int32} {v5 : Int32} {S : HS} (h : P_X9_held v0 v1 v2 v3 v4 v5 Q S) : P_X9_held v0 v1 v2 v3 v4 v5 (fun r T => Q r T ∧ K2 S T) S := kf_X9_held_0 h (k2_rf S)
set_option maxRecDepth 20000 in
set_option maxHeartbeats 1000000 in
theorem kf_X9_init_0 {Q : HS → Prop} {v0 : Nat} {S0 S : HS} (h : P_X9_init_0 Q v0 S) (K : K2 S0 S) : P_X9_init_0 (fun T => Q T ∧ K2 S0 T) v0 S := by
  delta P_X9_init_0 at h ⊢
  intro x2 e1
  have h := h x2 e1
  intro x4 e3
  have h := h x4 e3
  have K := k2_W K e1 e3
  obtain ⟨c5, h⟩ := h
  refine ⟨c5, ?_⟩
  have n6 := k2_ne K c5 (by decide)
  intro x8 e7
  have h := h x8 e7
  have K := k2_R K e7
  intro x10 e9
  have h := h x10 e9
  intro x12 e11
  have h := h x12 e11
  have K := k2_W K e9 e11
  refine cm_X8_init (kf_X8_init h) h (fun x13 hp h g14 => ?_)
  have h := h g14
  have K := k2_tr K hp.2
  intro x16 e15
  have h := h x16 e15
  have K := k2_R K e15
  intro x18 e17
  have h := h x18 e17
  intro x20 e19
  have h := h x20 e19
  have K := k2_W K e17 e19
  refine cm_X4_init (kf_X4_init h) h (fun x21 hp h g22 => ?_)
  have h := h g22
  have K := k2_tr K hp.2
  intro x24 e23
  have h := h x24 e23
  have K := k2_R K e23
  intro x26 e25
  have h := h x26 e25
  intro x28 e27
  have h := h x28 e27
  have K := k2_W K e25 e27
  refine cm_X1_init (kf_X1_init h) h (fun x29 hp h g30 => ?_)
  have h := h g30
  have K := k2_tr K hp.2
  intro x32 e31
  have h := h x32 e31
  have K := k2_R K e31
  intro x34 e33
  have h := h x34 e33
  intro x36 e35
  have h := h x36 e35
  have K := k2_W K e33 e35
  refine cm_X7_init (kf_X7_init h) h (fun x37 hp h g38 => ?_)
  have h := h g38
  have K := k2_tr K hp.2
  intro x40 e39
  have h := h x40 e39
  have K := k2_R K e39
  intro x42 e41
  have h := h x42 e41
  intro x44 e43
  have h := h x44 e43
  have K := k2_W K e41 e43
  refine cm_X0_init (kf_X0_init h) h (fun x45 hp h g46 => ?_)
  have h := h g46
  have K := k2_tr K hp.2
  intro x48 e47
  have h := h x48 e47
  have K := k2_R K e47
  exact ⟨h, K⟩
theorem kf_X9_init {Q : HS → Prop} {v0 : Nat} {S : HS} (h : P_X9_init v0 Q S) : P_X9_init v0 (fun T => Q T ∧ K2 S T) S := kf_X9_init_0 h (k2_rf S)
set_option maxRecDepth 20000 in
set_option maxHeartbeats 1000000 in
theorem kf_X9_isTill_0 {Q : Int32 → HS → Prop} {v0 : Int32} {S0 S : HS} (h : P_X9_isTill_0 Q v0 S) (K : K2 S0 S) : P_X9_isTill_0 (fun r T => Q r T ∧ K2 S0 T) v0 S := by
  delta P_X9_isTill_0 at h ⊢
  refine ⟨?_, ?_⟩
  · intro c1
    have h := h.1 c1
    exact ⟨h, K⟩
  · intro c2
    have h := h.2 c2
    refine ⟨?_, ?_⟩
    · intro c3
      have h := h.1 c3
      exact ⟨h, K⟩
    · intro c4
      have h := h.2 c4
      exact ⟨h, K⟩
theorem kf_X9_isTill {Q : Int32 → HS → Prop} {v0 : Int32} {S : HS} (h : P_X9_isTill v0 Q S) : P_X9_isTill v0 (fun r T => Q r T ∧ K2 S T) S := kf_X9_isTill_0 h (k2_rf S)
set_option maxRecDepth 20000 in
set_option maxHeartbeats 1000000 in
theorem kf_X9_placesTrouble_38 {Q : Int32 → HS → Prop} {s0 : Int32} {S0 S : HS} (h : P_X9_placesTrouble_38 Q s0 S) (K : K2 S0 S) : P_X9_placesTrouble_38 (fun r T => Q r T ∧ K2 S0 T) s0 S := by
  delta P_X9_placesTrouble_38 at h ⊢
  refine ⟨?_, ?_⟩
  · intro c1
    have h := h.1 c1
    exact ⟨h, K⟩
  · intro c2
    have h := h.2 c2
    exact ⟨h, K⟩
set_option maxRecDepth 20000 in
set_option maxHeartbeats 1000000 in
theorem kf_X9_placesTrouble_37 {Q : Int32 → HS → Prop} {S0 S : HS} (h : P_X9_placesTrouble_37 Q S) (K : K2 S0 S) : P_X9_placesTrouble_37 (fun r T => Q r T ∧ K2 S0 T) S := by
  delta P_X9_placesTrouble_37 at h ⊢
  exact kf_X9_placesTrouble_38 h K
set_option maxRecDepth 20000 in
set_option maxHeartbeats 1000000 in
theorem kf_X9_placesTrouble_0 {Q : Int32 → HS → Prop} {v0 : Nat} {v1 : Int32} {v2 : Int32} {v3 : Int32} {S0 S : HS} (h : P_X9_placesTrouble_0 Q v0 v1 v2 v3 S) (K : K2 S0 S) : P_X9_placesTrouble_0 (fun r T => Q r T ∧ K2 S0 T) v0 v1 v2 v3 S := by
  delta P_X9_placesTrouble_0 at h ⊢
  obtain ⟨c1, h⟩ := h
  refine ⟨c1, ?_⟩
  have n2 := k2_ne K c1 (by decide)
  obtain ⟨b3, e4, h⟩ := h
  refine ⟨b3, e4, ?_⟩
  obtain ⟨c5, h⟩ := h
  refine ⟨c5, ?_⟩
  have n6 := k2_ne K c5 (by decide)
  refine cm_X8_hasWalker (kf_X8_hasWalker h) h (fun x7 x8 hp h g9 g10 => ?_)
  have h := h g9 g10
  have K := k2_tr K hp.2
  refine ⟨?_, ?_⟩
  · intro c11
    have h := h.1 c11
    exact kf_X9_placesTrouble_37 h K
  · intro c12
    have h := h.2 c12
    obtain ⟨b13, e14, h⟩ := h
    refine ⟨b13, e14, ?_⟩
    obtain ⟨c15, h⟩ := h
    refine ⟨c15, ?_⟩
    have n16 := k2_ne K c15 (by decide)
    refine cm_X8_hasPlace (kf_X8_hasPlace h) h (fun x17 x18 hp h g19 g20 => ?_)
    have h := h g19 g20
    have K := k2_tr K hp.2
    refine ⟨?_, ?_⟩
    · intro c21
      have h := h.1 c21
      exact kf_X9_placesTrouble_37 h K
    · intro c22
      have h := h.2 c22
      obtain ⟨b23, e24, h⟩ := h
      refine ⟨b23, e24, ?_⟩
      obtain ⟨c25, h⟩ := h
      refine ⟨c25, ?_⟩
      have n26 := k2_ne K c25 (by decide)
      refine cm_X8_hasPlace (kf_X8_hasPlace h) h (fun x27 x28 hp h g29 g30 => ?_)
      have h := h g29 g30
      have K := k2_tr K hp.2
      refine ⟨?_, ?_⟩
      · intro c31
        have h := h.1 c31
        exact kf_X9_placesTrouble_37 h K
      · intro c32
        have h := h.2 c32
        exact kf_X9_placesTrouble_38 h K
theorem kf_X9_placesTrouble {Q : Int32 → HS → Prop} {v0 : Nat} {v1 : Int32} {v2 : Int32} {v3 : Int32} {S : HS} (h : P_X9_placesTrouble v0 v1 v2 v3 Q S) : P_X9_placesTrouble v0 v1 v2 v3 (fun r T => Q r T ∧ K2 S T) S := kf_X9_placesTrouble_0 h (k2_rf S)
set_option maxRecDepth 20000 in
set_option maxHeartbeats 1000000 in
theorem kf_X9_wayTrouble_0 {Q : Int32 → HS → Prop} {v0 : Nat} {v1 : Int32} {v2 : Int32} {v3 : Int32} {v4 : Int32} {v5 : Int32} {S0 S : HS} (h : P_X9_wayTrouble_0 Q v0 v1 v2 v3 v4 v5 S) (K : K2 S0 S) : P_X9_wayTrouble_0 (fun r T => Q r T ∧ K2 S0 T) v0 v1 v2 v3 v4 v5 S := by
  delta P_X9_wayTrouble_0 at h ⊢
  obtain ⟨c1, h⟩ := h
  refine ⟨c1, ?_⟩
  have n2 := k2_ne K c1 (by decide)
  refine cm_X9_placesTrouble (kf_X9_placesTrouble h) h (fun x3 x4 hp h g5 => ?_)
  have h := h g5
  have K := k2_tr K hp.2
  refine ⟨?_, ?_⟩
  · intro c6
    have h := h.1 c6
    refine cm_X9_isTill (kf_X9_isTill h) h (fun x7 x8 hp h g9 g10 => ?_)
    have h := h g9 g10
    have K := k2_tr K hp.2
    refine ⟨?_, ?_⟩
    · intro c11
      have h := h.1 c11
      exact ⟨h, K⟩
    · intro c12
      have h := h.2 c12
      refine ⟨?_, ?_⟩
      · intro c13
        have h := h.1 c13
        exact ⟨h, K⟩
      · intro c14
        have h := h.2 c14
        refine ⟨?_, ?_⟩
        · intro c15
          have h := h.1 c15
          obtain ⟨b16, e17, h⟩ := h
          refine ⟨b16, e17, ?_⟩
          obtain ⟨b18, e19, h⟩ := h
          refine ⟨b18, e19, ?_⟩
          obtain ⟨b20, e21, h⟩ := h
          refine ⟨b20, e21, ?_⟩
          obtain ⟨c22, h⟩ := h
          refine ⟨c22, ?_⟩
          have n23 := k2_ne K c22 (by decide)
          refine cm_X7_reckon (kf_X7_reckon h) h (fun x24 hp h g25 => ?_)
          have h := h g25
          have K := k2_tr K hp.2
          obtain ⟨b26, e27, h⟩ := h
          refine ⟨b26, e27, ?_⟩
          obtain ⟨c28, h⟩ := h
          refine ⟨c28, ?_⟩
          have n29 := k2_ne K c28 (by decide)
          refine cm_X7_isOpen (kf_X7_isOpen h) h (fun x30 x31 hp h g32 g33 => ?_)
          have h := h g32 g33
          have K := k2_tr K hp.2
          refine ⟨?_, ?_⟩
          · intro c34
            have h := h.1 c34
            exact ⟨h, K⟩
          · intro c35
            have h := h.2 c35
            exact ⟨h, K⟩
        · intro c36
          have h := h.2 c36
          exact ⟨h, K⟩
  · intro c37
    have h := h.2 c37
    exact ⟨h, K⟩
theorem kf_X9_wayTrouble {Q : Int32 → HS → Prop} {v0 : Nat} {v1 : Int32} {v2 : Int32} {v3 : Int32} {v4 : Int32} {v5 : Int32} {S : HS} (h : P_X9_wayTrouble v0 v1 v2 v3 v4 v5 Q S) : P_X9_wayTrouble v0 v1 v2 v3 v4 v5 (fun r T => Q r T ∧ K2 S T) S := kf_X9_wayTrouble_0 h (k2_rf S)
set_option maxRecDepth 20000 in
set_option maxHeartbeats 1000000 in
theorem kf_X9_least_0 {Q : Int64 → HS → Prop} {v0 : Nat} {v1 : Int32} {v2 : Int32} {v3 : Int32} {v4 : Int32} {v5 : Int32} {v6 : Int32} {S0 S : HS} (h : P_X9_least_0 Q v0 v1 v2 v3 v4 v5 v6 S) (K : K2 S0 S) : P_X9_least_0 (fun r T => Q r T ∧ K2 S0 T) v0 v1 v2 v3 v4 v5 v6 S := by
  delta P_X9_least_0 at h ⊢
  obtain ⟨c1, h⟩ := h
  refine ⟨c1, ?_⟩
  have n2 := k2_ne K c1 (by decide)
  refine cm_X9_wayTrouble (kf_X9_wayTrouble h) h (fun x3 x4 hp h g5 => ?_)
  have h := h g5
  have K := k2_tr K hp.2
  refine cm_X9_refusedBy (kf_X9_refusedBy h) h (fun x6 x7 hp h g8 g9 => ?_)
  have h := h g8 g9
  have K := k2_tr K hp.2
  refine ⟨?_, ?_⟩
  · intro c10
    have h := h.1 c10
    obtain ⟨b11, e12, h⟩ := h
    refine ⟨b11, e12, ?_⟩
    obtain ⟨c13, h⟩ := h
    refine ⟨c13, ?_⟩
    have n14 := k2_ne K c13 (by decide)
    refine cm_X7_meanFrom (kf_X7_meanFrom h) h (fun x15 x16 hp h g17 => ?_)
    have h := h g17
    have K := k2_tr K hp.2
    refine cm_X9_fraction (kf_X9_fraction h) h (fun x18 x19 hp h g20 => ?_)
    have h := h g20
    have K := k2_tr K hp.2
    exact ⟨h, K⟩
  · intro c21
    have h := h.2 c21
    exact ⟨h, K⟩
theorem kf_X9_least {Q : Int64 → HS → Prop} {v0 : Nat} {v1 : Int32} {v2 : Int32} {v3 : Int32} {v4 : Int32} {v5 : Int32} {v6 : Int32} {S : HS} (h : P_X9_least v0 v1 v2 v3 v4 v5 v6 Q S) : P_X9_least v0 v1 v2 v3 v4 v5 v6 (fun r T => Q r T ∧ K2 S T) S := kf_X9_least_0 h (k2_rf S)
set_option maxRecDepth 20000 in
set_option maxHeartbeats 1000000 in
theorem kf_X9_lee_0 {Q : Int64 → HS → Prop} {v0 : Nat} {v1 : Int32} {v2 : Int32} {v3 : Int32} {v4 : Int32} {v5 : Int32} {v6 : Int32} {v7 : Int32} {S0 S : HS} (h : P_X9_lee_0 Q v0 v1 v2 v3 v4 v5 v6 v7 S) (K : K2 S0 S) : P_X9_lee_0 (fun r T => Q r T ∧ K2 S0 T) v0 v1 v2 v3 v4 v5 v6 v7 S := by
  delta P_X9_lee_0 at h ⊢
  obtain ⟨c1, h⟩ := h
  refine ⟨c1, ?_⟩
  have n2 := k2_ne K c1 (by decide)
  refine cm_X9_leeTrouble (kf_X9_leeTrouble h) h (fun x3 x4 hp h g5 => ?_)
  have h := h g5
  have K := k2_tr K hp.2
  refine cm_X9_refusedBy (kf_X9_refusedBy h) h (fun x6 x7 hp h g8 g9 => ?_)
  have h := h g8 g9
  have K := k2_tr K hp.2
  refine ⟨?_, ?_⟩
  · intro c10
    have h := h.1 c10
    obtain ⟨b11, e12, h⟩ := h
    refine ⟨b11, e12, ?_⟩
    obtain ⟨b13, e14, h⟩ := h
    refine ⟨b13, e14, ?_⟩
    obtain ⟨c15, h⟩ := h
    refine ⟨c15, ?_⟩
    have n16 := k2_ne K c15 (by decide)
    obtain ⟨b17, e18, h⟩ := h
    refine ⟨b17, e18, ?_⟩
    obtain ⟨c19, h⟩ := h
    refine ⟨c19, ?_⟩
    have n20 := k2_ne K c19 (by decide)
    obtain ⟨c21, h⟩ := h
    refine ⟨c21, ?_⟩
    obtain ⟨b22, e23, h⟩ := h
    refine ⟨b22, e23, ?_⟩
    obtain ⟨b24, e25, h⟩ := h
    refine ⟨b24, e25, ?_⟩
    obtain ⟨c26, h⟩ := h
    refine ⟨c26, ?_⟩
    have n27 := k2_ne K c26 (by decide)
    obtain ⟨b28, e29, h⟩ := h
    refine ⟨b28, e29, ?_⟩
    obtain ⟨c30, h⟩ := h
    refine ⟨c30, ?_⟩
    have n31 := k2_ne K c30 (by decide)
    obtain ⟨c32, h⟩ := h
    refine ⟨c32, ?_⟩
    obtain ⟨b33, e34, h⟩ := h
    refine ⟨b33, e34, ?_⟩
    obtain ⟨c35, h⟩ := h
    refine ⟨c35, ?_⟩
    have n36 := k2_ne K c35 (by decide)
    refine cm_X1_lay (kf_X1_lay h) h (fun x37 hp h g38 => ?_)
    have h := h g38
    have K := k2_tr K hp.2
    obtain ⟨b39, e40, h⟩ := h
    refine ⟨b39, e40, ?_⟩
    obtain ⟨b41, e42, h⟩ := h
    refine ⟨b41, e42, ?_⟩
    obtain ⟨c43, h⟩ := h
    refine ⟨c43, ?_⟩
    have n44 := k2_ne K c43 (by decide)
    obtain ⟨b45, e46, h⟩ := h
    refine ⟨b45, e46, ?_⟩
    obtain ⟨c47, h⟩ := h
    refine ⟨c47, ?_⟩
    have n48 := k2_ne K c47 (by decide)
    obtain ⟨c49, h⟩ := h
    refine ⟨c49, ?_⟩
    obtain ⟨b50, e51, h⟩ := h
    refine ⟨b50, e51, ?_⟩
    obtain ⟨b52, e53, h⟩ := h
    refine ⟨b52, e53, ?_⟩
    obtain ⟨c54, h⟩ := h
    refine ⟨c54, ?_⟩
    have n55 := k2_ne K c54 (by decide)
    obtain ⟨b56, e57, h⟩ := h
    refine ⟨b56, e57, ?_⟩
    obtain ⟨c58, h⟩ := h
    refine ⟨c58, ?_⟩
    have n59 := k2_ne K c58 (by decide)
    obtain ⟨c60, h⟩ := h
    refine ⟨c60, ?_⟩
    obtain ⟨b61, e62, h⟩ := h
    refine ⟨b61, e62, ?_⟩
    obtain ⟨c63, h⟩ := h
    refine ⟨c63, ?_⟩
    have n64 := k2_ne K c63 (by decide)
    refine cm_X1_wetInLee (kf_X1_wetInLee h) h (fun x65 x66 hp h g67 => ?_)
    have h := h g67
    have K := k2_tr K hp.2
    refine cm_X9_fraction (kf_X9_fraction h) h (fun x68 x69 hp h g70 => ?_)
    have h := h g70
    have K := k2_tr K hp.2
    exact ⟨h, K⟩
  · intro c71
    have h := h.2 c71
    exact ⟨h, K⟩
theorem kf_X9_lee {Q : Int64 → HS → Prop} {v0 : Nat} {v1 : Int32} {v2 : Int32} {v3 : Int32} {v4 : Int32} {v5 : Int32} {v6 : Int32} {v7 : Int32} {S : HS} (h : P_X9_lee v0 v1 v2 v3 v4 v5 v6 v7 Q S) : P_X9_lee v0 v1 v2 v3 v4 v5 v6 v7 (fun r T => Q r T ∧ K2 S T) S := kf_X9_lee_0 h (k2_rf S)
set_option maxRecDepth 20000 in
set_option maxHeartbeats 1000000 in
theorem kf_X9_lies_54 {Q : Int32 → HS → Prop} {X20 X20_2 : Nat → Int32 → Int32 → HS → Prop} {v0 : Nat} {v1 : Int32} {v2 : Int32} {S0 S : HS} (h : P_X9_lies_54 Q X20 v0 v1 v2 S) (K : K2 S0 S) (hX20 : ∀ (u0 : Nat) (u1 : Int32) (u2 : Int32) (u3 : HS), X20 u0 u1 u2 u3 → K2 S0 u3 → X20_2 u0 u1 u2 u3) : P_X9_lies_54 (fun r T => Q r T ∧ K2 S0 T) X20_2 v0 v1 v2 S := by
  delta P_X9_lies_54 at h ⊢
  intro x2 e1
  have h := h x2 e1
  exact hX20 _ _ _ _ h K
set_option maxRecDepth 20000 in
set_option maxHeartbeats 1000000 in
theorem kfB_X9_lies_20 {Q : Int32 → HS → Prop} {X20 X20_2 : Nat → Int32 → Int32 → HS → Prop} {v0 : Nat} {v1 : Int32} {v2 : Int32} {S0 S : HS} (h : B_X9_lies_20 Q X20 v0 v1 v2 S) (K : K2 S0 S) (hX20 : ∀ (u0 : Nat) (u1 : Int32) (u2 : Int32) (u3 : HS), X20 u0 u1 u2 u3 → K2 S0 u3 → X20_2 u0 u1 u2 u3) : B_X9_lies_20 (fun r T => Q r T ∧ K2 S0 T) X20_2 v0 v1 v2 S := by
  delta B_X9_lies_20 at h ⊢
  obtain ⟨c1, h⟩ := h
  refine ⟨c1, ?_⟩
  have n2 := k2_ne K c1 (by decide)
  obtain ⟨b3, e4, h⟩ := h
  refine ⟨b3, e4, ?_⟩
  obtain ⟨c5, h⟩ := h
  refine ⟨c5, ?_⟩
  have n6 := k2_ne K c5 (by decide)
  intro x8 e7
  have h := h x8 e7
  refine ⟨?_, ?_⟩
  · intro c9
    have h := h.1 c9
    refine cm_X9_grant (kf_X9_grant h) h (fun x10 x11 hp h g12 => ?_)
    have h := h g12
    have K := k2_tr K hp.2
    exact ⟨h, K⟩
  · intro c13
    have h := h.2 c13
    obtain ⟨b14, e15, h⟩ := h
    refine ⟨b14, e15, ?_⟩
    obtain ⟨b16, e17, h⟩ := h
    refine ⟨b16, e17, ?_⟩
    obtain ⟨c18, h⟩ := h
    refine ⟨c18, ?_⟩
    have n19 := k2_ne K c18 (by decide)
    refine cm_X1_findFit (kf_X1_findFit h) h (fun x20 x21 hp h g22 => ?_)
    have h := h g22
    have K := k2_tr K hp.2
    refine ⟨?_, ?_⟩
    · intro c23
      have h := h.1 c23
      exact kf_X9_lies_54 h K hX20
    · intro c24
      have h := h.2 c24
      intro x26 e25
      have h := h x26 e25
      exact kf_X9_lies_54 h K hX20
theorem kf_X9_lies_20 {Q : Int32 → HS → Prop} {v0 : Nat} {v1 : Int32} {v2 : Int32} {S0 S : HS} (h : P_X9_lies_20 Q v0 v1 v2 S) (K : K2 S0 S) : P_X9_lies_20 (fun r T => Q r T ∧ K2 S0 T) v0 v1 v2 S := h (fun v0 v1 v2 S => K2 S0 S → P_X9_lies_20 (fun r T => Q r T ∧ K2 S0 T) v0 v1 v2 S) (fun v0 v1 v2 S hB K => fd_X9_lies_20 (kfB_X9_lies_20 hB K (fun _ _ _ _ hx K => hx K))) K
set_option maxRecDepth 20000 in
set_option maxHeartbeats 1000000 in
theorem kf_X9_lies_0 {Q : Int32 → HS → Prop} {v0 : Nat} {S0 S : HS} (h : P_X9_lies_0 Q v0 S) (K : K2 S0 S) : P_X9_lies_0 (fun r T => Q r T ∧ K2 S0 T) v0 S := by
  delta P_X9_lies_0 at h ⊢
  obtain ⟨c1, h⟩ := h
  refine ⟨c1, ?_⟩
  have n2 := k2_ne K c1 (by decide)
  obtain ⟨b3, e4, h⟩ := h
  refine ⟨b3, e4, ?_⟩
  obtain ⟨c5, h⟩ := h
  refine ⟨c5, ?_⟩
  have n6 := k2_ne K c5 (by decide)
  refine cm_X8_isTold (kf_X8_isTold h) h (fun x7 x8 hp h g9 g10 => ?_)
  have h := h g9 g10
  have K := k2_tr K hp.2
  refine ⟨?_, ?_⟩
  · intro c11
    have h := h.1 c11
    exact kf_X9_lies_20 h K
  · intro c12
    have h := h.2 c12
    refine cm_X9_refuse (kf_X9_refuse h) h (fun x13 x14 hp h g15 => ?_)
    have h := h g15
    have K := k2_tr K hp.2
    exact ⟨h, K⟩
theorem kf_X9_lies {Q : Int32 → HS → Prop} {v0 : Nat} {S : HS} (h : P_X9_lies v0 Q S) : P_X9_lies v0 (fun r T => Q r T ∧ K2 S T) S := kf_X9_lies_0 h (k2_rf S)
set_option maxRecDepth 20000 in
set_option maxHeartbeats 1000000 in
theorem kf_X9_mark_0 {Q : Int32 → HS → Prop} {v0 : Nat} {S0 S : HS} (h : P_X9_mark_0 Q v0 S) (K : K2 S0 S) : P_X9_mark_0 (fun r T => Q r T ∧ K2 S0 T) v0 S := by
  delta P_X9_mark_0 at h ⊢
  obtain ⟨c1, h⟩ := h
  refine ⟨c1, ?_⟩
  have n2 := k2_ne K c1 (by decide)
  obtain ⟨b3, e4, h⟩ := h
  refine ⟨b3, e4, ?_⟩
  obtain ⟨c5, h⟩ := h
  refine ⟨c5, ?_⟩
  have n6 := k2_ne K c5 (by decide)
  refine cm_X0_isOn (kf_X0_isOn h) h (fun x7 x8 hp h g9 g10 => ?_)
  have h := h g9 g10
  have K := k2_tr K hp.2
  refine ⟨?_, ?_⟩
  · intro c11
    have h := h.1 c11
    obtain ⟨b12, e13, h⟩ := h
    refine ⟨b12, e13, ?_⟩
    obtain ⟨c14, h⟩ := h
    refine ⟨c14, ?_⟩
    have n15 := k2_ne K c14 (by decide)
    refine cm_X0_setMark (kf_X0_setMark h) h (fun x16 x17 hp h g18 => ?_)
    have h := h g18
    have K := k2_tr K hp.2
    refine ⟨?_, ?_⟩
    · intro c19
      have h := h.1 c19
      refine cm_X9_grant (kf_X9_grant h) h (fun x20 x21 hp h g22 => ?_)
      have h := h g22
      have K := k2_tr K hp.2
      exact ⟨h, K⟩
    · intro c23
      have h := h.2 c23
      refine cm_X9_refuse (kf_X9_refuse h) h (fun x24 x25 hp h g26 => ?_)
      have h := h g26
      have K := k2_tr K hp.2
      exact ⟨h, K⟩
  · intro c27
    have h := h.2 c27
    refine cm_X9_refuse (kf_X9_refuse h) h (fun x28 x29 hp h g30 => ?_)
    have h := h g30
    have K := k2_tr K hp.2
    exact ⟨h, K⟩
theorem kf_X9_mark {Q : Int32 → HS → Prop} {v0 : Nat} {S : HS} (h : P_X9_mark v0 Q S) : P_X9_mark v0 (fun r T => Q r T ∧ K2 S T) S := kf_X9_mark_0 h (k2_rf S)
set_option maxRecDepth 20000 in
set_option maxHeartbeats 1000000 in
theorem kf_X9_mean_0 {Q : Int64 → HS → Prop} {v0 : Nat} {v1 : Int32} {v2 : Int32} {v3 : Int32} {v4 : Int32} {v5 : Int32} {v6 : Int32} {S0 S : HS} (h : P_X9_mean_0 Q v0 v1 v2 v3 v4 v5 v6 S) (K : K2 S0 S) : P_X9_mean_0 (fun r T => Q r T ∧ K2 S0 T) v0 v1 v2 v3 v4 v5 v6 S := by
  delta P_X9_mean_0 at h ⊢
  obtain ⟨c1, h⟩ := h
  refine ⟨c1, ?_⟩
  have n2 := k2_ne K c1 (by decide)
  refine cm_X9_legTrouble (kf_X9_legTrouble h) h (fun x3 x4 hp h g5 => ?_)
  have h := h g5
  have K := k2_tr K hp.2
  refine cm_X9_refusedBy (kf_X9_refusedBy h) h (fun x6 x7 hp h g8 g9 => ?_)
  have h := h g8 g9
  have K := k2_tr K hp.2
  refine ⟨?_, ?_⟩
  · intro c10
    have h := h.1 c10
    obtain ⟨b11, e12, h⟩ := h
    refine ⟨b11, e12, ?_⟩
    obtain ⟨b13, e14, h⟩ := h
    refine ⟨b13, e14, ?_⟩
    obtain ⟨c15, h⟩ := h
    refine ⟨c15, ?_⟩
    have n16 := k2_ne K c15 (by decide)
    obtain ⟨b17, e18, h⟩ := h
    refine ⟨b17, e18, ?_⟩
    obtain ⟨c19, h⟩ := h
    refine ⟨c19, ?_⟩
    have n20 := k2_ne K c19 (by decide)
    obtain ⟨c21, h⟩ := h
    refine ⟨c21, ?_⟩
    obtain ⟨b22, e23, h⟩ := h
    refine ⟨b22, e23, ?_⟩
    obtain ⟨b24, e25, h⟩ := h
    refine ⟨b24, e25, ?_⟩
    obtain ⟨c26, h⟩ := h
    refine ⟨c26, ?_⟩
    have n27 := k2_ne K c26 (by decide)
    obtain ⟨b28, e29, h⟩ := h
    refine ⟨b28, e29, ?_⟩
    obtain ⟨c30, h⟩ := h
    refine ⟨c30, ?_⟩
    have n31 := k2_ne K c30 (by decide)
    obtain ⟨c32, h⟩ := h
    refine ⟨c32, ?_⟩
    obtain ⟨b33, e34, h⟩ := h
    refine ⟨b33, e34, ?_⟩
    obtain ⟨b35, e36, h⟩ := h
    refine ⟨b35, e36, ?_⟩
    obtain ⟨c37, h⟩ := h
    refine ⟨c37, ?_⟩
    have n38 := k2_ne K c37 (by decide)
    obtain ⟨b39, e40, h⟩ := h
    refine ⟨b39, e40, ?_⟩
    obtain ⟨c41, h⟩ := h
    refine ⟨c41, ?_⟩
    have n42 := k2_ne K c41 (by decide)
    obtain ⟨c43, h⟩ := h
    refine ⟨c43, ?_⟩
    obtain ⟨b44, e45, h⟩ := h
    refine ⟨b44, e45, ?_⟩
    obtain ⟨c46, h⟩ := h
    refine ⟨c46, ?_⟩
    have n47 := k2_ne K c46 (by decide)
    refine cm_X1_wetOf (kf_X1_wetOf h) h (fun x48 x49 hp h g50 => ?_)
    have h := h g50
    have K := k2_tr K hp.2
    obtain ⟨b51, e52, h⟩ := h
    refine ⟨b51, e52, ?_⟩
    obtain ⟨c53, h⟩ := h
    refine ⟨c53, ?_⟩
    have n54 := k2_ne K c53 (by decide)
    obtain ⟨b55, e56, h⟩ := h
    refine ⟨b55, e56, ?_⟩
    obtain ⟨c57, h⟩ := h
    refine ⟨c57, ?_⟩
    have n58 := k2_ne K c57 (by decide)
    obtain ⟨c59, h⟩ := h
    refine ⟨c59, ?_⟩
    obtain ⟨b60, e61, h⟩ := h
    refine ⟨b60, e61, ?_⟩
    obtain ⟨c62, h⟩ := h
    refine ⟨c62, ?_⟩
    have n63 := k2_ne K c62 (by decide)
    intro x65 e64
    have h := h x65 e64
    refine cm_X9_fraction (kf_X9_fraction h) h (fun x66 x67 hp h g68 => ?_)
    have h := h g68
    have K := k2_tr K hp.2
    exact ⟨h, K⟩
  · intro c69
    have h := h.2 c69
    exact ⟨h, K⟩
theorem kf_X9_mean {Q : Int64 → HS → Prop} {v0 : Nat} {v1 : Int32} {v2 : Int32} {v3 : Int32} {v4 : Int32} {v5 : Int32} {v6 : Int32} {S : HS} (h : P_X9_mean v0 v1 v2 v3 v4 v5 v6 Q S) : P_X9_mean v0 v1 v2 v3 v4 v5 v6 (fun r T => Q r T ∧ K2 S T) S := kf_X9_mean_0 h (k2_rf S)
set_option maxRecDepth 20000 in
set_option maxHeartbeats 1000000 in
theorem kf_X9_minutes_22 {Q : Int32 → HS → Prop} {v0 : Nat} {S0 S : HS} (h : P_X9_minutes_22 Q v0 S) (K : K2 S0 S) : P_X9_minutes_22 (fun r T => Q r T ∧ K2 S0 T) v0 S := by
  delta P_X9_minutes_22 at h ⊢
  obtain ⟨c1, h⟩ := h
  refine ⟨c1, ?_⟩
  have n2 := k2_ne K c1 (by decide)
  refine cm_X9_refuse (kf_X9_refuse h) h (fun x3 x4 hp h g5 => ?_)
  have h := h g5
  have K := k2_tr K hp.2
  exact ⟨h, K⟩
set_option maxRecDepth 20000 in
set_option maxHeartbeats 1000000 in
theorem kf_X9_minutes_0 {Q : Int32 → HS → Prop} {v0 : Nat} {v1 : Int32} {v2 : Int32} {v3 : Int32} {S0 S : HS} (h : P_X9_minutes_0 Q v0 v1 v2 v3 S) (K : K2 S0 S) : P_X9_minutes_0 (fun r T => Q r T ∧ K2 S0 T) v0 v1 v2 v3 S := by
  delta P_X9_minutes_0 at h ⊢
  obtain ⟨c1, h⟩ := h
  refine ⟨c1, ?_⟩
  have n2 := k2_ne K c1 (by decide)
  obtain ⟨b3, e4, h⟩ := h
  refine ⟨b3, e4, ?_⟩
  obtain ⟨c5, h⟩ := h
  refine ⟨c5, ?_⟩
  have n6 := k2_ne K c5 (by decide)
  refine cm_X8_hasWalker (kf_X8_hasWalker h) h (fun x7 x8 hp h g9 g10 => ?_)
  have h := h g9 g10
  have K := k2_tr K hp.2
  refine ⟨?_, ?_⟩
  · intro c11
    have h := h.1 c11
    exact kf_X9_minutes_22 h K
  · intro c12
    have h := h.2 c12
    obtain ⟨b13, e14, h⟩ := h
    refine ⟨b13, e14, ?_⟩
    obtain ⟨c15, h⟩ := h
    refine ⟨c15, ?_⟩
    have n16 := k2_ne K c15 (by decide)
    refine cm_X8_hasRoad (kf_X8_hasRoad h) h (fun x17 x18 hp h g19 g20 => ?_)
    have h := h g19 g20
    have K := k2_tr K hp.2
    refine ⟨?_, ?_⟩
    · intro c21
      have h := h.1 c21
      obtain ⟨b22, e23, h⟩ := h
      refine ⟨b22, e23, ?_⟩
      obtain ⟨c24, h⟩ := h
      refine ⟨c24, ?_⟩
      have n25 := k2_ne K c24 (by decide)
      obtain ⟨b26, e27, h⟩ := h
      refine ⟨b26, e27, ?_⟩
      obtain ⟨c28, h⟩ := h
      refine ⟨c28, ?_⟩
      have n29 := k2_ne K c28 (by decide)
      obtain ⟨c30, h⟩ := h
      refine ⟨c30, ?_⟩
      obtain ⟨b31, e32, h⟩ := h
      refine ⟨b31, e32, ?_⟩
      obtain ⟨c33, h⟩ := h
      refine ⟨c33, ?_⟩
      have n34 := k2_ne K c33 (by decide)
      refine cm_X6_canGo (kf_X6_canGo h) h (fun x35 x36 hp h g37 g38 => ?_)
      have h := h g37 g38
      have K := k2_tr K hp.2
      refine ⟨?_, ?_⟩
      · intro c39
        have h := h.1 c39
        obtain ⟨b40, e41, h⟩ := h
        refine ⟨b40, e41, ?_⟩
        obtain ⟨c42, h⟩ := h
        refine ⟨c42, ?_⟩
        have n43 := k2_ne K c42 (by decide)
        obtain ⟨b44, e45, h⟩ := h
        refine ⟨b44, e45, ?_⟩
        obtain ⟨c46, h⟩ := h
        refine ⟨c46, ?_⟩
        have n47 := k2_ne K c46 (by decide)
        obtain ⟨c48, h⟩ := h
        refine ⟨c48, ?_⟩
        obtain ⟨b49, e50, h⟩ := h
        refine ⟨b49, e50, ?_⟩
        obtain ⟨c51, h⟩ := h
        refine ⟨c51, ?_⟩
        have n52 := k2_ne K c51 (by decide)
        refine cm_X5_minutesAt (kf_X5_minutesAt h) h (fun x53 x54 hp h g55 => ?_)
        have h := h g55
        have K := k2_tr K hp.2
        refine cm_X9_grant (kf_X9_grant h) h (fun x56 x57 hp h g58 => ?_)
        have h := h g58
        have K := k2_tr K hp.2
        exact ⟨h, K⟩
      · intro c59
        have h := h.2 c59
        refine cm_X9_refuse (kf_X9_refuse h) h (fun x60 x61 hp h g62 => ?_)
        have h := h g62
        have K := k2_tr K hp.2
        exact ⟨h, K⟩
    · intro c63
      have h := h.2 c63
      exact kf_X9_minutes_22 h K
theorem kf_X9_minutes {Q : Int32 → HS → Prop} {v0 : Nat} {v1 : Int32} {v2 : Int32} {v3 : Int32} {S : HS} (h : P_X9_minutes v0 v1 v2 v3 Q S) : P_X9_minutes v0 v1 v2 v3 (fun r T => Q r T ∧ K2 S T) S := kf_X9_minutes_0 h (k2_rf S)
set_option maxRecDepth 20000 in
set_option maxHeartbeats 1000000 in
theorem kf_X9_off_128 {Q : Int32 → HS → Prop} {X62 X62_2 : Nat → Int32 → Int32 → Int32 → Int32 → HS → Prop} {v0 : Nat} {v2 : Int32} {v4 : Int32} {v6 : Int32} {v7 : Int32} {S0 S : HS} (h : P_X9_off_128 Q X62 v0 v2 v4 v6 v7 S) (K : K2 S0 S) (hX62 : ∀ (u0 : Nat) (u1 : Int32) (u2 : Int32) (u3 : Int32) (u4 : Int32) (u5 : HS), X62 u0 u1 u2 u3 u4 u5 → K2 S0 u5 → X62_2 u0 u1 u2 u3 u4 u5) : P_X9_off_128 (fun r T => Q r T ∧ K2 S0 T) X62_2 v0 v2 v4 v6 v7 S := by
  delta P_X9_off_128 at h ⊢
  intro x2 e1
  have h := h x2 e1
  exact hX62 _ _ _ _ _ _ h K
set_option maxRecDepth 20000 in
set_option maxHeartbeats 1000000 in
theorem kf_X9_off_104 {Q : Int32 → HS → Prop} {X62 X62_2 : Nat → Int32 → Int32 → Int32 → Int32 → HS → Prop} {v0 : Nat} {v2 : Int32} {v4 : Int32} {v6 : Int32} {v7 : Int32} {s0 : Int32} {S0 S : HS} (h : P_X9_off_104 Q X62 v0 v2 v4 v6 v7 s0 S) (K : K2 S0 S) (hX62 : ∀ (u0 : Nat) (u1 : Int32) (u2 : Int32) (u3 : Int32) (u4 : Int32) (u5 : HS), X62 u0 u1 u2 u3 u4 u5 → K2 S0 u5 → X62_2 u0 u1 u2 u3 u4 u5) : P_X9_off_104 (fun r T => Q r T ∧ K2 S0 T) X62_2 v0 v2 v4 v6 v7 s0 S := by
  delta P_X9_off_104 at h ⊢
  obtain ⟨c1, h⟩ := h
  refine ⟨c1, ?_⟩
  have n2 := k2_ne K c1 (by decide)
  obtain ⟨b3, e4, h⟩ := h
  refine ⟨b3, e4, ?_⟩
  obtain ⟨c5, h⟩ := h
  refine ⟨c5, ?_⟩
  have n6 := k2_ne K c5 (by decide)
  refine cm_X7_isOpen (kf_X7_isOpen h) h (fun x7 x8 hp h g9 g10 => ?_)
  have h := h g9 g10
  have K := k2_tr K hp.2
  refine ⟨?_, ?_⟩
  · intro c11
    have h := h.1 c11
    exact kf_X9_off_128 h K hX62
  · intro c12
    have h := h.2 c12
    refine ⟨?_, ?_⟩
    · intro c13
      have h := h.1 c13
      exact kf_X9_off_128 h K hX62
    · intro c14
      have h := h.2 c14
      exact kf_X9_off_128 h K hX62
set_option maxRecDepth 20000 in
set_option maxHeartbeats 1000000 in
theorem kf_X9_off_99 {Q : Int32 → HS → Prop} {X62 X62_2 : Nat → Int32 → Int32 → Int32 → Int32 → HS → Prop} {v0 : Nat} {v2 : Int32} {v4 : Int32} {v6 : Int32} {v7 : Int32} {S0 S : HS} (h : P_X9_off_99 Q X62 v0 v2 v4 v6 v7 S) (K : K2 S0 S) (hX62 : ∀ (u0 : Nat) (u1 : Int32) (u2 : Int32) (u3 : Int32) (u4 : Int32) (u5 : HS), X62 u0 u1 u2 u3 u4 u5 → K2 S0 u5 → X62_2 u0 u1 u2 u3 u4 u5) : P_X9_off_99 (fun r T => Q r T ∧ K2 S0 T) X62_2 v0 v2 v4 v6 v7 S := by
  delta P_X9_off_99 at h ⊢
  exact kf_X9_off_104 h K hX62
set_option maxRecDepth 20000 in
set_option maxHeartbeats 1000000 in
theorem kfB_X9_off_62 {Q : Int32 → HS → Prop} {X62 X62_2 : Nat → Int32 → Int32 → Int32 → Int32 → HS → Prop} {v0 : Nat} {v2 : Int32} {v4 : Int32} {v6 : Int32} {v7 : Int32} {S0 S : HS} (h : B_X9_off_62 Q X62 v0 v2 v4 v6 v7 S) (K : K2 S0 S) (hX62 : ∀ (u0 : Nat) (u1 : Int32) (u2 : Int32) (u3 : Int32) (u4 : Int32) (u5 : HS), X62 u0 u1 u2 u3 u4 u5 → K2 S0 u5 → X62_2 u0 u1 u2 u3 u4 u5) : B_X9_off_62 (fun r T => Q r T ∧ K2 S0 T) X62_2 v0 v2 v4 v6 v7 S := by
  delta B_X9_off_62 at h ⊢
  refine ⟨?_, ?_⟩
  · intro c1
    have h := h.1 c1
    refine ⟨?_, ?_⟩
    · intro c2
      have h := h.1 c2
      exact ⟨h, K⟩
    · intro c3
      have h := h.2 c3
      obtain ⟨c4, h⟩ := h
      refine ⟨c4, ?_⟩
      have n5 := k2_ne K c4 (by decide)
      refine cm_X9_refuse (kf_X9_refuse h) h (fun x6 x7 hp h g8 => ?_)
      have h := h g8
      have K := k2_tr K hp.2
      exact ⟨h, K⟩
  · intro c9
    have h := h.2 c9
    refine ⟨?_, ?_⟩
    · intro c10
      have h := h.1 c10
      exact kf_X9_off_99 h K hX62
    · intro c11
      have h := h.2 c11
      obtain ⟨c12, h⟩ := h
      refine ⟨c12, ?_⟩
      have n13 := k2_ne K c12 (by decide)
      obtain ⟨b14, e15, h⟩ := h
      refine ⟨b14, e15, ?_⟩
      obtain ⟨c16, h⟩ := h
      refine ⟨c16, ?_⟩
      have n17 := k2_ne K c16 (by decide)
      refine cm_X7_meanFrom (kf_X7_meanFrom h) h (fun x18 x19 hp h g20 => ?_)
      have h := h g20
      have K := k2_tr K hp.2
      obtain ⟨b21, e22, h⟩ := h
      refine ⟨b21, e22, ?_⟩
      obtain ⟨c23, h⟩ := h
      refine ⟨c23, ?_⟩
      have n24 := k2_ne K c23 (by decide)
      refine cm_X7_meanFrom (kf_X7_meanFrom h) h (fun x25 x26 hp h g27 => ?_)
      have h := h g27
      have K := k2_tr K hp.2
      refine ⟨?_, ?_⟩
      · intro c28
        have h := h.1 c28
        exact kf_X9_off_104 h K hX62
      · intro c29
        have h := h.2 c29
        exact kf_X9_off_99 h K hX62
theorem kf_X9_off_62 {Q : Int32 → HS → Prop} {v0 : Nat} {v2 : Int32} {v4 : Int32} {v6 : Int32} {v7 : Int32} {S0 S : HS} (h : P_X9_off_62 Q v0 v2 v4 v6 v7 S) (K : K2 S0 S) : P_X9_off_62 (fun r T => Q r T ∧ K2 S0 T) v0 v2 v4 v6 v7 S := h (fun v0 v2 v4 v6 v7 S => K2 S0 S → P_X9_off_62 (fun r T => Q r T ∧ K2 S0 T) v0 v2 v4 v6 v7 S) (fun v0 v2 v4 v6 v7 S hB K => fd_X9_off_62 (kfB_X9_off_62 hB K (fun _ _ _ _ _ _ hx K => hx K))) K
set_option maxRecDepth 20000 in
set_option maxHeartbeats 1000000 in
theorem kf_X9_off_25 {Q : Int32 → HS → Prop} {v0 : Nat} {v1 : Int32} {v2 : Int32} {v3 : Int32} {v4 : Int32} {v5 : Int32} {S0 S : HS} (h : P_X9_off_25 Q v0 v1 v2 v3 v4 v5 S) (K : K2 S0 S) : P_X9_off_25 (fun r T => Q r T ∧ K2 S0 T) v0 v1 v2 v3 v4 v5 S := by
  delta P_X9_off_25 at h ⊢
  obtain ⟨c1, h⟩ := h
  refine ⟨c1, ?_⟩
  have n2 := k2_ne K c1 (by decide)
  refine cm_X9_refusedBy (kf_X9_refusedBy h) h (fun x3 x4 hp h g5 g6 => ?_)
  have h := h g5 g6
  have K := k2_tr K hp.2
  refine ⟨?_, ?_⟩
  · intro c7
    have h := h.1 c7
    obtain ⟨b8, e9, h⟩ := h
    refine ⟨b8, e9, ?_⟩
    obtain ⟨b10, e11, h⟩ := h
    refine ⟨b10, e11, ?_⟩
    obtain ⟨b12, e13, h⟩ := h
    refine ⟨b12, e13, ?_⟩
    obtain ⟨c14, h⟩ := h
    refine ⟨c14, ?_⟩
    have n15 := k2_ne K c14 (by decide)
    refine cm_X7_reckon (kf_X7_reckon h) h (fun x16 hp h g17 => ?_)
    have h := h g17
    have K := k2_tr K hp.2
    exact kf_X9_off_62 h K
  · intro c18
    have h := h.2 c18
    exact ⟨h, K⟩
set_option maxRecDepth 20000 in
set_option maxHeartbeats 1000000 in
theorem kf_X9_off_0 {Q : Int32 → HS → Prop} {v0 : Nat} {v1 : Int32} {v2 : Int32} {v3 : Int32} {v4 : Int32} {S0 S : HS} (h : P_X9_off_0 Q v0 v1 v2 v3 v4 S) (K : K2 S0 S) : P_X9_off_0 (fun r T => Q r T ∧ K2 S0 T) v0 v1 v2 v3 v4 S := by
  delta P_X9_off_0 at h ⊢
  obtain ⟨c1, h⟩ := h
  refine ⟨c1, ?_⟩
  have n2 := k2_ne K c1 (by decide)
  refine cm_X9_placesTrouble (kf_X9_placesTrouble h) h (fun x3 x4 hp h g5 => ?_)
  have h := h g5
  have K := k2_tr K hp.2
  refine ⟨?_, ?_⟩
  · intro c6
    have h := h.1 c6
    exact kf_X9_off_25 h K
  · intro c7
    have h := h.2 c7
    refine cm_X9_isTill (kf_X9_isTill h) h (fun x8 x9 hp h g10 g11 => ?_)
    have h := h g10 g11
    have K := k2_tr K hp.2
    refine ⟨?_, ?_⟩
    · intro c12
      have h := h.1 c12
      exact kf_X9_off_25 h K
    · intro c13
      have h := h.2 c13
      exact kf_X9_off_25 h K
theorem kf_X9_off {Q : Int32 → HS → Prop} {v0 : Nat} {v1 : Int32} {v2 : Int32} {v3 : Int32} {v4 : Int32} {S : HS} (h : P_X9_off v0 v1 v2 v3 v4 Q S) : P_X9_off v0 v1 v2 v3 v4 (fun r T => Q r T ∧ K2 S T) S := kf_X9_off_0 h (k2_rf S)
set_option maxRecDepth 20000 in
set_option maxHeartbeats 1000000 in
theorem kf_X9_road_20 {Q : Int32 → HS → Prop} {v0 : Nat} {S0 S : HS} (h : P_X9_road_20 Q v0 S) (K : K2 S0 S) : P_X9_road_20 (fun r T => Q r T ∧ K2 S0 T) v0 S := by
  delta P_X9_road_20 at h ⊢
  obtain ⟨c1, h⟩ := h
  refine ⟨c1, ?_⟩
  have n2 := k2_ne K c1 (by decide)
  refine cm_X9_refuse (kf_X9_refuse h) h (fun x3 x4 hp h g5 => ?_)
  have h := h g5
  have K := k2_tr K hp.2
  exact ⟨h, K⟩
set_option maxRecDepth 20000 in
set_option maxHeartbeats 1000000 in
theorem kf_X9_road_0 {Q : Int32 → HS → Prop} {v0 : Nat} {v1 : Int32} {v2 : Int32} {S0 S : HS} (h : P_X9_road_0 Q v0 v1 v2 S) (K : K2 S0 S) : P_X9_road_0 (fun r T => Q r T ∧ K2 S0 T) v0 v1 v2 S := by
  delta P_X9_road_0 at h ⊢
  obtain ⟨c1, h⟩ := h
  refine ⟨c1, ?_⟩
  have n2 := k2_ne K c1 (by decide)
  obtain ⟨b3, e4, h⟩ := h
  refine ⟨b3, e4, ?_⟩
  obtain ⟨c5, h⟩ := h
  refine ⟨c5, ?_⟩
  have n6 := k2_ne K c5 (by decide)
  refine cm_X8_hasRoad (kf_X8_hasRoad h) h (fun x7 x8 hp h g9 g10 => ?_)
  have h := h g9 g10
  have K := k2_tr K hp.2
  refine ⟨?_, ?_⟩
  · intro c11
    have h := h.1 c11
    exact kf_X9_road_20 h K
  · intro c12
    have h := h.2 c12
    refine ⟨?_, ?_⟩
    · intro c13
      have h := h.1 c13
      exact kf_X9_road_20 h K
    · intro c14
      have h := h.2 c14
      refine ⟨?_, ?_⟩
      · intro c15
        have h := h.1 c15
        obtain ⟨b16, e17, h⟩ := h
        refine ⟨b16, e17, ?_⟩
        obtain ⟨c18, h⟩ := h
        refine ⟨c18, ?_⟩
        have n19 := k2_ne K c18 (by decide)
        obtain ⟨b20, e21, h⟩ := h
        refine ⟨b20, e21, ?_⟩
        obtain ⟨c22, h⟩ := h
        refine ⟨c22, ?_⟩
        have n23 := k2_ne K c22 (by decide)
        obtain ⟨c24, h⟩ := h
        refine ⟨c24, ?_⟩
        obtain ⟨b25, e26, h⟩ := h
        refine ⟨b25, e26, ?_⟩
        obtain ⟨c27, h⟩ := h
        refine ⟨c27, ?_⟩
        have n28 := k2_ne K c27 (by decide)
        refine cm_X5_tell (kf_X5_tell h) h (fun x29 x30 hp h g31 => ?_)
        have h := h g31
        have K := k2_tr K hp.2
        refine cm_X9_grant (kf_X9_grant h) h (fun x32 x33 hp h g34 => ?_)
        have h := h g34
        have K := k2_tr K hp.2
        exact ⟨h, K⟩
      · intro c35
        have h := h.2 c35
        exact kf_X9_road_20 h K
theorem kf_X9_road {Q : Int32 → HS → Prop} {v0 : Nat} {v1 : Int32} {v2 : Int32} {S : HS} (h : P_X9_road v0 v1 v2 Q S) : P_X9_road v0 v1 v2 (fun r T => Q r T ∧ K2 S T) S := kf_X9_road_0 h (k2_rf S)
set_option maxRecDepth 20000 in
set_option maxHeartbeats 1000000 in
theorem kf_X9_round_0 {Q : Int64 → HS → Prop} {v0 : Nat} {v1 : Int32} {v2 : Int32} {v3 : Int32} {v4 : Int32} {S0 S : HS} (h : P_X9_round_0 Q v0 v1 v2 v3 v4 S) (K : K2 S0 S) : P_X9_round_0 (fun r T => Q r T ∧ K2 S0 T) v0 v1 v2 v3 v4 S := by
  delta P_X9_round_0 at h ⊢
  obtain ⟨c1, h⟩ := h
  refine ⟨c1, ?_⟩
  have n2 := k2_ne K c1 (by decide)
  refine cm_X9_tripTrouble (kf_X9_tripTrouble h) h (fun x3 x4 hp h g5 => ?_)
  have h := h g5
  have K := k2_tr K hp.2
  refine cm_X9_refusedBy (kf_X9_refusedBy h) h (fun x6 x7 hp h g8 g9 => ?_)
  have h := h g8 g9
  have K := k2_tr K hp.2
  refine ⟨?_, ?_⟩
  · intro c10
    have h := h.1 c10
    obtain ⟨b11, e12, h⟩ := h
    refine ⟨b11, e12, ?_⟩
    obtain ⟨b13, e14, h⟩ := h
    refine ⟨b13, e14, ?_⟩
    obtain ⟨c15, h⟩ := h
    refine ⟨c15, ?_⟩
    have n16 := k2_ne K c15 (by decide)
    obtain ⟨b17, e18, h⟩ := h
    refine ⟨b17, e18, ?_⟩
    obtain ⟨c19, h⟩ := h
    refine ⟨c19, ?_⟩
    have n20 := k2_ne K c19 (by decide)
    obtain ⟨c21, h⟩ := h
    refine ⟨c21, ?_⟩
    obtain ⟨b22, e23, h⟩ := h
    refine ⟨b22, e23, ?_⟩
    obtain ⟨b24, e25, h⟩ := h
    refine ⟨b24, e25, ?_⟩
    obtain ⟨c26, h⟩ := h
    refine ⟨c26, ?_⟩
    have n27 := k2_ne K c26 (by decide)
    obtain ⟨b28, e29, h⟩ := h
    refine ⟨b28, e29, ?_⟩
    obtain ⟨c30, h⟩ := h
    refine ⟨c30, ?_⟩
    have n31 := k2_ne K c30 (by decide)
    obtain ⟨c32, h⟩ := h
    refine ⟨c32, ?_⟩
    obtain ⟨b33, e34, h⟩ := h
    refine ⟨b33, e34, ?_⟩
    obtain ⟨b35, e36, h⟩ := h
    refine ⟨b35, e36, ?_⟩
    obtain ⟨c37, h⟩ := h
    refine ⟨c37, ?_⟩
    have n38 := k2_ne K c37 (by decide)
    obtain ⟨b39, e40, h⟩ := h
    refine ⟨b39, e40, ?_⟩
    obtain ⟨c41, h⟩ := h
    refine ⟨c41, ?_⟩
    have n42 := k2_ne K c41 (by decide)
    obtain ⟨c43, h⟩ := h
    refine ⟨c43, ?_⟩
    obtain ⟨b44, e45, h⟩ := h
    refine ⟨b44, e45, ?_⟩
    obtain ⟨c46, h⟩ := h
    refine ⟨c46, ?_⟩
    have n47 := k2_ne K c46 (by decide)
    refine cm_X1_leastWet (kf_X1_leastWet h) h (fun x48 x49 hp h g50 => ?_)
    have h := h g50
    have K := k2_tr K hp.2
    obtain ⟨b51, e52, h⟩ := h
    refine ⟨b51, e52, ?_⟩
    obtain ⟨b53, e54, h⟩ := h
    refine ⟨b53, e54, ?_⟩
    obtain ⟨c55, h⟩ := h
    refine ⟨c55, ?_⟩
    have n56 := k2_ne K c55 (by decide)
    obtain ⟨b57, e58, h⟩ := h
    refine ⟨b57, e58, ?_⟩
    obtain ⟨c59, h⟩ := h
    refine ⟨c59, ?_⟩
    have n60 := k2_ne K c59 (by decide)
    obtain ⟨c61, h⟩ := h
    refine ⟨c61, ?_⟩
    obtain ⟨b62, e63, h⟩ := h
    refine ⟨b62, e63, ?_⟩
    obtain ⟨b64, e65, h⟩ := h
    refine ⟨b64, e65, ?_⟩
    obtain ⟨c66, h⟩ := h
    refine ⟨c66, ?_⟩
    have n67 := k2_ne K c66 (by decide)
    obtain ⟨b68, e69, h⟩ := h
    refine ⟨b68, e69, ?_⟩
    obtain ⟨c70, h⟩ := h
    refine ⟨c70, ?_⟩
    have n71 := k2_ne K c70 (by decide)
    obtain ⟨c72, h⟩ := h
    refine ⟨c72, ?_⟩
    obtain ⟨b73, e74, h⟩ := h
    refine ⟨b73, e74, ?_⟩
    obtain ⟨b75, e76, h⟩ := h
    refine ⟨b75, e76, ?_⟩
    obtain ⟨c77, h⟩ := h
    refine ⟨c77, ?_⟩
    have n78 := k2_ne K c77 (by decide)
    obtain ⟨b79, e80, h⟩ := h
    refine ⟨b79, e80, ?_⟩
    obtain ⟨c81, h⟩ := h
    refine ⟨c81, ?_⟩
    have n82 := k2_ne K c81 (by decide)
    obtain ⟨c83, h⟩ := h
    refine ⟨c83, ?_⟩
    obtain ⟨b84, e85, h⟩ := h
    refine ⟨b84, e85, ?_⟩
    obtain ⟨c86, h⟩ := h
    refine ⟨c86, ?_⟩
    have n87 := k2_ne K c86 (by decide)
    refine cm_X1_leastWet (kf_X1_leastWet h) h (fun x88 x89 hp h g90 => ?_)
    have h := h g90
    have K := k2_tr K hp.2
    refine cm_X9_fraction (kf_X9_fraction h) h (fun x91 x92 hp h g93 => ?_)
    have h := h g93
    have K := k2_tr K hp.2
    exact ⟨h, K⟩
  · intro c94
    have h := h.2 c94
    exact ⟨h, K⟩
theorem kf_X9_round {Q : Int64 → HS → Prop} {v0 : Nat} {v1 : Int32} {v2 : Int32} {v3 : Int32} {v4 : Int32} {S : HS} (h : P_X9_round v0 v1 v2 v3 v4 Q S) : P_X9_round v0 v1 v2 v3 v4 (fun r T => Q r T ∧ K2 S T) S := kf_X9_round_0 h (k2_rf S)
set_option maxRecDepth 20000 in
set_option maxHeartbeats 1000000 in
theorem kf_X9_saves_0 {Q : Int64 → HS → Prop} {v0 : Nat} {v1 : Int32} {v2 : Int32} {v3 : Int32} {v4 : Int32} {v5 : Int32} {S0 S : HS} (h : P_X9_saves_0 Q v0 v1 v2 v3 v4 v5 S) (K : K2 S0 S) : P_X9_saves_0 (fun r T => Q r T ∧ K2 S0 T) v0 v1 v2 v3 v4 v5 S := by
  delta P_X9_saves_0 at h ⊢
  obtain ⟨c1, h⟩ := h
  refine ⟨c1, ?_⟩
  have n2 := k2_ne K c1 (by decide)
  refine cm_X9_tripTrouble (kf_X9_tripTrouble h) h (fun x3 x4 hp h g5 => ?_)
  have h := h g5
  have K := k2_tr K hp.2
  refine cm_X9_refusedBy (kf_X9_refusedBy h) h (fun x6 x7 hp h g8 g9 => ?_)
  have h := h g8 g9
  have K := k2_tr K hp.2
  refine ⟨?_, ?_⟩
  · intro c10
    have h := h.1 c10
    obtain ⟨b11, e12, h⟩ := h
    refine ⟨b11, e12, ?_⟩
    obtain ⟨c13, h⟩ := h
    refine ⟨c13, ?_⟩
    have n14 := k2_ne K c13 (by decide)
    obtain ⟨b15, e16, h⟩ := h
    refine ⟨b15, e16, ?_⟩
    obtain ⟨c17, h⟩ := h
    refine ⟨c17, ?_⟩
    have n18 := k2_ne K c17 (by decide)
    obtain ⟨c19, h⟩ := h
    refine ⟨c19, ?_⟩
    obtain ⟨b20, e21, h⟩ := h
    refine ⟨b20, e21, ?_⟩
    obtain ⟨b22, e23, h⟩ := h
    refine ⟨b22, e23, ?_⟩
    obtain ⟨b24, e25, h⟩ := h
    refine ⟨b24, e25, ?_⟩
    obtain ⟨c26, h⟩ := h
    refine ⟨c26, ?_⟩
    have n27 := k2_ne K c26 (by decide)
    obtain ⟨b28, e29, h⟩ := h
    refine ⟨b28, e29, ?_⟩
    obtain ⟨c30, h⟩ := h
    refine ⟨c30, ?_⟩
    have n31 := k2_ne K c30 (by decide)
    obtain ⟨c32, h⟩ := h
    refine ⟨c32, ?_⟩
    obtain ⟨b33, e34, h⟩ := h
    refine ⟨b33, e34, ?_⟩
    obtain ⟨b35, e36, h⟩ := h
    refine ⟨b35, e36, ?_⟩
    obtain ⟨c37, h⟩ := h
    refine ⟨c37, ?_⟩
    have n38 := k2_ne K c37 (by decide)
    obtain ⟨b39, e40, h⟩ := h
    refine ⟨b39, e40, ?_⟩
    obtain ⟨c41, h⟩ := h
    refine ⟨c41, ?_⟩
    have n42 := k2_ne K c41 (by decide)
    obtain ⟨c43, h⟩ := h
    refine ⟨c43, ?_⟩
    obtain ⟨b44, e45, h⟩ := h
    refine ⟨b44, e45, ?_⟩
    obtain ⟨c46, h⟩ := h
    refine ⟨c46, ?_⟩
    have n47 := k2_ne K c46 (by decide)
    intro x49 e48
    have h := h x49 e48
    obtain ⟨c50, h⟩ := h
    refine ⟨c50, ?_⟩
    have n51 := k2_ne K c50 (by decide)
    refine cm_X1_wetOf (kf_X1_wetOf h) h (fun x52 x53 hp h g54 => ?_)
    have h := h g54
    have K := k2_tr K hp.2
    obtain ⟨b55, e56, h⟩ := h
    refine ⟨b55, e56, ?_⟩
    obtain ⟨b57, e58, h⟩ := h
    refine ⟨b57, e58, ?_⟩
    obtain ⟨c59, h⟩ := h
    refine ⟨c59, ?_⟩
    have n60 := k2_ne K c59 (by decide)
    obtain ⟨b61, e62, h⟩ := h
    refine ⟨b61, e62, ?_⟩
    obtain ⟨c63, h⟩ := h
    refine ⟨c63, ?_⟩
    have n64 := k2_ne K c63 (by decide)
    obtain ⟨c65, h⟩ := h
    refine ⟨c65, ?_⟩
    obtain ⟨b66, e67, h⟩ := h
    refine ⟨b66, e67, ?_⟩
    obtain ⟨b68, e69, h⟩ := h
    refine ⟨b68, e69, ?_⟩
    obtain ⟨c70, h⟩ := h
    refine ⟨c70, ?_⟩
    have n71 := k2_ne K c70 (by decide)
    obtain ⟨b72, e73, h⟩ := h
    refine ⟨b72, e73, ?_⟩
    obtain ⟨c74, h⟩ := h
    refine ⟨c74, ?_⟩
    have n75 := k2_ne K c74 (by decide)
    obtain ⟨c76, h⟩ := h
    refine ⟨c76, ?_⟩
    obtain ⟨b77, e78, h⟩ := h
    refine ⟨b77, e78, ?_⟩
    obtain ⟨c79, h⟩ := h
    refine ⟨c79, ?_⟩
    have n80 := k2_ne K c79 (by decide)
    refine cm_X1_leastWet (kf_X1_leastWet h) h (fun x81 x82 hp h g83 => ?_)
    have h := h g83
    have K := k2_tr K hp.2
    refine cm_X9_fraction (kf_X9_fraction h) h (fun x84 x85 hp h g86 => ?_)
    have h := h g86
    have K := k2_tr K hp.2
    exact ⟨h, K⟩
  · intro c87
    have h := h.2 c87
    exact ⟨h, K⟩
theorem kf_X9_saves {Q : Int64 → HS → Prop} {v0 : Nat} {v1 : Int32} {v2 : Int32} {v3 : Int32} {v4 : Int32} {v5 : Int32} {S : HS} (h : P_X9_saves v0 v1 v2 v3 v4 v5 Q S) : P_X9_saves v0 v1 v2 v3 v4 v5 (fun r T => Q r T ∧ K2 S T) S := kf_X9_saves_0 h (k2_rf S)
set_option maxRecDepth 20000 in
set_option maxHeartbeats 1000000 in
theorem kf_X9_size_0 {Q : Int32 → HS → Prop} {v0 : Nat} {v1 : Int32} {S0 S : HS} (h : P_X9_size_0 Q v0 v1 S) (K : K2 S0 S) : P_X9_size_0 (fun r T => Q r T ∧ K2 S0 T) v0 v1 S := by
  delta P_X9_size_0 at h ⊢
  refine ⟨?_, ?_, ?_, ?_, ?_, ?_, ?_, ?_, ?_, ?_, ?_, ?_, ?_⟩
  · intro c1
    have h := h.1 c1
    exact ⟨h, K⟩
  · intro c2
    have h := h.2.1 c2
    obtain ⟨c3, h⟩ := h
    refine ⟨c3, ?_⟩
    have n4 := k2_ne K c3 (by decide)
    obtain ⟨b5, e6, h⟩ := h
    refine ⟨b5, e6, ?_⟩
    obtain ⟨c7, h⟩ := h
    refine ⟨c7, ?_⟩
    have n8 := k2_ne K c7 (by decide)
    intro x10 e9
    have h := h x10 e9
    exact ⟨h, K⟩
  · intro c11
    have h := h.2.2.1 c11
    obtain ⟨c12, h⟩ := h
    refine ⟨c12, ?_⟩
    have n13 := k2_ne K c12 (by decide)
    obtain ⟨b14, e15, h⟩ := h
    refine ⟨b14, e15, ?_⟩
    obtain ⟨c16, h⟩ := h
    refine ⟨c16, ?_⟩
    have n17 := k2_ne K c16 (by decide)
    intro x19 e18
    have h := h x19 e18
    exact ⟨h, K⟩
  · intro c20
    have h := h.2.2.2.1 c20
    obtain ⟨c21, h⟩ := h
    refine ⟨c21, ?_⟩
    have n22 := k2_ne K c21 (by decide)
    obtain ⟨b23, e24, h⟩ := h
    refine ⟨b23, e24, ?_⟩
    obtain ⟨c25, h⟩ := h
    refine ⟨c25, ?_⟩
    have n26 := k2_ne K c25 (by decide)
    intro x28 e27
    have h := h x28 e27
    exact ⟨h, K⟩
  · intro c29
    have h := h.2.2.2.2.1 c29
    obtain ⟨c30, h⟩ := h
    refine ⟨c30, ?_⟩
    have n31 := k2_ne K c30 (by decide)
    obtain ⟨b32, e33, h⟩ := h
    refine ⟨b32, e33, ?_⟩
    obtain ⟨c34, h⟩ := h
    refine ⟨c34, ?_⟩
    have n35 := k2_ne K c34 (by decide)
    intro x37 e36
    have h := h x37 e36
    exact ⟨h, K⟩
  · intro c38
    have h := h.2.2.2.2.2.1 c38
    obtain ⟨c39, h⟩ := h
    refine ⟨c39, ?_⟩
    have n40 := k2_ne K c39 (by decide)
    obtain ⟨b41, e42, h⟩ := h
    refine ⟨b41, e42, ?_⟩
    obtain ⟨c43, h⟩ := h
    refine ⟨c43, ?_⟩
    have n44 := k2_ne K c43 (by decide)
    intro x46 e45
    have h := h x46 e45
    exact ⟨h, K⟩
  · intro c47
    have h := h.2.2.2.2.2.2.1 c47
    obtain ⟨c48, h⟩ := h
    refine ⟨c48, ?_⟩
    have n49 := k2_ne K c48 (by decide)
    obtain ⟨b50, e51, h⟩ := h
    refine ⟨b50, e51, ?_⟩
    obtain ⟨c52, h⟩ := h
    refine ⟨c52, ?_⟩
    have n53 := k2_ne K c52 (by decide)
    intro x55 e54
    have h := h x55 e54
    exact ⟨h, K⟩
  · intro c56
    have h := h.2.2.2.2.2.2.2.1 c56
    obtain ⟨c57, h⟩ := h
    refine ⟨c57, ?_⟩
    have n58 := k2_ne K c57 (by decide)
    obtain ⟨b59, e60, h⟩ := h
    refine ⟨b59, e60, ?_⟩
    obtain ⟨c61, h⟩ := h
    refine ⟨c61, ?_⟩
    have n62 := k2_ne K c61 (by decide)
    refine cm_X0_isOn (kf_X0_isOn h) h (fun x63 x64 hp h g65 g66 => ?_)
    have h := h g65 g66
    have K := k2_tr K hp.2
    refine ⟨?_, ?_⟩
    · intro c67
      have h := h.1 c67
      exact ⟨h, K⟩
    · intro c68
      have h := h.2 c68
      obtain ⟨b69, e70, h⟩ := h
      refine ⟨b69, e70, ?_⟩
      obtain ⟨c71, h⟩ := h
      refine ⟨c71, ?_⟩
      have n72 := k2_ne K c71 (by decide)
      intro x74 e73
      have h := h x74 e73
      exact ⟨h, K⟩
  · intro c75
    have h := h.2.2.2.2.2.2.2.2.1 c75
    obtain ⟨c76, h⟩ := h
    refine ⟨c76, ?_⟩
    have n77 := k2_ne K c76 (by decide)
    obtain ⟨b78, e79, h⟩ := h
    refine ⟨b78, e79, ?_⟩
    obtain ⟨c80, h⟩ := h
    refine ⟨c80, ?_⟩
    have n81 := k2_ne K c80 (by decide)
    refine cm_X0_isOn (kf_X0_isOn h) h (fun x82 x83 hp h g84 g85 => ?_)
    have h := h g84 g85
    have K := k2_tr K hp.2
    refine ⟨?_, ?_⟩
    · intro c86
      have h := h.1 c86
      exact ⟨h, K⟩
    · intro c87
      have h := h.2 c87
      obtain ⟨b88, e89, h⟩ := h
      refine ⟨b88, e89, ?_⟩
      obtain ⟨c90, h⟩ := h
      refine ⟨c90, ?_⟩
      have n91 := k2_ne K c90 (by decide)
      obtain ⟨b92, e93, h⟩ := h
      refine ⟨b92, e93, ?_⟩
      obtain ⟨c94, h⟩ := h
      refine ⟨c94, ?_⟩
      have n95 := k2_ne K c94 (by decide)
      intro x97 e96
      have h := h x97 e96
      exact ⟨h, K⟩
  · intro c98
    have h := h.2.2.2.2.2.2.2.2.2.1 c98
    obtain ⟨c99, h⟩ := h
    refine ⟨c99, ?_⟩
    have n100 := k2_ne K c99 (by decide)
    obtain ⟨b101, e102, h⟩ := h
    refine ⟨b101, e102, ?_⟩
    obtain ⟨c103, h⟩ := h
    refine ⟨c103, ?_⟩
    have n104 := k2_ne K c103 (by decide)
    refine cm_X0_isOn (kf_X0_isOn h) h (fun x105 x106 hp h g107 g108 => ?_)
    have h := h g107 g108
    have K := k2_tr K hp.2
    refine ⟨?_, ?_⟩
    · intro c109
      have h := h.1 c109
      exact ⟨h, K⟩
    · intro c110
      have h := h.2 c110
      obtain ⟨b111, e112, h⟩ := h
      refine ⟨b111, e112, ?_⟩
      obtain ⟨c113, h⟩ := h
      refine ⟨c113, ?_⟩
      have n114 := k2_ne K c113 (by decide)
      obtain ⟨b115, e116, h⟩ := h
      refine ⟨b115, e116, ?_⟩
      obtain ⟨c117, h⟩ := h
      refine ⟨c117, ?_⟩
      have n118 := k2_ne K c117 (by decide)
      intro x120 e119
      have h := h x120 e119
      exact ⟨h, K⟩
  · intro c121
    have h := h.2.2.2.2.2.2.2.2.2.2.1 c121
    obtain ⟨c122, h⟩ := h
    refine ⟨c122, ?_⟩
    have n123 := k2_ne K c122 (by decide)
    obtain ⟨b124, e125, h⟩ := h
    refine ⟨b124, e125, ?_⟩
    obtain ⟨c126, h⟩ := h
    refine ⟨c126, ?_⟩
    have n127 := k2_ne K c126 (by decide)
    intro x129 e128
    have h := h x129 e128
    exact ⟨h, K⟩
  · intro c130
    have h := h.2.2.2.2.2.2.2.2.2.2.2.1 c130
    obtain ⟨c131, h⟩ := h
    refine ⟨c131, ?_⟩
    have n132 := k2_ne K c131 (by decide)
    obtain ⟨b133, e134, h⟩ := h
    refine ⟨b133, e134, ?_⟩
    obtain ⟨c135, h⟩ := h
    refine ⟨c135, ?_⟩
    have n136 := k2_ne K c135 (by decide)
    intro x138 e137
    have h := h x138 e137
    exact ⟨h, K⟩
  · intro c139
    have h := h.2.2.2.2.2.2.2.2.2.2.2.2 c139
    obtain ⟨c140, h⟩ := h
    refine ⟨c140, ?_⟩
    have n141 := k2_ne K c140 (by decide)
    intro x143 e142
    have h := h x143 e142
    exact ⟨h, K⟩
theorem kf_X9_size {Q : Int32 → HS → Prop} {v0 : Nat} {v1 : Int32} {S : HS} (h : P_X9_size v0 v1 Q S) : P_X9_size v0 v1 (fun r T => Q r T ∧ K2 S T) S := kf_X9_size_0 h (k2_rf S)
set_option maxRecDepth 20000 in
set_option maxHeartbeats 1000000 in
theorem kf_X9_soaked_27 {Q : Int32 → HS → Prop} {v0 : Nat} {S0 S : HS} (h : P_X9_soaked_27 Q v0 S) (K : K2 S0 S) : P_X9_soaked_27 (fun r T => Q r T ∧ K2 S0 T) v0 S := by
  delta P_X9_soaked_27 at h ⊢
  obtain ⟨c1, h⟩ := h
  refine ⟨c1, ?_⟩
  have n2 := k2_ne K c1 (by decide)
  refine cm_X9_refuse (kf_X9_refuse h) h (fun x3 x4 hp h g5 => ?_)
  have h := h g5
  have K := k2_tr K hp.2
  exact ⟨h, K⟩
set_option maxRecDepth 20000 in
set_option maxHeartbeats 1000000 in
theorem kf_X9_soaked_88 {Q : Int32 → HS → Prop} {s0 : Nat} {s1 : Int32} {S0 S : HS} (h : P_X9_soaked_88 Q s0 s1 S) (K : K2 S0 S) : P_X9_soaked_88 (fun r T => Q r T ∧ K2 S0 T) s0 s1 S := by
  delta P_X9_soaked_88 at h ⊢
  obtain ⟨c1, h⟩ := h
  refine ⟨c1, ?_⟩
  have n2 := k2_ne K c1 (by decide)
  refine cm_X9_grant (kf_X9_grant h) h (fun x3 x4 hp h g5 => ?_)
  have h := h g5
  have K := k2_tr K hp.2
  exact ⟨h, K⟩
set_option maxRecDepth 20000 in
set_option maxHeartbeats 1000000 in
theorem kf_X9_soaked_0 {Q : Int32 → HS → Prop} {v0 : Nat} {S0 S : HS} (h : P_X9_soaked_0 Q v0 S) (K : K2 S0 S) : P_X9_soaked_0 (fun r T => Q r T ∧ K2 S0 T) v0 S := by
  delta P_X9_soaked_0 at h ⊢
  obtain ⟨c1, h⟩ := h
  refine ⟨c1, ?_⟩
  have n2 := k2_ne K c1 (by decide)
  obtain ⟨b3, e4, h⟩ := h
  refine ⟨b3, e4, ?_⟩
  obtain ⟨c5, h⟩ := h
  refine ⟨c5, ?_⟩
  have n6 := k2_ne K c5 (by decide)
  refine cm_X0_isOn (kf_X0_isOn h) h (fun x7 x8 hp h g9 g10 => ?_)
  have h := h g9 g10
  have K := k2_tr K hp.2
  refine ⟨?_, ?_⟩
  · intro c11
    have h := h.1 c11
    exact kf_X9_soaked_27 h K
  · intro c12
    have h := h.2 c12
    obtain ⟨b13, e14, h⟩ := h
    refine ⟨b13, e14, ?_⟩
    obtain ⟨b15, e16, h⟩ := h
    refine ⟨b15, e16, ?_⟩
    obtain ⟨c17, h⟩ := h
    refine ⟨c17, ?_⟩
    have n18 := k2_ne K c17 (by decide)
    intro x20 e19
    have h := h x20 e19
    obtain ⟨c21, h⟩ := h
    refine ⟨c21, ?_⟩
    have n22 := k2_ne K c21 (by decide)
    refine cm_X8_hasWalker (kf_X8_hasWalker h) h (fun x23 x24 hp h g25 g26 => ?_)
    have h := h g25 g26
    have K := k2_tr K hp.2
    refine ⟨?_, ?_⟩
    · intro c27
      have h := h.1 c27
      obtain ⟨b28, e29, h⟩ := h
      refine ⟨b28, e29, ?_⟩
      obtain ⟨c30, h⟩ := h
      refine ⟨c30, ?_⟩
      have n31 := k2_ne K c30 (by decide)
      obtain ⟨b32, e33, h⟩ := h
      refine ⟨b32, e33, ?_⟩
      obtain ⟨b34, e35, h⟩ := h
      refine ⟨b34, e35, ?_⟩
      obtain ⟨c36, h⟩ := h
      refine ⟨c36, ?_⟩
      have n37 := k2_ne K c36 (by decide)
      intro x39 e38
      have h := h x39 e38
      obtain ⟨c40, h⟩ := h
      refine ⟨c40, ?_⟩
      have n41 := k2_ne K c40 (by decide)
      obtain ⟨c42, h⟩ := h
      refine ⟨c42, ?_⟩
      obtain ⟨b43, e44, h⟩ := h
      refine ⟨b43, e44, ?_⟩
      obtain ⟨c45, h⟩ := h
      refine ⟨c45, ?_⟩
      have n46 := k2_ne K c45 (by decide)
      intro x48 e47
      have h := h x48 e47
      refine ⟨?_, ?_⟩
      · intro c49
        have h := h.1 c49
        obtain ⟨b50, e51, h⟩ := h
        refine ⟨b50, e51, ?_⟩
        obtain ⟨c52, h⟩ := h
        refine ⟨c52, ?_⟩
        have n53 := k2_ne K c52 (by decide)
        obtain ⟨b54, e55, h⟩ := h
        refine ⟨b54, e55, ?_⟩
        obtain ⟨c56, h⟩ := h
        refine ⟨c56, ?_⟩
        have n57 := k2_ne K c56 (by decide)
        refine cm_X2_allGot (kf_X2_allGot h) h (fun x58 x59 hp h g60 => ?_)
        have h := h g60
        have K := k2_tr K hp.2
        refine cm_X9_coatParts (kf_X9_coatParts h) h (fun x61 x62 hp h g63 => ?_)
        have h := h g63
        have K := k2_tr K hp.2
        refine ⟨?_, ?_⟩
        · intro c64
          have h := h.1 c64
          exact kf_X9_soaked_88 h K
        · intro c65
          have h := h.2 c65
          exact kf_X9_soaked_88 h K
      · intro c66
        have h := h.2 c66
        refine cm_X9_grant (kf_X9_grant h) h (fun x67 x68 hp h g69 => ?_)
        have h := h g69
        have K := k2_tr K hp.2
        exact ⟨h, K⟩
    · intro c70
      have h := h.2 c70
      exact kf_X9_soaked_27 h K
theorem kf_X9_soaked {Q : Int32 → HS → Prop} {v0 : Nat} {S : HS} (h : P_X9_soaked v0 Q S) : P_X9_soaked v0 (fun r T => Q r T ∧ K2 S T) S := kf_X9_soaked_0 h (k2_rf S)
set_option maxRecDepth 20000 in
set_option maxHeartbeats 1000000 in
theorem kf_X9_stayTrouble_0 {Q : Int32 → HS → Prop} {v0 : Nat} {v1 : Int32} {S0 S : HS} (h : P_X9_stayTrouble_0 Q v0 v1 S) (K : K2 S0 S) : P_X9_stayTrouble_0 (fun r T => Q r T ∧ K2 S0 T) v0 v1 S := by
  delta P_X9_stayTrouble_0 at h ⊢
  obtain ⟨c1, h⟩ := h
  refine ⟨c1, ?_⟩
  have n2 := k2_ne K c1 (by decide)
  obtain ⟨b3, e4, h⟩ := h
  refine ⟨b3, e4, ?_⟩
  obtain ⟨c5, h⟩ := h
  refine ⟨c5, ?_⟩
  have n6 := k2_ne K c5 (by decide)
  refine cm_X0_isOn (kf_X0_isOn h) h (fun x7 x8 hp h g9 g10 => ?_)
  have h := h g9 g10
  have K := k2_tr K hp.2
  refine ⟨?_, ?_⟩
  · intro c11
    have h := h.1 c11
    exact ⟨h, K⟩
  · intro c12
    have h := h.2 c12
    obtain ⟨b13, e14, h⟩ := h
    refine ⟨b13, e14, ?_⟩
    obtain ⟨b15, e16, h⟩ := h
    refine ⟨b15, e16, ?_⟩
    obtain ⟨c17, h⟩ := h
    refine ⟨c17, ?_⟩
    have n18 := k2_ne K c17 (by decide)
    intro x20 e19
    have h := h x20 e19
    obtain ⟨c21, h⟩ := h
    refine ⟨c21, ?_⟩
    have n22 := k2_ne K c21 (by decide)
    refine cm_X8_hasWalker (kf_X8_hasWalker h) h (fun x23 x24 hp h g25 g26 => ?_)
    have h := h g25 g26
    have K := k2_tr K hp.2
    refine ⟨?_, ?_⟩
    · intro c27
      have h := h.1 c27
      refine ⟨?_, ?_⟩
      · intro c28
        have h := h.1 c28
        exact ⟨h, K⟩
      · intro c29
        have h := h.2 c29
        refine ⟨?_, ?_⟩
        · intro c30
          have h := h.1 c30
          obtain ⟨b31, e32, h⟩ := h
          refine ⟨b31, e32, ?_⟩
          obtain ⟨b33, e34, h⟩ := h
          refine ⟨b33, e34, ?_⟩
          obtain ⟨c35, h⟩ := h
          refine ⟨c35, ?_⟩
          have n36 := k2_ne K c35 (by decide)
          obtain ⟨b37, e38, h⟩ := h
          refine ⟨b37, e38, ?_⟩
          obtain ⟨c39, h⟩ := h
          refine ⟨c39, ?_⟩
          have n40 := k2_ne K c39 (by decide)
          intro x42 e41
          have h := h x42 e41
          obtain ⟨c43, h⟩ := h
          refine ⟨c43, ?_⟩
          have n44 := k2_ne K c43 (by decide)
          refine cm_X8_canWait (kf_X8_canWait h) h (fun x45 x46 hp h g47 g48 => ?_)
          have h := h g47 g48
          have K := k2_tr K hp.2
          refine ⟨?_, ?_⟩
          · intro c49
            have h := h.1 c49
            obtain ⟨b50, e51, h⟩ := h
            refine ⟨b50, e51, ?_⟩
            obtain ⟨c52, h⟩ := h
            refine ⟨c52, ?_⟩
            have n53 := k2_ne K c52 (by decide)
            obtain ⟨b54, e55, h⟩ := h
            refine ⟨b54, e55, ?_⟩
            obtain ⟨c56, h⟩ := h
            refine ⟨c56, ?_⟩
            have n57 := k2_ne K c56 (by decide)
            intro x59 e58
            have h := h x59 e58
            refine ⟨?_, ?_⟩
            · intro c60
              have h := h.1 c60
              exact ⟨h, K⟩
            · intro c61
              have h := h.2 c61
              exact ⟨h, K⟩
          · intro c62
            have h := h.2 c62
            exact ⟨h, K⟩
        · intro c63
          have h := h.2 c63
          exact ⟨h, K⟩
    · intro c64
      have h := h.2 c64
      exact ⟨h, K⟩
theorem kf_X9_stayTrouble {Q : Int32 → HS → Prop} {v0 : Nat} {v1 : Int32} {S : HS} (h : P_X9_stayTrouble v0 v1 Q S) : P_X9_stayTrouble v0 v1 (fun r T => Q r T ∧ K2 S T) S := kf_X9_stayTrouble_0 h (k2_rf S)
set_option maxRecDepth 20000 in
set_option maxHeartbeats 1000000 in
theorem kf_X9_stay_111 {Q : Int32 → HS → Prop} {X58 X58_2 : Nat → Int32 → Int64 → Int32 → HS → Prop} {v0 : Nat} {v1 : Int32} {v2 : Int64} {v4 : Int32} {S0 S : HS} (h : P_X9_stay_111 Q X58 v0 v1 v2 v4 S) (K : K2 S0 S) (hX58 : ∀ (u0 : Nat) (u1 : Int32) (u2 : Int64) (u3 : Int32) (u4 : HS), X58 u0 u1 u2 u3 u4 → K2 S0 u4 → X58_2 u0 u1 u2 u3 u4) : P_X9_stay_111 (fun r T => Q r T ∧ K2 S0 T) X58_2 v0 v1 v2 v4 S := by
  delta P_X9_stay_111 at h ⊢
  obtain ⟨c1, h⟩ := h
  refine ⟨c1, ?_⟩
  have n2 := k2_ne K c1 (by decide)
  obtain ⟨b3, e4, h⟩ := h
  refine ⟨b3, e4, ?_⟩
  obtain ⟨c5, h⟩ := h
  refine ⟨c5, ?_⟩
  have n6 := k2_ne K c5 (by decide)
  obtain ⟨b7, e8, h⟩ := h
  refine ⟨b7, e8, ?_⟩
  obtain ⟨c9, h⟩ := h
  refine ⟨c9, ?_⟩
  have n10 := k2_ne K c9 (by decide)
  intro x12 e11
  have h := h x12 e11
  intro x14 e13
  have h := h x14 e13
  intro x16 e15
  have h := h x16 e15
  have K := k2_I K e15 n10
  intro x18 e17
  have h := h x18 e17
  exact hX58 _ _ _ _ _ h K
set_option maxRecDepth 20000 in
set_option maxHeartbeats 1000000 in
theorem kfB_X9_stay_58 {Q : Int32 → HS → Prop} {X58 X58_2 : Nat → Int32 → Int64 → Int32 → HS → Prop} {v0 : Nat} {v1 : Int32} {v2 : Int64} {v4 : Int32} {S0 S : HS} (h : B_X9_stay_58 Q X58 v0 v1 v2 v4 S) (K : K2 S0 S) (hX58 : ∀ (u0 : Nat) (u1 : Int32) (u2 : Int64) (u3 : Int32) (u4 : HS), X58 u0 u1 u2 u3 u4 → K2 S0 u4 → X58_2 u0 u1 u2 u3 u4) : B_X9_stay_58 (fun r T => Q r T ∧ K2 S0 T) X58_2 v0 v1 v2 v4 S := by
  delta B_X9_stay_58 at h ⊢
  refine ⟨?_, ?_⟩
  · intro c1
    have h := h.1 c1
    exact ⟨h, K⟩
  · intro c2
    have h := h.2 c2
    obtain ⟨c3, h⟩ := h
    refine ⟨c3, ?_⟩
    have n4 := k2_ne K c3 (by decide)
    obtain ⟨b5, e6, h⟩ := h
    refine ⟨b5, e6, ?_⟩
    obtain ⟨b7, e8, h⟩ := h
    refine ⟨b7, e8, ?_⟩
    obtain ⟨b9, e10, h⟩ := h
    refine ⟨b9, e10, ?_⟩
    obtain ⟨c11, h⟩ := h
    refine ⟨c11, ?_⟩
    have n12 := k2_ne K c11 (by decide)
    obtain ⟨b13, e14, h⟩ := h
    refine ⟨b13, e14, ?_⟩
    obtain ⟨c15, h⟩ := h
    refine ⟨c15, ?_⟩
    have n16 := k2_ne K c15 (by decide)
    intro x18 e17
    have h := h x18 e17
    obtain ⟨c19, h⟩ := h
    refine ⟨c19, ?_⟩
    have n20 := k2_ne K c19 (by decide)
    refine cm_X8_hourOf (kf_X8_hourOf h) h (fun x21 x22 hp h g23 => ?_)
    have h := h g23
    have K := k2_tr K hp.2
    obtain ⟨c24, h⟩ := h
    refine ⟨c24, ?_⟩
    have n25 := k2_ne K c24 (by decide)
    refine cm_X0_rainsIn (kf_X0_rainsIn h) h (fun x26 x27 hp h g28 g29 => ?_)
    have h := h g28 g29
    have K := k2_tr K hp.2
    refine ⟨?_, ?_⟩
    · intro c30
      have h := h.1 c30
      exact kf_X9_stay_111 h K hX58
    · intro c31
      have h := h.2 c31
      obtain ⟨b32, e33, h⟩ := h
      refine ⟨b32, e33, ?_⟩
      obtain ⟨c34, h⟩ := h
      refine ⟨c34, ?_⟩
      have n35 := k2_ne K c34 (by decide)
      obtain ⟨b36, e37, h⟩ := h
      refine ⟨b36, e37, ?_⟩
      obtain ⟨c38, h⟩ := h
      refine ⟨c38, ?_⟩
      have n39 := k2_ne K c38 (by decide)
      obtain ⟨b40, e41, h⟩ := h
      refine ⟨b40, e41, ?_⟩
      obtain ⟨c42, h⟩ := h
      refine ⟨c42, ?_⟩
      have n43 := k2_ne K c42 (by decide)
      obtain ⟨c44, h⟩ := h
      refine ⟨c44, ?_⟩
      intro x46 e45
      have h := h x46 e45
      intro x48 e47
      have h := h x48 e47
      obtain ⟨c49, h⟩ := h
      refine ⟨c49, ?_⟩
      intro x51 e50
      have h := h x51 e50
      have K := k2_J K e50
      exact kf_X9_stay_111 h K hX58
theorem kf_X9_stay_58 {Q : Int32 → HS → Prop} {v0 : Nat} {v1 : Int32} {v2 : Int64} {v4 : Int32} {S0 S : HS} (h : P_X9_stay_58 Q v0 v1 v2 v4 S) (K : K2 S0 S) : P_X9_stay_58 (fun r T => Q r T ∧ K2 S0 T) v0 v1 v2 v4 S := h (fun v0 v1 v2 v4 S => K2 S0 S → P_X9_stay_58 (fun r T => Q r T ∧ K2 S0 T) v0 v1 v2 v4 S) (fun v0 v1 v2 v4 S hB K => fd_X9_stay_58 (kfB_X9_stay_58 hB K (fun _ _ _ _ _ hx K => hx K))) K
set_option maxRecDepth 20000 in
set_option maxHeartbeats 1000000 in
theorem kf_X9_stay_0 {Q : Int32 → HS → Prop} {v0 : Nat} {v1 : Int32} {S0 S : HS} (h : P_X9_stay_0 Q v0 v1 S) (K : K2 S0 S) : P_X9_stay_0 (fun r T => Q r T ∧ K2 S0 T) v0 v1 S := by
  delta P_X9_stay_0 at h ⊢
  obtain ⟨c1, h⟩ := h
  refine ⟨c1, ?_⟩
  have n2 := k2_ne K c1 (by decide)
  refine cm_X9_stayTrouble (kf_X9_stayTrouble h) h (fun x3 x4 hp h g5 => ?_)
  have h := h g5
  have K := k2_tr K hp.2
  refine cm_X9_refusedBy (kf_X9_refusedBy h) h (fun x6 x7 hp h g8 g9 => ?_)
  have h := h g8 g9
  have K := k2_tr K hp.2
  refine ⟨?_, ?_⟩
  · intro c10
    have h := h.1 c10
    obtain ⟨b11, e12, h⟩ := h
    refine ⟨b11, e12, ?_⟩
    obtain ⟨c13, h⟩ := h
    refine ⟨c13, ?_⟩
    have n14 := k2_ne K c13 (by decide)
    refine cm_X0_keepForUndo (kf_X0_keepForUndo h) h (fun x15 hp h g16 => ?_)
    have h := h g16
    have K := k2_tr K hp.2
    obtain ⟨b17, e18, h⟩ := h
    refine ⟨b17, e18, ?_⟩
    obtain ⟨b19, e20, h⟩ := h
    refine ⟨b19, e20, ?_⟩
    obtain ⟨c21, h⟩ := h
    refine ⟨c21, ?_⟩
    have n22 := k2_ne K c21 (by decide)
    obtain ⟨b23, e24, h⟩ := h
    refine ⟨b23, e24, ?_⟩
    obtain ⟨b25, e26, h⟩ := h
    refine ⟨b25, e26, ?_⟩
    obtain ⟨c27, h⟩ := h
    refine ⟨c27, ?_⟩
    have n28 := k2_ne K c27 (by decide)
    intro x30 e29
    have h := h x30 e29
    obtain ⟨c31, h⟩ := h
    refine ⟨c31, ?_⟩
    have n32 := k2_ne K c31 (by decide)
    obtain ⟨c33, h⟩ := h
    refine ⟨c33, ?_⟩
    obtain ⟨b34, e35, h⟩ := h
    refine ⟨b34, e35, ?_⟩
    obtain ⟨b36, e37, h⟩ := h
    refine ⟨b36, e37, ?_⟩
    obtain ⟨c38, h⟩ := h
    refine ⟨c38, ?_⟩
    have n39 := k2_ne K c38 (by decide)
    obtain ⟨b40, e41, h⟩ := h
    refine ⟨b40, e41, ?_⟩
    obtain ⟨c42, h⟩ := h
    refine ⟨c42, ?_⟩
    have n43 := k2_ne K c42 (by decide)
    intro x45 e44
    have h := h x45 e44
    obtain ⟨c46, h⟩ := h
    refine ⟨c46, ?_⟩
    have n47 := k2_ne K c46 (by decide)
    refine cm_X8_dripOn (kf_X8_dripOn h) h (fun x48 x49 hp h g50 => ?_)
    have h := h g50
    have K := k2_tr K hp.2
    intro x52 e51
    have h := h x52 e51
    exact kf_X9_stay_58 h K
  · intro c53
    have h := h.2 c53
    exact ⟨h, K⟩
theorem kf_X9_stay {Q : Int32 → HS → Prop} {v0 : Nat} {v1 : Int32} {S : HS} (h : P_X9_stay v0 v1 Q S) : P_X9_stay v0 v1 (fun r T => Q r T ∧ K2 S T) S := kf_X9_stay_0 h (k2_rf S)
set_option maxRecDepth 20000 in
set_option maxHeartbeats 1000000 in
theorem kf_X9_step_61 {Q : Int32 → HS → Prop} {v0 : Nat} {S0 S : HS} (h : P_X9_step_61 Q v0 S) (K : K2 S0 S) : P_X9_step_61 (fun r T => Q r T ∧ K2 S0 T) v0 S := by
  delta P_X9_step_61 at h ⊢
  obtain ⟨c1, h⟩ := h
  refine ⟨c1, ?_⟩
  have n2 := k2_ne K c1 (by decide)
  refine cm_X9_refuse (kf_X9_refuse h) h (fun x3 x4 hp h g5 => ?_)
  have h := h g5
  have K := k2_tr K hp.2
  exact ⟨h, K⟩
set_option maxRecDepth 20000 in
set_option maxHeartbeats 1000000 in
theorem kf_X9_step_0 {Q : Int32 → HS → Prop} {v0 : Nat} {v1 : Int32} {v2 : Int32} {v3 : Int32} {v4 : Int32} {v5 : Int32} {v6 : Int32} {S0 S : HS} (h : P_X9_step_0 Q v0 v1 v2 v3 v4 v5 v6 S) (K : K2 S0 S) : P_X9_step_0 (fun r T => Q r T ∧ K2 S0 T) v0 v1 v2 v3 v4 v5 v6 S := by
  delta P_X9_step_0 at h ⊢
  obtain ⟨c1, h⟩ := h
  refine ⟨c1, ?_⟩
  have n2 := k2_ne K c1 (by decide)
  refine cm_X9_wayTrouble (kf_X9_wayTrouble h) h (fun x3 x4 hp h g5 => ?_)
  have h := h g5
  have K := k2_tr K hp.2
  refine cm_X9_refusedBy (kf_X9_refusedBy h) h (fun x6 x7 hp h g8 g9 => ?_)
  have h := h g8 g9
  have K := k2_tr K hp.2
  refine ⟨?_, ?_⟩
  · intro c10
    have h := h.1 c10
    obtain ⟨b11, e12, h⟩ := h
    refine ⟨b11, e12, ?_⟩
    obtain ⟨b13, e14, h⟩ := h
    refine ⟨b13, e14, ?_⟩
    obtain ⟨c15, h⟩ := h
    refine ⟨c15, ?_⟩
    have n16 := k2_ne K c15 (by decide)
    refine cm_X7_trace (kf_X7_trace h) h (fun x17 x18 hp h g19 => ?_)
    have h := h g19
    have K := k2_tr K hp.2
    refine ⟨?_, ?_⟩
    · intro c20
      have h := h.1 c20
      exact kf_X9_step_61 h K
    · intro c21
      have h := h.2 c21
      refine ⟨?_, ?_⟩
      · intro c22
        have h := h.1 c22
        exact kf_X9_step_61 h K
      · intro c23
        have h := h.2 c23
        obtain ⟨b24, e25, h⟩ := h
        refine ⟨b24, e25, ?_⟩
        obtain ⟨c26, h⟩ := h
        refine ⟨c26, ?_⟩
        have n27 := k2_ne K c26 (by decide)
        obtain ⟨b28, e29, h⟩ := h
        refine ⟨b28, e29, ?_⟩
        obtain ⟨c30, h⟩ := h
        refine ⟨c30, ?_⟩
        have n31 := k2_ne K c30 (by decide)
        refine ⟨?_, ?_⟩
        · intro c32
          have h := h.1 c32
          obtain ⟨b33, e34, h⟩ := h
          refine ⟨b33, e34, ?_⟩
          obtain ⟨c35, h⟩ := h
          refine ⟨c35, ?_⟩
          have n36 := k2_ne K c35 (by decide)
          obtain ⟨b37, e38, h⟩ := h
          refine ⟨b37, e38, ?_⟩
          obtain ⟨c39, h⟩ := h
          refine ⟨c39, ?_⟩
          have n40 := k2_ne K c39 (by decide)
          obtain ⟨c41, h⟩ := h
          refine ⟨c41, ?_⟩
          intro x43 e42
          have h := h x43 e42
          exact ⟨h, K⟩
        · intro c44
          have h := h.2 c44
          exact kf_X9_step_61 h K
  · intro c45
    have h := h.2 c45
    exact ⟨h, K⟩
theorem kf_X9_step {Q : Int32 → HS → Prop} {v0 : Nat} {v1 : Int32} {v2 : Int32} {v3 : Int32} {v4 : Int32} {v5 : Int32} {v6 : Int32} {S : HS} (h : P_X9_step v0 v1 v2 v3 v4 v5 v6 Q S) : P_X9_step v0 v1 v2 v3 v4 v5 v6 (fun r T => Q r T ∧ K2 S T) S := kf_X9_step_0 h (k2_rf S)
set_option maxRecDepth 20000 in
set_option maxHeartbeats 1000000 in
theorem kf_X9_steps_0 {Q : Int32 → HS → Prop} {v0 : Nat} {v1 : Int32} {v2 : Int32} {v3 : Int32} {v4 : Int32} {v5 : Int32} {S0 S : HS} (h : P_X9_steps_0 Q v0 v1 v2 v3 v4 v5 S) (K : K2 S0 S) : P_X9_steps_0 (fun r T => Q r T ∧ K2 S0 T) v0 v1 v2 v3 v4 v5 S := by
  delta P_X9_steps_0 at h ⊢
  obtain ⟨c1, h⟩ := h
  refine ⟨c1, ?_⟩
  have n2 := k2_ne K c1 (by decide)
  refine cm_X9_wayTrouble (kf_X9_wayTrouble h) h (fun x3 x4 hp h g5 => ?_)
  have h := h g5
  have K := k2_tr K hp.2
  refine cm_X9_refusedBy (kf_X9_refusedBy h) h (fun x6 x7 hp h g8 g9 => ?_)
  have h := h g8 g9
  have K := k2_tr K hp.2
  refine ⟨?_, ?_⟩
  · intro c10
    have h := h.1 c10
    obtain ⟨b11, e12, h⟩ := h
    refine ⟨b11, e12, ?_⟩
    obtain ⟨b13, e14, h⟩ := h
    refine ⟨b13, e14, ?_⟩
    obtain ⟨c15, h⟩ := h
    refine ⟨c15, ?_⟩
    have n16 := k2_ne K c15 (by decide)
    refine cm_X7_trace (kf_X7_trace h) h (fun x17 x18 hp h g19 => ?_)
    have h := h g19
    have K := k2_tr K hp.2
    exact ⟨h, K⟩
  · intro c20
    have h := h.2 c20
    exact ⟨h, K⟩
theorem kf_X9_steps {Q : Int32 → HS → Prop} {v0 : Nat} {v1 : Int32} {v2 : Int32} {v3 : Int32} {v4 : Int32} {v5 : Int32} {S : HS} (h : P_X9_steps v0 v1 v2 v3 v4 v5 Q S) : P_X9_steps v0 v1 v2 v3 v4 v5 (fun r T => Q r T ∧ K2 S T) S := kf_X9_steps_0 h (k2_rf S)
set_option maxRecDepth 20000 in
set_option maxHeartbeats 1000000 in
theorem kf_X9_there_0 {Q : Int32 → HS → Prop} {v0 : Nat} {v1 : Int32} {v2 : Int32} {v3 : Int32} {v4 : Int32} {v5 : Int32} {S0 S : HS} (h : P_X9_there_0 Q v0 v1 v2 v3 v4 v5 S) (K : K2 S0 S) : P_X9_there_0 (fun r T => Q r T ∧ K2 S0 T) v0 v1 v2 v3 v4 v5 S := by
  delta P_X9_there_0 at h ⊢
  obtain ⟨c1, h⟩ := h
  refine ⟨c1, ?_⟩
  have n2 := k2_ne K c1 (by decide)
  refine cm_X9_wayTrouble (kf_X9_wayTrouble h) h (fun x3 x4 hp h g5 => ?_)
  have h := h g5
  have K := k2_tr K hp.2
  refine cm_X9_refusedBy (kf_X9_refusedBy h) h (fun x6 x7 hp h g8 g9 => ?_)
  have h := h g8 g9
  have K := k2_tr K hp.2
  refine ⟨?_, ?_⟩
  · intro c10
    have h := h.1 c10
    obtain ⟨b11, e12, h⟩ := h
    refine ⟨b11, e12, ?_⟩
    obtain ⟨c13, h⟩ := h
    refine ⟨c13, ?_⟩
    have n14 := k2_ne K c13 (by decide)
    refine cm_X7_endFrom (kf_X7_endFrom h) h (fun x15 x16 hp h g17 => ?_)
    have h := h g17
    have K := k2_tr K hp.2
    exact ⟨h, K⟩
  · intro c18
    have h := h.2 c18
    exact ⟨h, K⟩
theorem kf_X9_there {Q : Int32 → HS → Prop} {v0 : Nat} {v1 : Int32} {v2 : Int32} {v3 : Int32} {v4 : Int32} {v5 : Int32} {S : HS} (h : P_X9_there v0 v1 v2 v3 v4 v5 Q S) : P_X9_there v0 v1 v2 v3 v4 v5 (fun r T => Q r T ∧ K2 S T) S := kf_X9_there_0 h (k2_rf S)
set_option maxRecDepth 20000 in
set_option maxHeartbeats 1000000 in
theorem kf_X9_trouble_0 {Q : Int32 → HS → Prop} {v0 : Nat} {S0 S : HS} (h : P_X9_trouble_0 Q v0 S) (K : K2 S0 S) : P_X9_trouble_0 (fun r T => Q r T ∧ K2 S0 T) v0 S := by
  delta P_X9_trouble_0 at h ⊢
  obtain ⟨c1, h⟩ := h
  refine ⟨c1, ?_⟩
  have n2 := k2_ne K c1 (by decide)
  intro x4 e3
  have h := h x4 e3
  exact ⟨h, K⟩
theorem kf_X9_trouble {Q : Int32 → HS → Prop} {v0 : Nat} {S : HS} (h : P_X9_trouble v0 Q S) : P_X9_trouble v0 (fun r T => Q r T ∧ K2 S T) S := kf_X9_trouble_0 h (k2_rf S)
set_option maxRecDepth 20000 in
set_option maxHeartbeats 1000000 in
theorem kf_X9_undo_17 {Q : Int32 → HS → Prop} {s0 : Nat} {s1 : Int32} {S0 S : HS} (h : P_X9_undo_17 Q s0 s1 S) (K : K2 S0 S) : P_X9_undo_17 (fun r T => Q r T ∧ K2 S0 T) s0 s1 S := by
  delta P_X9_undo_17 at h ⊢
  obtain ⟨c1, h⟩ := h
  refine ⟨c1, ?_⟩
  have n2 := k2_ne K c1 (by decide)
  refine cm_X9_refusedBy (kf_X9_refusedBy h) h (fun x3 x4 hp h g5 g6 => ?_)
  have h := h g5 g6
  have K := k2_tr K hp.2
  refine ⟨?_, ?_⟩
  · intro c7
    have h := h.1 c7
    exact ⟨h, K⟩
  · intro c8
    have h := h.2 c8
    exact ⟨h, K⟩
set_option maxRecDepth 20000 in
set_option maxHeartbeats 1000000 in
theorem kf_X9_undo_0 {Q : Int32 → HS → Prop} {v0 : Nat} {S0 S : HS} (h : P_X9_undo_0 Q v0 S) (K : K2 S0 S) : P_X9_undo_0 (fun r T => Q r T ∧ K2 S0 T) v0 S := by
  delta P_X9_undo_0 at h ⊢
  obtain ⟨c1, h⟩ := h
  refine ⟨c1, ?_⟩
  have n2 := k2_ne K c1 (by decide)
  obtain ⟨b3, e4, h⟩ := h
  refine ⟨b3, e4, ?_⟩
  obtain ⟨c5, h⟩ := h
  refine ⟨c5, ?_⟩
  have n6 := k2_ne K c5 (by decide)
  refine cm_X0_takeBack (kf_X0_takeBack h) h (fun x7 x8 hp h g9 g10 => ?_)
  have h := h g9 g10
  have K := k2_tr K hp.2
  refine ⟨?_, ?_⟩
  · intro c11
    have h := h.1 c11
    exact kf_X9_undo_17 h K
  · intro c12
    have h := h.2 c12
    exact kf_X9_undo_17 h K
theorem kf_X9_undo {Q : Int32 → HS → Prop} {v0 : Nat} {S : HS} (h : P_X9_undo v0 Q S) : P_X9_undo v0 (fun r T => Q r T ∧ K2 S T) S := kf_X9_undo_0 h (k2_rf S)
set_option maxRecDepth 20000 in
set_option maxHeartbeats 1000000 in
theorem kf_X9_walker_21 {Q : Int32 → HS → Prop} {v0 : Nat} {S0 S : HS} (h : P_X9_walker_21 Q v0 S) (K : K2 S0 S) : P_X9_walker_21 (fun r T => Q r T ∧ K2 S0 T) v0 S := by
  delta P_X9_walker_21 at h ⊢
  obtain ⟨c1, h⟩ := h
  refine ⟨c1, ?_⟩
  have n2 := k2_ne K c1 (by decide)
  refine cm_X9_refuse (kf_X9_refuse h) h (fun x3 x4 hp h g5 => ?_)
  have h := h g5
  have K := k2_tr K hp.2
  exact ⟨h, K⟩
set_option maxRecDepth 20000 in
set_option maxHeartbeats 1000000 in
theorem kf_X9_walker_0 {Q : Int32 → HS → Prop} {v0 : Nat} {v1 : Int32} {v2 : Int32} {S0 S : HS} (h : P_X9_walker_0 Q v0 v1 v2 S) (K : K2 S0 S) : P_X9_walker_0 (fun r T => Q r T ∧ K2 S0 T) v0 v1 v2 S := by
  delta P_X9_walker_0 at h ⊢
  obtain ⟨c1, h⟩ := h
  refine ⟨c1, ?_⟩
  have n2 := k2_ne K c1 (by decide)
  obtain ⟨b3, e4, h⟩ := h
  refine ⟨b3, e4, ?_⟩
  obtain ⟨c5, h⟩ := h
  refine ⟨c5, ?_⟩
  have n6 := k2_ne K c5 (by decide)
  refine cm_X8_hasWalker (kf_X8_hasWalker h) h (fun x7 x8 hp h g9 g10 => ?_)
  have h := h g9 g10
  have K := k2_tr K hp.2
  refine ⟨?_, ?_⟩
  · intro c11
    have h := h.1 c11
    exact kf_X9_walker_21 h K
  · intro c12
    have h := h.2 c12
    refine ⟨?_, ?_⟩
    · intro c13
      have h := h.1 c13
      exact kf_X9_walker_21 h K
    · intro c14
      have h := h.2 c14
      refine ⟨?_, ?_⟩
      · intro c15
        have h := h.1 c15
        obtain ⟨b16, e17, h⟩ := h
        refine ⟨b16, e17, ?_⟩
        obtain ⟨c18, h⟩ := h
        refine ⟨c18, ?_⟩
        have n19 := k2_ne K c18 (by decide)
        obtain ⟨b20, e21, h⟩ := h
        refine ⟨b20, e21, ?_⟩
        obtain ⟨c22, h⟩ := h
        refine ⟨c22, ?_⟩
        have n23 := k2_ne K c22 (by decide)
        obtain ⟨c24, h⟩ := h
        refine ⟨c24, ?_⟩
        obtain ⟨b25, e26, h⟩ := h
        refine ⟨b25, e26, ?_⟩
        obtain ⟨c27, h⟩ := h
        refine ⟨c27, ?_⟩
        have n28 := k2_ne K c27 (by decide)
        refine cm_X6_tell (kf_X6_tell h) h (fun x29 x30 hp h g31 => ?_)
        have h := h g31
        have K := k2_tr K hp.2
        refine cm_X9_grant (kf_X9_grant h) h (fun x32 x33 hp h g34 => ?_)
        have h := h g34
        have K := k2_tr K hp.2
        exact ⟨h, K⟩
      · intro c35
        have h := h.2 c35
        exact kf_X9_walker_21 h K
theorem kf_X9_walker {Q : Int32 → HS → Prop} {v0 : Nat} {v1 : Int32} {v2 : Int32} {S : HS} (h : P_X9_walker v0 v1 v2 Q S) : P_X9_walker v0 v1 v2 (fun r T => Q r T ∧ K2 S T) S := kf_X9_walker_0 h (k2_rf S)
set_option maxRecDepth 20000 in
set_option maxHeartbeats 1000000 in
theorem kf_X9_wet_0 {Q : Int64 → HS → Prop} {v0 : Nat} {v1 : Int32} {v2 : Int32} {v3 : Int32} {v4 : Int32} {v5 : Int32} {v6 : Int32} {S0 S : HS} (h : P_X9_wet_0 Q v0 v1 v2 v3 v4 v5 v6 S) (K : K2 S0 S) : P_X9_wet_0 (fun r T => Q r T ∧ K2 S0 T) v0 v1 v2 v3 v4 v5 v6 S := by
  delta P_X9_wet_0 at h ⊢
  obtain ⟨c1, h⟩ := h
  refine ⟨c1, ?_⟩
  have n2 := k2_ne K c1 (by decide)
  refine cm_X9_legTrouble (kf_X9_legTrouble h) h (fun x3 x4 hp h g5 => ?_)
  have h := h g5
  have K := k2_tr K hp.2
  refine cm_X9_refusedBy (kf_X9_refusedBy h) h (fun x6 x7 hp h g8 g9 => ?_)
  have h := h g8 g9
  have K := k2_tr K hp.2
  refine ⟨?_, ?_⟩
  · intro c10
    have h := h.1 c10
    obtain ⟨b11, e12, h⟩ := h
    refine ⟨b11, e12, ?_⟩
    obtain ⟨b13, e14, h⟩ := h
    refine ⟨b13, e14, ?_⟩
    obtain ⟨c15, h⟩ := h
    refine ⟨c15, ?_⟩
    have n16 := k2_ne K c15 (by decide)
    obtain ⟨b17, e18, h⟩ := h
    refine ⟨b17, e18, ?_⟩
    obtain ⟨c19, h⟩ := h
    refine ⟨c19, ?_⟩
    have n20 := k2_ne K c19 (by decide)
    obtain ⟨c21, h⟩ := h
    refine ⟨c21, ?_⟩
    obtain ⟨b22, e23, h⟩ := h
    refine ⟨b22, e23, ?_⟩
    obtain ⟨b24, e25, h⟩ := h
    refine ⟨b24, e25, ?_⟩
    obtain ⟨c26, h⟩ := h
    refine ⟨c26, ?_⟩
    have n27 := k2_ne K c26 (by decide)
    obtain ⟨b28, e29, h⟩ := h
    refine ⟨b28, e29, ?_⟩
    obtain ⟨c30, h⟩ := h
    refine ⟨c30, ?_⟩
    have n31 := k2_ne K c30 (by decide)
    obtain ⟨c32, h⟩ := h
    refine ⟨c32, ?_⟩
    obtain ⟨b33, e34, h⟩ := h
    refine ⟨b33, e34, ?_⟩
    obtain ⟨b35, e36, h⟩ := h
    refine ⟨b35, e36, ?_⟩
    obtain ⟨c37, h⟩ := h
    refine ⟨c37, ?_⟩
    have n38 := k2_ne K c37 (by decide)
    obtain ⟨b39, e40, h⟩ := h
    refine ⟨b39, e40, ?_⟩
    obtain ⟨c41, h⟩ := h
    refine ⟨c41, ?_⟩
    have n42 := k2_ne K c41 (by decide)
    obtain ⟨c43, h⟩ := h
    refine ⟨c43, ?_⟩
    obtain ⟨b44, e45, h⟩ := h
    refine ⟨b44, e45, ?_⟩
    obtain ⟨c46, h⟩ := h
    refine ⟨c46, ?_⟩
    have n47 := k2_ne K c46 (by decide)
    refine cm_X1_wetOf (kf_X1_wetOf h) h (fun x48 x49 hp h g50 => ?_)
    have h := h g50
    have K := k2_tr K hp.2
    refine cm_X9_fraction (kf_X9_fraction h) h (fun x51 x52 hp h g53 => ?_)
    have h := h g53
    have K := k2_tr K hp.2
    exact ⟨h, K⟩
  · intro c54
    have h := h.2 c54
    exact ⟨h, K⟩
theorem kf_X9_wet {Q : Int64 → HS → Prop} {v0 : Nat} {v1 : Int32} {v2 : Int32} {v3 : Int32} {v4 : Int32} {v5 : Int32} {v6 : Int32} {S : HS} (h : P_X9_wet v0 v1 v2 v3 v4 v5 v6 Q S) : P_X9_wet v0 v1 v2 v3 v4 v5 v6 (fun r T => Q r T ∧ K2 S T) S := kf_X9_wet_0 h (k2_rf S)
set_option maxRecDepth 20000 in
set_option maxHeartbeats 1000000 in
theorem kf_X9_wetness_27 {Q : Int64 → HS → Prop} {v0 : Nat} {S0 S : HS} (h : P_X9_wetness_27 Q v0 S) (K : K2 S0 S) : P_X9_wetness_27 (fun r T => Q r T ∧ K2 S0 T) v0 S := by
  delta P_X9_wetness_27 at h ⊢
  obtain ⟨c1, h⟩ := h
  refine ⟨c1, ?_⟩
  have n2 := k2_ne K c1 (by decide)
  refine cm_X9_refuse (kf_X9_refuse h) h (fun x3 x4 hp h g5 => ?_)
  have h := h g5
  have K := k2_tr K hp.2
  exact ⟨h, K⟩
set_option maxRecDepth 20000 in
set_option maxHeartbeats 1000000 in
theorem kf_X9_wetness_0 {Q : Int64 → HS → Prop} {v0 : Nat} {v1 : Int32} {S0 S : HS} (h : P_X9_wetness_0 Q v0 v1 S) (K : K2 S0 S) : P_X9_wetness_0 (fun r T => Q r T ∧ K2 S0 T) v0 v1 S := by
  delta P_X9_wetness_0 at h ⊢
  obtain ⟨c1, h⟩ := h
  refine ⟨c1, ?_⟩
  have n2 := k2_ne K c1 (by decide)
  obtain ⟨b3, e4, h⟩ := h
  refine ⟨b3, e4, ?_⟩
  obtain ⟨c5, h⟩ := h
  refine ⟨c5, ?_⟩
  have n6 := k2_ne K c5 (by decide)
  refine cm_X0_isOn (kf_X0_isOn h) h (fun x7 x8 hp h g9 g10 => ?_)
  have h := h g9 g10
  have K := k2_tr K hp.2
  refine ⟨?_, ?_⟩
  · intro c11
    have h := h.1 c11
    exact kf_X9_wetness_27 h K
  · intro c12
    have h := h.2 c12
    obtain ⟨b13, e14, h⟩ := h
    refine ⟨b13, e14, ?_⟩
    obtain ⟨b15, e16, h⟩ := h
    refine ⟨b15, e16, ?_⟩
    obtain ⟨c17, h⟩ := h
    refine ⟨c17, ?_⟩
    have n18 := k2_ne K c17 (by decide)
    intro x20 e19
    have h := h x20 e19
    obtain ⟨c21, h⟩ := h
    refine ⟨c21, ?_⟩
    have n22 := k2_ne K c21 (by decide)
    refine cm_X8_hasWalker (kf_X8_hasWalker h) h (fun x23 x24 hp h g25 g26 => ?_)
    have h := h g25 g26
    have K := k2_tr K hp.2
    refine ⟨?_, ?_⟩
    · intro c27
      have h := h.1 c27
      intro x29 e28
      have h := h x29 e28
      have K := k2_I K e28 n2
      obtain ⟨b30, e31, h⟩ := h
      refine ⟨b30, e31, ?_⟩
      obtain ⟨c32, h⟩ := h
      refine ⟨c32, ?_⟩
      have n33 := k2_ne K c32 (by decide)
      obtain ⟨b34, e35, h⟩ := h
      refine ⟨b34, e35, ?_⟩
      obtain ⟨c36, h⟩ := h
      refine ⟨c36, ?_⟩
      have n37 := k2_ne K c36 (by decide)
      refine cm_X2_allGot (kf_X2_allGot h) h (fun x38 x39 hp h g40 => ?_)
      have h := h g40
      have K := k2_tr K hp.2
      obtain ⟨b41, e42, h⟩ := h
      refine ⟨b41, e42, ?_⟩
      obtain ⟨c43, h⟩ := h
      refine ⟨c43, ?_⟩
      have n44 := k2_ne K c43 (by decide)
      obtain ⟨b45, e46, h⟩ := h
      refine ⟨b45, e46, ?_⟩
      obtain ⟨b47, e48, h⟩ := h
      refine ⟨b47, e48, ?_⟩
      obtain ⟨c49, h⟩ := h
      refine ⟨c49, ?_⟩
      have n50 := k2_ne K c49 (by decide)
      intro x52 e51
      have h := h x52 e51
      obtain ⟨c53, h⟩ := h
      refine ⟨c53, ?_⟩
      have n54 := k2_ne K c53 (by decide)
      obtain ⟨c55, h⟩ := h
      refine ⟨c55, ?_⟩
      obtain ⟨b56, e57, h⟩ := h
      refine ⟨b56, e57, ?_⟩
      refine cm_X9_coatParts (kf_X9_coatParts h) h (fun x58 x59 hp h g60 => ?_)
      have h := h g60
      have K := k2_tr K hp.2
      intro x62 e61
      have h := h x62 e61
      intro x64 e63
      have h := h x64 e63
      refine cm_X9_fraction (kf_X9_fraction h) h (fun x65 x66 hp h g67 => ?_)
      have h := h g67
      have K := k2_tr K hp.2
      exact ⟨h, K⟩
    · intro c68
      have h := h.2 c68
      exact kf_X9_wetness_27 h K
theorem kf_X9_wetness {Q : Int64 → HS → Prop} {v0 : Nat} {v1 : Int32} {S : HS} (h : P_X9_wetness v0 v1 Q S) : P_X9_wetness v0 v1 (fun r T => Q r T ∧ K2 S T) S := kf_X9_wetness_0 h (k2_rf S)
set_option maxRecDepth 20000 in
set_option maxHeartbeats 1000000 in
theorem kf_X9_where_0 {Q : Int32 → HS → Prop} {v0 : Nat} {S0 S : HS} (h : P_X9_where_0 Q v0 S) (K : K2 S0 S) : P_X9_where_0 (fun r T => Q r T ∧ K2 S0 T) v0 S := by
  delta P_X9_where_0 at h ⊢
  obtain ⟨c1, h⟩ := h
  refine ⟨c1, ?_⟩
  have n2 := k2_ne K c1 (by decide)
  intro x4 e3
  have h := h x4 e3
  refine ⟨?_, ?_⟩
  · intro c5
    have h := h.1 c5
    exact ⟨h, K⟩
  · intro c6
    have h := h.2 c6
    intro x8 e7
    have h := h x8 e7
    exact ⟨h, K⟩
theorem kf_X9_where {Q : Int32 → HS → Prop} {v0 : Nat} {S : HS} (h : P_X9_where v0 Q S) : P_X9_where v0 (fun r T => Q r T ∧ K2 S T) S := kf_X9_where_0 h (k2_rf S)
set_option maxRecDepth 20000 in
set_option maxHeartbeats 1000000 in
theorem kf_X9_world_12 {Q : Int32 → HS → Prop} {v0 : Nat} {S0 S : HS} (h : P_X9_world_12 Q v0 S) (K : K2 S0 S) : P_X9_world_12 (fun r T => Q r T ∧ K2 S0 T) v0 S := by
  delta P_X9_world_12 at h ⊢
  obtain ⟨c1, h⟩ := h
  refine ⟨c1, ?_⟩
  have n2 := k2_ne K c1 (by decide)
  refine cm_X9_refuse (kf_X9_refuse h) h (fun x3 x4 hp h g5 => ?_)
  have h := h g5
  have K := k2_tr K hp.2
  exact ⟨h, K⟩
set_option maxRecDepth 20000 in
set_option maxHeartbeats 1000000 in
theorem kf_X9_world_0 {Q : Int32 → HS → Prop} {v0 : Nat} {v1 : Int32} {S0 S : HS} (h : P_X9_world_0 Q v0 v1 S) (K : K2 S0 S) : P_X9_world_0 (fun r T => Q r T ∧ K2 S0 T) v0 v1 S := by
  delta P_X9_world_0 at h ⊢
  refine ⟨?_, ?_⟩
  · intro c1
    have h := h.1 c1
    exact kf_X9_world_12 h K
  · intro c2
    have h := h.2 c2
    obtain ⟨c3, h⟩ := h
    refine ⟨c3, ?_⟩
    have n4 := k2_ne K c3 (by decide)
    intro x6 e5
    have h := h x6 e5
    refine ⟨?_, ?_⟩
    · intro c7
      have h := h.1 c7
      obtain ⟨b8, e9, h⟩ := h
      refine ⟨b8, e9, ?_⟩
      obtain ⟨b10, e11, h⟩ := h
      refine ⟨b10, e11, ?_⟩
      obtain ⟨c12, h⟩ := h
      refine ⟨c12, ?_⟩
      have n13 := k2_ne K c12 (by decide)
      refine cm_X4_read (kf_X4_read h) h (fun x14 x15 hp h g16 g17 => ?_)
      have h := h g16 g17
      have K := k2_tr K hp.2
      intro x19 e18
      have h := h x19 e18
      have K := k2_I K e18 n4
      obtain ⟨b20, e21, h⟩ := h
      refine ⟨b20, e21, ?_⟩
      obtain ⟨c22, h⟩ := h
      refine ⟨c22, ?_⟩
      have n23 := k2_ne K c22 (by decide)
      intro x25 e24
      have h := h x25 e24
      intro x27 e26
      have h := h x27 e26
      have K := k2_I K e26 n4
      obtain ⟨b28, e29, h⟩ := h
      refine ⟨b28, e29, ?_⟩
      obtain ⟨c30, h⟩ := h
      refine ⟨c30, ?_⟩
      have n31 := k2_ne K c30 (by decide)
      intro x33 e32
      have h := h x33 e32
      intro x35 e34
      have h := h x35 e34
      have K := k2_I K e34 n4
      refine ⟨?_, ?_⟩
      · intro c36
        have h := h.1 c36
        obtain ⟨b37, e38, h⟩ := h
        refine ⟨b37, e38, ?_⟩
        obtain ⟨b39, e40, h⟩ := h
        refine ⟨b39, e40, ?_⟩
        obtain ⟨c41, h⟩ := h
        refine ⟨c41, ?_⟩
        have n42 := k2_ne K c41 (by decide)
        refine cm_X4_exchange (kf_X4_exchange h) h (fun x43 x44 hp h g45 => ?_)
        have h := h g45
        have K := k2_tr K hp.2
        intro x47 e46
        have h := h x47 e46
        have K := k2_R K e46
        obtain ⟨b48, e49, h⟩ := h
        refine ⟨b48, e49, ?_⟩
        obtain ⟨c50, h⟩ := h
        refine ⟨c50, ?_⟩
        have n51 := k2_ne K c50 (by decide)
        refine cm_X7_forget (kf_X7_forget h) h (fun x52 hp h g53 => ?_)
        have h := h g53
        have K := k2_tr K hp.2
        obtain ⟨b54, e55, h⟩ := h
        refine ⟨b54, e55, ?_⟩
        obtain ⟨c56, h⟩ := h
        refine ⟨c56, ?_⟩
        have n57 := k2_ne K c56 (by decide)
        refine cm_X0_end (kf_X0_end h) h (fun x58 hp h g59 => ?_)
        have h := h g59
        have K := k2_tr K hp.2
        obtain ⟨b60, e61, h⟩ := h
        refine ⟨b60, e61, ?_⟩
        obtain ⟨c62, h⟩ := h
        refine ⟨c62, ?_⟩
        have n63 := k2_ne K c62 (by decide)
        intro x65 e64
        have h := h x65 e64
        refine cm_X9_grant (kf_X9_grant h) h (fun x66 x67 hp h g68 => ?_)
        have h := h g68
        have K := k2_tr K hp.2
        exact ⟨h, K⟩
      · intro c69
        have h := h.2 c69
        refine cm_X9_refuse (kf_X9_refuse h) h (fun x70 x71 hp h g72 => ?_)
        have h := h g72
        have K := k2_tr K hp.2
        exact ⟨h, K⟩
    · intro c73
      have h := h.2 c73
      exact kf_X9_world_12 h K
theorem kf_X9_world {Q : Int32 → HS → Prop} {v0 : Nat} {v1 : Int32} {S : HS} (h : P_X9_world v0 v1 Q S) : P_X9_world v0 v1 (fun r T => Q r T ∧ K2 S T) S := kf_X9_world_0 h (k2_rf S)
set_option maxRecDepth 20000 in
set_option maxHeartbeats 1000000 in
theorem kf_X9_worst_0 {Q : Int32 → HS → Prop} {v0 : Nat} {v1 : Int32} {v2 : Int32} {v3 : Int32} {v4 : Int32} {S0 S : HS} (h : P_X9_worst_0 Q v0 v1 v2 v3 v4 S) (K : K2 S0 S) : P_X9_worst_0 (fun r T => Q r T ∧ K2 S0 T) v0 v1 v2 v3 v4 S := by
  delta P_X9_worst_0 at h ⊢
  obtain ⟨c1, h⟩ := h
  refine ⟨c1, ?_⟩
  have n2 := k2_ne K c1 (by decide)
  refine cm_X9_tripTrouble (kf_X9_tripTrouble h) h (fun x3 x4 hp h g5 => ?_)
  have h := h g5
  have K := k2_tr K hp.2
  refine cm_X9_refusedBy (kf_X9_refusedBy h) h (fun x6 x7 hp h g8 g9 => ?_)
  have h := h g8 g9
  have K := k2_tr K hp.2
  refine ⟨?_, ?_⟩
  · intro c10
    have h := h.1 c10
    obtain ⟨b11, e12, h⟩ := h
    refine ⟨b11, e12, ?_⟩
    obtain ⟨b13, e14, h⟩ := h
    refine ⟨b13, e14, ?_⟩
    obtain ⟨c15, h⟩ := h
    refine ⟨c15, ?_⟩
    have n16 := k2_ne K c15 (by decide)
    obtain ⟨b17, e18, h⟩ := h
    refine ⟨b17, e18, ?_⟩
    obtain ⟨c19, h⟩ := h
    refine ⟨c19, ?_⟩
    have n20 := k2_ne K c19 (by decide)
    obtain ⟨c21, h⟩ := h
    refine ⟨c21, ?_⟩
    obtain ⟨b22, e23, h⟩ := h
    refine ⟨b22, e23, ?_⟩
    obtain ⟨b24, e25, h⟩ := h
    refine ⟨b24, e25, ?_⟩
    obtain ⟨c26, h⟩ := h
    refine ⟨c26, ?_⟩
    have n27 := k2_ne K c26 (by decide)
    obtain ⟨b28, e29, h⟩ := h
    refine ⟨b28, e29, ?_⟩
    obtain ⟨c30, h⟩ := h
    refine ⟨c30, ?_⟩
    have n31 := k2_ne K c30 (by decide)
    obtain ⟨c32, h⟩ := h
    refine ⟨c32, ?_⟩
    obtain ⟨b33, e34, h⟩ := h
    refine ⟨b33, e34, ?_⟩
    obtain ⟨b35, e36, h⟩ := h
    refine ⟨b35, e36, ?_⟩
    obtain ⟨c37, h⟩ := h
    refine ⟨c37, ?_⟩
    have n38 := k2_ne K c37 (by decide)
    obtain ⟨b39, e40, h⟩ := h
    refine ⟨b39, e40, ?_⟩
    obtain ⟨c41, h⟩ := h
    refine ⟨c41, ?_⟩
    have n42 := k2_ne K c41 (by decide)
    obtain ⟨c43, h⟩ := h
    refine ⟨c43, ?_⟩
    obtain ⟨b44, e45, h⟩ := h
    refine ⟨b44, e45, ?_⟩
    obtain ⟨c46, h⟩ := h
    refine ⟨c46, ?_⟩
    have n47 := k2_ne K c46 (by decide)
    refine cm_X1_worstSpeed (kf_X1_worstSpeed h) h (fun x48 x49 hp h g50 => ?_)
    have h := h g50
    have K := k2_tr K hp.2
    exact ⟨h, K⟩
  · intro c51
    have h := h.2 c51
    exact ⟨h, K⟩
theorem kf_X9_worst {Q : Int32 → HS → Prop} {v0 : Nat} {v1 : Int32} {v2 : Int32} {v3 : Int32} {v4 : Int32} {S : HS} (h : P_X9_worst v0 v1 v2 v3 v4 Q S) : P_X9_worst v0 v1 v2 v3 v4 (fun r T => Q r T ∧ K2 S T) S := kf_X9_worst_0 h (k2_rf S)
