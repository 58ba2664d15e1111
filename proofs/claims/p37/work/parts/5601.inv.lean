set_option maxHeartbeats 4000000 in
set_option maxRecDepth 20000 in
theorem m_X11_inTime {v0 : Nat} {v1 : Int32} {v2 : Int32} {v3 : Int32} {v4 : Int32} {v5 : Int32} {v6 : Int32} {v7 : Int32} {v8 : Int32} {Q : Int32 → HS → Prop} {S : HS} (hI : IV S) (o_v0 : ob S v0 11)   (h0 : 0 ≤ v1 ∧ v1 < 4) (h1 : 0 ≤ v2 ∧ v2 < 12) (h2 : 0 ≤ v4 ∧ v4 < 6)  (hw : WN S v0) (hq : ∀ (r : Int32) (T : HS), IV T → Gr S T → (S = T) → Q r T) : P_X11_inTime v0 v1 v2 v3 v4 v5 v6 v7 v8 Q S := by
  have g0 := gr_rf S
  obtain ⟨a1, ea1⟩ := hw
  have o_a1 := ml_ob hI o_v0 ea1
  refine u_X11_inTime ?_
  refine u_X11_inTime_0 ?_
  refine ⟨o_v0, ?_⟩
  refine ⟨a1, ea1, ?_⟩
  refine ⟨o_a1, ?_⟩
  obtain ⟨a3, ea3, o_a3, l_a3⟩ := shl 29 rfl hI o_a1
  refine ⟨a3, ea3, ?_⟩
  refine ⟨o_a3, ?_⟩
  refine ⟨(vin l_a3 (m := 6) (by decide) (qm21 h2)), ?_⟩
  intro x4 ex4
  refine ⟨a1, ea1, ?_⟩
  refine ⟨o_a1, ?_⟩
  refine m_X10_air hI o_a1 (qm17 h1) (qm18 h2) (fun x6 S7 hI2 g8 p_x6 => ?_)
  subst p_x6
  intro _
  intro x10 ex10
  refine ⟨a1, ea1, ?_⟩
  refine ⟨o_a1, ?_⟩
  refine m_X10_across hI o_a1 (qm17 h1) (qm18 h2) (fun x12 S13 hI2 g14 p_x12 => ?_)
  subst p_x12
  intro _
  refine m_X11_isForward hI o_v0 (qm16 h0) (qm17 h1) (qm18 h2) ⟨_, ea1⟩ (fun x16 S17 hI2 g18 b_x16 p_x16 => ?_)
  subst p_x16
  intro _ _
  have bb_x16 : x16 = 0 ∨ x16 = 1 := b_x16
  refine ⟨a1, ea1, ?_⟩
  refine ⟨o_a1, ?_⟩
  refine u_X10_shield ?_
  refine u_X10_shield_0 ?_
  refine ⟨o_a1, ?_⟩
  obtain ⟨a21, ea21, o_a21, l_a21⟩ := shl 41 rfl hI o_a1
  refine ⟨a21, ea21, ?_⟩
  refine ⟨o_a21, ?_⟩
  refine ⟨(vin l_a21 (m := 4) (by decide) (qm22 h0)), ?_⟩
  intro x22 ex22
  refine ⟨fun c23 => ?_, fun c23 => ?_⟩
  · intro _
    refine ⟨fun c25 => ?_, fun c25 => ?_, fun c25 => ?_, fun c25 => ?_, fun c25 => ?_⟩
    · refine ⟨fun c26 => ?_, fun c26 => ?_⟩
      · exact hq _ _ hI g0 rfl
      · refine ⟨a1, ea1, ?_⟩
        refine ⟨o_a1, ?_⟩
        obtain ⟨a28, ea28, o_a28, l_a28⟩ := shl 45 rfl hI o_a1
        refine ⟨a28, ea28, ?_⟩
        refine ⟨o_a28, ?_⟩
        refine ⟨(vin l_a28 (m := 4) (by decide) (qm23 h0 c23 c26)), ?_⟩
        intro x29 ex29
        exact hq _ _ hI g0 rfl
    · refine ⟨a1, ea1, ?_⟩
      refine ⟨o_a1, ?_⟩
      obtain ⟨a31, ea31, o_a31, l_a31⟩ := shl 30 rfl hI o_a1
      refine ⟨a31, ea31, ?_⟩
      refine ⟨o_a31, ?_⟩
      refine ⟨(vin l_a31 (m := 6) (by decide) (qm24 h2 c23)), ?_⟩
      intro x32 ex32
      refine ⟨a1, ea1, ?_⟩
      refine ⟨o_a1, ?_⟩
      obtain ⟨a34, ea34, o_a34, l_a34⟩ := shl 43 rfl hI o_a1
      refine ⟨a34, ea34, ?_⟩
      refine ⟨o_a34, ?_⟩
      refine ⟨(vin l_a34 (m := 4) (by decide) (qm25 h0 c23)), ?_⟩
      intro x35 ex35
      refine ⟨fun c36 => ?_, fun c36 => ?_⟩
      · refine u_X11_inTime_129 ?_
        refine u_X11_less ?_
        refine u_X11_less_0 ?_
        refine ⟨fun c37 => ?_, fun c37 => ?_⟩
        · intro _
          exact hq _ _ hI g0 rfl
        · intro _
          exact hq _ _ hI g0 rfl
      · refine u_X11_inTime_129 ?_
        refine u_X11_less ?_
        refine u_X11_less_0 ?_
        refine ⟨fun c40 => ?_, fun c40 => ?_⟩
        · intro _
          exact hq _ _ hI g0 rfl
        · intro _
          exact hq _ _ hI g0 rfl
    · refine ⟨fun c43 => ?_, fun c43 => ?_⟩
      · exact hq _ _ hI g0 rfl
      · refine ⟨a1, ea1, ?_⟩
        refine ⟨o_a1, ?_⟩
        obtain ⟨a45, ea45, o_a45, l_a45⟩ := shl 44 rfl hI o_a1
        refine ⟨a45, ea45, ?_⟩
        refine ⟨o_a45, ?_⟩
        refine ⟨(vin l_a45 (m := 4) (by decide) (qm26 h0 ex10 c23 c43)), ?_⟩
        intro x46 ex46
        refine ⟨fun c47 => ?_, fun c47 => ?_⟩
        · refine u_X11_inTime_164 ?_
          refine u_X11_less ?_
          refine u_X11_less_0 ?_
          refine ⟨fun c48 => ?_, fun c48 => ?_⟩
          · intro _
            refine u_X11_less ?_
            refine u_X11_less_0 ?_
            refine ⟨fun c50 => ?_, fun c50 => ?_⟩
            · intro _
              exact hq _ _ hI g0 rfl
            · intro _
              exact hq _ _ hI g0 rfl
          · intro _
            refine u_X11_less ?_
            refine u_X11_less_0 ?_
            refine ⟨fun c54 => ?_, fun c54 => ?_⟩
            · intro _
              exact hq _ _ hI g0 rfl
            · intro _
              exact hq _ _ hI g0 rfl
        · refine u_X11_inTime_164 ?_
          refine u_X11_less ?_
          refine u_X11_less_0 ?_
          refine ⟨fun c57 => ?_, fun c57 => ?_⟩
          · intro _
            refine u_X11_less ?_
            refine u_X11_less_0 ?_
            refine ⟨fun c59 => ?_, fun c59 => ?_⟩
            · intro _
              exact hq _ _ hI g0 rfl
            · intro _
              exact hq _ _ hI g0 rfl
          · intro _
            refine u_X11_less ?_
            refine u_X11_less_0 ?_
            refine ⟨fun c63 => ?_, fun c63 => ?_⟩
            · intro _
              exact hq _ _ hI g0 rfl
            · intro _
              exact hq _ _ hI g0 rfl
    · refine ⟨fun c66 => ?_, fun c66 => ?_⟩
      · exact hq _ _ hI g0 rfl
      · refine ⟨a1, ea1, ?_⟩
        refine ⟨o_a1, ?_⟩
        obtain ⟨a68, ea68, o_a68, l_a68⟩ := shl 44 rfl hI o_a1
        refine ⟨a68, ea68, ?_⟩
        refine ⟨o_a68, ?_⟩
        refine ⟨(vin l_a68 (m := 4) (by decide) (qm27 h0 ex10 c23 c66)), ?_⟩
        intro x69 ex69
        refine u_X11_less ?_
        refine u_X11_less_0 ?_
        refine ⟨fun c70 => ?_, fun c70 => ?_⟩
        · intro _
          exact hq _ _ hI g0 rfl
        · intro _
          exact hq _ _ hI g0 rfl
    · refine ⟨fun c73 => ?_, fun c73 => ?_⟩
      · exact hq _ _ hI g0 rfl
      · refine ⟨a1, ea1, ?_⟩
        refine ⟨o_a1, ?_⟩
        obtain ⟨a75, ea75, o_a75, l_a75⟩ := shl 45 rfl hI o_a1
        refine ⟨a75, ea75, ?_⟩
        refine ⟨o_a75, ?_⟩
        refine ⟨(vin l_a75 (m := 4) (by decide) (qm28 h0 c23 c73)), ?_⟩
        intro x76 ex76
        exact hq _ _ hI g0 rfl
  · obtain ⟨a77, ea77, o_a77, l_a77⟩ := shl 42 rfl hI o_a1
    refine ⟨a77, ea77, ?_⟩
    refine ⟨o_a77, ?_⟩
    refine ⟨(vin l_a77 (m := 4) (by decide) (qm29 h0 c23)), ?_⟩
    intro x78 ex78
    intro _
    refine ⟨fun c80 => ?_, fun c80 => ?_, fun c80 => ?_, fun c80 => ?_, fun c80 => ?_⟩
    · refine ⟨fun c81 => ?_, fun c81 => ?_⟩
      · exact hq _ _ hI g0 rfl
      · refine ⟨a1, ea1, ?_⟩
        refine ⟨o_a1, ?_⟩
        obtain ⟨a83, ea83, o_a83, l_a83⟩ := shl 45 rfl hI o_a1
        refine ⟨a83, ea83, ?_⟩
        refine ⟨o_a83, ?_⟩
        refine ⟨(vin l_a83 (m := 4) (by decide) (qm30 h0 c23 c81)), ?_⟩
        intro x84 ex84
        exact hq _ _ hI g0 rfl
    · refine ⟨a1, ea1, ?_⟩
      refine ⟨o_a1, ?_⟩
      obtain ⟨a86, ea86, o_a86, l_a86⟩ := shl 30 rfl hI o_a1
      refine ⟨a86, ea86, ?_⟩
      refine ⟨o_a86, ?_⟩
      refine ⟨(vin l_a86 (m := 6) (by decide) (qm31 h2 c23)), ?_⟩
      intro x87 ex87
      refine ⟨a1, ea1, ?_⟩
      refine ⟨o_a1, ?_⟩
      obtain ⟨a89, ea89, o_a89, l_a89⟩ := shl 43 rfl hI o_a1
      refine ⟨a89, ea89, ?_⟩
      refine ⟨o_a89, ?_⟩
      refine ⟨(vin l_a89 (m := 4) (by decide) (qm29 h0 c23)), ?_⟩
      intro x90 ex90
      refine ⟨fun c91 => ?_, fun c91 => ?_⟩
      · refine u_X11_inTime_129 ?_
        refine u_X11_less ?_
        refine u_X11_less_0 ?_
        refine ⟨fun c92 => ?_, fun c92 => ?_⟩
        · intro _
          exact hq _ _ hI g0 rfl
        · intro _
          exact hq _ _ hI g0 rfl
      · refine u_X11_inTime_129 ?_
        refine u_X11_less ?_
        refine u_X11_less_0 ?_
        refine ⟨fun c95 => ?_, fun c95 => ?_⟩
        · intro _
          exact hq _ _ hI g0 rfl
        · intro _
          exact hq _ _ hI g0 rfl
    · refine ⟨fun c98 => ?_, fun c98 => ?_⟩
      · exact hq _ _ hI g0 rfl
      · refine ⟨a1, ea1, ?_⟩
        refine ⟨o_a1, ?_⟩
        obtain ⟨a100, ea100, o_a100, l_a100⟩ := shl 44 rfl hI o_a1
        refine ⟨a100, ea100, ?_⟩
        refine ⟨o_a100, ?_⟩
        refine ⟨(vin l_a100 (m := 4) (by decide) (qm32 h0 ex10 c23 c98)), ?_⟩
        intro x101 ex101
        refine ⟨fun c102 => ?_, fun c102 => ?_⟩
        · refine u_X11_inTime_164 ?_
          refine u_X11_less ?_
          refine u_X11_less_0 ?_
          refine ⟨fun c103 => ?_, fun c103 => ?_⟩
          · intro _
            refine u_X11_less ?_
            refine u_X11_less_0 ?_
            refine ⟨fun c105 => ?_, fun c105 => ?_⟩
            · intro _
              exact hq _ _ hI g0 rfl
            · intro _
              exact hq _ _ hI g0 rfl
          · intro _
            refine u_X11_less ?_
            refine u_X11_less_0 ?_
            refine ⟨fun c109 => ?_, fun c109 => ?_⟩
            · intro _
              exact hq _ _ hI g0 rfl
            · intro _
              exact hq _ _ hI g0 rfl
        · refine u_X11_inTime_164 ?_
          refine u_X11_less ?_
          refine u_X11_less_0 ?_
          refine ⟨fun c112 => ?_, fun c112 => ?_⟩
          · intro _
            refine u_X11_less ?_
            refine u_X11_less_0 ?_
            refine ⟨fun c114 => ?_, fun c114 => ?_⟩
            · intro _
              exact hq _ _ hI g0 rfl
            · intro _
              exact hq _ _ hI g0 rfl
          · intro _
            refine u_X11_less ?_
            refine u_X11_less_0 ?_
            refine ⟨fun c118 => ?_, fun c118 => ?_⟩
            · intro _
              exact hq _ _ hI g0 rfl
            · intro _
              exact hq _ _ hI g0 rfl
    · refine ⟨fun c121 => ?_, fun c121 => ?_⟩
      · exact hq _ _ hI g0 rfl
      · refine ⟨a1, ea1, ?_⟩
        refine ⟨o_a1, ?_⟩
        obtain ⟨a123, ea123, o_a123, l_a123⟩ := shl 44 rfl hI o_a1
        refine ⟨a123, ea123, ?_⟩
        refine ⟨o_a123, ?_⟩
        refine ⟨(vin l_a123 (m := 4) (by decide) (qm33 h0 ex10 c23 c121)), ?_⟩
        intro x124 ex124
        refine u_X11_less ?_
        refine u_X11_less_0 ?_
        refine ⟨fun c125 => ?_, fun c125 => ?_⟩
        · intro _
          exact hq _ _ hI g0 rfl
        · intro _
          exact hq _ _ hI g0 rfl
    · refine ⟨fun c128 => ?_, fun c128 => ?_⟩
      · exact hq _ _ hI g0 rfl
      · refine ⟨a1, ea1, ?_⟩
        refine ⟨o_a1, ?_⟩
        obtain ⟨a130, ea130, o_a130, l_a130⟩ := shl 45 rfl hI o_a1
        refine ⟨a130, ea130, ?_⟩
        refine ⟨o_a130, ?_⟩
        refine ⟨(vin l_a130 (m := 4) (by decide) (qm34 h0 c23 c128)), ?_⟩
        intro x131 ex131
        exact hq _ _ hI g0 rfl
set_option maxHeartbeats 4000000 in
set_option maxRecDepth 20000 in
theorem m_X11_partsOf {v0 : Nat} {v1 : Int32} {v2 : Int32} {v3 : Int32} {v4 : Int32} {v5 : Int32} {v6 : Int32} {Q : Int64 → HS → Prop} {S : HS} (hI : IV S) (o_v0 : ob S v0 11)   (h0 : 0 ≤ v1 ∧ v1 < 4) (h1 : 0 ≤ v2 ∧ v2 < 12) (h2 : 0 ≤ v4 ∧ v4 < 6) (h3 : 1 ≤ v5)  (hw : WN S v0) (hq : ∀ (r : Int64) (T : HS), IV T → Gr S T → (S = T) → Q r T) : P_X11_partsOf v0 v1 v2 v3 v4 v5 v6 Q S := by
  have g0 := gr_rf S
  obtain ⟨a1, ea1⟩ := hw
  have o_a1 := ml_ob hI o_v0 ea1
  refine u_X11_partsOf ?_
  refine u_X11_partsOf_0 ?_
  refine ⟨o_v0, ?_⟩
  refine m_X11_inTime hI o_v0 (qm16 h0) (qm17 h1) (qm18 h2) ⟨_, ea1⟩ (fun x2 S3 hI2 g4 p_x2 => ?_)
  subst p_x2
  intro _
  refine ⟨a1, ea1, ?_⟩
  refine ⟨o_a1, ?_⟩
  obtain ⟨a7, ea7, o_a7, l_a7⟩ := shl 38 rfl hI o_a1
  refine ⟨a7, ea7, ?_⟩
  refine ⟨o_a7, ?_⟩
  refine ⟨(vin l_a7 (m := 12) (by decide) (qm19 h1)), ?_⟩
  intro x8 ex8
  refine ⟨a1, ea1, ?_⟩
  refine ⟨o_a1, ?_⟩
  obtain ⟨a10, ea10, o_a10, l_a10⟩ := shl 39 rfl hI o_a1
  refine ⟨a10, ea10, ?_⟩
  refine ⟨o_a10, ?_⟩
  refine ⟨(vin l_a10 (m := 12) (by decide) (qm19 h1)), ?_⟩
  intro x11 ex11
  refine ⟨(qm20 h3), ?_⟩
  intro x12 ex12
  exact hq _ _ hI g0 rfl
set_option maxHeartbeats 4000000 in
set_option maxRecDepth 20000 in
theorem m_X11_wetOf {v0 : Nat} {v1 : Int32} {v2 : Int32} {v3 : Int32} {v4 : Int32} {v5 : Int32} {Q : Int64 → HS → Prop} {S : HS} (hI : IV S) (o_v0 : ob S v0 11)   (h0 : 0 ≤ v1 ∧ v1 < 4) (h1 : 0 ≤ v2 ∧ v2 < 12) (h2 : 0 ≤ v4 ∧ v4 < 6) (h3 : 1 ≤ v5)  (hw : WN S v0) (hq : ∀ (r : Int64) (T : HS), IV T → Gr S T → (S = T) → Q r T) : P_X11_wetOf v0 v1 v2 v3 v4 v5 Q S := by
  have g0 := gr_rf S
  obtain ⟨a1, ea1⟩ := hw
  have o_a1 := ml_ob hI o_v0 ea1
  refine u_X11_wetOf ?_
  refine u_X11_wetOf_0 ?_
  refine i_X11_wetOf_6 (fun (y0 : Nat) (y1 : Int32) (y2 : Int32) (y3 : Int32) (y4 : Int32) (y5 : Int32) (y6 : Int64) (y8 : Int32) (Z : HS) => ((2147483647 : Int32).toInt - y8.toInt).toNat) (fun (y0 : Nat) (y1 : Int32) (y2 : Int32) (y3 : Int32) (y4 : Int32) (y5 : Int32) (y6 : Int64) (y8 : Int32) (Z : HS) => (S = Z) ∧ (v0 = y0) ∧ (v1 = y1) ∧ (v2 = y2) ∧ (v3 = y3) ∧ (v4 = y4) ∧ (v5 = y5) ∧ (0 ≤ y8)) ?_ _ _ _ _ _ _ _ _ _ ⟨rfl, rfl, rfl, rfl, rfl, rfl, rfl, (qm8)⟩
  intro w6 w8 w10 w12 w14 w16 w18 w19 S3 X20 ⟨eS3, q7, q9, q11, q13, q15, q17, i1u2⟩ ih21
  subst q7
  subst q9
  subst q11
  subst q13
  subst q15
  subst q17
  subst eS3
  refine u_X11_wetOf_6 ?_
  refine ⟨fun c22 => ?_, fun c22 => ?_⟩
  · exact hq _ _ hI g0 rfl
  · refine ⟨o_v0, ?_⟩
    refine m_X11_partsOf hI o_v0 (qm9 h0 i1u2 c22) (qm10 h1 i1u2 c22) (qm11 h2 i1u2 c22) (qm12 h3 i1u2 c22) ⟨_, ea1⟩ (fun x23 S24 hI2 g25 p_x23 => ?_)
    subst p_x23
    intro _
    intro x27 ex27
    intro x28 ex28
    exact ih21 _ _ _ _ _ _ _ _ _ ⟨rfl, rfl, rfl, rfl, rfl, rfl, rfl, (qm13 i1u2 c22 ex28)⟩ (mu_up (qm14 i1u2 c22 ex28) (qm15 i1u2 c22 ex28))
set_option maxHeartbeats 4000000 in
set_option maxRecDepth 20000 in
theorem m_X11_bestOf {v0 : Nat} {v1 : Int32} {v2 : Int32} {v3 : Int32} {v4 : Int32} {Q : Int32 → HS → Prop} {S : HS} (hI : IV S) (o_v0 : ob S v0 11)   (h0 : 0 ≤ v2 ∧ v2 < 12) (h1 : 0 ≤ v4 ∧ v4 < 6)  (hwi1 : WI S v0 4 v1) (hq : ∀ (r : Int32) (T : HS), IV T → Gr S T → (S = T) ∧ (1 ≤ r ∧ r ≤ 9) → Q r T) : P_X11_bestOf v0 v1 v2 v3 v4 Q S := by
  have g0 := gr_rf S
  obtain ⟨a1, ea1, hx1⟩ := hwi1
  have o_a1 := ml_ob hI o_v0 ea1
  obtain ⟨kv2, d_kv2⟩ : ∃ z : Int32, z = fI S a1 4 := ⟨_, rfl⟩
  have r_kv2 : (0 : Int32) ≤ kv2 ∧ kv2 ≤ (4 : Int32) := by rw [d_kv2]; exact nu 20 rfl hI o_a1
  have hwi1 : 0 ≤ v1 ∧ v1 < kv2 := by rw [d_kv2]; exact hx1
  refine u_X11_bestOf ?_
  refine u_X11_bestOf_0 ?_
  refine ⟨o_v0, ?_⟩
  refine ⟨a1, ea1, ?_⟩
  refine ⟨o_a1, ?_⟩
  obtain ⟨a4, ea4, o_a4, l_a4⟩ := shl 46 rfl hI o_a1
  refine ⟨a4, ea4, ?_⟩
  refine ⟨o_a4, ?_⟩
  refine ⟨(vin l_a4 (m := 4) (by decide) (qm566 r_kv2 hwi1)), ?_⟩
  intro x5 ex5
  have gy_x5 : 0 ≤ v1 ∧ v1 < fI S a1 4 := by rw [← d_kv2]; exact (qm567 r_kv2 hwi1)
  have g_x5 : (1 : Int32) ≤ x5 ∧ x5 ≤ (9 : Int32) := by rw [ex5]; exact wg_at (ml_wg hI o_v0 ea1) 3 rfl gy_x5 ea4
  intro x6 ex6
  refine i_X11_bestOf_17 (fun (y0 : Nat) (y1 : Int32) (y2 : Int32) (y3 : Int32) (y4 : Int32) (y5 : Int32) (y6 : Int32) (Z : HS) => ((2147483647 : Int32).toInt - y6.toInt).toNat) (fun (y0 : Nat) (y1 : Int32) (y2 : Int32) (y3 : Int32) (y4 : Int32) (y5 : Int32) (y6 : Int32) (Z : HS) => (S = Z) ∧ (v0 = y0) ∧ (v1 = y1) ∧ (v2 = y2) ∧ (v3 = y3) ∧ (v4 = y4) ∧ (1 ≤ y5 ∧ y5 ≤ 9 ∧ 1 ≤ y6)) ?_ _ _ _ _ _ _ _ _ ⟨rfl, rfl, rfl, rfl, rfl, rfl, (qm646 g_x5 ex6)⟩
  intro w11 w13 w15 w17 w19 w21 w22 S8 X23 ⟨eS8, q12, q14, q16, q18, q20, i1u7⟩ ih24
  subst q12
  subst q14
  subst q16
  subst q18
  subst q20
  subst eS8
  refine u_X11_bestOf_17 ?_
  refine ⟨o_v0, ?_⟩
  refine ⟨a1, ea1, ?_⟩
  refine ⟨o_a1, ?_⟩
  obtain ⟨a26, ea26, o_a26, l_a26⟩ := shl 47 rfl hI o_a1
  refine ⟨a26, ea26, ?_⟩
  refine ⟨o_a26, ?_⟩
  refine ⟨(vin l_a26 (m := 4) (by decide) (qm566 r_kv2 hwi1)), ?_⟩
  intro x27 ex27
  have gy_x27 : 0 ≤ v1 ∧ v1 < fI S a1 4 := by rw [← d_kv2]; exact (qm567 r_kv2 hwi1)
  have g_x27 : (0 : Int32) ≤ x27 ∧ x27 ≤ (9 : Int32) := by rw [ex27]; exact wg_at (ml_wg hI o_v0 ea1) 4 rfl gy_x27 ea26
  refine ⟨fun c28 => ?_, fun c28 => ?_⟩
  · exact hq _ _ hI g0 ⟨rfl, (qm647 i1u7 g_x27 c28)⟩
  · refine m_X11_wetOf hI o_v0 (qm648 r_kv2 hwi1 i1u7 g_x27 c28) (qm649 h0 i1u7 g_x27 c28) (qm650 h1 i1u7 g_x27 c28) (qm651 i1u7 g_x27 c28) ⟨_, ea1⟩ (fun x29 S30 hI2 g31 p_x29 => ?_)
    subst p_x29
    intro _
    refine m_X11_wetOf hI o_v0 (qm648 r_kv2 hwi1 i1u7 g_x27 c28) (qm649 h0 i1u7 g_x27 c28) (qm650 h1 i1u7 g_x27 c28) (qm652 i1u7 g_x27 c28) ⟨_, ea1⟩ (fun x33 S34 hI2 g35 p_x33 => ?_)
    subst p_x33
    intro _
    refine ⟨fun c37 => ?_, fun c37 => ?_⟩
    · refine u_X11_bestOf_61 ?_
      intro x38 ex38
      exact ih24 _ _ _ _ _ _ _ _ ⟨rfl, rfl, rfl, rfl, rfl, rfl, (qm653 i1u7 g_x27 c28 c37 ex38)⟩ (mu_up (qm654 i1u7 g_x27 c28 c37 ex38) (qm655 i1u7 g_x27 c28 c37 ex38))
    · refine u_X11_bestOf_61 ?_
      intro x39 ex39
      exact ih24 _ _ _ _ _ _ _ _ ⟨rfl, rfl, rfl, rfl, rfl, rfl, (qm656 i1u7 g_x27 c28 c37 ex39)⟩ (mu_up (qm657 i1u7 g_x27 c28 c37 ex39) (qm658 i1u7 g_x27 c28 c37 ex39))
set_option maxHeartbeats 4000000 in
set_option maxRecDepth 20000 in
theorem m_X11_best {v0 : Nat} {v1 : Int32} {v2 : Int32} {v3 : Int32} {v4 : Int32} {Q : Int32 → HS → Prop} {S : HS} (hI : IV S) (o_v0 : ob S v0 11)     (hq : ∀ (r : Int32) (T : HS), IV T → Gr S T → FRI [(11, 0), (11, 1), (11, 2)] [] S T → Q r T) : P_X11_best v0 v1 v2 v3 v4 Q S := by
  have g0 := gr_rf S
  have f0 := fri_rf [(11, 0), (11, 1), (11, 2)] [] S
  refine u_X11_best ?_
  refine u_X11_best_0 ?_
  refine ⟨o_v0, ?_⟩
  intro S1 eS1
  have hIn : IV S1 := by rw [eS1]; exact iv11_sI hI o_v0 (by decide) (nu_free (by decide))
  have hI := hIn
  have f0 := fr_I eS1 g0 f0 o_v0 (by decide)
  obtain ⟨kv2, hkv2⟩ : ∃ z : Int32, z = (0 : Int32) := ⟨_, rfl⟩
  have d_kv2 := rd_Is eS1 hkv2
  have g0 := gr_I eS1 g0
  have o_v0 := ob_I eS1 o_v0
  refine u_X11_isWalker ?_
  refine u_X11_isWalker_0 ?_
  refine ⟨o_v0, ?_⟩
  refine ⟨fun e4 => ?_, fun a3 ea3 => ?_⟩
  · intro _ _
    refine ⟨fun c6 => ?_, fun c6 => absurd (show ¬ (0 : Int32) = 0 from c6) (by decide)⟩
    refine u_X11_best_39 ?_
    refine ⟨o_v0, ?_⟩
    refine u_X11_refused ?_
    refine u_X11_refused_0 ?_
    refine ⟨o_v0, ?_⟩
    intro S7 eS7
    have hIn : IV S7 := by rw [eS7]; exact iv11_sI hI o_v0 (by decide) (nu_free (by decide))
    have hI := hIn
    have f0 := fr_I eS7 g0 f0 o_v0 (by decide)
    have d_kv2 := rd_Ij eS7 (by decide) d_kv2
    obtain ⟨kv8, hkv8⟩ : ∃ z : Int32, z = (1 : Int32) := ⟨_, rfl⟩
    have d_kv8 := rd_Is eS7 hkv8
    have g0 := gr_I eS7 g0
    have o_v0 := ob_I eS7 o_v0
    intro S9 eS9
    have hIn : IV S9 := by rw [eS9]; exact iv11_sI hI o_v0 (by decide) (nu_free (by decide))
    have hI := hIn
    have f0 := fr_I eS9 g0 f0 o_v0 (by decide)
    have d_kv2 := rd_Ij eS9 (by decide) d_kv2
    have d_kv8 := rd_Ij eS9 (by decide) d_kv8
    obtain ⟨kv10, hkv10⟩ : ∃ z : Int32, z = (-1 : Int32) := ⟨_, rfl⟩
    have d_kv10 := rd_Is eS9 hkv10
    have g0 := gr_I eS9 g0
    have o_v0 := ob_I eS9 o_v0
    intro _
    exact hq _ _ hI g0 f0
  · have o_a3 := ml_ob hI o_v0 ea3
    refine ⟨fun c12 => ?_, fun c12 => ?_⟩
    · intro _ _
      refine ⟨fun c14 => ?_, fun c14 => absurd (show ¬ (0 : Int32) = 0 from c14) (by decide)⟩
      refine u_X11_best_39 ?_
      refine ⟨o_v0, ?_⟩
      refine u_X11_refused ?_
      refine u_X11_refused_0 ?_
      refine ⟨o_v0, ?_⟩
      intro S15 eS15
      have hIn : IV S15 := by rw [eS15]; exact iv11_sI hI o_v0 (by decide) (nu_free (by decide))
      have hI := hIn
      have f0 := fr_I eS15 g0 f0 o_v0 (by decide)
      have d_kv2 := rd_Ij eS15 (by decide) d_kv2
      obtain ⟨kv16, hkv16⟩ : ∃ z : Int32, z = (1 : Int32) := ⟨_, rfl⟩
      have d_kv16 := rd_Is eS15 hkv16
      have ea3 := rf_I eS15 ea3
      have g0 := gr_I eS15 g0
      have o_a3 := ob_I eS15 o_a3
      have o_v0 := ob_I eS15 o_v0
      intro S17 eS17
      have hIn : IV S17 := by rw [eS17]; exact iv11_sI hI o_v0 (by decide) (nu_free (by decide))
      have hI := hIn
      have f0 := fr_I eS17 g0 f0 o_v0 (by decide)
      have d_kv2 := rd_Ij eS17 (by decide) d_kv2
      have d_kv16 := rd_Ij eS17 (by decide) d_kv16
      obtain ⟨kv18, hkv18⟩ : ∃ z : Int32, z = (-1 : Int32) := ⟨_, rfl⟩
      have d_kv18 := rd_Is eS17 hkv18
      have ea3 := rf_I eS17 ea3
      have g0 := gr_I eS17 g0
      have o_a3 := ob_I eS17 o_a3
      have o_v0 := ob_I eS17 o_v0
      intro _
      exact hq _ _ hI g0 f0
    · refine ⟨a3, ea3, ?_⟩
      refine ⟨o_a3, ?_⟩
      intro x21 ex21
      have r_x21 : (0 : Int32) ≤ x21 ∧ x21 ≤ (4 : Int32) := by rw [ex21]; exact nu 20 rfl hI o_a3
      have d_x21 := ex21
      refine ⟨fun c22 => ?_, fun c22 => ?_⟩
      · intro _ _
        refine ⟨fun c24 => ?_, fun c24 => absurd (show ¬ (0 : Int32) = 0 from c24) (by decide)⟩
        refine u_X11_best_39 ?_
        refine ⟨o_v0, ?_⟩
        refine u_X11_refused ?_
        refine u_X11_refused_0 ?_
        refine ⟨o_v0, ?_⟩
        intro S25 eS25
        have hIn : IV S25 := by rw [eS25]; exact iv11_sI hI o_v0 (by decide) (nu_free (by decide))
        have hI := hIn
        have f0 := fr_I eS25 g0 f0 o_v0 (by decide)
        have d_kv2 := rd_Ij eS25 (by decide) d_kv2
        have d_x21 := rd_Ik eS25 o_v0 o_a3 (by decide) d_x21
        obtain ⟨kv26, hkv26⟩ : ∃ z : Int32, z = (1 : Int32) := ⟨_, rfl⟩
        have d_kv26 := rd_Is eS25 hkv26
        have ea3 := rf_I eS25 ea3
        have g0 := gr_I eS25 g0
        have o_a3 := ob_I eS25 o_a3
        have o_v0 := ob_I eS25 o_v0
        intro S27 eS27
        have hIn : IV S27 := by rw [eS27]; exact iv11_sI hI o_v0 (by decide) (nu_free (by decide))
        have hI := hIn
        have f0 := fr_I eS27 g0 f0 o_v0 (by decide)
        have d_kv2 := rd_Ij eS27 (by decide) d_kv2
        have d_x21 := rd_Ik eS27 o_v0 o_a3 (by decide) d_x21
        have d_kv26 := rd_Ij eS27 (by decide) d_kv26
        obtain ⟨kv28, hkv28⟩ : ∃ z : Int32, z = (-1 : Int32) := ⟨_, rfl⟩
        have d_kv28 := rd_Is eS27 hkv28
        have ea3 := rf_I eS27 ea3
        have g0 := gr_I eS27 g0
        have o_a3 := ob_I eS27 o_a3
        have o_v0 := ob_I eS27 o_v0
        intro _
        exact hq _ _ hI g0 f0
      · intro _ _
        refine ⟨fun c31 => absurd (show (1 : Int32) = 0 from c31) (by decide), fun c31 => ?_⟩
        refine u_X11_isRoad ?_
        refine u_X11_isRoad_0 ?_
        refine ⟨o_v0, ?_⟩
        refine ⟨fun e33 => (nomatch (e33.symm.trans ea3)), fun a32 ea32 => ?_⟩
        obtain rfl : a3 = a32 := Option.some.inj (ea3.symm.trans ea32)
        refine ⟨fun c34 => ?_, fun c34 => ?_⟩
        · intro _ _
          refine ⟨fun c36 => ?_, fun c36 => absurd (show ¬ (0 : Int32) = 0 from c36) (by decide)⟩
          refine u_X11_best_39 ?_
          refine ⟨o_v0, ?_⟩
          refine u_X11_refused ?_
          refine u_X11_refused_0 ?_
          refine ⟨o_v0, ?_⟩
          intro S37 eS37
          have hIn : IV S37 := by rw [eS37]; exact iv11_sI hI o_v0 (by decide) (nu_free (by decide))
          have hI := hIn
          have f0 := fr_I eS37 g0 f0 o_v0 (by decide)
          have d_kv2 := rd_Ij eS37 (by decide) d_kv2
          have d_x21 := rd_Ik eS37 o_v0 o_a3 (by decide) d_x21
          obtain ⟨kv38, hkv38⟩ : ∃ z : Int32, z = (1 : Int32) := ⟨_, rfl⟩
          have d_kv38 := rd_Is eS37 hkv38
          have ea3 := rf_I eS37 ea3
          have g0 := gr_I eS37 g0
          have o_a3 := ob_I eS37 o_a3
          have o_v0 := ob_I eS37 o_v0
          intro S39 eS39
          have hIn : IV S39 := by rw [eS39]; exact iv11_sI hI o_v0 (by decide) (nu_free (by decide))
          have hI := hIn
          have f0 := fr_I eS39 g0 f0 o_v0 (by decide)
          have d_kv2 := rd_Ij eS39 (by decide) d_kv2
          have d_x21 := rd_Ik eS39 o_v0 o_a3 (by decide) d_x21
          have d_kv38 := rd_Ij eS39 (by decide) d_kv38
          obtain ⟨kv40, hkv40⟩ : ∃ z : Int32, z = (-1 : Int32) := ⟨_, rfl⟩
          have d_kv40 := rd_Is eS39 hkv40
          have ea3 := rf_I eS39 ea3
          have g0 := gr_I eS39 g0
          have o_a3 := ob_I eS39 o_a3
          have o_v0 := ob_I eS39 o_v0
          intro _
          exact hq _ _ hI g0 f0
        · refine ⟨a3, ea3, ?_⟩
          refine ⟨o_a3, ?_⟩
          intro x43 ex43
          have r_x43 : (0 : Int32) ≤ x43 ∧ x43 ≤ (12 : Int32) := by rw [ex43]; exact nu 19 rfl hI o_a3
          have d_x43 := ex43
          refine ⟨fun c44 => ?_, fun c44 => ?_⟩
          · intro _ _
            refine ⟨fun c46 => ?_, fun c46 => absurd (show ¬ (0 : Int32) = 0 from c46) (by decide)⟩
            refine u_X11_best_39 ?_
            refine ⟨o_v0, ?_⟩
            refine u_X11_refused ?_
            refine u_X11_refused_0 ?_
            refine ⟨o_v0, ?_⟩
            intro S47 eS47
            have hIn : IV S47 := by rw [eS47]; exact iv11_sI hI o_v0 (by decide) (nu_free (by decide))
            have hI := hIn
            have f0 := fr_I eS47 g0 f0 o_v0 (by decide)
            have d_kv2 := rd_Ij eS47 (by decide) d_kv2
            have d_x21 := rd_Ik eS47 o_v0 o_a3 (by decide) d_x21
            have d_x43 := rd_Ik eS47 o_v0 o_a3 (by decide) d_x43
            obtain ⟨kv48, hkv48⟩ : ∃ z : Int32, z = (1 : Int32) := ⟨_, rfl⟩
            have d_kv48 := rd_Is eS47 hkv48
            have ea3 := rf_I eS47 ea3
            have g0 := gr_I eS47 g0
            have o_a3 := ob_I eS47 o_a3
            have o_v0 := ob_I eS47 o_v0
            intro S49 eS49
            have hIn : IV S49 := by rw [eS49]; exact iv11_sI hI o_v0 (by decide) (nu_free (by decide))
            have hI := hIn
            have f0 := fr_I eS49 g0 f0 o_v0 (by decide)
            have d_kv2 := rd_Ij eS49 (by decide) d_kv2
            have d_x21 := rd_Ik eS49 o_v0 o_a3 (by decide) d_x21
            have d_x43 := rd_Ik eS49 o_v0 o_a3 (by decide) d_x43
            have d_kv48 := rd_Ij eS49 (by decide) d_kv48
            obtain ⟨kv50, hkv50⟩ : ∃ z : Int32, z = (-1 : Int32) := ⟨_, rfl⟩
            have d_kv50 := rd_Is eS49 hkv50
            have ea3 := rf_I eS49 ea3
            have g0 := gr_I eS49 g0
            have o_a3 := ob_I eS49 o_a3
            have o_v0 := ob_I eS49 o_v0
            intro _
            exact hq _ _ hI g0 f0
          · intro _ _
            refine ⟨fun c53 => absurd (show (1 : Int32) = 0 from c53) (by decide), fun c53 => ?_⟩
            refine u_X11_in ?_
            refine u_X11_in_0 ?_
            refine ⟨fun c54 => ?_, fun c54 => ?_⟩
            · intro _ _
              refine ⟨fun c56 => ?_, fun c56 => absurd (show ¬ (0 : Int32) = 0 from c56) (by decide)⟩
              refine u_X11_best_39 ?_
              refine ⟨o_v0, ?_⟩
              refine u_X11_refused ?_
              refine u_X11_refused_0 ?_
              refine ⟨o_v0, ?_⟩
              intro S57 eS57
              have hIn : IV S57 := by rw [eS57]; exact iv11_sI hI o_v0 (by decide) (nu_free (by decide))
              have hI := hIn
              have f0 := fr_I eS57 g0 f0 o_v0 (by decide)
              have d_kv2 := rd_Ij eS57 (by decide) d_kv2
              have d_x21 := rd_Ik eS57 o_v0 o_a3 (by decide) d_x21
              have d_x43 := rd_Ik eS57 o_v0 o_a3 (by decide) d_x43
              obtain ⟨kv58, hkv58⟩ : ∃ z : Int32, z = (1 : Int32) := ⟨_, rfl⟩
              have d_kv58 := rd_Is eS57 hkv58
              have ea3 := rf_I eS57 ea3
              have g0 := gr_I eS57 g0
              have o_a3 := ob_I eS57 o_a3
              have o_v0 := ob_I eS57 o_v0
              intro S59 eS59
              have hIn : IV S59 := by rw [eS59]; exact iv11_sI hI o_v0 (by decide) (nu_free (by decide))
              have hI := hIn
              have f0 := fr_I eS59 g0 f0 o_v0 (by decide)
              have d_kv2 := rd_Ij eS59 (by decide) d_kv2
              have d_x21 := rd_Ik eS59 o_v0 o_a3 (by decide) d_x21
              have d_x43 := rd_Ik eS59 o_v0 o_a3 (by decide) d_x43
              have d_kv58 := rd_Ij eS59 (by decide) d_kv58
              obtain ⟨kv60, hkv60⟩ : ∃ z : Int32, z = (-1 : Int32) := ⟨_, rfl⟩
              have d_kv60 := rd_Is eS59 hkv60
              have ea3 := rf_I eS59 ea3
              have g0 := gr_I eS59 g0
              have o_a3 := ob_I eS59 o_a3
              have o_v0 := ob_I eS59 o_v0
              intro _
              exact hq _ _ hI g0 f0
            · refine ⟨fun c62 => ?_, fun c62 => ?_⟩
              · intro _ _
                refine ⟨fun c64 => ?_, fun c64 => absurd (show ¬ (0 : Int32) = 0 from c64) (by decide)⟩
                refine u_X11_best_39 ?_
                refine ⟨o_v0, ?_⟩
                refine u_X11_refused ?_
                refine u_X11_refused_0 ?_
                refine ⟨o_v0, ?_⟩
                intro S65 eS65
                have hIn : IV S65 := by rw [eS65]; exact iv11_sI hI o_v0 (by decide) (nu_free (by decide))
                have hI := hIn
                have f0 := fr_I eS65 g0 f0 o_v0 (by decide)
                have d_kv2 := rd_Ij eS65 (by decide) d_kv2
                have d_x21 := rd_Ik eS65 o_v0 o_a3 (by decide) d_x21
                have d_x43 := rd_Ik eS65 o_v0 o_a3 (by decide) d_x43
                obtain ⟨kv66, hkv66⟩ : ∃ z : Int32, z = (1 : Int32) := ⟨_, rfl⟩
                have d_kv66 := rd_Is eS65 hkv66
                have ea3 := rf_I eS65 ea3
                have g0 := gr_I eS65 g0
                have o_a3 := ob_I eS65 o_a3
                have o_v0 := ob_I eS65 o_v0
                intro S67 eS67
                have hIn : IV S67 := by rw [eS67]; exact iv11_sI hI o_v0 (by decide) (nu_free (by decide))
                have hI := hIn
                have f0 := fr_I eS67 g0 f0 o_v0 (by decide)
                have d_kv2 := rd_Ij eS67 (by decide) d_kv2
                have d_x21 := rd_Ik eS67 o_v0 o_a3 (by decide) d_x21
                have d_x43 := rd_Ik eS67 o_v0 o_a3 (by decide) d_x43
                have d_kv66 := rd_Ij eS67 (by decide) d_kv66
                obtain ⟨kv68, hkv68⟩ : ∃ z : Int32, z = (-1 : Int32) := ⟨_, rfl⟩
                have d_kv68 := rd_Is eS67 hkv68
                have ea3 := rf_I eS67 ea3
                have g0 := gr_I eS67 g0
                have o_a3 := ob_I eS67 o_a3
                have o_v0 := ob_I eS67 o_v0
                intro _
                exact hq _ _ hI g0 f0
              · intro _ _
                refine ⟨fun c71 => absurd (show (1 : Int32) = 0 from c71) (by decide), fun c71 => ?_⟩
                refine u_X11_isHour ?_
                refine u_X11_isHour_0 ?_
                refine ⟨o_v0, ?_⟩
                refine ⟨fun e73 => (nomatch (e73.symm.trans ea3)), fun a72 ea72 => ?_⟩
                obtain rfl : a3 = a72 := Option.some.inj (ea3.symm.trans ea72)
                refine ⟨fun c74 => ?_, fun c74 => ?_⟩
                · intro _ _
                  refine ⟨fun c76 => absurd (show ¬ (0 : Int32) = 0 from c76) (by decide), fun c76 => ?_⟩
                  refine u_X11_best_39 ?_
                  refine ⟨o_v0, ?_⟩
                  refine u_X11_refused ?_
                  refine u_X11_refused_0 ?_
                  refine ⟨o_v0, ?_⟩
                  intro S77 eS77
                  have hIn : IV S77 := by rw [eS77]; exact iv11_sI hI o_v0 (by decide) (nu_free (by decide))
                  have hI := hIn
                  have f0 := fr_I eS77 g0 f0 o_v0 (by decide)
                  have d_kv2 := rd_Ij eS77 (by decide) d_kv2
                  have d_x21 := rd_Ik eS77 o_v0 o_a3 (by decide) d_x21
                  have d_x43 := rd_Ik eS77 o_v0 o_a3 (by decide) d_x43
                  obtain ⟨kv78, hkv78⟩ : ∃ z : Int32, z = (1 : Int32) := ⟨_, rfl⟩
                  have d_kv78 := rd_Is eS77 hkv78
                  have ea3 := rf_I eS77 ea3
                  have g0 := gr_I eS77 g0
                  have o_a3 := ob_I eS77 o_a3
                  have o_v0 := ob_I eS77 o_v0
                  intro S79 eS79
                  have hIn : IV S79 := by rw [eS79]; exact iv11_sI hI o_v0 (by decide) (nu_free (by decide))
                  have hI := hIn
                  have f0 := fr_I eS79 g0 f0 o_v0 (by decide)
                  have d_kv2 := rd_Ij eS79 (by decide) d_kv2
                  have d_x21 := rd_Ik eS79 o_v0 o_a3 (by decide) d_x21
                  have d_x43 := rd_Ik eS79 o_v0 o_a3 (by decide) d_x43
                  have d_kv78 := rd_Ij eS79 (by decide) d_kv78
                  obtain ⟨kv80, hkv80⟩ : ∃ z : Int32, z = (-1 : Int32) := ⟨_, rfl⟩
                  have d_kv80 := rd_Is eS79 hkv80
                  have ea3 := rf_I eS79 ea3
                  have g0 := gr_I eS79 g0
                  have o_a3 := ob_I eS79 o_a3
                  have o_v0 := ob_I eS79 o_v0
                  intro _
                  exact hq _ _ hI g0 f0
                · refine ⟨a3, ea3, ?_⟩
                  refine ⟨o_a3, ?_⟩
                  intro x83 ex83
                  have r_x83 : (0 : Int32) ≤ x83 ∧ x83 ≤ (6 : Int32) := by rw [ex83]; exact nu 17 rfl hI o_a3
                  have d_x83 := ex83
                  refine ⟨fun c84 => ?_, fun c84 => ?_⟩
                  · intro _ _
                    refine ⟨fun c86 => absurd (show ¬ (0 : Int32) = 0 from c86) (by decide), fun c86 => ?_⟩
                    refine u_X11_best_39 ?_
                    refine ⟨o_v0, ?_⟩
                    refine u_X11_refused ?_
                    refine u_X11_refused_0 ?_
                    refine ⟨o_v0, ?_⟩
                    intro S87 eS87
                    have hIn : IV S87 := by rw [eS87]; exact iv11_sI hI o_v0 (by decide) (nu_free (by decide))
                    have hI := hIn
                    have f0 := fr_I eS87 g0 f0 o_v0 (by decide)
                    have d_kv2 := rd_Ij eS87 (by decide) d_kv2
                    have d_x21 := rd_Ik eS87 o_v0 o_a3 (by decide) d_x21
                    have d_x43 := rd_Ik eS87 o_v0 o_a3 (by decide) d_x43
                    have d_x83 := rd_Ik eS87 o_v0 o_a3 (by decide) d_x83
                    obtain ⟨kv88, hkv88⟩ : ∃ z : Int32, z = (1 : Int32) := ⟨_, rfl⟩
                    have d_kv88 := rd_Is eS87 hkv88
                    have ea3 := rf_I eS87 ea3
                    have g0 := gr_I eS87 g0
                    have o_a3 := ob_I eS87 o_a3
                    have o_v0 := ob_I eS87 o_v0
                    intro S89 eS89
                    have hIn : IV S89 := by rw [eS89]; exact iv11_sI hI o_v0 (by decide) (nu_free (by decide))
                    have hI := hIn
                    have f0 := fr_I eS89 g0 f0 o_v0 (by decide)
                    have d_kv2 := rd_Ij eS89 (by decide) d_kv2
                    have d_x21 := rd_Ik eS89 o_v0 o_a3 (by decide) d_x21
                    have d_x43 := rd_Ik eS89 o_v0 o_a3 (by decide) d_x43
                    have d_x83 := rd_Ik eS89 o_v0 o_a3 (by decide) d_x83
                    have d_kv88 := rd_Ij eS89 (by decide) d_kv88
                    obtain ⟨kv90, hkv90⟩ : ∃ z : Int32, z = (-1 : Int32) := ⟨_, rfl⟩
                    have d_kv90 := rd_Is eS89 hkv90
                    have ea3 := rf_I eS89 ea3
                    have g0 := gr_I eS89 g0
                    have o_a3 := ob_I eS89 o_a3
                    have o_v0 := ob_I eS89 o_v0
                    intro _
                    exact hq _ _ hI g0 f0
                  · intro _ _
                    refine ⟨fun c93 => ?_, fun c93 => absurd (show (1 : Int32) = 0 from c93) (by decide)⟩
                    refine m_X11_bestOf hI o_v0 (qm694 c12 r_x21 c22 c34 r_x43 c44 c54 c62 c74 r_x83 c84) (qm695 c12 r_x21 c22 c34 r_x43 c44 c54 c62 c74 r_x83 c84) ⟨_, ea3, (qm696 c12 r_x21 c22 c34 r_x43 c44 c54 c62 c74 r_x83 c84), (by rw [← d_x21]; exact (qm697 c12 r_x21 c22 c34 r_x43 c44 c54 c62 c74 r_x83 c84))⟩ (fun x94 S95 hI2 g96 p_x94 => ?_)
                    obtain ⟨z_S95, p_x94⟩ := p_x94
                    subst z_S95
                    intro _
                    refine u_X11_good ?_
                    refine u_X11_good_0 ?_
                    refine ⟨o_v0, ?_⟩
                    intro S98 eS98
                    have hIn : IV S98 := by rw [eS98]; exact iv11_sI hI o_v0 (by decide) (nu_free (by decide))
                    have hI := hIn
                    have f0 := fr_I eS98 g0 f0 o_v0 (by decide)
                    have d_kv2 := rd_Ij eS98 (by decide) d_kv2
                    have d_x21 := rd_Ik eS98 o_v0 o_a3 (by decide) d_x21
                    have d_x43 := rd_Ik eS98 o_v0 o_a3 (by decide) d_x43
                    have d_x83 := rd_Ik eS98 o_v0 o_a3 (by decide) d_x83
                    obtain ⟨kv99, hkv99⟩ : ∃ z : Int32, z = (0 : Int32) := ⟨_, rfl⟩
                    have d_kv99 := rd_Is eS98 hkv99
                    have ea3 := rf_I eS98 ea3
                    have g0 := gr_I eS98 g0
                    have o_a3 := ob_I eS98 o_a3
                    have o_v0 := ob_I eS98 o_v0
                    intro S100 eS100
                    have hIn : IV S100 := by rw [eS100]; exact iv11_sI hI o_v0 (by decide) (nu_free (by decide))
                    have hI := hIn
                    have f0 := fr_I eS100 g0 f0 o_v0 (by decide)
                    have d_kv2 := rd_Ij eS100 (by decide) d_kv2
                    have d_x21 := rd_Ik eS100 o_v0 o_a3 (by decide) d_x21
                    have d_x43 := rd_Ik eS100 o_v0 o_a3 (by decide) d_x43
                    have d_x83 := rd_Ik eS100 o_v0 o_a3 (by decide) d_x83
                    have d_kv99 := rd_Ij eS100 (by decide) d_kv99
                    obtain ⟨kv101, hkv101⟩ : ∃ z : Int32, z = (-1 : Int32) := ⟨_, rfl⟩
                    have d_kv101 := rd_Is eS100 hkv101
                    have ea3 := rf_I eS100 ea3
                    have g0 := gr_I eS100 g0
                    have o_a3 := ob_I eS100 o_a3
                    have o_v0 := ob_I eS100 o_v0
                    intro _
                    exact hq _ _ hI g0 f0
set_option maxHeartbeats 4000000 in
set_option maxRecDepth 20000 in
theorem m_X11_day {v0 : Nat} {v1 : Int32} {v2 : Int32} {v3 : Int32} {v4 : Int32} {Q : Int32 → HS → Prop} {S : HS} (hI : IV S) (o_v0 : ob S v0 11)     (hq : ∀ (r : Int32) (T : HS), IV T → Gr S T → FRI [(11, 0), (11, 1), (11, 2), (11, 19), (11, 20), (11, 24), (11, 25)] [] S T → Q r T) : P_X11_day v0 v1 v2 v3 v4 Q S := by
  have g0 := gr_rf S
  have f0 := fri_rf [(11, 0), (11, 1), (11, 2), (11, 19), (11, 20), (11, 24), (11, 25)] [] S
  refine u_X11_day ?_
  refine u_X11_day_0 ?_
  refine ⟨o_v0, ?_⟩
  intro S1 eS1
  have hIn : IV S1 := by rw [eS1]; exact iv11_sI hI o_v0 (by decide) (nu_free (by decide))
  have hI := hIn
  have f0 := fr_I eS1 g0 f0 o_v0 (by decide)
  obtain ⟨kv2, hkv2⟩ : ∃ z : Int32, z = (0 : Int32) := ⟨_, rfl⟩
  have d_kv2 := rd_Is eS1 hkv2
  have g0 := gr_I eS1 g0
  have o_v0 := ob_I eS1 o_v0
  refine u_X11_isWalker ?_
  refine u_X11_isWalker_0 ?_
  refine ⟨o_v0, ?_⟩
  refine ⟨fun e4 => ?_, fun a3 ea3 => ?_⟩
  · intro _ _
    refine ⟨fun c6 => ?_, fun c6 => absurd (show ¬ (0 : Int32) = 0 from c6) (by decide)⟩
    refine u_X11_day_21 ?_
    refine ⟨o_v0, ?_⟩
    refine u_X11_refused ?_
    refine u_X11_refused_0 ?_
    refine ⟨o_v0, ?_⟩
    intro S7 eS7
    have hIn : IV S7 := by rw [eS7]; exact iv11_sI hI o_v0 (by decide) (nu_free (by decide))
    have hI := hIn
    have f0 := fr_I eS7 g0 f0 o_v0 (by decide)
    have d_kv2 := rd_Ij eS7 (by decide) d_kv2
    obtain ⟨kv8, hkv8⟩ : ∃ z : Int32, z = (1 : Int32) := ⟨_, rfl⟩
    have d_kv8 := rd_Is eS7 hkv8
    have g0 := gr_I eS7 g0
    have o_v0 := ob_I eS7 o_v0
    intro S9 eS9
    have hIn : IV S9 := by rw [eS9]; exact iv11_sI hI o_v0 (by decide) (nu_free (by decide))
    have hI := hIn
    have f0 := fr_I eS9 g0 f0 o_v0 (by decide)
    have d_kv2 := rd_Ij eS9 (by decide) d_kv2
    have d_kv8 := rd_Ij eS9 (by decide) d_kv8
    obtain ⟨kv10, hkv10⟩ : ∃ z : Int32, z = (-1 : Int32) := ⟨_, rfl⟩
    have d_kv10 := rd_Is eS9 hkv10
    have g0 := gr_I eS9 g0
    have o_v0 := ob_I eS9 o_v0
    intro _
    exact hq _ _ hI g0 f0
  · have o_a3 := ml_ob hI o_v0 ea3
    refine ⟨fun c12 => ?_, fun c12 => ?_⟩
    · intro _ _
      refine ⟨fun c14 => ?_, fun c14 => absurd (show ¬ (0 : Int32) = 0 from c14) (by decide)⟩
      refine u_X11_day_21 ?_
      refine ⟨o_v0, ?_⟩
      refine u_X11_refused ?_
      refine u_X11_refused_0 ?_
      refine ⟨o_v0, ?_⟩
      intro S15 eS15
      have hIn : IV S15 := by rw [eS15]; exact iv11_sI hI o_v0 (by decide) (nu_free (by decide))
      have hI := hIn
      have f0 := fr_I eS15 g0 f0 o_v0 (by decide)
      have d_kv2 := rd_Ij eS15 (by decide) d_kv2
      obtain ⟨kv16, hkv16⟩ : ∃ z : Int32, z = (1 : Int32) := ⟨_, rfl⟩
      have d_kv16 := rd_Is eS15 hkv16
      have ea3 := rf_I eS15 ea3
      have g0 := gr_I eS15 g0
      have o_a3 := ob_I eS15 o_a3
      have o_v0 := ob_I eS15 o_v0
      intro S17 eS17
      have hIn : IV S17 := by rw [eS17]; exact iv11_sI hI o_v0 (by decide) (nu_free (by decide))
      have hI := hIn
      have f0 := fr_I eS17 g0 f0 o_v0 (by decide)
      have d_kv2 := rd_Ij eS17 (by decide) d_kv2
      have d_kv16 := rd_Ij eS17 (by decide) d_kv16
      obtain ⟨kv18, hkv18⟩ : ∃ z : Int32, z = (-1 : Int32) := ⟨_, rfl⟩
      have d_kv18 := rd_Is eS17 hkv18
      have ea3 := rf_I eS17 ea3
      have g0 := gr_I eS17 g0
      have o_a3 := ob_I eS17 o_a3
      have o_v0 := ob_I eS17 o_v0
      intro _
      exact hq _ _ hI g0 f0
    · refine ⟨a3, ea3, ?_⟩
      refine ⟨o_a3, ?_⟩
      intro x21 ex21
      have r_x21 : (0 : Int32) ≤ x21 ∧ x21 ≤ (4 : Int32) := by rw [ex21]; exact nu 20 rfl hI o_a3
      have d_x21 := ex21
      refine ⟨fun c22 => ?_, fun c22 => ?_⟩
      · intro _ _
        refine ⟨fun c24 => ?_, fun c24 => absurd (show ¬ (0 : Int32) = 0 from c24) (by decide)⟩
        refine u_X11_day_21 ?_
        refine ⟨o_v0, ?_⟩
        refine u_X11_refused ?_
        refine u_X11_refused_0 ?_
        refine ⟨o_v0, ?_⟩
        intro S25 eS25
        have hIn : IV S25 := by rw [eS25]; exact iv11_sI hI o_v0 (by decide) (nu_free (by decide))
        have hI := hIn
        have f0 := fr_I eS25 g0 f0 o_v0 (by decide)
        have d_kv2 := rd_Ij eS25 (by decide) d_kv2
        have d_x21 := rd_Ik eS25 o_v0 o_a3 (by decide) d_x21
        obtain ⟨kv26, hkv26⟩ : ∃ z : Int32, z = (1 : Int32) := ⟨_, rfl⟩
        have d_kv26 := rd_Is eS25 hkv26
        have ea3 := rf_I eS25 ea3
        have g0 := gr_I eS25 g0
        have o_a3 := ob_I eS25 o_a3
        have o_v0 := ob_I eS25 o_v0
        intro S27 eS27
        have hIn : IV S27 := by rw [eS27]; exact iv11_sI hI o_v0 (by decide) (nu_free (by decide))
        have hI := hIn
        have f0 := fr_I eS27 g0 f0 o_v0 (by decide)
        have d_kv2 := rd_Ij eS27 (by decide) d_kv2
        have d_x21 := rd_Ik eS27 o_v0 o_a3 (by decide) d_x21
        have d_kv26 := rd_Ij eS27 (by decide) d_kv26
        obtain ⟨kv28, hkv28⟩ : ∃ z : Int32, z = (-1 : Int32) := ⟨_, rfl⟩
        have d_kv28 := rd_Is eS27 hkv28
        have ea3 := rf_I eS27 ea3
        have g0 := gr_I eS27 g0
        have o_a3 := ob_I eS27 o_a3
        have o_v0 := ob_I eS27 o_v0
        intro _
        exact hq _ _ hI g0 f0
      · intro _ _
        refine ⟨fun c31 => absurd (show (1 : Int32) = 0 from c31) (by decide), fun c31 => ?_⟩
        refine u_X11_isPlace ?_
        refine u_X11_isPlace_0 ?_
        refine ⟨o_v0, ?_⟩
        refine ⟨fun e33 => (nomatch (e33.symm.trans ea3)), fun a32 ea32 => ?_⟩
        obtain rfl : a3 = a32 := Option.some.inj (ea3.symm.trans ea32)
        refine ⟨fun c34 => ?_, fun c34 => ?_⟩
        · intro _ _
          refine ⟨fun c36 => absurd (show ¬ (0 : Int32) = 0 from c36) (by decide), fun c36 => ?_⟩
          refine u_X11_day_21 ?_
          refine ⟨o_v0, ?_⟩
          refine u_X11_refused ?_
          refine u_X11_refused_0 ?_
          refine ⟨o_v0, ?_⟩
          intro S37 eS37
          have hIn : IV S37 := by rw [eS37]; exact iv11_sI hI o_v0 (by decide) (nu_free (by decide))
          have hI := hIn
          have f0 := fr_I eS37 g0 f0 o_v0 (by decide)
          have d_kv2 := rd_Ij eS37 (by decide) d_kv2
          have d_x21 := rd_Ik eS37 o_v0 o_a3 (by decide) d_x21
          obtain ⟨kv38, hkv38⟩ : ∃ z : Int32, z = (1 : Int32) := ⟨_, rfl⟩
          have d_kv38 := rd_Is eS37 hkv38
          have ea3 := rf_I eS37 ea3
          have g0 := gr_I eS37 g0
          have o_a3 := ob_I eS37 o_a3
          have o_v0 := ob_I eS37 o_v0
          intro S39 eS39
          have hIn : IV S39 := by rw [eS39]; exact iv11_sI hI o_v0 (by decide) (nu_free (by decide))
          have hI := hIn
          have f0 := fr_I eS39 g0 f0 o_v0 (by decide)
          have d_kv2 := rd_Ij eS39 (by decide) d_kv2
          have d_x21 := rd_Ik eS39 o_v0 o_a3 (by decide) d_x21
          have d_kv38 := rd_Ij eS39 (by decide) d_kv38
          obtain ⟨kv40, hkv40⟩ : ∃ z : Int32, z = (-1 : Int32) := ⟨_, rfl⟩
          have d_kv40 := rd_Is eS39 hkv40
          have ea3 := rf_I eS39 ea3
          have g0 := gr_I eS39 g0
          have o_a3 := ob_I eS39 o_a3
          have o_v0 := ob_I eS39 o_v0
          intro _
          exact hq _ _ hI g0 f0
        · refine ⟨a3, ea3, ?_⟩
          refine ⟨o_a3, ?_⟩
          intro x43 ex43
          have r_x43 : (0 : Int32) ≤ x43 ∧ x43 ≤ (8 : Int32) := by rw [ex43]; exact nu 18 rfl hI o_a3
          have d_x43 := ex43
          refine ⟨fun c44 => ?_, fun c44 => ?_⟩
          · intro _ _
            refine ⟨fun c46 => absurd (show ¬ (0 : Int32) = 0 from c46) (by decide), fun c46 => ?_⟩
            refine u_X11_day_21 ?_
            refine ⟨o_v0, ?_⟩
            refine u_X11_refused ?_
            refine u_X11_refused_0 ?_
            refine ⟨o_v0, ?_⟩
            intro S47 eS47
            have hIn : IV S47 := by rw [eS47]; exact iv11_sI hI o_v0 (by decide) (nu_free (by decide))
            have hI := hIn
            have f0 := fr_I eS47 g0 f0 o_v0 (by decide)
            have d_kv2 := rd_Ij eS47 (by decide) d_kv2
            have d_x21 := rd_Ik eS47 o_v0 o_a3 (by decide) d_x21
            have d_x43 := rd_Ik eS47 o_v0 o_a3 (by decide) d_x43
            obtain ⟨kv48, hkv48⟩ : ∃ z : Int32, z = (1 : Int32) := ⟨_, rfl⟩
            have d_kv48 := rd_Is eS47 hkv48
            have ea3 := rf_I eS47 ea3
            have g0 := gr_I eS47 g0
            have o_a3 := ob_I eS47 o_a3
            have o_v0 := ob_I eS47 o_v0
            intro S49 eS49
            have hIn : IV S49 := by rw [eS49]; exact iv11_sI hI o_v0 (by decide) (nu_free (by decide))
            have hI := hIn
            have f0 := fr_I eS49 g0 f0 o_v0 (by decide)
            have d_kv2 := rd_Ij eS49 (by decide) d_kv2
            have d_x21 := rd_Ik eS49 o_v0 o_a3 (by decide) d_x21
            have d_x43 := rd_Ik eS49 o_v0 o_a3 (by decide) d_x43
            have d_kv48 := rd_Ij eS49 (by decide) d_kv48
            obtain ⟨kv50, hkv50⟩ : ∃ z : Int32, z = (-1 : Int32) := ⟨_, rfl⟩
            have d_kv50 := rd_Is eS49 hkv50
            have ea3 := rf_I eS49 ea3
            have g0 := gr_I eS49 g0
            have o_a3 := ob_I eS49 o_a3
            have o_v0 := ob_I eS49 o_v0
            intro _
            exact hq _ _ hI g0 f0
          · intro _ _
            refine ⟨fun c53 => ?_, fun c53 => absurd (show (1 : Int32) = 0 from c53) (by decide)⟩
            refine u_X11_in ?_
            refine u_X11_in_0 ?_
            refine ⟨fun c54 => ?_, fun c54 => ?_⟩
            · intro _ _
              refine ⟨fun c56 => ?_, fun c56 => absurd (show ¬ (0 : Int32) = 0 from c56) (by decide)⟩
              refine u_X11_day_50 ?_
              refine ⟨o_v0, ?_⟩
              refine u_X11_refused ?_
              refine u_X11_refused_0 ?_
              refine ⟨o_v0, ?_⟩
              intro S57 eS57
              have hIn : IV S57 := by rw [eS57]; exact iv11_sI hI o_v0 (by decide) (nu_free (by decide))
              have hI := hIn
              have f0 := fr_I eS57 g0 f0 o_v0 (by decide)
              have d_kv2 := rd_Ij eS57 (by decide) d_kv2
              have d_x21 := rd_Ik eS57 o_v0 o_a3 (by decide) d_x21
              have d_x43 := rd_Ik eS57 o_v0 o_a3 (by decide) d_x43
              obtain ⟨kv58, hkv58⟩ : ∃ z : Int32, z = (2 : Int32) := ⟨_, rfl⟩
              have d_kv58 := rd_Is eS57 hkv58
              have ea3 := rf_I eS57 ea3
              have g0 := gr_I eS57 g0
              have o_a3 := ob_I eS57 o_a3
              have o_v0 := ob_I eS57 o_v0
              intro S59 eS59
              have hIn : IV S59 := by rw [eS59]; exact iv11_sI hI o_v0 (by decide) (nu_free (by decide))
              have hI := hIn
              have f0 := fr_I eS59 g0 f0 o_v0 (by decide)
              have d_kv2 := rd_Ij eS59 (by decide) d_kv2
              have d_x21 := rd_Ik eS59 o_v0 o_a3 (by decide) d_x21
              have d_x43 := rd_Ik eS59 o_v0 o_a3 (by decide) d_x43
              have d_kv58 := rd_Ij eS59 (by decide) d_kv58
              obtain ⟨kv60, hkv60⟩ : ∃ z : Int32, z = (-1 : Int32) := ⟨_, rfl⟩
              have d_kv60 := rd_Is eS59 hkv60
              have ea3 := rf_I eS59 ea3
              have g0 := gr_I eS59 g0
              have o_a3 := ob_I eS59 o_a3
              have o_v0 := ob_I eS59 o_v0
              intro _
              exact hq _ _ hI g0 f0
            · refine ⟨fun c62 => ?_, fun c62 => ?_⟩
              · intro _ _
                refine ⟨fun c64 => ?_, fun c64 => absurd (show ¬ (0 : Int32) = 0 from c64) (by decide)⟩
                refine u_X11_day_50 ?_
                refine ⟨o_v0, ?_⟩
                refine u_X11_refused ?_
                refine u_X11_refused_0 ?_
                refine ⟨o_v0, ?_⟩
                intro S65 eS65
                have hIn : IV S65 := by rw [eS65]; exact iv11_sI hI o_v0 (by decide) (nu_free (by decide))
                have hI := hIn
                have f0 := fr_I eS65 g0 f0 o_v0 (by decide)
                have d_kv2 := rd_Ij eS65 (by decide) d_kv2
                have d_x21 := rd_Ik eS65 o_v0 o_a3 (by decide) d_x21
                have d_x43 := rd_Ik eS65 o_v0 o_a3 (by decide) d_x43
                obtain ⟨kv66, hkv66⟩ : ∃ z : Int32, z = (2 : Int32) := ⟨_, rfl⟩
                have d_kv66 := rd_Is eS65 hkv66
                have ea3 := rf_I eS65 ea3
                have g0 := gr_I eS65 g0
                have o_a3 := ob_I eS65 o_a3
                have o_v0 := ob_I eS65 o_v0
                intro S67 eS67
                have hIn : IV S67 := by rw [eS67]; exact iv11_sI hI o_v0 (by decide) (nu_free (by decide))
                have hI := hIn
                have f0 := fr_I eS67 g0 f0 o_v0 (by decide)
                have d_kv2 := rd_Ij eS67 (by decide) d_kv2
                have d_x21 := rd_Ik eS67 o_v0 o_a3 (by decide) d_x21
                have d_x43 := rd_Ik eS67 o_v0 o_a3 (by decide) d_x43
                have d_kv66 := rd_Ij eS67 (by decide) d_kv66
                obtain ⟨kv68, hkv68⟩ : ∃ z : Int32, z = (-1 : Int32) := ⟨_, rfl⟩
                have d_kv68 := rd_Is eS67 hkv68
                have ea3 := rf_I eS67 ea3
                have g0 := gr_I eS67 g0
                have o_a3 := ob_I eS67 o_a3
                have o_v0 := ob_I eS67 o_v0
                intro _
                exact hq _ _ hI g0 f0
              · intro _ _
                refine ⟨fun c71 => absurd (show (1 : Int32) = 0 from c71) (by decide), fun c71 => ?_⟩
                refine u_X11_in ?_
                refine u_X11_in_0 ?_
                refine ⟨fun c72 => ?_, fun c72 => ?_⟩
                · intro _ _
                  refine ⟨fun c74 => absurd (show ¬ (0 : Int32) = 0 from c74) (by decide), fun c74 => ?_⟩
                  refine u_X11_day_50 ?_
                  refine ⟨o_v0, ?_⟩
                  refine u_X11_refused ?_
                  refine u_X11_refused_0 ?_
                  refine ⟨o_v0, ?_⟩
                  intro S75 eS75
                  have hIn : IV S75 := by rw [eS75]; exact iv11_sI hI o_v0 (by decide) (nu_free (by decide))
                  have hI := hIn
                  have f0 := fr_I eS75 g0 f0 o_v0 (by decide)
                  have d_kv2 := rd_Ij eS75 (by decide) d_kv2
                  have d_x21 := rd_Ik eS75 o_v0 o_a3 (by decide) d_x21
                  have d_x43 := rd_Ik eS75 o_v0 o_a3 (by decide) d_x43
                  obtain ⟨kv76, hkv76⟩ : ∃ z : Int32, z = (2 : Int32) := ⟨_, rfl⟩
                  have d_kv76 := rd_Is eS75 hkv76
                  have ea3 := rf_I eS75 ea3
                  have g0 := gr_I eS75 g0
                  have o_a3 := ob_I eS75 o_a3
                  have o_v0 := ob_I eS75 o_v0
                  intro S77 eS77
                  have hIn : IV S77 := by rw [eS77]; exact iv11_sI hI o_v0 (by decide) (nu_free (by decide))
                  have hI := hIn
                  have f0 := fr_I eS77 g0 f0 o_v0 (by decide)
                  have d_kv2 := rd_Ij eS77 (by decide) d_kv2
                  have d_x21 := rd_Ik eS77 o_v0 o_a3 (by decide) d_x21
                  have d_x43 := rd_Ik eS77 o_v0 o_a3 (by decide) d_x43
                  have d_kv76 := rd_Ij eS77 (by decide) d_kv76
                  obtain ⟨kv78, hkv78⟩ : ∃ z : Int32, z = (-1 : Int32) := ⟨_, rfl⟩
                  have d_kv78 := rd_Is eS77 hkv78
                  have ea3 := rf_I eS77 ea3
                  have g0 := gr_I eS77 g0
                  have o_a3 := ob_I eS77 o_a3
                  have o_v0 := ob_I eS77 o_v0
                  intro _
                  exact hq _ _ hI g0 f0
                · refine ⟨fun c80 => ?_, fun c80 => ?_⟩
                  · intro _ _
                    refine ⟨fun c82 => absurd (show ¬ (0 : Int32) = 0 from c82) (by decide), fun c82 => ?_⟩
                    refine u_X11_day_50 ?_
                    refine ⟨o_v0, ?_⟩
                    refine u_X11_refused ?_
                    refine u_X11_refused_0 ?_
                    refine ⟨o_v0, ?_⟩
                    intro S83 eS83
                    have hIn : IV S83 := by rw [eS83]; exact iv11_sI hI o_v0 (by decide) (nu_free (by decide))
                    have hI := hIn
                    have f0 := fr_I eS83 g0 f0 o_v0 (by decide)
                    have d_kv2 := rd_Ij eS83 (by decide) d_kv2
                    have d_x21 := rd_Ik eS83 o_v0 o_a3 (by decide) d_x21
                    have d_x43 := rd_Ik eS83 o_v0 o_a3 (by decide) d_x43
                    obtain ⟨kv84, hkv84⟩ : ∃ z : Int32, z = (2 : Int32) := ⟨_, rfl⟩
                    have d_kv84 := rd_Is eS83 hkv84
                    have ea3 := rf_I eS83 ea3
                    have g0 := gr_I eS83 g0
                    have o_a3 := ob_I eS83 o_a3
                    have o_v0 := ob_I eS83 o_v0
                    intro S85 eS85
                    have hIn : IV S85 := by rw [eS85]; exact iv11_sI hI o_v0 (by decide) (nu_free (by decide))
                    have hI := hIn
                    have f0 := fr_I eS85 g0 f0 o_v0 (by decide)
                    have d_kv2 := rd_Ij eS85 (by decide) d_kv2
                    have d_x21 := rd_Ik eS85 o_v0 o_a3 (by decide) d_x21
                    have d_x43 := rd_Ik eS85 o_v0 o_a3 (by decide) d_x43
                    have d_kv84 := rd_Ij eS85 (by decide) d_kv84
                    obtain ⟨kv86, hkv86⟩ : ∃ z : Int32, z = (-1 : Int32) := ⟨_, rfl⟩
                    have d_kv86 := rd_Is eS85 hkv86
                    have ea3 := rf_I eS85 ea3
                    have g0 := gr_I eS85 g0
                    have o_a3 := ob_I eS85 o_a3
                    have o_v0 := ob_I eS85 o_v0
                    intro _
                    exact hq _ _ hI g0 f0
                  · intro _ _
                    refine ⟨fun c89 => ?_, fun c89 => absurd (show (1 : Int32) = 0 from c89) (by decide)⟩
                    intro S90 eS90
                    have hIn : IV S90 := by rw [eS90]; exact ml_who_set hI o_v0 (Or.inr ⟨(qm487 c12 r_x21 c22 c34 r_x43 c44 c54 c62 c72 c80), (qm488 c12 r_x21 c22 c34 r_x43 c44 c54 c62 c72 c80), a3, ea3, by rw [← d_x21]; exact (qm489 c12 r_x21 c22 c34 r_x43 c44 c54 c62 c72 c80)⟩)
                    have hI := hIn
                    have f0 := fr_I eS90 g0 f0 o_v0 (by decide)
                    have d_kv2 := rd_Ij eS90 (by decide) d_kv2
                    have d_x21 := rd_Ik eS90 o_v0 o_a3 (by decide) d_x21
                    have d_x43 := rd_Ik eS90 o_v0 o_a3 (by decide) d_x43
                    have d_v1 := rd_Is eS90 (rfl : v1 = v1)
                    have ea3 := rf_I eS90 ea3
                    have g0 := gr_I eS90 g0
                    have o_a3 := ob_I eS90 o_a3
                    have o_v0 := ob_I eS90 o_v0
                    intro S91 eS91
                    have hIn : IV S91 := by rw [eS91]; exact iv11_sI hI o_v0 (by decide) (nu_free (by decide))
                    have hI := hIn
                    have f0 := fr_I eS91 g0 f0 o_v0 (by decide)
                    have d_kv2 := rd_Ij eS91 (by decide) d_kv2
                    have d_x21 := rd_Ik eS91 o_v0 o_a3 (by decide) d_x21
                    have d_x43 := rd_Ik eS91 o_v0 o_a3 (by decide) d_x43
                    have d_v1 := rd_Ij eS91 (by decide) d_v1
                    obtain ⟨kv92, hkv92⟩ : ∃ z : Int32, z = (0 : Int32) := ⟨_, rfl⟩
                    have d_kv92 := rd_Is eS91 hkv92
                    have ea3 := rf_I eS91 ea3
                    have g0 := gr_I eS91 g0
                    have o_a3 := ob_I eS91 o_a3
                    have o_v0 := ob_I eS91 o_v0
                    refine i_X11_day_73 (fun (y0 : Nat) (y2 : Int32) (y3 : Int32) (y5 : Int32) (y6 : Int32) (Z : HS) => ((2147483647 : Int32).toInt - y6.toInt).toNat) (fun (y0 : Nat) (y2 : Int32) (y3 : Int32) (y5 : Int32) (y6 : Int32) (Z : HS) => (IV Z) ∧ (Gr S91 Z) ∧ (FRI [(11, 20)] [] S91 Z) ∧ (v0 = y0) ∧ (v2 = y2) ∧ (v3 = y3) ∧ (0 ≤ y6)) ?_ _ _ _ _ _ _ ⟨hI, (gr_rf _), (fri_rf _ _ _), rfl, rfl, rfl, (qm490 c12 r_x21 c22 c34 r_x43 c44 c54 c62 c72 c80)⟩
                    intro w97 w99 w101 w103 w104 S94 X105 ⟨hI, gL95, fL96, q98, q100, q102, i1u93⟩ ih106
                    subst q98
                    subst q100
                    subst q102
                    have d_kv2 := d_kv2.trans (fri_at fL96 (by decide) (by decide) o_v0).symm
                    have d_x21 := d_x21.trans (fri_at fL96 (by decide) (by decide) o_a3).symm
                    have d_x43 := d_x43.trans (fri_at fL96 (by decide) (by decide) o_a3).symm
                    have d_v1 := d_v1.trans (fri_at fL96 (by decide) (by decide) o_v0).symm
                    have ea3 := (frr_at fL96 (by decide) (by decide) o_v0).trans ea3
                    have f0 := fri_tr (S := S91) g0 f0 fL96 (by decide) (by decide)
                    have o_a3 := gr_ob gL95 o_a3
                    have o_v0 := gr_ob gL95 o_v0
                    have g0 := gr_tr (T := S91) g0 gL95
                    refine u_X11_day_73 ?_
                    refine ⟨o_v0, ?_⟩
                    refine ⟨a3, ea3, ?_⟩
                    refine ⟨o_a3, ?_⟩
                    intro x108 ex108
                    have r_x108 : (0 : Int32) ≤ x108 ∧ x108 ≤ (6 : Int32) := by rw [ex108]; exact nu 17 rfl hI o_a3
                    have d_x108 := ex108
                    refine ⟨fun c109 => ?_, fun c109 => ?_⟩
                    · refine i_X11_day_147 (fun (y0 : Nat) (y2 : Int32) (y3 : Int32) (y6 : Int32) (Z : HS) => ((7 : Int32).toInt - y6.toInt).toNat) (fun (y0 : Nat) (y2 : Int32) (y3 : Int32) (y6 : Int32) (Z : HS) => (IV Z) ∧ (Gr S94 Z) ∧ (FRI [] [] S94 Z) ∧ (v0 = y0) ∧ (v2 = y2) ∧ (v3 = y3) ∧ (0 ≤ y6 ∧ y6 ≤ 7)) ?_ _ _ _ _ _ ⟨hI, (gr_rf _), (fri_rf _ _ _), rfl, rfl, rfl, (qm491 c12 r_x21 c22 c34 r_x43 c44 c54 c62 c72 c80 i1u93 r_x108 c109)⟩
                      intro w114 w116 w118 w120 S111 X121 ⟨hI, gL112, fL113, q115, q117, q119, i1u110⟩ ih122
                      subst q115
                      subst q117
                      subst q119
                      have d_kv2 := d_kv2.trans (fri_at fL113 (by decide) (by decide) o_v0).symm
                      have d_x21 := d_x21.trans (fri_at fL113 (by decide) (by decide) o_a3).symm
                      have d_x43 := d_x43.trans (fri_at fL113 (by decide) (by decide) o_a3).symm
                      have d_v1 := d_v1.trans (fri_at fL113 (by decide) (by decide) o_v0).symm
                      have d_x108 := d_x108.trans (fri_at fL113 (by decide) (by decide) o_a3).symm
                      have ea3 := (frr_at fL113 (by decide) (by decide) o_v0).trans ea3
                      have f0 := fri_tr (S := S94) g0 f0 fL113 (by decide) (by decide)
                      have o_a3 := gr_ob gL112 o_a3
                      have o_v0 := gr_ob gL112 o_v0
                      have g0 := gr_tr (T := S94) g0 gL112
                      refine u_X11_day_147 ?_
                      refine ⟨fun c123 => ?_, fun c123 => ?_⟩
                      · refine ⟨o_v0, ?_⟩
                        obtain ⟨a124, ea124, o_a124, l_a124⟩ := shl 57 rfl hI o_v0
                        refine ⟨a124, ea124, ?_⟩
                        refine ⟨o_a124, ?_⟩
                        intro x125 ex125
                        have i126 : vp_in (0 : Int32) (hN _ a124) := (vin l_a124 (m := 7) (by decide) (qm492 c12 r_x21 c22 c34 r_x43 c44 c54 c62 c72 c80 i1u93 r_x108 c109 i1u110 c123 ex125))
                        refine ⟨i126, ?_⟩
                        intro S127 eS127
                        have hIn : IV S127 := by rw [eS127]; exact iv11_aD hI (de_0 (by rw [ex125]; exact i2l_rng (lo := 0) (hi := 7) (qm493 c12 r_x21 c22 c34 r_x43 c44 c54 c62 c72 c80 i1u93 r_x108 c109 i1u110 c123 ex125)))
                        have hI := hIn
                        have f0 := fr_J eS127 f0
                        have d_kv2 := rd_J eS127 d_kv2
                        have d_x21 := rd_J eS127 d_x21
                        have d_x43 := rd_J eS127 d_x43
                        have d_v1 := rd_J eS127 d_v1
                        have d_x108 := rd_J eS127 d_x108
                        have ea3 := rf_J eS127 ea3
                        have ea124 := rf_J eS127 ea124
                        have l_a124 := ln_J eS127 l_a124
                        have g0 := gr_J eS127 g0
                        have o_a124 := ob_J eS127 o_a124
                        have o_a3 := ob_J eS127 o_a3
                        have o_v0 := ob_J eS127 o_v0
                        refine ⟨a124, ea124, ?_⟩
                        refine ⟨o_a124, ?_⟩
                        intro x129 ex129
                        have i130 : vp_in (1 : Int32) (hN _ a124) := (vin l_a124 (m := 7) (by decide) (qm494 c12 r_x21 c22 c34 r_x43 c44 c54 c62 c72 c80 i1u93 r_x108 c109 i1u110 c123 ex125 ex129))
                        refine ⟨i130, ?_⟩
                        intro S131 eS131
                        have hIn : IV S131 := by rw [eS131]; exact iv11_aD hI (de_1 (by rw [ex129]; exact i2l_rng (lo := 0) (hi := 999) (qm495 c12 r_x21 c22 c34 r_x43 c44 c54 c62 c72 c80 i1u93 r_x108 c109 i1u110 c123 ex125 ex129)))
                        have hI := hIn
                        have f0 := fr_J eS131 f0
                        have d_kv2 := rd_J eS131 d_kv2
                        have d_x21 := rd_J eS131 d_x21
                        have d_x43 := rd_J eS131 d_x43
                        have d_v1 := rd_J eS131 d_v1
                        have d_x108 := rd_J eS131 d_x108
                        have ea3 := rf_J eS131 ea3
                        have ea124 := rf_J eS131 ea124
                        have l_a124 := ln_J eS131 l_a124
                        have g0 := gr_J eS131 g0
                        have o_a124 := ob_J eS131 o_a124
                        have o_a3 := ob_J eS131 o_a3
                        have o_v0 := ob_J eS131 o_v0
                        intro S132 eS132
                        have hIn : IV S132 := by rw [eS132]; exact iv11_sI hI o_v0 (by decide) (nu_one (lo := (0 : Int32)) (hi := (16 : Int32)) (by decide) (qm496 c12 r_x21 c22 c34 r_x43 c44 c54 c62 c72 c80 i1u93 r_x108 c109 i1u110 c123 ex125 ex129))
                        have hI := hIn
                        have f0 := fr_I eS132 g0 f0 o_v0 (by decide)
                        have d_kv2 := rd_Ij eS132 (by decide) d_kv2
                        have d_x21 := rd_Ik eS132 o_v0 o_a3 (by decide) d_x21
                        have d_x43 := rd_Ik eS132 o_v0 o_a3 (by decide) d_x43
                        have d_v1 := rd_Ij eS132 (by decide) d_v1
                        have d_x108 := rd_Ik eS132 o_v0 o_a3 (by decide) d_x108
                        obtain ⟨kv133, hkv133⟩ : ∃ z : Int32, z = (0 : Int32) := ⟨_, rfl⟩
                        have d_kv133 := rd_Is eS132 hkv133
                        have ea3 := rf_I eS132 ea3
                        have ea124 := rf_I eS132 ea124
                        have l_a124 := ln_I eS132 l_a124
                        have g0 := gr_I eS132 g0
                        have o_a124 := ob_I eS132 o_a124
                        have o_a3 := ob_I eS132 o_a3
                        have o_v0 := ob_I eS132 o_v0
                        intro S134 eS134
                        have hIn : IV S134 := by rw [eS134]; exact iv11_sI hI o_v0 (by decide) (nu_one (lo := (0 : Int32)) (hi := (3 : Int32)) (by decide) (qm497 c12 r_x21 c22 c34 r_x43 c44 c54 c62 c72 c80 i1u93 r_x108 c109 i1u110 c123 ex125 ex129))
                        have hI := hIn
                        have f0 := fr_I eS134 g0 f0 o_v0 (by decide)
                        have d_kv2 := rd_Ij eS134 (by decide) d_kv2
                        have d_x21 := rd_Ik eS134 o_v0 o_a3 (by decide) d_x21
                        have d_x43 := rd_Ik eS134 o_v0 o_a3 (by decide) d_x43
                        have d_v1 := rd_Ij eS134 (by decide) d_v1
                        have d_x108 := rd_Ik eS134 o_v0 o_a3 (by decide) d_x108
                        have d_kv133 := rd_Ij eS134 (by decide) d_kv133
                        obtain ⟨kv135, hkv135⟩ : ∃ z : Int32, z = (0 : Int32) := ⟨_, rfl⟩
                        have d_kv135 := rd_Is eS134 hkv135
                        have ea3 := rf_I eS134 ea3
                        have ea124 := rf_I eS134 ea124
                        have l_a124 := ln_I eS134 l_a124
                        have g0 := gr_I eS134 g0
                        have o_a124 := ob_I eS134 o_a124
                        have o_a3 := ob_I eS134 o_a3
                        have o_v0 := ob_I eS134 o_v0
                        intro x136 ex136
                        have d_x136 := ex136
                        refine u_X11_good ?_
                        refine u_X11_good_0 ?_
                        refine ⟨o_v0, ?_⟩
                        intro S137 eS137
                        have hIn : IV S137 := by rw [eS137]; exact iv11_sI hI o_v0 (by decide) (nu_free (by decide))
                        have hI := hIn
                        have f0 := fr_I eS137 g0 f0 o_v0 (by decide)
                        have d_kv2 := rd_Ij eS137 (by decide) d_kv2
                        have d_x21 := rd_Ik eS137 o_v0 o_a3 (by decide) d_x21
                        have d_x43 := rd_Ik eS137 o_v0 o_a3 (by decide) d_x43
                        have d_v1 := rd_Ij eS137 (by decide) d_v1
                        have d_x108 := rd_Ik eS137 o_v0 o_a3 (by decide) d_x108
                        have d_kv133 := rd_Ij eS137 (by decide) d_kv133
                        have d_kv135 := rd_Ij eS137 (by decide) d_kv135
                        have d_x136 := rd_Ij eS137 (by decide) d_x136
                        obtain ⟨kv138, hkv138⟩ : ∃ z : Int32, z = (0 : Int32) := ⟨_, rfl⟩
                        have d_kv138 := rd_Is eS137 hkv138
                        have ea3 := rf_I eS137 ea3
                        have ea124 := rf_I eS137 ea124
                        have l_a124 := ln_I eS137 l_a124
                        have g0 := gr_I eS137 g0
                        have o_a124 := ob_I eS137 o_a124
                        have o_a3 := ob_I eS137 o_a3
                        have o_v0 := ob_I eS137 o_v0
                        intro S139 eS139
                        have hIn : IV S139 := by rw [eS139]; exact iv11_sI hI o_v0 (by decide) (nu_free (by decide))
                        have hI := hIn
                        have f0 := fr_I eS139 g0 f0 o_v0 (by decide)
                        have d_kv2 := rd_Ij eS139 (by decide) d_kv2
                        have d_x21 := rd_Ik eS139 o_v0 o_a3 (by decide) d_x21
                        have d_x43 := rd_Ik eS139 o_v0 o_a3 (by decide) d_x43
                        have d_v1 := rd_Ij eS139 (by decide) d_v1
                        have d_x108 := rd_Ik eS139 o_v0 o_a3 (by decide) d_x108
                        have d_kv133 := rd_Ij eS139 (by decide) d_kv133
                        have d_kv135 := rd_Ij eS139 (by decide) d_kv135
                        have d_x136 := rd_Ij eS139 (by decide) d_x136
                        have d_kv138 := rd_Ij eS139 (by decide) d_kv138
                        obtain ⟨kv140, hkv140⟩ : ∃ z : Int32, z = (-1 : Int32) := ⟨_, rfl⟩
                        have d_kv140 := rd_Is eS139 hkv140
                        have ea3 := rf_I eS139 ea3
                        have ea124 := rf_I eS139 ea124
                        have l_a124 := ln_I eS139 l_a124
                        have g0 := gr_I eS139 g0
                        have o_a124 := ob_I eS139 o_a124
                        have o_a3 := ob_I eS139 o_a3
                        have o_v0 := ob_I eS139 o_v0
                        intro _
                        exact hq _ _ hI g0 f0
                      · refine ⟨o_v0, ?_⟩
                        obtain ⟨a142, ea142, o_a142, l_a142⟩ := shl 57 rfl hI o_v0
                        refine ⟨a142, ea142, ?_⟩
                        refine ⟨o_a142, ?_⟩
                        have i143 : vp_in w120 (hN _ a142) := (vin l_a142 (m := 7) (by decide) (qm498 c12 r_x21 c22 c34 r_x43 c44 c54 c62 c72 c80 i1u93 r_x108 c109 i1u110 c123))
                        refine ⟨i143, ?_⟩
                        intro S144 eS144
                        have hIn : IV S144 := by rw [eS144]; exact iv11_aD hI (de_zero _)
                        have hI := hIn
                        have f0 := fr_J eS144 f0
                        have fL113 := fr_J eS144 fL113
                        have d_kv2 := rd_J eS144 d_kv2
                        have d_x21 := rd_J eS144 d_x21
                        have d_x43 := rd_J eS144 d_x43
                        have d_v1 := rd_J eS144 d_v1
                        have d_x108 := rd_J eS144 d_x108
                        have ea3 := rf_J eS144 ea3
                        have ea142 := rf_J eS144 ea142
                        have l_a142 := ln_J eS144 l_a142
                        have g0 := gr_J eS144 g0
                        have gL112 := gr_J eS144 gL112
                        have o_a142 := ob_J eS144 o_a142
                        have o_a3 := ob_J eS144 o_a3
                        have o_v0 := ob_J eS144 o_v0
                        intro x145 ex145
                        exact ih122 _ _ _ _ _ ⟨hI, gL112, fL113, rfl, rfl, rfl, (qm499 c12 r_x21 c22 c34 r_x43 c44 c54 c62 c72 c80 i1u93 r_x108 c109 i1u110 c123 ex145)⟩ (mu_up (qm500 c12 r_x21 c22 c34 r_x43 c44 c54 c62 c72 c80 i1u93 r_x108 c109 i1u110 c123 ex145) (qm501 c12 r_x21 c22 c34 r_x43 c44 c54 c62 c72 c80 i1u93 r_x108 c109 i1u110 c123 ex145))
                    · intro x146 ex146
                      intro x147 ex147
                      intro x148 ex148
                      have d_x148 := ex148
                      intro x149 ex149
                      refine ⟨a3, ea3, ?_⟩
                      refine ⟨o_a3, ?_⟩
                      obtain ⟨a151, ea151, o_a151, l_a151⟩ := shl 33 rfl hI o_a3
                      refine ⟨a151, ea151, ?_⟩
                      refine ⟨o_a151, ?_⟩
                      refine ⟨(vin l_a151 (m := 6) (by decide) (qm502 c12 r_x21 c22 c34 r_x43 c44 c54 c62 c72 c80 i1u93 r_x108 c109)), ?_⟩
                      intro x152 ex152
                      refine ⟨fun c153 => ?_, fun c153 => ?_⟩
                      · refine u_X11_day_134 ?_
                        refine ⟨o_v0, ?_⟩
                        intro x154 ex154
                        intro S155 eS155
                        have hIn : IV S155 := by rw [eS155]; exact iv11_sI hI o_v0 (by decide) (nu_free (by decide))
                        have hI := hIn
                        have f0 := fr_I eS155 g0 f0 o_v0 (by decide)
                        have fL96 := fr_I eS155 gL95 fL96 o_v0 (by decide)
                        have d_kv2 := rd_Ij eS155 (by decide) d_kv2
                        have d_x21 := rd_Ik eS155 o_v0 o_a3 (by decide) d_x21
                        have d_x43 := rd_Ik eS155 o_v0 o_a3 (by decide) d_x43
                        have d_v1 := rd_Ij eS155 (by decide) d_v1
                        have d_x108 := rd_Ik eS155 o_v0 o_a3 (by decide) d_x108
                        have d_x154 := rd_Is eS155 (rfl : x154 = x154)
                        have ea3 := rf_I eS155 ea3
                        have ea151 := rf_I eS155 ea151
                        have l_a151 := ln_I eS155 l_a151
                        have g0 := gr_I eS155 g0
                        have gL95 := gr_I eS155 gL95
                        have o_a151 := ob_I eS155 o_a151
                        have o_a3 := ob_I eS155 o_a3
                        have o_v0 := ob_I eS155 o_v0
                        intro x156 ex156
                        exact ih106 _ _ _ _ _ _ ⟨hI, gL95, fL96, rfl, rfl, rfl, (qm503 c12 r_x21 c22 c34 r_x43 c44 c54 c62 c72 c80 i1u93 r_x108 c109 ex146 ex147 ex149 c153 ex156)⟩ (mu_up (qm504 c12 r_x21 c22 c34 r_x43 c44 c54 c62 c72 c80 i1u93 r_x108 c109 ex146 ex147 ex149 c153 ex156) (qm505 c12 r_x21 c22 c34 r_x43 c44 c54 c62 c72 c80 i1u93 r_x108 c109 ex146 ex147 ex149 c153 ex156))
                      · refine u_X11_day_134 ?_
                        refine ⟨o_v0, ?_⟩
                        intro x157 ex157
                        intro S158 eS158
                        have hIn : IV S158 := by rw [eS158]; exact iv11_sI hI o_v0 (by decide) (nu_free (by decide))
                        have hI := hIn
                        have f0 := fr_I eS158 g0 f0 o_v0 (by decide)
                        have fL96 := fr_I eS158 gL95 fL96 o_v0 (by decide)
                        have d_kv2 := rd_Ij eS158 (by decide) d_kv2
                        have d_x21 := rd_Ik eS158 o_v0 o_a3 (by decide) d_x21
                        have d_x43 := rd_Ik eS158 o_v0 o_a3 (by decide) d_x43
                        have d_v1 := rd_Ij eS158 (by decide) d_v1
                        have d_x108 := rd_Ik eS158 o_v0 o_a3 (by decide) d_x108
                        have d_x157 := rd_Is eS158 (rfl : x157 = x157)
                        have ea3 := rf_I eS158 ea3
                        have ea151 := rf_I eS158 ea151
                        have l_a151 := ln_I eS158 l_a151
                        have g0 := gr_I eS158 g0
                        have gL95 := gr_I eS158 gL95
                        have o_a151 := ob_I eS158 o_a151
                        have o_a3 := ob_I eS158 o_a3
                        have o_v0 := ob_I eS158 o_v0
                        intro x159 ex159
                        exact ih106 _ _ _ _ _ _ ⟨hI, gL95, fL96, rfl, rfl, rfl, (qm506 c12 r_x21 c22 c34 r_x43 c44 c54 c62 c72 c80 i1u93 r_x108 c109 ex146 ex147 ex149 c153 ex157 ex159)⟩ (mu_up (qm507 c12 r_x21 c22 c34 r_x43 c44 c54 c62 c72 c80 i1u93 r_x108 c109 ex146 ex147 ex149 c153 ex157 ex159) (qm508 c12 r_x21 c22 c34 r_x43 c44 c54 c62 c72 c80 i1u93 r_x108 c109 ex146 ex147 ex149 c153 ex157 ex159))
