set_option maxHeartbeats 4000000 in
set_option maxRecDepth 20000 in
theorem m_X9_road {v0 : Nat} {v1 : Int32} {v2 : Int32} {Q : Int32 → HS → Prop} {S : HS} (hI : IV S) (o_v0 : ob S v0 9)     (hq : ∀ (r : Int32) (T : HS), IV T → Gr S T → Q r T) : P_X9_road v0 v1 v2 Q S := by
  have g0 := gr_rf S
  refine u_X9_road ?_
  refine u_X9_road_0 ?_
  refine ⟨o_v0, ?_⟩
  obtain ⟨a1, ea1, o_a1, -⟩ := sh 1 rfl hI o_v0
  refine ⟨a1, ea1, ?_⟩
  refine ⟨o_a1, ?_⟩
  refine m_X8_hasRoad hI o_a1 (fun x2 S3 hI2 g4 b_x2 p_x2 => ?_)
  obtain ⟨z_S3, p_x2⟩ := p_x2
  subst z_S3
  intro _ _
  have bb_x2 : x2 = 0 ∨ x2 = 1 := b_x2
  refine ⟨fun c5 => ?_, fun c5 => ?_⟩
  · refine u_X9_road_20 ?_
    refine ⟨o_v0, ?_⟩
    refine u_X9_refuse ?_
    refine u_X9_refuse_0 ?_
    refine ⟨o_v0, ?_⟩
    have hI := iv_sI (j := 9) (v := (1 : Int32)) hI o_v0 (by decide) (nu_free (by decide))
    intro _
    exact hq _ _ hI g0
  · refine ⟨fun c6 => ?_, fun c6 => ?_⟩
    · refine u_X9_road_20 ?_
      refine ⟨o_v0, ?_⟩
      refine u_X9_refuse ?_
      refine u_X9_refuse_0 ?_
      refine ⟨o_v0, ?_⟩
      have hI := iv_sI (j := 9) (v := (1 : Int32)) hI o_v0 (by decide) (nu_free (by decide))
      intro _
      exact hq _ _ hI g0
    · refine ⟨fun c7 => ?_, fun c7 => ?_⟩
      · obtain ⟨a8, ea8, o_a8, -⟩ := sh 1 rfl hI o_v0
        refine ⟨a8, ea8, ?_⟩
        refine ⟨o_a8, ?_⟩
        obtain ⟨a9, ea9, o_a9, l_a9⟩ := shl 17 rfl hI o_a8
        refine ⟨a9, ea9, ?_⟩
        refine ⟨o_a9, ?_⟩
        have i11 : vp_in v1 (hN _ a9) := (vin l_a9 (m := 12) (by decide) (q275 p_x2 bb_x2 c5))
        obtain ⟨a10, ea10, o_a10⟩ := ae hI o_a9 (by decide) (by decide) i11
        replace o_a10 : ob _ a10 5 := o_a10
        refine ⟨i11, a10, ea10, ?_⟩
        refine ⟨o_a10, ?_⟩
        refine m_X5_tell hI o_a10 (fun x12 S13 hI2 g14 p_x12 => ?_)
        subst p_x12
        intro _
        refine u_X9_grant ?_
        refine u_X9_grant_0 ?_
        refine ⟨o_v0, ?_⟩
        have hI := iv_sI (j := 9) (v := (0 : Int32)) hI o_v0 (by decide) (nu_free (by decide))
        intro _
        exact hq _ _ hI g0
      · refine u_X9_road_20 ?_
        refine ⟨o_v0, ?_⟩
        refine u_X9_refuse ?_
        refine u_X9_refuse_0 ?_
        refine ⟨o_v0, ?_⟩
        have hI := iv_sI (j := 9) (v := (1 : Int32)) hI o_v0 (by decide) (nu_free (by decide))
        intro _
        exact hq _ _ hI g0
set_option maxHeartbeats 4000000 in
set_option maxRecDepth 20000 in
theorem m_X9_round {v0 : Nat} {v1 : Int32} {v2 : Int32} {v3 : Int32} {v4 : Int32} {Q : Int64 → HS → Prop} {S : HS} (hI : IV S) (o_v0 : ob S v0 9)     (hq : ∀ (r : Int64) (T : HS), IV T → Gr S T → Q r T) : P_X9_round v0 v1 v2 v3 v4 Q S := by
  have g0 := gr_rf S
  refine u_X9_round ?_
  refine u_X9_round_0 ?_
  refine ⟨o_v0, ?_⟩
  refine m_X9_tripTrouble hI o_v0 (fun x1 S2 hI2 g3 p_x1 => ?_)
  obtain ⟨z_S2, p_x1⟩ := p_x1
  subst z_S2
  intro _
  refine u_X9_refusedBy ?_
  refine u_X9_refusedBy_0 ?_
  refine ⟨o_v0, ?_⟩
  have hI := iv_sI (j := 9) (v := x1) hI o_v0 (by decide) (nu_free (by decide))
  refine ⟨fun c4 => ?_, fun c4 => ?_⟩
  · intro _ _
    refine ⟨fun c5 => ?_, fun c5 => ?_⟩
    · obtain ⟨a6, ea6, o_a6, -⟩ := sh 3 rfl hI o_v0
      refine ⟨a6, ea6, ?_⟩
      obtain ⟨a7, ea7, o_a7, -⟩ := sh 1 rfl hI o_v0
      refine ⟨a7, ea7, ?_⟩
      refine ⟨o_a7, ?_⟩
      obtain ⟨a8, ea8, o_a8, l_a8⟩ := shl 18 rfl hI o_a7
      refine ⟨a8, ea8, ?_⟩
      refine ⟨o_a8, ?_⟩
      have i10 : vp_in v1 (hN _ a8) := (vin l_a8 (m := 4) (by decide) (q0 p_x1 c4 c5))
      obtain ⟨a9, ea9, o_a9⟩ := ae hI o_a8 (by decide) (by decide) i10
      replace o_a9 : ob _ a9 6 := o_a9
      refine ⟨i10, a9, ea9, ?_⟩
      obtain ⟨a11, ea11, o_a11, -⟩ := sh 1 rfl hI o_v0
      refine ⟨a11, ea11, ?_⟩
      refine ⟨o_a11, ?_⟩
      obtain ⟨a12, ea12, o_a12, l_a12⟩ := shl 17 rfl hI o_a11
      refine ⟨a12, ea12, ?_⟩
      refine ⟨o_a12, ?_⟩
      have i14 : vp_in v2 (hN _ a12) := (vin l_a12 (m := 12) (by decide) (q1 p_x1 c4 c5))
      obtain ⟨a13, ea13, o_a13⟩ := ae hI o_a12 (by decide) (by decide) i14
      replace o_a13 : ob _ a13 5 := o_a13
      refine ⟨i14, a13, ea13, ?_⟩
      obtain ⟨a15, ea15, o_a15, -⟩ := sh 1 rfl hI o_v0
      refine ⟨a15, ea15, ?_⟩
      refine ⟨o_a15, ?_⟩
      obtain ⟨a16, ea16, o_a16, l_a16⟩ := shl 15 rfl hI o_a15
      refine ⟨a16, ea16, ?_⟩
      refine ⟨o_a16, ?_⟩
      have i18 : vp_in v3 (hN _ a16) := (vin l_a16 (m := 6) (by decide) (q2 p_x1 c4 c5))
      obtain ⟨a17, ea17, o_a17⟩ := ae hI o_a16 (by decide) (by decide) i18
      replace o_a17 : ob _ a17 3 := o_a17
      refine ⟨i18, a17, ea17, ?_⟩
      refine ⟨o_a6, ?_⟩
      refine m_X1_leastWet hI o_a6 o_a9 o_a13 o_a17 (fun x19 S20 hI g21 => ?_)
      have l_a12 := (gr_len g21 o_a12).trans l_a12
      have l_a16 := (gr_len g21 o_a16).trans l_a16
      have l_a8 := (gr_len g21 o_a8).trans l_a8
      have o_a11 := gr_ob g21 o_a11
      have o_a12 := gr_ob g21 o_a12
      have o_a13 := gr_ob g21 o_a13
      have o_a15 := gr_ob g21 o_a15
      have o_a16 := gr_ob g21 o_a16
      have o_a17 := gr_ob g21 o_a17
      have o_a6 := gr_ob g21 o_a6
      have o_a7 := gr_ob g21 o_a7
      have o_a8 := gr_ob g21 o_a8
      have o_a9 := gr_ob g21 o_a9
      have o_v0 := gr_ob g21 o_v0
      have g0 := gr_tr g0 g21
      intro _
      obtain ⟨a22, ea22, o_a22, -⟩ := sh 3 rfl hI o_v0
      refine ⟨a22, ea22, ?_⟩
      obtain ⟨a23, ea23, o_a23, -⟩ := sh 1 rfl hI o_v0
      refine ⟨a23, ea23, ?_⟩
      refine ⟨o_a23, ?_⟩
      obtain ⟨a24, ea24, o_a24, l_a24⟩ := shl 18 rfl hI o_a23
      refine ⟨a24, ea24, ?_⟩
      refine ⟨o_a24, ?_⟩
      have i26 : vp_in v1 (hN _ a24) := (vin l_a24 (m := 4) (by decide) (q0 p_x1 c4 c5))
      obtain ⟨a25, ea25, o_a25⟩ := ae hI o_a24 (by decide) (by decide) i26
      replace o_a25 : ob _ a25 6 := o_a25
      refine ⟨i26, a25, ea25, ?_⟩
      obtain ⟨a27, ea27, o_a27, -⟩ := sh 1 rfl hI o_v0
      refine ⟨a27, ea27, ?_⟩
      refine ⟨o_a27, ?_⟩
      obtain ⟨a28, ea28, o_a28, l_a28⟩ := shl 17 rfl hI o_a27
      refine ⟨a28, ea28, ?_⟩
      refine ⟨o_a28, ?_⟩
      have i30 : vp_in v2 (hN _ a28) := (vin l_a28 (m := 12) (by decide) (q1 p_x1 c4 c5))
      obtain ⟨a29, ea29, o_a29⟩ := ae hI o_a28 (by decide) (by decide) i30
      replace o_a29 : ob _ a29 5 := o_a29
      refine ⟨i30, a29, ea29, ?_⟩
      obtain ⟨a31, ea31, o_a31, -⟩ := sh 1 rfl hI o_v0
      refine ⟨a31, ea31, ?_⟩
      refine ⟨o_a31, ?_⟩
      obtain ⟨a32, ea32, o_a32, l_a32⟩ := shl 15 rfl hI o_a31
      refine ⟨a32, ea32, ?_⟩
      refine ⟨o_a32, ?_⟩
      have i34 : vp_in v3 (hN _ a32) := (vin l_a32 (m := 6) (by decide) (q2 p_x1 c4 c5))
      obtain ⟨a33, ea33, o_a33⟩ := ae hI o_a32 (by decide) (by decide) i34
      replace o_a33 : ob _ a33 3 := o_a33
      refine ⟨i34, a33, ea33, ?_⟩
      refine ⟨o_a22, ?_⟩
      refine m_X1_leastWet hI o_a22 o_a25 o_a29 o_a33 (fun x35 S36 hI g37 => ?_)
      have l_a12 := (gr_len g37 o_a12).trans l_a12
      have l_a16 := (gr_len g37 o_a16).trans l_a16
      have l_a24 := (gr_len g37 o_a24).trans l_a24
      have l_a28 := (gr_len g37 o_a28).trans l_a28
      have l_a32 := (gr_len g37 o_a32).trans l_a32
      have l_a8 := (gr_len g37 o_a8).trans l_a8
      have o_a11 := gr_ob g37 o_a11
      have o_a12 := gr_ob g37 o_a12
      have o_a13 := gr_ob g37 o_a13
      have o_a15 := gr_ob g37 o_a15
      have o_a16 := gr_ob g37 o_a16
      have o_a17 := gr_ob g37 o_a17
      have o_a22 := gr_ob g37 o_a22
      have o_a23 := gr_ob g37 o_a23
      have o_a24 := gr_ob g37 o_a24
      have o_a25 := gr_ob g37 o_a25
      have o_a27 := gr_ob g37 o_a27
      have o_a28 := gr_ob g37 o_a28
      have o_a29 := gr_ob g37 o_a29
      have o_a31 := gr_ob g37 o_a31
      have o_a32 := gr_ob g37 o_a32
      have o_a33 := gr_ob g37 o_a33
      have o_a6 := gr_ob g37 o_a6
      have o_a7 := gr_ob g37 o_a7
      have o_a8 := gr_ob g37 o_a8
      have o_a9 := gr_ob g37 o_a9
      have o_v0 := gr_ob g37 o_v0
      have g0 := gr_tr g0 g37
      intro _
      refine m_X9_fraction hI (fun x38 S39 hI2 g40 p_x38 => ?_)
      subst p_x38
      intro _
      exact hq _ _ hI g0
    · exact hq _ _ hI g0
  · intro _ _
    refine ⟨fun c41 => ?_, fun c41 => ?_⟩
    · obtain ⟨a42, ea42, o_a42, -⟩ := sh 3 rfl hI o_v0
      refine ⟨a42, ea42, ?_⟩
      obtain ⟨a43, ea43, o_a43, -⟩ := sh 1 rfl hI o_v0
      refine ⟨a43, ea43, ?_⟩
      refine ⟨o_a43, ?_⟩
      obtain ⟨a44, ea44, o_a44, l_a44⟩ := shl 18 rfl hI o_a43
      refine ⟨a44, ea44, ?_⟩
      refine ⟨o_a44, ?_⟩
      have i46 : vp_in v1 (hN _ a44) := (vin l_a44 (m := 4) (by decide) (q3 p_x1 c4 c41))
      obtain ⟨a45, ea45, o_a45⟩ := ae hI o_a44 (by decide) (by decide) i46
      replace o_a45 : ob _ a45 6 := o_a45
      refine ⟨i46, a45, ea45, ?_⟩
      obtain ⟨a47, ea47, o_a47, -⟩ := sh 1 rfl hI o_v0
      refine ⟨a47, ea47, ?_⟩
      refine ⟨o_a47, ?_⟩
      obtain ⟨a48, ea48, o_a48, l_a48⟩ := shl 17 rfl hI o_a47
      refine ⟨a48, ea48, ?_⟩
      refine ⟨o_a48, ?_⟩
      have i50 : vp_in v2 (hN _ a48) := (vin l_a48 (m := 12) (by decide) (q4 p_x1 c4 c41))
      obtain ⟨a49, ea49, o_a49⟩ := ae hI o_a48 (by decide) (by decide) i50
      replace o_a49 : ob _ a49 5 := o_a49
      refine ⟨i50, a49, ea49, ?_⟩
      obtain ⟨a51, ea51, o_a51, -⟩ := sh 1 rfl hI o_v0
      refine ⟨a51, ea51, ?_⟩
      refine ⟨o_a51, ?_⟩
      obtain ⟨a52, ea52, o_a52, l_a52⟩ := shl 15 rfl hI o_a51
      refine ⟨a52, ea52, ?_⟩
      refine ⟨o_a52, ?_⟩
      have i54 : vp_in v3 (hN _ a52) := (vin l_a52 (m := 6) (by decide) (q5 p_x1 c4 c41))
      obtain ⟨a53, ea53, o_a53⟩ := ae hI o_a52 (by decide) (by decide) i54
      replace o_a53 : ob _ a53 3 := o_a53
      refine ⟨i54, a53, ea53, ?_⟩
      refine ⟨o_a42, ?_⟩
      refine m_X1_leastWet hI o_a42 o_a45 o_a49 o_a53 (fun x55 S56 hI g57 => ?_)
      have l_a44 := (gr_len g57 o_a44).trans l_a44
      have l_a48 := (gr_len g57 o_a48).trans l_a48
      have l_a52 := (gr_len g57 o_a52).trans l_a52
      have o_a42 := gr_ob g57 o_a42
      have o_a43 := gr_ob g57 o_a43
      have o_a44 := gr_ob g57 o_a44
      have o_a45 := gr_ob g57 o_a45
      have o_a47 := gr_ob g57 o_a47
      have o_a48 := gr_ob g57 o_a48
      have o_a49 := gr_ob g57 o_a49
      have o_a51 := gr_ob g57 o_a51
      have o_a52 := gr_ob g57 o_a52
      have o_a53 := gr_ob g57 o_a53
      have o_v0 := gr_ob g57 o_v0
      have g0 := gr_tr g0 g57
      intro _
      obtain ⟨a58, ea58, o_a58, -⟩ := sh 3 rfl hI o_v0
      refine ⟨a58, ea58, ?_⟩
      obtain ⟨a59, ea59, o_a59, -⟩ := sh 1 rfl hI o_v0
      refine ⟨a59, ea59, ?_⟩
      refine ⟨o_a59, ?_⟩
      obtain ⟨a60, ea60, o_a60, l_a60⟩ := shl 18 rfl hI o_a59
      refine ⟨a60, ea60, ?_⟩
      refine ⟨o_a60, ?_⟩
      have i62 : vp_in v1 (hN _ a60) := (vin l_a60 (m := 4) (by decide) (q3 p_x1 c4 c41))
      obtain ⟨a61, ea61, o_a61⟩ := ae hI o_a60 (by decide) (by decide) i62
      replace o_a61 : ob _ a61 6 := o_a61
      refine ⟨i62, a61, ea61, ?_⟩
      obtain ⟨a63, ea63, o_a63, -⟩ := sh 1 rfl hI o_v0
      refine ⟨a63, ea63, ?_⟩
      refine ⟨o_a63, ?_⟩
      obtain ⟨a64, ea64, o_a64, l_a64⟩ := shl 17 rfl hI o_a63
      refine ⟨a64, ea64, ?_⟩
      refine ⟨o_a64, ?_⟩
      have i66 : vp_in v2 (hN _ a64) := (vin l_a64 (m := 12) (by decide) (q4 p_x1 c4 c41))
      obtain ⟨a65, ea65, o_a65⟩ := ae hI o_a64 (by decide) (by decide) i66
      replace o_a65 : ob _ a65 5 := o_a65
      refine ⟨i66, a65, ea65, ?_⟩
      obtain ⟨a67, ea67, o_a67, -⟩ := sh 1 rfl hI o_v0
      refine ⟨a67, ea67, ?_⟩
      refine ⟨o_a67, ?_⟩
      obtain ⟨a68, ea68, o_a68, l_a68⟩ := shl 15 rfl hI o_a67
      refine ⟨a68, ea68, ?_⟩
      refine ⟨o_a68, ?_⟩
      have i70 : vp_in v3 (hN _ a68) := (vin l_a68 (m := 6) (by decide) (q5 p_x1 c4 c41))
      obtain ⟨a69, ea69, o_a69⟩ := ae hI o_a68 (by decide) (by decide) i70
      replace o_a69 : ob _ a69 3 := o_a69
      refine ⟨i70, a69, ea69, ?_⟩
      refine ⟨o_a58, ?_⟩
      refine m_X1_leastWet hI o_a58 o_a61 o_a65 o_a69 (fun x71 S72 hI g73 => ?_)
      have l_a44 := (gr_len g73 o_a44).trans l_a44
      have l_a48 := (gr_len g73 o_a48).trans l_a48
      have l_a52 := (gr_len g73 o_a52).trans l_a52
      have l_a60 := (gr_len g73 o_a60).trans l_a60
      have l_a64 := (gr_len g73 o_a64).trans l_a64
      have l_a68 := (gr_len g73 o_a68).trans l_a68
      have o_a42 := gr_ob g73 o_a42
      have o_a43 := gr_ob g73 o_a43
      have o_a44 := gr_ob g73 o_a44
      have o_a45 := gr_ob g73 o_a45
      have o_a47 := gr_ob g73 o_a47
      have o_a48 := gr_ob g73 o_a48
      have o_a49 := gr_ob g73 o_a49
      have o_a51 := gr_ob g73 o_a51
      have o_a52 := gr_ob g73 o_a52
      have o_a53 := gr_ob g73 o_a53
      have o_a58 := gr_ob g73 o_a58
      have o_a59 := gr_ob g73 o_a59
      have o_a60 := gr_ob g73 o_a60
      have o_a61 := gr_ob g73 o_a61
      have o_a63 := gr_ob g73 o_a63
      have o_a64 := gr_ob g73 o_a64
      have o_a65 := gr_ob g73 o_a65
      have o_a67 := gr_ob g73 o_a67
      have o_a68 := gr_ob g73 o_a68
      have o_a69 := gr_ob g73 o_a69
      have o_v0 := gr_ob g73 o_v0
      have g0 := gr_tr g0 g73
      intro _
      refine m_X9_fraction hI (fun x74 S75 hI2 g76 p_x74 => ?_)
      subst p_x74
      intro _
      exact hq _ _ hI g0
    · exact hq _ _ hI g0
set_option maxHeartbeats 4000000 in
set_option maxRecDepth 20000 in
theorem m_X9_saves {v0 : Nat} {v1 : Int32} {v2 : Int32} {v3 : Int32} {v4 : Int32} {v5 : Int32} {Q : Int64 → HS → Prop} {S : HS} (hI : IV S) (o_v0 : ob S v0 9)     (hq : ∀ (r : Int64) (T : HS), IV T → Gr S T → Q r T) : P_X9_saves v0 v1 v2 v3 v4 v5 Q S := by
  have g0 := gr_rf S
  refine u_X9_saves ?_
  refine u_X9_saves_0 ?_
  refine ⟨o_v0, ?_⟩
  refine m_X9_tripTrouble hI o_v0 (fun x1 S2 hI2 g3 p_x1 => ?_)
  obtain ⟨z_S2, p_x1⟩ := p_x1
  subst z_S2
  intro _
  refine u_X9_refusedBy ?_
  refine u_X9_refusedBy_0 ?_
  refine ⟨o_v0, ?_⟩
  have hI := iv_sI (j := 9) (v := x1) hI o_v0 (by decide) (nu_free (by decide))
  refine ⟨fun c4 => ?_, fun c4 => ?_⟩
  · intro _ _
    refine ⟨fun c5 => ?_, fun c5 => ?_⟩
    · obtain ⟨a6, ea6, o_a6, -⟩ := sh 1 rfl hI o_v0
      refine ⟨a6, ea6, ?_⟩
      refine ⟨o_a6, ?_⟩
      obtain ⟨a7, ea7, o_a7, l_a7⟩ := shl 18 rfl hI o_a6
      refine ⟨a7, ea7, ?_⟩
      refine ⟨o_a7, ?_⟩
      have i9 : vp_in v1 (hN _ a7) := (vin l_a7 (m := 4) (by decide) (q0 p_x1 c4 c5))
      obtain ⟨a8, ea8, o_a8⟩ := ae hI o_a7 (by decide) (by decide) i9
      replace o_a8 : ob _ a8 6 := o_a8
      refine ⟨i9, a8, ea8, ?_⟩
      obtain ⟨a10, ea10, o_a10, -⟩ := sh 3 rfl hI o_v0
      refine ⟨a10, ea10, ?_⟩
      obtain ⟨a11, ea11, o_a11, -⟩ := sh 1 rfl hI o_v0
      refine ⟨a11, ea11, ?_⟩
      refine ⟨o_a11, ?_⟩
      obtain ⟨a12, ea12, o_a12, l_a12⟩ := shl 17 rfl hI o_a11
      refine ⟨a12, ea12, ?_⟩
      refine ⟨o_a12, ?_⟩
      have i14 : vp_in v2 (hN _ a12) := (vin l_a12 (m := 12) (by decide) (q1 p_x1 c4 c5))
      obtain ⟨a13, ea13, o_a13⟩ := ae hI o_a12 (by decide) (by decide) i14
      replace o_a13 : ob _ a13 5 := o_a13
      refine ⟨i14, a13, ea13, ?_⟩
      obtain ⟨a15, ea15, o_a15, -⟩ := sh 1 rfl hI o_v0
      refine ⟨a15, ea15, ?_⟩
      refine ⟨o_a15, ?_⟩
      obtain ⟨a16, ea16, o_a16, l_a16⟩ := shl 15 rfl hI o_a15
      refine ⟨a16, ea16, ?_⟩
      refine ⟨o_a16, ?_⟩
      have i18 : vp_in v4 (hN _ a16) := (vin l_a16 (m := 6) (by decide) (q2 p_x1 c4 c5))
      obtain ⟨a17, ea17, o_a17⟩ := ae hI o_a16 (by decide) (by decide) i18
      replace o_a17 : ob _ a17 3 := o_a17
      refine ⟨i18, a17, ea17, ?_⟩
      refine ⟨o_a8, ?_⟩
      intro x19 ex19
      have r_x19 : (0 : Int32) ≤ x19 ∧ x19 ≤ (9 : Int32) := by rw [ex19]; exact nu 4 rfl hI o_a8
      refine ⟨o_a10, ?_⟩
      refine m_X1_wetOf hI o_a10 o_a8 o_a13 o_a17 (fun x20 S21 hI g22 => ?_)
      have l_a12 := (gr_len g22 o_a12).trans l_a12
      have l_a16 := (gr_len g22 o_a16).trans l_a16
      have l_a7 := (gr_len g22 o_a7).trans l_a7
      have o_a10 := gr_ob g22 o_a10
      have o_a11 := gr_ob g22 o_a11
      have o_a12 := gr_ob g22 o_a12
      have o_a13 := gr_ob g22 o_a13
      have o_a15 := gr_ob g22 o_a15
      have o_a16 := gr_ob g22 o_a16
      have o_a17 := gr_ob g22 o_a17
      have o_a6 := gr_ob g22 o_a6
      have o_a7 := gr_ob g22 o_a7
      have o_a8 := gr_ob g22 o_a8
      have o_v0 := gr_ob g22 o_v0
      have g0 := gr_tr g0 g22
      intro _
      obtain ⟨a23, ea23, o_a23, -⟩ := sh 3 rfl hI o_v0
      refine ⟨a23, ea23, ?_⟩
      obtain ⟨a24, ea24, o_a24, -⟩ := sh 1 rfl hI o_v0
      refine ⟨a24, ea24, ?_⟩
      refine ⟨o_a24, ?_⟩
      obtain ⟨a25, ea25, o_a25, l_a25⟩ := shl 17 rfl hI o_a24
      refine ⟨a25, ea25, ?_⟩
      refine ⟨o_a25, ?_⟩
      have i27 : vp_in v2 (hN _ a25) := (vin l_a25 (m := 12) (by decide) (q1 p_x1 c4 c5))
      obtain ⟨a26, ea26, o_a26⟩ := ae hI o_a25 (by decide) (by decide) i27
      replace o_a26 : ob _ a26 5 := o_a26
      refine ⟨i27, a26, ea26, ?_⟩
      obtain ⟨a28, ea28, o_a28, -⟩ := sh 1 rfl hI o_v0
      refine ⟨a28, ea28, ?_⟩
      refine ⟨o_a28, ?_⟩
      obtain ⟨a29, ea29, o_a29, l_a29⟩ := shl 15 rfl hI o_a28
      refine ⟨a29, ea29, ?_⟩
      refine ⟨o_a29, ?_⟩
      have i31 : vp_in v4 (hN _ a29) := (vin l_a29 (m := 6) (by decide) (q2 p_x1 c4 c5))
      obtain ⟨a30, ea30, o_a30⟩ := ae hI o_a29 (by decide) (by decide) i31
      replace o_a30 : ob _ a30 3 := o_a30
      refine ⟨i31, a30, ea30, ?_⟩
      refine ⟨o_a23, ?_⟩
      refine m_X1_leastWet hI o_a23 o_a8 o_a26 o_a30 (fun x32 S33 hI g34 => ?_)
      have l_a12 := (gr_len g34 o_a12).trans l_a12
      have l_a16 := (gr_len g34 o_a16).trans l_a16
      have l_a25 := (gr_len g34 o_a25).trans l_a25
      have l_a29 := (gr_len g34 o_a29).trans l_a29
      have l_a7 := (gr_len g34 o_a7).trans l_a7
      have o_a10 := gr_ob g34 o_a10
      have o_a11 := gr_ob g34 o_a11
      have o_a12 := gr_ob g34 o_a12
      have o_a13 := gr_ob g34 o_a13
      have o_a15 := gr_ob g34 o_a15
      have o_a16 := gr_ob g34 o_a16
      have o_a17 := gr_ob g34 o_a17
      have o_a23 := gr_ob g34 o_a23
      have o_a24 := gr_ob g34 o_a24
      have o_a25 := gr_ob g34 o_a25
      have o_a26 := gr_ob g34 o_a26
      have o_a28 := gr_ob g34 o_a28
      have o_a29 := gr_ob g34 o_a29
      have o_a30 := gr_ob g34 o_a30
      have o_a6 := gr_ob g34 o_a6
      have o_a7 := gr_ob g34 o_a7
      have o_a8 := gr_ob g34 o_a8
      have o_v0 := gr_ob g34 o_v0
      have g0 := gr_tr g0 g34
      intro _
      refine m_X9_fraction hI (fun x35 S36 hI2 g37 p_x35 => ?_)
      subst p_x35
      intro _
      exact hq _ _ hI g0
    · exact hq _ _ hI g0
  · intro _ _
    refine ⟨fun c38 => ?_, fun c38 => ?_⟩
    · obtain ⟨a39, ea39, o_a39, -⟩ := sh 1 rfl hI o_v0
      refine ⟨a39, ea39, ?_⟩
      refine ⟨o_a39, ?_⟩
      obtain ⟨a40, ea40, o_a40, l_a40⟩ := shl 18 rfl hI o_a39
      refine ⟨a40, ea40, ?_⟩
      refine ⟨o_a40, ?_⟩
      have i42 : vp_in v1 (hN _ a40) := (vin l_a40 (m := 4) (by decide) (q3 p_x1 c4 c38))
      obtain ⟨a41, ea41, o_a41⟩ := ae hI o_a40 (by decide) (by decide) i42
      replace o_a41 : ob _ a41 6 := o_a41
      refine ⟨i42, a41, ea41, ?_⟩
      obtain ⟨a43, ea43, o_a43, -⟩ := sh 3 rfl hI o_v0
      refine ⟨a43, ea43, ?_⟩
      obtain ⟨a44, ea44, o_a44, -⟩ := sh 1 rfl hI o_v0
      refine ⟨a44, ea44, ?_⟩
      refine ⟨o_a44, ?_⟩
      obtain ⟨a45, ea45, o_a45, l_a45⟩ := shl 17 rfl hI o_a44
      refine ⟨a45, ea45, ?_⟩
      refine ⟨o_a45, ?_⟩
      have i47 : vp_in v2 (hN _ a45) := (vin l_a45 (m := 12) (by decide) (q4 p_x1 c4 c38))
      obtain ⟨a46, ea46, o_a46⟩ := ae hI o_a45 (by decide) (by decide) i47
      replace o_a46 : ob _ a46 5 := o_a46
      refine ⟨i47, a46, ea46, ?_⟩
      obtain ⟨a48, ea48, o_a48, -⟩ := sh 1 rfl hI o_v0
      refine ⟨a48, ea48, ?_⟩
      refine ⟨o_a48, ?_⟩
      obtain ⟨a49, ea49, o_a49, l_a49⟩ := shl 15 rfl hI o_a48
      refine ⟨a49, ea49, ?_⟩
      refine ⟨o_a49, ?_⟩
      have i51 : vp_in v4 (hN _ a49) := (vin l_a49 (m := 6) (by decide) (q5 p_x1 c4 c38))
      obtain ⟨a50, ea50, o_a50⟩ := ae hI o_a49 (by decide) (by decide) i51
      replace o_a50 : ob _ a50 3 := o_a50
      refine ⟨i51, a50, ea50, ?_⟩
      refine ⟨o_a41, ?_⟩
      intro x52 ex52
      have r_x52 : (0 : Int32) ≤ x52 ∧ x52 ≤ (9 : Int32) := by rw [ex52]; exact nu 4 rfl hI o_a41
      refine ⟨o_a43, ?_⟩
      refine m_X1_wetOf hI o_a43 o_a41 o_a46 o_a50 (fun x53 S54 hI g55 => ?_)
      have l_a40 := (gr_len g55 o_a40).trans l_a40
      have l_a45 := (gr_len g55 o_a45).trans l_a45
      have l_a49 := (gr_len g55 o_a49).trans l_a49
      have o_a39 := gr_ob g55 o_a39
      have o_a40 := gr_ob g55 o_a40
      have o_a41 := gr_ob g55 o_a41
      have o_a43 := gr_ob g55 o_a43
      have o_a44 := gr_ob g55 o_a44
      have o_a45 := gr_ob g55 o_a45
      have o_a46 := gr_ob g55 o_a46
      have o_a48 := gr_ob g55 o_a48
      have o_a49 := gr_ob g55 o_a49
      have o_a50 := gr_ob g55 o_a50
      have o_v0 := gr_ob g55 o_v0
      have g0 := gr_tr g0 g55
      intro _
      obtain ⟨a56, ea56, o_a56, -⟩ := sh 3 rfl hI o_v0
      refine ⟨a56, ea56, ?_⟩
      obtain ⟨a57, ea57, o_a57, -⟩ := sh 1 rfl hI o_v0
      refine ⟨a57, ea57, ?_⟩
      refine ⟨o_a57, ?_⟩
      obtain ⟨a58, ea58, o_a58, l_a58⟩ := shl 17 rfl hI o_a57
      refine ⟨a58, ea58, ?_⟩
      refine ⟨o_a58, ?_⟩
      have i60 : vp_in v2 (hN _ a58) := (vin l_a58 (m := 12) (by decide) (q4 p_x1 c4 c38))
      obtain ⟨a59, ea59, o_a59⟩ := ae hI o_a58 (by decide) (by decide) i60
      replace o_a59 : ob _ a59 5 := o_a59
      refine ⟨i60, a59, ea59, ?_⟩
      obtain ⟨a61, ea61, o_a61, -⟩ := sh 1 rfl hI o_v0
      refine ⟨a61, ea61, ?_⟩
      refine ⟨o_a61, ?_⟩
      obtain ⟨a62, ea62, o_a62, l_a62⟩ := shl 15 rfl hI o_a61
      refine ⟨a62, ea62, ?_⟩
      refine ⟨o_a62, ?_⟩
      have i64 : vp_in v4 (hN _ a62) := (vin l_a62 (m := 6) (by decide) (q5 p_x1 c4 c38))
      obtain ⟨a63, ea63, o_a63⟩ := ae hI o_a62 (by decide) (by decide) i64
      replace o_a63 : ob _ a63 3 := o_a63
      refine ⟨i64, a63, ea63, ?_⟩
      refine ⟨o_a56, ?_⟩
      refine m_X1_leastWet hI o_a56 o_a41 o_a59 o_a63 (fun x65 S66 hI g67 => ?_)
      have l_a40 := (gr_len g67 o_a40).trans l_a40
      have l_a45 := (gr_len g67 o_a45).trans l_a45
      have l_a49 := (gr_len g67 o_a49).trans l_a49
      have l_a58 := (gr_len g67 o_a58).trans l_a58
      have l_a62 := (gr_len g67 o_a62).trans l_a62
      have o_a39 := gr_ob g67 o_a39
      have o_a40 := gr_ob g67 o_a40
      have o_a41 := gr_ob g67 o_a41
      have o_a43 := gr_ob g67 o_a43
      have o_a44 := gr_ob g67 o_a44
      have o_a45 := gr_ob g67 o_a45
      have o_a46 := gr_ob g67 o_a46
      have o_a48 := gr_ob g67 o_a48
      have o_a49 := gr_ob g67 o_a49
      have o_a50 := gr_ob g67 o_a50
      have o_a56 := gr_ob g67 o_a56
      have o_a57 := gr_ob g67 o_a57
      have o_a58 := gr_ob g67 o_a58
      have o_a59 := gr_ob g67 o_a59
      have o_a61 := gr_ob g67 o_a61
      have o_a62 := gr_ob g67 o_a62
      have o_a63 := gr_ob g67 o_a63
      have o_v0 := gr_ob g67 o_v0
      have g0 := gr_tr g0 g67
      intro _
      refine m_X9_fraction hI (fun x68 S69 hI2 g70 p_x68 => ?_)
      subst p_x68
      intro _
      exact hq _ _ hI g0
    · exact hq _ _ hI g0
set_option maxHeartbeats 4000000 in
set_option maxRecDepth 20000 in
theorem m_X9_size {v0 : Nat} {v1 : Int32} {Q : Int32 → HS → Prop} {S : HS} (hI : IV S) (o_v0 : ob S v0 9)     (hq : ∀ (r : Int32) (T : HS), IV T → Gr S T → (S = T) → Q r T) : P_X9_size v0 v1 Q S := by
  have g0 := gr_rf S
  refine u_X9_size ?_
  refine u_X9_size_0 ?_
  refine ⟨fun c1 => ?_, fun c1 => ?_, fun c1 => ?_, fun c1 => ?_, fun c1 => ?_, fun c1 => ?_, fun c1 => ?_, fun c1 => ?_, fun c1 => ?_, fun c1 => ?_, fun c1 => ?_, fun c1 => ?_, fun c1 => ?_⟩
  · exact hq _ _ hI g0 rfl
  · refine ⟨o_v0, ?_⟩
    obtain ⟨a2, ea2, o_a2, -⟩ := sh 1 rfl hI o_v0
    refine ⟨a2, ea2, ?_⟩
    refine ⟨o_a2, ?_⟩
    intro x3 ex3
    have r_x3 : (0 : Int32) ≤ x3 ∧ x3 ≤ (60 : Int32) := by rw [ex3]; exact nu 10 rfl hI o_a2
    exact hq _ _ hI g0 rfl
  · refine ⟨o_v0, ?_⟩
    obtain ⟨a4, ea4, o_a4, -⟩ := sh 1 rfl hI o_v0
    refine ⟨a4, ea4, ?_⟩
    refine ⟨o_a4, ?_⟩
    intro x5 ex5
    have r_x5 : (0 : Int32) ≤ x5 ∧ x5 ≤ (6 : Int32) := by rw [ex5]; exact nu 11 rfl hI o_a4
    exact hq _ _ hI g0 rfl
  · refine ⟨o_v0, ?_⟩
    obtain ⟨a6, ea6, o_a6, -⟩ := sh 1 rfl hI o_v0
    refine ⟨a6, ea6, ?_⟩
    refine ⟨o_a6, ?_⟩
    intro x7 ex7
    have r_x7 : (0 : Int32) ≤ x7 ∧ x7 ≤ (8 : Int32) := by rw [ex7]; exact nu 12 rfl hI o_a6
    exact hq _ _ hI g0 rfl
  · refine ⟨o_v0, ?_⟩
    obtain ⟨a8, ea8, o_a8, -⟩ := sh 1 rfl hI o_v0
    refine ⟨a8, ea8, ?_⟩
    refine ⟨o_a8, ?_⟩
    intro x9 ex9
    have r_x9 : (0 : Int32) ≤ x9 ∧ x9 ≤ (12 : Int32) := by rw [ex9]; exact nu 13 rfl hI o_a8
    exact hq _ _ hI g0 rfl
  · refine ⟨o_v0, ?_⟩
    obtain ⟨a10, ea10, o_a10, -⟩ := sh 1 rfl hI o_v0
    refine ⟨a10, ea10, ?_⟩
    refine ⟨o_a10, ?_⟩
    intro x11 ex11
    have r_x11 : (0 : Int32) ≤ x11 ∧ x11 ≤ (4 : Int32) := by rw [ex11]; exact nu 14 rfl hI o_a10
    exact hq _ _ hI g0 rfl
  · refine ⟨o_v0, ?_⟩
    obtain ⟨a12, ea12, o_a12, -⟩ := sh 1 rfl hI o_v0
    refine ⟨a12, ea12, ?_⟩
    refine ⟨o_a12, ?_⟩
    intro x13 ex13
    have r_x13 : (0 : Int32) ≤ x13 ∧ x13 ≤ (4 : Int32) := by rw [ex13]; exact nu 15 rfl hI o_a12
    exact hq _ _ hI g0 rfl
  · refine ⟨o_v0, ?_⟩
    obtain ⟨a14, ea14, o_a14, -⟩ := sh 5 rfl hI o_v0
    refine ⟨a14, ea14, ?_⟩
    refine ⟨o_a14, ?_⟩
    refine m_X0_isOn hI o_a14 (fun x15 S16 hI2 g17 b_x15 p_x15 => ?_)
    subst p_x15
    intro _ _
    have bb_x15 : x15 = 0 ∨ x15 = 1 := b_x15
    refine ⟨fun c18 => ?_, fun c18 => ?_⟩
    · exact hq _ _ hI g0 rfl
    · obtain ⟨a19, ea19, o_a19, -⟩ := sh 5 rfl hI o_v0
      refine ⟨a19, ea19, ?_⟩
      refine ⟨o_a19, ?_⟩
      intro x20 ex20
      have r_x20 : (-1 : Int32) ≤ x20 ∧ x20 ≤ (3 : Int32) := by rw [ex20]; exact nu 1 rfl hI o_a19
      exact hq _ _ hI g0 rfl
  · refine ⟨o_v0, ?_⟩
    obtain ⟨a21, ea21, o_a21, -⟩ := sh 5 rfl hI o_v0
    refine ⟨a21, ea21, ?_⟩
    refine ⟨o_a21, ?_⟩
    refine m_X0_isOn hI o_a21 (fun x22 S23 hI2 g24 b_x22 p_x22 => ?_)
    subst p_x22
    intro _ _
    have bb_x22 : x22 = 0 ∨ x22 = 1 := b_x22
    refine ⟨fun c25 => ?_, fun c25 => ?_⟩
    · exact hq _ _ hI g0 rfl
    · obtain ⟨a26, ea26, o_a26, -⟩ := sh 5 rfl hI o_v0
      refine ⟨a26, ea26, ?_⟩
      refine ⟨o_a26, ?_⟩
      obtain ⟨a27, ea27, o_a27, -⟩ := sh 6 rfl hI o_a26
      refine ⟨a27, ea27, ?_⟩
      refine ⟨o_a27, ?_⟩
      intro x28 ex28
      exact hq _ _ hI g0 rfl
  · refine ⟨o_v0, ?_⟩
    obtain ⟨a29, ea29, o_a29, -⟩ := sh 5 rfl hI o_v0
    refine ⟨a29, ea29, ?_⟩
    refine ⟨o_a29, ?_⟩
    refine m_X0_isOn hI o_a29 (fun x30 S31 hI2 g32 b_x30 p_x30 => ?_)
    subst p_x30
    intro _ _
    have bb_x30 : x30 = 0 ∨ x30 = 1 := b_x30
    refine ⟨fun c33 => ?_, fun c33 => ?_⟩
    · exact hq _ _ hI g0 rfl
    · obtain ⟨a34, ea34, o_a34, -⟩ := sh 5 rfl hI o_v0
      refine ⟨a34, ea34, ?_⟩
      refine ⟨o_a34, ?_⟩
      obtain ⟨a35, ea35, o_a35, -⟩ := sh 6 rfl hI o_a34
      refine ⟨a35, ea35, ?_⟩
      refine ⟨o_a35, ?_⟩
      intro x36 ex36
      exact hq _ _ hI g0 rfl
  · refine ⟨o_v0, ?_⟩
    obtain ⟨a37, ea37, o_a37, -⟩ := sh 5 rfl hI o_v0
    refine ⟨a37, ea37, ?_⟩
    refine ⟨o_a37, ?_⟩
    intro x38 ex38
    have r_x38 : (0 : Int32) ≤ x38 ∧ x38 ≤ (16 : Int32) := by rw [ex38]; exact nu 2 rfl hI o_a37
    exact hq _ _ hI g0 rfl
  · refine ⟨o_v0, ?_⟩
    obtain ⟨a39, ea39, o_a39, -⟩ := sh 5 rfl hI o_v0
    refine ⟨a39, ea39, ?_⟩
    refine ⟨o_a39, ?_⟩
    intro x40 ex40
    have r_x40 : (0 : Int32) ≤ x40 ∧ x40 ≤ (3 : Int32) := by rw [ex40]; exact nu 3 rfl hI o_a39
    exact hq _ _ hI g0 rfl
  · refine ⟨o_v0, ?_⟩
    intro x41 ex41
    have r_x41 : (0 : Int32) ≤ x41 ∧ x41 ≤ (900 : Int32) := by rw [ex41]; exact nu 0 rfl hI o_v0
    exact hq _ _ hI g0 rfl
set_option maxHeartbeats 4000000 in
set_option maxRecDepth 20000 in
theorem m_X9_soaked {v0 : Nat} {Q : Int32 → HS → Prop} {S : HS} (hI : IV S) (o_v0 : ob S v0 9)     (hq : ∀ (r : Int32) (T : HS), IV T → Gr S T → Q r T) : P_X9_soaked v0 Q S := by
  have g0 := gr_rf S
  refine u_X9_soaked ?_
  refine u_X9_soaked_0 ?_
  refine ⟨o_v0, ?_⟩
  obtain ⟨a1, ea1, o_a1, -⟩ := sh 5 rfl hI o_v0
  refine ⟨a1, ea1, ?_⟩
  refine ⟨o_a1, ?_⟩
  refine m_X0_isOn hI o_a1 (fun x2 S3 hI2 g4 b_x2 p_x2 => ?_)
  subst p_x2
  intro _ _
  have bb_x2 : x2 = 0 ∨ x2 = 1 := b_x2
  refine ⟨fun c5 => ?_, fun c5 => ?_⟩
  · refine u_X9_soaked_27 ?_
    refine ⟨o_v0, ?_⟩
    refine u_X9_refuse ?_
    refine u_X9_refuse_0 ?_
    refine ⟨o_v0, ?_⟩
    have hI := iv_sI (j := 9) (v := (1 : Int32)) hI o_v0 (by decide) (nu_free (by decide))
    intro _
    exact hq _ _ hI g0
  · obtain ⟨a6, ea6, o_a6, -⟩ := sh 1 rfl hI o_v0
    refine ⟨a6, ea6, ?_⟩
    obtain ⟨a7, ea7, o_a7, -⟩ := sh 5 rfl hI o_v0
    refine ⟨a7, ea7, ?_⟩
    refine ⟨o_a7, ?_⟩
    intro x8 ex8
    have r_x8 : (-1 : Int32) ≤ x8 ∧ x8 ≤ (3 : Int32) := by rw [ex8]; exact nu 1 rfl hI o_a7
    refine ⟨o_a6, ?_⟩
    refine m_X8_hasWalker hI o_a6 (fun x9 S10 hI2 g11 b_x9 p_x9 => ?_)
    obtain ⟨z_S10, p_x9⟩ := p_x9
    subst z_S10
    intro _ _
    have bb_x9 : x9 = 0 ∨ x9 = 1 := b_x9
    refine ⟨fun c12 => ?_, fun c12 => ?_⟩
    · obtain ⟨a13, ea13, o_a13, -⟩ := sh 1 rfl hI o_v0
      refine ⟨a13, ea13, ?_⟩
      refine ⟨o_a13, ?_⟩
      obtain ⟨a14, ea14, o_a14, l_a14⟩ := shl 18 rfl hI o_a13
      refine ⟨a14, ea14, ?_⟩
      obtain ⟨a15, ea15, o_a15, -⟩ := sh 5 rfl hI o_v0
      refine ⟨a15, ea15, ?_⟩
      refine ⟨o_a15, ?_⟩
      intro x16 ex16
      have r_x16 : (-1 : Int32) ≤ x16 ∧ x16 ≤ (3 : Int32) := by rw [ex16]; exact nu 1 rfl hI o_a15
      refine ⟨o_a14, ?_⟩
      have i18 : vp_in x16 (hN _ a14) := (vin l_a14 (m := 4) (by decide) (q131 r_x16))
      obtain ⟨a17, ea17, o_a17⟩ := ae hI o_a14 (by decide) (by decide) i18
      replace o_a17 : ob _ a17 6 := o_a17
      refine ⟨i18, a17, ea17, ?_⟩
      refine ⟨o_a17, ?_⟩
      intro x19 ex19
      refine ⟨fun c20 => ?_, fun c20 => ?_⟩
      · obtain ⟨a21, ea21, o_a21, -⟩ := sh 5 rfl hI o_v0
        refine ⟨a21, ea21, ?_⟩
        refine ⟨o_a21, ?_⟩
        obtain ⟨a22, ea22, o_a22, -⟩ := sh 6 rfl hI o_a21
        refine ⟨a22, ea22, ?_⟩
        refine ⟨o_a22, ?_⟩
        refine m_X2_allGot hI o_a22 (fun x23 S24 hI2 g25 p_x23 => ?_)
        subst p_x23
        intro _
        refine m_X9_coatParts hI o_a17 (fun x26 S27 hI2 g28 p_x26 => ?_)
        subst p_x26
        intro _
        refine ⟨fun c29 => ?_, fun c29 => ?_⟩
        · refine u_X9_soaked_88 ?_
          refine ⟨o_v0, ?_⟩
          refine u_X9_grant ?_
          refine u_X9_grant_0 ?_
          refine ⟨o_v0, ?_⟩
          have hI := iv_sI (j := 9) (v := (0 : Int32)) hI o_v0 (by decide) (nu_free (by decide))
          intro _
          exact hq _ _ hI g0
        · refine u_X9_soaked_88 ?_
          refine ⟨o_v0, ?_⟩
          refine u_X9_grant ?_
          refine u_X9_grant_0 ?_
          refine ⟨o_v0, ?_⟩
          have hI := iv_sI (j := 9) (v := (0 : Int32)) hI o_v0 (by decide) (nu_free (by decide))
          intro _
          exact hq _ _ hI g0
      · refine u_X9_grant ?_
        refine u_X9_grant_0 ?_
        refine ⟨o_v0, ?_⟩
        have hI := iv_sI (j := 9) (v := (0 : Int32)) hI o_v0 (by decide) (nu_free (by decide))
        intro _
        exact hq _ _ hI g0
    · refine u_X9_soaked_27 ?_
      refine ⟨o_v0, ?_⟩
      refine u_X9_refuse ?_
      refine u_X9_refuse_0 ?_
      refine ⟨o_v0, ?_⟩
      have hI := iv_sI (j := 9) (v := (1 : Int32)) hI o_v0 (by decide) (nu_free (by decide))
      intro _
      exact hq _ _ hI g0
set_option maxHeartbeats 4000000 in
set_option maxRecDepth 20000 in
theorem m_X9_stayTrouble {v0 : Nat} {v1 : Int32} {Q : Int32 → HS → Prop} {S : HS} (hI : IV S) (o_v0 : ob S v0 9)     (hq : ∀ (r : Int32) (T : HS), IV T → Gr S T → (S = T) → Q r T) : P_X9_stayTrouble v0 v1 Q S := by
  have g0 := gr_rf S
  refine u_X9_stayTrouble ?_
  refine u_X9_stayTrouble_0 ?_
  refine ⟨o_v0, ?_⟩
  obtain ⟨a1, ea1, o_a1, -⟩ := sh 5 rfl hI o_v0
  refine ⟨a1, ea1, ?_⟩
  refine ⟨o_a1, ?_⟩
  refine m_X0_isOn hI o_a1 (fun x2 S3 hI2 g4 b_x2 p_x2 => ?_)
  subst p_x2
  intro _ _
  have bb_x2 : x2 = 0 ∨ x2 = 1 := b_x2
  refine ⟨fun c5 => ?_, fun c5 => ?_⟩
  · exact hq _ _ hI g0 rfl
  · obtain ⟨a6, ea6, o_a6, -⟩ := sh 1 rfl hI o_v0
    refine ⟨a6, ea6, ?_⟩
    obtain ⟨a7, ea7, o_a7, -⟩ := sh 5 rfl hI o_v0
    refine ⟨a7, ea7, ?_⟩
    refine ⟨o_a7, ?_⟩
    intro x8 ex8
    have r_x8 : (-1 : Int32) ≤ x8 ∧ x8 ≤ (3 : Int32) := by rw [ex8]; exact nu 1 rfl hI o_a7
    refine ⟨o_a6, ?_⟩
    refine m_X8_hasWalker hI o_a6 (fun x9 S10 hI2 g11 b_x9 p_x9 => ?_)
    obtain ⟨z_S10, p_x9⟩ := p_x9
    subst z_S10
    intro _ _
    have bb_x9 : x9 = 0 ∨ x9 = 1 := b_x9
    refine ⟨fun c12 => ?_, fun c12 => ?_⟩
    · refine ⟨fun c13 => ?_, fun c13 => ?_⟩
      · exact hq _ _ hI g0 rfl
      · refine ⟨fun c14 => ?_, fun c14 => ?_⟩
        · obtain ⟨a15, ea15, o_a15, -⟩ := sh 1 rfl hI o_v0
          refine ⟨a15, ea15, ?_⟩
          obtain ⟨a16, ea16, o_a16, -⟩ := sh 5 rfl hI o_v0
          refine ⟨a16, ea16, ?_⟩
          refine ⟨o_a16, ?_⟩
          obtain ⟨a17, ea17, o_a17, -⟩ := sh 6 rfl hI o_a16
          refine ⟨a17, ea17, ?_⟩
          refine ⟨o_a17, ?_⟩
          intro x18 ex18
          refine ⟨o_a15, ?_⟩
          refine m_X8_canWait hI o_a15 (fun x19 S20 hI2 g21 b_x19 p_x19 => ?_)
          obtain ⟨z_S20, p_x19⟩ := p_x19
          subst z_S20
          intro _ _
          have bb_x19 : x19 = 0 ∨ x19 = 1 := b_x19
          refine ⟨fun c22 => ?_, fun c22 => ?_⟩
          · obtain ⟨a23, ea23, o_a23, -⟩ := sh 5 rfl hI o_v0
            refine ⟨a23, ea23, ?_⟩
            refine ⟨o_a23, ?_⟩
            obtain ⟨a24, ea24, o_a24, -⟩ := sh 6 rfl hI o_a23
            refine ⟨a24, ea24, ?_⟩
            refine ⟨o_a24, ?_⟩
            intro x25 ex25
            refine ⟨fun c26 => ?_, fun c26 => ?_⟩
            · exact hq _ _ hI g0 rfl
            · exact hq _ _ hI g0 rfl
          · exact hq _ _ hI g0 rfl
        · exact hq _ _ hI g0 rfl
    · exact hq _ _ hI g0 rfl
set_option maxHeartbeats 4000000 in
set_option maxRecDepth 20000 in
theorem m_X9_stay {v0 : Nat} {v1 : Int32} {Q : Int32 → HS → Prop} {S : HS} (hI : IV S) (o_v0 : ob S v0 9)     (hq : ∀ (r : Int32) (T : HS), IV T → Gr S T → bl r → Q r T) : P_X9_stay v0 v1 Q S := by
  have g0 := gr_rf S
  refine u_X9_stay ?_
  refine u_X9_stay_0 ?_
  refine ⟨o_v0, ?_⟩
  refine m_X9_stayTrouble hI o_v0 (fun x1 S2 hI2 g3 p_x1 => ?_)
  subst p_x1
  intro _
  refine u_X9_refusedBy ?_
  refine u_X9_refusedBy_0 ?_
  refine ⟨o_v0, ?_⟩
  have hI := iv_sI (j := 9) (v := x1) hI o_v0 (by decide) (nu_free (by decide))
  refine ⟨fun c4 => ?_, fun c4 => ?_⟩
  · intro _ _
    refine ⟨fun c5 => ?_, fun c5 => ?_⟩
    · obtain ⟨a6, ea6, o_a6, -⟩ := sh 5 rfl hI o_v0
      refine ⟨a6, ea6, ?_⟩
      refine ⟨o_a6, ?_⟩
      refine m_X0_keepForUndo hI o_a6 (fun S8 hI g9 => ?_)
      have o_a6 := gr_ob g9 o_a6
      have o_v0 := gr_ob g9 o_v0
      have g0 := gr_tr g0 g9
      intro _
      obtain ⟨a10, ea10, o_a10, -⟩ := sh 1 rfl hI o_v0
      refine ⟨a10, ea10, ?_⟩
      obtain ⟨a11, ea11, o_a11, -⟩ := sh 1 rfl hI o_v0
      refine ⟨a11, ea11, ?_⟩
      refine ⟨o_a11, ?_⟩
      obtain ⟨a12, ea12, o_a12, l_a12⟩ := shl 18 rfl hI o_a11
      refine ⟨a12, ea12, ?_⟩
      obtain ⟨a13, ea13, o_a13, -⟩ := sh 5 rfl hI o_v0
      refine ⟨a13, ea13, ?_⟩
      refine ⟨o_a13, ?_⟩
      intro x14 ex14
      have r_x14 : (-1 : Int32) ≤ x14 ∧ x14 ≤ (3 : Int32) := by rw [ex14]; exact nu 1 rfl hI o_a13
      refine ⟨o_a12, ?_⟩
      have i16 : vp_in x14 (hN _ a12) := (vin l_a12 (m := 4) (by decide) (q253 c5 r_x14))
      obtain ⟨a15, ea15, o_a15⟩ := ae hI o_a12 (by decide) (by decide) i16
      replace o_a15 : ob _ a15 6 := o_a15
      refine ⟨i16, a15, ea15, ?_⟩
      obtain ⟨a17, ea17, o_a17, -⟩ := sh 5 rfl hI o_v0
      refine ⟨a17, ea17, ?_⟩
      refine ⟨o_a17, ?_⟩
      obtain ⟨a18, ea18, o_a18, -⟩ := sh 6 rfl hI o_a17
      refine ⟨a18, ea18, ?_⟩
      refine ⟨o_a18, ?_⟩
      intro x19 ex19
      refine ⟨o_a10, ?_⟩
      refine m_X8_dripOn hI o_a10 o_a15 (fun x20 S21 hI2 g22 p_x20 => ?_)
      subst p_x20
      intro _
      intro x23 ex23
      refine i_X9_stay_58 (fun (y0 : Nat) (y1 : Int32) (y2 : Int64) (y4 : Int32) (Z : HS) => ((2147483647 : Int32).toInt - y4.toInt).toNat) (fun (y0 : Nat) (y1 : Int32) (y2 : Int64) (y4 : Int32) (Z : HS) => (IV Z) ∧ (Gr S8 Z) ∧ (v0 = y0) ∧ (v1 = y1) ∧ (x23 = y2) ∧ (0 ≤ y4)) ?_ _ _ _ _ _ ⟨hI, (gr_rf _), rfl, rfl, rfl, (q254 c5)⟩
      intro w26 w28 w30 w32 S24 X33 ⟨hI, gL25, q27, q29, q31, i1⟩ ih34
      subst q27
      subst q29
      subst q31
      have l_a12 := (gr_len gL25 o_a12).trans l_a12
      have o_a10 := gr_ob gL25 o_a10
      have o_a11 := gr_ob gL25 o_a11
      have o_a12 := gr_ob gL25 o_a12
      have o_a13 := gr_ob gL25 o_a13
      have o_a15 := gr_ob gL25 o_a15
      have o_a17 := gr_ob gL25 o_a17
      have o_a18 := gr_ob gL25 o_a18
      have o_a6 := gr_ob gL25 o_a6
      have o_v0 := gr_ob gL25 o_v0
      have g0 := gr_tr g0 gL25
      refine u_X9_stay_58 ?_
      refine ⟨fun c35 => ?_, fun c35 => ?_⟩
      · exact hq _ _ hI g0 (Or.inr rfl)
      · refine ⟨o_v0, ?_⟩
        obtain ⟨a36, ea36, o_a36, -⟩ := sh 5 rfl hI o_v0
        refine ⟨a36, ea36, ?_⟩
        obtain ⟨a37, ea37, o_a37, -⟩ := sh 1 rfl hI o_v0
        refine ⟨a37, ea37, ?_⟩
        obtain ⟨a38, ea38, o_a38, -⟩ := sh 5 rfl hI o_v0
        refine ⟨a38, ea38, ?_⟩
        refine ⟨o_a38, ?_⟩
        obtain ⟨a39, ea39, o_a39, -⟩ := sh 6 rfl hI o_a38
        refine ⟨a39, ea39, ?_⟩
        refine ⟨o_a39, ?_⟩
        intro x40 ex40
        refine ⟨o_a37, ?_⟩
        refine m_X8_hourOf hI o_a37 (fun x41 S42 hI2 g43 p_x41 => ?_)
        subst p_x41
        intro _
        refine ⟨o_a36, ?_⟩
        refine m_X0_rainsIn hI o_a36 (fun x44 S45 hI2 g46 b_x44 p_x44 => ?_)
        subst p_x44
        intro _ _
        have bb_x44 : x44 = 0 ∨ x44 = 1 := b_x44
        refine ⟨fun c47 => ?_, fun c47 => ?_⟩
        · refine u_X9_stay_111 ?_
          refine ⟨o_v0, ?_⟩
          obtain ⟨a48, ea48, o_a48, -⟩ := sh 5 rfl hI o_v0
          refine ⟨a48, ea48, ?_⟩
          refine ⟨o_a48, ?_⟩
          obtain ⟨a49, ea49, o_a49, -⟩ := sh 6 rfl hI o_a48
          refine ⟨a49, ea49, ?_⟩
          refine ⟨o_a49, ?_⟩
          intro x50 ex50
          intro x51 ex51
          have hI := iv_sI (j := 1) (v := x51) hI o_a49 (by decide) (nu_free (by decide))
          intro x52 ex52
          exact ih34 _ _ _ _ _ ⟨hI, gL25, rfl, rfl, rfl, (q255 c5 i1 c35 ex52)⟩ (mu_up (q256 c5 i1 c35 ex52) (q257 c5 i1 c35 ex52))
        · obtain ⟨a53, ea53, o_a53, -⟩ := sh 5 rfl hI o_v0
          refine ⟨a53, ea53, ?_⟩
          refine ⟨o_a53, ?_⟩
          obtain ⟨a54, ea54, o_a54, -⟩ := sh 6 rfl hI o_a53
          refine ⟨a54, ea54, ?_⟩
          refine ⟨o_a54, ?_⟩
          obtain ⟨a55, ea55, o_a55, l_a55⟩ := shl 11 rfl hI o_a54
          refine ⟨a55, ea55, ?_⟩
          refine ⟨o_a55, ?_⟩
          refine ⟨(vin l_a55 (m := 5) (by decide) (q258 c5)), ?_⟩
          intro x56 ex56
          intro x57 ex57
          have i58 : vp_in (0 : Int32) (hN _ a55) := (vin l_a55 (m := 5) (by decide) (q258 c5))
          refine ⟨i58, ?_⟩
          have hI := iv_aJ (i := (0 : Int32).toNatClampNeg) (v := x57) hI o_a54 (by decide) ea55 o_a55 (by decide)
          refine u_X9_stay_111 ?_
          refine ⟨o_v0, ?_⟩
          obtain ⟨a59, ea59, o_a59, -⟩ := sh 5 rfl hI o_v0
          refine ⟨a59, ea59, ?_⟩
          refine ⟨o_a59, ?_⟩
          obtain ⟨a60, ea60, o_a60, -⟩ := sh 6 rfl hI o_a59
          refine ⟨a60, ea60, ?_⟩
          refine ⟨o_a60, ?_⟩
          intro x61 ex61
          intro x62 ex62
          have hI := iv_sI (j := 1) (v := x62) hI o_a60 (by decide) (nu_free (by decide))
          intro x63 ex63
          exact ih34 _ _ _ _ _ ⟨hI, gL25, rfl, rfl, rfl, (q255 c5 i1 c35 ex63)⟩ (mu_up (q256 c5 i1 c35 ex63) (q257 c5 i1 c35 ex63))
    · exact hq _ _ hI g0 (Or.inl rfl)
  · intro _ _
    refine ⟨fun c64 => ?_, fun c64 => ?_⟩
    · obtain ⟨a65, ea65, o_a65, -⟩ := sh 5 rfl hI o_v0
      refine ⟨a65, ea65, ?_⟩
      refine ⟨o_a65, ?_⟩
      refine m_X0_keepForUndo hI o_a65 (fun S67 hI g68 => ?_)
      have o_a65 := gr_ob g68 o_a65
      have o_v0 := gr_ob g68 o_v0
      have g0 := gr_tr g0 g68
      intro _
      obtain ⟨a69, ea69, o_a69, -⟩ := sh 1 rfl hI o_v0
      refine ⟨a69, ea69, ?_⟩
      obtain ⟨a70, ea70, o_a70, -⟩ := sh 1 rfl hI o_v0
      refine ⟨a70, ea70, ?_⟩
      refine ⟨o_a70, ?_⟩
      obtain ⟨a71, ea71, o_a71, l_a71⟩ := shl 18 rfl hI o_a70
      refine ⟨a71, ea71, ?_⟩
      obtain ⟨a72, ea72, o_a72, -⟩ := sh 5 rfl hI o_v0
      refine ⟨a72, ea72, ?_⟩
      refine ⟨o_a72, ?_⟩
      intro x73 ex73
      have r_x73 : (-1 : Int32) ≤ x73 ∧ x73 ≤ (3 : Int32) := by rw [ex73]; exact nu 1 rfl hI o_a72
      refine ⟨o_a71, ?_⟩
      have i75 : vp_in x73 (hN _ a71) := (vin l_a71 (m := 4) (by decide) (q259 c64 r_x73))
      obtain ⟨a74, ea74, o_a74⟩ := ae hI o_a71 (by decide) (by decide) i75
      replace o_a74 : ob _ a74 6 := o_a74
      refine ⟨i75, a74, ea74, ?_⟩
      obtain ⟨a76, ea76, o_a76, -⟩ := sh 5 rfl hI o_v0
      refine ⟨a76, ea76, ?_⟩
      refine ⟨o_a76, ?_⟩
      obtain ⟨a77, ea77, o_a77, -⟩ := sh 6 rfl hI o_a76
      refine ⟨a77, ea77, ?_⟩
      refine ⟨o_a77, ?_⟩
      intro x78 ex78
      refine ⟨o_a69, ?_⟩
      refine m_X8_dripOn hI o_a69 o_a74 (fun x79 S80 hI2 g81 p_x79 => ?_)
      subst p_x79
      intro _
      intro x82 ex82
      refine i_X9_stay_58 (fun (y0 : Nat) (y1 : Int32) (y2 : Int64) (y4 : Int32) (Z : HS) => ((2147483647 : Int32).toInt - y4.toInt).toNat) (fun (y0 : Nat) (y1 : Int32) (y2 : Int64) (y4 : Int32) (Z : HS) => (IV Z) ∧ (Gr S67 Z) ∧ (v0 = y0) ∧ (v1 = y1) ∧ (x82 = y2) ∧ (0 ≤ y4)) ?_ _ _ _ _ _ ⟨hI, (gr_rf _), rfl, rfl, rfl, (q260 c64)⟩
      intro w85 w87 w89 w91 S83 X92 ⟨hI, gL84, q86, q88, q90, i1⟩ ih93
      subst q86
      subst q88
      subst q90
      have l_a71 := (gr_len gL84 o_a71).trans l_a71
      have o_a65 := gr_ob gL84 o_a65
      have o_a69 := gr_ob gL84 o_a69
      have o_a70 := gr_ob gL84 o_a70
      have o_a71 := gr_ob gL84 o_a71
      have o_a72 := gr_ob gL84 o_a72
      have o_a74 := gr_ob gL84 o_a74
      have o_a76 := gr_ob gL84 o_a76
      have o_a77 := gr_ob gL84 o_a77
      have o_v0 := gr_ob gL84 o_v0
      have g0 := gr_tr g0 gL84
      refine u_X9_stay_58 ?_
      refine ⟨fun c94 => ?_, fun c94 => ?_⟩
      · exact hq _ _ hI g0 (Or.inr rfl)
      · refine ⟨o_v0, ?_⟩
        obtain ⟨a95, ea95, o_a95, -⟩ := sh 5 rfl hI o_v0
        refine ⟨a95, ea95, ?_⟩
        obtain ⟨a96, ea96, o_a96, -⟩ := sh 1 rfl hI o_v0
        refine ⟨a96, ea96, ?_⟩
        obtain ⟨a97, ea97, o_a97, -⟩ := sh 5 rfl hI o_v0
        refine ⟨a97, ea97, ?_⟩
        refine ⟨o_a97, ?_⟩
        obtain ⟨a98, ea98, o_a98, -⟩ := sh 6 rfl hI o_a97
        refine ⟨a98, ea98, ?_⟩
        refine ⟨o_a98, ?_⟩
        intro x99 ex99
        refine ⟨o_a96, ?_⟩
        refine m_X8_hourOf hI o_a96 (fun x100 S101 hI2 g102 p_x100 => ?_)
        subst p_x100
        intro _
        refine ⟨o_a95, ?_⟩
        refine m_X0_rainsIn hI o_a95 (fun x103 S104 hI2 g105 b_x103 p_x103 => ?_)
        subst p_x103
        intro _ _
        have bb_x103 : x103 = 0 ∨ x103 = 1 := b_x103
        refine ⟨fun c106 => ?_, fun c106 => ?_⟩
        · refine u_X9_stay_111 ?_
          refine ⟨o_v0, ?_⟩
          obtain ⟨a107, ea107, o_a107, -⟩ := sh 5 rfl hI o_v0
          refine ⟨a107, ea107, ?_⟩
          refine ⟨o_a107, ?_⟩
          obtain ⟨a108, ea108, o_a108, -⟩ := sh 6 rfl hI o_a107
          refine ⟨a108, ea108, ?_⟩
          refine ⟨o_a108, ?_⟩
          intro x109 ex109
          intro x110 ex110
          have hI := iv_sI (j := 1) (v := x110) hI o_a108 (by decide) (nu_free (by decide))
          intro x111 ex111
          exact ih93 _ _ _ _ _ ⟨hI, gL84, rfl, rfl, rfl, (q261 c64 i1 c94 ex111)⟩ (mu_up (q262 c64 i1 c94 ex111) (q263 c64 i1 c94 ex111))
        · obtain ⟨a112, ea112, o_a112, -⟩ := sh 5 rfl hI o_v0
          refine ⟨a112, ea112, ?_⟩
          refine ⟨o_a112, ?_⟩
          obtain ⟨a113, ea113, o_a113, -⟩ := sh 6 rfl hI o_a112
          refine ⟨a113, ea113, ?_⟩
          refine ⟨o_a113, ?_⟩
          obtain ⟨a114, ea114, o_a114, l_a114⟩ := shl 11 rfl hI o_a113
          refine ⟨a114, ea114, ?_⟩
          refine ⟨o_a114, ?_⟩
          refine ⟨(vin l_a114 (m := 5) (by decide) (q264 c64)), ?_⟩
          intro x115 ex115
          intro x116 ex116
          have i117 : vp_in (0 : Int32) (hN _ a114) := (vin l_a114 (m := 5) (by decide) (q264 c64))
          refine ⟨i117, ?_⟩
          have hI := iv_aJ (i := (0 : Int32).toNatClampNeg) (v := x116) hI o_a113 (by decide) ea114 o_a114 (by decide)
          refine u_X9_stay_111 ?_
          refine ⟨o_v0, ?_⟩
          obtain ⟨a118, ea118, o_a118, -⟩ := sh 5 rfl hI o_v0
          refine ⟨a118, ea118, ?_⟩
          refine ⟨o_a118, ?_⟩
          obtain ⟨a119, ea119, o_a119, -⟩ := sh 6 rfl hI o_a118
          refine ⟨a119, ea119, ?_⟩
          refine ⟨o_a119, ?_⟩
          intro x120 ex120
          intro x121 ex121
          have hI := iv_sI (j := 1) (v := x121) hI o_a119 (by decide) (nu_free (by decide))
          intro x122 ex122
          exact ih93 _ _ _ _ _ ⟨hI, gL84, rfl, rfl, rfl, (q261 c64 i1 c94 ex122)⟩ (mu_up (q262 c64 i1 c94 ex122) (q263 c64 i1 c94 ex122))
    · exact hq _ _ hI g0 (Or.inl rfl)
set_option maxHeartbeats 4000000 in
set_option maxRecDepth 20000 in
theorem m_X9_step {v0 : Nat} {v1 : Int32} {v2 : Int32} {v3 : Int32} {v4 : Int32} {v5 : Int32} {v6 : Int32} {Q : Int32 → HS → Prop} {S : HS} (hI : IV S) (o_v0 : ob S v0 9)     (hq : ∀ (r : Int32) (T : HS), IV T → Gr S T → Q r T) : P_X9_step v0 v1 v2 v3 v4 v5 v6 Q S := by
  have g0 := gr_rf S
  refine u_X9_step ?_
  refine u_X9_step_0 ?_
  refine ⟨o_v0, ?_⟩
  refine m_X9_wayTrouble hI o_v0 (fun x1 S2 hI g3 => ?_)
  have o_v0 := gr_ob g3 o_v0
  have g0 := gr_tr g0 g3
  intro _
  refine u_X9_refusedBy ?_
  refine u_X9_refusedBy_0 ?_
  refine ⟨o_v0, ?_⟩
  have hI := iv_sI (j := 9) (v := x1) hI o_v0 (by decide) (nu_free (by decide))
  refine ⟨fun c4 => ?_, fun c4 => ?_⟩
  · intro _ _
    refine ⟨fun c5 => ?_, fun c5 => ?_⟩
    · obtain ⟨a6, ea6, o_a6, -⟩ := sh 4 rfl hI o_v0
      refine ⟨a6, ea6, ?_⟩
      obtain ⟨a7, ea7, o_a7, -⟩ := sh 1 rfl hI o_v0
      refine ⟨a7, ea7, ?_⟩
      refine ⟨o_a6, ?_⟩
      refine m_X7_trace hI o_a6 o_a7 (fun x8 S9 hI g10 => ?_)
      have o_a6 := gr_ob g10 o_a6
      have o_a7 := gr_ob g10 o_a7
      have o_v0 := gr_ob g10 o_v0
      have g0 := gr_tr g0 g10
      intro _
      refine ⟨fun c11 => ?_, fun c11 => ?_⟩
      · refine u_X9_step_61 ?_
        refine ⟨o_v0, ?_⟩
        refine u_X9_refuse ?_
        refine u_X9_refuse_0 ?_
        refine ⟨o_v0, ?_⟩
        have hI := iv_sI (j := 9) (v := (1 : Int32)) hI o_v0 (by decide) (nu_free (by decide))
        intro _
        exact hq _ _ hI g0
      · refine ⟨fun c12 => ?_, fun c12 => ?_⟩
        · refine u_X9_step_61 ?_
          refine ⟨o_v0, ?_⟩
          refine u_X9_refuse ?_
          refine u_X9_refuse_0 ?_
          refine ⟨o_v0, ?_⟩
          have hI := iv_sI (j := 9) (v := (1 : Int32)) hI o_v0 (by decide) (nu_free (by decide))
          intro _
          exact hq _ _ hI g0
        · obtain ⟨a13, ea13, o_a13, -⟩ := sh 4 rfl hI o_v0
          refine ⟨a13, ea13, ?_⟩
          refine ⟨o_a13, ?_⟩
          obtain ⟨a14, ea14, o_a14, -⟩ := sh 21 rfl hI o_a13
          refine ⟨a14, ea14, ?_⟩
          refine ⟨o_a14, ?_⟩
          refine ⟨fun c15 => ?_, fun c15 => ?_⟩
          · obtain ⟨a16, ea16, o_a16, -⟩ := sh 4 rfl hI o_v0
            refine ⟨a16, ea16, ?_⟩
            refine ⟨o_a16, ?_⟩
            obtain ⟨a17, ea17, o_a17, -⟩ := sh 21 rfl hI o_a16
            refine ⟨a17, ea17, ?_⟩
            refine ⟨o_a17, ?_⟩
            refine ⟨(vinL hl_a17 (q251 c5 c11 c12 c15)), ?_⟩
            intro x18 ex18
            exact hq _ _ hI g0
          · refine u_X9_step_61 ?_
            refine ⟨o_v0, ?_⟩
            refine u_X9_refuse ?_
            refine u_X9_refuse_0 ?_
            refine ⟨o_v0, ?_⟩
            have hI := iv_sI (j := 9) (v := (1 : Int32)) hI o_v0 (by decide) (nu_free (by decide))
            intro _
            exact hq _ _ hI g0
    · exact hq _ _ hI g0
  · intro _ _
    refine ⟨fun c19 => ?_, fun c19 => ?_⟩
    · obtain ⟨a20, ea20, o_a20, -⟩ := sh 4 rfl hI o_v0
      refine ⟨a20, ea20, ?_⟩
      obtain ⟨a21, ea21, o_a21, -⟩ := sh 1 rfl hI o_v0
      refine ⟨a21, ea21, ?_⟩
      refine ⟨o_a20, ?_⟩
      refine m_X7_trace hI o_a20 o_a21 (fun x22 S23 hI g24 => ?_)
      have o_a20 := gr_ob g24 o_a20
      have o_a21 := gr_ob g24 o_a21
      have o_v0 := gr_ob g24 o_v0
      have g0 := gr_tr g0 g24
      intro _
      refine ⟨fun c25 => ?_, fun c25 => ?_⟩
      · refine u_X9_step_61 ?_
        refine ⟨o_v0, ?_⟩
        refine u_X9_refuse ?_
        refine u_X9_refuse_0 ?_
        refine ⟨o_v0, ?_⟩
        have hI := iv_sI (j := 9) (v := (1 : Int32)) hI o_v0 (by decide) (nu_free (by decide))
        intro _
        exact hq _ _ hI g0
      · refine ⟨fun c26 => ?_, fun c26 => ?_⟩
        · refine u_X9_step_61 ?_
          refine ⟨o_v0, ?_⟩
          refine u_X9_refuse ?_
          refine u_X9_refuse_0 ?_
          refine ⟨o_v0, ?_⟩
          have hI := iv_sI (j := 9) (v := (1 : Int32)) hI o_v0 (by decide) (nu_free (by decide))
          intro _
          exact hq _ _ hI g0
        · obtain ⟨a27, ea27, o_a27, -⟩ := sh 4 rfl hI o_v0
          refine ⟨a27, ea27, ?_⟩
          refine ⟨o_a27, ?_⟩
          obtain ⟨a28, ea28, o_a28, -⟩ := sh 21 rfl hI o_a27
          refine ⟨a28, ea28, ?_⟩
          refine ⟨o_a28, ?_⟩
          refine ⟨fun c29 => ?_, fun c29 => ?_⟩
          · obtain ⟨a30, ea30, o_a30, -⟩ := sh 4 rfl hI o_v0
            refine ⟨a30, ea30, ?_⟩
            refine ⟨o_a30, ?_⟩
            obtain ⟨a31, ea31, o_a31, -⟩ := sh 21 rfl hI o_a30
            refine ⟨a31, ea31, ?_⟩
            refine ⟨o_a31, ?_⟩
            refine ⟨(vinL hl_a31 (q252 c19 c25 c26 c29)), ?_⟩
            intro x32 ex32
            exact hq _ _ hI g0
          · refine u_X9_step_61 ?_
            refine ⟨o_v0, ?_⟩
            refine u_X9_refuse ?_
            refine u_X9_refuse_0 ?_
            refine ⟨o_v0, ?_⟩
            have hI := iv_sI (j := 9) (v := (1 : Int32)) hI o_v0 (by decide) (nu_free (by decide))
            intro _
            exact hq _ _ hI g0
    · exact hq _ _ hI g0
set_option maxHeartbeats 4000000 in
set_option maxRecDepth 20000 in
theorem m_X9_steps {v0 : Nat} {v1 : Int32} {v2 : Int32} {v3 : Int32} {v4 : Int32} {v5 : Int32} {Q : Int32 → HS → Prop} {S : HS} (hI : IV S) (o_v0 : ob S v0 9)     (hq : ∀ (r : Int32) (T : HS), IV T → Gr S T → Q r T) : P_X9_steps v0 v1 v2 v3 v4 v5 Q S := by
  have g0 := gr_rf S
  refine u_X9_steps ?_
  refine u_X9_steps_0 ?_
  refine ⟨o_v0, ?_⟩
  refine m_X9_wayTrouble hI o_v0 (fun x1 S2 hI g3 => ?_)
  have o_v0 := gr_ob g3 o_v0
  have g0 := gr_tr g0 g3
  intro _
  refine u_X9_refusedBy ?_
  refine u_X9_refusedBy_0 ?_
  refine ⟨o_v0, ?_⟩
  have hI := iv_sI (j := 9) (v := x1) hI o_v0 (by decide) (nu_free (by decide))
  refine ⟨fun c4 => ?_, fun c4 => ?_⟩
  · intro _ _
    refine ⟨fun c5 => ?_, fun c5 => ?_⟩
    · obtain ⟨a6, ea6, o_a6, -⟩ := sh 4 rfl hI o_v0
      refine ⟨a6, ea6, ?_⟩
      obtain ⟨a7, ea7, o_a7, -⟩ := sh 1 rfl hI o_v0
      refine ⟨a7, ea7, ?_⟩
      refine ⟨o_a6, ?_⟩
      refine m_X7_trace hI o_a6 o_a7 (fun x8 S9 hI g10 => ?_)
      have o_a6 := gr_ob g10 o_a6
      have o_a7 := gr_ob g10 o_a7
      have o_v0 := gr_ob g10 o_v0
      have g0 := gr_tr g0 g10
      intro _
      exact hq _ _ hI g0
    · exact hq _ _ hI g0
  · intro _ _
    refine ⟨fun c11 => ?_, fun c11 => ?_⟩
    · obtain ⟨a12, ea12, o_a12, -⟩ := sh 4 rfl hI o_v0
      refine ⟨a12, ea12, ?_⟩
      obtain ⟨a13, ea13, o_a13, -⟩ := sh 1 rfl hI o_v0
      refine ⟨a13, ea13, ?_⟩
      refine ⟨o_a12, ?_⟩
      refine m_X7_trace hI o_a12 o_a13 (fun x14 S15 hI g16 => ?_)
      have o_a12 := gr_ob g16 o_a12
      have o_a13 := gr_ob g16 o_a13
      have o_v0 := gr_ob g16 o_v0
      have g0 := gr_tr g0 g16
      intro _
      exact hq _ _ hI g0
    · exact hq _ _ hI g0
set_option maxHeartbeats 4000000 in
set_option maxRecDepth 20000 in
theorem m_X9_there {v0 : Nat} {v1 : Int32} {v2 : Int32} {v3 : Int32} {v4 : Int32} {v5 : Int32} {Q : Int32 → HS → Prop} {S : HS} (hI : IV S) (o_v0 : ob S v0 9)     (hq : ∀ (r : Int32) (T : HS), IV T → Gr S T → Q r T) : P_X9_there v0 v1 v2 v3 v4 v5 Q S := by
  have g0 := gr_rf S
  refine u_X9_there ?_
  refine u_X9_there_0 ?_
  refine ⟨o_v0, ?_⟩
  refine m_X9_wayTrouble hI o_v0 (fun x1 S2 hI g3 => ?_)
  have o_v0 := gr_ob g3 o_v0
  have g0 := gr_tr g0 g3
  intro _
  refine u_X9_refusedBy ?_
  refine u_X9_refusedBy_0 ?_
  refine ⟨o_v0, ?_⟩
  have hI := iv_sI (j := 9) (v := x1) hI o_v0 (by decide) (nu_free (by decide))
  refine ⟨fun c4 => ?_, fun c4 => ?_⟩
  · intro _ _
    refine ⟨fun c5 => ?_, fun c5 => ?_⟩
    · obtain ⟨a6, ea6, o_a6, -⟩ := sh 4 rfl hI o_v0
      refine ⟨a6, ea6, ?_⟩
      refine ⟨o_a6, ?_⟩
      refine m_X7_endFrom hI o_a6 (fun x7 S8 hI2 g9 p_x7 => ?_)
      subst p_x7
      intro _
      exact hq _ _ hI g0
    · exact hq _ _ hI g0
  · intro _ _
    refine ⟨fun c10 => ?_, fun c10 => ?_⟩
    · obtain ⟨a11, ea11, o_a11, -⟩ := sh 4 rfl hI o_v0
      refine ⟨a11, ea11, ?_⟩
      refine ⟨o_a11, ?_⟩
      refine m_X7_endFrom hI o_a11 (fun x12 S13 hI2 g14 p_x12 => ?_)
      subst p_x12
      intro _
      exact hq _ _ hI g0
    · exact hq _ _ hI g0
set_option maxHeartbeats 4000000 in
set_option maxRecDepth 20000 in
theorem m_X9_trouble {v0 : Nat} {Q : Int32 → HS → Prop} {S : HS} (hI : IV S) (o_v0 : ob S v0 9)     (hq : ∀ (r : Int32) (T : HS), IV T → Gr S T → (S = T) → Q r T) : P_X9_trouble v0 Q S := by
  have g0 := gr_rf S
  refine u_X9_trouble ?_
  refine u_X9_trouble_0 ?_
  refine ⟨o_v0, ?_⟩
  intro x1 ex1
  exact hq _ _ hI g0 rfl
set_option maxHeartbeats 4000000 in
set_option maxRecDepth 20000 in
theorem m_X9_undo {v0 : Nat} {Q : Int32 → HS → Prop} {S : HS} (hI : IV S) (o_v0 : ob S v0 9)     (hq : ∀ (r : Int32) (T : HS), IV T → Gr S T → bl r → Q r T) : P_X9_undo v0 Q S := by
  have g0 := gr_rf S
  refine u_X9_undo ?_
  refine u_X9_undo_0 ?_
  refine ⟨o_v0, ?_⟩
  obtain ⟨a1, ea1, o_a1, -⟩ := sh 5 rfl hI o_v0
  refine ⟨a1, ea1, ?_⟩
  refine ⟨o_a1, ?_⟩
  refine m_X0_takeBack hI o_a1 (fun x2 S3 hI g4 b_x2 => ?_)
  have o_a1 := gr_ob g4 o_a1
  have o_v0 := gr_ob g4 o_v0
  have g0 := gr_tr g0 g4
  intro _ _
  have bb_x2 : x2 = 0 ∨ x2 = 1 := b_x2
  refine ⟨fun c5 => ?_, fun c5 => ?_⟩
  · refine u_X9_undo_17 ?_
    refine ⟨o_v0, ?_⟩
    refine u_X9_refusedBy ?_
    refine u_X9_refusedBy_0 ?_
    refine ⟨o_v0, ?_⟩
    have hI := iv_sI (j := 9) (v := (6 : Int32)) hI o_v0 (by decide) (nu_free (by decide))
    refine ⟨fun c6 => ?_, fun c6 => ?_⟩
    · intro _ _
      refine ⟨fun c7 => ?_, fun c7 => ?_⟩
      · exact hq _ _ hI g0 (Or.inl rfl)
      · exact hq _ _ hI g0 (Or.inr rfl)
    · intro _ _
      refine ⟨fun c8 => ?_, fun c8 => ?_⟩
      · exact hq _ _ hI g0 (Or.inl rfl)
      · exact hq _ _ hI g0 (Or.inr rfl)
  · refine u_X9_undo_17 ?_
    refine ⟨o_v0, ?_⟩
    refine u_X9_refusedBy ?_
    refine u_X9_refusedBy_0 ?_
    refine ⟨o_v0, ?_⟩
    have hI := iv_sI (j := 9) (v := (0 : Int32)) hI o_v0 (by decide) (nu_free (by decide))
    refine ⟨fun c9 => ?_, fun c9 => ?_⟩
    · intro _ _
      refine ⟨fun c10 => ?_, fun c10 => ?_⟩
      · exact hq _ _ hI g0 (Or.inl rfl)
      · exact hq _ _ hI g0 (Or.inr rfl)
    · intro _ _
      refine ⟨fun c11 => ?_, fun c11 => ?_⟩
      · exact hq _ _ hI g0 (Or.inl rfl)
      · exact hq _ _ hI g0 (Or.inr rfl)
set_option maxHeartbeats 4000000 in
set_option maxRecDepth 20000 in
theorem m_X9_walker {v0 : Nat} {v1 : Int32} {v2 : Int32} {Q : Int32 → HS → Prop} {S : HS} (hI : IV S) (o_v0 : ob S v0 9)     (hq : ∀ (r : Int32) (T : HS), IV T → Gr S T → Q r T) : P_X9_walker v0 v1 v2 Q S := by
  have g0 := gr_rf S
  refine u_X9_walker ?_
  refine u_X9_walker_0 ?_
  refine ⟨o_v0, ?_⟩
  obtain ⟨a1, ea1, o_a1, -⟩ := sh 1 rfl hI o_v0
  refine ⟨a1, ea1, ?_⟩
  refine ⟨o_a1, ?_⟩
  refine m_X8_hasWalker hI o_a1 (fun x2 S3 hI2 g4 b_x2 p_x2 => ?_)
  obtain ⟨z_S3, p_x2⟩ := p_x2
  subst z_S3
  intro _ _
  have bb_x2 : x2 = 0 ∨ x2 = 1 := b_x2
  refine ⟨fun c5 => ?_, fun c5 => ?_⟩
  · refine u_X9_walker_21 ?_
    refine ⟨o_v0, ?_⟩
    refine u_X9_refuse ?_
    refine u_X9_refuse_0 ?_
    refine ⟨o_v0, ?_⟩
    have hI := iv_sI (j := 9) (v := (1 : Int32)) hI o_v0 (by decide) (nu_free (by decide))
    intro _
    exact hq _ _ hI g0
  · refine ⟨fun c6 => ?_, fun c6 => ?_⟩
    · refine u_X9_walker_21 ?_
      refine ⟨o_v0, ?_⟩
      refine u_X9_refuse ?_
      refine u_X9_refuse_0 ?_
      refine ⟨o_v0, ?_⟩
      have hI := iv_sI (j := 9) (v := (1 : Int32)) hI o_v0 (by decide) (nu_free (by decide))
      intro _
      exact hq _ _ hI g0
    · refine ⟨fun c7 => ?_, fun c7 => ?_⟩
      · obtain ⟨a8, ea8, o_a8, -⟩ := sh 1 rfl hI o_v0
        refine ⟨a8, ea8, ?_⟩
        refine ⟨o_a8, ?_⟩
        obtain ⟨a9, ea9, o_a9, l_a9⟩ := shl 18 rfl hI o_a8
        refine ⟨a9, ea9, ?_⟩
        refine ⟨o_a9, ?_⟩
        have i11 : vp_in v1 (hN _ a9) := (vin l_a9 (m := 4) (by decide) (q230 p_x2 bb_x2 c5))
        obtain ⟨a10, ea10, o_a10⟩ := ae hI o_a9 (by decide) (by decide) i11
        replace o_a10 : ob _ a10 6 := o_a10
        refine ⟨i11, a10, ea10, ?_⟩
        refine ⟨o_a10, ?_⟩
        refine m_X6_tell hI o_a10 (fun x12 S13 hI2 g14 p_x12 => ?_)
        subst p_x12
        intro _
        refine u_X9_grant ?_
        refine u_X9_grant_0 ?_
        refine ⟨o_v0, ?_⟩
        have hI := iv_sI (j := 9) (v := (0 : Int32)) hI o_v0 (by decide) (nu_free (by decide))
        intro _
        exact hq _ _ hI g0
      · refine u_X9_walker_21 ?_
        refine ⟨o_v0, ?_⟩
        refine u_X9_refuse ?_
        refine u_X9_refuse_0 ?_
        refine ⟨o_v0, ?_⟩
        have hI := iv_sI (j := 9) (v := (1 : Int32)) hI o_v0 (by decide) (nu_free (by decide))
        intro _
        exact hq _ _ hI g0
set_option maxHeartbeats 4000000 in
set_option maxRecDepth 20000 in
theorem m_X9_wet {v0 : Nat} {v1 : Int32} {v2 : Int32} {v3 : Int32} {v4 : Int32} {v5 : Int32} {v6 : Int32} {Q : Int64 → HS → Prop} {S : HS} (hI : IV S) (o_v0 : ob S v0 9)     (hq : ∀ (r : Int64) (T : HS), IV T → Gr S T → Q r T) : P_X9_wet v0 v1 v2 v3 v4 v5 v6 Q S := by
  have g0 := gr_rf S
  refine u_X9_wet ?_
  refine u_X9_wet_0 ?_
  refine ⟨o_v0, ?_⟩
  refine m_X9_legTrouble hI o_v0 (fun x1 S2 hI2 g3 p_x1 => ?_)
  obtain ⟨z_S2, p_x1⟩ := p_x1
  subst z_S2
  intro _
  refine u_X9_refusedBy ?_
  refine u_X9_refusedBy_0 ?_
  refine ⟨o_v0, ?_⟩
  have hI := iv_sI (j := 9) (v := x1) hI o_v0 (by decide) (nu_free (by decide))
  refine ⟨fun c4 => ?_, fun c4 => ?_⟩
  · intro _ _
    refine ⟨fun c5 => ?_, fun c5 => ?_⟩
    · obtain ⟨a6, ea6, o_a6, -⟩ := sh 3 rfl hI o_v0
      refine ⟨a6, ea6, ?_⟩
      obtain ⟨a7, ea7, o_a7, -⟩ := sh 1 rfl hI o_v0
      refine ⟨a7, ea7, ?_⟩
      refine ⟨o_a7, ?_⟩
      obtain ⟨a8, ea8, o_a8, l_a8⟩ := shl 18 rfl hI o_a7
      refine ⟨a8, ea8, ?_⟩
      refine ⟨o_a8, ?_⟩
      have i10 : vp_in v1 (hN _ a8) := (vin l_a8 (m := 4) (by decide) (q0 p_x1 c4 c5))
      obtain ⟨a9, ea9, o_a9⟩ := ae hI o_a8 (by decide) (by decide) i10
      replace o_a9 : ob _ a9 6 := o_a9
      refine ⟨i10, a9, ea9, ?_⟩
      obtain ⟨a11, ea11, o_a11, -⟩ := sh 1 rfl hI o_v0
      refine ⟨a11, ea11, ?_⟩
      refine ⟨o_a11, ?_⟩
      obtain ⟨a12, ea12, o_a12, l_a12⟩ := shl 17 rfl hI o_a11
      refine ⟨a12, ea12, ?_⟩
      refine ⟨o_a12, ?_⟩
      have i14 : vp_in v2 (hN _ a12) := (vin l_a12 (m := 12) (by decide) (q1 p_x1 c4 c5))
      obtain ⟨a13, ea13, o_a13⟩ := ae hI o_a12 (by decide) (by decide) i14
      replace o_a13 : ob _ a13 5 := o_a13
      refine ⟨i14, a13, ea13, ?_⟩
      obtain ⟨a15, ea15, o_a15, -⟩ := sh 1 rfl hI o_v0
      refine ⟨a15, ea15, ?_⟩
      refine ⟨o_a15, ?_⟩
      obtain ⟨a16, ea16, o_a16, l_a16⟩ := shl 15 rfl hI o_a15
      refine ⟨a16, ea16, ?_⟩
      refine ⟨o_a16, ?_⟩
      have i18 : vp_in v4 (hN _ a16) := (vin l_a16 (m := 6) (by decide) (q2 p_x1 c4 c5))
      obtain ⟨a17, ea17, o_a17⟩ := ae hI o_a16 (by decide) (by decide) i18
      replace o_a17 : ob _ a17 3 := o_a17
      refine ⟨i18, a17, ea17, ?_⟩
      refine ⟨o_a6, ?_⟩
      refine m_X1_wetOf hI o_a6 o_a9 o_a13 o_a17 (fun x19 S20 hI g21 => ?_)
      have l_a12 := (gr_len g21 o_a12).trans l_a12
      have l_a16 := (gr_len g21 o_a16).trans l_a16
      have l_a8 := (gr_len g21 o_a8).trans l_a8
      have o_a11 := gr_ob g21 o_a11
      have o_a12 := gr_ob g21 o_a12
      have o_a13 := gr_ob g21 o_a13
      have o_a15 := gr_ob g21 o_a15
      have o_a16 := gr_ob g21 o_a16
      have o_a17 := gr_ob g21 o_a17
      have o_a6 := gr_ob g21 o_a6
      have o_a7 := gr_ob g21 o_a7
      have o_a8 := gr_ob g21 o_a8
      have o_a9 := gr_ob g21 o_a9
      have o_v0 := gr_ob g21 o_v0
      have g0 := gr_tr g0 g21
      intro _
      refine m_X9_fraction hI (fun x22 S23 hI2 g24 p_x22 => ?_)
      subst p_x22
      intro _
      exact hq _ _ hI g0
    · exact hq _ _ hI g0
  · intro _ _
    refine ⟨fun c25 => ?_, fun c25 => ?_⟩
    · obtain ⟨a26, ea26, o_a26, -⟩ := sh 3 rfl hI o_v0
      refine ⟨a26, ea26, ?_⟩
      obtain ⟨a27, ea27, o_a27, -⟩ := sh 1 rfl hI o_v0
      refine ⟨a27, ea27, ?_⟩
      refine ⟨o_a27, ?_⟩
      obtain ⟨a28, ea28, o_a28, l_a28⟩ := shl 18 rfl hI o_a27
      refine ⟨a28, ea28, ?_⟩
      refine ⟨o_a28, ?_⟩
      have i30 : vp_in v1 (hN _ a28) := (vin l_a28 (m := 4) (by decide) (q3 p_x1 c4 c25))
      obtain ⟨a29, ea29, o_a29⟩ := ae hI o_a28 (by decide) (by decide) i30
      replace o_a29 : ob _ a29 6 := o_a29
      refine ⟨i30, a29, ea29, ?_⟩
      obtain ⟨a31, ea31, o_a31, -⟩ := sh 1 rfl hI o_v0
      refine ⟨a31, ea31, ?_⟩
      refine ⟨o_a31, ?_⟩
      obtain ⟨a32, ea32, o_a32, l_a32⟩ := shl 17 rfl hI o_a31
      refine ⟨a32, ea32, ?_⟩
      refine ⟨o_a32, ?_⟩
      have i34 : vp_in v2 (hN _ a32) := (vin l_a32 (m := 12) (by decide) (q4 p_x1 c4 c25))
      obtain ⟨a33, ea33, o_a33⟩ := ae hI o_a32 (by decide) (by decide) i34
      replace o_a33 : ob _ a33 5 := o_a33
      refine ⟨i34, a33, ea33, ?_⟩
      obtain ⟨a35, ea35, o_a35, -⟩ := sh 1 rfl hI o_v0
      refine ⟨a35, ea35, ?_⟩
      refine ⟨o_a35, ?_⟩
      obtain ⟨a36, ea36, o_a36, l_a36⟩ := shl 15 rfl hI o_a35
      refine ⟨a36, ea36, ?_⟩
      refine ⟨o_a36, ?_⟩
      have i38 : vp_in v4 (hN _ a36) := (vin l_a36 (m := 6) (by decide) (q5 p_x1 c4 c25))
      obtain ⟨a37, ea37, o_a37⟩ := ae hI o_a36 (by decide) (by decide) i38
      replace o_a37 : ob _ a37 3 := o_a37
      refine ⟨i38, a37, ea37, ?_⟩
      refine ⟨o_a26, ?_⟩
      refine m_X1_wetOf hI o_a26 o_a29 o_a33 o_a37 (fun x39 S40 hI g41 => ?_)
      have l_a28 := (gr_len g41 o_a28).trans l_a28
      have l_a32 := (gr_len g41 o_a32).trans l_a32
      have l_a36 := (gr_len g41 o_a36).trans l_a36
      have o_a26 := gr_ob g41 o_a26
      have o_a27 := gr_ob g41 o_a27
      have o_a28 := gr_ob g41 o_a28
      have o_a29 := gr_ob g41 o_a29
      have o_a31 := gr_ob g41 o_a31
      have o_a32 := gr_ob g41 o_a32
      have o_a33 := gr_ob g41 o_a33
      have o_a35 := gr_ob g41 o_a35
      have o_a36 := gr_ob g41 o_a36
      have o_a37 := gr_ob g41 o_a37
      have o_v0 := gr_ob g41 o_v0
      have g0 := gr_tr g0 g41
      intro _
      refine m_X9_fraction hI (fun x42 S43 hI2 g44 p_x42 => ?_)
      subst p_x42
      intro _
      exact hq _ _ hI g0
    · exact hq _ _ hI g0
