set_option maxHeartbeats 4000000 in
set_option maxRecDepth 20000 in
theorem m_X9_driest {v0 : Nat} {v1 : Int32} {v2 : Int32} {v3 : Int32} {Q : Int32 → HS → Prop} {S : HS} (hI : IV S) (o_v0 : ob S v0 9)     (hq : ∀ (r : Int32) (T : HS), IV T → Gr S T → Q r T) : P_X9_driest v0 v1 v2 v3 Q S := by
  have g0 := gr_rf S
  refine u_X9_driest ?_
  refine u_X9_driest_0 ?_
  refine ⟨o_v0, ?_⟩
  obtain ⟨a1, ea1, o_a1, -⟩ := sh 1 rfl hI o_v0
  refine ⟨a1, ea1, ?_⟩
  refine ⟨o_a1, ?_⟩
  refine m_X8_hasWalker hI o_a1 (fun x2 S3 hI2 g4 b_x2 p_x2 => ?_)
  obtain ⟨z_S3, p_x2⟩ := p_x2
  subst z_S3
  intro _ _
  have bb_x2 : x2 = 0 ∨ x2 = 1 := b_x2
  refine ⟨fun c5 => ?_, fun c5 => ?_⟩
  · refine u_X9_driest_29 ?_
    refine ⟨o_v0, ?_⟩
    refine u_X9_refuse ?_
    refine u_X9_refuse_0 ?_
    refine ⟨o_v0, ?_⟩
    have hI := iv_sI (j := 9) (v := (1 : Int32)) hI o_v0 (by decide) (nu_free (by decide))
    intro _
    exact hq _ _ hI g0
  · obtain ⟨a6, ea6, o_a6, -⟩ := sh 1 rfl hI o_v0
    refine ⟨a6, ea6, ?_⟩
    refine ⟨o_a6, ?_⟩
    refine m_X8_hasRoad hI o_a6 (fun x7 S8 hI2 g9 b_x7 p_x7 => ?_)
    obtain ⟨z_S8, p_x7⟩ := p_x7
    subst z_S8
    intro _ _
    have bb_x7 : x7 = 0 ∨ x7 = 1 := b_x7
    refine ⟨fun c10 => ?_, fun c10 => ?_⟩
    · refine u_X9_driest_29 ?_
      refine ⟨o_v0, ?_⟩
      refine u_X9_refuse ?_
      refine u_X9_refuse_0 ?_
      refine ⟨o_v0, ?_⟩
      have hI := iv_sI (j := 9) (v := (1 : Int32)) hI o_v0 (by decide) (nu_free (by decide))
      intro _
      exact hq _ _ hI g0
    · refine m_X9_isWay hI (fun x11 S12 hI2 g13 b_x11 p_x11 => ?_)
      obtain ⟨z_S12, p_x11⟩ := p_x11
      subst z_S12
      intro _ _
      have bb_x11 : x11 = 0 ∨ x11 = 1 := b_x11
      refine ⟨fun c14 => ?_, fun c14 => ?_⟩
      · obtain ⟨a15, ea15, o_a15, -⟩ := sh 1 rfl hI o_v0
        refine ⟨a15, ea15, ?_⟩
        refine ⟨o_a15, ?_⟩
        intro x16 ex16
        have r_x16 : (0 : Int32) ≤ x16 ∧ x16 ≤ (6 : Int32) := by rw [ex16]; exact nu 11 rfl hI o_a15
        refine ⟨fun c17 => ?_, fun c17 => ?_⟩
        · refine i_X9_driest_63 (fun (y0 : Nat) (y1 : Int32) (y2 : Int32) (y3 : Int32) (y4 : Int32) (y5 : Int64) (y7 : Int32) (Z : HS) => ((2147483647 : Int32).toInt - y7.toInt).toNat) (fun (y0 : Nat) (y1 : Int32) (y2 : Int32) (y3 : Int32) (y4 : Int32) (y5 : Int64) (y7 : Int32) (Z : HS) => (IV Z) ∧ (Gr S Z) ∧ (v0 = y0) ∧ (v1 = y1) ∧ (v2 = y2) ∧ (v3 = y3) ∧ (0 ≤ y7)) ?_ _ _ _ _ _ _ _ _ ⟨hI, (gr_rf _), rfl, rfl, rfl, rfl, (q43)⟩
          intro w20 w22 w24 w26 w28 w29 w30 S18 X31 ⟨hI, gL19, q21, q23, q25, q27, i1⟩ ih32
          subst q21
          subst q23
          subst q25
          subst q27
          have o_a1 := gr_ob gL19 o_a1
          have o_a15 := gr_ob gL19 o_a15
          have o_a6 := gr_ob gL19 o_a6
          have o_v0 := gr_ob gL19 o_v0
          have g0 := gr_tr g0 gL19
          refine u_X9_driest_63 ?_
          refine ⟨o_v0, ?_⟩
          obtain ⟨a33, ea33, o_a33, -⟩ := sh 1 rfl hI o_v0
          refine ⟨a33, ea33, ?_⟩
          refine ⟨o_a33, ?_⟩
          intro x34 ex34
          have r_x34 : (0 : Int32) ≤ x34 ∧ x34 ≤ (6 : Int32) := by rw [ex34]; exact nu 11 rfl hI o_a33
          refine ⟨fun c35 => ?_, fun c35 => ?_⟩
          · refine u_X9_grant ?_
            refine u_X9_grant_0 ?_
            refine ⟨o_v0, ?_⟩
            have hI := iv_sI (j := 9) (v := (0 : Int32)) hI o_v0 (by decide) (nu_free (by decide))
            intro _
            exact hq _ _ hI g0
          · obtain ⟨a36, ea36, o_a36, -⟩ := sh 1 rfl hI o_v0
            refine ⟨a36, ea36, ?_⟩
            refine ⟨o_a36, ?_⟩
            obtain ⟨a37, ea37, o_a37, l_a37⟩ := shl 15 rfl hI o_a36
            refine ⟨a37, ea37, ?_⟩
            refine ⟨o_a37, ?_⟩
            have i39 : vp_in w30 (hN _ a37) := (vin l_a37 (m := 6) (by decide) (q425 i1 r_x34 c35))
            obtain ⟨a38, ea38, o_a38⟩ := ae hI o_a37 (by decide) (by decide) i39
            replace o_a38 : ob _ a38 3 := o_a38
            refine ⟨i39, a38, ea38, ?_⟩
            obtain ⟨a40, ea40, o_a40, -⟩ := sh 3 rfl hI o_v0
            refine ⟨a40, ea40, ?_⟩
            obtain ⟨a41, ea41, o_a41, -⟩ := sh 1 rfl hI o_v0
            refine ⟨a41, ea41, ?_⟩
            refine ⟨o_a41, ?_⟩
            obtain ⟨a42, ea42, o_a42, l_a42⟩ := shl 18 rfl hI o_a41
            refine ⟨a42, ea42, ?_⟩
            refine ⟨o_a42, ?_⟩
            have i44 : vp_in v1 (hN _ a42) := (vin l_a42 (m := 4) (by decide) (q230 p_x2 bb_x2 c5))
            obtain ⟨a43, ea43, o_a43⟩ := ae hI o_a42 (by decide) (by decide) i44
            replace o_a43 : ob _ a43 6 := o_a43
            refine ⟨i44, a43, ea43, ?_⟩
            obtain ⟨a45, ea45, o_a45, -⟩ := sh 1 rfl hI o_v0
            refine ⟨a45, ea45, ?_⟩
            refine ⟨o_a45, ?_⟩
            obtain ⟨a46, ea46, o_a46, l_a46⟩ := shl 17 rfl hI o_a45
            refine ⟨a46, ea46, ?_⟩
            refine ⟨o_a46, ?_⟩
            have i48 : vp_in v2 (hN _ a46) := (vin l_a46 (m := 12) (by decide) (q275 p_x7 bb_x7 c10))
            obtain ⟨a47, ea47, o_a47⟩ := ae hI o_a46 (by decide) (by decide) i48
            replace o_a47 : ob _ a47 5 := o_a47
            refine ⟨i48, a47, ea47, ?_⟩
            refine ⟨o_a40, ?_⟩
            refine m_X1_leastWet hI o_a40 o_a43 o_a47 o_a38 (fun x49 S50 hI g51 => ?_)
            have l_a37 := (gr_len g51 o_a37).trans l_a37
            have l_a42 := (gr_len g51 o_a42).trans l_a42
            have l_a46 := (gr_len g51 o_a46).trans l_a46
            have o_a1 := gr_ob g51 o_a1
            have o_a15 := gr_ob g51 o_a15
            have o_a33 := gr_ob g51 o_a33
            have o_a36 := gr_ob g51 o_a36
            have o_a37 := gr_ob g51 o_a37
            have o_a38 := gr_ob g51 o_a38
            have o_a40 := gr_ob g51 o_a40
            have o_a41 := gr_ob g51 o_a41
            have o_a42 := gr_ob g51 o_a42
            have o_a43 := gr_ob g51 o_a43
            have o_a45 := gr_ob g51 o_a45
            have o_a46 := gr_ob g51 o_a46
            have o_a47 := gr_ob g51 o_a47
            have o_a6 := gr_ob g51 o_a6
            have o_v0 := gr_ob g51 o_v0
            have g0 := gr_tr g0 g51
            have gL19 := gr_tr gL19 g51
            intro _
            refine ⟨o_a38, ?_⟩
            intro x52 ex52
            intro x53 ex53
            refine ⟨fun c54 => ?_, fun c54 => ?_⟩
            · refine u_X9_driest_140 ?_
              intro x55 ex55
              exact ih32 _ _ _ _ _ _ _ _ ⟨hI, gL19, rfl, rfl, rfl, rfl, (q426 i1 r_x34 c35 ex55)⟩ (mu_up (q427 i1 r_x34 c35 ex55) (q428 i1 r_x34 c35 ex55))
            · refine u_X9_driest_140 ?_
              intro x56 ex56
              exact ih32 _ _ _ _ _ _ _ _ ⟨hI, gL19, rfl, rfl, rfl, rfl, (q426 i1 r_x34 c35 ex56)⟩ (mu_up (q427 i1 r_x34 c35 ex56) (q428 i1 r_x34 c35 ex56))
        · refine u_X9_refuse ?_
          refine u_X9_refuse_0 ?_
          refine ⟨o_v0, ?_⟩
          have hI := iv_sI (j := 9) (v := (6 : Int32)) hI o_v0 (by decide) (nu_free (by decide))
          intro _
          exact hq _ _ hI g0
      · refine u_X9_driest_29 ?_
        refine ⟨o_v0, ?_⟩
        refine u_X9_refuse ?_
        refine u_X9_refuse_0 ?_
        refine ⟨o_v0, ?_⟩
        have hI := iv_sI (j := 9) (v := (1 : Int32)) hI o_v0 (by decide) (nu_free (by decide))
        intro _
        exact hq _ _ hI g0
set_option maxHeartbeats 4000000 in
set_option maxRecDepth 20000 in
theorem m_X9_even {v0 : Nat} {v1 : Int32} {v2 : Int32} {v3 : Int32} {v4 : Int32} {Q : Int32 → HS → Prop} {S : HS} (hI : IV S) (o_v0 : ob S v0 9)     (hq : ∀ (r : Int32) (T : HS), IV T → Gr S T → Q r T) : P_X9_even v0 v1 v2 v3 v4 Q S := by
  have g0 := gr_rf S
  refine u_X9_even ?_
  refine u_X9_even_0 ?_
  refine ⟨o_v0, ?_⟩
  refine m_X9_tripTrouble hI o_v0 (fun x1 S2 hI2 g3 p_x1 => ?_)
  obtain ⟨z_S2, p_x1⟩ := p_x1
  subst z_S2
  intro _
  refine u_X9_refusedBy ?_
  refine u_X9_refusedBy_0 ?_
  refine ⟨o_v0, ?_⟩
  have hI := iv_sI (j := 9) (v := x1) hI o_v0 (by decide) (nu_free (by decide))
  refine ⟨fun c4 => ?_, fun c4 => ?_⟩
  · intro _ _
    refine ⟨fun c5 => ?_, fun c5 => ?_⟩
    · obtain ⟨a6, ea6, o_a6, -⟩ := sh 1 rfl hI o_v0
      refine ⟨a6, ea6, ?_⟩
      refine ⟨o_a6, ?_⟩
      obtain ⟨a7, ea7, o_a7, l_a7⟩ := shl 18 rfl hI o_a6
      refine ⟨a7, ea7, ?_⟩
      refine ⟨o_a7, ?_⟩
      have i9 : vp_in v1 (hN _ a7) := (vin l_a7 (m := 4) (by decide) (q0 p_x1 c4 c5))
      obtain ⟨a8, ea8, o_a8⟩ := ae hI o_a7 (by decide) (by decide) i9
      replace o_a8 : ob _ a8 6 := o_a8
      refine ⟨i9, a8, ea8, ?_⟩
      obtain ⟨a10, ea10, o_a10, -⟩ := sh 3 rfl hI o_v0
      refine ⟨a10, ea10, ?_⟩
      obtain ⟨a11, ea11, o_a11, -⟩ := sh 1 rfl hI o_v0
      refine ⟨a11, ea11, ?_⟩
      refine ⟨o_a11, ?_⟩
      obtain ⟨a12, ea12, o_a12, l_a12⟩ := shl 17 rfl hI o_a11
      refine ⟨a12, ea12, ?_⟩
      refine ⟨o_a12, ?_⟩
      have i14 : vp_in v2 (hN _ a12) := (vin l_a12 (m := 12) (by decide) (q1 p_x1 c4 c5))
      obtain ⟨a13, ea13, o_a13⟩ := ae hI o_a12 (by decide) (by decide) i14
      replace o_a13 : ob _ a13 5 := o_a13
      refine ⟨i14, a13, ea13, ?_⟩
      obtain ⟨a15, ea15, o_a15, -⟩ := sh 1 rfl hI o_v0
      refine ⟨a15, ea15, ?_⟩
      refine ⟨o_a15, ?_⟩
      obtain ⟨a16, ea16, o_a16, l_a16⟩ := shl 15 rfl hI o_a15
      refine ⟨a16, ea16, ?_⟩
      refine ⟨o_a16, ?_⟩
      have i18 : vp_in v4 (hN _ a16) := (vin l_a16 (m := 6) (by decide) (q2 p_x1 c4 c5))
      obtain ⟨a17, ea17, o_a17⟩ := ae hI o_a16 (by decide) (by decide) i18
      replace o_a17 : ob _ a17 3 := o_a17
      refine ⟨i18, a17, ea17, ?_⟩
      refine ⟨o_a10, ?_⟩
      refine m_X1_worstSpeed hI o_a10 o_a8 o_a13 o_a17 (fun x19 S20 hI g21 => ?_)
      have l_a12 := (gr_len g21 o_a12).trans l_a12
      have l_a16 := (gr_len g21 o_a16).trans l_a16
      have l_a7 := (gr_len g21 o_a7).trans l_a7
      have o_a10 := gr_ob g21 o_a10
      have o_a11 := gr_ob g21 o_a11
      have o_a12 := gr_ob g21 o_a12
      have o_a13 := gr_ob g21 o_a13
      have o_a15 := gr_ob g21 o_a15
      have o_a16 := gr_ob g21 o_a16
      have o_a17 := gr_ob g21 o_a17
      have o_a6 := gr_ob g21 o_a6
      have o_a7 := gr_ob g21 o_a7
      have o_a8 := gr_ob g21 o_a8
      have o_v0 := gr_ob g21 o_v0
      have g0 := gr_tr g0 g21
      intro _
      obtain ⟨a22, ea22, o_a22, -⟩ := sh 3 rfl hI o_v0
      refine ⟨a22, ea22, ?_⟩
      obtain ⟨a23, ea23, o_a23, -⟩ := sh 1 rfl hI o_v0
      refine ⟨a23, ea23, ?_⟩
      refine ⟨o_a23, ?_⟩
      obtain ⟨a24, ea24, o_a24, l_a24⟩ := shl 17 rfl hI o_a23
      refine ⟨a24, ea24, ?_⟩
      refine ⟨o_a24, ?_⟩
      have i26 : vp_in v2 (hN _ a24) := (vin l_a24 (m := 12) (by decide) (q1 p_x1 c4 c5))
      obtain ⟨a25, ea25, o_a25⟩ := ae hI o_a24 (by decide) (by decide) i26
      replace o_a25 : ob _ a25 5 := o_a25
      refine ⟨i26, a25, ea25, ?_⟩
      obtain ⟨a27, ea27, o_a27, -⟩ := sh 1 rfl hI o_v0
      refine ⟨a27, ea27, ?_⟩
      refine ⟨o_a27, ?_⟩
      obtain ⟨a28, ea28, o_a28, l_a28⟩ := shl 15 rfl hI o_a27
      refine ⟨a28, ea28, ?_⟩
      refine ⟨o_a28, ?_⟩
      have i30 : vp_in v4 (hN _ a28) := (vin l_a28 (m := 6) (by decide) (q2 p_x1 c4 c5))
      obtain ⟨a29, ea29, o_a29⟩ := ae hI o_a28 (by decide) (by decide) i30
      replace o_a29 : ob _ a29 3 := o_a29
      refine ⟨i30, a29, ea29, ?_⟩
      refine ⟨o_a22, ?_⟩
      refine m_X1_leastWet hI o_a22 o_a8 o_a25 o_a29 (fun x31 S32 hI g33 => ?_)
      have l_a12 := (gr_len g33 o_a12).trans l_a12
      have l_a16 := (gr_len g33 o_a16).trans l_a16
      have l_a24 := (gr_len g33 o_a24).trans l_a24
      have l_a28 := (gr_len g33 o_a28).trans l_a28
      have l_a7 := (gr_len g33 o_a7).trans l_a7
      have o_a10 := gr_ob g33 o_a10
      have o_a11 := gr_ob g33 o_a11
      have o_a12 := gr_ob g33 o_a12
      have o_a13 := gr_ob g33 o_a13
      have o_a15 := gr_ob g33 o_a15
      have o_a16 := gr_ob g33 o_a16
      have o_a17 := gr_ob g33 o_a17
      have o_a22 := gr_ob g33 o_a22
      have o_a23 := gr_ob g33 o_a23
      have o_a24 := gr_ob g33 o_a24
      have o_a25 := gr_ob g33 o_a25
      have o_a27 := gr_ob g33 o_a27
      have o_a28 := gr_ob g33 o_a28
      have o_a29 := gr_ob g33 o_a29
      have o_a6 := gr_ob g33 o_a6
      have o_a7 := gr_ob g33 o_a7
      have o_a8 := gr_ob g33 o_a8
      have o_v0 := gr_ob g33 o_v0
      have g0 := gr_tr g0 g33
      intro _
      obtain ⟨a34, ea34, o_a34, -⟩ := sh 3 rfl hI o_v0
      refine ⟨a34, ea34, ?_⟩
      obtain ⟨a35, ea35, o_a35, -⟩ := sh 1 rfl hI o_v0
      refine ⟨a35, ea35, ?_⟩
      refine ⟨o_a35, ?_⟩
      obtain ⟨a36, ea36, o_a36, l_a36⟩ := shl 17 rfl hI o_a35
      refine ⟨a36, ea36, ?_⟩
      refine ⟨o_a36, ?_⟩
      have i38 : vp_in v2 (hN _ a36) := (vin l_a36 (m := 12) (by decide) (q1 p_x1 c4 c5))
      obtain ⟨a37, ea37, o_a37⟩ := ae hI o_a36 (by decide) (by decide) i38
      replace o_a37 : ob _ a37 5 := o_a37
      refine ⟨i38, a37, ea37, ?_⟩
      obtain ⟨a39, ea39, o_a39, -⟩ := sh 1 rfl hI o_v0
      refine ⟨a39, ea39, ?_⟩
      refine ⟨o_a39, ?_⟩
      obtain ⟨a40, ea40, o_a40, l_a40⟩ := shl 15 rfl hI o_a39
      refine ⟨a40, ea40, ?_⟩
      refine ⟨o_a40, ?_⟩
      have i42 : vp_in v4 (hN _ a40) := (vin l_a40 (m := 6) (by decide) (q2 p_x1 c4 c5))
      obtain ⟨a41, ea41, o_a41⟩ := ae hI o_a40 (by decide) (by decide) i42
      replace o_a41 : ob _ a41 3 := o_a41
      refine ⟨i42, a41, ea41, ?_⟩
      refine ⟨o_a34, ?_⟩
      refine m_X1_wetOf hI o_a34 o_a8 o_a37 o_a41 (fun x43 S44 hI g45 => ?_)
      have l_a12 := (gr_len g45 o_a12).trans l_a12
      have l_a16 := (gr_len g45 o_a16).trans l_a16
      have l_a24 := (gr_len g45 o_a24).trans l_a24
      have l_a28 := (gr_len g45 o_a28).trans l_a28
      have l_a36 := (gr_len g45 o_a36).trans l_a36
      have l_a40 := (gr_len g45 o_a40).trans l_a40
      have l_a7 := (gr_len g45 o_a7).trans l_a7
      have o_a10 := gr_ob g45 o_a10
      have o_a11 := gr_ob g45 o_a11
      have o_a12 := gr_ob g45 o_a12
      have o_a13 := gr_ob g45 o_a13
      have o_a15 := gr_ob g45 o_a15
      have o_a16 := gr_ob g45 o_a16
      have o_a17 := gr_ob g45 o_a17
      have o_a22 := gr_ob g45 o_a22
      have o_a23 := gr_ob g45 o_a23
      have o_a24 := gr_ob g45 o_a24
      have o_a25 := gr_ob g45 o_a25
      have o_a27 := gr_ob g45 o_a27
      have o_a28 := gr_ob g45 o_a28
      have o_a29 := gr_ob g45 o_a29
      have o_a34 := gr_ob g45 o_a34
      have o_a35 := gr_ob g45 o_a35
      have o_a36 := gr_ob g45 o_a36
      have o_a37 := gr_ob g45 o_a37
      have o_a39 := gr_ob g45 o_a39
      have o_a40 := gr_ob g45 o_a40
      have o_a41 := gr_ob g45 o_a41
      have o_a6 := gr_ob g45 o_a6
      have o_a7 := gr_ob g45 o_a7
      have o_a8 := gr_ob g45 o_a8
      have o_v0 := gr_ob g45 o_v0
      have g0 := gr_tr g0 g45
      intro _
      refine ⟨fun c46 => ?_, fun c46 => ?_⟩
      · exact hq _ _ hI g0
      · exact hq _ _ hI g0
    · exact hq _ _ hI g0
  · intro _ _
    refine ⟨fun c47 => ?_, fun c47 => ?_⟩
    · obtain ⟨a48, ea48, o_a48, -⟩ := sh 1 rfl hI o_v0
      refine ⟨a48, ea48, ?_⟩
      refine ⟨o_a48, ?_⟩
      obtain ⟨a49, ea49, o_a49, l_a49⟩ := shl 18 rfl hI o_a48
      refine ⟨a49, ea49, ?_⟩
      refine ⟨o_a49, ?_⟩
      have i51 : vp_in v1 (hN _ a49) := (vin l_a49 (m := 4) (by decide) (q3 p_x1 c4 c47))
      obtain ⟨a50, ea50, o_a50⟩ := ae hI o_a49 (by decide) (by decide) i51
      replace o_a50 : ob _ a50 6 := o_a50
      refine ⟨i51, a50, ea50, ?_⟩
      obtain ⟨a52, ea52, o_a52, -⟩ := sh 3 rfl hI o_v0
      refine ⟨a52, ea52, ?_⟩
      obtain ⟨a53, ea53, o_a53, -⟩ := sh 1 rfl hI o_v0
      refine ⟨a53, ea53, ?_⟩
      refine ⟨o_a53, ?_⟩
      obtain ⟨a54, ea54, o_a54, l_a54⟩ := shl 17 rfl hI o_a53
      refine ⟨a54, ea54, ?_⟩
      refine ⟨o_a54, ?_⟩
      have i56 : vp_in v2 (hN _ a54) := (vin l_a54 (m := 12) (by decide) (q4 p_x1 c4 c47))
      obtain ⟨a55, ea55, o_a55⟩ := ae hI o_a54 (by decide) (by decide) i56
      replace o_a55 : ob _ a55 5 := o_a55
      refine ⟨i56, a55, ea55, ?_⟩
      obtain ⟨a57, ea57, o_a57, -⟩ := sh 1 rfl hI o_v0
      refine ⟨a57, ea57, ?_⟩
      refine ⟨o_a57, ?_⟩
      obtain ⟨a58, ea58, o_a58, l_a58⟩ := shl 15 rfl hI o_a57
      refine ⟨a58, ea58, ?_⟩
      refine ⟨o_a58, ?_⟩
      have i60 : vp_in v4 (hN _ a58) := (vin l_a58 (m := 6) (by decide) (q5 p_x1 c4 c47))
      obtain ⟨a59, ea59, o_a59⟩ := ae hI o_a58 (by decide) (by decide) i60
      replace o_a59 : ob _ a59 3 := o_a59
      refine ⟨i60, a59, ea59, ?_⟩
      refine ⟨o_a52, ?_⟩
      refine m_X1_worstSpeed hI o_a52 o_a50 o_a55 o_a59 (fun x61 S62 hI g63 => ?_)
      have l_a49 := (gr_len g63 o_a49).trans l_a49
      have l_a54 := (gr_len g63 o_a54).trans l_a54
      have l_a58 := (gr_len g63 o_a58).trans l_a58
      have o_a48 := gr_ob g63 o_a48
      have o_a49 := gr_ob g63 o_a49
      have o_a50 := gr_ob g63 o_a50
      have o_a52 := gr_ob g63 o_a52
      have o_a53 := gr_ob g63 o_a53
      have o_a54 := gr_ob g63 o_a54
      have o_a55 := gr_ob g63 o_a55
      have o_a57 := gr_ob g63 o_a57
      have o_a58 := gr_ob g63 o_a58
      have o_a59 := gr_ob g63 o_a59
      have o_v0 := gr_ob g63 o_v0
      have g0 := gr_tr g0 g63
      intro _
      obtain ⟨a64, ea64, o_a64, -⟩ := sh 3 rfl hI o_v0
      refine ⟨a64, ea64, ?_⟩
      obtain ⟨a65, ea65, o_a65, -⟩ := sh 1 rfl hI o_v0
      refine ⟨a65, ea65, ?_⟩
      refine ⟨o_a65, ?_⟩
      obtain ⟨a66, ea66, o_a66, l_a66⟩ := shl 17 rfl hI o_a65
      refine ⟨a66, ea66, ?_⟩
      refine ⟨o_a66, ?_⟩
      have i68 : vp_in v2 (hN _ a66) := (vin l_a66 (m := 12) (by decide) (q4 p_x1 c4 c47))
      obtain ⟨a67, ea67, o_a67⟩ := ae hI o_a66 (by decide) (by decide) i68
      replace o_a67 : ob _ a67 5 := o_a67
      refine ⟨i68, a67, ea67, ?_⟩
      obtain ⟨a69, ea69, o_a69, -⟩ := sh 1 rfl hI o_v0
      refine ⟨a69, ea69, ?_⟩
      refine ⟨o_a69, ?_⟩
      obtain ⟨a70, ea70, o_a70, l_a70⟩ := shl 15 rfl hI o_a69
      refine ⟨a70, ea70, ?_⟩
      refine ⟨o_a70, ?_⟩
      have i72 : vp_in v4 (hN _ a70) := (vin l_a70 (m := 6) (by decide) (q5 p_x1 c4 c47))
      obtain ⟨a71, ea71, o_a71⟩ := ae hI o_a70 (by decide) (by decide) i72
      replace o_a71 : ob _ a71 3 := o_a71
      refine ⟨i72, a71, ea71, ?_⟩
      refine ⟨o_a64, ?_⟩
      refine m_X1_leastWet hI o_a64 o_a50 o_a67 o_a71 (fun x73 S74 hI g75 => ?_)
      have l_a49 := (gr_len g75 o_a49).trans l_a49
      have l_a54 := (gr_len g75 o_a54).trans l_a54
      have l_a58 := (gr_len g75 o_a58).trans l_a58
      have l_a66 := (gr_len g75 o_a66).trans l_a66
      have l_a70 := (gr_len g75 o_a70).trans l_a70
      have o_a48 := gr_ob g75 o_a48
      have o_a49 := gr_ob g75 o_a49
      have o_a50 := gr_ob g75 o_a50
      have o_a52 := gr_ob g75 o_a52
      have o_a53 := gr_ob g75 o_a53
      have o_a54 := gr_ob g75 o_a54
      have o_a55 := gr_ob g75 o_a55
      have o_a57 := gr_ob g75 o_a57
      have o_a58 := gr_ob g75 o_a58
      have o_a59 := gr_ob g75 o_a59
      have o_a64 := gr_ob g75 o_a64
      have o_a65 := gr_ob g75 o_a65
      have o_a66 := gr_ob g75 o_a66
      have o_a67 := gr_ob g75 o_a67
      have o_a69 := gr_ob g75 o_a69
      have o_a70 := gr_ob g75 o_a70
      have o_a71 := gr_ob g75 o_a71
      have o_v0 := gr_ob g75 o_v0
      have g0 := gr_tr g0 g75
      intro _
      obtain ⟨a76, ea76, o_a76, -⟩ := sh 3 rfl hI o_v0
      refine ⟨a76, ea76, ?_⟩
      obtain ⟨a77, ea77, o_a77, -⟩ := sh 1 rfl hI o_v0
      refine ⟨a77, ea77, ?_⟩
      refine ⟨o_a77, ?_⟩
      obtain ⟨a78, ea78, o_a78, l_a78⟩ := shl 17 rfl hI o_a77
      refine ⟨a78, ea78, ?_⟩
      refine ⟨o_a78, ?_⟩
      have i80 : vp_in v2 (hN _ a78) := (vin l_a78 (m := 12) (by decide) (q4 p_x1 c4 c47))
      obtain ⟨a79, ea79, o_a79⟩ := ae hI o_a78 (by decide) (by decide) i80
      replace o_a79 : ob _ a79 5 := o_a79
      refine ⟨i80, a79, ea79, ?_⟩
      obtain ⟨a81, ea81, o_a81, -⟩ := sh 1 rfl hI o_v0
      refine ⟨a81, ea81, ?_⟩
      refine ⟨o_a81, ?_⟩
      obtain ⟨a82, ea82, o_a82, l_a82⟩ := shl 15 rfl hI o_a81
      refine ⟨a82, ea82, ?_⟩
      refine ⟨o_a82, ?_⟩
      have i84 : vp_in v4 (hN _ a82) := (vin l_a82 (m := 6) (by decide) (q5 p_x1 c4 c47))
      obtain ⟨a83, ea83, o_a83⟩ := ae hI o_a82 (by decide) (by decide) i84
      replace o_a83 : ob _ a83 3 := o_a83
      refine ⟨i84, a83, ea83, ?_⟩
      refine ⟨o_a76, ?_⟩
      refine m_X1_wetOf hI o_a76 o_a50 o_a79 o_a83 (fun x85 S86 hI g87 => ?_)
      have l_a49 := (gr_len g87 o_a49).trans l_a49
      have l_a54 := (gr_len g87 o_a54).trans l_a54
      have l_a58 := (gr_len g87 o_a58).trans l_a58
      have l_a66 := (gr_len g87 o_a66).trans l_a66
      have l_a70 := (gr_len g87 o_a70).trans l_a70
      have l_a78 := (gr_len g87 o_a78).trans l_a78
      have l_a82 := (gr_len g87 o_a82).trans l_a82
      have o_a48 := gr_ob g87 o_a48
      have o_a49 := gr_ob g87 o_a49
      have o_a50 := gr_ob g87 o_a50
      have o_a52 := gr_ob g87 o_a52
      have o_a53 := gr_ob g87 o_a53
      have o_a54 := gr_ob g87 o_a54
      have o_a55 := gr_ob g87 o_a55
      have o_a57 := gr_ob g87 o_a57
      have o_a58 := gr_ob g87 o_a58
      have o_a59 := gr_ob g87 o_a59
      have o_a64 := gr_ob g87 o_a64
      have o_a65 := gr_ob g87 o_a65
      have o_a66 := gr_ob g87 o_a66
      have o_a67 := gr_ob g87 o_a67
      have o_a69 := gr_ob g87 o_a69
      have o_a70 := gr_ob g87 o_a70
      have o_a71 := gr_ob g87 o_a71
      have o_a76 := gr_ob g87 o_a76
      have o_a77 := gr_ob g87 o_a77
      have o_a78 := gr_ob g87 o_a78
      have o_a79 := gr_ob g87 o_a79
      have o_a81 := gr_ob g87 o_a81
      have o_a82 := gr_ob g87 o_a82
      have o_a83 := gr_ob g87 o_a83
      have o_v0 := gr_ob g87 o_v0
      have g0 := gr_tr g0 g87
      intro _
      refine ⟨fun c88 => ?_, fun c88 => ?_⟩
      · exact hq _ _ hI g0
      · exact hq _ _ hI g0
    · exact hq _ _ hI g0
set_option maxHeartbeats 4000000 in
set_option maxRecDepth 20000 in
theorem m_X9_fraction {v0 : Int64} {v2 : Int64} {v4 : Int32} {Q : Int64 → HS → Prop} {S : HS} (hI : IV S)      (hq : ∀ (r : Int64) (T : HS), IV T → Gr S T → (S = T) → Q r T) : P_X9_fraction v0 v2 v4 Q S := by
  have g0 := gr_rf S
  refine u_X9_fraction ?_
  refine u_X9_fraction_0 ?_
  refine m_X9_commonDivisor hI (fun x1 S2 hI2 g3 p_x1 => ?_)
  subst p_x1
  intro _
  refine ⟨fun c4 => ?_, fun c4 => ?_⟩
  · refine ⟨fun c5 => ?_, fun c5 => ?_⟩
    · refine ⟨(q132 c4), ?_⟩
      intro x6 ex6
      exact hq _ _ hI g0 rfl
    · refine ⟨(q132 c4), ?_⟩
      intro x7 ex7
      exact hq _ _ hI g0 rfl
  · refine ⟨fun c8 => ?_, fun c8 => ?_⟩
    · exact hq _ _ hI g0 rfl
    · exact hq _ _ hI g0 rfl
set_option maxHeartbeats 4000000 in
set_option maxRecDepth 20000 in
theorem m_X9_isFace {v0 : Int32} {Q : Int32 → HS → Prop} {S : HS} (hI : IV S)      (hq : ∀ (r : Int32) (T : HS), IV T → Gr S T → bl r → (S = T) ∧ (r = 1 → 0 ≤ v0 ∧ v0 < 5) → Q r T) : P_X9_isFace v0 Q S := by
  have g0 := gr_rf S
  refine u_X9_isFace ?_
  refine u_X9_isFace_0 ?_
  refine ⟨fun c1 => ?_, fun c1 => ?_⟩
  · exact hq _ _ hI g0 (Or.inl rfl) ⟨rfl, (q406 c1)⟩
  · refine ⟨fun c2 => ?_, fun c2 => ?_⟩
    · exact hq _ _ hI g0 (Or.inl rfl) ⟨rfl, (q407 c1 c2)⟩
    · exact hq _ _ hI g0 (Or.inr rfl) ⟨rfl, (q408 c1 c2)⟩
set_option maxHeartbeats 4000000 in
set_option maxRecDepth 20000 in
theorem m_X9_legTrouble {v0 : Nat} {v1 : Int32} {v2 : Int32} {v3 : Int32} {v4 : Int32} {v5 : Int32} {Q : Int32 → HS → Prop} {S : HS} (hI : IV S) (o_v0 : ob S v0 9)     (hq : ∀ (r : Int32) (T : HS), IV T → Gr S T → (S = T) ∧ (r = 0 → 0 ≤ v1 ∧ v1 < 4 ∧ 0 ≤ v2 ∧ v2 < 12 ∧ 0 ≤ v4 ∧ v4 < 6) → Q r T) : P_X9_legTrouble v0 v1 v2 v3 v4 v5 Q S := by
  have g0 := gr_rf S
  refine u_X9_legTrouble ?_
  refine u_X9_legTrouble_0 ?_
  refine ⟨o_v0, ?_⟩
  refine m_X9_tripTrouble hI o_v0 (fun x1 S2 hI2 g3 p_x1 => ?_)
  obtain ⟨z_S2, p_x1⟩ := p_x1
  subst z_S2
  intro _
  refine ⟨fun c4 => ?_, fun c4 => ?_⟩
  · obtain ⟨a5, ea5, o_a5, -⟩ := sh 1 rfl hI o_v0
    refine ⟨a5, ea5, ?_⟩
    refine ⟨o_a5, ?_⟩
    obtain ⟨a6, ea6, o_a6, l_a6⟩ := shl 18 rfl hI o_a5
    refine ⟨a6, ea6, ?_⟩
    refine ⟨o_a6, ?_⟩
    have i8 : vp_in v1 (hN _ a6) := (vin l_a6 (m := 4) (by decide) (q141 p_x1 c4))
    obtain ⟨a7, ea7, o_a7⟩ := ae hI o_a6 (by decide) (by decide) i8
    replace o_a7 : ob _ a7 6 := o_a7
    refine ⟨i8, a7, ea7, ?_⟩
    refine ⟨o_a7, ?_⟩
    refine m_X6_canGo hI o_a7 (fun x9 S10 hI2 g11 b_x9 p_x9 => ?_)
    subst p_x9
    intro _ _
    have bb_x9 : x9 = 0 ∨ x9 = 1 := b_x9
    refine ⟨fun c12 => ?_, fun c12 => ?_⟩
    · exact hq _ _ hI g0 ⟨rfl, (q142 p_x1 c4)⟩
    · exact hq _ _ hI g0 ⟨rfl, (q143 p_x1 c4)⟩
  · exact hq _ _ hI g0 ⟨rfl, (q144 p_x1 c4)⟩
set_option maxHeartbeats 4000000 in
set_option maxRecDepth 20000 in
theorem m_X9_face {v0 : Nat} {v1 : Int32} {v2 : Int32} {v3 : Int32} {v4 : Int32} {v5 : Int32} {v6 : Int32} {v7 : Int32} {Q : Int64 → HS → Prop} {S : HS} (hI : IV S) (o_v0 : ob S v0 9)     (hq : ∀ (r : Int64) (T : HS), IV T → Gr S T → Q r T) : P_X9_face v0 v1 v2 v3 v4 v5 v6 v7 Q S := by
  have g0 := gr_rf S
  refine u_X9_face ?_
  refine u_X9_face_0 ?_
  refine m_X9_isFace hI (fun x1 S2 hI2 g3 b_x1 p_x1 => ?_)
  obtain ⟨z_S2, p_x1⟩ := p_x1
  subst z_S2
  intro _ _
  have bb_x1 : x1 = 0 ∨ x1 = 1 := b_x1
  refine ⟨fun c4 => ?_, fun c4 => ?_⟩
  · refine u_X9_face_23 ?_
    refine ⟨o_v0, ?_⟩
    refine u_X9_refusedBy ?_
    refine u_X9_refusedBy_0 ?_
    refine ⟨o_v0, ?_⟩
    have hI := iv_sI (j := 9) (v := (1 : Int32)) hI o_v0 (by decide) (nu_free (by decide))
    refine ⟨fun c5 => ?_, fun c5 => ?_⟩
    · intro _ _
      refine ⟨fun c6 => ?_, fun c6 => ?_⟩
      · obtain ⟨a7, ea7, o_a7, -⟩ := sh 3 rfl hI o_v0
        refine ⟨a7, ea7, ?_⟩
        obtain ⟨a8, ea8, o_a8, -⟩ := sh 1 rfl hI o_v0
        refine ⟨a8, ea8, ?_⟩
        refine ⟨o_a8, ?_⟩
        obtain ⟨a9, ea9, o_a9, l_a9⟩ := shl 18 rfl hI o_a8
        refine ⟨a9, ea9, ?_⟩
        refine ⟨o_a9, ?_⟩
        have i11 : vp_in v1 (hN _ a9) := (vin l_a9 (m := 4) (by decide) (q415 c5 c6))
        obtain ⟨a10, ea10, o_a10⟩ := ae hI o_a9 (by decide) (by decide) i11
        replace o_a10 : ob _ a10 6 := o_a10
        refine ⟨i11, a10, ea10, ?_⟩
        obtain ⟨a12, ea12, o_a12, -⟩ := sh 1 rfl hI o_v0
        refine ⟨a12, ea12, ?_⟩
        refine ⟨o_a12, ?_⟩
        obtain ⟨a13, ea13, o_a13, l_a13⟩ := shl 17 rfl hI o_a12
        refine ⟨a13, ea13, ?_⟩
        refine ⟨o_a13, ?_⟩
        have i15 : vp_in v2 (hN _ a13) := (vin l_a13 (m := 12) (by decide) (q416 c5 c6))
        obtain ⟨a14, ea14, o_a14⟩ := ae hI o_a13 (by decide) (by decide) i15
        replace o_a14 : ob _ a14 5 := o_a14
        refine ⟨i15, a14, ea14, ?_⟩
        obtain ⟨a16, ea16, o_a16, -⟩ := sh 1 rfl hI o_v0
        refine ⟨a16, ea16, ?_⟩
        refine ⟨o_a16, ?_⟩
        obtain ⟨a17, ea17, o_a17, l_a17⟩ := shl 15 rfl hI o_a16
        refine ⟨a17, ea17, ?_⟩
        refine ⟨o_a17, ?_⟩
        have i19 : vp_in v4 (hN _ a17) := (vin l_a17 (m := 6) (by decide) (q417 c5 c6))
        obtain ⟨a18, ea18, o_a18⟩ := ae hI o_a17 (by decide) (by decide) i19
        replace o_a18 : ob _ a18 3 := o_a18
        refine ⟨i19, a18, ea18, ?_⟩
        refine ⟨o_a7, ?_⟩
        refine m_X1_wetOf hI o_a7 o_a10 o_a14 o_a18 (fun x20 S21 hI g22 => ?_)
        have l_a13 := (gr_len g22 o_a13).trans l_a13
        have l_a17 := (gr_len g22 o_a17).trans l_a17
        have l_a9 := (gr_len g22 o_a9).trans l_a9
        have o_a10 := gr_ob g22 o_a10
        have o_a12 := gr_ob g22 o_a12
        have o_a13 := gr_ob g22 o_a13
        have o_a14 := gr_ob g22 o_a14
        have o_a16 := gr_ob g22 o_a16
        have o_a17 := gr_ob g22 o_a17
        have o_a18 := gr_ob g22 o_a18
        have o_a7 := gr_ob g22 o_a7
        have o_a8 := gr_ob g22 o_a8
        have o_a9 := gr_ob g22 o_a9
        have o_v0 := gr_ob g22 o_v0
        have g0 := gr_tr g0 g22
        intro _
        obtain ⟨a23, ea23, o_a23, -⟩ := sh 3 rfl hI o_v0
        refine ⟨a23, ea23, ?_⟩
        refine ⟨o_a23, ?_⟩
        obtain ⟨a24, ea24, o_a24, l_a24⟩ := shl 9 rfl hI o_a23
        refine ⟨a24, ea24, ?_⟩
        refine ⟨o_a24, ?_⟩
        refine ⟨(vin l_a24 (m := 5) (by decide) (q418 p_x1 bb_x1 c4 c5 c6)), ?_⟩
        intro x25 ex25
        refine m_X9_fraction hI (fun x26 S27 hI2 g28 p_x26 => ?_)
        subst p_x26
        intro _
        exact hq _ _ hI g0
      · exact hq _ _ hI g0
    · intro _ _
      refine ⟨fun c29 => ?_, fun c29 => ?_⟩
      · obtain ⟨a30, ea30, o_a30, -⟩ := sh 3 rfl hI o_v0
        refine ⟨a30, ea30, ?_⟩
        obtain ⟨a31, ea31, o_a31, -⟩ := sh 1 rfl hI o_v0
        refine ⟨a31, ea31, ?_⟩
        refine ⟨o_a31, ?_⟩
        obtain ⟨a32, ea32, o_a32, l_a32⟩ := shl 18 rfl hI o_a31
        refine ⟨a32, ea32, ?_⟩
        refine ⟨o_a32, ?_⟩
        have i34 : vp_in v1 (hN _ a32) := (vin l_a32 (m := 4) (by decide) (q419 c5 c29))
        obtain ⟨a33, ea33, o_a33⟩ := ae hI o_a32 (by decide) (by decide) i34
        replace o_a33 : ob _ a33 6 := o_a33
        refine ⟨i34, a33, ea33, ?_⟩
        obtain ⟨a35, ea35, o_a35, -⟩ := sh 1 rfl hI o_v0
        refine ⟨a35, ea35, ?_⟩
        refine ⟨o_a35, ?_⟩
        obtain ⟨a36, ea36, o_a36, l_a36⟩ := shl 17 rfl hI o_a35
        refine ⟨a36, ea36, ?_⟩
        refine ⟨o_a36, ?_⟩
        have i38 : vp_in v2 (hN _ a36) := (vin l_a36 (m := 12) (by decide) (q420 c5 c29))
        obtain ⟨a37, ea37, o_a37⟩ := ae hI o_a36 (by decide) (by decide) i38
        replace o_a37 : ob _ a37 5 := o_a37
        refine ⟨i38, a37, ea37, ?_⟩
        obtain ⟨a39, ea39, o_a39, -⟩ := sh 1 rfl hI o_v0
        refine ⟨a39, ea39, ?_⟩
        refine ⟨o_a39, ?_⟩
        obtain ⟨a40, ea40, o_a40, l_a40⟩ := shl 15 rfl hI o_a39
        refine ⟨a40, ea40, ?_⟩
        refine ⟨o_a40, ?_⟩
        have i42 : vp_in v4 (hN _ a40) := (vin l_a40 (m := 6) (by decide) (q421 c5 c29))
        obtain ⟨a41, ea41, o_a41⟩ := ae hI o_a40 (by decide) (by decide) i42
        replace o_a41 : ob _ a41 3 := o_a41
        refine ⟨i42, a41, ea41, ?_⟩
        refine ⟨o_a30, ?_⟩
        refine m_X1_wetOf hI o_a30 o_a33 o_a37 o_a41 (fun x43 S44 hI g45 => ?_)
        have l_a32 := (gr_len g45 o_a32).trans l_a32
        have l_a36 := (gr_len g45 o_a36).trans l_a36
        have l_a40 := (gr_len g45 o_a40).trans l_a40
        have o_a30 := gr_ob g45 o_a30
        have o_a31 := gr_ob g45 o_a31
        have o_a32 := gr_ob g45 o_a32
        have o_a33 := gr_ob g45 o_a33
        have o_a35 := gr_ob g45 o_a35
        have o_a36 := gr_ob g45 o_a36
        have o_a37 := gr_ob g45 o_a37
        have o_a39 := gr_ob g45 o_a39
        have o_a40 := gr_ob g45 o_a40
        have o_a41 := gr_ob g45 o_a41
        have o_v0 := gr_ob g45 o_v0
        have g0 := gr_tr g0 g45
        intro _
        obtain ⟨a46, ea46, o_a46, -⟩ := sh 3 rfl hI o_v0
        refine ⟨a46, ea46, ?_⟩
        refine ⟨o_a46, ?_⟩
        obtain ⟨a47, ea47, o_a47, l_a47⟩ := shl 9 rfl hI o_a46
        refine ⟨a47, ea47, ?_⟩
        refine ⟨o_a47, ?_⟩
        refine ⟨(vin l_a47 (m := 5) (by decide) (q422 p_x1 bb_x1 c4 c5 c29)), ?_⟩
        intro x48 ex48
        refine m_X9_fraction hI (fun x49 S50 hI2 g51 p_x49 => ?_)
        subst p_x49
        intro _
        exact hq _ _ hI g0
      · exact hq _ _ hI g0
  · refine ⟨o_v0, ?_⟩
    refine m_X9_legTrouble hI o_v0 (fun x52 S53 hI2 g54 p_x52 => ?_)
    obtain ⟨z_S53, p_x52⟩ := p_x52
    subst z_S53
    intro _
    refine u_X9_face_23 ?_
    refine ⟨o_v0, ?_⟩
    refine u_X9_refusedBy ?_
    refine u_X9_refusedBy_0 ?_
    refine ⟨o_v0, ?_⟩
    have hI := iv_sI (j := 9) (v := x52) hI o_v0 (by decide) (nu_free (by decide))
    refine ⟨fun c55 => ?_, fun c55 => ?_⟩
    · intro _ _
      refine ⟨fun c56 => ?_, fun c56 => ?_⟩
      · obtain ⟨a57, ea57, o_a57, -⟩ := sh 3 rfl hI o_v0
        refine ⟨a57, ea57, ?_⟩
        obtain ⟨a58, ea58, o_a58, -⟩ := sh 1 rfl hI o_v0
        refine ⟨a58, ea58, ?_⟩
        refine ⟨o_a58, ?_⟩
        obtain ⟨a59, ea59, o_a59, l_a59⟩ := shl 18 rfl hI o_a58
        refine ⟨a59, ea59, ?_⟩
        refine ⟨o_a59, ?_⟩
        have i61 : vp_in v1 (hN _ a59) := (vin l_a59 (m := 4) (by decide) (q0 p_x52 c55 c56))
        obtain ⟨a60, ea60, o_a60⟩ := ae hI o_a59 (by decide) (by decide) i61
        replace o_a60 : ob _ a60 6 := o_a60
        refine ⟨i61, a60, ea60, ?_⟩
        obtain ⟨a62, ea62, o_a62, -⟩ := sh 1 rfl hI o_v0
        refine ⟨a62, ea62, ?_⟩
        refine ⟨o_a62, ?_⟩
        obtain ⟨a63, ea63, o_a63, l_a63⟩ := shl 17 rfl hI o_a62
        refine ⟨a63, ea63, ?_⟩
        refine ⟨o_a63, ?_⟩
        have i65 : vp_in v2 (hN _ a63) := (vin l_a63 (m := 12) (by decide) (q1 p_x52 c55 c56))
        obtain ⟨a64, ea64, o_a64⟩ := ae hI o_a63 (by decide) (by decide) i65
        replace o_a64 : ob _ a64 5 := o_a64
        refine ⟨i65, a64, ea64, ?_⟩
        obtain ⟨a66, ea66, o_a66, -⟩ := sh 1 rfl hI o_v0
        refine ⟨a66, ea66, ?_⟩
        refine ⟨o_a66, ?_⟩
        obtain ⟨a67, ea67, o_a67, l_a67⟩ := shl 15 rfl hI o_a66
        refine ⟨a67, ea67, ?_⟩
        refine ⟨o_a67, ?_⟩
        have i69 : vp_in v4 (hN _ a67) := (vin l_a67 (m := 6) (by decide) (q2 p_x52 c55 c56))
        obtain ⟨a68, ea68, o_a68⟩ := ae hI o_a67 (by decide) (by decide) i69
        replace o_a68 : ob _ a68 3 := o_a68
        refine ⟨i69, a68, ea68, ?_⟩
        refine ⟨o_a57, ?_⟩
        refine m_X1_wetOf hI o_a57 o_a60 o_a64 o_a68 (fun x70 S71 hI g72 => ?_)
        have l_a59 := (gr_len g72 o_a59).trans l_a59
        have l_a63 := (gr_len g72 o_a63).trans l_a63
        have l_a67 := (gr_len g72 o_a67).trans l_a67
        have o_a57 := gr_ob g72 o_a57
        have o_a58 := gr_ob g72 o_a58
        have o_a59 := gr_ob g72 o_a59
        have o_a60 := gr_ob g72 o_a60
        have o_a62 := gr_ob g72 o_a62
        have o_a63 := gr_ob g72 o_a63
        have o_a64 := gr_ob g72 o_a64
        have o_a66 := gr_ob g72 o_a66
        have o_a67 := gr_ob g72 o_a67
        have o_a68 := gr_ob g72 o_a68
        have o_v0 := gr_ob g72 o_v0
        have g0 := gr_tr g0 g72
        intro _
        obtain ⟨a73, ea73, o_a73, -⟩ := sh 3 rfl hI o_v0
        refine ⟨a73, ea73, ?_⟩
        refine ⟨o_a73, ?_⟩
        obtain ⟨a74, ea74, o_a74, l_a74⟩ := shl 9 rfl hI o_a73
        refine ⟨a74, ea74, ?_⟩
        refine ⟨o_a74, ?_⟩
        refine ⟨(vin l_a74 (m := 5) (by decide) (q423 p_x1 bb_x1 c4 c56)), ?_⟩
        intro x75 ex75
        refine m_X9_fraction hI (fun x76 S77 hI2 g78 p_x76 => ?_)
        subst p_x76
        intro _
        exact hq _ _ hI g0
      · exact hq _ _ hI g0
    · intro _ _
      refine ⟨fun c79 => ?_, fun c79 => ?_⟩
      · obtain ⟨a80, ea80, o_a80, -⟩ := sh 3 rfl hI o_v0
        refine ⟨a80, ea80, ?_⟩
        obtain ⟨a81, ea81, o_a81, -⟩ := sh 1 rfl hI o_v0
        refine ⟨a81, ea81, ?_⟩
        refine ⟨o_a81, ?_⟩
        obtain ⟨a82, ea82, o_a82, l_a82⟩ := shl 18 rfl hI o_a81
        refine ⟨a82, ea82, ?_⟩
        refine ⟨o_a82, ?_⟩
        have i84 : vp_in v1 (hN _ a82) := (vin l_a82 (m := 4) (by decide) (q3 p_x52 c55 c79))
        obtain ⟨a83, ea83, o_a83⟩ := ae hI o_a82 (by decide) (by decide) i84
        replace o_a83 : ob _ a83 6 := o_a83
        refine ⟨i84, a83, ea83, ?_⟩
        obtain ⟨a85, ea85, o_a85, -⟩ := sh 1 rfl hI o_v0
        refine ⟨a85, ea85, ?_⟩
        refine ⟨o_a85, ?_⟩
        obtain ⟨a86, ea86, o_a86, l_a86⟩ := shl 17 rfl hI o_a85
        refine ⟨a86, ea86, ?_⟩
        refine ⟨o_a86, ?_⟩
        have i88 : vp_in v2 (hN _ a86) := (vin l_a86 (m := 12) (by decide) (q4 p_x52 c55 c79))
        obtain ⟨a87, ea87, o_a87⟩ := ae hI o_a86 (by decide) (by decide) i88
        replace o_a87 : ob _ a87 5 := o_a87
        refine ⟨i88, a87, ea87, ?_⟩
        obtain ⟨a89, ea89, o_a89, -⟩ := sh 1 rfl hI o_v0
        refine ⟨a89, ea89, ?_⟩
        refine ⟨o_a89, ?_⟩
        obtain ⟨a90, ea90, o_a90, l_a90⟩ := shl 15 rfl hI o_a89
        refine ⟨a90, ea90, ?_⟩
        refine ⟨o_a90, ?_⟩
        have i92 : vp_in v4 (hN _ a90) := (vin l_a90 (m := 6) (by decide) (q5 p_x52 c55 c79))
        obtain ⟨a91, ea91, o_a91⟩ := ae hI o_a90 (by decide) (by decide) i92
        replace o_a91 : ob _ a91 3 := o_a91
        refine ⟨i92, a91, ea91, ?_⟩
        refine ⟨o_a80, ?_⟩
        refine m_X1_wetOf hI o_a80 o_a83 o_a87 o_a91 (fun x93 S94 hI g95 => ?_)
        have l_a82 := (gr_len g95 o_a82).trans l_a82
        have l_a86 := (gr_len g95 o_a86).trans l_a86
        have l_a90 := (gr_len g95 o_a90).trans l_a90
        have o_a80 := gr_ob g95 o_a80
        have o_a81 := gr_ob g95 o_a81
        have o_a82 := gr_ob g95 o_a82
        have o_a83 := gr_ob g95 o_a83
        have o_a85 := gr_ob g95 o_a85
        have o_a86 := gr_ob g95 o_a86
        have o_a87 := gr_ob g95 o_a87
        have o_a89 := gr_ob g95 o_a89
        have o_a90 := gr_ob g95 o_a90
        have o_a91 := gr_ob g95 o_a91
        have o_v0 := gr_ob g95 o_v0
        have g0 := gr_tr g0 g95
        intro _
        obtain ⟨a96, ea96, o_a96, -⟩ := sh 3 rfl hI o_v0
        refine ⟨a96, ea96, ?_⟩
        refine ⟨o_a96, ?_⟩
        obtain ⟨a97, ea97, o_a97, l_a97⟩ := shl 9 rfl hI o_a96
        refine ⟨a97, ea97, ?_⟩
        refine ⟨o_a97, ?_⟩
        refine ⟨(vin l_a97 (m := 5) (by decide) (q424 p_x1 bb_x1 c4 c79)), ?_⟩
        intro x98 ex98
        refine m_X9_fraction hI (fun x99 S100 hI2 g101 p_x99 => ?_)
        subst p_x99
        intro _
        exact hq _ _ hI g0
      · exact hq _ _ hI g0
set_option maxHeartbeats 4000000 in
set_option maxRecDepth 20000 in
theorem m_X9_fault {v0 : Nat} {Q : Int32 → HS → Prop} {S : HS} (hI : IV S) (o_v0 : ob S v0 9)     (hq : ∀ (r : Int32) (T : HS), IV T → Gr S T → (S = T) → Q r T) : P_X9_fault v0 Q S := by
  have g0 := gr_rf S
  refine u_X9_fault ?_
  refine u_X9_fault_0 ?_
  refine ⟨o_v0, ?_⟩
  intro x1 ex1
  exact hq _ _ hI g0 rfl
set_option maxHeartbeats 4000000 in
set_option maxRecDepth 20000 in
theorem m_X9_putBytes {v0 : Nat} {v1 : Int32} {Q : HS → Prop} {S : HS} (hI : IV S) (o_v0 : ob S v0 9)     (hq : ∀ (T : HS), IV T → Gr S T → Q T) : P_X9_putBytes v0 v1 Q S := by
  have g0 := gr_rf S
  refine u_X9_putBytes ?_
  refine u_X9_putBytes_0 ?_
  refine i_X9_putBytes_3 (fun (y0 : Nat) (y1 : Int32) (y2 : Int32) (Z : HS) => (y2.toInt - (-2147483648 : Int32).toInt).toNat) (fun (y0 : Nat) (y1 : Int32) (y2 : Int32) (Z : HS) => (IV Z) ∧ (Gr S Z) ∧ (v0 = y0) ∧ (v1 = y1)) ?_ _ _ _ _ ⟨hI, (gr_rf _), rfl, rfl⟩
  intro w3 w5 w7 S1 X8 ⟨hI, gL2, q4, q6⟩ ih9
  subst q4
  subst q6
  have o_v0 := gr_ob gL2 o_v0
  have g0 := gr_tr g0 gL2
  refine u_X9_putBytes_3 ?_
  refine ⟨fun c10 => ?_, fun c10 => ?_⟩
  · exact hq _ hI g0
  · refine ⟨o_v0, ?_⟩
    intro x11 ex11
    have r_x11 : (0 : Int32) ≤ x11 ∧ x11 ≤ (900 : Int32) := by rw [ex11]; exact nu 0 rfl hI o_v0
    refine ⟨fun c12 => ?_, fun c12 => ?_⟩
    · refine u_X9_putBytes_49 ?_
      intro x13 ex13
      exact ih9 _ _ _ _ ⟨hI, gL2, rfl, rfl⟩ (mu_down (q276 c10 ex13) (q277 c10 ex13))
    · intro x14 ex14
      have r_x14 : (0 : Int32) ≤ x14 ∧ x14 ≤ (900 : Int32) := by rw [ex14]; exact nu 0 rfl hI o_v0
      obtain ⟨a15, ea15, o_a15, l_a15⟩ := shl 0 rfl hI o_v0
      refine ⟨a15, ea15, ?_⟩
      refine ⟨o_a15, ?_⟩
      have n_a15 : nI (hN S1 a15) = 900 := by rw [show hN S1 a15 = 900 from l_a15]; decide
      refine ⟨fun c16 => ?_, fun c16 => ?_⟩
      · rw [n_a15] at c16
        refine u_X9_putBytes_49 ?_
        intro x17 ex17
        exact ih9 _ _ _ _ ⟨hI, gL2, rfl, rfl⟩ (mu_down (q276 c10 ex17) (q277 c10 ex17))
      · rw [n_a15] at c16
        obtain ⟨a18, ea18, o_a18, l_a18⟩ := shl 0 rfl hI o_v0
        refine ⟨a18, ea18, ?_⟩
        intro x19 ex19
        have r_x19 : (0 : Int32) ≤ x19 ∧ x19 ≤ (900 : Int32) := by rw [ex19]; exact nu 0 rfl hI o_v0
        refine ⟨o_a18, ?_⟩
        intro x20 ex20
        have i21 : vp_in x19 (hN _ a18) := (vin l_a18 (m := 900) (by decide) (q278 r_x19))
        refine ⟨i21, ?_⟩
        have hI := iv_aI (i := x19.toNatClampNeg) (v := (vp_nar .byte x20)) hI o_v0 (by decide) ea18 o_a18 (by decide)
        intro x22 ex22
        have r_x22 : (0 : Int32) ≤ x22 ∧ x22 ≤ (900 : Int32) := by rw [ex22]; exact nu 0 rfl hI o_v0
        intro x23 ex23
        have hI := iv_sI (j := 1) (v := x23) hI o_v0 (by decide) (nu_one (lo := (0 : Int32)) (hi := (900 : Int32)) (by decide) (q119 r_x22 ex23))
        refine u_X9_putBytes_49 ?_
        intro x24 ex24
        exact ih9 _ _ _ _ ⟨hI, gL2, rfl, rfl⟩ (mu_down (q279 c10 ex20 ex24) (q280 c10 ex20 ex24))
set_option maxHeartbeats 4000000 in
set_option maxRecDepth 20000 in
theorem m_X9_feed {v0 : Nat} {v1 : Int32} {v2 : Int32} {v3 : Int32} {v4 : Int32} {v5 : Int32} {Q : Int32 → HS → Prop} {S : HS} (hI : IV S) (o_v0 : ob S v0 9)     (hq : ∀ (r : Int32) (T : HS), IV T → Gr S T → Q r T) : P_X9_feed v0 v1 v2 v3 v4 v5 Q S := by
  have g0 := gr_rf S
  refine u_X9_feed ?_
  refine u_X9_feed_0 ?_
  refine ⟨o_v0, ?_⟩
  intro x1 ex1
  have r_x1 : (0 : Int32) ≤ x1 ∧ x1 ≤ (900 : Int32) := by rw [ex1]; exact nu 0 rfl hI o_v0
  refine ⟨fun c2 => ?_, fun c2 => ?_⟩
  · refine m_X9_putBytes hI o_v0 (fun S4 hI g5 => ?_)
    have o_v0 := gr_ob g5 o_v0
    have g0 := gr_tr g0 g5
    intro _
    refine m_X9_putBytes hI o_v0 (fun S7 hI g8 => ?_)
    have o_v0 := gr_ob g8 o_v0
    have g0 := gr_tr g0 g8
    intro _
    refine m_X9_putBytes hI o_v0 (fun S10 hI g11 => ?_)
    have o_v0 := gr_ob g11 o_v0
    have g0 := gr_tr g0 g11
    intro _
    refine m_X9_putBytes hI o_v0 (fun S13 hI g14 => ?_)
    have o_v0 := gr_ob g14 o_v0
    have g0 := gr_tr g0 g14
    intro _
    refine m_X9_putBytes hI o_v0 (fun S16 hI g17 => ?_)
    have o_v0 := gr_ob g17 o_v0
    have g0 := gr_tr g0 g17
    intro _
    intro x18 ex18
    have r_x18 : (0 : Int32) ≤ x18 ∧ x18 ≤ (900 : Int32) := by rw [ex18]; exact nu 0 rfl hI o_v0
    exact hq _ _ hI g0
  · exact hq _ _ hI g0
set_option maxHeartbeats 4000000 in
set_option maxRecDepth 20000 in
theorem m_X9_leeTrouble {v0 : Nat} {v1 : Int32} {v2 : Int32} {v3 : Int32} {v4 : Int32} {v5 : Int32} {v6 : Int32} {Q : Int32 → HS → Prop} {S : HS} (hI : IV S) (o_v0 : ob S v0 9)     (hq : ∀ (r : Int32) (T : HS), IV T → Gr S T → (S = T) ∧ (r = 0 → 0 ≤ v1 ∧ v1 < 4 ∧ 0 ≤ v2 ∧ v2 < 4 ∧ 0 ≤ v3 ∧ v3 < 12 ∧ 0 ≤ v5 ∧ v5 < 6) → Q r T) : P_X9_leeTrouble v0 v1 v2 v3 v4 v5 v6 Q S := by
  have g0 := gr_rf S
  refine u_X9_leeTrouble ?_
  refine u_X9_leeTrouble_0 ?_
  refine ⟨fun c1 => ?_, fun c1 => ?_⟩
  · exact hq _ _ hI g0 ⟨rfl, (q391 c1)⟩
  · refine ⟨o_v0, ?_⟩
    obtain ⟨a2, ea2, o_a2, -⟩ := sh 1 rfl hI o_v0
    refine ⟨a2, ea2, ?_⟩
    refine ⟨o_a2, ?_⟩
    refine m_X8_hasWalker hI o_a2 (fun x3 S4 hI2 g5 b_x3 p_x3 => ?_)
    obtain ⟨z_S4, p_x3⟩ := p_x3
    subst z_S4
    intro _ _
    have bb_x3 : x3 = 0 ∨ x3 = 1 := b_x3
    refine ⟨fun c6 => ?_, fun c6 => ?_⟩
    · exact hq _ _ hI g0 ⟨rfl, (q392 c1 p_x3 bb_x3 c6)⟩
    · obtain ⟨a7, ea7, o_a7, -⟩ := sh 1 rfl hI o_v0
      refine ⟨a7, ea7, ?_⟩
      refine ⟨o_a7, ?_⟩
      refine m_X8_hasWalker hI o_a7 (fun x8 S9 hI2 g10 b_x8 p_x8 => ?_)
      obtain ⟨z_S9, p_x8⟩ := p_x8
      subst z_S9
      intro _ _
      have bb_x8 : x8 = 0 ∨ x8 = 1 := b_x8
      refine ⟨fun c11 => ?_, fun c11 => ?_⟩
      · refine m_X9_legTrouble hI o_v0 (fun x12 S13 hI2 g14 p_x12 => ?_)
        obtain ⟨z_S13, p_x12⟩ := p_x12
        subst z_S13
        intro _
        refine ⟨fun c15 => ?_, fun c15 => ?_⟩
        · obtain ⟨a16, ea16, o_a16, -⟩ := sh 1 rfl hI o_v0
          refine ⟨a16, ea16, ?_⟩
          refine ⟨o_a16, ?_⟩
          obtain ⟨a17, ea17, o_a17, l_a17⟩ := shl 18 rfl hI o_a16
          refine ⟨a17, ea17, ?_⟩
          refine ⟨o_a17, ?_⟩
          have i19 : vp_in v2 (hN _ a17) := (vin l_a17 (m := 4) (by decide) (q393 c1 p_x3 bb_x3 c6 p_x8 bb_x8 c11 p_x12 c15))
          obtain ⟨a18, ea18, o_a18⟩ := ae hI o_a17 (by decide) (by decide) i19
          replace o_a18 : ob _ a18 6 := o_a18
          refine ⟨i19, a18, ea18, ?_⟩
          refine ⟨o_a18, ?_⟩
          refine m_X6_canGo hI o_a18 (fun x20 S21 hI2 g22 b_x20 p_x20 => ?_)
          subst p_x20
          intro _ _
          have bb_x20 : x20 = 0 ∨ x20 = 1 := b_x20
          refine ⟨fun c23 => ?_, fun c23 => ?_⟩
          · exact hq _ _ hI g0 ⟨rfl, (q394 c1 p_x3 bb_x3 c6 p_x8 bb_x8 c11 p_x12 c15)⟩
          · exact hq _ _ hI g0 ⟨rfl, (q395 c1 p_x3 bb_x3 c6 p_x8 bb_x8 c11 p_x12 c15)⟩
        · exact hq _ _ hI g0 ⟨rfl, (q396 c1 p_x3 bb_x3 c6 p_x8 bb_x8 c11 p_x12 c15)⟩
      · exact hq _ _ hI g0 ⟨rfl, (q397 c1 p_x3 bb_x3 c6 p_x8 bb_x8 c11)⟩
set_option maxHeartbeats 4000000 in
set_option maxRecDepth 20000 in
theorem m_X9_first {v0 : Nat} {v1 : Int32} {v2 : Int32} {v3 : Int32} {v4 : Int32} {v5 : Int32} {v6 : Int32} {Q : Int32 → HS → Prop} {S : HS} (hI : IV S) (o_v0 : ob S v0 9)     (hq : ∀ (r : Int32) (T : HS), IV T → Gr S T → Q r T) : P_X9_first v0 v1 v2 v3 v4 v5 v6 Q S := by
  have g0 := gr_rf S
  refine u_X9_first ?_
  refine u_X9_first_0 ?_
  refine ⟨o_v0, ?_⟩
  refine m_X9_leeTrouble hI o_v0 (fun x1 S2 hI2 g3 p_x1 => ?_)
  obtain ⟨z_S2, p_x1⟩ := p_x1
  subst z_S2
  intro _
  refine u_X9_refusedBy ?_
  refine u_X9_refusedBy_0 ?_
  refine ⟨o_v0, ?_⟩
  have hI := iv_sI (j := 9) (v := x1) hI o_v0 (by decide) (nu_free (by decide))
  refine ⟨fun c4 => ?_, fun c4 => ?_⟩
  · intro _ _
    refine ⟨fun c5 => ?_, fun c5 => ?_⟩
    · obtain ⟨a6, ea6, o_a6, -⟩ := sh 3 rfl hI o_v0
      refine ⟨a6, ea6, ?_⟩
      obtain ⟨a7, ea7, o_a7, -⟩ := sh 1 rfl hI o_v0
      refine ⟨a7, ea7, ?_⟩
      refine ⟨o_a7, ?_⟩
      obtain ⟨a8, ea8, o_a8, l_a8⟩ := shl 17 rfl hI o_a7
      refine ⟨a8, ea8, ?_⟩
      refine ⟨o_a8, ?_⟩
      have i10 : vp_in v3 (hN _ a8) := (vin l_a8 (m := 12) (by decide) (q398 p_x1 c4 c5))
      obtain ⟨a9, ea9, o_a9⟩ := ae hI o_a8 (by decide) (by decide) i10
      replace o_a9 : ob _ a9 5 := o_a9
      refine ⟨i10, a9, ea9, ?_⟩
      obtain ⟨a11, ea11, o_a11, -⟩ := sh 1 rfl hI o_v0
      refine ⟨a11, ea11, ?_⟩
      refine ⟨o_a11, ?_⟩
      obtain ⟨a12, ea12, o_a12, l_a12⟩ := shl 15 rfl hI o_a11
      refine ⟨a12, ea12, ?_⟩
      refine ⟨o_a12, ?_⟩
      have i14 : vp_in v5 (hN _ a12) := (vin l_a12 (m := 6) (by decide) (q399 p_x1 c4 c5))
      obtain ⟨a13, ea13, o_a13⟩ := ae hI o_a12 (by decide) (by decide) i14
      replace o_a13 : ob _ a13 3 := o_a13
      refine ⟨i14, a13, ea13, ?_⟩
      refine ⟨o_a6, ?_⟩
      refine m_X1_lay hI o_a6 o_a9 o_a13 (fun S16 hI g17 => ?_)
      have l_a12 := (gr_len g17 o_a12).trans l_a12
      have l_a8 := (gr_len g17 o_a8).trans l_a8
      have o_a11 := gr_ob g17 o_a11
      have o_a12 := gr_ob g17 o_a12
      have o_a13 := gr_ob g17 o_a13
      have o_a6 := gr_ob g17 o_a6
      have o_a7 := gr_ob g17 o_a7
      have o_a8 := gr_ob g17 o_a8
      have o_a9 := gr_ob g17 o_a9
      have o_v0 := gr_ob g17 o_v0
      have g0 := gr_tr g0 g17
      intro _
      obtain ⟨a18, ea18, o_a18, -⟩ := sh 3 rfl hI o_v0
      refine ⟨a18, ea18, ?_⟩
      obtain ⟨a19, ea19, o_a19, -⟩ := sh 1 rfl hI o_v0
      refine ⟨a19, ea19, ?_⟩
      refine ⟨o_a19, ?_⟩
      obtain ⟨a20, ea20, o_a20, l_a20⟩ := shl 18 rfl hI o_a19
      refine ⟨a20, ea20, ?_⟩
      refine ⟨o_a20, ?_⟩
      have i22 : vp_in v1 (hN _ a20) := (vin l_a20 (m := 4) (by decide) (q400 p_x1 c4 c5))
      obtain ⟨a21, ea21, o_a21⟩ := ae hI o_a20 (by decide) (by decide) i22
      replace o_a21 : ob _ a21 6 := o_a21
      refine ⟨i22, a21, ea21, ?_⟩
      obtain ⟨a23, ea23, o_a23, -⟩ := sh 1 rfl hI o_v0
      refine ⟨a23, ea23, ?_⟩
      refine ⟨o_a23, ?_⟩
      obtain ⟨a24, ea24, o_a24, l_a24⟩ := shl 18 rfl hI o_a23
      refine ⟨a24, ea24, ?_⟩
      refine ⟨o_a24, ?_⟩
      have i26 : vp_in v2 (hN _ a24) := (vin l_a24 (m := 4) (by decide) (q401 p_x1 c4 c5))
      obtain ⟨a25, ea25, o_a25⟩ := ae hI o_a24 (by decide) (by decide) i26
      replace o_a25 : ob _ a25 6 := o_a25
      refine ⟨i26, a25, ea25, ?_⟩
      refine ⟨o_a18, ?_⟩
      refine m_X1_wetInLee hI o_a18 o_a21 o_a25 (fun x27 S28 hI g29 => ?_)
      have l_a12 := (gr_len g29 o_a12).trans l_a12
      have l_a20 := (gr_len g29 o_a20).trans l_a20
      have l_a24 := (gr_len g29 o_a24).trans l_a24
      have l_a8 := (gr_len g29 o_a8).trans l_a8
      have o_a11 := gr_ob g29 o_a11
      have o_a12 := gr_ob g29 o_a12
      have o_a13 := gr_ob g29 o_a13
      have o_a18 := gr_ob g29 o_a18
      have o_a19 := gr_ob g29 o_a19
      have o_a20 := gr_ob g29 o_a20
      have o_a21 := gr_ob g29 o_a21
      have o_a23 := gr_ob g29 o_a23
      have o_a24 := gr_ob g29 o_a24
      have o_a25 := gr_ob g29 o_a25
      have o_a6 := gr_ob g29 o_a6
      have o_a7 := gr_ob g29 o_a7
      have o_a8 := gr_ob g29 o_a8
      have o_a9 := gr_ob g29 o_a9
      have o_v0 := gr_ob g29 o_v0
      have g0 := gr_tr g0 g29
      intro _
      obtain ⟨a30, ea30, o_a30, -⟩ := sh 3 rfl hI o_v0
      refine ⟨a30, ea30, ?_⟩
      obtain ⟨a31, ea31, o_a31, -⟩ := sh 1 rfl hI o_v0
      refine ⟨a31, ea31, ?_⟩
      refine ⟨o_a31, ?_⟩
      obtain ⟨a32, ea32, o_a32, l_a32⟩ := shl 18 rfl hI o_a31
      refine ⟨a32, ea32, ?_⟩
      refine ⟨o_a32, ?_⟩
      have i34 : vp_in v2 (hN _ a32) := (vin l_a32 (m := 4) (by decide) (q401 p_x1 c4 c5))
      obtain ⟨a33, ea33, o_a33⟩ := ae hI o_a32 (by decide) (by decide) i34
      replace o_a33 : ob _ a33 6 := o_a33
      refine ⟨i34, a33, ea33, ?_⟩
      obtain ⟨a35, ea35, o_a35, -⟩ := sh 1 rfl hI o_v0
      refine ⟨a35, ea35, ?_⟩
      refine ⟨o_a35, ?_⟩
      obtain ⟨a36, ea36, o_a36, l_a36⟩ := shl 18 rfl hI o_a35
      refine ⟨a36, ea36, ?_⟩
      refine ⟨o_a36, ?_⟩
      have i38 : vp_in v1 (hN _ a36) := (vin l_a36 (m := 4) (by decide) (q400 p_x1 c4 c5))
      obtain ⟨a37, ea37, o_a37⟩ := ae hI o_a36 (by decide) (by decide) i38
      replace o_a37 : ob _ a37 6 := o_a37
      refine ⟨i38, a37, ea37, ?_⟩
      refine ⟨o_a30, ?_⟩
      refine m_X1_wetInLee hI o_a30 o_a33 o_a37 (fun x39 S40 hI g41 => ?_)
      have l_a12 := (gr_len g41 o_a12).trans l_a12
      have l_a20 := (gr_len g41 o_a20).trans l_a20
      have l_a24 := (gr_len g41 o_a24).trans l_a24
      have l_a32 := (gr_len g41 o_a32).trans l_a32
      have l_a36 := (gr_len g41 o_a36).trans l_a36
      have l_a8 := (gr_len g41 o_a8).trans l_a8
      have o_a11 := gr_ob g41 o_a11
      have o_a12 := gr_ob g41 o_a12
      have o_a13 := gr_ob g41 o_a13
      have o_a18 := gr_ob g41 o_a18
      have o_a19 := gr_ob g41 o_a19
      have o_a20 := gr_ob g41 o_a20
      have o_a21 := gr_ob g41 o_a21
      have o_a23 := gr_ob g41 o_a23
      have o_a24 := gr_ob g41 o_a24
      have o_a25 := gr_ob g41 o_a25
      have o_a30 := gr_ob g41 o_a30
      have o_a31 := gr_ob g41 o_a31
      have o_a32 := gr_ob g41 o_a32
      have o_a33 := gr_ob g41 o_a33
      have o_a35 := gr_ob g41 o_a35
      have o_a36 := gr_ob g41 o_a36
      have o_a37 := gr_ob g41 o_a37
      have o_a6 := gr_ob g41 o_a6
      have o_a7 := gr_ob g41 o_a7
      have o_a8 := gr_ob g41 o_a8
      have o_a9 := gr_ob g41 o_a9
      have o_v0 := gr_ob g41 o_v0
      have g0 := gr_tr g0 g41
      intro _
      refine ⟨fun c42 => ?_, fun c42 => ?_⟩
      · refine ⟨fun c43 => ?_, fun c43 => ?_⟩
        · exact hq _ _ hI g0
        · exact hq _ _ hI g0
      · exact hq _ _ hI g0
    · exact hq _ _ hI g0
  · intro _ _
    refine ⟨fun c44 => ?_, fun c44 => ?_⟩
    · obtain ⟨a45, ea45, o_a45, -⟩ := sh 3 rfl hI o_v0
      refine ⟨a45, ea45, ?_⟩
      obtain ⟨a46, ea46, o_a46, -⟩ := sh 1 rfl hI o_v0
      refine ⟨a46, ea46, ?_⟩
      refine ⟨o_a46, ?_⟩
      obtain ⟨a47, ea47, o_a47, l_a47⟩ := shl 17 rfl hI o_a46
      refine ⟨a47, ea47, ?_⟩
      refine ⟨o_a47, ?_⟩
      have i49 : vp_in v3 (hN _ a47) := (vin l_a47 (m := 12) (by decide) (q402 p_x1 c4 c44))
      obtain ⟨a48, ea48, o_a48⟩ := ae hI o_a47 (by decide) (by decide) i49
      replace o_a48 : ob _ a48 5 := o_a48
      refine ⟨i49, a48, ea48, ?_⟩
      obtain ⟨a50, ea50, o_a50, -⟩ := sh 1 rfl hI o_v0
      refine ⟨a50, ea50, ?_⟩
      refine ⟨o_a50, ?_⟩
      obtain ⟨a51, ea51, o_a51, l_a51⟩ := shl 15 rfl hI o_a50
      refine ⟨a51, ea51, ?_⟩
      refine ⟨o_a51, ?_⟩
      have i53 : vp_in v5 (hN _ a51) := (vin l_a51 (m := 6) (by decide) (q403 p_x1 c4 c44))
      obtain ⟨a52, ea52, o_a52⟩ := ae hI o_a51 (by decide) (by decide) i53
      replace o_a52 : ob _ a52 3 := o_a52
      refine ⟨i53, a52, ea52, ?_⟩
      refine ⟨o_a45, ?_⟩
      refine m_X1_lay hI o_a45 o_a48 o_a52 (fun S55 hI g56 => ?_)
      have l_a47 := (gr_len g56 o_a47).trans l_a47
      have l_a51 := (gr_len g56 o_a51).trans l_a51
      have o_a45 := gr_ob g56 o_a45
      have o_a46 := gr_ob g56 o_a46
      have o_a47 := gr_ob g56 o_a47
      have o_a48 := gr_ob g56 o_a48
      have o_a50 := gr_ob g56 o_a50
      have o_a51 := gr_ob g56 o_a51
      have o_a52 := gr_ob g56 o_a52
      have o_v0 := gr_ob g56 o_v0
      have g0 := gr_tr g0 g56
      intro _
      obtain ⟨a57, ea57, o_a57, -⟩ := sh 3 rfl hI o_v0
      refine ⟨a57, ea57, ?_⟩
      obtain ⟨a58, ea58, o_a58, -⟩ := sh 1 rfl hI o_v0
      refine ⟨a58, ea58, ?_⟩
      refine ⟨o_a58, ?_⟩
      obtain ⟨a59, ea59, o_a59, l_a59⟩ := shl 18 rfl hI o_a58
      refine ⟨a59, ea59, ?_⟩
      refine ⟨o_a59, ?_⟩
      have i61 : vp_in v1 (hN _ a59) := (vin l_a59 (m := 4) (by decide) (q404 p_x1 c4 c44))
      obtain ⟨a60, ea60, o_a60⟩ := ae hI o_a59 (by decide) (by decide) i61
      replace o_a60 : ob _ a60 6 := o_a60
      refine ⟨i61, a60, ea60, ?_⟩
      obtain ⟨a62, ea62, o_a62, -⟩ := sh 1 rfl hI o_v0
      refine ⟨a62, ea62, ?_⟩
      refine ⟨o_a62, ?_⟩
      obtain ⟨a63, ea63, o_a63, l_a63⟩ := shl 18 rfl hI o_a62
      refine ⟨a63, ea63, ?_⟩
      refine ⟨o_a63, ?_⟩
      have i65 : vp_in v2 (hN _ a63) := (vin l_a63 (m := 4) (by decide) (q405 p_x1 c4 c44))
      obtain ⟨a64, ea64, o_a64⟩ := ae hI o_a63 (by decide) (by decide) i65
      replace o_a64 : ob _ a64 6 := o_a64
      refine ⟨i65, a64, ea64, ?_⟩
      refine ⟨o_a57, ?_⟩
      refine m_X1_wetInLee hI o_a57 o_a60 o_a64 (fun x66 S67 hI g68 => ?_)
      have l_a47 := (gr_len g68 o_a47).trans l_a47
      have l_a51 := (gr_len g68 o_a51).trans l_a51
      have l_a59 := (gr_len g68 o_a59).trans l_a59
      have l_a63 := (gr_len g68 o_a63).trans l_a63
      have o_a45 := gr_ob g68 o_a45
      have o_a46 := gr_ob g68 o_a46
      have o_a47 := gr_ob g68 o_a47
      have o_a48 := gr_ob g68 o_a48
      have o_a50 := gr_ob g68 o_a50
      have o_a51 := gr_ob g68 o_a51
      have o_a52 := gr_ob g68 o_a52
      have o_a57 := gr_ob g68 o_a57
      have o_a58 := gr_ob g68 o_a58
      have o_a59 := gr_ob g68 o_a59
      have o_a60 := gr_ob g68 o_a60
      have o_a62 := gr_ob g68 o_a62
      have o_a63 := gr_ob g68 o_a63
      have o_a64 := gr_ob g68 o_a64
      have o_v0 := gr_ob g68 o_v0
      have g0 := gr_tr g0 g68
      intro _
      obtain ⟨a69, ea69, o_a69, -⟩ := sh 3 rfl hI o_v0
      refine ⟨a69, ea69, ?_⟩
      obtain ⟨a70, ea70, o_a70, -⟩ := sh 1 rfl hI o_v0
      refine ⟨a70, ea70, ?_⟩
      refine ⟨o_a70, ?_⟩
      obtain ⟨a71, ea71, o_a71, l_a71⟩ := shl 18 rfl hI o_a70
      refine ⟨a71, ea71, ?_⟩
      refine ⟨o_a71, ?_⟩
      have i73 : vp_in v2 (hN _ a71) := (vin l_a71 (m := 4) (by decide) (q405 p_x1 c4 c44))
      obtain ⟨a72, ea72, o_a72⟩ := ae hI o_a71 (by decide) (by decide) i73
      replace o_a72 : ob _ a72 6 := o_a72
      refine ⟨i73, a72, ea72, ?_⟩
      obtain ⟨a74, ea74, o_a74, -⟩ := sh 1 rfl hI o_v0
      refine ⟨a74, ea74, ?_⟩
      refine ⟨o_a74, ?_⟩
      obtain ⟨a75, ea75, o_a75, l_a75⟩ := shl 18 rfl hI o_a74
      refine ⟨a75, ea75, ?_⟩
      refine ⟨o_a75, ?_⟩
      have i77 : vp_in v1 (hN _ a75) := (vin l_a75 (m := 4) (by decide) (q404 p_x1 c4 c44))
      obtain ⟨a76, ea76, o_a76⟩ := ae hI o_a75 (by decide) (by decide) i77
      replace o_a76 : ob _ a76 6 := o_a76
      refine ⟨i77, a76, ea76, ?_⟩
      refine ⟨o_a69, ?_⟩
      refine m_X1_wetInLee hI o_a69 o_a72 o_a76 (fun x78 S79 hI g80 => ?_)
      have l_a47 := (gr_len g80 o_a47).trans l_a47
      have l_a51 := (gr_len g80 o_a51).trans l_a51
      have l_a59 := (gr_len g80 o_a59).trans l_a59
      have l_a63 := (gr_len g80 o_a63).trans l_a63
      have l_a71 := (gr_len g80 o_a71).trans l_a71
      have l_a75 := (gr_len g80 o_a75).trans l_a75
      have o_a45 := gr_ob g80 o_a45
      have o_a46 := gr_ob g80 o_a46
      have o_a47 := gr_ob g80 o_a47
      have o_a48 := gr_ob g80 o_a48
      have o_a50 := gr_ob g80 o_a50
      have o_a51 := gr_ob g80 o_a51
      have o_a52 := gr_ob g80 o_a52
      have o_a57 := gr_ob g80 o_a57
      have o_a58 := gr_ob g80 o_a58
      have o_a59 := gr_ob g80 o_a59
      have o_a60 := gr_ob g80 o_a60
      have o_a62 := gr_ob g80 o_a62
      have o_a63 := gr_ob g80 o_a63
      have o_a64 := gr_ob g80 o_a64
      have o_a69 := gr_ob g80 o_a69
      have o_a70 := gr_ob g80 o_a70
      have o_a71 := gr_ob g80 o_a71
      have o_a72 := gr_ob g80 o_a72
      have o_a74 := gr_ob g80 o_a74
      have o_a75 := gr_ob g80 o_a75
      have o_a76 := gr_ob g80 o_a76
      have o_v0 := gr_ob g80 o_v0
      have g0 := gr_tr g0 g80
      intro _
      refine ⟨fun c81 => ?_, fun c81 => ?_⟩
      · refine ⟨fun c82 => ?_, fun c82 => ?_⟩
        · exact hq _ _ hI g0
        · exact hq _ _ hI g0
      · exact hq _ _ hI g0
    · exact hq _ _ hI g0
set_option maxHeartbeats 4000000 in
set_option maxRecDepth 20000 in
theorem m_X9_fit {v0 : Nat} {v1 : Int32} {v2 : Int32} {Q : Int32 → HS → Prop} {S : HS} (hI : IV S) (o_v0 : ob S v0 9)     (hq : ∀ (r : Int32) (T : HS), IV T → Gr S T → Q r T) : P_X9_fit v0 v1 v2 Q S := by
  have g0 := gr_rf S
  refine u_X9_fit ?_
  refine u_X9_fit_0 ?_
  refine ⟨o_v0, ?_⟩
  obtain ⟨a1, ea1, o_a1, -⟩ := sh 1 rfl hI o_v0
  refine ⟨a1, ea1, ?_⟩
  refine ⟨o_a1, ?_⟩
  refine m_X8_hasSeen hI o_a1 (fun x2 S3 hI2 g4 b_x2 p_x2 => ?_)
  obtain ⟨z_S3, p_x2⟩ := p_x2
  subst z_S3
  intro _ _
  have bb_x2 : x2 = 0 ∨ x2 = 1 := b_x2
  refine ⟨fun c5 => ?_, fun c5 => ?_⟩
  · refine u_X9_fit_15 ?_
    refine ⟨o_v0, ?_⟩
    refine u_X9_refuse ?_
    refine u_X9_refuse_0 ?_
    refine ⟨o_v0, ?_⟩
    have hI := iv_sI (j := 9) (v := (1 : Int32)) hI o_v0 (by decide) (nu_free (by decide))
    intro _
    exact hq _ _ hI g0
  · refine ⟨fun c6 => ?_, fun c6 => ?_⟩
    · obtain ⟨a7, ea7, o_a7, -⟩ := sh 3 rfl hI o_v0
      refine ⟨a7, ea7, ?_⟩
      obtain ⟨a8, ea8, o_a8, -⟩ := sh 1 rfl hI o_v0
      refine ⟨a8, ea8, ?_⟩
      refine ⟨o_a7, ?_⟩
      refine m_X1_findFit hI o_a7 o_a8 (fun x9 S10 hI g11 => ?_)
      have o_a1 := gr_ob g11 o_a1
      have o_a7 := gr_ob g11 o_a7
      have o_a8 := gr_ob g11 o_a8
      have o_v0 := gr_ob g11 o_v0
      have g0 := gr_tr g0 g11
      intro _
      refine ⟨fun c12 => ?_, fun c12 => ?_⟩
      · refine u_X9_grant ?_
        refine u_X9_grant_0 ?_
        refine ⟨o_v0, ?_⟩
        have hI := iv_sI (j := 9) (v := (0 : Int32)) hI o_v0 (by decide) (nu_free (by decide))
        intro _
        exact hq _ _ hI g0
      · refine u_X9_refuse ?_
        refine u_X9_refuse_0 ?_
        refine ⟨o_v0, ?_⟩
        have hI := iv_sI (j := 9) (v := (1 : Int32)) hI o_v0 (by decide) (nu_free (by decide))
        intro _
        exact hq _ _ hI g0
    · refine u_X9_fit_15 ?_
      refine ⟨o_v0, ?_⟩
      refine u_X9_refuse ?_
      refine u_X9_refuse_0 ?_
      refine ⟨o_v0, ?_⟩
      have hI := iv_sI (j := 9) (v := (1 : Int32)) hI o_v0 (by decide) (nu_free (by decide))
      intro _
      exact hq _ _ hI g0
set_option maxHeartbeats 4000000 in
set_option maxRecDepth 20000 in
theorem m_X9_fits {v0 : Nat} {v1 : Int32} {Q : Int32 → HS → Prop} {S : HS} (hI : IV S) (o_v0 : ob S v0 9)     (hq : ∀ (r : Int32) (T : HS), IV T → Gr S T → Q r T) : P_X9_fits v0 v1 Q S := by
  have g0 := gr_rf S
  refine u_X9_fits ?_
  refine u_X9_fits_0 ?_
  refine ⟨o_v0, ?_⟩
  obtain ⟨a1, ea1, o_a1, -⟩ := sh 1 rfl hI o_v0
  refine ⟨a1, ea1, ?_⟩
  refine ⟨o_a1, ?_⟩
  refine m_X8_hasSeen hI o_a1 (fun x2 S3 hI2 g4 b_x2 p_x2 => ?_)
  obtain ⟨z_S3, p_x2⟩ := p_x2
  subst z_S3
  intro _ _
  have bb_x2 : x2 = 0 ∨ x2 = 1 := b_x2
  refine ⟨fun c5 => ?_, fun c5 => ?_⟩
  · obtain ⟨a6, ea6, o_a6, -⟩ := sh 3 rfl hI o_v0
    refine ⟨a6, ea6, ?_⟩
    obtain ⟨a7, ea7, o_a7, -⟩ := sh 1 rfl hI o_v0
    refine ⟨a7, ea7, ?_⟩
    refine ⟨o_a6, ?_⟩
    refine m_X1_countFits hI o_a6 o_a7 (fun x8 S9 hI g10 => ?_)
    have o_a1 := gr_ob g10 o_a1
    have o_a6 := gr_ob g10 o_a6
    have o_a7 := gr_ob g10 o_a7
    have o_v0 := gr_ob g10 o_v0
    have g0 := gr_tr g0 g10
    intro _
    refine u_X9_grant ?_
    refine u_X9_grant_0 ?_
    refine ⟨o_v0, ?_⟩
    have hI := iv_sI (j := 9) (v := (0 : Int32)) hI o_v0 (by decide) (nu_free (by decide))
    intro _
    exact hq _ _ hI g0
  · refine u_X9_refuse ?_
    refine u_X9_refuse_0 ?_
    refine ⟨o_v0, ?_⟩
    have hI := iv_sI (j := 9) (v := (1 : Int32)) hI o_v0 (by decide) (nu_free (by decide))
    intro _
    exact hq _ _ hI g0
