set_option maxHeartbeats 4000000 in
set_option maxRecDepth 20000 in
theorem m_X9_go {v0 : Nat} {v1 : Int32} {v2 : Int32} {v3 : Int32} {Q : Int32 → HS → Prop} {S : HS} (hI : IV S) (o_v0 : ob S v0 9)     (hq : ∀ (r : Int32) (T : HS), IV T → Gr S T → Q r T) : P_X9_go v0 v1 v2 v3 Q S := by
  have g0 := gr_rf S
  refine u_X9_go ?_
  refine u_X9_go_0 ?_
  refine ⟨o_v0, ?_⟩
  obtain ⟨a1, ea1, o_a1, -⟩ := sh 5 rfl hI o_v0
  refine ⟨a1, ea1, ?_⟩
  refine ⟨o_a1, ?_⟩
  refine m_X0_isOn hI o_a1 (fun x2 S3 hI2 g4 b_x2 p_x2 => ?_)
  subst p_x2
  intro _ _
  have bb_x2 : x2 = 0 ∨ x2 = 1 := b_x2
  refine ⟨fun c5 => ?_, fun c5 => ?_⟩
  · refine u_X9_go_45 ?_
    refine ⟨o_v0, ?_⟩
    refine u_X9_refuse ?_
    refine u_X9_refuse_0 ?_
    refine ⟨o_v0, ?_⟩
    have hI := iv_sI (j := 9) (v := (1 : Int32)) hI o_v0 (by decide) (nu_free (by decide))
    intro _
    exact hq _ _ hI g0
  · obtain ⟨a6, ea6, o_a6, -⟩ := sh 1 rfl hI o_v0
    refine ⟨a6, ea6, ?_⟩
    obtain ⟨a7, ea7, o_a7, -⟩ := sh 5 rfl hI o_v0
    refine ⟨a7, ea7, ?_⟩
    refine ⟨o_a7, ?_⟩
    intro x8 ex8
    have r_x8 : (-1 : Int32) ≤ x8 ∧ x8 ≤ (3 : Int32) := by rw [ex8]; exact nu 1 rfl hI o_a7
    refine ⟨o_a6, ?_⟩
    refine m_X8_hasWalker hI o_a6 (fun x9 S10 hI2 g11 b_x9 p_x9 => ?_)
    obtain ⟨z_S10, p_x9⟩ := p_x9
    subst z_S10
    intro _ _
    have bb_x9 : x9 = 0 ∨ x9 = 1 := b_x9
    refine ⟨fun c12 => ?_, fun c12 => ?_⟩
    · refine u_X9_go_45 ?_
      refine ⟨o_v0, ?_⟩
      refine u_X9_refuse ?_
      refine u_X9_refuse_0 ?_
      refine ⟨o_v0, ?_⟩
      have hI := iv_sI (j := 9) (v := (1 : Int32)) hI o_v0 (by decide) (nu_free (by decide))
      intro _
      exact hq _ _ hI g0
    · obtain ⟨a13, ea13, o_a13, -⟩ := sh 1 rfl hI o_v0
      refine ⟨a13, ea13, ?_⟩
      refine ⟨o_a13, ?_⟩
      refine m_X8_hasRoad hI o_a13 (fun x14 S15 hI2 g16 b_x14 p_x14 => ?_)
      obtain ⟨z_S15, p_x14⟩ := p_x14
      subst z_S15
      intro _ _
      have bb_x14 : x14 = 0 ∨ x14 = 1 := b_x14
      refine ⟨fun c17 => ?_, fun c17 => ?_⟩
      · refine u_X9_go_45 ?_
        refine ⟨o_v0, ?_⟩
        refine u_X9_refuse ?_
        refine u_X9_refuse_0 ?_
        refine ⟨o_v0, ?_⟩
        have hI := iv_sI (j := 9) (v := (1 : Int32)) hI o_v0 (by decide) (nu_free (by decide))
        intro _
        exact hq _ _ hI g0
      · refine m_X9_isWay hI (fun x18 S19 hI2 g20 b_x18 p_x18 => ?_)
        obtain ⟨z_S19, p_x18⟩ := p_x18
        subst z_S19
        intro _ _
        have bb_x18 : x18 = 0 ∨ x18 = 1 := b_x18
        refine ⟨fun c21 => ?_, fun c21 => ?_⟩
        · obtain ⟨a22, ea22, o_a22, -⟩ := sh 1 rfl hI o_v0
          refine ⟨a22, ea22, ?_⟩
          refine ⟨o_a22, ?_⟩
          obtain ⟨a23, ea23, o_a23, l_a23⟩ := shl 18 rfl hI o_a22
          refine ⟨a23, ea23, ?_⟩
          obtain ⟨a24, ea24, o_a24, -⟩ := sh 5 rfl hI o_v0
          refine ⟨a24, ea24, ?_⟩
          refine ⟨o_a24, ?_⟩
          intro x25 ex25
          have r_x25 : (-1 : Int32) ≤ x25 ∧ x25 ≤ (3 : Int32) := by rw [ex25]; exact nu 1 rfl hI o_a24
          refine ⟨o_a23, ?_⟩
          have i27 : vp_in x25 (hN _ a23) := (vin l_a23 (m := 4) (by decide) (q131 r_x25))
          obtain ⟨a26, ea26, o_a26⟩ := ae hI o_a23 (by decide) (by decide) i27
          replace o_a26 : ob _ a26 6 := o_a26
          refine ⟨i27, a26, ea26, ?_⟩
          obtain ⟨a28, ea28, o_a28, -⟩ := sh 1 rfl hI o_v0
          refine ⟨a28, ea28, ?_⟩
          refine ⟨o_a28, ?_⟩
          obtain ⟨a29, ea29, o_a29, l_a29⟩ := shl 17 rfl hI o_a28
          refine ⟨a29, ea29, ?_⟩
          refine ⟨o_a29, ?_⟩
          have i31 : vp_in v1 (hN _ a29) := (vin l_a29 (m := 12) (by decide) (q275 p_x14 bb_x14 c17))
          obtain ⟨a30, ea30, o_a30⟩ := ae hI o_a29 (by decide) (by decide) i31
          replace o_a30 : ob _ a30 5 := o_a30
          refine ⟨i31, a30, ea30, ?_⟩
          refine ⟨o_a26, ?_⟩
          refine m_X6_canGo hI o_a26 (fun x32 S33 hI2 g34 b_x32 p_x32 => ?_)
          subst p_x32
          intro _ _
          have bb_x32 : x32 = 0 ∨ x32 = 1 := b_x32
          refine ⟨fun c35 => ?_, fun c35 => ?_⟩
          · refine ⟨o_a30, ?_⟩
            refine m_X5_startOf hI o_a30 (fun x36 S37 hI2 g38 p_x36 => ?_)
            subst p_x36
            intro _
            obtain ⟨a39, ea39, o_a39, -⟩ := sh 5 rfl hI o_v0
            refine ⟨a39, ea39, ?_⟩
            refine ⟨o_a39, ?_⟩
            obtain ⟨a40, ea40, o_a40, -⟩ := sh 6 rfl hI o_a39
            refine ⟨a40, ea40, ?_⟩
            refine ⟨o_a40, ?_⟩
            intro x41 ex41
            refine ⟨fun c42 => ?_, fun c42 => ?_⟩
            · obtain ⟨a43, ea43, o_a43, -⟩ := sh 5 rfl hI o_v0
              refine ⟨a43, ea43, ?_⟩
              refine ⟨o_a43, ?_⟩
              obtain ⟨a44, ea44, o_a44, -⟩ := sh 6 rfl hI o_a43
              refine ⟨a44, ea44, ?_⟩
              refine ⟨o_a44, ?_⟩
              intro x45 ex45
              refine m_X5_minutesAt hI o_a30 (fun x46 S47 hI2 g48 p_x46 => ?_)
              subst p_x46
              intro _
              intro x49 ex49
              refine ⟨fun c50 => ?_, fun c50 => ?_⟩
              · obtain ⟨a51, ea51, o_a51, -⟩ := sh 5 rfl hI o_v0
                refine ⟨a51, ea51, ?_⟩
                refine ⟨o_a51, ?_⟩
                refine m_X0_keepForUndo hI o_a51 (fun S53 hI g54 => ?_)
                have l_a23 := (gr_len g54 o_a23).trans l_a23
                have l_a29 := (gr_len g54 o_a29).trans l_a29
                have o_a1 := gr_ob g54 o_a1
                have o_a13 := gr_ob g54 o_a13
                have o_a22 := gr_ob g54 o_a22
                have o_a23 := gr_ob g54 o_a23
                have o_a24 := gr_ob g54 o_a24
                have o_a26 := gr_ob g54 o_a26
                have o_a28 := gr_ob g54 o_a28
                have o_a29 := gr_ob g54 o_a29
                have o_a30 := gr_ob g54 o_a30
                have o_a39 := gr_ob g54 o_a39
                have o_a40 := gr_ob g54 o_a40
                have o_a43 := gr_ob g54 o_a43
                have o_a44 := gr_ob g54 o_a44
                have o_a51 := gr_ob g54 o_a51
                have o_a6 := gr_ob g54 o_a6
                have o_a7 := gr_ob g54 o_a7
                have o_v0 := gr_ob g54 o_v0
                have g0 := gr_tr g0 g54
                intro _
                obtain ⟨a55, ea55, o_a55, -⟩ := sh 1 rfl hI o_v0
                refine ⟨a55, ea55, ?_⟩
                obtain ⟨a56, ea56, o_a56, -⟩ := sh 5 rfl hI o_v0
                refine ⟨a56, ea56, ?_⟩
                refine ⟨o_a56, ?_⟩
                obtain ⟨a57, ea57, o_a57, -⟩ := sh 6 rfl hI o_a56
                refine ⟨a57, ea57, ?_⟩
                refine ⟨o_a57, ?_⟩
                intro x58 ex58
                refine ⟨o_a55, ?_⟩
                refine m_X8_hourOf hI o_a55 (fun x59 S60 hI2 g61 p_x59 => ?_)
                subst p_x59
                intro _
                obtain ⟨a62, ea62, o_a62, -⟩ := sh 1 rfl hI o_v0
                refine ⟨a62, ea62, ?_⟩
                refine ⟨o_a62, ?_⟩
                refine m_X8_hasHour hI o_a62 (fun x63 S64 hI2 g65 b_x63 p_x63 => ?_)
                obtain ⟨z_S64, p_x63⟩ := p_x63
                subst z_S64
                intro _ _
                have bb_x63 : x63 = 0 ∨ x63 = 1 := b_x63
                refine ⟨fun c66 => ?_, fun c66 => ?_⟩
                · refine u_X9_go_243 ?_
                  refine ⟨o_v0, ?_⟩
                  obtain ⟨a67, ea67, o_a67, -⟩ := sh 5 rfl hI o_v0
                  refine ⟨a67, ea67, ?_⟩
                  refine ⟨o_a67, ?_⟩
                  obtain ⟨a68, ea68, o_a68, -⟩ := sh 6 rfl hI o_a67
                  refine ⟨a68, ea68, ?_⟩
                  refine ⟨o_a30, ?_⟩
                  refine m_X5_endOf hI o_a30 (fun x69 S70 hI2 g71 p_x69 => ?_)
                  subst p_x69
                  intro _
                  refine ⟨o_a68, ?_⟩
                  have hI := iv_sI (j := 0) (v := x69) hI o_a68 (by decide) (nu_free (by decide))
                  obtain ⟨a72, ea72, o_a72, -⟩ := sh 5 rfl hI o_v0
                  refine ⟨a72, ea72, ?_⟩
                  refine ⟨o_a72, ?_⟩
                  obtain ⟨a73, ea73, o_a73, -⟩ := sh 6 rfl hI o_a72
                  refine ⟨a73, ea73, ?_⟩
                  refine ⟨o_a73, ?_⟩
                  have hI := iv_sI (j := 1) (v := x49) hI o_a73 (by decide) (nu_free (by decide))
                  refine u_X9_grant ?_
                  refine u_X9_grant_0 ?_
                  refine ⟨o_v0, ?_⟩
                  have hI := iv_sI (j := 9) (v := (0 : Int32)) hI o_v0 (by decide) (nu_free (by decide))
                  intro _
                  exact hq _ _ hI g0
                · obtain ⟨a74, ea74, o_a74, -⟩ := sh 5 rfl hI o_v0
                  refine ⟨a74, ea74, ?_⟩
                  refine ⟨o_a74, ?_⟩
                  refine m_X0_rainsIn hI o_a74 (fun x75 S76 hI2 g77 b_x75 p_x75 => ?_)
                  subst p_x75
                  intro _ _
                  have bb_x75 : x75 = 0 ∨ x75 = 1 := b_x75
                  refine ⟨fun c78 => ?_, fun c78 => ?_⟩
                  · refine u_X9_go_243 ?_
                    refine ⟨o_v0, ?_⟩
                    obtain ⟨a79, ea79, o_a79, -⟩ := sh 5 rfl hI o_v0
                    refine ⟨a79, ea79, ?_⟩
                    refine ⟨o_a79, ?_⟩
                    obtain ⟨a80, ea80, o_a80, -⟩ := sh 6 rfl hI o_a79
                    refine ⟨a80, ea80, ?_⟩
                    refine ⟨o_a30, ?_⟩
                    refine m_X5_endOf hI o_a30 (fun x81 S82 hI2 g83 p_x81 => ?_)
                    subst p_x81
                    intro _
                    refine ⟨o_a80, ?_⟩
                    have hI := iv_sI (j := 0) (v := x81) hI o_a80 (by decide) (nu_free (by decide))
                    obtain ⟨a84, ea84, o_a84, -⟩ := sh 5 rfl hI o_v0
                    refine ⟨a84, ea84, ?_⟩
                    refine ⟨o_a84, ?_⟩
                    obtain ⟨a85, ea85, o_a85, -⟩ := sh 6 rfl hI o_a84
                    refine ⟨a85, ea85, ?_⟩
                    refine ⟨o_a85, ?_⟩
                    have hI := iv_sI (j := 1) (v := x49) hI o_a85 (by decide) (nu_free (by decide))
                    refine u_X9_grant ?_
                    refine u_X9_grant_0 ?_
                    refine ⟨o_v0, ?_⟩
                    have hI := iv_sI (j := 9) (v := (0 : Int32)) hI o_v0 (by decide) (nu_free (by decide))
                    intro _
                    exact hq _ _ hI g0
                  · obtain ⟨a86, ea86, o_a86, -⟩ := sh 3 rfl hI o_v0
                    refine ⟨a86, ea86, ?_⟩
                    obtain ⟨a87, ea87, o_a87, -⟩ := sh 1 rfl hI o_v0
                    refine ⟨a87, ea87, ?_⟩
                    refine ⟨o_a87, ?_⟩
                    obtain ⟨a88, ea88, o_a88, l_a88⟩ := shl 15 rfl hI o_a87
                    refine ⟨a88, ea88, ?_⟩
                    refine ⟨o_a88, ?_⟩
                    have i90 : vp_in x59 (hN _ a88) := (vin l_a88 (m := 6) (by decide) (q410 p_x63 bb_x63 c66))
                    obtain ⟨a89, ea89, o_a89⟩ := ae hI o_a88 (by decide) (by decide) i90
                    replace o_a89 : ob _ a89 3 := o_a89
                    refine ⟨i90, a89, ea89, ?_⟩
                    refine ⟨o_a86, ?_⟩
                    refine m_X1_wetOf hI o_a86 o_a26 o_a30 o_a89 (fun x91 S92 hI g93 => ?_)
                    have l_a23 := (gr_len g93 o_a23).trans l_a23
                    have l_a29 := (gr_len g93 o_a29).trans l_a29
                    have l_a88 := (gr_len g93 o_a88).trans l_a88
                    have o_a1 := gr_ob g93 o_a1
                    have o_a13 := gr_ob g93 o_a13
                    have o_a22 := gr_ob g93 o_a22
                    have o_a23 := gr_ob g93 o_a23
                    have o_a24 := gr_ob g93 o_a24
                    have o_a26 := gr_ob g93 o_a26
                    have o_a28 := gr_ob g93 o_a28
                    have o_a29 := gr_ob g93 o_a29
                    have o_a30 := gr_ob g93 o_a30
                    have o_a39 := gr_ob g93 o_a39
                    have o_a40 := gr_ob g93 o_a40
                    have o_a43 := gr_ob g93 o_a43
                    have o_a44 := gr_ob g93 o_a44
                    have o_a51 := gr_ob g93 o_a51
                    have o_a55 := gr_ob g93 o_a55
                    have o_a56 := gr_ob g93 o_a56
                    have o_a57 := gr_ob g93 o_a57
                    have o_a6 := gr_ob g93 o_a6
                    have o_a62 := gr_ob g93 o_a62
                    have o_a7 := gr_ob g93 o_a7
                    have o_a74 := gr_ob g93 o_a74
                    have o_a86 := gr_ob g93 o_a86
                    have o_a87 := gr_ob g93 o_a87
                    have o_a88 := gr_ob g93 o_a88
                    have o_a89 := gr_ob g93 o_a89
                    have o_v0 := gr_ob g93 o_v0
                    have g0 := gr_tr g0 g93
                    intro _
                    obtain ⟨a94, ea94, o_a94, -⟩ := sh 5 rfl hI o_v0
                    refine ⟨a94, ea94, ?_⟩
                    refine ⟨o_a94, ?_⟩
                    obtain ⟨a95, ea95, o_a95, -⟩ := sh 6 rfl hI o_a94
                    refine ⟨a95, ea95, ?_⟩
                    obtain ⟨a96, ea96, o_a96, -⟩ := sh 3 rfl hI o_v0
                    refine ⟨a96, ea96, ?_⟩
                    refine ⟨o_a96, ?_⟩
                    obtain ⟨a97, ea97, o_a97, l_a97⟩ := shl 9 rfl hI o_a96
                    refine ⟨a97, ea97, ?_⟩
                    refine ⟨o_a95, ?_⟩
                    refine m_X2_addFaces hI o_a95 o_a97 l_a97 (fun S99 hI g100 => ?_)
                    have l_a23 := (gr_len g100 o_a23).trans l_a23
                    have l_a29 := (gr_len g100 o_a29).trans l_a29
                    have l_a88 := (gr_len g100 o_a88).trans l_a88
                    have l_a97 := (gr_len g100 o_a97).trans l_a97
                    have o_a1 := gr_ob g100 o_a1
                    have o_a13 := gr_ob g100 o_a13
                    have o_a22 := gr_ob g100 o_a22
                    have o_a23 := gr_ob g100 o_a23
                    have o_a24 := gr_ob g100 o_a24
                    have o_a26 := gr_ob g100 o_a26
                    have o_a28 := gr_ob g100 o_a28
                    have o_a29 := gr_ob g100 o_a29
                    have o_a30 := gr_ob g100 o_a30
                    have o_a39 := gr_ob g100 o_a39
                    have o_a40 := gr_ob g100 o_a40
                    have o_a43 := gr_ob g100 o_a43
                    have o_a44 := gr_ob g100 o_a44
                    have o_a51 := gr_ob g100 o_a51
                    have o_a55 := gr_ob g100 o_a55
                    have o_a56 := gr_ob g100 o_a56
                    have o_a57 := gr_ob g100 o_a57
                    have o_a6 := gr_ob g100 o_a6
                    have o_a62 := gr_ob g100 o_a62
                    have o_a7 := gr_ob g100 o_a7
                    have o_a74 := gr_ob g100 o_a74
                    have o_a86 := gr_ob g100 o_a86
                    have o_a87 := gr_ob g100 o_a87
                    have o_a88 := gr_ob g100 o_a88
                    have o_a89 := gr_ob g100 o_a89
                    have o_a94 := gr_ob g100 o_a94
                    have o_a95 := gr_ob g100 o_a95
                    have o_a96 := gr_ob g100 o_a96
                    have o_a97 := gr_ob g100 o_a97
                    have o_v0 := gr_ob g100 o_v0
                    have g0 := gr_tr g0 g100
                    intro _
                    refine u_X9_go_243 ?_
                    refine ⟨o_v0, ?_⟩
                    obtain ⟨a101, ea101, o_a101, -⟩ := sh 5 rfl hI o_v0
                    refine ⟨a101, ea101, ?_⟩
                    refine ⟨o_a101, ?_⟩
                    obtain ⟨a102, ea102, o_a102, -⟩ := sh 6 rfl hI o_a101
                    refine ⟨a102, ea102, ?_⟩
                    refine ⟨o_a30, ?_⟩
                    refine m_X5_endOf hI o_a30 (fun x103 S104 hI2 g105 p_x103 => ?_)
                    subst p_x103
                    intro _
                    refine ⟨o_a102, ?_⟩
                    have hI := iv_sI (j := 0) (v := x103) hI o_a102 (by decide) (nu_free (by decide))
                    obtain ⟨a106, ea106, o_a106, -⟩ := sh 5 rfl hI o_v0
                    refine ⟨a106, ea106, ?_⟩
                    refine ⟨o_a106, ?_⟩
                    obtain ⟨a107, ea107, o_a107, -⟩ := sh 6 rfl hI o_a106
                    refine ⟨a107, ea107, ?_⟩
                    refine ⟨o_a107, ?_⟩
                    have hI := iv_sI (j := 1) (v := x49) hI o_a107 (by decide) (nu_free (by decide))
                    refine u_X9_grant ?_
                    refine u_X9_grant_0 ?_
                    refine ⟨o_v0, ?_⟩
                    have hI := iv_sI (j := 9) (v := (0 : Int32)) hI o_v0 (by decide) (nu_free (by decide))
                    intro _
                    exact hq _ _ hI g0
              · refine u_X9_refuse ?_
                refine u_X9_refuse_0 ?_
                refine ⟨o_v0, ?_⟩
                have hI := iv_sI (j := 9) (v := (3 : Int32)) hI o_v0 (by decide) (nu_free (by decide))
                intro _
                exact hq _ _ hI g0
            · refine u_X9_refuse ?_
              refine u_X9_refuse_0 ?_
              refine ⟨o_v0, ?_⟩
              have hI := iv_sI (j := 9) (v := (5 : Int32)) hI o_v0 (by decide) (nu_free (by decide))
              intro _
              exact hq _ _ hI g0
          · refine u_X9_refuse ?_
            refine u_X9_refuse_0 ?_
            refine ⟨o_v0, ?_⟩
            have hI := iv_sI (j := 9) (v := (2 : Int32)) hI o_v0 (by decide) (nu_free (by decide))
            intro _
            exact hq _ _ hI g0
        · refine u_X9_go_45 ?_
          refine ⟨o_v0, ?_⟩
          refine u_X9_refuse ?_
          refine u_X9_refuse_0 ?_
          refine ⟨o_v0, ?_⟩
          have hI := iv_sI (j := 9) (v := (1 : Int32)) hI o_v0 (by decide) (nu_free (by decide))
          intro _
          exact hq _ _ hI g0
set_option maxHeartbeats 4000000 in
set_option maxRecDepth 20000 in
theorem m_X9_got {v0 : Nat} {v1 : Int32} {v2 : Int32} {Q : Int64 → HS → Prop} {S : HS} (hI : IV S) (o_v0 : ob S v0 9)     (hq : ∀ (r : Int64) (T : HS), IV T → Gr S T → Q r T) : P_X9_got v0 v1 v2 Q S := by
  have g0 := gr_rf S
  refine u_X9_got ?_
  refine u_X9_got_0 ?_
  refine ⟨o_v0, ?_⟩
  obtain ⟨a1, ea1, o_a1, -⟩ := sh 5 rfl hI o_v0
  refine ⟨a1, ea1, ?_⟩
  refine ⟨o_a1, ?_⟩
  refine m_X0_isOn hI o_a1 (fun x2 S3 hI2 g4 b_x2 p_x2 => ?_)
  subst p_x2
  intro _ _
  have bb_x2 : x2 = 0 ∨ x2 = 1 := b_x2
  refine ⟨fun c5 => ?_, fun c5 => ?_⟩
  · refine u_X9_got_17 ?_
    refine ⟨o_v0, ?_⟩
    refine u_X9_refuse ?_
    refine u_X9_refuse_0 ?_
    refine ⟨o_v0, ?_⟩
    have hI := iv_sI (j := 9) (v := (1 : Int32)) hI o_v0 (by decide) (nu_free (by decide))
    intro _
    exact hq _ _ hI g0
  · refine m_X9_isFace hI (fun x6 S7 hI2 g8 b_x6 p_x6 => ?_)
    obtain ⟨z_S7, p_x6⟩ := p_x6
    subst z_S7
    intro _ _
    have bb_x6 : x6 = 0 ∨ x6 = 1 := b_x6
    refine ⟨fun c9 => ?_, fun c9 => ?_⟩
    · have hI := iv_sI (j := 9) (v := (0 : Int32)) hI o_v0 (by decide) (nu_free (by decide))
      obtain ⟨a10, ea10, o_a10, -⟩ := sh 5 rfl hI o_v0
      refine ⟨a10, ea10, ?_⟩
      refine ⟨o_a10, ?_⟩
      obtain ⟨a11, ea11, o_a11, -⟩ := sh 6 rfl hI o_a10
      refine ⟨a11, ea11, ?_⟩
      refine ⟨o_a11, ?_⟩
      obtain ⟨a12, ea12, o_a12, l_a12⟩ := shl 11 rfl hI o_a11
      refine ⟨a12, ea12, ?_⟩
      refine ⟨o_a12, ?_⟩
      refine ⟨(vin l_a12 (m := 5) (by decide) (q409 p_x6 bb_x6 c9)), ?_⟩
      intro x13 ex13
      refine m_X9_fraction hI (fun x14 S15 hI2 g16 p_x14 => ?_)
      subst p_x14
      intro _
      exact hq _ _ hI g0
    · refine u_X9_got_17 ?_
      refine ⟨o_v0, ?_⟩
      refine u_X9_refuse ?_
      refine u_X9_refuse_0 ?_
      refine ⟨o_v0, ?_⟩
      have hI := iv_sI (j := 9) (v := (1 : Int32)) hI o_v0 (by decide) (nu_free (by decide))
      intro _
      exact hq _ _ hI g0
set_option maxHeartbeats 4000000 in
set_option maxRecDepth 20000 in
theorem m_X9_held {v0 : Nat} {v1 : Int32} {v2 : Int32} {v3 : Int32} {v4 : Int32} {v5 : Int32} {Q : Int32 → HS → Prop} {S : HS} (hI : IV S) (o_v0 : ob S v0 9)     (hq : ∀ (r : Int32) (T : HS), IV T → Gr S T → Q r T) : P_X9_held v0 v1 v2 v3 v4 v5 Q S := by
  have g0 := gr_rf S
  refine u_X9_held ?_
  refine u_X9_held_0 ?_
  refine ⟨o_v0, ?_⟩
  refine m_X9_legTrouble hI o_v0 (fun x1 S2 hI2 g3 p_x1 => ?_)
  obtain ⟨z_S2, p_x1⟩ := p_x1
  subst z_S2
  intro _
  refine u_X9_refusedBy ?_
  refine u_X9_refusedBy_0 ?_
  refine ⟨o_v0, ?_⟩
  have hI := iv_sI (j := 9) (v := x1) hI o_v0 (by decide) (nu_free (by decide))
  refine ⟨fun c4 => ?_, fun c4 => ?_⟩
  · intro _ _
    refine ⟨fun c5 => ?_, fun c5 => ?_⟩
    · obtain ⟨a6, ea6, o_a6, -⟩ := sh 1 rfl hI o_v0
      refine ⟨a6, ea6, ?_⟩
      refine ⟨o_a6, ?_⟩
      obtain ⟨a7, ea7, o_a7, l_a7⟩ := shl 18 rfl hI o_a6
      refine ⟨a7, ea7, ?_⟩
      refine ⟨o_a7, ?_⟩
      have i9 : vp_in v1 (hN _ a7) := (vin l_a7 (m := 4) (by decide) (q0 p_x1 c4 c5))
      obtain ⟨a8, ea8, o_a8⟩ := ae hI o_a7 (by decide) (by decide) i9
      replace o_a8 : ob _ a8 6 := o_a8
      refine ⟨i9, a8, ea8, ?_⟩
      refine ⟨o_a8, ?_⟩
      intro x10 ex10
      refine ⟨fun c11 => ?_, fun c11 => ?_⟩
      · obtain ⟨a12, ea12, o_a12, -⟩ := sh 3 rfl hI o_v0
        refine ⟨a12, ea12, ?_⟩
        obtain ⟨a13, ea13, o_a13, -⟩ := sh 1 rfl hI o_v0
        refine ⟨a13, ea13, ?_⟩
        refine ⟨o_a13, ?_⟩
        obtain ⟨a14, ea14, o_a14, l_a14⟩ := shl 17 rfl hI o_a13
        refine ⟨a14, ea14, ?_⟩
        refine ⟨o_a14, ?_⟩
        have i16 : vp_in v2 (hN _ a14) := (vin l_a14 (m := 12) (by decide) (q1 p_x1 c4 c5))
        obtain ⟨a15, ea15, o_a15⟩ := ae hI o_a14 (by decide) (by decide) i16
        replace o_a15 : ob _ a15 5 := o_a15
        refine ⟨i16, a15, ea15, ?_⟩
        obtain ⟨a17, ea17, o_a17, -⟩ := sh 1 rfl hI o_v0
        refine ⟨a17, ea17, ?_⟩
        refine ⟨o_a17, ?_⟩
        obtain ⟨a18, ea18, o_a18, l_a18⟩ := shl 15 rfl hI o_a17
        refine ⟨a18, ea18, ?_⟩
        refine ⟨o_a18, ?_⟩
        have i20 : vp_in v4 (hN _ a18) := (vin l_a18 (m := 6) (by decide) (q2 p_x1 c4 c5))
        obtain ⟨a19, ea19, o_a19⟩ := ae hI o_a18 (by decide) (by decide) i20
        replace o_a19 : ob _ a19 3 := o_a19
        refine ⟨i20, a19, ea19, ?_⟩
        refine ⟨o_a12, ?_⟩
        refine m_X1_lay hI o_a12 o_a15 o_a19 (fun S22 hI g23 => ?_)
        have l_a14 := (gr_len g23 o_a14).trans l_a14
        have l_a18 := (gr_len g23 o_a18).trans l_a18
        have l_a7 := (gr_len g23 o_a7).trans l_a7
        have o_a12 := gr_ob g23 o_a12
        have o_a13 := gr_ob g23 o_a13
        have o_a14 := gr_ob g23 o_a14
        have o_a15 := gr_ob g23 o_a15
        have o_a17 := gr_ob g23 o_a17
        have o_a18 := gr_ob g23 o_a18
        have o_a19 := gr_ob g23 o_a19
        have o_a6 := gr_ob g23 o_a6
        have o_a7 := gr_ob g23 o_a7
        have o_a8 := gr_ob g23 o_a8
        have o_v0 := gr_ob g23 o_v0
        have g0 := gr_tr g0 g23
        intro _
        obtain ⟨a24, ea24, o_a24, -⟩ := sh 3 rfl hI o_v0
        refine ⟨a24, ea24, ?_⟩
        obtain ⟨a25, ea25, o_a25, -⟩ := sh 1 rfl hI o_v0
        refine ⟨a25, ea25, ?_⟩
        refine ⟨o_a25, ?_⟩
        obtain ⟨a26, ea26, o_a26, l_a26⟩ := shl 18 rfl hI o_a25
        refine ⟨a26, ea26, ?_⟩
        refine ⟨o_a26, ?_⟩
        have i28 : vp_in v1 (hN _ a26) := (vin l_a26 (m := 4) (by decide) (q0 p_x1 c4 c5))
        obtain ⟨a27, ea27, o_a27⟩ := ae hI o_a26 (by decide) (by decide) i28
        replace o_a27 : ob _ a27 6 := o_a27
        refine ⟨i28, a27, ea27, ?_⟩
        refine ⟨o_a24, ?_⟩
        refine m_X1_isForward hI o_a24 o_a27 (fun x29 S30 hI2 g31 b_x29 p_x29 => ?_)
        subst p_x29
        intro _ _
        have bb_x29 : x29 = 0 ∨ x29 = 1 := b_x29
        refine ⟨fun c32 => ?_, fun c32 => ?_⟩
        · exact hq _ _ hI g0
        · exact hq _ _ hI g0
      · exact hq _ _ hI g0
    · exact hq _ _ hI g0
  · intro _ _
    refine ⟨fun c33 => ?_, fun c33 => ?_⟩
    · obtain ⟨a34, ea34, o_a34, -⟩ := sh 1 rfl hI o_v0
      refine ⟨a34, ea34, ?_⟩
      refine ⟨o_a34, ?_⟩
      obtain ⟨a35, ea35, o_a35, l_a35⟩ := shl 18 rfl hI o_a34
      refine ⟨a35, ea35, ?_⟩
      refine ⟨o_a35, ?_⟩
      have i37 : vp_in v1 (hN _ a35) := (vin l_a35 (m := 4) (by decide) (q3 p_x1 c4 c33))
      obtain ⟨a36, ea36, o_a36⟩ := ae hI o_a35 (by decide) (by decide) i37
      replace o_a36 : ob _ a36 6 := o_a36
      refine ⟨i37, a36, ea36, ?_⟩
      refine ⟨o_a36, ?_⟩
      intro x38 ex38
      refine ⟨fun c39 => ?_, fun c39 => ?_⟩
      · obtain ⟨a40, ea40, o_a40, -⟩ := sh 3 rfl hI o_v0
        refine ⟨a40, ea40, ?_⟩
        obtain ⟨a41, ea41, o_a41, -⟩ := sh 1 rfl hI o_v0
        refine ⟨a41, ea41, ?_⟩
        refine ⟨o_a41, ?_⟩
        obtain ⟨a42, ea42, o_a42, l_a42⟩ := shl 17 rfl hI o_a41
        refine ⟨a42, ea42, ?_⟩
        refine ⟨o_a42, ?_⟩
        have i44 : vp_in v2 (hN _ a42) := (vin l_a42 (m := 12) (by decide) (q4 p_x1 c4 c33))
        obtain ⟨a43, ea43, o_a43⟩ := ae hI o_a42 (by decide) (by decide) i44
        replace o_a43 : ob _ a43 5 := o_a43
        refine ⟨i44, a43, ea43, ?_⟩
        obtain ⟨a45, ea45, o_a45, -⟩ := sh 1 rfl hI o_v0
        refine ⟨a45, ea45, ?_⟩
        refine ⟨o_a45, ?_⟩
        obtain ⟨a46, ea46, o_a46, l_a46⟩ := shl 15 rfl hI o_a45
        refine ⟨a46, ea46, ?_⟩
        refine ⟨o_a46, ?_⟩
        have i48 : vp_in v4 (hN _ a46) := (vin l_a46 (m := 6) (by decide) (q5 p_x1 c4 c33))
        obtain ⟨a47, ea47, o_a47⟩ := ae hI o_a46 (by decide) (by decide) i48
        replace o_a47 : ob _ a47 3 := o_a47
        refine ⟨i48, a47, ea47, ?_⟩
        refine ⟨o_a40, ?_⟩
        refine m_X1_lay hI o_a40 o_a43 o_a47 (fun S50 hI g51 => ?_)
        have l_a35 := (gr_len g51 o_a35).trans l_a35
        have l_a42 := (gr_len g51 o_a42).trans l_a42
        have l_a46 := (gr_len g51 o_a46).trans l_a46
        have o_a34 := gr_ob g51 o_a34
        have o_a35 := gr_ob g51 o_a35
        have o_a36 := gr_ob g51 o_a36
        have o_a40 := gr_ob g51 o_a40
        have o_a41 := gr_ob g51 o_a41
        have o_a42 := gr_ob g51 o_a42
        have o_a43 := gr_ob g51 o_a43
        have o_a45 := gr_ob g51 o_a45
        have o_a46 := gr_ob g51 o_a46
        have o_a47 := gr_ob g51 o_a47
        have o_v0 := gr_ob g51 o_v0
        have g0 := gr_tr g0 g51
        intro _
        obtain ⟨a52, ea52, o_a52, -⟩ := sh 3 rfl hI o_v0
        refine ⟨a52, ea52, ?_⟩
        obtain ⟨a53, ea53, o_a53, -⟩ := sh 1 rfl hI o_v0
        refine ⟨a53, ea53, ?_⟩
        refine ⟨o_a53, ?_⟩
        obtain ⟨a54, ea54, o_a54, l_a54⟩ := shl 18 rfl hI o_a53
        refine ⟨a54, ea54, ?_⟩
        refine ⟨o_a54, ?_⟩
        have i56 : vp_in v1 (hN _ a54) := (vin l_a54 (m := 4) (by decide) (q3 p_x1 c4 c33))
        obtain ⟨a55, ea55, o_a55⟩ := ae hI o_a54 (by decide) (by decide) i56
        replace o_a55 : ob _ a55 6 := o_a55
        refine ⟨i56, a55, ea55, ?_⟩
        refine ⟨o_a52, ?_⟩
        refine m_X1_isForward hI o_a52 o_a55 (fun x57 S58 hI2 g59 b_x57 p_x57 => ?_)
        subst p_x57
        intro _ _
        have bb_x57 : x57 = 0 ∨ x57 = 1 := b_x57
        refine ⟨fun c60 => ?_, fun c60 => ?_⟩
        · exact hq _ _ hI g0
        · exact hq _ _ hI g0
      · exact hq _ _ hI g0
    · exact hq _ _ hI g0
set_option maxHeartbeats 4000000 in
set_option maxRecDepth 20000 in
theorem m_X9_isTill {v0 : Int32} {Q : Int32 → HS → Prop} {S : HS} (hI : IV S)      (hq : ∀ (r : Int32) (T : HS), IV T → Gr S T → bl r → (S = T) ∧ (r = 1 → 0 ≤ v0 ∧ v0 ≤ 400) → Q r T) : P_X9_isTill v0 Q S := by
  have g0 := gr_rf S
  refine u_X9_isTill ?_
  refine u_X9_isTill_0 ?_
  refine ⟨fun c1 => ?_, fun c1 => ?_⟩
  · exact hq _ _ hI g0 (Or.inl rfl) ⟨rfl, (q153 c1)⟩
  · refine ⟨fun c2 => ?_, fun c2 => ?_⟩
    · exact hq _ _ hI g0 (Or.inl rfl) ⟨rfl, (q154 c1 c2)⟩
    · exact hq _ _ hI g0 (Or.inr rfl) ⟨rfl, (q155 c1 c2)⟩
set_option maxHeartbeats 4000000 in
set_option maxRecDepth 20000 in
theorem m_X9_placesTrouble {v0 : Nat} {v1 : Int32} {v2 : Int32} {v3 : Int32} {Q : Int32 → HS → Prop} {S : HS} (hI : IV S) (o_v0 : ob S v0 9)     (hq : ∀ (r : Int32) (T : HS), IV T → Gr S T → (S = T) ∧ (r = 0 → 0 ≤ v1 ∧ v1 < 4 ∧ 0 ≤ v2 ∧ v2 < 8 ∧ 0 ≤ v3 ∧ v3 < 8) → Q r T) : P_X9_placesTrouble v0 v1 v2 v3 Q S := by
  have g0 := gr_rf S
  refine u_X9_placesTrouble ?_
  refine u_X9_placesTrouble_0 ?_
  refine ⟨o_v0, ?_⟩
  obtain ⟨a1, ea1, o_a1, -⟩ := sh 1 rfl hI o_v0
  refine ⟨a1, ea1, ?_⟩
  refine ⟨o_a1, ?_⟩
  refine m_X8_hasWalker hI o_a1 (fun x2 S3 hI2 g4 b_x2 p_x2 => ?_)
  obtain ⟨z_S3, p_x2⟩ := p_x2
  subst z_S3
  intro _ _
  have bb_x2 : x2 = 0 ∨ x2 = 1 := b_x2
  refine ⟨fun c5 => ?_, fun c5 => ?_⟩
  · refine u_X9_placesTrouble_37 ?_
    refine u_X9_placesTrouble_38 ?_
    refine ⟨fun c6 => ?_, fun c6 => ?_⟩
    · exact hq _ _ hI g0 ⟨rfl, (q145 p_x2 bb_x2 c5 c6)⟩
    · exact hq _ _ hI g0 ⟨rfl, (q146 p_x2 bb_x2 c5 c6)⟩
  · obtain ⟨a7, ea7, o_a7, -⟩ := sh 1 rfl hI o_v0
    refine ⟨a7, ea7, ?_⟩
    refine ⟨o_a7, ?_⟩
    refine m_X8_hasPlace hI o_a7 (fun x8 S9 hI2 g10 b_x8 p_x8 => ?_)
    obtain ⟨z_S9, p_x8⟩ := p_x8
    subst z_S9
    intro _ _
    have bb_x8 : x8 = 0 ∨ x8 = 1 := b_x8
    refine ⟨fun c11 => ?_, fun c11 => ?_⟩
    · refine u_X9_placesTrouble_37 ?_
      refine u_X9_placesTrouble_38 ?_
      refine ⟨fun c12 => ?_, fun c12 => ?_⟩
      · exact hq _ _ hI g0 ⟨rfl, (q147 p_x2 bb_x2 c5 p_x8 bb_x8 c11 c12)⟩
      · exact hq _ _ hI g0 ⟨rfl, (q148 p_x2 bb_x2 c5 p_x8 bb_x8 c11 c12)⟩
    · obtain ⟨a13, ea13, o_a13, -⟩ := sh 1 rfl hI o_v0
      refine ⟨a13, ea13, ?_⟩
      refine ⟨o_a13, ?_⟩
      refine m_X8_hasPlace hI o_a13 (fun x14 S15 hI2 g16 b_x14 p_x14 => ?_)
      obtain ⟨z_S15, p_x14⟩ := p_x14
      subst z_S15
      intro _ _
      have bb_x14 : x14 = 0 ∨ x14 = 1 := b_x14
      refine ⟨fun c17 => ?_, fun c17 => ?_⟩
      · refine u_X9_placesTrouble_37 ?_
        refine u_X9_placesTrouble_38 ?_
        refine ⟨fun c18 => ?_, fun c18 => ?_⟩
        · exact hq _ _ hI g0 ⟨rfl, (q149 p_x2 bb_x2 c5 p_x8 bb_x8 c11 p_x14 bb_x14 c17 c18)⟩
        · exact hq _ _ hI g0 ⟨rfl, (q150 p_x2 bb_x2 c5 p_x8 bb_x8 c11 p_x14 bb_x14 c17 c18)⟩
      · refine u_X9_placesTrouble_38 ?_
        refine ⟨fun c19 => ?_, fun c19 => ?_⟩
        · exact hq _ _ hI g0 ⟨rfl, (q151 p_x2 bb_x2 c5 p_x8 bb_x8 c11 p_x14 bb_x14 c17 c19)⟩
        · exact hq _ _ hI g0 ⟨rfl, (q152 p_x2 bb_x2 c5 p_x8 bb_x8 c11 p_x14 bb_x14 c17 c19)⟩
set_option maxHeartbeats 4000000 in
set_option maxRecDepth 20000 in
theorem m_X9_wayTrouble {v0 : Nat} {v1 : Int32} {v2 : Int32} {v3 : Int32} {v4 : Int32} {v5 : Int32} {Q : Int32 → HS → Prop} {S : HS} (hI : IV S) (o_v0 : ob S v0 9)     (hq : ∀ (r : Int32) (T : HS), IV T → Gr S T → Q r T) : P_X9_wayTrouble v0 v1 v2 v3 v4 v5 Q S := by
  have g0 := gr_rf S
  refine u_X9_wayTrouble ?_
  refine u_X9_wayTrouble_0 ?_
  refine ⟨o_v0, ?_⟩
  refine m_X9_placesTrouble hI o_v0 (fun x1 S2 hI2 g3 p_x1 => ?_)
  obtain ⟨z_S2, p_x1⟩ := p_x1
  subst z_S2
  intro _
  refine ⟨fun c4 => ?_, fun c4 => ?_⟩
  · refine m_X9_isTill hI (fun x5 S6 hI2 g7 b_x5 p_x5 => ?_)
    obtain ⟨z_S6, p_x5⟩ := p_x5
    subst z_S6
    intro _ _
    have bb_x5 : x5 = 0 ∨ x5 = 1 := b_x5
    refine ⟨fun c8 => ?_, fun c8 => ?_⟩
    · exact hq _ _ hI g0
    · refine ⟨fun c9 => ?_, fun c9 => ?_⟩
      · exact hq _ _ hI g0
      · refine ⟨fun c10 => ?_, fun c10 => ?_⟩
        · obtain ⟨a11, ea11, o_a11, -⟩ := sh 4 rfl hI o_v0
          refine ⟨a11, ea11, ?_⟩
          obtain ⟨a12, ea12, o_a12, -⟩ := sh 1 rfl hI o_v0
          refine ⟨a12, ea12, ?_⟩
          obtain ⟨a13, ea13, o_a13, -⟩ := sh 3 rfl hI o_v0
          refine ⟨a13, ea13, ?_⟩
          refine ⟨o_a11, ?_⟩
          refine m_X7_reckon hI o_a11 o_a12 o_a13 (fun S15 hI g16 => ?_)
          have o_a11 := gr_ob g16 o_a11
          have o_a12 := gr_ob g16 o_a12
          have o_a13 := gr_ob g16 o_a13
          have o_v0 := gr_ob g16 o_v0
          have g0 := gr_tr g0 g16
          intro _
          obtain ⟨a17, ea17, o_a17, -⟩ := sh 4 rfl hI o_v0
          refine ⟨a17, ea17, ?_⟩
          refine ⟨o_a17, ?_⟩
          refine m_X7_isOpen hI o_a17 (fun x18 S19 hI2 g20 b_x18 p_x18 => ?_)
          subst p_x18
          intro _ _
          have bb_x18 : x18 = 0 ∨ x18 = 1 := b_x18
          refine ⟨fun c21 => ?_, fun c21 => ?_⟩
          · exact hq _ _ hI g0
          · exact hq _ _ hI g0
        · exact hq _ _ hI g0
  · exact hq _ _ hI g0
set_option maxHeartbeats 4000000 in
set_option maxRecDepth 20000 in
theorem m_X9_least {v0 : Nat} {v1 : Int32} {v2 : Int32} {v3 : Int32} {v4 : Int32} {v5 : Int32} {v6 : Int32} {Q : Int64 → HS → Prop} {S : HS} (hI : IV S) (o_v0 : ob S v0 9)     (hq : ∀ (r : Int64) (T : HS), IV T → Gr S T → Q r T) : P_X9_least v0 v1 v2 v3 v4 v5 v6 Q S := by
  have g0 := gr_rf S
  refine u_X9_least ?_
  refine u_X9_least_0 ?_
  refine ⟨o_v0, ?_⟩
  refine m_X9_wayTrouble hI o_v0 (fun x1 S2 hI g3 => ?_)
  have o_v0 := gr_ob g3 o_v0
  have g0 := gr_tr g0 g3
  intro _
  refine u_X9_refusedBy ?_
  refine u_X9_refusedBy_0 ?_
  refine ⟨o_v0, ?_⟩
  have hI := iv_sI (j := 9) (v := x1) hI o_v0 (by decide) (nu_free (by decide))
  refine ⟨fun c4 => ?_, fun c4 => ?_⟩
  · intro _ _
    refine ⟨fun c5 => ?_, fun c5 => ?_⟩
    · obtain ⟨a6, ea6, o_a6, -⟩ := sh 4 rfl hI o_v0
      refine ⟨a6, ea6, ?_⟩
      refine ⟨o_a6, ?_⟩
      refine m_X7_meanFrom hI o_a6 (fun x7 S8 hI2 g9 p_x7 => ?_)
      subst p_x7
      intro _
      refine m_X9_fraction hI (fun x10 S11 hI2 g12 p_x10 => ?_)
      subst p_x10
      intro _
      exact hq _ _ hI g0
    · exact hq _ _ hI g0
  · intro _ _
    refine ⟨fun c13 => ?_, fun c13 => ?_⟩
    · obtain ⟨a14, ea14, o_a14, -⟩ := sh 4 rfl hI o_v0
      refine ⟨a14, ea14, ?_⟩
      refine ⟨o_a14, ?_⟩
      refine m_X7_meanFrom hI o_a14 (fun x15 S16 hI2 g17 p_x15 => ?_)
      subst p_x15
      intro _
      refine m_X9_fraction hI (fun x18 S19 hI2 g20 p_x18 => ?_)
      subst p_x18
      intro _
      exact hq _ _ hI g0
    · exact hq _ _ hI g0
set_option maxHeartbeats 4000000 in
set_option maxRecDepth 20000 in
theorem m_X9_lee {v0 : Nat} {v1 : Int32} {v2 : Int32} {v3 : Int32} {v4 : Int32} {v5 : Int32} {v6 : Int32} {v7 : Int32} {Q : Int64 → HS → Prop} {S : HS} (hI : IV S) (o_v0 : ob S v0 9)     (hq : ∀ (r : Int64) (T : HS), IV T → Gr S T → Q r T) : P_X9_lee v0 v1 v2 v3 v4 v5 v6 v7 Q S := by
  have g0 := gr_rf S
  refine u_X9_lee ?_
  refine u_X9_lee_0 ?_
  refine ⟨o_v0, ?_⟩
  refine m_X9_leeTrouble hI o_v0 (fun x1 S2 hI2 g3 p_x1 => ?_)
  obtain ⟨z_S2, p_x1⟩ := p_x1
  subst z_S2
  intro _
  refine u_X9_refusedBy ?_
  refine u_X9_refusedBy_0 ?_
  refine ⟨o_v0, ?_⟩
  have hI := iv_sI (j := 9) (v := x1) hI o_v0 (by decide) (nu_free (by decide))
  refine ⟨fun c4 => ?_, fun c4 => ?_⟩
  · intro _ _
    refine ⟨fun c5 => ?_, fun c5 => ?_⟩
    · obtain ⟨a6, ea6, o_a6, -⟩ := sh 3 rfl hI o_v0
      refine ⟨a6, ea6, ?_⟩
      obtain ⟨a7, ea7, o_a7, -⟩ := sh 1 rfl hI o_v0
      refine ⟨a7, ea7, ?_⟩
      refine ⟨o_a7, ?_⟩
      obtain ⟨a8, ea8, o_a8, l_a8⟩ := shl 17 rfl hI o_a7
      refine ⟨a8, ea8, ?_⟩
      refine ⟨o_a8, ?_⟩
      have i10 : vp_in v3 (hN _ a8) := (vin l_a8 (m := 12) (by decide) (q398 p_x1 c4 c5))
      obtain ⟨a9, ea9, o_a9⟩ := ae hI o_a8 (by decide) (by decide) i10
      replace o_a9 : ob _ a9 5 := o_a9
      refine ⟨i10, a9, ea9, ?_⟩
      obtain ⟨a11, ea11, o_a11, -⟩ := sh 1 rfl hI o_v0
      refine ⟨a11, ea11, ?_⟩
      refine ⟨o_a11, ?_⟩
      obtain ⟨a12, ea12, o_a12, l_a12⟩ := shl 15 rfl hI o_a11
      refine ⟨a12, ea12, ?_⟩
      refine ⟨o_a12, ?_⟩
      have i14 : vp_in v5 (hN _ a12) := (vin l_a12 (m := 6) (by decide) (q399 p_x1 c4 c5))
      obtain ⟨a13, ea13, o_a13⟩ := ae hI o_a12 (by decide) (by decide) i14
      replace o_a13 : ob _ a13 3 := o_a13
      refine ⟨i14, a13, ea13, ?_⟩
      refine ⟨o_a6, ?_⟩
      refine m_X1_lay hI o_a6 o_a9 o_a13 (fun S16 hI g17 => ?_)
      have l_a12 := (gr_len g17 o_a12).trans l_a12
      have l_a8 := (gr_len g17 o_a8).trans l_a8
      have o_a11 := gr_ob g17 o_a11
      have o_a12 := gr_ob g17 o_a12
      have o_a13 := gr_ob g17 o_a13
      have o_a6 := gr_ob g17 o_a6
      have o_a7 := gr_ob g17 o_a7
      have o_a8 := gr_ob g17 o_a8
      have o_a9 := gr_ob g17 o_a9
      have o_v0 := gr_ob g17 o_v0
      have g0 := gr_tr g0 g17
      intro _
      obtain ⟨a18, ea18, o_a18, -⟩ := sh 3 rfl hI o_v0
      refine ⟨a18, ea18, ?_⟩
      obtain ⟨a19, ea19, o_a19, -⟩ := sh 1 rfl hI o_v0
      refine ⟨a19, ea19, ?_⟩
      refine ⟨o_a19, ?_⟩
      obtain ⟨a20, ea20, o_a20, l_a20⟩ := shl 18 rfl hI o_a19
      refine ⟨a20, ea20, ?_⟩
      refine ⟨o_a20, ?_⟩
      have i22 : vp_in v1 (hN _ a20) := (vin l_a20 (m := 4) (by decide) (q400 p_x1 c4 c5))
      obtain ⟨a21, ea21, o_a21⟩ := ae hI o_a20 (by decide) (by decide) i22
      replace o_a21 : ob _ a21 6 := o_a21
      refine ⟨i22, a21, ea21, ?_⟩
      obtain ⟨a23, ea23, o_a23, -⟩ := sh 1 rfl hI o_v0
      refine ⟨a23, ea23, ?_⟩
      refine ⟨o_a23, ?_⟩
      obtain ⟨a24, ea24, o_a24, l_a24⟩ := shl 18 rfl hI o_a23
      refine ⟨a24, ea24, ?_⟩
      refine ⟨o_a24, ?_⟩
      have i26 : vp_in v2 (hN _ a24) := (vin l_a24 (m := 4) (by decide) (q401 p_x1 c4 c5))
      obtain ⟨a25, ea25, o_a25⟩ := ae hI o_a24 (by decide) (by decide) i26
      replace o_a25 : ob _ a25 6 := o_a25
      refine ⟨i26, a25, ea25, ?_⟩
      refine ⟨o_a18, ?_⟩
      refine m_X1_wetInLee hI o_a18 o_a21 o_a25 (fun x27 S28 hI g29 => ?_)
      have l_a12 := (gr_len g29 o_a12).trans l_a12
      have l_a20 := (gr_len g29 o_a20).trans l_a20
      have l_a24 := (gr_len g29 o_a24).trans l_a24
      have l_a8 := (gr_len g29 o_a8).trans l_a8
      have o_a11 := gr_ob g29 o_a11
      have o_a12 := gr_ob g29 o_a12
      have o_a13 := gr_ob g29 o_a13
      have o_a18 := gr_ob g29 o_a18
      have o_a19 := gr_ob g29 o_a19
      have o_a20 := gr_ob g29 o_a20
      have o_a21 := gr_ob g29 o_a21
      have o_a23 := gr_ob g29 o_a23
      have o_a24 := gr_ob g29 o_a24
      have o_a25 := gr_ob g29 o_a25
      have o_a6 := gr_ob g29 o_a6
      have o_a7 := gr_ob g29 o_a7
      have o_a8 := gr_ob g29 o_a8
      have o_a9 := gr_ob g29 o_a9
      have o_v0 := gr_ob g29 o_v0
      have g0 := gr_tr g0 g29
      intro _
      refine m_X9_fraction hI (fun x30 S31 hI2 g32 p_x30 => ?_)
      subst p_x30
      intro _
      exact hq _ _ hI g0
    · exact hq _ _ hI g0
  · intro _ _
    refine ⟨fun c33 => ?_, fun c33 => ?_⟩
    · obtain ⟨a34, ea34, o_a34, -⟩ := sh 3 rfl hI o_v0
      refine ⟨a34, ea34, ?_⟩
      obtain ⟨a35, ea35, o_a35, -⟩ := sh 1 rfl hI o_v0
      refine ⟨a35, ea35, ?_⟩
      refine ⟨o_a35, ?_⟩
      obtain ⟨a36, ea36, o_a36, l_a36⟩ := shl 17 rfl hI o_a35
      refine ⟨a36, ea36, ?_⟩
      refine ⟨o_a36, ?_⟩
      have i38 : vp_in v3 (hN _ a36) := (vin l_a36 (m := 12) (by decide) (q402 p_x1 c4 c33))
      obtain ⟨a37, ea37, o_a37⟩ := ae hI o_a36 (by decide) (by decide) i38
      replace o_a37 : ob _ a37 5 := o_a37
      refine ⟨i38, a37, ea37, ?_⟩
      obtain ⟨a39, ea39, o_a39, -⟩ := sh 1 rfl hI o_v0
      refine ⟨a39, ea39, ?_⟩
      refine ⟨o_a39, ?_⟩
      obtain ⟨a40, ea40, o_a40, l_a40⟩ := shl 15 rfl hI o_a39
      refine ⟨a40, ea40, ?_⟩
      refine ⟨o_a40, ?_⟩
      have i42 : vp_in v5 (hN _ a40) := (vin l_a40 (m := 6) (by decide) (q403 p_x1 c4 c33))
      obtain ⟨a41, ea41, o_a41⟩ := ae hI o_a40 (by decide) (by decide) i42
      replace o_a41 : ob _ a41 3 := o_a41
      refine ⟨i42, a41, ea41, ?_⟩
      refine ⟨o_a34, ?_⟩
      refine m_X1_lay hI o_a34 o_a37 o_a41 (fun S44 hI g45 => ?_)
      have l_a36 := (gr_len g45 o_a36).trans l_a36
      have l_a40 := (gr_len g45 o_a40).trans l_a40
      have o_a34 := gr_ob g45 o_a34
      have o_a35 := gr_ob g45 o_a35
      have o_a36 := gr_ob g45 o_a36
      have o_a37 := gr_ob g45 o_a37
      have o_a39 := gr_ob g45 o_a39
      have o_a40 := gr_ob g45 o_a40
      have o_a41 := gr_ob g45 o_a41
      have o_v0 := gr_ob g45 o_v0
      have g0 := gr_tr g0 g45
      intro _
      obtain ⟨a46, ea46, o_a46, -⟩ := sh 3 rfl hI o_v0
      refine ⟨a46, ea46, ?_⟩
      obtain ⟨a47, ea47, o_a47, -⟩ := sh 1 rfl hI o_v0
      refine ⟨a47, ea47, ?_⟩
      refine ⟨o_a47, ?_⟩
      obtain ⟨a48, ea48, o_a48, l_a48⟩ := shl 18 rfl hI o_a47
      refine ⟨a48, ea48, ?_⟩
      refine ⟨o_a48, ?_⟩
      have i50 : vp_in v1 (hN _ a48) := (vin l_a48 (m := 4) (by decide) (q404 p_x1 c4 c33))
      obtain ⟨a49, ea49, o_a49⟩ := ae hI o_a48 (by decide) (by decide) i50
      replace o_a49 : ob _ a49 6 := o_a49
      refine ⟨i50, a49, ea49, ?_⟩
      obtain ⟨a51, ea51, o_a51, -⟩ := sh 1 rfl hI o_v0
      refine ⟨a51, ea51, ?_⟩
      refine ⟨o_a51, ?_⟩
      obtain ⟨a52, ea52, o_a52, l_a52⟩ := shl 18 rfl hI o_a51
      refine ⟨a52, ea52, ?_⟩
      refine ⟨o_a52, ?_⟩
      have i54 : vp_in v2 (hN _ a52) := (vin l_a52 (m := 4) (by decide) (q405 p_x1 c4 c33))
      obtain ⟨a53, ea53, o_a53⟩ := ae hI o_a52 (by decide) (by decide) i54
      replace o_a53 : ob _ a53 6 := o_a53
      refine ⟨i54, a53, ea53, ?_⟩
      refine ⟨o_a46, ?_⟩
      refine m_X1_wetInLee hI o_a46 o_a49 o_a53 (fun x55 S56 hI g57 => ?_)
      have l_a36 := (gr_len g57 o_a36).trans l_a36
      have l_a40 := (gr_len g57 o_a40).trans l_a40
      have l_a48 := (gr_len g57 o_a48).trans l_a48
      have l_a52 := (gr_len g57 o_a52).trans l_a52
      have o_a34 := gr_ob g57 o_a34
      have o_a35 := gr_ob g57 o_a35
      have o_a36 := gr_ob g57 o_a36
      have o_a37 := gr_ob g57 o_a37
      have o_a39 := gr_ob g57 o_a39
      have o_a40 := gr_ob g57 o_a40
      have o_a41 := gr_ob g57 o_a41
      have o_a46 := gr_ob g57 o_a46
      have o_a47 := gr_ob g57 o_a47
      have o_a48 := gr_ob g57 o_a48
      have o_a49 := gr_ob g57 o_a49
      have o_a51 := gr_ob g57 o_a51
      have o_a52 := gr_ob g57 o_a52
      have o_a53 := gr_ob g57 o_a53
      have o_v0 := gr_ob g57 o_v0
      have g0 := gr_tr g0 g57
      intro _
      refine m_X9_fraction hI (fun x58 S59 hI2 g60 p_x58 => ?_)
      subst p_x58
      intro _
      exact hq _ _ hI g0
    · exact hq _ _ hI g0
set_option maxHeartbeats 4000000 in
set_option maxRecDepth 20000 in
theorem m_X9_lies {v0 : Nat} {Q : Int32 → HS → Prop} {S : HS} (hI : IV S) (o_v0 : ob S v0 9)     (hq : ∀ (r : Int32) (T : HS), IV T → Gr S T → Q r T) : P_X9_lies v0 Q S := by
  have g0 := gr_rf S
  refine u_X9_lies ?_
  refine u_X9_lies_0 ?_
  refine ⟨o_v0, ?_⟩
  obtain ⟨a1, ea1, o_a1, -⟩ := sh 1 rfl hI o_v0
  refine ⟨a1, ea1, ?_⟩
  refine ⟨o_a1, ?_⟩
  refine m_X8_isTold hI o_a1 (fun x2 S3 hI2 g4 b_x2 p_x2 => ?_)
  subst p_x2
  intro _ _
  have bb_x2 : x2 = 0 ∨ x2 = 1 := b_x2
  refine ⟨fun c5 => ?_, fun c5 => ?_⟩
  · refine i_X9_lies_20 (fun (y0 : Nat) (y1 : Int32) (y2 : Int32) (Z : HS) => ((2147483647 : Int32).toInt - y2.toInt).toNat) (fun (y0 : Nat) (y1 : Int32) (y2 : Int32) (Z : HS) => (IV Z) ∧ (Gr S Z) ∧ (v0 = y0) ∧ (0 ≤ y2)) ?_ _ _ _ _ ⟨hI, (gr_rf _), rfl, (q43)⟩
    intro w8 w10 w11 S6 X12 ⟨hI, gL7, q9, i1⟩ ih13
    subst q9
    have o_a1 := gr_ob gL7 o_a1
    have o_v0 := gr_ob gL7 o_v0
    have g0 := gr_tr g0 gL7
    refine u_X9_lies_20 ?_
    refine ⟨o_v0, ?_⟩
    obtain ⟨a14, ea14, o_a14, -⟩ := sh 1 rfl hI o_v0
    refine ⟨a14, ea14, ?_⟩
    refine ⟨o_a14, ?_⟩
    intro x15 ex15
    have r_x15 : (0 : Int32) ≤ x15 ∧ x15 ≤ (4 : Int32) := by rw [ex15]; exact nu 15 rfl hI o_a14
    refine ⟨fun c16 => ?_, fun c16 => ?_⟩
    · refine u_X9_grant ?_
      refine u_X9_grant_0 ?_
      refine ⟨o_v0, ?_⟩
      have hI := iv_sI (j := 9) (v := (0 : Int32)) hI o_v0 (by decide) (nu_free (by decide))
      intro _
      exact hq _ _ hI g0
    · obtain ⟨a17, ea17, o_a17, -⟩ := sh 3 rfl hI o_v0
      refine ⟨a17, ea17, ?_⟩
      obtain ⟨a18, ea18, o_a18, -⟩ := sh 1 rfl hI o_v0
      refine ⟨a18, ea18, ?_⟩
      refine ⟨o_a17, ?_⟩
      refine m_X1_findFit hI o_a17 o_a18 (fun x19 S20 hI g21 => ?_)
      have o_a1 := gr_ob g21 o_a1
      have o_a14 := gr_ob g21 o_a14
      have o_a17 := gr_ob g21 o_a17
      have o_a18 := gr_ob g21 o_a18
      have o_v0 := gr_ob g21 o_v0
      have g0 := gr_tr g0 g21
      have gL7 := gr_tr gL7 g21
      intro _
      refine ⟨fun c22 => ?_, fun c22 => ?_⟩
      · refine u_X9_lies_54 ?_
        intro x23 ex23
        exact ih13 _ _ _ _ ⟨hI, gL7, rfl, (q375 i1 r_x15 c16 ex23)⟩ (mu_up (q376 i1 r_x15 c16 ex23) (q377 i1 r_x15 c16 ex23))
      · intro x24 ex24
        refine u_X9_lies_54 ?_
        intro x25 ex25
        exact ih13 _ _ _ _ ⟨hI, gL7, rfl, (q378 i1 r_x15 c16 ex24 ex25)⟩ (mu_up (q379 i1 r_x15 c16 ex24 ex25) (q380 i1 r_x15 c16 ex24 ex25))
  · refine u_X9_refuse ?_
    refine u_X9_refuse_0 ?_
    refine ⟨o_v0, ?_⟩
    have hI := iv_sI (j := 9) (v := (1 : Int32)) hI o_v0 (by decide) (nu_free (by decide))
    intro _
    exact hq _ _ hI g0
set_option maxHeartbeats 4000000 in
set_option maxRecDepth 20000 in
theorem m_X9_mark {v0 : Nat} {Q : Int32 → HS → Prop} {S : HS} (hI : IV S) (o_v0 : ob S v0 9)     (hq : ∀ (r : Int32) (T : HS), IV T → Gr S T → Q r T) : P_X9_mark v0 Q S := by
  have g0 := gr_rf S
  refine u_X9_mark ?_
  refine u_X9_mark_0 ?_
  refine ⟨o_v0, ?_⟩
  obtain ⟨a1, ea1, o_a1, -⟩ := sh 5 rfl hI o_v0
  refine ⟨a1, ea1, ?_⟩
  refine ⟨o_a1, ?_⟩
  refine m_X0_isOn hI o_a1 (fun x2 S3 hI2 g4 b_x2 p_x2 => ?_)
  subst p_x2
  intro _ _
  have bb_x2 : x2 = 0 ∨ x2 = 1 := b_x2
  refine ⟨fun c5 => ?_, fun c5 => ?_⟩
  · obtain ⟨a6, ea6, o_a6, -⟩ := sh 5 rfl hI o_v0
    refine ⟨a6, ea6, ?_⟩
    refine ⟨o_a6, ?_⟩
    refine m_X0_setMark hI o_a6 (fun x7 S8 hI g9 => ?_)
    have o_a1 := gr_ob g9 o_a1
    have o_a6 := gr_ob g9 o_a6
    have o_v0 := gr_ob g9 o_v0
    have g0 := gr_tr g0 g9
    intro _
    refine ⟨fun c10 => ?_, fun c10 => ?_⟩
    · refine u_X9_grant ?_
      refine u_X9_grant_0 ?_
      refine ⟨o_v0, ?_⟩
      have hI := iv_sI (j := 9) (v := (0 : Int32)) hI o_v0 (by decide) (nu_free (by decide))
      intro _
      exact hq _ _ hI g0
    · refine u_X9_refuse ?_
      refine u_X9_refuse_0 ?_
      refine ⟨o_v0, ?_⟩
      have hI := iv_sI (j := 9) (v := (3 : Int32)) hI o_v0 (by decide) (nu_free (by decide))
      intro _
      exact hq _ _ hI g0
  · refine u_X9_refuse ?_
    refine u_X9_refuse_0 ?_
    refine ⟨o_v0, ?_⟩
    have hI := iv_sI (j := 9) (v := (1 : Int32)) hI o_v0 (by decide) (nu_free (by decide))
    intro _
    exact hq _ _ hI g0
set_option maxHeartbeats 4000000 in
set_option maxRecDepth 20000 in
theorem m_X9_mean {v0 : Nat} {v1 : Int32} {v2 : Int32} {v3 : Int32} {v4 : Int32} {v5 : Int32} {v6 : Int32} {Q : Int64 → HS → Prop} {S : HS} (hI : IV S) (o_v0 : ob S v0 9)     (hq : ∀ (r : Int64) (T : HS), IV T → Gr S T → Q r T) : P_X9_mean v0 v1 v2 v3 v4 v5 v6 Q S := by
  have g0 := gr_rf S
  refine u_X9_mean ?_
  refine u_X9_mean_0 ?_
  refine ⟨o_v0, ?_⟩
  refine m_X9_legTrouble hI o_v0 (fun x1 S2 hI2 g3 p_x1 => ?_)
  obtain ⟨z_S2, p_x1⟩ := p_x1
  subst z_S2
  intro _
  refine u_X9_refusedBy ?_
  refine u_X9_refusedBy_0 ?_
  refine ⟨o_v0, ?_⟩
  have hI := iv_sI (j := 9) (v := x1) hI o_v0 (by decide) (nu_free (by decide))
  refine ⟨fun c4 => ?_, fun c4 => ?_⟩
  · intro _ _
    refine ⟨fun c5 => ?_, fun c5 => ?_⟩
    · obtain ⟨a6, ea6, o_a6, -⟩ := sh 3 rfl hI o_v0
      refine ⟨a6, ea6, ?_⟩
      obtain ⟨a7, ea7, o_a7, -⟩ := sh 1 rfl hI o_v0
      refine ⟨a7, ea7, ?_⟩
      refine ⟨o_a7, ?_⟩
      obtain ⟨a8, ea8, o_a8, l_a8⟩ := shl 18 rfl hI o_a7
      refine ⟨a8, ea8, ?_⟩
      refine ⟨o_a8, ?_⟩
      have i10 : vp_in v1 (hN _ a8) := (vin l_a8 (m := 4) (by decide) (q0 p_x1 c4 c5))
      obtain ⟨a9, ea9, o_a9⟩ := ae hI o_a8 (by decide) (by decide) i10
      replace o_a9 : ob _ a9 6 := o_a9
      refine ⟨i10, a9, ea9, ?_⟩
      obtain ⟨a11, ea11, o_a11, -⟩ := sh 1 rfl hI o_v0
      refine ⟨a11, ea11, ?_⟩
      refine ⟨o_a11, ?_⟩
      obtain ⟨a12, ea12, o_a12, l_a12⟩ := shl 17 rfl hI o_a11
      refine ⟨a12, ea12, ?_⟩
      refine ⟨o_a12, ?_⟩
      have i14 : vp_in v2 (hN _ a12) := (vin l_a12 (m := 12) (by decide) (q1 p_x1 c4 c5))
      obtain ⟨a13, ea13, o_a13⟩ := ae hI o_a12 (by decide) (by decide) i14
      replace o_a13 : ob _ a13 5 := o_a13
      refine ⟨i14, a13, ea13, ?_⟩
      obtain ⟨a15, ea15, o_a15, -⟩ := sh 1 rfl hI o_v0
      refine ⟨a15, ea15, ?_⟩
      refine ⟨o_a15, ?_⟩
      obtain ⟨a16, ea16, o_a16, l_a16⟩ := shl 15 rfl hI o_a15
      refine ⟨a16, ea16, ?_⟩
      refine ⟨o_a16, ?_⟩
      have i18 : vp_in v4 (hN _ a16) := (vin l_a16 (m := 6) (by decide) (q2 p_x1 c4 c5))
      obtain ⟨a17, ea17, o_a17⟩ := ae hI o_a16 (by decide) (by decide) i18
      replace o_a17 : ob _ a17 3 := o_a17
      refine ⟨i18, a17, ea17, ?_⟩
      refine ⟨o_a6, ?_⟩
      refine m_X1_wetOf hI o_a6 o_a9 o_a13 o_a17 (fun x19 S20 hI g21 => ?_)
      have l_a12 := (gr_len g21 o_a12).trans l_a12
      have l_a16 := (gr_len g21 o_a16).trans l_a16
      have l_a8 := (gr_len g21 o_a8).trans l_a8
      have o_a11 := gr_ob g21 o_a11
      have o_a12 := gr_ob g21 o_a12
      have o_a13 := gr_ob g21 o_a13
      have o_a15 := gr_ob g21 o_a15
      have o_a16 := gr_ob g21 o_a16
      have o_a17 := gr_ob g21 o_a17
      have o_a6 := gr_ob g21 o_a6
      have o_a7 := gr_ob g21 o_a7
      have o_a8 := gr_ob g21 o_a8
      have o_a9 := gr_ob g21 o_a9
      have o_v0 := gr_ob g21 o_v0
      have g0 := gr_tr g0 g21
      intro _
      obtain ⟨a22, ea22, o_a22, -⟩ := sh 1 rfl hI o_v0
      refine ⟨a22, ea22, ?_⟩
      refine ⟨o_a22, ?_⟩
      obtain ⟨a23, ea23, o_a23, l_a23⟩ := shl 15 rfl hI o_a22
      refine ⟨a23, ea23, ?_⟩
      refine ⟨o_a23, ?_⟩
      have i25 : vp_in v4 (hN _ a23) := (vin l_a23 (m := 6) (by decide) (q2 p_x1 c4 c5))
      obtain ⟨a24, ea24, o_a24⟩ := ae hI o_a23 (by decide) (by decide) i25
      replace o_a24 : ob _ a24 3 := o_a24
      refine ⟨i25, a24, ea24, ?_⟩
      refine ⟨o_a24, ?_⟩
      intro x26 ex26
      refine m_X9_fraction hI (fun x27 S28 hI2 g29 p_x27 => ?_)
      subst p_x27
      intro _
      exact hq _ _ hI g0
    · exact hq _ _ hI g0
  · intro _ _
    refine ⟨fun c30 => ?_, fun c30 => ?_⟩
    · obtain ⟨a31, ea31, o_a31, -⟩ := sh 3 rfl hI o_v0
      refine ⟨a31, ea31, ?_⟩
      obtain ⟨a32, ea32, o_a32, -⟩ := sh 1 rfl hI o_v0
      refine ⟨a32, ea32, ?_⟩
      refine ⟨o_a32, ?_⟩
      obtain ⟨a33, ea33, o_a33, l_a33⟩ := shl 18 rfl hI o_a32
      refine ⟨a33, ea33, ?_⟩
      refine ⟨o_a33, ?_⟩
      have i35 : vp_in v1 (hN _ a33) := (vin l_a33 (m := 4) (by decide) (q3 p_x1 c4 c30))
      obtain ⟨a34, ea34, o_a34⟩ := ae hI o_a33 (by decide) (by decide) i35
      replace o_a34 : ob _ a34 6 := o_a34
      refine ⟨i35, a34, ea34, ?_⟩
      obtain ⟨a36, ea36, o_a36, -⟩ := sh 1 rfl hI o_v0
      refine ⟨a36, ea36, ?_⟩
      refine ⟨o_a36, ?_⟩
      obtain ⟨a37, ea37, o_a37, l_a37⟩ := shl 17 rfl hI o_a36
      refine ⟨a37, ea37, ?_⟩
      refine ⟨o_a37, ?_⟩
      have i39 : vp_in v2 (hN _ a37) := (vin l_a37 (m := 12) (by decide) (q4 p_x1 c4 c30))
      obtain ⟨a38, ea38, o_a38⟩ := ae hI o_a37 (by decide) (by decide) i39
      replace o_a38 : ob _ a38 5 := o_a38
      refine ⟨i39, a38, ea38, ?_⟩
      obtain ⟨a40, ea40, o_a40, -⟩ := sh 1 rfl hI o_v0
      refine ⟨a40, ea40, ?_⟩
      refine ⟨o_a40, ?_⟩
      obtain ⟨a41, ea41, o_a41, l_a41⟩ := shl 15 rfl hI o_a40
      refine ⟨a41, ea41, ?_⟩
      refine ⟨o_a41, ?_⟩
      have i43 : vp_in v4 (hN _ a41) := (vin l_a41 (m := 6) (by decide) (q5 p_x1 c4 c30))
      obtain ⟨a42, ea42, o_a42⟩ := ae hI o_a41 (by decide) (by decide) i43
      replace o_a42 : ob _ a42 3 := o_a42
      refine ⟨i43, a42, ea42, ?_⟩
      refine ⟨o_a31, ?_⟩
      refine m_X1_wetOf hI o_a31 o_a34 o_a38 o_a42 (fun x44 S45 hI g46 => ?_)
      have l_a33 := (gr_len g46 o_a33).trans l_a33
      have l_a37 := (gr_len g46 o_a37).trans l_a37
      have l_a41 := (gr_len g46 o_a41).trans l_a41
      have o_a31 := gr_ob g46 o_a31
      have o_a32 := gr_ob g46 o_a32
      have o_a33 := gr_ob g46 o_a33
      have o_a34 := gr_ob g46 o_a34
      have o_a36 := gr_ob g46 o_a36
      have o_a37 := gr_ob g46 o_a37
      have o_a38 := gr_ob g46 o_a38
      have o_a40 := gr_ob g46 o_a40
      have o_a41 := gr_ob g46 o_a41
      have o_a42 := gr_ob g46 o_a42
      have o_v0 := gr_ob g46 o_v0
      have g0 := gr_tr g0 g46
      intro _
      obtain ⟨a47, ea47, o_a47, -⟩ := sh 1 rfl hI o_v0
      refine ⟨a47, ea47, ?_⟩
      refine ⟨o_a47, ?_⟩
      obtain ⟨a48, ea48, o_a48, l_a48⟩ := shl 15 rfl hI o_a47
      refine ⟨a48, ea48, ?_⟩
      refine ⟨o_a48, ?_⟩
      have i50 : vp_in v4 (hN _ a48) := (vin l_a48 (m := 6) (by decide) (q5 p_x1 c4 c30))
      obtain ⟨a49, ea49, o_a49⟩ := ae hI o_a48 (by decide) (by decide) i50
      replace o_a49 : ob _ a49 3 := o_a49
      refine ⟨i50, a49, ea49, ?_⟩
      refine ⟨o_a49, ?_⟩
      intro x51 ex51
      refine m_X9_fraction hI (fun x52 S53 hI2 g54 p_x52 => ?_)
      subst p_x52
      intro _
      exact hq _ _ hI g0
    · exact hq _ _ hI g0
set_option maxHeartbeats 4000000 in
set_option maxRecDepth 20000 in
theorem m_X9_minutes {v0 : Nat} {v1 : Int32} {v2 : Int32} {v3 : Int32} {Q : Int32 → HS → Prop} {S : HS} (hI : IV S) (o_v0 : ob S v0 9)     (hq : ∀ (r : Int32) (T : HS), IV T → Gr S T → Q r T) : P_X9_minutes v0 v1 v2 v3 Q S := by
  have g0 := gr_rf S
  refine u_X9_minutes ?_
  refine u_X9_minutes_0 ?_
  refine ⟨o_v0, ?_⟩
  obtain ⟨a1, ea1, o_a1, -⟩ := sh 1 rfl hI o_v0
  refine ⟨a1, ea1, ?_⟩
  refine ⟨o_a1, ?_⟩
  refine m_X8_hasWalker hI o_a1 (fun x2 S3 hI2 g4 b_x2 p_x2 => ?_)
  obtain ⟨z_S3, p_x2⟩ := p_x2
  subst z_S3
  intro _ _
  have bb_x2 : x2 = 0 ∨ x2 = 1 := b_x2
  refine ⟨fun c5 => ?_, fun c5 => ?_⟩
  · refine u_X9_minutes_22 ?_
    refine ⟨o_v0, ?_⟩
    refine u_X9_refuse ?_
    refine u_X9_refuse_0 ?_
    refine ⟨o_v0, ?_⟩
    have hI := iv_sI (j := 9) (v := (1 : Int32)) hI o_v0 (by decide) (nu_free (by decide))
    intro _
    exact hq _ _ hI g0
  · obtain ⟨a6, ea6, o_a6, -⟩ := sh 1 rfl hI o_v0
    refine ⟨a6, ea6, ?_⟩
    refine ⟨o_a6, ?_⟩
    refine m_X8_hasRoad hI o_a6 (fun x7 S8 hI2 g9 b_x7 p_x7 => ?_)
    obtain ⟨z_S8, p_x7⟩ := p_x7
    subst z_S8
    intro _ _
    have bb_x7 : x7 = 0 ∨ x7 = 1 := b_x7
    refine ⟨fun c10 => ?_, fun c10 => ?_⟩
    · obtain ⟨a11, ea11, o_a11, -⟩ := sh 1 rfl hI o_v0
      refine ⟨a11, ea11, ?_⟩
      refine ⟨o_a11, ?_⟩
      obtain ⟨a12, ea12, o_a12, l_a12⟩ := shl 18 rfl hI o_a11
      refine ⟨a12, ea12, ?_⟩
      refine ⟨o_a12, ?_⟩
      have i14 : vp_in v1 (hN _ a12) := (vin l_a12 (m := 4) (by decide) (q230 p_x2 bb_x2 c5))
      obtain ⟨a13, ea13, o_a13⟩ := ae hI o_a12 (by decide) (by decide) i14
      replace o_a13 : ob _ a13 6 := o_a13
      refine ⟨i14, a13, ea13, ?_⟩
      refine ⟨o_a13, ?_⟩
      refine m_X6_canGo hI o_a13 (fun x15 S16 hI2 g17 b_x15 p_x15 => ?_)
      subst p_x15
      intro _ _
      have bb_x15 : x15 = 0 ∨ x15 = 1 := b_x15
      refine ⟨fun c18 => ?_, fun c18 => ?_⟩
      · obtain ⟨a19, ea19, o_a19, -⟩ := sh 1 rfl hI o_v0
        refine ⟨a19, ea19, ?_⟩
        refine ⟨o_a19, ?_⟩
        obtain ⟨a20, ea20, o_a20, l_a20⟩ := shl 17 rfl hI o_a19
        refine ⟨a20, ea20, ?_⟩
        refine ⟨o_a20, ?_⟩
        have i22 : vp_in v2 (hN _ a20) := (vin l_a20 (m := 12) (by decide) (q275 p_x7 bb_x7 c10))
        obtain ⟨a21, ea21, o_a21⟩ := ae hI o_a20 (by decide) (by decide) i22
        replace o_a21 : ob _ a21 5 := o_a21
        refine ⟨i22, a21, ea21, ?_⟩
        refine ⟨o_a21, ?_⟩
        refine m_X5_minutesAt hI o_a21 (fun x23 S24 hI2 g25 p_x23 => ?_)
        subst p_x23
        intro _
        refine u_X9_grant ?_
        refine u_X9_grant_0 ?_
        refine ⟨o_v0, ?_⟩
        have hI := iv_sI (j := 9) (v := (0 : Int32)) hI o_v0 (by decide) (nu_free (by decide))
        intro _
        exact hq _ _ hI g0
      · refine u_X9_refuse ?_
        refine u_X9_refuse_0 ?_
        refine ⟨o_v0, ?_⟩
        have hI := iv_sI (j := 9) (v := (2 : Int32)) hI o_v0 (by decide) (nu_free (by decide))
        intro _
        exact hq _ _ hI g0
    · refine u_X9_minutes_22 ?_
      refine ⟨o_v0, ?_⟩
      refine u_X9_refuse ?_
      refine u_X9_refuse_0 ?_
      refine ⟨o_v0, ?_⟩
      have hI := iv_sI (j := 9) (v := (1 : Int32)) hI o_v0 (by decide) (nu_free (by decide))
      intro _
      exact hq _ _ hI g0
set_option maxHeartbeats 4000000 in
set_option maxRecDepth 20000 in
theorem m_X9_off {v0 : Nat} {v1 : Int32} {v2 : Int32} {v3 : Int32} {v4 : Int32} {Q : Int32 → HS → Prop} {S : HS} (hI : IV S) (o_v0 : ob S v0 9)     (hq : ∀ (r : Int32) (T : HS), IV T → Gr S T → Q r T) : P_X9_off v0 v1 v2 v3 v4 Q S := by
  have g0 := gr_rf S
  refine u_X9_off ?_
  refine u_X9_off_0 ?_
  refine ⟨o_v0, ?_⟩
  refine m_X9_placesTrouble hI o_v0 (fun x1 S2 hI2 g3 p_x1 => ?_)
  obtain ⟨z_S2, p_x1⟩ := p_x1
  subst z_S2
  intro _
  refine ⟨fun c4 => ?_, fun c4 => ?_⟩
  · refine u_X9_off_25 ?_
    refine ⟨o_v0, ?_⟩
    refine u_X9_refusedBy ?_
    refine u_X9_refusedBy_0 ?_
    refine ⟨o_v0, ?_⟩
    have hI := iv_sI (j := 9) (v := x1) hI o_v0 (by decide) (nu_free (by decide))
    refine ⟨fun c5 => ?_, fun c5 => ?_⟩
    · intro _ _
      refine ⟨fun c6 => ?_, fun c6 => ?_⟩
      · obtain ⟨a7, ea7, o_a7, -⟩ := sh 4 rfl hI o_v0
        refine ⟨a7, ea7, ?_⟩
        obtain ⟨a8, ea8, o_a8, -⟩ := sh 1 rfl hI o_v0
        refine ⟨a8, ea8, ?_⟩
        obtain ⟨a9, ea9, o_a9, -⟩ := sh 3 rfl hI o_v0
        refine ⟨a9, ea9, ?_⟩
        refine ⟨o_a7, ?_⟩
        refine m_X7_reckon hI o_a7 o_a8 o_a9 (fun S11 hI g12 => ?_)
        have o_a7 := gr_ob g12 o_a7
        have o_a8 := gr_ob g12 o_a8
        have o_a9 := gr_ob g12 o_a9
        have o_v0 := gr_ob g12 o_v0
        have g0 := gr_tr g0 g12
        intro _
        refine i_X9_off_62 (fun (y0 : Nat) (y2 : Int32) (y4 : Int32) (y6 : Int32) (y7 : Int32) (Z : HS) => ((2147483647 : Int32).toInt - y7.toInt).toNat) (fun (y0 : Nat) (y2 : Int32) (y4 : Int32) (y6 : Int32) (y7 : Int32) (Z : HS) => (S11 = Z) ∧ (v0 = y0) ∧ (v2 = y2) ∧ (v4 = y4) ∧ (0 ≤ y7)) ?_ _ _ _ _ _ _ ⟨rfl, rfl, rfl, rfl, (q254 c6)⟩
        intro w15 w17 w19 w21 w22 S13 X23 ⟨eS13, q16, q18, q20, i1⟩ ih24
        subst q16
        subst q18
        subst q20
        subst eS13
        refine u_X9_off_62 ?_
        refine ⟨fun c25 => ?_, fun c25 => ?_⟩
        · refine ⟨fun c26 => ?_, fun c26 => ?_⟩
          · exact hq _ _ hI g0
          · refine ⟨o_v0, ?_⟩
            refine u_X9_refuse ?_
            refine u_X9_refuse_0 ?_
            refine ⟨o_v0, ?_⟩
            have hI := iv_sI (j := 9) (v := (6 : Int32)) hI o_v0 (by decide) (nu_free (by decide))
            intro _
            exact hq _ _ hI g0
        · refine ⟨fun c27 => ?_, fun c27 => ?_⟩
          · refine u_X9_off_99 ?_
            refine u_X9_off_104 ?_
            refine ⟨o_v0, ?_⟩
            obtain ⟨a28, ea28, o_a28, -⟩ := sh 4 rfl hI o_v0
            refine ⟨a28, ea28, ?_⟩
            refine ⟨o_a28, ?_⟩
            refine m_X7_isOpen hI o_a28 (fun x29 S30 hI2 g31 b_x29 p_x29 => ?_)
            subst p_x29
            intro _ _
            have bb_x29 : x29 = 0 ∨ x29 = 1 := b_x29
            refine ⟨fun c32 => ?_, fun c32 => ?_⟩
            · refine u_X9_off_128 ?_
              intro x33 ex33
              exact ih24 _ _ _ _ _ _ ⟨rfl, rfl, rfl, rfl, (q281 c6 i1 c25 ex33)⟩ (mu_up (q282 c6 i1 c25 ex33) (q283 c6 i1 c25 ex33))
            · refine ⟨fun c34 => ?_, fun c34 => ?_⟩
              · refine u_X9_off_128 ?_
                intro x35 ex35
                exact ih24 _ _ _ _ _ _ ⟨rfl, rfl, rfl, rfl, (q284 c6 i1 c25 c34 ex35)⟩ (mu_up (q285 c6 i1 c25 c34 ex35) (q286 c6 i1 c25 c34 ex35))
              · refine u_X9_off_128 ?_
                intro x36 ex36
                exact ih24 _ _ _ _ _ _ ⟨rfl, rfl, rfl, rfl, (q287 c6 i1 c25 c34 ex36)⟩ (mu_up (q288 c6 i1 c25 c34 ex36) (q289 c6 i1 c25 c34 ex36))
          · refine ⟨o_v0, ?_⟩
            obtain ⟨a37, ea37, o_a37, -⟩ := sh 4 rfl hI o_v0
            refine ⟨a37, ea37, ?_⟩
            refine ⟨o_a37, ?_⟩
            refine m_X7_meanFrom hI o_a37 (fun x38 S39 hI2 g40 p_x38 => ?_)
            subst p_x38
            intro _
            obtain ⟨a41, ea41, o_a41, -⟩ := sh 4 rfl hI o_v0
            refine ⟨a41, ea41, ?_⟩
            refine ⟨o_a41, ?_⟩
            refine m_X7_meanFrom hI o_a41 (fun x42 S43 hI2 g44 p_x42 => ?_)
            subst p_x42
            intro _
            refine ⟨fun c45 => ?_, fun c45 => ?_⟩
            · refine u_X9_off_104 ?_
              refine ⟨o_v0, ?_⟩
              obtain ⟨a46, ea46, o_a46, -⟩ := sh 4 rfl hI o_v0
              refine ⟨a46, ea46, ?_⟩
              refine ⟨o_a46, ?_⟩
              refine m_X7_isOpen hI o_a46 (fun x47 S48 hI2 g49 b_x47 p_x47 => ?_)
              subst p_x47
              intro _ _
              have bb_x47 : x47 = 0 ∨ x47 = 1 := b_x47
              refine ⟨fun c50 => ?_, fun c50 => ?_⟩
              · refine u_X9_off_128 ?_
                intro x51 ex51
                exact ih24 _ _ _ _ _ _ ⟨rfl, rfl, rfl, rfl, (q281 c6 i1 c25 ex51)⟩ (mu_up (q282 c6 i1 c25 ex51) (q283 c6 i1 c25 ex51))
              · refine ⟨fun c52 => ?_, fun c52 => ?_⟩
                · refine u_X9_off_128 ?_
                  intro x53 ex53
                  exact ih24 _ _ _ _ _ _ ⟨rfl, rfl, rfl, rfl, (q290 c6 i1 c25 c52 ex53)⟩ (mu_up (q291 c6 i1 c25 c52 ex53) (q292 c6 i1 c25 c52 ex53))
                · refine u_X9_off_128 ?_
                  intro x54 ex54
                  exact ih24 _ _ _ _ _ _ ⟨rfl, rfl, rfl, rfl, (q293 c6 i1 c25 c52 ex54)⟩ (mu_up (q294 c6 i1 c25 c52 ex54) (q295 c6 i1 c25 c52 ex54))
            · refine u_X9_off_99 ?_
              refine u_X9_off_104 ?_
              refine ⟨o_v0, ?_⟩
              obtain ⟨a55, ea55, o_a55, -⟩ := sh 4 rfl hI o_v0
              refine ⟨a55, ea55, ?_⟩
              refine ⟨o_a55, ?_⟩
              refine m_X7_isOpen hI o_a55 (fun x56 S57 hI2 g58 b_x56 p_x56 => ?_)
              subst p_x56
              intro _ _
              have bb_x56 : x56 = 0 ∨ x56 = 1 := b_x56
              refine ⟨fun c59 => ?_, fun c59 => ?_⟩
              · refine u_X9_off_128 ?_
                intro x60 ex60
                exact ih24 _ _ _ _ _ _ ⟨rfl, rfl, rfl, rfl, (q281 c6 i1 c25 ex60)⟩ (mu_up (q282 c6 i1 c25 ex60) (q283 c6 i1 c25 ex60))
              · refine ⟨fun c61 => ?_, fun c61 => ?_⟩
                · refine u_X9_off_128 ?_
                  intro x62 ex62
                  exact ih24 _ _ _ _ _ _ ⟨rfl, rfl, rfl, rfl, (q284 c6 i1 c25 c61 ex62)⟩ (mu_up (q285 c6 i1 c25 c61 ex62) (q286 c6 i1 c25 c61 ex62))
                · refine u_X9_off_128 ?_
                  intro x63 ex63
                  exact ih24 _ _ _ _ _ _ ⟨rfl, rfl, rfl, rfl, (q287 c6 i1 c25 c61 ex63)⟩ (mu_up (q288 c6 i1 c25 c61 ex63) (q289 c6 i1 c25 c61 ex63))
      · exact hq _ _ hI g0
    · intro _ _
      refine ⟨fun c64 => ?_, fun c64 => ?_⟩
      · obtain ⟨a65, ea65, o_a65, -⟩ := sh 4 rfl hI o_v0
        refine ⟨a65, ea65, ?_⟩
        obtain ⟨a66, ea66, o_a66, -⟩ := sh 1 rfl hI o_v0
        refine ⟨a66, ea66, ?_⟩
        obtain ⟨a67, ea67, o_a67, -⟩ := sh 3 rfl hI o_v0
        refine ⟨a67, ea67, ?_⟩
        refine ⟨o_a65, ?_⟩
        refine m_X7_reckon hI o_a65 o_a66 o_a67 (fun S69 hI g70 => ?_)
        have o_a65 := gr_ob g70 o_a65
        have o_a66 := gr_ob g70 o_a66
        have o_a67 := gr_ob g70 o_a67
        have o_v0 := gr_ob g70 o_v0
        have g0 := gr_tr g0 g70
        intro _
        refine i_X9_off_62 (fun (y0 : Nat) (y2 : Int32) (y4 : Int32) (y6 : Int32) (y7 : Int32) (Z : HS) => ((2147483647 : Int32).toInt - y7.toInt).toNat) (fun (y0 : Nat) (y2 : Int32) (y4 : Int32) (y6 : Int32) (y7 : Int32) (Z : HS) => (S69 = Z) ∧ (v0 = y0) ∧ (v2 = y2) ∧ (v4 = y4) ∧ (0 ≤ y7)) ?_ _ _ _ _ _ _ ⟨rfl, rfl, rfl, rfl, (q260 c64)⟩
        intro w73 w75 w77 w79 w80 S71 X81 ⟨eS71, q74, q76, q78, i1⟩ ih82
        subst q74
        subst q76
        subst q78
        subst eS71
        refine u_X9_off_62 ?_
        refine ⟨fun c83 => ?_, fun c83 => ?_⟩
        · refine ⟨fun c84 => ?_, fun c84 => ?_⟩
          · exact hq _ _ hI g0
          · refine ⟨o_v0, ?_⟩
            refine u_X9_refuse ?_
            refine u_X9_refuse_0 ?_
            refine ⟨o_v0, ?_⟩
            have hI := iv_sI (j := 9) (v := (6 : Int32)) hI o_v0 (by decide) (nu_free (by decide))
            intro _
            exact hq _ _ hI g0
        · refine ⟨fun c85 => ?_, fun c85 => ?_⟩
          · refine u_X9_off_99 ?_
            refine u_X9_off_104 ?_
            refine ⟨o_v0, ?_⟩
            obtain ⟨a86, ea86, o_a86, -⟩ := sh 4 rfl hI o_v0
            refine ⟨a86, ea86, ?_⟩
            refine ⟨o_a86, ?_⟩
            refine m_X7_isOpen hI o_a86 (fun x87 S88 hI2 g89 b_x87 p_x87 => ?_)
            subst p_x87
            intro _ _
            have bb_x87 : x87 = 0 ∨ x87 = 1 := b_x87
            refine ⟨fun c90 => ?_, fun c90 => ?_⟩
            · refine u_X9_off_128 ?_
              intro x91 ex91
              exact ih82 _ _ _ _ _ _ ⟨rfl, rfl, rfl, rfl, (q296 c64 i1 c83 ex91)⟩ (mu_up (q297 c64 i1 c83 ex91) (q298 c64 i1 c83 ex91))
            · refine ⟨fun c92 => ?_, fun c92 => ?_⟩
              · refine u_X9_off_128 ?_
                intro x93 ex93
                exact ih82 _ _ _ _ _ _ ⟨rfl, rfl, rfl, rfl, (q299 c64 i1 c83 c92 ex93)⟩ (mu_up (q300 c64 i1 c83 c92 ex93) (q301 c64 i1 c83 c92 ex93))
              · refine u_X9_off_128 ?_
                intro x94 ex94
                exact ih82 _ _ _ _ _ _ ⟨rfl, rfl, rfl, rfl, (q302 c64 i1 c83 c92 ex94)⟩ (mu_up (q303 c64 i1 c83 c92 ex94) (q304 c64 i1 c83 c92 ex94))
          · refine ⟨o_v0, ?_⟩
            obtain ⟨a95, ea95, o_a95, -⟩ := sh 4 rfl hI o_v0
            refine ⟨a95, ea95, ?_⟩
            refine ⟨o_a95, ?_⟩
            refine m_X7_meanFrom hI o_a95 (fun x96 S97 hI2 g98 p_x96 => ?_)
            subst p_x96
            intro _
            obtain ⟨a99, ea99, o_a99, -⟩ := sh 4 rfl hI o_v0
            refine ⟨a99, ea99, ?_⟩
            refine ⟨o_a99, ?_⟩
            refine m_X7_meanFrom hI o_a99 (fun x100 S101 hI2 g102 p_x100 => ?_)
            subst p_x100
            intro _
            refine ⟨fun c103 => ?_, fun c103 => ?_⟩
            · refine u_X9_off_104 ?_
              refine ⟨o_v0, ?_⟩
              obtain ⟨a104, ea104, o_a104, -⟩ := sh 4 rfl hI o_v0
              refine ⟨a104, ea104, ?_⟩
              refine ⟨o_a104, ?_⟩
              refine m_X7_isOpen hI o_a104 (fun x105 S106 hI2 g107 b_x105 p_x105 => ?_)
              subst p_x105
              intro _ _
              have bb_x105 : x105 = 0 ∨ x105 = 1 := b_x105
              refine ⟨fun c108 => ?_, fun c108 => ?_⟩
              · refine u_X9_off_128 ?_
                intro x109 ex109
                exact ih82 _ _ _ _ _ _ ⟨rfl, rfl, rfl, rfl, (q296 c64 i1 c83 ex109)⟩ (mu_up (q297 c64 i1 c83 ex109) (q298 c64 i1 c83 ex109))
              · refine ⟨fun c110 => ?_, fun c110 => ?_⟩
                · refine u_X9_off_128 ?_
                  intro x111 ex111
                  exact ih82 _ _ _ _ _ _ ⟨rfl, rfl, rfl, rfl, (q305 c64 i1 c83 c110 ex111)⟩ (mu_up (q306 c64 i1 c83 c110 ex111) (q307 c64 i1 c83 c110 ex111))
                · refine u_X9_off_128 ?_
                  intro x112 ex112
                  exact ih82 _ _ _ _ _ _ ⟨rfl, rfl, rfl, rfl, (q308 c64 i1 c83 c110 ex112)⟩ (mu_up (q309 c64 i1 c83 c110 ex112) (q310 c64 i1 c83 c110 ex112))
            · refine u_X9_off_99 ?_
              refine u_X9_off_104 ?_
              refine ⟨o_v0, ?_⟩
              obtain ⟨a113, ea113, o_a113, -⟩ := sh 4 rfl hI o_v0
              refine ⟨a113, ea113, ?_⟩
              refine ⟨o_a113, ?_⟩
              refine m_X7_isOpen hI o_a113 (fun x114 S115 hI2 g116 b_x114 p_x114 => ?_)
              subst p_x114
              intro _ _
              have bb_x114 : x114 = 0 ∨ x114 = 1 := b_x114
              refine ⟨fun c117 => ?_, fun c117 => ?_⟩
              · refine u_X9_off_128 ?_
                intro x118 ex118
                exact ih82 _ _ _ _ _ _ ⟨rfl, rfl, rfl, rfl, (q296 c64 i1 c83 ex118)⟩ (mu_up (q297 c64 i1 c83 ex118) (q298 c64 i1 c83 ex118))
              · refine ⟨fun c119 => ?_, fun c119 => ?_⟩
                · refine u_X9_off_128 ?_
                  intro x120 ex120
                  exact ih82 _ _ _ _ _ _ ⟨rfl, rfl, rfl, rfl, (q299 c64 i1 c83 c119 ex120)⟩ (mu_up (q300 c64 i1 c83 c119 ex120) (q301 c64 i1 c83 c119 ex120))
                · refine u_X9_off_128 ?_
                  intro x121 ex121
                  exact ih82 _ _ _ _ _ _ ⟨rfl, rfl, rfl, rfl, (q302 c64 i1 c83 c119 ex121)⟩ (mu_up (q303 c64 i1 c83 c119 ex121) (q304 c64 i1 c83 c119 ex121))
      · exact hq _ _ hI g0
  · refine m_X9_isTill hI (fun x122 S123 hI2 g124 b_x122 p_x122 => ?_)
    obtain ⟨z_S123, p_x122⟩ := p_x122
    subst z_S123
    intro _ _
    have bb_x122 : x122 = 0 ∨ x122 = 1 := b_x122
    refine ⟨fun c125 => ?_, fun c125 => ?_⟩
    · refine u_X9_off_25 ?_
      refine ⟨o_v0, ?_⟩
      refine u_X9_refusedBy ?_
      refine u_X9_refusedBy_0 ?_
      refine ⟨o_v0, ?_⟩
      have hI := iv_sI (j := 9) (v := x1) hI o_v0 (by decide) (nu_free (by decide))
      refine ⟨fun c126 => ?_, fun c126 => ?_⟩
      · intro _ _
        refine ⟨fun c127 => ?_, fun c127 => ?_⟩
        · obtain ⟨a128, ea128, o_a128, -⟩ := sh 4 rfl hI o_v0
          refine ⟨a128, ea128, ?_⟩
          obtain ⟨a129, ea129, o_a129, -⟩ := sh 1 rfl hI o_v0
          refine ⟨a129, ea129, ?_⟩
          obtain ⟨a130, ea130, o_a130, -⟩ := sh 3 rfl hI o_v0
          refine ⟨a130, ea130, ?_⟩
          refine ⟨o_a128, ?_⟩
          refine m_X7_reckon hI o_a128 o_a129 o_a130 (fun S132 hI g133 => ?_)
          have o_a128 := gr_ob g133 o_a128
          have o_a129 := gr_ob g133 o_a129
          have o_a130 := gr_ob g133 o_a130
          have o_v0 := gr_ob g133 o_v0
          have g0 := gr_tr g0 g133
          intro _
          refine i_X9_off_62 (fun (y0 : Nat) (y2 : Int32) (y4 : Int32) (y6 : Int32) (y7 : Int32) (Z : HS) => ((2147483647 : Int32).toInt - y7.toInt).toNat) (fun (y0 : Nat) (y2 : Int32) (y4 : Int32) (y6 : Int32) (y7 : Int32) (Z : HS) => (S132 = Z) ∧ (v0 = y0) ∧ (v2 = y2) ∧ (v4 = y4) ∧ (0 ≤ y7)) ?_ _ _ _ _ _ _ ⟨rfl, rfl, rfl, rfl, (q254 c127)⟩
          intro w136 w138 w140 w142 w143 S134 X144 ⟨eS134, q137, q139, q141, i1⟩ ih145
          subst q137
          subst q139
          subst q141
          subst eS134
          refine u_X9_off_62 ?_
          refine ⟨fun c146 => ?_, fun c146 => ?_⟩
          · refine ⟨fun c147 => ?_, fun c147 => ?_⟩
            · exact hq _ _ hI g0
            · refine ⟨o_v0, ?_⟩
              refine u_X9_refuse ?_
              refine u_X9_refuse_0 ?_
              refine ⟨o_v0, ?_⟩
              have hI := iv_sI (j := 9) (v := (6 : Int32)) hI o_v0 (by decide) (nu_free (by decide))
              intro _
              exact hq _ _ hI g0
          · refine ⟨fun c148 => ?_, fun c148 => ?_⟩
            · refine u_X9_off_99 ?_
              refine u_X9_off_104 ?_
              refine ⟨o_v0, ?_⟩
              obtain ⟨a149, ea149, o_a149, -⟩ := sh 4 rfl hI o_v0
              refine ⟨a149, ea149, ?_⟩
              refine ⟨o_a149, ?_⟩
              refine m_X7_isOpen hI o_a149 (fun x150 S151 hI2 g152 b_x150 p_x150 => ?_)
              subst p_x150
              intro _ _
              have bb_x150 : x150 = 0 ∨ x150 = 1 := b_x150
              refine ⟨fun c153 => ?_, fun c153 => ?_⟩
              · refine u_X9_off_128 ?_
                intro x154 ex154
                exact ih145 _ _ _ _ _ _ ⟨rfl, rfl, rfl, rfl, (q311 p_x122 bb_x122 c125 c127 i1 c146 ex154)⟩ (mu_up (q312 p_x122 bb_x122 c125 c127 i1 c146 ex154) (q313 p_x122 bb_x122 c125 c127 i1 c146 ex154))
              · refine ⟨fun c155 => ?_, fun c155 => ?_⟩
                · refine u_X9_off_128 ?_
                  intro x156 ex156
                  exact ih145 _ _ _ _ _ _ ⟨rfl, rfl, rfl, rfl, (q314 p_x122 bb_x122 c125 c127 i1 c146 c155 ex156)⟩ (mu_up (q315 p_x122 bb_x122 c125 c127 i1 c146 c155 ex156) (q316 p_x122 bb_x122 c125 c127 i1 c146 c155 ex156))
                · refine u_X9_off_128 ?_
                  intro x157 ex157
                  exact ih145 _ _ _ _ _ _ ⟨rfl, rfl, rfl, rfl, (q317 p_x122 bb_x122 c125 c127 i1 c146 c155 ex157)⟩ (mu_up (q318 p_x122 bb_x122 c125 c127 i1 c146 c155 ex157) (q319 p_x122 bb_x122 c125 c127 i1 c146 c155 ex157))
            · refine ⟨o_v0, ?_⟩
              obtain ⟨a158, ea158, o_a158, -⟩ := sh 4 rfl hI o_v0
              refine ⟨a158, ea158, ?_⟩
              refine ⟨o_a158, ?_⟩
              refine m_X7_meanFrom hI o_a158 (fun x159 S160 hI2 g161 p_x159 => ?_)
              subst p_x159
              intro _
              obtain ⟨a162, ea162, o_a162, -⟩ := sh 4 rfl hI o_v0
              refine ⟨a162, ea162, ?_⟩
              refine ⟨o_a162, ?_⟩
              refine m_X7_meanFrom hI o_a162 (fun x163 S164 hI2 g165 p_x163 => ?_)
              subst p_x163
              intro _
              refine ⟨fun c166 => ?_, fun c166 => ?_⟩
              · refine u_X9_off_104 ?_
                refine ⟨o_v0, ?_⟩
                obtain ⟨a167, ea167, o_a167, -⟩ := sh 4 rfl hI o_v0
                refine ⟨a167, ea167, ?_⟩
                refine ⟨o_a167, ?_⟩
                refine m_X7_isOpen hI o_a167 (fun x168 S169 hI2 g170 b_x168 p_x168 => ?_)
                subst p_x168
                intro _ _
                have bb_x168 : x168 = 0 ∨ x168 = 1 := b_x168
                refine ⟨fun c171 => ?_, fun c171 => ?_⟩
                · refine u_X9_off_128 ?_
                  intro x172 ex172
                  exact ih145 _ _ _ _ _ _ ⟨rfl, rfl, rfl, rfl, (q311 p_x122 bb_x122 c125 c127 i1 c146 ex172)⟩ (mu_up (q312 p_x122 bb_x122 c125 c127 i1 c146 ex172) (q313 p_x122 bb_x122 c125 c127 i1 c146 ex172))
                · refine ⟨fun c173 => ?_, fun c173 => ?_⟩
                  · refine u_X9_off_128 ?_
                    intro x174 ex174
                    exact ih145 _ _ _ _ _ _ ⟨rfl, rfl, rfl, rfl, (q320 p_x122 bb_x122 c125 c127 i1 c146 c173 ex174)⟩ (mu_up (q321 p_x122 bb_x122 c125 c127 i1 c146 c173 ex174) (q322 p_x122 bb_x122 c125 c127 i1 c146 c173 ex174))
                  · refine u_X9_off_128 ?_
                    intro x175 ex175
                    exact ih145 _ _ _ _ _ _ ⟨rfl, rfl, rfl, rfl, (q323 p_x122 bb_x122 c125 c127 i1 c146 c173 ex175)⟩ (mu_up (q324 p_x122 bb_x122 c125 c127 i1 c146 c173 ex175) (q325 p_x122 bb_x122 c125 c127 i1 c146 c173 ex175))
              · refine u_X9_off_99 ?_
                refine u_X9_off_104 ?_
                refine ⟨o_v0, ?_⟩
                obtain ⟨a176, ea176, o_a176, -⟩ := sh 4 rfl hI o_v0
                refine ⟨a176, ea176, ?_⟩
                refine ⟨o_a176, ?_⟩
                refine m_X7_isOpen hI o_a176 (fun x177 S178 hI2 g179 b_x177 p_x177 => ?_)
                subst p_x177
                intro _ _
                have bb_x177 : x177 = 0 ∨ x177 = 1 := b_x177
                refine ⟨fun c180 => ?_, fun c180 => ?_⟩
                · refine u_X9_off_128 ?_
                  intro x181 ex181
                  exact ih145 _ _ _ _ _ _ ⟨rfl, rfl, rfl, rfl, (q311 p_x122 bb_x122 c125 c127 i1 c146 ex181)⟩ (mu_up (q312 p_x122 bb_x122 c125 c127 i1 c146 ex181) (q313 p_x122 bb_x122 c125 c127 i1 c146 ex181))
                · refine ⟨fun c182 => ?_, fun c182 => ?_⟩
                  · refine u_X9_off_128 ?_
                    intro x183 ex183
                    exact ih145 _ _ _ _ _ _ ⟨rfl, rfl, rfl, rfl, (q314 p_x122 bb_x122 c125 c127 i1 c146 c182 ex183)⟩ (mu_up (q315 p_x122 bb_x122 c125 c127 i1 c146 c182 ex183) (q316 p_x122 bb_x122 c125 c127 i1 c146 c182 ex183))
                  · refine u_X9_off_128 ?_
                    intro x184 ex184
                    exact ih145 _ _ _ _ _ _ ⟨rfl, rfl, rfl, rfl, (q317 p_x122 bb_x122 c125 c127 i1 c146 c182 ex184)⟩ (mu_up (q318 p_x122 bb_x122 c125 c127 i1 c146 c182 ex184) (q319 p_x122 bb_x122 c125 c127 i1 c146 c182 ex184))
        · exact hq _ _ hI g0
      · intro _ _
        refine ⟨fun c185 => ?_, fun c185 => ?_⟩
        · obtain ⟨a186, ea186, o_a186, -⟩ := sh 4 rfl hI o_v0
          refine ⟨a186, ea186, ?_⟩
          obtain ⟨a187, ea187, o_a187, -⟩ := sh 1 rfl hI o_v0
          refine ⟨a187, ea187, ?_⟩
          obtain ⟨a188, ea188, o_a188, -⟩ := sh 3 rfl hI o_v0
          refine ⟨a188, ea188, ?_⟩
          refine ⟨o_a186, ?_⟩
          refine m_X7_reckon hI o_a186 o_a187 o_a188 (fun S190 hI g191 => ?_)
          have o_a186 := gr_ob g191 o_a186
          have o_a187 := gr_ob g191 o_a187
          have o_a188 := gr_ob g191 o_a188
          have o_v0 := gr_ob g191 o_v0
          have g0 := gr_tr g0 g191
          intro _
          refine i_X9_off_62 (fun (y0 : Nat) (y2 : Int32) (y4 : Int32) (y6 : Int32) (y7 : Int32) (Z : HS) => ((2147483647 : Int32).toInt - y7.toInt).toNat) (fun (y0 : Nat) (y2 : Int32) (y4 : Int32) (y6 : Int32) (y7 : Int32) (Z : HS) => (S190 = Z) ∧ (v0 = y0) ∧ (v2 = y2) ∧ (v4 = y4) ∧ (0 ≤ y7)) ?_ _ _ _ _ _ _ ⟨rfl, rfl, rfl, rfl, (q260 c185)⟩
          intro w194 w196 w198 w200 w201 S192 X202 ⟨eS192, q195, q197, q199, i1⟩ ih203
          subst q195
          subst q197
          subst q199
          subst eS192
          refine u_X9_off_62 ?_
          refine ⟨fun c204 => ?_, fun c204 => ?_⟩
          · refine ⟨fun c205 => ?_, fun c205 => ?_⟩
            · exact hq _ _ hI g0
            · refine ⟨o_v0, ?_⟩
              refine u_X9_refuse ?_
              refine u_X9_refuse_0 ?_
              refine ⟨o_v0, ?_⟩
              have hI := iv_sI (j := 9) (v := (6 : Int32)) hI o_v0 (by decide) (nu_free (by decide))
              intro _
              exact hq _ _ hI g0
          · refine ⟨fun c206 => ?_, fun c206 => ?_⟩
            · refine u_X9_off_99 ?_
              refine u_X9_off_104 ?_
              refine ⟨o_v0, ?_⟩
              obtain ⟨a207, ea207, o_a207, -⟩ := sh 4 rfl hI o_v0
              refine ⟨a207, ea207, ?_⟩
              refine ⟨o_a207, ?_⟩
              refine m_X7_isOpen hI o_a207 (fun x208 S209 hI2 g210 b_x208 p_x208 => ?_)
              subst p_x208
              intro _ _
              have bb_x208 : x208 = 0 ∨ x208 = 1 := b_x208
              refine ⟨fun c211 => ?_, fun c211 => ?_⟩
              · refine u_X9_off_128 ?_
                intro x212 ex212
                exact ih203 _ _ _ _ _ _ ⟨rfl, rfl, rfl, rfl, (q326 p_x122 bb_x122 c125 c185 i1 c204 ex212)⟩ (mu_up (q327 p_x122 bb_x122 c125 c185 i1 c204 ex212) (q328 p_x122 bb_x122 c125 c185 i1 c204 ex212))
              · refine ⟨fun c213 => ?_, fun c213 => ?_⟩
                · refine u_X9_off_128 ?_
                  intro x214 ex214
                  exact ih203 _ _ _ _ _ _ ⟨rfl, rfl, rfl, rfl, (q329 p_x122 bb_x122 c125 c185 i1 c204 c213 ex214)⟩ (mu_up (q330 p_x122 bb_x122 c125 c185 i1 c204 c213 ex214) (q331 p_x122 bb_x122 c125 c185 i1 c204 c213 ex214))
                · refine u_X9_off_128 ?_
                  intro x215 ex215
                  exact ih203 _ _ _ _ _ _ ⟨rfl, rfl, rfl, rfl, (q332 p_x122 bb_x122 c125 c185 i1 c204 c213 ex215)⟩ (mu_up (q333 p_x122 bb_x122 c125 c185 i1 c204 c213 ex215) (q334 p_x122 bb_x122 c125 c185 i1 c204 c213 ex215))
            · refine ⟨o_v0, ?_⟩
              obtain ⟨a216, ea216, o_a216, -⟩ := sh 4 rfl hI o_v0
              refine ⟨a216, ea216, ?_⟩
              refine ⟨o_a216, ?_⟩
              refine m_X7_meanFrom hI o_a216 (fun x217 S218 hI2 g219 p_x217 => ?_)
              subst p_x217
              intro _
              obtain ⟨a220, ea220, o_a220, -⟩ := sh 4 rfl hI o_v0
              refine ⟨a220, ea220, ?_⟩
              refine ⟨o_a220, ?_⟩
              refine m_X7_meanFrom hI o_a220 (fun x221 S222 hI2 g223 p_x221 => ?_)
              subst p_x221
              intro _
              refine ⟨fun c224 => ?_, fun c224 => ?_⟩
              · refine u_X9_off_104 ?_
                refine ⟨o_v0, ?_⟩
                obtain ⟨a225, ea225, o_a225, -⟩ := sh 4 rfl hI o_v0
                refine ⟨a225, ea225, ?_⟩
                refine ⟨o_a225, ?_⟩
                refine m_X7_isOpen hI o_a225 (fun x226 S227 hI2 g228 b_x226 p_x226 => ?_)
                subst p_x226
                intro _ _
                have bb_x226 : x226 = 0 ∨ x226 = 1 := b_x226
                refine ⟨fun c229 => ?_, fun c229 => ?_⟩
                · refine u_X9_off_128 ?_
                  intro x230 ex230
                  exact ih203 _ _ _ _ _ _ ⟨rfl, rfl, rfl, rfl, (q326 p_x122 bb_x122 c125 c185 i1 c204 ex230)⟩ (mu_up (q327 p_x122 bb_x122 c125 c185 i1 c204 ex230) (q328 p_x122 bb_x122 c125 c185 i1 c204 ex230))
                · refine ⟨fun c231 => ?_, fun c231 => ?_⟩
                  · refine u_X9_off_128 ?_
                    intro x232 ex232
                    exact ih203 _ _ _ _ _ _ ⟨rfl, rfl, rfl, rfl, (q335 p_x122 bb_x122 c125 c185 i1 c204 c231 ex232)⟩ (mu_up (q336 p_x122 bb_x122 c125 c185 i1 c204 c231 ex232) (q337 p_x122 bb_x122 c125 c185 i1 c204 c231 ex232))
                  · refine u_X9_off_128 ?_
                    intro x233 ex233
                    exact ih203 _ _ _ _ _ _ ⟨rfl, rfl, rfl, rfl, (q338 p_x122 bb_x122 c125 c185 i1 c204 c231 ex233)⟩ (mu_up (q339 p_x122 bb_x122 c125 c185 i1 c204 c231 ex233) (q340 p_x122 bb_x122 c125 c185 i1 c204 c231 ex233))
              · refine u_X9_off_99 ?_
                refine u_X9_off_104 ?_
                refine ⟨o_v0, ?_⟩
                obtain ⟨a234, ea234, o_a234, -⟩ := sh 4 rfl hI o_v0
                refine ⟨a234, ea234, ?_⟩
                refine ⟨o_a234, ?_⟩
                refine m_X7_isOpen hI o_a234 (fun x235 S236 hI2 g237 b_x235 p_x235 => ?_)
                subst p_x235
                intro _ _
                have bb_x235 : x235 = 0 ∨ x235 = 1 := b_x235
                refine ⟨fun c238 => ?_, fun c238 => ?_⟩
                · refine u_X9_off_128 ?_
                  intro x239 ex239
                  exact ih203 _ _ _ _ _ _ ⟨rfl, rfl, rfl, rfl, (q326 p_x122 bb_x122 c125 c185 i1 c204 ex239)⟩ (mu_up (q327 p_x122 bb_x122 c125 c185 i1 c204 ex239) (q328 p_x122 bb_x122 c125 c185 i1 c204 ex239))
                · refine ⟨fun c240 => ?_, fun c240 => ?_⟩
                  · refine u_X9_off_128 ?_
                    intro x241 ex241
                    exact ih203 _ _ _ _ _ _ ⟨rfl, rfl, rfl, rfl, (q329 p_x122 bb_x122 c125 c185 i1 c204 c240 ex241)⟩ (mu_up (q330 p_x122 bb_x122 c125 c185 i1 c204 c240 ex241) (q331 p_x122 bb_x122 c125 c185 i1 c204 c240 ex241))
                  · refine u_X9_off_128 ?_
                    intro x242 ex242
                    exact ih203 _ _ _ _ _ _ ⟨rfl, rfl, rfl, rfl, (q332 p_x122 bb_x122 c125 c185 i1 c204 c240 ex242)⟩ (mu_up (q333 p_x122 bb_x122 c125 c185 i1 c204 c240 ex242) (q334 p_x122 bb_x122 c125 c185 i1 c204 c240 ex242))
        · exact hq _ _ hI g0
    · refine u_X9_off_25 ?_
      refine ⟨o_v0, ?_⟩
      refine u_X9_refusedBy ?_
      refine u_X9_refusedBy_0 ?_
      refine ⟨o_v0, ?_⟩
      have hI := iv_sI (j := 9) (v := (2 : Int32)) hI o_v0 (by decide) (nu_free (by decide))
      refine ⟨fun c243 => ?_, fun c243 => ?_⟩
      · intro _ _
        refine ⟨fun c244 => ?_, fun c244 => ?_⟩
        · obtain ⟨a245, ea245, o_a245, -⟩ := sh 4 rfl hI o_v0
          refine ⟨a245, ea245, ?_⟩
          obtain ⟨a246, ea246, o_a246, -⟩ := sh 1 rfl hI o_v0
          refine ⟨a246, ea246, ?_⟩
          obtain ⟨a247, ea247, o_a247, -⟩ := sh 3 rfl hI o_v0
          refine ⟨a247, ea247, ?_⟩
          refine ⟨o_a245, ?_⟩
          refine m_X7_reckon hI o_a245 o_a246 o_a247 (fun S249 hI g250 => ?_)
          have o_a245 := gr_ob g250 o_a245
          have o_a246 := gr_ob g250 o_a246
          have o_a247 := gr_ob g250 o_a247
          have o_v0 := gr_ob g250 o_v0
          have g0 := gr_tr g0 g250
          intro _
          refine i_X9_off_62 (fun (y0 : Nat) (y2 : Int32) (y4 : Int32) (y6 : Int32) (y7 : Int32) (Z : HS) => ((2147483647 : Int32).toInt - y7.toInt).toNat) (fun (y0 : Nat) (y2 : Int32) (y4 : Int32) (y6 : Int32) (y7 : Int32) (Z : HS) => (S249 = Z) ∧ (v0 = y0) ∧ (v2 = y2) ∧ (v4 = y4) ∧ (0 ≤ y7)) ?_ _ _ _ _ _ _ ⟨rfl, rfl, rfl, rfl, (q341 c243 c244)⟩
          intro w253 w255 w257 w259 w260 S251 X261 ⟨eS251, q254, q256, q258, i1⟩ ih262
          subst q254
          subst q256
          subst q258
          subst eS251
          refine u_X9_off_62 ?_
          refine ⟨fun c263 => ?_, fun c263 => ?_⟩
          · refine ⟨fun c264 => ?_, fun c264 => ?_⟩
            · exact hq _ _ hI g0
            · refine ⟨o_v0, ?_⟩
              refine u_X9_refuse ?_
              refine u_X9_refuse_0 ?_
              refine ⟨o_v0, ?_⟩
              have hI := iv_sI (j := 9) (v := (6 : Int32)) hI o_v0 (by decide) (nu_free (by decide))
              intro _
              exact hq _ _ hI g0
          · refine ⟨fun c265 => ?_, fun c265 => ?_⟩
            · refine u_X9_off_99 ?_
              refine u_X9_off_104 ?_
              refine ⟨o_v0, ?_⟩
              obtain ⟨a266, ea266, o_a266, -⟩ := sh 4 rfl hI o_v0
              refine ⟨a266, ea266, ?_⟩
              refine ⟨o_a266, ?_⟩
              refine m_X7_isOpen hI o_a266 (fun x267 S268 hI2 g269 b_x267 p_x267 => ?_)
              subst p_x267
              intro _ _
              have bb_x267 : x267 = 0 ∨ x267 = 1 := b_x267
              refine ⟨fun c270 => ?_, fun c270 => ?_⟩
              · refine u_X9_off_128 ?_
                intro x271 ex271
                exact ih262 _ _ _ _ _ _ ⟨rfl, rfl, rfl, rfl, (q342 p_x122 bb_x122 c125 c243 c244 i1 c263 ex271)⟩ (mu_up (q343 p_x122 bb_x122 c125 c243 c244 i1 c263 ex271) (q344 p_x122 bb_x122 c125 c243 c244 i1 c263 ex271))
              · refine ⟨fun c272 => ?_, fun c272 => ?_⟩
                · refine u_X9_off_128 ?_
                  intro x273 ex273
                  exact ih262 _ _ _ _ _ _ ⟨rfl, rfl, rfl, rfl, (q345 p_x122 bb_x122 c125 c243 c244 i1 c263 c272 ex273)⟩ (mu_up (q346 p_x122 bb_x122 c125 c243 c244 i1 c263 c272 ex273) (q347 p_x122 bb_x122 c125 c243 c244 i1 c263 c272 ex273))
                · refine u_X9_off_128 ?_
                  intro x274 ex274
                  exact ih262 _ _ _ _ _ _ ⟨rfl, rfl, rfl, rfl, (q348 p_x122 bb_x122 c125 c243 c244 i1 c263 c272 ex274)⟩ (mu_up (q349 p_x122 bb_x122 c125 c243 c244 i1 c263 c272 ex274) (q350 p_x122 bb_x122 c125 c243 c244 i1 c263 c272 ex274))
            · refine ⟨o_v0, ?_⟩
              obtain ⟨a275, ea275, o_a275, -⟩ := sh 4 rfl hI o_v0
              refine ⟨a275, ea275, ?_⟩
              refine ⟨o_a275, ?_⟩
              refine m_X7_meanFrom hI o_a275 (fun x276 S277 hI2 g278 p_x276 => ?_)
              subst p_x276
              intro _
              obtain ⟨a279, ea279, o_a279, -⟩ := sh 4 rfl hI o_v0
              refine ⟨a279, ea279, ?_⟩
              refine ⟨o_a279, ?_⟩
              refine m_X7_meanFrom hI o_a279 (fun x280 S281 hI2 g282 p_x280 => ?_)
              subst p_x280
              intro _
              refine ⟨fun c283 => ?_, fun c283 => ?_⟩
              · refine u_X9_off_104 ?_
                refine ⟨o_v0, ?_⟩
                obtain ⟨a284, ea284, o_a284, -⟩ := sh 4 rfl hI o_v0
                refine ⟨a284, ea284, ?_⟩
                refine ⟨o_a284, ?_⟩
                refine m_X7_isOpen hI o_a284 (fun x285 S286 hI2 g287 b_x285 p_x285 => ?_)
                subst p_x285
                intro _ _
                have bb_x285 : x285 = 0 ∨ x285 = 1 := b_x285
                refine ⟨fun c288 => ?_, fun c288 => ?_⟩
                · refine u_X9_off_128 ?_
                  intro x289 ex289
                  exact ih262 _ _ _ _ _ _ ⟨rfl, rfl, rfl, rfl, (q342 p_x122 bb_x122 c125 c243 c244 i1 c263 ex289)⟩ (mu_up (q343 p_x122 bb_x122 c125 c243 c244 i1 c263 ex289) (q344 p_x122 bb_x122 c125 c243 c244 i1 c263 ex289))
                · refine ⟨fun c290 => ?_, fun c290 => ?_⟩
                  · refine u_X9_off_128 ?_
                    intro x291 ex291
                    exact ih262 _ _ _ _ _ _ ⟨rfl, rfl, rfl, rfl, (q351 p_x122 bb_x122 c125 c243 c244 i1 c263 c290 ex291)⟩ (mu_up (q352 p_x122 bb_x122 c125 c243 c244 i1 c263 c290 ex291) (q353 p_x122 bb_x122 c125 c243 c244 i1 c263 c290 ex291))
                  · refine u_X9_off_128 ?_
                    intro x292 ex292
                    exact ih262 _ _ _ _ _ _ ⟨rfl, rfl, rfl, rfl, (q354 p_x122 bb_x122 c125 c243 c244 i1 c263 c290 ex292)⟩ (mu_up (q355 p_x122 bb_x122 c125 c243 c244 i1 c263 c290 ex292) (q356 p_x122 bb_x122 c125 c243 c244 i1 c263 c290 ex292))
              · refine u_X9_off_99 ?_
                refine u_X9_off_104 ?_
                refine ⟨o_v0, ?_⟩
                obtain ⟨a293, ea293, o_a293, -⟩ := sh 4 rfl hI o_v0
                refine ⟨a293, ea293, ?_⟩
                refine ⟨o_a293, ?_⟩
                refine m_X7_isOpen hI o_a293 (fun x294 S295 hI2 g296 b_x294 p_x294 => ?_)
                subst p_x294
                intro _ _
                have bb_x294 : x294 = 0 ∨ x294 = 1 := b_x294
                refine ⟨fun c297 => ?_, fun c297 => ?_⟩
                · refine u_X9_off_128 ?_
                  intro x298 ex298
                  exact ih262 _ _ _ _ _ _ ⟨rfl, rfl, rfl, rfl, (q342 p_x122 bb_x122 c125 c243 c244 i1 c263 ex298)⟩ (mu_up (q343 p_x122 bb_x122 c125 c243 c244 i1 c263 ex298) (q344 p_x122 bb_x122 c125 c243 c244 i1 c263 ex298))
                · refine ⟨fun c299 => ?_, fun c299 => ?_⟩
                  · refine u_X9_off_128 ?_
                    intro x300 ex300
                    exact ih262 _ _ _ _ _ _ ⟨rfl, rfl, rfl, rfl, (q345 p_x122 bb_x122 c125 c243 c244 i1 c263 c299 ex300)⟩ (mu_up (q346 p_x122 bb_x122 c125 c243 c244 i1 c263 c299 ex300) (q347 p_x122 bb_x122 c125 c243 c244 i1 c263 c299 ex300))
                  · refine u_X9_off_128 ?_
                    intro x301 ex301
                    exact ih262 _ _ _ _ _ _ ⟨rfl, rfl, rfl, rfl, (q348 p_x122 bb_x122 c125 c243 c244 i1 c263 c299 ex301)⟩ (mu_up (q349 p_x122 bb_x122 c125 c243 c244 i1 c263 c299 ex301) (q350 p_x122 bb_x122 c125 c243 c244 i1 c263 c299 ex301))
        · exact hq _ _ hI g0
      · intro _ _
        refine ⟨fun c302 => ?_, fun c302 => ?_⟩
        · obtain ⟨a303, ea303, o_a303, -⟩ := sh 4 rfl hI o_v0
          refine ⟨a303, ea303, ?_⟩
          obtain ⟨a304, ea304, o_a304, -⟩ := sh 1 rfl hI o_v0
          refine ⟨a304, ea304, ?_⟩
          obtain ⟨a305, ea305, o_a305, -⟩ := sh 3 rfl hI o_v0
          refine ⟨a305, ea305, ?_⟩
          refine ⟨o_a303, ?_⟩
          refine m_X7_reckon hI o_a303 o_a304 o_a305 (fun S307 hI g308 => ?_)
          have o_a303 := gr_ob g308 o_a303
          have o_a304 := gr_ob g308 o_a304
          have o_a305 := gr_ob g308 o_a305
          have o_v0 := gr_ob g308 o_v0
          have g0 := gr_tr g0 g308
          intro _
          refine i_X9_off_62 (fun (y0 : Nat) (y2 : Int32) (y4 : Int32) (y6 : Int32) (y7 : Int32) (Z : HS) => ((2147483647 : Int32).toInt - y7.toInt).toNat) (fun (y0 : Nat) (y2 : Int32) (y4 : Int32) (y6 : Int32) (y7 : Int32) (Z : HS) => (S307 = Z) ∧ (v0 = y0) ∧ (v2 = y2) ∧ (v4 = y4) ∧ (0 ≤ y7)) ?_ _ _ _ _ _ _ ⟨rfl, rfl, rfl, rfl, (q357 c243 c302)⟩
          intro w311 w313 w315 w317 w318 S309 X319 ⟨eS309, q312, q314, q316, i1⟩ ih320
          subst q312
          subst q314
          subst q316
          subst eS309
          refine u_X9_off_62 ?_
          refine ⟨fun c321 => ?_, fun c321 => ?_⟩
          · refine ⟨fun c322 => ?_, fun c322 => ?_⟩
            · exact hq _ _ hI g0
            · refine ⟨o_v0, ?_⟩
              refine u_X9_refuse ?_
              refine u_X9_refuse_0 ?_
              refine ⟨o_v0, ?_⟩
              have hI := iv_sI (j := 9) (v := (6 : Int32)) hI o_v0 (by decide) (nu_free (by decide))
              intro _
              exact hq _ _ hI g0
          · refine ⟨fun c323 => ?_, fun c323 => ?_⟩
            · refine u_X9_off_99 ?_
              refine u_X9_off_104 ?_
              refine ⟨o_v0, ?_⟩
              obtain ⟨a324, ea324, o_a324, -⟩ := sh 4 rfl hI o_v0
              refine ⟨a324, ea324, ?_⟩
              refine ⟨o_a324, ?_⟩
              refine m_X7_isOpen hI o_a324 (fun x325 S326 hI2 g327 b_x325 p_x325 => ?_)
              subst p_x325
              intro _ _
              have bb_x325 : x325 = 0 ∨ x325 = 1 := b_x325
              refine ⟨fun c328 => ?_, fun c328 => ?_⟩
              · refine u_X9_off_128 ?_
                intro x329 ex329
                exact ih320 _ _ _ _ _ _ ⟨rfl, rfl, rfl, rfl, (q358 p_x122 bb_x122 c125 c243 c302 i1 c321 ex329)⟩ (mu_up (q359 p_x122 bb_x122 c125 c243 c302 i1 c321 ex329) (q360 p_x122 bb_x122 c125 c243 c302 i1 c321 ex329))
              · refine ⟨fun c330 => ?_, fun c330 => ?_⟩
                · refine u_X9_off_128 ?_
                  intro x331 ex331
                  exact ih320 _ _ _ _ _ _ ⟨rfl, rfl, rfl, rfl, (q361 p_x122 bb_x122 c125 c243 c302 i1 c321 c330 ex331)⟩ (mu_up (q362 p_x122 bb_x122 c125 c243 c302 i1 c321 c330 ex331) (q363 p_x122 bb_x122 c125 c243 c302 i1 c321 c330 ex331))
                · refine u_X9_off_128 ?_
                  intro x332 ex332
                  exact ih320 _ _ _ _ _ _ ⟨rfl, rfl, rfl, rfl, (q364 p_x122 bb_x122 c125 c243 c302 i1 c321 c330 ex332)⟩ (mu_up (q365 p_x122 bb_x122 c125 c243 c302 i1 c321 c330 ex332) (q366 p_x122 bb_x122 c125 c243 c302 i1 c321 c330 ex332))
            · refine ⟨o_v0, ?_⟩
              obtain ⟨a333, ea333, o_a333, -⟩ := sh 4 rfl hI o_v0
              refine ⟨a333, ea333, ?_⟩
              refine ⟨o_a333, ?_⟩
              refine m_X7_meanFrom hI o_a333 (fun x334 S335 hI2 g336 p_x334 => ?_)
              subst p_x334
              intro _
              obtain ⟨a337, ea337, o_a337, -⟩ := sh 4 rfl hI o_v0
              refine ⟨a337, ea337, ?_⟩
              refine ⟨o_a337, ?_⟩
              refine m_X7_meanFrom hI o_a337 (fun x338 S339 hI2 g340 p_x338 => ?_)
              subst p_x338
              intro _
              refine ⟨fun c341 => ?_, fun c341 => ?_⟩
              · refine u_X9_off_104 ?_
                refine ⟨o_v0, ?_⟩
                obtain ⟨a342, ea342, o_a342, -⟩ := sh 4 rfl hI o_v0
                refine ⟨a342, ea342, ?_⟩
                refine ⟨o_a342, ?_⟩
                refine m_X7_isOpen hI o_a342 (fun x343 S344 hI2 g345 b_x343 p_x343 => ?_)
                subst p_x343
                intro _ _
                have bb_x343 : x343 = 0 ∨ x343 = 1 := b_x343
                refine ⟨fun c346 => ?_, fun c346 => ?_⟩
                · refine u_X9_off_128 ?_
                  intro x347 ex347
                  exact ih320 _ _ _ _ _ _ ⟨rfl, rfl, rfl, rfl, (q358 p_x122 bb_x122 c125 c243 c302 i1 c321 ex347)⟩ (mu_up (q359 p_x122 bb_x122 c125 c243 c302 i1 c321 ex347) (q360 p_x122 bb_x122 c125 c243 c302 i1 c321 ex347))
                · refine ⟨fun c348 => ?_, fun c348 => ?_⟩
                  · refine u_X9_off_128 ?_
                    intro x349 ex349
                    exact ih320 _ _ _ _ _ _ ⟨rfl, rfl, rfl, rfl, (q367 p_x122 bb_x122 c125 c243 c302 i1 c321 c348 ex349)⟩ (mu_up (q368 p_x122 bb_x122 c125 c243 c302 i1 c321 c348 ex349) (q369 p_x122 bb_x122 c125 c243 c302 i1 c321 c348 ex349))
                  · refine u_X9_off_128 ?_
                    intro x350 ex350
                    exact ih320 _ _ _ _ _ _ ⟨rfl, rfl, rfl, rfl, (q370 p_x122 bb_x122 c125 c243 c302 i1 c321 c348 ex350)⟩ (mu_up (q371 p_x122 bb_x122 c125 c243 c302 i1 c321 c348 ex350) (q372 p_x122 bb_x122 c125 c243 c302 i1 c321 c348 ex350))
              · refine u_X9_off_99 ?_
                refine u_X9_off_104 ?_
                refine ⟨o_v0, ?_⟩
                obtain ⟨a351, ea351, o_a351, -⟩ := sh 4 rfl hI o_v0
                refine ⟨a351, ea351, ?_⟩
                refine ⟨o_a351, ?_⟩
                refine m_X7_isOpen hI o_a351 (fun x352 S353 hI2 g354 b_x352 p_x352 => ?_)
                subst p_x352
                intro _ _
                have bb_x352 : x352 = 0 ∨ x352 = 1 := b_x352
                refine ⟨fun c355 => ?_, fun c355 => ?_⟩
                · refine u_X9_off_128 ?_
                  intro x356 ex356
                  exact ih320 _ _ _ _ _ _ ⟨rfl, rfl, rfl, rfl, (q358 p_x122 bb_x122 c125 c243 c302 i1 c321 ex356)⟩ (mu_up (q359 p_x122 bb_x122 c125 c243 c302 i1 c321 ex356) (q360 p_x122 bb_x122 c125 c243 c302 i1 c321 ex356))
                · refine ⟨fun c357 => ?_, fun c357 => ?_⟩
                  · refine u_X9_off_128 ?_
                    intro x358 ex358
                    exact ih320 _ _ _ _ _ _ ⟨rfl, rfl, rfl, rfl, (q361 p_x122 bb_x122 c125 c243 c302 i1 c321 c357 ex358)⟩ (mu_up (q362 p_x122 bb_x122 c125 c243 c302 i1 c321 c357 ex358) (q363 p_x122 bb_x122 c125 c243 c302 i1 c321 c357 ex358))
                  · refine u_X9_off_128 ?_
                    intro x359 ex359
                    exact ih320 _ _ _ _ _ _ ⟨rfl, rfl, rfl, rfl, (q364 p_x122 bb_x122 c125 c243 c302 i1 c321 c357 ex359)⟩ (mu_up (q365 p_x122 bb_x122 c125 c243 c302 i1 c321 c357 ex359) (q366 p_x122 bb_x122 c125 c243 c302 i1 c321 c357 ex359))
        · exact hq _ _ hI g0
