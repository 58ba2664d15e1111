set_option maxHeartbeats 4000000 in
set_option maxRecDepth 20000 in
theorem m_X7_trace {v0 : Nat} {v1 : Nat} {v2 : Int32} {v3 : Int32} {Q : Int32 → HS → Prop} {S : HS} (hI : IV S) (o_v0 : ob S v0 7) (o_v1 : ob S v1 8)     (hq : ∀ (r : Int32) (T : HS), IV T → Gr S T → FRI [] [] S T → Q r T) : P_X7_trace v0 v1 v2 v3 Q S := by
  have g0 := gr_rf S
  have f0 := fri_rf [] [] S
  refine u_X7_trace ?_
  refine u_X7_trace_0 ?_
  refine i_X7_trace_9 (fun (y0 : Nat) (y1 : Nat) (y4 : Int32) (y5 : Int32) (y6 : Int32) (Z : HS) => ((2147483647 : Int32).toInt - y6.toInt).toNat) (fun (y0 : Nat) (y1 : Nat) (y4 : Int32) (y5 : Int32) (y6 : Int32) (Z : HS) => (IV Z) ∧ (Gr S Z) ∧ (FRI [] [] S Z) ∧ (v0 = y0) ∧ (v1 = y1) ∧ (0 ≤ y6)) ?_ _ _ _ _ _ _ ⟨hI, (gr_rf _), (fri_rf _ _ _), rfl, rfl, (q82)⟩
  intro w4 w6 w8 w9 w10 S1 X11 ⟨hI, gL2, fL3, q5, q7, i1⟩ ih12
  subst q5
  subst q7
  have f0 := fri_tr (S := S) g0 f0 fL3 (by decide) (by decide)
  have o_v0 := gr_ob gL2 o_v0
  have o_v1 := gr_ob gL2 o_v1
  have g0 := gr_tr (T := S) g0 gL2
  refine u_X7_trace_9 ?_
  refine ⟨o_v0, ?_⟩
  obtain ⟨a13, ea13, o_a13, -⟩ := sh 21 rfl hI o_v0
  have hl_a13 := wyl hI o_v0 0 rfl (by decide) ea13
  refine ⟨a13, ea13, ?_⟩
  refine ⟨o_a13, ?_⟩
  refine ⟨fun c14 => ?_, fun c14 => ?_⟩
  · refine ⟨a13, ea13, ?_⟩
    refine ⟨o_a13, ?_⟩
    exact hq _ _ hI g0 f0
  · intro x16 ex16
    refine ⟨fun c17 => ?_, fun c17 => ?_⟩
    · refine u_X7_trace_55 ?_
      refine u_X7_trace_56 ?_
      refine ⟨fun c18 => ?_, fun c18 => ?_⟩
      · refine ⟨o_v0, ?_⟩
        refine ⟨a13, ea13, ?_⟩
        refine ⟨o_a13, ?_⟩
        have i20 : vp_in w10 (hN _ a13) := (vinL hl_a13 (q407 i1 c14 ex16 c17 c18))
        refine ⟨i20, ?_⟩
        have hI := iv_aI (i := w10.toNatClampNeg) (v := (-1 : Int32)) hI o_v0 (by decide) ea13 o_a13 (by decide)
        have f0 : FRI _ _ _ (sI S1 a13 w10.toNatClampNeg (-1 : Int32)) := fri_aI (S := S1) g0 f0 o_a13 (by decide)
        have fL3 : FRI _ _ _ (sI S1 a13 w10.toNatClampNeg (-1 : Int32)) := fri_aI (S := S1) gL2 fL3 o_a13 (by decide)
        refine ⟨fun c21 => ?_, fun c21 => ?_⟩
        · intro x22 ex22
          refine ⟨o_v1, ?_⟩
          refine m_X8_hasRoad hI o_v1 (fun x23 S24 hI2 g25 b_x23 p_x23 => ?_)
          obtain ⟨z_S24, p_x23⟩ := p_x23
          subst z_S24
          intro _ _
          have bb_x23 : x23 = 0 ∨ x23 = 1 := b_x23
          refine ⟨fun c27 => ?_, fun c27 => ?_⟩
          · refine u_X7_trace_143 ?_
            intro x28 ex28
            exact ih12 _ _ _ _ _ _ ⟨hI, gL2, fL3, rfl, rfl, (q408 i1 c14 ex16 c17 c18 c21 ex22 p_x23 bb_x23 c27 ex28)⟩ (mu_up (q409 i1 c14 ex16 c17 c18 c21 ex22 p_x23 bb_x23 c27 ex28) (q410 i1 c14 ex16 c17 c18 c21 ex22 p_x23 bb_x23 c27 ex28))
          · obtain ⟨a29, ea29, o_a29, l_a29⟩ := shl 17 rfl hI o_v1
            refine ⟨a29, ea29, ?_⟩
            intro x30 ex30
            refine ⟨o_a29, ?_⟩
            have i32 : vp_in x30 (hN _ a29) := (vin l_a29 (m := 12) (by decide) (q411 i1 c14 ex16 c17 c18 c21 ex22 p_x23 bb_x23 c27 ex30))
            obtain ⟨a31, ea31, o_a31⟩ := ae hI o_a29 (by decide) (by decide) i32
            replace o_a31 : ob _ a31 5 := o_a31
            refine ⟨i32, a31, ea31, ?_⟩
            intro x33 ex33
            intro x34 ex34
            refine ⟨o_a31, ?_⟩
            refine m_X5_endOf hI o_a31 (fun x35 S36 hI2 g37 p_x35 => ?_)
            subst p_x35
            intro _
            intro x39 ex39
            refine m_X5_minutesAt hI o_a31 (fun x40 S41 hI2 g42 p_x40 => ?_)
            subst p_x40
            intro _
            intro x44 ex44
            refine u_X7_trace_143 ?_
            intro x45 ex45
            exact ih12 _ _ _ _ _ _ ⟨hI, gL2, fL3, rfl, rfl, (q412 i1 c14 ex16 c17 c18 c21 ex22 p_x23 bb_x23 c27 ex44 ex45)⟩ (mu_up (q413 i1 c14 ex16 c17 c18 c21 ex22 p_x23 bb_x23 c27 ex44 ex45) (q414 i1 c14 ex16 c17 c18 c21 ex22 p_x23 bb_x23 c27 ex44 ex45))
        · intro x46 ex46
          refine u_X7_trace_143 ?_
          intro x47 ex47
          exact ih12 _ _ _ _ _ _ ⟨hI, gL2, fL3, rfl, rfl, (q415 i1 c14 ex16 c17 c18 c21 ex46 ex47)⟩ (mu_up (q416 i1 c14 ex16 c17 c18 c21 ex46 ex47) (q417 i1 c14 ex16 c17 c18 c21 ex46 ex47))
      · exact hq _ _ hI g0 f0
    · obtain ⟨a48, ea48, o_a48, -⟩ := sh 23 rfl hI o_v0
      have hl_a48 := wyl hI o_v0 2 rfl (by decide) ea48
      refine ⟨a48, ea48, ?_⟩
      refine ⟨o_a48, ?_⟩
      refine ⟨fun c49 => ?_, fun c49 => ?_⟩
      · refine u_X7_trace_55 ?_
        refine u_X7_trace_56 ?_
        refine ⟨fun c50 => ?_, fun c50 => ?_⟩
        · refine ⟨o_v0, ?_⟩
          refine ⟨a13, ea13, ?_⟩
          refine ⟨o_a13, ?_⟩
          have i52 : vp_in w10 (hN _ a13) := (vinL hl_a13 (q418 i1 c14 ex16 c17 c49 c50))
          refine ⟨i52, ?_⟩
          have hI := iv_aI (i := w10.toNatClampNeg) (v := (-1 : Int32)) hI o_v0 (by decide) ea13 o_a13 (by decide)
          have f0 : FRI _ _ _ (sI S1 a13 w10.toNatClampNeg (-1 : Int32)) := fri_aI (S := S1) g0 f0 o_a13 (by decide)
          have fL3 : FRI _ _ _ (sI S1 a13 w10.toNatClampNeg (-1 : Int32)) := fri_aI (S := S1) gL2 fL3 o_a13 (by decide)
          refine ⟨fun c53 => ?_, fun c53 => ?_⟩
          · intro x54 ex54
            refine ⟨o_v1, ?_⟩
            refine m_X8_hasRoad hI o_v1 (fun x55 S56 hI2 g57 b_x55 p_x55 => ?_)
            obtain ⟨z_S56, p_x55⟩ := p_x55
            subst z_S56
            intro _ _
            have bb_x55 : x55 = 0 ∨ x55 = 1 := b_x55
            refine ⟨fun c59 => ?_, fun c59 => ?_⟩
            · refine u_X7_trace_143 ?_
              intro x60 ex60
              exact ih12 _ _ _ _ _ _ ⟨hI, gL2, fL3, rfl, rfl, (q419 i1 c14 ex16 c17 c49 c50 c53 ex54 p_x55 bb_x55 c59 ex60)⟩ (mu_up (q420 i1 c14 ex16 c17 c49 c50 c53 ex54 p_x55 bb_x55 c59 ex60) (q421 i1 c14 ex16 c17 c49 c50 c53 ex54 p_x55 bb_x55 c59 ex60))
            · obtain ⟨a61, ea61, o_a61, l_a61⟩ := shl 17 rfl hI o_v1
              refine ⟨a61, ea61, ?_⟩
              intro x62 ex62
              refine ⟨o_a61, ?_⟩
              have i64 : vp_in x62 (hN _ a61) := (vin l_a61 (m := 12) (by decide) (q422 i1 c14 ex16 c17 c49 c50 c53 ex54 p_x55 bb_x55 c59 ex62))
              obtain ⟨a63, ea63, o_a63⟩ := ae hI o_a61 (by decide) (by decide) i64
              replace o_a63 : ob _ a63 5 := o_a63
              refine ⟨i64, a63, ea63, ?_⟩
              intro x65 ex65
              intro x66 ex66
              refine ⟨o_a63, ?_⟩
              refine m_X5_endOf hI o_a63 (fun x67 S68 hI2 g69 p_x67 => ?_)
              subst p_x67
              intro _
              intro x71 ex71
              refine m_X5_minutesAt hI o_a63 (fun x72 S73 hI2 g74 p_x72 => ?_)
              subst p_x72
              intro _
              intro x76 ex76
              refine u_X7_trace_143 ?_
              intro x77 ex77
              exact ih12 _ _ _ _ _ _ ⟨hI, gL2, fL3, rfl, rfl, (q423 i1 c14 ex16 c17 c49 c50 c53 ex54 p_x55 bb_x55 c59 ex76 ex77)⟩ (mu_up (q424 i1 c14 ex16 c17 c49 c50 c53 ex54 p_x55 bb_x55 c59 ex76 ex77) (q425 i1 c14 ex16 c17 c49 c50 c53 ex54 p_x55 bb_x55 c59 ex76 ex77))
          · intro x78 ex78
            refine u_X7_trace_143 ?_
            intro x79 ex79
            exact ih12 _ _ _ _ _ _ ⟨hI, gL2, fL3, rfl, rfl, (q426 i1 c14 ex16 c17 c49 c50 c53 ex78 ex79)⟩ (mu_up (q427 i1 c14 ex16 c17 c49 c50 c53 ex78 ex79) (q428 i1 c14 ex16 c17 c49 c50 c53 ex78 ex79))
        · exact hq _ _ hI g0 f0
      · refine ⟨a48, ea48, ?_⟩
        refine ⟨o_a48, ?_⟩
        refine ⟨(vinL hl_a48 (q429 i1 c14 ex16 c17 c49)), ?_⟩
        intro x81 ex81
        refine u_X7_trace_56 ?_
        refine ⟨fun c82 => ?_, fun c82 => ?_⟩
        · refine ⟨o_v0, ?_⟩
          refine ⟨a13, ea13, ?_⟩
          refine ⟨o_a13, ?_⟩
          have i84 : vp_in w10 (hN _ a13) := (vinL hl_a13 (q430 i1 c14 ex16 c17 c49 c82))
          refine ⟨i84, ?_⟩
          have hI := iv_aI (i := w10.toNatClampNeg) (v := x81) hI o_v0 (by decide) ea13 o_a13 (by decide)
          have f0 : FRI _ _ _ (sI S1 a13 w10.toNatClampNeg x81) := fri_aI (S := S1) g0 f0 o_a13 (by decide)
          have fL3 : FRI _ _ _ (sI S1 a13 w10.toNatClampNeg x81) := fri_aI (S := S1) gL2 fL3 o_a13 (by decide)
          refine ⟨fun c85 => ?_, fun c85 => ?_⟩
          · intro x86 ex86
            refine ⟨o_v1, ?_⟩
            refine m_X8_hasRoad hI o_v1 (fun x87 S88 hI2 g89 b_x87 p_x87 => ?_)
            obtain ⟨z_S88, p_x87⟩ := p_x87
            subst z_S88
            intro _ _
            have bb_x87 : x87 = 0 ∨ x87 = 1 := b_x87
            refine ⟨fun c91 => ?_, fun c91 => ?_⟩
            · refine u_X7_trace_143 ?_
              intro x92 ex92
              exact ih12 _ _ _ _ _ _ ⟨hI, gL2, fL3, rfl, rfl, (q431 i1 c14 ex16 c17 c49 c82 c85 ex86 p_x87 bb_x87 c91 ex92)⟩ (mu_up (q432 i1 c14 ex16 c17 c49 c82 c85 ex86 p_x87 bb_x87 c91 ex92) (q433 i1 c14 ex16 c17 c49 c82 c85 ex86 p_x87 bb_x87 c91 ex92))
            · obtain ⟨a93, ea93, o_a93, l_a93⟩ := shl 17 rfl hI o_v1
              refine ⟨a93, ea93, ?_⟩
              intro x94 ex94
              refine ⟨o_a93, ?_⟩
              have i96 : vp_in x94 (hN _ a93) := (vin l_a93 (m := 12) (by decide) (q434 i1 c14 ex16 c17 c49 c82 c85 ex86 p_x87 bb_x87 c91 ex94))
              obtain ⟨a95, ea95, o_a95⟩ := ae hI o_a93 (by decide) (by decide) i96
              replace o_a95 : ob _ a95 5 := o_a95
              refine ⟨i96, a95, ea95, ?_⟩
              intro x97 ex97
              intro x98 ex98
              refine ⟨o_a95, ?_⟩
              refine m_X5_endOf hI o_a95 (fun x99 S100 hI2 g101 p_x99 => ?_)
              subst p_x99
              intro _
              intro x103 ex103
              refine m_X5_minutesAt hI o_a95 (fun x104 S105 hI2 g106 p_x104 => ?_)
              subst p_x104
              intro _
              intro x108 ex108
              refine u_X7_trace_143 ?_
              intro x109 ex109
              exact ih12 _ _ _ _ _ _ ⟨hI, gL2, fL3, rfl, rfl, (q435 i1 c14 ex16 c17 c49 c82 c85 ex86 p_x87 bb_x87 c91 ex94 ex97 ex98 ex103 ex108 ex109)⟩ (mu_up (q436 i1 c14 ex16 c17 c49 c82 c85 ex86 p_x87 bb_x87 c91 ex94 ex97 ex98 ex103 ex108 ex109) (q437 i1 c14 ex16 c17 c49 c82 c85 ex86 p_x87 bb_x87 c91 ex94 ex97 ex98 ex103 ex108 ex109))
          · intro x110 ex110
            refine u_X7_trace_143 ?_
            intro x111 ex111
            exact ih12 _ _ _ _ _ _ ⟨hI, gL2, fL3, rfl, rfl, (q438 i1 c14 ex16 c17 c49 c82 c85 ex110 ex111)⟩ (mu_up (q439 i1 c14 ex16 c17 c49 c82 c85 ex110 ex111) (q440 i1 c14 ex16 c17 c49 c82 c85 ex110 ex111))
        · exact hq _ _ hI g0 f0
set_option maxHeartbeats 4000000 in
set_option maxRecDepth 20000 in
theorem m_X9_grant {v0 : Nat} {v1 : Int32} {Q : Int32 → HS → Prop} {S : HS} (hI : IV S) (o_v0 : ob S v0 9)     (hq : ∀ (r : Int32) (T : HS), IV T → Gr S T → FRI [(9, 9)] [] S T → Q r T) : P_X9_grant v0 v1 Q S := by
  have g0 := gr_rf S
  have f0 := fri_rf [(9, 9)] [] S
  refine u_X9_grant ?_
  refine u_X9_grant_0 ?_
  refine ⟨o_v0, ?_⟩
  have hI := iv_sI (j := 9) (v := (0 : Int32)) hI o_v0 (by decide) (nu_free (by decide))
  have f0 : FRI _ _ _ (sI S v0 9 (0 : Int32)) := fri_sI (S := S) g0 f0 o_v0 (by decide)
  obtain ⟨y1, hy1⟩ : ∃ z : Int32, z = (0 : Int32) := ⟨_, rfl⟩
  have d_y1 : y1 = fI (sI S v0 9 (0 : Int32)) v0 9 := hy1.trans (u2_self _ _ _ _).symm
  exact hq _ _ hI g0 f0
set_option maxHeartbeats 4000000 in
set_option maxRecDepth 20000 in
theorem m_X9_isWay {v0 : Int32} {Q : Int32 → HS → Prop} {S : HS} (hI : IV S)      (hq : ∀ (r : Int32) (T : HS), IV T → Gr S T → bl r → (S = T) ∧ (r = 1 → 0 ≤ v0 ∧ v0 ≤ 1) → Q r T) : P_X9_isWay v0 Q S := by
  have g0 := gr_rf S
  refine u_X9_isWay ?_
  refine u_X9_isWay_0 ?_
  refine ⟨fun c1 => ?_, fun c1 => ?_⟩
  · exact hq _ _ hI g0 (Or.inr rfl) ⟨rfl, (q16 c1)⟩
  · refine ⟨fun c2 => ?_, fun c2 => ?_⟩
    · exact hq _ _ hI g0 (Or.inl rfl) ⟨rfl, (q17 c1 c2)⟩
    · exact hq _ _ hI g0 (Or.inr rfl) ⟨rfl, (q18 c1 c2)⟩
set_option maxHeartbeats 4000000 in
set_option maxRecDepth 20000 in
theorem m_X9_air {v0 : Nat} {v1 : Int32} {v2 : Int32} {v3 : Int32} {Q : Int32 → HS → Prop} {S : HS} (hI : IV S) (o_v0 : ob S v0 9)     (hq : ∀ (r : Int32) (T : HS), IV T → Gr S T → FRI [(9, 9)] [] S T → Q r T) : P_X9_air v0 v1 v2 v3 Q S := by
  have g0 := gr_rf S
  have f0 := fri_rf [(9, 9)] [] S
  refine u_X9_air ?_
  refine u_X9_air_0 ?_
  refine ⟨o_v0, ?_⟩
  obtain ⟨a1, ea1, o_a1, -⟩ := sh 1 rfl hI o_v0
  refine ⟨a1, ea1, ?_⟩
  refine ⟨o_a1, ?_⟩
  refine m_X8_hasRoad hI o_a1 (fun x2 S3 hI2 g4 b_x2 p_x2 => ?_)
  obtain ⟨z_S3, p_x2⟩ := p_x2
  subst z_S3
  intro _ _
  have bb_x2 : x2 = 0 ∨ x2 = 1 := b_x2
  refine ⟨fun c6 => ?_, fun c6 => ?_⟩
  · have hI := iv_sI (j := 9) (v := (1 : Int32)) hI o_v0 (by decide) (nu_free (by decide))
    have f0 : FRI _ _ _ (sI S v0 9 (1 : Int32)) := fri_sI (S := S) g0 f0 o_v0 (by decide)
    obtain ⟨y7, hy7⟩ : ∃ z : Int32, z = (1 : Int32) := ⟨_, rfl⟩
    have d_y7 : y7 = fI (sI S v0 9 (1 : Int32)) v0 9 := hy7.trans (u2_self _ _ _ _).symm
    exact hq _ _ hI g0 f0
  · refine m_X9_isWay hI (fun x8 S9 hI2 g10 b_x8 p_x8 => ?_)
    obtain ⟨z_S9, p_x8⟩ := p_x8
    subst z_S9
    intro _ _
    have bb_x8 : x8 = 0 ∨ x8 = 1 := b_x8
    refine ⟨fun c12 => ?_, fun c12 => ?_⟩
    · have hI := iv_sI (j := 9) (v := (1 : Int32)) hI o_v0 (by decide) (nu_free (by decide))
      have f0 : FRI _ _ _ (sI S v0 9 (1 : Int32)) := fri_sI (S := S) g0 f0 o_v0 (by decide)
      obtain ⟨y13, hy13⟩ : ∃ z : Int32, z = (1 : Int32) := ⟨_, rfl⟩
      have d_y13 : y13 = fI (sI S v0 9 (1 : Int32)) v0 9 := hy13.trans (u2_self _ _ _ _).symm
      exact hq _ _ hI g0 f0
    · refine ⟨a1, ea1, ?_⟩
      refine ⟨o_a1, ?_⟩
      refine m_X8_hasHour hI o_a1 (fun x15 S16 hI2 g17 b_x15 p_x15 => ?_)
      obtain ⟨z_S16, p_x15⟩ := p_x15
      subst z_S16
      intro _ _
      have bb_x15 : x15 = 0 ∨ x15 = 1 := b_x15
      refine ⟨fun c19 => ?_, fun c19 => ?_⟩
      · refine ⟨a1, ea1, ?_⟩
        refine ⟨o_a1, ?_⟩
        obtain ⟨a21, ea21, o_a21, l_a21⟩ := shl 17 rfl hI o_a1
        refine ⟨a21, ea21, ?_⟩
        refine ⟨o_a21, ?_⟩
        have i23 : vp_in v1 (hN _ a21) := (vin l_a21 (m := 12) (by decide) (q775 p_x2 bb_x2 c6 p_x8 bb_x8 c12 p_x15 bb_x15 c19))
        obtain ⟨a22, ea22, o_a22⟩ := ae hI o_a21 (by decide) (by decide) i23
        replace o_a22 : ob _ a22 5 := o_a22
        refine ⟨i23, a22, ea22, ?_⟩
        refine ⟨a1, ea1, ?_⟩
        refine ⟨o_a1, ?_⟩
        obtain ⟨a25, ea25, o_a25, l_a25⟩ := shl 15 rfl hI o_a1
        refine ⟨a25, ea25, ?_⟩
        refine ⟨o_a25, ?_⟩
        have i27 : vp_in v3 (hN _ a25) := (vin l_a25 (m := 6) (by decide) (q776 p_x2 bb_x2 c6 p_x8 bb_x8 c12 p_x15 bb_x15 c19))
        obtain ⟨a26, ea26, o_a26⟩ := ae hI o_a25 (by decide) (by decide) i27
        replace o_a26 : ob _ a26 3 := o_a26
        refine ⟨i27, a26, ea26, ?_⟩
        refine ⟨o_a22, ?_⟩
        refine m_X5_airAlong hI o_a22 o_a26 (fun x28 S29 hI2 g30 p_x28 => ?_)
        subst p_x28
        intro _
        refine u_X9_grant ?_
        refine u_X9_grant_0 ?_
        refine ⟨o_v0, ?_⟩
        have hI := iv_sI (j := 9) (v := (0 : Int32)) hI o_v0 (by decide) (nu_free (by decide))
        have f0 : FRI _ _ _ (sI S v0 9 (0 : Int32)) := fri_sI (S := S) g0 f0 o_v0 (by decide)
        obtain ⟨y32, hy32⟩ : ∃ z : Int32, z = (0 : Int32) := ⟨_, rfl⟩
        have d_y32 : y32 = fI (sI S v0 9 (0 : Int32)) v0 9 := hy32.trans (u2_self _ _ _ _).symm
        intro _
        exact hq _ _ hI g0 f0
      · have hI := iv_sI (j := 9) (v := (1 : Int32)) hI o_v0 (by decide) (nu_free (by decide))
        have f0 : FRI _ _ _ (sI S v0 9 (1 : Int32)) := fri_sI (S := S) g0 f0 o_v0 (by decide)
        obtain ⟨y33, hy33⟩ : ∃ z : Int32, z = (1 : Int32) := ⟨_, rfl⟩
        have d_y33 : y33 = fI (sI S v0 9 (1 : Int32)) v0 9 := hy33.trans (u2_self _ _ _ _).symm
        exact hq _ _ hI g0 f0
set_option maxHeartbeats 4000000 in
set_option maxRecDepth 20000 in
theorem m_X9_refusedBy {v0 : Nat} {v1 : Int32} {Q : Int32 → HS → Prop} {S : HS} (hI : IV S) (o_v0 : ob S v0 9)     (hq : ∀ (r : Int32) (T : HS), IV T → Gr S T → FRI [(9, 9)] [] S T → bl r → Q r T) : P_X9_refusedBy v0 v1 Q S := by
  have g0 := gr_rf S
  have f0 := fri_rf [(9, 9)] [] S
  refine u_X9_refusedBy ?_
  refine u_X9_refusedBy_0 ?_
  refine ⟨o_v0, ?_⟩
  have hI := iv_sI (j := 9) (v := v1) hI o_v0 (by decide) (nu_free (by decide))
  have f0 : FRI _ _ _ (sI S v0 9 v1) := fri_sI (S := S) g0 f0 o_v0 (by decide)
  have d_v1 : v1 = fI (sI S v0 9 v1) v0 9 := (u2_self _ _ _ _).symm
  refine ⟨fun c1 => ?_, fun c1 => ?_⟩
  · exact hq _ _ hI g0 f0 (Or.inl rfl)
  · exact hq _ _ hI g0 f0 (Or.inr rfl)
set_option maxHeartbeats 4000000 in
set_option maxRecDepth 20000 in
theorem m_X9_back {v0 : Nat} {v1 : Int32} {Q : Int32 → HS → Prop} {S : HS} (hI : IV S) (o_v0 : ob S v0 9)     (hq : ∀ (r : Int32) (T : HS), IV T → Gr S T → FRI [(0, 2), (2, 0), (2, 1), (9, 9)] [] S T → bl r → Q r T) : P_X9_back v0 v1 Q S := by
  have g0 := gr_rf S
  have f0 := fri_rf [(0, 2), (2, 0), (2, 1), (9, 9)] [] S
  refine u_X9_back ?_
  refine u_X9_back_0 ?_
  refine ⟨o_v0, ?_⟩
  obtain ⟨a1, ea1, o_a1, -⟩ := sh 5 rfl hI o_v0
  refine ⟨a1, ea1, ?_⟩
  refine ⟨o_a1, ?_⟩
  refine m_X0_returnTo hI o_a1 (fun x2 S3 hI g4 fc5 b_x2 => ?_)
  have ea1 := (frr_at fc5 (by decide) (by decide) o_v0).trans ea1
  have f0 := fri_tr (S := S) g0 f0 fc5 (by decide) (by decide)
  have o_a1 := gr_ob g4 o_a1
  have o_v0 := gr_ob g4 o_v0
  have g0 := gr_tr (T := S) g0 g4
  intro _ _
  have bb_x2 : x2 = 0 ∨ x2 = 1 := b_x2
  refine ⟨fun c6 => ?_, fun c6 => ?_⟩
  · refine u_X9_back_17 ?_
    refine ⟨o_v0, ?_⟩
    refine u_X9_refusedBy ?_
    refine u_X9_refusedBy_0 ?_
    refine ⟨o_v0, ?_⟩
    have hI := iv_sI (j := 9) (v := (1 : Int32)) hI o_v0 (by decide) (nu_free (by decide))
    have f0 : FRI _ _ _ (sI S3 v0 9 (1 : Int32)) := fri_sI (S := S3) g0 f0 o_v0 (by decide)
    obtain ⟨y7, hy7⟩ : ∃ z : Int32, z = (1 : Int32) := ⟨_, rfl⟩
    have d_y7 : y7 = fI (sI S3 v0 9 (1 : Int32)) v0 9 := hy7.trans (u2_self _ _ _ _).symm
    refine ⟨fun c8 => ?_, fun c8 => ?_⟩
    · intro _ _
      refine ⟨fun c9 => ?_, fun c9 => ?_⟩
      · exact hq _ _ hI g0 f0 (Or.inl rfl)
      · exact hq _ _ hI g0 f0 (Or.inr rfl)
    · intro _ _
      refine ⟨fun c10 => ?_, fun c10 => ?_⟩
      · exact hq _ _ hI g0 f0 (Or.inl rfl)
      · exact hq _ _ hI g0 f0 (Or.inr rfl)
  · refine u_X9_back_17 ?_
    refine ⟨o_v0, ?_⟩
    refine u_X9_refusedBy ?_
    refine u_X9_refusedBy_0 ?_
    refine ⟨o_v0, ?_⟩
    have hI := iv_sI (j := 9) (v := (0 : Int32)) hI o_v0 (by decide) (nu_free (by decide))
    have f0 : FRI _ _ _ (sI S3 v0 9 (0 : Int32)) := fri_sI (S := S3) g0 f0 o_v0 (by decide)
    obtain ⟨y11, hy11⟩ : ∃ z : Int32, z = (0 : Int32) := ⟨_, rfl⟩
    have d_y11 : y11 = fI (sI S3 v0 9 (0 : Int32)) v0 9 := hy11.trans (u2_self _ _ _ _).symm
    refine ⟨fun c12 => ?_, fun c12 => ?_⟩
    · intro _ _
      refine ⟨fun c13 => ?_, fun c13 => ?_⟩
      · exact hq _ _ hI g0 f0 (Or.inl rfl)
      · exact hq _ _ hI g0 f0 (Or.inr rfl)
    · intro _ _
      refine ⟨fun c14 => ?_, fun c14 => ?_⟩
      · exact hq _ _ hI g0 f0 (Or.inl rfl)
      · exact hq _ _ hI g0 f0 (Or.inr rfl)
set_option maxHeartbeats 4000000 in
set_option maxRecDepth 20000 in
theorem m_X9_tripTrouble {v0 : Nat} {v1 : Int32} {v2 : Int32} {v3 : Int32} {v4 : Int32} {Q : Int32 → HS → Prop} {S : HS} (hI : IV S) (o_v0 : ob S v0 9)     (hq : ∀ (r : Int32) (T : HS), IV T → Gr S T → (S = T) ∧ (r = 0 → 0 ≤ v1 ∧ v1 < 4 ∧ 0 ≤ v2 ∧ v2 < 12 ∧ 0 ≤ v4 ∧ v4 < 6) → Q r T) : P_X9_tripTrouble v0 v1 v2 v3 v4 Q S := by
  have g0 := gr_rf S
  refine u_X9_tripTrouble ?_
  refine u_X9_tripTrouble_0 ?_
  refine ⟨o_v0, ?_⟩
  obtain ⟨a1, ea1, o_a1, -⟩ := sh 1 rfl hI o_v0
  refine ⟨a1, ea1, ?_⟩
  refine ⟨o_a1, ?_⟩
  refine m_X8_hasWalker hI o_a1 (fun x2 S3 hI2 g4 b_x2 p_x2 => ?_)
  obtain ⟨z_S3, p_x2⟩ := p_x2
  subst z_S3
  intro _ _
  have bb_x2 : x2 = 0 ∨ x2 = 1 := b_x2
  refine ⟨fun c6 => ?_, fun c6 => ?_⟩
  · refine u_X9_tripTrouble_45 ?_
    refine u_X9_tripTrouble_46 ?_
    refine ⟨fun c7 => ?_, fun c7 => ?_⟩
    · exact hq _ _ hI g0 ⟨rfl, (q6 p_x2 bb_x2 c6)⟩
    · exact hq _ _ hI g0 ⟨rfl, (q7 p_x2 bb_x2 c6 c7)⟩
  · refine ⟨a1, ea1, ?_⟩
    refine ⟨o_a1, ?_⟩
    refine m_X8_hasRoad hI o_a1 (fun x9 S10 hI2 g11 b_x9 p_x9 => ?_)
    obtain ⟨z_S10, p_x9⟩ := p_x9
    subst z_S10
    intro _ _
    have bb_x9 : x9 = 0 ∨ x9 = 1 := b_x9
    refine ⟨fun c13 => ?_, fun c13 => ?_⟩
    · refine u_X9_tripTrouble_45 ?_
      refine u_X9_tripTrouble_46 ?_
      refine ⟨fun c14 => ?_, fun c14 => ?_⟩
      · exact hq _ _ hI g0 ⟨rfl, (q8 p_x2 bb_x2 c6 p_x9 bb_x9 c13)⟩
      · exact hq _ _ hI g0 ⟨rfl, (q9 p_x2 bb_x2 c6 p_x9 bb_x9 c13 c14)⟩
    · refine m_X9_isWay hI (fun x15 S16 hI2 g17 b_x15 p_x15 => ?_)
      obtain ⟨z_S16, p_x15⟩ := p_x15
      subst z_S16
      intro _ _
      have bb_x15 : x15 = 0 ∨ x15 = 1 := b_x15
      refine ⟨fun c19 => ?_, fun c19 => ?_⟩
      · refine u_X9_tripTrouble_45 ?_
        refine u_X9_tripTrouble_46 ?_
        refine ⟨fun c20 => ?_, fun c20 => ?_⟩
        · exact hq _ _ hI g0 ⟨rfl, (q10 p_x2 bb_x2 c6 p_x9 bb_x9 c13 p_x15 bb_x15 c19)⟩
        · exact hq _ _ hI g0 ⟨rfl, (q11 p_x2 bb_x2 c6 p_x9 bb_x9 c13 p_x15 bb_x15 c19 c20)⟩
      · refine ⟨a1, ea1, ?_⟩
        refine ⟨o_a1, ?_⟩
        refine m_X8_hasHour hI o_a1 (fun x22 S23 hI2 g24 b_x22 p_x22 => ?_)
        obtain ⟨z_S23, p_x22⟩ := p_x22
        subst z_S23
        intro _ _
        have bb_x22 : x22 = 0 ∨ x22 = 1 := b_x22
        refine ⟨fun c26 => ?_, fun c26 => ?_⟩
        · refine u_X9_tripTrouble_45 ?_
          refine u_X9_tripTrouble_46 ?_
          refine ⟨fun c27 => ?_, fun c27 => ?_⟩
          · exact hq _ _ hI g0 ⟨rfl, (q12 p_x2 bb_x2 c6 p_x9 bb_x9 c13 p_x15 bb_x15 c19 p_x22 bb_x22 c26)⟩
          · exact hq _ _ hI g0 ⟨rfl, (q13 p_x2 bb_x2 c6 p_x9 bb_x9 c13 p_x15 bb_x15 c19 p_x22 bb_x22 c26 c27)⟩
        · refine u_X9_tripTrouble_46 ?_
          refine ⟨fun c28 => ?_, fun c28 => ?_⟩
          · exact hq _ _ hI g0 ⟨rfl, (q14 p_x2 bb_x2 c6 p_x9 bb_x9 c13 p_x15 bb_x15 c19 p_x22 bb_x22 c26 c28)⟩
          · exact hq _ _ hI g0 ⟨rfl, (q15 p_x2 bb_x2 c6 p_x9 bb_x9 c13 p_x15 bb_x15 c19 p_x22 bb_x22 c26)⟩
set_option maxHeartbeats 4000000 in
set_option maxRecDepth 20000 in
theorem m_X9_best {v0 : Nat} {v1 : Int32} {v2 : Int32} {v3 : Int32} {v4 : Int32} {Q : Int32 → HS → Prop} {S : HS} (hI : IV S) (o_v0 : ob S v0 9)     (hq : ∀ (r : Int32) (T : HS), IV T → Gr S T → FRI [(9, 9)] [] S T → Q r T) : P_X9_best v0 v1 v2 v3 v4 Q S := by
  have g0 := gr_rf S
  have f0 := fri_rf [(9, 9)] [] S
  refine u_X9_best ?_
  refine u_X9_best_0 ?_
  refine ⟨o_v0, ?_⟩
  refine m_X9_tripTrouble hI o_v0 (fun x1 S2 hI2 g3 p_x1 => ?_)
  obtain ⟨z_S2, p_x1⟩ := p_x1
  subst z_S2
  intro _
  refine u_X9_refusedBy ?_
  refine u_X9_refusedBy_0 ?_
  refine ⟨o_v0, ?_⟩
  have hI := iv_sI (j := 9) (v := x1) hI o_v0 (by decide) (nu_free (by decide))
  have f0 : FRI _ _ _ (sI S v0 9 x1) := fri_sI (S := S) g0 f0 o_v0 (by decide)
  have d_x1 : x1 = fI (sI S v0 9 x1) v0 9 := (u2_self _ _ _ _).symm
  refine ⟨fun c5 => ?_, fun c5 => ?_⟩
  · intro _ _
    refine ⟨fun c6 => ?_, fun c6 => ?_⟩
    · obtain ⟨a7, ea7, o_a7, -⟩ := sh 3 rfl hI o_v0
      refine ⟨a7, ea7, ?_⟩
      obtain ⟨a8, ea8, o_a8, -⟩ := sh 1 rfl hI o_v0
      refine ⟨a8, ea8, ?_⟩
      refine ⟨o_a8, ?_⟩
      obtain ⟨a9, ea9, o_a9, l_a9⟩ := shl 18 rfl hI o_a8
      refine ⟨a9, ea9, ?_⟩
      refine ⟨o_a9, ?_⟩
      have i11 : vp_in v1 (hN _ a9) := (vin l_a9 (m := 4) (by decide) (q0 p_x1 c5))
      obtain ⟨a10, ea10, o_a10⟩ := ae hI o_a9 (by decide) (by decide) i11
      replace o_a10 : ob _ a10 6 := o_a10
      refine ⟨i11, a10, ea10, ?_⟩
      refine ⟨a8, ea8, ?_⟩
      refine ⟨o_a8, ?_⟩
      obtain ⟨a13, ea13, o_a13, l_a13⟩ := shl 17 rfl hI o_a8
      refine ⟨a13, ea13, ?_⟩
      refine ⟨o_a13, ?_⟩
      have i15 : vp_in v2 (hN _ a13) := (vin l_a13 (m := 12) (by decide) (q1 p_x1 c5))
      obtain ⟨a14, ea14, o_a14⟩ := ae hI o_a13 (by decide) (by decide) i15
      replace o_a14 : ob _ a14 5 := o_a14
      refine ⟨i15, a14, ea14, ?_⟩
      refine ⟨a8, ea8, ?_⟩
      refine ⟨o_a8, ?_⟩
      obtain ⟨a17, ea17, o_a17, l_a17⟩ := shl 15 rfl hI o_a8
      refine ⟨a17, ea17, ?_⟩
      refine ⟨o_a17, ?_⟩
      have i19 : vp_in v4 (hN _ a17) := (vin l_a17 (m := 6) (by decide) (q2 p_x1 c5))
      obtain ⟨a18, ea18, o_a18⟩ := ae hI o_a17 (by decide) (by decide) i19
      replace o_a18 : ob _ a18 3 := o_a18
      refine ⟨i19, a18, ea18, ?_⟩
      refine ⟨o_a7, ?_⟩
      refine m_X1_bestSpeed hI o_a7 o_a10 o_a14 o_a18 (fun x20 S21 hI g22 fc23 => ?_)
      have l_a13 := (gr_len g22 o_a13).trans l_a13
      have l_a17 := (gr_len g22 o_a17).trans l_a17
      have l_a9 := (gr_len g22 o_a9).trans l_a9
      have d_x1 := d_x1.trans (fri_at fc23 (by decide) (by decide) o_v0).symm
      have ea7 := (frr_at fc23 (by decide) (by decide) o_v0).trans ea7
      have ea8 := (frr_at fc23 (by decide) (by decide) o_v0).trans ea8
      have ea9 := (frr_at fc23 (by decide) (by decide) o_a8).trans ea9
      have ea13 := (frr_at fc23 (by decide) (by decide) o_a8).trans ea13
      have ea17 := (frr_at fc23 (by decide) (by decide) o_a8).trans ea17
      have f0 := fri_tr (S := sI S v0 9 x1) g0 f0 fc23 (by decide) (by decide)
      have o_a10 := gr_ob g22 o_a10
      have o_a13 := gr_ob g22 o_a13
      have o_a14 := gr_ob g22 o_a14
      have o_a17 := gr_ob g22 o_a17
      have o_a18 := gr_ob g22 o_a18
      have o_a7 := gr_ob g22 o_a7
      have o_a8 := gr_ob g22 o_a8
      have o_a9 := gr_ob g22 o_a9
      have o_v0 := gr_ob g22 o_v0
      have g0 := gr_tr (T := sI S v0 9 x1) g0 g22
      intro _
      exact hq _ _ hI g0 f0
    · exact hq _ _ hI g0 f0
  · intro _ _
    refine ⟨fun c24 => ?_, fun c24 => ?_⟩
    · obtain ⟨a25, ea25, o_a25, -⟩ := sh 3 rfl hI o_v0
      refine ⟨a25, ea25, ?_⟩
      obtain ⟨a26, ea26, o_a26, -⟩ := sh 1 rfl hI o_v0
      refine ⟨a26, ea26, ?_⟩
      refine ⟨o_a26, ?_⟩
      obtain ⟨a27, ea27, o_a27, l_a27⟩ := shl 18 rfl hI o_a26
      refine ⟨a27, ea27, ?_⟩
      refine ⟨o_a27, ?_⟩
      have i29 : vp_in v1 (hN _ a27) := (vin l_a27 (m := 4) (by decide) (q3 p_x1 c5 c24))
      obtain ⟨a28, ea28, o_a28⟩ := ae hI o_a27 (by decide) (by decide) i29
      replace o_a28 : ob _ a28 6 := o_a28
      refine ⟨i29, a28, ea28, ?_⟩
      refine ⟨a26, ea26, ?_⟩
      refine ⟨o_a26, ?_⟩
      obtain ⟨a31, ea31, o_a31, l_a31⟩ := shl 17 rfl hI o_a26
      refine ⟨a31, ea31, ?_⟩
      refine ⟨o_a31, ?_⟩
      have i33 : vp_in v2 (hN _ a31) := (vin l_a31 (m := 12) (by decide) (q4 p_x1 c5 c24))
      obtain ⟨a32, ea32, o_a32⟩ := ae hI o_a31 (by decide) (by decide) i33
      replace o_a32 : ob _ a32 5 := o_a32
      refine ⟨i33, a32, ea32, ?_⟩
      refine ⟨a26, ea26, ?_⟩
      refine ⟨o_a26, ?_⟩
      obtain ⟨a35, ea35, o_a35, l_a35⟩ := shl 15 rfl hI o_a26
      refine ⟨a35, ea35, ?_⟩
      refine ⟨o_a35, ?_⟩
      have i37 : vp_in v4 (hN _ a35) := (vin l_a35 (m := 6) (by decide) (q5 p_x1 c5 c24))
      obtain ⟨a36, ea36, o_a36⟩ := ae hI o_a35 (by decide) (by decide) i37
      replace o_a36 : ob _ a36 3 := o_a36
      refine ⟨i37, a36, ea36, ?_⟩
      refine ⟨o_a25, ?_⟩
      refine m_X1_bestSpeed hI o_a25 o_a28 o_a32 o_a36 (fun x38 S39 hI g40 fc41 => ?_)
      have l_a27 := (gr_len g40 o_a27).trans l_a27
      have l_a31 := (gr_len g40 o_a31).trans l_a31
      have l_a35 := (gr_len g40 o_a35).trans l_a35
      have d_x1 := d_x1.trans (fri_at fc41 (by decide) (by decide) o_v0).symm
      have ea25 := (frr_at fc41 (by decide) (by decide) o_v0).trans ea25
      have ea26 := (frr_at fc41 (by decide) (by decide) o_v0).trans ea26
      have ea27 := (frr_at fc41 (by decide) (by decide) o_a26).trans ea27
      have ea31 := (frr_at fc41 (by decide) (by decide) o_a26).trans ea31
      have ea35 := (frr_at fc41 (by decide) (by decide) o_a26).trans ea35
      have f0 := fri_tr (S := sI S v0 9 x1) g0 f0 fc41 (by decide) (by decide)
      have o_a25 := gr_ob g40 o_a25
      have o_a26 := gr_ob g40 o_a26
      have o_a27 := gr_ob g40 o_a27
      have o_a28 := gr_ob g40 o_a28
      have o_a31 := gr_ob g40 o_a31
      have o_a32 := gr_ob g40 o_a32
      have o_a35 := gr_ob g40 o_a35
      have o_a36 := gr_ob g40 o_a36
      have o_v0 := gr_ob g40 o_v0
      have g0 := gr_tr (T := sI S v0 9 x1) g0 g40
      intro _
      exact hq _ _ hI g0 f0
    · exact hq _ _ hI g0 f0
set_option maxHeartbeats 4000000 in
set_option maxRecDepth 20000 in
theorem m_X9_coatParts {v0 : Nat} {Q : Int64 → HS → Prop} {S : HS} (hI : IV S) (o_v0 : ob S v0 6)     (hq : ∀ (r : Int64) (T : HS), IV T → Gr S T → (S = T) → Q r T) : P_X9_coatParts v0 Q S := by
  have g0 := gr_rf S
  refine u_X9_coatParts ?_
  refine u_X9_coatParts_0 ?_
  refine ⟨o_v0, ?_⟩
  intro x1 ex1
  have d_x1 := ex1
  refine ⟨fun c2 => ?_, fun c2 => ?_⟩
  · exact hq _ _ hI g0 rfl
  · intro x3 ex3
    have d_x3 := ex3
    exact hq _ _ hI g0 rfl
set_option maxHeartbeats 4000000 in
set_option maxRecDepth 20000 in
theorem m_X9_commonDivisor {v0 : Int64} {v2 : Int64} {Q : Int64 → HS → Prop} {S : HS} (hI : IV S)      (hq : ∀ (r : Int64) (T : HS), IV T → Gr S T → (S = T) → Q r T) : P_X9_commonDivisor v0 v2 Q S := by
  have g0 := gr_rf S
  refine u_X9_commonDivisor ?_
  refine u_X9_commonDivisor_0 ?_
  refine i_X9_commonDivisor_9 (fun (y4 : Int64) (y6 : Int64) (y8 : Int32) (Z : HS) => ((2147483647 : Int32).toInt - y8.toInt).toNat) (fun (y4 : Int64) (y6 : Int64) (y8 : Int32) (Z : HS) => (S = Z) ∧ (0 ≤ y8)) ?_ _ _ _ _ ⟨rfl, (q82)⟩
  intro w4 w5 w6 S1 X7 ⟨eS1, i1⟩ ih8
  subst eS1
  refine u_X9_commonDivisor_9 ?_
  refine ⟨fun c9 => ?_, fun c9 => ?_⟩
  · exact hq _ _ hI g0 rfl
  · refine ⟨fun c10 => ?_, fun c10 => ?_⟩
    · exact hq _ _ hI g0 rfl
    · refine ⟨(lc_ne c10), ?_⟩
      intro x11 ex11
      intro x12 ex12
      exact ih8 _ _ _ _ ⟨rfl, (q83 i1 c9 c10 ex12)⟩ (mu_up (q84 i1 c9 c10 ex12) (q85 i1 c9 c10 ex12))
set_option maxHeartbeats 4000000 in
set_option maxRecDepth 20000 in
theorem m_X9_refuse {v0 : Nat} {v1 : Int32} {Q : Int32 → HS → Prop} {S : HS} (hI : IV S) (o_v0 : ob S v0 9)     (hq : ∀ (r : Int32) (T : HS), IV T → Gr S T → FRI [(9, 9)] [] S T → Q r T) : P_X9_refuse v0 v1 Q S := by
  have g0 := gr_rf S
  have f0 := fri_rf [(9, 9)] [] S
  refine u_X9_refuse ?_
  refine u_X9_refuse_0 ?_
  refine ⟨o_v0, ?_⟩
  have hI := iv_sI (j := 9) (v := v1) hI o_v0 (by decide) (nu_free (by decide))
  have f0 : FRI _ _ _ (sI S v0 9 v1) := fri_sI (S := S) g0 f0 o_v0 (by decide)
  have d_v1 : v1 = fI (sI S v0 9 v1) v0 9 := (u2_self _ _ _ _).symm
  exact hq _ _ hI g0 f0
set_option maxHeartbeats 4000000 in
set_option maxRecDepth 20000 in
theorem m_X9_day {v0 : Nat} {v1 : Int32} {v2 : Int32} {v3 : Int32} {v4 : Int32} {Q : Int32 → HS → Prop} {S : HS} (hI : IV S) (o_v0 : ob S v0 9)     (hq : ∀ (r : Int32) (T : HS), IV T → Gr S T → FRI [(0, 0), (0, 1), (0, 2), (0, 3), (2, 0), (2, 1), (9, 9)] [] S T → Q r T) : P_X9_day v0 v1 v2 v3 v4 Q S := by
  have g0 := gr_rf S
  have f0 := fri_rf [(0, 0), (0, 1), (0, 2), (0, 3), (2, 0), (2, 1), (9, 9)] [] S
  refine u_X9_day ?_
  refine u_X9_day_0 ?_
  refine ⟨o_v0, ?_⟩
  obtain ⟨a1, ea1, o_a1, -⟩ := sh 1 rfl hI o_v0
  refine ⟨a1, ea1, ?_⟩
  refine ⟨o_a1, ?_⟩
  refine m_X8_hasWalker hI o_a1 (fun x2 S3 hI2 g4 b_x2 p_x2 => ?_)
  obtain ⟨z_S3, p_x2⟩ := p_x2
  subst z_S3
  intro _ _
  have bb_x2 : x2 = 0 ∨ x2 = 1 := b_x2
  refine ⟨fun c6 => ?_, fun c6 => ?_⟩
  · refine u_X9_day_22 ?_
    refine ⟨o_v0, ?_⟩
    refine u_X9_refuse ?_
    refine u_X9_refuse_0 ?_
    refine ⟨o_v0, ?_⟩
    have hI := iv_sI (j := 9) (v := (1 : Int32)) hI o_v0 (by decide) (nu_free (by decide))
    have f0 : FRI _ _ _ (sI S v0 9 (1 : Int32)) := fri_sI (S := S) g0 f0 o_v0 (by decide)
    obtain ⟨y7, hy7⟩ : ∃ z : Int32, z = (1 : Int32) := ⟨_, rfl⟩
    have d_y7 : y7 = fI (sI S v0 9 (1 : Int32)) v0 9 := hy7.trans (u2_self _ _ _ _).symm
    intro _
    exact hq _ _ hI g0 f0
  · refine ⟨a1, ea1, ?_⟩
    refine ⟨o_a1, ?_⟩
    refine m_X8_hasPlace hI o_a1 (fun x9 S10 hI2 g11 b_x9 p_x9 => ?_)
    obtain ⟨z_S10, p_x9⟩ := p_x9
    subst z_S10
    intro _ _
    have bb_x9 : x9 = 0 ∨ x9 = 1 := b_x9
    refine ⟨fun c13 => ?_, fun c13 => ?_⟩
    · refine ⟨fun c14 => ?_, fun c14 => ?_⟩
      · refine u_X9_day_52 ?_
        refine ⟨o_v0, ?_⟩
        refine u_X9_refuse ?_
        refine u_X9_refuse_0 ?_
        refine ⟨o_v0, ?_⟩
        have hI := iv_sI (j := 9) (v := (2 : Int32)) hI o_v0 (by decide) (nu_free (by decide))
        have f0 : FRI _ _ _ (sI S v0 9 (2 : Int32)) := fri_sI (S := S) g0 f0 o_v0 (by decide)
        obtain ⟨y15, hy15⟩ : ∃ z : Int32, z = (2 : Int32) := ⟨_, rfl⟩
        have d_y15 : y15 = fI (sI S v0 9 (2 : Int32)) v0 9 := hy15.trans (u2_self _ _ _ _).symm
        intro _
        exact hq _ _ hI g0 f0
      · refine ⟨fun c16 => ?_, fun c16 => ?_⟩
        · refine u_X9_day_52 ?_
          refine ⟨o_v0, ?_⟩
          refine u_X9_refuse ?_
          refine u_X9_refuse_0 ?_
          refine ⟨o_v0, ?_⟩
          have hI := iv_sI (j := 9) (v := (2 : Int32)) hI o_v0 (by decide) (nu_free (by decide))
          have f0 : FRI _ _ _ (sI S v0 9 (2 : Int32)) := fri_sI (S := S) g0 f0 o_v0 (by decide)
          obtain ⟨y17, hy17⟩ : ∃ z : Int32, z = (2 : Int32) := ⟨_, rfl⟩
          have d_y17 : y17 = fI (sI S v0 9 (2 : Int32)) v0 9 := hy17.trans (u2_self _ _ _ _).symm
          intro _
          exact hq _ _ hI g0 f0
        · refine ⟨fun c18 => ?_, fun c18 => ?_⟩
          · refine u_X9_day_52 ?_
            refine ⟨o_v0, ?_⟩
            refine u_X9_refuse ?_
            refine u_X9_refuse_0 ?_
            refine ⟨o_v0, ?_⟩
            have hI := iv_sI (j := 9) (v := (2 : Int32)) hI o_v0 (by decide) (nu_free (by decide))
            have f0 : FRI _ _ _ (sI S v0 9 (2 : Int32)) := fri_sI (S := S) g0 f0 o_v0 (by decide)
            obtain ⟨y19, hy19⟩ : ∃ z : Int32, z = (2 : Int32) := ⟨_, rfl⟩
            have d_y19 : y19 = fI (sI S v0 9 (2 : Int32)) v0 9 := hy19.trans (u2_self _ _ _ _).symm
            intro _
            exact hq _ _ hI g0 f0
          · refine ⟨fun c20 => ?_, fun c20 => ?_⟩
            · obtain ⟨a21, ea21, o_a21, -⟩ := sh 5 rfl hI o_v0
              refine ⟨a21, ea21, ?_⟩
              refine ⟨o_a21, ?_⟩
              refine m_X0_begin hI o_a21 (q761 p_x2 bb_x2 c6 p_x9 bb_x9 c13 c14 c16 c18 c20) (fun S23 hI g24 fc25 => ?_)
              have ea1 := (frr_at fc25 (by decide) (by decide) o_v0).trans ea1
              have ea21 := (frr_at fc25 (by decide) (by decide) o_v0).trans ea21
              have f0 := fri_tr (S := S) g0 f0 fc25 (by decide) (by decide)
              have o_a1 := gr_ob g24 o_a1
              have o_a21 := gr_ob g24 o_a21
              have o_v0 := gr_ob g24 o_v0
              have g0 := gr_tr (T := S) g0 g24
              intro _
              refine ⟨a21, ea21, ?_⟩
              refine ⟨a1, ea1, ?_⟩
              refine ⟨o_a21, ?_⟩
              refine m_X0_draw hI o_a21 o_a1 (fun S29 hI g30 fc31 => ?_)
              have ea1 := (frr_at fc31 (by decide) (by decide) o_v0).trans ea1
              have ea21 := (frr_at fc31 (by decide) (by decide) o_v0).trans ea21
              have f0 := fri_tr (S := S23) g0 f0 fc31 (by decide) (by decide)
              have o_a1 := gr_ob g30 o_a1
              have o_a21 := gr_ob g30 o_a21
              have o_v0 := gr_ob g30 o_v0
              have g0 := gr_tr (T := S23) g0 g30
              intro _
              refine ⟨a21, ea21, ?_⟩
              refine ⟨o_a21, ?_⟩
              intro x33 ex33
              have d_x33 := ex33
              refine u_X9_grant ?_
              refine u_X9_grant_0 ?_
              refine ⟨o_v0, ?_⟩
              have hI := iv_sI (j := 9) (v := (0 : Int32)) hI o_v0 (by decide) (nu_free (by decide))
              have f0 : FRI _ _ _ (sI S29 v0 9 (0 : Int32)) := fri_sI (S := S29) g0 f0 o_v0 (by decide)
              have d_x33 : x33 = fI (sI S29 v0 9 (0 : Int32)) a21 1 := d_x33.trans (sI_ne (S := S29) o_v0 o_a21 (by decide) 1).symm
              obtain ⟨y34, hy34⟩ : ∃ z : Int32, z = (0 : Int32) := ⟨_, rfl⟩
              have d_y34 : y34 = fI (sI S29 v0 9 (0 : Int32)) v0 9 := hy34.trans (u2_self _ _ _ _).symm
              intro _
              exact hq _ _ hI g0 f0
            · refine u_X9_day_52 ?_
              refine ⟨o_v0, ?_⟩
              refine u_X9_refuse ?_
              refine u_X9_refuse_0 ?_
              refine ⟨o_v0, ?_⟩
              have hI := iv_sI (j := 9) (v := (2 : Int32)) hI o_v0 (by decide) (nu_free (by decide))
              have f0 : FRI _ _ _ (sI S v0 9 (2 : Int32)) := fri_sI (S := S) g0 f0 o_v0 (by decide)
              obtain ⟨y35, hy35⟩ : ∃ z : Int32, z = (2 : Int32) := ⟨_, rfl⟩
              have d_y35 : y35 = fI (sI S v0 9 (2 : Int32)) v0 9 := hy35.trans (u2_self _ _ _ _).symm
              intro _
              exact hq _ _ hI g0 f0
    · refine u_X9_day_22 ?_
      refine ⟨o_v0, ?_⟩
      refine u_X9_refuse ?_
      refine u_X9_refuse_0 ?_
      refine ⟨o_v0, ?_⟩
      have hI := iv_sI (j := 9) (v := (1 : Int32)) hI o_v0 (by decide) (nu_free (by decide))
      have f0 : FRI _ _ _ (sI S v0 9 (1 : Int32)) := fri_sI (S := S) g0 f0 o_v0 (by decide)
      obtain ⟨y36, hy36⟩ : ∃ z : Int32, z = (1 : Int32) := ⟨_, rfl⟩
      have d_y36 : y36 = fI (sI S v0 9 (1 : Int32)) v0 9 := hy36.trans (u2_self _ _ _ _).symm
      intro _
      exact hq _ _ hI g0 f0
set_option maxHeartbeats 4000000 in
set_option maxRecDepth 20000 in
theorem m_X9_driest {v0 : Nat} {v1 : Int32} {v2 : Int32} {v3 : Int32} {Q : Int32 → HS → Prop} {S : HS} (hI : IV S) (o_v0 : ob S v0 9)     (hq : ∀ (r : Int32) (T : HS), IV T → Gr S T → FRI [(9, 9)] [] S T → Q r T) : P_X9_driest v0 v1 v2 v3 Q S := by
  have g0 := gr_rf S
  have f0 := fri_rf [(9, 9)] [] S
  refine u_X9_driest ?_
  refine u_X9_driest_0 ?_
  refine ⟨o_v0, ?_⟩
  obtain ⟨a1, ea1, o_a1, -⟩ := sh 1 rfl hI o_v0
  refine ⟨a1, ea1, ?_⟩
  refine ⟨o_a1, ?_⟩
  refine m_X8_hasWalker hI o_a1 (fun x2 S3 hI2 g4 b_x2 p_x2 => ?_)
  obtain ⟨z_S3, p_x2⟩ := p_x2
  subst z_S3
  intro _ _
  have bb_x2 : x2 = 0 ∨ x2 = 1 := b_x2
  refine ⟨fun c6 => ?_, fun c6 => ?_⟩
  · refine u_X9_driest_29 ?_
    refine ⟨o_v0, ?_⟩
    refine u_X9_refuse ?_
    refine u_X9_refuse_0 ?_
    refine ⟨o_v0, ?_⟩
    have hI := iv_sI (j := 9) (v := (1 : Int32)) hI o_v0 (by decide) (nu_free (by decide))
    have f0 : FRI _ _ _ (sI S v0 9 (1 : Int32)) := fri_sI (S := S) g0 f0 o_v0 (by decide)
    obtain ⟨y7, hy7⟩ : ∃ z : Int32, z = (1 : Int32) := ⟨_, rfl⟩
    have d_y7 : y7 = fI (sI S v0 9 (1 : Int32)) v0 9 := hy7.trans (u2_self _ _ _ _).symm
    intro _
    exact hq _ _ hI g0 f0
  · refine ⟨a1, ea1, ?_⟩
    refine ⟨o_a1, ?_⟩
    refine m_X8_hasRoad hI o_a1 (fun x9 S10 hI2 g11 b_x9 p_x9 => ?_)
    obtain ⟨z_S10, p_x9⟩ := p_x9
    subst z_S10
    intro _ _
    have bb_x9 : x9 = 0 ∨ x9 = 1 := b_x9
    refine ⟨fun c13 => ?_, fun c13 => ?_⟩
    · refine u_X9_driest_29 ?_
      refine ⟨o_v0, ?_⟩
      refine u_X9_refuse ?_
      refine u_X9_refuse_0 ?_
      refine ⟨o_v0, ?_⟩
      have hI := iv_sI (j := 9) (v := (1 : Int32)) hI o_v0 (by decide) (nu_free (by decide))
      have f0 : FRI _ _ _ (sI S v0 9 (1 : Int32)) := fri_sI (S := S) g0 f0 o_v0 (by decide)
      obtain ⟨y14, hy14⟩ : ∃ z : Int32, z = (1 : Int32) := ⟨_, rfl⟩
      have d_y14 : y14 = fI (sI S v0 9 (1 : Int32)) v0 9 := hy14.trans (u2_self _ _ _ _).symm
      intro _
      exact hq _ _ hI g0 f0
    · refine m_X9_isWay hI (fun x15 S16 hI2 g17 b_x15 p_x15 => ?_)
      obtain ⟨z_S16, p_x15⟩ := p_x15
      subst z_S16
      intro _ _
      have bb_x15 : x15 = 0 ∨ x15 = 1 := b_x15
      refine ⟨fun c19 => ?_, fun c19 => ?_⟩
      · refine ⟨a1, ea1, ?_⟩
        refine ⟨o_a1, ?_⟩
        intro x21 ex21
        have r_x21 : (0 : Int32) ≤ x21 ∧ x21 ≤ (6 : Int32) := by rw [ex21]; exact nu 11 rfl hI o_a1
        have d_x21 := ex21
        refine ⟨fun c22 => ?_, fun c22 => ?_⟩
        · refine i_X9_driest_63 (fun (y0 : Nat) (y1 : Int32) (y2 : Int32) (y3 : Int32) (y4 : Int32) (y5 : Int64) (y7 : Int32) (Z : HS) => ((2147483647 : Int32).toInt - y7.toInt).toNat) (fun (y0 : Nat) (y1 : Int32) (y2 : Int32) (y3 : Int32) (y4 : Int32) (y5 : Int64) (y7 : Int32) (Z : HS) => (IV Z) ∧ (Gr S Z) ∧ (FRI [] [] S Z) ∧ (v0 = y0) ∧ (v1 = y1) ∧ (v2 = y2) ∧ (v3 = y3) ∧ (0 ≤ y7)) ?_ _ _ _ _ _ _ _ _ ⟨hI, (gr_rf _), (fri_rf _ _ _), rfl, rfl, rfl, rfl, (q751 p_x2 bb_x2 c6 p_x9 bb_x9 c13 p_x15 bb_x15 c19 r_x21 c22)⟩
          intro w26 w28 w30 w32 w34 w35 w36 S23 X37 ⟨hI, gL24, fL25, q27, q29, q31, q33, i1⟩ ih38
          subst q27
          subst q29
          subst q31
          subst q33
          have d_x21 := d_x21.trans (fri_at fL25 (by decide) (by decide) o_a1).symm
          have ea1 := (frr_at fL25 (by decide) (by decide) o_v0).trans ea1
          have f0 := fri_tr (S := S) g0 f0 fL25 (by decide) (by decide)
          have o_a1 := gr_ob gL24 o_a1
          have o_v0 := gr_ob gL24 o_v0
          have g0 := gr_tr (T := S) g0 gL24
          refine u_X9_driest_63 ?_
          refine ⟨o_v0, ?_⟩
          refine ⟨a1, ea1, ?_⟩
          refine ⟨o_a1, ?_⟩
          intro x40 ex40
          have r_x40 : (0 : Int32) ≤ x40 ∧ x40 ≤ (6 : Int32) := by rw [ex40]; exact nu 11 rfl hI o_a1
          have q_x40 : x40 = x21 := ex40.trans d_x21.symm
          have d_x40 := ex40
          refine ⟨fun c41 => ?_, fun c41 => ?_⟩
          · refine u_X9_grant ?_
            refine u_X9_grant_0 ?_
            refine ⟨o_v0, ?_⟩
            have hI := iv_sI (j := 9) (v := (0 : Int32)) hI o_v0 (by decide) (nu_free (by decide))
            have f0 : FRI _ _ _ (sI S23 v0 9 (0 : Int32)) := fri_sI (S := S23) g0 f0 o_v0 (by decide)
            have fL25 : FRI _ _ _ (sI S23 v0 9 (0 : Int32)) := fri_sI (S := S23) gL24 fL25 o_v0 (by decide)
            have d_x40 : x40 = fI (sI S23 v0 9 (0 : Int32)) a1 1 := d_x40.trans (sI_ne (S := S23) o_v0 o_a1 (by decide) 1).symm
            obtain ⟨y42, hy42⟩ : ∃ z : Int32, z = (0 : Int32) := ⟨_, rfl⟩
            have d_y42 : y42 = fI (sI S23 v0 9 (0 : Int32)) v0 9 := hy42.trans (u2_self _ _ _ _).symm
            intro _
            exact hq _ _ hI g0 f0
          · refine ⟨a1, ea1, ?_⟩
            refine ⟨o_a1, ?_⟩
            obtain ⟨a44, ea44, o_a44, l_a44⟩ := shl 15 rfl hI o_a1
            refine ⟨a44, ea44, ?_⟩
            refine ⟨o_a44, ?_⟩
            have i46 : vp_in w36 (hN _ a44) := (vin l_a44 (m := 6) (by decide) (q752 p_x2 bb_x2 c6 p_x9 bb_x9 c13 p_x15 bb_x15 c19 r_x21 c22 i1 r_x40 q_x40 c41))
            obtain ⟨a45, ea45, o_a45⟩ := ae hI o_a44 (by decide) (by decide) i46
            replace o_a45 : ob _ a45 3 := o_a45
            refine ⟨i46, a45, ea45, ?_⟩
            obtain ⟨a47, ea47, o_a47, -⟩ := sh 3 rfl hI o_v0
            refine ⟨a47, ea47, ?_⟩
            refine ⟨a1, ea1, ?_⟩
            refine ⟨o_a1, ?_⟩
            obtain ⟨a49, ea49, o_a49, l_a49⟩ := shl 18 rfl hI o_a1
            refine ⟨a49, ea49, ?_⟩
            refine ⟨o_a49, ?_⟩
            have i51 : vp_in v1 (hN _ a49) := (vin l_a49 (m := 4) (by decide) (q753 p_x2 bb_x2 c6 p_x9 bb_x9 c13 p_x15 bb_x15 c19 r_x21 c22 i1 r_x40 q_x40 c41))
            obtain ⟨a50, ea50, o_a50⟩ := ae hI o_a49 (by decide) (by decide) i51
            replace o_a50 : ob _ a50 6 := o_a50
            refine ⟨i51, a50, ea50, ?_⟩
            refine ⟨a1, ea1, ?_⟩
            refine ⟨o_a1, ?_⟩
            obtain ⟨a53, ea53, o_a53, l_a53⟩ := shl 17 rfl hI o_a1
            refine ⟨a53, ea53, ?_⟩
            refine ⟨o_a53, ?_⟩
            have i55 : vp_in v2 (hN _ a53) := (vin l_a53 (m := 12) (by decide) (q754 p_x2 bb_x2 c6 p_x9 bb_x9 c13 p_x15 bb_x15 c19 r_x21 c22 i1 r_x40 q_x40 c41))
            obtain ⟨a54, ea54, o_a54⟩ := ae hI o_a53 (by decide) (by decide) i55
            replace o_a54 : ob _ a54 5 := o_a54
            refine ⟨i55, a54, ea54, ?_⟩
            refine ⟨o_a47, ?_⟩
            refine m_X1_leastWet hI o_a47 o_a50 o_a54 o_a45 (fun x56 S57 hI g58 fc59 => ?_)
            have l_a44 := (gr_len g58 o_a44).trans l_a44
            have l_a49 := (gr_len g58 o_a49).trans l_a49
            have l_a53 := (gr_len g58 o_a53).trans l_a53
            have d_x40 := d_x40.trans (fri_at fc59 (by decide) (by decide) o_a1).symm
            have ea1 := (frr_at fc59 (by decide) (by decide) o_v0).trans ea1
            have ea44 := (frr_at fc59 (by decide) (by decide) o_a1).trans ea44
            have ea47 := (frr_at fc59 (by decide) (by decide) o_v0).trans ea47
            have ea49 := (frr_at fc59 (by decide) (by decide) o_a1).trans ea49
            have ea53 := (frr_at fc59 (by decide) (by decide) o_a1).trans ea53
            have f0 := fri_tr (S := S23) g0 f0 fc59 (by decide) (by decide)
            have fL25 := fri_tr (S := S23) gL24 fL25 fc59 (by decide) (by decide)
            have o_a1 := gr_ob g58 o_a1
            have o_a44 := gr_ob g58 o_a44
            have o_a45 := gr_ob g58 o_a45
            have o_a47 := gr_ob g58 o_a47
            have o_a49 := gr_ob g58 o_a49
            have o_a50 := gr_ob g58 o_a50
            have o_a53 := gr_ob g58 o_a53
            have o_a54 := gr_ob g58 o_a54
            have o_v0 := gr_ob g58 o_v0
            have g0 := gr_tr (T := S23) g0 g58
            have gL24 := gr_tr (T := S23) gL24 g58
            intro _
            refine ⟨o_a45, ?_⟩
            intro x60 ex60
            have d_x60 := ex60
            intro x61 ex61
            refine ⟨fun c62 => ?_, fun c62 => ?_⟩
            · refine u_X9_driest_140 ?_
              intro x63 ex63
              exact ih38 _ _ _ _ _ _ _ _ ⟨hI, gL24, fL25, rfl, rfl, rfl, rfl, (q755 p_x2 bb_x2 c6 p_x9 bb_x9 c13 p_x15 bb_x15 c19 r_x21 c22 i1 r_x40 q_x40 c41 c62 ex63)⟩ (mu_up (q756 p_x2 bb_x2 c6 p_x9 bb_x9 c13 p_x15 bb_x15 c19 r_x21 c22 i1 r_x40 q_x40 c41 c62 ex63) (q757 p_x2 bb_x2 c6 p_x9 bb_x9 c13 p_x15 bb_x15 c19 r_x21 c22 i1 r_x40 q_x40 c41 c62 ex63))
            · refine u_X9_driest_140 ?_
              intro x64 ex64
              exact ih38 _ _ _ _ _ _ _ _ ⟨hI, gL24, fL25, rfl, rfl, rfl, rfl, (q758 p_x2 bb_x2 c6 p_x9 bb_x9 c13 p_x15 bb_x15 c19 r_x21 c22 i1 r_x40 q_x40 c41 c62 ex64)⟩ (mu_up (q759 p_x2 bb_x2 c6 p_x9 bb_x9 c13 p_x15 bb_x15 c19 r_x21 c22 i1 r_x40 q_x40 c41 c62 ex64) (q760 p_x2 bb_x2 c6 p_x9 bb_x9 c13 p_x15 bb_x15 c19 r_x21 c22 i1 r_x40 q_x40 c41 c62 ex64))
        · refine u_X9_refuse ?_
          refine u_X9_refuse_0 ?_
          refine ⟨o_v0, ?_⟩
          have hI := iv_sI (j := 9) (v := (6 : Int32)) hI o_v0 (by decide) (nu_free (by decide))
          have f0 : FRI _ _ _ (sI S v0 9 (6 : Int32)) := fri_sI (S := S) g0 f0 o_v0 (by decide)
          have d_x21 : x21 = fI (sI S v0 9 (6 : Int32)) a1 1 := d_x21.trans (sI_ne (S := S) o_v0 o_a1 (by decide) 1).symm
          obtain ⟨y65, hy65⟩ : ∃ z : Int32, z = (6 : Int32) := ⟨_, rfl⟩
          have d_y65 : y65 = fI (sI S v0 9 (6 : Int32)) v0 9 := hy65.trans (u2_self _ _ _ _).symm
          intro _
          exact hq _ _ hI g0 f0
      · refine u_X9_driest_29 ?_
        refine ⟨o_v0, ?_⟩
        refine u_X9_refuse ?_
        refine u_X9_refuse_0 ?_
        refine ⟨o_v0, ?_⟩
        have hI := iv_sI (j := 9) (v := (1 : Int32)) hI o_v0 (by decide) (nu_free (by decide))
        have f0 : FRI _ _ _ (sI S v0 9 (1 : Int32)) := fri_sI (S := S) g0 f0 o_v0 (by decide)
        obtain ⟨y66, hy66⟩ : ∃ z : Int32, z = (1 : Int32) := ⟨_, rfl⟩
        have d_y66 : y66 = fI (sI S v0 9 (1 : Int32)) v0 9 := hy66.trans (u2_self _ _ _ _).symm
        intro _
        exact hq _ _ hI g0 f0
