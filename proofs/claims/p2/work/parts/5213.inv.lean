set_option maxHeartbeats 4000000 in
set_option maxRecDepth 20000 in
theorem m_X9_minutes {v0 : Nat} {v1 : Int32} {v2 : Int32} {v3 : Int32} {Q : Int32 → HS → Prop} {S : HS} (hI : IV S) (o_v0 : ob S v0 9)     (hq : ∀ (r : Int32) (T : HS), IV T → Gr S T → FRI [(9, 9)] [] S T → Q r T) : P_X9_minutes v0 v1 v2 v3 Q S := by
  have g0 := gr_rf S
  have f0 := fri_rf [(9, 9)] [] S
  refine u_X9_minutes ?_
  refine u_X9_minutes_0 ?_
  refine ⟨o_v0, ?_⟩
  obtain ⟨a1, ea1, o_a1, -⟩ := sh 1 rfl hI o_v0
  refine ⟨a1, ea1, ?_⟩
  refine ⟨o_a1, ?_⟩
  refine m_X8_hasWalker hI o_a1 (fun x2 S3 hI2 g4 b_x2 p_x2 => ?_)
  obtain ⟨z_S3, p_x2⟩ := p_x2
  subst z_S3
  intro _ _
  have bb_x2 : x2 = 0 ∨ x2 = 1 := b_x2
  refine ⟨fun c6 => ?_, fun c6 => ?_⟩
  · refine u_X9_minutes_22 ?_
    refine ⟨o_v0, ?_⟩
    refine u_X9_refuse ?_
    refine u_X9_refuse_0 ?_
    refine ⟨o_v0, ?_⟩
    have hI := iv_sI (j := 9) (v := (1 : Int32)) hI o_v0 (by decide) (nu_free (by decide))
    have f0 : FRI _ _ _ (sI S v0 9 (1 : Int32)) := fri_sI (S := S) g0 f0 o_v0 (by decide)
    obtain ⟨y7, hy7⟩ : ∃ z : Int32, z = (1 : Int32) := ⟨_, rfl⟩
    have d_y7 : y7 = fI (sI S v0 9 (1 : Int32)) v0 9 := hy7.trans (u2_self _ _ _ _).symm
    intro _
    exact hq _ _ hI g0 f0
  · refine ⟨a1, ea1, ?_⟩
    refine ⟨o_a1, ?_⟩
    refine m_X8_hasRoad hI o_a1 (fun x9 S10 hI2 g11 b_x9 p_x9 => ?_)
    obtain ⟨z_S10, p_x9⟩ := p_x9
    subst z_S10
    intro _ _
    have bb_x9 : x9 = 0 ∨ x9 = 1 := b_x9
    refine ⟨fun c13 => ?_, fun c13 => ?_⟩
    · refine ⟨a1, ea1, ?_⟩
      refine ⟨o_a1, ?_⟩
      obtain ⟨a15, ea15, o_a15, l_a15⟩ := shl 18 rfl hI o_a1
      refine ⟨a15, ea15, ?_⟩
      refine ⟨o_a15, ?_⟩
      have i17 : vp_in v1 (hN _ a15) := (vin l_a15 (m := 4) (by decide) (q662 p_x2 bb_x2 c6 p_x9 bb_x9 c13))
      obtain ⟨a16, ea16, o_a16⟩ := ae hI o_a15 (by decide) (by decide) i17
      replace o_a16 : ob _ a16 6 := o_a16
      refine ⟨i17, a16, ea16, ?_⟩
      refine ⟨o_a16, ?_⟩
      refine m_X6_canGo hI o_a16 (fun x18 S19 hI2 g20 b_x18 p_x18 => ?_)
      subst p_x18
      intro _ _
      have bb_x18 : x18 = 0 ∨ x18 = 1 := b_x18
      refine ⟨fun c22 => ?_, fun c22 => ?_⟩
      · refine ⟨a1, ea1, ?_⟩
        refine ⟨o_a1, ?_⟩
        obtain ⟨a24, ea24, o_a24, l_a24⟩ := shl 17 rfl hI o_a1
        refine ⟨a24, ea24, ?_⟩
        refine ⟨o_a24, ?_⟩
        have i26 : vp_in v2 (hN _ a24) := (vin l_a24 (m := 12) (by decide) (q663 p_x2 bb_x2 c6 p_x9 bb_x9 c13 bb_x18 c22))
        obtain ⟨a25, ea25, o_a25⟩ := ae hI o_a24 (by decide) (by decide) i26
        replace o_a25 : ob _ a25 5 := o_a25
        refine ⟨i26, a25, ea25, ?_⟩
        refine ⟨o_a25, ?_⟩
        refine m_X5_minutesAt hI o_a25 (fun x27 S28 hI2 g29 p_x27 => ?_)
        subst p_x27
        intro _
        refine u_X9_grant ?_
        refine u_X9_grant_0 ?_
        refine ⟨o_v0, ?_⟩
        have hI := iv_sI (j := 9) (v := (0 : Int32)) hI o_v0 (by decide) (nu_free (by decide))
        have f0 : FRI _ _ _ (sI S v0 9 (0 : Int32)) := fri_sI (S := S) g0 f0 o_v0 (by decide)
        obtain ⟨y31, hy31⟩ : ∃ z : Int32, z = (0 : Int32) := ⟨_, rfl⟩
        have d_y31 : y31 = fI (sI S v0 9 (0 : Int32)) v0 9 := hy31.trans (u2_self _ _ _ _).symm
        intro _
        exact hq _ _ hI g0 f0
      · refine u_X9_refuse ?_
        refine u_X9_refuse_0 ?_
        refine ⟨o_v0, ?_⟩
        have hI := iv_sI (j := 9) (v := (2 : Int32)) hI o_v0 (by decide) (nu_free (by decide))
        have f0 : FRI _ _ _ (sI S v0 9 (2 : Int32)) := fri_sI (S := S) g0 f0 o_v0 (by decide)
        obtain ⟨y32, hy32⟩ : ∃ z : Int32, z = (2 : Int32) := ⟨_, rfl⟩
        have d_y32 : y32 = fI (sI S v0 9 (2 : Int32)) v0 9 := hy32.trans (u2_self _ _ _ _).symm
        intro _
        exact hq _ _ hI g0 f0
    · refine u_X9_minutes_22 ?_
      refine ⟨o_v0, ?_⟩
      refine u_X9_refuse ?_
      refine u_X9_refuse_0 ?_
      refine ⟨o_v0, ?_⟩
      have hI := iv_sI (j := 9) (v := (1 : Int32)) hI o_v0 (by decide) (nu_free (by decide))
      have f0 : FRI _ _ _ (sI S v0 9 (1 : Int32)) := fri_sI (S := S) g0 f0 o_v0 (by decide)
      obtain ⟨y33, hy33⟩ : ∃ z : Int32, z = (1 : Int32) := ⟨_, rfl⟩
      have d_y33 : y33 = fI (sI S v0 9 (1 : Int32)) v0 9 := hy33.trans (u2_self _ _ _ _).symm
      intro _
      exact hq _ _ hI g0 f0
set_option maxHeartbeats 4000000 in
set_option maxRecDepth 20000 in
theorem m_X9_off {v0 : Nat} {v1 : Int32} {v2 : Int32} {v3 : Int32} {v4 : Int32} {Q : Int32 → HS → Prop} {S : HS} (hI : IV S) (o_v0 : ob S v0 9)     (hq : ∀ (r : Int32) (T : HS), IV T → Gr S T → FRI [(7, 3), (7, 9), (7, 10), (7, 11), (7, 12), (7, 13), (9, 9)] [(7, 0), (7, 1), (7, 2), (7, 4), (7, 5), (7, 6), (7, 7), (7, 8)] S T → Q r T) : P_X9_off v0 v1 v2 v3 v4 Q S := by
  have g0 := gr_rf S
  have f0 := fri_rf [(7, 3), (7, 9), (7, 10), (7, 11), (7, 12), (7, 13), (9, 9)] [(7, 0), (7, 1), (7, 2), (7, 4), (7, 5), (7, 6), (7, 7), (7, 8)] S
  refine u_X9_off ?_
  refine u_X9_off_0 ?_
  refine ⟨o_v0, ?_⟩
  refine m_X9_placesTrouble hI o_v0 (fun x1 S2 hI2 g3 p_x1 => ?_)
  obtain ⟨z_S2, p_x1⟩ := p_x1
  subst z_S2
  intro _
  refine ⟨fun c5 => ?_, fun c5 => ?_⟩
  · refine u_X9_off_25 ?_
    refine ⟨o_v0, ?_⟩
    refine u_X9_refusedBy ?_
    refine u_X9_refusedBy_0 ?_
    refine ⟨o_v0, ?_⟩
    have hI := iv_sI (j := 9) (v := x1) hI o_v0 (by decide) (nu_free (by decide))
    have f0 : FRI _ _ _ (sI S v0 9 x1) := fri_sI (S := S) g0 f0 o_v0 (by decide)
    have d_x1 : x1 = fI (sI S v0 9 x1) v0 9 := (u2_self _ _ _ _).symm
    refine ⟨fun c6 => ?_, fun c6 => ?_⟩
    · intro _ _
      refine ⟨fun c7 => ?_, fun c7 => ?_⟩
      · obtain ⟨a8, ea8, o_a8, -⟩ := sh 4 rfl hI o_v0
        refine ⟨a8, ea8, ?_⟩
        obtain ⟨a9, ea9, o_a9, -⟩ := sh 1 rfl hI o_v0
        refine ⟨a9, ea9, ?_⟩
        obtain ⟨a10, ea10, o_a10, -⟩ := sh 3 rfl hI o_v0
        refine ⟨a10, ea10, ?_⟩
        refine ⟨o_a8, ?_⟩
        refine m_X7_reckon hI o_a8 o_a9 o_a10 (q488 p_x1 c5 c6) (fun S12 hI g13 fc14 => ?_)
        have d_x1 := d_x1.trans (fri_at fc14 (by decide) (by decide) o_v0).symm
        have ea8 := (frr_at fc14 (by decide) (by decide) o_v0).trans ea8
        have ea9 := (frr_at fc14 (by decide) (by decide) o_v0).trans ea9
        have ea10 := (frr_at fc14 (by decide) (by decide) o_v0).trans ea10
        have f0 := fri_tr (S := sI S v0 9 x1) g0 f0 fc14 (by decide) (by decide)
        have o_a10 := gr_ob g13 o_a10
        have o_a8 := gr_ob g13 o_a8
        have o_a9 := gr_ob g13 o_a9
        have o_v0 := gr_ob g13 o_v0
        have g0 := gr_tr (T := sI S v0 9 x1) g0 g13
        intro _
        refine i_X9_off_62 (fun (y0 : Nat) (y2 : Int32) (y4 : Int32) (y6 : Int32) (y7 : Int32) (Z : HS) => ((2147483647 : Int32).toInt - y7.toInt).toNat) (fun (y0 : Nat) (y2 : Int32) (y4 : Int32) (y6 : Int32) (y7 : Int32) (Z : HS) => (S12 = Z) ∧ (v0 = y0) ∧ (v2 = y2) ∧ (v4 = y4) ∧ (0 ≤ y7)) ?_ _ _ _ _ _ _ ⟨rfl, rfl, rfl, rfl, (q489 p_x1 c5 c6)⟩
        intro w18 w20 w22 w24 w25 S15 X26 ⟨eS15, q19, q21, q23, i1⟩ ih27
        subst q19
        subst q21
        subst q23
        subst eS15
        refine u_X9_off_62 ?_
        refine ⟨fun c28 => ?_, fun c28 => ?_⟩
        · refine ⟨fun c29 => ?_, fun c29 => ?_⟩
          · exact hq _ _ hI g0 f0
          · refine ⟨o_v0, ?_⟩
            refine u_X9_refuse ?_
            refine u_X9_refuse_0 ?_
            refine ⟨o_v0, ?_⟩
            have hI := iv_sI (j := 9) (v := (6 : Int32)) hI o_v0 (by decide) (nu_free (by decide))
            have f0 : FRI _ _ _ (sI S12 v0 9 (6 : Int32)) := fri_sI (S := S12) g0 f0 o_v0 (by decide)
            obtain ⟨y30, hy30⟩ : ∃ z : Int32, z = (6 : Int32) := ⟨_, rfl⟩
            have d_y30 : y30 = fI (sI S12 v0 9 (6 : Int32)) v0 9 := hy30.trans (u2_self _ _ _ _).symm
            intro _
            exact hq _ _ hI g0 f0
        · refine ⟨fun c31 => ?_, fun c31 => ?_⟩
          · refine u_X9_off_99 ?_
            refine u_X9_off_104 ?_
            refine ⟨o_v0, ?_⟩
            refine ⟨a8, ea8, ?_⟩
            refine ⟨o_a8, ?_⟩
            refine m_X7_isOpen hI o_a8 (fun x33 S34 hI2 g35 b_x33 p_x33 => ?_)
            subst p_x33
            intro _ _
            have bb_x33 : x33 = 0 ∨ x33 = 1 := b_x33
            refine ⟨fun c37 => ?_, fun c37 => ?_⟩
            · refine u_X9_off_128 ?_
              intro x38 ex38
              exact ih27 _ _ _ _ _ _ ⟨rfl, rfl, rfl, rfl, (q490 p_x1 c5 c6 i1 c28 c31 bb_x33 c37 ex38)⟩ (mu_up (q491 p_x1 c5 c6 i1 c28 c31 bb_x33 c37 ex38) (q492 p_x1 c5 c6 i1 c28 c31 bb_x33 c37 ex38))
            · refine ⟨fun c39 => ?_, fun c39 => ?_⟩
              · refine u_X9_off_128 ?_
                intro x40 ex40
                exact ih27 _ _ _ _ _ _ ⟨rfl, rfl, rfl, rfl, (q493 p_x1 c5 c6 i1 c28 c31 bb_x33 c37 c39 ex40)⟩ (mu_up (q494 p_x1 c5 c6 i1 c28 c31 bb_x33 c37 c39 ex40) (q495 p_x1 c5 c6 i1 c28 c31 bb_x33 c37 c39 ex40))
              · refine u_X9_off_128 ?_
                intro x41 ex41
                exact ih27 _ _ _ _ _ _ ⟨rfl, rfl, rfl, rfl, (q496 p_x1 c5 c6 i1 c28 c31 bb_x33 c37 ex41)⟩ (mu_up (q497 p_x1 c5 c6 i1 c28 c31 bb_x33 c37 ex41) (q498 p_x1 c5 c6 i1 c28 c31 bb_x33 c37 ex41))
          · refine ⟨o_v0, ?_⟩
            refine ⟨a8, ea8, ?_⟩
            refine ⟨o_a8, ?_⟩
            refine m_X7_meanFrom hI o_a8 (fun x43 S44 hI2 g45 p_x43 => ?_)
            subst p_x43
            intro _
            refine ⟨a8, ea8, ?_⟩
            refine ⟨o_a8, ?_⟩
            refine m_X7_meanFrom hI o_a8 (fun x48 S49 hI2 g50 p_x48 => ?_)
            subst p_x48
            intro _
            refine ⟨fun c52 => ?_, fun c52 => ?_⟩
            · refine u_X9_off_104 ?_
              refine ⟨o_v0, ?_⟩
              refine ⟨a8, ea8, ?_⟩
              refine ⟨o_a8, ?_⟩
              refine m_X7_isOpen hI o_a8 (fun x54 S55 hI2 g56 b_x54 p_x54 => ?_)
              subst p_x54
              intro _ _
              have bb_x54 : x54 = 0 ∨ x54 = 1 := b_x54
              refine ⟨fun c58 => ?_, fun c58 => ?_⟩
              · refine u_X9_off_128 ?_
                intro x59 ex59
                exact ih27 _ _ _ _ _ _ ⟨rfl, rfl, rfl, rfl, (q499 p_x1 c5 c6 i1 c28 c31 c52 bb_x54 c58 ex59)⟩ (mu_up (q500 p_x1 c5 c6 i1 c28 c31 c52 bb_x54 c58 ex59) (q501 p_x1 c5 c6 i1 c28 c31 c52 bb_x54 c58 ex59))
              · refine ⟨fun c60 => ?_, fun c60 => ?_⟩
                · refine u_X9_off_128 ?_
                  intro x61 ex61
                  exact ih27 _ _ _ _ _ _ ⟨rfl, rfl, rfl, rfl, (q502 p_x1 c5 c6 i1 c28 c31 c52 bb_x54 c58 ex61)⟩ (mu_up (q503 p_x1 c5 c6 i1 c28 c31 c52 bb_x54 c58 ex61) (q504 p_x1 c5 c6 i1 c28 c31 c52 bb_x54 c58 ex61))
                · refine u_X9_off_128 ?_
                  intro x62 ex62
                  exact ih27 _ _ _ _ _ _ ⟨rfl, rfl, rfl, rfl, (q505 p_x1 c5 c6 i1 c28 c31 c52 bb_x54 c58 c60 ex62)⟩ (mu_up (q506 p_x1 c5 c6 i1 c28 c31 c52 bb_x54 c58 c60 ex62) (q507 p_x1 c5 c6 i1 c28 c31 c52 bb_x54 c58 c60 ex62))
            · refine u_X9_off_99 ?_
              refine u_X9_off_104 ?_
              refine ⟨o_v0, ?_⟩
              refine ⟨a8, ea8, ?_⟩
              refine ⟨o_a8, ?_⟩
              refine m_X7_isOpen hI o_a8 (fun x64 S65 hI2 g66 b_x64 p_x64 => ?_)
              subst p_x64
              intro _ _
              have bb_x64 : x64 = 0 ∨ x64 = 1 := b_x64
              refine ⟨fun c68 => ?_, fun c68 => ?_⟩
              · refine u_X9_off_128 ?_
                intro x69 ex69
                exact ih27 _ _ _ _ _ _ ⟨rfl, rfl, rfl, rfl, (q508 p_x1 c5 c6 i1 c28 c31 c52 bb_x64 c68 ex69)⟩ (mu_up (q509 p_x1 c5 c6 i1 c28 c31 c52 bb_x64 c68 ex69) (q510 p_x1 c5 c6 i1 c28 c31 c52 bb_x64 c68 ex69))
              · refine ⟨fun c70 => ?_, fun c70 => ?_⟩
                · refine u_X9_off_128 ?_
                  intro x71 ex71
                  exact ih27 _ _ _ _ _ _ ⟨rfl, rfl, rfl, rfl, (q511 p_x1 c5 c6 i1 c28 c31 c52 bb_x64 c68 c70 ex71)⟩ (mu_up (q512 p_x1 c5 c6 i1 c28 c31 c52 bb_x64 c68 c70 ex71) (q513 p_x1 c5 c6 i1 c28 c31 c52 bb_x64 c68 c70 ex71))
                · refine u_X9_off_128 ?_
                  intro x72 ex72
                  exact ih27 _ _ _ _ _ _ ⟨rfl, rfl, rfl, rfl, (q514 p_x1 c5 c6 i1 c28 c31 c52 bb_x64 c68 ex72)⟩ (mu_up (q515 p_x1 c5 c6 i1 c28 c31 c52 bb_x64 c68 ex72) (q516 p_x1 c5 c6 i1 c28 c31 c52 bb_x64 c68 ex72))
      · exact hq _ _ hI g0 f0
    · intro _ _
      refine ⟨fun c73 => ?_, fun c73 => ?_⟩
      · obtain ⟨a74, ea74, o_a74, -⟩ := sh 4 rfl hI o_v0
        refine ⟨a74, ea74, ?_⟩
        obtain ⟨a75, ea75, o_a75, -⟩ := sh 1 rfl hI o_v0
        refine ⟨a75, ea75, ?_⟩
        obtain ⟨a76, ea76, o_a76, -⟩ := sh 3 rfl hI o_v0
        refine ⟨a76, ea76, ?_⟩
        refine ⟨o_a74, ?_⟩
        refine m_X7_reckon hI o_a74 o_a75 o_a76 (q517 p_x1 c5 c6 c73) (fun S78 hI g79 fc80 => ?_)
        have d_x1 := d_x1.trans (fri_at fc80 (by decide) (by decide) o_v0).symm
        have ea74 := (frr_at fc80 (by decide) (by decide) o_v0).trans ea74
        have ea75 := (frr_at fc80 (by decide) (by decide) o_v0).trans ea75
        have ea76 := (frr_at fc80 (by decide) (by decide) o_v0).trans ea76
        have f0 := fri_tr (S := sI S v0 9 x1) g0 f0 fc80 (by decide) (by decide)
        have o_a74 := gr_ob g79 o_a74
        have o_a75 := gr_ob g79 o_a75
        have o_a76 := gr_ob g79 o_a76
        have o_v0 := gr_ob g79 o_v0
        have g0 := gr_tr (T := sI S v0 9 x1) g0 g79
        intro _
        refine i_X9_off_62 (fun (y0 : Nat) (y2 : Int32) (y4 : Int32) (y6 : Int32) (y7 : Int32) (Z : HS) => ((2147483647 : Int32).toInt - y7.toInt).toNat) (fun (y0 : Nat) (y2 : Int32) (y4 : Int32) (y6 : Int32) (y7 : Int32) (Z : HS) => (S78 = Z) ∧ (v0 = y0) ∧ (v2 = y2) ∧ (v4 = y4) ∧ (0 ≤ y7)) ?_ _ _ _ _ _ _ ⟨rfl, rfl, rfl, rfl, (q518 p_x1 c5 c6 c73)⟩
        intro w84 w86 w88 w90 w91 S81 X92 ⟨eS81, q85, q87, q89, i1⟩ ih93
        subst q85
        subst q87
        subst q89
        subst eS81
        refine u_X9_off_62 ?_
        refine ⟨fun c94 => ?_, fun c94 => ?_⟩
        · refine ⟨fun c95 => ?_, fun c95 => ?_⟩
          · exact hq _ _ hI g0 f0
          · refine ⟨o_v0, ?_⟩
            refine u_X9_refuse ?_
            refine u_X9_refuse_0 ?_
            refine ⟨o_v0, ?_⟩
            have hI := iv_sI (j := 9) (v := (6 : Int32)) hI o_v0 (by decide) (nu_free (by decide))
            have f0 : FRI _ _ _ (sI S78 v0 9 (6 : Int32)) := fri_sI (S := S78) g0 f0 o_v0 (by decide)
            obtain ⟨y96, hy96⟩ : ∃ z : Int32, z = (6 : Int32) := ⟨_, rfl⟩
            have d_y96 : y96 = fI (sI S78 v0 9 (6 : Int32)) v0 9 := hy96.trans (u2_self _ _ _ _).symm
            intro _
            exact hq _ _ hI g0 f0
        · refine ⟨fun c97 => ?_, fun c97 => ?_⟩
          · refine u_X9_off_99 ?_
            refine u_X9_off_104 ?_
            refine ⟨o_v0, ?_⟩
            refine ⟨a74, ea74, ?_⟩
            refine ⟨o_a74, ?_⟩
            refine m_X7_isOpen hI o_a74 (fun x99 S100 hI2 g101 b_x99 p_x99 => ?_)
            subst p_x99
            intro _ _
            have bb_x99 : x99 = 0 ∨ x99 = 1 := b_x99
            refine ⟨fun c103 => ?_, fun c103 => ?_⟩
            · refine u_X9_off_128 ?_
              intro x104 ex104
              exact ih93 _ _ _ _ _ _ ⟨rfl, rfl, rfl, rfl, (q519 p_x1 c5 c6 c73 i1 c94 c97 bb_x99 c103 ex104)⟩ (mu_up (q520 p_x1 c5 c6 c73 i1 c94 c97 bb_x99 c103 ex104) (q521 p_x1 c5 c6 c73 i1 c94 c97 bb_x99 c103 ex104))
            · refine ⟨fun c105 => ?_, fun c105 => ?_⟩
              · refine u_X9_off_128 ?_
                intro x106 ex106
                exact ih93 _ _ _ _ _ _ ⟨rfl, rfl, rfl, rfl, (q522 p_x1 c5 c6 c73 i1 c94 c97 bb_x99 c103 c105 ex106)⟩ (mu_up (q523 p_x1 c5 c6 c73 i1 c94 c97 bb_x99 c103 c105 ex106) (q524 p_x1 c5 c6 c73 i1 c94 c97 bb_x99 c103 c105 ex106))
              · refine u_X9_off_128 ?_
                intro x107 ex107
                exact ih93 _ _ _ _ _ _ ⟨rfl, rfl, rfl, rfl, (q525 p_x1 c5 c6 c73 i1 c94 c97 bb_x99 c103 ex107)⟩ (mu_up (q526 p_x1 c5 c6 c73 i1 c94 c97 bb_x99 c103 ex107) (q527 p_x1 c5 c6 c73 i1 c94 c97 bb_x99 c103 ex107))
          · refine ⟨o_v0, ?_⟩
            refine ⟨a74, ea74, ?_⟩
            refine ⟨o_a74, ?_⟩
            refine m_X7_meanFrom hI o_a74 (fun x109 S110 hI2 g111 p_x109 => ?_)
            subst p_x109
            intro _
            refine ⟨a74, ea74, ?_⟩
            refine ⟨o_a74, ?_⟩
            refine m_X7_meanFrom hI o_a74 (fun x114 S115 hI2 g116 p_x114 => ?_)
            subst p_x114
            intro _
            refine ⟨fun c118 => ?_, fun c118 => ?_⟩
            · refine u_X9_off_104 ?_
              refine ⟨o_v0, ?_⟩
              refine ⟨a74, ea74, ?_⟩
              refine ⟨o_a74, ?_⟩
              refine m_X7_isOpen hI o_a74 (fun x120 S121 hI2 g122 b_x120 p_x120 => ?_)
              subst p_x120
              intro _ _
              have bb_x120 : x120 = 0 ∨ x120 = 1 := b_x120
              refine ⟨fun c124 => ?_, fun c124 => ?_⟩
              · refine u_X9_off_128 ?_
                intro x125 ex125
                exact ih93 _ _ _ _ _ _ ⟨rfl, rfl, rfl, rfl, (q528 p_x1 c5 c6 c73 i1 c94 c97 c118 bb_x120 c124 ex125)⟩ (mu_up (q529 p_x1 c5 c6 c73 i1 c94 c97 c118 bb_x120 c124 ex125) (q530 p_x1 c5 c6 c73 i1 c94 c97 c118 bb_x120 c124 ex125))
              · refine ⟨fun c126 => ?_, fun c126 => ?_⟩
                · refine u_X9_off_128 ?_
                  intro x127 ex127
                  exact ih93 _ _ _ _ _ _ ⟨rfl, rfl, rfl, rfl, (q531 p_x1 c5 c6 c73 i1 c94 c97 c118 bb_x120 c124 ex127)⟩ (mu_up (q532 p_x1 c5 c6 c73 i1 c94 c97 c118 bb_x120 c124 ex127) (q533 p_x1 c5 c6 c73 i1 c94 c97 c118 bb_x120 c124 ex127))
                · refine u_X9_off_128 ?_
                  intro x128 ex128
                  exact ih93 _ _ _ _ _ _ ⟨rfl, rfl, rfl, rfl, (q534 p_x1 c5 c6 c73 i1 c94 c97 c118 bb_x120 c124 c126 ex128)⟩ (mu_up (q535 p_x1 c5 c6 c73 i1 c94 c97 c118 bb_x120 c124 c126 ex128) (q536 p_x1 c5 c6 c73 i1 c94 c97 c118 bb_x120 c124 c126 ex128))
            · refine u_X9_off_99 ?_
              refine u_X9_off_104 ?_
              refine ⟨o_v0, ?_⟩
              refine ⟨a74, ea74, ?_⟩
              refine ⟨o_a74, ?_⟩
              refine m_X7_isOpen hI o_a74 (fun x130 S131 hI2 g132 b_x130 p_x130 => ?_)
              subst p_x130
              intro _ _
              have bb_x130 : x130 = 0 ∨ x130 = 1 := b_x130
              refine ⟨fun c134 => ?_, fun c134 => ?_⟩
              · refine u_X9_off_128 ?_
                intro x135 ex135
                exact ih93 _ _ _ _ _ _ ⟨rfl, rfl, rfl, rfl, (q537 p_x1 c5 c6 c73 i1 c94 c97 c118 bb_x130 c134 ex135)⟩ (mu_up (q538 p_x1 c5 c6 c73 i1 c94 c97 c118 bb_x130 c134 ex135) (q539 p_x1 c5 c6 c73 i1 c94 c97 c118 bb_x130 c134 ex135))
              · refine ⟨fun c136 => ?_, fun c136 => ?_⟩
                · refine u_X9_off_128 ?_
                  intro x137 ex137
                  exact ih93 _ _ _ _ _ _ ⟨rfl, rfl, rfl, rfl, (q540 p_x1 c5 c6 c73 i1 c94 c97 c118 bb_x130 c134 c136 ex137)⟩ (mu_up (q541 p_x1 c5 c6 c73 i1 c94 c97 c118 bb_x130 c134 c136 ex137) (q542 p_x1 c5 c6 c73 i1 c94 c97 c118 bb_x130 c134 c136 ex137))
                · refine u_X9_off_128 ?_
                  intro x138 ex138
                  exact ih93 _ _ _ _ _ _ ⟨rfl, rfl, rfl, rfl, (q543 p_x1 c5 c6 c73 i1 c94 c97 c118 bb_x130 c134 ex138)⟩ (mu_up (q544 p_x1 c5 c6 c73 i1 c94 c97 c118 bb_x130 c134 ex138) (q545 p_x1 c5 c6 c73 i1 c94 c97 c118 bb_x130 c134 ex138))
      · exact hq _ _ hI g0 f0
  · refine m_X9_isTill hI (fun x139 S140 hI2 g141 b_x139 p_x139 => ?_)
    obtain ⟨z_S140, p_x139⟩ := p_x139
    subst z_S140
    intro _ _
    have bb_x139 : x139 = 0 ∨ x139 = 1 := b_x139
    refine ⟨fun c143 => ?_, fun c143 => ?_⟩
    · refine u_X9_off_25 ?_
      refine ⟨o_v0, ?_⟩
      refine u_X9_refusedBy ?_
      refine u_X9_refusedBy_0 ?_
      refine ⟨o_v0, ?_⟩
      have hI := iv_sI (j := 9) (v := x1) hI o_v0 (by decide) (nu_free (by decide))
      have f0 : FRI _ _ _ (sI S v0 9 x1) := fri_sI (S := S) g0 f0 o_v0 (by decide)
      have d_x1 : x1 = fI (sI S v0 9 x1) v0 9 := (u2_self _ _ _ _).symm
      refine ⟨fun c144 => ?_, fun c144 => ?_⟩
      · intro _ _
        refine ⟨fun c145 => ?_, fun c145 => ?_⟩
        · obtain ⟨a146, ea146, o_a146, -⟩ := sh 4 rfl hI o_v0
          refine ⟨a146, ea146, ?_⟩
          obtain ⟨a147, ea147, o_a147, -⟩ := sh 1 rfl hI o_v0
          refine ⟨a147, ea147, ?_⟩
          obtain ⟨a148, ea148, o_a148, -⟩ := sh 3 rfl hI o_v0
          refine ⟨a148, ea148, ?_⟩
          refine ⟨o_a146, ?_⟩
          refine m_X7_reckon hI o_a146 o_a147 o_a148 (q546 p_x1 c5 p_x139 bb_x139 c143 c144) (fun S150 hI g151 fc152 => ?_)
          have d_x1 := d_x1.trans (fri_at fc152 (by decide) (by decide) o_v0).symm
          have ea146 := (frr_at fc152 (by decide) (by decide) o_v0).trans ea146
          have ea147 := (frr_at fc152 (by decide) (by decide) o_v0).trans ea147
          have ea148 := (frr_at fc152 (by decide) (by decide) o_v0).trans ea148
          have f0 := fri_tr (S := sI S v0 9 x1) g0 f0 fc152 (by decide) (by decide)
          have o_a146 := gr_ob g151 o_a146
          have o_a147 := gr_ob g151 o_a147
          have o_a148 := gr_ob g151 o_a148
          have o_v0 := gr_ob g151 o_v0
          have g0 := gr_tr (T := sI S v0 9 x1) g0 g151
          intro _
          refine i_X9_off_62 (fun (y0 : Nat) (y2 : Int32) (y4 : Int32) (y6 : Int32) (y7 : Int32) (Z : HS) => ((2147483647 : Int32).toInt - y7.toInt).toNat) (fun (y0 : Nat) (y2 : Int32) (y4 : Int32) (y6 : Int32) (y7 : Int32) (Z : HS) => (S150 = Z) ∧ (v0 = y0) ∧ (v2 = y2) ∧ (v4 = y4) ∧ (0 ≤ y7)) ?_ _ _ _ _ _ _ ⟨rfl, rfl, rfl, rfl, (q547 p_x1 c5 p_x139 bb_x139 c143 c144)⟩
          intro w156 w158 w160 w162 w163 S153 X164 ⟨eS153, q157, q159, q161, i1⟩ ih165
          subst q157
          subst q159
          subst q161
          subst eS153
          refine u_X9_off_62 ?_
          refine ⟨fun c166 => ?_, fun c166 => ?_⟩
          · refine ⟨fun c167 => ?_, fun c167 => ?_⟩
            · exact hq _ _ hI g0 f0
            · refine ⟨o_v0, ?_⟩
              refine u_X9_refuse ?_
              refine u_X9_refuse_0 ?_
              refine ⟨o_v0, ?_⟩
              have hI := iv_sI (j := 9) (v := (6 : Int32)) hI o_v0 (by decide) (nu_free (by decide))
              have f0 : FRI _ _ _ (sI S150 v0 9 (6 : Int32)) := fri_sI (S := S150) g0 f0 o_v0 (by decide)
              obtain ⟨y168, hy168⟩ : ∃ z : Int32, z = (6 : Int32) := ⟨_, rfl⟩
              have d_y168 : y168 = fI (sI S150 v0 9 (6 : Int32)) v0 9 := hy168.trans (u2_self _ _ _ _).symm
              intro _
              exact hq _ _ hI g0 f0
          · refine ⟨fun c169 => ?_, fun c169 => ?_⟩
            · refine u_X9_off_99 ?_
              refine u_X9_off_104 ?_
              refine ⟨o_v0, ?_⟩
              refine ⟨a146, ea146, ?_⟩
              refine ⟨o_a146, ?_⟩
              refine m_X7_isOpen hI o_a146 (fun x171 S172 hI2 g173 b_x171 p_x171 => ?_)
              subst p_x171
              intro _ _
              have bb_x171 : x171 = 0 ∨ x171 = 1 := b_x171
              refine ⟨fun c175 => ?_, fun c175 => ?_⟩
              · refine u_X9_off_128 ?_
                intro x176 ex176
                exact ih165 _ _ _ _ _ _ ⟨rfl, rfl, rfl, rfl, (q548 p_x1 c5 p_x139 bb_x139 c143 c144 i1 c166 c169 bb_x171 c175 ex176)⟩ (mu_up (q549 p_x1 c5 p_x139 bb_x139 c143 c144 i1 c166 c169 bb_x171 c175 ex176) (q550 p_x1 c5 p_x139 bb_x139 c143 c144 i1 c166 c169 bb_x171 c175 ex176))
              · refine ⟨fun c177 => ?_, fun c177 => ?_⟩
                · refine u_X9_off_128 ?_
                  intro x178 ex178
                  exact ih165 _ _ _ _ _ _ ⟨rfl, rfl, rfl, rfl, (q551 p_x1 c5 p_x139 bb_x139 c143 c144 i1 c166 c169 bb_x171 c175 c177 ex178)⟩ (mu_up (q552 p_x1 c5 p_x139 bb_x139 c143 c144 i1 c166 c169 bb_x171 c175 c177 ex178) (q553 p_x1 c5 p_x139 bb_x139 c143 c144 i1 c166 c169 bb_x171 c175 c177 ex178))
                · refine u_X9_off_128 ?_
                  intro x179 ex179
                  exact ih165 _ _ _ _ _ _ ⟨rfl, rfl, rfl, rfl, (q554 p_x1 c5 p_x139 bb_x139 c143 c144 i1 c166 c169 bb_x171 c175 ex179)⟩ (mu_up (q555 p_x1 c5 p_x139 bb_x139 c143 c144 i1 c166 c169 bb_x171 c175 ex179) (q556 p_x1 c5 p_x139 bb_x139 c143 c144 i1 c166 c169 bb_x171 c175 ex179))
            · refine ⟨o_v0, ?_⟩
              refine ⟨a146, ea146, ?_⟩
              refine ⟨o_a146, ?_⟩
              refine m_X7_meanFrom hI o_a146 (fun x181 S182 hI2 g183 p_x181 => ?_)
              subst p_x181
              intro _
              refine ⟨a146, ea146, ?_⟩
              refine ⟨o_a146, ?_⟩
              refine m_X7_meanFrom hI o_a146 (fun x186 S187 hI2 g188 p_x186 => ?_)
              subst p_x186
              intro _
              refine ⟨fun c190 => ?_, fun c190 => ?_⟩
              · refine u_X9_off_104 ?_
                refine ⟨o_v0, ?_⟩
                refine ⟨a146, ea146, ?_⟩
                refine ⟨o_a146, ?_⟩
                refine m_X7_isOpen hI o_a146 (fun x192 S193 hI2 g194 b_x192 p_x192 => ?_)
                subst p_x192
                intro _ _
                have bb_x192 : x192 = 0 ∨ x192 = 1 := b_x192
                refine ⟨fun c196 => ?_, fun c196 => ?_⟩
                · refine u_X9_off_128 ?_
                  intro x197 ex197
                  exact ih165 _ _ _ _ _ _ ⟨rfl, rfl, rfl, rfl, (q557 p_x1 c5 p_x139 bb_x139 c143 c144 i1 c166 c169 c190 bb_x192 c196 ex197)⟩ (mu_up (q558 p_x1 c5 p_x139 bb_x139 c143 c144 i1 c166 c169 c190 bb_x192 c196 ex197) (q559 p_x1 c5 p_x139 bb_x139 c143 c144 i1 c166 c169 c190 bb_x192 c196 ex197))
                · refine ⟨fun c198 => ?_, fun c198 => ?_⟩
                  · refine u_X9_off_128 ?_
                    intro x199 ex199
                    exact ih165 _ _ _ _ _ _ ⟨rfl, rfl, rfl, rfl, (q560 p_x1 c5 p_x139 bb_x139 c143 c144 i1 c166 c169 c190 bb_x192 c196 ex199)⟩ (mu_up (q561 p_x1 c5 p_x139 bb_x139 c143 c144 i1 c166 c169 c190 bb_x192 c196 ex199) (q562 p_x1 c5 p_x139 bb_x139 c143 c144 i1 c166 c169 c190 bb_x192 c196 ex199))
                  · refine u_X9_off_128 ?_
                    intro x200 ex200
                    exact ih165 _ _ _ _ _ _ ⟨rfl, rfl, rfl, rfl, (q563 p_x1 c5 p_x139 bb_x139 c143 c144 i1 c166 c169 c190 bb_x192 c196 c198 ex200)⟩ (mu_up (q564 p_x1 c5 p_x139 bb_x139 c143 c144 i1 c166 c169 c190 bb_x192 c196 c198 ex200) (q565 p_x1 c5 p_x139 bb_x139 c143 c144 i1 c166 c169 c190 bb_x192 c196 c198 ex200))
              · refine u_X9_off_99 ?_
                refine u_X9_off_104 ?_
                refine ⟨o_v0, ?_⟩
                refine ⟨a146, ea146, ?_⟩
                refine ⟨o_a146, ?_⟩
                refine m_X7_isOpen hI o_a146 (fun x202 S203 hI2 g204 b_x202 p_x202 => ?_)
                subst p_x202
                intro _ _
                have bb_x202 : x202 = 0 ∨ x202 = 1 := b_x202
                refine ⟨fun c206 => ?_, fun c206 => ?_⟩
                · refine u_X9_off_128 ?_
                  intro x207 ex207
                  exact ih165 _ _ _ _ _ _ ⟨rfl, rfl, rfl, rfl, (q566 p_x1 c5 p_x139 bb_x139 c143 c144 i1 c166 c169 c190 bb_x202 c206 ex207)⟩ (mu_up (q567 p_x1 c5 p_x139 bb_x139 c143 c144 i1 c166 c169 c190 bb_x202 c206 ex207) (q568 p_x1 c5 p_x139 bb_x139 c143 c144 i1 c166 c169 c190 bb_x202 c206 ex207))
                · refine ⟨fun c208 => ?_, fun c208 => ?_⟩
                  · refine u_X9_off_128 ?_
                    intro x209 ex209
                    exact ih165 _ _ _ _ _ _ ⟨rfl, rfl, rfl, rfl, (q569 p_x1 c5 p_x139 bb_x139 c143 c144 i1 c166 c169 c190 bb_x202 c206 c208 ex209)⟩ (mu_up (q570 p_x1 c5 p_x139 bb_x139 c143 c144 i1 c166 c169 c190 bb_x202 c206 c208 ex209) (q571 p_x1 c5 p_x139 bb_x139 c143 c144 i1 c166 c169 c190 bb_x202 c206 c208 ex209))
                  · refine u_X9_off_128 ?_
                    intro x210 ex210
                    exact ih165 _ _ _ _ _ _ ⟨rfl, rfl, rfl, rfl, (q572 p_x1 c5 p_x139 bb_x139 c143 c144 i1 c166 c169 c190 bb_x202 c206 ex210)⟩ (mu_up (q573 p_x1 c5 p_x139 bb_x139 c143 c144 i1 c166 c169 c190 bb_x202 c206 ex210) (q574 p_x1 c5 p_x139 bb_x139 c143 c144 i1 c166 c169 c190 bb_x202 c206 ex210))
        · exact hq _ _ hI g0 f0
      · intro _ _
        refine ⟨fun c211 => ?_, fun c211 => ?_⟩
        · obtain ⟨a212, ea212, o_a212, -⟩ := sh 4 rfl hI o_v0
          refine ⟨a212, ea212, ?_⟩
          obtain ⟨a213, ea213, o_a213, -⟩ := sh 1 rfl hI o_v0
          refine ⟨a213, ea213, ?_⟩
          obtain ⟨a214, ea214, o_a214, -⟩ := sh 3 rfl hI o_v0
          refine ⟨a214, ea214, ?_⟩
          refine ⟨o_a212, ?_⟩
          refine m_X7_reckon hI o_a212 o_a213 o_a214 (q575 p_x1 c5 p_x139 bb_x139 c143 c144 c211) (fun S216 hI g217 fc218 => ?_)
          have d_x1 := d_x1.trans (fri_at fc218 (by decide) (by decide) o_v0).symm
          have ea212 := (frr_at fc218 (by decide) (by decide) o_v0).trans ea212
          have ea213 := (frr_at fc218 (by decide) (by decide) o_v0).trans ea213
          have ea214 := (frr_at fc218 (by decide) (by decide) o_v0).trans ea214
          have f0 := fri_tr (S := sI S v0 9 x1) g0 f0 fc218 (by decide) (by decide)
          have o_a212 := gr_ob g217 o_a212
          have o_a213 := gr_ob g217 o_a213
          have o_a214 := gr_ob g217 o_a214
          have o_v0 := gr_ob g217 o_v0
          have g0 := gr_tr (T := sI S v0 9 x1) g0 g217
          intro _
          refine i_X9_off_62 (fun (y0 : Nat) (y2 : Int32) (y4 : Int32) (y6 : Int32) (y7 : Int32) (Z : HS) => ((2147483647 : Int32).toInt - y7.toInt).toNat) (fun (y0 : Nat) (y2 : Int32) (y4 : Int32) (y6 : Int32) (y7 : Int32) (Z : HS) => (S216 = Z) ∧ (v0 = y0) ∧ (v2 = y2) ∧ (v4 = y4) ∧ (0 ≤ y7)) ?_ _ _ _ _ _ _ ⟨rfl, rfl, rfl, rfl, (q576 p_x1 c5 p_x139 bb_x139 c143 c144 c211)⟩
          intro w222 w224 w226 w228 w229 S219 X230 ⟨eS219, q223, q225, q227, i1⟩ ih231
          subst q223
          subst q225
          subst q227
          subst eS219
          refine u_X9_off_62 ?_
          refine ⟨fun c232 => ?_, fun c232 => ?_⟩
          · refine ⟨fun c233 => ?_, fun c233 => ?_⟩
            · exact hq _ _ hI g0 f0
            · refine ⟨o_v0, ?_⟩
              refine u_X9_refuse ?_
              refine u_X9_refuse_0 ?_
              refine ⟨o_v0, ?_⟩
              have hI := iv_sI (j := 9) (v := (6 : Int32)) hI o_v0 (by decide) (nu_free (by decide))
              have f0 : FRI _ _ _ (sI S216 v0 9 (6 : Int32)) := fri_sI (S := S216) g0 f0 o_v0 (by decide)
              obtain ⟨y234, hy234⟩ : ∃ z : Int32, z = (6 : Int32) := ⟨_, rfl⟩
              have d_y234 : y234 = fI (sI S216 v0 9 (6 : Int32)) v0 9 := hy234.trans (u2_self _ _ _ _).symm
              intro _
              exact hq _ _ hI g0 f0
          · refine ⟨fun c235 => ?_, fun c235 => ?_⟩
            · refine u_X9_off_99 ?_
              refine u_X9_off_104 ?_
              refine ⟨o_v0, ?_⟩
              refine ⟨a212, ea212, ?_⟩
              refine ⟨o_a212, ?_⟩
              refine m_X7_isOpen hI o_a212 (fun x237 S238 hI2 g239 b_x237 p_x237 => ?_)
              subst p_x237
              intro _ _
              have bb_x237 : x237 = 0 ∨ x237 = 1 := b_x237
              refine ⟨fun c241 => ?_, fun c241 => ?_⟩
              · refine u_X9_off_128 ?_
                intro x242 ex242
                exact ih231 _ _ _ _ _ _ ⟨rfl, rfl, rfl, rfl, (q577 p_x1 c5 p_x139 bb_x139 c143 c144 c211 i1 c232 c235 bb_x237 c241 ex242)⟩ (mu_up (q578 p_x1 c5 p_x139 bb_x139 c143 c144 c211 i1 c232 c235 bb_x237 c241 ex242) (q579 p_x1 c5 p_x139 bb_x139 c143 c144 c211 i1 c232 c235 bb_x237 c241 ex242))
              · refine ⟨fun c243 => ?_, fun c243 => ?_⟩
                · refine u_X9_off_128 ?_
                  intro x244 ex244
                  exact ih231 _ _ _ _ _ _ ⟨rfl, rfl, rfl, rfl, (q580 p_x1 c5 p_x139 bb_x139 c143 c144 c211 i1 c232 c235 bb_x237 c241 c243 ex244)⟩ (mu_up (q581 p_x1 c5 p_x139 bb_x139 c143 c144 c211 i1 c232 c235 bb_x237 c241 c243 ex244) (q582 p_x1 c5 p_x139 bb_x139 c143 c144 c211 i1 c232 c235 bb_x237 c241 c243 ex244))
                · refine u_X9_off_128 ?_
                  intro x245 ex245
                  exact ih231 _ _ _ _ _ _ ⟨rfl, rfl, rfl, rfl, (q583 p_x1 c5 p_x139 bb_x139 c143 c144 c211 i1 c232 c235 bb_x237 c241 ex245)⟩ (mu_up (q584 p_x1 c5 p_x139 bb_x139 c143 c144 c211 i1 c232 c235 bb_x237 c241 ex245) (q585 p_x1 c5 p_x139 bb_x139 c143 c144 c211 i1 c232 c235 bb_x237 c241 ex245))
            · refine ⟨o_v0, ?_⟩
              refine ⟨a212, ea212, ?_⟩
              refine ⟨o_a212, ?_⟩
              refine m_X7_meanFrom hI o_a212 (fun x247 S248 hI2 g249 p_x247 => ?_)
              subst p_x247
              intro _
              refine ⟨a212, ea212, ?_⟩
              refine ⟨o_a212, ?_⟩
              refine m_X7_meanFrom hI o_a212 (fun x252 S253 hI2 g254 p_x252 => ?_)
              subst p_x252
              intro _
              refine ⟨fun c256 => ?_, fun c256 => ?_⟩
              · refine u_X9_off_104 ?_
                refine ⟨o_v0, ?_⟩
                refine ⟨a212, ea212, ?_⟩
                refine ⟨o_a212, ?_⟩
                refine m_X7_isOpen hI o_a212 (fun x258 S259 hI2 g260 b_x258 p_x258 => ?_)
                subst p_x258
                intro _ _
                have bb_x258 : x258 = 0 ∨ x258 = 1 := b_x258
                refine ⟨fun c262 => ?_, fun c262 => ?_⟩
                · refine u_X9_off_128 ?_
                  intro x263 ex263
                  exact ih231 _ _ _ _ _ _ ⟨rfl, rfl, rfl, rfl, (q586 p_x1 c5 p_x139 bb_x139 c143 c144 c211 i1 c232 c235 c256 bb_x258 c262 ex263)⟩ (mu_up (q587 p_x1 c5 p_x139 bb_x139 c143 c144 c211 i1 c232 c235 c256 bb_x258 c262 ex263) (q588 p_x1 c5 p_x139 bb_x139 c143 c144 c211 i1 c232 c235 c256 bb_x258 c262 ex263))
                · refine ⟨fun c264 => ?_, fun c264 => ?_⟩
                  · refine u_X9_off_128 ?_
                    intro x265 ex265
                    exact ih231 _ _ _ _ _ _ ⟨rfl, rfl, rfl, rfl, (q589 p_x1 c5 p_x139 bb_x139 c143 c144 c211 i1 c232 c235 c256 bb_x258 c262 ex265)⟩ (mu_up (q590 p_x1 c5 p_x139 bb_x139 c143 c144 c211 i1 c232 c235 c256 bb_x258 c262 ex265) (q591 p_x1 c5 p_x139 bb_x139 c143 c144 c211 i1 c232 c235 c256 bb_x258 c262 ex265))
                  · refine u_X9_off_128 ?_
                    intro x266 ex266
                    exact ih231 _ _ _ _ _ _ ⟨rfl, rfl, rfl, rfl, (q592 p_x1 c5 p_x139 bb_x139 c143 c144 c211 i1 c232 c235 c256 bb_x258 c262 c264 ex266)⟩ (mu_up (q593 p_x1 c5 p_x139 bb_x139 c143 c144 c211 i1 c232 c235 c256 bb_x258 c262 c264 ex266) (q594 p_x1 c5 p_x139 bb_x139 c143 c144 c211 i1 c232 c235 c256 bb_x258 c262 c264 ex266))
              · refine u_X9_off_99 ?_
                refine u_X9_off_104 ?_
                refine ⟨o_v0, ?_⟩
                refine ⟨a212, ea212, ?_⟩
                refine ⟨o_a212, ?_⟩
                refine m_X7_isOpen hI o_a212 (fun x268 S269 hI2 g270 b_x268 p_x268 => ?_)
                subst p_x268
                intro _ _
                have bb_x268 : x268 = 0 ∨ x268 = 1 := b_x268
                refine ⟨fun c272 => ?_, fun c272 => ?_⟩
                · refine u_X9_off_128 ?_
                  intro x273 ex273
                  exact ih231 _ _ _ _ _ _ ⟨rfl, rfl, rfl, rfl, (q595 p_x1 c5 p_x139 bb_x139 c143 c144 c211 i1 c232 c235 c256 bb_x268 c272 ex273)⟩ (mu_up (q596 p_x1 c5 p_x139 bb_x139 c143 c144 c211 i1 c232 c235 c256 bb_x268 c272 ex273) (q597 p_x1 c5 p_x139 bb_x139 c143 c144 c211 i1 c232 c235 c256 bb_x268 c272 ex273))
                · refine ⟨fun c274 => ?_, fun c274 => ?_⟩
                  · refine u_X9_off_128 ?_
                    intro x275 ex275
                    exact ih231 _ _ _ _ _ _ ⟨rfl, rfl, rfl, rfl, (q598 p_x1 c5 p_x139 bb_x139 c143 c144 c211 i1 c232 c235 c256 bb_x268 c272 c274 ex275)⟩ (mu_up (q599 p_x1 c5 p_x139 bb_x139 c143 c144 c211 i1 c232 c235 c256 bb_x268 c272 c274 ex275) (q600 p_x1 c5 p_x139 bb_x139 c143 c144 c211 i1 c232 c235 c256 bb_x268 c272 c274 ex275))
                  · refine u_X9_off_128 ?_
                    intro x276 ex276
                    exact ih231 _ _ _ _ _ _ ⟨rfl, rfl, rfl, rfl, (q601 p_x1 c5 p_x139 bb_x139 c143 c144 c211 i1 c232 c235 c256 bb_x268 c272 ex276)⟩ (mu_up (q602 p_x1 c5 p_x139 bb_x139 c143 c144 c211 i1 c232 c235 c256 bb_x268 c272 ex276) (q603 p_x1 c5 p_x139 bb_x139 c143 c144 c211 i1 c232 c235 c256 bb_x268 c272 ex276))
        · exact hq _ _ hI g0 f0
    · refine u_X9_off_25 ?_
      refine ⟨o_v0, ?_⟩
      refine u_X9_refusedBy ?_
      refine u_X9_refusedBy_0 ?_
      refine ⟨o_v0, ?_⟩
      have hI := iv_sI (j := 9) (v := (2 : Int32)) hI o_v0 (by decide) (nu_free (by decide))
      have f0 : FRI _ _ _ (sI S v0 9 (2 : Int32)) := fri_sI (S := S) g0 f0 o_v0 (by decide)
      obtain ⟨y277, hy277⟩ : ∃ z : Int32, z = (2 : Int32) := ⟨_, rfl⟩
      have d_y277 : y277 = fI (sI S v0 9 (2 : Int32)) v0 9 := hy277.trans (u2_self _ _ _ _).symm
      refine ⟨fun c278 => ?_, fun c278 => ?_⟩
      · intro _ _
        refine ⟨fun c279 => ?_, fun c279 => ?_⟩
        · obtain ⟨a280, ea280, o_a280, -⟩ := sh 4 rfl hI o_v0
          refine ⟨a280, ea280, ?_⟩
          obtain ⟨a281, ea281, o_a281, -⟩ := sh 1 rfl hI o_v0
          refine ⟨a281, ea281, ?_⟩
          obtain ⟨a282, ea282, o_a282, -⟩ := sh 3 rfl hI o_v0
          refine ⟨a282, ea282, ?_⟩
          refine ⟨o_a280, ?_⟩
          refine m_X7_reckon hI o_a280 o_a281 o_a282 (q604 p_x1 c5 p_x139 bb_x139 c143 c278) (fun S284 hI g285 fc286 => ?_)
          have d_y277 := d_y277.trans (fri_at fc286 (by decide) (by decide) o_v0).symm
          have ea280 := (frr_at fc286 (by decide) (by decide) o_v0).trans ea280
          have ea281 := (frr_at fc286 (by decide) (by decide) o_v0).trans ea281
          have ea282 := (frr_at fc286 (by decide) (by decide) o_v0).trans ea282
          have f0 := fri_tr (S := sI S v0 9 (2 : Int32)) g0 f0 fc286 (by decide) (by decide)
          have o_a280 := gr_ob g285 o_a280
          have o_a281 := gr_ob g285 o_a281
          have o_a282 := gr_ob g285 o_a282
          have o_v0 := gr_ob g285 o_v0
          have g0 := gr_tr (T := sI S v0 9 (2 : Int32)) g0 g285
          intro _
          refine i_X9_off_62 (fun (y0 : Nat) (y2 : Int32) (y4 : Int32) (y6 : Int32) (y7 : Int32) (Z : HS) => ((2147483647 : Int32).toInt - y7.toInt).toNat) (fun (y0 : Nat) (y2 : Int32) (y4 : Int32) (y6 : Int32) (y7 : Int32) (Z : HS) => (S284 = Z) ∧ (v0 = y0) ∧ (v2 = y2) ∧ (v4 = y4) ∧ (0 ≤ y7)) ?_ _ _ _ _ _ _ ⟨rfl, rfl, rfl, rfl, (q605 p_x1 c5 p_x139 bb_x139 c143 c278)⟩
          intro w290 w292 w294 w296 w297 S287 X298 ⟨eS287, q291, q293, q295, i1⟩ ih299
          subst q291
          subst q293
          subst q295
          subst eS287
          refine u_X9_off_62 ?_
          refine ⟨fun c300 => ?_, fun c300 => ?_⟩
          · refine ⟨fun c301 => ?_, fun c301 => ?_⟩
            · exact hq _ _ hI g0 f0
            · refine ⟨o_v0, ?_⟩
              refine u_X9_refuse ?_
              refine u_X9_refuse_0 ?_
              refine ⟨o_v0, ?_⟩
              have hI := iv_sI (j := 9) (v := (6 : Int32)) hI o_v0 (by decide) (nu_free (by decide))
              have f0 : FRI _ _ _ (sI S284 v0 9 (6 : Int32)) := fri_sI (S := S284) g0 f0 o_v0 (by decide)
              obtain ⟨y302, hy302⟩ : ∃ z : Int32, z = (6 : Int32) := ⟨_, rfl⟩
              have d_y302 : y302 = fI (sI S284 v0 9 (6 : Int32)) v0 9 := hy302.trans (u2_self _ _ _ _).symm
              intro _
              exact hq _ _ hI g0 f0
          · refine ⟨fun c303 => ?_, fun c303 => ?_⟩
            · refine u_X9_off_99 ?_
              refine u_X9_off_104 ?_
              refine ⟨o_v0, ?_⟩
              refine ⟨a280, ea280, ?_⟩
              refine ⟨o_a280, ?_⟩
              refine m_X7_isOpen hI o_a280 (fun x305 S306 hI2 g307 b_x305 p_x305 => ?_)
              subst p_x305
              intro _ _
              have bb_x305 : x305 = 0 ∨ x305 = 1 := b_x305
              refine ⟨fun c309 => ?_, fun c309 => ?_⟩
              · refine u_X9_off_128 ?_
                intro x310 ex310
                exact ih299 _ _ _ _ _ _ ⟨rfl, rfl, rfl, rfl, (q606 p_x1 c5 p_x139 bb_x139 c143 c278 i1 c300 c303 bb_x305 c309 ex310)⟩ (mu_up (q607 p_x1 c5 p_x139 bb_x139 c143 c278 i1 c300 c303 bb_x305 c309 ex310) (q608 p_x1 c5 p_x139 bb_x139 c143 c278 i1 c300 c303 bb_x305 c309 ex310))
              · refine ⟨fun c311 => ?_, fun c311 => ?_⟩
                · refine u_X9_off_128 ?_
                  intro x312 ex312
                  exact ih299 _ _ _ _ _ _ ⟨rfl, rfl, rfl, rfl, (q609 p_x1 c5 p_x139 bb_x139 c143 c278 i1 c300 c303 bb_x305 c309 c311 ex312)⟩ (mu_up (q610 p_x1 c5 p_x139 bb_x139 c143 c278 i1 c300 c303 bb_x305 c309 c311 ex312) (q611 p_x1 c5 p_x139 bb_x139 c143 c278 i1 c300 c303 bb_x305 c309 c311 ex312))
                · refine u_X9_off_128 ?_
                  intro x313 ex313
                  exact ih299 _ _ _ _ _ _ ⟨rfl, rfl, rfl, rfl, (q612 p_x1 c5 p_x139 bb_x139 c143 c278 i1 c300 c303 bb_x305 c309 ex313)⟩ (mu_up (q613 p_x1 c5 p_x139 bb_x139 c143 c278 i1 c300 c303 bb_x305 c309 ex313) (q614 p_x1 c5 p_x139 bb_x139 c143 c278 i1 c300 c303 bb_x305 c309 ex313))
            · refine ⟨o_v0, ?_⟩
              refine ⟨a280, ea280, ?_⟩
              refine ⟨o_a280, ?_⟩
              refine m_X7_meanFrom hI o_a280 (fun x315 S316 hI2 g317 p_x315 => ?_)
              subst p_x315
              intro _
              refine ⟨a280, ea280, ?_⟩
              refine ⟨o_a280, ?_⟩
              refine m_X7_meanFrom hI o_a280 (fun x320 S321 hI2 g322 p_x320 => ?_)
              subst p_x320
              intro _
              refine ⟨fun c324 => ?_, fun c324 => ?_⟩
              · refine u_X9_off_104 ?_
                refine ⟨o_v0, ?_⟩
                refine ⟨a280, ea280, ?_⟩
                refine ⟨o_a280, ?_⟩
                refine m_X7_isOpen hI o_a280 (fun x326 S327 hI2 g328 b_x326 p_x326 => ?_)
                subst p_x326
                intro _ _
                have bb_x326 : x326 = 0 ∨ x326 = 1 := b_x326
                refine ⟨fun c330 => ?_, fun c330 => ?_⟩
                · refine u_X9_off_128 ?_
                  intro x331 ex331
                  exact ih299 _ _ _ _ _ _ ⟨rfl, rfl, rfl, rfl, (q615 p_x1 c5 p_x139 bb_x139 c143 c278 i1 c300 c303 c324 bb_x326 c330 ex331)⟩ (mu_up (q616 p_x1 c5 p_x139 bb_x139 c143 c278 i1 c300 c303 c324 bb_x326 c330 ex331) (q617 p_x1 c5 p_x139 bb_x139 c143 c278 i1 c300 c303 c324 bb_x326 c330 ex331))
                · refine ⟨fun c332 => ?_, fun c332 => ?_⟩
                  · refine u_X9_off_128 ?_
                    intro x333 ex333
                    exact ih299 _ _ _ _ _ _ ⟨rfl, rfl, rfl, rfl, (q618 p_x1 c5 p_x139 bb_x139 c143 c278 i1 c300 c303 c324 bb_x326 c330 ex333)⟩ (mu_up (q619 p_x1 c5 p_x139 bb_x139 c143 c278 i1 c300 c303 c324 bb_x326 c330 ex333) (q620 p_x1 c5 p_x139 bb_x139 c143 c278 i1 c300 c303 c324 bb_x326 c330 ex333))
                  · refine u_X9_off_128 ?_
                    intro x334 ex334
                    exact ih299 _ _ _ _ _ _ ⟨rfl, rfl, rfl, rfl, (q621 p_x1 c5 p_x139 bb_x139 c143 c278 i1 c300 c303 c324 bb_x326 c330 c332 ex334)⟩ (mu_up (q622 p_x1 c5 p_x139 bb_x139 c143 c278 i1 c300 c303 c324 bb_x326 c330 c332 ex334) (q623 p_x1 c5 p_x139 bb_x139 c143 c278 i1 c300 c303 c324 bb_x326 c330 c332 ex334))
              · refine u_X9_off_99 ?_
                refine u_X9_off_104 ?_
                refine ⟨o_v0, ?_⟩
                refine ⟨a280, ea280, ?_⟩
                refine ⟨o_a280, ?_⟩
                refine m_X7_isOpen hI o_a280 (fun x336 S337 hI2 g338 b_x336 p_x336 => ?_)
                subst p_x336
                intro _ _
                have bb_x336 : x336 = 0 ∨ x336 = 1 := b_x336
                refine ⟨fun c340 => ?_, fun c340 => ?_⟩
                · refine u_X9_off_128 ?_
                  intro x341 ex341
                  exact ih299 _ _ _ _ _ _ ⟨rfl, rfl, rfl, rfl, (q624 p_x1 c5 p_x139 bb_x139 c143 c278 i1 c300 c303 c324 bb_x336 c340 ex341)⟩ (mu_up (q625 p_x1 c5 p_x139 bb_x139 c143 c278 i1 c300 c303 c324 bb_x336 c340 ex341) (q626 p_x1 c5 p_x139 bb_x139 c143 c278 i1 c300 c303 c324 bb_x336 c340 ex341))
                · refine ⟨fun c342 => ?_, fun c342 => ?_⟩
                  · refine u_X9_off_128 ?_
                    intro x343 ex343
                    exact ih299 _ _ _ _ _ _ ⟨rfl, rfl, rfl, rfl, (q627 p_x1 c5 p_x139 bb_x139 c143 c278 i1 c300 c303 c324 bb_x336 c340 c342 ex343)⟩ (mu_up (q628 p_x1 c5 p_x139 bb_x139 c143 c278 i1 c300 c303 c324 bb_x336 c340 c342 ex343) (q629 p_x1 c5 p_x139 bb_x139 c143 c278 i1 c300 c303 c324 bb_x336 c340 c342 ex343))
                  · refine u_X9_off_128 ?_
                    intro x344 ex344
                    exact ih299 _ _ _ _ _ _ ⟨rfl, rfl, rfl, rfl, (q630 p_x1 c5 p_x139 bb_x139 c143 c278 i1 c300 c303 c324 bb_x336 c340 ex344)⟩ (mu_up (q631 p_x1 c5 p_x139 bb_x139 c143 c278 i1 c300 c303 c324 bb_x336 c340 ex344) (q632 p_x1 c5 p_x139 bb_x139 c143 c278 i1 c300 c303 c324 bb_x336 c340 ex344))
        · exact hq _ _ hI g0 f0
      · intro _ _
        refine ⟨fun c345 => ?_, fun c345 => ?_⟩
        · obtain ⟨a346, ea346, o_a346, -⟩ := sh 4 rfl hI o_v0
          refine ⟨a346, ea346, ?_⟩
          obtain ⟨a347, ea347, o_a347, -⟩ := sh 1 rfl hI o_v0
          refine ⟨a347, ea347, ?_⟩
          obtain ⟨a348, ea348, o_a348, -⟩ := sh 3 rfl hI o_v0
          refine ⟨a348, ea348, ?_⟩
          refine ⟨o_a346, ?_⟩
          refine m_X7_reckon hI o_a346 o_a347 o_a348 (q633 p_x1 c5 p_x139 bb_x139 c143 c278 c345) (fun S350 hI g351 fc352 => ?_)
          have d_y277 := d_y277.trans (fri_at fc352 (by decide) (by decide) o_v0).symm
          have ea346 := (frr_at fc352 (by decide) (by decide) o_v0).trans ea346
          have ea347 := (frr_at fc352 (by decide) (by decide) o_v0).trans ea347
          have ea348 := (frr_at fc352 (by decide) (by decide) o_v0).trans ea348
          have f0 := fri_tr (S := sI S v0 9 (2 : Int32)) g0 f0 fc352 (by decide) (by decide)
          have o_a346 := gr_ob g351 o_a346
          have o_a347 := gr_ob g351 o_a347
          have o_a348 := gr_ob g351 o_a348
          have o_v0 := gr_ob g351 o_v0
          have g0 := gr_tr (T := sI S v0 9 (2 : Int32)) g0 g351
          intro _
          refine i_X9_off_62 (fun (y0 : Nat) (y2 : Int32) (y4 : Int32) (y6 : Int32) (y7 : Int32) (Z : HS) => ((2147483647 : Int32).toInt - y7.toInt).toNat) (fun (y0 : Nat) (y2 : Int32) (y4 : Int32) (y6 : Int32) (y7 : Int32) (Z : HS) => (S350 = Z) ∧ (v0 = y0) ∧ (v2 = y2) ∧ (v4 = y4) ∧ (0 ≤ y7)) ?_ _ _ _ _ _ _ ⟨rfl, rfl, rfl, rfl, (q634 p_x1 c5 p_x139 bb_x139 c143 c278 c345)⟩
          intro w356 w358 w360 w362 w363 S353 X364 ⟨eS353, q357, q359, q361, i1⟩ ih365
          subst q357
          subst q359
          subst q361
          subst eS353
          refine u_X9_off_62 ?_
          refine ⟨fun c366 => ?_, fun c366 => ?_⟩
          · refine ⟨fun c367 => ?_, fun c367 => ?_⟩
            · exact hq _ _ hI g0 f0
            · refine ⟨o_v0, ?_⟩
              refine u_X9_refuse ?_
              refine u_X9_refuse_0 ?_
              refine ⟨o_v0, ?_⟩
              have hI := iv_sI (j := 9) (v := (6 : Int32)) hI o_v0 (by decide) (nu_free (by decide))
              have f0 : FRI _ _ _ (sI S350 v0 9 (6 : Int32)) := fri_sI (S := S350) g0 f0 o_v0 (by decide)
              obtain ⟨y368, hy368⟩ : ∃ z : Int32, z = (6 : Int32) := ⟨_, rfl⟩
              have d_y368 : y368 = fI (sI S350 v0 9 (6 : Int32)) v0 9 := hy368.trans (u2_self _ _ _ _).symm
              intro _
              exact hq _ _ hI g0 f0
          · refine ⟨fun c369 => ?_, fun c369 => ?_⟩
            · refine u_X9_off_99 ?_
              refine u_X9_off_104 ?_
              refine ⟨o_v0, ?_⟩
              refine ⟨a346, ea346, ?_⟩
              refine ⟨o_a346, ?_⟩
              refine m_X7_isOpen hI o_a346 (fun x371 S372 hI2 g373 b_x371 p_x371 => ?_)
              subst p_x371
              intro _ _
              have bb_x371 : x371 = 0 ∨ x371 = 1 := b_x371
              refine ⟨fun c375 => ?_, fun c375 => ?_⟩
              · refine u_X9_off_128 ?_
                intro x376 ex376
                exact ih365 _ _ _ _ _ _ ⟨rfl, rfl, rfl, rfl, (q635 p_x1 c5 p_x139 bb_x139 c143 c278 c345 i1 c366 c369 bb_x371 c375 ex376)⟩ (mu_up (q636 p_x1 c5 p_x139 bb_x139 c143 c278 c345 i1 c366 c369 bb_x371 c375 ex376) (q637 p_x1 c5 p_x139 bb_x139 c143 c278 c345 i1 c366 c369 bb_x371 c375 ex376))
              · refine ⟨fun c377 => ?_, fun c377 => ?_⟩
                · refine u_X9_off_128 ?_
                  intro x378 ex378
                  exact ih365 _ _ _ _ _ _ ⟨rfl, rfl, rfl, rfl, (q638 p_x1 c5 p_x139 bb_x139 c143 c278 c345 i1 c366 c369 bb_x371 c375 c377 ex378)⟩ (mu_up (q639 p_x1 c5 p_x139 bb_x139 c143 c278 c345 i1 c366 c369 bb_x371 c375 c377 ex378) (q640 p_x1 c5 p_x139 bb_x139 c143 c278 c345 i1 c366 c369 bb_x371 c375 c377 ex378))
                · refine u_X9_off_128 ?_
                  intro x379 ex379
                  exact ih365 _ _ _ _ _ _ ⟨rfl, rfl, rfl, rfl, (q641 p_x1 c5 p_x139 bb_x139 c143 c278 c345 i1 c366 c369 bb_x371 c375 ex379)⟩ (mu_up (q642 p_x1 c5 p_x139 bb_x139 c143 c278 c345 i1 c366 c369 bb_x371 c375 ex379) (q643 p_x1 c5 p_x139 bb_x139 c143 c278 c345 i1 c366 c369 bb_x371 c375 ex379))
            · refine ⟨o_v0, ?_⟩
              refine ⟨a346, ea346, ?_⟩
              refine ⟨o_a346, ?_⟩
              refine m_X7_meanFrom hI o_a346 (fun x381 S382 hI2 g383 p_x381 => ?_)
              subst p_x381
              intro _
              refine ⟨a346, ea346, ?_⟩
              refine ⟨o_a346, ?_⟩
              refine m_X7_meanFrom hI o_a346 (fun x386 S387 hI2 g388 p_x386 => ?_)
              subst p_x386
              intro _
              refine ⟨fun c390 => ?_, fun c390 => ?_⟩
              · refine u_X9_off_104 ?_
                refine ⟨o_v0, ?_⟩
                refine ⟨a346, ea346, ?_⟩
                refine ⟨o_a346, ?_⟩
                refine m_X7_isOpen hI o_a346 (fun x392 S393 hI2 g394 b_x392 p_x392 => ?_)
                subst p_x392
                intro _ _
                have bb_x392 : x392 = 0 ∨ x392 = 1 := b_x392
                refine ⟨fun c396 => ?_, fun c396 => ?_⟩
                · refine u_X9_off_128 ?_
                  intro x397 ex397
                  exact ih365 _ _ _ _ _ _ ⟨rfl, rfl, rfl, rfl, (q644 p_x1 c5 p_x139 bb_x139 c143 c278 c345 i1 c366 c369 c390 bb_x392 c396 ex397)⟩ (mu_up (q645 p_x1 c5 p_x139 bb_x139 c143 c278 c345 i1 c366 c369 c390 bb_x392 c396 ex397) (q646 p_x1 c5 p_x139 bb_x139 c143 c278 c345 i1 c366 c369 c390 bb_x392 c396 ex397))
                · refine ⟨fun c398 => ?_, fun c398 => ?_⟩
                  · refine u_X9_off_128 ?_
                    intro x399 ex399
                    exact ih365 _ _ _ _ _ _ ⟨rfl, rfl, rfl, rfl, (q647 p_x1 c5 p_x139 bb_x139 c143 c278 c345 i1 c366 c369 c390 bb_x392 c396 ex399)⟩ (mu_up (q648 p_x1 c5 p_x139 bb_x139 c143 c278 c345 i1 c366 c369 c390 bb_x392 c396 ex399) (q649 p_x1 c5 p_x139 bb_x139 c143 c278 c345 i1 c366 c369 c390 bb_x392 c396 ex399))
                  · refine u_X9_off_128 ?_
                    intro x400 ex400
                    exact ih365 _ _ _ _ _ _ ⟨rfl, rfl, rfl, rfl, (q650 p_x1 c5 p_x139 bb_x139 c143 c278 c345 i1 c366 c369 c390 bb_x392 c396 c398 ex400)⟩ (mu_up (q651 p_x1 c5 p_x139 bb_x139 c143 c278 c345 i1 c366 c369 c390 bb_x392 c396 c398 ex400) (q652 p_x1 c5 p_x139 bb_x139 c143 c278 c345 i1 c366 c369 c390 bb_x392 c396 c398 ex400))
              · refine u_X9_off_99 ?_
                refine u_X9_off_104 ?_
                refine ⟨o_v0, ?_⟩
                refine ⟨a346, ea346, ?_⟩
                refine ⟨o_a346, ?_⟩
                refine m_X7_isOpen hI o_a346 (fun x402 S403 hI2 g404 b_x402 p_x402 => ?_)
                subst p_x402
                intro _ _
                have bb_x402 : x402 = 0 ∨ x402 = 1 := b_x402
                refine ⟨fun c406 => ?_, fun c406 => ?_⟩
                · refine u_X9_off_128 ?_
                  intro x407 ex407
                  exact ih365 _ _ _ _ _ _ ⟨rfl, rfl, rfl, rfl, (q653 p_x1 c5 p_x139 bb_x139 c143 c278 c345 i1 c366 c369 c390 bb_x402 c406 ex407)⟩ (mu_up (q654 p_x1 c5 p_x139 bb_x139 c143 c278 c345 i1 c366 c369 c390 bb_x402 c406 ex407) (q655 p_x1 c5 p_x139 bb_x139 c143 c278 c345 i1 c366 c369 c390 bb_x402 c406 ex407))
                · refine ⟨fun c408 => ?_, fun c408 => ?_⟩
                  · refine u_X9_off_128 ?_
                    intro x409 ex409
                    exact ih365 _ _ _ _ _ _ ⟨rfl, rfl, rfl, rfl, (q656 p_x1 c5 p_x139 bb_x139 c143 c278 c345 i1 c366 c369 c390 bb_x402 c406 c408 ex409)⟩ (mu_up (q657 p_x1 c5 p_x139 bb_x139 c143 c278 c345 i1 c366 c369 c390 bb_x402 c406 c408 ex409) (q658 p_x1 c5 p_x139 bb_x139 c143 c278 c345 i1 c366 c369 c390 bb_x402 c406 c408 ex409))
                  · refine u_X9_off_128 ?_
                    intro x410 ex410
                    exact ih365 _ _ _ _ _ _ ⟨rfl, rfl, rfl, rfl, (q659 p_x1 c5 p_x139 bb_x139 c143 c278 c345 i1 c366 c369 c390 bb_x402 c406 ex410)⟩ (mu_up (q660 p_x1 c5 p_x139 bb_x139 c143 c278 c345 i1 c366 c369 c390 bb_x402 c406 ex410) (q661 p_x1 c5 p_x139 bb_x139 c143 c278 c345 i1 c366 c369 c390 bb_x402 c406 ex410))
        · exact hq _ _ hI g0 f0
