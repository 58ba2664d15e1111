set_option maxHeartbeats 4000000 in
set_option maxRecDepth 20000 in
theorem m_X9_minutes {v0 : Nat} {v1 : Int32} {v2 : Int32} {v3 : Int32} {Q : Int32 → HS → Prop} {S : HS} (hI : IV S) (o_v0 : ob S v0 9)     (hq : ∀ (r : Int32) (T : HS), IV T → Gr S T → FRI [(9, 9)] [] S T → Q r T) : P_X9_minutes v0 v1 v2 v3 Q S := by
  have g0 := gr_rf S
  have f0 := fri_rf [(9, 9)] [] S
  refine u_X9_minutes ?_
  refine u_X9_minutes_0 ?_
  refine ⟨o_v0, ?_⟩
  obtain ⟨a1, ea1, o_a1, -⟩ := sh 1 rfl hI o_v0
  refine ⟨a1, ea1, ?_⟩
  refine ⟨o_a1, ?_⟩
  refine m_X8_hasWalker hI o_a1 (fun x2 S3 hI2 g4 b_x2 p_x2 => ?_)
  obtain ⟨z_S3, p_x2⟩ := p_x2
  subst z_S3
  intro _ _
  have bb_x2 : x2 = 0 ∨ x2 = 1 := b_x2
  refine ⟨fun c6 => ?_, fun c6 => ?_⟩
  · refine u_X9_minutes_22 ?_
    refine ⟨o_v0, ?_⟩
    refine u_X9_refuse ?_
    refine u_X9_refuse_0 ?_
    refine ⟨o_v0, ?_⟩
    intro S7 eS7
    have hI : IV S7 := by rw [eS7]; exact iv_sI hI o_v0 (by decide) (nu_free (by decide))
    have f0 := fr_I eS7 g0 f0 o_v0 (by decide)
    obtain ⟨y8, hy8⟩ : ∃ z : Int32, z = (1 : Int32) := ⟨_, rfl⟩
    have d_y8 := rd_Is eS7 hy8
    have ea1 := rf_I eS7 ea1
    have g0 := gr_I eS7 g0
    have o_a1 := ob_I eS7 o_a1
    have o_v0 := ob_I eS7 o_v0
    intro _
    exact hq _ _ hI g0 f0
  · refine ⟨a1, ea1, ?_⟩
    refine ⟨o_a1, ?_⟩
    refine m_X8_hasRoad hI o_a1 (fun x11 S12 hI2 g13 b_x11 p_x11 => ?_)
    obtain ⟨z_S12, p_x11⟩ := p_x11
    subst z_S12
    intro _ _
    have bb_x11 : x11 = 0 ∨ x11 = 1 := b_x11
    refine ⟨fun c15 => ?_, fun c15 => ?_⟩
    · refine ⟨a1, ea1, ?_⟩
      refine ⟨o_a1, ?_⟩
      obtain ⟨a17, ea17, o_a17, l_a17⟩ := shl 18 rfl hI o_a1
      refine ⟨a17, ea17, ?_⟩
      refine ⟨o_a17, ?_⟩
      have i19 : vp_in v1 (hN _ a17) := (vin l_a17 (m := 4) (by decide) (q662 p_x2 bb_x2 c6 p_x11 bb_x11 c15))
      obtain ⟨a18, ea18, o_a18⟩ := ae hI o_a17 (by decide) (by decide) i19
      replace o_a18 : ob _ a18 6 := o_a18
      refine ⟨i19, a18, ea18, ?_⟩
      refine ⟨o_a18, ?_⟩
      refine m_X6_canGo hI o_a18 (fun x20 S21 hI2 g22 b_x20 p_x20 => ?_)
      subst p_x20
      intro _ _
      have bb_x20 : x20 = 0 ∨ x20 = 1 := b_x20
      refine ⟨fun c24 => ?_, fun c24 => ?_⟩
      · refine ⟨a1, ea1, ?_⟩
        refine ⟨o_a1, ?_⟩
        obtain ⟨a26, ea26, o_a26, l_a26⟩ := shl 17 rfl hI o_a1
        refine ⟨a26, ea26, ?_⟩
        refine ⟨o_a26, ?_⟩
        have i28 : vp_in v2 (hN _ a26) := (vin l_a26 (m := 12) (by decide) (q663 p_x2 bb_x2 c6 p_x11 bb_x11 c15 bb_x20 c24))
        obtain ⟨a27, ea27, o_a27⟩ := ae hI o_a26 (by decide) (by decide) i28
        replace o_a27 : ob _ a27 5 := o_a27
        refine ⟨i28, a27, ea27, ?_⟩
        refine ⟨o_a27, ?_⟩
        refine m_X5_minutesAt hI o_a27 (fun x29 S30 hI2 g31 p_x29 => ?_)
        subst p_x29
        intro _
        refine u_X9_grant ?_
        refine u_X9_grant_0 ?_
        refine ⟨o_v0, ?_⟩
        intro S33 eS33
        have hI : IV S33 := by rw [eS33]; exact iv_sI hI o_v0 (by decide) (nu_free (by decide))
        have f0 := fr_I eS33 g0 f0 o_v0 (by decide)
        obtain ⟨y34, hy34⟩ : ∃ z : Int32, z = (0 : Int32) := ⟨_, rfl⟩
        have d_y34 := rd_Is eS33 hy34
        have ea1 := rf_I eS33 ea1
        have ea17 := rf_I eS33 ea17
        have ea26 := rf_I eS33 ea26
        have l_a17 := ln_I eS33 l_a17
        have l_a26 := ln_I eS33 l_a26
        have g0 := gr_I eS33 g0
        have o_a1 := ob_I eS33 o_a1
        have o_a17 := ob_I eS33 o_a17
        have o_a18 := ob_I eS33 o_a18
        have o_a26 := ob_I eS33 o_a26
        have o_a27 := ob_I eS33 o_a27
        have o_v0 := ob_I eS33 o_v0
        intro _
        exact hq _ _ hI g0 f0
      · refine u_X9_refuse ?_
        refine u_X9_refuse_0 ?_
        refine ⟨o_v0, ?_⟩
        intro S36 eS36
        have hI : IV S36 := by rw [eS36]; exact iv_sI hI o_v0 (by decide) (nu_free (by decide))
        have f0 := fr_I eS36 g0 f0 o_v0 (by decide)
        obtain ⟨y37, hy37⟩ : ∃ z : Int32, z = (2 : Int32) := ⟨_, rfl⟩
        have d_y37 := rd_Is eS36 hy37
        have ea1 := rf_I eS36 ea1
        have ea17 := rf_I eS36 ea17
        have l_a17 := ln_I eS36 l_a17
        have g0 := gr_I eS36 g0
        have o_a1 := ob_I eS36 o_a1
        have o_a17 := ob_I eS36 o_a17
        have o_a18 := ob_I eS36 o_a18
        have o_v0 := ob_I eS36 o_v0
        intro _
        exact hq _ _ hI g0 f0
    · refine u_X9_minutes_22 ?_
      refine ⟨o_v0, ?_⟩
      refine u_X9_refuse ?_
      refine u_X9_refuse_0 ?_
      refine ⟨o_v0, ?_⟩
      intro S39 eS39
      have hI : IV S39 := by rw [eS39]; exact iv_sI hI o_v0 (by decide) (nu_free (by decide))
      have f0 := fr_I eS39 g0 f0 o_v0 (by decide)
      obtain ⟨y40, hy40⟩ : ∃ z : Int32, z = (1 : Int32) := ⟨_, rfl⟩
      have d_y40 := rd_Is eS39 hy40
      have ea1 := rf_I eS39 ea1
      have g0 := gr_I eS39 g0
      have o_a1 := ob_I eS39 o_a1
      have o_v0 := ob_I eS39 o_v0
      intro _
      exact hq _ _ hI g0 f0
set_option maxHeartbeats 4000000 in
set_option maxRecDepth 20000 in
theorem m_X9_off {v0 : Nat} {v1 : Int32} {v2 : Int32} {v3 : Int32} {v4 : Int32} {Q : Int32 → HS → Prop} {S : HS} (hI : IV S) (o_v0 : ob S v0 9)     (hq : ∀ (r : Int32) (T : HS), IV T → Gr S T → FRI [(7, 3), (7, 9), (7, 10), (7, 11), (7, 12), (7, 13), (9, 9)] [(7, 0), (7, 1), (7, 2), (7, 4), (7, 5), (7, 6), (7, 7), (7, 8)] S T → Q r T) : P_X9_off v0 v1 v2 v3 v4 Q S := by
  have g0 := gr_rf S
  have f0 := fri_rf [(7, 3), (7, 9), (7, 10), (7, 11), (7, 12), (7, 13), (9, 9)] [(7, 0), (7, 1), (7, 2), (7, 4), (7, 5), (7, 6), (7, 7), (7, 8)] S
  refine u_X9_off ?_
  refine u_X9_off_0 ?_
  refine ⟨o_v0, ?_⟩
  refine m_X9_placesTrouble hI o_v0 (fun x1 S2 hI2 g3 p_x1 => ?_)
  obtain ⟨z_S2, p_x1⟩ := p_x1
  subst z_S2
  intro _
  refine ⟨fun c5 => ?_, fun c5 => ?_⟩
  · refine u_X9_off_25 ?_
    refine ⟨o_v0, ?_⟩
    refine u_X9_refusedBy ?_
    refine u_X9_refusedBy_0 ?_
    refine ⟨o_v0, ?_⟩
    intro S6 eS6
    have hI : IV S6 := by rw [eS6]; exact iv_sI hI o_v0 (by decide) (nu_free (by decide))
    have f0 := fr_I eS6 g0 f0 o_v0 (by decide)
    have d_x1 := rd_Is eS6 (rfl : x1 = x1)
    have g0 := gr_I eS6 g0
    have o_v0 := ob_I eS6 o_v0
    refine ⟨fun c7 => ?_, fun c7 => ?_⟩
    · intro _ _
      refine ⟨fun c9 => ?_, fun c9 => ?_⟩
      · obtain ⟨a10, ea10, o_a10, -⟩ := sh 4 rfl hI o_v0
        refine ⟨a10, ea10, ?_⟩
        obtain ⟨a11, ea11, o_a11, -⟩ := sh 1 rfl hI o_v0
        refine ⟨a11, ea11, ?_⟩
        obtain ⟨a12, ea12, o_a12, -⟩ := sh 3 rfl hI o_v0
        refine ⟨a12, ea12, ?_⟩
        refine ⟨o_a10, ?_⟩
        refine m_X7_reckon hI o_a10 o_a11 o_a12 (q488 p_x1 c5 c7) (fun S14 hI g15 fc16 => ?_)
        have d_x1 := d_x1.trans (fri_at fc16 (by decide) (by decide) o_v0).symm
        have ea10 := (frr_at fc16 (by decide) (by decide) o_v0).trans ea10
        have ea11 := (frr_at fc16 (by decide) (by decide) o_v0).trans ea11
        have ea12 := (frr_at fc16 (by decide) (by decide) o_v0).trans ea12
        have f0 := fri_tr (S := S6) g0 f0 fc16 (by decide) (by decide)
        have o_a10 := gr_ob g15 o_a10
        have o_a11 := gr_ob g15 o_a11
        have o_a12 := gr_ob g15 o_a12
        have o_v0 := gr_ob g15 o_v0
        have g0 := gr_tr (T := S6) g0 g15
        intro _
        refine i_X9_off_62 (fun (y0 : Nat) (y2 : Int32) (y4 : Int32) (y6 : Int32) (y7 : Int32) (Z : HS) => ((2147483647 : Int32).toInt - y7.toInt).toNat) (fun (y0 : Nat) (y2 : Int32) (y4 : Int32) (y6 : Int32) (y7 : Int32) (Z : HS) => (S14 = Z) ∧ (v0 = y0) ∧ (v2 = y2) ∧ (v4 = y4) ∧ (0 ≤ y7)) ?_ _ _ _ _ _ _ ⟨rfl, rfl, rfl, rfl, (q489 p_x1 c5 c7)⟩
        intro w20 w22 w24 w26 w27 S17 X28 ⟨eS17, q21, q23, q25, i1⟩ ih29
        subst q21
        subst q23
        subst q25
        subst eS17
        refine u_X9_off_62 ?_
        refine ⟨fun c30 => ?_, fun c30 => ?_⟩
        · refine ⟨fun c31 => ?_, fun c31 => ?_⟩
          · exact hq _ _ hI g0 f0
          · refine ⟨o_v0, ?_⟩
            refine u_X9_refuse ?_
            refine u_X9_refuse_0 ?_
            refine ⟨o_v0, ?_⟩
            intro S32 eS32
            have hI : IV S32 := by rw [eS32]; exact iv_sI hI o_v0 (by decide) (nu_free (by decide))
            have f0 := fr_I eS32 g0 f0 o_v0 (by decide)
            obtain ⟨y33, hy33⟩ : ∃ z : Int32, z = (6 : Int32) := ⟨_, rfl⟩
            have d_y33 := rd_Is eS32 hy33
            have ea10 := rf_I eS32 ea10
            have ea11 := rf_I eS32 ea11
            have ea12 := rf_I eS32 ea12
            have g0 := gr_I eS32 g0
            have o_a10 := ob_I eS32 o_a10
            have o_a11 := ob_I eS32 o_a11
            have o_a12 := ob_I eS32 o_a12
            have o_v0 := ob_I eS32 o_v0
            intro _
            exact hq _ _ hI g0 f0
        · refine ⟨fun c35 => ?_, fun c35 => ?_⟩
          · refine u_X9_off_99 ?_
            refine u_X9_off_104 ?_
            refine ⟨o_v0, ?_⟩
            refine ⟨a10, ea10, ?_⟩
            refine ⟨o_a10, ?_⟩
            refine m_X7_isOpen hI o_a10 (fun x37 S38 hI2 g39 b_x37 p_x37 => ?_)
            subst p_x37
            intro _ _
            have bb_x37 : x37 = 0 ∨ x37 = 1 := b_x37
            refine ⟨fun c41 => ?_, fun c41 => ?_⟩
            · refine u_X9_off_128 ?_
              intro x42 ex42
              exact ih29 _ _ _ _ _ _ ⟨rfl, rfl, rfl, rfl, (q490 p_x1 c5 c7 i1 c30 c35 bb_x37 c41 ex42)⟩ (mu_up (q491 p_x1 c5 c7 i1 c30 c35 bb_x37 c41 ex42) (q492 p_x1 c5 c7 i1 c30 c35 bb_x37 c41 ex42))
            · refine ⟨fun c43 => ?_, fun c43 => ?_⟩
              · refine u_X9_off_128 ?_
                intro x44 ex44
                exact ih29 _ _ _ _ _ _ ⟨rfl, rfl, rfl, rfl, (q493 p_x1 c5 c7 i1 c30 c35 bb_x37 c41 c43 ex44)⟩ (mu_up (q494 p_x1 c5 c7 i1 c30 c35 bb_x37 c41 c43 ex44) (q495 p_x1 c5 c7 i1 c30 c35 bb_x37 c41 c43 ex44))
              · refine u_X9_off_128 ?_
                intro x45 ex45
                exact ih29 _ _ _ _ _ _ ⟨rfl, rfl, rfl, rfl, (q496 p_x1 c5 c7 i1 c30 c35 bb_x37 c41 ex45)⟩ (mu_up (q497 p_x1 c5 c7 i1 c30 c35 bb_x37 c41 ex45) (q498 p_x1 c5 c7 i1 c30 c35 bb_x37 c41 ex45))
          · refine ⟨o_v0, ?_⟩
            refine ⟨a10, ea10, ?_⟩
            refine ⟨o_a10, ?_⟩
            refine m_X7_meanFrom hI o_a10 (fun x47 S48 hI2 g49 p_x47 => ?_)
            subst p_x47
            intro _
            refine ⟨a10, ea10, ?_⟩
            refine ⟨o_a10, ?_⟩
            refine m_X7_meanFrom hI o_a10 (fun x52 S53 hI2 g54 p_x52 => ?_)
            subst p_x52
            intro _
            refine ⟨fun c56 => ?_, fun c56 => ?_⟩
            · refine u_X9_off_104 ?_
              refine ⟨o_v0, ?_⟩
              refine ⟨a10, ea10, ?_⟩
              refine ⟨o_a10, ?_⟩
              refine m_X7_isOpen hI o_a10 (fun x58 S59 hI2 g60 b_x58 p_x58 => ?_)
              subst p_x58
              intro _ _
              have bb_x58 : x58 = 0 ∨ x58 = 1 := b_x58
              refine ⟨fun c62 => ?_, fun c62 => ?_⟩
              · refine u_X9_off_128 ?_
                intro x63 ex63
                exact ih29 _ _ _ _ _ _ ⟨rfl, rfl, rfl, rfl, (q499 p_x1 c5 c7 i1 c30 c35 c56 bb_x58 c62 ex63)⟩ (mu_up (q500 p_x1 c5 c7 i1 c30 c35 c56 bb_x58 c62 ex63) (q501 p_x1 c5 c7 i1 c30 c35 c56 bb_x58 c62 ex63))
              · refine ⟨fun c64 => ?_, fun c64 => ?_⟩
                · refine u_X9_off_128 ?_
                  intro x65 ex65
                  exact ih29 _ _ _ _ _ _ ⟨rfl, rfl, rfl, rfl, (q502 p_x1 c5 c7 i1 c30 c35 c56 bb_x58 c62 ex65)⟩ (mu_up (q503 p_x1 c5 c7 i1 c30 c35 c56 bb_x58 c62 ex65) (q504 p_x1 c5 c7 i1 c30 c35 c56 bb_x58 c62 ex65))
                · refine u_X9_off_128 ?_
                  intro x66 ex66
                  exact ih29 _ _ _ _ _ _ ⟨rfl, rfl, rfl, rfl, (q505 p_x1 c5 c7 i1 c30 c35 c56 bb_x58 c62 c64 ex66)⟩ (mu_up (q506 p_x1 c5 c7 i1 c30 c35 c56 bb_x58 c62 c64 ex66) (q507 p_x1 c5 c7 i1 c30 c35 c56 bb_x58 c62 c64 ex66))
            · refine u_X9_off_99 ?_
              refine u_X9_off_104 ?_
              refine ⟨o_v0, ?_⟩
              refine ⟨a10, ea10, ?_⟩
              refine ⟨o_a10, ?_⟩
              refine m_X7_isOpen hI o_a10 (fun x68 S69 hI2 g70 b_x68 p_x68 => ?_)
              subst p_x68
              intro _ _
              have bb_x68 : x68 = 0 ∨ x68 = 1 := b_x68
              refine ⟨fun c72 => ?_, fun c72 => ?_⟩
              · refine u_X9_off_128 ?_
                intro x73 ex73
                exact ih29 _ _ _ _ _ _ ⟨rfl, rfl, rfl, rfl, (q508 p_x1 c5 c7 i1 c30 c35 c56 bb_x68 c72 ex73)⟩ (mu_up (q509 p_x1 c5 c7 i1 c30 c35 c56 bb_x68 c72 ex73) (q510 p_x1 c5 c7 i1 c30 c35 c56 bb_x68 c72 ex73))
              · refine ⟨fun c74 => ?_, fun c74 => ?_⟩
                · refine u_X9_off_128 ?_
                  intro x75 ex75
                  exact ih29 _ _ _ _ _ _ ⟨rfl, rfl, rfl, rfl, (q511 p_x1 c5 c7 i1 c30 c35 c56 bb_x68 c72 c74 ex75)⟩ (mu_up (q512 p_x1 c5 c7 i1 c30 c35 c56 bb_x68 c72 c74 ex75) (q513 p_x1 c5 c7 i1 c30 c35 c56 bb_x68 c72 c74 ex75))
                · refine u_X9_off_128 ?_
                  intro x76 ex76
                  exact ih29 _ _ _ _ _ _ ⟨rfl, rfl, rfl, rfl, (q514 p_x1 c5 c7 i1 c30 c35 c56 bb_x68 c72 ex76)⟩ (mu_up (q515 p_x1 c5 c7 i1 c30 c35 c56 bb_x68 c72 ex76) (q516 p_x1 c5 c7 i1 c30 c35 c56 bb_x68 c72 ex76))
      · exact hq _ _ hI g0 f0
    · intro _ _
      refine ⟨fun c78 => ?_, fun c78 => ?_⟩
      · obtain ⟨a79, ea79, o_a79, -⟩ := sh 4 rfl hI o_v0
        refine ⟨a79, ea79, ?_⟩
        obtain ⟨a80, ea80, o_a80, -⟩ := sh 1 rfl hI o_v0
        refine ⟨a80, ea80, ?_⟩
        obtain ⟨a81, ea81, o_a81, -⟩ := sh 3 rfl hI o_v0
        refine ⟨a81, ea81, ?_⟩
        refine ⟨o_a79, ?_⟩
        refine m_X7_reckon hI o_a79 o_a80 o_a81 (q517 p_x1 c5 c7 c78) (fun S83 hI g84 fc85 => ?_)
        have d_x1 := d_x1.trans (fri_at fc85 (by decide) (by decide) o_v0).symm
        have ea79 := (frr_at fc85 (by decide) (by decide) o_v0).trans ea79
        have ea80 := (frr_at fc85 (by decide) (by decide) o_v0).trans ea80
        have ea81 := (frr_at fc85 (by decide) (by decide) o_v0).trans ea81
        have f0 := fri_tr (S := S6) g0 f0 fc85 (by decide) (by decide)
        have o_a79 := gr_ob g84 o_a79
        have o_a80 := gr_ob g84 o_a80
        have o_a81 := gr_ob g84 o_a81
        have o_v0 := gr_ob g84 o_v0
        have g0 := gr_tr (T := S6) g0 g84
        intro _
        refine i_X9_off_62 (fun (y0 : Nat) (y2 : Int32) (y4 : Int32) (y6 : Int32) (y7 : Int32) (Z : HS) => ((2147483647 : Int32).toInt - y7.toInt).toNat) (fun (y0 : Nat) (y2 : Int32) (y4 : Int32) (y6 : Int32) (y7 : Int32) (Z : HS) => (S83 = Z) ∧ (v0 = y0) ∧ (v2 = y2) ∧ (v4 = y4) ∧ (0 ≤ y7)) ?_ _ _ _ _ _ _ ⟨rfl, rfl, rfl, rfl, (q518 p_x1 c5 c7 c78)⟩
        intro w89 w91 w93 w95 w96 S86 X97 ⟨eS86, q90, q92, q94, i1⟩ ih98
        subst q90
        subst q92
        subst q94
        subst eS86
        refine u_X9_off_62 ?_
        refine ⟨fun c99 => ?_, fun c99 => ?_⟩
        · refine ⟨fun c100 => ?_, fun c100 => ?_⟩
          · exact hq _ _ hI g0 f0
          · refine ⟨o_v0, ?_⟩
            refine u_X9_refuse ?_
            refine u_X9_refuse_0 ?_
            refine ⟨o_v0, ?_⟩
            intro S101 eS101
            have hI : IV S101 := by rw [eS101]; exact iv_sI hI o_v0 (by decide) (nu_free (by decide))
            have f0 := fr_I eS101 g0 f0 o_v0 (by decide)
            obtain ⟨y102, hy102⟩ : ∃ z : Int32, z = (6 : Int32) := ⟨_, rfl⟩
            have d_y102 := rd_Is eS101 hy102
            have ea79 := rf_I eS101 ea79
            have ea80 := rf_I eS101 ea80
            have ea81 := rf_I eS101 ea81
            have g0 := gr_I eS101 g0
            have o_a79 := ob_I eS101 o_a79
            have o_a80 := ob_I eS101 o_a80
            have o_a81 := ob_I eS101 o_a81
            have o_v0 := ob_I eS101 o_v0
            intro _
            exact hq _ _ hI g0 f0
        · refine ⟨fun c104 => ?_, fun c104 => ?_⟩
          · refine u_X9_off_99 ?_
            refine u_X9_off_104 ?_
            refine ⟨o_v0, ?_⟩
            refine ⟨a79, ea79, ?_⟩
            refine ⟨o_a79, ?_⟩
            refine m_X7_isOpen hI o_a79 (fun x106 S107 hI2 g108 b_x106 p_x106 => ?_)
            subst p_x106
            intro _ _
            have bb_x106 : x106 = 0 ∨ x106 = 1 := b_x106
            refine ⟨fun c110 => ?_, fun c110 => ?_⟩
            · refine u_X9_off_128 ?_
              intro x111 ex111
              exact ih98 _ _ _ _ _ _ ⟨rfl, rfl, rfl, rfl, (q519 p_x1 c5 c7 c78 i1 c99 c104 bb_x106 c110 ex111)⟩ (mu_up (q520 p_x1 c5 c7 c78 i1 c99 c104 bb_x106 c110 ex111) (q521 p_x1 c5 c7 c78 i1 c99 c104 bb_x106 c110 ex111))
            · refine ⟨fun c112 => ?_, fun c112 => ?_⟩
              · refine u_X9_off_128 ?_
                intro x113 ex113
                exact ih98 _ _ _ _ _ _ ⟨rfl, rfl, rfl, rfl, (q522 p_x1 c5 c7 c78 i1 c99 c104 bb_x106 c110 c112 ex113)⟩ (mu_up (q523 p_x1 c5 c7 c78 i1 c99 c104 bb_x106 c110 c112 ex113) (q524 p_x1 c5 c7 c78 i1 c99 c104 bb_x106 c110 c112 ex113))
              · refine u_X9_off_128 ?_
                intro x114 ex114
                exact ih98 _ _ _ _ _ _ ⟨rfl, rfl, rfl, rfl, (q525 p_x1 c5 c7 c78 i1 c99 c104 bb_x106 c110 ex114)⟩ (mu_up (q526 p_x1 c5 c7 c78 i1 c99 c104 bb_x106 c110 ex114) (q527 p_x1 c5 c7 c78 i1 c99 c104 bb_x106 c110 ex114))
          · refine ⟨o_v0, ?_⟩
            refine ⟨a79, ea79, ?_⟩
            refine ⟨o_a79, ?_⟩
            refine m_X7_meanFrom hI o_a79 (fun x116 S117 hI2 g118 p_x116 => ?_)
            subst p_x116
            intro _
            refine ⟨a79, ea79, ?_⟩
            refine ⟨o_a79, ?_⟩
            refine m_X7_meanFrom hI o_a79 (fun x121 S122 hI2 g123 p_x121 => ?_)
            subst p_x121
            intro _
            refine ⟨fun c125 => ?_, fun c125 => ?_⟩
            · refine u_X9_off_104 ?_
              refine ⟨o_v0, ?_⟩
              refine ⟨a79, ea79, ?_⟩
              refine ⟨o_a79, ?_⟩
              refine m_X7_isOpen hI o_a79 (fun x127 S128 hI2 g129 b_x127 p_x127 => ?_)
              subst p_x127
              intro _ _
              have bb_x127 : x127 = 0 ∨ x127 = 1 := b_x127
              refine ⟨fun c131 => ?_, fun c131 => ?_⟩
              · refine u_X9_off_128 ?_
                intro x132 ex132
                exact ih98 _ _ _ _ _ _ ⟨rfl, rfl, rfl, rfl, (q528 p_x1 c5 c7 c78 i1 c99 c104 c125 bb_x127 c131 ex132)⟩ (mu_up (q529 p_x1 c5 c7 c78 i1 c99 c104 c125 bb_x127 c131 ex132) (q530 p_x1 c5 c7 c78 i1 c99 c104 c125 bb_x127 c131 ex132))
              · refine ⟨fun c133 => ?_, fun c133 => ?_⟩
                · refine u_X9_off_128 ?_
                  intro x134 ex134
                  exact ih98 _ _ _ _ _ _ ⟨rfl, rfl, rfl, rfl, (q531 p_x1 c5 c7 c78 i1 c99 c104 c125 bb_x127 c131 ex134)⟩ (mu_up (q532 p_x1 c5 c7 c78 i1 c99 c104 c125 bb_x127 c131 ex134) (q533 p_x1 c5 c7 c78 i1 c99 c104 c125 bb_x127 c131 ex134))
                · refine u_X9_off_128 ?_
                  intro x135 ex135
                  exact ih98 _ _ _ _ _ _ ⟨rfl, rfl, rfl, rfl, (q534 p_x1 c5 c7 c78 i1 c99 c104 c125 bb_x127 c131 c133 ex135)⟩ (mu_up (q535 p_x1 c5 c7 c78 i1 c99 c104 c125 bb_x127 c131 c133 ex135) (q536 p_x1 c5 c7 c78 i1 c99 c104 c125 bb_x127 c131 c133 ex135))
            · refine u_X9_off_99 ?_
              refine u_X9_off_104 ?_
              refine ⟨o_v0, ?_⟩
              refine ⟨a79, ea79, ?_⟩
              refine ⟨o_a79, ?_⟩
              refine m_X7_isOpen hI o_a79 (fun x137 S138 hI2 g139 b_x137 p_x137 => ?_)
              subst p_x137
              intro _ _
              have bb_x137 : x137 = 0 ∨ x137 = 1 := b_x137
              refine ⟨fun c141 => ?_, fun c141 => ?_⟩
              · refine u_X9_off_128 ?_
                intro x142 ex142
                exact ih98 _ _ _ _ _ _ ⟨rfl, rfl, rfl, rfl, (q537 p_x1 c5 c7 c78 i1 c99 c104 c125 bb_x137 c141 ex142)⟩ (mu_up (q538 p_x1 c5 c7 c78 i1 c99 c104 c125 bb_x137 c141 ex142) (q539 p_x1 c5 c7 c78 i1 c99 c104 c125 bb_x137 c141 ex142))
              · refine ⟨fun c143 => ?_, fun c143 => ?_⟩
                · refine u_X9_off_128 ?_
                  intro x144 ex144
                  exact ih98 _ _ _ _ _ _ ⟨rfl, rfl, rfl, rfl, (q540 p_x1 c5 c7 c78 i1 c99 c104 c125 bb_x137 c141 c143 ex144)⟩ (mu_up (q541 p_x1 c5 c7 c78 i1 c99 c104 c125 bb_x137 c141 c143 ex144) (q542 p_x1 c5 c7 c78 i1 c99 c104 c125 bb_x137 c141 c143 ex144))
                · refine u_X9_off_128 ?_
                  intro x145 ex145
                  exact ih98 _ _ _ _ _ _ ⟨rfl, rfl, rfl, rfl, (q543 p_x1 c5 c7 c78 i1 c99 c104 c125 bb_x137 c141 ex145)⟩ (mu_up (q544 p_x1 c5 c7 c78 i1 c99 c104 c125 bb_x137 c141 ex145) (q545 p_x1 c5 c7 c78 i1 c99 c104 c125 bb_x137 c141 ex145))
      · exact hq _ _ hI g0 f0
  · refine m_X9_isTill hI (fun x146 S147 hI2 g148 b_x146 p_x146 => ?_)
    obtain ⟨z_S147, p_x146⟩ := p_x146
    subst z_S147
    intro _ _
    have bb_x146 : x146 = 0 ∨ x146 = 1 := b_x146
    refine ⟨fun c150 => ?_, fun c150 => ?_⟩
    · refine u_X9_off_25 ?_
      refine ⟨o_v0, ?_⟩
      refine u_X9_refusedBy ?_
      refine u_X9_refusedBy_0 ?_
      refine ⟨o_v0, ?_⟩
      intro S151 eS151
      have hI : IV S151 := by rw [eS151]; exact iv_sI hI o_v0 (by decide) (nu_free (by decide))
      have f0 := fr_I eS151 g0 f0 o_v0 (by decide)
      have d_x1 := rd_Is eS151 (rfl : x1 = x1)
      have g0 := gr_I eS151 g0
      have o_v0 := ob_I eS151 o_v0
      refine ⟨fun c152 => ?_, fun c152 => ?_⟩
      · intro _ _
        refine ⟨fun c154 => ?_, fun c154 => ?_⟩
        · obtain ⟨a155, ea155, o_a155, -⟩ := sh 4 rfl hI o_v0
          refine ⟨a155, ea155, ?_⟩
          obtain ⟨a156, ea156, o_a156, -⟩ := sh 1 rfl hI o_v0
          refine ⟨a156, ea156, ?_⟩
          obtain ⟨a157, ea157, o_a157, -⟩ := sh 3 rfl hI o_v0
          refine ⟨a157, ea157, ?_⟩
          refine ⟨o_a155, ?_⟩
          refine m_X7_reckon hI o_a155 o_a156 o_a157 (q546 p_x1 c5 p_x146 bb_x146 c150 c152) (fun S159 hI g160 fc161 => ?_)
          have d_x1 := d_x1.trans (fri_at fc161 (by decide) (by decide) o_v0).symm
          have ea155 := (frr_at fc161 (by decide) (by decide) o_v0).trans ea155
          have ea156 := (frr_at fc161 (by decide) (by decide) o_v0).trans ea156
          have ea157 := (frr_at fc161 (by decide) (by decide) o_v0).trans ea157
          have f0 := fri_tr (S := S151) g0 f0 fc161 (by decide) (by decide)
          have o_a155 := gr_ob g160 o_a155
          have o_a156 := gr_ob g160 o_a156
          have o_a157 := gr_ob g160 o_a157
          have o_v0 := gr_ob g160 o_v0
          have g0 := gr_tr (T := S151) g0 g160
          intro _
          refine i_X9_off_62 (fun (y0 : Nat) (y2 : Int32) (y4 : Int32) (y6 : Int32) (y7 : Int32) (Z : HS) => ((2147483647 : Int32).toInt - y7.toInt).toNat) (fun (y0 : Nat) (y2 : Int32) (y4 : Int32) (y6 : Int32) (y7 : Int32) (Z : HS) => (S159 = Z) ∧ (v0 = y0) ∧ (v2 = y2) ∧ (v4 = y4) ∧ (0 ≤ y7)) ?_ _ _ _ _ _ _ ⟨rfl, rfl, rfl, rfl, (q547 p_x1 c5 p_x146 bb_x146 c150 c152)⟩
          intro w165 w167 w169 w171 w172 S162 X173 ⟨eS162, q166, q168, q170, i1⟩ ih174
          subst q166
          subst q168
          subst q170
          subst eS162
          refine u_X9_off_62 ?_
          refine ⟨fun c175 => ?_, fun c175 => ?_⟩
          · refine ⟨fun c176 => ?_, fun c176 => ?_⟩
            · exact hq _ _ hI g0 f0
            · refine ⟨o_v0, ?_⟩
              refine u_X9_refuse ?_
              refine u_X9_refuse_0 ?_
              refine ⟨o_v0, ?_⟩
              intro S177 eS177
              have hI : IV S177 := by rw [eS177]; exact iv_sI hI o_v0 (by decide) (nu_free (by decide))
              have f0 := fr_I eS177 g0 f0 o_v0 (by decide)
              obtain ⟨y178, hy178⟩ : ∃ z : Int32, z = (6 : Int32) := ⟨_, rfl⟩
              have d_y178 := rd_Is eS177 hy178
              have ea155 := rf_I eS177 ea155
              have ea156 := rf_I eS177 ea156
              have ea157 := rf_I eS177 ea157
              have g0 := gr_I eS177 g0
              have o_a155 := ob_I eS177 o_a155
              have o_a156 := ob_I eS177 o_a156
              have o_a157 := ob_I eS177 o_a157
              have o_v0 := ob_I eS177 o_v0
              intro _
              exact hq _ _ hI g0 f0
          · refine ⟨fun c180 => ?_, fun c180 => ?_⟩
            · refine u_X9_off_99 ?_
              refine u_X9_off_104 ?_
              refine ⟨o_v0, ?_⟩
              refine ⟨a155, ea155, ?_⟩
              refine ⟨o_a155, ?_⟩
              refine m_X7_isOpen hI o_a155 (fun x182 S183 hI2 g184 b_x182 p_x182 => ?_)
              subst p_x182
              intro _ _
              have bb_x182 : x182 = 0 ∨ x182 = 1 := b_x182
              refine ⟨fun c186 => ?_, fun c186 => ?_⟩
              · refine u_X9_off_128 ?_
                intro x187 ex187
                exact ih174 _ _ _ _ _ _ ⟨rfl, rfl, rfl, rfl, (q548 p_x1 c5 p_x146 bb_x146 c150 c152 i1 c175 c180 bb_x182 c186 ex187)⟩ (mu_up (q549 p_x1 c5 p_x146 bb_x146 c150 c152 i1 c175 c180 bb_x182 c186 ex187) (q550 p_x1 c5 p_x146 bb_x146 c150 c152 i1 c175 c180 bb_x182 c186 ex187))
              · refine ⟨fun c188 => ?_, fun c188 => ?_⟩
                · refine u_X9_off_128 ?_
                  intro x189 ex189
                  exact ih174 _ _ _ _ _ _ ⟨rfl, rfl, rfl, rfl, (q551 p_x1 c5 p_x146 bb_x146 c150 c152 i1 c175 c180 bb_x182 c186 c188 ex189)⟩ (mu_up (q552 p_x1 c5 p_x146 bb_x146 c150 c152 i1 c175 c180 bb_x182 c186 c188 ex189) (q553 p_x1 c5 p_x146 bb_x146 c150 c152 i1 c175 c180 bb_x182 c186 c188 ex189))
                · refine u_X9_off_128 ?_
                  intro x190 ex190
                  exact ih174 _ _ _ _ _ _ ⟨rfl, rfl, rfl, rfl, (q554 p_x1 c5 p_x146 bb_x146 c150 c152 i1 c175 c180 bb_x182 c186 ex190)⟩ (mu_up (q555 p_x1 c5 p_x146 bb_x146 c150 c152 i1 c175 c180 bb_x182 c186 ex190) (q556 p_x1 c5 p_x146 bb_x146 c150 c152 i1 c175 c180 bb_x182 c186 ex190))
            · refine ⟨o_v0, ?_⟩
              refine ⟨a155, ea155, ?_⟩
              refine ⟨o_a155, ?_⟩
              refine m_X7_meanFrom hI o_a155 (fun x192 S193 hI2 g194 p_x192 => ?_)
              subst p_x192
              intro _
              refine ⟨a155, ea155, ?_⟩
              refine ⟨o_a155, ?_⟩
              refine m_X7_meanFrom hI o_a155 (fun x197 S198 hI2 g199 p_x197 => ?_)
              subst p_x197
              intro _
              refine ⟨fun c201 => ?_, fun c201 => ?_⟩
              · refine u_X9_off_104 ?_
                refine ⟨o_v0, ?_⟩
                refine ⟨a155, ea155, ?_⟩
                refine ⟨o_a155, ?_⟩
                refine m_X7_isOpen hI o_a155 (fun x203 S204 hI2 g205 b_x203 p_x203 => ?_)
                subst p_x203
                intro _ _
                have bb_x203 : x203 = 0 ∨ x203 = 1 := b_x203
                refine ⟨fun c207 => ?_, fun c207 => ?_⟩
                · refine u_X9_off_128 ?_
                  intro x208 ex208
                  exact ih174 _ _ _ _ _ _ ⟨rfl, rfl, rfl, rfl, (q557 p_x1 c5 p_x146 bb_x146 c150 c152 i1 c175 c180 c201 bb_x203 c207 ex208)⟩ (mu_up (q558 p_x1 c5 p_x146 bb_x146 c150 c152 i1 c175 c180 c201 bb_x203 c207 ex208) (q559 p_x1 c5 p_x146 bb_x146 c150 c152 i1 c175 c180 c201 bb_x203 c207 ex208))
                · refine ⟨fun c209 => ?_, fun c209 => ?_⟩
                  · refine u_X9_off_128 ?_
                    intro x210 ex210
                    exact ih174 _ _ _ _ _ _ ⟨rfl, rfl, rfl, rfl, (q560 p_x1 c5 p_x146 bb_x146 c150 c152 i1 c175 c180 c201 bb_x203 c207 ex210)⟩ (mu_up (q561 p_x1 c5 p_x146 bb_x146 c150 c152 i1 c175 c180 c201 bb_x203 c207 ex210) (q562 p_x1 c5 p_x146 bb_x146 c150 c152 i1 c175 c180 c201 bb_x203 c207 ex210))
                  · refine u_X9_off_128 ?_
                    intro x211 ex211
                    exact ih174 _ _ _ _ _ _ ⟨rfl, rfl, rfl, rfl, (q563 p_x1 c5 p_x146 bb_x146 c150 c152 i1 c175 c180 c201 bb_x203 c207 c209 ex211)⟩ (mu_up (q564 p_x1 c5 p_x146 bb_x146 c150 c152 i1 c175 c180 c201 bb_x203 c207 c209 ex211) (q565 p_x1 c5 p_x146 bb_x146 c150 c152 i1 c175 c180 c201 bb_x203 c207 c209 ex211))
              · refine u_X9_off_99 ?_
                refine u_X9_off_104 ?_
                refine ⟨o_v0, ?_⟩
                refine ⟨a155, ea155, ?_⟩
                refine ⟨o_a155, ?_⟩
                refine m_X7_isOpen hI o_a155 (fun x213 S214 hI2 g215 b_x213 p_x213 => ?_)
                subst p_x213
                intro _ _
                have bb_x213 : x213 = 0 ∨ x213 = 1 := b_x213
                refine ⟨fun c217 => ?_, fun c217 => ?_⟩
                · refine u_X9_off_128 ?_
                  intro x218 ex218
                  exact ih174 _ _ _ _ _ _ ⟨rfl, rfl, rfl, rfl, (q566 p_x1 c5 p_x146 bb_x146 c150 c152 i1 c175 c180 c201 bb_x213 c217 ex218)⟩ (mu_up (q567 p_x1 c5 p_x146 bb_x146 c150 c152 i1 c175 c180 c201 bb_x213 c217 ex218) (q568 p_x1 c5 p_x146 bb_x146 c150 c152 i1 c175 c180 c201 bb_x213 c217 ex218))
                · refine ⟨fun c219 => ?_, fun c219 => ?_⟩
                  · refine u_X9_off_128 ?_
                    intro x220 ex220
                    exact ih174 _ _ _ _ _ _ ⟨rfl, rfl, rfl, rfl, (q569 p_x1 c5 p_x146 bb_x146 c150 c152 i1 c175 c180 c201 bb_x213 c217 c219 ex220)⟩ (mu_up (q570 p_x1 c5 p_x146 bb_x146 c150 c152 i1 c175 c180 c201 bb_x213 c217 c219 ex220) (q571 p_x1 c5 p_x146 bb_x146 c150 c152 i1 c175 c180 c201 bb_x213 c217 c219 ex220))
                  · refine u_X9_off_128 ?_
                    intro x221 ex221
                    exact ih174 _ _ _ _ _ _ ⟨rfl, rfl, rfl, rfl, (q572 p_x1 c5 p_x146 bb_x146 c150 c152 i1 c175 c180 c201 bb_x213 c217 ex221)⟩ (mu_up (q573 p_x1 c5 p_x146 bb_x146 c150 c152 i1 c175 c180 c201 bb_x213 c217 ex221) (q574 p_x1 c5 p_x146 bb_x146 c150 c152 i1 c175 c180 c201 bb_x213 c217 ex221))
        · exact hq _ _ hI g0 f0
      · intro _ _
        refine ⟨fun c223 => ?_, fun c223 => ?_⟩
        · obtain ⟨a224, ea224, o_a224, -⟩ := sh 4 rfl hI o_v0
          refine ⟨a224, ea224, ?_⟩
          obtain ⟨a225, ea225, o_a225, -⟩ := sh 1 rfl hI o_v0
          refine ⟨a225, ea225, ?_⟩
          obtain ⟨a226, ea226, o_a226, -⟩ := sh 3 rfl hI o_v0
          refine ⟨a226, ea226, ?_⟩
          refine ⟨o_a224, ?_⟩
          refine m_X7_reckon hI o_a224 o_a225 o_a226 (q575 p_x1 c5 p_x146 bb_x146 c150 c152 c223) (fun S228 hI g229 fc230 => ?_)
          have d_x1 := d_x1.trans (fri_at fc230 (by decide) (by decide) o_v0).symm
          have ea224 := (frr_at fc230 (by decide) (by decide) o_v0).trans ea224
          have ea225 := (frr_at fc230 (by decide) (by decide) o_v0).trans ea225
          have ea226 := (frr_at fc230 (by decide) (by decide) o_v0).trans ea226
          have f0 := fri_tr (S := S151) g0 f0 fc230 (by decide) (by decide)
          have o_a224 := gr_ob g229 o_a224
          have o_a225 := gr_ob g229 o_a225
          have o_a226 := gr_ob g229 o_a226
          have o_v0 := gr_ob g229 o_v0
          have g0 := gr_tr (T := S151) g0 g229
          intro _
          refine i_X9_off_62 (fun (y0 : Nat) (y2 : Int32) (y4 : Int32) (y6 : Int32) (y7 : Int32) (Z : HS) => ((2147483647 : Int32).toInt - y7.toInt).toNat) (fun (y0 : Nat) (y2 : Int32) (y4 : Int32) (y6 : Int32) (y7 : Int32) (Z : HS) => (S228 = Z) ∧ (v0 = y0) ∧ (v2 = y2) ∧ (v4 = y4) ∧ (0 ≤ y7)) ?_ _ _ _ _ _ _ ⟨rfl, rfl, rfl, rfl, (q576 p_x1 c5 p_x146 bb_x146 c150 c152 c223)⟩
          intro w234 w236 w238 w240 w241 S231 X242 ⟨eS231, q235, q237, q239, i1⟩ ih243
          subst q235
          subst q237
          subst q239
          subst eS231
          refine u_X9_off_62 ?_
          refine ⟨fun c244 => ?_, fun c244 => ?_⟩
          · refine ⟨fun c245 => ?_, fun c245 => ?_⟩
            · exact hq _ _ hI g0 f0
            · refine ⟨o_v0, ?_⟩
              refine u_X9_refuse ?_
              refine u_X9_refuse_0 ?_
              refine ⟨o_v0, ?_⟩
              intro S246 eS246
              have hI : IV S246 := by rw [eS246]; exact iv_sI hI o_v0 (by decide) (nu_free (by decide))
              have f0 := fr_I eS246 g0 f0 o_v0 (by decide)
              obtain ⟨y247, hy247⟩ : ∃ z : Int32, z = (6 : Int32) := ⟨_, rfl⟩
              have d_y247 := rd_Is eS246 hy247
              have ea224 := rf_I eS246 ea224
              have ea225 := rf_I eS246 ea225
              have ea226 := rf_I eS246 ea226
              have g0 := gr_I eS246 g0
              have o_a224 := ob_I eS246 o_a224
              have o_a225 := ob_I eS246 o_a225
              have o_a226 := ob_I eS246 o_a226
              have o_v0 := ob_I eS246 o_v0
              intro _
              exact hq _ _ hI g0 f0
          · refine ⟨fun c249 => ?_, fun c249 => ?_⟩
            · refine u_X9_off_99 ?_
              refine u_X9_off_104 ?_
              refine ⟨o_v0, ?_⟩
              refine ⟨a224, ea224, ?_⟩
              refine ⟨o_a224, ?_⟩
              refine m_X7_isOpen hI o_a224 (fun x251 S252 hI2 g253 b_x251 p_x251 => ?_)
              subst p_x251
              intro _ _
              have bb_x251 : x251 = 0 ∨ x251 = 1 := b_x251
              refine ⟨fun c255 => ?_, fun c255 => ?_⟩
              · refine u_X9_off_128 ?_
                intro x256 ex256
                exact ih243 _ _ _ _ _ _ ⟨rfl, rfl, rfl, rfl, (q577 p_x1 c5 p_x146 bb_x146 c150 c152 c223 i1 c244 c249 bb_x251 c255 ex256)⟩ (mu_up (q578 p_x1 c5 p_x146 bb_x146 c150 c152 c223 i1 c244 c249 bb_x251 c255 ex256) (q579 p_x1 c5 p_x146 bb_x146 c150 c152 c223 i1 c244 c249 bb_x251 c255 ex256))
              · refine ⟨fun c257 => ?_, fun c257 => ?_⟩
                · refine u_X9_off_128 ?_
                  intro x258 ex258
                  exact ih243 _ _ _ _ _ _ ⟨rfl, rfl, rfl, rfl, (q580 p_x1 c5 p_x146 bb_x146 c150 c152 c223 i1 c244 c249 bb_x251 c255 c257 ex258)⟩ (mu_up (q581 p_x1 c5 p_x146 bb_x146 c150 c152 c223 i1 c244 c249 bb_x251 c255 c257 ex258) (q582 p_x1 c5 p_x146 bb_x146 c150 c152 c223 i1 c244 c249 bb_x251 c255 c257 ex258))
                · refine u_X9_off_128 ?_
                  intro x259 ex259
                  exact ih243 _ _ _ _ _ _ ⟨rfl, rfl, rfl, rfl, (q583 p_x1 c5 p_x146 bb_x146 c150 c152 c223 i1 c244 c249 bb_x251 c255 ex259)⟩ (mu_up (q584 p_x1 c5 p_x146 bb_x146 c150 c152 c223 i1 c244 c249 bb_x251 c255 ex259) (q585 p_x1 c5 p_x146 bb_x146 c150 c152 c223 i1 c244 c249 bb_x251 c255 ex259))
            · refine ⟨o_v0, ?_⟩
              refine ⟨a224, ea224, ?_⟩
              refine ⟨o_a224, ?_⟩
              refine m_X7_meanFrom hI o_a224 (fun x261 S262 hI2 g263 p_x261 => ?_)
              subst p_x261
              intro _
              refine ⟨a224, ea224, ?_⟩
              refine ⟨o_a224, ?_⟩
              refine m_X7_meanFrom hI o_a224 (fun x266 S267 hI2 g268 p_x266 => ?_)
              subst p_x266
              intro _
              refine ⟨fun c270 => ?_, fun c270 => ?_⟩
              · refine u_X9_off_104 ?_
                refine ⟨o_v0, ?_⟩
                refine ⟨a224, ea224, ?_⟩
                refine ⟨o_a224, ?_⟩
                refine m_X7_isOpen hI o_a224 (fun x272 S273 hI2 g274 b_x272 p_x272 => ?_)
                subst p_x272
                intro _ _
                have bb_x272 : x272 = 0 ∨ x272 = 1 := b_x272
                refine ⟨fun c276 => ?_, fun c276 => ?_⟩
                · refine u_X9_off_128 ?_
                  intro x277 ex277
                  exact ih243 _ _ _ _ _ _ ⟨rfl, rfl, rfl, rfl, (q586 p_x1 c5 p_x146 bb_x146 c150 c152 c223 i1 c244 c249 c270 bb_x272 c276 ex277)⟩ (mu_up (q587 p_x1 c5 p_x146 bb_x146 c150 c152 c223 i1 c244 c249 c270 bb_x272 c276 ex277) (q588 p_x1 c5 p_x146 bb_x146 c150 c152 c223 i1 c244 c249 c270 bb_x272 c276 ex277))
                · refine ⟨fun c278 => ?_, fun c278 => ?_⟩
                  · refine u_X9_off_128 ?_
                    intro x279 ex279
                    exact ih243 _ _ _ _ _ _ ⟨rfl, rfl, rfl, rfl, (q589 p_x1 c5 p_x146 bb_x146 c150 c152 c223 i1 c244 c249 c270 bb_x272 c276 ex279)⟩ (mu_up (q590 p_x1 c5 p_x146 bb_x146 c150 c152 c223 i1 c244 c249 c270 bb_x272 c276 ex279) (q591 p_x1 c5 p_x146 bb_x146 c150 c152 c223 i1 c244 c249 c270 bb_x272 c276 ex279))
                  · refine u_X9_off_128 ?_
                    intro x280 ex280
                    exact ih243 _ _ _ _ _ _ ⟨rfl, rfl, rfl, rfl, (q592 p_x1 c5 p_x146 bb_x146 c150 c152 c223 i1 c244 c249 c270 bb_x272 c276 c278 ex280)⟩ (mu_up (q593 p_x1 c5 p_x146 bb_x146 c150 c152 c223 i1 c244 c249 c270 bb_x272 c276 c278 ex280) (q594 p_x1 c5 p_x146 bb_x146 c150 c152 c223 i1 c244 c249 c270 bb_x272 c276 c278 ex280))
              · refine u_X9_off_99 ?_
                refine u_X9_off_104 ?_
                refine ⟨o_v0, ?_⟩
                refine ⟨a224, ea224, ?_⟩
                refine ⟨o_a224, ?_⟩
                refine m_X7_isOpen hI o_a224 (fun x282 S283 hI2 g284 b_x282 p_x282 => ?_)
                subst p_x282
                intro _ _
                have bb_x282 : x282 = 0 ∨ x282 = 1 := b_x282
                refine ⟨fun c286 => ?_, fun c286 => ?_⟩
                · refine u_X9_off_128 ?_
                  intro x287 ex287
                  exact ih243 _ _ _ _ _ _ ⟨rfl, rfl, rfl, rfl, (q595 p_x1 c5 p_x146 bb_x146 c150 c152 c223 i1 c244 c249 c270 bb_x282 c286 ex287)⟩ (mu_up (q596 p_x1 c5 p_x146 bb_x146 c150 c152 c223 i1 c244 c249 c270 bb_x282 c286 ex287) (q597 p_x1 c5 p_x146 bb_x146 c150 c152 c223 i1 c244 c249 c270 bb_x282 c286 ex287))
                · refine ⟨fun c288 => ?_, fun c288 => ?_⟩
                  · refine u_X9_off_128 ?_
                    intro x289 ex289
                    exact ih243 _ _ _ _ _ _ ⟨rfl, rfl, rfl, rfl, (q598 p_x1 c5 p_x146 bb_x146 c150 c152 c223 i1 c244 c249 c270 bb_x282 c286 c288 ex289)⟩ (mu_up (q599 p_x1 c5 p_x146 bb_x146 c150 c152 c223 i1 c244 c249 c270 bb_x282 c286 c288 ex289) (q600 p_x1 c5 p_x146 bb_x146 c150 c152 c223 i1 c244 c249 c270 bb_x282 c286 c288 ex289))
                  · refine u_X9_off_128 ?_
                    intro x290 ex290
                    exact ih243 _ _ _ _ _ _ ⟨rfl, rfl, rfl, rfl, (q601 p_x1 c5 p_x146 bb_x146 c150 c152 c223 i1 c244 c249 c270 bb_x282 c286 ex290)⟩ (mu_up (q602 p_x1 c5 p_x146 bb_x146 c150 c152 c223 i1 c244 c249 c270 bb_x282 c286 ex290) (q603 p_x1 c5 p_x146 bb_x146 c150 c152 c223 i1 c244 c249 c270 bb_x282 c286 ex290))
        · exact hq _ _ hI g0 f0
    · refine u_X9_off_25 ?_
      refine ⟨o_v0, ?_⟩
      refine u_X9_refusedBy ?_
      refine u_X9_refusedBy_0 ?_
      refine ⟨o_v0, ?_⟩
      intro S291 eS291
      have hI : IV S291 := by rw [eS291]; exact iv_sI hI o_v0 (by decide) (nu_free (by decide))
      have f0 := fr_I eS291 g0 f0 o_v0 (by decide)
      obtain ⟨y292, hy292⟩ : ∃ z : Int32, z = (2 : Int32) := ⟨_, rfl⟩
      have d_y292 := rd_Is eS291 hy292
      have g0 := gr_I eS291 g0
      have o_v0 := ob_I eS291 o_v0
      refine ⟨fun c293 => ?_, fun c293 => ?_⟩
      · intro _ _
        refine ⟨fun c295 => ?_, fun c295 => ?_⟩
        · obtain ⟨a296, ea296, o_a296, -⟩ := sh 4 rfl hI o_v0
          refine ⟨a296, ea296, ?_⟩
          obtain ⟨a297, ea297, o_a297, -⟩ := sh 1 rfl hI o_v0
          refine ⟨a297, ea297, ?_⟩
          obtain ⟨a298, ea298, o_a298, -⟩ := sh 3 rfl hI o_v0
          refine ⟨a298, ea298, ?_⟩
          refine ⟨o_a296, ?_⟩
          refine m_X7_reckon hI o_a296 o_a297 o_a298 (q604 p_x1 c5 p_x146 bb_x146 c150 c293) (fun S300 hI g301 fc302 => ?_)
          have d_y292 := d_y292.trans (fri_at fc302 (by decide) (by decide) o_v0).symm
          have ea296 := (frr_at fc302 (by decide) (by decide) o_v0).trans ea296
          have ea297 := (frr_at fc302 (by decide) (by decide) o_v0).trans ea297
          have ea298 := (frr_at fc302 (by decide) (by decide) o_v0).trans ea298
          have f0 := fri_tr (S := S291) g0 f0 fc302 (by decide) (by decide)
          have o_a296 := gr_ob g301 o_a296
          have o_a297 := gr_ob g301 o_a297
          have o_a298 := gr_ob g301 o_a298
          have o_v0 := gr_ob g301 o_v0
          have g0 := gr_tr (T := S291) g0 g301
          intro _
          refine i_X9_off_62 (fun (y0 : Nat) (y2 : Int32) (y4 : Int32) (y6 : Int32) (y7 : Int32) (Z : HS) => ((2147483647 : Int32).toInt - y7.toInt).toNat) (fun (y0 : Nat) (y2 : Int32) (y4 : Int32) (y6 : Int32) (y7 : Int32) (Z : HS) => (S300 = Z) ∧ (v0 = y0) ∧ (v2 = y2) ∧ (v4 = y4) ∧ (0 ≤ y7)) ?_ _ _ _ _ _ _ ⟨rfl, rfl, rfl, rfl, (q605 p_x1 c5 p_x146 bb_x146 c150 c293)⟩
          intro w306 w308 w310 w312 w313 S303 X314 ⟨eS303, q307, q309, q311, i1⟩ ih315
          subst q307
          subst q309
          subst q311
          subst eS303
          refine u_X9_off_62 ?_
          refine ⟨fun c316 => ?_, fun c316 => ?_⟩
          · refine ⟨fun c317 => ?_, fun c317 => ?_⟩
            · exact hq _ _ hI g0 f0
            · refine ⟨o_v0, ?_⟩
              refine u_X9_refuse ?_
              refine u_X9_refuse_0 ?_
              refine ⟨o_v0, ?_⟩
              intro S318 eS318
              have hI : IV S318 := by rw [eS318]; exact iv_sI hI o_v0 (by decide) (nu_free (by decide))
              have f0 := fr_I eS318 g0 f0 o_v0 (by decide)
              obtain ⟨y319, hy319⟩ : ∃ z : Int32, z = (6 : Int32) := ⟨_, rfl⟩
              have d_y319 := rd_Is eS318 hy319
              have ea296 := rf_I eS318 ea296
              have ea297 := rf_I eS318 ea297
              have ea298 := rf_I eS318 ea298
              have g0 := gr_I eS318 g0
              have o_a296 := ob_I eS318 o_a296
              have o_a297 := ob_I eS318 o_a297
              have o_a298 := ob_I eS318 o_a298
              have o_v0 := ob_I eS318 o_v0
              intro _
              exact hq _ _ hI g0 f0
          · refine ⟨fun c321 => ?_, fun c321 => ?_⟩
            · refine u_X9_off_99 ?_
              refine u_X9_off_104 ?_
              refine ⟨o_v0, ?_⟩
              refine ⟨a296, ea296, ?_⟩
              refine ⟨o_a296, ?_⟩
              refine m_X7_isOpen hI o_a296 (fun x323 S324 hI2 g325 b_x323 p_x323 => ?_)
              subst p_x323
              intro _ _
              have bb_x323 : x323 = 0 ∨ x323 = 1 := b_x323
              refine ⟨fun c327 => ?_, fun c327 => ?_⟩
              · refine u_X9_off_128 ?_
                intro x328 ex328
                exact ih315 _ _ _ _ _ _ ⟨rfl, rfl, rfl, rfl, (q606 p_x1 c5 p_x146 bb_x146 c150 c293 i1 c316 c321 bb_x323 c327 ex328)⟩ (mu_up (q607 p_x1 c5 p_x146 bb_x146 c150 c293 i1 c316 c321 bb_x323 c327 ex328) (q608 p_x1 c5 p_x146 bb_x146 c150 c293 i1 c316 c321 bb_x323 c327 ex328))
              · refine ⟨fun c329 => ?_, fun c329 => ?_⟩
                · refine u_X9_off_128 ?_
                  intro x330 ex330
                  exact ih315 _ _ _ _ _ _ ⟨rfl, rfl, rfl, rfl, (q609 p_x1 c5 p_x146 bb_x146 c150 c293 i1 c316 c321 bb_x323 c327 c329 ex330)⟩ (mu_up (q610 p_x1 c5 p_x146 bb_x146 c150 c293 i1 c316 c321 bb_x323 c327 c329 ex330) (q611 p_x1 c5 p_x146 bb_x146 c150 c293 i1 c316 c321 bb_x323 c327 c329 ex330))
                · refine u_X9_off_128 ?_
                  intro x331 ex331
                  exact ih315 _ _ _ _ _ _ ⟨rfl, rfl, rfl, rfl, (q612 p_x1 c5 p_x146 bb_x146 c150 c293 i1 c316 c321 bb_x323 c327 ex331)⟩ (mu_up (q613 p_x1 c5 p_x146 bb_x146 c150 c293 i1 c316 c321 bb_x323 c327 ex331) (q614 p_x1 c5 p_x146 bb_x146 c150 c293 i1 c316 c321 bb_x323 c327 ex331))
            · refine ⟨o_v0, ?_⟩
              refine ⟨a296, ea296, ?_⟩
              refine ⟨o_a296, ?_⟩
              refine m_X7_meanFrom hI o_a296 (fun x333 S334 hI2 g335 p_x333 => ?_)
              subst p_x333
              intro _
              refine ⟨a296, ea296, ?_⟩
              refine ⟨o_a296, ?_⟩
              refine m_X7_meanFrom hI o_a296 (fun x338 S339 hI2 g340 p_x338 => ?_)
              subst p_x338
              intro _
              refine ⟨fun c342 => ?_, fun c342 => ?_⟩
              · refine u_X9_off_104 ?_
                refine ⟨o_v0, ?_⟩
                refine ⟨a296, ea296, ?_⟩
                refine ⟨o_a296, ?_⟩
                refine m_X7_isOpen hI o_a296 (fun x344 S345 hI2 g346 b_x344 p_x344 => ?_)
                subst p_x344
                intro _ _
                have bb_x344 : x344 = 0 ∨ x344 = 1 := b_x344
                refine ⟨fun c348 => ?_, fun c348 => ?_⟩
                · refine u_X9_off_128 ?_
                  intro x349 ex349
                  exact ih315 _ _ _ _ _ _ ⟨rfl, rfl, rfl, rfl, (q615 p_x1 c5 p_x146 bb_x146 c150 c293 i1 c316 c321 c342 bb_x344 c348 ex349)⟩ (mu_up (q616 p_x1 c5 p_x146 bb_x146 c150 c293 i1 c316 c321 c342 bb_x344 c348 ex349) (q617 p_x1 c5 p_x146 bb_x146 c150 c293 i1 c316 c321 c342 bb_x344 c348 ex349))
                · refine ⟨fun c350 => ?_, fun c350 => ?_⟩
                  · refine u_X9_off_128 ?_
                    intro x351 ex351
                    exact ih315 _ _ _ _ _ _ ⟨rfl, rfl, rfl, rfl, (q618 p_x1 c5 p_x146 bb_x146 c150 c293 i1 c316 c321 c342 bb_x344 c348 ex351)⟩ (mu_up (q619 p_x1 c5 p_x146 bb_x146 c150 c293 i1 c316 c321 c342 bb_x344 c348 ex351) (q620 p_x1 c5 p_x146 bb_x146 c150 c293 i1 c316 c321 c342 bb_x344 c348 ex351))
                  · refine u_X9_off_128 ?_
                    intro x352 ex352
                    exact ih315 _ _ _ _ _ _ ⟨rfl, rfl, rfl, rfl, (q621 p_x1 c5 p_x146 bb_x146 c150 c293 i1 c316 c321 c342 bb_x344 c348 c350 ex352)⟩ (mu_up (q622 p_x1 c5 p_x146 bb_x146 c150 c293 i1 c316 c321 c342 bb_x344 c348 c350 ex352) (q623 p_x1 c5 p_x146 bb_x146 c150 c293 i1 c316 c321 c342 bb_x344 c348 c350 ex352))
              · refine u_X9_off_99 ?_
                refine u_X9_off_104 ?_
                refine ⟨o_v0, ?_⟩
                refine ⟨a296, ea296, ?_⟩
                refine ⟨o_a296, ?_⟩
                refine m_X7_isOpen hI o_a296 (fun x354 S355 hI2 g356 b_x354 p_x354 => ?_)
                subst p_x354
                intro _ _
                have bb_x354 : x354 = 0 ∨ x354 = 1 := b_x354
                refine ⟨fun c358 => ?_, fun c358 => ?_⟩
                · refine u_X9_off_128 ?_
                  intro x359 ex359
                  exact ih315 _ _ _ _ _ _ ⟨rfl, rfl, rfl, rfl, (q624 p_x1 c5 p_x146 bb_x146 c150 c293 i1 c316 c321 c342 bb_x354 c358 ex359)⟩ (mu_up (q625 p_x1 c5 p_x146 bb_x146 c150 c293 i1 c316 c321 c342 bb_x354 c358 ex359) (q626 p_x1 c5 p_x146 bb_x146 c150 c293 i1 c316 c321 c342 bb_x354 c358 ex359))
                · refine ⟨fun c360 => ?_, fun c360 => ?_⟩
                  · refine u_X9_off_128 ?_
                    intro x361 ex361
                    exact ih315 _ _ _ _ _ _ ⟨rfl, rfl, rfl, rfl, (q627 p_x1 c5 p_x146 bb_x146 c150 c293 i1 c316 c321 c342 bb_x354 c358 c360 ex361)⟩ (mu_up (q628 p_x1 c5 p_x146 bb_x146 c150 c293 i1 c316 c321 c342 bb_x354 c358 c360 ex361) (q629 p_x1 c5 p_x146 bb_x146 c150 c293 i1 c316 c321 c342 bb_x354 c358 c360 ex361))
                  · refine u_X9_off_128 ?_
                    intro x362 ex362
                    exact ih315 _ _ _ _ _ _ ⟨rfl, rfl, rfl, rfl, (q630 p_x1 c5 p_x146 bb_x146 c150 c293 i1 c316 c321 c342 bb_x354 c358 ex362)⟩ (mu_up (q631 p_x1 c5 p_x146 bb_x146 c150 c293 i1 c316 c321 c342 bb_x354 c358 ex362) (q632 p_x1 c5 p_x146 bb_x146 c150 c293 i1 c316 c321 c342 bb_x354 c358 ex362))
        · exact hq _ _ hI g0 f0
      · intro _ _
        refine ⟨fun c364 => ?_, fun c364 => ?_⟩
        · obtain ⟨a365, ea365, o_a365, -⟩ := sh 4 rfl hI o_v0
          refine ⟨a365, ea365, ?_⟩
          obtain ⟨a366, ea366, o_a366, -⟩ := sh 1 rfl hI o_v0
          refine ⟨a366, ea366, ?_⟩
          obtain ⟨a367, ea367, o_a367, -⟩ := sh 3 rfl hI o_v0
          refine ⟨a367, ea367, ?_⟩
          refine ⟨o_a365, ?_⟩
          refine m_X7_reckon hI o_a365 o_a366 o_a367 (q633 p_x1 c5 p_x146 bb_x146 c150 c293 c364) (fun S369 hI g370 fc371 => ?_)
          have d_y292 := d_y292.trans (fri_at fc371 (by decide) (by decide) o_v0).symm
          have ea365 := (frr_at fc371 (by decide) (by decide) o_v0).trans ea365
          have ea366 := (frr_at fc371 (by decide) (by decide) o_v0).trans ea366
          have ea367 := (frr_at fc371 (by decide) (by decide) o_v0).trans ea367
          have f0 := fri_tr (S := S291) g0 f0 fc371 (by decide) (by decide)
          have o_a365 := gr_ob g370 o_a365
          have o_a366 := gr_ob g370 o_a366
          have o_a367 := gr_ob g370 o_a367
          have o_v0 := gr_ob g370 o_v0
          have g0 := gr_tr (T := S291) g0 g370
          intro _
          refine i_X9_off_62 (fun (y0 : Nat) (y2 : Int32) (y4 : Int32) (y6 : Int32) (y7 : Int32) (Z : HS) => ((2147483647 : Int32).toInt - y7.toInt).toNat) (fun (y0 : Nat) (y2 : Int32) (y4 : Int32) (y6 : Int32) (y7 : Int32) (Z : HS) => (S369 = Z) ∧ (v0 = y0) ∧ (v2 = y2) ∧ (v4 = y4) ∧ (0 ≤ y7)) ?_ _ _ _ _ _ _ ⟨rfl, rfl, rfl, rfl, (q634 p_x1 c5 p_x146 bb_x146 c150 c293 c364)⟩
          intro w375 w377 w379 w381 w382 S372 X383 ⟨eS372, q376, q378, q380, i1⟩ ih384
          subst q376
          subst q378
          subst q380
          subst eS372
          refine u_X9_off_62 ?_
          refine ⟨fun c385 => ?_, fun c385 => ?_⟩
          · refine ⟨fun c386 => ?_, fun c386 => ?_⟩
            · exact hq _ _ hI g0 f0
            · refine ⟨o_v0, ?_⟩
              refine u_X9_refuse ?_
              refine u_X9_refuse_0 ?_
              refine ⟨o_v0, ?_⟩
              intro S387 eS387
              have hI : IV S387 := by rw [eS387]; exact iv_sI hI o_v0 (by decide) (nu_free (by decide))
              have f0 := fr_I eS387 g0 f0 o_v0 (by decide)
              obtain ⟨y388, hy388⟩ : ∃ z : Int32, z = (6 : Int32) := ⟨_, rfl⟩
              have d_y388 := rd_Is eS387 hy388
              have ea365 := rf_I eS387 ea365
              have ea366 := rf_I eS387 ea366
              have ea367 := rf_I eS387 ea367
              have g0 := gr_I eS387 g0
              have o_a365 := ob_I eS387 o_a365
              have o_a366 := ob_I eS387 o_a366
              have o_a367 := ob_I eS387 o_a367
              have o_v0 := ob_I eS387 o_v0
              intro _
              exact hq _ _ hI g0 f0
          · refine ⟨fun c390 => ?_, fun c390 => ?_⟩
            · refine u_X9_off_99 ?_
              refine u_X9_off_104 ?_
              refine ⟨o_v0, ?_⟩
              refine ⟨a365, ea365, ?_⟩
              refine ⟨o_a365, ?_⟩
              refine m_X7_isOpen hI o_a365 (fun x392 S393 hI2 g394 b_x392 p_x392 => ?_)
              subst p_x392
              intro _ _
              have bb_x392 : x392 = 0 ∨ x392 = 1 := b_x392
              refine ⟨fun c396 => ?_, fun c396 => ?_⟩
              · refine u_X9_off_128 ?_
                intro x397 ex397
                exact ih384 _ _ _ _ _ _ ⟨rfl, rfl, rfl, rfl, (q635 p_x1 c5 p_x146 bb_x146 c150 c293 c364 i1 c385 c390 bb_x392 c396 ex397)⟩ (mu_up (q636 p_x1 c5 p_x146 bb_x146 c150 c293 c364 i1 c385 c390 bb_x392 c396 ex397) (q637 p_x1 c5 p_x146 bb_x146 c150 c293 c364 i1 c385 c390 bb_x392 c396 ex397))
              · refine ⟨fun c398 => ?_, fun c398 => ?_⟩
                · refine u_X9_off_128 ?_
                  intro x399 ex399
                  exact ih384 _ _ _ _ _ _ ⟨rfl, rfl, rfl, rfl, (q638 p_x1 c5 p_x146 bb_x146 c150 c293 c364 i1 c385 c390 bb_x392 c396 c398 ex399)⟩ (mu_up (q639 p_x1 c5 p_x146 bb_x146 c150 c293 c364 i1 c385 c390 bb_x392 c396 c398 ex399) (q640 p_x1 c5 p_x146 bb_x146 c150 c293 c364 i1 c385 c390 bb_x392 c396 c398 ex399))
                · refine u_X9_off_128 ?_
                  intro x400 ex400
                  exact ih384 _ _ _ _ _ _ ⟨rfl, rfl, rfl, rfl, (q641 p_x1 c5 p_x146 bb_x146 c150 c293 c364 i1 c385 c390 bb_x392 c396 ex400)⟩ (mu_up (q642 p_x1 c5 p_x146 bb_x146 c150 c293 c364 i1 c385 c390 bb_x392 c396 ex400) (q643 p_x1 c5 p_x146 bb_x146 c150 c293 c364 i1 c385 c390 bb_x392 c396 ex400))
            · refine ⟨o_v0, ?_⟩
              refine ⟨a365, ea365, ?_⟩
              refine ⟨o_a365, ?_⟩
              refine m_X7_meanFrom hI o_a365 (fun x402 S403 hI2 g404 p_x402 => ?_)
              subst p_x402
              intro _
              refine ⟨a365, ea365, ?_⟩
              refine ⟨o_a365, ?_⟩
              refine m_X7_meanFrom hI o_a365 (fun x407 S408 hI2 g409 p_x407 => ?_)
              subst p_x407
              intro _
              refine ⟨fun c411 => ?_, fun c411 => ?_⟩
              · refine u_X9_off_104 ?_
                refine ⟨o_v0, ?_⟩
                refine ⟨a365, ea365, ?_⟩
                refine ⟨o_a365, ?_⟩
                refine m_X7_isOpen hI o_a365 (fun x413 S414 hI2 g415 b_x413 p_x413 => ?_)
                subst p_x413
                intro _ _
                have bb_x413 : x413 = 0 ∨ x413 = 1 := b_x413
                refine ⟨fun c417 => ?_, fun c417 => ?_⟩
                · refine u_X9_off_128 ?_
                  intro x418 ex418
                  exact ih384 _ _ _ _ _ _ ⟨rfl, rfl, rfl, rfl, (q644 p_x1 c5 p_x146 bb_x146 c150 c293 c364 i1 c385 c390 c411 bb_x413 c417 ex418)⟩ (mu_up (q645 p_x1 c5 p_x146 bb_x146 c150 c293 c364 i1 c385 c390 c411 bb_x413 c417 ex418) (q646 p_x1 c5 p_x146 bb_x146 c150 c293 c364 i1 c385 c390 c411 bb_x413 c417 ex418))
                · refine ⟨fun c419 => ?_, fun c419 => ?_⟩
                  · refine u_X9_off_128 ?_
                    intro x420 ex420
                    exact ih384 _ _ _ _ _ _ ⟨rfl, rfl, rfl, rfl, (q647 p_x1 c5 p_x146 bb_x146 c150 c293 c364 i1 c385 c390 c411 bb_x413 c417 ex420)⟩ (mu_up (q648 p_x1 c5 p_x146 bb_x146 c150 c293 c364 i1 c385 c390 c411 bb_x413 c417 ex420) (q649 p_x1 c5 p_x146 bb_x146 c150 c293 c364 i1 c385 c390 c411 bb_x413 c417 ex420))
                  · refine u_X9_off_128 ?_
                    intro x421 ex421
                    exact ih384 _ _ _ _ _ _ ⟨rfl, rfl, rfl, rfl, (q650 p_x1 c5 p_x146 bb_x146 c150 c293 c364 i1 c385 c390 c411 bb_x413 c417 c419 ex421)⟩ (mu_up (q651 p_x1 c5 p_x146 bb_x146 c150 c293 c364 i1 c385 c390 c411 bb_x413 c417 c419 ex421) (q652 p_x1 c5 p_x146 bb_x146 c150 c293 c364 i1 c385 c390 c411 bb_x413 c417 c419 ex421))
              · refine u_X9_off_99 ?_
                refine u_X9_off_104 ?_
                refine ⟨o_v0, ?_⟩
                refine ⟨a365, ea365, ?_⟩
                refine ⟨o_a365, ?_⟩
                refine m_X7_isOpen hI o_a365 (fun x423 S424 hI2 g425 b_x423 p_x423 => ?_)
                subst p_x423
                intro _ _
                have bb_x423 : x423 = 0 ∨ x423 = 1 := b_x423
                refine ⟨fun c427 => ?_, fun c427 => ?_⟩
                · refine u_X9_off_128 ?_
                  intro x428 ex428
                  exact ih384 _ _ _ _ _ _ ⟨rfl, rfl, rfl, rfl, (q653 p_x1 c5 p_x146 bb_x146 c150 c293 c364 i1 c385 c390 c411 bb_x423 c427 ex428)⟩ (mu_up (q654 p_x1 c5 p_x146 bb_x146 c150 c293 c364 i1 c385 c390 c411 bb_x423 c427 ex428) (q655 p_x1 c5 p_x146 bb_x146 c150 c293 c364 i1 c385 c390 c411 bb_x423 c427 ex428))
                · refine ⟨fun c429 => ?_, fun c429 => ?_⟩
                  · refine u_X9_off_128 ?_
                    intro x430 ex430
                    exact ih384 _ _ _ _ _ _ ⟨rfl, rfl, rfl, rfl, (q656 p_x1 c5 p_x146 bb_x146 c150 c293 c364 i1 c385 c390 c411 bb_x423 c427 c429 ex430)⟩ (mu_up (q657 p_x1 c5 p_x146 bb_x146 c150 c293 c364 i1 c385 c390 c411 bb_x423 c427 c429 ex430) (q658 p_x1 c5 p_x146 bb_x146 c150 c293 c364 i1 c385 c390 c411 bb_x423 c427 c429 ex430))
                  · refine u_X9_off_128 ?_
                    intro x431 ex431
                    exact ih384 _ _ _ _ _ _ ⟨rfl, rfl, rfl, rfl, (q659 p_x1 c5 p_x146 bb_x146 c150 c293 c364 i1 c385 c390 c411 bb_x423 c427 ex431)⟩ (mu_up (q660 p_x1 c5 p_x146 bb_x146 c150 c293 c364 i1 c385 c390 c411 bb_x423 c427 ex431) (q661 p_x1 c5 p_x146 bb_x146 c150 c293 c364 i1 c385 c390 c411 bb_x423 c427 ex431))
        · exact hq _ _ hI g0 f0
