set_option maxHeartbeats 4000000 in
set_option maxRecDepth 20000 in
theorem m_X9_minutes {v0 : Nat} {v1 : Int32} {v2 : Int32} {v3 : Int32} {Q : Int32 → HS → Prop} {S : HS} (hI : IV S) (o_v0 : ob S v0 9)     (hq : ∀ (r : Int32) (T : HS), IV T → Gr S T → FRI [(9, 9)] [] S T → Q r T) : P_X9_minutes v0 v1 v2 v3 Q S := by
  have g0 := gr_rf S
  have f0 := fri_rf [(9, 9)] [] S
  refine u_X9_minutes ?_
  refine u_X9_minutes_0 ?_
  refine ⟨o_v0, ?_⟩
  obtain ⟨a1, ea1, o_a1, -⟩ := sh 1 rfl hI o_v0
  refine ⟨a1, ea1, ?_⟩
  refine ⟨o_a1, ?_⟩
  refine m_X8_hasWalker hI o_a1 (fun x2 S3 hI2 g4 b_x2 p_x2 => ?_)
  obtain ⟨z_S3, p_x2⟩ := p_x2
  subst z_S3
  intro _ _
  have bb_x2 : x2 = 0 ∨ x2 = 1 := b_x2
  refine ⟨fun c6 => ?_, fun c6 => ?_⟩
  · refine u_X9_minutes_22 ?_
    refine ⟨o_v0, ?_⟩
    refine u_X9_refuse ?_
    refine u_X9_refuse_0 ?_
    refine ⟨o_v0, ?_⟩
    intro S7 eS7
    have hI : IV S7 := by rw [eS7]; exact iv_sI hI o_v0 (by decide) (nu_free (by decide))
    have f0 := fr_I eS7 g0 f0 o_v0 (by decide)
    obtain ⟨y8, hy8⟩ : ∃ z : Int32, z = (1 : Int32) := ⟨_, rfl⟩
    have d_y8 := rd_Is eS7 hy8
    have ea1 := rf_I eS7 ea1
    have g0 := gr_I eS7 g0
    have o_a1 := ob_I eS7 o_a1
    have o_v0 := ob_I eS7 o_v0
    intro _
    exact hq _ _ hI g0 f0
  · refine ⟨a1, ea1, ?_⟩
    refine ⟨o_a1, ?_⟩
    refine m_X8_hasRoad hI o_a1 (fun x11 S12 hI2 g13 b_x11 p_x11 => ?_)
    obtain ⟨z_S12, p_x11⟩ := p_x11
    subst z_S12
    intro _ _
    have bb_x11 : x11 = 0 ∨ x11 = 1 := b_x11
    refine ⟨fun c15 => ?_, fun c15 => ?_⟩
    · refine ⟨a1, ea1, ?_⟩
      refine ⟨o_a1, ?_⟩
      obtain ⟨a17, ea17, o_a17, l_a17⟩ := shl 18 rfl hI o_a1
      refine ⟨a17, ea17, ?_⟩
      refine ⟨o_a17, ?_⟩
      have i19 : vp_in v1 (hN _ a17) := (vin l_a17 (m := 4) (by decide) (q1307 p_x2 bb_x2 c6 p_x11 bb_x11 c15))
      obtain ⟨a18, ea18, o_a18⟩ := ae hI o_a17 (by decide) (by decide) i19
      replace o_a18 : ob _ a18 6 := o_a18
      refine ⟨i19, a18, ea18, ?_⟩
      refine ⟨o_a18, ?_⟩
      refine m_X6_canGo hI o_a18 (fun x20 S21 hI2 g22 b_x20 p_x20 => ?_)
      subst p_x20
      intro _ _
      have bb_x20 : x20 = 0 ∨ x20 = 1 := b_x20
      refine ⟨fun c24 => ?_, fun c24 => ?_⟩
      · refine ⟨a1, ea1, ?_⟩
        refine ⟨o_a1, ?_⟩
        obtain ⟨a26, ea26, o_a26, l_a26⟩ := shl 17 rfl hI o_a1
        refine ⟨a26, ea26, ?_⟩
        refine ⟨o_a26, ?_⟩
        have i28 : vp_in v2 (hN _ a26) := (vin l_a26 (m := 12) (by decide) (q1308 p_x2 bb_x2 c6 p_x11 bb_x11 c15 bb_x20 c24))
        obtain ⟨a27, ea27, o_a27⟩ := ae hI o_a26 (by decide) (by decide) i28
        replace o_a27 : ob _ a27 5 := o_a27
        refine ⟨i28, a27, ea27, ?_⟩
        refine ⟨o_a27, ?_⟩
        refine m_X5_minutesAt hI o_a27 (fun x29 S30 hI2 g31 p_x29 => ?_)
        subst p_x29
        intro _
        refine u_X9_grant ?_
        refine u_X9_grant_0 ?_
        refine ⟨o_v0, ?_⟩
        intro S33 eS33
        have hI : IV S33 := by rw [eS33]; exact iv_sI hI o_v0 (by decide) (nu_free (by decide))
        have f0 := fr_I eS33 g0 f0 o_v0 (by decide)
        obtain ⟨y34, hy34⟩ : ∃ z : Int32, z = (0 : Int32) := ⟨_, rfl⟩
        have d_y34 := rd_Is eS33 hy34
        have ea1 := rf_I eS33 ea1
        have ea17 := rf_I eS33 ea17
        have ea26 := rf_I eS33 ea26
        have l_a17 := ln_I eS33 l_a17
        have l_a26 := ln_I eS33 l_a26
        have g0 := gr_I eS33 g0
        have o_a1 := ob_I eS33 o_a1
        have o_a17 := ob_I eS33 o_a17
        have o_a18 := ob_I eS33 o_a18
        have o_a26 := ob_I eS33 o_a26
        have o_a27 := ob_I eS33 o_a27
        have o_v0 := ob_I eS33 o_v0
        intro _
        exact hq _ _ hI g0 f0
      · refine u_X9_refuse ?_
        refine u_X9_refuse_0 ?_
        refine ⟨o_v0, ?_⟩
        intro S36 eS36
        have hI : IV S36 := by rw [eS36]; exact iv_sI hI o_v0 (by decide) (nu_free (by decide))
        have f0 := fr_I eS36 g0 f0 o_v0 (by decide)
        obtain ⟨y37, hy37⟩ : ∃ z : Int32, z = (2 : Int32) := ⟨_, rfl⟩
        have d_y37 := rd_Is eS36 hy37
        have ea1 := rf_I eS36 ea1
        have ea17 := rf_I eS36 ea17
        have l_a17 := ln_I eS36 l_a17
        have g0 := gr_I eS36 g0
        have o_a1 := ob_I eS36 o_a1
        have o_a17 := ob_I eS36 o_a17
        have o_a18 := ob_I eS36 o_a18
        have o_v0 := ob_I eS36 o_v0
        intro _
        exact hq _ _ hI g0 f0
    · refine u_X9_minutes_22 ?_
      refine ⟨o_v0, ?_⟩
      refine u_X9_refuse ?_
      refine u_X9_refuse_0 ?_
      refine ⟨o_v0, ?_⟩
      intro S39 eS39
      have hI : IV S39 := by rw [eS39]; exact iv_sI hI o_v0 (by decide) (nu_free (by decide))
      have f0 := fr_I eS39 g0 f0 o_v0 (by decide)
      obtain ⟨y40, hy40⟩ : ∃ z : Int32, z = (1 : Int32) := ⟨_, rfl⟩
      have d_y40 := rd_Is eS39 hy40
      have ea1 := rf_I eS39 ea1
      have g0 := gr_I eS39 g0
      have o_a1 := ob_I eS39 o_a1
      have o_v0 := ob_I eS39 o_v0
      intro _
      exact hq _ _ hI g0 f0
set_option maxHeartbeats 4000000 in
set_option maxRecDepth 20000 in
theorem m_X9_off {v0 : Nat} {v1 : Int32} {v2 : Int32} {v3 : Int32} {v4 : Int32} {Q : Int32 → HS → Prop} {S : HS} (hI : IV S) (o_v0 : ob S v0 9)     (hq : ∀ (r : Int32) (T : HS), IV T → Gr S T → FRI [(7, 3), (7, 9), (7, 10), (7, 11), (7, 12), (7, 13), (9, 9)] [(7, 0), (7, 1), (7, 2), (7, 4), (7, 5), (7, 6), (7, 7), (7, 8)] S T → Q r T) : P_X9_off v0 v1 v2 v3 v4 Q S := by
  have g0 := gr_rf S
  have f0 := fri_rf [(7, 3), (7, 9), (7, 10), (7, 11), (7, 12), (7, 13), (9, 9)] [(7, 0), (7, 1), (7, 2), (7, 4), (7, 5), (7, 6), (7, 7), (7, 8)] S
  refine u_X9_off ?_
  refine u_X9_off_0 ?_
  refine ⟨o_v0, ?_⟩
  refine m_X9_placesTrouble hI o_v0 (fun x1 S2 hI2 g3 p_x1 => ?_)
  obtain ⟨z_S2, p_x1⟩ := p_x1
  subst z_S2
  intro _
  refine ⟨fun c5 => ?_, fun c5 => ?_⟩
  · refine u_X9_off_25 ?_
    refine ⟨o_v0, ?_⟩
    refine u_X9_refusedBy ?_
    refine u_X9_refusedBy_0 ?_
    refine ⟨o_v0, ?_⟩
    intro S6 eS6
    have hI : IV S6 := by rw [eS6]; exact iv_sI hI o_v0 (by decide) (nu_free (by decide))
    have f0 := fr_I eS6 g0 f0 o_v0 (by decide)
    have d_x1 := rd_Is eS6 (rfl : x1 = x1)
    have g0 := gr_I eS6 g0
    have o_v0 := ob_I eS6 o_v0
    refine ⟨fun c7 => ?_, fun c7 => ?_⟩
    · intro _ _
      refine ⟨fun c9 => ?_, fun c9 => ?_⟩
      · obtain ⟨a10, ea10, o_a10, -⟩ := sh 4 rfl hI o_v0
        refine ⟨a10, ea10, ?_⟩
        obtain ⟨a11, ea11, o_a11, -⟩ := sh 1 rfl hI o_v0
        refine ⟨a11, ea11, ?_⟩
        obtain ⟨a12, ea12, o_a12, -⟩ := sh 3 rfl hI o_v0
        refine ⟨a12, ea12, ?_⟩
        refine ⟨o_a10, ?_⟩
        refine m_X7_reckon hI o_a10 o_a11 o_a12 (q1133 p_x1 c5 c7) (fun S14 hJ g15 fc16 => ?_)
        have hI := hJ
        have d_x1 := d_x1.trans (fri_at fc16 (by decide) (by decide) o_v0).symm
        have ea10 := (frr_at fc16 (by decide) (by decide) o_v0).trans ea10
        have ea11 := (frr_at fc16 (by decide) (by decide) o_v0).trans ea11
        have ea12 := (frr_at fc16 (by decide) (by decide) o_v0).trans ea12
        have f0 := fri_tr (S := S6) g0 f0 fc16 (by decide) (by decide)
        have o_a10 := gr_ob g15 o_a10
        have o_a11 := gr_ob g15 o_a11
        have o_a12 := gr_ob g15 o_a12
        have o_v0 := gr_ob g15 o_v0
        have g0 := gr_tr (T := S6) g0 g15
        intro _
        refine i_X9_off_62 (fun (y0 : Nat) (y2 : Int32) (y4 : Int32) (y6 : Int32) (y7 : Int32) (Z : HS) => ((2147483647 : Int32).toInt - y7.toInt).toNat) (fun (y0 : Nat) (y2 : Int32) (y4 : Int32) (y6 : Int32) (y7 : Int32) (Z : HS) => (S14 = Z) ∧ (v0 = y0) ∧ (v2 = y2) ∧ (v4 = y4) ∧ (0 ≤ y7)) ?_ _ _ _ _ _ _ ⟨rfl, rfl, rfl, rfl, (q1134 p_x1 c5 c7)⟩
        intro w21 w23 w25 w27 w28 S18 X29 ⟨eS18, q22, q24, q26, i1u17⟩ ih30
        subst q22
        subst q24
        subst q26
        subst eS18
        refine u_X9_off_62 ?_
        refine ⟨fun c31 => ?_, fun c31 => ?_⟩
        · refine ⟨fun c32 => ?_, fun c32 => ?_⟩
          · exact hq _ _ hI g0 f0
          · refine ⟨o_v0, ?_⟩
            refine u_X9_refuse ?_
            refine u_X9_refuse_0 ?_
            refine ⟨o_v0, ?_⟩
            intro S33 eS33
            have hI : IV S33 := by rw [eS33]; exact iv_sI hI o_v0 (by decide) (nu_free (by decide))
            have f0 := fr_I eS33 g0 f0 o_v0 (by decide)
            obtain ⟨y34, hy34⟩ : ∃ z : Int32, z = (6 : Int32) := ⟨_, rfl⟩
            have d_y34 := rd_Is eS33 hy34
            have ea10 := rf_I eS33 ea10
            have ea11 := rf_I eS33 ea11
            have ea12 := rf_I eS33 ea12
            have g0 := gr_I eS33 g0
            have o_a10 := ob_I eS33 o_a10
            have o_a11 := ob_I eS33 o_a11
            have o_a12 := ob_I eS33 o_a12
            have o_v0 := ob_I eS33 o_v0
            intro _
            exact hq _ _ hI g0 f0
        · refine ⟨fun c36 => ?_, fun c36 => ?_⟩
          · refine u_X9_off_99 ?_
            refine u_X9_off_104 ?_
            refine ⟨o_v0, ?_⟩
            refine ⟨a10, ea10, ?_⟩
            refine ⟨o_a10, ?_⟩
            refine m_X7_isOpen hI o_a10 (fun x38 S39 hI2 g40 b_x38 p_x38 => ?_)
            subst p_x38
            intro _ _
            have bb_x38 : x38 = 0 ∨ x38 = 1 := b_x38
            refine ⟨fun c42 => ?_, fun c42 => ?_⟩
            · refine u_X9_off_128 ?_
              intro x43 ex43
              exact ih30 _ _ _ _ _ _ ⟨rfl, rfl, rfl, rfl, (q1135 p_x1 c5 c7 i1u17 c31 c36 bb_x38 c42 ex43)⟩ (mu_up (q1136 p_x1 c5 c7 i1u17 c31 c36 bb_x38 c42 ex43) (q1137 p_x1 c5 c7 i1u17 c31 c36 bb_x38 c42 ex43))
            · refine ⟨fun c44 => ?_, fun c44 => ?_⟩
              · refine u_X9_off_128 ?_
                intro x45 ex45
                exact ih30 _ _ _ _ _ _ ⟨rfl, rfl, rfl, rfl, (q1138 p_x1 c5 c7 i1u17 c31 c36 bb_x38 c42 c44 ex45)⟩ (mu_up (q1139 p_x1 c5 c7 i1u17 c31 c36 bb_x38 c42 c44 ex45) (q1140 p_x1 c5 c7 i1u17 c31 c36 bb_x38 c42 c44 ex45))
              · refine u_X9_off_128 ?_
                intro x46 ex46
                exact ih30 _ _ _ _ _ _ ⟨rfl, rfl, rfl, rfl, (q1141 p_x1 c5 c7 i1u17 c31 c36 bb_x38 c42 ex46)⟩ (mu_up (q1142 p_x1 c5 c7 i1u17 c31 c36 bb_x38 c42 ex46) (q1143 p_x1 c5 c7 i1u17 c31 c36 bb_x38 c42 ex46))
          · refine ⟨o_v0, ?_⟩
            refine ⟨a10, ea10, ?_⟩
            refine ⟨o_a10, ?_⟩
            refine m_X7_meanFrom hI o_a10 (fun x48 S49 hI2 g50 p_x48 => ?_)
            subst p_x48
            intro _
            refine ⟨a10, ea10, ?_⟩
            refine ⟨o_a10, ?_⟩
            refine m_X7_meanFrom hI o_a10 (fun x53 S54 hI2 g55 p_x53 => ?_)
            subst p_x53
            intro _
            refine ⟨fun c57 => ?_, fun c57 => ?_⟩
            · refine u_X9_off_104 ?_
              refine ⟨o_v0, ?_⟩
              refine ⟨a10, ea10, ?_⟩
              refine ⟨o_a10, ?_⟩
              refine m_X7_isOpen hI o_a10 (fun x59 S60 hI2 g61 b_x59 p_x59 => ?_)
              subst p_x59
              intro _ _
              have bb_x59 : x59 = 0 ∨ x59 = 1 := b_x59
              refine ⟨fun c63 => ?_, fun c63 => ?_⟩
              · refine u_X9_off_128 ?_
                intro x64 ex64
                exact ih30 _ _ _ _ _ _ ⟨rfl, rfl, rfl, rfl, (q1144 p_x1 c5 c7 i1u17 c31 c36 c57 bb_x59 c63 ex64)⟩ (mu_up (q1145 p_x1 c5 c7 i1u17 c31 c36 c57 bb_x59 c63 ex64) (q1146 p_x1 c5 c7 i1u17 c31 c36 c57 bb_x59 c63 ex64))
              · refine ⟨fun c65 => ?_, fun c65 => ?_⟩
                · refine u_X9_off_128 ?_
                  intro x66 ex66
                  exact ih30 _ _ _ _ _ _ ⟨rfl, rfl, rfl, rfl, (q1147 p_x1 c5 c7 i1u17 c31 c36 c57 bb_x59 c63 ex66)⟩ (mu_up (q1148 p_x1 c5 c7 i1u17 c31 c36 c57 bb_x59 c63 ex66) (q1149 p_x1 c5 c7 i1u17 c31 c36 c57 bb_x59 c63 ex66))
                · refine u_X9_off_128 ?_
                  intro x67 ex67
                  exact ih30 _ _ _ _ _ _ ⟨rfl, rfl, rfl, rfl, (q1150 p_x1 c5 c7 i1u17 c31 c36 c57 bb_x59 c63 c65 ex67)⟩ (mu_up (q1151 p_x1 c5 c7 i1u17 c31 c36 c57 bb_x59 c63 c65 ex67) (q1152 p_x1 c5 c7 i1u17 c31 c36 c57 bb_x59 c63 c65 ex67))
            · refine u_X9_off_99 ?_
              refine u_X9_off_104 ?_
              refine ⟨o_v0, ?_⟩
              refine ⟨a10, ea10, ?_⟩
              refine ⟨o_a10, ?_⟩
              refine m_X7_isOpen hI o_a10 (fun x69 S70 hI2 g71 b_x69 p_x69 => ?_)
              subst p_x69
              intro _ _
              have bb_x69 : x69 = 0 ∨ x69 = 1 := b_x69
              refine ⟨fun c73 => ?_, fun c73 => ?_⟩
              · refine u_X9_off_128 ?_
                intro x74 ex74
                exact ih30 _ _ _ _ _ _ ⟨rfl, rfl, rfl, rfl, (q1153 p_x1 c5 c7 i1u17 c31 c36 c57 bb_x69 c73 ex74)⟩ (mu_up (q1154 p_x1 c5 c7 i1u17 c31 c36 c57 bb_x69 c73 ex74) (q1155 p_x1 c5 c7 i1u17 c31 c36 c57 bb_x69 c73 ex74))
              · refine ⟨fun c75 => ?_, fun c75 => ?_⟩
                · refine u_X9_off_128 ?_
                  intro x76 ex76
                  exact ih30 _ _ _ _ _ _ ⟨rfl, rfl, rfl, rfl, (q1156 p_x1 c5 c7 i1u17 c31 c36 c57 bb_x69 c73 c75 ex76)⟩ (mu_up (q1157 p_x1 c5 c7 i1u17 c31 c36 c57 bb_x69 c73 c75 ex76) (q1158 p_x1 c5 c7 i1u17 c31 c36 c57 bb_x69 c73 c75 ex76))
                · refine u_X9_off_128 ?_
                  intro x77 ex77
                  exact ih30 _ _ _ _ _ _ ⟨rfl, rfl, rfl, rfl, (q1159 p_x1 c5 c7 i1u17 c31 c36 c57 bb_x69 c73 ex77)⟩ (mu_up (q1160 p_x1 c5 c7 i1u17 c31 c36 c57 bb_x69 c73 ex77) (q1161 p_x1 c5 c7 i1u17 c31 c36 c57 bb_x69 c73 ex77))
      · exact hq _ _ hI g0 f0
    · intro _ _
      refine ⟨fun c79 => ?_, fun c79 => ?_⟩
      · obtain ⟨a80, ea80, o_a80, -⟩ := sh 4 rfl hI o_v0
        refine ⟨a80, ea80, ?_⟩
        obtain ⟨a81, ea81, o_a81, -⟩ := sh 1 rfl hI o_v0
        refine ⟨a81, ea81, ?_⟩
        obtain ⟨a82, ea82, o_a82, -⟩ := sh 3 rfl hI o_v0
        refine ⟨a82, ea82, ?_⟩
        refine ⟨o_a80, ?_⟩
        refine m_X7_reckon hI o_a80 o_a81 o_a82 (q1162 p_x1 c5 c7 c79) (fun S84 hJ g85 fc86 => ?_)
        have hI := hJ
        have d_x1 := d_x1.trans (fri_at fc86 (by decide) (by decide) o_v0).symm
        have ea80 := (frr_at fc86 (by decide) (by decide) o_v0).trans ea80
        have ea81 := (frr_at fc86 (by decide) (by decide) o_v0).trans ea81
        have ea82 := (frr_at fc86 (by decide) (by decide) o_v0).trans ea82
        have f0 := fri_tr (S := S6) g0 f0 fc86 (by decide) (by decide)
        have o_a80 := gr_ob g85 o_a80
        have o_a81 := gr_ob g85 o_a81
        have o_a82 := gr_ob g85 o_a82
        have o_v0 := gr_ob g85 o_v0
        have g0 := gr_tr (T := S6) g0 g85
        intro _
        refine i_X9_off_62 (fun (y0 : Nat) (y2 : Int32) (y4 : Int32) (y6 : Int32) (y7 : Int32) (Z : HS) => ((2147483647 : Int32).toInt - y7.toInt).toNat) (fun (y0 : Nat) (y2 : Int32) (y4 : Int32) (y6 : Int32) (y7 : Int32) (Z : HS) => (S84 = Z) ∧ (v0 = y0) ∧ (v2 = y2) ∧ (v4 = y4) ∧ (0 ≤ y7)) ?_ _ _ _ _ _ _ ⟨rfl, rfl, rfl, rfl, (q1163 p_x1 c5 c7 c79)⟩
        intro w91 w93 w95 w97 w98 S88 X99 ⟨eS88, q92, q94, q96, i1u87⟩ ih100
        subst q92
        subst q94
        subst q96
        subst eS88
        refine u_X9_off_62 ?_
        refine ⟨fun c101 => ?_, fun c101 => ?_⟩
        · refine ⟨fun c102 => ?_, fun c102 => ?_⟩
          · exact hq _ _ hI g0 f0
          · refine ⟨o_v0, ?_⟩
            refine u_X9_refuse ?_
            refine u_X9_refuse_0 ?_
            refine ⟨o_v0, ?_⟩
            intro S103 eS103
            have hI : IV S103 := by rw [eS103]; exact iv_sI hI o_v0 (by decide) (nu_free (by decide))
            have f0 := fr_I eS103 g0 f0 o_v0 (by decide)
            obtain ⟨y104, hy104⟩ : ∃ z : Int32, z = (6 : Int32) := ⟨_, rfl⟩
            have d_y104 := rd_Is eS103 hy104
            have ea80 := rf_I eS103 ea80
            have ea81 := rf_I eS103 ea81
            have ea82 := rf_I eS103 ea82
            have g0 := gr_I eS103 g0
            have o_a80 := ob_I eS103 o_a80
            have o_a81 := ob_I eS103 o_a81
            have o_a82 := ob_I eS103 o_a82
            have o_v0 := ob_I eS103 o_v0
            intro _
            exact hq _ _ hI g0 f0
        · refine ⟨fun c106 => ?_, fun c106 => ?_⟩
          · refine u_X9_off_99 ?_
            refine u_X9_off_104 ?_
            refine ⟨o_v0, ?_⟩
            refine ⟨a80, ea80, ?_⟩
            refine ⟨o_a80, ?_⟩
            refine m_X7_isOpen hI o_a80 (fun x108 S109 hI2 g110 b_x108 p_x108 => ?_)
            subst p_x108
            intro _ _
            have bb_x108 : x108 = 0 ∨ x108 = 1 := b_x108
            refine ⟨fun c112 => ?_, fun c112 => ?_⟩
            · refine u_X9_off_128 ?_
              intro x113 ex113
              exact ih100 _ _ _ _ _ _ ⟨rfl, rfl, rfl, rfl, (q1164 p_x1 c5 c7 c79 i1u87 c101 c106 bb_x108 c112 ex113)⟩ (mu_up (q1165 p_x1 c5 c7 c79 i1u87 c101 c106 bb_x108 c112 ex113) (q1166 p_x1 c5 c7 c79 i1u87 c101 c106 bb_x108 c112 ex113))
            · refine ⟨fun c114 => ?_, fun c114 => ?_⟩
              · refine u_X9_off_128 ?_
                intro x115 ex115
                exact ih100 _ _ _ _ _ _ ⟨rfl, rfl, rfl, rfl, (q1167 p_x1 c5 c7 c79 i1u87 c101 c106 bb_x108 c112 c114 ex115)⟩ (mu_up (q1168 p_x1 c5 c7 c79 i1u87 c101 c106 bb_x108 c112 c114 ex115) (q1169 p_x1 c5 c7 c79 i1u87 c101 c106 bb_x108 c112 c114 ex115))
              · refine u_X9_off_128 ?_
                intro x116 ex116
                exact ih100 _ _ _ _ _ _ ⟨rfl, rfl, rfl, rfl, (q1170 p_x1 c5 c7 c79 i1u87 c101 c106 bb_x108 c112 ex116)⟩ (mu_up (q1171 p_x1 c5 c7 c79 i1u87 c101 c106 bb_x108 c112 ex116) (q1172 p_x1 c5 c7 c79 i1u87 c101 c106 bb_x108 c112 ex116))
          · refine ⟨o_v0, ?_⟩
            refine ⟨a80, ea80, ?_⟩
            refine ⟨o_a80, ?_⟩
            refine m_X7_meanFrom hI o_a80 (fun x118 S119 hI2 g120 p_x118 => ?_)
            subst p_x118
            intro _
            refine ⟨a80, ea80, ?_⟩
            refine ⟨o_a80, ?_⟩
            refine m_X7_meanFrom hI o_a80 (fun x123 S124 hI2 g125 p_x123 => ?_)
            subst p_x123
            intro _
            refine ⟨fun c127 => ?_, fun c127 => ?_⟩
            · refine u_X9_off_104 ?_
              refine ⟨o_v0, ?_⟩
              refine ⟨a80, ea80, ?_⟩
              refine ⟨o_a80, ?_⟩
              refine m_X7_isOpen hI o_a80 (fun x129 S130 hI2 g131 b_x129 p_x129 => ?_)
              subst p_x129
              intro _ _
              have bb_x129 : x129 = 0 ∨ x129 = 1 := b_x129
              refine ⟨fun c133 => ?_, fun c133 => ?_⟩
              · refine u_X9_off_128 ?_
                intro x134 ex134
                exact ih100 _ _ _ _ _ _ ⟨rfl, rfl, rfl, rfl, (q1173 p_x1 c5 c7 c79 i1u87 c101 c106 c127 bb_x129 c133 ex134)⟩ (mu_up (q1174 p_x1 c5 c7 c79 i1u87 c101 c106 c127 bb_x129 c133 ex134) (q1175 p_x1 c5 c7 c79 i1u87 c101 c106 c127 bb_x129 c133 ex134))
              · refine ⟨fun c135 => ?_, fun c135 => ?_⟩
                · refine u_X9_off_128 ?_
                  intro x136 ex136
                  exact ih100 _ _ _ _ _ _ ⟨rfl, rfl, rfl, rfl, (q1176 p_x1 c5 c7 c79 i1u87 c101 c106 c127 bb_x129 c133 ex136)⟩ (mu_up (q1177 p_x1 c5 c7 c79 i1u87 c101 c106 c127 bb_x129 c133 ex136) (q1178 p_x1 c5 c7 c79 i1u87 c101 c106 c127 bb_x129 c133 ex136))
                · refine u_X9_off_128 ?_
                  intro x137 ex137
                  exact ih100 _ _ _ _ _ _ ⟨rfl, rfl, rfl, rfl, (q1179 p_x1 c5 c7 c79 i1u87 c101 c106 c127 bb_x129 c133 c135 ex137)⟩ (mu_up (q1180 p_x1 c5 c7 c79 i1u87 c101 c106 c127 bb_x129 c133 c135 ex137) (q1181 p_x1 c5 c7 c79 i1u87 c101 c106 c127 bb_x129 c133 c135 ex137))
            · refine u_X9_off_99 ?_
              refine u_X9_off_104 ?_
              refine ⟨o_v0, ?_⟩
              refine ⟨a80, ea80, ?_⟩
              refine ⟨o_a80, ?_⟩
              refine m_X7_isOpen hI o_a80 (fun x139 S140 hI2 g141 b_x139 p_x139 => ?_)
              subst p_x139
              intro _ _
              have bb_x139 : x139 = 0 ∨ x139 = 1 := b_x139
              refine ⟨fun c143 => ?_, fun c143 => ?_⟩
              · refine u_X9_off_128 ?_
                intro x144 ex144
                exact ih100 _ _ _ _ _ _ ⟨rfl, rfl, rfl, rfl, (q1182 p_x1 c5 c7 c79 i1u87 c101 c106 c127 bb_x139 c143 ex144)⟩ (mu_up (q1183 p_x1 c5 c7 c79 i1u87 c101 c106 c127 bb_x139 c143 ex144) (q1184 p_x1 c5 c7 c79 i1u87 c101 c106 c127 bb_x139 c143 ex144))
              · refine ⟨fun c145 => ?_, fun c145 => ?_⟩
                · refine u_X9_off_128 ?_
                  intro x146 ex146
                  exact ih100 _ _ _ _ _ _ ⟨rfl, rfl, rfl, rfl, (q1185 p_x1 c5 c7 c79 i1u87 c101 c106 c127 bb_x139 c143 c145 ex146)⟩ (mu_up (q1186 p_x1 c5 c7 c79 i1u87 c101 c106 c127 bb_x139 c143 c145 ex146) (q1187 p_x1 c5 c7 c79 i1u87 c101 c106 c127 bb_x139 c143 c145 ex146))
                · refine u_X9_off_128 ?_
                  intro x147 ex147
                  exact ih100 _ _ _ _ _ _ ⟨rfl, rfl, rfl, rfl, (q1188 p_x1 c5 c7 c79 i1u87 c101 c106 c127 bb_x139 c143 ex147)⟩ (mu_up (q1189 p_x1 c5 c7 c79 i1u87 c101 c106 c127 bb_x139 c143 ex147) (q1190 p_x1 c5 c7 c79 i1u87 c101 c106 c127 bb_x139 c143 ex147))
      · exact hq _ _ hI g0 f0
  · refine m_X9_isTill hI (fun x148 S149 hI2 g150 b_x148 p_x148 => ?_)
    obtain ⟨z_S149, p_x148⟩ := p_x148
    subst z_S149
    intro _ _
    have bb_x148 : x148 = 0 ∨ x148 = 1 := b_x148
    refine ⟨fun c152 => ?_, fun c152 => ?_⟩
    · refine u_X9_off_25 ?_
      refine ⟨o_v0, ?_⟩
      refine u_X9_refusedBy ?_
      refine u_X9_refusedBy_0 ?_
      refine ⟨o_v0, ?_⟩
      intro S153 eS153
      have hI : IV S153 := by rw [eS153]; exact iv_sI hI o_v0 (by decide) (nu_free (by decide))
      have f0 := fr_I eS153 g0 f0 o_v0 (by decide)
      have d_x1 := rd_Is eS153 (rfl : x1 = x1)
      have g0 := gr_I eS153 g0
      have o_v0 := ob_I eS153 o_v0
      refine ⟨fun c154 => ?_, fun c154 => ?_⟩
      · intro _ _
        refine ⟨fun c156 => ?_, fun c156 => ?_⟩
        · obtain ⟨a157, ea157, o_a157, -⟩ := sh 4 rfl hI o_v0
          refine ⟨a157, ea157, ?_⟩
          obtain ⟨a158, ea158, o_a158, -⟩ := sh 1 rfl hI o_v0
          refine ⟨a158, ea158, ?_⟩
          obtain ⟨a159, ea159, o_a159, -⟩ := sh 3 rfl hI o_v0
          refine ⟨a159, ea159, ?_⟩
          refine ⟨o_a157, ?_⟩
          refine m_X7_reckon hI o_a157 o_a158 o_a159 (q1191 p_x1 c5 p_x148 bb_x148 c152 c154) (fun S161 hJ g162 fc163 => ?_)
          have hI := hJ
          have d_x1 := d_x1.trans (fri_at fc163 (by decide) (by decide) o_v0).symm
          have ea157 := (frr_at fc163 (by decide) (by decide) o_v0).trans ea157
          have ea158 := (frr_at fc163 (by decide) (by decide) o_v0).trans ea158
          have ea159 := (frr_at fc163 (by decide) (by decide) o_v0).trans ea159
          have f0 := fri_tr (S := S153) g0 f0 fc163 (by decide) (by decide)
          have o_a157 := gr_ob g162 o_a157
          have o_a158 := gr_ob g162 o_a158
          have o_a159 := gr_ob g162 o_a159
          have o_v0 := gr_ob g162 o_v0
          have g0 := gr_tr (T := S153) g0 g162
          intro _
          refine i_X9_off_62 (fun (y0 : Nat) (y2 : Int32) (y4 : Int32) (y6 : Int32) (y7 : Int32) (Z : HS) => ((2147483647 : Int32).toInt - y7.toInt).toNat) (fun (y0 : Nat) (y2 : Int32) (y4 : Int32) (y6 : Int32) (y7 : Int32) (Z : HS) => (S161 = Z) ∧ (v0 = y0) ∧ (v2 = y2) ∧ (v4 = y4) ∧ (0 ≤ y7)) ?_ _ _ _ _ _ _ ⟨rfl, rfl, rfl, rfl, (q1192 p_x1 c5 p_x148 bb_x148 c152 c154)⟩
          intro w168 w170 w172 w174 w175 S165 X176 ⟨eS165, q169, q171, q173, i1u164⟩ ih177
          subst q169
          subst q171
          subst q173
          subst eS165
          refine u_X9_off_62 ?_
          refine ⟨fun c178 => ?_, fun c178 => ?_⟩
          · refine ⟨fun c179 => ?_, fun c179 => ?_⟩
            · exact hq _ _ hI g0 f0
            · refine ⟨o_v0, ?_⟩
              refine u_X9_refuse ?_
              refine u_X9_refuse_0 ?_
              refine ⟨o_v0, ?_⟩
              intro S180 eS180
              have hI : IV S180 := by rw [eS180]; exact iv_sI hI o_v0 (by decide) (nu_free (by decide))
              have f0 := fr_I eS180 g0 f0 o_v0 (by decide)
              obtain ⟨y181, hy181⟩ : ∃ z : Int32, z = (6 : Int32) := ⟨_, rfl⟩
              have d_y181 := rd_Is eS180 hy181
              have ea157 := rf_I eS180 ea157
              have ea158 := rf_I eS180 ea158
              have ea159 := rf_I eS180 ea159
              have g0 := gr_I eS180 g0
              have o_a157 := ob_I eS180 o_a157
              have o_a158 := ob_I eS180 o_a158
              have o_a159 := ob_I eS180 o_a159
              have o_v0 := ob_I eS180 o_v0
              intro _
              exact hq _ _ hI g0 f0
          · refine ⟨fun c183 => ?_, fun c183 => ?_⟩
            · refine u_X9_off_99 ?_
              refine u_X9_off_104 ?_
              refine ⟨o_v0, ?_⟩
              refine ⟨a157, ea157, ?_⟩
              refine ⟨o_a157, ?_⟩
              refine m_X7_isOpen hI o_a157 (fun x185 S186 hI2 g187 b_x185 p_x185 => ?_)
              subst p_x185
              intro _ _
              have bb_x185 : x185 = 0 ∨ x185 = 1 := b_x185
              refine ⟨fun c189 => ?_, fun c189 => ?_⟩
              · refine u_X9_off_128 ?_
                intro x190 ex190
                exact ih177 _ _ _ _ _ _ ⟨rfl, rfl, rfl, rfl, (q1193 p_x1 c5 p_x148 bb_x148 c152 c154 i1u164 c178 c183 bb_x185 c189 ex190)⟩ (mu_up (q1194 p_x1 c5 p_x148 bb_x148 c152 c154 i1u164 c178 c183 bb_x185 c189 ex190) (q1195 p_x1 c5 p_x148 bb_x148 c152 c154 i1u164 c178 c183 bb_x185 c189 ex190))
              · refine ⟨fun c191 => ?_, fun c191 => ?_⟩
                · refine u_X9_off_128 ?_
                  intro x192 ex192
                  exact ih177 _ _ _ _ _ _ ⟨rfl, rfl, rfl, rfl, (q1196 p_x1 c5 p_x148 bb_x148 c152 c154 i1u164 c178 c183 bb_x185 c189 c191 ex192)⟩ (mu_up (q1197 p_x1 c5 p_x148 bb_x148 c152 c154 i1u164 c178 c183 bb_x185 c189 c191 ex192) (q1198 p_x1 c5 p_x148 bb_x148 c152 c154 i1u164 c178 c183 bb_x185 c189 c191 ex192))
                · refine u_X9_off_128 ?_
                  intro x193 ex193
                  exact ih177 _ _ _ _ _ _ ⟨rfl, rfl, rfl, rfl, (q1199 p_x1 c5 p_x148 bb_x148 c152 c154 i1u164 c178 c183 bb_x185 c189 ex193)⟩ (mu_up (q1200 p_x1 c5 p_x148 bb_x148 c152 c154 i1u164 c178 c183 bb_x185 c189 ex193) (q1201 p_x1 c5 p_x148 bb_x148 c152 c154 i1u164 c178 c183 bb_x185 c189 ex193))
            · refine ⟨o_v0, ?_⟩
              refine ⟨a157, ea157, ?_⟩
              refine ⟨o_a157, ?_⟩
              refine m_X7_meanFrom hI o_a157 (fun x195 S196 hI2 g197 p_x195 => ?_)
              subst p_x195
              intro _
              refine ⟨a157, ea157, ?_⟩
              refine ⟨o_a157, ?_⟩
              refine m_X7_meanFrom hI o_a157 (fun x200 S201 hI2 g202 p_x200 => ?_)
              subst p_x200
              intro _
              refine ⟨fun c204 => ?_, fun c204 => ?_⟩
              · refine u_X9_off_104 ?_
                refine ⟨o_v0, ?_⟩
                refine ⟨a157, ea157, ?_⟩
                refine ⟨o_a157, ?_⟩
                refine m_X7_isOpen hI o_a157 (fun x206 S207 hI2 g208 b_x206 p_x206 => ?_)
                subst p_x206
                intro _ _
                have bb_x206 : x206 = 0 ∨ x206 = 1 := b_x206
                refine ⟨fun c210 => ?_, fun c210 => ?_⟩
                · refine u_X9_off_128 ?_
                  intro x211 ex211
                  exact ih177 _ _ _ _ _ _ ⟨rfl, rfl, rfl, rfl, (q1202 p_x1 c5 p_x148 bb_x148 c152 c154 i1u164 c178 c183 c204 bb_x206 c210 ex211)⟩ (mu_up (q1203 p_x1 c5 p_x148 bb_x148 c152 c154 i1u164 c178 c183 c204 bb_x206 c210 ex211) (q1204 p_x1 c5 p_x148 bb_x148 c152 c154 i1u164 c178 c183 c204 bb_x206 c210 ex211))
                · refine ⟨fun c212 => ?_, fun c212 => ?_⟩
                  · refine u_X9_off_128 ?_
                    intro x213 ex213
                    exact ih177 _ _ _ _ _ _ ⟨rfl, rfl, rfl, rfl, (q1205 p_x1 c5 p_x148 bb_x148 c152 c154 i1u164 c178 c183 c204 bb_x206 c210 ex213)⟩ (mu_up (q1206 p_x1 c5 p_x148 bb_x148 c152 c154 i1u164 c178 c183 c204 bb_x206 c210 ex213) (q1207 p_x1 c5 p_x148 bb_x148 c152 c154 i1u164 c178 c183 c204 bb_x206 c210 ex213))
                  · refine u_X9_off_128 ?_
                    intro x214 ex214
                    exact ih177 _ _ _ _ _ _ ⟨rfl, rfl, rfl, rfl, (q1208 p_x1 c5 p_x148 bb_x148 c152 c154 i1u164 c178 c183 c204 bb_x206 c210 c212 ex214)⟩ (mu_up (q1209 p_x1 c5 p_x148 bb_x148 c152 c154 i1u164 c178 c183 c204 bb_x206 c210 c212 ex214) (q1210 p_x1 c5 p_x148 bb_x148 c152 c154 i1u164 c178 c183 c204 bb_x206 c210 c212 ex214))
              · refine u_X9_off_99 ?_
                refine u_X9_off_104 ?_
                refine ⟨o_v0, ?_⟩
                refine ⟨a157, ea157, ?_⟩
                refine ⟨o_a157, ?_⟩
                refine m_X7_isOpen hI o_a157 (fun x216 S217 hI2 g218 b_x216 p_x216 => ?_)
                subst p_x216
                intro _ _
                have bb_x216 : x216 = 0 ∨ x216 = 1 := b_x216
                refine ⟨fun c220 => ?_, fun c220 => ?_⟩
                · refine u_X9_off_128 ?_
                  intro x221 ex221
                  exact ih177 _ _ _ _ _ _ ⟨rfl, rfl, rfl, rfl, (q1211 p_x1 c5 p_x148 bb_x148 c152 c154 i1u164 c178 c183 c204 bb_x216 c220 ex221)⟩ (mu_up (q1212 p_x1 c5 p_x148 bb_x148 c152 c154 i1u164 c178 c183 c204 bb_x216 c220 ex221) (q1213 p_x1 c5 p_x148 bb_x148 c152 c154 i1u164 c178 c183 c204 bb_x216 c220 ex221))
                · refine ⟨fun c222 => ?_, fun c222 => ?_⟩
                  · refine u_X9_off_128 ?_
                    intro x223 ex223
                    exact ih177 _ _ _ _ _ _ ⟨rfl, rfl, rfl, rfl, (q1214 p_x1 c5 p_x148 bb_x148 c152 c154 i1u164 c178 c183 c204 bb_x216 c220 c222 ex223)⟩ (mu_up (q1215 p_x1 c5 p_x148 bb_x148 c152 c154 i1u164 c178 c183 c204 bb_x216 c220 c222 ex223) (q1216 p_x1 c5 p_x148 bb_x148 c152 c154 i1u164 c178 c183 c204 bb_x216 c220 c222 ex223))
                  · refine u_X9_off_128 ?_
                    intro x224 ex224
                    exact ih177 _ _ _ _ _ _ ⟨rfl, rfl, rfl, rfl, (q1217 p_x1 c5 p_x148 bb_x148 c152 c154 i1u164 c178 c183 c204 bb_x216 c220 ex224)⟩ (mu_up (q1218 p_x1 c5 p_x148 bb_x148 c152 c154 i1u164 c178 c183 c204 bb_x216 c220 ex224) (q1219 p_x1 c5 p_x148 bb_x148 c152 c154 i1u164 c178 c183 c204 bb_x216 c220 ex224))
        · exact hq _ _ hI g0 f0
      · intro _ _
        refine ⟨fun c226 => ?_, fun c226 => ?_⟩
        · obtain ⟨a227, ea227, o_a227, -⟩ := sh 4 rfl hI o_v0
          refine ⟨a227, ea227, ?_⟩
          obtain ⟨a228, ea228, o_a228, -⟩ := sh 1 rfl hI o_v0
          refine ⟨a228, ea228, ?_⟩
          obtain ⟨a229, ea229, o_a229, -⟩ := sh 3 rfl hI o_v0
          refine ⟨a229, ea229, ?_⟩
          refine ⟨o_a227, ?_⟩
          refine m_X7_reckon hI o_a227 o_a228 o_a229 (q1220 p_x1 c5 p_x148 bb_x148 c152 c154 c226) (fun S231 hJ g232 fc233 => ?_)
          have hI := hJ
          have d_x1 := d_x1.trans (fri_at fc233 (by decide) (by decide) o_v0).symm
          have ea227 := (frr_at fc233 (by decide) (by decide) o_v0).trans ea227
          have ea228 := (frr_at fc233 (by decide) (by decide) o_v0).trans ea228
          have ea229 := (frr_at fc233 (by decide) (by decide) o_v0).trans ea229
          have f0 := fri_tr (S := S153) g0 f0 fc233 (by decide) (by decide)
          have o_a227 := gr_ob g232 o_a227
          have o_a228 := gr_ob g232 o_a228
          have o_a229 := gr_ob g232 o_a229
          have o_v0 := gr_ob g232 o_v0
          have g0 := gr_tr (T := S153) g0 g232
          intro _
          refine i_X9_off_62 (fun (y0 : Nat) (y2 : Int32) (y4 : Int32) (y6 : Int32) (y7 : Int32) (Z : HS) => ((2147483647 : Int32).toInt - y7.toInt).toNat) (fun (y0 : Nat) (y2 : Int32) (y4 : Int32) (y6 : Int32) (y7 : Int32) (Z : HS) => (S231 = Z) ∧ (v0 = y0) ∧ (v2 = y2) ∧ (v4 = y4) ∧ (0 ≤ y7)) ?_ _ _ _ _ _ _ ⟨rfl, rfl, rfl, rfl, (q1221 p_x1 c5 p_x148 bb_x148 c152 c154 c226)⟩
          intro w238 w240 w242 w244 w245 S235 X246 ⟨eS235, q239, q241, q243, i1u234⟩ ih247
          subst q239
          subst q241
          subst q243
          subst eS235
          refine u_X9_off_62 ?_
          refine ⟨fun c248 => ?_, fun c248 => ?_⟩
          · refine ⟨fun c249 => ?_, fun c249 => ?_⟩
            · exact hq _ _ hI g0 f0
            · refine ⟨o_v0, ?_⟩
              refine u_X9_refuse ?_
              refine u_X9_refuse_0 ?_
              refine ⟨o_v0, ?_⟩
              intro S250 eS250
              have hI : IV S250 := by rw [eS250]; exact iv_sI hI o_v0 (by decide) (nu_free (by decide))
              have f0 := fr_I eS250 g0 f0 o_v0 (by decide)
              obtain ⟨y251, hy251⟩ : ∃ z : Int32, z = (6 : Int32) := ⟨_, rfl⟩
              have d_y251 := rd_Is eS250 hy251
              have ea227 := rf_I eS250 ea227
              have ea228 := rf_I eS250 ea228
              have ea229 := rf_I eS250 ea229
              have g0 := gr_I eS250 g0
              have o_a227 := ob_I eS250 o_a227
              have o_a228 := ob_I eS250 o_a228
              have o_a229 := ob_I eS250 o_a229
              have o_v0 := ob_I eS250 o_v0
              intro _
              exact hq _ _ hI g0 f0
          · refine ⟨fun c253 => ?_, fun c253 => ?_⟩
            · refine u_X9_off_99 ?_
              refine u_X9_off_104 ?_
              refine ⟨o_v0, ?_⟩
              refine ⟨a227, ea227, ?_⟩
              refine ⟨o_a227, ?_⟩
              refine m_X7_isOpen hI o_a227 (fun x255 S256 hI2 g257 b_x255 p_x255 => ?_)
              subst p_x255
              intro _ _
              have bb_x255 : x255 = 0 ∨ x255 = 1 := b_x255
              refine ⟨fun c259 => ?_, fun c259 => ?_⟩
              · refine u_X9_off_128 ?_
                intro x260 ex260
                exact ih247 _ _ _ _ _ _ ⟨rfl, rfl, rfl, rfl, (q1222 p_x1 c5 p_x148 bb_x148 c152 c154 c226 i1u234 c248 c253 bb_x255 c259 ex260)⟩ (mu_up (q1223 p_x1 c5 p_x148 bb_x148 c152 c154 c226 i1u234 c248 c253 bb_x255 c259 ex260) (q1224 p_x1 c5 p_x148 bb_x148 c152 c154 c226 i1u234 c248 c253 bb_x255 c259 ex260))
              · refine ⟨fun c261 => ?_, fun c261 => ?_⟩
                · refine u_X9_off_128 ?_
                  intro x262 ex262
                  exact ih247 _ _ _ _ _ _ ⟨rfl, rfl, rfl, rfl, (q1225 p_x1 c5 p_x148 bb_x148 c152 c154 c226 i1u234 c248 c253 bb_x255 c259 c261 ex262)⟩ (mu_up (q1226 p_x1 c5 p_x148 bb_x148 c152 c154 c226 i1u234 c248 c253 bb_x255 c259 c261 ex262) (q1227 p_x1 c5 p_x148 bb_x148 c152 c154 c226 i1u234 c248 c253 bb_x255 c259 c261 ex262))
                · refine u_X9_off_128 ?_
                  intro x263 ex263
                  exact ih247 _ _ _ _ _ _ ⟨rfl, rfl, rfl, rfl, (q1228 p_x1 c5 p_x148 bb_x148 c152 c154 c226 i1u234 c248 c253 bb_x255 c259 ex263)⟩ (mu_up (q1229 p_x1 c5 p_x148 bb_x148 c152 c154 c226 i1u234 c248 c253 bb_x255 c259 ex263) (q1230 p_x1 c5 p_x148 bb_x148 c152 c154 c226 i1u234 c248 c253 bb_x255 c259 ex263))
            · refine ⟨o_v0, ?_⟩
              refine ⟨a227, ea227, ?_⟩
              refine ⟨o_a227, ?_⟩
              refine m_X7_meanFrom hI o_a227 (fun x265 S266 hI2 g267 p_x265 => ?_)
              subst p_x265
              intro _
              refine ⟨a227, ea227, ?_⟩
              refine ⟨o_a227, ?_⟩
              refine m_X7_meanFrom hI o_a227 (fun x270 S271 hI2 g272 p_x270 => ?_)
              subst p_x270
              intro _
              refine ⟨fun c274 => ?_, fun c274 => ?_⟩
              · refine u_X9_off_104 ?_
                refine ⟨o_v0, ?_⟩
                refine ⟨a227, ea227, ?_⟩
                refine ⟨o_a227, ?_⟩
                refine m_X7_isOpen hI o_a227 (fun x276 S277 hI2 g278 b_x276 p_x276 => ?_)
                subst p_x276
                intro _ _
                have bb_x276 : x276 = 0 ∨ x276 = 1 := b_x276
                refine ⟨fun c280 => ?_, fun c280 => ?_⟩
                · refine u_X9_off_128 ?_
                  intro x281 ex281
                  exact ih247 _ _ _ _ _ _ ⟨rfl, rfl, rfl, rfl, (q1231 p_x1 c5 p_x148 bb_x148 c152 c154 c226 i1u234 c248 c253 c274 bb_x276 c280 ex281)⟩ (mu_up (q1232 p_x1 c5 p_x148 bb_x148 c152 c154 c226 i1u234 c248 c253 c274 bb_x276 c280 ex281) (q1233 p_x1 c5 p_x148 bb_x148 c152 c154 c226 i1u234 c248 c253 c274 bb_x276 c280 ex281))
                · refine ⟨fun c282 => ?_, fun c282 => ?_⟩
                  · refine u_X9_off_128 ?_
                    intro x283 ex283
                    exact ih247 _ _ _ _ _ _ ⟨rfl, rfl, rfl, rfl, (q1234 p_x1 c5 p_x148 bb_x148 c152 c154 c226 i1u234 c248 c253 c274 bb_x276 c280 ex283)⟩ (mu_up (q1235 p_x1 c5 p_x148 bb_x148 c152 c154 c226 i1u234 c248 c253 c274 bb_x276 c280 ex283) (q1236 p_x1 c5 p_x148 bb_x148 c152 c154 c226 i1u234 c248 c253 c274 bb_x276 c280 ex283))
                  · refine u_X9_off_128 ?_
                    intro x284 ex284
                    exact ih247 _ _ _ _ _ _ ⟨rfl, rfl, rfl, rfl, (q1237 p_x1 c5 p_x148 bb_x148 c152 c154 c226 i1u234 c248 c253 c274 bb_x276 c280 c282 ex284)⟩ (mu_up (q1238 p_x1 c5 p_x148 bb_x148 c152 c154 c226 i1u234 c248 c253 c274 bb_x276 c280 c282 ex284) (q1239 p_x1 c5 p_x148 bb_x148 c152 c154 c226 i1u234 c248 c253 c274 bb_x276 c280 c282 ex284))
              · refine u_X9_off_99 ?_
                refine u_X9_off_104 ?_
                refine ⟨o_v0, ?_⟩
                refine ⟨a227, ea227, ?_⟩
                refine ⟨o_a227, ?_⟩
                refine m_X7_isOpen hI o_a227 (fun x286 S287 hI2 g288 b_x286 p_x286 => ?_)
                subst p_x286
                intro _ _
                have bb_x286 : x286 = 0 ∨ x286 = 1 := b_x286
                refine ⟨fun c290 => ?_, fun c290 => ?_⟩
                · refine u_X9_off_128 ?_
                  intro x291 ex291
                  exact ih247 _ _ _ _ _ _ ⟨rfl, rfl, rfl, rfl, (q1240 p_x1 c5 p_x148 bb_x148 c152 c154 c226 i1u234 c248 c253 c274 bb_x286 c290 ex291)⟩ (mu_up (q1241 p_x1 c5 p_x148 bb_x148 c152 c154 c226 i1u234 c248 c253 c274 bb_x286 c290 ex291) (q1242 p_x1 c5 p_x148 bb_x148 c152 c154 c226 i1u234 c248 c253 c274 bb_x286 c290 ex291))
                · refine ⟨fun c292 => ?_, fun c292 => ?_⟩
                  · refine u_X9_off_128 ?_
                    intro x293 ex293
                    exact ih247 _ _ _ _ _ _ ⟨rfl, rfl, rfl, rfl, (q1243 p_x1 c5 p_x148 bb_x148 c152 c154 c226 i1u234 c248 c253 c274 bb_x286 c290 c292 ex293)⟩ (mu_up (q1244 p_x1 c5 p_x148 bb_x148 c152 c154 c226 i1u234 c248 c253 c274 bb_x286 c290 c292 ex293) (q1245 p_x1 c5 p_x148 bb_x148 c152 c154 c226 i1u234 c248 c253 c274 bb_x286 c290 c292 ex293))
                  · refine u_X9_off_128 ?_
                    intro x294 ex294
                    exact ih247 _ _ _ _ _ _ ⟨rfl, rfl, rfl, rfl, (q1246 p_x1 c5 p_x148 bb_x148 c152 c154 c226 i1u234 c248 c253 c274 bb_x286 c290 ex294)⟩ (mu_up (q1247 p_x1 c5 p_x148 bb_x148 c152 c154 c226 i1u234 c248 c253 c274 bb_x286 c290 ex294) (q1248 p_x1 c5 p_x148 bb_x148 c152 c154 c226 i1u234 c248 c253 c274 bb_x286 c290 ex294))
        · exact hq _ _ hI g0 f0
    · refine u_X9_off_25 ?_
      refine ⟨o_v0, ?_⟩
      refine u_X9_refusedBy ?_
      refine u_X9_refusedBy_0 ?_
      refine ⟨o_v0, ?_⟩
      intro S295 eS295
      have hI : IV S295 := by rw [eS295]; exact iv_sI hI o_v0 (by decide) (nu_free (by decide))
      have f0 := fr_I eS295 g0 f0 o_v0 (by decide)
      obtain ⟨y296, hy296⟩ : ∃ z : Int32, z = (2 : Int32) := ⟨_, rfl⟩
      have d_y296 := rd_Is eS295 hy296
      have g0 := gr_I eS295 g0
      have o_v0 := ob_I eS295 o_v0
      refine ⟨fun c297 => ?_, fun c297 => ?_⟩
      · intro _ _
        refine ⟨fun c299 => ?_, fun c299 => ?_⟩
        · obtain ⟨a300, ea300, o_a300, -⟩ := sh 4 rfl hI o_v0
          refine ⟨a300, ea300, ?_⟩
          obtain ⟨a301, ea301, o_a301, -⟩ := sh 1 rfl hI o_v0
          refine ⟨a301, ea301, ?_⟩
          obtain ⟨a302, ea302, o_a302, -⟩ := sh 3 rfl hI o_v0
          refine ⟨a302, ea302, ?_⟩
          refine ⟨o_a300, ?_⟩
          refine m_X7_reckon hI o_a300 o_a301 o_a302 (q1249 p_x1 c5 p_x148 bb_x148 c152 c297) (fun S304 hJ g305 fc306 => ?_)
          have hI := hJ
          have d_y296 := d_y296.trans (fri_at fc306 (by decide) (by decide) o_v0).symm
          have ea300 := (frr_at fc306 (by decide) (by decide) o_v0).trans ea300
          have ea301 := (frr_at fc306 (by decide) (by decide) o_v0).trans ea301
          have ea302 := (frr_at fc306 (by decide) (by decide) o_v0).trans ea302
          have f0 := fri_tr (S := S295) g0 f0 fc306 (by decide) (by decide)
          have o_a300 := gr_ob g305 o_a300
          have o_a301 := gr_ob g305 o_a301
          have o_a302 := gr_ob g305 o_a302
          have o_v0 := gr_ob g305 o_v0
          have g0 := gr_tr (T := S295) g0 g305
          intro _
          refine i_X9_off_62 (fun (y0 : Nat) (y2 : Int32) (y4 : Int32) (y6 : Int32) (y7 : Int32) (Z : HS) => ((2147483647 : Int32).toInt - y7.toInt).toNat) (fun (y0 : Nat) (y2 : Int32) (y4 : Int32) (y6 : Int32) (y7 : Int32) (Z : HS) => (S304 = Z) ∧ (v0 = y0) ∧ (v2 = y2) ∧ (v4 = y4) ∧ (0 ≤ y7)) ?_ _ _ _ _ _ _ ⟨rfl, rfl, rfl, rfl, (q1250 p_x1 c5 p_x148 bb_x148 c152 c297)⟩
          intro w311 w313 w315 w317 w318 S308 X319 ⟨eS308, q312, q314, q316, i1u307⟩ ih320
          subst q312
          subst q314
          subst q316
          subst eS308
          refine u_X9_off_62 ?_
          refine ⟨fun c321 => ?_, fun c321 => ?_⟩
          · refine ⟨fun c322 => ?_, fun c322 => ?_⟩
            · exact hq _ _ hI g0 f0
            · refine ⟨o_v0, ?_⟩
              refine u_X9_refuse ?_
              refine u_X9_refuse_0 ?_
              refine ⟨o_v0, ?_⟩
              intro S323 eS323
              have hI : IV S323 := by rw [eS323]; exact iv_sI hI o_v0 (by decide) (nu_free (by decide))
              have f0 := fr_I eS323 g0 f0 o_v0 (by decide)
              obtain ⟨y324, hy324⟩ : ∃ z : Int32, z = (6 : Int32) := ⟨_, rfl⟩
              have d_y324 := rd_Is eS323 hy324
              have ea300 := rf_I eS323 ea300
              have ea301 := rf_I eS323 ea301
              have ea302 := rf_I eS323 ea302
              have g0 := gr_I eS323 g0
              have o_a300 := ob_I eS323 o_a300
              have o_a301 := ob_I eS323 o_a301
              have o_a302 := ob_I eS323 o_a302
              have o_v0 := ob_I eS323 o_v0
              intro _
              exact hq _ _ hI g0 f0
          · refine ⟨fun c326 => ?_, fun c326 => ?_⟩
            · refine u_X9_off_99 ?_
              refine u_X9_off_104 ?_
              refine ⟨o_v0, ?_⟩
              refine ⟨a300, ea300, ?_⟩
              refine ⟨o_a300, ?_⟩
              refine m_X7_isOpen hI o_a300 (fun x328 S329 hI2 g330 b_x328 p_x328 => ?_)
              subst p_x328
              intro _ _
              have bb_x328 : x328 = 0 ∨ x328 = 1 := b_x328
              refine ⟨fun c332 => ?_, fun c332 => ?_⟩
              · refine u_X9_off_128 ?_
                intro x333 ex333
                exact ih320 _ _ _ _ _ _ ⟨rfl, rfl, rfl, rfl, (q1251 p_x1 c5 p_x148 bb_x148 c152 c297 i1u307 c321 c326 bb_x328 c332 ex333)⟩ (mu_up (q1252 p_x1 c5 p_x148 bb_x148 c152 c297 i1u307 c321 c326 bb_x328 c332 ex333) (q1253 p_x1 c5 p_x148 bb_x148 c152 c297 i1u307 c321 c326 bb_x328 c332 ex333))
              · refine ⟨fun c334 => ?_, fun c334 => ?_⟩
                · refine u_X9_off_128 ?_
                  intro x335 ex335
                  exact ih320 _ _ _ _ _ _ ⟨rfl, rfl, rfl, rfl, (q1254 p_x1 c5 p_x148 bb_x148 c152 c297 i1u307 c321 c326 bb_x328 c332 c334 ex335)⟩ (mu_up (q1255 p_x1 c5 p_x148 bb_x148 c152 c297 i1u307 c321 c326 bb_x328 c332 c334 ex335) (q1256 p_x1 c5 p_x148 bb_x148 c152 c297 i1u307 c321 c326 bb_x328 c332 c334 ex335))
                · refine u_X9_off_128 ?_
                  intro x336 ex336
                  exact ih320 _ _ _ _ _ _ ⟨rfl, rfl, rfl, rfl, (q1257 p_x1 c5 p_x148 bb_x148 c152 c297 i1u307 c321 c326 bb_x328 c332 ex336)⟩ (mu_up (q1258 p_x1 c5 p_x148 bb_x148 c152 c297 i1u307 c321 c326 bb_x328 c332 ex336) (q1259 p_x1 c5 p_x148 bb_x148 c152 c297 i1u307 c321 c326 bb_x328 c332 ex336))
            · refine ⟨o_v0, ?_⟩
              refine ⟨a300, ea300, ?_⟩
              refine ⟨o_a300, ?_⟩
              refine m_X7_meanFrom hI o_a300 (fun x338 S339 hI2 g340 p_x338 => ?_)
              subst p_x338
              intro _
              refine ⟨a300, ea300, ?_⟩
              refine ⟨o_a300, ?_⟩
              refine m_X7_meanFrom hI o_a300 (fun x343 S344 hI2 g345 p_x343 => ?_)
              subst p_x343
              intro _
              refine ⟨fun c347 => ?_, fun c347 => ?_⟩
              · refine u_X9_off_104 ?_
                refine ⟨o_v0, ?_⟩
                refine ⟨a300, ea300, ?_⟩
                refine ⟨o_a300, ?_⟩
                refine m_X7_isOpen hI o_a300 (fun x349 S350 hI2 g351 b_x349 p_x349 => ?_)
                subst p_x349
                intro _ _
                have bb_x349 : x349 = 0 ∨ x349 = 1 := b_x349
                refine ⟨fun c353 => ?_, fun c353 => ?_⟩
                · refine u_X9_off_128 ?_
                  intro x354 ex354
                  exact ih320 _ _ _ _ _ _ ⟨rfl, rfl, rfl, rfl, (q1260 p_x1 c5 p_x148 bb_x148 c152 c297 i1u307 c321 c326 c347 bb_x349 c353 ex354)⟩ (mu_up (q1261 p_x1 c5 p_x148 bb_x148 c152 c297 i1u307 c321 c326 c347 bb_x349 c353 ex354) (q1262 p_x1 c5 p_x148 bb_x148 c152 c297 i1u307 c321 c326 c347 bb_x349 c353 ex354))
                · refine ⟨fun c355 => ?_, fun c355 => ?_⟩
                  · refine u_X9_off_128 ?_
                    intro x356 ex356
                    exact ih320 _ _ _ _ _ _ ⟨rfl, rfl, rfl, rfl, (q1263 p_x1 c5 p_x148 bb_x148 c152 c297 i1u307 c321 c326 c347 bb_x349 c353 ex356)⟩ (mu_up (q1264 p_x1 c5 p_x148 bb_x148 c152 c297 i1u307 c321 c326 c347 bb_x349 c353 ex356) (q1265 p_x1 c5 p_x148 bb_x148 c152 c297 i1u307 c321 c326 c347 bb_x349 c353 ex356))
                  · refine u_X9_off_128 ?_
                    intro x357 ex357
                    exact ih320 _ _ _ _ _ _ ⟨rfl, rfl, rfl, rfl, (q1266 p_x1 c5 p_x148 bb_x148 c152 c297 i1u307 c321 c326 c347 bb_x349 c353 c355 ex357)⟩ (mu_up (q1267 p_x1 c5 p_x148 bb_x148 c152 c297 i1u307 c321 c326 c347 bb_x349 c353 c355 ex357) (q1268 p_x1 c5 p_x148 bb_x148 c152 c297 i1u307 c321 c326 c347 bb_x349 c353 c355 ex357))
              · refine u_X9_off_99 ?_
                refine u_X9_off_104 ?_
                refine ⟨o_v0, ?_⟩
                refine ⟨a300, ea300, ?_⟩
                refine ⟨o_a300, ?_⟩
                refine m_X7_isOpen hI o_a300 (fun x359 S360 hI2 g361 b_x359 p_x359 => ?_)
                subst p_x359
                intro _ _
                have bb_x359 : x359 = 0 ∨ x359 = 1 := b_x359
                refine ⟨fun c363 => ?_, fun c363 => ?_⟩
                · refine u_X9_off_128 ?_
                  intro x364 ex364
                  exact ih320 _ _ _ _ _ _ ⟨rfl, rfl, rfl, rfl, (q1269 p_x1 c5 p_x148 bb_x148 c152 c297 i1u307 c321 c326 c347 bb_x359 c363 ex364)⟩ (mu_up (q1270 p_x1 c5 p_x148 bb_x148 c152 c297 i1u307 c321 c326 c347 bb_x359 c363 ex364) (q1271 p_x1 c5 p_x148 bb_x148 c152 c297 i1u307 c321 c326 c347 bb_x359 c363 ex364))
                · refine ⟨fun c365 => ?_, fun c365 => ?_⟩
                  · refine u_X9_off_128 ?_
                    intro x366 ex366
                    exact ih320 _ _ _ _ _ _ ⟨rfl, rfl, rfl, rfl, (q1272 p_x1 c5 p_x148 bb_x148 c152 c297 i1u307 c321 c326 c347 bb_x359 c363 c365 ex366)⟩ (mu_up (q1273 p_x1 c5 p_x148 bb_x148 c152 c297 i1u307 c321 c326 c347 bb_x359 c363 c365 ex366) (q1274 p_x1 c5 p_x148 bb_x148 c152 c297 i1u307 c321 c326 c347 bb_x359 c363 c365 ex366))
                  · refine u_X9_off_128 ?_
                    intro x367 ex367
                    exact ih320 _ _ _ _ _ _ ⟨rfl, rfl, rfl, rfl, (q1275 p_x1 c5 p_x148 bb_x148 c152 c297 i1u307 c321 c326 c347 bb_x359 c363 ex367)⟩ (mu_up (q1276 p_x1 c5 p_x148 bb_x148 c152 c297 i1u307 c321 c326 c347 bb_x359 c363 ex367) (q1277 p_x1 c5 p_x148 bb_x148 c152 c297 i1u307 c321 c326 c347 bb_x359 c363 ex367))
        · exact hq _ _ hI g0 f0
      · intro _ _
        refine ⟨fun c369 => ?_, fun c369 => ?_⟩
        · obtain ⟨a370, ea370, o_a370, -⟩ := sh 4 rfl hI o_v0
          refine ⟨a370, ea370, ?_⟩
          obtain ⟨a371, ea371, o_a371, -⟩ := sh 1 rfl hI o_v0
          refine ⟨a371, ea371, ?_⟩
          obtain ⟨a372, ea372, o_a372, -⟩ := sh 3 rfl hI o_v0
          refine ⟨a372, ea372, ?_⟩
          refine ⟨o_a370, ?_⟩
          refine m_X7_reckon hI o_a370 o_a371 o_a372 (q1278 p_x1 c5 p_x148 bb_x148 c152 c297 c369) (fun S374 hJ g375 fc376 => ?_)
          have hI := hJ
          have d_y296 := d_y296.trans (fri_at fc376 (by decide) (by decide) o_v0).symm
          have ea370 := (frr_at fc376 (by decide) (by decide) o_v0).trans ea370
          have ea371 := (frr_at fc376 (by decide) (by decide) o_v0).trans ea371
          have ea372 := (frr_at fc376 (by decide) (by decide) o_v0).trans ea372
          have f0 := fri_tr (S := S295) g0 f0 fc376 (by decide) (by decide)
          have o_a370 := gr_ob g375 o_a370
          have o_a371 := gr_ob g375 o_a371
          have o_a372 := gr_ob g375 o_a372
          have o_v0 := gr_ob g375 o_v0
          have g0 := gr_tr (T := S295) g0 g375
          intro _
          refine i_X9_off_62 (fun (y0 : Nat) (y2 : Int32) (y4 : Int32) (y6 : Int32) (y7 : Int32) (Z : HS) => ((2147483647 : Int32).toInt - y7.toInt).toNat) (fun (y0 : Nat) (y2 : Int32) (y4 : Int32) (y6 : Int32) (y7 : Int32) (Z : HS) => (S374 = Z) ∧ (v0 = y0) ∧ (v2 = y2) ∧ (v4 = y4) ∧ (0 ≤ y7)) ?_ _ _ _ _ _ _ ⟨rfl, rfl, rfl, rfl, (q1279 p_x1 c5 p_x148 bb_x148 c152 c297 c369)⟩
          intro w381 w383 w385 w387 w388 S378 X389 ⟨eS378, q382, q384, q386, i1u377⟩ ih390
          subst q382
          subst q384
          subst q386
          subst eS378
          refine u_X9_off_62 ?_
          refine ⟨fun c391 => ?_, fun c391 => ?_⟩
          · refine ⟨fun c392 => ?_, fun c392 => ?_⟩
            · exact hq _ _ hI g0 f0
            · refine ⟨o_v0, ?_⟩
              refine u_X9_refuse ?_
              refine u_X9_refuse_0 ?_
              refine ⟨o_v0, ?_⟩
              intro S393 eS393
              have hI : IV S393 := by rw [eS393]; exact iv_sI hI o_v0 (by decide) (nu_free (by decide))
              have f0 := fr_I eS393 g0 f0 o_v0 (by decide)
              obtain ⟨y394, hy394⟩ : ∃ z : Int32, z = (6 : Int32) := ⟨_, rfl⟩
              have d_y394 := rd_Is eS393 hy394
              have ea370 := rf_I eS393 ea370
              have ea371 := rf_I eS393 ea371
              have ea372 := rf_I eS393 ea372
              have g0 := gr_I eS393 g0
              have o_a370 := ob_I eS393 o_a370
              have o_a371 := ob_I eS393 o_a371
              have o_a372 := ob_I eS393 o_a372
              have o_v0 := ob_I eS393 o_v0
              intro _
              exact hq _ _ hI g0 f0
          · refine ⟨fun c396 => ?_, fun c396 => ?_⟩
            · refine u_X9_off_99 ?_
              refine u_X9_off_104 ?_
              refine ⟨o_v0, ?_⟩
              refine ⟨a370, ea370, ?_⟩
              refine ⟨o_a370, ?_⟩
              refine m_X7_isOpen hI o_a370 (fun x398 S399 hI2 g400 b_x398 p_x398 => ?_)
              subst p_x398
              intro _ _
              have bb_x398 : x398 = 0 ∨ x398 = 1 := b_x398
              refine ⟨fun c402 => ?_, fun c402 => ?_⟩
              · refine u_X9_off_128 ?_
                intro x403 ex403
                exact ih390 _ _ _ _ _ _ ⟨rfl, rfl, rfl, rfl, (q1280 p_x1 c5 p_x148 bb_x148 c152 c297 c369 i1u377 c391 c396 bb_x398 c402 ex403)⟩ (mu_up (q1281 p_x1 c5 p_x148 bb_x148 c152 c297 c369 i1u377 c391 c396 bb_x398 c402 ex403) (q1282 p_x1 c5 p_x148 bb_x148 c152 c297 c369 i1u377 c391 c396 bb_x398 c402 ex403))
              · refine ⟨fun c404 => ?_, fun c404 => ?_⟩
                · refine u_X9_off_128 ?_
                  intro x405 ex405
                  exact ih390 _ _ _ _ _ _ ⟨rfl, rfl, rfl, rfl, (q1283 p_x1 c5 p_x148 bb_x148 c152 c297 c369 i1u377 c391 c396 bb_x398 c402 c404 ex405)⟩ (mu_up (q1284 p_x1 c5 p_x148 bb_x148 c152 c297 c369 i1u377 c391 c396 bb_x398 c402 c404 ex405) (q1285 p_x1 c5 p_x148 bb_x148 c152 c297 c369 i1u377 c391 c396 bb_x398 c402 c404 ex405))
                · refine u_X9_off_128 ?_
                  intro x406 ex406
                  exact ih390 _ _ _ _ _ _ ⟨rfl, rfl, rfl, rfl, (q1286 p_x1 c5 p_x148 bb_x148 c152 c297 c369 i1u377 c391 c396 bb_x398 c402 ex406)⟩ (mu_up (q1287 p_x1 c5 p_x148 bb_x148 c152 c297 c369 i1u377 c391 c396 bb_x398 c402 ex406) (q1288 p_x1 c5 p_x148 bb_x148 c152 c297 c369 i1u377 c391 c396 bb_x398 c402 ex406))
            · refine ⟨o_v0, ?_⟩
              refine ⟨a370, ea370, ?_⟩
              refine ⟨o_a370, ?_⟩
              refine m_X7_meanFrom hI o_a370 (fun x408 S409 hI2 g410 p_x408 => ?_)
              subst p_x408
              intro _
              refine ⟨a370, ea370, ?_⟩
              refine ⟨o_a370, ?_⟩
              refine m_X7_meanFrom hI o_a370 (fun x413 S414 hI2 g415 p_x413 => ?_)
              subst p_x413
              intro _
              refine ⟨fun c417 => ?_, fun c417 => ?_⟩
              · refine u_X9_off_104 ?_
                refine ⟨o_v0, ?_⟩
                refine ⟨a370, ea370, ?_⟩
                refine ⟨o_a370, ?_⟩
                refine m_X7_isOpen hI o_a370 (fun x419 S420 hI2 g421 b_x419 p_x419 => ?_)
                subst p_x419
                intro _ _
                have bb_x419 : x419 = 0 ∨ x419 = 1 := b_x419
                refine ⟨fun c423 => ?_, fun c423 => ?_⟩
                · refine u_X9_off_128 ?_
                  intro x424 ex424
                  exact ih390 _ _ _ _ _ _ ⟨rfl, rfl, rfl, rfl, (q1289 p_x1 c5 p_x148 bb_x148 c152 c297 c369 i1u377 c391 c396 c417 bb_x419 c423 ex424)⟩ (mu_up (q1290 p_x1 c5 p_x148 bb_x148 c152 c297 c369 i1u377 c391 c396 c417 bb_x419 c423 ex424) (q1291 p_x1 c5 p_x148 bb_x148 c152 c297 c369 i1u377 c391 c396 c417 bb_x419 c423 ex424))
                · refine ⟨fun c425 => ?_, fun c425 => ?_⟩
                  · refine u_X9_off_128 ?_
                    intro x426 ex426
                    exact ih390 _ _ _ _ _ _ ⟨rfl, rfl, rfl, rfl, (q1292 p_x1 c5 p_x148 bb_x148 c152 c297 c369 i1u377 c391 c396 c417 bb_x419 c423 ex426)⟩ (mu_up (q1293 p_x1 c5 p_x148 bb_x148 c152 c297 c369 i1u377 c391 c396 c417 bb_x419 c423 ex426) (q1294 p_x1 c5 p_x148 bb_x148 c152 c297 c369 i1u377 c391 c396 c417 bb_x419 c423 ex426))
                  · refine u_X9_off_128 ?_
                    intro x427 ex427
                    exact ih390 _ _ _ _ _ _ ⟨rfl, rfl, rfl, rfl, (q1295 p_x1 c5 p_x148 bb_x148 c152 c297 c369 i1u377 c391 c396 c417 bb_x419 c423 c425 ex427)⟩ (mu_up (q1296 p_x1 c5 p_x148 bb_x148 c152 c297 c369 i1u377 c391 c396 c417 bb_x419 c423 c425 ex427) (q1297 p_x1 c5 p_x148 bb_x148 c152 c297 c369 i1u377 c391 c396 c417 bb_x419 c423 c425 ex427))
              · refine u_X9_off_99 ?_
                refine u_X9_off_104 ?_
                refine ⟨o_v0, ?_⟩
                refine ⟨a370, ea370, ?_⟩
                refine ⟨o_a370, ?_⟩
                refine m_X7_isOpen hI o_a370 (fun x429 S430 hI2 g431 b_x429 p_x429 => ?_)
                subst p_x429
                intro _ _
                have bb_x429 : x429 = 0 ∨ x429 = 1 := b_x429
                refine ⟨fun c433 => ?_, fun c433 => ?_⟩
                · refine u_X9_off_128 ?_
                  intro x434 ex434
                  exact ih390 _ _ _ _ _ _ ⟨rfl, rfl, rfl, rfl, (q1298 p_x1 c5 p_x148 bb_x148 c152 c297 c369 i1u377 c391 c396 c417 bb_x429 c433 ex434)⟩ (mu_up (q1299 p_x1 c5 p_x148 bb_x148 c152 c297 c369 i1u377 c391 c396 c417 bb_x429 c433 ex434) (q1300 p_x1 c5 p_x148 bb_x148 c152 c297 c369 i1u377 c391 c396 c417 bb_x429 c433 ex434))
                · refine ⟨fun c435 => ?_, fun c435 => ?_⟩
                  · refine u_X9_off_128 ?_
                    intro x436 ex436
                    exact ih390 _ _ _ _ _ _ ⟨rfl, rfl, rfl, rfl, (q1301 p_x1 c5 p_x148 bb_x148 c152 c297 c369 i1u377 c391 c396 c417 bb_x429 c433 c435 ex436)⟩ (mu_up (q1302 p_x1 c5 p_x148 bb_x148 c152 c297 c369 i1u377 c391 c396 c417 bb_x429 c433 c435 ex436) (q1303 p_x1 c5 p_x148 bb_x148 c152 c297 c369 i1u377 c391 c396 c417 bb_x429 c433 c435 ex436))
                  · refine u_X9_off_128 ?_
                    intro x437 ex437
                    exact ih390 _ _ _ _ _ _ ⟨rfl, rfl, rfl, rfl, (q1304 p_x1 c5 p_x148 bb_x148 c152 c297 c369 i1u377 c391 c396 c417 bb_x429 c433 ex437)⟩ (mu_up (q1305 p_x1 c5 p_x148 bb_x148 c152 c297 c369 i1u377 c391 c396 c417 bb_x429 c433 ex437) (q1306 p_x1 c5 p_x148 bb_x148 c152 c297 c369 i1u377 c391 c396 c417 bb_x429 c433 ex437))
        · exact hq _ _ hI g0 f0
