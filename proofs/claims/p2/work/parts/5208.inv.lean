set_option maxHeartbeats 4000000 in
set_option maxRecDepth 20000 in
theorem m_X8_hourOf {v0 : Nat} {v1 : Int32} {Q : Int32 → HS → Prop} {S : HS} (hI : IV S) (o_v0 : ob S v0 8)     (hq : ∀ (r : Int32) (T : HS), IV T → Gr S T → (S = T) → Q r T) : P_X8_hourOf v0 v1 Q S := by
  have g0 := gr_rf S
  refine u_X8_hourOf ?_
  refine u_X8_hourOf_0 ?_
  refine ⟨o_v0, ?_⟩
  intro x1 ex1
  have r_x1 : (0 : Int32) ≤ x1 ∧ x1 ≤ (60 : Int32) := by rw [ex1]; exact nu 10 rfl hI o_v0
  have d_x1 := ex1
  refine ⟨fun c2 => ?_, fun c2 => ?_⟩
  · exact hq _ _ hI g0 rfl
  · intro x3 ex3
    have r_x3 : (0 : Int32) ≤ x3 ∧ x3 ≤ (60 : Int32) := by rw [ex3]; exact nu 10 rfl hI o_v0
    have q_x3 : x3 = x1 := ex3.trans d_x1.symm
    have d_x3 := ex3
    refine ⟨(q203 r_x1 c2 r_x3 q_x3), ?_⟩
    intro x4 ex4
    exact hq _ _ hI g0 rfl
set_option maxHeartbeats 4000000 in
set_option maxRecDepth 20000 in
theorem m_X7_reckon {v0 : Nat} {v1 : Nat} {v2 : Nat} {v3 : Int32} {v4 : Int32} {v5 : Int32} {v6 : Int32} {Q : HS → Prop} {S : HS} (hI : IV S) (o_v0 : ob S v0 7) (o_v1 : ob S v1 8) (o_v2 : ob S v2 1)   (h5 : 0 ≤ v5 ∧ v5 ≤ 400)  (hq : ∀ (T : HS), IV T → Gr S T → FRI [(7, 3), (7, 9), (7, 10), (7, 11), (7, 12), (7, 13)] [(7, 0), (7, 1), (7, 2), (7, 4), (7, 5), (7, 6), (7, 7), (7, 8)] S T → Q T) : P_X7_reckon v0 v1 v2 v3 v4 v5 v6 Q S := by
  have g0 := gr_rf S
  have f0 := fri_rf [(7, 3), (7, 9), (7, 10), (7, 11), (7, 12), (7, 13)] [(7, 0), (7, 1), (7, 2), (7, 4), (7, 5), (7, 6), (7, 7), (7, 8)] S
  refine u_X7_reckon ?_
  refine u_X7_reckon_0 ?_
  refine ⟨o_v0, ?_⟩
  obtain ⟨a1, ea1, o_a1, -⟩ := sh 22 rfl hI o_v0
  have l_a1 := wm hM 1 rfl ea1
  refine ⟨a1, ea1, ?_⟩
  refine ⟨o_a1, ?_⟩
  have n_a1 : nI (hN S a1) = 3208 := by rw [show hN S a1 = 3208 from l_a1]; decide
  refine ⟨fun c2 => ?_, fun c2 => ?_⟩
  · rw [n_a1] at c2
    have hM := wm_of hI o_v0 ea1 c2
    refine u_X7_reckon_12 ?_
    refine ⟨o_v0, ?_⟩
    intro x3 ex3
    have d_x3 := ex3
    refine ⟨fun c4 => ?_, fun c4 => ?_⟩
    · refine u_X7_reckon_38 ?_
      refine ⟨o_v0, ?_⟩
      intro S5 eS5
      have hI : IV S5 := by rw [eS5]; exact iv_sI hI o_v0 (by decide) (nu_free (by decide))
      have f0 := fr_I eS5 g0 f0 o_v0 (by decide)
      have d_v3 := rd_Is eS5 (rfl : v3 = v3)
      have ea1 := rf_I eS5 ea1
      have l_a1 := ln_I eS5 l_a1
      have g0 := gr_I eS5 g0
      have o_a1 := ob_I eS5 o_a1
      have o_v0 := ob_I eS5 o_v0
      have o_v1 := ob_I eS5 o_v1
      have o_v2 := ob_I eS5 o_v2
      intro S6 eS6
      have hI : IV S6 := by rw [eS6]; exact iv_sI hI o_v0 (by decide) (nu_free (by decide))
      have f0 := fr_I eS6 g0 f0 o_v0 (by decide)
      have d_v3 := rd_Ij eS6 (by decide) d_v3
      have d_v4 := rd_Is eS6 (rfl : v4 = v4)
      have ea1 := rf_I eS6 ea1
      have l_a1 := ln_I eS6 l_a1
      have g0 := gr_I eS6 g0
      have o_a1 := ob_I eS6 o_a1
      have o_v0 := ob_I eS6 o_v0
      have o_v1 := ob_I eS6 o_v1
      have o_v2 := ob_I eS6 o_v2
      intro S7 eS7
      have hI : IV S7 := by rw [eS7]; exact iv_sI hI o_v0 (by decide) (nu_free (by decide))
      have f0 := fr_I eS7 g0 f0 o_v0 (by decide)
      have d_v3 := rd_Ij eS7 (by decide) d_v3
      have d_v4 := rd_Ij eS7 (by decide) d_v4
      have d_v5 := rd_Is eS7 (rfl : v5 = v5)
      have ea1 := rf_I eS7 ea1
      have l_a1 := ln_I eS7 l_a1
      have g0 := gr_I eS7 g0
      have o_a1 := ob_I eS7 o_a1
      have o_v0 := ob_I eS7 o_v0
      have o_v1 := ob_I eS7 o_v1
      have o_v2 := ob_I eS7 o_v2
      intro x8 ex8
      intro S9 eS9
      have hI : IV S9 := by rw [eS9]; exact iv_sI hI o_v0 (by decide) (nu_one (lo := (0 : Int32)) (hi := (401 : Int32)) (by decide) (q109 h5 c2 c4 ex8))
      have f0 := fr_I eS9 g0 f0 o_v0 (by decide)
      have d_v3 := rd_Ij eS9 (by decide) d_v3
      have d_v4 := rd_Ij eS9 (by decide) d_v4
      have d_v5 := rd_Ij eS9 (by decide) d_v5
      have d_x8 := rd_Is eS9 (rfl : x8 = x8)
      have ea1 := rf_I eS9 ea1
      have l_a1 := ln_I eS9 l_a1
      have g0 := gr_I eS9 g0
      have o_a1 := ob_I eS9 o_a1
      have o_v0 := ob_I eS9 o_v0
      have o_v1 := ob_I eS9 o_v1
      have o_v2 := ob_I eS9 o_v2
      intro S10 eS10
      have hI : IV S10 := by rw [eS10]; exact iv_sI hI o_v0 (by decide) (nu_free (by decide))
      have f0 := fr_I eS10 g0 f0 o_v0 (by decide)
      have d_v3 := rd_Ij eS10 (by decide) d_v3
      have d_v4 := rd_Ij eS10 (by decide) d_v4
      have d_v5 := rd_Ij eS10 (by decide) d_v5
      have d_x8 := rd_Ij eS10 (by decide) d_x8
      obtain ⟨y11, hy11⟩ : ∃ z : Int32, z = (-1 : Int32) := ⟨_, rfl⟩
      have d_y11 := rd_Is eS10 hy11
      have ea1 := rf_I eS10 ea1
      have l_a1 := ln_I eS10 l_a1
      have g0 := gr_I eS10 g0
      have o_a1 := ob_I eS10 o_a1
      have o_v0 := ob_I eS10 o_v0
      have o_v1 := ob_I eS10 o_v1
      have o_v2 := ob_I eS10 o_v2
      refine u_X7_reckon_68 ?_
      refine ⟨o_v0, ?_⟩
      intro x12 ex12
      have r_x12 : (0 : Int32) ≤ x12 ∧ x12 ≤ (401 : Int32) := by rw [ex12]; exact nu 9 rfl hI o_v0
      have q_x12 : x12 = x8 := ex12.trans d_x8.symm
      have d_x12 := ex12
      intro x13 ex13
      refine i_X7_reckon_76 (fun (y0 : Nat) (y1 : Nat) (y2 : Nat) (y6 : Int32) (y7 : Int32) (Z : HS) => (y7.toInt - (-1 : Int32).toInt).toNat) (fun (y0 : Nat) (y1 : Nat) (y2 : Nat) (y6 : Int32) (y7 : Int32) (Z : HS) => (IV Z) ∧ (Gr S10 Z) ∧ (FRI [(7, 3), (7, 9), (7, 13)] [] S10 Z) ∧ (v0 = y0) ∧ (v1 = y1) ∧ (v2 = y2) ∧ (v6 = y6) ∧ (WM Z v0) ∧ (y7 ≤ 400)) ?_ _ _ _ _ _ _ ⟨hI, (gr_rf _), (fri_rf _ _ _), rfl, rfl, rfl, rfl, hM, (q110 h5 c2 c4 ex8 r_x12 q_x12 ex13)⟩
      intro w17 w19 w21 w23 w25 S14 X26 ⟨hI, gL15, fL16, q18, q20, q22, q24, hM, i1⟩ ih27
      subst q18
      subst q20
      subst q22
      subst q24
      have l_a1 := (gr_len gL15 o_a1).trans l_a1
      have d_v3 := d_v3.trans (fri_at fL16 (by decide) (by decide) o_v0).symm
      have d_v4 := d_v4.trans (fri_at fL16 (by decide) (by decide) o_v0).symm
      have d_v5 := d_v5.trans (fri_at fL16 (by decide) (by decide) o_v0).symm
      have ea1 := (frr_at fL16 (by decide) (by decide) o_v0).trans ea1
      have f0 := fri_tr (S := S10) g0 f0 fL16 (by decide) (by decide)
      have o_a1 := gr_ob gL15 o_a1
      have o_v0 := gr_ob gL15 o_v0
      have o_v1 := gr_ob gL15 o_v1
      have o_v2 := gr_ob gL15 o_v2
      have g0 := gr_tr (T := S10) g0 gL15
      refine u_X7_reckon_76 ?_
      refine ⟨fun c28 => ?_, fun c28 => ?_⟩
      · exact hq _ hI g0 f0
      · refine ⟨fun c29 => ?_, fun c29 => ?_⟩
        · exact hq _ hI g0 f0
        · refine ⟨o_v1, ?_⟩
          refine m_X8_hourOf hI o_v1 (fun x30 S31 hI2 g32 p_x30 => ?_)
          subst p_x30
          intro _
          intro x34 ex34
          have r_x34 : (0 : Int32) ≤ x34 ∧ x34 ≤ (6 : Int32) := by rw [ex34]; exact nu 11 rfl hI o_v1
          have d_x34 := ex34
          intro x35 ex35
          refine ⟨o_v0, ?_⟩
          intro x36 ex36
          have d_x36 := ex36
          refine ⟨fun c37 => ?_, fun c37 => ?_⟩
          · refine u_X7_reckon_120 ?_
            refine ⟨o_v1, ?_⟩
            intro x38 ex38
            have r_x38 : (0 : Int32) ≤ x38 ∧ x38 ≤ (8 : Int32) := by rw [ex38]; exact nu 12 rfl hI o_v1
            have d_x38 := ex38
            refine ⟨o_v0, ?_⟩
            refine m_X7_reckonMinute hI o_v0 (q111 c2 c4 i1 c28 c29 r_x34 ex35 c37) hM (fun S40 hI g41 fc42 p_S40 => ?_)
            have hM := p_S40
            have l_a1 := (gr_len g41 o_a1).trans l_a1
            have d_v3 := d_v3.trans (fri_at fc42 (by decide) (by decide) o_v0).symm
            have d_v4 := d_v4.trans (fri_at fc42 (by decide) (by decide) o_v0).symm
            have d_v5 := d_v5.trans (fri_at fc42 (by decide) (by decide) o_v0).symm
            have d_x34 := d_x34.trans (fri_at fc42 (by decide) (by decide) o_v1).symm
            have d_x36 := d_x36.trans (fri_at fc42 (by decide) (by decide) o_v0).symm
            have d_x38 := d_x38.trans (fri_at fc42 (by decide) (by decide) o_v1).symm
            have ea1 := (frr_at fc42 (by decide) (by decide) o_v0).trans ea1
            have f0 := fri_tr (S := S14) g0 f0 fc42 (by decide) (by decide)
            have fL16 := fri_tr (S := S14) gL15 fL16 fc42 (by decide) (by decide)
            have o_a1 := gr_ob g41 o_a1
            have o_v0 := gr_ob g41 o_v0
            have o_v1 := gr_ob g41 o_v1
            have o_v2 := gr_ob g41 o_v2
            have g0 := gr_tr (T := S14) g0 g41
            have gL15 := gr_tr (T := S14) gL15 g41
            intro _
            intro S43 eS43
            have hI : IV S43 := by rw [eS43]; exact iv_sI hI o_v0 (by decide) (nu_one (lo := (0 : Int32)) (hi := (401 : Int32)) (by decide) (q112 c2 c4 i1 c28 c29 r_x34 ex35 c37))
            have f0 := fr_I eS43 g0 f0 o_v0 (by decide)
            have fL16 := fr_I eS43 gL15 fL16 o_v0 (by decide)
            have d_v3 := rd_Ij eS43 (by decide) d_v3
            have d_v4 := rd_Ij eS43 (by decide) d_v4
            have d_v5 := rd_Ij eS43 (by decide) d_v5
            have d_x34 := rd_Ik eS43 o_v0 o_v1 (by decide) d_x34
            have d_x36 := rd_Ij eS43 (by decide) d_x36
            have d_x38 := rd_Ik eS43 o_v0 o_v1 (by decide) d_x38
            have d_w25 := rd_Is eS43 (rfl : w25 = w25)
            have ea1 := rf_I eS43 ea1
            have hM := wm_I eS43 hM
            have l_a1 := ln_I eS43 l_a1
            have g0 := gr_I eS43 g0
            have gL15 := gr_I eS43 gL15
            have o_a1 := ob_I eS43 o_a1
            have o_v0 := ob_I eS43 o_v0
            have o_v1 := ob_I eS43 o_v1
            have o_v2 := ob_I eS43 o_v2
            intro x44 ex44
            exact ih27 _ _ _ _ _ _ ⟨hI, gL15, fL16, rfl, rfl, rfl, rfl, hM, (q113 c2 c4 i1 c28 c29 r_x34 ex35 c37 ex44)⟩ (mu_down (q114 c2 c4 i1 c28 c29 r_x34 ex35 c37 ex44) (q115 c2 c4 i1 c28 c29 r_x34 ex35 c37 ex44))
          · refine m_X7_price hI o_v0 o_v1 o_v2 hM (fun S46 hI g47 fc48 p_S46 => ?_)
            have hM := p_S46
            have l_a1 := (gr_len g47 o_a1).trans l_a1
            have d_v3 := d_v3.trans (fri_at fc48 (by decide) (by decide) o_v0).symm
            have d_v4 := d_v4.trans (fri_at fc48 (by decide) (by decide) o_v0).symm
            have d_v5 := d_v5.trans (fri_at fc48 (by decide) (by decide) o_v0).symm
            have d_x34 := d_x34.trans (fri_at fc48 (by decide) (by decide) o_v1).symm
            have ea1 := (frr_at fc48 (by decide) (by decide) o_v0).trans ea1
            have f0 := fri_tr (S := S14) g0 f0 fc48 (by decide) (by decide)
            have fL16 := fri_tr (S := S14) gL15 fL16 fc48 (by decide) (by decide)
            have o_a1 := gr_ob g47 o_a1
            have o_v0 := gr_ob g47 o_v0
            have o_v1 := gr_ob g47 o_v1
            have o_v2 := gr_ob g47 o_v2
            have g0 := gr_tr (T := S14) g0 g47
            have gL15 := gr_tr (T := S14) gL15 g47
            intro _
            refine u_X7_reckon_120 ?_
            refine ⟨o_v1, ?_⟩
            intro x49 ex49
            have r_x49 : (0 : Int32) ≤ x49 ∧ x49 ≤ (8 : Int32) := by rw [ex49]; exact nu 12 rfl hI o_v1
            have d_x49 := ex49
            refine ⟨o_v0, ?_⟩
            refine m_X7_reckonMinute hI o_v0 (q116 c2 c4 i1 c28 c29 r_x34 ex35 c37) hM (fun S51 hI g52 fc53 p_S51 => ?_)
            have hM := p_S51
            have l_a1 := (gr_len g52 o_a1).trans l_a1
            have d_v3 := d_v3.trans (fri_at fc53 (by decide) (by decide) o_v0).symm
            have d_v4 := d_v4.trans (fri_at fc53 (by decide) (by decide) o_v0).symm
            have d_v5 := d_v5.trans (fri_at fc53 (by decide) (by decide) o_v0).symm
            have d_x34 := d_x34.trans (fri_at fc53 (by decide) (by decide) o_v1).symm
            have d_x49 := d_x49.trans (fri_at fc53 (by decide) (by decide) o_v1).symm
            have ea1 := (frr_at fc53 (by decide) (by decide) o_v0).trans ea1
            have f0 := fri_tr (S := S46) g0 f0 fc53 (by decide) (by decide)
            have fL16 := fri_tr (S := S46) gL15 fL16 fc53 (by decide) (by decide)
            have o_a1 := gr_ob g52 o_a1
            have o_v0 := gr_ob g52 o_v0
            have o_v1 := gr_ob g52 o_v1
            have o_v2 := gr_ob g52 o_v2
            have g0 := gr_tr (T := S46) g0 g52
            have gL15 := gr_tr (T := S46) gL15 g52
            intro _
            intro S54 eS54
            have hI : IV S54 := by rw [eS54]; exact iv_sI hI o_v0 (by decide) (nu_one (lo := (0 : Int32)) (hi := (401 : Int32)) (by decide) (q117 c2 c4 i1 c28 c29 r_x34 ex35 c37))
            have f0 := fr_I eS54 g0 f0 o_v0 (by decide)
            have fL16 := fr_I eS54 gL15 fL16 o_v0 (by decide)
            have d_v3 := rd_Ij eS54 (by decide) d_v3
            have d_v4 := rd_Ij eS54 (by decide) d_v4
            have d_v5 := rd_Ij eS54 (by decide) d_v5
            have d_x34 := rd_Ik eS54 o_v0 o_v1 (by decide) d_x34
            have d_x49 := rd_Ik eS54 o_v0 o_v1 (by decide) d_x49
            have d_w25 := rd_Is eS54 (rfl : w25 = w25)
            have ea1 := rf_I eS54 ea1
            have hM := wm_I eS54 hM
            have l_a1 := ln_I eS54 l_a1
            have g0 := gr_I eS54 g0
            have gL15 := gr_I eS54 gL15
            have o_a1 := ob_I eS54 o_a1
            have o_v0 := ob_I eS54 o_v0
            have o_v1 := ob_I eS54 o_v1
            have o_v2 := ob_I eS54 o_v2
            intro x55 ex55
            exact ih27 _ _ _ _ _ _ ⟨hI, gL15, fL16, rfl, rfl, rfl, rfl, hM, (q118 c2 c4 i1 c28 c29 r_x34 ex35 c37 ex55)⟩ (mu_down (q119 c2 c4 i1 c28 c29 r_x34 ex35 c37 ex55) (q120 c2 c4 i1 c28 c29 r_x34 ex35 c37 ex55))
    · intro x56 ex56
      have d_x56 := ex56
      refine ⟨fun c57 => ?_, fun c57 => ?_⟩
      · refine u_X7_reckon_38 ?_
        refine ⟨o_v0, ?_⟩
        intro S58 eS58
        have hI : IV S58 := by rw [eS58]; exact iv_sI hI o_v0 (by decide) (nu_free (by decide))
        have f0 := fr_I eS58 g0 f0 o_v0 (by decide)
        have d_x56 := rd_Ij eS58 (by decide) d_x56
        have d_v3 := rd_Is eS58 (rfl : v3 = v3)
        have ea1 := rf_I eS58 ea1
        have l_a1 := ln_I eS58 l_a1
        have g0 := gr_I eS58 g0
        have o_a1 := ob_I eS58 o_a1
        have o_v0 := ob_I eS58 o_v0
        have o_v1 := ob_I eS58 o_v1
        have o_v2 := ob_I eS58 o_v2
        intro S59 eS59
        have hI : IV S59 := by rw [eS59]; exact iv_sI hI o_v0 (by decide) (nu_free (by decide))
        have f0 := fr_I eS59 g0 f0 o_v0 (by decide)
        have d_v3 := rd_Ij eS59 (by decide) d_v3
        have d_v4 := rd_Is eS59 (rfl : v4 = v4)
        have ea1 := rf_I eS59 ea1
        have l_a1 := ln_I eS59 l_a1
        have g0 := gr_I eS59 g0
        have o_a1 := ob_I eS59 o_a1
        have o_v0 := ob_I eS59 o_v0
        have o_v1 := ob_I eS59 o_v1
        have o_v2 := ob_I eS59 o_v2
        intro S60 eS60
        have hI : IV S60 := by rw [eS60]; exact iv_sI hI o_v0 (by decide) (nu_free (by decide))
        have f0 := fr_I eS60 g0 f0 o_v0 (by decide)
        have d_v3 := rd_Ij eS60 (by decide) d_v3
        have d_v4 := rd_Ij eS60 (by decide) d_v4
        have d_v5 := rd_Is eS60 (rfl : v5 = v5)
        have ea1 := rf_I eS60 ea1
        have l_a1 := ln_I eS60 l_a1
        have g0 := gr_I eS60 g0
        have o_a1 := ob_I eS60 o_a1
        have o_v0 := ob_I eS60 o_v0
        have o_v1 := ob_I eS60 o_v1
        have o_v2 := ob_I eS60 o_v2
        intro x61 ex61
        intro S62 eS62
        have hI : IV S62 := by rw [eS62]; exact iv_sI hI o_v0 (by decide) (nu_one (lo := (0 : Int32)) (hi := (401 : Int32)) (by decide) (q121 h5 c2 c4 c57 ex61))
        have f0 := fr_I eS62 g0 f0 o_v0 (by decide)
        have d_v3 := rd_Ij eS62 (by decide) d_v3
        have d_v4 := rd_Ij eS62 (by decide) d_v4
        have d_v5 := rd_Ij eS62 (by decide) d_v5
        have d_x61 := rd_Is eS62 (rfl : x61 = x61)
        have ea1 := rf_I eS62 ea1
        have l_a1 := ln_I eS62 l_a1
        have g0 := gr_I eS62 g0
        have o_a1 := ob_I eS62 o_a1
        have o_v0 := ob_I eS62 o_v0
        have o_v1 := ob_I eS62 o_v1
        have o_v2 := ob_I eS62 o_v2
        intro S63 eS63
        have hI : IV S63 := by rw [eS63]; exact iv_sI hI o_v0 (by decide) (nu_free (by decide))
        have f0 := fr_I eS63 g0 f0 o_v0 (by decide)
        have d_v3 := rd_Ij eS63 (by decide) d_v3
        have d_v4 := rd_Ij eS63 (by decide) d_v4
        have d_v5 := rd_Ij eS63 (by decide) d_v5
        have d_x61 := rd_Ij eS63 (by decide) d_x61
        obtain ⟨y64, hy64⟩ : ∃ z : Int32, z = (-1 : Int32) := ⟨_, rfl⟩
        have d_y64 := rd_Is eS63 hy64
        have ea1 := rf_I eS63 ea1
        have l_a1 := ln_I eS63 l_a1
        have g0 := gr_I eS63 g0
        have o_a1 := ob_I eS63 o_a1
        have o_v0 := ob_I eS63 o_v0
        have o_v1 := ob_I eS63 o_v1
        have o_v2 := ob_I eS63 o_v2
        refine u_X7_reckon_68 ?_
        refine ⟨o_v0, ?_⟩
        intro x65 ex65
        have r_x65 : (0 : Int32) ≤ x65 ∧ x65 ≤ (401 : Int32) := by rw [ex65]; exact nu 9 rfl hI o_v0
        have q_x65 : x65 = x61 := ex65.trans d_x61.symm
        have d_x65 := ex65
        intro x66 ex66
        refine i_X7_reckon_76 (fun (y0 : Nat) (y1 : Nat) (y2 : Nat) (y6 : Int32) (y7 : Int32) (Z : HS) => (y7.toInt - (-1 : Int32).toInt).toNat) (fun (y0 : Nat) (y1 : Nat) (y2 : Nat) (y6 : Int32) (y7 : Int32) (Z : HS) => (IV Z) ∧ (Gr S63 Z) ∧ (FRI [(7, 3), (7, 9), (7, 13)] [] S63 Z) ∧ (v0 = y0) ∧ (v1 = y1) ∧ (v2 = y2) ∧ (v6 = y6) ∧ (WM Z v0) ∧ (y7 ≤ 400)) ?_ _ _ _ _ _ _ ⟨hI, (gr_rf _), (fri_rf _ _ _), rfl, rfl, rfl, rfl, hM, (q122 h5 c2 c4 c57 ex61 r_x65 q_x65 ex66)⟩
        intro w70 w72 w74 w76 w78 S67 X79 ⟨hI, gL68, fL69, q71, q73, q75, q77, hM, i1⟩ ih80
        subst q71
        subst q73
        subst q75
        subst q77
        have l_a1 := (gr_len gL68 o_a1).trans l_a1
        have d_v3 := d_v3.trans (fri_at fL69 (by decide) (by decide) o_v0).symm
        have d_v4 := d_v4.trans (fri_at fL69 (by decide) (by decide) o_v0).symm
        have d_v5 := d_v5.trans (fri_at fL69 (by decide) (by decide) o_v0).symm
        have ea1 := (frr_at fL69 (by decide) (by decide) o_v0).trans ea1
        have f0 := fri_tr (S := S63) g0 f0 fL69 (by decide) (by decide)
        have o_a1 := gr_ob gL68 o_a1
        have o_v0 := gr_ob gL68 o_v0
        have o_v1 := gr_ob gL68 o_v1
        have o_v2 := gr_ob gL68 o_v2
        have g0 := gr_tr (T := S63) g0 gL68
        refine u_X7_reckon_76 ?_
        refine ⟨fun c81 => ?_, fun c81 => ?_⟩
        · exact hq _ hI g0 f0
        · refine ⟨fun c82 => ?_, fun c82 => ?_⟩
          · exact hq _ hI g0 f0
          · refine ⟨o_v1, ?_⟩
            refine m_X8_hourOf hI o_v1 (fun x83 S84 hI2 g85 p_x83 => ?_)
            subst p_x83
            intro _
            intro x87 ex87
            have r_x87 : (0 : Int32) ≤ x87 ∧ x87 ≤ (6 : Int32) := by rw [ex87]; exact nu 11 rfl hI o_v1
            have d_x87 := ex87
            intro x88 ex88
            refine ⟨o_v0, ?_⟩
            intro x89 ex89
            have d_x89 := ex89
            refine ⟨fun c90 => ?_, fun c90 => ?_⟩
            · refine u_X7_reckon_120 ?_
              refine ⟨o_v1, ?_⟩
              intro x91 ex91
              have r_x91 : (0 : Int32) ≤ x91 ∧ x91 ≤ (8 : Int32) := by rw [ex91]; exact nu 12 rfl hI o_v1
              have d_x91 := ex91
              refine ⟨o_v0, ?_⟩
              refine m_X7_reckonMinute hI o_v0 (q123 c2 c4 c57 i1 c81 c82 r_x87 ex88 c90) hM (fun S93 hI g94 fc95 p_S93 => ?_)
              have hM := p_S93
              have l_a1 := (gr_len g94 o_a1).trans l_a1
              have d_v3 := d_v3.trans (fri_at fc95 (by decide) (by decide) o_v0).symm
              have d_v4 := d_v4.trans (fri_at fc95 (by decide) (by decide) o_v0).symm
              have d_v5 := d_v5.trans (fri_at fc95 (by decide) (by decide) o_v0).symm
              have d_x87 := d_x87.trans (fri_at fc95 (by decide) (by decide) o_v1).symm
              have d_x89 := d_x89.trans (fri_at fc95 (by decide) (by decide) o_v0).symm
              have d_x91 := d_x91.trans (fri_at fc95 (by decide) (by decide) o_v1).symm
              have ea1 := (frr_at fc95 (by decide) (by decide) o_v0).trans ea1
              have f0 := fri_tr (S := S67) g0 f0 fc95 (by decide) (by decide)
              have fL69 := fri_tr (S := S67) gL68 fL69 fc95 (by decide) (by decide)
              have o_a1 := gr_ob g94 o_a1
              have o_v0 := gr_ob g94 o_v0
              have o_v1 := gr_ob g94 o_v1
              have o_v2 := gr_ob g94 o_v2
              have g0 := gr_tr (T := S67) g0 g94
              have gL68 := gr_tr (T := S67) gL68 g94
              intro _
              intro S96 eS96
              have hI : IV S96 := by rw [eS96]; exact iv_sI hI o_v0 (by decide) (nu_one (lo := (0 : Int32)) (hi := (401 : Int32)) (by decide) (q124 c2 c4 c57 i1 c81 c82 r_x87 ex88 c90))
              have f0 := fr_I eS96 g0 f0 o_v0 (by decide)
              have fL69 := fr_I eS96 gL68 fL69 o_v0 (by decide)
              have d_v3 := rd_Ij eS96 (by decide) d_v3
              have d_v4 := rd_Ij eS96 (by decide) d_v4
              have d_v5 := rd_Ij eS96 (by decide) d_v5
              have d_x87 := rd_Ik eS96 o_v0 o_v1 (by decide) d_x87
              have d_x89 := rd_Ij eS96 (by decide) d_x89
              have d_x91 := rd_Ik eS96 o_v0 o_v1 (by decide) d_x91
              have d_w78 := rd_Is eS96 (rfl : w78 = w78)
              have ea1 := rf_I eS96 ea1
              have hM := wm_I eS96 hM
              have l_a1 := ln_I eS96 l_a1
              have g0 := gr_I eS96 g0
              have gL68 := gr_I eS96 gL68
              have o_a1 := ob_I eS96 o_a1
              have o_v0 := ob_I eS96 o_v0
              have o_v1 := ob_I eS96 o_v1
              have o_v2 := ob_I eS96 o_v2
              intro x97 ex97
              exact ih80 _ _ _ _ _ _ ⟨hI, gL68, fL69, rfl, rfl, rfl, rfl, hM, (q125 c2 c4 c57 i1 c81 c82 r_x87 ex88 c90 ex97)⟩ (mu_down (q126 c2 c4 c57 i1 c81 c82 r_x87 ex88 c90 ex97) (q127 c2 c4 c57 i1 c81 c82 r_x87 ex88 c90 ex97))
            · refine m_X7_price hI o_v0 o_v1 o_v2 hM (fun S99 hI g100 fc101 p_S99 => ?_)
              have hM := p_S99
              have l_a1 := (gr_len g100 o_a1).trans l_a1
              have d_v3 := d_v3.trans (fri_at fc101 (by decide) (by decide) o_v0).symm
              have d_v4 := d_v4.trans (fri_at fc101 (by decide) (by decide) o_v0).symm
              have d_v5 := d_v5.trans (fri_at fc101 (by decide) (by decide) o_v0).symm
              have d_x87 := d_x87.trans (fri_at fc101 (by decide) (by decide) o_v1).symm
              have ea1 := (frr_at fc101 (by decide) (by decide) o_v0).trans ea1
              have f0 := fri_tr (S := S67) g0 f0 fc101 (by decide) (by decide)
              have fL69 := fri_tr (S := S67) gL68 fL69 fc101 (by decide) (by decide)
              have o_a1 := gr_ob g100 o_a1
              have o_v0 := gr_ob g100 o_v0
              have o_v1 := gr_ob g100 o_v1
              have o_v2 := gr_ob g100 o_v2
              have g0 := gr_tr (T := S67) g0 g100
              have gL68 := gr_tr (T := S67) gL68 g100
              intro _
              refine u_X7_reckon_120 ?_
              refine ⟨o_v1, ?_⟩
              intro x102 ex102
              have r_x102 : (0 : Int32) ≤ x102 ∧ x102 ≤ (8 : Int32) := by rw [ex102]; exact nu 12 rfl hI o_v1
              have d_x102 := ex102
              refine ⟨o_v0, ?_⟩
              refine m_X7_reckonMinute hI o_v0 (q128 c2 c4 c57 i1 c81 c82 r_x87 ex88 c90) hM (fun S104 hI g105 fc106 p_S104 => ?_)
              have hM := p_S104
              have l_a1 := (gr_len g105 o_a1).trans l_a1
              have d_v3 := d_v3.trans (fri_at fc106 (by decide) (by decide) o_v0).symm
              have d_v4 := d_v4.trans (fri_at fc106 (by decide) (by decide) o_v0).symm
              have d_v5 := d_v5.trans (fri_at fc106 (by decide) (by decide) o_v0).symm
              have d_x87 := d_x87.trans (fri_at fc106 (by decide) (by decide) o_v1).symm
              have d_x102 := d_x102.trans (fri_at fc106 (by decide) (by decide) o_v1).symm
              have ea1 := (frr_at fc106 (by decide) (by decide) o_v0).trans ea1
              have f0 := fri_tr (S := S99) g0 f0 fc106 (by decide) (by decide)
              have fL69 := fri_tr (S := S99) gL68 fL69 fc106 (by decide) (by decide)
              have o_a1 := gr_ob g105 o_a1
              have o_v0 := gr_ob g105 o_v0
              have o_v1 := gr_ob g105 o_v1
              have o_v2 := gr_ob g105 o_v2
              have g0 := gr_tr (T := S99) g0 g105
              have gL68 := gr_tr (T := S99) gL68 g105
              intro _
              intro S107 eS107
              have hI : IV S107 := by rw [eS107]; exact iv_sI hI o_v0 (by decide) (nu_one (lo := (0 : Int32)) (hi := (401 : Int32)) (by decide) (q129 c2 c4 c57 i1 c81 c82 r_x87 ex88 c90))
              have f0 := fr_I eS107 g0 f0 o_v0 (by decide)
              have fL69 := fr_I eS107 gL68 fL69 o_v0 (by decide)
              have d_v3 := rd_Ij eS107 (by decide) d_v3
              have d_v4 := rd_Ij eS107 (by decide) d_v4
              have d_v5 := rd_Ij eS107 (by decide) d_v5
              have d_x87 := rd_Ik eS107 o_v0 o_v1 (by decide) d_x87
              have d_x102 := rd_Ik eS107 o_v0 o_v1 (by decide) d_x102
              have d_w78 := rd_Is eS107 (rfl : w78 = w78)
              have ea1 := rf_I eS107 ea1
              have hM := wm_I eS107 hM
              have l_a1 := ln_I eS107 l_a1
              have g0 := gr_I eS107 g0
              have gL68 := gr_I eS107 gL68
              have o_a1 := ob_I eS107 o_a1
              have o_v0 := ob_I eS107 o_v0
              have o_v1 := ob_I eS107 o_v1
              have o_v2 := ob_I eS107 o_v2
              intro x108 ex108
              exact ih80 _ _ _ _ _ _ ⟨hI, gL68, fL69, rfl, rfl, rfl, rfl, hM, (q130 c2 c4 c57 i1 c81 c82 r_x87 ex88 c90 ex108)⟩ (mu_down (q131 c2 c4 c57 i1 c81 c82 r_x87 ex88 c90 ex108) (q132 c2 c4 c57 i1 c81 c82 r_x87 ex88 c90 ex108))
      · intro x109 ex109
        have d_x109 := ex109
        refine ⟨fun c110 => ?_, fun c110 => ?_⟩
        · refine u_X7_reckon_68 ?_
          refine ⟨o_v0, ?_⟩
          intro x111 ex111
          have r_x111 : (0 : Int32) ≤ x111 ∧ x111 ≤ (401 : Int32) := by rw [ex111]; exact nu 9 rfl hI o_v0
          have d_x111 := ex111
          intro x112 ex112
          refine i_X7_reckon_76 (fun (y0 : Nat) (y1 : Nat) (y2 : Nat) (y6 : Int32) (y7 : Int32) (Z : HS) => (y7.toInt - (-1 : Int32).toInt).toNat) (fun (y0 : Nat) (y1 : Nat) (y2 : Nat) (y6 : Int32) (y7 : Int32) (Z : HS) => (IV Z) ∧ (Gr S Z) ∧ (FRI [(7, 3), (7, 9), (7, 13)] [] S Z) ∧ (v0 = y0) ∧ (v1 = y1) ∧ (v2 = y2) ∧ (v6 = y6) ∧ (WM Z v0) ∧ (y7 ≤ 400)) ?_ _ _ _ _ _ _ ⟨hI, (gr_rf _), (fri_rf _ _ _), rfl, rfl, rfl, rfl, hM, (q133 h5 c2 c4 c57 c110 r_x111 ex112)⟩
          intro w116 w118 w120 w122 w124 S113 X125 ⟨hI, gL114, fL115, q117, q119, q121, q123, hM, i1⟩ ih126
          subst q117
          subst q119
          subst q121
          subst q123
          have l_a1 := (gr_len gL114 o_a1).trans l_a1
          have d_x3 := d_x3.trans (fri_at fL115 (by decide) (by decide) o_v0).symm
          have d_x56 := d_x56.trans (fri_at fL115 (by decide) (by decide) o_v0).symm
          have d_x109 := d_x109.trans (fri_at fL115 (by decide) (by decide) o_v0).symm
          have ea1 := (frr_at fL115 (by decide) (by decide) o_v0).trans ea1
          have f0 := fri_tr (S := S) g0 f0 fL115 (by decide) (by decide)
          have o_a1 := gr_ob gL114 o_a1
          have o_v0 := gr_ob gL114 o_v0
          have o_v1 := gr_ob gL114 o_v1
          have o_v2 := gr_ob gL114 o_v2
          have g0 := gr_tr (T := S) g0 gL114
          refine u_X7_reckon_76 ?_
          refine ⟨fun c127 => ?_, fun c127 => ?_⟩
          · exact hq _ hI g0 f0
          · refine ⟨fun c128 => ?_, fun c128 => ?_⟩
            · exact hq _ hI g0 f0
            · refine ⟨o_v1, ?_⟩
              refine m_X8_hourOf hI o_v1 (fun x129 S130 hI2 g131 p_x129 => ?_)
              subst p_x129
              intro _
              intro x133 ex133
              have r_x133 : (0 : Int32) ≤ x133 ∧ x133 ≤ (6 : Int32) := by rw [ex133]; exact nu 11 rfl hI o_v1
              have d_x133 := ex133
              intro x134 ex134
              refine ⟨o_v0, ?_⟩
              intro x135 ex135
              have d_x135 := ex135
              refine ⟨fun c136 => ?_, fun c136 => ?_⟩
              · refine u_X7_reckon_120 ?_
                refine ⟨o_v1, ?_⟩
                intro x137 ex137
                have r_x137 : (0 : Int32) ≤ x137 ∧ x137 ≤ (8 : Int32) := by rw [ex137]; exact nu 12 rfl hI o_v1
                have d_x137 := ex137
                refine ⟨o_v0, ?_⟩
                refine m_X7_reckonMinute hI o_v0 (q134 h5 c2 c4 c57 c110 i1 c127 c128 r_x133 ex134 c136) hM (fun S139 hI g140 fc141 p_S139 => ?_)
                have hM := p_S139
                have l_a1 := (gr_len g140 o_a1).trans l_a1
                have d_x3 := d_x3.trans (fri_at fc141 (by decide) (by decide) o_v0).symm
                have d_x56 := d_x56.trans (fri_at fc141 (by decide) (by decide) o_v0).symm
                have d_x109 := d_x109.trans (fri_at fc141 (by decide) (by decide) o_v0).symm
                have d_x133 := d_x133.trans (fri_at fc141 (by decide) (by decide) o_v1).symm
                have d_x135 := d_x135.trans (fri_at fc141 (by decide) (by decide) o_v0).symm
                have d_x137 := d_x137.trans (fri_at fc141 (by decide) (by decide) o_v1).symm
                have ea1 := (frr_at fc141 (by decide) (by decide) o_v0).trans ea1
                have f0 := fri_tr (S := S113) g0 f0 fc141 (by decide) (by decide)
                have fL115 := fri_tr (S := S113) gL114 fL115 fc141 (by decide) (by decide)
                have o_a1 := gr_ob g140 o_a1
                have o_v0 := gr_ob g140 o_v0
                have o_v1 := gr_ob g140 o_v1
                have o_v2 := gr_ob g140 o_v2
                have g0 := gr_tr (T := S113) g0 g140
                have gL114 := gr_tr (T := S113) gL114 g140
                intro _
                intro S142 eS142
                have hI : IV S142 := by rw [eS142]; exact iv_sI hI o_v0 (by decide) (nu_one (lo := (0 : Int32)) (hi := (401 : Int32)) (by decide) (q135 h5 c2 c4 c57 c110 i1 c127 c128 r_x133 ex134 c136))
                have f0 := fr_I eS142 g0 f0 o_v0 (by decide)
                have fL115 := fr_I eS142 gL114 fL115 o_v0 (by decide)
                have d_x3 := rd_Ij eS142 (by decide) d_x3
                have d_x56 := rd_Ij eS142 (by decide) d_x56
                have d_x109 := rd_Ij eS142 (by decide) d_x109
                have d_x133 := rd_Ik eS142 o_v0 o_v1 (by decide) d_x133
                have d_x135 := rd_Ij eS142 (by decide) d_x135
                have d_x137 := rd_Ik eS142 o_v0 o_v1 (by decide) d_x137
                have d_w124 := rd_Is eS142 (rfl : w124 = w124)
                have ea1 := rf_I eS142 ea1
                have hM := wm_I eS142 hM
                have l_a1 := ln_I eS142 l_a1
                have g0 := gr_I eS142 g0
                have gL114 := gr_I eS142 gL114
                have o_a1 := ob_I eS142 o_a1
                have o_v0 := ob_I eS142 o_v0
                have o_v1 := ob_I eS142 o_v1
                have o_v2 := ob_I eS142 o_v2
                intro x143 ex143
                exact ih126 _ _ _ _ _ _ ⟨hI, gL114, fL115, rfl, rfl, rfl, rfl, hM, (q136 h5 c2 c4 c57 c110 i1 c127 c128 r_x133 ex134 c136 ex143)⟩ (mu_down (q137 h5 c2 c4 c57 c110 i1 c127 c128 r_x133 ex134 c136 ex143) (q138 h5 c2 c4 c57 c110 i1 c127 c128 r_x133 ex134 c136 ex143))
              · refine m_X7_price hI o_v0 o_v1 o_v2 hM (fun S145 hI g146 fc147 p_S145 => ?_)
                have hM := p_S145
                have l_a1 := (gr_len g146 o_a1).trans l_a1
                have d_x3 := d_x3.trans (fri_at fc147 (by decide) (by decide) o_v0).symm
                have d_x56 := d_x56.trans (fri_at fc147 (by decide) (by decide) o_v0).symm
                have d_x109 := d_x109.trans (fri_at fc147 (by decide) (by decide) o_v0).symm
                have d_x133 := d_x133.trans (fri_at fc147 (by decide) (by decide) o_v1).symm
                have ea1 := (frr_at fc147 (by decide) (by decide) o_v0).trans ea1
                have f0 := fri_tr (S := S113) g0 f0 fc147 (by decide) (by decide)
                have fL115 := fri_tr (S := S113) gL114 fL115 fc147 (by decide) (by decide)
                have o_a1 := gr_ob g146 o_a1
                have o_v0 := gr_ob g146 o_v0
                have o_v1 := gr_ob g146 o_v1
                have o_v2 := gr_ob g146 o_v2
                have g0 := gr_tr (T := S113) g0 g146
                have gL114 := gr_tr (T := S113) gL114 g146
                intro _
                refine u_X7_reckon_120 ?_
                refine ⟨o_v1, ?_⟩
                intro x148 ex148
                have r_x148 : (0 : Int32) ≤ x148 ∧ x148 ≤ (8 : Int32) := by rw [ex148]; exact nu 12 rfl hI o_v1
                have d_x148 := ex148
                refine ⟨o_v0, ?_⟩
                refine m_X7_reckonMinute hI o_v0 (q139 h5 c2 c4 c57 c110 i1 c127 c128 r_x133 ex134 c136) hM (fun S150 hI g151 fc152 p_S150 => ?_)
                have hM := p_S150
                have l_a1 := (gr_len g151 o_a1).trans l_a1
                have d_x3 := d_x3.trans (fri_at fc152 (by decide) (by decide) o_v0).symm
                have d_x56 := d_x56.trans (fri_at fc152 (by decide) (by decide) o_v0).symm
                have d_x109 := d_x109.trans (fri_at fc152 (by decide) (by decide) o_v0).symm
                have d_x133 := d_x133.trans (fri_at fc152 (by decide) (by decide) o_v1).symm
                have d_x148 := d_x148.trans (fri_at fc152 (by decide) (by decide) o_v1).symm
                have ea1 := (frr_at fc152 (by decide) (by decide) o_v0).trans ea1
                have f0 := fri_tr (S := S145) g0 f0 fc152 (by decide) (by decide)
                have fL115 := fri_tr (S := S145) gL114 fL115 fc152 (by decide) (by decide)
                have o_a1 := gr_ob g151 o_a1
                have o_v0 := gr_ob g151 o_v0
                have o_v1 := gr_ob g151 o_v1
                have o_v2 := gr_ob g151 o_v2
                have g0 := gr_tr (T := S145) g0 g151
                have gL114 := gr_tr (T := S145) gL114 g151
                intro _
                intro S153 eS153
                have hI : IV S153 := by rw [eS153]; exact iv_sI hI o_v0 (by decide) (nu_one (lo := (0 : Int32)) (hi := (401 : Int32)) (by decide) (q140 h5 c2 c4 c57 c110 i1 c127 c128 r_x133 ex134 c136))
                have f0 := fr_I eS153 g0 f0 o_v0 (by decide)
                have fL115 := fr_I eS153 gL114 fL115 o_v0 (by decide)
                have d_x3 := rd_Ij eS153 (by decide) d_x3
                have d_x56 := rd_Ij eS153 (by decide) d_x56
                have d_x109 := rd_Ij eS153 (by decide) d_x109
                have d_x133 := rd_Ik eS153 o_v0 o_v1 (by decide) d_x133
                have d_x148 := rd_Ik eS153 o_v0 o_v1 (by decide) d_x148
                have d_w124 := rd_Is eS153 (rfl : w124 = w124)
                have ea1 := rf_I eS153 ea1
                have hM := wm_I eS153 hM
                have l_a1 := ln_I eS153 l_a1
                have g0 := gr_I eS153 g0
                have gL114 := gr_I eS153 gL114
                have o_a1 := ob_I eS153 o_a1
                have o_v0 := ob_I eS153 o_v0
                have o_v1 := ob_I eS153 o_v1
                have o_v2 := ob_I eS153 o_v2
                intro x154 ex154
                exact ih126 _ _ _ _ _ _ ⟨hI, gL114, fL115, rfl, rfl, rfl, rfl, hM, (q141 h5 c2 c4 c57 c110 i1 c127 c128 r_x133 ex134 c136 ex154)⟩ (mu_down (q142 h5 c2 c4 c57 c110 i1 c127 c128 r_x133 ex134 c136 ex154) (q143 h5 c2 c4 c57 c110 i1 c127 c128 r_x133 ex134 c136 ex154))
        · refine u_X7_reckon_38 ?_
          refine ⟨o_v0, ?_⟩
          intro S155 eS155
          have hI : IV S155 := by rw [eS155]; exact iv_sI hI o_v0 (by decide) (nu_free (by decide))
          have f0 := fr_I eS155 g0 f0 o_v0 (by decide)
          have d_x56 := rd_Ij eS155 (by decide) d_x56
          have d_x109 := rd_Ij eS155 (by decide) d_x109
          have d_v3 := rd_Is eS155 (rfl : v3 = v3)
          have ea1 := rf_I eS155 ea1
          have l_a1 := ln_I eS155 l_a1
          have g0 := gr_I eS155 g0
          have o_a1 := ob_I eS155 o_a1
          have o_v0 := ob_I eS155 o_v0
          have o_v1 := ob_I eS155 o_v1
          have o_v2 := ob_I eS155 o_v2
          intro S156 eS156
          have hI : IV S156 := by rw [eS156]; exact iv_sI hI o_v0 (by decide) (nu_free (by decide))
          have f0 := fr_I eS156 g0 f0 o_v0 (by decide)
          have d_x109 := rd_Ij eS156 (by decide) d_x109
          have d_v3 := rd_Ij eS156 (by decide) d_v3
          have d_v4 := rd_Is eS156 (rfl : v4 = v4)
          have ea1 := rf_I eS156 ea1
          have l_a1 := ln_I eS156 l_a1
          have g0 := gr_I eS156 g0
          have o_a1 := ob_I eS156 o_a1
          have o_v0 := ob_I eS156 o_v0
          have o_v1 := ob_I eS156 o_v1
          have o_v2 := ob_I eS156 o_v2
          intro S157 eS157
          have hI : IV S157 := by rw [eS157]; exact iv_sI hI o_v0 (by decide) (nu_free (by decide))
          have f0 := fr_I eS157 g0 f0 o_v0 (by decide)
          have d_v3 := rd_Ij eS157 (by decide) d_v3
          have d_v4 := rd_Ij eS157 (by decide) d_v4
          have d_v5 := rd_Is eS157 (rfl : v5 = v5)
          have ea1 := rf_I eS157 ea1
          have l_a1 := ln_I eS157 l_a1
          have g0 := gr_I eS157 g0
          have o_a1 := ob_I eS157 o_a1
          have o_v0 := ob_I eS157 o_v0
          have o_v1 := ob_I eS157 o_v1
          have o_v2 := ob_I eS157 o_v2
          intro x158 ex158
          intro S159 eS159
          have hI : IV S159 := by rw [eS159]; exact iv_sI hI o_v0 (by decide) (nu_one (lo := (0 : Int32)) (hi := (401 : Int32)) (by decide) (q144 h5 c2 c4 c57 c110 ex158))
          have f0 := fr_I eS159 g0 f0 o_v0 (by decide)
          have d_v3 := rd_Ij eS159 (by decide) d_v3
          have d_v4 := rd_Ij eS159 (by decide) d_v4
          have d_v5 := rd_Ij eS159 (by decide) d_v5
          have d_x158 := rd_Is eS159 (rfl : x158 = x158)
          have ea1 := rf_I eS159 ea1
          have l_a1 := ln_I eS159 l_a1
          have g0 := gr_I eS159 g0
          have o_a1 := ob_I eS159 o_a1
          have o_v0 := ob_I eS159 o_v0
          have o_v1 := ob_I eS159 o_v1
          have o_v2 := ob_I eS159 o_v2
          intro S160 eS160
          have hI : IV S160 := by rw [eS160]; exact iv_sI hI o_v0 (by decide) (nu_free (by decide))
          have f0 := fr_I eS160 g0 f0 o_v0 (by decide)
          have d_v3 := rd_Ij eS160 (by decide) d_v3
          have d_v4 := rd_Ij eS160 (by decide) d_v4
          have d_v5 := rd_Ij eS160 (by decide) d_v5
          have d_x158 := rd_Ij eS160 (by decide) d_x158
          obtain ⟨y161, hy161⟩ : ∃ z : Int32, z = (-1 : Int32) := ⟨_, rfl⟩
          have d_y161 := rd_Is eS160 hy161
          have ea1 := rf_I eS160 ea1
          have l_a1 := ln_I eS160 l_a1
          have g0 := gr_I eS160 g0
          have o_a1 := ob_I eS160 o_a1
          have o_v0 := ob_I eS160 o_v0
          have o_v1 := ob_I eS160 o_v1
          have o_v2 := ob_I eS160 o_v2
          refine u_X7_reckon_68 ?_
          refine ⟨o_v0, ?_⟩
          intro x162 ex162
          have r_x162 : (0 : Int32) ≤ x162 ∧ x162 ≤ (401 : Int32) := by rw [ex162]; exact nu 9 rfl hI o_v0
          have q_x162 : x162 = x158 := ex162.trans d_x158.symm
          have d_x162 := ex162
          intro x163 ex163
          refine i_X7_reckon_76 (fun (y0 : Nat) (y1 : Nat) (y2 : Nat) (y6 : Int32) (y7 : Int32) (Z : HS) => (y7.toInt - (-1 : Int32).toInt).toNat) (fun (y0 : Nat) (y1 : Nat) (y2 : Nat) (y6 : Int32) (y7 : Int32) (Z : HS) => (IV Z) ∧ (Gr S160 Z) ∧ (FRI [(7, 3), (7, 9), (7, 13)] [] S160 Z) ∧ (v0 = y0) ∧ (v1 = y1) ∧ (v2 = y2) ∧ (v6 = y6) ∧ (WM Z v0) ∧ (y7 ≤ 400)) ?_ _ _ _ _ _ _ ⟨hI, (gr_rf _), (fri_rf _ _ _), rfl, rfl, rfl, rfl, hM, (q145 h5 c2 c4 c57 c110 ex158 r_x162 q_x162 ex163)⟩
          intro w167 w169 w171 w173 w175 S164 X176 ⟨hI, gL165, fL166, q168, q170, q172, q174, hM, i1⟩ ih177
          subst q168
          subst q170
          subst q172
          subst q174
          have l_a1 := (gr_len gL165 o_a1).trans l_a1
          have d_v3 := d_v3.trans (fri_at fL166 (by decide) (by decide) o_v0).symm
          have d_v4 := d_v4.trans (fri_at fL166 (by decide) (by decide) o_v0).symm
          have d_v5 := d_v5.trans (fri_at fL166 (by decide) (by decide) o_v0).symm
          have ea1 := (frr_at fL166 (by decide) (by decide) o_v0).trans ea1
          have f0 := fri_tr (S := S160) g0 f0 fL166 (by decide) (by decide)
          have o_a1 := gr_ob gL165 o_a1
          have o_v0 := gr_ob gL165 o_v0
          have o_v1 := gr_ob gL165 o_v1
          have o_v2 := gr_ob gL165 o_v2
          have g0 := gr_tr (T := S160) g0 gL165
          refine u_X7_reckon_76 ?_
          refine ⟨fun c178 => ?_, fun c178 => ?_⟩
          · exact hq _ hI g0 f0
          · refine ⟨fun c179 => ?_, fun c179 => ?_⟩
            · exact hq _ hI g0 f0
            · refine ⟨o_v1, ?_⟩
              refine m_X8_hourOf hI o_v1 (fun x180 S181 hI2 g182 p_x180 => ?_)
              subst p_x180
              intro _
              intro x184 ex184
              have r_x184 : (0 : Int32) ≤ x184 ∧ x184 ≤ (6 : Int32) := by rw [ex184]; exact nu 11 rfl hI o_v1
              have d_x184 := ex184
              intro x185 ex185
              refine ⟨o_v0, ?_⟩
              intro x186 ex186
              have d_x186 := ex186
              refine ⟨fun c187 => ?_, fun c187 => ?_⟩
              · refine u_X7_reckon_120 ?_
                refine ⟨o_v1, ?_⟩
                intro x188 ex188
                have r_x188 : (0 : Int32) ≤ x188 ∧ x188 ≤ (8 : Int32) := by rw [ex188]; exact nu 12 rfl hI o_v1
                have d_x188 := ex188
                refine ⟨o_v0, ?_⟩
                refine m_X7_reckonMinute hI o_v0 (q146 h5 c2 c4 c57 c110 ex158 r_x162 q_x162 ex163 i1 c178 c179 r_x184 ex185 c187) hM (fun S190 hI g191 fc192 p_S190 => ?_)
                have hM := p_S190
                have l_a1 := (gr_len g191 o_a1).trans l_a1
                have d_v3 := d_v3.trans (fri_at fc192 (by decide) (by decide) o_v0).symm
                have d_v4 := d_v4.trans (fri_at fc192 (by decide) (by decide) o_v0).symm
                have d_v5 := d_v5.trans (fri_at fc192 (by decide) (by decide) o_v0).symm
                have d_x184 := d_x184.trans (fri_at fc192 (by decide) (by decide) o_v1).symm
                have d_x186 := d_x186.trans (fri_at fc192 (by decide) (by decide) o_v0).symm
                have d_x188 := d_x188.trans (fri_at fc192 (by decide) (by decide) o_v1).symm
                have ea1 := (frr_at fc192 (by decide) (by decide) o_v0).trans ea1
                have f0 := fri_tr (S := S164) g0 f0 fc192 (by decide) (by decide)
                have fL166 := fri_tr (S := S164) gL165 fL166 fc192 (by decide) (by decide)
                have o_a1 := gr_ob g191 o_a1
                have o_v0 := gr_ob g191 o_v0
                have o_v1 := gr_ob g191 o_v1
                have o_v2 := gr_ob g191 o_v2
                have g0 := gr_tr (T := S164) g0 g191
                have gL165 := gr_tr (T := S164) gL165 g191
                intro _
                intro S193 eS193
                have hI : IV S193 := by rw [eS193]; exact iv_sI hI o_v0 (by decide) (nu_one (lo := (0 : Int32)) (hi := (401 : Int32)) (by decide) (q147 h5 c2 c4 c57 c110 ex158 r_x162 q_x162 ex163 i1 c178 c179 r_x184 ex185 c187))
                have f0 := fr_I eS193 g0 f0 o_v0 (by decide)
                have fL166 := fr_I eS193 gL165 fL166 o_v0 (by decide)
                have d_v3 := rd_Ij eS193 (by decide) d_v3
                have d_v4 := rd_Ij eS193 (by decide) d_v4
                have d_v5 := rd_Ij eS193 (by decide) d_v5
                have d_x184 := rd_Ik eS193 o_v0 o_v1 (by decide) d_x184
                have d_x186 := rd_Ij eS193 (by decide) d_x186
                have d_x188 := rd_Ik eS193 o_v0 o_v1 (by decide) d_x188
                have d_w175 := rd_Is eS193 (rfl : w175 = w175)
                have ea1 := rf_I eS193 ea1
                have hM := wm_I eS193 hM
                have l_a1 := ln_I eS193 l_a1
                have g0 := gr_I eS193 g0
                have gL165 := gr_I eS193 gL165
                have o_a1 := ob_I eS193 o_a1
                have o_v0 := ob_I eS193 o_v0
                have o_v1 := ob_I eS193 o_v1
                have o_v2 := ob_I eS193 o_v2
                intro x194 ex194
                exact ih177 _ _ _ _ _ _ ⟨hI, gL165, fL166, rfl, rfl, rfl, rfl, hM, (q148 h5 c2 c4 c57 c110 ex158 r_x162 q_x162 ex163 i1 c178 c179 r_x184 ex185 c187 ex194)⟩ (mu_down (q149 h5 c2 c4 c57 c110 ex158 r_x162 q_x162 ex163 i1 c178 c179 r_x184 ex185 c187 ex194) (q150 h5 c2 c4 c57 c110 ex158 r_x162 q_x162 ex163 i1 c178 c179 r_x184 ex185 c187 ex194))
              · refine m_X7_price hI o_v0 o_v1 o_v2 hM (fun S196 hI g197 fc198 p_S196 => ?_)
                have hM := p_S196
                have l_a1 := (gr_len g197 o_a1).trans l_a1
                have d_v3 := d_v3.trans (fri_at fc198 (by decide) (by decide) o_v0).symm
                have d_v4 := d_v4.trans (fri_at fc198 (by decide) (by decide) o_v0).symm
                have d_v5 := d_v5.trans (fri_at fc198 (by decide) (by decide) o_v0).symm
                have d_x184 := d_x184.trans (fri_at fc198 (by decide) (by decide) o_v1).symm
                have ea1 := (frr_at fc198 (by decide) (by decide) o_v0).trans ea1
                have f0 := fri_tr (S := S164) g0 f0 fc198 (by decide) (by decide)
                have fL166 := fri_tr (S := S164) gL165 fL166 fc198 (by decide) (by decide)
                have o_a1 := gr_ob g197 o_a1
                have o_v0 := gr_ob g197 o_v0
                have o_v1 := gr_ob g197 o_v1
                have o_v2 := gr_ob g197 o_v2
                have g0 := gr_tr (T := S164) g0 g197
                have gL165 := gr_tr (T := S164) gL165 g197
                intro _
                refine u_X7_reckon_120 ?_
                refine ⟨o_v1, ?_⟩
                intro x199 ex199
                have r_x199 : (0 : Int32) ≤ x199 ∧ x199 ≤ (8 : Int32) := by rw [ex199]; exact nu 12 rfl hI o_v1
                have d_x199 := ex199
                refine ⟨o_v0, ?_⟩
                refine m_X7_reckonMinute hI o_v0 (q151 h5 c2 c4 c57 c110 ex158 r_x162 q_x162 ex163 i1 c178 c179 r_x184 ex185 c187) hM (fun S201 hI g202 fc203 p_S201 => ?_)
                have hM := p_S201
                have l_a1 := (gr_len g202 o_a1).trans l_a1
                have d_v3 := d_v3.trans (fri_at fc203 (by decide) (by decide) o_v0).symm
                have d_v4 := d_v4.trans (fri_at fc203 (by decide) (by decide) o_v0).symm
                have d_v5 := d_v5.trans (fri_at fc203 (by decide) (by decide) o_v0).symm
                have d_x184 := d_x184.trans (fri_at fc203 (by decide) (by decide) o_v1).symm
                have d_x199 := d_x199.trans (fri_at fc203 (by decide) (by decide) o_v1).symm
                have ea1 := (frr_at fc203 (by decide) (by decide) o_v0).trans ea1
                have f0 := fri_tr (S := S196) g0 f0 fc203 (by decide) (by decide)
                have fL166 := fri_tr (S := S196) gL165 fL166 fc203 (by decide) (by decide)
                have o_a1 := gr_ob g202 o_a1
                have o_v0 := gr_ob g202 o_v0
                have o_v1 := gr_ob g202 o_v1
                have o_v2 := gr_ob g202 o_v2
                have g0 := gr_tr (T := S196) g0 g202
                have gL165 := gr_tr (T := S196) gL165 g202
                intro _
                intro S204 eS204
                have hI : IV S204 := by rw [eS204]; exact iv_sI hI o_v0 (by decide) (nu_one (lo := (0 : Int32)) (hi := (401 : Int32)) (by decide) (q152 h5 c2 c4 c57 c110 ex158 r_x162 q_x162 ex163 i1 c178 c179 r_x184 ex185 c187))
                have f0 := fr_I eS204 g0 f0 o_v0 (by decide)
                have fL166 := fr_I eS204 gL165 fL166 o_v0 (by decide)
                have d_v3 := rd_Ij eS204 (by decide) d_v3
                have d_v4 := rd_Ij eS204 (by decide) d_v4
                have d_v5 := rd_Ij eS204 (by decide) d_v5
                have d_x184 := rd_Ik eS204 o_v0 o_v1 (by decide) d_x184
                have d_x199 := rd_Ik eS204 o_v0 o_v1 (by decide) d_x199
                have d_w175 := rd_Is eS204 (rfl : w175 = w175)
                have ea1 := rf_I eS204 ea1
                have hM := wm_I eS204 hM
                have l_a1 := ln_I eS204 l_a1
                have g0 := gr_I eS204 g0
                have gL165 := gr_I eS204 gL165
                have o_a1 := ob_I eS204 o_a1
                have o_v0 := ob_I eS204 o_v0
                have o_v1 := ob_I eS204 o_v1
                have o_v2 := ob_I eS204 o_v2
                intro x205 ex205
                exact ih177 _ _ _ _ _ _ ⟨hI, gL165, fL166, rfl, rfl, rfl, rfl, hM, (q153 h5 c2 c4 c57 c110 ex158 r_x162 q_x162 ex163 i1 c178 c179 r_x184 ex185 c187 ex205)⟩ (mu_down (q154 h5 c2 c4 c57 c110 ex158 r_x162 q_x162 ex163 i1 c178 c179 r_x184 ex185 c187 ex205) (q155 h5 c2 c4 c57 c110 ex158 r_x162 q_x162 ex163 i1 c178 c179 r_x184 ex185 c187 ex205))
  · rw [n_a1] at c2
    refine m_X7_makeRows hI o_v0 (fun S207 hI g208 fc209 p_S207 => ?_)
    have l_a1 := (gr_len g208 o_a1).trans l_a1
    have f0 := fri_tr (S := S) g0 f0 fc209 (by decide) (by decide)
    have o_a1 := gr_ob g208 o_a1
    have o_v0 := gr_ob g208 o_v0
    have o_v1 := gr_ob g208 o_v1
    have o_v2 := gr_ob g208 o_v2
    have g0 := gr_tr (T := S) g0 g208
    intro _
    have hM := p_S207
    refine u_X7_reckon_12 ?_
    refine ⟨o_v0, ?_⟩
    intro x210 ex210
    have d_x210 := ex210
    refine ⟨fun c211 => ?_, fun c211 => ?_⟩
    · refine u_X7_reckon_38 ?_
      refine ⟨o_v0, ?_⟩
      intro S212 eS212
      have hI : IV S212 := by rw [eS212]; exact iv_sI hI o_v0 (by decide) (nu_free (by decide))
      have f0 := fr_I eS212 g0 f0 o_v0 (by decide)
      have d_v3 := rd_Is eS212 (rfl : v3 = v3)
      have l_a1 := ln_I eS212 l_a1
      have g0 := gr_I eS212 g0
      have o_a1 := ob_I eS212 o_a1
      have o_v0 := ob_I eS212 o_v0
      have o_v1 := ob_I eS212 o_v1
      have o_v2 := ob_I eS212 o_v2
      intro S213 eS213
      have hI : IV S213 := by rw [eS213]; exact iv_sI hI o_v0 (by decide) (nu_free (by decide))
      have f0 := fr_I eS213 g0 f0 o_v0 (by decide)
      have d_v3 := rd_Ij eS213 (by decide) d_v3
      have d_v4 := rd_Is eS213 (rfl : v4 = v4)
      have l_a1 := ln_I eS213 l_a1
      have g0 := gr_I eS213 g0
      have o_a1 := ob_I eS213 o_a1
      have o_v0 := ob_I eS213 o_v0
      have o_v1 := ob_I eS213 o_v1
      have o_v2 := ob_I eS213 o_v2
      intro S214 eS214
      have hI : IV S214 := by rw [eS214]; exact iv_sI hI o_v0 (by decide) (nu_free (by decide))
      have f0 := fr_I eS214 g0 f0 o_v0 (by decide)
      have d_v3 := rd_Ij eS214 (by decide) d_v3
      have d_v4 := rd_Ij eS214 (by decide) d_v4
      have d_v5 := rd_Is eS214 (rfl : v5 = v5)
      have l_a1 := ln_I eS214 l_a1
      have g0 := gr_I eS214 g0
      have o_a1 := ob_I eS214 o_a1
      have o_v0 := ob_I eS214 o_v0
      have o_v1 := ob_I eS214 o_v1
      have o_v2 := ob_I eS214 o_v2
      intro x215 ex215
      intro S216 eS216
      have hI : IV S216 := by rw [eS216]; exact iv_sI hI o_v0 (by decide) (nu_one (lo := (0 : Int32)) (hi := (401 : Int32)) (by decide) (q156 h5 c2 c211 ex215))
      have f0 := fr_I eS216 g0 f0 o_v0 (by decide)
      have d_v3 := rd_Ij eS216 (by decide) d_v3
      have d_v4 := rd_Ij eS216 (by decide) d_v4
      have d_v5 := rd_Ij eS216 (by decide) d_v5
      have d_x215 := rd_Is eS216 (rfl : x215 = x215)
      have l_a1 := ln_I eS216 l_a1
      have g0 := gr_I eS216 g0
      have o_a1 := ob_I eS216 o_a1
      have o_v0 := ob_I eS216 o_v0
      have o_v1 := ob_I eS216 o_v1
      have o_v2 := ob_I eS216 o_v2
      intro S217 eS217
      have hI : IV S217 := by rw [eS217]; exact iv_sI hI o_v0 (by decide) (nu_free (by decide))
      have f0 := fr_I eS217 g0 f0 o_v0 (by decide)
      have d_v3 := rd_Ij eS217 (by decide) d_v3
      have d_v4 := rd_Ij eS217 (by decide) d_v4
      have d_v5 := rd_Ij eS217 (by decide) d_v5
      have d_x215 := rd_Ij eS217 (by decide) d_x215
      obtain ⟨y218, hy218⟩ : ∃ z : Int32, z = (-1 : Int32) := ⟨_, rfl⟩
      have d_y218 := rd_Is eS217 hy218
      have l_a1 := ln_I eS217 l_a1
      have g0 := gr_I eS217 g0
      have o_a1 := ob_I eS217 o_a1
      have o_v0 := ob_I eS217 o_v0
      have o_v1 := ob_I eS217 o_v1
      have o_v2 := ob_I eS217 o_v2
      refine u_X7_reckon_68 ?_
      refine ⟨o_v0, ?_⟩
      intro x219 ex219
      have r_x219 : (0 : Int32) ≤ x219 ∧ x219 ≤ (401 : Int32) := by rw [ex219]; exact nu 9 rfl hI o_v0
      have q_x219 : x219 = x215 := ex219.trans d_x215.symm
      have d_x219 := ex219
      intro x220 ex220
      refine i_X7_reckon_76 (fun (y0 : Nat) (y1 : Nat) (y2 : Nat) (y6 : Int32) (y7 : Int32) (Z : HS) => (y7.toInt - (-1 : Int32).toInt).toNat) (fun (y0 : Nat) (y1 : Nat) (y2 : Nat) (y6 : Int32) (y7 : Int32) (Z : HS) => (IV Z) ∧ (Gr S217 Z) ∧ (FRI [(7, 3), (7, 9), (7, 13)] [] S217 Z) ∧ (v0 = y0) ∧ (v1 = y1) ∧ (v2 = y2) ∧ (v6 = y6) ∧ (WM Z v0) ∧ (y7 ≤ 400)) ?_ _ _ _ _ _ _ ⟨hI, (gr_rf _), (fri_rf _ _ _), rfl, rfl, rfl, rfl, hM, (q157 h5 c2 c211 ex215 r_x219 q_x219 ex220)⟩
      intro w224 w226 w228 w230 w232 S221 X233 ⟨hI, gL222, fL223, q225, q227, q229, q231, hM, i1⟩ ih234
      subst q225
      subst q227
      subst q229
      subst q231
      have l_a1 := (gr_len gL222 o_a1).trans l_a1
      have d_v3 := d_v3.trans (fri_at fL223 (by decide) (by decide) o_v0).symm
      have d_v4 := d_v4.trans (fri_at fL223 (by decide) (by decide) o_v0).symm
      have d_v5 := d_v5.trans (fri_at fL223 (by decide) (by decide) o_v0).symm
      have f0 := fri_tr (S := S217) g0 f0 fL223 (by decide) (by decide)
      have o_a1 := gr_ob gL222 o_a1
      have o_v0 := gr_ob gL222 o_v0
      have o_v1 := gr_ob gL222 o_v1
      have o_v2 := gr_ob gL222 o_v2
      have g0 := gr_tr (T := S217) g0 gL222
      refine u_X7_reckon_76 ?_
      refine ⟨fun c235 => ?_, fun c235 => ?_⟩
      · exact hq _ hI g0 f0
      · refine ⟨fun c236 => ?_, fun c236 => ?_⟩
        · exact hq _ hI g0 f0
        · refine ⟨o_v1, ?_⟩
          refine m_X8_hourOf hI o_v1 (fun x237 S238 hI2 g239 p_x237 => ?_)
          subst p_x237
          intro _
          intro x241 ex241
          have r_x241 : (0 : Int32) ≤ x241 ∧ x241 ≤ (6 : Int32) := by rw [ex241]; exact nu 11 rfl hI o_v1
          have d_x241 := ex241
          intro x242 ex242
          refine ⟨o_v0, ?_⟩
          intro x243 ex243
          have d_x243 := ex243
          refine ⟨fun c244 => ?_, fun c244 => ?_⟩
          · refine u_X7_reckon_120 ?_
            refine ⟨o_v1, ?_⟩
            intro x245 ex245
            have r_x245 : (0 : Int32) ≤ x245 ∧ x245 ≤ (8 : Int32) := by rw [ex245]; exact nu 12 rfl hI o_v1
            have d_x245 := ex245
            refine ⟨o_v0, ?_⟩
            refine m_X7_reckonMinute hI o_v0 (q158 c2 c211 i1 c235 c236 r_x241 ex242 c244) hM (fun S247 hI g248 fc249 p_S247 => ?_)
            have hM := p_S247
            have l_a1 := (gr_len g248 o_a1).trans l_a1
            have d_v3 := d_v3.trans (fri_at fc249 (by decide) (by decide) o_v0).symm
            have d_v4 := d_v4.trans (fri_at fc249 (by decide) (by decide) o_v0).symm
            have d_v5 := d_v5.trans (fri_at fc249 (by decide) (by decide) o_v0).symm
            have d_x241 := d_x241.trans (fri_at fc249 (by decide) (by decide) o_v1).symm
            have d_x243 := d_x243.trans (fri_at fc249 (by decide) (by decide) o_v0).symm
            have d_x245 := d_x245.trans (fri_at fc249 (by decide) (by decide) o_v1).symm
            have f0 := fri_tr (S := S221) g0 f0 fc249 (by decide) (by decide)
            have fL223 := fri_tr (S := S221) gL222 fL223 fc249 (by decide) (by decide)
            have o_a1 := gr_ob g248 o_a1
            have o_v0 := gr_ob g248 o_v0
            have o_v1 := gr_ob g248 o_v1
            have o_v2 := gr_ob g248 o_v2
            have g0 := gr_tr (T := S221) g0 g248
            have gL222 := gr_tr (T := S221) gL222 g248
            intro _
            intro S250 eS250
            have hI : IV S250 := by rw [eS250]; exact iv_sI hI o_v0 (by decide) (nu_one (lo := (0 : Int32)) (hi := (401 : Int32)) (by decide) (q159 c2 c211 i1 c235 c236 r_x241 ex242 c244))
            have f0 := fr_I eS250 g0 f0 o_v0 (by decide)
            have fL223 := fr_I eS250 gL222 fL223 o_v0 (by decide)
            have d_v3 := rd_Ij eS250 (by decide) d_v3
            have d_v4 := rd_Ij eS250 (by decide) d_v4
            have d_v5 := rd_Ij eS250 (by decide) d_v5
            have d_x241 := rd_Ik eS250 o_v0 o_v1 (by decide) d_x241
            have d_x243 := rd_Ij eS250 (by decide) d_x243
            have d_x245 := rd_Ik eS250 o_v0 o_v1 (by decide) d_x245
            have d_w232 := rd_Is eS250 (rfl : w232 = w232)
            have hM := wm_I eS250 hM
            have l_a1 := ln_I eS250 l_a1
            have g0 := gr_I eS250 g0
            have gL222 := gr_I eS250 gL222
            have o_a1 := ob_I eS250 o_a1
            have o_v0 := ob_I eS250 o_v0
            have o_v1 := ob_I eS250 o_v1
            have o_v2 := ob_I eS250 o_v2
            intro x251 ex251
            exact ih234 _ _ _ _ _ _ ⟨hI, gL222, fL223, rfl, rfl, rfl, rfl, hM, (q160 c2 c211 i1 c235 c236 r_x241 ex242 c244 ex251)⟩ (mu_down (q161 c2 c211 i1 c235 c236 r_x241 ex242 c244 ex251) (q162 c2 c211 i1 c235 c236 r_x241 ex242 c244 ex251))
          · refine m_X7_price hI o_v0 o_v1 o_v2 hM (fun S253 hI g254 fc255 p_S253 => ?_)
            have hM := p_S253
            have l_a1 := (gr_len g254 o_a1).trans l_a1
            have d_v3 := d_v3.trans (fri_at fc255 (by decide) (by decide) o_v0).symm
            have d_v4 := d_v4.trans (fri_at fc255 (by decide) (by decide) o_v0).symm
            have d_v5 := d_v5.trans (fri_at fc255 (by decide) (by decide) o_v0).symm
            have d_x241 := d_x241.trans (fri_at fc255 (by decide) (by decide) o_v1).symm
            have f0 := fri_tr (S := S221) g0 f0 fc255 (by decide) (by decide)
            have fL223 := fri_tr (S := S221) gL222 fL223 fc255 (by decide) (by decide)
            have o_a1 := gr_ob g254 o_a1
            have o_v0 := gr_ob g254 o_v0
            have o_v1 := gr_ob g254 o_v1
            have o_v2 := gr_ob g254 o_v2
            have g0 := gr_tr (T := S221) g0 g254
            have gL222 := gr_tr (T := S221) gL222 g254
            intro _
            refine u_X7_reckon_120 ?_
            refine ⟨o_v1, ?_⟩
            intro x256 ex256
            have r_x256 : (0 : Int32) ≤ x256 ∧ x256 ≤ (8 : Int32) := by rw [ex256]; exact nu 12 rfl hI o_v1
            have d_x256 := ex256
            refine ⟨o_v0, ?_⟩
            refine m_X7_reckonMinute hI o_v0 (q163 c2 c211 i1 c235 c236 r_x241 ex242 c244) hM (fun S258 hI g259 fc260 p_S258 => ?_)
            have hM := p_S258
            have l_a1 := (gr_len g259 o_a1).trans l_a1
            have d_v3 := d_v3.trans (fri_at fc260 (by decide) (by decide) o_v0).symm
            have d_v4 := d_v4.trans (fri_at fc260 (by decide) (by decide) o_v0).symm
            have d_v5 := d_v5.trans (fri_at fc260 (by decide) (by decide) o_v0).symm
            have d_x241 := d_x241.trans (fri_at fc260 (by decide) (by decide) o_v1).symm
            have d_x256 := d_x256.trans (fri_at fc260 (by decide) (by decide) o_v1).symm
            have f0 := fri_tr (S := S253) g0 f0 fc260 (by decide) (by decide)
            have fL223 := fri_tr (S := S253) gL222 fL223 fc260 (by decide) (by decide)
            have o_a1 := gr_ob g259 o_a1
            have o_v0 := gr_ob g259 o_v0
            have o_v1 := gr_ob g259 o_v1
            have o_v2 := gr_ob g259 o_v2
            have g0 := gr_tr (T := S253) g0 g259
            have gL222 := gr_tr (T := S253) gL222 g259
            intro _
            intro S261 eS261
            have hI : IV S261 := by rw [eS261]; exact iv_sI hI o_v0 (by decide) (nu_one (lo := (0 : Int32)) (hi := (401 : Int32)) (by decide) (q164 c2 c211 i1 c235 c236 r_x241 ex242 c244))
            have f0 := fr_I eS261 g0 f0 o_v0 (by decide)
            have fL223 := fr_I eS261 gL222 fL223 o_v0 (by decide)
            have d_v3 := rd_Ij eS261 (by decide) d_v3
            have d_v4 := rd_Ij eS261 (by decide) d_v4
            have d_v5 := rd_Ij eS261 (by decide) d_v5
            have d_x241 := rd_Ik eS261 o_v0 o_v1 (by decide) d_x241
            have d_x256 := rd_Ik eS261 o_v0 o_v1 (by decide) d_x256
            have d_w232 := rd_Is eS261 (rfl : w232 = w232)
            have hM := wm_I eS261 hM
            have l_a1 := ln_I eS261 l_a1
            have g0 := gr_I eS261 g0
            have gL222 := gr_I eS261 gL222
            have o_a1 := ob_I eS261 o_a1
            have o_v0 := ob_I eS261 o_v0
            have o_v1 := ob_I eS261 o_v1
            have o_v2 := ob_I eS261 o_v2
            intro x262 ex262
            exact ih234 _ _ _ _ _ _ ⟨hI, gL222, fL223, rfl, rfl, rfl, rfl, hM, (q165 c2 c211 i1 c235 c236 r_x241 ex242 c244 ex262)⟩ (mu_down (q166 c2 c211 i1 c235 c236 r_x241 ex242 c244 ex262) (q167 c2 c211 i1 c235 c236 r_x241 ex242 c244 ex262))
    · intro x263 ex263
      have d_x263 := ex263
      refine ⟨fun c264 => ?_, fun c264 => ?_⟩
      · refine u_X7_reckon_38 ?_
        refine ⟨o_v0, ?_⟩
        intro S265 eS265
        have hI : IV S265 := by rw [eS265]; exact iv_sI hI o_v0 (by decide) (nu_free (by decide))
        have f0 := fr_I eS265 g0 f0 o_v0 (by decide)
        have d_x263 := rd_Ij eS265 (by decide) d_x263
        have d_v3 := rd_Is eS265 (rfl : v3 = v3)
        have l_a1 := ln_I eS265 l_a1
        have g0 := gr_I eS265 g0
        have o_a1 := ob_I eS265 o_a1
        have o_v0 := ob_I eS265 o_v0
        have o_v1 := ob_I eS265 o_v1
        have o_v2 := ob_I eS265 o_v2
        intro S266 eS266
        have hI : IV S266 := by rw [eS266]; exact iv_sI hI o_v0 (by decide) (nu_free (by decide))
        have f0 := fr_I eS266 g0 f0 o_v0 (by decide)
        have d_v3 := rd_Ij eS266 (by decide) d_v3
        have d_v4 := rd_Is eS266 (rfl : v4 = v4)
        have l_a1 := ln_I eS266 l_a1
        have g0 := gr_I eS266 g0
        have o_a1 := ob_I eS266 o_a1
        have o_v0 := ob_I eS266 o_v0
        have o_v1 := ob_I eS266 o_v1
        have o_v2 := ob_I eS266 o_v2
        intro S267 eS267
        have hI : IV S267 := by rw [eS267]; exact iv_sI hI o_v0 (by decide) (nu_free (by decide))
        have f0 := fr_I eS267 g0 f0 o_v0 (by decide)
        have d_v3 := rd_Ij eS267 (by decide) d_v3
        have d_v4 := rd_Ij eS267 (by decide) d_v4
        have d_v5 := rd_Is eS267 (rfl : v5 = v5)
        have l_a1 := ln_I eS267 l_a1
        have g0 := gr_I eS267 g0
        have o_a1 := ob_I eS267 o_a1
        have o_v0 := ob_I eS267 o_v0
        have o_v1 := ob_I eS267 o_v1
        have o_v2 := ob_I eS267 o_v2
        intro x268 ex268
        intro S269 eS269
        have hI : IV S269 := by rw [eS269]; exact iv_sI hI o_v0 (by decide) (nu_one (lo := (0 : Int32)) (hi := (401 : Int32)) (by decide) (q168 h5 c2 c211 c264 ex268))
        have f0 := fr_I eS269 g0 f0 o_v0 (by decide)
        have d_v3 := rd_Ij eS269 (by decide) d_v3
        have d_v4 := rd_Ij eS269 (by decide) d_v4
        have d_v5 := rd_Ij eS269 (by decide) d_v5
        have d_x268 := rd_Is eS269 (rfl : x268 = x268)
        have l_a1 := ln_I eS269 l_a1
        have g0 := gr_I eS269 g0
        have o_a1 := ob_I eS269 o_a1
        have o_v0 := ob_I eS269 o_v0
        have o_v1 := ob_I eS269 o_v1
        have o_v2 := ob_I eS269 o_v2
        intro S270 eS270
        have hI : IV S270 := by rw [eS270]; exact iv_sI hI o_v0 (by decide) (nu_free (by decide))
        have f0 := fr_I eS270 g0 f0 o_v0 (by decide)
        have d_v3 := rd_Ij eS270 (by decide) d_v3
        have d_v4 := rd_Ij eS270 (by decide) d_v4
        have d_v5 := rd_Ij eS270 (by decide) d_v5
        have d_x268 := rd_Ij eS270 (by decide) d_x268
        obtain ⟨y271, hy271⟩ : ∃ z : Int32, z = (-1 : Int32) := ⟨_, rfl⟩
        have d_y271 := rd_Is eS270 hy271
        have l_a1 := ln_I eS270 l_a1
        have g0 := gr_I eS270 g0
        have o_a1 := ob_I eS270 o_a1
        have o_v0 := ob_I eS270 o_v0
        have o_v1 := ob_I eS270 o_v1
        have o_v2 := ob_I eS270 o_v2
        refine u_X7_reckon_68 ?_
        refine ⟨o_v0, ?_⟩
        intro x272 ex272
        have r_x272 : (0 : Int32) ≤ x272 ∧ x272 ≤ (401 : Int32) := by rw [ex272]; exact nu 9 rfl hI o_v0
        have q_x272 : x272 = x268 := ex272.trans d_x268.symm
        have d_x272 := ex272
        intro x273 ex273
        refine i_X7_reckon_76 (fun (y0 : Nat) (y1 : Nat) (y2 : Nat) (y6 : Int32) (y7 : Int32) (Z : HS) => (y7.toInt - (-1 : Int32).toInt).toNat) (fun (y0 : Nat) (y1 : Nat) (y2 : Nat) (y6 : Int32) (y7 : Int32) (Z : HS) => (IV Z) ∧ (Gr S270 Z) ∧ (FRI [(7, 3), (7, 9), (7, 13)] [] S270 Z) ∧ (v0 = y0) ∧ (v1 = y1) ∧ (v2 = y2) ∧ (v6 = y6) ∧ (WM Z v0) ∧ (y7 ≤ 400)) ?_ _ _ _ _ _ _ ⟨hI, (gr_rf _), (fri_rf _ _ _), rfl, rfl, rfl, rfl, hM, (q169 h5 c2 c211 c264 ex268 r_x272 q_x272 ex273)⟩
        intro w277 w279 w281 w283 w285 S274 X286 ⟨hI, gL275, fL276, q278, q280, q282, q284, hM, i1⟩ ih287
        subst q278
        subst q280
        subst q282
        subst q284
        have l_a1 := (gr_len gL275 o_a1).trans l_a1
        have d_v3 := d_v3.trans (fri_at fL276 (by decide) (by decide) o_v0).symm
        have d_v4 := d_v4.trans (fri_at fL276 (by decide) (by decide) o_v0).symm
        have d_v5 := d_v5.trans (fri_at fL276 (by decide) (by decide) o_v0).symm
        have f0 := fri_tr (S := S270) g0 f0 fL276 (by decide) (by decide)
        have o_a1 := gr_ob gL275 o_a1
        have o_v0 := gr_ob gL275 o_v0
        have o_v1 := gr_ob gL275 o_v1
        have o_v2 := gr_ob gL275 o_v2
        have g0 := gr_tr (T := S270) g0 gL275
        refine u_X7_reckon_76 ?_
        refine ⟨fun c288 => ?_, fun c288 => ?_⟩
        · exact hq _ hI g0 f0
        · refine ⟨fun c289 => ?_, fun c289 => ?_⟩
          · exact hq _ hI g0 f0
          · refine ⟨o_v1, ?_⟩
            refine m_X8_hourOf hI o_v1 (fun x290 S291 hI2 g292 p_x290 => ?_)
            subst p_x290
            intro _
            intro x294 ex294
            have r_x294 : (0 : Int32) ≤ x294 ∧ x294 ≤ (6 : Int32) := by rw [ex294]; exact nu 11 rfl hI o_v1
            have d_x294 := ex294
            intro x295 ex295
            refine ⟨o_v0, ?_⟩
            intro x296 ex296
            have d_x296 := ex296
            refine ⟨fun c297 => ?_, fun c297 => ?_⟩
            · refine u_X7_reckon_120 ?_
              refine ⟨o_v1, ?_⟩
              intro x298 ex298
              have r_x298 : (0 : Int32) ≤ x298 ∧ x298 ≤ (8 : Int32) := by rw [ex298]; exact nu 12 rfl hI o_v1
              have d_x298 := ex298
              refine ⟨o_v0, ?_⟩
              refine m_X7_reckonMinute hI o_v0 (q170 c2 c211 c264 i1 c288 c289 r_x294 ex295 c297) hM (fun S300 hI g301 fc302 p_S300 => ?_)
              have hM := p_S300
              have l_a1 := (gr_len g301 o_a1).trans l_a1
              have d_v3 := d_v3.trans (fri_at fc302 (by decide) (by decide) o_v0).symm
              have d_v4 := d_v4.trans (fri_at fc302 (by decide) (by decide) o_v0).symm
              have d_v5 := d_v5.trans (fri_at fc302 (by decide) (by decide) o_v0).symm
              have d_x294 := d_x294.trans (fri_at fc302 (by decide) (by decide) o_v1).symm
              have d_x296 := d_x296.trans (fri_at fc302 (by decide) (by decide) o_v0).symm
              have d_x298 := d_x298.trans (fri_at fc302 (by decide) (by decide) o_v1).symm
              have f0 := fri_tr (S := S274) g0 f0 fc302 (by decide) (by decide)
              have fL276 := fri_tr (S := S274) gL275 fL276 fc302 (by decide) (by decide)
              have o_a1 := gr_ob g301 o_a1
              have o_v0 := gr_ob g301 o_v0
              have o_v1 := gr_ob g301 o_v1
              have o_v2 := gr_ob g301 o_v2
              have g0 := gr_tr (T := S274) g0 g301
              have gL275 := gr_tr (T := S274) gL275 g301
              intro _
              intro S303 eS303
              have hI : IV S303 := by rw [eS303]; exact iv_sI hI o_v0 (by decide) (nu_one (lo := (0 : Int32)) (hi := (401 : Int32)) (by decide) (q171 c2 c211 c264 i1 c288 c289 r_x294 ex295 c297))
              have f0 := fr_I eS303 g0 f0 o_v0 (by decide)
              have fL276 := fr_I eS303 gL275 fL276 o_v0 (by decide)
              have d_v3 := rd_Ij eS303 (by decide) d_v3
              have d_v4 := rd_Ij eS303 (by decide) d_v4
              have d_v5 := rd_Ij eS303 (by decide) d_v5
              have d_x294 := rd_Ik eS303 o_v0 o_v1 (by decide) d_x294
              have d_x296 := rd_Ij eS303 (by decide) d_x296
              have d_x298 := rd_Ik eS303 o_v0 o_v1 (by decide) d_x298
              have d_w285 := rd_Is eS303 (rfl : w285 = w285)
              have hM := wm_I eS303 hM
              have l_a1 := ln_I eS303 l_a1
              have g0 := gr_I eS303 g0
              have gL275 := gr_I eS303 gL275
              have o_a1 := ob_I eS303 o_a1
              have o_v0 := ob_I eS303 o_v0
              have o_v1 := ob_I eS303 o_v1
              have o_v2 := ob_I eS303 o_v2
              intro x304 ex304
              exact ih287 _ _ _ _ _ _ ⟨hI, gL275, fL276, rfl, rfl, rfl, rfl, hM, (q172 c2 c211 c264 i1 c288 c289 r_x294 ex295 c297 ex304)⟩ (mu_down (q173 c2 c211 c264 i1 c288 c289 r_x294 ex295 c297 ex304) (q174 c2 c211 c264 i1 c288 c289 r_x294 ex295 c297 ex304))
            · refine m_X7_price hI o_v0 o_v1 o_v2 hM (fun S306 hI g307 fc308 p_S306 => ?_)
              have hM := p_S306
              have l_a1 := (gr_len g307 o_a1).trans l_a1
              have d_v3 := d_v3.trans (fri_at fc308 (by decide) (by decide) o_v0).symm
              have d_v4 := d_v4.trans (fri_at fc308 (by decide) (by decide) o_v0).symm
              have d_v5 := d_v5.trans (fri_at fc308 (by decide) (by decide) o_v0).symm
              have d_x294 := d_x294.trans (fri_at fc308 (by decide) (by decide) o_v1).symm
              have f0 := fri_tr (S := S274) g0 f0 fc308 (by decide) (by decide)
              have fL276 := fri_tr (S := S274) gL275 fL276 fc308 (by decide) (by decide)
              have o_a1 := gr_ob g307 o_a1
              have o_v0 := gr_ob g307 o_v0
              have o_v1 := gr_ob g307 o_v1
              have o_v2 := gr_ob g307 o_v2
              have g0 := gr_tr (T := S274) g0 g307
              have gL275 := gr_tr (T := S274) gL275 g307
              intro _
              refine u_X7_reckon_120 ?_
              refine ⟨o_v1, ?_⟩
              intro x309 ex309
              have r_x309 : (0 : Int32) ≤ x309 ∧ x309 ≤ (8 : Int32) := by rw [ex309]; exact nu 12 rfl hI o_v1
              have d_x309 := ex309
              refine ⟨o_v0, ?_⟩
              refine m_X7_reckonMinute hI o_v0 (q175 c2 c211 c264 i1 c288 c289 r_x294 ex295 c297) hM (fun S311 hI g312 fc313 p_S311 => ?_)
              have hM := p_S311
              have l_a1 := (gr_len g312 o_a1).trans l_a1
              have d_v3 := d_v3.trans (fri_at fc313 (by decide) (by decide) o_v0).symm
              have d_v4 := d_v4.trans (fri_at fc313 (by decide) (by decide) o_v0).symm
              have d_v5 := d_v5.trans (fri_at fc313 (by decide) (by decide) o_v0).symm
              have d_x294 := d_x294.trans (fri_at fc313 (by decide) (by decide) o_v1).symm
              have d_x309 := d_x309.trans (fri_at fc313 (by decide) (by decide) o_v1).symm
              have f0 := fri_tr (S := S306) g0 f0 fc313 (by decide) (by decide)
              have fL276 := fri_tr (S := S306) gL275 fL276 fc313 (by decide) (by decide)
              have o_a1 := gr_ob g312 o_a1
              have o_v0 := gr_ob g312 o_v0
              have o_v1 := gr_ob g312 o_v1
              have o_v2 := gr_ob g312 o_v2
              have g0 := gr_tr (T := S306) g0 g312
              have gL275 := gr_tr (T := S306) gL275 g312
              intro _
              intro S314 eS314
              have hI : IV S314 := by rw [eS314]; exact iv_sI hI o_v0 (by decide) (nu_one (lo := (0 : Int32)) (hi := (401 : Int32)) (by decide) (q176 c2 c211 c264 i1 c288 c289 r_x294 ex295 c297))
              have f0 := fr_I eS314 g0 f0 o_v0 (by decide)
              have fL276 := fr_I eS314 gL275 fL276 o_v0 (by decide)
              have d_v3 := rd_Ij eS314 (by decide) d_v3
              have d_v4 := rd_Ij eS314 (by decide) d_v4
              have d_v5 := rd_Ij eS314 (by decide) d_v5
              have d_x294 := rd_Ik eS314 o_v0 o_v1 (by decide) d_x294
              have d_x309 := rd_Ik eS314 o_v0 o_v1 (by decide) d_x309
              have d_w285 := rd_Is eS314 (rfl : w285 = w285)
              have hM := wm_I eS314 hM
              have l_a1 := ln_I eS314 l_a1
              have g0 := gr_I eS314 g0
              have gL275 := gr_I eS314 gL275
              have o_a1 := ob_I eS314 o_a1
              have o_v0 := ob_I eS314 o_v0
              have o_v1 := ob_I eS314 o_v1
              have o_v2 := ob_I eS314 o_v2
              intro x315 ex315
              exact ih287 _ _ _ _ _ _ ⟨hI, gL275, fL276, rfl, rfl, rfl, rfl, hM, (q177 c2 c211 c264 i1 c288 c289 r_x294 ex295 c297 ex315)⟩ (mu_down (q178 c2 c211 c264 i1 c288 c289 r_x294 ex295 c297 ex315) (q179 c2 c211 c264 i1 c288 c289 r_x294 ex295 c297 ex315))
      · intro x316 ex316
        have d_x316 := ex316
        refine ⟨fun c317 => ?_, fun c317 => ?_⟩
        · refine u_X7_reckon_68 ?_
          refine ⟨o_v0, ?_⟩
          intro x318 ex318
          have r_x318 : (0 : Int32) ≤ x318 ∧ x318 ≤ (401 : Int32) := by rw [ex318]; exact nu 9 rfl hI o_v0
          have d_x318 := ex318
          intro x319 ex319
          refine i_X7_reckon_76 (fun (y0 : Nat) (y1 : Nat) (y2 : Nat) (y6 : Int32) (y7 : Int32) (Z : HS) => (y7.toInt - (-1 : Int32).toInt).toNat) (fun (y0 : Nat) (y1 : Nat) (y2 : Nat) (y6 : Int32) (y7 : Int32) (Z : HS) => (IV Z) ∧ (Gr S207 Z) ∧ (FRI [(7, 3), (7, 9), (7, 13)] [] S207 Z) ∧ (v0 = y0) ∧ (v1 = y1) ∧ (v2 = y2) ∧ (v6 = y6) ∧ (WM Z v0) ∧ (y7 ≤ 400)) ?_ _ _ _ _ _ _ ⟨hI, (gr_rf _), (fri_rf _ _ _), rfl, rfl, rfl, rfl, hM, (q180 h5 c2 c211 c264 c317 r_x318 ex319)⟩
          intro w323 w325 w327 w329 w331 S320 X332 ⟨hI, gL321, fL322, q324, q326, q328, q330, hM, i1⟩ ih333
          subst q324
          subst q326
          subst q328
          subst q330
          have l_a1 := (gr_len gL321 o_a1).trans l_a1
          have d_x210 := d_x210.trans (fri_at fL322 (by decide) (by decide) o_v0).symm
          have d_x263 := d_x263.trans (fri_at fL322 (by decide) (by decide) o_v0).symm
          have d_x316 := d_x316.trans (fri_at fL322 (by decide) (by decide) o_v0).symm
          have f0 := fri_tr (S := S207) g0 f0 fL322 (by decide) (by decide)
          have o_a1 := gr_ob gL321 o_a1
          have o_v0 := gr_ob gL321 o_v0
          have o_v1 := gr_ob gL321 o_v1
          have o_v2 := gr_ob gL321 o_v2
          have g0 := gr_tr (T := S207) g0 gL321
          refine u_X7_reckon_76 ?_
          refine ⟨fun c334 => ?_, fun c334 => ?_⟩
          · exact hq _ hI g0 f0
          · refine ⟨fun c335 => ?_, fun c335 => ?_⟩
            · exact hq _ hI g0 f0
            · refine ⟨o_v1, ?_⟩
              refine m_X8_hourOf hI o_v1 (fun x336 S337 hI2 g338 p_x336 => ?_)
              subst p_x336
              intro _
              intro x340 ex340
              have r_x340 : (0 : Int32) ≤ x340 ∧ x340 ≤ (6 : Int32) := by rw [ex340]; exact nu 11 rfl hI o_v1
              have d_x340 := ex340
              intro x341 ex341
              refine ⟨o_v0, ?_⟩
              intro x342 ex342
              have d_x342 := ex342
              refine ⟨fun c343 => ?_, fun c343 => ?_⟩
              · refine u_X7_reckon_120 ?_
                refine ⟨o_v1, ?_⟩
                intro x344 ex344
                have r_x344 : (0 : Int32) ≤ x344 ∧ x344 ≤ (8 : Int32) := by rw [ex344]; exact nu 12 rfl hI o_v1
                have d_x344 := ex344
                refine ⟨o_v0, ?_⟩
                refine m_X7_reckonMinute hI o_v0 (q181 h5 c2 c211 c264 c317 i1 c334 c335 r_x340 ex341 c343) hM (fun S346 hI g347 fc348 p_S346 => ?_)
                have hM := p_S346
                have l_a1 := (gr_len g347 o_a1).trans l_a1
                have d_x210 := d_x210.trans (fri_at fc348 (by decide) (by decide) o_v0).symm
                have d_x263 := d_x263.trans (fri_at fc348 (by decide) (by decide) o_v0).symm
                have d_x316 := d_x316.trans (fri_at fc348 (by decide) (by decide) o_v0).symm
                have d_x340 := d_x340.trans (fri_at fc348 (by decide) (by decide) o_v1).symm
                have d_x342 := d_x342.trans (fri_at fc348 (by decide) (by decide) o_v0).symm
                have d_x344 := d_x344.trans (fri_at fc348 (by decide) (by decide) o_v1).symm
                have f0 := fri_tr (S := S320) g0 f0 fc348 (by decide) (by decide)
                have fL322 := fri_tr (S := S320) gL321 fL322 fc348 (by decide) (by decide)
                have o_a1 := gr_ob g347 o_a1
                have o_v0 := gr_ob g347 o_v0
                have o_v1 := gr_ob g347 o_v1
                have o_v2 := gr_ob g347 o_v2
                have g0 := gr_tr (T := S320) g0 g347
                have gL321 := gr_tr (T := S320) gL321 g347
                intro _
                intro S349 eS349
                have hI : IV S349 := by rw [eS349]; exact iv_sI hI o_v0 (by decide) (nu_one (lo := (0 : Int32)) (hi := (401 : Int32)) (by decide) (q182 h5 c2 c211 c264 c317 i1 c334 c335 r_x340 ex341 c343))
                have f0 := fr_I eS349 g0 f0 o_v0 (by decide)
                have fL322 := fr_I eS349 gL321 fL322 o_v0 (by decide)
                have d_x210 := rd_Ij eS349 (by decide) d_x210
                have d_x263 := rd_Ij eS349 (by decide) d_x263
                have d_x316 := rd_Ij eS349 (by decide) d_x316
                have d_x340 := rd_Ik eS349 o_v0 o_v1 (by decide) d_x340
                have d_x342 := rd_Ij eS349 (by decide) d_x342
                have d_x344 := rd_Ik eS349 o_v0 o_v1 (by decide) d_x344
                have d_w331 := rd_Is eS349 (rfl : w331 = w331)
                have hM := wm_I eS349 hM
                have l_a1 := ln_I eS349 l_a1
                have g0 := gr_I eS349 g0
                have gL321 := gr_I eS349 gL321
                have o_a1 := ob_I eS349 o_a1
                have o_v0 := ob_I eS349 o_v0
                have o_v1 := ob_I eS349 o_v1
                have o_v2 := ob_I eS349 o_v2
                intro x350 ex350
                exact ih333 _ _ _ _ _ _ ⟨hI, gL321, fL322, rfl, rfl, rfl, rfl, hM, (q183 h5 c2 c211 c264 c317 i1 c334 c335 r_x340 ex341 c343 ex350)⟩ (mu_down (q184 h5 c2 c211 c264 c317 i1 c334 c335 r_x340 ex341 c343 ex350) (q185 h5 c2 c211 c264 c317 i1 c334 c335 r_x340 ex341 c343 ex350))
              · refine m_X7_price hI o_v0 o_v1 o_v2 hM (fun S352 hI g353 fc354 p_S352 => ?_)
                have hM := p_S352
                have l_a1 := (gr_len g353 o_a1).trans l_a1
                have d_x210 := d_x210.trans (fri_at fc354 (by decide) (by decide) o_v0).symm
                have d_x263 := d_x263.trans (fri_at fc354 (by decide) (by decide) o_v0).symm
                have d_x316 := d_x316.trans (fri_at fc354 (by decide) (by decide) o_v0).symm
                have d_x340 := d_x340.trans (fri_at fc354 (by decide) (by decide) o_v1).symm
                have f0 := fri_tr (S := S320) g0 f0 fc354 (by decide) (by decide)
                have fL322 := fri_tr (S := S320) gL321 fL322 fc354 (by decide) (by decide)
                have o_a1 := gr_ob g353 o_a1
                have o_v0 := gr_ob g353 o_v0
                have o_v1 := gr_ob g353 o_v1
                have o_v2 := gr_ob g353 o_v2
                have g0 := gr_tr (T := S320) g0 g353
                have gL321 := gr_tr (T := S320) gL321 g353
                intro _
                refine u_X7_reckon_120 ?_
                refine ⟨o_v1, ?_⟩
                intro x355 ex355
                have r_x355 : (0 : Int32) ≤ x355 ∧ x355 ≤ (8 : Int32) := by rw [ex355]; exact nu 12 rfl hI o_v1
                have d_x355 := ex355
                refine ⟨o_v0, ?_⟩
                refine m_X7_reckonMinute hI o_v0 (q186 h5 c2 c211 c264 c317 i1 c334 c335 r_x340 ex341 c343) hM (fun S357 hI g358 fc359 p_S357 => ?_)
                have hM := p_S357
                have l_a1 := (gr_len g358 o_a1).trans l_a1
                have d_x210 := d_x210.trans (fri_at fc359 (by decide) (by decide) o_v0).symm
                have d_x263 := d_x263.trans (fri_at fc359 (by decide) (by decide) o_v0).symm
                have d_x316 := d_x316.trans (fri_at fc359 (by decide) (by decide) o_v0).symm
                have d_x340 := d_x340.trans (fri_at fc359 (by decide) (by decide) o_v1).symm
                have d_x355 := d_x355.trans (fri_at fc359 (by decide) (by decide) o_v1).symm
                have f0 := fri_tr (S := S352) g0 f0 fc359 (by decide) (by decide)
                have fL322 := fri_tr (S := S352) gL321 fL322 fc359 (by decide) (by decide)
                have o_a1 := gr_ob g358 o_a1
                have o_v0 := gr_ob g358 o_v0
                have o_v1 := gr_ob g358 o_v1
                have o_v2 := gr_ob g358 o_v2
                have g0 := gr_tr (T := S352) g0 g358
                have gL321 := gr_tr (T := S352) gL321 g358
                intro _
                intro S360 eS360
                have hI : IV S360 := by rw [eS360]; exact iv_sI hI o_v0 (by decide) (nu_one (lo := (0 : Int32)) (hi := (401 : Int32)) (by decide) (q187 h5 c2 c211 c264 c317 i1 c334 c335 r_x340 ex341 c343))
                have f0 := fr_I eS360 g0 f0 o_v0 (by decide)
                have fL322 := fr_I eS360 gL321 fL322 o_v0 (by decide)
                have d_x210 := rd_Ij eS360 (by decide) d_x210
                have d_x263 := rd_Ij eS360 (by decide) d_x263
                have d_x316 := rd_Ij eS360 (by decide) d_x316
                have d_x340 := rd_Ik eS360 o_v0 o_v1 (by decide) d_x340
                have d_x355 := rd_Ik eS360 o_v0 o_v1 (by decide) d_x355
                have d_w331 := rd_Is eS360 (rfl : w331 = w331)
                have hM := wm_I eS360 hM
                have l_a1 := ln_I eS360 l_a1
                have g0 := gr_I eS360 g0
                have gL321 := gr_I eS360 gL321
                have o_a1 := ob_I eS360 o_a1
                have o_v0 := ob_I eS360 o_v0
                have o_v1 := ob_I eS360 o_v1
                have o_v2 := ob_I eS360 o_v2
                intro x361 ex361
                exact ih333 _ _ _ _ _ _ ⟨hI, gL321, fL322, rfl, rfl, rfl, rfl, hM, (q188 h5 c2 c211 c264 c317 i1 c334 c335 r_x340 ex341 c343 ex361)⟩ (mu_down (q189 h5 c2 c211 c264 c317 i1 c334 c335 r_x340 ex341 c343 ex361) (q190 h5 c2 c211 c264 c317 i1 c334 c335 r_x340 ex341 c343 ex361))
        · refine u_X7_reckon_38 ?_
          refine ⟨o_v0, ?_⟩
          intro S362 eS362
          have hI : IV S362 := by rw [eS362]; exact iv_sI hI o_v0 (by decide) (nu_free (by decide))
          have f0 := fr_I eS362 g0 f0 o_v0 (by decide)
          have d_x263 := rd_Ij eS362 (by decide) d_x263
          have d_x316 := rd_Ij eS362 (by decide) d_x316
          have d_v3 := rd_Is eS362 (rfl : v3 = v3)
          have l_a1 := ln_I eS362 l_a1
          have g0 := gr_I eS362 g0
          have o_a1 := ob_I eS362 o_a1
          have o_v0 := ob_I eS362 o_v0
          have o_v1 := ob_I eS362 o_v1
          have o_v2 := ob_I eS362 o_v2
          intro S363 eS363
          have hI : IV S363 := by rw [eS363]; exact iv_sI hI o_v0 (by decide) (nu_free (by decide))
          have f0 := fr_I eS363 g0 f0 o_v0 (by decide)
          have d_x316 := rd_Ij eS363 (by decide) d_x316
          have d_v3 := rd_Ij eS363 (by decide) d_v3
          have d_v4 := rd_Is eS363 (rfl : v4 = v4)
          have l_a1 := ln_I eS363 l_a1
          have g0 := gr_I eS363 g0
          have o_a1 := ob_I eS363 o_a1
          have o_v0 := ob_I eS363 o_v0
          have o_v1 := ob_I eS363 o_v1
          have o_v2 := ob_I eS363 o_v2
          intro S364 eS364
          have hI : IV S364 := by rw [eS364]; exact iv_sI hI o_v0 (by decide) (nu_free (by decide))
          have f0 := fr_I eS364 g0 f0 o_v0 (by decide)
          have d_v3 := rd_Ij eS364 (by decide) d_v3
          have d_v4 := rd_Ij eS364 (by decide) d_v4
          have d_v5 := rd_Is eS364 (rfl : v5 = v5)
          have l_a1 := ln_I eS364 l_a1
          have g0 := gr_I eS364 g0
          have o_a1 := ob_I eS364 o_a1
          have o_v0 := ob_I eS364 o_v0
          have o_v1 := ob_I eS364 o_v1
          have o_v2 := ob_I eS364 o_v2
          intro x365 ex365
          intro S366 eS366
          have hI : IV S366 := by rw [eS366]; exact iv_sI hI o_v0 (by decide) (nu_one (lo := (0 : Int32)) (hi := (401 : Int32)) (by decide) (q191 h5 c2 c211 c264 c317 ex365))
          have f0 := fr_I eS366 g0 f0 o_v0 (by decide)
          have d_v3 := rd_Ij eS366 (by decide) d_v3
          have d_v4 := rd_Ij eS366 (by decide) d_v4
          have d_v5 := rd_Ij eS366 (by decide) d_v5
          have d_x365 := rd_Is eS366 (rfl : x365 = x365)
          have l_a1 := ln_I eS366 l_a1
          have g0 := gr_I eS366 g0
          have o_a1 := ob_I eS366 o_a1
          have o_v0 := ob_I eS366 o_v0
          have o_v1 := ob_I eS366 o_v1
          have o_v2 := ob_I eS366 o_v2
          intro S367 eS367
          have hI : IV S367 := by rw [eS367]; exact iv_sI hI o_v0 (by decide) (nu_free (by decide))
          have f0 := fr_I eS367 g0 f0 o_v0 (by decide)
          have d_v3 := rd_Ij eS367 (by decide) d_v3
          have d_v4 := rd_Ij eS367 (by decide) d_v4
          have d_v5 := rd_Ij eS367 (by decide) d_v5
          have d_x365 := rd_Ij eS367 (by decide) d_x365
          obtain ⟨y368, hy368⟩ : ∃ z : Int32, z = (-1 : Int32) := ⟨_, rfl⟩
          have d_y368 := rd_Is eS367 hy368
          have l_a1 := ln_I eS367 l_a1
          have g0 := gr_I eS367 g0
          have o_a1 := ob_I eS367 o_a1
          have o_v0 := ob_I eS367 o_v0
          have o_v1 := ob_I eS367 o_v1
          have o_v2 := ob_I eS367 o_v2
          refine u_X7_reckon_68 ?_
          refine ⟨o_v0, ?_⟩
          intro x369 ex369
          have r_x369 : (0 : Int32) ≤ x369 ∧ x369 ≤ (401 : Int32) := by rw [ex369]; exact nu 9 rfl hI o_v0
          have q_x369 : x369 = x365 := ex369.trans d_x365.symm
          have d_x369 := ex369
          intro x370 ex370
          refine i_X7_reckon_76 (fun (y0 : Nat) (y1 : Nat) (y2 : Nat) (y6 : Int32) (y7 : Int32) (Z : HS) => (y7.toInt - (-1 : Int32).toInt).toNat) (fun (y0 : Nat) (y1 : Nat) (y2 : Nat) (y6 : Int32) (y7 : Int32) (Z : HS) => (IV Z) ∧ (Gr S367 Z) ∧ (FRI [(7, 3), (7, 9), (7, 13)] [] S367 Z) ∧ (v0 = y0) ∧ (v1 = y1) ∧ (v2 = y2) ∧ (v6 = y6) ∧ (WM Z v0) ∧ (y7 ≤ 400)) ?_ _ _ _ _ _ _ ⟨hI, (gr_rf _), (fri_rf _ _ _), rfl, rfl, rfl, rfl, hM, (q192 h5 c2 c211 c264 c317 ex365 r_x369 q_x369 ex370)⟩
          intro w374 w376 w378 w380 w382 S371 X383 ⟨hI, gL372, fL373, q375, q377, q379, q381, hM, i1⟩ ih384
          subst q375
          subst q377
          subst q379
          subst q381
          have l_a1 := (gr_len gL372 o_a1).trans l_a1
          have d_v3 := d_v3.trans (fri_at fL373 (by decide) (by decide) o_v0).symm
          have d_v4 := d_v4.trans (fri_at fL373 (by decide) (by decide) o_v0).symm
          have d_v5 := d_v5.trans (fri_at fL373 (by decide) (by decide) o_v0).symm
          have f0 := fri_tr (S := S367) g0 f0 fL373 (by decide) (by decide)
          have o_a1 := gr_ob gL372 o_a1
          have o_v0 := gr_ob gL372 o_v0
          have o_v1 := gr_ob gL372 o_v1
          have o_v2 := gr_ob gL372 o_v2
          have g0 := gr_tr (T := S367) g0 gL372
          refine u_X7_reckon_76 ?_
          refine ⟨fun c385 => ?_, fun c385 => ?_⟩
          · exact hq _ hI g0 f0
          · refine ⟨fun c386 => ?_, fun c386 => ?_⟩
            · exact hq _ hI g0 f0
            · refine ⟨o_v1, ?_⟩
              refine m_X8_hourOf hI o_v1 (fun x387 S388 hI2 g389 p_x387 => ?_)
              subst p_x387
              intro _
              intro x391 ex391
              have r_x391 : (0 : Int32) ≤ x391 ∧ x391 ≤ (6 : Int32) := by rw [ex391]; exact nu 11 rfl hI o_v1
              have d_x391 := ex391
              intro x392 ex392
              refine ⟨o_v0, ?_⟩
              intro x393 ex393
              have d_x393 := ex393
              refine ⟨fun c394 => ?_, fun c394 => ?_⟩
              · refine u_X7_reckon_120 ?_
                refine ⟨o_v1, ?_⟩
                intro x395 ex395
                have r_x395 : (0 : Int32) ≤ x395 ∧ x395 ≤ (8 : Int32) := by rw [ex395]; exact nu 12 rfl hI o_v1
                have d_x395 := ex395
                refine ⟨o_v0, ?_⟩
                refine m_X7_reckonMinute hI o_v0 (q193 h5 c2 c211 c264 c317 ex365 r_x369 q_x369 ex370 i1 c385 c386 r_x391 ex392 c394) hM (fun S397 hI g398 fc399 p_S397 => ?_)
                have hM := p_S397
                have l_a1 := (gr_len g398 o_a1).trans l_a1
                have d_v3 := d_v3.trans (fri_at fc399 (by decide) (by decide) o_v0).symm
                have d_v4 := d_v4.trans (fri_at fc399 (by decide) (by decide) o_v0).symm
                have d_v5 := d_v5.trans (fri_at fc399 (by decide) (by decide) o_v0).symm
                have d_x391 := d_x391.trans (fri_at fc399 (by decide) (by decide) o_v1).symm
                have d_x393 := d_x393.trans (fri_at fc399 (by decide) (by decide) o_v0).symm
                have d_x395 := d_x395.trans (fri_at fc399 (by decide) (by decide) o_v1).symm
                have f0 := fri_tr (S := S371) g0 f0 fc399 (by decide) (by decide)
                have fL373 := fri_tr (S := S371) gL372 fL373 fc399 (by decide) (by decide)
                have o_a1 := gr_ob g398 o_a1
                have o_v0 := gr_ob g398 o_v0
                have o_v1 := gr_ob g398 o_v1
                have o_v2 := gr_ob g398 o_v2
                have g0 := gr_tr (T := S371) g0 g398
                have gL372 := gr_tr (T := S371) gL372 g398
                intro _
                intro S400 eS400
                have hI : IV S400 := by rw [eS400]; exact iv_sI hI o_v0 (by decide) (nu_one (lo := (0 : Int32)) (hi := (401 : Int32)) (by decide) (q194 h5 c2 c211 c264 c317 ex365 r_x369 q_x369 ex370 i1 c385 c386 r_x391 ex392 c394))
                have f0 := fr_I eS400 g0 f0 o_v0 (by decide)
                have fL373 := fr_I eS400 gL372 fL373 o_v0 (by decide)
                have d_v3 := rd_Ij eS400 (by decide) d_v3
                have d_v4 := rd_Ij eS400 (by decide) d_v4
                have d_v5 := rd_Ij eS400 (by decide) d_v5
                have d_x391 := rd_Ik eS400 o_v0 o_v1 (by decide) d_x391
                have d_x393 := rd_Ij eS400 (by decide) d_x393
                have d_x395 := rd_Ik eS400 o_v0 o_v1 (by decide) d_x395
                have d_w382 := rd_Is eS400 (rfl : w382 = w382)
                have hM := wm_I eS400 hM
                have l_a1 := ln_I eS400 l_a1
                have g0 := gr_I eS400 g0
                have gL372 := gr_I eS400 gL372
                have o_a1 := ob_I eS400 o_a1
                have o_v0 := ob_I eS400 o_v0
                have o_v1 := ob_I eS400 o_v1
                have o_v2 := ob_I eS400 o_v2
                intro x401 ex401
                exact ih384 _ _ _ _ _ _ ⟨hI, gL372, fL373, rfl, rfl, rfl, rfl, hM, (q195 h5 c2 c211 c264 c317 ex365 r_x369 q_x369 ex370 i1 c385 c386 r_x391 ex392 c394 ex401)⟩ (mu_down (q196 h5 c2 c211 c264 c317 ex365 r_x369 q_x369 ex370 i1 c385 c386 r_x391 ex392 c394 ex401) (q197 h5 c2 c211 c264 c317 ex365 r_x369 q_x369 ex370 i1 c385 c386 r_x391 ex392 c394 ex401))
              · refine m_X7_price hI o_v0 o_v1 o_v2 hM (fun S403 hI g404 fc405 p_S403 => ?_)
                have hM := p_S403
                have l_a1 := (gr_len g404 o_a1).trans l_a1
                have d_v3 := d_v3.trans (fri_at fc405 (by decide) (by decide) o_v0).symm
                have d_v4 := d_v4.trans (fri_at fc405 (by decide) (by decide) o_v0).symm
                have d_v5 := d_v5.trans (fri_at fc405 (by decide) (by decide) o_v0).symm
                have d_x391 := d_x391.trans (fri_at fc405 (by decide) (by decide) o_v1).symm
                have f0 := fri_tr (S := S371) g0 f0 fc405 (by decide) (by decide)
                have fL373 := fri_tr (S := S371) gL372 fL373 fc405 (by decide) (by decide)
                have o_a1 := gr_ob g404 o_a1
                have o_v0 := gr_ob g404 o_v0
                have o_v1 := gr_ob g404 o_v1
                have o_v2 := gr_ob g404 o_v2
                have g0 := gr_tr (T := S371) g0 g404
                have gL372 := gr_tr (T := S371) gL372 g404
                intro _
                refine u_X7_reckon_120 ?_
                refine ⟨o_v1, ?_⟩
                intro x406 ex406
                have r_x406 : (0 : Int32) ≤ x406 ∧ x406 ≤ (8 : Int32) := by rw [ex406]; exact nu 12 rfl hI o_v1
                have d_x406 := ex406
                refine ⟨o_v0, ?_⟩
                refine m_X7_reckonMinute hI o_v0 (q198 h5 c2 c211 c264 c317 ex365 r_x369 q_x369 ex370 i1 c385 c386 r_x391 ex392 c394) hM (fun S408 hI g409 fc410 p_S408 => ?_)
                have hM := p_S408
                have l_a1 := (gr_len g409 o_a1).trans l_a1
                have d_v3 := d_v3.trans (fri_at fc410 (by decide) (by decide) o_v0).symm
                have d_v4 := d_v4.trans (fri_at fc410 (by decide) (by decide) o_v0).symm
                have d_v5 := d_v5.trans (fri_at fc410 (by decide) (by decide) o_v0).symm
                have d_x391 := d_x391.trans (fri_at fc410 (by decide) (by decide) o_v1).symm
                have d_x406 := d_x406.trans (fri_at fc410 (by decide) (by decide) o_v1).symm
                have f0 := fri_tr (S := S403) g0 f0 fc410 (by decide) (by decide)
                have fL373 := fri_tr (S := S403) gL372 fL373 fc410 (by decide) (by decide)
                have o_a1 := gr_ob g409 o_a1
                have o_v0 := gr_ob g409 o_v0
                have o_v1 := gr_ob g409 o_v1
                have o_v2 := gr_ob g409 o_v2
                have g0 := gr_tr (T := S403) g0 g409
                have gL372 := gr_tr (T := S403) gL372 g409
                intro _
                intro S411 eS411
                have hI : IV S411 := by rw [eS411]; exact iv_sI hI o_v0 (by decide) (nu_one (lo := (0 : Int32)) (hi := (401 : Int32)) (by decide) (q199 h5 c2 c211 c264 c317 ex365 r_x369 q_x369 ex370 i1 c385 c386 r_x391 ex392 c394))
                have f0 := fr_I eS411 g0 f0 o_v0 (by decide)
                have fL373 := fr_I eS411 gL372 fL373 o_v0 (by decide)
                have d_v3 := rd_Ij eS411 (by decide) d_v3
                have d_v4 := rd_Ij eS411 (by decide) d_v4
                have d_v5 := rd_Ij eS411 (by decide) d_v5
                have d_x391 := rd_Ik eS411 o_v0 o_v1 (by decide) d_x391
                have d_x406 := rd_Ik eS411 o_v0 o_v1 (by decide) d_x406
                have d_w382 := rd_Is eS411 (rfl : w382 = w382)
                have hM := wm_I eS411 hM
                have l_a1 := ln_I eS411 l_a1
                have g0 := gr_I eS411 g0
                have gL372 := gr_I eS411 gL372
                have o_a1 := ob_I eS411 o_a1
                have o_v0 := ob_I eS411 o_v0
                have o_v1 := ob_I eS411 o_v1
                have o_v2 := ob_I eS411 o_v2
                intro x412 ex412
                exact ih384 _ _ _ _ _ _ ⟨hI, gL372, fL373, rfl, rfl, rfl, rfl, hM, (q200 h5 c2 c211 c264 c317 ex365 r_x369 q_x369 ex370 i1 c385 c386 r_x391 ex392 c394 ex412)⟩ (mu_down (q201 h5 c2 c211 c264 c317 ex365 r_x369 q_x369 ex370 i1 c385 c386 r_x391 ex392 c394 ex412) (q202 h5 c2 c211 c264 c317 ex365 r_x369 q_x369 ex370 i1 c385 c386 r_x391 ex392 c394 ex412))
