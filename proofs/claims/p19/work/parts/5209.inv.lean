section
set_option maxHeartbeats 4000000 in
set_option maxRecDepth 20000 in
theorem m_X8_hourOf {v0 : Nat} {v1 : Int32} {Q : Int32 → HS → Prop} {S : HS} (hI : IV S) (o_v0 : ob S v0 8)     (hq : ∀ (r : Int32) (T : HS), IV T → Gr S T → (S = T) → Q r T) : P_X8_hourOf v0 v1 Q S := by
  have g0 := gr_rf S
  refine u_X8_hourOf ?_
  refine u_X8_hourOf_0 ?_
  refine ⟨o_v0, ?_⟩
  intro x1 ex1
  have r_x1 : (0 : Int32) ≤ x1 ∧ x1 ≤ (60 : Int32) := by rw [ex1]; exact nu 10 rfl hI o_v0
  have d_x1 := ex1
  refine ⟨fun c2 => ?_, fun c2 => ?_⟩
  · exact hq _ _ hI g0 rfl
  · intro x3 ex3
    have r_x3 : (0 : Int32) ≤ x3 ∧ x3 ≤ (60 : Int32) := by rw [ex3]; exact nu 10 rfl hI o_v0
    have q_x3 : x3 = x1 := ex3.trans d_x1.symm
    have d_x3 := ex3
    refine ⟨(q848 r_x1 c2 r_x3 q_x3), ?_⟩
    intro x4 ex4
    exact hq _ _ hI g0 rfl
set_option maxHeartbeats 4000000 in
set_option maxRecDepth 20000 in
theorem m_X7_reckon {v0 : Nat} {v1 : Nat} {v2 : Nat} {v3 : Int32} {v4 : Int32} {v5 : Int32} {v6 : Int32} {Q : HS → Prop} {S : HS} (hI : IV S) (o_v0 : ob S v0 7) (o_v1 : ob S v1 8) (o_v2 : ob S v2 1)   (h5 : 0 ≤ v5 ∧ v5 ≤ 400)  (hq : ∀ (T : HS), IV T → Gr S T → FRI [(7, 3), (7, 9), (7, 10), (7, 11), (7, 12), (7, 13)] [(7, 0), (7, 1), (7, 2), (7, 4), (7, 5), (7, 6), (7, 7), (7, 8)] S T → Q T) : P_X7_reckon v0 v1 v2 v3 v4 v5 v6 Q S := by
  have g0 := gr_rf S
  have f0 := fri_rf [(7, 3), (7, 9), (7, 10), (7, 11), (7, 12), (7, 13)] [(7, 0), (7, 1), (7, 2), (7, 4), (7, 5), (7, 6), (7, 7), (7, 8)] S
  refine u_X7_reckon ?_
  refine u_X7_reckon_0 ?_
  refine ⟨o_v0, ?_⟩
  obtain ⟨a1, ea1, o_a1, -⟩ := sh 22 rfl hI o_v0
  have hl_a1 := wyl hI o_v0 1 rfl (by decide) ea1
  refine ⟨a1, ea1, ?_⟩
  refine ⟨o_a1, ?_⟩
  refine ⟨fun c2 => ?_, fun c2 => ?_⟩
  · have hM := wm_of hI o_v0 ea1 c2
    refine u_X7_reckon_12 ?_
    refine ⟨o_v0, ?_⟩
    intro x3 ex3
    have d_x3 := ex3
    refine ⟨fun c4 => ?_, fun c4 => ?_⟩
    · refine u_X7_reckon_38 ?_
      refine ⟨o_v0, ?_⟩
      intro S5 eS5
      have hI : IV S5 := by rw [eS5]; exact iv_sI hI o_v0 (by decide) (nu_free (by decide))
      have f0 := fr_I eS5 g0 f0 o_v0 (by decide)
      have d_v3 := rd_Is eS5 (rfl : v3 = v3)
      have ea1 := rf_I eS5 ea1
      have hM := wm_I eS5 hM
      have hl_a1 := hl_I eS5 hl_a1
      have g0 := gr_I eS5 g0
      have o_a1 := ob_I eS5 o_a1
      have o_v0 := ob_I eS5 o_v0
      have o_v1 := ob_I eS5 o_v1
      have o_v2 := ob_I eS5 o_v2
      intro S6 eS6
      have hI : IV S6 := by rw [eS6]; exact iv_sI hI o_v0 (by decide) (nu_free (by decide))
      have f0 := fr_I eS6 g0 f0 o_v0 (by decide)
      have d_v3 := rd_Ij eS6 (by decide) d_v3
      have d_v4 := rd_Is eS6 (rfl : v4 = v4)
      have ea1 := rf_I eS6 ea1
      have hM := wm_I eS6 hM
      have hl_a1 := hl_I eS6 hl_a1
      have g0 := gr_I eS6 g0
      have o_a1 := ob_I eS6 o_a1
      have o_v0 := ob_I eS6 o_v0
      have o_v1 := ob_I eS6 o_v1
      have o_v2 := ob_I eS6 o_v2
      intro S7 eS7
      have hI : IV S7 := by rw [eS7]; exact iv_sI hI o_v0 (by decide) (nu_free (by decide))
      have f0 := fr_I eS7 g0 f0 o_v0 (by decide)
      have d_v3 := rd_Ij eS7 (by decide) d_v3
      have d_v4 := rd_Ij eS7 (by decide) d_v4
      have d_v5 := rd_Is eS7 (rfl : v5 = v5)
      have ea1 := rf_I eS7 ea1
      have hM := wm_I eS7 hM
      have hl_a1 := hl_I eS7 hl_a1
      have g0 := gr_I eS7 g0
      have o_a1 := ob_I eS7 o_a1
      have o_v0 := ob_I eS7 o_v0
      have o_v1 := ob_I eS7 o_v1
      have o_v2 := ob_I eS7 o_v2
      intro x8 ex8
      intro S9 eS9
      have hI : IV S9 := by rw [eS9]; exact iv_sI hI o_v0 (by decide) (nu_one (lo := (0 : Int32)) (hi := (401 : Int32)) (by decide) (q754 h5 c2 c4 ex8))
      have f0 := fr_I eS9 g0 f0 o_v0 (by decide)
      have d_v3 := rd_Ij eS9 (by decide) d_v3
      have d_v4 := rd_Ij eS9 (by decide) d_v4
      have d_v5 := rd_Ij eS9 (by decide) d_v5
      have d_x8 := rd_Is eS9 (rfl : x8 = x8)
      have ea1 := rf_I eS9 ea1
      have hM := wm_I eS9 hM
      have hl_a1 := hl_I eS9 hl_a1
      have g0 := gr_I eS9 g0
      have o_a1 := ob_I eS9 o_a1
      have o_v0 := ob_I eS9 o_v0
      have o_v1 := ob_I eS9 o_v1
      have o_v2 := ob_I eS9 o_v2
      intro S10 eS10
      have hI : IV S10 := by rw [eS10]; exact iv_sI hI o_v0 (by decide) (nu_free (by decide))
      have f0 := fr_I eS10 g0 f0 o_v0 (by decide)
      have d_v3 := rd_Ij eS10 (by decide) d_v3
      have d_v4 := rd_Ij eS10 (by decide) d_v4
      have d_v5 := rd_Ij eS10 (by decide) d_v5
      have d_x8 := rd_Ij eS10 (by decide) d_x8
      obtain ⟨y11, hy11⟩ : ∃ z : Int32, z = (-1 : Int32) := ⟨_, rfl⟩
      have d_y11 := rd_Is eS10 hy11
      have ea1 := rf_I eS10 ea1
      have hM := wm_I eS10 hM
      have hl_a1 := hl_I eS10 hl_a1
      have g0 := gr_I eS10 g0
      have o_a1 := ob_I eS10 o_a1
      have o_v0 := ob_I eS10 o_v0
      have o_v1 := ob_I eS10 o_v1
      have o_v2 := ob_I eS10 o_v2
      refine u_X7_reckon_68 ?_
      refine ⟨o_v0, ?_⟩
      intro x12 ex12
      have r_x12 : (0 : Int32) ≤ x12 ∧ x12 ≤ (401 : Int32) := by rw [ex12]; exact nu 9 rfl hI o_v0
      have q_x12 : x12 = x8 := ex12.trans d_x8.symm
      have d_x12 := ex12
      intro x13 ex13
      refine i_X7_reckon_76 (fun (y0 : Nat) (y1 : Nat) (y2 : Nat) (y6 : Int32) (y7 : Int32) (Z : HS) => (y7.toInt - (-1 : Int32).toInt).toNat) (fun (y0 : Nat) (y1 : Nat) (y2 : Nat) (y6 : Int32) (y7 : Int32) (Z : HS) => (IV Z) ∧ (Gr S10 Z) ∧ (FRI [(7, 3), (7, 9), (7, 13)] [] S10 Z) ∧ (v0 = y0) ∧ (v1 = y1) ∧ (v2 = y2) ∧ (v6 = y6) ∧ (WM Z v0) ∧ (y7 ≤ 400)) ?_ _ _ _ _ _ _ ⟨hI, (gr_rf _), (fri_rf _ _ _), rfl, rfl, rfl, rfl, hM, (q755 h5 c2 c4 ex8 r_x12 q_x12 ex13)⟩
      intro w18 w20 w22 w24 w26 S15 X27 ⟨hI, gL16, fL17, q19, q21, q23, q25, hM, i1u14⟩ ih28
      subst q19
      subst q21
      subst q23
      subst q25
      have d_v3 := d_v3.trans (fri_at fL17 (by decide) (by decide) o_v0).symm
      have d_v4 := d_v4.trans (fri_at fL17 (by decide) (by decide) o_v0).symm
      have d_v5 := d_v5.trans (fri_at fL17 (by decide) (by decide) o_v0).symm
      have ea1 := (frr_at fL17 (by decide) (by decide) o_v0).trans ea1
      have f0 := fri_tr (S := S10) g0 f0 fL17 (by decide) (by decide)
      have hl_a1 := hl_g gL16 o_a1 hl_a1
      have o_a1 := gr_ob gL16 o_a1
      have o_v0 := gr_ob gL16 o_v0
      have o_v1 := gr_ob gL16 o_v1
      have o_v2 := gr_ob gL16 o_v2
      have g0 := gr_tr (T := S10) g0 gL16
      refine u_X7_reckon_76 ?_
      refine ⟨fun c29 => ?_, fun c29 => ?_⟩
      · exact hq _ hI g0 f0
      · refine ⟨fun c30 => ?_, fun c30 => ?_⟩
        · exact hq _ hI g0 f0
        · refine ⟨o_v1, ?_⟩
          refine m_X8_hourOf hI o_v1 (fun x31 S32 hI2 g33 p_x31 => ?_)
          subst p_x31
          intro _
          intro x35 ex35
          have r_x35 : (0 : Int32) ≤ x35 ∧ x35 ≤ (6 : Int32) := by rw [ex35]; exact nu 11 rfl hI o_v1
          have d_x35 := ex35
          intro x36 ex36
          refine ⟨o_v0, ?_⟩
          intro x37 ex37
          have d_x37 := ex37
          refine ⟨fun c38 => ?_, fun c38 => ?_⟩
          · refine u_X7_reckon_120 ?_
            refine ⟨o_v1, ?_⟩
            intro x39 ex39
            have r_x39 : (0 : Int32) ≤ x39 ∧ x39 ≤ (8 : Int32) := by rw [ex39]; exact nu 12 rfl hI o_v1
            have d_x39 := ex39
            refine ⟨o_v0, ?_⟩
            refine m_X7_reckonMinute hI o_v0 (q756 c2 c4 i1u14 c29 c30 r_x35 ex36 c38) hM (fun S41 hJ g42 fc43 p_S41 => ?_)
            have hM := p_S41
            have hI := hJ
            have d_v3 := d_v3.trans (fri_at fc43 (by decide) (by decide) o_v0).symm
            have d_v4 := d_v4.trans (fri_at fc43 (by decide) (by decide) o_v0).symm
            have d_v5 := d_v5.trans (fri_at fc43 (by decide) (by decide) o_v0).symm
            have d_x35 := d_x35.trans (fri_at fc43 (by decide) (by decide) o_v1).symm
            have d_x37 := d_x37.trans (fri_at fc43 (by decide) (by decide) o_v0).symm
            have d_x39 := d_x39.trans (fri_at fc43 (by decide) (by decide) o_v1).symm
            have ea1 := (frr_at fc43 (by decide) (by decide) o_v0).trans ea1
            have f0 := fri_tr (S := S15) g0 f0 fc43 (by decide) (by decide)
            have fL17 := fri_tr (S := S15) gL16 fL17 fc43 (by decide) (by decide)
            have hl_a1 := hl_g g42 o_a1 hl_a1
            have o_a1 := gr_ob g42 o_a1
            have o_v0 := gr_ob g42 o_v0
            have o_v1 := gr_ob g42 o_v1
            have o_v2 := gr_ob g42 o_v2
            have g0 := gr_tr (T := S15) g0 g42
            have gL16 := gr_tr (T := S15) gL16 g42
            intro _
            intro S44 eS44
            have hI : IV S44 := by rw [eS44]; exact iv_sI hI o_v0 (by decide) (nu_one (lo := (0 : Int32)) (hi := (401 : Int32)) (by decide) (q757 c2 c4 i1u14 c29 c30 r_x35 ex36 c38))
            have f0 := fr_I eS44 g0 f0 o_v0 (by decide)
            have fL17 := fr_I eS44 gL16 fL17 o_v0 (by decide)
            have d_v3 := rd_Ij eS44 (by decide) d_v3
            have d_v4 := rd_Ij eS44 (by decide) d_v4
            have d_v5 := rd_Ij eS44 (by decide) d_v5
            have d_x35 := rd_Ik eS44 o_v0 o_v1 (by decide) d_x35
            have d_x37 := rd_Ij eS44 (by decide) d_x37
            have d_x39 := rd_Ik eS44 o_v0 o_v1 (by decide) d_x39
            have d_w26 := rd_Is eS44 (rfl : w26 = w26)
            have ea1 := rf_I eS44 ea1
            have hM := wm_I eS44 hM
            have hl_a1 := hl_I eS44 hl_a1
            have g0 := gr_I eS44 g0
            have gL16 := gr_I eS44 gL16
            have o_a1 := ob_I eS44 o_a1
            have o_v0 := ob_I eS44 o_v0
            have o_v1 := ob_I eS44 o_v1
            have o_v2 := ob_I eS44 o_v2
            intro x45 ex45
            exact ih28 _ _ _ _ _ _ ⟨hI, gL16, fL17, rfl, rfl, rfl, rfl, hM, (q758 c2 c4 i1u14 c29 c30 r_x35 ex36 c38 ex45)⟩ (mu_down (q759 c2 c4 i1u14 c29 c30 r_x35 ex36 c38 ex45) (q760 c2 c4 i1u14 c29 c30 r_x35 ex36 c38 ex45))
          · refine m_X7_price hI o_v0 o_v1 o_v2 hM (fun S47 hJ g48 fc49 p_S47 => ?_)
            have hM := p_S47
            have hI := hJ
            have d_v3 := d_v3.trans (fri_at fc49 (by decide) (by decide) o_v0).symm
            have d_v4 := d_v4.trans (fri_at fc49 (by decide) (by decide) o_v0).symm
            have d_v5 := d_v5.trans (fri_at fc49 (by decide) (by decide) o_v0).symm
            have d_x35 := d_x35.trans (fri_at fc49 (by decide) (by decide) o_v1).symm
            have ea1 := (frr_at fc49 (by decide) (by decide) o_v0).trans ea1
            have f0 := fri_tr (S := S15) g0 f0 fc49 (by decide) (by decide)
            have fL17 := fri_tr (S := S15) gL16 fL17 fc49 (by decide) (by decide)
            have hl_a1 := hl_g g48 o_a1 hl_a1
            have o_a1 := gr_ob g48 o_a1
            have o_v0 := gr_ob g48 o_v0
            have o_v1 := gr_ob g48 o_v1
            have o_v2 := gr_ob g48 o_v2
            have g0 := gr_tr (T := S15) g0 g48
            have gL16 := gr_tr (T := S15) gL16 g48
            intro _
            refine u_X7_reckon_120 ?_
            refine ⟨o_v1, ?_⟩
            intro x50 ex50
            have r_x50 : (0 : Int32) ≤ x50 ∧ x50 ≤ (8 : Int32) := by rw [ex50]; exact nu 12 rfl hI o_v1
            have d_x50 := ex50
            refine ⟨o_v0, ?_⟩
            refine m_X7_reckonMinute hI o_v0 (q761 c2 c4 i1u14 c29 c30 r_x35 ex36 c38) hM (fun S52 hJ g53 fc54 p_S52 => ?_)
            have hM := p_S52
            have hI := hJ
            have d_v3 := d_v3.trans (fri_at fc54 (by decide) (by decide) o_v0).symm
            have d_v4 := d_v4.trans (fri_at fc54 (by decide) (by decide) o_v0).symm
            have d_v5 := d_v5.trans (fri_at fc54 (by decide) (by decide) o_v0).symm
            have d_x35 := d_x35.trans (fri_at fc54 (by decide) (by decide) o_v1).symm
            have d_x50 := d_x50.trans (fri_at fc54 (by decide) (by decide) o_v1).symm
            have ea1 := (frr_at fc54 (by decide) (by decide) o_v0).trans ea1
            have f0 := fri_tr (S := S47) g0 f0 fc54 (by decide) (by decide)
            have fL17 := fri_tr (S := S47) gL16 fL17 fc54 (by decide) (by decide)
            have hl_a1 := hl_g g53 o_a1 hl_a1
            have o_a1 := gr_ob g53 o_a1
            have o_v0 := gr_ob g53 o_v0
            have o_v1 := gr_ob g53 o_v1
            have o_v2 := gr_ob g53 o_v2
            have g0 := gr_tr (T := S47) g0 g53
            have gL16 := gr_tr (T := S47) gL16 g53
            intro _
            intro S55 eS55
            have hI : IV S55 := by rw [eS55]; exact iv_sI hI o_v0 (by decide) (nu_one (lo := (0 : Int32)) (hi := (401 : Int32)) (by decide) (q762 c2 c4 i1u14 c29 c30 r_x35 ex36 c38))
            have f0 := fr_I eS55 g0 f0 o_v0 (by decide)
            have fL17 := fr_I eS55 gL16 fL17 o_v0 (by decide)
            have d_v3 := rd_Ij eS55 (by decide) d_v3
            have d_v4 := rd_Ij eS55 (by decide) d_v4
            have d_v5 := rd_Ij eS55 (by decide) d_v5
            have d_x35 := rd_Ik eS55 o_v0 o_v1 (by decide) d_x35
            have d_x50 := rd_Ik eS55 o_v0 o_v1 (by decide) d_x50
            have d_w26 := rd_Is eS55 (rfl : w26 = w26)
            have ea1 := rf_I eS55 ea1
            have hM := wm_I eS55 hM
            have hl_a1 := hl_I eS55 hl_a1
            have g0 := gr_I eS55 g0
            have gL16 := gr_I eS55 gL16
            have o_a1 := ob_I eS55 o_a1
            have o_v0 := ob_I eS55 o_v0
            have o_v1 := ob_I eS55 o_v1
            have o_v2 := ob_I eS55 o_v2
            intro x56 ex56
            exact ih28 _ _ _ _ _ _ ⟨hI, gL16, fL17, rfl, rfl, rfl, rfl, hM, (q763 c2 c4 i1u14 c29 c30 r_x35 ex36 c38 ex56)⟩ (mu_down (q764 c2 c4 i1u14 c29 c30 r_x35 ex36 c38 ex56) (q765 c2 c4 i1u14 c29 c30 r_x35 ex36 c38 ex56))
    · intro x57 ex57
      have d_x57 := ex57
      refine ⟨fun c58 => ?_, fun c58 => ?_⟩
      · refine u_X7_reckon_38 ?_
        refine ⟨o_v0, ?_⟩
        intro S59 eS59
        have hI : IV S59 := by rw [eS59]; exact iv_sI hI o_v0 (by decide) (nu_free (by decide))
        have f0 := fr_I eS59 g0 f0 o_v0 (by decide)
        have d_x57 := rd_Ij eS59 (by decide) d_x57
        have d_v3 := rd_Is eS59 (rfl : v3 = v3)
        have ea1 := rf_I eS59 ea1
        have hM := wm_I eS59 hM
        have hl_a1 := hl_I eS59 hl_a1
        have g0 := gr_I eS59 g0
        have o_a1 := ob_I eS59 o_a1
        have o_v0 := ob_I eS59 o_v0
        have o_v1 := ob_I eS59 o_v1
        have o_v2 := ob_I eS59 o_v2
        intro S60 eS60
        have hI : IV S60 := by rw [eS60]; exact iv_sI hI o_v0 (by decide) (nu_free (by decide))
        have f0 := fr_I eS60 g0 f0 o_v0 (by decide)
        have d_v3 := rd_Ij eS60 (by decide) d_v3
        have d_v4 := rd_Is eS60 (rfl : v4 = v4)
        have ea1 := rf_I eS60 ea1
        have hM := wm_I eS60 hM
        have hl_a1 := hl_I eS60 hl_a1
        have g0 := gr_I eS60 g0
        have o_a1 := ob_I eS60 o_a1
        have o_v0 := ob_I eS60 o_v0
        have o_v1 := ob_I eS60 o_v1
        have o_v2 := ob_I eS60 o_v2
        intro S61 eS61
        have hI : IV S61 := by rw [eS61]; exact iv_sI hI o_v0 (by decide) (nu_free (by decide))
        have f0 := fr_I eS61 g0 f0 o_v0 (by decide)
        have d_v3 := rd_Ij eS61 (by decide) d_v3
        have d_v4 := rd_Ij eS61 (by decide) d_v4
        have d_v5 := rd_Is eS61 (rfl : v5 = v5)
        have ea1 := rf_I eS61 ea1
        have hM := wm_I eS61 hM
        have hl_a1 := hl_I eS61 hl_a1
        have g0 := gr_I eS61 g0
        have o_a1 := ob_I eS61 o_a1
        have o_v0 := ob_I eS61 o_v0
        have o_v1 := ob_I eS61 o_v1
        have o_v2 := ob_I eS61 o_v2
        intro x62 ex62
        intro S63 eS63
        have hI : IV S63 := by rw [eS63]; exact iv_sI hI o_v0 (by decide) (nu_one (lo := (0 : Int32)) (hi := (401 : Int32)) (by decide) (q766 h5 c2 c4 c58 ex62))
        have f0 := fr_I eS63 g0 f0 o_v0 (by decide)
        have d_v3 := rd_Ij eS63 (by decide) d_v3
        have d_v4 := rd_Ij eS63 (by decide) d_v4
        have d_v5 := rd_Ij eS63 (by decide) d_v5
        have d_x62 := rd_Is eS63 (rfl : x62 = x62)
        have ea1 := rf_I eS63 ea1
        have hM := wm_I eS63 hM
        have hl_a1 := hl_I eS63 hl_a1
        have g0 := gr_I eS63 g0
        have o_a1 := ob_I eS63 o_a1
        have o_v0 := ob_I eS63 o_v0
        have o_v1 := ob_I eS63 o_v1
        have o_v2 := ob_I eS63 o_v2
        intro S64 eS64
        have hI : IV S64 := by rw [eS64]; exact iv_sI hI o_v0 (by decide) (nu_free (by decide))
        have f0 := fr_I eS64 g0 f0 o_v0 (by decide)
        have d_v3 := rd_Ij eS64 (by decide) d_v3
        have d_v4 := rd_Ij eS64 (by decide) d_v4
        have d_v5 := rd_Ij eS64 (by decide) d_v5
        have d_x62 := rd_Ij eS64 (by decide) d_x62
        obtain ⟨y65, hy65⟩ : ∃ z : Int32, z = (-1 : Int32) := ⟨_, rfl⟩
        have d_y65 := rd_Is eS64 hy65
        have ea1 := rf_I eS64 ea1
        have hM := wm_I eS64 hM
        have hl_a1 := hl_I eS64 hl_a1
        have g0 := gr_I eS64 g0
        have o_a1 := ob_I eS64 o_a1
        have o_v0 := ob_I eS64 o_v0
        have o_v1 := ob_I eS64 o_v1
        have o_v2 := ob_I eS64 o_v2
        refine u_X7_reckon_68 ?_
        refine ⟨o_v0, ?_⟩
        intro x66 ex66
        have r_x66 : (0 : Int32) ≤ x66 ∧ x66 ≤ (401 : Int32) := by rw [ex66]; exact nu 9 rfl hI o_v0
        have q_x66 : x66 = x62 := ex66.trans d_x62.symm
        have d_x66 := ex66
        intro x67 ex67
        refine i_X7_reckon_76 (fun (y0 : Nat) (y1 : Nat) (y2 : Nat) (y6 : Int32) (y7 : Int32) (Z : HS) => (y7.toInt - (-1 : Int32).toInt).toNat) (fun (y0 : Nat) (y1 : Nat) (y2 : Nat) (y6 : Int32) (y7 : Int32) (Z : HS) => (IV Z) ∧ (Gr S64 Z) ∧ (FRI [(7, 3), (7, 9), (7, 13)] [] S64 Z) ∧ (v0 = y0) ∧ (v1 = y1) ∧ (v2 = y2) ∧ (v6 = y6) ∧ (WM Z v0) ∧ (y7 ≤ 400)) ?_ _ _ _ _ _ _ ⟨hI, (gr_rf _), (fri_rf _ _ _), rfl, rfl, rfl, rfl, hM, (q767 h5 c2 c4 c58 ex62 r_x66 q_x66 ex67)⟩
        intro w72 w74 w76 w78 w80 S69 X81 ⟨hI, gL70, fL71, q73, q75, q77, q79, hM, i1u68⟩ ih82
        subst q73
        subst q75
        subst q77
        subst q79
        have d_v3 := d_v3.trans (fri_at fL71 (by decide) (by decide) o_v0).symm
        have d_v4 := d_v4.trans (fri_at fL71 (by decide) (by decide) o_v0).symm
        have d_v5 := d_v5.trans (fri_at fL71 (by decide) (by decide) o_v0).symm
        have ea1 := (frr_at fL71 (by decide) (by decide) o_v0).trans ea1
        have f0 := fri_tr (S := S64) g0 f0 fL71 (by decide) (by decide)
        have hl_a1 := hl_g gL70 o_a1 hl_a1
        have o_a1 := gr_ob gL70 o_a1
        have o_v0 := gr_ob gL70 o_v0
        have o_v1 := gr_ob gL70 o_v1
        have o_v2 := gr_ob gL70 o_v2
        have g0 := gr_tr (T := S64) g0 gL70
        refine u_X7_reckon_76 ?_
        refine ⟨fun c83 => ?_, fun c83 => ?_⟩
        · exact hq _ hI g0 f0
        · refine ⟨fun c84 => ?_, fun c84 => ?_⟩
          · exact hq _ hI g0 f0
          · refine ⟨o_v1, ?_⟩
            refine m_X8_hourOf hI o_v1 (fun x85 S86 hI2 g87 p_x85 => ?_)
            subst p_x85
            intro _
            intro x89 ex89
            have r_x89 : (0 : Int32) ≤ x89 ∧ x89 ≤ (6 : Int32) := by rw [ex89]; exact nu 11 rfl hI o_v1
            have d_x89 := ex89
            intro x90 ex90
            refine ⟨o_v0, ?_⟩
            intro x91 ex91
            have d_x91 := ex91
            refine ⟨fun c92 => ?_, fun c92 => ?_⟩
            · refine u_X7_reckon_120 ?_
              refine ⟨o_v1, ?_⟩
              intro x93 ex93
              have r_x93 : (0 : Int32) ≤ x93 ∧ x93 ≤ (8 : Int32) := by rw [ex93]; exact nu 12 rfl hI o_v1
              have d_x93 := ex93
              refine ⟨o_v0, ?_⟩
              refine m_X7_reckonMinute hI o_v0 (q768 c2 c4 c58 i1u68 c83 c84 r_x89 ex90 c92) hM (fun S95 hJ g96 fc97 p_S95 => ?_)
              have hM := p_S95
              have hI := hJ
              have d_v3 := d_v3.trans (fri_at fc97 (by decide) (by decide) o_v0).symm
              have d_v4 := d_v4.trans (fri_at fc97 (by decide) (by decide) o_v0).symm
              have d_v5 := d_v5.trans (fri_at fc97 (by decide) (by decide) o_v0).symm
              have d_x89 := d_x89.trans (fri_at fc97 (by decide) (by decide) o_v1).symm
              have d_x91 := d_x91.trans (fri_at fc97 (by decide) (by decide) o_v0).symm
              have d_x93 := d_x93.trans (fri_at fc97 (by decide) (by decide) o_v1).symm
              have ea1 := (frr_at fc97 (by decide) (by decide) o_v0).trans ea1
              have f0 := fri_tr (S := S69) g0 f0 fc97 (by decide) (by decide)
              have fL71 := fri_tr (S := S69) gL70 fL71 fc97 (by decide) (by decide)
              have hl_a1 := hl_g g96 o_a1 hl_a1
              have o_a1 := gr_ob g96 o_a1
              have o_v0 := gr_ob g96 o_v0
              have o_v1 := gr_ob g96 o_v1
              have o_v2 := gr_ob g96 o_v2
              have g0 := gr_tr (T := S69) g0 g96
              have gL70 := gr_tr (T := S69) gL70 g96
              intro _
              intro S98 eS98
              have hI : IV S98 := by rw [eS98]; exact iv_sI hI o_v0 (by decide) (nu_one (lo := (0 : Int32)) (hi := (401 : Int32)) (by decide) (q769 c2 c4 c58 i1u68 c83 c84 r_x89 ex90 c92))
              have f0 := fr_I eS98 g0 f0 o_v0 (by decide)
              have fL71 := fr_I eS98 gL70 fL71 o_v0 (by decide)
              have d_v3 := rd_Ij eS98 (by decide) d_v3
              have d_v4 := rd_Ij eS98 (by decide) d_v4
              have d_v5 := rd_Ij eS98 (by decide) d_v5
              have d_x89 := rd_Ik eS98 o_v0 o_v1 (by decide) d_x89
              have d_x91 := rd_Ij eS98 (by decide) d_x91
              have d_x93 := rd_Ik eS98 o_v0 o_v1 (by decide) d_x93
              have d_w80 := rd_Is eS98 (rfl : w80 = w80)
              have ea1 := rf_I eS98 ea1
              have hM := wm_I eS98 hM
              have hl_a1 := hl_I eS98 hl_a1
              have g0 := gr_I eS98 g0
              have gL70 := gr_I eS98 gL70
              have o_a1 := ob_I eS98 o_a1
              have o_v0 := ob_I eS98 o_v0
              have o_v1 := ob_I eS98 o_v1
              have o_v2 := ob_I eS98 o_v2
              intro x99 ex99
              exact ih82 _ _ _ _ _ _ ⟨hI, gL70, fL71, rfl, rfl, rfl, rfl, hM, (q770 c2 c4 c58 i1u68 c83 c84 r_x89 ex90 c92 ex99)⟩ (mu_down (q771 c2 c4 c58 i1u68 c83 c84 r_x89 ex90 c92 ex99) (q772 c2 c4 c58 i1u68 c83 c84 r_x89 ex90 c92 ex99))
            · refine m_X7_price hI o_v0 o_v1 o_v2 hM (fun S101 hJ g102 fc103 p_S101 => ?_)
              have hM := p_S101
              have hI := hJ
              have d_v3 := d_v3.trans (fri_at fc103 (by decide) (by decide) o_v0).symm
              have d_v4 := d_v4.trans (fri_at fc103 (by decide) (by decide) o_v0).symm
              have d_v5 := d_v5.trans (fri_at fc103 (by decide) (by decide) o_v0).symm
              have d_x89 := d_x89.trans (fri_at fc103 (by decide) (by decide) o_v1).symm
              have ea1 := (frr_at fc103 (by decide) (by decide) o_v0).trans ea1
              have f0 := fri_tr (S := S69) g0 f0 fc103 (by decide) (by decide)
              have fL71 := fri_tr (S := S69) gL70 fL71 fc103 (by decide) (by decide)
              have hl_a1 := hl_g g102 o_a1 hl_a1
              have o_a1 := gr_ob g102 o_a1
              have o_v0 := gr_ob g102 o_v0
              have o_v1 := gr_ob g102 o_v1
              have o_v2 := gr_ob g102 o_v2
              have g0 := gr_tr (T := S69) g0 g102
              have gL70 := gr_tr (T := S69) gL70 g102
              intro _
              refine u_X7_reckon_120 ?_
              refine ⟨o_v1, ?_⟩
              intro x104 ex104
              have r_x104 : (0 : Int32) ≤ x104 ∧ x104 ≤ (8 : Int32) := by rw [ex104]; exact nu 12 rfl hI o_v1
              have d_x104 := ex104
              refine ⟨o_v0, ?_⟩
              refine m_X7_reckonMinute hI o_v0 (q773 c2 c4 c58 i1u68 c83 c84 r_x89 ex90 c92) hM (fun S106 hJ g107 fc108 p_S106 => ?_)
              have hM := p_S106
              have hI := hJ
              have d_v3 := d_v3.trans (fri_at fc108 (by decide) (by decide) o_v0).symm
              have d_v4 := d_v4.trans (fri_at fc108 (by decide) (by decide) o_v0).symm
              have d_v5 := d_v5.trans (fri_at fc108 (by decide) (by decide) o_v0).symm
              have d_x89 := d_x89.trans (fri_at fc108 (by decide) (by decide) o_v1).symm
              have d_x104 := d_x104.trans (fri_at fc108 (by decide) (by decide) o_v1).symm
              have ea1 := (frr_at fc108 (by decide) (by decide) o_v0).trans ea1
              have f0 := fri_tr (S := S101) g0 f0 fc108 (by decide) (by decide)
              have fL71 := fri_tr (S := S101) gL70 fL71 fc108 (by decide) (by decide)
              have hl_a1 := hl_g g107 o_a1 hl_a1
              have o_a1 := gr_ob g107 o_a1
              have o_v0 := gr_ob g107 o_v0
              have o_v1 := gr_ob g107 o_v1
              have o_v2 := gr_ob g107 o_v2
              have g0 := gr_tr (T := S101) g0 g107
              have gL70 := gr_tr (T := S101) gL70 g107
              intro _
              intro S109 eS109
              have hI : IV S109 := by rw [eS109]; exact iv_sI hI o_v0 (by decide) (nu_one (lo := (0 : Int32)) (hi := (401 : Int32)) (by decide) (q774 c2 c4 c58 i1u68 c83 c84 r_x89 ex90 c92))
              have f0 := fr_I eS109 g0 f0 o_v0 (by decide)
              have fL71 := fr_I eS109 gL70 fL71 o_v0 (by decide)
              have d_v3 := rd_Ij eS109 (by decide) d_v3
              have d_v4 := rd_Ij eS109 (by decide) d_v4
              have d_v5 := rd_Ij eS109 (by decide) d_v5
              have d_x89 := rd_Ik eS109 o_v0 o_v1 (by decide) d_x89
              have d_x104 := rd_Ik eS109 o_v0 o_v1 (by decide) d_x104
              have d_w80 := rd_Is eS109 (rfl : w80 = w80)
              have ea1 := rf_I eS109 ea1
              have hM := wm_I eS109 hM
              have hl_a1 := hl_I eS109 hl_a1
              have g0 := gr_I eS109 g0
              have gL70 := gr_I eS109 gL70
              have o_a1 := ob_I eS109 o_a1
              have o_v0 := ob_I eS109 o_v0
              have o_v1 := ob_I eS109 o_v1
              have o_v2 := ob_I eS109 o_v2
              intro x110 ex110
              exact ih82 _ _ _ _ _ _ ⟨hI, gL70, fL71, rfl, rfl, rfl, rfl, hM, (q775 c2 c4 c58 i1u68 c83 c84 r_x89 ex90 c92 ex110)⟩ (mu_down (q776 c2 c4 c58 i1u68 c83 c84 r_x89 ex90 c92 ex110) (q777 c2 c4 c58 i1u68 c83 c84 r_x89 ex90 c92 ex110))
      · intro x111 ex111
        have d_x111 := ex111
        refine ⟨fun c112 => ?_, fun c112 => ?_⟩
        · refine u_X7_reckon_68 ?_
          refine ⟨o_v0, ?_⟩
          intro x113 ex113
          have r_x113 : (0 : Int32) ≤ x113 ∧ x113 ≤ (401 : Int32) := by rw [ex113]; exact nu 9 rfl hI o_v0
          have d_x113 := ex113
          intro x114 ex114
          refine i_X7_reckon_76 (fun (y0 : Nat) (y1 : Nat) (y2 : Nat) (y6 : Int32) (y7 : Int32) (Z : HS) => (y7.toInt - (-1 : Int32).toInt).toNat) (fun (y0 : Nat) (y1 : Nat) (y2 : Nat) (y6 : Int32) (y7 : Int32) (Z : HS) => (IV Z) ∧ (Gr S Z) ∧ (FRI [(7, 3), (7, 9), (7, 13)] [] S Z) ∧ (v0 = y0) ∧ (v1 = y1) ∧ (v2 = y2) ∧ (v6 = y6) ∧ (WM Z v0) ∧ (y7 ≤ 400)) ?_ _ _ _ _ _ _ ⟨hI, (gr_rf _), (fri_rf _ _ _), rfl, rfl, rfl, rfl, hM, (q778 h5 c2 c4 c58 c112 r_x113 ex114)⟩
          intro w119 w121 w123 w125 w127 S116 X128 ⟨hI, gL117, fL118, q120, q122, q124, q126, hM, i1u115⟩ ih129
          subst q120
          subst q122
          subst q124
          subst q126
          have d_x3 := d_x3.trans (fri_at fL118 (by decide) (by decide) o_v0).symm
          have d_x57 := d_x57.trans (fri_at fL118 (by decide) (by decide) o_v0).symm
          have d_x111 := d_x111.trans (fri_at fL118 (by decide) (by decide) o_v0).symm
          have ea1 := (frr_at fL118 (by decide) (by decide) o_v0).trans ea1
          have f0 := fri_tr (S := S) g0 f0 fL118 (by decide) (by decide)
          have hl_a1 := hl_g gL117 o_a1 hl_a1
          have o_a1 := gr_ob gL117 o_a1
          have o_v0 := gr_ob gL117 o_v0
          have o_v1 := gr_ob gL117 o_v1
          have o_v2 := gr_ob gL117 o_v2
          have g0 := gr_tr (T := S) g0 gL117
          refine u_X7_reckon_76 ?_
          refine ⟨fun c130 => ?_, fun c130 => ?_⟩
          · exact hq _ hI g0 f0
          · refine ⟨fun c131 => ?_, fun c131 => ?_⟩
            · exact hq _ hI g0 f0
            · refine ⟨o_v1, ?_⟩
              refine m_X8_hourOf hI o_v1 (fun x132 S133 hI2 g134 p_x132 => ?_)
              subst p_x132
              intro _
              intro x136 ex136
              have r_x136 : (0 : Int32) ≤ x136 ∧ x136 ≤ (6 : Int32) := by rw [ex136]; exact nu 11 rfl hI o_v1
              have d_x136 := ex136
              intro x137 ex137
              refine ⟨o_v0, ?_⟩
              intro x138 ex138
              have d_x138 := ex138
              refine ⟨fun c139 => ?_, fun c139 => ?_⟩
              · refine u_X7_reckon_120 ?_
                refine ⟨o_v1, ?_⟩
                intro x140 ex140
                have r_x140 : (0 : Int32) ≤ x140 ∧ x140 ≤ (8 : Int32) := by rw [ex140]; exact nu 12 rfl hI o_v1
                have d_x140 := ex140
                refine ⟨o_v0, ?_⟩
                refine m_X7_reckonMinute hI o_v0 (q779 h5 c2 c4 c58 c112 i1u115 c130 c131 r_x136 ex137 c139) hM (fun S142 hJ g143 fc144 p_S142 => ?_)
                have hM := p_S142
                have hI := hJ
                have d_x3 := d_x3.trans (fri_at fc144 (by decide) (by decide) o_v0).symm
                have d_x57 := d_x57.trans (fri_at fc144 (by decide) (by decide) o_v0).symm
                have d_x111 := d_x111.trans (fri_at fc144 (by decide) (by decide) o_v0).symm
                have d_x136 := d_x136.trans (fri_at fc144 (by decide) (by decide) o_v1).symm
                have d_x138 := d_x138.trans (fri_at fc144 (by decide) (by decide) o_v0).symm
                have d_x140 := d_x140.trans (fri_at fc144 (by decide) (by decide) o_v1).symm
                have ea1 := (frr_at fc144 (by decide) (by decide) o_v0).trans ea1
                have f0 := fri_tr (S := S116) g0 f0 fc144 (by decide) (by decide)
                have fL118 := fri_tr (S := S116) gL117 fL118 fc144 (by decide) (by decide)
                have hl_a1 := hl_g g143 o_a1 hl_a1
                have o_a1 := gr_ob g143 o_a1
                have o_v0 := gr_ob g143 o_v0
                have o_v1 := gr_ob g143 o_v1
                have o_v2 := gr_ob g143 o_v2
                have g0 := gr_tr (T := S116) g0 g143
                have gL117 := gr_tr (T := S116) gL117 g143
                intro _
                intro S145 eS145
                have hI : IV S145 := by rw [eS145]; exact iv_sI hI o_v0 (by decide) (nu_one (lo := (0 : Int32)) (hi := (401 : Int32)) (by decide) (q780 h5 c2 c4 c58 c112 i1u115 c130 c131 r_x136 ex137 c139))
                have f0 := fr_I eS145 g0 f0 o_v0 (by decide)
                have fL118 := fr_I eS145 gL117 fL118 o_v0 (by decide)
                have d_x3 := rd_Ij eS145 (by decide) d_x3
                have d_x57 := rd_Ij eS145 (by decide) d_x57
                have d_x111 := rd_Ij eS145 (by decide) d_x111
                have d_x136 := rd_Ik eS145 o_v0 o_v1 (by decide) d_x136
                have d_x138 := rd_Ij eS145 (by decide) d_x138
                have d_x140 := rd_Ik eS145 o_v0 o_v1 (by decide) d_x140
                have d_w127 := rd_Is eS145 (rfl : w127 = w127)
                have ea1 := rf_I eS145 ea1
                have hM := wm_I eS145 hM
                have hl_a1 := hl_I eS145 hl_a1
                have g0 := gr_I eS145 g0
                have gL117 := gr_I eS145 gL117
                have o_a1 := ob_I eS145 o_a1
                have o_v0 := ob_I eS145 o_v0
                have o_v1 := ob_I eS145 o_v1
                have o_v2 := ob_I eS145 o_v2
                intro x146 ex146
                exact ih129 _ _ _ _ _ _ ⟨hI, gL117, fL118, rfl, rfl, rfl, rfl, hM, (q781 h5 c2 c4 c58 c112 i1u115 c130 c131 r_x136 ex137 c139 ex146)⟩ (mu_down (q782 h5 c2 c4 c58 c112 i1u115 c130 c131 r_x136 ex137 c139 ex146) (q783 h5 c2 c4 c58 c112 i1u115 c130 c131 r_x136 ex137 c139 ex146))
              · refine m_X7_price hI o_v0 o_v1 o_v2 hM (fun S148 hJ g149 fc150 p_S148 => ?_)
                have hM := p_S148
                have hI := hJ
                have d_x3 := d_x3.trans (fri_at fc150 (by decide) (by decide) o_v0).symm
                have d_x57 := d_x57.trans (fri_at fc150 (by decide) (by decide) o_v0).symm
                have d_x111 := d_x111.trans (fri_at fc150 (by decide) (by decide) o_v0).symm
                have d_x136 := d_x136.trans (fri_at fc150 (by decide) (by decide) o_v1).symm
                have ea1 := (frr_at fc150 (by decide) (by decide) o_v0).trans ea1
                have f0 := fri_tr (S := S116) g0 f0 fc150 (by decide) (by decide)
                have fL118 := fri_tr (S := S116) gL117 fL118 fc150 (by decide) (by decide)
                have hl_a1 := hl_g g149 o_a1 hl_a1
                have o_a1 := gr_ob g149 o_a1
                have o_v0 := gr_ob g149 o_v0
                have o_v1 := gr_ob g149 o_v1
                have o_v2 := gr_ob g149 o_v2
                have g0 := gr_tr (T := S116) g0 g149
                have gL117 := gr_tr (T := S116) gL117 g149
                intro _
                refine u_X7_reckon_120 ?_
                refine ⟨o_v1, ?_⟩
                intro x151 ex151
                have r_x151 : (0 : Int32) ≤ x151 ∧ x151 ≤ (8 : Int32) := by rw [ex151]; exact nu 12 rfl hI o_v1
                have d_x151 := ex151
                refine ⟨o_v0, ?_⟩
                refine m_X7_reckonMinute hI o_v0 (q784 h5 c2 c4 c58 c112 i1u115 c130 c131 r_x136 ex137 c139) hM (fun S153 hJ g154 fc155 p_S153 => ?_)
                have hM := p_S153
                have hI := hJ
                have d_x3 := d_x3.trans (fri_at fc155 (by decide) (by decide) o_v0).symm
                have d_x57 := d_x57.trans (fri_at fc155 (by decide) (by decide) o_v0).symm
                have d_x111 := d_x111.trans (fri_at fc155 (by decide) (by decide) o_v0).symm
                have d_x136 := d_x136.trans (fri_at fc155 (by decide) (by decide) o_v1).symm
                have d_x151 := d_x151.trans (fri_at fc155 (by decide) (by decide) o_v1).symm
                have ea1 := (frr_at fc155 (by decide) (by decide) o_v0).trans ea1
                have f0 := fri_tr (S := S148) g0 f0 fc155 (by decide) (by decide)
                have fL118 := fri_tr (S := S148) gL117 fL118 fc155 (by decide) (by decide)
                have hl_a1 := hl_g g154 o_a1 hl_a1
                have o_a1 := gr_ob g154 o_a1
                have o_v0 := gr_ob g154 o_v0
                have o_v1 := gr_ob g154 o_v1
                have o_v2 := gr_ob g154 o_v2
                have g0 := gr_tr (T := S148) g0 g154
                have gL117 := gr_tr (T := S148) gL117 g154
                intro _
                intro S156 eS156
                have hI : IV S156 := by rw [eS156]; exact iv_sI hI o_v0 (by decide) (nu_one (lo := (0 : Int32)) (hi := (401 : Int32)) (by decide) (q785 h5 c2 c4 c58 c112 i1u115 c130 c131 r_x136 ex137 c139))
                have f0 := fr_I eS156 g0 f0 o_v0 (by decide)
                have fL118 := fr_I eS156 gL117 fL118 o_v0 (by decide)
                have d_x3 := rd_Ij eS156 (by decide) d_x3
                have d_x57 := rd_Ij eS156 (by decide) d_x57
                have d_x111 := rd_Ij eS156 (by decide) d_x111
                have d_x136 := rd_Ik eS156 o_v0 o_v1 (by decide) d_x136
                have d_x151 := rd_Ik eS156 o_v0 o_v1 (by decide) d_x151
                have d_w127 := rd_Is eS156 (rfl : w127 = w127)
                have ea1 := rf_I eS156 ea1
                have hM := wm_I eS156 hM
                have hl_a1 := hl_I eS156 hl_a1
                have g0 := gr_I eS156 g0
                have gL117 := gr_I eS156 gL117
                have o_a1 := ob_I eS156 o_a1
                have o_v0 := ob_I eS156 o_v0
                have o_v1 := ob_I eS156 o_v1
                have o_v2 := ob_I eS156 o_v2
                intro x157 ex157
                exact ih129 _ _ _ _ _ _ ⟨hI, gL117, fL118, rfl, rfl, rfl, rfl, hM, (q786 h5 c2 c4 c58 c112 i1u115 c130 c131 r_x136 ex137 c139 ex157)⟩ (mu_down (q787 h5 c2 c4 c58 c112 i1u115 c130 c131 r_x136 ex137 c139 ex157) (q788 h5 c2 c4 c58 c112 i1u115 c130 c131 r_x136 ex137 c139 ex157))
        · refine u_X7_reckon_38 ?_
          refine ⟨o_v0, ?_⟩
          intro S158 eS158
          have hI : IV S158 := by rw [eS158]; exact iv_sI hI o_v0 (by decide) (nu_free (by decide))
          have f0 := fr_I eS158 g0 f0 o_v0 (by decide)
          have d_x57 := rd_Ij eS158 (by decide) d_x57
          have d_x111 := rd_Ij eS158 (by decide) d_x111
          have d_v3 := rd_Is eS158 (rfl : v3 = v3)
          have ea1 := rf_I eS158 ea1
          have hM := wm_I eS158 hM
          have hl_a1 := hl_I eS158 hl_a1
          have g0 := gr_I eS158 g0
          have o_a1 := ob_I eS158 o_a1
          have o_v0 := ob_I eS158 o_v0
          have o_v1 := ob_I eS158 o_v1
          have o_v2 := ob_I eS158 o_v2
          intro S159 eS159
          have hI : IV S159 := by rw [eS159]; exact iv_sI hI o_v0 (by decide) (nu_free (by decide))
          have f0 := fr_I eS159 g0 f0 o_v0 (by decide)
          have d_x111 := rd_Ij eS159 (by decide) d_x111
          have d_v3 := rd_Ij eS159 (by decide) d_v3
          have d_v4 := rd_Is eS159 (rfl : v4 = v4)
          have ea1 := rf_I eS159 ea1
          have hM := wm_I eS159 hM
          have hl_a1 := hl_I eS159 hl_a1
          have g0 := gr_I eS159 g0
          have o_a1 := ob_I eS159 o_a1
          have o_v0 := ob_I eS159 o_v0
          have o_v1 := ob_I eS159 o_v1
          have o_v2 := ob_I eS159 o_v2
          intro S160 eS160
          have hI : IV S160 := by rw [eS160]; exact iv_sI hI o_v0 (by decide) (nu_free (by decide))
          have f0 := fr_I eS160 g0 f0 o_v0 (by decide)
          have d_v3 := rd_Ij eS160 (by decide) d_v3
          have d_v4 := rd_Ij eS160 (by decide) d_v4
          have d_v5 := rd_Is eS160 (rfl : v5 = v5)
          have ea1 := rf_I eS160 ea1
          have hM := wm_I eS160 hM
          have hl_a1 := hl_I eS160 hl_a1
          have g0 := gr_I eS160 g0
          have o_a1 := ob_I eS160 o_a1
          have o_v0 := ob_I eS160 o_v0
          have o_v1 := ob_I eS160 o_v1
          have o_v2 := ob_I eS160 o_v2
          intro x161 ex161
          intro S162 eS162
          have hI : IV S162 := by rw [eS162]; exact iv_sI hI o_v0 (by decide) (nu_one (lo := (0 : Int32)) (hi := (401 : Int32)) (by decide) (q789 h5 c2 c4 c58 c112 ex161))
          have f0 := fr_I eS162 g0 f0 o_v0 (by decide)
          have d_v3 := rd_Ij eS162 (by decide) d_v3
          have d_v4 := rd_Ij eS162 (by decide) d_v4
          have d_v5 := rd_Ij eS162 (by decide) d_v5
          have d_x161 := rd_Is eS162 (rfl : x161 = x161)
          have ea1 := rf_I eS162 ea1
          have hM := wm_I eS162 hM
          have hl_a1 := hl_I eS162 hl_a1
          have g0 := gr_I eS162 g0
          have o_a1 := ob_I eS162 o_a1
          have o_v0 := ob_I eS162 o_v0
          have o_v1 := ob_I eS162 o_v1
          have o_v2 := ob_I eS162 o_v2
          intro S163 eS163
          have hI : IV S163 := by rw [eS163]; exact iv_sI hI o_v0 (by decide) (nu_free (by decide))
          have f0 := fr_I eS163 g0 f0 o_v0 (by decide)
          have d_v3 := rd_Ij eS163 (by decide) d_v3
          have d_v4 := rd_Ij eS163 (by decide) d_v4
          have d_v5 := rd_Ij eS163 (by decide) d_v5
          have d_x161 := rd_Ij eS163 (by decide) d_x161
          obtain ⟨y164, hy164⟩ : ∃ z : Int32, z = (-1 : Int32) := ⟨_, rfl⟩
          have d_y164 := rd_Is eS163 hy164
          have ea1 := rf_I eS163 ea1
          have hM := wm_I eS163 hM
          have hl_a1 := hl_I eS163 hl_a1
          have g0 := gr_I eS163 g0
          have o_a1 := ob_I eS163 o_a1
          have o_v0 := ob_I eS163 o_v0
          have o_v1 := ob_I eS163 o_v1
          have o_v2 := ob_I eS163 o_v2
          refine u_X7_reckon_68 ?_
          refine ⟨o_v0, ?_⟩
          intro x165 ex165
          have r_x165 : (0 : Int32) ≤ x165 ∧ x165 ≤ (401 : Int32) := by rw [ex165]; exact nu 9 rfl hI o_v0
          have q_x165 : x165 = x161 := ex165.trans d_x161.symm
          have d_x165 := ex165
          intro x166 ex166
          refine i_X7_reckon_76 (fun (y0 : Nat) (y1 : Nat) (y2 : Nat) (y6 : Int32) (y7 : Int32) (Z : HS) => (y7.toInt - (-1 : Int32).toInt).toNat) (fun (y0 : Nat) (y1 : Nat) (y2 : Nat) (y6 : Int32) (y7 : Int32) (Z : HS) => (IV Z) ∧ (Gr S163 Z) ∧ (FRI [(7, 3), (7, 9), (7, 13)] [] S163 Z) ∧ (v0 = y0) ∧ (v1 = y1) ∧ (v2 = y2) ∧ (v6 = y6) ∧ (WM Z v0) ∧ (y7 ≤ 400)) ?_ _ _ _ _ _ _ ⟨hI, (gr_rf _), (fri_rf _ _ _), rfl, rfl, rfl, rfl, hM, (q790 h5 c2 c4 c58 c112 ex161 r_x165 q_x165 ex166)⟩
          intro w171 w173 w175 w177 w179 S168 X180 ⟨hI, gL169, fL170, q172, q174, q176, q178, hM, i1u167⟩ ih181
          subst q172
          subst q174
          subst q176
          subst q178
          have d_v3 := d_v3.trans (fri_at fL170 (by decide) (by decide) o_v0).symm
          have d_v4 := d_v4.trans (fri_at fL170 (by decide) (by decide) o_v0).symm
          have d_v5 := d_v5.trans (fri_at fL170 (by decide) (by decide) o_v0).symm
          have ea1 := (frr_at fL170 (by decide) (by decide) o_v0).trans ea1
          have f0 := fri_tr (S := S163) g0 f0 fL170 (by decide) (by decide)
          have hl_a1 := hl_g gL169 o_a1 hl_a1
          have o_a1 := gr_ob gL169 o_a1
          have o_v0 := gr_ob gL169 o_v0
          have o_v1 := gr_ob gL169 o_v1
          have o_v2 := gr_ob gL169 o_v2
          have g0 := gr_tr (T := S163) g0 gL169
          refine u_X7_reckon_76 ?_
          refine ⟨fun c182 => ?_, fun c182 => ?_⟩
          · exact hq _ hI g0 f0
          · refine ⟨fun c183 => ?_, fun c183 => ?_⟩
            · exact hq _ hI g0 f0
            · refine ⟨o_v1, ?_⟩
              refine m_X8_hourOf hI o_v1 (fun x184 S185 hI2 g186 p_x184 => ?_)
              subst p_x184
              intro _
              intro x188 ex188
              have r_x188 : (0 : Int32) ≤ x188 ∧ x188 ≤ (6 : Int32) := by rw [ex188]; exact nu 11 rfl hI o_v1
              have d_x188 := ex188
              intro x189 ex189
              refine ⟨o_v0, ?_⟩
              intro x190 ex190
              have d_x190 := ex190
              refine ⟨fun c191 => ?_, fun c191 => ?_⟩
              · refine u_X7_reckon_120 ?_
                refine ⟨o_v1, ?_⟩
                intro x192 ex192
                have r_x192 : (0 : Int32) ≤ x192 ∧ x192 ≤ (8 : Int32) := by rw [ex192]; exact nu 12 rfl hI o_v1
                have d_x192 := ex192
                refine ⟨o_v0, ?_⟩
                refine m_X7_reckonMinute hI o_v0 (q791 h5 c2 c4 c58 c112 ex161 r_x165 q_x165 ex166 i1u167 c182 c183 r_x188 ex189 c191) hM (fun S194 hJ g195 fc196 p_S194 => ?_)
                have hM := p_S194
                have hI := hJ
                have d_v3 := d_v3.trans (fri_at fc196 (by decide) (by decide) o_v0).symm
                have d_v4 := d_v4.trans (fri_at fc196 (by decide) (by decide) o_v0).symm
                have d_v5 := d_v5.trans (fri_at fc196 (by decide) (by decide) o_v0).symm
                have d_x188 := d_x188.trans (fri_at fc196 (by decide) (by decide) o_v1).symm
                have d_x190 := d_x190.trans (fri_at fc196 (by decide) (by decide) o_v0).symm
                have d_x192 := d_x192.trans (fri_at fc196 (by decide) (by decide) o_v1).symm
                have ea1 := (frr_at fc196 (by decide) (by decide) o_v0).trans ea1
                have f0 := fri_tr (S := S168) g0 f0 fc196 (by decide) (by decide)
                have fL170 := fri_tr (S := S168) gL169 fL170 fc196 (by decide) (by decide)
                have hl_a1 := hl_g g195 o_a1 hl_a1
                have o_a1 := gr_ob g195 o_a1
                have o_v0 := gr_ob g195 o_v0
                have o_v1 := gr_ob g195 o_v1
                have o_v2 := gr_ob g195 o_v2
                have g0 := gr_tr (T := S168) g0 g195
                have gL169 := gr_tr (T := S168) gL169 g195
                intro _
                intro S197 eS197
                have hI : IV S197 := by rw [eS197]; exact iv_sI hI o_v0 (by decide) (nu_one (lo := (0 : Int32)) (hi := (401 : Int32)) (by decide) (q792 h5 c2 c4 c58 c112 ex161 r_x165 q_x165 ex166 i1u167 c182 c183 r_x188 ex189 c191))
                have f0 := fr_I eS197 g0 f0 o_v0 (by decide)
                have fL170 := fr_I eS197 gL169 fL170 o_v0 (by decide)
                have d_v3 := rd_Ij eS197 (by decide) d_v3
                have d_v4 := rd_Ij eS197 (by decide) d_v4
                have d_v5 := rd_Ij eS197 (by decide) d_v5
                have d_x188 := rd_Ik eS197 o_v0 o_v1 (by decide) d_x188
                have d_x190 := rd_Ij eS197 (by decide) d_x190
                have d_x192 := rd_Ik eS197 o_v0 o_v1 (by decide) d_x192
                have d_w179 := rd_Is eS197 (rfl : w179 = w179)
                have ea1 := rf_I eS197 ea1
                have hM := wm_I eS197 hM
                have hl_a1 := hl_I eS197 hl_a1
                have g0 := gr_I eS197 g0
                have gL169 := gr_I eS197 gL169
                have o_a1 := ob_I eS197 o_a1
                have o_v0 := ob_I eS197 o_v0
                have o_v1 := ob_I eS197 o_v1
                have o_v2 := ob_I eS197 o_v2
                intro x198 ex198
                exact ih181 _ _ _ _ _ _ ⟨hI, gL169, fL170, rfl, rfl, rfl, rfl, hM, (q793 h5 c2 c4 c58 c112 ex161 r_x165 q_x165 ex166 i1u167 c182 c183 r_x188 ex189 c191 ex198)⟩ (mu_down (q794 h5 c2 c4 c58 c112 ex161 r_x165 q_x165 ex166 i1u167 c182 c183 r_x188 ex189 c191 ex198) (q795 h5 c2 c4 c58 c112 ex161 r_x165 q_x165 ex166 i1u167 c182 c183 r_x188 ex189 c191 ex198))
              · refine m_X7_price hI o_v0 o_v1 o_v2 hM (fun S200 hJ g201 fc202 p_S200 => ?_)
                have hM := p_S200
                have hI := hJ
                have d_v3 := d_v3.trans (fri_at fc202 (by decide) (by decide) o_v0).symm
                have d_v4 := d_v4.trans (fri_at fc202 (by decide) (by decide) o_v0).symm
                have d_v5 := d_v5.trans (fri_at fc202 (by decide) (by decide) o_v0).symm
                have d_x188 := d_x188.trans (fri_at fc202 (by decide) (by decide) o_v1).symm
                have ea1 := (frr_at fc202 (by decide) (by decide) o_v0).trans ea1
                have f0 := fri_tr (S := S168) g0 f0 fc202 (by decide) (by decide)
                have fL170 := fri_tr (S := S168) gL169 fL170 fc202 (by decide) (by decide)
                have hl_a1 := hl_g g201 o_a1 hl_a1
                have o_a1 := gr_ob g201 o_a1
                have o_v0 := gr_ob g201 o_v0
                have o_v1 := gr_ob g201 o_v1
                have o_v2 := gr_ob g201 o_v2
                have g0 := gr_tr (T := S168) g0 g201
                have gL169 := gr_tr (T := S168) gL169 g201
                intro _
                refine u_X7_reckon_120 ?_
                refine ⟨o_v1, ?_⟩
                intro x203 ex203
                have r_x203 : (0 : Int32) ≤ x203 ∧ x203 ≤ (8 : Int32) := by rw [ex203]; exact nu 12 rfl hI o_v1
                have d_x203 := ex203
                refine ⟨o_v0, ?_⟩
                refine m_X7_reckonMinute hI o_v0 (q796 h5 c2 c4 c58 c112 ex161 r_x165 q_x165 ex166 i1u167 c182 c183 r_x188 ex189 c191) hM (fun S205 hJ g206 fc207 p_S205 => ?_)
                have hM := p_S205
                have hI := hJ
                have d_v3 := d_v3.trans (fri_at fc207 (by decide) (by decide) o_v0).symm
                have d_v4 := d_v4.trans (fri_at fc207 (by decide) (by decide) o_v0).symm
                have d_v5 := d_v5.trans (fri_at fc207 (by decide) (by decide) o_v0).symm
                have d_x188 := d_x188.trans (fri_at fc207 (by decide) (by decide) o_v1).symm
                have d_x203 := d_x203.trans (fri_at fc207 (by decide) (by decide) o_v1).symm
                have ea1 := (frr_at fc207 (by decide) (by decide) o_v0).trans ea1
                have f0 := fri_tr (S := S200) g0 f0 fc207 (by decide) (by decide)
                have fL170 := fri_tr (S := S200) gL169 fL170 fc207 (by decide) (by decide)
                have hl_a1 := hl_g g206 o_a1 hl_a1
                have o_a1 := gr_ob g206 o_a1
                have o_v0 := gr_ob g206 o_v0
                have o_v1 := gr_ob g206 o_v1
                have o_v2 := gr_ob g206 o_v2
                have g0 := gr_tr (T := S200) g0 g206
                have gL169 := gr_tr (T := S200) gL169 g206
                intro _
                intro S208 eS208
                have hI : IV S208 := by rw [eS208]; exact iv_sI hI o_v0 (by decide) (nu_one (lo := (0 : Int32)) (hi := (401 : Int32)) (by decide) (q797 h5 c2 c4 c58 c112 ex161 r_x165 q_x165 ex166 i1u167 c182 c183 r_x188 ex189 c191))
                have f0 := fr_I eS208 g0 f0 o_v0 (by decide)
                have fL170 := fr_I eS208 gL169 fL170 o_v0 (by decide)
                have d_v3 := rd_Ij eS208 (by decide) d_v3
                have d_v4 := rd_Ij eS208 (by decide) d_v4
                have d_v5 := rd_Ij eS208 (by decide) d_v5
                have d_x188 := rd_Ik eS208 o_v0 o_v1 (by decide) d_x188
                have d_x203 := rd_Ik eS208 o_v0 o_v1 (by decide) d_x203
                have d_w179 := rd_Is eS208 (rfl : w179 = w179)
                have ea1 := rf_I eS208 ea1
                have hM := wm_I eS208 hM
                have hl_a1 := hl_I eS208 hl_a1
                have g0 := gr_I eS208 g0
                have gL169 := gr_I eS208 gL169
                have o_a1 := ob_I eS208 o_a1
                have o_v0 := ob_I eS208 o_v0
                have o_v1 := ob_I eS208 o_v1
                have o_v2 := ob_I eS208 o_v2
                intro x209 ex209
                exact ih181 _ _ _ _ _ _ ⟨hI, gL169, fL170, rfl, rfl, rfl, rfl, hM, (q798 h5 c2 c4 c58 c112 ex161 r_x165 q_x165 ex166 i1u167 c182 c183 r_x188 ex189 c191 ex209)⟩ (mu_down (q799 h5 c2 c4 c58 c112 ex161 r_x165 q_x165 ex166 i1u167 c182 c183 r_x188 ex189 c191 ex209) (q800 h5 c2 c4 c58 c112 ex161 r_x165 q_x165 ex166 i1u167 c182 c183 r_x188 ex189 c191 ex209))
  · refine m_X7_makeRows hI o_v0 (fun S211 hJ g212 fc213 p_S211 => ?_)
    have hI := hJ
    have f0 := fri_tr (S := S) g0 f0 fc213 (by decide) (by decide)
    have hl_a1 := hl_g g212 o_a1 hl_a1
    have o_a1 := gr_ob g212 o_a1
    have o_v0 := gr_ob g212 o_v0
    have o_v1 := gr_ob g212 o_v1
    have o_v2 := gr_ob g212 o_v2
    have g0 := gr_tr (T := S) g0 g212
    intro _
    have hM := p_S211
    refine u_X7_reckon_12 ?_
    refine ⟨o_v0, ?_⟩
    intro x214 ex214
    have d_x214 := ex214
    refine ⟨fun c215 => ?_, fun c215 => ?_⟩
    · refine u_X7_reckon_38 ?_
      refine ⟨o_v0, ?_⟩
      intro S216 eS216
      have hI : IV S216 := by rw [eS216]; exact iv_sI hI o_v0 (by decide) (nu_free (by decide))
      have f0 := fr_I eS216 g0 f0 o_v0 (by decide)
      have d_v3 := rd_Is eS216 (rfl : v3 = v3)
      have hM := wm_I eS216 hM
      have hl_a1 := hl_I eS216 hl_a1
      have g0 := gr_I eS216 g0
      have o_a1 := ob_I eS216 o_a1
      have o_v0 := ob_I eS216 o_v0
      have o_v1 := ob_I eS216 o_v1
      have o_v2 := ob_I eS216 o_v2
      intro S217 eS217
      have hI : IV S217 := by rw [eS217]; exact iv_sI hI o_v0 (by decide) (nu_free (by decide))
      have f0 := fr_I eS217 g0 f0 o_v0 (by decide)
      have d_v3 := rd_Ij eS217 (by decide) d_v3
      have d_v4 := rd_Is eS217 (rfl : v4 = v4)
      have hM := wm_I eS217 hM
      have hl_a1 := hl_I eS217 hl_a1
      have g0 := gr_I eS217 g0
      have o_a1 := ob_I eS217 o_a1
      have o_v0 := ob_I eS217 o_v0
      have o_v1 := ob_I eS217 o_v1
      have o_v2 := ob_I eS217 o_v2
      intro S218 eS218
      have hI : IV S218 := by rw [eS218]; exact iv_sI hI o_v0 (by decide) (nu_free (by decide))
      have f0 := fr_I eS218 g0 f0 o_v0 (by decide)
      have d_v3 := rd_Ij eS218 (by decide) d_v3
      have d_v4 := rd_Ij eS218 (by decide) d_v4
      have d_v5 := rd_Is eS218 (rfl : v5 = v5)
      have hM := wm_I eS218 hM
      have hl_a1 := hl_I eS218 hl_a1
      have g0 := gr_I eS218 g0
      have o_a1 := ob_I eS218 o_a1
      have o_v0 := ob_I eS218 o_v0
      have o_v1 := ob_I eS218 o_v1
      have o_v2 := ob_I eS218 o_v2
      intro x219 ex219
      intro S220 eS220
      have hI : IV S220 := by rw [eS220]; exact iv_sI hI o_v0 (by decide) (nu_one (lo := (0 : Int32)) (hi := (401 : Int32)) (by decide) (q801 h5 c2 c215 ex219))
      have f0 := fr_I eS220 g0 f0 o_v0 (by decide)
      have d_v3 := rd_Ij eS220 (by decide) d_v3
      have d_v4 := rd_Ij eS220 (by decide) d_v4
      have d_v5 := rd_Ij eS220 (by decide) d_v5
      have d_x219 := rd_Is eS220 (rfl : x219 = x219)
      have hM := wm_I eS220 hM
      have hl_a1 := hl_I eS220 hl_a1
      have g0 := gr_I eS220 g0
      have o_a1 := ob_I eS220 o_a1
      have o_v0 := ob_I eS220 o_v0
      have o_v1 := ob_I eS220 o_v1
      have o_v2 := ob_I eS220 o_v2
      intro S221 eS221
      have hI : IV S221 := by rw [eS221]; exact iv_sI hI o_v0 (by decide) (nu_free (by decide))
      have f0 := fr_I eS221 g0 f0 o_v0 (by decide)
      have d_v3 := rd_Ij eS221 (by decide) d_v3
      have d_v4 := rd_Ij eS221 (by decide) d_v4
      have d_v5 := rd_Ij eS221 (by decide) d_v5
      have d_x219 := rd_Ij eS221 (by decide) d_x219
      obtain ⟨y222, hy222⟩ : ∃ z : Int32, z = (-1 : Int32) := ⟨_, rfl⟩
      have d_y222 := rd_Is eS221 hy222
      have hM := wm_I eS221 hM
      have hl_a1 := hl_I eS221 hl_a1
      have g0 := gr_I eS221 g0
      have o_a1 := ob_I eS221 o_a1
      have o_v0 := ob_I eS221 o_v0
      have o_v1 := ob_I eS221 o_v1
      have o_v2 := ob_I eS221 o_v2
      refine u_X7_reckon_68 ?_
      refine ⟨o_v0, ?_⟩
      intro x223 ex223
      have r_x223 : (0 : Int32) ≤ x223 ∧ x223 ≤ (401 : Int32) := by rw [ex223]; exact nu 9 rfl hI o_v0
      have q_x223 : x223 = x219 := ex223.trans d_x219.symm
      have d_x223 := ex223
      intro x224 ex224
      refine i_X7_reckon_76 (fun (y0 : Nat) (y1 : Nat) (y2 : Nat) (y6 : Int32) (y7 : Int32) (Z : HS) => (y7.toInt - (-1 : Int32).toInt).toNat) (fun (y0 : Nat) (y1 : Nat) (y2 : Nat) (y6 : Int32) (y7 : Int32) (Z : HS) => (IV Z) ∧ (Gr S221 Z) ∧ (FRI [(7, 3), (7, 9), (7, 13)] [] S221 Z) ∧ (v0 = y0) ∧ (v1 = y1) ∧ (v2 = y2) ∧ (v6 = y6) ∧ (WM Z v0) ∧ (y7 ≤ 400)) ?_ _ _ _ _ _ _ ⟨hI, (gr_rf _), (fri_rf _ _ _), rfl, rfl, rfl, rfl, hM, (q802 h5 c2 c215 ex219 r_x223 q_x223 ex224)⟩
      intro w229 w231 w233 w235 w237 S226 X238 ⟨hI, gL227, fL228, q230, q232, q234, q236, hM, i1u225⟩ ih239
      subst q230
      subst q232
      subst q234
      subst q236
      have d_v3 := d_v3.trans (fri_at fL228 (by decide) (by decide) o_v0).symm
      have d_v4 := d_v4.trans (fri_at fL228 (by decide) (by decide) o_v0).symm
      have d_v5 := d_v5.trans (fri_at fL228 (by decide) (by decide) o_v0).symm
      have f0 := fri_tr (S := S221) g0 f0 fL228 (by decide) (by decide)
      have hl_a1 := hl_g gL227 o_a1 hl_a1
      have o_a1 := gr_ob gL227 o_a1
      have o_v0 := gr_ob gL227 o_v0
      have o_v1 := gr_ob gL227 o_v1
      have o_v2 := gr_ob gL227 o_v2
      have g0 := gr_tr (T := S221) g0 gL227
      refine u_X7_reckon_76 ?_
      refine ⟨fun c240 => ?_, fun c240 => ?_⟩
      · exact hq _ hI g0 f0
      · refine ⟨fun c241 => ?_, fun c241 => ?_⟩
        · exact hq _ hI g0 f0
        · refine ⟨o_v1, ?_⟩
          refine m_X8_hourOf hI o_v1 (fun x242 S243 hI2 g244 p_x242 => ?_)
          subst p_x242
          intro _
          intro x246 ex246
          have r_x246 : (0 : Int32) ≤ x246 ∧ x246 ≤ (6 : Int32) := by rw [ex246]; exact nu 11 rfl hI o_v1
          have d_x246 := ex246
          intro x247 ex247
          refine ⟨o_v0, ?_⟩
          intro x248 ex248
          have d_x248 := ex248
          refine ⟨fun c249 => ?_, fun c249 => ?_⟩
          · refine u_X7_reckon_120 ?_
            refine ⟨o_v1, ?_⟩
            intro x250 ex250
            have r_x250 : (0 : Int32) ≤ x250 ∧ x250 ≤ (8 : Int32) := by rw [ex250]; exact nu 12 rfl hI o_v1
            have d_x250 := ex250
            refine ⟨o_v0, ?_⟩
            refine m_X7_reckonMinute hI o_v0 (q803 c2 c215 i1u225 c240 c241 r_x246 ex247 c249) hM (fun S252 hJ g253 fc254 p_S252 => ?_)
            have hM := p_S252
            have hI := hJ
            have d_v3 := d_v3.trans (fri_at fc254 (by decide) (by decide) o_v0).symm
            have d_v4 := d_v4.trans (fri_at fc254 (by decide) (by decide) o_v0).symm
            have d_v5 := d_v5.trans (fri_at fc254 (by decide) (by decide) o_v0).symm
            have d_x246 := d_x246.trans (fri_at fc254 (by decide) (by decide) o_v1).symm
            have d_x248 := d_x248.trans (fri_at fc254 (by decide) (by decide) o_v0).symm
            have d_x250 := d_x250.trans (fri_at fc254 (by decide) (by decide) o_v1).symm
            have f0 := fri_tr (S := S226) g0 f0 fc254 (by decide) (by decide)
            have fL228 := fri_tr (S := S226) gL227 fL228 fc254 (by decide) (by decide)
            have hl_a1 := hl_g g253 o_a1 hl_a1
            have o_a1 := gr_ob g253 o_a1
            have o_v0 := gr_ob g253 o_v0
            have o_v1 := gr_ob g253 o_v1
            have o_v2 := gr_ob g253 o_v2
            have g0 := gr_tr (T := S226) g0 g253
            have gL227 := gr_tr (T := S226) gL227 g253
            intro _
            intro S255 eS255
            have hI : IV S255 := by rw [eS255]; exact iv_sI hI o_v0 (by decide) (nu_one (lo := (0 : Int32)) (hi := (401 : Int32)) (by decide) (q804 c2 c215 i1u225 c240 c241 r_x246 ex247 c249))
            have f0 := fr_I eS255 g0 f0 o_v0 (by decide)
            have fL228 := fr_I eS255 gL227 fL228 o_v0 (by decide)
            have d_v3 := rd_Ij eS255 (by decide) d_v3
            have d_v4 := rd_Ij eS255 (by decide) d_v4
            have d_v5 := rd_Ij eS255 (by decide) d_v5
            have d_x246 := rd_Ik eS255 o_v0 o_v1 (by decide) d_x246
            have d_x248 := rd_Ij eS255 (by decide) d_x248
            have d_x250 := rd_Ik eS255 o_v0 o_v1 (by decide) d_x250
            have d_w237 := rd_Is eS255 (rfl : w237 = w237)
            have hM := wm_I eS255 hM
            have hl_a1 := hl_I eS255 hl_a1
            have g0 := gr_I eS255 g0
            have gL227 := gr_I eS255 gL227
            have o_a1 := ob_I eS255 o_a1
            have o_v0 := ob_I eS255 o_v0
            have o_v1 := ob_I eS255 o_v1
            have o_v2 := ob_I eS255 o_v2
            intro x256 ex256
            exact ih239 _ _ _ _ _ _ ⟨hI, gL227, fL228, rfl, rfl, rfl, rfl, hM, (q805 c2 c215 i1u225 c240 c241 r_x246 ex247 c249 ex256)⟩ (mu_down (q806 c2 c215 i1u225 c240 c241 r_x246 ex247 c249 ex256) (q807 c2 c215 i1u225 c240 c241 r_x246 ex247 c249 ex256))
          · refine m_X7_price hI o_v0 o_v1 o_v2 hM (fun S258 hJ g259 fc260 p_S258 => ?_)
            have hM := p_S258
            have hI := hJ
            have d_v3 := d_v3.trans (fri_at fc260 (by decide) (by decide) o_v0).symm
            have d_v4 := d_v4.trans (fri_at fc260 (by decide) (by decide) o_v0).symm
            have d_v5 := d_v5.trans (fri_at fc260 (by decide) (by decide) o_v0).symm
            have d_x246 := d_x246.trans (fri_at fc260 (by decide) (by decide) o_v1).symm
            have f0 := fri_tr (S := S226) g0 f0 fc260 (by decide) (by decide)
            have fL228 := fri_tr (S := S226) gL227 fL228 fc260 (by decide) (by decide)
            have hl_a1 := hl_g g259 o_a1 hl_a1
            have o_a1 := gr_ob g259 o_a1
            have o_v0 := gr_ob g259 o_v0
            have o_v1 := gr_ob g259 o_v1
            have o_v2 := gr_ob g259 o_v2
            have g0 := gr_tr (T := S226) g0 g259
            have gL227 := gr_tr (T := S226) gL227 g259
            intro _
            refine u_X7_reckon_120 ?_
            refine ⟨o_v1, ?_⟩
            intro x261 ex261
            have r_x261 : (0 : Int32) ≤ x261 ∧ x261 ≤ (8 : Int32) := by rw [ex261]; exact nu 12 rfl hI o_v1
            have d_x261 := ex261
            refine ⟨o_v0, ?_⟩
            refine m_X7_reckonMinute hI o_v0 (q808 c2 c215 i1u225 c240 c241 r_x246 ex247 c249) hM (fun S263 hJ g264 fc265 p_S263 => ?_)
            have hM := p_S263
            have hI := hJ
            have d_v3 := d_v3.trans (fri_at fc265 (by decide) (by decide) o_v0).symm
            have d_v4 := d_v4.trans (fri_at fc265 (by decide) (by decide) o_v0).symm
            have d_v5 := d_v5.trans (fri_at fc265 (by decide) (by decide) o_v0).symm
            have d_x246 := d_x246.trans (fri_at fc265 (by decide) (by decide) o_v1).symm
            have d_x261 := d_x261.trans (fri_at fc265 (by decide) (by decide) o_v1).symm
            have f0 := fri_tr (S := S258) g0 f0 fc265 (by decide) (by decide)
            have fL228 := fri_tr (S := S258) gL227 fL228 fc265 (by decide) (by decide)
            have hl_a1 := hl_g g264 o_a1 hl_a1
            have o_a1 := gr_ob g264 o_a1
            have o_v0 := gr_ob g264 o_v0
            have o_v1 := gr_ob g264 o_v1
            have o_v2 := gr_ob g264 o_v2
            have g0 := gr_tr (T := S258) g0 g264
            have gL227 := gr_tr (T := S258) gL227 g264
            intro _
            intro S266 eS266
            have hI : IV S266 := by rw [eS266]; exact iv_sI hI o_v0 (by decide) (nu_one (lo := (0 : Int32)) (hi := (401 : Int32)) (by decide) (q809 c2 c215 i1u225 c240 c241 r_x246 ex247 c249))
            have f0 := fr_I eS266 g0 f0 o_v0 (by decide)
            have fL228 := fr_I eS266 gL227 fL228 o_v0 (by decide)
            have d_v3 := rd_Ij eS266 (by decide) d_v3
            have d_v4 := rd_Ij eS266 (by decide) d_v4
            have d_v5 := rd_Ij eS266 (by decide) d_v5
            have d_x246 := rd_Ik eS266 o_v0 o_v1 (by decide) d_x246
            have d_x261 := rd_Ik eS266 o_v0 o_v1 (by decide) d_x261
            have d_w237 := rd_Is eS266 (rfl : w237 = w237)
            have hM := wm_I eS266 hM
            have hl_a1 := hl_I eS266 hl_a1
            have g0 := gr_I eS266 g0
            have gL227 := gr_I eS266 gL227
            have o_a1 := ob_I eS266 o_a1
            have o_v0 := ob_I eS266 o_v0
            have o_v1 := ob_I eS266 o_v1
            have o_v2 := ob_I eS266 o_v2
            intro x267 ex267
            exact ih239 _ _ _ _ _ _ ⟨hI, gL227, fL228, rfl, rfl, rfl, rfl, hM, (q810 c2 c215 i1u225 c240 c241 r_x246 ex247 c249 ex267)⟩ (mu_down (q811 c2 c215 i1u225 c240 c241 r_x246 ex247 c249 ex267) (q812 c2 c215 i1u225 c240 c241 r_x246 ex247 c249 ex267))
    · intro x268 ex268
      have d_x268 := ex268
      refine ⟨fun c269 => ?_, fun c269 => ?_⟩
      · refine u_X7_reckon_38 ?_
        refine ⟨o_v0, ?_⟩
        intro S270 eS270
        have hI : IV S270 := by rw [eS270]; exact iv_sI hI o_v0 (by decide) (nu_free (by decide))
        have f0 := fr_I eS270 g0 f0 o_v0 (by decide)
        have d_x268 := rd_Ij eS270 (by decide) d_x268
        have d_v3 := rd_Is eS270 (rfl : v3 = v3)
        have hM := wm_I eS270 hM
        have hl_a1 := hl_I eS270 hl_a1
        have g0 := gr_I eS270 g0
        have o_a1 := ob_I eS270 o_a1
        have o_v0 := ob_I eS270 o_v0
        have o_v1 := ob_I eS270 o_v1
        have o_v2 := ob_I eS270 o_v2
        intro S271 eS271
        have hI : IV S271 := by rw [eS271]; exact iv_sI hI o_v0 (by decide) (nu_free (by decide))
        have f0 := fr_I eS271 g0 f0 o_v0 (by decide)
        have d_v3 := rd_Ij eS271 (by decide) d_v3
        have d_v4 := rd_Is eS271 (rfl : v4 = v4)
        have hM := wm_I eS271 hM
        have hl_a1 := hl_I eS271 hl_a1
        have g0 := gr_I eS271 g0
        have o_a1 := ob_I eS271 o_a1
        have o_v0 := ob_I eS271 o_v0
        have o_v1 := ob_I eS271 o_v1
        have o_v2 := ob_I eS271 o_v2
        intro S272 eS272
        have hI : IV S272 := by rw [eS272]; exact iv_sI hI o_v0 (by decide) (nu_free (by decide))
        have f0 := fr_I eS272 g0 f0 o_v0 (by decide)
        have d_v3 := rd_Ij eS272 (by decide) d_v3
        have d_v4 := rd_Ij eS272 (by decide) d_v4
        have d_v5 := rd_Is eS272 (rfl : v5 = v5)
        have hM := wm_I eS272 hM
        have hl_a1 := hl_I eS272 hl_a1
        have g0 := gr_I eS272 g0
        have o_a1 := ob_I eS272 o_a1
        have o_v0 := ob_I eS272 o_v0
        have o_v1 := ob_I eS272 o_v1
        have o_v2 := ob_I eS272 o_v2
        intro x273 ex273
        intro S274 eS274
        have hI : IV S274 := by rw [eS274]; exact iv_sI hI o_v0 (by decide) (nu_one (lo := (0 : Int32)) (hi := (401 : Int32)) (by decide) (q813 h5 c2 c215 c269 ex273))
        have f0 := fr_I eS274 g0 f0 o_v0 (by decide)
        have d_v3 := rd_Ij eS274 (by decide) d_v3
        have d_v4 := rd_Ij eS274 (by decide) d_v4
        have d_v5 := rd_Ij eS274 (by decide) d_v5
        have d_x273 := rd_Is eS274 (rfl : x273 = x273)
        have hM := wm_I eS274 hM
        have hl_a1 := hl_I eS274 hl_a1
        have g0 := gr_I eS274 g0
        have o_a1 := ob_I eS274 o_a1
        have o_v0 := ob_I eS274 o_v0
        have o_v1 := ob_I eS274 o_v1
        have o_v2 := ob_I eS274 o_v2
        intro S275 eS275
        have hI : IV S275 := by rw [eS275]; exact iv_sI hI o_v0 (by decide) (nu_free (by decide))
        have f0 := fr_I eS275 g0 f0 o_v0 (by decide)
        have d_v3 := rd_Ij eS275 (by decide) d_v3
        have d_v4 := rd_Ij eS275 (by decide) d_v4
        have d_v5 := rd_Ij eS275 (by decide) d_v5
        have d_x273 := rd_Ij eS275 (by decide) d_x273
        obtain ⟨y276, hy276⟩ : ∃ z : Int32, z = (-1 : Int32) := ⟨_, rfl⟩
        have d_y276 := rd_Is eS275 hy276
        have hM := wm_I eS275 hM
        have hl_a1 := hl_I eS275 hl_a1
        have g0 := gr_I eS275 g0
        have o_a1 := ob_I eS275 o_a1
        have o_v0 := ob_I eS275 o_v0
        have o_v1 := ob_I eS275 o_v1
        have o_v2 := ob_I eS275 o_v2
        refine u_X7_reckon_68 ?_
        refine ⟨o_v0, ?_⟩
        intro x277 ex277
        have r_x277 : (0 : Int32) ≤ x277 ∧ x277 ≤ (401 : Int32) := by rw [ex277]; exact nu 9 rfl hI o_v0
        have q_x277 : x277 = x273 := ex277.trans d_x273.symm
        have d_x277 := ex277
        intro x278 ex278
        refine i_X7_reckon_76 (fun (y0 : Nat) (y1 : Nat) (y2 : Nat) (y6 : Int32) (y7 : Int32) (Z : HS) => (y7.toInt - (-1 : Int32).toInt).toNat) (fun (y0 : Nat) (y1 : Nat) (y2 : Nat) (y6 : Int32) (y7 : Int32) (Z : HS) => (IV Z) ∧ (Gr S275 Z) ∧ (FRI [(7, 3), (7, 9), (7, 13)] [] S275 Z) ∧ (v0 = y0) ∧ (v1 = y1) ∧ (v2 = y2) ∧ (v6 = y6) ∧ (WM Z v0) ∧ (y7 ≤ 400)) ?_ _ _ _ _ _ _ ⟨hI, (gr_rf _), (fri_rf _ _ _), rfl, rfl, rfl, rfl, hM, (q814 h5 c2 c215 c269 ex273 r_x277 q_x277 ex278)⟩
        intro w283 w285 w287 w289 w291 S280 X292 ⟨hI, gL281, fL282, q284, q286, q288, q290, hM, i1u279⟩ ih293
        subst q284
        subst q286
        subst q288
        subst q290
        have d_v3 := d_v3.trans (fri_at fL282 (by decide) (by decide) o_v0).symm
        have d_v4 := d_v4.trans (fri_at fL282 (by decide) (by decide) o_v0).symm
        have d_v5 := d_v5.trans (fri_at fL282 (by decide) (by decide) o_v0).symm
        have f0 := fri_tr (S := S275) g0 f0 fL282 (by decide) (by decide)
        have hl_a1 := hl_g gL281 o_a1 hl_a1
        have o_a1 := gr_ob gL281 o_a1
        have o_v0 := gr_ob gL281 o_v0
        have o_v1 := gr_ob gL281 o_v1
        have o_v2 := gr_ob gL281 o_v2
        have g0 := gr_tr (T := S275) g0 gL281
        refine u_X7_reckon_76 ?_
        refine ⟨fun c294 => ?_, fun c294 => ?_⟩
        · exact hq _ hI g0 f0
        · refine ⟨fun c295 => ?_, fun c295 => ?_⟩
          · exact hq _ hI g0 f0
          · refine ⟨o_v1, ?_⟩
            refine m_X8_hourOf hI o_v1 (fun x296 S297 hI2 g298 p_x296 => ?_)
            subst p_x296
            intro _
            intro x300 ex300
            have r_x300 : (0 : Int32) ≤ x300 ∧ x300 ≤ (6 : Int32) := by rw [ex300]; exact nu 11 rfl hI o_v1
            have d_x300 := ex300
            intro x301 ex301
            refine ⟨o_v0, ?_⟩
            intro x302 ex302
            have d_x302 := ex302
            refine ⟨fun c303 => ?_, fun c303 => ?_⟩
            · refine u_X7_reckon_120 ?_
              refine ⟨o_v1, ?_⟩
              intro x304 ex304
              have r_x304 : (0 : Int32) ≤ x304 ∧ x304 ≤ (8 : Int32) := by rw [ex304]; exact nu 12 rfl hI o_v1
              have d_x304 := ex304
              refine ⟨o_v0, ?_⟩
              refine m_X7_reckonMinute hI o_v0 (q815 c2 c215 c269 i1u279 c294 c295 r_x300 ex301 c303) hM (fun S306 hJ g307 fc308 p_S306 => ?_)
              have hM := p_S306
              have hI := hJ
              have d_v3 := d_v3.trans (fri_at fc308 (by decide) (by decide) o_v0).symm
              have d_v4 := d_v4.trans (fri_at fc308 (by decide) (by decide) o_v0).symm
              have d_v5 := d_v5.trans (fri_at fc308 (by decide) (by decide) o_v0).symm
              have d_x300 := d_x300.trans (fri_at fc308 (by decide) (by decide) o_v1).symm
              have d_x302 := d_x302.trans (fri_at fc308 (by decide) (by decide) o_v0).symm
              have d_x304 := d_x304.trans (fri_at fc308 (by decide) (by decide) o_v1).symm
              have f0 := fri_tr (S := S280) g0 f0 fc308 (by decide) (by decide)
              have fL282 := fri_tr (S := S280) gL281 fL282 fc308 (by decide) (by decide)
              have hl_a1 := hl_g g307 o_a1 hl_a1
              have o_a1 := gr_ob g307 o_a1
              have o_v0 := gr_ob g307 o_v0
              have o_v1 := gr_ob g307 o_v1
              have o_v2 := gr_ob g307 o_v2
              have g0 := gr_tr (T := S280) g0 g307
              have gL281 := gr_tr (T := S280) gL281 g307
              intro _
              intro S309 eS309
              have hI : IV S309 := by rw [eS309]; exact iv_sI hI o_v0 (by decide) (nu_one (lo := (0 : Int32)) (hi := (401 : Int32)) (by decide) (q816 c2 c215 c269 i1u279 c294 c295 r_x300 ex301 c303))
              have f0 := fr_I eS309 g0 f0 o_v0 (by decide)
              have fL282 := fr_I eS309 gL281 fL282 o_v0 (by decide)
              have d_v3 := rd_Ij eS309 (by decide) d_v3
              have d_v4 := rd_Ij eS309 (by decide) d_v4
              have d_v5 := rd_Ij eS309 (by decide) d_v5
              have d_x300 := rd_Ik eS309 o_v0 o_v1 (by decide) d_x300
              have d_x302 := rd_Ij eS309 (by decide) d_x302
              have d_x304 := rd_Ik eS309 o_v0 o_v1 (by decide) d_x304
              have d_w291 := rd_Is eS309 (rfl : w291 = w291)
              have hM := wm_I eS309 hM
              have hl_a1 := hl_I eS309 hl_a1
              have g0 := gr_I eS309 g0
              have gL281 := gr_I eS309 gL281
              have o_a1 := ob_I eS309 o_a1
              have o_v0 := ob_I eS309 o_v0
              have o_v1 := ob_I eS309 o_v1
              have o_v2 := ob_I eS309 o_v2
              intro x310 ex310
              exact ih293 _ _ _ _ _ _ ⟨hI, gL281, fL282, rfl, rfl, rfl, rfl, hM, (q817 c2 c215 c269 i1u279 c294 c295 r_x300 ex301 c303 ex310)⟩ (mu_down (q818 c2 c215 c269 i1u279 c294 c295 r_x300 ex301 c303 ex310) (q819 c2 c215 c269 i1u279 c294 c295 r_x300 ex301 c303 ex310))
            · refine m_X7_price hI o_v0 o_v1 o_v2 hM (fun S312 hJ g313 fc314 p_S312 => ?_)
              have hM := p_S312
              have hI := hJ
              have d_v3 := d_v3.trans (fri_at fc314 (by decide) (by decide) o_v0).symm
              have d_v4 := d_v4.trans (fri_at fc314 (by decide) (by decide) o_v0).symm
              have d_v5 := d_v5.trans (fri_at fc314 (by decide) (by decide) o_v0).symm
              have d_x300 := d_x300.trans (fri_at fc314 (by decide) (by decide) o_v1).symm
              have f0 := fri_tr (S := S280) g0 f0 fc314 (by decide) (by decide)
              have fL282 := fri_tr (S := S280) gL281 fL282 fc314 (by decide) (by decide)
              have hl_a1 := hl_g g313 o_a1 hl_a1
              have o_a1 := gr_ob g313 o_a1
              have o_v0 := gr_ob g313 o_v0
              have o_v1 := gr_ob g313 o_v1
              have o_v2 := gr_ob g313 o_v2
              have g0 := gr_tr (T := S280) g0 g313
              have gL281 := gr_tr (T := S280) gL281 g313
              intro _
              refine u_X7_reckon_120 ?_
              refine ⟨o_v1, ?_⟩
              intro x315 ex315
              have r_x315 : (0 : Int32) ≤ x315 ∧ x315 ≤ (8 : Int32) := by rw [ex315]; exact nu 12 rfl hI o_v1
              have d_x315 := ex315
              refine ⟨o_v0, ?_⟩
              refine m_X7_reckonMinute hI o_v0 (q820 c2 c215 c269 i1u279 c294 c295 r_x300 ex301 c303) hM (fun S317 hJ g318 fc319 p_S317 => ?_)
              have hM := p_S317
              have hI := hJ
              have d_v3 := d_v3.trans (fri_at fc319 (by decide) (by decide) o_v0).symm
              have d_v4 := d_v4.trans (fri_at fc319 (by decide) (by decide) o_v0).symm
              have d_v5 := d_v5.trans (fri_at fc319 (by decide) (by decide) o_v0).symm
              have d_x300 := d_x300.trans (fri_at fc319 (by decide) (by decide) o_v1).symm
              have d_x315 := d_x315.trans (fri_at fc319 (by decide) (by decide) o_v1).symm
              have f0 := fri_tr (S := S312) g0 f0 fc319 (by decide) (by decide)
              have fL282 := fri_tr (S := S312) gL281 fL282 fc319 (by decide) (by decide)
              have hl_a1 := hl_g g318 o_a1 hl_a1
              have o_a1 := gr_ob g318 o_a1
              have o_v0 := gr_ob g318 o_v0
              have o_v1 := gr_ob g318 o_v1
              have o_v2 := gr_ob g318 o_v2
              have g0 := gr_tr (T := S312) g0 g318
              have gL281 := gr_tr (T := S312) gL281 g318
              intro _
              intro S320 eS320
              have hI : IV S320 := by rw [eS320]; exact iv_sI hI o_v0 (by decide) (nu_one (lo := (0 : Int32)) (hi := (401 : Int32)) (by decide) (q821 c2 c215 c269 i1u279 c294 c295 r_x300 ex301 c303))
              have f0 := fr_I eS320 g0 f0 o_v0 (by decide)
              have fL282 := fr_I eS320 gL281 fL282 o_v0 (by decide)
              have d_v3 := rd_Ij eS320 (by decide) d_v3
              have d_v4 := rd_Ij eS320 (by decide) d_v4
              have d_v5 := rd_Ij eS320 (by decide) d_v5
              have d_x300 := rd_Ik eS320 o_v0 o_v1 (by decide) d_x300
              have d_x315 := rd_Ik eS320 o_v0 o_v1 (by decide) d_x315
              have d_w291 := rd_Is eS320 (rfl : w291 = w291)
              have hM := wm_I eS320 hM
              have hl_a1 := hl_I eS320 hl_a1
              have g0 := gr_I eS320 g0
              have gL281 := gr_I eS320 gL281
              have o_a1 := ob_I eS320 o_a1
              have o_v0 := ob_I eS320 o_v0
              have o_v1 := ob_I eS320 o_v1
              have o_v2 := ob_I eS320 o_v2
              intro x321 ex321
              exact ih293 _ _ _ _ _ _ ⟨hI, gL281, fL282, rfl, rfl, rfl, rfl, hM, (q822 c2 c215 c269 i1u279 c294 c295 r_x300 ex301 c303 ex321)⟩ (mu_down (q823 c2 c215 c269 i1u279 c294 c295 r_x300 ex301 c303 ex321) (q824 c2 c215 c269 i1u279 c294 c295 r_x300 ex301 c303 ex321))
      · intro x322 ex322
        have d_x322 := ex322
        refine ⟨fun c323 => ?_, fun c323 => ?_⟩
        · refine u_X7_reckon_68 ?_
          refine ⟨o_v0, ?_⟩
          intro x324 ex324
          have r_x324 : (0 : Int32) ≤ x324 ∧ x324 ≤ (401 : Int32) := by rw [ex324]; exact nu 9 rfl hI o_v0
          have d_x324 := ex324
          intro x325 ex325
          refine i_X7_reckon_76 (fun (y0 : Nat) (y1 : Nat) (y2 : Nat) (y6 : Int32) (y7 : Int32) (Z : HS) => (y7.toInt - (-1 : Int32).toInt).toNat) (fun (y0 : Nat) (y1 : Nat) (y2 : Nat) (y6 : Int32) (y7 : Int32) (Z : HS) => (IV Z) ∧ (Gr S211 Z) ∧ (FRI [(7, 3), (7, 9), (7, 13)] [] S211 Z) ∧ (v0 = y0) ∧ (v1 = y1) ∧ (v2 = y2) ∧ (v6 = y6) ∧ (WM Z v0) ∧ (y7 ≤ 400)) ?_ _ _ _ _ _ _ ⟨hI, (gr_rf _), (fri_rf _ _ _), rfl, rfl, rfl, rfl, hM, (q825 h5 c2 c215 c269 c323 r_x324 ex325)⟩
          intro w330 w332 w334 w336 w338 S327 X339 ⟨hI, gL328, fL329, q331, q333, q335, q337, hM, i1u326⟩ ih340
          subst q331
          subst q333
          subst q335
          subst q337
          have d_x214 := d_x214.trans (fri_at fL329 (by decide) (by decide) o_v0).symm
          have d_x268 := d_x268.trans (fri_at fL329 (by decide) (by decide) o_v0).symm
          have d_x322 := d_x322.trans (fri_at fL329 (by decide) (by decide) o_v0).symm
          have f0 := fri_tr (S := S211) g0 f0 fL329 (by decide) (by decide)
          have hl_a1 := hl_g gL328 o_a1 hl_a1
          have o_a1 := gr_ob gL328 o_a1
          have o_v0 := gr_ob gL328 o_v0
          have o_v1 := gr_ob gL328 o_v1
          have o_v2 := gr_ob gL328 o_v2
          have g0 := gr_tr (T := S211) g0 gL328
          refine u_X7_reckon_76 ?_
          refine ⟨fun c341 => ?_, fun c341 => ?_⟩
          · exact hq _ hI g0 f0
          · refine ⟨fun c342 => ?_, fun c342 => ?_⟩
            · exact hq _ hI g0 f0
            · refine ⟨o_v1, ?_⟩
              refine m_X8_hourOf hI o_v1 (fun x343 S344 hI2 g345 p_x343 => ?_)
              subst p_x343
              intro _
              intro x347 ex347
              have r_x347 : (0 : Int32) ≤ x347 ∧ x347 ≤ (6 : Int32) := by rw [ex347]; exact nu 11 rfl hI o_v1
              have d_x347 := ex347
              intro x348 ex348
              refine ⟨o_v0, ?_⟩
              intro x349 ex349
              have d_x349 := ex349
              refine ⟨fun c350 => ?_, fun c350 => ?_⟩
              · refine u_X7_reckon_120 ?_
                refine ⟨o_v1, ?_⟩
                intro x351 ex351
                have r_x351 : (0 : Int32) ≤ x351 ∧ x351 ≤ (8 : Int32) := by rw [ex351]; exact nu 12 rfl hI o_v1
                have d_x351 := ex351
                refine ⟨o_v0, ?_⟩
                refine m_X7_reckonMinute hI o_v0 (q826 h5 c2 c215 c269 c323 i1u326 c341 c342 r_x347 ex348 c350) hM (fun S353 hJ g354 fc355 p_S353 => ?_)
                have hM := p_S353
                have hI := hJ
                have d_x214 := d_x214.trans (fri_at fc355 (by decide) (by decide) o_v0).symm
                have d_x268 := d_x268.trans (fri_at fc355 (by decide) (by decide) o_v0).symm
                have d_x322 := d_x322.trans (fri_at fc355 (by decide) (by decide) o_v0).symm
                have d_x347 := d_x347.trans (fri_at fc355 (by decide) (by decide) o_v1).symm
                have d_x349 := d_x349.trans (fri_at fc355 (by decide) (by decide) o_v0).symm
                have d_x351 := d_x351.trans (fri_at fc355 (by decide) (by decide) o_v1).symm
                have f0 := fri_tr (S := S327) g0 f0 fc355 (by decide) (by decide)
                have fL329 := fri_tr (S := S327) gL328 fL329 fc355 (by decide) (by decide)
                have hl_a1 := hl_g g354 o_a1 hl_a1
                have o_a1 := gr_ob g354 o_a1
                have o_v0 := gr_ob g354 o_v0
                have o_v1 := gr_ob g354 o_v1
                have o_v2 := gr_ob g354 o_v2
                have g0 := gr_tr (T := S327) g0 g354
                have gL328 := gr_tr (T := S327) gL328 g354
                intro _
                intro S356 eS356
                have hI : IV S356 := by rw [eS356]; exact iv_sI hI o_v0 (by decide) (nu_one (lo := (0 : Int32)) (hi := (401 : Int32)) (by decide) (q827 h5 c2 c215 c269 c323 i1u326 c341 c342 r_x347 ex348 c350))
                have f0 := fr_I eS356 g0 f0 o_v0 (by decide)
                have fL329 := fr_I eS356 gL328 fL329 o_v0 (by decide)
                have d_x214 := rd_Ij eS356 (by decide) d_x214
                have d_x268 := rd_Ij eS356 (by decide) d_x268
                have d_x322 := rd_Ij eS356 (by decide) d_x322
                have d_x347 := rd_Ik eS356 o_v0 o_v1 (by decide) d_x347
                have d_x349 := rd_Ij eS356 (by decide) d_x349
                have d_x351 := rd_Ik eS356 o_v0 o_v1 (by decide) d_x351
                have d_w338 := rd_Is eS356 (rfl : w338 = w338)
                have hM := wm_I eS356 hM
                have hl_a1 := hl_I eS356 hl_a1
                have g0 := gr_I eS356 g0
                have gL328 := gr_I eS356 gL328
                have o_a1 := ob_I eS356 o_a1
                have o_v0 := ob_I eS356 o_v0
                have o_v1 := ob_I eS356 o_v1
                have o_v2 := ob_I eS356 o_v2
                intro x357 ex357
                exact ih340 _ _ _ _ _ _ ⟨hI, gL328, fL329, rfl, rfl, rfl, rfl, hM, (q828 h5 c2 c215 c269 c323 i1u326 c341 c342 r_x347 ex348 c350 ex357)⟩ (mu_down (q829 h5 c2 c215 c269 c323 i1u326 c341 c342 r_x347 ex348 c350 ex357) (q830 h5 c2 c215 c269 c323 i1u326 c341 c342 r_x347 ex348 c350 ex357))
              · refine m_X7_price hI o_v0 o_v1 o_v2 hM (fun S359 hJ g360 fc361 p_S359 => ?_)
                have hM := p_S359
                have hI := hJ
                have d_x214 := d_x214.trans (fri_at fc361 (by decide) (by decide) o_v0).symm
                have d_x268 := d_x268.trans (fri_at fc361 (by decide) (by decide) o_v0).symm
                have d_x322 := d_x322.trans (fri_at fc361 (by decide) (by decide) o_v0).symm
                have d_x347 := d_x347.trans (fri_at fc361 (by decide) (by decide) o_v1).symm
                have f0 := fri_tr (S := S327) g0 f0 fc361 (by decide) (by decide)
                have fL329 := fri_tr (S := S327) gL328 fL329 fc361 (by decide) (by decide)
                have hl_a1 := hl_g g360 o_a1 hl_a1
                have o_a1 := gr_ob g360 o_a1
                have o_v0 := gr_ob g360 o_v0
                have o_v1 := gr_ob g360 o_v1
                have o_v2 := gr_ob g360 o_v2
                have g0 := gr_tr (T := S327) g0 g360
                have gL328 := gr_tr (T := S327) gL328 g360
                intro _
                refine u_X7_reckon_120 ?_
                refine ⟨o_v1, ?_⟩
                intro x362 ex362
                have r_x362 : (0 : Int32) ≤ x362 ∧ x362 ≤ (8 : Int32) := by rw [ex362]; exact nu 12 rfl hI o_v1
                have d_x362 := ex362
                refine ⟨o_v0, ?_⟩
                refine m_X7_reckonMinute hI o_v0 (q831 h5 c2 c215 c269 c323 i1u326 c341 c342 r_x347 ex348 c350) hM (fun S364 hJ g365 fc366 p_S364 => ?_)
                have hM := p_S364
                have hI := hJ
                have d_x214 := d_x214.trans (fri_at fc366 (by decide) (by decide) o_v0).symm
                have d_x268 := d_x268.trans (fri_at fc366 (by decide) (by decide) o_v0).symm
                have d_x322 := d_x322.trans (fri_at fc366 (by decide) (by decide) o_v0).symm
                have d_x347 := d_x347.trans (fri_at fc366 (by decide) (by decide) o_v1).symm
                have d_x362 := d_x362.trans (fri_at fc366 (by decide) (by decide) o_v1).symm
                have f0 := fri_tr (S := S359) g0 f0 fc366 (by decide) (by decide)
                have fL329 := fri_tr (S := S359) gL328 fL329 fc366 (by decide) (by decide)
                have hl_a1 := hl_g g365 o_a1 hl_a1
                have o_a1 := gr_ob g365 o_a1
                have o_v0 := gr_ob g365 o_v0
                have o_v1 := gr_ob g365 o_v1
                have o_v2 := gr_ob g365 o_v2
                have g0 := gr_tr (T := S359) g0 g365
                have gL328 := gr_tr (T := S359) gL328 g365
                intro _
                intro S367 eS367
                have hI : IV S367 := by rw [eS367]; exact iv_sI hI o_v0 (by decide) (nu_one (lo := (0 : Int32)) (hi := (401 : Int32)) (by decide) (q832 h5 c2 c215 c269 c323 i1u326 c341 c342 r_x347 ex348 c350))
                have f0 := fr_I eS367 g0 f0 o_v0 (by decide)
                have fL329 := fr_I eS367 gL328 fL329 o_v0 (by decide)
                have d_x214 := rd_Ij eS367 (by decide) d_x214
                have d_x268 := rd_Ij eS367 (by decide) d_x268
                have d_x322 := rd_Ij eS367 (by decide) d_x322
                have d_x347 := rd_Ik eS367 o_v0 o_v1 (by decide) d_x347
                have d_x362 := rd_Ik eS367 o_v0 o_v1 (by decide) d_x362
                have d_w338 := rd_Is eS367 (rfl : w338 = w338)
                have hM := wm_I eS367 hM
                have hl_a1 := hl_I eS367 hl_a1
                have g0 := gr_I eS367 g0
                have gL328 := gr_I eS367 gL328
                have o_a1 := ob_I eS367 o_a1
                have o_v0 := ob_I eS367 o_v0
                have o_v1 := ob_I eS367 o_v1
                have o_v2 := ob_I eS367 o_v2
                intro x368 ex368
                exact ih340 _ _ _ _ _ _ ⟨hI, gL328, fL329, rfl, rfl, rfl, rfl, hM, (q833 h5 c2 c215 c269 c323 i1u326 c341 c342 r_x347 ex348 c350 ex368)⟩ (mu_down (q834 h5 c2 c215 c269 c323 i1u326 c341 c342 r_x347 ex348 c350 ex368) (q835 h5 c2 c215 c269 c323 i1u326 c341 c342 r_x347 ex348 c350 ex368))
        · refine u_X7_reckon_38 ?_
          refine ⟨o_v0, ?_⟩
          intro S369 eS369
          have hI : IV S369 := by rw [eS369]; exact iv_sI hI o_v0 (by decide) (nu_free (by decide))
          have f0 := fr_I eS369 g0 f0 o_v0 (by decide)
          have d_x268 := rd_Ij eS369 (by decide) d_x268
          have d_x322 := rd_Ij eS369 (by decide) d_x322
          have d_v3 := rd_Is eS369 (rfl : v3 = v3)
          have hM := wm_I eS369 hM
          have hl_a1 := hl_I eS369 hl_a1
          have g0 := gr_I eS369 g0
          have o_a1 := ob_I eS369 o_a1
          have o_v0 := ob_I eS369 o_v0
          have o_v1 := ob_I eS369 o_v1
          have o_v2 := ob_I eS369 o_v2
          intro S370 eS370
          have hI : IV S370 := by rw [eS370]; exact iv_sI hI o_v0 (by decide) (nu_free (by decide))
          have f0 := fr_I eS370 g0 f0 o_v0 (by decide)
          have d_x322 := rd_Ij eS370 (by decide) d_x322
          have d_v3 := rd_Ij eS370 (by decide) d_v3
          have d_v4 := rd_Is eS370 (rfl : v4 = v4)
          have hM := wm_I eS370 hM
          have hl_a1 := hl_I eS370 hl_a1
          have g0 := gr_I eS370 g0
          have o_a1 := ob_I eS370 o_a1
          have o_v0 := ob_I eS370 o_v0
          have o_v1 := ob_I eS370 o_v1
          have o_v2 := ob_I eS370 o_v2
          intro S371 eS371
          have hI : IV S371 := by rw [eS371]; exact iv_sI hI o_v0 (by decide) (nu_free (by decide))
          have f0 := fr_I eS371 g0 f0 o_v0 (by decide)
          have d_v3 := rd_Ij eS371 (by decide) d_v3
          have d_v4 := rd_Ij eS371 (by decide) d_v4
          have d_v5 := rd_Is eS371 (rfl : v5 = v5)
          have hM := wm_I eS371 hM
          have hl_a1 := hl_I eS371 hl_a1
          have g0 := gr_I eS371 g0
          have o_a1 := ob_I eS371 o_a1
          have o_v0 := ob_I eS371 o_v0
          have o_v1 := ob_I eS371 o_v1
          have o_v2 := ob_I eS371 o_v2
          intro x372 ex372
          intro S373 eS373
          have hI : IV S373 := by rw [eS373]; exact iv_sI hI o_v0 (by decide) (nu_one (lo := (0 : Int32)) (hi := (401 : Int32)) (by decide) (q836 h5 c2 c215 c269 c323 ex372))
          have f0 := fr_I eS373 g0 f0 o_v0 (by decide)
          have d_v3 := rd_Ij eS373 (by decide) d_v3
          have d_v4 := rd_Ij eS373 (by decide) d_v4
          have d_v5 := rd_Ij eS373 (by decide) d_v5
          have d_x372 := rd_Is eS373 (rfl : x372 = x372)
          have hM := wm_I eS373 hM
          have hl_a1 := hl_I eS373 hl_a1
          have g0 := gr_I eS373 g0
          have o_a1 := ob_I eS373 o_a1
          have o_v0 := ob_I eS373 o_v0
          have o_v1 := ob_I eS373 o_v1
          have o_v2 := ob_I eS373 o_v2
          intro S374 eS374
          have hI : IV S374 := by rw [eS374]; exact iv_sI hI o_v0 (by decide) (nu_free (by decide))
          have f0 := fr_I eS374 g0 f0 o_v0 (by decide)
          have d_v3 := rd_Ij eS374 (by decide) d_v3
          have d_v4 := rd_Ij eS374 (by decide) d_v4
          have d_v5 := rd_Ij eS374 (by decide) d_v5
          have d_x372 := rd_Ij eS374 (by decide) d_x372
          obtain ⟨y375, hy375⟩ : ∃ z : Int32, z = (-1 : Int32) := ⟨_, rfl⟩
          have d_y375 := rd_Is eS374 hy375
          have hM := wm_I eS374 hM
          have hl_a1 := hl_I eS374 hl_a1
          have g0 := gr_I eS374 g0
          have o_a1 := ob_I eS374 o_a1
          have o_v0 := ob_I eS374 o_v0
          have o_v1 := ob_I eS374 o_v1
          have o_v2 := ob_I eS374 o_v2
          refine u_X7_reckon_68 ?_
          refine ⟨o_v0, ?_⟩
          intro x376 ex376
          have r_x376 : (0 : Int32) ≤ x376 ∧ x376 ≤ (401 : Int32) := by rw [ex376]; exact nu 9 rfl hI o_v0
          have q_x376 : x376 = x372 := ex376.trans d_x372.symm
          have d_x376 := ex376
          intro x377 ex377
          refine i_X7_reckon_76 (fun (y0 : Nat) (y1 : Nat) (y2 : Nat) (y6 : Int32) (y7 : Int32) (Z : HS) => (y7.toInt - (-1 : Int32).toInt).toNat) (fun (y0 : Nat) (y1 : Nat) (y2 : Nat) (y6 : Int32) (y7 : Int32) (Z : HS) => (IV Z) ∧ (Gr S374 Z) ∧ (FRI [(7, 3), (7, 9), (7, 13)] [] S374 Z) ∧ (v0 = y0) ∧ (v1 = y1) ∧ (v2 = y2) ∧ (v6 = y6) ∧ (WM Z v0) ∧ (y7 ≤ 400)) ?_ _ _ _ _ _ _ ⟨hI, (gr_rf _), (fri_rf _ _ _), rfl, rfl, rfl, rfl, hM, (q837 h5 c2 c215 c269 c323 ex372 r_x376 q_x376 ex377)⟩
          intro w382 w384 w386 w388 w390 S379 X391 ⟨hI, gL380, fL381, q383, q385, q387, q389, hM, i1u378⟩ ih392
          subst q383
          subst q385
          subst q387
          subst q389
          have d_v3 := d_v3.trans (fri_at fL381 (by decide) (by decide) o_v0).symm
          have d_v4 := d_v4.trans (fri_at fL381 (by decide) (by decide) o_v0).symm
          have d_v5 := d_v5.trans (fri_at fL381 (by decide) (by decide) o_v0).symm
          have f0 := fri_tr (S := S374) g0 f0 fL381 (by decide) (by decide)
          have hl_a1 := hl_g gL380 o_a1 hl_a1
          have o_a1 := gr_ob gL380 o_a1
          have o_v0 := gr_ob gL380 o_v0
          have o_v1 := gr_ob gL380 o_v1
          have o_v2 := gr_ob gL380 o_v2
          have g0 := gr_tr (T := S374) g0 gL380
          refine u_X7_reckon_76 ?_
          refine ⟨fun c393 => ?_, fun c393 => ?_⟩
          · exact hq _ hI g0 f0
          · refine ⟨fun c394 => ?_, fun c394 => ?_⟩
            · exact hq _ hI g0 f0
            · refine ⟨o_v1, ?_⟩
              refine m_X8_hourOf hI o_v1 (fun x395 S396 hI2 g397 p_x395 => ?_)
              subst p_x395
              intro _
              intro x399 ex399
              have r_x399 : (0 : Int32) ≤ x399 ∧ x399 ≤ (6 : Int32) := by rw [ex399]; exact nu 11 rfl hI o_v1
              have d_x399 := ex399
              intro x400 ex400
              refine ⟨o_v0, ?_⟩
              intro x401 ex401
              have d_x401 := ex401
              refine ⟨fun c402 => ?_, fun c402 => ?_⟩
              · refine u_X7_reckon_120 ?_
                refine ⟨o_v1, ?_⟩
                intro x403 ex403
                have r_x403 : (0 : Int32) ≤ x403 ∧ x403 ≤ (8 : Int32) := by rw [ex403]; exact nu 12 rfl hI o_v1
                have d_x403 := ex403
                refine ⟨o_v0, ?_⟩
                refine m_X7_reckonMinute hI o_v0 (q838 h5 c2 c215 c269 c323 ex372 r_x376 q_x376 ex377 i1u378 c393 c394 r_x399 ex400 c402) hM (fun S405 hJ g406 fc407 p_S405 => ?_)
                have hM := p_S405
                have hI := hJ
                have d_v3 := d_v3.trans (fri_at fc407 (by decide) (by decide) o_v0).symm
                have d_v4 := d_v4.trans (fri_at fc407 (by decide) (by decide) o_v0).symm
                have d_v5 := d_v5.trans (fri_at fc407 (by decide) (by decide) o_v0).symm
                have d_x399 := d_x399.trans (fri_at fc407 (by decide) (by decide) o_v1).symm
                have d_x401 := d_x401.trans (fri_at fc407 (by decide) (by decide) o_v0).symm
                have d_x403 := d_x403.trans (fri_at fc407 (by decide) (by decide) o_v1).symm
                have f0 := fri_tr (S := S379) g0 f0 fc407 (by decide) (by decide)
                have fL381 := fri_tr (S := S379) gL380 fL381 fc407 (by decide) (by decide)
                have hl_a1 := hl_g g406 o_a1 hl_a1
                have o_a1 := gr_ob g406 o_a1
                have o_v0 := gr_ob g406 o_v0
                have o_v1 := gr_ob g406 o_v1
                have o_v2 := gr_ob g406 o_v2
                have g0 := gr_tr (T := S379) g0 g406
                have gL380 := gr_tr (T := S379) gL380 g406
                intro _
                intro S408 eS408
                have hI : IV S408 := by rw [eS408]; exact iv_sI hI o_v0 (by decide) (nu_one (lo := (0 : Int32)) (hi := (401 : Int32)) (by decide) (q839 h5 c2 c215 c269 c323 ex372 r_x376 q_x376 ex377 i1u378 c393 c394 r_x399 ex400 c402))
                have f0 := fr_I eS408 g0 f0 o_v0 (by decide)
                have fL381 := fr_I eS408 gL380 fL381 o_v0 (by decide)
                have d_v3 := rd_Ij eS408 (by decide) d_v3
                have d_v4 := rd_Ij eS408 (by decide) d_v4
                have d_v5 := rd_Ij eS408 (by decide) d_v5
                have d_x399 := rd_Ik eS408 o_v0 o_v1 (by decide) d_x399
                have d_x401 := rd_Ij eS408 (by decide) d_x401
                have d_x403 := rd_Ik eS408 o_v0 o_v1 (by decide) d_x403
                have d_w390 := rd_Is eS408 (rfl : w390 = w390)
                have hM := wm_I eS408 hM
                have hl_a1 := hl_I eS408 hl_a1
                have g0 := gr_I eS408 g0
                have gL380 := gr_I eS408 gL380
                have o_a1 := ob_I eS408 o_a1
                have o_v0 := ob_I eS408 o_v0
                have o_v1 := ob_I eS408 o_v1
                have o_v2 := ob_I eS408 o_v2
                intro x409 ex409
                exact ih392 _ _ _ _ _ _ ⟨hI, gL380, fL381, rfl, rfl, rfl, rfl, hM, (q840 h5 c2 c215 c269 c323 ex372 r_x376 q_x376 ex377 i1u378 c393 c394 r_x399 ex400 c402 ex409)⟩ (mu_down (q841 h5 c2 c215 c269 c323 ex372 r_x376 q_x376 ex377 i1u378 c393 c394 r_x399 ex400 c402 ex409) (q842 h5 c2 c215 c269 c323 ex372 r_x376 q_x376 ex377 i1u378 c393 c394 r_x399 ex400 c402 ex409))
              · refine m_X7_price hI o_v0 o_v1 o_v2 hM (fun S411 hJ g412 fc413 p_S411 => ?_)
                have hM := p_S411
                have hI := hJ
                have d_v3 := d_v3.trans (fri_at fc413 (by decide) (by decide) o_v0).symm
                have d_v4 := d_v4.trans (fri_at fc413 (by decide) (by decide) o_v0).symm
                have d_v5 := d_v5.trans (fri_at fc413 (by decide) (by decide) o_v0).symm
                have d_x399 := d_x399.trans (fri_at fc413 (by decide) (by decide) o_v1).symm
                have f0 := fri_tr (S := S379) g0 f0 fc413 (by decide) (by decide)
                have fL381 := fri_tr (S := S379) gL380 fL381 fc413 (by decide) (by decide)
                have hl_a1 := hl_g g412 o_a1 hl_a1
                have o_a1 := gr_ob g412 o_a1
                have o_v0 := gr_ob g412 o_v0
                have o_v1 := gr_ob g412 o_v1
                have o_v2 := gr_ob g412 o_v2
                have g0 := gr_tr (T := S379) g0 g412
                have gL380 := gr_tr (T := S379) gL380 g412
                intro _
                refine u_X7_reckon_120 ?_
                refine ⟨o_v1, ?_⟩
                intro x414 ex414
                have r_x414 : (0 : Int32) ≤ x414 ∧ x414 ≤ (8 : Int32) := by rw [ex414]; exact nu 12 rfl hI o_v1
                have d_x414 := ex414
                refine ⟨o_v0, ?_⟩
                refine m_X7_reckonMinute hI o_v0 (q843 h5 c2 c215 c269 c323 ex372 r_x376 q_x376 ex377 i1u378 c393 c394 r_x399 ex400 c402) hM (fun S416 hJ g417 fc418 p_S416 => ?_)
                have hM := p_S416
                have hI := hJ
                have d_v3 := d_v3.trans (fri_at fc418 (by decide) (by decide) o_v0).symm
                have d_v4 := d_v4.trans (fri_at fc418 (by decide) (by decide) o_v0).symm
                have d_v5 := d_v5.trans (fri_at fc418 (by decide) (by decide) o_v0).symm
                have d_x399 := d_x399.trans (fri_at fc418 (by decide) (by decide) o_v1).symm
                have d_x414 := d_x414.trans (fri_at fc418 (by decide) (by decide) o_v1).symm
                have f0 := fri_tr (S := S411) g0 f0 fc418 (by decide) (by decide)
                have fL381 := fri_tr (S := S411) gL380 fL381 fc418 (by decide) (by decide)
                have hl_a1 := hl_g g417 o_a1 hl_a1
                have o_a1 := gr_ob g417 o_a1
                have o_v0 := gr_ob g417 o_v0
                have o_v1 := gr_ob g417 o_v1
                have o_v2 := gr_ob g417 o_v2
                have g0 := gr_tr (T := S411) g0 g417
                have gL380 := gr_tr (T := S411) gL380 g417
                intro _
                intro S419 eS419
                have hI : IV S419 := by rw [eS419]; exact iv_sI hI o_v0 (by decide) (nu_one (lo := (0 : Int32)) (hi := (401 : Int32)) (by decide) (q844 h5 c2 c215 c269 c323 ex372 r_x376 q_x376 ex377 i1u378 c393 c394 r_x399 ex400 c402))
                have f0 := fr_I eS419 g0 f0 o_v0 (by decide)
                have fL381 := fr_I eS419 gL380 fL381 o_v0 (by decide)
                have d_v3 := rd_Ij eS419 (by decide) d_v3
                have d_v4 := rd_Ij eS419 (by decide) d_v4
                have d_v5 := rd_Ij eS419 (by decide) d_v5
                have d_x399 := rd_Ik eS419 o_v0 o_v1 (by decide) d_x399
                have d_x414 := rd_Ik eS419 o_v0 o_v1 (by decide) d_x414
                have d_w390 := rd_Is eS419 (rfl : w390 = w390)
                have hM := wm_I eS419 hM
                have hl_a1 := hl_I eS419 hl_a1
                have g0 := gr_I eS419 g0
                have gL380 := gr_I eS419 gL380
                have o_a1 := ob_I eS419 o_a1
                have o_v0 := ob_I eS419 o_v0
                have o_v1 := ob_I eS419 o_v1
                have o_v2 := ob_I eS419 o_v2
                intro x420 ex420
                exact ih392 _ _ _ _ _ _ ⟨hI, gL380, fL381, rfl, rfl, rfl, rfl, hM, (q845 h5 c2 c215 c269 c323 ex372 r_x376 q_x376 ex377 i1u378 c393 c394 r_x399 ex400 c402 ex420)⟩ (mu_down (q846 h5 c2 c215 c269 c323 ex372 r_x376 q_x376 ex377 i1u378 c393 c394 r_x399 ex400 c402 ex420) (q847 h5 c2 c215 c269 c323 ex372 r_x376 q_x376 ex377 i1u378 c393 c394 r_x399 ex400 c402 ex420))
end
section
set_option maxHeartbeats 4000000 in
set_option maxRecDepth 20000 in
theorem m_X7_trace {v0 : Nat} {v1 : Nat} {v2 : Int32} {v3 : Int32} {Q : Int32 → HS → Prop} {S : HS} (hI : IV S) (o_v0 : ob S v0 7) (o_v1 : ob S v1 8)     (hq : ∀ (r : Int32) (T : HS), IV T → Gr S T → FRI [] [] S T → Q r T) : P_X7_trace v0 v1 v2 v3 Q S := by
  have g0 := gr_rf S
  have f0 := fri_rf [] [] S
  refine u_X7_trace ?_
  refine u_X7_trace_0 ?_
  refine i_X7_trace_9 (fun (y0 : Nat) (y1 : Nat) (y4 : Int32) (y5 : Int32) (y6 : Int32) (Z : HS) => ((2147483647 : Int32).toInt - y6.toInt).toNat) (fun (y0 : Nat) (y1 : Nat) (y4 : Int32) (y5 : Int32) (y6 : Int32) (Z : HS) => (IV Z) ∧ (Gr S Z) ∧ (FRI [] [] S Z) ∧ (v0 = y0) ∧ (v1 = y1) ∧ (0 ≤ y6)) ?_ _ _ _ _ _ _ ⟨hI, (gr_rf _), (fri_rf _ _ _), rfl, rfl, (q82)⟩
  intro w5 w7 w9 w10 w11 S2 X12 ⟨hI, gL3, fL4, q6, q8, i1u1⟩ ih13
  subst q6
  subst q8
  have f0 := fri_tr (S := S) g0 f0 fL4 (by decide) (by decide)
  have o_v0 := gr_ob gL3 o_v0
  have o_v1 := gr_ob gL3 o_v1
  have g0 := gr_tr (T := S) g0 gL3
  refine u_X7_trace_9 ?_
  refine ⟨o_v0, ?_⟩
  obtain ⟨a14, ea14, o_a14, -⟩ := sh 21 rfl hI o_v0
  have hl_a14 := wyl hI o_v0 0 rfl (by decide) ea14
  refine ⟨a14, ea14, ?_⟩
  refine ⟨o_a14, ?_⟩
  refine ⟨fun c15 => ?_, fun c15 => ?_⟩
  · refine ⟨a14, ea14, ?_⟩
    refine ⟨o_a14, ?_⟩
    exact hq _ _ hI g0 f0
  · intro x17 ex17
    refine ⟨fun c18 => ?_, fun c18 => ?_⟩
    · refine u_X7_trace_55 ?_
      refine u_X7_trace_56 ?_
      refine ⟨fun c19 => ?_, fun c19 => ?_⟩
      · refine ⟨o_v0, ?_⟩
        refine ⟨a14, ea14, ?_⟩
        refine ⟨o_a14, ?_⟩
        have i21 : vp_in w11 (hN _ a14) := (vinL hl_a14 (q1052 i1u1 c15 ex17 c18 c19))
        refine ⟨i21, ?_⟩
        intro S22 eS22
        have hI : IV S22 := by rw [eS22]; exact iv_aI hI o_v0 (by decide) ea14 o_a14 (by decide)
        have f0 := fr_A eS22 g0 f0 o_a14 (by decide)
        have fL4 := fr_A eS22 gL3 fL4 o_a14 (by decide)
        have ea14 := rf_I eS22 ea14
        have hl_a14 := hl_I eS22 hl_a14
        have g0 := gr_I eS22 g0
        have gL3 := gr_I eS22 gL3
        have o_a14 := ob_I eS22 o_a14
        have o_v0 := ob_I eS22 o_v0
        have o_v1 := ob_I eS22 o_v1
        refine ⟨fun c23 => ?_, fun c23 => ?_⟩
        · intro x24 ex24
          refine ⟨o_v1, ?_⟩
          refine m_X8_hasRoad hI o_v1 (fun x25 S26 hI2 g27 b_x25 p_x25 => ?_)
          obtain ⟨z_S26, p_x25⟩ := p_x25
          subst z_S26
          intro _ _
          have bb_x25 : x25 = 0 ∨ x25 = 1 := b_x25
          refine ⟨fun c29 => ?_, fun c29 => ?_⟩
          · refine u_X7_trace_143 ?_
            intro x30 ex30
            exact ih13 _ _ _ _ _ _ ⟨hI, gL3, fL4, rfl, rfl, (q1053 i1u1 c15 ex17 c18 c19 c23 ex24 p_x25 bb_x25 c29 ex30)⟩ (mu_up (q1054 i1u1 c15 ex17 c18 c19 c23 ex24 p_x25 bb_x25 c29 ex30) (q1055 i1u1 c15 ex17 c18 c19 c23 ex24 p_x25 bb_x25 c29 ex30))
          · obtain ⟨a31, ea31, o_a31, l_a31⟩ := shl 17 rfl hI o_v1
            refine ⟨a31, ea31, ?_⟩
            intro x32 ex32
            refine ⟨o_a31, ?_⟩
            have i34 : vp_in x32 (hN _ a31) := (vin l_a31 (m := 12) (by decide) (q1056 i1u1 c15 ex17 c18 c19 c23 ex24 p_x25 bb_x25 c29 ex32))
            obtain ⟨a33, ea33, o_a33⟩ := ae hI o_a31 (by decide) (by decide) i34
            replace o_a33 : ob _ a33 5 := o_a33
            refine ⟨i34, a33, ea33, ?_⟩
            intro x35 ex35
            intro x36 ex36
            refine ⟨o_a33, ?_⟩
            refine m_X5_endOf hI o_a33 (fun x37 S38 hI2 g39 p_x37 => ?_)
            subst p_x37
            intro _
            intro x41 ex41
            refine m_X5_minutesAt hI o_a33 (fun x42 S43 hI2 g44 p_x42 => ?_)
            subst p_x42
            intro _
            intro x46 ex46
            refine u_X7_trace_143 ?_
            intro x47 ex47
            exact ih13 _ _ _ _ _ _ ⟨hI, gL3, fL4, rfl, rfl, (q1057 i1u1 c15 ex17 c18 c19 c23 ex24 p_x25 bb_x25 c29 ex46 ex47)⟩ (mu_up (q1058 i1u1 c15 ex17 c18 c19 c23 ex24 p_x25 bb_x25 c29 ex46 ex47) (q1059 i1u1 c15 ex17 c18 c19 c23 ex24 p_x25 bb_x25 c29 ex46 ex47))
        · intro x48 ex48
          refine u_X7_trace_143 ?_
          intro x49 ex49
          exact ih13 _ _ _ _ _ _ ⟨hI, gL3, fL4, rfl, rfl, (q1060 i1u1 c15 ex17 c18 c19 c23 ex48 ex49)⟩ (mu_up (q1061 i1u1 c15 ex17 c18 c19 c23 ex48 ex49) (q1062 i1u1 c15 ex17 c18 c19 c23 ex48 ex49))
      · exact hq _ _ hI g0 f0
    · obtain ⟨a50, ea50, o_a50, -⟩ := sh 23 rfl hI o_v0
      have hl_a50 := wyl hI o_v0 2 rfl (by decide) ea50
      refine ⟨a50, ea50, ?_⟩
      refine ⟨o_a50, ?_⟩
      refine ⟨fun c51 => ?_, fun c51 => ?_⟩
      · refine u_X7_trace_55 ?_
        refine u_X7_trace_56 ?_
        refine ⟨fun c52 => ?_, fun c52 => ?_⟩
        · refine ⟨o_v0, ?_⟩
          refine ⟨a14, ea14, ?_⟩
          refine ⟨o_a14, ?_⟩
          have i54 : vp_in w11 (hN _ a14) := (vinL hl_a14 (q1063 i1u1 c15 ex17 c18 c51 c52))
          refine ⟨i54, ?_⟩
          intro S55 eS55
          have hI : IV S55 := by rw [eS55]; exact iv_aI hI o_v0 (by decide) ea14 o_a14 (by decide)
          have f0 := fr_A eS55 g0 f0 o_a14 (by decide)
          have fL4 := fr_A eS55 gL3 fL4 o_a14 (by decide)
          have ea14 := rf_I eS55 ea14
          have ea50 := rf_I eS55 ea50
          have hl_a14 := hl_I eS55 hl_a14
          have hl_a50 := hl_I eS55 hl_a50
          have g0 := gr_I eS55 g0
          have gL3 := gr_I eS55 gL3
          have o_a14 := ob_I eS55 o_a14
          have o_a50 := ob_I eS55 o_a50
          have o_v0 := ob_I eS55 o_v0
          have o_v1 := ob_I eS55 o_v1
          refine ⟨fun c56 => ?_, fun c56 => ?_⟩
          · intro x57 ex57
            refine ⟨o_v1, ?_⟩
            refine m_X8_hasRoad hI o_v1 (fun x58 S59 hI2 g60 b_x58 p_x58 => ?_)
            obtain ⟨z_S59, p_x58⟩ := p_x58
            subst z_S59
            intro _ _
            have bb_x58 : x58 = 0 ∨ x58 = 1 := b_x58
            refine ⟨fun c62 => ?_, fun c62 => ?_⟩
            · refine u_X7_trace_143 ?_
              intro x63 ex63
              exact ih13 _ _ _ _ _ _ ⟨hI, gL3, fL4, rfl, rfl, (q1064 i1u1 c15 ex17 c18 c51 c52 c56 ex57 p_x58 bb_x58 c62 ex63)⟩ (mu_up (q1065 i1u1 c15 ex17 c18 c51 c52 c56 ex57 p_x58 bb_x58 c62 ex63) (q1066 i1u1 c15 ex17 c18 c51 c52 c56 ex57 p_x58 bb_x58 c62 ex63))
            · obtain ⟨a64, ea64, o_a64, l_a64⟩ := shl 17 rfl hI o_v1
              refine ⟨a64, ea64, ?_⟩
              intro x65 ex65
              refine ⟨o_a64, ?_⟩
              have i67 : vp_in x65 (hN _ a64) := (vin l_a64 (m := 12) (by decide) (q1067 i1u1 c15 ex17 c18 c51 c52 c56 ex57 p_x58 bb_x58 c62 ex65))
              obtain ⟨a66, ea66, o_a66⟩ := ae hI o_a64 (by decide) (by decide) i67
              replace o_a66 : ob _ a66 5 := o_a66
              refine ⟨i67, a66, ea66, ?_⟩
              intro x68 ex68
              intro x69 ex69
              refine ⟨o_a66, ?_⟩
              refine m_X5_endOf hI o_a66 (fun x70 S71 hI2 g72 p_x70 => ?_)
              subst p_x70
              intro _
              intro x74 ex74
              refine m_X5_minutesAt hI o_a66 (fun x75 S76 hI2 g77 p_x75 => ?_)
              subst p_x75
              intro _
              intro x79 ex79
              refine u_X7_trace_143 ?_
              intro x80 ex80
              exact ih13 _ _ _ _ _ _ ⟨hI, gL3, fL4, rfl, rfl, (q1068 i1u1 c15 ex17 c18 c51 c52 c56 ex57 p_x58 bb_x58 c62 ex79 ex80)⟩ (mu_up (q1069 i1u1 c15 ex17 c18 c51 c52 c56 ex57 p_x58 bb_x58 c62 ex79 ex80) (q1070 i1u1 c15 ex17 c18 c51 c52 c56 ex57 p_x58 bb_x58 c62 ex79 ex80))
          · intro x81 ex81
            refine u_X7_trace_143 ?_
            intro x82 ex82
            exact ih13 _ _ _ _ _ _ ⟨hI, gL3, fL4, rfl, rfl, (q1071 i1u1 c15 ex17 c18 c51 c52 c56 ex81 ex82)⟩ (mu_up (q1072 i1u1 c15 ex17 c18 c51 c52 c56 ex81 ex82) (q1073 i1u1 c15 ex17 c18 c51 c52 c56 ex81 ex82))
        · exact hq _ _ hI g0 f0
      · refine ⟨a50, ea50, ?_⟩
        refine ⟨o_a50, ?_⟩
        refine ⟨(vinL hl_a50 (q1074 i1u1 c15 ex17 c18 c51)), ?_⟩
        intro x84 ex84
        refine u_X7_trace_56 ?_
        refine ⟨fun c85 => ?_, fun c85 => ?_⟩
        · refine ⟨o_v0, ?_⟩
          refine ⟨a14, ea14, ?_⟩
          refine ⟨o_a14, ?_⟩
          have i87 : vp_in w11 (hN _ a14) := (vinL hl_a14 (q1075 i1u1 c15 ex17 c18 c51 c85))
          refine ⟨i87, ?_⟩
          intro S88 eS88
          have hI : IV S88 := by rw [eS88]; exact iv_aI hI o_v0 (by decide) ea14 o_a14 (by decide)
          have f0 := fr_A eS88 g0 f0 o_a14 (by decide)
          have fL4 := fr_A eS88 gL3 fL4 o_a14 (by decide)
          have ea14 := rf_I eS88 ea14
          have ea50 := rf_I eS88 ea50
          have hl_a14 := hl_I eS88 hl_a14
          have hl_a50 := hl_I eS88 hl_a50
          have g0 := gr_I eS88 g0
          have gL3 := gr_I eS88 gL3
          have o_a14 := ob_I eS88 o_a14
          have o_a50 := ob_I eS88 o_a50
          have o_v0 := ob_I eS88 o_v0
          have o_v1 := ob_I eS88 o_v1
          refine ⟨fun c89 => ?_, fun c89 => ?_⟩
          · intro x90 ex90
            refine ⟨o_v1, ?_⟩
            refine m_X8_hasRoad hI o_v1 (fun x91 S92 hI2 g93 b_x91 p_x91 => ?_)
            obtain ⟨z_S92, p_x91⟩ := p_x91
            subst z_S92
            intro _ _
            have bb_x91 : x91 = 0 ∨ x91 = 1 := b_x91
            refine ⟨fun c95 => ?_, fun c95 => ?_⟩
            · refine u_X7_trace_143 ?_
              intro x96 ex96
              exact ih13 _ _ _ _ _ _ ⟨hI, gL3, fL4, rfl, rfl, (q1076 i1u1 c15 ex17 c18 c51 c85 c89 ex90 p_x91 bb_x91 c95 ex96)⟩ (mu_up (q1077 i1u1 c15 ex17 c18 c51 c85 c89 ex90 p_x91 bb_x91 c95 ex96) (q1078 i1u1 c15 ex17 c18 c51 c85 c89 ex90 p_x91 bb_x91 c95 ex96))
            · obtain ⟨a97, ea97, o_a97, l_a97⟩ := shl 17 rfl hI o_v1
              refine ⟨a97, ea97, ?_⟩
              intro x98 ex98
              refine ⟨o_a97, ?_⟩
              have i100 : vp_in x98 (hN _ a97) := (vin l_a97 (m := 12) (by decide) (q1079 i1u1 c15 ex17 c18 c51 c85 c89 ex90 p_x91 bb_x91 c95 ex98))
              obtain ⟨a99, ea99, o_a99⟩ := ae hI o_a97 (by decide) (by decide) i100
              replace o_a99 : ob _ a99 5 := o_a99
              refine ⟨i100, a99, ea99, ?_⟩
              intro x101 ex101
              intro x102 ex102
              refine ⟨o_a99, ?_⟩
              refine m_X5_endOf hI o_a99 (fun x103 S104 hI2 g105 p_x103 => ?_)
              subst p_x103
              intro _
              intro x107 ex107
              refine m_X5_minutesAt hI o_a99 (fun x108 S109 hI2 g110 p_x108 => ?_)
              subst p_x108
              intro _
              intro x112 ex112
              refine u_X7_trace_143 ?_
              intro x113 ex113
              exact ih13 _ _ _ _ _ _ ⟨hI, gL3, fL4, rfl, rfl, (q1080 i1u1 c15 ex17 c18 c51 c85 c89 ex90 p_x91 bb_x91 c95 ex98 ex101 ex102 ex107 ex112 ex113)⟩ (mu_up (q1081 i1u1 c15 ex17 c18 c51 c85 c89 ex90 p_x91 bb_x91 c95 ex98 ex101 ex102 ex107 ex112 ex113) (q1082 i1u1 c15 ex17 c18 c51 c85 c89 ex90 p_x91 bb_x91 c95 ex98 ex101 ex102 ex107 ex112 ex113))
          · intro x114 ex114
            refine u_X7_trace_143 ?_
            intro x115 ex115
            exact ih13 _ _ _ _ _ _ ⟨hI, gL3, fL4, rfl, rfl, (q1083 i1u1 c15 ex17 c18 c51 c85 c89 ex114 ex115)⟩ (mu_up (q1084 i1u1 c15 ex17 c18 c51 c85 c89 ex114 ex115) (q1085 i1u1 c15 ex17 c18 c51 c85 c89 ex114 ex115))
        · exact hq _ _ hI g0 f0
set_option maxHeartbeats 4000000 in
set_option maxRecDepth 20000 in
theorem m_X9_isWay {v0 : Int32} {Q : Int32 → HS → Prop} {S : HS} (hI : IV S)      (hq : ∀ (r : Int32) (T : HS), IV T → Gr S T → bl r → (S = T) ∧ (r = 1 → 0 ≤ v0 ∧ v0 ≤ 1) → Q r T) : P_X9_isWay v0 Q S := by
  have g0 := gr_rf S
  refine u_X9_isWay ?_
  refine u_X9_isWay_0 ?_
  refine ⟨fun c1 => ?_, fun c1 => ?_⟩
  · exact hq _ _ hI g0 (Or.inr rfl) ⟨rfl, (q16 c1)⟩
  · refine ⟨fun c2 => ?_, fun c2 => ?_⟩
    · exact hq _ _ hI g0 (Or.inl rfl) ⟨rfl, (q17 c1 c2)⟩
    · exact hq _ _ hI g0 (Or.inr rfl) ⟨rfl, (q18 c1 c2)⟩
set_option maxHeartbeats 4000000 in
set_option maxRecDepth 20000 in
theorem m_X9_air {v0 : Nat} {v1 : Int32} {v2 : Int32} {v3 : Int32} {Q : Int32 → HS → Prop} {S : HS} (hI : IV S) (o_v0 : ob S v0 9)     (hq : ∀ (r : Int32) (T : HS), IV T → Gr S T → FRI [(9, 9)] [] S T → Q r T) : P_X9_air v0 v1 v2 v3 Q S := by
  have g0 := gr_rf S
  have f0 := fri_rf [(9, 9)] [] S
  refine u_X9_air ?_
  refine u_X9_air_0 ?_
  refine ⟨o_v0, ?_⟩
  obtain ⟨a1, ea1, o_a1, -⟩ := sh 1 rfl hI o_v0
  refine ⟨a1, ea1, ?_⟩
  refine ⟨o_a1, ?_⟩
  refine m_X8_hasRoad hI o_a1 (fun x2 S3 hI2 g4 b_x2 p_x2 => ?_)
  obtain ⟨z_S3, p_x2⟩ := p_x2
  subst z_S3
  intro _ _
  have bb_x2 : x2 = 0 ∨ x2 = 1 := b_x2
  refine ⟨fun c6 => ?_, fun c6 => ?_⟩
  · intro S7 eS7
    have hI : IV S7 := by rw [eS7]; exact iv_sI hI o_v0 (by decide) (nu_free (by decide))
    have f0 := fr_I eS7 g0 f0 o_v0 (by decide)
    obtain ⟨y8, hy8⟩ : ∃ z : Int32, z = (1 : Int32) := ⟨_, rfl⟩
    have d_y8 := rd_Is eS7 hy8
    have ea1 := rf_I eS7 ea1
    have g0 := gr_I eS7 g0
    have o_a1 := ob_I eS7 o_a1
    have o_v0 := ob_I eS7 o_v0
    exact hq _ _ hI g0 f0
  · refine m_X9_isWay hI (fun x9 S10 hI2 g11 b_x9 p_x9 => ?_)
    obtain ⟨z_S10, p_x9⟩ := p_x9
    subst z_S10
    intro _ _
    have bb_x9 : x9 = 0 ∨ x9 = 1 := b_x9
    refine ⟨fun c13 => ?_, fun c13 => ?_⟩
    · intro S14 eS14
      have hI : IV S14 := by rw [eS14]; exact iv_sI hI o_v0 (by decide) (nu_free (by decide))
      have f0 := fr_I eS14 g0 f0 o_v0 (by decide)
      obtain ⟨y15, hy15⟩ : ∃ z : Int32, z = (1 : Int32) := ⟨_, rfl⟩
      have d_y15 := rd_Is eS14 hy15
      have ea1 := rf_I eS14 ea1
      have g0 := gr_I eS14 g0
      have o_a1 := ob_I eS14 o_a1
      have o_v0 := ob_I eS14 o_v0
      exact hq _ _ hI g0 f0
    · refine ⟨a1, ea1, ?_⟩
      refine ⟨o_a1, ?_⟩
      refine m_X8_hasHour hI o_a1 (fun x17 S18 hI2 g19 b_x17 p_x17 => ?_)
      obtain ⟨z_S18, p_x17⟩ := p_x17
      subst z_S18
      intro _ _
      have bb_x17 : x17 = 0 ∨ x17 = 1 := b_x17
      refine ⟨fun c21 => ?_, fun c21 => ?_⟩
      · refine ⟨a1, ea1, ?_⟩
        refine ⟨o_a1, ?_⟩
        obtain ⟨a23, ea23, o_a23, l_a23⟩ := shl 17 rfl hI o_a1
        refine ⟨a23, ea23, ?_⟩
        refine ⟨o_a23, ?_⟩
        have i25 : vp_in v1 (hN _ a23) := (vin l_a23 (m := 12) (by decide) (q1419 p_x2 bb_x2 c6 p_x9 bb_x9 c13 p_x17 bb_x17 c21))
        obtain ⟨a24, ea24, o_a24⟩ := ae hI o_a23 (by decide) (by decide) i25
        replace o_a24 : ob _ a24 5 := o_a24
        refine ⟨i25, a24, ea24, ?_⟩
        refine ⟨a1, ea1, ?_⟩
        refine ⟨o_a1, ?_⟩
        obtain ⟨a27, ea27, o_a27, l_a27⟩ := shl 15 rfl hI o_a1
        refine ⟨a27, ea27, ?_⟩
        refine ⟨o_a27, ?_⟩
        have i29 : vp_in v3 (hN _ a27) := (vin l_a27 (m := 6) (by decide) (q1420 p_x2 bb_x2 c6 p_x9 bb_x9 c13 p_x17 bb_x17 c21))
        obtain ⟨a28, ea28, o_a28⟩ := ae hI o_a27 (by decide) (by decide) i29
        replace o_a28 : ob _ a28 3 := o_a28
        refine ⟨i29, a28, ea28, ?_⟩
        refine ⟨o_a24, ?_⟩
        refine m_X5_airAlong hI o_a24 o_a28 (fun x30 S31 hI2 g32 p_x30 => ?_)
        subst p_x30
        intro _
        refine u_X9_grant ?_
        refine u_X9_grant_0 ?_
        refine ⟨o_v0, ?_⟩
        intro S34 eS34
        have hI : IV S34 := by rw [eS34]; exact iv_sI hI o_v0 (by decide) (nu_free (by decide))
        have f0 := fr_I eS34 g0 f0 o_v0 (by decide)
        obtain ⟨y35, hy35⟩ : ∃ z : Int32, z = (0 : Int32) := ⟨_, rfl⟩
        have d_y35 := rd_Is eS34 hy35
        have ea1 := rf_I eS34 ea1
        have ea23 := rf_I eS34 ea23
        have ea27 := rf_I eS34 ea27
        have l_a23 := ln_I eS34 l_a23
        have l_a27 := ln_I eS34 l_a27
        have g0 := gr_I eS34 g0
        have o_a1 := ob_I eS34 o_a1
        have o_a23 := ob_I eS34 o_a23
        have o_a24 := ob_I eS34 o_a24
        have o_a27 := ob_I eS34 o_a27
        have o_a28 := ob_I eS34 o_a28
        have o_v0 := ob_I eS34 o_v0
        intro _
        exact hq _ _ hI g0 f0
      · intro S37 eS37
        have hI : IV S37 := by rw [eS37]; exact iv_sI hI o_v0 (by decide) (nu_free (by decide))
        have f0 := fr_I eS37 g0 f0 o_v0 (by decide)
        obtain ⟨y38, hy38⟩ : ∃ z : Int32, z = (1 : Int32) := ⟨_, rfl⟩
        have d_y38 := rd_Is eS37 hy38
        have ea1 := rf_I eS37 ea1
        have g0 := gr_I eS37 g0
        have o_a1 := ob_I eS37 o_a1
        have o_v0 := ob_I eS37 o_v0
        exact hq _ _ hI g0 f0
set_option maxHeartbeats 4000000 in
set_option maxRecDepth 20000 in
theorem m_X9_back {v0 : Nat} {v1 : Int32} {Q : Int32 → HS → Prop} {S : HS} (hI : IV S) (o_v0 : ob S v0 9)     (hq : ∀ (r : Int32) (T : HS), IV T → Gr S T → FRI [(0, 2), (2, 0), (2, 1), (9, 9)] [] S T → bl r → Q r T) : P_X9_back v0 v1 Q S := by
  have g0 := gr_rf S
  have f0 := fri_rf [(0, 2), (2, 0), (2, 1), (9, 9)] [] S
  refine u_X9_back ?_
  refine u_X9_back_0 ?_
  refine ⟨o_v0, ?_⟩
  obtain ⟨a1, ea1, o_a1, -⟩ := sh 5 rfl hI o_v0
  refine ⟨a1, ea1, ?_⟩
  refine ⟨o_a1, ?_⟩
  refine m_X0_returnTo hI o_a1 (fun x2 S3 hJ g4 fc5 b_x2 => ?_)
  have hI := hJ
  have ea1 := (frr_at fc5 (by decide) (by decide) o_v0).trans ea1
  have f0 := fri_tr (S := S) g0 f0 fc5 (by decide) (by decide)
  have o_a1 := gr_ob g4 o_a1
  have o_v0 := gr_ob g4 o_v0
  have g0 := gr_tr (T := S) g0 g4
  intro _ _
  have bb_x2 : x2 = 0 ∨ x2 = 1 := b_x2
  refine ⟨fun c6 => ?_, fun c6 => ?_⟩
  · refine u_X9_back_17 ?_
    refine ⟨o_v0, ?_⟩
    refine u_X9_refusedBy ?_
    refine u_X9_refusedBy_0 ?_
    refine ⟨o_v0, ?_⟩
    intro S7 eS7
    have hI : IV S7 := by rw [eS7]; exact iv_sI hI o_v0 (by decide) (nu_free (by decide))
    have f0 := fr_I eS7 g0 f0 o_v0 (by decide)
    obtain ⟨y8, hy8⟩ : ∃ z : Int32, z = (1 : Int32) := ⟨_, rfl⟩
    have d_y8 := rd_Is eS7 hy8
    have ea1 := rf_I eS7 ea1
    have g0 := gr_I eS7 g0
    have o_a1 := ob_I eS7 o_a1
    have o_v0 := ob_I eS7 o_v0
    refine ⟨fun c9 => ?_, fun c9 => ?_⟩
    · intro _ _
      refine ⟨fun c11 => ?_, fun c11 => ?_⟩
      · exact hq _ _ hI g0 f0 (Or.inl rfl)
      · exact hq _ _ hI g0 f0 (Or.inr rfl)
    · intro _ _
      refine ⟨fun c13 => ?_, fun c13 => ?_⟩
      · exact hq _ _ hI g0 f0 (Or.inl rfl)
      · exact hq _ _ hI g0 f0 (Or.inr rfl)
  · refine u_X9_back_17 ?_
    refine ⟨o_v0, ?_⟩
    refine u_X9_refusedBy ?_
    refine u_X9_refusedBy_0 ?_
    refine ⟨o_v0, ?_⟩
    intro S14 eS14
    have hI : IV S14 := by rw [eS14]; exact iv_sI hI o_v0 (by decide) (nu_free (by decide))
    have f0 := fr_I eS14 g0 f0 o_v0 (by decide)
    obtain ⟨y15, hy15⟩ : ∃ z : Int32, z = (0 : Int32) := ⟨_, rfl⟩
    have d_y15 := rd_Is eS14 hy15
    have ea1 := rf_I eS14 ea1
    have g0 := gr_I eS14 g0
    have o_a1 := ob_I eS14 o_a1
    have o_v0 := ob_I eS14 o_v0
    refine ⟨fun c16 => ?_, fun c16 => ?_⟩
    · intro _ _
      refine ⟨fun c18 => ?_, fun c18 => ?_⟩
      · exact hq _ _ hI g0 f0 (Or.inl rfl)
      · exact hq _ _ hI g0 f0 (Or.inr rfl)
    · intro _ _
      refine ⟨fun c20 => ?_, fun c20 => ?_⟩
      · exact hq _ _ hI g0 f0 (Or.inl rfl)
      · exact hq _ _ hI g0 f0 (Or.inr rfl)
set_option maxHeartbeats 4000000 in
set_option maxRecDepth 20000 in
theorem m_X9_tripTrouble {v0 : Nat} {v1 : Int32} {v2 : Int32} {v3 : Int32} {v4 : Int32} {Q : Int32 → HS → Prop} {S : HS} (hI : IV S) (o_v0 : ob S v0 9)     (hq : ∀ (r : Int32) (T : HS), IV T → Gr S T → (S = T) ∧ (r = 0 → 0 ≤ v1 ∧ v1 < 4 ∧ 0 ≤ v2 ∧ v2 < 12 ∧ 0 ≤ v4 ∧ v4 < 6) → Q r T) : P_X9_tripTrouble v0 v1 v2 v3 v4 Q S := by
  have g0 := gr_rf S
  refine u_X9_tripTrouble ?_
  refine u_X9_tripTrouble_0 ?_
  refine ⟨o_v0, ?_⟩
  obtain ⟨a1, ea1, o_a1, -⟩ := sh 1 rfl hI o_v0
  refine ⟨a1, ea1, ?_⟩
  refine ⟨o_a1, ?_⟩
  refine m_X8_hasWalker hI o_a1 (fun x2 S3 hI2 g4 b_x2 p_x2 => ?_)
  obtain ⟨z_S3, p_x2⟩ := p_x2
  subst z_S3
  intro _ _
  have bb_x2 : x2 = 0 ∨ x2 = 1 := b_x2
  refine ⟨fun c6 => ?_, fun c6 => ?_⟩
  · refine u_X9_tripTrouble_45 ?_
    refine u_X9_tripTrouble_46 ?_
    refine ⟨fun c7 => ?_, fun c7 => ?_⟩
    · exact hq _ _ hI g0 ⟨rfl, (q6 p_x2 bb_x2 c6)⟩
    · exact hq _ _ hI g0 ⟨rfl, (q7 p_x2 bb_x2 c6 c7)⟩
  · refine ⟨a1, ea1, ?_⟩
    refine ⟨o_a1, ?_⟩
    refine m_X8_hasRoad hI o_a1 (fun x9 S10 hI2 g11 b_x9 p_x9 => ?_)
    obtain ⟨z_S10, p_x9⟩ := p_x9
    subst z_S10
    intro _ _
    have bb_x9 : x9 = 0 ∨ x9 = 1 := b_x9
    refine ⟨fun c13 => ?_, fun c13 => ?_⟩
    · refine u_X9_tripTrouble_45 ?_
      refine u_X9_tripTrouble_46 ?_
      refine ⟨fun c14 => ?_, fun c14 => ?_⟩
      · exact hq _ _ hI g0 ⟨rfl, (q8 p_x2 bb_x2 c6 p_x9 bb_x9 c13)⟩
      · exact hq _ _ hI g0 ⟨rfl, (q9 p_x2 bb_x2 c6 p_x9 bb_x9 c13 c14)⟩
    · refine m_X9_isWay hI (fun x15 S16 hI2 g17 b_x15 p_x15 => ?_)
      obtain ⟨z_S16, p_x15⟩ := p_x15
      subst z_S16
      intro _ _
      have bb_x15 : x15 = 0 ∨ x15 = 1 := b_x15
      refine ⟨fun c19 => ?_, fun c19 => ?_⟩
      · refine u_X9_tripTrouble_45 ?_
        refine u_X9_tripTrouble_46 ?_
        refine ⟨fun c20 => ?_, fun c20 => ?_⟩
        · exact hq _ _ hI g0 ⟨rfl, (q10 p_x2 bb_x2 c6 p_x9 bb_x9 c13 p_x15 bb_x15 c19)⟩
        · exact hq _ _ hI g0 ⟨rfl, (q11 p_x2 bb_x2 c6 p_x9 bb_x9 c13 p_x15 bb_x15 c19 c20)⟩
      · refine ⟨a1, ea1, ?_⟩
        refine ⟨o_a1, ?_⟩
        refine m_X8_hasHour hI o_a1 (fun x22 S23 hI2 g24 b_x22 p_x22 => ?_)
        obtain ⟨z_S23, p_x22⟩ := p_x22
        subst z_S23
        intro _ _
        have bb_x22 : x22 = 0 ∨ x22 = 1 := b_x22
        refine ⟨fun c26 => ?_, fun c26 => ?_⟩
        · refine u_X9_tripTrouble_45 ?_
          refine u_X9_tripTrouble_46 ?_
          refine ⟨fun c27 => ?_, fun c27 => ?_⟩
          · exact hq _ _ hI g0 ⟨rfl, (q12 p_x2 bb_x2 c6 p_x9 bb_x9 c13 p_x15 bb_x15 c19 p_x22 bb_x22 c26)⟩
          · exact hq _ _ hI g0 ⟨rfl, (q13 p_x2 bb_x2 c6 p_x9 bb_x9 c13 p_x15 bb_x15 c19 p_x22 bb_x22 c26 c27)⟩
        · refine u_X9_tripTrouble_46 ?_
          refine ⟨fun c28 => ?_, fun c28 => ?_⟩
          · exact hq _ _ hI g0 ⟨rfl, (q14 p_x2 bb_x2 c6 p_x9 bb_x9 c13 p_x15 bb_x15 c19 p_x22 bb_x22 c26 c28)⟩
          · exact hq _ _ hI g0 ⟨rfl, (q15 p_x2 bb_x2 c6 p_x9 bb_x9 c13 p_x15 bb_x15 c19 p_x22 bb_x22 c26)⟩
set_option maxHeartbeats 4000000 in
set_option maxRecDepth 20000 in
theorem m_X9_best {v0 : Nat} {v1 : Int32} {v2 : Int32} {v3 : Int32} {v4 : Int32} {Q : Int32 → HS → Prop} {S : HS} (hI : IV S) (o_v0 : ob S v0 9)     (hq : ∀ (r : Int32) (T : HS), IV T → Gr S T → FRI [(9, 9)] [] S T → Q r T) : P_X9_best v0 v1 v2 v3 v4 Q S := by
  have g0 := gr_rf S
  have f0 := fri_rf [(9, 9)] [] S
  refine u_X9_best ?_
  refine u_X9_best_0 ?_
  refine ⟨o_v0, ?_⟩
  refine m_X9_tripTrouble hI o_v0 (fun x1 S2 hI2 g3 p_x1 => ?_)
  obtain ⟨z_S2, p_x1⟩ := p_x1
  subst z_S2
  intro _
  refine u_X9_refusedBy ?_
  refine u_X9_refusedBy_0 ?_
  refine ⟨o_v0, ?_⟩
  intro S5 eS5
  have hI : IV S5 := by rw [eS5]; exact iv_sI hI o_v0 (by decide) (nu_free (by decide))
  have f0 := fr_I eS5 g0 f0 o_v0 (by decide)
  have d_x1 := rd_Is eS5 (rfl : x1 = x1)
  have g0 := gr_I eS5 g0
  have o_v0 := ob_I eS5 o_v0
  refine ⟨fun c6 => ?_, fun c6 => ?_⟩
  · intro _ _
    refine ⟨fun c8 => ?_, fun c8 => ?_⟩
    · obtain ⟨a9, ea9, o_a9, -⟩ := sh 3 rfl hI o_v0
      refine ⟨a9, ea9, ?_⟩
      obtain ⟨a10, ea10, o_a10, -⟩ := sh 1 rfl hI o_v0
      refine ⟨a10, ea10, ?_⟩
      refine ⟨o_a10, ?_⟩
      obtain ⟨a11, ea11, o_a11, l_a11⟩ := shl 18 rfl hI o_a10
      refine ⟨a11, ea11, ?_⟩
      refine ⟨o_a11, ?_⟩
      have i13 : vp_in v1 (hN _ a11) := (vin l_a11 (m := 4) (by decide) (q0 p_x1 c6))
      obtain ⟨a12, ea12, o_a12⟩ := ae hI o_a11 (by decide) (by decide) i13
      replace o_a12 : ob _ a12 6 := o_a12
      refine ⟨i13, a12, ea12, ?_⟩
      refine ⟨a10, ea10, ?_⟩
      refine ⟨o_a10, ?_⟩
      obtain ⟨a15, ea15, o_a15, l_a15⟩ := shl 17 rfl hI o_a10
      refine ⟨a15, ea15, ?_⟩
      refine ⟨o_a15, ?_⟩
      have i17 : vp_in v2 (hN _ a15) := (vin l_a15 (m := 12) (by decide) (q1 p_x1 c6))
      obtain ⟨a16, ea16, o_a16⟩ := ae hI o_a15 (by decide) (by decide) i17
      replace o_a16 : ob _ a16 5 := o_a16
      refine ⟨i17, a16, ea16, ?_⟩
      refine ⟨a10, ea10, ?_⟩
      refine ⟨o_a10, ?_⟩
      obtain ⟨a19, ea19, o_a19, l_a19⟩ := shl 15 rfl hI o_a10
      refine ⟨a19, ea19, ?_⟩
      refine ⟨o_a19, ?_⟩
      have i21 : vp_in v4 (hN _ a19) := (vin l_a19 (m := 6) (by decide) (q2 p_x1 c6))
      obtain ⟨a20, ea20, o_a20⟩ := ae hI o_a19 (by decide) (by decide) i21
      replace o_a20 : ob _ a20 3 := o_a20
      refine ⟨i21, a20, ea20, ?_⟩
      refine ⟨o_a9, ?_⟩
      refine m_X1_bestSpeed hI o_a9 o_a12 o_a16 o_a20 (fun x22 S23 hJ g24 fc25 => ?_)
      have hI := hJ
      have l_a11 := (gr_len g24 o_a11).trans l_a11
      have l_a15 := (gr_len g24 o_a15).trans l_a15
      have l_a19 := (gr_len g24 o_a19).trans l_a19
      have d_x1 := d_x1.trans (fri_at fc25 (by decide) (by decide) o_v0).symm
      have ea9 := (frr_at fc25 (by decide) (by decide) o_v0).trans ea9
      have ea10 := (frr_at fc25 (by decide) (by decide) o_v0).trans ea10
      have ea11 := (frr_at fc25 (by decide) (by decide) o_a10).trans ea11
      have ea15 := (frr_at fc25 (by decide) (by decide) o_a10).trans ea15
      have ea19 := (frr_at fc25 (by decide) (by decide) o_a10).trans ea19
      have f0 := fri_tr (S := S5) g0 f0 fc25 (by decide) (by decide)
      have o_a10 := gr_ob g24 o_a10
      have o_a11 := gr_ob g24 o_a11
      have o_a12 := gr_ob g24 o_a12
      have o_a15 := gr_ob g24 o_a15
      have o_a16 := gr_ob g24 o_a16
      have o_a19 := gr_ob g24 o_a19
      have o_a20 := gr_ob g24 o_a20
      have o_a9 := gr_ob g24 o_a9
      have o_v0 := gr_ob g24 o_v0
      have g0 := gr_tr (T := S5) g0 g24
      intro _
      exact hq _ _ hI g0 f0
    · exact hq _ _ hI g0 f0
  · intro _ _
    refine ⟨fun c27 => ?_, fun c27 => ?_⟩
    · obtain ⟨a28, ea28, o_a28, -⟩ := sh 3 rfl hI o_v0
      refine ⟨a28, ea28, ?_⟩
      obtain ⟨a29, ea29, o_a29, -⟩ := sh 1 rfl hI o_v0
      refine ⟨a29, ea29, ?_⟩
      refine ⟨o_a29, ?_⟩
      obtain ⟨a30, ea30, o_a30, l_a30⟩ := shl 18 rfl hI o_a29
      refine ⟨a30, ea30, ?_⟩
      refine ⟨o_a30, ?_⟩
      have i32 : vp_in v1 (hN _ a30) := (vin l_a30 (m := 4) (by decide) (q3 p_x1 c6 c27))
      obtain ⟨a31, ea31, o_a31⟩ := ae hI o_a30 (by decide) (by decide) i32
      replace o_a31 : ob _ a31 6 := o_a31
      refine ⟨i32, a31, ea31, ?_⟩
      refine ⟨a29, ea29, ?_⟩
      refine ⟨o_a29, ?_⟩
      obtain ⟨a34, ea34, o_a34, l_a34⟩ := shl 17 rfl hI o_a29
      refine ⟨a34, ea34, ?_⟩
      refine ⟨o_a34, ?_⟩
      have i36 : vp_in v2 (hN _ a34) := (vin l_a34 (m := 12) (by decide) (q4 p_x1 c6 c27))
      obtain ⟨a35, ea35, o_a35⟩ := ae hI o_a34 (by decide) (by decide) i36
      replace o_a35 : ob _ a35 5 := o_a35
      refine ⟨i36, a35, ea35, ?_⟩
      refine ⟨a29, ea29, ?_⟩
      refine ⟨o_a29, ?_⟩
      obtain ⟨a38, ea38, o_a38, l_a38⟩ := shl 15 rfl hI o_a29
      refine ⟨a38, ea38, ?_⟩
      refine ⟨o_a38, ?_⟩
      have i40 : vp_in v4 (hN _ a38) := (vin l_a38 (m := 6) (by decide) (q5 p_x1 c6 c27))
      obtain ⟨a39, ea39, o_a39⟩ := ae hI o_a38 (by decide) (by decide) i40
      replace o_a39 : ob _ a39 3 := o_a39
      refine ⟨i40, a39, ea39, ?_⟩
      refine ⟨o_a28, ?_⟩
      refine m_X1_bestSpeed hI o_a28 o_a31 o_a35 o_a39 (fun x41 S42 hJ g43 fc44 => ?_)
      have hI := hJ
      have l_a30 := (gr_len g43 o_a30).trans l_a30
      have l_a34 := (gr_len g43 o_a34).trans l_a34
      have l_a38 := (gr_len g43 o_a38).trans l_a38
      have d_x1 := d_x1.trans (fri_at fc44 (by decide) (by decide) o_v0).symm
      have ea28 := (frr_at fc44 (by decide) (by decide) o_v0).trans ea28
      have ea29 := (frr_at fc44 (by decide) (by decide) o_v0).trans ea29
      have ea30 := (frr_at fc44 (by decide) (by decide) o_a29).trans ea30
      have ea34 := (frr_at fc44 (by decide) (by decide) o_a29).trans ea34
      have ea38 := (frr_at fc44 (by decide) (by decide) o_a29).trans ea38
      have f0 := fri_tr (S := S5) g0 f0 fc44 (by decide) (by decide)
      have o_a28 := gr_ob g43 o_a28
      have o_a29 := gr_ob g43 o_a29
      have o_a30 := gr_ob g43 o_a30
      have o_a31 := gr_ob g43 o_a31
      have o_a34 := gr_ob g43 o_a34
      have o_a35 := gr_ob g43 o_a35
      have o_a38 := gr_ob g43 o_a38
      have o_a39 := gr_ob g43 o_a39
      have o_v0 := gr_ob g43 o_v0
      have g0 := gr_tr (T := S5) g0 g43
      intro _
      exact hq _ _ hI g0 f0
    · exact hq _ _ hI g0 f0
set_option maxHeartbeats 4000000 in
set_option maxRecDepth 20000 in
theorem m_X9_coatParts {v0 : Nat} {Q : Int64 → HS → Prop} {S : HS} (hI : IV S) (o_v0 : ob S v0 6)     (hq : ∀ (r : Int64) (T : HS), IV T → Gr S T → (S = T) → Q r T) : P_X9_coatParts v0 Q S := by
  have g0 := gr_rf S
  refine u_X9_coatParts ?_
  refine u_X9_coatParts_0 ?_
  refine ⟨o_v0, ?_⟩
  intro x1 ex1
  have d_x1 := ex1
  refine ⟨fun c2 => ?_, fun c2 => ?_⟩
  · exact hq _ _ hI g0 rfl
  · intro x3 ex3
    have d_x3 := ex3
    exact hq _ _ hI g0 rfl
set_option maxHeartbeats 4000000 in
set_option maxRecDepth 20000 in
theorem m_X9_commonDivisor {v0 : Int64} {v2 : Int64} {Q : Int64 → HS → Prop} {S : HS} (hI : IV S)      (hq : ∀ (r : Int64) (T : HS), IV T → Gr S T → (S = T) → Q r T) : P_X9_commonDivisor v0 v2 Q S := by
  have g0 := gr_rf S
  refine u_X9_commonDivisor ?_
  refine u_X9_commonDivisor_0 ?_
  refine i_X9_commonDivisor_9 (fun (y4 : Int64) (y6 : Int64) (y8 : Int32) (Z : HS) => ((2147483647 : Int32).toInt - y8.toInt).toNat) (fun (y4 : Int64) (y6 : Int64) (y8 : Int32) (Z : HS) => (S = Z) ∧ (0 ≤ y8)) ?_ _ _ _ _ ⟨rfl, (q82)⟩
  intro w5 w6 w7 S2 X8 ⟨eS2, i1u1⟩ ih9
  subst eS2
  refine u_X9_commonDivisor_9 ?_
  refine ⟨fun c10 => ?_, fun c10 => ?_⟩
  · exact hq _ _ hI g0 rfl
  · refine ⟨fun c11 => ?_, fun c11 => ?_⟩
    · exact hq _ _ hI g0 rfl
    · refine ⟨(lc_ne c11), ?_⟩
      intro x12 ex12
      intro x13 ex13
      exact ih9 _ _ _ _ ⟨rfl, (q728 i1u1 c10 c11 ex13)⟩ (mu_up (q729 i1u1 c10 c11 ex13) (q730 i1u1 c10 c11 ex13))
set_option maxHeartbeats 4000000 in
set_option maxRecDepth 20000 in
theorem m_X9_day {v0 : Nat} {v1 : Int32} {v2 : Int32} {v3 : Int32} {v4 : Int32} {Q : Int32 → HS → Prop} {S : HS} (hI : IV S) (o_v0 : ob S v0 9)     (hq : ∀ (r : Int32) (T : HS), IV T → Gr S T → FRI [(0, 0), (0, 1), (0, 2), (0, 3), (2, 0), (2, 1), (9, 9)] [] S T → Q r T) : P_X9_day v0 v1 v2 v3 v4 Q S := by
  have g0 := gr_rf S
  have f0 := fri_rf [(0, 0), (0, 1), (0, 2), (0, 3), (2, 0), (2, 1), (9, 9)] [] S
  refine u_X9_day ?_
  refine u_X9_day_0 ?_
  refine ⟨o_v0, ?_⟩
  obtain ⟨a1, ea1, o_a1, -⟩ := sh 1 rfl hI o_v0
  refine ⟨a1, ea1, ?_⟩
  refine ⟨o_a1, ?_⟩
  refine m_X8_hasWalker hI o_a1 (fun x2 S3 hI2 g4 b_x2 p_x2 => ?_)
  obtain ⟨z_S3, p_x2⟩ := p_x2
  subst z_S3
  intro _ _
  have bb_x2 : x2 = 0 ∨ x2 = 1 := b_x2
  refine ⟨fun c6 => ?_, fun c6 => ?_⟩
  · refine u_X9_day_22 ?_
    refine ⟨o_v0, ?_⟩
    refine u_X9_refuse ?_
    refine u_X9_refuse_0 ?_
    refine ⟨o_v0, ?_⟩
    intro S7 eS7
    have hI : IV S7 := by rw [eS7]; exact iv_sI hI o_v0 (by decide) (nu_free (by decide))
    have f0 := fr_I eS7 g0 f0 o_v0 (by decide)
    obtain ⟨y8, hy8⟩ : ∃ z : Int32, z = (1 : Int32) := ⟨_, rfl⟩
    have d_y8 := rd_Is eS7 hy8
    have ea1 := rf_I eS7 ea1
    have g0 := gr_I eS7 g0
    have o_a1 := ob_I eS7 o_a1
    have o_v0 := ob_I eS7 o_v0
    intro _
    exact hq _ _ hI g0 f0
  · refine ⟨a1, ea1, ?_⟩
    refine ⟨o_a1, ?_⟩
    refine m_X8_hasPlace hI o_a1 (fun x11 S12 hI2 g13 b_x11 p_x11 => ?_)
    obtain ⟨z_S12, p_x11⟩ := p_x11
    subst z_S12
    intro _ _
    have bb_x11 : x11 = 0 ∨ x11 = 1 := b_x11
    refine ⟨fun c15 => ?_, fun c15 => ?_⟩
    · refine ⟨fun c16 => ?_, fun c16 => ?_⟩
      · refine u_X9_day_52 ?_
        refine ⟨o_v0, ?_⟩
        refine u_X9_refuse ?_
        refine u_X9_refuse_0 ?_
        refine ⟨o_v0, ?_⟩
        intro S17 eS17
        have hI : IV S17 := by rw [eS17]; exact iv_sI hI o_v0 (by decide) (nu_free (by decide))
        have f0 := fr_I eS17 g0 f0 o_v0 (by decide)
        obtain ⟨y18, hy18⟩ : ∃ z : Int32, z = (2 : Int32) := ⟨_, rfl⟩
        have d_y18 := rd_Is eS17 hy18
        have ea1 := rf_I eS17 ea1
        have g0 := gr_I eS17 g0
        have o_a1 := ob_I eS17 o_a1
        have o_v0 := ob_I eS17 o_v0
        intro _
        exact hq _ _ hI g0 f0
      · refine ⟨fun c20 => ?_, fun c20 => ?_⟩
        · refine u_X9_day_52 ?_
          refine ⟨o_v0, ?_⟩
          refine u_X9_refuse ?_
          refine u_X9_refuse_0 ?_
          refine ⟨o_v0, ?_⟩
          intro S21 eS21
          have hI : IV S21 := by rw [eS21]; exact iv_sI hI o_v0 (by decide) (nu_free (by decide))
          have f0 := fr_I eS21 g0 f0 o_v0 (by decide)
          obtain ⟨y22, hy22⟩ : ∃ z : Int32, z = (2 : Int32) := ⟨_, rfl⟩
          have d_y22 := rd_Is eS21 hy22
          have ea1 := rf_I eS21 ea1
          have g0 := gr_I eS21 g0
          have o_a1 := ob_I eS21 o_a1
          have o_v0 := ob_I eS21 o_v0
          intro _
          exact hq _ _ hI g0 f0
        · refine ⟨fun c24 => ?_, fun c24 => ?_⟩
          · refine u_X9_day_52 ?_
            refine ⟨o_v0, ?_⟩
            refine u_X9_refuse ?_
            refine u_X9_refuse_0 ?_
            refine ⟨o_v0, ?_⟩
            intro S25 eS25
            have hI : IV S25 := by rw [eS25]; exact iv_sI hI o_v0 (by decide) (nu_free (by decide))
            have f0 := fr_I eS25 g0 f0 o_v0 (by decide)
            obtain ⟨y26, hy26⟩ : ∃ z : Int32, z = (2 : Int32) := ⟨_, rfl⟩
            have d_y26 := rd_Is eS25 hy26
            have ea1 := rf_I eS25 ea1
            have g0 := gr_I eS25 g0
            have o_a1 := ob_I eS25 o_a1
            have o_v0 := ob_I eS25 o_v0
            intro _
            exact hq _ _ hI g0 f0
          · refine ⟨fun c28 => ?_, fun c28 => ?_⟩
            · obtain ⟨a29, ea29, o_a29, -⟩ := sh 5 rfl hI o_v0
              refine ⟨a29, ea29, ?_⟩
              refine ⟨o_a29, ?_⟩
              refine m_X0_begin hI o_a29 (q1405 p_x2 bb_x2 c6 p_x11 bb_x11 c15 c16 c20 c24 c28) (fun S31 hJ g32 fc33 => ?_)
              have hI := hJ
              have ea1 := (frr_at fc33 (by decide) (by decide) o_v0).trans ea1
              have ea29 := (frr_at fc33 (by decide) (by decide) o_v0).trans ea29
              have f0 := fri_tr (S := S) g0 f0 fc33 (by decide) (by decide)
              have o_a1 := gr_ob g32 o_a1
              have o_a29 := gr_ob g32 o_a29
              have o_v0 := gr_ob g32 o_v0
              have g0 := gr_tr (T := S) g0 g32
              intro _
              refine ⟨a29, ea29, ?_⟩
              refine ⟨a1, ea1, ?_⟩
              refine ⟨o_a29, ?_⟩
              refine m_X0_draw hI o_a29 o_a1 (fun S37 hJ g38 fc39 => ?_)
              have hI := hJ
              have ea1 := (frr_at fc39 (by decide) (by decide) o_v0).trans ea1
              have ea29 := (frr_at fc39 (by decide) (by decide) o_v0).trans ea29
              have f0 := fri_tr (S := S31) g0 f0 fc39 (by decide) (by decide)
              have o_a1 := gr_ob g38 o_a1
              have o_a29 := gr_ob g38 o_a29
              have o_v0 := gr_ob g38 o_v0
              have g0 := gr_tr (T := S31) g0 g38
              intro _
              refine ⟨a29, ea29, ?_⟩
              refine ⟨o_a29, ?_⟩
              intro x41 ex41
              have d_x41 := ex41
              refine u_X9_grant ?_
              refine u_X9_grant_0 ?_
              refine ⟨o_v0, ?_⟩
              intro S42 eS42
              have hI : IV S42 := by rw [eS42]; exact iv_sI hI o_v0 (by decide) (nu_free (by decide))
              have f0 := fr_I eS42 g0 f0 o_v0 (by decide)
              have d_x41 := rd_Ik eS42 o_v0 o_a29 (by decide) d_x41
              obtain ⟨y43, hy43⟩ : ∃ z : Int32, z = (0 : Int32) := ⟨_, rfl⟩
              have d_y43 := rd_Is eS42 hy43
              have ea1 := rf_I eS42 ea1
              have ea29 := rf_I eS42 ea29
              have g0 := gr_I eS42 g0
              have o_a1 := ob_I eS42 o_a1
              have o_a29 := ob_I eS42 o_a29
              have o_v0 := ob_I eS42 o_v0
              intro _
              exact hq _ _ hI g0 f0
            · refine u_X9_day_52 ?_
              refine ⟨o_v0, ?_⟩
              refine u_X9_refuse ?_
              refine u_X9_refuse_0 ?_
              refine ⟨o_v0, ?_⟩
              intro S45 eS45
              have hI : IV S45 := by rw [eS45]; exact iv_sI hI o_v0 (by decide) (nu_free (by decide))
              have f0 := fr_I eS45 g0 f0 o_v0 (by decide)
              obtain ⟨y46, hy46⟩ : ∃ z : Int32, z = (2 : Int32) := ⟨_, rfl⟩
              have d_y46 := rd_Is eS45 hy46
              have ea1 := rf_I eS45 ea1
              have g0 := gr_I eS45 g0
              have o_a1 := ob_I eS45 o_a1
              have o_v0 := ob_I eS45 o_v0
              intro _
              exact hq _ _ hI g0 f0
    · refine u_X9_day_22 ?_
      refine ⟨o_v0, ?_⟩
      refine u_X9_refuse ?_
      refine u_X9_refuse_0 ?_
      refine ⟨o_v0, ?_⟩
      intro S48 eS48
      have hI : IV S48 := by rw [eS48]; exact iv_sI hI o_v0 (by decide) (nu_free (by decide))
      have f0 := fr_I eS48 g0 f0 o_v0 (by decide)
      obtain ⟨y49, hy49⟩ : ∃ z : Int32, z = (1 : Int32) := ⟨_, rfl⟩
      have d_y49 := rd_Is eS48 hy49
      have ea1 := rf_I eS48 ea1
      have g0 := gr_I eS48 g0
      have o_a1 := ob_I eS48 o_a1
      have o_v0 := ob_I eS48 o_v0
      intro _
      exact hq _ _ hI g0 f0
set_option maxHeartbeats 4000000 in
set_option maxRecDepth 20000 in
theorem m_X9_driest {v0 : Nat} {v1 : Int32} {v2 : Int32} {v3 : Int32} {Q : Int32 → HS → Prop} {S : HS} (hI : IV S) (o_v0 : ob S v0 9)     (hq : ∀ (r : Int32) (T : HS), IV T → Gr S T → FRI [(9, 9)] [] S T → Q r T) : P_X9_driest v0 v1 v2 v3 Q S := by
  have g0 := gr_rf S
  have f0 := fri_rf [(9, 9)] [] S
  refine u_X9_driest ?_
  refine u_X9_driest_0 ?_
  refine ⟨o_v0, ?_⟩
  obtain ⟨a1, ea1, o_a1, -⟩ := sh 1 rfl hI o_v0
  refine ⟨a1, ea1, ?_⟩
  refine ⟨o_a1, ?_⟩
  refine m_X8_hasWalker hI o_a1 (fun x2 S3 hI2 g4 b_x2 p_x2 => ?_)
  obtain ⟨z_S3, p_x2⟩ := p_x2
  subst z_S3
  intro _ _
  have bb_x2 : x2 = 0 ∨ x2 = 1 := b_x2
  refine ⟨fun c6 => ?_, fun c6 => ?_⟩
  · refine u_X9_driest_29 ?_
    refine ⟨o_v0, ?_⟩
    refine u_X9_refuse ?_
    refine u_X9_refuse_0 ?_
    refine ⟨o_v0, ?_⟩
    intro S7 eS7
    have hI : IV S7 := by rw [eS7]; exact iv_sI hI o_v0 (by decide) (nu_free (by decide))
    have f0 := fr_I eS7 g0 f0 o_v0 (by decide)
    obtain ⟨y8, hy8⟩ : ∃ z : Int32, z = (1 : Int32) := ⟨_, rfl⟩
    have d_y8 := rd_Is eS7 hy8
    have ea1 := rf_I eS7 ea1
    have g0 := gr_I eS7 g0
    have o_a1 := ob_I eS7 o_a1
    have o_v0 := ob_I eS7 o_v0
    intro _
    exact hq _ _ hI g0 f0
  · refine ⟨a1, ea1, ?_⟩
    refine ⟨o_a1, ?_⟩
    refine m_X8_hasRoad hI o_a1 (fun x11 S12 hI2 g13 b_x11 p_x11 => ?_)
    obtain ⟨z_S12, p_x11⟩ := p_x11
    subst z_S12
    intro _ _
    have bb_x11 : x11 = 0 ∨ x11 = 1 := b_x11
    refine ⟨fun c15 => ?_, fun c15 => ?_⟩
    · refine u_X9_driest_29 ?_
      refine ⟨o_v0, ?_⟩
      refine u_X9_refuse ?_
      refine u_X9_refuse_0 ?_
      refine ⟨o_v0, ?_⟩
      intro S16 eS16
      have hI : IV S16 := by rw [eS16]; exact iv_sI hI o_v0 (by decide) (nu_free (by decide))
      have f0 := fr_I eS16 g0 f0 o_v0 (by decide)
      obtain ⟨y17, hy17⟩ : ∃ z : Int32, z = (1 : Int32) := ⟨_, rfl⟩
      have d_y17 := rd_Is eS16 hy17
      have ea1 := rf_I eS16 ea1
      have g0 := gr_I eS16 g0
      have o_a1 := ob_I eS16 o_a1
      have o_v0 := ob_I eS16 o_v0
      intro _
      exact hq _ _ hI g0 f0
    · refine m_X9_isWay hI (fun x19 S20 hI2 g21 b_x19 p_x19 => ?_)
      obtain ⟨z_S20, p_x19⟩ := p_x19
      subst z_S20
      intro _ _
      have bb_x19 : x19 = 0 ∨ x19 = 1 := b_x19
      refine ⟨fun c23 => ?_, fun c23 => ?_⟩
      · refine ⟨a1, ea1, ?_⟩
        refine ⟨o_a1, ?_⟩
        intro x25 ex25
        have r_x25 : (0 : Int32) ≤ x25 ∧ x25 ≤ (6 : Int32) := by rw [ex25]; exact nu 11 rfl hI o_a1
        have d_x25 := ex25
        refine ⟨fun c26 => ?_, fun c26 => ?_⟩
        · refine i_X9_driest_63 (fun (y0 : Nat) (y1 : Int32) (y2 : Int32) (y3 : Int32) (y4 : Int32) (y5 : Int64) (y7 : Int32) (Z : HS) => ((2147483647 : Int32).toInt - y7.toInt).toNat) (fun (y0 : Nat) (y1 : Int32) (y2 : Int32) (y3 : Int32) (y4 : Int32) (y5 : Int64) (y7 : Int32) (Z : HS) => (IV Z) ∧ (Gr S Z) ∧ (FRI [] [] S Z) ∧ (v0 = y0) ∧ (v1 = y1) ∧ (v2 = y2) ∧ (v3 = y3) ∧ (0 ≤ y7)) ?_ _ _ _ _ _ _ _ _ ⟨hI, (gr_rf _), (fri_rf _ _ _), rfl, rfl, rfl, rfl, (q1395 p_x2 bb_x2 c6 p_x11 bb_x11 c15 p_x19 bb_x19 c23 r_x25 c26)⟩
          intro w31 w33 w35 w37 w39 w40 w41 S28 X42 ⟨hI, gL29, fL30, q32, q34, q36, q38, i1u27⟩ ih43
          subst q32
          subst q34
          subst q36
          subst q38
          have d_x25 := d_x25.trans (fri_at fL30 (by decide) (by decide) o_a1).symm
          have ea1 := (frr_at fL30 (by decide) (by decide) o_v0).trans ea1
          have f0 := fri_tr (S := S) g0 f0 fL30 (by decide) (by decide)
          have o_a1 := gr_ob gL29 o_a1
          have o_v0 := gr_ob gL29 o_v0
          have g0 := gr_tr (T := S) g0 gL29
          refine u_X9_driest_63 ?_
          refine ⟨o_v0, ?_⟩
          refine ⟨a1, ea1, ?_⟩
          refine ⟨o_a1, ?_⟩
          intro x45 ex45
          have r_x45 : (0 : Int32) ≤ x45 ∧ x45 ≤ (6 : Int32) := by rw [ex45]; exact nu 11 rfl hI o_a1
          have q_x45 : x45 = x25 := ex45.trans d_x25.symm
          have d_x45 := ex45
          refine ⟨fun c46 => ?_, fun c46 => ?_⟩
          · refine u_X9_grant ?_
            refine u_X9_grant_0 ?_
            refine ⟨o_v0, ?_⟩
            intro S47 eS47
            have hI : IV S47 := by rw [eS47]; exact iv_sI hI o_v0 (by decide) (nu_free (by decide))
            have f0 := fr_I eS47 g0 f0 o_v0 (by decide)
            have d_x45 := rd_Ik eS47 o_v0 o_a1 (by decide) d_x45
            obtain ⟨y48, hy48⟩ : ∃ z : Int32, z = (0 : Int32) := ⟨_, rfl⟩
            have d_y48 := rd_Is eS47 hy48
            have ea1 := rf_I eS47 ea1
            have g0 := gr_I eS47 g0
            have o_a1 := ob_I eS47 o_a1
            have o_v0 := ob_I eS47 o_v0
            intro _
            exact hq _ _ hI g0 f0
          · refine ⟨a1, ea1, ?_⟩
            refine ⟨o_a1, ?_⟩
            obtain ⟨a51, ea51, o_a51, l_a51⟩ := shl 15 rfl hI o_a1
            refine ⟨a51, ea51, ?_⟩
            refine ⟨o_a51, ?_⟩
            have i53 : vp_in w41 (hN _ a51) := (vin l_a51 (m := 6) (by decide) (q1396 p_x2 bb_x2 c6 p_x11 bb_x11 c15 p_x19 bb_x19 c23 r_x25 c26 i1u27 r_x45 q_x45 c46))
            obtain ⟨a52, ea52, o_a52⟩ := ae hI o_a51 (by decide) (by decide) i53
            replace o_a52 : ob _ a52 3 := o_a52
            refine ⟨i53, a52, ea52, ?_⟩
            obtain ⟨a54, ea54, o_a54, -⟩ := sh 3 rfl hI o_v0
            refine ⟨a54, ea54, ?_⟩
            refine ⟨a1, ea1, ?_⟩
            refine ⟨o_a1, ?_⟩
            obtain ⟨a56, ea56, o_a56, l_a56⟩ := shl 18 rfl hI o_a1
            refine ⟨a56, ea56, ?_⟩
            refine ⟨o_a56, ?_⟩
            have i58 : vp_in v1 (hN _ a56) := (vin l_a56 (m := 4) (by decide) (q1397 p_x2 bb_x2 c6 p_x11 bb_x11 c15 p_x19 bb_x19 c23 r_x25 c26 i1u27 r_x45 q_x45 c46))
            obtain ⟨a57, ea57, o_a57⟩ := ae hI o_a56 (by decide) (by decide) i58
            replace o_a57 : ob _ a57 6 := o_a57
            refine ⟨i58, a57, ea57, ?_⟩
            refine ⟨a1, ea1, ?_⟩
            refine ⟨o_a1, ?_⟩
            obtain ⟨a60, ea60, o_a60, l_a60⟩ := shl 17 rfl hI o_a1
            refine ⟨a60, ea60, ?_⟩
            refine ⟨o_a60, ?_⟩
            have i62 : vp_in v2 (hN _ a60) := (vin l_a60 (m := 12) (by decide) (q1398 p_x2 bb_x2 c6 p_x11 bb_x11 c15 p_x19 bb_x19 c23 r_x25 c26 i1u27 r_x45 q_x45 c46))
            obtain ⟨a61, ea61, o_a61⟩ := ae hI o_a60 (by decide) (by decide) i62
            replace o_a61 : ob _ a61 5 := o_a61
            refine ⟨i62, a61, ea61, ?_⟩
            refine ⟨o_a54, ?_⟩
            refine m_X1_leastWet hI o_a54 o_a57 o_a61 o_a52 (fun x63 S64 hJ g65 fc66 => ?_)
            have hI := hJ
            have l_a51 := (gr_len g65 o_a51).trans l_a51
            have l_a56 := (gr_len g65 o_a56).trans l_a56
            have l_a60 := (gr_len g65 o_a60).trans l_a60
            have d_x45 := d_x45.trans (fri_at fc66 (by decide) (by decide) o_a1).symm
            have ea1 := (frr_at fc66 (by decide) (by decide) o_v0).trans ea1
            have ea51 := (frr_at fc66 (by decide) (by decide) o_a1).trans ea51
            have ea54 := (frr_at fc66 (by decide) (by decide) o_v0).trans ea54
            have ea56 := (frr_at fc66 (by decide) (by decide) o_a1).trans ea56
            have ea60 := (frr_at fc66 (by decide) (by decide) o_a1).trans ea60
            have f0 := fri_tr (S := S28) g0 f0 fc66 (by decide) (by decide)
            have fL30 := fri_tr (S := S28) gL29 fL30 fc66 (by decide) (by decide)
            have o_a1 := gr_ob g65 o_a1
            have o_a51 := gr_ob g65 o_a51
            have o_a52 := gr_ob g65 o_a52
            have o_a54 := gr_ob g65 o_a54
            have o_a56 := gr_ob g65 o_a56
            have o_a57 := gr_ob g65 o_a57
            have o_a60 := gr_ob g65 o_a60
            have o_a61 := gr_ob g65 o_a61
            have o_v0 := gr_ob g65 o_v0
            have g0 := gr_tr (T := S28) g0 g65
            have gL29 := gr_tr (T := S28) gL29 g65
            intro _
            refine ⟨o_a52, ?_⟩
            intro x67 ex67
            have d_x67 := ex67
            intro x68 ex68
            refine ⟨fun c69 => ?_, fun c69 => ?_⟩
            · refine u_X9_driest_140 ?_
              intro x70 ex70
              exact ih43 _ _ _ _ _ _ _ _ ⟨hI, gL29, fL30, rfl, rfl, rfl, rfl, (q1399 p_x2 bb_x2 c6 p_x11 bb_x11 c15 p_x19 bb_x19 c23 r_x25 c26 i1u27 r_x45 q_x45 c46 c69 ex70)⟩ (mu_up (q1400 p_x2 bb_x2 c6 p_x11 bb_x11 c15 p_x19 bb_x19 c23 r_x25 c26 i1u27 r_x45 q_x45 c46 c69 ex70) (q1401 p_x2 bb_x2 c6 p_x11 bb_x11 c15 p_x19 bb_x19 c23 r_x25 c26 i1u27 r_x45 q_x45 c46 c69 ex70))
            · refine u_X9_driest_140 ?_
              intro x71 ex71
              exact ih43 _ _ _ _ _ _ _ _ ⟨hI, gL29, fL30, rfl, rfl, rfl, rfl, (q1402 p_x2 bb_x2 c6 p_x11 bb_x11 c15 p_x19 bb_x19 c23 r_x25 c26 i1u27 r_x45 q_x45 c46 c69 ex71)⟩ (mu_up (q1403 p_x2 bb_x2 c6 p_x11 bb_x11 c15 p_x19 bb_x19 c23 r_x25 c26 i1u27 r_x45 q_x45 c46 c69 ex71) (q1404 p_x2 bb_x2 c6 p_x11 bb_x11 c15 p_x19 bb_x19 c23 r_x25 c26 i1u27 r_x45 q_x45 c46 c69 ex71))
        · refine u_X9_refuse ?_
          refine u_X9_refuse_0 ?_
          refine ⟨o_v0, ?_⟩
          intro S72 eS72
          have hI : IV S72 := by rw [eS72]; exact iv_sI hI o_v0 (by decide) (nu_free (by decide))
          have f0 := fr_I eS72 g0 f0 o_v0 (by decide)
          have d_x25 := rd_Ik eS72 o_v0 o_a1 (by decide) d_x25
          obtain ⟨y73, hy73⟩ : ∃ z : Int32, z = (6 : Int32) := ⟨_, rfl⟩
          have d_y73 := rd_Is eS72 hy73
          have ea1 := rf_I eS72 ea1
          have g0 := gr_I eS72 g0
          have o_a1 := ob_I eS72 o_a1
          have o_v0 := ob_I eS72 o_v0
          intro _
          exact hq _ _ hI g0 f0
      · refine u_X9_driest_29 ?_
        refine ⟨o_v0, ?_⟩
        refine u_X9_refuse ?_
        refine u_X9_refuse_0 ?_
        refine ⟨o_v0, ?_⟩
        intro S75 eS75
        have hI : IV S75 := by rw [eS75]; exact iv_sI hI o_v0 (by decide) (nu_free (by decide))
        have f0 := fr_I eS75 g0 f0 o_v0 (by decide)
        obtain ⟨y76, hy76⟩ : ∃ z : Int32, z = (1 : Int32) := ⟨_, rfl⟩
        have d_y76 := rd_Is eS75 hy76
        have ea1 := rf_I eS75 ea1
        have g0 := gr_I eS75 g0
        have o_a1 := ob_I eS75 o_a1
        have o_v0 := ob_I eS75 o_v0
        intro _
        exact hq _ _ hI g0 f0
end
section
set_option maxHeartbeats 4000000 in
set_option maxRecDepth 20000 in
theorem m_X9_even {v0 : Nat} {v1 : Int32} {v2 : Int32} {v3 : Int32} {v4 : Int32} {Q : Int32 → HS → Prop} {S : HS} (hI : IV S) (o_v0 : ob S v0 9)     (hq : ∀ (r : Int32) (T : HS), IV T → Gr S T → FRI [(9, 9)] [] S T → Q r T) : P_X9_even v0 v1 v2 v3 v4 Q S := by
  have g0 := gr_rf S
  have f0 := fri_rf [(9, 9)] [] S
  refine u_X9_even ?_
  refine u_X9_even_0 ?_
  refine ⟨o_v0, ?_⟩
  refine m_X9_tripTrouble hI o_v0 (fun x1 S2 hI2 g3 p_x1 => ?_)
  obtain ⟨z_S2, p_x1⟩ := p_x1
  subst z_S2
  intro _
  refine u_X9_refusedBy ?_
  refine u_X9_refusedBy_0 ?_
  refine ⟨o_v0, ?_⟩
  intro S5 eS5
  have hI : IV S5 := by rw [eS5]; exact iv_sI hI o_v0 (by decide) (nu_free (by decide))
  have f0 := fr_I eS5 g0 f0 o_v0 (by decide)
  have d_x1 := rd_Is eS5 (rfl : x1 = x1)
  have g0 := gr_I eS5 g0
  have o_v0 := ob_I eS5 o_v0
  refine ⟨fun c6 => ?_, fun c6 => ?_⟩
  · intro _ _
    refine ⟨fun c8 => ?_, fun c8 => ?_⟩
    · obtain ⟨a9, ea9, o_a9, -⟩ := sh 1 rfl hI o_v0
      refine ⟨a9, ea9, ?_⟩
      refine ⟨o_a9, ?_⟩
      obtain ⟨a10, ea10, o_a10, l_a10⟩ := shl 18 rfl hI o_a9
      refine ⟨a10, ea10, ?_⟩
      refine ⟨o_a10, ?_⟩
      have i12 : vp_in v1 (hN _ a10) := (vin l_a10 (m := 4) (by decide) (q0 p_x1 c6))
      obtain ⟨a11, ea11, o_a11⟩ := ae hI o_a10 (by decide) (by decide) i12
      replace o_a11 : ob _ a11 6 := o_a11
      refine ⟨i12, a11, ea11, ?_⟩
      obtain ⟨a13, ea13, o_a13, -⟩ := sh 3 rfl hI o_v0
      refine ⟨a13, ea13, ?_⟩
      refine ⟨a9, ea9, ?_⟩
      refine ⟨o_a9, ?_⟩
      obtain ⟨a15, ea15, o_a15, l_a15⟩ := shl 17 rfl hI o_a9
      refine ⟨a15, ea15, ?_⟩
      refine ⟨o_a15, ?_⟩
      have i17 : vp_in v2 (hN _ a15) := (vin l_a15 (m := 12) (by decide) (q1 p_x1 c6))
      obtain ⟨a16, ea16, o_a16⟩ := ae hI o_a15 (by decide) (by decide) i17
      replace o_a16 : ob _ a16 5 := o_a16
      refine ⟨i17, a16, ea16, ?_⟩
      refine ⟨a9, ea9, ?_⟩
      refine ⟨o_a9, ?_⟩
      obtain ⟨a19, ea19, o_a19, l_a19⟩ := shl 15 rfl hI o_a9
      refine ⟨a19, ea19, ?_⟩
      refine ⟨o_a19, ?_⟩
      have i21 : vp_in v4 (hN _ a19) := (vin l_a19 (m := 6) (by decide) (q2 p_x1 c6))
      obtain ⟨a20, ea20, o_a20⟩ := ae hI o_a19 (by decide) (by decide) i21
      replace o_a20 : ob _ a20 3 := o_a20
      refine ⟨i21, a20, ea20, ?_⟩
      refine ⟨o_a13, ?_⟩
      refine m_X1_worstSpeed hI o_a13 o_a11 o_a16 o_a20 (fun x22 S23 hJ g24 fc25 => ?_)
      have hI := hJ
      have l_a10 := (gr_len g24 o_a10).trans l_a10
      have l_a15 := (gr_len g24 o_a15).trans l_a15
      have l_a19 := (gr_len g24 o_a19).trans l_a19
      have d_x1 := d_x1.trans (fri_at fc25 (by decide) (by decide) o_v0).symm
      have ea9 := (frr_at fc25 (by decide) (by decide) o_v0).trans ea9
      have ea10 := (frr_at fc25 (by decide) (by decide) o_a9).trans ea10
      have ea13 := (frr_at fc25 (by decide) (by decide) o_v0).trans ea13
      have ea15 := (frr_at fc25 (by decide) (by decide) o_a9).trans ea15
      have ea19 := (frr_at fc25 (by decide) (by decide) o_a9).trans ea19
      have f0 := fri_tr (S := S5) g0 f0 fc25 (by decide) (by decide)
      have o_a10 := gr_ob g24 o_a10
      have o_a11 := gr_ob g24 o_a11
      have o_a13 := gr_ob g24 o_a13
      have o_a15 := gr_ob g24 o_a15
      have o_a16 := gr_ob g24 o_a16
      have o_a19 := gr_ob g24 o_a19
      have o_a20 := gr_ob g24 o_a20
      have o_a9 := gr_ob g24 o_a9
      have o_v0 := gr_ob g24 o_v0
      have g0 := gr_tr (T := S5) g0 g24
      intro _
      refine ⟨a13, ea13, ?_⟩
      refine ⟨a9, ea9, ?_⟩
      refine ⟨o_a9, ?_⟩
      refine ⟨a15, ea15, ?_⟩
      refine ⟨o_a15, ?_⟩
      have i30 : vp_in v2 (hN _ a15) := (vin l_a15 (m := 12) (by decide) (q1 p_x1 c6))
      obtain ⟨a29, ea29, o_a29⟩ := ae hI o_a15 (by decide) (by decide) i30
      replace o_a29 : ob _ a29 5 := o_a29
      refine ⟨i30, a29, ea29, ?_⟩
      refine ⟨a9, ea9, ?_⟩
      refine ⟨o_a9, ?_⟩
      refine ⟨a19, ea19, ?_⟩
      refine ⟨o_a19, ?_⟩
      have i34 : vp_in v4 (hN _ a19) := (vin l_a19 (m := 6) (by decide) (q2 p_x1 c6))
      obtain ⟨a33, ea33, o_a33⟩ := ae hI o_a19 (by decide) (by decide) i34
      replace o_a33 : ob _ a33 3 := o_a33
      refine ⟨i34, a33, ea33, ?_⟩
      refine ⟨o_a13, ?_⟩
      refine m_X1_leastWet hI o_a13 o_a11 o_a29 o_a33 (fun x35 S36 hJ g37 fc38 => ?_)
      have hI := hJ
      have l_a10 := (gr_len g37 o_a10).trans l_a10
      have l_a15 := (gr_len g37 o_a15).trans l_a15
      have l_a19 := (gr_len g37 o_a19).trans l_a19
      have d_x1 := d_x1.trans (fri_at fc38 (by decide) (by decide) o_v0).symm
      have ea9 := (frr_at fc38 (by decide) (by decide) o_v0).trans ea9
      have ea10 := (frr_at fc38 (by decide) (by decide) o_a9).trans ea10
      have ea13 := (frr_at fc38 (by decide) (by decide) o_v0).trans ea13
      have ea15 := (frr_at fc38 (by decide) (by decide) o_a9).trans ea15
      have ea19 := (frr_at fc38 (by decide) (by decide) o_a9).trans ea19
      have f0 := fri_tr (S := S23) g0 f0 fc38 (by decide) (by decide)
      have o_a10 := gr_ob g37 o_a10
      have o_a11 := gr_ob g37 o_a11
      have o_a13 := gr_ob g37 o_a13
      have o_a15 := gr_ob g37 o_a15
      have o_a16 := gr_ob g37 o_a16
      have o_a19 := gr_ob g37 o_a19
      have o_a20 := gr_ob g37 o_a20
      have o_a29 := gr_ob g37 o_a29
      have o_a33 := gr_ob g37 o_a33
      have o_a9 := gr_ob g37 o_a9
      have o_v0 := gr_ob g37 o_v0
      have g0 := gr_tr (T := S23) g0 g37
      intro _
      refine ⟨a13, ea13, ?_⟩
      refine ⟨a9, ea9, ?_⟩
      refine ⟨o_a9, ?_⟩
      refine ⟨a15, ea15, ?_⟩
      refine ⟨o_a15, ?_⟩
      have i43 : vp_in v2 (hN _ a15) := (vin l_a15 (m := 12) (by decide) (q1 p_x1 c6))
      obtain ⟨a42, ea42, o_a42⟩ := ae hI o_a15 (by decide) (by decide) i43
      replace o_a42 : ob _ a42 5 := o_a42
      refine ⟨i43, a42, ea42, ?_⟩
      refine ⟨a9, ea9, ?_⟩
      refine ⟨o_a9, ?_⟩
      refine ⟨a19, ea19, ?_⟩
      refine ⟨o_a19, ?_⟩
      have i47 : vp_in v4 (hN _ a19) := (vin l_a19 (m := 6) (by decide) (q2 p_x1 c6))
      obtain ⟨a46, ea46, o_a46⟩ := ae hI o_a19 (by decide) (by decide) i47
      replace o_a46 : ob _ a46 3 := o_a46
      refine ⟨i47, a46, ea46, ?_⟩
      refine ⟨o_a13, ?_⟩
      refine m_X1_wetOf hI o_a13 o_a11 o_a42 o_a46 (fun x48 S49 hJ g50 fc51 => ?_)
      have hI := hJ
      have l_a10 := (gr_len g50 o_a10).trans l_a10
      have l_a15 := (gr_len g50 o_a15).trans l_a15
      have l_a19 := (gr_len g50 o_a19).trans l_a19
      have d_x1 := d_x1.trans (fri_at fc51 (by decide) (by decide) o_v0).symm
      have ea9 := (frr_at fc51 (by decide) (by decide) o_v0).trans ea9
      have ea10 := (frr_at fc51 (by decide) (by decide) o_a9).trans ea10
      have ea13 := (frr_at fc51 (by decide) (by decide) o_v0).trans ea13
      have ea15 := (frr_at fc51 (by decide) (by decide) o_a9).trans ea15
      have ea19 := (frr_at fc51 (by decide) (by decide) o_a9).trans ea19
      have f0 := fri_tr (S := S36) g0 f0 fc51 (by decide) (by decide)
      have o_a10 := gr_ob g50 o_a10
      have o_a11 := gr_ob g50 o_a11
      have o_a13 := gr_ob g50 o_a13
      have o_a15 := gr_ob g50 o_a15
      have o_a16 := gr_ob g50 o_a16
      have o_a19 := gr_ob g50 o_a19
      have o_a20 := gr_ob g50 o_a20
      have o_a29 := gr_ob g50 o_a29
      have o_a33 := gr_ob g50 o_a33
      have o_a42 := gr_ob g50 o_a42
      have o_a46 := gr_ob g50 o_a46
      have o_a9 := gr_ob g50 o_a9
      have o_v0 := gr_ob g50 o_v0
      have g0 := gr_tr (T := S36) g0 g50
      intro _
      refine ⟨fun c52 => ?_, fun c52 => ?_⟩
      · exact hq _ _ hI g0 f0
      · exact hq _ _ hI g0 f0
    · exact hq _ _ hI g0 f0
  · intro _ _
    refine ⟨fun c54 => ?_, fun c54 => ?_⟩
    · obtain ⟨a55, ea55, o_a55, -⟩ := sh 1 rfl hI o_v0
      refine ⟨a55, ea55, ?_⟩
      refine ⟨o_a55, ?_⟩
      obtain ⟨a56, ea56, o_a56, l_a56⟩ := shl 18 rfl hI o_a55
      refine ⟨a56, ea56, ?_⟩
      refine ⟨o_a56, ?_⟩
      have i58 : vp_in v1 (hN _ a56) := (vin l_a56 (m := 4) (by decide) (q3 p_x1 c6 c54))
      obtain ⟨a57, ea57, o_a57⟩ := ae hI o_a56 (by decide) (by decide) i58
      replace o_a57 : ob _ a57 6 := o_a57
      refine ⟨i58, a57, ea57, ?_⟩
      obtain ⟨a59, ea59, o_a59, -⟩ := sh 3 rfl hI o_v0
      refine ⟨a59, ea59, ?_⟩
      refine ⟨a55, ea55, ?_⟩
      refine ⟨o_a55, ?_⟩
      obtain ⟨a61, ea61, o_a61, l_a61⟩ := shl 17 rfl hI o_a55
      refine ⟨a61, ea61, ?_⟩
      refine ⟨o_a61, ?_⟩
      have i63 : vp_in v2 (hN _ a61) := (vin l_a61 (m := 12) (by decide) (q4 p_x1 c6 c54))
      obtain ⟨a62, ea62, o_a62⟩ := ae hI o_a61 (by decide) (by decide) i63
      replace o_a62 : ob _ a62 5 := o_a62
      refine ⟨i63, a62, ea62, ?_⟩
      refine ⟨a55, ea55, ?_⟩
      refine ⟨o_a55, ?_⟩
      obtain ⟨a65, ea65, o_a65, l_a65⟩ := shl 15 rfl hI o_a55
      refine ⟨a65, ea65, ?_⟩
      refine ⟨o_a65, ?_⟩
      have i67 : vp_in v4 (hN _ a65) := (vin l_a65 (m := 6) (by decide) (q5 p_x1 c6 c54))
      obtain ⟨a66, ea66, o_a66⟩ := ae hI o_a65 (by decide) (by decide) i67
      replace o_a66 : ob _ a66 3 := o_a66
      refine ⟨i67, a66, ea66, ?_⟩
      refine ⟨o_a59, ?_⟩
      refine m_X1_worstSpeed hI o_a59 o_a57 o_a62 o_a66 (fun x68 S69 hJ g70 fc71 => ?_)
      have hI := hJ
      have l_a56 := (gr_len g70 o_a56).trans l_a56
      have l_a61 := (gr_len g70 o_a61).trans l_a61
      have l_a65 := (gr_len g70 o_a65).trans l_a65
      have d_x1 := d_x1.trans (fri_at fc71 (by decide) (by decide) o_v0).symm
      have ea55 := (frr_at fc71 (by decide) (by decide) o_v0).trans ea55
      have ea56 := (frr_at fc71 (by decide) (by decide) o_a55).trans ea56
      have ea59 := (frr_at fc71 (by decide) (by decide) o_v0).trans ea59
      have ea61 := (frr_at fc71 (by decide) (by decide) o_a55).trans ea61
      have ea65 := (frr_at fc71 (by decide) (by decide) o_a55).trans ea65
      have f0 := fri_tr (S := S5) g0 f0 fc71 (by decide) (by decide)
      have o_a55 := gr_ob g70 o_a55
      have o_a56 := gr_ob g70 o_a56
      have o_a57 := gr_ob g70 o_a57
      have o_a59 := gr_ob g70 o_a59
      have o_a61 := gr_ob g70 o_a61
      have o_a62 := gr_ob g70 o_a62
      have o_a65 := gr_ob g70 o_a65
      have o_a66 := gr_ob g70 o_a66
      have o_v0 := gr_ob g70 o_v0
      have g0 := gr_tr (T := S5) g0 g70
      intro _
      refine ⟨a59, ea59, ?_⟩
      refine ⟨a55, ea55, ?_⟩
      refine ⟨o_a55, ?_⟩
      refine ⟨a61, ea61, ?_⟩
      refine ⟨o_a61, ?_⟩
      have i76 : vp_in v2 (hN _ a61) := (vin l_a61 (m := 12) (by decide) (q4 p_x1 c6 c54))
      obtain ⟨a75, ea75, o_a75⟩ := ae hI o_a61 (by decide) (by decide) i76
      replace o_a75 : ob _ a75 5 := o_a75
      refine ⟨i76, a75, ea75, ?_⟩
      refine ⟨a55, ea55, ?_⟩
      refine ⟨o_a55, ?_⟩
      refine ⟨a65, ea65, ?_⟩
      refine ⟨o_a65, ?_⟩
      have i80 : vp_in v4 (hN _ a65) := (vin l_a65 (m := 6) (by decide) (q5 p_x1 c6 c54))
      obtain ⟨a79, ea79, o_a79⟩ := ae hI o_a65 (by decide) (by decide) i80
      replace o_a79 : ob _ a79 3 := o_a79
      refine ⟨i80, a79, ea79, ?_⟩
      refine ⟨o_a59, ?_⟩
      refine m_X1_leastWet hI o_a59 o_a57 o_a75 o_a79 (fun x81 S82 hJ g83 fc84 => ?_)
      have hI := hJ
      have l_a56 := (gr_len g83 o_a56).trans l_a56
      have l_a61 := (gr_len g83 o_a61).trans l_a61
      have l_a65 := (gr_len g83 o_a65).trans l_a65
      have d_x1 := d_x1.trans (fri_at fc84 (by decide) (by decide) o_v0).symm
      have ea55 := (frr_at fc84 (by decide) (by decide) o_v0).trans ea55
      have ea56 := (frr_at fc84 (by decide) (by decide) o_a55).trans ea56
      have ea59 := (frr_at fc84 (by decide) (by decide) o_v0).trans ea59
      have ea61 := (frr_at fc84 (by decide) (by decide) o_a55).trans ea61
      have ea65 := (frr_at fc84 (by decide) (by decide) o_a55).trans ea65
      have f0 := fri_tr (S := S69) g0 f0 fc84 (by decide) (by decide)
      have o_a55 := gr_ob g83 o_a55
      have o_a56 := gr_ob g83 o_a56
      have o_a57 := gr_ob g83 o_a57
      have o_a59 := gr_ob g83 o_a59
      have o_a61 := gr_ob g83 o_a61
      have o_a62 := gr_ob g83 o_a62
      have o_a65 := gr_ob g83 o_a65
      have o_a66 := gr_ob g83 o_a66
      have o_a75 := gr_ob g83 o_a75
      have o_a79 := gr_ob g83 o_a79
      have o_v0 := gr_ob g83 o_v0
      have g0 := gr_tr (T := S69) g0 g83
      intro _
      refine ⟨a59, ea59, ?_⟩
      refine ⟨a55, ea55, ?_⟩
      refine ⟨o_a55, ?_⟩
      refine ⟨a61, ea61, ?_⟩
      refine ⟨o_a61, ?_⟩
      have i89 : vp_in v2 (hN _ a61) := (vin l_a61 (m := 12) (by decide) (q4 p_x1 c6 c54))
      obtain ⟨a88, ea88, o_a88⟩ := ae hI o_a61 (by decide) (by decide) i89
      replace o_a88 : ob _ a88 5 := o_a88
      refine ⟨i89, a88, ea88, ?_⟩
      refine ⟨a55, ea55, ?_⟩
      refine ⟨o_a55, ?_⟩
      refine ⟨a65, ea65, ?_⟩
      refine ⟨o_a65, ?_⟩
      have i93 : vp_in v4 (hN _ a65) := (vin l_a65 (m := 6) (by decide) (q5 p_x1 c6 c54))
      obtain ⟨a92, ea92, o_a92⟩ := ae hI o_a65 (by decide) (by decide) i93
      replace o_a92 : ob _ a92 3 := o_a92
      refine ⟨i93, a92, ea92, ?_⟩
      refine ⟨o_a59, ?_⟩
      refine m_X1_wetOf hI o_a59 o_a57 o_a88 o_a92 (fun x94 S95 hJ g96 fc97 => ?_)
      have hI := hJ
      have l_a56 := (gr_len g96 o_a56).trans l_a56
      have l_a61 := (gr_len g96 o_a61).trans l_a61
      have l_a65 := (gr_len g96 o_a65).trans l_a65
      have d_x1 := d_x1.trans (fri_at fc97 (by decide) (by decide) o_v0).symm
      have ea55 := (frr_at fc97 (by decide) (by decide) o_v0).trans ea55
      have ea56 := (frr_at fc97 (by decide) (by decide) o_a55).trans ea56
      have ea59 := (frr_at fc97 (by decide) (by decide) o_v0).trans ea59
      have ea61 := (frr_at fc97 (by decide) (by decide) o_a55).trans ea61
      have ea65 := (frr_at fc97 (by decide) (by decide) o_a55).trans ea65
      have f0 := fri_tr (S := S82) g0 f0 fc97 (by decide) (by decide)
      have o_a55 := gr_ob g96 o_a55
      have o_a56 := gr_ob g96 o_a56
      have o_a57 := gr_ob g96 o_a57
      have o_a59 := gr_ob g96 o_a59
      have o_a61 := gr_ob g96 o_a61
      have o_a62 := gr_ob g96 o_a62
      have o_a65 := gr_ob g96 o_a65
      have o_a66 := gr_ob g96 o_a66
      have o_a75 := gr_ob g96 o_a75
      have o_a79 := gr_ob g96 o_a79
      have o_a88 := gr_ob g96 o_a88
      have o_a92 := gr_ob g96 o_a92
      have o_v0 := gr_ob g96 o_v0
      have g0 := gr_tr (T := S82) g0 g96
      intro _
      refine ⟨fun c98 => ?_, fun c98 => ?_⟩
      · exact hq _ _ hI g0 f0
      · exact hq _ _ hI g0 f0
    · exact hq _ _ hI g0 f0
set_option maxHeartbeats 4000000 in
set_option maxRecDepth 20000 in
theorem m_X9_fraction {v0 : Int64} {v2 : Int64} {v4 : Int32} {Q : Int64 → HS → Prop} {S : HS} (hI : IV S)      (hq : ∀ (r : Int64) (T : HS), IV T → Gr S T → (S = T) → Q r T) : P_X9_fraction v0 v2 v4 Q S := by
  have g0 := gr_rf S
  refine u_X9_fraction ?_
  refine u_X9_fraction_0 ?_
  refine m_X9_commonDivisor hI (fun x1 S2 hI2 g3 p_x1 => ?_)
  subst p_x1
  intro _
  refine ⟨fun c5 => ?_, fun c5 => ?_⟩
  · refine ⟨fun c6 => ?_, fun c6 => ?_⟩
    · refine ⟨(lc_gt c5), ?_⟩
      intro x7 ex7
      exact hq _ _ hI g0 rfl
    · refine ⟨(lc_gt c5), ?_⟩
      intro x8 ex8
      exact hq _ _ hI g0 rfl
  · refine ⟨fun c9 => ?_, fun c9 => ?_⟩
    · exact hq _ _ hI g0 rfl
    · exact hq _ _ hI g0 rfl
set_option maxHeartbeats 4000000 in
set_option maxRecDepth 20000 in
theorem m_X9_isFace {v0 : Int32} {Q : Int32 → HS → Prop} {S : HS} (hI : IV S)      (hq : ∀ (r : Int32) (T : HS), IV T → Gr S T → bl r → (S = T) ∧ (r = 1 → 0 ≤ v0 ∧ v0 < 5) → Q r T) : P_X9_isFace v0 Q S := by
  have g0 := gr_rf S
  refine u_X9_isFace ?_
  refine u_X9_isFace_0 ?_
  refine ⟨fun c1 => ?_, fun c1 => ?_⟩
  · exact hq _ _ hI g0 (Or.inl rfl) ⟨rfl, (q1360 c1)⟩
  · refine ⟨fun c2 => ?_, fun c2 => ?_⟩
    · exact hq _ _ hI g0 (Or.inl rfl) ⟨rfl, (q1361 c1 c2)⟩
    · exact hq _ _ hI g0 (Or.inr rfl) ⟨rfl, (q1362 c1 c2)⟩
set_option maxHeartbeats 4000000 in
set_option maxRecDepth 20000 in
theorem m_X9_legTrouble {v0 : Nat} {v1 : Int32} {v2 : Int32} {v3 : Int32} {v4 : Int32} {v5 : Int32} {Q : Int32 → HS → Prop} {S : HS} (hI : IV S) (o_v0 : ob S v0 9)     (hq : ∀ (r : Int32) (T : HS), IV T → Gr S T → (S = T) ∧ (r = 0 → 0 ≤ v1 ∧ v1 < 4 ∧ 0 ≤ v2 ∧ v2 < 12 ∧ 0 ≤ v4 ∧ v4 < 6) → Q r T) : P_X9_legTrouble v0 v1 v2 v3 v4 v5 Q S := by
  have g0 := gr_rf S
  refine u_X9_legTrouble ?_
  refine u_X9_legTrouble_0 ?_
  refine ⟨o_v0, ?_⟩
  refine m_X9_tripTrouble hI o_v0 (fun x1 S2 hI2 g3 p_x1 => ?_)
  obtain ⟨z_S2, p_x1⟩ := p_x1
  subst z_S2
  intro _
  refine ⟨fun c5 => ?_, fun c5 => ?_⟩
  · obtain ⟨a6, ea6, o_a6, -⟩ := sh 1 rfl hI o_v0
    refine ⟨a6, ea6, ?_⟩
    refine ⟨o_a6, ?_⟩
    obtain ⟨a7, ea7, o_a7, l_a7⟩ := shl 18 rfl hI o_a6
    refine ⟨a7, ea7, ?_⟩
    refine ⟨o_a7, ?_⟩
    have i9 : vp_in v1 (hN _ a7) := (vin l_a7 (m := 4) (by decide) (q0 p_x1 c5))
    obtain ⟨a8, ea8, o_a8⟩ := ae hI o_a7 (by decide) (by decide) i9
    replace o_a8 : ob _ a8 6 := o_a8
    refine ⟨i9, a8, ea8, ?_⟩
    refine ⟨o_a8, ?_⟩
    refine m_X6_canGo hI o_a8 (fun x10 S11 hI2 g12 b_x10 p_x10 => ?_)
    subst p_x10
    intro _ _
    have bb_x10 : x10 = 0 ∨ x10 = 1 := b_x10
    refine ⟨fun c14 => ?_, fun c14 => ?_⟩
    · exact hq _ _ hI g0 ⟨rfl, (q735 p_x1 c5 bb_x10 c14)⟩
    · exact hq _ _ hI g0 ⟨rfl, (q736 p_x1 c5 bb_x10 c14)⟩
  · exact hq _ _ hI g0 ⟨rfl, (q737 p_x1 c5)⟩
set_option maxHeartbeats 4000000 in
set_option maxRecDepth 20000 in
theorem m_X9_face {v0 : Nat} {v1 : Int32} {v2 : Int32} {v3 : Int32} {v4 : Int32} {v5 : Int32} {v6 : Int32} {v7 : Int32} {Q : Int64 → HS → Prop} {S : HS} (hI : IV S) (o_v0 : ob S v0 9)     (hq : ∀ (r : Int64) (T : HS), IV T → Gr S T → FRI [(9, 9)] [] S T → Q r T) : P_X9_face v0 v1 v2 v3 v4 v5 v6 v7 Q S := by
  have g0 := gr_rf S
  have f0 := fri_rf [(9, 9)] [] S
  refine u_X9_face ?_
  refine u_X9_face_0 ?_
  refine m_X9_isFace hI (fun x1 S2 hI2 g3 b_x1 p_x1 => ?_)
  obtain ⟨z_S2, p_x1⟩ := p_x1
  subst z_S2
  intro _ _
  have bb_x1 : x1 = 0 ∨ x1 = 1 := b_x1
  refine ⟨fun c5 => ?_, fun c5 => ?_⟩
  · refine u_X9_face_23 ?_
    refine ⟨o_v0, ?_⟩
    refine u_X9_refusedBy ?_
    refine u_X9_refusedBy_0 ?_
    refine ⟨o_v0, ?_⟩
    intro S6 eS6
    have hI : IV S6 := by rw [eS6]; exact iv_sI hI o_v0 (by decide) (nu_free (by decide))
    have f0 := fr_I eS6 g0 f0 o_v0 (by decide)
    obtain ⟨y7, hy7⟩ : ∃ z : Int32, z = (1 : Int32) := ⟨_, rfl⟩
    have d_y7 := rd_Is eS6 hy7
    have g0 := gr_I eS6 g0
    have o_v0 := ob_I eS6 o_v0
    refine ⟨fun c8 => ?_, fun c8 => ?_⟩
    · intro _ _
      refine ⟨fun c10 => ?_, fun c10 => ?_⟩
      · obtain ⟨a11, ea11, o_a11, -⟩ := sh 3 rfl hI o_v0
        refine ⟨a11, ea11, ?_⟩
        obtain ⟨a12, ea12, o_a12, -⟩ := sh 1 rfl hI o_v0
        refine ⟨a12, ea12, ?_⟩
        refine ⟨o_a12, ?_⟩
        obtain ⟨a13, ea13, o_a13, l_a13⟩ := shl 18 rfl hI o_a12
        refine ⟨a13, ea13, ?_⟩
        refine ⟨o_a13, ?_⟩
        have i15 : vp_in v1 (hN _ a13) := (vin l_a13 (m := 4) (by decide) (q1383 p_x1 bb_x1 c5 c8))
        obtain ⟨a14, ea14, o_a14⟩ := ae hI o_a13 (by decide) (by decide) i15
        replace o_a14 : ob _ a14 6 := o_a14
        refine ⟨i15, a14, ea14, ?_⟩
        refine ⟨a12, ea12, ?_⟩
        refine ⟨o_a12, ?_⟩
        obtain ⟨a17, ea17, o_a17, l_a17⟩ := shl 17 rfl hI o_a12
        refine ⟨a17, ea17, ?_⟩
        refine ⟨o_a17, ?_⟩
        have i19 : vp_in v2 (hN _ a17) := (vin l_a17 (m := 12) (by decide) (q1384 p_x1 bb_x1 c5 c8))
        obtain ⟨a18, ea18, o_a18⟩ := ae hI o_a17 (by decide) (by decide) i19
        replace o_a18 : ob _ a18 5 := o_a18
        refine ⟨i19, a18, ea18, ?_⟩
        refine ⟨a12, ea12, ?_⟩
        refine ⟨o_a12, ?_⟩
        obtain ⟨a21, ea21, o_a21, l_a21⟩ := shl 15 rfl hI o_a12
        refine ⟨a21, ea21, ?_⟩
        refine ⟨o_a21, ?_⟩
        have i23 : vp_in v4 (hN _ a21) := (vin l_a21 (m := 6) (by decide) (q1385 p_x1 bb_x1 c5 c8))
        obtain ⟨a22, ea22, o_a22⟩ := ae hI o_a21 (by decide) (by decide) i23
        replace o_a22 : ob _ a22 3 := o_a22
        refine ⟨i23, a22, ea22, ?_⟩
        refine ⟨o_a11, ?_⟩
        refine m_X1_wetOf hI o_a11 o_a14 o_a18 o_a22 (fun x24 S25 hJ g26 fc27 => ?_)
        have hI := hJ
        have l_a13 := (gr_len g26 o_a13).trans l_a13
        have l_a17 := (gr_len g26 o_a17).trans l_a17
        have l_a21 := (gr_len g26 o_a21).trans l_a21
        have d_y7 := d_y7.trans (fri_at fc27 (by decide) (by decide) o_v0).symm
        have ea11 := (frr_at fc27 (by decide) (by decide) o_v0).trans ea11
        have ea12 := (frr_at fc27 (by decide) (by decide) o_v0).trans ea12
        have ea13 := (frr_at fc27 (by decide) (by decide) o_a12).trans ea13
        have ea17 := (frr_at fc27 (by decide) (by decide) o_a12).trans ea17
        have ea21 := (frr_at fc27 (by decide) (by decide) o_a12).trans ea21
        have f0 := fri_tr (S := S6) g0 f0 fc27 (by decide) (by decide)
        have o_a11 := gr_ob g26 o_a11
        have o_a12 := gr_ob g26 o_a12
        have o_a13 := gr_ob g26 o_a13
        have o_a14 := gr_ob g26 o_a14
        have o_a17 := gr_ob g26 o_a17
        have o_a18 := gr_ob g26 o_a18
        have o_a21 := gr_ob g26 o_a21
        have o_a22 := gr_ob g26 o_a22
        have o_v0 := gr_ob g26 o_v0
        have g0 := gr_tr (T := S6) g0 g26
        intro _
        refine ⟨a11, ea11, ?_⟩
        refine ⟨o_a11, ?_⟩
        obtain ⟨a29, ea29, o_a29, l_a29⟩ := shl 9 rfl hI o_a11
        refine ⟨a29, ea29, ?_⟩
        refine ⟨o_a29, ?_⟩
        refine ⟨(vin l_a29 (m := 5) (by decide) (q1386 p_x1 bb_x1 c5 c8)), ?_⟩
        intro x30 ex30
        refine m_X9_fraction hI (fun x31 S32 hI2 g33 p_x31 => ?_)
        subst p_x31
        intro _
        exact hq _ _ hI g0 f0
      · exact hq _ _ hI g0 f0
    · intro _ _
      refine ⟨fun c36 => ?_, fun c36 => ?_⟩
      · obtain ⟨a37, ea37, o_a37, -⟩ := sh 3 rfl hI o_v0
        refine ⟨a37, ea37, ?_⟩
        obtain ⟨a38, ea38, o_a38, -⟩ := sh 1 rfl hI o_v0
        refine ⟨a38, ea38, ?_⟩
        refine ⟨o_a38, ?_⟩
        obtain ⟨a39, ea39, o_a39, l_a39⟩ := shl 18 rfl hI o_a38
        refine ⟨a39, ea39, ?_⟩
        refine ⟨o_a39, ?_⟩
        have i41 : vp_in v1 (hN _ a39) := (vin l_a39 (m := 4) (by decide) (q1383 p_x1 bb_x1 c5 c36))
        obtain ⟨a40, ea40, o_a40⟩ := ae hI o_a39 (by decide) (by decide) i41
        replace o_a40 : ob _ a40 6 := o_a40
        refine ⟨i41, a40, ea40, ?_⟩
        refine ⟨a38, ea38, ?_⟩
        refine ⟨o_a38, ?_⟩
        obtain ⟨a43, ea43, o_a43, l_a43⟩ := shl 17 rfl hI o_a38
        refine ⟨a43, ea43, ?_⟩
        refine ⟨o_a43, ?_⟩
        have i45 : vp_in v2 (hN _ a43) := (vin l_a43 (m := 12) (by decide) (q1384 p_x1 bb_x1 c5 c36))
        obtain ⟨a44, ea44, o_a44⟩ := ae hI o_a43 (by decide) (by decide) i45
        replace o_a44 : ob _ a44 5 := o_a44
        refine ⟨i45, a44, ea44, ?_⟩
        refine ⟨a38, ea38, ?_⟩
        refine ⟨o_a38, ?_⟩
        obtain ⟨a47, ea47, o_a47, l_a47⟩ := shl 15 rfl hI o_a38
        refine ⟨a47, ea47, ?_⟩
        refine ⟨o_a47, ?_⟩
        have i49 : vp_in v4 (hN _ a47) := (vin l_a47 (m := 6) (by decide) (q1385 p_x1 bb_x1 c5 c36))
        obtain ⟨a48, ea48, o_a48⟩ := ae hI o_a47 (by decide) (by decide) i49
        replace o_a48 : ob _ a48 3 := o_a48
        refine ⟨i49, a48, ea48, ?_⟩
        refine ⟨o_a37, ?_⟩
        refine m_X1_wetOf hI o_a37 o_a40 o_a44 o_a48 (fun x50 S51 hJ g52 fc53 => ?_)
        have hI := hJ
        have l_a39 := (gr_len g52 o_a39).trans l_a39
        have l_a43 := (gr_len g52 o_a43).trans l_a43
        have l_a47 := (gr_len g52 o_a47).trans l_a47
        have d_y7 := d_y7.trans (fri_at fc53 (by decide) (by decide) o_v0).symm
        have ea37 := (frr_at fc53 (by decide) (by decide) o_v0).trans ea37
        have ea38 := (frr_at fc53 (by decide) (by decide) o_v0).trans ea38
        have ea39 := (frr_at fc53 (by decide) (by decide) o_a38).trans ea39
        have ea43 := (frr_at fc53 (by decide) (by decide) o_a38).trans ea43
        have ea47 := (frr_at fc53 (by decide) (by decide) o_a38).trans ea47
        have f0 := fri_tr (S := S6) g0 f0 fc53 (by decide) (by decide)
        have o_a37 := gr_ob g52 o_a37
        have o_a38 := gr_ob g52 o_a38
        have o_a39 := gr_ob g52 o_a39
        have o_a40 := gr_ob g52 o_a40
        have o_a43 := gr_ob g52 o_a43
        have o_a44 := gr_ob g52 o_a44
        have o_a47 := gr_ob g52 o_a47
        have o_a48 := gr_ob g52 o_a48
        have o_v0 := gr_ob g52 o_v0
        have g0 := gr_tr (T := S6) g0 g52
        intro _
        refine ⟨a37, ea37, ?_⟩
        refine ⟨o_a37, ?_⟩
        obtain ⟨a55, ea55, o_a55, l_a55⟩ := shl 9 rfl hI o_a37
        refine ⟨a55, ea55, ?_⟩
        refine ⟨o_a55, ?_⟩
        refine ⟨(vin l_a55 (m := 5) (by decide) (q1386 p_x1 bb_x1 c5 c36)), ?_⟩
        intro x56 ex56
        refine m_X9_fraction hI (fun x57 S58 hI2 g59 p_x57 => ?_)
        subst p_x57
        intro _
        exact hq _ _ hI g0 f0
      · exact hq _ _ hI g0 f0
  · refine ⟨o_v0, ?_⟩
    refine m_X9_legTrouble hI o_v0 (fun x61 S62 hI2 g63 p_x61 => ?_)
    obtain ⟨z_S62, p_x61⟩ := p_x61
    subst z_S62
    intro _
    refine u_X9_face_23 ?_
    refine ⟨o_v0, ?_⟩
    refine u_X9_refusedBy ?_
    refine u_X9_refusedBy_0 ?_
    refine ⟨o_v0, ?_⟩
    intro S65 eS65
    have hI : IV S65 := by rw [eS65]; exact iv_sI hI o_v0 (by decide) (nu_free (by decide))
    have f0 := fr_I eS65 g0 f0 o_v0 (by decide)
    have d_x61 := rd_Is eS65 (rfl : x61 = x61)
    have g0 := gr_I eS65 g0
    have o_v0 := ob_I eS65 o_v0
    refine ⟨fun c66 => ?_, fun c66 => ?_⟩
    · intro _ _
      refine ⟨fun c68 => ?_, fun c68 => ?_⟩
      · obtain ⟨a69, ea69, o_a69, -⟩ := sh 3 rfl hI o_v0
        refine ⟨a69, ea69, ?_⟩
        obtain ⟨a70, ea70, o_a70, -⟩ := sh 1 rfl hI o_v0
        refine ⟨a70, ea70, ?_⟩
        refine ⟨o_a70, ?_⟩
        obtain ⟨a71, ea71, o_a71, l_a71⟩ := shl 18 rfl hI o_a70
        refine ⟨a71, ea71, ?_⟩
        refine ⟨o_a71, ?_⟩
        have i73 : vp_in v1 (hN _ a71) := (vin l_a71 (m := 4) (by decide) (q1387 p_x1 bb_x1 c5 p_x61 c66))
        obtain ⟨a72, ea72, o_a72⟩ := ae hI o_a71 (by decide) (by decide) i73
        replace o_a72 : ob _ a72 6 := o_a72
        refine ⟨i73, a72, ea72, ?_⟩
        refine ⟨a70, ea70, ?_⟩
        refine ⟨o_a70, ?_⟩
        obtain ⟨a75, ea75, o_a75, l_a75⟩ := shl 17 rfl hI o_a70
        refine ⟨a75, ea75, ?_⟩
        refine ⟨o_a75, ?_⟩
        have i77 : vp_in v2 (hN _ a75) := (vin l_a75 (m := 12) (by decide) (q1388 p_x1 bb_x1 c5 p_x61 c66))
        obtain ⟨a76, ea76, o_a76⟩ := ae hI o_a75 (by decide) (by decide) i77
        replace o_a76 : ob _ a76 5 := o_a76
        refine ⟨i77, a76, ea76, ?_⟩
        refine ⟨a70, ea70, ?_⟩
        refine ⟨o_a70, ?_⟩
        obtain ⟨a79, ea79, o_a79, l_a79⟩ := shl 15 rfl hI o_a70
        refine ⟨a79, ea79, ?_⟩
        refine ⟨o_a79, ?_⟩
        have i81 : vp_in v4 (hN _ a79) := (vin l_a79 (m := 6) (by decide) (q1389 p_x1 bb_x1 c5 p_x61 c66))
        obtain ⟨a80, ea80, o_a80⟩ := ae hI o_a79 (by decide) (by decide) i81
        replace o_a80 : ob _ a80 3 := o_a80
        refine ⟨i81, a80, ea80, ?_⟩
        refine ⟨o_a69, ?_⟩
        refine m_X1_wetOf hI o_a69 o_a72 o_a76 o_a80 (fun x82 S83 hJ g84 fc85 => ?_)
        have hI := hJ
        have l_a71 := (gr_len g84 o_a71).trans l_a71
        have l_a75 := (gr_len g84 o_a75).trans l_a75
        have l_a79 := (gr_len g84 o_a79).trans l_a79
        have d_x61 := d_x61.trans (fri_at fc85 (by decide) (by decide) o_v0).symm
        have ea69 := (frr_at fc85 (by decide) (by decide) o_v0).trans ea69
        have ea70 := (frr_at fc85 (by decide) (by decide) o_v0).trans ea70
        have ea71 := (frr_at fc85 (by decide) (by decide) o_a70).trans ea71
        have ea75 := (frr_at fc85 (by decide) (by decide) o_a70).trans ea75
        have ea79 := (frr_at fc85 (by decide) (by decide) o_a70).trans ea79
        have f0 := fri_tr (S := S65) g0 f0 fc85 (by decide) (by decide)
        have o_a69 := gr_ob g84 o_a69
        have o_a70 := gr_ob g84 o_a70
        have o_a71 := gr_ob g84 o_a71
        have o_a72 := gr_ob g84 o_a72
        have o_a75 := gr_ob g84 o_a75
        have o_a76 := gr_ob g84 o_a76
        have o_a79 := gr_ob g84 o_a79
        have o_a80 := gr_ob g84 o_a80
        have o_v0 := gr_ob g84 o_v0
        have g0 := gr_tr (T := S65) g0 g84
        intro _
        refine ⟨a69, ea69, ?_⟩
        refine ⟨o_a69, ?_⟩
        obtain ⟨a87, ea87, o_a87, l_a87⟩ := shl 9 rfl hI o_a69
        refine ⟨a87, ea87, ?_⟩
        refine ⟨o_a87, ?_⟩
        refine ⟨(vin l_a87 (m := 5) (by decide) (q1390 p_x1 bb_x1 c5 p_x61 c66)), ?_⟩
        intro x88 ex88
        refine m_X9_fraction hI (fun x89 S90 hI2 g91 p_x89 => ?_)
        subst p_x89
        intro _
        exact hq _ _ hI g0 f0
      · exact hq _ _ hI g0 f0
    · intro _ _
      refine ⟨fun c94 => ?_, fun c94 => ?_⟩
      · obtain ⟨a95, ea95, o_a95, -⟩ := sh 3 rfl hI o_v0
        refine ⟨a95, ea95, ?_⟩
        obtain ⟨a96, ea96, o_a96, -⟩ := sh 1 rfl hI o_v0
        refine ⟨a96, ea96, ?_⟩
        refine ⟨o_a96, ?_⟩
        obtain ⟨a97, ea97, o_a97, l_a97⟩ := shl 18 rfl hI o_a96
        refine ⟨a97, ea97, ?_⟩
        refine ⟨o_a97, ?_⟩
        have i99 : vp_in v1 (hN _ a97) := (vin l_a97 (m := 4) (by decide) (q1391 p_x1 bb_x1 c5 p_x61 c66 c94))
        obtain ⟨a98, ea98, o_a98⟩ := ae hI o_a97 (by decide) (by decide) i99
        replace o_a98 : ob _ a98 6 := o_a98
        refine ⟨i99, a98, ea98, ?_⟩
        refine ⟨a96, ea96, ?_⟩
        refine ⟨o_a96, ?_⟩
        obtain ⟨a101, ea101, o_a101, l_a101⟩ := shl 17 rfl hI o_a96
        refine ⟨a101, ea101, ?_⟩
        refine ⟨o_a101, ?_⟩
        have i103 : vp_in v2 (hN _ a101) := (vin l_a101 (m := 12) (by decide) (q1392 p_x1 bb_x1 c5 p_x61 c66 c94))
        obtain ⟨a102, ea102, o_a102⟩ := ae hI o_a101 (by decide) (by decide) i103
        replace o_a102 : ob _ a102 5 := o_a102
        refine ⟨i103, a102, ea102, ?_⟩
        refine ⟨a96, ea96, ?_⟩
        refine ⟨o_a96, ?_⟩
        obtain ⟨a105, ea105, o_a105, l_a105⟩ := shl 15 rfl hI o_a96
        refine ⟨a105, ea105, ?_⟩
        refine ⟨o_a105, ?_⟩
        have i107 : vp_in v4 (hN _ a105) := (vin l_a105 (m := 6) (by decide) (q1393 p_x1 bb_x1 c5 p_x61 c66 c94))
        obtain ⟨a106, ea106, o_a106⟩ := ae hI o_a105 (by decide) (by decide) i107
        replace o_a106 : ob _ a106 3 := o_a106
        refine ⟨i107, a106, ea106, ?_⟩
        refine ⟨o_a95, ?_⟩
        refine m_X1_wetOf hI o_a95 o_a98 o_a102 o_a106 (fun x108 S109 hJ g110 fc111 => ?_)
        have hI := hJ
        have l_a101 := (gr_len g110 o_a101).trans l_a101
        have l_a105 := (gr_len g110 o_a105).trans l_a105
        have l_a97 := (gr_len g110 o_a97).trans l_a97
        have d_x61 := d_x61.trans (fri_at fc111 (by decide) (by decide) o_v0).symm
        have ea95 := (frr_at fc111 (by decide) (by decide) o_v0).trans ea95
        have ea96 := (frr_at fc111 (by decide) (by decide) o_v0).trans ea96
        have ea97 := (frr_at fc111 (by decide) (by decide) o_a96).trans ea97
        have ea101 := (frr_at fc111 (by decide) (by decide) o_a96).trans ea101
        have ea105 := (frr_at fc111 (by decide) (by decide) o_a96).trans ea105
        have f0 := fri_tr (S := S65) g0 f0 fc111 (by decide) (by decide)
        have o_a101 := gr_ob g110 o_a101
        have o_a102 := gr_ob g110 o_a102
        have o_a105 := gr_ob g110 o_a105
        have o_a106 := gr_ob g110 o_a106
        have o_a95 := gr_ob g110 o_a95
        have o_a96 := gr_ob g110 o_a96
        have o_a97 := gr_ob g110 o_a97
        have o_a98 := gr_ob g110 o_a98
        have o_v0 := gr_ob g110 o_v0
        have g0 := gr_tr (T := S65) g0 g110
        intro _
        refine ⟨a95, ea95, ?_⟩
        refine ⟨o_a95, ?_⟩
        obtain ⟨a113, ea113, o_a113, l_a113⟩ := shl 9 rfl hI o_a95
        refine ⟨a113, ea113, ?_⟩
        refine ⟨o_a113, ?_⟩
        refine ⟨(vin l_a113 (m := 5) (by decide) (q1394 p_x1 bb_x1 c5 p_x61 c66 c94)), ?_⟩
        intro x114 ex114
        refine m_X9_fraction hI (fun x115 S116 hI2 g117 p_x115 => ?_)
        subst p_x115
        intro _
        exact hq _ _ hI g0 f0
      · exact hq _ _ hI g0 f0
set_option maxHeartbeats 4000000 in
set_option maxRecDepth 20000 in
theorem m_X9_fault {v0 : Nat} {Q : Int32 → HS → Prop} {S : HS} (hI : IV S) (o_v0 : ob S v0 9)     (hq : ∀ (r : Int32) (T : HS), IV T → Gr S T → (S = T) → Q r T) : P_X9_fault v0 Q S := by
  have g0 := gr_rf S
  refine u_X9_fault ?_
  refine u_X9_fault_0 ?_
  refine ⟨o_v0, ?_⟩
  intro x1 ex1
  have d_x1 := ex1
  exact hq _ _ hI g0 rfl
set_option maxHeartbeats 4000000 in
set_option maxRecDepth 20000 in
theorem m_X9_leeTrouble {v0 : Nat} {v1 : Int32} {v2 : Int32} {v3 : Int32} {v4 : Int32} {v5 : Int32} {v6 : Int32} {Q : Int32 → HS → Prop} {S : HS} (hI : IV S) (o_v0 : ob S v0 9)     (hq : ∀ (r : Int32) (T : HS), IV T → Gr S T → (S = T) ∧ (r = 0 → 0 ≤ v1 ∧ v1 < 4 ∧ 0 ≤ v2 ∧ v2 < 4 ∧ 0 ≤ v3 ∧ v3 < 12 ∧ 0 ≤ v5 ∧ v5 < 6) → Q r T) : P_X9_leeTrouble v0 v1 v2 v3 v4 v5 v6 Q S := by
  have g0 := gr_rf S
  refine u_X9_leeTrouble ?_
  refine u_X9_leeTrouble_0 ?_
  refine ⟨fun c1 => ?_, fun c1 => ?_⟩
  · exact hq _ _ hI g0 ⟨rfl, (q1345 c1)⟩
  · refine ⟨o_v0, ?_⟩
    obtain ⟨a2, ea2, o_a2, -⟩ := sh 1 rfl hI o_v0
    refine ⟨a2, ea2, ?_⟩
    refine ⟨o_a2, ?_⟩
    refine m_X8_hasWalker hI o_a2 (fun x3 S4 hI2 g5 b_x3 p_x3 => ?_)
    obtain ⟨z_S4, p_x3⟩ := p_x3
    subst z_S4
    intro _ _
    have bb_x3 : x3 = 0 ∨ x3 = 1 := b_x3
    refine ⟨fun c7 => ?_, fun c7 => ?_⟩
    · exact hq _ _ hI g0 ⟨rfl, (q1346 c1 p_x3 bb_x3 c7)⟩
    · refine ⟨a2, ea2, ?_⟩
      refine ⟨o_a2, ?_⟩
      refine m_X8_hasWalker hI o_a2 (fun x9 S10 hI2 g11 b_x9 p_x9 => ?_)
      obtain ⟨z_S10, p_x9⟩ := p_x9
      subst z_S10
      intro _ _
      have bb_x9 : x9 = 0 ∨ x9 = 1 := b_x9
      refine ⟨fun c13 => ?_, fun c13 => ?_⟩
      · refine m_X9_legTrouble hI o_v0 (fun x14 S15 hI2 g16 p_x14 => ?_)
        obtain ⟨z_S15, p_x14⟩ := p_x14
        subst z_S15
        intro _
        refine ⟨fun c18 => ?_, fun c18 => ?_⟩
        · refine ⟨a2, ea2, ?_⟩
          refine ⟨o_a2, ?_⟩
          obtain ⟨a20, ea20, o_a20, l_a20⟩ := shl 18 rfl hI o_a2
          refine ⟨a20, ea20, ?_⟩
          refine ⟨o_a20, ?_⟩
          have i22 : vp_in v2 (hN _ a20) := (vin l_a20 (m := 4) (by decide) (q1347 c1 p_x3 bb_x3 c7 p_x9 bb_x9 c13 p_x14 c18))
          obtain ⟨a21, ea21, o_a21⟩ := ae hI o_a20 (by decide) (by decide) i22
          replace o_a21 : ob _ a21 6 := o_a21
          refine ⟨i22, a21, ea21, ?_⟩
          refine ⟨o_a21, ?_⟩
          refine m_X6_canGo hI o_a21 (fun x23 S24 hI2 g25 b_x23 p_x23 => ?_)
          subst p_x23
          intro _ _
          have bb_x23 : x23 = 0 ∨ x23 = 1 := b_x23
          refine ⟨fun c27 => ?_, fun c27 => ?_⟩
          · exact hq _ _ hI g0 ⟨rfl, (q1348 c1 p_x3 bb_x3 c7 p_x9 bb_x9 c13 p_x14 c18 bb_x23 c27)⟩
          · exact hq _ _ hI g0 ⟨rfl, (q1349 c1 p_x3 bb_x3 c7 p_x9 bb_x9 c13 p_x14 c18 bb_x23 c27)⟩
        · exact hq _ _ hI g0 ⟨rfl, (q1350 c1 p_x3 bb_x3 c7 p_x9 bb_x9 c13 p_x14 c18)⟩
      · exact hq _ _ hI g0 ⟨rfl, (q1351 c1 p_x3 bb_x3 c7 p_x9 bb_x9 c13)⟩
end
section
set_option maxHeartbeats 4000000 in
set_option maxRecDepth 20000 in
theorem m_X9_first {v0 : Nat} {v1 : Int32} {v2 : Int32} {v3 : Int32} {v4 : Int32} {v5 : Int32} {v6 : Int32} {Q : Int32 → HS → Prop} {S : HS} (hI : IV S) (o_v0 : ob S v0 9)     (hq : ∀ (r : Int32) (T : HS), IV T → Gr S T → FRI [(9, 9)] [] S T → Q r T) : P_X9_first v0 v1 v2 v3 v4 v5 v6 Q S := by
  have g0 := gr_rf S
  have f0 := fri_rf [(9, 9)] [] S
  refine u_X9_first ?_
  refine u_X9_first_0 ?_
  refine ⟨o_v0, ?_⟩
  refine m_X9_leeTrouble hI o_v0 (fun x1 S2 hI2 g3 p_x1 => ?_)
  obtain ⟨z_S2, p_x1⟩ := p_x1
  subst z_S2
  intro _
  refine u_X9_refusedBy ?_
  refine u_X9_refusedBy_0 ?_
  refine ⟨o_v0, ?_⟩
  intro S5 eS5
  have hI : IV S5 := by rw [eS5]; exact iv_sI hI o_v0 (by decide) (nu_free (by decide))
  have f0 := fr_I eS5 g0 f0 o_v0 (by decide)
  have d_x1 := rd_Is eS5 (rfl : x1 = x1)
  have g0 := gr_I eS5 g0
  have o_v0 := ob_I eS5 o_v0
  refine ⟨fun c6 => ?_, fun c6 => ?_⟩
  · intro _ _
    refine ⟨fun c8 => ?_, fun c8 => ?_⟩
    · obtain ⟨a9, ea9, o_a9, -⟩ := sh 3 rfl hI o_v0
      refine ⟨a9, ea9, ?_⟩
      obtain ⟨a10, ea10, o_a10, -⟩ := sh 1 rfl hI o_v0
      refine ⟨a10, ea10, ?_⟩
      refine ⟨o_a10, ?_⟩
      obtain ⟨a11, ea11, o_a11, l_a11⟩ := shl 17 rfl hI o_a10
      refine ⟨a11, ea11, ?_⟩
      refine ⟨o_a11, ?_⟩
      have i13 : vp_in v3 (hN _ a11) := (vin l_a11 (m := 12) (by decide) (q1352 p_x1 c6))
      obtain ⟨a12, ea12, o_a12⟩ := ae hI o_a11 (by decide) (by decide) i13
      replace o_a12 : ob _ a12 5 := o_a12
      refine ⟨i13, a12, ea12, ?_⟩
      refine ⟨a10, ea10, ?_⟩
      refine ⟨o_a10, ?_⟩
      obtain ⟨a15, ea15, o_a15, l_a15⟩ := shl 15 rfl hI o_a10
      refine ⟨a15, ea15, ?_⟩
      refine ⟨o_a15, ?_⟩
      have i17 : vp_in v5 (hN _ a15) := (vin l_a15 (m := 6) (by decide) (q1353 p_x1 c6))
      obtain ⟨a16, ea16, o_a16⟩ := ae hI o_a15 (by decide) (by decide) i17
      replace o_a16 : ob _ a16 3 := o_a16
      refine ⟨i17, a16, ea16, ?_⟩
      refine ⟨o_a9, ?_⟩
      refine m_X1_lay hI o_a9 o_a12 o_a16 (fun S19 hJ g20 fc21 => ?_)
      have hI := hJ
      have l_a11 := (gr_len g20 o_a11).trans l_a11
      have l_a15 := (gr_len g20 o_a15).trans l_a15
      have d_x1 := d_x1.trans (fri_at fc21 (by decide) (by decide) o_v0).symm
      have ea9 := (frr_at fc21 (by decide) (by decide) o_v0).trans ea9
      have ea10 := (frr_at fc21 (by decide) (by decide) o_v0).trans ea10
      have ea11 := (frr_at fc21 (by decide) (by decide) o_a10).trans ea11
      have ea15 := (frr_at fc21 (by decide) (by decide) o_a10).trans ea15
      have f0 := fri_tr (S := S5) g0 f0 fc21 (by decide) (by decide)
      have o_a10 := gr_ob g20 o_a10
      have o_a11 := gr_ob g20 o_a11
      have o_a12 := gr_ob g20 o_a12
      have o_a15 := gr_ob g20 o_a15
      have o_a16 := gr_ob g20 o_a16
      have o_a9 := gr_ob g20 o_a9
      have o_v0 := gr_ob g20 o_v0
      have g0 := gr_tr (T := S5) g0 g20
      intro _
      refine ⟨a9, ea9, ?_⟩
      refine ⟨a10, ea10, ?_⟩
      refine ⟨o_a10, ?_⟩
      obtain ⟨a24, ea24, o_a24, l_a24⟩ := shl 18 rfl hI o_a10
      refine ⟨a24, ea24, ?_⟩
      refine ⟨o_a24, ?_⟩
      have i26 : vp_in v1 (hN _ a24) := (vin l_a24 (m := 4) (by decide) (q1354 p_x1 c6))
      obtain ⟨a25, ea25, o_a25⟩ := ae hI o_a24 (by decide) (by decide) i26
      replace o_a25 : ob _ a25 6 := o_a25
      refine ⟨i26, a25, ea25, ?_⟩
      refine ⟨a10, ea10, ?_⟩
      refine ⟨o_a10, ?_⟩
      refine ⟨a24, ea24, ?_⟩
      refine ⟨o_a24, ?_⟩
      have i30 : vp_in v2 (hN _ a24) := (vin l_a24 (m := 4) (by decide) (q1355 p_x1 c6))
      obtain ⟨a29, ea29, o_a29⟩ := ae hI o_a24 (by decide) (by decide) i30
      replace o_a29 : ob _ a29 6 := o_a29
      refine ⟨i30, a29, ea29, ?_⟩
      refine ⟨o_a9, ?_⟩
      refine m_X1_wetInLee hI o_a9 o_a25 o_a29 (fun x31 S32 hJ g33 fc34 => ?_)
      have hI := hJ
      have l_a11 := (gr_len g33 o_a11).trans l_a11
      have l_a15 := (gr_len g33 o_a15).trans l_a15
      have l_a24 := (gr_len g33 o_a24).trans l_a24
      have d_x1 := d_x1.trans (fri_at fc34 (by decide) (by decide) o_v0).symm
      have ea9 := (frr_at fc34 (by decide) (by decide) o_v0).trans ea9
      have ea10 := (frr_at fc34 (by decide) (by decide) o_v0).trans ea10
      have ea11 := (frr_at fc34 (by decide) (by decide) o_a10).trans ea11
      have ea15 := (frr_at fc34 (by decide) (by decide) o_a10).trans ea15
      have ea24 := (frr_at fc34 (by decide) (by decide) o_a10).trans ea24
      have f0 := fri_tr (S := S19) g0 f0 fc34 (by decide) (by decide)
      have o_a10 := gr_ob g33 o_a10
      have o_a11 := gr_ob g33 o_a11
      have o_a12 := gr_ob g33 o_a12
      have o_a15 := gr_ob g33 o_a15
      have o_a16 := gr_ob g33 o_a16
      have o_a24 := gr_ob g33 o_a24
      have o_a25 := gr_ob g33 o_a25
      have o_a29 := gr_ob g33 o_a29
      have o_a9 := gr_ob g33 o_a9
      have o_v0 := gr_ob g33 o_v0
      have g0 := gr_tr (T := S19) g0 g33
      intro _
      refine ⟨a9, ea9, ?_⟩
      refine ⟨a10, ea10, ?_⟩
      refine ⟨o_a10, ?_⟩
      refine ⟨a24, ea24, ?_⟩
      refine ⟨o_a24, ?_⟩
      have i39 : vp_in v2 (hN _ a24) := (vin l_a24 (m := 4) (by decide) (q1355 p_x1 c6))
      obtain ⟨a38, ea38, o_a38⟩ := ae hI o_a24 (by decide) (by decide) i39
      replace o_a38 : ob _ a38 6 := o_a38
      refine ⟨i39, a38, ea38, ?_⟩
      refine ⟨a10, ea10, ?_⟩
      refine ⟨o_a10, ?_⟩
      refine ⟨a24, ea24, ?_⟩
      refine ⟨o_a24, ?_⟩
      have i43 : vp_in v1 (hN _ a24) := (vin l_a24 (m := 4) (by decide) (q1354 p_x1 c6))
      obtain ⟨a42, ea42, o_a42⟩ := ae hI o_a24 (by decide) (by decide) i43
      replace o_a42 : ob _ a42 6 := o_a42
      refine ⟨i43, a42, ea42, ?_⟩
      refine ⟨o_a9, ?_⟩
      refine m_X1_wetInLee hI o_a9 o_a38 o_a42 (fun x44 S45 hJ g46 fc47 => ?_)
      have hI := hJ
      have l_a11 := (gr_len g46 o_a11).trans l_a11
      have l_a15 := (gr_len g46 o_a15).trans l_a15
      have l_a24 := (gr_len g46 o_a24).trans l_a24
      have d_x1 := d_x1.trans (fri_at fc47 (by decide) (by decide) o_v0).symm
      have ea9 := (frr_at fc47 (by decide) (by decide) o_v0).trans ea9
      have ea10 := (frr_at fc47 (by decide) (by decide) o_v0).trans ea10
      have ea11 := (frr_at fc47 (by decide) (by decide) o_a10).trans ea11
      have ea15 := (frr_at fc47 (by decide) (by decide) o_a10).trans ea15
      have ea24 := (frr_at fc47 (by decide) (by decide) o_a10).trans ea24
      have f0 := fri_tr (S := S32) g0 f0 fc47 (by decide) (by decide)
      have o_a10 := gr_ob g46 o_a10
      have o_a11 := gr_ob g46 o_a11
      have o_a12 := gr_ob g46 o_a12
      have o_a15 := gr_ob g46 o_a15
      have o_a16 := gr_ob g46 o_a16
      have o_a24 := gr_ob g46 o_a24
      have o_a25 := gr_ob g46 o_a25
      have o_a29 := gr_ob g46 o_a29
      have o_a38 := gr_ob g46 o_a38
      have o_a42 := gr_ob g46 o_a42
      have o_a9 := gr_ob g46 o_a9
      have o_v0 := gr_ob g46 o_v0
      have g0 := gr_tr (T := S32) g0 g46
      intro _
      refine ⟨fun c48 => ?_, fun c48 => ?_⟩
      · refine ⟨fun c49 => ?_, fun c49 => ?_⟩
        · exact hq _ _ hI g0 f0
        · exact hq _ _ hI g0 f0
      · exact hq _ _ hI g0 f0
    · exact hq _ _ hI g0 f0
  · intro _ _
    refine ⟨fun c51 => ?_, fun c51 => ?_⟩
    · obtain ⟨a52, ea52, o_a52, -⟩ := sh 3 rfl hI o_v0
      refine ⟨a52, ea52, ?_⟩
      obtain ⟨a53, ea53, o_a53, -⟩ := sh 1 rfl hI o_v0
      refine ⟨a53, ea53, ?_⟩
      refine ⟨o_a53, ?_⟩
      obtain ⟨a54, ea54, o_a54, l_a54⟩ := shl 17 rfl hI o_a53
      refine ⟨a54, ea54, ?_⟩
      refine ⟨o_a54, ?_⟩
      have i56 : vp_in v3 (hN _ a54) := (vin l_a54 (m := 12) (by decide) (q1356 p_x1 c6 c51))
      obtain ⟨a55, ea55, o_a55⟩ := ae hI o_a54 (by decide) (by decide) i56
      replace o_a55 : ob _ a55 5 := o_a55
      refine ⟨i56, a55, ea55, ?_⟩
      refine ⟨a53, ea53, ?_⟩
      refine ⟨o_a53, ?_⟩
      obtain ⟨a58, ea58, o_a58, l_a58⟩ := shl 15 rfl hI o_a53
      refine ⟨a58, ea58, ?_⟩
      refine ⟨o_a58, ?_⟩
      have i60 : vp_in v5 (hN _ a58) := (vin l_a58 (m := 6) (by decide) (q1357 p_x1 c6 c51))
      obtain ⟨a59, ea59, o_a59⟩ := ae hI o_a58 (by decide) (by decide) i60
      replace o_a59 : ob _ a59 3 := o_a59
      refine ⟨i60, a59, ea59, ?_⟩
      refine ⟨o_a52, ?_⟩
      refine m_X1_lay hI o_a52 o_a55 o_a59 (fun S62 hJ g63 fc64 => ?_)
      have hI := hJ
      have l_a54 := (gr_len g63 o_a54).trans l_a54
      have l_a58 := (gr_len g63 o_a58).trans l_a58
      have d_x1 := d_x1.trans (fri_at fc64 (by decide) (by decide) o_v0).symm
      have ea52 := (frr_at fc64 (by decide) (by decide) o_v0).trans ea52
      have ea53 := (frr_at fc64 (by decide) (by decide) o_v0).trans ea53
      have ea54 := (frr_at fc64 (by decide) (by decide) o_a53).trans ea54
      have ea58 := (frr_at fc64 (by decide) (by decide) o_a53).trans ea58
      have f0 := fri_tr (S := S5) g0 f0 fc64 (by decide) (by decide)
      have o_a52 := gr_ob g63 o_a52
      have o_a53 := gr_ob g63 o_a53
      have o_a54 := gr_ob g63 o_a54
      have o_a55 := gr_ob g63 o_a55
      have o_a58 := gr_ob g63 o_a58
      have o_a59 := gr_ob g63 o_a59
      have o_v0 := gr_ob g63 o_v0
      have g0 := gr_tr (T := S5) g0 g63
      intro _
      refine ⟨a52, ea52, ?_⟩
      refine ⟨a53, ea53, ?_⟩
      refine ⟨o_a53, ?_⟩
      obtain ⟨a67, ea67, o_a67, l_a67⟩ := shl 18 rfl hI o_a53
      refine ⟨a67, ea67, ?_⟩
      refine ⟨o_a67, ?_⟩
      have i69 : vp_in v1 (hN _ a67) := (vin l_a67 (m := 4) (by decide) (q1358 p_x1 c6 c51))
      obtain ⟨a68, ea68, o_a68⟩ := ae hI o_a67 (by decide) (by decide) i69
      replace o_a68 : ob _ a68 6 := o_a68
      refine ⟨i69, a68, ea68, ?_⟩
      refine ⟨a53, ea53, ?_⟩
      refine ⟨o_a53, ?_⟩
      refine ⟨a67, ea67, ?_⟩
      refine ⟨o_a67, ?_⟩
      have i73 : vp_in v2 (hN _ a67) := (vin l_a67 (m := 4) (by decide) (q1359 p_x1 c6 c51))
      obtain ⟨a72, ea72, o_a72⟩ := ae hI o_a67 (by decide) (by decide) i73
      replace o_a72 : ob _ a72 6 := o_a72
      refine ⟨i73, a72, ea72, ?_⟩
      refine ⟨o_a52, ?_⟩
      refine m_X1_wetInLee hI o_a52 o_a68 o_a72 (fun x74 S75 hJ g76 fc77 => ?_)
      have hI := hJ
      have l_a54 := (gr_len g76 o_a54).trans l_a54
      have l_a58 := (gr_len g76 o_a58).trans l_a58
      have l_a67 := (gr_len g76 o_a67).trans l_a67
      have d_x1 := d_x1.trans (fri_at fc77 (by decide) (by decide) o_v0).symm
      have ea52 := (frr_at fc77 (by decide) (by decide) o_v0).trans ea52
      have ea53 := (frr_at fc77 (by decide) (by decide) o_v0).trans ea53
      have ea54 := (frr_at fc77 (by decide) (by decide) o_a53).trans ea54
      have ea58 := (frr_at fc77 (by decide) (by decide) o_a53).trans ea58
      have ea67 := (frr_at fc77 (by decide) (by decide) o_a53).trans ea67
      have f0 := fri_tr (S := S62) g0 f0 fc77 (by decide) (by decide)
      have o_a52 := gr_ob g76 o_a52
      have o_a53 := gr_ob g76 o_a53
      have o_a54 := gr_ob g76 o_a54
      have o_a55 := gr_ob g76 o_a55
      have o_a58 := gr_ob g76 o_a58
      have o_a59 := gr_ob g76 o_a59
      have o_a67 := gr_ob g76 o_a67
      have o_a68 := gr_ob g76 o_a68
      have o_a72 := gr_ob g76 o_a72
      have o_v0 := gr_ob g76 o_v0
      have g0 := gr_tr (T := S62) g0 g76
      intro _
      refine ⟨a52, ea52, ?_⟩
      refine ⟨a53, ea53, ?_⟩
      refine ⟨o_a53, ?_⟩
      refine ⟨a67, ea67, ?_⟩
      refine ⟨o_a67, ?_⟩
      have i82 : vp_in v2 (hN _ a67) := (vin l_a67 (m := 4) (by decide) (q1359 p_x1 c6 c51))
      obtain ⟨a81, ea81, o_a81⟩ := ae hI o_a67 (by decide) (by decide) i82
      replace o_a81 : ob _ a81 6 := o_a81
      refine ⟨i82, a81, ea81, ?_⟩
      refine ⟨a53, ea53, ?_⟩
      refine ⟨o_a53, ?_⟩
      refine ⟨a67, ea67, ?_⟩
      refine ⟨o_a67, ?_⟩
      have i86 : vp_in v1 (hN _ a67) := (vin l_a67 (m := 4) (by decide) (q1358 p_x1 c6 c51))
      obtain ⟨a85, ea85, o_a85⟩ := ae hI o_a67 (by decide) (by decide) i86
      replace o_a85 : ob _ a85 6 := o_a85
      refine ⟨i86, a85, ea85, ?_⟩
      refine ⟨o_a52, ?_⟩
      refine m_X1_wetInLee hI o_a52 o_a81 o_a85 (fun x87 S88 hJ g89 fc90 => ?_)
      have hI := hJ
      have l_a54 := (gr_len g89 o_a54).trans l_a54
      have l_a58 := (gr_len g89 o_a58).trans l_a58
      have l_a67 := (gr_len g89 o_a67).trans l_a67
      have d_x1 := d_x1.trans (fri_at fc90 (by decide) (by decide) o_v0).symm
      have ea52 := (frr_at fc90 (by decide) (by decide) o_v0).trans ea52
      have ea53 := (frr_at fc90 (by decide) (by decide) o_v0).trans ea53
      have ea54 := (frr_at fc90 (by decide) (by decide) o_a53).trans ea54
      have ea58 := (frr_at fc90 (by decide) (by decide) o_a53).trans ea58
      have ea67 := (frr_at fc90 (by decide) (by decide) o_a53).trans ea67
      have f0 := fri_tr (S := S75) g0 f0 fc90 (by decide) (by decide)
      have o_a52 := gr_ob g89 o_a52
      have o_a53 := gr_ob g89 o_a53
      have o_a54 := gr_ob g89 o_a54
      have o_a55 := gr_ob g89 o_a55
      have o_a58 := gr_ob g89 o_a58
      have o_a59 := gr_ob g89 o_a59
      have o_a67 := gr_ob g89 o_a67
      have o_a68 := gr_ob g89 o_a68
      have o_a72 := gr_ob g89 o_a72
      have o_a81 := gr_ob g89 o_a81
      have o_a85 := gr_ob g89 o_a85
      have o_v0 := gr_ob g89 o_v0
      have g0 := gr_tr (T := S75) g0 g89
      intro _
      refine ⟨fun c91 => ?_, fun c91 => ?_⟩
      · refine ⟨fun c92 => ?_, fun c92 => ?_⟩
        · exact hq _ _ hI g0 f0
        · exact hq _ _ hI g0 f0
      · exact hq _ _ hI g0 f0
    · exact hq _ _ hI g0 f0
set_option maxHeartbeats 4000000 in
set_option maxRecDepth 20000 in
theorem m_X9_fit {v0 : Nat} {v1 : Int32} {v2 : Int32} {Q : Int32 → HS → Prop} {S : HS} (hI : IV S) (o_v0 : ob S v0 9)     (hq : ∀ (r : Int32) (T : HS), IV T → Gr S T → FRI [(9, 9)] [] S T → Q r T) : P_X9_fit v0 v1 v2 Q S := by
  have g0 := gr_rf S
  have f0 := fri_rf [(9, 9)] [] S
  refine u_X9_fit ?_
  refine u_X9_fit_0 ?_
  refine ⟨o_v0, ?_⟩
  obtain ⟨a1, ea1, o_a1, -⟩ := sh 1 rfl hI o_v0
  refine ⟨a1, ea1, ?_⟩
  refine ⟨o_a1, ?_⟩
  refine m_X8_hasSeen hI o_a1 (fun x2 S3 hI2 g4 b_x2 p_x2 => ?_)
  obtain ⟨z_S3, p_x2⟩ := p_x2
  subst z_S3
  intro _ _
  have bb_x2 : x2 = 0 ∨ x2 = 1 := b_x2
  refine ⟨fun c6 => ?_, fun c6 => ?_⟩
  · refine u_X9_fit_15 ?_
    refine ⟨o_v0, ?_⟩
    refine u_X9_refuse ?_
    refine u_X9_refuse_0 ?_
    refine ⟨o_v0, ?_⟩
    intro S7 eS7
    have hI : IV S7 := by rw [eS7]; exact iv_sI hI o_v0 (by decide) (nu_free (by decide))
    have f0 := fr_I eS7 g0 f0 o_v0 (by decide)
    obtain ⟨y8, hy8⟩ : ∃ z : Int32, z = (1 : Int32) := ⟨_, rfl⟩
    have d_y8 := rd_Is eS7 hy8
    have ea1 := rf_I eS7 ea1
    have g0 := gr_I eS7 g0
    have o_a1 := ob_I eS7 o_a1
    have o_v0 := ob_I eS7 o_v0
    intro _
    exact hq _ _ hI g0 f0
  · refine ⟨fun c10 => ?_, fun c10 => ?_⟩
    · obtain ⟨a11, ea11, o_a11, -⟩ := sh 3 rfl hI o_v0
      refine ⟨a11, ea11, ?_⟩
      refine ⟨a1, ea1, ?_⟩
      refine ⟨o_a11, ?_⟩
      refine m_X1_findFit hI o_a11 o_a1 (fun x13 S14 hJ g15 fc16 => ?_)
      have hI := hJ
      have ea1 := (frr_at fc16 (by decide) (by decide) o_v0).trans ea1
      have ea11 := (frr_at fc16 (by decide) (by decide) o_v0).trans ea11
      have f0 := fri_tr (S := S) g0 f0 fc16 (by decide) (by decide)
      have o_a1 := gr_ob g15 o_a1
      have o_a11 := gr_ob g15 o_a11
      have o_v0 := gr_ob g15 o_v0
      have g0 := gr_tr (T := S) g0 g15
      intro _
      refine ⟨fun c17 => ?_, fun c17 => ?_⟩
      · refine u_X9_grant ?_
        refine u_X9_grant_0 ?_
        refine ⟨o_v0, ?_⟩
        intro S18 eS18
        have hI : IV S18 := by rw [eS18]; exact iv_sI hI o_v0 (by decide) (nu_free (by decide))
        have f0 := fr_I eS18 g0 f0 o_v0 (by decide)
        obtain ⟨y19, hy19⟩ : ∃ z : Int32, z = (0 : Int32) := ⟨_, rfl⟩
        have d_y19 := rd_Is eS18 hy19
        have ea1 := rf_I eS18 ea1
        have ea11 := rf_I eS18 ea11
        have g0 := gr_I eS18 g0
        have o_a1 := ob_I eS18 o_a1
        have o_a11 := ob_I eS18 o_a11
        have o_v0 := ob_I eS18 o_v0
        intro _
        exact hq _ _ hI g0 f0
      · refine u_X9_refuse ?_
        refine u_X9_refuse_0 ?_
        refine ⟨o_v0, ?_⟩
        intro S21 eS21
        have hI : IV S21 := by rw [eS21]; exact iv_sI hI o_v0 (by decide) (nu_free (by decide))
        have f0 := fr_I eS21 g0 f0 o_v0 (by decide)
        obtain ⟨y22, hy22⟩ : ∃ z : Int32, z = (1 : Int32) := ⟨_, rfl⟩
        have d_y22 := rd_Is eS21 hy22
        have ea1 := rf_I eS21 ea1
        have ea11 := rf_I eS21 ea11
        have g0 := gr_I eS21 g0
        have o_a1 := ob_I eS21 o_a1
        have o_a11 := ob_I eS21 o_a11
        have o_v0 := ob_I eS21 o_v0
        intro _
        exact hq _ _ hI g0 f0
    · refine u_X9_fit_15 ?_
      refine ⟨o_v0, ?_⟩
      refine u_X9_refuse ?_
      refine u_X9_refuse_0 ?_
      refine ⟨o_v0, ?_⟩
      intro S24 eS24
      have hI : IV S24 := by rw [eS24]; exact iv_sI hI o_v0 (by decide) (nu_free (by decide))
      have f0 := fr_I eS24 g0 f0 o_v0 (by decide)
      obtain ⟨y25, hy25⟩ : ∃ z : Int32, z = (1 : Int32) := ⟨_, rfl⟩
      have d_y25 := rd_Is eS24 hy25
      have ea1 := rf_I eS24 ea1
      have g0 := gr_I eS24 g0
      have o_a1 := ob_I eS24 o_a1
      have o_v0 := ob_I eS24 o_v0
      intro _
      exact hq _ _ hI g0 f0
set_option maxHeartbeats 4000000 in
set_option maxRecDepth 20000 in
theorem m_X9_fits {v0 : Nat} {v1 : Int32} {Q : Int32 → HS → Prop} {S : HS} (hI : IV S) (o_v0 : ob S v0 9)     (hq : ∀ (r : Int32) (T : HS), IV T → Gr S T → FRI [(9, 9)] [] S T → Q r T) : P_X9_fits v0 v1 Q S := by
  have g0 := gr_rf S
  have f0 := fri_rf [(9, 9)] [] S
  refine u_X9_fits ?_
  refine u_X9_fits_0 ?_
  refine ⟨o_v0, ?_⟩
  obtain ⟨a1, ea1, o_a1, -⟩ := sh 1 rfl hI o_v0
  refine ⟨a1, ea1, ?_⟩
  refine ⟨o_a1, ?_⟩
  refine m_X8_hasSeen hI o_a1 (fun x2 S3 hI2 g4 b_x2 p_x2 => ?_)
  obtain ⟨z_S3, p_x2⟩ := p_x2
  subst z_S3
  intro _ _
  have bb_x2 : x2 = 0 ∨ x2 = 1 := b_x2
  refine ⟨fun c6 => ?_, fun c6 => ?_⟩
  · obtain ⟨a7, ea7, o_a7, -⟩ := sh 3 rfl hI o_v0
    refine ⟨a7, ea7, ?_⟩
    refine ⟨a1, ea1, ?_⟩
    refine ⟨o_a7, ?_⟩
    refine m_X1_countFits hI o_a7 o_a1 (fun x9 S10 hJ g11 fc12 => ?_)
    have hI := hJ
    have ea1 := (frr_at fc12 (by decide) (by decide) o_v0).trans ea1
    have ea7 := (frr_at fc12 (by decide) (by decide) o_v0).trans ea7
    have f0 := fri_tr (S := S) g0 f0 fc12 (by decide) (by decide)
    have o_a1 := gr_ob g11 o_a1
    have o_a7 := gr_ob g11 o_a7
    have o_v0 := gr_ob g11 o_v0
    have g0 := gr_tr (T := S) g0 g11
    intro _
    refine u_X9_grant ?_
    refine u_X9_grant_0 ?_
    refine ⟨o_v0, ?_⟩
    intro S13 eS13
    have hI : IV S13 := by rw [eS13]; exact iv_sI hI o_v0 (by decide) (nu_free (by decide))
    have f0 := fr_I eS13 g0 f0 o_v0 (by decide)
    obtain ⟨y14, hy14⟩ : ∃ z : Int32, z = (0 : Int32) := ⟨_, rfl⟩
    have d_y14 := rd_Is eS13 hy14
    have ea1 := rf_I eS13 ea1
    have ea7 := rf_I eS13 ea7
    have g0 := gr_I eS13 g0
    have o_a1 := ob_I eS13 o_a1
    have o_a7 := ob_I eS13 o_a7
    have o_v0 := ob_I eS13 o_v0
    intro _
    exact hq _ _ hI g0 f0
  · refine u_X9_refuse ?_
    refine u_X9_refuse_0 ?_
    refine ⟨o_v0, ?_⟩
    intro S16 eS16
    have hI : IV S16 := by rw [eS16]; exact iv_sI hI o_v0 (by decide) (nu_free (by decide))
    have f0 := fr_I eS16 g0 f0 o_v0 (by decide)
    obtain ⟨y17, hy17⟩ : ∃ z : Int32, z = (1 : Int32) := ⟨_, rfl⟩
    have d_y17 := rd_Is eS16 hy17
    have ea1 := rf_I eS16 ea1
    have g0 := gr_I eS16 g0
    have o_a1 := ob_I eS16 o_a1
    have o_v0 := ob_I eS16 o_v0
    intro _
    exact hq _ _ hI g0 f0
set_option maxHeartbeats 4000000 in
set_option maxRecDepth 20000 in
theorem m_X9_go {v0 : Nat} {v1 : Int32} {v2 : Int32} {v3 : Int32} {Q : Int32 → HS → Prop} {S : HS} (hI : IV S) (o_v0 : ob S v0 9)     (hq : ∀ (r : Int32) (T : HS), IV T → Gr S T → FRI [(0, 2), (2, 0), (2, 1), (9, 9)] [] S T → Q r T) : P_X9_go v0 v1 v2 v3 Q S := by
  have g0 := gr_rf S
  have f0 := fri_rf [(0, 2), (2, 0), (2, 1), (9, 9)] [] S
  refine u_X9_go ?_
  refine u_X9_go_0 ?_
  refine ⟨o_v0, ?_⟩
  obtain ⟨a1, ea1, o_a1, -⟩ := sh 5 rfl hI o_v0
  refine ⟨a1, ea1, ?_⟩
  refine ⟨o_a1, ?_⟩
  refine m_X0_isOn hI o_a1 (fun x2 S3 hI2 g4 b_x2 p_x2 => ?_)
  subst p_x2
  intro _ _
  have bb_x2 : x2 = 0 ∨ x2 = 1 := b_x2
  refine ⟨fun c6 => ?_, fun c6 => ?_⟩
  · refine u_X9_go_45 ?_
    refine ⟨o_v0, ?_⟩
    refine u_X9_refuse ?_
    refine u_X9_refuse_0 ?_
    refine ⟨o_v0, ?_⟩
    intro S7 eS7
    have hI : IV S7 := by rw [eS7]; exact iv_sI hI o_v0 (by decide) (nu_free (by decide))
    have f0 := fr_I eS7 g0 f0 o_v0 (by decide)
    obtain ⟨y8, hy8⟩ : ∃ z : Int32, z = (1 : Int32) := ⟨_, rfl⟩
    have d_y8 := rd_Is eS7 hy8
    have ea1 := rf_I eS7 ea1
    have g0 := gr_I eS7 g0
    have o_a1 := ob_I eS7 o_a1
    have o_v0 := ob_I eS7 o_v0
    intro _
    exact hq _ _ hI g0 f0
  · obtain ⟨a10, ea10, o_a10, -⟩ := sh 1 rfl hI o_v0
    refine ⟨a10, ea10, ?_⟩
    refine ⟨a1, ea1, ?_⟩
    refine ⟨o_a1, ?_⟩
    intro x12 ex12
    have r_x12 : (-1 : Int32) ≤ x12 ∧ x12 ≤ (3 : Int32) := by rw [ex12]; exact nu 1 rfl hI o_a1
    have d_x12 := ex12
    refine ⟨o_a10, ?_⟩
    refine m_X8_hasWalker hI o_a10 (fun x13 S14 hI2 g15 b_x13 p_x13 => ?_)
    obtain ⟨z_S14, p_x13⟩ := p_x13
    subst z_S14
    intro _ _
    have bb_x13 : x13 = 0 ∨ x13 = 1 := b_x13
    refine ⟨fun c17 => ?_, fun c17 => ?_⟩
    · refine u_X9_go_45 ?_
      refine ⟨o_v0, ?_⟩
      refine u_X9_refuse ?_
      refine u_X9_refuse_0 ?_
      refine ⟨o_v0, ?_⟩
      intro S18 eS18
      have hI : IV S18 := by rw [eS18]; exact iv_sI hI o_v0 (by decide) (nu_free (by decide))
      have f0 := fr_I eS18 g0 f0 o_v0 (by decide)
      have d_x12 := rd_Ik eS18 o_v0 o_a1 (by decide) d_x12
      obtain ⟨y19, hy19⟩ : ∃ z : Int32, z = (1 : Int32) := ⟨_, rfl⟩
      have d_y19 := rd_Is eS18 hy19
      have ea1 := rf_I eS18 ea1
      have ea10 := rf_I eS18 ea10
      have g0 := gr_I eS18 g0
      have o_a1 := ob_I eS18 o_a1
      have o_a10 := ob_I eS18 o_a10
      have o_v0 := ob_I eS18 o_v0
      intro _
      exact hq _ _ hI g0 f0
    · refine ⟨a10, ea10, ?_⟩
      refine ⟨o_a10, ?_⟩
      refine m_X8_hasRoad hI o_a10 (fun x22 S23 hI2 g24 b_x22 p_x22 => ?_)
      obtain ⟨z_S23, p_x22⟩ := p_x22
      subst z_S23
      intro _ _
      have bb_x22 : x22 = 0 ∨ x22 = 1 := b_x22
      refine ⟨fun c26 => ?_, fun c26 => ?_⟩
      · refine u_X9_go_45 ?_
        refine ⟨o_v0, ?_⟩
        refine u_X9_refuse ?_
        refine u_X9_refuse_0 ?_
        refine ⟨o_v0, ?_⟩
        intro S27 eS27
        have hI : IV S27 := by rw [eS27]; exact iv_sI hI o_v0 (by decide) (nu_free (by decide))
        have f0 := fr_I eS27 g0 f0 o_v0 (by decide)
        have d_x12 := rd_Ik eS27 o_v0 o_a1 (by decide) d_x12
        obtain ⟨y28, hy28⟩ : ∃ z : Int32, z = (1 : Int32) := ⟨_, rfl⟩
        have d_y28 := rd_Is eS27 hy28
        have ea1 := rf_I eS27 ea1
        have ea10 := rf_I eS27 ea10
        have g0 := gr_I eS27 g0
        have o_a1 := ob_I eS27 o_a1
        have o_a10 := ob_I eS27 o_a10
        have o_v0 := ob_I eS27 o_v0
        intro _
        exact hq _ _ hI g0 f0
      · refine m_X9_isWay hI (fun x30 S31 hI2 g32 b_x30 p_x30 => ?_)
        obtain ⟨z_S31, p_x30⟩ := p_x30
        subst z_S31
        intro _ _
        have bb_x30 : x30 = 0 ∨ x30 = 1 := b_x30
        refine ⟨fun c34 => ?_, fun c34 => ?_⟩
        · refine ⟨a10, ea10, ?_⟩
          refine ⟨o_a10, ?_⟩
          obtain ⟨a36, ea36, o_a36, l_a36⟩ := shl 18 rfl hI o_a10
          refine ⟨a36, ea36, ?_⟩
          refine ⟨a1, ea1, ?_⟩
          refine ⟨o_a1, ?_⟩
          intro x38 ex38
          have r_x38 : (-1 : Int32) ≤ x38 ∧ x38 ≤ (3 : Int32) := by rw [ex38]; exact nu 1 rfl hI o_a1
          have q_x38 : x38 = x12 := ex38.trans d_x12.symm
          have d_x38 := ex38
          refine ⟨o_a36, ?_⟩
          have i40 : vp_in x38 (hN _ a36) := (vin l_a36 (m := 4) (by decide) (q1370 bb_x2 c6 r_x12 p_x13 bb_x13 c17 p_x22 bb_x22 c26 p_x30 bb_x30 c34 r_x38 q_x38))
          obtain ⟨a39, ea39, o_a39⟩ := ae hI o_a36 (by decide) (by decide) i40
          replace o_a39 : ob _ a39 6 := o_a39
          refine ⟨i40, a39, ea39, ?_⟩
          refine ⟨a10, ea10, ?_⟩
          refine ⟨o_a10, ?_⟩
          obtain ⟨a42, ea42, o_a42, l_a42⟩ := shl 17 rfl hI o_a10
          refine ⟨a42, ea42, ?_⟩
          refine ⟨o_a42, ?_⟩
          have i44 : vp_in v1 (hN _ a42) := (vin l_a42 (m := 12) (by decide) (q1371 bb_x2 c6 r_x12 p_x13 bb_x13 c17 p_x22 bb_x22 c26 p_x30 bb_x30 c34 r_x38 q_x38))
          obtain ⟨a43, ea43, o_a43⟩ := ae hI o_a42 (by decide) (by decide) i44
          replace o_a43 : ob _ a43 5 := o_a43
          refine ⟨i44, a43, ea43, ?_⟩
          refine ⟨o_a39, ?_⟩
          refine m_X6_canGo hI o_a39 (fun x45 S46 hI2 g47 b_x45 p_x45 => ?_)
          subst p_x45
          intro _ _
          have bb_x45 : x45 = 0 ∨ x45 = 1 := b_x45
          refine ⟨fun c49 => ?_, fun c49 => ?_⟩
          · refine ⟨o_a43, ?_⟩
            refine m_X5_startOf hI o_a43 (fun x50 S51 hI2 g52 p_x50 => ?_)
            subst p_x50
            intro _
            refine ⟨a1, ea1, ?_⟩
            refine ⟨o_a1, ?_⟩
            obtain ⟨a55, ea55, o_a55, -⟩ := sh 6 rfl hI o_a1
            refine ⟨a55, ea55, ?_⟩
            refine ⟨o_a55, ?_⟩
            intro x56 ex56
            have d_x56 := ex56
            refine ⟨fun c57 => ?_, fun c57 => ?_⟩
            · refine ⟨a1, ea1, ?_⟩
              refine ⟨o_a1, ?_⟩
              refine ⟨a55, ea55, ?_⟩
              refine ⟨o_a55, ?_⟩
              intro x60 ex60
              have d_x60 := ex60
              refine m_X5_minutesAt hI o_a43 (fun x61 S62 hI2 g63 p_x61 => ?_)
              subst p_x61
              intro _
              intro x65 ex65
              refine ⟨fun c66 => ?_, fun c66 => ?_⟩
              · refine ⟨a1, ea1, ?_⟩
                refine ⟨o_a1, ?_⟩
                refine m_X0_keepForUndo hI o_a1 (fun S69 hJ g70 fc71 => ?_)
                have hI := hJ
                have l_a36 := (gr_len g70 o_a36).trans l_a36
                have l_a42 := (gr_len g70 o_a42).trans l_a42
                have d_x38 := d_x38.trans (fri_at fc71 (by decide) (by decide) o_a1).symm
                have ea1 := (frr_at fc71 (by decide) (by decide) o_v0).trans ea1
                have ea10 := (frr_at fc71 (by decide) (by decide) o_v0).trans ea10
                have ea36 := (frr_at fc71 (by decide) (by decide) o_a10).trans ea36
                have ea42 := (frr_at fc71 (by decide) (by decide) o_a10).trans ea42
                have ea55 := (frr_at fc71 (by decide) (by decide) o_a1).trans ea55
                have f0 := fri_tr (S := S) g0 f0 fc71 (by decide) (by decide)
                have o_a1 := gr_ob g70 o_a1
                have o_a10 := gr_ob g70 o_a10
                have o_a36 := gr_ob g70 o_a36
                have o_a39 := gr_ob g70 o_a39
                have o_a42 := gr_ob g70 o_a42
                have o_a43 := gr_ob g70 o_a43
                have o_a55 := gr_ob g70 o_a55
                have o_v0 := gr_ob g70 o_v0
                have g0 := gr_tr (T := S) g0 g70
                intro _
                refine ⟨a10, ea10, ?_⟩
                refine ⟨a1, ea1, ?_⟩
                refine ⟨o_a1, ?_⟩
                refine ⟨a55, ea55, ?_⟩
                refine ⟨o_a55, ?_⟩
                intro x75 ex75
                have d_x75 := ex75
                refine ⟨o_a10, ?_⟩
                refine m_X8_hourOf hI o_a10 (fun x76 S77 hI2 g78 p_x76 => ?_)
                subst p_x76
                intro _
                refine ⟨a10, ea10, ?_⟩
                refine ⟨o_a10, ?_⟩
                refine m_X8_hasHour hI o_a10 (fun x81 S82 hI2 g83 b_x81 p_x81 => ?_)
                obtain ⟨z_S82, p_x81⟩ := p_x81
                subst z_S82
                intro _ _
                have bb_x81 : x81 = 0 ∨ x81 = 1 := b_x81
                refine ⟨fun c85 => ?_, fun c85 => ?_⟩
                · refine u_X9_go_243 ?_
                  refine ⟨o_v0, ?_⟩
                  refine ⟨a1, ea1, ?_⟩
                  refine ⟨o_a1, ?_⟩
                  refine ⟨a55, ea55, ?_⟩
                  refine ⟨o_a43, ?_⟩
                  refine m_X5_endOf hI o_a43 (fun x88 S89 hI2 g90 p_x88 => ?_)
                  subst p_x88
                  intro _
                  refine ⟨o_a55, ?_⟩
                  intro S92 eS92
                  have hI : IV S92 := by rw [eS92]; exact iv_sI hI o_a55 (by decide) (nu_free (by decide))
                  have f0 := fr_I eS92 g0 f0 o_a55 (by decide)
                  have d_x38 := rd_Ik eS92 o_a55 o_a1 (by decide) d_x38
                  have d_x75 := rd_Ij eS92 (by decide) d_x75
                  have d_x88 := rd_Is eS92 (rfl : x88 = x88)
                  have ea1 := rf_I eS92 ea1
                  have ea10 := rf_I eS92 ea10
                  have ea36 := rf_I eS92 ea36
                  have ea42 := rf_I eS92 ea42
                  have ea55 := rf_I eS92 ea55
                  have l_a36 := ln_I eS92 l_a36
                  have l_a42 := ln_I eS92 l_a42
                  have g0 := gr_I eS92 g0
                  have o_a1 := ob_I eS92 o_a1
                  have o_a10 := ob_I eS92 o_a10
                  have o_a36 := ob_I eS92 o_a36
                  have o_a39 := ob_I eS92 o_a39
                  have o_a42 := ob_I eS92 o_a42
                  have o_a43 := ob_I eS92 o_a43
                  have o_a55 := ob_I eS92 o_a55
                  have o_v0 := ob_I eS92 o_v0
                  refine ⟨a1, ea1, ?_⟩
                  refine ⟨o_a1, ?_⟩
                  refine ⟨a55, ea55, ?_⟩
                  refine ⟨o_a55, ?_⟩
                  intro S95 eS95
                  have hI : IV S95 := by rw [eS95]; exact iv_sI hI o_a55 (by decide) (nu_free (by decide))
                  have f0 := fr_I eS95 g0 f0 o_a55 (by decide)
                  have d_x38 := rd_Ik eS95 o_a55 o_a1 (by decide) d_x38
                  have d_x88 := rd_Ij eS95 (by decide) d_x88
                  have d_x65 := rd_Is eS95 (rfl : x65 = x65)
                  have ea1 := rf_I eS95 ea1
                  have ea10 := rf_I eS95 ea10
                  have ea36 := rf_I eS95 ea36
                  have ea42 := rf_I eS95 ea42
                  have ea55 := rf_I eS95 ea55
                  have l_a36 := ln_I eS95 l_a36
                  have l_a42 := ln_I eS95 l_a42
                  have g0 := gr_I eS95 g0
                  have o_a1 := ob_I eS95 o_a1
                  have o_a10 := ob_I eS95 o_a10
                  have o_a36 := ob_I eS95 o_a36
                  have o_a39 := ob_I eS95 o_a39
                  have o_a42 := ob_I eS95 o_a42
                  have o_a43 := ob_I eS95 o_a43
                  have o_a55 := ob_I eS95 o_a55
                  have o_v0 := ob_I eS95 o_v0
                  refine u_X9_grant ?_
                  refine u_X9_grant_0 ?_
                  refine ⟨o_v0, ?_⟩
                  intro S96 eS96
                  have hI : IV S96 := by rw [eS96]; exact iv_sI hI o_v0 (by decide) (nu_free (by decide))
                  have f0 := fr_I eS96 g0 f0 o_v0 (by decide)
                  have d_x38 := rd_Ik eS96 o_v0 o_a1 (by decide) d_x38
                  have d_x88 := rd_Ik eS96 o_v0 o_a55 (by decide) d_x88
                  have d_x65 := rd_Ik eS96 o_v0 o_a55 (by decide) d_x65
                  obtain ⟨y97, hy97⟩ : ∃ z : Int32, z = (0 : Int32) := ⟨_, rfl⟩
                  have d_y97 := rd_Is eS96 hy97
                  have ea1 := rf_I eS96 ea1
                  have ea10 := rf_I eS96 ea10
                  have ea36 := rf_I eS96 ea36
                  have ea42 := rf_I eS96 ea42
                  have ea55 := rf_I eS96 ea55
                  have l_a36 := ln_I eS96 l_a36
                  have l_a42 := ln_I eS96 l_a42
                  have g0 := gr_I eS96 g0
                  have o_a1 := ob_I eS96 o_a1
                  have o_a10 := ob_I eS96 o_a10
                  have o_a36 := ob_I eS96 o_a36
                  have o_a39 := ob_I eS96 o_a39
                  have o_a42 := ob_I eS96 o_a42
                  have o_a43 := ob_I eS96 o_a43
                  have o_a55 := ob_I eS96 o_a55
                  have o_v0 := ob_I eS96 o_v0
                  intro _
                  exact hq _ _ hI g0 f0
                · refine ⟨a1, ea1, ?_⟩
                  refine ⟨o_a1, ?_⟩
                  refine m_X0_rainsIn hI o_a1 (fun x100 S101 hI2 g102 b_x100 p_x100 => ?_)
                  subst p_x100
                  intro _ _
                  have bb_x100 : x100 = 0 ∨ x100 = 1 := b_x100
                  refine ⟨fun c104 => ?_, fun c104 => ?_⟩
                  · refine u_X9_go_243 ?_
                    refine ⟨o_v0, ?_⟩
                    refine ⟨a1, ea1, ?_⟩
                    refine ⟨o_a1, ?_⟩
                    refine ⟨a55, ea55, ?_⟩
                    refine ⟨o_a43, ?_⟩
                    refine m_X5_endOf hI o_a43 (fun x107 S108 hI2 g109 p_x107 => ?_)
                    subst p_x107
                    intro _
                    refine ⟨o_a55, ?_⟩
                    intro S111 eS111
                    have hI : IV S111 := by rw [eS111]; exact iv_sI hI o_a55 (by decide) (nu_free (by decide))
                    have f0 := fr_I eS111 g0 f0 o_a55 (by decide)
                    have d_x38 := rd_Ik eS111 o_a55 o_a1 (by decide) d_x38
                    have d_x75 := rd_Ij eS111 (by decide) d_x75
                    have d_x107 := rd_Is eS111 (rfl : x107 = x107)
                    have ea1 := rf_I eS111 ea1
                    have ea10 := rf_I eS111 ea10
                    have ea36 := rf_I eS111 ea36
                    have ea42 := rf_I eS111 ea42
                    have ea55 := rf_I eS111 ea55
                    have l_a36 := ln_I eS111 l_a36
                    have l_a42 := ln_I eS111 l_a42
                    have g0 := gr_I eS111 g0
                    have o_a1 := ob_I eS111 o_a1
                    have o_a10 := ob_I eS111 o_a10
                    have o_a36 := ob_I eS111 o_a36
                    have o_a39 := ob_I eS111 o_a39
                    have o_a42 := ob_I eS111 o_a42
                    have o_a43 := ob_I eS111 o_a43
                    have o_a55 := ob_I eS111 o_a55
                    have o_v0 := ob_I eS111 o_v0
                    refine ⟨a1, ea1, ?_⟩
                    refine ⟨o_a1, ?_⟩
                    refine ⟨a55, ea55, ?_⟩
                    refine ⟨o_a55, ?_⟩
                    intro S114 eS114
                    have hI : IV S114 := by rw [eS114]; exact iv_sI hI o_a55 (by decide) (nu_free (by decide))
                    have f0 := fr_I eS114 g0 f0 o_a55 (by decide)
                    have d_x38 := rd_Ik eS114 o_a55 o_a1 (by decide) d_x38
                    have d_x107 := rd_Ij eS114 (by decide) d_x107
                    have d_x65 := rd_Is eS114 (rfl : x65 = x65)
                    have ea1 := rf_I eS114 ea1
                    have ea10 := rf_I eS114 ea10
                    have ea36 := rf_I eS114 ea36
                    have ea42 := rf_I eS114 ea42
                    have ea55 := rf_I eS114 ea55
                    have l_a36 := ln_I eS114 l_a36
                    have l_a42 := ln_I eS114 l_a42
                    have g0 := gr_I eS114 g0
                    have o_a1 := ob_I eS114 o_a1
                    have o_a10 := ob_I eS114 o_a10
                    have o_a36 := ob_I eS114 o_a36
                    have o_a39 := ob_I eS114 o_a39
                    have o_a42 := ob_I eS114 o_a42
                    have o_a43 := ob_I eS114 o_a43
                    have o_a55 := ob_I eS114 o_a55
                    have o_v0 := ob_I eS114 o_v0
                    refine u_X9_grant ?_
                    refine u_X9_grant_0 ?_
                    refine ⟨o_v0, ?_⟩
                    intro S115 eS115
                    have hI : IV S115 := by rw [eS115]; exact iv_sI hI o_v0 (by decide) (nu_free (by decide))
                    have f0 := fr_I eS115 g0 f0 o_v0 (by decide)
                    have d_x38 := rd_Ik eS115 o_v0 o_a1 (by decide) d_x38
                    have d_x107 := rd_Ik eS115 o_v0 o_a55 (by decide) d_x107
                    have d_x65 := rd_Ik eS115 o_v0 o_a55 (by decide) d_x65
                    obtain ⟨y116, hy116⟩ : ∃ z : Int32, z = (0 : Int32) := ⟨_, rfl⟩
                    have d_y116 := rd_Is eS115 hy116
                    have ea1 := rf_I eS115 ea1
                    have ea10 := rf_I eS115 ea10
                    have ea36 := rf_I eS115 ea36
                    have ea42 := rf_I eS115 ea42
                    have ea55 := rf_I eS115 ea55
                    have l_a36 := ln_I eS115 l_a36
                    have l_a42 := ln_I eS115 l_a42
                    have g0 := gr_I eS115 g0
                    have o_a1 := ob_I eS115 o_a1
                    have o_a10 := ob_I eS115 o_a10
                    have o_a36 := ob_I eS115 o_a36
                    have o_a39 := ob_I eS115 o_a39
                    have o_a42 := ob_I eS115 o_a42
                    have o_a43 := ob_I eS115 o_a43
                    have o_a55 := ob_I eS115 o_a55
                    have o_v0 := ob_I eS115 o_v0
                    intro _
                    exact hq _ _ hI g0 f0
                  · obtain ⟨a118, ea118, o_a118, -⟩ := sh 3 rfl hI o_v0
                    refine ⟨a118, ea118, ?_⟩
                    refine ⟨a10, ea10, ?_⟩
                    refine ⟨o_a10, ?_⟩
                    obtain ⟨a120, ea120, o_a120, l_a120⟩ := shl 15 rfl hI o_a10
                    refine ⟨a120, ea120, ?_⟩
                    refine ⟨o_a120, ?_⟩
                    have i122 : vp_in x76 (hN _ a120) := (vin l_a120 (m := 6) (by decide) (q1372 bb_x2 c6 r_x12 p_x13 bb_x13 c17 p_x22 bb_x22 c26 p_x30 bb_x30 c34 r_x38 q_x38 bb_x45 c49 c57 ex65 c66 p_x81 bb_x81 c85 bb_x100 c104))
                    obtain ⟨a121, ea121, o_a121⟩ := ae hI o_a120 (by decide) (by decide) i122
                    replace o_a121 : ob _ a121 3 := o_a121
                    refine ⟨i122, a121, ea121, ?_⟩
                    refine ⟨o_a118, ?_⟩
                    refine m_X1_wetOf hI o_a118 o_a39 o_a43 o_a121 (fun x123 S124 hJ g125 fc126 => ?_)
                    have hI := hJ
                    have l_a120 := (gr_len g125 o_a120).trans l_a120
                    have l_a36 := (gr_len g125 o_a36).trans l_a36
                    have l_a42 := (gr_len g125 o_a42).trans l_a42
                    have d_x38 := d_x38.trans (fri_at fc126 (by decide) (by decide) o_a1).symm
                    have d_x75 := d_x75.trans (fri_at fc126 (by decide) (by decide) o_a55).symm
                    have ea1 := (frr_at fc126 (by decide) (by decide) o_v0).trans ea1
                    have ea10 := (frr_at fc126 (by decide) (by decide) o_v0).trans ea10
                    have ea36 := (frr_at fc126 (by decide) (by decide) o_a10).trans ea36
                    have ea42 := (frr_at fc126 (by decide) (by decide) o_a10).trans ea42
                    have ea55 := (frr_at fc126 (by decide) (by decide) o_a1).trans ea55
                    have ea118 := (frr_at fc126 (by decide) (by decide) o_v0).trans ea118
                    have ea120 := (frr_at fc126 (by decide) (by decide) o_a10).trans ea120
                    have f0 := fri_tr (S := S69) g0 f0 fc126 (by decide) (by decide)
                    have o_a1 := gr_ob g125 o_a1
                    have o_a10 := gr_ob g125 o_a10
                    have o_a118 := gr_ob g125 o_a118
                    have o_a120 := gr_ob g125 o_a120
                    have o_a121 := gr_ob g125 o_a121
                    have o_a36 := gr_ob g125 o_a36
                    have o_a39 := gr_ob g125 o_a39
                    have o_a42 := gr_ob g125 o_a42
                    have o_a43 := gr_ob g125 o_a43
                    have o_a55 := gr_ob g125 o_a55
                    have o_v0 := gr_ob g125 o_v0
                    have g0 := gr_tr (T := S69) g0 g125
                    intro _
                    refine ⟨a1, ea1, ?_⟩
                    refine ⟨o_a1, ?_⟩
                    refine ⟨a55, ea55, ?_⟩
                    refine ⟨a118, ea118, ?_⟩
                    refine ⟨o_a118, ?_⟩
                    obtain ⟨a130, ea130, o_a130, l_a130⟩ := shl 9 rfl hI o_a118
                    refine ⟨a130, ea130, ?_⟩
                    refine ⟨o_a55, ?_⟩
                    refine m_X2_addFaces hI o_a55 o_a130 l_a130 (fun S132 hJ g133 fc134 => ?_)
                    have hI := hJ
                    have l_a120 := (gr_len g133 o_a120).trans l_a120
                    have l_a130 := (gr_len g133 o_a130).trans l_a130
                    have l_a36 := (gr_len g133 o_a36).trans l_a36
                    have l_a42 := (gr_len g133 o_a42).trans l_a42
                    have d_x38 := d_x38.trans (fri_at fc134 (by decide) (by decide) o_a1).symm
                    have d_x75 := d_x75.trans (fri_at fc134 (by decide) (by decide) o_a55).symm
                    have ea1 := (frr_at fc134 (by decide) (by decide) o_v0).trans ea1
                    have ea10 := (frr_at fc134 (by decide) (by decide) o_v0).trans ea10
                    have ea36 := (frr_at fc134 (by decide) (by decide) o_a10).trans ea36
                    have ea42 := (frr_at fc134 (by decide) (by decide) o_a10).trans ea42
                    have ea55 := (frr_at fc134 (by decide) (by decide) o_a1).trans ea55
                    have ea118 := (frr_at fc134 (by decide) (by decide) o_v0).trans ea118
                    have ea120 := (frr_at fc134 (by decide) (by decide) o_a10).trans ea120
                    have ea130 := (frr_at fc134 (by decide) (by decide) o_a118).trans ea130
                    have f0 := fri_tr (S := S124) g0 f0 fc134 (by decide) (by decide)
                    have o_a1 := gr_ob g133 o_a1
                    have o_a10 := gr_ob g133 o_a10
                    have o_a118 := gr_ob g133 o_a118
                    have o_a120 := gr_ob g133 o_a120
                    have o_a121 := gr_ob g133 o_a121
                    have o_a130 := gr_ob g133 o_a130
                    have o_a36 := gr_ob g133 o_a36
                    have o_a39 := gr_ob g133 o_a39
                    have o_a42 := gr_ob g133 o_a42
                    have o_a43 := gr_ob g133 o_a43
                    have o_a55 := gr_ob g133 o_a55
                    have o_v0 := gr_ob g133 o_v0
                    have g0 := gr_tr (T := S124) g0 g133
                    intro _
                    refine u_X9_go_243 ?_
                    refine ⟨o_v0, ?_⟩
                    refine ⟨a1, ea1, ?_⟩
                    refine ⟨o_a1, ?_⟩
                    refine ⟨a55, ea55, ?_⟩
                    refine ⟨o_a43, ?_⟩
                    refine m_X5_endOf hI o_a43 (fun x137 S138 hI2 g139 p_x137 => ?_)
                    subst p_x137
                    intro _
                    refine ⟨o_a55, ?_⟩
                    intro S141 eS141
                    have hI : IV S141 := by rw [eS141]; exact iv_sI hI o_a55 (by decide) (nu_free (by decide))
                    have f0 := fr_I eS141 g0 f0 o_a55 (by decide)
                    have d_x38 := rd_Ik eS141 o_a55 o_a1 (by decide) d_x38
                    have d_x75 := rd_Ij eS141 (by decide) d_x75
                    have d_x137 := rd_Is eS141 (rfl : x137 = x137)
                    have ea1 := rf_I eS141 ea1
                    have ea10 := rf_I eS141 ea10
                    have ea36 := rf_I eS141 ea36
                    have ea42 := rf_I eS141 ea42
                    have ea55 := rf_I eS141 ea55
                    have ea118 := rf_I eS141 ea118
                    have ea120 := rf_I eS141 ea120
                    have ea130 := rf_I eS141 ea130
                    have l_a120 := ln_I eS141 l_a120
                    have l_a130 := ln_I eS141 l_a130
                    have l_a36 := ln_I eS141 l_a36
                    have l_a42 := ln_I eS141 l_a42
                    have g0 := gr_I eS141 g0
                    have o_a1 := ob_I eS141 o_a1
                    have o_a10 := ob_I eS141 o_a10
                    have o_a118 := ob_I eS141 o_a118
                    have o_a120 := ob_I eS141 o_a120
                    have o_a121 := ob_I eS141 o_a121
                    have o_a130 := ob_I eS141 o_a130
                    have o_a36 := ob_I eS141 o_a36
                    have o_a39 := ob_I eS141 o_a39
                    have o_a42 := ob_I eS141 o_a42
                    have o_a43 := ob_I eS141 o_a43
                    have o_a55 := ob_I eS141 o_a55
                    have o_v0 := ob_I eS141 o_v0
                    refine ⟨a1, ea1, ?_⟩
                    refine ⟨o_a1, ?_⟩
                    refine ⟨a55, ea55, ?_⟩
                    refine ⟨o_a55, ?_⟩
                    intro S144 eS144
                    have hI : IV S144 := by rw [eS144]; exact iv_sI hI o_a55 (by decide) (nu_free (by decide))
                    have f0 := fr_I eS144 g0 f0 o_a55 (by decide)
                    have d_x38 := rd_Ik eS144 o_a55 o_a1 (by decide) d_x38
                    have d_x137 := rd_Ij eS144 (by decide) d_x137
                    have d_x65 := rd_Is eS144 (rfl : x65 = x65)
                    have ea1 := rf_I eS144 ea1
                    have ea10 := rf_I eS144 ea10
                    have ea36 := rf_I eS144 ea36
                    have ea42 := rf_I eS144 ea42
                    have ea55 := rf_I eS144 ea55
                    have ea118 := rf_I eS144 ea118
                    have ea120 := rf_I eS144 ea120
                    have ea130 := rf_I eS144 ea130
                    have l_a120 := ln_I eS144 l_a120
                    have l_a130 := ln_I eS144 l_a130
                    have l_a36 := ln_I eS144 l_a36
                    have l_a42 := ln_I eS144 l_a42
                    have g0 := gr_I eS144 g0
                    have o_a1 := ob_I eS144 o_a1
                    have o_a10 := ob_I eS144 o_a10
                    have o_a118 := ob_I eS144 o_a118
                    have o_a120 := ob_I eS144 o_a120
                    have o_a121 := ob_I eS144 o_a121
                    have o_a130 := ob_I eS144 o_a130
                    have o_a36 := ob_I eS144 o_a36
                    have o_a39 := ob_I eS144 o_a39
                    have o_a42 := ob_I eS144 o_a42
                    have o_a43 := ob_I eS144 o_a43
                    have o_a55 := ob_I eS144 o_a55
                    have o_v0 := ob_I eS144 o_v0
                    refine u_X9_grant ?_
                    refine u_X9_grant_0 ?_
                    refine ⟨o_v0, ?_⟩
                    intro S145 eS145
                    have hI : IV S145 := by rw [eS145]; exact iv_sI hI o_v0 (by decide) (nu_free (by decide))
                    have f0 := fr_I eS145 g0 f0 o_v0 (by decide)
                    have d_x38 := rd_Ik eS145 o_v0 o_a1 (by decide) d_x38
                    have d_x137 := rd_Ik eS145 o_v0 o_a55 (by decide) d_x137
                    have d_x65 := rd_Ik eS145 o_v0 o_a55 (by decide) d_x65
                    obtain ⟨y146, hy146⟩ : ∃ z : Int32, z = (0 : Int32) := ⟨_, rfl⟩
                    have d_y146 := rd_Is eS145 hy146
                    have ea1 := rf_I eS145 ea1
                    have ea10 := rf_I eS145 ea10
                    have ea36 := rf_I eS145 ea36
                    have ea42 := rf_I eS145 ea42
                    have ea55 := rf_I eS145 ea55
                    have ea118 := rf_I eS145 ea118
                    have ea120 := rf_I eS145 ea120
                    have ea130 := rf_I eS145 ea130
                    have l_a120 := ln_I eS145 l_a120
                    have l_a130 := ln_I eS145 l_a130
                    have l_a36 := ln_I eS145 l_a36
                    have l_a42 := ln_I eS145 l_a42
                    have g0 := gr_I eS145 g0
                    have o_a1 := ob_I eS145 o_a1
                    have o_a10 := ob_I eS145 o_a10
                    have o_a118 := ob_I eS145 o_a118
                    have o_a120 := ob_I eS145 o_a120
                    have o_a121 := ob_I eS145 o_a121
                    have o_a130 := ob_I eS145 o_a130
                    have o_a36 := ob_I eS145 o_a36
                    have o_a39 := ob_I eS145 o_a39
                    have o_a42 := ob_I eS145 o_a42
                    have o_a43 := ob_I eS145 o_a43
                    have o_a55 := ob_I eS145 o_a55
                    have o_v0 := ob_I eS145 o_v0
                    intro _
                    exact hq _ _ hI g0 f0
              · refine u_X9_refuse ?_
                refine u_X9_refuse_0 ?_
                refine ⟨o_v0, ?_⟩
                intro S148 eS148
                have hI : IV S148 := by rw [eS148]; exact iv_sI hI o_v0 (by decide) (nu_free (by decide))
                have f0 := fr_I eS148 g0 f0 o_v0 (by decide)
                have d_x38 := rd_Ik eS148 o_v0 o_a1 (by decide) d_x38
                have d_x56 := rd_Ik eS148 o_v0 o_a55 (by decide) d_x56
                have d_x60 := rd_Ik eS148 o_v0 o_a55 (by decide) d_x60
                obtain ⟨y149, hy149⟩ : ∃ z : Int32, z = (3 : Int32) := ⟨_, rfl⟩
                have d_y149 := rd_Is eS148 hy149
                have ea1 := rf_I eS148 ea1
                have ea10 := rf_I eS148 ea10
                have ea36 := rf_I eS148 ea36
                have ea42 := rf_I eS148 ea42
                have ea55 := rf_I eS148 ea55
                have l_a36 := ln_I eS148 l_a36
                have l_a42 := ln_I eS148 l_a42
                have g0 := gr_I eS148 g0
                have o_a1 := ob_I eS148 o_a1
                have o_a10 := ob_I eS148 o_a10
                have o_a36 := ob_I eS148 o_a36
                have o_a39 := ob_I eS148 o_a39
                have o_a42 := ob_I eS148 o_a42
                have o_a43 := ob_I eS148 o_a43
                have o_a55 := ob_I eS148 o_a55
                have o_v0 := ob_I eS148 o_v0
                intro _
                exact hq _ _ hI g0 f0
            · refine u_X9_refuse ?_
              refine u_X9_refuse_0 ?_
              refine ⟨o_v0, ?_⟩
              intro S151 eS151
              have hI : IV S151 := by rw [eS151]; exact iv_sI hI o_v0 (by decide) (nu_free (by decide))
              have f0 := fr_I eS151 g0 f0 o_v0 (by decide)
              have d_x38 := rd_Ik eS151 o_v0 o_a1 (by decide) d_x38
              have d_x56 := rd_Ik eS151 o_v0 o_a55 (by decide) d_x56
              obtain ⟨y152, hy152⟩ : ∃ z : Int32, z = (5 : Int32) := ⟨_, rfl⟩
              have d_y152 := rd_Is eS151 hy152
              have ea1 := rf_I eS151 ea1
              have ea10 := rf_I eS151 ea10
              have ea36 := rf_I eS151 ea36
              have ea42 := rf_I eS151 ea42
              have ea55 := rf_I eS151 ea55
              have l_a36 := ln_I eS151 l_a36
              have l_a42 := ln_I eS151 l_a42
              have g0 := gr_I eS151 g0
              have o_a1 := ob_I eS151 o_a1
              have o_a10 := ob_I eS151 o_a10
              have o_a36 := ob_I eS151 o_a36
              have o_a39 := ob_I eS151 o_a39
              have o_a42 := ob_I eS151 o_a42
              have o_a43 := ob_I eS151 o_a43
              have o_a55 := ob_I eS151 o_a55
              have o_v0 := ob_I eS151 o_v0
              intro _
              exact hq _ _ hI g0 f0
          · refine u_X9_refuse ?_
            refine u_X9_refuse_0 ?_
            refine ⟨o_v0, ?_⟩
            intro S154 eS154
            have hI : IV S154 := by rw [eS154]; exact iv_sI hI o_v0 (by decide) (nu_free (by decide))
            have f0 := fr_I eS154 g0 f0 o_v0 (by decide)
            have d_x38 := rd_Ik eS154 o_v0 o_a1 (by decide) d_x38
            obtain ⟨y155, hy155⟩ : ∃ z : Int32, z = (2 : Int32) := ⟨_, rfl⟩
            have d_y155 := rd_Is eS154 hy155
            have ea1 := rf_I eS154 ea1
            have ea10 := rf_I eS154 ea10
            have ea36 := rf_I eS154 ea36
            have ea42 := rf_I eS154 ea42
            have l_a36 := ln_I eS154 l_a36
            have l_a42 := ln_I eS154 l_a42
            have g0 := gr_I eS154 g0
            have o_a1 := ob_I eS154 o_a1
            have o_a10 := ob_I eS154 o_a10
            have o_a36 := ob_I eS154 o_a36
            have o_a39 := ob_I eS154 o_a39
            have o_a42 := ob_I eS154 o_a42
            have o_a43 := ob_I eS154 o_a43
            have o_v0 := ob_I eS154 o_v0
            intro _
            exact hq _ _ hI g0 f0
        · refine u_X9_go_45 ?_
          refine ⟨o_v0, ?_⟩
          refine u_X9_refuse ?_
          refine u_X9_refuse_0 ?_
          refine ⟨o_v0, ?_⟩
          intro S157 eS157
          have hI : IV S157 := by rw [eS157]; exact iv_sI hI o_v0 (by decide) (nu_free (by decide))
          have f0 := fr_I eS157 g0 f0 o_v0 (by decide)
          have d_x12 := rd_Ik eS157 o_v0 o_a1 (by decide) d_x12
          obtain ⟨y158, hy158⟩ : ∃ z : Int32, z = (1 : Int32) := ⟨_, rfl⟩
          have d_y158 := rd_Is eS157 hy158
          have ea1 := rf_I eS157 ea1
          have ea10 := rf_I eS157 ea10
          have g0 := gr_I eS157 g0
          have o_a1 := ob_I eS157 o_a1
          have o_a10 := ob_I eS157 o_a10
          have o_v0 := ob_I eS157 o_v0
          intro _
          exact hq _ _ hI g0 f0
end
section
set_option maxHeartbeats 4000000 in
set_option maxRecDepth 20000 in
theorem m_X9_got {v0 : Nat} {v1 : Int32} {v2 : Int32} {Q : Int64 → HS → Prop} {S : HS} (hI : IV S) (o_v0 : ob S v0 9)     (hq : ∀ (r : Int64) (T : HS), IV T → Gr S T → FRI [(9, 9)] [] S T → Q r T) : P_X9_got v0 v1 v2 Q S := by
  have g0 := gr_rf S
  have f0 := fri_rf [(9, 9)] [] S
  refine u_X9_got ?_
  refine u_X9_got_0 ?_
  refine ⟨o_v0, ?_⟩
  obtain ⟨a1, ea1, o_a1, -⟩ := sh 5 rfl hI o_v0
  refine ⟨a1, ea1, ?_⟩
  refine ⟨o_a1, ?_⟩
  refine m_X0_isOn hI o_a1 (fun x2 S3 hI2 g4 b_x2 p_x2 => ?_)
  subst p_x2
  intro _ _
  have bb_x2 : x2 = 0 ∨ x2 = 1 := b_x2
  refine ⟨fun c6 => ?_, fun c6 => ?_⟩
  · refine u_X9_got_17 ?_
    refine ⟨o_v0, ?_⟩
    refine u_X9_refuse ?_
    refine u_X9_refuse_0 ?_
    refine ⟨o_v0, ?_⟩
    intro S7 eS7
    have hI : IV S7 := by rw [eS7]; exact iv_sI hI o_v0 (by decide) (nu_free (by decide))
    have f0 := fr_I eS7 g0 f0 o_v0 (by decide)
    obtain ⟨y8, hy8⟩ : ∃ z : Int32, z = (1 : Int32) := ⟨_, rfl⟩
    have d_y8 := rd_Is eS7 hy8
    have ea1 := rf_I eS7 ea1
    have g0 := gr_I eS7 g0
    have o_a1 := ob_I eS7 o_a1
    have o_v0 := ob_I eS7 o_v0
    intro _
    exact hq _ _ hI g0 f0
  · refine m_X9_isFace hI (fun x10 S11 hI2 g12 b_x10 p_x10 => ?_)
    obtain ⟨z_S11, p_x10⟩ := p_x10
    subst z_S11
    intro _ _
    have bb_x10 : x10 = 0 ∨ x10 = 1 := b_x10
    refine ⟨fun c14 => ?_, fun c14 => ?_⟩
    · intro S15 eS15
      have hI : IV S15 := by rw [eS15]; exact iv_sI hI o_v0 (by decide) (nu_free (by decide))
      have f0 := fr_I eS15 g0 f0 o_v0 (by decide)
      obtain ⟨y16, hy16⟩ : ∃ z : Int32, z = (0 : Int32) := ⟨_, rfl⟩
      have d_y16 := rd_Is eS15 hy16
      have ea1 := rf_I eS15 ea1
      have g0 := gr_I eS15 g0
      have o_a1 := ob_I eS15 o_a1
      have o_v0 := ob_I eS15 o_v0
      refine ⟨a1, ea1, ?_⟩
      refine ⟨o_a1, ?_⟩
      obtain ⟨a18, ea18, o_a18, -⟩ := sh 6 rfl hI o_a1
      refine ⟨a18, ea18, ?_⟩
      refine ⟨o_a18, ?_⟩
      obtain ⟨a19, ea19, o_a19, l_a19⟩ := shl 11 rfl hI o_a18
      refine ⟨a19, ea19, ?_⟩
      refine ⟨o_a19, ?_⟩
      refine ⟨(vin l_a19 (m := 5) (by decide) (q1369 bb_x2 c6 p_x10 bb_x10 c14)), ?_⟩
      intro x20 ex20
      refine m_X9_fraction hI (fun x21 S22 hI2 g23 p_x21 => ?_)
      subst p_x21
      intro _
      exact hq _ _ hI g0 f0
    · refine u_X9_got_17 ?_
      refine ⟨o_v0, ?_⟩
      refine u_X9_refuse ?_
      refine u_X9_refuse_0 ?_
      refine ⟨o_v0, ?_⟩
      intro S25 eS25
      have hI : IV S25 := by rw [eS25]; exact iv_sI hI o_v0 (by decide) (nu_free (by decide))
      have f0 := fr_I eS25 g0 f0 o_v0 (by decide)
      obtain ⟨y26, hy26⟩ : ∃ z : Int32, z = (1 : Int32) := ⟨_, rfl⟩
      have d_y26 := rd_Is eS25 hy26
      have ea1 := rf_I eS25 ea1
      have g0 := gr_I eS25 g0
      have o_a1 := ob_I eS25 o_a1
      have o_v0 := ob_I eS25 o_v0
      intro _
      exact hq _ _ hI g0 f0
set_option maxHeartbeats 4000000 in
set_option maxRecDepth 20000 in
theorem m_X9_held {v0 : Nat} {v1 : Int32} {v2 : Int32} {v3 : Int32} {v4 : Int32} {v5 : Int32} {Q : Int32 → HS → Prop} {S : HS} (hI : IV S) (o_v0 : ob S v0 9)     (hq : ∀ (r : Int32) (T : HS), IV T → Gr S T → FRI [(9, 9)] [] S T → Q r T) : P_X9_held v0 v1 v2 v3 v4 v5 Q S := by
  have g0 := gr_rf S
  have f0 := fri_rf [(9, 9)] [] S
  refine u_X9_held ?_
  refine u_X9_held_0 ?_
  refine ⟨o_v0, ?_⟩
  refine m_X9_legTrouble hI o_v0 (fun x1 S2 hI2 g3 p_x1 => ?_)
  obtain ⟨z_S2, p_x1⟩ := p_x1
  subst z_S2
  intro _
  refine u_X9_refusedBy ?_
  refine u_X9_refusedBy_0 ?_
  refine ⟨o_v0, ?_⟩
  intro S5 eS5
  have hI : IV S5 := by rw [eS5]; exact iv_sI hI o_v0 (by decide) (nu_free (by decide))
  have f0 := fr_I eS5 g0 f0 o_v0 (by decide)
  have d_x1 := rd_Is eS5 (rfl : x1 = x1)
  have g0 := gr_I eS5 g0
  have o_v0 := ob_I eS5 o_v0
  refine ⟨fun c6 => ?_, fun c6 => ?_⟩
  · intro _ _
    refine ⟨fun c8 => ?_, fun c8 => ?_⟩
    · obtain ⟨a9, ea9, o_a9, -⟩ := sh 1 rfl hI o_v0
      refine ⟨a9, ea9, ?_⟩
      refine ⟨o_a9, ?_⟩
      obtain ⟨a10, ea10, o_a10, l_a10⟩ := shl 18 rfl hI o_a9
      refine ⟨a10, ea10, ?_⟩
      refine ⟨o_a10, ?_⟩
      have i12 : vp_in v1 (hN _ a10) := (vin l_a10 (m := 4) (by decide) (q0 p_x1 c6))
      obtain ⟨a11, ea11, o_a11⟩ := ae hI o_a10 (by decide) (by decide) i12
      replace o_a11 : ob _ a11 6 := o_a11
      refine ⟨i12, a11, ea11, ?_⟩
      refine ⟨o_a11, ?_⟩
      intro x13 ex13
      have d_x13 := ex13
      refine ⟨fun c14 => ?_, fun c14 => ?_⟩
      · obtain ⟨a15, ea15, o_a15, -⟩ := sh 3 rfl hI o_v0
        refine ⟨a15, ea15, ?_⟩
        refine ⟨a9, ea9, ?_⟩
        refine ⟨o_a9, ?_⟩
        obtain ⟨a17, ea17, o_a17, l_a17⟩ := shl 17 rfl hI o_a9
        refine ⟨a17, ea17, ?_⟩
        refine ⟨o_a17, ?_⟩
        have i19 : vp_in v2 (hN _ a17) := (vin l_a17 (m := 12) (by decide) (q1363 p_x1 c6 c14))
        obtain ⟨a18, ea18, o_a18⟩ := ae hI o_a17 (by decide) (by decide) i19
        replace o_a18 : ob _ a18 5 := o_a18
        refine ⟨i19, a18, ea18, ?_⟩
        refine ⟨a9, ea9, ?_⟩
        refine ⟨o_a9, ?_⟩
        obtain ⟨a21, ea21, o_a21, l_a21⟩ := shl 15 rfl hI o_a9
        refine ⟨a21, ea21, ?_⟩
        refine ⟨o_a21, ?_⟩
        have i23 : vp_in v4 (hN _ a21) := (vin l_a21 (m := 6) (by decide) (q1364 p_x1 c6 c14))
        obtain ⟨a22, ea22, o_a22⟩ := ae hI o_a21 (by decide) (by decide) i23
        replace o_a22 : ob _ a22 3 := o_a22
        refine ⟨i23, a22, ea22, ?_⟩
        refine ⟨o_a15, ?_⟩
        refine m_X1_lay hI o_a15 o_a18 o_a22 (fun S25 hJ g26 fc27 => ?_)
        have hI := hJ
        have l_a10 := (gr_len g26 o_a10).trans l_a10
        have l_a17 := (gr_len g26 o_a17).trans l_a17
        have l_a21 := (gr_len g26 o_a21).trans l_a21
        have d_x1 := d_x1.trans (fri_at fc27 (by decide) (by decide) o_v0).symm
        have d_x13 := d_x13.trans (fri_at fc27 (by decide) (by decide) o_a11).symm
        have ea9 := (frr_at fc27 (by decide) (by decide) o_v0).trans ea9
        have ea10 := (frr_at fc27 (by decide) (by decide) o_a9).trans ea10
        have ea15 := (frr_at fc27 (by decide) (by decide) o_v0).trans ea15
        have ea17 := (frr_at fc27 (by decide) (by decide) o_a9).trans ea17
        have ea21 := (frr_at fc27 (by decide) (by decide) o_a9).trans ea21
        have f0 := fri_tr (S := S5) g0 f0 fc27 (by decide) (by decide)
        have o_a10 := gr_ob g26 o_a10
        have o_a11 := gr_ob g26 o_a11
        have o_a15 := gr_ob g26 o_a15
        have o_a17 := gr_ob g26 o_a17
        have o_a18 := gr_ob g26 o_a18
        have o_a21 := gr_ob g26 o_a21
        have o_a22 := gr_ob g26 o_a22
        have o_a9 := gr_ob g26 o_a9
        have o_v0 := gr_ob g26 o_v0
        have g0 := gr_tr (T := S5) g0 g26
        intro _
        refine ⟨a15, ea15, ?_⟩
        refine ⟨a9, ea9, ?_⟩
        refine ⟨o_a9, ?_⟩
        refine ⟨a10, ea10, ?_⟩
        refine ⟨o_a10, ?_⟩
        have i32 : vp_in v1 (hN _ a10) := (vin l_a10 (m := 4) (by decide) (q1365 p_x1 c6 c14))
        obtain ⟨a31, ea31, o_a31⟩ := ae hI o_a10 (by decide) (by decide) i32
        replace o_a31 : ob _ a31 6 := o_a31
        refine ⟨i32, a31, ea31, ?_⟩
        refine ⟨o_a15, ?_⟩
        refine m_X1_isForward hI o_a15 o_a31 (fun x33 S34 hI2 g35 b_x33 p_x33 => ?_)
        subst p_x33
        intro _ _
        have bb_x33 : x33 = 0 ∨ x33 = 1 := b_x33
        refine ⟨fun c37 => ?_, fun c37 => ?_⟩
        · exact hq _ _ hI g0 f0
        · exact hq _ _ hI g0 f0
      · exact hq _ _ hI g0 f0
    · exact hq _ _ hI g0 f0
  · intro _ _
    refine ⟨fun c39 => ?_, fun c39 => ?_⟩
    · obtain ⟨a40, ea40, o_a40, -⟩ := sh 1 rfl hI o_v0
      refine ⟨a40, ea40, ?_⟩
      refine ⟨o_a40, ?_⟩
      obtain ⟨a41, ea41, o_a41, l_a41⟩ := shl 18 rfl hI o_a40
      refine ⟨a41, ea41, ?_⟩
      refine ⟨o_a41, ?_⟩
      have i43 : vp_in v1 (hN _ a41) := (vin l_a41 (m := 4) (by decide) (q3 p_x1 c6 c39))
      obtain ⟨a42, ea42, o_a42⟩ := ae hI o_a41 (by decide) (by decide) i43
      replace o_a42 : ob _ a42 6 := o_a42
      refine ⟨i43, a42, ea42, ?_⟩
      refine ⟨o_a42, ?_⟩
      intro x44 ex44
      have d_x44 := ex44
      refine ⟨fun c45 => ?_, fun c45 => ?_⟩
      · obtain ⟨a46, ea46, o_a46, -⟩ := sh 3 rfl hI o_v0
        refine ⟨a46, ea46, ?_⟩
        refine ⟨a40, ea40, ?_⟩
        refine ⟨o_a40, ?_⟩
        obtain ⟨a48, ea48, o_a48, l_a48⟩ := shl 17 rfl hI o_a40
        refine ⟨a48, ea48, ?_⟩
        refine ⟨o_a48, ?_⟩
        have i50 : vp_in v2 (hN _ a48) := (vin l_a48 (m := 12) (by decide) (q1366 p_x1 c6 c39 c45))
        obtain ⟨a49, ea49, o_a49⟩ := ae hI o_a48 (by decide) (by decide) i50
        replace o_a49 : ob _ a49 5 := o_a49
        refine ⟨i50, a49, ea49, ?_⟩
        refine ⟨a40, ea40, ?_⟩
        refine ⟨o_a40, ?_⟩
        obtain ⟨a52, ea52, o_a52, l_a52⟩ := shl 15 rfl hI o_a40
        refine ⟨a52, ea52, ?_⟩
        refine ⟨o_a52, ?_⟩
        have i54 : vp_in v4 (hN _ a52) := (vin l_a52 (m := 6) (by decide) (q1367 p_x1 c6 c39 c45))
        obtain ⟨a53, ea53, o_a53⟩ := ae hI o_a52 (by decide) (by decide) i54
        replace o_a53 : ob _ a53 3 := o_a53
        refine ⟨i54, a53, ea53, ?_⟩
        refine ⟨o_a46, ?_⟩
        refine m_X1_lay hI o_a46 o_a49 o_a53 (fun S56 hJ g57 fc58 => ?_)
        have hI := hJ
        have l_a41 := (gr_len g57 o_a41).trans l_a41
        have l_a48 := (gr_len g57 o_a48).trans l_a48
        have l_a52 := (gr_len g57 o_a52).trans l_a52
        have d_x1 := d_x1.trans (fri_at fc58 (by decide) (by decide) o_v0).symm
        have d_x44 := d_x44.trans (fri_at fc58 (by decide) (by decide) o_a42).symm
        have ea40 := (frr_at fc58 (by decide) (by decide) o_v0).trans ea40
        have ea41 := (frr_at fc58 (by decide) (by decide) o_a40).trans ea41
        have ea46 := (frr_at fc58 (by decide) (by decide) o_v0).trans ea46
        have ea48 := (frr_at fc58 (by decide) (by decide) o_a40).trans ea48
        have ea52 := (frr_at fc58 (by decide) (by decide) o_a40).trans ea52
        have f0 := fri_tr (S := S5) g0 f0 fc58 (by decide) (by decide)
        have o_a40 := gr_ob g57 o_a40
        have o_a41 := gr_ob g57 o_a41
        have o_a42 := gr_ob g57 o_a42
        have o_a46 := gr_ob g57 o_a46
        have o_a48 := gr_ob g57 o_a48
        have o_a49 := gr_ob g57 o_a49
        have o_a52 := gr_ob g57 o_a52
        have o_a53 := gr_ob g57 o_a53
        have o_v0 := gr_ob g57 o_v0
        have g0 := gr_tr (T := S5) g0 g57
        intro _
        refine ⟨a46, ea46, ?_⟩
        refine ⟨a40, ea40, ?_⟩
        refine ⟨o_a40, ?_⟩
        refine ⟨a41, ea41, ?_⟩
        refine ⟨o_a41, ?_⟩
        have i63 : vp_in v1 (hN _ a41) := (vin l_a41 (m := 4) (by decide) (q1368 p_x1 c6 c39 c45))
        obtain ⟨a62, ea62, o_a62⟩ := ae hI o_a41 (by decide) (by decide) i63
        replace o_a62 : ob _ a62 6 := o_a62
        refine ⟨i63, a62, ea62, ?_⟩
        refine ⟨o_a46, ?_⟩
        refine m_X1_isForward hI o_a46 o_a62 (fun x64 S65 hI2 g66 b_x64 p_x64 => ?_)
        subst p_x64
        intro _ _
        have bb_x64 : x64 = 0 ∨ x64 = 1 := b_x64
        refine ⟨fun c68 => ?_, fun c68 => ?_⟩
        · exact hq _ _ hI g0 f0
        · exact hq _ _ hI g0 f0
      · exact hq _ _ hI g0 f0
    · exact hq _ _ hI g0 f0
set_option maxHeartbeats 4000000 in
set_option maxRecDepth 20000 in
theorem m_X9_isTill {v0 : Int32} {Q : Int32 → HS → Prop} {S : HS} (hI : IV S)      (hq : ∀ (r : Int32) (T : HS), IV T → Gr S T → bl r → (S = T) ∧ (r = 1 → 0 ≤ v0 ∧ v0 ≤ 400) → Q r T) : P_X9_isTill v0 Q S := by
  have g0 := gr_rf S
  refine u_X9_isTill ?_
  refine u_X9_isTill_0 ?_
  refine ⟨fun c1 => ?_, fun c1 => ?_⟩
  · exact hq _ _ hI g0 (Or.inl rfl) ⟨rfl, (q747 c1)⟩
  · refine ⟨fun c2 => ?_, fun c2 => ?_⟩
    · exact hq _ _ hI g0 (Or.inl rfl) ⟨rfl, (q748 c1 c2)⟩
    · exact hq _ _ hI g0 (Or.inr rfl) ⟨rfl, (q749 c1 c2)⟩
set_option maxHeartbeats 4000000 in
set_option maxRecDepth 20000 in
theorem m_X9_placesTrouble {v0 : Nat} {v1 : Int32} {v2 : Int32} {v3 : Int32} {Q : Int32 → HS → Prop} {S : HS} (hI : IV S) (o_v0 : ob S v0 9)     (hq : ∀ (r : Int32) (T : HS), IV T → Gr S T → (S = T) ∧ (r = 0 → 0 ≤ v1 ∧ v1 < 4 ∧ 0 ≤ v2 ∧ v2 < 8 ∧ 0 ≤ v3 ∧ v3 < 8) → Q r T) : P_X9_placesTrouble v0 v1 v2 v3 Q S := by
  have g0 := gr_rf S
  refine u_X9_placesTrouble ?_
  refine u_X9_placesTrouble_0 ?_
  refine ⟨o_v0, ?_⟩
  obtain ⟨a1, ea1, o_a1, -⟩ := sh 1 rfl hI o_v0
  refine ⟨a1, ea1, ?_⟩
  refine ⟨o_a1, ?_⟩
  refine m_X8_hasWalker hI o_a1 (fun x2 S3 hI2 g4 b_x2 p_x2 => ?_)
  obtain ⟨z_S3, p_x2⟩ := p_x2
  subst z_S3
  intro _ _
  have bb_x2 : x2 = 0 ∨ x2 = 1 := b_x2
  refine ⟨fun c6 => ?_, fun c6 => ?_⟩
  · refine u_X9_placesTrouble_37 ?_
    refine u_X9_placesTrouble_38 ?_
    refine ⟨fun c7 => ?_, fun c7 => ?_⟩
    · exact hq _ _ hI g0 ⟨rfl, (q739 p_x2 bb_x2 c6)⟩
    · exact hq _ _ hI g0 ⟨rfl, (q740 p_x2 bb_x2 c6 c7)⟩
  · refine ⟨a1, ea1, ?_⟩
    refine ⟨o_a1, ?_⟩
    refine m_X8_hasPlace hI o_a1 (fun x9 S10 hI2 g11 b_x9 p_x9 => ?_)
    obtain ⟨z_S10, p_x9⟩ := p_x9
    subst z_S10
    intro _ _
    have bb_x9 : x9 = 0 ∨ x9 = 1 := b_x9
    refine ⟨fun c13 => ?_, fun c13 => ?_⟩
    · refine u_X9_placesTrouble_37 ?_
      refine u_X9_placesTrouble_38 ?_
      refine ⟨fun c14 => ?_, fun c14 => ?_⟩
      · exact hq _ _ hI g0 ⟨rfl, (q741 p_x2 bb_x2 c6 p_x9 bb_x9 c13)⟩
      · exact hq _ _ hI g0 ⟨rfl, (q742 p_x2 bb_x2 c6 p_x9 bb_x9 c13 c14)⟩
    · refine ⟨a1, ea1, ?_⟩
      refine ⟨o_a1, ?_⟩
      refine m_X8_hasPlace hI o_a1 (fun x16 S17 hI2 g18 b_x16 p_x16 => ?_)
      obtain ⟨z_S17, p_x16⟩ := p_x16
      subst z_S17
      intro _ _
      have bb_x16 : x16 = 0 ∨ x16 = 1 := b_x16
      refine ⟨fun c20 => ?_, fun c20 => ?_⟩
      · refine u_X9_placesTrouble_37 ?_
        refine u_X9_placesTrouble_38 ?_
        refine ⟨fun c21 => ?_, fun c21 => ?_⟩
        · exact hq _ _ hI g0 ⟨rfl, (q743 p_x2 bb_x2 c6 p_x9 bb_x9 c13 p_x16 bb_x16 c20)⟩
        · exact hq _ _ hI g0 ⟨rfl, (q744 p_x2 bb_x2 c6 p_x9 bb_x9 c13 p_x16 bb_x16 c20 c21)⟩
      · refine u_X9_placesTrouble_38 ?_
        refine ⟨fun c22 => ?_, fun c22 => ?_⟩
        · exact hq _ _ hI g0 ⟨rfl, (q745 p_x2 bb_x2 c6 p_x9 bb_x9 c13 p_x16 bb_x16 c20 c22)⟩
        · exact hq _ _ hI g0 ⟨rfl, (q746 p_x2 bb_x2 c6 p_x9 bb_x9 c13 p_x16 bb_x16 c20)⟩
set_option maxHeartbeats 4000000 in
set_option maxRecDepth 20000 in
theorem m_X9_wayTrouble {v0 : Nat} {v1 : Int32} {v2 : Int32} {v3 : Int32} {v4 : Int32} {v5 : Int32} {Q : Int32 → HS → Prop} {S : HS} (hI : IV S) (o_v0 : ob S v0 9)     (hq : ∀ (r : Int32) (T : HS), IV T → Gr S T → FRI [(7, 3), (7, 9), (7, 10), (7, 11), (7, 12), (7, 13)] [(7, 0), (7, 1), (7, 2), (7, 4), (7, 5), (7, 6), (7, 7), (7, 8)] S T → Q r T) : P_X9_wayTrouble v0 v1 v2 v3 v4 v5 Q S := by
  have g0 := gr_rf S
  have f0 := fri_rf [(7, 3), (7, 9), (7, 10), (7, 11), (7, 12), (7, 13)] [(7, 0), (7, 1), (7, 2), (7, 4), (7, 5), (7, 6), (7, 7), (7, 8)] S
  refine u_X9_wayTrouble ?_
  refine u_X9_wayTrouble_0 ?_
  refine ⟨o_v0, ?_⟩
  refine m_X9_placesTrouble hI o_v0 (fun x1 S2 hI2 g3 p_x1 => ?_)
  obtain ⟨z_S2, p_x1⟩ := p_x1
  subst z_S2
  intro _
  refine ⟨fun c5 => ?_, fun c5 => ?_⟩
  · refine m_X9_isTill hI (fun x6 S7 hI2 g8 b_x6 p_x6 => ?_)
    obtain ⟨z_S7, p_x6⟩ := p_x6
    subst z_S7
    intro _ _
    have bb_x6 : x6 = 0 ∨ x6 = 1 := b_x6
    refine ⟨fun c10 => ?_, fun c10 => ?_⟩
    · exact hq _ _ hI g0 f0
    · refine ⟨fun c11 => ?_, fun c11 => ?_⟩
      · exact hq _ _ hI g0 f0
      · refine ⟨fun c12 => ?_, fun c12 => ?_⟩
        · obtain ⟨a13, ea13, o_a13, -⟩ := sh 4 rfl hI o_v0
          refine ⟨a13, ea13, ?_⟩
          obtain ⟨a14, ea14, o_a14, -⟩ := sh 1 rfl hI o_v0
          refine ⟨a14, ea14, ?_⟩
          obtain ⟨a15, ea15, o_a15, -⟩ := sh 3 rfl hI o_v0
          refine ⟨a15, ea15, ?_⟩
          refine ⟨o_a13, ?_⟩
          refine m_X7_reckon hI o_a13 o_a14 o_a15 (q738 p_x1 c5 p_x6 bb_x6 c10 c11 c12) (fun S17 hJ g18 fc19 => ?_)
          have hI := hJ
          have ea13 := (frr_at fc19 (by decide) (by decide) o_v0).trans ea13
          have ea14 := (frr_at fc19 (by decide) (by decide) o_v0).trans ea14
          have ea15 := (frr_at fc19 (by decide) (by decide) o_v0).trans ea15
          have f0 := fri_tr (S := S) g0 f0 fc19 (by decide) (by decide)
          have o_a13 := gr_ob g18 o_a13
          have o_a14 := gr_ob g18 o_a14
          have o_a15 := gr_ob g18 o_a15
          have o_v0 := gr_ob g18 o_v0
          have g0 := gr_tr (T := S) g0 g18
          intro _
          refine ⟨a13, ea13, ?_⟩
          refine ⟨o_a13, ?_⟩
          refine m_X7_isOpen hI o_a13 (fun x21 S22 hI2 g23 b_x21 p_x21 => ?_)
          subst p_x21
          intro _ _
          have bb_x21 : x21 = 0 ∨ x21 = 1 := b_x21
          refine ⟨fun c25 => ?_, fun c25 => ?_⟩
          · exact hq _ _ hI g0 f0
          · exact hq _ _ hI g0 f0
        · exact hq _ _ hI g0 f0
  · exact hq _ _ hI g0 f0
set_option maxHeartbeats 4000000 in
set_option maxRecDepth 20000 in
theorem m_X9_least {v0 : Nat} {v1 : Int32} {v2 : Int32} {v3 : Int32} {v4 : Int32} {v5 : Int32} {v6 : Int32} {Q : Int64 → HS → Prop} {S : HS} (hI : IV S) (o_v0 : ob S v0 9)     (hq : ∀ (r : Int64) (T : HS), IV T → Gr S T → FRI [(7, 3), (7, 9), (7, 10), (7, 11), (7, 12), (7, 13), (9, 9)] [(7, 0), (7, 1), (7, 2), (7, 4), (7, 5), (7, 6), (7, 7), (7, 8)] S T → Q r T) : P_X9_least v0 v1 v2 v3 v4 v5 v6 Q S := by
  have g0 := gr_rf S
  have f0 := fri_rf [(7, 3), (7, 9), (7, 10), (7, 11), (7, 12), (7, 13), (9, 9)] [(7, 0), (7, 1), (7, 2), (7, 4), (7, 5), (7, 6), (7, 7), (7, 8)] S
  refine u_X9_least ?_
  refine u_X9_least_0 ?_
  refine ⟨o_v0, ?_⟩
  refine m_X9_wayTrouble hI o_v0 (fun x1 S2 hJ g3 fc4 => ?_)
  have hI := hJ
  have f0 := fri_tr (S := S) g0 f0 fc4 (by decide) (by decide)
  have o_v0 := gr_ob g3 o_v0
  have g0 := gr_tr (T := S) g0 g3
  intro _
  refine u_X9_refusedBy ?_
  refine u_X9_refusedBy_0 ?_
  refine ⟨o_v0, ?_⟩
  intro S5 eS5
  have hI : IV S5 := by rw [eS5]; exact iv_sI hI o_v0 (by decide) (nu_free (by decide))
  have f0 := fr_I eS5 g0 f0 o_v0 (by decide)
  have d_x1 := rd_Is eS5 (rfl : x1 = x1)
  have g0 := gr_I eS5 g0
  have o_v0 := ob_I eS5 o_v0
  refine ⟨fun c6 => ?_, fun c6 => ?_⟩
  · intro _ _
    refine ⟨fun c8 => ?_, fun c8 => ?_⟩
    · obtain ⟨a9, ea9, o_a9, -⟩ := sh 4 rfl hI o_v0
      refine ⟨a9, ea9, ?_⟩
      refine ⟨o_a9, ?_⟩
      refine m_X7_meanFrom hI o_a9 (fun x10 S11 hI2 g12 p_x10 => ?_)
      subst p_x10
      intro _
      refine m_X9_fraction hI (fun x14 S15 hI2 g16 p_x14 => ?_)
      subst p_x14
      intro _
      exact hq _ _ hI g0 f0
    · exact hq _ _ hI g0 f0
  · intro _ _
    refine ⟨fun c19 => ?_, fun c19 => ?_⟩
    · obtain ⟨a20, ea20, o_a20, -⟩ := sh 4 rfl hI o_v0
      refine ⟨a20, ea20, ?_⟩
      refine ⟨o_a20, ?_⟩
      refine m_X7_meanFrom hI o_a20 (fun x21 S22 hI2 g23 p_x21 => ?_)
      subst p_x21
      intro _
      refine m_X9_fraction hI (fun x25 S26 hI2 g27 p_x25 => ?_)
      subst p_x25
      intro _
      exact hq _ _ hI g0 f0
    · exact hq _ _ hI g0 f0
set_option maxHeartbeats 4000000 in
set_option maxRecDepth 20000 in
theorem m_X9_lee {v0 : Nat} {v1 : Int32} {v2 : Int32} {v3 : Int32} {v4 : Int32} {v5 : Int32} {v6 : Int32} {v7 : Int32} {Q : Int64 → HS → Prop} {S : HS} (hI : IV S) (o_v0 : ob S v0 9)     (hq : ∀ (r : Int64) (T : HS), IV T → Gr S T → FRI [(9, 9)] [] S T → Q r T) : P_X9_lee v0 v1 v2 v3 v4 v5 v6 v7 Q S := by
  have g0 := gr_rf S
  have f0 := fri_rf [(9, 9)] [] S
  refine u_X9_lee ?_
  refine u_X9_lee_0 ?_
  refine ⟨o_v0, ?_⟩
  refine m_X9_leeTrouble hI o_v0 (fun x1 S2 hI2 g3 p_x1 => ?_)
  obtain ⟨z_S2, p_x1⟩ := p_x1
  subst z_S2
  intro _
  refine u_X9_refusedBy ?_
  refine u_X9_refusedBy_0 ?_
  refine ⟨o_v0, ?_⟩
  intro S5 eS5
  have hI : IV S5 := by rw [eS5]; exact iv_sI hI o_v0 (by decide) (nu_free (by decide))
  have f0 := fr_I eS5 g0 f0 o_v0 (by decide)
  have d_x1 := rd_Is eS5 (rfl : x1 = x1)
  have g0 := gr_I eS5 g0
  have o_v0 := ob_I eS5 o_v0
  refine ⟨fun c6 => ?_, fun c6 => ?_⟩
  · intro _ _
    refine ⟨fun c8 => ?_, fun c8 => ?_⟩
    · obtain ⟨a9, ea9, o_a9, -⟩ := sh 3 rfl hI o_v0
      refine ⟨a9, ea9, ?_⟩
      obtain ⟨a10, ea10, o_a10, -⟩ := sh 1 rfl hI o_v0
      refine ⟨a10, ea10, ?_⟩
      refine ⟨o_a10, ?_⟩
      obtain ⟨a11, ea11, o_a11, l_a11⟩ := shl 17 rfl hI o_a10
      refine ⟨a11, ea11, ?_⟩
      refine ⟨o_a11, ?_⟩
      have i13 : vp_in v3 (hN _ a11) := (vin l_a11 (m := 12) (by decide) (q1352 p_x1 c6))
      obtain ⟨a12, ea12, o_a12⟩ := ae hI o_a11 (by decide) (by decide) i13
      replace o_a12 : ob _ a12 5 := o_a12
      refine ⟨i13, a12, ea12, ?_⟩
      refine ⟨a10, ea10, ?_⟩
      refine ⟨o_a10, ?_⟩
      obtain ⟨a15, ea15, o_a15, l_a15⟩ := shl 15 rfl hI o_a10
      refine ⟨a15, ea15, ?_⟩
      refine ⟨o_a15, ?_⟩
      have i17 : vp_in v5 (hN _ a15) := (vin l_a15 (m := 6) (by decide) (q1353 p_x1 c6))
      obtain ⟨a16, ea16, o_a16⟩ := ae hI o_a15 (by decide) (by decide) i17
      replace o_a16 : ob _ a16 3 := o_a16
      refine ⟨i17, a16, ea16, ?_⟩
      refine ⟨o_a9, ?_⟩
      refine m_X1_lay hI o_a9 o_a12 o_a16 (fun S19 hJ g20 fc21 => ?_)
      have hI := hJ
      have l_a11 := (gr_len g20 o_a11).trans l_a11
      have l_a15 := (gr_len g20 o_a15).trans l_a15
      have d_x1 := d_x1.trans (fri_at fc21 (by decide) (by decide) o_v0).symm
      have ea9 := (frr_at fc21 (by decide) (by decide) o_v0).trans ea9
      have ea10 := (frr_at fc21 (by decide) (by decide) o_v0).trans ea10
      have ea11 := (frr_at fc21 (by decide) (by decide) o_a10).trans ea11
      have ea15 := (frr_at fc21 (by decide) (by decide) o_a10).trans ea15
      have f0 := fri_tr (S := S5) g0 f0 fc21 (by decide) (by decide)
      have o_a10 := gr_ob g20 o_a10
      have o_a11 := gr_ob g20 o_a11
      have o_a12 := gr_ob g20 o_a12
      have o_a15 := gr_ob g20 o_a15
      have o_a16 := gr_ob g20 o_a16
      have o_a9 := gr_ob g20 o_a9
      have o_v0 := gr_ob g20 o_v0
      have g0 := gr_tr (T := S5) g0 g20
      intro _
      refine ⟨a9, ea9, ?_⟩
      refine ⟨a10, ea10, ?_⟩
      refine ⟨o_a10, ?_⟩
      obtain ⟨a24, ea24, o_a24, l_a24⟩ := shl 18 rfl hI o_a10
      refine ⟨a24, ea24, ?_⟩
      refine ⟨o_a24, ?_⟩
      have i26 : vp_in v1 (hN _ a24) := (vin l_a24 (m := 4) (by decide) (q1354 p_x1 c6))
      obtain ⟨a25, ea25, o_a25⟩ := ae hI o_a24 (by decide) (by decide) i26
      replace o_a25 : ob _ a25 6 := o_a25
      refine ⟨i26, a25, ea25, ?_⟩
      refine ⟨a10, ea10, ?_⟩
      refine ⟨o_a10, ?_⟩
      refine ⟨a24, ea24, ?_⟩
      refine ⟨o_a24, ?_⟩
      have i30 : vp_in v2 (hN _ a24) := (vin l_a24 (m := 4) (by decide) (q1355 p_x1 c6))
      obtain ⟨a29, ea29, o_a29⟩ := ae hI o_a24 (by decide) (by decide) i30
      replace o_a29 : ob _ a29 6 := o_a29
      refine ⟨i30, a29, ea29, ?_⟩
      refine ⟨o_a9, ?_⟩
      refine m_X1_wetInLee hI o_a9 o_a25 o_a29 (fun x31 S32 hJ g33 fc34 => ?_)
      have hI := hJ
      have l_a11 := (gr_len g33 o_a11).trans l_a11
      have l_a15 := (gr_len g33 o_a15).trans l_a15
      have l_a24 := (gr_len g33 o_a24).trans l_a24
      have d_x1 := d_x1.trans (fri_at fc34 (by decide) (by decide) o_v0).symm
      have ea9 := (frr_at fc34 (by decide) (by decide) o_v0).trans ea9
      have ea10 := (frr_at fc34 (by decide) (by decide) o_v0).trans ea10
      have ea11 := (frr_at fc34 (by decide) (by decide) o_a10).trans ea11
      have ea15 := (frr_at fc34 (by decide) (by decide) o_a10).trans ea15
      have ea24 := (frr_at fc34 (by decide) (by decide) o_a10).trans ea24
      have f0 := fri_tr (S := S19) g0 f0 fc34 (by decide) (by decide)
      have o_a10 := gr_ob g33 o_a10
      have o_a11 := gr_ob g33 o_a11
      have o_a12 := gr_ob g33 o_a12
      have o_a15 := gr_ob g33 o_a15
      have o_a16 := gr_ob g33 o_a16
      have o_a24 := gr_ob g33 o_a24
      have o_a25 := gr_ob g33 o_a25
      have o_a29 := gr_ob g33 o_a29
      have o_a9 := gr_ob g33 o_a9
      have o_v0 := gr_ob g33 o_v0
      have g0 := gr_tr (T := S19) g0 g33
      intro _
      refine m_X9_fraction hI (fun x35 S36 hI2 g37 p_x35 => ?_)
      subst p_x35
      intro _
      exact hq _ _ hI g0 f0
    · exact hq _ _ hI g0 f0
  · intro _ _
    refine ⟨fun c40 => ?_, fun c40 => ?_⟩
    · obtain ⟨a41, ea41, o_a41, -⟩ := sh 3 rfl hI o_v0
      refine ⟨a41, ea41, ?_⟩
      obtain ⟨a42, ea42, o_a42, -⟩ := sh 1 rfl hI o_v0
      refine ⟨a42, ea42, ?_⟩
      refine ⟨o_a42, ?_⟩
      obtain ⟨a43, ea43, o_a43, l_a43⟩ := shl 17 rfl hI o_a42
      refine ⟨a43, ea43, ?_⟩
      refine ⟨o_a43, ?_⟩
      have i45 : vp_in v3 (hN _ a43) := (vin l_a43 (m := 12) (by decide) (q1356 p_x1 c6 c40))
      obtain ⟨a44, ea44, o_a44⟩ := ae hI o_a43 (by decide) (by decide) i45
      replace o_a44 : ob _ a44 5 := o_a44
      refine ⟨i45, a44, ea44, ?_⟩
      refine ⟨a42, ea42, ?_⟩
      refine ⟨o_a42, ?_⟩
      obtain ⟨a47, ea47, o_a47, l_a47⟩ := shl 15 rfl hI o_a42
      refine ⟨a47, ea47, ?_⟩
      refine ⟨o_a47, ?_⟩
      have i49 : vp_in v5 (hN _ a47) := (vin l_a47 (m := 6) (by decide) (q1357 p_x1 c6 c40))
      obtain ⟨a48, ea48, o_a48⟩ := ae hI o_a47 (by decide) (by decide) i49
      replace o_a48 : ob _ a48 3 := o_a48
      refine ⟨i49, a48, ea48, ?_⟩
      refine ⟨o_a41, ?_⟩
      refine m_X1_lay hI o_a41 o_a44 o_a48 (fun S51 hJ g52 fc53 => ?_)
      have hI := hJ
      have l_a43 := (gr_len g52 o_a43).trans l_a43
      have l_a47 := (gr_len g52 o_a47).trans l_a47
      have d_x1 := d_x1.trans (fri_at fc53 (by decide) (by decide) o_v0).symm
      have ea41 := (frr_at fc53 (by decide) (by decide) o_v0).trans ea41
      have ea42 := (frr_at fc53 (by decide) (by decide) o_v0).trans ea42
      have ea43 := (frr_at fc53 (by decide) (by decide) o_a42).trans ea43
      have ea47 := (frr_at fc53 (by decide) (by decide) o_a42).trans ea47
      have f0 := fri_tr (S := S5) g0 f0 fc53 (by decide) (by decide)
      have o_a41 := gr_ob g52 o_a41
      have o_a42 := gr_ob g52 o_a42
      have o_a43 := gr_ob g52 o_a43
      have o_a44 := gr_ob g52 o_a44
      have o_a47 := gr_ob g52 o_a47
      have o_a48 := gr_ob g52 o_a48
      have o_v0 := gr_ob g52 o_v0
      have g0 := gr_tr (T := S5) g0 g52
      intro _
      refine ⟨a41, ea41, ?_⟩
      refine ⟨a42, ea42, ?_⟩
      refine ⟨o_a42, ?_⟩
      obtain ⟨a56, ea56, o_a56, l_a56⟩ := shl 18 rfl hI o_a42
      refine ⟨a56, ea56, ?_⟩
      refine ⟨o_a56, ?_⟩
      have i58 : vp_in v1 (hN _ a56) := (vin l_a56 (m := 4) (by decide) (q1358 p_x1 c6 c40))
      obtain ⟨a57, ea57, o_a57⟩ := ae hI o_a56 (by decide) (by decide) i58
      replace o_a57 : ob _ a57 6 := o_a57
      refine ⟨i58, a57, ea57, ?_⟩
      refine ⟨a42, ea42, ?_⟩
      refine ⟨o_a42, ?_⟩
      refine ⟨a56, ea56, ?_⟩
      refine ⟨o_a56, ?_⟩
      have i62 : vp_in v2 (hN _ a56) := (vin l_a56 (m := 4) (by decide) (q1359 p_x1 c6 c40))
      obtain ⟨a61, ea61, o_a61⟩ := ae hI o_a56 (by decide) (by decide) i62
      replace o_a61 : ob _ a61 6 := o_a61
      refine ⟨i62, a61, ea61, ?_⟩
      refine ⟨o_a41, ?_⟩
      refine m_X1_wetInLee hI o_a41 o_a57 o_a61 (fun x63 S64 hJ g65 fc66 => ?_)
      have hI := hJ
      have l_a43 := (gr_len g65 o_a43).trans l_a43
      have l_a47 := (gr_len g65 o_a47).trans l_a47
      have l_a56 := (gr_len g65 o_a56).trans l_a56
      have d_x1 := d_x1.trans (fri_at fc66 (by decide) (by decide) o_v0).symm
      have ea41 := (frr_at fc66 (by decide) (by decide) o_v0).trans ea41
      have ea42 := (frr_at fc66 (by decide) (by decide) o_v0).trans ea42
      have ea43 := (frr_at fc66 (by decide) (by decide) o_a42).trans ea43
      have ea47 := (frr_at fc66 (by decide) (by decide) o_a42).trans ea47
      have ea56 := (frr_at fc66 (by decide) (by decide) o_a42).trans ea56
      have f0 := fri_tr (S := S51) g0 f0 fc66 (by decide) (by decide)
      have o_a41 := gr_ob g65 o_a41
      have o_a42 := gr_ob g65 o_a42
      have o_a43 := gr_ob g65 o_a43
      have o_a44 := gr_ob g65 o_a44
      have o_a47 := gr_ob g65 o_a47
      have o_a48 := gr_ob g65 o_a48
      have o_a56 := gr_ob g65 o_a56
      have o_a57 := gr_ob g65 o_a57
      have o_a61 := gr_ob g65 o_a61
      have o_v0 := gr_ob g65 o_v0
      have g0 := gr_tr (T := S51) g0 g65
      intro _
      refine m_X9_fraction hI (fun x67 S68 hI2 g69 p_x67 => ?_)
      subst p_x67
      intro _
      exact hq _ _ hI g0 f0
    · exact hq _ _ hI g0 f0
set_option maxHeartbeats 4000000 in
set_option maxRecDepth 20000 in
theorem m_X9_lies {v0 : Nat} {Q : Int32 → HS → Prop} {S : HS} (hI : IV S) (o_v0 : ob S v0 9)     (hq : ∀ (r : Int32) (T : HS), IV T → Gr S T → FRI [(9, 9)] [] S T → Q r T) : P_X9_lies v0 Q S := by
  have g0 := gr_rf S
  have f0 := fri_rf [(9, 9)] [] S
  refine u_X9_lies ?_
  refine u_X9_lies_0 ?_
  refine ⟨o_v0, ?_⟩
  obtain ⟨a1, ea1, o_a1, -⟩ := sh 1 rfl hI o_v0
  refine ⟨a1, ea1, ?_⟩
  refine ⟨o_a1, ?_⟩
  refine m_X8_isTold hI o_a1 (fun x2 S3 hI2 g4 b_x2 p_x2 => ?_)
  subst p_x2
  intro _ _
  have bb_x2 : x2 = 0 ∨ x2 = 1 := b_x2
  refine ⟨fun c6 => ?_, fun c6 => ?_⟩
  · refine i_X9_lies_20 (fun (y0 : Nat) (y1 : Int32) (y2 : Int32) (Z : HS) => ((2147483647 : Int32).toInt - y2.toInt).toNat) (fun (y0 : Nat) (y1 : Int32) (y2 : Int32) (Z : HS) => (IV Z) ∧ (Gr S Z) ∧ (FRI [] [] S Z) ∧ (v0 = y0) ∧ (0 ≤ y2)) ?_ _ _ _ _ ⟨hI, (gr_rf _), (fri_rf _ _ _), rfl, (q202 bb_x2 c6)⟩
    intro w11 w13 w14 S8 X15 ⟨hI, gL9, fL10, q12, i1u7⟩ ih16
    subst q12
    have ea1 := (frr_at fL10 (by decide) (by decide) o_v0).trans ea1
    have f0 := fri_tr (S := S) g0 f0 fL10 (by decide) (by decide)
    have o_a1 := gr_ob gL9 o_a1
    have o_v0 := gr_ob gL9 o_v0
    have g0 := gr_tr (T := S) g0 gL9
    refine u_X9_lies_20 ?_
    refine ⟨o_v0, ?_⟩
    refine ⟨a1, ea1, ?_⟩
    refine ⟨o_a1, ?_⟩
    intro x18 ex18
    have r_x18 : (0 : Int32) ≤ x18 ∧ x18 ≤ (4 : Int32) := by rw [ex18]; exact nu 15 rfl hI o_a1
    have d_x18 := ex18
    refine ⟨fun c19 => ?_, fun c19 => ?_⟩
    · refine u_X9_grant ?_
      refine u_X9_grant_0 ?_
      refine ⟨o_v0, ?_⟩
      intro S20 eS20
      have hI : IV S20 := by rw [eS20]; exact iv_sI hI o_v0 (by decide) (nu_free (by decide))
      have f0 := fr_I eS20 g0 f0 o_v0 (by decide)
      have d_x18 := rd_Ik eS20 o_v0 o_a1 (by decide) d_x18
      obtain ⟨y21, hy21⟩ : ∃ z : Int32, z = (0 : Int32) := ⟨_, rfl⟩
      have d_y21 := rd_Is eS20 hy21
      have ea1 := rf_I eS20 ea1
      have g0 := gr_I eS20 g0
      have o_a1 := ob_I eS20 o_a1
      have o_v0 := ob_I eS20 o_v0
      intro _
      exact hq _ _ hI g0 f0
    · obtain ⟨a23, ea23, o_a23, -⟩ := sh 3 rfl hI o_v0
      refine ⟨a23, ea23, ?_⟩
      refine ⟨a1, ea1, ?_⟩
      refine ⟨o_a23, ?_⟩
      refine m_X1_findFit hI o_a23 o_a1 (fun x25 S26 hJ g27 fc28 => ?_)
      have hI := hJ
      have d_x18 := d_x18.trans (fri_at fc28 (by decide) (by decide) o_a1).symm
      have ea1 := (frr_at fc28 (by decide) (by decide) o_v0).trans ea1
      have ea23 := (frr_at fc28 (by decide) (by decide) o_v0).trans ea23
      have f0 := fri_tr (S := S8) g0 f0 fc28 (by decide) (by decide)
      have fL10 := fri_tr (S := S8) gL9 fL10 fc28 (by decide) (by decide)
      have o_a1 := gr_ob g27 o_a1
      have o_a23 := gr_ob g27 o_a23
      have o_v0 := gr_ob g27 o_v0
      have g0 := gr_tr (T := S8) g0 g27
      have gL9 := gr_tr (T := S8) gL9 g27
      intro _
      refine ⟨fun c29 => ?_, fun c29 => ?_⟩
      · refine u_X9_lies_54 ?_
        intro x30 ex30
        exact ih16 _ _ _ _ ⟨hI, gL9, fL10, rfl, (q1311 bb_x2 c6 i1u7 r_x18 c19 c29 ex30)⟩ (mu_up (q1312 bb_x2 c6 i1u7 r_x18 c19 c29 ex30) (q1313 bb_x2 c6 i1u7 r_x18 c19 c29 ex30))
      · intro x31 ex31
        refine u_X9_lies_54 ?_
        intro x32 ex32
        exact ih16 _ _ _ _ ⟨hI, gL9, fL10, rfl, (q1314 bb_x2 c6 i1u7 r_x18 c19 c29 ex31 ex32)⟩ (mu_up (q1315 bb_x2 c6 i1u7 r_x18 c19 c29 ex31 ex32) (q1316 bb_x2 c6 i1u7 r_x18 c19 c29 ex31 ex32))
  · refine u_X9_refuse ?_
    refine u_X9_refuse_0 ?_
    refine ⟨o_v0, ?_⟩
    intro S33 eS33
    have hI : IV S33 := by rw [eS33]; exact iv_sI hI o_v0 (by decide) (nu_free (by decide))
    have f0 := fr_I eS33 g0 f0 o_v0 (by decide)
    obtain ⟨y34, hy34⟩ : ∃ z : Int32, z = (1 : Int32) := ⟨_, rfl⟩
    have d_y34 := rd_Is eS33 hy34
    have ea1 := rf_I eS33 ea1
    have g0 := gr_I eS33 g0
    have o_a1 := ob_I eS33 o_a1
    have o_v0 := ob_I eS33 o_v0
    intro _
    exact hq _ _ hI g0 f0
set_option maxHeartbeats 4000000 in
set_option maxRecDepth 20000 in
theorem m_X9_mark {v0 : Nat} {Q : Int32 → HS → Prop} {S : HS} (hI : IV S) (o_v0 : ob S v0 9)     (hq : ∀ (r : Int32) (T : HS), IV T → Gr S T → FRI [(0, 3), (2, 0), (2, 1), (9, 9)] [] S T → Q r T) : P_X9_mark v0 Q S := by
  have g0 := gr_rf S
  have f0 := fri_rf [(0, 3), (2, 0), (2, 1), (9, 9)] [] S
  refine u_X9_mark ?_
  refine u_X9_mark_0 ?_
  refine ⟨o_v0, ?_⟩
  obtain ⟨a1, ea1, o_a1, -⟩ := sh 5 rfl hI o_v0
  refine ⟨a1, ea1, ?_⟩
  refine ⟨o_a1, ?_⟩
  refine m_X0_isOn hI o_a1 (fun x2 S3 hI2 g4 b_x2 p_x2 => ?_)
  subst p_x2
  intro _ _
  have bb_x2 : x2 = 0 ∨ x2 = 1 := b_x2
  refine ⟨fun c6 => ?_, fun c6 => ?_⟩
  · refine ⟨a1, ea1, ?_⟩
    refine ⟨o_a1, ?_⟩
    refine m_X0_setMark hI o_a1 (fun x8 S9 hJ g10 fc11 => ?_)
    have hI := hJ
    have ea1 := (frr_at fc11 (by decide) (by decide) o_v0).trans ea1
    have f0 := fri_tr (S := S) g0 f0 fc11 (by decide) (by decide)
    have o_a1 := gr_ob g10 o_a1
    have o_v0 := gr_ob g10 o_v0
    have g0 := gr_tr (T := S) g0 g10
    intro _
    refine ⟨fun c12 => ?_, fun c12 => ?_⟩
    · refine u_X9_grant ?_
      refine u_X9_grant_0 ?_
      refine ⟨o_v0, ?_⟩
      intro S13 eS13
      have hI : IV S13 := by rw [eS13]; exact iv_sI hI o_v0 (by decide) (nu_free (by decide))
      have f0 := fr_I eS13 g0 f0 o_v0 (by decide)
      obtain ⟨y14, hy14⟩ : ∃ z : Int32, z = (0 : Int32) := ⟨_, rfl⟩
      have d_y14 := rd_Is eS13 hy14
      have ea1 := rf_I eS13 ea1
      have g0 := gr_I eS13 g0
      have o_a1 := ob_I eS13 o_a1
      have o_v0 := ob_I eS13 o_v0
      intro _
      exact hq _ _ hI g0 f0
    · refine u_X9_refuse ?_
      refine u_X9_refuse_0 ?_
      refine ⟨o_v0, ?_⟩
      intro S16 eS16
      have hI : IV S16 := by rw [eS16]; exact iv_sI hI o_v0 (by decide) (nu_free (by decide))
      have f0 := fr_I eS16 g0 f0 o_v0 (by decide)
      obtain ⟨y17, hy17⟩ : ∃ z : Int32, z = (3 : Int32) := ⟨_, rfl⟩
      have d_y17 := rd_Is eS16 hy17
      have ea1 := rf_I eS16 ea1
      have g0 := gr_I eS16 g0
      have o_a1 := ob_I eS16 o_a1
      have o_v0 := ob_I eS16 o_v0
      intro _
      exact hq _ _ hI g0 f0
  · refine u_X9_refuse ?_
    refine u_X9_refuse_0 ?_
    refine ⟨o_v0, ?_⟩
    intro S19 eS19
    have hI : IV S19 := by rw [eS19]; exact iv_sI hI o_v0 (by decide) (nu_free (by decide))
    have f0 := fr_I eS19 g0 f0 o_v0 (by decide)
    obtain ⟨y20, hy20⟩ : ∃ z : Int32, z = (1 : Int32) := ⟨_, rfl⟩
    have d_y20 := rd_Is eS19 hy20
    have ea1 := rf_I eS19 ea1
    have g0 := gr_I eS19 g0
    have o_a1 := ob_I eS19 o_a1
    have o_v0 := ob_I eS19 o_v0
    intro _
    exact hq _ _ hI g0 f0
set_option maxHeartbeats 4000000 in
set_option maxRecDepth 20000 in
theorem m_X9_mean {v0 : Nat} {v1 : Int32} {v2 : Int32} {v3 : Int32} {v4 : Int32} {v5 : Int32} {v6 : Int32} {Q : Int64 → HS → Prop} {S : HS} (hI : IV S) (o_v0 : ob S v0 9)     (hq : ∀ (r : Int64) (T : HS), IV T → Gr S T → FRI [(9, 9)] [] S T → Q r T) : P_X9_mean v0 v1 v2 v3 v4 v5 v6 Q S := by
  have g0 := gr_rf S
  have f0 := fri_rf [(9, 9)] [] S
  refine u_X9_mean ?_
  refine u_X9_mean_0 ?_
  refine ⟨o_v0, ?_⟩
  refine m_X9_legTrouble hI o_v0 (fun x1 S2 hI2 g3 p_x1 => ?_)
  obtain ⟨z_S2, p_x1⟩ := p_x1
  subst z_S2
  intro _
  refine u_X9_refusedBy ?_
  refine u_X9_refusedBy_0 ?_
  refine ⟨o_v0, ?_⟩
  intro S5 eS5
  have hI : IV S5 := by rw [eS5]; exact iv_sI hI o_v0 (by decide) (nu_free (by decide))
  have f0 := fr_I eS5 g0 f0 o_v0 (by decide)
  have d_x1 := rd_Is eS5 (rfl : x1 = x1)
  have g0 := gr_I eS5 g0
  have o_v0 := ob_I eS5 o_v0
  refine ⟨fun c6 => ?_, fun c6 => ?_⟩
  · intro _ _
    refine ⟨fun c8 => ?_, fun c8 => ?_⟩
    · obtain ⟨a9, ea9, o_a9, -⟩ := sh 3 rfl hI o_v0
      refine ⟨a9, ea9, ?_⟩
      obtain ⟨a10, ea10, o_a10, -⟩ := sh 1 rfl hI o_v0
      refine ⟨a10, ea10, ?_⟩
      refine ⟨o_a10, ?_⟩
      obtain ⟨a11, ea11, o_a11, l_a11⟩ := shl 18 rfl hI o_a10
      refine ⟨a11, ea11, ?_⟩
      refine ⟨o_a11, ?_⟩
      have i13 : vp_in v1 (hN _ a11) := (vin l_a11 (m := 4) (by decide) (q0 p_x1 c6))
      obtain ⟨a12, ea12, o_a12⟩ := ae hI o_a11 (by decide) (by decide) i13
      replace o_a12 : ob _ a12 6 := o_a12
      refine ⟨i13, a12, ea12, ?_⟩
      refine ⟨a10, ea10, ?_⟩
      refine ⟨o_a10, ?_⟩
      obtain ⟨a15, ea15, o_a15, l_a15⟩ := shl 17 rfl hI o_a10
      refine ⟨a15, ea15, ?_⟩
      refine ⟨o_a15, ?_⟩
      have i17 : vp_in v2 (hN _ a15) := (vin l_a15 (m := 12) (by decide) (q1 p_x1 c6))
      obtain ⟨a16, ea16, o_a16⟩ := ae hI o_a15 (by decide) (by decide) i17
      replace o_a16 : ob _ a16 5 := o_a16
      refine ⟨i17, a16, ea16, ?_⟩
      refine ⟨a10, ea10, ?_⟩
      refine ⟨o_a10, ?_⟩
      obtain ⟨a19, ea19, o_a19, l_a19⟩ := shl 15 rfl hI o_a10
      refine ⟨a19, ea19, ?_⟩
      refine ⟨o_a19, ?_⟩
      have i21 : vp_in v4 (hN _ a19) := (vin l_a19 (m := 6) (by decide) (q2 p_x1 c6))
      obtain ⟨a20, ea20, o_a20⟩ := ae hI o_a19 (by decide) (by decide) i21
      replace o_a20 : ob _ a20 3 := o_a20
      refine ⟨i21, a20, ea20, ?_⟩
      refine ⟨o_a9, ?_⟩
      refine m_X1_wetOf hI o_a9 o_a12 o_a16 o_a20 (fun x22 S23 hJ g24 fc25 => ?_)
      have hI := hJ
      have l_a11 := (gr_len g24 o_a11).trans l_a11
      have l_a15 := (gr_len g24 o_a15).trans l_a15
      have l_a19 := (gr_len g24 o_a19).trans l_a19
      have d_x1 := d_x1.trans (fri_at fc25 (by decide) (by decide) o_v0).symm
      have ea9 := (frr_at fc25 (by decide) (by decide) o_v0).trans ea9
      have ea10 := (frr_at fc25 (by decide) (by decide) o_v0).trans ea10
      have ea11 := (frr_at fc25 (by decide) (by decide) o_a10).trans ea11
      have ea15 := (frr_at fc25 (by decide) (by decide) o_a10).trans ea15
      have ea19 := (frr_at fc25 (by decide) (by decide) o_a10).trans ea19
      have f0 := fri_tr (S := S5) g0 f0 fc25 (by decide) (by decide)
      have o_a10 := gr_ob g24 o_a10
      have o_a11 := gr_ob g24 o_a11
      have o_a12 := gr_ob g24 o_a12
      have o_a15 := gr_ob g24 o_a15
      have o_a16 := gr_ob g24 o_a16
      have o_a19 := gr_ob g24 o_a19
      have o_a20 := gr_ob g24 o_a20
      have o_a9 := gr_ob g24 o_a9
      have o_v0 := gr_ob g24 o_v0
      have g0 := gr_tr (T := S5) g0 g24
      intro _
      refine ⟨a10, ea10, ?_⟩
      refine ⟨o_a10, ?_⟩
      refine ⟨a19, ea19, ?_⟩
      refine ⟨o_a19, ?_⟩
      have i29 : vp_in v4 (hN _ a19) := (vin l_a19 (m := 6) (by decide) (q2 p_x1 c6))
      obtain ⟨a28, ea28, o_a28⟩ := ae hI o_a19 (by decide) (by decide) i29
      replace o_a28 : ob _ a28 3 := o_a28
      refine ⟨i29, a28, ea28, ?_⟩
      refine ⟨o_a28, ?_⟩
      intro x30 ex30
      have d_x30 := ex30
      refine m_X9_fraction hI (fun x31 S32 hI2 g33 p_x31 => ?_)
      subst p_x31
      intro _
      exact hq _ _ hI g0 f0
    · exact hq _ _ hI g0 f0
  · intro _ _
    refine ⟨fun c36 => ?_, fun c36 => ?_⟩
    · obtain ⟨a37, ea37, o_a37, -⟩ := sh 3 rfl hI o_v0
      refine ⟨a37, ea37, ?_⟩
      obtain ⟨a38, ea38, o_a38, -⟩ := sh 1 rfl hI o_v0
      refine ⟨a38, ea38, ?_⟩
      refine ⟨o_a38, ?_⟩
      obtain ⟨a39, ea39, o_a39, l_a39⟩ := shl 18 rfl hI o_a38
      refine ⟨a39, ea39, ?_⟩
      refine ⟨o_a39, ?_⟩
      have i41 : vp_in v1 (hN _ a39) := (vin l_a39 (m := 4) (by decide) (q3 p_x1 c6 c36))
      obtain ⟨a40, ea40, o_a40⟩ := ae hI o_a39 (by decide) (by decide) i41
      replace o_a40 : ob _ a40 6 := o_a40
      refine ⟨i41, a40, ea40, ?_⟩
      refine ⟨a38, ea38, ?_⟩
      refine ⟨o_a38, ?_⟩
      obtain ⟨a43, ea43, o_a43, l_a43⟩ := shl 17 rfl hI o_a38
      refine ⟨a43, ea43, ?_⟩
      refine ⟨o_a43, ?_⟩
      have i45 : vp_in v2 (hN _ a43) := (vin l_a43 (m := 12) (by decide) (q4 p_x1 c6 c36))
      obtain ⟨a44, ea44, o_a44⟩ := ae hI o_a43 (by decide) (by decide) i45
      replace o_a44 : ob _ a44 5 := o_a44
      refine ⟨i45, a44, ea44, ?_⟩
      refine ⟨a38, ea38, ?_⟩
      refine ⟨o_a38, ?_⟩
      obtain ⟨a47, ea47, o_a47, l_a47⟩ := shl 15 rfl hI o_a38
      refine ⟨a47, ea47, ?_⟩
      refine ⟨o_a47, ?_⟩
      have i49 : vp_in v4 (hN _ a47) := (vin l_a47 (m := 6) (by decide) (q5 p_x1 c6 c36))
      obtain ⟨a48, ea48, o_a48⟩ := ae hI o_a47 (by decide) (by decide) i49
      replace o_a48 : ob _ a48 3 := o_a48
      refine ⟨i49, a48, ea48, ?_⟩
      refine ⟨o_a37, ?_⟩
      refine m_X1_wetOf hI o_a37 o_a40 o_a44 o_a48 (fun x50 S51 hJ g52 fc53 => ?_)
      have hI := hJ
      have l_a39 := (gr_len g52 o_a39).trans l_a39
      have l_a43 := (gr_len g52 o_a43).trans l_a43
      have l_a47 := (gr_len g52 o_a47).trans l_a47
      have d_x1 := d_x1.trans (fri_at fc53 (by decide) (by decide) o_v0).symm
      have ea37 := (frr_at fc53 (by decide) (by decide) o_v0).trans ea37
      have ea38 := (frr_at fc53 (by decide) (by decide) o_v0).trans ea38
      have ea39 := (frr_at fc53 (by decide) (by decide) o_a38).trans ea39
      have ea43 := (frr_at fc53 (by decide) (by decide) o_a38).trans ea43
      have ea47 := (frr_at fc53 (by decide) (by decide) o_a38).trans ea47
      have f0 := fri_tr (S := S5) g0 f0 fc53 (by decide) (by decide)
      have o_a37 := gr_ob g52 o_a37
      have o_a38 := gr_ob g52 o_a38
      have o_a39 := gr_ob g52 o_a39
      have o_a40 := gr_ob g52 o_a40
      have o_a43 := gr_ob g52 o_a43
      have o_a44 := gr_ob g52 o_a44
      have o_a47 := gr_ob g52 o_a47
      have o_a48 := gr_ob g52 o_a48
      have o_v0 := gr_ob g52 o_v0
      have g0 := gr_tr (T := S5) g0 g52
      intro _
      refine ⟨a38, ea38, ?_⟩
      refine ⟨o_a38, ?_⟩
      refine ⟨a47, ea47, ?_⟩
      refine ⟨o_a47, ?_⟩
      have i57 : vp_in v4 (hN _ a47) := (vin l_a47 (m := 6) (by decide) (q5 p_x1 c6 c36))
      obtain ⟨a56, ea56, o_a56⟩ := ae hI o_a47 (by decide) (by decide) i57
      replace o_a56 : ob _ a56 3 := o_a56
      refine ⟨i57, a56, ea56, ?_⟩
      refine ⟨o_a56, ?_⟩
      intro x58 ex58
      have d_x58 := ex58
      refine m_X9_fraction hI (fun x59 S60 hI2 g61 p_x59 => ?_)
      subst p_x59
      intro _
      exact hq _ _ hI g0 f0
    · exact hq _ _ hI g0 f0
end
section
set_option maxHeartbeats 4000000 in
set_option maxRecDepth 20000 in
theorem m_X9_minutes {v0 : Nat} {v1 : Int32} {v2 : Int32} {v3 : Int32} {Q : Int32 → HS → Prop} {S : HS} (hI : IV S) (o_v0 : ob S v0 9)     (hq : ∀ (r : Int32) (T : HS), IV T → Gr S T → FRI [(9, 9)] [] S T → Q r T) : P_X9_minutes v0 v1 v2 v3 Q S := by
  have g0 := gr_rf S
  have f0 := fri_rf [(9, 9)] [] S
  refine u_X9_minutes ?_
  refine u_X9_minutes_0 ?_
  refine ⟨o_v0, ?_⟩
  obtain ⟨a1, ea1, o_a1, -⟩ := sh 1 rfl hI o_v0
  refine ⟨a1, ea1, ?_⟩
  refine ⟨o_a1, ?_⟩
  refine m_X8_hasWalker hI o_a1 (fun x2 S3 hI2 g4 b_x2 p_x2 => ?_)
  obtain ⟨z_S3, p_x2⟩ := p_x2
  subst z_S3
  intro _ _
  have bb_x2 : x2 = 0 ∨ x2 = 1 := b_x2
  refine ⟨fun c6 => ?_, fun c6 => ?_⟩
  · refine u_X9_minutes_22 ?_
    refine ⟨o_v0, ?_⟩
    refine u_X9_refuse ?_
    refine u_X9_refuse_0 ?_
    refine ⟨o_v0, ?_⟩
    intro S7 eS7
    have hI : IV S7 := by rw [eS7]; exact iv_sI hI o_v0 (by decide) (nu_free (by decide))
    have f0 := fr_I eS7 g0 f0 o_v0 (by decide)
    obtain ⟨y8, hy8⟩ : ∃ z : Int32, z = (1 : Int32) := ⟨_, rfl⟩
    have d_y8 := rd_Is eS7 hy8
    have ea1 := rf_I eS7 ea1
    have g0 := gr_I eS7 g0
    have o_a1 := ob_I eS7 o_a1
    have o_v0 := ob_I eS7 o_v0
    intro _
    exact hq _ _ hI g0 f0
  · refine ⟨a1, ea1, ?_⟩
    refine ⟨o_a1, ?_⟩
    refine m_X8_hasRoad hI o_a1 (fun x11 S12 hI2 g13 b_x11 p_x11 => ?_)
    obtain ⟨z_S12, p_x11⟩ := p_x11
    subst z_S12
    intro _ _
    have bb_x11 : x11 = 0 ∨ x11 = 1 := b_x11
    refine ⟨fun c15 => ?_, fun c15 => ?_⟩
    · refine ⟨a1, ea1, ?_⟩
      refine ⟨o_a1, ?_⟩
      obtain ⟨a17, ea17, o_a17, l_a17⟩ := shl 18 rfl hI o_a1
      refine ⟨a17, ea17, ?_⟩
      refine ⟨o_a17, ?_⟩
      have i19 : vp_in v1 (hN _ a17) := (vin l_a17 (m := 4) (by decide) (q1307 p_x2 bb_x2 c6 p_x11 bb_x11 c15))
      obtain ⟨a18, ea18, o_a18⟩ := ae hI o_a17 (by decide) (by decide) i19
      replace o_a18 : ob _ a18 6 := o_a18
      refine ⟨i19, a18, ea18, ?_⟩
      refine ⟨o_a18, ?_⟩
      refine m_X6_canGo hI o_a18 (fun x20 S21 hI2 g22 b_x20 p_x20 => ?_)
      subst p_x20
      intro _ _
      have bb_x20 : x20 = 0 ∨ x20 = 1 := b_x20
      refine ⟨fun c24 => ?_, fun c24 => ?_⟩
      · refine ⟨a1, ea1, ?_⟩
        refine ⟨o_a1, ?_⟩
        obtain ⟨a26, ea26, o_a26, l_a26⟩ := shl 17 rfl hI o_a1
        refine ⟨a26, ea26, ?_⟩
        refine ⟨o_a26, ?_⟩
        have i28 : vp_in v2 (hN _ a26) := (vin l_a26 (m := 12) (by decide) (q1308 p_x2 bb_x2 c6 p_x11 bb_x11 c15 bb_x20 c24))
        obtain ⟨a27, ea27, o_a27⟩ := ae hI o_a26 (by decide) (by decide) i28
        replace o_a27 : ob _ a27 5 := o_a27
        refine ⟨i28, a27, ea27, ?_⟩
        refine ⟨o_a27, ?_⟩
        refine m_X5_minutesAt hI o_a27 (fun x29 S30 hI2 g31 p_x29 => ?_)
        subst p_x29
        intro _
        refine u_X9_grant ?_
        refine u_X9_grant_0 ?_
        refine ⟨o_v0, ?_⟩
        intro S33 eS33
        have hI : IV S33 := by rw [eS33]; exact iv_sI hI o_v0 (by decide) (nu_free (by decide))
        have f0 := fr_I eS33 g0 f0 o_v0 (by decide)
        obtain ⟨y34, hy34⟩ : ∃ z : Int32, z = (0 : Int32) := ⟨_, rfl⟩
        have d_y34 := rd_Is eS33 hy34
        have ea1 := rf_I eS33 ea1
        have ea17 := rf_I eS33 ea17
        have ea26 := rf_I eS33 ea26
        have l_a17 := ln_I eS33 l_a17
        have l_a26 := ln_I eS33 l_a26
        have g0 := gr_I eS33 g0
        have o_a1 := ob_I eS33 o_a1
        have o_a17 := ob_I eS33 o_a17
        have o_a18 := ob_I eS33 o_a18
        have o_a26 := ob_I eS33 o_a26
        have o_a27 := ob_I eS33 o_a27
        have o_v0 := ob_I eS33 o_v0
        intro _
        exact hq _ _ hI g0 f0
      · refine u_X9_refuse ?_
        refine u_X9_refuse_0 ?_
        refine ⟨o_v0, ?_⟩
        intro S36 eS36
        have hI : IV S36 := by rw [eS36]; exact iv_sI hI o_v0 (by decide) (nu_free (by decide))
        have f0 := fr_I eS36 g0 f0 o_v0 (by decide)
        obtain ⟨y37, hy37⟩ : ∃ z : Int32, z = (2 : Int32) := ⟨_, rfl⟩
        have d_y37 := rd_Is eS36 hy37
        have ea1 := rf_I eS36 ea1
        have ea17 := rf_I eS36 ea17
        have l_a17 := ln_I eS36 l_a17
        have g0 := gr_I eS36 g0
        have o_a1 := ob_I eS36 o_a1
        have o_a17 := ob_I eS36 o_a17
        have o_a18 := ob_I eS36 o_a18
        have o_v0 := ob_I eS36 o_v0
        intro _
        exact hq _ _ hI g0 f0
    · refine u_X9_minutes_22 ?_
      refine ⟨o_v0, ?_⟩
      refine u_X9_refuse ?_
      refine u_X9_refuse_0 ?_
      refine ⟨o_v0, ?_⟩
      intro S39 eS39
      have hI : IV S39 := by rw [eS39]; exact iv_sI hI o_v0 (by decide) (nu_free (by decide))
      have f0 := fr_I eS39 g0 f0 o_v0 (by decide)
      obtain ⟨y40, hy40⟩ : ∃ z : Int32, z = (1 : Int32) := ⟨_, rfl⟩
      have d_y40 := rd_Is eS39 hy40
      have ea1 := rf_I eS39 ea1
      have g0 := gr_I eS39 g0
      have o_a1 := ob_I eS39 o_a1
      have o_v0 := ob_I eS39 o_v0
      intro _
      exact hq _ _ hI g0 f0
set_option maxHeartbeats 4000000 in
set_option maxRecDepth 20000 in
theorem m_X9_off {v0 : Nat} {v1 : Int32} {v2 : Int32} {v3 : Int32} {v4 : Int32} {Q : Int32 → HS → Prop} {S : HS} (hI : IV S) (o_v0 : ob S v0 9)     (hq : ∀ (r : Int32) (T : HS), IV T → Gr S T → FRI [(7, 3), (7, 9), (7, 10), (7, 11), (7, 12), (7, 13), (9, 9)] [(7, 0), (7, 1), (7, 2), (7, 4), (7, 5), (7, 6), (7, 7), (7, 8)] S T → Q r T) : P_X9_off v0 v1 v2 v3 v4 Q S := by
  have g0 := gr_rf S
  have f0 := fri_rf [(7, 3), (7, 9), (7, 10), (7, 11), (7, 12), (7, 13), (9, 9)] [(7, 0), (7, 1), (7, 2), (7, 4), (7, 5), (7, 6), (7, 7), (7, 8)] S
  refine u_X9_off ?_
  refine u_X9_off_0 ?_
  refine ⟨o_v0, ?_⟩
  refine m_X9_placesTrouble hI o_v0 (fun x1 S2 hI2 g3 p_x1 => ?_)
  obtain ⟨z_S2, p_x1⟩ := p_x1
  subst z_S2
  intro _
  refine ⟨fun c5 => ?_, fun c5 => ?_⟩
  · refine u_X9_off_25 ?_
    refine ⟨o_v0, ?_⟩
    refine u_X9_refusedBy ?_
    refine u_X9_refusedBy_0 ?_
    refine ⟨o_v0, ?_⟩
    intro S6 eS6
    have hI : IV S6 := by rw [eS6]; exact iv_sI hI o_v0 (by decide) (nu_free (by decide))
    have f0 := fr_I eS6 g0 f0 o_v0 (by decide)
    have d_x1 := rd_Is eS6 (rfl : x1 = x1)
    have g0 := gr_I eS6 g0
    have o_v0 := ob_I eS6 o_v0
    refine ⟨fun c7 => ?_, fun c7 => ?_⟩
    · intro _ _
      refine ⟨fun c9 => ?_, fun c9 => ?_⟩
      · obtain ⟨a10, ea10, o_a10, -⟩ := sh 4 rfl hI o_v0
        refine ⟨a10, ea10, ?_⟩
        obtain ⟨a11, ea11, o_a11, -⟩ := sh 1 rfl hI o_v0
        refine ⟨a11, ea11, ?_⟩
        obtain ⟨a12, ea12, o_a12, -⟩ := sh 3 rfl hI o_v0
        refine ⟨a12, ea12, ?_⟩
        refine ⟨o_a10, ?_⟩
        refine m_X7_reckon hI o_a10 o_a11 o_a12 (q1133 p_x1 c5 c7) (fun S14 hJ g15 fc16 => ?_)
        have hI := hJ
        have d_x1 := d_x1.trans (fri_at fc16 (by decide) (by decide) o_v0).symm
        have ea10 := (frr_at fc16 (by decide) (by decide) o_v0).trans ea10
        have ea11 := (frr_at fc16 (by decide) (by decide) o_v0).trans ea11
        have ea12 := (frr_at fc16 (by decide) (by decide) o_v0).trans ea12
        have f0 := fri_tr (S := S6) g0 f0 fc16 (by decide) (by decide)
        have o_a10 := gr_ob g15 o_a10
        have o_a11 := gr_ob g15 o_a11
        have o_a12 := gr_ob g15 o_a12
        have o_v0 := gr_ob g15 o_v0
        have g0 := gr_tr (T := S6) g0 g15
        intro _
        refine i_X9_off_62 (fun (y0 : Nat) (y2 : Int32) (y4 : Int32) (y6 : Int32) (y7 : Int32) (Z : HS) => ((2147483647 : Int32).toInt - y7.toInt).toNat) (fun (y0 : Nat) (y2 : Int32) (y4 : Int32) (y6 : Int32) (y7 : Int32) (Z : HS) => (S14 = Z) ∧ (v0 = y0) ∧ (v2 = y2) ∧ (v4 = y4) ∧ (0 ≤ y7)) ?_ _ _ _ _ _ _ ⟨rfl, rfl, rfl, rfl, (q1134 p_x1 c5 c7)⟩
        intro w21 w23 w25 w27 w28 S18 X29 ⟨eS18, q22, q24, q26, i1u17⟩ ih30
        subst q22
        subst q24
        subst q26
        subst eS18
        refine u_X9_off_62 ?_
        refine ⟨fun c31 => ?_, fun c31 => ?_⟩
        · refine ⟨fun c32 => ?_, fun c32 => ?_⟩
          · exact hq _ _ hI g0 f0
          · refine ⟨o_v0, ?_⟩
            refine u_X9_refuse ?_
            refine u_X9_refuse_0 ?_
            refine ⟨o_v0, ?_⟩
            intro S33 eS33
            have hI : IV S33 := by rw [eS33]; exact iv_sI hI o_v0 (by decide) (nu_free (by decide))
            have f0 := fr_I eS33 g0 f0 o_v0 (by decide)
            obtain ⟨y34, hy34⟩ : ∃ z : Int32, z = (6 : Int32) := ⟨_, rfl⟩
            have d_y34 := rd_Is eS33 hy34
            have ea10 := rf_I eS33 ea10
            have ea11 := rf_I eS33 ea11
            have ea12 := rf_I eS33 ea12
            have g0 := gr_I eS33 g0
            have o_a10 := ob_I eS33 o_a10
            have o_a11 := ob_I eS33 o_a11
            have o_a12 := ob_I eS33 o_a12
            have o_v0 := ob_I eS33 o_v0
            intro _
            exact hq _ _ hI g0 f0
        · refine ⟨fun c36 => ?_, fun c36 => ?_⟩
          · refine u_X9_off_99 ?_
            refine u_X9_off_104 ?_
            refine ⟨o_v0, ?_⟩
            refine ⟨a10, ea10, ?_⟩
            refine ⟨o_a10, ?_⟩
            refine m_X7_isOpen hI o_a10 (fun x38 S39 hI2 g40 b_x38 p_x38 => ?_)
            subst p_x38
            intro _ _
            have bb_x38 : x38 = 0 ∨ x38 = 1 := b_x38
            refine ⟨fun c42 => ?_, fun c42 => ?_⟩
            · refine u_X9_off_128 ?_
              intro x43 ex43
              exact ih30 _ _ _ _ _ _ ⟨rfl, rfl, rfl, rfl, (q1135 p_x1 c5 c7 i1u17 c31 c36 bb_x38 c42 ex43)⟩ (mu_up (q1136 p_x1 c5 c7 i1u17 c31 c36 bb_x38 c42 ex43) (q1137 p_x1 c5 c7 i1u17 c31 c36 bb_x38 c42 ex43))
            · refine ⟨fun c44 => ?_, fun c44 => ?_⟩
              · refine u_X9_off_128 ?_
                intro x45 ex45
                exact ih30 _ _ _ _ _ _ ⟨rfl, rfl, rfl, rfl, (q1138 p_x1 c5 c7 i1u17 c31 c36 bb_x38 c42 c44 ex45)⟩ (mu_up (q1139 p_x1 c5 c7 i1u17 c31 c36 bb_x38 c42 c44 ex45) (q1140 p_x1 c5 c7 i1u17 c31 c36 bb_x38 c42 c44 ex45))
              · refine u_X9_off_128 ?_
                intro x46 ex46
                exact ih30 _ _ _ _ _ _ ⟨rfl, rfl, rfl, rfl, (q1141 p_x1 c5 c7 i1u17 c31 c36 bb_x38 c42 ex46)⟩ (mu_up (q1142 p_x1 c5 c7 i1u17 c31 c36 bb_x38 c42 ex46) (q1143 p_x1 c5 c7 i1u17 c31 c36 bb_x38 c42 ex46))
          · refine ⟨o_v0, ?_⟩
            refine ⟨a10, ea10, ?_⟩
            refine ⟨o_a10, ?_⟩
            refine m_X7_meanFrom hI o_a10 (fun x48 S49 hI2 g50 p_x48 => ?_)
            subst p_x48
            intro _
            refine ⟨a10, ea10, ?_⟩
            refine ⟨o_a10, ?_⟩
            refine m_X7_meanFrom hI o_a10 (fun x53 S54 hI2 g55 p_x53 => ?_)
            subst p_x53
            intro _
            refine ⟨fun c57 => ?_, fun c57 => ?_⟩
            · refine u_X9_off_104 ?_
              refine ⟨o_v0, ?_⟩
              refine ⟨a10, ea10, ?_⟩
              refine ⟨o_a10, ?_⟩
              refine m_X7_isOpen hI o_a10 (fun x59 S60 hI2 g61 b_x59 p_x59 => ?_)
              subst p_x59
              intro _ _
              have bb_x59 : x59 = 0 ∨ x59 = 1 := b_x59
              refine ⟨fun c63 => ?_, fun c63 => ?_⟩
              · refine u_X9_off_128 ?_
                intro x64 ex64
                exact ih30 _ _ _ _ _ _ ⟨rfl, rfl, rfl, rfl, (q1144 p_x1 c5 c7 i1u17 c31 c36 c57 bb_x59 c63 ex64)⟩ (mu_up (q1145 p_x1 c5 c7 i1u17 c31 c36 c57 bb_x59 c63 ex64) (q1146 p_x1 c5 c7 i1u17 c31 c36 c57 bb_x59 c63 ex64))
              · refine ⟨fun c65 => ?_, fun c65 => ?_⟩
                · refine u_X9_off_128 ?_
                  intro x66 ex66
                  exact ih30 _ _ _ _ _ _ ⟨rfl, rfl, rfl, rfl, (q1147 p_x1 c5 c7 i1u17 c31 c36 c57 bb_x59 c63 ex66)⟩ (mu_up (q1148 p_x1 c5 c7 i1u17 c31 c36 c57 bb_x59 c63 ex66) (q1149 p_x1 c5 c7 i1u17 c31 c36 c57 bb_x59 c63 ex66))
                · refine u_X9_off_128 ?_
                  intro x67 ex67
                  exact ih30 _ _ _ _ _ _ ⟨rfl, rfl, rfl, rfl, (q1150 p_x1 c5 c7 i1u17 c31 c36 c57 bb_x59 c63 c65 ex67)⟩ (mu_up (q1151 p_x1 c5 c7 i1u17 c31 c36 c57 bb_x59 c63 c65 ex67) (q1152 p_x1 c5 c7 i1u17 c31 c36 c57 bb_x59 c63 c65 ex67))
            · refine u_X9_off_99 ?_
              refine u_X9_off_104 ?_
              refine ⟨o_v0, ?_⟩
              refine ⟨a10, ea10, ?_⟩
              refine ⟨o_a10, ?_⟩
              refine m_X7_isOpen hI o_a10 (fun x69 S70 hI2 g71 b_x69 p_x69 => ?_)
              subst p_x69
              intro _ _
              have bb_x69 : x69 = 0 ∨ x69 = 1 := b_x69
              refine ⟨fun c73 => ?_, fun c73 => ?_⟩
              · refine u_X9_off_128 ?_
                intro x74 ex74
                exact ih30 _ _ _ _ _ _ ⟨rfl, rfl, rfl, rfl, (q1153 p_x1 c5 c7 i1u17 c31 c36 c57 bb_x69 c73 ex74)⟩ (mu_up (q1154 p_x1 c5 c7 i1u17 c31 c36 c57 bb_x69 c73 ex74) (q1155 p_x1 c5 c7 i1u17 c31 c36 c57 bb_x69 c73 ex74))
              · refine ⟨fun c75 => ?_, fun c75 => ?_⟩
                · refine u_X9_off_128 ?_
                  intro x76 ex76
                  exact ih30 _ _ _ _ _ _ ⟨rfl, rfl, rfl, rfl, (q1156 p_x1 c5 c7 i1u17 c31 c36 c57 bb_x69 c73 c75 ex76)⟩ (mu_up (q1157 p_x1 c5 c7 i1u17 c31 c36 c57 bb_x69 c73 c75 ex76) (q1158 p_x1 c5 c7 i1u17 c31 c36 c57 bb_x69 c73 c75 ex76))
                · refine u_X9_off_128 ?_
                  intro x77 ex77
                  exact ih30 _ _ _ _ _ _ ⟨rfl, rfl, rfl, rfl, (q1159 p_x1 c5 c7 i1u17 c31 c36 c57 bb_x69 c73 ex77)⟩ (mu_up (q1160 p_x1 c5 c7 i1u17 c31 c36 c57 bb_x69 c73 ex77) (q1161 p_x1 c5 c7 i1u17 c31 c36 c57 bb_x69 c73 ex77))
      · exact hq _ _ hI g0 f0
    · intro _ _
      refine ⟨fun c79 => ?_, fun c79 => ?_⟩
      · obtain ⟨a80, ea80, o_a80, -⟩ := sh 4 rfl hI o_v0
        refine ⟨a80, ea80, ?_⟩
        obtain ⟨a81, ea81, o_a81, -⟩ := sh 1 rfl hI o_v0
        refine ⟨a81, ea81, ?_⟩
        obtain ⟨a82, ea82, o_a82, -⟩ := sh 3 rfl hI o_v0
        refine ⟨a82, ea82, ?_⟩
        refine ⟨o_a80, ?_⟩
        refine m_X7_reckon hI o_a80 o_a81 o_a82 (q1162 p_x1 c5 c7 c79) (fun S84 hJ g85 fc86 => ?_)
        have hI := hJ
        have d_x1 := d_x1.trans (fri_at fc86 (by decide) (by decide) o_v0).symm
        have ea80 := (frr_at fc86 (by decide) (by decide) o_v0).trans ea80
        have ea81 := (frr_at fc86 (by decide) (by decide) o_v0).trans ea81
        have ea82 := (frr_at fc86 (by decide) (by decide) o_v0).trans ea82
        have f0 := fri_tr (S := S6) g0 f0 fc86 (by decide) (by decide)
        have o_a80 := gr_ob g85 o_a80
        have o_a81 := gr_ob g85 o_a81
        have o_a82 := gr_ob g85 o_a82
        have o_v0 := gr_ob g85 o_v0
        have g0 := gr_tr (T := S6) g0 g85
        intro _
        refine i_X9_off_62 (fun (y0 : Nat) (y2 : Int32) (y4 : Int32) (y6 : Int32) (y7 : Int32) (Z : HS) => ((2147483647 : Int32).toInt - y7.toInt).toNat) (fun (y0 : Nat) (y2 : Int32) (y4 : Int32) (y6 : Int32) (y7 : Int32) (Z : HS) => (S84 = Z) ∧ (v0 = y0) ∧ (v2 = y2) ∧ (v4 = y4) ∧ (0 ≤ y7)) ?_ _ _ _ _ _ _ ⟨rfl, rfl, rfl, rfl, (q1163 p_x1 c5 c7 c79)⟩
        intro w91 w93 w95 w97 w98 S88 X99 ⟨eS88, q92, q94, q96, i1u87⟩ ih100
        subst q92
        subst q94
        subst q96
        subst eS88
        refine u_X9_off_62 ?_
        refine ⟨fun c101 => ?_, fun c101 => ?_⟩
        · refine ⟨fun c102 => ?_, fun c102 => ?_⟩
          · exact hq _ _ hI g0 f0
          · refine ⟨o_v0, ?_⟩
            refine u_X9_refuse ?_
            refine u_X9_refuse_0 ?_
            refine ⟨o_v0, ?_⟩
            intro S103 eS103
            have hI : IV S103 := by rw [eS103]; exact iv_sI hI o_v0 (by decide) (nu_free (by decide))
            have f0 := fr_I eS103 g0 f0 o_v0 (by decide)
            obtain ⟨y104, hy104⟩ : ∃ z : Int32, z = (6 : Int32) := ⟨_, rfl⟩
            have d_y104 := rd_Is eS103 hy104
            have ea80 := rf_I eS103 ea80
            have ea81 := rf_I eS103 ea81
            have ea82 := rf_I eS103 ea82
            have g0 := gr_I eS103 g0
            have o_a80 := ob_I eS103 o_a80
            have o_a81 := ob_I eS103 o_a81
            have o_a82 := ob_I eS103 o_a82
            have o_v0 := ob_I eS103 o_v0
            intro _
            exact hq _ _ hI g0 f0
        · refine ⟨fun c106 => ?_, fun c106 => ?_⟩
          · refine u_X9_off_99 ?_
            refine u_X9_off_104 ?_
            refine ⟨o_v0, ?_⟩
            refine ⟨a80, ea80, ?_⟩
            refine ⟨o_a80, ?_⟩
            refine m_X7_isOpen hI o_a80 (fun x108 S109 hI2 g110 b_x108 p_x108 => ?_)
            subst p_x108
            intro _ _
            have bb_x108 : x108 = 0 ∨ x108 = 1 := b_x108
            refine ⟨fun c112 => ?_, fun c112 => ?_⟩
            · refine u_X9_off_128 ?_
              intro x113 ex113
              exact ih100 _ _ _ _ _ _ ⟨rfl, rfl, rfl, rfl, (q1164 p_x1 c5 c7 c79 i1u87 c101 c106 bb_x108 c112 ex113)⟩ (mu_up (q1165 p_x1 c5 c7 c79 i1u87 c101 c106 bb_x108 c112 ex113) (q1166 p_x1 c5 c7 c79 i1u87 c101 c106 bb_x108 c112 ex113))
            · refine ⟨fun c114 => ?_, fun c114 => ?_⟩
              · refine u_X9_off_128 ?_
                intro x115 ex115
                exact ih100 _ _ _ _ _ _ ⟨rfl, rfl, rfl, rfl, (q1167 p_x1 c5 c7 c79 i1u87 c101 c106 bb_x108 c112 c114 ex115)⟩ (mu_up (q1168 p_x1 c5 c7 c79 i1u87 c101 c106 bb_x108 c112 c114 ex115) (q1169 p_x1 c5 c7 c79 i1u87 c101 c106 bb_x108 c112 c114 ex115))
              · refine u_X9_off_128 ?_
                intro x116 ex116
                exact ih100 _ _ _ _ _ _ ⟨rfl, rfl, rfl, rfl, (q1170 p_x1 c5 c7 c79 i1u87 c101 c106 bb_x108 c112 ex116)⟩ (mu_up (q1171 p_x1 c5 c7 c79 i1u87 c101 c106 bb_x108 c112 ex116) (q1172 p_x1 c5 c7 c79 i1u87 c101 c106 bb_x108 c112 ex116))
          · refine ⟨o_v0, ?_⟩
            refine ⟨a80, ea80, ?_⟩
            refine ⟨o_a80, ?_⟩
            refine m_X7_meanFrom hI o_a80 (fun x118 S119 hI2 g120 p_x118 => ?_)
            subst p_x118
            intro _
            refine ⟨a80, ea80, ?_⟩
            refine ⟨o_a80, ?_⟩
            refine m_X7_meanFrom hI o_a80 (fun x123 S124 hI2 g125 p_x123 => ?_)
            subst p_x123
            intro _
            refine ⟨fun c127 => ?_, fun c127 => ?_⟩
            · refine u_X9_off_104 ?_
              refine ⟨o_v0, ?_⟩
              refine ⟨a80, ea80, ?_⟩
              refine ⟨o_a80, ?_⟩
              refine m_X7_isOpen hI o_a80 (fun x129 S130 hI2 g131 b_x129 p_x129 => ?_)
              subst p_x129
              intro _ _
              have bb_x129 : x129 = 0 ∨ x129 = 1 := b_x129
              refine ⟨fun c133 => ?_, fun c133 => ?_⟩
              · refine u_X9_off_128 ?_
                intro x134 ex134
                exact ih100 _ _ _ _ _ _ ⟨rfl, rfl, rfl, rfl, (q1173 p_x1 c5 c7 c79 i1u87 c101 c106 c127 bb_x129 c133 ex134)⟩ (mu_up (q1174 p_x1 c5 c7 c79 i1u87 c101 c106 c127 bb_x129 c133 ex134) (q1175 p_x1 c5 c7 c79 i1u87 c101 c106 c127 bb_x129 c133 ex134))
              · refine ⟨fun c135 => ?_, fun c135 => ?_⟩
                · refine u_X9_off_128 ?_
                  intro x136 ex136
                  exact ih100 _ _ _ _ _ _ ⟨rfl, rfl, rfl, rfl, (q1176 p_x1 c5 c7 c79 i1u87 c101 c106 c127 bb_x129 c133 ex136)⟩ (mu_up (q1177 p_x1 c5 c7 c79 i1u87 c101 c106 c127 bb_x129 c133 ex136) (q1178 p_x1 c5 c7 c79 i1u87 c101 c106 c127 bb_x129 c133 ex136))
                · refine u_X9_off_128 ?_
                  intro x137 ex137
                  exact ih100 _ _ _ _ _ _ ⟨rfl, rfl, rfl, rfl, (q1179 p_x1 c5 c7 c79 i1u87 c101 c106 c127 bb_x129 c133 c135 ex137)⟩ (mu_up (q1180 p_x1 c5 c7 c79 i1u87 c101 c106 c127 bb_x129 c133 c135 ex137) (q1181 p_x1 c5 c7 c79 i1u87 c101 c106 c127 bb_x129 c133 c135 ex137))
            · refine u_X9_off_99 ?_
              refine u_X9_off_104 ?_
              refine ⟨o_v0, ?_⟩
              refine ⟨a80, ea80, ?_⟩
              refine ⟨o_a80, ?_⟩
              refine m_X7_isOpen hI o_a80 (fun x139 S140 hI2 g141 b_x139 p_x139 => ?_)
              subst p_x139
              intro _ _
              have bb_x139 : x139 = 0 ∨ x139 = 1 := b_x139
              refine ⟨fun c143 => ?_, fun c143 => ?_⟩
              · refine u_X9_off_128 ?_
                intro x144 ex144
                exact ih100 _ _ _ _ _ _ ⟨rfl, rfl, rfl, rfl, (q1182 p_x1 c5 c7 c79 i1u87 c101 c106 c127 bb_x139 c143 ex144)⟩ (mu_up (q1183 p_x1 c5 c7 c79 i1u87 c101 c106 c127 bb_x139 c143 ex144) (q1184 p_x1 c5 c7 c79 i1u87 c101 c106 c127 bb_x139 c143 ex144))
              · refine ⟨fun c145 => ?_, fun c145 => ?_⟩
                · refine u_X9_off_128 ?_
                  intro x146 ex146
                  exact ih100 _ _ _ _ _ _ ⟨rfl, rfl, rfl, rfl, (q1185 p_x1 c5 c7 c79 i1u87 c101 c106 c127 bb_x139 c143 c145 ex146)⟩ (mu_up (q1186 p_x1 c5 c7 c79 i1u87 c101 c106 c127 bb_x139 c143 c145 ex146) (q1187 p_x1 c5 c7 c79 i1u87 c101 c106 c127 bb_x139 c143 c145 ex146))
                · refine u_X9_off_128 ?_
                  intro x147 ex147
                  exact ih100 _ _ _ _ _ _ ⟨rfl, rfl, rfl, rfl, (q1188 p_x1 c5 c7 c79 i1u87 c101 c106 c127 bb_x139 c143 ex147)⟩ (mu_up (q1189 p_x1 c5 c7 c79 i1u87 c101 c106 c127 bb_x139 c143 ex147) (q1190 p_x1 c5 c7 c79 i1u87 c101 c106 c127 bb_x139 c143 ex147))
      · exact hq _ _ hI g0 f0
  · refine m_X9_isTill hI (fun x148 S149 hI2 g150 b_x148 p_x148 => ?_)
    obtain ⟨z_S149, p_x148⟩ := p_x148
    subst z_S149
    intro _ _
    have bb_x148 : x148 = 0 ∨ x148 = 1 := b_x148
    refine ⟨fun c152 => ?_, fun c152 => ?_⟩
    · refine u_X9_off_25 ?_
      refine ⟨o_v0, ?_⟩
      refine u_X9_refusedBy ?_
      refine u_X9_refusedBy_0 ?_
      refine ⟨o_v0, ?_⟩
      intro S153 eS153
      have hI : IV S153 := by rw [eS153]; exact iv_sI hI o_v0 (by decide) (nu_free (by decide))
      have f0 := fr_I eS153 g0 f0 o_v0 (by decide)
      have d_x1 := rd_Is eS153 (rfl : x1 = x1)
      have g0 := gr_I eS153 g0
      have o_v0 := ob_I eS153 o_v0
      refine ⟨fun c154 => ?_, fun c154 => ?_⟩
      · intro _ _
        refine ⟨fun c156 => ?_, fun c156 => ?_⟩
        · obtain ⟨a157, ea157, o_a157, -⟩ := sh 4 rfl hI o_v0
          refine ⟨a157, ea157, ?_⟩
          obtain ⟨a158, ea158, o_a158, -⟩ := sh 1 rfl hI o_v0
          refine ⟨a158, ea158, ?_⟩
          obtain ⟨a159, ea159, o_a159, -⟩ := sh 3 rfl hI o_v0
          refine ⟨a159, ea159, ?_⟩
          refine ⟨o_a157, ?_⟩
          refine m_X7_reckon hI o_a157 o_a158 o_a159 (q1191 p_x1 c5 p_x148 bb_x148 c152 c154) (fun S161 hJ g162 fc163 => ?_)
          have hI := hJ
          have d_x1 := d_x1.trans (fri_at fc163 (by decide) (by decide) o_v0).symm
          have ea157 := (frr_at fc163 (by decide) (by decide) o_v0).trans ea157
          have ea158 := (frr_at fc163 (by decide) (by decide) o_v0).trans ea158
          have ea159 := (frr_at fc163 (by decide) (by decide) o_v0).trans ea159
          have f0 := fri_tr (S := S153) g0 f0 fc163 (by decide) (by decide)
          have o_a157 := gr_ob g162 o_a157
          have o_a158 := gr_ob g162 o_a158
          have o_a159 := gr_ob g162 o_a159
          have o_v0 := gr_ob g162 o_v0
          have g0 := gr_tr (T := S153) g0 g162
          intro _
          refine i_X9_off_62 (fun (y0 : Nat) (y2 : Int32) (y4 : Int32) (y6 : Int32) (y7 : Int32) (Z : HS) => ((2147483647 : Int32).toInt - y7.toInt).toNat) (fun (y0 : Nat) (y2 : Int32) (y4 : Int32) (y6 : Int32) (y7 : Int32) (Z : HS) => (S161 = Z) ∧ (v0 = y0) ∧ (v2 = y2) ∧ (v4 = y4) ∧ (0 ≤ y7)) ?_ _ _ _ _ _ _ ⟨rfl, rfl, rfl, rfl, (q1192 p_x1 c5 p_x148 bb_x148 c152 c154)⟩
          intro w168 w170 w172 w174 w175 S165 X176 ⟨eS165, q169, q171, q173, i1u164⟩ ih177
          subst q169
          subst q171
          subst q173
          subst eS165
          refine u_X9_off_62 ?_
          refine ⟨fun c178 => ?_, fun c178 => ?_⟩
          · refine ⟨fun c179 => ?_, fun c179 => ?_⟩
            · exact hq _ _ hI g0 f0
            · refine ⟨o_v0, ?_⟩
              refine u_X9_refuse ?_
              refine u_X9_refuse_0 ?_
              refine ⟨o_v0, ?_⟩
              intro S180 eS180
              have hI : IV S180 := by rw [eS180]; exact iv_sI hI o_v0 (by decide) (nu_free (by decide))
              have f0 := fr_I eS180 g0 f0 o_v0 (by decide)
              obtain ⟨y181, hy181⟩ : ∃ z : Int32, z = (6 : Int32) := ⟨_, rfl⟩
              have d_y181 := rd_Is eS180 hy181
              have ea157 := rf_I eS180 ea157
              have ea158 := rf_I eS180 ea158
              have ea159 := rf_I eS180 ea159
              have g0 := gr_I eS180 g0
              have o_a157 := ob_I eS180 o_a157
              have o_a158 := ob_I eS180 o_a158
              have o_a159 := ob_I eS180 o_a159
              have o_v0 := ob_I eS180 o_v0
              intro _
              exact hq _ _ hI g0 f0
          · refine ⟨fun c183 => ?_, fun c183 => ?_⟩
            · refine u_X9_off_99 ?_
              refine u_X9_off_104 ?_
              refine ⟨o_v0, ?_⟩
              refine ⟨a157, ea157, ?_⟩
              refine ⟨o_a157, ?_⟩
              refine m_X7_isOpen hI o_a157 (fun x185 S186 hI2 g187 b_x185 p_x185 => ?_)
              subst p_x185
              intro _ _
              have bb_x185 : x185 = 0 ∨ x185 = 1 := b_x185
              refine ⟨fun c189 => ?_, fun c189 => ?_⟩
              · refine u_X9_off_128 ?_
                intro x190 ex190
                exact ih177 _ _ _ _ _ _ ⟨rfl, rfl, rfl, rfl, (q1193 p_x1 c5 p_x148 bb_x148 c152 c154 i1u164 c178 c183 bb_x185 c189 ex190)⟩ (mu_up (q1194 p_x1 c5 p_x148 bb_x148 c152 c154 i1u164 c178 c183 bb_x185 c189 ex190) (q1195 p_x1 c5 p_x148 bb_x148 c152 c154 i1u164 c178 c183 bb_x185 c189 ex190))
              · refine ⟨fun c191 => ?_, fun c191 => ?_⟩
                · refine u_X9_off_128 ?_
                  intro x192 ex192
                  exact ih177 _ _ _ _ _ _ ⟨rfl, rfl, rfl, rfl, (q1196 p_x1 c5 p_x148 bb_x148 c152 c154 i1u164 c178 c183 bb_x185 c189 c191 ex192)⟩ (mu_up (q1197 p_x1 c5 p_x148 bb_x148 c152 c154 i1u164 c178 c183 bb_x185 c189 c191 ex192) (q1198 p_x1 c5 p_x148 bb_x148 c152 c154 i1u164 c178 c183 bb_x185 c189 c191 ex192))
                · refine u_X9_off_128 ?_
                  intro x193 ex193
                  exact ih177 _ _ _ _ _ _ ⟨rfl, rfl, rfl, rfl, (q1199 p_x1 c5 p_x148 bb_x148 c152 c154 i1u164 c178 c183 bb_x185 c189 ex193)⟩ (mu_up (q1200 p_x1 c5 p_x148 bb_x148 c152 c154 i1u164 c178 c183 bb_x185 c189 ex193) (q1201 p_x1 c5 p_x148 bb_x148 c152 c154 i1u164 c178 c183 bb_x185 c189 ex193))
            · refine ⟨o_v0, ?_⟩
              refine ⟨a157, ea157, ?_⟩
              refine ⟨o_a157, ?_⟩
              refine m_X7_meanFrom hI o_a157 (fun x195 S196 hI2 g197 p_x195 => ?_)
              subst p_x195
              intro _
              refine ⟨a157, ea157, ?_⟩
              refine ⟨o_a157, ?_⟩
              refine m_X7_meanFrom hI o_a157 (fun x200 S201 hI2 g202 p_x200 => ?_)
              subst p_x200
              intro _
              refine ⟨fun c204 => ?_, fun c204 => ?_⟩
              · refine u_X9_off_104 ?_
                refine ⟨o_v0, ?_⟩
                refine ⟨a157, ea157, ?_⟩
                refine ⟨o_a157, ?_⟩
                refine m_X7_isOpen hI o_a157 (fun x206 S207 hI2 g208 b_x206 p_x206 => ?_)
                subst p_x206
                intro _ _
                have bb_x206 : x206 = 0 ∨ x206 = 1 := b_x206
                refine ⟨fun c210 => ?_, fun c210 => ?_⟩
                · refine u_X9_off_128 ?_
                  intro x211 ex211
                  exact ih177 _ _ _ _ _ _ ⟨rfl, rfl, rfl, rfl, (q1202 p_x1 c5 p_x148 bb_x148 c152 c154 i1u164 c178 c183 c204 bb_x206 c210 ex211)⟩ (mu_up (q1203 p_x1 c5 p_x148 bb_x148 c152 c154 i1u164 c178 c183 c204 bb_x206 c210 ex211) (q1204 p_x1 c5 p_x148 bb_x148 c152 c154 i1u164 c178 c183 c204 bb_x206 c210 ex211))
                · refine ⟨fun c212 => ?_, fun c212 => ?_⟩
                  · refine u_X9_off_128 ?_
                    intro x213 ex213
                    exact ih177 _ _ _ _ _ _ ⟨rfl, rfl, rfl, rfl, (q1205 p_x1 c5 p_x148 bb_x148 c152 c154 i1u164 c178 c183 c204 bb_x206 c210 ex213)⟩ (mu_up (q1206 p_x1 c5 p_x148 bb_x148 c152 c154 i1u164 c178 c183 c204 bb_x206 c210 ex213) (q1207 p_x1 c5 p_x148 bb_x148 c152 c154 i1u164 c178 c183 c204 bb_x206 c210 ex213))
                  · refine u_X9_off_128 ?_
                    intro x214 ex214
                    exact ih177 _ _ _ _ _ _ ⟨rfl, rfl, rfl, rfl, (q1208 p_x1 c5 p_x148 bb_x148 c152 c154 i1u164 c178 c183 c204 bb_x206 c210 c212 ex214)⟩ (mu_up (q1209 p_x1 c5 p_x148 bb_x148 c152 c154 i1u164 c178 c183 c204 bb_x206 c210 c212 ex214) (q1210 p_x1 c5 p_x148 bb_x148 c152 c154 i1u164 c178 c183 c204 bb_x206 c210 c212 ex214))
              · refine u_X9_off_99 ?_
                refine u_X9_off_104 ?_
                refine ⟨o_v0, ?_⟩
                refine ⟨a157, ea157, ?_⟩
                refine ⟨o_a157, ?_⟩
                refine m_X7_isOpen hI o_a157 (fun x216 S217 hI2 g218 b_x216 p_x216 => ?_)
                subst p_x216
                intro _ _
                have bb_x216 : x216 = 0 ∨ x216 = 1 := b_x216
                refine ⟨fun c220 => ?_, fun c220 => ?_⟩
                · refine u_X9_off_128 ?_
                  intro x221 ex221
                  exact ih177 _ _ _ _ _ _ ⟨rfl, rfl, rfl, rfl, (q1211 p_x1 c5 p_x148 bb_x148 c152 c154 i1u164 c178 c183 c204 bb_x216 c220 ex221)⟩ (mu_up (q1212 p_x1 c5 p_x148 bb_x148 c152 c154 i1u164 c178 c183 c204 bb_x216 c220 ex221) (q1213 p_x1 c5 p_x148 bb_x148 c152 c154 i1u164 c178 c183 c204 bb_x216 c220 ex221))
                · refine ⟨fun c222 => ?_, fun c222 => ?_⟩
                  · refine u_X9_off_128 ?_
                    intro x223 ex223
                    exact ih177 _ _ _ _ _ _ ⟨rfl, rfl, rfl, rfl, (q1214 p_x1 c5 p_x148 bb_x148 c152 c154 i1u164 c178 c183 c204 bb_x216 c220 c222 ex223)⟩ (mu_up (q1215 p_x1 c5 p_x148 bb_x148 c152 c154 i1u164 c178 c183 c204 bb_x216 c220 c222 ex223) (q1216 p_x1 c5 p_x148 bb_x148 c152 c154 i1u164 c178 c183 c204 bb_x216 c220 c222 ex223))
                  · refine u_X9_off_128 ?_
                    intro x224 ex224
                    exact ih177 _ _ _ _ _ _ ⟨rfl, rfl, rfl, rfl, (q1217 p_x1 c5 p_x148 bb_x148 c152 c154 i1u164 c178 c183 c204 bb_x216 c220 ex224)⟩ (mu_up (q1218 p_x1 c5 p_x148 bb_x148 c152 c154 i1u164 c178 c183 c204 bb_x216 c220 ex224) (q1219 p_x1 c5 p_x148 bb_x148 c152 c154 i1u164 c178 c183 c204 bb_x216 c220 ex224))
        · exact hq _ _ hI g0 f0
      · intro _ _
        refine ⟨fun c226 => ?_, fun c226 => ?_⟩
        · obtain ⟨a227, ea227, o_a227, -⟩ := sh 4 rfl hI o_v0
          refine ⟨a227, ea227, ?_⟩
          obtain ⟨a228, ea228, o_a228, -⟩ := sh 1 rfl hI o_v0
          refine ⟨a228, ea228, ?_⟩
          obtain ⟨a229, ea229, o_a229, -⟩ := sh 3 rfl hI o_v0
          refine ⟨a229, ea229, ?_⟩
          refine ⟨o_a227, ?_⟩
          refine m_X7_reckon hI o_a227 o_a228 o_a229 (q1220 p_x1 c5 p_x148 bb_x148 c152 c154 c226) (fun S231 hJ g232 fc233 => ?_)
          have hI := hJ
          have d_x1 := d_x1.trans (fri_at fc233 (by decide) (by decide) o_v0).symm
          have ea227 := (frr_at fc233 (by decide) (by decide) o_v0).trans ea227
          have ea228 := (frr_at fc233 (by decide) (by decide) o_v0).trans ea228
          have ea229 := (frr_at fc233 (by decide) (by decide) o_v0).trans ea229
          have f0 := fri_tr (S := S153) g0 f0 fc233 (by decide) (by decide)
          have o_a227 := gr_ob g232 o_a227
          have o_a228 := gr_ob g232 o_a228
          have o_a229 := gr_ob g232 o_a229
          have o_v0 := gr_ob g232 o_v0
          have g0 := gr_tr (T := S153) g0 g232
          intro _
          refine i_X9_off_62 (fun (y0 : Nat) (y2 : Int32) (y4 : Int32) (y6 : Int32) (y7 : Int32) (Z : HS) => ((2147483647 : Int32).toInt - y7.toInt).toNat) (fun (y0 : Nat) (y2 : Int32) (y4 : Int32) (y6 : Int32) (y7 : Int32) (Z : HS) => (S231 = Z) ∧ (v0 = y0) ∧ (v2 = y2) ∧ (v4 = y4) ∧ (0 ≤ y7)) ?_ _ _ _ _ _ _ ⟨rfl, rfl, rfl, rfl, (q1221 p_x1 c5 p_x148 bb_x148 c152 c154 c226)⟩
          intro w238 w240 w242 w244 w245 S235 X246 ⟨eS235, q239, q241, q243, i1u234⟩ ih247
          subst q239
          subst q241
          subst q243
          subst eS235
          refine u_X9_off_62 ?_
          refine ⟨fun c248 => ?_, fun c248 => ?_⟩
          · refine ⟨fun c249 => ?_, fun c249 => ?_⟩
            · exact hq _ _ hI g0 f0
            · refine ⟨o_v0, ?_⟩
              refine u_X9_refuse ?_
              refine u_X9_refuse_0 ?_
              refine ⟨o_v0, ?_⟩
              intro S250 eS250
              have hI : IV S250 := by rw [eS250]; exact iv_sI hI o_v0 (by decide) (nu_free (by decide))
              have f0 := fr_I eS250 g0 f0 o_v0 (by decide)
              obtain ⟨y251, hy251⟩ : ∃ z : Int32, z = (6 : Int32) := ⟨_, rfl⟩
              have d_y251 := rd_Is eS250 hy251
              have ea227 := rf_I eS250 ea227
              have ea228 := rf_I eS250 ea228
              have ea229 := rf_I eS250 ea229
              have g0 := gr_I eS250 g0
              have o_a227 := ob_I eS250 o_a227
              have o_a228 := ob_I eS250 o_a228
              have o_a229 := ob_I eS250 o_a229
              have o_v0 := ob_I eS250 o_v0
              intro _
              exact hq _ _ hI g0 f0
          · refine ⟨fun c253 => ?_, fun c253 => ?_⟩
            · refine u_X9_off_99 ?_
              refine u_X9_off_104 ?_
              refine ⟨o_v0, ?_⟩
              refine ⟨a227, ea227, ?_⟩
              refine ⟨o_a227, ?_⟩
              refine m_X7_isOpen hI o_a227 (fun x255 S256 hI2 g257 b_x255 p_x255 => ?_)
              subst p_x255
              intro _ _
              have bb_x255 : x255 = 0 ∨ x255 = 1 := b_x255
              refine ⟨fun c259 => ?_, fun c259 => ?_⟩
              · refine u_X9_off_128 ?_
                intro x260 ex260
                exact ih247 _ _ _ _ _ _ ⟨rfl, rfl, rfl, rfl, (q1222 p_x1 c5 p_x148 bb_x148 c152 c154 c226 i1u234 c248 c253 bb_x255 c259 ex260)⟩ (mu_up (q1223 p_x1 c5 p_x148 bb_x148 c152 c154 c226 i1u234 c248 c253 bb_x255 c259 ex260) (q1224 p_x1 c5 p_x148 bb_x148 c152 c154 c226 i1u234 c248 c253 bb_x255 c259 ex260))
              · refine ⟨fun c261 => ?_, fun c261 => ?_⟩
                · refine u_X9_off_128 ?_
                  intro x262 ex262
                  exact ih247 _ _ _ _ _ _ ⟨rfl, rfl, rfl, rfl, (q1225 p_x1 c5 p_x148 bb_x148 c152 c154 c226 i1u234 c248 c253 bb_x255 c259 c261 ex262)⟩ (mu_up (q1226 p_x1 c5 p_x148 bb_x148 c152 c154 c226 i1u234 c248 c253 bb_x255 c259 c261 ex262) (q1227 p_x1 c5 p_x148 bb_x148 c152 c154 c226 i1u234 c248 c253 bb_x255 c259 c261 ex262))
                · refine u_X9_off_128 ?_
                  intro x263 ex263
                  exact ih247 _ _ _ _ _ _ ⟨rfl, rfl, rfl, rfl, (q1228 p_x1 c5 p_x148 bb_x148 c152 c154 c226 i1u234 c248 c253 bb_x255 c259 ex263)⟩ (mu_up (q1229 p_x1 c5 p_x148 bb_x148 c152 c154 c226 i1u234 c248 c253 bb_x255 c259 ex263) (q1230 p_x1 c5 p_x148 bb_x148 c152 c154 c226 i1u234 c248 c253 bb_x255 c259 ex263))
            · refine ⟨o_v0, ?_⟩
              refine ⟨a227, ea227, ?_⟩
              refine ⟨o_a227, ?_⟩
              refine m_X7_meanFrom hI o_a227 (fun x265 S266 hI2 g267 p_x265 => ?_)
              subst p_x265
              intro _
              refine ⟨a227, ea227, ?_⟩
              refine ⟨o_a227, ?_⟩
              refine m_X7_meanFrom hI o_a227 (fun x270 S271 hI2 g272 p_x270 => ?_)
              subst p_x270
              intro _
              refine ⟨fun c274 => ?_, fun c274 => ?_⟩
              · refine u_X9_off_104 ?_
                refine ⟨o_v0, ?_⟩
                refine ⟨a227, ea227, ?_⟩
                refine ⟨o_a227, ?_⟩
                refine m_X7_isOpen hI o_a227 (fun x276 S277 hI2 g278 b_x276 p_x276 => ?_)
                subst p_x276
                intro _ _
                have bb_x276 : x276 = 0 ∨ x276 = 1 := b_x276
                refine ⟨fun c280 => ?_, fun c280 => ?_⟩
                · refine u_X9_off_128 ?_
                  intro x281 ex281
                  exact ih247 _ _ _ _ _ _ ⟨rfl, rfl, rfl, rfl, (q1231 p_x1 c5 p_x148 bb_x148 c152 c154 c226 i1u234 c248 c253 c274 bb_x276 c280 ex281)⟩ (mu_up (q1232 p_x1 c5 p_x148 bb_x148 c152 c154 c226 i1u234 c248 c253 c274 bb_x276 c280 ex281) (q1233 p_x1 c5 p_x148 bb_x148 c152 c154 c226 i1u234 c248 c253 c274 bb_x276 c280 ex281))
                · refine ⟨fun c282 => ?_, fun c282 => ?_⟩
                  · refine u_X9_off_128 ?_
                    intro x283 ex283
                    exact ih247 _ _ _ _ _ _ ⟨rfl, rfl, rfl, rfl, (q1234 p_x1 c5 p_x148 bb_x148 c152 c154 c226 i1u234 c248 c253 c274 bb_x276 c280 ex283)⟩ (mu_up (q1235 p_x1 c5 p_x148 bb_x148 c152 c154 c226 i1u234 c248 c253 c274 bb_x276 c280 ex283) (q1236 p_x1 c5 p_x148 bb_x148 c152 c154 c226 i1u234 c248 c253 c274 bb_x276 c280 ex283))
                  · refine u_X9_off_128 ?_
                    intro x284 ex284
                    exact ih247 _ _ _ _ _ _ ⟨rfl, rfl, rfl, rfl, (q1237 p_x1 c5 p_x148 bb_x148 c152 c154 c226 i1u234 c248 c253 c274 bb_x276 c280 c282 ex284)⟩ (mu_up (q1238 p_x1 c5 p_x148 bb_x148 c152 c154 c226 i1u234 c248 c253 c274 bb_x276 c280 c282 ex284) (q1239 p_x1 c5 p_x148 bb_x148 c152 c154 c226 i1u234 c248 c253 c274 bb_x276 c280 c282 ex284))
              · refine u_X9_off_99 ?_
                refine u_X9_off_104 ?_
                refine ⟨o_v0, ?_⟩
                refine ⟨a227, ea227, ?_⟩
                refine ⟨o_a227, ?_⟩
                refine m_X7_isOpen hI o_a227 (fun x286 S287 hI2 g288 b_x286 p_x286 => ?_)
                subst p_x286
                intro _ _
                have bb_x286 : x286 = 0 ∨ x286 = 1 := b_x286
                refine ⟨fun c290 => ?_, fun c290 => ?_⟩
                · refine u_X9_off_128 ?_
                  intro x291 ex291
                  exact ih247 _ _ _ _ _ _ ⟨rfl, rfl, rfl, rfl, (q1240 p_x1 c5 p_x148 bb_x148 c152 c154 c226 i1u234 c248 c253 c274 bb_x286 c290 ex291)⟩ (mu_up (q1241 p_x1 c5 p_x148 bb_x148 c152 c154 c226 i1u234 c248 c253 c274 bb_x286 c290 ex291) (q1242 p_x1 c5 p_x148 bb_x148 c152 c154 c226 i1u234 c248 c253 c274 bb_x286 c290 ex291))
                · refine ⟨fun c292 => ?_, fun c292 => ?_⟩
                  · refine u_X9_off_128 ?_
                    intro x293 ex293
                    exact ih247 _ _ _ _ _ _ ⟨rfl, rfl, rfl, rfl, (q1243 p_x1 c5 p_x148 bb_x148 c152 c154 c226 i1u234 c248 c253 c274 bb_x286 c290 c292 ex293)⟩ (mu_up (q1244 p_x1 c5 p_x148 bb_x148 c152 c154 c226 i1u234 c248 c253 c274 bb_x286 c290 c292 ex293) (q1245 p_x1 c5 p_x148 bb_x148 c152 c154 c226 i1u234 c248 c253 c274 bb_x286 c290 c292 ex293))
                  · refine u_X9_off_128 ?_
                    intro x294 ex294
                    exact ih247 _ _ _ _ _ _ ⟨rfl, rfl, rfl, rfl, (q1246 p_x1 c5 p_x148 bb_x148 c152 c154 c226 i1u234 c248 c253 c274 bb_x286 c290 ex294)⟩ (mu_up (q1247 p_x1 c5 p_x148 bb_x148 c152 c154 c226 i1u234 c248 c253 c274 bb_x286 c290 ex294) (q1248 p_x1 c5 p_x148 bb_x148 c152 c154 c226 i1u234 c248 c253 c274 bb_x286 c290 ex294))
        · exact hq _ _ hI g0 f0
    · refine u_X9_off_25 ?_
      refine ⟨o_v0, ?_⟩
      refine u_X9_refusedBy ?_
      refine u_X9_refusedBy_0 ?_
      refine ⟨o_v0, ?_⟩
      intro S295 eS295
      have hI : IV S295 := by rw [eS295]; exact iv_sI hI o_v0 (by decide) (nu_free (by decide))
      have f0 := fr_I eS295 g0 f0 o_v0 (by decide)
      obtain ⟨y296, hy296⟩ : ∃ z : Int32, z = (2 : Int32) := ⟨_, rfl⟩
      have d_y296 := rd_Is eS295 hy296
      have g0 := gr_I eS295 g0
      have o_v0 := ob_I eS295 o_v0
      refine ⟨fun c297 => ?_, fun c297 => ?_⟩
      · intro _ _
        refine ⟨fun c299 => ?_, fun c299 => ?_⟩
        · obtain ⟨a300, ea300, o_a300, -⟩ := sh 4 rfl hI o_v0
          refine ⟨a300, ea300, ?_⟩
          obtain ⟨a301, ea301, o_a301, -⟩ := sh 1 rfl hI o_v0
          refine ⟨a301, ea301, ?_⟩
          obtain ⟨a302, ea302, o_a302, -⟩ := sh 3 rfl hI o_v0
          refine ⟨a302, ea302, ?_⟩
          refine ⟨o_a300, ?_⟩
          refine m_X7_reckon hI o_a300 o_a301 o_a302 (q1249 p_x1 c5 p_x148 bb_x148 c152 c297) (fun S304 hJ g305 fc306 => ?_)
          have hI := hJ
          have d_y296 := d_y296.trans (fri_at fc306 (by decide) (by decide) o_v0).symm
          have ea300 := (frr_at fc306 (by decide) (by decide) o_v0).trans ea300
          have ea301 := (frr_at fc306 (by decide) (by decide) o_v0).trans ea301
          have ea302 := (frr_at fc306 (by decide) (by decide) o_v0).trans ea302
          have f0 := fri_tr (S := S295) g0 f0 fc306 (by decide) (by decide)
          have o_a300 := gr_ob g305 o_a300
          have o_a301 := gr_ob g305 o_a301
          have o_a302 := gr_ob g305 o_a302
          have o_v0 := gr_ob g305 o_v0
          have g0 := gr_tr (T := S295) g0 g305
          intro _
          refine i_X9_off_62 (fun (y0 : Nat) (y2 : Int32) (y4 : Int32) (y6 : Int32) (y7 : Int32) (Z : HS) => ((2147483647 : Int32).toInt - y7.toInt).toNat) (fun (y0 : Nat) (y2 : Int32) (y4 : Int32) (y6 : Int32) (y7 : Int32) (Z : HS) => (S304 = Z) ∧ (v0 = y0) ∧ (v2 = y2) ∧ (v4 = y4) ∧ (0 ≤ y7)) ?_ _ _ _ _ _ _ ⟨rfl, rfl, rfl, rfl, (q1250 p_x1 c5 p_x148 bb_x148 c152 c297)⟩
          intro w311 w313 w315 w317 w318 S308 X319 ⟨eS308, q312, q314, q316, i1u307⟩ ih320
          subst q312
          subst q314
          subst q316
          subst eS308
          refine u_X9_off_62 ?_
          refine ⟨fun c321 => ?_, fun c321 => ?_⟩
          · refine ⟨fun c322 => ?_, fun c322 => ?_⟩
            · exact hq _ _ hI g0 f0
            · refine ⟨o_v0, ?_⟩
              refine u_X9_refuse ?_
              refine u_X9_refuse_0 ?_
              refine ⟨o_v0, ?_⟩
              intro S323 eS323
              have hI : IV S323 := by rw [eS323]; exact iv_sI hI o_v0 (by decide) (nu_free (by decide))
              have f0 := fr_I eS323 g0 f0 o_v0 (by decide)
              obtain ⟨y324, hy324⟩ : ∃ z : Int32, z = (6 : Int32) := ⟨_, rfl⟩
              have d_y324 := rd_Is eS323 hy324
              have ea300 := rf_I eS323 ea300
              have ea301 := rf_I eS323 ea301
              have ea302 := rf_I eS323 ea302
              have g0 := gr_I eS323 g0
              have o_a300 := ob_I eS323 o_a300
              have o_a301 := ob_I eS323 o_a301
              have o_a302 := ob_I eS323 o_a302
              have o_v0 := ob_I eS323 o_v0
              intro _
              exact hq _ _ hI g0 f0
          · refine ⟨fun c326 => ?_, fun c326 => ?_⟩
            · refine u_X9_off_99 ?_
              refine u_X9_off_104 ?_
              refine ⟨o_v0, ?_⟩
              refine ⟨a300, ea300, ?_⟩
              refine ⟨o_a300, ?_⟩
              refine m_X7_isOpen hI o_a300 (fun x328 S329 hI2 g330 b_x328 p_x328 => ?_)
              subst p_x328
              intro _ _
              have bb_x328 : x328 = 0 ∨ x328 = 1 := b_x328
              refine ⟨fun c332 => ?_, fun c332 => ?_⟩
              · refine u_X9_off_128 ?_
                intro x333 ex333
                exact ih320 _ _ _ _ _ _ ⟨rfl, rfl, rfl, rfl, (q1251 p_x1 c5 p_x148 bb_x148 c152 c297 i1u307 c321 c326 bb_x328 c332 ex333)⟩ (mu_up (q1252 p_x1 c5 p_x148 bb_x148 c152 c297 i1u307 c321 c326 bb_x328 c332 ex333) (q1253 p_x1 c5 p_x148 bb_x148 c152 c297 i1u307 c321 c326 bb_x328 c332 ex333))
              · refine ⟨fun c334 => ?_, fun c334 => ?_⟩
                · refine u_X9_off_128 ?_
                  intro x335 ex335
                  exact ih320 _ _ _ _ _ _ ⟨rfl, rfl, rfl, rfl, (q1254 p_x1 c5 p_x148 bb_x148 c152 c297 i1u307 c321 c326 bb_x328 c332 c334 ex335)⟩ (mu_up (q1255 p_x1 c5 p_x148 bb_x148 c152 c297 i1u307 c321 c326 bb_x328 c332 c334 ex335) (q1256 p_x1 c5 p_x148 bb_x148 c152 c297 i1u307 c321 c326 bb_x328 c332 c334 ex335))
                · refine u_X9_off_128 ?_
                  intro x336 ex336
                  exact ih320 _ _ _ _ _ _ ⟨rfl, rfl, rfl, rfl, (q1257 p_x1 c5 p_x148 bb_x148 c152 c297 i1u307 c321 c326 bb_x328 c332 ex336)⟩ (mu_up (q1258 p_x1 c5 p_x148 bb_x148 c152 c297 i1u307 c321 c326 bb_x328 c332 ex336) (q1259 p_x1 c5 p_x148 bb_x148 c152 c297 i1u307 c321 c326 bb_x328 c332 ex336))
            · refine ⟨o_v0, ?_⟩
              refine ⟨a300, ea300, ?_⟩
              refine ⟨o_a300, ?_⟩
              refine m_X7_meanFrom hI o_a300 (fun x338 S339 hI2 g340 p_x338 => ?_)
              subst p_x338
              intro _
              refine ⟨a300, ea300, ?_⟩
              refine ⟨o_a300, ?_⟩
              refine m_X7_meanFrom hI o_a300 (fun x343 S344 hI2 g345 p_x343 => ?_)
              subst p_x343
              intro _
              refine ⟨fun c347 => ?_, fun c347 => ?_⟩
              · refine u_X9_off_104 ?_
                refine ⟨o_v0, ?_⟩
                refine ⟨a300, ea300, ?_⟩
                refine ⟨o_a300, ?_⟩
                refine m_X7_isOpen hI o_a300 (fun x349 S350 hI2 g351 b_x349 p_x349 => ?_)
                subst p_x349
                intro _ _
                have bb_x349 : x349 = 0 ∨ x349 = 1 := b_x349
                refine ⟨fun c353 => ?_, fun c353 => ?_⟩
                · refine u_X9_off_128 ?_
                  intro x354 ex354
                  exact ih320 _ _ _ _ _ _ ⟨rfl, rfl, rfl, rfl, (q1260 p_x1 c5 p_x148 bb_x148 c152 c297 i1u307 c321 c326 c347 bb_x349 c353 ex354)⟩ (mu_up (q1261 p_x1 c5 p_x148 bb_x148 c152 c297 i1u307 c321 c326 c347 bb_x349 c353 ex354) (q1262 p_x1 c5 p_x148 bb_x148 c152 c297 i1u307 c321 c326 c347 bb_x349 c353 ex354))
                · refine ⟨fun c355 => ?_, fun c355 => ?_⟩
                  · refine u_X9_off_128 ?_
                    intro x356 ex356
                    exact ih320 _ _ _ _ _ _ ⟨rfl, rfl, rfl, rfl, (q1263 p_x1 c5 p_x148 bb_x148 c152 c297 i1u307 c321 c326 c347 bb_x349 c353 ex356)⟩ (mu_up (q1264 p_x1 c5 p_x148 bb_x148 c152 c297 i1u307 c321 c326 c347 bb_x349 c353 ex356) (q1265 p_x1 c5 p_x148 bb_x148 c152 c297 i1u307 c321 c326 c347 bb_x349 c353 ex356))
                  · refine u_X9_off_128 ?_
                    intro x357 ex357
                    exact ih320 _ _ _ _ _ _ ⟨rfl, rfl, rfl, rfl, (q1266 p_x1 c5 p_x148 bb_x148 c152 c297 i1u307 c321 c326 c347 bb_x349 c353 c355 ex357)⟩ (mu_up (q1267 p_x1 c5 p_x148 bb_x148 c152 c297 i1u307 c321 c326 c347 bb_x349 c353 c355 ex357) (q1268 p_x1 c5 p_x148 bb_x148 c152 c297 i1u307 c321 c326 c347 bb_x349 c353 c355 ex357))
              · refine u_X9_off_99 ?_
                refine u_X9_off_104 ?_
                refine ⟨o_v0, ?_⟩
                refine ⟨a300, ea300, ?_⟩
                refine ⟨o_a300, ?_⟩
                refine m_X7_isOpen hI o_a300 (fun x359 S360 hI2 g361 b_x359 p_x359 => ?_)
                subst p_x359
                intro _ _
                have bb_x359 : x359 = 0 ∨ x359 = 1 := b_x359
                refine ⟨fun c363 => ?_, fun c363 => ?_⟩
                · refine u_X9_off_128 ?_
                  intro x364 ex364
                  exact ih320 _ _ _ _ _ _ ⟨rfl, rfl, rfl, rfl, (q1269 p_x1 c5 p_x148 bb_x148 c152 c297 i1u307 c321 c326 c347 bb_x359 c363 ex364)⟩ (mu_up (q1270 p_x1 c5 p_x148 bb_x148 c152 c297 i1u307 c321 c326 c347 bb_x359 c363 ex364) (q1271 p_x1 c5 p_x148 bb_x148 c152 c297 i1u307 c321 c326 c347 bb_x359 c363 ex364))
                · refine ⟨fun c365 => ?_, fun c365 => ?_⟩
                  · refine u_X9_off_128 ?_
                    intro x366 ex366
                    exact ih320 _ _ _ _ _ _ ⟨rfl, rfl, rfl, rfl, (q1272 p_x1 c5 p_x148 bb_x148 c152 c297 i1u307 c321 c326 c347 bb_x359 c363 c365 ex366)⟩ (mu_up (q1273 p_x1 c5 p_x148 bb_x148 c152 c297 i1u307 c321 c326 c347 bb_x359 c363 c365 ex366) (q1274 p_x1 c5 p_x148 bb_x148 c152 c297 i1u307 c321 c326 c347 bb_x359 c363 c365 ex366))
                  · refine u_X9_off_128 ?_
                    intro x367 ex367
                    exact ih320 _ _ _ _ _ _ ⟨rfl, rfl, rfl, rfl, (q1275 p_x1 c5 p_x148 bb_x148 c152 c297 i1u307 c321 c326 c347 bb_x359 c363 ex367)⟩ (mu_up (q1276 p_x1 c5 p_x148 bb_x148 c152 c297 i1u307 c321 c326 c347 bb_x359 c363 ex367) (q1277 p_x1 c5 p_x148 bb_x148 c152 c297 i1u307 c321 c326 c347 bb_x359 c363 ex367))
        · exact hq _ _ hI g0 f0
      · intro _ _
        refine ⟨fun c369 => ?_, fun c369 => ?_⟩
        · obtain ⟨a370, ea370, o_a370, -⟩ := sh 4 rfl hI o_v0
          refine ⟨a370, ea370, ?_⟩
          obtain ⟨a371, ea371, o_a371, -⟩ := sh 1 rfl hI o_v0
          refine ⟨a371, ea371, ?_⟩
          obtain ⟨a372, ea372, o_a372, -⟩ := sh 3 rfl hI o_v0
          refine ⟨a372, ea372, ?_⟩
          refine ⟨o_a370, ?_⟩
          refine m_X7_reckon hI o_a370 o_a371 o_a372 (q1278 p_x1 c5 p_x148 bb_x148 c152 c297 c369) (fun S374 hJ g375 fc376 => ?_)
          have hI := hJ
          have d_y296 := d_y296.trans (fri_at fc376 (by decide) (by decide) o_v0).symm
          have ea370 := (frr_at fc376 (by decide) (by decide) o_v0).trans ea370
          have ea371 := (frr_at fc376 (by decide) (by decide) o_v0).trans ea371
          have ea372 := (frr_at fc376 (by decide) (by decide) o_v0).trans ea372
          have f0 := fri_tr (S := S295) g0 f0 fc376 (by decide) (by decide)
          have o_a370 := gr_ob g375 o_a370
          have o_a371 := gr_ob g375 o_a371
          have o_a372 := gr_ob g375 o_a372
          have o_v0 := gr_ob g375 o_v0
          have g0 := gr_tr (T := S295) g0 g375
          intro _
          refine i_X9_off_62 (fun (y0 : Nat) (y2 : Int32) (y4 : Int32) (y6 : Int32) (y7 : Int32) (Z : HS) => ((2147483647 : Int32).toInt - y7.toInt).toNat) (fun (y0 : Nat) (y2 : Int32) (y4 : Int32) (y6 : Int32) (y7 : Int32) (Z : HS) => (S374 = Z) ∧ (v0 = y0) ∧ (v2 = y2) ∧ (v4 = y4) ∧ (0 ≤ y7)) ?_ _ _ _ _ _ _ ⟨rfl, rfl, rfl, rfl, (q1279 p_x1 c5 p_x148 bb_x148 c152 c297 c369)⟩
          intro w381 w383 w385 w387 w388 S378 X389 ⟨eS378, q382, q384, q386, i1u377⟩ ih390
          subst q382
          subst q384
          subst q386
          subst eS378
          refine u_X9_off_62 ?_
          refine ⟨fun c391 => ?_, fun c391 => ?_⟩
          · refine ⟨fun c392 => ?_, fun c392 => ?_⟩
            · exact hq _ _ hI g0 f0
            · refine ⟨o_v0, ?_⟩
              refine u_X9_refuse ?_
              refine u_X9_refuse_0 ?_
              refine ⟨o_v0, ?_⟩
              intro S393 eS393
              have hI : IV S393 := by rw [eS393]; exact iv_sI hI o_v0 (by decide) (nu_free (by decide))
              have f0 := fr_I eS393 g0 f0 o_v0 (by decide)
              obtain ⟨y394, hy394⟩ : ∃ z : Int32, z = (6 : Int32) := ⟨_, rfl⟩
              have d_y394 := rd_Is eS393 hy394
              have ea370 := rf_I eS393 ea370
              have ea371 := rf_I eS393 ea371
              have ea372 := rf_I eS393 ea372
              have g0 := gr_I eS393 g0
              have o_a370 := ob_I eS393 o_a370
              have o_a371 := ob_I eS393 o_a371
              have o_a372 := ob_I eS393 o_a372
              have o_v0 := ob_I eS393 o_v0
              intro _
              exact hq _ _ hI g0 f0
          · refine ⟨fun c396 => ?_, fun c396 => ?_⟩
            · refine u_X9_off_99 ?_
              refine u_X9_off_104 ?_
              refine ⟨o_v0, ?_⟩
              refine ⟨a370, ea370, ?_⟩
              refine ⟨o_a370, ?_⟩
              refine m_X7_isOpen hI o_a370 (fun x398 S399 hI2 g400 b_x398 p_x398 => ?_)
              subst p_x398
              intro _ _
              have bb_x398 : x398 = 0 ∨ x398 = 1 := b_x398
              refine ⟨fun c402 => ?_, fun c402 => ?_⟩
              · refine u_X9_off_128 ?_
                intro x403 ex403
                exact ih390 _ _ _ _ _ _ ⟨rfl, rfl, rfl, rfl, (q1280 p_x1 c5 p_x148 bb_x148 c152 c297 c369 i1u377 c391 c396 bb_x398 c402 ex403)⟩ (mu_up (q1281 p_x1 c5 p_x148 bb_x148 c152 c297 c369 i1u377 c391 c396 bb_x398 c402 ex403) (q1282 p_x1 c5 p_x148 bb_x148 c152 c297 c369 i1u377 c391 c396 bb_x398 c402 ex403))
              · refine ⟨fun c404 => ?_, fun c404 => ?_⟩
                · refine u_X9_off_128 ?_
                  intro x405 ex405
                  exact ih390 _ _ _ _ _ _ ⟨rfl, rfl, rfl, rfl, (q1283 p_x1 c5 p_x148 bb_x148 c152 c297 c369 i1u377 c391 c396 bb_x398 c402 c404 ex405)⟩ (mu_up (q1284 p_x1 c5 p_x148 bb_x148 c152 c297 c369 i1u377 c391 c396 bb_x398 c402 c404 ex405) (q1285 p_x1 c5 p_x148 bb_x148 c152 c297 c369 i1u377 c391 c396 bb_x398 c402 c404 ex405))
                · refine u_X9_off_128 ?_
                  intro x406 ex406
                  exact ih390 _ _ _ _ _ _ ⟨rfl, rfl, rfl, rfl, (q1286 p_x1 c5 p_x148 bb_x148 c152 c297 c369 i1u377 c391 c396 bb_x398 c402 ex406)⟩ (mu_up (q1287 p_x1 c5 p_x148 bb_x148 c152 c297 c369 i1u377 c391 c396 bb_x398 c402 ex406) (q1288 p_x1 c5 p_x148 bb_x148 c152 c297 c369 i1u377 c391 c396 bb_x398 c402 ex406))
            · refine ⟨o_v0, ?_⟩
              refine ⟨a370, ea370, ?_⟩
              refine ⟨o_a370, ?_⟩
              refine m_X7_meanFrom hI o_a370 (fun x408 S409 hI2 g410 p_x408 => ?_)
              subst p_x408
              intro _
              refine ⟨a370, ea370, ?_⟩
              refine ⟨o_a370, ?_⟩
              refine m_X7_meanFrom hI o_a370 (fun x413 S414 hI2 g415 p_x413 => ?_)
              subst p_x413
              intro _
              refine ⟨fun c417 => ?_, fun c417 => ?_⟩
              · refine u_X9_off_104 ?_
                refine ⟨o_v0, ?_⟩
                refine ⟨a370, ea370, ?_⟩
                refine ⟨o_a370, ?_⟩
                refine m_X7_isOpen hI o_a370 (fun x419 S420 hI2 g421 b_x419 p_x419 => ?_)
                subst p_x419
                intro _ _
                have bb_x419 : x419 = 0 ∨ x419 = 1 := b_x419
                refine ⟨fun c423 => ?_, fun c423 => ?_⟩
                · refine u_X9_off_128 ?_
                  intro x424 ex424
                  exact ih390 _ _ _ _ _ _ ⟨rfl, rfl, rfl, rfl, (q1289 p_x1 c5 p_x148 bb_x148 c152 c297 c369 i1u377 c391 c396 c417 bb_x419 c423 ex424)⟩ (mu_up (q1290 p_x1 c5 p_x148 bb_x148 c152 c297 c369 i1u377 c391 c396 c417 bb_x419 c423 ex424) (q1291 p_x1 c5 p_x148 bb_x148 c152 c297 c369 i1u377 c391 c396 c417 bb_x419 c423 ex424))
                · refine ⟨fun c425 => ?_, fun c425 => ?_⟩
                  · refine u_X9_off_128 ?_
                    intro x426 ex426
                    exact ih390 _ _ _ _ _ _ ⟨rfl, rfl, rfl, rfl, (q1292 p_x1 c5 p_x148 bb_x148 c152 c297 c369 i1u377 c391 c396 c417 bb_x419 c423 ex426)⟩ (mu_up (q1293 p_x1 c5 p_x148 bb_x148 c152 c297 c369 i1u377 c391 c396 c417 bb_x419 c423 ex426) (q1294 p_x1 c5 p_x148 bb_x148 c152 c297 c369 i1u377 c391 c396 c417 bb_x419 c423 ex426))
                  · refine u_X9_off_128 ?_
                    intro x427 ex427
                    exact ih390 _ _ _ _ _ _ ⟨rfl, rfl, rfl, rfl, (q1295 p_x1 c5 p_x148 bb_x148 c152 c297 c369 i1u377 c391 c396 c417 bb_x419 c423 c425 ex427)⟩ (mu_up (q1296 p_x1 c5 p_x148 bb_x148 c152 c297 c369 i1u377 c391 c396 c417 bb_x419 c423 c425 ex427) (q1297 p_x1 c5 p_x148 bb_x148 c152 c297 c369 i1u377 c391 c396 c417 bb_x419 c423 c425 ex427))
              · refine u_X9_off_99 ?_
                refine u_X9_off_104 ?_
                refine ⟨o_v0, ?_⟩
                refine ⟨a370, ea370, ?_⟩
                refine ⟨o_a370, ?_⟩
                refine m_X7_isOpen hI o_a370 (fun x429 S430 hI2 g431 b_x429 p_x429 => ?_)
                subst p_x429
                intro _ _
                have bb_x429 : x429 = 0 ∨ x429 = 1 := b_x429
                refine ⟨fun c433 => ?_, fun c433 => ?_⟩
                · refine u_X9_off_128 ?_
                  intro x434 ex434
                  exact ih390 _ _ _ _ _ _ ⟨rfl, rfl, rfl, rfl, (q1298 p_x1 c5 p_x148 bb_x148 c152 c297 c369 i1u377 c391 c396 c417 bb_x429 c433 ex434)⟩ (mu_up (q1299 p_x1 c5 p_x148 bb_x148 c152 c297 c369 i1u377 c391 c396 c417 bb_x429 c433 ex434) (q1300 p_x1 c5 p_x148 bb_x148 c152 c297 c369 i1u377 c391 c396 c417 bb_x429 c433 ex434))
                · refine ⟨fun c435 => ?_, fun c435 => ?_⟩
                  · refine u_X9_off_128 ?_
                    intro x436 ex436
                    exact ih390 _ _ _ _ _ _ ⟨rfl, rfl, rfl, rfl, (q1301 p_x1 c5 p_x148 bb_x148 c152 c297 c369 i1u377 c391 c396 c417 bb_x429 c433 c435 ex436)⟩ (mu_up (q1302 p_x1 c5 p_x148 bb_x148 c152 c297 c369 i1u377 c391 c396 c417 bb_x429 c433 c435 ex436) (q1303 p_x1 c5 p_x148 bb_x148 c152 c297 c369 i1u377 c391 c396 c417 bb_x429 c433 c435 ex436))
                  · refine u_X9_off_128 ?_
                    intro x437 ex437
                    exact ih390 _ _ _ _ _ _ ⟨rfl, rfl, rfl, rfl, (q1304 p_x1 c5 p_x148 bb_x148 c152 c297 c369 i1u377 c391 c396 c417 bb_x429 c433 ex437)⟩ (mu_up (q1305 p_x1 c5 p_x148 bb_x148 c152 c297 c369 i1u377 c391 c396 c417 bb_x429 c433 ex437) (q1306 p_x1 c5 p_x148 bb_x148 c152 c297 c369 i1u377 c391 c396 c417 bb_x429 c433 ex437))
        · exact hq _ _ hI g0 f0
end
section
set_option maxHeartbeats 4000000 in
set_option maxRecDepth 20000 in
theorem m_X9_road {v0 : Nat} {v1 : Int32} {v2 : Int32} {Q : Int32 → HS → Prop} {S : HS} (hI : IV S) (o_v0 : ob S v0 9)     (hq : ∀ (r : Int32) (T : HS), IV T → Gr S T → FRI [(9, 9)] [] S T → Q r T) : P_X9_road v0 v1 v2 Q S := by
  have g0 := gr_rf S
  have f0 := fri_rf [(9, 9)] [] S
  refine u_X9_road ?_
  refine u_X9_road_0 ?_
  refine ⟨o_v0, ?_⟩
  obtain ⟨a1, ea1, o_a1, -⟩ := sh 1 rfl hI o_v0
  refine ⟨a1, ea1, ?_⟩
  refine ⟨o_a1, ?_⟩
  refine m_X8_hasRoad hI o_a1 (fun x2 S3 hI2 g4 b_x2 p_x2 => ?_)
  obtain ⟨z_S3, p_x2⟩ := p_x2
  subst z_S3
  intro _ _
  have bb_x2 : x2 = 0 ∨ x2 = 1 := b_x2
  refine ⟨fun c6 => ?_, fun c6 => ?_⟩
  · refine u_X9_road_20 ?_
    refine ⟨o_v0, ?_⟩
    refine u_X9_refuse ?_
    refine u_X9_refuse_0 ?_
    refine ⟨o_v0, ?_⟩
    intro S7 eS7
    have hI : IV S7 := by rw [eS7]; exact iv_sI hI o_v0 (by decide) (nu_free (by decide))
    have f0 := fr_I eS7 g0 f0 o_v0 (by decide)
    obtain ⟨y8, hy8⟩ : ∃ z : Int32, z = (1 : Int32) := ⟨_, rfl⟩
    have d_y8 := rd_Is eS7 hy8
    have ea1 := rf_I eS7 ea1
    have g0 := gr_I eS7 g0
    have o_a1 := ob_I eS7 o_a1
    have o_v0 := ob_I eS7 o_v0
    intro _
    exact hq _ _ hI g0 f0
  · refine ⟨fun c10 => ?_, fun c10 => ?_⟩
    · refine u_X9_road_20 ?_
      refine ⟨o_v0, ?_⟩
      refine u_X9_refuse ?_
      refine u_X9_refuse_0 ?_
      refine ⟨o_v0, ?_⟩
      intro S11 eS11
      have hI : IV S11 := by rw [eS11]; exact iv_sI hI o_v0 (by decide) (nu_free (by decide))
      have f0 := fr_I eS11 g0 f0 o_v0 (by decide)
      obtain ⟨y12, hy12⟩ : ∃ z : Int32, z = (1 : Int32) := ⟨_, rfl⟩
      have d_y12 := rd_Is eS11 hy12
      have ea1 := rf_I eS11 ea1
      have g0 := gr_I eS11 g0
      have o_a1 := ob_I eS11 o_a1
      have o_v0 := ob_I eS11 o_v0
      intro _
      exact hq _ _ hI g0 f0
    · refine ⟨fun c14 => ?_, fun c14 => ?_⟩
      · refine ⟨a1, ea1, ?_⟩
        refine ⟨o_a1, ?_⟩
        obtain ⟨a16, ea16, o_a16, l_a16⟩ := shl 17 rfl hI o_a1
        refine ⟨a16, ea16, ?_⟩
        refine ⟨o_a16, ?_⟩
        have i18 : vp_in v1 (hN _ a16) := (vin l_a16 (m := 12) (by decide) (q1124 p_x2 bb_x2 c6 c10 c14))
        obtain ⟨a17, ea17, o_a17⟩ := ae hI o_a16 (by decide) (by decide) i18
        replace o_a17 : ob _ a17 5 := o_a17
        refine ⟨i18, a17, ea17, ?_⟩
        refine ⟨o_a17, ?_⟩
        refine m_X5_tell hI o_a17 (fun x19 S20 hI2 g21 p_x19 => ?_)
        subst p_x19
        intro _
        refine u_X9_grant ?_
        refine u_X9_grant_0 ?_
        refine ⟨o_v0, ?_⟩
        intro S23 eS23
        have hI : IV S23 := by rw [eS23]; exact iv_sI hI o_v0 (by decide) (nu_free (by decide))
        have f0 := fr_I eS23 g0 f0 o_v0 (by decide)
        obtain ⟨y24, hy24⟩ : ∃ z : Int32, z = (0 : Int32) := ⟨_, rfl⟩
        have d_y24 := rd_Is eS23 hy24
        have ea1 := rf_I eS23 ea1
        have ea16 := rf_I eS23 ea16
        have l_a16 := ln_I eS23 l_a16
        have g0 := gr_I eS23 g0
        have o_a1 := ob_I eS23 o_a1
        have o_a16 := ob_I eS23 o_a16
        have o_a17 := ob_I eS23 o_a17
        have o_v0 := ob_I eS23 o_v0
        intro _
        exact hq _ _ hI g0 f0
      · refine u_X9_road_20 ?_
        refine ⟨o_v0, ?_⟩
        refine u_X9_refuse ?_
        refine u_X9_refuse_0 ?_
        refine ⟨o_v0, ?_⟩
        intro S26 eS26
        have hI : IV S26 := by rw [eS26]; exact iv_sI hI o_v0 (by decide) (nu_free (by decide))
        have f0 := fr_I eS26 g0 f0 o_v0 (by decide)
        obtain ⟨y27, hy27⟩ : ∃ z : Int32, z = (1 : Int32) := ⟨_, rfl⟩
        have d_y27 := rd_Is eS26 hy27
        have ea1 := rf_I eS26 ea1
        have g0 := gr_I eS26 g0
        have o_a1 := ob_I eS26 o_a1
        have o_v0 := ob_I eS26 o_v0
        intro _
        exact hq _ _ hI g0 f0
set_option maxHeartbeats 4000000 in
set_option maxRecDepth 20000 in
theorem m_X9_round {v0 : Nat} {v1 : Int32} {v2 : Int32} {v3 : Int32} {v4 : Int32} {Q : Int64 → HS → Prop} {S : HS} (hI : IV S) (o_v0 : ob S v0 9)     (hq : ∀ (r : Int64) (T : HS), IV T → Gr S T → FRI [(9, 9)] [] S T → Q r T) : P_X9_round v0 v1 v2 v3 v4 Q S := by
  have g0 := gr_rf S
  have f0 := fri_rf [(9, 9)] [] S
  refine u_X9_round ?_
  refine u_X9_round_0 ?_
  refine ⟨o_v0, ?_⟩
  refine m_X9_tripTrouble hI o_v0 (fun x1 S2 hI2 g3 p_x1 => ?_)
  obtain ⟨z_S2, p_x1⟩ := p_x1
  subst z_S2
  intro _
  refine u_X9_refusedBy ?_
  refine u_X9_refusedBy_0 ?_
  refine ⟨o_v0, ?_⟩
  intro S5 eS5
  have hI : IV S5 := by rw [eS5]; exact iv_sI hI o_v0 (by decide) (nu_free (by decide))
  have f0 := fr_I eS5 g0 f0 o_v0 (by decide)
  have d_x1 := rd_Is eS5 (rfl : x1 = x1)
  have g0 := gr_I eS5 g0
  have o_v0 := ob_I eS5 o_v0
  refine ⟨fun c6 => ?_, fun c6 => ?_⟩
  · intro _ _
    refine ⟨fun c8 => ?_, fun c8 => ?_⟩
    · obtain ⟨a9, ea9, o_a9, -⟩ := sh 3 rfl hI o_v0
      refine ⟨a9, ea9, ?_⟩
      obtain ⟨a10, ea10, o_a10, -⟩ := sh 1 rfl hI o_v0
      refine ⟨a10, ea10, ?_⟩
      refine ⟨o_a10, ?_⟩
      obtain ⟨a11, ea11, o_a11, l_a11⟩ := shl 18 rfl hI o_a10
      refine ⟨a11, ea11, ?_⟩
      refine ⟨o_a11, ?_⟩
      have i13 : vp_in v1 (hN _ a11) := (vin l_a11 (m := 4) (by decide) (q0 p_x1 c6))
      obtain ⟨a12, ea12, o_a12⟩ := ae hI o_a11 (by decide) (by decide) i13
      replace o_a12 : ob _ a12 6 := o_a12
      refine ⟨i13, a12, ea12, ?_⟩
      refine ⟨a10, ea10, ?_⟩
      refine ⟨o_a10, ?_⟩
      obtain ⟨a15, ea15, o_a15, l_a15⟩ := shl 17 rfl hI o_a10
      refine ⟨a15, ea15, ?_⟩
      refine ⟨o_a15, ?_⟩
      have i17 : vp_in v2 (hN _ a15) := (vin l_a15 (m := 12) (by decide) (q1 p_x1 c6))
      obtain ⟨a16, ea16, o_a16⟩ := ae hI o_a15 (by decide) (by decide) i17
      replace o_a16 : ob _ a16 5 := o_a16
      refine ⟨i17, a16, ea16, ?_⟩
      refine ⟨a10, ea10, ?_⟩
      refine ⟨o_a10, ?_⟩
      obtain ⟨a19, ea19, o_a19, l_a19⟩ := shl 15 rfl hI o_a10
      refine ⟨a19, ea19, ?_⟩
      refine ⟨o_a19, ?_⟩
      have i21 : vp_in v3 (hN _ a19) := (vin l_a19 (m := 6) (by decide) (q2 p_x1 c6))
      obtain ⟨a20, ea20, o_a20⟩ := ae hI o_a19 (by decide) (by decide) i21
      replace o_a20 : ob _ a20 3 := o_a20
      refine ⟨i21, a20, ea20, ?_⟩
      refine ⟨o_a9, ?_⟩
      refine m_X1_leastWet hI o_a9 o_a12 o_a16 o_a20 (fun x22 S23 hJ g24 fc25 => ?_)
      have hI := hJ
      have l_a11 := (gr_len g24 o_a11).trans l_a11
      have l_a15 := (gr_len g24 o_a15).trans l_a15
      have l_a19 := (gr_len g24 o_a19).trans l_a19
      have d_x1 := d_x1.trans (fri_at fc25 (by decide) (by decide) o_v0).symm
      have ea9 := (frr_at fc25 (by decide) (by decide) o_v0).trans ea9
      have ea10 := (frr_at fc25 (by decide) (by decide) o_v0).trans ea10
      have ea11 := (frr_at fc25 (by decide) (by decide) o_a10).trans ea11
      have ea15 := (frr_at fc25 (by decide) (by decide) o_a10).trans ea15
      have ea19 := (frr_at fc25 (by decide) (by decide) o_a10).trans ea19
      have f0 := fri_tr (S := S5) g0 f0 fc25 (by decide) (by decide)
      have o_a10 := gr_ob g24 o_a10
      have o_a11 := gr_ob g24 o_a11
      have o_a12 := gr_ob g24 o_a12
      have o_a15 := gr_ob g24 o_a15
      have o_a16 := gr_ob g24 o_a16
      have o_a19 := gr_ob g24 o_a19
      have o_a20 := gr_ob g24 o_a20
      have o_a9 := gr_ob g24 o_a9
      have o_v0 := gr_ob g24 o_v0
      have g0 := gr_tr (T := S5) g0 g24
      intro _
      refine ⟨a9, ea9, ?_⟩
      refine ⟨a10, ea10, ?_⟩
      refine ⟨o_a10, ?_⟩
      refine ⟨a11, ea11, ?_⟩
      refine ⟨o_a11, ?_⟩
      have i30 : vp_in v1 (hN _ a11) := (vin l_a11 (m := 4) (by decide) (q0 p_x1 c6))
      obtain ⟨a29, ea29, o_a29⟩ := ae hI o_a11 (by decide) (by decide) i30
      replace o_a29 : ob _ a29 6 := o_a29
      refine ⟨i30, a29, ea29, ?_⟩
      refine ⟨a10, ea10, ?_⟩
      refine ⟨o_a10, ?_⟩
      refine ⟨a15, ea15, ?_⟩
      refine ⟨o_a15, ?_⟩
      have i34 : vp_in v2 (hN _ a15) := (vin l_a15 (m := 12) (by decide) (q1 p_x1 c6))
      obtain ⟨a33, ea33, o_a33⟩ := ae hI o_a15 (by decide) (by decide) i34
      replace o_a33 : ob _ a33 5 := o_a33
      refine ⟨i34, a33, ea33, ?_⟩
      refine ⟨a10, ea10, ?_⟩
      refine ⟨o_a10, ?_⟩
      refine ⟨a19, ea19, ?_⟩
      refine ⟨o_a19, ?_⟩
      have i38 : vp_in v3 (hN _ a19) := (vin l_a19 (m := 6) (by decide) (q2 p_x1 c6))
      obtain ⟨a37, ea37, o_a37⟩ := ae hI o_a19 (by decide) (by decide) i38
      replace o_a37 : ob _ a37 3 := o_a37
      refine ⟨i38, a37, ea37, ?_⟩
      refine ⟨o_a9, ?_⟩
      refine m_X1_leastWet hI o_a9 o_a29 o_a33 o_a37 (fun x39 S40 hJ g41 fc42 => ?_)
      have hI := hJ
      have l_a11 := (gr_len g41 o_a11).trans l_a11
      have l_a15 := (gr_len g41 o_a15).trans l_a15
      have l_a19 := (gr_len g41 o_a19).trans l_a19
      have d_x1 := d_x1.trans (fri_at fc42 (by decide) (by decide) o_v0).symm
      have ea9 := (frr_at fc42 (by decide) (by decide) o_v0).trans ea9
      have ea10 := (frr_at fc42 (by decide) (by decide) o_v0).trans ea10
      have ea11 := (frr_at fc42 (by decide) (by decide) o_a10).trans ea11
      have ea15 := (frr_at fc42 (by decide) (by decide) o_a10).trans ea15
      have ea19 := (frr_at fc42 (by decide) (by decide) o_a10).trans ea19
      have f0 := fri_tr (S := S23) g0 f0 fc42 (by decide) (by decide)
      have o_a10 := gr_ob g41 o_a10
      have o_a11 := gr_ob g41 o_a11
      have o_a12 := gr_ob g41 o_a12
      have o_a15 := gr_ob g41 o_a15
      have o_a16 := gr_ob g41 o_a16
      have o_a19 := gr_ob g41 o_a19
      have o_a20 := gr_ob g41 o_a20
      have o_a29 := gr_ob g41 o_a29
      have o_a33 := gr_ob g41 o_a33
      have o_a37 := gr_ob g41 o_a37
      have o_a9 := gr_ob g41 o_a9
      have o_v0 := gr_ob g41 o_v0
      have g0 := gr_tr (T := S23) g0 g41
      intro _
      refine m_X9_fraction hI (fun x43 S44 hI2 g45 p_x43 => ?_)
      subst p_x43
      intro _
      exact hq _ _ hI g0 f0
    · exact hq _ _ hI g0 f0
  · intro _ _
    refine ⟨fun c48 => ?_, fun c48 => ?_⟩
    · obtain ⟨a49, ea49, o_a49, -⟩ := sh 3 rfl hI o_v0
      refine ⟨a49, ea49, ?_⟩
      obtain ⟨a50, ea50, o_a50, -⟩ := sh 1 rfl hI o_v0
      refine ⟨a50, ea50, ?_⟩
      refine ⟨o_a50, ?_⟩
      obtain ⟨a51, ea51, o_a51, l_a51⟩ := shl 18 rfl hI o_a50
      refine ⟨a51, ea51, ?_⟩
      refine ⟨o_a51, ?_⟩
      have i53 : vp_in v1 (hN _ a51) := (vin l_a51 (m := 4) (by decide) (q3 p_x1 c6 c48))
      obtain ⟨a52, ea52, o_a52⟩ := ae hI o_a51 (by decide) (by decide) i53
      replace o_a52 : ob _ a52 6 := o_a52
      refine ⟨i53, a52, ea52, ?_⟩
      refine ⟨a50, ea50, ?_⟩
      refine ⟨o_a50, ?_⟩
      obtain ⟨a55, ea55, o_a55, l_a55⟩ := shl 17 rfl hI o_a50
      refine ⟨a55, ea55, ?_⟩
      refine ⟨o_a55, ?_⟩
      have i57 : vp_in v2 (hN _ a55) := (vin l_a55 (m := 12) (by decide) (q4 p_x1 c6 c48))
      obtain ⟨a56, ea56, o_a56⟩ := ae hI o_a55 (by decide) (by decide) i57
      replace o_a56 : ob _ a56 5 := o_a56
      refine ⟨i57, a56, ea56, ?_⟩
      refine ⟨a50, ea50, ?_⟩
      refine ⟨o_a50, ?_⟩
      obtain ⟨a59, ea59, o_a59, l_a59⟩ := shl 15 rfl hI o_a50
      refine ⟨a59, ea59, ?_⟩
      refine ⟨o_a59, ?_⟩
      have i61 : vp_in v3 (hN _ a59) := (vin l_a59 (m := 6) (by decide) (q5 p_x1 c6 c48))
      obtain ⟨a60, ea60, o_a60⟩ := ae hI o_a59 (by decide) (by decide) i61
      replace o_a60 : ob _ a60 3 := o_a60
      refine ⟨i61, a60, ea60, ?_⟩
      refine ⟨o_a49, ?_⟩
      refine m_X1_leastWet hI o_a49 o_a52 o_a56 o_a60 (fun x62 S63 hJ g64 fc65 => ?_)
      have hI := hJ
      have l_a51 := (gr_len g64 o_a51).trans l_a51
      have l_a55 := (gr_len g64 o_a55).trans l_a55
      have l_a59 := (gr_len g64 o_a59).trans l_a59
      have d_x1 := d_x1.trans (fri_at fc65 (by decide) (by decide) o_v0).symm
      have ea49 := (frr_at fc65 (by decide) (by decide) o_v0).trans ea49
      have ea50 := (frr_at fc65 (by decide) (by decide) o_v0).trans ea50
      have ea51 := (frr_at fc65 (by decide) (by decide) o_a50).trans ea51
      have ea55 := (frr_at fc65 (by decide) (by decide) o_a50).trans ea55
      have ea59 := (frr_at fc65 (by decide) (by decide) o_a50).trans ea59
      have f0 := fri_tr (S := S5) g0 f0 fc65 (by decide) (by decide)
      have o_a49 := gr_ob g64 o_a49
      have o_a50 := gr_ob g64 o_a50
      have o_a51 := gr_ob g64 o_a51
      have o_a52 := gr_ob g64 o_a52
      have o_a55 := gr_ob g64 o_a55
      have o_a56 := gr_ob g64 o_a56
      have o_a59 := gr_ob g64 o_a59
      have o_a60 := gr_ob g64 o_a60
      have o_v0 := gr_ob g64 o_v0
      have g0 := gr_tr (T := S5) g0 g64
      intro _
      refine ⟨a49, ea49, ?_⟩
      refine ⟨a50, ea50, ?_⟩
      refine ⟨o_a50, ?_⟩
      refine ⟨a51, ea51, ?_⟩
      refine ⟨o_a51, ?_⟩
      have i70 : vp_in v1 (hN _ a51) := (vin l_a51 (m := 4) (by decide) (q3 p_x1 c6 c48))
      obtain ⟨a69, ea69, o_a69⟩ := ae hI o_a51 (by decide) (by decide) i70
      replace o_a69 : ob _ a69 6 := o_a69
      refine ⟨i70, a69, ea69, ?_⟩
      refine ⟨a50, ea50, ?_⟩
      refine ⟨o_a50, ?_⟩
      refine ⟨a55, ea55, ?_⟩
      refine ⟨o_a55, ?_⟩
      have i74 : vp_in v2 (hN _ a55) := (vin l_a55 (m := 12) (by decide) (q4 p_x1 c6 c48))
      obtain ⟨a73, ea73, o_a73⟩ := ae hI o_a55 (by decide) (by decide) i74
      replace o_a73 : ob _ a73 5 := o_a73
      refine ⟨i74, a73, ea73, ?_⟩
      refine ⟨a50, ea50, ?_⟩
      refine ⟨o_a50, ?_⟩
      refine ⟨a59, ea59, ?_⟩
      refine ⟨o_a59, ?_⟩
      have i78 : vp_in v3 (hN _ a59) := (vin l_a59 (m := 6) (by decide) (q5 p_x1 c6 c48))
      obtain ⟨a77, ea77, o_a77⟩ := ae hI o_a59 (by decide) (by decide) i78
      replace o_a77 : ob _ a77 3 := o_a77
      refine ⟨i78, a77, ea77, ?_⟩
      refine ⟨o_a49, ?_⟩
      refine m_X1_leastWet hI o_a49 o_a69 o_a73 o_a77 (fun x79 S80 hJ g81 fc82 => ?_)
      have hI := hJ
      have l_a51 := (gr_len g81 o_a51).trans l_a51
      have l_a55 := (gr_len g81 o_a55).trans l_a55
      have l_a59 := (gr_len g81 o_a59).trans l_a59
      have d_x1 := d_x1.trans (fri_at fc82 (by decide) (by decide) o_v0).symm
      have ea49 := (frr_at fc82 (by decide) (by decide) o_v0).trans ea49
      have ea50 := (frr_at fc82 (by decide) (by decide) o_v0).trans ea50
      have ea51 := (frr_at fc82 (by decide) (by decide) o_a50).trans ea51
      have ea55 := (frr_at fc82 (by decide) (by decide) o_a50).trans ea55
      have ea59 := (frr_at fc82 (by decide) (by decide) o_a50).trans ea59
      have f0 := fri_tr (S := S63) g0 f0 fc82 (by decide) (by decide)
      have o_a49 := gr_ob g81 o_a49
      have o_a50 := gr_ob g81 o_a50
      have o_a51 := gr_ob g81 o_a51
      have o_a52 := gr_ob g81 o_a52
      have o_a55 := gr_ob g81 o_a55
      have o_a56 := gr_ob g81 o_a56
      have o_a59 := gr_ob g81 o_a59
      have o_a60 := gr_ob g81 o_a60
      have o_a69 := gr_ob g81 o_a69
      have o_a73 := gr_ob g81 o_a73
      have o_a77 := gr_ob g81 o_a77
      have o_v0 := gr_ob g81 o_v0
      have g0 := gr_tr (T := S63) g0 g81
      intro _
      refine m_X9_fraction hI (fun x83 S84 hI2 g85 p_x83 => ?_)
      subst p_x83
      intro _
      exact hq _ _ hI g0 f0
    · exact hq _ _ hI g0 f0
set_option maxHeartbeats 4000000 in
set_option maxRecDepth 20000 in
theorem m_X9_saves {v0 : Nat} {v1 : Int32} {v2 : Int32} {v3 : Int32} {v4 : Int32} {v5 : Int32} {Q : Int64 → HS → Prop} {S : HS} (hI : IV S) (o_v0 : ob S v0 9)     (hq : ∀ (r : Int64) (T : HS), IV T → Gr S T → FRI [(9, 9)] [] S T → Q r T) : P_X9_saves v0 v1 v2 v3 v4 v5 Q S := by
  have g0 := gr_rf S
  have f0 := fri_rf [(9, 9)] [] S
  refine u_X9_saves ?_
  refine u_X9_saves_0 ?_
  refine ⟨o_v0, ?_⟩
  refine m_X9_tripTrouble hI o_v0 (fun x1 S2 hI2 g3 p_x1 => ?_)
  obtain ⟨z_S2, p_x1⟩ := p_x1
  subst z_S2
  intro _
  refine u_X9_refusedBy ?_
  refine u_X9_refusedBy_0 ?_
  refine ⟨o_v0, ?_⟩
  intro S5 eS5
  have hI : IV S5 := by rw [eS5]; exact iv_sI hI o_v0 (by decide) (nu_free (by decide))
  have f0 := fr_I eS5 g0 f0 o_v0 (by decide)
  have d_x1 := rd_Is eS5 (rfl : x1 = x1)
  have g0 := gr_I eS5 g0
  have o_v0 := ob_I eS5 o_v0
  refine ⟨fun c6 => ?_, fun c6 => ?_⟩
  · intro _ _
    refine ⟨fun c8 => ?_, fun c8 => ?_⟩
    · obtain ⟨a9, ea9, o_a9, -⟩ := sh 1 rfl hI o_v0
      refine ⟨a9, ea9, ?_⟩
      refine ⟨o_a9, ?_⟩
      obtain ⟨a10, ea10, o_a10, l_a10⟩ := shl 18 rfl hI o_a9
      refine ⟨a10, ea10, ?_⟩
      refine ⟨o_a10, ?_⟩
      have i12 : vp_in v1 (hN _ a10) := (vin l_a10 (m := 4) (by decide) (q0 p_x1 c6))
      obtain ⟨a11, ea11, o_a11⟩ := ae hI o_a10 (by decide) (by decide) i12
      replace o_a11 : ob _ a11 6 := o_a11
      refine ⟨i12, a11, ea11, ?_⟩
      obtain ⟨a13, ea13, o_a13, -⟩ := sh 3 rfl hI o_v0
      refine ⟨a13, ea13, ?_⟩
      refine ⟨a9, ea9, ?_⟩
      refine ⟨o_a9, ?_⟩
      obtain ⟨a15, ea15, o_a15, l_a15⟩ := shl 17 rfl hI o_a9
      refine ⟨a15, ea15, ?_⟩
      refine ⟨o_a15, ?_⟩
      have i17 : vp_in v2 (hN _ a15) := (vin l_a15 (m := 12) (by decide) (q1 p_x1 c6))
      obtain ⟨a16, ea16, o_a16⟩ := ae hI o_a15 (by decide) (by decide) i17
      replace o_a16 : ob _ a16 5 := o_a16
      refine ⟨i17, a16, ea16, ?_⟩
      refine ⟨a9, ea9, ?_⟩
      refine ⟨o_a9, ?_⟩
      obtain ⟨a19, ea19, o_a19, l_a19⟩ := shl 15 rfl hI o_a9
      refine ⟨a19, ea19, ?_⟩
      refine ⟨o_a19, ?_⟩
      have i21 : vp_in v4 (hN _ a19) := (vin l_a19 (m := 6) (by decide) (q2 p_x1 c6))
      obtain ⟨a20, ea20, o_a20⟩ := ae hI o_a19 (by decide) (by decide) i21
      replace o_a20 : ob _ a20 3 := o_a20
      refine ⟨i21, a20, ea20, ?_⟩
      refine ⟨o_a11, ?_⟩
      intro x22 ex22
      have r_x22 : (0 : Int32) ≤ x22 ∧ x22 ≤ (9 : Int32) := by rw [ex22]; exact nu 4 rfl hI o_a11
      have d_x22 := ex22
      refine ⟨o_a13, ?_⟩
      refine m_X1_wetOf hI o_a13 o_a11 o_a16 o_a20 (fun x23 S24 hJ g25 fc26 => ?_)
      have hI := hJ
      have l_a10 := (gr_len g25 o_a10).trans l_a10
      have l_a15 := (gr_len g25 o_a15).trans l_a15
      have l_a19 := (gr_len g25 o_a19).trans l_a19
      have d_x1 := d_x1.trans (fri_at fc26 (by decide) (by decide) o_v0).symm
      have d_x22 := d_x22.trans (fri_at fc26 (by decide) (by decide) o_a11).symm
      have ea9 := (frr_at fc26 (by decide) (by decide) o_v0).trans ea9
      have ea10 := (frr_at fc26 (by decide) (by decide) o_a9).trans ea10
      have ea13 := (frr_at fc26 (by decide) (by decide) o_v0).trans ea13
      have ea15 := (frr_at fc26 (by decide) (by decide) o_a9).trans ea15
      have ea19 := (frr_at fc26 (by decide) (by decide) o_a9).trans ea19
      have f0 := fri_tr (S := S5) g0 f0 fc26 (by decide) (by decide)
      have o_a10 := gr_ob g25 o_a10
      have o_a11 := gr_ob g25 o_a11
      have o_a13 := gr_ob g25 o_a13
      have o_a15 := gr_ob g25 o_a15
      have o_a16 := gr_ob g25 o_a16
      have o_a19 := gr_ob g25 o_a19
      have o_a20 := gr_ob g25 o_a20
      have o_a9 := gr_ob g25 o_a9
      have o_v0 := gr_ob g25 o_v0
      have g0 := gr_tr (T := S5) g0 g25
      intro _
      refine ⟨a13, ea13, ?_⟩
      refine ⟨a9, ea9, ?_⟩
      refine ⟨o_a9, ?_⟩
      refine ⟨a15, ea15, ?_⟩
      refine ⟨o_a15, ?_⟩
      have i31 : vp_in v2 (hN _ a15) := (vin l_a15 (m := 12) (by decide) (q1 p_x1 c6))
      obtain ⟨a30, ea30, o_a30⟩ := ae hI o_a15 (by decide) (by decide) i31
      replace o_a30 : ob _ a30 5 := o_a30
      refine ⟨i31, a30, ea30, ?_⟩
      refine ⟨a9, ea9, ?_⟩
      refine ⟨o_a9, ?_⟩
      refine ⟨a19, ea19, ?_⟩
      refine ⟨o_a19, ?_⟩
      have i35 : vp_in v4 (hN _ a19) := (vin l_a19 (m := 6) (by decide) (q2 p_x1 c6))
      obtain ⟨a34, ea34, o_a34⟩ := ae hI o_a19 (by decide) (by decide) i35
      replace o_a34 : ob _ a34 3 := o_a34
      refine ⟨i35, a34, ea34, ?_⟩
      refine ⟨o_a13, ?_⟩
      refine m_X1_leastWet hI o_a13 o_a11 o_a30 o_a34 (fun x36 S37 hJ g38 fc39 => ?_)
      have hI := hJ
      have l_a10 := (gr_len g38 o_a10).trans l_a10
      have l_a15 := (gr_len g38 o_a15).trans l_a15
      have l_a19 := (gr_len g38 o_a19).trans l_a19
      have d_x1 := d_x1.trans (fri_at fc39 (by decide) (by decide) o_v0).symm
      have d_x22 := d_x22.trans (fri_at fc39 (by decide) (by decide) o_a11).symm
      have ea9 := (frr_at fc39 (by decide) (by decide) o_v0).trans ea9
      have ea10 := (frr_at fc39 (by decide) (by decide) o_a9).trans ea10
      have ea13 := (frr_at fc39 (by decide) (by decide) o_v0).trans ea13
      have ea15 := (frr_at fc39 (by decide) (by decide) o_a9).trans ea15
      have ea19 := (frr_at fc39 (by decide) (by decide) o_a9).trans ea19
      have f0 := fri_tr (S := S24) g0 f0 fc39 (by decide) (by decide)
      have o_a10 := gr_ob g38 o_a10
      have o_a11 := gr_ob g38 o_a11
      have o_a13 := gr_ob g38 o_a13
      have o_a15 := gr_ob g38 o_a15
      have o_a16 := gr_ob g38 o_a16
      have o_a19 := gr_ob g38 o_a19
      have o_a20 := gr_ob g38 o_a20
      have o_a30 := gr_ob g38 o_a30
      have o_a34 := gr_ob g38 o_a34
      have o_a9 := gr_ob g38 o_a9
      have o_v0 := gr_ob g38 o_v0
      have g0 := gr_tr (T := S24) g0 g38
      intro _
      refine m_X9_fraction hI (fun x40 S41 hI2 g42 p_x40 => ?_)
      subst p_x40
      intro _
      exact hq _ _ hI g0 f0
    · exact hq _ _ hI g0 f0
  · intro _ _
    refine ⟨fun c45 => ?_, fun c45 => ?_⟩
    · obtain ⟨a46, ea46, o_a46, -⟩ := sh 1 rfl hI o_v0
      refine ⟨a46, ea46, ?_⟩
      refine ⟨o_a46, ?_⟩
      obtain ⟨a47, ea47, o_a47, l_a47⟩ := shl 18 rfl hI o_a46
      refine ⟨a47, ea47, ?_⟩
      refine ⟨o_a47, ?_⟩
      have i49 : vp_in v1 (hN _ a47) := (vin l_a47 (m := 4) (by decide) (q3 p_x1 c6 c45))
      obtain ⟨a48, ea48, o_a48⟩ := ae hI o_a47 (by decide) (by decide) i49
      replace o_a48 : ob _ a48 6 := o_a48
      refine ⟨i49, a48, ea48, ?_⟩
      obtain ⟨a50, ea50, o_a50, -⟩ := sh 3 rfl hI o_v0
      refine ⟨a50, ea50, ?_⟩
      refine ⟨a46, ea46, ?_⟩
      refine ⟨o_a46, ?_⟩
      obtain ⟨a52, ea52, o_a52, l_a52⟩ := shl 17 rfl hI o_a46
      refine ⟨a52, ea52, ?_⟩
      refine ⟨o_a52, ?_⟩
      have i54 : vp_in v2 (hN _ a52) := (vin l_a52 (m := 12) (by decide) (q4 p_x1 c6 c45))
      obtain ⟨a53, ea53, o_a53⟩ := ae hI o_a52 (by decide) (by decide) i54
      replace o_a53 : ob _ a53 5 := o_a53
      refine ⟨i54, a53, ea53, ?_⟩
      refine ⟨a46, ea46, ?_⟩
      refine ⟨o_a46, ?_⟩
      obtain ⟨a56, ea56, o_a56, l_a56⟩ := shl 15 rfl hI o_a46
      refine ⟨a56, ea56, ?_⟩
      refine ⟨o_a56, ?_⟩
      have i58 : vp_in v4 (hN _ a56) := (vin l_a56 (m := 6) (by decide) (q5 p_x1 c6 c45))
      obtain ⟨a57, ea57, o_a57⟩ := ae hI o_a56 (by decide) (by decide) i58
      replace o_a57 : ob _ a57 3 := o_a57
      refine ⟨i58, a57, ea57, ?_⟩
      refine ⟨o_a48, ?_⟩
      intro x59 ex59
      have r_x59 : (0 : Int32) ≤ x59 ∧ x59 ≤ (9 : Int32) := by rw [ex59]; exact nu 4 rfl hI o_a48
      have d_x59 := ex59
      refine ⟨o_a50, ?_⟩
      refine m_X1_wetOf hI o_a50 o_a48 o_a53 o_a57 (fun x60 S61 hJ g62 fc63 => ?_)
      have hI := hJ
      have l_a47 := (gr_len g62 o_a47).trans l_a47
      have l_a52 := (gr_len g62 o_a52).trans l_a52
      have l_a56 := (gr_len g62 o_a56).trans l_a56
      have d_x1 := d_x1.trans (fri_at fc63 (by decide) (by decide) o_v0).symm
      have d_x59 := d_x59.trans (fri_at fc63 (by decide) (by decide) o_a48).symm
      have ea46 := (frr_at fc63 (by decide) (by decide) o_v0).trans ea46
      have ea47 := (frr_at fc63 (by decide) (by decide) o_a46).trans ea47
      have ea50 := (frr_at fc63 (by decide) (by decide) o_v0).trans ea50
      have ea52 := (frr_at fc63 (by decide) (by decide) o_a46).trans ea52
      have ea56 := (frr_at fc63 (by decide) (by decide) o_a46).trans ea56
      have f0 := fri_tr (S := S5) g0 f0 fc63 (by decide) (by decide)
      have o_a46 := gr_ob g62 o_a46
      have o_a47 := gr_ob g62 o_a47
      have o_a48 := gr_ob g62 o_a48
      have o_a50 := gr_ob g62 o_a50
      have o_a52 := gr_ob g62 o_a52
      have o_a53 := gr_ob g62 o_a53
      have o_a56 := gr_ob g62 o_a56
      have o_a57 := gr_ob g62 o_a57
      have o_v0 := gr_ob g62 o_v0
      have g0 := gr_tr (T := S5) g0 g62
      intro _
      refine ⟨a50, ea50, ?_⟩
      refine ⟨a46, ea46, ?_⟩
      refine ⟨o_a46, ?_⟩
      refine ⟨a52, ea52, ?_⟩
      refine ⟨o_a52, ?_⟩
      have i68 : vp_in v2 (hN _ a52) := (vin l_a52 (m := 12) (by decide) (q4 p_x1 c6 c45))
      obtain ⟨a67, ea67, o_a67⟩ := ae hI o_a52 (by decide) (by decide) i68
      replace o_a67 : ob _ a67 5 := o_a67
      refine ⟨i68, a67, ea67, ?_⟩
      refine ⟨a46, ea46, ?_⟩
      refine ⟨o_a46, ?_⟩
      refine ⟨a56, ea56, ?_⟩
      refine ⟨o_a56, ?_⟩
      have i72 : vp_in v4 (hN _ a56) := (vin l_a56 (m := 6) (by decide) (q5 p_x1 c6 c45))
      obtain ⟨a71, ea71, o_a71⟩ := ae hI o_a56 (by decide) (by decide) i72
      replace o_a71 : ob _ a71 3 := o_a71
      refine ⟨i72, a71, ea71, ?_⟩
      refine ⟨o_a50, ?_⟩
      refine m_X1_leastWet hI o_a50 o_a48 o_a67 o_a71 (fun x73 S74 hJ g75 fc76 => ?_)
      have hI := hJ
      have l_a47 := (gr_len g75 o_a47).trans l_a47
      have l_a52 := (gr_len g75 o_a52).trans l_a52
      have l_a56 := (gr_len g75 o_a56).trans l_a56
      have d_x1 := d_x1.trans (fri_at fc76 (by decide) (by decide) o_v0).symm
      have d_x59 := d_x59.trans (fri_at fc76 (by decide) (by decide) o_a48).symm
      have ea46 := (frr_at fc76 (by decide) (by decide) o_v0).trans ea46
      have ea47 := (frr_at fc76 (by decide) (by decide) o_a46).trans ea47
      have ea50 := (frr_at fc76 (by decide) (by decide) o_v0).trans ea50
      have ea52 := (frr_at fc76 (by decide) (by decide) o_a46).trans ea52
      have ea56 := (frr_at fc76 (by decide) (by decide) o_a46).trans ea56
      have f0 := fri_tr (S := S61) g0 f0 fc76 (by decide) (by decide)
      have o_a46 := gr_ob g75 o_a46
      have o_a47 := gr_ob g75 o_a47
      have o_a48 := gr_ob g75 o_a48
      have o_a50 := gr_ob g75 o_a50
      have o_a52 := gr_ob g75 o_a52
      have o_a53 := gr_ob g75 o_a53
      have o_a56 := gr_ob g75 o_a56
      have o_a57 := gr_ob g75 o_a57
      have o_a67 := gr_ob g75 o_a67
      have o_a71 := gr_ob g75 o_a71
      have o_v0 := gr_ob g75 o_v0
      have g0 := gr_tr (T := S61) g0 g75
      intro _
      refine m_X9_fraction hI (fun x77 S78 hI2 g79 p_x77 => ?_)
      subst p_x77
      intro _
      exact hq _ _ hI g0 f0
    · exact hq _ _ hI g0 f0
set_option maxHeartbeats 4000000 in
set_option maxRecDepth 20000 in
theorem m_X9_size {v0 : Nat} {v1 : Int32} {Q : Int32 → HS → Prop} {S : HS} (hI : IV S) (o_v0 : ob S v0 9)     (hq : ∀ (r : Int32) (T : HS), IV T → Gr S T → (S = T) → Q r T) : P_X9_size v0 v1 Q S := by
  have g0 := gr_rf S
  refine u_X9_size ?_
  refine u_X9_size_0 ?_
  refine ⟨fun c1 => ?_, fun c1 => ?_, fun c1 => ?_, fun c1 => ?_, fun c1 => ?_, fun c1 => ?_, fun c1 => ?_, fun c1 => ?_, fun c1 => ?_, fun c1 => ?_, fun c1 => ?_, fun c1 => ?_, fun c1 => ?_⟩
  · exact hq _ _ hI g0 rfl
  · refine ⟨o_v0, ?_⟩
    obtain ⟨a2, ea2, o_a2, -⟩ := sh 1 rfl hI o_v0
    refine ⟨a2, ea2, ?_⟩
    refine ⟨o_a2, ?_⟩
    intro x3 ex3
    have r_x3 : (0 : Int32) ≤ x3 ∧ x3 ≤ (60 : Int32) := by rw [ex3]; exact nu 10 rfl hI o_a2
    have d_x3 := ex3
    exact hq _ _ hI g0 rfl
  · refine ⟨o_v0, ?_⟩
    obtain ⟨a4, ea4, o_a4, -⟩ := sh 1 rfl hI o_v0
    refine ⟨a4, ea4, ?_⟩
    refine ⟨o_a4, ?_⟩
    intro x5 ex5
    have r_x5 : (0 : Int32) ≤ x5 ∧ x5 ≤ (6 : Int32) := by rw [ex5]; exact nu 11 rfl hI o_a4
    have d_x5 := ex5
    exact hq _ _ hI g0 rfl
  · refine ⟨o_v0, ?_⟩
    obtain ⟨a6, ea6, o_a6, -⟩ := sh 1 rfl hI o_v0
    refine ⟨a6, ea6, ?_⟩
    refine ⟨o_a6, ?_⟩
    intro x7 ex7
    have r_x7 : (0 : Int32) ≤ x7 ∧ x7 ≤ (8 : Int32) := by rw [ex7]; exact nu 12 rfl hI o_a6
    have d_x7 := ex7
    exact hq _ _ hI g0 rfl
  · refine ⟨o_v0, ?_⟩
    obtain ⟨a8, ea8, o_a8, -⟩ := sh 1 rfl hI o_v0
    refine ⟨a8, ea8, ?_⟩
    refine ⟨o_a8, ?_⟩
    intro x9 ex9
    have r_x9 : (0 : Int32) ≤ x9 ∧ x9 ≤ (12 : Int32) := by rw [ex9]; exact nu 13 rfl hI o_a8
    have d_x9 := ex9
    exact hq _ _ hI g0 rfl
  · refine ⟨o_v0, ?_⟩
    obtain ⟨a10, ea10, o_a10, -⟩ := sh 1 rfl hI o_v0
    refine ⟨a10, ea10, ?_⟩
    refine ⟨o_a10, ?_⟩
    intro x11 ex11
    have r_x11 : (0 : Int32) ≤ x11 ∧ x11 ≤ (4 : Int32) := by rw [ex11]; exact nu 14 rfl hI o_a10
    have d_x11 := ex11
    exact hq _ _ hI g0 rfl
  · refine ⟨o_v0, ?_⟩
    obtain ⟨a12, ea12, o_a12, -⟩ := sh 1 rfl hI o_v0
    refine ⟨a12, ea12, ?_⟩
    refine ⟨o_a12, ?_⟩
    intro x13 ex13
    have r_x13 : (0 : Int32) ≤ x13 ∧ x13 ≤ (4 : Int32) := by rw [ex13]; exact nu 15 rfl hI o_a12
    have d_x13 := ex13
    exact hq _ _ hI g0 rfl
  · refine ⟨o_v0, ?_⟩
    obtain ⟨a14, ea14, o_a14, -⟩ := sh 5 rfl hI o_v0
    refine ⟨a14, ea14, ?_⟩
    refine ⟨o_a14, ?_⟩
    refine m_X0_isOn hI o_a14 (fun x15 S16 hI2 g17 b_x15 p_x15 => ?_)
    subst p_x15
    intro _ _
    have bb_x15 : x15 = 0 ∨ x15 = 1 := b_x15
    refine ⟨fun c19 => ?_, fun c19 => ?_⟩
    · exact hq _ _ hI g0 rfl
    · refine ⟨a14, ea14, ?_⟩
      refine ⟨o_a14, ?_⟩
      intro x21 ex21
      have r_x21 : (-1 : Int32) ≤ x21 ∧ x21 ≤ (3 : Int32) := by rw [ex21]; exact nu 1 rfl hI o_a14
      have d_x21 := ex21
      exact hq _ _ hI g0 rfl
  · refine ⟨o_v0, ?_⟩
    obtain ⟨a22, ea22, o_a22, -⟩ := sh 5 rfl hI o_v0
    refine ⟨a22, ea22, ?_⟩
    refine ⟨o_a22, ?_⟩
    refine m_X0_isOn hI o_a22 (fun x23 S24 hI2 g25 b_x23 p_x23 => ?_)
    subst p_x23
    intro _ _
    have bb_x23 : x23 = 0 ∨ x23 = 1 := b_x23
    refine ⟨fun c27 => ?_, fun c27 => ?_⟩
    · exact hq _ _ hI g0 rfl
    · refine ⟨a22, ea22, ?_⟩
      refine ⟨o_a22, ?_⟩
      obtain ⟨a29, ea29, o_a29, -⟩ := sh 6 rfl hI o_a22
      refine ⟨a29, ea29, ?_⟩
      refine ⟨o_a29, ?_⟩
      intro x30 ex30
      have d_x30 := ex30
      exact hq _ _ hI g0 rfl
  · refine ⟨o_v0, ?_⟩
    obtain ⟨a31, ea31, o_a31, -⟩ := sh 5 rfl hI o_v0
    refine ⟨a31, ea31, ?_⟩
    refine ⟨o_a31, ?_⟩
    refine m_X0_isOn hI o_a31 (fun x32 S33 hI2 g34 b_x32 p_x32 => ?_)
    subst p_x32
    intro _ _
    have bb_x32 : x32 = 0 ∨ x32 = 1 := b_x32
    refine ⟨fun c36 => ?_, fun c36 => ?_⟩
    · exact hq _ _ hI g0 rfl
    · refine ⟨a31, ea31, ?_⟩
      refine ⟨o_a31, ?_⟩
      obtain ⟨a38, ea38, o_a38, -⟩ := sh 6 rfl hI o_a31
      refine ⟨a38, ea38, ?_⟩
      refine ⟨o_a38, ?_⟩
      intro x39 ex39
      have d_x39 := ex39
      exact hq _ _ hI g0 rfl
  · refine ⟨o_v0, ?_⟩
    obtain ⟨a40, ea40, o_a40, -⟩ := sh 5 rfl hI o_v0
    refine ⟨a40, ea40, ?_⟩
    refine ⟨o_a40, ?_⟩
    intro x41 ex41
    have r_x41 : (0 : Int32) ≤ x41 ∧ x41 ≤ (16 : Int32) := by rw [ex41]; exact nu 2 rfl hI o_a40
    have d_x41 := ex41
    exact hq _ _ hI g0 rfl
  · refine ⟨o_v0, ?_⟩
    obtain ⟨a42, ea42, o_a42, -⟩ := sh 5 rfl hI o_v0
    refine ⟨a42, ea42, ?_⟩
    refine ⟨o_a42, ?_⟩
    intro x43 ex43
    have r_x43 : (0 : Int32) ≤ x43 ∧ x43 ≤ (3 : Int32) := by rw [ex43]; exact nu 3 rfl hI o_a42
    have d_x43 := ex43
    exact hq _ _ hI g0 rfl
  · refine ⟨o_v0, ?_⟩
    intro x44 ex44
    have r_x44 : (0 : Int32) ≤ x44 ∧ x44 ≤ (900 : Int32) := by rw [ex44]; exact nu 0 rfl hI o_v0
    have d_x44 := ex44
    exact hq _ _ hI g0 rfl
set_option maxHeartbeats 4000000 in
set_option maxRecDepth 20000 in
theorem m_X9_soaked {v0 : Nat} {Q : Int32 → HS → Prop} {S : HS} (hI : IV S) (o_v0 : ob S v0 9)     (hq : ∀ (r : Int32) (T : HS), IV T → Gr S T → FRI [(9, 9)] [] S T → Q r T) : P_X9_soaked v0 Q S := by
  have g0 := gr_rf S
  have f0 := fri_rf [(9, 9)] [] S
  refine u_X9_soaked ?_
  refine u_X9_soaked_0 ?_
  refine ⟨o_v0, ?_⟩
  obtain ⟨a1, ea1, o_a1, -⟩ := sh 5 rfl hI o_v0
  refine ⟨a1, ea1, ?_⟩
  refine ⟨o_a1, ?_⟩
  refine m_X0_isOn hI o_a1 (fun x2 S3 hI2 g4 b_x2 p_x2 => ?_)
  subst p_x2
  intro _ _
  have bb_x2 : x2 = 0 ∨ x2 = 1 := b_x2
  refine ⟨fun c6 => ?_, fun c6 => ?_⟩
  · refine u_X9_soaked_27 ?_
    refine ⟨o_v0, ?_⟩
    refine u_X9_refuse ?_
    refine u_X9_refuse_0 ?_
    refine ⟨o_v0, ?_⟩
    intro S7 eS7
    have hI : IV S7 := by rw [eS7]; exact iv_sI hI o_v0 (by decide) (nu_free (by decide))
    have f0 := fr_I eS7 g0 f0 o_v0 (by decide)
    obtain ⟨y8, hy8⟩ : ∃ z : Int32, z = (1 : Int32) := ⟨_, rfl⟩
    have d_y8 := rd_Is eS7 hy8
    have ea1 := rf_I eS7 ea1
    have g0 := gr_I eS7 g0
    have o_a1 := ob_I eS7 o_a1
    have o_v0 := ob_I eS7 o_v0
    intro _
    exact hq _ _ hI g0 f0
  · obtain ⟨a10, ea10, o_a10, -⟩ := sh 1 rfl hI o_v0
    refine ⟨a10, ea10, ?_⟩
    refine ⟨a1, ea1, ?_⟩
    refine ⟨o_a1, ?_⟩
    intro x12 ex12
    have r_x12 : (-1 : Int32) ≤ x12 ∧ x12 ≤ (3 : Int32) := by rw [ex12]; exact nu 1 rfl hI o_a1
    have d_x12 := ex12
    refine ⟨o_a10, ?_⟩
    refine m_X8_hasWalker hI o_a10 (fun x13 S14 hI2 g15 b_x13 p_x13 => ?_)
    obtain ⟨z_S14, p_x13⟩ := p_x13
    subst z_S14
    intro _ _
    have bb_x13 : x13 = 0 ∨ x13 = 1 := b_x13
    refine ⟨fun c17 => ?_, fun c17 => ?_⟩
    · refine ⟨a10, ea10, ?_⟩
      refine ⟨o_a10, ?_⟩
      obtain ⟨a19, ea19, o_a19, l_a19⟩ := shl 18 rfl hI o_a10
      refine ⟨a19, ea19, ?_⟩
      refine ⟨a1, ea1, ?_⟩
      refine ⟨o_a1, ?_⟩
      intro x21 ex21
      have r_x21 : (-1 : Int32) ≤ x21 ∧ x21 ≤ (3 : Int32) := by rw [ex21]; exact nu 1 rfl hI o_a1
      have q_x21 : x21 = x12 := ex21.trans d_x12.symm
      have d_x21 := ex21
      refine ⟨o_a19, ?_⟩
      have i23 : vp_in x21 (hN _ a19) := (vin l_a19 (m := 4) (by decide) (q727 bb_x2 c6 r_x12 p_x13 bb_x13 c17 r_x21 q_x21))
      obtain ⟨a22, ea22, o_a22⟩ := ae hI o_a19 (by decide) (by decide) i23
      replace o_a22 : ob _ a22 6 := o_a22
      refine ⟨i23, a22, ea22, ?_⟩
      refine ⟨o_a22, ?_⟩
      intro x24 ex24
      have d_x24 := ex24
      refine ⟨fun c25 => ?_, fun c25 => ?_⟩
      · refine ⟨a1, ea1, ?_⟩
        refine ⟨o_a1, ?_⟩
        obtain ⟨a27, ea27, o_a27, -⟩ := sh 6 rfl hI o_a1
        refine ⟨a27, ea27, ?_⟩
        refine ⟨o_a27, ?_⟩
        refine m_X2_allGot hI o_a27 (fun x28 S29 hI2 g30 p_x28 => ?_)
        subst p_x28
        intro _
        refine m_X9_coatParts hI o_a22 (fun x32 S33 hI2 g34 p_x32 => ?_)
        subst p_x32
        intro _
        refine ⟨fun c36 => ?_, fun c36 => ?_⟩
        · refine u_X9_soaked_88 ?_
          refine ⟨o_v0, ?_⟩
          refine u_X9_grant ?_
          refine u_X9_grant_0 ?_
          refine ⟨o_v0, ?_⟩
          intro S37 eS37
          have hI : IV S37 := by rw [eS37]; exact iv_sI hI o_v0 (by decide) (nu_free (by decide))
          have f0 := fr_I eS37 g0 f0 o_v0 (by decide)
          have d_x21 := rd_Ik eS37 o_v0 o_a1 (by decide) d_x21
          have d_x24 := rd_Ik eS37 o_v0 o_a22 (by decide) d_x24
          obtain ⟨y38, hy38⟩ : ∃ z : Int32, z = (0 : Int32) := ⟨_, rfl⟩
          have d_y38 := rd_Is eS37 hy38
          have ea1 := rf_I eS37 ea1
          have ea10 := rf_I eS37 ea10
          have ea19 := rf_I eS37 ea19
          have ea27 := rf_I eS37 ea27
          have l_a19 := ln_I eS37 l_a19
          have g0 := gr_I eS37 g0
          have o_a1 := ob_I eS37 o_a1
          have o_a10 := ob_I eS37 o_a10
          have o_a19 := ob_I eS37 o_a19
          have o_a22 := ob_I eS37 o_a22
          have o_a27 := ob_I eS37 o_a27
          have o_v0 := ob_I eS37 o_v0
          intro _
          exact hq _ _ hI g0 f0
        · refine u_X9_soaked_88 ?_
          refine ⟨o_v0, ?_⟩
          refine u_X9_grant ?_
          refine u_X9_grant_0 ?_
          refine ⟨o_v0, ?_⟩
          intro S40 eS40
          have hI : IV S40 := by rw [eS40]; exact iv_sI hI o_v0 (by decide) (nu_free (by decide))
          have f0 := fr_I eS40 g0 f0 o_v0 (by decide)
          have d_x21 := rd_Ik eS40 o_v0 o_a1 (by decide) d_x21
          have d_x24 := rd_Ik eS40 o_v0 o_a22 (by decide) d_x24
          obtain ⟨y41, hy41⟩ : ∃ z : Int32, z = (0 : Int32) := ⟨_, rfl⟩
          have d_y41 := rd_Is eS40 hy41
          have ea1 := rf_I eS40 ea1
          have ea10 := rf_I eS40 ea10
          have ea19 := rf_I eS40 ea19
          have ea27 := rf_I eS40 ea27
          have l_a19 := ln_I eS40 l_a19
          have g0 := gr_I eS40 g0
          have o_a1 := ob_I eS40 o_a1
          have o_a10 := ob_I eS40 o_a10
          have o_a19 := ob_I eS40 o_a19
          have o_a22 := ob_I eS40 o_a22
          have o_a27 := ob_I eS40 o_a27
          have o_v0 := ob_I eS40 o_v0
          intro _
          exact hq _ _ hI g0 f0
      · refine u_X9_grant ?_
        refine u_X9_grant_0 ?_
        refine ⟨o_v0, ?_⟩
        intro S43 eS43
        have hI : IV S43 := by rw [eS43]; exact iv_sI hI o_v0 (by decide) (nu_free (by decide))
        have f0 := fr_I eS43 g0 f0 o_v0 (by decide)
        have d_x21 := rd_Ik eS43 o_v0 o_a1 (by decide) d_x21
        have d_x24 := rd_Ik eS43 o_v0 o_a22 (by decide) d_x24
        obtain ⟨y44, hy44⟩ : ∃ z : Int32, z = (0 : Int32) := ⟨_, rfl⟩
        have d_y44 := rd_Is eS43 hy44
        have ea1 := rf_I eS43 ea1
        have ea10 := rf_I eS43 ea10
        have ea19 := rf_I eS43 ea19
        have l_a19 := ln_I eS43 l_a19
        have g0 := gr_I eS43 g0
        have o_a1 := ob_I eS43 o_a1
        have o_a10 := ob_I eS43 o_a10
        have o_a19 := ob_I eS43 o_a19
        have o_a22 := ob_I eS43 o_a22
        have o_v0 := ob_I eS43 o_v0
        intro _
        exact hq _ _ hI g0 f0
    · refine u_X9_soaked_27 ?_
      refine ⟨o_v0, ?_⟩
      refine u_X9_refuse ?_
      refine u_X9_refuse_0 ?_
      refine ⟨o_v0, ?_⟩
      intro S46 eS46
      have hI : IV S46 := by rw [eS46]; exact iv_sI hI o_v0 (by decide) (nu_free (by decide))
      have f0 := fr_I eS46 g0 f0 o_v0 (by decide)
      have d_x12 := rd_Ik eS46 o_v0 o_a1 (by decide) d_x12
      obtain ⟨y47, hy47⟩ : ∃ z : Int32, z = (1 : Int32) := ⟨_, rfl⟩
      have d_y47 := rd_Is eS46 hy47
      have ea1 := rf_I eS46 ea1
      have ea10 := rf_I eS46 ea10
      have g0 := gr_I eS46 g0
      have o_a1 := ob_I eS46 o_a1
      have o_a10 := ob_I eS46 o_a10
      have o_v0 := ob_I eS46 o_v0
      intro _
      exact hq _ _ hI g0 f0
set_option maxHeartbeats 4000000 in
set_option maxRecDepth 20000 in
theorem m_X9_stayTrouble {v0 : Nat} {v1 : Int32} {Q : Int32 → HS → Prop} {S : HS} (hI : IV S) (o_v0 : ob S v0 9)     (hq : ∀ (r : Int32) (T : HS), IV T → Gr S T → (S = T) ∧ (r = 0 → ∀ d, fR S v0 6 = some d → 0 ≤ fI S d 0) → Q r T) : P_X9_stayTrouble v0 v1 Q S := by
  have g0 := gr_rf S
  refine u_X9_stayTrouble ?_
  refine u_X9_stayTrouble_0 ?_
  refine ⟨o_v0, ?_⟩
  obtain ⟨a1, ea1, o_a1, -⟩ := sh 5 rfl hI o_v0
  refine ⟨a1, ea1, ?_⟩
  refine ⟨o_a1, ?_⟩
  refine m_X0_isOn hI o_a1 (fun x2 S3 hI2 g4 b_x2 p_x2 => ?_)
  subst p_x2
  intro _ _
  have bb_x2 : x2 = 0 ∨ x2 = 1 := b_x2
  refine ⟨fun c6 => ?_, fun c6 => ?_⟩
  · exact hq _ _ hI g0 ⟨rfl, (fun h => absurd h (by decide))⟩
  · obtain ⟨a7, ea7, o_a7, -⟩ := sh 1 rfl hI o_v0
    refine ⟨a7, ea7, ?_⟩
    refine ⟨a1, ea1, ?_⟩
    refine ⟨o_a1, ?_⟩
    intro x9 ex9
    have r_x9 : (-1 : Int32) ≤ x9 ∧ x9 ≤ (3 : Int32) := by rw [ex9]; exact nu 1 rfl hI o_a1
    have d_x9 := ex9
    refine ⟨o_a7, ?_⟩
    refine m_X8_hasWalker hI o_a7 (fun x10 S11 hI2 g12 b_x10 p_x10 => ?_)
    obtain ⟨z_S11, p_x10⟩ := p_x10
    subst z_S11
    intro _ _
    have bb_x10 : x10 = 0 ∨ x10 = 1 := b_x10
    refine ⟨fun c14 => ?_, fun c14 => ?_⟩
    · refine ⟨fun c15 => ?_, fun c15 => ?_⟩
      · exact hq _ _ hI g0 ⟨rfl, (fun h => absurd h (by decide))⟩
      · refine ⟨fun c16 => ?_, fun c16 => ?_⟩
        · refine ⟨a7, ea7, ?_⟩
          refine ⟨a1, ea1, ?_⟩
          refine ⟨o_a1, ?_⟩
          obtain ⟨a19, ea19, o_a19, -⟩ := sh 6 rfl hI o_a1
          refine ⟨a19, ea19, ?_⟩
          refine ⟨o_a19, ?_⟩
          intro x20 ex20
          have d_x20 := ex20
          refine ⟨o_a7, ?_⟩
          refine m_X8_canWait hI o_a7 (fun x21 S22 hI2 g23 b_x21 p_x21 => ?_)
          obtain ⟨z_S22, p_x21⟩ := p_x21
          subst z_S22
          intro _ _
          have bb_x21 : x21 = 0 ∨ x21 = 1 := b_x21
          refine ⟨fun c25 => ?_, fun c25 => ?_⟩
          · refine ⟨a1, ea1, ?_⟩
            refine ⟨o_a1, ?_⟩
            refine ⟨a19, ea19, ?_⟩
            refine ⟨o_a19, ?_⟩
            intro x28 ex28
            have d_x28 := ex28
            refine ⟨fun c29 => ?_, fun c29 => ?_⟩
            · exact hq _ _ hI g0 ⟨rfl, (fun _ d hd => by cases ea1.symm.trans hd; rw [← d_x9]; exact (q1088 bb_x2 c6 r_x9 p_x10 bb_x10 c14 c15 c16 p_x21 bb_x21 c25 c29))⟩
            · exact hq _ _ hI g0 ⟨rfl, (fun h => absurd h (by decide))⟩
          · exact hq _ _ hI g0 ⟨rfl, (fun h => absurd h (by decide))⟩
        · exact hq _ _ hI g0 ⟨rfl, (fun h => absurd h (by decide))⟩
    · exact hq _ _ hI g0 ⟨rfl, (fun h => absurd h (by decide))⟩
set_option maxHeartbeats 4000000 in
set_option maxRecDepth 20000 in
theorem m_X9_stay {v0 : Nat} {v1 : Int32} {Q : Int32 → HS → Prop} {S : HS} (hI : IV S) (o_v0 : ob S v0 9)     (hq : ∀ (r : Int32) (T : HS), IV T → Gr S T → FRI [(0, 2), (2, 0), (2, 1), (9, 9)] [] S T → bl r → Q r T) : P_X9_stay v0 v1 Q S := by
  have g0 := gr_rf S
  have f0 := fri_rf [(0, 2), (2, 0), (2, 1), (9, 9)] [] S
  refine u_X9_stay ?_
  refine u_X9_stay_0 ?_
  refine ⟨o_v0, ?_⟩
  refine m_X9_stayTrouble hI o_v0 (fun x1 S2 hI2 g3 p_x1 => ?_)
  obtain ⟨z_S2, p_x1⟩ := p_x1
  subst z_S2
  intro _
  obtain ⟨a5, ea5, o_a5, -⟩ := sh 5 rfl hI o_v0
  obtain ⟨y6, d_y6⟩ : ∃ z : Int32, z = fI S a5 0 := ⟨_, rfl⟩
  have st_y6 : x1 = 0 → 0 ≤ y6 := fun z => by rw [d_y6]; exact p_x1 z _ ea5
  refine u_X9_refusedBy ?_
  refine u_X9_refusedBy_0 ?_
  refine ⟨o_v0, ?_⟩
  intro S7 eS7
  have hI : IV S7 := by rw [eS7]; exact iv_sI hI o_v0 (by decide) (nu_free (by decide))
  have f0 := fr_I eS7 g0 f0 o_v0 (by decide)
  have d_y6 := rd_Ik eS7 o_v0 o_a5 (by decide) d_y6
  have d_x1 := rd_Is eS7 (rfl : x1 = x1)
  have ea5 := rf_I eS7 ea5
  have g0 := gr_I eS7 g0
  have o_a5 := ob_I eS7 o_a5
  have o_v0 := ob_I eS7 o_v0
  refine ⟨fun c8 => ?_, fun c8 => ?_⟩
  · intro _ _
    refine ⟨fun c10 => ?_, fun c10 => ?_⟩
    · refine ⟨a5, ea5, ?_⟩
      refine ⟨o_a5, ?_⟩
      refine m_X0_keepForUndo hI o_a5 (fun S13 hJ g14 fc15 => ?_)
      have hI := hJ
      have d_y6 := d_y6.trans (fri_at fc15 (by decide) (by decide) o_a5).symm
      have d_x1 := d_x1.trans (fri_at fc15 (by decide) (by decide) o_v0).symm
      have ea5 := (frr_at fc15 (by decide) (by decide) o_v0).trans ea5
      have f0 := fri_tr (S := S7) g0 f0 fc15 (by decide) (by decide)
      have o_a5 := gr_ob g14 o_a5
      have o_v0 := gr_ob g14 o_v0
      have g0 := gr_tr (T := S7) g0 g14
      intro _
      obtain ⟨a16, ea16, o_a16, -⟩ := sh 1 rfl hI o_v0
      refine ⟨a16, ea16, ?_⟩
      refine ⟨a16, ea16, ?_⟩
      refine ⟨o_a16, ?_⟩
      obtain ⟨a18, ea18, o_a18, l_a18⟩ := shl 18 rfl hI o_a16
      refine ⟨a18, ea18, ?_⟩
      refine ⟨a5, ea5, ?_⟩
      refine ⟨o_a5, ?_⟩
      intro x20 ex20
      have r_x20 : (-1 : Int32) ≤ x20 ∧ x20 ≤ (3 : Int32) := by rw [ex20]; exact nu 1 rfl hI o_a5
      have q_x20 : x20 = y6 := ex20.trans d_y6.symm
      have d_x20 := ex20
      refine ⟨o_a18, ?_⟩
      have i22 : vp_in x20 (hN _ a18) := (vin l_a18 (m := 4) (by decide) (q1089 st_y6 c8 r_x20 q_x20))
      obtain ⟨a21, ea21, o_a21⟩ := ae hI o_a18 (by decide) (by decide) i22
      replace o_a21 : ob _ a21 6 := o_a21
      refine ⟨i22, a21, ea21, ?_⟩
      refine ⟨a5, ea5, ?_⟩
      refine ⟨o_a5, ?_⟩
      obtain ⟨a24, ea24, o_a24, -⟩ := sh 6 rfl hI o_a5
      refine ⟨a24, ea24, ?_⟩
      refine ⟨o_a24, ?_⟩
      intro x25 ex25
      have d_x25 := ex25
      refine ⟨o_a16, ?_⟩
      refine m_X8_dripOn hI o_a16 o_a21 (fun x26 S27 hI2 g28 p_x26 => ?_)
      subst p_x26
      intro _
      intro x30 ex30
      refine i_X9_stay_58 (fun (y0 : Nat) (y1 : Int32) (y2 : Int64) (y4 : Int32) (Z : HS) => ((2147483647 : Int32).toInt - y4.toInt).toNat) (fun (y0 : Nat) (y1 : Int32) (y2 : Int64) (y4 : Int32) (Z : HS) => (IV Z) ∧ (Gr S13 Z) ∧ (FRI [(2, 1)] [] S13 Z) ∧ (v0 = y0) ∧ (v1 = y1) ∧ (x30 = y2) ∧ (0 ≤ y4)) ?_ _ _ _ _ _ ⟨hI, (gr_rf _), (fri_rf _ _ _), rfl, rfl, rfl, (q1090 st_y6 c8 r_x20 q_x20)⟩
      intro w35 w37 w39 w41 S32 X42 ⟨hI, gL33, fL34, q36, q38, q40, i1u31⟩ ih43
      subst q36
      subst q38
      subst q40
      have l_a18 := (gr_len gL33 o_a18).trans l_a18
      have d_x20 := d_x20.trans (fri_at fL34 (by decide) (by decide) o_a5).symm
      have d_x1 := d_x1.trans (fri_at fL34 (by decide) (by decide) o_v0).symm
      have d_x25 := d_x25.trans (fri_at fL34 (by decide) (by decide) o_a24).symm
      have ea5 := (frr_at fL34 (by decide) (by decide) o_v0).trans ea5
      have ea16 := (frr_at fL34 (by decide) (by decide) o_v0).trans ea16
      have ea18 := (frr_at fL34 (by decide) (by decide) o_a16).trans ea18
      have ea24 := (frr_at fL34 (by decide) (by decide) o_a5).trans ea24
      have f0 := fri_tr (S := S13) g0 f0 fL34 (by decide) (by decide)
      have o_a16 := gr_ob gL33 o_a16
      have o_a18 := gr_ob gL33 o_a18
      have o_a21 := gr_ob gL33 o_a21
      have o_a24 := gr_ob gL33 o_a24
      have o_a5 := gr_ob gL33 o_a5
      have o_v0 := gr_ob gL33 o_v0
      have g0 := gr_tr (T := S13) g0 gL33
      refine u_X9_stay_58 ?_
      refine ⟨fun c44 => ?_, fun c44 => ?_⟩
      · exact hq _ _ hI g0 f0 (Or.inr rfl)
      · refine ⟨o_v0, ?_⟩
        refine ⟨a5, ea5, ?_⟩
        refine ⟨a16, ea16, ?_⟩
        refine ⟨a5, ea5, ?_⟩
        refine ⟨o_a5, ?_⟩
        refine ⟨a24, ea24, ?_⟩
        refine ⟨o_a24, ?_⟩
        intro x49 ex49
        have d_x49 := ex49
        refine ⟨o_a16, ?_⟩
        refine m_X8_hourOf hI o_a16 (fun x50 S51 hI2 g52 p_x50 => ?_)
        subst p_x50
        intro _
        refine ⟨o_a5, ?_⟩
        refine m_X0_rainsIn hI o_a5 (fun x54 S55 hI2 g56 b_x54 p_x54 => ?_)
        subst p_x54
        intro _ _
        have bb_x54 : x54 = 0 ∨ x54 = 1 := b_x54
        refine ⟨fun c58 => ?_, fun c58 => ?_⟩
        · refine u_X9_stay_111 ?_
          refine ⟨o_v0, ?_⟩
          refine ⟨a5, ea5, ?_⟩
          refine ⟨o_a5, ?_⟩
          refine ⟨a24, ea24, ?_⟩
          refine ⟨o_a24, ?_⟩
          intro x61 ex61
          have q_x61 : x61 = x49 := ex61.trans d_x49.symm
          have d_x61 := ex61
          intro x62 ex62
          intro S63 eS63
          have hI : IV S63 := by rw [eS63]; exact iv_sI hI o_a24 (by decide) (nu_free (by decide))
          have f0 := fr_I eS63 g0 f0 o_a24 (by decide)
          have fL34 := fr_I eS63 gL33 fL34 o_a24 (by decide)
          have d_x20 := rd_Ik eS63 o_a24 o_a5 (by decide) d_x20
          have d_x1 := rd_Ik eS63 o_a24 o_v0 (by decide) d_x1
          have d_x25 := rd_Ij eS63 (by decide) d_x25
          have d_x62 := rd_Is eS63 (rfl : x62 = x62)
          have ea5 := rf_I eS63 ea5
          have ea16 := rf_I eS63 ea16
          have ea18 := rf_I eS63 ea18
          have ea24 := rf_I eS63 ea24
          have l_a18 := ln_I eS63 l_a18
          have g0 := gr_I eS63 g0
          have gL33 := gr_I eS63 gL33
          have o_a16 := ob_I eS63 o_a16
          have o_a18 := ob_I eS63 o_a18
          have o_a21 := ob_I eS63 o_a21
          have o_a24 := ob_I eS63 o_a24
          have o_a5 := ob_I eS63 o_a5
          have o_v0 := ob_I eS63 o_v0
          intro x64 ex64
          exact ih43 _ _ _ _ _ ⟨hI, gL33, fL34, rfl, rfl, rfl, (q1091 st_y6 c8 r_x20 q_x20 i1u31 c44 bb_x54 c58 ex64)⟩ (mu_up (q1092 st_y6 c8 r_x20 q_x20 i1u31 c44 bb_x54 c58 ex64) (q1093 st_y6 c8 r_x20 q_x20 i1u31 c44 bb_x54 c58 ex64))
        · refine ⟨a5, ea5, ?_⟩
          refine ⟨o_a5, ?_⟩
          refine ⟨a24, ea24, ?_⟩
          refine ⟨o_a24, ?_⟩
          obtain ⟨a67, ea67, o_a67, l_a67⟩ := shl 11 rfl hI o_a24
          refine ⟨a67, ea67, ?_⟩
          refine ⟨o_a67, ?_⟩
          refine ⟨(vin l_a67 (m := 5) (by decide) (q1094 st_y6 c8 r_x20 q_x20 i1u31 c44 bb_x54 c58)), ?_⟩
          intro x68 ex68
          intro x69 ex69
          have i70 : vp_in (0 : Int32) (hN _ a67) := (vin l_a67 (m := 5) (by decide) (q1094 st_y6 c8 r_x20 q_x20 i1u31 c44 bb_x54 c58))
          refine ⟨i70, ?_⟩
          intro S71 eS71
          have hI : IV S71 := by rw [eS71]; exact iv_aJ hI o_a24 (by decide) ea67 o_a67 (by decide)
          have f0 := fr_J eS71 f0
          have fL34 := fr_J eS71 fL34
          have d_x20 := rd_J eS71 d_x20
          have d_x1 := rd_J eS71 d_x1
          have d_x25 := rd_J eS71 d_x25
          have d_x49 := rd_J eS71 d_x49
          have ea5 := rf_J eS71 ea5
          have ea16 := rf_J eS71 ea16
          have ea18 := rf_J eS71 ea18
          have ea24 := rf_J eS71 ea24
          have ea67 := rf_J eS71 ea67
          have l_a18 := ln_J eS71 l_a18
          have l_a67 := ln_J eS71 l_a67
          have g0 := gr_J eS71 g0
          have gL33 := gr_J eS71 gL33
          have o_a16 := ob_J eS71 o_a16
          have o_a18 := ob_J eS71 o_a18
          have o_a21 := ob_J eS71 o_a21
          have o_a24 := ob_J eS71 o_a24
          have o_a5 := ob_J eS71 o_a5
          have o_a67 := ob_J eS71 o_a67
          have o_v0 := ob_J eS71 o_v0
          refine u_X9_stay_111 ?_
          refine ⟨o_v0, ?_⟩
          refine ⟨a5, ea5, ?_⟩
          refine ⟨o_a5, ?_⟩
          refine ⟨a24, ea24, ?_⟩
          refine ⟨o_a24, ?_⟩
          intro x74 ex74
          have q_x74 : x74 = x49 := ex74.trans d_x49.symm
          have d_x74 := ex74
          intro x75 ex75
          intro S76 eS76
          have hI : IV S76 := by rw [eS76]; exact iv_sI hI o_a24 (by decide) (nu_free (by decide))
          have f0 := fr_I eS76 g0 f0 o_a24 (by decide)
          have fL34 := fr_I eS76 gL33 fL34 o_a24 (by decide)
          have d_x20 := rd_Ik eS76 o_a24 o_a5 (by decide) d_x20
          have d_x1 := rd_Ik eS76 o_a24 o_v0 (by decide) d_x1
          have d_x25 := rd_Ij eS76 (by decide) d_x25
          have d_x75 := rd_Is eS76 (rfl : x75 = x75)
          have ea5 := rf_I eS76 ea5
          have ea16 := rf_I eS76 ea16
          have ea18 := rf_I eS76 ea18
          have ea24 := rf_I eS76 ea24
          have ea67 := rf_I eS76 ea67
          have l_a18 := ln_I eS76 l_a18
          have l_a67 := ln_I eS76 l_a67
          have g0 := gr_I eS76 g0
          have gL33 := gr_I eS76 gL33
          have o_a16 := ob_I eS76 o_a16
          have o_a18 := ob_I eS76 o_a18
          have o_a21 := ob_I eS76 o_a21
          have o_a24 := ob_I eS76 o_a24
          have o_a5 := ob_I eS76 o_a5
          have o_a67 := ob_I eS76 o_a67
          have o_v0 := ob_I eS76 o_v0
          intro x77 ex77
          exact ih43 _ _ _ _ _ ⟨hI, gL33, fL34, rfl, rfl, rfl, (q1095 st_y6 c8 r_x20 q_x20 i1u31 c44 bb_x54 c58 ex77)⟩ (mu_up (q1096 st_y6 c8 r_x20 q_x20 i1u31 c44 bb_x54 c58 ex77) (q1097 st_y6 c8 r_x20 q_x20 i1u31 c44 bb_x54 c58 ex77))
    · exact hq _ _ hI g0 f0 (Or.inl rfl)
  · intro _ _
    refine ⟨fun c79 => ?_, fun c79 => ?_⟩
    · refine ⟨a5, ea5, ?_⟩
      refine ⟨o_a5, ?_⟩
      refine m_X0_keepForUndo hI o_a5 (fun S82 hJ g83 fc84 => ?_)
      have hI := hJ
      have d_y6 := d_y6.trans (fri_at fc84 (by decide) (by decide) o_a5).symm
      have d_x1 := d_x1.trans (fri_at fc84 (by decide) (by decide) o_v0).symm
      have ea5 := (frr_at fc84 (by decide) (by decide) o_v0).trans ea5
      have f0 := fri_tr (S := S7) g0 f0 fc84 (by decide) (by decide)
      have o_a5 := gr_ob g83 o_a5
      have o_v0 := gr_ob g83 o_v0
      have g0 := gr_tr (T := S7) g0 g83
      intro _
      obtain ⟨a85, ea85, o_a85, -⟩ := sh 1 rfl hI o_v0
      refine ⟨a85, ea85, ?_⟩
      refine ⟨a85, ea85, ?_⟩
      refine ⟨o_a85, ?_⟩
      obtain ⟨a87, ea87, o_a87, l_a87⟩ := shl 18 rfl hI o_a85
      refine ⟨a87, ea87, ?_⟩
      refine ⟨a5, ea5, ?_⟩
      refine ⟨o_a5, ?_⟩
      intro x89 ex89
      have r_x89 : (-1 : Int32) ≤ x89 ∧ x89 ≤ (3 : Int32) := by rw [ex89]; exact nu 1 rfl hI o_a5
      have q_x89 : x89 = y6 := ex89.trans d_y6.symm
      have d_x89 := ex89
      refine ⟨o_a87, ?_⟩
      have i91 : vp_in x89 (hN _ a87) := (vin l_a87 (m := 4) (by decide) (q1098 st_y6 c8 c79 r_x89 q_x89))
      obtain ⟨a90, ea90, o_a90⟩ := ae hI o_a87 (by decide) (by decide) i91
      replace o_a90 : ob _ a90 6 := o_a90
      refine ⟨i91, a90, ea90, ?_⟩
      refine ⟨a5, ea5, ?_⟩
      refine ⟨o_a5, ?_⟩
      obtain ⟨a93, ea93, o_a93, -⟩ := sh 6 rfl hI o_a5
      refine ⟨a93, ea93, ?_⟩
      refine ⟨o_a93, ?_⟩
      intro x94 ex94
      have d_x94 := ex94
      refine ⟨o_a85, ?_⟩
      refine m_X8_dripOn hI o_a85 o_a90 (fun x95 S96 hI2 g97 p_x95 => ?_)
      subst p_x95
      intro _
      intro x99 ex99
      refine i_X9_stay_58 (fun (y0 : Nat) (y1 : Int32) (y2 : Int64) (y4 : Int32) (Z : HS) => ((2147483647 : Int32).toInt - y4.toInt).toNat) (fun (y0 : Nat) (y1 : Int32) (y2 : Int64) (y4 : Int32) (Z : HS) => (IV Z) ∧ (Gr S82 Z) ∧ (FRI [(2, 1)] [] S82 Z) ∧ (v0 = y0) ∧ (v1 = y1) ∧ (x99 = y2) ∧ (0 ≤ y4)) ?_ _ _ _ _ _ ⟨hI, (gr_rf _), (fri_rf _ _ _), rfl, rfl, rfl, (q1099 st_y6 c8 c79 r_x89 q_x89)⟩
      intro w104 w106 w108 w110 S101 X111 ⟨hI, gL102, fL103, q105, q107, q109, i1u100⟩ ih112
      subst q105
      subst q107
      subst q109
      have l_a87 := (gr_len gL102 o_a87).trans l_a87
      have d_x89 := d_x89.trans (fri_at fL103 (by decide) (by decide) o_a5).symm
      have d_x1 := d_x1.trans (fri_at fL103 (by decide) (by decide) o_v0).symm
      have d_x94 := d_x94.trans (fri_at fL103 (by decide) (by decide) o_a93).symm
      have ea5 := (frr_at fL103 (by decide) (by decide) o_v0).trans ea5
      have ea85 := (frr_at fL103 (by decide) (by decide) o_v0).trans ea85
      have ea87 := (frr_at fL103 (by decide) (by decide) o_a85).trans ea87
      have ea93 := (frr_at fL103 (by decide) (by decide) o_a5).trans ea93
      have f0 := fri_tr (S := S82) g0 f0 fL103 (by decide) (by decide)
      have o_a5 := gr_ob gL102 o_a5
      have o_a85 := gr_ob gL102 o_a85
      have o_a87 := gr_ob gL102 o_a87
      have o_a90 := gr_ob gL102 o_a90
      have o_a93 := gr_ob gL102 o_a93
      have o_v0 := gr_ob gL102 o_v0
      have g0 := gr_tr (T := S82) g0 gL102
      refine u_X9_stay_58 ?_
      refine ⟨fun c113 => ?_, fun c113 => ?_⟩
      · exact hq _ _ hI g0 f0 (Or.inr rfl)
      · refine ⟨o_v0, ?_⟩
        refine ⟨a5, ea5, ?_⟩
        refine ⟨a85, ea85, ?_⟩
        refine ⟨a5, ea5, ?_⟩
        refine ⟨o_a5, ?_⟩
        refine ⟨a93, ea93, ?_⟩
        refine ⟨o_a93, ?_⟩
        intro x118 ex118
        have d_x118 := ex118
        refine ⟨o_a85, ?_⟩
        refine m_X8_hourOf hI o_a85 (fun x119 S120 hI2 g121 p_x119 => ?_)
        subst p_x119
        intro _
        refine ⟨o_a5, ?_⟩
        refine m_X0_rainsIn hI o_a5 (fun x123 S124 hI2 g125 b_x123 p_x123 => ?_)
        subst p_x123
        intro _ _
        have bb_x123 : x123 = 0 ∨ x123 = 1 := b_x123
        refine ⟨fun c127 => ?_, fun c127 => ?_⟩
        · refine u_X9_stay_111 ?_
          refine ⟨o_v0, ?_⟩
          refine ⟨a5, ea5, ?_⟩
          refine ⟨o_a5, ?_⟩
          refine ⟨a93, ea93, ?_⟩
          refine ⟨o_a93, ?_⟩
          intro x130 ex130
          have q_x130 : x130 = x118 := ex130.trans d_x118.symm
          have d_x130 := ex130
          intro x131 ex131
          intro S132 eS132
          have hI : IV S132 := by rw [eS132]; exact iv_sI hI o_a93 (by decide) (nu_free (by decide))
          have f0 := fr_I eS132 g0 f0 o_a93 (by decide)
          have fL103 := fr_I eS132 gL102 fL103 o_a93 (by decide)
          have d_x89 := rd_Ik eS132 o_a93 o_a5 (by decide) d_x89
          have d_x1 := rd_Ik eS132 o_a93 o_v0 (by decide) d_x1
          have d_x94 := rd_Ij eS132 (by decide) d_x94
          have d_x131 := rd_Is eS132 (rfl : x131 = x131)
          have ea5 := rf_I eS132 ea5
          have ea85 := rf_I eS132 ea85
          have ea87 := rf_I eS132 ea87
          have ea93 := rf_I eS132 ea93
          have l_a87 := ln_I eS132 l_a87
          have g0 := gr_I eS132 g0
          have gL102 := gr_I eS132 gL102
          have o_a5 := ob_I eS132 o_a5
          have o_a85 := ob_I eS132 o_a85
          have o_a87 := ob_I eS132 o_a87
          have o_a90 := ob_I eS132 o_a90
          have o_a93 := ob_I eS132 o_a93
          have o_v0 := ob_I eS132 o_v0
          intro x133 ex133
          exact ih112 _ _ _ _ _ ⟨hI, gL102, fL103, rfl, rfl, rfl, (q1100 st_y6 c8 c79 r_x89 q_x89 i1u100 c113 bb_x123 c127 ex133)⟩ (mu_up (q1101 st_y6 c8 c79 r_x89 q_x89 i1u100 c113 bb_x123 c127 ex133) (q1102 st_y6 c8 c79 r_x89 q_x89 i1u100 c113 bb_x123 c127 ex133))
        · refine ⟨a5, ea5, ?_⟩
          refine ⟨o_a5, ?_⟩
          refine ⟨a93, ea93, ?_⟩
          refine ⟨o_a93, ?_⟩
          obtain ⟨a136, ea136, o_a136, l_a136⟩ := shl 11 rfl hI o_a93
          refine ⟨a136, ea136, ?_⟩
          refine ⟨o_a136, ?_⟩
          refine ⟨(vin l_a136 (m := 5) (by decide) (q1103 st_y6 c8 c79 r_x89 q_x89 i1u100 c113 bb_x123 c127)), ?_⟩
          intro x137 ex137
          intro x138 ex138
          have i139 : vp_in (0 : Int32) (hN _ a136) := (vin l_a136 (m := 5) (by decide) (q1103 st_y6 c8 c79 r_x89 q_x89 i1u100 c113 bb_x123 c127))
          refine ⟨i139, ?_⟩
          intro S140 eS140
          have hI : IV S140 := by rw [eS140]; exact iv_aJ hI o_a93 (by decide) ea136 o_a136 (by decide)
          have f0 := fr_J eS140 f0
          have fL103 := fr_J eS140 fL103
          have d_x89 := rd_J eS140 d_x89
          have d_x1 := rd_J eS140 d_x1
          have d_x94 := rd_J eS140 d_x94
          have d_x118 := rd_J eS140 d_x118
          have ea5 := rf_J eS140 ea5
          have ea85 := rf_J eS140 ea85
          have ea87 := rf_J eS140 ea87
          have ea93 := rf_J eS140 ea93
          have ea136 := rf_J eS140 ea136
          have l_a136 := ln_J eS140 l_a136
          have l_a87 := ln_J eS140 l_a87
          have g0 := gr_J eS140 g0
          have gL102 := gr_J eS140 gL102
          have o_a136 := ob_J eS140 o_a136
          have o_a5 := ob_J eS140 o_a5
          have o_a85 := ob_J eS140 o_a85
          have o_a87 := ob_J eS140 o_a87
          have o_a90 := ob_J eS140 o_a90
          have o_a93 := ob_J eS140 o_a93
          have o_v0 := ob_J eS140 o_v0
          refine u_X9_stay_111 ?_
          refine ⟨o_v0, ?_⟩
          refine ⟨a5, ea5, ?_⟩
          refine ⟨o_a5, ?_⟩
          refine ⟨a93, ea93, ?_⟩
          refine ⟨o_a93, ?_⟩
          intro x143 ex143
          have q_x143 : x143 = x118 := ex143.trans d_x118.symm
          have d_x143 := ex143
          intro x144 ex144
          intro S145 eS145
          have hI : IV S145 := by rw [eS145]; exact iv_sI hI o_a93 (by decide) (nu_free (by decide))
          have f0 := fr_I eS145 g0 f0 o_a93 (by decide)
          have fL103 := fr_I eS145 gL102 fL103 o_a93 (by decide)
          have d_x89 := rd_Ik eS145 o_a93 o_a5 (by decide) d_x89
          have d_x1 := rd_Ik eS145 o_a93 o_v0 (by decide) d_x1
          have d_x94 := rd_Ij eS145 (by decide) d_x94
          have d_x144 := rd_Is eS145 (rfl : x144 = x144)
          have ea5 := rf_I eS145 ea5
          have ea85 := rf_I eS145 ea85
          have ea87 := rf_I eS145 ea87
          have ea93 := rf_I eS145 ea93
          have ea136 := rf_I eS145 ea136
          have l_a136 := ln_I eS145 l_a136
          have l_a87 := ln_I eS145 l_a87
          have g0 := gr_I eS145 g0
          have gL102 := gr_I eS145 gL102
          have o_a136 := ob_I eS145 o_a136
          have o_a5 := ob_I eS145 o_a5
          have o_a85 := ob_I eS145 o_a85
          have o_a87 := ob_I eS145 o_a87
          have o_a90 := ob_I eS145 o_a90
          have o_a93 := ob_I eS145 o_a93
          have o_v0 := ob_I eS145 o_v0
          intro x146 ex146
          exact ih112 _ _ _ _ _ ⟨hI, gL102, fL103, rfl, rfl, rfl, (q1104 st_y6 c8 c79 r_x89 q_x89 i1u100 c113 bb_x123 c127 ex146)⟩ (mu_up (q1105 st_y6 c8 c79 r_x89 q_x89 i1u100 c113 bb_x123 c127 ex146) (q1106 st_y6 c8 c79 r_x89 q_x89 i1u100 c113 bb_x123 c127 ex146))
    · exact hq _ _ hI g0 f0 (Or.inl rfl)
end
section
set_option maxHeartbeats 4000000 in
set_option maxRecDepth 20000 in
theorem m_X9_step {v0 : Nat} {v1 : Int32} {v2 : Int32} {v3 : Int32} {v4 : Int32} {v5 : Int32} {v6 : Int32} {Q : Int32 → HS → Prop} {S : HS} (hI : IV S) (o_v0 : ob S v0 9)     (hq : ∀ (r : Int32) (T : HS), IV T → Gr S T → FRI [(7, 3), (7, 9), (7, 10), (7, 11), (7, 12), (7, 13), (9, 9)] [(7, 0), (7, 1), (7, 2), (7, 4), (7, 5), (7, 6), (7, 7), (7, 8)] S T → Q r T) : P_X9_step v0 v1 v2 v3 v4 v5 v6 Q S := by
  have g0 := gr_rf S
  have f0 := fri_rf [(7, 3), (7, 9), (7, 10), (7, 11), (7, 12), (7, 13), (9, 9)] [(7, 0), (7, 1), (7, 2), (7, 4), (7, 5), (7, 6), (7, 7), (7, 8)] S
  refine u_X9_step ?_
  refine u_X9_step_0 ?_
  refine ⟨o_v0, ?_⟩
  refine m_X9_wayTrouble hI o_v0 (fun x1 S2 hJ g3 fc4 => ?_)
  have hI := hJ
  have f0 := fri_tr (S := S) g0 f0 fc4 (by decide) (by decide)
  have o_v0 := gr_ob g3 o_v0
  have g0 := gr_tr (T := S) g0 g3
  intro _
  refine u_X9_refusedBy ?_
  refine u_X9_refusedBy_0 ?_
  refine ⟨o_v0, ?_⟩
  intro S5 eS5
  have hI : IV S5 := by rw [eS5]; exact iv_sI hI o_v0 (by decide) (nu_free (by decide))
  have f0 := fr_I eS5 g0 f0 o_v0 (by decide)
  have d_x1 := rd_Is eS5 (rfl : x1 = x1)
  have g0 := gr_I eS5 g0
  have o_v0 := ob_I eS5 o_v0
  refine ⟨fun c6 => ?_, fun c6 => ?_⟩
  · intro _ _
    refine ⟨fun c8 => ?_, fun c8 => ?_⟩
    · obtain ⟨a9, ea9, o_a9, -⟩ := sh 4 rfl hI o_v0
      refine ⟨a9, ea9, ?_⟩
      obtain ⟨a10, ea10, o_a10, -⟩ := sh 1 rfl hI o_v0
      refine ⟨a10, ea10, ?_⟩
      refine ⟨o_a9, ?_⟩
      refine m_X7_trace hI o_a9 o_a10 (fun x11 S12 hJ g13 fc14 => ?_)
      have hI := hJ
      have d_x1 := d_x1.trans (fri_at fc14 (by decide) (by decide) o_v0).symm
      have ea9 := (frr_at fc14 (by decide) (by decide) o_v0).trans ea9
      have ea10 := (frr_at fc14 (by decide) (by decide) o_v0).trans ea10
      have f0 := fri_tr (S := S5) g0 f0 fc14 (by decide) (by decide)
      have o_a10 := gr_ob g13 o_a10
      have o_a9 := gr_ob g13 o_a9
      have o_v0 := gr_ob g13 o_v0
      have g0 := gr_tr (T := S5) g0 g13
      intro _
      refine ⟨fun c15 => ?_, fun c15 => ?_⟩
      · refine u_X9_step_61 ?_
        refine ⟨o_v0, ?_⟩
        refine u_X9_refuse ?_
        refine u_X9_refuse_0 ?_
        refine ⟨o_v0, ?_⟩
        intro S16 eS16
        have hI : IV S16 := by rw [eS16]; exact iv_sI hI o_v0 (by decide) (nu_free (by decide))
        have f0 := fr_I eS16 g0 f0 o_v0 (by decide)
        obtain ⟨y17, hy17⟩ : ∃ z : Int32, z = (1 : Int32) := ⟨_, rfl⟩
        have d_y17 := rd_Is eS16 hy17
        have ea9 := rf_I eS16 ea9
        have ea10 := rf_I eS16 ea10
        have g0 := gr_I eS16 g0
        have o_a10 := ob_I eS16 o_a10
        have o_a9 := ob_I eS16 o_a9
        have o_v0 := ob_I eS16 o_v0
        intro _
        exact hq _ _ hI g0 f0
      · refine ⟨fun c19 => ?_, fun c19 => ?_⟩
        · refine u_X9_step_61 ?_
          refine ⟨o_v0, ?_⟩
          refine u_X9_refuse ?_
          refine u_X9_refuse_0 ?_
          refine ⟨o_v0, ?_⟩
          intro S20 eS20
          have hI : IV S20 := by rw [eS20]; exact iv_sI hI o_v0 (by decide) (nu_free (by decide))
          have f0 := fr_I eS20 g0 f0 o_v0 (by decide)
          obtain ⟨y21, hy21⟩ : ∃ z : Int32, z = (1 : Int32) := ⟨_, rfl⟩
          have d_y21 := rd_Is eS20 hy21
          have ea9 := rf_I eS20 ea9
          have ea10 := rf_I eS20 ea10
          have g0 := gr_I eS20 g0
          have o_a10 := ob_I eS20 o_a10
          have o_a9 := ob_I eS20 o_a9
          have o_v0 := ob_I eS20 o_v0
          intro _
          exact hq _ _ hI g0 f0
        · refine ⟨a9, ea9, ?_⟩
          refine ⟨o_a9, ?_⟩
          obtain ⟨a24, ea24, o_a24, -⟩ := sh 21 rfl hI o_a9
          have hl_a24 := wyl hI o_a9 0 rfl (by decide) ea24
          refine ⟨a24, ea24, ?_⟩
          refine ⟨o_a24, ?_⟩
          refine ⟨fun c25 => ?_, fun c25 => ?_⟩
          · refine ⟨a9, ea9, ?_⟩
            refine ⟨o_a9, ?_⟩
            refine ⟨a24, ea24, ?_⟩
            refine ⟨o_a24, ?_⟩
            refine ⟨(vinL hl_a24 (q1086 c6 c15 c19 c25)), ?_⟩
            intro x28 ex28
            exact hq _ _ hI g0 f0
          · refine u_X9_step_61 ?_
            refine ⟨o_v0, ?_⟩
            refine u_X9_refuse ?_
            refine u_X9_refuse_0 ?_
            refine ⟨o_v0, ?_⟩
            intro S29 eS29
            have hI : IV S29 := by rw [eS29]; exact iv_sI hI o_v0 (by decide) (nu_free (by decide))
            have f0 := fr_I eS29 g0 f0 o_v0 (by decide)
            obtain ⟨y30, hy30⟩ : ∃ z : Int32, z = (1 : Int32) := ⟨_, rfl⟩
            have d_y30 := rd_Is eS29 hy30
            have ea9 := rf_I eS29 ea9
            have ea10 := rf_I eS29 ea10
            have ea24 := rf_I eS29 ea24
            have hl_a24 := hl_I eS29 hl_a24
            have g0 := gr_I eS29 g0
            have o_a10 := ob_I eS29 o_a10
            have o_a24 := ob_I eS29 o_a24
            have o_a9 := ob_I eS29 o_a9
            have o_v0 := ob_I eS29 o_v0
            intro _
            exact hq _ _ hI g0 f0
    · exact hq _ _ hI g0 f0
  · intro _ _
    refine ⟨fun c33 => ?_, fun c33 => ?_⟩
    · obtain ⟨a34, ea34, o_a34, -⟩ := sh 4 rfl hI o_v0
      refine ⟨a34, ea34, ?_⟩
      obtain ⟨a35, ea35, o_a35, -⟩ := sh 1 rfl hI o_v0
      refine ⟨a35, ea35, ?_⟩
      refine ⟨o_a34, ?_⟩
      refine m_X7_trace hI o_a34 o_a35 (fun x36 S37 hJ g38 fc39 => ?_)
      have hI := hJ
      have d_x1 := d_x1.trans (fri_at fc39 (by decide) (by decide) o_v0).symm
      have ea34 := (frr_at fc39 (by decide) (by decide) o_v0).trans ea34
      have ea35 := (frr_at fc39 (by decide) (by decide) o_v0).trans ea35
      have f0 := fri_tr (S := S5) g0 f0 fc39 (by decide) (by decide)
      have o_a34 := gr_ob g38 o_a34
      have o_a35 := gr_ob g38 o_a35
      have o_v0 := gr_ob g38 o_v0
      have g0 := gr_tr (T := S5) g0 g38
      intro _
      refine ⟨fun c40 => ?_, fun c40 => ?_⟩
      · refine u_X9_step_61 ?_
        refine ⟨o_v0, ?_⟩
        refine u_X9_refuse ?_
        refine u_X9_refuse_0 ?_
        refine ⟨o_v0, ?_⟩
        intro S41 eS41
        have hI : IV S41 := by rw [eS41]; exact iv_sI hI o_v0 (by decide) (nu_free (by decide))
        have f0 := fr_I eS41 g0 f0 o_v0 (by decide)
        obtain ⟨y42, hy42⟩ : ∃ z : Int32, z = (1 : Int32) := ⟨_, rfl⟩
        have d_y42 := rd_Is eS41 hy42
        have ea34 := rf_I eS41 ea34
        have ea35 := rf_I eS41 ea35
        have g0 := gr_I eS41 g0
        have o_a34 := ob_I eS41 o_a34
        have o_a35 := ob_I eS41 o_a35
        have o_v0 := ob_I eS41 o_v0
        intro _
        exact hq _ _ hI g0 f0
      · refine ⟨fun c44 => ?_, fun c44 => ?_⟩
        · refine u_X9_step_61 ?_
          refine ⟨o_v0, ?_⟩
          refine u_X9_refuse ?_
          refine u_X9_refuse_0 ?_
          refine ⟨o_v0, ?_⟩
          intro S45 eS45
          have hI : IV S45 := by rw [eS45]; exact iv_sI hI o_v0 (by decide) (nu_free (by decide))
          have f0 := fr_I eS45 g0 f0 o_v0 (by decide)
          obtain ⟨y46, hy46⟩ : ∃ z : Int32, z = (1 : Int32) := ⟨_, rfl⟩
          have d_y46 := rd_Is eS45 hy46
          have ea34 := rf_I eS45 ea34
          have ea35 := rf_I eS45 ea35
          have g0 := gr_I eS45 g0
          have o_a34 := ob_I eS45 o_a34
          have o_a35 := ob_I eS45 o_a35
          have o_v0 := ob_I eS45 o_v0
          intro _
          exact hq _ _ hI g0 f0
        · refine ⟨a34, ea34, ?_⟩
          refine ⟨o_a34, ?_⟩
          obtain ⟨a49, ea49, o_a49, -⟩ := sh 21 rfl hI o_a34
          have hl_a49 := wyl hI o_a34 0 rfl (by decide) ea49
          refine ⟨a49, ea49, ?_⟩
          refine ⟨o_a49, ?_⟩
          refine ⟨fun c50 => ?_, fun c50 => ?_⟩
          · refine ⟨a34, ea34, ?_⟩
            refine ⟨o_a34, ?_⟩
            refine ⟨a49, ea49, ?_⟩
            refine ⟨o_a49, ?_⟩
            refine ⟨(vinL hl_a49 (q1087 c6 c33 c40 c44 c50)), ?_⟩
            intro x53 ex53
            exact hq _ _ hI g0 f0
          · refine u_X9_step_61 ?_
            refine ⟨o_v0, ?_⟩
            refine u_X9_refuse ?_
            refine u_X9_refuse_0 ?_
            refine ⟨o_v0, ?_⟩
            intro S54 eS54
            have hI : IV S54 := by rw [eS54]; exact iv_sI hI o_v0 (by decide) (nu_free (by decide))
            have f0 := fr_I eS54 g0 f0 o_v0 (by decide)
            obtain ⟨y55, hy55⟩ : ∃ z : Int32, z = (1 : Int32) := ⟨_, rfl⟩
            have d_y55 := rd_Is eS54 hy55
            have ea34 := rf_I eS54 ea34
            have ea35 := rf_I eS54 ea35
            have ea49 := rf_I eS54 ea49
            have hl_a49 := hl_I eS54 hl_a49
            have g0 := gr_I eS54 g0
            have o_a34 := ob_I eS54 o_a34
            have o_a35 := ob_I eS54 o_a35
            have o_a49 := ob_I eS54 o_a49
            have o_v0 := ob_I eS54 o_v0
            intro _
            exact hq _ _ hI g0 f0
    · exact hq _ _ hI g0 f0
set_option maxHeartbeats 4000000 in
set_option maxRecDepth 20000 in
theorem m_X9_steps {v0 : Nat} {v1 : Int32} {v2 : Int32} {v3 : Int32} {v4 : Int32} {v5 : Int32} {Q : Int32 → HS → Prop} {S : HS} (hI : IV S) (o_v0 : ob S v0 9)     (hq : ∀ (r : Int32) (T : HS), IV T → Gr S T → FRI [(7, 3), (7, 9), (7, 10), (7, 11), (7, 12), (7, 13), (9, 9)] [(7, 0), (7, 1), (7, 2), (7, 4), (7, 5), (7, 6), (7, 7), (7, 8)] S T → Q r T) : P_X9_steps v0 v1 v2 v3 v4 v5 Q S := by
  have g0 := gr_rf S
  have f0 := fri_rf [(7, 3), (7, 9), (7, 10), (7, 11), (7, 12), (7, 13), (9, 9)] [(7, 0), (7, 1), (7, 2), (7, 4), (7, 5), (7, 6), (7, 7), (7, 8)] S
  refine u_X9_steps ?_
  refine u_X9_steps_0 ?_
  refine ⟨o_v0, ?_⟩
  refine m_X9_wayTrouble hI o_v0 (fun x1 S2 hJ g3 fc4 => ?_)
  have hI := hJ
  have f0 := fri_tr (S := S) g0 f0 fc4 (by decide) (by decide)
  have o_v0 := gr_ob g3 o_v0
  have g0 := gr_tr (T := S) g0 g3
  intro _
  refine u_X9_refusedBy ?_
  refine u_X9_refusedBy_0 ?_
  refine ⟨o_v0, ?_⟩
  intro S5 eS5
  have hI : IV S5 := by rw [eS5]; exact iv_sI hI o_v0 (by decide) (nu_free (by decide))
  have f0 := fr_I eS5 g0 f0 o_v0 (by decide)
  have d_x1 := rd_Is eS5 (rfl : x1 = x1)
  have g0 := gr_I eS5 g0
  have o_v0 := ob_I eS5 o_v0
  refine ⟨fun c6 => ?_, fun c6 => ?_⟩
  · intro _ _
    refine ⟨fun c8 => ?_, fun c8 => ?_⟩
    · obtain ⟨a9, ea9, o_a9, -⟩ := sh 4 rfl hI o_v0
      refine ⟨a9, ea9, ?_⟩
      obtain ⟨a10, ea10, o_a10, -⟩ := sh 1 rfl hI o_v0
      refine ⟨a10, ea10, ?_⟩
      refine ⟨o_a9, ?_⟩
      refine m_X7_trace hI o_a9 o_a10 (fun x11 S12 hJ g13 fc14 => ?_)
      have hI := hJ
      have d_x1 := d_x1.trans (fri_at fc14 (by decide) (by decide) o_v0).symm
      have ea9 := (frr_at fc14 (by decide) (by decide) o_v0).trans ea9
      have ea10 := (frr_at fc14 (by decide) (by decide) o_v0).trans ea10
      have f0 := fri_tr (S := S5) g0 f0 fc14 (by decide) (by decide)
      have o_a10 := gr_ob g13 o_a10
      have o_a9 := gr_ob g13 o_a9
      have o_v0 := gr_ob g13 o_v0
      have g0 := gr_tr (T := S5) g0 g13
      intro _
      exact hq _ _ hI g0 f0
    · exact hq _ _ hI g0 f0
  · intro _ _
    refine ⟨fun c16 => ?_, fun c16 => ?_⟩
    · obtain ⟨a17, ea17, o_a17, -⟩ := sh 4 rfl hI o_v0
      refine ⟨a17, ea17, ?_⟩
      obtain ⟨a18, ea18, o_a18, -⟩ := sh 1 rfl hI o_v0
      refine ⟨a18, ea18, ?_⟩
      refine ⟨o_a17, ?_⟩
      refine m_X7_trace hI o_a17 o_a18 (fun x19 S20 hJ g21 fc22 => ?_)
      have hI := hJ
      have d_x1 := d_x1.trans (fri_at fc22 (by decide) (by decide) o_v0).symm
      have ea17 := (frr_at fc22 (by decide) (by decide) o_v0).trans ea17
      have ea18 := (frr_at fc22 (by decide) (by decide) o_v0).trans ea18
      have f0 := fri_tr (S := S5) g0 f0 fc22 (by decide) (by decide)
      have o_a17 := gr_ob g21 o_a17
      have o_a18 := gr_ob g21 o_a18
      have o_v0 := gr_ob g21 o_v0
      have g0 := gr_tr (T := S5) g0 g21
      intro _
      exact hq _ _ hI g0 f0
    · exact hq _ _ hI g0 f0
set_option maxHeartbeats 4000000 in
set_option maxRecDepth 20000 in
theorem m_X9_there {v0 : Nat} {v1 : Int32} {v2 : Int32} {v3 : Int32} {v4 : Int32} {v5 : Int32} {Q : Int32 → HS → Prop} {S : HS} (hI : IV S) (o_v0 : ob S v0 9)     (hq : ∀ (r : Int32) (T : HS), IV T → Gr S T → FRI [(7, 3), (7, 9), (7, 10), (7, 11), (7, 12), (7, 13), (9, 9)] [(7, 0), (7, 1), (7, 2), (7, 4), (7, 5), (7, 6), (7, 7), (7, 8)] S T → Q r T) : P_X9_there v0 v1 v2 v3 v4 v5 Q S := by
  have g0 := gr_rf S
  have f0 := fri_rf [(7, 3), (7, 9), (7, 10), (7, 11), (7, 12), (7, 13), (9, 9)] [(7, 0), (7, 1), (7, 2), (7, 4), (7, 5), (7, 6), (7, 7), (7, 8)] S
  refine u_X9_there ?_
  refine u_X9_there_0 ?_
  refine ⟨o_v0, ?_⟩
  refine m_X9_wayTrouble hI o_v0 (fun x1 S2 hJ g3 fc4 => ?_)
  have hI := hJ
  have f0 := fri_tr (S := S) g0 f0 fc4 (by decide) (by decide)
  have o_v0 := gr_ob g3 o_v0
  have g0 := gr_tr (T := S) g0 g3
  intro _
  refine u_X9_refusedBy ?_
  refine u_X9_refusedBy_0 ?_
  refine ⟨o_v0, ?_⟩
  intro S5 eS5
  have hI : IV S5 := by rw [eS5]; exact iv_sI hI o_v0 (by decide) (nu_free (by decide))
  have f0 := fr_I eS5 g0 f0 o_v0 (by decide)
  have d_x1 := rd_Is eS5 (rfl : x1 = x1)
  have g0 := gr_I eS5 g0
  have o_v0 := ob_I eS5 o_v0
  refine ⟨fun c6 => ?_, fun c6 => ?_⟩
  · intro _ _
    refine ⟨fun c8 => ?_, fun c8 => ?_⟩
    · obtain ⟨a9, ea9, o_a9, -⟩ := sh 4 rfl hI o_v0
      refine ⟨a9, ea9, ?_⟩
      refine ⟨o_a9, ?_⟩
      refine m_X7_endFrom hI o_a9 (fun x10 S11 hI2 g12 p_x10 => ?_)
      subst p_x10
      intro _
      exact hq _ _ hI g0 f0
    · exact hq _ _ hI g0 f0
  · intro _ _
    refine ⟨fun c15 => ?_, fun c15 => ?_⟩
    · obtain ⟨a16, ea16, o_a16, -⟩ := sh 4 rfl hI o_v0
      refine ⟨a16, ea16, ?_⟩
      refine ⟨o_a16, ?_⟩
      refine m_X7_endFrom hI o_a16 (fun x17 S18 hI2 g19 p_x17 => ?_)
      subst p_x17
      intro _
      exact hq _ _ hI g0 f0
    · exact hq _ _ hI g0 f0
set_option maxHeartbeats 4000000 in
set_option maxRecDepth 20000 in
theorem m_X9_trouble {v0 : Nat} {Q : Int32 → HS → Prop} {S : HS} (hI : IV S) (o_v0 : ob S v0 9)     (hq : ∀ (r : Int32) (T : HS), IV T → Gr S T → (S = T) → Q r T) : P_X9_trouble v0 Q S := by
  have g0 := gr_rf S
  refine u_X9_trouble ?_
  refine u_X9_trouble_0 ?_
  refine ⟨o_v0, ?_⟩
  intro x1 ex1
  have d_x1 := ex1
  exact hq _ _ hI g0 rfl
set_option maxHeartbeats 4000000 in
set_option maxRecDepth 20000 in
theorem m_X9_undo {v0 : Nat} {Q : Int32 → HS → Prop} {S : HS} (hI : IV S) (o_v0 : ob S v0 9)     (hq : ∀ (r : Int32) (T : HS), IV T → Gr S T → FRI [(0, 2), (2, 0), (2, 1), (9, 9)] [] S T → bl r → Q r T) : P_X9_undo v0 Q S := by
  have g0 := gr_rf S
  have f0 := fri_rf [(0, 2), (2, 0), (2, 1), (9, 9)] [] S
  refine u_X9_undo ?_
  refine u_X9_undo_0 ?_
  refine ⟨o_v0, ?_⟩
  obtain ⟨a1, ea1, o_a1, -⟩ := sh 5 rfl hI o_v0
  refine ⟨a1, ea1, ?_⟩
  refine ⟨o_a1, ?_⟩
  refine m_X0_takeBack hI o_a1 (fun x2 S3 hJ g4 fc5 b_x2 => ?_)
  have hI := hJ
  have ea1 := (frr_at fc5 (by decide) (by decide) o_v0).trans ea1
  have f0 := fri_tr (S := S) g0 f0 fc5 (by decide) (by decide)
  have o_a1 := gr_ob g4 o_a1
  have o_v0 := gr_ob g4 o_v0
  have g0 := gr_tr (T := S) g0 g4
  intro _ _
  have bb_x2 : x2 = 0 ∨ x2 = 1 := b_x2
  refine ⟨fun c6 => ?_, fun c6 => ?_⟩
  · refine u_X9_undo_17 ?_
    refine ⟨o_v0, ?_⟩
    refine u_X9_refusedBy ?_
    refine u_X9_refusedBy_0 ?_
    refine ⟨o_v0, ?_⟩
    intro S7 eS7
    have hI : IV S7 := by rw [eS7]; exact iv_sI hI o_v0 (by decide) (nu_free (by decide))
    have f0 := fr_I eS7 g0 f0 o_v0 (by decide)
    obtain ⟨y8, hy8⟩ : ∃ z : Int32, z = (6 : Int32) := ⟨_, rfl⟩
    have d_y8 := rd_Is eS7 hy8
    have ea1 := rf_I eS7 ea1
    have g0 := gr_I eS7 g0
    have o_a1 := ob_I eS7 o_a1
    have o_v0 := ob_I eS7 o_v0
    refine ⟨fun c9 => ?_, fun c9 => ?_⟩
    · intro _ _
      refine ⟨fun c11 => ?_, fun c11 => ?_⟩
      · exact hq _ _ hI g0 f0 (Or.inl rfl)
      · exact hq _ _ hI g0 f0 (Or.inr rfl)
    · intro _ _
      refine ⟨fun c13 => ?_, fun c13 => ?_⟩
      · exact hq _ _ hI g0 f0 (Or.inl rfl)
      · exact hq _ _ hI g0 f0 (Or.inr rfl)
  · refine u_X9_undo_17 ?_
    refine ⟨o_v0, ?_⟩
    refine u_X9_refusedBy ?_
    refine u_X9_refusedBy_0 ?_
    refine ⟨o_v0, ?_⟩
    intro S14 eS14
    have hI : IV S14 := by rw [eS14]; exact iv_sI hI o_v0 (by decide) (nu_free (by decide))
    have f0 := fr_I eS14 g0 f0 o_v0 (by decide)
    obtain ⟨y15, hy15⟩ : ∃ z : Int32, z = (0 : Int32) := ⟨_, rfl⟩
    have d_y15 := rd_Is eS14 hy15
    have ea1 := rf_I eS14 ea1
    have g0 := gr_I eS14 g0
    have o_a1 := ob_I eS14 o_a1
    have o_v0 := ob_I eS14 o_v0
    refine ⟨fun c16 => ?_, fun c16 => ?_⟩
    · intro _ _
      refine ⟨fun c18 => ?_, fun c18 => ?_⟩
      · exact hq _ _ hI g0 f0 (Or.inl rfl)
      · exact hq _ _ hI g0 f0 (Or.inr rfl)
    · intro _ _
      refine ⟨fun c20 => ?_, fun c20 => ?_⟩
      · exact hq _ _ hI g0 f0 (Or.inl rfl)
      · exact hq _ _ hI g0 f0 (Or.inr rfl)
set_option maxHeartbeats 4000000 in
set_option maxRecDepth 20000 in
theorem m_X9_walker {v0 : Nat} {v1 : Int32} {v2 : Int32} {Q : Int32 → HS → Prop} {S : HS} (hI : IV S) (o_v0 : ob S v0 9)     (hq : ∀ (r : Int32) (T : HS), IV T → Gr S T → FRI [(9, 9)] [] S T → Q r T) : P_X9_walker v0 v1 v2 Q S := by
  have g0 := gr_rf S
  have f0 := fri_rf [(9, 9)] [] S
  refine u_X9_walker ?_
  refine u_X9_walker_0 ?_
  refine ⟨o_v0, ?_⟩
  obtain ⟨a1, ea1, o_a1, -⟩ := sh 1 rfl hI o_v0
  refine ⟨a1, ea1, ?_⟩
  refine ⟨o_a1, ?_⟩
  refine m_X8_hasWalker hI o_a1 (fun x2 S3 hI2 g4 b_x2 p_x2 => ?_)
  obtain ⟨z_S3, p_x2⟩ := p_x2
  subst z_S3
  intro _ _
  have bb_x2 : x2 = 0 ∨ x2 = 1 := b_x2
  refine ⟨fun c6 => ?_, fun c6 => ?_⟩
  · refine u_X9_walker_21 ?_
    refine ⟨o_v0, ?_⟩
    refine u_X9_refuse ?_
    refine u_X9_refuse_0 ?_
    refine ⟨o_v0, ?_⟩
    intro S7 eS7
    have hI : IV S7 := by rw [eS7]; exact iv_sI hI o_v0 (by decide) (nu_free (by decide))
    have f0 := fr_I eS7 g0 f0 o_v0 (by decide)
    obtain ⟨y8, hy8⟩ : ∃ z : Int32, z = (1 : Int32) := ⟨_, rfl⟩
    have d_y8 := rd_Is eS7 hy8
    have ea1 := rf_I eS7 ea1
    have g0 := gr_I eS7 g0
    have o_a1 := ob_I eS7 o_a1
    have o_v0 := ob_I eS7 o_v0
    intro _
    exact hq _ _ hI g0 f0
  · refine ⟨fun c10 => ?_, fun c10 => ?_⟩
    · refine u_X9_walker_21 ?_
      refine ⟨o_v0, ?_⟩
      refine u_X9_refuse ?_
      refine u_X9_refuse_0 ?_
      refine ⟨o_v0, ?_⟩
      intro S11 eS11
      have hI : IV S11 := by rw [eS11]; exact iv_sI hI o_v0 (by decide) (nu_free (by decide))
      have f0 := fr_I eS11 g0 f0 o_v0 (by decide)
      obtain ⟨y12, hy12⟩ : ∃ z : Int32, z = (1 : Int32) := ⟨_, rfl⟩
      have d_y12 := rd_Is eS11 hy12
      have ea1 := rf_I eS11 ea1
      have g0 := gr_I eS11 g0
      have o_a1 := ob_I eS11 o_a1
      have o_v0 := ob_I eS11 o_v0
      intro _
      exact hq _ _ hI g0 f0
    · refine ⟨fun c14 => ?_, fun c14 => ?_⟩
      · refine ⟨a1, ea1, ?_⟩
        refine ⟨o_a1, ?_⟩
        obtain ⟨a16, ea16, o_a16, l_a16⟩ := shl 18 rfl hI o_a1
        refine ⟨a16, ea16, ?_⟩
        refine ⟨o_a16, ?_⟩
        have i18 : vp_in v1 (hN _ a16) := (vin l_a16 (m := 4) (by decide) (q1044 p_x2 bb_x2 c6 c10 c14))
        obtain ⟨a17, ea17, o_a17⟩ := ae hI o_a16 (by decide) (by decide) i18
        replace o_a17 : ob _ a17 6 := o_a17
        refine ⟨i18, a17, ea17, ?_⟩
        refine ⟨o_a17, ?_⟩
        refine m_X6_tell hI o_a17 (fun x19 S20 hI2 g21 p_x19 => ?_)
        subst p_x19
        intro _
        refine u_X9_grant ?_
        refine u_X9_grant_0 ?_
        refine ⟨o_v0, ?_⟩
        intro S23 eS23
        have hI : IV S23 := by rw [eS23]; exact iv_sI hI o_v0 (by decide) (nu_free (by decide))
        have f0 := fr_I eS23 g0 f0 o_v0 (by decide)
        obtain ⟨y24, hy24⟩ : ∃ z : Int32, z = (0 : Int32) := ⟨_, rfl⟩
        have d_y24 := rd_Is eS23 hy24
        have ea1 := rf_I eS23 ea1
        have ea16 := rf_I eS23 ea16
        have l_a16 := ln_I eS23 l_a16
        have g0 := gr_I eS23 g0
        have o_a1 := ob_I eS23 o_a1
        have o_a16 := ob_I eS23 o_a16
        have o_a17 := ob_I eS23 o_a17
        have o_v0 := ob_I eS23 o_v0
        intro _
        exact hq _ _ hI g0 f0
      · refine u_X9_walker_21 ?_
        refine ⟨o_v0, ?_⟩
        refine u_X9_refuse ?_
        refine u_X9_refuse_0 ?_
        refine ⟨o_v0, ?_⟩
        intro S26 eS26
        have hI : IV S26 := by rw [eS26]; exact iv_sI hI o_v0 (by decide) (nu_free (by decide))
        have f0 := fr_I eS26 g0 f0 o_v0 (by decide)
        obtain ⟨y27, hy27⟩ : ∃ z : Int32, z = (1 : Int32) := ⟨_, rfl⟩
        have d_y27 := rd_Is eS26 hy27
        have ea1 := rf_I eS26 ea1
        have g0 := gr_I eS26 g0
        have o_a1 := ob_I eS26 o_a1
        have o_v0 := ob_I eS26 o_v0
        intro _
        exact hq _ _ hI g0 f0
set_option maxHeartbeats 4000000 in
set_option maxRecDepth 20000 in
theorem m_X9_wet {v0 : Nat} {v1 : Int32} {v2 : Int32} {v3 : Int32} {v4 : Int32} {v5 : Int32} {v6 : Int32} {Q : Int64 → HS → Prop} {S : HS} (hI : IV S) (o_v0 : ob S v0 9)     (hq : ∀ (r : Int64) (T : HS), IV T → Gr S T → FRI [(9, 9)] [] S T → Q r T) : P_X9_wet v0 v1 v2 v3 v4 v5 v6 Q S := by
  have g0 := gr_rf S
  have f0 := fri_rf [(9, 9)] [] S
  refine u_X9_wet ?_
  refine u_X9_wet_0 ?_
  refine ⟨o_v0, ?_⟩
  refine m_X9_legTrouble hI o_v0 (fun x1 S2 hI2 g3 p_x1 => ?_)
  obtain ⟨z_S2, p_x1⟩ := p_x1
  subst z_S2
  intro _
  refine u_X9_refusedBy ?_
  refine u_X9_refusedBy_0 ?_
  refine ⟨o_v0, ?_⟩
  intro S5 eS5
  have hI : IV S5 := by rw [eS5]; exact iv_sI hI o_v0 (by decide) (nu_free (by decide))
  have f0 := fr_I eS5 g0 f0 o_v0 (by decide)
  have d_x1 := rd_Is eS5 (rfl : x1 = x1)
  have g0 := gr_I eS5 g0
  have o_v0 := ob_I eS5 o_v0
  refine ⟨fun c6 => ?_, fun c6 => ?_⟩
  · intro _ _
    refine ⟨fun c8 => ?_, fun c8 => ?_⟩
    · obtain ⟨a9, ea9, o_a9, -⟩ := sh 3 rfl hI o_v0
      refine ⟨a9, ea9, ?_⟩
      obtain ⟨a10, ea10, o_a10, -⟩ := sh 1 rfl hI o_v0
      refine ⟨a10, ea10, ?_⟩
      refine ⟨o_a10, ?_⟩
      obtain ⟨a11, ea11, o_a11, l_a11⟩ := shl 18 rfl hI o_a10
      refine ⟨a11, ea11, ?_⟩
      refine ⟨o_a11, ?_⟩
      have i13 : vp_in v1 (hN _ a11) := (vin l_a11 (m := 4) (by decide) (q0 p_x1 c6))
      obtain ⟨a12, ea12, o_a12⟩ := ae hI o_a11 (by decide) (by decide) i13
      replace o_a12 : ob _ a12 6 := o_a12
      refine ⟨i13, a12, ea12, ?_⟩
      refine ⟨a10, ea10, ?_⟩
      refine ⟨o_a10, ?_⟩
      obtain ⟨a15, ea15, o_a15, l_a15⟩ := shl 17 rfl hI o_a10
      refine ⟨a15, ea15, ?_⟩
      refine ⟨o_a15, ?_⟩
      have i17 : vp_in v2 (hN _ a15) := (vin l_a15 (m := 12) (by decide) (q1 p_x1 c6))
      obtain ⟨a16, ea16, o_a16⟩ := ae hI o_a15 (by decide) (by decide) i17
      replace o_a16 : ob _ a16 5 := o_a16
      refine ⟨i17, a16, ea16, ?_⟩
      refine ⟨a10, ea10, ?_⟩
      refine ⟨o_a10, ?_⟩
      obtain ⟨a19, ea19, o_a19, l_a19⟩ := shl 15 rfl hI o_a10
      refine ⟨a19, ea19, ?_⟩
      refine ⟨o_a19, ?_⟩
      have i21 : vp_in v4 (hN _ a19) := (vin l_a19 (m := 6) (by decide) (q2 p_x1 c6))
      obtain ⟨a20, ea20, o_a20⟩ := ae hI o_a19 (by decide) (by decide) i21
      replace o_a20 : ob _ a20 3 := o_a20
      refine ⟨i21, a20, ea20, ?_⟩
      refine ⟨o_a9, ?_⟩
      refine m_X1_wetOf hI o_a9 o_a12 o_a16 o_a20 (fun x22 S23 hJ g24 fc25 => ?_)
      have hI := hJ
      have l_a11 := (gr_len g24 o_a11).trans l_a11
      have l_a15 := (gr_len g24 o_a15).trans l_a15
      have l_a19 := (gr_len g24 o_a19).trans l_a19
      have d_x1 := d_x1.trans (fri_at fc25 (by decide) (by decide) o_v0).symm
      have ea9 := (frr_at fc25 (by decide) (by decide) o_v0).trans ea9
      have ea10 := (frr_at fc25 (by decide) (by decide) o_v0).trans ea10
      have ea11 := (frr_at fc25 (by decide) (by decide) o_a10).trans ea11
      have ea15 := (frr_at fc25 (by decide) (by decide) o_a10).trans ea15
      have ea19 := (frr_at fc25 (by decide) (by decide) o_a10).trans ea19
      have f0 := fri_tr (S := S5) g0 f0 fc25 (by decide) (by decide)
      have o_a10 := gr_ob g24 o_a10
      have o_a11 := gr_ob g24 o_a11
      have o_a12 := gr_ob g24 o_a12
      have o_a15 := gr_ob g24 o_a15
      have o_a16 := gr_ob g24 o_a16
      have o_a19 := gr_ob g24 o_a19
      have o_a20 := gr_ob g24 o_a20
      have o_a9 := gr_ob g24 o_a9
      have o_v0 := gr_ob g24 o_v0
      have g0 := gr_tr (T := S5) g0 g24
      intro _
      refine m_X9_fraction hI (fun x26 S27 hI2 g28 p_x26 => ?_)
      subst p_x26
      intro _
      exact hq _ _ hI g0 f0
    · exact hq _ _ hI g0 f0
  · intro _ _
    refine ⟨fun c31 => ?_, fun c31 => ?_⟩
    · obtain ⟨a32, ea32, o_a32, -⟩ := sh 3 rfl hI o_v0
      refine ⟨a32, ea32, ?_⟩
      obtain ⟨a33, ea33, o_a33, -⟩ := sh 1 rfl hI o_v0
      refine ⟨a33, ea33, ?_⟩
      refine ⟨o_a33, ?_⟩
      obtain ⟨a34, ea34, o_a34, l_a34⟩ := shl 18 rfl hI o_a33
      refine ⟨a34, ea34, ?_⟩
      refine ⟨o_a34, ?_⟩
      have i36 : vp_in v1 (hN _ a34) := (vin l_a34 (m := 4) (by decide) (q3 p_x1 c6 c31))
      obtain ⟨a35, ea35, o_a35⟩ := ae hI o_a34 (by decide) (by decide) i36
      replace o_a35 : ob _ a35 6 := o_a35
      refine ⟨i36, a35, ea35, ?_⟩
      refine ⟨a33, ea33, ?_⟩
      refine ⟨o_a33, ?_⟩
      obtain ⟨a38, ea38, o_a38, l_a38⟩ := shl 17 rfl hI o_a33
      refine ⟨a38, ea38, ?_⟩
      refine ⟨o_a38, ?_⟩
      have i40 : vp_in v2 (hN _ a38) := (vin l_a38 (m := 12) (by decide) (q4 p_x1 c6 c31))
      obtain ⟨a39, ea39, o_a39⟩ := ae hI o_a38 (by decide) (by decide) i40
      replace o_a39 : ob _ a39 5 := o_a39
      refine ⟨i40, a39, ea39, ?_⟩
      refine ⟨a33, ea33, ?_⟩
      refine ⟨o_a33, ?_⟩
      obtain ⟨a42, ea42, o_a42, l_a42⟩ := shl 15 rfl hI o_a33
      refine ⟨a42, ea42, ?_⟩
      refine ⟨o_a42, ?_⟩
      have i44 : vp_in v4 (hN _ a42) := (vin l_a42 (m := 6) (by decide) (q5 p_x1 c6 c31))
      obtain ⟨a43, ea43, o_a43⟩ := ae hI o_a42 (by decide) (by decide) i44
      replace o_a43 : ob _ a43 3 := o_a43
      refine ⟨i44, a43, ea43, ?_⟩
      refine ⟨o_a32, ?_⟩
      refine m_X1_wetOf hI o_a32 o_a35 o_a39 o_a43 (fun x45 S46 hJ g47 fc48 => ?_)
      have hI := hJ
      have l_a34 := (gr_len g47 o_a34).trans l_a34
      have l_a38 := (gr_len g47 o_a38).trans l_a38
      have l_a42 := (gr_len g47 o_a42).trans l_a42
      have d_x1 := d_x1.trans (fri_at fc48 (by decide) (by decide) o_v0).symm
      have ea32 := (frr_at fc48 (by decide) (by decide) o_v0).trans ea32
      have ea33 := (frr_at fc48 (by decide) (by decide) o_v0).trans ea33
      have ea34 := (frr_at fc48 (by decide) (by decide) o_a33).trans ea34
      have ea38 := (frr_at fc48 (by decide) (by decide) o_a33).trans ea38
      have ea42 := (frr_at fc48 (by decide) (by decide) o_a33).trans ea42
      have f0 := fri_tr (S := S5) g0 f0 fc48 (by decide) (by decide)
      have o_a32 := gr_ob g47 o_a32
      have o_a33 := gr_ob g47 o_a33
      have o_a34 := gr_ob g47 o_a34
      have o_a35 := gr_ob g47 o_a35
      have o_a38 := gr_ob g47 o_a38
      have o_a39 := gr_ob g47 o_a39
      have o_a42 := gr_ob g47 o_a42
      have o_a43 := gr_ob g47 o_a43
      have o_v0 := gr_ob g47 o_v0
      have g0 := gr_tr (T := S5) g0 g47
      intro _
      refine m_X9_fraction hI (fun x49 S50 hI2 g51 p_x49 => ?_)
      subst p_x49
      intro _
      exact hq _ _ hI g0 f0
    · exact hq _ _ hI g0 f0
set_option maxHeartbeats 4000000 in
set_option maxRecDepth 20000 in
theorem m_X9_wetness {v0 : Nat} {v1 : Int32} {Q : Int64 → HS → Prop} {S : HS} (hI : IV S) (o_v0 : ob S v0 9)     (hq : ∀ (r : Int64) (T : HS), IV T → Gr S T → FRI [(9, 9)] [] S T → Q r T) : P_X9_wetness v0 v1 Q S := by
  have g0 := gr_rf S
  have f0 := fri_rf [(9, 9)] [] S
  refine u_X9_wetness ?_
  refine u_X9_wetness_0 ?_
  refine ⟨o_v0, ?_⟩
  obtain ⟨a1, ea1, o_a1, -⟩ := sh 5 rfl hI o_v0
  refine ⟨a1, ea1, ?_⟩
  refine ⟨o_a1, ?_⟩
  refine m_X0_isOn hI o_a1 (fun x2 S3 hI2 g4 b_x2 p_x2 => ?_)
  subst p_x2
  intro _ _
  have bb_x2 : x2 = 0 ∨ x2 = 1 := b_x2
  refine ⟨fun c6 => ?_, fun c6 => ?_⟩
  · refine u_X9_wetness_27 ?_
    refine ⟨o_v0, ?_⟩
    refine u_X9_refuse ?_
    refine u_X9_refuse_0 ?_
    refine ⟨o_v0, ?_⟩
    intro S7 eS7
    have hI : IV S7 := by rw [eS7]; exact iv_sI hI o_v0 (by decide) (nu_free (by decide))
    have f0 := fr_I eS7 g0 f0 o_v0 (by decide)
    obtain ⟨y8, hy8⟩ : ∃ z : Int32, z = (1 : Int32) := ⟨_, rfl⟩
    have d_y8 := rd_Is eS7 hy8
    have ea1 := rf_I eS7 ea1
    have g0 := gr_I eS7 g0
    have o_a1 := ob_I eS7 o_a1
    have o_v0 := ob_I eS7 o_v0
    intro _
    exact hq _ _ hI g0 f0
  · obtain ⟨a10, ea10, o_a10, -⟩ := sh 1 rfl hI o_v0
    refine ⟨a10, ea10, ?_⟩
    refine ⟨a1, ea1, ?_⟩
    refine ⟨o_a1, ?_⟩
    intro x12 ex12
    have r_x12 : (-1 : Int32) ≤ x12 ∧ x12 ≤ (3 : Int32) := by rw [ex12]; exact nu 1 rfl hI o_a1
    have d_x12 := ex12
    refine ⟨o_a10, ?_⟩
    refine m_X8_hasWalker hI o_a10 (fun x13 S14 hI2 g15 b_x13 p_x13 => ?_)
    obtain ⟨z_S14, p_x13⟩ := p_x13
    subst z_S14
    intro _ _
    have bb_x13 : x13 = 0 ∨ x13 = 1 := b_x13
    refine ⟨fun c17 => ?_, fun c17 => ?_⟩
    · intro S18 eS18
      have hI : IV S18 := by rw [eS18]; exact iv_sI hI o_v0 (by decide) (nu_free (by decide))
      have f0 := fr_I eS18 g0 f0 o_v0 (by decide)
      have d_x12 := rd_Ik eS18 o_v0 o_a1 (by decide) d_x12
      obtain ⟨y19, hy19⟩ : ∃ z : Int32, z = (0 : Int32) := ⟨_, rfl⟩
      have d_y19 := rd_Is eS18 hy19
      have ea1 := rf_I eS18 ea1
      have ea10 := rf_I eS18 ea10
      have g0 := gr_I eS18 g0
      have o_a1 := ob_I eS18 o_a1
      have o_a10 := ob_I eS18 o_a10
      have o_v0 := ob_I eS18 o_v0
      refine ⟨a1, ea1, ?_⟩
      refine ⟨o_a1, ?_⟩
      obtain ⟨a21, ea21, o_a21, -⟩ := sh 6 rfl hI o_a1
      refine ⟨a21, ea21, ?_⟩
      refine ⟨o_a21, ?_⟩
      refine m_X2_allGot hI o_a21 (fun x22 S23 hI2 g24 p_x22 => ?_)
      subst p_x22
      intro _
      refine ⟨a10, ea10, ?_⟩
      refine ⟨o_a10, ?_⟩
      obtain ⟨a27, ea27, o_a27, l_a27⟩ := shl 18 rfl hI o_a10
      refine ⟨a27, ea27, ?_⟩
      refine ⟨a1, ea1, ?_⟩
      refine ⟨o_a1, ?_⟩
      intro x29 ex29
      have r_x29 : (-1 : Int32) ≤ x29 ∧ x29 ≤ (3 : Int32) := by rw [ex29]; exact nu 1 rfl hI o_a1
      have q_x29 : x29 = x12 := ex29.trans d_x12.symm
      have d_x29 := ex29
      refine ⟨o_a27, ?_⟩
      have i31 : vp_in x29 (hN _ a27) := (vin l_a27 (m := 4) (by decide) (q727 bb_x2 c6 r_x12 p_x13 bb_x13 c17 r_x29 q_x29))
      obtain ⟨a30, ea30, o_a30⟩ := ae hI o_a27 (by decide) (by decide) i31
      replace o_a30 : ob _ a30 6 := o_a30
      refine ⟨i31, a30, ea30, ?_⟩
      refine m_X9_coatParts hI o_a30 (fun x32 S33 hI2 g34 p_x32 => ?_)
      subst p_x32
      intro _
      intro x36 ex36
      intro x37 ex37
      refine m_X9_fraction hI (fun x38 S39 hI2 g40 p_x38 => ?_)
      subst p_x38
      intro _
      exact hq _ _ hI g0 f0
    · refine u_X9_wetness_27 ?_
      refine ⟨o_v0, ?_⟩
      refine u_X9_refuse ?_
      refine u_X9_refuse_0 ?_
      refine ⟨o_v0, ?_⟩
      intro S42 eS42
      have hI : IV S42 := by rw [eS42]; exact iv_sI hI o_v0 (by decide) (nu_free (by decide))
      have f0 := fr_I eS42 g0 f0 o_v0 (by decide)
      have d_x12 := rd_Ik eS42 o_v0 o_a1 (by decide) d_x12
      obtain ⟨y43, hy43⟩ : ∃ z : Int32, z = (1 : Int32) := ⟨_, rfl⟩
      have d_y43 := rd_Is eS42 hy43
      have ea1 := rf_I eS42 ea1
      have ea10 := rf_I eS42 ea10
      have g0 := gr_I eS42 g0
      have o_a1 := ob_I eS42 o_a1
      have o_a10 := ob_I eS42 o_a10
      have o_v0 := ob_I eS42 o_v0
      intro _
      exact hq _ _ hI g0 f0
set_option maxHeartbeats 4000000 in
set_option maxRecDepth 20000 in
theorem m_X9_where {v0 : Nat} {Q : Int32 → HS → Prop} {S : HS} (hI : IV S) (o_v0 : ob S v0 9)     (hq : ∀ (r : Int32) (T : HS), IV T → Gr S T → (S = T) → Q r T) : P_X9_where v0 Q S := by
  have g0 := gr_rf S
  refine u_X9_where ?_
  refine u_X9_where_0 ?_
  refine ⟨o_v0, ?_⟩
  intro x1 ex1
  have d_x1 := ex1
  refine ⟨fun c2 => ?_, fun c2 => ?_⟩
  · exact hq _ _ hI g0 rfl
  · intro x3 ex3
    have d_x3 := ex3
    exact hq _ _ hI g0 rfl
end
section
set_option maxHeartbeats 4000000 in
set_option maxRecDepth 20000 in
theorem m_X9_worst {v0 : Nat} {v1 : Int32} {v2 : Int32} {v3 : Int32} {v4 : Int32} {Q : Int32 → HS → Prop} {S : HS} (hI : IV S) (o_v0 : ob S v0 9)     (hq : ∀ (r : Int32) (T : HS), IV T → Gr S T → FRI [(9, 9)] [] S T → Q r T) : P_X9_worst v0 v1 v2 v3 v4 Q S := by
  have g0 := gr_rf S
  have f0 := fri_rf [(9, 9)] [] S
  refine u_X9_worst ?_
  refine u_X9_worst_0 ?_
  refine ⟨o_v0, ?_⟩
  refine m_X9_tripTrouble hI o_v0 (fun x1 S2 hI2 g3 p_x1 => ?_)
  obtain ⟨z_S2, p_x1⟩ := p_x1
  subst z_S2
  intro _
  refine u_X9_refusedBy ?_
  refine u_X9_refusedBy_0 ?_
  refine ⟨o_v0, ?_⟩
  intro S5 eS5
  have hI : IV S5 := by rw [eS5]; exact iv_sI hI o_v0 (by decide) (nu_free (by decide))
  have f0 := fr_I eS5 g0 f0 o_v0 (by decide)
  have d_x1 := rd_Is eS5 (rfl : x1 = x1)
  have g0 := gr_I eS5 g0
  have o_v0 := ob_I eS5 o_v0
  refine ⟨fun c6 => ?_, fun c6 => ?_⟩
  · intro _ _
    refine ⟨fun c8 => ?_, fun c8 => ?_⟩
    · obtain ⟨a9, ea9, o_a9, -⟩ := sh 3 rfl hI o_v0
      refine ⟨a9, ea9, ?_⟩
      obtain ⟨a10, ea10, o_a10, -⟩ := sh 1 rfl hI o_v0
      refine ⟨a10, ea10, ?_⟩
      refine ⟨o_a10, ?_⟩
      obtain ⟨a11, ea11, o_a11, l_a11⟩ := shl 18 rfl hI o_a10
      refine ⟨a11, ea11, ?_⟩
      refine ⟨o_a11, ?_⟩
      have i13 : vp_in v1 (hN _ a11) := (vin l_a11 (m := 4) (by decide) (q0 p_x1 c6))
      obtain ⟨a12, ea12, o_a12⟩ := ae hI o_a11 (by decide) (by decide) i13
      replace o_a12 : ob _ a12 6 := o_a12
      refine ⟨i13, a12, ea12, ?_⟩
      refine ⟨a10, ea10, ?_⟩
      refine ⟨o_a10, ?_⟩
      obtain ⟨a15, ea15, o_a15, l_a15⟩ := shl 17 rfl hI o_a10
      refine ⟨a15, ea15, ?_⟩
      refine ⟨o_a15, ?_⟩
      have i17 : vp_in v2 (hN _ a15) := (vin l_a15 (m := 12) (by decide) (q1 p_x1 c6))
      obtain ⟨a16, ea16, o_a16⟩ := ae hI o_a15 (by decide) (by decide) i17
      replace o_a16 : ob _ a16 5 := o_a16
      refine ⟨i17, a16, ea16, ?_⟩
      refine ⟨a10, ea10, ?_⟩
      refine ⟨o_a10, ?_⟩
      obtain ⟨a19, ea19, o_a19, l_a19⟩ := shl 15 rfl hI o_a10
      refine ⟨a19, ea19, ?_⟩
      refine ⟨o_a19, ?_⟩
      have i21 : vp_in v4 (hN _ a19) := (vin l_a19 (m := 6) (by decide) (q2 p_x1 c6))
      obtain ⟨a20, ea20, o_a20⟩ := ae hI o_a19 (by decide) (by decide) i21
      replace o_a20 : ob _ a20 3 := o_a20
      refine ⟨i21, a20, ea20, ?_⟩
      refine ⟨o_a9, ?_⟩
      refine m_X1_worstSpeed hI o_a9 o_a12 o_a16 o_a20 (fun x22 S23 hJ g24 fc25 => ?_)
      have hI := hJ
      have l_a11 := (gr_len g24 o_a11).trans l_a11
      have l_a15 := (gr_len g24 o_a15).trans l_a15
      have l_a19 := (gr_len g24 o_a19).trans l_a19
      have d_x1 := d_x1.trans (fri_at fc25 (by decide) (by decide) o_v0).symm
      have ea9 := (frr_at fc25 (by decide) (by decide) o_v0).trans ea9
      have ea10 := (frr_at fc25 (by decide) (by decide) o_v0).trans ea10
      have ea11 := (frr_at fc25 (by decide) (by decide) o_a10).trans ea11
      have ea15 := (frr_at fc25 (by decide) (by decide) o_a10).trans ea15
      have ea19 := (frr_at fc25 (by decide) (by decide) o_a10).trans ea19
      have f0 := fri_tr (S := S5) g0 f0 fc25 (by decide) (by decide)
      have o_a10 := gr_ob g24 o_a10
      have o_a11 := gr_ob g24 o_a11
      have o_a12 := gr_ob g24 o_a12
      have o_a15 := gr_ob g24 o_a15
      have o_a16 := gr_ob g24 o_a16
      have o_a19 := gr_ob g24 o_a19
      have o_a20 := gr_ob g24 o_a20
      have o_a9 := gr_ob g24 o_a9
      have o_v0 := gr_ob g24 o_v0
      have g0 := gr_tr (T := S5) g0 g24
      intro _
      exact hq _ _ hI g0 f0
    · exact hq _ _ hI g0 f0
  · intro _ _
    refine ⟨fun c27 => ?_, fun c27 => ?_⟩
    · obtain ⟨a28, ea28, o_a28, -⟩ := sh 3 rfl hI o_v0
      refine ⟨a28, ea28, ?_⟩
      obtain ⟨a29, ea29, o_a29, -⟩ := sh 1 rfl hI o_v0
      refine ⟨a29, ea29, ?_⟩
      refine ⟨o_a29, ?_⟩
      obtain ⟨a30, ea30, o_a30, l_a30⟩ := shl 18 rfl hI o_a29
      refine ⟨a30, ea30, ?_⟩
      refine ⟨o_a30, ?_⟩
      have i32 : vp_in v1 (hN _ a30) := (vin l_a30 (m := 4) (by decide) (q3 p_x1 c6 c27))
      obtain ⟨a31, ea31, o_a31⟩ := ae hI o_a30 (by decide) (by decide) i32
      replace o_a31 : ob _ a31 6 := o_a31
      refine ⟨i32, a31, ea31, ?_⟩
      refine ⟨a29, ea29, ?_⟩
      refine ⟨o_a29, ?_⟩
      obtain ⟨a34, ea34, o_a34, l_a34⟩ := shl 17 rfl hI o_a29
      refine ⟨a34, ea34, ?_⟩
      refine ⟨o_a34, ?_⟩
      have i36 : vp_in v2 (hN _ a34) := (vin l_a34 (m := 12) (by decide) (q4 p_x1 c6 c27))
      obtain ⟨a35, ea35, o_a35⟩ := ae hI o_a34 (by decide) (by decide) i36
      replace o_a35 : ob _ a35 5 := o_a35
      refine ⟨i36, a35, ea35, ?_⟩
      refine ⟨a29, ea29, ?_⟩
      refine ⟨o_a29, ?_⟩
      obtain ⟨a38, ea38, o_a38, l_a38⟩ := shl 15 rfl hI o_a29
      refine ⟨a38, ea38, ?_⟩
      refine ⟨o_a38, ?_⟩
      have i40 : vp_in v4 (hN _ a38) := (vin l_a38 (m := 6) (by decide) (q5 p_x1 c6 c27))
      obtain ⟨a39, ea39, o_a39⟩ := ae hI o_a38 (by decide) (by decide) i40
      replace o_a39 : ob _ a39 3 := o_a39
      refine ⟨i40, a39, ea39, ?_⟩
      refine ⟨o_a28, ?_⟩
      refine m_X1_worstSpeed hI o_a28 o_a31 o_a35 o_a39 (fun x41 S42 hJ g43 fc44 => ?_)
      have hI := hJ
      have l_a30 := (gr_len g43 o_a30).trans l_a30
      have l_a34 := (gr_len g43 o_a34).trans l_a34
      have l_a38 := (gr_len g43 o_a38).trans l_a38
      have d_x1 := d_x1.trans (fri_at fc44 (by decide) (by decide) o_v0).symm
      have ea28 := (frr_at fc44 (by decide) (by decide) o_v0).trans ea28
      have ea29 := (frr_at fc44 (by decide) (by decide) o_v0).trans ea29
      have ea30 := (frr_at fc44 (by decide) (by decide) o_a29).trans ea30
      have ea34 := (frr_at fc44 (by decide) (by decide) o_a29).trans ea34
      have ea38 := (frr_at fc44 (by decide) (by decide) o_a29).trans ea38
      have f0 := fri_tr (S := S5) g0 f0 fc44 (by decide) (by decide)
      have o_a28 := gr_ob g43 o_a28
      have o_a29 := gr_ob g43 o_a29
      have o_a30 := gr_ob g43 o_a30
      have o_a31 := gr_ob g43 o_a31
      have o_a34 := gr_ob g43 o_a34
      have o_a35 := gr_ob g43 o_a35
      have o_a38 := gr_ob g43 o_a38
      have o_a39 := gr_ob g43 o_a39
      have o_v0 := gr_ob g43 o_v0
      have g0 := gr_tr (T := S5) g0 g43
      intro _
      exact hq _ _ hI g0 f0
    · exact hq _ _ hI g0 f0
end
section
/-! the reference's reader: what it carries -/
def WN (S : HS) (o : Nat) : Prop := ∃ w, fR S o 3 = some w
def WI (S : HS) (o c : Nat) (v : Int32) : Prop := ∃ w, fR S o 3 = some w ∧ 0 ≤ v ∧ v < fI S w c
/-- the world that is read is sound so far, and no one's -/
def RG (S : HS) (o : Nat) : Prop := ∃ w, fR S o 4 = some w ∧ ob S w 10 ∧ NW S w ∧ WG S w
def RN (S : HS) (o : Nat) : Prop := ∀ w, fR S o 4 = some w → fI S w 6 = fI S w 2 + fI S w 4
def KR (S : HS) (o : Nat) (v r : Int32) : Prop := fI S o 9 = 5 ∨ ∃ w, fR S o 4 = some w ∧ 0 ≤ r ∧ (v = 0 → r < fI S w 2) ∧ (v = 1 → r < fI S w 4)
theorem nn_ne {x y : Int32} (hy : 0 ≤ y) (h : y < x) : y.toNatClampNeg ≠ x.toNatClampNeg := by
  have a : 0 ≤ y.toInt := by simpa using Int32.le_iff_toInt_le.mp hy
  have b := Int32.lt_iff_toInt_lt.mp h
  show y.toInt.toNat ≠ x.toInt.toNat
  omega
theorem i32_lt1 {x y : Int32} (hr : 0 ≤ x ∧ x < 1000) (h : y < x + 1) : y < x ∨ y = x := by
  have a : 0 ≤ x.toInt := by simpa using Int32.le_iff_toInt_le.mp hr.1
  have b : x.toInt < 1000 := by simpa using Int32.lt_iff_toInt_lt.mp hr.2
  have c := Int32.lt_iff_toInt_lt.mp h
  have d : (x + 1).toInt = x.toInt + 1 := by
    rw [Int32.toInt_add]
    exact Int.bmod_eq_of_le (by simp; omega) (by simp; omega)
  rw [d] at c
  by_cases e : y.toInt < x.toInt
  · exact Or.inl (Int32.lt_iff_toInt_lt.mpr e)
  · exact Or.inr (Int32.toInt_inj.mp (by omega))
theorem i32_up {x z : Int32} (hr : 0 ≤ x ∧ x < 1000) (h : z < x) : z < x + 1 := by
  have a : 0 ≤ x.toInt := by simpa using Int32.le_iff_toInt_le.mp hr.1
  have b : x.toInt < 1000 := by simpa using Int32.lt_iff_toInt_lt.mp hr.2
  have c := Int32.lt_iff_toInt_lt.mp h
  have d : (x + 1).toInt = x.toInt + 1 := by
    rw [Int32.toInt_add]
    exact Int.bmod_eq_of_le (by simp; omega) (by simp; omega)
  exact Int32.lt_iff_toInt_lt.mpr (by rw [d]; omega)
theorem i32_self {x : Int32} (hr : 0 ≤ x ∧ x < 1000) : x < x + 1 := by
  have a : 0 ≤ x.toInt := by simpa using Int32.le_iff_toInt_le.mp hr.1
  have b : x.toInt < 1000 := by simpa using Int32.lt_iff_toInt_lt.mp hr.2
  have d : (x + 1).toInt = x.toInt + 1 := by
    rw [Int32.toInt_add]
    exact Int.bmod_eq_of_le (by simp; omega) (by simp; omega)
  exact Int32.lt_iff_toInt_lt.mpr (by rw [d]; omega)
theorem i32_add {x y : Int32} (hx : 0 ≤ x ∧ x < 1000) (hy : 0 ≤ y ∧ y < 1000) : (x + y).toInt = x.toInt + y.toInt := by
  have a : 0 ≤ x.toInt := by simpa using Int32.le_iff_toInt_le.mp hx.1
  have b : x.toInt < 1000 := by simpa using Int32.lt_iff_toInt_lt.mp hx.2
  have c : 0 ≤ y.toInt := by simpa using Int32.le_iff_toInt_le.mp hy.1
  have d : y.toInt < 1000 := by simpa using Int32.lt_iff_toInt_lt.mp hy.2
  rw [Int32.toInt_add]
  exact Int.bmod_eq_of_le (by omega) (by omega)
theorem i32_lt2 {x k z : Int32} (hx : 0 ≤ x ∧ x < 1000) (hk : 0 ≤ k ∧ k < 1000) (h : z < x + 1 + k) : z < x + k ∨ z = x + k := by
  have a : 0 ≤ x.toInt := by simpa using Int32.le_iff_toInt_le.mp hx.1
  have b : x.toInt < 1000 := by simpa using Int32.lt_iff_toInt_lt.mp hx.2
  have c : 0 ≤ k.toInt := by simpa using Int32.le_iff_toInt_le.mp hk.1
  have d : k.toInt < 1000 := by simpa using Int32.lt_iff_toInt_lt.mp hk.2
  have e := i32_add hx hk
  have g : (x + 1).toInt = x.toInt + 1 := by
    rw [Int32.toInt_add]
    exact Int.bmod_eq_of_le (by simp; omega) (by simp; omega)
  have i : (x + 1 + k).toInt = x.toInt + 1 + k.toInt := by
    rw [Int32.toInt_add, g]
    exact Int.bmod_eq_of_le (by omega) (by omega)
  have j := Int32.lt_iff_toInt_lt.mp h
  rw [i] at j
  by_cases l : z.toInt < x.toInt + k.toInt
  · exact Or.inl (Int32.lt_iff_toInt_lt.mpr (by rw [e]; exact l))
  · exact Or.inr (Int32.toInt_inj.mp (by rw [e]; omega))
theorem de_zero (z : Nat) : de1 z 0 := ⟨fun _ => by decide, fun _ => by decide⟩
theorem de_0 {v : Int64} (h : 0 ≤ v ∧ v ≤ 7) : de1 (0 : Int32).toNatClampNeg v := ⟨fun _ => h, fun z => absurd z (by decide)⟩
theorem de_1 {v : Int64} (h : 0 ≤ v ∧ v ≤ 999) : de1 (1 : Int32).toNatClampNeg v := ⟨fun z => absurd z (by decide), fun _ => h⟩
theorem de_tr {z z' : Nat} {v : Int64} (h : de1 z v) (e : z' % 7 = z % 7) : de1 z' v := ⟨fun t => h.1 (e ▸ t), fun t => h.2 (e ▸ t)⟩
theorem de_free {x : Int32} {v : Int64} (h : 2 ≤ x ∧ x < 7) : de1 x.toNatClampNeg v := by
  have a : 2 ≤ x.toInt := by simpa using Int32.le_iff_toInt_le.mp h.1
  have b : x.toInt < 7 := by simpa using Int32.lt_iff_toInt_lt.mp h.2
  have e : x.toNatClampNeg = x.toInt.toNat := rfl
  exact ⟨fun z => by rw [e] at z; omega, fun z => by rw [e] at z; omega⟩
section Rd
variable {S T : HS} {a b w o j k q i x : Nat}
theorem kr0 {r : Int32} (h : KR S o 0 r) (e : fR S o 4 = some w) : fI S o 9 = 5 ∨ (0 ≤ r ∧ r < fI S w 2) := by
  rcases h with g | ⟨w', e', g1, g2, -⟩
  · exact Or.inl g
  · cases e.symm.trans e'
    exact Or.inr ⟨g1, g2 rfl⟩
theorem kr1 {r : Int32} (h : KR S o 1 r) (e : fR S o 4 = some w) : fI S o 9 = 5 ∨ (0 ≤ r ∧ r < fI S w 4) := by
  rcases h with g | ⟨w', e', g1, -, g2⟩
  · exact Or.inl g
  · cases e.symm.trans e'
    exact Or.inr ⟨g1, g2 rfl⟩
theorem rg_nw (h : RG S o) (e : fR S o 4 = some w) : NW S w := by
  obtain ⟨w', e', -, h2, -⟩ := h
  cases e.symm.trans e'
  exact h2
theorem rg_wg (h : RG S o) (e : fR S o 4 = some w) : WG S w := by
  obtain ⟨w', e', -, -, h2⟩ := h
  cases e.symm.trans e'
  exact h2
theorem rg_J {v : Int64} (E : T = sJ S a j v) (h : RG S o) : RG T o := by rw [E]; exact h
theorem rg_11 {v : Int32} (E : T = sI S a j v) (hI : IV S) (oa : ob S a 11) (h : RG S o) : RG T o := by
  obtain ⟨w, e, ow, hn, hg⟩ := h
  rw [E]
  refine ⟨w, e, ow, hn, wg_same (S := S) ⟨u2_row _ _ (fun z => ?_), rfl, fun i b hp hb => u2_row _ _ (fun z => ?_)⟩ hg⟩
  · have := ob_inj (z ▸ ow) oa; omega
  · obtain ⟨r, r1, r2, r3⟩ := pr_kind hI.1 ow hp hb
    have := ob_inj (z ▸ r1) oa; omega
/-- an array of the world that is read, at its counter -/
theorem rg_a {v x : Int32} {jj : Nat} (E : T = sI S b x.toNatClampNeg v) (hI : IV S) (er : fR S o 4 = some w) (ow : ob S w 10) (eb : fR S w jj = some b) (p : ob S b q) (hq : 12 ≤ q) (h1 : ∀ e ∈ wgT, e.2.1 = jj → fI S w e.1 = x) (h2 : jj = 29 ∨ jj = 30 → fI S w 2 + fI S w 4 = x) (h : RG S o) : RG T o := by
  have hn := rg_nw h er
  have hg := rg_wg h er
  rw [E]
  have hwb : w ≠ b := fun z => by have := ob_inj (z ▸ ow) p; omega
  have hw : fI (sI S b x.toNatClampNeg v) w = fI S w := u2_row _ _ hwb
  have hp : ∀ e ∈ wgT, (10, e.2.1) ∈ prT := by decide
  refine ⟨w, er, ow, hn, fun e he y h0 hy c hc => ?_, fun y h0 hy c d hc hd => ?_⟩
  · rw [hw] at hy
    have hc : fR S w e.2.1 = some c := hc
    have g := hg.1 e he y h0 hy c hc
    unfold EG at g ⊢
    rw [hw]
    have : fI (sI S b x.toNatClampNeg v) c y.toNatClampNeg = fI S c y.toNatClampNeg := by
      refine u2_ne _ _ (fun z => ?_)
      have hj := (hI.2.2.2.2.1 w 10 jj w 10 e.2.1 b ow (by omega) ow (hp e he) eb (z.1 ▸ hc)).2
      exact nn_ne h0 (h1 e he hj.symm ▸ hy) z.2
    rw [this]
    exact g
  · rw [hw] at hy
    have hc : fR S w 29 = some c := hc
    have hd : fR S w 30 = some d := hd
    have e1 : fI (sI S b x.toNatClampNeg v) c y.toNatClampNeg = fI S c y.toNatClampNeg := by
      refine u2_ne _ _ (fun z => ?_)
      have hj := (hI.2.2.2.2.1 w 10 jj w 10 29 b ow (by omega) ow (by decide) eb (z.1 ▸ hc)).2
      exact nn_ne h0 (h2 (Or.inl hj) ▸ hy) z.2
    have e2 : fI (sI S b x.toNatClampNeg v) d y.toNatClampNeg = fI S d y.toNatClampNeg := by
      refine u2_ne _ _ (fun z => ?_)
      have hj := (hI.2.2.2.2.1 w 10 jj w 10 30 b ow (by omega) ow (by decide) eb (z.1 ▸ hd)).2
      exact nn_ne h0 (h2 (Or.inr hj) ▸ hy) z.2
    rw [e1, e2, hw]
    exact hg.2 y h0 hy c d hc hd
theorem h1_no {jj : Nat} {x : Int32} (h : (wgT.all fun e => !(e.2.1 == jj)) = true) : ∀ e ∈ wgT, e.2.1 = jj → fI S w e.1 = x := by
  intro e he h1
  have := List.all_eq_true.mp h e he
  simp [h1] at this
theorem h1_one {jj c : Nat} {x lo hi : Int32} {hf : Nat} (h : wgT.filter (fun e => e.2.1 == jj) = [(c, jj, lo, hi, hf)]) (hx : fI S w c = x) : ∀ e ∈ wgT, e.2.1 = jj → fI S w e.1 = x := by
  intro e he h1
  have hm : e ∈ wgT.filter (fun e => e.2.1 == jj) := List.mem_filter.mpr ⟨he, by simp [h1]⟩
  rw [h] at hm
  cases List.mem_singleton.mp hm
  exact hx
theorem h2_no {jj : Nat} {y : Int32} (h : jj ≠ 29 ∧ jj ≠ 30) {P : Prop} : jj = 29 ∨ jj = 30 → P := fun z => absurd z (by omega)
/-- a counter on which nothing depends -/
theorem rg_c {v : Int32} (E : T = sI S w j v) (hI : IV S) (er : fR S o 4 = some w) (ow : ob S w 10) (hj : j ≠ 2 ∧ j ≠ 3 ∧ j ≠ 4 ∧ j ≠ 5) (h : RG S o) : RG T o := by
  have hn := rg_nw h er
  have hg := rg_wg h er
  rw [E]
  have hc : ∀ c, c = 2 ∨ c = 3 ∨ c = 4 ∨ c = 5 → fI (sI S w j v) w c = fI S w c := fun c hc => u2_ne _ _ (fun z => by omega)
  have ht : ∀ e ∈ wgT, (e.1 = 2 ∨ e.1 = 3 ∨ e.1 = 4 ∨ e.1 = 5) ∧ (e.2.2.2.2 = 99 ∨ e.2.2.2.2 = 2 ∨ e.2.2.2.2 = 4) := by decide
  have hp : ∀ e ∈ wgT, (10, e.2.1) ∈ prT := by decide
  have hb : ∀ i b, (10, i) ∈ prT → fR S w i = some b → fI (sI S w j v) b = fI S b := fun i b hp hb => u2_row _ _ (fun z => by
    obtain ⟨r, r1, r2, r3⟩ := pr_kind hI.1 ow hp hb
    have := ob_inj (z ▸ r1) ow; omega)
  refine ⟨w, er, ow, hn, fun e he y h0 hy c hc' => ?_, fun y h0 hy c d hc' hd => ?_⟩
  · rw [hc _ (ht e he).1] at hy
    have g := hg.1 e he y h0 hy c hc'
    unfold EG at g ⊢
    rw [hb _ c (hp e he) hc']
    refine ⟨g.1, g.2.1, ?_⟩
    rcases (ht e he).2 with z | z | z
    · exact Or.inl z
    · rw [hc _ (by omega)]; exact g.2.2
    · rw [hc _ (by omega)]; exact g.2.2
  · rw [hc 2 (by omega), hc 4 (by omega)] at hy
    rw [hb _ c (by decide) hc', hb _ d (by decide) hd, hc 2 (by omega), hc 4 (by omega)]
    exact hg.2 y h0 hy c d hc' hd
/-- one more: a counter c goes up by one from y; what stands at y is sound -/
theorem rg_inc {v y : Int32} {c : Nat} (E : T = sI S w c v) (hI : IV S) (er : fR S o 4 = some w) (ow : ob S w 10) (hy : fI S w c = y) (hv : v = y + 1) (hr : 0 ≤ y ∧ y < 1000)
    (hn : ∀ e ∈ wgT, e.1 = c → ∀ b, fR S w e.2.1 = some b → EG S w e (fI S b y.toNatClampNeg))
    (hs : ∀ (z : Int32), 0 ≤ z → z < fI T w 2 + fI T w 4 → z < fI S w 2 + fI S w 4 ∨ (∀ b d, fR S w 29 = some b → fR S w 30 = some d → 0 ≤ fI S d z.toNatClampNeg ∧ (fI S b z.toNatClampNeg = 0 → fI S d z.toNatClampNeg < fI T w 2) ∧ (fI S b z.toNatClampNeg = 1 → fI S d z.toNatClampNeg < fI T w 4))) (h : RG S o) : RG T o := by
  have hnw := rg_nw h er
  have hg := rg_wg h er
  subst E
  have hc : ∀ d, d ≠ c → fI (sI S w c v) w d = fI S w d := fun d hd => u2_ne _ _ (fun z => hd z.2)
  have hcc : fI (sI S w c v) w c = v := u2_self _ _ _ _
  have hmon : ∀ z : Int32, z < y → z < v := fun z hz => by rw [hv]; exact i32_up hr hz
  have hup : ∀ (d : Nat) (z : Int32), z < fI S w d → z < fI (sI S w c v) w d := fun d z hz => by
    by_cases e : d = c
    · rw [e, hcc]; rw [e, hy] at hz; exact hmon z hz
    · rw [hc d e]; exact hz
  have hp : ∀ e ∈ wgT, (10, e.2.1) ∈ prT := by decide
  have hb : ∀ i b, (10, i) ∈ prT → fR S w i = some b → fI (sI S w c v) b = fI S b := fun i b hp hb => u2_row _ _ (fun z => by
    obtain ⟨r, r1, r2, r3⟩ := pr_kind hI.1 ow hp hb
    have := ob_inj (z ▸ r1) ow; omega)
  have heg : ∀ e z, EG S w e z → EG (sI S w c v) w e z := fun e z g => ⟨g.1, g.2.1, g.2.2.elim Or.inl (fun g => Or.inr (hup _ _ g))⟩
  refine ⟨w, er, ow, hnw, fun e he z h0 hz b hb' => ?_, fun z h0 hz b d hb' hd => ?_⟩
  · rw [hb _ b (hp e he) hb']
    refine heg e _ ?_
    by_cases g : e.1 = c
    · rw [g, hcc, hv] at hz
      rcases i32_lt1 hr hz with g1 | g1
      · exact hg.1 e he z h0 (by rw [g, hy]; exact g1) b hb'
      · rw [g1]; exact hn e he g b hb'
    · rw [hc _ g] at hz
      exact hg.1 e he z h0 hz b hb'
  · rw [hb _ b (by decide) hb', hb _ d (by decide) hd]
    rcases hs z h0 hz with g | g
    · have g2 := hg.2 z h0 g b d hb' hd
      exact ⟨g2.1, fun t => hup _ _ (g2.2.1 t), fun t => hup _ _ (g2.2.2 t)⟩
    · exact g b d hb' hd
theorem hn_2 {y : Int32} : ∀ e ∈ wgT, e.1 = 2 → ∀ b, fR S w e.2.1 = some b → EG S w e (fI S b y.toNatClampNeg) := by
  intro e he h1
  have : ∀ e ∈ wgT, e.1 ≠ 2 := by decide
  exact absurd h1 (this e he)
theorem hn_3 {y : Int32} {b1 b2 b3 : Nat} (e1 : fR S w 13 = some b1) (g1 : EG S w (3, 13, 0, 7, 2) (fI S b1 y.toNatClampNeg)) (e2 : fR S w 14 = some b2) (g2 : EG S w (3, 14, 0, 7, 2) (fI S b2 y.toNatClampNeg)) (e3 : fR S w 16 = some b3) (g3 : EG S w (3, 16, 1, 60, 99) (fI S b3 y.toNatClampNeg)) : ∀ e ∈ wgT, e.1 = 3 → ∀ b, fR S w e.2.1 = some b → EG S w e (fI S b y.toNatClampNeg) := by
  intro e he h1 b hb
  have hm : e ∈ wgT.filter (fun e => e.1 == 3) := List.mem_filter.mpr ⟨he, by simp [h1]⟩
  rw [show wgT.filter (fun e => e.1 == 3) = [(3, 13, 0, 7, 2), (3, 14, 0, 7, 2), (3, 16, 1, 60, 99)] by decide] at hm
  simp only [List.mem_cons, List.not_mem_nil, or_false] at hm
  rcases hm with rfl | rfl | rfl
  · cases e1.symm.trans hb; exact g1
  · cases e2.symm.trans hb; exact g2
  · cases e3.symm.trans hb; exact g3
theorem hn_4 {y : Int32} {b1 b2 : Nat} (e1 : fR S w 24 = some b1) (g1 : EG S w (4, 24, 1, 9, 99) (fI S b1 y.toNatClampNeg)) (e2 : fR S w 25 = some b2) (g2 : EG S w (4, 25, 0, 9, 99) (fI S b2 y.toNatClampNeg)) : ∀ e ∈ wgT, e.1 = 4 → ∀ b, fR S w e.2.1 = some b → EG S w e (fI S b y.toNatClampNeg) := by
  intro e he h1 b hb
  have hm : e ∈ wgT.filter (fun e => e.1 == 4) := List.mem_filter.mpr ⟨he, by simp [h1]⟩
  rw [show wgT.filter (fun e => e.1 == 4) = [(4, 24, 1, 9, 99), (4, 25, 0, 9, 99)] by decide] at hm
  simp only [List.mem_cons, List.not_mem_nil, or_false] at hm
  rcases hm with rfl | rfl
  · cases e1.symm.trans hb; exact g1
  · cases e2.symm.trans hb; exact g2
theorem hn_5 {y : Int32} {b1 : Nat} (e1 : fR S w 26 = some b1) (g1 : EG S w (5, 26, 0, 3, 4) (fI S b1 y.toNatClampNeg)) : ∀ e ∈ wgT, e.1 = 5 → ∀ b, fR S w e.2.1 = some b → EG S w e (fI S b y.toNatClampNeg) := by
  intro e he h1 b hb
  have hm : e ∈ wgT.filter (fun e => e.1 == 5) := List.mem_filter.mpr ⟨he, by simp [h1]⟩
  rw [show wgT.filter (fun e => e.1 == 5) = [(5, 26, 0, 3, 4)] by decide] at hm
  cases List.mem_singleton.mp hm
  cases e1.symm.trans hb; exact g1
theorem hs_2 {v y k i9 i3 : Int32} {b9 b3 : Nat} (E : T = sI S w 2 v) (hy : fI S w 2 = y) (hk : fI S w 4 = k) (hv : v = y + 1) (hr : 0 ≤ y ∧ y < 1000) (hkr : 0 ≤ k ∧ k < 1000) (e9 : fR S w 29 = some b9) (e3 : fR S w 30 = some b3) (l9 : fI S b9 i9.toNatClampNeg = 0) (l3 : fI S b3 i3.toNatClampNeg = y) (h9 : i9 = y + k) (h3 : i3 = y + k) : ∀ (z : Int32), 0 ≤ z → z < fI T w 2 + fI T w 4 → z < fI S w 2 + fI S w 4 ∨ (∀ b d, fR S w 29 = some b → fR S w 30 = some d → 0 ≤ fI S d z.toNatClampNeg ∧ (fI S b z.toNatClampNeg = 0 → fI S d z.toNatClampNeg < fI T w 2) ∧ (fI S b z.toNatClampNeg = 1 → fI S d z.toNatClampNeg < fI T w 4)) := by
  intro z h0 hz
  subst E
  have t2 : fI (sI S w 2 v) w 2 = y + 1 := (u2_self _ _ _ _).trans hv
  have t4 : fI (sI S w 2 v) w 4 = k := (u2_ne _ _ (fun t => by omega)).trans hk
  rw [t2, t4] at hz ⊢
  rw [hy, hk]
  rcases i32_lt2 hr hkr hz with g | g
  · exact Or.inl g
  · refine Or.inr (fun b d hb hd => ?_)
    cases e9.symm.trans hb
    cases e3.symm.trans hd
    rw [show fI S b9 z.toNatClampNeg = 0 by rw [g, ← h9]; exact l9, show fI S b3 z.toNatClampNeg = y by rw [g, ← h3]; exact l3]
    exact ⟨hr.1, fun _ => i32_self hr, fun t => absurd t (by decide)⟩
theorem hs_4 {v y k i9 i3 : Int32} {b9 b3 : Nat} (E : T = sI S w 4 v) (hy : fI S w 4 = y) (hk : fI S w 2 = k) (hv : v = y + 1) (hr : 0 ≤ y ∧ y < 1000) (hkr : 0 ≤ k ∧ k < 1000) (e9 : fR S w 29 = some b9) (e3 : fR S w 30 = some b3) (l9 : fI S b9 i9.toNatClampNeg = 1) (l3 : fI S b3 i3.toNatClampNeg = y) (h9 : i9 = k + y) (h3 : i3 = k + y) : ∀ (z : Int32), 0 ≤ z → z < fI T w 2 + fI T w 4 → z < fI S w 2 + fI S w 4 ∨ (∀ b d, fR S w 29 = some b → fR S w 30 = some d → 0 ≤ fI S d z.toNatClampNeg ∧ (fI S b z.toNatClampNeg = 0 → fI S d z.toNatClampNeg < fI T w 2) ∧ (fI S b z.toNatClampNeg = 1 → fI S d z.toNatClampNeg < fI T w 4)) := by
  intro z h0 hz
  subst E
  have t4 : fI (sI S w 4 v) w 4 = y + 1 := (u2_self _ _ _ _).trans hv
  have t2 : fI (sI S w 4 v) w 2 = k := (u2_ne _ _ (fun t => by omega)).trans hk
  rw [t2, t4] at hz ⊢
  rw [hy, hk]
  have hz2 : z < y + 1 + k := by rw [Int32.add_comm]; exact hz
  rcases i32_lt2 hr hkr hz2 with g | g
  · exact Or.inl (by rw [Int32.add_comm]; exact g)
  · refine Or.inr (fun b d hb hd => ?_)
    cases e9.symm.trans hb
    cases e3.symm.trans hd
    have hc : y + k = k + y := Int32.add_comm y k
    rw [show fI S b9 z.toNatClampNeg = 1 by rw [g, hc, ← h9]; exact l9, show fI S b3 z.toNatClampNeg = y by rw [g, hc, ← h3]; exact l3]
    exact ⟨hr.1, fun t => absurd t (by decide), fun _ => i32_self hr⟩
/-- what known answers -/
theorem kn_ok {v y n r : Int32} {b9 b3 : Nat} (hG : RG S o) (hn : RN S o) (e : fR S o 4 = some w) (e9 : fR S w 29 = some b9) (e3 : fR S w 30 = some b3) (h0 : 0 ≤ y) (h1 : y < fI S w 6) (l9 : fI S b9 y.toNatClampNeg = v) (l3 : r = fI S b3 y.toNatClampNeg) : KR S o v r := by
  rw [hn w e] at h1
  have g := (rg_wg hG e).2 y h0 h1 b9 b3 e9 e3
  rw [l9] at g
  rw [← l3] at g
  exact Or.inr ⟨w, e, g⟩
theorem rn_J {v : Int64} (E : T = sJ S a j v) (h : RN S o) : RN T o := by rw [E]; exact h
theorem rn_11 {v : Int32} (E : T = sI S a j v) (hI : IV S) (oo : ob S o 11) (oa : ob S a k) (hk : k ≠ 10) (h : RN S o) : RN T o := by
  intro w e
  rw [E] at e ⊢
  have ow := ml_ob4 hI oo e
  rw [show fI (sI S a j v) w = fI S w from u2_row _ _ (fun z => hk (ob_inj (z ▸ oa) ow))]
  exact h w e
theorem rn_c {v : Int32} (E : T = sI S a j v) (hj : j ≠ 2 ∧ j ≠ 4 ∧ j ≠ 6) (h : RN S o) : RN T o := by
  intro w e
  rw [E] at e ⊢
  rw [show fI (sI S a j v) w 6 = fI S w 6 from u2_ne _ _ (fun z => by omega), show fI (sI S a j v) w 2 = fI S w 2 from u2_ne _ _ (fun z => by omega), show fI (sI S a j v) w 4 = fI S w 4 from u2_ne _ _ (fun z => by omega)]
  exact h w e
theorem rn_fr {wi wr : List (Nat × Nat)} (fc : FRI wi wr S T) (g : Gr S T) (hI : IV S) (oo : ob S o 11) (hn : (11, 4) ∉ wr ∧ (10, 2) ∉ wi ∧ (10, 4) ∉ wi ∧ (10, 6) ∉ wi) (h : RN S o) : RN T o := by
  intro w e
  rw [frr_at fc (by decide) hn.1 oo] at e
  have ow := ml_ob4 hI oo e
  rw [fri_at fc (by decide) hn.2.1 ow, fri_at fc (by decide) hn.2.2.1 ow, fri_at fc (by decide) hn.2.2.2 ow]
  exact h w e
/-- the day itself and all rows of ints are as they were -/
def KP (S T : HS) (o : Nat) : Prop := (∀ b q, ob T b q → 12 ≤ q → fI T b = fI S b) ∧ ∀ b, fR T o 21 = some b → fJ T b = fJ S b
theorem kp_rf (S : HS) (o : Nat) : KP S S o := ⟨fun _ _ _ _ => rfl, fun _ _ => rfl⟩
theorem kp_I {S0 : HS} {v : Int32} (E : T = sI S a j v) (oa : ob S a k) (hk : k < 12) (h : KP S0 S o) : KP S0 T o := by
  rw [E]
  refine ⟨fun b q p hq => ?_, h.2⟩
  have p' : ob S b q := p
  rw [show fI (sI S a j v) b = fI S b from u2_row _ _ (fun z => by have e := ob_inj (show ob S b k by rw [z]; exact oa) p'; omega)]
  exact h.1 b q p' hq
theorem kp_J {S0 : HS} {v : Int64} (E : T = sJ S a j v) (hI : IV S) (oo : ob S o 11) (e : fR S o 22 = some a) (h : KP S0 S o) : KP S0 T o := by
  rw [E]
  refine ⟨h.1, fun c hc => ?_⟩
  have hc' : fR S o 21 = some c := hc
  rw [show fJ (sJ S a j v) c = fJ S c from u2_row _ _ (fun z => by
    have := (hI.2.2.2.2.1 o 11 22 o 11 21 a oo (by omega) oo (by decide) e (z ▸ hc')).2
    omega)]
  exact h.2 c hc'
/-- the minute, so many minutes more, stays below the last -/
def SJ (S : HS) (o : Nat) (n k : Int32) : Prop := ∀ b, fR S o 21 = some b → (fJ S b (1 : Int32).toNatClampNeg).toInt + n.toInt - k.toInt ≤ 999
theorem sj_I {v n k' : Int32} (E : T = sI S a j v) (h : SJ S o n k') : SJ T o n k' := by rw [E]; exact h
theorem sj_2 {v : Int64} {n k' : Int32} (E : T = sJ S a (2 : Int32).toNatClampNeg v) (h : SJ S o n k') : SJ T o n k' := by
  rw [E]
  intro c hc
  rw [show fJ (sJ S a (2 : Int32).toNatClampNeg v) c (1 : Int32).toNatClampNeg = fJ S c (1 : Int32).toNatClampNeg from u2_ne _ _ (fun z => absurd z.2 (by decide))]
  exact h c hc
theorem sj_1 {v x' : Int64} {n k' k2 : Int32} (E : T = sJ S a (1 : Int32).toNatClampNeg v) (e : fR S o 21 = some a) (ex : x' = fJ S a (1 : Int32).toNatClampNeg) (hv : v = x' + 1) (hx : 0 ≤ x' ∧ x' ≤ 999) (hk : 0 ≤ k' ∧ k' < 1000) (hk2 : k2 = k' + 1) (h : SJ S o n k') : SJ T o n k2 := by
  have h1 := h a e
  rw [← ex] at h1
  have a0 := Int64.le_iff_toInt_le.mp hx.1
  have a1 := Int64.le_iff_toInt_le.mp hx.2
  have z0 : (0 : Int64).toInt = 0 := by decide
  have z1 : (999 : Int64).toInt = 999 := by decide
  have z2 : (1 : Int64).toInt = 1 := by decide
  rw [z0] at a0
  rw [z1] at a1
  have d : v.toInt = x'.toInt + 1 := by
    rw [hv, Int64.toInt_add, z2]
    exact Int.bmod_eq_of_le (by omega) (by omega)
  have b0 : 0 ≤ k'.toInt := by simpa using Int32.le_iff_toInt_le.mp hk.1
  have b1 : k'.toInt < 1000 := by simpa using Int32.lt_iff_toInt_lt.mp hk.2
  have d2 : k2.toInt = k'.toInt + 1 := by
    rw [hk2, Int32.toInt_add]
    exact Int.bmod_eq_of_le (by simp; omega) (by simp; omega)
  rw [E]
  intro c hc
  have hc' : fR S o 21 = some c := hc
  cases e.symm.trans hc'
  rw [show fJ (sJ S a (1 : Int32).toNatClampNeg v) a (1 : Int32).toNatClampNeg = v from u2_self _ _ _ _, d, d2]
  omega
theorem sj_de {x' v : Int64} {n k' : Int32} (h : SJ S o n k') (e : fR S o 21 = some a) (ex : x' = fJ S a (1 : Int32).toNatClampNeg) (hv : v = x' + 1) (hx : 0 ≤ x' ∧ x' ≤ 999) (hk : k' < n) : de1 (1 : Int32).toNatClampNeg v := by
  have h1 := h a e
  rw [← ex] at h1
  have a0 := Int64.le_iff_toInt_le.mp hx.1
  have a1 := Int64.le_iff_toInt_le.mp hx.2
  have z0 : (0 : Int64).toInt = 0 := by decide
  have z1 : (999 : Int64).toInt = 999 := by decide
  have z2 : (1 : Int64).toInt = 1 := by decide
  rw [z0] at a0
  rw [z1] at a1
  have b := Int32.lt_iff_toInt_lt.mp hk
  have d : v.toInt = x'.toInt + 1 := by
    rw [hv, Int64.toInt_add, z2]
    exact Int.bmod_eq_of_le (by omega) (by omega)
  exact de_1 ⟨Int64.le_iff_toInt_le.mpr (by rw [z0, d]; omega), Int64.le_iff_toInt_le.mpr (by rw [z1, d]; omega)⟩
theorem sj_init {S0 : HS} {x' : Int64} {n : Int32} (ex : x' = fJ S0 a (1 : Int32).toNatClampNeg) (kp : KP S0 S o) (e : fR S o 21 = some a) (hx : 0 ≤ x' ∧ x' ≤ 999) (hn : 1 ≤ n ∧ n ≤ 60) (hc : x' + n.toInt64 ≤ 999) : SJ S o n 0 := by
  intro c hc'
  cases e.symm.trans hc'
  rw [kp.2 a e, ← ex]
  have a0 := Int64.le_iff_toInt_le.mp hx.1
  have a1 := Int64.le_iff_toInt_le.mp hx.2
  have z0 : (0 : Int64).toInt = 0 := by decide
  have z1 : (999 : Int64).toInt = 999 := by decide
  rw [z0] at a0
  rw [z1] at a1
  have b0 := Int32.le_iff_toInt_le.mp hn.1
  have b1 := Int32.le_iff_toInt_le.mp hn.2
  have y1 : (1 : Int32).toInt = 1 := by decide
  have y2 : (60 : Int32).toInt = 60 := by decide
  have y0 : (0 : Int32).toInt = 0 := by decide
  rw [y1] at b0
  rw [y2] at b1
  have g := Int64.le_iff_toInt_le.mp hc
  rw [z1, Int64.toInt_add, Int32.toInt_toInt64, Int.bmod_eq_of_le (by omega) (by omega)] at g
  rw [y0]
  omega
theorem el_J {v : Int64} {z : Int32} (E : T = sJ S a j v) (h : fI S b i = z) : fI T b i = z := by rw [E]; exact h
theorem el_ob {v z : Int32} (E : T = sI S a j v) (oa : ob S a k) (p : ob S b q) (hk : k ≠ q) (h : fI S b i = z) : fI T b i = z := by rw [E, sI_ne oa p hk]; exact h
theorem el_ar {v z : Int32} (E : T = sI S a j v) (hne : b ≠ a) (h : fI S b i = z) : fI T b i = z := by rw [E, show fI (sI S a j v) b = fI S b from u2_row _ _ hne]; exact h
theorem ow_ne {k' j' a' b2 : Nat} (hI : IV S) (o1 : ob S a k) (hk : k < 12) (o2 : ob S a' k') (hp : (k', j') ∈ prT) (e1 : fR S a j = some b) (e2 : fR S a' j' = some b2) (hj : j ≠ j') : b2 ≠ b := fun z => hj (hI.2.2.2.2.1 a k j a' k' j' b o1 hk o2 hp e1 (z ▸ e2)).2
end Rd
theorem lc_eq {x : Int64} (h : lg_cmp x 0 = 0) : x = 0 := by
  unfold lg_cmp at h
  by_cases c : x > 0
  · rw [if_pos c] at h; exact absurd h (by decide)
  · rw [if_neg c] at h
    by_cases d : x = 0
    · exact d
    · rw [if_neg d] at h; exact absurd h (by decide)
theorem rem_abs {a b : Int64} (h : ¬ b = 0) : (a - a / b * b).toInt.natAbs < b.toInt.natAbs := by
  have hb : b.toInt ≠ 0 := fun z => h (Int64.toInt_inj.mp (by simpa using z))
  have h1 : (a.toInt.tmod b.toInt).natAbs < b.toInt.natAbs := by
    rw [Int.natAbs_tmod]
    exact Nat.mod_lt _ (by omega)
  have l1 := b.le_toInt
  have l2 := b.toInt_lt
  have e : (a - a / b * b).toInt = a.toInt.tmod b.toInt := by
    rw [Int64.toInt_sub, Int64.toInt_mul, Int64.toInt_div, Int.bmod_mul_bmod, Int.sub_bmod_bmod, Int.mul_comm, ← Int.tmod_def]
    exact Int.bmod_eq_of_le (by omega) (by omega)
  rw [e]
  exact h1
theorem dv1 {a c : Int32} (hc : 0 < c) (h : c ≤ a) : 1 ≤ a / c := by
  have c0 : 0 < c.toInt := by simpa using Int32.lt_iff_toInt_lt.mp hc
  have h1 := Int32.le_iff_toInt_le.mp h
  have a0 : 0 ≤ a.toInt := by omega
  have e : (a / c).toInt = a.toInt / c.toInt := by
    rw [Int32.toInt_div, Int.tdiv_eq_ediv_of_nonneg a0]
    refine Int.bmod_eq_of_le ?_ ?_
    · have := Int.ediv_nonneg a0 (Int.le_of_lt c0); omega
    · have := Int.ediv_le_self c.toInt a0; have := a.toInt_lt; omega
  refine Int32.le_iff_toInt_le.mpr ?_
  rw [e]
  have := Int.le_ediv_of_mul_le c0 (show 1 * c.toInt ≤ a.toInt by omega)
  simpa using this
theorem i32pos {c : Int32} (h : 1 ≤ c) : 0 < c.toInt := by
  have := Int32.le_iff_toInt_le.mp h
  have e : (1 : Int32).toInt = 1 := by decide
  omega
theorem i2l_rng {a lo hi : Int32} (h : lo ≤ a ∧ a ≤ hi) : lo.toInt64 ≤ a.toInt64 ∧ a.toInt64 ≤ hi.toInt64 := by
  refine ⟨Int64.le_iff_toInt_le.mpr ?_, Int64.le_iff_toInt_le.mpr ?_⟩
  · rw [Int32.toInt_toInt64, Int32.toInt_toInt64]; exact Int32.le_iff_toInt_le.mp h.1
  · rw [Int32.toInt_toInt64, Int32.toInt_toInt64]; exact Int32.le_iff_toInt_le.mp h.2
theorem md_add {k x : Int32} (h : x = k + 7) (h0 : 0 ≤ k ∧ k < 1000) : k.toNatClampNeg % 7 = x.toNatClampNeg % 7 := by
  have a : 0 ≤ k.toInt := by simpa using Int32.le_iff_toInt_le.mp h0.1
  have b : k.toInt < 1000 := by simpa using Int32.lt_iff_toInt_lt.mp h0.2
  have d : x.toInt = k.toInt + 7 := by
    rw [h, Int32.toInt_add]
    exact Int.bmod_eq_of_le (by simp; omega) (by simp; omega)
  show k.toInt.toNat % 7 = x.toInt.toNat % 7
  omega
theorem md_mul {a k x : Int32} (h : x = 7 * a + k) (ha : 0 ≤ a ∧ a < 100) (hk : 0 ≤ k ∧ k < 1000) : x.toNatClampNeg % 7 = k.toNatClampNeg % 7 := by
  have a0 : 0 ≤ a.toInt := by simpa using Int32.le_iff_toInt_le.mp ha.1
  have a1 : a.toInt < 100 := by simpa using Int32.lt_iff_toInt_lt.mp ha.2
  have k0 : 0 ≤ k.toInt := by simpa using Int32.le_iff_toInt_le.mp hk.1
  have k1 : k.toInt < 1000 := by simpa using Int32.lt_iff_toInt_lt.mp hk.2
  have m : (7 * a : Int32).toInt = 7 * a.toInt := by
    rw [Int32.toInt_mul]
    exact Int.bmod_eq_of_le (by simp; omega) (by simp; omega)
  have d : x.toInt = 7 * a.toInt + k.toInt := by
    rw [h, Int32.toInt_add, m]
    exact Int.bmod_eq_of_le (by omega) (by omega)
  show x.toInt.toNat % 7 = k.toInt.toNat % 7
  omega
theorem l2i_rng {t m : Int64} {n : Int32} (e : m.toInt = n.toInt) (h : 0 ≤ t ∧ t ≤ m) : 0 ≤ t.toInt32 ∧ t.toInt32 ≤ n := by
  have a := Int64.le_iff_toInt_le.mp h.1
  have b := Int64.le_iff_toInt_le.mp h.2
  have z : (0 : Int64).toInt = 0 := by decide
  have z2 : (0 : Int32).toInt = 0 := by decide
  rw [z] at a
  rw [e] at b
  have l := n.toInt_lt
  have d : t.toInt32.toInt = t.toInt := by
    rw [Int64.toInt_toInt32]
    exact Int.bmod_eq_of_le (by omega) (by omega)
  exact ⟨Int32.le_iff_toInt_le.mpr (by rw [d, z2]; exact a), Int32.le_iff_toInt_le.mpr (by rw [d]; exact b)⟩
theorem mu_ra {s s' m m' : Int32} (h1 : s ≤ s') (h2 : s' ≤ 900) (h : m = 1) (hc : m' = 0 ∨ (m' = 1 ∧ s < s')) : (2 * (901 - s'.toInt) + m'.toInt).toNat < (2 * (901 - s.toInt) + m.toInt).toNat := by
  have a := Int32.le_iff_toInt_le.mp h1
  have b := Int32.le_iff_toInt_le.mp h2
  have z : (900 : Int32).toInt = 900 := by decide
  have z0 : (0 : Int32).toInt = 0 := by decide
  have z1 : (1 : Int32).toInt = 1 := by decide
  rw [z] at b
  subst h
  rcases hc with rfl | ⟨rfl, c⟩
  · rw [z0, z1]; omega
  · have d := Int32.lt_iff_toInt_lt.mp c
    rw [z1]; omega
/-- what readAll leaves -/
def RA (S : HS) (o : Nat) : Prop := 0 < fI S o 13 ∨ ∀ w, fR S o 4 = some w → 1 ≤ fI S w 0
theorem ra_l {S : HS} {o : Nat} {x : Int32} (d : x = fI S o 13) (h : 0 < x) : RA S o := Or.inl (by rw [← d]; exact h)
theorem ra_r {S : HS} {o w : Nat} {x : Int32} (e : fR S o 4 = some w) (d : x = fI S w 0) (h : 1 ≤ x) : RA S o := Or.inr (fun z hz => by obtain rfl : w = z := Option.some.inj (e.symm.trans hz); rw [← d]; exact h)
theorem rg_new {S T : HS} {o a : Nat} (E : T = sR S o 4 (some a)) (oo : ob S o 11) (oa : ob S a 10) (hnw : NW S a) (hg : WG S a) : RG T o := by
  rw [E]
  refine ⟨a, u2_self _ _ _ _, oa, fun y oy => ?_, wg_same (S := S) ⟨rfl, u2_row _ _ (fun z => ?_), fun _ _ _ _ => rfl⟩ hg⟩
  · have oy' : ob S y 11 := oy
    rw [show fR (sR S o 4 (some a)) y 3 = fR S y 3 from u2_ne _ _ (fun z => by omega)]
    exact hnw y oy'
  · have e := ob_inj (show ob S a 11 by rw [z]; exact oo) oa
    omega
theorem rn_new {S T : HS} {o a : Nat} (E : T = sR S o 4 (some a)) (hz : ∀ j, fI S a j = 0) : RN T o := by
  rw [E]
  intro w e
  obtain rfl : a = w := Option.some.inj ((show fR (sR S o 4 (some a)) o 4 = some a from u2_self _ _ _ _).symm.trans e)
  show fI S a 6 = fI S a 2 + fI S a 4
  rw [hz 6, hz 2, hz 4]
  decide
end
