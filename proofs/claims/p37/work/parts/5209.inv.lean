set_option maxHeartbeats 4000000 in
set_option maxRecDepth 20000 in
theorem m_X8_hourOf {v0 : Nat} {v1 : Int32} {Q : Int32 → HS → Prop} {S : HS} (hI : IV S) (o_v0 : ob S v0 8)     (hq : ∀ (r : Int32) (T : HS), IV T → Gr S T → (S = T) → Q r T) : P_X8_hourOf v0 v1 Q S := by
  have g0 := gr_rf S
  refine u_X8_hourOf ?_
  refine u_X8_hourOf_0 ?_
  refine ⟨o_v0, ?_⟩
  intro x1 ex1
  have r_x1 : (0 : Int32) ≤ x1 ∧ x1 ≤ (60 : Int32) := by rw [ex1]; exact nu 10 rfl hI o_v0
  have d_x1 := ex1
  refine ⟨fun c2 => ?_, fun c2 => ?_⟩
  · exact hq _ _ hI g0 rfl
  · intro x3 ex3
    have r_x3 : (0 : Int32) ≤ x3 ∧ x3 ≤ (60 : Int32) := by rw [ex3]; exact nu 10 rfl hI o_v0
    have q_x3 : x3 = x1 := ex3.trans d_x1.symm
    have d_x3 := ex3
    refine ⟨(q848 r_x1 c2 r_x3 q_x3), ?_⟩
    intro x4 ex4
    exact hq _ _ hI g0 rfl
set_option maxHeartbeats 4000000 in
set_option maxRecDepth 20000 in
theorem m_X7_reckon {v0 : Nat} {v1 : Nat} {v2 : Nat} {v3 : Int32} {v4 : Int32} {v5 : Int32} {v6 : Int32} {Q : HS → Prop} {S : HS} (hI : IV S) (o_v0 : ob S v0 7) (o_v1 : ob S v1 8) (o_v2 : ob S v2 1)   (h5 : 0 ≤ v5 ∧ v5 ≤ 400)  (hq : ∀ (T : HS), IV T → Gr S T → FRI [(7, 3), (7, 9), (7, 10), (7, 11), (7, 12), (7, 13)] [(7, 0), (7, 1), (7, 2), (7, 4), (7, 5), (7, 6), (7, 7), (7, 8)] S T → Q T) : P_X7_reckon v0 v1 v2 v3 v4 v5 v6 Q S := by
  have g0 := gr_rf S
  have f0 := fri_rf [(7, 3), (7, 9), (7, 10), (7, 11), (7, 12), (7, 13)] [(7, 0), (7, 1), (7, 2), (7, 4), (7, 5), (7, 6), (7, 7), (7, 8)] S
  refine u_X7_reckon ?_
  refine u_X7_reckon_0 ?_
  refine ⟨o_v0, ?_⟩
  obtain ⟨a1, ea1, o_a1, -⟩ := sh 22 rfl hI o_v0
  have hl_a1 := wyl hI o_v0 1 rfl (by decide) ea1
  refine ⟨a1, ea1, ?_⟩
  refine ⟨o_a1, ?_⟩
  refine ⟨fun c2 => ?_, fun c2 => ?_⟩
  · have hM := wm_of hI o_v0 ea1 c2
    refine u_X7_reckon_12 ?_
    refine ⟨o_v0, ?_⟩
    intro x3 ex3
    have d_x3 := ex3
    refine ⟨fun c4 => ?_, fun c4 => ?_⟩
    · refine u_X7_reckon_38 ?_
      refine ⟨o_v0, ?_⟩
      intro S5 eS5
      have hI : IV S5 := by rw [eS5]; exact iv_sI hI o_v0 (by decide) (nu_free (by decide))
      have f0 := fr_I eS5 g0 f0 o_v0 (by decide)
      have d_v3 := rd_Is eS5 (rfl : v3 = v3)
      have ea1 := rf_I eS5 ea1
      have hM := wm_I eS5 hM
      have hl_a1 := hl_I eS5 hl_a1
      have g0 := gr_I eS5 g0
      have o_a1 := ob_I eS5 o_a1
      have o_v0 := ob_I eS5 o_v0
      have o_v1 := ob_I eS5 o_v1
      have o_v2 := ob_I eS5 o_v2
      intro S6 eS6
      have hI : IV S6 := by rw [eS6]; exact iv_sI hI o_v0 (by decide) (nu_free (by decide))
      have f0 := fr_I eS6 g0 f0 o_v0 (by decide)
      have d_v3 := rd_Ij eS6 (by decide) d_v3
      have d_v4 := rd_Is eS6 (rfl : v4 = v4)
      have ea1 := rf_I eS6 ea1
      have hM := wm_I eS6 hM
      have hl_a1 := hl_I eS6 hl_a1
      have g0 := gr_I eS6 g0
      have o_a1 := ob_I eS6 o_a1
      have o_v0 := ob_I eS6 o_v0
      have o_v1 := ob_I eS6 o_v1
      have o_v2 := ob_I eS6 o_v2
      intro S7 eS7
      have hI : IV S7 := by rw [eS7]; exact iv_sI hI o_v0 (by decide) (nu_free (by decide))
      have f0 := fr_I eS7 g0 f0 o_v0 (by decide)
      have d_v3 := rd_Ij eS7 (by decide) d_v3
      have d_v4 := rd_Ij eS7 (by decide) d_v4
      have d_v5 := rd_Is eS7 (rfl : v5 = v5)
      have ea1 := rf_I eS7 ea1
      have hM := wm_I eS7 hM
      have hl_a1 := hl_I eS7 hl_a1
      have g0 := gr_I eS7 g0
      have o_a1 := ob_I eS7 o_a1
      have o_v0 := ob_I eS7 o_v0
      have o_v1 := ob_I eS7 o_v1
      have o_v2 := ob_I eS7 o_v2
      intro x8 ex8
      intro S9 eS9
      have hI : IV S9 := by rw [eS9]; exact iv_sI hI o_v0 (by decide) (nu_one (lo := (0 : Int32)) (hi := (401 : Int32)) (by decide) (q754 h5 c2 c4 ex8))
      have f0 := fr_I eS9 g0 f0 o_v0 (by decide)
      have d_v3 := rd_Ij eS9 (by decide) d_v3
      have d_v4 := rd_Ij eS9 (by decide) d_v4
      have d_v5 := rd_Ij eS9 (by decide) d_v5
      have d_x8 := rd_Is eS9 (rfl : x8 = x8)
      have ea1 := rf_I eS9 ea1
      have hM := wm_I eS9 hM
      have hl_a1 := hl_I eS9 hl_a1
      have g0 := gr_I eS9 g0
      have o_a1 := ob_I eS9 o_a1
      have o_v0 := ob_I eS9 o_v0
      have o_v1 := ob_I eS9 o_v1
      have o_v2 := ob_I eS9 o_v2
      intro S10 eS10
      have hI : IV S10 := by rw [eS10]; exact iv_sI hI o_v0 (by decide) (nu_free (by decide))
      have f0 := fr_I eS10 g0 f0 o_v0 (by decide)
      have d_v3 := rd_Ij eS10 (by decide) d_v3
      have d_v4 := rd_Ij eS10 (by decide) d_v4
      have d_v5 := rd_Ij eS10 (by decide) d_v5
      have d_x8 := rd_Ij eS10 (by decide) d_x8
      obtain ⟨y11, hy11⟩ : ∃ z : Int32, z = (-1 : Int32) := ⟨_, rfl⟩
      have d_y11 := rd_Is eS10 hy11
      have ea1 := rf_I eS10 ea1
      have hM := wm_I eS10 hM
      have hl_a1 := hl_I eS10 hl_a1
      have g0 := gr_I eS10 g0
      have o_a1 := ob_I eS10 o_a1
      have o_v0 := ob_I eS10 o_v0
      have o_v1 := ob_I eS10 o_v1
      have o_v2 := ob_I eS10 o_v2
      refine u_X7_reckon_68 ?_
      refine ⟨o_v0, ?_⟩
      intro x12 ex12
      have r_x12 : (0 : Int32) ≤ x12 ∧ x12 ≤ (401 : Int32) := by rw [ex12]; exact nu 9 rfl hI o_v0
      have q_x12 : x12 = x8 := ex12.trans d_x8.symm
      have d_x12 := ex12
      intro x13 ex13
      refine i_X7_reckon_76 (fun (y0 : Nat) (y1 : Nat) (y2 : Nat) (y6 : Int32) (y7 : Int32) (Z : HS) => (y7.toInt - (-1 : Int32).toInt).toNat) (fun (y0 : Nat) (y1 : Nat) (y2 : Nat) (y6 : Int32) (y7 : Int32) (Z : HS) => (IV Z) ∧ (Gr S10 Z) ∧ (FRI [(7, 3), (7, 9), (7, 13)] [] S10 Z) ∧ (v0 = y0) ∧ (v1 = y1) ∧ (v2 = y2) ∧ (v6 = y6) ∧ (WM Z v0) ∧ (y7 ≤ 400)) ?_ _ _ _ _ _ _ ⟨hI, (gr_rf _), (fri_rf _ _ _), rfl, rfl, rfl, rfl, hM, (q755 h5 c2 c4 ex8 r_x12 q_x12 ex13)⟩
      intro w18 w20 w22 w24 w26 S15 X27 ⟨hI, gL16, fL17, q19, q21, q23, q25, hM, i1u14⟩ ih28
      subst q19
      subst q21
      subst q23
      subst q25
      have d_v3 := d_v3.trans (fri_at fL17 (by decide) (by decide) o_v0).symm
      have d_v4 := d_v4.trans (fri_at fL17 (by decide) (by decide) o_v0).symm
      have d_v5 := d_v5.trans (fri_at fL17 (by decide) (by decide) o_v0).symm
      have ea1 := (frr_at fL17 (by decide) (by decide) o_v0).trans ea1
      have f0 := fri_tr (S := S10) g0 f0 fL17 (by decide) (by decide)
      have hl_a1 := hl_g gL16 o_a1 hl_a1
      have o_a1 := gr_ob gL16 o_a1
      have o_v0 := gr_ob gL16 o_v0
      have o_v1 := gr_ob gL16 o_v1
      have o_v2 := gr_ob gL16 o_v2
      have g0 := gr_tr (T := S10) g0 gL16
      refine u_X7_reckon_76 ?_
      refine ⟨fun c29 => ?_, fun c29 => ?_⟩
      · exact hq _ hI g0 f0
      · refine ⟨fun c30 => ?_, fun c30 => ?_⟩
        · exact hq _ hI g0 f0
        · refine ⟨o_v1, ?_⟩
          refine m_X8_hourOf hI o_v1 (fun x31 S32 hI2 g33 p_x31 => ?_)
          subst p_x31
          intro _
          intro x35 ex35
          have r_x35 : (0 : Int32) ≤ x35 ∧ x35 ≤ (6 : Int32) := by rw [ex35]; exact nu 11 rfl hI o_v1
          have d_x35 := ex35
          intro x36 ex36
          refine ⟨o_v0, ?_⟩
          intro x37 ex37
          have d_x37 := ex37
          refine ⟨fun c38 => ?_, fun c38 => ?_⟩
          · refine u_X7_reckon_120 ?_
            refine ⟨o_v1, ?_⟩
            intro x39 ex39
            have r_x39 : (0 : Int32) ≤ x39 ∧ x39 ≤ (8 : Int32) := by rw [ex39]; exact nu 12 rfl hI o_v1
            have d_x39 := ex39
            refine ⟨o_v0, ?_⟩
            refine m_X7_reckonMinute hI o_v0 (q756 c2 c4 i1u14 c29 c30 r_x35 ex36 c38) hM (fun S41 hJ g42 fc43 p_S41 => ?_)
            have hM := p_S41
            have hI := hJ
            have d_v3 := d_v3.trans (fri_at fc43 (by decide) (by decide) o_v0).symm
            have d_v4 := d_v4.trans (fri_at fc43 (by decide) (by decide) o_v0).symm
            have d_v5 := d_v5.trans (fri_at fc43 (by decide) (by decide) o_v0).symm
            have d_x35 := d_x35.trans (fri_at fc43 (by decide) (by decide) o_v1).symm
            have d_x37 := d_x37.trans (fri_at fc43 (by decide) (by decide) o_v0).symm
            have d_x39 := d_x39.trans (fri_at fc43 (by decide) (by decide) o_v1).symm
            have ea1 := (frr_at fc43 (by decide) (by decide) o_v0).trans ea1
            have f0 := fri_tr (S := S15) g0 f0 fc43 (by decide) (by decide)
            have fL17 := fri_tr (S := S15) gL16 fL17 fc43 (by decide) (by decide)
            have hl_a1 := hl_g g42 o_a1 hl_a1
            have o_a1 := gr_ob g42 o_a1
            have o_v0 := gr_ob g42 o_v0
            have o_v1 := gr_ob g42 o_v1
            have o_v2 := gr_ob g42 o_v2
            have g0 := gr_tr (T := S15) g0 g42
            have gL16 := gr_tr (T := S15) gL16 g42
            intro _
            intro S44 eS44
            have hI : IV S44 := by rw [eS44]; exact iv_sI hI o_v0 (by decide) (nu_one (lo := (0 : Int32)) (hi := (401 : Int32)) (by decide) (q757 c2 c4 i1u14 c29 c30 r_x35 ex36 c38))
            have f0 := fr_I eS44 g0 f0 o_v0 (by decide)
            have fL17 := fr_I eS44 gL16 fL17 o_v0 (by decide)
            have d_v3 := rd_Ij eS44 (by decide) d_v3
            have d_v4 := rd_Ij eS44 (by decide) d_v4
            have d_v5 := rd_Ij eS44 (by decide) d_v5
            have d_x35 := rd_Ik eS44 o_v0 o_v1 (by decide) d_x35
            have d_x37 := rd_Ij eS44 (by decide) d_x37
            have d_x39 := rd_Ik eS44 o_v0 o_v1 (by decide) d_x39
            have d_w26 := rd_Is eS44 (rfl : w26 = w26)
            have ea1 := rf_I eS44 ea1
            have hM := wm_I eS44 hM
            have hl_a1 := hl_I eS44 hl_a1
            have g0 := gr_I eS44 g0
            have gL16 := gr_I eS44 gL16
            have o_a1 := ob_I eS44 o_a1
            have o_v0 := ob_I eS44 o_v0
            have o_v1 := ob_I eS44 o_v1
            have o_v2 := ob_I eS44 o_v2
            intro x45 ex45
            exact ih28 _ _ _ _ _ _ ⟨hI, gL16, fL17, rfl, rfl, rfl, rfl, hM, (q758 c2 c4 i1u14 c29 c30 r_x35 ex36 c38 ex45)⟩ (mu_down (q759 c2 c4 i1u14 c29 c30 r_x35 ex36 c38 ex45) (q760 c2 c4 i1u14 c29 c30 r_x35 ex36 c38 ex45))
          · refine m_X7_price hI o_v0 o_v1 o_v2 hM (fun S47 hJ g48 fc49 p_S47 => ?_)
            have hM := p_S47
            have hI := hJ
            have d_v3 := d_v3.trans (fri_at fc49 (by decide) (by decide) o_v0).symm
            have d_v4 := d_v4.trans (fri_at fc49 (by decide) (by decide) o_v0).symm
            have d_v5 := d_v5.trans (fri_at fc49 (by decide) (by decide) o_v0).symm
            have d_x35 := d_x35.trans (fri_at fc49 (by decide) (by decide) o_v1).symm
            have ea1 := (frr_at fc49 (by decide) (by decide) o_v0).trans ea1
            have f0 := fri_tr (S := S15) g0 f0 fc49 (by decide) (by decide)
            have fL17 := fri_tr (S := S15) gL16 fL17 fc49 (by decide) (by decide)
            have hl_a1 := hl_g g48 o_a1 hl_a1
            have o_a1 := gr_ob g48 o_a1
            have o_v0 := gr_ob g48 o_v0
            have o_v1 := gr_ob g48 o_v1
            have o_v2 := gr_ob g48 o_v2
            have g0 := gr_tr (T := S15) g0 g48
            have gL16 := gr_tr (T := S15) gL16 g48
            intro _
            refine u_X7_reckon_120 ?_
            refine ⟨o_v1, ?_⟩
            intro x50 ex50
            have r_x50 : (0 : Int32) ≤ x50 ∧ x50 ≤ (8 : Int32) := by rw [ex50]; exact nu 12 rfl hI o_v1
            have d_x50 := ex50
            refine ⟨o_v0, ?_⟩
            refine m_X7_reckonMinute hI o_v0 (q761 c2 c4 i1u14 c29 c30 r_x35 ex36 c38) hM (fun S52 hJ g53 fc54 p_S52 => ?_)
            have hM := p_S52
            have hI := hJ
            have d_v3 := d_v3.trans (fri_at fc54 (by decide) (by decide) o_v0).symm
            have d_v4 := d_v4.trans (fri_at fc54 (by decide) (by decide) o_v0).symm
            have d_v5 := d_v5.trans (fri_at fc54 (by decide) (by decide) o_v0).symm
            have d_x35 := d_x35.trans (fri_at fc54 (by decide) (by decide) o_v1).symm
            have d_x50 := d_x50.trans (fri_at fc54 (by decide) (by decide) o_v1).symm
            have ea1 := (frr_at fc54 (by decide) (by decide) o_v0).trans ea1
            have f0 := fri_tr (S := S47) g0 f0 fc54 (by decide) (by decide)
            have fL17 := fri_tr (S := S47) gL16 fL17 fc54 (by decide) (by decide)
            have hl_a1 := hl_g g53 o_a1 hl_a1
            have o_a1 := gr_ob g53 o_a1
            have o_v0 := gr_ob g53 o_v0
            have o_v1 := gr_ob g53 o_v1
            have o_v2 := gr_ob g53 o_v2
            have g0 := gr_tr (T := S47) g0 g53
            have gL16 := gr_tr (T := S47) gL16 g53
            intro _
            intro S55 eS55
            have hI : IV S55 := by rw [eS55]; exact iv_sI hI o_v0 (by decide) (nu_one (lo := (0 : Int32)) (hi := (401 : Int32)) (by decide) (q762 c2 c4 i1u14 c29 c30 r_x35 ex36 c38))
            have f0 := fr_I eS55 g0 f0 o_v0 (by decide)
            have fL17 := fr_I eS55 gL16 fL17 o_v0 (by decide)
            have d_v3 := rd_Ij eS55 (by decide) d_v3
            have d_v4 := rd_Ij eS55 (by decide) d_v4
            have d_v5 := rd_Ij eS55 (by decide) d_v5
            have d_x35 := rd_Ik eS55 o_v0 o_v1 (by decide) d_x35
            have d_x50 := rd_Ik eS55 o_v0 o_v1 (by decide) d_x50
            have d_w26 := rd_Is eS55 (rfl : w26 = w26)
            have ea1 := rf_I eS55 ea1
            have hM := wm_I eS55 hM
            have hl_a1 := hl_I eS55 hl_a1
            have g0 := gr_I eS55 g0
            have gL16 := gr_I eS55 gL16
            have o_a1 := ob_I eS55 o_a1
            have o_v0 := ob_I eS55 o_v0
            have o_v1 := ob_I eS55 o_v1
            have o_v2 := ob_I eS55 o_v2
            intro x56 ex56
            exact ih28 _ _ _ _ _ _ ⟨hI, gL16, fL17, rfl, rfl, rfl, rfl, hM, (q763 c2 c4 i1u14 c29 c30 r_x35 ex36 c38 ex56)⟩ (mu_down (q764 c2 c4 i1u14 c29 c30 r_x35 ex36 c38 ex56) (q765 c2 c4 i1u14 c29 c30 r_x35 ex36 c38 ex56))
    · intro x57 ex57
      have d_x57 := ex57
      refine ⟨fun c58 => ?_, fun c58 => ?_⟩
      · refine u_X7_reckon_38 ?_
        refine ⟨o_v0, ?_⟩
        intro S59 eS59
        have hI : IV S59 := by rw [eS59]; exact iv_sI hI o_v0 (by decide) (nu_free (by decide))
        have f0 := fr_I eS59 g0 f0 o_v0 (by decide)
        have d_x57 := rd_Ij eS59 (by decide) d_x57
        have d_v3 := rd_Is eS59 (rfl : v3 = v3)
        have ea1 := rf_I eS59 ea1
        have hM := wm_I eS59 hM
        have hl_a1 := hl_I eS59 hl_a1
        have g0 := gr_I eS59 g0
        have o_a1 := ob_I eS59 o_a1
        have o_v0 := ob_I eS59 o_v0
        have o_v1 := ob_I eS59 o_v1
        have o_v2 := ob_I eS59 o_v2
        intro S60 eS60
        have hI : IV S60 := by rw [eS60]; exact iv_sI hI o_v0 (by decide) (nu_free (by decide))
        have f0 := fr_I eS60 g0 f0 o_v0 (by decide)
        have d_v3 := rd_Ij eS60 (by decide) d_v3
        have d_v4 := rd_Is eS60 (rfl : v4 = v4)
        have ea1 := rf_I eS60 ea1
        have hM := wm_I eS60 hM
        have hl_a1 := hl_I eS60 hl_a1
        have g0 := gr_I eS60 g0
        have o_a1 := ob_I eS60 o_a1
        have o_v0 := ob_I eS60 o_v0
        have o_v1 := ob_I eS60 o_v1
        have o_v2 := ob_I eS60 o_v2
        intro S61 eS61
        have hI : IV S61 := by rw [eS61]; exact iv_sI hI o_v0 (by decide) (nu_free (by decide))
        have f0 := fr_I eS61 g0 f0 o_v0 (by decide)
        have d_v3 := rd_Ij eS61 (by decide) d_v3
        have d_v4 := rd_Ij eS61 (by decide) d_v4
        have d_v5 := rd_Is eS61 (rfl : v5 = v5)
        have ea1 := rf_I eS61 ea1
        have hM := wm_I eS61 hM
        have hl_a1 := hl_I eS61 hl_a1
        have g0 := gr_I eS61 g0
        have o_a1 := ob_I eS61 o_a1
        have o_v0 := ob_I eS61 o_v0
        have o_v1 := ob_I eS61 o_v1
        have o_v2 := ob_I eS61 o_v2
        intro x62 ex62
        intro S63 eS63
        have hI : IV S63 := by rw [eS63]; exact iv_sI hI o_v0 (by decide) (nu_one (lo := (0 : Int32)) (hi := (401 : Int32)) (by decide) (q766 h5 c2 c4 c58 ex62))
        have f0 := fr_I eS63 g0 f0 o_v0 (by decide)
        have d_v3 := rd_Ij eS63 (by decide) d_v3
        have d_v4 := rd_Ij eS63 (by decide) d_v4
        have d_v5 := rd_Ij eS63 (by decide) d_v5
        have d_x62 := rd_Is eS63 (rfl : x62 = x62)
        have ea1 := rf_I eS63 ea1
        have hM := wm_I eS63 hM
        have hl_a1 := hl_I eS63 hl_a1
        have g0 := gr_I eS63 g0
        have o_a1 := ob_I eS63 o_a1
        have o_v0 := ob_I eS63 o_v0
        have o_v1 := ob_I eS63 o_v1
        have o_v2 := ob_I eS63 o_v2
        intro S64 eS64
        have hI : IV S64 := by rw [eS64]; exact iv_sI hI o_v0 (by decide) (nu_free (by decide))
        have f0 := fr_I eS64 g0 f0 o_v0 (by decide)
        have d_v3 := rd_Ij eS64 (by decide) d_v3
        have d_v4 := rd_Ij eS64 (by decide) d_v4
        have d_v5 := rd_Ij eS64 (by decide) d_v5
        have d_x62 := rd_Ij eS64 (by decide) d_x62
        obtain ⟨y65, hy65⟩ : ∃ z : Int32, z = (-1 : Int32) := ⟨_, rfl⟩
        have d_y65 := rd_Is eS64 hy65
        have ea1 := rf_I eS64 ea1
        have hM := wm_I eS64 hM
        have hl_a1 := hl_I eS64 hl_a1
        have g0 := gr_I eS64 g0
        have o_a1 := ob_I eS64 o_a1
        have o_v0 := ob_I eS64 o_v0
        have o_v1 := ob_I eS64 o_v1
        have o_v2 := ob_I eS64 o_v2
        refine u_X7_reckon_68 ?_
        refine ⟨o_v0, ?_⟩
        intro x66 ex66
        have r_x66 : (0 : Int32) ≤ x66 ∧ x66 ≤ (401 : Int32) := by rw [ex66]; exact nu 9 rfl hI o_v0
        have q_x66 : x66 = x62 := ex66.trans d_x62.symm
        have d_x66 := ex66
        intro x67 ex67
        refine i_X7_reckon_76 (fun (y0 : Nat) (y1 : Nat) (y2 : Nat) (y6 : Int32) (y7 : Int32) (Z : HS) => (y7.toInt - (-1 : Int32).toInt).toNat) (fun (y0 : Nat) (y1 : Nat) (y2 : Nat) (y6 : Int32) (y7 : Int32) (Z : HS) => (IV Z) ∧ (Gr S64 Z) ∧ (FRI [(7, 3), (7, 9), (7, 13)] [] S64 Z) ∧ (v0 = y0) ∧ (v1 = y1) ∧ (v2 = y2) ∧ (v6 = y6) ∧ (WM Z v0) ∧ (y7 ≤ 400)) ?_ _ _ _ _ _ _ ⟨hI, (gr_rf _), (fri_rf _ _ _), rfl, rfl, rfl, rfl, hM, (q767 h5 c2 c4 c58 ex62 r_x66 q_x66 ex67)⟩
        intro w72 w74 w76 w78 w80 S69 X81 ⟨hI, gL70, fL71, q73, q75, q77, q79, hM, i1u68⟩ ih82
        subst q73
        subst q75
        subst q77
        subst q79
        have d_v3 := d_v3.trans (fri_at fL71 (by decide) (by decide) o_v0).symm
        have d_v4 := d_v4.trans (fri_at fL71 (by decide) (by decide) o_v0).symm
        have d_v5 := d_v5.trans (fri_at fL71 (by decide) (by decide) o_v0).symm
        have ea1 := (frr_at fL71 (by decide) (by decide) o_v0).trans ea1
        have f0 := fri_tr (S := S64) g0 f0 fL71 (by decide) (by decide)
        have hl_a1 := hl_g gL70 o_a1 hl_a1
        have o_a1 := gr_ob gL70 o_a1
        have o_v0 := gr_ob gL70 o_v0
        have o_v1 := gr_ob gL70 o_v1
        have o_v2 := gr_ob gL70 o_v2
        have g0 := gr_tr (T := S64) g0 gL70
        refine u_X7_reckon_76 ?_
        refine ⟨fun c83 => ?_, fun c83 => ?_⟩
        · exact hq _ hI g0 f0
        · refine ⟨fun c84 => ?_, fun c84 => ?_⟩
          · exact hq _ hI g0 f0
          · refine ⟨o_v1, ?_⟩
            refine m_X8_hourOf hI o_v1 (fun x85 S86 hI2 g87 p_x85 => ?_)
            subst p_x85
            intro _
            intro x89 ex89
            have r_x89 : (0 : Int32) ≤ x89 ∧ x89 ≤ (6 : Int32) := by rw [ex89]; exact nu 11 rfl hI o_v1
            have d_x89 := ex89
            intro x90 ex90
            refine ⟨o_v0, ?_⟩
            intro x91 ex91
            have d_x91 := ex91
            refine ⟨fun c92 => ?_, fun c92 => ?_⟩
            · refine u_X7_reckon_120 ?_
              refine ⟨o_v1, ?_⟩
              intro x93 ex93
              have r_x93 : (0 : Int32) ≤ x93 ∧ x93 ≤ (8 : Int32) := by rw [ex93]; exact nu 12 rfl hI o_v1
              have d_x93 := ex93
              refine ⟨o_v0, ?_⟩
              refine m_X7_reckonMinute hI o_v0 (q768 c2 c4 c58 i1u68 c83 c84 r_x89 ex90 c92) hM (fun S95 hJ g96 fc97 p_S95 => ?_)
              have hM := p_S95
              have hI := hJ
              have d_v3 := d_v3.trans (fri_at fc97 (by decide) (by decide) o_v0).symm
              have d_v4 := d_v4.trans (fri_at fc97 (by decide) (by decide) o_v0).symm
              have d_v5 := d_v5.trans (fri_at fc97 (by decide) (by decide) o_v0).symm
              have d_x89 := d_x89.trans (fri_at fc97 (by decide) (by decide) o_v1).symm
              have d_x91 := d_x91.trans (fri_at fc97 (by decide) (by decide) o_v0).symm
              have d_x93 := d_x93.trans (fri_at fc97 (by decide) (by decide) o_v1).symm
              have ea1 := (frr_at fc97 (by decide) (by decide) o_v0).trans ea1
              have f0 := fri_tr (S := S69) g0 f0 fc97 (by decide) (by decide)
              have fL71 := fri_tr (S := S69) gL70 fL71 fc97 (by decide) (by decide)
              have hl_a1 := hl_g g96 o_a1 hl_a1
              have o_a1 := gr_ob g96 o_a1
              have o_v0 := gr_ob g96 o_v0
              have o_v1 := gr_ob g96 o_v1
              have o_v2 := gr_ob g96 o_v2
              have g0 := gr_tr (T := S69) g0 g96
              have gL70 := gr_tr (T := S69) gL70 g96
              intro _
              intro S98 eS98
              have hI : IV S98 := by rw [eS98]; exact iv_sI hI o_v0 (by decide) (nu_one (lo := (0 : Int32)) (hi := (401 : Int32)) (by decide) (q769 c2 c4 c58 i1u68 c83 c84 r_x89 ex90 c92))
              have f0 := fr_I eS98 g0 f0 o_v0 (by decide)
              have fL71 := fr_I eS98 gL70 fL71 o_v0 (by decide)
              have d_v3 := rd_Ij eS98 (by decide) d_v3
              have d_v4 := rd_Ij eS98 (by decide) d_v4
              have d_v5 := rd_Ij eS98 (by decide) d_v5
              have d_x89 := rd_Ik eS98 o_v0 o_v1 (by decide) d_x89
              have d_x91 := rd_Ij eS98 (by decide) d_x91
              have d_x93 := rd_Ik eS98 o_v0 o_v1 (by decide) d_x93
              have d_w80 := rd_Is eS98 (rfl : w80 = w80)
              have ea1 := rf_I eS98 ea1
              have hM := wm_I eS98 hM
              have hl_a1 := hl_I eS98 hl_a1
              have g0 := gr_I eS98 g0
              have gL70 := gr_I eS98 gL70
              have o_a1 := ob_I eS98 o_a1
              have o_v0 := ob_I eS98 o_v0
              have o_v1 := ob_I eS98 o_v1
              have o_v2 := ob_I eS98 o_v2
              intro x99 ex99
              exact ih82 _ _ _ _ _ _ ⟨hI, gL70, fL71, rfl, rfl, rfl, rfl, hM, (q770 c2 c4 c58 i1u68 c83 c84 r_x89 ex90 c92 ex99)⟩ (mu_down (q771 c2 c4 c58 i1u68 c83 c84 r_x89 ex90 c92 ex99) (q772 c2 c4 c58 i1u68 c83 c84 r_x89 ex90 c92 ex99))
            · refine m_X7_price hI o_v0 o_v1 o_v2 hM (fun S101 hJ g102 fc103 p_S101 => ?_)
              have hM := p_S101
              have hI := hJ
              have d_v3 := d_v3.trans (fri_at fc103 (by decide) (by decide) o_v0).symm
              have d_v4 := d_v4.trans (fri_at fc103 (by decide) (by decide) o_v0).symm
              have d_v5 := d_v5.trans (fri_at fc103 (by decide) (by decide) o_v0).symm
              have d_x89 := d_x89.trans (fri_at fc103 (by decide) (by decide) o_v1).symm
              have ea1 := (frr_at fc103 (by decide) (by decide) o_v0).trans ea1
              have f0 := fri_tr (S := S69) g0 f0 fc103 (by decide) (by decide)
              have fL71 := fri_tr (S := S69) gL70 fL71 fc103 (by decide) (by decide)
              have hl_a1 := hl_g g102 o_a1 hl_a1
              have o_a1 := gr_ob g102 o_a1
              have o_v0 := gr_ob g102 o_v0
              have o_v1 := gr_ob g102 o_v1
              have o_v2 := gr_ob g102 o_v2
              have g0 := gr_tr (T := S69) g0 g102
              have gL70 := gr_tr (T := S69) gL70 g102
              intro _
              refine u_X7_reckon_120 ?_
              refine ⟨o_v1, ?_⟩
              intro x104 ex104
              have r_x104 : (0 : Int32) ≤ x104 ∧ x104 ≤ (8 : Int32) := by rw [ex104]; exact nu 12 rfl hI o_v1
              have d_x104 := ex104
              refine ⟨o_v0, ?_⟩
              refine m_X7_reckonMinute hI o_v0 (q773 c2 c4 c58 i1u68 c83 c84 r_x89 ex90 c92) hM (fun S106 hJ g107 fc108 p_S106 => ?_)
              have hM := p_S106
              have hI := hJ
              have d_v3 := d_v3.trans (fri_at fc108 (by decide) (by decide) o_v0).symm
              have d_v4 := d_v4.trans (fri_at fc108 (by decide) (by decide) o_v0).symm
              have d_v5 := d_v5.trans (fri_at fc108 (by decide) (by decide) o_v0).symm
              have d_x89 := d_x89.trans (fri_at fc108 (by decide) (by decide) o_v1).symm
              have d_x104 := d_x104.trans (fri_at fc108 (by decide) (by decide) o_v1).symm
              have ea1 := (frr_at fc108 (by decide) (by decide) o_v0).trans ea1
              have f0 := fri_tr (S := S101) g0 f0 fc108 (by decide) (by decide)
              have fL71 := fri_tr (S := S101) gL70 fL71 fc108 (by decide) (by decide)
              have hl_a1 := hl_g g107 o_a1 hl_a1
              have o_a1 := gr_ob g107 o_a1
              have o_v0 := gr_ob g107 o_v0
              have o_v1 := gr_ob g107 o_v1
              have o_v2 := gr_ob g107 o_v2
              have g0 := gr_tr (T := S101) g0 g107
              have gL70 := gr_tr (T := S101) gL70 g107
              intro _
              intro S109 eS109
              have hI : IV S109 := by rw [eS109]; exact iv_sI hI o_v0 (by decide) (nu_one (lo := (0 : Int32)) (hi := (401 : Int32)) (by decide) (q774 c2 c4 c58 i1u68 c83 c84 r_x89 ex90 c92))
              have f0 := fr_I eS109 g0 f0 o_v0 (by decide)
              have fL71 := fr_I eS109 gL70 fL71 o_v0 (by decide)
              have d_v3 := rd_Ij eS109 (by decide) d_v3
              have d_v4 := rd_Ij eS109 (by decide) d_v4
              have d_v5 := rd_Ij eS109 (by decide) d_v5
              have d_x89 := rd_Ik eS109 o_v0 o_v1 (by decide) d_x89
              have d_x104 := rd_Ik eS109 o_v0 o_v1 (by decide) d_x104
              have d_w80 := rd_Is eS109 (rfl : w80 = w80)
              have ea1 := rf_I eS109 ea1
              have hM := wm_I eS109 hM
              have hl_a1 := hl_I eS109 hl_a1
              have g0 := gr_I eS109 g0
              have gL70 := gr_I eS109 gL70
              have o_a1 := ob_I eS109 o_a1
              have o_v0 := ob_I eS109 o_v0
              have o_v1 := ob_I eS109 o_v1
              have o_v2 := ob_I eS109 o_v2
              intro x110 ex110
              exact ih82 _ _ _ _ _ _ ⟨hI, gL70, fL71, rfl, rfl, rfl, rfl, hM, (q775 c2 c4 c58 i1u68 c83 c84 r_x89 ex90 c92 ex110)⟩ (mu_down (q776 c2 c4 c58 i1u68 c83 c84 r_x89 ex90 c92 ex110) (q777 c2 c4 c58 i1u68 c83 c84 r_x89 ex90 c92 ex110))
      · intro x111 ex111
        have d_x111 := ex111
        refine ⟨fun c112 => ?_, fun c112 => ?_⟩
        · refine u_X7_reckon_68 ?_
          refine ⟨o_v0, ?_⟩
          intro x113 ex113
          have r_x113 : (0 : Int32) ≤ x113 ∧ x113 ≤ (401 : Int32) := by rw [ex113]; exact nu 9 rfl hI o_v0
          have d_x113 := ex113
          intro x114 ex114
          refine i_X7_reckon_76 (fun (y0 : Nat) (y1 : Nat) (y2 : Nat) (y6 : Int32) (y7 : Int32) (Z : HS) => (y7.toInt - (-1 : Int32).toInt).toNat) (fun (y0 : Nat) (y1 : Nat) (y2 : Nat) (y6 : Int32) (y7 : Int32) (Z : HS) => (IV Z) ∧ (Gr S Z) ∧ (FRI [(7, 3), (7, 9), (7, 13)] [] S Z) ∧ (v0 = y0) ∧ (v1 = y1) ∧ (v2 = y2) ∧ (v6 = y6) ∧ (WM Z v0) ∧ (y7 ≤ 400)) ?_ _ _ _ _ _ _ ⟨hI, (gr_rf _), (fri_rf _ _ _), rfl, rfl, rfl, rfl, hM, (q778 h5 c2 c4 c58 c112 r_x113 ex114)⟩
          intro w119 w121 w123 w125 w127 S116 X128 ⟨hI, gL117, fL118, q120, q122, q124, q126, hM, i1u115⟩ ih129
          subst q120
          subst q122
          subst q124
          subst q126
          have d_x3 := d_x3.trans (fri_at fL118 (by decide) (by decide) o_v0).symm
          have d_x57 := d_x57.trans (fri_at fL118 (by decide) (by decide) o_v0).symm
          have d_x111 := d_x111.trans (fri_at fL118 (by decide) (by decide) o_v0).symm
          have ea1 := (frr_at fL118 (by decide) (by decide) o_v0).trans ea1
          have f0 := fri_tr (S := S) g0 f0 fL118 (by decide) (by decide)
          have hl_a1 := hl_g gL117 o_a1 hl_a1
          have o_a1 := gr_ob gL117 o_a1
          have o_v0 := gr_ob gL117 o_v0
          have o_v1 := gr_ob gL117 o_v1
          have o_v2 := gr_ob gL117 o_v2
          have g0 := gr_tr (T := S) g0 gL117
          refine u_X7_reckon_76 ?_
          refine ⟨fun c130 => ?_, fun c130 => ?_⟩
          · exact hq _ hI g0 f0
          · refine ⟨fun c131 => ?_, fun c131 => ?_⟩
            · exact hq _ hI g0 f0
            · refine ⟨o_v1, ?_⟩
              refine m_X8_hourOf hI o_v1 (fun x132 S133 hI2 g134 p_x132 => ?_)
              subst p_x132
              intro _
              intro x136 ex136
              have r_x136 : (0 : Int32) ≤ x136 ∧ x136 ≤ (6 : Int32) := by rw [ex136]; exact nu 11 rfl hI o_v1
              have d_x136 := ex136
              intro x137 ex137
              refine ⟨o_v0, ?_⟩
              intro x138 ex138
              have d_x138 := ex138
              refine ⟨fun c139 => ?_, fun c139 => ?_⟩
              · refine u_X7_reckon_120 ?_
                refine ⟨o_v1, ?_⟩
                intro x140 ex140
                have r_x140 : (0 : Int32) ≤ x140 ∧ x140 ≤ (8 : Int32) := by rw [ex140]; exact nu 12 rfl hI o_v1
                have d_x140 := ex140
                refine ⟨o_v0, ?_⟩
                refine m_X7_reckonMinute hI o_v0 (q779 h5 c2 c4 c58 c112 i1u115 c130 c131 r_x136 ex137 c139) hM (fun S142 hJ g143 fc144 p_S142 => ?_)
                have hM := p_S142
                have hI := hJ
                have d_x3 := d_x3.trans (fri_at fc144 (by decide) (by decide) o_v0).symm
                have d_x57 := d_x57.trans (fri_at fc144 (by decide) (by decide) o_v0).symm
                have d_x111 := d_x111.trans (fri_at fc144 (by decide) (by decide) o_v0).symm
                have d_x136 := d_x136.trans (fri_at fc144 (by decide) (by decide) o_v1).symm
                have d_x138 := d_x138.trans (fri_at fc144 (by decide) (by decide) o_v0).symm
                have d_x140 := d_x140.trans (fri_at fc144 (by decide) (by decide) o_v1).symm
                have ea1 := (frr_at fc144 (by decide) (by decide) o_v0).trans ea1
                have f0 := fri_tr (S := S116) g0 f0 fc144 (by decide) (by decide)
                have fL118 := fri_tr (S := S116) gL117 fL118 fc144 (by decide) (by decide)
                have hl_a1 := hl_g g143 o_a1 hl_a1
                have o_a1 := gr_ob g143 o_a1
                have o_v0 := gr_ob g143 o_v0
                have o_v1 := gr_ob g143 o_v1
                have o_v2 := gr_ob g143 o_v2
                have g0 := gr_tr (T := S116) g0 g143
                have gL117 := gr_tr (T := S116) gL117 g143
                intro _
                intro S145 eS145
                have hI : IV S145 := by rw [eS145]; exact iv_sI hI o_v0 (by decide) (nu_one (lo := (0 : Int32)) (hi := (401 : Int32)) (by decide) (q780 h5 c2 c4 c58 c112 i1u115 c130 c131 r_x136 ex137 c139))
                have f0 := fr_I eS145 g0 f0 o_v0 (by decide)
                have fL118 := fr_I eS145 gL117 fL118 o_v0 (by decide)
                have d_x3 := rd_Ij eS145 (by decide) d_x3
                have d_x57 := rd_Ij eS145 (by decide) d_x57
                have d_x111 := rd_Ij eS145 (by decide) d_x111
                have d_x136 := rd_Ik eS145 o_v0 o_v1 (by decide) d_x136
                have d_x138 := rd_Ij eS145 (by decide) d_x138
                have d_x140 := rd_Ik eS145 o_v0 o_v1 (by decide) d_x140
                have d_w127 := rd_Is eS145 (rfl : w127 = w127)
                have ea1 := rf_I eS145 ea1
                have hM := wm_I eS145 hM
                have hl_a1 := hl_I eS145 hl_a1
                have g0 := gr_I eS145 g0
                have gL117 := gr_I eS145 gL117
                have o_a1 := ob_I eS145 o_a1
                have o_v0 := ob_I eS145 o_v0
                have o_v1 := ob_I eS145 o_v1
                have o_v2 := ob_I eS145 o_v2
                intro x146 ex146
                exact ih129 _ _ _ _ _ _ ⟨hI, gL117, fL118, rfl, rfl, rfl, rfl, hM, (q781 h5 c2 c4 c58 c112 i1u115 c130 c131 r_x136 ex137 c139 ex146)⟩ (mu_down (q782 h5 c2 c4 c58 c112 i1u115 c130 c131 r_x136 ex137 c139 ex146) (q783 h5 c2 c4 c58 c112 i1u115 c130 c131 r_x136 ex137 c139 ex146))
              · refine m_X7_price hI o_v0 o_v1 o_v2 hM (fun S148 hJ g149 fc150 p_S148 => ?_)
                have hM := p_S148
                have hI := hJ
                have d_x3 := d_x3.trans (fri_at fc150 (by decide) (by decide) o_v0).symm
                have d_x57 := d_x57.trans (fri_at fc150 (by decide) (by decide) o_v0).symm
                have d_x111 := d_x111.trans (fri_at fc150 (by decide) (by decide) o_v0).symm
                have d_x136 := d_x136.trans (fri_at fc150 (by decide) (by decide) o_v1).symm
                have ea1 := (frr_at fc150 (by decide) (by decide) o_v0).trans ea1
                have f0 := fri_tr (S := S116) g0 f0 fc150 (by decide) (by decide)
                have fL118 := fri_tr (S := S116) gL117 fL118 fc150 (by decide) (by decide)
                have hl_a1 := hl_g g149 o_a1 hl_a1
                have o_a1 := gr_ob g149 o_a1
                have o_v0 := gr_ob g149 o_v0
                have o_v1 := gr_ob g149 o_v1
                have o_v2 := gr_ob g149 o_v2
                have g0 := gr_tr (T := S116) g0 g149
                have gL117 := gr_tr (T := S116) gL117 g149
                intro _
                refine u_X7_reckon_120 ?_
                refine ⟨o_v1, ?_⟩
                intro x151 ex151
                have r_x151 : (0 : Int32) ≤ x151 ∧ x151 ≤ (8 : Int32) := by rw [ex151]; exact nu 12 rfl hI o_v1
                have d_x151 := ex151
                refine ⟨o_v0, ?_⟩
                refine m_X7_reckonMinute hI o_v0 (q784 h5 c2 c4 c58 c112 i1u115 c130 c131 r_x136 ex137 c139) hM (fun S153 hJ g154 fc155 p_S153 => ?_)
                have hM := p_S153
                have hI := hJ
                have d_x3 := d_x3.trans (fri_at fc155 (by decide) (by decide) o_v0).symm
                have d_x57 := d_x57.trans (fri_at fc155 (by decide) (by decide) o_v0).symm
                have d_x111 := d_x111.trans (fri_at fc155 (by decide) (by decide) o_v0).symm
                have d_x136 := d_x136.trans (fri_at fc155 (by decide) (by decide) o_v1).symm
                have d_x151 := d_x151.trans (fri_at fc155 (by decide) (by decide) o_v1).symm
                have ea1 := (frr_at fc155 (by decide) (by decide) o_v0).trans ea1
                have f0 := fri_tr (S := S148) g0 f0 fc155 (by decide) (by decide)
                have fL118 := fri_tr (S := S148) gL117 fL118 fc155 (by decide) (by decide)
                have hl_a1 := hl_g g154 o_a1 hl_a1
                have o_a1 := gr_ob g154 o_a1
                have o_v0 := gr_ob g154 o_v0
                have o_v1 := gr_ob g154 o_v1
                have o_v2 := gr_ob g154 o_v2
                have g0 := gr_tr (T := S148) g0 g154
                have gL117 := gr_tr (T := S148) gL117 g154
                intro _
                intro S156 eS156
                have hI : IV S156 := by rw [eS156]; exact iv_sI hI o_v0 (by decide) (nu_one (lo := (0 : Int32)) (hi := (401 : Int32)) (by decide) (q785 h5 c2 c4 c58 c112 i1u115 c130 c131 r_x136 ex137 c139))
                have f0 := fr_I eS156 g0 f0 o_v0 (by decide)
                have fL118 := fr_I eS156 gL117 fL118 o_v0 (by decide)
                have d_x3 := rd_Ij eS156 (by decide) d_x3
                have d_x57 := rd_Ij eS156 (by decide) d_x57
                have d_x111 := rd_Ij eS156 (by decide) d_x111
                have d_x136 := rd_Ik eS156 o_v0 o_v1 (by decide) d_x136
                have d_x151 := rd_Ik eS156 o_v0 o_v1 (by decide) d_x151
                have d_w127 := rd_Is eS156 (rfl : w127 = w127)
                have ea1 := rf_I eS156 ea1
                have hM := wm_I eS156 hM
                have hl_a1 := hl_I eS156 hl_a1
                have g0 := gr_I eS156 g0
                have gL117 := gr_I eS156 gL117
                have o_a1 := ob_I eS156 o_a1
                have o_v0 := ob_I eS156 o_v0
                have o_v1 := ob_I eS156 o_v1
                have o_v2 := ob_I eS156 o_v2
                intro x157 ex157
                exact ih129 _ _ _ _ _ _ ⟨hI, gL117, fL118, rfl, rfl, rfl, rfl, hM, (q786 h5 c2 c4 c58 c112 i1u115 c130 c131 r_x136 ex137 c139 ex157)⟩ (mu_down (q787 h5 c2 c4 c58 c112 i1u115 c130 c131 r_x136 ex137 c139 ex157) (q788 h5 c2 c4 c58 c112 i1u115 c130 c131 r_x136 ex137 c139 ex157))
        · refine u_X7_reckon_38 ?_
          refine ⟨o_v0, ?_⟩
          intro S158 eS158
          have hI : IV S158 := by rw [eS158]; exact iv_sI hI o_v0 (by decide) (nu_free (by decide))
          have f0 := fr_I eS158 g0 f0 o_v0 (by decide)
          have d_x57 := rd_Ij eS158 (by decide) d_x57
          have d_x111 := rd_Ij eS158 (by decide) d_x111
          have d_v3 := rd_Is eS158 (rfl : v3 = v3)
          have ea1 := rf_I eS158 ea1
          have hM := wm_I eS158 hM
          have hl_a1 := hl_I eS158 hl_a1
          have g0 := gr_I eS158 g0
          have o_a1 := ob_I eS158 o_a1
          have o_v0 := ob_I eS158 o_v0
          have o_v1 := ob_I eS158 o_v1
          have o_v2 := ob_I eS158 o_v2
          intro S159 eS159
          have hI : IV S159 := by rw [eS159]; exact iv_sI hI o_v0 (by decide) (nu_free (by decide))
          have f0 := fr_I eS159 g0 f0 o_v0 (by decide)
          have d_x111 := rd_Ij eS159 (by decide) d_x111
          have d_v3 := rd_Ij eS159 (by decide) d_v3
          have d_v4 := rd_Is eS159 (rfl : v4 = v4)
          have ea1 := rf_I eS159 ea1
          have hM := wm_I eS159 hM
          have hl_a1 := hl_I eS159 hl_a1
          have g0 := gr_I eS159 g0
          have o_a1 := ob_I eS159 o_a1
          have o_v0 := ob_I eS159 o_v0
          have o_v1 := ob_I eS159 o_v1
          have o_v2 := ob_I eS159 o_v2
          intro S160 eS160
          have hI : IV S160 := by rw [eS160]; exact iv_sI hI o_v0 (by decide) (nu_free (by decide))
          have f0 := fr_I eS160 g0 f0 o_v0 (by decide)
          have d_v3 := rd_Ij eS160 (by decide) d_v3
          have d_v4 := rd_Ij eS160 (by decide) d_v4
          have d_v5 := rd_Is eS160 (rfl : v5 = v5)
          have ea1 := rf_I eS160 ea1
          have hM := wm_I eS160 hM
          have hl_a1 := hl_I eS160 hl_a1
          have g0 := gr_I eS160 g0
          have o_a1 := ob_I eS160 o_a1
          have o_v0 := ob_I eS160 o_v0
          have o_v1 := ob_I eS160 o_v1
          have o_v2 := ob_I eS160 o_v2
          intro x161 ex161
          intro S162 eS162
          have hI : IV S162 := by rw [eS162]; exact iv_sI hI o_v0 (by decide) (nu_one (lo := (0 : Int32)) (hi := (401 : Int32)) (by decide) (q789 h5 c2 c4 c58 c112 ex161))
          have f0 := fr_I eS162 g0 f0 o_v0 (by decide)
          have d_v3 := rd_Ij eS162 (by decide) d_v3
          have d_v4 := rd_Ij eS162 (by decide) d_v4
          have d_v5 := rd_Ij eS162 (by decide) d_v5
          have d_x161 := rd_Is eS162 (rfl : x161 = x161)
          have ea1 := rf_I eS162 ea1
          have hM := wm_I eS162 hM
          have hl_a1 := hl_I eS162 hl_a1
          have g0 := gr_I eS162 g0
          have o_a1 := ob_I eS162 o_a1
          have o_v0 := ob_I eS162 o_v0
          have o_v1 := ob_I eS162 o_v1
          have o_v2 := ob_I eS162 o_v2
          intro S163 eS163
          have hI : IV S163 := by rw [eS163]; exact iv_sI hI o_v0 (by decide) (nu_free (by decide))
          have f0 := fr_I eS163 g0 f0 o_v0 (by decide)
          have d_v3 := rd_Ij eS163 (by decide) d_v3
          have d_v4 := rd_Ij eS163 (by decide) d_v4
          have d_v5 := rd_Ij eS163 (by decide) d_v5
          have d_x161 := rd_Ij eS163 (by decide) d_x161
          obtain ⟨y164, hy164⟩ : ∃ z : Int32, z = (-1 : Int32) := ⟨_, rfl⟩
          have d_y164 := rd_Is eS163 hy164
          have ea1 := rf_I eS163 ea1
          have hM := wm_I eS163 hM
          have hl_a1 := hl_I eS163 hl_a1
          have g0 := gr_I eS163 g0
          have o_a1 := ob_I eS163 o_a1
          have o_v0 := ob_I eS163 o_v0
          have o_v1 := ob_I eS163 o_v1
          have o_v2 := ob_I eS163 o_v2
          refine u_X7_reckon_68 ?_
          refine ⟨o_v0, ?_⟩
          intro x165 ex165
          have r_x165 : (0 : Int32) ≤ x165 ∧ x165 ≤ (401 : Int32) := by rw [ex165]; exact nu 9 rfl hI o_v0
          have q_x165 : x165 = x161 := ex165.trans d_x161.symm
          have d_x165 := ex165
          intro x166 ex166
          refine i_X7_reckon_76 (fun (y0 : Nat) (y1 : Nat) (y2 : Nat) (y6 : Int32) (y7 : Int32) (Z : HS) => (y7.toInt - (-1 : Int32).toInt).toNat) (fun (y0 : Nat) (y1 : Nat) (y2 : Nat) (y6 : Int32) (y7 : Int32) (Z : HS) => (IV Z) ∧ (Gr S163 Z) ∧ (FRI [(7, 3), (7, 9), (7, 13)] [] S163 Z) ∧ (v0 = y0) ∧ (v1 = y1) ∧ (v2 = y2) ∧ (v6 = y6) ∧ (WM Z v0) ∧ (y7 ≤ 400)) ?_ _ _ _ _ _ _ ⟨hI, (gr_rf _), (fri_rf _ _ _), rfl, rfl, rfl, rfl, hM, (q790 h5 c2 c4 c58 c112 ex161 r_x165 q_x165 ex166)⟩
          intro w171 w173 w175 w177 w179 S168 X180 ⟨hI, gL169, fL170, q172, q174, q176, q178, hM, i1u167⟩ ih181
          subst q172
          subst q174
          subst q176
          subst q178
          have d_v3 := d_v3.trans (fri_at fL170 (by decide) (by decide) o_v0).symm
          have d_v4 := d_v4.trans (fri_at fL170 (by decide) (by decide) o_v0).symm
          have d_v5 := d_v5.trans (fri_at fL170 (by decide) (by decide) o_v0).symm
          have ea1 := (frr_at fL170 (by decide) (by decide) o_v0).trans ea1
          have f0 := fri_tr (S := S163) g0 f0 fL170 (by decide) (by decide)
          have hl_a1 := hl_g gL169 o_a1 hl_a1
          have o_a1 := gr_ob gL169 o_a1
          have o_v0 := gr_ob gL169 o_v0
          have o_v1 := gr_ob gL169 o_v1
          have o_v2 := gr_ob gL169 o_v2
          have g0 := gr_tr (T := S163) g0 gL169
          refine u_X7_reckon_76 ?_
          refine ⟨fun c182 => ?_, fun c182 => ?_⟩
          · exact hq _ hI g0 f0
          · refine ⟨fun c183 => ?_, fun c183 => ?_⟩
            · exact hq _ hI g0 f0
            · refine ⟨o_v1, ?_⟩
              refine m_X8_hourOf hI o_v1 (fun x184 S185 hI2 g186 p_x184 => ?_)
              subst p_x184
              intro _
              intro x188 ex188
              have r_x188 : (0 : Int32) ≤ x188 ∧ x188 ≤ (6 : Int32) := by rw [ex188]; exact nu 11 rfl hI o_v1
              have d_x188 := ex188
              intro x189 ex189
              refine ⟨o_v0, ?_⟩
              intro x190 ex190
              have d_x190 := ex190
              refine ⟨fun c191 => ?_, fun c191 => ?_⟩
              · refine u_X7_reckon_120 ?_
                refine ⟨o_v1, ?_⟩
                intro x192 ex192
                have r_x192 : (0 : Int32) ≤ x192 ∧ x192 ≤ (8 : Int32) := by rw [ex192]; exact nu 12 rfl hI o_v1
                have d_x192 := ex192
                refine ⟨o_v0, ?_⟩
                refine m_X7_reckonMinute hI o_v0 (q791 h5 c2 c4 c58 c112 ex161 r_x165 q_x165 ex166 i1u167 c182 c183 r_x188 ex189 c191) hM (fun S194 hJ g195 fc196 p_S194 => ?_)
                have hM := p_S194
                have hI := hJ
                have d_v3 := d_v3.trans (fri_at fc196 (by decide) (by decide) o_v0).symm
                have d_v4 := d_v4.trans (fri_at fc196 (by decide) (by decide) o_v0).symm
                have d_v5 := d_v5.trans (fri_at fc196 (by decide) (by decide) o_v0).symm
                have d_x188 := d_x188.trans (fri_at fc196 (by decide) (by decide) o_v1).symm
                have d_x190 := d_x190.trans (fri_at fc196 (by decide) (by decide) o_v0).symm
                have d_x192 := d_x192.trans (fri_at fc196 (by decide) (by decide) o_v1).symm
                have ea1 := (frr_at fc196 (by decide) (by decide) o_v0).trans ea1
                have f0 := fri_tr (S := S168) g0 f0 fc196 (by decide) (by decide)
                have fL170 := fri_tr (S := S168) gL169 fL170 fc196 (by decide) (by decide)
                have hl_a1 := hl_g g195 o_a1 hl_a1
                have o_a1 := gr_ob g195 o_a1
                have o_v0 := gr_ob g195 o_v0
                have o_v1 := gr_ob g195 o_v1
                have o_v2 := gr_ob g195 o_v2
                have g0 := gr_tr (T := S168) g0 g195
                have gL169 := gr_tr (T := S168) gL169 g195
                intro _
                intro S197 eS197
                have hI : IV S197 := by rw [eS197]; exact iv_sI hI o_v0 (by decide) (nu_one (lo := (0 : Int32)) (hi := (401 : Int32)) (by decide) (q792 h5 c2 c4 c58 c112 ex161 r_x165 q_x165 ex166 i1u167 c182 c183 r_x188 ex189 c191))
                have f0 := fr_I eS197 g0 f0 o_v0 (by decide)
                have fL170 := fr_I eS197 gL169 fL170 o_v0 (by decide)
                have d_v3 := rd_Ij eS197 (by decide) d_v3
                have d_v4 := rd_Ij eS197 (by decide) d_v4
                have d_v5 := rd_Ij eS197 (by decide) d_v5
                have d_x188 := rd_Ik eS197 o_v0 o_v1 (by decide) d_x188
                have d_x190 := rd_Ij eS197 (by decide) d_x190
                have d_x192 := rd_Ik eS197 o_v0 o_v1 (by decide) d_x192
                have d_w179 := rd_Is eS197 (rfl : w179 = w179)
                have ea1 := rf_I eS197 ea1
                have hM := wm_I eS197 hM
                have hl_a1 := hl_I eS197 hl_a1
                have g0 := gr_I eS197 g0
                have gL169 := gr_I eS197 gL169
                have o_a1 := ob_I eS197 o_a1
                have o_v0 := ob_I eS197 o_v0
                have o_v1 := ob_I eS197 o_v1
                have o_v2 := ob_I eS197 o_v2
                intro x198 ex198
                exact ih181 _ _ _ _ _ _ ⟨hI, gL169, fL170, rfl, rfl, rfl, rfl, hM, (q793 h5 c2 c4 c58 c112 ex161 r_x165 q_x165 ex166 i1u167 c182 c183 r_x188 ex189 c191 ex198)⟩ (mu_down (q794 h5 c2 c4 c58 c112 ex161 r_x165 q_x165 ex166 i1u167 c182 c183 r_x188 ex189 c191 ex198) (q795 h5 c2 c4 c58 c112 ex161 r_x165 q_x165 ex166 i1u167 c182 c183 r_x188 ex189 c191 ex198))
              · refine m_X7_price hI o_v0 o_v1 o_v2 hM (fun S200 hJ g201 fc202 p_S200 => ?_)
                have hM := p_S200
                have hI := hJ
                have d_v3 := d_v3.trans (fri_at fc202 (by decide) (by decide) o_v0).symm
                have d_v4 := d_v4.trans (fri_at fc202 (by decide) (by decide) o_v0).symm
                have d_v5 := d_v5.trans (fri_at fc202 (by decide) (by decide) o_v0).symm
                have d_x188 := d_x188.trans (fri_at fc202 (by decide) (by decide) o_v1).symm
                have ea1 := (frr_at fc202 (by decide) (by decide) o_v0).trans ea1
                have f0 := fri_tr (S := S168) g0 f0 fc202 (by decide) (by decide)
                have fL170 := fri_tr (S := S168) gL169 fL170 fc202 (by decide) (by decide)
                have hl_a1 := hl_g g201 o_a1 hl_a1
                have o_a1 := gr_ob g201 o_a1
                have o_v0 := gr_ob g201 o_v0
                have o_v1 := gr_ob g201 o_v1
                have o_v2 := gr_ob g201 o_v2
                have g0 := gr_tr (T := S168) g0 g201
                have gL169 := gr_tr (T := S168) gL169 g201
                intro _
                refine u_X7_reckon_120 ?_
                refine ⟨o_v1, ?_⟩
                intro x203 ex203
                have r_x203 : (0 : Int32) ≤ x203 ∧ x203 ≤ (8 : Int32) := by rw [ex203]; exact nu 12 rfl hI o_v1
                have d_x203 := ex203
                refine ⟨o_v0, ?_⟩
                refine m_X7_reckonMinute hI o_v0 (q796 h5 c2 c4 c58 c112 ex161 r_x165 q_x165 ex166 i1u167 c182 c183 r_x188 ex189 c191) hM (fun S205 hJ g206 fc207 p_S205 => ?_)
                have hM := p_S205
                have hI := hJ
                have d_v3 := d_v3.trans (fri_at fc207 (by decide) (by decide) o_v0).symm
                have d_v4 := d_v4.trans (fri_at fc207 (by decide) (by decide) o_v0).symm
                have d_v5 := d_v5.trans (fri_at fc207 (by decide) (by decide) o_v0).symm
                have d_x188 := d_x188.trans (fri_at fc207 (by decide) (by decide) o_v1).symm
                have d_x203 := d_x203.trans (fri_at fc207 (by decide) (by decide) o_v1).symm
                have ea1 := (frr_at fc207 (by decide) (by decide) o_v0).trans ea1
                have f0 := fri_tr (S := S200) g0 f0 fc207 (by decide) (by decide)
                have fL170 := fri_tr (S := S200) gL169 fL170 fc207 (by decide) (by decide)
                have hl_a1 := hl_g g206 o_a1 hl_a1
                have o_a1 := gr_ob g206 o_a1
                have o_v0 := gr_ob g206 o_v0
                have o_v1 := gr_ob g206 o_v1
                have o_v2 := gr_ob g206 o_v2
                have g0 := gr_tr (T := S200) g0 g206
                have gL169 := gr_tr (T := S200) gL169 g206
                intro _
                intro S208 eS208
                have hI : IV S208 := by rw [eS208]; exact iv_sI hI o_v0 (by decide) (nu_one (lo := (0 : Int32)) (hi := (401 : Int32)) (by decide) (q797 h5 c2 c4 c58 c112 ex161 r_x165 q_x165 ex166 i1u167 c182 c183 r_x188 ex189 c191))
                have f0 := fr_I eS208 g0 f0 o_v0 (by decide)
                have fL170 := fr_I eS208 gL169 fL170 o_v0 (by decide)
                have d_v3 := rd_Ij eS208 (by decide) d_v3
                have d_v4 := rd_Ij eS208 (by decide) d_v4
                have d_v5 := rd_Ij eS208 (by decide) d_v5
                have d_x188 := rd_Ik eS208 o_v0 o_v1 (by decide) d_x188
                have d_x203 := rd_Ik eS208 o_v0 o_v1 (by decide) d_x203
                have d_w179 := rd_Is eS208 (rfl : w179 = w179)
                have ea1 := rf_I eS208 ea1
                have hM := wm_I eS208 hM
                have hl_a1 := hl_I eS208 hl_a1
                have g0 := gr_I eS208 g0
                have gL169 := gr_I eS208 gL169
                have o_a1 := ob_I eS208 o_a1
                have o_v0 := ob_I eS208 o_v0
                have o_v1 := ob_I eS208 o_v1
                have o_v2 := ob_I eS208 o_v2
                intro x209 ex209
                exact ih181 _ _ _ _ _ _ ⟨hI, gL169, fL170, rfl, rfl, rfl, rfl, hM, (q798 h5 c2 c4 c58 c112 ex161 r_x165 q_x165 ex166 i1u167 c182 c183 r_x188 ex189 c191 ex209)⟩ (mu_down (q799 h5 c2 c4 c58 c112 ex161 r_x165 q_x165 ex166 i1u167 c182 c183 r_x188 ex189 c191 ex209) (q800 h5 c2 c4 c58 c112 ex161 r_x165 q_x165 ex166 i1u167 c182 c183 r_x188 ex189 c191 ex209))
  · refine m_X7_makeRows hI o_v0 (fun S211 hJ g212 fc213 p_S211 => ?_)
    have hI := hJ
    have f0 := fri_tr (S := S) g0 f0 fc213 (by decide) (by decide)
    have hl_a1 := hl_g g212 o_a1 hl_a1
    have o_a1 := gr_ob g212 o_a1
    have o_v0 := gr_ob g212 o_v0
    have o_v1 := gr_ob g212 o_v1
    have o_v2 := gr_ob g212 o_v2
    have g0 := gr_tr (T := S) g0 g212
    intro _
    have hM := p_S211
    refine u_X7_reckon_12 ?_
    refine ⟨o_v0, ?_⟩
    intro x214 ex214
    have d_x214 := ex214
    refine ⟨fun c215 => ?_, fun c215 => ?_⟩
    · refine u_X7_reckon_38 ?_
      refine ⟨o_v0, ?_⟩
      intro S216 eS216
      have hI : IV S216 := by rw [eS216]; exact iv_sI hI o_v0 (by decide) (nu_free (by decide))
      have f0 := fr_I eS216 g0 f0 o_v0 (by decide)
      have d_v3 := rd_Is eS216 (rfl : v3 = v3)
      have hM := wm_I eS216 hM
      have hl_a1 := hl_I eS216 hl_a1
      have g0 := gr_I eS216 g0
      have o_a1 := ob_I eS216 o_a1
      have o_v0 := ob_I eS216 o_v0
      have o_v1 := ob_I eS216 o_v1
      have o_v2 := ob_I eS216 o_v2
      intro S217 eS217
      have hI : IV S217 := by rw [eS217]; exact iv_sI hI o_v0 (by decide) (nu_free (by decide))
      have f0 := fr_I eS217 g0 f0 o_v0 (by decide)
      have d_v3 := rd_Ij eS217 (by decide) d_v3
      have d_v4 := rd_Is eS217 (rfl : v4 = v4)
      have hM := wm_I eS217 hM
      have hl_a1 := hl_I eS217 hl_a1
      have g0 := gr_I eS217 g0
      have o_a1 := ob_I eS217 o_a1
      have o_v0 := ob_I eS217 o_v0
      have o_v1 := ob_I eS217 o_v1
      have o_v2 := ob_I eS217 o_v2
      intro S218 eS218
      have hI : IV S218 := by rw [eS218]; exact iv_sI hI o_v0 (by decide) (nu_free (by decide))
      have f0 := fr_I eS218 g0 f0 o_v0 (by decide)
      have d_v3 := rd_Ij eS218 (by decide) d_v3
      have d_v4 := rd_Ij eS218 (by decide) d_v4
      have d_v5 := rd_Is eS218 (rfl : v5 = v5)
      have hM := wm_I eS218 hM
      have hl_a1 := hl_I eS218 hl_a1
      have g0 := gr_I eS218 g0
      have o_a1 := ob_I eS218 o_a1
      have o_v0 := ob_I eS218 o_v0
      have o_v1 := ob_I eS218 o_v1
      have o_v2 := ob_I eS218 o_v2
      intro x219 ex219
      intro S220 eS220
      have hI : IV S220 := by rw [eS220]; exact iv_sI hI o_v0 (by decide) (nu_one (lo := (0 : Int32)) (hi := (401 : Int32)) (by decide) (q801 h5 c2 c215 ex219))
      have f0 := fr_I eS220 g0 f0 o_v0 (by decide)
      have d_v3 := rd_Ij eS220 (by decide) d_v3
      have d_v4 := rd_Ij eS220 (by decide) d_v4
      have d_v5 := rd_Ij eS220 (by decide) d_v5
      have d_x219 := rd_Is eS220 (rfl : x219 = x219)
      have hM := wm_I eS220 hM
      have hl_a1 := hl_I eS220 hl_a1
      have g0 := gr_I eS220 g0
      have o_a1 := ob_I eS220 o_a1
      have o_v0 := ob_I eS220 o_v0
      have o_v1 := ob_I eS220 o_v1
      have o_v2 := ob_I eS220 o_v2
      intro S221 eS221
      have hI : IV S221 := by rw [eS221]; exact iv_sI hI o_v0 (by decide) (nu_free (by decide))
      have f0 := fr_I eS221 g0 f0 o_v0 (by decide)
      have d_v3 := rd_Ij eS221 (by decide) d_v3
      have d_v4 := rd_Ij eS221 (by decide) d_v4
      have d_v5 := rd_Ij eS221 (by decide) d_v5
      have d_x219 := rd_Ij eS221 (by decide) d_x219
      obtain ⟨y222, hy222⟩ : ∃ z : Int32, z = (-1 : Int32) := ⟨_, rfl⟩
      have d_y222 := rd_Is eS221 hy222
      have hM := wm_I eS221 hM
      have hl_a1 := hl_I eS221 hl_a1
      have g0 := gr_I eS221 g0
      have o_a1 := ob_I eS221 o_a1
      have o_v0 := ob_I eS221 o_v0
      have o_v1 := ob_I eS221 o_v1
      have o_v2 := ob_I eS221 o_v2
      refine u_X7_reckon_68 ?_
      refine ⟨o_v0, ?_⟩
      intro x223 ex223
      have r_x223 : (0 : Int32) ≤ x223 ∧ x223 ≤ (401 : Int32) := by rw [ex223]; exact nu 9 rfl hI o_v0
      have q_x223 : x223 = x219 := ex223.trans d_x219.symm
      have d_x223 := ex223
      intro x224 ex224
      refine i_X7_reckon_76 (fun (y0 : Nat) (y1 : Nat) (y2 : Nat) (y6 : Int32) (y7 : Int32) (Z : HS) => (y7.toInt - (-1 : Int32).toInt).toNat) (fun (y0 : Nat) (y1 : Nat) (y2 : Nat) (y6 : Int32) (y7 : Int32) (Z : HS) => (IV Z) ∧ (Gr S221 Z) ∧ (FRI [(7, 3), (7, 9), (7, 13)] [] S221 Z) ∧ (v0 = y0) ∧ (v1 = y1) ∧ (v2 = y2) ∧ (v6 = y6) ∧ (WM Z v0) ∧ (y7 ≤ 400)) ?_ _ _ _ _ _ _ ⟨hI, (gr_rf _), (fri_rf _ _ _), rfl, rfl, rfl, rfl, hM, (q802 h5 c2 c215 ex219 r_x223 q_x223 ex224)⟩
      intro w229 w231 w233 w235 w237 S226 X238 ⟨hI, gL227, fL228, q230, q232, q234, q236, hM, i1u225⟩ ih239
      subst q230
      subst q232
      subst q234
      subst q236
      have d_v3 := d_v3.trans (fri_at fL228 (by decide) (by decide) o_v0).symm
      have d_v4 := d_v4.trans (fri_at fL228 (by decide) (by decide) o_v0).symm
      have d_v5 := d_v5.trans (fri_at fL228 (by decide) (by decide) o_v0).symm
      have f0 := fri_tr (S := S221) g0 f0 fL228 (by decide) (by decide)
      have hl_a1 := hl_g gL227 o_a1 hl_a1
      have o_a1 := gr_ob gL227 o_a1
      have o_v0 := gr_ob gL227 o_v0
      have o_v1 := gr_ob gL227 o_v1
      have o_v2 := gr_ob gL227 o_v2
      have g0 := gr_tr (T := S221) g0 gL227
      refine u_X7_reckon_76 ?_
      refine ⟨fun c240 => ?_, fun c240 => ?_⟩
      · exact hq _ hI g0 f0
      · refine ⟨fun c241 => ?_, fun c241 => ?_⟩
        · exact hq _ hI g0 f0
        · refine ⟨o_v1, ?_⟩
          refine m_X8_hourOf hI o_v1 (fun x242 S243 hI2 g244 p_x242 => ?_)
          subst p_x242
          intro _
          intro x246 ex246
          have r_x246 : (0 : Int32) ≤ x246 ∧ x246 ≤ (6 : Int32) := by rw [ex246]; exact nu 11 rfl hI o_v1
          have d_x246 := ex246
          intro x247 ex247
          refine ⟨o_v0, ?_⟩
          intro x248 ex248
          have d_x248 := ex248
          refine ⟨fun c249 => ?_, fun c249 => ?_⟩
          · refine u_X7_reckon_120 ?_
            refine ⟨o_v1, ?_⟩
            intro x250 ex250
            have r_x250 : (0 : Int32) ≤ x250 ∧ x250 ≤ (8 : Int32) := by rw [ex250]; exact nu 12 rfl hI o_v1
            have d_x250 := ex250
            refine ⟨o_v0, ?_⟩
            refine m_X7_reckonMinute hI o_v0 (q803 c2 c215 i1u225 c240 c241 r_x246 ex247 c249) hM (fun S252 hJ g253 fc254 p_S252 => ?_)
            have hM := p_S252
            have hI := hJ
            have d_v3 := d_v3.trans (fri_at fc254 (by decide) (by decide) o_v0).symm
            have d_v4 := d_v4.trans (fri_at fc254 (by decide) (by decide) o_v0).symm
            have d_v5 := d_v5.trans (fri_at fc254 (by decide) (by decide) o_v0).symm
            have d_x246 := d_x246.trans (fri_at fc254 (by decide) (by decide) o_v1).symm
            have d_x248 := d_x248.trans (fri_at fc254 (by decide) (by decide) o_v0).symm
            have d_x250 := d_x250.trans (fri_at fc254 (by decide) (by decide) o_v1).symm
            have f0 := fri_tr (S := S226) g0 f0 fc254 (by decide) (by decide)
            have fL228 := fri_tr (S := S226) gL227 fL228 fc254 (by decide) (by decide)
            have hl_a1 := hl_g g253 o_a1 hl_a1
            have o_a1 := gr_ob g253 o_a1
            have o_v0 := gr_ob g253 o_v0
            have o_v1 := gr_ob g253 o_v1
            have o_v2 := gr_ob g253 o_v2
            have g0 := gr_tr (T := S226) g0 g253
            have gL227 := gr_tr (T := S226) gL227 g253
            intro _
            intro S255 eS255
            have hI : IV S255 := by rw [eS255]; exact iv_sI hI o_v0 (by decide) (nu_one (lo := (0 : Int32)) (hi := (401 : Int32)) (by decide) (q804 c2 c215 i1u225 c240 c241 r_x246 ex247 c249))
            have f0 := fr_I eS255 g0 f0 o_v0 (by decide)
            have fL228 := fr_I eS255 gL227 fL228 o_v0 (by decide)
            have d_v3 := rd_Ij eS255 (by decide) d_v3
            have d_v4 := rd_Ij eS255 (by decide) d_v4
            have d_v5 := rd_Ij eS255 (by decide) d_v5
            have d_x246 := rd_Ik eS255 o_v0 o_v1 (by decide) d_x246
            have d_x248 := rd_Ij eS255 (by decide) d_x248
            have d_x250 := rd_Ik eS255 o_v0 o_v1 (by decide) d_x250
            have d_w237 := rd_Is eS255 (rfl : w237 = w237)
            have hM := wm_I eS255 hM
            have hl_a1 := hl_I eS255 hl_a1
            have g0 := gr_I eS255 g0
            have gL227 := gr_I eS255 gL227
            have o_a1 := ob_I eS255 o_a1
            have o_v0 := ob_I eS255 o_v0
            have o_v1 := ob_I eS255 o_v1
            have o_v2 := ob_I eS255 o_v2
            intro x256 ex256
            exact ih239 _ _ _ _ _ _ ⟨hI, gL227, fL228, rfl, rfl, rfl, rfl, hM, (q805 c2 c215 i1u225 c240 c241 r_x246 ex247 c249 ex256)⟩ (mu_down (q806 c2 c215 i1u225 c240 c241 r_x246 ex247 c249 ex256) (q807 c2 c215 i1u225 c240 c241 r_x246 ex247 c249 ex256))
          · refine m_X7_price hI o_v0 o_v1 o_v2 hM (fun S258 hJ g259 fc260 p_S258 => ?_)
            have hM := p_S258
            have hI := hJ
            have d_v3 := d_v3.trans (fri_at fc260 (by decide) (by decide) o_v0).symm
            have d_v4 := d_v4.trans (fri_at fc260 (by decide) (by decide) o_v0).symm
            have d_v5 := d_v5.trans (fri_at fc260 (by decide) (by decide) o_v0).symm
            have d_x246 := d_x246.trans (fri_at fc260 (by decide) (by decide) o_v1).symm
            have f0 := fri_tr (S := S226) g0 f0 fc260 (by decide) (by decide)
            have fL228 := fri_tr (S := S226) gL227 fL228 fc260 (by decide) (by decide)
            have hl_a1 := hl_g g259 o_a1 hl_a1
            have o_a1 := gr_ob g259 o_a1
            have o_v0 := gr_ob g259 o_v0
            have o_v1 := gr_ob g259 o_v1
            have o_v2 := gr_ob g259 o_v2
            have g0 := gr_tr (T := S226) g0 g259
            have gL227 := gr_tr (T := S226) gL227 g259
            intro _
            refine u_X7_reckon_120 ?_
            refine ⟨o_v1, ?_⟩
            intro x261 ex261
            have r_x261 : (0 : Int32) ≤ x261 ∧ x261 ≤ (8 : Int32) := by rw [ex261]; exact nu 12 rfl hI o_v1
            have d_x261 := ex261
            refine ⟨o_v0, ?_⟩
            refine m_X7_reckonMinute hI o_v0 (q808 c2 c215 i1u225 c240 c241 r_x246 ex247 c249) hM (fun S263 hJ g264 fc265 p_S263 => ?_)
            have hM := p_S263
            have hI := hJ
            have d_v3 := d_v3.trans (fri_at fc265 (by decide) (by decide) o_v0).symm
            have d_v4 := d_v4.trans (fri_at fc265 (by decide) (by decide) o_v0).symm
            have d_v5 := d_v5.trans (fri_at fc265 (by decide) (by decide) o_v0).symm
            have d_x246 := d_x246.trans (fri_at fc265 (by decide) (by decide) o_v1).symm
            have d_x261 := d_x261.trans (fri_at fc265 (by decide) (by decide) o_v1).symm
            have f0 := fri_tr (S := S258) g0 f0 fc265 (by decide) (by decide)
            have fL228 := fri_tr (S := S258) gL227 fL228 fc265 (by decide) (by decide)
            have hl_a1 := hl_g g264 o_a1 hl_a1
            have o_a1 := gr_ob g264 o_a1
            have o_v0 := gr_ob g264 o_v0
            have o_v1 := gr_ob g264 o_v1
            have o_v2 := gr_ob g264 o_v2
            have g0 := gr_tr (T := S258) g0 g264
            have gL227 := gr_tr (T := S258) gL227 g264
            intro _
            intro S266 eS266
            have hI : IV S266 := by rw [eS266]; exact iv_sI hI o_v0 (by decide) (nu_one (lo := (0 : Int32)) (hi := (401 : Int32)) (by decide) (q809 c2 c215 i1u225 c240 c241 r_x246 ex247 c249))
            have f0 := fr_I eS266 g0 f0 o_v0 (by decide)
            have fL228 := fr_I eS266 gL227 fL228 o_v0 (by decide)
            have d_v3 := rd_Ij eS266 (by decide) d_v3
            have d_v4 := rd_Ij eS266 (by decide) d_v4
            have d_v5 := rd_Ij eS266 (by decide) d_v5
            have d_x246 := rd_Ik eS266 o_v0 o_v1 (by decide) d_x246
            have d_x261 := rd_Ik eS266 o_v0 o_v1 (by decide) d_x261
            have d_w237 := rd_Is eS266 (rfl : w237 = w237)
            have hM := wm_I eS266 hM
            have hl_a1 := hl_I eS266 hl_a1
            have g0 := gr_I eS266 g0
            have gL227 := gr_I eS266 gL227
            have o_a1 := ob_I eS266 o_a1
            have o_v0 := ob_I eS266 o_v0
            have o_v1 := ob_I eS266 o_v1
            have o_v2 := ob_I eS266 o_v2
            intro x267 ex267
            exact ih239 _ _ _ _ _ _ ⟨hI, gL227, fL228, rfl, rfl, rfl, rfl, hM, (q810 c2 c215 i1u225 c240 c241 r_x246 ex247 c249 ex267)⟩ (mu_down (q811 c2 c215 i1u225 c240 c241 r_x246 ex247 c249 ex267) (q812 c2 c215 i1u225 c240 c241 r_x246 ex247 c249 ex267))
    · intro x268 ex268
      have d_x268 := ex268
      refine ⟨fun c269 => ?_, fun c269 => ?_⟩
      · refine u_X7_reckon_38 ?_
        refine ⟨o_v0, ?_⟩
        intro S270 eS270
        have hI : IV S270 := by rw [eS270]; exact iv_sI hI o_v0 (by decide) (nu_free (by decide))
        have f0 := fr_I eS270 g0 f0 o_v0 (by decide)
        have d_x268 := rd_Ij eS270 (by decide) d_x268
        have d_v3 := rd_Is eS270 (rfl : v3 = v3)
        have hM := wm_I eS270 hM
        have hl_a1 := hl_I eS270 hl_a1
        have g0 := gr_I eS270 g0
        have o_a1 := ob_I eS270 o_a1
        have o_v0 := ob_I eS270 o_v0
        have o_v1 := ob_I eS270 o_v1
        have o_v2 := ob_I eS270 o_v2
        intro S271 eS271
        have hI : IV S271 := by rw [eS271]; exact iv_sI hI o_v0 (by decide) (nu_free (by decide))
        have f0 := fr_I eS271 g0 f0 o_v0 (by decide)
        have d_v3 := rd_Ij eS271 (by decide) d_v3
        have d_v4 := rd_Is eS271 (rfl : v4 = v4)
        have hM := wm_I eS271 hM
        have hl_a1 := hl_I eS271 hl_a1
        have g0 := gr_I eS271 g0
        have o_a1 := ob_I eS271 o_a1
        have o_v0 := ob_I eS271 o_v0
        have o_v1 := ob_I eS271 o_v1
        have o_v2 := ob_I eS271 o_v2
        intro S272 eS272
        have hI : IV S272 := by rw [eS272]; exact iv_sI hI o_v0 (by decide) (nu_free (by decide))
        have f0 := fr_I eS272 g0 f0 o_v0 (by decide)
        have d_v3 := rd_Ij eS272 (by decide) d_v3
        have d_v4 := rd_Ij eS272 (by decide) d_v4
        have d_v5 := rd_Is eS272 (rfl : v5 = v5)
        have hM := wm_I eS272 hM
        have hl_a1 := hl_I eS272 hl_a1
        have g0 := gr_I eS272 g0
        have o_a1 := ob_I eS272 o_a1
        have o_v0 := ob_I eS272 o_v0
        have o_v1 := ob_I eS272 o_v1
        have o_v2 := ob_I eS272 o_v2
        intro x273 ex273
        intro S274 eS274
        have hI : IV S274 := by rw [eS274]; exact iv_sI hI o_v0 (by decide) (nu_one (lo := (0 : Int32)) (hi := (401 : Int32)) (by decide) (q813 h5 c2 c215 c269 ex273))
        have f0 := fr_I eS274 g0 f0 o_v0 (by decide)
        have d_v3 := rd_Ij eS274 (by decide) d_v3
        have d_v4 := rd_Ij eS274 (by decide) d_v4
        have d_v5 := rd_Ij eS274 (by decide) d_v5
        have d_x273 := rd_Is eS274 (rfl : x273 = x273)
        have hM := wm_I eS274 hM
        have hl_a1 := hl_I eS274 hl_a1
        have g0 := gr_I eS274 g0
        have o_a1 := ob_I eS274 o_a1
        have o_v0 := ob_I eS274 o_v0
        have o_v1 := ob_I eS274 o_v1
        have o_v2 := ob_I eS274 o_v2
        intro S275 eS275
        have hI : IV S275 := by rw [eS275]; exact iv_sI hI o_v0 (by decide) (nu_free (by decide))
        have f0 := fr_I eS275 g0 f0 o_v0 (by decide)
        have d_v3 := rd_Ij eS275 (by decide) d_v3
        have d_v4 := rd_Ij eS275 (by decide) d_v4
        have d_v5 := rd_Ij eS275 (by decide) d_v5
        have d_x273 := rd_Ij eS275 (by decide) d_x273
        obtain ⟨y276, hy276⟩ : ∃ z : Int32, z = (-1 : Int32) := ⟨_, rfl⟩
        have d_y276 := rd_Is eS275 hy276
        have hM := wm_I eS275 hM
        have hl_a1 := hl_I eS275 hl_a1
        have g0 := gr_I eS275 g0
        have o_a1 := ob_I eS275 o_a1
        have o_v0 := ob_I eS275 o_v0
        have o_v1 := ob_I eS275 o_v1
        have o_v2 := ob_I eS275 o_v2
        refine u_X7_reckon_68 ?_
        refine ⟨o_v0, ?_⟩
        intro x277 ex277
        have r_x277 : (0 : Int32) ≤ x277 ∧ x277 ≤ (401 : Int32) := by rw [ex277]; exact nu 9 rfl hI o_v0
        have q_x277 : x277 = x273 := ex277.trans d_x273.symm
        have d_x277 := ex277
        intro x278 ex278
        refine i_X7_reckon_76 (fun (y0 : Nat) (y1 : Nat) (y2 : Nat) (y6 : Int32) (y7 : Int32) (Z : HS) => (y7.toInt - (-1 : Int32).toInt).toNat) (fun (y0 : Nat) (y1 : Nat) (y2 : Nat) (y6 : Int32) (y7 : Int32) (Z : HS) => (IV Z) ∧ (Gr S275 Z) ∧ (FRI [(7, 3), (7, 9), (7, 13)] [] S275 Z) ∧ (v0 = y0) ∧ (v1 = y1) ∧ (v2 = y2) ∧ (v6 = y6) ∧ (WM Z v0) ∧ (y7 ≤ 400)) ?_ _ _ _ _ _ _ ⟨hI, (gr_rf _), (fri_rf _ _ _), rfl, rfl, rfl, rfl, hM, (q814 h5 c2 c215 c269 ex273 r_x277 q_x277 ex278)⟩
        intro w283 w285 w287 w289 w291 S280 X292 ⟨hI, gL281, fL282, q284, q286, q288, q290, hM, i1u279⟩ ih293
        subst q284
        subst q286
        subst q288
        subst q290
        have d_v3 := d_v3.trans (fri_at fL282 (by decide) (by decide) o_v0).symm
        have d_v4 := d_v4.trans (fri_at fL282 (by decide) (by decide) o_v0).symm
        have d_v5 := d_v5.trans (fri_at fL282 (by decide) (by decide) o_v0).symm
        have f0 := fri_tr (S := S275) g0 f0 fL282 (by decide) (by decide)
        have hl_a1 := hl_g gL281 o_a1 hl_a1
        have o_a1 := gr_ob gL281 o_a1
        have o_v0 := gr_ob gL281 o_v0
        have o_v1 := gr_ob gL281 o_v1
        have o_v2 := gr_ob gL281 o_v2
        have g0 := gr_tr (T := S275) g0 gL281
        refine u_X7_reckon_76 ?_
        refine ⟨fun c294 => ?_, fun c294 => ?_⟩
        · exact hq _ hI g0 f0
        · refine ⟨fun c295 => ?_, fun c295 => ?_⟩
          · exact hq _ hI g0 f0
          · refine ⟨o_v1, ?_⟩
            refine m_X8_hourOf hI o_v1 (fun x296 S297 hI2 g298 p_x296 => ?_)
            subst p_x296
            intro _
            intro x300 ex300
            have r_x300 : (0 : Int32) ≤ x300 ∧ x300 ≤ (6 : Int32) := by rw [ex300]; exact nu 11 rfl hI o_v1
            have d_x300 := ex300
            intro x301 ex301
            refine ⟨o_v0, ?_⟩
            intro x302 ex302
            have d_x302 := ex302
            refine ⟨fun c303 => ?_, fun c303 => ?_⟩
            · refine u_X7_reckon_120 ?_
              refine ⟨o_v1, ?_⟩
              intro x304 ex304
              have r_x304 : (0 : Int32) ≤ x304 ∧ x304 ≤ (8 : Int32) := by rw [ex304]; exact nu 12 rfl hI o_v1
              have d_x304 := ex304
              refine ⟨o_v0, ?_⟩
              refine m_X7_reckonMinute hI o_v0 (q815 c2 c215 c269 i1u279 c294 c295 r_x300 ex301 c303) hM (fun S306 hJ g307 fc308 p_S306 => ?_)
              have hM := p_S306
              have hI := hJ
              have d_v3 := d_v3.trans (fri_at fc308 (by decide) (by decide) o_v0).symm
              have d_v4 := d_v4.trans (fri_at fc308 (by decide) (by decide) o_v0).symm
              have d_v5 := d_v5.trans (fri_at fc308 (by decide) (by decide) o_v0).symm
              have d_x300 := d_x300.trans (fri_at fc308 (by decide) (by decide) o_v1).symm
              have d_x302 := d_x302.trans (fri_at fc308 (by decide) (by decide) o_v0).symm
              have d_x304 := d_x304.trans (fri_at fc308 (by decide) (by decide) o_v1).symm
              have f0 := fri_tr (S := S280) g0 f0 fc308 (by decide) (by decide)
              have fL282 := fri_tr (S := S280) gL281 fL282 fc308 (by decide) (by decide)
              have hl_a1 := hl_g g307 o_a1 hl_a1
              have o_a1 := gr_ob g307 o_a1
              have o_v0 := gr_ob g307 o_v0
              have o_v1 := gr_ob g307 o_v1
              have o_v2 := gr_ob g307 o_v2
              have g0 := gr_tr (T := S280) g0 g307
              have gL281 := gr_tr (T := S280) gL281 g307
              intro _
              intro S309 eS309
              have hI : IV S309 := by rw [eS309]; exact iv_sI hI o_v0 (by decide) (nu_one (lo := (0 : Int32)) (hi := (401 : Int32)) (by decide) (q816 c2 c215 c269 i1u279 c294 c295 r_x300 ex301 c303))
              have f0 := fr_I eS309 g0 f0 o_v0 (by decide)
              have fL282 := fr_I eS309 gL281 fL282 o_v0 (by decide)
              have d_v3 := rd_Ij eS309 (by decide) d_v3
              have d_v4 := rd_Ij eS309 (by decide) d_v4
              have d_v5 := rd_Ij eS309 (by decide) d_v5
              have d_x300 := rd_Ik eS309 o_v0 o_v1 (by decide) d_x300
              have d_x302 := rd_Ij eS309 (by decide) d_x302
              have d_x304 := rd_Ik eS309 o_v0 o_v1 (by decide) d_x304
              have d_w291 := rd_Is eS309 (rfl : w291 = w291)
              have hM := wm_I eS309 hM
              have hl_a1 := hl_I eS309 hl_a1
              have g0 := gr_I eS309 g0
              have gL281 := gr_I eS309 gL281
              have o_a1 := ob_I eS309 o_a1
              have o_v0 := ob_I eS309 o_v0
              have o_v1 := ob_I eS309 o_v1
              have o_v2 := ob_I eS309 o_v2
              intro x310 ex310
              exact ih293 _ _ _ _ _ _ ⟨hI, gL281, fL282, rfl, rfl, rfl, rfl, hM, (q817 c2 c215 c269 i1u279 c294 c295 r_x300 ex301 c303 ex310)⟩ (mu_down (q818 c2 c215 c269 i1u279 c294 c295 r_x300 ex301 c303 ex310) (q819 c2 c215 c269 i1u279 c294 c295 r_x300 ex301 c303 ex310))
            · refine m_X7_price hI o_v0 o_v1 o_v2 hM (fun S312 hJ g313 fc314 p_S312 => ?_)
              have hM := p_S312
              have hI := hJ
              have d_v3 := d_v3.trans (fri_at fc314 (by decide) (by decide) o_v0).symm
              have d_v4 := d_v4.trans (fri_at fc314 (by decide) (by decide) o_v0).symm
              have d_v5 := d_v5.trans (fri_at fc314 (by decide) (by decide) o_v0).symm
              have d_x300 := d_x300.trans (fri_at fc314 (by decide) (by decide) o_v1).symm
              have f0 := fri_tr (S := S280) g0 f0 fc314 (by decide) (by decide)
              have fL282 := fri_tr (S := S280) gL281 fL282 fc314 (by decide) (by decide)
              have hl_a1 := hl_g g313 o_a1 hl_a1
              have o_a1 := gr_ob g313 o_a1
              have o_v0 := gr_ob g313 o_v0
              have o_v1 := gr_ob g313 o_v1
              have o_v2 := gr_ob g313 o_v2
              have g0 := gr_tr (T := S280) g0 g313
              have gL281 := gr_tr (T := S280) gL281 g313
              intro _
              refine u_X7_reckon_120 ?_
              refine ⟨o_v1, ?_⟩
              intro x315 ex315
              have r_x315 : (0 : Int32) ≤ x315 ∧ x315 ≤ (8 : Int32) := by rw [ex315]; exact nu 12 rfl hI o_v1
              have d_x315 := ex315
              refine ⟨o_v0, ?_⟩
              refine m_X7_reckonMinute hI o_v0 (q820 c2 c215 c269 i1u279 c294 c295 r_x300 ex301 c303) hM (fun S317 hJ g318 fc319 p_S317 => ?_)
              have hM := p_S317
              have hI := hJ
              have d_v3 := d_v3.trans (fri_at fc319 (by decide) (by decide) o_v0).symm
              have d_v4 := d_v4.trans (fri_at fc319 (by decide) (by decide) o_v0).symm
              have d_v5 := d_v5.trans (fri_at fc319 (by decide) (by decide) o_v0).symm
              have d_x300 := d_x300.trans (fri_at fc319 (by decide) (by decide) o_v1).symm
              have d_x315 := d_x315.trans (fri_at fc319 (by decide) (by decide) o_v1).symm
              have f0 := fri_tr (S := S312) g0 f0 fc319 (by decide) (by decide)
              have fL282 := fri_tr (S := S312) gL281 fL282 fc319 (by decide) (by decide)
              have hl_a1 := hl_g g318 o_a1 hl_a1
              have o_a1 := gr_ob g318 o_a1
              have o_v0 := gr_ob g318 o_v0
              have o_v1 := gr_ob g318 o_v1
              have o_v2 := gr_ob g318 o_v2
              have g0 := gr_tr (T := S312) g0 g318
              have gL281 := gr_tr (T := S312) gL281 g318
              intro _
              intro S320 eS320
              have hI : IV S320 := by rw [eS320]; exact iv_sI hI o_v0 (by decide) (nu_one (lo := (0 : Int32)) (hi := (401 : Int32)) (by decide) (q821 c2 c215 c269 i1u279 c294 c295 r_x300 ex301 c303))
              have f0 := fr_I eS320 g0 f0 o_v0 (by decide)
              have fL282 := fr_I eS320 gL281 fL282 o_v0 (by decide)
              have d_v3 := rd_Ij eS320 (by decide) d_v3
              have d_v4 := rd_Ij eS320 (by decide) d_v4
              have d_v5 := rd_Ij eS320 (by decide) d_v5
              have d_x300 := rd_Ik eS320 o_v0 o_v1 (by decide) d_x300
              have d_x315 := rd_Ik eS320 o_v0 o_v1 (by decide) d_x315
              have d_w291 := rd_Is eS320 (rfl : w291 = w291)
              have hM := wm_I eS320 hM
              have hl_a1 := hl_I eS320 hl_a1
              have g0 := gr_I eS320 g0
              have gL281 := gr_I eS320 gL281
              have o_a1 := ob_I eS320 o_a1
              have o_v0 := ob_I eS320 o_v0
              have o_v1 := ob_I eS320 o_v1
              have o_v2 := ob_I eS320 o_v2
              intro x321 ex321
              exact ih293 _ _ _ _ _ _ ⟨hI, gL281, fL282, rfl, rfl, rfl, rfl, hM, (q822 c2 c215 c269 i1u279 c294 c295 r_x300 ex301 c303 ex321)⟩ (mu_down (q823 c2 c215 c269 i1u279 c294 c295 r_x300 ex301 c303 ex321) (q824 c2 c215 c269 i1u279 c294 c295 r_x300 ex301 c303 ex321))
      · intro x322 ex322
        have d_x322 := ex322
        refine ⟨fun c323 => ?_, fun c323 => ?_⟩
        · refine u_X7_reckon_68 ?_
          refine ⟨o_v0, ?_⟩
          intro x324 ex324
          have r_x324 : (0 : Int32) ≤ x324 ∧ x324 ≤ (401 : Int32) := by rw [ex324]; exact nu 9 rfl hI o_v0
          have d_x324 := ex324
          intro x325 ex325
          refine i_X7_reckon_76 (fun (y0 : Nat) (y1 : Nat) (y2 : Nat) (y6 : Int32) (y7 : Int32) (Z : HS) => (y7.toInt - (-1 : Int32).toInt).toNat) (fun (y0 : Nat) (y1 : Nat) (y2 : Nat) (y6 : Int32) (y7 : Int32) (Z : HS) => (IV Z) ∧ (Gr S211 Z) ∧ (FRI [(7, 3), (7, 9), (7, 13)] [] S211 Z) ∧ (v0 = y0) ∧ (v1 = y1) ∧ (v2 = y2) ∧ (v6 = y6) ∧ (WM Z v0) ∧ (y7 ≤ 400)) ?_ _ _ _ _ _ _ ⟨hI, (gr_rf _), (fri_rf _ _ _), rfl, rfl, rfl, rfl, hM, (q825 h5 c2 c215 c269 c323 r_x324 ex325)⟩
          intro w330 w332 w334 w336 w338 S327 X339 ⟨hI, gL328, fL329, q331, q333, q335, q337, hM, i1u326⟩ ih340
          subst q331
          subst q333
          subst q335
          subst q337
          have d_x214 := d_x214.trans (fri_at fL329 (by decide) (by decide) o_v0).symm
          have d_x268 := d_x268.trans (fri_at fL329 (by decide) (by decide) o_v0).symm
          have d_x322 := d_x322.trans (fri_at fL329 (by decide) (by decide) o_v0).symm
          have f0 := fri_tr (S := S211) g0 f0 fL329 (by decide) (by decide)
          have hl_a1 := hl_g gL328 o_a1 hl_a1
          have o_a1 := gr_ob gL328 o_a1
          have o_v0 := gr_ob gL328 o_v0
          have o_v1 := gr_ob gL328 o_v1
          have o_v2 := gr_ob gL328 o_v2
          have g0 := gr_tr (T := S211) g0 gL328
          refine u_X7_reckon_76 ?_
          refine ⟨fun c341 => ?_, fun c341 => ?_⟩
          · exact hq _ hI g0 f0
          · refine ⟨fun c342 => ?_, fun c342 => ?_⟩
            · exact hq _ hI g0 f0
            · refine ⟨o_v1, ?_⟩
              refine m_X8_hourOf hI o_v1 (fun x343 S344 hI2 g345 p_x343 => ?_)
              subst p_x343
              intro _
              intro x347 ex347
              have r_x347 : (0 : Int32) ≤ x347 ∧ x347 ≤ (6 : Int32) := by rw [ex347]; exact nu 11 rfl hI o_v1
              have d_x347 := ex347
              intro x348 ex348
              refine ⟨o_v0, ?_⟩
              intro x349 ex349
              have d_x349 := ex349
              refine ⟨fun c350 => ?_, fun c350 => ?_⟩
              · refine u_X7_reckon_120 ?_
                refine ⟨o_v1, ?_⟩
                intro x351 ex351
                have r_x351 : (0 : Int32) ≤ x351 ∧ x351 ≤ (8 : Int32) := by rw [ex351]; exact nu 12 rfl hI o_v1
                have d_x351 := ex351
                refine ⟨o_v0, ?_⟩
                refine m_X7_reckonMinute hI o_v0 (q826 h5 c2 c215 c269 c323 i1u326 c341 c342 r_x347 ex348 c350) hM (fun S353 hJ g354 fc355 p_S353 => ?_)
                have hM := p_S353
                have hI := hJ
                have d_x214 := d_x214.trans (fri_at fc355 (by decide) (by decide) o_v0).symm
                have d_x268 := d_x268.trans (fri_at fc355 (by decide) (by decide) o_v0).symm
                have d_x322 := d_x322.trans (fri_at fc355 (by decide) (by decide) o_v0).symm
                have d_x347 := d_x347.trans (fri_at fc355 (by decide) (by decide) o_v1).symm
                have d_x349 := d_x349.trans (fri_at fc355 (by decide) (by decide) o_v0).symm
                have d_x351 := d_x351.trans (fri_at fc355 (by decide) (by decide) o_v1).symm
                have f0 := fri_tr (S := S327) g0 f0 fc355 (by decide) (by decide)
                have fL329 := fri_tr (S := S327) gL328 fL329 fc355 (by decide) (by decide)
                have hl_a1 := hl_g g354 o_a1 hl_a1
                have o_a1 := gr_ob g354 o_a1
                have o_v0 := gr_ob g354 o_v0
                have o_v1 := gr_ob g354 o_v1
                have o_v2 := gr_ob g354 o_v2
                have g0 := gr_tr (T := S327) g0 g354
                have gL328 := gr_tr (T := S327) gL328 g354
                intro _
                intro S356 eS356
                have hI : IV S356 := by rw [eS356]; exact iv_sI hI o_v0 (by decide) (nu_one (lo := (0 : Int32)) (hi := (401 : Int32)) (by decide) (q827 h5 c2 c215 c269 c323 i1u326 c341 c342 r_x347 ex348 c350))
                have f0 := fr_I eS356 g0 f0 o_v0 (by decide)
                have fL329 := fr_I eS356 gL328 fL329 o_v0 (by decide)
                have d_x214 := rd_Ij eS356 (by decide) d_x214
                have d_x268 := rd_Ij eS356 (by decide) d_x268
                have d_x322 := rd_Ij eS356 (by decide) d_x322
                have d_x347 := rd_Ik eS356 o_v0 o_v1 (by decide) d_x347
                have d_x349 := rd_Ij eS356 (by decide) d_x349
                have d_x351 := rd_Ik eS356 o_v0 o_v1 (by decide) d_x351
                have d_w338 := rd_Is eS356 (rfl : w338 = w338)
                have hM := wm_I eS356 hM
                have hl_a1 := hl_I eS356 hl_a1
                have g0 := gr_I eS356 g0
                have gL328 := gr_I eS356 gL328
                have o_a1 := ob_I eS356 o_a1
                have o_v0 := ob_I eS356 o_v0
                have o_v1 := ob_I eS356 o_v1
                have o_v2 := ob_I eS356 o_v2
                intro x357 ex357
                exact ih340 _ _ _ _ _ _ ⟨hI, gL328, fL329, rfl, rfl, rfl, rfl, hM, (q828 h5 c2 c215 c269 c323 i1u326 c341 c342 r_x347 ex348 c350 ex357)⟩ (mu_down (q829 h5 c2 c215 c269 c323 i1u326 c341 c342 r_x347 ex348 c350 ex357) (q830 h5 c2 c215 c269 c323 i1u326 c341 c342 r_x347 ex348 c350 ex357))
              · refine m_X7_price hI o_v0 o_v1 o_v2 hM (fun S359 hJ g360 fc361 p_S359 => ?_)
                have hM := p_S359
                have hI := hJ
                have d_x214 := d_x214.trans (fri_at fc361 (by decide) (by decide) o_v0).symm
                have d_x268 := d_x268.trans (fri_at fc361 (by decide) (by decide) o_v0).symm
                have d_x322 := d_x322.trans (fri_at fc361 (by decide) (by decide) o_v0).symm
                have d_x347 := d_x347.trans (fri_at fc361 (by decide) (by decide) o_v1).symm
                have f0 := fri_tr (S := S327) g0 f0 fc361 (by decide) (by decide)
                have fL329 := fri_tr (S := S327) gL328 fL329 fc361 (by decide) (by decide)
                have hl_a1 := hl_g g360 o_a1 hl_a1
                have o_a1 := gr_ob g360 o_a1
                have o_v0 := gr_ob g360 o_v0
                have o_v1 := gr_ob g360 o_v1
                have o_v2 := gr_ob g360 o_v2
                have g0 := gr_tr (T := S327) g0 g360
                have gL328 := gr_tr (T := S327) gL328 g360
                intro _
                refine u_X7_reckon_120 ?_
                refine ⟨o_v1, ?_⟩
                intro x362 ex362
                have r_x362 : (0 : Int32) ≤ x362 ∧ x362 ≤ (8 : Int32) := by rw [ex362]; exact nu 12 rfl hI o_v1
                have d_x362 := ex362
                refine ⟨o_v0, ?_⟩
                refine m_X7_reckonMinute hI o_v0 (q831 h5 c2 c215 c269 c323 i1u326 c341 c342 r_x347 ex348 c350) hM (fun S364 hJ g365 fc366 p_S364 => ?_)
                have hM := p_S364
                have hI := hJ
                have d_x214 := d_x214.trans (fri_at fc366 (by decide) (by decide) o_v0).symm
                have d_x268 := d_x268.trans (fri_at fc366 (by decide) (by decide) o_v0).symm
                have d_x322 := d_x322.trans (fri_at fc366 (by decide) (by decide) o_v0).symm
                have d_x347 := d_x347.trans (fri_at fc366 (by decide) (by decide) o_v1).symm
                have d_x362 := d_x362.trans (fri_at fc366 (by decide) (by decide) o_v1).symm
                have f0 := fri_tr (S := S359) g0 f0 fc366 (by decide) (by decide)
                have fL329 := fri_tr (S := S359) gL328 fL329 fc366 (by decide) (by decide)
                have hl_a1 := hl_g g365 o_a1 hl_a1
                have o_a1 := gr_ob g365 o_a1
                have o_v0 := gr_ob g365 o_v0
                have o_v1 := gr_ob g365 o_v1
                have o_v2 := gr_ob g365 o_v2
                have g0 := gr_tr (T := S359) g0 g365
                have gL328 := gr_tr (T := S359) gL328 g365
                intro _
                intro S367 eS367
                have hI : IV S367 := by rw [eS367]; exact iv_sI hI o_v0 (by decide) (nu_one (lo := (0 : Int32)) (hi := (401 : Int32)) (by decide) (q832 h5 c2 c215 c269 c323 i1u326 c341 c342 r_x347 ex348 c350))
                have f0 := fr_I eS367 g0 f0 o_v0 (by decide)
                have fL329 := fr_I eS367 gL328 fL329 o_v0 (by decide)
                have d_x214 := rd_Ij eS367 (by decide) d_x214
                have d_x268 := rd_Ij eS367 (by decide) d_x268
                have d_x322 := rd_Ij eS367 (by decide) d_x322
                have d_x347 := rd_Ik eS367 o_v0 o_v1 (by decide) d_x347
                have d_x362 := rd_Ik eS367 o_v0 o_v1 (by decide) d_x362
                have d_w338 := rd_Is eS367 (rfl : w338 = w338)
                have hM := wm_I eS367 hM
                have hl_a1 := hl_I eS367 hl_a1
                have g0 := gr_I eS367 g0
                have gL328 := gr_I eS367 gL328
                have o_a1 := ob_I eS367 o_a1
                have o_v0 := ob_I eS367 o_v0
                have o_v1 := ob_I eS367 o_v1
                have o_v2 := ob_I eS367 o_v2
                intro x368 ex368
                exact ih340 _ _ _ _ _ _ ⟨hI, gL328, fL329, rfl, rfl, rfl, rfl, hM, (q833 h5 c2 c215 c269 c323 i1u326 c341 c342 r_x347 ex348 c350 ex368)⟩ (mu_down (q834 h5 c2 c215 c269 c323 i1u326 c341 c342 r_x347 ex348 c350 ex368) (q835 h5 c2 c215 c269 c323 i1u326 c341 c342 r_x347 ex348 c350 ex368))
        · refine u_X7_reckon_38 ?_
          refine ⟨o_v0, ?_⟩
          intro S369 eS369
          have hI : IV S369 := by rw [eS369]; exact iv_sI hI o_v0 (by decide) (nu_free (by decide))
          have f0 := fr_I eS369 g0 f0 o_v0 (by decide)
          have d_x268 := rd_Ij eS369 (by decide) d_x268
          have d_x322 := rd_Ij eS369 (by decide) d_x322
          have d_v3 := rd_Is eS369 (rfl : v3 = v3)
          have hM := wm_I eS369 hM
          have hl_a1 := hl_I eS369 hl_a1
          have g0 := gr_I eS369 g0
          have o_a1 := ob_I eS369 o_a1
          have o_v0 := ob_I eS369 o_v0
          have o_v1 := ob_I eS369 o_v1
          have o_v2 := ob_I eS369 o_v2
          intro S370 eS370
          have hI : IV S370 := by rw [eS370]; exact iv_sI hI o_v0 (by decide) (nu_free (by decide))
          have f0 := fr_I eS370 g0 f0 o_v0 (by decide)
          have d_x322 := rd_Ij eS370 (by decide) d_x322
          have d_v3 := rd_Ij eS370 (by decide) d_v3
          have d_v4 := rd_Is eS370 (rfl : v4 = v4)
          have hM := wm_I eS370 hM
          have hl_a1 := hl_I eS370 hl_a1
          have g0 := gr_I eS370 g0
          have o_a1 := ob_I eS370 o_a1
          have o_v0 := ob_I eS370 o_v0
          have o_v1 := ob_I eS370 o_v1
          have o_v2 := ob_I eS370 o_v2
          intro S371 eS371
          have hI : IV S371 := by rw [eS371]; exact iv_sI hI o_v0 (by decide) (nu_free (by decide))
          have f0 := fr_I eS371 g0 f0 o_v0 (by decide)
          have d_v3 := rd_Ij eS371 (by decide) d_v3
          have d_v4 := rd_Ij eS371 (by decide) d_v4
          have d_v5 := rd_Is eS371 (rfl : v5 = v5)
          have hM := wm_I eS371 hM
          have hl_a1 := hl_I eS371 hl_a1
          have g0 := gr_I eS371 g0
          have o_a1 := ob_I eS371 o_a1
          have o_v0 := ob_I eS371 o_v0
          have o_v1 := ob_I eS371 o_v1
          have o_v2 := ob_I eS371 o_v2
          intro x372 ex372
          intro S373 eS373
          have hI : IV S373 := by rw [eS373]; exact iv_sI hI o_v0 (by decide) (nu_one (lo := (0 : Int32)) (hi := (401 : Int32)) (by decide) (q836 h5 c2 c215 c269 c323 ex372))
          have f0 := fr_I eS373 g0 f0 o_v0 (by decide)
          have d_v3 := rd_Ij eS373 (by decide) d_v3
          have d_v4 := rd_Ij eS373 (by decide) d_v4
          have d_v5 := rd_Ij eS373 (by decide) d_v5
          have d_x372 := rd_Is eS373 (rfl : x372 = x372)
          have hM := wm_I eS373 hM
          have hl_a1 := hl_I eS373 hl_a1
          have g0 := gr_I eS373 g0
          have o_a1 := ob_I eS373 o_a1
          have o_v0 := ob_I eS373 o_v0
          have o_v1 := ob_I eS373 o_v1
          have o_v2 := ob_I eS373 o_v2
          intro S374 eS374
          have hI : IV S374 := by rw [eS374]; exact iv_sI hI o_v0 (by decide) (nu_free (by decide))
          have f0 := fr_I eS374 g0 f0 o_v0 (by decide)
          have d_v3 := rd_Ij eS374 (by decide) d_v3
          have d_v4 := rd_Ij eS374 (by decide) d_v4
          have d_v5 := rd_Ij eS374 (by decide) d_v5
          have d_x372 := rd_Ij eS374 (by decide) d_x372
          obtain ⟨y375, hy375⟩ : ∃ z : Int32, z = (-1 : Int32) := ⟨_, rfl⟩
          have d_y375 := rd_Is eS374 hy375
          have hM := wm_I eS374 hM
          have hl_a1 := hl_I eS374 hl_a1
          have g0 := gr_I eS374 g0
          have o_a1 := ob_I eS374 o_a1
          have o_v0 := ob_I eS374 o_v0
          have o_v1 := ob_I eS374 o_v1
          have o_v2 := ob_I eS374 o_v2
          refine u_X7_reckon_68 ?_
          refine ⟨o_v0, ?_⟩
          intro x376 ex376
          have r_x376 : (0 : Int32) ≤ x376 ∧ x376 ≤ (401 : Int32) := by rw [ex376]; exact nu 9 rfl hI o_v0
          have q_x376 : x376 = x372 := ex376.trans d_x372.symm
          have d_x376 := ex376
          intro x377 ex377
          refine i_X7_reckon_76 (fun (y0 : Nat) (y1 : Nat) (y2 : Nat) (y6 : Int32) (y7 : Int32) (Z : HS) => (y7.toInt - (-1 : Int32).toInt).toNat) (fun (y0 : Nat) (y1 : Nat) (y2 : Nat) (y6 : Int32) (y7 : Int32) (Z : HS) => (IV Z) ∧ (Gr S374 Z) ∧ (FRI [(7, 3), (7, 9), (7, 13)] [] S374 Z) ∧ (v0 = y0) ∧ (v1 = y1) ∧ (v2 = y2) ∧ (v6 = y6) ∧ (WM Z v0) ∧ (y7 ≤ 400)) ?_ _ _ _ _ _ _ ⟨hI, (gr_rf _), (fri_rf _ _ _), rfl, rfl, rfl, rfl, hM, (q837 h5 c2 c215 c269 c323 ex372 r_x376 q_x376 ex377)⟩
          intro w382 w384 w386 w388 w390 S379 X391 ⟨hI, gL380, fL381, q383, q385, q387, q389, hM, i1u378⟩ ih392
          subst q383
          subst q385
          subst q387
          subst q389
          have d_v3 := d_v3.trans (fri_at fL381 (by decide) (by decide) o_v0).symm
          have d_v4 := d_v4.trans (fri_at fL381 (by decide) (by decide) o_v0).symm
          have d_v5 := d_v5.trans (fri_at fL381 (by decide) (by decide) o_v0).symm
          have f0 := fri_tr (S := S374) g0 f0 fL381 (by decide) (by decide)
          have hl_a1 := hl_g gL380 o_a1 hl_a1
          have o_a1 := gr_ob gL380 o_a1
          have o_v0 := gr_ob gL380 o_v0
          have o_v1 := gr_ob gL380 o_v1
          have o_v2 := gr_ob gL380 o_v2
          have g0 := gr_tr (T := S374) g0 gL380
          refine u_X7_reckon_76 ?_
          refine ⟨fun c393 => ?_, fun c393 => ?_⟩
          · exact hq _ hI g0 f0
          · refine ⟨fun c394 => ?_, fun c394 => ?_⟩
            · exact hq _ hI g0 f0
            · refine ⟨o_v1, ?_⟩
              refine m_X8_hourOf hI o_v1 (fun x395 S396 hI2 g397 p_x395 => ?_)
              subst p_x395
              intro _
              intro x399 ex399
              have r_x399 : (0 : Int32) ≤ x399 ∧ x399 ≤ (6 : Int32) := by rw [ex399]; exact nu 11 rfl hI o_v1
              have d_x399 := ex399
              intro x400 ex400
              refine ⟨o_v0, ?_⟩
              intro x401 ex401
              have d_x401 := ex401
              refine ⟨fun c402 => ?_, fun c402 => ?_⟩
              · refine u_X7_reckon_120 ?_
                refine ⟨o_v1, ?_⟩
                intro x403 ex403
                have r_x403 : (0 : Int32) ≤ x403 ∧ x403 ≤ (8 : Int32) := by rw [ex403]; exact nu 12 rfl hI o_v1
                have d_x403 := ex403
                refine ⟨o_v0, ?_⟩
                refine m_X7_reckonMinute hI o_v0 (q838 h5 c2 c215 c269 c323 ex372 r_x376 q_x376 ex377 i1u378 c393 c394 r_x399 ex400 c402) hM (fun S405 hJ g406 fc407 p_S405 => ?_)
                have hM := p_S405
                have hI := hJ
                have d_v3 := d_v3.trans (fri_at fc407 (by decide) (by decide) o_v0).symm
                have d_v4 := d_v4.trans (fri_at fc407 (by decide) (by decide) o_v0).symm
                have d_v5 := d_v5.trans (fri_at fc407 (by decide) (by decide) o_v0).symm
                have d_x399 := d_x399.trans (fri_at fc407 (by decide) (by decide) o_v1).symm
                have d_x401 := d_x401.trans (fri_at fc407 (by decide) (by decide) o_v0).symm
                have d_x403 := d_x403.trans (fri_at fc407 (by decide) (by decide) o_v1).symm
                have f0 := fri_tr (S := S379) g0 f0 fc407 (by decide) (by decide)
                have fL381 := fri_tr (S := S379) gL380 fL381 fc407 (by decide) (by decide)
                have hl_a1 := hl_g g406 o_a1 hl_a1
                have o_a1 := gr_ob g406 o_a1
                have o_v0 := gr_ob g406 o_v0
                have o_v1 := gr_ob g406 o_v1
                have o_v2 := gr_ob g406 o_v2
                have g0 := gr_tr (T := S379) g0 g406
                have gL380 := gr_tr (T := S379) gL380 g406
                intro _
                intro S408 eS408
                have hI : IV S408 := by rw [eS408]; exact iv_sI hI o_v0 (by decide) (nu_one (lo := (0 : Int32)) (hi := (401 : Int32)) (by decide) (q839 h5 c2 c215 c269 c323 ex372 r_x376 q_x376 ex377 i1u378 c393 c394 r_x399 ex400 c402))
                have f0 := fr_I eS408 g0 f0 o_v0 (by decide)
                have fL381 := fr_I eS408 gL380 fL381 o_v0 (by decide)
                have d_v3 := rd_Ij eS408 (by decide) d_v3
                have d_v4 := rd_Ij eS408 (by decide) d_v4
                have d_v5 := rd_Ij eS408 (by decide) d_v5
                have d_x399 := rd_Ik eS408 o_v0 o_v1 (by decide) d_x399
                have d_x401 := rd_Ij eS408 (by decide) d_x401
                have d_x403 := rd_Ik eS408 o_v0 o_v1 (by decide) d_x403
                have d_w390 := rd_Is eS408 (rfl : w390 = w390)
                have hM := wm_I eS408 hM
                have hl_a1 := hl_I eS408 hl_a1
                have g0 := gr_I eS408 g0
                have gL380 := gr_I eS408 gL380
                have o_a1 := ob_I eS408 o_a1
                have o_v0 := ob_I eS408 o_v0
                have o_v1 := ob_I eS408 o_v1
                have o_v2 := ob_I eS408 o_v2
                intro x409 ex409
                exact ih392 _ _ _ _ _ _ ⟨hI, gL380, fL381, rfl, rfl, rfl, rfl, hM, (q840 h5 c2 c215 c269 c323 ex372 r_x376 q_x376 ex377 i1u378 c393 c394 r_x399 ex400 c402 ex409)⟩ (mu_down (q841 h5 c2 c215 c269 c323 ex372 r_x376 q_x376 ex377 i1u378 c393 c394 r_x399 ex400 c402 ex409) (q842 h5 c2 c215 c269 c323 ex372 r_x376 q_x376 ex377 i1u378 c393 c394 r_x399 ex400 c402 ex409))
              · refine m_X7_price hI o_v0 o_v1 o_v2 hM (fun S411 hJ g412 fc413 p_S411 => ?_)
                have hM := p_S411
                have hI := hJ
                have d_v3 := d_v3.trans (fri_at fc413 (by decide) (by decide) o_v0).symm
                have d_v4 := d_v4.trans (fri_at fc413 (by decide) (by decide) o_v0).symm
                have d_v5 := d_v5.trans (fri_at fc413 (by decide) (by decide) o_v0).symm
                have d_x399 := d_x399.trans (fri_at fc413 (by decide) (by decide) o_v1).symm
                have f0 := fri_tr (S := S379) g0 f0 fc413 (by decide) (by decide)
                have fL381 := fri_tr (S := S379) gL380 fL381 fc413 (by decide) (by decide)
                have hl_a1 := hl_g g412 o_a1 hl_a1
                have o_a1 := gr_ob g412 o_a1
                have o_v0 := gr_ob g412 o_v0
                have o_v1 := gr_ob g412 o_v1
                have o_v2 := gr_ob g412 o_v2
                have g0 := gr_tr (T := S379) g0 g412
                have gL380 := gr_tr (T := S379) gL380 g412
                intro _
                refine u_X7_reckon_120 ?_
                refine ⟨o_v1, ?_⟩
                intro x414 ex414
                have r_x414 : (0 : Int32) ≤ x414 ∧ x414 ≤ (8 : Int32) := by rw [ex414]; exact nu 12 rfl hI o_v1
                have d_x414 := ex414
                refine ⟨o_v0, ?_⟩
                refine m_X7_reckonMinute hI o_v0 (q843 h5 c2 c215 c269 c323 ex372 r_x376 q_x376 ex377 i1u378 c393 c394 r_x399 ex400 c402) hM (fun S416 hJ g417 fc418 p_S416 => ?_)
                have hM := p_S416
                have hI := hJ
                have d_v3 := d_v3.trans (fri_at fc418 (by decide) (by decide) o_v0).symm
                have d_v4 := d_v4.trans (fri_at fc418 (by decide) (by decide) o_v0).symm
                have d_v5 := d_v5.trans (fri_at fc418 (by decide) (by decide) o_v0).symm
                have d_x399 := d_x399.trans (fri_at fc418 (by decide) (by decide) o_v1).symm
                have d_x414 := d_x414.trans (fri_at fc418 (by decide) (by decide) o_v1).symm
                have f0 := fri_tr (S := S411) g0 f0 fc418 (by decide) (by decide)
                have fL381 := fri_tr (S := S411) gL380 fL381 fc418 (by decide) (by decide)
                have hl_a1 := hl_g g417 o_a1 hl_a1
                have o_a1 := gr_ob g417 o_a1
                have o_v0 := gr_ob g417 o_v0
                have o_v1 := gr_ob g417 o_v1
                have o_v2 := gr_ob g417 o_v2
                have g0 := gr_tr (T := S411) g0 g417
                have gL380 := gr_tr (T := S411) gL380 g417
                intro _
                intro S419 eS419
                have hI : IV S419 := by rw [eS419]; exact iv_sI hI o_v0 (by decide) (nu_one (lo := (0 : Int32)) (hi := (401 : Int32)) (by decide) (q844 h5 c2 c215 c269 c323 ex372 r_x376 q_x376 ex377 i1u378 c393 c394 r_x399 ex400 c402))
                have f0 := fr_I eS419 g0 f0 o_v0 (by decide)
                have fL381 := fr_I eS419 gL380 fL381 o_v0 (by decide)
                have d_v3 := rd_Ij eS419 (by decide) d_v3
                have d_v4 := rd_Ij eS419 (by decide) d_v4
                have d_v5 := rd_Ij eS419 (by decide) d_v5
                have d_x399 := rd_Ik eS419 o_v0 o_v1 (by decide) d_x399
                have d_x414 := rd_Ik eS419 o_v0 o_v1 (by decide) d_x414
                have d_w390 := rd_Is eS419 (rfl : w390 = w390)
                have hM := wm_I eS419 hM
                have hl_a1 := hl_I eS419 hl_a1
                have g0 := gr_I eS419 g0
                have gL380 := gr_I eS419 gL380
                have o_a1 := ob_I eS419 o_a1
                have o_v0 := ob_I eS419 o_v0
                have o_v1 := ob_I eS419 o_v1
                have o_v2 := ob_I eS419 o_v2
                intro x420 ex420
                exact ih392 _ _ _ _ _ _ ⟨hI, gL380, fL381, rfl, rfl, rfl, rfl, hM, (q845 h5 c2 c215 c269 c323 ex372 r_x376 q_x376 ex377 i1u378 c393 c394 r_x399 ex400 c402 ex420)⟩ (mu_down (q846 h5 c2 c215 c269 c323 ex372 r_x376 q_x376 ex377 i1u378 c393 c394 r_x399 ex400 c402 ex420) (q847 h5 c2 c215 c269 c323 ex372 r_x376 q_x376 ex377 i1u378 c393 c394 r_x399 ex400 c402 ex420))
