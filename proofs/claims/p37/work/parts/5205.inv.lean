set_option maxHeartbeats 4000000 in
set_option maxRecDepth 20000 in
theorem m_X4_side {v0 : Nat} {Q : Int32 → HS → Prop} {S : HS} (hI : IV S) (o_v0 : ob S v0 4)    (hT : TX S v0) (hq : ∀ (r : Int32) (T : HS), IV T → Gr S T → FRI [(4, 0), (4, 1), (4, 4), (4, 6), (4, 7), (4, 9)] [] S T → bl r → (TX T v0) → Q r T) : P_X4_side v0 Q S := by
  have g0 := gr_rf S
  have f0 := fri_rf [(4, 0), (4, 1), (4, 4), (4, 6), (4, 7), (4, 9)] [] S
  refine u_X4_side ?_
  refine u_X4_side_0 ?_
  refine ⟨o_v0, ?_⟩
  refine m_X4_is hI o_v0 (by decide) hT (fun x1 S2 hI2 g3 b_x1 p_x1 => ?_)
  subst p_x1
  intro _ _
  have bb_x1 : x1 = 0 ∨ x1 = 1 := b_x1
  refine ⟨fun c5 => ?_, fun c5 => ?_⟩
  · refine m_X4_is hI o_v0 (by decide) hT (fun x6 S7 hI2 g8 b_x6 p_x6 => ?_)
    subst p_x6
    intro _ _
    have bb_x6 : x6 = 0 ∨ x6 = 1 := b_x6
    refine ⟨fun c10 => ?_, fun c10 => ?_⟩
    · refine m_X4_is hI o_v0 (by decide) hT (fun x11 S12 hI2 g13 b_x11 p_x11 => ?_)
      subst p_x11
      intro _ _
      have bb_x11 : x11 = 0 ∨ x11 = 1 := b_x11
      refine ⟨fun c15 => ?_, fun c15 => ?_⟩
      · refine m_X4_is hI o_v0 (by decide) hT (fun x16 S17 hI2 g18 b_x16 p_x16 => ?_)
        subst p_x16
        intro _ _
        have bb_x16 : x16 = 0 ∨ x16 = 1 := b_x16
        refine ⟨fun c20 => ?_, fun c20 => ?_⟩
        · refine u_X4_fail ?_
          refine u_X4_fail_0 ?_
          refine ⟨o_v0, ?_⟩
          intro S21 eS21
          have hI : IV S21 := by rw [eS21]; exact iv_sI hI o_v0 (by decide) (nu_free (by decide))
          have f0 := fr_I eS21 g0 f0 o_v0 (by decide)
          obtain ⟨y22, hy22⟩ : ∃ z : Int32, z = (1 : Int32) := ⟨_, rfl⟩
          have d_y22 := rd_Is eS21 hy22
          have hT := tx_I eS21 hT
          have g0 := gr_I eS21 g0
          have o_v0 := ob_I eS21 o_v0
          intro x23 ex23
          have d_x23 := ex23
          intro S24 eS24
          have hI : IV S24 := by rw [eS24]; exact iv_sI hI o_v0 (by decide) (nu_free (by decide))
          have f0 := fr_I eS24 g0 f0 o_v0 (by decide)
          have d_y22 := rd_Ij eS24 (by decide) d_y22
          have d_x23 := rd_Ij eS24 (by decide) d_x23
          obtain ⟨y25, hy25⟩ : ∃ z : Int32, z = x23 := ⟨_, rfl⟩
          have d_y25 := rd_Is eS24 hy25
          have hT := tx_I eS24 hT
          have g0 := gr_I eS24 g0
          have o_v0 := ob_I eS24 o_v0
          intro _ _
          refine ⟨(Or.inl rfl), ?_⟩
          exact hq _ _ hI g0 f0 (Or.inl rfl) hT
        · intro S27 eS27
          have hI : IV S27 := by rw [eS27]; exact iv_sI hI o_v0 (by decide) (nu_free (by decide))
          have f0 := fr_I eS27 g0 f0 o_v0 (by decide)
          obtain ⟨y28, hy28⟩ : ∃ z : Int32, z = (3 : Int32) := ⟨_, rfl⟩
          have d_y28 := rd_Is eS27 hy28
          have hT := tx_I eS27 hT
          have g0 := gr_I eS27 g0
          have o_v0 := ob_I eS27 o_v0
          refine u_X4_side_74 ?_
          refine ⟨o_v0, ?_⟩
          refine m_X4_next hI o_v0 hT (fun S30 hJ g31 fc32 p_S30 => ?_)
          have hT := p_S30
          have hI := hJ
          have d_y28 := d_y28.trans (fri_at fc32 (by decide) (by decide) o_v0).symm
          have f0 := fri_tr (S := S27) g0 f0 fc32 (by decide) (by decide)
          have o_v0 := gr_ob g31 o_v0
          have g0 := gr_tr (T := S27) g0 g31
          intro _
          exact hq _ _ hI g0 f0 (Or.inr rfl) hT
      · intro S33 eS33
        have hI : IV S33 := by rw [eS33]; exact iv_sI hI o_v0 (by decide) (nu_free (by decide))
        have f0 := fr_I eS33 g0 f0 o_v0 (by decide)
        obtain ⟨y34, hy34⟩ : ∃ z : Int32, z = (2 : Int32) := ⟨_, rfl⟩
        have d_y34 := rd_Is eS33 hy34
        have hT := tx_I eS33 hT
        have g0 := gr_I eS33 g0
        have o_v0 := ob_I eS33 o_v0
        refine u_X4_side_74 ?_
        refine ⟨o_v0, ?_⟩
        refine m_X4_next hI o_v0 hT (fun S36 hJ g37 fc38 p_S36 => ?_)
        have hT := p_S36
        have hI := hJ
        have d_y34 := d_y34.trans (fri_at fc38 (by decide) (by decide) o_v0).symm
        have f0 := fri_tr (S := S33) g0 f0 fc38 (by decide) (by decide)
        have o_v0 := gr_ob g37 o_v0
        have g0 := gr_tr (T := S33) g0 g37
        intro _
        exact hq _ _ hI g0 f0 (Or.inr rfl) hT
    · intro S39 eS39
      have hI : IV S39 := by rw [eS39]; exact iv_sI hI o_v0 (by decide) (nu_free (by decide))
      have f0 := fr_I eS39 g0 f0 o_v0 (by decide)
      obtain ⟨y40, hy40⟩ : ∃ z : Int32, z = (1 : Int32) := ⟨_, rfl⟩
      have d_y40 := rd_Is eS39 hy40
      have hT := tx_I eS39 hT
      have g0 := gr_I eS39 g0
      have o_v0 := ob_I eS39 o_v0
      refine u_X4_side_74 ?_
      refine ⟨o_v0, ?_⟩
      refine m_X4_next hI o_v0 hT (fun S42 hJ g43 fc44 p_S42 => ?_)
      have hT := p_S42
      have hI := hJ
      have d_y40 := d_y40.trans (fri_at fc44 (by decide) (by decide) o_v0).symm
      have f0 := fri_tr (S := S39) g0 f0 fc44 (by decide) (by decide)
      have o_v0 := gr_ob g43 o_v0
      have g0 := gr_tr (T := S39) g0 g43
      intro _
      exact hq _ _ hI g0 f0 (Or.inr rfl) hT
  · intro S45 eS45
    have hI : IV S45 := by rw [eS45]; exact iv_sI hI o_v0 (by decide) (nu_free (by decide))
    have f0 := fr_I eS45 g0 f0 o_v0 (by decide)
    obtain ⟨y46, hy46⟩ : ∃ z : Int32, z = (0 : Int32) := ⟨_, rfl⟩
    have d_y46 := rd_Is eS45 hy46
    have hT := tx_I eS45 hT
    have g0 := gr_I eS45 g0
    have o_v0 := ob_I eS45 o_v0
    refine u_X4_side_74 ?_
    refine ⟨o_v0, ?_⟩
    refine m_X4_next hI o_v0 hT (fun S48 hJ g49 fc50 p_S48 => ?_)
    have hT := p_S48
    have hI := hJ
    have d_y46 := d_y46.trans (fri_at fc50 (by decide) (by decide) o_v0).symm
    have f0 := fri_tr (S := S45) g0 f0 fc50 (by decide) (by decide)
    have o_v0 := gr_ob g49 o_v0
    have g0 := gr_tr (T := S45) g0 g49
    intro _
    exact hq _ _ hI g0 f0 (Or.inr rfl) hT
set_option maxHeartbeats 4000000 in
set_option maxRecDepth 20000 in
theorem m_X4_rainLine {v0 : Nat} {Q : Int32 → HS → Prop} {S : HS} (hI : IV S) (o_v0 : ob S v0 4)   (hrm : RM S v0 1 6) (hT : TX S v0) (hq : ∀ (r : Int32) (T : HS), IV T → Gr S T → FRI [(3, 0), (3, 1), (3, 2), (3, 3), (3, 4), (4, 0), (4, 1), (4, 4), (4, 6), (4, 7), (4, 9), (8, 1)] [] S T → bl r → (TX T v0) → Q r T) : P_X4_rainLine v0 Q S := by
  have g0 := gr_rf S
  have f0 := fri_rf [(3, 0), (3, 1), (3, 2), (3, 3), (3, 4), (4, 0), (4, 1), (4, 4), (4, 6), (4, 7), (4, 9), (8, 1)] [] S
  obtain ⟨a1, ea1, o_a1, -⟩ := sh 12 rfl hI o_v0
  obtain ⟨y2, d_y2⟩ : ∃ z : Int32, z = fI S a1 1 := ⟨_, rfl⟩
  have hr_y2 : y2 < (6 : Int32) := by rw [d_y2]; exact hrm _ ea1
  have r_y2 : (0 : Int32) ≤ y2 ∧ y2 ≤ (6 : Int32) := by rw [d_y2]; exact nu 11 rfl hI o_a1
  refine u_X4_rainLine ?_
  refine u_X4_rainLine_0 ?_
  refine ⟨o_v0, ?_⟩
  refine ⟨a1, ea1, ?_⟩
  refine ⟨o_a1, ?_⟩
  obtain ⟨a4, ea4, o_a4, l_a4⟩ := shl 15 rfl hI o_a1
  refine ⟨a4, ea4, ?_⟩
  refine ⟨a1, ea1, ?_⟩
  refine ⟨o_a1, ?_⟩
  intro x6 ex6
  have r_x6 : (0 : Int32) ≤ x6 ∧ x6 ≤ (6 : Int32) := by rw [ex6]; exact nu 11 rfl hI o_a1
  have q_x6 : x6 = y2 := ex6.trans d_y2.symm
  have d_x6 := ex6
  refine ⟨o_a4, ?_⟩
  have i8 : vp_in x6 (hN _ a4) := (vin l_a4 (m := 6) (by decide) (q215 hr_y2 r_y2 r_x6 q_x6))
  obtain ⟨a7, ea7, o_a7⟩ := ae hI o_a4 (by decide) (by decide) i8
  replace o_a7 : ob _ a7 3 := o_a7
  refine ⟨i8, a7, ea7, ?_⟩
  refine m_X4_wordAndWhole hI o_v0 (by decide) hT (fun x9 S10 hJ g11 fc12 b_x9 p_x9 => ?_)
  obtain ⟨hT, pf9_S10⟩ := p_x9
  have hI := hJ
  have l_a4 := (gr_len g11 o_a4).trans l_a4
  have d_x6 := d_x6.trans (fri_at fc12 (by decide) (by decide) o_a1).symm
  have ea1 := (frr_at fc12 (by decide) (by decide) o_v0).trans ea1
  have ea4 := (frr_at fc12 (by decide) (by decide) o_a1).trans ea4
  have f0 := fri_tr (S := S) g0 f0 fc12 (by decide) (by decide)
  have o_a1 := gr_ob g11 o_a1
  have o_a4 := gr_ob g11 o_a4
  have o_a7 := gr_ob g11 o_a7
  have o_v0 := gr_ob g11 o_v0
  have g0 := gr_tr (T := S) g0 g11
  obtain ⟨y13, d_y13⟩ : ∃ z : Int32, z = fI S10 v0 9 := ⟨_, rfl⟩
  have p_y13 : x9 = 1 → (0 : Int32) ≤ y13 ∧ y13 ≤ (9 : Int32) := by rw [d_y13]; exact pf9_S10
  intro _ _
  have bb_x9 : x9 = 0 ∨ x9 = 1 := b_x9
  refine ⟨fun c14 => ?_, fun c14 => ?_⟩
  · intro x15 ex15
    have q_x15 : x15 = y13 := ex15.trans d_y13.symm
    have d_x15 := ex15
    refine ⟨o_a7, ?_⟩
    intro S16 eS16
    have hI : IV S16 := by rw [eS16]; exact iv_sI hI o_a7 (by decide) (nu_free (by decide))
    have f0 := fr_I eS16 g0 f0 o_a7 (by decide)
    have d_x6 := rd_Ik eS16 o_a7 o_a1 (by decide) d_x6
    have d_x15 := rd_Ik eS16 o_a7 o_v0 (by decide) d_x15
    obtain ⟨y17, hy17⟩ : ∃ z : Int32, z = x15 := ⟨_, rfl⟩
    have d_y17 := rd_Is eS16 hy17
    have ea1 := rf_I eS16 ea1
    have ea4 := rf_I eS16 ea4
    have hT := tx_I eS16 hT
    have l_a4 := ln_I eS16 l_a4
    have g0 := gr_I eS16 g0
    have o_a1 := ob_I eS16 o_a1
    have o_a4 := ob_I eS16 o_a4
    have o_a7 := ob_I eS16 o_a7
    have o_v0 := ob_I eS16 o_v0
    refine m_X4_wordAndWhole hI o_v0 (by decide) hT (fun x18 S19 hJ g20 fc21 b_x18 p_x18 => ?_)
    obtain ⟨hT, pf9_S19⟩ := p_x18
    have hI := hJ
    have l_a4 := (gr_len g20 o_a4).trans l_a4
    have d_x6 := d_x6.trans (fri_at fc21 (by decide) (by decide) o_a1).symm
    have d_y17 := d_y17.trans (fri_at fc21 (by decide) (by decide) o_a7).symm
    have ea1 := (frr_at fc21 (by decide) (by decide) o_v0).trans ea1
    have ea4 := (frr_at fc21 (by decide) (by decide) o_a1).trans ea4
    have f0 := fri_tr (S := S16) g0 f0 fc21 (by decide) (by decide)
    have o_a1 := gr_ob g20 o_a1
    have o_a4 := gr_ob g20 o_a4
    have o_a7 := gr_ob g20 o_a7
    have o_v0 := gr_ob g20 o_v0
    have g0 := gr_tr (T := S16) g0 g20
    obtain ⟨y22, d_y22⟩ : ∃ z : Int32, z = fI S19 v0 9 := ⟨_, rfl⟩
    have p_y22 : x18 = 1 → (1 : Int32) ≤ y22 ∧ y22 ≤ (9 : Int32) := by rw [d_y22]; exact pf9_S19
    intro _ _
    have bb_x18 : x18 = 0 ∨ x18 = 1 := b_x18
    refine ⟨fun c23 => ?_, fun c23 => ?_⟩
    · intro x24 ex24
      have q_x24 : x24 = y22 := ex24.trans d_y22.symm
      have d_x24 := ex24
      intro S25 eS25
      have hI : IV S25 := by rw [eS25]; exact iv_sI hI o_a7 (by decide) (nu_free (by decide))
      have f0 := fr_I eS25 g0 f0 o_a7 (by decide)
      have d_x6 := rd_Ik eS25 o_a7 o_a1 (by decide) d_x6
      have d_y17 := rd_Ij eS25 (by decide) d_y17
      have d_x24 := rd_Ik eS25 o_a7 o_v0 (by decide) d_x24
      obtain ⟨y26, hy26⟩ : ∃ z : Int32, z = x24 := ⟨_, rfl⟩
      have d_y26 := rd_Is eS25 hy26
      have ea1 := rf_I eS25 ea1
      have ea4 := rf_I eS25 ea4
      have hT := tx_I eS25 hT
      have l_a4 := ln_I eS25 l_a4
      have g0 := gr_I eS25 g0
      have o_a1 := ob_I eS25 o_a1
      have o_a4 := ob_I eS25 o_a4
      have o_a7 := ob_I eS25 o_a7
      have o_v0 := ob_I eS25 o_v0
      refine m_X4_word hI o_v0 (by decide) hT (fun x27 S28 hJ g29 fc30 b_x27 p_x27 => ?_)
      have hT := p_x27
      have hI := hJ
      have l_a4 := (gr_len g29 o_a4).trans l_a4
      have d_x6 := d_x6.trans (fri_at fc30 (by decide) (by decide) o_a1).symm
      have d_y17 := d_y17.trans (fri_at fc30 (by decide) (by decide) o_a7).symm
      have d_x24 := d_x24.trans (fri_at fc30 (by decide) (by decide) o_v0).symm
      have d_y26 := d_y26.trans (fri_at fc30 (by decide) (by decide) o_a7).symm
      have ea1 := (frr_at fc30 (by decide) (by decide) o_v0).trans ea1
      have ea4 := (frr_at fc30 (by decide) (by decide) o_a1).trans ea4
      have f0 := fri_tr (S := S25) g0 f0 fc30 (by decide) (by decide)
      have o_a1 := gr_ob g29 o_a1
      have o_a4 := gr_ob g29 o_a4
      have o_a7 := gr_ob g29 o_a7
      have o_v0 := gr_ob g29 o_v0
      have g0 := gr_tr (T := S25) g0 g29
      intro _ _
      have bb_x27 : x27 = 0 ∨ x27 = 1 := b_x27
      refine ⟨fun c31 => ?_, fun c31 => ?_⟩
      · exact hq _ _ hI g0 f0 (Or.inl rfl) hT
      · refine m_X4_side hI o_v0 hT (fun x32 S33 hJ g34 fc35 b_x32 p_x32 => ?_)
        have hT := p_x32
        have hI := hJ
        have l_a4 := (gr_len g34 o_a4).trans l_a4
        have d_x6 := d_x6.trans (fri_at fc35 (by decide) (by decide) o_a1).symm
        have d_y17 := d_y17.trans (fri_at fc35 (by decide) (by decide) o_a7).symm
        have d_y26 := d_y26.trans (fri_at fc35 (by decide) (by decide) o_a7).symm
        have ea1 := (frr_at fc35 (by decide) (by decide) o_v0).trans ea1
        have ea4 := (frr_at fc35 (by decide) (by decide) o_a1).trans ea4
        have f0 := fri_tr (S := S28) g0 f0 fc35 (by decide) (by decide)
        have o_a1 := gr_ob g34 o_a1
        have o_a4 := gr_ob g34 o_a4
        have o_a7 := gr_ob g34 o_a7
        have o_v0 := gr_ob g34 o_v0
        have g0 := gr_tr (T := S28) g0 g34
        intro _ _
        have bb_x32 : x32 = 0 ∨ x32 = 1 := b_x32
        refine ⟨fun c36 => ?_, fun c36 => ?_⟩
        · intro x37 ex37
          have d_x37 := ex37
          intro S38 eS38
          have hI : IV S38 := by rw [eS38]; exact iv_sI hI o_a7 (by decide) (nu_free (by decide))
          have f0 := fr_I eS38 g0 f0 o_a7 (by decide)
          have d_x6 := rd_Ik eS38 o_a7 o_a1 (by decide) d_x6
          have d_y17 := rd_Ij eS38 (by decide) d_y17
          have d_y26 := rd_Ij eS38 (by decide) d_y26
          have d_x37 := rd_Ik eS38 o_a7 o_v0 (by decide) d_x37
          obtain ⟨y39, hy39⟩ : ∃ z : Int32, z = x37 := ⟨_, rfl⟩
          have d_y39 := rd_Is eS38 hy39
          have ea1 := rf_I eS38 ea1
          have ea4 := rf_I eS38 ea4
          have hT := tx_I eS38 hT
          have l_a4 := ln_I eS38 l_a4
          have g0 := gr_I eS38 g0
          have o_a1 := ob_I eS38 o_a1
          have o_a4 := ob_I eS38 o_a4
          have o_a7 := ob_I eS38 o_a7
          have o_v0 := ob_I eS38 o_v0
          refine m_X4_whole hI o_v0 hT (fun x40 S41 hJ g42 fc43 b_x40 p_x40 => ?_)
          obtain ⟨hT, pf9_S41⟩ := p_x40
          have hI := hJ
          have l_a4 := (gr_len g42 o_a4).trans l_a4
          have d_x6 := d_x6.trans (fri_at fc43 (by decide) (by decide) o_a1).symm
          have d_y17 := d_y17.trans (fri_at fc43 (by decide) (by decide) o_a7).symm
          have d_y26 := d_y26.trans (fri_at fc43 (by decide) (by decide) o_a7).symm
          have d_y39 := d_y39.trans (fri_at fc43 (by decide) (by decide) o_a7).symm
          have ea1 := (frr_at fc43 (by decide) (by decide) o_v0).trans ea1
          have ea4 := (frr_at fc43 (by decide) (by decide) o_a1).trans ea4
          have f0 := fri_tr (S := S38) g0 f0 fc43 (by decide) (by decide)
          have o_a1 := gr_ob g42 o_a1
          have o_a4 := gr_ob g42 o_a4
          have o_a7 := gr_ob g42 o_a7
          have o_v0 := gr_ob g42 o_v0
          have g0 := gr_tr (T := S38) g0 g42
          obtain ⟨y44, d_y44⟩ : ∃ z : Int32, z = fI S41 v0 9 := ⟨_, rfl⟩
          have p_y44 : x40 = 1 → (0 : Int32) ≤ y44 ∧ y44 ≤ (9 : Int32) := by rw [d_y44]; exact pf9_S41
          intro _ _
          have bb_x40 : x40 = 0 ∨ x40 = 1 := b_x40
          refine ⟨fun c45 => ?_, fun c45 => ?_⟩
          · intro x46 ex46
            have q_x46 : x46 = y44 := ex46.trans d_y44.symm
            have d_x46 := ex46
            intro S47 eS47
            have hI : IV S47 := by rw [eS47]; exact iv_sI hI o_a7 (by decide) (nu_free (by decide))
            have f0 := fr_I eS47 g0 f0 o_a7 (by decide)
            have d_x6 := rd_Ik eS47 o_a7 o_a1 (by decide) d_x6
            have d_y17 := rd_Ij eS47 (by decide) d_y17
            have d_y26 := rd_Ij eS47 (by decide) d_y26
            have d_y39 := rd_Ij eS47 (by decide) d_y39
            have d_x46 := rd_Ik eS47 o_a7 o_v0 (by decide) d_x46
            obtain ⟨y48, hy48⟩ : ∃ z : Int32, z = x46 := ⟨_, rfl⟩
            have d_y48 := rd_Is eS47 hy48
            have ea1 := rf_I eS47 ea1
            have ea4 := rf_I eS47 ea4
            have hT := tx_I eS47 hT
            have l_a4 := ln_I eS47 l_a4
            have g0 := gr_I eS47 g0
            have o_a1 := ob_I eS47 o_a1
            have o_a4 := ob_I eS47 o_a4
            have o_a7 := ob_I eS47 o_a7
            have o_v0 := ob_I eS47 o_v0
            refine m_X4_wordAndWhole hI o_v0 (by decide) hT (fun x49 S50 hJ g51 fc52 b_x49 p_x49 => ?_)
            obtain ⟨hT, pf9_S50⟩ := p_x49
            have hI := hJ
            have l_a4 := (gr_len g51 o_a4).trans l_a4
            have d_x6 := d_x6.trans (fri_at fc52 (by decide) (by decide) o_a1).symm
            have d_y17 := d_y17.trans (fri_at fc52 (by decide) (by decide) o_a7).symm
            have d_y26 := d_y26.trans (fri_at fc52 (by decide) (by decide) o_a7).symm
            have d_y39 := d_y39.trans (fri_at fc52 (by decide) (by decide) o_a7).symm
            have d_y48 := d_y48.trans (fri_at fc52 (by decide) (by decide) o_a7).symm
            have ea1 := (frr_at fc52 (by decide) (by decide) o_v0).trans ea1
            have ea4 := (frr_at fc52 (by decide) (by decide) o_a1).trans ea4
            have f0 := fri_tr (S := S47) g0 f0 fc52 (by decide) (by decide)
            have o_a1 := gr_ob g51 o_a1
            have o_a4 := gr_ob g51 o_a4
            have o_a7 := gr_ob g51 o_a7
            have o_v0 := gr_ob g51 o_v0
            have g0 := gr_tr (T := S47) g0 g51
            obtain ⟨y53, d_y53⟩ : ∃ z : Int32, z = fI S50 v0 9 := ⟨_, rfl⟩
            have p_y53 : x49 = 1 → (0 : Int32) ≤ y53 ∧ y53 ≤ (100 : Int32) := by rw [d_y53]; exact pf9_S50
            intro _ _
            have bb_x49 : x49 = 0 ∨ x49 = 1 := b_x49
            refine ⟨fun c54 => ?_, fun c54 => ?_⟩
            · intro x55 ex55
              have q_x55 : x55 = y53 := ex55.trans d_y53.symm
              have d_x55 := ex55
              intro S56 eS56
              have hI : IV S56 := by rw [eS56]; exact iv_sI hI o_a7 (by decide) (nu_free (by decide))
              have f0 := fr_I eS56 g0 f0 o_a7 (by decide)
              have d_x6 := rd_Ik eS56 o_a7 o_a1 (by decide) d_x6
              have d_y17 := rd_Ij eS56 (by decide) d_y17
              have d_y26 := rd_Ij eS56 (by decide) d_y26
              have d_y39 := rd_Ij eS56 (by decide) d_y39
              have d_y48 := rd_Ij eS56 (by decide) d_y48
              have d_x55 := rd_Ik eS56 o_a7 o_v0 (by decide) d_x55
              obtain ⟨y57, hy57⟩ : ∃ z : Int32, z = x55 := ⟨_, rfl⟩
              have d_y57 := rd_Is eS56 hy57
              have ea1 := rf_I eS56 ea1
              have ea4 := rf_I eS56 ea4
              have hT := tx_I eS56 hT
              have l_a4 := ln_I eS56 l_a4
              have g0 := gr_I eS56 g0
              have o_a1 := ob_I eS56 o_a1
              have o_a4 := ob_I eS56 o_a4
              have o_a7 := ob_I eS56 o_a7
              have o_v0 := ob_I eS56 o_v0
              refine ⟨a1, ea1, ?_⟩
              refine ⟨o_a1, ?_⟩
              intro x59 ex59
              have r_x59 : (0 : Int32) ≤ x59 ∧ x59 ≤ (6 : Int32) := by rw [ex59]; exact nu 11 rfl hI o_a1
              have q_x59 : x59 = x6 := ex59.trans d_x6.symm
              have d_x59 := ex59
              intro x60 ex60
              intro S61 eS61
              have hI : IV S61 := by rw [eS61]; exact iv_sI hI o_a1 (by decide) (nu_one (lo := (0 : Int32)) (hi := (6 : Int32)) (by decide) (q216 hr_y2 r_y2 r_x6 q_x6 p_y13 bb_x9 c14 q_x15 hy17 p_y22 bb_x18 c23 q_x24 hy26 bb_x27 c31 bb_x32 c36 p_y44 bb_x40 c45 q_x46 hy48 p_y53 bb_x49 c54 q_x55 hy57 r_x59 q_x59 ex60))
              have f0 := fr_I eS61 g0 f0 o_a1 (by decide)
              have d_y17 := rd_Ik eS61 o_a1 o_a7 (by decide) d_y17
              have d_y26 := rd_Ik eS61 o_a1 o_a7 (by decide) d_y26
              have d_y39 := rd_Ik eS61 o_a1 o_a7 (by decide) d_y39
              have d_y48 := rd_Ik eS61 o_a1 o_a7 (by decide) d_y48
              have d_x55 := rd_Ik eS61 o_a1 o_v0 (by decide) d_x55
              have d_y57 := rd_Ik eS61 o_a1 o_a7 (by decide) d_y57
              have d_x60 := rd_Is eS61 (rfl : x60 = x60)
              have ea1 := rf_I eS61 ea1
              have ea4 := rf_I eS61 ea4
              have hT := tx_I eS61 hT
              have l_a4 := ln_I eS61 l_a4
              have g0 := gr_I eS61 g0
              have o_a1 := ob_I eS61 o_a1
              have o_a4 := ob_I eS61 o_a4
              have o_a7 := ob_I eS61 o_a7
              have o_v0 := ob_I eS61 o_v0
              exact hq _ _ hI g0 f0 (Or.inr rfl) hT
            · exact hq _ _ hI g0 f0 (Or.inl rfl) hT
          · exact hq _ _ hI g0 f0 (Or.inl rfl) hT
        · exact hq _ _ hI g0 f0 (Or.inl rfl) hT
    · exact hq _ _ hI g0 f0 (Or.inl rfl) hT
  · exact hq _ _ hI g0 f0 (Or.inl rfl) hT
set_option maxHeartbeats 4000000 in
set_option maxRecDepth 20000 in
theorem m_X4_roadLine {v0 : Nat} {Q : Int32 → HS → Prop} {S : HS} (hI : IV S) (o_v0 : ob S v0 4)   (hrm : RM S v0 3 12) (hT : TX S v0) (hq : ∀ (r : Int32) (T : HS), IV T → Gr S T → FRI [(4, 0), (4, 1), (4, 4), (4, 6), (4, 7), (4, 9), (5, 0), (5, 1), (5, 2), (5, 3), (5, 4), (8, 3)] [] S T → bl r → (TX T v0) → Q r T) : P_X4_roadLine v0 Q S := by
  have g0 := gr_rf S
  have f0 := fri_rf [(4, 0), (4, 1), (4, 4), (4, 6), (4, 7), (4, 9), (5, 0), (5, 1), (5, 2), (5, 3), (5, 4), (8, 3)] [] S
  obtain ⟨a1, ea1, o_a1, -⟩ := sh 12 rfl hI o_v0
  obtain ⟨y2, d_y2⟩ : ∃ z : Int32, z = fI S a1 3 := ⟨_, rfl⟩
  have hr_y2 : y2 < (12 : Int32) := by rw [d_y2]; exact hrm _ ea1
  have r_y2 : (0 : Int32) ≤ y2 ∧ y2 ≤ (12 : Int32) := by rw [d_y2]; exact nu 13 rfl hI o_a1
  refine u_X4_roadLine ?_
  refine u_X4_roadLine_0 ?_
  refine ⟨o_v0, ?_⟩
  refine ⟨a1, ea1, ?_⟩
  refine ⟨o_a1, ?_⟩
  obtain ⟨a4, ea4, o_a4, l_a4⟩ := shl 17 rfl hI o_a1
  refine ⟨a4, ea4, ?_⟩
  refine ⟨a1, ea1, ?_⟩
  refine ⟨o_a1, ?_⟩
  intro x6 ex6
  have r_x6 : (0 : Int32) ≤ x6 ∧ x6 ≤ (12 : Int32) := by rw [ex6]; exact nu 13 rfl hI o_a1
  have q_x6 : x6 = y2 := ex6.trans d_y2.symm
  have d_x6 := ex6
  refine ⟨o_a4, ?_⟩
  have i8 : vp_in x6 (hN _ a4) := (vin l_a4 (m := 12) (by decide) (q212 hr_y2 r_y2 r_x6 q_x6))
  obtain ⟨a7, ea7, o_a7⟩ := ae hI o_a4 (by decide) (by decide) i8
  replace o_a7 : ob _ a7 5 := o_a7
  refine ⟨i8, a7, ea7, ?_⟩
  refine m_X4_placeBut hI o_v0 hT (fun x9 S10 hJ g11 fc12 b_x9 p_x9 => ?_)
  have hT := p_x9
  have hI := hJ
  have l_a4 := (gr_len g11 o_a4).trans l_a4
  have d_x6 := d_x6.trans (fri_at fc12 (by decide) (by decide) o_a1).symm
  have ea1 := (frr_at fc12 (by decide) (by decide) o_v0).trans ea1
  have ea4 := (frr_at fc12 (by decide) (by decide) o_a1).trans ea4
  have f0 := fri_tr (S := S) g0 f0 fc12 (by decide) (by decide)
  have o_a1 := gr_ob g11 o_a1
  have o_a4 := gr_ob g11 o_a4
  have o_a7 := gr_ob g11 o_a7
  have o_v0 := gr_ob g11 o_v0
  have g0 := gr_tr (T := S) g0 g11
  intro _ _
  have bb_x9 : x9 = 0 ∨ x9 = 1 := b_x9
  refine ⟨fun c13 => ?_, fun c13 => ?_⟩
  · intro x14 ex14
    have d_x14 := ex14
    refine ⟨o_a7, ?_⟩
    intro S15 eS15
    have hI : IV S15 := by rw [eS15]; exact iv_sI hI o_a7 (by decide) (nu_free (by decide))
    have f0 := fr_I eS15 g0 f0 o_a7 (by decide)
    have d_x6 := rd_Ik eS15 o_a7 o_a1 (by decide) d_x6
    have d_x14 := rd_Ik eS15 o_a7 o_v0 (by decide) d_x14
    obtain ⟨y16, hy16⟩ : ∃ z : Int32, z = x14 := ⟨_, rfl⟩
    have d_y16 := rd_Is eS15 hy16
    have ea1 := rf_I eS15 ea1
    have ea4 := rf_I eS15 ea4
    have hT := tx_I eS15 hT
    have l_a4 := ln_I eS15 l_a4
    have g0 := gr_I eS15 g0
    have o_a1 := ob_I eS15 o_a1
    have o_a4 := ob_I eS15 o_a4
    have o_a7 := ob_I eS15 o_a7
    have o_v0 := ob_I eS15 o_v0
    refine m_X4_side hI o_v0 hT (fun x17 S18 hJ g19 fc20 b_x17 p_x17 => ?_)
    have hT := p_x17
    have hI := hJ
    have l_a4 := (gr_len g19 o_a4).trans l_a4
    have d_x6 := d_x6.trans (fri_at fc20 (by decide) (by decide) o_a1).symm
    have d_y16 := d_y16.trans (fri_at fc20 (by decide) (by decide) o_a7).symm
    have ea1 := (frr_at fc20 (by decide) (by decide) o_v0).trans ea1
    have ea4 := (frr_at fc20 (by decide) (by decide) o_a1).trans ea4
    have f0 := fri_tr (S := S15) g0 f0 fc20 (by decide) (by decide)
    have o_a1 := gr_ob g19 o_a1
    have o_a4 := gr_ob g19 o_a4
    have o_a7 := gr_ob g19 o_a7
    have o_v0 := gr_ob g19 o_v0
    have g0 := gr_tr (T := S15) g0 g19
    intro _ _
    have bb_x17 : x17 = 0 ∨ x17 = 1 := b_x17
    refine ⟨fun c21 => ?_, fun c21 => ?_⟩
    · intro x22 ex22
      have d_x22 := ex22
      intro S23 eS23
      have hI : IV S23 := by rw [eS23]; exact iv_sI hI o_a7 (by decide) (nu_free (by decide))
      have f0 := fr_I eS23 g0 f0 o_a7 (by decide)
      have d_x6 := rd_Ik eS23 o_a7 o_a1 (by decide) d_x6
      have d_y16 := rd_Ij eS23 (by decide) d_y16
      have d_x22 := rd_Ik eS23 o_a7 o_v0 (by decide) d_x22
      obtain ⟨y24, hy24⟩ : ∃ z : Int32, z = x22 := ⟨_, rfl⟩
      have d_y24 := rd_Is eS23 hy24
      have ea1 := rf_I eS23 ea1
      have ea4 := rf_I eS23 ea4
      have hT := tx_I eS23 hT
      have l_a4 := ln_I eS23 l_a4
      have g0 := gr_I eS23 g0
      have o_a1 := ob_I eS23 o_a1
      have o_a4 := ob_I eS23 o_a4
      have o_a7 := ob_I eS23 o_a7
      have o_v0 := ob_I eS23 o_v0
      refine m_X4_whole hI o_v0 hT (fun x25 S26 hJ g27 fc28 b_x25 p_x25 => ?_)
      obtain ⟨hT, pf9_S26⟩ := p_x25
      have hI := hJ
      have l_a4 := (gr_len g27 o_a4).trans l_a4
      have d_x6 := d_x6.trans (fri_at fc28 (by decide) (by decide) o_a1).symm
      have d_y16 := d_y16.trans (fri_at fc28 (by decide) (by decide) o_a7).symm
      have d_y24 := d_y24.trans (fri_at fc28 (by decide) (by decide) o_a7).symm
      have ea1 := (frr_at fc28 (by decide) (by decide) o_v0).trans ea1
      have ea4 := (frr_at fc28 (by decide) (by decide) o_a1).trans ea4
      have f0 := fri_tr (S := S23) g0 f0 fc28 (by decide) (by decide)
      have o_a1 := gr_ob g27 o_a1
      have o_a4 := gr_ob g27 o_a4
      have o_a7 := gr_ob g27 o_a7
      have o_v0 := gr_ob g27 o_v0
      have g0 := gr_tr (T := S23) g0 g27
      obtain ⟨y29, d_y29⟩ : ∃ z : Int32, z = fI S26 v0 9 := ⟨_, rfl⟩
      have p_y29 : x25 = 1 → (1 : Int32) ≤ y29 ∧ y29 ≤ (60 : Int32) := by rw [d_y29]; exact pf9_S26
      intro _ _
      have bb_x25 : x25 = 0 ∨ x25 = 1 := b_x25
      refine ⟨fun c30 => ?_, fun c30 => ?_⟩
      · intro x31 ex31
        have q_x31 : x31 = y29 := ex31.trans d_y29.symm
        have d_x31 := ex31
        intro S32 eS32
        have hI : IV S32 := by rw [eS32]; exact iv_sI hI o_a7 (by decide) (nu_free (by decide))
        have f0 := fr_I eS32 g0 f0 o_a7 (by decide)
        have d_x6 := rd_Ik eS32 o_a7 o_a1 (by decide) d_x6
        have d_y16 := rd_Ij eS32 (by decide) d_y16
        have d_y24 := rd_Ij eS32 (by decide) d_y24
        have d_x31 := rd_Ik eS32 o_a7 o_v0 (by decide) d_x31
        obtain ⟨y33, hy33⟩ : ∃ z : Int32, z = x31 := ⟨_, rfl⟩
        have d_y33 := rd_Is eS32 hy33
        have ea1 := rf_I eS32 ea1
        have ea4 := rf_I eS32 ea4
        have hT := tx_I eS32 hT
        have l_a4 := ln_I eS32 l_a4
        have g0 := gr_I eS32 g0
        have o_a1 := ob_I eS32 o_a1
        have o_a4 := ob_I eS32 o_a4
        have o_a7 := ob_I eS32 o_a7
        have o_v0 := ob_I eS32 o_v0
        intro x34 ex34
        have q_x34 : x34 = y16 := ex34.trans d_y16.symm
        have d_x34 := ex34
        refine m_X4_placeBut hI o_v0 hT (fun x35 S36 hJ g37 fc38 b_x35 p_x35 => ?_)
        have hT := p_x35
        have hI := hJ
        have l_a4 := (gr_len g37 o_a4).trans l_a4
        have d_x6 := d_x6.trans (fri_at fc38 (by decide) (by decide) o_a1).symm
        have d_x34 := d_x34.trans (fri_at fc38 (by decide) (by decide) o_a7).symm
        have d_y24 := d_y24.trans (fri_at fc38 (by decide) (by decide) o_a7).symm
        have d_y33 := d_y33.trans (fri_at fc38 (by decide) (by decide) o_a7).symm
        have ea1 := (frr_at fc38 (by decide) (by decide) o_v0).trans ea1
        have ea4 := (frr_at fc38 (by decide) (by decide) o_a1).trans ea4
        have f0 := fri_tr (S := S32) g0 f0 fc38 (by decide) (by decide)
        have o_a1 := gr_ob g37 o_a1
        have o_a4 := gr_ob g37 o_a4
        have o_a7 := gr_ob g37 o_a7
        have o_v0 := gr_ob g37 o_v0
        have g0 := gr_tr (T := S32) g0 g37
        intro _ _
        have bb_x35 : x35 = 0 ∨ x35 = 1 := b_x35
        refine ⟨fun c39 => ?_, fun c39 => ?_⟩
        · intro x40 ex40
          have d_x40 := ex40
          intro S41 eS41
          have hI : IV S41 := by rw [eS41]; exact iv_sI hI o_a7 (by decide) (nu_free (by decide))
          have f0 := fr_I eS41 g0 f0 o_a7 (by decide)
          have d_x6 := rd_Ik eS41 o_a7 o_a1 (by decide) d_x6
          have d_x34 := rd_Ij eS41 (by decide) d_x34
          have d_y24 := rd_Ij eS41 (by decide) d_y24
          have d_y33 := rd_Ij eS41 (by decide) d_y33
          have d_x40 := rd_Ik eS41 o_a7 o_v0 (by decide) d_x40
          obtain ⟨y42, hy42⟩ : ∃ z : Int32, z = x40 := ⟨_, rfl⟩
          have d_y42 := rd_Is eS41 hy42
          have ea1 := rf_I eS41 ea1
          have ea4 := rf_I eS41 ea4
          have hT := tx_I eS41 hT
          have l_a4 := ln_I eS41 l_a4
          have g0 := gr_I eS41 g0
          have o_a1 := ob_I eS41 o_a1
          have o_a4 := ob_I eS41 o_a4
          have o_a7 := ob_I eS41 o_a7
          have o_v0 := ob_I eS41 o_v0
          intro S43 eS43
          have hI : IV S43 := by rw [eS43]; exact iv_sI hI o_a7 (by decide) (nu_free (by decide))
          have f0 := fr_I eS43 g0 f0 o_a7 (by decide)
          have d_x6 := rd_Ik eS43 o_a7 o_a1 (by decide) d_x6
          have d_x34 := rd_Ij eS43 (by decide) d_x34
          have d_y24 := rd_Ij eS43 (by decide) d_y24
          have d_y33 := rd_Ij eS43 (by decide) d_y33
          have d_x40 := rd_Ik eS43 o_a7 o_v0 (by decide) d_x40
          have d_y42 := rd_Ij eS43 (by decide) d_y42
          obtain ⟨y44, hy44⟩ : ∃ z : Int32, z = (0 : Int32) := ⟨_, rfl⟩
          have d_y44 := rd_Is eS43 hy44
          have ea1 := rf_I eS43 ea1
          have ea4 := rf_I eS43 ea4
          have hT := tx_I eS43 hT
          have l_a4 := ln_I eS43 l_a4
          have g0 := gr_I eS43 g0
          have o_a1 := ob_I eS43 o_a1
          have o_a4 := ob_I eS43 o_a4
          have o_a7 := ob_I eS43 o_a7
          have o_v0 := ob_I eS43 o_v0
          refine m_X4_is hI o_v0 (by decide) hT (fun x45 S46 hI2 g47 b_x45 p_x45 => ?_)
          subst p_x45
          intro _ _
          have bb_x45 : x45 = 0 ∨ x45 = 1 := b_x45
          refine ⟨fun c49 => ?_, fun c49 => ?_⟩
          · refine u_X4_roadLine_130 ?_
            refine ⟨o_v0, ?_⟩
            refine ⟨a1, ea1, ?_⟩
            refine ⟨o_a1, ?_⟩
            intro x51 ex51
            have r_x51 : (0 : Int32) ≤ x51 ∧ x51 ≤ (12 : Int32) := by rw [ex51]; exact nu 13 rfl hI o_a1
            have q_x51 : x51 = x6 := ex51.trans d_x6.symm
            have d_x51 := ex51
            intro x52 ex52
            intro S53 eS53
            have hI : IV S53 := by rw [eS53]; exact iv_sI hI o_a1 (by decide) (nu_one (lo := (0 : Int32)) (hi := (12 : Int32)) (by decide) (q213 hr_y2 r_y2 r_x6 q_x6 bb_x9 c13 bb_x17 c21 p_y29 bb_x25 c30 q_x31 hy33 bb_x35 c39 bb_x45 c49 r_x51 q_x51 ex52))
            have f0 := fr_I eS53 g0 f0 o_a1 (by decide)
            have d_x34 := rd_Ik eS53 o_a1 o_a7 (by decide) d_x34
            have d_y24 := rd_Ik eS53 o_a1 o_a7 (by decide) d_y24
            have d_y33 := rd_Ik eS53 o_a1 o_a7 (by decide) d_y33
            have d_x40 := rd_Ik eS53 o_a1 o_v0 (by decide) d_x40
            have d_y42 := rd_Ik eS53 o_a1 o_a7 (by decide) d_y42
            have d_y44 := rd_Ik eS53 o_a1 o_a7 (by decide) d_y44
            have d_x52 := rd_Is eS53 (rfl : x52 = x52)
            have ea1 := rf_I eS53 ea1
            have ea4 := rf_I eS53 ea4
            have hT := tx_I eS53 hT
            have l_a4 := ln_I eS53 l_a4
            have g0 := gr_I eS53 g0
            have o_a1 := ob_I eS53 o_a1
            have o_a4 := ob_I eS53 o_a4
            have o_a7 := ob_I eS53 o_a7
            have o_v0 := ob_I eS53 o_v0
            exact hq _ _ hI g0 f0 (Or.inr rfl) hT
          · intro x54 ex54
            have q_x54 : x54 = y33 := ex54.trans d_y33.symm
            have d_x54 := ex54
            refine m_X4_wordAndWhole hI o_v0 (by decide) hT (fun x55 S56 hJ g57 fc58 b_x55 p_x55 => ?_)
            obtain ⟨hT, pf9_S56⟩ := p_x55
            have hI := hJ
            have l_a4 := (gr_len g57 o_a4).trans l_a4
            have d_x6 := d_x6.trans (fri_at fc58 (by decide) (by decide) o_a1).symm
            have d_x34 := d_x34.trans (fri_at fc58 (by decide) (by decide) o_a7).symm
            have d_y24 := d_y24.trans (fri_at fc58 (by decide) (by decide) o_a7).symm
            have d_x54 := d_x54.trans (fri_at fc58 (by decide) (by decide) o_a7).symm
            have d_y42 := d_y42.trans (fri_at fc58 (by decide) (by decide) o_a7).symm
            have d_y44 := d_y44.trans (fri_at fc58 (by decide) (by decide) o_a7).symm
            have ea1 := (frr_at fc58 (by decide) (by decide) o_v0).trans ea1
            have ea4 := (frr_at fc58 (by decide) (by decide) o_a1).trans ea4
            have f0 := fri_tr (S := S43) g0 f0 fc58 (by decide) (by decide)
            have o_a1 := gr_ob g57 o_a1
            have o_a4 := gr_ob g57 o_a4
            have o_a7 := gr_ob g57 o_a7
            have o_v0 := gr_ob g57 o_v0
            have g0 := gr_tr (T := S43) g0 g57
            obtain ⟨y59, d_y59⟩ : ∃ z : Int32, z = fI S56 v0 9 := ⟨_, rfl⟩
            have p_y59 : x55 = 1 → (0 : Int32) ≤ y59 ∧ y59 ≤ x54 := by rw [d_y59]; exact pf9_S56
            intro _ _
            have bb_x55 : x55 = 0 ∨ x55 = 1 := b_x55
            refine ⟨fun c60 => ?_, fun c60 => ?_⟩
            · intro x61 ex61
              have q_x61 : x61 = y59 := ex61.trans d_y59.symm
              have d_x61 := ex61
              intro S62 eS62
              have hI : IV S62 := by rw [eS62]; exact iv_sI hI o_a7 (by decide) (nu_free (by decide))
              have f0 := fr_I eS62 g0 f0 o_a7 (by decide)
              have d_x6 := rd_Ik eS62 o_a7 o_a1 (by decide) d_x6
              have d_x34 := rd_Ij eS62 (by decide) d_x34
              have d_y24 := rd_Ij eS62 (by decide) d_y24
              have d_x54 := rd_Ij eS62 (by decide) d_x54
              have d_y42 := rd_Ij eS62 (by decide) d_y42
              have d_x61 := rd_Ik eS62 o_a7 o_v0 (by decide) d_x61
              obtain ⟨y63, hy63⟩ : ∃ z : Int32, z = x61 := ⟨_, rfl⟩
              have d_y63 := rd_Is eS62 hy63
              have ea1 := rf_I eS62 ea1
              have ea4 := rf_I eS62 ea4
              have hT := tx_I eS62 hT
              have l_a4 := ln_I eS62 l_a4
              have g0 := gr_I eS62 g0
              have o_a1 := ob_I eS62 o_a1
              have o_a4 := ob_I eS62 o_a4
              have o_a7 := ob_I eS62 o_a7
              have o_v0 := ob_I eS62 o_v0
              refine u_X4_roadLine_130 ?_
              refine ⟨o_v0, ?_⟩
              refine ⟨a1, ea1, ?_⟩
              refine ⟨o_a1, ?_⟩
              intro x65 ex65
              have r_x65 : (0 : Int32) ≤ x65 ∧ x65 ≤ (12 : Int32) := by rw [ex65]; exact nu 13 rfl hI o_a1
              have q_x65 : x65 = x6 := ex65.trans d_x6.symm
              have d_x65 := ex65
              intro x66 ex66
              intro S67 eS67
              have hI : IV S67 := by rw [eS67]; exact iv_sI hI o_a1 (by decide) (nu_one (lo := (0 : Int32)) (hi := (12 : Int32)) (by decide) (q214 hr_y2 r_y2 r_x6 q_x6 bb_x9 c13 bb_x17 c21 p_y29 bb_x25 c30 q_x31 hy33 bb_x35 c39 bb_x45 c49 q_x54 p_y59 bb_x55 c60 q_x61 hy63 r_x65 q_x65 ex66))
              have f0 := fr_I eS67 g0 f0 o_a1 (by decide)
              have d_x34 := rd_Ik eS67 o_a1 o_a7 (by decide) d_x34
              have d_y24 := rd_Ik eS67 o_a1 o_a7 (by decide) d_y24
              have d_x54 := rd_Ik eS67 o_a1 o_a7 (by decide) d_x54
              have d_y42 := rd_Ik eS67 o_a1 o_a7 (by decide) d_y42
              have d_x61 := rd_Ik eS67 o_a1 o_v0 (by decide) d_x61
              have d_y63 := rd_Ik eS67 o_a1 o_a7 (by decide) d_y63
              have d_x66 := rd_Is eS67 (rfl : x66 = x66)
              have ea1 := rf_I eS67 ea1
              have ea4 := rf_I eS67 ea4
              have hT := tx_I eS67 hT
              have l_a4 := ln_I eS67 l_a4
              have g0 := gr_I eS67 g0
              have o_a1 := ob_I eS67 o_a1
              have o_a4 := ob_I eS67 o_a4
              have o_a7 := ob_I eS67 o_a7
              have o_v0 := ob_I eS67 o_v0
              exact hq _ _ hI g0 f0 (Or.inr rfl) hT
            · exact hq _ _ hI g0 f0 (Or.inl rfl) hT
        · exact hq _ _ hI g0 f0 (Or.inl rfl) hT
      · exact hq _ _ hI g0 f0 (Or.inl rfl) hT
    · exact hq _ _ hI g0 f0 (Or.inl rfl) hT
  · exact hq _ _ hI g0 f0 (Or.inl rfl) hT
set_option maxHeartbeats 4000000 in
set_option maxRecDepth 20000 in
theorem m_X4_sign {v0 : Nat} {v1 : Int32} {Q : Int32 → HS → Prop} {S : HS} (hI : IV S) (o_v0 : ob S v0 4)    (hT : TX S v0) (hq : ∀ (r : Int32) (T : HS), IV T → Gr S T → FRI [(4, 0), (4, 1), (4, 4), (4, 6), (4, 7)] [] S T → bl r → (TX T v0) → Q r T) : P_X4_sign v0 v1 Q S := by
  have g0 := gr_rf S
  have f0 := fri_rf [(4, 0), (4, 1), (4, 4), (4, 6), (4, 7)] [] S
  refine u_X4_sign ?_
  refine u_X4_sign_0 ?_
  refine ⟨o_v0, ?_⟩
  intro x1 ex1
  have d_x1 := ex1
  refine ⟨fun c2 => ?_, fun c2 => ?_⟩
  · refine m_X4_next hI o_v0 hT (fun S4 hJ g5 fc6 p_S4 => ?_)
    have hT := p_S4
    have hI := hJ
    have f0 := fri_tr (S := S) g0 f0 fc6 (by decide) (by decide)
    have o_v0 := gr_ob g5 o_v0
    have g0 := gr_tr (T := S) g0 g5
    intro _
    exact hq _ _ hI g0 f0 (Or.inr rfl) hT
  · refine u_X4_fail ?_
    refine u_X4_fail_0 ?_
    refine ⟨o_v0, ?_⟩
    intro S7 eS7
    have hI : IV S7 := by rw [eS7]; exact iv_sI hI o_v0 (by decide) (nu_free (by decide))
    have f0 := fr_I eS7 g0 f0 o_v0 (by decide)
    have d_x1 := rd_Ij eS7 (by decide) d_x1
    obtain ⟨y8, hy8⟩ : ∃ z : Int32, z = (1 : Int32) := ⟨_, rfl⟩
    have d_y8 := rd_Is eS7 hy8
    have hT := tx_I eS7 hT
    have g0 := gr_I eS7 g0
    have o_v0 := ob_I eS7 o_v0
    intro x9 ex9
    have d_x9 := ex9
    intro S10 eS10
    have hI : IV S10 := by rw [eS10]; exact iv_sI hI o_v0 (by decide) (nu_free (by decide))
    have f0 := fr_I eS10 g0 f0 o_v0 (by decide)
    have d_x1 := rd_Ij eS10 (by decide) d_x1
    have d_y8 := rd_Ij eS10 (by decide) d_y8
    have d_x9 := rd_Ij eS10 (by decide) d_x9
    obtain ⟨y11, hy11⟩ : ∃ z : Int32, z = x9 := ⟨_, rfl⟩
    have d_y11 := rd_Is eS10 hy11
    have hT := tx_I eS10 hT
    have g0 := gr_I eS10 g0
    have o_v0 := ob_I eS10 o_v0
    intro _ _
    refine ⟨(Or.inl rfl), ?_⟩
    exact hq _ _ hI g0 f0 (Or.inl rfl) hT
set_option maxHeartbeats 4000000 in
set_option maxRecDepth 20000 in
theorem m_X4_someWalker {v0 : Nat} {Q : Int32 → HS → Prop} {S : HS} (hI : IV S) (o_v0 : ob S v0 4)    (hT : TX S v0) (hq : ∀ (r : Int32) (T : HS), IV T → Gr S T → FRI [(4, 0), (4, 1), (4, 4), (4, 6), (4, 7), (4, 9)] [] S T → bl r → (TX T v0) → Q r T) : P_X4_someWalker v0 Q S := by
  have g0 := gr_rf S
  have f0 := fri_rf [(4, 0), (4, 1), (4, 4), (4, 6), (4, 7), (4, 9)] [] S
  refine u_X4_someWalker ?_
  refine u_X4_someWalker_0 ?_
  refine ⟨o_v0, ?_⟩
  refine m_X4_canBeName hI o_v0 hT (fun x1 S2 hI2 g3 b_x1 p_x1 => ?_)
  subst p_x1
  intro _ _
  have bb_x1 : x1 = 0 ∨ x1 = 1 := b_x1
  refine ⟨fun c5 => ?_, fun c5 => ?_⟩
  · refine m_X4_findName hI o_v0 hT (fun x6 S7 hI2 g8 p_x6 => ?_)
    subst p_x6
    intro _
    refine ⟨fun c10 => ?_, fun c10 => ?_⟩
    · intro x11 ex11
      intro S12 eS12
      have hI : IV S12 := by rw [eS12]; exact iv_sI hI o_v0 (by decide) (nu_free (by decide))
      have f0 := fr_I eS12 g0 f0 o_v0 (by decide)
      have d_x11 := rd_Is eS12 (rfl : x11 = x11)
      have hT := tx_I eS12 hT
      have g0 := gr_I eS12 g0
      have o_v0 := ob_I eS12 o_v0
      refine m_X4_next hI o_v0 hT (fun S14 hJ g15 fc16 p_S14 => ?_)
      have hT := p_S14
      have hI := hJ
      have d_x11 := d_x11.trans (fri_at fc16 (by decide) (by decide) o_v0).symm
      have f0 := fri_tr (S := S12) g0 f0 fc16 (by decide) (by decide)
      have o_v0 := gr_ob g15 o_v0
      have g0 := gr_tr (T := S12) g0 g15
      intro _
      exact hq _ _ hI g0 f0 (Or.inr rfl) hT
    · refine u_X4_fail ?_
      refine u_X4_fail_0 ?_
      refine ⟨o_v0, ?_⟩
      intro S17 eS17
      have hI : IV S17 := by rw [eS17]; exact iv_sI hI o_v0 (by decide) (nu_free (by decide))
      have f0 := fr_I eS17 g0 f0 o_v0 (by decide)
      obtain ⟨y18, hy18⟩ : ∃ z : Int32, z = (2 : Int32) := ⟨_, rfl⟩
      have d_y18 := rd_Is eS17 hy18
      have hT := tx_I eS17 hT
      have g0 := gr_I eS17 g0
      have o_v0 := ob_I eS17 o_v0
      intro x19 ex19
      have d_x19 := ex19
      intro S20 eS20
      have hI : IV S20 := by rw [eS20]; exact iv_sI hI o_v0 (by decide) (nu_free (by decide))
      have f0 := fr_I eS20 g0 f0 o_v0 (by decide)
      have d_y18 := rd_Ij eS20 (by decide) d_y18
      have d_x19 := rd_Ij eS20 (by decide) d_x19
      obtain ⟨y21, hy21⟩ : ∃ z : Int32, z = x19 := ⟨_, rfl⟩
      have d_y21 := rd_Is eS20 hy21
      have hT := tx_I eS20 hT
      have g0 := gr_I eS20 g0
      have o_v0 := ob_I eS20 o_v0
      intro _ _
      refine ⟨(Or.inl rfl), ?_⟩
      exact hq _ _ hI g0 f0 (Or.inl rfl) hT
  · refine u_X4_fail ?_
    refine u_X4_fail_0 ?_
    refine ⟨o_v0, ?_⟩
    intro S23 eS23
    have hI : IV S23 := by rw [eS23]; exact iv_sI hI o_v0 (by decide) (nu_free (by decide))
    have f0 := fr_I eS23 g0 f0 o_v0 (by decide)
    obtain ⟨y24, hy24⟩ : ∃ z : Int32, z = (1 : Int32) := ⟨_, rfl⟩
    have d_y24 := rd_Is eS23 hy24
    have hT := tx_I eS23 hT
    have g0 := gr_I eS23 g0
    have o_v0 := ob_I eS23 o_v0
    intro x25 ex25
    have d_x25 := ex25
    intro S26 eS26
    have hI : IV S26 := by rw [eS26]; exact iv_sI hI o_v0 (by decide) (nu_free (by decide))
    have f0 := fr_I eS26 g0 f0 o_v0 (by decide)
    have d_y24 := rd_Ij eS26 (by decide) d_y24
    have d_x25 := rd_Ij eS26 (by decide) d_x25
    obtain ⟨y27, hy27⟩ : ∃ z : Int32, z = x25 := ⟨_, rfl⟩
    have d_y27 := rd_Is eS26 hy27
    have hT := tx_I eS26 hT
    have g0 := gr_I eS26 g0
    have o_v0 := ob_I eS26 o_v0
    intro _ _
    refine ⟨(Or.inl rfl), ?_⟩
    exact hq _ _ hI g0 f0 (Or.inl rfl) hT
