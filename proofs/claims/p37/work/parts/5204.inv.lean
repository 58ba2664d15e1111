set_option maxHeartbeats 4000000 in
set_option maxRecDepth 20000 in
theorem m_X4_kindOf {v0 : Nat} {v1 : Nat} {Q : Int32 → HS → Prop} {S : HS} (hI : IV S) (o_v0 : ob S v0 4) (o_v1 : ob S v1 6)    (hT : TX S v0) (hq : ∀ (r : Int32) (T : HS), IV T → Gr S T → FRI [(4, 0), (4, 1), (4, 4), (4, 6), (4, 7), (4, 9), (6, 0), (6, 1)] [] S T → bl r → (TX T v0) → Q r T) : P_X4_kindOf v0 v1 Q S := by
  have g0 := gr_rf S
  have f0 := fri_rf [(4, 0), (4, 1), (4, 4), (4, 6), (4, 7), (4, 9), (6, 0), (6, 1)] [] S
  refine u_X4_kindOf ?_
  refine u_X4_kindOf_0 ?_
  refine ⟨o_v0, ?_⟩
  intro S1 eS1
  have hI : IV S1 := by rw [eS1]; exact iv_sI hI o_v0 (by decide) (nu_free (by decide))
  have f0 := fr_I eS1 g0 f0 o_v0 (by decide)
  obtain ⟨y2, hy2⟩ : ∃ z : Int32, z = (0 : Int32) := ⟨_, rfl⟩
  have d_y2 := rd_Is eS1 hy2
  have hT := tx_I eS1 hT
  have g0 := gr_I eS1 g0
  have o_v0 := ob_I eS1 o_v0
  have o_v1 := ob_I eS1 o_v1
  refine m_X4_is hI o_v0 (by decide) hT (fun x3 S4 hI2 g5 b_x3 p_x3 => ?_)
  subst p_x3
  intro _ _
  have bb_x3 : x3 = 0 ∨ x3 = 1 := b_x3
  refine ⟨fun c7 => ?_, fun c7 => ?_⟩
  · refine m_X4_is hI o_v0 (by decide) hT (fun x8 S9 hI2 g10 b_x8 p_x8 => ?_)
    subst p_x8
    intro _ _
    have bb_x8 : x8 = 0 ∨ x8 = 1 := b_x8
    refine ⟨fun c12 => ?_, fun c12 => ?_⟩
    · refine m_X4_is hI o_v0 (by decide) hT (fun x13 S14 hI2 g15 b_x13 p_x13 => ?_)
      subst p_x13
      intro _ _
      have bb_x13 : x13 = 0 ∨ x13 = 1 := b_x13
      refine ⟨fun c17 => ?_, fun c17 => ?_⟩
      · refine ⟨o_v1, ?_⟩
        intro S18 eS18
        have hI : IV S18 := by rw [eS18]; exact iv_sI hI o_v1 (by decide) (nu_free (by decide))
        have f0 := fr_I eS18 g0 f0 o_v1 (by decide)
        have d_y2 := rd_Ik eS18 o_v1 o_v0 (by decide) d_y2
        obtain ⟨y19, hy19⟩ : ∃ z : Int32, z = (0 : Int32) := ⟨_, rfl⟩
        have d_y19 := rd_Is eS18 hy19
        have hT := tx_I eS18 hT
        have g0 := gr_I eS18 g0
        have o_v0 := ob_I eS18 o_v0
        have o_v1 := ob_I eS18 o_v1
        refine m_X4_word hI o_v0 (by decide) hT (fun x20 S21 hJ g22 fc23 b_x20 p_x20 => ?_)
        have hT := p_x20
        have hI := hJ
        have d_y2 := d_y2.trans (fri_at fc23 (by decide) (by decide) o_v0).symm
        have d_y19 := d_y19.trans (fri_at fc23 (by decide) (by decide) o_v1).symm
        have f0 := fri_tr (S := S18) g0 f0 fc23 (by decide) (by decide)
        have o_v0 := gr_ob g22 o_v0
        have o_v1 := gr_ob g22 o_v1
        have g0 := gr_tr (T := S18) g0 g22
        intro _ _
        have bb_x20 : x20 = 0 ∨ x20 = 1 := b_x20
        intro x24 ex24
        have q_x24 : x24 = y2 := ex24.trans d_y2.symm
        have d_x24 := ex24
        intro S25 eS25
        have hI : IV S25 := by rw [eS25]; exact iv_sI hI o_v1 (by decide) (nu_free (by decide))
        have f0 := fr_I eS25 g0 f0 o_v1 (by decide)
        have d_x24 := rd_Ik eS25 o_v1 o_v0 (by decide) d_x24
        have d_y19 := rd_Ij eS25 (by decide) d_y19
        obtain ⟨y26, hy26⟩ : ∃ z : Int32, z = x24 := ⟨_, rfl⟩
        have d_y26 := rd_Is eS25 hy26
        have hT := tx_I eS25 hT
        have g0 := gr_I eS25 g0
        have o_v0 := ob_I eS25 o_v0
        have o_v1 := ob_I eS25 o_v1
        refine ⟨b_x20, ?_⟩
        exact hq _ _ hI g0 f0 b_x20 hT
      · refine ⟨o_v1, ?_⟩
        intro S27 eS27
        have hI : IV S27 := by rw [eS27]; exact iv_sI hI o_v1 (by decide) (nu_free (by decide))
        have f0 := fr_I eS27 g0 f0 o_v1 (by decide)
        have d_y2 := rd_Ik eS27 o_v1 o_v0 (by decide) d_y2
        obtain ⟨y28, hy28⟩ : ∃ z : Int32, z = (3 : Int32) := ⟨_, rfl⟩
        have d_y28 := rd_Is eS27 hy28
        have hT := tx_I eS27 hT
        have g0 := gr_I eS27 g0
        have o_v0 := ob_I eS27 o_v0
        have o_v1 := ob_I eS27 o_v1
        refine m_X4_wordAndWhole hI o_v0 (by decide) hT (fun x29 S30 hJ g31 fc32 b_x29 p_x29 => ?_)
        obtain ⟨hT, pf9_S30⟩ := p_x29
        have hI := hJ
        have d_y28 := d_y28.trans (fri_at fc32 (by decide) (by decide) o_v1).symm
        have f0 := fri_tr (S := S27) g0 f0 fc32 (by decide) (by decide)
        have o_v0 := gr_ob g31 o_v0
        have o_v1 := gr_ob g31 o_v1
        have g0 := gr_tr (T := S27) g0 g31
        obtain ⟨y33, d_y33⟩ : ∃ z : Int32, z = fI S30 v0 9 := ⟨_, rfl⟩
        have p_y33 : x29 = 1 → (1 : Int32) ≤ y33 ∧ y33 ≤ (99 : Int32) := by rw [d_y33]; exact pf9_S30
        intro _ _
        have bb_x29 : x29 = 0 ∨ x29 = 1 := b_x29
        intro x34 ex34
        have q_x34 : x34 = y33 := ex34.trans d_y33.symm
        have d_x34 := ex34
        intro S35 eS35
        have hI : IV S35 := by rw [eS35]; exact iv_sI hI o_v1 (by decide) (nu_free (by decide))
        have f0 := fr_I eS35 g0 f0 o_v1 (by decide)
        have d_y28 := rd_Ij eS35 (by decide) d_y28
        have d_x34 := rd_Ik eS35 o_v1 o_v0 (by decide) d_x34
        obtain ⟨y36, hy36⟩ : ∃ z : Int32, z = x34 := ⟨_, rfl⟩
        have d_y36 := rd_Is eS35 hy36
        have hT := tx_I eS35 hT
        have g0 := gr_I eS35 g0
        have o_v0 := ob_I eS35 o_v0
        have o_v1 := ob_I eS35 o_v1
        refine ⟨b_x29, ?_⟩
        exact hq _ _ hI g0 f0 b_x29 hT
    · refine ⟨o_v1, ?_⟩
      intro S37 eS37
      have hI : IV S37 := by rw [eS37]; exact iv_sI hI o_v1 (by decide) (nu_free (by decide))
      have f0 := fr_I eS37 g0 f0 o_v1 (by decide)
      have d_y2 := rd_Ik eS37 o_v1 o_v0 (by decide) d_y2
      obtain ⟨y38, hy38⟩ : ∃ z : Int32, z = (2 : Int32) := ⟨_, rfl⟩
      have d_y38 := rd_Is eS37 hy38
      have hT := tx_I eS37 hT
      have g0 := gr_I eS37 g0
      have o_v0 := ob_I eS37 o_v0
      have o_v1 := ob_I eS37 o_v1
      refine m_X4_wordAndWhole hI o_v0 (by decide) hT (fun x39 S40 hJ g41 fc42 b_x39 p_x39 => ?_)
      obtain ⟨hT, pf9_S40⟩ := p_x39
      have hI := hJ
      have d_y38 := d_y38.trans (fri_at fc42 (by decide) (by decide) o_v1).symm
      have f0 := fri_tr (S := S37) g0 f0 fc42 (by decide) (by decide)
      have o_v0 := gr_ob g41 o_v0
      have o_v1 := gr_ob g41 o_v1
      have g0 := gr_tr (T := S37) g0 g41
      obtain ⟨y43, d_y43⟩ : ∃ z : Int32, z = fI S40 v0 9 := ⟨_, rfl⟩
      have p_y43 : x39 = 1 → (0 : Int32) ≤ y43 ∧ y43 ≤ (999 : Int32) := by rw [d_y43]; exact pf9_S40
      intro _ _
      have bb_x39 : x39 = 0 ∨ x39 = 1 := b_x39
      intro x44 ex44
      have q_x44 : x44 = y43 := ex44.trans d_y43.symm
      have d_x44 := ex44
      intro S45 eS45
      have hI : IV S45 := by rw [eS45]; exact iv_sI hI o_v1 (by decide) (nu_free (by decide))
      have f0 := fr_I eS45 g0 f0 o_v1 (by decide)
      have d_y38 := rd_Ij eS45 (by decide) d_y38
      have d_x44 := rd_Ik eS45 o_v1 o_v0 (by decide) d_x44
      obtain ⟨y46, hy46⟩ : ∃ z : Int32, z = x44 := ⟨_, rfl⟩
      have d_y46 := rd_Is eS45 hy46
      have hT := tx_I eS45 hT
      have g0 := gr_I eS45 g0
      have o_v0 := ob_I eS45 o_v0
      have o_v1 := ob_I eS45 o_v1
      refine ⟨b_x39, ?_⟩
      exact hq _ _ hI g0 f0 b_x39 hT
  · refine ⟨o_v1, ?_⟩
    intro S47 eS47
    have hI : IV S47 := by rw [eS47]; exact iv_sI hI o_v1 (by decide) (nu_free (by decide))
    have f0 := fr_I eS47 g0 f0 o_v1 (by decide)
    have d_y2 := rd_Ik eS47 o_v1 o_v0 (by decide) d_y2
    obtain ⟨y48, hy48⟩ : ∃ z : Int32, z = (1 : Int32) := ⟨_, rfl⟩
    have d_y48 := rd_Is eS47 hy48
    have hT := tx_I eS47 hT
    have g0 := gr_I eS47 g0
    have o_v0 := ob_I eS47 o_v0
    have o_v1 := ob_I eS47 o_v1
    refine m_X4_wordAndWhole hI o_v0 (by decide) hT (fun x49 S50 hJ g51 fc52 b_x49 p_x49 => ?_)
    obtain ⟨hT, pf9_S50⟩ := p_x49
    have hI := hJ
    have d_y48 := d_y48.trans (fri_at fc52 (by decide) (by decide) o_v1).symm
    have f0 := fri_tr (S := S47) g0 f0 fc52 (by decide) (by decide)
    have o_v0 := gr_ob g51 o_v0
    have o_v1 := gr_ob g51 o_v1
    have g0 := gr_tr (T := S47) g0 g51
    obtain ⟨y53, d_y53⟩ : ∃ z : Int32, z = fI S50 v0 9 := ⟨_, rfl⟩
    have p_y53 : x49 = 1 → (1 : Int32) ≤ y53 ∧ y53 ≤ (8 : Int32) := by rw [d_y53]; exact pf9_S50
    intro _ _
    have bb_x49 : x49 = 0 ∨ x49 = 1 := b_x49
    intro x54 ex54
    have q_x54 : x54 = y53 := ex54.trans d_y53.symm
    have d_x54 := ex54
    intro S55 eS55
    have hI : IV S55 := by rw [eS55]; exact iv_sI hI o_v1 (by decide) (nu_free (by decide))
    have f0 := fr_I eS55 g0 f0 o_v1 (by decide)
    have d_y48 := rd_Ij eS55 (by decide) d_y48
    have d_x54 := rd_Ik eS55 o_v1 o_v0 (by decide) d_x54
    obtain ⟨y56, hy56⟩ : ∃ z : Int32, z = x54 := ⟨_, rfl⟩
    have d_y56 := rd_Is eS55 hy56
    have hT := tx_I eS55 hT
    have g0 := gr_I eS55 g0
    have o_v0 := ob_I eS55 o_v0
    have o_v1 := ob_I eS55 o_v1
    refine ⟨b_x49, ?_⟩
    exact hq _ _ hI g0 f0 b_x49 hT
set_option maxHeartbeats 4000000 in
set_option maxRecDepth 20000 in
theorem m_X4_newName {v0 : Nat} {v1 : Int32} {Q : Int32 → HS → Prop} {S : HS} (hI : IV S) (o_v0 : ob S v0 4)    (hT : TX S v0) (hq : ∀ (r : Int32) (T : HS), IV T → Gr S T → FRI [(4, 0), (4, 1), (4, 4), (4, 6), (4, 7), (4, 10)] [] S T → bl r → (TX T v0) → Q r T) : P_X4_newName v0 v1 Q S := by
  have g0 := gr_rf S
  have f0 := fri_rf [(4, 0), (4, 1), (4, 4), (4, 6), (4, 7), (4, 10)] [] S
  refine u_X4_newName ?_
  refine u_X4_newName_0 ?_
  refine ⟨o_v0, ?_⟩
  refine m_X4_canBeName hI o_v0 hT (fun x1 S2 hI2 g3 b_x1 p_x1 => ?_)
  subst p_x1
  intro _ _
  have bb_x1 : x1 = 0 ∨ x1 = 1 := b_x1
  refine ⟨fun c5 => ?_, fun c5 => ?_⟩
  · refine m_X4_findName hI o_v0 hT (fun x6 S7 hI2 g8 p_x6 => ?_)
    subst p_x6
    intro _
    refine ⟨fun c10 => ?_, fun c10 => ?_⟩
    · intro x11 ex11
      have r_x11 : (0 : Int32) ≤ x11 ∧ x11 ≤ (12 : Int32) := by rw [ex11]; exact nu 7 rfl hI o_v0
      have d_x11 := ex11
      refine ⟨fun c12 => ?_, fun c12 => ?_⟩
      · refine u_X4_newName_69 ?_
        refine ⟨o_v0, ?_⟩
        refine m_X4_next hI o_v0 hT (fun S14 hJ g15 fc16 p_S14 => ?_)
        have hT := p_S14
        have hI := hJ
        have d_x11 := d_x11.trans (fri_at fc16 (by decide) (by decide) o_v0).symm
        have f0 := fri_tr (S := S) g0 f0 fc16 (by decide) (by decide)
        have o_v0 := gr_ob g15 o_v0
        have g0 := gr_tr (T := S) g0 g15
        intro _
        exact hq _ _ hI g0 f0 (Or.inr rfl) hT
      · obtain ⟨a17, ea17, o_a17, l_a17⟩ := shl 13 rfl hI o_v0
        refine ⟨a17, ea17, ?_⟩
        intro x18 ex18
        have r_x18 : (0 : Int32) ≤ x18 ∧ x18 ≤ (12 : Int32) := by rw [ex18]; exact nu 7 rfl hI o_v0
        have q_x18 : x18 = x11 := ex18.trans d_x11.symm
        have d_x18 := ex18
        intro x19 ex19
        have dj_x19 := ex19
        refine ⟨o_a17, ?_⟩
        have i20 : vp_in x18 (hN _ a17) := (vin l_a17 (m := 12) (by decide) (q711 bb_x1 c5 c10 r_x11 c12 r_x18 q_x18))
        refine ⟨i20, ?_⟩
        intro S21 eS21
        have hI : IV S21 := by rw [eS21]; exact iv_aJ hI o_v0 (by decide) ea17 o_a17 (by decide)
        have f0 := fr_J eS21 f0
        have d_x18 := rd_J eS21 d_x18
        have ea17 := rf_J eS21 ea17
        have hT := tx_J eS21 hT
        have l_a17 := ln_J eS21 l_a17
        have g0 := gr_J eS21 g0
        have o_a17 := ob_J eS21 o_a17
        have o_v0 := ob_J eS21 o_v0
        obtain ⟨a22, ea22, o_a22, l_a22⟩ := shl 14 rfl hI o_v0
        refine ⟨a22, ea22, ?_⟩
        intro x23 ex23
        have r_x23 : (0 : Int32) ≤ x23 ∧ x23 ≤ (12 : Int32) := by rw [ex23]; exact nu 7 rfl hI o_v0
        have q_x23 : x23 = x18 := ex23.trans d_x18.symm
        have d_x23 := ex23
        refine ⟨o_a22, ?_⟩
        have i24 : vp_in x23 (hN _ a22) := (vin l_a22 (m := 12) (by decide) (q712 bb_x1 c5 c10 r_x11 c12 r_x18 q_x18 r_x23 q_x23))
        refine ⟨i24, ?_⟩
        intro S25 eS25
        have hI : IV S25 := by rw [eS25]; exact iv_aI hI o_v0 (by decide) ea22 o_a22 (by decide)
        have f0 := fr_A eS25 g0 f0 o_a22 (by decide)
        have d_x23 := rd_Ik eS25 o_a22 o_v0 (by decide) d_x23
        have ea17 := rf_I eS25 ea17
        have ea22 := rf_I eS25 ea22
        have hT := tx_I eS25 hT
        have l_a17 := ln_I eS25 l_a17
        have l_a22 := ln_I eS25 l_a22
        have g0 := gr_I eS25 g0
        have o_a17 := ob_I eS25 o_a17
        have o_a22 := ob_I eS25 o_a22
        have o_v0 := ob_I eS25 o_v0
        intro x26 ex26
        have r_x26 : (0 : Int32) ≤ x26 ∧ x26 ≤ (12 : Int32) := by rw [ex26]; exact nu 7 rfl hI o_v0
        have q_x26 : x26 = x23 := ex26.trans d_x23.symm
        have d_x26 := ex26
        intro x27 ex27
        intro S28 eS28
        have hI : IV S28 := by rw [eS28]; exact iv_sI hI o_v0 (by decide) (nu_one (lo := (0 : Int32)) (hi := (12 : Int32)) (by decide) (q713 bb_x1 c5 c10 r_x11 c12 r_x18 q_x18 r_x23 q_x23 r_x26 q_x26 ex27))
        have f0 := fr_I eS28 g0 f0 o_v0 (by decide)
        have d_x27 := rd_Is eS28 (rfl : x27 = x27)
        have ea17 := rf_I eS28 ea17
        have ea22 := rf_I eS28 ea22
        have hT := tx_I eS28 hT
        have l_a17 := ln_I eS28 l_a17
        have l_a22 := ln_I eS28 l_a22
        have g0 := gr_I eS28 g0
        have o_a17 := ob_I eS28 o_a17
        have o_a22 := ob_I eS28 o_a22
        have o_v0 := ob_I eS28 o_v0
        refine u_X4_newName_69 ?_
        refine ⟨o_v0, ?_⟩
        refine m_X4_next hI o_v0 hT (fun S30 hJ g31 fc32 p_S30 => ?_)
        have hT := p_S30
        have hI := hJ
        have l_a17 := (gr_len g31 o_a17).trans l_a17
        have l_a22 := (gr_len g31 o_a22).trans l_a22
        have d_x27 := d_x27.trans (fri_at fc32 (by decide) (by decide) o_v0).symm
        have ea17 := (frr_at fc32 (by decide) (by decide) o_v0).trans ea17
        have ea22 := (frr_at fc32 (by decide) (by decide) o_v0).trans ea22
        have f0 := fri_tr (S := S28) g0 f0 fc32 (by decide) (by decide)
        have o_a17 := gr_ob g31 o_a17
        have o_a22 := gr_ob g31 o_a22
        have o_v0 := gr_ob g31 o_v0
        have g0 := gr_tr (T := S28) g0 g31
        intro _
        exact hq _ _ hI g0 f0 (Or.inr rfl) hT
    · refine u_X4_fail ?_
      refine u_X4_fail_0 ?_
      refine ⟨o_v0, ?_⟩
      intro S33 eS33
      have hI : IV S33 := by rw [eS33]; exact iv_sI hI o_v0 (by decide) (nu_free (by decide))
      have f0 := fr_I eS33 g0 f0 o_v0 (by decide)
      obtain ⟨y34, hy34⟩ : ∃ z : Int32, z = (3 : Int32) := ⟨_, rfl⟩
      have d_y34 := rd_Is eS33 hy34
      have hT := tx_I eS33 hT
      have g0 := gr_I eS33 g0
      have o_v0 := ob_I eS33 o_v0
      intro x35 ex35
      have d_x35 := ex35
      intro S36 eS36
      have hI : IV S36 := by rw [eS36]; exact iv_sI hI o_v0 (by decide) (nu_free (by decide))
      have f0 := fr_I eS36 g0 f0 o_v0 (by decide)
      have d_y34 := rd_Ij eS36 (by decide) d_y34
      have d_x35 := rd_Ij eS36 (by decide) d_x35
      obtain ⟨y37, hy37⟩ : ∃ z : Int32, z = x35 := ⟨_, rfl⟩
      have d_y37 := rd_Is eS36 hy37
      have hT := tx_I eS36 hT
      have g0 := gr_I eS36 g0
      have o_v0 := ob_I eS36 o_v0
      intro _ _
      refine ⟨(Or.inl rfl), ?_⟩
      exact hq _ _ hI g0 f0 (Or.inl rfl) hT
  · refine u_X4_fail ?_
    refine u_X4_fail_0 ?_
    refine ⟨o_v0, ?_⟩
    intro S39 eS39
    have hI : IV S39 := by rw [eS39]; exact iv_sI hI o_v0 (by decide) (nu_free (by decide))
    have f0 := fr_I eS39 g0 f0 o_v0 (by decide)
    obtain ⟨y40, hy40⟩ : ∃ z : Int32, z = (1 : Int32) := ⟨_, rfl⟩
    have d_y40 := rd_Is eS39 hy40
    have hT := tx_I eS39 hT
    have g0 := gr_I eS39 g0
    have o_v0 := ob_I eS39 o_v0
    intro x41 ex41
    have d_x41 := ex41
    intro S42 eS42
    have hI : IV S42 := by rw [eS42]; exact iv_sI hI o_v0 (by decide) (nu_free (by decide))
    have f0 := fr_I eS42 g0 f0 o_v0 (by decide)
    have d_y40 := rd_Ij eS42 (by decide) d_y40
    have d_x41 := rd_Ij eS42 (by decide) d_x41
    obtain ⟨y43, hy43⟩ : ∃ z : Int32, z = x41 := ⟨_, rfl⟩
    have d_y43 := rd_Is eS42 hy43
    have hT := tx_I eS42 hT
    have g0 := gr_I eS42 g0
    have o_v0 := ob_I eS42 o_v0
    intro _ _
    refine ⟨(Or.inl rfl), ?_⟩
    exact hq _ _ hI g0 f0 (Or.inl rfl) hT
set_option maxHeartbeats 4000000 in
set_option maxRecDepth 20000 in
theorem m_X8_clear {v0 : Nat} {Q : HS → Prop} {S : HS} (hI : IV S) (o_v0 : ob S v0 8)     (hq : ∀ (T : HS), IV T → Gr S T → FRI [(8, 0), (8, 1), (8, 2), (8, 3), (8, 4), (8, 5)] [] S T → Q T) : P_X8_clear v0 Q S := by
  have g0 := gr_rf S
  have f0 := fri_rf [(8, 0), (8, 1), (8, 2), (8, 3), (8, 4), (8, 5)] [] S
  refine u_X8_clear ?_
  refine u_X8_clear_0 ?_
  refine ⟨o_v0, ?_⟩
  intro S1 eS1
  have hI : IV S1 := by rw [eS1]; exact iv_sI hI o_v0 (by decide) (nu_one (lo := (0 : Int32)) (hi := (60 : Int32)) (by decide) (q225))
  have f0 := fr_I eS1 g0 f0 o_v0 (by decide)
  obtain ⟨y2, hy2⟩ : ∃ z : Int32, z = (0 : Int32) := ⟨_, rfl⟩
  have d_y2 := rd_Is eS1 hy2
  have g0 := gr_I eS1 g0
  have o_v0 := ob_I eS1 o_v0
  intro S3 eS3
  have hI : IV S3 := by rw [eS3]; exact iv_sI hI o_v0 (by decide) (nu_one (lo := (0 : Int32)) (hi := (6 : Int32)) (by decide) (q226))
  have f0 := fr_I eS3 g0 f0 o_v0 (by decide)
  have d_y2 := rd_Ij eS3 (by decide) d_y2
  obtain ⟨y4, hy4⟩ : ∃ z : Int32, z = (0 : Int32) := ⟨_, rfl⟩
  have d_y4 := rd_Is eS3 hy4
  have g0 := gr_I eS3 g0
  have o_v0 := ob_I eS3 o_v0
  intro S5 eS5
  have hI : IV S5 := by rw [eS5]; exact iv_sI hI o_v0 (by decide) (nu_one (lo := (0 : Int32)) (hi := (8 : Int32)) (by decide) (q227))
  have f0 := fr_I eS5 g0 f0 o_v0 (by decide)
  have d_y2 := rd_Ij eS5 (by decide) d_y2
  have d_y4 := rd_Ij eS5 (by decide) d_y4
  obtain ⟨y6, hy6⟩ : ∃ z : Int32, z = (0 : Int32) := ⟨_, rfl⟩
  have d_y6 := rd_Is eS5 hy6
  have g0 := gr_I eS5 g0
  have o_v0 := ob_I eS5 o_v0
  intro S7 eS7
  have hI : IV S7 := by rw [eS7]; exact iv_sI hI o_v0 (by decide) (nu_one (lo := (0 : Int32)) (hi := (12 : Int32)) (by decide) (q224))
  have f0 := fr_I eS7 g0 f0 o_v0 (by decide)
  have d_y2 := rd_Ij eS7 (by decide) d_y2
  have d_y4 := rd_Ij eS7 (by decide) d_y4
  have d_y6 := rd_Ij eS7 (by decide) d_y6
  obtain ⟨y8, hy8⟩ : ∃ z : Int32, z = (0 : Int32) := ⟨_, rfl⟩
  have d_y8 := rd_Is eS7 hy8
  have g0 := gr_I eS7 g0
  have o_v0 := ob_I eS7 o_v0
  intro S9 eS9
  have hI : IV S9 := by rw [eS9]; exact iv_sI hI o_v0 (by decide) (nu_one (lo := (0 : Int32)) (hi := (4 : Int32)) (by decide) (q228))
  have f0 := fr_I eS9 g0 f0 o_v0 (by decide)
  have d_y2 := rd_Ij eS9 (by decide) d_y2
  have d_y4 := rd_Ij eS9 (by decide) d_y4
  have d_y6 := rd_Ij eS9 (by decide) d_y6
  have d_y8 := rd_Ij eS9 (by decide) d_y8
  obtain ⟨y10, hy10⟩ : ∃ z : Int32, z = (0 : Int32) := ⟨_, rfl⟩
  have d_y10 := rd_Is eS9 hy10
  have g0 := gr_I eS9 g0
  have o_v0 := ob_I eS9 o_v0
  intro S11 eS11
  have hI : IV S11 := by rw [eS11]; exact iv_sI hI o_v0 (by decide) (nu_one (lo := (0 : Int32)) (hi := (4 : Int32)) (by decide) (q228))
  have f0 := fr_I eS11 g0 f0 o_v0 (by decide)
  have d_y2 := rd_Ij eS11 (by decide) d_y2
  have d_y4 := rd_Ij eS11 (by decide) d_y4
  have d_y6 := rd_Ij eS11 (by decide) d_y6
  have d_y8 := rd_Ij eS11 (by decide) d_y8
  have d_y10 := rd_Ij eS11 (by decide) d_y10
  obtain ⟨y12, hy12⟩ : ∃ z : Int32, z = (0 : Int32) := ⟨_, rfl⟩
  have d_y12 := rd_Is eS11 hy12
  have g0 := gr_I eS11 g0
  have o_v0 := ob_I eS11 o_v0
  exact hq _ hI g0 f0
set_option maxHeartbeats 4000000 in
set_option maxRecDepth 20000 in
theorem m_X4_open {v0 : Nat} {v1 : Nat} {v2 : Int32} {Q : HS → Prop} {S : HS} (hI : IV S) (o_v0 : ob S v0 4) (o_v1 : ob S v1 12) (l_v1 : hN S v1 = 900)  (h2 : 0 ≤ v2)  (hq : ∀ (T : HS), IV T → Gr S T → FRI [(4, 0), (4, 1), (4, 3), (4, 4), (4, 6), (4, 7), (4, 10), (8, 0), (8, 1), (8, 2), (8, 3), (8, 4), (8, 5)] [(4, 2)] S T → (TX T v0) → Q T) : P_X4_open v0 v1 v2 Q S := by
  have g0 := gr_rf S
  have f0 := fri_rf [(4, 0), (4, 1), (4, 3), (4, 4), (4, 6), (4, 7), (4, 10), (8, 0), (8, 1), (8, 2), (8, 3), (8, 4), (8, 5)] [(4, 2)] S
  refine u_X4_open ?_
  refine u_X4_open_0 ?_
  refine ⟨o_v0, ?_⟩
  intro S1 eS1
  have hI : IV S1 := by rw [eS1]; exact iv_sR (j := 2) (v := v1) hI o_v0 (by decide) (by decide) (npr hI.1 o_v1 (by decide)) o_v1.1 (sh_free (by decide))
  have f0 := fr_R eS1 g0 f0 o_v0 (by decide)
  have l_v1 := ln_R eS1 l_v1
  have g0 := gr_R eS1 g0
  have o_v0 := ob_R eS1 o_v0
  have o_v1 := ob_R eS1 o_v1
  have hT : TX S1 v0 := ⟨v1, by rw [eS1]; exact u2_self _ _ _ _, o_v1, l_v1⟩
  refine ⟨o_v1, ?_⟩
  have n_v1 : nI (hN S1 v1) = 900 := by rw [show hN S1 v1 = 900 from l_v1]; decide
  intro x2 ex2
  rw [n_v1] at ex2
  intro S3 eS3
  have hI : IV S3 := by rw [eS3]; exact iv_sI hI o_v0 (by decide) (nu_one (lo := (0 : Int32)) (hi := (900 : Int32)) (by decide) (q223 h2 ex2))
  have f0 := fr_I eS3 g0 f0 o_v0 (by decide)
  have d_x2 := rd_Is eS3 (rfl : x2 = x2)
  have hT := tx_I eS3 hT
  have l_v1 := ln_I eS3 l_v1
  have g0 := gr_I eS3 g0
  have o_v0 := ob_I eS3 o_v0
  have o_v1 := ob_I eS3 o_v1
  intro S4 eS4
  have hI : IV S4 := by rw [eS4]; exact iv_sI hI o_v0 (by decide) (nu_free (by decide))
  have f0 := fr_I eS4 g0 f0 o_v0 (by decide)
  have d_x2 := rd_Ij eS4 (by decide) d_x2
  obtain ⟨y5, hy5⟩ : ∃ z : Int32, z = (0 : Int32) := ⟨_, rfl⟩
  have d_y5 := rd_Is eS4 hy5
  have hT := tx_I eS4 hT
  have l_v1 := ln_I eS4 l_v1
  have g0 := gr_I eS4 g0
  have o_v0 := ob_I eS4 o_v0
  have o_v1 := ob_I eS4 o_v1
  intro S6 eS6
  have hI : IV S6 := by rw [eS6]; exact iv_sI hI o_v0 (by decide) (nu_free (by decide))
  have f0 := fr_I eS6 g0 f0 o_v0 (by decide)
  have d_x2 := rd_Ij eS6 (by decide) d_x2
  have d_y5 := rd_Ij eS6 (by decide) d_y5
  obtain ⟨y7, hy7⟩ : ∃ z : Int32, z = (0 : Int32) := ⟨_, rfl⟩
  have d_y7 := rd_Is eS6 hy7
  have hT := tx_I eS6 hT
  have l_v1 := ln_I eS6 l_v1
  have g0 := gr_I eS6 g0
  have o_v0 := ob_I eS6 o_v0
  have o_v1 := ob_I eS6 o_v1
  intro S8 eS8
  have hI : IV S8 := by rw [eS8]; exact iv_sI hI o_v0 (by decide) (nu_free (by decide))
  have f0 := fr_I eS8 g0 f0 o_v0 (by decide)
  have d_x2 := rd_Ij eS8 (by decide) d_x2
  have d_y5 := rd_Ij eS8 (by decide) d_y5
  have d_y7 := rd_Ij eS8 (by decide) d_y7
  obtain ⟨y9, hy9⟩ : ∃ z : Int32, z = (0 : Int32) := ⟨_, rfl⟩
  have d_y9 := rd_Is eS8 hy9
  have hT := tx_I eS8 hT
  have l_v1 := ln_I eS8 l_v1
  have g0 := gr_I eS8 g0
  have o_v0 := ob_I eS8 o_v0
  have o_v1 := ob_I eS8 o_v1
  intro S10 eS10
  have hI : IV S10 := by rw [eS10]; exact iv_sI hI o_v0 (by decide) (nu_one (lo := (0 : Int32)) (hi := (12 : Int32)) (by decide) (q224))
  have f0 := fr_I eS10 g0 f0 o_v0 (by decide)
  have d_x2 := rd_Ij eS10 (by decide) d_x2
  have d_y5 := rd_Ij eS10 (by decide) d_y5
  have d_y7 := rd_Ij eS10 (by decide) d_y7
  have d_y9 := rd_Ij eS10 (by decide) d_y9
  obtain ⟨y11, hy11⟩ : ∃ z : Int32, z = (0 : Int32) := ⟨_, rfl⟩
  have d_y11 := rd_Is eS10 hy11
  have hT := tx_I eS10 hT
  have l_v1 := ln_I eS10 l_v1
  have g0 := gr_I eS10 g0
  have o_v0 := ob_I eS10 o_v0
  have o_v1 := ob_I eS10 o_v1
  obtain ⟨a12, ea12, o_a12, -⟩ := sh 12 rfl hI o_v0
  refine ⟨a12, ea12, ?_⟩
  refine ⟨o_a12, ?_⟩
  refine u_X8_clear ?_
  refine u_X8_clear_0 ?_
  refine ⟨o_a12, ?_⟩
  intro S13 eS13
  have hI : IV S13 := by rw [eS13]; exact iv_sI hI o_a12 (by decide) (nu_one (lo := (0 : Int32)) (hi := (60 : Int32)) (by decide) (q225))
  have f0 := fr_I eS13 g0 f0 o_a12 (by decide)
  have d_x2 := rd_Ik eS13 o_a12 o_v0 (by decide) d_x2
  have d_y5 := rd_Ik eS13 o_a12 o_v0 (by decide) d_y5
  have d_y7 := rd_Ik eS13 o_a12 o_v0 (by decide) d_y7
  have d_y9 := rd_Ik eS13 o_a12 o_v0 (by decide) d_y9
  have d_y11 := rd_Ik eS13 o_a12 o_v0 (by decide) d_y11
  obtain ⟨y14, hy14⟩ : ∃ z : Int32, z = (0 : Int32) := ⟨_, rfl⟩
  have d_y14 := rd_Is eS13 hy14
  have ea12 := rf_I eS13 ea12
  have hT := tx_I eS13 hT
  have l_v1 := ln_I eS13 l_v1
  have g0 := gr_I eS13 g0
  have o_a12 := ob_I eS13 o_a12
  have o_v0 := ob_I eS13 o_v0
  have o_v1 := ob_I eS13 o_v1
  intro S15 eS15
  have hI : IV S15 := by rw [eS15]; exact iv_sI hI o_a12 (by decide) (nu_one (lo := (0 : Int32)) (hi := (6 : Int32)) (by decide) (q226))
  have f0 := fr_I eS15 g0 f0 o_a12 (by decide)
  have d_x2 := rd_Ik eS15 o_a12 o_v0 (by decide) d_x2
  have d_y5 := rd_Ik eS15 o_a12 o_v0 (by decide) d_y5
  have d_y7 := rd_Ik eS15 o_a12 o_v0 (by decide) d_y7
  have d_y9 := rd_Ik eS15 o_a12 o_v0 (by decide) d_y9
  have d_y11 := rd_Ik eS15 o_a12 o_v0 (by decide) d_y11
  have d_y14 := rd_Ij eS15 (by decide) d_y14
  obtain ⟨y16, hy16⟩ : ∃ z : Int32, z = (0 : Int32) := ⟨_, rfl⟩
  have d_y16 := rd_Is eS15 hy16
  have ea12 := rf_I eS15 ea12
  have hT := tx_I eS15 hT
  have l_v1 := ln_I eS15 l_v1
  have g0 := gr_I eS15 g0
  have o_a12 := ob_I eS15 o_a12
  have o_v0 := ob_I eS15 o_v0
  have o_v1 := ob_I eS15 o_v1
  intro S17 eS17
  have hI : IV S17 := by rw [eS17]; exact iv_sI hI o_a12 (by decide) (nu_one (lo := (0 : Int32)) (hi := (8 : Int32)) (by decide) (q227))
  have f0 := fr_I eS17 g0 f0 o_a12 (by decide)
  have d_x2 := rd_Ik eS17 o_a12 o_v0 (by decide) d_x2
  have d_y5 := rd_Ik eS17 o_a12 o_v0 (by decide) d_y5
  have d_y7 := rd_Ik eS17 o_a12 o_v0 (by decide) d_y7
  have d_y9 := rd_Ik eS17 o_a12 o_v0 (by decide) d_y9
  have d_y11 := rd_Ik eS17 o_a12 o_v0 (by decide) d_y11
  have d_y14 := rd_Ij eS17 (by decide) d_y14
  have d_y16 := rd_Ij eS17 (by decide) d_y16
  obtain ⟨y18, hy18⟩ : ∃ z : Int32, z = (0 : Int32) := ⟨_, rfl⟩
  have d_y18 := rd_Is eS17 hy18
  have ea12 := rf_I eS17 ea12
  have hT := tx_I eS17 hT
  have l_v1 := ln_I eS17 l_v1
  have g0 := gr_I eS17 g0
  have o_a12 := ob_I eS17 o_a12
  have o_v0 := ob_I eS17 o_v0
  have o_v1 := ob_I eS17 o_v1
  intro S19 eS19
  have hI : IV S19 := by rw [eS19]; exact iv_sI hI o_a12 (by decide) (nu_one (lo := (0 : Int32)) (hi := (12 : Int32)) (by decide) (q224))
  have f0 := fr_I eS19 g0 f0 o_a12 (by decide)
  have d_x2 := rd_Ik eS19 o_a12 o_v0 (by decide) d_x2
  have d_y5 := rd_Ik eS19 o_a12 o_v0 (by decide) d_y5
  have d_y7 := rd_Ik eS19 o_a12 o_v0 (by decide) d_y7
  have d_y9 := rd_Ik eS19 o_a12 o_v0 (by decide) d_y9
  have d_y11 := rd_Ik eS19 o_a12 o_v0 (by decide) d_y11
  have d_y14 := rd_Ij eS19 (by decide) d_y14
  have d_y16 := rd_Ij eS19 (by decide) d_y16
  have d_y18 := rd_Ij eS19 (by decide) d_y18
  obtain ⟨y20, hy20⟩ : ∃ z : Int32, z = (0 : Int32) := ⟨_, rfl⟩
  have d_y20 := rd_Is eS19 hy20
  have ea12 := rf_I eS19 ea12
  have hT := tx_I eS19 hT
  have l_v1 := ln_I eS19 l_v1
  have g0 := gr_I eS19 g0
  have o_a12 := ob_I eS19 o_a12
  have o_v0 := ob_I eS19 o_v0
  have o_v1 := ob_I eS19 o_v1
  intro S21 eS21
  have hI : IV S21 := by rw [eS21]; exact iv_sI hI o_a12 (by decide) (nu_one (lo := (0 : Int32)) (hi := (4 : Int32)) (by decide) (q228))
  have f0 := fr_I eS21 g0 f0 o_a12 (by decide)
  have d_x2 := rd_Ik eS21 o_a12 o_v0 (by decide) d_x2
  have d_y5 := rd_Ik eS21 o_a12 o_v0 (by decide) d_y5
  have d_y7 := rd_Ik eS21 o_a12 o_v0 (by decide) d_y7
  have d_y9 := rd_Ik eS21 o_a12 o_v0 (by decide) d_y9
  have d_y11 := rd_Ik eS21 o_a12 o_v0 (by decide) d_y11
  have d_y14 := rd_Ij eS21 (by decide) d_y14
  have d_y16 := rd_Ij eS21 (by decide) d_y16
  have d_y18 := rd_Ij eS21 (by decide) d_y18
  have d_y20 := rd_Ij eS21 (by decide) d_y20
  obtain ⟨y22, hy22⟩ : ∃ z : Int32, z = (0 : Int32) := ⟨_, rfl⟩
  have d_y22 := rd_Is eS21 hy22
  have ea12 := rf_I eS21 ea12
  have hT := tx_I eS21 hT
  have l_v1 := ln_I eS21 l_v1
  have g0 := gr_I eS21 g0
  have o_a12 := ob_I eS21 o_a12
  have o_v0 := ob_I eS21 o_v0
  have o_v1 := ob_I eS21 o_v1
  intro S23 eS23
  have hI : IV S23 := by rw [eS23]; exact iv_sI hI o_a12 (by decide) (nu_one (lo := (0 : Int32)) (hi := (4 : Int32)) (by decide) (q228))
  have f0 := fr_I eS23 g0 f0 o_a12 (by decide)
  have d_x2 := rd_Ik eS23 o_a12 o_v0 (by decide) d_x2
  have d_y5 := rd_Ik eS23 o_a12 o_v0 (by decide) d_y5
  have d_y7 := rd_Ik eS23 o_a12 o_v0 (by decide) d_y7
  have d_y9 := rd_Ik eS23 o_a12 o_v0 (by decide) d_y9
  have d_y11 := rd_Ik eS23 o_a12 o_v0 (by decide) d_y11
  have d_y14 := rd_Ij eS23 (by decide) d_y14
  have d_y16 := rd_Ij eS23 (by decide) d_y16
  have d_y18 := rd_Ij eS23 (by decide) d_y18
  have d_y20 := rd_Ij eS23 (by decide) d_y20
  have d_y22 := rd_Ij eS23 (by decide) d_y22
  obtain ⟨y24, hy24⟩ : ∃ z : Int32, z = (0 : Int32) := ⟨_, rfl⟩
  have d_y24 := rd_Is eS23 hy24
  have ea12 := rf_I eS23 ea12
  have hT := tx_I eS23 hT
  have l_v1 := ln_I eS23 l_v1
  have g0 := gr_I eS23 g0
  have o_a12 := ob_I eS23 o_a12
  have o_v0 := ob_I eS23 o_v0
  have o_v1 := ob_I eS23 o_v1
  intro _
  refine m_X4_next hI o_v0 hT (fun S26 hJ g27 fc28 p_S26 => ?_)
  have hT := p_S26
  have hI := hJ
  have l_v1 := (gr_len g27 o_v1).trans l_v1
  have d_x2 := d_x2.trans (fri_at fc28 (by decide) (by decide) o_v0).symm
  have d_y7 := d_y7.trans (fri_at fc28 (by decide) (by decide) o_v0).symm
  have d_y9 := d_y9.trans (fri_at fc28 (by decide) (by decide) o_v0).symm
  have d_y11 := d_y11.trans (fri_at fc28 (by decide) (by decide) o_v0).symm
  have d_y14 := d_y14.trans (fri_at fc28 (by decide) (by decide) o_a12).symm
  have d_y16 := d_y16.trans (fri_at fc28 (by decide) (by decide) o_a12).symm
  have d_y18 := d_y18.trans (fri_at fc28 (by decide) (by decide) o_a12).symm
  have d_y20 := d_y20.trans (fri_at fc28 (by decide) (by decide) o_a12).symm
  have d_y22 := d_y22.trans (fri_at fc28 (by decide) (by decide) o_a12).symm
  have d_y24 := d_y24.trans (fri_at fc28 (by decide) (by decide) o_a12).symm
  have ea12 := (frr_at fc28 (by decide) (by decide) o_v0).trans ea12
  have f0 := fri_tr (S := S23) g0 f0 fc28 (by decide) (by decide)
  have o_a12 := gr_ob g27 o_a12
  have o_v0 := gr_ob g27 o_v0
  have o_v1 := gr_ob g27 o_v1
  have g0 := gr_tr (T := S23) g0 g27
  intro _
  exact hq _ hI g0 f0 hT
set_option maxHeartbeats 4000000 in
set_option maxRecDepth 20000 in
theorem m_X4_placeBut {v0 : Nat} {v1 : Int32} {Q : Int32 → HS → Prop} {S : HS} (hI : IV S) (o_v0 : ob S v0 4)    (hT : TX S v0) (hq : ∀ (r : Int32) (T : HS), IV T → Gr S T → FRI [(4, 0), (4, 1), (4, 4), (4, 6), (4, 7), (4, 9)] [] S T → bl r → (TX T v0) → Q r T) : P_X4_placeBut v0 v1 Q S := by
  have g0 := gr_rf S
  have f0 := fri_rf [(4, 0), (4, 1), (4, 4), (4, 6), (4, 7), (4, 9)] [] S
  refine u_X4_placeBut ?_
  refine u_X4_placeBut_0 ?_
  refine ⟨o_v0, ?_⟩
  refine m_X4_canBeName hI o_v0 hT (fun x1 S2 hI2 g3 b_x1 p_x1 => ?_)
  subst p_x1
  intro _ _
  have bb_x1 : x1 = 0 ∨ x1 = 1 := b_x1
  refine ⟨fun c5 => ?_, fun c5 => ?_⟩
  · refine m_X4_findName hI o_v0 hT (fun x6 S7 hI2 g8 p_x6 => ?_)
    subst p_x6
    intro _
    refine ⟨fun c10 => ?_, fun c10 => ?_⟩
    · refine u_X4_placeBut_29 ?_
      refine ⟨o_v0, ?_⟩
      refine u_X4_fail ?_
      refine u_X4_fail_0 ?_
      refine ⟨o_v0, ?_⟩
      intro S11 eS11
      have hI : IV S11 := by rw [eS11]; exact iv_sI hI o_v0 (by decide) (nu_free (by decide))
      have f0 := fr_I eS11 g0 f0 o_v0 (by decide)
      obtain ⟨y12, hy12⟩ : ∃ z : Int32, z = (2 : Int32) := ⟨_, rfl⟩
      have d_y12 := rd_Is eS11 hy12
      have hT := tx_I eS11 hT
      have g0 := gr_I eS11 g0
      have o_v0 := ob_I eS11 o_v0
      intro x13 ex13
      have d_x13 := ex13
      intro S14 eS14
      have hI : IV S14 := by rw [eS14]; exact iv_sI hI o_v0 (by decide) (nu_free (by decide))
      have f0 := fr_I eS14 g0 f0 o_v0 (by decide)
      have d_y12 := rd_Ij eS14 (by decide) d_y12
      have d_x13 := rd_Ij eS14 (by decide) d_x13
      obtain ⟨y15, hy15⟩ : ∃ z : Int32, z = x13 := ⟨_, rfl⟩
      have d_y15 := rd_Is eS14 hy15
      have hT := tx_I eS14 hT
      have g0 := gr_I eS14 g0
      have o_v0 := ob_I eS14 o_v0
      intro _ _
      refine ⟨(Or.inl rfl), ?_⟩
      exact hq _ _ hI g0 f0 (Or.inl rfl) hT
    · refine ⟨fun c17 => ?_, fun c17 => ?_⟩
      · refine ⟨fun c18 => ?_, fun c18 => ?_⟩
        · intro S19 eS19
          have hI : IV S19 := by rw [eS19]; exact iv_sI hI o_v0 (by decide) (nu_free (by decide))
          have f0 := fr_I eS19 g0 f0 o_v0 (by decide)
          have d_x6 := rd_Is eS19 (rfl : x6 = x6)
          have hT := tx_I eS19 hT
          have g0 := gr_I eS19 g0
          have o_v0 := ob_I eS19 o_v0
          refine m_X4_next hI o_v0 hT (fun S21 hJ g22 fc23 p_S21 => ?_)
          have hT := p_S21
          have hI := hJ
          have d_x6 := d_x6.trans (fri_at fc23 (by decide) (by decide) o_v0).symm
          have f0 := fri_tr (S := S19) g0 f0 fc23 (by decide) (by decide)
          have o_v0 := gr_ob g22 o_v0
          have g0 := gr_tr (T := S19) g0 g22
          intro _
          exact hq _ _ hI g0 f0 (Or.inr rfl) hT
        · refine u_X4_fail ?_
          refine u_X4_fail_0 ?_
          refine ⟨o_v0, ?_⟩
          intro S24 eS24
          have hI : IV S24 := by rw [eS24]; exact iv_sI hI o_v0 (by decide) (nu_free (by decide))
          have f0 := fr_I eS24 g0 f0 o_v0 (by decide)
          obtain ⟨y25, hy25⟩ : ∃ z : Int32, z = (3 : Int32) := ⟨_, rfl⟩
          have d_y25 := rd_Is eS24 hy25
          have hT := tx_I eS24 hT
          have g0 := gr_I eS24 g0
          have o_v0 := ob_I eS24 o_v0
          intro x26 ex26
          have d_x26 := ex26
          intro S27 eS27
          have hI : IV S27 := by rw [eS27]; exact iv_sI hI o_v0 (by decide) (nu_free (by decide))
          have f0 := fr_I eS27 g0 f0 o_v0 (by decide)
          have d_y25 := rd_Ij eS27 (by decide) d_y25
          have d_x26 := rd_Ij eS27 (by decide) d_x26
          obtain ⟨y28, hy28⟩ : ∃ z : Int32, z = x26 := ⟨_, rfl⟩
          have d_y28 := rd_Is eS27 hy28
          have hT := tx_I eS27 hT
          have g0 := gr_I eS27 g0
          have o_v0 := ob_I eS27 o_v0
          intro _ _
          refine ⟨(Or.inl rfl), ?_⟩
          exact hq _ _ hI g0 f0 (Or.inl rfl) hT
      · refine u_X4_placeBut_29 ?_
        refine ⟨o_v0, ?_⟩
        refine u_X4_fail ?_
        refine u_X4_fail_0 ?_
        refine ⟨o_v0, ?_⟩
        intro S30 eS30
        have hI : IV S30 := by rw [eS30]; exact iv_sI hI o_v0 (by decide) (nu_free (by decide))
        have f0 := fr_I eS30 g0 f0 o_v0 (by decide)
        obtain ⟨y31, hy31⟩ : ∃ z : Int32, z = (2 : Int32) := ⟨_, rfl⟩
        have d_y31 := rd_Is eS30 hy31
        have hT := tx_I eS30 hT
        have g0 := gr_I eS30 g0
        have o_v0 := ob_I eS30 o_v0
        intro x32 ex32
        have d_x32 := ex32
        intro S33 eS33
        have hI : IV S33 := by rw [eS33]; exact iv_sI hI o_v0 (by decide) (nu_free (by decide))
        have f0 := fr_I eS33 g0 f0 o_v0 (by decide)
        have d_y31 := rd_Ij eS33 (by decide) d_y31
        have d_x32 := rd_Ij eS33 (by decide) d_x32
        obtain ⟨y34, hy34⟩ : ∃ z : Int32, z = x32 := ⟨_, rfl⟩
        have d_y34 := rd_Is eS33 hy34
        have hT := tx_I eS33 hT
        have g0 := gr_I eS33 g0
        have o_v0 := ob_I eS33 o_v0
        intro _ _
        refine ⟨(Or.inl rfl), ?_⟩
        exact hq _ _ hI g0 f0 (Or.inl rfl) hT
  · refine u_X4_fail ?_
    refine u_X4_fail_0 ?_
    refine ⟨o_v0, ?_⟩
    intro S36 eS36
    have hI : IV S36 := by rw [eS36]; exact iv_sI hI o_v0 (by decide) (nu_free (by decide))
    have f0 := fr_I eS36 g0 f0 o_v0 (by decide)
    obtain ⟨y37, hy37⟩ : ∃ z : Int32, z = (1 : Int32) := ⟨_, rfl⟩
    have d_y37 := rd_Is eS36 hy37
    have hT := tx_I eS36 hT
    have g0 := gr_I eS36 g0
    have o_v0 := ob_I eS36 o_v0
    intro x38 ex38
    have d_x38 := ex38
    intro S39 eS39
    have hI : IV S39 := by rw [eS39]; exact iv_sI hI o_v0 (by decide) (nu_free (by decide))
    have f0 := fr_I eS39 g0 f0 o_v0 (by decide)
    have d_y37 := rd_Ij eS39 (by decide) d_y37
    have d_x38 := rd_Ij eS39 (by decide) d_x38
    obtain ⟨y40, hy40⟩ : ∃ z : Int32, z = x38 := ⟨_, rfl⟩
    have d_y40 := rd_Is eS39 hy40
    have hT := tx_I eS39 hT
    have g0 := gr_I eS39 g0
    have o_v0 := ob_I eS39 o_v0
    intro _ _
    refine ⟨(Or.inl rfl), ?_⟩
    exact hq _ _ hI g0 f0 (Or.inl rfl) hT
set_option maxHeartbeats 4000000 in
set_option maxRecDepth 20000 in
theorem m_X4_placeLine {v0 : Nat} {Q : Int32 → HS → Prop} {S : HS} (hI : IV S) (o_v0 : ob S v0 4)   (hrm : RM S v0 2 8) (hT : TX S v0) (hq : ∀ (r : Int32) (T : HS), IV T → Gr S T → FRI [(4, 0), (4, 1), (4, 4), (4, 6), (4, 7), (4, 9), (4, 10), (8, 2)] [] S T → bl r → (TX T v0) → Q r T) : P_X4_placeLine v0 Q S := by
  have g0 := gr_rf S
  have f0 := fri_rf [(4, 0), (4, 1), (4, 4), (4, 6), (4, 7), (4, 9), (4, 10), (8, 2)] [] S
  obtain ⟨a1, ea1, o_a1, -⟩ := sh 12 rfl hI o_v0
  obtain ⟨y2, d_y2⟩ : ∃ z : Int32, z = fI S a1 2 := ⟨_, rfl⟩
  have hr_y2 : y2 < (8 : Int32) := by rw [d_y2]; exact hrm _ ea1
  have r_y2 : (0 : Int32) ≤ y2 ∧ y2 ≤ (8 : Int32) := by rw [d_y2]; exact nu 12 rfl hI o_a1
  refine u_X4_placeLine ?_
  refine u_X4_placeLine_0 ?_
  refine ⟨o_v0, ?_⟩
  refine ⟨a1, ea1, ?_⟩
  refine ⟨o_a1, ?_⟩
  intro x4 ex4
  have r_x4 : (0 : Int32) ≤ x4 ∧ x4 ≤ (8 : Int32) := by rw [ex4]; exact nu 12 rfl hI o_a1
  have q_x4 : x4 = y2 := ex4.trans d_y2.symm
  have d_x4 := ex4
  refine m_X4_newName hI o_v0 hT (fun x5 S6 hJ g7 fc8 b_x5 p_x5 => ?_)
  have hT := p_x5
  have hI := hJ
  have d_x4 := d_x4.trans (fri_at fc8 (by decide) (by decide) o_a1).symm
  have ea1 := (frr_at fc8 (by decide) (by decide) o_v0).trans ea1
  have f0 := fri_tr (S := S) g0 f0 fc8 (by decide) (by decide)
  have o_a1 := gr_ob g7 o_a1
  have o_v0 := gr_ob g7 o_v0
  have g0 := gr_tr (T := S) g0 g7
  intro _ _
  have bb_x5 : x5 = 0 ∨ x5 = 1 := b_x5
  refine ⟨fun c9 => ?_, fun c9 => ?_⟩
  · refine m_X4_is hI o_v0 (by decide) hT (fun x10 S11 hI2 g12 b_x10 p_x10 => ?_)
    subst p_x10
    intro _ _
    have bb_x10 : x10 = 0 ∨ x10 = 1 := b_x10
    refine ⟨fun c14 => ?_, fun c14 => ?_⟩
    · refine m_X4_is hI o_v0 (by decide) hT (fun x15 S16 hI2 g17 b_x15 p_x15 => ?_)
      subst p_x15
      intro _ _
      have bb_x15 : x15 = 0 ∨ x15 = 1 := b_x15
      refine ⟨fun c19 => ?_, fun c19 => ?_⟩
      · refine u_X4_placeLine_64 ?_
        refine ⟨o_v0, ?_⟩
        refine ⟨a1, ea1, ?_⟩
        refine ⟨o_a1, ?_⟩
        obtain ⟨a21, ea21, o_a21, l_a21⟩ := shl 16 rfl hI o_a1
        refine ⟨a21, ea21, ?_⟩
        refine ⟨a1, ea1, ?_⟩
        refine ⟨o_a1, ?_⟩
        intro x23 ex23
        have r_x23 : (0 : Int32) ≤ x23 ∧ x23 ≤ (8 : Int32) := by rw [ex23]; exact nu 12 rfl hI o_a1
        have q_x23 : x23 = x4 := ex23.trans d_x4.symm
        have d_x23 := ex23
        refine ⟨o_a21, ?_⟩
        have i24 : vp_in x23 (hN _ a21) := (vin l_a21 (m := 8) (by decide) (q217 hr_y2 r_y2 r_x4 q_x4 bb_x5 c9 bb_x10 c14 bb_x15 c19 r_x23 q_x23))
        refine ⟨i24, ?_⟩
        intro S25 eS25
        have hI : IV S25 := by rw [eS25]; exact iv_aI hI o_a1 (by decide) ea21 o_a21 (by decide)
        have f0 := fr_A eS25 g0 f0 o_a21 (by decide)
        have d_x23 := rd_Ik eS25 o_a21 o_a1 (by decide) d_x23
        have ea1 := rf_I eS25 ea1
        have ea21 := rf_I eS25 ea21
        have hT := tx_I eS25 hT
        have l_a21 := ln_I eS25 l_a21
        have g0 := gr_I eS25 g0
        have o_a1 := ob_I eS25 o_a1
        have o_a21 := ob_I eS25 o_a21
        have o_v0 := ob_I eS25 o_v0
        refine ⟨a1, ea1, ?_⟩
        refine ⟨o_a1, ?_⟩
        intro x27 ex27
        have r_x27 : (0 : Int32) ≤ x27 ∧ x27 ≤ (8 : Int32) := by rw [ex27]; exact nu 12 rfl hI o_a1
        have q_x27 : x27 = x23 := ex27.trans d_x23.symm
        have d_x27 := ex27
        intro x28 ex28
        intro S29 eS29
        have hI : IV S29 := by rw [eS29]; exact iv_sI hI o_a1 (by decide) (nu_one (lo := (0 : Int32)) (hi := (8 : Int32)) (by decide) (q218 hr_y2 r_y2 r_x4 q_x4 bb_x5 c9 bb_x10 c14 bb_x15 c19 r_x23 q_x23 r_x27 q_x27 ex28))
        have f0 := fr_I eS29 g0 f0 o_a1 (by decide)
        have d_x28 := rd_Is eS29 (rfl : x28 = x28)
        have ea1 := rf_I eS29 ea1
        have ea21 := rf_I eS29 ea21
        have hT := tx_I eS29 hT
        have l_a21 := ln_I eS29 l_a21
        have g0 := gr_I eS29 g0
        have o_a1 := ob_I eS29 o_a1
        have o_a21 := ob_I eS29 o_a21
        have o_v0 := ob_I eS29 o_v0
        exact hq _ _ hI g0 f0 (Or.inr rfl) hT
      · refine m_X4_wordAndWhole hI o_v0 (by decide) hT (fun x30 S31 hJ g32 fc33 b_x30 p_x30 => ?_)
        obtain ⟨hT, pf9_S31⟩ := p_x30
        have hI := hJ
        have d_x4 := d_x4.trans (fri_at fc33 (by decide) (by decide) o_a1).symm
        have ea1 := (frr_at fc33 (by decide) (by decide) o_v0).trans ea1
        have f0 := fri_tr (S := S6) g0 f0 fc33 (by decide) (by decide)
        have o_a1 := gr_ob g32 o_a1
        have o_v0 := gr_ob g32 o_v0
        have g0 := gr_tr (T := S6) g0 g32
        obtain ⟨y34, d_y34⟩ : ∃ z : Int32, z = fI S31 v0 9 := ⟨_, rfl⟩
        have p_y34 : x30 = 1 → (0 : Int32) ≤ y34 ∧ y34 ≤ (9 : Int32) := by rw [d_y34]; exact pf9_S31
        intro _ _
        have bb_x30 : x30 = 0 ∨ x30 = 1 := b_x30
        refine ⟨fun c35 => ?_, fun c35 => ?_⟩
        · intro x36 ex36
          have q_x36 : x36 = y34 := ex36.trans d_y34.symm
          have d_x36 := ex36
          refine u_X4_placeLine_64 ?_
          refine ⟨o_v0, ?_⟩
          refine ⟨a1, ea1, ?_⟩
          refine ⟨o_a1, ?_⟩
          obtain ⟨a38, ea38, o_a38, l_a38⟩ := shl 16 rfl hI o_a1
          refine ⟨a38, ea38, ?_⟩
          refine ⟨a1, ea1, ?_⟩
          refine ⟨o_a1, ?_⟩
          intro x40 ex40
          have r_x40 : (0 : Int32) ≤ x40 ∧ x40 ≤ (8 : Int32) := by rw [ex40]; exact nu 12 rfl hI o_a1
          have q_x40 : x40 = x4 := ex40.trans d_x4.symm
          have d_x40 := ex40
          refine ⟨o_a38, ?_⟩
          have i41 : vp_in x40 (hN _ a38) := (vin l_a38 (m := 8) (by decide) (q219 hr_y2 r_y2 r_x4 q_x4 bb_x5 c9 bb_x10 c14 bb_x15 c19 p_y34 bb_x30 c35 q_x36 r_x40 q_x40))
          refine ⟨i41, ?_⟩
          intro S42 eS42
          have hI : IV S42 := by rw [eS42]; exact iv_aI hI o_a1 (by decide) ea38 o_a38 (by decide)
          have f0 := fr_A eS42 g0 f0 o_a38 (by decide)
          have d_x40 := rd_Ik eS42 o_a38 o_a1 (by decide) d_x40
          have d_x36 := rd_Ik eS42 o_a38 o_v0 (by decide) d_x36
          have ea1 := rf_I eS42 ea1
          have ea38 := rf_I eS42 ea38
          have hT := tx_I eS42 hT
          have l_a38 := ln_I eS42 l_a38
          have g0 := gr_I eS42 g0
          have o_a1 := ob_I eS42 o_a1
          have o_a38 := ob_I eS42 o_a38
          have o_v0 := ob_I eS42 o_v0
          refine ⟨a1, ea1, ?_⟩
          refine ⟨o_a1, ?_⟩
          intro x44 ex44
          have r_x44 : (0 : Int32) ≤ x44 ∧ x44 ≤ (8 : Int32) := by rw [ex44]; exact nu 12 rfl hI o_a1
          have q_x44 : x44 = x40 := ex44.trans d_x40.symm
          have d_x44 := ex44
          intro x45 ex45
          intro S46 eS46
          have hI : IV S46 := by rw [eS46]; exact iv_sI hI o_a1 (by decide) (nu_one (lo := (0 : Int32)) (hi := (8 : Int32)) (by decide) (q220 hr_y2 r_y2 r_x4 q_x4 bb_x5 c9 bb_x10 c14 bb_x15 c19 p_y34 bb_x30 c35 q_x36 r_x40 q_x40 r_x44 q_x44 ex45))
          have f0 := fr_I eS46 g0 f0 o_a1 (by decide)
          have d_x36 := rd_Ik eS46 o_a1 o_v0 (by decide) d_x36
          have d_x45 := rd_Is eS46 (rfl : x45 = x45)
          have ea1 := rf_I eS46 ea1
          have ea38 := rf_I eS46 ea38
          have hT := tx_I eS46 hT
          have l_a38 := ln_I eS46 l_a38
          have g0 := gr_I eS46 g0
          have o_a1 := ob_I eS46 o_a1
          have o_a38 := ob_I eS46 o_a38
          have o_v0 := ob_I eS46 o_v0
          exact hq _ _ hI g0 f0 (Or.inr rfl) hT
        · exact hq _ _ hI g0 f0 (Or.inl rfl) hT
    · refine m_X4_next hI o_v0 hT (fun S48 hJ g49 fc50 p_S48 => ?_)
      have hT := p_S48
      have hI := hJ
      have d_x4 := d_x4.trans (fri_at fc50 (by decide) (by decide) o_a1).symm
      have ea1 := (frr_at fc50 (by decide) (by decide) o_v0).trans ea1
      have f0 := fri_tr (S := S6) g0 f0 fc50 (by decide) (by decide)
      have o_a1 := gr_ob g49 o_a1
      have o_v0 := gr_ob g49 o_v0
      have g0 := gr_tr (T := S6) g0 g49
      intro _
      refine u_X4_placeLine_64 ?_
      refine ⟨o_v0, ?_⟩
      refine ⟨a1, ea1, ?_⟩
      refine ⟨o_a1, ?_⟩
      obtain ⟨a52, ea52, o_a52, l_a52⟩ := shl 16 rfl hI o_a1
      refine ⟨a52, ea52, ?_⟩
      refine ⟨a1, ea1, ?_⟩
      refine ⟨o_a1, ?_⟩
      intro x54 ex54
      have r_x54 : (0 : Int32) ≤ x54 ∧ x54 ≤ (8 : Int32) := by rw [ex54]; exact nu 12 rfl hI o_a1
      have q_x54 : x54 = x4 := ex54.trans d_x4.symm
      have d_x54 := ex54
      refine ⟨o_a52, ?_⟩
      have i55 : vp_in x54 (hN _ a52) := (vin l_a52 (m := 8) (by decide) (q221 hr_y2 r_y2 r_x4 q_x4 bb_x5 c9 bb_x10 c14 r_x54 q_x54))
      refine ⟨i55, ?_⟩
      intro S56 eS56
      have hI : IV S56 := by rw [eS56]; exact iv_aI hI o_a1 (by decide) ea52 o_a52 (by decide)
      have f0 := fr_A eS56 g0 f0 o_a52 (by decide)
      have d_x54 := rd_Ik eS56 o_a52 o_a1 (by decide) d_x54
      have ea1 := rf_I eS56 ea1
      have ea52 := rf_I eS56 ea52
      have hT := tx_I eS56 hT
      have l_a52 := ln_I eS56 l_a52
      have g0 := gr_I eS56 g0
      have o_a1 := ob_I eS56 o_a1
      have o_a52 := ob_I eS56 o_a52
      have o_v0 := ob_I eS56 o_v0
      refine ⟨a1, ea1, ?_⟩
      refine ⟨o_a1, ?_⟩
      intro x58 ex58
      have r_x58 : (0 : Int32) ≤ x58 ∧ x58 ≤ (8 : Int32) := by rw [ex58]; exact nu 12 rfl hI o_a1
      have q_x58 : x58 = x54 := ex58.trans d_x54.symm
      have d_x58 := ex58
      intro x59 ex59
      intro S60 eS60
      have hI : IV S60 := by rw [eS60]; exact iv_sI hI o_a1 (by decide) (nu_one (lo := (0 : Int32)) (hi := (8 : Int32)) (by decide) (q222 hr_y2 r_y2 r_x4 q_x4 bb_x5 c9 bb_x10 c14 r_x54 q_x54 r_x58 q_x58 ex59))
      have f0 := fr_I eS60 g0 f0 o_a1 (by decide)
      have d_x59 := rd_Is eS60 (rfl : x59 = x59)
      have ea1 := rf_I eS60 ea1
      have ea52 := rf_I eS60 ea52
      have hT := tx_I eS60 hT
      have l_a52 := ln_I eS60 l_a52
      have g0 := gr_I eS60 g0
      have o_a1 := ob_I eS60 o_a1
      have o_a52 := ob_I eS60 o_a52
      have o_v0 := ob_I eS60 o_v0
      exact hq _ _ hI g0 f0 (Or.inr rfl) hT
  · exact hq _ _ hI g0 f0 (Or.inl rfl) hT
